theorem dn_lt {x y n a b c : Int} {d : Nat} (m : y = x + n ∧ a ≤ x ∧ x ≤ b) (hd : (x + c).toNat < d + 1) (hn : n < 0) (ha : 0 < a + c) : (y + c).toNat < d := by omega
theorem dX7_hash_0 : decode cX7_hash 0 = .ok (.aload_n 0, 1) := by decide +kernel
theorem dX7_hash_1 : decode cX7_hash 1 = .ok (.iconst 0, 1) := by decide +kernel
theorem dX7_hash_2 : decode cX7_hash 2 = .ok (.putfield 50, 3) := by decide +kernel
theorem dX7_hash_5 : decode cX7_hash 5 = .ok (.aload_n 0, 1) := by decide +kernel
theorem dX7_hash_6 : decode cX7_hash 6 = .ok (.iload_n 1, 1) := by decide +kernel
theorem dX7_hash_7 : decode cX7_hash 7 = .ok (.iload_n 2, 1) := by decide +kernel
theorem dX7_hash_8 : decode cX7_hash 8 = .ok (.invokevirtual 106, 3) := by decide +kernel
theorem dX7_hash_11 : decode cX7_hash 11 = .ok (.ifCond .eq 50, 3) := by decide +kernel
theorem dX7_hash_14 : decode cX7_hash 14 = .ok (.iload_n 3, 1) := by decide +kernel
theorem dX7_hash_15 : decode cX7_hash 15 = .ok (.i2l, 1) := by decide +kernel
theorem dX7_hash_16 : decode cX7_hash 16 = .ok (.lconst 0, 1) := by decide +kernel
theorem dX7_hash_17 : decode cX7_hash 17 = .ok (.ldc2_w 134, 3) := by decide +kernel
theorem dX7_hash_20 : decode cX7_hash 20 = .ok (.invokestatic 71, 3) := by decide +kernel
theorem dX7_hash_23 : decode cX7_hash 23 = .ok (.ifCond .eq 38, 3) := by decide +kernel
theorem dX7_hash_26 : decode cX7_hash 26 = .ok (.aload_n 0, 1) := by decide +kernel
theorem dX7_hash_27 : decode cX7_hash 27 = .ok (.getfield 13, 3) := by decide +kernel
theorem dX7_hash_30 : decode cX7_hash 30 = .ok (.iload_n 1, 1) := by decide +kernel
theorem dX7_hash_31 : decode cX7_hash 31 = .ok (.iload_n 2, 1) := by decide +kernel
theorem dX7_hash_32 : decode cX7_hash 32 = .ok (.invokestatic 82, 3) := by decide +kernel
theorem dX7_hash_35 : decode cX7_hash 35 = .ok (.iload_n 3, 1) := by decide +kernel
theorem dX7_hash_36 : decode cX7_hash 36 = .ok (.ifCond .ne 8, 3) := by decide +kernel
theorem dX7_hash_39 : decode cX7_hash 39 = .ok (.bipush 28, 2) := by decide +kernel
theorem dX7_hash_41 : decode cX7_hash 41 = .ok (.goto 15, 3) := by decide +kernel
theorem dX7_hash_44 : decode cX7_hash 44 = .ok (.iload_n 3, 1) := by decide +kernel
theorem dX7_hash_45 : decode cX7_hash 45 = .ok (.iconst 1, 1) := by decide +kernel
theorem dX7_hash_46 : decode cX7_hash 46 = .ok (.if_icmp .ne 8, 3) := by decide +kernel
theorem dX7_hash_49 : decode cX7_hash 49 = .ok (.bipush 30, 2) := by decide +kernel
theorem dX7_hash_51 : decode cX7_hash 51 = .ok (.goto 5, 3) := by decide +kernel
theorem dX7_hash_54 : decode cX7_hash 54 = .ok (.bipush 44, 2) := by decide +kernel
theorem dX7_hash_56 : decode cX7_hash 56 = .ok (.iadd, 1) := by decide +kernel
theorem dX7_hash_57 : decode cX7_hash 57 = .ok (.iaload, 1) := by decide +kernel
theorem dX7_hash_58 : decode cX7_hash 58 = .ok (.goto 4, 3) := by decide +kernel
theorem dX7_hash_61 : decode cX7_hash 61 = .ok (.iconst 0, 1) := by decide +kernel
theorem dX7_hash_62 : decode cX7_hash 62 = .ok (.ireturn, 1) := by decide +kernel
theorem dX7_reserved_0 : decode cX7_reserved 0 = .ok (.aload_n 0, 1) := by decide +kernel
theorem dX7_reserved_1 : decode cX7_reserved 1 = .ok (.iconst 0, 1) := by decide +kernel
theorem dX7_reserved_2 : decode cX7_reserved 2 = .ok (.putfield 50, 3) := by decide +kernel
theorem dX7_reserved_5 : decode cX7_reserved 5 = .ok (.aload_n 0, 1) := by decide +kernel
theorem dX7_reserved_6 : decode cX7_reserved 6 = .ok (.iload_n 1, 1) := by decide +kernel
theorem dX7_reserved_7 : decode cX7_reserved 7 = .ok (.iload_n 2, 1) := by decide +kernel
theorem dX7_reserved_8 : decode cX7_reserved 8 = .ok (.invokevirtual 106, 3) := by decide +kernel
theorem dX7_reserved_11 : decode cX7_reserved 11 = .ok (.ifCond .eq 49, 3) := by decide +kernel
theorem dX7_reserved_14 : decode cX7_reserved 14 = .ok (.iload_n 3, 1) := by decide +kernel
theorem dX7_reserved_15 : decode cX7_reserved 15 = .ok (.i2l, 1) := by decide +kernel
theorem dX7_reserved_16 : decode cX7_reserved 16 = .ok (.lconst 0, 1) := by decide +kernel
theorem dX7_reserved_17 : decode cX7_reserved 17 = .ok (.ldc2_w 247, 3) := by decide +kernel
theorem dX7_reserved_20 : decode cX7_reserved 20 = .ok (.invokestatic 71, 3) := by decide +kernel
theorem dX7_reserved_23 : decode cX7_reserved 23 = .ok (.ifCond .eq 37, 3) := by decide +kernel
theorem dX7_reserved_26 : decode cX7_reserved 26 = .ok (.aload_n 0, 1) := by decide +kernel
theorem dX7_reserved_27 : decode cX7_reserved 27 = .ok (.getfield 13, 3) := by decide +kernel
theorem dX7_reserved_30 : decode cX7_reserved 30 = .ok (.iload_n 1, 1) := by decide +kernel
theorem dX7_reserved_31 : decode cX7_reserved 31 = .ok (.iload_n 2, 1) := by decide +kernel
theorem dX7_reserved_32 : decode cX7_reserved 32 = .ok (.invokestatic 82, 3) := by decide +kernel
theorem dX7_reserved_35 : decode cX7_reserved 35 = .ok (.bipush 31, 2) := by decide +kernel
theorem dX7_reserved_37 : decode cX7_reserved 37 = .ok (.iadd, 1) := by decide +kernel
theorem dX7_reserved_38 : decode cX7_reserved 38 = .ok (.iaload, 1) := by decide +kernel
theorem dX7_reserved_39 : decode cX7_reserved 39 = .ok (.ifCond .le 21, 3) := by decide +kernel
theorem dX7_reserved_42 : decode cX7_reserved 42 = .ok (.aload_n 0, 1) := by decide +kernel
theorem dX7_reserved_43 : decode cX7_reserved 43 = .ok (.getfield 13, 3) := by decide +kernel
theorem dX7_reserved_46 : decode cX7_reserved 46 = .ok (.iload_n 1, 1) := by decide +kernel
theorem dX7_reserved_47 : decode cX7_reserved 47 = .ok (.iload_n 2, 1) := by decide +kernel
theorem dX7_reserved_48 : decode cX7_reserved 48 = .ok (.invokestatic 82, 3) := by decide +kernel
theorem dX7_reserved_51 : decode cX7_reserved 51 = .ok (.bipush 31, 2) := by decide +kernel
theorem dX7_reserved_53 : decode cX7_reserved 53 = .ok (.iadd, 1) := by decide +kernel
theorem dX7_reserved_54 : decode cX7_reserved 54 = .ok (.iload_n 3, 1) := by decide +kernel
theorem dX7_reserved_55 : decode cX7_reserved 55 = .ok (.iadd, 1) := by decide +kernel
theorem dX7_reserved_56 : decode cX7_reserved 56 = .ok (.iaload, 1) := by decide +kernel
theorem dX7_reserved_57 : decode cX7_reserved 57 = .ok (.goto 4, 3) := by decide +kernel
theorem dX7_reserved_60 : decode cX7_reserved 60 = .ok (.iconst (-1), 1) := by decide +kernel
theorem dX7_reserved_61 : decode cX7_reserved 61 = .ok (.ireturn, 1) := by decide +kernel
theorem dX7_isThere_0 : decode cX7_isThere 0 = .ok (.aload_n 0, 1) := by decide +kernel
theorem dX7_isThere_1 : decode cX7_isThere 1 = .ok (.iconst 0, 1) := by decide +kernel
theorem dX7_isThere_2 : decode cX7_isThere 2 = .ok (.putfield 50, 3) := by decide +kernel
theorem dX7_isThere_5 : decode cX7_isThere 5 = .ok (.aload_n 0, 1) := by decide +kernel
theorem dX7_isThere_6 : decode cX7_isThere 6 = .ok (.iload_n 1, 1) := by decide +kernel
theorem dX7_isThere_7 : decode cX7_isThere 7 = .ok (.invokevirtual 124, 3) := by decide +kernel
theorem dX7_isThere_10 : decode cX7_isThere 10 = .ok (.ifCond .eq 43, 3) := by decide +kernel
theorem dX7_isThere_13 : decode cX7_isThere 13 = .ok (.iload_n 2, 1) := by decide +kernel
theorem dX7_isThere_14 : decode cX7_isThere 14 = .ok (.i2l, 1) := by decide +kernel
theorem dX7_isThere_15 : decode cX7_isThere 15 = .ok (.lconst 0, 1) := by decide +kernel
theorem dX7_isThere_16 : decode cX7_isThere 16 = .ok (.lconst 1, 1) := by decide +kernel
theorem dX7_isThere_17 : decode cX7_isThere 17 = .ok (.invokestatic 71, 3) := by decide +kernel
theorem dX7_isThere_20 : decode cX7_isThere 20 = .ok (.ifCond .eq 33, 3) := by decide +kernel
theorem dX7_isThere_23 : decode cX7_isThere 23 = .ok (.iload_n 3, 1) := by decide +kernel
theorem dX7_isThere_24 : decode cX7_isThere 24 = .ok (.i2l, 1) := by decide +kernel
theorem dX7_isThere_25 : decode cX7_isThere 25 = .ok (.lconst 0, 1) := by decide +kernel
theorem dX7_isThere_26 : decode cX7_isThere 26 = .ok (.ldc2_w 109, 3) := by decide +kernel
theorem dX7_isThere_29 : decode cX7_isThere 29 = .ok (.invokestatic 71, 3) := by decide +kernel
theorem dX7_isThere_32 : decode cX7_isThere 32 = .ok (.ifCond .eq 21, 3) := by decide +kernel
theorem dX7_isThere_35 : decode cX7_isThere 35 = .ok (.aload_n 0, 1) := by decide +kernel
theorem dX7_isThere_36 : decode cX7_isThere 36 = .ok (.iload_n 2, 1) := by decide +kernel
theorem dX7_isThere_37 : decode cX7_isThere 37 = .ok (.iload_n 1, 1) := by decide +kernel
theorem dX7_isThere_38 : decode cX7_isThere 38 = .ok (.iload_n 3, 1) := by decide +kernel
theorem dX7_isThere_39 : decode cX7_isThere 39 = .ok (.invokevirtual 176, 3) := by decide +kernel
theorem dX7_isThere_42 : decode cX7_isThere 42 = .ok (.ifCond .eq 7, 3) := by decide +kernel
theorem dX7_isThere_45 : decode cX7_isThere 45 = .ok (.iconst 1, 1) := by decide +kernel
theorem dX7_isThere_46 : decode cX7_isThere 46 = .ok (.goto 8, 3) := by decide +kernel
theorem dX7_isThere_49 : decode cX7_isThere 49 = .ok (.iconst 0, 1) := by decide +kernel
theorem dX7_isThere_50 : decode cX7_isThere 50 = .ok (.goto 4, 3) := by decide +kernel
theorem dX7_isThere_53 : decode cX7_isThere 53 = .ok (.iconst (-1), 1) := by decide +kernel
theorem dX7_isThere_54 : decode cX7_isThere 54 = .ok (.ireturn, 1) := by decide +kernel
theorem dX7_clashes_0 : decode cX7_clashes 0 = .ok (.aload_n 0, 1) := by decide +kernel
theorem dX7_clashes_1 : decode cX7_clashes 1 = .ok (.iconst 0, 1) := by decide +kernel
theorem dX7_clashes_2 : decode cX7_clashes 2 = .ok (.putfield 50, 3) := by decide +kernel
theorem dX7_clashes_5 : decode cX7_clashes 5 = .ok (.aload_n 0, 1) := by decide +kernel
theorem dX7_clashes_6 : decode cX7_clashes 6 = .ok (.iload_n 1, 1) := by decide +kernel
theorem dX7_clashes_7 : decode cX7_clashes 7 = .ok (.invokevirtual 257, 3) := by decide +kernel
theorem dX7_clashes_10 : decode cX7_clashes 10 = .ok (.ifCond .eq 11, 3) := by decide +kernel
theorem dX7_clashes_13 : decode cX7_clashes 13 = .ok (.aload_n 0, 1) := by decide +kernel
theorem dX7_clashes_14 : decode cX7_clashes 14 = .ok (.iload_n 1, 1) := by decide +kernel
theorem dX7_clashes_15 : decode cX7_clashes 15 = .ok (.invokevirtual 260, 3) := by decide +kernel
theorem dX7_clashes_18 : decode cX7_clashes 18 = .ok (.goto 4, 3) := by decide +kernel
theorem dX7_clashes_21 : decode cX7_clashes 21 = .ok (.iconst (-1), 1) := by decide +kernel
theorem dX7_clashes_22 : decode cX7_clashes 22 = .ok (.ireturn, 1) := by decide +kernel
theorem dX7_bestOffset_0 : decode cX7_bestOffset 0 = .ok (.aload_n 0, 1) := by decide +kernel
theorem dX7_bestOffset_1 : decode cX7_bestOffset 1 = .ok (.iconst 0, 1) := by decide +kernel
theorem dX7_bestOffset_2 : decode cX7_bestOffset 2 = .ok (.putfield 50, 3) := by decide +kernel
theorem dX7_bestOffset_5 : decode cX7_bestOffset 5 = .ok (.aload_n 0, 1) := by decide +kernel
theorem dX7_bestOffset_6 : decode cX7_bestOffset 6 = .ok (.iload_n 1, 1) := by decide +kernel
theorem dX7_bestOffset_7 : decode cX7_bestOffset 7 = .ok (.invokevirtual 257, 3) := by decide +kernel
theorem dX7_bestOffset_10 : decode cX7_bestOffset 10 = .ok (.ifCond .ne 5, 3) := by decide +kernel
theorem dX7_bestOffset_13 : decode cX7_bestOffset 13 = .ok (.iconst (-1), 1) := by decide +kernel
theorem dX7_bestOffset_14 : decode cX7_bestOffset 14 = .ok (.ireturn, 1) := by decide +kernel
theorem dX7_bestOffset_15 : decode cX7_bestOffset 15 = .ok (.iconst 1, 1) := by decide +kernel
theorem dX7_bestOffset_16 : decode cX7_bestOffset 16 = .ok (.invokestatic 75, 3) := by decide +kernel
theorem dX7_bestOffset_19 : decode cX7_bestOffset 19 = .ok (.iconst 1, 1) := by decide +kernel
theorem dX7_bestOffset_20 : decode cX7_bestOffset 20 = .ok (.iadd, 1) := by decide +kernel
theorem dX7_bestOffset_21 : decode cX7_bestOffset 21 = .ok (.istore_n 2, 1) := by decide +kernel
theorem dX7_bestOffset_22 : decode cX7_bestOffset 22 = .ok (.aload_n 0, 1) := by decide +kernel
theorem dX7_bestOffset_23 : decode cX7_bestOffset 23 = .ok (.getfield 13, 3) := by decide +kernel
theorem dX7_bestOffset_26 : decode cX7_bestOffset 26 = .ok (.iload_n 2, 1) := by decide +kernel
theorem dX7_bestOffset_27 : decode cX7_bestOffset 27 = .ok (.iaload, 1) := by decide +kernel
theorem dX7_bestOffset_28 : decode cX7_bestOffset 28 = .ok (.istore_n 3, 1) := by decide +kernel
theorem dX7_bestOffset_29 : decode cX7_bestOffset 29 = .ok (.iconst 0, 1) := by decide +kernel
theorem dX7_bestOffset_30 : decode cX7_bestOffset 30 = .ok (.istore 4, 2) := by decide +kernel
theorem dX7_bestOffset_32 : decode cX7_bestOffset 32 = .ok (.iload_n 1, 1) := by decide +kernel
theorem dX7_bestOffset_33 : decode cX7_bestOffset 33 = .ok (.iconst 1, 1) := by decide +kernel
theorem dX7_bestOffset_34 : decode cX7_bestOffset 34 = .ok (.iadd, 1) := by decide +kernel
theorem dX7_bestOffset_35 : decode cX7_bestOffset 35 = .ok (.istore 5, 2) := by decide +kernel
theorem dX7_bestOffset_37 : decode cX7_bestOffset 37 = .ok (.iconst 0, 1) := by decide +kernel
theorem dX7_bestOffset_38 : decode cX7_bestOffset 38 = .ok (.istore 6, 2) := by decide +kernel
theorem dX7_bestOffset_40 : decode cX7_bestOffset 40 = .ok (.iload 6, 2) := by decide +kernel
theorem dX7_bestOffset_42 : decode cX7_bestOffset 42 = .ok (.bipush 64, 2) := by decide +kernel
theorem dX7_bestOffset_44 : decode cX7_bestOffset 44 = .ok (.if_icmp .ge 56, 3) := by decide +kernel
theorem dX7_bestOffset_47 : decode cX7_bestOffset 47 = .ok (.aload_n 0, 1) := by decide +kernel
theorem dX7_bestOffset_48 : decode cX7_bestOffset 48 = .ok (.getfield 13, 3) := by decide +kernel
theorem dX7_bestOffset_51 : decode cX7_bestOffset 51 = .ok (.iload_n 2, 1) := by decide +kernel
theorem dX7_bestOffset_52 : decode cX7_bestOffset 52 = .ok (.iload 6, 2) := by decide +kernel
theorem dX7_bestOffset_54 : decode cX7_bestOffset 54 = .ok (.iastore, 1) := by decide +kernel
theorem dX7_bestOffset_55 : decode cX7_bestOffset 55 = .ok (.aload_n 0, 1) := by decide +kernel
theorem dX7_bestOffset_56 : decode cX7_bestOffset 56 = .ok (.iload_n 1, 1) := by decide +kernel
theorem dX7_bestOffset_57 : decode cX7_bestOffset 57 = .ok (.invokevirtual 260, 3) := by decide +kernel
theorem dX7_bestOffset_60 : decode cX7_bestOffset 60 = .ok (.istore 7, 2) := by decide +kernel
theorem dX7_bestOffset_62 : decode cX7_bestOffset 62 = .ok (.iload 7, 2) := by decide +kernel
theorem dX7_bestOffset_64 : decode cX7_bestOffset 64 = .ok (.iload 5, 2) := by decide +kernel
theorem dX7_bestOffset_66 : decode cX7_bestOffset 66 = .ok (.if_icmp .ge 8, 3) := by decide +kernel
theorem dX7_bestOffset_69 : decode cX7_bestOffset 69 = .ok (.iload 6, 2) := by decide +kernel
theorem dX7_bestOffset_71 : decode cX7_bestOffset 71 = .ok (.goto 5, 3) := by decide +kernel
theorem dX7_bestOffset_74 : decode cX7_bestOffset 74 = .ok (.iload 4, 2) := by decide +kernel
theorem dX7_bestOffset_76 : decode cX7_bestOffset 76 = .ok (.istore 4, 2) := by decide +kernel
theorem dX7_bestOffset_78 : decode cX7_bestOffset 78 = .ok (.iload 7, 2) := by decide +kernel
theorem dX7_bestOffset_80 : decode cX7_bestOffset 80 = .ok (.iload 5, 2) := by decide +kernel
theorem dX7_bestOffset_82 : decode cX7_bestOffset 82 = .ok (.if_icmp .ge 8, 3) := by decide +kernel
theorem dX7_bestOffset_85 : decode cX7_bestOffset 85 = .ok (.iload 7, 2) := by decide +kernel
theorem dX7_bestOffset_87 : decode cX7_bestOffset 87 = .ok (.goto 5, 3) := by decide +kernel
theorem dX7_bestOffset_90 : decode cX7_bestOffset 90 = .ok (.iload 5, 2) := by decide +kernel
theorem dX7_bestOffset_92 : decode cX7_bestOffset 92 = .ok (.istore 5, 2) := by decide +kernel
theorem dX7_bestOffset_94 : decode cX7_bestOffset 94 = .ok (.iinc 6 1, 3) := by decide +kernel
theorem dX7_bestOffset_97 : decode cX7_bestOffset 97 = .ok (.goto (-57), 3) := by decide +kernel
theorem dX7_bestOffset_100 : decode cX7_bestOffset 100 = .ok (.aload_n 0, 1) := by decide +kernel
theorem dX7_bestOffset_101 : decode cX7_bestOffset 101 = .ok (.getfield 13, 3) := by decide +kernel
theorem dX7_bestOffset_104 : decode cX7_bestOffset 104 = .ok (.iload_n 2, 1) := by decide +kernel
theorem dX7_bestOffset_105 : decode cX7_bestOffset 105 = .ok (.iload_n 3, 1) := by decide +kernel
theorem dX7_bestOffset_106 : decode cX7_bestOffset 106 = .ok (.iastore, 1) := by decide +kernel
theorem dX7_bestOffset_107 : decode cX7_bestOffset 107 = .ok (.iload 4, 2) := by decide +kernel
theorem dX7_bestOffset_109 : decode cX7_bestOffset 109 = .ok (.ireturn, 1) := by decide +kernel
theorem dX7_ready_0 : decode cX7_ready 0 = .ok (.aload_n 0, 1) := by decide +kernel
theorem dX7_ready_1 : decode cX7_ready 1 = .ok (.iconst 0, 1) := by decide +kernel
theorem dX7_ready_2 : decode cX7_ready 2 = .ok (.putfield 50, 3) := by decide +kernel
theorem dX7_ready_5 : decode cX7_ready 5 = .ok (.aload_n 0, 1) := by decide +kernel
theorem dX7_ready_6 : decode cX7_ready 6 = .ok (.iload_n 1, 1) := by decide +kernel
theorem dX7_ready_7 : decode cX7_ready 7 = .ok (.iload_n 2, 1) := by decide +kernel
theorem dX7_ready_8 : decode cX7_ready 8 = .ok (.invokevirtual 106, 3) := by decide +kernel
theorem dX7_ready_11 : decode cX7_ready 11 = .ok (.ifCond .ne 5, 3) := by decide +kernel
theorem dX7_ready_14 : decode cX7_ready 14 = .ok (.iconst (-1), 1) := by decide +kernel
theorem dX7_ready_15 : decode cX7_ready 15 = .ok (.ireturn, 1) := by decide +kernel
theorem dX7_ready_16 : decode cX7_ready 16 = .ok (.iconst (-1), 1) := by decide +kernel
theorem dX7_ready_17 : decode cX7_ready 17 = .ok (.istore_n 3, 1) := by decide +kernel
theorem dX7_ready_18 : decode cX7_ready 18 = .ok (.aload_n 0, 1) := by decide +kernel
theorem dX7_ready_19 : decode cX7_ready 19 = .ok (.getfield 13, 3) := by decide +kernel
theorem dX7_ready_22 : decode cX7_ready 22 = .ok (.bipush 7, 2) := by decide +kernel
theorem dX7_ready_24 : decode cX7_ready 24 = .ok (.iaload, 1) := by decide +kernel
theorem dX7_ready_25 : decode cX7_ready 25 = .ok (.sipush 198, 3) := by decide +kernel
theorem dX7_ready_28 : decode cX7_ready 28 = .ok (.iadd, 1) := by decide +kernel
theorem dX7_ready_29 : decode cX7_ready 29 = .ok (.istore 4, 2) := by decide +kernel
theorem dX7_ready_31 : decode cX7_ready 31 = .ok (.iload 4, 2) := by decide +kernel
theorem dX7_ready_33 : decode cX7_ready 33 = .ok (.aload_n 0, 1) := by decide +kernel
theorem dX7_ready_34 : decode cX7_ready 34 = .ok (.getfield 13, 3) := by decide +kernel
theorem dX7_ready_37 : decode cX7_ready 37 = .ok (.bipush 7, 2) := by decide +kernel
theorem dX7_ready_39 : decode cX7_ready 39 = .ok (.iaload, 1) := by decide +kernel
theorem dX7_ready_40 : decode cX7_ready 40 = .ok (.if_icmp .lt 27, 3) := by decide +kernel
theorem dX7_ready_43 : decode cX7_ready 43 = .ok (.aload_n 0, 1) := by decide +kernel
theorem dX7_ready_44 : decode cX7_ready 44 = .ok (.iload_n 1, 1) := by decide +kernel
theorem dX7_ready_45 : decode cX7_ready 45 = .ok (.iload_n 2, 1) := by decide +kernel
theorem dX7_ready_46 : decode cX7_ready 46 = .ok (.iload 4, 2) := by decide +kernel
theorem dX7_ready_48 : decode cX7_ready 48 = .ok (.invokevirtual 179, 3) := by decide +kernel
theorem dX7_ready_51 : decode cX7_ready 51 = .ok (.ifCond .eq 8, 3) := by decide +kernel
theorem dX7_ready_54 : decode cX7_ready 54 = .ok (.iload 4, 2) := by decide +kernel
theorem dX7_ready_56 : decode cX7_ready 56 = .ok (.goto 4, 3) := by decide +kernel
theorem dX7_ready_59 : decode cX7_ready 59 = .ok (.iload_n 3, 1) := by decide +kernel
theorem dX7_ready_60 : decode cX7_ready 60 = .ok (.istore_n 3, 1) := by decide +kernel
theorem dX7_ready_61 : decode cX7_ready 61 = .ok (.iinc 4 (-2), 3) := by decide +kernel
theorem dX7_ready_64 : decode cX7_ready 64 = .ok (.goto (-33), 3) := by decide +kernel
theorem dX7_ready_67 : decode cX7_ready 67 = .ok (.iload_n 3, 1) := by decide +kernel
theorem dX7_ready_68 : decode cX7_ready 68 = .ok (.ireturn, 1) := by decide +kernel
theorem dX7_bothReady_0 : decode cX7_bothReady 0 = .ok (.aload_n 0, 1) := by decide +kernel
theorem dX7_bothReady_1 : decode cX7_bothReady 1 = .ok (.iconst 0, 1) := by decide +kernel
theorem dX7_bothReady_2 : decode cX7_bothReady 2 = .ok (.putfield 50, 3) := by decide +kernel
theorem dX7_bothReady_5 : decode cX7_bothReady 5 = .ok (.aload_n 0, 1) := by decide +kernel
theorem dX7_bothReady_6 : decode cX7_bothReady 6 = .ok (.iload_n 1, 1) := by decide +kernel
theorem dX7_bothReady_7 : decode cX7_bothReady 7 = .ok (.iload_n 2, 1) := by decide +kernel
theorem dX7_bothReady_8 : decode cX7_bothReady 8 = .ok (.invokevirtual 106, 3) := by decide +kernel
theorem dX7_bothReady_11 : decode cX7_bothReady 11 = .ok (.ifCond .eq 25, 3) := by decide +kernel
theorem dX7_bothReady_14 : decode cX7_bothReady 14 = .ok (.aload_n 0, 1) := by decide +kernel
theorem dX7_bothReady_15 : decode cX7_bothReady 15 = .ok (.iload_n 1, 1) := by decide +kernel
theorem dX7_bothReady_16 : decode cX7_bothReady 16 = .ok (.iload_n 3, 1) := by decide +kernel
theorem dX7_bothReady_17 : decode cX7_bothReady 17 = .ok (.invokevirtual 106, 3) := by decide +kernel
theorem dX7_bothReady_20 : decode cX7_bothReady 20 = .ok (.ifCond .eq 16, 3) := by decide +kernel
theorem dX7_bothReady_23 : decode cX7_bothReady 23 = .ok (.iload 4, 2) := by decide +kernel
theorem dX7_bothReady_25 : decode cX7_bothReady 25 = .ok (.i2l, 1) := by decide +kernel
theorem dX7_bothReady_26 : decode cX7_bothReady 26 = .ok (.lconst 1, 1) := by decide +kernel
theorem dX7_bothReady_27 : decode cX7_bothReady 27 = .ok (.ldc2_w 239, 3) := by decide +kernel
theorem dX7_bothReady_30 : decode cX7_bothReady 30 = .ok (.invokestatic 71, 3) := by decide +kernel
theorem dX7_bothReady_33 : decode cX7_bothReady 33 = .ok (.ifCond .ne 5, 3) := by decide +kernel
theorem dX7_bothReady_36 : decode cX7_bothReady 36 = .ok (.iconst (-1), 1) := by decide +kernel
theorem dX7_bothReady_37 : decode cX7_bothReady 37 = .ok (.ireturn, 1) := by decide +kernel
theorem dX7_bothReady_38 : decode cX7_bothReady 38 = .ok (.iconst 0, 1) := by decide +kernel
theorem dX7_bothReady_39 : decode cX7_bothReady 39 = .ok (.istore 5, 2) := by decide +kernel
theorem dX7_bothReady_41 : decode cX7_bothReady 41 = .ok (.iconst 0, 1) := by decide +kernel
theorem dX7_bothReady_42 : decode cX7_bothReady 42 = .ok (.istore 6, 2) := by decide +kernel
theorem dX7_bothReady_44 : decode cX7_bothReady 44 = .ok (.iload 6, 2) := by decide +kernel
theorem dX7_bothReady_46 : decode cX7_bothReady 46 = .ok (.iload 4, 2) := by decide +kernel
theorem dX7_bothReady_48 : decode cX7_bothReady 48 = .ok (.if_icmp .ge 55, 3) := by decide +kernel
theorem dX7_bothReady_51 : decode cX7_bothReady 51 = .ok (.aload_n 0, 1) := by decide +kernel
theorem dX7_bothReady_52 : decode cX7_bothReady 52 = .ok (.getfield 13, 3) := by decide +kernel
theorem dX7_bothReady_55 : decode cX7_bothReady 55 = .ok (.bipush 7, 2) := by decide +kernel
theorem dX7_bothReady_57 : decode cX7_bothReady 57 = .ok (.iaload, 1) := by decide +kernel
theorem dX7_bothReady_58 : decode cX7_bothReady 58 = .ok (.iconst 2, 1) := by decide +kernel
theorem dX7_bothReady_59 : decode cX7_bothReady 59 = .ok (.iload 6, 2) := by decide +kernel
theorem dX7_bothReady_61 : decode cX7_bothReady 61 = .ok (.imul, 1) := by decide +kernel
theorem dX7_bothReady_62 : decode cX7_bothReady 62 = .ok (.iadd, 1) := by decide +kernel
theorem dX7_bothReady_63 : decode cX7_bothReady 63 = .ok (.istore 7, 2) := by decide +kernel
theorem dX7_bothReady_65 : decode cX7_bothReady 65 = .ok (.iload 5, 2) := by decide +kernel
theorem dX7_bothReady_67 : decode cX7_bothReady 67 = .ok (.aload_n 0, 1) := by decide +kernel
theorem dX7_bothReady_68 : decode cX7_bothReady 68 = .ok (.iload_n 1, 1) := by decide +kernel
theorem dX7_bothReady_69 : decode cX7_bothReady 69 = .ok (.iload_n 2, 1) := by decide +kernel
theorem dX7_bothReady_70 : decode cX7_bothReady 70 = .ok (.iload 7, 2) := by decide +kernel
theorem dX7_bothReady_72 : decode cX7_bothReady 72 = .ok (.invokevirtual 179, 3) := by decide +kernel
theorem dX7_bothReady_75 : decode cX7_bothReady 75 = .ok (.ifCond .eq 18, 3) := by decide +kernel
theorem dX7_bothReady_78 : decode cX7_bothReady 78 = .ok (.aload_n 0, 1) := by decide +kernel
theorem dX7_bothReady_79 : decode cX7_bothReady 79 = .ok (.iload_n 1, 1) := by decide +kernel
theorem dX7_bothReady_80 : decode cX7_bothReady 80 = .ok (.iload_n 3, 1) := by decide +kernel
theorem dX7_bothReady_81 : decode cX7_bothReady 81 = .ok (.iload 7, 2) := by decide +kernel
theorem dX7_bothReady_83 : decode cX7_bothReady 83 = .ok (.invokevirtual 179, 3) := by decide +kernel
theorem dX7_bothReady_86 : decode cX7_bothReady 86 = .ok (.ifCond .eq 7, 3) := by decide +kernel
theorem dX7_bothReady_89 : decode cX7_bothReady 89 = .ok (.iconst 1, 1) := by decide +kernel
theorem dX7_bothReady_90 : decode cX7_bothReady 90 = .ok (.goto 4, 3) := by decide +kernel
theorem dX7_bothReady_93 : decode cX7_bothReady 93 = .ok (.iconst 0, 1) := by decide +kernel
theorem dX7_bothReady_94 : decode cX7_bothReady 94 = .ok (.iadd, 1) := by decide +kernel
theorem dX7_bothReady_95 : decode cX7_bothReady 95 = .ok (.istore 5, 2) := by decide +kernel
theorem dX7_bothReady_97 : decode cX7_bothReady 97 = .ok (.iinc 6 1, 3) := by decide +kernel
theorem dX7_bothReady_100 : decode cX7_bothReady 100 = .ok (.goto (-56), 3) := by decide +kernel
theorem dX7_bothReady_103 : decode cX7_bothReady 103 = .ok (.iload 5, 2) := by decide +kernel
theorem dX7_bothReady_105 : decode cX7_bothReady 105 = .ok (.ireturn, 1) := by decide +kernel
theorem dX7_together_0 : decode cX7_together 0 = .ok (.aload_n 0, 1) := by decide +kernel
theorem dX7_together_1 : decode cX7_together 1 = .ok (.iconst 0, 1) := by decide +kernel
theorem dX7_together_2 : decode cX7_together 2 = .ok (.putfield 50, 3) := by decide +kernel
theorem dX7_together_5 : decode cX7_together 5 = .ok (.aload_n 0, 1) := by decide +kernel
theorem dX7_together_6 : decode cX7_together 6 = .ok (.iload_n 1, 1) := by decide +kernel
theorem dX7_together_7 : decode cX7_together 7 = .ok (.iload_n 2, 1) := by decide +kernel
theorem dX7_together_8 : decode cX7_together 8 = .ok (.invokevirtual 106, 3) := by decide +kernel
theorem dX7_together_11 : decode cX7_together 11 = .ok (.ifCond .eq 17, 3) := by decide +kernel
theorem dX7_together_14 : decode cX7_together 14 = .ok (.aload_n 0, 1) := by decide +kernel
theorem dX7_together_15 : decode cX7_together 15 = .ok (.iload_n 1, 1) := by decide +kernel
theorem dX7_together_16 : decode cX7_together 16 = .ok (.iload_n 3, 1) := by decide +kernel
theorem dX7_together_17 : decode cX7_together 17 = .ok (.invokevirtual 106, 3) := by decide +kernel
theorem dX7_together_20 : decode cX7_together 20 = .ok (.ifCond .eq 8, 3) := by decide +kernel
theorem dX7_together_23 : decode cX7_together 23 = .ok (.iload_n 2, 1) := by decide +kernel
theorem dX7_together_24 : decode cX7_together 24 = .ok (.iload_n 3, 1) := by decide +kernel
theorem dX7_together_25 : decode cX7_together 25 = .ok (.if_icmp .ne 5, 3) := by decide +kernel
theorem dX7_together_28 : decode cX7_together 28 = .ok (.iconst (-1), 1) := by decide +kernel
theorem dX7_together_29 : decode cX7_together 29 = .ok (.ireturn, 1) := by decide +kernel
theorem dX7_together_30 : decode cX7_together 30 = .ok (.iconst (-1), 1) := by decide +kernel
theorem dX7_together_31 : decode cX7_together 31 = .ok (.istore 4, 2) := by decide +kernel
theorem dX7_together_33 : decode cX7_together 33 = .ok (.aload_n 0, 1) := by decide +kernel
theorem dX7_together_34 : decode cX7_together 34 = .ok (.getfield 13, 3) := by decide +kernel
theorem dX7_together_37 : decode cX7_together 37 = .ok (.bipush 7, 2) := by decide +kernel
theorem dX7_together_39 : decode cX7_together 39 = .ok (.iaload, 1) := by decide +kernel
theorem dX7_together_40 : decode cX7_together 40 = .ok (.sipush 1998, 3) := by decide +kernel
theorem dX7_together_43 : decode cX7_together 43 = .ok (.iadd, 1) := by decide +kernel
theorem dX7_together_44 : decode cX7_together 44 = .ok (.istore 5, 2) := by decide +kernel
theorem dX7_together_46 : decode cX7_together 46 = .ok (.iload 5, 2) := by decide +kernel
theorem dX7_together_48 : decode cX7_together 48 = .ok (.aload_n 0, 1) := by decide +kernel
theorem dX7_together_49 : decode cX7_together 49 = .ok (.getfield 13, 3) := by decide +kernel
theorem dX7_together_52 : decode cX7_together 52 = .ok (.bipush 7, 2) := by decide +kernel
theorem dX7_together_54 : decode cX7_together 54 = .ok (.iaload, 1) := by decide +kernel
theorem dX7_together_55 : decode cX7_together 55 = .ok (.if_icmp .lt 46, 3) := by decide +kernel
theorem dX7_together_58 : decode cX7_together 58 = .ok (.aload_n 0, 1) := by decide +kernel
theorem dX7_together_59 : decode cX7_together 59 = .ok (.iload_n 1, 1) := by decide +kernel
theorem dX7_together_60 : decode cX7_together 60 = .ok (.iload_n 2, 1) := by decide +kernel
theorem dX7_together_61 : decode cX7_together 61 = .ok (.invokestatic 82, 3) := by decide +kernel
theorem dX7_together_64 : decode cX7_together 64 = .ok (.iload 5, 2) := by decide +kernel
theorem dX7_together_66 : decode cX7_together 66 = .ok (.invokevirtual 266, 3) := by decide +kernel
theorem dX7_together_69 : decode cX7_together 69 = .ok (.ifCond .eq 22, 3) := by decide +kernel
theorem dX7_together_72 : decode cX7_together 72 = .ok (.aload_n 0, 1) := by decide +kernel
theorem dX7_together_73 : decode cX7_together 73 = .ok (.iload_n 1, 1) := by decide +kernel
theorem dX7_together_74 : decode cX7_together 74 = .ok (.iload_n 3, 1) := by decide +kernel
theorem dX7_together_75 : decode cX7_together 75 = .ok (.invokestatic 82, 3) := by decide +kernel
theorem dX7_together_78 : decode cX7_together 78 = .ok (.iload 5, 2) := by decide +kernel
theorem dX7_together_80 : decode cX7_together 80 = .ok (.invokevirtual 266, 3) := by decide +kernel
theorem dX7_together_83 : decode cX7_together 83 = .ok (.ifCond .eq 8, 3) := by decide +kernel
theorem dX7_together_86 : decode cX7_together 86 = .ok (.iload 5, 2) := by decide +kernel
theorem dX7_together_88 : decode cX7_together 88 = .ok (.goto 5, 3) := by decide +kernel
theorem dX7_together_91 : decode cX7_together 91 = .ok (.iload 4, 2) := by decide +kernel
theorem dX7_together_93 : decode cX7_together 93 = .ok (.istore 4, 2) := by decide +kernel
theorem dX7_together_95 : decode cX7_together 95 = .ok (.iinc 5 (-2), 3) := by decide +kernel
theorem dX7_together_98 : decode cX7_together 98 = .ok (.goto (-52), 3) := by decide +kernel
theorem dX7_together_101 : decode cX7_together 101 = .ok (.iload 4, 2) := by decide +kernel
theorem dX7_together_103 : decode cX7_together 103 = .ok (.ireturn, 1) := by decide +kernel
set_option maxHeartbeats 4000000 in
set_option maxRecDepth 100000 in
theorem d_X7_hash (l : Launch) (E : hE) (ρ r : Nat → Nat → Int32) (Bt : Nat) (hBt : Bt ≤ 1000000) (M : Nat → Int32) (L : Nat → Nat) (X : Nat × Nat → Prop) (a1 : Int32) (a2 : Int32) (a3 : Int32) (hI : RI r Bt M L X ρ) : Met l yX7_hash (.code yX7_hash cX7_hash 4 (some .int) :: gw_all) (rmk 4 160) (cPre E ρ [.ref (E.2.1 + 1076), .int a1, .int a2, .int a3]) (cI E (fun v ρ1 => RI r Bt M L X ρ1)) 0 0 (hA E) := by
  refine ent (own := RX7) (by decide) rfl (Nat.le_of_ble_eq_true rfl) ?_
  intro p e s m below meth c ls B hr hlk hl hP hS
  have hx := B.1.1
  have hb := B.1.2.1
  have hown := B.1.2.2.2.1
  have hts := B.1.2.2.2.2
  have hl : lv_has ls 4 [(0, .ref (E.2.1 + 1076)), (1, .int a1), (2, .int a2), (3, .int a3)] := hl
  refine lv_aload_n hx hb dX7_hash_0 rfl (lv_at hl 0 rfl) ?_
  refine lv_iconst (v := 0) hx hb dX7_hash_1 (by decide) ?_
  refine put7 B hP hS (show hk 1076 = 7 by decide +kernel) 0 (by decide) mw_1027 rfl rfl rfl (fs7_0 E 1076 _ _) dX7_hash_2 (fun H locs hP hS => ?_)
  obtain ⟨ρ36, e37⟩ : ∃ z, z = up ρ 1076 0 0 := ⟨_, rfl⟩
  rw [← e37] at hP
  have hI : RI r Bt M L X ρ36 := by rw [e37]; exact RI_76 hI (by decide)
  refine lv_aload_n hx hb dX7_hash_5 rfl (lv_at hl 0 rfl) ?_
  refine lv_iload_n hx hb dX7_hash_6 rfl (lv_at hl 1 rfl) ?_
  refine lv_iload_n hx hb dX7_hash_7 rfl (lv_at hl 2 rfl) ?_
  refine call_i (cVt (k := 1076) (av := [.int a1, .int a2]) (rest := []) B hP hS (d_X7_isLink l E ρ36 r Bt hBt M L X a1 a2 hI) lk_RX7_106 (hrecv (ci := 7) B hP (hk_lt (c := 7) (show hk 1076 = 7 by decide +kernel) (by decide)) (hcc7 _ _ (show hk 1076 = 7 by decide +kernel)) rfl) rfl rfl hl.1 (Nat.le_of_ble_eq_true rfl) ⟨Nat.le_of_ble_eq_true rfl, Nat.le_of_ble_eq_true rfl⟩ ⟨Nat.le_of_ble_eq_true rfl, Nat.le_of_ble_eq_true rfl⟩ dX7_hash_8) hS (fun r38 ρ39 H locs q40 hP hS => ?_)
  obtain ⟨rfl, hI, q40⟩ := q40
  rcases q40 with rfl | ⟨rfl, j41, hj41, ej41, i42, j43, hj43, ej43⟩
  · skip
    refine lv_if_eq (tgt := 61) hx hb dX7_hash_11 (by decide) (fun _ => ?_) (fun c44 => absurd rfl c44)
    refine lv_iconst (v := 0) hx hb dX7_hash_61 (by decide) ?_
    exact ret_i B hr hlk hP hS dX7_hash_62 (hI)
  · skip
    have := RI_Lb hI hj41
    have n45 : nn a1 = j41 := nn_u ej41 (by omega)
    have i46 : iR (M (nn a1)) 0 5 := by rw [n45]; exact i42
    have : j43 < L (nn a1) := by rw [n45]; exact hj43
    have := RI_Lb (n := (nn a1)) hI (by omega)
    have n47 : nn a2 = j43 := nn_u ej43 (by omega)
    refine lv_if_eq (tgt := 61) hx hb dX7_hash_11 (by decide) (fun c48 => absurd c48 (iR_ne (show iR 1 (1) (1) from ⟨by decide, by decide⟩) (show iR 0 (0) (0) from ⟨by decide, by decide⟩) (by decide))) (fun _ => ?_)
    refine lv_iload_n hx hb dX7_hash_14 rfl (lv_at hl 3 rfl) ?_
    refine lv_i2l hx hb dX7_hash_15 rfl ?_
    refine lv_lconst (v := 0) hx hb dX7_hash_16 (by decide) ?_
    refine lv_ldc2 (v := 2) hx hb hown (hts _ mw_1192) dX7_hash_17 ?_
    refine call_i (cS (av := [.long a3.toInt64, .long 0, .long 2]) (rest := []) B hP hS (c_in l E ρ36 a3.toInt64 0 2 0 2 (by decide) (by decide)) lk_RX7_71 rfl rfl hl.1 (Nat.le_of_ble_eq_true rfl) ⟨Nat.le_of_ble_eq_true rfl, Nat.le_of_ble_eq_true rfl⟩ ⟨Nat.le_of_ble_eq_true rfl, Nat.le_of_ble_eq_true rfl⟩ dX7_hash_20) hS (fun r49 ρ50 H locs q51 hP hS => ?_)
    obtain ⟨rfl, q51⟩ := q51
    rcases q51 with ⟨rfl, q51⟩ | ⟨rfl, q51⟩
    · skip
      have i52 : iR a3 0 2 := (lR_i _ _ _).mp q51
      refine lv_if_eq (tgt := 61) hx hb dX7_hash_23 (by decide) (fun c53 => absurd c53 (iR_ne (show iR 1 (1) (1) from ⟨by decide, by decide⟩) (show iR 0 (0) (0) from ⟨by decide, by decide⟩) (by decide))) (fun _ => ?_)
      refine lv_aload_n hx hb dX7_hash_26 rfl (lv_at hl 0 rfl) ?_
      refine get7 B hP (show hk 1076 = 7 by decide +kernel) 3 (by decide) mw_1030 rfl dX7_hash_27 ?_
      refine lv_iload_n hx hb dX7_hash_30 rfl (lv_at hl 1 rfl) ?_
      refine lv_topi (fun z54 ez54 => ?_)
      obtain rfl : z54 = nI (nn a1) := ez54.trans (nn_eq a1)
      refine lv_iload_n hx hb dX7_hash_31 rfl (lv_at hl 2 rfl) ?_
      refine lv_topi (fun z55 ez55 => ?_)
      obtain rfl : z55 = nI (nn a2) := ez55.trans (nn_eq a2)
      refine call_i (cS (av := [.int (nI (nn a1)), .int (nI (nn a2))]) (rest := [.ref (E.2.1 + 1078)]) B hP hS (d_X7_linkAt l E ρ36 r Bt hBt M L X (nn a1) (by omega) (by omega) (nn a2) (by omega) (by omega) hI) lk_RX7_82 rfl rfl hl.1 (Nat.le_of_ble_eq_true rfl) ⟨Nat.le_of_ble_eq_true rfl, Nat.le_of_ble_eq_true rfl⟩ ⟨Nat.le_of_ble_eq_true rfl, Nat.le_of_ble_eq_true rfl⟩ dX7_hash_32) hS (fun r56 ρ57 H locs q58 hP hS => ?_)
      obtain ⟨rfl, hI, q58⟩ := q58
      obtain rfl : r56 = nI (104 + 326 * (nn a1) + 66 * (nn a2)) := q58.trans (congrArg nI (by omega))
      refine lv_iload_n hx hb dX7_hash_35 rfl (lv_at hl 3 rfl) ?_
      have := nn_r (x := a3) (a := 0) (b := 2) i52 (by decide)
      refine lv_topi (fun z59 ez59 => ?_)
      obtain rfl : z59 = nI (nn a3) := ez59.trans (nn_eq a3)
      refine lv_if_ne (tgt := 44) hx hb dX7_hash_36 (by decide) (fun c60 => ?_) (fun c60 => ?_)
      · skip
        have n61 := mt (nI_eq (a := (nn a3)) (b := 0) (by omega) (by omega)).mpr (show ¬ (nI (nn a3) = nI 0) from c60)
        refine lv_iload_n hx hb dX7_hash_44 rfl (lv_at hl 3 rfl) ?_
        refine lv_topi (fun z62 ez62 => ?_)
        obtain rfl : z62 = nI (nn a3) := ez62.trans (nn_eq a3)
        refine lv_iconst (v := 1) hx hb dX7_hash_45 (by decide) ?_
        refine lv_icmp_ne (tgt := 54) hx hb dX7_hash_46 (by decide) (fun c63 => ?_) (fun c63 => ?_)
        · skip
          have n64 := mt (nI_eq (a := (nn a3)) (b := 1) (by omega) (by omega)).mpr (show ¬ (nI (nn a3) = nI 1) from c63)
          refine lv_bipush (v := 44) hx hb dX7_hash_54 (by decide) ?_
          refine lv_iadd hx hb dX7_hash_56 ?_
          refine lv_topi (fun z65 ez65 => ?_)
          obtain rfl : z65 = (nI (148 + 326 * (nn a1) + 66 * (nn a2))) := ez65.trans (by rw [show (nI (104 + 326 * (nn a1) + 66 * (nn a2))) = nI (104 + 326 * (nn a1) + 66 * (nn a2)) from rfl, show 44 = nI 44 from rfl, nI_add] <;> exact congrArg nI (by omega))
          refine aldn (n := 695) (j := (148 + 326 * (nn a1) + 66 * (nn a2))) B hP (show hk 1078 = 8 by decide +kernel) (show hlen 1078 = 695 by decide +kernel) rfl (by omega) (by decide) dX7_hash_57 ?_
          refine lv_goto (tgt := 62) hx hb dX7_hash_58 (by decide) ?_
          exact ret_i B hr hlk hP hS dX7_hash_62 (hI)
        · skip
          have n66 := (nI_eq (a := (nn a3)) (b := 1) (by omega) (by omega)).mp (show (nI (nn a3) = nI 1) from c63)
          refine lv_bipush (v := 30) hx hb dX7_hash_49 (by decide) ?_
          refine lv_goto (tgt := 56) hx hb dX7_hash_51 (by decide) ?_
          refine lv_iadd hx hb dX7_hash_56 ?_
          refine lv_topi (fun z67 ez67 => ?_)
          obtain rfl : z67 = (nI (134 + 326 * (nn a1) + 66 * (nn a2))) := ez67.trans (by rw [show (nI (104 + 326 * (nn a1) + 66 * (nn a2))) = nI (104 + 326 * (nn a1) + 66 * (nn a2)) from rfl, show 30 = nI 30 from rfl, nI_add] <;> exact congrArg nI (by omega))
          refine aldn (n := 695) (j := (134 + 326 * (nn a1) + 66 * (nn a2))) B hP (show hk 1078 = 8 by decide +kernel) (show hlen 1078 = 695 by decide +kernel) rfl (by omega) (by decide) dX7_hash_57 ?_
          refine lv_goto (tgt := 62) hx hb dX7_hash_58 (by decide) ?_
          exact ret_i B hr hlk hP hS dX7_hash_62 (hI)
      · skip
        have n68 := (nI_eq (a := (nn a3)) (b := 0) (by omega) (by omega)).mp (show (nI (nn a3) = nI 0) from c60)
        refine lv_bipush (v := 28) hx hb dX7_hash_39 (by decide) ?_
        refine lv_goto (tgt := 56) hx hb dX7_hash_41 (by decide) ?_
        refine lv_iadd hx hb dX7_hash_56 ?_
        refine lv_topi (fun z69 ez69 => ?_)
        obtain rfl : z69 = (nI (132 + 326 * (nn a1) + 66 * (nn a2))) := ez69.trans (by rw [show (nI (104 + 326 * (nn a1) + 66 * (nn a2))) = nI (104 + 326 * (nn a1) + 66 * (nn a2)) from rfl, show 28 = nI 28 from rfl, nI_add] <;> exact congrArg nI (by omega))
        refine aldn (n := 695) (j := (132 + 326 * (nn a1) + 66 * (nn a2))) B hP (show hk 1078 = 8 by decide +kernel) (show hlen 1078 = 695 by decide +kernel) rfl (by omega) (by decide) dX7_hash_57 ?_
        refine lv_goto (tgt := 62) hx hb dX7_hash_58 (by decide) ?_
        exact ret_i B hr hlk hP hS dX7_hash_62 (hI)
    · skip
      refine lv_if_eq (tgt := 61) hx hb dX7_hash_23 (by decide) (fun _ => ?_) (fun c70 => absurd rfl c70)
      refine lv_iconst (v := 0) hx hb dX7_hash_61 (by decide) ?_
      exact ret_i B hr hlk hP hS dX7_hash_62 (hI)

set_option maxHeartbeats 4000000 in
set_option maxRecDepth 100000 in
theorem d_X7_reserved (l : Launch) (E : hE) (ρ r : Nat → Nat → Int32) (Bt : Nat) (hBt : Bt ≤ 1000000) (M : Nat → Int32) (L : Nat → Nat) (X : Nat × Nat → Prop) (a1 : Int32) (a2 : Int32) (a3 : Int32) (hI : RI r Bt M L X ρ) : Met l yX7_reserved (.code yX7_reserved cX7_reserved 4 (some .int) :: gw_all) (rmk 4 160) (cPre E ρ [.ref (E.2.1 + 1076), .int a1, .int a2, .int a3]) (cI E (fun v ρ1 => RI r Bt M L X ρ1)) 0 0 (hA E) := by
  refine ent (own := RX7) (by decide) rfl (Nat.le_of_ble_eq_true rfl) ?_
  intro p e s m below meth c ls B hr hlk hl hP hS
  have hx := B.1.1
  have hb := B.1.2.1
  have hown := B.1.2.2.2.1
  have hts := B.1.2.2.2.2
  have hl : lv_has ls 4 [(0, .ref (E.2.1 + 1076)), (1, .int a1), (2, .int a2), (3, .int a3)] := hl
  refine lv_aload_n hx hb dX7_reserved_0 rfl (lv_at hl 0 rfl) ?_
  refine lv_iconst (v := 0) hx hb dX7_reserved_1 (by decide) ?_
  refine put7 B hP hS (show hk 1076 = 7 by decide +kernel) 0 (by decide) mw_1027 rfl rfl rfl (fs7_0 E 1076 _ _) dX7_reserved_2 (fun H locs hP hS => ?_)
  obtain ⟨ρ37, e38⟩ : ∃ z, z = up ρ 1076 0 0 := ⟨_, rfl⟩
  rw [← e38] at hP
  have hI : RI r Bt M L X ρ37 := by rw [e38]; exact RI_76 hI (by decide)
  refine lv_aload_n hx hb dX7_reserved_5 rfl (lv_at hl 0 rfl) ?_
  refine lv_iload_n hx hb dX7_reserved_6 rfl (lv_at hl 1 rfl) ?_
  refine lv_iload_n hx hb dX7_reserved_7 rfl (lv_at hl 2 rfl) ?_
  refine call_i (cVt (k := 1076) (av := [.int a1, .int a2]) (rest := []) B hP hS (d_X7_isLink l E ρ37 r Bt hBt M L X a1 a2 hI) lk_RX7_106 (hrecv (ci := 7) B hP (hk_lt (c := 7) (show hk 1076 = 7 by decide +kernel) (by decide)) (hcc7 _ _ (show hk 1076 = 7 by decide +kernel)) rfl) rfl rfl hl.1 (Nat.le_of_ble_eq_true rfl) ⟨Nat.le_of_ble_eq_true rfl, Nat.le_of_ble_eq_true rfl⟩ ⟨Nat.le_of_ble_eq_true rfl, Nat.le_of_ble_eq_true rfl⟩ dX7_reserved_8) hS (fun r39 ρ40 H locs q41 hP hS => ?_)
  obtain ⟨rfl, hI, q41⟩ := q41
  rcases q41 with rfl | ⟨rfl, j42, hj42, ej42, i43, j44, hj44, ej44⟩
  · skip
    refine lv_if_eq (tgt := 60) hx hb dX7_reserved_11 (by decide) (fun _ => ?_) (fun c45 => absurd rfl c45)
    refine lv_iconst (v := (-1)) hx hb dX7_reserved_60 (by decide) ?_
    exact ret_i B hr hlk hP hS dX7_reserved_61 (hI)
  · skip
    have := RI_Lb hI hj42
    have n46 : nn a1 = j42 := nn_u ej42 (by omega)
    have i47 : iR (M (nn a1)) 0 5 := by rw [n46]; exact i43
    have : j44 < L (nn a1) := by rw [n46]; exact hj44
    have := RI_Lb (n := (nn a1)) hI (by omega)
    have n48 : nn a2 = j44 := nn_u ej44 (by omega)
    refine lv_if_eq (tgt := 60) hx hb dX7_reserved_11 (by decide) (fun c49 => absurd c49 (iR_ne (show iR 1 (1) (1) from ⟨by decide, by decide⟩) (show iR 0 (0) (0) from ⟨by decide, by decide⟩) (by decide))) (fun _ => ?_)
    refine lv_iload_n hx hb dX7_reserved_14 rfl (lv_at hl 3 rfl) ?_
    refine lv_i2l hx hb dX7_reserved_15 rfl ?_
    refine lv_lconst (v := 0) hx hb dX7_reserved_16 (by decide) ?_
    refine lv_ldc2 (v := 5) hx hb hown (hts _ mw_1373) dX7_reserved_17 ?_
    refine call_i (cS (av := [.long a3.toInt64, .long 0, .long 5]) (rest := []) B hP hS (c_in l E ρ37 a3.toInt64 0 5 0 5 (by decide) (by decide)) lk_RX7_71 rfl rfl hl.1 (Nat.le_of_ble_eq_true rfl) ⟨Nat.le_of_ble_eq_true rfl, Nat.le_of_ble_eq_true rfl⟩ ⟨Nat.le_of_ble_eq_true rfl, Nat.le_of_ble_eq_true rfl⟩ dX7_reserved_20) hS (fun r50 ρ51 H locs q52 hP hS => ?_)
    obtain ⟨rfl, q52⟩ := q52
    rcases q52 with ⟨rfl, q52⟩ | ⟨rfl, q52⟩
    · skip
      have i53 : iR a3 0 5 := (lR_i _ _ _).mp q52
      refine lv_if_eq (tgt := 60) hx hb dX7_reserved_23 (by decide) (fun c54 => absurd c54 (iR_ne (show iR 1 (1) (1) from ⟨by decide, by decide⟩) (show iR 0 (0) (0) from ⟨by decide, by decide⟩) (by decide))) (fun _ => ?_)
      refine lv_aload_n hx hb dX7_reserved_26 rfl (lv_at hl 0 rfl) ?_
      refine get7 B hP (show hk 1076 = 7 by decide +kernel) 3 (by decide) mw_1030 rfl dX7_reserved_27 ?_
      refine lv_iload_n hx hb dX7_reserved_30 rfl (lv_at hl 1 rfl) ?_
      refine lv_topi (fun z55 ez55 => ?_)
      obtain rfl : z55 = nI (nn a1) := ez55.trans (nn_eq a1)
      refine lv_iload_n hx hb dX7_reserved_31 rfl (lv_at hl 2 rfl) ?_
      refine lv_topi (fun z56 ez56 => ?_)
      obtain rfl : z56 = nI (nn a2) := ez56.trans (nn_eq a2)
      refine call_i (cS (av := [.int (nI (nn a1)), .int (nI (nn a2))]) (rest := [.ref (E.2.1 + 1078)]) B hP hS (d_X7_linkAt l E ρ37 r Bt hBt M L X (nn a1) (by omega) (by omega) (nn a2) (by omega) (by omega) hI) lk_RX7_82 rfl rfl hl.1 (Nat.le_of_ble_eq_true rfl) ⟨Nat.le_of_ble_eq_true rfl, Nat.le_of_ble_eq_true rfl⟩ ⟨Nat.le_of_ble_eq_true rfl, Nat.le_of_ble_eq_true rfl⟩ dX7_reserved_32) hS (fun r57 ρ58 H locs q59 hP hS => ?_)
      obtain ⟨rfl, hI, q59⟩ := q59
      obtain rfl : r57 = nI (104 + 326 * (nn a1) + 66 * (nn a2)) := q59.trans (congrArg nI (by omega))
      refine lv_bipush (v := 31) hx hb dX7_reserved_35 (by decide) ?_
      refine lv_iadd hx hb dX7_reserved_37 ?_
      refine lv_topi (fun z60 ez60 => ?_)
      obtain rfl : z60 = (nI (135 + 326 * (nn a1) + 66 * (nn a2))) := ez60.trans (by rw [show (nI (104 + 326 * (nn a1) + 66 * (nn a2))) = nI (104 + 326 * (nn a1) + 66 * (nn a2)) from rfl, show 31 = nI 31 from rfl, nI_add] <;> exact congrArg nI (by omega))
      refine aldn (n := 695) (j := (135 + 326 * (nn a1) + 66 * (nn a2))) B hP (show hk 1078 = 8 by decide +kernel) (show hlen 1078 = 695 by decide +kernel) rfl (by omega) (by decide) dX7_reserved_38 ?_
      refine lv_if_le (tgt := 60) hx hb dX7_reserved_39 (by decide) (fun c61 => ?_) (fun c61 => ?_)
      · skip
        have i62 : iR (ρ37 1078 (135 + 326 * (nn a1) + 66 * (nn a2))) (-2147483648) (0) := (iR_geR (show iR 0 (0) (0) from ⟨by decide, by decide⟩) (iR_any (ρ37 1078 (135 + 326 * (nn a1) + 66 * (nn a2)))) (Int32.not_lt.mpr c61) (by decide))
        refine lv_iconst (v := (-1)) hx hb dX7_reserved_60 (by decide) ?_
        exact ret_i B hr hlk hP hS dX7_reserved_61 (hI)
      · skip
        have i63 : iR (ρ37 1078 (135 + 326 * (nn a1) + 66 * (nn a2))) (1) (2147483647) := (iR_ltR (show iR 0 (0) (0) from ⟨by decide, by decide⟩) (iR_any (ρ37 1078 (135 + 326 * (nn a1) + 66 * (nn a2)))) (Int32.not_le.mp c61) (by decide))
        refine lv_aload_n hx hb dX7_reserved_42 rfl (lv_at hl 0 rfl) ?_
        refine get7 B hP (show hk 1076 = 7 by decide +kernel) 3 (by decide) mw_1030 rfl dX7_reserved_43 ?_
        refine lv_iload_n hx hb dX7_reserved_46 rfl (lv_at hl 1 rfl) ?_
        refine lv_topi (fun z64 ez64 => ?_)
        obtain rfl : z64 = nI (nn a1) := ez64.trans (nn_eq a1)
        refine lv_iload_n hx hb dX7_reserved_47 rfl (lv_at hl 2 rfl) ?_
        refine lv_topi (fun z65 ez65 => ?_)
        obtain rfl : z65 = nI (nn a2) := ez65.trans (nn_eq a2)
        refine call_i (cS (av := [.int (nI (nn a1)), .int (nI (nn a2))]) (rest := [.ref (E.2.1 + 1078)]) B hP hS (d_X7_linkAt l E ρ37 r Bt hBt M L X (nn a1) (by omega) (by omega) (nn a2) (by omega) (by omega) hI) lk_RX7_82 rfl rfl hl.1 (Nat.le_of_ble_eq_true rfl) ⟨Nat.le_of_ble_eq_true rfl, Nat.le_of_ble_eq_true rfl⟩ ⟨Nat.le_of_ble_eq_true rfl, Nat.le_of_ble_eq_true rfl⟩ dX7_reserved_48) hS (fun r66 ρ67 H locs q68 hP hS => ?_)
        obtain ⟨rfl, hI, q68⟩ := q68
        obtain rfl : r66 = nI (104 + 326 * (nn a1) + 66 * (nn a2)) := q68.trans (congrArg nI (by omega))
        refine lv_bipush (v := 31) hx hb dX7_reserved_51 (by decide) ?_
        refine lv_iadd hx hb dX7_reserved_53 ?_
        refine lv_topi (fun z69 ez69 => ?_)
        obtain rfl : z69 = (nI (135 + 326 * (nn a1) + 66 * (nn a2))) := ez69.trans (by rw [show (nI (104 + 326 * (nn a1) + 66 * (nn a2))) = nI (104 + 326 * (nn a1) + 66 * (nn a2)) from rfl, show 31 = nI 31 from rfl, nI_add] <;> exact congrArg nI (by omega))
        refine lv_iload_n hx hb dX7_reserved_54 rfl (lv_at hl 3 rfl) ?_
        have := nn_r (x := a3) (a := 0) (b := 5) i53 (by decide)
        refine lv_topi (fun z70 ez70 => ?_)
        obtain rfl : z70 = nI (nn a3) := ez70.trans (nn_eq a3)
        refine lv_iadd hx hb dX7_reserved_55 ?_
        refine lv_topi (fun z71 ez71 => ?_)
        obtain rfl : z71 = (nI (135 + 326 * (nn a1) + 66 * (nn a2) + (nn a3))) := ez71.trans (by rw [show (nI (135 + 326 * (nn a1) + 66 * (nn a2))) = nI (135 + 326 * (nn a1) + 66 * (nn a2)) from rfl, show (nI (nn a3)) = nI (nn a3) from rfl, nI_add] <;> exact congrArg nI (by omega))
        refine aldn (n := 695) (j := (135 + 326 * (nn a1) + 66 * (nn a2) + (nn a3))) B hP (show hk 1078 = 8 by decide +kernel) (show hlen 1078 = 695 by decide +kernel) rfl (by omega) (by decide) dX7_reserved_56 ?_
        refine lv_goto (tgt := 61) hx hb dX7_reserved_57 (by decide) ?_
        exact ret_i B hr hlk hP hS dX7_reserved_61 (hI)
    · skip
      refine lv_if_eq (tgt := 60) hx hb dX7_reserved_23 (by decide) (fun _ => ?_) (fun c72 => absurd rfl c72)
      refine lv_iconst (v := (-1)) hx hb dX7_reserved_60 (by decide) ?_
      exact ret_i B hr hlk hP hS dX7_reserved_61 (hI)

theorem lk_RX7_124 : LkV RX7 124 RX7 yX7_isRadio cX7_isRadio 2 (some .boolean) 1 := ⟨⟨mw_1165, mw_1167, mw_16, mw_59, mw_1168⟩, by decide +kernel⟩
set_option maxHeartbeats 4000000 in
set_option maxRecDepth 100000 in
theorem d_X7_isThere (l : Launch) (E : hE) (ρ r : Nat → Nat → Int32) (Bt : Nat) (hBt : Bt ≤ 1000000) (M : Nat → Int32) (L : Nat → Nat) (X : Nat × Nat → Prop) (a1 : Int32) (a2 : Int32) (a3 : Int32) (hI : RI r Bt M L X ρ) : Met l yX7_isThere (.code yX7_isThere cX7_isThere 4 (some .int) :: gw_all) (rmk 5 200) (cPre E ρ [.ref (E.2.1 + 1076), .int a1, .int a2, .int a3]) (cI E (fun v ρ1 => RI r Bt M L X ρ1)) 0 0 (hA E) := by
  refine ent (own := RX7) (by decide) rfl (Nat.le_of_ble_eq_true rfl) ?_
  intro p e s m below meth c ls B hr hlk hl hP hS
  have hx := B.1.1
  have hb := B.1.2.1
  have hown := B.1.2.2.2.1
  have hts := B.1.2.2.2.2
  have hl : lv_has ls 4 [(0, .ref (E.2.1 + 1076)), (1, .int a1), (2, .int a2), (3, .int a3)] := hl
  refine lv_aload_n hx hb dX7_isThere_0 rfl (lv_at hl 0 rfl) ?_
  refine lv_iconst (v := 0) hx hb dX7_isThere_1 (by decide) ?_
  refine put7 B hP hS (show hk 1076 = 7 by decide +kernel) 0 (by decide) mw_1027 rfl rfl rfl (fs7_0 E 1076 _ _) dX7_isThere_2 (fun H locs hP hS => ?_)
  obtain ⟨ρ32, e33⟩ : ∃ z, z = up ρ 1076 0 0 := ⟨_, rfl⟩
  rw [← e33] at hP
  have hI : RI r Bt M L X ρ32 := by rw [e33]; exact RI_76 hI (by decide)
  refine lv_aload_n hx hb dX7_isThere_5 rfl (lv_at hl 0 rfl) ?_
  refine lv_iload_n hx hb dX7_isThere_6 rfl (lv_at hl 1 rfl) ?_
  refine call_i (cVt (k := 1076) (av := [.int a1]) (rest := []) B hP hS (d_X7_isRadio l E ρ32 r Bt hBt M L X a1 hI) lk_RX7_124 (hrecv (ci := 7) B hP (hk_lt (c := 7) (show hk 1076 = 7 by decide +kernel) (by decide)) (hcc7 _ _ (show hk 1076 = 7 by decide +kernel)) rfl) rfl rfl hl.1 (Nat.le_of_ble_eq_true rfl) ⟨Nat.le_of_ble_eq_true rfl, Nat.le_of_ble_eq_true rfl⟩ ⟨Nat.le_of_ble_eq_true rfl, Nat.le_of_ble_eq_true rfl⟩ dX7_isThere_7) hS (fun r34 ρ35 H locs q36 hP hS => ?_)
  obtain ⟨rfl, hI, q36⟩ := q36
  rcases q36 with rfl | ⟨rfl, i37⟩
  · skip
    refine lv_if_eq (tgt := 53) hx hb dX7_isThere_10 (by decide) (fun _ => ?_) (fun c38 => absurd rfl c38)
    refine lv_iconst (v := (-1)) hx hb dX7_isThere_53 (by decide) ?_
    exact ret_i B hr hlk hP hS dX7_isThere_54 (hI)
  · skip
    refine lv_if_eq (tgt := 53) hx hb dX7_isThere_10 (by decide) (fun c39 => absurd c39 (iR_ne (show iR 1 (1) (1) from ⟨by decide, by decide⟩) (show iR 0 (0) (0) from ⟨by decide, by decide⟩) (by decide))) (fun _ => ?_)
    refine lv_iload_n hx hb dX7_isThere_13 rfl (lv_at hl 2 rfl) ?_
    refine lv_i2l hx hb dX7_isThere_14 rfl ?_
    refine lv_lconst (v := 0) hx hb dX7_isThere_15 (by decide) ?_
    refine lv_lconst (v := 1) hx hb dX7_isThere_16 (by decide) ?_
    refine call_i (cS (av := [.long a2.toInt64, .long 0, .long 1]) (rest := []) B hP hS (c_in l E ρ32 a2.toInt64 0 1 0 1 (by decide) (by decide)) lk_RX7_71 rfl rfl hl.1 (Nat.le_of_ble_eq_true rfl) ⟨Nat.le_of_ble_eq_true rfl, Nat.le_of_ble_eq_true rfl⟩ ⟨Nat.le_of_ble_eq_true rfl, Nat.le_of_ble_eq_true rfl⟩ dX7_isThere_17) hS (fun r40 ρ41 H locs q42 hP hS => ?_)
    obtain ⟨rfl, q42⟩ := q42
    rcases q42 with ⟨rfl, q42⟩ | ⟨rfl, q42⟩
    · skip
      have i43 : iR a2 0 1 := (lR_i _ _ _).mp q42
      refine lv_if_eq (tgt := 53) hx hb dX7_isThere_20 (by decide) (fun c44 => absurd c44 (iR_ne (show iR 1 (1) (1) from ⟨by decide, by decide⟩) (show iR 0 (0) (0) from ⟨by decide, by decide⟩) (by decide))) (fun _ => ?_)
      refine lv_iload_n hx hb dX7_isThere_23 rfl (lv_at hl 3 rfl) ?_
      refine lv_i2l hx hb dX7_isThere_24 rfl ?_
      refine lv_lconst (v := 0) hx hb dX7_isThere_25 (by decide) ?_
      refine lv_ldc2 (v := 199999) hx hb hown (hts _ mw_1134) dX7_isThere_26 ?_
      refine call_i (cS (av := [.long a3.toInt64, .long 0, .long 199999]) (rest := []) B hP hS (c_in l E ρ32 a3.toInt64 0 199999 0 199999 (by decide) (by decide)) lk_RX7_71 rfl rfl hl.1 (Nat.le_of_ble_eq_true rfl) ⟨Nat.le_of_ble_eq_true rfl, Nat.le_of_ble_eq_true rfl⟩ ⟨Nat.le_of_ble_eq_true rfl, Nat.le_of_ble_eq_true rfl⟩ dX7_isThere_29) hS (fun r45 ρ46 H locs q47 hP hS => ?_)
      obtain ⟨rfl, q47⟩ := q47
      rcases q47 with ⟨rfl, q47⟩ | ⟨rfl, q47⟩
      · skip
        have i48 : iR a3 0 199999 := (lR_i _ _ _).mp q47
        refine lv_if_eq (tgt := 53) hx hb dX7_isThere_32 (by decide) (fun c49 => absurd c49 (iR_ne (show iR 1 (1) (1) from ⟨by decide, by decide⟩) (show iR 0 (0) (0) from ⟨by decide, by decide⟩) (by decide))) (fun _ => ?_)
        refine lv_aload_n hx hb dX7_isThere_35 rfl (lv_at hl 0 rfl) ?_
        refine lv_iload_n hx hb dX7_isThere_36 rfl (lv_at hl 2 rfl) ?_
        have := nn_r (x := a2) (a := 0) (b := 1) i43 (by decide)
        refine lv_topi (fun z50 ez50 => ?_)
        obtain rfl : z50 = nI (nn a2) := ez50.trans (nn_eq a2)
        refine lv_iload_n hx hb dX7_isThere_37 rfl (lv_at hl 1 rfl) ?_
        have := nn_r (x := a1) (a := 0) (b := 5) i37 (by decide)
        refine lv_topi (fun z51 ez51 => ?_)
        obtain rfl : z51 = nI (nn a1) := ez51.trans (nn_eq a1)
        refine lv_iload_n hx hb dX7_isThere_38 rfl (lv_at hl 3 rfl) ?_
        have := nn_r (x := a3) (a := 0) (b := 199999) i48 (by decide)
        refine lv_topi (fun z52 ez52 => ?_)
        obtain rfl : z52 = nI (nn a3) := ez52.trans (nn_eq a3)
        refine call_i (cVt (k := 1076) (av := [.int (nI (nn a2)), .int (nI (nn a1)), .int (nI (nn a3))]) (rest := []) B hP hS (d_X7_isHere l E ρ32 r Bt hBt M L X (nn a2) (by omega) (by omega) (nI (nn a1)) (nI (nn a3)) hI) lk_RX7_176 (hrecv (ci := 7) B hP (hk_lt (c := 7) (show hk 1076 = 7 by decide +kernel) (by decide)) (hcc7 _ _ (show hk 1076 = 7 by decide +kernel)) rfl) rfl rfl hl.1 (Nat.le_of_ble_eq_true rfl) ⟨Nat.le_of_ble_eq_true rfl, Nat.le_of_ble_eq_true rfl⟩ ⟨Nat.le_of_ble_eq_true rfl, Nat.le_of_ble_eq_true rfl⟩ dX7_isThere_39) hS (fun r53 ρ54 H locs q55 hP hS => ?_)
        obtain ⟨rfl, hI, q55⟩ := q55
        obtain ⟨j56, lj56, uj56, ej56⟩ := iR_nat (a := 0) (b := 1) q55
        refine lv_topi (fun z57 ez57 => ?_)
        obtain rfl : z57 = nI j56 := ez57.trans ej56
        refine lv_if_eq (tgt := 49) hx hb dX7_isThere_42 (by decide) (fun c58 => ?_) (fun c58 => ?_)
        · skip
          have n59 := (nI_eq (a := j56) (b := 0) (by omega) (by omega)).mp (show (nI j56 = nI 0) from c58)
          refine lv_iconst (v := 0) hx hb dX7_isThere_49 (by decide) ?_
          refine lv_goto (tgt := 54) hx hb dX7_isThere_50 (by decide) ?_
          exact ret_i B hr hlk hP hS dX7_isThere_54 (hI)
        · skip
          have n60 := mt (nI_eq (a := j56) (b := 0) (by omega) (by omega)).mpr (show ¬ (nI j56 = nI 0) from c58)
          refine lv_iconst (v := 1) hx hb dX7_isThere_45 (by decide) ?_
          refine lv_goto (tgt := 54) hx hb dX7_isThere_46 (by decide) ?_
          exact ret_i B hr hlk hP hS dX7_isThere_54 (hI)
      · skip
        refine lv_if_eq (tgt := 53) hx hb dX7_isThere_32 (by decide) (fun _ => ?_) (fun c61 => absurd rfl c61)
        refine lv_iconst (v := (-1)) hx hb dX7_isThere_53 (by decide) ?_
        exact ret_i B hr hlk hP hS dX7_isThere_54 (hI)
    · skip
      refine lv_if_eq (tgt := 53) hx hb dX7_isThere_20 (by decide) (fun _ => ?_) (fun c62 => absurd rfl c62)
      refine lv_iconst (v := (-1)) hx hb dX7_isThere_53 (by decide) ?_
      exact ret_i B hr hlk hP hS dX7_isThere_54 (hI)

theorem lk_RX7_257 : LkV RX7 257 RX7 yX7_areBoth cX7_areBoth 2 (some .boolean) 1 := ⟨⟨mw_1394, mw_1396, mw_42, mw_59, mw_1397⟩, by decide +kernel⟩
theorem lk_RX7_260 : LkV RX7 260 RX7 yX7_clashesBy cX7_clashesBy 5 (some .int) 1 := ⟨⟨mw_1398, mw_1400, mw_43, mw_59, mw_1401⟩, by decide +kernel⟩
set_option maxHeartbeats 4000000 in
set_option maxRecDepth 100000 in
theorem d_X7_clashes (l : Launch) (E : hE) (ρ r : Nat → Nat → Int32) (Bt : Nat) (hBt : Bt ≤ 1000000) (M : Nat → Int32) (L : Nat → Nat) (X : Nat × Nat → Prop) (a1 : Int32) (hI : RI r Bt M L X ρ) : Met l yX7_clashes (.code yX7_clashes cX7_clashes 2 (some .int) :: gw_all) (rmk 4 160) (cPre E ρ [.ref (E.2.1 + 1076), .int a1]) (cI E (fun v ρ1 => RI r Bt M L X ρ1)) 0 0 (hA E) := by
  refine ent (own := RX7) (by decide) rfl (Nat.le_of_ble_eq_true rfl) ?_
  intro p e s m below meth c ls B hr hlk hl hP hS
  have hx := B.1.1
  have hb := B.1.2.1
  have hown := B.1.2.2.2.1
  have hts := B.1.2.2.2.2
  have hl : lv_has ls 2 [(0, .ref (E.2.1 + 1076)), (1, .int a1)] := hl
  refine lv_aload_n hx hb dX7_clashes_0 rfl (lv_at hl 0 rfl) ?_
  refine lv_iconst (v := 0) hx hb dX7_clashes_1 (by decide) ?_
  refine put7 B hP hS (show hk 1076 = 7 by decide +kernel) 0 (by decide) mw_1027 rfl rfl rfl (fs7_0 E 1076 _ _) dX7_clashes_2 (fun H locs hP hS => ?_)
  obtain ⟨ρ15, e16⟩ : ∃ z, z = up ρ 1076 0 0 := ⟨_, rfl⟩
  rw [← e16] at hP
  have hI : RI r Bt M L X ρ15 := by rw [e16]; exact RI_76 hI (by decide)
  refine lv_aload_n hx hb dX7_clashes_5 rfl (lv_at hl 0 rfl) ?_
  refine lv_iload_n hx hb dX7_clashes_6 rfl (lv_at hl 1 rfl) ?_
  refine call_i (cVt (k := 1076) (av := [.int a1]) (rest := []) B hP hS (d_X7_areBoth l E ρ15 r Bt hBt M L X a1 hI) lk_RX7_257 (hrecv (ci := 7) B hP (hk_lt (c := 7) (show hk 1076 = 7 by decide +kernel) (by decide)) (hcc7 _ _ (show hk 1076 = 7 by decide +kernel)) rfl) rfl rfl hl.1 (Nat.le_of_ble_eq_true rfl) ⟨Nat.le_of_ble_eq_true rfl, Nat.le_of_ble_eq_true rfl⟩ ⟨Nat.le_of_ble_eq_true rfl, Nat.le_of_ble_eq_true rfl⟩ dX7_clashes_7) hS (fun r17 ρ18 H locs q19 hP hS => ?_)
  obtain ⟨rfl, hI, q19⟩ := q19
  rcases q19 with rfl | ⟨rfl, i20, i21, i22⟩
  · skip
    refine lv_if_eq (tgt := 21) hx hb dX7_clashes_10 (by decide) (fun _ => ?_) (fun c23 => absurd rfl c23)
    refine lv_iconst (v := (-1)) hx hb dX7_clashes_21 (by decide) ?_
    exact ret_i B hr hlk hP hS dX7_clashes_22 (hI)
  · skip
    refine lv_if_eq (tgt := 21) hx hb dX7_clashes_10 (by decide) (fun c24 => absurd c24 (iR_ne (show iR 1 (1) (1) from ⟨by decide, by decide⟩) (show iR 0 (0) (0) from ⟨by decide, by decide⟩) (by decide))) (fun _ => ?_)
    refine lv_aload_n hx hb dX7_clashes_13 rfl (lv_at hl 0 rfl) ?_
    refine lv_iload_n hx hb dX7_clashes_14 rfl (lv_at hl 1 rfl) ?_
    have := nn_r (x := a1) (a := 1) (b := 512) i22 (by decide)
    refine lv_topi (fun z25 ez25 => ?_)
    obtain rfl : z25 = nI (nn a1) := ez25.trans (nn_eq a1)
    refine call_i (cVt (k := 1076) (av := [.int (nI (nn a1))]) (rest := []) B hP hS (d_X7_clashesBy l E ρ15 r Bt hBt M L X (nn a1) (by omega) (by omega) hI i20 i21) lk_RX7_260 (hrecv (ci := 7) B hP (hk_lt (c := 7) (show hk 1076 = 7 by decide +kernel) (by decide)) (hcc7 _ _ (show hk 1076 = 7 by decide +kernel)) rfl) rfl rfl hl.1 (Nat.le_of_ble_eq_true rfl) ⟨Nat.le_of_ble_eq_true rfl, Nat.le_of_ble_eq_true rfl⟩ ⟨Nat.le_of_ble_eq_true rfl, Nat.le_of_ble_eq_true rfl⟩ dX7_clashes_15) hS (fun r26 ρ27 H locs q28 hP hS => ?_)
    obtain ⟨rfl, hI⟩ := q28
    refine lv_goto (tgt := 22) hx hb dX7_clashes_18 (by decide) ?_
    exact ret_i B hr hlk hP hS dX7_clashes_22 (hI)

set_option maxHeartbeats 4000000 in
set_option maxRecDepth 100000 in
theorem d_X7_bestOffset (l : Launch) (E : hE) (ρ r : Nat → Nat → Int32) (Bt : Nat) (hBt : Bt ≤ 1000000) (M : Nat → Int32) (L : Nat → Nat) (X : Nat × Nat → Prop) (a1 : Int32) (hI : RI r Bt M L X ρ) : Met l yX7_bestOffset (.code yX7_bestOffset cX7_bestOffset 8 (some .int) :: gw_all) (rmk 4 160) (cPre E ρ [.ref (E.2.1 + 1076), .int a1]) (cI E (fun v ρ1 => RI r Bt M L X ρ1)) 0 0 (hA E) := by
  refine ent (own := RX7) (by decide) rfl (Nat.le_of_ble_eq_true rfl) ?_
  intro p e s m below meth c ls B hr hlk hl hP hS
  have hx := B.1.1
  have hb := B.1.2.1
  have hown := B.1.2.2.2.1
  have hts := B.1.2.2.2.2
  have hl : lv_has ls 8 [(0, .ref (E.2.1 + 1076)), (1, .int a1)] := hl
  have b40_0 : ∀ (ls : Array Slot) (ρ : Nat → Nat → Int32) (H : Heap) (locs : List Loc) (d40 : Nat) (x40_3 : Int32) (j40_4 : Nat) (x40_5 : Int32) (j40_6 : Nat), lv_has ls 8 [(0, .ref (E.2.1 + 1076)), (1, .int a1), (2, .int 369), (3, .int x40_3), (4, .int (nI j40_4)), (5, .int x40_5), (6, .int (nI j40_6))] → WP E ρ H → va_S (hA E) s.heap H locs → RI r Bt M L X ρ → 65 - j40_6 < d40 → iR x40_3 (-2147483648) (2147483647) → 0 ≤ j40_4 → j40_4 ≤ 64 → iR x40_5 (-2147483648) (513) → 0 ≤ j40_6 → j40_6 ≤ 64 → iR (M 0) (0) (5) → iR (M 1) (0) (5) → iR a1 (1) (512) → 1 ≤ (nn a1) → (nn a1) ≤ 512 → W p l e (rmk 4 160) s m ([.ref (E.2.1 + 1076), .int a1] : List Value).toArray below meth c H locs 0 0 (MQ below (cI E (fun v ρ1 => RI r Bt M L X ρ1)) ([.ref (E.2.1 + 1076), .int a1] : List Value).toArray s 0 0 (hA E)) (F0 m 40 ls []) := by
    intro ls ρ H locs d40
    induction d40 generalizing ls ρ H locs with
    | zero => intro x40_3 j40_4 x40_5 j40_6 hl hP hS hI hd40 hx40_3 lj40_4 uj40_4 hx40_5 lj40_6 uj40_6 f_M_0_ f_M_1_ fa1 tl_nn_a1_ tu_nn_a1_; exact absurd hd40 (Nat.not_lt_zero _)
    | succ d40 ih40 =>
      intro x40_3 j40_4 x40_5 j40_6 hl hP hS hI hd40 hx40_3 lj40_4 uj40_4 hx40_5 lj40_6 uj40_6 f_M_0_ f_M_1_ fa1 tl_nn_a1_ tu_nn_a1_
      have b92_0 : ∀ (ls : Array Slot) (ρ : Nat → Nat → Int32) (H : Heap) (locs : List Loc) (j92_4 : Nat) (x92_s0 : Int32), lv_has ls 8 [(0, .ref (E.2.1 + 1076)), (1, .int a1), (2, .int 369), (3, .int x40_3), (4, .int (nI j92_4)), (6, .int (nI j40_6))] → WP E ρ H → va_S (hA E) s.heap H locs → RI r Bt M L X ρ → 0 ≤ j92_4 → j92_4 ≤ 64 → iR x92_s0 (-2147483648) (513) → iR (M 0) (0) (5) → iR (M 1) (0) (5) → iR a1 (1) (512) → 1 ≤ (nn a1) → (nn a1) ≤ 512 → 0 ≤ j40_4 → j40_4 ≤ 64 → 0 ≤ j40_6 → j40_6 ≤ 63 → W p l e (rmk 4 160) s m ([.ref (E.2.1 + 1076), .int a1] : List Value).toArray below meth c H locs 0 0 (MQ below (cI E (fun v ρ1 => RI r Bt M L X ρ1)) ([.ref (E.2.1 + 1076), .int a1] : List Value).toArray s 0 0 (hA E)) (F0 m 92 ls [.int x92_s0]) := by
        intro ls ρ H locs j92_4 x92_s0 hl hP hS hI lj92_4 uj92_4 hx92_s0 f_M_0_ f_M_1_ fa1 tl_nn_a1_ tu_nn_a1_ tlj40_4 tuj40_4 tlj40_6 tuj40_6
        refine lv_istore (lv' := [(5, .int x92_s0), (0, .ref (E.2.1 + 1076)), (1, .int a1), (2, .int 369), (3, .int x40_3), (4, .int (nI j92_4)), (6, .int (nI j40_6))]) hx hb dX7_bestOffset_92 hl (by decide) rfl (fun ls hl => ?_)
        refine lv_iinc (v := (nI (1 + j40_6))) (lv' := [(6, .int (nI (1 + j40_6))), (5, .int x92_s0), (0, .ref (E.2.1 + 1076)), (1, .int a1), (2, .int 369), (3, .int x40_3), (4, .int (nI j92_4))]) hx hb dX7_bestOffset_94 hl (k := 6) rfl (show nI j40_6 + nI 1 = _ from (nI_add _ _).trans (congrArg nI (by omega))) (by decide) rfl (fun ls hl => ?_)
        refine lv_goto (tgt := 40) hx hb dX7_bestOffset_97 (by decide) ?_
        exact ih40 ls ρ _ _ (x40_3 : Int32) j92_4 (x92_s0 : Int32) (1 + j40_6) (lv_sub hl [2, 3, 4, 5, 6, 1, 0] rfl) hP hS hI (by omega) (iR_w hx40_3 (by decide) (by decide)) (by omega) (by omega) (iR_w hx92_s0 (by decide) (by decide)) (by omega) (by omega) (iR_w f_M_0_ (by decide) (by decide)) (iR_w f_M_1_ (by decide) (by decide)) (iR_w fa1 (by decide) (by decide)) (by omega) (by omega)
      have b76_0 : ∀ (ls : Array Slot) (ρ : Nat → Nat → Int32) (H : Heap) (locs : List Loc) (x76_7 : Int32) (j76_s0 : Nat), lv_has ls 8 [(0, .ref (E.2.1 + 1076)), (1, .int a1), (2, .int 369), (3, .int x40_3), (5, .int x40_5), (6, .int (nI j40_6)), (7, .int x76_7)] → WP E ρ H → va_S (hA E) s.heap H locs → RI r Bt M L X ρ → iR x76_7 (-2147483648) (2147483647) → 0 ≤ j76_s0 → j76_s0 ≤ 64 → iR (M 0) (0) (5) → iR (M 1) (0) (5) → iR a1 (1) (512) → 1 ≤ (nn a1) → (nn a1) ≤ 512 → 0 ≤ j40_4 → j40_4 ≤ 64 → 0 ≤ j40_6 → j40_6 ≤ 63 → W p l e (rmk 4 160) s m ([.ref (E.2.1 + 1076), .int a1] : List Value).toArray below meth c H locs 0 0 (MQ below (cI E (fun v ρ1 => RI r Bt M L X ρ1)) ([.ref (E.2.1 + 1076), .int a1] : List Value).toArray s 0 0 (hA E)) (F0 m 76 ls [.int (nI j76_s0)]) := by
        intro ls ρ H locs x76_7 j76_s0 hl hP hS hI hx76_7 lj76_s0 uj76_s0 f_M_0_ f_M_1_ fa1 tl_nn_a1_ tu_nn_a1_ tlj40_4 tuj40_4 tlj40_6 tuj40_6
        refine lv_istore (lv' := [(4, .int (nI j76_s0)), (0, .ref (E.2.1 + 1076)), (1, .int a1), (2, .int 369), (3, .int x40_3), (5, .int x40_5), (6, .int (nI j40_6)), (7, .int x76_7)]) hx hb dX7_bestOffset_76 hl (by decide) rfl (fun ls hl => ?_)
        refine lv_iload hx hb dX7_bestOffset_78 (lv_at hl 7 rfl) ?_
        refine lv_iload hx hb dX7_bestOffset_80 (lv_at hl 5 rfl) ?_
        refine lv_icmp_ge (tgt := 90) hx hb dX7_bestOffset_82 (by decide) (fun c236 => ?_) (fun c236 => ?_)
        · skip
          refine lv_iload hx hb dX7_bestOffset_90 (lv_at hl 5 rfl) ?_
          exact b92_0 ls ρ _ _ j76_s0 (x40_5 : Int32) (lv_sub hl [1, 2, 3, 4, 0, 6] rfl) hP hS hI (by omega) (by omega) (iR_w hx40_5 (by decide) (by decide)) (iR_w f_M_0_ (by decide) (by decide)) (iR_w f_M_1_ (by decide) (by decide)) (iR_w fa1 (by decide) (by decide)) (by omega) (by omega) (by omega) (by omega) (by omega) (by omega)
        · skip
          have i237 : iR x76_7 (-2147483648) (512) := (iR_ltL hx76_7 hx40_5 (Int32.not_le.mp c236) (by decide))
          have i238 : iR x40_5 (-2147483647) (513) := (iR_ltR hx76_7 hx40_5 (Int32.not_le.mp c236) (by decide))
          refine lv_iload hx hb dX7_bestOffset_85 (lv_at hl 7 rfl) ?_
          refine lv_goto (tgt := 92) hx hb dX7_bestOffset_87 (by decide) ?_
          exact b92_0 ls ρ _ _ j76_s0 (x76_7 : Int32) (lv_sub hl [1, 2, 3, 4, 0, 6] rfl) hP hS hI (by omega) (by omega) (iR_w i237 (by decide) (by decide)) (iR_w f_M_0_ (by decide) (by decide)) (iR_w f_M_1_ (by decide) (by decide)) (iR_w fa1 (by decide) (by decide)) (by omega) (by omega) (by omega) (by omega) (by omega) (by omega)
      refine lv_iload hx hb dX7_bestOffset_40 (lv_at hl 6 rfl) ?_
      refine lv_bipush (v := 64) hx hb dX7_bestOffset_42 (by decide) ?_
      refine lv_icmp_ge (tgt := 100) hx hb dX7_bestOffset_44 (by decide) (fun c239 => ?_) (fun c239 => ?_)
      · skip
        have n240 := mt (nx_lt (a := j40_6) (b := 64) (by omega) (by omega)).mpr (show ¬ (nI j40_6 < nI 64) from (Int32.not_lt.mpr c239))
        refine lv_aload_n hx hb dX7_bestOffset_100 rfl (lv_at hl 0 rfl) ?_
        refine get7 B hP (show hk 1076 = 7 by decide +kernel) 3 (by decide) mw_1030 rfl dX7_bestOffset_101 ?_
        refine lv_iload_n hx hb dX7_bestOffset_104 rfl (lv_at hl 2 rfl) ?_
        refine lv_iload_n hx hb dX7_bestOffset_105 rfl (lv_at hl 3 rfl) ?_
        refine astn (n := 695) (j := 369) B hP hS (show hk 1078 = 8 by decide +kernel) (show hlen 1078 = 695 by decide +kernel) rfl (by omega) (by decide) dX7_bestOffset_106 (fun H locs hP hS => ?_)
        obtain ⟨ρ241, e242⟩ : ∃ z, z = up ρ 1078 369 x40_3 := ⟨_, rfl⟩
        rw [← e242] at hP
        have hI : RI r Bt M L X ρ241 := by rw [e242]; exact RI_up hI (ok_net (n0 := 1) (j := 369) 1 (by omega) (by omega) (by omega))
        refine lv_iload hx hb dX7_bestOffset_107 (lv_at hl 4 rfl) ?_
        exact ret_i B hr hlk hP hS dX7_bestOffset_109 (hI)
      · skip
        have n243 := (nx_lt (a := j40_6) (b := 64) (by omega) (by omega)).mp (show (nI j40_6 < nI 64) from (Int32.not_le.mp c239))
        refine lv_aload_n hx hb dX7_bestOffset_47 rfl (lv_at hl 0 rfl) ?_
        refine get7 B hP (show hk 1076 = 7 by decide +kernel) 3 (by decide) mw_1030 rfl dX7_bestOffset_48 ?_
        refine lv_iload_n hx hb dX7_bestOffset_51 rfl (lv_at hl 2 rfl) ?_
        refine lv_iload hx hb dX7_bestOffset_52 (lv_at hl 6 rfl) ?_
        refine astn (n := 695) (j := 369) B hP hS (show hk 1078 = 8 by decide +kernel) (show hlen 1078 = 695 by decide +kernel) rfl (by omega) (by decide) dX7_bestOffset_54 (fun H locs hP hS => ?_)
        obtain ⟨ρ244, e245⟩ : ∃ z, z = up ρ 1078 369 (nI j40_6) := ⟨_, rfl⟩
        rw [← e245] at hP
        have hI : RI r Bt M L X ρ244 := by rw [e245]; exact RI_up hI (ok_net (n0 := 1) (j := 369) 1 (by omega) (by omega) (by omega))
        refine lv_aload_n hx hb dX7_bestOffset_55 rfl (lv_at hl 0 rfl) ?_
        refine lv_iload_n hx hb dX7_bestOffset_56 rfl (lv_at hl 1 rfl) ?_
        have := nn_r (x := a1) (a := 1) (b := 512) fa1 (by decide)
        refine lv_topi (fun z246 ez246 => ?_)
        obtain rfl : z246 = nI (nn a1) := ez246.trans (nn_eq a1)
        refine call_i (cVt (k := 1076) (av := [.int (nI (nn a1))]) (rest := []) B hP hS (d_X7_clashesBy l E ρ244 r Bt hBt M L X (nn a1) (by omega) (by omega) hI f_M_0_ f_M_1_) lk_RX7_260 (hrecv (ci := 7) B hP (hk_lt (c := 7) (show hk 1076 = 7 by decide +kernel) (by decide)) (hcc7 _ _ (show hk 1076 = 7 by decide +kernel)) rfl) rfl rfl hl.1 (Nat.le_of_ble_eq_true rfl) ⟨Nat.le_of_ble_eq_true rfl, Nat.le_of_ble_eq_true rfl⟩ ⟨Nat.le_of_ble_eq_true rfl, Nat.le_of_ble_eq_true rfl⟩ dX7_bestOffset_57) hS (fun r247 ρ248 H locs q249 hP hS => ?_)
        obtain ⟨rfl, hI⟩ := q249
        refine lv_istore (lv' := [(7, .int r247), (0, .ref (E.2.1 + 1076)), (1, .int a1), (2, .int 369), (3, .int x40_3), (4, .int (nI j40_4)), (5, .int x40_5), (6, .int (nI j40_6))]) hx hb dX7_bestOffset_60 hl (by decide) rfl (fun ls hl => ?_)
        refine lv_iload hx hb dX7_bestOffset_62 (lv_at hl 0 rfl) ?_
        refine lv_iload hx hb dX7_bestOffset_64 (lv_at hl 6 rfl) ?_
        refine lv_icmp_ge (tgt := 74) hx hb dX7_bestOffset_66 (by decide) (fun c250 => ?_) (fun c250 => ?_)
        · skip
          refine lv_iload hx hb dX7_bestOffset_74 (lv_at hl 5 rfl) ?_
          exact b76_0 ls ρ244 _ _ (r247 : Int32) j40_4 (lv_sub hl [1, 2, 3, 4, 6, 7, 0] rfl) hP hS hI (iR_w (iR_any r247) (by decide) (by decide)) (by omega) (by omega) (iR_w f_M_0_ (by decide) (by decide)) (iR_w f_M_1_ (by decide) (by decide)) (iR_w fa1 (by decide) (by decide)) (by omega) (by omega) (by omega) (by omega) (by omega) (by omega)
        · skip
          have i251 : iR r247 (-2147483648) (512) := (iR_ltL (iR_any r247) hx40_5 (Int32.not_le.mp c250) (by decide))
          have i252 : iR x40_5 (-2147483647) (513) := (iR_ltR (iR_any r247) hx40_5 (Int32.not_le.mp c250) (by decide))
          refine lv_iload hx hb dX7_bestOffset_69 (lv_at hl 7 rfl) ?_
          refine lv_goto (tgt := 76) hx hb dX7_bestOffset_71 (by decide) ?_
          exact b76_0 ls ρ244 _ _ (r247 : Int32) j40_6 (lv_sub hl [1, 2, 3, 4, 6, 7, 0] rfl) hP hS hI (iR_w i251 (by decide) (by decide)) (by omega) (by omega) (iR_w f_M_0_ (by decide) (by decide)) (iR_w f_M_1_ (by decide) (by decide)) (iR_w fa1 (by decide) (by decide)) (by omega) (by omega) (by omega) (by omega) (by omega) (by omega)
  refine lv_aload_n hx hb dX7_bestOffset_0 rfl (lv_at hl 0 rfl) ?_
  refine lv_iconst (v := 0) hx hb dX7_bestOffset_1 (by decide) ?_
  refine put7 B hP hS (show hk 1076 = 7 by decide +kernel) 0 (by decide) mw_1027 rfl rfl rfl (fs7_0 E 1076 _ _) dX7_bestOffset_2 (fun H locs hP hS => ?_)
  obtain ⟨ρ253, e254⟩ : ∃ z, z = up ρ 1076 0 0 := ⟨_, rfl⟩
  rw [← e254] at hP
  have hI : RI r Bt M L X ρ253 := by rw [e254]; exact RI_76 hI (by decide)
  refine lv_aload_n hx hb dX7_bestOffset_5 rfl (lv_at hl 0 rfl) ?_
  refine lv_iload_n hx hb dX7_bestOffset_6 rfl (lv_at hl 1 rfl) ?_
  refine call_i (cVt (k := 1076) (av := [.int a1]) (rest := []) B hP hS (d_X7_areBoth l E ρ253 r Bt hBt M L X a1 hI) lk_RX7_257 (hrecv (ci := 7) B hP (hk_lt (c := 7) (show hk 1076 = 7 by decide +kernel) (by decide)) (hcc7 _ _ (show hk 1076 = 7 by decide +kernel)) rfl) rfl rfl hl.1 (Nat.le_of_ble_eq_true rfl) ⟨Nat.le_of_ble_eq_true rfl, Nat.le_of_ble_eq_true rfl⟩ ⟨Nat.le_of_ble_eq_true rfl, Nat.le_of_ble_eq_true rfl⟩ dX7_bestOffset_7) hS (fun r255 ρ256 H locs q257 hP hS => ?_)
  obtain ⟨rfl, hI, q257⟩ := q257
  rcases q257 with rfl | ⟨rfl, i258, i259, i260⟩
  · skip
    refine lv_if_ne (tgt := 15) hx hb dX7_bestOffset_10 (by decide) (fun c261 => absurd rfl c261) (fun _ => ?_)
    refine lv_iconst (v := (-1)) hx hb dX7_bestOffset_13 (by decide) ?_
    exact ret_i B hr hlk hP hS dX7_bestOffset_14 (hI)
  · skip
    refine lv_if_ne (tgt := 15) hx hb dX7_bestOffset_10 (by decide) (fun _ => ?_) (fun c262 => absurd c262 (iR_ne (show iR 1 (1) (1) from ⟨by decide, by decide⟩) (show iR 0 (0) (0) from ⟨by decide, by decide⟩) (by decide)))
    refine lv_iconst (v := 1) hx hb dX7_bestOffset_15 (by decide) ?_
    refine call_i (cS (av := [.int 1]) (rest := []) B hP hS (d_X7_netAt l E ρ253 r Bt hBt M L X 1 (by omega) (by omega) hI) lk_RX7_75 rfl rfl hl.1 (Nat.le_of_ble_eq_true rfl) ⟨Nat.le_of_ble_eq_true rfl, Nat.le_of_ble_eq_true rfl⟩ ⟨Nat.le_of_ble_eq_true rfl, Nat.le_of_ble_eq_true rfl⟩ dX7_bestOffset_16) hS (fun r263 ρ264 H locs q265 hP hS => ?_)
    obtain ⟨rfl, hI, q265⟩ := q265
    obtain rfl : r263 = nI 368 := q265.trans (congrArg nI (by omega))
    refine lv_iconst (v := 1) hx hb dX7_bestOffset_19 (by decide) ?_
    refine lv_iadd hx hb dX7_bestOffset_20 ?_
    refine lv_topi (fun z266 ez266 => ?_)
    obtain rfl : z266 = 369 := ez266.trans (by decide)
    refine lv_istore_n (lv' := [(2, .int 369), (0, .ref (E.2.1 + 1076)), (1, .int a1)]) hx hb dX7_bestOffset_21 rfl hl (by decide) rfl (fun ls hl => ?_)
    refine lv_aload_n hx hb dX7_bestOffset_22 rfl (lv_at hl 1 rfl) ?_
    refine get7 B hP (show hk 1076 = 7 by decide +kernel) 3 (by decide) mw_1030 rfl dX7_bestOffset_23 ?_
    refine lv_iload_n hx hb dX7_bestOffset_26 rfl (lv_at hl 0 rfl) ?_
    refine aldn (n := 695) (j := 369) B hP (show hk 1078 = 8 by decide +kernel) (show hlen 1078 = 695 by decide +kernel) rfl (by omega) (by decide) dX7_bestOffset_27 ?_
    refine lv_istore_n (lv' := [(3, .int (ρ253 1078 369)), (2, .int 369), (0, .ref (E.2.1 + 1076)), (1, .int a1)]) hx hb dX7_bestOffset_28 rfl hl (by decide) rfl (fun ls hl => ?_)
    refine lv_iconst (v := 0) hx hb dX7_bestOffset_29 (by decide) ?_
    refine lv_istore (lv' := [(4, .int 0), (3, .int (ρ253 1078 369)), (2, .int 369), (0, .ref (E.2.1 + 1076)), (1, .int a1)]) hx hb dX7_bestOffset_30 hl (by decide) rfl (fun ls hl => ?_)
    refine lv_iload_n hx hb dX7_bestOffset_32 rfl (lv_at hl 4 rfl) ?_
    have := nn_r (x := a1) (a := 1) (b := 512) i260 (by decide)
    refine lv_topi (fun z267 ez267 => ?_)
    obtain rfl : z267 = nI (nn a1) := ez267.trans (nn_eq a1)
    refine lv_iconst (v := 1) hx hb dX7_bestOffset_33 (by decide) ?_
    refine lv_iadd hx hb dX7_bestOffset_34 ?_
    refine lv_topi (fun z268 ez268 => ?_)
    obtain rfl : z268 = (nI (1 + (nn a1))) := ez268.trans (by rw [show (nI (nn a1)) = nI (nn a1) from rfl, show 1 = nI 1 from rfl, nI_add] <;> exact congrArg nI (by omega))
    refine lv_istore (lv' := [(5, .int (nI (1 + (nn a1)))), (4, .int 0), (3, .int (ρ253 1078 369)), (2, .int 369), (0, .ref (E.2.1 + 1076)), (1, .int a1)]) hx hb dX7_bestOffset_35 hl (by decide) rfl (fun ls hl => ?_)
    refine lv_iconst (v := 0) hx hb dX7_bestOffset_37 (by decide) ?_
    refine lv_istore (lv' := [(6, .int 0), (5, .int (nI (1 + (nn a1)))), (4, .int 0), (3, .int (ρ253 1078 369)), (2, .int 369), (0, .ref (E.2.1 + 1076)), (1, .int a1)]) hx hb dX7_bestOffset_38 hl (by decide) rfl (fun ls hl => ?_)
    exact b40_0 ls ρ253 _ _ _ ((ρ253 1078 369) : Int32) 0 ((nI (1 + (nn a1))) : Int32) 0 (lv_sub hl [5, 6, 4, 3, 2, 1, 0] rfl) hP hS hI (Nat.lt_succ_self _) (iR_w (iR_any (ρ253 1078 369)) (by decide) (by decide)) (by omega) (by omega) (iR_w (nI_iR (j := (1 + (nn a1))) (a := 2) (b := 513) (by omega) (by omega) (by omega)) (by decide) (by decide)) (by omega) (by omega) (iR_w i258 (by decide) (by decide)) (iR_w i259 (by decide) (by decide)) (iR_w i260 (by decide) (by decide)) (by omega) (by omega)

set_option maxHeartbeats 4000000 in
set_option maxRecDepth 100000 in
theorem d_X7_ready (l : Launch) (E : hE) (ρ r : Nat → Nat → Int32) (Bt : Nat) (hBt : Bt ≤ 1000000) (M : Nat → Int32) (L : Nat → Nat) (X : Nat × Nat → Prop) (a1 : Int32) (a2 : Int32) (hI : RI r Bt M L X ρ) : Met l yX7_ready (.code yX7_ready cX7_ready 5 (some .int) :: gw_all) (rmk 6 240) (cPre E ρ [.ref (E.2.1 + 1076), .int a1, .int a2]) (cI E (fun v ρ1 => RI r Bt M L X ρ1)) 0 0 (hA E) := by
  refine ent (own := RX7) (by decide) rfl (Nat.le_of_ble_eq_true rfl) ?_
  intro p e s m below meth c ls B hr hlk hl hP hS
  have hx := B.1.1
  have hb := B.1.2.1
  have hown := B.1.2.2.2.1
  have hts := B.1.2.2.2.2
  have hl : lv_has ls 5 [(0, .ref (E.2.1 + 1076)), (1, .int a1), (2, .int a2)] := hl
  have b31_0 : ∀ (ls : Array Slot) (ρ : Nat → Nat → Int32) (H : Heap) (locs : List Loc) (d31 : Nat) (x31_3 : Int32) (x31_4 : Int32), lv_has ls 5 [(0, .ref (E.2.1 + 1076)), (1, .int a1), (2, .int a2), (3, .int x31_3), (4, .int x31_4)] → WP E ρ H → va_S (hA E) s.heap H locs → RI r Bt M L X ρ → (x31_4.toInt + 2147483648).toNat < d31 → iR x31_3 (-1) (1000198) → iR x31_4 (-2147483648) (1000198) → iR (M (nn a1)) (0) (5) → iR a1 (0) (1) → iR a2 (0) (3) → 1 ≤ (L (nn a1)) → (L (nn a1)) ≤ 4 → 0 ≤ (nn a1) → (nn a1) ≤ 1 → 0 ≤ (nn a2) → (nn a2) ≤ 3 → (nn a2) + 1 ≤ L (nn a1) → iR a2 (-1) ((L (nn a1) : Int) - 1) → W p l e (rmk 6 240) s m ([.ref (E.2.1 + 1076), .int a1, .int a2] : List Value).toArray below meth c H locs 0 0 (MQ below (cI E (fun v ρ1 => RI r Bt M L X ρ1)) ([.ref (E.2.1 + 1076), .int a1, .int a2] : List Value).toArray s 0 0 (hA E)) (F0 m 31 ls []) := by
    intro ls ρ H locs d31
    induction d31 generalizing ls ρ H locs with
    | zero => intro x31_3 x31_4 hl hP hS hI hd31 hx31_3 hx31_4 f_M__nn_a1__ fa1 fa2 tl_L__nn_a1__ tu_L__nn_a1__ tl_nn_a1_ tu_nn_a1_ tl_nn_a2_ tu_nn_a2_ hr31_0 hr31_1; exact absurd hd31 (Nat.not_lt_zero _)
    | succ d31 ih31 =>
      intro x31_3 x31_4 hl hP hS hI hd31 hx31_3 hx31_4 f_M__nn_a1__ fa1 fa2 tl_L__nn_a1__ tu_L__nn_a1__ tl_nn_a1_ tu_nn_a1_ tl_nn_a2_ tu_nn_a2_ hr31_0 hr31_1
      have b60_0 : ∀ (ls : Array Slot) (ρ : Nat → Nat → Int32) (H : Heap) (locs : List Loc) (x60_s0 : Int32), lv_has ls 5 [(0, .ref (E.2.1 + 1076)), (1, .int a1), (2, .int a2), (4, .int x31_4)] → WP E ρ H → va_S (hA E) s.heap H locs → RI r Bt M L X ρ → iR x60_s0 (-1) (1000198) → iR (M (nn a1)) (0) (5) → iR a1 (0) (1) → iR a2 (0) (3) → iR x31_4 (0) (1000198) → 1 ≤ (L (nn a1)) → (L (nn a1)) ≤ 4 → 0 ≤ (nn a1) → (nn a1) ≤ 1 → 0 ≤ (nn a2) → (nn a2) ≤ 3 → (nn a2) + 1 ≤ L (nn a1) → iR a2 (-1) ((L (nn a1) : Int) - 1) → W p l e (rmk 6 240) s m ([.ref (E.2.1 + 1076), .int a1, .int a2] : List Value).toArray below meth c H locs 0 0 (MQ below (cI E (fun v ρ1 => RI r Bt M L X ρ1)) ([.ref (E.2.1 + 1076), .int a1, .int a2] : List Value).toArray s 0 0 (hA E)) (F0 m 60 ls [.int x60_s0]) := by
        intro ls ρ H locs x60_s0 hl hP hS hI hx60_s0 f_M__nn_a1__ fa1 fa2 fx31_4 tl_L__nn_a1__ tu_L__nn_a1__ tl_nn_a1_ tu_nn_a1_ tl_nn_a2_ tu_nn_a2_ hr60_0 hr60_1
        refine lv_istore_n (lv' := [(3, .int x60_s0), (0, .ref (E.2.1 + 1076)), (1, .int a1), (2, .int a2), (4, .int x31_4)]) hx hb dX7_ready_60 rfl hl (by decide) rfl (fun ls hl => ?_)
        have m348 := iI_dec (m := (-2)) (n := -2) fx31_4 rfl (by decide) (by decide)
        refine lv_iinc (v := (x31_4 + (-2))) (lv' := [(4, .int (x31_4 + (-2))), (3, .int x60_s0), (0, .ref (E.2.1 + 1076)), (1, .int a1), (2, .int a2)]) hx hb dX7_ready_61 hl (k := 4) rfl rfl (by decide) rfl (fun ls hl => ?_)
        refine lv_goto (tgt := 31) hx hb dX7_ready_64 (by decide) ?_
        exact ih31 ls ρ _ _ (x60_s0 : Int32) ((x31_4 + (-2)) : Int32) (lv_sub hl [2, 3, 4, 1, 0] rfl) hP hS hI (dn_lt m348 hd31 (by decide) (by decide)) (iR_w hx60_s0 (by decide) (by decide)) (iR_w (iR_add (a' := -2) (b' := 1000196) fx31_4 (show iR (-2) (-2) (-2) from ⟨by decide, by decide⟩) (by decide) (by decide) (by decide) (by decide)) (by decide) (by decide)) (iR_w f_M__nn_a1__ (by decide) (by decide)) (iR_w fa1 (by decide) (by decide)) (iR_w fa2 (by decide) (by decide)) (by omega) (by omega) (by omega) (by omega) (by omega) (by omega) (by omega) hr60_1
      refine lv_iload hx hb dX7_ready_31 (lv_at hl 4 rfl) ?_
      refine lv_aload_n hx hb dX7_ready_33 rfl (lv_at hl 0 rfl) ?_
      refine get7 B hP (show hk 1076 = 7 by decide +kernel) 3 (by decide) mw_1030 rfl dX7_ready_34 ?_
      refine lv_bipush (v := 7) hx hb dX7_ready_37 (by decide) ?_
      refine aldn (n := 695) (j := 7) B hP (show hk 1078 = 8 by decide +kernel) (show hlen 1078 = 695 by decide +kernel) rfl (by omega) (by decide) dX7_ready_39 ?_
      have i349 : iR (ρ 1078 7) (0) (1000000) := (iR_w (g_time hI) (by omega) (by omega))
      obtain ⟨j350, lj350, uj350, ej350⟩ := iR_nat (a := 0) (b := 1000000) i349
      refine lv_topi (fun z351 ez351 => ?_)
      obtain rfl : z351 = nI j350 := ez351.trans ej350
      refine lv_icmp_lt (tgt := 67) hx hb dX7_ready_40 (by decide) (fun c352 => ?_) (fun c352 => ?_)
      · skip
        have i353 : iR x31_4 (-2147483648) (999999) := (iR_ltL hx31_4 (nI_iR (j := j350) (a := 0) (b := 1000000) (by omega) (by omega) (by omega)) c352 (by decide))
        refine lv_iload_n hx hb dX7_ready_67 rfl (lv_at hl 3 rfl) ?_
        exact ret_i B hr hlk hP hS dX7_ready_68 (hI)
      · skip
        have i354 : iR x31_4 (0) (1000198) := (iR_geL hx31_4 (nI_iR (j := j350) (a := 0) (b := 1000000) (by omega) (by omega) (by omega)) c352 (by decide))
        refine lv_aload_n hx hb dX7_ready_43 rfl (lv_at hl 0 rfl) ?_
        refine lv_iload_n hx hb dX7_ready_44 rfl (lv_at hl 1 rfl) ?_
        have := nn_r (x := a1) (a := 0) (b := 1) fa1 (by decide)
        refine lv_topi (fun z355 ez355 => ?_)
        obtain rfl : z355 = nI (nn a1) := ez355.trans (nn_eq a1)
        refine lv_iload_n hx hb dX7_ready_45 rfl (lv_at hl 2 rfl) ?_
        have := nn_r (x := a2) (a := 0) (b := 3) fa2 (by decide)
        refine lv_topi (fun z356 ez356 => ?_)
        obtain rfl : z356 = nI (nn a2) := ez356.trans (nn_eq a2)
        refine lv_iload hx hb dX7_ready_46 (lv_at hl 4 rfl) ?_
        obtain ⟨j357, lj357, uj357, ej357⟩ := iR_nat (a := 0) (b := 1000198) i354
        refine lv_topi (fun z358 ez358 => ?_)
        obtain rfl : z358 = nI j357 := ez358.trans ej357
        refine call_i (cVt (k := 1076) (av := [.int (nI (nn a1)), .int (nI (nn a2)), .int (nI j357)]) (rest := []) B hP hS (d_X7_isReady l E ρ r Bt hBt M L X (nn a1) (by omega) (by omega) (nn a2) (by omega) (by omega) (nI j357) hI) lk_RX7_179 (hrecv (ci := 7) B hP (hk_lt (c := 7) (show hk 1076 = 7 by decide +kernel) (by decide)) (hcc7 _ _ (show hk 1076 = 7 by decide +kernel)) rfl) rfl rfl hl.1 (Nat.le_of_ble_eq_true rfl) ⟨Nat.le_of_ble_eq_true rfl, Nat.le_of_ble_eq_true rfl⟩ ⟨Nat.le_of_ble_eq_true rfl, Nat.le_of_ble_eq_true rfl⟩ dX7_ready_48) hS (fun r359 ρ360 H locs q361 hP hS => ?_)
        obtain ⟨rfl, hI, q361⟩ := q361
        obtain ⟨j362, lj362, uj362, ej362⟩ := iR_nat (a := 0) (b := 1) q361
        refine lv_topi (fun z363 ez363 => ?_)
        obtain rfl : z363 = nI j362 := ez363.trans ej362
        refine lv_if_eq (tgt := 59) hx hb dX7_ready_51 (by decide) (fun c364 => ?_) (fun c364 => ?_)
        · skip
          have n365 := (nI_eq (a := j362) (b := 0) (by omega) (by omega)).mp (show (nI j362 = nI 0) from c364)
          refine lv_iload_n hx hb dX7_ready_59 rfl (lv_at hl 3 rfl) ?_
          exact b60_0 ls ρ _ _ (x31_3 : Int32) (lv_sub hl [0, 1, 2, 4] rfl) hP hS hI (iR_w hx31_3 (by decide) (by decide)) (iR_w f_M__nn_a1__ (by decide) (by decide)) (iR_w fa1 (by decide) (by decide)) (iR_w fa2 (by decide) (by decide)) (iR_w i354 (by decide) (by decide)) (by omega) (by omega) (by omega) (by omega) (by omega) (by omega) (by omega) hr31_1
        · skip
          have n366 := mt (nI_eq (a := j362) (b := 0) (by omega) (by omega)).mpr (show ¬ (nI j362 = nI 0) from c364)
          refine lv_iload hx hb dX7_ready_54 (lv_at hl 4 rfl) ?_
          refine lv_topi (fun z367 ez367 => ?_)
          obtain rfl : z367 = nI j357 := ez367.trans ej357
          refine lv_goto (tgt := 60) hx hb dX7_ready_56 (by decide) ?_
          exact b60_0 ls ρ _ _ ((nI j357) : Int32) (lv_sub hl [0, 1, 2, 4] rfl) hP hS hI (iR_w (nI_iR (j := j357) (a := 0) (b := 1000198) (by omega) (by omega) (by omega)) (by decide) (by decide)) (iR_w f_M__nn_a1__ (by decide) (by decide)) (iR_w fa1 (by decide) (by decide)) (iR_w fa2 (by decide) (by decide)) (iR_w i354 (by decide) (by decide)) (by omega) (by omega) (by omega) (by omega) (by omega) (by omega) (by omega) hr31_1
  refine lv_aload_n hx hb dX7_ready_0 rfl (lv_at hl 0 rfl) ?_
  refine lv_iconst (v := 0) hx hb dX7_ready_1 (by decide) ?_
  refine put7 B hP hS (show hk 1076 = 7 by decide +kernel) 0 (by decide) mw_1027 rfl rfl rfl (fs7_0 E 1076 _ _) dX7_ready_2 (fun H locs hP hS => ?_)
  obtain ⟨ρ368, e369⟩ : ∃ z, z = up ρ 1076 0 0 := ⟨_, rfl⟩
  rw [← e369] at hP
  have hI : RI r Bt M L X ρ368 := by rw [e369]; exact RI_76 hI (by decide)
  refine lv_aload_n hx hb dX7_ready_5 rfl (lv_at hl 0 rfl) ?_
  refine lv_iload_n hx hb dX7_ready_6 rfl (lv_at hl 1 rfl) ?_
  refine lv_iload_n hx hb dX7_ready_7 rfl (lv_at hl 2 rfl) ?_
  refine call_i (cVt (k := 1076) (av := [.int a1, .int a2]) (rest := []) B hP hS (d_X7_isLink l E ρ368 r Bt hBt M L X a1 a2 hI) lk_RX7_106 (hrecv (ci := 7) B hP (hk_lt (c := 7) (show hk 1076 = 7 by decide +kernel) (by decide)) (hcc7 _ _ (show hk 1076 = 7 by decide +kernel)) rfl) rfl rfl hl.1 (Nat.le_of_ble_eq_true rfl) ⟨Nat.le_of_ble_eq_true rfl, Nat.le_of_ble_eq_true rfl⟩ ⟨Nat.le_of_ble_eq_true rfl, Nat.le_of_ble_eq_true rfl⟩ dX7_ready_8) hS (fun r370 ρ371 H locs q372 hP hS => ?_)
  obtain ⟨rfl, hI, q372⟩ := q372
  rcases q372 with rfl | ⟨rfl, j373, hj373, ej373, i374, j375, hj375, ej375⟩
  · skip
    refine lv_if_ne (tgt := 16) hx hb dX7_ready_11 (by decide) (fun c376 => absurd rfl c376) (fun _ => ?_)
    refine lv_iconst (v := (-1)) hx hb dX7_ready_14 (by decide) ?_
    exact ret_i B hr hlk hP hS dX7_ready_15 (hI)
  · skip
    have := RI_Lb hI hj373
    have n377 : nn a1 = j373 := nn_u ej373 (by omega)
    have i378 : iR (M (nn a1)) 0 5 := by rw [n377]; exact i374
    have : j375 < L (nn a1) := by rw [n377]; exact hj375
    have := RI_Lb (n := (nn a1)) hI (by omega)
    have n379 : nn a2 = j375 := nn_u ej375 (by omega)
    refine lv_if_ne (tgt := 16) hx hb dX7_ready_11 (by decide) (fun _ => ?_) (fun c380 => absurd c380 (iR_ne (show iR 1 (1) (1) from ⟨by decide, by decide⟩) (show iR 0 (0) (0) from ⟨by decide, by decide⟩) (by decide)))
    refine lv_iconst (v := (-1)) hx hb dX7_ready_16 (by decide) ?_
    refine lv_istore_n (lv' := [(3, .int (-1)), (0, .ref (E.2.1 + 1076)), (1, .int a1), (2, .int a2)]) hx hb dX7_ready_17 rfl hl (by decide) rfl (fun ls hl => ?_)
    refine lv_aload_n hx hb dX7_ready_18 rfl (lv_at hl 1 rfl) ?_
    refine get7 B hP (show hk 1076 = 7 by decide +kernel) 3 (by decide) mw_1030 rfl dX7_ready_19 ?_
    refine lv_bipush (v := 7) hx hb dX7_ready_22 (by decide) ?_
    refine aldn (n := 695) (j := 7) B hP (show hk 1078 = 8 by decide +kernel) (show hlen 1078 = 695 by decide +kernel) rfl (by omega) (by decide) dX7_ready_24 ?_
    have i381 : iR (ρ368 1078 7) (0) (1000000) := (iR_w (g_time hI) (by omega) (by omega))
    obtain ⟨j382, lj382, uj382, ej382⟩ := iR_nat (a := 0) (b := 1000000) i381
    refine lv_topi (fun z383 ez383 => ?_)
    obtain rfl : z383 = nI j382 := ez383.trans ej382
    refine lv_sipush (v := 198) hx hb dX7_ready_25 (by decide) ?_
    refine lv_iadd hx hb dX7_ready_28 ?_
    refine lv_topi (fun z384 ez384 => ?_)
    obtain rfl : z384 = (nI (198 + j382)) := ez384.trans (by rw [show (nI j382) = nI j382 from rfl, show 198 = nI 198 from rfl, nI_add] <;> exact congrArg nI (by omega))
    refine lv_istore (lv' := [(4, .int (nI (198 + j382))), (3, .int (-1)), (0, .ref (E.2.1 + 1076)), (1, .int a1), (2, .int a2)]) hx hb dX7_ready_29 hl (by decide) rfl (fun ls hl => ?_)
    exact b31_0 ls ρ368 _ _ _ ((-1) : Int32) ((nI (198 + j382)) : Int32) (lv_sub hl [2, 3, 4, 1, 0] rfl) hP hS hI (Nat.lt_succ_self _) (iR_w (show iR (-1) (-1) (-1) from ⟨by decide, by decide⟩) (by decide) (by decide)) (iR_w (nI_iR (j := (198 + j382)) (a := 198) (b := 1000198) (by omega) (by omega) (by omega)) (by decide) (by decide)) (iR_w i378 (by decide) (by decide)) (iR_w (show iR a1 0 1 from by rw [ej373]; exact nI_iR (by omega) (by omega) (by omega)) (by decide) (by decide)) (iR_w (show iR a2 0 3 from by rw [ej375]; exact nI_iR (by omega) (by omega) (by omega)) (by decide) (by decide)) (by omega) (by omega) (by omega) (by omega) (by omega) (by omega) (by omega) (show iR a2 (-1) ((L (nn a1) : Int) - 1) from by rw [ej375]; exact rl_nat (k := j375) (by omega) (by omega))

set_option maxHeartbeats 4000000 in
set_option maxRecDepth 100000 in
theorem d_X7_bothReady (l : Launch) (E : hE) (ρ r : Nat → Nat → Int32) (Bt : Nat) (hBt : Bt ≤ 1000000) (M : Nat → Int32) (L : Nat → Nat) (X : Nat × Nat → Prop) (a1 : Int32) (a2 : Int32) (a3 : Int32) (a4 : Int32) (hI : RI r Bt M L X ρ) : Met l yX7_bothReady (.code yX7_bothReady cX7_bothReady 8 (some .int) :: gw_all) (rmk 6 240) (cPre E ρ [.ref (E.2.1 + 1076), .int a1, .int a2, .int a3, .int a4]) (cI E (fun v ρ1 => RI r Bt M L X ρ1)) 0 0 (hA E) := by
  refine ent (own := RX7) (by decide) rfl (Nat.le_of_ble_eq_true rfl) ?_
  intro p e s m below meth c ls B hr hlk hl hP hS
  have hx := B.1.1
  have hb := B.1.2.1
  have hown := B.1.2.2.2.1
  have hts := B.1.2.2.2.2
  have hl : lv_has ls 8 [(0, .ref (E.2.1 + 1076)), (1, .int a1), (2, .int a2), (3, .int a3), (4, .int a4)] := hl
  have b44_0 : ∀ (ls : Array Slot) (ρ : Nat → Nat → Int32) (H : Heap) (locs : List Loc) (d44 : Nat) (x44_5 : Int32) (j44_6 : Nat), lv_has ls 8 [(0, .ref (E.2.1 + 1076)), (1, .int a1), (2, .int a2), (3, .int a3), (4, .int a4), (5, .int x44_5), (6, .int (nI j44_6))] → WP E ρ H → va_S (hA E) s.heap H locs → RI r Bt M L X ρ → 201 - j44_6 < d44 → iR x44_5 (-2147483648) (2147483647) → 0 ≤ j44_6 → j44_6 ≤ 200 → iR (M (nn a1)) (0) (5) → iR a1 (0) (1) → iR a2 (0) (3) → iR a3 (0) (3) → iR a4 (1) (200) → 1 ≤ (L (nn a1)) → (L (nn a1)) ≤ 4 → 0 ≤ (nn a1) → (nn a1) ≤ 1 → 0 ≤ (nn a2) → (nn a2) ≤ 3 → 0 ≤ (nn a3) → (nn a3) ≤ 3 → (nn a2) + 1 ≤ L (nn a1) → (nn a3) + 1 ≤ L (nn a1) → iR a2 (-1) ((L (nn a1) : Int) - 1) → iR a3 (-1) ((L (nn a1) : Int) - 1) → W p l e (rmk 6 240) s m ([.ref (E.2.1 + 1076), .int a1, .int a2, .int a3, .int a4] : List Value).toArray below meth c H locs 0 0 (MQ below (cI E (fun v ρ1 => RI r Bt M L X ρ1)) ([.ref (E.2.1 + 1076), .int a1, .int a2, .int a3, .int a4] : List Value).toArray s 0 0 (hA E)) (F0 m 44 ls []) := by
    intro ls ρ H locs d44
    induction d44 generalizing ls ρ H locs with
    | zero => intro x44_5 j44_6 hl hP hS hI hd44 hx44_5 lj44_6 uj44_6 f_M__nn_a1__ fa1 fa2 fa3 fa4 tl_L__nn_a1__ tu_L__nn_a1__ tl_nn_a1_ tu_nn_a1_ tl_nn_a2_ tu_nn_a2_ tl_nn_a3_ tu_nn_a3_ hr44_0 hr44_1 hr44_2 hr44_3; exact absurd hd44 (Nat.not_lt_zero _)
    | succ d44 ih44 =>
      intro x44_5 j44_6 hl hP hS hI hd44 hx44_5 lj44_6 uj44_6 f_M__nn_a1__ fa1 fa2 fa3 fa4 tl_L__nn_a1__ tu_L__nn_a1__ tl_nn_a1_ tu_nn_a1_ tl_nn_a2_ tu_nn_a2_ tl_nn_a3_ tu_nn_a3_ hr44_0 hr44_1 hr44_2 hr44_3
      have b94_0 : ∀ (ls : Array Slot) (ρ : Nat → Nat → Int32) (H : Heap) (locs : List Loc) , lv_has ls 8 [(0, .ref (E.2.1 + 1076)), (1, .int a1), (2, .int a2), (3, .int a3), (4, .int a4), (6, .int (nI j44_6))] → WP E ρ H → va_S (hA E) s.heap H locs → RI r Bt M L X ρ → iR (M (nn a1)) (0) (5) → iR a1 (0) (1) → iR a2 (0) (3) → iR a3 (0) (3) → iR a4 (1) (200) → 1 ≤ (L (nn a1)) → (L (nn a1)) ≤ 4 → 0 ≤ (nn a1) → (nn a1) ≤ 1 → 0 ≤ (nn a2) → (nn a2) ≤ 3 → 0 ≤ (nn a3) → (nn a3) ≤ 3 → 1 ≤ (nn a4) → (nn a4) ≤ 200 → 0 ≤ j44_6 → j44_6 ≤ 199 → (nn a2) + 1 ≤ L (nn a1) → (nn a3) + 1 ≤ L (nn a1) → iR a2 (-1) ((L (nn a1) : Int) - 1) → iR a3 (-1) ((L (nn a1) : Int) - 1) → W p l e (rmk 6 240) s m ([.ref (E.2.1 + 1076), .int a1, .int a2, .int a3, .int a4] : List Value).toArray below meth c H locs 0 0 (MQ below (cI E (fun v ρ1 => RI r Bt M L X ρ1)) ([.ref (E.2.1 + 1076), .int a1, .int a2, .int a3, .int a4] : List Value).toArray s 0 0 (hA E)) (F0 m 94 ls [.int 0, .int x44_5]) := by
        intro ls ρ H locs  hl hP hS hI f_M__nn_a1__ fa1 fa2 fa3 fa4 tl_L__nn_a1__ tu_L__nn_a1__ tl_nn_a1_ tu_nn_a1_ tl_nn_a2_ tu_nn_a2_ tl_nn_a3_ tu_nn_a3_ tl_nn_a4_ tu_nn_a4_ tlj44_6 tuj44_6 hr94_0 hr94_1 hr94_2 hr94_3
        refine lv_iadd hx hb dX7_bothReady_94 ?_
        refine lv_istore (lv' := [(5, .int (x44_5 + 0)), (0, .ref (E.2.1 + 1076)), (1, .int a1), (2, .int a2), (3, .int a3), (4, .int a4), (6, .int (nI j44_6))]) hx hb dX7_bothReady_95 hl (by decide) rfl (fun ls hl => ?_)
        refine lv_iinc (v := (nI (1 + j44_6))) (lv' := [(6, .int (nI (1 + j44_6))), (5, .int (x44_5 + 0)), (0, .ref (E.2.1 + 1076)), (1, .int a1), (2, .int a2), (3, .int a3), (4, .int a4)]) hx hb dX7_bothReady_97 hl (k := 6) rfl (show nI j44_6 + nI 1 = _ from (nI_add _ _).trans (congrArg nI (by omega))) (by decide) rfl (fun ls hl => ?_)
        refine lv_goto (tgt := 44) hx hb dX7_bothReady_100 (by decide) ?_
        exact ih44 ls ρ _ _ ((x44_5 + 0) : Int32) (1 + j44_6) (lv_sub hl [2, 3, 4, 5, 6, 1, 0] rfl) hP hS hI (by omega) (iR_w (iR_add (a' := -2147483648) (b' := 2147483647) hx44_5 (show iR 0 (0) (0) from ⟨by decide, by decide⟩) (by decide) (by decide) (by decide) (by decide)) (by decide) (by decide)) (by omega) (by omega) (iR_w f_M__nn_a1__ (by decide) (by decide)) (iR_w fa1 (by decide) (by decide)) (iR_w fa2 (by decide) (by decide)) (iR_w fa3 (by decide) (by decide)) (iR_w fa4 (by decide) (by decide)) (by omega) (by omega) (by omega) (by omega) (by omega) (by omega) (by omega) (by omega) (by omega) (by omega) hr94_2 hr94_3
      have b94_1 : ∀ (ls : Array Slot) (ρ : Nat → Nat → Int32) (H : Heap) (locs : List Loc) , lv_has ls 8 [(0, .ref (E.2.1 + 1076)), (1, .int a1), (2, .int a2), (3, .int a3), (4, .int a4), (6, .int (nI j44_6))] → WP E ρ H → va_S (hA E) s.heap H locs → RI r Bt M L X ρ → iR (M (nn a1)) (0) (5) → iR a1 (0) (1) → iR a2 (0) (3) → iR a3 (0) (3) → iR a4 (1) (200) → 1 ≤ (L (nn a1)) → (L (nn a1)) ≤ 4 → 0 ≤ (nn a1) → (nn a1) ≤ 1 → 0 ≤ (nn a2) → (nn a2) ≤ 3 → 0 ≤ (nn a3) → (nn a3) ≤ 3 → 1 ≤ (nn a4) → (nn a4) ≤ 200 → 0 ≤ j44_6 → j44_6 ≤ 199 → (nn a2) + 1 ≤ L (nn a1) → (nn a3) + 1 ≤ L (nn a1) → iR a2 (-1) ((L (nn a1) : Int) - 1) → iR a3 (-1) ((L (nn a1) : Int) - 1) → W p l e (rmk 6 240) s m ([.ref (E.2.1 + 1076), .int a1, .int a2, .int a3, .int a4] : List Value).toArray below meth c H locs 0 0 (MQ below (cI E (fun v ρ1 => RI r Bt M L X ρ1)) ([.ref (E.2.1 + 1076), .int a1, .int a2, .int a3, .int a4] : List Value).toArray s 0 0 (hA E)) (F0 m 94 ls [.int 1, .int x44_5]) := by
        intro ls ρ H locs  hl hP hS hI f_M__nn_a1__ fa1 fa2 fa3 fa4 tl_L__nn_a1__ tu_L__nn_a1__ tl_nn_a1_ tu_nn_a1_ tl_nn_a2_ tu_nn_a2_ tl_nn_a3_ tu_nn_a3_ tl_nn_a4_ tu_nn_a4_ tlj44_6 tuj44_6 hr94_0 hr94_1 hr94_2 hr94_3
        refine lv_iadd hx hb dX7_bothReady_94 ?_
        refine lv_istore (lv' := [(5, .int (x44_5 + 1)), (0, .ref (E.2.1 + 1076)), (1, .int a1), (2, .int a2), (3, .int a3), (4, .int a4), (6, .int (nI j44_6))]) hx hb dX7_bothReady_95 hl (by decide) rfl (fun ls hl => ?_)
        refine lv_iinc (v := (nI (1 + j44_6))) (lv' := [(6, .int (nI (1 + j44_6))), (5, .int (x44_5 + 1)), (0, .ref (E.2.1 + 1076)), (1, .int a1), (2, .int a2), (3, .int a3), (4, .int a4)]) hx hb dX7_bothReady_97 hl (k := 6) rfl (show nI j44_6 + nI 1 = _ from (nI_add _ _).trans (congrArg nI (by omega))) (by decide) rfl (fun ls hl => ?_)
        refine lv_goto (tgt := 44) hx hb dX7_bothReady_100 (by decide) ?_
        exact ih44 ls ρ _ _ ((x44_5 + 1) : Int32) (1 + j44_6) (lv_sub hl [2, 3, 4, 5, 6, 1, 0] rfl) hP hS hI (by omega) (iR_w (iR_any (x44_5 + 1)) (by decide) (by decide)) (by omega) (by omega) (iR_w f_M__nn_a1__ (by decide) (by decide)) (iR_w fa1 (by decide) (by decide)) (iR_w fa2 (by decide) (by decide)) (iR_w fa3 (by decide) (by decide)) (iR_w fa4 (by decide) (by decide)) (by omega) (by omega) (by omega) (by omega) (by omega) (by omega) (by omega) (by omega) (by omega) (by omega) hr94_2 hr94_3
      have b93_0 : ∀ (ls : Array Slot) (ρ : Nat → Nat → Int32) (H : Heap) (locs : List Loc) , lv_has ls 8 [(0, .ref (E.2.1 + 1076)), (1, .int a1), (2, .int a2), (3, .int a3), (4, .int a4), (6, .int (nI j44_6))] → WP E ρ H → va_S (hA E) s.heap H locs → RI r Bt M L X ρ → iR (M (nn a1)) (0) (5) → iR a1 (0) (1) → iR a2 (0) (3) → iR a3 (0) (3) → iR a4 (1) (200) → 1 ≤ (L (nn a1)) → (L (nn a1)) ≤ 4 → 0 ≤ (nn a1) → (nn a1) ≤ 1 → 0 ≤ (nn a2) → (nn a2) ≤ 3 → 0 ≤ (nn a3) → (nn a3) ≤ 3 → 1 ≤ (nn a4) → (nn a4) ≤ 200 → 0 ≤ j44_6 → j44_6 ≤ 199 → (nn a2) + 1 ≤ L (nn a1) → (nn a3) + 1 ≤ L (nn a1) → iR a2 (-1) ((L (nn a1) : Int) - 1) → iR a3 (-1) ((L (nn a1) : Int) - 1) → W p l e (rmk 6 240) s m ([.ref (E.2.1 + 1076), .int a1, .int a2, .int a3, .int a4] : List Value).toArray below meth c H locs 0 0 (MQ below (cI E (fun v ρ1 => RI r Bt M L X ρ1)) ([.ref (E.2.1 + 1076), .int a1, .int a2, .int a3, .int a4] : List Value).toArray s 0 0 (hA E)) (F0 m 93 ls [.int x44_5]) := by
        intro ls ρ H locs  hl hP hS hI f_M__nn_a1__ fa1 fa2 fa3 fa4 tl_L__nn_a1__ tu_L__nn_a1__ tl_nn_a1_ tu_nn_a1_ tl_nn_a2_ tu_nn_a2_ tl_nn_a3_ tu_nn_a3_ tl_nn_a4_ tu_nn_a4_ tlj44_6 tuj44_6 hr93_0 hr93_1 hr93_2 hr93_3
        refine lv_iconst (v := 0) hx hb dX7_bothReady_93 (by decide) ?_
        exact b94_0 ls ρ _ _  (lv_sub hl [0, 1, 2, 3, 4, 5] rfl) hP hS hI (iR_w f_M__nn_a1__ (by decide) (by decide)) (iR_w fa1 (by decide) (by decide)) (iR_w fa2 (by decide) (by decide)) (iR_w fa3 (by decide) (by decide)) (iR_w fa4 (by decide) (by decide)) (by omega) (by omega) (by omega) (by omega) (by omega) (by omega) (by omega) (by omega) (by omega) (by omega) (by omega) (by omega) (by omega) (by omega) hr93_2 hr93_3
      refine lv_iload hx hb dX7_bothReady_44 (lv_at hl 6 rfl) ?_
      refine lv_iload hx hb dX7_bothReady_46 (lv_at hl 4 rfl) ?_
      have := nn_r (x := a4) (a := 1) (b := 200) fa4 (by decide)
      refine lv_topi (fun z989 ez989 => ?_)
      obtain rfl : z989 = nI (nn a4) := ez989.trans (nn_eq a4)
      refine lv_icmp_ge (tgt := 103) hx hb dX7_bothReady_48 (by decide) (fun c990 => ?_) (fun c990 => ?_)
      · skip
        have n991 := mt (nx_lt (a := j44_6) (b := (nn a4)) (by omega) (by omega)).mpr (show ¬ (nI j44_6 < nI (nn a4)) from (Int32.not_lt.mpr c990))
        refine lv_iload hx hb dX7_bothReady_103 (lv_at hl 5 rfl) ?_
        exact ret_i B hr hlk hP hS dX7_bothReady_105 (hI)
      · skip
        have n992 := (nx_lt (a := j44_6) (b := (nn a4)) (by omega) (by omega)).mp (show (nI j44_6 < nI (nn a4)) from (Int32.not_le.mp c990))
        refine lv_aload_n hx hb dX7_bothReady_51 rfl (lv_at hl 0 rfl) ?_
        refine get7 B hP (show hk 1076 = 7 by decide +kernel) 3 (by decide) mw_1030 rfl dX7_bothReady_52 ?_
        refine lv_bipush (v := 7) hx hb dX7_bothReady_55 (by decide) ?_
        refine aldn (n := 695) (j := 7) B hP (show hk 1078 = 8 by decide +kernel) (show hlen 1078 = 695 by decide +kernel) rfl (by omega) (by decide) dX7_bothReady_57 ?_
        have i993 : iR (ρ 1078 7) (0) (1000000) := (iR_w (g_time hI) (by omega) (by omega))
        obtain ⟨j994, lj994, uj994, ej994⟩ := iR_nat (a := 0) (b := 1000000) i993
        refine lv_topi (fun z995 ez995 => ?_)
        obtain rfl : z995 = nI j994 := ez995.trans ej994
        refine lv_iconst (v := 2) hx hb dX7_bothReady_58 (by decide) ?_
        refine lv_iload hx hb dX7_bothReady_59 (lv_at hl 6 rfl) ?_
        refine lv_imul hx hb dX7_bothReady_61 ?_
        refine lv_topi (fun z996 ez996 => ?_)
        obtain rfl : z996 = (nI (2 * j44_6)) := ez996.trans (by rw [show 2 = nI 2 from rfl, show (nI j44_6) = nI j44_6 from rfl, nI_mul] <;> exact congrArg nI (by omega))
        refine lv_iadd hx hb dX7_bothReady_62 ?_
        refine lv_topi (fun z997 ez997 => ?_)
        obtain rfl : z997 = (nI (2 * j44_6 + j994)) := ez997.trans (by rw [show (nI j994) = nI j994 from rfl, show (nI (2 * j44_6)) = nI (2 * j44_6) from rfl, nI_add] <;> exact congrArg nI (by omega))
        refine lv_istore (lv' := [(7, .int (nI (2 * j44_6 + j994))), (0, .ref (E.2.1 + 1076)), (1, .int a1), (2, .int a2), (3, .int a3), (4, .int a4), (5, .int x44_5), (6, .int (nI j44_6))]) hx hb dX7_bothReady_63 hl (by decide) rfl (fun ls hl => ?_)
        refine lv_iload hx hb dX7_bothReady_65 (lv_at hl 6 rfl) ?_
        refine lv_aload_n hx hb dX7_bothReady_67 rfl (lv_at hl 1 rfl) ?_
        refine lv_iload_n hx hb dX7_bothReady_68 rfl (lv_at hl 2 rfl) ?_
        have := nn_r (x := a1) (a := 0) (b := 1) fa1 (by decide)
        refine lv_topi (fun z998 ez998 => ?_)
        obtain rfl : z998 = nI (nn a1) := ez998.trans (nn_eq a1)
        refine lv_iload_n hx hb dX7_bothReady_69 rfl (lv_at hl 3 rfl) ?_
        have := nn_r (x := a2) (a := 0) (b := 3) fa2 (by decide)
        refine lv_topi (fun z999 ez999 => ?_)
        obtain rfl : z999 = nI (nn a2) := ez999.trans (nn_eq a2)
        refine lv_iload hx hb dX7_bothReady_70 (lv_at hl 0 rfl) ?_
        refine call_i (cVt (k := 1076) (av := [.int (nI (nn a1)), .int (nI (nn a2)), .int (nI (2 * j44_6 + j994))]) (rest := [.int x44_5]) B hP hS (d_X7_isReady l E ρ r Bt hBt M L X (nn a1) (by omega) (by omega) (nn a2) (by omega) (by omega) (nI (2 * j44_6 + j994)) hI) lk_RX7_179 (hrecv (ci := 7) B hP (hk_lt (c := 7) (show hk 1076 = 7 by decide +kernel) (by decide)) (hcc7 _ _ (show hk 1076 = 7 by decide +kernel)) rfl) rfl rfl hl.1 (Nat.le_of_ble_eq_true rfl) ⟨Nat.le_of_ble_eq_true rfl, Nat.le_of_ble_eq_true rfl⟩ ⟨Nat.le_of_ble_eq_true rfl, Nat.le_of_ble_eq_true rfl⟩ dX7_bothReady_72) hS (fun r1000 ρ1001 H locs q1002 hP hS => ?_)
        obtain ⟨rfl, hI, q1002⟩ := q1002
        obtain ⟨j1003, lj1003, uj1003, ej1003⟩ := iR_nat (a := 0) (b := 1) q1002
        refine lv_topi (fun z1004 ez1004 => ?_)
        obtain rfl : z1004 = nI j1003 := ez1004.trans ej1003
        refine lv_if_eq (tgt := 93) hx hb dX7_bothReady_75 (by decide) (fun c1005 => ?_) (fun c1005 => ?_)
        · skip
          have n1006 := (nI_eq (a := j1003) (b := 0) (by omega) (by omega)).mp (show (nI j1003 = nI 0) from c1005)
          exact b93_0 ls ρ _ _  (lv_sub hl [1, 2, 3, 4, 5, 7] rfl) hP hS hI (iR_w f_M__nn_a1__ (by decide) (by decide)) (iR_w fa1 (by decide) (by decide)) (iR_w fa2 (by decide) (by decide)) (iR_w fa3 (by decide) (by decide)) (iR_w fa4 (by decide) (by decide)) (by omega) (by omega) (by omega) (by omega) (by omega) (by omega) (by omega) (by omega) (by omega) (by omega) (by omega) (by omega) (by omega) (by omega) hr44_2 hr44_3
        · skip
          have n1007 := mt (nI_eq (a := j1003) (b := 0) (by omega) (by omega)).mpr (show ¬ (nI j1003 = nI 0) from c1005)
          refine lv_aload_n hx hb dX7_bothReady_78 rfl (lv_at hl 1 rfl) ?_
          refine lv_iload_n hx hb dX7_bothReady_79 rfl (lv_at hl 2 rfl) ?_
          refine lv_topi (fun z1008 ez1008 => ?_)
          obtain rfl : z1008 = nI (nn a1) := ez1008.trans (nn_eq a1)
          refine lv_iload_n hx hb dX7_bothReady_80 rfl (lv_at hl 4 rfl) ?_
          have := nn_r (x := a3) (a := 0) (b := 3) fa3 (by decide)
          refine lv_topi (fun z1009 ez1009 => ?_)
          obtain rfl : z1009 = nI (nn a3) := ez1009.trans (nn_eq a3)
          refine lv_iload hx hb dX7_bothReady_81 (lv_at hl 0 rfl) ?_
          refine call_i (cVt (k := 1076) (av := [.int (nI (nn a1)), .int (nI (nn a3)), .int (nI (2 * j44_6 + j994))]) (rest := [.int x44_5]) B hP hS (d_X7_isReady l E ρ r Bt hBt M L X (nn a1) (by omega) (by omega) (nn a3) (by omega) (by omega) (nI (2 * j44_6 + j994)) hI) lk_RX7_179 (hrecv (ci := 7) B hP (hk_lt (c := 7) (show hk 1076 = 7 by decide +kernel) (by decide)) (hcc7 _ _ (show hk 1076 = 7 by decide +kernel)) rfl) rfl rfl hl.1 (Nat.le_of_ble_eq_true rfl) ⟨Nat.le_of_ble_eq_true rfl, Nat.le_of_ble_eq_true rfl⟩ ⟨Nat.le_of_ble_eq_true rfl, Nat.le_of_ble_eq_true rfl⟩ dX7_bothReady_83) hS (fun r1010 ρ1011 H locs q1012 hP hS => ?_)
          obtain ⟨rfl, hI, q1012⟩ := q1012
          obtain ⟨j1013, lj1013, uj1013, ej1013⟩ := iR_nat (a := 0) (b := 1) q1012
          refine lv_topi (fun z1014 ez1014 => ?_)
          obtain rfl : z1014 = nI j1013 := ez1014.trans ej1013
          refine lv_if_eq (tgt := 93) hx hb dX7_bothReady_86 (by decide) (fun c1015 => ?_) (fun c1015 => ?_)
          · skip
            have n1016 := (nI_eq (a := j1013) (b := 0) (by omega) (by omega)).mp (show (nI j1013 = nI 0) from c1015)
            exact b93_0 ls ρ _ _  (lv_sub hl [1, 2, 3, 4, 5, 7] rfl) hP hS hI (iR_w f_M__nn_a1__ (by decide) (by decide)) (iR_w fa1 (by decide) (by decide)) (iR_w fa2 (by decide) (by decide)) (iR_w fa3 (by decide) (by decide)) (iR_w fa4 (by decide) (by decide)) (by omega) (by omega) (by omega) (by omega) (by omega) (by omega) (by omega) (by omega) (by omega) (by omega) (by omega) (by omega) (by omega) (by omega) hr44_2 hr44_3
          · skip
            have n1017 := mt (nI_eq (a := j1013) (b := 0) (by omega) (by omega)).mpr (show ¬ (nI j1013 = nI 0) from c1015)
            refine lv_iconst (v := 1) hx hb dX7_bothReady_89 (by decide) ?_
            refine lv_goto (tgt := 94) hx hb dX7_bothReady_90 (by decide) ?_
            exact b94_1 ls ρ _ _  (lv_sub hl [1, 2, 3, 4, 5, 7] rfl) hP hS hI (iR_w f_M__nn_a1__ (by decide) (by decide)) (iR_w fa1 (by decide) (by decide)) (iR_w fa2 (by decide) (by decide)) (iR_w fa3 (by decide) (by decide)) (iR_w fa4 (by decide) (by decide)) (by omega) (by omega) (by omega) (by omega) (by omega) (by omega) (by omega) (by omega) (by omega) (by omega) (by omega) (by omega) (by omega) (by omega) hr44_2 hr44_3
  refine lv_aload_n hx hb dX7_bothReady_0 rfl (lv_at hl 0 rfl) ?_
  refine lv_iconst (v := 0) hx hb dX7_bothReady_1 (by decide) ?_
  refine put7 B hP hS (show hk 1076 = 7 by decide +kernel) 0 (by decide) mw_1027 rfl rfl rfl (fs7_0 E 1076 _ _) dX7_bothReady_2 (fun H locs hP hS => ?_)
  obtain ⟨ρ1018, e1019⟩ : ∃ z, z = up ρ 1076 0 0 := ⟨_, rfl⟩
  rw [← e1019] at hP
  have hI : RI r Bt M L X ρ1018 := by rw [e1019]; exact RI_76 hI (by decide)
  refine lv_aload_n hx hb dX7_bothReady_5 rfl (lv_at hl 0 rfl) ?_
  refine lv_iload_n hx hb dX7_bothReady_6 rfl (lv_at hl 1 rfl) ?_
  refine lv_iload_n hx hb dX7_bothReady_7 rfl (lv_at hl 2 rfl) ?_
  refine call_i (cVt (k := 1076) (av := [.int a1, .int a2]) (rest := []) B hP hS (d_X7_isLink l E ρ1018 r Bt hBt M L X a1 a2 hI) lk_RX7_106 (hrecv (ci := 7) B hP (hk_lt (c := 7) (show hk 1076 = 7 by decide +kernel) (by decide)) (hcc7 _ _ (show hk 1076 = 7 by decide +kernel)) rfl) rfl rfl hl.1 (Nat.le_of_ble_eq_true rfl) ⟨Nat.le_of_ble_eq_true rfl, Nat.le_of_ble_eq_true rfl⟩ ⟨Nat.le_of_ble_eq_true rfl, Nat.le_of_ble_eq_true rfl⟩ dX7_bothReady_8) hS (fun r1020 ρ1021 H locs q1022 hP hS => ?_)
  obtain ⟨rfl, hI, q1022⟩ := q1022
  rcases q1022 with rfl | ⟨rfl, j1023, hj1023, ej1023, i1024, j1025, hj1025, ej1025⟩
  · skip
    refine lv_if_eq (tgt := 36) hx hb dX7_bothReady_11 (by decide) (fun _ => ?_) (fun c1026 => absurd rfl c1026)
    refine lv_iconst (v := (-1)) hx hb dX7_bothReady_36 (by decide) ?_
    exact ret_i B hr hlk hP hS dX7_bothReady_37 (hI)
  · skip
    have := RI_Lb hI hj1023
    have n1027 : nn a1 = j1023 := nn_u ej1023 (by omega)
    have i1028 : iR (M (nn a1)) 0 5 := by rw [n1027]; exact i1024
    have : j1025 < L (nn a1) := by rw [n1027]; exact hj1025
    have := RI_Lb (n := (nn a1)) hI (by omega)
    have n1029 : nn a2 = j1025 := nn_u ej1025 (by omega)
    refine lv_if_eq (tgt := 36) hx hb dX7_bothReady_11 (by decide) (fun c1030 => absurd c1030 (iR_ne (show iR 1 (1) (1) from ⟨by decide, by decide⟩) (show iR 0 (0) (0) from ⟨by decide, by decide⟩) (by decide))) (fun _ => ?_)
    refine lv_aload_n hx hb dX7_bothReady_14 rfl (lv_at hl 0 rfl) ?_
    refine lv_iload_n hx hb dX7_bothReady_15 rfl (lv_at hl 1 rfl) ?_
    refine lv_topi (fun z1031 ez1031 => ?_)
    obtain rfl : z1031 = nI (nn a1) := ez1031.trans (nn_eq a1)
    refine lv_iload_n hx hb dX7_bothReady_16 rfl (lv_at hl 3 rfl) ?_
    refine call_i (cVt (k := 1076) (av := [.int (nI (nn a1)), .int a3]) (rest := []) B hP hS (d_X7_isLink l E ρ1018 r Bt hBt M L X (nI (nn a1)) a3 hI) lk_RX7_106 (hrecv (ci := 7) B hP (hk_lt (c := 7) (show hk 1076 = 7 by decide +kernel) (by decide)) (hcc7 _ _ (show hk 1076 = 7 by decide +kernel)) rfl) rfl rfl hl.1 (Nat.le_of_ble_eq_true rfl) ⟨Nat.le_of_ble_eq_true rfl, Nat.le_of_ble_eq_true rfl⟩ ⟨Nat.le_of_ble_eq_true rfl, Nat.le_of_ble_eq_true rfl⟩ dX7_bothReady_17) hS (fun r1032 ρ1033 H locs q1034 hP hS => ?_)
    obtain ⟨rfl, hI, q1034⟩ := q1034
    rcases q1034 with rfl | ⟨rfl, j1035, hj1035, ej1035, i1036, j1037, hj1037, ej1037⟩
    · skip
      refine lv_if_eq (tgt := 36) hx hb dX7_bothReady_20 (by decide) (fun _ => ?_) (fun c1038 => absurd rfl c1038)
      refine lv_iconst (v := (-1)) hx hb dX7_bothReady_36 (by decide) ?_
      exact ret_i B hr hlk hP hS dX7_bothReady_37 (hI)
    · skip
      have := RI_Lb hI hj1035
      have n1039 : (nn a1) = j1035 := (nI_eq (by omega) (by omega)).mp (show nI (nn a1) = nI j1035 from ej1035)
      have i1040 : iR (M (nn a1)) 0 5 := by rw [n1039]; exact i1036
      have : j1037 < L (nn a1) := by rw [n1039]; exact hj1037
      have := RI_Lb (n := (nn a1)) hI (by omega)
      have n1041 : nn a3 = j1037 := nn_u ej1037 (by omega)
      refine lv_if_eq (tgt := 36) hx hb dX7_bothReady_20 (by decide) (fun c1042 => absurd c1042 (iR_ne (show iR 1 (1) (1) from ⟨by decide, by decide⟩) (show iR 0 (0) (0) from ⟨by decide, by decide⟩) (by decide))) (fun _ => ?_)
      refine lv_iload hx hb dX7_bothReady_23 (lv_at hl 4 rfl) ?_
      refine lv_i2l hx hb dX7_bothReady_25 rfl ?_
      refine lv_lconst (v := 1) hx hb dX7_bothReady_26 (by decide) ?_
      refine lv_ldc2 (v := 200) hx hb hown (hts _ mw_1255) dX7_bothReady_27 ?_
      refine call_i (cS (av := [.long a4.toInt64, .long 1, .long 200]) (rest := []) B hP hS (c_in l E ρ1018 a4.toInt64 1 200 1 200 (by decide) (by decide)) lk_RX7_71 rfl rfl hl.1 (Nat.le_of_ble_eq_true rfl) ⟨Nat.le_of_ble_eq_true rfl, Nat.le_of_ble_eq_true rfl⟩ ⟨Nat.le_of_ble_eq_true rfl, Nat.le_of_ble_eq_true rfl⟩ dX7_bothReady_30) hS (fun r1043 ρ1044 H locs q1045 hP hS => ?_)
      obtain ⟨rfl, q1045⟩ := q1045
      rcases q1045 with ⟨rfl, q1045⟩ | ⟨rfl, q1045⟩
      · skip
        have i1046 : iR a4 1 200 := (lR_i _ _ _).mp q1045
        refine lv_if_ne (tgt := 38) hx hb dX7_bothReady_33 (by decide) (fun _ => ?_) (fun c1047 => absurd c1047 (iR_ne (show iR 1 (1) (1) from ⟨by decide, by decide⟩) (show iR 0 (0) (0) from ⟨by decide, by decide⟩) (by decide)))
        refine lv_iconst (v := 0) hx hb dX7_bothReady_38 (by decide) ?_
        refine lv_istore (lv' := [(5, .int 0), (0, .ref (E.2.1 + 1076)), (1, .int a1), (2, .int a2), (3, .int a3), (4, .int a4)]) hx hb dX7_bothReady_39 hl (by decide) rfl (fun ls hl => ?_)
        refine lv_iconst (v := 0) hx hb dX7_bothReady_41 (by decide) ?_
        refine lv_istore (lv' := [(6, .int 0), (5, .int 0), (0, .ref (E.2.1 + 1076)), (1, .int a1), (2, .int a2), (3, .int a3), (4, .int a4)]) hx hb dX7_bothReady_42 hl (by decide) rfl (fun ls hl => ?_)
        exact b44_0 ls ρ1018 _ _ _ (0 : Int32) 0 (lv_sub hl [2, 3, 4, 5, 6, 1, 0] rfl) hP hS hI (Nat.lt_succ_self _) (iR_w (show iR 0 (0) (0) from ⟨by decide, by decide⟩) (by decide) (by decide)) (by omega) (by omega) (iR_w i1040 (by decide) (by decide)) (iR_w (show iR a1 0 1 from by rw [ej1023]; exact nI_iR (by omega) (by omega) (by omega)) (by decide) (by decide)) (iR_w (show iR a2 0 3 from by rw [ej1025]; exact nI_iR (by omega) (by omega) (by omega)) (by decide) (by decide)) (iR_w (show iR a3 0 3 from by rw [ej1037]; exact nI_iR (by omega) (by omega) (by omega)) (by decide) (by decide)) (iR_w i1046 (by decide) (by decide)) (by omega) (by omega) (by omega) (by omega) (by omega) (by omega) (by omega) (by omega) (by omega) (by omega) (show iR a2 (-1) ((L (nn a1) : Int) - 1) from by rw [ej1025]; exact rl_nat (k := j1025) (by omega) (by omega)) (show iR a3 (-1) ((L (nn a1) : Int) - 1) from by rw [ej1037]; exact rl_nat (k := j1037) (by omega) (by omega))
      · skip
        refine lv_if_ne (tgt := 38) hx hb dX7_bothReady_33 (by decide) (fun c1048 => absurd rfl c1048) (fun _ => ?_)
        refine lv_iconst (v := (-1)) hx hb dX7_bothReady_36 (by decide) ?_
        exact ret_i B hr hlk hP hS dX7_bothReady_37 (hI)

theorem lk_RX7_266 : LkV RX7 266 RX7 yX7_comesAt cX7_comesAt 3 (some .boolean) 2 := ⟨⟨mw_1426, mw_1428, mw_45, mw_59, mw_1429⟩, by decide +kernel⟩
set_option maxHeartbeats 4000000 in
set_option maxRecDepth 100000 in
theorem d_X7_together (l : Launch) (E : hE) (ρ r : Nat → Nat → Int32) (Bt : Nat) (hBt : Bt ≤ 1000000) (M : Nat → Int32) (L : Nat → Nat) (X : Nat × Nat → Prop) (a1 : Int32) (a2 : Int32) (a3 : Int32) (hI : RI r Bt M L X ρ) : Met l yX7_together (.code yX7_together cX7_together 6 (some .int) :: gw_all) (rmk 4 160) (cPre E ρ [.ref (E.2.1 + 1076), .int a1, .int a2, .int a3]) (cI E (fun v ρ1 => RI r Bt M L X ρ1)) 0 0 (hA E) := by
  refine ent (own := RX7) (by decide) rfl (Nat.le_of_ble_eq_true rfl) ?_
  intro p e s m below meth c ls B hr hlk hl hP hS
  have hx := B.1.1
  have hb := B.1.2.1
  have hown := B.1.2.2.2.1
  have hts := B.1.2.2.2.2
  have hl : lv_has ls 6 [(0, .ref (E.2.1 + 1076)), (1, .int a1), (2, .int a2), (3, .int a3)] := hl
  have b46_0 : ∀ (ls : Array Slot) (ρ : Nat → Nat → Int32) (H : Heap) (locs : List Loc) (d46 : Nat) (x46_4 : Int32) (x46_5 : Int32), lv_has ls 6 [(0, .ref (E.2.1 + 1076)), (1, .int a1), (2, .int a2), (3, .int a3), (4, .int x46_4), (5, .int x46_5)] → WP E ρ H → va_S (hA E) s.heap H locs → RI r Bt M L X ρ → (x46_5.toInt + 2147483648).toNat < d46 → iR x46_4 (-1) (1001998) → iR x46_5 (-2147483648) (1001998) → iR (M (nn a1)) (0) (5) → iR a1 (0) (1) → iR a2 (0) (3) → iR a3 (0) (3) → 1 ≤ (L (nn a1)) → (L (nn a1)) ≤ 4 → 0 ≤ (nn a1) → (nn a1) ≤ 1 → 0 ≤ (nn a2) → (nn a2) ≤ 3 → 0 ≤ (nn a3) → (nn a3) ≤ 3 → (nn a2) + 1 ≤ L (nn a1) → (nn a3) + 1 ≤ L (nn a1) → iR a2 (-1) ((L (nn a1) : Int) - 1) → iR a3 (-1) ((L (nn a1) : Int) - 1) → W p l e (rmk 4 160) s m ([.ref (E.2.1 + 1076), .int a1, .int a2, .int a3] : List Value).toArray below meth c H locs 0 0 (MQ below (cI E (fun v ρ1 => RI r Bt M L X ρ1)) ([.ref (E.2.1 + 1076), .int a1, .int a2, .int a3] : List Value).toArray s 0 0 (hA E)) (F0 m 46 ls []) := by
    intro ls ρ H locs d46
    induction d46 generalizing ls ρ H locs with
    | zero => intro x46_4 x46_5 hl hP hS hI hd46 hx46_4 hx46_5 f_M__nn_a1__ fa1 fa2 fa3 tl_L__nn_a1__ tu_L__nn_a1__ tl_nn_a1_ tu_nn_a1_ tl_nn_a2_ tu_nn_a2_ tl_nn_a3_ tu_nn_a3_ hr46_0 hr46_1 hr46_2 hr46_3; exact absurd hd46 (Nat.not_lt_zero _)
    | succ d46 ih46 =>
      intro x46_4 x46_5 hl hP hS hI hd46 hx46_4 hx46_5 f_M__nn_a1__ fa1 fa2 fa3 tl_L__nn_a1__ tu_L__nn_a1__ tl_nn_a1_ tu_nn_a1_ tl_nn_a2_ tu_nn_a2_ tl_nn_a3_ tu_nn_a3_ hr46_0 hr46_1 hr46_2 hr46_3
      have b93_0 : ∀ (ls : Array Slot) (ρ : Nat → Nat → Int32) (H : Heap) (locs : List Loc) (x93_s0 : Int32), lv_has ls 6 [(0, .ref (E.2.1 + 1076)), (1, .int a1), (2, .int a2), (3, .int a3), (5, .int x46_5)] → WP E ρ H → va_S (hA E) s.heap H locs → RI r Bt M L X ρ → iR x93_s0 (-1) (1001998) → iR (M (nn a1)) (0) (5) → iR a1 (0) (1) → iR a2 (0) (3) → iR a3 (0) (3) → iR x46_5 (0) (1001998) → 1 ≤ (L (nn a1)) → (L (nn a1)) ≤ 4 → 0 ≤ (nn a1) → (nn a1) ≤ 1 → 0 ≤ (nn a2) → (nn a2) ≤ 3 → 0 ≤ (nn a3) → (nn a3) ≤ 3 → (nn a2) + 1 ≤ L (nn a1) → (nn a3) + 1 ≤ L (nn a1) → iR a2 (-1) ((L (nn a1) : Int) - 1) → iR a3 (-1) ((L (nn a1) : Int) - 1) → W p l e (rmk 4 160) s m ([.ref (E.2.1 + 1076), .int a1, .int a2, .int a3] : List Value).toArray below meth c H locs 0 0 (MQ below (cI E (fun v ρ1 => RI r Bt M L X ρ1)) ([.ref (E.2.1 + 1076), .int a1, .int a2, .int a3] : List Value).toArray s 0 0 (hA E)) (F0 m 93 ls [.int x93_s0]) := by
        intro ls ρ H locs x93_s0 hl hP hS hI hx93_s0 f_M__nn_a1__ fa1 fa2 fa3 fx46_5 tl_L__nn_a1__ tu_L__nn_a1__ tl_nn_a1_ tu_nn_a1_ tl_nn_a2_ tu_nn_a2_ tl_nn_a3_ tu_nn_a3_ hr93_0 hr93_1 hr93_2 hr93_3
        refine lv_istore (lv' := [(4, .int x93_s0), (0, .ref (E.2.1 + 1076)), (1, .int a1), (2, .int a2), (3, .int a3), (5, .int x46_5)]) hx hb dX7_together_93 hl (by decide) rfl (fun ls hl => ?_)
        have m788 := iI_dec (m := (-2)) (n := -2) fx46_5 rfl (by decide) (by decide)
        refine lv_iinc (v := (x46_5 + (-2))) (lv' := [(5, .int (x46_5 + (-2))), (4, .int x93_s0), (0, .ref (E.2.1 + 1076)), (1, .int a1), (2, .int a2), (3, .int a3)]) hx hb dX7_together_95 hl (k := 5) rfl rfl (by decide) rfl (fun ls hl => ?_)
        refine lv_goto (tgt := 46) hx hb dX7_together_98 (by decide) ?_
        exact ih46 ls ρ _ _ (x93_s0 : Int32) ((x46_5 + (-2)) : Int32) (lv_sub hl [2, 3, 4, 5, 1, 0] rfl) hP hS hI (dn_lt m788 hd46 (by decide) (by decide)) (iR_w hx93_s0 (by decide) (by decide)) (iR_w (iR_add (a' := -2) (b' := 1001996) fx46_5 (show iR (-2) (-2) (-2) from ⟨by decide, by decide⟩) (by decide) (by decide) (by decide) (by decide)) (by decide) (by decide)) (iR_w f_M__nn_a1__ (by decide) (by decide)) (iR_w fa1 (by decide) (by decide)) (iR_w fa2 (by decide) (by decide)) (iR_w fa3 (by decide) (by decide)) (by omega) (by omega) (by omega) (by omega) (by omega) (by omega) (by omega) (by omega) (by omega) (by omega) hr93_2 hr93_3
      have b91_0 : ∀ (ls : Array Slot) (ρ : Nat → Nat → Int32) (H : Heap) (locs : List Loc) , lv_has ls 6 [(0, .ref (E.2.1 + 1076)), (1, .int a1), (2, .int a2), (3, .int a3), (4, .int x46_4), (5, .int x46_5)] → WP E ρ H → va_S (hA E) s.heap H locs → RI r Bt M L X ρ → iR (M (nn a1)) (0) (5) → iR a1 (0) (1) → iR a2 (0) (3) → iR a3 (0) (3) → iR x46_5 (0) (1001998) → 1 ≤ (L (nn a1)) → (L (nn a1)) ≤ 4 → 0 ≤ (nn a1) → (nn a1) ≤ 1 → 0 ≤ (nn a2) → (nn a2) ≤ 3 → 0 ≤ (nn a3) → (nn a3) ≤ 3 → (nn a2) + 1 ≤ L (nn a1) → (nn a3) + 1 ≤ L (nn a1) → iR a2 (-1) ((L (nn a1) : Int) - 1) → iR a3 (-1) ((L (nn a1) : Int) - 1) → W p l e (rmk 4 160) s m ([.ref (E.2.1 + 1076), .int a1, .int a2, .int a3] : List Value).toArray below meth c H locs 0 0 (MQ below (cI E (fun v ρ1 => RI r Bt M L X ρ1)) ([.ref (E.2.1 + 1076), .int a1, .int a2, .int a3] : List Value).toArray s 0 0 (hA E)) (F0 m 91 ls []) := by
        intro ls ρ H locs  hl hP hS hI f_M__nn_a1__ fa1 fa2 fa3 fx46_5 tl_L__nn_a1__ tu_L__nn_a1__ tl_nn_a1_ tu_nn_a1_ tl_nn_a2_ tu_nn_a2_ tl_nn_a3_ tu_nn_a3_ hr91_0 hr91_1 hr91_2 hr91_3
        refine lv_iload hx hb dX7_together_91 (lv_at hl 4 rfl) ?_
        exact b93_0 ls ρ _ _ (x46_4 : Int32) (lv_sub hl [0, 1, 2, 3, 5] rfl) hP hS hI (iR_w hx46_4 (by decide) (by decide)) (iR_w f_M__nn_a1__ (by decide) (by decide)) (iR_w fa1 (by decide) (by decide)) (iR_w fa2 (by decide) (by decide)) (iR_w fa3 (by decide) (by decide)) (iR_w fx46_5 (by decide) (by decide)) (by omega) (by omega) (by omega) (by omega) (by omega) (by omega) (by omega) (by omega) (by omega) (by omega) hr91_2 hr91_3
      refine lv_iload hx hb dX7_together_46 (lv_at hl 5 rfl) ?_
      refine lv_aload_n hx hb dX7_together_48 rfl (lv_at hl 0 rfl) ?_
      refine get7 B hP (show hk 1076 = 7 by decide +kernel) 3 (by decide) mw_1030 rfl dX7_together_49 ?_
      refine lv_bipush (v := 7) hx hb dX7_together_52 (by decide) ?_
      refine aldn (n := 695) (j := 7) B hP (show hk 1078 = 8 by decide +kernel) (show hlen 1078 = 695 by decide +kernel) rfl (by omega) (by decide) dX7_together_54 ?_
      have i789 : iR (ρ 1078 7) (0) (1000000) := (iR_w (g_time hI) (by omega) (by omega))
      obtain ⟨j790, lj790, uj790, ej790⟩ := iR_nat (a := 0) (b := 1000000) i789
      refine lv_topi (fun z791 ez791 => ?_)
      obtain rfl : z791 = nI j790 := ez791.trans ej790
      refine lv_icmp_lt (tgt := 101) hx hb dX7_together_55 (by decide) (fun c792 => ?_) (fun c792 => ?_)
      · skip
        have i793 : iR x46_5 (-2147483648) (999999) := (iR_ltL hx46_5 (nI_iR (j := j790) (a := 0) (b := 1000000) (by omega) (by omega) (by omega)) c792 (by decide))
        refine lv_iload hx hb dX7_together_101 (lv_at hl 4 rfl) ?_
        exact ret_i B hr hlk hP hS dX7_together_103 (hI)
      · skip
        have i794 : iR x46_5 (0) (1001998) := (iR_geL hx46_5 (nI_iR (j := j790) (a := 0) (b := 1000000) (by omega) (by omega) (by omega)) c792 (by decide))
        refine lv_aload_n hx hb dX7_together_58 rfl (lv_at hl 0 rfl) ?_
        refine lv_iload_n hx hb dX7_together_59 rfl (lv_at hl 1 rfl) ?_
        have := nn_r (x := a1) (a := 0) (b := 1) fa1 (by decide)
        refine lv_topi (fun z795 ez795 => ?_)
        obtain rfl : z795 = nI (nn a1) := ez795.trans (nn_eq a1)
        refine lv_iload_n hx hb dX7_together_60 rfl (lv_at hl 2 rfl) ?_
        have := nn_r (x := a2) (a := 0) (b := 3) fa2 (by decide)
        refine lv_topi (fun z796 ez796 => ?_)
        obtain rfl : z796 = nI (nn a2) := ez796.trans (nn_eq a2)
        refine call_i (cS (av := [.int (nI (nn a1)), .int (nI (nn a2))]) (rest := [.ref (E.2.1 + 1076)]) B hP hS (d_X7_linkAt l E ρ r Bt hBt M L X (nn a1) (by omega) (by omega) (nn a2) (by omega) (by omega) hI) lk_RX7_82 rfl rfl hl.1 (Nat.le_of_ble_eq_true rfl) ⟨Nat.le_of_ble_eq_true rfl, Nat.le_of_ble_eq_true rfl⟩ ⟨Nat.le_of_ble_eq_true rfl, Nat.le_of_ble_eq_true rfl⟩ dX7_together_61) hS (fun r797 ρ798 H locs q799 hP hS => ?_)
        obtain ⟨rfl, hI, q799⟩ := q799
        obtain rfl : r797 = nI (104 + 326 * (nn a1) + 66 * (nn a2)) := q799.trans (congrArg nI (by omega))
        refine lv_iload hx hb dX7_together_64 (lv_at hl 5 rfl) ?_
        obtain ⟨j800, lj800, uj800, ej800⟩ := iR_nat (a := 0) (b := 1001998) i794
        refine lv_topi (fun z801 ez801 => ?_)
        obtain rfl : z801 = nI j800 := ez801.trans ej800
        refine call_i (cVt (k := 1076) (av := [.int (nI (104 + 326 * (nn a1) + 66 * (nn a2))), .int (nI j800)]) (rest := []) B hP hS (d_X7_comesAt l E ρ r Bt hBt M L X (nn a1) (by omega) (nn a2) (by omega) (nI j800) hI) lk_RX7_266 (hrecv (ci := 7) B hP (hk_lt (c := 7) (show hk 1076 = 7 by decide +kernel) (by decide)) (hcc7 _ _ (show hk 1076 = 7 by decide +kernel)) rfl) rfl rfl hl.1 (Nat.le_of_ble_eq_true rfl) ⟨Nat.le_of_ble_eq_true rfl, Nat.le_of_ble_eq_true rfl⟩ ⟨Nat.le_of_ble_eq_true rfl, Nat.le_of_ble_eq_true rfl⟩ dX7_together_66) hS (fun r802 ρ803 H locs q804 hP hS => ?_)
        obtain ⟨rfl, hI, q804⟩ := q804
        obtain ⟨j805, lj805, uj805, ej805⟩ := iR_nat (a := 0) (b := 1) q804
        refine lv_topi (fun z806 ez806 => ?_)
        obtain rfl : z806 = nI j805 := ez806.trans ej805
        refine lv_if_eq (tgt := 91) hx hb dX7_together_69 (by decide) (fun c807 => ?_) (fun c807 => ?_)
        · skip
          have n808 := (nI_eq (a := j805) (b := 0) (by omega) (by omega)).mp (show (nI j805 = nI 0) from c807)
          exact b91_0 ls ρ _ _  (lv_sub hl [0, 1, 2, 3, 4, 5] rfl) hP hS hI (iR_w f_M__nn_a1__ (by decide) (by decide)) (iR_w fa1 (by decide) (by decide)) (iR_w fa2 (by decide) (by decide)) (iR_w fa3 (by decide) (by decide)) (iR_w i794 (by decide) (by decide)) (by omega) (by omega) (by omega) (by omega) (by omega) (by omega) (by omega) (by omega) (by omega) (by omega) hr46_2 hr46_3
        · skip
          have n809 := mt (nI_eq (a := j805) (b := 0) (by omega) (by omega)).mpr (show ¬ (nI j805 = nI 0) from c807)
          refine lv_aload_n hx hb dX7_together_72 rfl (lv_at hl 0 rfl) ?_
          refine lv_iload_n hx hb dX7_together_73 rfl (lv_at hl 1 rfl) ?_
          refine lv_topi (fun z810 ez810 => ?_)
          obtain rfl : z810 = nI (nn a1) := ez810.trans (nn_eq a1)
          refine lv_iload_n hx hb dX7_together_74 rfl (lv_at hl 3 rfl) ?_
          have := nn_r (x := a3) (a := 0) (b := 3) fa3 (by decide)
          refine lv_topi (fun z811 ez811 => ?_)
          obtain rfl : z811 = nI (nn a3) := ez811.trans (nn_eq a3)
          refine call_i (cS (av := [.int (nI (nn a1)), .int (nI (nn a3))]) (rest := [.ref (E.2.1 + 1076)]) B hP hS (d_X7_linkAt l E ρ r Bt hBt M L X (nn a1) (by omega) (by omega) (nn a3) (by omega) (by omega) hI) lk_RX7_82 rfl rfl hl.1 (Nat.le_of_ble_eq_true rfl) ⟨Nat.le_of_ble_eq_true rfl, Nat.le_of_ble_eq_true rfl⟩ ⟨Nat.le_of_ble_eq_true rfl, Nat.le_of_ble_eq_true rfl⟩ dX7_together_75) hS (fun r812 ρ813 H locs q814 hP hS => ?_)
          obtain ⟨rfl, hI, q814⟩ := q814
          obtain rfl : r812 = nI (104 + 326 * (nn a1) + 66 * (nn a3)) := q814.trans (congrArg nI (by omega))
          refine lv_iload hx hb dX7_together_78 (lv_at hl 5 rfl) ?_
          refine lv_topi (fun z815 ez815 => ?_)
          obtain rfl : z815 = nI j800 := ez815.trans ej800
          refine call_i (cVt (k := 1076) (av := [.int (nI (104 + 326 * (nn a1) + 66 * (nn a3))), .int (nI j800)]) (rest := []) B hP hS (d_X7_comesAt l E ρ r Bt hBt M L X (nn a1) (by omega) (nn a3) (by omega) (nI j800) hI) lk_RX7_266 (hrecv (ci := 7) B hP (hk_lt (c := 7) (show hk 1076 = 7 by decide +kernel) (by decide)) (hcc7 _ _ (show hk 1076 = 7 by decide +kernel)) rfl) rfl rfl hl.1 (Nat.le_of_ble_eq_true rfl) ⟨Nat.le_of_ble_eq_true rfl, Nat.le_of_ble_eq_true rfl⟩ ⟨Nat.le_of_ble_eq_true rfl, Nat.le_of_ble_eq_true rfl⟩ dX7_together_80) hS (fun r816 ρ817 H locs q818 hP hS => ?_)
          obtain ⟨rfl, hI, q818⟩ := q818
          obtain ⟨j819, lj819, uj819, ej819⟩ := iR_nat (a := 0) (b := 1) q818
          refine lv_topi (fun z820 ez820 => ?_)
          obtain rfl : z820 = nI j819 := ez820.trans ej819
          refine lv_if_eq (tgt := 91) hx hb dX7_together_83 (by decide) (fun c821 => ?_) (fun c821 => ?_)
          · skip
            have n822 := (nI_eq (a := j819) (b := 0) (by omega) (by omega)).mp (show (nI j819 = nI 0) from c821)
            exact b91_0 ls ρ _ _  (lv_sub hl [0, 1, 2, 3, 4, 5] rfl) hP hS hI (iR_w f_M__nn_a1__ (by decide) (by decide)) (iR_w fa1 (by decide) (by decide)) (iR_w fa2 (by decide) (by decide)) (iR_w fa3 (by decide) (by decide)) (iR_w i794 (by decide) (by decide)) (by omega) (by omega) (by omega) (by omega) (by omega) (by omega) (by omega) (by omega) (by omega) (by omega) hr46_2 hr46_3
          · skip
            have n823 := mt (nI_eq (a := j819) (b := 0) (by omega) (by omega)).mpr (show ¬ (nI j819 = nI 0) from c821)
            refine lv_iload hx hb dX7_together_86 (lv_at hl 5 rfl) ?_
            refine lv_topi (fun z824 ez824 => ?_)
            obtain rfl : z824 = nI j800 := ez824.trans ej800
            refine lv_goto (tgt := 93) hx hb dX7_together_88 (by decide) ?_
            exact b93_0 ls ρ _ _ ((nI j800) : Int32) (lv_sub hl [0, 1, 2, 3, 5] rfl) hP hS hI (iR_w (nI_iR (j := j800) (a := 0) (b := 1001998) (by omega) (by omega) (by omega)) (by decide) (by decide)) (iR_w f_M__nn_a1__ (by decide) (by decide)) (iR_w fa1 (by decide) (by decide)) (iR_w fa2 (by decide) (by decide)) (iR_w fa3 (by decide) (by decide)) (iR_w i794 (by decide) (by decide)) (by omega) (by omega) (by omega) (by omega) (by omega) (by omega) (by omega) (by omega) (by omega) (by omega) hr46_2 hr46_3
  refine lv_aload_n hx hb dX7_together_0 rfl (lv_at hl 0 rfl) ?_
  refine lv_iconst (v := 0) hx hb dX7_together_1 (by decide) ?_
  refine put7 B hP hS (show hk 1076 = 7 by decide +kernel) 0 (by decide) mw_1027 rfl rfl rfl (fs7_0 E 1076 _ _) dX7_together_2 (fun H locs hP hS => ?_)
  obtain ⟨ρ825, e826⟩ : ∃ z, z = up ρ 1076 0 0 := ⟨_, rfl⟩
  rw [← e826] at hP
  have hI : RI r Bt M L X ρ825 := by rw [e826]; exact RI_76 hI (by decide)
  refine lv_aload_n hx hb dX7_together_5 rfl (lv_at hl 0 rfl) ?_
  refine lv_iload_n hx hb dX7_together_6 rfl (lv_at hl 1 rfl) ?_
  refine lv_iload_n hx hb dX7_together_7 rfl (lv_at hl 2 rfl) ?_
  refine call_i (cVt (k := 1076) (av := [.int a1, .int a2]) (rest := []) B hP hS (d_X7_isLink l E ρ825 r Bt hBt M L X a1 a2 hI) lk_RX7_106 (hrecv (ci := 7) B hP (hk_lt (c := 7) (show hk 1076 = 7 by decide +kernel) (by decide)) (hcc7 _ _ (show hk 1076 = 7 by decide +kernel)) rfl) rfl rfl hl.1 (Nat.le_of_ble_eq_true rfl) ⟨Nat.le_of_ble_eq_true rfl, Nat.le_of_ble_eq_true rfl⟩ ⟨Nat.le_of_ble_eq_true rfl, Nat.le_of_ble_eq_true rfl⟩ dX7_together_8) hS (fun r827 ρ828 H locs q829 hP hS => ?_)
  obtain ⟨rfl, hI, q829⟩ := q829
  rcases q829 with rfl | ⟨rfl, j830, hj830, ej830, i831, j832, hj832, ej832⟩
  · skip
    refine lv_if_eq (tgt := 28) hx hb dX7_together_11 (by decide) (fun _ => ?_) (fun c833 => absurd rfl c833)
    refine lv_iconst (v := (-1)) hx hb dX7_together_28 (by decide) ?_
    exact ret_i B hr hlk hP hS dX7_together_29 (hI)
  · skip
    have := RI_Lb hI hj830
    have n834 : nn a1 = j830 := nn_u ej830 (by omega)
    have i835 : iR (M (nn a1)) 0 5 := by rw [n834]; exact i831
    have : j832 < L (nn a1) := by rw [n834]; exact hj832
    have := RI_Lb (n := (nn a1)) hI (by omega)
    have n836 : nn a2 = j832 := nn_u ej832 (by omega)
    refine lv_if_eq (tgt := 28) hx hb dX7_together_11 (by decide) (fun c837 => absurd c837 (iR_ne (show iR 1 (1) (1) from ⟨by decide, by decide⟩) (show iR 0 (0) (0) from ⟨by decide, by decide⟩) (by decide))) (fun _ => ?_)
    refine lv_aload_n hx hb dX7_together_14 rfl (lv_at hl 0 rfl) ?_
    refine lv_iload_n hx hb dX7_together_15 rfl (lv_at hl 1 rfl) ?_
    refine lv_topi (fun z838 ez838 => ?_)
    obtain rfl : z838 = nI (nn a1) := ez838.trans (nn_eq a1)
    refine lv_iload_n hx hb dX7_together_16 rfl (lv_at hl 3 rfl) ?_
    refine call_i (cVt (k := 1076) (av := [.int (nI (nn a1)), .int a3]) (rest := []) B hP hS (d_X7_isLink l E ρ825 r Bt hBt M L X (nI (nn a1)) a3 hI) lk_RX7_106 (hrecv (ci := 7) B hP (hk_lt (c := 7) (show hk 1076 = 7 by decide +kernel) (by decide)) (hcc7 _ _ (show hk 1076 = 7 by decide +kernel)) rfl) rfl rfl hl.1 (Nat.le_of_ble_eq_true rfl) ⟨Nat.le_of_ble_eq_true rfl, Nat.le_of_ble_eq_true rfl⟩ ⟨Nat.le_of_ble_eq_true rfl, Nat.le_of_ble_eq_true rfl⟩ dX7_together_17) hS (fun r839 ρ840 H locs q841 hP hS => ?_)
    obtain ⟨rfl, hI, q841⟩ := q841
    rcases q841 with rfl | ⟨rfl, j842, hj842, ej842, i843, j844, hj844, ej844⟩
    · skip
      refine lv_if_eq (tgt := 28) hx hb dX7_together_20 (by decide) (fun _ => ?_) (fun c845 => absurd rfl c845)
      refine lv_iconst (v := (-1)) hx hb dX7_together_28 (by decide) ?_
      exact ret_i B hr hlk hP hS dX7_together_29 (hI)
    · skip
      have := RI_Lb hI hj842
      have n846 : (nn a1) = j842 := (nI_eq (by omega) (by omega)).mp (show nI (nn a1) = nI j842 from ej842)
      have i847 : iR (M (nn a1)) 0 5 := by rw [n846]; exact i843
      have : j844 < L (nn a1) := by rw [n846]; exact hj844
      have := RI_Lb (n := (nn a1)) hI (by omega)
      have n848 : nn a3 = j844 := nn_u ej844 (by omega)
      refine lv_if_eq (tgt := 28) hx hb dX7_together_20 (by decide) (fun c849 => absurd c849 (iR_ne (show iR 1 (1) (1) from ⟨by decide, by decide⟩) (show iR 0 (0) (0) from ⟨by decide, by decide⟩) (by decide))) (fun _ => ?_)
      refine lv_iload_n hx hb dX7_together_23 rfl (lv_at hl 2 rfl) ?_
      refine lv_topi (fun z850 ez850 => ?_)
      obtain rfl : z850 = nI (nn a2) := ez850.trans (nn_eq a2)
      refine lv_iload_n hx hb dX7_together_24 rfl (lv_at hl 3 rfl) ?_
      refine lv_topi (fun z851 ez851 => ?_)
      obtain rfl : z851 = nI (nn a3) := ez851.trans (nn_eq a3)
      refine lv_icmp_ne (tgt := 30) hx hb dX7_together_25 (by decide) (fun c852 => ?_) (fun c852 => ?_)
      · skip
        have n853 := mt (nI_eq (a := (nn a2)) (b := (nn a3)) (by omega) (by omega)).mpr (show ¬ (nI (nn a2) = nI (nn a3)) from c852)
        refine lv_iconst (v := (-1)) hx hb dX7_together_30 (by decide) ?_
        refine lv_istore (lv' := [(4, .int (-1)), (0, .ref (E.2.1 + 1076)), (1, .int a1), (2, .int a2), (3, .int a3)]) hx hb dX7_together_31 hl (by decide) rfl (fun ls hl => ?_)
        refine lv_aload_n hx hb dX7_together_33 rfl (lv_at hl 1 rfl) ?_
        refine get7 B hP (show hk 1076 = 7 by decide +kernel) 3 (by decide) mw_1030 rfl dX7_together_34 ?_
        refine lv_bipush (v := 7) hx hb dX7_together_37 (by decide) ?_
        refine aldn (n := 695) (j := 7) B hP (show hk 1078 = 8 by decide +kernel) (show hlen 1078 = 695 by decide +kernel) rfl (by omega) (by decide) dX7_together_39 ?_
        have i854 : iR (ρ825 1078 7) (0) (1000000) := (iR_w (g_time hI) (by omega) (by omega))
        obtain ⟨j855, lj855, uj855, ej855⟩ := iR_nat (a := 0) (b := 1000000) i854
        refine lv_topi (fun z856 ez856 => ?_)
        obtain rfl : z856 = nI j855 := ez856.trans ej855
        refine lv_sipush (v := 1998) hx hb dX7_together_40 (by decide) ?_
        refine lv_iadd hx hb dX7_together_43 ?_
        refine lv_topi (fun z857 ez857 => ?_)
        obtain rfl : z857 = (nI (1998 + j855)) := ez857.trans (by rw [show (nI j855) = nI j855 from rfl, show 1998 = nI 1998 from rfl, nI_add] <;> exact congrArg nI (by omega))
        refine lv_istore (lv' := [(5, .int (nI (1998 + j855))), (4, .int (-1)), (0, .ref (E.2.1 + 1076)), (1, .int a1), (2, .int a2), (3, .int a3)]) hx hb dX7_together_44 hl (by decide) rfl (fun ls hl => ?_)
        exact b46_0 ls ρ825 _ _ _ ((-1) : Int32) ((nI (1998 + j855)) : Int32) (lv_sub hl [2, 3, 4, 5, 1, 0] rfl) hP hS hI (Nat.lt_succ_self _) (iR_w (show iR (-1) (-1) (-1) from ⟨by decide, by decide⟩) (by decide) (by decide)) (iR_w (nI_iR (j := (1998 + j855)) (a := 1998) (b := 1001998) (by omega) (by omega) (by omega)) (by decide) (by decide)) (iR_w i847 (by decide) (by decide)) (iR_w (show iR a1 0 1 from by rw [ej830]; exact nI_iR (by omega) (by omega) (by omega)) (by decide) (by decide)) (iR_w (show iR a2 0 3 from by rw [ej832]; exact nI_iR (by omega) (by omega) (by omega)) (by decide) (by decide)) (iR_w (show iR a3 0 3 from by rw [ej844]; exact nI_iR (by omega) (by omega) (by omega)) (by decide) (by decide)) (by omega) (by omega) (by omega) (by omega) (by omega) (by omega) (by omega) (by omega) (by omega) (by omega) (show iR a2 (-1) ((L (nn a1) : Int) - 1) from by rw [ej832]; exact rl_nat (k := j832) (by omega) (by omega)) (show iR a3 (-1) ((L (nn a1) : Int) - 1) from by rw [ej844]; exact rl_nat (k := j844) (by omega) (by omega))
      · skip
        have n858 := (nI_eq (a := (nn a2)) (b := (nn a3)) (by omega) (by omega)).mp (show (nI (nn a2) = nI (nn a3)) from c852)
        refine lv_iconst (v := (-1)) hx hb dX7_together_28 (by decide) ?_
        exact ret_i B hr hlk hP hS dX7_together_29 (hI)
