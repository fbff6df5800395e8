def nn (x : Int32) : Nat := x.toBitVec.toNat
theorem nn_eq (x : Int32) : x = nI (nn x) := by apply Int32.toBitVec_inj.mp; simp [nI, nn]
theorem nn_u {x : Int32} {j : Nat} (e : x = nI j) (hj : j < 2 ^ 31) : nn x = j := by
  subst e
  show (BitVec.ofNat 32 j).toNat = j
  rw [BitVec.toNat_ofNat]
  exact Nat.mod_eq_of_lt (by omega)
theorem nn_r {x : Int32} {a b : Nat} (h : iR x a b) (hb : b < 2 ^ 31) : a ≤ nn x ∧ nn x ≤ b := by
  obtain ⟨j, h1, h2, e⟩ := iR_nat h
  rw [nn_u e (by omega)]
  exact ⟨h1, h2⟩
theorem dX7_hop_0 : decode cX7_hop 0 = .ok (.aload_n 0, 1) := by decide +kernel
theorem dX7_hop_1 : decode cX7_hop 1 = .ok (.iconst 0, 1) := by decide +kernel
theorem dX7_hop_2 : decode cX7_hop 2 = .ok (.putfield 50, 3) := by decide +kernel
theorem dX7_hop_5 : decode cX7_hop 5 = .ok (.aload_n 0, 1) := by decide +kernel
theorem dX7_hop_6 : decode cX7_hop 6 = .ok (.iload_n 1, 1) := by decide +kernel
theorem dX7_hop_7 : decode cX7_hop 7 = .ok (.invokevirtual 78, 3) := by decide +kernel
theorem dX7_hop_10 : decode cX7_hop 10 = .ok (.ifCond .eq 29, 3) := by decide +kernel
theorem dX7_hop_13 : decode cX7_hop 13 = .ok (.iload_n 2, 1) := by decide +kernel
theorem dX7_hop_14 : decode cX7_hop 14 = .ok (.iconst (-1), 1) := by decide +kernel
theorem dX7_hop_15 : decode cX7_hop 15 = .ok (.if_icmp .eq 12, 3) := by decide +kernel
theorem dX7_hop_18 : decode cX7_hop 18 = .ok (.aload_n 0, 1) := by decide +kernel
theorem dX7_hop_19 : decode cX7_hop 19 = .ok (.iload_n 1, 1) := by decide +kernel
theorem dX7_hop_20 : decode cX7_hop 20 = .ok (.iload_n 2, 1) := by decide +kernel
theorem dX7_hop_21 : decode cX7_hop 21 = .ok (.invokevirtual 106, 3) := by decide +kernel
theorem dX7_hop_24 : decode cX7_hop 24 = .ok (.ifCond .eq 15, 3) := by decide +kernel
theorem dX7_hop_27 : decode cX7_hop 27 = .ok (.iload_n 3, 1) := by decide +kernel
theorem dX7_hop_28 : decode cX7_hop 28 = .ok (.i2l, 1) := by decide +kernel
theorem dX7_hop_29 : decode cX7_hop 29 = .ok (.lconst 0, 1) := by decide +kernel
theorem dX7_hop_30 : decode cX7_hop 30 = .ok (.ldc2_w 109, 3) := by decide +kernel
theorem dX7_hop_33 : decode cX7_hop 33 = .ok (.invokestatic 71, 3) := by decide +kernel
theorem dX7_hop_36 : decode cX7_hop 36 = .ok (.ifCond .ne 5, 3) := by decide +kernel
theorem dX7_hop_39 : decode cX7_hop 39 = .ok (.iconst (-1), 1) := by decide +kernel
theorem dX7_hop_40 : decode cX7_hop 40 = .ok (.ireturn, 1) := by decide +kernel
theorem dX7_hop_41 : decode cX7_hop 41 = .ok (.aload_n 0, 1) := by decide +kernel
theorem dX7_hop_42 : decode cX7_hop 42 = .ok (.iload_n 1, 1) := by decide +kernel
theorem dX7_hop_43 : decode cX7_hop 43 = .ok (.iload_n 3, 1) := by decide +kernel
theorem dX7_hop_44 : decode cX7_hop 44 = .ok (.aload_n 0, 1) := by decide +kernel
theorem dX7_hop_45 : decode cX7_hop 45 = .ok (.iload_n 1, 1) := by decide +kernel
theorem dX7_hop_46 : decode cX7_hop 46 = .ok (.iload_n 2, 1) := by decide +kernel
theorem dX7_hop_47 : decode cX7_hop 47 = .ok (.invokevirtual 111, 3) := by decide +kernel
theorem dX7_hop_50 : decode cX7_hop 50 = .ok (.invokevirtual 114, 3) := by decide +kernel
theorem dX7_hop_53 : decode cX7_hop 53 = .ok (.ireturn, 1) := by decide +kernel
theorem dX7_alike_0 : decode cX7_alike 0 = .ok (.aload_n 0, 1) := by decide +kernel
theorem dX7_alike_1 : decode cX7_alike 1 = .ok (.iconst 0, 1) := by decide +kernel
theorem dX7_alike_2 : decode cX7_alike 2 = .ok (.putfield 50, 3) := by decide +kernel
theorem dX7_alike_5 : decode cX7_alike 5 = .ok (.aload_n 0, 1) := by decide +kernel
theorem dX7_alike_6 : decode cX7_alike 6 = .ok (.iload_n 1, 1) := by decide +kernel
theorem dX7_alike_7 : decode cX7_alike 7 = .ok (.iload_n 2, 1) := by decide +kernel
theorem dX7_alike_8 : decode cX7_alike 8 = .ok (.invokevirtual 106, 3) := by decide +kernel
theorem dX7_alike_11 : decode cX7_alike 11 = .ok (.ifCond .eq 15, 3) := by decide +kernel
theorem dX7_alike_14 : decode cX7_alike 14 = .ok (.iload_n 3, 1) := by decide +kernel
theorem dX7_alike_15 : decode cX7_alike 15 = .ok (.i2l, 1) := by decide +kernel
theorem dX7_alike_16 : decode cX7_alike 16 = .ok (.lconst 0, 1) := by decide +kernel
theorem dX7_alike_17 : decode cX7_alike 17 = .ok (.ldc2_w 134, 3) := by decide +kernel
theorem dX7_alike_20 : decode cX7_alike 20 = .ok (.invokestatic 71, 3) := by decide +kernel
theorem dX7_alike_23 : decode cX7_alike 23 = .ok (.ifCond .ne 5, 3) := by decide +kernel
theorem dX7_alike_26 : decode cX7_alike 26 = .ok (.iconst (-1), 1) := by decide +kernel
theorem dX7_alike_27 : decode cX7_alike 27 = .ok (.ireturn, 1) := by decide +kernel
theorem dX7_alike_28 : decode cX7_alike 28 = .ok (.iload_n 1, 1) := by decide +kernel
theorem dX7_alike_29 : decode cX7_alike 29 = .ok (.invokestatic 75, 3) := by decide +kernel
theorem dX7_alike_32 : decode cX7_alike 32 = .ok (.istore 4, 2) := by decide +kernel
theorem dX7_alike_34 : decode cX7_alike 34 = .ok (.iload_n 1, 1) := by decide +kernel
theorem dX7_alike_35 : decode cX7_alike 35 = .ok (.iload_n 2, 1) := by decide +kernel
theorem dX7_alike_36 : decode cX7_alike 36 = .ok (.invokestatic 82, 3) := by decide +kernel
theorem dX7_alike_39 : decode cX7_alike 39 = .ok (.istore 5, 2) := by decide +kernel
theorem dX7_alike_41 : decode cX7_alike 41 = .ok (.aload_n 0, 1) := by decide +kernel
theorem dX7_alike_42 : decode cX7_alike 42 = .ok (.getfield 13, 3) := by decide +kernel
theorem dX7_alike_45 : decode cX7_alike 45 = .ok (.iload 4, 2) := by decide +kernel
theorem dX7_alike_47 : decode cX7_alike 47 = .ok (.iconst 2, 1) := by decide +kernel
theorem dX7_alike_48 : decode cX7_alike 48 = .ok (.iadd, 1) := by decide +kernel
theorem dX7_alike_49 : decode cX7_alike 49 = .ok (.iaload, 1) := by decide +kernel
theorem dX7_alike_50 : decode cX7_alike 50 = .ok (.aload_n 0, 1) := by decide +kernel
theorem dX7_alike_51 : decode cX7_alike 51 = .ok (.getfield 13, 3) := by decide +kernel
theorem dX7_alike_54 : decode cX7_alike 54 = .ok (.iload 5, 2) := by decide +kernel
theorem dX7_alike_56 : decode cX7_alike 56 = .ok (.iconst 1, 1) := by decide +kernel
theorem dX7_alike_57 : decode cX7_alike 57 = .ok (.iadd, 1) := by decide +kernel
theorem dX7_alike_58 : decode cX7_alike 58 = .ok (.iaload, 1) := by decide +kernel
theorem dX7_alike_59 : decode cX7_alike 59 = .ok (.if_icmp .ne 7, 3) := by decide +kernel
theorem dX7_alike_62 : decode cX7_alike 62 = .ok (.iconst 1, 1) := by decide +kernel
theorem dX7_alike_63 : decode cX7_alike 63 = .ok (.goto 4, 3) := by decide +kernel
theorem dX7_alike_66 : decode cX7_alike 66 = .ok (.iconst 0, 1) := by decide +kernel
theorem dX7_alike_67 : decode cX7_alike 67 = .ok (.istore 6, 2) := by decide +kernel
theorem dX7_alike_69 : decode cX7_alike 69 = .ok (.aload_n 0, 1) := by decide +kernel
theorem dX7_alike_70 : decode cX7_alike 70 = .ok (.getfield 13, 3) := by decide +kernel
theorem dX7_alike_73 : decode cX7_alike 73 = .ok (.iload 4, 2) := by decide +kernel
theorem dX7_alike_75 : decode cX7_alike 75 = .ok (.iconst 3, 1) := by decide +kernel
theorem dX7_alike_76 : decode cX7_alike 76 = .ok (.iadd, 1) := by decide +kernel
theorem dX7_alike_77 : decode cX7_alike 77 = .ok (.iaload, 1) := by decide +kernel
theorem dX7_alike_78 : decode cX7_alike 78 = .ok (.aload_n 0, 1) := by decide +kernel
theorem dX7_alike_79 : decode cX7_alike 79 = .ok (.getfield 13, 3) := by decide +kernel
theorem dX7_alike_82 : decode cX7_alike 82 = .ok (.iload 5, 2) := by decide +kernel
theorem dX7_alike_84 : decode cX7_alike 84 = .ok (.iconst 2, 1) := by decide +kernel
theorem dX7_alike_85 : decode cX7_alike 85 = .ok (.iadd, 1) := by decide +kernel
theorem dX7_alike_86 : decode cX7_alike 86 = .ok (.iaload, 1) := by decide +kernel
theorem dX7_alike_87 : decode cX7_alike 87 = .ok (.if_icmp .ne 28, 3) := by decide +kernel
theorem dX7_alike_90 : decode cX7_alike 90 = .ok (.aload_n 0, 1) := by decide +kernel
theorem dX7_alike_91 : decode cX7_alike 91 = .ok (.getfield 13, 3) := by decide +kernel
theorem dX7_alike_94 : decode cX7_alike 94 = .ok (.iload 4, 2) := by decide +kernel
theorem dX7_alike_96 : decode cX7_alike 96 = .ok (.iconst 4, 1) := by decide +kernel
theorem dX7_alike_97 : decode cX7_alike 97 = .ok (.iadd, 1) := by decide +kernel
theorem dX7_alike_98 : decode cX7_alike 98 = .ok (.iaload, 1) := by decide +kernel
theorem dX7_alike_99 : decode cX7_alike 99 = .ok (.aload_n 0, 1) := by decide +kernel
theorem dX7_alike_100 : decode cX7_alike 100 = .ok (.getfield 13, 3) := by decide +kernel
theorem dX7_alike_103 : decode cX7_alike 103 = .ok (.iload 5, 2) := by decide +kernel
theorem dX7_alike_105 : decode cX7_alike 105 = .ok (.iconst 3, 1) := by decide +kernel
theorem dX7_alike_106 : decode cX7_alike 106 = .ok (.iadd, 1) := by decide +kernel
theorem dX7_alike_107 : decode cX7_alike 107 = .ok (.iaload, 1) := by decide +kernel
theorem dX7_alike_108 : decode cX7_alike 108 = .ok (.if_icmp .ne 7, 3) := by decide +kernel
theorem dX7_alike_111 : decode cX7_alike 111 = .ok (.iconst 1, 1) := by decide +kernel
theorem dX7_alike_112 : decode cX7_alike 112 = .ok (.goto 4, 3) := by decide +kernel
theorem dX7_alike_115 : decode cX7_alike 115 = .ok (.iconst 0, 1) := by decide +kernel
theorem dX7_alike_116 : decode cX7_alike 116 = .ok (.istore 7, 2) := by decide +kernel
theorem dX7_alike_118 : decode cX7_alike 118 = .ok (.iload_n 3, 1) := by decide +kernel
theorem dX7_alike_119 : decode cX7_alike 119 = .ok (.ifCond .ne 16, 3) := by decide +kernel
theorem dX7_alike_122 : decode cX7_alike 122 = .ok (.iload 6, 2) := by decide +kernel
theorem dX7_alike_124 : decode cX7_alike 124 = .ok (.ifCond .eq 41, 3) := by decide +kernel
theorem dX7_alike_127 : decode cX7_alike 127 = .ok (.iload 7, 2) := by decide +kernel
theorem dX7_alike_129 : decode cX7_alike 129 = .ok (.ifCond .eq 36, 3) := by decide +kernel
theorem dX7_alike_132 : decode cX7_alike 132 = .ok (.goto 29, 3) := by decide +kernel
theorem dX7_alike_135 : decode cX7_alike 135 = .ok (.iload_n 3, 1) := by decide +kernel
theorem dX7_alike_136 : decode cX7_alike 136 = .ok (.iconst 1, 1) := by decide +kernel
theorem dX7_alike_137 : decode cX7_alike 137 = .ok (.if_icmp .ne 11, 3) := by decide +kernel
theorem dX7_alike_140 : decode cX7_alike 140 = .ok (.iload 6, 2) := by decide +kernel
theorem dX7_alike_142 : decode cX7_alike 142 = .ok (.ifCond .eq 23, 3) := by decide +kernel
theorem dX7_alike_145 : decode cX7_alike 145 = .ok (.goto 16, 3) := by decide +kernel
theorem dX7_alike_148 : decode cX7_alike 148 = .ok (.aload_n 0, 1) := by decide +kernel
theorem dX7_alike_149 : decode cX7_alike 149 = .ok (.getfield 13, 3) := by decide +kernel
theorem dX7_alike_152 : decode cX7_alike 152 = .ok (.iload 5, 2) := by decide +kernel
theorem dX7_alike_154 : decode cX7_alike 154 = .ok (.iconst 4, 1) := by decide +kernel
theorem dX7_alike_155 : decode cX7_alike 155 = .ok (.iadd, 1) := by decide +kernel
theorem dX7_alike_156 : decode cX7_alike 156 = .ok (.iaload, 1) := by decide +kernel
theorem dX7_alike_157 : decode cX7_alike 157 = .ok (.iconst 1, 1) := by decide +kernel
theorem dX7_alike_158 : decode cX7_alike 158 = .ok (.if_icmp .ne 7, 3) := by decide +kernel
theorem dX7_alike_161 : decode cX7_alike 161 = .ok (.iconst 1, 1) := by decide +kernel
theorem dX7_alike_162 : decode cX7_alike 162 = .ok (.goto 4, 3) := by decide +kernel
theorem dX7_alike_165 : decode cX7_alike 165 = .ok (.iconst 0, 1) := by decide +kernel
theorem dX7_alike_166 : decode cX7_alike 166 = .ok (.ireturn, 1) := by decide +kernel
theorem dX7_mapOf_0 : decode cX7_mapOf 0 = .ok (.aload_n 0, 1) := by decide +kernel
theorem dX7_mapOf_1 : decode cX7_mapOf 1 = .ok (.iconst 0, 1) := by decide +kernel
theorem dX7_mapOf_2 : decode cX7_mapOf 2 = .ok (.putfield 50, 3) := by decide +kernel
theorem dX7_mapOf_5 : decode cX7_mapOf 5 = .ok (.aload_n 0, 1) := by decide +kernel
theorem dX7_mapOf_6 : decode cX7_mapOf 6 = .ok (.iload_n 1, 1) := by decide +kernel
theorem dX7_mapOf_7 : decode cX7_mapOf 7 = .ok (.invokevirtual 78, 3) := by decide +kernel
theorem dX7_mapOf_10 : decode cX7_mapOf 10 = .ok (.ifCond .eq 40, 3) := by decide +kernel
theorem dX7_mapOf_13 : decode cX7_mapOf 13 = .ok (.iload_n 2, 1) := by decide +kernel
theorem dX7_mapOf_14 : decode cX7_mapOf 14 = .ok (.iconst (-1), 1) := by decide +kernel
theorem dX7_mapOf_15 : decode cX7_mapOf 15 = .ok (.if_icmp .eq 12, 3) := by decide +kernel
theorem dX7_mapOf_18 : decode cX7_mapOf 18 = .ok (.aload_n 0, 1) := by decide +kernel
theorem dX7_mapOf_19 : decode cX7_mapOf 19 = .ok (.iload_n 1, 1) := by decide +kernel
theorem dX7_mapOf_20 : decode cX7_mapOf 20 = .ok (.iload_n 2, 1) := by decide +kernel
theorem dX7_mapOf_21 : decode cX7_mapOf 21 = .ok (.invokevirtual 106, 3) := by decide +kernel
theorem dX7_mapOf_24 : decode cX7_mapOf 24 = .ok (.ifCond .eq 26, 3) := by decide +kernel
theorem dX7_mapOf_27 : decode cX7_mapOf 27 = .ok (.iload_n 3, 1) := by decide +kernel
theorem dX7_mapOf_28 : decode cX7_mapOf 28 = .ok (.i2l, 1) := by decide +kernel
theorem dX7_mapOf_29 : decode cX7_mapOf 29 = .ok (.lconst 0, 1) := by decide +kernel
theorem dX7_mapOf_30 : decode cX7_mapOf 30 = .ok (.iload_n 2, 1) := by decide +kernel
theorem dX7_mapOf_31 : decode cX7_mapOf 31 = .ok (.iconst (-1), 1) := by decide +kernel
theorem dX7_mapOf_32 : decode cX7_mapOf 32 = .ok (.if_icmp .ne 9, 3) := by decide +kernel
theorem dX7_mapOf_35 : decode cX7_mapOf 35 = .ok (.ldc2_w 153, 3) := by decide +kernel
theorem dX7_mapOf_38 : decode cX7_mapOf 38 = .ok (.goto 6, 3) := by decide +kernel
theorem dX7_mapOf_41 : decode cX7_mapOf 41 = .ok (.ldc2_w 134, 3) := by decide +kernel
theorem dX7_mapOf_44 : decode cX7_mapOf 44 = .ok (.invokestatic 71, 3) := by decide +kernel
theorem dX7_mapOf_47 : decode cX7_mapOf 47 = .ok (.ifCond .ne 5, 3) := by decide +kernel
theorem dX7_mapOf_50 : decode cX7_mapOf 50 = .ok (.iconst (-1), 1) := by decide +kernel
theorem dX7_mapOf_51 : decode cX7_mapOf 51 = .ok (.ireturn, 1) := by decide +kernel
theorem dX7_mapOf_52 : decode cX7_mapOf 52 = .ok (.iload_n 3, 1) := by decide +kernel
theorem dX7_mapOf_53 : decode cX7_mapOf 53 = .ok (.iconst 3, 1) := by decide +kernel
theorem dX7_mapOf_54 : decode cX7_mapOf 54 = .ok (.if_icmp .ne 16, 3) := by decide +kernel
theorem dX7_mapOf_57 : decode cX7_mapOf 57 = .ok (.aload_n 0, 1) := by decide +kernel
theorem dX7_mapOf_58 : decode cX7_mapOf 58 = .ok (.getfield 13, 3) := by decide +kernel
theorem dX7_mapOf_61 : decode cX7_mapOf 61 = .ok (.iload_n 1, 1) := by decide +kernel
theorem dX7_mapOf_62 : decode cX7_mapOf 62 = .ok (.invokestatic 75, 3) := by decide +kernel
theorem dX7_mapOf_65 : decode cX7_mapOf 65 = .ok (.bipush 7, 2) := by decide +kernel
theorem dX7_mapOf_67 : decode cX7_mapOf 67 = .ok (.iadd, 1) := by decide +kernel
theorem dX7_mapOf_68 : decode cX7_mapOf 68 = .ok (.iaload, 1) := by decide +kernel
theorem dX7_mapOf_69 : decode cX7_mapOf 69 = .ok (.ireturn, 1) := by decide +kernel
theorem dX7_mapOf_70 : decode cX7_mapOf 70 = .ok (.iload_n 2, 1) := by decide +kernel
theorem dX7_mapOf_71 : decode cX7_mapOf 71 = .ok (.iconst (-1), 1) := by decide +kernel
theorem dX7_mapOf_72 : decode cX7_mapOf 72 = .ok (.if_icmp .ne 12, 3) := by decide +kernel
theorem dX7_mapOf_75 : decode cX7_mapOf 75 = .ok (.iload_n 1, 1) := by decide +kernel
theorem dX7_mapOf_76 : decode cX7_mapOf 76 = .ok (.invokestatic 75, 3) := by decide +kernel
theorem dX7_mapOf_79 : decode cX7_mapOf 79 = .ok (.iconst 2, 1) := by decide +kernel
theorem dX7_mapOf_80 : decode cX7_mapOf 80 = .ok (.iadd, 1) := by decide +kernel
theorem dX7_mapOf_81 : decode cX7_mapOf 81 = .ok (.goto 10, 3) := by decide +kernel
theorem dX7_mapOf_84 : decode cX7_mapOf 84 = .ok (.iload_n 1, 1) := by decide +kernel
theorem dX7_mapOf_85 : decode cX7_mapOf 85 = .ok (.iload_n 2, 1) := by decide +kernel
theorem dX7_mapOf_86 : decode cX7_mapOf 86 = .ok (.invokestatic 82, 3) := by decide +kernel
theorem dX7_mapOf_89 : decode cX7_mapOf 89 = .ok (.iconst 1, 1) := by decide +kernel
theorem dX7_mapOf_90 : decode cX7_mapOf 90 = .ok (.iadd, 1) := by decide +kernel
theorem dX7_mapOf_91 : decode cX7_mapOf 91 = .ok (.istore 4, 2) := by decide +kernel
theorem dX7_mapOf_93 : decode cX7_mapOf 93 = .ok (.iload_n 3, 1) := by decide +kernel
theorem dX7_mapOf_94 : decode cX7_mapOf 94 = .ok (.iconst 2, 1) := by decide +kernel
theorem dX7_mapOf_95 : decode cX7_mapOf 95 = .ok (.if_icmp .ne 19, 3) := by decide +kernel
theorem dX7_mapOf_98 : decode cX7_mapOf 98 = .ok (.aload_n 0, 1) := by decide +kernel
theorem dX7_mapOf_99 : decode cX7_mapOf 99 = .ok (.getfield 13, 3) := by decide +kernel
theorem dX7_mapOf_102 : decode cX7_mapOf 102 = .ok (.iload 4, 2) := by decide +kernel
theorem dX7_mapOf_104 : decode cX7_mapOf 104 = .ok (.iconst 1, 1) := by decide +kernel
theorem dX7_mapOf_105 : decode cX7_mapOf 105 = .ok (.iadd, 1) := by decide +kernel
theorem dX7_mapOf_106 : decode cX7_mapOf 106 = .ok (.iaload, 1) := by decide +kernel
theorem dX7_mapOf_107 : decode cX7_mapOf 107 = .ok (.ifCond .ne 7, 3) := by decide +kernel
theorem dX7_mapOf_110 : decode cX7_mapOf 110 = .ok (.iconst (-1), 1) := by decide +kernel
theorem dX7_mapOf_111 : decode cX7_mapOf 111 = .ok (.goto 12, 3) := by decide +kernel
theorem dX7_mapOf_114 : decode cX7_mapOf 114 = .ok (.aload_n 0, 1) := by decide +kernel
theorem dX7_mapOf_115 : decode cX7_mapOf 115 = .ok (.getfield 13, 3) := by decide +kernel
theorem dX7_mapOf_118 : decode cX7_mapOf 118 = .ok (.iload 4, 2) := by decide +kernel
theorem dX7_mapOf_120 : decode cX7_mapOf 120 = .ok (.iload_n 3, 1) := by decide +kernel
theorem dX7_mapOf_121 : decode cX7_mapOf 121 = .ok (.iadd, 1) := by decide +kernel
theorem dX7_mapOf_122 : decode cX7_mapOf 122 = .ok (.iaload, 1) := by decide +kernel
theorem dX7_mapOf_123 : decode cX7_mapOf 123 = .ok (.ireturn, 1) := by decide +kernel
theorem dX7_meets_0 : decode cX7_meets 0 = .ok (.aload_n 0, 1) := by decide +kernel
theorem dX7_meets_1 : decode cX7_meets 1 = .ok (.iconst 0, 1) := by decide +kernel
theorem dX7_meets_2 : decode cX7_meets 2 = .ok (.putfield 50, 3) := by decide +kernel
theorem dX7_meets_5 : decode cX7_meets 5 = .ok (.aload_n 0, 1) := by decide +kernel
theorem dX7_meets_6 : decode cX7_meets 6 = .ok (.iconst 0, 1) := by decide +kernel
theorem dX7_meets_7 : decode cX7_meets 7 = .ok (.invokevirtual 78, 3) := by decide +kernel
theorem dX7_meets_10 : decode cX7_meets 10 = .ok (.ifCond .eq 11, 3) := by decide +kernel
theorem dX7_meets_13 : decode cX7_meets 13 = .ok (.aload_n 0, 1) := by decide +kernel
theorem dX7_meets_14 : decode cX7_meets 14 = .ok (.iconst 1, 1) := by decide +kernel
theorem dX7_meets_15 : decode cX7_meets 15 = .ok (.invokevirtual 78, 3) := by decide +kernel
theorem dX7_meets_18 : decode cX7_meets 18 = .ok (.ifCond .ne 5, 3) := by decide +kernel
theorem dX7_meets_21 : decode cX7_meets 21 = .ok (.iconst (-1), 1) := by decide +kernel
theorem dX7_meets_22 : decode cX7_meets 22 = .ok (.ireturn, 1) := by decide +kernel
theorem dX7_meets_23 : decode cX7_meets 23 = .ok (.aload_n 0, 1) := by decide +kernel
theorem dX7_meets_24 : decode cX7_meets 24 = .ok (.getfield 13, 3) := by decide +kernel
theorem dX7_meets_27 : decode cX7_meets 27 = .ok (.bipush 7, 2) := by decide +kernel
theorem dX7_meets_29 : decode cX7_meets 29 = .ok (.iaload, 1) := by decide +kernel
theorem dX7_meets_30 : decode cX7_meets 30 = .ok (.istore_n 1, 1) := by decide +kernel
theorem dX7_meets_31 : decode cX7_meets 31 = .ok (.iload_n 1, 1) := by decide +kernel
theorem dX7_meets_32 : decode cX7_meets 32 = .ok (.aload_n 0, 1) := by decide +kernel
theorem dX7_meets_33 : decode cX7_meets 33 = .ok (.getfield 13, 3) := by decide +kernel
theorem dX7_meets_36 : decode cX7_meets 36 = .ok (.bipush 7, 2) := by decide +kernel
theorem dX7_meets_38 : decode cX7_meets 38 = .ok (.iaload, 1) := by decide +kernel
theorem dX7_meets_39 : decode cX7_meets 39 = .ok (.sipush 4000, 3) := by decide +kernel
theorem dX7_meets_42 : decode cX7_meets 42 = .ok (.iadd, 1) := by decide +kernel
theorem dX7_meets_43 : decode cX7_meets 43 = .ok (.if_icmp .ge 48, 3) := by decide +kernel
theorem dX7_meets_46 : decode cX7_meets 46 = .ok (.aload_n 0, 1) := by decide +kernel
theorem dX7_meets_47 : decode cX7_meets 47 = .ok (.iconst 0, 1) := by decide +kernel
theorem dX7_meets_48 : decode cX7_meets 48 = .ok (.iload_n 1, 1) := by decide +kernel
theorem dX7_meets_49 : decode cX7_meets 49 = .ok (.aload_n 0, 1) := by decide +kernel
theorem dX7_meets_50 : decode cX7_meets 50 = .ok (.getfield 13, 3) := by decide +kernel
theorem dX7_meets_53 : decode cX7_meets 53 = .ok (.iconst 0, 1) := by decide +kernel
theorem dX7_meets_54 : decode cX7_meets 54 = .ok (.invokestatic 75, 3) := by decide +kernel
theorem dX7_meets_57 : decode cX7_meets 57 = .ok (.iconst 2, 1) := by decide +kernel
theorem dX7_meets_58 : decode cX7_meets 58 = .ok (.iadd, 1) := by decide +kernel
theorem dX7_meets_59 : decode cX7_meets 59 = .ok (.iaload, 1) := by decide +kernel
theorem dX7_meets_60 : decode cX7_meets 60 = .ok (.invokevirtual 114, 3) := by decide +kernel
theorem dX7_meets_63 : decode cX7_meets 63 = .ok (.aload_n 0, 1) := by decide +kernel
theorem dX7_meets_64 : decode cX7_meets 64 = .ok (.iconst 1, 1) := by decide +kernel
theorem dX7_meets_65 : decode cX7_meets 65 = .ok (.iload_n 1, 1) := by decide +kernel
theorem dX7_meets_66 : decode cX7_meets 66 = .ok (.aload_n 0, 1) := by decide +kernel
theorem dX7_meets_67 : decode cX7_meets 67 = .ok (.getfield 13, 3) := by decide +kernel
theorem dX7_meets_70 : decode cX7_meets 70 = .ok (.iconst 1, 1) := by decide +kernel
theorem dX7_meets_71 : decode cX7_meets 71 = .ok (.invokestatic 75, 3) := by decide +kernel
theorem dX7_meets_74 : decode cX7_meets 74 = .ok (.iconst 2, 1) := by decide +kernel
theorem dX7_meets_75 : decode cX7_meets 75 = .ok (.iadd, 1) := by decide +kernel
theorem dX7_meets_76 : decode cX7_meets 76 = .ok (.iaload, 1) := by decide +kernel
theorem dX7_meets_77 : decode cX7_meets 77 = .ok (.invokevirtual 114, 3) := by decide +kernel
theorem dX7_meets_80 : decode cX7_meets 80 = .ok (.if_icmp .ne 5, 3) := by decide +kernel
theorem dX7_meets_83 : decode cX7_meets 83 = .ok (.iload_n 1, 1) := by decide +kernel
theorem dX7_meets_84 : decode cX7_meets 84 = .ok (.ireturn, 1) := by decide +kernel
theorem dX7_meets_85 : decode cX7_meets 85 = .ok (.iinc 1 1, 3) := by decide +kernel
theorem dX7_meets_88 : decode cX7_meets 88 = .ok (.goto (-57), 3) := by decide +kernel
theorem dX7_meets_91 : decode cX7_meets 91 = .ok (.iconst (-1), 1) := by decide +kernel
theorem dX7_meets_92 : decode cX7_meets 92 = .ok (.ireturn, 1) := by decide +kernel
theorem dX7_used_0 : decode cX7_used 0 = .ok (.aload_n 0, 1) := by decide +kernel
theorem dX7_used_1 : decode cX7_used 1 = .ok (.iconst 0, 1) := by decide +kernel
theorem dX7_used_2 : decode cX7_used 2 = .ok (.putfield 50, 3) := by decide +kernel
theorem dX7_used_5 : decode cX7_used 5 = .ok (.aload_n 0, 1) := by decide +kernel
theorem dX7_used_6 : decode cX7_used 6 = .ok (.iload_n 1, 1) := by decide +kernel
theorem dX7_used_7 : decode cX7_used 7 = .ok (.invokevirtual 78, 3) := by decide +kernel
theorem dX7_used_10 : decode cX7_used 10 = .ok (.ifCond .eq 27, 3) := by decide +kernel
theorem dX7_used_13 : decode cX7_used 13 = .ok (.iload_n 2, 1) := by decide +kernel
theorem dX7_used_14 : decode cX7_used 14 = .ok (.i2l, 1) := by decide +kernel
theorem dX7_used_15 : decode cX7_used 15 = .ok (.lconst 0, 1) := by decide +kernel
theorem dX7_used_16 : decode cX7_used 16 = .ok (.ldc2_w 128, 3) := by decide +kernel
theorem dX7_used_19 : decode cX7_used 19 = .ok (.invokestatic 71, 3) := by decide +kernel
theorem dX7_used_22 : decode cX7_used 22 = .ok (.ifCond .eq 15, 3) := by decide +kernel
theorem dX7_used_25 : decode cX7_used 25 = .ok (.iload_n 3, 1) := by decide +kernel
theorem dX7_used_26 : decode cX7_used 26 = .ok (.i2l, 1) := by decide +kernel
theorem dX7_used_27 : decode cX7_used 27 = .ok (.lconst 1, 1) := by decide +kernel
theorem dX7_used_28 : decode cX7_used 28 = .ok (.ldc2_w 245, 3) := by decide +kernel
theorem dX7_used_31 : decode cX7_used 31 = .ok (.invokestatic 71, 3) := by decide +kernel
theorem dX7_used_34 : decode cX7_used 34 = .ok (.ifCond .ne 5, 3) := by decide +kernel
theorem dX7_used_37 : decode cX7_used 37 = .ok (.iconst (-1), 1) := by decide +kernel
theorem dX7_used_38 : decode cX7_used 38 = .ok (.ireturn, 1) := by decide +kernel
theorem dX7_used_39 : decode cX7_used 39 = .ok (.iconst 0, 1) := by decide +kernel
theorem dX7_used_40 : decode cX7_used 40 = .ok (.istore 4, 2) := by decide +kernel
theorem dX7_used_42 : decode cX7_used 42 = .ok (.iconst 0, 1) := by decide +kernel
theorem dX7_used_43 : decode cX7_used 43 = .ok (.istore 5, 2) := by decide +kernel
theorem dX7_used_45 : decode cX7_used 45 = .ok (.iload 5, 2) := by decide +kernel
theorem dX7_used_47 : decode cX7_used 47 = .ok (.iload_n 3, 1) := by decide +kernel
theorem dX7_used_48 : decode cX7_used 48 = .ok (.if_icmp .ge 49, 3) := by decide +kernel
theorem dX7_used_51 : decode cX7_used 51 = .ok (.iload 4, 2) := by decide +kernel
theorem dX7_used_53 : decode cX7_used 53 = .ok (.aload_n 0, 1) := by decide +kernel
theorem dX7_used_54 : decode cX7_used 54 = .ok (.iload_n 1, 1) := by decide +kernel
theorem dX7_used_55 : decode cX7_used 55 = .ok (.aload_n 0, 1) := by decide +kernel
theorem dX7_used_56 : decode cX7_used 56 = .ok (.getfield 13, 3) := by decide +kernel
theorem dX7_used_59 : decode cX7_used 59 = .ok (.bipush 7, 2) := by decide +kernel
theorem dX7_used_61 : decode cX7_used 61 = .ok (.iaload, 1) := by decide +kernel
theorem dX7_used_62 : decode cX7_used 62 = .ok (.iload 5, 2) := by decide +kernel
theorem dX7_used_64 : decode cX7_used 64 = .ok (.iadd, 1) := by decide +kernel
theorem dX7_used_65 : decode cX7_used 65 = .ok (.aload_n 0, 1) := by decide +kernel
theorem dX7_used_66 : decode cX7_used 66 = .ok (.getfield 13, 3) := by decide +kernel
theorem dX7_used_69 : decode cX7_used 69 = .ok (.iload_n 1, 1) := by decide +kernel
theorem dX7_used_70 : decode cX7_used 70 = .ok (.invokestatic 75, 3) := by decide +kernel
theorem dX7_used_73 : decode cX7_used 73 = .ok (.iconst 2, 1) := by decide +kernel
theorem dX7_used_74 : decode cX7_used 74 = .ok (.iadd, 1) := by decide +kernel
theorem dX7_used_75 : decode cX7_used 75 = .ok (.iaload, 1) := by decide +kernel
theorem dX7_used_76 : decode cX7_used 76 = .ok (.invokevirtual 114, 3) := by decide +kernel
theorem dX7_used_79 : decode cX7_used 79 = .ok (.iload_n 2, 1) := by decide +kernel
theorem dX7_used_80 : decode cX7_used 80 = .ok (.if_icmp .ne 7, 3) := by decide +kernel
theorem dX7_used_83 : decode cX7_used 83 = .ok (.iconst 1, 1) := by decide +kernel
theorem dX7_used_84 : decode cX7_used 84 = .ok (.goto 4, 3) := by decide +kernel
theorem dX7_used_87 : decode cX7_used 87 = .ok (.iconst 0, 1) := by decide +kernel
theorem dX7_used_88 : decode cX7_used 88 = .ok (.iadd, 1) := by decide +kernel
theorem dX7_used_89 : decode cX7_used 89 = .ok (.istore 4, 2) := by decide +kernel
theorem dX7_used_91 : decode cX7_used 91 = .ok (.iinc 5 1, 3) := by decide +kernel
theorem dX7_used_94 : decode cX7_used 94 = .ok (.goto (-49), 3) := by decide +kernel
theorem dX7_used_97 : decode cX7_used 97 = .ok (.iload 4, 2) := by decide +kernel
theorem dX7_used_99 : decode cX7_used 99 = .ok (.ireturn, 1) := by decide +kernel
theorem dX7_bad_0 : decode cX7_bad 0 = .ok (.aload_n 0, 1) := by decide +kernel
theorem dX7_bad_1 : decode cX7_bad 1 = .ok (.iconst 0, 1) := by decide +kernel
theorem dX7_bad_2 : decode cX7_bad 2 = .ok (.putfield 50, 3) := by decide +kernel
theorem dX7_bad_5 : decode cX7_bad 5 = .ok (.aload_n 0, 1) := by decide +kernel
theorem dX7_bad_6 : decode cX7_bad 6 = .ok (.iload_n 1, 1) := by decide +kernel
theorem dX7_bad_7 : decode cX7_bad 7 = .ok (.invokevirtual 78, 3) := by decide +kernel
theorem dX7_bad_10 : decode cX7_bad 10 = .ok (.ifCond .eq 24, 3) := by decide +kernel
theorem dX7_bad_13 : decode cX7_bad 13 = .ok (.iload_n 2, 1) := by decide +kernel
theorem dX7_bad_14 : decode cX7_bad 14 = .ok (.i2l, 1) := by decide +kernel
theorem dX7_bad_15 : decode cX7_bad 15 = .ok (.lconst 1, 1) := by decide +kernel
theorem dX7_bad_16 : decode cX7_bad 16 = .ok (.ldc2_w 162, 3) := by decide +kernel
theorem dX7_bad_19 : decode cX7_bad 19 = .ok (.invokestatic 71, 3) := by decide +kernel
theorem dX7_bad_22 : decode cX7_bad 22 = .ok (.ifCond .eq 12, 3) := by decide +kernel
theorem dX7_bad_25 : decode cX7_bad 25 = .ok (.aload_n 0, 1) := by decide +kernel
theorem dX7_bad_26 : decode cX7_bad 26 = .ok (.iload_n 1, 1) := by decide +kernel
theorem dX7_bad_27 : decode cX7_bad 27 = .ok (.iload_n 2, 1) := by decide +kernel
theorem dX7_bad_28 : decode cX7_bad 28 = .ok (.invokevirtual 164, 3) := by decide +kernel
theorem dX7_bad_31 : decode cX7_bad 31 = .ok (.goto 4, 3) := by decide +kernel
theorem dX7_bad_34 : decode cX7_bad 34 = .ok (.iconst (-1), 1) := by decide +kernel
theorem dX7_bad_35 : decode cX7_bad 35 = .ok (.ireturn, 1) := by decide +kernel
theorem dX7_sent_0 : decode cX7_sent 0 = .ok (.aload_n 0, 1) := by decide +kernel
theorem dX7_sent_1 : decode cX7_sent 1 = .ok (.iconst 0, 1) := by decide +kernel
theorem dX7_sent_2 : decode cX7_sent 2 = .ok (.putfield 50, 3) := by decide +kernel
theorem dX7_sent_5 : decode cX7_sent 5 = .ok (.aload_n 0, 1) := by decide +kernel
theorem dX7_sent_6 : decode cX7_sent 6 = .ok (.iload_n 1, 1) := by decide +kernel
theorem dX7_sent_7 : decode cX7_sent 7 = .ok (.invokevirtual 78, 3) := by decide +kernel
theorem dX7_sent_10 : decode cX7_sent 10 = .ok (.ifCond .eq 25, 3) := by decide +kernel
theorem dX7_sent_13 : decode cX7_sent 13 = .ok (.iload_n 2, 1) := by decide +kernel
theorem dX7_sent_14 : decode cX7_sent 14 = .ok (.i2l, 1) := by decide +kernel
theorem dX7_sent_15 : decode cX7_sent 15 = .ok (.lconst 0, 1) := by decide +kernel
theorem dX7_sent_16 : decode cX7_sent 16 = .ok (.ldc2_w 128, 3) := by decide +kernel
theorem dX7_sent_19 : decode cX7_sent 19 = .ok (.invokestatic 71, 3) := by decide +kernel
theorem dX7_sent_22 : decode cX7_sent 22 = .ok (.ifCond .eq 13, 3) := by decide +kernel
theorem dX7_sent_25 : decode cX7_sent 25 = .ok (.iload_n 3, 1) := by decide +kernel
theorem dX7_sent_26 : decode cX7_sent 26 = .ok (.i2l, 1) := by decide +kernel
theorem dX7_sent_27 : decode cX7_sent 27 = .ok (.lconst 0, 1) := by decide +kernel
theorem dX7_sent_28 : decode cX7_sent 28 = .ok (.lconst 1, 1) := by decide +kernel
theorem dX7_sent_29 : decode cX7_sent 29 = .ok (.invokestatic 71, 3) := by decide +kernel
theorem dX7_sent_32 : decode cX7_sent 32 = .ok (.ifCond .ne 5, 3) := by decide +kernel
theorem dX7_sent_35 : decode cX7_sent 35 = .ok (.iconst (-1), 1) := by decide +kernel
theorem dX7_sent_36 : decode cX7_sent 36 = .ok (.ireturn, 1) := by decide +kernel
theorem dX7_sent_37 : decode cX7_sent 37 = .ok (.aload_n 0, 1) := by decide +kernel
theorem dX7_sent_38 : decode cX7_sent 38 = .ok (.getfield 13, 3) := by decide +kernel
theorem dX7_sent_41 : decode cX7_sent 41 = .ok (.iload_n 1, 1) := by decide +kernel
theorem dX7_sent_42 : decode cX7_sent 42 = .ok (.invokestatic 75, 3) := by decide +kernel
theorem dX7_sent_45 : decode cX7_sent 45 = .ok (.iload_n 3, 1) := by decide +kernel
theorem dX7_sent_46 : decode cX7_sent 46 = .ok (.ifCond .ne 8, 3) := by decide +kernel
theorem dX7_sent_49 : decode cX7_sent 49 = .ok (.bipush 16, 2) := by decide +kernel
theorem dX7_sent_51 : decode cX7_sent 51 = .ok (.goto 5, 3) := by decide +kernel
theorem dX7_sent_54 : decode cX7_sent 54 = .ok (.bipush 39, 2) := by decide +kernel
theorem dX7_sent_56 : decode cX7_sent 56 = .ok (.iadd, 1) := by decide +kernel
theorem dX7_sent_57 : decode cX7_sent 57 = .ok (.iload_n 2, 1) := by decide +kernel
theorem dX7_sent_58 : decode cX7_sent 58 = .ok (.iadd, 1) := by decide +kernel
theorem dX7_sent_59 : decode cX7_sent 59 = .ok (.iaload, 1) := by decide +kernel
theorem dX7_sent_60 : decode cX7_sent 60 = .ok (.ireturn, 1) := by decide +kernel
theorem dX7_link_0 : decode cX7_link 0 = .ok (.aload_n 0, 1) := by decide +kernel
theorem dX7_link_1 : decode cX7_link 1 = .ok (.iconst 0, 1) := by decide +kernel
theorem dX7_link_2 : decode cX7_link 2 = .ok (.putfield 50, 3) := by decide +kernel
theorem dX7_link_5 : decode cX7_link 5 = .ok (.aload_n 0, 1) := by decide +kernel
theorem dX7_link_6 : decode cX7_link 6 = .ok (.iload_n 1, 1) := by decide +kernel
theorem dX7_link_7 : decode cX7_link 7 = .ok (.iload_n 2, 1) := by decide +kernel
theorem dX7_link_8 : decode cX7_link 8 = .ok (.invokevirtual 106, 3) := by decide +kernel
theorem dX7_link_11 : decode cX7_link 11 = .ok (.ifCond .ne 5, 3) := by decide +kernel
theorem dX7_link_14 : decode cX7_link 14 = .ok (.iconst (-1), 1) := by decide +kernel
theorem dX7_link_15 : decode cX7_link 15 = .ok (.ireturn, 1) := by decide +kernel
theorem dX7_link_16 : decode cX7_link 16 = .ok (.iload_n 1, 1) := by decide +kernel
theorem dX7_link_17 : decode cX7_link 17 = .ok (.iload_n 2, 1) := by decide +kernel
theorem dX7_link_18 : decode cX7_link 18 = .ok (.invokestatic 82, 3) := by decide +kernel
theorem dX7_link_21 : decode cX7_link 21 = .ok (.istore 4, 2) := by decide +kernel
theorem dX7_link_23 : decode cX7_link 23 = .ok (.iload_n 3, 1) := by decide +kernel
theorem dX7_link_24 : decode cX7_link 24 = .ok (.tableswitch 267 0 16 #[84, 92, 102, 113, 124, 135, 146, 157, 168, 179, 190, 201, 212, 223, 234, 245, 256], 84) := by decide +kernel
theorem dX7_link_108 : decode cX7_link 108 = .ok (.aload_n 0, 1) := by decide +kernel
theorem dX7_link_109 : decode cX7_link 109 = .ok (.getfield 13, 3) := by decide +kernel
theorem dX7_link_112 : decode cX7_link 112 = .ok (.iload 4, 2) := by decide +kernel
theorem dX7_link_114 : decode cX7_link 114 = .ok (.iaload, 1) := by decide +kernel
theorem dX7_link_115 : decode cX7_link 115 = .ok (.ireturn, 1) := by decide +kernel
theorem dX7_link_116 : decode cX7_link 116 = .ok (.aload_n 0, 1) := by decide +kernel
theorem dX7_link_117 : decode cX7_link 117 = .ok (.getfield 13, 3) := by decide +kernel
theorem dX7_link_120 : decode cX7_link 120 = .ok (.iload 4, 2) := by decide +kernel
theorem dX7_link_122 : decode cX7_link 122 = .ok (.iconst 5, 1) := by decide +kernel
theorem dX7_link_123 : decode cX7_link 123 = .ok (.iadd, 1) := by decide +kernel
theorem dX7_link_124 : decode cX7_link 124 = .ok (.iaload, 1) := by decide +kernel
theorem dX7_link_125 : decode cX7_link 125 = .ok (.ireturn, 1) := by decide +kernel
theorem dX7_link_126 : decode cX7_link 126 = .ok (.aload_n 0, 1) := by decide +kernel
theorem dX7_link_127 : decode cX7_link 127 = .ok (.getfield 13, 3) := by decide +kernel
theorem dX7_link_130 : decode cX7_link 130 = .ok (.iload 4, 2) := by decide +kernel
theorem dX7_link_132 : decode cX7_link 132 = .ok (.bipush 14, 2) := by decide +kernel
theorem dX7_link_134 : decode cX7_link 134 = .ok (.iadd, 1) := by decide +kernel
theorem dX7_link_135 : decode cX7_link 135 = .ok (.iaload, 1) := by decide +kernel
theorem dX7_link_136 : decode cX7_link 136 = .ok (.ireturn, 1) := by decide +kernel
theorem dX7_link_137 : decode cX7_link 137 = .ok (.aload_n 0, 1) := by decide +kernel
theorem dX7_link_138 : decode cX7_link 138 = .ok (.getfield 13, 3) := by decide +kernel
theorem dX7_link_141 : decode cX7_link 141 = .ok (.iload 4, 2) := by decide +kernel
theorem dX7_link_143 : decode cX7_link 143 = .ok (.bipush 27, 2) := by decide +kernel
theorem dX7_link_145 : decode cX7_link 145 = .ok (.iadd, 1) := by decide +kernel
theorem dX7_link_146 : decode cX7_link 146 = .ok (.iaload, 1) := by decide +kernel
theorem dX7_link_147 : decode cX7_link 147 = .ok (.ireturn, 1) := by decide +kernel
theorem dX7_link_148 : decode cX7_link 148 = .ok (.aload_n 0, 1) := by decide +kernel
theorem dX7_link_149 : decode cX7_link 149 = .ok (.getfield 13, 3) := by decide +kernel
theorem dX7_link_152 : decode cX7_link 152 = .ok (.iload 4, 2) := by decide +kernel
theorem dX7_link_154 : decode cX7_link 154 = .ok (.bipush 29, 2) := by decide +kernel
theorem dX7_link_156 : decode cX7_link 156 = .ok (.iadd, 1) := by decide +kernel
theorem dX7_link_157 : decode cX7_link 157 = .ok (.iaload, 1) := by decide +kernel
theorem dX7_link_158 : decode cX7_link 158 = .ok (.ireturn, 1) := by decide +kernel
theorem dX7_link_159 : decode cX7_link 159 = .ok (.aload_n 0, 1) := by decide +kernel
theorem dX7_link_160 : decode cX7_link 160 = .ok (.getfield 13, 3) := by decide +kernel
theorem dX7_link_163 : decode cX7_link 163 = .ok (.iload 4, 2) := by decide +kernel
theorem dX7_link_165 : decode cX7_link 165 = .ok (.bipush 37, 2) := by decide +kernel
theorem dX7_link_167 : decode cX7_link 167 = .ok (.iadd, 1) := by decide +kernel
theorem dX7_link_168 : decode cX7_link 168 = .ok (.iaload, 1) := by decide +kernel
theorem dX7_link_169 : decode cX7_link 169 = .ok (.ireturn, 1) := by decide +kernel
theorem dX7_link_170 : decode cX7_link 170 = .ok (.aload_n 0, 1) := by decide +kernel
theorem dX7_link_171 : decode cX7_link 171 = .ok (.getfield 13, 3) := by decide +kernel
theorem dX7_link_174 : decode cX7_link 174 = .ok (.iload 4, 2) := by decide +kernel
theorem dX7_link_176 : decode cX7_link 176 = .ok (.bipush 23, 2) := by decide +kernel
theorem dX7_link_178 : decode cX7_link 178 = .ok (.iadd, 1) := by decide +kernel
theorem dX7_link_179 : decode cX7_link 179 = .ok (.iaload, 1) := by decide +kernel
theorem dX7_link_180 : decode cX7_link 180 = .ok (.ireturn, 1) := by decide +kernel
theorem dX7_link_181 : decode cX7_link 181 = .ok (.aload_n 0, 1) := by decide +kernel
theorem dX7_link_182 : decode cX7_link 182 = .ok (.getfield 13, 3) := by decide +kernel
theorem dX7_link_185 : decode cX7_link 185 = .ok (.iload 4, 2) := by decide +kernel
theorem dX7_link_187 : decode cX7_link 187 = .ok (.bipush 24, 2) := by decide +kernel
theorem dX7_link_189 : decode cX7_link 189 = .ok (.iadd, 1) := by decide +kernel
theorem dX7_link_190 : decode cX7_link 190 = .ok (.iaload, 1) := by decide +kernel
theorem dX7_link_191 : decode cX7_link 191 = .ok (.ireturn, 1) := by decide +kernel
theorem dX7_link_192 : decode cX7_link 192 = .ok (.aload_n 0, 1) := by decide +kernel
theorem dX7_link_193 : decode cX7_link 193 = .ok (.getfield 13, 3) := by decide +kernel
theorem dX7_link_196 : decode cX7_link 196 = .ok (.iload 4, 2) := by decide +kernel
theorem dX7_link_198 : decode cX7_link 198 = .ok (.bipush 25, 2) := by decide +kernel
theorem dX7_link_200 : decode cX7_link 200 = .ok (.iadd, 1) := by decide +kernel
theorem dX7_link_201 : decode cX7_link 201 = .ok (.iaload, 1) := by decide +kernel
theorem dX7_link_202 : decode cX7_link 202 = .ok (.ireturn, 1) := by decide +kernel
theorem dX7_link_203 : decode cX7_link 203 = .ok (.aload_n 0, 1) := by decide +kernel
theorem dX7_link_204 : decode cX7_link 204 = .ok (.getfield 13, 3) := by decide +kernel
theorem dX7_link_207 : decode cX7_link 207 = .ok (.iload 4, 2) := by decide +kernel
theorem dX7_link_209 : decode cX7_link 209 = .ok (.bipush 26, 2) := by decide +kernel
theorem dX7_link_211 : decode cX7_link 211 = .ok (.iadd, 1) := by decide +kernel
theorem dX7_link_212 : decode cX7_link 212 = .ok (.iaload, 1) := by decide +kernel
theorem dX7_link_213 : decode cX7_link 213 = .ok (.ireturn, 1) := by decide +kernel
theorem dX7_link_214 : decode cX7_link 214 = .ok (.aload_n 0, 1) := by decide +kernel
theorem dX7_link_215 : decode cX7_link 215 = .ok (.getfield 13, 3) := by decide +kernel
theorem dX7_link_218 : decode cX7_link 218 = .ok (.iload 4, 2) := by decide +kernel
theorem dX7_link_220 : decode cX7_link 220 = .ok (.bipush 38, 2) := by decide +kernel
theorem dX7_link_222 : decode cX7_link 222 = .ok (.iadd, 1) := by decide +kernel
theorem dX7_link_223 : decode cX7_link 223 = .ok (.iaload, 1) := by decide +kernel
theorem dX7_link_224 : decode cX7_link 224 = .ok (.ireturn, 1) := by decide +kernel
theorem dX7_link_225 : decode cX7_link 225 = .ok (.aload_n 0, 1) := by decide +kernel
theorem dX7_link_226 : decode cX7_link 226 = .ok (.getfield 13, 3) := by decide +kernel
theorem dX7_link_229 : decode cX7_link 229 = .ok (.iload 4, 2) := by decide +kernel
theorem dX7_link_231 : decode cX7_link 231 = .ok (.bipush 42, 2) := by decide +kernel
theorem dX7_link_233 : decode cX7_link 233 = .ok (.iadd, 1) := by decide +kernel
theorem dX7_link_234 : decode cX7_link 234 = .ok (.iaload, 1) := by decide +kernel
theorem dX7_link_235 : decode cX7_link 235 = .ok (.ireturn, 1) := by decide +kernel
theorem dX7_link_236 : decode cX7_link 236 = .ok (.aload_n 0, 1) := by decide +kernel
theorem dX7_link_237 : decode cX7_link 237 = .ok (.getfield 13, 3) := by decide +kernel
theorem dX7_link_240 : decode cX7_link 240 = .ok (.iload 4, 2) := by decide +kernel
theorem dX7_link_242 : decode cX7_link 242 = .ok (.bipush 43, 2) := by decide +kernel
theorem dX7_link_244 : decode cX7_link 244 = .ok (.iadd, 1) := by decide +kernel
theorem dX7_link_245 : decode cX7_link 245 = .ok (.iaload, 1) := by decide +kernel
theorem dX7_link_246 : decode cX7_link 246 = .ok (.ireturn, 1) := by decide +kernel
theorem dX7_link_247 : decode cX7_link 247 = .ok (.aload_n 0, 1) := by decide +kernel
theorem dX7_link_248 : decode cX7_link 248 = .ok (.getfield 13, 3) := by decide +kernel
theorem dX7_link_251 : decode cX7_link 251 = .ok (.iload 4, 2) := by decide +kernel
theorem dX7_link_253 : decode cX7_link 253 = .ok (.bipush 45, 2) := by decide +kernel
theorem dX7_link_255 : decode cX7_link 255 = .ok (.iadd, 1) := by decide +kernel
theorem dX7_link_256 : decode cX7_link 256 = .ok (.iaload, 1) := by decide +kernel
theorem dX7_link_257 : decode cX7_link 257 = .ok (.ireturn, 1) := by decide +kernel
theorem dX7_link_258 : decode cX7_link 258 = .ok (.aload_n 0, 1) := by decide +kernel
theorem dX7_link_259 : decode cX7_link 259 = .ok (.getfield 13, 3) := by decide +kernel
theorem dX7_link_262 : decode cX7_link 262 = .ok (.iload 4, 2) := by decide +kernel
theorem dX7_link_264 : decode cX7_link 264 = .ok (.bipush 46, 2) := by decide +kernel
theorem dX7_link_266 : decode cX7_link 266 = .ok (.iadd, 1) := by decide +kernel
theorem dX7_link_267 : decode cX7_link 267 = .ok (.iaload, 1) := by decide +kernel
theorem dX7_link_268 : decode cX7_link 268 = .ok (.ireturn, 1) := by decide +kernel
theorem dX7_link_269 : decode cX7_link 269 = .ok (.aload_n 0, 1) := by decide +kernel
theorem dX7_link_270 : decode cX7_link 270 = .ok (.getfield 13, 3) := by decide +kernel
theorem dX7_link_273 : decode cX7_link 273 = .ok (.iload 4, 2) := by decide +kernel
theorem dX7_link_275 : decode cX7_link 275 = .ok (.bipush 47, 2) := by decide +kernel
theorem dX7_link_277 : decode cX7_link 277 = .ok (.iadd, 1) := by decide +kernel
theorem dX7_link_278 : decode cX7_link 278 = .ok (.iaload, 1) := by decide +kernel
theorem dX7_link_279 : decode cX7_link 279 = .ok (.ireturn, 1) := by decide +kernel
theorem dX7_link_280 : decode cX7_link 280 = .ok (.aload_n 0, 1) := by decide +kernel
theorem dX7_link_281 : decode cX7_link 281 = .ok (.getfield 13, 3) := by decide +kernel
theorem dX7_link_284 : decode cX7_link 284 = .ok (.iload 4, 2) := by decide +kernel
theorem dX7_link_286 : decode cX7_link 286 = .ok (.bipush 48, 2) := by decide +kernel
theorem dX7_link_288 : decode cX7_link 288 = .ok (.iadd, 1) := by decide +kernel
theorem dX7_link_289 : decode cX7_link 289 = .ok (.iaload, 1) := by decide +kernel
theorem dX7_link_290 : decode cX7_link 290 = .ok (.ireturn, 1) := by decide +kernel
theorem dX7_link_291 : decode cX7_link 291 = .ok (.iconst (-1), 1) := by decide +kernel
theorem dX7_link_292 : decode cX7_link 292 = .ok (.ireturn, 1) := by decide +kernel
set_option maxHeartbeats 4000000 in
set_option maxRecDepth 100000 in
theorem d_X7_mapHeldI (l : Launch) (E : hE) (ρ r : Nat → Nat → Int32) (Bt : Nat) (hBt : Bt ≤ 1000000) (M : Nat → Int32) (L : Nat → Nat) (X : Nat × Nat → Prop) (na1 : Nat) (lna1 : 0 ≤ na1) (una1 : na1 ≤ 1) (a2 : Int32) (hI : RI r Bt M L X ρ) (hm : iR (M na1) 0 5) (hmp : iR a2 (-1) ((L na1 : Int) - 1)) (h4 : L na1 ≤ 4) : Met l yX7_mapHeld (.code yX7_mapHeld cX7_mapHeld 3 (some .int) :: gw_all) (rmk 3 120) (cPre E ρ [.ref (E.2.1 + 1076), .int (nI na1), .int a2]) (cI E (fun v ρ1 => ρ = ρ1 ∧ RI r Bt M L X ρ1 ∧ iR v (1) (8388607))) 0 0 (hA E) := by
  refine ent (own := RX7) (by decide) rfl (Nat.le_of_ble_eq_true rfl) ?_
  intro p e s m below meth c ls B hr hlk hl hP hS
  have hx := B.1.1
  have hb := B.1.2.1
  have hown := B.1.2.2.2.1
  have hts := B.1.2.2.2.2
  have hl : lv_has ls 3 [(0, .ref (E.2.1 + 1076)), (1, .int (nI na1)), (2, .int a2)] := hl
  refine lv_iload_n hx hb dX7_mapHeld_0 rfl (lv_at hl 2 rfl) ?_
  refine lv_iconst (v := (-1)) hx hb dX7_mapHeld_1 (by decide) ?_
  refine lv_icmp_ne (tgt := 19) hx hb dX7_mapHeld_2 (by decide) (fun c19 => ?_) (fun c19 => ?_)
  · skip
    have i20 : iR a2 (0) (3) := (iR_neL (iR_w (a := -1) (b := (L na1 : Int) - 1) (a' := -1) (b' := 3) hmp (by decide) (by omega)) (show iR (-1) (-1) (-1) from ⟨by decide, by decide⟩) c19 (by decide) (by decide))
    refine lv_aload_n hx hb dX7_mapHeld_19 rfl (lv_at hl 0 rfl) ?_
    refine get7 B hP (show hk 1076 = 7 by decide +kernel) 3 (by decide) mw_1030 rfl dX7_mapHeld_20 ?_
    refine lv_iload_n hx hb dX7_mapHeld_23 rfl (lv_at hl 1 rfl) ?_
    refine lv_iload_n hx hb dX7_mapHeld_24 rfl (lv_at hl 2 rfl) ?_
    have := nn_r (x := a2) (a := 0) (b := 3) i20 (by decide)
    refine lv_topi (fun z21 ez21 => ?_)
    obtain rfl : z21 = nI (nn a2) := ez21.trans (nn_eq a2)
    have : (nn a2) < L na1 := rl_lt hmp (nn_eq a2) (by omega)
    refine call_i (cS (av := [.int (nI na1), .int (nI (nn a2))]) (rest := [.ref (E.2.1 + 1078)]) B hP hS (d_X7_linkAt l E ρ r Bt hBt M L X na1 (by omega) (by omega) (nn a2) (by omega) (by omega) hI) lk_RX7_82 rfl rfl hl.1 (Nat.le_of_ble_eq_true rfl) ⟨Nat.le_of_ble_eq_true rfl, Nat.le_of_ble_eq_true rfl⟩ ⟨Nat.le_of_ble_eq_true rfl, Nat.le_of_ble_eq_true rfl⟩ dX7_mapHeld_25) hS (fun r22 ρ23 H locs q24 hP hS => ?_)
    obtain ⟨rfl, hI, q24⟩ := q24
    obtain rfl : r22 = nI (104 + 326 * na1 + 66 * (nn a2)) := q24.trans (congrArg nI (by omega))
    refine lv_iconst (v := 1) hx hb dX7_mapHeld_28 (by decide) ?_
    refine lv_iadd hx hb dX7_mapHeld_29 ?_
    refine lv_topi (fun z25 ez25 => ?_)
    obtain rfl : z25 = (nI (105 + 326 * na1 + 66 * (nn a2))) := ez25.trans (by rw [show (nI (104 + 326 * na1 + 66 * (nn a2))) = nI (104 + 326 * na1 + 66 * (nn a2)) from rfl, show 1 = nI 1 from rfl, nI_add] <;> exact congrArg nI (by omega))
    refine aldn (n := 695) (j := (105 + 326 * na1 + 66 * (nn a2))) B hP (show hk 1078 = 8 by decide +kernel) (show hlen 1078 = 695 by decide +kernel) rfl (by omega) (by decide) dX7_mapHeld_30 ?_
    have i26 : iR (ρ 1078 (105 + 326 * na1 + 66 * (nn a2))) (1) (8388607) := g_itsmap (n0 := na1) (l0 := (nn a2)) (j := (105 + 326 * na1 + 66 * (nn a2))) hI (by omega) (by omega) (by omega)
    obtain ⟨j27, lj27, uj27, ej27⟩ := iR_nat (a := 1) (b := 8388607) i26
    refine lv_topi (fun z28 ez28 => ?_)
    obtain rfl : z28 = nI j27 := ez28.trans ej27
    exact ret_i B hr hlk hP hS dX7_mapHeld_31 (⟨rfl, hI, (iR_w (a := 1) (b := 8388607) (nI_iR (j := j27) (a := 1) (b := 8388607) (by omega) (by omega) (by omega)) (by decide) (by decide))⟩)
  · skip
    have i29 : iR a2 (-1) (-1) := (by rw [c19]; exact ⟨by decide, by decide⟩)
    refine lv_aload_n hx hb dX7_mapHeld_5 rfl (lv_at hl 0 rfl) ?_
    refine get7 B hP (show hk 1076 = 7 by decide +kernel) 3 (by decide) mw_1030 rfl dX7_mapHeld_6 ?_
    refine lv_iload_n hx hb dX7_mapHeld_9 rfl (lv_at hl 1 rfl) ?_
    refine call_i (cS (av := [.int (nI na1)]) (rest := [.ref (E.2.1 + 1078)]) B hP hS (d_X7_netAt l E ρ r Bt hBt M L X na1 (by omega) (by omega) hI) lk_RX7_75 rfl rfl hl.1 (Nat.le_of_ble_eq_true rfl) ⟨Nat.le_of_ble_eq_true rfl, Nat.le_of_ble_eq_true rfl⟩ ⟨Nat.le_of_ble_eq_true rfl, Nat.le_of_ble_eq_true rfl⟩ dX7_mapHeld_10) hS (fun r30 ρ31 H locs q32 hP hS => ?_)
    obtain ⟨rfl, hI, q32⟩ := q32
    obtain rfl : r30 = nI (42 + 326 * na1) := q32.trans (congrArg nI (by omega))
    refine lv_iconst (v := 2) hx hb dX7_mapHeld_13 (by decide) ?_
    refine lv_iadd hx hb dX7_mapHeld_14 ?_
    refine lv_topi (fun z33 ez33 => ?_)
    obtain rfl : z33 = (nI (44 + 326 * na1)) := ez33.trans (by rw [show (nI (42 + 326 * na1)) = nI (42 + 326 * na1) from rfl, show 2 = nI 2 from rfl, nI_add] <;> exact congrArg nI (by omega))
    refine aldn (n := 695) (j := (44 + 326 * na1)) B hP (show hk 1078 = 8 by decide +kernel) (show hlen 1078 = 695 by decide +kernel) rfl (by omega) (by decide) dX7_mapHeld_15 ?_
    have i34 : iR (ρ 1078 (44 + 326 * na1)) (1) (8388607) := g_map (n0 := na1) (j := (44 + 326 * na1)) hI (by omega) hm (by omega)
    obtain ⟨j35, lj35, uj35, ej35⟩ := iR_nat (a := 1) (b := 8388607) i34
    refine lv_topi (fun z36 ez36 => ?_)
    obtain rfl : z36 = nI j35 := ez36.trans ej35
    refine lv_goto (tgt := 31) hx hb dX7_mapHeld_16 (by decide) ?_
    exact ret_i B hr hlk hP hS dX7_mapHeld_31 (⟨rfl, hI, (iR_w (a := 1) (b := 8388607) (nI_iR (j := j35) (a := 1) (b := 8388607) (by omega) (by omega) (by omega)) (by decide) (by decide))⟩)

theorem lk_RX7_106 : LkV RX7 106 RX7 yX7_isLink cX7_isLink 3 (some .boolean) 2 := ⟨⟨mw_1130, mw_1132, mw_12, mw_59, mw_1133⟩, by decide +kernel⟩
theorem lk_RX7_111 : LkV RX7 111 RX7 yX7_mapHeld cX7_mapHeld 3 (some .int) 2 := ⟨⟨mw_1135, mw_1137, mw_13, mw_59, mw_1138⟩, by decide +kernel⟩
set_option maxHeartbeats 4000000 in
set_option maxRecDepth 100000 in
theorem d_X7_hop (l : Launch) (E : hE) (ρ r : Nat → Nat → Int32) (Bt : Nat) (hBt : Bt ≤ 1000000) (M : Nat → Int32) (L : Nat → Nat) (X : Nat × Nat → Prop) (a1 : Int32) (a2 : Int32) (a3 : Int32) (hI : RI r Bt M L X ρ) : Met l yX7_hop (.code yX7_hop cX7_hop 4 (some .int) :: gw_all) (rmk 4 160) (cPre E ρ [.ref (E.2.1 + 1076), .int a1, .int a2, .int a3]) (cI E (fun v ρ1 => RI r Bt M L X ρ1)) 0 0 (hA E) := by
  refine ent (own := RX7) (by decide) rfl (Nat.le_of_ble_eq_true rfl) ?_
  intro p e s m below meth c ls B hr hlk hl hP hS
  have hx := B.1.1
  have hb := B.1.2.1
  have hown := B.1.2.2.2.1
  have hts := B.1.2.2.2.2
  have hl : lv_has ls 4 [(0, .ref (E.2.1 + 1076)), (1, .int a1), (2, .int a2), (3, .int a3)] := hl
  refine lv_aload_n hx hb dX7_hop_0 rfl (lv_at hl 0 rfl) ?_
  refine lv_iconst (v := 0) hx hb dX7_hop_1 (by decide) ?_
  refine put7 B hP hS (show hk 1076 = 7 by decide +kernel) 0 (by decide) mw_1027 rfl rfl rfl (fs7_0 E 1076 _ _) dX7_hop_2 (fun H locs hP hS => ?_)
  obtain ⟨ρ65, e66⟩ : ∃ z, z = up ρ 1076 0 0 := ⟨_, rfl⟩
  rw [← e66] at hP
  have hI : RI r Bt M L X ρ65 := by rw [e66]; exact RI_76 hI (by decide)
  refine lv_aload_n hx hb dX7_hop_5 rfl (lv_at hl 0 rfl) ?_
  refine lv_iload_n hx hb dX7_hop_6 rfl (lv_at hl 1 rfl) ?_
  refine call_i (cVt (k := 1076) (av := [.int a1]) (rest := []) B hP hS (d_X7_isNet l E ρ65 r Bt hBt M L X a1 hI) lk_RX7_78 (hrecv (ci := 7) B hP (hk_lt (c := 7) (show hk 1076 = 7 by decide +kernel) (by decide)) (hcc7 _ _ (show hk 1076 = 7 by decide +kernel)) rfl) rfl rfl hl.1 (Nat.le_of_ble_eq_true rfl) ⟨Nat.le_of_ble_eq_true rfl, Nat.le_of_ble_eq_true rfl⟩ ⟨Nat.le_of_ble_eq_true rfl, Nat.le_of_ble_eq_true rfl⟩ dX7_hop_7) hS (fun r67 ρ68 H locs q69 hP hS => ?_)
  obtain ⟨rfl, hI, q69⟩ := q69
  rcases q69 with rfl | ⟨rfl, j70, hj70, ej70, i71⟩
  · skip
    refine lv_if_eq (tgt := 39) hx hb dX7_hop_10 (by decide) (fun _ => ?_) (fun c72 => absurd rfl c72)
    refine lv_iconst (v := (-1)) hx hb dX7_hop_39 (by decide) ?_
    exact ret_i B hr hlk hP hS dX7_hop_40 (hI)
  · skip
    have n73 : nn a1 = j70 := nn_u ej70 (by omega)
    have i74 : iR (M (nn a1)) 0 5 := by rw [n73]; exact i71
    refine lv_if_eq (tgt := 39) hx hb dX7_hop_10 (by decide) (fun c75 => absurd c75 (iR_ne (show iR 1 (1) (1) from ⟨by decide, by decide⟩) (show iR 0 (0) (0) from ⟨by decide, by decide⟩) (by decide))) (fun _ => ?_)
    refine lv_iload_n hx hb dX7_hop_13 rfl (lv_at hl 2 rfl) ?_
    refine lv_iconst (v := (-1)) hx hb dX7_hop_14 (by decide) ?_
    refine lv_icmp_eq (tgt := 27) hx hb dX7_hop_15 (by decide) (fun c76 => ?_) (fun c76 => ?_)
    · skip
      have i77 : iR a2 (-1) (-1) := (by rw [c76]; exact ⟨by decide, by decide⟩)
      refine lv_iload_n hx hb dX7_hop_27 rfl (lv_at hl 3 rfl) ?_
      refine lv_i2l hx hb dX7_hop_28 rfl ?_
      refine lv_lconst (v := 0) hx hb dX7_hop_29 (by decide) ?_
      refine lv_ldc2 (v := 199999) hx hb hown (hts _ mw_1134) dX7_hop_30 ?_
      refine call_i (cS (av := [.long a3.toInt64, .long 0, .long 199999]) (rest := []) B hP hS (c_in l E ρ65 a3.toInt64 0 199999 0 199999 (by decide) (by decide)) lk_RX7_71 rfl rfl hl.1 (Nat.le_of_ble_eq_true rfl) ⟨Nat.le_of_ble_eq_true rfl, Nat.le_of_ble_eq_true rfl⟩ ⟨Nat.le_of_ble_eq_true rfl, Nat.le_of_ble_eq_true rfl⟩ dX7_hop_33) hS (fun r78 ρ79 H locs q80 hP hS => ?_)
      obtain ⟨rfl, q80⟩ := q80
      rcases q80 with ⟨rfl, q80⟩ | ⟨rfl, q80⟩
      · skip
        have i81 : iR a3 0 199999 := (lR_i _ _ _).mp q80
        refine lv_if_ne (tgt := 41) hx hb dX7_hop_36 (by decide) (fun _ => ?_) (fun c82 => absurd c82 (iR_ne (show iR 1 (1) (1) from ⟨by decide, by decide⟩) (show iR 0 (0) (0) from ⟨by decide, by decide⟩) (by decide)))
        refine lv_aload_n hx hb dX7_hop_41 rfl (lv_at hl 0 rfl) ?_
        refine lv_iload_n hx hb dX7_hop_42 rfl (lv_at hl 1 rfl) ?_
        refine lv_topi (fun z83 ez83 => ?_)
        obtain rfl : z83 = nI (nn a1) := ez83.trans (nn_eq a1)
        refine lv_iload_n hx hb dX7_hop_43 rfl (lv_at hl 3 rfl) ?_
        have := nn_r (x := a3) (a := 0) (b := 199999) i81 (by decide)
        refine lv_topi (fun z84 ez84 => ?_)
        obtain rfl : z84 = nI (nn a3) := ez84.trans (nn_eq a3)
        refine lv_aload_n hx hb dX7_hop_44 rfl (lv_at hl 0 rfl) ?_
        refine lv_iload_n hx hb dX7_hop_45 rfl (lv_at hl 1 rfl) ?_
        refine lv_topi (fun z85 ez85 => ?_)
        obtain rfl : z85 = nI (nn a1) := ez85.trans (nn_eq a1)
        refine lv_iload_n hx hb dX7_hop_46 rfl (lv_at hl 2 rfl) ?_
        refine call_i (cVt (k := 1076) (av := [.int (nI (nn a1)), .int a2]) (rest := [.int (nI (nn a3)), .int (nI (nn a1)), .ref (E.2.1 + 1076)]) B hP hS (d_X7_mapHeldI l E ρ65 r Bt hBt M L X (nn a1) (by omega) (by omega) a2 hI i74 (iR_w i77 (by decide) (by omega)) (RI_Lb (n := (nn a1)) hI (by omega))) lk_RX7_111 (hrecv (ci := 7) B hP (hk_lt (c := 7) (show hk 1076 = 7 by decide +kernel) (by decide)) (hcc7 _ _ (show hk 1076 = 7 by decide +kernel)) rfl) rfl rfl hl.1 (Nat.le_of_ble_eq_true rfl) ⟨Nat.le_of_ble_eq_true rfl, Nat.le_of_ble_eq_true rfl⟩ ⟨Nat.le_of_ble_eq_true rfl, Nat.le_of_ble_eq_true rfl⟩ dX7_hop_47) hS (fun r86 ρ87 H locs q88 hP hS => ?_)
        obtain ⟨rfl, hI, q88⟩ := q88
        obtain ⟨j89, lj89, uj89, ej89⟩ := iR_nat (a := 1) (b := 8388607) q88
        refine lv_topi (fun z90 ez90 => ?_)
        obtain rfl : z90 = nI j89 := ez90.trans ej89
        refine call_i (cVt (k := 1076) (av := [.int (nI (nn a1)), .int (nI (nn a3)), .int (nI j89)]) (rest := []) B hP hS (d_X7_hopOf l E ρ65 r Bt hBt M L X (nn a1) (by omega) (by omega) (nI (nn a3)) j89 (by omega) (by omega) hI) lk_RX7_114 (hrecv (ci := 7) B hP (hk_lt (c := 7) (show hk 1076 = 7 by decide +kernel) (by decide)) (hcc7 _ _ (show hk 1076 = 7 by decide +kernel)) rfl) rfl rfl hl.1 (Nat.le_of_ble_eq_true rfl) ⟨Nat.le_of_ble_eq_true rfl, Nat.le_of_ble_eq_true rfl⟩ ⟨Nat.le_of_ble_eq_true rfl, Nat.le_of_ble_eq_true rfl⟩ dX7_hop_50) hS (fun r91 ρ92 H locs q93 hP hS => ?_)
        obtain ⟨rfl, hI, q93⟩ := q93
        obtain ⟨j94, lj94, uj94, ej94⟩ := iR_nat (a := 0) (b := 22) q93
        refine lv_topi (fun z95 ez95 => ?_)
        obtain rfl : z95 = nI j94 := ez95.trans ej94
        exact ret_i B hr hlk hP hS dX7_hop_53 (hI)
      · skip
        refine lv_if_ne (tgt := 41) hx hb dX7_hop_36 (by decide) (fun c96 => absurd rfl c96) (fun _ => ?_)
        refine lv_iconst (v := (-1)) hx hb dX7_hop_39 (by decide) ?_
        exact ret_i B hr hlk hP hS dX7_hop_40 (hI)
    · skip
      refine lv_aload_n hx hb dX7_hop_18 rfl (lv_at hl 0 rfl) ?_
      refine lv_iload_n hx hb dX7_hop_19 rfl (lv_at hl 1 rfl) ?_
      refine lv_topi (fun z97 ez97 => ?_)
      obtain rfl : z97 = nI (nn a1) := ez97.trans (nn_eq a1)
      refine lv_iload_n hx hb dX7_hop_20 rfl (lv_at hl 2 rfl) ?_
      refine call_i (cVt (k := 1076) (av := [.int (nI (nn a1)), .int a2]) (rest := []) B hP hS (d_X7_isLink l E ρ65 r Bt hBt M L X (nI (nn a1)) a2 hI) lk_RX7_106 (hrecv (ci := 7) B hP (hk_lt (c := 7) (show hk 1076 = 7 by decide +kernel) (by decide)) (hcc7 _ _ (show hk 1076 = 7 by decide +kernel)) rfl) rfl rfl hl.1 (Nat.le_of_ble_eq_true rfl) ⟨Nat.le_of_ble_eq_true rfl, Nat.le_of_ble_eq_true rfl⟩ ⟨Nat.le_of_ble_eq_true rfl, Nat.le_of_ble_eq_true rfl⟩ dX7_hop_21) hS (fun r98 ρ99 H locs q100 hP hS => ?_)
      obtain ⟨rfl, hI, q100⟩ := q100
      rcases q100 with rfl | ⟨rfl, j101, hj101, ej101, i102, j103, hj103, ej103⟩
      · skip
        refine lv_if_eq (tgt := 39) hx hb dX7_hop_24 (by decide) (fun _ => ?_) (fun c104 => absurd rfl c104)
        refine lv_iconst (v := (-1)) hx hb dX7_hop_39 (by decide) ?_
        exact ret_i B hr hlk hP hS dX7_hop_40 (hI)
      · skip
        have := RI_Lb hI hj101
        have n105 : (nn a1) = j101 := (nI_eq (by omega) (by omega)).mp (show nI (nn a1) = nI j101 from ej101)
        have i106 : iR (M (nn a1)) 0 5 := by rw [n105]; exact i102
        have : j103 < L (nn a1) := by rw [n105]; exact hj103
        have := RI_Lb (n := (nn a1)) hI (by omega)
        have n107 : nn a2 = j103 := nn_u ej103 (by omega)
        refine lv_if_eq (tgt := 39) hx hb dX7_hop_24 (by decide) (fun c108 => absurd c108 (iR_ne (show iR 1 (1) (1) from ⟨by decide, by decide⟩) (show iR 0 (0) (0) from ⟨by decide, by decide⟩) (by decide))) (fun _ => ?_)
        refine lv_iload_n hx hb dX7_hop_27 rfl (lv_at hl 3 rfl) ?_
        refine lv_i2l hx hb dX7_hop_28 rfl ?_
        refine lv_lconst (v := 0) hx hb dX7_hop_29 (by decide) ?_
        refine lv_ldc2 (v := 199999) hx hb hown (hts _ mw_1134) dX7_hop_30 ?_
        refine call_i (cS (av := [.long a3.toInt64, .long 0, .long 199999]) (rest := []) B hP hS (c_in l E ρ65 a3.toInt64 0 199999 0 199999 (by decide) (by decide)) lk_RX7_71 rfl rfl hl.1 (Nat.le_of_ble_eq_true rfl) ⟨Nat.le_of_ble_eq_true rfl, Nat.le_of_ble_eq_true rfl⟩ ⟨Nat.le_of_ble_eq_true rfl, Nat.le_of_ble_eq_true rfl⟩ dX7_hop_33) hS (fun r109 ρ110 H locs q111 hP hS => ?_)
        obtain ⟨rfl, q111⟩ := q111
        rcases q111 with ⟨rfl, q111⟩ | ⟨rfl, q111⟩
        · skip
          have i112 : iR a3 0 199999 := (lR_i _ _ _).mp q111
          refine lv_if_ne (tgt := 41) hx hb dX7_hop_36 (by decide) (fun _ => ?_) (fun c113 => absurd c113 (iR_ne (show iR 1 (1) (1) from ⟨by decide, by decide⟩) (show iR 0 (0) (0) from ⟨by decide, by decide⟩) (by decide)))
          refine lv_aload_n hx hb dX7_hop_41 rfl (lv_at hl 0 rfl) ?_
          refine lv_iload_n hx hb dX7_hop_42 rfl (lv_at hl 1 rfl) ?_
          refine lv_topi (fun z114 ez114 => ?_)
          obtain rfl : z114 = nI (nn a1) := ez114.trans (nn_eq a1)
          refine lv_iload_n hx hb dX7_hop_43 rfl (lv_at hl 3 rfl) ?_
          have := nn_r (x := a3) (a := 0) (b := 199999) i112 (by decide)
          refine lv_topi (fun z115 ez115 => ?_)
          obtain rfl : z115 = nI (nn a3) := ez115.trans (nn_eq a3)
          refine lv_aload_n hx hb dX7_hop_44 rfl (lv_at hl 0 rfl) ?_
          refine lv_iload_n hx hb dX7_hop_45 rfl (lv_at hl 1 rfl) ?_
          refine lv_topi (fun z116 ez116 => ?_)
          obtain rfl : z116 = nI (nn a1) := ez116.trans (nn_eq a1)
          refine lv_iload_n hx hb dX7_hop_46 rfl (lv_at hl 2 rfl) ?_
          refine lv_topi (fun z117 ez117 => ?_)
          obtain rfl : z117 = nI (nn a2) := ez117.trans (nn_eq a2)
          refine call_i (cVt (k := 1076) (av := [.int (nI (nn a1)), .int (nI (nn a2))]) (rest := [.int (nI (nn a3)), .int (nI (nn a1)), .ref (E.2.1 + 1076)]) B hP hS (d_X7_mapHeldL l E ρ65 r Bt hBt M L X (nn a1) (by omega) (by omega) (nn a2) (by omega) (by omega) hI (by omega)) lk_RX7_111 (hrecv (ci := 7) B hP (hk_lt (c := 7) (show hk 1076 = 7 by decide +kernel) (by decide)) (hcc7 _ _ (show hk 1076 = 7 by decide +kernel)) rfl) rfl rfl hl.1 (Nat.le_of_ble_eq_true rfl) ⟨Nat.le_of_ble_eq_true rfl, Nat.le_of_ble_eq_true rfl⟩ ⟨Nat.le_of_ble_eq_true rfl, Nat.le_of_ble_eq_true rfl⟩ dX7_hop_47) hS (fun r118 ρ119 H locs q120 hP hS => ?_)
          obtain ⟨rfl, hI, q120⟩ := q120
          obtain ⟨j121, lj121, uj121, ej121⟩ := iR_nat (a := 1) (b := 8388607) q120
          refine lv_topi (fun z122 ez122 => ?_)
          obtain rfl : z122 = nI j121 := ez122.trans ej121
          refine call_i (cVt (k := 1076) (av := [.int (nI (nn a1)), .int (nI (nn a3)), .int (nI j121)]) (rest := []) B hP hS (d_X7_hopOf l E ρ65 r Bt hBt M L X (nn a1) (by omega) (by omega) (nI (nn a3)) j121 (by omega) (by omega) hI) lk_RX7_114 (hrecv (ci := 7) B hP (hk_lt (c := 7) (show hk 1076 = 7 by decide +kernel) (by decide)) (hcc7 _ _ (show hk 1076 = 7 by decide +kernel)) rfl) rfl rfl hl.1 (Nat.le_of_ble_eq_true rfl) ⟨Nat.le_of_ble_eq_true rfl, Nat.le_of_ble_eq_true rfl⟩ ⟨Nat.le_of_ble_eq_true rfl, Nat.le_of_ble_eq_true rfl⟩ dX7_hop_50) hS (fun r123 ρ124 H locs q125 hP hS => ?_)
          obtain ⟨rfl, hI, q125⟩ := q125
          obtain ⟨j126, lj126, uj126, ej126⟩ := iR_nat (a := 0) (b := 22) q125
          refine lv_topi (fun z127 ez127 => ?_)
          obtain rfl : z127 = nI j126 := ez127.trans ej126
          exact ret_i B hr hlk hP hS dX7_hop_53 (hI)
        · skip
          refine lv_if_ne (tgt := 41) hx hb dX7_hop_36 (by decide) (fun c128 => absurd rfl c128) (fun _ => ?_)
          refine lv_iconst (v := (-1)) hx hb dX7_hop_39 (by decide) ?_
          exact ret_i B hr hlk hP hS dX7_hop_40 (hI)

set_option maxHeartbeats 4000000 in
set_option maxRecDepth 100000 in
theorem d_X7_alike (l : Launch) (E : hE) (ρ r : Nat → Nat → Int32) (Bt : Nat) (hBt : Bt ≤ 1000000) (M : Nat → Int32) (L : Nat → Nat) (X : Nat × Nat → Prop) (a1 : Int32) (a2 : Int32) (a3 : Int32) (hI : RI r Bt M L X ρ) : Met l yX7_alike (.code yX7_alike cX7_alike 8 (some .int) :: gw_all) (rmk 4 160) (cPre E ρ [.ref (E.2.1 + 1076), .int a1, .int a2, .int a3]) (cI E (fun v ρ1 => RI r Bt M L X ρ1)) 0 0 (hA E) := by
  refine ent (own := RX7) (by decide) rfl (Nat.le_of_ble_eq_true rfl) ?_
  intro p e s m below meth c ls B hr hlk hl hP hS
  have hx := B.1.1
  have hb := B.1.2.1
  have hown := B.1.2.2.2.1
  have hts := B.1.2.2.2.2
  have hl : lv_has ls 8 [(0, .ref (E.2.1 + 1076)), (1, .int a1), (2, .int a2), (3, .int a3)] := hl
  have b116_0 : ∀ (ls : Array Slot) (ρ : Nat → Nat → Int32) (H : Heap) (locs : List Loc) (j116_6 : Nat), lv_has ls 8 [(0, .ref (E.2.1 + 1076)), (3, .int a3), (5, .int (nI (104 + 326 * (nn a1) + 66 * (nn a2)))), (6, .int (nI j116_6))] → WP E ρ H → va_S (hA E) s.heap H locs → RI r Bt M L X ρ → 0 ≤ j116_6 → j116_6 ≤ 1 → iR (M (nn a1)) (0) (5) → iR a1 (0) (1) → iR a2 (0) (3) → iR a3 (0) (2) → 1 ≤ (L (nn a1)) → (L (nn a1)) ≤ 4 → 0 ≤ (nn a1) → (nn a1) ≤ 1 → 0 ≤ (nn a2) → (nn a2) ≤ 3 → (nn a2) + 1 ≤ L (nn a1) → j116_6 + 0 ≤ L (nn a1) → W p l e (rmk 4 160) s m ([.ref (E.2.1 + 1076), .int a1, .int a2, .int a3] : List Value).toArray below meth c H locs 0 0 (MQ below (cI E (fun v ρ1 => RI r Bt M L X ρ1)) ([.ref (E.2.1 + 1076), .int a1, .int a2, .int a3] : List Value).toArray s 0 0 (hA E)) (F0 m 116 ls [.int 0]) := by
    intro ls ρ H locs j116_6 hl hP hS hI lj116_6 uj116_6 f_M__nn_a1__ fa1 fa2 fa3 tl_L__nn_a1__ tu_L__nn_a1__ tl_nn_a1_ tu_nn_a1_ tl_nn_a2_ tu_nn_a2_ hr116_0 hr116_1
    refine lv_istore (lv' := [(7, .int 0), (0, .ref (E.2.1 + 1076)), (3, .int a3), (5, .int (nI (104 + 326 * (nn a1) + 66 * (nn a2)))), (6, .int (nI j116_6))]) hx hb dX7_alike_116 hl (by decide) rfl (fun ls hl => ?_)
    refine lv_iload_n hx hb dX7_alike_118 rfl (lv_at hl 2 rfl) ?_
    have := nn_r (x := a3) (a := 0) (b := 2) fa3 (by decide)
    refine lv_topi (fun z104 ez104 => ?_)
    obtain rfl : z104 = nI (nn a3) := ez104.trans (nn_eq a3)
    refine lv_if_ne (tgt := 135) hx hb dX7_alike_119 (by decide) (fun c105 => ?_) (fun c105 => ?_)
    · skip
      have n106 := mt (nI_eq (a := (nn a3)) (b := 0) (by omega) (by omega)).mpr (show ¬ (nI (nn a3) = nI 0) from c105)
      refine lv_iload_n hx hb dX7_alike_135 rfl (lv_at hl 2 rfl) ?_
      refine lv_topi (fun z107 ez107 => ?_)
      obtain rfl : z107 = nI (nn a3) := ez107.trans (nn_eq a3)
      refine lv_iconst (v := 1) hx hb dX7_alike_136 (by decide) ?_
      refine lv_icmp_ne (tgt := 148) hx hb dX7_alike_137 (by decide) (fun c108 => ?_) (fun c108 => ?_)
      · skip
        have n109 := mt (nI_eq (a := (nn a3)) (b := 1) (by omega) (by omega)).mpr (show ¬ (nI (nn a3) = nI 1) from c108)
        refine lv_aload_n hx hb dX7_alike_148 rfl (lv_at hl 1 rfl) ?_
        refine get7 B hP (show hk 1076 = 7 by decide +kernel) 3 (by decide) mw_1030 rfl dX7_alike_149 ?_
        refine lv_iload hx hb dX7_alike_152 (lv_at hl 3 rfl) ?_
        refine lv_iconst (v := 4) hx hb dX7_alike_154 (by decide) ?_
        refine lv_iadd hx hb dX7_alike_155 ?_
        refine lv_topi (fun z110 ez110 => ?_)
        obtain rfl : z110 = (nI (108 + 326 * (nn a1) + 66 * (nn a2))) := ez110.trans (by rw [show (nI (104 + 326 * (nn a1) + 66 * (nn a2))) = nI (104 + 326 * (nn a1) + 66 * (nn a2)) from rfl, show 4 = nI 4 from rfl, nI_add] <;> exact congrArg nI (by omega))
        refine aldn (n := 695) (j := (108 + 326 * (nn a1) + 66 * (nn a2))) B hP (show hk 1078 = 8 by decide +kernel) (show hlen 1078 = 695 by decide +kernel) rfl (by omega) (by decide) dX7_alike_156 ?_
        refine lv_iconst (v := 1) hx hb dX7_alike_157 (by decide) ?_
        refine lv_icmp_ne (tgt := 165) hx hb dX7_alike_158 (by decide) (fun c111 => ?_) (fun c111 => ?_)
        · skip
          refine lv_iconst (v := 0) hx hb dX7_alike_165 (by decide) ?_
          exact ret_i B hr hlk hP hS dX7_alike_166 (hI)
        · skip
          have i112 : iR (ρ 1078 (108 + 326 * (nn a1) + 66 * (nn a2))) (1) (1) := (by rw [c111]; exact ⟨by decide, by decide⟩)
          refine lv_iconst (v := 1) hx hb dX7_alike_161 (by decide) ?_
          refine lv_goto (tgt := 166) hx hb dX7_alike_162 (by decide) ?_
          exact ret_i B hr hlk hP hS dX7_alike_166 (hI)
      · skip
        have n113 := (nI_eq (a := (nn a3)) (b := 1) (by omega) (by omega)).mp (show (nI (nn a3) = nI 1) from c108)
        refine lv_iload hx hb dX7_alike_140 (lv_at hl 4 rfl) ?_
        refine lv_if_eq (tgt := 165) hx hb dX7_alike_142 (by decide) (fun c114 => ?_) (fun c114 => ?_)
        · skip
          have n115 := (nI_eq (a := j116_6) (b := 0) (by omega) (by omega)).mp (show (nI j116_6 = nI 0) from c114)
          refine lv_iconst (v := 0) hx hb dX7_alike_165 (by decide) ?_
          exact ret_i B hr hlk hP hS dX7_alike_166 (hI)
        · skip
          have n116 := mt (nI_eq (a := j116_6) (b := 0) (by omega) (by omega)).mpr (show ¬ (nI j116_6 = nI 0) from c114)
          refine lv_goto (tgt := 161) hx hb dX7_alike_145 (by decide) ?_
          refine lv_iconst (v := 1) hx hb dX7_alike_161 (by decide) ?_
          refine lv_goto (tgt := 166) hx hb dX7_alike_162 (by decide) ?_
          exact ret_i B hr hlk hP hS dX7_alike_166 (hI)
    · skip
      have n117 := (nI_eq (a := (nn a3)) (b := 0) (by omega) (by omega)).mp (show (nI (nn a3) = nI 0) from c105)
      refine lv_iload hx hb dX7_alike_122 (lv_at hl 4 rfl) ?_
      refine lv_if_eq (tgt := 165) hx hb dX7_alike_124 (by decide) (fun c118 => ?_) (fun c118 => ?_)
      · skip
        have n119 := (nI_eq (a := j116_6) (b := 0) (by omega) (by omega)).mp (show (nI j116_6 = nI 0) from c118)
        refine lv_iconst (v := 0) hx hb dX7_alike_165 (by decide) ?_
        exact ret_i B hr hlk hP hS dX7_alike_166 (hI)
      · skip
        have n120 := mt (nI_eq (a := j116_6) (b := 0) (by omega) (by omega)).mpr (show ¬ (nI j116_6 = nI 0) from c118)
        refine lv_iload hx hb dX7_alike_127 (lv_at hl 0 rfl) ?_
        refine lv_if_eq (tgt := 165) hx hb dX7_alike_129 (by decide) (fun _ => ?_) (fun c121 => absurd rfl c121)
        refine lv_iconst (v := 0) hx hb dX7_alike_165 (by decide) ?_
        exact ret_i B hr hlk hP hS dX7_alike_166 (hI)
  have b116_1 : ∀ (ls : Array Slot) (ρ : Nat → Nat → Int32) (H : Heap) (locs : List Loc) (j116_6 : Nat), lv_has ls 8 [(0, .ref (E.2.1 + 1076)), (3, .int a3), (5, .int (nI (104 + 326 * (nn a1) + 66 * (nn a2)))), (6, .int (nI j116_6))] → WP E ρ H → va_S (hA E) s.heap H locs → RI r Bt M L X ρ → 0 ≤ j116_6 → j116_6 ≤ 1 → iR (M (nn a1)) (0) (5) → iR a1 (0) (1) → iR a2 (0) (3) → iR a3 (0) (2) → 1 ≤ (L (nn a1)) → (L (nn a1)) ≤ 4 → 0 ≤ (nn a1) → (nn a1) ≤ 1 → 0 ≤ (nn a2) → (nn a2) ≤ 3 → (nn a2) + 1 ≤ L (nn a1) → j116_6 + 0 ≤ L (nn a1) → W p l e (rmk 4 160) s m ([.ref (E.2.1 + 1076), .int a1, .int a2, .int a3] : List Value).toArray below meth c H locs 0 0 (MQ below (cI E (fun v ρ1 => RI r Bt M L X ρ1)) ([.ref (E.2.1 + 1076), .int a1, .int a2, .int a3] : List Value).toArray s 0 0 (hA E)) (F0 m 116 ls [.int 1]) := by
    intro ls ρ H locs j116_6 hl hP hS hI lj116_6 uj116_6 f_M__nn_a1__ fa1 fa2 fa3 tl_L__nn_a1__ tu_L__nn_a1__ tl_nn_a1_ tu_nn_a1_ tl_nn_a2_ tu_nn_a2_ hr116_0 hr116_1
    refine lv_istore (lv' := [(7, .int 1), (0, .ref (E.2.1 + 1076)), (3, .int a3), (5, .int (nI (104 + 326 * (nn a1) + 66 * (nn a2)))), (6, .int (nI j116_6))]) hx hb dX7_alike_116 hl (by decide) rfl (fun ls hl => ?_)
    refine lv_iload_n hx hb dX7_alike_118 rfl (lv_at hl 2 rfl) ?_
    have := nn_r (x := a3) (a := 0) (b := 2) fa3 (by decide)
    refine lv_topi (fun z122 ez122 => ?_)
    obtain rfl : z122 = nI (nn a3) := ez122.trans (nn_eq a3)
    refine lv_if_ne (tgt := 135) hx hb dX7_alike_119 (by decide) (fun c123 => ?_) (fun c123 => ?_)
    · skip
      have n124 := mt (nI_eq (a := (nn a3)) (b := 0) (by omega) (by omega)).mpr (show ¬ (nI (nn a3) = nI 0) from c123)
      refine lv_iload_n hx hb dX7_alike_135 rfl (lv_at hl 2 rfl) ?_
      refine lv_topi (fun z125 ez125 => ?_)
      obtain rfl : z125 = nI (nn a3) := ez125.trans (nn_eq a3)
      refine lv_iconst (v := 1) hx hb dX7_alike_136 (by decide) ?_
      refine lv_icmp_ne (tgt := 148) hx hb dX7_alike_137 (by decide) (fun c126 => ?_) (fun c126 => ?_)
      · skip
        have n127 := mt (nI_eq (a := (nn a3)) (b := 1) (by omega) (by omega)).mpr (show ¬ (nI (nn a3) = nI 1) from c126)
        refine lv_aload_n hx hb dX7_alike_148 rfl (lv_at hl 1 rfl) ?_
        refine get7 B hP (show hk 1076 = 7 by decide +kernel) 3 (by decide) mw_1030 rfl dX7_alike_149 ?_
        refine lv_iload hx hb dX7_alike_152 (lv_at hl 3 rfl) ?_
        refine lv_iconst (v := 4) hx hb dX7_alike_154 (by decide) ?_
        refine lv_iadd hx hb dX7_alike_155 ?_
        refine lv_topi (fun z128 ez128 => ?_)
        obtain rfl : z128 = (nI (108 + 326 * (nn a1) + 66 * (nn a2))) := ez128.trans (by rw [show (nI (104 + 326 * (nn a1) + 66 * (nn a2))) = nI (104 + 326 * (nn a1) + 66 * (nn a2)) from rfl, show 4 = nI 4 from rfl, nI_add] <;> exact congrArg nI (by omega))
        refine aldn (n := 695) (j := (108 + 326 * (nn a1) + 66 * (nn a2))) B hP (show hk 1078 = 8 by decide +kernel) (show hlen 1078 = 695 by decide +kernel) rfl (by omega) (by decide) dX7_alike_156 ?_
        refine lv_iconst (v := 1) hx hb dX7_alike_157 (by decide) ?_
        refine lv_icmp_ne (tgt := 165) hx hb dX7_alike_158 (by decide) (fun c129 => ?_) (fun c129 => ?_)
        · skip
          refine lv_iconst (v := 0) hx hb dX7_alike_165 (by decide) ?_
          exact ret_i B hr hlk hP hS dX7_alike_166 (hI)
        · skip
          have i130 : iR (ρ 1078 (108 + 326 * (nn a1) + 66 * (nn a2))) (1) (1) := (by rw [c129]; exact ⟨by decide, by decide⟩)
          refine lv_iconst (v := 1) hx hb dX7_alike_161 (by decide) ?_
          refine lv_goto (tgt := 166) hx hb dX7_alike_162 (by decide) ?_
          exact ret_i B hr hlk hP hS dX7_alike_166 (hI)
      · skip
        have n131 := (nI_eq (a := (nn a3)) (b := 1) (by omega) (by omega)).mp (show (nI (nn a3) = nI 1) from c126)
        refine lv_iload hx hb dX7_alike_140 (lv_at hl 4 rfl) ?_
        refine lv_if_eq (tgt := 165) hx hb dX7_alike_142 (by decide) (fun c132 => ?_) (fun c132 => ?_)
        · skip
          have n133 := (nI_eq (a := j116_6) (b := 0) (by omega) (by omega)).mp (show (nI j116_6 = nI 0) from c132)
          refine lv_iconst (v := 0) hx hb dX7_alike_165 (by decide) ?_
          exact ret_i B hr hlk hP hS dX7_alike_166 (hI)
        · skip
          have n134 := mt (nI_eq (a := j116_6) (b := 0) (by omega) (by omega)).mpr (show ¬ (nI j116_6 = nI 0) from c132)
          refine lv_goto (tgt := 161) hx hb dX7_alike_145 (by decide) ?_
          refine lv_iconst (v := 1) hx hb dX7_alike_161 (by decide) ?_
          refine lv_goto (tgt := 166) hx hb dX7_alike_162 (by decide) ?_
          exact ret_i B hr hlk hP hS dX7_alike_166 (hI)
    · skip
      have n135 := (nI_eq (a := (nn a3)) (b := 0) (by omega) (by omega)).mp (show (nI (nn a3) = nI 0) from c123)
      refine lv_iload hx hb dX7_alike_122 (lv_at hl 4 rfl) ?_
      refine lv_if_eq (tgt := 165) hx hb dX7_alike_124 (by decide) (fun c136 => ?_) (fun c136 => ?_)
      · skip
        have n137 := (nI_eq (a := j116_6) (b := 0) (by omega) (by omega)).mp (show (nI j116_6 = nI 0) from c136)
        refine lv_iconst (v := 0) hx hb dX7_alike_165 (by decide) ?_
        exact ret_i B hr hlk hP hS dX7_alike_166 (hI)
      · skip
        have n138 := mt (nI_eq (a := j116_6) (b := 0) (by omega) (by omega)).mpr (show ¬ (nI j116_6 = nI 0) from c136)
        refine lv_iload hx hb dX7_alike_127 (lv_at hl 0 rfl) ?_
        refine lv_if_eq (tgt := 165) hx hb dX7_alike_129 (by decide) (fun c139 => absurd c139 (iR_ne (show iR 1 (1) (1) from ⟨by decide, by decide⟩) (show iR 0 (0) (0) from ⟨by decide, by decide⟩) (by decide))) (fun _ => ?_)
        refine lv_goto (tgt := 161) hx hb dX7_alike_132 (by decide) ?_
        refine lv_iconst (v := 1) hx hb dX7_alike_161 (by decide) ?_
        refine lv_goto (tgt := 166) hx hb dX7_alike_162 (by decide) ?_
        exact ret_i B hr hlk hP hS dX7_alike_166 (hI)
  have b115_0 : ∀ (ls : Array Slot) (ρ : Nat → Nat → Int32) (H : Heap) (locs : List Loc) (j115_6 : Nat), lv_has ls 8 [(0, .ref (E.2.1 + 1076)), (3, .int a3), (5, .int (nI (104 + 326 * (nn a1) + 66 * (nn a2)))), (6, .int (nI j115_6))] → WP E ρ H → va_S (hA E) s.heap H locs → RI r Bt M L X ρ → 0 ≤ j115_6 → j115_6 ≤ 1 → iR (M (nn a1)) (0) (5) → iR a1 (0) (1) → iR a2 (0) (3) → iR a3 (0) (2) → 1 ≤ (L (nn a1)) → (L (nn a1)) ≤ 4 → 0 ≤ (nn a1) → (nn a1) ≤ 1 → 0 ≤ (nn a2) → (nn a2) ≤ 3 → (nn a2) + 1 ≤ L (nn a1) → j115_6 + 0 ≤ L (nn a1) → W p l e (rmk 4 160) s m ([.ref (E.2.1 + 1076), .int a1, .int a2, .int a3] : List Value).toArray below meth c H locs 0 0 (MQ below (cI E (fun v ρ1 => RI r Bt M L X ρ1)) ([.ref (E.2.1 + 1076), .int a1, .int a2, .int a3] : List Value).toArray s 0 0 (hA E)) (F0 m 115 ls []) := by
    intro ls ρ H locs j115_6 hl hP hS hI lj115_6 uj115_6 f_M__nn_a1__ fa1 fa2 fa3 tl_L__nn_a1__ tu_L__nn_a1__ tl_nn_a1_ tu_nn_a1_ tl_nn_a2_ tu_nn_a2_ hr115_0 hr115_1
    refine lv_iconst (v := 0) hx hb dX7_alike_115 (by decide) ?_
    exact b116_0 ls ρ _ _ j115_6 (lv_sub hl [0, 1, 2, 3] rfl) hP hS hI (by omega) (by omega) (iR_w f_M__nn_a1__ (by decide) (by decide)) (iR_w fa1 (by decide) (by decide)) (iR_w fa2 (by decide) (by decide)) (iR_w fa3 (by decide) (by decide)) (by omega) (by omega) (by omega) (by omega) (by omega) (by omega) (by omega) (by omega)
  have b67_0 : ∀ (ls : Array Slot) (ρ : Nat → Nat → Int32) (H : Heap) (locs : List Loc) , lv_has ls 8 [(0, .ref (E.2.1 + 1076)), (3, .int a3), (4, .int (nI (42 + 326 * (nn a1)))), (5, .int (nI (104 + 326 * (nn a1) + 66 * (nn a2))))] → WP E ρ H → va_S (hA E) s.heap H locs → RI r Bt M L X ρ → iR (M (nn a1)) (0) (5) → iR a1 (0) (1) → iR a2 (0) (3) → iR a3 (0) (2) → 1 ≤ (L (nn a1)) → (L (nn a1)) ≤ 4 → 0 ≤ (nn a1) → (nn a1) ≤ 1 → 0 ≤ (nn a2) → (nn a2) ≤ 3 → (nn a2) + 1 ≤ L (nn a1) → W p l e (rmk 4 160) s m ([.ref (E.2.1 + 1076), .int a1, .int a2, .int a3] : List Value).toArray below meth c H locs 0 0 (MQ below (cI E (fun v ρ1 => RI r Bt M L X ρ1)) ([.ref (E.2.1 + 1076), .int a1, .int a2, .int a3] : List Value).toArray s 0 0 (hA E)) (F0 m 67 ls [.int 0]) := by
    intro ls ρ H locs  hl hP hS hI f_M__nn_a1__ fa1 fa2 fa3 tl_L__nn_a1__ tu_L__nn_a1__ tl_nn_a1_ tu_nn_a1_ tl_nn_a2_ tu_nn_a2_ hr67_0
    refine lv_istore (lv' := [(6, .int 0), (0, .ref (E.2.1 + 1076)), (3, .int a3), (4, .int (nI (42 + 326 * (nn a1)))), (5, .int (nI (104 + 326 * (nn a1) + 66 * (nn a2))))]) hx hb dX7_alike_67 hl (by decide) rfl (fun ls hl => ?_)
    refine lv_aload_n hx hb dX7_alike_69 rfl (lv_at hl 1 rfl) ?_
    refine get7 B hP (show hk 1076 = 7 by decide +kernel) 3 (by decide) mw_1030 rfl dX7_alike_70 ?_
    refine lv_iload hx hb dX7_alike_73 (lv_at hl 3 rfl) ?_
    refine lv_iconst (v := 3) hx hb dX7_alike_75 (by decide) ?_
    refine lv_iadd hx hb dX7_alike_76 ?_
    refine lv_topi (fun z140 ez140 => ?_)
    obtain rfl : z140 = (nI (45 + 326 * (nn a1))) := ez140.trans (by rw [show (nI (42 + 326 * (nn a1))) = nI (42 + 326 * (nn a1)) from rfl, show 3 = nI 3 from rfl, nI_add] <;> exact congrArg nI (by omega))
    refine aldn (n := 695) (j := (45 + 326 * (nn a1))) B hP (show hk 1078 = 8 by decide +kernel) (show hlen 1078 = 695 by decide +kernel) rfl (by omega) (by decide) dX7_alike_77 ?_
    have i141 : iR (ρ 1078 (45 + 326 * (nn a1))) (0) (8388607) := g_next (n0 := (nn a1)) (j := (45 + 326 * (nn a1))) hI (by omega) (by omega)
    obtain ⟨j142, lj142, uj142, ej142⟩ := iR_nat (a := 0) (b := 8388607) i141
    refine lv_topi (fun z143 ez143 => ?_)
    obtain rfl : z143 = nI j142 := ez143.trans ej142
    refine lv_aload_n hx hb dX7_alike_78 rfl (lv_at hl 1 rfl) ?_
    refine get7 B hP (show hk 1076 = 7 by decide +kernel) 3 (by decide) mw_1030 rfl dX7_alike_79 ?_
    refine lv_iload hx hb dX7_alike_82 (lv_at hl 4 rfl) ?_
    refine lv_iconst (v := 2) hx hb dX7_alike_84 (by decide) ?_
    refine lv_iadd hx hb dX7_alike_85 ?_
    refine lv_topi (fun z144 ez144 => ?_)
    obtain rfl : z144 = (nI (106 + 326 * (nn a1) + 66 * (nn a2))) := ez144.trans (by rw [show (nI (104 + 326 * (nn a1) + 66 * (nn a2))) = nI (104 + 326 * (nn a1) + 66 * (nn a2)) from rfl, show 2 = nI 2 from rfl, nI_add] <;> exact congrArg nI (by omega))
    refine aldn (n := 695) (j := (106 + 326 * (nn a1) + 66 * (nn a2))) B hP (show hk 1078 = 8 by decide +kernel) (show hlen 1078 = 695 by decide +kernel) rfl (by omega) (by decide) dX7_alike_86 ?_
    have i145 : iR (ρ 1078 (106 + 326 * (nn a1) + 66 * (nn a2))) (0) (8388607) := g_itsnext (n0 := (nn a1)) (l0 := (nn a2)) (j := (106 + 326 * (nn a1) + 66 * (nn a2))) hI (by omega) (by omega) (by omega)
    obtain ⟨j146, lj146, uj146, ej146⟩ := iR_nat (a := 0) (b := 8388607) i145
    refine lv_topi (fun z147 ez147 => ?_)
    obtain rfl : z147 = nI j146 := ez147.trans ej146
    refine lv_icmp_ne (tgt := 115) hx hb dX7_alike_87 (by decide) (fun c148 => ?_) (fun c148 => ?_)
    · skip
      have n149 := mt (nI_eq (a := j142) (b := j146) (by omega) (by omega)).mpr (show ¬ (nI j142 = nI j146) from c148)
      exact b115_0 ls ρ _ _ 0 (lv_sub hl [1, 2, 4, 0] rfl) hP hS hI (by omega) (by omega) (iR_w f_M__nn_a1__ (by decide) (by decide)) (iR_w fa1 (by decide) (by decide)) (iR_w fa2 (by decide) (by decide)) (iR_w fa3 (by decide) (by decide)) (by omega) (by omega) (by omega) (by omega) (by omega) (by omega) (by omega) (by omega)
    · skip
      have n150 := (nI_eq (a := j142) (b := j146) (by omega) (by omega)).mp (show (nI j142 = nI j146) from c148)
      refine lv_aload_n hx hb dX7_alike_90 rfl (lv_at hl 1 rfl) ?_
      refine get7 B hP (show hk 1076 = 7 by decide +kernel) 3 (by decide) mw_1030 rfl dX7_alike_91 ?_
      refine lv_iload hx hb dX7_alike_94 (lv_at hl 3 rfl) ?_
      refine lv_iconst (v := 4) hx hb dX7_alike_96 (by decide) ?_
      refine lv_iadd hx hb dX7_alike_97 ?_
      refine lv_topi (fun z151 ez151 => ?_)
      obtain rfl : z151 = (nI (46 + 326 * (nn a1))) := ez151.trans (by rw [show (nI (42 + 326 * (nn a1))) = nI (42 + 326 * (nn a1)) from rfl, show 4 = nI 4 from rfl, nI_add] <;> exact congrArg nI (by omega))
      refine aldn (n := 695) (j := (46 + 326 * (nn a1))) B hP (show hk 1078 = 8 by decide +kernel) (show hlen 1078 = 695 by decide +kernel) rfl (by omega) (by decide) dX7_alike_98 ?_
      refine lv_aload_n hx hb dX7_alike_99 rfl (lv_at hl 1 rfl) ?_
      refine get7 B hP (show hk 1076 = 7 by decide +kernel) 3 (by decide) mw_1030 rfl dX7_alike_100 ?_
      refine lv_iload hx hb dX7_alike_103 (lv_at hl 4 rfl) ?_
      refine lv_iconst (v := 3) hx hb dX7_alike_105 (by decide) ?_
      refine lv_iadd hx hb dX7_alike_106 ?_
      refine lv_topi (fun z152 ez152 => ?_)
      obtain rfl : z152 = (nI (107 + 326 * (nn a1) + 66 * (nn a2))) := ez152.trans (by rw [show (nI (104 + 326 * (nn a1) + 66 * (nn a2))) = nI (104 + 326 * (nn a1) + 66 * (nn a2)) from rfl, show 3 = nI 3 from rfl, nI_add] <;> exact congrArg nI (by omega))
      refine aldn (n := 695) (j := (107 + 326 * (nn a1) + 66 * (nn a2))) B hP (show hk 1078 = 8 by decide +kernel) (show hlen 1078 = 695 by decide +kernel) rfl (by omega) (by decide) dX7_alike_107 ?_
      refine lv_icmp_ne (tgt := 115) hx hb dX7_alike_108 (by decide) (fun c153 => ?_) (fun c153 => ?_)
      · skip
        exact b115_0 ls ρ _ _ 0 (lv_sub hl [1, 2, 4, 0] rfl) hP hS hI (by omega) (by omega) (iR_w f_M__nn_a1__ (by decide) (by decide)) (iR_w fa1 (by decide) (by decide)) (iR_w fa2 (by decide) (by decide)) (iR_w fa3 (by decide) (by decide)) (by omega) (by omega) (by omega) (by omega) (by omega) (by omega) (by omega) (by omega)
      · skip
        refine lv_iconst (v := 1) hx hb dX7_alike_111 (by decide) ?_
        refine lv_goto (tgt := 116) hx hb dX7_alike_112 (by decide) ?_
        exact b116_1 ls ρ _ _ 0 (lv_sub hl [1, 2, 4, 0] rfl) hP hS hI (by omega) (by omega) (iR_w f_M__nn_a1__ (by decide) (by decide)) (iR_w fa1 (by decide) (by decide)) (iR_w fa2 (by decide) (by decide)) (iR_w fa3 (by decide) (by decide)) (by omega) (by omega) (by omega) (by omega) (by omega) (by omega) (by omega) (by omega)
  have b67_1 : ∀ (ls : Array Slot) (ρ : Nat → Nat → Int32) (H : Heap) (locs : List Loc) , lv_has ls 8 [(0, .ref (E.2.1 + 1076)), (3, .int a3), (4, .int (nI (42 + 326 * (nn a1)))), (5, .int (nI (104 + 326 * (nn a1) + 66 * (nn a2))))] → WP E ρ H → va_S (hA E) s.heap H locs → RI r Bt M L X ρ → iR (M (nn a1)) (0) (5) → iR a1 (0) (1) → iR a2 (0) (3) → iR a3 (0) (2) → 1 ≤ (L (nn a1)) → (L (nn a1)) ≤ 4 → 0 ≤ (nn a1) → (nn a1) ≤ 1 → 0 ≤ (nn a2) → (nn a2) ≤ 3 → (nn a2) + 1 ≤ L (nn a1) → W p l e (rmk 4 160) s m ([.ref (E.2.1 + 1076), .int a1, .int a2, .int a3] : List Value).toArray below meth c H locs 0 0 (MQ below (cI E (fun v ρ1 => RI r Bt M L X ρ1)) ([.ref (E.2.1 + 1076), .int a1, .int a2, .int a3] : List Value).toArray s 0 0 (hA E)) (F0 m 67 ls [.int 1]) := by
    intro ls ρ H locs  hl hP hS hI f_M__nn_a1__ fa1 fa2 fa3 tl_L__nn_a1__ tu_L__nn_a1__ tl_nn_a1_ tu_nn_a1_ tl_nn_a2_ tu_nn_a2_ hr67_0
    refine lv_istore (lv' := [(6, .int 1), (0, .ref (E.2.1 + 1076)), (3, .int a3), (4, .int (nI (42 + 326 * (nn a1)))), (5, .int (nI (104 + 326 * (nn a1) + 66 * (nn a2))))]) hx hb dX7_alike_67 hl (by decide) rfl (fun ls hl => ?_)
    refine lv_aload_n hx hb dX7_alike_69 rfl (lv_at hl 1 rfl) ?_
    refine get7 B hP (show hk 1076 = 7 by decide +kernel) 3 (by decide) mw_1030 rfl dX7_alike_70 ?_
    refine lv_iload hx hb dX7_alike_73 (lv_at hl 3 rfl) ?_
    refine lv_iconst (v := 3) hx hb dX7_alike_75 (by decide) ?_
    refine lv_iadd hx hb dX7_alike_76 ?_
    refine lv_topi (fun z154 ez154 => ?_)
    obtain rfl : z154 = (nI (45 + 326 * (nn a1))) := ez154.trans (by rw [show (nI (42 + 326 * (nn a1))) = nI (42 + 326 * (nn a1)) from rfl, show 3 = nI 3 from rfl, nI_add] <;> exact congrArg nI (by omega))
    refine aldn (n := 695) (j := (45 + 326 * (nn a1))) B hP (show hk 1078 = 8 by decide +kernel) (show hlen 1078 = 695 by decide +kernel) rfl (by omega) (by decide) dX7_alike_77 ?_
    have i155 : iR (ρ 1078 (45 + 326 * (nn a1))) (0) (8388607) := g_next (n0 := (nn a1)) (j := (45 + 326 * (nn a1))) hI (by omega) (by omega)
    obtain ⟨j156, lj156, uj156, ej156⟩ := iR_nat (a := 0) (b := 8388607) i155
    refine lv_topi (fun z157 ez157 => ?_)
    obtain rfl : z157 = nI j156 := ez157.trans ej156
    refine lv_aload_n hx hb dX7_alike_78 rfl (lv_at hl 1 rfl) ?_
    refine get7 B hP (show hk 1076 = 7 by decide +kernel) 3 (by decide) mw_1030 rfl dX7_alike_79 ?_
    refine lv_iload hx hb dX7_alike_82 (lv_at hl 4 rfl) ?_
    refine lv_iconst (v := 2) hx hb dX7_alike_84 (by decide) ?_
    refine lv_iadd hx hb dX7_alike_85 ?_
    refine lv_topi (fun z158 ez158 => ?_)
    obtain rfl : z158 = (nI (106 + 326 * (nn a1) + 66 * (nn a2))) := ez158.trans (by rw [show (nI (104 + 326 * (nn a1) + 66 * (nn a2))) = nI (104 + 326 * (nn a1) + 66 * (nn a2)) from rfl, show 2 = nI 2 from rfl, nI_add] <;> exact congrArg nI (by omega))
    refine aldn (n := 695) (j := (106 + 326 * (nn a1) + 66 * (nn a2))) B hP (show hk 1078 = 8 by decide +kernel) (show hlen 1078 = 695 by decide +kernel) rfl (by omega) (by decide) dX7_alike_86 ?_
    have i159 : iR (ρ 1078 (106 + 326 * (nn a1) + 66 * (nn a2))) (0) (8388607) := g_itsnext (n0 := (nn a1)) (l0 := (nn a2)) (j := (106 + 326 * (nn a1) + 66 * (nn a2))) hI (by omega) (by omega) (by omega)
    obtain ⟨j160, lj160, uj160, ej160⟩ := iR_nat (a := 0) (b := 8388607) i159
    refine lv_topi (fun z161 ez161 => ?_)
    obtain rfl : z161 = nI j160 := ez161.trans ej160
    refine lv_icmp_ne (tgt := 115) hx hb dX7_alike_87 (by decide) (fun c162 => ?_) (fun c162 => ?_)
    · skip
      have n163 := mt (nI_eq (a := j156) (b := j160) (by omega) (by omega)).mpr (show ¬ (nI j156 = nI j160) from c162)
      exact b115_0 ls ρ _ _ 1 (lv_sub hl [1, 2, 4, 0] rfl) hP hS hI (by omega) (by omega) (iR_w f_M__nn_a1__ (by decide) (by decide)) (iR_w fa1 (by decide) (by decide)) (iR_w fa2 (by decide) (by decide)) (iR_w fa3 (by decide) (by decide)) (by omega) (by omega) (by omega) (by omega) (by omega) (by omega) (by omega) (by omega)
    · skip
      have n164 := (nI_eq (a := j156) (b := j160) (by omega) (by omega)).mp (show (nI j156 = nI j160) from c162)
      refine lv_aload_n hx hb dX7_alike_90 rfl (lv_at hl 1 rfl) ?_
      refine get7 B hP (show hk 1076 = 7 by decide +kernel) 3 (by decide) mw_1030 rfl dX7_alike_91 ?_
      refine lv_iload hx hb dX7_alike_94 (lv_at hl 3 rfl) ?_
      refine lv_iconst (v := 4) hx hb dX7_alike_96 (by decide) ?_
      refine lv_iadd hx hb dX7_alike_97 ?_
      refine lv_topi (fun z165 ez165 => ?_)
      obtain rfl : z165 = (nI (46 + 326 * (nn a1))) := ez165.trans (by rw [show (nI (42 + 326 * (nn a1))) = nI (42 + 326 * (nn a1)) from rfl, show 4 = nI 4 from rfl, nI_add] <;> exact congrArg nI (by omega))
      refine aldn (n := 695) (j := (46 + 326 * (nn a1))) B hP (show hk 1078 = 8 by decide +kernel) (show hlen 1078 = 695 by decide +kernel) rfl (by omega) (by decide) dX7_alike_98 ?_
      refine lv_aload_n hx hb dX7_alike_99 rfl (lv_at hl 1 rfl) ?_
      refine get7 B hP (show hk 1076 = 7 by decide +kernel) 3 (by decide) mw_1030 rfl dX7_alike_100 ?_
      refine lv_iload hx hb dX7_alike_103 (lv_at hl 4 rfl) ?_
      refine lv_iconst (v := 3) hx hb dX7_alike_105 (by decide) ?_
      refine lv_iadd hx hb dX7_alike_106 ?_
      refine lv_topi (fun z166 ez166 => ?_)
      obtain rfl : z166 = (nI (107 + 326 * (nn a1) + 66 * (nn a2))) := ez166.trans (by rw [show (nI (104 + 326 * (nn a1) + 66 * (nn a2))) = nI (104 + 326 * (nn a1) + 66 * (nn a2)) from rfl, show 3 = nI 3 from rfl, nI_add] <;> exact congrArg nI (by omega))
      refine aldn (n := 695) (j := (107 + 326 * (nn a1) + 66 * (nn a2))) B hP (show hk 1078 = 8 by decide +kernel) (show hlen 1078 = 695 by decide +kernel) rfl (by omega) (by decide) dX7_alike_107 ?_
      refine lv_icmp_ne (tgt := 115) hx hb dX7_alike_108 (by decide) (fun c167 => ?_) (fun c167 => ?_)
      · skip
        exact b115_0 ls ρ _ _ 1 (lv_sub hl [1, 2, 4, 0] rfl) hP hS hI (by omega) (by omega) (iR_w f_M__nn_a1__ (by decide) (by decide)) (iR_w fa1 (by decide) (by decide)) (iR_w fa2 (by decide) (by decide)) (iR_w fa3 (by decide) (by decide)) (by omega) (by omega) (by omega) (by omega) (by omega) (by omega) (by omega) (by omega)
      · skip
        refine lv_iconst (v := 1) hx hb dX7_alike_111 (by decide) ?_
        refine lv_goto (tgt := 116) hx hb dX7_alike_112 (by decide) ?_
        exact b116_1 ls ρ _ _ 1 (lv_sub hl [1, 2, 4, 0] rfl) hP hS hI (by omega) (by omega) (iR_w f_M__nn_a1__ (by decide) (by decide)) (iR_w fa1 (by decide) (by decide)) (iR_w fa2 (by decide) (by decide)) (iR_w fa3 (by decide) (by decide)) (by omega) (by omega) (by omega) (by omega) (by omega) (by omega) (by omega) (by omega)
  refine lv_aload_n hx hb dX7_alike_0 rfl (lv_at hl 0 rfl) ?_
  refine lv_iconst (v := 0) hx hb dX7_alike_1 (by decide) ?_
  refine put7 B hP hS (show hk 1076 = 7 by decide +kernel) 0 (by decide) mw_1027 rfl rfl rfl (fs7_0 E 1076 _ _) dX7_alike_2 (fun H locs hP hS => ?_)
  obtain ⟨ρ168, e169⟩ : ∃ z, z = up ρ 1076 0 0 := ⟨_, rfl⟩
  rw [← e169] at hP
  have hI : RI r Bt M L X ρ168 := by rw [e169]; exact RI_76 hI (by decide)
  refine lv_aload_n hx hb dX7_alike_5 rfl (lv_at hl 0 rfl) ?_
  refine lv_iload_n hx hb dX7_alike_6 rfl (lv_at hl 1 rfl) ?_
  refine lv_iload_n hx hb dX7_alike_7 rfl (lv_at hl 2 rfl) ?_
  refine call_i (cVt (k := 1076) (av := [.int a1, .int a2]) (rest := []) B hP hS (d_X7_isLink l E ρ168 r Bt hBt M L X a1 a2 hI) lk_RX7_106 (hrecv (ci := 7) B hP (hk_lt (c := 7) (show hk 1076 = 7 by decide +kernel) (by decide)) (hcc7 _ _ (show hk 1076 = 7 by decide +kernel)) rfl) rfl rfl hl.1 (Nat.le_of_ble_eq_true rfl) ⟨Nat.le_of_ble_eq_true rfl, Nat.le_of_ble_eq_true rfl⟩ ⟨Nat.le_of_ble_eq_true rfl, Nat.le_of_ble_eq_true rfl⟩ dX7_alike_8) hS (fun r170 ρ171 H locs q172 hP hS => ?_)
  obtain ⟨rfl, hI, q172⟩ := q172
  rcases q172 with rfl | ⟨rfl, j173, hj173, ej173, i174, j175, hj175, ej175⟩
  · skip
    refine lv_if_eq (tgt := 26) hx hb dX7_alike_11 (by decide) (fun _ => ?_) (fun c176 => absurd rfl c176)
    refine lv_iconst (v := (-1)) hx hb dX7_alike_26 (by decide) ?_
    exact ret_i B hr hlk hP hS dX7_alike_27 (hI)
  · skip
    have := RI_Lb hI hj173
    have n177 : nn a1 = j173 := nn_u ej173 (by omega)
    have i178 : iR (M (nn a1)) 0 5 := by rw [n177]; exact i174
    have : j175 < L (nn a1) := by rw [n177]; exact hj175
    have := RI_Lb (n := (nn a1)) hI (by omega)
    have n179 : nn a2 = j175 := nn_u ej175 (by omega)
    refine lv_if_eq (tgt := 26) hx hb dX7_alike_11 (by decide) (fun c180 => absurd c180 (iR_ne (show iR 1 (1) (1) from ⟨by decide, by decide⟩) (show iR 0 (0) (0) from ⟨by decide, by decide⟩) (by decide))) (fun _ => ?_)
    refine lv_iload_n hx hb dX7_alike_14 rfl (lv_at hl 3 rfl) ?_
    refine lv_i2l hx hb dX7_alike_15 rfl ?_
    refine lv_lconst (v := 0) hx hb dX7_alike_16 (by decide) ?_
    refine lv_ldc2 (v := 2) hx hb hown (hts _ mw_1192) dX7_alike_17 ?_
    refine call_i (cS (av := [.long a3.toInt64, .long 0, .long 2]) (rest := []) B hP hS (c_in l E ρ168 a3.toInt64 0 2 0 2 (by decide) (by decide)) lk_RX7_71 rfl rfl hl.1 (Nat.le_of_ble_eq_true rfl) ⟨Nat.le_of_ble_eq_true rfl, Nat.le_of_ble_eq_true rfl⟩ ⟨Nat.le_of_ble_eq_true rfl, Nat.le_of_ble_eq_true rfl⟩ dX7_alike_20) hS (fun r181 ρ182 H locs q183 hP hS => ?_)
    obtain ⟨rfl, q183⟩ := q183
    rcases q183 with ⟨rfl, q183⟩ | ⟨rfl, q183⟩
    · skip
      have i184 : iR a3 0 2 := (lR_i _ _ _).mp q183
      refine lv_if_ne (tgt := 28) hx hb dX7_alike_23 (by decide) (fun _ => ?_) (fun c185 => absurd c185 (iR_ne (show iR 1 (1) (1) from ⟨by decide, by decide⟩) (show iR 0 (0) (0) from ⟨by decide, by decide⟩) (by decide)))
      refine lv_iload_n hx hb dX7_alike_28 rfl (lv_at hl 1 rfl) ?_
      refine lv_topi (fun z186 ez186 => ?_)
      obtain rfl : z186 = nI (nn a1) := ez186.trans (nn_eq a1)
      refine call_i (cS (av := [.int (nI (nn a1))]) (rest := []) B hP hS (d_X7_netAt l E ρ168 r Bt hBt M L X (nn a1) (by omega) (by omega) hI) lk_RX7_75 rfl rfl hl.1 (Nat.le_of_ble_eq_true rfl) ⟨Nat.le_of_ble_eq_true rfl, Nat.le_of_ble_eq_true rfl⟩ ⟨Nat.le_of_ble_eq_true rfl, Nat.le_of_ble_eq_true rfl⟩ dX7_alike_29) hS (fun r187 ρ188 H locs q189 hP hS => ?_)
      obtain ⟨rfl, hI, q189⟩ := q189
      obtain rfl : r187 = nI (42 + 326 * (nn a1)) := q189.trans (congrArg nI (by omega))
      refine lv_istore (lv' := [(4, .int (nI (42 + 326 * (nn a1)))), (0, .ref (E.2.1 + 1076)), (1, .int a1), (2, .int a2), (3, .int a3)]) hx hb dX7_alike_32 hl (by decide) rfl (fun ls hl => ?_)
      refine lv_iload_n hx hb dX7_alike_34 rfl (lv_at hl 2 rfl) ?_
      refine lv_topi (fun z190 ez190 => ?_)
      obtain rfl : z190 = nI (nn a1) := ez190.trans (nn_eq a1)
      refine lv_iload_n hx hb dX7_alike_35 rfl (lv_at hl 3 rfl) ?_
      refine lv_topi (fun z191 ez191 => ?_)
      obtain rfl : z191 = nI (nn a2) := ez191.trans (nn_eq a2)
      refine call_i (cS (av := [.int (nI (nn a1)), .int (nI (nn a2))]) (rest := []) B hP hS (d_X7_linkAt l E ρ168 r Bt hBt M L X (nn a1) (by omega) (by omega) (nn a2) (by omega) (by omega) hI) lk_RX7_82 rfl rfl hl.1 (Nat.le_of_ble_eq_true rfl) ⟨Nat.le_of_ble_eq_true rfl, Nat.le_of_ble_eq_true rfl⟩ ⟨Nat.le_of_ble_eq_true rfl, Nat.le_of_ble_eq_true rfl⟩ dX7_alike_36) hS (fun r192 ρ193 H locs q194 hP hS => ?_)
      obtain ⟨rfl, hI, q194⟩ := q194
      obtain rfl : r192 = nI (104 + 326 * (nn a1) + 66 * (nn a2)) := q194.trans (congrArg nI (by omega))
      refine lv_istore (lv' := [(5, .int (nI (104 + 326 * (nn a1) + 66 * (nn a2)))), (4, .int (nI (42 + 326 * (nn a1)))), (0, .ref (E.2.1 + 1076)), (1, .int a1), (2, .int a2), (3, .int a3)]) hx hb dX7_alike_39 hl (by decide) rfl (fun ls hl => ?_)
      refine lv_aload_n hx hb dX7_alike_41 rfl (lv_at hl 2 rfl) ?_
      refine get7 B hP (show hk 1076 = 7 by decide +kernel) 3 (by decide) mw_1030 rfl dX7_alike_42 ?_
      refine lv_iload hx hb dX7_alike_45 (lv_at hl 1 rfl) ?_
      refine lv_iconst (v := 2) hx hb dX7_alike_47 (by decide) ?_
      refine lv_iadd hx hb dX7_alike_48 ?_
      refine lv_topi (fun z195 ez195 => ?_)
      obtain rfl : z195 = (nI (44 + 326 * (nn a1))) := ez195.trans (by rw [show (nI (42 + 326 * (nn a1))) = nI (42 + 326 * (nn a1)) from rfl, show 2 = nI 2 from rfl, nI_add] <;> exact congrArg nI (by omega))
      refine aldn (n := 695) (j := (44 + 326 * (nn a1))) B hP (show hk 1078 = 8 by decide +kernel) (show hlen 1078 = 695 by decide +kernel) rfl (by omega) (by decide) dX7_alike_49 ?_
      have i196 : iR (ρ168 1078 (44 + 326 * (nn a1))) (1) (8388607) := g_map (n0 := (nn a1)) (j := (44 + 326 * (nn a1))) hI (by omega) i178 (by omega)
      obtain ⟨j197, lj197, uj197, ej197⟩ := iR_nat (a := 1) (b := 8388607) i196
      refine lv_topi (fun z198 ez198 => ?_)
      obtain rfl : z198 = nI j197 := ez198.trans ej197
      refine lv_aload_n hx hb dX7_alike_50 rfl (lv_at hl 2 rfl) ?_
      refine get7 B hP (show hk 1076 = 7 by decide +kernel) 3 (by decide) mw_1030 rfl dX7_alike_51 ?_
      refine lv_iload hx hb dX7_alike_54 (lv_at hl 0 rfl) ?_
      refine lv_iconst (v := 1) hx hb dX7_alike_56 (by decide) ?_
      refine lv_iadd hx hb dX7_alike_57 ?_
      refine lv_topi (fun z199 ez199 => ?_)
      obtain rfl : z199 = (nI (105 + 326 * (nn a1) + 66 * (nn a2))) := ez199.trans (by rw [show (nI (104 + 326 * (nn a1) + 66 * (nn a2))) = nI (104 + 326 * (nn a1) + 66 * (nn a2)) from rfl, show 1 = nI 1 from rfl, nI_add] <;> exact congrArg nI (by omega))
      refine aldn (n := 695) (j := (105 + 326 * (nn a1) + 66 * (nn a2))) B hP (show hk 1078 = 8 by decide +kernel) (show hlen 1078 = 695 by decide +kernel) rfl (by omega) (by decide) dX7_alike_58 ?_
      have i200 : iR (ρ168 1078 (105 + 326 * (nn a1) + 66 * (nn a2))) (1) (8388607) := g_itsmap (n0 := (nn a1)) (l0 := (nn a2)) (j := (105 + 326 * (nn a1) + 66 * (nn a2))) hI (by omega) (by omega) (by omega)
      obtain ⟨j201, lj201, uj201, ej201⟩ := iR_nat (a := 1) (b := 8388607) i200
      refine lv_topi (fun z202 ez202 => ?_)
      obtain rfl : z202 = nI j201 := ez202.trans ej201
      refine lv_icmp_ne (tgt := 66) hx hb dX7_alike_59 (by decide) (fun c203 => ?_) (fun c203 => ?_)
      · skip
        have n204 := mt (nI_eq (a := j197) (b := j201) (by omega) (by omega)).mpr (show ¬ (nI j197 = nI j201) from c203)
        refine lv_iconst (v := 0) hx hb dX7_alike_66 (by decide) ?_
        exact b67_0 ls ρ168 _ _  (lv_sub hl [2, 5, 1, 0] rfl) hP hS hI (iR_w i178 (by decide) (by decide)) (iR_w (show iR a1 0 1 from by rw [ej173]; exact nI_iR (by omega) (by omega) (by omega)) (by decide) (by decide)) (iR_w (show iR a2 0 3 from by rw [ej175]; exact nI_iR (by omega) (by omega) (by omega)) (by decide) (by decide)) (iR_w i184 (by decide) (by decide)) (by omega) (by omega) (by omega) (by omega) (by omega) (by omega) (by omega)
      · skip
        have n205 := (nI_eq (a := j197) (b := j201) (by omega) (by omega)).mp (show (nI j197 = nI j201) from c203)
        refine lv_iconst (v := 1) hx hb dX7_alike_62 (by decide) ?_
        refine lv_goto (tgt := 67) hx hb dX7_alike_63 (by decide) ?_
        exact b67_1 ls ρ168 _ _  (lv_sub hl [2, 5, 1, 0] rfl) hP hS hI (iR_w i178 (by decide) (by decide)) (iR_w (show iR a1 0 1 from by rw [ej173]; exact nI_iR (by omega) (by omega) (by omega)) (by decide) (by decide)) (iR_w (show iR a2 0 3 from by rw [ej175]; exact nI_iR (by omega) (by omega) (by omega)) (by decide) (by decide)) (iR_w i184 (by decide) (by decide)) (by omega) (by omega) (by omega) (by omega) (by omega) (by omega) (by omega)
    · skip
      refine lv_if_ne (tgt := 28) hx hb dX7_alike_23 (by decide) (fun c206 => absurd rfl c206) (fun _ => ?_)
      refine lv_iconst (v := (-1)) hx hb dX7_alike_26 (by decide) ?_
      exact ret_i B hr hlk hP hS dX7_alike_27 (hI)

set_option maxHeartbeats 4000000 in
set_option maxRecDepth 100000 in
theorem d_X7_mapOf (l : Launch) (E : hE) (ρ r : Nat → Nat → Int32) (Bt : Nat) (hBt : Bt ≤ 1000000) (M : Nat → Int32) (L : Nat → Nat) (X : Nat × Nat → Prop) (a1 : Int32) (a2 : Int32) (a3 : Int32) (hI : RI r Bt M L X ρ) : Met l yX7_mapOf (.code yX7_mapOf cX7_mapOf 5 (some .int) :: gw_all) (rmk 4 160) (cPre E ρ [.ref (E.2.1 + 1076), .int a1, .int a2, .int a3]) (cI E (fun v ρ1 => RI r Bt M L X ρ1)) 0 0 (hA E) := by
  refine ent (own := RX7) (by decide) rfl (Nat.le_of_ble_eq_true rfl) ?_
  intro p e s m below meth c ls B hr hlk hl hP hS
  have hx := B.1.1
  have hb := B.1.2.1
  have hown := B.1.2.2.2.1
  have hts := B.1.2.2.2.2
  have hl : lv_has ls 5 [(0, .ref (E.2.1 + 1076)), (1, .int a1), (2, .int a2), (3, .int a3)] := hl
  refine lv_aload_n hx hb dX7_mapOf_0 rfl (lv_at hl 0 rfl) ?_
  refine lv_iconst (v := 0) hx hb dX7_mapOf_1 (by decide) ?_
  refine put7 B hP hS (show hk 1076 = 7 by decide +kernel) 0 (by decide) mw_1027 rfl rfl rfl (fs7_0 E 1076 _ _) dX7_mapOf_2 (fun H locs hP hS => ?_)
  obtain ⟨ρ99, e100⟩ : ∃ z, z = up ρ 1076 0 0 := ⟨_, rfl⟩
  rw [← e100] at hP
  have hI : RI r Bt M L X ρ99 := by rw [e100]; exact RI_76 hI (by decide)
  refine lv_aload_n hx hb dX7_mapOf_5 rfl (lv_at hl 0 rfl) ?_
  refine lv_iload_n hx hb dX7_mapOf_6 rfl (lv_at hl 1 rfl) ?_
  refine call_i (cVt (k := 1076) (av := [.int a1]) (rest := []) B hP hS (d_X7_isNet l E ρ99 r Bt hBt M L X a1 hI) lk_RX7_78 (hrecv (ci := 7) B hP (hk_lt (c := 7) (show hk 1076 = 7 by decide +kernel) (by decide)) (hcc7 _ _ (show hk 1076 = 7 by decide +kernel)) rfl) rfl rfl hl.1 (Nat.le_of_ble_eq_true rfl) ⟨Nat.le_of_ble_eq_true rfl, Nat.le_of_ble_eq_true rfl⟩ ⟨Nat.le_of_ble_eq_true rfl, Nat.le_of_ble_eq_true rfl⟩ dX7_mapOf_7) hS (fun r101 ρ102 H locs q103 hP hS => ?_)
  obtain ⟨rfl, hI, q103⟩ := q103
  rcases q103 with rfl | ⟨rfl, j104, hj104, ej104, i105⟩
  · skip
    refine lv_if_eq (tgt := 50) hx hb dX7_mapOf_10 (by decide) (fun _ => ?_) (fun c106 => absurd rfl c106)
    refine lv_iconst (v := (-1)) hx hb dX7_mapOf_50 (by decide) ?_
    exact ret_i B hr hlk hP hS dX7_mapOf_51 (hI)
  · skip
    have n107 : nn a1 = j104 := nn_u ej104 (by omega)
    have i108 : iR (M (nn a1)) 0 5 := by rw [n107]; exact i105
    refine lv_if_eq (tgt := 50) hx hb dX7_mapOf_10 (by decide) (fun c109 => absurd c109 (iR_ne (show iR 1 (1) (1) from ⟨by decide, by decide⟩) (show iR 0 (0) (0) from ⟨by decide, by decide⟩) (by decide))) (fun _ => ?_)
    refine lv_iload_n hx hb dX7_mapOf_13 rfl (lv_at hl 2 rfl) ?_
    refine lv_iconst (v := (-1)) hx hb dX7_mapOf_14 (by decide) ?_
    refine lv_icmp_eq (tgt := 27) hx hb dX7_mapOf_15 (by decide) (fun c110 => ?_) (fun c110 => ?_)
    · skip
      have i111 : iR a2 (-1) (-1) := (by rw [c110]; exact ⟨by decide, by decide⟩)
      refine lv_iload_n hx hb dX7_mapOf_27 rfl (lv_at hl 3 rfl) ?_
      refine lv_i2l hx hb dX7_mapOf_28 rfl ?_
      refine lv_lconst (v := 0) hx hb dX7_mapOf_29 (by decide) ?_
      refine lv_iload_n hx hb dX7_mapOf_30 rfl (lv_at hl 2 rfl) ?_
      refine lv_iconst (v := (-1)) hx hb dX7_mapOf_31 (by decide) ?_
      refine lv_icmp_ne (tgt := 41) hx hb dX7_mapOf_32 (by decide) (fun c112 => absurd (iR_is i111 rfl) c112) (fun _ => ?_)
      refine lv_ldc2 (v := 3) hx hb hown (hts _ mw_1227) dX7_mapOf_35 ?_
      refine lv_goto (tgt := 44) hx hb dX7_mapOf_38 (by decide) ?_
      refine call_i (cS (av := [.long a3.toInt64, .long 0, .long 3]) (rest := []) B hP hS (c_in l E ρ99 a3.toInt64 0 3 0 3 (by decide) (by decide)) lk_RX7_71 rfl rfl hl.1 (Nat.le_of_ble_eq_true rfl) ⟨Nat.le_of_ble_eq_true rfl, Nat.le_of_ble_eq_true rfl⟩ ⟨Nat.le_of_ble_eq_true rfl, Nat.le_of_ble_eq_true rfl⟩ dX7_mapOf_44) hS (fun r113 ρ114 H locs q115 hP hS => ?_)
      obtain ⟨rfl, q115⟩ := q115
      rcases q115 with ⟨rfl, q115⟩ | ⟨rfl, q115⟩
      · skip
        have i116 : iR a3 0 3 := (lR_i _ _ _).mp q115
        refine lv_if_ne (tgt := 52) hx hb dX7_mapOf_47 (by decide) (fun _ => ?_) (fun c117 => absurd c117 (iR_ne (show iR 1 (1) (1) from ⟨by decide, by decide⟩) (show iR 0 (0) (0) from ⟨by decide, by decide⟩) (by decide)))
        refine lv_iload_n hx hb dX7_mapOf_52 rfl (lv_at hl 3 rfl) ?_
        have := nn_r (x := a3) (a := 0) (b := 3) i116 (by decide)
        refine lv_topi (fun z118 ez118 => ?_)
        obtain rfl : z118 = nI (nn a3) := ez118.trans (nn_eq a3)
        refine lv_iconst (v := 3) hx hb dX7_mapOf_53 (by decide) ?_
        refine lv_icmp_ne (tgt := 70) hx hb dX7_mapOf_54 (by decide) (fun c119 => ?_) (fun c119 => ?_)
        · skip
          have n120 := mt (nI_eq (a := (nn a3)) (b := 3) (by omega) (by omega)).mpr (show ¬ (nI (nn a3) = nI 3) from c119)
          refine lv_iload_n hx hb dX7_mapOf_70 rfl (lv_at hl 2 rfl) ?_
          refine lv_iconst (v := (-1)) hx hb dX7_mapOf_71 (by decide) ?_
          refine lv_icmp_ne (tgt := 84) hx hb dX7_mapOf_72 (by decide) (fun c121 => absurd (iR_is i111 rfl) c121) (fun _ => ?_)
          refine lv_iload_n hx hb dX7_mapOf_75 rfl (lv_at hl 1 rfl) ?_
          refine lv_topi (fun z122 ez122 => ?_)
          obtain rfl : z122 = nI (nn a1) := ez122.trans (nn_eq a1)
          refine call_i (cS (av := [.int (nI (nn a1))]) (rest := []) B hP hS (d_X7_netAt l E ρ99 r Bt hBt M L X (nn a1) (by omega) (by omega) hI) lk_RX7_75 rfl rfl hl.1 (Nat.le_of_ble_eq_true rfl) ⟨Nat.le_of_ble_eq_true rfl, Nat.le_of_ble_eq_true rfl⟩ ⟨Nat.le_of_ble_eq_true rfl, Nat.le_of_ble_eq_true rfl⟩ dX7_mapOf_76) hS (fun r123 ρ124 H locs q125 hP hS => ?_)
          obtain ⟨rfl, hI, q125⟩ := q125
          obtain rfl : r123 = nI (42 + 326 * (nn a1)) := q125.trans (congrArg nI (by omega))
          refine lv_iconst (v := 2) hx hb dX7_mapOf_79 (by decide) ?_
          refine lv_iadd hx hb dX7_mapOf_80 ?_
          refine lv_topi (fun z126 ez126 => ?_)
          obtain rfl : z126 = (nI (44 + 326 * (nn a1))) := ez126.trans (by rw [show (nI (42 + 326 * (nn a1))) = nI (42 + 326 * (nn a1)) from rfl, show 2 = nI 2 from rfl, nI_add] <;> exact congrArg nI (by omega))
          refine lv_goto (tgt := 91) hx hb dX7_mapOf_81 (by decide) ?_
          refine lv_istore (lv' := [(4, .int (nI (44 + 326 * (nn a1)))), (0, .ref (E.2.1 + 1076)), (1, .int a1), (2, .int a2), (3, .int a3)]) hx hb dX7_mapOf_91 hl (by decide) rfl (fun ls hl => ?_)
          refine lv_iload_n hx hb dX7_mapOf_93 rfl (lv_at hl 4 rfl) ?_
          refine lv_topi (fun z127 ez127 => ?_)
          obtain rfl : z127 = nI (nn a3) := ez127.trans (nn_eq a3)
          refine lv_iconst (v := 2) hx hb dX7_mapOf_94 (by decide) ?_
          refine lv_icmp_ne (tgt := 114) hx hb dX7_mapOf_95 (by decide) (fun c128 => ?_) (fun c128 => ?_)
          · skip
            have n129 := mt (nI_eq (a := (nn a3)) (b := 2) (by omega) (by omega)).mpr (show ¬ (nI (nn a3) = nI 2) from c128)
            refine lv_aload_n hx hb dX7_mapOf_114 rfl (lv_at hl 1 rfl) ?_
            refine get7 B hP (show hk 1076 = 7 by decide +kernel) 3 (by decide) mw_1030 rfl dX7_mapOf_115 ?_
            refine lv_iload hx hb dX7_mapOf_118 (lv_at hl 0 rfl) ?_
            refine lv_iload_n hx hb dX7_mapOf_120 rfl (lv_at hl 4 rfl) ?_
            refine lv_topi (fun z130 ez130 => ?_)
            obtain rfl : z130 = nI (nn a3) := ez130.trans (nn_eq a3)
            refine lv_iadd hx hb dX7_mapOf_121 ?_
            refine lv_topi (fun z131 ez131 => ?_)
            obtain rfl : z131 = (nI (44 + 326 * (nn a1) + (nn a3))) := ez131.trans (by rw [show (nI (44 + 326 * (nn a1))) = nI (44 + 326 * (nn a1)) from rfl, show (nI (nn a3)) = nI (nn a3) from rfl, nI_add] <;> exact congrArg nI (by omega))
            refine aldn (n := 695) (j := (44 + 326 * (nn a1) + (nn a3))) B hP (show hk 1078 = 8 by decide +kernel) (show hlen 1078 = 695 by decide +kernel) rfl (by omega) (by decide) dX7_mapOf_122 ?_
            exact ret_i B hr hlk hP hS dX7_mapOf_123 (hI)
          · skip
            have n132 := (nI_eq (a := (nn a3)) (b := 2) (by omega) (by omega)).mp (show (nI (nn a3) = nI 2) from c128)
            refine lv_aload_n hx hb dX7_mapOf_98 rfl (lv_at hl 1 rfl) ?_
            refine get7 B hP (show hk 1076 = 7 by decide +kernel) 3 (by decide) mw_1030 rfl dX7_mapOf_99 ?_
            refine lv_iload hx hb dX7_mapOf_102 (lv_at hl 0 rfl) ?_
            refine lv_iconst (v := 1) hx hb dX7_mapOf_104 (by decide) ?_
            refine lv_iadd hx hb dX7_mapOf_105 ?_
            refine lv_topi (fun z133 ez133 => ?_)
            obtain rfl : z133 = (nI (45 + 326 * (nn a1))) := ez133.trans (by rw [show (nI (44 + 326 * (nn a1))) = nI (44 + 326 * (nn a1)) from rfl, show 1 = nI 1 from rfl, nI_add] <;> exact congrArg nI (by omega))
            refine aldn (n := 695) (j := (45 + 326 * (nn a1))) B hP (show hk 1078 = 8 by decide +kernel) (show hlen 1078 = 695 by decide +kernel) rfl (by omega) (by decide) dX7_mapOf_106 ?_
            have i134 : iR (ρ99 1078 (45 + 326 * (nn a1))) (0) (8388607) := g_next (n0 := (nn a1)) (j := (45 + 326 * (nn a1))) hI (by omega) (by omega)
            obtain ⟨j135, lj135, uj135, ej135⟩ := iR_nat (a := 0) (b := 8388607) i134
            refine lv_topi (fun z136 ez136 => ?_)
            obtain rfl : z136 = nI j135 := ez136.trans ej135
            refine lv_if_ne (tgt := 114) hx hb dX7_mapOf_107 (by decide) (fun c137 => ?_) (fun c137 => ?_)
            · skip
              have n138 := mt (nI_eq (a := j135) (b := 0) (by omega) (by omega)).mpr (show ¬ (nI j135 = nI 0) from c137)
              refine lv_aload_n hx hb dX7_mapOf_114 rfl (lv_at hl 1 rfl) ?_
              refine get7 B hP (show hk 1076 = 7 by decide +kernel) 3 (by decide) mw_1030 rfl dX7_mapOf_115 ?_
              refine lv_iload hx hb dX7_mapOf_118 (lv_at hl 0 rfl) ?_
              refine lv_iload_n hx hb dX7_mapOf_120 rfl (lv_at hl 4 rfl) ?_
              refine lv_topi (fun z139 ez139 => ?_)
              obtain rfl : z139 = nI (nn a3) := ez139.trans (nn_eq a3)
              refine lv_iadd hx hb dX7_mapOf_121 ?_
              refine lv_topi (fun z140 ez140 => ?_)
              obtain rfl : z140 = (nI (44 + 326 * (nn a1) + (nn a3))) := ez140.trans (by rw [show (nI (44 + 326 * (nn a1))) = nI (44 + 326 * (nn a1)) from rfl, show (nI (nn a3)) = nI (nn a3) from rfl, nI_add] <;> exact congrArg nI (by omega))
              refine aldn (n := 695) (j := (44 + 326 * (nn a1) + (nn a3))) B hP (show hk 1078 = 8 by decide +kernel) (show hlen 1078 = 695 by decide +kernel) rfl (by omega) (by decide) dX7_mapOf_122 ?_
              exact ret_i B hr hlk hP hS dX7_mapOf_123 (hI)
            · skip
              have n141 := (nI_eq (a := j135) (b := 0) (by omega) (by omega)).mp (show (nI j135 = nI 0) from c137)
              refine lv_iconst (v := (-1)) hx hb dX7_mapOf_110 (by decide) ?_
              refine lv_goto (tgt := 123) hx hb dX7_mapOf_111 (by decide) ?_
              exact ret_i B hr hlk hP hS dX7_mapOf_123 (hI)
        · skip
          have n142 := (nI_eq (a := (nn a3)) (b := 3) (by omega) (by omega)).mp (show (nI (nn a3) = nI 3) from c119)
          refine lv_aload_n hx hb dX7_mapOf_57 rfl (lv_at hl 0 rfl) ?_
          refine get7 B hP (show hk 1076 = 7 by decide +kernel) 3 (by decide) mw_1030 rfl dX7_mapOf_58 ?_
          refine lv_iload_n hx hb dX7_mapOf_61 rfl (lv_at hl 1 rfl) ?_
          refine lv_topi (fun z143 ez143 => ?_)
          obtain rfl : z143 = nI (nn a1) := ez143.trans (nn_eq a1)
          refine call_i (cS (av := [.int (nI (nn a1))]) (rest := [.ref (E.2.1 + 1078)]) B hP hS (d_X7_netAt l E ρ99 r Bt hBt M L X (nn a1) (by omega) (by omega) hI) lk_RX7_75 rfl rfl hl.1 (Nat.le_of_ble_eq_true rfl) ⟨Nat.le_of_ble_eq_true rfl, Nat.le_of_ble_eq_true rfl⟩ ⟨Nat.le_of_ble_eq_true rfl, Nat.le_of_ble_eq_true rfl⟩ dX7_mapOf_62) hS (fun r144 ρ145 H locs q146 hP hS => ?_)
          obtain ⟨rfl, hI, q146⟩ := q146
          obtain rfl : r144 = nI (42 + 326 * (nn a1)) := q146.trans (congrArg nI (by omega))
          refine lv_bipush (v := 7) hx hb dX7_mapOf_65 (by decide) ?_
          refine lv_iadd hx hb dX7_mapOf_67 ?_
          refine lv_topi (fun z147 ez147 => ?_)
          obtain rfl : z147 = (nI (49 + 326 * (nn a1))) := ez147.trans (by rw [show (nI (42 + 326 * (nn a1))) = nI (42 + 326 * (nn a1)) from rfl, show 7 = nI 7 from rfl, nI_add] <;> exact congrArg nI (by omega))
          refine aldn (n := 695) (j := (49 + 326 * (nn a1))) B hP (show hk 1078 = 8 by decide +kernel) (show hlen 1078 = 695 by decide +kernel) rfl (by omega) (by decide) dX7_mapOf_68 ?_
          have i148 : iR (ρ99 1078 (49 + 326 * (nn a1))) (1) (8388607) := g_mapahead (n0 := (nn a1)) (j := (49 + 326 * (nn a1))) hI (by omega) i108 (by omega)
          obtain ⟨j149, lj149, uj149, ej149⟩ := iR_nat (a := 1) (b := 8388607) i148
          refine lv_topi (fun z150 ez150 => ?_)
          obtain rfl : z150 = nI j149 := ez150.trans ej149
          exact ret_i B hr hlk hP hS dX7_mapOf_69 (hI)
      · skip
        refine lv_if_ne (tgt := 52) hx hb dX7_mapOf_47 (by decide) (fun c151 => absurd rfl c151) (fun _ => ?_)
        refine lv_iconst (v := (-1)) hx hb dX7_mapOf_50 (by decide) ?_
        exact ret_i B hr hlk hP hS dX7_mapOf_51 (hI)
    · skip
      refine lv_aload_n hx hb dX7_mapOf_18 rfl (lv_at hl 0 rfl) ?_
      refine lv_iload_n hx hb dX7_mapOf_19 rfl (lv_at hl 1 rfl) ?_
      refine lv_topi (fun z152 ez152 => ?_)
      obtain rfl : z152 = nI (nn a1) := ez152.trans (nn_eq a1)
      refine lv_iload_n hx hb dX7_mapOf_20 rfl (lv_at hl 2 rfl) ?_
      refine call_i (cVt (k := 1076) (av := [.int (nI (nn a1)), .int a2]) (rest := []) B hP hS (d_X7_isLink l E ρ99 r Bt hBt M L X (nI (nn a1)) a2 hI) lk_RX7_106 (hrecv (ci := 7) B hP (hk_lt (c := 7) (show hk 1076 = 7 by decide +kernel) (by decide)) (hcc7 _ _ (show hk 1076 = 7 by decide +kernel)) rfl) rfl rfl hl.1 (Nat.le_of_ble_eq_true rfl) ⟨Nat.le_of_ble_eq_true rfl, Nat.le_of_ble_eq_true rfl⟩ ⟨Nat.le_of_ble_eq_true rfl, Nat.le_of_ble_eq_true rfl⟩ dX7_mapOf_21) hS (fun r153 ρ154 H locs q155 hP hS => ?_)
      obtain ⟨rfl, hI, q155⟩ := q155
      rcases q155 with rfl | ⟨rfl, j156, hj156, ej156, i157, j158, hj158, ej158⟩
      · skip
        refine lv_if_eq (tgt := 50) hx hb dX7_mapOf_24 (by decide) (fun _ => ?_) (fun c159 => absurd rfl c159)
        refine lv_iconst (v := (-1)) hx hb dX7_mapOf_50 (by decide) ?_
        exact ret_i B hr hlk hP hS dX7_mapOf_51 (hI)
      · skip
        have := RI_Lb hI hj156
        have n160 : (nn a1) = j156 := (nI_eq (by omega) (by omega)).mp (show nI (nn a1) = nI j156 from ej156)
        have i161 : iR (M (nn a1)) 0 5 := by rw [n160]; exact i157
        have : j158 < L (nn a1) := by rw [n160]; exact hj158
        have := RI_Lb (n := (nn a1)) hI (by omega)
        have n162 : nn a2 = j158 := nn_u ej158 (by omega)
        refine lv_if_eq (tgt := 50) hx hb dX7_mapOf_24 (by decide) (fun c163 => absurd c163 (iR_ne (show iR 1 (1) (1) from ⟨by decide, by decide⟩) (show iR 0 (0) (0) from ⟨by decide, by decide⟩) (by decide))) (fun _ => ?_)
        refine lv_iload_n hx hb dX7_mapOf_27 rfl (lv_at hl 3 rfl) ?_
        refine lv_i2l hx hb dX7_mapOf_28 rfl ?_
        refine lv_lconst (v := 0) hx hb dX7_mapOf_29 (by decide) ?_
        refine lv_iload_n hx hb dX7_mapOf_30 rfl (lv_at hl 2 rfl) ?_
        refine lv_topi (fun z164 ez164 => ?_)
        obtain rfl : z164 = nI (nn a2) := ez164.trans (nn_eq a2)
        refine lv_iconst (v := (-1)) hx hb dX7_mapOf_31 (by decide) ?_
        refine lv_icmp_ne (tgt := 41) hx hb dX7_mapOf_32 (by decide) (fun _ => ?_) (fun c165 => absurd c165 (iR_ne (nI_iR (j := (nn a2)) (a := 0) (b := 3) (by omega) (by omega) (by omega)) (show iR (-1) (-1) (-1) from ⟨by decide, by decide⟩) (by decide)))
        refine lv_ldc2 (v := 2) hx hb hown (hts _ mw_1192) dX7_mapOf_41 ?_
        refine call_i (cS (av := [.long a3.toInt64, .long 0, .long 2]) (rest := []) B hP hS (c_in l E ρ99 a3.toInt64 0 2 0 2 (by decide) (by decide)) lk_RX7_71 rfl rfl hl.1 (Nat.le_of_ble_eq_true rfl) ⟨Nat.le_of_ble_eq_true rfl, Nat.le_of_ble_eq_true rfl⟩ ⟨Nat.le_of_ble_eq_true rfl, Nat.le_of_ble_eq_true rfl⟩ dX7_mapOf_44) hS (fun r166 ρ167 H locs q168 hP hS => ?_)
        obtain ⟨rfl, q168⟩ := q168
        rcases q168 with ⟨rfl, q168⟩ | ⟨rfl, q168⟩
        · skip
          have i169 : iR a3 0 2 := (lR_i _ _ _).mp q168
          refine lv_if_ne (tgt := 52) hx hb dX7_mapOf_47 (by decide) (fun _ => ?_) (fun c170 => absurd c170 (iR_ne (show iR 1 (1) (1) from ⟨by decide, by decide⟩) (show iR 0 (0) (0) from ⟨by decide, by decide⟩) (by decide)))
          refine lv_iload_n hx hb dX7_mapOf_52 rfl (lv_at hl 3 rfl) ?_
          have := nn_r (x := a3) (a := 0) (b := 2) i169 (by decide)
          refine lv_topi (fun z171 ez171 => ?_)
          obtain rfl : z171 = nI (nn a3) := ez171.trans (nn_eq a3)
          refine lv_iconst (v := 3) hx hb dX7_mapOf_53 (by decide) ?_
          refine lv_icmp_ne (tgt := 70) hx hb dX7_mapOf_54 (by decide) (fun _ => ?_) (fun c172 => absurd c172 (iR_ne (nI_iR (j := (nn a3)) (a := 0) (b := 2) (by omega) (by omega) (by omega)) (show iR 3 (3) (3) from ⟨by decide, by decide⟩) (by decide)))
          refine lv_iload_n hx hb dX7_mapOf_70 rfl (lv_at hl 2 rfl) ?_
          refine lv_topi (fun z173 ez173 => ?_)
          obtain rfl : z173 = nI (nn a2) := ez173.trans (nn_eq a2)
          refine lv_iconst (v := (-1)) hx hb dX7_mapOf_71 (by decide) ?_
          refine lv_icmp_ne (tgt := 84) hx hb dX7_mapOf_72 (by decide) (fun _ => ?_) (fun c174 => absurd c174 (iR_ne (nI_iR (j := (nn a2)) (a := 0) (b := 3) (by omega) (by omega) (by omega)) (show iR (-1) (-1) (-1) from ⟨by decide, by decide⟩) (by decide)))
          refine lv_iload_n hx hb dX7_mapOf_84 rfl (lv_at hl 1 rfl) ?_
          refine lv_topi (fun z175 ez175 => ?_)
          obtain rfl : z175 = nI (nn a1) := ez175.trans (nn_eq a1)
          refine lv_iload_n hx hb dX7_mapOf_85 rfl (lv_at hl 2 rfl) ?_
          refine lv_topi (fun z176 ez176 => ?_)
          obtain rfl : z176 = nI (nn a2) := ez176.trans (nn_eq a2)
          refine call_i (cS (av := [.int (nI (nn a1)), .int (nI (nn a2))]) (rest := []) B hP hS (d_X7_linkAt l E ρ99 r Bt hBt M L X (nn a1) (by omega) (by omega) (nn a2) (by omega) (by omega) hI) lk_RX7_82 rfl rfl hl.1 (Nat.le_of_ble_eq_true rfl) ⟨Nat.le_of_ble_eq_true rfl, Nat.le_of_ble_eq_true rfl⟩ ⟨Nat.le_of_ble_eq_true rfl, Nat.le_of_ble_eq_true rfl⟩ dX7_mapOf_86) hS (fun r177 ρ178 H locs q179 hP hS => ?_)
          obtain ⟨rfl, hI, q179⟩ := q179
          obtain rfl : r177 = nI (104 + 326 * (nn a1) + 66 * (nn a2)) := q179.trans (congrArg nI (by omega))
          refine lv_iconst (v := 1) hx hb dX7_mapOf_89 (by decide) ?_
          refine lv_iadd hx hb dX7_mapOf_90 ?_
          refine lv_topi (fun z180 ez180 => ?_)
          obtain rfl : z180 = (nI (105 + 326 * (nn a1) + 66 * (nn a2))) := ez180.trans (by rw [show (nI (104 + 326 * (nn a1) + 66 * (nn a2))) = nI (104 + 326 * (nn a1) + 66 * (nn a2)) from rfl, show 1 = nI 1 from rfl, nI_add] <;> exact congrArg nI (by omega))
          refine lv_istore (lv' := [(4, .int (nI (105 + 326 * (nn a1) + 66 * (nn a2)))), (0, .ref (E.2.1 + 1076)), (1, .int a1), (2, .int a2), (3, .int a3)]) hx hb dX7_mapOf_91 hl (by decide) rfl (fun ls hl => ?_)
          refine lv_iload_n hx hb dX7_mapOf_93 rfl (lv_at hl 4 rfl) ?_
          refine lv_topi (fun z181 ez181 => ?_)
          obtain rfl : z181 = nI (nn a3) := ez181.trans (nn_eq a3)
          refine lv_iconst (v := 2) hx hb dX7_mapOf_94 (by decide) ?_
          refine lv_icmp_ne (tgt := 114) hx hb dX7_mapOf_95 (by decide) (fun c182 => ?_) (fun c182 => ?_)
          · skip
            have n183 := mt (nI_eq (a := (nn a3)) (b := 2) (by omega) (by omega)).mpr (show ¬ (nI (nn a3) = nI 2) from c182)
            refine lv_aload_n hx hb dX7_mapOf_114 rfl (lv_at hl 1 rfl) ?_
            refine get7 B hP (show hk 1076 = 7 by decide +kernel) 3 (by decide) mw_1030 rfl dX7_mapOf_115 ?_
            refine lv_iload hx hb dX7_mapOf_118 (lv_at hl 0 rfl) ?_
            refine lv_iload_n hx hb dX7_mapOf_120 rfl (lv_at hl 4 rfl) ?_
            refine lv_topi (fun z184 ez184 => ?_)
            obtain rfl : z184 = nI (nn a3) := ez184.trans (nn_eq a3)
            refine lv_iadd hx hb dX7_mapOf_121 ?_
            refine lv_topi (fun z185 ez185 => ?_)
            obtain rfl : z185 = (nI (105 + 326 * (nn a1) + 66 * (nn a2) + (nn a3))) := ez185.trans (by rw [show (nI (105 + 326 * (nn a1) + 66 * (nn a2))) = nI (105 + 326 * (nn a1) + 66 * (nn a2)) from rfl, show (nI (nn a3)) = nI (nn a3) from rfl, nI_add] <;> exact congrArg nI (by omega))
            refine aldn (n := 695) (j := (105 + 326 * (nn a1) + 66 * (nn a2) + (nn a3))) B hP (show hk 1078 = 8 by decide +kernel) (show hlen 1078 = 695 by decide +kernel) rfl (by omega) (by decide) dX7_mapOf_122 ?_
            exact ret_i B hr hlk hP hS dX7_mapOf_123 (hI)
          · skip
            have n186 := (nI_eq (a := (nn a3)) (b := 2) (by omega) (by omega)).mp (show (nI (nn a3) = nI 2) from c182)
            refine lv_aload_n hx hb dX7_mapOf_98 rfl (lv_at hl 1 rfl) ?_
            refine get7 B hP (show hk 1076 = 7 by decide +kernel) 3 (by decide) mw_1030 rfl dX7_mapOf_99 ?_
            refine lv_iload hx hb dX7_mapOf_102 (lv_at hl 0 rfl) ?_
            refine lv_iconst (v := 1) hx hb dX7_mapOf_104 (by decide) ?_
            refine lv_iadd hx hb dX7_mapOf_105 ?_
            refine lv_topi (fun z187 ez187 => ?_)
            obtain rfl : z187 = (nI (106 + 326 * (nn a1) + 66 * (nn a2))) := ez187.trans (by rw [show (nI (105 + 326 * (nn a1) + 66 * (nn a2))) = nI (105 + 326 * (nn a1) + 66 * (nn a2)) from rfl, show 1 = nI 1 from rfl, nI_add] <;> exact congrArg nI (by omega))
            refine aldn (n := 695) (j := (106 + 326 * (nn a1) + 66 * (nn a2))) B hP (show hk 1078 = 8 by decide +kernel) (show hlen 1078 = 695 by decide +kernel) rfl (by omega) (by decide) dX7_mapOf_106 ?_
            have i188 : iR (ρ99 1078 (106 + 326 * (nn a1) + 66 * (nn a2))) (0) (8388607) := g_itsnext (n0 := (nn a1)) (l0 := (nn a2)) (j := (106 + 326 * (nn a1) + 66 * (nn a2))) hI (by omega) (by omega) (by omega)
            obtain ⟨j189, lj189, uj189, ej189⟩ := iR_nat (a := 0) (b := 8388607) i188
            refine lv_topi (fun z190 ez190 => ?_)
            obtain rfl : z190 = nI j189 := ez190.trans ej189
            refine lv_if_ne (tgt := 114) hx hb dX7_mapOf_107 (by decide) (fun c191 => ?_) (fun c191 => ?_)
            · skip
              have n192 := mt (nI_eq (a := j189) (b := 0) (by omega) (by omega)).mpr (show ¬ (nI j189 = nI 0) from c191)
              refine lv_aload_n hx hb dX7_mapOf_114 rfl (lv_at hl 1 rfl) ?_
              refine get7 B hP (show hk 1076 = 7 by decide +kernel) 3 (by decide) mw_1030 rfl dX7_mapOf_115 ?_
              refine lv_iload hx hb dX7_mapOf_118 (lv_at hl 0 rfl) ?_
              refine lv_iload_n hx hb dX7_mapOf_120 rfl (lv_at hl 4 rfl) ?_
              refine lv_topi (fun z193 ez193 => ?_)
              obtain rfl : z193 = nI (nn a3) := ez193.trans (nn_eq a3)
              refine lv_iadd hx hb dX7_mapOf_121 ?_
              refine lv_topi (fun z194 ez194 => ?_)
              obtain rfl : z194 = (nI (105 + 326 * (nn a1) + 66 * (nn a2) + (nn a3))) := ez194.trans (by rw [show (nI (105 + 326 * (nn a1) + 66 * (nn a2))) = nI (105 + 326 * (nn a1) + 66 * (nn a2)) from rfl, show (nI (nn a3)) = nI (nn a3) from rfl, nI_add] <;> exact congrArg nI (by omega))
              refine aldn (n := 695) (j := (105 + 326 * (nn a1) + 66 * (nn a2) + (nn a3))) B hP (show hk 1078 = 8 by decide +kernel) (show hlen 1078 = 695 by decide +kernel) rfl (by omega) (by decide) dX7_mapOf_122 ?_
              exact ret_i B hr hlk hP hS dX7_mapOf_123 (hI)
            · skip
              have n195 := (nI_eq (a := j189) (b := 0) (by omega) (by omega)).mp (show (nI j189 = nI 0) from c191)
              refine lv_iconst (v := (-1)) hx hb dX7_mapOf_110 (by decide) ?_
              refine lv_goto (tgt := 123) hx hb dX7_mapOf_111 (by decide) ?_
              exact ret_i B hr hlk hP hS dX7_mapOf_123 (hI)
        · skip
          refine lv_if_ne (tgt := 52) hx hb dX7_mapOf_47 (by decide) (fun c196 => absurd rfl c196) (fun _ => ?_)
          refine lv_iconst (v := (-1)) hx hb dX7_mapOf_50 (by decide) ?_
          exact ret_i B hr hlk hP hS dX7_mapOf_51 (hI)

set_option maxHeartbeats 4000000 in
set_option maxRecDepth 100000 in
theorem d_X7_meets (l : Launch) (E : hE) (ρ r : Nat → Nat → Int32) (Bt : Nat) (hBt : Bt ≤ 1000000) (M : Nat → Int32) (L : Nat → Nat) (X : Nat × Nat → Prop) (hI : RI r Bt M L X ρ) : Met l yX7_meets (.code yX7_meets cX7_meets 2 (some .int) :: gw_all) (rmk 3 120) (cPre E ρ [.ref (E.2.1 + 1076)]) (cI E (fun v ρ1 => RI r Bt M L X ρ1)) 0 0 (hA E) := by
  refine ent (own := RX7) (by decide) rfl (Nat.le_of_ble_eq_true rfl) ?_
  intro p e s m below meth c ls B hr hlk hl hP hS
  have hx := B.1.1
  have hb := B.1.2.1
  have hown := B.1.2.2.2.1
  have hts := B.1.2.2.2.2
  have hl : lv_has ls 2 [(0, .ref (E.2.1 + 1076))] := hl
  have b31_0 : ∀ (ls : Array Slot) (ρ : Nat → Nat → Int32) (H : Heap) (locs : List Loc) (d31 : Nat) (j31_1 : Nat), lv_has ls 2 [(0, .ref (E.2.1 + 1076)), (1, .int (nI j31_1))] → WP E ρ H → va_S (hA E) s.heap H locs → RI r Bt M L X ρ → 8388608 - j31_1 < d31 → 0 ≤ j31_1 → j31_1 ≤ 8388607 → iR (M 0) (0) (5) → iR (M 1) (0) (5) → W p l e (rmk 3 120) s m ([.ref (E.2.1 + 1076)] : List Value).toArray below meth c H locs 0 0 (MQ below (cI E (fun v ρ1 => RI r Bt M L X ρ1)) ([.ref (E.2.1 + 1076)] : List Value).toArray s 0 0 (hA E)) (F0 m 31 ls []) := by
    intro ls ρ H locs d31
    induction d31 generalizing ls ρ H locs with
    | zero => intro j31_1 hl hP hS hI hd31 lj31_1 uj31_1 f_M_0_ f_M_1_; exact absurd hd31 (Nat.not_lt_zero _)
    | succ d31 ih31 =>
      intro j31_1 hl hP hS hI hd31 lj31_1 uj31_1 f_M_0_ f_M_1_
      refine lv_iload_n hx hb dX7_meets_31 rfl (lv_at hl 1 rfl) ?_
      refine lv_aload_n hx hb dX7_meets_32 rfl (lv_at hl 0 rfl) ?_
      refine get7 B hP (show hk 1076 = 7 by decide +kernel) 3 (by decide) mw_1030 rfl dX7_meets_33 ?_
      refine lv_bipush (v := 7) hx hb dX7_meets_36 (by decide) ?_
      refine aldn (n := 695) (j := 7) B hP (show hk 1078 = 8 by decide +kernel) (show hlen 1078 = 695 by decide +kernel) rfl (by omega) (by decide) dX7_meets_38 ?_
      have i194 : iR (ρ 1078 7) (0) (1000000) := (iR_w (g_time hI) (by omega) (by omega))
      obtain ⟨j195, lj195, uj195, ej195⟩ := iR_nat (a := 0) (b := 1000000) i194
      refine lv_topi (fun z196 ez196 => ?_)
      obtain rfl : z196 = nI j195 := ez196.trans ej195
      refine lv_sipush (v := 4000) hx hb dX7_meets_39 (by decide) ?_
      refine lv_iadd hx hb dX7_meets_42 ?_
      refine lv_topi (fun z197 ez197 => ?_)
      obtain rfl : z197 = (nI (4000 + j195)) := ez197.trans (by rw [show (nI j195) = nI j195 from rfl, show 4000 = nI 4000 from rfl, nI_add] <;> exact congrArg nI (by omega))
      refine lv_icmp_ge (tgt := 91) hx hb dX7_meets_43 (by decide) (fun c198 => ?_) (fun c198 => ?_)
      · skip
        have n199 := mt (nx_lt (a := j31_1) (b := (4000 + j195)) (by omega) (by omega)).mpr (show ¬ (nI j31_1 < nI (4000 + j195)) from (Int32.not_lt.mpr c198))
        refine lv_iconst (v := (-1)) hx hb dX7_meets_91 (by decide) ?_
        exact ret_i B hr hlk hP hS dX7_meets_92 (hI)
      · skip
        have n200 := (nx_lt (a := j31_1) (b := (4000 + j195)) (by omega) (by omega)).mp (show (nI j31_1 < nI (4000 + j195)) from (Int32.not_le.mp c198))
        refine lv_aload_n hx hb dX7_meets_46 rfl (lv_at hl 0 rfl) ?_
        refine lv_iconst (v := 0) hx hb dX7_meets_47 (by decide) ?_
        refine lv_iload_n hx hb dX7_meets_48 rfl (lv_at hl 1 rfl) ?_
        refine lv_aload_n hx hb dX7_meets_49 rfl (lv_at hl 0 rfl) ?_
        refine get7 B hP (show hk 1076 = 7 by decide +kernel) 3 (by decide) mw_1030 rfl dX7_meets_50 ?_
        refine lv_iconst (v := 0) hx hb dX7_meets_53 (by decide) ?_
        refine call_i (cS (av := [.int 0]) (rest := [.ref (E.2.1 + 1078), .int (nI j31_1), .int 0, .ref (E.2.1 + 1076)]) B hP hS (d_X7_netAt l E ρ r Bt hBt M L X 0 (by omega) (by omega) hI) lk_RX7_75 rfl rfl hl.1 (Nat.le_of_ble_eq_true rfl) ⟨Nat.le_of_ble_eq_true rfl, Nat.le_of_ble_eq_true rfl⟩ ⟨Nat.le_of_ble_eq_true rfl, Nat.le_of_ble_eq_true rfl⟩ dX7_meets_54) hS (fun r201 ρ202 H locs q203 hP hS => ?_)
        obtain ⟨rfl, hI, q203⟩ := q203
        obtain rfl : r201 = nI 42 := q203.trans (congrArg nI (by omega))
        refine lv_iconst (v := 2) hx hb dX7_meets_57 (by decide) ?_
        refine lv_iadd hx hb dX7_meets_58 ?_
        refine lv_topi (fun z204 ez204 => ?_)
        obtain rfl : z204 = 44 := ez204.trans (by decide)
        refine aldn (n := 695) (j := 44) B hP (show hk 1078 = 8 by decide +kernel) (show hlen 1078 = 695 by decide +kernel) rfl (by omega) (by decide) dX7_meets_59 ?_
        have i205 : iR (ρ 1078 44) (1) (8388607) := g_map (n0 := 0) (j := 44) hI (by omega) f_M_0_ (by omega)
        obtain ⟨j206, lj206, uj206, ej206⟩ := iR_nat (a := 1) (b := 8388607) i205
        refine lv_topi (fun z207 ez207 => ?_)
        obtain rfl : z207 = nI j206 := ez207.trans ej206
        refine call_i (cVt (k := 1076) (av := [.int 0, .int (nI j31_1), .int (nI j206)]) (rest := []) B hP hS (d_X7_hopOf l E ρ r Bt hBt M L X 0 (by omega) (by omega) (nI j31_1) j206 (by omega) (by omega) hI) lk_RX7_114 (hrecv (ci := 7) B hP (hk_lt (c := 7) (show hk 1076 = 7 by decide +kernel) (by decide)) (hcc7 _ _ (show hk 1076 = 7 by decide +kernel)) rfl) rfl rfl hl.1 (Nat.le_of_ble_eq_true rfl) ⟨Nat.le_of_ble_eq_true rfl, Nat.le_of_ble_eq_true rfl⟩ ⟨Nat.le_of_ble_eq_true rfl, Nat.le_of_ble_eq_true rfl⟩ dX7_meets_60) hS (fun r208 ρ209 H locs q210 hP hS => ?_)
        obtain ⟨rfl, hI, q210⟩ := q210
        obtain ⟨j211, lj211, uj211, ej211⟩ := iR_nat (a := 0) (b := 22) q210
        refine lv_topi (fun z212 ez212 => ?_)
        obtain rfl : z212 = nI j211 := ez212.trans ej211
        refine lv_aload_n hx hb dX7_meets_63 rfl (lv_at hl 0 rfl) ?_
        refine lv_iconst (v := 1) hx hb dX7_meets_64 (by decide) ?_
        refine lv_iload_n hx hb dX7_meets_65 rfl (lv_at hl 1 rfl) ?_
        refine lv_aload_n hx hb dX7_meets_66 rfl (lv_at hl 0 rfl) ?_
        refine get7 B hP (show hk 1076 = 7 by decide +kernel) 3 (by decide) mw_1030 rfl dX7_meets_67 ?_
        refine lv_iconst (v := 1) hx hb dX7_meets_70 (by decide) ?_
        refine call_i (cS (av := [.int 1]) (rest := [.ref (E.2.1 + 1078), .int (nI j31_1), .int 1, .ref (E.2.1 + 1076), .int (nI j211)]) B hP hS (d_X7_netAt l E ρ r Bt hBt M L X 1 (by omega) (by omega) hI) lk_RX7_75 rfl rfl hl.1 (Nat.le_of_ble_eq_true rfl) ⟨Nat.le_of_ble_eq_true rfl, Nat.le_of_ble_eq_true rfl⟩ ⟨Nat.le_of_ble_eq_true rfl, Nat.le_of_ble_eq_true rfl⟩ dX7_meets_71) hS (fun r213 ρ214 H locs q215 hP hS => ?_)
        obtain ⟨rfl, hI, q215⟩ := q215
        obtain rfl : r213 = nI 368 := q215.trans (congrArg nI (by omega))
        refine lv_iconst (v := 2) hx hb dX7_meets_74 (by decide) ?_
        refine lv_iadd hx hb dX7_meets_75 ?_
        refine lv_topi (fun z216 ez216 => ?_)
        obtain rfl : z216 = 370 := ez216.trans (by decide)
        refine aldn (n := 695) (j := 370) B hP (show hk 1078 = 8 by decide +kernel) (show hlen 1078 = 695 by decide +kernel) rfl (by omega) (by decide) dX7_meets_76 ?_
        have i217 : iR (ρ 1078 370) (1) (8388607) := g_map (n0 := 1) (j := 370) hI (by omega) f_M_1_ (by omega)
        obtain ⟨j218, lj218, uj218, ej218⟩ := iR_nat (a := 1) (b := 8388607) i217
        refine lv_topi (fun z219 ez219 => ?_)
        obtain rfl : z219 = nI j218 := ez219.trans ej218
        refine call_i (cVt (k := 1076) (av := [.int 1, .int (nI j31_1), .int (nI j218)]) (rest := [.int (nI j211)]) B hP hS (d_X7_hopOf l E ρ r Bt hBt M L X 1 (by omega) (by omega) (nI j31_1) j218 (by omega) (by omega) hI) lk_RX7_114 (hrecv (ci := 7) B hP (hk_lt (c := 7) (show hk 1076 = 7 by decide +kernel) (by decide)) (hcc7 _ _ (show hk 1076 = 7 by decide +kernel)) rfl) rfl rfl hl.1 (Nat.le_of_ble_eq_true rfl) ⟨Nat.le_of_ble_eq_true rfl, Nat.le_of_ble_eq_true rfl⟩ ⟨Nat.le_of_ble_eq_true rfl, Nat.le_of_ble_eq_true rfl⟩ dX7_meets_77) hS (fun r220 ρ221 H locs q222 hP hS => ?_)
        obtain ⟨rfl, hI, q222⟩ := q222
        obtain ⟨j223, lj223, uj223, ej223⟩ := iR_nat (a := 0) (b := 22) q222
        refine lv_topi (fun z224 ez224 => ?_)
        obtain rfl : z224 = nI j223 := ez224.trans ej223
        refine lv_icmp_ne (tgt := 85) hx hb dX7_meets_80 (by decide) (fun c225 => ?_) (fun c225 => ?_)
        · skip
          have n226 := mt (nI_eq (a := j211) (b := j223) (by omega) (by omega)).mpr (show ¬ (nI j211 = nI j223) from c225)
          refine lv_iinc (v := (nI (1 + j31_1))) (lv' := [(1, .int (nI (1 + j31_1))), (0, .ref (E.2.1 + 1076))]) hx hb dX7_meets_85 hl (k := 1) rfl (show nI j31_1 + nI 1 = _ from (nI_add _ _).trans (congrArg nI (by omega))) (by decide) rfl (fun ls hl => ?_)
          refine lv_goto (tgt := 31) hx hb dX7_meets_88 (by decide) ?_
          exact ih31 ls ρ _ _ (1 + j31_1) (lv_sub hl [1, 0] rfl) hP hS hI (by omega) (by omega) (by omega) (iR_w f_M_0_ (by decide) (by decide)) (iR_w f_M_1_ (by decide) (by decide))
        · skip
          have n227 := (nI_eq (a := j211) (b := j223) (by omega) (by omega)).mp (show (nI j211 = nI j223) from c225)
          refine lv_iload_n hx hb dX7_meets_83 rfl (lv_at hl 1 rfl) ?_
          exact ret_i B hr hlk hP hS dX7_meets_84 (hI)
  refine lv_aload_n hx hb dX7_meets_0 rfl (lv_at hl 0 rfl) ?_
  refine lv_iconst (v := 0) hx hb dX7_meets_1 (by decide) ?_
  refine put7 B hP hS (show hk 1076 = 7 by decide +kernel) 0 (by decide) mw_1027 rfl rfl rfl (fs7_0 E 1076 _ _) dX7_meets_2 (fun H locs hP hS => ?_)
  obtain ⟨ρ228, e229⟩ : ∃ z, z = up ρ 1076 0 0 := ⟨_, rfl⟩
  rw [← e229] at hP
  have hI : RI r Bt M L X ρ228 := by rw [e229]; exact RI_76 hI (by decide)
  refine lv_aload_n hx hb dX7_meets_5 rfl (lv_at hl 0 rfl) ?_
  refine lv_iconst (v := 0) hx hb dX7_meets_6 (by decide) ?_
  refine call_i (cVt (k := 1076) (av := [.int 0]) (rest := []) B hP hS (d_X7_isNet l E ρ228 r Bt hBt M L X 0 hI) lk_RX7_78 (hrecv (ci := 7) B hP (hk_lt (c := 7) (show hk 1076 = 7 by decide +kernel) (by decide)) (hcc7 _ _ (show hk 1076 = 7 by decide +kernel)) rfl) rfl rfl hl.1 (Nat.le_of_ble_eq_true rfl) ⟨Nat.le_of_ble_eq_true rfl, Nat.le_of_ble_eq_true rfl⟩ ⟨Nat.le_of_ble_eq_true rfl, Nat.le_of_ble_eq_true rfl⟩ dX7_meets_7) hS (fun r230 ρ231 H locs q232 hP hS => ?_)
  obtain ⟨rfl, hI, q232⟩ := q232
  rcases q232 with rfl | ⟨rfl, j233, hj233, ej233, i234⟩
  · skip
    refine lv_if_eq (tgt := 21) hx hb dX7_meets_10 (by decide) (fun _ => ?_) (fun c235 => absurd rfl c235)
    refine lv_iconst (v := (-1)) hx hb dX7_meets_21 (by decide) ?_
    exact ret_i B hr hlk hP hS dX7_meets_22 (hI)
  · skip
    have n236 : 0 = j233 := (nI_eq (by omega) (by omega)).mp (show nI 0 = nI j233 from ej233)
    have i237 : iR (M 0) 0 5 := by rw [n236]; exact i234
    refine lv_if_eq (tgt := 21) hx hb dX7_meets_10 (by decide) (fun c238 => absurd c238 (iR_ne (show iR 1 (1) (1) from ⟨by decide, by decide⟩) (show iR 0 (0) (0) from ⟨by decide, by decide⟩) (by decide))) (fun _ => ?_)
    refine lv_aload_n hx hb dX7_meets_13 rfl (lv_at hl 0 rfl) ?_
    refine lv_iconst (v := 1) hx hb dX7_meets_14 (by decide) ?_
    refine call_i (cVt (k := 1076) (av := [.int 1]) (rest := []) B hP hS (d_X7_isNet l E ρ228 r Bt hBt M L X 1 hI) lk_RX7_78 (hrecv (ci := 7) B hP (hk_lt (c := 7) (show hk 1076 = 7 by decide +kernel) (by decide)) (hcc7 _ _ (show hk 1076 = 7 by decide +kernel)) rfl) rfl rfl hl.1 (Nat.le_of_ble_eq_true rfl) ⟨Nat.le_of_ble_eq_true rfl, Nat.le_of_ble_eq_true rfl⟩ ⟨Nat.le_of_ble_eq_true rfl, Nat.le_of_ble_eq_true rfl⟩ dX7_meets_15) hS (fun r239 ρ240 H locs q241 hP hS => ?_)
    obtain ⟨rfl, hI, q241⟩ := q241
    rcases q241 with rfl | ⟨rfl, j242, hj242, ej242, i243⟩
    · skip
      refine lv_if_ne (tgt := 23) hx hb dX7_meets_18 (by decide) (fun c244 => absurd rfl c244) (fun _ => ?_)
      refine lv_iconst (v := (-1)) hx hb dX7_meets_21 (by decide) ?_
      exact ret_i B hr hlk hP hS dX7_meets_22 (hI)
    · skip
      have n245 : 1 = j242 := (nI_eq (by omega) (by omega)).mp (show nI 1 = nI j242 from ej242)
      have i246 : iR (M 1) 0 5 := by rw [n245]; exact i243
      refine lv_if_ne (tgt := 23) hx hb dX7_meets_18 (by decide) (fun _ => ?_) (fun c247 => absurd c247 (iR_ne (show iR 1 (1) (1) from ⟨by decide, by decide⟩) (show iR 0 (0) (0) from ⟨by decide, by decide⟩) (by decide)))
      refine lv_aload_n hx hb dX7_meets_23 rfl (lv_at hl 0 rfl) ?_
      refine get7 B hP (show hk 1076 = 7 by decide +kernel) 3 (by decide) mw_1030 rfl dX7_meets_24 ?_
      refine lv_bipush (v := 7) hx hb dX7_meets_27 (by decide) ?_
      refine aldn (n := 695) (j := 7) B hP (show hk 1078 = 8 by decide +kernel) (show hlen 1078 = 695 by decide +kernel) rfl (by omega) (by decide) dX7_meets_29 ?_
      have i248 : iR (ρ228 1078 7) (0) (1000000) := (iR_w (g_time hI) (by omega) (by omega))
      obtain ⟨j249, lj249, uj249, ej249⟩ := iR_nat (a := 0) (b := 1000000) i248
      refine lv_topi (fun z250 ez250 => ?_)
      obtain rfl : z250 = nI j249 := ez250.trans ej249
      refine lv_istore_n (lv' := [(1, .int (nI j249)), (0, .ref (E.2.1 + 1076))]) hx hb dX7_meets_30 rfl hl (by decide) rfl (fun ls hl => ?_)
      exact b31_0 ls ρ228 _ _ _ j249 (lv_sub hl [1, 0] rfl) hP hS hI (Nat.lt_succ_self _) (by omega) (by omega) (iR_w i237 (by decide) (by decide)) (iR_w i246 (by decide) (by decide))

set_option maxHeartbeats 4000000 in
set_option maxRecDepth 100000 in
theorem d_X7_used (l : Launch) (E : hE) (ρ r : Nat → Nat → Int32) (Bt : Nat) (hBt : Bt ≤ 1000000) (M : Nat → Int32) (L : Nat → Nat) (X : Nat × Nat → Prop) (a1 : Int32) (a2 : Int32) (a3 : Int32) (hI : RI r Bt M L X ρ) : Met l yX7_used (.code yX7_used cX7_used 6 (some .int) :: gw_all) (rmk 3 120) (cPre E ρ [.ref (E.2.1 + 1076), .int a1, .int a2, .int a3]) (cI E (fun v ρ1 => RI r Bt M L X ρ1)) 0 0 (hA E) := by
  refine ent (own := RX7) (by decide) rfl (Nat.le_of_ble_eq_true rfl) ?_
  intro p e s m below meth c ls B hr hlk hl hP hS
  have hx := B.1.1
  have hb := B.1.2.1
  have hown := B.1.2.2.2.1
  have hts := B.1.2.2.2.2
  have hl : lv_has ls 6 [(0, .ref (E.2.1 + 1076)), (1, .int a1), (2, .int a2), (3, .int a3)] := hl
  have b45_0 : ∀ (ls : Array Slot) (ρ : Nat → Nat → Int32) (H : Heap) (locs : List Loc) (d45 : Nat) (x45_4 : Int32) (j45_5 : Nat), lv_has ls 6 [(0, .ref (E.2.1 + 1076)), (1, .int a1), (2, .int a2), (3, .int a3), (4, .int x45_4), (5, .int (nI j45_5))] → WP E ρ H → va_S (hA E) s.heap H locs → RI r Bt M L X ρ → 513 - j45_5 < d45 → iR x45_4 (-2147483648) (2147483647) → 0 ≤ j45_5 → j45_5 ≤ 512 → iR (M (nn a1)) (0) (5) → iR a1 (0) (1) → iR a2 (0) (22) → iR a3 (1) (512) → 0 ≤ (nn a1) → (nn a1) ≤ 1 → W p l e (rmk 3 120) s m ([.ref (E.2.1 + 1076), .int a1, .int a2, .int a3] : List Value).toArray below meth c H locs 0 0 (MQ below (cI E (fun v ρ1 => RI r Bt M L X ρ1)) ([.ref (E.2.1 + 1076), .int a1, .int a2, .int a3] : List Value).toArray s 0 0 (hA E)) (F0 m 45 ls []) := by
    intro ls ρ H locs d45
    induction d45 generalizing ls ρ H locs with
    | zero => intro x45_4 j45_5 hl hP hS hI hd45 hx45_4 lj45_5 uj45_5 f_M__nn_a1__ fa1 fa2 fa3 tl_nn_a1_ tu_nn_a1_; exact absurd hd45 (Nat.not_lt_zero _)
    | succ d45 ih45 =>
      intro x45_4 j45_5 hl hP hS hI hd45 hx45_4 lj45_5 uj45_5 f_M__nn_a1__ fa1 fa2 fa3 tl_nn_a1_ tu_nn_a1_
      have b88_0 : ∀ (ls : Array Slot) (ρ : Nat → Nat → Int32) (H : Heap) (locs : List Loc) , lv_has ls 6 [(0, .ref (E.2.1 + 1076)), (1, .int a1), (2, .int a2), (3, .int a3), (5, .int (nI j45_5))] → WP E ρ H → va_S (hA E) s.heap H locs → RI r Bt M L X ρ → iR (M (nn a1)) (0) (5) → iR a1 (0) (1) → iR a2 (0) (22) → iR a3 (1) (512) → 0 ≤ (nn a1) → (nn a1) ≤ 1 → 0 ≤ (nn a2) → (nn a2) ≤ 22 → 1 ≤ (nn a3) → (nn a3) ≤ 512 → 0 ≤ j45_5 → j45_5 ≤ 511 → W p l e (rmk 3 120) s m ([.ref (E.2.1 + 1076), .int a1, .int a2, .int a3] : List Value).toArray below meth c H locs 0 0 (MQ below (cI E (fun v ρ1 => RI r Bt M L X ρ1)) ([.ref (E.2.1 + 1076), .int a1, .int a2, .int a3] : List Value).toArray s 0 0 (hA E)) (F0 m 88 ls [.int 0, .int x45_4]) := by
        intro ls ρ H locs  hl hP hS hI f_M__nn_a1__ fa1 fa2 fa3 tl_nn_a1_ tu_nn_a1_ tl_nn_a2_ tu_nn_a2_ tl_nn_a3_ tu_nn_a3_ tlj45_5 tuj45_5
        refine lv_iadd hx hb dX7_used_88 ?_
        refine lv_istore (lv' := [(4, .int (x45_4 + 0)), (0, .ref (E.2.1 + 1076)), (1, .int a1), (2, .int a2), (3, .int a3), (5, .int (nI j45_5))]) hx hb dX7_used_89 hl (by decide) rfl (fun ls hl => ?_)
        refine lv_iinc (v := (nI (1 + j45_5))) (lv' := [(5, .int (nI (1 + j45_5))), (4, .int (x45_4 + 0)), (0, .ref (E.2.1 + 1076)), (1, .int a1), (2, .int a2), (3, .int a3)]) hx hb dX7_used_91 hl (k := 5) rfl (show nI j45_5 + nI 1 = _ from (nI_add _ _).trans (congrArg nI (by omega))) (by decide) rfl (fun ls hl => ?_)
        refine lv_goto (tgt := 45) hx hb dX7_used_94 (by decide) ?_
        exact ih45 ls ρ _ _ ((x45_4 + 0) : Int32) (1 + j45_5) (lv_sub hl [2, 3, 4, 5, 1, 0] rfl) hP hS hI (by omega) (iR_w (iR_add (a' := -2147483648) (b' := 2147483647) hx45_4 (show iR 0 (0) (0) from ⟨by decide, by decide⟩) (by decide) (by decide) (by decide) (by decide)) (by decide) (by decide)) (by omega) (by omega) (iR_w f_M__nn_a1__ (by decide) (by decide)) (iR_w fa1 (by decide) (by decide)) (iR_w fa2 (by decide) (by decide)) (iR_w fa3 (by decide) (by decide)) (by omega) (by omega)
      have b88_1 : ∀ (ls : Array Slot) (ρ : Nat → Nat → Int32) (H : Heap) (locs : List Loc) , lv_has ls 6 [(0, .ref (E.2.1 + 1076)), (1, .int a1), (2, .int a2), (3, .int a3), (5, .int (nI j45_5))] → WP E ρ H → va_S (hA E) s.heap H locs → RI r Bt M L X ρ → iR (M (nn a1)) (0) (5) → iR a1 (0) (1) → iR a2 (0) (22) → iR a3 (1) (512) → 0 ≤ (nn a1) → (nn a1) ≤ 1 → 0 ≤ (nn a2) → (nn a2) ≤ 22 → 1 ≤ (nn a3) → (nn a3) ≤ 512 → 0 ≤ j45_5 → j45_5 ≤ 511 → W p l e (rmk 3 120) s m ([.ref (E.2.1 + 1076), .int a1, .int a2, .int a3] : List Value).toArray below meth c H locs 0 0 (MQ below (cI E (fun v ρ1 => RI r Bt M L X ρ1)) ([.ref (E.2.1 + 1076), .int a1, .int a2, .int a3] : List Value).toArray s 0 0 (hA E)) (F0 m 88 ls [.int 1, .int x45_4]) := by
        intro ls ρ H locs  hl hP hS hI f_M__nn_a1__ fa1 fa2 fa3 tl_nn_a1_ tu_nn_a1_ tl_nn_a2_ tu_nn_a2_ tl_nn_a3_ tu_nn_a3_ tlj45_5 tuj45_5
        refine lv_iadd hx hb dX7_used_88 ?_
        refine lv_istore (lv' := [(4, .int (x45_4 + 1)), (0, .ref (E.2.1 + 1076)), (1, .int a1), (2, .int a2), (3, .int a3), (5, .int (nI j45_5))]) hx hb dX7_used_89 hl (by decide) rfl (fun ls hl => ?_)
        refine lv_iinc (v := (nI (1 + j45_5))) (lv' := [(5, .int (nI (1 + j45_5))), (4, .int (x45_4 + 1)), (0, .ref (E.2.1 + 1076)), (1, .int a1), (2, .int a2), (3, .int a3)]) hx hb dX7_used_91 hl (k := 5) rfl (show nI j45_5 + nI 1 = _ from (nI_add _ _).trans (congrArg nI (by omega))) (by decide) rfl (fun ls hl => ?_)
        refine lv_goto (tgt := 45) hx hb dX7_used_94 (by decide) ?_
        exact ih45 ls ρ _ _ ((x45_4 + 1) : Int32) (1 + j45_5) (lv_sub hl [2, 3, 4, 5, 1, 0] rfl) hP hS hI (by omega) (iR_w (iR_any (x45_4 + 1)) (by decide) (by decide)) (by omega) (by omega) (iR_w f_M__nn_a1__ (by decide) (by decide)) (iR_w fa1 (by decide) (by decide)) (iR_w fa2 (by decide) (by decide)) (iR_w fa3 (by decide) (by decide)) (by omega) (by omega)
      refine lv_iload hx hb dX7_used_45 (lv_at hl 5 rfl) ?_
      refine lv_iload_n hx hb dX7_used_47 rfl (lv_at hl 3 rfl) ?_
      have := nn_r (x := a3) (a := 1) (b := 512) fa3 (by decide)
      refine lv_topi (fun z1429 ez1429 => ?_)
      obtain rfl : z1429 = nI (nn a3) := ez1429.trans (nn_eq a3)
      refine lv_icmp_ge (tgt := 97) hx hb dX7_used_48 (by decide) (fun c1430 => ?_) (fun c1430 => ?_)
      · skip
        have n1431 := mt (nx_lt (a := j45_5) (b := (nn a3)) (by omega) (by omega)).mpr (show ¬ (nI j45_5 < nI (nn a3)) from (Int32.not_lt.mpr c1430))
        refine lv_iload hx hb dX7_used_97 (lv_at hl 4 rfl) ?_
        exact ret_i B hr hlk hP hS dX7_used_99 (hI)
      · skip
        have n1432 := (nx_lt (a := j45_5) (b := (nn a3)) (by omega) (by omega)).mp (show (nI j45_5 < nI (nn a3)) from (Int32.not_le.mp c1430))
        refine lv_iload hx hb dX7_used_51 (lv_at hl 4 rfl) ?_
        refine lv_aload_n hx hb dX7_used_53 rfl (lv_at hl 0 rfl) ?_
        refine lv_iload_n hx hb dX7_used_54 rfl (lv_at hl 1 rfl) ?_
        have := nn_r (x := a1) (a := 0) (b := 1) fa1 (by decide)
        refine lv_topi (fun z1433 ez1433 => ?_)
        obtain rfl : z1433 = nI (nn a1) := ez1433.trans (nn_eq a1)
        refine lv_aload_n hx hb dX7_used_55 rfl (lv_at hl 0 rfl) ?_
        refine get7 B hP (show hk 1076 = 7 by decide +kernel) 3 (by decide) mw_1030 rfl dX7_used_56 ?_
        refine lv_bipush (v := 7) hx hb dX7_used_59 (by decide) ?_
        refine aldn (n := 695) (j := 7) B hP (show hk 1078 = 8 by decide +kernel) (show hlen 1078 = 695 by decide +kernel) rfl (by omega) (by decide) dX7_used_61 ?_
        have i1434 : iR (ρ 1078 7) (0) (1000000) := (iR_w (g_time hI) (by omega) (by omega))
        obtain ⟨j1435, lj1435, uj1435, ej1435⟩ := iR_nat (a := 0) (b := 1000000) i1434
        refine lv_topi (fun z1436 ez1436 => ?_)
        obtain rfl : z1436 = nI j1435 := ez1436.trans ej1435
        refine lv_iload hx hb dX7_used_62 (lv_at hl 5 rfl) ?_
        refine lv_iadd hx hb dX7_used_64 ?_
        refine lv_topi (fun z1437 ez1437 => ?_)
        obtain rfl : z1437 = (nI (j1435 + j45_5)) := ez1437.trans (by rw [show (nI j1435) = nI j1435 from rfl, show (nI j45_5) = nI j45_5 from rfl, nI_add] <;> exact congrArg nI (by omega))
        refine lv_aload_n hx hb dX7_used_65 rfl (lv_at hl 0 rfl) ?_
        refine get7 B hP (show hk 1076 = 7 by decide +kernel) 3 (by decide) mw_1030 rfl dX7_used_66 ?_
        refine lv_iload_n hx hb dX7_used_69 rfl (lv_at hl 1 rfl) ?_
        refine lv_topi (fun z1438 ez1438 => ?_)
        obtain rfl : z1438 = nI (nn a1) := ez1438.trans (nn_eq a1)
        refine call_i (cS (av := [.int (nI (nn a1))]) (rest := [.ref (E.2.1 + 1078), .int (nI (j1435 + j45_5)), .int (nI (nn a1)), .ref (E.2.1 + 1076), .int x45_4]) B hP hS (d_X7_netAt l E ρ r Bt hBt M L X (nn a1) (by omega) (by omega) hI) lk_RX7_75 rfl rfl hl.1 (Nat.le_of_ble_eq_true rfl) ⟨Nat.le_of_ble_eq_true rfl, Nat.le_of_ble_eq_true rfl⟩ ⟨Nat.le_of_ble_eq_true rfl, Nat.le_of_ble_eq_true rfl⟩ dX7_used_70) hS (fun r1439 ρ1440 H locs q1441 hP hS => ?_)
        obtain ⟨rfl, hI, q1441⟩ := q1441
        obtain rfl : r1439 = nI (42 + 326 * (nn a1)) := q1441.trans (congrArg nI (by omega))
        refine lv_iconst (v := 2) hx hb dX7_used_73 (by decide) ?_
        refine lv_iadd hx hb dX7_used_74 ?_
        refine lv_topi (fun z1442 ez1442 => ?_)
        obtain rfl : z1442 = (nI (44 + 326 * (nn a1))) := ez1442.trans (by rw [show (nI (42 + 326 * (nn a1))) = nI (42 + 326 * (nn a1)) from rfl, show 2 = nI 2 from rfl, nI_add] <;> exact congrArg nI (by omega))
        refine aldn (n := 695) (j := (44 + 326 * (nn a1))) B hP (show hk 1078 = 8 by decide +kernel) (show hlen 1078 = 695 by decide +kernel) rfl (by omega) (by decide) dX7_used_75 ?_
        have i1443 : iR (ρ 1078 (44 + 326 * (nn a1))) (1) (8388607) := g_map (n0 := (nn a1)) (j := (44 + 326 * (nn a1))) hI (by omega) f_M__nn_a1__ (by omega)
        obtain ⟨j1444, lj1444, uj1444, ej1444⟩ := iR_nat (a := 1) (b := 8388607) i1443
        refine lv_topi (fun z1445 ez1445 => ?_)
        obtain rfl : z1445 = nI j1444 := ez1445.trans ej1444
        refine call_i (cVt (k := 1076) (av := [.int (nI (nn a1)), .int (nI (j1435 + j45_5)), .int (nI j1444)]) (rest := [.int x45_4]) B hP hS (d_X7_hopOf l E ρ r Bt hBt M L X (nn a1) (by omega) (by omega) (nI (j1435 + j45_5)) j1444 (by omega) (by omega) hI) lk_RX7_114 (hrecv (ci := 7) B hP (hk_lt (c := 7) (show hk 1076 = 7 by decide +kernel) (by decide)) (hcc7 _ _ (show hk 1076 = 7 by decide +kernel)) rfl) rfl rfl hl.1 (Nat.le_of_ble_eq_true rfl) ⟨Nat.le_of_ble_eq_true rfl, Nat.le_of_ble_eq_true rfl⟩ ⟨Nat.le_of_ble_eq_true rfl, Nat.le_of_ble_eq_true rfl⟩ dX7_used_76) hS (fun r1446 ρ1447 H locs q1448 hP hS => ?_)
        obtain ⟨rfl, hI, q1448⟩ := q1448
        obtain ⟨j1449, lj1449, uj1449, ej1449⟩ := iR_nat (a := 0) (b := 22) q1448
        refine lv_topi (fun z1450 ez1450 => ?_)
        obtain rfl : z1450 = nI j1449 := ez1450.trans ej1449
        refine lv_iload_n hx hb dX7_used_79 rfl (lv_at hl 2 rfl) ?_
        have := nn_r (x := a2) (a := 0) (b := 22) fa2 (by decide)
        refine lv_topi (fun z1451 ez1451 => ?_)
        obtain rfl : z1451 = nI (nn a2) := ez1451.trans (nn_eq a2)
        refine lv_icmp_ne (tgt := 87) hx hb dX7_used_80 (by decide) (fun c1452 => ?_) (fun c1452 => ?_)
        · skip
          have n1453 := mt (nI_eq (a := j1449) (b := (nn a2)) (by omega) (by omega)).mpr (show ¬ (nI j1449 = nI (nn a2)) from c1452)
          refine lv_iconst (v := 0) hx hb dX7_used_87 (by decide) ?_
          exact b88_0 ls ρ _ _  (lv_sub hl [0, 1, 2, 3, 5] rfl) hP hS hI (iR_w f_M__nn_a1__ (by decide) (by decide)) (iR_w fa1 (by decide) (by decide)) (iR_w fa2 (by decide) (by decide)) (iR_w fa3 (by decide) (by decide)) (by omega) (by omega) (by omega) (by omega) (by omega) (by omega) (by omega) (by omega)
        · skip
          have n1454 := (nI_eq (a := j1449) (b := (nn a2)) (by omega) (by omega)).mp (show (nI j1449 = nI (nn a2)) from c1452)
          refine lv_iconst (v := 1) hx hb dX7_used_83 (by decide) ?_
          refine lv_goto (tgt := 88) hx hb dX7_used_84 (by decide) ?_
          exact b88_1 ls ρ _ _  (lv_sub hl [0, 1, 2, 3, 5] rfl) hP hS hI (iR_w f_M__nn_a1__ (by decide) (by decide)) (iR_w fa1 (by decide) (by decide)) (iR_w fa2 (by decide) (by decide)) (iR_w fa3 (by decide) (by decide)) (by omega) (by omega) (by omega) (by omega) (by omega) (by omega) (by omega) (by omega)
  refine lv_aload_n hx hb dX7_used_0 rfl (lv_at hl 0 rfl) ?_
  refine lv_iconst (v := 0) hx hb dX7_used_1 (by decide) ?_
  refine put7 B hP hS (show hk 1076 = 7 by decide +kernel) 0 (by decide) mw_1027 rfl rfl rfl (fs7_0 E 1076 _ _) dX7_used_2 (fun H locs hP hS => ?_)
  obtain ⟨ρ1455, e1456⟩ : ∃ z, z = up ρ 1076 0 0 := ⟨_, rfl⟩
  rw [← e1456] at hP
  have hI : RI r Bt M L X ρ1455 := by rw [e1456]; exact RI_76 hI (by decide)
  refine lv_aload_n hx hb dX7_used_5 rfl (lv_at hl 0 rfl) ?_
  refine lv_iload_n hx hb dX7_used_6 rfl (lv_at hl 1 rfl) ?_
  refine call_i (cVt (k := 1076) (av := [.int a1]) (rest := []) B hP hS (d_X7_isNet l E ρ1455 r Bt hBt M L X a1 hI) lk_RX7_78 (hrecv (ci := 7) B hP (hk_lt (c := 7) (show hk 1076 = 7 by decide +kernel) (by decide)) (hcc7 _ _ (show hk 1076 = 7 by decide +kernel)) rfl) rfl rfl hl.1 (Nat.le_of_ble_eq_true rfl) ⟨Nat.le_of_ble_eq_true rfl, Nat.le_of_ble_eq_true rfl⟩ ⟨Nat.le_of_ble_eq_true rfl, Nat.le_of_ble_eq_true rfl⟩ dX7_used_7) hS (fun r1457 ρ1458 H locs q1459 hP hS => ?_)
  obtain ⟨rfl, hI, q1459⟩ := q1459
  rcases q1459 with rfl | ⟨rfl, j1460, hj1460, ej1460, i1461⟩
  · skip
    refine lv_if_eq (tgt := 37) hx hb dX7_used_10 (by decide) (fun _ => ?_) (fun c1462 => absurd rfl c1462)
    refine lv_iconst (v := (-1)) hx hb dX7_used_37 (by decide) ?_
    exact ret_i B hr hlk hP hS dX7_used_38 (hI)
  · skip
    have n1463 : nn a1 = j1460 := nn_u ej1460 (by omega)
    have i1464 : iR (M (nn a1)) 0 5 := by rw [n1463]; exact i1461
    refine lv_if_eq (tgt := 37) hx hb dX7_used_10 (by decide) (fun c1465 => absurd c1465 (iR_ne (show iR 1 (1) (1) from ⟨by decide, by decide⟩) (show iR 0 (0) (0) from ⟨by decide, by decide⟩) (by decide))) (fun _ => ?_)
    refine lv_iload_n hx hb dX7_used_13 rfl (lv_at hl 2 rfl) ?_
    refine lv_i2l hx hb dX7_used_14 rfl ?_
    refine lv_lconst (v := 0) hx hb dX7_used_15 (by decide) ?_
    refine lv_ldc2 (v := 22) hx hb hown (hts _ mw_1186) dX7_used_16 ?_
    refine call_i (cS (av := [.long a2.toInt64, .long 0, .long 22]) (rest := []) B hP hS (c_in l E ρ1455 a2.toInt64 0 22 0 22 (by decide) (by decide)) lk_RX7_71 rfl rfl hl.1 (Nat.le_of_ble_eq_true rfl) ⟨Nat.le_of_ble_eq_true rfl, Nat.le_of_ble_eq_true rfl⟩ ⟨Nat.le_of_ble_eq_true rfl, Nat.le_of_ble_eq_true rfl⟩ dX7_used_19) hS (fun r1466 ρ1467 H locs q1468 hP hS => ?_)
    obtain ⟨rfl, q1468⟩ := q1468
    rcases q1468 with ⟨rfl, q1468⟩ | ⟨rfl, q1468⟩
    · skip
      have i1469 : iR a2 0 22 := (lR_i _ _ _).mp q1468
      refine lv_if_eq (tgt := 37) hx hb dX7_used_22 (by decide) (fun c1470 => absurd c1470 (iR_ne (show iR 1 (1) (1) from ⟨by decide, by decide⟩) (show iR 0 (0) (0) from ⟨by decide, by decide⟩) (by decide))) (fun _ => ?_)
      refine lv_iload_n hx hb dX7_used_25 rfl (lv_at hl 3 rfl) ?_
      refine lv_i2l hx hb dX7_used_26 rfl ?_
      refine lv_lconst (v := 1) hx hb dX7_used_27 (by decide) ?_
      refine lv_ldc2 (v := 512) hx hb hown (hts _ mw_1352) dX7_used_28 ?_
      refine call_i (cS (av := [.long a3.toInt64, .long 1, .long 512]) (rest := []) B hP hS (c_in l E ρ1455 a3.toInt64 1 512 1 512 (by decide) (by decide)) lk_RX7_71 rfl rfl hl.1 (Nat.le_of_ble_eq_true rfl) ⟨Nat.le_of_ble_eq_true rfl, Nat.le_of_ble_eq_true rfl⟩ ⟨Nat.le_of_ble_eq_true rfl, Nat.le_of_ble_eq_true rfl⟩ dX7_used_31) hS (fun r1471 ρ1472 H locs q1473 hP hS => ?_)
      obtain ⟨rfl, q1473⟩ := q1473
      rcases q1473 with ⟨rfl, q1473⟩ | ⟨rfl, q1473⟩
      · skip
        have i1474 : iR a3 1 512 := (lR_i _ _ _).mp q1473
        refine lv_if_ne (tgt := 39) hx hb dX7_used_34 (by decide) (fun _ => ?_) (fun c1475 => absurd c1475 (iR_ne (show iR 1 (1) (1) from ⟨by decide, by decide⟩) (show iR 0 (0) (0) from ⟨by decide, by decide⟩) (by decide)))
        refine lv_iconst (v := 0) hx hb dX7_used_39 (by decide) ?_
        refine lv_istore (lv' := [(4, .int 0), (0, .ref (E.2.1 + 1076)), (1, .int a1), (2, .int a2), (3, .int a3)]) hx hb dX7_used_40 hl (by decide) rfl (fun ls hl => ?_)
        refine lv_iconst (v := 0) hx hb dX7_used_42 (by decide) ?_
        refine lv_istore (lv' := [(5, .int 0), (4, .int 0), (0, .ref (E.2.1 + 1076)), (1, .int a1), (2, .int a2), (3, .int a3)]) hx hb dX7_used_43 hl (by decide) rfl (fun ls hl => ?_)
        exact b45_0 ls ρ1455 _ _ _ (0 : Int32) 0 (lv_sub hl [2, 3, 4, 5, 1, 0] rfl) hP hS hI (Nat.lt_succ_self _) (iR_w (show iR 0 (0) (0) from ⟨by decide, by decide⟩) (by decide) (by decide)) (by omega) (by omega) (iR_w i1464 (by decide) (by decide)) (iR_w (show iR a1 0 1 from by rw [ej1460]; exact nI_iR (by omega) (by omega) (by omega)) (by decide) (by decide)) (iR_w i1469 (by decide) (by decide)) (iR_w i1474 (by decide) (by decide)) (by omega) (by omega)
      · skip
        refine lv_if_ne (tgt := 39) hx hb dX7_used_34 (by decide) (fun c1476 => absurd rfl c1476) (fun _ => ?_)
        refine lv_iconst (v := (-1)) hx hb dX7_used_37 (by decide) ?_
        exact ret_i B hr hlk hP hS dX7_used_38 (hI)
    · skip
      refine lv_if_eq (tgt := 37) hx hb dX7_used_22 (by decide) (fun _ => ?_) (fun c1477 => absurd rfl c1477)
      refine lv_iconst (v := (-1)) hx hb dX7_used_37 (by decide) ?_
      exact ret_i B hr hlk hP hS dX7_used_38 (hI)

theorem lk_RX7_164 : LkV RX7 164 RX7 yX7_badOf cX7_badOf 7 (some .int) 2 := ⟨⟨mw_1243, mw_1245, mw_20, mw_59, mw_1246⟩, by decide +kernel⟩
set_option maxHeartbeats 4000000 in
set_option maxRecDepth 100000 in
theorem d_X7_bad (l : Launch) (E : hE) (ρ r : Nat → Nat → Int32) (Bt : Nat) (hBt : Bt ≤ 1000000) (M : Nat → Int32) (L : Nat → Nat) (X : Nat × Nat → Prop) (a1 : Int32) (a2 : Int32) (hI : RI r Bt M L X ρ) : Met l yX7_bad (.code yX7_bad cX7_bad 3 (some .int) :: gw_all) (rmk 3 120) (cPre E ρ [.ref (E.2.1 + 1076), .int a1, .int a2]) (cI E (fun v ρ1 => RI r Bt M L X ρ1)) 0 0 (hA E) := by
  refine ent (own := RX7) (by decide) rfl (Nat.le_of_ble_eq_true rfl) ?_
  intro p e s m below meth c ls B hr hlk hl hP hS
  have hx := B.1.1
  have hb := B.1.2.1
  have hown := B.1.2.2.2.1
  have hts := B.1.2.2.2.2
  have hl : lv_has ls 3 [(0, .ref (E.2.1 + 1076)), (1, .int a1), (2, .int a2)] := hl
  refine lv_aload_n hx hb dX7_bad_0 rfl (lv_at hl 0 rfl) ?_
  refine lv_iconst (v := 0) hx hb dX7_bad_1 (by decide) ?_
  refine put7 B hP hS (show hk 1076 = 7 by decide +kernel) 0 (by decide) mw_1027 rfl rfl rfl (fs7_0 E 1076 _ _) dX7_bad_2 (fun H locs hP hS => ?_)
  obtain ⟨ρ23, e24⟩ : ∃ z, z = up ρ 1076 0 0 := ⟨_, rfl⟩
  rw [← e24] at hP
  have hI : RI r Bt M L X ρ23 := by rw [e24]; exact RI_76 hI (by decide)
  refine lv_aload_n hx hb dX7_bad_5 rfl (lv_at hl 0 rfl) ?_
  refine lv_iload_n hx hb dX7_bad_6 rfl (lv_at hl 1 rfl) ?_
  refine call_i (cVt (k := 1076) (av := [.int a1]) (rest := []) B hP hS (d_X7_isNet l E ρ23 r Bt hBt M L X a1 hI) lk_RX7_78 (hrecv (ci := 7) B hP (hk_lt (c := 7) (show hk 1076 = 7 by decide +kernel) (by decide)) (hcc7 _ _ (show hk 1076 = 7 by decide +kernel)) rfl) rfl rfl hl.1 (Nat.le_of_ble_eq_true rfl) ⟨Nat.le_of_ble_eq_true rfl, Nat.le_of_ble_eq_true rfl⟩ ⟨Nat.le_of_ble_eq_true rfl, Nat.le_of_ble_eq_true rfl⟩ dX7_bad_7) hS (fun r25 ρ26 H locs q27 hP hS => ?_)
  obtain ⟨rfl, hI, q27⟩ := q27
  rcases q27 with rfl | ⟨rfl, j28, hj28, ej28, i29⟩
  · skip
    refine lv_if_eq (tgt := 34) hx hb dX7_bad_10 (by decide) (fun _ => ?_) (fun c30 => absurd rfl c30)
    refine lv_iconst (v := (-1)) hx hb dX7_bad_34 (by decide) ?_
    exact ret_i B hr hlk hP hS dX7_bad_35 (hI)
  · skip
    have n31 : nn a1 = j28 := nn_u ej28 (by omega)
    have i32 : iR (M (nn a1)) 0 5 := by rw [n31]; exact i29
    refine lv_if_eq (tgt := 34) hx hb dX7_bad_10 (by decide) (fun c33 => absurd c33 (iR_ne (show iR 1 (1) (1) from ⟨by decide, by decide⟩) (show iR 0 (0) (0) from ⟨by decide, by decide⟩) (by decide))) (fun _ => ?_)
    refine lv_iload_n hx hb dX7_bad_13 rfl (lv_at hl 2 rfl) ?_
    refine lv_i2l hx hb dX7_bad_14 rfl ?_
    refine lv_lconst (v := 1) hx hb dX7_bad_15 (by decide) ?_
    refine lv_ldc2 (v := 99) hx hb hown (hts _ mw_1242) dX7_bad_16 ?_
    refine call_i (cS (av := [.long a2.toInt64, .long 1, .long 99]) (rest := []) B hP hS (c_in l E ρ23 a2.toInt64 1 99 1 99 (by decide) (by decide)) lk_RX7_71 rfl rfl hl.1 (Nat.le_of_ble_eq_true rfl) ⟨Nat.le_of_ble_eq_true rfl, Nat.le_of_ble_eq_true rfl⟩ ⟨Nat.le_of_ble_eq_true rfl, Nat.le_of_ble_eq_true rfl⟩ dX7_bad_19) hS (fun r34 ρ35 H locs q36 hP hS => ?_)
    obtain ⟨rfl, q36⟩ := q36
    rcases q36 with ⟨rfl, q36⟩ | ⟨rfl, q36⟩
    · skip
      have i37 : iR a2 1 99 := (lR_i _ _ _).mp q36
      refine lv_if_eq (tgt := 34) hx hb dX7_bad_22 (by decide) (fun c38 => absurd c38 (iR_ne (show iR 1 (1) (1) from ⟨by decide, by decide⟩) (show iR 0 (0) (0) from ⟨by decide, by decide⟩) (by decide))) (fun _ => ?_)
      refine lv_aload_n hx hb dX7_bad_25 rfl (lv_at hl 0 rfl) ?_
      refine lv_iload_n hx hb dX7_bad_26 rfl (lv_at hl 1 rfl) ?_
      refine lv_topi (fun z39 ez39 => ?_)
      obtain rfl : z39 = nI (nn a1) := ez39.trans (nn_eq a1)
      refine lv_iload_n hx hb dX7_bad_27 rfl (lv_at hl 2 rfl) ?_
      have := nn_r (x := a2) (a := 1) (b := 99) i37 (by decide)
      refine lv_topi (fun z40 ez40 => ?_)
      obtain rfl : z40 = nI (nn a2) := ez40.trans (nn_eq a2)
      refine call_i (cVt (k := 1076) (av := [.int (nI (nn a1)), .int (nI (nn a2))]) (rest := []) B hP hS (d_X7_badOf l E ρ23 r Bt hBt M L X (nn a1) (by omega) (by omega) (nI (nn a2)) hI) lk_RX7_164 (hrecv (ci := 7) B hP (hk_lt (c := 7) (show hk 1076 = 7 by decide +kernel) (by decide)) (hcc7 _ _ (show hk 1076 = 7 by decide +kernel)) rfl) rfl rfl hl.1 (Nat.le_of_ble_eq_true rfl) ⟨Nat.le_of_ble_eq_true rfl, Nat.le_of_ble_eq_true rfl⟩ ⟨Nat.le_of_ble_eq_true rfl, Nat.le_of_ble_eq_true rfl⟩ dX7_bad_28) hS (fun r41 ρ42 H locs q43 hP hS => ?_)
      obtain ⟨rfl, hI⟩ := q43
      refine lv_goto (tgt := 35) hx hb dX7_bad_31 (by decide) ?_
      exact ret_i B hr hlk hP hS dX7_bad_35 (hI)
    · skip
      refine lv_if_eq (tgt := 34) hx hb dX7_bad_22 (by decide) (fun _ => ?_) (fun c44 => absurd rfl c44)
      refine lv_iconst (v := (-1)) hx hb dX7_bad_34 (by decide) ?_
      exact ret_i B hr hlk hP hS dX7_bad_35 (hI)

set_option maxHeartbeats 4000000 in
set_option maxRecDepth 100000 in
theorem d_X7_sent (l : Launch) (E : hE) (ρ r : Nat → Nat → Int32) (Bt : Nat) (hBt : Bt ≤ 1000000) (M : Nat → Int32) (L : Nat → Nat) (X : Nat × Nat → Prop) (a1 : Int32) (a2 : Int32) (a3 : Int32) (hI : RI r Bt M L X ρ) : Met l yX7_sent (.code yX7_sent cX7_sent 4 (some .int) :: gw_all) (rmk 3 120) (cPre E ρ [.ref (E.2.1 + 1076), .int a1, .int a2, .int a3]) (cI E (fun v ρ1 => RI r Bt M L X ρ1)) 0 0 (hA E) := by
  refine ent (own := RX7) (by decide) rfl (Nat.le_of_ble_eq_true rfl) ?_
  intro p e s m below meth c ls B hr hlk hl hP hS
  have hx := B.1.1
  have hb := B.1.2.1
  have hown := B.1.2.2.2.1
  have hts := B.1.2.2.2.2
  have hl : lv_has ls 4 [(0, .ref (E.2.1 + 1076)), (1, .int a1), (2, .int a2), (3, .int a3)] := hl
  have b56_0 : ∀ (ls : Array Slot) (ρ : Nat → Nat → Int32) (H : Heap) (locs : List Loc) (j56_s2 : Nat), lv_has ls 4 [(2, .int a2)] → WP E ρ H → va_S (hA E) s.heap H locs → RI r Bt M L X ρ → 16 ≤ j56_s2 → j56_s2 ≤ 39 → iR (M (nn a1)) (0) (5) → iR a1 (0) (1) → iR a2 (0) (22) → iR a3 (0) (1) → 0 ≤ (nn a1) → (nn a1) ≤ 1 → 0 ≤ (nn a3) → (nn a3) ≤ 1 → W p l e (rmk 3 120) s m ([.ref (E.2.1 + 1076), .int a1, .int a2, .int a3] : List Value).toArray below meth c H locs 0 0 (MQ below (cI E (fun v ρ1 => RI r Bt M L X ρ1)) ([.ref (E.2.1 + 1076), .int a1, .int a2, .int a3] : List Value).toArray s 0 0 (hA E)) (F0 m 56 ls [.int (nI j56_s2), .int (nI (42 + 326 * (nn a1))), .ref (E.2.1 + 1078)]) := by
    intro ls ρ H locs j56_s2 hl hP hS hI lj56_s2 uj56_s2 f_M__nn_a1__ fa1 fa2 fa3 tl_nn_a1_ tu_nn_a1_ tl_nn_a3_ tu_nn_a3_
    refine lv_iadd hx hb dX7_sent_56 ?_
    refine lv_topi (fun z35 ez35 => ?_)
    obtain rfl : z35 = (nI (42 + 326 * (nn a1) + j56_s2)) := ez35.trans (by rw [show (nI (42 + 326 * (nn a1))) = nI (42 + 326 * (nn a1)) from rfl, show (nI j56_s2) = nI j56_s2 from rfl, nI_add] <;> exact congrArg nI (by omega))
    refine lv_iload_n hx hb dX7_sent_57 rfl (lv_at hl 0 rfl) ?_
    have := nn_r (x := a2) (a := 0) (b := 22) fa2 (by decide)
    refine lv_topi (fun z36 ez36 => ?_)
    obtain rfl : z36 = nI (nn a2) := ez36.trans (nn_eq a2)
    refine lv_iadd hx hb dX7_sent_58 ?_
    refine lv_topi (fun z37 ez37 => ?_)
    obtain rfl : z37 = (nI (42 + 326 * (nn a1) + (nn a2) + j56_s2)) := ez37.trans (by rw [show (nI (42 + 326 * (nn a1) + j56_s2)) = nI (42 + 326 * (nn a1) + j56_s2) from rfl, show (nI (nn a2)) = nI (nn a2) from rfl, nI_add] <;> exact congrArg nI (by omega))
    refine aldn (n := 695) (j := (42 + 326 * (nn a1) + (nn a2) + j56_s2)) B hP (show hk 1078 = 8 by decide +kernel) (show hlen 1078 = 695 by decide +kernel) rfl (by omega) (by decide) dX7_sent_59 ?_
    exact ret_i B hr hlk hP hS dX7_sent_60 (hI)
  refine lv_aload_n hx hb dX7_sent_0 rfl (lv_at hl 0 rfl) ?_
  refine lv_iconst (v := 0) hx hb dX7_sent_1 (by decide) ?_
  refine put7 B hP hS (show hk 1076 = 7 by decide +kernel) 0 (by decide) mw_1027 rfl rfl rfl (fs7_0 E 1076 _ _) dX7_sent_2 (fun H locs hP hS => ?_)
  obtain ⟨ρ38, e39⟩ : ∃ z, z = up ρ 1076 0 0 := ⟨_, rfl⟩
  rw [← e39] at hP
  have hI : RI r Bt M L X ρ38 := by rw [e39]; exact RI_76 hI (by decide)
  refine lv_aload_n hx hb dX7_sent_5 rfl (lv_at hl 0 rfl) ?_
  refine lv_iload_n hx hb dX7_sent_6 rfl (lv_at hl 1 rfl) ?_
  refine call_i (cVt (k := 1076) (av := [.int a1]) (rest := []) B hP hS (d_X7_isNet l E ρ38 r Bt hBt M L X a1 hI) lk_RX7_78 (hrecv (ci := 7) B hP (hk_lt (c := 7) (show hk 1076 = 7 by decide +kernel) (by decide)) (hcc7 _ _ (show hk 1076 = 7 by decide +kernel)) rfl) rfl rfl hl.1 (Nat.le_of_ble_eq_true rfl) ⟨Nat.le_of_ble_eq_true rfl, Nat.le_of_ble_eq_true rfl⟩ ⟨Nat.le_of_ble_eq_true rfl, Nat.le_of_ble_eq_true rfl⟩ dX7_sent_7) hS (fun r40 ρ41 H locs q42 hP hS => ?_)
  obtain ⟨rfl, hI, q42⟩ := q42
  rcases q42 with rfl | ⟨rfl, j43, hj43, ej43, i44⟩
  · skip
    refine lv_if_eq (tgt := 35) hx hb dX7_sent_10 (by decide) (fun _ => ?_) (fun c45 => absurd rfl c45)
    refine lv_iconst (v := (-1)) hx hb dX7_sent_35 (by decide) ?_
    exact ret_i B hr hlk hP hS dX7_sent_36 (hI)
  · skip
    have n46 : nn a1 = j43 := nn_u ej43 (by omega)
    have i47 : iR (M (nn a1)) 0 5 := by rw [n46]; exact i44
    refine lv_if_eq (tgt := 35) hx hb dX7_sent_10 (by decide) (fun c48 => absurd c48 (iR_ne (show iR 1 (1) (1) from ⟨by decide, by decide⟩) (show iR 0 (0) (0) from ⟨by decide, by decide⟩) (by decide))) (fun _ => ?_)
    refine lv_iload_n hx hb dX7_sent_13 rfl (lv_at hl 2 rfl) ?_
    refine lv_i2l hx hb dX7_sent_14 rfl ?_
    refine lv_lconst (v := 0) hx hb dX7_sent_15 (by decide) ?_
    refine lv_ldc2 (v := 22) hx hb hown (hts _ mw_1186) dX7_sent_16 ?_
    refine call_i (cS (av := [.long a2.toInt64, .long 0, .long 22]) (rest := []) B hP hS (c_in l E ρ38 a2.toInt64 0 22 0 22 (by decide) (by decide)) lk_RX7_71 rfl rfl hl.1 (Nat.le_of_ble_eq_true rfl) ⟨Nat.le_of_ble_eq_true rfl, Nat.le_of_ble_eq_true rfl⟩ ⟨Nat.le_of_ble_eq_true rfl, Nat.le_of_ble_eq_true rfl⟩ dX7_sent_19) hS (fun r49 ρ50 H locs q51 hP hS => ?_)
    obtain ⟨rfl, q51⟩ := q51
    rcases q51 with ⟨rfl, q51⟩ | ⟨rfl, q51⟩
    · skip
      have i52 : iR a2 0 22 := (lR_i _ _ _).mp q51
      refine lv_if_eq (tgt := 35) hx hb dX7_sent_22 (by decide) (fun c53 => absurd c53 (iR_ne (show iR 1 (1) (1) from ⟨by decide, by decide⟩) (show iR 0 (0) (0) from ⟨by decide, by decide⟩) (by decide))) (fun _ => ?_)
      refine lv_iload_n hx hb dX7_sent_25 rfl (lv_at hl 3 rfl) ?_
      refine lv_i2l hx hb dX7_sent_26 rfl ?_
      refine lv_lconst (v := 0) hx hb dX7_sent_27 (by decide) ?_
      refine lv_lconst (v := 1) hx hb dX7_sent_28 (by decide) ?_
      refine call_i (cS (av := [.long a3.toInt64, .long 0, .long 1]) (rest := []) B hP hS (c_in l E ρ38 a3.toInt64 0 1 0 1 (by decide) (by decide)) lk_RX7_71 rfl rfl hl.1 (Nat.le_of_ble_eq_true rfl) ⟨Nat.le_of_ble_eq_true rfl, Nat.le_of_ble_eq_true rfl⟩ ⟨Nat.le_of_ble_eq_true rfl, Nat.le_of_ble_eq_true rfl⟩ dX7_sent_29) hS (fun r54 ρ55 H locs q56 hP hS => ?_)
      obtain ⟨rfl, q56⟩ := q56
      rcases q56 with ⟨rfl, q56⟩ | ⟨rfl, q56⟩
      · skip
        have i57 : iR a3 0 1 := (lR_i _ _ _).mp q56
        refine lv_if_ne (tgt := 37) hx hb dX7_sent_32 (by decide) (fun _ => ?_) (fun c58 => absurd c58 (iR_ne (show iR 1 (1) (1) from ⟨by decide, by decide⟩) (show iR 0 (0) (0) from ⟨by decide, by decide⟩) (by decide)))
        refine lv_aload_n hx hb dX7_sent_37 rfl (lv_at hl 0 rfl) ?_
        refine get7 B hP (show hk 1076 = 7 by decide +kernel) 3 (by decide) mw_1030 rfl dX7_sent_38 ?_
        refine lv_iload_n hx hb dX7_sent_41 rfl (lv_at hl 1 rfl) ?_
        refine lv_topi (fun z59 ez59 => ?_)
        obtain rfl : z59 = nI (nn a1) := ez59.trans (nn_eq a1)
        refine call_i (cS (av := [.int (nI (nn a1))]) (rest := [.ref (E.2.1 + 1078)]) B hP hS (d_X7_netAt l E ρ38 r Bt hBt M L X (nn a1) (by omega) (by omega) hI) lk_RX7_75 rfl rfl hl.1 (Nat.le_of_ble_eq_true rfl) ⟨Nat.le_of_ble_eq_true rfl, Nat.le_of_ble_eq_true rfl⟩ ⟨Nat.le_of_ble_eq_true rfl, Nat.le_of_ble_eq_true rfl⟩ dX7_sent_42) hS (fun r60 ρ61 H locs q62 hP hS => ?_)
        obtain ⟨rfl, hI, q62⟩ := q62
        obtain rfl : r60 = nI (42 + 326 * (nn a1)) := q62.trans (congrArg nI (by omega))
        refine lv_iload_n hx hb dX7_sent_45 rfl (lv_at hl 3 rfl) ?_
        have := nn_r (x := a3) (a := 0) (b := 1) i57 (by decide)
        refine lv_topi (fun z63 ez63 => ?_)
        obtain rfl : z63 = nI (nn a3) := ez63.trans (nn_eq a3)
        refine lv_if_ne (tgt := 54) hx hb dX7_sent_46 (by decide) (fun c64 => ?_) (fun c64 => ?_)
        · skip
          have n65 := mt (nI_eq (a := (nn a3)) (b := 0) (by omega) (by omega)).mpr (show ¬ (nI (nn a3) = nI 0) from c64)
          refine lv_bipush (v := 39) hx hb dX7_sent_54 (by decide) ?_
          exact b56_0 ls ρ38 _ _ 39 (lv_sub hl [2] rfl) hP hS hI (by omega) (by omega) (iR_w i47 (by decide) (by decide)) (iR_w (show iR a1 0 1 from by rw [ej43]; exact nI_iR (by omega) (by omega) (by omega)) (by decide) (by decide)) (iR_w i52 (by decide) (by decide)) (iR_w i57 (by decide) (by decide)) (by omega) (by omega) (by omega) (by omega)
        · skip
          have n66 := (nI_eq (a := (nn a3)) (b := 0) (by omega) (by omega)).mp (show (nI (nn a3) = nI 0) from c64)
          refine lv_bipush (v := 16) hx hb dX7_sent_49 (by decide) ?_
          refine lv_goto (tgt := 56) hx hb dX7_sent_51 (by decide) ?_
          exact b56_0 ls ρ38 _ _ 16 (lv_sub hl [2] rfl) hP hS hI (by omega) (by omega) (iR_w i47 (by decide) (by decide)) (iR_w (show iR a1 0 1 from by rw [ej43]; exact nI_iR (by omega) (by omega) (by omega)) (by decide) (by decide)) (iR_w i52 (by decide) (by decide)) (iR_w i57 (by decide) (by decide)) (by omega) (by omega) (by omega) (by omega)
      · skip
        refine lv_if_ne (tgt := 37) hx hb dX7_sent_32 (by decide) (fun c67 => absurd rfl c67) (fun _ => ?_)
        refine lv_iconst (v := (-1)) hx hb dX7_sent_35 (by decide) ?_
        exact ret_i B hr hlk hP hS dX7_sent_36 (hI)
    · skip
      refine lv_if_eq (tgt := 35) hx hb dX7_sent_22 (by decide) (fun _ => ?_) (fun c68 => absurd rfl c68)
      refine lv_iconst (v := (-1)) hx hb dX7_sent_35 (by decide) ?_
      exact ret_i B hr hlk hP hS dX7_sent_36 (hI)

set_option maxHeartbeats 4000000 in
set_option maxRecDepth 100000 in
theorem d_X7_link (l : Launch) (E : hE) (ρ r : Nat → Nat → Int32) (Bt : Nat) (hBt : Bt ≤ 1000000) (M : Nat → Int32) (L : Nat → Nat) (X : Nat × Nat → Prop) (a1 : Int32) (a2 : Int32) (a3 : Int32) (hI : RI r Bt M L X ρ) : Met l yX7_link (.code yX7_link cX7_link 5 (some .int) :: gw_all) (rmk 4 160) (cPre E ρ [.ref (E.2.1 + 1076), .int a1, .int a2, .int a3]) (cI E (fun v ρ1 => RI r Bt M L X ρ1)) 0 0 (hA E) := by
  refine ent (own := RX7) (by decide) rfl (Nat.le_of_ble_eq_true rfl) ?_
  intro p e s m below meth c ls B hr hlk hl hP hS
  have hx := B.1.1
  have hb := B.1.2.1
  have hown := B.1.2.2.2.1
  have hts := B.1.2.2.2.2
  have hl : lv_has ls 5 [(0, .ref (E.2.1 + 1076)), (1, .int a1), (2, .int a2), (3, .int a3)] := hl
  refine lv_aload_n hx hb dX7_link_0 rfl (lv_at hl 0 rfl) ?_
  refine lv_iconst (v := 0) hx hb dX7_link_1 (by decide) ?_
  refine put7 B hP hS (show hk 1076 = 7 by decide +kernel) 0 (by decide) mw_1027 rfl rfl rfl (fs7_0 E 1076 _ _) dX7_link_2 (fun H locs hP hS => ?_)
  obtain ⟨ρ42, e43⟩ : ∃ z, z = up ρ 1076 0 0 := ⟨_, rfl⟩
  rw [← e43] at hP
  have hI : RI r Bt M L X ρ42 := by rw [e43]; exact RI_76 hI (by decide)
  refine lv_aload_n hx hb dX7_link_5 rfl (lv_at hl 0 rfl) ?_
  refine lv_iload_n hx hb dX7_link_6 rfl (lv_at hl 1 rfl) ?_
  refine lv_iload_n hx hb dX7_link_7 rfl (lv_at hl 2 rfl) ?_
  refine call_i (cVt (k := 1076) (av := [.int a1, .int a2]) (rest := []) B hP hS (d_X7_isLink l E ρ42 r Bt hBt M L X a1 a2 hI) lk_RX7_106 (hrecv (ci := 7) B hP (hk_lt (c := 7) (show hk 1076 = 7 by decide +kernel) (by decide)) (hcc7 _ _ (show hk 1076 = 7 by decide +kernel)) rfl) rfl rfl hl.1 (Nat.le_of_ble_eq_true rfl) ⟨Nat.le_of_ble_eq_true rfl, Nat.le_of_ble_eq_true rfl⟩ ⟨Nat.le_of_ble_eq_true rfl, Nat.le_of_ble_eq_true rfl⟩ dX7_link_8) hS (fun r44 ρ45 H locs q46 hP hS => ?_)
  obtain ⟨rfl, hI, q46⟩ := q46
  rcases q46 with rfl | ⟨rfl, j47, hj47, ej47, i48, j49, hj49, ej49⟩
  · skip
    refine lv_if_ne (tgt := 16) hx hb dX7_link_11 (by decide) (fun c50 => absurd rfl c50) (fun _ => ?_)
    refine lv_iconst (v := (-1)) hx hb dX7_link_14 (by decide) ?_
    exact ret_i B hr hlk hP hS dX7_link_15 (hI)
  · skip
    have := RI_Lb hI hj47
    have n51 : nn a1 = j47 := nn_u ej47 (by omega)
    have i52 : iR (M (nn a1)) 0 5 := by rw [n51]; exact i48
    have : j49 < L (nn a1) := by rw [n51]; exact hj49
    have := RI_Lb (n := (nn a1)) hI (by omega)
    have n53 : nn a2 = j49 := nn_u ej49 (by omega)
    refine lv_if_ne (tgt := 16) hx hb dX7_link_11 (by decide) (fun _ => ?_) (fun c54 => absurd c54 (iR_ne (show iR 1 (1) (1) from ⟨by decide, by decide⟩) (show iR 0 (0) (0) from ⟨by decide, by decide⟩) (by decide)))
    refine lv_iload_n hx hb dX7_link_16 rfl (lv_at hl 1 rfl) ?_
    refine lv_topi (fun z55 ez55 => ?_)
    obtain rfl : z55 = nI (nn a1) := ez55.trans (nn_eq a1)
    refine lv_iload_n hx hb dX7_link_17 rfl (lv_at hl 2 rfl) ?_
    refine lv_topi (fun z56 ez56 => ?_)
    obtain rfl : z56 = nI (nn a2) := ez56.trans (nn_eq a2)
    refine call_i (cS (av := [.int (nI (nn a1)), .int (nI (nn a2))]) (rest := []) B hP hS (d_X7_linkAt l E ρ42 r Bt hBt M L X (nn a1) (by omega) (by omega) (nn a2) (by omega) (by omega) hI) lk_RX7_82 rfl rfl hl.1 (Nat.le_of_ble_eq_true rfl) ⟨Nat.le_of_ble_eq_true rfl, Nat.le_of_ble_eq_true rfl⟩ ⟨Nat.le_of_ble_eq_true rfl, Nat.le_of_ble_eq_true rfl⟩ dX7_link_18) hS (fun r57 ρ58 H locs q59 hP hS => ?_)
    obtain ⟨rfl, hI, q59⟩ := q59
    obtain rfl : r57 = nI (104 + 326 * (nn a1) + 66 * (nn a2)) := q59.trans (congrArg nI (by omega))
    refine lv_istore (lv' := [(4, .int (nI (104 + 326 * (nn a1) + 66 * (nn a2)))), (0, .ref (E.2.1 + 1076)), (1, .int a1), (2, .int a2), (3, .int a3)]) hx hb dX7_link_21 hl (by decide) rfl (fun ls hl => ?_)
    refine lv_iload_n hx hb dX7_link_23 rfl (lv_at hl 4 rfl) ?_
    rcases sw_split (x := a3) (lo := 0) (hi := 16) (by decide) with c60 | c60
    · skip
      refine lv_tableOut (tgt := 291) hx hb dX7_link_24 c60 (by decide) ?_
      refine lv_iconst (v := (-1)) hx hb dX7_link_291 (by decide) ?_
      exact ret_i B hr hlk hP hS dX7_link_292 (hI)
    · skip
      rcases sw_step (x := a3) (n := 0) (n' := 1) (by decide) c60 with c60 | c60
      · skip
        refine lv_tableIn (off := 84) (tgt := 108) hx hb dX7_link_24 (by rw [c60]; decide) (by rw [c60]; decide) (by rw [c60]; decide) (by decide) ?_
        refine lv_aload_n hx hb dX7_link_108 rfl (lv_at hl 1 rfl) ?_
        refine get7 B hP (show hk 1076 = 7 by decide +kernel) 3 (by decide) mw_1030 rfl dX7_link_109 ?_
        refine lv_iload hx hb dX7_link_112 (lv_at hl 0 rfl) ?_
        refine aldn (n := 695) (j := (104 + 326 * (nn a1) + 66 * (nn a2))) B hP (show hk 1078 = 8 by decide +kernel) (show hlen 1078 = 695 by decide +kernel) rfl (by omega) (by decide) dX7_link_114 ?_
        exact ret_i B hr hlk hP hS dX7_link_115 (hI)
      · skip
        rcases sw_step (x := a3) (n := 1) (n' := 2) (by decide) c60 with c60 | c60
        · skip
          refine lv_tableIn (off := 92) (tgt := 116) hx hb dX7_link_24 (by rw [c60]; decide) (by rw [c60]; decide) (by rw [c60]; decide) (by decide) ?_
          refine lv_aload_n hx hb dX7_link_116 rfl (lv_at hl 1 rfl) ?_
          refine get7 B hP (show hk 1076 = 7 by decide +kernel) 3 (by decide) mw_1030 rfl dX7_link_117 ?_
          refine lv_iload hx hb dX7_link_120 (lv_at hl 0 rfl) ?_
          refine lv_iconst (v := 5) hx hb dX7_link_122 (by decide) ?_
          refine lv_iadd hx hb dX7_link_123 ?_
          refine lv_topi (fun z61 ez61 => ?_)
          obtain rfl : z61 = (nI (109 + 326 * (nn a1) + 66 * (nn a2))) := ez61.trans (by rw [show (nI (104 + 326 * (nn a1) + 66 * (nn a2))) = nI (104 + 326 * (nn a1) + 66 * (nn a2)) from rfl, show 5 = nI 5 from rfl, nI_add] <;> exact congrArg nI (by omega))
          refine aldn (n := 695) (j := (109 + 326 * (nn a1) + 66 * (nn a2))) B hP (show hk 1078 = 8 by decide +kernel) (show hlen 1078 = 695 by decide +kernel) rfl (by omega) (by decide) dX7_link_124 ?_
          have i62 : iR (ρ42 1078 (109 + 326 * (nn a1) + 66 * (nn a2))) (0) (8) := g_ndown (n0 := (nn a1)) (l0 := (nn a2)) (j := (109 + 326 * (nn a1) + 66 * (nn a2))) hI (by omega) (by omega) (by omega)
          obtain ⟨j63, lj63, uj63, ej63⟩ := iR_nat (a := 0) (b := 8) i62
          refine lv_topi (fun z64 ez64 => ?_)
          obtain rfl : z64 = nI j63 := ez64.trans ej63
          exact ret_i B hr hlk hP hS dX7_link_125 (hI)
        · skip
          rcases sw_step (x := a3) (n := 2) (n' := 3) (by decide) c60 with c60 | c60
          · skip
            refine lv_tableIn (off := 102) (tgt := 126) hx hb dX7_link_24 (by rw [c60]; decide) (by rw [c60]; decide) (by rw [c60]; decide) (by decide) ?_
            refine lv_aload_n hx hb dX7_link_126 rfl (lv_at hl 1 rfl) ?_
            refine get7 B hP (show hk 1076 = 7 by decide +kernel) 3 (by decide) mw_1030 rfl dX7_link_127 ?_
            refine lv_iload hx hb dX7_link_130 (lv_at hl 0 rfl) ?_
            refine lv_bipush (v := 14) hx hb dX7_link_132 (by decide) ?_
            refine lv_iadd hx hb dX7_link_134 ?_
            refine lv_topi (fun z65 ez65 => ?_)
            obtain rfl : z65 = (nI (118 + 326 * (nn a1) + 66 * (nn a2))) := ez65.trans (by rw [show (nI (104 + 326 * (nn a1) + 66 * (nn a2))) = nI (104 + 326 * (nn a1) + 66 * (nn a2)) from rfl, show 14 = nI 14 from rfl, nI_add] <;> exact congrArg nI (by omega))
            refine aldn (n := 695) (j := (118 + 326 * (nn a1) + 66 * (nn a2))) B hP (show hk 1078 = 8 by decide +kernel) (show hlen 1078 = 695 by decide +kernel) rfl (by omega) (by decide) dX7_link_135 ?_
            have i66 : iR (ρ42 1078 (118 + 326 * (nn a1) + 66 * (nn a2))) (0) (8) := g_nup (n0 := (nn a1)) (l0 := (nn a2)) (j := (118 + 326 * (nn a1) + 66 * (nn a2))) hI (by omega) (by omega) (by omega)
            obtain ⟨j67, lj67, uj67, ej67⟩ := iR_nat (a := 0) (b := 8) i66
            refine lv_topi (fun z68 ez68 => ?_)
            obtain rfl : z68 = nI j67 := ez68.trans ej67
            exact ret_i B hr hlk hP hS dX7_link_136 (hI)
          · skip
            rcases sw_step (x := a3) (n := 3) (n' := 4) (by decide) c60 with c60 | c60
            · skip
              refine lv_tableIn (off := 113) (tgt := 137) hx hb dX7_link_24 (by rw [c60]; decide) (by rw [c60]; decide) (by rw [c60]; decide) (by decide) ?_
              refine lv_aload_n hx hb dX7_link_137 rfl (lv_at hl 1 rfl) ?_
              refine get7 B hP (show hk 1076 = 7 by decide +kernel) 3 (by decide) mw_1030 rfl dX7_link_138 ?_
              refine lv_iload hx hb dX7_link_141 (lv_at hl 0 rfl) ?_
              refine lv_bipush (v := 27) hx hb dX7_link_143 (by decide) ?_
              refine lv_iadd hx hb dX7_link_145 ?_
              refine lv_topi (fun z69 ez69 => ?_)
              obtain rfl : z69 = (nI (131 + 326 * (nn a1) + 66 * (nn a2))) := ez69.trans (by rw [show (nI (104 + 326 * (nn a1) + 66 * (nn a2))) = nI (104 + 326 * (nn a1) + 66 * (nn a2)) from rfl, show 27 = nI 27 from rfl, nI_add] <;> exact congrArg nI (by omega))
              refine aldn (n := 695) (j := (131 + 326 * (nn a1) + 66 * (nn a2))) B hP (show hk 1078 = 8 by decide +kernel) (show hlen 1078 = 695 by decide +kernel) rfl (by omega) (by decide) dX7_link_146 ?_
              exact ret_i B hr hlk hP hS dX7_link_147 (hI)
            · skip
              rcases sw_step (x := a3) (n := 4) (n' := 5) (by decide) c60 with c60 | c60
              · skip
                refine lv_tableIn (off := 124) (tgt := 148) hx hb dX7_link_24 (by rw [c60]; decide) (by rw [c60]; decide) (by rw [c60]; decide) (by decide) ?_
                refine lv_aload_n hx hb dX7_link_148 rfl (lv_at hl 1 rfl) ?_
                refine get7 B hP (show hk 1076 = 7 by decide +kernel) 3 (by decide) mw_1030 rfl dX7_link_149 ?_
                refine lv_iload hx hb dX7_link_152 (lv_at hl 0 rfl) ?_
                refine lv_bipush (v := 29) hx hb dX7_link_154 (by decide) ?_
                refine lv_iadd hx hb dX7_link_156 ?_
                refine lv_topi (fun z70 ez70 => ?_)
                obtain rfl : z70 = (nI (133 + 326 * (nn a1) + 66 * (nn a2))) := ez70.trans (by rw [show (nI (104 + 326 * (nn a1) + 66 * (nn a2))) = nI (104 + 326 * (nn a1) + 66 * (nn a2)) from rfl, show 29 = nI 29 from rfl, nI_add] <;> exact congrArg nI (by omega))
                refine aldn (n := 695) (j := (133 + 326 * (nn a1) + 66 * (nn a2))) B hP (show hk 1078 = 8 by decide +kernel) (show hlen 1078 = 695 by decide +kernel) rfl (by omega) (by decide) dX7_link_157 ?_
                exact ret_i B hr hlk hP hS dX7_link_158 (hI)
              · skip
                rcases sw_step (x := a3) (n := 5) (n' := 6) (by decide) c60 with c60 | c60
                · skip
                  refine lv_tableIn (off := 135) (tgt := 159) hx hb dX7_link_24 (by rw [c60]; decide) (by rw [c60]; decide) (by rw [c60]; decide) (by decide) ?_
                  refine lv_aload_n hx hb dX7_link_159 rfl (lv_at hl 1 rfl) ?_
                  refine get7 B hP (show hk 1076 = 7 by decide +kernel) 3 (by decide) mw_1030 rfl dX7_link_160 ?_
                  refine lv_iload hx hb dX7_link_163 (lv_at hl 0 rfl) ?_
                  refine lv_bipush (v := 37) hx hb dX7_link_165 (by decide) ?_
                  refine lv_iadd hx hb dX7_link_167 ?_
                  refine lv_topi (fun z71 ez71 => ?_)
                  obtain rfl : z71 = (nI (141 + 326 * (nn a1) + 66 * (nn a2))) := ez71.trans (by rw [show (nI (104 + 326 * (nn a1) + 66 * (nn a2))) = nI (104 + 326 * (nn a1) + 66 * (nn a2)) from rfl, show 37 = nI 37 from rfl, nI_add] <;> exact congrArg nI (by omega))
                  refine aldn (n := 695) (j := (141 + 326 * (nn a1) + 66 * (nn a2))) B hP (show hk 1078 = 8 by decide +kernel) (show hlen 1078 = 695 by decide +kernel) rfl (by omega) (by decide) dX7_link_168 ?_
                  exact ret_i B hr hlk hP hS dX7_link_169 (hI)
                · skip
                  rcases sw_step (x := a3) (n := 6) (n' := 7) (by decide) c60 with c60 | c60
                  · skip
                    refine lv_tableIn (off := 146) (tgt := 170) hx hb dX7_link_24 (by rw [c60]; decide) (by rw [c60]; decide) (by rw [c60]; decide) (by decide) ?_
                    refine lv_aload_n hx hb dX7_link_170 rfl (lv_at hl 1 rfl) ?_
                    refine get7 B hP (show hk 1076 = 7 by decide +kernel) 3 (by decide) mw_1030 rfl dX7_link_171 ?_
                    refine lv_iload hx hb dX7_link_174 (lv_at hl 0 rfl) ?_
                    refine lv_bipush (v := 23) hx hb dX7_link_176 (by decide) ?_
                    refine lv_iadd hx hb dX7_link_178 ?_
                    refine lv_topi (fun z72 ez72 => ?_)
                    obtain rfl : z72 = (nI (127 + 326 * (nn a1) + 66 * (nn a2))) := ez72.trans (by rw [show (nI (104 + 326 * (nn a1) + 66 * (nn a2))) = nI (104 + 326 * (nn a1) + 66 * (nn a2)) from rfl, show 23 = nI 23 from rfl, nI_add] <;> exact congrArg nI (by omega))
                    refine aldn (n := 695) (j := (127 + 326 * (nn a1) + 66 * (nn a2))) B hP (show hk 1078 = 8 by decide +kernel) (show hlen 1078 = 695 by decide +kernel) rfl (by omega) (by decide) dX7_link_179 ?_
                    exact ret_i B hr hlk hP hS dX7_link_180 (hI)
                  · skip
                    rcases sw_step (x := a3) (n := 7) (n' := 8) (by decide) c60 with c60 | c60
                    · skip
                      refine lv_tableIn (off := 157) (tgt := 181) hx hb dX7_link_24 (by rw [c60]; decide) (by rw [c60]; decide) (by rw [c60]; decide) (by decide) ?_
                      refine lv_aload_n hx hb dX7_link_181 rfl (lv_at hl 1 rfl) ?_
                      refine get7 B hP (show hk 1076 = 7 by decide +kernel) 3 (by decide) mw_1030 rfl dX7_link_182 ?_
                      refine lv_iload hx hb dX7_link_185 (lv_at hl 0 rfl) ?_
                      refine lv_bipush (v := 24) hx hb dX7_link_187 (by decide) ?_
                      refine lv_iadd hx hb dX7_link_189 ?_
                      refine lv_topi (fun z73 ez73 => ?_)
                      obtain rfl : z73 = (nI (128 + 326 * (nn a1) + 66 * (nn a2))) := ez73.trans (by rw [show (nI (104 + 326 * (nn a1) + 66 * (nn a2))) = nI (104 + 326 * (nn a1) + 66 * (nn a2)) from rfl, show 24 = nI 24 from rfl, nI_add] <;> exact congrArg nI (by omega))
                      refine aldn (n := 695) (j := (128 + 326 * (nn a1) + 66 * (nn a2))) B hP (show hk 1078 = 8 by decide +kernel) (show hlen 1078 = 695 by decide +kernel) rfl (by omega) (by decide) dX7_link_190 ?_
                      exact ret_i B hr hlk hP hS dX7_link_191 (hI)
                    · skip
                      rcases sw_step (x := a3) (n := 8) (n' := 9) (by decide) c60 with c60 | c60
                      · skip
                        refine lv_tableIn (off := 168) (tgt := 192) hx hb dX7_link_24 (by rw [c60]; decide) (by rw [c60]; decide) (by rw [c60]; decide) (by decide) ?_
                        refine lv_aload_n hx hb dX7_link_192 rfl (lv_at hl 1 rfl) ?_
                        refine get7 B hP (show hk 1076 = 7 by decide +kernel) 3 (by decide) mw_1030 rfl dX7_link_193 ?_
                        refine lv_iload hx hb dX7_link_196 (lv_at hl 0 rfl) ?_
                        refine lv_bipush (v := 25) hx hb dX7_link_198 (by decide) ?_
                        refine lv_iadd hx hb dX7_link_200 ?_
                        refine lv_topi (fun z74 ez74 => ?_)
                        obtain rfl : z74 = (nI (129 + 326 * (nn a1) + 66 * (nn a2))) := ez74.trans (by rw [show (nI (104 + 326 * (nn a1) + 66 * (nn a2))) = nI (104 + 326 * (nn a1) + 66 * (nn a2)) from rfl, show 25 = nI 25 from rfl, nI_add] <;> exact congrArg nI (by omega))
                        refine aldn (n := 695) (j := (129 + 326 * (nn a1) + 66 * (nn a2))) B hP (show hk 1078 = 8 by decide +kernel) (show hlen 1078 = 695 by decide +kernel) rfl (by omega) (by decide) dX7_link_201 ?_
                        exact ret_i B hr hlk hP hS dX7_link_202 (hI)
                      · skip
                        rcases sw_step (x := a3) (n := 9) (n' := 10) (by decide) c60 with c60 | c60
                        · skip
                          refine lv_tableIn (off := 179) (tgt := 203) hx hb dX7_link_24 (by rw [c60]; decide) (by rw [c60]; decide) (by rw [c60]; decide) (by decide) ?_
                          refine lv_aload_n hx hb dX7_link_203 rfl (lv_at hl 1 rfl) ?_
                          refine get7 B hP (show hk 1076 = 7 by decide +kernel) 3 (by decide) mw_1030 rfl dX7_link_204 ?_
                          refine lv_iload hx hb dX7_link_207 (lv_at hl 0 rfl) ?_
                          refine lv_bipush (v := 26) hx hb dX7_link_209 (by decide) ?_
                          refine lv_iadd hx hb dX7_link_211 ?_
                          refine lv_topi (fun z75 ez75 => ?_)
                          obtain rfl : z75 = (nI (130 + 326 * (nn a1) + 66 * (nn a2))) := ez75.trans (by rw [show (nI (104 + 326 * (nn a1) + 66 * (nn a2))) = nI (104 + 326 * (nn a1) + 66 * (nn a2)) from rfl, show 26 = nI 26 from rfl, nI_add] <;> exact congrArg nI (by omega))
                          refine aldn (n := 695) (j := (130 + 326 * (nn a1) + 66 * (nn a2))) B hP (show hk 1078 = 8 by decide +kernel) (show hlen 1078 = 695 by decide +kernel) rfl (by omega) (by decide) dX7_link_212 ?_
                          exact ret_i B hr hlk hP hS dX7_link_213 (hI)
                        · skip
                          rcases sw_step (x := a3) (n := 10) (n' := 11) (by decide) c60 with c60 | c60
                          · skip
                            refine lv_tableIn (off := 190) (tgt := 214) hx hb dX7_link_24 (by rw [c60]; decide) (by rw [c60]; decide) (by rw [c60]; decide) (by decide) ?_
                            refine lv_aload_n hx hb dX7_link_214 rfl (lv_at hl 1 rfl) ?_
                            refine get7 B hP (show hk 1076 = 7 by decide +kernel) 3 (by decide) mw_1030 rfl dX7_link_215 ?_
                            refine lv_iload hx hb dX7_link_218 (lv_at hl 0 rfl) ?_
                            refine lv_bipush (v := 38) hx hb dX7_link_220 (by decide) ?_
                            refine lv_iadd hx hb dX7_link_222 ?_
                            refine lv_topi (fun z76 ez76 => ?_)
                            obtain rfl : z76 = (nI (142 + 326 * (nn a1) + 66 * (nn a2))) := ez76.trans (by rw [show (nI (104 + 326 * (nn a1) + 66 * (nn a2))) = nI (104 + 326 * (nn a1) + 66 * (nn a2)) from rfl, show 38 = nI 38 from rfl, nI_add] <;> exact congrArg nI (by omega))
                            refine aldn (n := 695) (j := (142 + 326 * (nn a1) + 66 * (nn a2))) B hP (show hk 1078 = 8 by decide +kernel) (show hlen 1078 = 695 by decide +kernel) rfl (by omega) (by decide) dX7_link_223 ?_
                            exact ret_i B hr hlk hP hS dX7_link_224 (hI)
                          · skip
                            rcases sw_step (x := a3) (n := 11) (n' := 12) (by decide) c60 with c60 | c60
                            · skip
                              refine lv_tableIn (off := 201) (tgt := 225) hx hb dX7_link_24 (by rw [c60]; decide) (by rw [c60]; decide) (by rw [c60]; decide) (by decide) ?_
                              refine lv_aload_n hx hb dX7_link_225 rfl (lv_at hl 1 rfl) ?_
                              refine get7 B hP (show hk 1076 = 7 by decide +kernel) 3 (by decide) mw_1030 rfl dX7_link_226 ?_
                              refine lv_iload hx hb dX7_link_229 (lv_at hl 0 rfl) ?_
                              refine lv_bipush (v := 42) hx hb dX7_link_231 (by decide) ?_
                              refine lv_iadd hx hb dX7_link_233 ?_
                              refine lv_topi (fun z77 ez77 => ?_)
                              obtain rfl : z77 = (nI (146 + 326 * (nn a1) + 66 * (nn a2))) := ez77.trans (by rw [show (nI (104 + 326 * (nn a1) + 66 * (nn a2))) = nI (104 + 326 * (nn a1) + 66 * (nn a2)) from rfl, show 42 = nI 42 from rfl, nI_add] <;> exact congrArg nI (by omega))
                              refine aldn (n := 695) (j := (146 + 326 * (nn a1) + 66 * (nn a2))) B hP (show hk 1078 = 8 by decide +kernel) (show hlen 1078 = 695 by decide +kernel) rfl (by omega) (by decide) dX7_link_234 ?_
                              exact ret_i B hr hlk hP hS dX7_link_235 (hI)
                            · skip
                              rcases sw_step (x := a3) (n := 12) (n' := 13) (by decide) c60 with c60 | c60
                              · skip
                                refine lv_tableIn (off := 212) (tgt := 236) hx hb dX7_link_24 (by rw [c60]; decide) (by rw [c60]; decide) (by rw [c60]; decide) (by decide) ?_
                                refine lv_aload_n hx hb dX7_link_236 rfl (lv_at hl 1 rfl) ?_
                                refine get7 B hP (show hk 1076 = 7 by decide +kernel) 3 (by decide) mw_1030 rfl dX7_link_237 ?_
                                refine lv_iload hx hb dX7_link_240 (lv_at hl 0 rfl) ?_
                                refine lv_bipush (v := 43) hx hb dX7_link_242 (by decide) ?_
                                refine lv_iadd hx hb dX7_link_244 ?_
                                refine lv_topi (fun z78 ez78 => ?_)
                                obtain rfl : z78 = (nI (147 + 326 * (nn a1) + 66 * (nn a2))) := ez78.trans (by rw [show (nI (104 + 326 * (nn a1) + 66 * (nn a2))) = nI (104 + 326 * (nn a1) + 66 * (nn a2)) from rfl, show 43 = nI 43 from rfl, nI_add] <;> exact congrArg nI (by omega))
                                refine aldn (n := 695) (j := (147 + 326 * (nn a1) + 66 * (nn a2))) B hP (show hk 1078 = 8 by decide +kernel) (show hlen 1078 = 695 by decide +kernel) rfl (by omega) (by decide) dX7_link_245 ?_
                                exact ret_i B hr hlk hP hS dX7_link_246 (hI)
                              · skip
                                rcases sw_step (x := a3) (n := 13) (n' := 14) (by decide) c60 with c60 | c60
                                · skip
                                  refine lv_tableIn (off := 223) (tgt := 247) hx hb dX7_link_24 (by rw [c60]; decide) (by rw [c60]; decide) (by rw [c60]; decide) (by decide) ?_
                                  refine lv_aload_n hx hb dX7_link_247 rfl (lv_at hl 1 rfl) ?_
                                  refine get7 B hP (show hk 1076 = 7 by decide +kernel) 3 (by decide) mw_1030 rfl dX7_link_248 ?_
                                  refine lv_iload hx hb dX7_link_251 (lv_at hl 0 rfl) ?_
                                  refine lv_bipush (v := 45) hx hb dX7_link_253 (by decide) ?_
                                  refine lv_iadd hx hb dX7_link_255 ?_
                                  refine lv_topi (fun z79 ez79 => ?_)
                                  obtain rfl : z79 = (nI (149 + 326 * (nn a1) + 66 * (nn a2))) := ez79.trans (by rw [show (nI (104 + 326 * (nn a1) + 66 * (nn a2))) = nI (104 + 326 * (nn a1) + 66 * (nn a2)) from rfl, show 45 = nI 45 from rfl, nI_add] <;> exact congrArg nI (by omega))
                                  refine aldn (n := 695) (j := (149 + 326 * (nn a1) + 66 * (nn a2))) B hP (show hk 1078 = 8 by decide +kernel) (show hlen 1078 = 695 by decide +kernel) rfl (by omega) (by decide) dX7_link_256 ?_
                                  exact ret_i B hr hlk hP hS dX7_link_257 (hI)
                                · skip
                                  rcases sw_step (x := a3) (n := 14) (n' := 15) (by decide) c60 with c60 | c60
                                  · skip
                                    refine lv_tableIn (off := 234) (tgt := 258) hx hb dX7_link_24 (by rw [c60]; decide) (by rw [c60]; decide) (by rw [c60]; decide) (by decide) ?_
                                    refine lv_aload_n hx hb dX7_link_258 rfl (lv_at hl 1 rfl) ?_
                                    refine get7 B hP (show hk 1076 = 7 by decide +kernel) 3 (by decide) mw_1030 rfl dX7_link_259 ?_
                                    refine lv_iload hx hb dX7_link_262 (lv_at hl 0 rfl) ?_
                                    refine lv_bipush (v := 46) hx hb dX7_link_264 (by decide) ?_
                                    refine lv_iadd hx hb dX7_link_266 ?_
                                    refine lv_topi (fun z80 ez80 => ?_)
                                    obtain rfl : z80 = (nI (150 + 326 * (nn a1) + 66 * (nn a2))) := ez80.trans (by rw [show (nI (104 + 326 * (nn a1) + 66 * (nn a2))) = nI (104 + 326 * (nn a1) + 66 * (nn a2)) from rfl, show 46 = nI 46 from rfl, nI_add] <;> exact congrArg nI (by omega))
                                    refine aldn (n := 695) (j := (150 + 326 * (nn a1) + 66 * (nn a2))) B hP (show hk 1078 = 8 by decide +kernel) (show hlen 1078 = 695 by decide +kernel) rfl (by omega) (by decide) dX7_link_267 ?_
                                    exact ret_i B hr hlk hP hS dX7_link_268 (hI)
                                  · skip
                                    rcases sw_step (x := a3) (n := 15) (n' := 16) (by decide) c60 with c60 | c60
                                    · skip
                                      refine lv_tableIn (off := 245) (tgt := 269) hx hb dX7_link_24 (by rw [c60]; decide) (by rw [c60]; decide) (by rw [c60]; decide) (by decide) ?_
                                      refine lv_aload_n hx hb dX7_link_269 rfl (lv_at hl 1 rfl) ?_
                                      refine get7 B hP (show hk 1076 = 7 by decide +kernel) 3 (by decide) mw_1030 rfl dX7_link_270 ?_
                                      refine lv_iload hx hb dX7_link_273 (lv_at hl 0 rfl) ?_
                                      refine lv_bipush (v := 47) hx hb dX7_link_275 (by decide) ?_
                                      refine lv_iadd hx hb dX7_link_277 ?_
                                      refine lv_topi (fun z81 ez81 => ?_)
                                      obtain rfl : z81 = (nI (151 + 326 * (nn a1) + 66 * (nn a2))) := ez81.trans (by rw [show (nI (104 + 326 * (nn a1) + 66 * (nn a2))) = nI (104 + 326 * (nn a1) + 66 * (nn a2)) from rfl, show 47 = nI 47 from rfl, nI_add] <;> exact congrArg nI (by omega))
                                      refine aldn (n := 695) (j := (151 + 326 * (nn a1) + 66 * (nn a2))) B hP (show hk 1078 = 8 by decide +kernel) (show hlen 1078 = 695 by decide +kernel) rfl (by omega) (by decide) dX7_link_278 ?_
                                      exact ret_i B hr hlk hP hS dX7_link_279 (hI)
                                    · skip
                                      have c60 := sw_last (n := 16) c60
                                      refine lv_tableIn (off := 256) (tgt := 280) hx hb dX7_link_24 (by rw [c60]; decide) (by rw [c60]; decide) (by rw [c60]; decide) (by decide) ?_
                                      refine lv_aload_n hx hb dX7_link_280 rfl (lv_at hl 1 rfl) ?_
                                      refine get7 B hP (show hk 1076 = 7 by decide +kernel) 3 (by decide) mw_1030 rfl dX7_link_281 ?_
                                      refine lv_iload hx hb dX7_link_284 (lv_at hl 0 rfl) ?_
                                      refine lv_bipush (v := 48) hx hb dX7_link_286 (by decide) ?_
                                      refine lv_iadd hx hb dX7_link_288 ?_
                                      refine lv_topi (fun z82 ez82 => ?_)
                                      obtain rfl : z82 = (nI (152 + 326 * (nn a1) + 66 * (nn a2))) := ez82.trans (by rw [show (nI (104 + 326 * (nn a1) + 66 * (nn a2))) = nI (104 + 326 * (nn a1) + 66 * (nn a2)) from rfl, show 48 = nI 48 from rfl, nI_add] <;> exact congrArg nI (by omega))
                                      refine aldn (n := 695) (j := (152 + 326 * (nn a1) + 66 * (nn a2))) B hP (show hk 1078 = 8 by decide +kernel) (show hlen 1078 = 695 by decide +kernel) rfl (by omega) (by decide) dX7_link_289 ?_
                                      exact ret_i B hr hlk hP hS dX7_link_290 (hI)
