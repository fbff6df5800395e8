
theorem tm_out {w v : Int32} (h : w.toInt < 0 ∨ 2 < w.toInt) : ¬ tm w v := by unfold tm; omega
theorem tm_0 {w v : Int32} (h : w.toInt = 0) (q : iR v 0 1000000) : tm w v := Or.inl ⟨h, q⟩
theorem tm_n0 {w v : Int32} (h : w.toInt = 0) (q : ¬ iR v 0 1000000) : ¬ tm w v := by
  rintro (z | z | z)
  · exact q z.2
  · omega
  · omega
theorem tm_1 {w v : Int32} (h : w.toInt = 1) (q : iR v 0 32 ∧ ev v) : tm w v := Or.inr (Or.inl ⟨h, q.1, q.2⟩)
theorem tm_n1 {w v : Int32} (h : w.toInt = 1) (q : ¬ (iR v 0 32 ∧ ev v)) : ¬ tm w v := by
  rintro (z | z | z)
  · omega
  · exact q z.2
  · omega
theorem tm_2 {w v : Int32} (h : w.toInt = 2) (q : iR v 1 4) : tm w v := Or.inr (Or.inr ⟨h, q⟩)
theorem tm_n2 {w v : Int32} (h : w.toInt = 2) (q : ¬ iR v 1 4) : ¬ tm w v := by
  rintro (z | z | z)
  · omega
  · omega
  · exact q z.2
/-- a world's own numbers taken from another -/
def cpw (ρ : Nat → Nat → Int32) (k1 k2 : Nat) : Nat → Nat → Int32 := up (up (up (up (up ρ k1 4 (ρ k2 4)) k1 5 (ρ k2 5)) k1 6 (ρ k2 6)) k1 7 (ρ k2 7)) k1 8 (ρ k2 8)
theorem cpw_ne {ρ : Nat → Nat → Int32} {k1 k2 k : Nat} (h : k ≠ k1) : cpw ρ k1 k2 k = ρ k := by
  unfold cpw
  rw [up_ne _ _ _ h, up_ne _ _ _ h, up_ne _ _ _ h, up_ne _ _ _ h, up_ne _ _ _ h]
theorem cpw_eq {ρ a b c d f : Nat → Nat → Int32} {k1 k2 : Nat} (e1 : a = up ρ k1 4 (ρ k2 4)) (e2 : b = up a k1 5 (ρ k2 5)) (e3 : c = up b k1 6 (ρ k2 6)) (e4 : d = up c k1 7 (ρ k2 7)) (e5 : f = up d k1 8 (ρ k2 8)) : f = cpw ρ k1 k2 := by
  rw [e5, e4, e3, e2, e1]
  rfl
theorem dX6_isWithin_0 : decode cX6_isWithin 0 = .ok (.iload_n 0, 1) := by decide +kernel
theorem dX6_isWithin_1 : decode cX6_isWithin 1 = .ok (.iload_n 1, 1) := by decide +kernel
theorem dX6_isWithin_2 : decode cX6_isWithin 2 = .ok (.if_icmp .lt 12, 3) := by decide +kernel
theorem dX6_isWithin_5 : decode cX6_isWithin 5 = .ok (.iload_n 0, 1) := by decide +kernel
theorem dX6_isWithin_6 : decode cX6_isWithin 6 = .ok (.iload_n 2, 1) := by decide +kernel
theorem dX6_isWithin_7 : decode cX6_isWithin 7 = .ok (.if_icmp .gt 7, 3) := by decide +kernel
theorem dX6_isWithin_10 : decode cX6_isWithin 10 = .ok (.iconst 1, 1) := by decide +kernel
theorem dX6_isWithin_11 : decode cX6_isWithin 11 = .ok (.goto 4, 3) := by decide +kernel
theorem dX6_isWithin_14 : decode cX6_isWithin 14 = .ok (.iconst 0, 1) := by decide +kernel
theorem dX6_isWithin_15 : decode cX6_isWithin 15 = .ok (.ireturn, 1) := by decide +kernel
theorem dX6_isEvenWithin_0 : decode cX6_isEvenWithin 0 = .ok (.iload_n 0, 1) := by decide +kernel
theorem dX6_isEvenWithin_1 : decode cX6_isEvenWithin 1 = .ok (.iload_n 1, 1) := by decide +kernel
theorem dX6_isEvenWithin_2 : decode cX6_isEvenWithin 2 = .ok (.iload_n 2, 1) := by decide +kernel
theorem dX6_isEvenWithin_3 : decode cX6_isEvenWithin 3 = .ok (.invokestatic 54, 3) := by decide +kernel
theorem dX6_isEvenWithin_6 : decode cX6_isEvenWithin 6 = .ok (.ifCond .eq 13, 3) := by decide +kernel
theorem dX6_isEvenWithin_9 : decode cX6_isEvenWithin 9 = .ok (.iload_n 0, 1) := by decide +kernel
theorem dX6_isEvenWithin_10 : decode cX6_isEvenWithin 10 = .ok (.iconst 2, 1) := by decide +kernel
theorem dX6_isEvenWithin_11 : decode cX6_isEvenWithin 11 = .ok (.irem, 1) := by decide +kernel
theorem dX6_isEvenWithin_12 : decode cX6_isEvenWithin 12 = .ok (.ifCond .ne 7, 3) := by decide +kernel
theorem dX6_isEvenWithin_15 : decode cX6_isEvenWithin 15 = .ok (.iconst 1, 1) := by decide +kernel
theorem dX6_isEvenWithin_16 : decode cX6_isEvenWithin 16 = .ok (.goto 4, 3) := by decide +kernel
theorem dX6_isEvenWithin_19 : decode cX6_isEvenWithin 19 = .ok (.iconst 0, 1) := by decide +kernel
theorem dX6_isEvenWithin_20 : decode cX6_isEvenWithin 20 = .ok (.ireturn, 1) := by decide +kernel
theorem dX6_isTerm_0 : decode cX6_isTerm 0 = .ok (.iload_n 0, 1) := by decide +kernel
theorem dX6_isTerm_1 : decode cX6_isTerm 1 = .ok (.tableswitch 51 0 2 #[27, 36, 44], 27) := by decide +kernel
theorem dX6_isTerm_28 : decode cX6_isTerm 28 = .ok (.iload_n 1, 1) := by decide +kernel
theorem dX6_isTerm_29 : decode cX6_isTerm 29 = .ok (.iconst 0, 1) := by decide +kernel
theorem dX6_isTerm_30 : decode cX6_isTerm 30 = .ok (.ldc_w 401, 3) := by decide +kernel
theorem dX6_isTerm_33 : decode cX6_isTerm 33 = .ok (.invokestatic 54, 3) := by decide +kernel
theorem dX6_isTerm_36 : decode cX6_isTerm 36 = .ok (.ireturn, 1) := by decide +kernel
theorem dX6_isTerm_37 : decode cX6_isTerm 37 = .ok (.iload_n 1, 1) := by decide +kernel
theorem dX6_isTerm_38 : decode cX6_isTerm 38 = .ok (.iconst 0, 1) := by decide +kernel
theorem dX6_isTerm_39 : decode cX6_isTerm 39 = .ok (.bipush 32, 2) := by decide +kernel
theorem dX6_isTerm_41 : decode cX6_isTerm 41 = .ok (.invokestatic 156, 3) := by decide +kernel
theorem dX6_isTerm_44 : decode cX6_isTerm 44 = .ok (.ireturn, 1) := by decide +kernel
theorem dX6_isTerm_45 : decode cX6_isTerm 45 = .ok (.iload_n 1, 1) := by decide +kernel
theorem dX6_isTerm_46 : decode cX6_isTerm 46 = .ok (.iconst 1, 1) := by decide +kernel
theorem dX6_isTerm_47 : decode cX6_isTerm 47 = .ok (.iconst 4, 1) := by decide +kernel
theorem dX6_isTerm_48 : decode cX6_isTerm 48 = .ok (.invokestatic 54, 3) := by decide +kernel
theorem dX6_isTerm_51 : decode cX6_isTerm 51 = .ok (.ireturn, 1) := by decide +kernel
theorem dX6_isTerm_52 : decode cX6_isTerm 52 = .ok (.iconst 0, 1) := by decide +kernel
theorem dX6_isTerm_53 : decode cX6_isTerm 53 = .ok (.ireturn, 1) := by decide +kernel
theorem dX6_refuse_0 : decode cX6_refuse 0 = .ok (.aload_n 0, 1) := by decide +kernel
theorem dX6_refuse_1 : decode cX6_refuse 1 = .ok (.iload_n 1, 1) := by decide +kernel
theorem dX6_refuse_2 : decode cX6_refuse 2 = .ok (.putfield 44, 3) := by decide +kernel
theorem dX6_refuse_5 : decode cX6_refuse 5 = .ok (.iload_n 1, 1) := by decide +kernel
theorem dX6_refuse_6 : decode cX6_refuse 6 = .ok (.ineg, 1) := by decide +kernel
theorem dX6_refuse_7 : decode cX6_refuse 7 = .ok (.iconst 1, 1) := by decide +kernel
theorem dX6_refuse_8 : decode cX6_refuse 8 = .ok (.isub, 1) := by decide +kernel
theorem dX6_refuse_9 : decode cX6_refuse 9 = .ok (.istore_n 2, 1) := by decide +kernel
theorem dX6_refuse_10 : decode cX6_refuse 10 = .ok (.iload_n 2, 1) := by decide +kernel
theorem dX6_refuse_11 : decode cX6_refuse 11 = .ok (.ifCond .lt 22, 3) := by decide +kernel
theorem dX6_refuse_14 : decode cX6_refuse 14 = .ok (.iload_n 2, 1) := by decide +kernel
theorem dX6_refuse_15 : decode cX6_refuse 15 = .ok (.aload_n 0, 1) := by decide +kernel
theorem dX6_refuse_16 : decode cX6_refuse 16 = .ok (.getfield 41, 3) := by decide +kernel
theorem dX6_refuse_19 : decode cX6_refuse 19 = .ok (.arraylength, 1) := by decide +kernel
theorem dX6_refuse_20 : decode cX6_refuse 20 = .ok (.if_icmp .ge 13, 3) := by decide +kernel
theorem dX6_refuse_23 : decode cX6_refuse 23 = .ok (.aload_n 0, 1) := by decide +kernel
theorem dX6_refuse_24 : decode cX6_refuse 24 = .ok (.getfield 41, 3) := by decide +kernel
theorem dX6_refuse_27 : decode cX6_refuse 27 = .ok (.iload_n 2, 1) := by decide +kernel
theorem dX6_refuse_28 : decode cX6_refuse 28 = .ok (.dup2, 1) := by decide +kernel
theorem dX6_refuse_29 : decode cX6_refuse 29 = .ok (.iaload, 1) := by decide +kernel
theorem dX6_refuse_30 : decode cX6_refuse 30 = .ok (.iconst 1, 1) := by decide +kernel
theorem dX6_refuse_31 : decode cX6_refuse 31 = .ok (.iadd, 1) := by decide +kernel
theorem dX6_refuse_32 : decode cX6_refuse 32 = .ok (.iastore, 1) := by decide +kernel
theorem dX6_refuse_33 : decode cX6_refuse 33 = .ok (.iload_n 1, 1) := by decide +kernel
theorem dX6_refuse_34 : decode cX6_refuse 34 = .ok (.ireturn, 1) := by decide +kernel
theorem dX6_accept_0 : decode cX6_accept 0 = .ok (.aload_n 0, 1) := by decide +kernel
theorem dX6_accept_1 : decode cX6_accept 1 = .ok (.iconst 0, 1) := by decide +kernel
theorem dX6_accept_2 : decode cX6_accept 2 = .ok (.putfield 44, 3) := by decide +kernel
theorem dX6_accept_5 : decode cX6_accept 5 = .ok (.iload_n 1, 1) := by decide +kernel
theorem dX6_accept_6 : decode cX6_accept 6 = .ok (.ireturn, 1) := by decide +kernel
theorem dX3_copyFrom_0 : decode cX3_copyFrom 0 = .ok (.aload_n 0, 1) := by decide +kernel
theorem dX3_copyFrom_1 : decode cX3_copyFrom 1 = .ok (.aload_n 1, 1) := by decide +kernel
theorem dX3_copyFrom_2 : decode cX3_copyFrom 2 = .ok (.getfield 10, 3) := by decide +kernel
theorem dX3_copyFrom_5 : decode cX3_copyFrom 5 = .ok (.putfield 10, 3) := by decide +kernel
theorem dX3_copyFrom_8 : decode cX3_copyFrom 8 = .ok (.aload_n 0, 1) := by decide +kernel
theorem dX3_copyFrom_9 : decode cX3_copyFrom 9 = .ok (.aload_n 1, 1) := by decide +kernel
theorem dX3_copyFrom_10 : decode cX3_copyFrom 10 = .ok (.getfield 16, 3) := by decide +kernel
theorem dX3_copyFrom_13 : decode cX3_copyFrom 13 = .ok (.putfield 16, 3) := by decide +kernel
theorem dX3_copyFrom_16 : decode cX3_copyFrom 16 = .ok (.aload_n 0, 1) := by decide +kernel
theorem dX3_copyFrom_17 : decode cX3_copyFrom 17 = .ok (.aload_n 1, 1) := by decide +kernel
theorem dX3_copyFrom_18 : decode cX3_copyFrom 18 = .ok (.getfield 19, 3) := by decide +kernel
theorem dX3_copyFrom_21 : decode cX3_copyFrom 21 = .ok (.putfield 19, 3) := by decide +kernel
theorem dX3_copyFrom_24 : decode cX3_copyFrom 24 = .ok (.return_, 1) := by decide +kernel
theorem dX2_copyFrom_0 : decode cX2_copyFrom 0 = .ok (.aload_n 0, 1) := by decide +kernel
theorem dX2_copyFrom_1 : decode cX2_copyFrom 1 = .ok (.getfield 12, 3) := by decide +kernel
theorem dX2_copyFrom_4 : decode cX2_copyFrom 4 = .ok (.aload_n 1, 1) := by decide +kernel
theorem dX2_copyFrom_5 : decode cX2_copyFrom 5 = .ok (.getfield 12, 3) := by decide +kernel
theorem dX2_copyFrom_8 : decode cX2_copyFrom 8 = .ok (.invokevirtual 83, 3) := by decide +kernel
theorem dX2_copyFrom_11 : decode cX2_copyFrom 11 = .ok (.aload_n 1, 1) := by decide +kernel
theorem dX2_copyFrom_12 : decode cX2_copyFrom 12 = .ok (.getfield 18, 3) := by decide +kernel
theorem dX2_copyFrom_15 : decode cX2_copyFrom 15 = .ok (.iconst 0, 1) := by decide +kernel
theorem dX2_copyFrom_16 : decode cX2_copyFrom 16 = .ok (.aload_n 0, 1) := by decide +kernel
theorem dX2_copyFrom_17 : decode cX2_copyFrom 17 = .ok (.getfield 18, 3) := by decide +kernel
theorem dX2_copyFrom_20 : decode cX2_copyFrom 20 = .ok (.iconst 0, 1) := by decide +kernel
theorem dX2_copyFrom_21 : decode cX2_copyFrom 21 = .ok (.iconst 4, 1) := by decide +kernel
theorem dX2_copyFrom_22 : decode cX2_copyFrom 22 = .ok (.invokestatic 87, 3) := by decide +kernel
theorem dX2_copyFrom_25 : decode cX2_copyFrom 25 = .ok (.aload_n 1, 1) := by decide +kernel
theorem dX2_copyFrom_26 : decode cX2_copyFrom 26 = .ok (.getfield 22, 3) := by decide +kernel
theorem dX2_copyFrom_29 : decode cX2_copyFrom 29 = .ok (.iconst 0, 1) := by decide +kernel
theorem dX2_copyFrom_30 : decode cX2_copyFrom 30 = .ok (.aload_n 0, 1) := by decide +kernel
theorem dX2_copyFrom_31 : decode cX2_copyFrom 31 = .ok (.getfield 22, 3) := by decide +kernel
theorem dX2_copyFrom_34 : decode cX2_copyFrom 34 = .ok (.iconst 0, 1) := by decide +kernel
theorem dX2_copyFrom_35 : decode cX2_copyFrom 35 = .ok (.bipush 23, 2) := by decide +kernel
theorem dX2_copyFrom_37 : decode cX2_copyFrom 37 = .ok (.invokestatic 87, 3) := by decide +kernel
theorem dX2_copyFrom_40 : decode cX2_copyFrom 40 = .ok (.aload_n 1, 1) := by decide +kernel
theorem dX2_copyFrom_41 : decode cX2_copyFrom 41 = .ok (.getfield 25, 3) := by decide +kernel
theorem dX2_copyFrom_44 : decode cX2_copyFrom 44 = .ok (.iconst 0, 1) := by decide +kernel
theorem dX2_copyFrom_45 : decode cX2_copyFrom 45 = .ok (.aload_n 0, 1) := by decide +kernel
theorem dX2_copyFrom_46 : decode cX2_copyFrom 46 = .ok (.getfield 25, 3) := by decide +kernel
theorem dX2_copyFrom_49 : decode cX2_copyFrom 49 = .ok (.iconst 0, 1) := by decide +kernel
theorem dX2_copyFrom_50 : decode cX2_copyFrom 50 = .ok (.bipush 23, 2) := by decide +kernel
theorem dX2_copyFrom_52 : decode cX2_copyFrom 52 = .ok (.invokestatic 87, 3) := by decide +kernel
theorem dX2_copyFrom_55 : decode cX2_copyFrom 55 = .ok (.iconst 0, 1) := by decide +kernel
theorem dX2_copyFrom_56 : decode cX2_copyFrom 56 = .ok (.istore_n 2, 1) := by decide +kernel
theorem dX2_copyFrom_57 : decode cX2_copyFrom 57 = .ok (.iload_n 2, 1) := by decide +kernel
theorem dX2_copyFrom_58 : decode cX2_copyFrom 58 = .ok (.aload_n 1, 1) := by decide +kernel
theorem dX2_copyFrom_59 : decode cX2_copyFrom 59 = .ok (.getfield 45, 3) := by decide +kernel
theorem dX2_copyFrom_62 : decode cX2_copyFrom 62 = .ok (.if_icmp .ge 29, 3) := by decide +kernel
theorem dX2_copyFrom_65 : decode cX2_copyFrom 65 = .ok (.iload_n 2, 1) := by decide +kernel
theorem dX2_copyFrom_66 : decode cX2_copyFrom 66 = .ok (.iconst 4, 1) := by decide +kernel
theorem dX2_copyFrom_67 : decode cX2_copyFrom 67 = .ok (.if_icmp .ge 24, 3) := by decide +kernel
theorem dX2_copyFrom_70 : decode cX2_copyFrom 70 = .ok (.aload_n 0, 1) := by decide +kernel
theorem dX2_copyFrom_71 : decode cX2_copyFrom 71 = .ok (.getfield 30, 3) := by decide +kernel
theorem dX2_copyFrom_74 : decode cX2_copyFrom 74 = .ok (.iload_n 2, 1) := by decide +kernel
theorem dX2_copyFrom_75 : decode cX2_copyFrom 75 = .ok (.aaload, 1) := by decide +kernel
theorem dX2_copyFrom_76 : decode cX2_copyFrom 76 = .ok (.aload_n 1, 1) := by decide +kernel
theorem dX2_copyFrom_77 : decode cX2_copyFrom 77 = .ok (.getfield 30, 3) := by decide +kernel
theorem dX2_copyFrom_80 : decode cX2_copyFrom 80 = .ok (.iload_n 2, 1) := by decide +kernel
theorem dX2_copyFrom_81 : decode cX2_copyFrom 81 = .ok (.aaload, 1) := by decide +kernel
theorem dX2_copyFrom_82 : decode cX2_copyFrom 82 = .ok (.invokevirtual 93, 3) := by decide +kernel
theorem dX2_copyFrom_85 : decode cX2_copyFrom 85 = .ok (.iinc 2 1, 3) := by decide +kernel
theorem dX2_copyFrom_88 : decode cX2_copyFrom 88 = .ok (.goto (-31), 3) := by decide +kernel
theorem dX2_copyFrom_91 : decode cX2_copyFrom 91 = .ok (.aload_n 0, 1) := by decide +kernel
theorem dX2_copyFrom_92 : decode cX2_copyFrom 92 = .ok (.aload_n 1, 1) := by decide +kernel
theorem dX2_copyFrom_93 : decode cX2_copyFrom 93 = .ok (.getfield 34, 3) := by decide +kernel
theorem dX2_copyFrom_96 : decode cX2_copyFrom 96 = .ok (.putfield 34, 3) := by decide +kernel
theorem dX2_copyFrom_99 : decode cX2_copyFrom 99 = .ok (.aload_n 0, 1) := by decide +kernel
theorem dX2_copyFrom_100 : decode cX2_copyFrom 100 = .ok (.aload_n 1, 1) := by decide +kernel
theorem dX2_copyFrom_101 : decode cX2_copyFrom 101 = .ok (.getfield 38, 3) := by decide +kernel
theorem dX2_copyFrom_104 : decode cX2_copyFrom 104 = .ok (.putfield 38, 3) := by decide +kernel
theorem dX2_copyFrom_107 : decode cX2_copyFrom 107 = .ok (.aload_n 0, 1) := by decide +kernel
theorem dX2_copyFrom_108 : decode cX2_copyFrom 108 = .ok (.aload_n 1, 1) := by decide +kernel
theorem dX2_copyFrom_109 : decode cX2_copyFrom 109 = .ok (.getfield 42, 3) := by decide +kernel
theorem dX2_copyFrom_112 : decode cX2_copyFrom 112 = .ok (.putfield 42, 3) := by decide +kernel
theorem dX2_copyFrom_115 : decode cX2_copyFrom 115 = .ok (.aload_n 0, 1) := by decide +kernel
theorem dX2_copyFrom_116 : decode cX2_copyFrom 116 = .ok (.aload_n 1, 1) := by decide +kernel
theorem dX2_copyFrom_117 : decode cX2_copyFrom 117 = .ok (.getfield 45, 3) := by decide +kernel
theorem dX2_copyFrom_120 : decode cX2_copyFrom 120 = .ok (.putfield 45, 3) := by decide +kernel
theorem dX2_copyFrom_123 : decode cX2_copyFrom 123 = .ok (.aload_n 0, 1) := by decide +kernel
theorem dX2_copyFrom_124 : decode cX2_copyFrom 124 = .ok (.aload_n 1, 1) := by decide +kernel
theorem dX2_copyFrom_125 : decode cX2_copyFrom 125 = .ok (.getfield 48, 3) := by decide +kernel
theorem dX2_copyFrom_128 : decode cX2_copyFrom 128 = .ok (.putfield 48, 3) := by decide +kernel
theorem dX2_copyFrom_131 : decode cX2_copyFrom 131 = .ok (.aload_n 0, 1) := by decide +kernel
theorem dX2_copyFrom_132 : decode cX2_copyFrom 132 = .ok (.aload_n 1, 1) := by decide +kernel
theorem dX2_copyFrom_133 : decode cX2_copyFrom 133 = .ok (.getfield 51, 3) := by decide +kernel
theorem dX2_copyFrom_136 : decode cX2_copyFrom 136 = .ok (.putfield 51, 3) := by decide +kernel
theorem dX2_copyFrom_139 : decode cX2_copyFrom 139 = .ok (.aload_n 0, 1) := by decide +kernel
theorem dX2_copyFrom_140 : decode cX2_copyFrom 140 = .ok (.aload_n 1, 1) := by decide +kernel
theorem dX2_copyFrom_141 : decode cX2_copyFrom 141 = .ok (.getfield 54, 3) := by decide +kernel
theorem dX2_copyFrom_144 : decode cX2_copyFrom 144 = .ok (.putfield 54, 3) := by decide +kernel
theorem dX2_copyFrom_147 : decode cX2_copyFrom 147 = .ok (.aload_n 0, 1) := by decide +kernel
theorem dX2_copyFrom_148 : decode cX2_copyFrom 148 = .ok (.aload_n 1, 1) := by decide +kernel
theorem dX2_copyFrom_149 : decode cX2_copyFrom 149 = .ok (.getfield 57, 3) := by decide +kernel
theorem dX2_copyFrom_152 : decode cX2_copyFrom 152 = .ok (.putfield 57, 3) := by decide +kernel
theorem dX2_copyFrom_155 : decode cX2_copyFrom 155 = .ok (.aload_n 0, 1) := by decide +kernel
theorem dX2_copyFrom_156 : decode cX2_copyFrom 156 = .ok (.aload_n 1, 1) := by decide +kernel
theorem dX2_copyFrom_157 : decode cX2_copyFrom 157 = .ok (.getfield 60, 3) := by decide +kernel
theorem dX2_copyFrom_160 : decode cX2_copyFrom 160 = .ok (.putfield 60, 3) := by decide +kernel
theorem dX2_copyFrom_163 : decode cX2_copyFrom 163 = .ok (.return_, 1) := by decide +kernel
theorem dX5_copyFrom_0 : decode cX5_copyFrom 0 = .ok (.aload_n 1, 1) := by decide +kernel
theorem dX5_copyFrom_1 : decode cX5_copyFrom 1 = .ok (.getfield 9, 3) := by decide +kernel
theorem dX5_copyFrom_4 : decode cX5_copyFrom 4 = .ok (.iconst 0, 1) := by decide +kernel
theorem dX5_copyFrom_5 : decode cX5_copyFrom 5 = .ok (.aload_n 0, 1) := by decide +kernel
theorem dX5_copyFrom_6 : decode cX5_copyFrom 6 = .ok (.getfield 9, 3) := by decide +kernel
theorem dX5_copyFrom_9 : decode cX5_copyFrom 9 = .ok (.iconst 0, 1) := by decide +kernel
theorem dX5_copyFrom_10 : decode cX5_copyFrom 10 = .ok (.bipush 6, 2) := by decide +kernel
theorem dX5_copyFrom_12 : decode cX5_copyFrom 12 = .ok (.invokestatic 47, 3) := by decide +kernel
theorem dX5_copyFrom_15 : decode cX5_copyFrom 15 = .ok (.aload_n 1, 1) := by decide +kernel
theorem dX5_copyFrom_16 : decode cX5_copyFrom 16 = .ok (.getfield 15, 3) := by decide +kernel
theorem dX5_copyFrom_19 : decode cX5_copyFrom 19 = .ok (.iconst 0, 1) := by decide +kernel
theorem dX5_copyFrom_20 : decode cX5_copyFrom 20 = .ok (.aload_n 0, 1) := by decide +kernel
theorem dX5_copyFrom_21 : decode cX5_copyFrom 21 = .ok (.getfield 15, 3) := by decide +kernel
theorem dX5_copyFrom_24 : decode cX5_copyFrom 24 = .ok (.iconst 0, 1) := by decide +kernel
theorem dX5_copyFrom_25 : decode cX5_copyFrom 25 = .ok (.bipush 23, 2) := by decide +kernel
theorem dX5_copyFrom_27 : decode cX5_copyFrom 27 = .ok (.invokestatic 47, 3) := by decide +kernel
theorem dX5_copyFrom_30 : decode cX5_copyFrom 30 = .ok (.aload_n 1, 1) := by decide +kernel
theorem dX5_copyFrom_31 : decode cX5_copyFrom 31 = .ok (.getfield 18, 3) := by decide +kernel
theorem dX5_copyFrom_34 : decode cX5_copyFrom 34 = .ok (.iconst 0, 1) := by decide +kernel
theorem dX5_copyFrom_35 : decode cX5_copyFrom 35 = .ok (.aload_n 0, 1) := by decide +kernel
theorem dX5_copyFrom_36 : decode cX5_copyFrom 36 = .ok (.getfield 18, 3) := by decide +kernel
theorem dX5_copyFrom_39 : decode cX5_copyFrom 39 = .ok (.iconst 0, 1) := by decide +kernel
theorem dX5_copyFrom_40 : decode cX5_copyFrom 40 = .ok (.bipush 9, 2) := by decide +kernel
theorem dX5_copyFrom_42 : decode cX5_copyFrom 42 = .ok (.invokestatic 47, 3) := by decide +kernel
theorem dX5_copyFrom_45 : decode cX5_copyFrom 45 = .ok (.iconst 0, 1) := by decide +kernel
theorem dX5_copyFrom_46 : decode cX5_copyFrom 46 = .ok (.istore_n 2, 1) := by decide +kernel
theorem dX5_copyFrom_47 : decode cX5_copyFrom 47 = .ok (.iload_n 2, 1) := by decide +kernel
theorem dX5_copyFrom_48 : decode cX5_copyFrom 48 = .ok (.iconst 2, 1) := by decide +kernel
theorem dX5_copyFrom_49 : decode cX5_copyFrom 49 = .ok (.if_icmp .ge 24, 3) := by decide +kernel
theorem dX5_copyFrom_52 : decode cX5_copyFrom 52 = .ok (.aload_n 0, 1) := by decide +kernel
theorem dX5_copyFrom_53 : decode cX5_copyFrom 53 = .ok (.getfield 23, 3) := by decide +kernel
theorem dX5_copyFrom_56 : decode cX5_copyFrom 56 = .ok (.iload_n 2, 1) := by decide +kernel
theorem dX5_copyFrom_57 : decode cX5_copyFrom 57 = .ok (.aaload, 1) := by decide +kernel
theorem dX5_copyFrom_58 : decode cX5_copyFrom 58 = .ok (.aload_n 1, 1) := by decide +kernel
theorem dX5_copyFrom_59 : decode cX5_copyFrom 59 = .ok (.getfield 23, 3) := by decide +kernel
theorem dX5_copyFrom_62 : decode cX5_copyFrom 62 = .ok (.iload_n 2, 1) := by decide +kernel
theorem dX5_copyFrom_63 : decode cX5_copyFrom 63 = .ok (.aaload, 1) := by decide +kernel
theorem dX5_copyFrom_64 : decode cX5_copyFrom 64 = .ok (.invokevirtual 53, 3) := by decide +kernel
theorem dX5_copyFrom_67 : decode cX5_copyFrom 67 = .ok (.iinc 2 1, 3) := by decide +kernel
theorem dX5_copyFrom_70 : decode cX5_copyFrom 70 = .ok (.goto (-23), 3) := by decide +kernel
theorem dX5_copyFrom_73 : decode cX5_copyFrom 73 = .ok (.aload_n 0, 1) := by decide +kernel
theorem dX5_copyFrom_74 : decode cX5_copyFrom 74 = .ok (.aload_n 1, 1) := by decide +kernel
theorem dX5_copyFrom_75 : decode cX5_copyFrom 75 = .ok (.getfield 27, 3) := by decide +kernel
theorem dX5_copyFrom_78 : decode cX5_copyFrom 78 = .ok (.putfield 27, 3) := by decide +kernel
theorem dX5_copyFrom_81 : decode cX5_copyFrom 81 = .ok (.aload_n 0, 1) := by decide +kernel
theorem dX5_copyFrom_82 : decode cX5_copyFrom 82 = .ok (.aload_n 1, 1) := by decide +kernel
theorem dX5_copyFrom_83 : decode cX5_copyFrom 83 = .ok (.getfield 31, 3) := by decide +kernel
theorem dX5_copyFrom_86 : decode cX5_copyFrom 86 = .ok (.putfield 31, 3) := by decide +kernel
theorem dX5_copyFrom_89 : decode cX5_copyFrom 89 = .ok (.aload_n 0, 1) := by decide +kernel
theorem dX5_copyFrom_90 : decode cX5_copyFrom 90 = .ok (.aload_n 1, 1) := by decide +kernel
theorem dX5_copyFrom_91 : decode cX5_copyFrom 91 = .ok (.getfield 34, 3) := by decide +kernel
theorem dX5_copyFrom_94 : decode cX5_copyFrom 94 = .ok (.putfield 34, 3) := by decide +kernel
theorem dX5_copyFrom_97 : decode cX5_copyFrom 97 = .ok (.aload_n 0, 1) := by decide +kernel
theorem dX5_copyFrom_98 : decode cX5_copyFrom 98 = .ok (.aload_n 1, 1) := by decide +kernel
theorem dX5_copyFrom_99 : decode cX5_copyFrom 99 = .ok (.getfield 37, 3) := by decide +kernel
theorem dX5_copyFrom_102 : decode cX5_copyFrom 102 = .ok (.putfield 37, 3) := by decide +kernel
theorem dX5_copyFrom_105 : decode cX5_copyFrom 105 = .ok (.aload_n 0, 1) := by decide +kernel
theorem dX5_copyFrom_106 : decode cX5_copyFrom 106 = .ok (.aload_n 1, 1) := by decide +kernel
theorem dX5_copyFrom_107 : decode cX5_copyFrom 107 = .ok (.getfield 40, 3) := by decide +kernel
theorem dX5_copyFrom_110 : decode cX5_copyFrom 110 = .ok (.putfield 40, 3) := by decide +kernel
theorem dX5_copyFrom_113 : decode cX5_copyFrom 113 = .ok (.return_, 1) := by decide +kernel
set_option maxHeartbeats 4000000 in
set_option maxRecDepth 100000 in
theorem c_isWithin (l : Launch) (E : hE) (ρ : Nat → Nat → Int32) (v lo hi : Int32) (a b : Int) (ha : lo.toInt = a) (hb2 : hi.toInt = b) : Met l yX6_isWithin (.code yX6_isWithin cX6_isWithin 3 (some .boolean) :: gw_all) (rmk 0 0) (cPre E ρ [.int v, .int lo, .int hi]) (cI E (fun r ρ1 => ρ = ρ1 ∧ ((r = 1 ∧ iR v a b) ∨ (r = 0 ∧ ¬ iR v a b)))) 0 0 (hA E) := by
  refine ent (own := RX6) (by decide) rfl (Nat.le_of_ble_eq_true rfl) ?_
  intro p e s m below meth c ls B hr hlk hl hP hS
  have hx := B.1.1
  have hb := B.1.2.1
  have hown := B.1.2.2.2.1
  have hts := B.1.2.2.2.2
  have hl : lv_has ls 3 [(0, .int v), (1, .int lo), (2, .int hi)] := hl
  refine lv_iload_n hx hb dX6_isWithin_0 rfl (lv_at hl 0 rfl) ?_
  refine lv_iload_n hx hb dX6_isWithin_1 rfl (lv_at hl 1 rfl) ?_
  refine lv_icmp_lt (tgt := 14) hx hb dX6_isWithin_2 (by decide) (fun c1 => ?_) (fun c1 => ?_)
  · skip
    refine lv_iconst (v := 0) hx hb dX6_isWithin_14 (by decide) ?_
    exact ret_z B hr hlk hP hS dX6_isWithin_15 (Or.inl rfl) (⟨rfl, Or.inr ⟨rfl, iR_lo ha c1⟩⟩)
  · skip
    refine lv_iload_n hx hb dX6_isWithin_5 rfl (lv_at hl 0 rfl) ?_
    refine lv_iload_n hx hb dX6_isWithin_6 rfl (lv_at hl 2 rfl) ?_
    refine lv_icmp_gt (tgt := 14) hx hb dX6_isWithin_7 (by decide) (fun c2 => ?_) (fun c2 => ?_)
    · skip
      refine lv_iconst (v := 0) hx hb dX6_isWithin_14 (by decide) ?_
      exact ret_z B hr hlk hP hS dX6_isWithin_15 (Or.inl rfl) (⟨rfl, Or.inr ⟨rfl, iR_hi hb2 c2⟩⟩)
    · skip
      refine lv_iconst (v := 1) hx hb dX6_isWithin_10 (by decide) ?_
      refine lv_goto (tgt := 15) hx hb dX6_isWithin_11 (by decide) ?_
      exact ret_z B hr hlk hP hS dX6_isWithin_15 (Or.inr rfl) (⟨rfl, Or.inl ⟨rfl, iR_in ha hb2 c1 c2⟩⟩)

theorem lk_RX6_54 : LkS RX6 54 yX6_isWithin cX6_isWithin 3 (some .boolean) 3 := ⟨⟨mw_455, mw_456, mw_52, mw_457⟩, by decide +kernel⟩
set_option maxHeartbeats 4000000 in
set_option maxRecDepth 100000 in
theorem c_isEvenWithin (l : Launch) (E : hE) (ρ : Nat → Nat → Int32) (v lo hi : Int32) (a b : Int) (ha : lo.toInt = a) (hb2 : hi.toInt = b) : Met l yX6_isEvenWithin (.code yX6_isEvenWithin cX6_isEvenWithin 3 (some .boolean) :: gw_all) (rmk 1 40) (cPre E ρ [.int v, .int lo, .int hi]) (cI E (fun r ρ1 => ρ = ρ1 ∧ ((r = 1 ∧ iR v a b ∧ ev v) ∨ (r = 0 ∧ ¬ (iR v a b ∧ ev v))))) 0 0 (hA E) := by
  refine ent (own := RX6) (by decide) rfl (Nat.le_of_ble_eq_true rfl) ?_
  intro p e s m below meth c ls B hr hlk hl hP hS
  have hx := B.1.1
  have hb := B.1.2.1
  have hown := B.1.2.2.2.1
  have hts := B.1.2.2.2.2
  have hl : lv_has ls 3 [(0, .int v), (1, .int lo), (2, .int hi)] := hl
  refine lv_iload_n hx hb dX6_isEvenWithin_0 rfl (lv_at hl 0 rfl) ?_
  refine lv_iload_n hx hb dX6_isEvenWithin_1 rfl (lv_at hl 1 rfl) ?_
  refine lv_iload_n hx hb dX6_isEvenWithin_2 rfl (lv_at hl 2 rfl) ?_
  refine call_i (cS (av := [.int v, .int lo, .int hi]) (rest := []) B hP hS (c_isWithin l E ρ v lo hi a b ha hb2) lk_RX6_54 rfl rfl hl.1 (Nat.le_of_ble_eq_true rfl) ⟨Nat.le_of_ble_eq_true rfl, Nat.le_of_ble_eq_true rfl⟩ ⟨Nat.le_of_ble_eq_true rfl, Nat.le_of_ble_eq_true rfl⟩ dX6_isEvenWithin_3) hS (fun r1 ρ2 H locs q3 hP hS => ?_)
  obtain ⟨rfl, q3⟩ := q3
  rcases q3 with ⟨rfl, q3⟩ | ⟨rfl, q3⟩
  · skip
    refine lv_if_eq (tgt := 19) hx hb dX6_isEvenWithin_6 (by decide) (fun c4 => absurd c4 (by decide)) (fun _ => ?_)
    refine lv_iload_n hx hb dX6_isEvenWithin_9 rfl (lv_at hl 0 rfl) ?_
    refine lv_iconst (v := 2) hx hb dX6_isEvenWithin_10 (by decide) ?_
    refine lv_irem hx hb dX6_isEvenWithin_11 (by decide) ?_
    refine lv_if_ne (tgt := 19) hx hb dX6_isEvenWithin_12 (by decide) (fun c5 => ?_) (fun c5 => ?_)
    · skip
      refine lv_iconst (v := 0) hx hb dX6_isEvenWithin_19 (by decide) ?_
      exact ret_z B hr hlk hP hS dX6_isEvenWithin_20 (Or.inl rfl) (⟨rfl, Or.inr ⟨rfl, fun z => c5 z.2⟩⟩)
    · skip
      refine lv_iconst (v := 1) hx hb dX6_isEvenWithin_15 (by decide) ?_
      refine lv_goto (tgt := 20) hx hb dX6_isEvenWithin_16 (by decide) ?_
      exact ret_z B hr hlk hP hS dX6_isEvenWithin_20 (Or.inr rfl) (⟨rfl, Or.inl ⟨rfl, q3, c5⟩⟩)
  · skip
    refine lv_if_eq (tgt := 19) hx hb dX6_isEvenWithin_6 (by decide) (fun _ => ?_) (fun c6 => absurd c6 (by decide))
    refine lv_iconst (v := 0) hx hb dX6_isEvenWithin_19 (by decide) ?_
    exact ret_z B hr hlk hP hS dX6_isEvenWithin_20 (Or.inl rfl) (⟨rfl, Or.inr ⟨rfl, fun z => q3 z.1⟩⟩)

theorem lk_RX6_156 : LkS RX6 156 yX6_isEvenWithin cX6_isEvenWithin 3 (some .boolean) 3 := ⟨⟨mw_565, mw_566, mw_52, mw_567⟩, by decide +kernel⟩
set_option maxHeartbeats 4000000 in
set_option maxRecDepth 100000 in
theorem c_isTerm (l : Launch) (E : hE) (ρ : Nat → Nat → Int32) (w v : Int32) : Met l yX6_isTerm (.code yX6_isTerm cX6_isTerm 2 (some .boolean) :: gw_all) (rmk 2 80) (cPre E ρ [.int w, .int v]) (cI E (fun r ρ1 => ρ = ρ1 ∧ ((r = 1 ∧ tm w v) ∨ (r = 0 ∧ ¬ tm w v)))) 0 0 (hA E) := by
  refine ent (own := RX6) (by decide) rfl (Nat.le_of_ble_eq_true rfl) ?_
  intro p e s m below meth c ls B hr hlk hl hP hS
  have hx := B.1.1
  have hb := B.1.2.1
  have hown := B.1.2.2.2.1
  have hts := B.1.2.2.2.2
  have hl : lv_has ls 2 [(0, .int w), (1, .int v)] := hl
  refine lv_iload_n hx hb dX6_isTerm_0 rfl (lv_at hl 0 rfl) ?_
  rcases sw_split (x := w) (lo := 0) (hi := 2) (by decide) with c1 | c1
  · skip
    refine lv_tableOut (tgt := 52) hx hb dX6_isTerm_1 c1 (by decide) ?_
    refine lv_iconst (v := 0) hx hb dX6_isTerm_52 (by decide) ?_
    exact ret_z B hr hlk hP hS dX6_isTerm_53 (Or.inl rfl) (⟨rfl, Or.inr ⟨rfl, tm_out c1⟩⟩)
  · skip
    rcases sw_step (x := w) (n := 0) (n' := 1) (by decide) c1 with c1 | c1
    · skip
      refine lv_tableIn (off := 27) (tgt := 28) hx hb dX6_isTerm_1 (by rw [c1]; decide) (by rw [c1]; decide) (by rw [c1]; decide) (by decide) ?_
      refine lv_iload_n hx hb dX6_isTerm_28 rfl (lv_at hl 1 rfl) ?_
      refine lv_iconst (v := 0) hx hb dX6_isTerm_29 (by decide) ?_
      refine lv_ldcw (v := 1000000) hx hb hown (hts _ mw_564) dX6_isTerm_30 ?_
      refine call_i (cS (av := [.int v, .int 0, .int 1000000]) (rest := []) B hP hS (c_isWithin l E ρ v 0 1000000 0 1000000 (by decide) (by decide)) lk_RX6_54 rfl rfl hl.1 (Nat.le_of_ble_eq_true rfl) ⟨Nat.le_of_ble_eq_true rfl, Nat.le_of_ble_eq_true rfl⟩ ⟨Nat.le_of_ble_eq_true rfl, Nat.le_of_ble_eq_true rfl⟩ dX6_isTerm_33) hS (fun r2 ρ3 H locs q4 hP hS => ?_)
      obtain ⟨rfl, q4⟩ := q4
      rcases q4 with ⟨rfl, q4⟩ | ⟨rfl, q4⟩
      · skip
        exact ret_z B hr hlk hP hS dX6_isTerm_36 (Or.inr rfl) (⟨rfl, Or.inl ⟨rfl, tm_0 c1 q4⟩⟩)
      · skip
        exact ret_z B hr hlk hP hS dX6_isTerm_36 (Or.inl rfl) (⟨rfl, Or.inr ⟨rfl, tm_n0 c1 q4⟩⟩)
    · skip
      rcases sw_step (x := w) (n := 1) (n' := 2) (by decide) c1 with c1 | c1
      · skip
        refine lv_tableIn (off := 36) (tgt := 37) hx hb dX6_isTerm_1 (by rw [c1]; decide) (by rw [c1]; decide) (by rw [c1]; decide) (by decide) ?_
        refine lv_iload_n hx hb dX6_isTerm_37 rfl (lv_at hl 1 rfl) ?_
        refine lv_iconst (v := 0) hx hb dX6_isTerm_38 (by decide) ?_
        refine lv_bipush (v := 32) hx hb dX6_isTerm_39 (by decide) ?_
        refine call_i (cS (av := [.int v, .int 0, .int 32]) (rest := []) B hP hS (c_isEvenWithin l E ρ v 0 32 0 32 (by decide) (by decide)) lk_RX6_156 rfl rfl hl.1 (Nat.le_of_ble_eq_true rfl) ⟨Nat.le_of_ble_eq_true rfl, Nat.le_of_ble_eq_true rfl⟩ ⟨Nat.le_of_ble_eq_true rfl, Nat.le_of_ble_eq_true rfl⟩ dX6_isTerm_41) hS (fun r5 ρ6 H locs q7 hP hS => ?_)
        obtain ⟨rfl, q7⟩ := q7
        rcases q7 with ⟨rfl, q7⟩ | ⟨rfl, q7⟩
        · skip
          exact ret_z B hr hlk hP hS dX6_isTerm_44 (Or.inr rfl) (⟨rfl, Or.inl ⟨rfl, tm_1 c1 q7⟩⟩)
        · skip
          exact ret_z B hr hlk hP hS dX6_isTerm_44 (Or.inl rfl) (⟨rfl, Or.inr ⟨rfl, tm_n1 c1 q7⟩⟩)
      · skip
        have c1 := sw_last (n := 2) c1
        refine lv_tableIn (off := 44) (tgt := 45) hx hb dX6_isTerm_1 (by rw [c1]; decide) (by rw [c1]; decide) (by rw [c1]; decide) (by decide) ?_
        refine lv_iload_n hx hb dX6_isTerm_45 rfl (lv_at hl 1 rfl) ?_
        refine lv_iconst (v := 1) hx hb dX6_isTerm_46 (by decide) ?_
        refine lv_iconst (v := 4) hx hb dX6_isTerm_47 (by decide) ?_
        refine call_i (cS (av := [.int v, .int 1, .int 4]) (rest := []) B hP hS (c_isWithin l E ρ v 1 4 1 4 (by decide) (by decide)) lk_RX6_54 rfl rfl hl.1 (Nat.le_of_ble_eq_true rfl) ⟨Nat.le_of_ble_eq_true rfl, Nat.le_of_ble_eq_true rfl⟩ ⟨Nat.le_of_ble_eq_true rfl, Nat.le_of_ble_eq_true rfl⟩ dX6_isTerm_48) hS (fun r8 ρ9 H locs q10 hP hS => ?_)
        obtain ⟨rfl, q10⟩ := q10
        rcases q10 with ⟨rfl, q10⟩ | ⟨rfl, q10⟩
        · skip
          exact ret_z B hr hlk hP hS dX6_isTerm_51 (Or.inr rfl) (⟨rfl, Or.inl ⟨rfl, tm_2 c1 q10⟩⟩)
        · skip
          exact ret_z B hr hlk hP hS dX6_isTerm_51 (Or.inl rfl) (⟨rfl, Or.inr ⟨rfl, tm_n2 c1 q10⟩⟩)

set_option maxHeartbeats 4000000 in
set_option maxRecDepth 100000 in
theorem c_refuse (l : Launch) (E : hE) (ρ : Nat → Nat → Int32) (w : Int32) : Met l yX6_refuse (.code yX6_refuse cX6_refuse 3 (some .int) :: gw_all) (rmk 0 0) (cPre E ρ [.ref (E.2.1 + 0), .int w]) (cI E (fun r ρ1 => w = r ∧ ∀ k, k ≠ 0 → k ≠ 183 → ρ1 k = ρ k)) 0 0 (hA E) := by
  refine ent (own := RX6) (by decide) rfl (Nat.le_of_ble_eq_true rfl) ?_
  intro p e s m below meth c ls B hr hlk hl hP hS
  have hx := B.1.1
  have hb := B.1.2.1
  have hown := B.1.2.2.2.1
  have hts := B.1.2.2.2.2
  have hl : lv_has ls 3 [(0, .ref (E.2.1 + 0)), (1, .int w)] := hl
  refine lv_aload_n hx hb dX6_refuse_0 rfl (lv_at hl 0 rfl) ?_
  refine lv_iload_n hx hb dX6_refuse_1 rfl (lv_at hl 1 rfl) ?_
  refine put6 B hP hS (by decide +kernel) 9 (by decide) mw_421 rfl rfl rfl (fs6_9 E 0 _ _) dX6_refuse_2 (fun H locs hP hS => ?_)
  obtain ⟨ρ1, e2⟩ : ∃ z, z = up ρ 0 9 w := ⟨_, rfl⟩
  rw [← e2] at hP
  have F3 : ∀ k, k ≠ 0 → k ≠ 183 → ρ1 k = ρ k := fun k t0 t1 => by rw [e2, up_ne _ _ _ t0]
  refine lv_iload_n hx hb dX6_refuse_5 rfl (lv_at hl 1 rfl) ?_
  refine lv_ineg hx hb dX6_refuse_6 ?_
  refine lv_iconst (v := 1) hx hb dX6_refuse_7 (by decide) ?_
  refine lv_isub hx hb dX6_refuse_8 ?_
  refine lv_istore_n (lv' := [(2, .int ((-w) - 1)), (0, .ref (E.2.1 + 0)), (1, .int w)]) hx hb dX6_refuse_9 rfl hl (by decide) rfl (fun ls hl => ?_)
  refine lv_iload_n hx hb dX6_refuse_10 rfl (lv_at hl 0 rfl) ?_
  refine lv_if_lt (tgt := 33) hx hb dX6_refuse_11 (by decide) (fun c4 => ?_) (fun c4 => ?_)
  · skip
    refine lv_iload_n hx hb dX6_refuse_33 rfl (lv_at hl 2 rfl) ?_
    exact ret_i B hr hlk hP hS dX6_refuse_34 (⟨rfl, F3⟩)
  · skip
    refine lv_iload_n hx hb dX6_refuse_14 rfl (lv_at hl 0 rfl) ?_
    refine lv_aload_n hx hb dX6_refuse_15 rfl (lv_at hl 1 rfl) ?_
    refine get6 B hP (by decide +kernel) 8 (by decide) mw_420 rfl dX6_refuse_16 ?_
    refine alen8 (n := 5) B hP (by decide +kernel) (by decide +kernel) (v := 5) (by decide) dX6_refuse_19 ?_
    refine lv_icmp_ge (tgt := 33) hx hb dX6_refuse_20 (by decide) (fun c5 => ?_) (fun c5 => ?_)
    · skip
      refine lv_iload_n hx hb dX6_refuse_33 rfl (lv_at hl 2 rfl) ?_
      exact ret_i B hr hlk hP hS dX6_refuse_34 (⟨rfl, F3⟩)
    · skip
      refine lv_aload_n hx hb dX6_refuse_23 rfl (lv_at hl 1 rfl) ?_
      refine get6 B hP (by decide +kernel) 8 (by decide) mw_420 rfl dX6_refuse_24 ?_
      refine lv_iload_n hx hb dX6_refuse_27 rfl (lv_at hl 0 rfl) ?_
      refine lv_dup2_11 hx hb dX6_refuse_28 rfl rfl ?_
      obtain ⟨j6, hj6, ej6⟩ := ix_of (L := 5) (n := 5) rfl c4 c5
      refine aldn (n := 5) (j := j6) B hP (by decide +kernel) (by decide +kernel) ej6 hj6 (by decide) dX6_refuse_29 ?_
      refine lv_iconst (v := 1) hx hb dX6_refuse_30 (by decide) ?_
      refine lv_iadd hx hb dX6_refuse_31 ?_
      refine astn (n := 5) (j := j6) B hP hS (by decide +kernel) (by decide +kernel) ej6 hj6 (by decide) dX6_refuse_32 (fun H locs hP hS => ?_)
      obtain ⟨ρ8, e9⟩ : ∃ z, z = up ρ1 183 j6 ((ρ1 183 j6) + 1) := ⟨_, rfl⟩
      rw [← e9] at hP
      have F10 : ∀ k, k ≠ 0 → k ≠ 183 → ρ8 k = ρ k := fun k t0 t1 => by rw [e9, up_ne _ _ _ t1]; exact F3 k t0 t1
      refine lv_iload_n hx hb dX6_refuse_33 rfl (lv_at hl 2 rfl) ?_
      exact ret_i B hr hlk hP hS dX6_refuse_34 (⟨rfl, F10⟩)

set_option maxHeartbeats 4000000 in
set_option maxRecDepth 100000 in
theorem c_accept (l : Launch) (E : hE) (ρ : Nat → Nat → Int32) (w : Int32) : Met l yX6_accept (.code yX6_accept cX6_accept 2 (some .int) :: gw_all) (rmk 0 0) (cPre E ρ [.ref (E.2.1 + 0), .int w]) (cI E (fun r ρ1 => w = r ∧ ∀ k, k ≠ 0 → k ≠ 183 → ρ1 k = ρ k)) 0 0 (hA E) := by
  refine ent (own := RX6) (by decide) rfl (Nat.le_of_ble_eq_true rfl) ?_
  intro p e s m below meth c ls B hr hlk hl hP hS
  have hx := B.1.1
  have hb := B.1.2.1
  have hown := B.1.2.2.2.1
  have hts := B.1.2.2.2.2
  have hl : lv_has ls 2 [(0, .ref (E.2.1 + 0)), (1, .int w)] := hl
  refine lv_aload_n hx hb dX6_accept_0 rfl (lv_at hl 0 rfl) ?_
  refine lv_iconst (v := 0) hx hb dX6_accept_1 (by decide) ?_
  refine put6 B hP hS (by decide +kernel) 9 (by decide) mw_421 rfl rfl rfl (fs6_9 E 0 _ _) dX6_accept_2 (fun H locs hP hS => ?_)
  obtain ⟨ρ1, e2⟩ : ∃ z, z = up ρ 0 9 0 := ⟨_, rfl⟩
  rw [← e2] at hP
  have F3 : ∀ k, k ≠ 0 → k ≠ 183 → ρ1 k = ρ k := fun k t0 t1 => by rw [e2, up_ne _ _ _ t0]
  refine lv_iload_n hx hb dX6_accept_5 rfl (lv_at hl 1 rfl) ?_
  exact ret_i B hr hlk hP hS dX6_accept_6 (⟨rfl, F3⟩)

set_option maxHeartbeats 4000000 in
set_option maxRecDepth 100000 in
theorem c_Plan_copyFrom (l : Launch) (E : hE) (ρ : Nat → Nat → Int32) (k1 k2 : Nat) (h1 : hk k1 = 3) (h2 : hk k2 = 3) (ha : ∀ j, ρ k1 j = ρ k2 j) : Met l yX3_copyFrom (.code yX3_copyFrom cX3_copyFrom 2 none :: gw_all) (rmk 0 0) (cPre E ρ [.ref (E.2.1 + k1), .ref (E.2.1 + k2)]) (cV E (fun ρ1 => ρ = ρ1)) 0 0 (hA E) := by
  refine ent (own := RX3) (by decide) rfl (Nat.le_of_ble_eq_true rfl) ?_
  intro p e s m below meth c ls B hr hlk hl hP hS
  have hx := B.1.1
  have hb := B.1.2.1
  have hown := B.1.2.2.2.1
  have hts := B.1.2.2.2.2
  have hl : lv_has ls 2 [(0, .ref (E.2.1 + k1)), (1, .ref (E.2.1 + k2))] := hl
  refine lv_aload_n hx hb dX3_copyFrom_0 rfl (lv_at hl 0 rfl) ?_
  refine lv_aload_n hx hb dX3_copyFrom_1 rfl (lv_at hl 1 rfl) ?_
  refine get3 B hP h2 0 (by decide) mw_91 rfl dX3_copyFrom_2 ?_
  refine put3 B hP hS h1 0 (by decide) mw_91 rfl rfl rfl (fs3_0 E k1 _ _) dX3_copyFrom_5 (fun H locs hP hS => ?_)
  rw [up_self ρ (ha 0)] at hP
  refine lv_aload_n hx hb dX3_copyFrom_8 rfl (lv_at hl 0 rfl) ?_
  refine lv_aload_n hx hb dX3_copyFrom_9 rfl (lv_at hl 1 rfl) ?_
  refine get3 B hP h2 1 (by decide) mw_96 rfl dX3_copyFrom_10 ?_
  refine put3 B hP hS h1 1 (by decide) mw_96 rfl rfl rfl (fs3_1 E k1 _ _) dX3_copyFrom_13 (fun H locs hP hS => ?_)
  rw [up_self ρ (ha 1)] at hP
  refine lv_aload_n hx hb dX3_copyFrom_16 rfl (lv_at hl 0 rfl) ?_
  refine lv_aload_n hx hb dX3_copyFrom_17 rfl (lv_at hl 1 rfl) ?_
  refine get3 B hP h2 2 (by decide) mw_99 rfl dX3_copyFrom_18 ?_
  refine put3 B hP hS h1 2 (by decide) mw_99 rfl rfl rfl (fs3_2 E k1 _ _) dX3_copyFrom_21 (fun H locs hP hS => ?_)
  rw [up_self ρ (ha 2)] at hP
  exact ret_v B hr hlk hP hS dX3_copyFrom_24 (rfl)

theorem lk_RX2_83 : LkV RX2 83 RX3 yX3_copyFrom cX3_copyFrom 2 none 1 := ⟨⟨mw_477, mw_478, mw_479, mw_55, mw_480⟩, by decide +kernel⟩
set_option maxHeartbeats 4000000 in
set_option maxRecDepth 100000 in
theorem c_Net_copyFrom (l : Launch) (E : hE) (ρ : Nat → Nat → Int32) (k1 k2 : Nat) (h1 : hk k1 = 2) (h2 : hk k2 = 2) (ha : ∀ r, r < 5 → ∀ j, ρ (k1 + r) j = ρ (k2 + r) j) (hz : ρ k2 8 = 0) : Met l yX2_copyFrom (.code yX2_copyFrom cX2_copyFrom 3 none :: gw_all) (rmk 1 40) (cPre E ρ [.ref (E.2.1 + k1), .ref (E.2.1 + k2)]) (cV E (fun ρ1 => ρ = ρ1)) 0 0 (hA E) := by
  refine ent (own := RX2) (by decide) rfl (Nat.le_of_ble_eq_true rfl) ?_
  intro p e s m below meth c ls B hr hlk hl hP hS
  have hx := B.1.1
  have hb := B.1.2.1
  have hown := B.1.2.2.2.1
  have hts := B.1.2.2.2.2
  have hl : lv_has ls 3 [(0, .ref (E.2.1 + k1)), (1, .ref (E.2.1 + k2))] := hl
  refine lv_aload_n hx hb dX2_copyFrom_0 rfl (lv_at hl 0 rfl) ?_
  refine get2 B hP h1 0 (by decide) mw_282 rfl dX2_copyFrom_1 ?_
  refine lv_aload_n hx hb dX2_copyFrom_4 rfl (lv_at hl 1 rfl) ?_
  refine get2 B hP h2 0 (by decide) mw_282 rfl dX2_copyFrom_5 ?_
  refine call_v (cVt (k := (k1 + 1)) (av := [.ref (E.2.1 + (k2 + 1))]) (rest := []) B hP hS (c_Plan_copyFrom l E ρ (k1 + 1) (k2 + 1) (lay2 h1).1 (lay2 h2).1 (ha 1 (by decide))) lk_RX2_83 (hrecv (ci := 3) B hP (hk_lt (c := 3) (lay2 h1).1 (by decide)) (hcc3 _ _ (lay2 h1).1) rfl) rfl rfl hl.1 (Nat.le_of_ble_eq_true rfl) ⟨Nat.le_of_ble_eq_true rfl, Nat.le_of_ble_eq_true rfl⟩ ⟨Nat.le_of_ble_eq_true rfl, Nat.le_of_ble_eq_true rfl⟩ dX2_copyFrom_8) hS (fun ρ2 H locs q3 hP hS => ?_)
  obtain rfl := q3
  refine lv_aload_n hx hb dX2_copyFrom_11 rfl (lv_at hl 1 rfl) ?_
  refine get2 B hP h2 1 (by decide) mw_285 rfl dX2_copyFrom_12 ?_
  refine lv_iconst (v := 0) hx hb dX2_copyFrom_15 (by decide) ?_
  refine lv_aload_n hx hb dX2_copyFrom_16 rfl (lv_at hl 0 rfl) ?_
  refine get2 B hP h1 1 (by decide) mw_285 rfl dX2_copyFrom_17 ?_
  refine lv_iconst (v := 0) hx hb dX2_copyFrom_20 (by decide) ?_
  refine lv_iconst (v := 4) hx hb dX2_copyFrom_21 (by decide) ?_
  refine acopy (n := 4) B hP hS (lay2 h2).2.1 (lay2 h1).2.1 (lay2 h2).2.2.1 (lay2 h1).2.2.1 rfl (by decide) hl.1 mw_481 mw_472 mw_471 mw_60 (Nat.le_of_ble_eq_true rfl) (Nat.le_of_ble_eq_true rfl) dX2_copyFrom_22 (fun H locs hP hS => ?_)
  rw [upc_self ρ (cpy_self (fun j _ => ha 2 (by decide) j))] at hP
  refine lv_aload_n hx hb dX2_copyFrom_25 rfl (lv_at hl 1 rfl) ?_
  refine get2 B hP h2 2 (by decide) mw_287 rfl dX2_copyFrom_26 ?_
  refine lv_iconst (v := 0) hx hb dX2_copyFrom_29 (by decide) ?_
  refine lv_aload_n hx hb dX2_copyFrom_30 rfl (lv_at hl 0 rfl) ?_
  refine get2 B hP h1 2 (by decide) mw_287 rfl dX2_copyFrom_31 ?_
  refine lv_iconst (v := 0) hx hb dX2_copyFrom_34 (by decide) ?_
  refine lv_bipush (v := 23) hx hb dX2_copyFrom_35 (by decide) ?_
  refine acopy (n := 23) B hP hS (lay2 h2).2.2.2.1 (lay2 h1).2.2.2.1 (lay2 h2).2.2.2.2.1 (lay2 h1).2.2.2.2.1 rfl (by decide) hl.1 mw_481 mw_472 mw_471 mw_60 (Nat.le_of_ble_eq_true rfl) (Nat.le_of_ble_eq_true rfl) dX2_copyFrom_37 (fun H locs hP hS => ?_)
  rw [upc_self ρ (cpy_self (fun j _ => ha 3 (by decide) j))] at hP
  refine lv_aload_n hx hb dX2_copyFrom_40 rfl (lv_at hl 1 rfl) ?_
  refine get2 B hP h2 3 (by decide) mw_289 rfl dX2_copyFrom_41 ?_
  refine lv_iconst (v := 0) hx hb dX2_copyFrom_44 (by decide) ?_
  refine lv_aload_n hx hb dX2_copyFrom_45 rfl (lv_at hl 0 rfl) ?_
  refine get2 B hP h1 3 (by decide) mw_289 rfl dX2_copyFrom_46 ?_
  refine lv_iconst (v := 0) hx hb dX2_copyFrom_49 (by decide) ?_
  refine lv_bipush (v := 23) hx hb dX2_copyFrom_50 (by decide) ?_
  refine acopy (n := 23) B hP hS (lay2 h2).2.2.2.2.2.1 (lay2 h1).2.2.2.2.2.1 (lay2 h2).2.2.2.2.2.2.1 (lay2 h1).2.2.2.2.2.2.1 rfl (by decide) hl.1 mw_481 mw_472 mw_471 mw_60 (Nat.le_of_ble_eq_true rfl) (Nat.le_of_ble_eq_true rfl) dX2_copyFrom_52 (fun H locs hP hS => ?_)
  rw [upc_self ρ (cpy_self (fun j _ => ha 4 (by decide) j))] at hP
  refine lv_iconst (v := 0) hx hb dX2_copyFrom_55 (by decide) ?_
  refine lv_istore_n (lv' := [(2, .int 0), (0, .ref (E.2.1 + k1)), (1, .ref (E.2.1 + k2))]) hx hb dX2_copyFrom_56 rfl hl (by decide) rfl (fun ls hl => ?_)
  refine lv_iload_n hx hb dX2_copyFrom_57 rfl (lv_at hl 0 rfl) ?_
  refine lv_aload_n hx hb dX2_copyFrom_58 rfl (lv_at hl 2 rfl) ?_
  refine get2 B hP h2 8 (by decide) mw_303 (v := .int 0) (show some (Value.int (ρ k2 8)) = some (Value.int 0) from congrArg (fun z => some (Value.int z)) hz) dX2_copyFrom_59 ?_
  refine lv_icmp_ge (tgt := 91) hx hb dX2_copyFrom_62 (by decide) (fun _ => ?_) (fun c4 => absurd c4 (by decide))
  refine lv_aload_n hx hb dX2_copyFrom_91 rfl (lv_at hl 1 rfl) ?_
  refine lv_aload_n hx hb dX2_copyFrom_92 rfl (lv_at hl 2 rfl) ?_
  refine get2 B hP h2 5 (by decide) mw_294 rfl dX2_copyFrom_93 ?_
  refine put2 B hP hS h1 5 (by decide) mw_294 rfl rfl rfl (fs2_5 E k1 _ _) dX2_copyFrom_96 (fun H locs hP hS => ?_)
  rw [up_self ρ (show ρ k1 5 = ρ k2 5 from ha 0 (by decide) 5)] at hP
  refine lv_aload_n hx hb dX2_copyFrom_99 rfl (lv_at hl 1 rfl) ?_
  refine lv_aload_n hx hb dX2_copyFrom_100 rfl (lv_at hl 2 rfl) ?_
  refine get2 B hP h2 6 (by decide) mw_297 rfl dX2_copyFrom_101 ?_
  refine put2 B hP hS h1 6 (by decide) mw_297 rfl rfl rfl (fs2_6 E k1 _ _) dX2_copyFrom_104 (fun H locs hP hS => ?_)
  rw [up_self ρ (show ρ k1 6 = ρ k2 6 from ha 0 (by decide) 6)] at hP
  refine lv_aload_n hx hb dX2_copyFrom_107 rfl (lv_at hl 1 rfl) ?_
  refine lv_aload_n hx hb dX2_copyFrom_108 rfl (lv_at hl 2 rfl) ?_
  refine get2 B hP h2 7 (by decide) mw_300 rfl dX2_copyFrom_109 ?_
  refine put2 B hP hS h1 7 (by decide) mw_300 rfl rfl rfl (fs2_7 E k1 _ _) dX2_copyFrom_112 (fun H locs hP hS => ?_)
  rw [up_self ρ (show ρ k1 7 = ρ k2 7 from ha 0 (by decide) 7)] at hP
  refine lv_aload_n hx hb dX2_copyFrom_115 rfl (lv_at hl 1 rfl) ?_
  refine lv_aload_n hx hb dX2_copyFrom_116 rfl (lv_at hl 2 rfl) ?_
  refine get2 B hP h2 8 (by decide) mw_303 (v := .int 0) (show some (Value.int (ρ k2 8)) = some (Value.int 0) from congrArg (fun z => some (Value.int z)) hz) dX2_copyFrom_117 ?_
  refine put2 B hP hS h1 8 (by decide) mw_303 rfl rfl rfl (fs2_8 E k1 _ _) dX2_copyFrom_120 (fun H locs hP hS => ?_)
  rw [up_self ρ (show ρ k1 8 = 0 from (ha 0 (by decide) 8).trans hz)] at hP
  refine lv_aload_n hx hb dX2_copyFrom_123 rfl (lv_at hl 1 rfl) ?_
  refine lv_aload_n hx hb dX2_copyFrom_124 rfl (lv_at hl 2 rfl) ?_
  refine get2 B hP h2 9 (by decide) mw_306 rfl dX2_copyFrom_125 ?_
  refine put2 B hP hS h1 9 (by decide) mw_306 rfl rfl rfl (fs2_9 E k1 _ _) dX2_copyFrom_128 (fun H locs hP hS => ?_)
  rw [up_self ρ (show ρ k1 9 = ρ k2 9 from ha 0 (by decide) 9)] at hP
  refine lv_aload_n hx hb dX2_copyFrom_131 rfl (lv_at hl 1 rfl) ?_
  refine lv_aload_n hx hb dX2_copyFrom_132 rfl (lv_at hl 2 rfl) ?_
  refine get2 B hP h2 10 (by decide) mw_308 rfl dX2_copyFrom_133 ?_
  refine put2 B hP hS h1 10 (by decide) mw_308 rfl rfl rfl (fs2_10 E k1 _ _) dX2_copyFrom_136 (fun H locs hP hS => ?_)
  rw [up_self ρ (show ρ k1 10 = ρ k2 10 from ha 0 (by decide) 10)] at hP
  refine lv_aload_n hx hb dX2_copyFrom_139 rfl (lv_at hl 1 rfl) ?_
  refine lv_aload_n hx hb dX2_copyFrom_140 rfl (lv_at hl 2 rfl) ?_
  refine get2 B hP h2 11 (by decide) mw_309 rfl dX2_copyFrom_141 ?_
  refine put2 B hP hS h1 11 (by decide) mw_309 rfl rfl rfl (fs2_11 E k1 _ _) dX2_copyFrom_144 (fun H locs hP hS => ?_)
  rw [up_self ρ (show ρ k1 11 = ρ k2 11 from ha 0 (by decide) 11)] at hP
  refine lv_aload_n hx hb dX2_copyFrom_147 rfl (lv_at hl 1 rfl) ?_
  refine lv_aload_n hx hb dX2_copyFrom_148 rfl (lv_at hl 2 rfl) ?_
  refine get2 B hP h2 12 (by decide) mw_312 rfl dX2_copyFrom_149 ?_
  refine put2 B hP hS h1 12 (by decide) mw_312 rfl rfl rfl (fs2_12 E k1 _ _) dX2_copyFrom_152 (fun H locs hP hS => ?_)
  rw [up_self ρ (show ρ k1 12 = ρ k2 12 from ha 0 (by decide) 12)] at hP
  refine lv_aload_n hx hb dX2_copyFrom_155 rfl (lv_at hl 1 rfl) ?_
  refine lv_aload_n hx hb dX2_copyFrom_156 rfl (lv_at hl 2 rfl) ?_
  refine get2 B hP h2 13 (by decide) mw_314 rfl dX2_copyFrom_157 ?_
  refine put2 B hP hS h1 13 (by decide) mw_314 rfl rfl rfl (fs2_13 E k1 _ _) dX2_copyFrom_160 (fun H locs hP hS => ?_)
  rw [up_self ρ (show ρ k1 13 = ρ k2 13 from ha 0 (by decide) 13)] at hP
  exact ret_v B hr hlk hP hS dX2_copyFrom_163 (rfl)

theorem lk_RX5_53 : LkV RX5 53 RX2 yX2_copyFrom cX2_copyFrom 3 none 1 := ⟨⟨mw_473, mw_474, mw_475, mw_54, mw_476⟩, by decide +kernel⟩
set_option maxHeartbeats 4000000 in
set_option maxRecDepth 100000 in
theorem c_World_copyFrom (l : Launch) (E : hE) (ρ : Nat → Nat → Int32) (k1 k2 : Nat) (h1 : hk k1 = 5) (h2 : hk k2 = 5) (hne : k2 ≠ k1) (ha : ∀ r, 0 < r → r < 52 → r ≠ 10 → ∀ j, ρ (k1 + r) j = ρ (k2 + r) j) (hz : ρ (k2 + 5) 8 = 0 ∧ ρ (k2 + 47) 8 = 0) : Met l yX5_copyFrom (.code yX5_copyFrom cX5_copyFrom 3 none :: gw_all) (rmk 2 80) (cPre E ρ [.ref (E.2.1 + k1), .ref (E.2.1 + k2)]) (cV E (fun ρ1 => ρ1 = cpw ρ k1 k2)) 0 0 (hA E) := by
  refine ent (own := RX5) (by decide) rfl (Nat.le_of_ble_eq_true rfl) ?_
  intro p e s m below meth c ls B hr hlk hl hP hS
  have hx := B.1.1
  have hb := B.1.2.1
  have hown := B.1.2.2.2.1
  have hts := B.1.2.2.2.2
  have hl : lv_has ls 3 [(0, .ref (E.2.1 + k1)), (1, .ref (E.2.1 + k2))] := hl
  refine lv_aload_n hx hb dX5_copyFrom_0 rfl (lv_at hl 1 rfl) ?_
  refine get5 B hP h2 0 (by decide) mw_371 rfl dX5_copyFrom_1 ?_
  refine lv_iconst (v := 0) hx hb dX5_copyFrom_4 (by decide) ?_
  refine lv_aload_n hx hb dX5_copyFrom_5 rfl (lv_at hl 0 rfl) ?_
  refine get5 B hP h1 0 (by decide) mw_371 rfl dX5_copyFrom_6 ?_
  refine lv_iconst (v := 0) hx hb dX5_copyFrom_9 (by decide) ?_
  refine lv_bipush (v := 6) hx hb dX5_copyFrom_10 (by decide) ?_
  refine acopy (n := 6) B hP hS (lay5 h2).1 (lay5 h1).1 (lay5 h2).2.1 (lay5 h1).2.1 rfl (by decide) hl.1 mw_470 mw_472 mw_471 mw_60 (Nat.le_of_ble_eq_true rfl) (Nat.le_of_ble_eq_true rfl) dX5_copyFrom_12 (fun H locs hP hS => ?_)
  rw [upc_self ρ (cpy_self (fun j _ => ha 1 (by decide) (by decide) (by decide) j))] at hP
  refine lv_aload_n hx hb dX5_copyFrom_15 rfl (lv_at hl 1 rfl) ?_
  refine get5 B hP h2 1 (by decide) mw_373 rfl dX5_copyFrom_16 ?_
  refine lv_iconst (v := 0) hx hb dX5_copyFrom_19 (by decide) ?_
  refine lv_aload_n hx hb dX5_copyFrom_20 rfl (lv_at hl 0 rfl) ?_
  refine get5 B hP h1 1 (by decide) mw_373 rfl dX5_copyFrom_21 ?_
  refine lv_iconst (v := 0) hx hb dX5_copyFrom_24 (by decide) ?_
  refine lv_bipush (v := 23) hx hb dX5_copyFrom_25 (by decide) ?_
  refine acopy (n := 23) B hP hS (lay5 h2).2.2.1 (lay5 h1).2.2.1 (lay5 h2).2.2.2.1 (lay5 h1).2.2.2.1 rfl (by decide) hl.1 mw_470 mw_472 mw_471 mw_60 (Nat.le_of_ble_eq_true rfl) (Nat.le_of_ble_eq_true rfl) dX5_copyFrom_27 (fun H locs hP hS => ?_)
  rw [upc_self ρ (cpy_self (fun j _ => ha 2 (by decide) (by decide) (by decide) j))] at hP
  refine lv_aload_n hx hb dX5_copyFrom_30 rfl (lv_at hl 1 rfl) ?_
  refine get5 B hP h2 2 (by decide) mw_375 rfl dX5_copyFrom_31 ?_
  refine lv_iconst (v := 0) hx hb dX5_copyFrom_34 (by decide) ?_
  refine lv_aload_n hx hb dX5_copyFrom_35 rfl (lv_at hl 0 rfl) ?_
  refine get5 B hP h1 2 (by decide) mw_375 rfl dX5_copyFrom_36 ?_
  refine lv_iconst (v := 0) hx hb dX5_copyFrom_39 (by decide) ?_
  refine lv_bipush (v := 9) hx hb dX5_copyFrom_40 (by decide) ?_
  refine acopy (n := 9) B hP hS (lay5 h2).2.2.2.2.1 (lay5 h1).2.2.2.2.1 (lay5 h2).2.2.2.2.2.1 (lay5 h1).2.2.2.2.2.1 rfl (by decide) hl.1 mw_470 mw_472 mw_471 mw_60 (Nat.le_of_ble_eq_true rfl) (Nat.le_of_ble_eq_true rfl) dX5_copyFrom_42 (fun H locs hP hS => ?_)
  rw [upc_self ρ (cpy_self (fun j _ => ha 3 (by decide) (by decide) (by decide) j))] at hP
  refine lv_iconst (v := 0) hx hb dX5_copyFrom_45 (by decide) ?_
  refine lv_istore_n (lv' := [(2, .int 0), (0, .ref (E.2.1 + k1)), (1, .ref (E.2.1 + k2))]) hx hb dX5_copyFrom_46 rfl hl (by decide) rfl (fun ls hl => ?_)
  refine lv_iload_n hx hb dX5_copyFrom_47 rfl (lv_at hl 0 rfl) ?_
  refine lv_iconst (v := 2) hx hb dX5_copyFrom_48 (by decide) ?_
  refine lv_icmp_ge (tgt := 73) hx hb dX5_copyFrom_49 (by decide) (fun c1 => absurd c1 (by decide)) (fun _ => ?_)
  refine lv_aload_n hx hb dX5_copyFrom_52 rfl (lv_at hl 1 rfl) ?_
  refine get5 B hP h1 3 (by decide) mw_377 rfl dX5_copyFrom_53 ?_
  refine lv_iload_n hx hb dX5_copyFrom_56 rfl (lv_at hl 0 rfl) ?_
  refine aldNn B hP (lay5 h1).2.2.2.2.2.2.1 (lay5 h1).2.2.2.2.2.2.2.1 rfl (by decide) dX5_copyFrom_57 ?_
  refine lv_aload_n hx hb dX5_copyFrom_58 rfl (lv_at hl 2 rfl) ?_
  refine get5 B hP h2 3 (by decide) mw_377 rfl dX5_copyFrom_59 ?_
  refine lv_iload_n hx hb dX5_copyFrom_62 rfl (lv_at hl 0 rfl) ?_
  refine aldNn B hP (lay5 h2).2.2.2.2.2.2.1 (lay5 h2).2.2.2.2.2.2.2.1 rfl (by decide) dX5_copyFrom_63 ?_
  refine call_v (cVt (k := (k1 + 5)) (av := [.ref (E.2.1 + (k2 + 5))]) (rest := []) B hP hS (c_Net_copyFrom l E ρ (k1 + 5) (k2 + 5) (lay5 h1).2.2.2.2.2.2.2.2.1 (lay5 h2).2.2.2.2.2.2.2.2.1 (fun r hr j => by have := ha (5 + r) (by omega) (by omega) (by omega) j; rw [← Nat.add_assoc, ← Nat.add_assoc] at this; exact this) hz.1) lk_RX5_53 (hrecv (ci := 2) B hP (hk_lt (c := 2) (lay5 h1).2.2.2.2.2.2.2.2.1 (by decide)) (hcc2 _ _ (lay5 h1).2.2.2.2.2.2.2.2.1) rfl) rfl rfl hl.1 (Nat.le_of_ble_eq_true rfl) ⟨Nat.le_of_ble_eq_true rfl, Nat.le_of_ble_eq_true rfl⟩ ⟨Nat.le_of_ble_eq_true rfl, Nat.le_of_ble_eq_true rfl⟩ dX5_copyFrom_64) hS (fun ρ3 H locs q4 hP hS => ?_)
  obtain rfl := q4
  refine lv_iinc (v := 1) (lv' := [(2, .int 1), (0, .ref (E.2.1 + k1)), (1, .ref (E.2.1 + k2))]) hx hb dX5_copyFrom_67 hl (k := 0) rfl (by decide) (by decide) rfl (fun ls hl => ?_)
  refine lv_goto (tgt := 47) hx hb dX5_copyFrom_70 (by decide) ?_
  refine lv_iload_n hx hb dX5_copyFrom_47 rfl (lv_at hl 0 rfl) ?_
  refine lv_iconst (v := 2) hx hb dX5_copyFrom_48 (by decide) ?_
  refine lv_icmp_ge (tgt := 73) hx hb dX5_copyFrom_49 (by decide) (fun c5 => absurd c5 (by decide)) (fun _ => ?_)
  refine lv_aload_n hx hb dX5_copyFrom_52 rfl (lv_at hl 1 rfl) ?_
  refine get5 B hP h1 3 (by decide) mw_377 rfl dX5_copyFrom_53 ?_
  refine lv_iload_n hx hb dX5_copyFrom_56 rfl (lv_at hl 0 rfl) ?_
  refine aldNn B hP (lay5 h1).2.2.2.2.2.2.1 (lay5 h1).2.2.2.2.2.2.2.1 rfl (by decide) dX5_copyFrom_57 ?_
  refine lv_aload_n hx hb dX5_copyFrom_58 rfl (lv_at hl 2 rfl) ?_
  refine get5 B hP h2 3 (by decide) mw_377 rfl dX5_copyFrom_59 ?_
  refine lv_iload_n hx hb dX5_copyFrom_62 rfl (lv_at hl 0 rfl) ?_
  refine aldNn B hP (lay5 h2).2.2.2.2.2.2.1 (lay5 h2).2.2.2.2.2.2.2.1 rfl (by decide) dX5_copyFrom_63 ?_
  refine call_v (cVt (k := (k1 + 47)) (av := [.ref (E.2.1 + (k2 + 47))]) (rest := []) B hP hS (c_Net_copyFrom l E ρ (k1 + 47) (k2 + 47) (lay5 h1).2.2.2.2.2.2.2.2.2 (lay5 h2).2.2.2.2.2.2.2.2.2 (fun r hr j => by have := ha (47 + r) (by omega) (by omega) (by omega) j; rw [← Nat.add_assoc, ← Nat.add_assoc] at this; exact this) hz.2) lk_RX5_53 (hrecv (ci := 2) B hP (hk_lt (c := 2) (lay5 h1).2.2.2.2.2.2.2.2.2 (by decide)) (hcc2 _ _ (lay5 h1).2.2.2.2.2.2.2.2.2) rfl) rfl rfl hl.1 (Nat.le_of_ble_eq_true rfl) ⟨Nat.le_of_ble_eq_true rfl, Nat.le_of_ble_eq_true rfl⟩ ⟨Nat.le_of_ble_eq_true rfl, Nat.le_of_ble_eq_true rfl⟩ dX5_copyFrom_64) hS (fun ρ7 H locs q8 hP hS => ?_)
  obtain rfl := q8
  refine lv_iinc (v := 2) (lv' := [(2, .int 2), (0, .ref (E.2.1 + k1)), (1, .ref (E.2.1 + k2))]) hx hb dX5_copyFrom_67 hl (k := 0) rfl (by decide) (by decide) rfl (fun ls hl => ?_)
  refine lv_goto (tgt := 47) hx hb dX5_copyFrom_70 (by decide) ?_
  refine lv_iload_n hx hb dX5_copyFrom_47 rfl (lv_at hl 0 rfl) ?_
  refine lv_iconst (v := 2) hx hb dX5_copyFrom_48 (by decide) ?_
  refine lv_icmp_ge (tgt := 73) hx hb dX5_copyFrom_49 (by decide) (fun _ => ?_) (fun c9 => absurd c9 (by decide))
  refine lv_aload_n hx hb dX5_copyFrom_73 rfl (lv_at hl 1 rfl) ?_
  refine lv_aload_n hx hb dX5_copyFrom_74 rfl (lv_at hl 2 rfl) ?_
  refine get5 B hP h2 4 (by decide) mw_379 (v := .int (ρ k2 4)) (show some (Value.int (ρ k2 4)) = some (Value.int (ρ k2 4)) from congrArg (fun z => some (Value.int z)) (show ρ k2 4 = ρ k2 4 from rfl)) dX5_copyFrom_75 ?_
  refine put5 B hP hS h1 4 (by decide) mw_379 rfl rfl rfl (fs5_4 E k1 _ _) dX5_copyFrom_78 (fun H locs hP hS => ?_)
  obtain ⟨ρ10, e11⟩ : ∃ z, z = up ρ k1 4 (ρ k2 4) := ⟨_, rfl⟩
  rw [← e11] at hP
  refine lv_aload_n hx hb dX5_copyFrom_81 rfl (lv_at hl 1 rfl) ?_
  refine lv_aload_n hx hb dX5_copyFrom_82 rfl (lv_at hl 2 rfl) ?_
  refine get5 B hP h2 5 (by decide) mw_381 (v := .int (ρ k2 5)) (show some (Value.int (ρ10 k2 5)) = some (Value.int (ρ k2 5)) from congrArg (fun z => some (Value.int z)) (by rw [e11]; exact up_get_ne (Or.inl (by omega)) (show ρ k2 5 = ρ k2 5 from rfl))) dX5_copyFrom_83 ?_
  refine put5 B hP hS h1 5 (by decide) mw_381 rfl rfl rfl (fs5_5 E k1 _ _) dX5_copyFrom_86 (fun H locs hP hS => ?_)
  obtain ⟨ρ12, e13⟩ : ∃ z, z = up ρ10 k1 5 (ρ k2 5) := ⟨_, rfl⟩
  rw [← e13] at hP
  refine lv_aload_n hx hb dX5_copyFrom_89 rfl (lv_at hl 1 rfl) ?_
  refine lv_aload_n hx hb dX5_copyFrom_90 rfl (lv_at hl 2 rfl) ?_
  refine get5 B hP h2 6 (by decide) mw_383 (v := .int (ρ k2 6)) (show some (Value.int (ρ12 k2 6)) = some (Value.int (ρ k2 6)) from congrArg (fun z => some (Value.int z)) (by rw [e13]; exact up_get_ne (Or.inl (by omega)) (by rw [e11]; exact up_get_ne (Or.inl (by omega)) (show ρ k2 6 = ρ k2 6 from rfl)))) dX5_copyFrom_91 ?_
  refine put5 B hP hS h1 6 (by decide) mw_383 rfl rfl rfl (fs5_6 E k1 _ _) dX5_copyFrom_94 (fun H locs hP hS => ?_)
  obtain ⟨ρ14, e15⟩ : ∃ z, z = up ρ12 k1 6 (ρ k2 6) := ⟨_, rfl⟩
  rw [← e15] at hP
  refine lv_aload_n hx hb dX5_copyFrom_97 rfl (lv_at hl 1 rfl) ?_
  refine lv_aload_n hx hb dX5_copyFrom_98 rfl (lv_at hl 2 rfl) ?_
  refine get5 B hP h2 7 (by decide) mw_385 (v := .int (ρ k2 7)) (show some (Value.int (ρ14 k2 7)) = some (Value.int (ρ k2 7)) from congrArg (fun z => some (Value.int z)) (by rw [e15]; exact up_get_ne (Or.inl (by omega)) (by rw [e13]; exact up_get_ne (Or.inl (by omega)) (by rw [e11]; exact up_get_ne (Or.inl (by omega)) (show ρ k2 7 = ρ k2 7 from rfl))))) dX5_copyFrom_99 ?_
  refine put5 B hP hS h1 7 (by decide) mw_385 rfl rfl rfl (fs5_7 E k1 _ _) dX5_copyFrom_102 (fun H locs hP hS => ?_)
  obtain ⟨ρ16, e17⟩ : ∃ z, z = up ρ14 k1 7 (ρ k2 7) := ⟨_, rfl⟩
  rw [← e17] at hP
  refine lv_aload_n hx hb dX5_copyFrom_105 rfl (lv_at hl 1 rfl) ?_
  refine lv_aload_n hx hb dX5_copyFrom_106 rfl (lv_at hl 2 rfl) ?_
  refine get5 B hP h2 8 (by decide) mw_387 (v := .int (ρ k2 8)) (show some (Value.int (ρ16 k2 8)) = some (Value.int (ρ k2 8)) from congrArg (fun z => some (Value.int z)) (by rw [e17]; exact up_get_ne (Or.inl (by omega)) (by rw [e15]; exact up_get_ne (Or.inl (by omega)) (by rw [e13]; exact up_get_ne (Or.inl (by omega)) (by rw [e11]; exact up_get_ne (Or.inl (by omega)) (show ρ k2 8 = ρ k2 8 from rfl)))))) dX5_copyFrom_107 ?_
  refine put5 B hP hS h1 8 (by decide) mw_387 rfl rfl rfl (fs5_8 E k1 _ _) dX5_copyFrom_110 (fun H locs hP hS => ?_)
  obtain ⟨ρ18, e19⟩ : ∃ z, z = up ρ16 k1 8 (ρ k2 8) := ⟨_, rfl⟩
  rw [← e19] at hP
  exact ret_v B hr hlk hP hS dX5_copyFrom_113 ((cpw_eq e11 e13 e15 e17 e19))
