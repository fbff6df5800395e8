section RV
variable {r ρ ra : Nat → Nat → Int32} {n0 l0 k : Nat} {M : Nat → Int32} {L : Nat → Nat} {p q v : Int32} {z : Nat}
def LV (r : Nat → Nat → Int32) (M : Nat → Int32) (L : Nat → Nat) (n0 l0 k : Nat) (ρ : Nat → Nat → Int32) : Prop := ∃ ra, PJ r M L ra ∧ (∀ c, c ≠ 1078 → ρ c = ra c) ∧ ρ 1078 (48 + 326 * n0) = nI (L n0 - 1) ∧ (∀ j, 104 + 326 * n0 + 66 * l0 ≤ j → j < k → ρ 1078 j = ra 1078 (j + 66)) ∧ (∀ j, j ≠ 48 + 326 * n0 → (j < 104 + 326 * n0 + 66 * l0 ∨ k ≤ j) → ρ 1078 j = ra 1078 j) ∧ 104 + 326 * n0 + 66 * l0 ≤ k ∧ k ≤ 104 + 326 * n0 + 66 * (L n0 - 1)
theorem LV_0 (h : PJ r M L ra) (hl : l0 < L n0) (hk : k = 104 + 326 * n0 + 66 * l0) (hz : z = 48 + 326 * n0) (hv : v = nI (L n0 - 1)) : LV r M L n0 l0 k (up ra 1078 z v) := by
  subst hk
  subst hz
  subst hv
  refine ⟨ra, h, fun c hc => up_ne _ _ _ hc, up_get_at, fun j h1 h2 => by omega, fun j h1 h2 => up_get_ne (Or.inr h1) rfl, Nat.le_refl _, ?_⟩
  have : l0 ≤ L n0 - 1 := by omega
  omega
theorem LV_48 (h : LV r M L n0 l0 k ρ) (hz : z = 48 + 326 * n0) : ρ 1078 z = nI (L n0 - 1) := by
  subst hz
  obtain ⟨_, _, _, h48, _⟩ := h
  exact h48
theorem LV_s (h : LV r M L n0 l0 k ρ) (hk : k < 104 + 326 * n0 + 66 * (L n0 - 1)) (hz : z = k + 66) : LV r M L n0 l0 (1 + k) (up ρ 1078 k (ρ 1078 z)) := by
  obtain ⟨ra, hJ, z1, z48, zs, zo, zl, zu⟩ := h
  subst hz
  refine ⟨ra, hJ, fun c hc => by rw [up_ne _ _ _ hc]; exact z1 c hc, up_get_ne (Or.inr (by omega)) z48, fun j h1 h2 => ?_, fun j h1 h2 => up_get_ne (Or.inr (by omega)) (zo j h1 (by omega)), by omega, by omega⟩
  by_cases e : j = k
  · subst e
    exact up_get_at.trans (zo _ (by omega) (by omega))
  · exact up_get_ne (Or.inr e) (zs j h1 (by omega))
theorem pl1 {m : Nat} (hp : iR p (-1) ((m : Int) - 1)) (hm : m ≤ 4) (hl : l0 < m) (hc : ¬ p < nI l0) : iR (p - 1) (-1) (((m - 1 : Nat) : Int) - 1) := by
  have h := Int32.le_iff_toInt_le.mp (Int32.not_lt.mp hc)
  rw [nI_toInt (by omega)] at h
  have hp2 : iR p 0 ((m : Int) - 1) := ⟨by omega, hp.2⟩
  have h2 := iR_sub (a' := -1) (b' := (m : Int) - 1 - 1) hp2 (show iR (1 : Int32) 1 1 from ⟨by decide, by decide⟩) (by decide) (by omega) (by decide) rfl
  exact iR_w h2 (by decide) (by omega)
theorem pl0 {m : Nat} (hp : iR p (-1) ((m : Int) - 1)) (hm : m ≤ 4) (hl : l0 < m) (hc : p < nI l0) : iR (p - 0) (-1) (((m - 1 : Nat) : Int) - 1) := by
  have h := Int32.lt_iff_toInt_lt.mp hc
  rw [nI_toInt (by omega)] at h
  rw [Int32.sub_zero]
  exact ⟨hp.1, by omega⟩
end RV
theorem dX7_net_0 : decode cX7_net 0 = .ok (.aload_n 0, 1) := by decide +kernel
theorem dX7_net_1 : decode cX7_net 1 = .ok (.iconst 0, 1) := by decide +kernel
theorem dX7_net_2 : decode cX7_net 2 = .ok (.putfield 50, 3) := by decide +kernel
theorem dX7_net_5 : decode cX7_net 5 = .ok (.iload_n 1, 1) := by decide +kernel
theorem dX7_net_6 : decode cX7_net 6 = .ok (.i2l, 1) := by decide +kernel
theorem dX7_net_7 : decode cX7_net 7 = .ok (.lconst 0, 1) := by decide +kernel
theorem dX7_net_8 : decode cX7_net 8 = .ok (.lconst 1, 1) := by decide +kernel
theorem dX7_net_9 : decode cX7_net 9 = .ok (.invokestatic 71, 3) := by decide +kernel
theorem dX7_net_12 : decode cX7_net 12 = .ok (.ifCond .eq 15, 3) := by decide +kernel
theorem dX7_net_15 : decode cX7_net 15 = .ok (.iload_n 3, 1) := by decide +kernel
theorem dX7_net_16 : decode cX7_net 16 = .ok (.i2l, 1) := by decide +kernel
theorem dX7_net_17 : decode cX7_net 17 = .ok (.lconst 0, 1) := by decide +kernel
theorem dX7_net_18 : decode cX7_net 18 = .ok (.ldc2_w 122, 3) := by decide +kernel
theorem dX7_net_21 : decode cX7_net 21 = .ok (.invokestatic 71, 3) := by decide +kernel
theorem dX7_net_24 : decode cX7_net 24 = .ok (.ifCond .ne 9, 3) := by decide +kernel
theorem dX7_net_27 : decode cX7_net 27 = .ok (.aload_n 0, 1) := by decide +kernel
theorem dX7_net_28 : decode cX7_net 28 = .ok (.iconst (-1), 1) := by decide +kernel
theorem dX7_net_29 : decode cX7_net 29 = .ok (.invokevirtual 64, 3) := by decide +kernel
theorem dX7_net_32 : decode cX7_net 32 = .ok (.ireturn, 1) := by decide +kernel
theorem dX7_net_33 : decode cX7_net 33 = .ok (.aload_n 0, 1) := by decide +kernel
theorem dX7_net_34 : decode cX7_net 34 = .ok (.iload_n 2, 1) := by decide +kernel
theorem dX7_net_35 : decode cX7_net 35 = .ok (.invokevirtual 124, 3) := by decide +kernel
theorem dX7_net_38 : decode cX7_net 38 = .ok (.ifCond .ne 10, 3) := by decide +kernel
theorem dX7_net_41 : decode cX7_net 41 = .ok (.aload_n 0, 1) := by decide +kernel
theorem dX7_net_42 : decode cX7_net 42 = .ok (.bipush (-2), 2) := by decide +kernel
theorem dX7_net_44 : decode cX7_net 44 = .ok (.invokevirtual 64, 3) := by decide +kernel
theorem dX7_net_47 : decode cX7_net 47 = .ok (.ireturn, 1) := by decide +kernel
theorem dX7_net_48 : decode cX7_net 48 = .ok (.aload_n 0, 1) := by decide +kernel
theorem dX7_net_49 : decode cX7_net 49 = .ok (.iload_n 1, 1) := by decide +kernel
theorem dX7_net_50 : decode cX7_net 50 = .ok (.invokevirtual 78, 3) := by decide +kernel
theorem dX7_net_53 : decode cX7_net 53 = .ok (.ifCond .ne 18, 3) := by decide +kernel
theorem dX7_net_56 : decode cX7_net 56 = .ok (.aload_n 0, 1) := by decide +kernel
theorem dX7_net_57 : decode cX7_net 57 = .ok (.getfield 13, 3) := by decide +kernel
theorem dX7_net_60 : decode cX7_net 60 = .ok (.iconst 1, 1) := by decide +kernel
theorem dX7_net_61 : decode cX7_net 61 = .ok (.iload_n 1, 1) := by decide +kernel
theorem dX7_net_62 : decode cX7_net 62 = .ok (.isub, 1) := by decide +kernel
theorem dX7_net_63 : decode cX7_net 63 = .ok (.invokestatic 75, 3) := by decide +kernel
theorem dX7_net_66 : decode cX7_net 66 = .ok (.iaload, 1) := by decide +kernel
theorem dX7_net_67 : decode cX7_net 67 = .ok (.iload_n 2, 1) := by decide +kernel
theorem dX7_net_68 : decode cX7_net 68 = .ok (.if_icmp .ne 10, 3) := by decide +kernel
theorem dX7_net_71 : decode cX7_net 71 = .ok (.aload_n 0, 1) := by decide +kernel
theorem dX7_net_72 : decode cX7_net 72 = .ok (.bipush (-4), 2) := by decide +kernel
theorem dX7_net_74 : decode cX7_net 74 = .ok (.invokevirtual 64, 3) := by decide +kernel
theorem dX7_net_77 : decode cX7_net 77 = .ok (.ireturn, 1) := by decide +kernel
theorem dX7_net_78 : decode cX7_net 78 = .ok (.aload_n 0, 1) := by decide +kernel
theorem dX7_net_79 : decode cX7_net 79 = .ok (.iconst 1, 1) := by decide +kernel
theorem dX7_net_80 : decode cX7_net 80 = .ok (.invokevirtual 118, 3) := by decide +kernel
theorem dX7_net_83 : decode cX7_net 83 = .ok (.iload_n 1, 1) := by decide +kernel
theorem dX7_net_84 : decode cX7_net 84 = .ok (.invokestatic 75, 3) := by decide +kernel
theorem dX7_net_87 : decode cX7_net 87 = .ok (.istore 4, 2) := by decide +kernel
theorem dX7_net_89 : decode cX7_net 89 = .ok (.iconst 0, 1) := by decide +kernel
theorem dX7_net_90 : decode cX7_net 90 = .ok (.istore 5, 2) := by decide +kernel
theorem dX7_net_92 : decode cX7_net 92 = .ok (.iload 5, 2) := by decide +kernel
theorem dX7_net_94 : decode cX7_net 94 = .ok (.sipush 326, 3) := by decide +kernel
theorem dX7_net_97 : decode cX7_net 97 = .ok (.if_icmp .ge 20, 3) := by decide +kernel
theorem dX7_net_100 : decode cX7_net 100 = .ok (.aload_n 0, 1) := by decide +kernel
theorem dX7_net_101 : decode cX7_net 101 = .ok (.getfield 13, 3) := by decide +kernel
theorem dX7_net_104 : decode cX7_net 104 = .ok (.iload 4, 2) := by decide +kernel
theorem dX7_net_106 : decode cX7_net 106 = .ok (.iload 5, 2) := by decide +kernel
theorem dX7_net_108 : decode cX7_net 108 = .ok (.iadd, 1) := by decide +kernel
theorem dX7_net_109 : decode cX7_net 109 = .ok (.iconst 0, 1) := by decide +kernel
theorem dX7_net_110 : decode cX7_net 110 = .ok (.iastore, 1) := by decide +kernel
theorem dX7_net_111 : decode cX7_net 111 = .ok (.iinc 5 1, 3) := by decide +kernel
theorem dX7_net_114 : decode cX7_net 114 = .ok (.goto (-22), 3) := by decide +kernel
theorem dX7_net_117 : decode cX7_net 117 = .ok (.aload_n 0, 1) := by decide +kernel
theorem dX7_net_118 : decode cX7_net 118 = .ok (.getfield 13, 3) := by decide +kernel
theorem dX7_net_121 : decode cX7_net 121 = .ok (.iload 4, 2) := by decide +kernel
theorem dX7_net_123 : decode cX7_net 123 = .ok (.iload_n 2, 1) := by decide +kernel
theorem dX7_net_124 : decode cX7_net 124 = .ok (.iastore, 1) := by decide +kernel
theorem dX7_net_125 : decode cX7_net 125 = .ok (.aload_n 0, 1) := by decide +kernel
theorem dX7_net_126 : decode cX7_net 126 = .ok (.getfield 13, 3) := by decide +kernel
theorem dX7_net_129 : decode cX7_net 129 = .ok (.iload 4, 2) := by decide +kernel
theorem dX7_net_131 : decode cX7_net 131 = .ok (.iconst 1, 1) := by decide +kernel
theorem dX7_net_132 : decode cX7_net 132 = .ok (.iadd, 1) := by decide +kernel
theorem dX7_net_133 : decode cX7_net 133 = .ok (.iload_n 3, 1) := by decide +kernel
theorem dX7_net_134 : decode cX7_net 134 = .ok (.iastore, 1) := by decide +kernel
theorem dX7_net_135 : decode cX7_net 135 = .ok (.aload_n 0, 1) := by decide +kernel
theorem dX7_net_136 : decode cX7_net 136 = .ok (.getfield 13, 3) := by decide +kernel
theorem dX7_net_139 : decode cX7_net 139 = .ok (.iload 4, 2) := by decide +kernel
theorem dX7_net_141 : decode cX7_net 141 = .ok (.iconst 2, 1) := by decide +kernel
theorem dX7_net_142 : decode cX7_net 142 = .ok (.iadd, 1) := by decide +kernel
theorem dX7_net_143 : decode cX7_net 143 = .ok (.ldc 127, 2) := by decide +kernel
theorem dX7_net_145 : decode cX7_net 145 = .ok (.iastore, 1) := by decide +kernel
theorem dX7_net_146 : decode cX7_net 146 = .ok (.aload_n 0, 1) := by decide +kernel
theorem dX7_net_147 : decode cX7_net 147 = .ok (.getfield 13, 3) := by decide +kernel
theorem dX7_net_150 : decode cX7_net 150 = .ok (.iload 4, 2) := by decide +kernel
theorem dX7_net_152 : decode cX7_net 152 = .ok (.bipush 7, 2) := by decide +kernel
theorem dX7_net_154 : decode cX7_net 154 = .ok (.iadd, 1) := by decide +kernel
theorem dX7_net_155 : decode cX7_net 155 = .ok (.ldc 127, 2) := by decide +kernel
theorem dX7_net_157 : decode cX7_net 157 = .ok (.iastore, 1) := by decide +kernel
theorem dX7_net_158 : decode cX7_net 158 = .ok (.aload_n 0, 1) := by decide +kernel
theorem dX7_net_159 : decode cX7_net 159 = .ok (.getfield 13, 3) := by decide +kernel
theorem dX7_net_162 : decode cX7_net 162 = .ok (.iload 4, 2) := by decide +kernel
theorem dX7_net_164 : decode cX7_net 164 = .ok (.iconst 5, 1) := by decide +kernel
theorem dX7_net_165 : decode cX7_net 165 = .ok (.iadd, 1) := by decide +kernel
theorem dX7_net_166 : decode cX7_net 166 = .ok (.iconst (-1), 1) := by decide +kernel
theorem dX7_net_167 : decode cX7_net 167 = .ok (.iastore, 1) := by decide +kernel
theorem dX7_net_168 : decode cX7_net 168 = .ok (.aload_n 0, 1) := by decide +kernel
theorem dX7_net_169 : decode cX7_net 169 = .ok (.iconst 0, 1) := by decide +kernel
theorem dX7_net_170 : decode cX7_net 170 = .ok (.invokevirtual 68, 3) := by decide +kernel
theorem dX7_net_173 : decode cX7_net 173 = .ok (.ireturn, 1) := by decide +kernel
theorem dX7_join_0 : decode cX7_join 0 = .ok (.aload_n 0, 1) := by decide +kernel
theorem dX7_join_1 : decode cX7_join 1 = .ok (.iconst 0, 1) := by decide +kernel
theorem dX7_join_2 : decode cX7_join 2 = .ok (.putfield 50, 3) := by decide +kernel
theorem dX7_join_5 : decode cX7_join 5 = .ok (.aload_n 0, 1) := by decide +kernel
theorem dX7_join_6 : decode cX7_join 6 = .ok (.iload_n 1, 1) := by decide +kernel
theorem dX7_join_7 : decode cX7_join 7 = .ok (.invokevirtual 78, 3) := by decide +kernel
theorem dX7_join_10 : decode cX7_join 10 = .ok (.ifCond .eq 11, 3) := by decide +kernel
theorem dX7_join_13 : decode cX7_join 13 = .ok (.aload_n 0, 1) := by decide +kernel
theorem dX7_join_14 : decode cX7_join 14 = .ok (.iload_n 2, 1) := by decide +kernel
theorem dX7_join_15 : decode cX7_join 15 = .ok (.invokevirtual 124, 3) := by decide +kernel
theorem dX7_join_18 : decode cX7_join 18 = .ok (.ifCond .ne 10, 3) := by decide +kernel
theorem dX7_join_21 : decode cX7_join 21 = .ok (.aload_n 0, 1) := by decide +kernel
theorem dX7_join_22 : decode cX7_join 22 = .ok (.bipush (-2), 2) := by decide +kernel
theorem dX7_join_24 : decode cX7_join 24 = .ok (.invokevirtual 64, 3) := by decide +kernel
theorem dX7_join_27 : decode cX7_join 27 = .ok (.ireturn, 1) := by decide +kernel
theorem dX7_join_28 : decode cX7_join 28 = .ok (.aload_n 0, 1) := by decide +kernel
theorem dX7_join_29 : decode cX7_join 29 = .ok (.iload_n 1, 1) := by decide +kernel
theorem dX7_join_30 : decode cX7_join 30 = .ok (.iload_n 2, 1) := by decide +kernel
theorem dX7_join_31 : decode cX7_join 31 = .ok (.invokevirtual 86, 3) := by decide +kernel
theorem dX7_join_34 : decode cX7_join 34 = .ok (.ifCond .eq 10, 3) := by decide +kernel
theorem dX7_join_37 : decode cX7_join 37 = .ok (.aload_n 0, 1) := by decide +kernel
theorem dX7_join_38 : decode cX7_join 38 = .ok (.bipush (-4), 2) := by decide +kernel
theorem dX7_join_40 : decode cX7_join 40 = .ok (.invokevirtual 64, 3) := by decide +kernel
theorem dX7_join_43 : decode cX7_join 43 = .ok (.ireturn, 1) := by decide +kernel
theorem dX7_join_44 : decode cX7_join 44 = .ok (.iload_n 1, 1) := by decide +kernel
theorem dX7_join_45 : decode cX7_join 45 = .ok (.invokestatic 75, 3) := by decide +kernel
theorem dX7_join_48 : decode cX7_join 48 = .ok (.istore_n 3, 1) := by decide +kernel
theorem dX7_join_49 : decode cX7_join 49 = .ok (.aload_n 0, 1) := by decide +kernel
theorem dX7_join_50 : decode cX7_join 50 = .ok (.getfield 13, 3) := by decide +kernel
theorem dX7_join_53 : decode cX7_join 53 = .ok (.iload_n 3, 1) := by decide +kernel
theorem dX7_join_54 : decode cX7_join 54 = .ok (.bipush 6, 2) := by decide +kernel
theorem dX7_join_56 : decode cX7_join 56 = .ok (.iadd, 1) := by decide +kernel
theorem dX7_join_57 : decode cX7_join 57 = .ok (.iaload, 1) := by decide +kernel
theorem dX7_join_58 : decode cX7_join 58 = .ok (.istore 4, 2) := by decide +kernel
theorem dX7_join_60 : decode cX7_join 60 = .ok (.iload 4, 2) := by decide +kernel
theorem dX7_join_62 : decode cX7_join 62 = .ok (.iconst 4, 1) := by decide +kernel
theorem dX7_join_63 : decode cX7_join 63 = .ok (.if_icmp .ne 10, 3) := by decide +kernel
theorem dX7_join_66 : decode cX7_join 66 = .ok (.aload_n 0, 1) := by decide +kernel
theorem dX7_join_67 : decode cX7_join 67 = .ok (.bipush (-5), 2) := by decide +kernel
theorem dX7_join_69 : decode cX7_join 69 = .ok (.invokevirtual 64, 3) := by decide +kernel
theorem dX7_join_72 : decode cX7_join 72 = .ok (.ireturn, 1) := by decide +kernel
theorem dX7_join_73 : decode cX7_join 73 = .ok (.aload_n 0, 1) := by decide +kernel
theorem dX7_join_74 : decode cX7_join 74 = .ok (.iconst 2, 1) := by decide +kernel
theorem dX7_join_75 : decode cX7_join 75 = .ok (.invokevirtual 118, 3) := by decide +kernel
theorem dX7_join_78 : decode cX7_join 78 = .ok (.iload_n 1, 1) := by decide +kernel
theorem dX7_join_79 : decode cX7_join 79 = .ok (.iload 4, 2) := by decide +kernel
theorem dX7_join_81 : decode cX7_join 81 = .ok (.invokestatic 82, 3) := by decide +kernel
theorem dX7_join_84 : decode cX7_join 84 = .ok (.istore 5, 2) := by decide +kernel
theorem dX7_join_86 : decode cX7_join 86 = .ok (.iconst 0, 1) := by decide +kernel
theorem dX7_join_87 : decode cX7_join 87 = .ok (.istore 6, 2) := by decide +kernel
theorem dX7_join_89 : decode cX7_join 89 = .ok (.iload 6, 2) := by decide +kernel
theorem dX7_join_91 : decode cX7_join 91 = .ok (.bipush 66, 2) := by decide +kernel
theorem dX7_join_93 : decode cX7_join 93 = .ok (.if_icmp .ge 20, 3) := by decide +kernel
theorem dX7_join_96 : decode cX7_join 96 = .ok (.aload_n 0, 1) := by decide +kernel
theorem dX7_join_97 : decode cX7_join 97 = .ok (.getfield 13, 3) := by decide +kernel
theorem dX7_join_100 : decode cX7_join 100 = .ok (.iload 5, 2) := by decide +kernel
theorem dX7_join_102 : decode cX7_join 102 = .ok (.iload 6, 2) := by decide +kernel
theorem dX7_join_104 : decode cX7_join 104 = .ok (.iadd, 1) := by decide +kernel
theorem dX7_join_105 : decode cX7_join 105 = .ok (.iconst 0, 1) := by decide +kernel
theorem dX7_join_106 : decode cX7_join 106 = .ok (.iastore, 1) := by decide +kernel
theorem dX7_join_107 : decode cX7_join 107 = .ok (.iinc 6 1, 3) := by decide +kernel
theorem dX7_join_110 : decode cX7_join 110 = .ok (.goto (-21), 3) := by decide +kernel
theorem dX7_join_113 : decode cX7_join 113 = .ok (.aload_n 0, 1) := by decide +kernel
theorem dX7_join_114 : decode cX7_join 114 = .ok (.getfield 13, 3) := by decide +kernel
theorem dX7_join_117 : decode cX7_join 117 = .ok (.iload 5, 2) := by decide +kernel
theorem dX7_join_119 : decode cX7_join 119 = .ok (.iload_n 2, 1) := by decide +kernel
theorem dX7_join_120 : decode cX7_join 120 = .ok (.iastore, 1) := by decide +kernel
theorem dX7_join_121 : decode cX7_join 121 = .ok (.aload_n 0, 1) := by decide +kernel
theorem dX7_join_122 : decode cX7_join 122 = .ok (.getfield 13, 3) := by decide +kernel
theorem dX7_join_125 : decode cX7_join 125 = .ok (.iload 5, 2) := by decide +kernel
theorem dX7_join_127 : decode cX7_join 127 = .ok (.iconst 1, 1) := by decide +kernel
theorem dX7_join_128 : decode cX7_join 128 = .ok (.iadd, 1) := by decide +kernel
theorem dX7_join_129 : decode cX7_join 129 = .ok (.aload_n 0, 1) := by decide +kernel
theorem dX7_join_130 : decode cX7_join 130 = .ok (.getfield 13, 3) := by decide +kernel
theorem dX7_join_133 : decode cX7_join 133 = .ok (.iload_n 3, 1) := by decide +kernel
theorem dX7_join_134 : decode cX7_join 134 = .ok (.iconst 2, 1) := by decide +kernel
theorem dX7_join_135 : decode cX7_join 135 = .ok (.iadd, 1) := by decide +kernel
theorem dX7_join_136 : decode cX7_join 136 = .ok (.iaload, 1) := by decide +kernel
theorem dX7_join_137 : decode cX7_join 137 = .ok (.iastore, 1) := by decide +kernel
theorem dX7_join_138 : decode cX7_join 138 = .ok (.aload_n 0, 1) := by decide +kernel
theorem dX7_join_139 : decode cX7_join 139 = .ok (.getfield 13, 3) := by decide +kernel
theorem dX7_join_142 : decode cX7_join 142 = .ok (.iload 5, 2) := by decide +kernel
theorem dX7_join_144 : decode cX7_join 144 = .ok (.iconst 2, 1) := by decide +kernel
theorem dX7_join_145 : decode cX7_join 145 = .ok (.iadd, 1) := by decide +kernel
theorem dX7_join_146 : decode cX7_join 146 = .ok (.aload_n 0, 1) := by decide +kernel
theorem dX7_join_147 : decode cX7_join 147 = .ok (.getfield 13, 3) := by decide +kernel
theorem dX7_join_150 : decode cX7_join 150 = .ok (.iload_n 3, 1) := by decide +kernel
theorem dX7_join_151 : decode cX7_join 151 = .ok (.iconst 3, 1) := by decide +kernel
theorem dX7_join_152 : decode cX7_join 152 = .ok (.iadd, 1) := by decide +kernel
theorem dX7_join_153 : decode cX7_join 153 = .ok (.iaload, 1) := by decide +kernel
theorem dX7_join_154 : decode cX7_join 154 = .ok (.iastore, 1) := by decide +kernel
theorem dX7_join_155 : decode cX7_join 155 = .ok (.aload_n 0, 1) := by decide +kernel
theorem dX7_join_156 : decode cX7_join 156 = .ok (.getfield 13, 3) := by decide +kernel
theorem dX7_join_159 : decode cX7_join 159 = .ok (.iload 5, 2) := by decide +kernel
theorem dX7_join_161 : decode cX7_join 161 = .ok (.iconst 3, 1) := by decide +kernel
theorem dX7_join_162 : decode cX7_join 162 = .ok (.iadd, 1) := by decide +kernel
theorem dX7_join_163 : decode cX7_join 163 = .ok (.aload_n 0, 1) := by decide +kernel
theorem dX7_join_164 : decode cX7_join 164 = .ok (.getfield 13, 3) := by decide +kernel
theorem dX7_join_167 : decode cX7_join 167 = .ok (.iload_n 3, 1) := by decide +kernel
theorem dX7_join_168 : decode cX7_join 168 = .ok (.iconst 4, 1) := by decide +kernel
theorem dX7_join_169 : decode cX7_join 169 = .ok (.iadd, 1) := by decide +kernel
theorem dX7_join_170 : decode cX7_join 170 = .ok (.iaload, 1) := by decide +kernel
theorem dX7_join_171 : decode cX7_join 171 = .ok (.iastore, 1) := by decide +kernel
theorem dX7_join_172 : decode cX7_join 172 = .ok (.aload_n 0, 1) := by decide +kernel
theorem dX7_join_173 : decode cX7_join 173 = .ok (.getfield 13, 3) := by decide +kernel
theorem dX7_join_176 : decode cX7_join 176 = .ok (.iload 5, 2) := by decide +kernel
theorem dX7_join_178 : decode cX7_join 178 = .ok (.iconst 4, 1) := by decide +kernel
theorem dX7_join_179 : decode cX7_join 179 = .ok (.iadd, 1) := by decide +kernel
theorem dX7_join_180 : decode cX7_join 180 = .ok (.iconst 1, 1) := by decide +kernel
theorem dX7_join_181 : decode cX7_join 181 = .ok (.iastore, 1) := by decide +kernel
theorem dX7_join_182 : decode cX7_join 182 = .ok (.aload_n 0, 1) := by decide +kernel
theorem dX7_join_183 : decode cX7_join 183 = .ok (.getfield 13, 3) := by decide +kernel
theorem dX7_join_186 : decode cX7_join 186 = .ok (.iload 5, 2) := by decide +kernel
theorem dX7_join_188 : decode cX7_join 188 = .ok (.bipush 24, 2) := by decide +kernel
theorem dX7_join_190 : decode cX7_join 190 = .ok (.iadd, 1) := by decide +kernel
theorem dX7_join_191 : decode cX7_join 191 = .ok (.iconst 1, 1) := by decide +kernel
theorem dX7_join_192 : decode cX7_join 192 = .ok (.iastore, 1) := by decide +kernel
theorem dX7_join_193 : decode cX7_join 193 = .ok (.aload_n 0, 1) := by decide +kernel
theorem dX7_join_194 : decode cX7_join 194 = .ok (.getfield 13, 3) := by decide +kernel
theorem dX7_join_197 : decode cX7_join 197 = .ok (.iload 5, 2) := by decide +kernel
theorem dX7_join_199 : decode cX7_join 199 = .ok (.bipush 26, 2) := by decide +kernel
theorem dX7_join_201 : decode cX7_join 201 = .ok (.iadd, 1) := by decide +kernel
theorem dX7_join_202 : decode cX7_join 202 = .ok (.iconst 1, 1) := by decide +kernel
theorem dX7_join_203 : decode cX7_join 203 = .ok (.iastore, 1) := by decide +kernel
theorem dX7_join_204 : decode cX7_join 204 = .ok (.aload_n 0, 1) := by decide +kernel
theorem dX7_join_205 : decode cX7_join 205 = .ok (.getfield 13, 3) := by decide +kernel
theorem dX7_join_208 : decode cX7_join 208 = .ok (.iload 5, 2) := by decide +kernel
theorem dX7_join_210 : decode cX7_join 210 = .ok (.bipush 45, 2) := by decide +kernel
theorem dX7_join_212 : decode cX7_join 212 = .ok (.iadd, 1) := by decide +kernel
theorem dX7_join_213 : decode cX7_join 213 = .ok (.iconst 1, 1) := by decide +kernel
theorem dX7_join_214 : decode cX7_join 214 = .ok (.iastore, 1) := by decide +kernel
theorem dX7_join_215 : decode cX7_join 215 = .ok (.aload_n 0, 1) := by decide +kernel
theorem dX7_join_216 : decode cX7_join 216 = .ok (.getfield 13, 3) := by decide +kernel
theorem dX7_join_219 : decode cX7_join 219 = .ok (.iload 5, 2) := by decide +kernel
theorem dX7_join_221 : decode cX7_join 221 = .ok (.bipush 48, 2) := by decide +kernel
theorem dX7_join_223 : decode cX7_join 223 = .ok (.iadd, 1) := by decide +kernel
theorem dX7_join_224 : decode cX7_join 224 = .ok (.iconst 1, 1) := by decide +kernel
theorem dX7_join_225 : decode cX7_join 225 = .ok (.iastore, 1) := by decide +kernel
theorem dX7_join_226 : decode cX7_join 226 = .ok (.aload_n 0, 1) := by decide +kernel
theorem dX7_join_227 : decode cX7_join 227 = .ok (.getfield 13, 3) := by decide +kernel
theorem dX7_join_230 : decode cX7_join 230 = .ok (.iload 5, 2) := by decide +kernel
theorem dX7_join_232 : decode cX7_join 232 = .ok (.bipush 49, 2) := by decide +kernel
theorem dX7_join_234 : decode cX7_join 234 = .ok (.iadd, 1) := by decide +kernel
theorem dX7_join_235 : decode cX7_join 235 = .ok (.aload_n 0, 1) := by decide +kernel
theorem dX7_join_236 : decode cX7_join 236 = .ok (.getfield 13, 3) := by decide +kernel
theorem dX7_join_239 : decode cX7_join 239 = .ok (.bipush 7, 2) := by decide +kernel
theorem dX7_join_241 : decode cX7_join 241 = .ok (.iaload, 1) := by decide +kernel
theorem dX7_join_242 : decode cX7_join 242 = .ok (.iastore, 1) := by decide +kernel
theorem dX7_join_243 : decode cX7_join 243 = .ok (.aload_n 0, 1) := by decide +kernel
theorem dX7_join_244 : decode cX7_join 244 = .ok (.getfield 13, 3) := by decide +kernel
theorem dX7_join_247 : decode cX7_join 247 = .ok (.iload_n 3, 1) := by decide +kernel
theorem dX7_join_248 : decode cX7_join 248 = .ok (.bipush 6, 2) := by decide +kernel
theorem dX7_join_250 : decode cX7_join 250 = .ok (.iadd, 1) := by decide +kernel
theorem dX7_join_251 : decode cX7_join 251 = .ok (.dup2, 1) := by decide +kernel
theorem dX7_join_252 : decode cX7_join 252 = .ok (.iaload, 1) := by decide +kernel
theorem dX7_join_253 : decode cX7_join 253 = .ok (.iconst 1, 1) := by decide +kernel
theorem dX7_join_254 : decode cX7_join 254 = .ok (.iadd, 1) := by decide +kernel
theorem dX7_join_255 : decode cX7_join 255 = .ok (.iastore, 1) := by decide +kernel
theorem dX7_join_256 : decode cX7_join 256 = .ok (.aload_n 0, 1) := by decide +kernel
theorem dX7_join_257 : decode cX7_join 257 = .ok (.iload 4, 2) := by decide +kernel
theorem dX7_join_259 : decode cX7_join 259 = .ok (.invokevirtual 68, 3) := by decide +kernel
theorem dX7_join_262 : decode cX7_join 262 = .ok (.ireturn, 1) := by decide +kernel
theorem dX7_leave_0 : decode cX7_leave 0 = .ok (.aload_n 0, 1) := by decide +kernel
theorem dX7_leave_1 : decode cX7_leave 1 = .ok (.iconst 0, 1) := by decide +kernel
theorem dX7_leave_2 : decode cX7_leave 2 = .ok (.putfield 50, 3) := by decide +kernel
theorem dX7_leave_5 : decode cX7_leave 5 = .ok (.aload_n 0, 1) := by decide +kernel
theorem dX7_leave_6 : decode cX7_leave 6 = .ok (.iload_n 1, 1) := by decide +kernel
theorem dX7_leave_7 : decode cX7_leave 7 = .ok (.iload_n 2, 1) := by decide +kernel
theorem dX7_leave_8 : decode cX7_leave 8 = .ok (.invokevirtual 106, 3) := by decide +kernel
theorem dX7_leave_11 : decode cX7_leave 11 = .ok (.ifCond .ne 10, 3) := by decide +kernel
theorem dX7_leave_14 : decode cX7_leave 14 = .ok (.aload_n 0, 1) := by decide +kernel
theorem dX7_leave_15 : decode cX7_leave 15 = .ok (.bipush (-2), 2) := by decide +kernel
theorem dX7_leave_17 : decode cX7_leave 17 = .ok (.invokevirtual 64, 3) := by decide +kernel
theorem dX7_leave_20 : decode cX7_leave 20 = .ok (.ireturn, 1) := by decide +kernel
theorem dX7_leave_21 : decode cX7_leave 21 = .ok (.aload_n 0, 1) := by decide +kernel
theorem dX7_leave_22 : decode cX7_leave 22 = .ok (.iconst 3, 1) := by decide +kernel
theorem dX7_leave_23 : decode cX7_leave 23 = .ok (.invokevirtual 118, 3) := by decide +kernel
theorem dX7_leave_26 : decode cX7_leave 26 = .ok (.iload_n 1, 1) := by decide +kernel
theorem dX7_leave_27 : decode cX7_leave 27 = .ok (.invokestatic 75, 3) := by decide +kernel
theorem dX7_leave_30 : decode cX7_leave 30 = .ok (.istore_n 3, 1) := by decide +kernel
theorem dX7_leave_31 : decode cX7_leave 31 = .ok (.aload_n 0, 1) := by decide +kernel
theorem dX7_leave_32 : decode cX7_leave 32 = .ok (.getfield 13, 3) := by decide +kernel
theorem dX7_leave_35 : decode cX7_leave 35 = .ok (.iload_n 3, 1) := by decide +kernel
theorem dX7_leave_36 : decode cX7_leave 36 = .ok (.bipush 6, 2) := by decide +kernel
theorem dX7_leave_38 : decode cX7_leave 38 = .ok (.iadd, 1) := by decide +kernel
theorem dX7_leave_39 : decode cX7_leave 39 = .ok (.dup2, 1) := by decide +kernel
theorem dX7_leave_40 : decode cX7_leave 40 = .ok (.iaload, 1) := by decide +kernel
theorem dX7_leave_41 : decode cX7_leave 41 = .ok (.iconst 1, 1) := by decide +kernel
theorem dX7_leave_42 : decode cX7_leave 42 = .ok (.isub, 1) := by decide +kernel
theorem dX7_leave_43 : decode cX7_leave 43 = .ok (.iastore, 1) := by decide +kernel
theorem dX7_leave_44 : decode cX7_leave 44 = .ok (.iload_n 1, 1) := by decide +kernel
theorem dX7_leave_45 : decode cX7_leave 45 = .ok (.iload_n 2, 1) := by decide +kernel
theorem dX7_leave_46 : decode cX7_leave 46 = .ok (.invokestatic 82, 3) := by decide +kernel
theorem dX7_leave_49 : decode cX7_leave 49 = .ok (.istore 4, 2) := by decide +kernel
theorem dX7_leave_51 : decode cX7_leave 51 = .ok (.iload 4, 2) := by decide +kernel
theorem dX7_leave_53 : decode cX7_leave 53 = .ok (.iload_n 1, 1) := by decide +kernel
theorem dX7_leave_54 : decode cX7_leave 54 = .ok (.aload_n 0, 1) := by decide +kernel
theorem dX7_leave_55 : decode cX7_leave 55 = .ok (.getfield 13, 3) := by decide +kernel
theorem dX7_leave_58 : decode cX7_leave 58 = .ok (.iload_n 3, 1) := by decide +kernel
theorem dX7_leave_59 : decode cX7_leave 59 = .ok (.bipush 6, 2) := by decide +kernel
theorem dX7_leave_61 : decode cX7_leave 61 = .ok (.iadd, 1) := by decide +kernel
theorem dX7_leave_62 : decode cX7_leave 62 = .ok (.iaload, 1) := by decide +kernel
theorem dX7_leave_63 : decode cX7_leave 63 = .ok (.invokestatic 82, 3) := by decide +kernel
theorem dX7_leave_66 : decode cX7_leave 66 = .ok (.if_icmp .ge 26, 3) := by decide +kernel
theorem dX7_leave_69 : decode cX7_leave 69 = .ok (.aload_n 0, 1) := by decide +kernel
theorem dX7_leave_70 : decode cX7_leave 70 = .ok (.getfield 13, 3) := by decide +kernel
theorem dX7_leave_73 : decode cX7_leave 73 = .ok (.iload 4, 2) := by decide +kernel
theorem dX7_leave_75 : decode cX7_leave 75 = .ok (.aload_n 0, 1) := by decide +kernel
theorem dX7_leave_76 : decode cX7_leave 76 = .ok (.getfield 13, 3) := by decide +kernel
theorem dX7_leave_79 : decode cX7_leave 79 = .ok (.iload 4, 2) := by decide +kernel
theorem dX7_leave_81 : decode cX7_leave 81 = .ok (.bipush 66, 2) := by decide +kernel
theorem dX7_leave_83 : decode cX7_leave 83 = .ok (.iadd, 1) := by decide +kernel
theorem dX7_leave_84 : decode cX7_leave 84 = .ok (.iaload, 1) := by decide +kernel
theorem dX7_leave_85 : decode cX7_leave 85 = .ok (.iastore, 1) := by decide +kernel
theorem dX7_leave_86 : decode cX7_leave 86 = .ok (.iinc 4 1, 3) := by decide +kernel
theorem dX7_leave_89 : decode cX7_leave 89 = .ok (.goto (-38), 3) := by decide +kernel
theorem dX7_leave_92 : decode cX7_leave 92 = .ok (.aload_n 0, 1) := by decide +kernel
theorem dX7_leave_93 : decode cX7_leave 93 = .ok (.getfield 13, 3) := by decide +kernel
theorem dX7_leave_96 : decode cX7_leave 96 = .ok (.iload_n 3, 1) := by decide +kernel
theorem dX7_leave_97 : decode cX7_leave 97 = .ok (.bipush 8, 2) := by decide +kernel
theorem dX7_leave_99 : decode cX7_leave 99 = .ok (.iadd, 1) := by decide +kernel
theorem dX7_leave_100 : decode cX7_leave 100 = .ok (.aload_n 0, 1) := by decide +kernel
theorem dX7_leave_101 : decode cX7_leave 101 = .ok (.getfield 13, 3) := by decide +kernel
theorem dX7_leave_104 : decode cX7_leave 104 = .ok (.iload_n 3, 1) := by decide +kernel
theorem dX7_leave_105 : decode cX7_leave 105 = .ok (.iconst 5, 1) := by decide +kernel
theorem dX7_leave_106 : decode cX7_leave 106 = .ok (.iadd, 1) := by decide +kernel
theorem dX7_leave_107 : decode cX7_leave 107 = .ok (.iaload, 1) := by decide +kernel
theorem dX7_leave_108 : decode cX7_leave 108 = .ok (.iload_n 2, 1) := by decide +kernel
theorem dX7_leave_109 : decode cX7_leave 109 = .ok (.if_icmp .ne 8, 3) := by decide +kernel
theorem dX7_leave_112 : decode cX7_leave 112 = .ok (.bipush 8, 2) := by decide +kernel
theorem dX7_leave_114 : decode cX7_leave 114 = .ok (.goto 12, 3) := by decide +kernel
theorem dX7_leave_117 : decode cX7_leave 117 = .ok (.aload_n 0, 1) := by decide +kernel
theorem dX7_leave_118 : decode cX7_leave 118 = .ok (.getfield 13, 3) := by decide +kernel
theorem dX7_leave_121 : decode cX7_leave 121 = .ok (.iload_n 3, 1) := by decide +kernel
theorem dX7_leave_122 : decode cX7_leave 122 = .ok (.bipush 8, 2) := by decide +kernel
theorem dX7_leave_124 : decode cX7_leave 124 = .ok (.iadd, 1) := by decide +kernel
theorem dX7_leave_125 : decode cX7_leave 125 = .ok (.iaload, 1) := by decide +kernel
theorem dX7_leave_126 : decode cX7_leave 126 = .ok (.iastore, 1) := by decide +kernel
theorem dX7_leave_127 : decode cX7_leave 127 = .ok (.aload_n 0, 1) := by decide +kernel
theorem dX7_leave_128 : decode cX7_leave 128 = .ok (.getfield 13, 3) := by decide +kernel
theorem dX7_leave_131 : decode cX7_leave 131 = .ok (.iload_n 3, 1) := by decide +kernel
theorem dX7_leave_132 : decode cX7_leave 132 = .ok (.iconst 5, 1) := by decide +kernel
theorem dX7_leave_133 : decode cX7_leave 133 = .ok (.iadd, 1) := by decide +kernel
theorem dX7_leave_134 : decode cX7_leave 134 = .ok (.dup2, 1) := by decide +kernel
theorem dX7_leave_135 : decode cX7_leave 135 = .ok (.iaload, 1) := by decide +kernel
theorem dX7_leave_136 : decode cX7_leave 136 = .ok (.aload_n 0, 1) := by decide +kernel
theorem dX7_leave_137 : decode cX7_leave 137 = .ok (.getfield 13, 3) := by decide +kernel
theorem dX7_leave_140 : decode cX7_leave 140 = .ok (.iload_n 3, 1) := by decide +kernel
theorem dX7_leave_141 : decode cX7_leave 141 = .ok (.iconst 5, 1) := by decide +kernel
theorem dX7_leave_142 : decode cX7_leave 142 = .ok (.iadd, 1) := by decide +kernel
theorem dX7_leave_143 : decode cX7_leave 143 = .ok (.iaload, 1) := by decide +kernel
theorem dX7_leave_144 : decode cX7_leave 144 = .ok (.iload_n 2, 1) := by decide +kernel
theorem dX7_leave_145 : decode cX7_leave 145 = .ok (.if_icmp .lt 7, 3) := by decide +kernel
theorem dX7_leave_148 : decode cX7_leave 148 = .ok (.iconst 1, 1) := by decide +kernel
theorem dX7_leave_149 : decode cX7_leave 149 = .ok (.goto 4, 3) := by decide +kernel
theorem dX7_leave_152 : decode cX7_leave 152 = .ok (.iconst 0, 1) := by decide +kernel
theorem dX7_leave_153 : decode cX7_leave 153 = .ok (.isub, 1) := by decide +kernel
theorem dX7_leave_154 : decode cX7_leave 154 = .ok (.iastore, 1) := by decide +kernel
theorem dX7_leave_155 : decode cX7_leave 155 = .ok (.aload_n 0, 1) := by decide +kernel
theorem dX7_leave_156 : decode cX7_leave 156 = .ok (.aload_n 0, 1) := by decide +kernel
theorem dX7_leave_157 : decode cX7_leave 157 = .ok (.getfield 13, 3) := by decide +kernel
theorem dX7_leave_160 : decode cX7_leave 160 = .ok (.iload_n 3, 1) := by decide +kernel
theorem dX7_leave_161 : decode cX7_leave 161 = .ok (.bipush 6, 2) := by decide +kernel
theorem dX7_leave_163 : decode cX7_leave 163 = .ok (.iadd, 1) := by decide +kernel
theorem dX7_leave_164 : decode cX7_leave 164 = .ok (.iaload, 1) := by decide +kernel
theorem dX7_leave_165 : decode cX7_leave 165 = .ok (.invokevirtual 68, 3) := by decide +kernel
theorem dX7_leave_168 : decode cX7_leave 168 = .ok (.ireturn, 1) := by decide +kernel
set_option maxHeartbeats 4000000 in
set_option maxRecDepth 100000 in
theorem d_X7_netAtF (l : Launch) (E : hE) (ρ : Nat → Nat → Int32) (na1 : Nat) (lna1 : 0 ≤ na1) (una1 : na1 ≤ 1) : Met l yX7_netAt (.code yX7_netAt cX7_netAt 1 (some .int) :: gw_all) (rmk 1 40) (cPre E ρ [.int (nI na1)]) (cI E (fun v ρ1 => ρ = ρ1 ∧ v = nI (42 + 326 * na1))) 0 0 (hA E) := by
  refine ent (own := RX7) (by decide) rfl (Nat.le_of_ble_eq_true rfl) ?_
  intro p e s m below meth c ls B hr hlk hl hP hS
  have hx := B.1.1
  have hb := B.1.2.1
  have hown := B.1.2.2.2.1
  have hts := B.1.2.2.2.2
  have hl : lv_has ls 1 [(0, .int (nI na1))] := hl
  refine lv_bipush (v := 42) hx hb dX7_netAt_0 (by decide) ?_
  refine lv_sipush (v := 326) hx hb dX7_netAt_2 (by decide) ?_
  refine lv_iload_n hx hb dX7_netAt_5 rfl (lv_at hl 0 rfl) ?_
  refine lv_imul hx hb dX7_netAt_6 ?_
  refine lv_topi (fun z3 ez3 => ?_)
  obtain rfl : z3 = (nI (326 * na1)) := ez3.trans (by rw [show 326 = nI 326 from rfl, show (nI na1) = nI na1 from rfl, nI_mul] <;> exact congrArg nI (by omega))
  refine lv_iadd hx hb dX7_netAt_7 ?_
  refine lv_topi (fun z4 ez4 => ?_)
  obtain rfl : z4 = (nI (42 + 326 * na1)) := ez4.trans (by rw [show 42 = nI 42 from rfl, show (nI (326 * na1)) = nI (326 * na1) from rfl, nI_add] <;> exact congrArg nI (by omega))
  exact ret_i B hr hlk hP hS dX7_netAt_8 (⟨rfl, congrArg nI (show (42 + 326 * na1) = 42 + 326 * na1 by omega)⟩)

set_option maxHeartbeats 4000000 in
set_option maxRecDepth 100000 in
theorem d_X7_linkAtF (l : Launch) (E : hE) (ρ : Nat → Nat → Int32) (na1 : Nat) (lna1 : 0 ≤ na1) (una1 : na1 ≤ 1) (na2 : Nat) (lna2 : 0 ≤ na2) (una2 : na2 ≤ 4) : Met l yX7_linkAt (.code yX7_linkAt cX7_linkAt 2 (some .int) :: gw_all) (rmk 2 80) (cPre E ρ [.int (nI na1), .int (nI na2)]) (cI E (fun v ρ1 => ρ = ρ1 ∧ v = nI (104 + 326 * na1 + 66 * na2))) 0 0 (hA E) := by
  refine ent (own := RX7) (by decide) rfl (Nat.le_of_ble_eq_true rfl) ?_
  intro p e s m below meth c ls B hr hlk hl hP hS
  have hx := B.1.1
  have hb := B.1.2.1
  have hown := B.1.2.2.2.1
  have hts := B.1.2.2.2.2
  have hl : lv_has ls 2 [(0, .int (nI na1)), (1, .int (nI na2))] := hl
  refine lv_iload_n hx hb dX7_linkAt_0 rfl (lv_at hl 0 rfl) ?_
  refine call_i (cS (av := [.int (nI na1)]) (rest := []) B hP hS (d_X7_netAtF l E ρ na1 (by omega) (by omega)) lk_RX7_75 rfl rfl hl.1 (Nat.le_of_ble_eq_true rfl) ⟨Nat.le_of_ble_eq_true rfl, Nat.le_of_ble_eq_true rfl⟩ ⟨Nat.le_of_ble_eq_true rfl, Nat.le_of_ble_eq_true rfl⟩ dX7_linkAt_1) hS (fun r7 ρ8 H locs q9 hP hS => ?_)
  obtain ⟨rfl, q9⟩ := q9
  obtain rfl : r7 = nI (42 + 326 * na1) := q9.trans (congrArg nI (by omega))
  refine lv_bipush (v := 62) hx hb dX7_linkAt_4 (by decide) ?_
  refine lv_iadd hx hb dX7_linkAt_6 ?_
  refine lv_topi (fun z10 ez10 => ?_)
  obtain rfl : z10 = (nI (104 + 326 * na1)) := ez10.trans (by rw [show (nI (42 + 326 * na1)) = nI (42 + 326 * na1) from rfl, show 62 = nI 62 from rfl, nI_add] <;> exact congrArg nI (by omega))
  refine lv_bipush (v := 66) hx hb dX7_linkAt_7 (by decide) ?_
  refine lv_iload_n hx hb dX7_linkAt_9 rfl (lv_at hl 1 rfl) ?_
  refine lv_imul hx hb dX7_linkAt_10 ?_
  refine lv_topi (fun z11 ez11 => ?_)
  obtain rfl : z11 = (nI (66 * na2)) := ez11.trans (by rw [show 66 = nI 66 from rfl, show (nI na2) = nI na2 from rfl, nI_mul] <;> exact congrArg nI (by omega))
  refine lv_iadd hx hb dX7_linkAt_11 ?_
  refine lv_topi (fun z12 ez12 => ?_)
  obtain rfl : z12 = (nI (104 + 326 * na1 + 66 * na2)) := ez12.trans (by rw [show (nI (104 + 326 * na1)) = nI (104 + 326 * na1) from rfl, show (nI (66 * na2)) = nI (66 * na2) from rfl, nI_add] <;> exact congrArg nI (by omega))
  exact ret_i B hr hlk hP hS dX7_linkAt_12 (⟨rfl, congrArg nI (show (104 + 326 * na1 + 66 * na2) = 104 + 326 * na1 + 66 * na2 by omega)⟩)

set_option maxHeartbeats 4000000 in
set_option maxRecDepth 100000 in
theorem d_X7_net (l : Launch) (E : hE) (ρ r : Nat → Nat → Int32) (M : Nat → Int32) (L : Nat → Nat) (hJ : PJ r M L ρ) (a1 : Int32) (a2 : Int32) (a3 : Int32) : Met l yX7_net (.code yX7_net cX7_net 6 (some .int) :: gw_all) (rmk 3 120) (cPre E ρ [.ref (E.2.1 + 1076), .int a1, .int a2, .int a3]) (cI E (fun v ρ1 => PI r ρ1)) 0 0 (hA E) := by
  refine ent (own := RX7) (by decide) rfl (Nat.le_of_ble_eq_true rfl) ?_
  intro p e s m below meth c ls B hr hlk hl hP hS
  have hx := B.1.1
  have hb := B.1.2.1
  have hown := B.1.2.2.2.1
  have hts := B.1.2.2.2.2
  have hl : lv_has ls 6 [(0, .ref (E.2.1 + 1076)), (1, .int a1), (2, .int a2), (3, .int a3)] := hl
  have hQ := hJ.1
  have hI := PJ_I hJ
  have b92_0 : ∀ (ls : Array Slot) (ρ : Nat → Nat → Int32) (H : Heap) (locs : List Loc) (d92 : Nat) (j92_5 : Nat), lv_has ls 6 [(0, .ref (E.2.1 + 1076)), (2, .int a2), (3, .int a3), (4, .int (nI (42 + 326 * (nn a1)))), (5, .int (nI j92_5))] → WP E ρ H → va_S (hA E) s.heap H locs → FZ r M L (42 + 326 * (nn a1)) 326 j92_5 ρ → 327 - j92_5 < d92 → 0 ≤ j92_5 → j92_5 ≤ 326 → iR a1 (0) (1) → iR a2 (0) (5) → iR a3 (0) (65535) → 0 ≤ (nn a1) → (nn a1) ≤ 1 → 0 ≤ (nn a2) → (nn a2) ≤ 5 → W p l e (rmk 3 120) s m ([.ref (E.2.1 + 1076), .int a1, .int a2, .int a3] : List Value).toArray below meth c H locs 0 0 (MQ below (cI E (fun v ρ1 => PI r ρ1)) ([.ref (E.2.1 + 1076), .int a1, .int a2, .int a3] : List Value).toArray s 0 0 (hA E)) (F0 m 92 ls []) := by
    intro ls ρ H locs d92
    induction d92 generalizing ls ρ H locs with
    | zero => intro j92_5 hl hP hS hI hd92 lj92_5 uj92_5 fa1 fa2 fa3 tl_nn_a1_ tu_nn_a1_ tl_nn_a2_ tu_nn_a2_; exact absurd hd92 (Nat.not_lt_zero _)
    | succ d92 ih92 =>
      intro j92_5 hl hP hS hI hd92 lj92_5 uj92_5 fa1 fa2 fa3 tl_nn_a1_ tu_nn_a1_ tl_nn_a2_ tu_nn_a2_
      refine lv_iload hx hb dX7_net_92 (lv_at hl 4 rfl) ?_
      refine lv_sipush (v := 326) hx hb dX7_net_94 (by decide) ?_
      refine lv_icmp_ge (tgt := 117) hx hb dX7_net_97 (by decide) (fun c159 => ?_) (fun c159 => ?_)
      · skip
        have n160 := mt (nx_lt (a := j92_5) (b := 326) (by omega) (by omega)).mpr (show ¬ (nI j92_5 < nI 326) from (Int32.not_lt.mpr c159))
        obtain ⟨ra, hJa, z1, z2, z3⟩ := hI
        have hIa := PJ_I hJa
        refine lv_aload_n hx hb dX7_net_117 rfl (lv_at hl 0 rfl) ?_
        refine get7 B hP (show hk 1076 = 7 by decide +kernel) 3 (by decide) mw_1030 rfl dX7_net_118 ?_
        refine lv_iload hx hb dX7_net_121 (lv_at hl 3 rfl) ?_
        refine lv_iload_n hx hb dX7_net_123 rfl (lv_at hl 1 rfl) ?_
        have := nn_r (x := a2) (a := 0) (b := 5) fa2 (by decide)
        refine lv_topi (fun z161 ez161 => ?_)
        obtain rfl : z161 = nI (nn a2) := ez161.trans (nn_eq a2)
        refine astn (n := 695) (j := (42 + 326 * (nn a1))) B hP hS (show hk 1078 = 8 by decide +kernel) (show hlen 1078 = 695 by decide +kernel) rfl (by omega) (by decide) dX7_net_124 (fun H locs hP hS => ?_)
        obtain ⟨ρ162, e163⟩ : ∃ z, z = up ρ 1078 (42 + 326 * (nn a1)) (nI (nn a2)) := ⟨_, rfl⟩
        rw [← e163] at hP
        refine lv_aload_n hx hb dX7_net_125 rfl (lv_at hl 0 rfl) ?_
        refine get7 B hP (show hk 1076 = 7 by decide +kernel) 3 (by decide) mw_1030 rfl dX7_net_126 ?_
        refine lv_iload hx hb dX7_net_129 (lv_at hl 3 rfl) ?_
        refine lv_iconst (v := 1) hx hb dX7_net_131 (by decide) ?_
        refine lv_iadd hx hb dX7_net_132 ?_
        refine lv_topi (fun z164 ez164 => ?_)
        obtain rfl : z164 = (nI (43 + 326 * (nn a1))) := ez164.trans (by rw [show (nI (42 + 326 * (nn a1))) = nI (42 + 326 * (nn a1)) from rfl, show 1 = nI 1 from rfl, nI_add] <;> exact congrArg nI (by omega))
        refine lv_iload_n hx hb dX7_net_133 rfl (lv_at hl 2 rfl) ?_
        have := nn_r (x := a3) (a := 0) (b := 65535) fa3 (by decide)
        refine lv_topi (fun z165 ez165 => ?_)
        obtain rfl : z165 = nI (nn a3) := ez165.trans (nn_eq a3)
        refine astn (n := 695) (j := (43 + 326 * (nn a1))) B hP hS (show hk 1078 = 8 by decide +kernel) (show hlen 1078 = 695 by decide +kernel) rfl (by omega) (by decide) dX7_net_134 (fun H locs hP hS => ?_)
        obtain ⟨ρ166, e167⟩ : ∃ z, z = up ρ162 1078 (43 + 326 * (nn a1)) (nI (nn a3)) := ⟨_, rfl⟩
        rw [← e167] at hP
        refine lv_aload_n hx hb dX7_net_135 rfl (lv_at hl 0 rfl) ?_
        refine get7 B hP (show hk 1076 = 7 by decide +kernel) 3 (by decide) mw_1030 rfl dX7_net_136 ?_
        refine lv_iload hx hb dX7_net_139 (lv_at hl 3 rfl) ?_
        refine lv_iconst (v := 2) hx hb dX7_net_141 (by decide) ?_
        refine lv_iadd hx hb dX7_net_142 ?_
        refine lv_topi (fun z168 ez168 => ?_)
        obtain rfl : z168 = (nI (44 + 326 * (nn a1))) := ez168.trans (by rw [show (nI (42 + 326 * (nn a1))) = nI (42 + 326 * (nn a1)) from rfl, show 2 = nI 2 from rfl, nI_add] <;> exact congrArg nI (by omega))
        refine lv_ldc (v := 8388607) hx hb hown (hts _ mw_1169) dX7_net_143 ?_
        refine astn (n := 695) (j := (44 + 326 * (nn a1))) B hP hS (show hk 1078 = 8 by decide +kernel) (show hlen 1078 = 695 by decide +kernel) rfl (by omega) (by decide) dX7_net_145 (fun H locs hP hS => ?_)
        obtain ⟨ρ169, e170⟩ : ∃ z, z = up ρ166 1078 (44 + 326 * (nn a1)) 8388607 := ⟨_, rfl⟩
        rw [← e170] at hP
        refine lv_aload_n hx hb dX7_net_146 rfl (lv_at hl 0 rfl) ?_
        refine get7 B hP (show hk 1076 = 7 by decide +kernel) 3 (by decide) mw_1030 rfl dX7_net_147 ?_
        refine lv_iload hx hb dX7_net_150 (lv_at hl 3 rfl) ?_
        refine lv_bipush (v := 7) hx hb dX7_net_152 (by decide) ?_
        refine lv_iadd hx hb dX7_net_154 ?_
        refine lv_topi (fun z171 ez171 => ?_)
        obtain rfl : z171 = (nI (49 + 326 * (nn a1))) := ez171.trans (by rw [show (nI (42 + 326 * (nn a1))) = nI (42 + 326 * (nn a1)) from rfl, show 7 = nI 7 from rfl, nI_add] <;> exact congrArg nI (by omega))
        refine lv_ldc (v := 8388607) hx hb hown (hts _ mw_1169) dX7_net_155 ?_
        refine astn (n := 695) (j := (49 + 326 * (nn a1))) B hP hS (show hk 1078 = 8 by decide +kernel) (show hlen 1078 = 695 by decide +kernel) rfl (by omega) (by decide) dX7_net_157 (fun H locs hP hS => ?_)
        obtain ⟨ρ172, e173⟩ : ∃ z, z = up ρ169 1078 (49 + 326 * (nn a1)) 8388607 := ⟨_, rfl⟩
        rw [← e173] at hP
        refine lv_aload_n hx hb dX7_net_158 rfl (lv_at hl 0 rfl) ?_
        refine get7 B hP (show hk 1076 = 7 by decide +kernel) 3 (by decide) mw_1030 rfl dX7_net_159 ?_
        refine lv_iload hx hb dX7_net_162 (lv_at hl 3 rfl) ?_
        refine lv_iconst (v := 5) hx hb dX7_net_164 (by decide) ?_
        refine lv_iadd hx hb dX7_net_165 ?_
        refine lv_topi (fun z174 ez174 => ?_)
        obtain rfl : z174 = (nI (47 + 326 * (nn a1))) := ez174.trans (by rw [show (nI (42 + 326 * (nn a1))) = nI (42 + 326 * (nn a1)) from rfl, show 5 = nI 5 from rfl, nI_add] <;> exact congrArg nI (by omega))
        refine lv_iconst (v := (-1)) hx hb dX7_net_166 (by decide) ?_
        refine astn (n := 695) (j := (47 + 326 * (nn a1))) B hP hS (show hk 1078 = 8 by decide +kernel) (show hlen 1078 = 695 by decide +kernel) rfl (by omega) (by decide) dX7_net_167 (fun H locs hP hS => ?_)
        obtain ⟨ρ175, e176⟩ : ∃ z, z = up ρ172 1078 (47 + 326 * (nn a1)) (-1) := ⟨_, rfl⟩
        rw [← e176] at hP
        refine lv_aload_n hx hb dX7_net_168 rfl (lv_at hl 0 rfl) ?_
        refine lv_iconst (v := 0) hx hb dX7_net_169 (by decide) ?_
        refine call_i (cVt (k := 1076) (av := [.int 0]) (rest := []) B hP hS (d_X7_tell l E ρ175 0) lk_RX7_68 (hrecv (ci := 7) B hP (hk_lt (c := 7) (show hk 1076 = 7 by decide +kernel) (by decide)) (hcc7 _ _ (show hk 1076 = 7 by decide +kernel)) rfl) rfl rfl hl.1 (Nat.le_of_ble_eq_true rfl) ⟨Nat.le_of_ble_eq_true rfl, Nat.le_of_ble_eq_true rfl⟩ ⟨Nat.le_of_ble_eq_true rfl, Nat.le_of_ble_eq_true rfl⟩ dX7_net_170) hS (fun r177 ρ178 H locs q179 hP hS => ?_)
        exact ret_i B hr hlk hP hS dX7_net_173 ((by rw [q179]; exact PI_76 (PI_row hJa.1 ⟨_, _, Good_net (n0 := nn a1) (m := (nI (nn a2))) hJa.2 (by omega) (iR_w (a := 0) (b := 5) (nI_iR (j := (nn a2)) (a := 0) (b := 5) (by omega) (by omega) (by omega)) (by decide) (by decide)) (fun j hj => (by rw [e176]; exact up_get_ne (Or.inr (by omega)) (by rw [e173]; exact up_get_ne (Or.inr (by omega)) (by rw [e170]; exact up_get_ne (Or.inr (by omega)) (by rw [e167]; exact up_get_ne (Or.inr (by omega)) (by rw [e163]; exact up_get_ne (Or.inr (by omega)) (z2 j hj))))))) (by rw [e176]; exact up_get_ne (Or.inr (by omega)) (by rw [e173]; exact up_get_ne (Or.inr (by omega)) (by rw [e170]; exact up_get_ne (Or.inr (by omega)) (by rw [e167]; exact up_get_ne (Or.inr (by omega)) (by rw [e163]; exact up_get_at))))) (by rw [e176]; exact up_get_ne (Or.inr (by omega)) (by rw [e173]; exact up_get_ne (Or.inr (by omega)) (by rw [e170]; exact up_get_at))) (by rw [e176]; exact up_get_ne (Or.inr (by omega)) (by rw [e173]; exact up_get_at)) (by rw [e176]; exact up_get_at) (fun j h1 h2 n1 n2 n3 n4 n5 => (by rw [e176]; exact up_get_ne (Or.inr (by omega)) (by rw [e173]; exact up_get_ne (Or.inr (by omega)) (by rw [e170]; exact up_get_ne (Or.inr (by omega)) (by rw [e167]; exact up_get_ne (Or.inr (by omega)) (by rw [e163]; exact up_get_ne (Or.inr (by omega)) (z3 j h1 (by omega))))))))⟩ (fun c hc => by rw [e176, up_ne _ _ _ hc, e173, up_ne _ _ _ hc, e170, up_ne _ _ _ hc, e167, up_ne _ _ _ hc, e163, up_ne _ _ _ hc]; exact z1 c hc)) (by decide)))
      · skip
        have n180 := (nx_lt (a := j92_5) (b := 326) (by omega) (by omega)).mp (show (nI j92_5 < nI 326) from (Int32.not_le.mp c159))
        refine lv_aload_n hx hb dX7_net_100 rfl (lv_at hl 0 rfl) ?_
        refine get7 B hP (show hk 1076 = 7 by decide +kernel) 3 (by decide) mw_1030 rfl dX7_net_101 ?_
        refine lv_iload hx hb dX7_net_104 (lv_at hl 3 rfl) ?_
        refine lv_iload hx hb dX7_net_106 (lv_at hl 4 rfl) ?_
        refine lv_iadd hx hb dX7_net_108 ?_
        refine lv_topi (fun z181 ez181 => ?_)
        obtain rfl : z181 = (nI (42 + 326 * (nn a1) + j92_5)) := ez181.trans (by rw [show (nI (42 + 326 * (nn a1))) = nI (42 + 326 * (nn a1)) from rfl, show (nI j92_5) = nI j92_5 from rfl, nI_add] <;> exact congrArg nI (by omega))
        refine lv_iconst (v := 0) hx hb dX7_net_109 (by decide) ?_
        refine astn (n := 695) (j := (42 + 326 * (nn a1) + j92_5)) B hP hS (show hk 1078 = 8 by decide +kernel) (show hlen 1078 = 695 by decide +kernel) rfl (by omega) (by decide) dX7_net_110 (fun H locs hP hS => ?_)
        obtain ⟨ρ182, e183⟩ : ∃ z, z = up ρ 1078 (42 + 326 * (nn a1) + j92_5) 0 := ⟨_, rfl⟩
        rw [← e183] at hP
        refine lv_iinc (v := (nI (1 + j92_5))) (lv' := [(5, .int (nI (1 + j92_5))), (0, .ref (E.2.1 + 1076)), (2, .int a2), (3, .int a3), (4, .int (nI (42 + 326 * (nn a1))))]) hx hb dX7_net_111 hl (k := 4) rfl (show nI j92_5 + nI 1 = _ from (nI_add _ _).trans (congrArg nI (by omega))) (by decide) rfl (fun ls hl => ?_)
        refine lv_goto (tgt := 92) hx hb dX7_net_114 (by decide) ?_
        exact ih92 ls ρ182 _ _ (1 + j92_5) (lv_sub hl [1, 2, 3, 4, 0] rfl) hP hS (by rw [e183]; exact FZ_s hI (by omega) (by omega)) (by omega) (by omega) (by omega) (iR_w fa1 (by decide) (by decide)) (iR_w fa2 (by decide) (by decide)) (iR_w fa3 (by decide) (by decide)) (by omega) (by omega) (by omega) (by omega)
  have b71_0 : ∀ (ls : Array Slot) (ρ : Nat → Nat → Int32) (H : Heap) (locs : List Loc) , lv_has ls 6 [(0, .ref (E.2.1 + 1076))] → WP E ρ H → va_S (hA E) s.heap H locs → PJ r M L ρ → iR a1 (0) (1) → iR a2 (0) (5) → iR a3 (0) (65535) → 0 ≤ (nn a1) → (nn a1) ≤ 1 → W p l e (rmk 3 120) s m ([.ref (E.2.1 + 1076), .int a1, .int a2, .int a3] : List Value).toArray below meth c H locs 0 0 (MQ below (cI E (fun v ρ1 => PI r ρ1)) ([.ref (E.2.1 + 1076), .int a1, .int a2, .int a3] : List Value).toArray s 0 0 (hA E)) (F0 m 71 ls []) := by
    intro ls ρ H locs  hl hP hS hI fa1 fa2 fa3 tl_nn_a1_ tu_nn_a1_
    have hQ := hI.1
    have hI := PJ_I hI
    refine lv_aload_n hx hb dX7_net_71 rfl (lv_at hl 0 rfl) ?_
    refine lv_bipush (v := (-4)) hx hb dX7_net_72 (by decide) ?_
    refine call_i (cVt (k := 1076) (av := [.int (-4)]) (rest := []) B hP hS (d_X7_refuse4 l E ρ) lk_RX7_64 (hrecv (ci := 7) B hP (hk_lt (c := 7) (show hk 1076 = 7 by decide +kernel) (by decide)) (hcc7 _ _ (show hk 1076 = 7 by decide +kernel)) rfl) rfl rfl hl.1 (Nat.le_of_ble_eq_true rfl) ⟨Nat.le_of_ble_eq_true rfl, Nat.le_of_ble_eq_true rfl⟩ ⟨Nat.le_of_ble_eq_true rfl, Nat.le_of_ble_eq_true rfl⟩ dX7_net_74) hS (fun r184 ρ185 H locs q186 hP hS => ?_)
    have hJ2 := (show PJ r M L ρ185 from by rw [q186]; exact PJ_ref (PJ_RI hQ hI))
    have hQ := hJ2.1
    have hI := PJ_I hJ2
    exact ret_i B hr hlk hP hS dX7_net_77 ((PJ_RI hQ hI).1)
  have b27_0 : ∀ (ls : Array Slot) (ρ : Nat → Nat → Int32) (H : Heap) (locs : List Loc) , lv_has ls 6 [(0, .ref (E.2.1 + 1076))] → WP E ρ H → va_S (hA E) s.heap H locs → PJ r M L ρ → W p l e (rmk 3 120) s m ([.ref (E.2.1 + 1076), .int a1, .int a2, .int a3] : List Value).toArray below meth c H locs 0 0 (MQ below (cI E (fun v ρ1 => PI r ρ1)) ([.ref (E.2.1 + 1076), .int a1, .int a2, .int a3] : List Value).toArray s 0 0 (hA E)) (F0 m 27 ls []) := by
    intro ls ρ H locs  hl hP hS hI
    have hQ := hI.1
    have hI := PJ_I hI
    refine lv_aload_n hx hb dX7_net_27 rfl (lv_at hl 0 rfl) ?_
    refine lv_iconst (v := (-1)) hx hb dX7_net_28 (by decide) ?_
    refine call_i (cVt (k := 1076) (av := [.int (-1)]) (rest := []) B hP hS (d_X7_refuse1 l E ρ) lk_RX7_64 (hrecv (ci := 7) B hP (hk_lt (c := 7) (show hk 1076 = 7 by decide +kernel) (by decide)) (hcc7 _ _ (show hk 1076 = 7 by decide +kernel)) rfl) rfl rfl hl.1 (Nat.le_of_ble_eq_true rfl) ⟨Nat.le_of_ble_eq_true rfl, Nat.le_of_ble_eq_true rfl⟩ ⟨Nat.le_of_ble_eq_true rfl, Nat.le_of_ble_eq_true rfl⟩ dX7_net_29) hS (fun r187 ρ188 H locs q189 hP hS => ?_)
    have hJ2 := (show PJ r M L ρ188 from by rw [q189]; exact PJ_ref (PJ_RI hQ hI))
    have hQ := hJ2.1
    have hI := PJ_I hJ2
    exact ret_i B hr hlk hP hS dX7_net_32 ((PJ_RI hQ hI).1)
  refine lv_aload_n hx hb dX7_net_0 rfl (lv_at hl 0 rfl) ?_
  refine lv_iconst (v := 0) hx hb dX7_net_1 (by decide) ?_
  refine put7 B hP hS (show hk 1076 = 7 by decide +kernel) 0 (by decide) mw_1027 rfl rfl rfl (fs7_0 E 1076 _ _) dX7_net_2 (fun H locs hP hS => ?_)
  obtain ⟨ρ190, e191⟩ : ∃ z, z = up ρ 1076 0 0 := ⟨_, rfl⟩
  rw [← e191] at hP
  have hI : RI ρ 99998 M L X0 ρ190 := by rw [e191]; exact RI_76 hI (by decide)
  refine lv_iload_n hx hb dX7_net_5 rfl (lv_at hl 1 rfl) ?_
  refine lv_i2l hx hb dX7_net_6 rfl ?_
  refine lv_lconst (v := 0) hx hb dX7_net_7 (by decide) ?_
  refine lv_lconst (v := 1) hx hb dX7_net_8 (by decide) ?_
  refine call_i (cS (av := [.long a1.toInt64, .long 0, .long 1]) (rest := []) B hP hS (c_in l E ρ190 a1.toInt64 0 1 0 1 (by decide) (by decide)) lk_RX7_71 rfl rfl hl.1 (Nat.le_of_ble_eq_true rfl) ⟨Nat.le_of_ble_eq_true rfl, Nat.le_of_ble_eq_true rfl⟩ ⟨Nat.le_of_ble_eq_true rfl, Nat.le_of_ble_eq_true rfl⟩ dX7_net_9) hS (fun r192 ρ193 H locs q194 hP hS => ?_)
  obtain ⟨rfl, q194⟩ := q194
  rcases q194 with ⟨rfl, q194⟩ | ⟨rfl, q194⟩
  · skip
    have i195 : iR a1 0 1 := (lR_i _ _ _).mp q194
    refine lv_if_eq (tgt := 27) hx hb dX7_net_12 (by decide) (fun c196 => absurd c196 (iR_ne (show iR 1 (1) (1) from ⟨by decide, by decide⟩) (show iR 0 (0) (0) from ⟨by decide, by decide⟩) (by decide))) (fun _ => ?_)
    refine lv_iload_n hx hb dX7_net_15 rfl (lv_at hl 3 rfl) ?_
    refine lv_i2l hx hb dX7_net_16 rfl ?_
    refine lv_lconst (v := 0) hx hb dX7_net_17 (by decide) ?_
    refine lv_ldc2 (v := 65535) hx hb hown (hts _ mw_1164) dX7_net_18 ?_
    refine call_i (cS (av := [.long a3.toInt64, .long 0, .long 65535]) (rest := []) B hP hS (c_in l E ρ190 a3.toInt64 0 65535 0 65535 (by decide) (by decide)) lk_RX7_71 rfl rfl hl.1 (Nat.le_of_ble_eq_true rfl) ⟨Nat.le_of_ble_eq_true rfl, Nat.le_of_ble_eq_true rfl⟩ ⟨Nat.le_of_ble_eq_true rfl, Nat.le_of_ble_eq_true rfl⟩ dX7_net_21) hS (fun r197 ρ198 H locs q199 hP hS => ?_)
    obtain ⟨rfl, q199⟩ := q199
    rcases q199 with ⟨rfl, q199⟩ | ⟨rfl, q199⟩
    · skip
      have i200 : iR a3 0 65535 := (lR_i _ _ _).mp q199
      refine lv_if_ne (tgt := 33) hx hb dX7_net_24 (by decide) (fun _ => ?_) (fun c201 => absurd c201 (iR_ne (show iR 1 (1) (1) from ⟨by decide, by decide⟩) (show iR 0 (0) (0) from ⟨by decide, by decide⟩) (by decide)))
      refine lv_aload_n hx hb dX7_net_33 rfl (lv_at hl 0 rfl) ?_
      refine lv_iload_n hx hb dX7_net_34 rfl (lv_at hl 2 rfl) ?_
      refine call_i (cVt (k := 1076) (av := [.int a2]) (rest := []) B hP hS (d_X7_isRadio l E ρ190 ρ 99998 (by decide) M L X0 a2 hI) lk_RX7_124 (hrecv (ci := 7) B hP (hk_lt (c := 7) (show hk 1076 = 7 by decide +kernel) (by decide)) (hcc7 _ _ (show hk 1076 = 7 by decide +kernel)) rfl) rfl rfl hl.1 (Nat.le_of_ble_eq_true rfl) ⟨Nat.le_of_ble_eq_true rfl, Nat.le_of_ble_eq_true rfl⟩ ⟨Nat.le_of_ble_eq_true rfl, Nat.le_of_ble_eq_true rfl⟩ dX7_net_35) hS (fun r202 ρ203 H locs q204 hP hS => ?_)
      obtain ⟨rfl, hI, q204⟩ := q204
      rcases q204 with rfl | ⟨rfl, i205⟩
      · skip
        refine lv_if_ne (tgt := 48) hx hb dX7_net_38 (by decide) (fun c206 => absurd rfl c206) (fun _ => ?_)
        refine lv_aload_n hx hb dX7_net_41 rfl (lv_at hl 0 rfl) ?_
        refine lv_bipush (v := (-2)) hx hb dX7_net_42 (by decide) ?_
        refine call_i (cVt (k := 1076) (av := [.int (-2)]) (rest := []) B hP hS (d_X7_refuse2 l E ρ190) lk_RX7_64 (hrecv (ci := 7) B hP (hk_lt (c := 7) (show hk 1076 = 7 by decide +kernel) (by decide)) (hcc7 _ _ (show hk 1076 = 7 by decide +kernel)) rfl) rfl rfl hl.1 (Nat.le_of_ble_eq_true rfl) ⟨Nat.le_of_ble_eq_true rfl, Nat.le_of_ble_eq_true rfl⟩ ⟨Nat.le_of_ble_eq_true rfl, Nat.le_of_ble_eq_true rfl⟩ dX7_net_44) hS (fun r207 ρ208 H locs q209 hP hS => ?_)
        have hJ2 := (show PJ r M L ρ208 from by rw [q209]; exact PJ_ref (PJ_RI hQ hI))
        have hQ := hJ2.1
        have hI := PJ_I hJ2
        exact ret_i B hr hlk hP hS dX7_net_47 ((PJ_RI hQ hI).1)
      · skip
        refine lv_if_ne (tgt := 48) hx hb dX7_net_38 (by decide) (fun _ => ?_) (fun c210 => absurd c210 (iR_ne (show iR 1 (1) (1) from ⟨by decide, by decide⟩) (show iR 0 (0) (0) from ⟨by decide, by decide⟩) (by decide)))
        refine lv_aload_n hx hb dX7_net_48 rfl (lv_at hl 0 rfl) ?_
        refine lv_iload_n hx hb dX7_net_49 rfl (lv_at hl 1 rfl) ?_
        have := nn_r (x := a1) (a := 0) (b := 1) i195 (by decide)
        refine lv_topi (fun z211 ez211 => ?_)
        obtain rfl : z211 = nI (nn a1) := ez211.trans (nn_eq a1)
        refine call_i (cVt (k := 1076) (av := [.int (nI (nn a1))]) (rest := []) B hP hS (d_X7_isNet l E ρ190 ρ 99998 (by decide) M L X0 (nI (nn a1)) hI) lk_RX7_78 (hrecv (ci := 7) B hP (hk_lt (c := 7) (show hk 1076 = 7 by decide +kernel) (by decide)) (hcc7 _ _ (show hk 1076 = 7 by decide +kernel)) rfl) rfl rfl hl.1 (Nat.le_of_ble_eq_true rfl) ⟨Nat.le_of_ble_eq_true rfl, Nat.le_of_ble_eq_true rfl⟩ ⟨Nat.le_of_ble_eq_true rfl, Nat.le_of_ble_eq_true rfl⟩ dX7_net_50) hS (fun r212 ρ213 H locs q214 hP hS => ?_)
        obtain ⟨rfl, hI, q214⟩ := q214
        rcases q214 with rfl | ⟨rfl, j215, hj215, ej215, i216⟩
        · skip
          refine lv_if_ne (tgt := 71) hx hb dX7_net_53 (by decide) (fun c217 => absurd rfl c217) (fun _ => ?_)
          refine lv_aload_n hx hb dX7_net_56 rfl (lv_at hl 0 rfl) ?_
          refine get7 B hP (show hk 1076 = 7 by decide +kernel) 3 (by decide) mw_1030 rfl dX7_net_57 ?_
          refine lv_iconst (v := 1) hx hb dX7_net_60 (by decide) ?_
          refine lv_iload_n hx hb dX7_net_61 rfl (lv_at hl 1 rfl) ?_
          refine lv_topi (fun z218 ez218 => ?_)
          obtain rfl : z218 = nI (nn a1) := ez218.trans (nn_eq a1)
          refine lv_isub hx hb dX7_net_62 ?_
          obtain ⟨j219, hj219⟩ : ∃ q, 1 = q + (nn a1) := ⟨1 - (nn a1), by omega⟩
          refine lv_topi (fun z220 ez220 => ?_)
          obtain rfl : z220 = (nI j219) := ez220.trans (nI_subE (a := 1) (b := (nn a1)) hj219)
          refine call_i (cS (av := [.int (nI j219)]) (rest := [.ref (E.2.1 + 1078)]) B hP hS (d_X7_netAt l E ρ190 ρ 99998 (by decide) M L X0 j219 (by omega) (by omega) hI) lk_RX7_75 rfl rfl hl.1 (Nat.le_of_ble_eq_true rfl) ⟨Nat.le_of_ble_eq_true rfl, Nat.le_of_ble_eq_true rfl⟩ ⟨Nat.le_of_ble_eq_true rfl, Nat.le_of_ble_eq_true rfl⟩ dX7_net_63) hS (fun r221 ρ222 H locs q223 hP hS => ?_)
          obtain ⟨rfl, hI, q223⟩ := q223
          obtain rfl : r221 = nI (42 + 326 * j219) := q223.trans (congrArg nI (by omega))
          refine aldf (n := 695) (j := (42 + 326 * j219)) (v := (M j219)) B hP (show hk 1078 = 8 by decide +kernel) (show hlen 1078 = 695 by decide +kernel) rfl (by omega) (by decide) (g_m (n0 := j219) hI (by omega) (by omega)) dX7_net_66 ?_
          have i224 : iR (M j219) (-1) 5 := RI_Mb hI (by omega)
          refine lv_iload_n hx hb dX7_net_67 rfl (lv_at hl 2 rfl) ?_
          have := nn_r (x := a2) (a := 0) (b := 5) i205 (by decide)
          refine lv_topi (fun z225 ez225 => ?_)
          obtain rfl : z225 = nI (nn a2) := ez225.trans (nn_eq a2)
          refine lv_icmp_ne (tgt := 78) hx hb dX7_net_68 (by decide) (fun c226 => ?_) (fun c226 => ?_)
          · skip
            refine lv_aload_n hx hb dX7_net_78 rfl (lv_at hl 0 rfl) ?_
            refine lv_iconst (v := 1) hx hb dX7_net_79 (by decide) ?_
            refine call_v (cVt (k := 1076) (av := [.int 1]) (rest := []) B hP hS (d_X7_remember l E ρ190 r M L (PJ_RI hQ hI) ρ190 rfl 1) lk_RX7_118 (hrecv (ci := 7) B hP (hk_lt (c := 7) (show hk 1076 = 7 by decide +kernel) (by decide)) (hcc7 _ _ (show hk 1076 = 7 by decide +kernel)) rfl) rfl rfl hl.1 (Nat.le_of_ble_eq_true rfl) ⟨Nat.le_of_ble_eq_true rfl, Nat.le_of_ble_eq_true rfl⟩ ⟨Nat.le_of_ble_eq_true rfl, Nat.le_of_ble_eq_true rfl⟩ dX7_net_80) hS (fun ρ228 H locs q229 hP hS => ?_)
            obtain ⟨hJ2, hrow230⟩ := q229
            have hJ2 := hJ2
            have hQ := hJ2.1
            have hI := PJ_I hJ2
            refine lv_iload_n hx hb dX7_net_83 rfl (lv_at hl 1 rfl) ?_
            refine lv_topi (fun z231 ez231 => ?_)
            obtain rfl : z231 = nI (nn a1) := ez231.trans (nn_eq a1)
            refine call_i (cS (av := [.int (nI (nn a1))]) (rest := []) B hP hS (d_X7_netAt l E ρ228 ρ228 99998 (by decide) M L X0 (nn a1) (by omega) (by omega) hI) lk_RX7_75 rfl rfl hl.1 (Nat.le_of_ble_eq_true rfl) ⟨Nat.le_of_ble_eq_true rfl, Nat.le_of_ble_eq_true rfl⟩ ⟨Nat.le_of_ble_eq_true rfl, Nat.le_of_ble_eq_true rfl⟩ dX7_net_84) hS (fun r232 ρ233 H locs q234 hP hS => ?_)
            obtain ⟨rfl, hI, q234⟩ := q234
            obtain rfl : r232 = nI (42 + 326 * (nn a1)) := q234.trans (congrArg nI (by omega))
            refine lv_istore (lv' := [(4, .int (nI (42 + 326 * (nn a1)))), (0, .ref (E.2.1 + 1076)), (1, .int a1), (2, .int a2), (3, .int a3)]) hx hb dX7_net_87 hl (by decide) rfl (fun ls hl => ?_)
            refine lv_iconst (v := 0) hx hb dX7_net_89 (by decide) ?_
            refine lv_istore (lv' := [(5, .int 0), (4, .int (nI (42 + 326 * (nn a1)))), (0, .ref (E.2.1 + 1076)), (1, .int a1), (2, .int a2), (3, .int a3)]) hx hb dX7_net_90 hl (by decide) rfl (fun ls hl => ?_)
            exact b92_0 ls ρ228 _ _ _ 0 (lv_sub hl [2, 4, 5, 1, 0] rfl) hP hS (FZ_0 (PJ_RI hQ hI)) (Nat.lt_succ_self _) (by omega) (by omega) (iR_w i195 (by decide) (by decide)) (iR_w i205 (by decide) (by decide)) (iR_w i200 (by decide) (by decide)) (by omega) (by omega) (by omega) (by omega)
          · skip
            have i235 : iR (M j219) (0) (5) := (by rw [c226]; exact (nI_iR (j := (nn a2)) (a := 0) (b := 5) (by omega) (by omega) (by omega)))
            exact b71_0 ls ρ190 _ _  (lv_sub hl [0] rfl) hP hS (PJ_RI hQ hI) (iR_w i195 (by decide) (by decide)) (iR_w i205 (by decide) (by decide)) (iR_w i200 (by decide) (by decide)) (by omega) (by omega)
        · skip
          have n236 : (nn a1) = j215 := (nI_eq (by omega) (by omega)).mp (show nI (nn a1) = nI j215 from ej215)
          have i237 : iR (M (nn a1)) 0 5 := by rw [n236]; exact i216
          refine lv_if_ne (tgt := 71) hx hb dX7_net_53 (by decide) (fun _ => ?_) (fun c238 => absurd c238 (iR_ne (show iR 1 (1) (1) from ⟨by decide, by decide⟩) (show iR 0 (0) (0) from ⟨by decide, by decide⟩) (by decide)))
          exact b71_0 ls ρ190 _ _  (lv_sub hl [0] rfl) hP hS (PJ_RI hQ hI) (iR_w i195 (by decide) (by decide)) (iR_w i205 (by decide) (by decide)) (iR_w i200 (by decide) (by decide)) (by omega) (by omega)
    · skip
      refine lv_if_ne (tgt := 33) hx hb dX7_net_24 (by decide) (fun c239 => absurd rfl c239) (fun _ => ?_)
      exact b27_0 ls ρ190 _ _  (lv_sub hl [0] rfl) hP hS (PJ_RI hQ hI) 
  · skip
    refine lv_if_eq (tgt := 27) hx hb dX7_net_12 (by decide) (fun _ => ?_) (fun c240 => absurd rfl c240)
    exact b27_0 ls ρ190 _ _  (lv_sub hl [0] rfl) hP hS (PJ_RI hQ hI) 

set_option maxHeartbeats 4000000 in
set_option maxRecDepth 100000 in
theorem d_X7_join (l : Launch) (E : hE) (ρ r : Nat → Nat → Int32) (M : Nat → Int32) (L : Nat → Nat) (hJ : PJ r M L ρ) (a1 : Int32) (a2 : Int32) : Met l yX7_join (.code yX7_join cX7_join 7 (some .int) :: gw_all) (rmk 4 160) (cPre E ρ [.ref (E.2.1 + 1076), .int a1, .int a2]) (cI E (fun v ρ1 => PI r ρ1)) 0 0 (hA E) := by
  refine ent (own := RX7) (by decide) rfl (Nat.le_of_ble_eq_true rfl) ?_
  intro p e s m below meth c ls B hr hlk hl hP hS
  have hx := B.1.1
  have hb := B.1.2.1
  have hown := B.1.2.2.2.1
  have hts := B.1.2.2.2.2
  have hl : lv_has ls 7 [(0, .ref (E.2.1 + 1076)), (1, .int a1), (2, .int a2)] := hl
  have hQ := hJ.1
  have hI := PJ_I hJ
  have b89_0 : ∀ (ls : Array Slot) (ρ : Nat → Nat → Int32) (H : Heap) (locs : List Loc) (d89 : Nat) (j89_6 : Nat), lv_has ls 7 [(0, .ref (E.2.1 + 1076)), (2, .int a2), (3, .int (nI (42 + 326 * (nn a1)))), (4, .int (nI (L (nn a1)))), (5, .int (nI (104 + 326 * (nn a1) + 66 * (L (nn a1))))), (6, .int (nI j89_6))] → WP E ρ H → va_S (hA E) s.heap H locs → FZ r M L (104 + 326 * (nn a1) + 66 * (L (nn a1))) 66 j89_6 ρ → 67 - j89_6 < d89 → 0 ≤ j89_6 → j89_6 ≤ 66 → iR (M (nn a1)) (0) (5) → iR a1 (0) (1) → iR a2 (0) (5) → 0 ≤ (L (nn a1)) → (L (nn a1)) ≤ 3 → 0 ≤ (nn a1) → (nn a1) ≤ 1 → 0 ≤ (nn a2) → (nn a2) ≤ 5 → W p l e (rmk 4 160) s m ([.ref (E.2.1 + 1076), .int a1, .int a2] : List Value).toArray below meth c H locs 0 0 (MQ below (cI E (fun v ρ1 => PI r ρ1)) ([.ref (E.2.1 + 1076), .int a1, .int a2] : List Value).toArray s 0 0 (hA E)) (F0 m 89 ls []) := by
    intro ls ρ H locs d89
    induction d89 generalizing ls ρ H locs with
    | zero => intro j89_6 hl hP hS hI hd89 lj89_6 uj89_6 f_M__nn_a1__ fa1 fa2 tl_L__nn_a1__ tu_L__nn_a1__ tl_nn_a1_ tu_nn_a1_ tl_nn_a2_ tu_nn_a2_; exact absurd hd89 (Nat.not_lt_zero _)
    | succ d89 ih89 =>
      intro j89_6 hl hP hS hI hd89 lj89_6 uj89_6 f_M__nn_a1__ fa1 fa2 tl_L__nn_a1__ tu_L__nn_a1__ tl_nn_a1_ tu_nn_a1_ tl_nn_a2_ tu_nn_a2_
      refine lv_iload hx hb dX7_join_89 (lv_at hl 5 rfl) ?_
      refine lv_bipush (v := 66) hx hb dX7_join_91 (by decide) ?_
      refine lv_icmp_ge (tgt := 113) hx hb dX7_join_93 (by decide) (fun c185 => ?_) (fun c185 => ?_)
      · skip
        have n186 := mt (nx_lt (a := j89_6) (b := 66) (by omega) (by omega)).mpr (show ¬ (nI j89_6 < nI 66) from (Int32.not_lt.mpr c185))
        obtain ⟨ra, hJa, z1, z2, z3⟩ := hI
        have hIa := PJ_I hJa
        refine lv_aload_n hx hb dX7_join_113 rfl (lv_at hl 0 rfl) ?_
        refine get7 B hP (show hk 1076 = 7 by decide +kernel) 3 (by decide) mw_1030 rfl dX7_join_114 ?_
        refine lv_iload hx hb dX7_join_117 (lv_at hl 4 rfl) ?_
        refine lv_iload_n hx hb dX7_join_119 rfl (lv_at hl 1 rfl) ?_
        have := nn_r (x := a2) (a := 0) (b := 5) fa2 (by decide)
        refine lv_topi (fun z187 ez187 => ?_)
        obtain rfl : z187 = nI (nn a2) := ez187.trans (nn_eq a2)
        refine astn (n := 695) (j := (104 + 326 * (nn a1) + 66 * (L (nn a1)))) B hP hS (show hk 1078 = 8 by decide +kernel) (show hlen 1078 = 695 by decide +kernel) rfl (by omega) (by decide) dX7_join_120 (fun H locs hP hS => ?_)
        obtain ⟨ρ188, e189⟩ : ∃ z, z = up ρ 1078 (104 + 326 * (nn a1) + 66 * (L (nn a1))) (nI (nn a2)) := ⟨_, rfl⟩
        rw [← e189] at hP
        refine lv_aload_n hx hb dX7_join_121 rfl (lv_at hl 0 rfl) ?_
        refine get7 B hP (show hk 1076 = 7 by decide +kernel) 3 (by decide) mw_1030 rfl dX7_join_122 ?_
        refine lv_iload hx hb dX7_join_125 (lv_at hl 4 rfl) ?_
        refine lv_iconst (v := 1) hx hb dX7_join_127 (by decide) ?_
        refine lv_iadd hx hb dX7_join_128 ?_
        refine lv_topi (fun z190 ez190 => ?_)
        obtain rfl : z190 = (nI (105 + 326 * (nn a1) + 66 * (L (nn a1)))) := ez190.trans (by rw [show (nI (104 + 326 * (nn a1) + 66 * (L (nn a1)))) = nI (104 + 326 * (nn a1) + 66 * (L (nn a1))) from rfl, show 1 = nI 1 from rfl, nI_add] <;> exact congrArg nI (by omega))
        refine lv_aload_n hx hb dX7_join_129 rfl (lv_at hl 0 rfl) ?_
        refine get7 B hP (show hk 1076 = 7 by decide +kernel) 3 (by decide) mw_1030 rfl dX7_join_130 ?_
        refine lv_iload_n hx hb dX7_join_133 rfl (lv_at hl 2 rfl) ?_
        refine lv_iconst (v := 2) hx hb dX7_join_134 (by decide) ?_
        refine lv_iadd hx hb dX7_join_135 ?_
        refine lv_topi (fun z191 ez191 => ?_)
        obtain rfl : z191 = (nI (44 + 326 * (nn a1))) := ez191.trans (by rw [show (nI (42 + 326 * (nn a1))) = nI (42 + 326 * (nn a1)) from rfl, show 2 = nI 2 from rfl, nI_add] <;> exact congrArg nI (by omega))
        refine aldn (n := 695) (j := (44 + 326 * (nn a1))) B hP (show hk 1078 = 8 by decide +kernel) (show hlen 1078 = 695 by decide +kernel) rfl (by omega) (by decide) dX7_join_136 ?_
        have i192 : iR (ρ188 1078 (44 + 326 * (nn a1))) 1 8388607 := by rw [show (ρ188 1078 (44 + 326 * (nn a1))) = ra 1078 (44 + 326 * (nn a1)) from (by rw [e189]; exact up_get_ne (Or.inr (by omega)) (z2 _ (by omega)))]; exact g_map (n0 := nn a1) (j := (44 + 326 * (nn a1))) hIa (by omega) f_M__nn_a1__ (by omega)
        refine astn (n := 695) (j := (105 + 326 * (nn a1) + 66 * (L (nn a1)))) B hP hS (show hk 1078 = 8 by decide +kernel) (show hlen 1078 = 695 by decide +kernel) rfl (by omega) (by decide) dX7_join_137 (fun H locs hP hS => ?_)
        obtain ⟨ρ193, e194⟩ : ∃ z, z = up ρ188 1078 (105 + 326 * (nn a1) + 66 * (L (nn a1))) (ρ188 1078 (44 + 326 * (nn a1))) := ⟨_, rfl⟩
        rw [← e194] at hP
        refine lv_aload_n hx hb dX7_join_138 rfl (lv_at hl 0 rfl) ?_
        refine get7 B hP (show hk 1076 = 7 by decide +kernel) 3 (by decide) mw_1030 rfl dX7_join_139 ?_
        refine lv_iload hx hb dX7_join_142 (lv_at hl 4 rfl) ?_
        refine lv_iconst (v := 2) hx hb dX7_join_144 (by decide) ?_
        refine lv_iadd hx hb dX7_join_145 ?_
        refine lv_topi (fun z195 ez195 => ?_)
        obtain rfl : z195 = (nI (106 + 326 * (nn a1) + 66 * (L (nn a1)))) := ez195.trans (by rw [show (nI (104 + 326 * (nn a1) + 66 * (L (nn a1)))) = nI (104 + 326 * (nn a1) + 66 * (L (nn a1))) from rfl, show 2 = nI 2 from rfl, nI_add] <;> exact congrArg nI (by omega))
        refine lv_aload_n hx hb dX7_join_146 rfl (lv_at hl 0 rfl) ?_
        refine get7 B hP (show hk 1076 = 7 by decide +kernel) 3 (by decide) mw_1030 rfl dX7_join_147 ?_
        refine lv_iload_n hx hb dX7_join_150 rfl (lv_at hl 2 rfl) ?_
        refine lv_iconst (v := 3) hx hb dX7_join_151 (by decide) ?_
        refine lv_iadd hx hb dX7_join_152 ?_
        refine lv_topi (fun z196 ez196 => ?_)
        obtain rfl : z196 = (nI (45 + 326 * (nn a1))) := ez196.trans (by rw [show (nI (42 + 326 * (nn a1))) = nI (42 + 326 * (nn a1)) from rfl, show 3 = nI 3 from rfl, nI_add] <;> exact congrArg nI (by omega))
        refine aldn (n := 695) (j := (45 + 326 * (nn a1))) B hP (show hk 1078 = 8 by decide +kernel) (show hlen 1078 = 695 by decide +kernel) rfl (by omega) (by decide) dX7_join_153 ?_
        have i197 : iR (ρ193 1078 (45 + 326 * (nn a1))) 0 8388607 := by rw [show (ρ193 1078 (45 + 326 * (nn a1))) = ra 1078 (45 + 326 * (nn a1)) from (by rw [e194]; exact up_get_ne (Or.inr (by omega)) (by rw [e189]; exact up_get_ne (Or.inr (by omega)) (z2 _ (by omega))))]; exact g_next (n0 := nn a1) (j := (45 + 326 * (nn a1))) hIa (by omega) (by omega)
        refine astn (n := 695) (j := (106 + 326 * (nn a1) + 66 * (L (nn a1)))) B hP hS (show hk 1078 = 8 by decide +kernel) (show hlen 1078 = 695 by decide +kernel) rfl (by omega) (by decide) dX7_join_154 (fun H locs hP hS => ?_)
        obtain ⟨ρ198, e199⟩ : ∃ z, z = up ρ193 1078 (106 + 326 * (nn a1) + 66 * (L (nn a1))) (ρ193 1078 (45 + 326 * (nn a1))) := ⟨_, rfl⟩
        rw [← e199] at hP
        refine lv_aload_n hx hb dX7_join_155 rfl (lv_at hl 0 rfl) ?_
        refine get7 B hP (show hk 1076 = 7 by decide +kernel) 3 (by decide) mw_1030 rfl dX7_join_156 ?_
        refine lv_iload hx hb dX7_join_159 (lv_at hl 4 rfl) ?_
        refine lv_iconst (v := 3) hx hb dX7_join_161 (by decide) ?_
        refine lv_iadd hx hb dX7_join_162 ?_
        refine lv_topi (fun z200 ez200 => ?_)
        obtain rfl : z200 = (nI (107 + 326 * (nn a1) + 66 * (L (nn a1)))) := ez200.trans (by rw [show (nI (104 + 326 * (nn a1) + 66 * (L (nn a1)))) = nI (104 + 326 * (nn a1) + 66 * (L (nn a1))) from rfl, show 3 = nI 3 from rfl, nI_add] <;> exact congrArg nI (by omega))
        refine lv_aload_n hx hb dX7_join_163 rfl (lv_at hl 0 rfl) ?_
        refine get7 B hP (show hk 1076 = 7 by decide +kernel) 3 (by decide) mw_1030 rfl dX7_join_164 ?_
        refine lv_iload_n hx hb dX7_join_167 rfl (lv_at hl 2 rfl) ?_
        refine lv_iconst (v := 4) hx hb dX7_join_168 (by decide) ?_
        refine lv_iadd hx hb dX7_join_169 ?_
        refine lv_topi (fun z201 ez201 => ?_)
        obtain rfl : z201 = (nI (46 + 326 * (nn a1))) := ez201.trans (by rw [show (nI (42 + 326 * (nn a1))) = nI (42 + 326 * (nn a1)) from rfl, show 4 = nI 4 from rfl, nI_add] <;> exact congrArg nI (by omega))
        refine aldn (n := 695) (j := (46 + 326 * (nn a1))) B hP (show hk 1078 = 8 by decide +kernel) (show hlen 1078 = 695 by decide +kernel) rfl (by omega) (by decide) dX7_join_170 ?_
        refine astn (n := 695) (j := (107 + 326 * (nn a1) + 66 * (L (nn a1)))) B hP hS (show hk 1078 = 8 by decide +kernel) (show hlen 1078 = 695 by decide +kernel) rfl (by omega) (by decide) dX7_join_171 (fun H locs hP hS => ?_)
        obtain ⟨ρ202, e203⟩ : ∃ z, z = up ρ198 1078 (107 + 326 * (nn a1) + 66 * (L (nn a1))) (ρ198 1078 (46 + 326 * (nn a1))) := ⟨_, rfl⟩
        rw [← e203] at hP
        refine lv_aload_n hx hb dX7_join_172 rfl (lv_at hl 0 rfl) ?_
        refine get7 B hP (show hk 1076 = 7 by decide +kernel) 3 (by decide) mw_1030 rfl dX7_join_173 ?_
        refine lv_iload hx hb dX7_join_176 (lv_at hl 4 rfl) ?_
        refine lv_iconst (v := 4) hx hb dX7_join_178 (by decide) ?_
        refine lv_iadd hx hb dX7_join_179 ?_
        refine lv_topi (fun z204 ez204 => ?_)
        obtain rfl : z204 = (nI (108 + 326 * (nn a1) + 66 * (L (nn a1)))) := ez204.trans (by rw [show (nI (104 + 326 * (nn a1) + 66 * (L (nn a1)))) = nI (104 + 326 * (nn a1) + 66 * (L (nn a1))) from rfl, show 4 = nI 4 from rfl, nI_add] <;> exact congrArg nI (by omega))
        refine lv_iconst (v := 1) hx hb dX7_join_180 (by decide) ?_
        refine astn (n := 695) (j := (108 + 326 * (nn a1) + 66 * (L (nn a1)))) B hP hS (show hk 1078 = 8 by decide +kernel) (show hlen 1078 = 695 by decide +kernel) rfl (by omega) (by decide) dX7_join_181 (fun H locs hP hS => ?_)
        obtain ⟨ρ205, e206⟩ : ∃ z, z = up ρ202 1078 (108 + 326 * (nn a1) + 66 * (L (nn a1))) 1 := ⟨_, rfl⟩
        rw [← e206] at hP
        refine lv_aload_n hx hb dX7_join_182 rfl (lv_at hl 0 rfl) ?_
        refine get7 B hP (show hk 1076 = 7 by decide +kernel) 3 (by decide) mw_1030 rfl dX7_join_183 ?_
        refine lv_iload hx hb dX7_join_186 (lv_at hl 4 rfl) ?_
        refine lv_bipush (v := 24) hx hb dX7_join_188 (by decide) ?_
        refine lv_iadd hx hb dX7_join_190 ?_
        refine lv_topi (fun z207 ez207 => ?_)
        obtain rfl : z207 = (nI (128 + 326 * (nn a1) + 66 * (L (nn a1)))) := ez207.trans (by rw [show (nI (104 + 326 * (nn a1) + 66 * (L (nn a1)))) = nI (104 + 326 * (nn a1) + 66 * (L (nn a1))) from rfl, show 24 = nI 24 from rfl, nI_add] <;> exact congrArg nI (by omega))
        refine lv_iconst (v := 1) hx hb dX7_join_191 (by decide) ?_
        refine astn (n := 695) (j := (128 + 326 * (nn a1) + 66 * (L (nn a1)))) B hP hS (show hk 1078 = 8 by decide +kernel) (show hlen 1078 = 695 by decide +kernel) rfl (by omega) (by decide) dX7_join_192 (fun H locs hP hS => ?_)
        obtain ⟨ρ208, e209⟩ : ∃ z, z = up ρ205 1078 (128 + 326 * (nn a1) + 66 * (L (nn a1))) 1 := ⟨_, rfl⟩
        rw [← e209] at hP
        refine lv_aload_n hx hb dX7_join_193 rfl (lv_at hl 0 rfl) ?_
        refine get7 B hP (show hk 1076 = 7 by decide +kernel) 3 (by decide) mw_1030 rfl dX7_join_194 ?_
        refine lv_iload hx hb dX7_join_197 (lv_at hl 4 rfl) ?_
        refine lv_bipush (v := 26) hx hb dX7_join_199 (by decide) ?_
        refine lv_iadd hx hb dX7_join_201 ?_
        refine lv_topi (fun z210 ez210 => ?_)
        obtain rfl : z210 = (nI (130 + 326 * (nn a1) + 66 * (L (nn a1)))) := ez210.trans (by rw [show (nI (104 + 326 * (nn a1) + 66 * (L (nn a1)))) = nI (104 + 326 * (nn a1) + 66 * (L (nn a1))) from rfl, show 26 = nI 26 from rfl, nI_add] <;> exact congrArg nI (by omega))
        refine lv_iconst (v := 1) hx hb dX7_join_202 (by decide) ?_
        refine astn (n := 695) (j := (130 + 326 * (nn a1) + 66 * (L (nn a1)))) B hP hS (show hk 1078 = 8 by decide +kernel) (show hlen 1078 = 695 by decide +kernel) rfl (by omega) (by decide) dX7_join_203 (fun H locs hP hS => ?_)
        obtain ⟨ρ211, e212⟩ : ∃ z, z = up ρ208 1078 (130 + 326 * (nn a1) + 66 * (L (nn a1))) 1 := ⟨_, rfl⟩
        rw [← e212] at hP
        refine lv_aload_n hx hb dX7_join_204 rfl (lv_at hl 0 rfl) ?_
        refine get7 B hP (show hk 1076 = 7 by decide +kernel) 3 (by decide) mw_1030 rfl dX7_join_205 ?_
        refine lv_iload hx hb dX7_join_208 (lv_at hl 4 rfl) ?_
        refine lv_bipush (v := 45) hx hb dX7_join_210 (by decide) ?_
        refine lv_iadd hx hb dX7_join_212 ?_
        refine lv_topi (fun z213 ez213 => ?_)
        obtain rfl : z213 = (nI (149 + 326 * (nn a1) + 66 * (L (nn a1)))) := ez213.trans (by rw [show (nI (104 + 326 * (nn a1) + 66 * (L (nn a1)))) = nI (104 + 326 * (nn a1) + 66 * (L (nn a1))) from rfl, show 45 = nI 45 from rfl, nI_add] <;> exact congrArg nI (by omega))
        refine lv_iconst (v := 1) hx hb dX7_join_213 (by decide) ?_
        refine astn (n := 695) (j := (149 + 326 * (nn a1) + 66 * (L (nn a1)))) B hP hS (show hk 1078 = 8 by decide +kernel) (show hlen 1078 = 695 by decide +kernel) rfl (by omega) (by decide) dX7_join_214 (fun H locs hP hS => ?_)
        obtain ⟨ρ214, e215⟩ : ∃ z, z = up ρ211 1078 (149 + 326 * (nn a1) + 66 * (L (nn a1))) 1 := ⟨_, rfl⟩
        rw [← e215] at hP
        refine lv_aload_n hx hb dX7_join_215 rfl (lv_at hl 0 rfl) ?_
        refine get7 B hP (show hk 1076 = 7 by decide +kernel) 3 (by decide) mw_1030 rfl dX7_join_216 ?_
        refine lv_iload hx hb dX7_join_219 (lv_at hl 4 rfl) ?_
        refine lv_bipush (v := 48) hx hb dX7_join_221 (by decide) ?_
        refine lv_iadd hx hb dX7_join_223 ?_
        refine lv_topi (fun z216 ez216 => ?_)
        obtain rfl : z216 = (nI (152 + 326 * (nn a1) + 66 * (L (nn a1)))) := ez216.trans (by rw [show (nI (104 + 326 * (nn a1) + 66 * (L (nn a1)))) = nI (104 + 326 * (nn a1) + 66 * (L (nn a1))) from rfl, show 48 = nI 48 from rfl, nI_add] <;> exact congrArg nI (by omega))
        refine lv_iconst (v := 1) hx hb dX7_join_224 (by decide) ?_
        refine astn (n := 695) (j := (152 + 326 * (nn a1) + 66 * (L (nn a1)))) B hP hS (show hk 1078 = 8 by decide +kernel) (show hlen 1078 = 695 by decide +kernel) rfl (by omega) (by decide) dX7_join_225 (fun H locs hP hS => ?_)
        obtain ⟨ρ217, e218⟩ : ∃ z, z = up ρ214 1078 (152 + 326 * (nn a1) + 66 * (L (nn a1))) 1 := ⟨_, rfl⟩
        rw [← e218] at hP
        refine lv_aload_n hx hb dX7_join_226 rfl (lv_at hl 0 rfl) ?_
        refine get7 B hP (show hk 1076 = 7 by decide +kernel) 3 (by decide) mw_1030 rfl dX7_join_227 ?_
        refine lv_iload hx hb dX7_join_230 (lv_at hl 4 rfl) ?_
        refine lv_bipush (v := 49) hx hb dX7_join_232 (by decide) ?_
        refine lv_iadd hx hb dX7_join_234 ?_
        refine lv_topi (fun z219 ez219 => ?_)
        obtain rfl : z219 = (nI (153 + 326 * (nn a1) + 66 * (L (nn a1)))) := ez219.trans (by rw [show (nI (104 + 326 * (nn a1) + 66 * (L (nn a1)))) = nI (104 + 326 * (nn a1) + 66 * (L (nn a1))) from rfl, show 49 = nI 49 from rfl, nI_add] <;> exact congrArg nI (by omega))
        refine lv_aload_n hx hb dX7_join_235 rfl (lv_at hl 0 rfl) ?_
        refine get7 B hP (show hk 1076 = 7 by decide +kernel) 3 (by decide) mw_1030 rfl dX7_join_236 ?_
        refine lv_bipush (v := 7) hx hb dX7_join_239 (by decide) ?_
        refine aldn (n := 695) (j := 7) B hP (show hk 1078 = 8 by decide +kernel) (show hlen 1078 = 695 by decide +kernel) rfl (by omega) (by decide) dX7_join_241 ?_
        refine astn (n := 695) (j := (153 + 326 * (nn a1) + 66 * (L (nn a1)))) B hP hS (show hk 1078 = 8 by decide +kernel) (show hlen 1078 = 695 by decide +kernel) rfl (by omega) (by decide) dX7_join_242 (fun H locs hP hS => ?_)
        obtain ⟨ρ220, e221⟩ : ∃ z, z = up ρ217 1078 (153 + 326 * (nn a1) + 66 * (L (nn a1))) (ρ217 1078 7) := ⟨_, rfl⟩
        rw [← e221] at hP
        refine lv_aload_n hx hb dX7_join_243 rfl (lv_at hl 0 rfl) ?_
        refine get7 B hP (show hk 1076 = 7 by decide +kernel) 3 (by decide) mw_1030 rfl dX7_join_244 ?_
        refine lv_iload_n hx hb dX7_join_247 rfl (lv_at hl 2 rfl) ?_
        refine lv_bipush (v := 6) hx hb dX7_join_248 (by decide) ?_
        refine lv_iadd hx hb dX7_join_250 ?_
        refine lv_topi (fun z222 ez222 => ?_)
        obtain rfl : z222 = (nI (48 + 326 * (nn a1))) := ez222.trans (by rw [show (nI (42 + 326 * (nn a1))) = nI (42 + 326 * (nn a1)) from rfl, show 6 = nI 6 from rfl, nI_add] <;> exact congrArg nI (by omega))
        refine lv_dup2_11 hx hb dX7_join_251 rfl rfl ?_
        refine aldf (n := 695) (j := (48 + 326 * (nn a1))) (v := (nI (L (nn a1)))) B hP (show hk 1078 = 8 by decide +kernel) (show hlen 1078 = 695 by decide +kernel) rfl (by omega) (by decide) (by rw [e221]; exact up_get_ne (Or.inr (by omega)) (by rw [e218]; exact up_get_ne (Or.inr (by omega)) (by rw [e215]; exact up_get_ne (Or.inr (by omega)) (by rw [e212]; exact up_get_ne (Or.inr (by omega)) (by rw [e209]; exact up_get_ne (Or.inr (by omega)) (by rw [e206]; exact up_get_ne (Or.inr (by omega)) (by rw [e203]; exact up_get_ne (Or.inr (by omega)) (by rw [e199]; exact up_get_ne (Or.inr (by omega)) (by rw [e194]; exact up_get_ne (Or.inr (by omega)) (by rw [e189]; exact up_get_ne (Or.inr (by omega)) ((z2 (48 + 326 * (nn a1)) (by omega)).trans (g_l (n0 := nn a1) hIa (by omega) (by omega))))))))))))) dX7_join_252 ?_
        refine lv_iconst (v := 1) hx hb dX7_join_253 (by decide) ?_
        refine lv_iadd hx hb dX7_join_254 ?_
        refine lv_topi (fun z223 ez223 => ?_)
        obtain rfl : z223 = (nI (1 + (L (nn a1)))) := ez223.trans (by rw [show (nI (L (nn a1))) = nI (L (nn a1)) from rfl, show 1 = nI 1 from rfl, nI_add] <;> exact congrArg nI (by omega))
        refine astn (n := 695) (j := (48 + 326 * (nn a1))) B hP hS (show hk 1078 = 8 by decide +kernel) (show hlen 1078 = 695 by decide +kernel) rfl (by omega) (by decide) dX7_join_255 (fun H locs hP hS => ?_)
        obtain ⟨ρ224, e225⟩ : ∃ z, z = up ρ220 1078 (48 + 326 * (nn a1)) (nI (1 + (L (nn a1)))) := ⟨_, rfl⟩
        rw [← e225] at hP
        refine lv_aload_n hx hb dX7_join_256 rfl (lv_at hl 0 rfl) ?_
        refine lv_iload hx hb dX7_join_257 (lv_at hl 3 rfl) ?_
        refine call_i (cVt (k := 1076) (av := [.int (nI (L (nn a1)))]) (rest := []) B hP hS (d_X7_tell l E ρ224 (nI (L (nn a1)))) lk_RX7_68 (hrecv (ci := 7) B hP (hk_lt (c := 7) (show hk 1076 = 7 by decide +kernel) (by decide)) (hcc7 _ _ (show hk 1076 = 7 by decide +kernel)) rfl) rfl rfl hl.1 (Nat.le_of_ble_eq_true rfl) ⟨Nat.le_of_ble_eq_true rfl, Nat.le_of_ble_eq_true rfl⟩ ⟨Nat.le_of_ble_eq_true rfl, Nat.le_of_ble_eq_true rfl⟩ dX7_join_259) hS (fun r226 ρ227 H locs q228 hP hS => ?_)
        exact ret_i B hr hlk hP hS dX7_join_262 ((by rw [q228]; exact PI_76 (PI_row hJa.1 ⟨_, _, Good_join (n0 := nn a1) hJa.2 (by omega) (by omega) (fun j n48 hj => (by rw [e225]; exact up_get_ne (Or.inr (by omega)) (by rw [e221]; exact up_get_ne (Or.inr (by omega)) (by rw [e218]; exact up_get_ne (Or.inr (by omega)) (by rw [e215]; exact up_get_ne (Or.inr (by omega)) (by rw [e212]; exact up_get_ne (Or.inr (by omega)) (by rw [e209]; exact up_get_ne (Or.inr (by omega)) (by rw [e206]; exact up_get_ne (Or.inr (by omega)) (by rw [e203]; exact up_get_ne (Or.inr (by omega)) (by rw [e199]; exact up_get_ne (Or.inr (by omega)) (by rw [e194]; exact up_get_ne (Or.inr (by omega)) (by rw [e189]; exact up_get_ne (Or.inr (by omega)) (z2 j hj))))))))))))) ((show ρ224 1078 _ = (nI (1 + (L (nn a1)))) from (by rw [e225]; exact up_get_at)).trans (congrArg nI (by omega))) (by rw [show ρ224 1078 _ = (ρ188 1078 (44 + 326 * (nn a1))) from (by rw [e225]; exact up_get_ne (Or.inr (by omega)) (by rw [e221]; exact up_get_ne (Or.inr (by omega)) (by rw [e218]; exact up_get_ne (Or.inr (by omega)) (by rw [e215]; exact up_get_ne (Or.inr (by omega)) (by rw [e212]; exact up_get_ne (Or.inr (by omega)) (by rw [e209]; exact up_get_ne (Or.inr (by omega)) (by rw [e206]; exact up_get_ne (Or.inr (by omega)) (by rw [e203]; exact up_get_ne (Or.inr (by omega)) (by rw [e199]; exact up_get_ne (Or.inr (by omega)) (by rw [e194]; exact up_get_at))))))))))]; exact (iR_w (a := 1) (b := 8388607) i192 (by decide) (by decide))) (by rw [show ρ224 1078 _ = (ρ193 1078 (45 + 326 * (nn a1))) from (by rw [e225]; exact up_get_ne (Or.inr (by omega)) (by rw [e221]; exact up_get_ne (Or.inr (by omega)) (by rw [e218]; exact up_get_ne (Or.inr (by omega)) (by rw [e215]; exact up_get_ne (Or.inr (by omega)) (by rw [e212]; exact up_get_ne (Or.inr (by omega)) (by rw [e209]; exact up_get_ne (Or.inr (by omega)) (by rw [e206]; exact up_get_ne (Or.inr (by omega)) (by rw [e203]; exact up_get_ne (Or.inr (by omega)) (by rw [e199]; exact up_get_at)))))))))]; exact (iR_w (a := 0) (b := 8388607) i197 (by decide) (by decide))) (by rw [e225]; exact up_get_ne (Or.inr (by omega)) (by rw [e221]; exact up_get_ne (Or.inr (by omega)) (by rw [e218]; exact up_get_ne (Or.inr (by omega)) (by rw [e215]; exact up_get_ne (Or.inr (by omega)) (by rw [e212]; exact up_get_ne (Or.inr (by omega)) (by rw [e209]; exact up_get_ne (Or.inr (by omega)) (by rw [e206]; exact up_get_ne (Or.inr (by omega)) (by rw [e203]; exact up_get_ne (Or.inr (by omega)) (by rw [e199]; exact up_get_ne (Or.inr (by omega)) (by rw [e194]; exact up_get_ne (Or.inr (by omega)) (by rw [e189]; exact up_get_ne (Or.inr (by omega)) (z3 _ (by omega) (by omega))))))))))))) (by rw [e225]; exact up_get_ne (Or.inr (by omega)) (by rw [e221]; exact up_get_ne (Or.inr (by omega)) (by rw [e218]; exact up_get_ne (Or.inr (by omega)) (by rw [e215]; exact up_get_ne (Or.inr (by omega)) (by rw [e212]; exact up_get_ne (Or.inr (by omega)) (by rw [e209]; exact up_get_ne (Or.inr (by omega)) (by rw [e206]; exact up_get_ne (Or.inr (by omega)) (by rw [e203]; exact up_get_ne (Or.inr (by omega)) (by rw [e199]; exact up_get_ne (Or.inr (by omega)) (by rw [e194]; exact up_get_ne (Or.inr (by omega)) (by rw [e189]; exact up_get_ne (Or.inr (by omega)) (z3 _ (by omega) (by omega))))))))))))) (by rw [e225]; exact up_get_ne (Or.inr (by omega)) (by rw [e221]; exact up_get_ne (Or.inr (by omega)) (by rw [e218]; exact up_get_ne (Or.inr (by omega)) (by rw [e215]; exact up_get_ne (Or.inr (by omega)) (by rw [e212]; exact up_get_ne (Or.inr (by omega)) (by rw [e209]; exact up_get_ne (Or.inr (by omega)) (by rw [e206]; exact up_get_ne (Or.inr (by omega)) (by rw [e203]; exact up_get_ne (Or.inr (by omega)) (by rw [e199]; exact up_get_ne (Or.inr (by omega)) (by rw [e194]; exact up_get_ne (Or.inr (by omega)) (by rw [e189]; exact up_get_ne (Or.inr (by omega)) (z3 _ (by omega) (by omega)))))))))))))⟩ (fun c hc => by rw [e225, up_ne _ _ _ hc, e221, up_ne _ _ _ hc, e218, up_ne _ _ _ hc, e215, up_ne _ _ _ hc, e212, up_ne _ _ _ hc, e209, up_ne _ _ _ hc, e206, up_ne _ _ _ hc, e203, up_ne _ _ _ hc, e199, up_ne _ _ _ hc, e194, up_ne _ _ _ hc, e189, up_ne _ _ _ hc]; exact z1 c hc)) (by decide)))
      · skip
        have n229 := (nx_lt (a := j89_6) (b := 66) (by omega) (by omega)).mp (show (nI j89_6 < nI 66) from (Int32.not_le.mp c185))
        refine lv_aload_n hx hb dX7_join_96 rfl (lv_at hl 0 rfl) ?_
        refine get7 B hP (show hk 1076 = 7 by decide +kernel) 3 (by decide) mw_1030 rfl dX7_join_97 ?_
        refine lv_iload hx hb dX7_join_100 (lv_at hl 4 rfl) ?_
        refine lv_iload hx hb dX7_join_102 (lv_at hl 5 rfl) ?_
        refine lv_iadd hx hb dX7_join_104 ?_
        refine lv_topi (fun z230 ez230 => ?_)
        obtain rfl : z230 = (nI (104 + 326 * (nn a1) + 66 * (L (nn a1)) + j89_6)) := ez230.trans (by rw [show (nI (104 + 326 * (nn a1) + 66 * (L (nn a1)))) = nI (104 + 326 * (nn a1) + 66 * (L (nn a1))) from rfl, show (nI j89_6) = nI j89_6 from rfl, nI_add] <;> exact congrArg nI (by omega))
        refine lv_iconst (v := 0) hx hb dX7_join_105 (by decide) ?_
        refine astn (n := 695) (j := (104 + 326 * (nn a1) + 66 * (L (nn a1)) + j89_6)) B hP hS (show hk 1078 = 8 by decide +kernel) (show hlen 1078 = 695 by decide +kernel) rfl (by omega) (by decide) dX7_join_106 (fun H locs hP hS => ?_)
        obtain ⟨ρ231, e232⟩ : ∃ z, z = up ρ 1078 (104 + 326 * (nn a1) + 66 * (L (nn a1)) + j89_6) 0 := ⟨_, rfl⟩
        rw [← e232] at hP
        refine lv_iinc (v := (nI (1 + j89_6))) (lv' := [(6, .int (nI (1 + j89_6))), (0, .ref (E.2.1 + 1076)), (2, .int a2), (3, .int (nI (42 + 326 * (nn a1)))), (4, .int (nI (L (nn a1)))), (5, .int (nI (104 + 326 * (nn a1) + 66 * (L (nn a1)))))]) hx hb dX7_join_107 hl (k := 5) rfl (show nI j89_6 + nI 1 = _ from (nI_add _ _).trans (congrArg nI (by omega))) (by decide) rfl (fun ls hl => ?_)
        refine lv_goto (tgt := 89) hx hb dX7_join_110 (by decide) ?_
        exact ih89 ls ρ231 _ _ (1 + j89_6) (lv_sub hl [1, 2, 3, 4, 5, 0] rfl) hP hS (by rw [e232]; exact FZ_s hI (by omega) (by omega)) (by omega) (by omega) (by omega) (iR_w f_M__nn_a1__ (by decide) (by decide)) (iR_w fa1 (by decide) (by decide)) (iR_w fa2 (by decide) (by decide)) (by omega) (by omega) (by omega) (by omega) (by omega) (by omega)
  have b21_0 : ∀ (ls : Array Slot) (ρ : Nat → Nat → Int32) (H : Heap) (locs : List Loc) , lv_has ls 7 [(0, .ref (E.2.1 + 1076))] → WP E ρ H → va_S (hA E) s.heap H locs → PJ r M L ρ → W p l e (rmk 4 160) s m ([.ref (E.2.1 + 1076), .int a1, .int a2] : List Value).toArray below meth c H locs 0 0 (MQ below (cI E (fun v ρ1 => PI r ρ1)) ([.ref (E.2.1 + 1076), .int a1, .int a2] : List Value).toArray s 0 0 (hA E)) (F0 m 21 ls []) := by
    intro ls ρ H locs  hl hP hS hI
    have hQ := hI.1
    have hI := PJ_I hI
    refine lv_aload_n hx hb dX7_join_21 rfl (lv_at hl 0 rfl) ?_
    refine lv_bipush (v := (-2)) hx hb dX7_join_22 (by decide) ?_
    refine call_i (cVt (k := 1076) (av := [.int (-2)]) (rest := []) B hP hS (d_X7_refuse2 l E ρ) lk_RX7_64 (hrecv (ci := 7) B hP (hk_lt (c := 7) (show hk 1076 = 7 by decide +kernel) (by decide)) (hcc7 _ _ (show hk 1076 = 7 by decide +kernel)) rfl) rfl rfl hl.1 (Nat.le_of_ble_eq_true rfl) ⟨Nat.le_of_ble_eq_true rfl, Nat.le_of_ble_eq_true rfl⟩ ⟨Nat.le_of_ble_eq_true rfl, Nat.le_of_ble_eq_true rfl⟩ dX7_join_24) hS (fun r233 ρ234 H locs q235 hP hS => ?_)
    have hJ2 := (show PJ r M L ρ234 from by rw [q235]; exact PJ_ref (PJ_RI hQ hI))
    have hQ := hJ2.1
    have hI := PJ_I hJ2
    exact ret_i B hr hlk hP hS dX7_join_27 ((PJ_RI hQ hI).1)
  refine lv_aload_n hx hb dX7_join_0 rfl (lv_at hl 0 rfl) ?_
  refine lv_iconst (v := 0) hx hb dX7_join_1 (by decide) ?_
  refine put7 B hP hS (show hk 1076 = 7 by decide +kernel) 0 (by decide) mw_1027 rfl rfl rfl (fs7_0 E 1076 _ _) dX7_join_2 (fun H locs hP hS => ?_)
  obtain ⟨ρ236, e237⟩ : ∃ z, z = up ρ 1076 0 0 := ⟨_, rfl⟩
  rw [← e237] at hP
  have hI : RI ρ 99998 M L X0 ρ236 := by rw [e237]; exact RI_76 hI (by decide)
  refine lv_aload_n hx hb dX7_join_5 rfl (lv_at hl 0 rfl) ?_
  refine lv_iload_n hx hb dX7_join_6 rfl (lv_at hl 1 rfl) ?_
  refine call_i (cVt (k := 1076) (av := [.int a1]) (rest := []) B hP hS (d_X7_isNet l E ρ236 ρ 99998 (by decide) M L X0 a1 hI) lk_RX7_78 (hrecv (ci := 7) B hP (hk_lt (c := 7) (show hk 1076 = 7 by decide +kernel) (by decide)) (hcc7 _ _ (show hk 1076 = 7 by decide +kernel)) rfl) rfl rfl hl.1 (Nat.le_of_ble_eq_true rfl) ⟨Nat.le_of_ble_eq_true rfl, Nat.le_of_ble_eq_true rfl⟩ ⟨Nat.le_of_ble_eq_true rfl, Nat.le_of_ble_eq_true rfl⟩ dX7_join_7) hS (fun r238 ρ239 H locs q240 hP hS => ?_)
  obtain ⟨rfl, hI, q240⟩ := q240
  rcases q240 with rfl | ⟨rfl, j241, hj241, ej241, i242⟩
  · skip
    refine lv_if_eq (tgt := 21) hx hb dX7_join_10 (by decide) (fun _ => ?_) (fun c243 => absurd rfl c243)
    exact b21_0 ls ρ236 _ _  (lv_sub hl [0] rfl) hP hS (PJ_RI hQ hI) 
  · skip
    have n244 : nn a1 = j241 := nn_u ej241 (by omega)
    have i245 : iR (M (nn a1)) 0 5 := by rw [n244]; exact i242
    refine lv_if_eq (tgt := 21) hx hb dX7_join_10 (by decide) (fun c246 => absurd c246 (iR_ne (show iR 1 (1) (1) from ⟨by decide, by decide⟩) (show iR 0 (0) (0) from ⟨by decide, by decide⟩) (by decide))) (fun _ => ?_)
    refine lv_aload_n hx hb dX7_join_13 rfl (lv_at hl 0 rfl) ?_
    refine lv_iload_n hx hb dX7_join_14 rfl (lv_at hl 2 rfl) ?_
    refine call_i (cVt (k := 1076) (av := [.int a2]) (rest := []) B hP hS (d_X7_isRadio l E ρ236 ρ 99998 (by decide) M L X0 a2 hI) lk_RX7_124 (hrecv (ci := 7) B hP (hk_lt (c := 7) (show hk 1076 = 7 by decide +kernel) (by decide)) (hcc7 _ _ (show hk 1076 = 7 by decide +kernel)) rfl) rfl rfl hl.1 (Nat.le_of_ble_eq_true rfl) ⟨Nat.le_of_ble_eq_true rfl, Nat.le_of_ble_eq_true rfl⟩ ⟨Nat.le_of_ble_eq_true rfl, Nat.le_of_ble_eq_true rfl⟩ dX7_join_15) hS (fun r247 ρ248 H locs q249 hP hS => ?_)
    obtain ⟨rfl, hI, q249⟩ := q249
    rcases q249 with rfl | ⟨rfl, i250⟩
    · skip
      refine lv_if_ne (tgt := 28) hx hb dX7_join_18 (by decide) (fun c251 => absurd rfl c251) (fun _ => ?_)
      exact b21_0 ls ρ236 _ _  (lv_sub hl [0] rfl) hP hS (PJ_RI hQ hI) 
    · skip
      refine lv_if_ne (tgt := 28) hx hb dX7_join_18 (by decide) (fun _ => ?_) (fun c252 => absurd c252 (iR_ne (show iR 1 (1) (1) from ⟨by decide, by decide⟩) (show iR 0 (0) (0) from ⟨by decide, by decide⟩) (by decide)))
      refine lv_aload_n hx hb dX7_join_28 rfl (lv_at hl 0 rfl) ?_
      refine lv_iload_n hx hb dX7_join_29 rfl (lv_at hl 1 rfl) ?_
      refine lv_topi (fun z253 ez253 => ?_)
      obtain rfl : z253 = nI (nn a1) := ez253.trans (nn_eq a1)
      refine lv_iload_n hx hb dX7_join_30 rfl (lv_at hl 2 rfl) ?_
      have := nn_r (x := a2) (a := 0) (b := 5) i250 (by decide)
      refine lv_topi (fun z254 ez254 => ?_)
      obtain rfl : z254 = nI (nn a2) := ez254.trans (nn_eq a2)
      refine call_i (cVt (k := 1076) (av := [.int (nI (nn a1)), .int (nI (nn a2))]) (rest := []) B hP hS (d_X7_isIn l E ρ236 ρ 99998 (by decide) M L X0 (nn a1) (by omega) (by omega) (nI (nn a2)) hI) lk_RX7_86 (hrecv (ci := 7) B hP (hk_lt (c := 7) (show hk 1076 = 7 by decide +kernel) (by decide)) (hcc7 _ _ (show hk 1076 = 7 by decide +kernel)) rfl) rfl rfl hl.1 (Nat.le_of_ble_eq_true rfl) ⟨Nat.le_of_ble_eq_true rfl, Nat.le_of_ble_eq_true rfl⟩ ⟨Nat.le_of_ble_eq_true rfl, Nat.le_of_ble_eq_true rfl⟩ dX7_join_31) hS (fun r255 ρ256 H locs q257 hP hS => ?_)
      obtain ⟨rfl, hI, q257⟩ := q257
      obtain ⟨j258, lj258, uj258, ej258⟩ := iR_nat (a := 0) (b := 1) q257
      refine lv_topi (fun z259 ez259 => ?_)
      obtain rfl : z259 = nI j258 := ez259.trans ej258
      refine lv_if_eq (tgt := 44) hx hb dX7_join_34 (by decide) (fun c260 => ?_) (fun c260 => ?_)
      · skip
        have n261 := (nI_eq (a := j258) (b := 0) (by omega) (by omega)).mp (show (nI j258 = nI 0) from c260)
        refine lv_iload_n hx hb dX7_join_44 rfl (lv_at hl 1 rfl) ?_
        refine lv_topi (fun z262 ez262 => ?_)
        obtain rfl : z262 = nI (nn a1) := ez262.trans (nn_eq a1)
        refine call_i (cS (av := [.int (nI (nn a1))]) (rest := []) B hP hS (d_X7_netAt l E ρ236 ρ 99998 (by decide) M L X0 (nn a1) (by omega) (by omega) hI) lk_RX7_75 rfl rfl hl.1 (Nat.le_of_ble_eq_true rfl) ⟨Nat.le_of_ble_eq_true rfl, Nat.le_of_ble_eq_true rfl⟩ ⟨Nat.le_of_ble_eq_true rfl, Nat.le_of_ble_eq_true rfl⟩ dX7_join_45) hS (fun r263 ρ264 H locs q265 hP hS => ?_)
        obtain ⟨rfl, hI, q265⟩ := q265
        obtain rfl : r263 = nI (42 + 326 * (nn a1)) := q265.trans (congrArg nI (by omega))
        refine lv_istore_n (lv' := [(3, .int (nI (42 + 326 * (nn a1)))), (0, .ref (E.2.1 + 1076)), (1, .int a1), (2, .int a2)]) hx hb dX7_join_48 rfl hl (by decide) rfl (fun ls hl => ?_)
        refine lv_aload_n hx hb dX7_join_49 rfl (lv_at hl 1 rfl) ?_
        refine get7 B hP (show hk 1076 = 7 by decide +kernel) 3 (by decide) mw_1030 rfl dX7_join_50 ?_
        refine lv_iload_n hx hb dX7_join_53 rfl (lv_at hl 0 rfl) ?_
        refine lv_bipush (v := 6) hx hb dX7_join_54 (by decide) ?_
        refine lv_iadd hx hb dX7_join_56 ?_
        refine lv_topi (fun z266 ez266 => ?_)
        obtain rfl : z266 = (nI (48 + 326 * (nn a1))) := ez266.trans (by rw [show (nI (42 + 326 * (nn a1))) = nI (42 + 326 * (nn a1)) from rfl, show 6 = nI 6 from rfl, nI_add] <;> exact congrArg nI (by omega))
        have := RI_Lb (n := (nn a1)) hI (by omega)
        refine aldf (n := 695) (j := (48 + 326 * (nn a1))) (v := (nI (L (nn a1)))) B hP (show hk 1078 = 8 by decide +kernel) (show hlen 1078 = 695 by decide +kernel) rfl (by omega) (by decide) (g_l (n0 := (nn a1)) hI (by omega) (by omega)) dX7_join_57 ?_
        refine lv_istore (lv' := [(4, .int (nI (L (nn a1)))), (3, .int (nI (42 + 326 * (nn a1)))), (0, .ref (E.2.1 + 1076)), (1, .int a1), (2, .int a2)]) hx hb dX7_join_58 hl (by decide) rfl (fun ls hl => ?_)
        refine lv_iload hx hb dX7_join_60 (lv_at hl 0 rfl) ?_
        refine lv_iconst (v := 4) hx hb dX7_join_62 (by decide) ?_
        refine lv_icmp_ne (tgt := 73) hx hb dX7_join_63 (by decide) (fun c267 => ?_) (fun c267 => ?_)
        · skip
          have n268 := mt (nI_eq (a := (L (nn a1))) (b := 4) (by omega) (by omega)).mpr (show ¬ (nI (L (nn a1)) = nI 4) from c267)
          refine lv_aload_n hx hb dX7_join_73 rfl (lv_at hl 2 rfl) ?_
          refine lv_iconst (v := 2) hx hb dX7_join_74 (by decide) ?_
          refine call_v (cVt (k := 1076) (av := [.int 2]) (rest := []) B hP hS (d_X7_remember l E ρ236 r M L (PJ_RI hQ hI) ρ236 rfl 2) lk_RX7_118 (hrecv (ci := 7) B hP (hk_lt (c := 7) (show hk 1076 = 7 by decide +kernel) (by decide)) (hcc7 _ _ (show hk 1076 = 7 by decide +kernel)) rfl) rfl rfl hl.1 (Nat.le_of_ble_eq_true rfl) ⟨Nat.le_of_ble_eq_true rfl, Nat.le_of_ble_eq_true rfl⟩ ⟨Nat.le_of_ble_eq_true rfl, Nat.le_of_ble_eq_true rfl⟩ dX7_join_75) hS (fun ρ270 H locs q271 hP hS => ?_)
          obtain ⟨hJ2, hrow272⟩ := q271
          have hJ2 := hJ2
          have hQ := hJ2.1
          have hI := PJ_I hJ2
          refine lv_iload_n hx hb dX7_join_78 rfl (lv_at hl 3 rfl) ?_
          refine lv_topi (fun z273 ez273 => ?_)
          obtain rfl : z273 = nI (nn a1) := ez273.trans (nn_eq a1)
          refine lv_iload hx hb dX7_join_79 (lv_at hl 0 rfl) ?_
          refine call_i (cS (av := [.int (nI (nn a1)), .int (nI (L (nn a1)))]) (rest := []) B hP hS (d_X7_linkAt l E ρ270 ρ270 99998 (by decide) M L X0 (nn a1) (by omega) (by omega) (L (nn a1)) (by omega) (by omega) hI) lk_RX7_82 rfl rfl hl.1 (Nat.le_of_ble_eq_true rfl) ⟨Nat.le_of_ble_eq_true rfl, Nat.le_of_ble_eq_true rfl⟩ ⟨Nat.le_of_ble_eq_true rfl, Nat.le_of_ble_eq_true rfl⟩ dX7_join_81) hS (fun r274 ρ275 H locs q276 hP hS => ?_)
          obtain ⟨rfl, hI, q276⟩ := q276
          obtain rfl : r274 = nI (104 + 326 * (nn a1) + 66 * (L (nn a1))) := q276.trans (congrArg nI (by omega))
          refine lv_istore (lv' := [(5, .int (nI (104 + 326 * (nn a1) + 66 * (L (nn a1))))), (4, .int (nI (L (nn a1)))), (3, .int (nI (42 + 326 * (nn a1)))), (0, .ref (E.2.1 + 1076)), (1, .int a1), (2, .int a2)]) hx hb dX7_join_84 hl (by decide) rfl (fun ls hl => ?_)
          refine lv_iconst (v := 0) hx hb dX7_join_86 (by decide) ?_
          refine lv_istore (lv' := [(6, .int 0), (5, .int (nI (104 + 326 * (nn a1) + 66 * (L (nn a1))))), (4, .int (nI (L (nn a1)))), (3, .int (nI (42 + 326 * (nn a1)))), (0, .ref (E.2.1 + 1076)), (1, .int a1), (2, .int a2)]) hx hb dX7_join_87 hl (by decide) rfl (fun ls hl => ?_)
          exact b89_0 ls ρ270 _ _ _ 0 (lv_sub hl [4, 6, 3, 2, 1, 0] rfl) hP hS (FZ_0 (PJ_RI hQ hI)) (Nat.lt_succ_self _) (by omega) (by omega) (iR_w i245 (by decide) (by decide)) (iR_w (show iR a1 0 1 from by rw [ej241]; exact nI_iR (by omega) (by omega) (by omega)) (by decide) (by decide)) (iR_w i250 (by decide) (by decide)) (by omega) (by omega) (by omega) (by omega) (by omega) (by omega)
        · skip
          have n277 := (nI_eq (a := (L (nn a1))) (b := 4) (by omega) (by omega)).mp (show (nI (L (nn a1)) = nI 4) from c267)
          refine lv_aload_n hx hb dX7_join_66 rfl (lv_at hl 2 rfl) ?_
          refine lv_bipush (v := (-5)) hx hb dX7_join_67 (by decide) ?_
          refine call_i (cVt (k := 1076) (av := [.int (-5)]) (rest := []) B hP hS (d_X7_refuse5 l E ρ236) lk_RX7_64 (hrecv (ci := 7) B hP (hk_lt (c := 7) (show hk 1076 = 7 by decide +kernel) (by decide)) (hcc7 _ _ (show hk 1076 = 7 by decide +kernel)) rfl) rfl rfl hl.1 (Nat.le_of_ble_eq_true rfl) ⟨Nat.le_of_ble_eq_true rfl, Nat.le_of_ble_eq_true rfl⟩ ⟨Nat.le_of_ble_eq_true rfl, Nat.le_of_ble_eq_true rfl⟩ dX7_join_69) hS (fun r278 ρ279 H locs q280 hP hS => ?_)
          have hJ2 := (show PJ r M L ρ279 from by rw [q280]; exact PJ_ref (PJ_RI hQ hI))
          have hQ := hJ2.1
          have hI := PJ_I hJ2
          exact ret_i B hr hlk hP hS dX7_join_72 ((PJ_RI hQ hI).1)
      · skip
        have n281 := mt (nI_eq (a := j258) (b := 0) (by omega) (by omega)).mpr (show ¬ (nI j258 = nI 0) from c260)
        refine lv_aload_n hx hb dX7_join_37 rfl (lv_at hl 0 rfl) ?_
        refine lv_bipush (v := (-4)) hx hb dX7_join_38 (by decide) ?_
        refine call_i (cVt (k := 1076) (av := [.int (-4)]) (rest := []) B hP hS (d_X7_refuse4 l E ρ236) lk_RX7_64 (hrecv (ci := 7) B hP (hk_lt (c := 7) (show hk 1076 = 7 by decide +kernel) (by decide)) (hcc7 _ _ (show hk 1076 = 7 by decide +kernel)) rfl) rfl rfl hl.1 (Nat.le_of_ble_eq_true rfl) ⟨Nat.le_of_ble_eq_true rfl, Nat.le_of_ble_eq_true rfl⟩ ⟨Nat.le_of_ble_eq_true rfl, Nat.le_of_ble_eq_true rfl⟩ dX7_join_40) hS (fun r282 ρ283 H locs q284 hP hS => ?_)
        have hJ2 := (show PJ r M L ρ283 from by rw [q284]; exact PJ_ref (PJ_RI hQ hI))
        have hQ := hJ2.1
        have hI := PJ_I hJ2
        exact ret_i B hr hlk hP hS dX7_join_43 ((PJ_RI hQ hI).1)

set_option maxHeartbeats 4000000 in
set_option maxRecDepth 100000 in
theorem d_X7_leave (l : Launch) (E : hE) (ρ r : Nat → Nat → Int32) (M : Nat → Int32) (L : Nat → Nat) (hJ : PJ r M L ρ) (a1 : Int32) (a2 : Int32) : Met l yX7_leave (.code yX7_leave cX7_leave 5 (some .int) :: gw_all) (rmk 4 160) (cPre E ρ [.ref (E.2.1 + 1076), .int a1, .int a2]) (cI E (fun v ρ1 => PI r ρ1)) 0 0 (hA E) := by
  refine ent (own := RX7) (by decide) rfl (Nat.le_of_ble_eq_true rfl) ?_
  intro p e s m below meth c ls B hr hlk hl hP hS
  have hx := B.1.1
  have hb := B.1.2.1
  have hown := B.1.2.2.2.1
  have hts := B.1.2.2.2.2
  have hl : lv_has ls 5 [(0, .ref (E.2.1 + 1076)), (1, .int a1), (2, .int a2)] := hl
  have hQ := hJ.1
  have hI := PJ_I hJ
  have b51_0 : ∀ (ls : Array Slot) (ρ : Nat → Nat → Int32) (H : Heap) (locs : List Loc) (d51 : Nat) (j51_4 : Nat), lv_has ls 5 [(0, .ref (E.2.1 + 1076)), (1, .int a1), (2, .int a2), (3, .int (nI (42 + 326 * (nn a1)))), (4, .int (nI j51_4))] → WP E ρ H → va_S (hA E) s.heap H locs → LV r M L (nn a1) (nn a2) j51_4 ρ → 629 - j51_4 < d51 → 104 ≤ j51_4 → j51_4 ≤ 628 → iR (M (nn a1)) (0) (5) → iR a1 (0) (1) → iR a2 (0) (3) → 0 ≤ ((L (nn a1)) - 1) → ((L (nn a1)) - 1) ≤ 3 → 1 ≤ (L (nn a1)) → (L (nn a1)) ≤ 4 → 0 ≤ (nn a1) → (nn a1) ≤ 1 → 0 ≤ (nn a2) → (nn a2) ≤ 3 → (nn a2) + 1 ≤ L (nn a1) → iR a2 (-1) ((L (nn a1) : Int) - 1) → W p l e (rmk 4 160) s m ([.ref (E.2.1 + 1076), .int a1, .int a2] : List Value).toArray below meth c H locs 0 0 (MQ below (cI E (fun v ρ1 => PI r ρ1)) ([.ref (E.2.1 + 1076), .int a1, .int a2] : List Value).toArray s 0 0 (hA E)) (F0 m 51 ls []) := by
    intro ls ρ H locs d51
    induction d51 generalizing ls ρ H locs with
    | zero => intro j51_4 hl hP hS hI hd51 lj51_4 uj51_4 f_M__nn_a1__ fa1 fa2 tl__L__nn_a1_____1_ tu__L__nn_a1_____1_ tl_L__nn_a1__ tu_L__nn_a1__ tl_nn_a1_ tu_nn_a1_ tl_nn_a2_ tu_nn_a2_ hr51_0 hr51_1; exact absurd hd51 (Nat.not_lt_zero _)
    | succ d51 ih51 =>
      intro j51_4 hl hP hS hI hd51 lj51_4 uj51_4 f_M__nn_a1__ fa1 fa2 tl__L__nn_a1_____1_ tu__L__nn_a1_____1_ tl_L__nn_a1__ tu_L__nn_a1__ tl_nn_a1_ tu_nn_a1_ tl_nn_a2_ tu_nn_a2_ hr51_0 hr51_1
      refine lv_iload hx hb dX7_leave_51 (lv_at hl 4 rfl) ?_
      refine lv_iload_n hx hb dX7_leave_53 rfl (lv_at hl 1 rfl) ?_
      have := nn_r (x := a1) (a := 0) (b := 1) fa1 (by decide)
      refine lv_topi (fun z262 ez262 => ?_)
      obtain rfl : z262 = nI (nn a1) := ez262.trans (nn_eq a1)
      refine lv_aload_n hx hb dX7_leave_54 rfl (lv_at hl 0 rfl) ?_
      refine get7 B hP (show hk 1076 = 7 by decide +kernel) 3 (by decide) mw_1030 rfl dX7_leave_55 ?_
      refine lv_iload_n hx hb dX7_leave_58 rfl (lv_at hl 3 rfl) ?_
      refine lv_bipush (v := 6) hx hb dX7_leave_59 (by decide) ?_
      refine lv_iadd hx hb dX7_leave_61 ?_
      refine lv_topi (fun z263 ez263 => ?_)
      obtain rfl : z263 = (nI (48 + 326 * (nn a1))) := ez263.trans (by rw [show (nI (42 + 326 * (nn a1))) = nI (42 + 326 * (nn a1)) from rfl, show 6 = nI 6 from rfl, nI_add] <;> exact congrArg nI (by omega))
      refine aldf (n := 695) (j := (48 + 326 * (nn a1))) (v := (nI ((L (nn a1)) - 1))) B hP (show hk 1078 = 8 by decide +kernel) (show hlen 1078 = 695 by decide +kernel) rfl (by omega) (by decide) (LV_48 hI (by omega)) dX7_leave_62 ?_
      refine call_i (cS (av := [.int (nI (nn a1)), .int (nI ((L (nn a1)) - 1))]) (rest := [.int (nI j51_4)]) B hP hS (d_X7_linkAtF l E ρ (nn a1) (by omega) (by omega) ((L (nn a1)) - 1) (by omega) (by omega)) lk_RX7_82 rfl rfl hl.1 (Nat.le_of_ble_eq_true rfl) ⟨Nat.le_of_ble_eq_true rfl, Nat.le_of_ble_eq_true rfl⟩ ⟨Nat.le_of_ble_eq_true rfl, Nat.le_of_ble_eq_true rfl⟩ dX7_leave_63) hS (fun r264 ρ265 H locs q266 hP hS => ?_)
      obtain ⟨rfl, q266⟩ := q266
      obtain rfl : r264 = nI (104 + 326 * (nn a1) + 66 * ((L (nn a1)) - 1)) := q266.trans (congrArg nI (by omega))
      refine lv_icmp_ge (tgt := 92) hx hb dX7_leave_66 (by decide) (fun c267 => ?_) (fun c267 => ?_)
      · skip
        have n268 := mt (nx_lt (a := j51_4) (b := (104 + 326 * (nn a1) + 66 * ((L (nn a1)) - 1))) (by omega) (by omega)).mpr (show ¬ (nI j51_4 < nI (104 + 326 * (nn a1) + 66 * ((L (nn a1)) - 1))) from (Int32.not_lt.mpr c267))
        obtain ⟨ra, hJa, z1, z48, zs, zo, zl, zu⟩ := hI
        have hIa := PJ_I hJa
        refine lv_aload_n hx hb dX7_leave_92 rfl (lv_at hl 0 rfl) ?_
        refine get7 B hP (show hk 1076 = 7 by decide +kernel) 3 (by decide) mw_1030 rfl dX7_leave_93 ?_
        refine lv_iload_n hx hb dX7_leave_96 rfl (lv_at hl 3 rfl) ?_
        refine lv_bipush (v := 8) hx hb dX7_leave_97 (by decide) ?_
        refine lv_iadd hx hb dX7_leave_99 ?_
        refine lv_topi (fun z269 ez269 => ?_)
        obtain rfl : z269 = (nI (50 + 326 * (nn a1))) := ez269.trans (by rw [show (nI (42 + 326 * (nn a1))) = nI (42 + 326 * (nn a1)) from rfl, show 8 = nI 8 from rfl, nI_add] <;> exact congrArg nI (by omega))
        refine lv_aload_n hx hb dX7_leave_100 rfl (lv_at hl 0 rfl) ?_
        refine get7 B hP (show hk 1076 = 7 by decide +kernel) 3 (by decide) mw_1030 rfl dX7_leave_101 ?_
        refine lv_iload_n hx hb dX7_leave_104 rfl (lv_at hl 3 rfl) ?_
        refine lv_iconst (v := 5) hx hb dX7_leave_105 (by decide) ?_
        refine lv_iadd hx hb dX7_leave_106 ?_
        refine lv_topi (fun z270 ez270 => ?_)
        obtain rfl : z270 = (nI (47 + 326 * (nn a1))) := ez270.trans (by rw [show (nI (42 + 326 * (nn a1))) = nI (42 + 326 * (nn a1)) from rfl, show 5 = nI 5 from rfl, nI_add] <;> exact congrArg nI (by omega))
        refine aldn (n := 695) (j := (47 + 326 * (nn a1))) B hP (show hk 1078 = 8 by decide +kernel) (show hlen 1078 = 695 by decide +kernel) rfl (by omega) (by decide) dX7_leave_107 ?_
        refine lv_iload_n hx hb dX7_leave_108 rfl (lv_at hl 2 rfl) ?_
        have := nn_r (x := a2) (a := 0) (b := 3) fa2 (by decide)
        refine lv_topi (fun z271 ez271 => ?_)
        obtain rfl : z271 = nI (nn a2) := ez271.trans (nn_eq a2)
        refine lv_icmp_ne (tgt := 117) hx hb dX7_leave_109 (by decide) (fun c272 => ?_) (fun c272 => ?_)
        · skip
          refine lv_aload_n hx hb dX7_leave_117 rfl (lv_at hl 0 rfl) ?_
          refine get7 B hP (show hk 1076 = 7 by decide +kernel) 3 (by decide) mw_1030 rfl dX7_leave_118 ?_
          refine lv_iload_n hx hb dX7_leave_121 rfl (lv_at hl 3 rfl) ?_
          refine lv_bipush (v := 8) hx hb dX7_leave_122 (by decide) ?_
          refine lv_iadd hx hb dX7_leave_124 ?_
          refine lv_topi (fun z273 ez273 => ?_)
          obtain rfl : z273 = (nI (50 + 326 * (nn a1))) := ez273.trans (by rw [show (nI (42 + 326 * (nn a1))) = nI (42 + 326 * (nn a1)) from rfl, show 8 = nI 8 from rfl, nI_add] <;> exact congrArg nI (by omega))
          refine aldn (n := 695) (j := (50 + 326 * (nn a1))) B hP (show hk 1078 = 8 by decide +kernel) (show hlen 1078 = 695 by decide +kernel) rfl (by omega) (by decide) dX7_leave_125 ?_
          refine astn (n := 695) (j := (50 + 326 * (nn a1))) B hP hS (show hk 1078 = 8 by decide +kernel) (show hlen 1078 = 695 by decide +kernel) rfl (by omega) (by decide) dX7_leave_126 (fun H locs hP hS => ?_)
          obtain ⟨ρ274, e275⟩ : ∃ z, z = up ρ 1078 (50 + 326 * (nn a1)) (ρ 1078 (50 + 326 * (nn a1))) := ⟨_, rfl⟩
          rw [← e275] at hP
          refine lv_aload_n hx hb dX7_leave_127 rfl (lv_at hl 0 rfl) ?_
          refine get7 B hP (show hk 1076 = 7 by decide +kernel) 3 (by decide) mw_1030 rfl dX7_leave_128 ?_
          refine lv_iload_n hx hb dX7_leave_131 rfl (lv_at hl 3 rfl) ?_
          refine lv_iconst (v := 5) hx hb dX7_leave_132 (by decide) ?_
          refine lv_iadd hx hb dX7_leave_133 ?_
          refine lv_topi (fun z276 ez276 => ?_)
          obtain rfl : z276 = (nI (47 + 326 * (nn a1))) := ez276.trans (by rw [show (nI (42 + 326 * (nn a1))) = nI (42 + 326 * (nn a1)) from rfl, show 5 = nI 5 from rfl, nI_add] <;> exact congrArg nI (by omega))
          refine lv_dup2_11 hx hb dX7_leave_134 rfl rfl ?_
          refine aldn (n := 695) (j := (47 + 326 * (nn a1))) B hP (show hk 1078 = 8 by decide +kernel) (show hlen 1078 = 695 by decide +kernel) rfl (by omega) (by decide) dX7_leave_135 ?_
          have hp : iR (ρ274 1078 (47 + 326 * (nn a1))) (-1) ((L (nn a1) : Int) - 1) := by rw [show (ρ274 1078 (47 + 326 * (nn a1))) = ra 1078 (47 + 326 * (nn a1)) from (by rw [e275]; exact up_get_ne (Or.inr (by omega)) (zo _ (by omega) (by omega)))]; exact g_polled (n0 := nn a1) hIa (by omega) f_M__nn_a1__ (by omega)
          refine lv_aload_n hx hb dX7_leave_136 rfl (lv_at hl 0 rfl) ?_
          refine get7 B hP (show hk 1076 = 7 by decide +kernel) 3 (by decide) mw_1030 rfl dX7_leave_137 ?_
          refine lv_iload_n hx hb dX7_leave_140 rfl (lv_at hl 3 rfl) ?_
          refine lv_iconst (v := 5) hx hb dX7_leave_141 (by decide) ?_
          refine lv_iadd hx hb dX7_leave_142 ?_
          refine lv_topi (fun z277 ez277 => ?_)
          obtain rfl : z277 = (nI (47 + 326 * (nn a1))) := ez277.trans (by rw [show (nI (42 + 326 * (nn a1))) = nI (42 + 326 * (nn a1)) from rfl, show 5 = nI 5 from rfl, nI_add] <;> exact congrArg nI (by omega))
          refine aldn (n := 695) (j := (47 + 326 * (nn a1))) B hP (show hk 1078 = 8 by decide +kernel) (show hlen 1078 = 695 by decide +kernel) rfl (by omega) (by decide) dX7_leave_143 ?_
          refine lv_iload_n hx hb dX7_leave_144 rfl (lv_at hl 2 rfl) ?_
          refine lv_topi (fun z278 ez278 => ?_)
          obtain rfl : z278 = nI (nn a2) := ez278.trans (nn_eq a2)
          refine lv_icmp_lt (tgt := 152) hx hb dX7_leave_145 (by decide) (fun c279 => ?_) (fun c279 => ?_)
          · skip
            have i280 : iR (ρ274 1078 (47 + 326 * (nn a1))) (-2147483648) (2) := (iR_ltL (iR_any (ρ274 1078 (47 + 326 * (nn a1)))) (nI_iR (j := (nn a2)) (a := 0) (b := 3) (by omega) (by omega) (by omega)) c279 (by decide))
            refine lv_iconst (v := 0) hx hb dX7_leave_152 (by decide) ?_
            refine lv_isub hx hb dX7_leave_153 ?_
            refine astn (n := 695) (j := (47 + 326 * (nn a1))) B hP hS (show hk 1078 = 8 by decide +kernel) (show hlen 1078 = 695 by decide +kernel) rfl (by omega) (by decide) dX7_leave_154 (fun H locs hP hS => ?_)
            obtain ⟨ρ281, e282⟩ : ∃ z, z = up ρ274 1078 (47 + 326 * (nn a1)) ((ρ274 1078 (47 + 326 * (nn a1))) - 0) := ⟨_, rfl⟩
            rw [← e282] at hP
            refine lv_aload_n hx hb dX7_leave_155 rfl (lv_at hl 0 rfl) ?_
            refine lv_aload_n hx hb dX7_leave_156 rfl (lv_at hl 0 rfl) ?_
            refine get7 B hP (show hk 1076 = 7 by decide +kernel) 3 (by decide) mw_1030 rfl dX7_leave_157 ?_
            refine lv_iload_n hx hb dX7_leave_160 rfl (lv_at hl 3 rfl) ?_
            refine lv_bipush (v := 6) hx hb dX7_leave_161 (by decide) ?_
            refine lv_iadd hx hb dX7_leave_163 ?_
            refine lv_topi (fun z283 ez283 => ?_)
            obtain rfl : z283 = (nI (48 + 326 * (nn a1))) := ez283.trans (by rw [show (nI (42 + 326 * (nn a1))) = nI (42 + 326 * (nn a1)) from rfl, show 6 = nI 6 from rfl, nI_add] <;> exact congrArg nI (by omega))
            refine aldf (n := 695) (j := (48 + 326 * (nn a1))) (v := (nI ((L (nn a1)) - 1))) B hP (show hk 1078 = 8 by decide +kernel) (show hlen 1078 = 695 by decide +kernel) rfl (by omega) (by decide) (by rw [e282]; exact up_get_ne (Or.inr (by omega)) (by rw [e275]; exact up_get_ne (Or.inr (by omega)) z48)) dX7_leave_164 ?_
            refine call_i (cVt (k := 1076) (av := [.int (nI ((L (nn a1)) - 1))]) (rest := []) B hP hS (d_X7_tell l E ρ281 (nI ((L (nn a1)) - 1))) lk_RX7_68 (hrecv (ci := 7) B hP (hk_lt (c := 7) (show hk 1076 = 7 by decide +kernel) (by decide)) (hcc7 _ _ (show hk 1076 = 7 by decide +kernel)) rfl) rfl rfl hl.1 (Nat.le_of_ble_eq_true rfl) ⟨Nat.le_of_ble_eq_true rfl, Nat.le_of_ble_eq_true rfl⟩ ⟨Nat.le_of_ble_eq_true rfl, Nat.le_of_ble_eq_true rfl⟩ dX7_leave_165) hS (fun r284 ρ285 H locs q286 hP hS => ?_)
            exact ret_i B hr hlk hP hS dX7_leave_168 ((by rw [q286]; exact PI_76 (PI_row hJa.1 ⟨_, _, Good_leave (n0 := nn a1) (l0 := nn a2) (w := L (nn a1) - 1) hJa.2 (by omega) (by omega) (by omega) (by rw [e282]; exact up_get_ne (Or.inr (by omega)) (by rw [e275]; exact up_get_ne (Or.inr (by omega)) z48)) (by rw [show ρ281 1078 _ = ((ρ274 1078 (47 + 326 * (nn a1))) - 0) from (by rw [e282]; exact up_get_at)]; exact pl0 hp (by omega) (by omega) c279) (fun j h1 h2 => (by rw [e282]; exact up_get_ne (Or.inr (by omega)) (by rw [e275]; exact up_get_ne (Or.inr (by omega)) (zs j h1 (by omega))))) (fun j n48 n47 n50 hj => (by rw [e282]; exact up_get_ne (Or.inr (by omega)) (by rw [e275]; exact up_get_ne (Or.inr (by omega)) (zo j n48 (by omega)))))⟩ (fun c hc => by rw [e282, up_ne _ _ _ hc, e275, up_ne _ _ _ hc]; exact z1 c hc)) (by decide)))
          · skip
            have i287 : iR (ρ274 1078 (47 + 326 * (nn a1))) (0) (2147483647) := (iR_geL (iR_any (ρ274 1078 (47 + 326 * (nn a1)))) (nI_iR (j := (nn a2)) (a := 0) (b := 3) (by omega) (by omega) (by omega)) c279 (by decide))
            refine lv_iconst (v := 1) hx hb dX7_leave_148 (by decide) ?_
            refine lv_goto (tgt := 153) hx hb dX7_leave_149 (by decide) ?_
            refine lv_isub hx hb dX7_leave_153 ?_
            refine astn (n := 695) (j := (47 + 326 * (nn a1))) B hP hS (show hk 1078 = 8 by decide +kernel) (show hlen 1078 = 695 by decide +kernel) rfl (by omega) (by decide) dX7_leave_154 (fun H locs hP hS => ?_)
            obtain ⟨ρ288, e289⟩ : ∃ z, z = up ρ274 1078 (47 + 326 * (nn a1)) ((ρ274 1078 (47 + 326 * (nn a1))) - 1) := ⟨_, rfl⟩
            rw [← e289] at hP
            refine lv_aload_n hx hb dX7_leave_155 rfl (lv_at hl 0 rfl) ?_
            refine lv_aload_n hx hb dX7_leave_156 rfl (lv_at hl 0 rfl) ?_
            refine get7 B hP (show hk 1076 = 7 by decide +kernel) 3 (by decide) mw_1030 rfl dX7_leave_157 ?_
            refine lv_iload_n hx hb dX7_leave_160 rfl (lv_at hl 3 rfl) ?_
            refine lv_bipush (v := 6) hx hb dX7_leave_161 (by decide) ?_
            refine lv_iadd hx hb dX7_leave_163 ?_
            refine lv_topi (fun z290 ez290 => ?_)
            obtain rfl : z290 = (nI (48 + 326 * (nn a1))) := ez290.trans (by rw [show (nI (42 + 326 * (nn a1))) = nI (42 + 326 * (nn a1)) from rfl, show 6 = nI 6 from rfl, nI_add] <;> exact congrArg nI (by omega))
            refine aldf (n := 695) (j := (48 + 326 * (nn a1))) (v := (nI ((L (nn a1)) - 1))) B hP (show hk 1078 = 8 by decide +kernel) (show hlen 1078 = 695 by decide +kernel) rfl (by omega) (by decide) (by rw [e289]; exact up_get_ne (Or.inr (by omega)) (by rw [e275]; exact up_get_ne (Or.inr (by omega)) z48)) dX7_leave_164 ?_
            refine call_i (cVt (k := 1076) (av := [.int (nI ((L (nn a1)) - 1))]) (rest := []) B hP hS (d_X7_tell l E ρ288 (nI ((L (nn a1)) - 1))) lk_RX7_68 (hrecv (ci := 7) B hP (hk_lt (c := 7) (show hk 1076 = 7 by decide +kernel) (by decide)) (hcc7 _ _ (show hk 1076 = 7 by decide +kernel)) rfl) rfl rfl hl.1 (Nat.le_of_ble_eq_true rfl) ⟨Nat.le_of_ble_eq_true rfl, Nat.le_of_ble_eq_true rfl⟩ ⟨Nat.le_of_ble_eq_true rfl, Nat.le_of_ble_eq_true rfl⟩ dX7_leave_165) hS (fun r291 ρ292 H locs q293 hP hS => ?_)
            exact ret_i B hr hlk hP hS dX7_leave_168 ((by rw [q293]; exact PI_76 (PI_row hJa.1 ⟨_, _, Good_leave (n0 := nn a1) (l0 := nn a2) (w := L (nn a1) - 1) hJa.2 (by omega) (by omega) (by omega) (by rw [e289]; exact up_get_ne (Or.inr (by omega)) (by rw [e275]; exact up_get_ne (Or.inr (by omega)) z48)) (by rw [show ρ288 1078 _ = ((ρ274 1078 (47 + 326 * (nn a1))) - 1) from (by rw [e289]; exact up_get_at)]; exact pl1 hp (by omega) (by omega) c279) (fun j h1 h2 => (by rw [e289]; exact up_get_ne (Or.inr (by omega)) (by rw [e275]; exact up_get_ne (Or.inr (by omega)) (zs j h1 (by omega))))) (fun j n48 n47 n50 hj => (by rw [e289]; exact up_get_ne (Or.inr (by omega)) (by rw [e275]; exact up_get_ne (Or.inr (by omega)) (zo j n48 (by omega)))))⟩ (fun c hc => by rw [e289, up_ne _ _ _ hc, e275, up_ne _ _ _ hc]; exact z1 c hc)) (by decide)))
        · skip
          have i294 : iR (ρ 1078 (47 + 326 * (nn a1))) (0) (3) := (by rw [c272]; exact (nI_iR (j := (nn a2)) (a := 0) (b := 3) (by omega) (by omega) (by omega)))
          refine lv_bipush (v := 8) hx hb dX7_leave_112 (by decide) ?_
          refine lv_goto (tgt := 126) hx hb dX7_leave_114 (by decide) ?_
          refine astn (n := 695) (j := (50 + 326 * (nn a1))) B hP hS (show hk 1078 = 8 by decide +kernel) (show hlen 1078 = 695 by decide +kernel) rfl (by omega) (by decide) dX7_leave_126 (fun H locs hP hS => ?_)
          obtain ⟨ρ295, e296⟩ : ∃ z, z = up ρ 1078 (50 + 326 * (nn a1)) 8 := ⟨_, rfl⟩
          rw [← e296] at hP
          refine lv_aload_n hx hb dX7_leave_127 rfl (lv_at hl 0 rfl) ?_
          refine get7 B hP (show hk 1076 = 7 by decide +kernel) 3 (by decide) mw_1030 rfl dX7_leave_128 ?_
          refine lv_iload_n hx hb dX7_leave_131 rfl (lv_at hl 3 rfl) ?_
          refine lv_iconst (v := 5) hx hb dX7_leave_132 (by decide) ?_
          refine lv_iadd hx hb dX7_leave_133 ?_
          refine lv_topi (fun z297 ez297 => ?_)
          obtain rfl : z297 = (nI (47 + 326 * (nn a1))) := ez297.trans (by rw [show (nI (42 + 326 * (nn a1))) = nI (42 + 326 * (nn a1)) from rfl, show 5 = nI 5 from rfl, nI_add] <;> exact congrArg nI (by omega))
          refine lv_dup2_11 hx hb dX7_leave_134 rfl rfl ?_
          refine aldn (n := 695) (j := (47 + 326 * (nn a1))) B hP (show hk 1078 = 8 by decide +kernel) (show hlen 1078 = 695 by decide +kernel) rfl (by omega) (by decide) dX7_leave_135 ?_
          have hp : iR (ρ295 1078 (47 + 326 * (nn a1))) (-1) ((L (nn a1) : Int) - 1) := by rw [show (ρ295 1078 (47 + 326 * (nn a1))) = ra 1078 (47 + 326 * (nn a1)) from (by rw [e296]; exact up_get_ne (Or.inr (by omega)) (zo _ (by omega) (by omega)))]; exact g_polled (n0 := nn a1) hIa (by omega) f_M__nn_a1__ (by omega)
          refine lv_aload_n hx hb dX7_leave_136 rfl (lv_at hl 0 rfl) ?_
          refine get7 B hP (show hk 1076 = 7 by decide +kernel) 3 (by decide) mw_1030 rfl dX7_leave_137 ?_
          refine lv_iload_n hx hb dX7_leave_140 rfl (lv_at hl 3 rfl) ?_
          refine lv_iconst (v := 5) hx hb dX7_leave_141 (by decide) ?_
          refine lv_iadd hx hb dX7_leave_142 ?_
          refine lv_topi (fun z298 ez298 => ?_)
          obtain rfl : z298 = (nI (47 + 326 * (nn a1))) := ez298.trans (by rw [show (nI (42 + 326 * (nn a1))) = nI (42 + 326 * (nn a1)) from rfl, show 5 = nI 5 from rfl, nI_add] <;> exact congrArg nI (by omega))
          refine aldn (n := 695) (j := (47 + 326 * (nn a1))) B hP (show hk 1078 = 8 by decide +kernel) (show hlen 1078 = 695 by decide +kernel) rfl (by omega) (by decide) dX7_leave_143 ?_
          refine lv_iload_n hx hb dX7_leave_144 rfl (lv_at hl 2 rfl) ?_
          refine lv_topi (fun z299 ez299 => ?_)
          obtain rfl : z299 = nI (nn a2) := ez299.trans (nn_eq a2)
          refine lv_icmp_lt (tgt := 152) hx hb dX7_leave_145 (by decide) (fun c300 => ?_) (fun c300 => ?_)
          · skip
            have i301 : iR (ρ295 1078 (47 + 326 * (nn a1))) (-2147483648) (2) := (iR_ltL (iR_any (ρ295 1078 (47 + 326 * (nn a1)))) (nI_iR (j := (nn a2)) (a := 0) (b := 3) (by omega) (by omega) (by omega)) c300 (by decide))
            refine lv_iconst (v := 0) hx hb dX7_leave_152 (by decide) ?_
            refine lv_isub hx hb dX7_leave_153 ?_
            refine astn (n := 695) (j := (47 + 326 * (nn a1))) B hP hS (show hk 1078 = 8 by decide +kernel) (show hlen 1078 = 695 by decide +kernel) rfl (by omega) (by decide) dX7_leave_154 (fun H locs hP hS => ?_)
            obtain ⟨ρ302, e303⟩ : ∃ z, z = up ρ295 1078 (47 + 326 * (nn a1)) ((ρ295 1078 (47 + 326 * (nn a1))) - 0) := ⟨_, rfl⟩
            rw [← e303] at hP
            refine lv_aload_n hx hb dX7_leave_155 rfl (lv_at hl 0 rfl) ?_
            refine lv_aload_n hx hb dX7_leave_156 rfl (lv_at hl 0 rfl) ?_
            refine get7 B hP (show hk 1076 = 7 by decide +kernel) 3 (by decide) mw_1030 rfl dX7_leave_157 ?_
            refine lv_iload_n hx hb dX7_leave_160 rfl (lv_at hl 3 rfl) ?_
            refine lv_bipush (v := 6) hx hb dX7_leave_161 (by decide) ?_
            refine lv_iadd hx hb dX7_leave_163 ?_
            refine lv_topi (fun z304 ez304 => ?_)
            obtain rfl : z304 = (nI (48 + 326 * (nn a1))) := ez304.trans (by rw [show (nI (42 + 326 * (nn a1))) = nI (42 + 326 * (nn a1)) from rfl, show 6 = nI 6 from rfl, nI_add] <;> exact congrArg nI (by omega))
            refine aldf (n := 695) (j := (48 + 326 * (nn a1))) (v := (nI ((L (nn a1)) - 1))) B hP (show hk 1078 = 8 by decide +kernel) (show hlen 1078 = 695 by decide +kernel) rfl (by omega) (by decide) (by rw [e303]; exact up_get_ne (Or.inr (by omega)) (by rw [e296]; exact up_get_ne (Or.inr (by omega)) z48)) dX7_leave_164 ?_
            refine call_i (cVt (k := 1076) (av := [.int (nI ((L (nn a1)) - 1))]) (rest := []) B hP hS (d_X7_tell l E ρ302 (nI ((L (nn a1)) - 1))) lk_RX7_68 (hrecv (ci := 7) B hP (hk_lt (c := 7) (show hk 1076 = 7 by decide +kernel) (by decide)) (hcc7 _ _ (show hk 1076 = 7 by decide +kernel)) rfl) rfl rfl hl.1 (Nat.le_of_ble_eq_true rfl) ⟨Nat.le_of_ble_eq_true rfl, Nat.le_of_ble_eq_true rfl⟩ ⟨Nat.le_of_ble_eq_true rfl, Nat.le_of_ble_eq_true rfl⟩ dX7_leave_165) hS (fun r305 ρ306 H locs q307 hP hS => ?_)
            exact ret_i B hr hlk hP hS dX7_leave_168 ((by rw [q307]; exact PI_76 (PI_row hJa.1 ⟨_, _, Good_leave (n0 := nn a1) (l0 := nn a2) (w := L (nn a1) - 1) hJa.2 (by omega) (by omega) (by omega) (by rw [e303]; exact up_get_ne (Or.inr (by omega)) (by rw [e296]; exact up_get_ne (Or.inr (by omega)) z48)) (by rw [show ρ302 1078 _ = ((ρ295 1078 (47 + 326 * (nn a1))) - 0) from (by rw [e303]; exact up_get_at)]; exact pl0 hp (by omega) (by omega) c300) (fun j h1 h2 => (by rw [e303]; exact up_get_ne (Or.inr (by omega)) (by rw [e296]; exact up_get_ne (Or.inr (by omega)) (zs j h1 (by omega))))) (fun j n48 n47 n50 hj => (by rw [e303]; exact up_get_ne (Or.inr (by omega)) (by rw [e296]; exact up_get_ne (Or.inr (by omega)) (zo j n48 (by omega)))))⟩ (fun c hc => by rw [e303, up_ne _ _ _ hc, e296, up_ne _ _ _ hc]; exact z1 c hc)) (by decide)))
          · skip
            have i308 : iR (ρ295 1078 (47 + 326 * (nn a1))) (0) (2147483647) := (iR_geL (iR_any (ρ295 1078 (47 + 326 * (nn a1)))) (nI_iR (j := (nn a2)) (a := 0) (b := 3) (by omega) (by omega) (by omega)) c300 (by decide))
            refine lv_iconst (v := 1) hx hb dX7_leave_148 (by decide) ?_
            refine lv_goto (tgt := 153) hx hb dX7_leave_149 (by decide) ?_
            refine lv_isub hx hb dX7_leave_153 ?_
            refine astn (n := 695) (j := (47 + 326 * (nn a1))) B hP hS (show hk 1078 = 8 by decide +kernel) (show hlen 1078 = 695 by decide +kernel) rfl (by omega) (by decide) dX7_leave_154 (fun H locs hP hS => ?_)
            obtain ⟨ρ309, e310⟩ : ∃ z, z = up ρ295 1078 (47 + 326 * (nn a1)) ((ρ295 1078 (47 + 326 * (nn a1))) - 1) := ⟨_, rfl⟩
            rw [← e310] at hP
            refine lv_aload_n hx hb dX7_leave_155 rfl (lv_at hl 0 rfl) ?_
            refine lv_aload_n hx hb dX7_leave_156 rfl (lv_at hl 0 rfl) ?_
            refine get7 B hP (show hk 1076 = 7 by decide +kernel) 3 (by decide) mw_1030 rfl dX7_leave_157 ?_
            refine lv_iload_n hx hb dX7_leave_160 rfl (lv_at hl 3 rfl) ?_
            refine lv_bipush (v := 6) hx hb dX7_leave_161 (by decide) ?_
            refine lv_iadd hx hb dX7_leave_163 ?_
            refine lv_topi (fun z311 ez311 => ?_)
            obtain rfl : z311 = (nI (48 + 326 * (nn a1))) := ez311.trans (by rw [show (nI (42 + 326 * (nn a1))) = nI (42 + 326 * (nn a1)) from rfl, show 6 = nI 6 from rfl, nI_add] <;> exact congrArg nI (by omega))
            refine aldf (n := 695) (j := (48 + 326 * (nn a1))) (v := (nI ((L (nn a1)) - 1))) B hP (show hk 1078 = 8 by decide +kernel) (show hlen 1078 = 695 by decide +kernel) rfl (by omega) (by decide) (by rw [e310]; exact up_get_ne (Or.inr (by omega)) (by rw [e296]; exact up_get_ne (Or.inr (by omega)) z48)) dX7_leave_164 ?_
            refine call_i (cVt (k := 1076) (av := [.int (nI ((L (nn a1)) - 1))]) (rest := []) B hP hS (d_X7_tell l E ρ309 (nI ((L (nn a1)) - 1))) lk_RX7_68 (hrecv (ci := 7) B hP (hk_lt (c := 7) (show hk 1076 = 7 by decide +kernel) (by decide)) (hcc7 _ _ (show hk 1076 = 7 by decide +kernel)) rfl) rfl rfl hl.1 (Nat.le_of_ble_eq_true rfl) ⟨Nat.le_of_ble_eq_true rfl, Nat.le_of_ble_eq_true rfl⟩ ⟨Nat.le_of_ble_eq_true rfl, Nat.le_of_ble_eq_true rfl⟩ dX7_leave_165) hS (fun r312 ρ313 H locs q314 hP hS => ?_)
            exact ret_i B hr hlk hP hS dX7_leave_168 ((by rw [q314]; exact PI_76 (PI_row hJa.1 ⟨_, _, Good_leave (n0 := nn a1) (l0 := nn a2) (w := L (nn a1) - 1) hJa.2 (by omega) (by omega) (by omega) (by rw [e310]; exact up_get_ne (Or.inr (by omega)) (by rw [e296]; exact up_get_ne (Or.inr (by omega)) z48)) (by rw [show ρ309 1078 _ = ((ρ295 1078 (47 + 326 * (nn a1))) - 1) from (by rw [e310]; exact up_get_at)]; exact pl1 hp (by omega) (by omega) c300) (fun j h1 h2 => (by rw [e310]; exact up_get_ne (Or.inr (by omega)) (by rw [e296]; exact up_get_ne (Or.inr (by omega)) (zs j h1 (by omega))))) (fun j n48 n47 n50 hj => (by rw [e310]; exact up_get_ne (Or.inr (by omega)) (by rw [e296]; exact up_get_ne (Or.inr (by omega)) (zo j n48 (by omega)))))⟩ (fun c hc => by rw [e310, up_ne _ _ _ hc, e296, up_ne _ _ _ hc]; exact z1 c hc)) (by decide)))
      · skip
        have n315 := (nx_lt (a := j51_4) (b := (104 + 326 * (nn a1) + 66 * ((L (nn a1)) - 1))) (by omega) (by omega)).mp (show (nI j51_4 < nI (104 + 326 * (nn a1) + 66 * ((L (nn a1)) - 1))) from (Int32.not_le.mp c267))
        refine lv_aload_n hx hb dX7_leave_69 rfl (lv_at hl 0 rfl) ?_
        refine get7 B hP (show hk 1076 = 7 by decide +kernel) 3 (by decide) mw_1030 rfl dX7_leave_70 ?_
        refine lv_iload hx hb dX7_leave_73 (lv_at hl 4 rfl) ?_
        refine lv_aload_n hx hb dX7_leave_75 rfl (lv_at hl 0 rfl) ?_
        refine get7 B hP (show hk 1076 = 7 by decide +kernel) 3 (by decide) mw_1030 rfl dX7_leave_76 ?_
        refine lv_iload hx hb dX7_leave_79 (lv_at hl 4 rfl) ?_
        refine lv_bipush (v := 66) hx hb dX7_leave_81 (by decide) ?_
        refine lv_iadd hx hb dX7_leave_83 ?_
        refine lv_topi (fun z316 ez316 => ?_)
        obtain rfl : z316 = (nI (66 + j51_4)) := ez316.trans (by rw [show (nI j51_4) = nI j51_4 from rfl, show 66 = nI 66 from rfl, nI_add] <;> exact congrArg nI (by omega))
        refine aldn (n := 695) (j := (66 + j51_4)) B hP (show hk 1078 = 8 by decide +kernel) (show hlen 1078 = 695 by decide +kernel) rfl (by omega) (by decide) dX7_leave_84 ?_
        refine astn (n := 695) (j := j51_4) B hP hS (show hk 1078 = 8 by decide +kernel) (show hlen 1078 = 695 by decide +kernel) rfl (by omega) (by decide) dX7_leave_85 (fun H locs hP hS => ?_)
        obtain ⟨ρ317, e318⟩ : ∃ z, z = up ρ 1078 j51_4 (ρ 1078 (66 + j51_4)) := ⟨_, rfl⟩
        rw [← e318] at hP
        refine lv_iinc (v := (nI (1 + j51_4))) (lv' := [(4, .int (nI (1 + j51_4))), (0, .ref (E.2.1 + 1076)), (1, .int a1), (2, .int a2), (3, .int (nI (42 + 326 * (nn a1))))]) hx hb dX7_leave_86 hl (k := 4) rfl (show nI j51_4 + nI 1 = _ from (nI_add _ _).trans (congrArg nI (by omega))) (by decide) rfl (fun ls hl => ?_)
        refine lv_goto (tgt := 51) hx hb dX7_leave_89 (by decide) ?_
        exact ih51 ls ρ317 _ _ (1 + j51_4) (lv_sub hl [1, 2, 3, 4, 0] rfl) hP hS (by rw [e318]; exact LV_s hI (by omega) (by omega)) (by omega) (by omega) (by omega) (iR_w f_M__nn_a1__ (by decide) (by decide)) (iR_w fa1 (by decide) (by decide)) (iR_w fa2 (by decide) (by decide)) (by omega) (by omega) (by omega) (by omega) (by omega) (by omega) (by omega) (by omega) (by omega) hr51_1
  refine lv_aload_n hx hb dX7_leave_0 rfl (lv_at hl 0 rfl) ?_
  refine lv_iconst (v := 0) hx hb dX7_leave_1 (by decide) ?_
  refine put7 B hP hS (show hk 1076 = 7 by decide +kernel) 0 (by decide) mw_1027 rfl rfl rfl (fs7_0 E 1076 _ _) dX7_leave_2 (fun H locs hP hS => ?_)
  obtain ⟨ρ319, e320⟩ : ∃ z, z = up ρ 1076 0 0 := ⟨_, rfl⟩
  rw [← e320] at hP
  have hI : RI ρ 99998 M L X0 ρ319 := by rw [e320]; exact RI_76 hI (by decide)
  refine lv_aload_n hx hb dX7_leave_5 rfl (lv_at hl 0 rfl) ?_
  refine lv_iload_n hx hb dX7_leave_6 rfl (lv_at hl 1 rfl) ?_
  refine lv_iload_n hx hb dX7_leave_7 rfl (lv_at hl 2 rfl) ?_
  refine call_i (cVt (k := 1076) (av := [.int a1, .int a2]) (rest := []) B hP hS (d_X7_isLink l E ρ319 ρ 99998 (by decide) M L X0 a1 a2 hI) lk_RX7_106 (hrecv (ci := 7) B hP (hk_lt (c := 7) (show hk 1076 = 7 by decide +kernel) (by decide)) (hcc7 _ _ (show hk 1076 = 7 by decide +kernel)) rfl) rfl rfl hl.1 (Nat.le_of_ble_eq_true rfl) ⟨Nat.le_of_ble_eq_true rfl, Nat.le_of_ble_eq_true rfl⟩ ⟨Nat.le_of_ble_eq_true rfl, Nat.le_of_ble_eq_true rfl⟩ dX7_leave_8) hS (fun r321 ρ322 H locs q323 hP hS => ?_)
  obtain ⟨rfl, hI, q323⟩ := q323
  rcases q323 with rfl | ⟨rfl, j324, hj324, ej324, i325, j326, hj326, ej326⟩
  · skip
    refine lv_if_ne (tgt := 21) hx hb dX7_leave_11 (by decide) (fun c327 => absurd rfl c327) (fun _ => ?_)
    refine lv_aload_n hx hb dX7_leave_14 rfl (lv_at hl 0 rfl) ?_
    refine lv_bipush (v := (-2)) hx hb dX7_leave_15 (by decide) ?_
    refine call_i (cVt (k := 1076) (av := [.int (-2)]) (rest := []) B hP hS (d_X7_refuse2 l E ρ319) lk_RX7_64 (hrecv (ci := 7) B hP (hk_lt (c := 7) (show hk 1076 = 7 by decide +kernel) (by decide)) (hcc7 _ _ (show hk 1076 = 7 by decide +kernel)) rfl) rfl rfl hl.1 (Nat.le_of_ble_eq_true rfl) ⟨Nat.le_of_ble_eq_true rfl, Nat.le_of_ble_eq_true rfl⟩ ⟨Nat.le_of_ble_eq_true rfl, Nat.le_of_ble_eq_true rfl⟩ dX7_leave_17) hS (fun r328 ρ329 H locs q330 hP hS => ?_)
    have hJ2 := (show PJ r M L ρ329 from by rw [q330]; exact PJ_ref (PJ_RI hQ hI))
    have hQ := hJ2.1
    have hI := PJ_I hJ2
    exact ret_i B hr hlk hP hS dX7_leave_20 ((PJ_RI hQ hI).1)
  · skip
    have := RI_Lb hI hj324
    have n331 : nn a1 = j324 := nn_u ej324 (by omega)
    have i332 : iR (M (nn a1)) 0 5 := by rw [n331]; exact i325
    have : j326 < L (nn a1) := by rw [n331]; exact hj326
    have := RI_Lb (n := (nn a1)) hI (by omega)
    have n333 : nn a2 = j326 := nn_u ej326 (by omega)
    refine lv_if_ne (tgt := 21) hx hb dX7_leave_11 (by decide) (fun _ => ?_) (fun c334 => absurd c334 (iR_ne (show iR 1 (1) (1) from ⟨by decide, by decide⟩) (show iR 0 (0) (0) from ⟨by decide, by decide⟩) (by decide)))
    refine lv_aload_n hx hb dX7_leave_21 rfl (lv_at hl 0 rfl) ?_
    refine lv_iconst (v := 3) hx hb dX7_leave_22 (by decide) ?_
    refine call_v (cVt (k := 1076) (av := [.int 3]) (rest := []) B hP hS (d_X7_remember l E ρ319 r M L (PJ_RI hQ hI) ρ319 rfl 3) lk_RX7_118 (hrecv (ci := 7) B hP (hk_lt (c := 7) (show hk 1076 = 7 by decide +kernel) (by decide)) (hcc7 _ _ (show hk 1076 = 7 by decide +kernel)) rfl) rfl rfl hl.1 (Nat.le_of_ble_eq_true rfl) ⟨Nat.le_of_ble_eq_true rfl, Nat.le_of_ble_eq_true rfl⟩ ⟨Nat.le_of_ble_eq_true rfl, Nat.le_of_ble_eq_true rfl⟩ dX7_leave_23) hS (fun ρ336 H locs q337 hP hS => ?_)
    obtain ⟨hJ2, hrow338⟩ := q337
    have hJ2 := hJ2
    have hQ := hJ2.1
    have hI := PJ_I hJ2
    refine lv_iload_n hx hb dX7_leave_26 rfl (lv_at hl 1 rfl) ?_
    refine lv_topi (fun z339 ez339 => ?_)
    obtain rfl : z339 = nI (nn a1) := ez339.trans (nn_eq a1)
    refine call_i (cS (av := [.int (nI (nn a1))]) (rest := []) B hP hS (d_X7_netAt l E ρ336 ρ336 99998 (by decide) M L X0 (nn a1) (by omega) (by omega) hI) lk_RX7_75 rfl rfl hl.1 (Nat.le_of_ble_eq_true rfl) ⟨Nat.le_of_ble_eq_true rfl, Nat.le_of_ble_eq_true rfl⟩ ⟨Nat.le_of_ble_eq_true rfl, Nat.le_of_ble_eq_true rfl⟩ dX7_leave_27) hS (fun r340 ρ341 H locs q342 hP hS => ?_)
    obtain ⟨rfl, hI, q342⟩ := q342
    obtain rfl : r340 = nI (42 + 326 * (nn a1)) := q342.trans (congrArg nI (by omega))
    refine lv_istore_n (lv' := [(3, .int (nI (42 + 326 * (nn a1)))), (0, .ref (E.2.1 + 1076)), (1, .int a1), (2, .int a2)]) hx hb dX7_leave_30 rfl hl (by decide) rfl (fun ls hl => ?_)
    refine lv_aload_n hx hb dX7_leave_31 rfl (lv_at hl 1 rfl) ?_
    refine get7 B hP (show hk 1076 = 7 by decide +kernel) 3 (by decide) mw_1030 rfl dX7_leave_32 ?_
    refine lv_iload_n hx hb dX7_leave_35 rfl (lv_at hl 0 rfl) ?_
    refine lv_bipush (v := 6) hx hb dX7_leave_36 (by decide) ?_
    refine lv_iadd hx hb dX7_leave_38 ?_
    refine lv_topi (fun z343 ez343 => ?_)
    obtain rfl : z343 = (nI (48 + 326 * (nn a1))) := ez343.trans (by rw [show (nI (42 + 326 * (nn a1))) = nI (42 + 326 * (nn a1)) from rfl, show 6 = nI 6 from rfl, nI_add] <;> exact congrArg nI (by omega))
    refine lv_dup2_11 hx hb dX7_leave_39 rfl rfl ?_
    have := RI_Lb (n := (nn a1)) hI (by omega)
    refine aldf (n := 695) (j := (48 + 326 * (nn a1))) (v := (nI (L (nn a1)))) B hP (show hk 1078 = 8 by decide +kernel) (show hlen 1078 = 695 by decide +kernel) rfl (by omega) (by decide) (g_l (n0 := (nn a1)) hI (by omega) (by omega)) dX7_leave_40 ?_
    refine lv_iconst (v := 1) hx hb dX7_leave_41 (by decide) ?_
    have : 1 ≤ L (nn a1) := by omega
    refine lv_isub hx hb dX7_leave_42 ?_
    refine lv_topi (fun z344 ez344 => ?_)
    obtain rfl : z344 = (nI ((L (nn a1)) - 1)) := ez344.trans (nI_subE (a := L (nn a1)) (b := 1) (q := L (nn a1) - 1) (by omega))
    refine astn (n := 695) (j := (48 + 326 * (nn a1))) B hP hS (show hk 1078 = 8 by decide +kernel) (show hlen 1078 = 695 by decide +kernel) rfl (by omega) (by decide) dX7_leave_43 (fun H locs hP hS => ?_)
    obtain ⟨ρ345, e346⟩ : ∃ z, z = up ρ336 1078 (48 + 326 * (nn a1)) (nI ((L (nn a1)) - 1)) := ⟨_, rfl⟩
    rw [← e346] at hP
    refine lv_iload_n hx hb dX7_leave_44 rfl (lv_at hl 2 rfl) ?_
    refine lv_topi (fun z347 ez347 => ?_)
    obtain rfl : z347 = nI (nn a1) := ez347.trans (nn_eq a1)
    refine lv_iload_n hx hb dX7_leave_45 rfl (lv_at hl 3 rfl) ?_
    refine lv_topi (fun z348 ez348 => ?_)
    obtain rfl : z348 = nI (nn a2) := ez348.trans (nn_eq a2)
    refine call_i (cS (av := [.int (nI (nn a1)), .int (nI (nn a2))]) (rest := []) B hP hS (d_X7_linkAtF l E ρ345 (nn a1) (by omega) (by omega) (nn a2) (by omega) (by omega)) lk_RX7_82 rfl rfl hl.1 (Nat.le_of_ble_eq_true rfl) ⟨Nat.le_of_ble_eq_true rfl, Nat.le_of_ble_eq_true rfl⟩ ⟨Nat.le_of_ble_eq_true rfl, Nat.le_of_ble_eq_true rfl⟩ dX7_leave_46) hS (fun r349 ρ350 H locs q351 hP hS => ?_)
    obtain ⟨rfl, q351⟩ := q351
    obtain rfl : r349 = nI (104 + 326 * (nn a1) + 66 * (nn a2)) := q351.trans (congrArg nI (by omega))
    refine lv_istore (lv' := [(4, .int (nI (104 + 326 * (nn a1) + 66 * (nn a2)))), (3, .int (nI (42 + 326 * (nn a1)))), (0, .ref (E.2.1 + 1076)), (1, .int a1), (2, .int a2)]) hx hb dX7_leave_49 hl (by decide) rfl (fun ls hl => ?_)
    exact b51_0 ls ρ345 _ _ _ (104 + 326 * (nn a1) + 66 * (nn a2)) (lv_sub hl [2, 3, 4, 1, 0] rfl) hP hS (by rw [e346]; exact LV_0 (PJ_RI hQ hI) (by omega) (by omega) (by omega) rfl) (Nat.lt_succ_self _) (by omega) (by omega) (iR_w i332 (by decide) (by decide)) (iR_w (show iR a1 0 1 from by rw [ej324]; exact nI_iR (by omega) (by omega) (by omega)) (by decide) (by decide)) (iR_w (show iR a2 0 3 from by rw [ej326]; exact nI_iR (by omega) (by omega) (by omega)) (by decide) (by decide)) (by omega) (by omega) (by omega) (by omega) (by omega) (by omega) (by omega) (by omega) (by omega) (show iR a2 (-1) ((L (nn a1) : Int) - 1) from by rw [ej326]; exact rl_nat (k := j326) (by omega) (by omega))
