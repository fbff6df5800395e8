
theorem lay5r : (List.range 1090).all (fun k => !(hk k == 5) || (List.range 89).all (fun r => hk (k + r) == hkW r && decide (k + r < 1076))) = true := by decide +kernel
theorem lay5k {k r : Nat} (h : hk k = 5) (hr : r < 89) : hk (k + r) = hkW r ∧ k + r < 1076 := by
  have q := List.all_eq_true.mp lay5r k (List.mem_range.mpr (hk_lt h (by decide)))
  simp only [h, beq_self_eq_true, Bool.not_true, Bool.false_or] at q
  have q2 := List.all_eq_true.mp q r (List.mem_range.mpr hr)
  simpa using q2
theorem hkW10 : ∀ r, r < 52 → r ≠ 10 → hkW r ≠ 10 := by decide +kernel
theorem r0_ag {k1 k2 r : Nat} (h1 : hk k1 = 5) (h2 : hk k2 = 5) (hr : r < 52) (h10 : r ≠ 10) : r0 (k1 + r) = r0 (k2 + r) := by
  obtain ⟨a1, a2⟩ := lay5k (r := r) h1 (by omega)
  obtain ⟨b1, b2⟩ := lay5k (r := r) h2 (by omega)
  exact r0_kind (a1.trans b1.symm) (by rw [a1]; exact hkW10 r hr h10) (by omega) (by omega)
theorem cpw_self {ρ : Nat → Nat → Int32} {k1 k2 : Nat} (h : ∀ j, ρ k1 j = ρ k2 j) : cpw ρ k1 k2 = ρ := by
  unfold cpw
  rw [up_self ρ (h 4), up_self ρ (h 5), up_self ρ (h 6), up_self ρ (h 7), up_self ρ (h 8)]
theorem FrW.keep4 {ρ ρ' : Nat → Nat → Int32} {k : Nat} (h : FrW ρ k) (h1 : ρ' (k + 5) = ρ (k + 5)) (h2 : ρ' (k + 6) = ρ (k + 6)) (h3 : ρ' (k + 47) = ρ (k + 47)) (h4 : ρ' (k + 48) = ρ (k + 48)) : FrW ρ' k := ⟨h.1.keep h1 h2, h.2.keep h3 h4⟩
theorem tm1 {v : Int32} : tm 1 v ↔ iR v 0 32 ∧ ev v := by
  have e : (1 : Int32).toInt = 1 := rfl
  unfold tm
  rw [e]
  constructor
  · rintro (z | z | z)
    · omega
    · exact z.2
    · omega
  · intro z
    exact Or.inr (Or.inl ⟨rfl, z.1, z.2⟩)
def tmv (w r : Int32) : Prop := (w.toInt = 0 ∧ r = 1) ∨ (w.toInt = 1 ∧ r = 16) ∨ (w.toInt = 2 ∧ r = 2)
theorem tmv_0 {w : Int32} (h : w = 0) : tmv w 1 := Or.inl ⟨by rw [h]; rfl, rfl⟩
theorem tmv_1 {w : Int32} (h : w = 1) : tmv w 16 := Or.inr (Or.inl ⟨by rw [h]; rfl, rfl⟩)
theorem tmv_2 {w v : Int32} (q : tm w v) (h0 : ¬ w = 0) (h1 : ¬ w = 1) : tmv w 2 := by
  have g0 : ¬ w.toInt = 0 := fun z => h0 (Int32.toInt_inj.mp (z.trans rfl))
  have g1 : ¬ w.toInt = 1 := fun z => h1 (Int32.toInt_inj.mp (z.trans rfl))
  rcases q with z | z | z
  · exact absurd z.1 g0
  · exact absurd z.1 g1
  · exact Or.inr (Or.inr ⟨z.1, rfl⟩)
def cnt (w : Int) : Int32 := if w = 2 then 1 else if w = 3 then 16 else if w = 18 then 2 else if 0 ≤ w ∧ w ≤ 19 then 0 else -1
theorem cnt_out {w : Int} (h : w < 0 ∨ 19 < w) : (-1 : Int32) = cnt w := by
  unfold cnt
  rw [if_neg (by omega), if_neg (by omega), if_neg (by omega), if_neg (by omega)]
/-- all cells but the paper's own are new -/
def BS (ρ : Nat → Nat → Int32) : Prop := ∀ k, k ≠ 90 → ρ k = r0 k
theorem BS.F1 {ρ : Nat → Nat → Int32} (h : BS ρ) : FrW ρ 1 := (FrW_r0 (k := 1) (by decide +kernel)).keep4 (h _ (by decide)) (h _ (by decide)) (h _ (by decide)) (h _ (by decide))
theorem BS.F90 {ρ : Nat → Nat → Int32} (h : BS ρ) : FrW ρ 90 := (FrW_r0 (k := 90) (by decide +kernel)).keep4 (h _ (by decide)) (h _ (by decide)) (h _ (by decide)) (h _ (by decide))
theorem BS_r0 : BS r0 := fun _ _ => rfl
theorem dX6_keepForUndo_0 : decode cX6_keepForUndo 0 = .ok (.aload_n 0, 1) := by decide +kernel
theorem dX6_keepForUndo_1 : decode cX6_keepForUndo 1 = .ok (.getfield 27, 3) := by decide +kernel
theorem dX6_keepForUndo_4 : decode cX6_keepForUndo 4 = .ok (.aload_n 0, 1) := by decide +kernel
theorem dX6_keepForUndo_5 : decode cX6_keepForUndo 5 = .ok (.getfield 34, 3) := by decide +kernel
theorem dX6_keepForUndo_8 : decode cX6_keepForUndo 8 = .ok (.aaload, 1) := by decide +kernel
theorem dX6_keepForUndo_9 : decode cX6_keepForUndo 9 = .ok (.aload_n 0, 1) := by decide +kernel
theorem dX6_keepForUndo_10 : decode cX6_keepForUndo 10 = .ok (.getfield 12, 3) := by decide +kernel
theorem dX6_keepForUndo_13 : decode cX6_keepForUndo 13 = .ok (.invokevirtual 219, 3) := by decide +kernel
theorem dX6_keepForUndo_16 : decode cX6_keepForUndo 16 = .ok (.aload_n 0, 1) := by decide +kernel
theorem dX6_keepForUndo_17 : decode cX6_keepForUndo 17 = .ok (.getfield 30, 3) := by decide +kernel
theorem dX6_keepForUndo_20 : decode cX6_keepForUndo 20 = .ok (.aload_n 0, 1) := by decide +kernel
theorem dX6_keepForUndo_21 : decode cX6_keepForUndo 21 = .ok (.getfield 34, 3) := by decide +kernel
theorem dX6_keepForUndo_24 : decode cX6_keepForUndo 24 = .ok (.iload_n 1, 1) := by decide +kernel
theorem dX6_keepForUndo_25 : decode cX6_keepForUndo 25 = .ok (.iastore, 1) := by decide +kernel
theorem dX6_keepForUndo_26 : decode cX6_keepForUndo 26 = .ok (.aload_n 0, 1) := by decide +kernel
theorem dX6_keepForUndo_27 : decode cX6_keepForUndo 27 = .ok (.aload_n 0, 1) := by decide +kernel
theorem dX6_keepForUndo_28 : decode cX6_keepForUndo 28 = .ok (.getfield 34, 3) := by decide +kernel
theorem dX6_keepForUndo_31 : decode cX6_keepForUndo 31 = .ok (.iconst 1, 1) := by decide +kernel
theorem dX6_keepForUndo_32 : decode cX6_keepForUndo 32 = .ok (.iadd, 1) := by decide +kernel
theorem dX6_keepForUndo_33 : decode cX6_keepForUndo 33 = .ok (.bipush 8, 2) := by decide +kernel
theorem dX6_keepForUndo_35 : decode cX6_keepForUndo 35 = .ok (.irem, 1) := by decide +kernel
theorem dX6_keepForUndo_36 : decode cX6_keepForUndo 36 = .ok (.putfield 34, 3) := by decide +kernel
theorem dX6_keepForUndo_39 : decode cX6_keepForUndo 39 = .ok (.aload_n 0, 1) := by decide +kernel
theorem dX6_keepForUndo_40 : decode cX6_keepForUndo 40 = .ok (.aload_n 0, 1) := by decide +kernel
theorem dX6_keepForUndo_41 : decode cX6_keepForUndo 41 = .ok (.getfield 38, 3) := by decide +kernel
theorem dX6_keepForUndo_44 : decode cX6_keepForUndo 44 = .ok (.iconst 1, 1) := by decide +kernel
theorem dX6_keepForUndo_45 : decode cX6_keepForUndo 45 = .ok (.iadd, 1) := by decide +kernel
theorem dX6_keepForUndo_46 : decode cX6_keepForUndo 46 = .ok (.bipush 8, 2) := by decide +kernel
theorem dX6_keepForUndo_48 : decode cX6_keepForUndo 48 = .ok (.invokestatic 388, 3) := by decide +kernel
theorem dX6_keepForUndo_51 : decode cX6_keepForUndo 51 = .ok (.putfield 38, 3) := by decide +kernel
theorem dX6_keepForUndo_54 : decode cX6_keepForUndo 54 = .ok (.return_, 1) := by decide +kernel
theorem dX6_radio_0 : decode cX6_radio 0 = .ok (.iload_n 1, 1) := by decide +kernel
theorem dX6_radio_1 : decode cX6_radio 1 = .ok (.iconst 0, 1) := by decide +kernel
theorem dX6_radio_2 : decode cX6_radio 2 = .ok (.ldc 53, 2) := by decide +kernel
theorem dX6_radio_4 : decode cX6_radio 4 = .ok (.invokestatic 54, 3) := by decide +kernel
theorem dX6_radio_7 : decode cX6_radio 7 = .ok (.ifCond .ne 9, 3) := by decide +kernel
theorem dX6_radio_10 : decode cX6_radio 10 = .ok (.aload_n 0, 1) := by decide +kernel
theorem dX6_radio_11 : decode cX6_radio 11 = .ok (.iconst (-1), 1) := by decide +kernel
theorem dX6_radio_12 : decode cX6_radio 12 = .ok (.invokevirtual 58, 3) := by decide +kernel
theorem dX6_radio_15 : decode cX6_radio 15 = .ok (.ireturn, 1) := by decide +kernel
theorem dX6_radio_16 : decode cX6_radio 16 = .ok (.aload_n 0, 1) := by decide +kernel
theorem dX6_radio_17 : decode cX6_radio 17 = .ok (.getfield 12, 3) := by decide +kernel
theorem dX6_radio_20 : decode cX6_radio 20 = .ok (.getfield 62, 3) := by decide +kernel
theorem dX6_radio_23 : decode cX6_radio 23 = .ok (.bipush 6, 2) := by decide +kernel
theorem dX6_radio_25 : decode cX6_radio 25 = .ok (.if_icmp .lt 10, 3) := by decide +kernel
theorem dX6_radio_28 : decode cX6_radio 28 = .ok (.aload_n 0, 1) := by decide +kernel
theorem dX6_radio_29 : decode cX6_radio 29 = .ok (.bipush (-5), 2) := by decide +kernel
theorem dX6_radio_31 : decode cX6_radio 31 = .ok (.invokevirtual 58, 3) := by decide +kernel
theorem dX6_radio_34 : decode cX6_radio 34 = .ok (.ireturn, 1) := by decide +kernel
theorem dX6_radio_35 : decode cX6_radio 35 = .ok (.aload_n 0, 1) := by decide +kernel
theorem dX6_radio_36 : decode cX6_radio 36 = .ok (.iconst 0, 1) := by decide +kernel
theorem dX6_radio_37 : decode cX6_radio 37 = .ok (.invokevirtual 65, 3) := by decide +kernel
theorem dX6_radio_40 : decode cX6_radio 40 = .ok (.aload_n 0, 1) := by decide +kernel
theorem dX6_radio_41 : decode cX6_radio 41 = .ok (.getfield 12, 3) := by decide +kernel
theorem dX6_radio_44 : decode cX6_radio 44 = .ok (.getfield 69, 3) := by decide +kernel
theorem dX6_radio_47 : decode cX6_radio 47 = .ok (.aload_n 0, 1) := by decide +kernel
theorem dX6_radio_48 : decode cX6_radio 48 = .ok (.getfield 12, 3) := by decide +kernel
theorem dX6_radio_51 : decode cX6_radio 51 = .ok (.getfield 62, 3) := by decide +kernel
theorem dX6_radio_54 : decode cX6_radio 54 = .ok (.iload_n 1, 1) := by decide +kernel
theorem dX6_radio_55 : decode cX6_radio 55 = .ok (.iastore, 1) := by decide +kernel
theorem dX6_radio_56 : decode cX6_radio 56 = .ok (.aload_n 0, 1) := by decide +kernel
theorem dX6_radio_57 : decode cX6_radio 57 = .ok (.getfield 12, 3) := by decide +kernel
theorem dX6_radio_60 : decode cX6_radio 60 = .ok (.dup, 1) := by decide +kernel
theorem dX6_radio_61 : decode cX6_radio 61 = .ok (.getfield 62, 3) := by decide +kernel
theorem dX6_radio_64 : decode cX6_radio 64 = .ok (.iconst 1, 1) := by decide +kernel
theorem dX6_radio_65 : decode cX6_radio 65 = .ok (.iadd, 1) := by decide +kernel
theorem dX6_radio_66 : decode cX6_radio 66 = .ok (.putfield 62, 3) := by decide +kernel
theorem dX6_radio_69 : decode cX6_radio 69 = .ok (.aload_n 0, 1) := by decide +kernel
theorem dX6_radio_70 : decode cX6_radio 70 = .ok (.aload_n 0, 1) := by decide +kernel
theorem dX6_radio_71 : decode cX6_radio 71 = .ok (.getfield 12, 3) := by decide +kernel
theorem dX6_radio_74 : decode cX6_radio 74 = .ok (.getfield 62, 3) := by decide +kernel
theorem dX6_radio_77 : decode cX6_radio 77 = .ok (.iconst 1, 1) := by decide +kernel
theorem dX6_radio_78 : decode cX6_radio 78 = .ok (.isub, 1) := by decide +kernel
theorem dX6_radio_79 : decode cX6_radio 79 = .ok (.invokevirtual 72, 3) := by decide +kernel
theorem dX6_radio_82 : decode cX6_radio 82 = .ok (.ireturn, 1) := by decide +kernel
theorem dX6_net_0 : decode cX6_net 0 = .ok (.iload_n 1, 1) := by decide +kernel
theorem dX6_net_1 : decode cX6_net 1 = .ok (.iconst 0, 1) := by decide +kernel
theorem dX6_net_2 : decode cX6_net 2 = .ok (.iconst 1, 1) := by decide +kernel
theorem dX6_net_3 : decode cX6_net 3 = .ok (.invokestatic 54, 3) := by decide +kernel
theorem dX6_net_6 : decode cX6_net 6 = .ok (.ifCond .eq 13, 3) := by decide +kernel
theorem dX6_net_9 : decode cX6_net 9 = .ok (.iload_n 3, 1) := by decide +kernel
theorem dX6_net_10 : decode cX6_net 10 = .ok (.iconst 0, 1) := by decide +kernel
theorem dX6_net_11 : decode cX6_net 11 = .ok (.ldc 75, 2) := by decide +kernel
theorem dX6_net_13 : decode cX6_net 13 = .ok (.invokestatic 54, 3) := by decide +kernel
theorem dX6_net_16 : decode cX6_net 16 = .ok (.ifCond .ne 9, 3) := by decide +kernel
theorem dX6_net_19 : decode cX6_net 19 = .ok (.aload_n 0, 1) := by decide +kernel
theorem dX6_net_20 : decode cX6_net 20 = .ok (.iconst (-1), 1) := by decide +kernel
theorem dX6_net_21 : decode cX6_net 21 = .ok (.invokevirtual 58, 3) := by decide +kernel
theorem dX6_net_24 : decode cX6_net 24 = .ok (.ireturn, 1) := by decide +kernel
theorem dX6_net_25 : decode cX6_net 25 = .ok (.aload_n 0, 1) := by decide +kernel
theorem dX6_net_26 : decode cX6_net 26 = .ok (.getfield 12, 3) := by decide +kernel
theorem dX6_net_29 : decode cX6_net 29 = .ok (.iload_n 2, 1) := by decide +kernel
theorem dX6_net_30 : decode cX6_net 30 = .ok (.invokevirtual 76, 3) := by decide +kernel
theorem dX6_net_33 : decode cX6_net 33 = .ok (.ifCond .ne 10, 3) := by decide +kernel
theorem dX6_net_36 : decode cX6_net 36 = .ok (.aload_n 0, 1) := by decide +kernel
theorem dX6_net_37 : decode cX6_net 37 = .ok (.bipush (-2), 2) := by decide +kernel
theorem dX6_net_39 : decode cX6_net 39 = .ok (.invokevirtual 58, 3) := by decide +kernel
theorem dX6_net_42 : decode cX6_net 42 = .ok (.ireturn, 1) := by decide +kernel
theorem dX6_net_43 : decode cX6_net 43 = .ok (.aload_n 0, 1) := by decide +kernel
theorem dX6_net_44 : decode cX6_net 44 = .ok (.getfield 12, 3) := by decide +kernel
theorem dX6_net_47 : decode cX6_net 47 = .ok (.getfield 80, 3) := by decide +kernel
theorem dX6_net_50 : decode cX6_net 50 = .ok (.iload_n 1, 1) := by decide +kernel
theorem dX6_net_51 : decode cX6_net 51 = .ok (.aaload, 1) := by decide +kernel
theorem dX6_net_52 : decode cX6_net 52 = .ok (.getfield 84, 3) := by decide +kernel
theorem dX6_net_55 : decode cX6_net 55 = .ok (.iconst (-1), 1) := by decide +kernel
theorem dX6_net_56 : decode cX6_net 56 = .ok (.if_icmp .ne 21, 3) := by decide +kernel
theorem dX6_net_59 : decode cX6_net 59 = .ok (.aload_n 0, 1) := by decide +kernel
theorem dX6_net_60 : decode cX6_net 60 = .ok (.getfield 12, 3) := by decide +kernel
theorem dX6_net_63 : decode cX6_net 63 = .ok (.getfield 80, 3) := by decide +kernel
theorem dX6_net_66 : decode cX6_net 66 = .ok (.iconst 1, 1) := by decide +kernel
theorem dX6_net_67 : decode cX6_net 67 = .ok (.iload_n 1, 1) := by decide +kernel
theorem dX6_net_68 : decode cX6_net 68 = .ok (.isub, 1) := by decide +kernel
theorem dX6_net_69 : decode cX6_net 69 = .ok (.aaload, 1) := by decide +kernel
theorem dX6_net_70 : decode cX6_net 70 = .ok (.getfield 84, 3) := by decide +kernel
theorem dX6_net_73 : decode cX6_net 73 = .ok (.iload_n 2, 1) := by decide +kernel
theorem dX6_net_74 : decode cX6_net 74 = .ok (.if_icmp .ne 10, 3) := by decide +kernel
theorem dX6_net_77 : decode cX6_net 77 = .ok (.aload_n 0, 1) := by decide +kernel
theorem dX6_net_78 : decode cX6_net 78 = .ok (.bipush (-4), 2) := by decide +kernel
theorem dX6_net_80 : decode cX6_net 80 = .ok (.invokevirtual 58, 3) := by decide +kernel
theorem dX6_net_83 : decode cX6_net 83 = .ok (.ireturn, 1) := by decide +kernel
theorem dX6_net_84 : decode cX6_net 84 = .ok (.aload_n 0, 1) := by decide +kernel
theorem dX6_net_85 : decode cX6_net 85 = .ok (.iconst 1, 1) := by decide +kernel
theorem dX6_net_86 : decode cX6_net 86 = .ok (.invokevirtual 65, 3) := by decide +kernel
theorem dX6_net_89 : decode cX6_net 89 = .ok (.aload_n 0, 1) := by decide +kernel
theorem dX6_net_90 : decode cX6_net 90 = .ok (.getfield 12, 3) := by decide +kernel
theorem dX6_net_93 : decode cX6_net 93 = .ok (.getfield 80, 3) := by decide +kernel
theorem dX6_net_96 : decode cX6_net 96 = .ok (.iload_n 1, 1) := by decide +kernel
theorem dX6_net_97 : decode cX6_net 97 = .ok (.aaload, 1) := by decide +kernel
theorem dX6_net_98 : decode cX6_net 98 = .ok (.iload_n 2, 1) := by decide +kernel
theorem dX6_net_99 : decode cX6_net 99 = .ok (.putfield 84, 3) := by decide +kernel
theorem dX6_net_102 : decode cX6_net 102 = .ok (.aload_n 0, 1) := by decide +kernel
theorem dX6_net_103 : decode cX6_net 103 = .ok (.getfield 12, 3) := by decide +kernel
theorem dX6_net_106 : decode cX6_net 106 = .ok (.getfield 80, 3) := by decide +kernel
theorem dX6_net_109 : decode cX6_net 109 = .ok (.iload_n 1, 1) := by decide +kernel
theorem dX6_net_110 : decode cX6_net 110 = .ok (.aaload, 1) := by decide +kernel
theorem dX6_net_111 : decode cX6_net 111 = .ok (.iload_n 3, 1) := by decide +kernel
theorem dX6_net_112 : decode cX6_net 112 = .ok (.putfield 89, 3) := by decide +kernel
theorem dX6_net_115 : decode cX6_net 115 = .ok (.aload_n 0, 1) := by decide +kernel
theorem dX6_net_116 : decode cX6_net 116 = .ok (.aload_n 0, 1) := by decide +kernel
theorem dX6_net_117 : decode cX6_net 117 = .ok (.getfield 12, 3) := by decide +kernel
theorem dX6_net_120 : decode cX6_net 120 = .ok (.getfield 80, 3) := by decide +kernel
theorem dX6_net_123 : decode cX6_net 123 = .ok (.iload_n 1, 1) := by decide +kernel
theorem dX6_net_124 : decode cX6_net 124 = .ok (.aaload, 1) := by decide +kernel
theorem dX6_net_125 : decode cX6_net 125 = .ok (.getfield 92, 3) := by decide +kernel
theorem dX6_net_128 : decode cX6_net 128 = .ok (.invokevirtual 72, 3) := by decide +kernel
theorem dX6_net_131 : decode cX6_net 131 = .ok (.ireturn, 1) := by decide +kernel
theorem dX6_join_0 : decode cX6_join 0 = .ok (.aload_n 0, 1) := by decide +kernel
theorem dX6_join_1 : decode cX6_join 1 = .ok (.getfield 12, 3) := by decide +kernel
theorem dX6_join_4 : decode cX6_join 4 = .ok (.iload_n 1, 1) := by decide +kernel
theorem dX6_join_5 : decode cX6_join 5 = .ok (.invokevirtual 95, 3) := by decide +kernel
theorem dX6_join_8 : decode cX6_join 8 = .ok (.astore_n 3, 1) := by decide +kernel
theorem dX6_join_9 : decode cX6_join 9 = .ok (.aload_n 3, 1) := by decide +kernel
theorem dX6_join_10 : decode cX6_join 10 = .ok (.ifnull 14, 3) := by decide +kernel
theorem dX6_join_13 : decode cX6_join 13 = .ok (.aload_n 0, 1) := by decide +kernel
theorem dX6_join_14 : decode cX6_join 14 = .ok (.getfield 12, 3) := by decide +kernel
theorem dX6_join_17 : decode cX6_join 17 = .ok (.iload_n 2, 1) := by decide +kernel
theorem dX6_join_18 : decode cX6_join 18 = .ok (.invokevirtual 76, 3) := by decide +kernel
theorem dX6_join_21 : decode cX6_join 21 = .ok (.ifCond .ne 10, 3) := by decide +kernel
theorem dX6_join_24 : decode cX6_join 24 = .ok (.aload_n 0, 1) := by decide +kernel
theorem dX6_join_25 : decode cX6_join 25 = .ok (.bipush (-2), 2) := by decide +kernel
theorem dX6_join_27 : decode cX6_join 27 = .ok (.invokevirtual 58, 3) := by decide +kernel
theorem dX6_join_30 : decode cX6_join 30 = .ok (.ireturn, 1) := by decide +kernel
theorem dX6_join_31 : decode cX6_join 31 = .ok (.aload_n 3, 1) := by decide +kernel
theorem dX6_join_32 : decode cX6_join 32 = .ok (.iload_n 2, 1) := by decide +kernel
theorem dX6_join_33 : decode cX6_join 33 = .ok (.invokevirtual 99, 3) := by decide +kernel
theorem dX6_join_36 : decode cX6_join 36 = .ok (.ifCond .eq 10, 3) := by decide +kernel
theorem dX6_join_39 : decode cX6_join 39 = .ok (.aload_n 0, 1) := by decide +kernel
theorem dX6_join_40 : decode cX6_join 40 = .ok (.bipush (-4), 2) := by decide +kernel
theorem dX6_join_42 : decode cX6_join 42 = .ok (.invokevirtual 58, 3) := by decide +kernel
theorem dX6_join_45 : decode cX6_join 45 = .ok (.ireturn, 1) := by decide +kernel
theorem dX6_join_46 : decode cX6_join 46 = .ok (.aload_n 3, 1) := by decide +kernel
theorem dX6_join_47 : decode cX6_join 47 = .ok (.getfield 92, 3) := by decide +kernel
theorem dX6_join_50 : decode cX6_join 50 = .ok (.iconst 4, 1) := by decide +kernel
theorem dX6_join_51 : decode cX6_join 51 = .ok (.if_icmp .lt 10, 3) := by decide +kernel
theorem dX6_join_54 : decode cX6_join 54 = .ok (.aload_n 0, 1) := by decide +kernel
theorem dX6_join_55 : decode cX6_join 55 = .ok (.bipush (-5), 2) := by decide +kernel
theorem dX6_join_57 : decode cX6_join 57 = .ok (.invokevirtual 58, 3) := by decide +kernel
theorem dX6_join_60 : decode cX6_join 60 = .ok (.ireturn, 1) := by decide +kernel
theorem dX6_join_61 : decode cX6_join 61 = .ok (.aload_n 0, 1) := by decide +kernel
theorem dX6_join_62 : decode cX6_join 62 = .ok (.iconst 2, 1) := by decide +kernel
theorem dX6_join_63 : decode cX6_join 63 = .ok (.invokevirtual 65, 3) := by decide +kernel
theorem dX6_join_66 : decode cX6_join 66 = .ok (.aload_n 3, 1) := by decide +kernel
theorem dX6_join_67 : decode cX6_join 67 = .ok (.iload_n 2, 1) := by decide +kernel
theorem dX6_join_68 : decode cX6_join 68 = .ok (.aload_n 0, 1) := by decide +kernel
theorem dX6_join_69 : decode cX6_join 69 = .ok (.getfield 12, 3) := by decide +kernel
theorem dX6_join_72 : decode cX6_join 72 = .ok (.getfield 102, 3) := by decide +kernel
theorem dX6_join_75 : decode cX6_join 75 = .ok (.invokevirtual 105, 3) := by decide +kernel
theorem dX6_join_78 : decode cX6_join 78 = .ok (.aload_n 0, 1) := by decide +kernel
theorem dX6_join_79 : decode cX6_join 79 = .ok (.aload_n 3, 1) := by decide +kernel
theorem dX6_join_80 : decode cX6_join 80 = .ok (.getfield 92, 3) := by decide +kernel
theorem dX6_join_83 : decode cX6_join 83 = .ok (.iconst 1, 1) := by decide +kernel
theorem dX6_join_84 : decode cX6_join 84 = .ok (.isub, 1) := by decide +kernel
theorem dX6_join_85 : decode cX6_join 85 = .ok (.invokevirtual 72, 3) := by decide +kernel
theorem dX6_join_88 : decode cX6_join 88 = .ok (.ireturn, 1) := by decide +kernel
theorem dX6_leave_0 : decode cX6_leave 0 = .ok (.aload_n 0, 1) := by decide +kernel
theorem dX6_leave_1 : decode cX6_leave 1 = .ok (.getfield 12, 3) := by decide +kernel
theorem dX6_leave_4 : decode cX6_leave 4 = .ok (.iload_n 1, 1) := by decide +kernel
theorem dX6_leave_5 : decode cX6_leave 5 = .ok (.invokevirtual 95, 3) := by decide +kernel
theorem dX6_leave_8 : decode cX6_leave 8 = .ok (.astore_n 3, 1) := by decide +kernel
theorem dX6_leave_9 : decode cX6_leave 9 = .ok (.aload_n 3, 1) := by decide +kernel
theorem dX6_leave_10 : decode cX6_leave 10 = .ok (.ifnull 11, 3) := by decide +kernel
theorem dX6_leave_13 : decode cX6_leave 13 = .ok (.aload_n 3, 1) := by decide +kernel
theorem dX6_leave_14 : decode cX6_leave 14 = .ok (.iload_n 2, 1) := by decide +kernel
theorem dX6_leave_15 : decode cX6_leave 15 = .ok (.invokevirtual 109, 3) := by decide +kernel
theorem dX6_leave_18 : decode cX6_leave 18 = .ok (.ifnonnull 10, 3) := by decide +kernel
theorem dX6_leave_21 : decode cX6_leave 21 = .ok (.aload_n 0, 1) := by decide +kernel
theorem dX6_leave_22 : decode cX6_leave 22 = .ok (.bipush (-2), 2) := by decide +kernel
theorem dX6_leave_24 : decode cX6_leave 24 = .ok (.invokevirtual 58, 3) := by decide +kernel
theorem dX6_leave_27 : decode cX6_leave 27 = .ok (.ireturn, 1) := by decide +kernel
theorem dX6_leave_28 : decode cX6_leave 28 = .ok (.aload_n 0, 1) := by decide +kernel
theorem dX6_leave_29 : decode cX6_leave 29 = .ok (.iconst 3, 1) := by decide +kernel
theorem dX6_leave_30 : decode cX6_leave 30 = .ok (.invokevirtual 65, 3) := by decide +kernel
theorem dX6_leave_33 : decode cX6_leave 33 = .ok (.aload_n 3, 1) := by decide +kernel
theorem dX6_leave_34 : decode cX6_leave 34 = .ok (.iload_n 2, 1) := by decide +kernel
theorem dX6_leave_35 : decode cX6_leave 35 = .ok (.invokevirtual 113, 3) := by decide +kernel
theorem dX6_leave_38 : decode cX6_leave 38 = .ok (.aload_n 0, 1) := by decide +kernel
theorem dX6_leave_39 : decode cX6_leave 39 = .ok (.aload_n 3, 1) := by decide +kernel
theorem dX6_leave_40 : decode cX6_leave 40 = .ok (.getfield 92, 3) := by decide +kernel
theorem dX6_leave_43 : decode cX6_leave 43 = .ok (.invokevirtual 72, 3) := by decide +kernel
theorem dX6_leave_46 : decode cX6_leave 46 = .ok (.ireturn, 1) := by decide +kernel
theorem dX6_noise_0 : decode cX6_noise 0 = .ok (.iload_n 1, 1) := by decide +kernel
theorem dX6_noise_1 : decode cX6_noise 1 = .ok (.iconst 0, 1) := by decide +kernel
theorem dX6_noise_2 : decode cX6_noise 2 = .ok (.bipush 22, 2) := by decide +kernel
theorem dX6_noise_4 : decode cX6_noise 4 = .ok (.invokestatic 54, 3) := by decide +kernel
theorem dX6_noise_7 : decode cX6_noise 7 = .ok (.ifCond .eq 13, 3) := by decide +kernel
theorem dX6_noise_10 : decode cX6_noise 10 = .ok (.iload_n 2, 1) := by decide +kernel
theorem dX6_noise_11 : decode cX6_noise 11 = .ok (.iconst 0, 1) := by decide +kernel
theorem dX6_noise_12 : decode cX6_noise 12 = .ok (.bipush 16, 2) := by decide +kernel
theorem dX6_noise_14 : decode cX6_noise 14 = .ok (.invokestatic 54, 3) := by decide +kernel
theorem dX6_noise_17 : decode cX6_noise 17 = .ok (.ifCond .ne 9, 3) := by decide +kernel
theorem dX6_noise_20 : decode cX6_noise 20 = .ok (.aload_n 0, 1) := by decide +kernel
theorem dX6_noise_21 : decode cX6_noise 21 = .ok (.iconst (-1), 1) := by decide +kernel
theorem dX6_noise_22 : decode cX6_noise 22 = .ok (.invokevirtual 58, 3) := by decide +kernel
theorem dX6_noise_25 : decode cX6_noise 25 = .ok (.ireturn, 1) := by decide +kernel
theorem dX6_noise_26 : decode cX6_noise 26 = .ok (.aload_n 0, 1) := by decide +kernel
theorem dX6_noise_27 : decode cX6_noise 27 = .ok (.iconst 4, 1) := by decide +kernel
theorem dX6_noise_28 : decode cX6_noise 28 = .ok (.invokevirtual 65, 3) := by decide +kernel
theorem dX6_noise_31 : decode cX6_noise 31 = .ok (.aload_n 0, 1) := by decide +kernel
theorem dX6_noise_32 : decode cX6_noise 32 = .ok (.getfield 12, 3) := by decide +kernel
theorem dX6_noise_35 : decode cX6_noise 35 = .ok (.getfield 116, 3) := by decide +kernel
theorem dX6_noise_38 : decode cX6_noise 38 = .ok (.iload_n 1, 1) := by decide +kernel
theorem dX6_noise_39 : decode cX6_noise 39 = .ok (.iaload, 1) := by decide +kernel
theorem dX6_noise_40 : decode cX6_noise 40 = .ok (.istore_n 3, 1) := by decide +kernel
theorem dX6_noise_41 : decode cX6_noise 41 = .ok (.aload_n 0, 1) := by decide +kernel
theorem dX6_noise_42 : decode cX6_noise 42 = .ok (.getfield 12, 3) := by decide +kernel
theorem dX6_noise_45 : decode cX6_noise 45 = .ok (.getfield 116, 3) := by decide +kernel
theorem dX6_noise_48 : decode cX6_noise 48 = .ok (.iload_n 1, 1) := by decide +kernel
theorem dX6_noise_49 : decode cX6_noise 49 = .ok (.iload_n 2, 1) := by decide +kernel
theorem dX6_noise_50 : decode cX6_noise 50 = .ok (.iastore, 1) := by decide +kernel
theorem dX6_noise_51 : decode cX6_noise 51 = .ok (.aload_n 0, 1) := by decide +kernel
theorem dX6_noise_52 : decode cX6_noise 52 = .ok (.iload_n 3, 1) := by decide +kernel
theorem dX6_noise_53 : decode cX6_noise 53 = .ok (.invokevirtual 72, 3) := by decide +kernel
theorem dX6_noise_56 : decode cX6_noise 56 = .ok (.ireturn, 1) := by decide +kernel
theorem dX6_terms_0 : decode cX6_terms 0 = .ok (.iload_n 1, 1) := by decide +kernel
theorem dX6_terms_1 : decode cX6_terms 1 = .ok (.iload_n 2, 1) := by decide +kernel
theorem dX6_terms_2 : decode cX6_terms 2 = .ok (.invokestatic 119, 3) := by decide +kernel
theorem dX6_terms_5 : decode cX6_terms 5 = .ok (.ifCond .ne 9, 3) := by decide +kernel
theorem dX6_terms_8 : decode cX6_terms 8 = .ok (.aload_n 0, 1) := by decide +kernel
theorem dX6_terms_9 : decode cX6_terms 9 = .ok (.iconst (-1), 1) := by decide +kernel
theorem dX6_terms_10 : decode cX6_terms 10 = .ok (.invokevirtual 58, 3) := by decide +kernel
theorem dX6_terms_13 : decode cX6_terms 13 = .ok (.ireturn, 1) := by decide +kernel
theorem dX6_terms_14 : decode cX6_terms 14 = .ok (.aload_n 0, 1) := by decide +kernel
theorem dX6_terms_15 : decode cX6_terms 15 = .ok (.iconst 5, 1) := by decide +kernel
theorem dX6_terms_16 : decode cX6_terms 16 = .ok (.invokevirtual 65, 3) := by decide +kernel
theorem dX6_terms_19 : decode cX6_terms 19 = .ok (.iload_n 1, 1) := by decide +kernel
theorem dX6_terms_20 : decode cX6_terms 20 = .ok (.ifCond .ne 22, 3) := by decide +kernel
theorem dX6_terms_23 : decode cX6_terms 23 = .ok (.aload_n 0, 1) := by decide +kernel
theorem dX6_terms_24 : decode cX6_terms 24 = .ok (.getfield 12, 3) := by decide +kernel
theorem dX6_terms_27 : decode cX6_terms 27 = .ok (.getfield 123, 3) := by decide +kernel
theorem dX6_terms_30 : decode cX6_terms 30 = .ok (.istore_n 3, 1) := by decide +kernel
theorem dX6_terms_31 : decode cX6_terms 31 = .ok (.aload_n 0, 1) := by decide +kernel
theorem dX6_terms_32 : decode cX6_terms 32 = .ok (.getfield 12, 3) := by decide +kernel
theorem dX6_terms_35 : decode cX6_terms 35 = .ok (.iload_n 2, 1) := by decide +kernel
theorem dX6_terms_36 : decode cX6_terms 36 = .ok (.putfield 123, 3) := by decide +kernel
theorem dX6_terms_39 : decode cX6_terms 39 = .ok (.goto 43, 3) := by decide +kernel
theorem dX6_terms_42 : decode cX6_terms 42 = .ok (.iload_n 1, 1) := by decide +kernel
theorem dX6_terms_43 : decode cX6_terms 43 = .ok (.iconst 1, 1) := by decide +kernel
theorem dX6_terms_44 : decode cX6_terms 44 = .ok (.if_icmp .ne 22, 3) := by decide +kernel
theorem dX6_terms_47 : decode cX6_terms 47 = .ok (.aload_n 0, 1) := by decide +kernel
theorem dX6_terms_48 : decode cX6_terms 48 = .ok (.getfield 12, 3) := by decide +kernel
theorem dX6_terms_51 : decode cX6_terms 51 = .ok (.getfield 126, 3) := by decide +kernel
theorem dX6_terms_54 : decode cX6_terms 54 = .ok (.istore_n 3, 1) := by decide +kernel
theorem dX6_terms_55 : decode cX6_terms 55 = .ok (.aload_n 0, 1) := by decide +kernel
theorem dX6_terms_56 : decode cX6_terms 56 = .ok (.getfield 12, 3) := by decide +kernel
theorem dX6_terms_59 : decode cX6_terms 59 = .ok (.iload_n 2, 1) := by decide +kernel
theorem dX6_terms_60 : decode cX6_terms 60 = .ok (.putfield 126, 3) := by decide +kernel
theorem dX6_terms_63 : decode cX6_terms 63 = .ok (.goto 19, 3) := by decide +kernel
theorem dX6_terms_66 : decode cX6_terms 66 = .ok (.aload_n 0, 1) := by decide +kernel
theorem dX6_terms_67 : decode cX6_terms 67 = .ok (.getfield 12, 3) := by decide +kernel
theorem dX6_terms_70 : decode cX6_terms 70 = .ok (.getfield 129, 3) := by decide +kernel
theorem dX6_terms_73 : decode cX6_terms 73 = .ok (.istore_n 3, 1) := by decide +kernel
theorem dX6_terms_74 : decode cX6_terms 74 = .ok (.aload_n 0, 1) := by decide +kernel
theorem dX6_terms_75 : decode cX6_terms 75 = .ok (.getfield 12, 3) := by decide +kernel
theorem dX6_terms_78 : decode cX6_terms 78 = .ok (.iload_n 2, 1) := by decide +kernel
theorem dX6_terms_79 : decode cX6_terms 79 = .ok (.putfield 129, 3) := by decide +kernel
theorem dX6_terms_82 : decode cX6_terms 82 = .ok (.aload_n 0, 1) := by decide +kernel
theorem dX6_terms_83 : decode cX6_terms 83 = .ok (.iload_n 3, 1) := by decide +kernel
theorem dX6_terms_84 : decode cX6_terms 84 = .ok (.invokevirtual 72, 3) := by decide +kernel
theorem dX6_terms_87 : decode cX6_terms 87 = .ok (.ireturn, 1) := by decide +kernel
theorem dX6_put_0 : decode cX6_put 0 = .ok (.iload_n 3, 1) := by decide +kernel
theorem dX6_put_1 : decode cX6_put 1 = .ok (.iconst 0, 1) := by decide +kernel
theorem dX6_put_2 : decode cX6_put 2 = .ok (.iconst 1, 1) := by decide +kernel
theorem dX6_put_3 : decode cX6_put 3 = .ok (.invokestatic 54, 3) := by decide +kernel
theorem dX6_put_6 : decode cX6_put 6 = .ok (.ifCond .eq 15, 3) := by decide +kernel
theorem dX6_put_9 : decode cX6_put 9 = .ok (.iload 4, 2) := by decide +kernel
theorem dX6_put_11 : decode cX6_put 11 = .ok (.iconst 0, 1) := by decide +kernel
theorem dX6_put_12 : decode cX6_put 12 = .ok (.sipush 255, 3) := by decide +kernel
theorem dX6_put_15 : decode cX6_put 15 = .ok (.invokestatic 54, 3) := by decide +kernel
theorem dX6_put_18 : decode cX6_put 18 = .ok (.ifCond .ne 9, 3) := by decide +kernel
theorem dX6_put_21 : decode cX6_put 21 = .ok (.aload_n 0, 1) := by decide +kernel
theorem dX6_put_22 : decode cX6_put 22 = .ok (.iconst (-1), 1) := by decide +kernel
theorem dX6_put_23 : decode cX6_put 23 = .ok (.invokevirtual 58, 3) := by decide +kernel
theorem dX6_put_26 : decode cX6_put 26 = .ok (.ireturn, 1) := by decide +kernel
theorem dX6_put_27 : decode cX6_put 27 = .ok (.aload_n 0, 1) := by decide +kernel
theorem dX6_put_28 : decode cX6_put 28 = .ok (.getfield 12, 3) := by decide +kernel
theorem dX6_put_31 : decode cX6_put 31 = .ok (.iload_n 1, 1) := by decide +kernel
theorem dX6_put_32 : decode cX6_put 32 = .ok (.iload_n 2, 1) := by decide +kernel
theorem dX6_put_33 : decode cX6_put 33 = .ok (.invokevirtual 132, 3) := by decide +kernel
theorem dX6_put_36 : decode cX6_put 36 = .ok (.astore 5, 2) := by decide +kernel
theorem dX6_put_38 : decode cX6_put 38 = .ok (.aload 5, 2) := by decide +kernel
theorem dX6_put_40 : decode cX6_put 40 = .ok (.ifnonnull 10, 3) := by decide +kernel
theorem dX6_put_43 : decode cX6_put 43 = .ok (.aload_n 0, 1) := by decide +kernel
theorem dX6_put_44 : decode cX6_put 44 = .ok (.bipush (-2), 2) := by decide +kernel
theorem dX6_put_46 : decode cX6_put 46 = .ok (.invokevirtual 58, 3) := by decide +kernel
theorem dX6_put_49 : decode cX6_put 49 = .ok (.ireturn, 1) := by decide +kernel
theorem dX6_put_50 : decode cX6_put 50 = .ok (.iload_n 3, 1) := by decide +kernel
theorem dX6_put_51 : decode cX6_put 51 = .ok (.ifCond .ne 11, 3) := by decide +kernel
theorem dX6_put_54 : decode cX6_put 54 = .ok (.aload 5, 2) := by decide +kernel
theorem dX6_put_56 : decode cX6_put 56 = .ok (.getfield 135, 3) := by decide +kernel
theorem dX6_put_59 : decode cX6_put 59 = .ok (.goto 8, 3) := by decide +kernel
theorem dX6_put_62 : decode cX6_put 62 = .ok (.aload 5, 2) := by decide +kernel
theorem dX6_put_64 : decode cX6_put 64 = .ok (.getfield 141, 3) := by decide +kernel
theorem dX6_put_67 : decode cX6_put 67 = .ok (.astore 6, 2) := by decide +kernel
theorem dX6_put_69 : decode cX6_put 69 = .ok (.aload 6, 2) := by decide +kernel
theorem dX6_put_71 : decode cX6_put 71 = .ok (.invokevirtual 144, 3) := by decide +kernel
theorem dX6_put_74 : decode cX6_put 74 = .ok (.ifCond .eq 10, 3) := by decide +kernel
theorem dX6_put_77 : decode cX6_put 77 = .ok (.aload_n 0, 1) := by decide +kernel
theorem dX6_put_78 : decode cX6_put 78 = .ok (.bipush (-5), 2) := by decide +kernel
theorem dX6_put_80 : decode cX6_put 80 = .ok (.invokevirtual 58, 3) := by decide +kernel
theorem dX6_put_83 : decode cX6_put 83 = .ok (.ireturn, 1) := by decide +kernel
theorem dX6_put_84 : decode cX6_put 84 = .ok (.aload_n 0, 1) := by decide +kernel
theorem dX6_put_85 : decode cX6_put 85 = .ok (.bipush 6, 2) := by decide +kernel
theorem dX6_put_87 : decode cX6_put 87 = .ok (.invokevirtual 65, 3) := by decide +kernel
theorem dX6_put_90 : decode cX6_put 90 = .ok (.aload 6, 2) := by decide +kernel
theorem dX6_put_92 : decode cX6_put 92 = .ok (.iload 4, 2) := by decide +kernel
theorem dX6_put_94 : decode cX6_put 94 = .ok (.aload_n 0, 1) := by decide +kernel
theorem dX6_put_95 : decode cX6_put 95 = .ok (.getfield 12, 3) := by decide +kernel
theorem dX6_put_98 : decode cX6_put 98 = .ok (.getfield 102, 3) := by decide +kernel
theorem dX6_put_101 : decode cX6_put 101 = .ok (.invokevirtual 150, 3) := by decide +kernel
theorem dX6_put_104 : decode cX6_put 104 = .ok (.aload_n 0, 1) := by decide +kernel
theorem dX6_put_105 : decode cX6_put 105 = .ok (.aload 6, 2) := by decide +kernel
theorem dX6_put_107 : decode cX6_put 107 = .ok (.getfield 153, 3) := by decide +kernel
theorem dX6_put_110 : decode cX6_put 110 = .ok (.invokevirtual 72, 3) := by decide +kernel
theorem dX6_put_113 : decode cX6_put 113 = .ok (.ireturn, 1) := by decide +kernel
theorem dX6_reserve_0 : decode cX6_reserve 0 = .ok (.iload_n 3, 1) := by decide +kernel
theorem dX6_reserve_1 : decode cX6_reserve 1 = .ok (.ifCond .eq 36, 3) := by decide +kernel
theorem dX6_reserve_4 : decode cX6_reserve 4 = .ok (.iload_n 3, 1) := by decide +kernel
theorem dX6_reserve_5 : decode cX6_reserve 5 = .ok (.bipush 6, 2) := by decide +kernel
theorem dX6_reserve_7 : decode cX6_reserve 7 = .ok (.bipush 40, 2) := by decide +kernel
theorem dX6_reserve_9 : decode cX6_reserve 9 = .ok (.invokestatic 156, 3) := by decide +kernel
theorem dX6_reserve_12 : decode cX6_reserve 12 = .ok (.ifCond .eq 29, 3) := by decide +kernel
theorem dX6_reserve_15 : decode cX6_reserve 15 = .ok (.iload 4, 2) := by decide +kernel
theorem dX6_reserve_17 : decode cX6_reserve 17 = .ok (.iconst 0, 1) := by decide +kernel
theorem dX6_reserve_18 : decode cX6_reserve 18 = .ok (.iload_n 3, 1) := by decide +kernel
theorem dX6_reserve_19 : decode cX6_reserve 19 = .ok (.iconst 1, 1) := by decide +kernel
theorem dX6_reserve_20 : decode cX6_reserve 20 = .ok (.isub, 1) := by decide +kernel
theorem dX6_reserve_21 : decode cX6_reserve 21 = .ok (.invokestatic 156, 3) := by decide +kernel
theorem dX6_reserve_24 : decode cX6_reserve 24 = .ok (.ifCond .eq 17, 3) := by decide +kernel
theorem dX6_reserve_27 : decode cX6_reserve 27 = .ok (.iload 5, 2) := by decide +kernel
theorem dX6_reserve_29 : decode cX6_reserve 29 = .ok (.iconst 1, 1) := by decide +kernel
theorem dX6_reserve_30 : decode cX6_reserve 30 = .ok (.iconst 3, 1) := by decide +kernel
theorem dX6_reserve_31 : decode cX6_reserve 31 = .ok (.invokestatic 54, 3) := by decide +kernel
theorem dX6_reserve_34 : decode cX6_reserve 34 = .ok (.ifCond .eq 7, 3) := by decide +kernel
theorem dX6_reserve_37 : decode cX6_reserve 37 = .ok (.iconst 1, 1) := by decide +kernel
theorem dX6_reserve_38 : decode cX6_reserve 38 = .ok (.goto 4, 3) := by decide +kernel
theorem dX6_reserve_41 : decode cX6_reserve 41 = .ok (.iconst 0, 1) := by decide +kernel
theorem dX6_reserve_42 : decode cX6_reserve 42 = .ok (.istore 6, 2) := by decide +kernel
theorem dX6_reserve_44 : decode cX6_reserve 44 = .ok (.iload 6, 2) := by decide +kernel
theorem dX6_reserve_46 : decode cX6_reserve 46 = .ok (.ifCond .ne 9, 3) := by decide +kernel
theorem dX6_reserve_49 : decode cX6_reserve 49 = .ok (.aload_n 0, 1) := by decide +kernel
theorem dX6_reserve_50 : decode cX6_reserve 50 = .ok (.iconst (-1), 1) := by decide +kernel
theorem dX6_reserve_51 : decode cX6_reserve 51 = .ok (.invokevirtual 58, 3) := by decide +kernel
theorem dX6_reserve_54 : decode cX6_reserve 54 = .ok (.ireturn, 1) := by decide +kernel
theorem dX6_reserve_55 : decode cX6_reserve 55 = .ok (.aload_n 0, 1) := by decide +kernel
theorem dX6_reserve_56 : decode cX6_reserve 56 = .ok (.getfield 12, 3) := by decide +kernel
theorem dX6_reserve_59 : decode cX6_reserve 59 = .ok (.iload_n 1, 1) := by decide +kernel
theorem dX6_reserve_60 : decode cX6_reserve 60 = .ok (.iload_n 2, 1) := by decide +kernel
theorem dX6_reserve_61 : decode cX6_reserve 61 = .ok (.invokevirtual 132, 3) := by decide +kernel
theorem dX6_reserve_64 : decode cX6_reserve 64 = .ok (.astore 7, 2) := by decide +kernel
theorem dX6_reserve_66 : decode cX6_reserve 66 = .ok (.aload 7, 2) := by decide +kernel
theorem dX6_reserve_68 : decode cX6_reserve 68 = .ok (.ifnonnull 10, 3) := by decide +kernel
theorem dX6_reserve_71 : decode cX6_reserve 71 = .ok (.aload_n 0, 1) := by decide +kernel
theorem dX6_reserve_72 : decode cX6_reserve 72 = .ok (.bipush (-2), 2) := by decide +kernel
theorem dX6_reserve_74 : decode cX6_reserve 74 = .ok (.invokevirtual 58, 3) := by decide +kernel
theorem dX6_reserve_77 : decode cX6_reserve 77 = .ok (.ireturn, 1) := by decide +kernel
theorem dX6_reserve_78 : decode cX6_reserve 78 = .ok (.aload_n 0, 1) := by decide +kernel
theorem dX6_reserve_79 : decode cX6_reserve 79 = .ok (.bipush 7, 2) := by decide +kernel
theorem dX6_reserve_81 : decode cX6_reserve 81 = .ok (.invokevirtual 65, 3) := by decide +kernel
theorem dX6_reserve_84 : decode cX6_reserve 84 = .ok (.aload 7, 2) := by decide +kernel
theorem dX6_reserve_86 : decode cX6_reserve 86 = .ok (.getfield 159, 3) := by decide +kernel
theorem dX6_reserve_89 : decode cX6_reserve 89 = .ok (.getfield 163, 3) := by decide +kernel
theorem dX6_reserve_92 : decode cX6_reserve 92 = .ok (.ifCond .ne 7, 3) := by decide +kernel
theorem dX6_reserve_95 : decode cX6_reserve 95 = .ok (.iconst 0, 1) := by decide +kernel
theorem dX6_reserve_96 : decode cX6_reserve 96 = .ok (.goto 4, 3) := by decide +kernel
theorem dX6_reserve_99 : decode cX6_reserve 99 = .ok (.iconst 1, 1) := by decide +kernel
theorem dX6_reserve_100 : decode cX6_reserve 100 = .ok (.istore 8, 2) := by decide +kernel
theorem dX6_reserve_102 : decode cX6_reserve 102 = .ok (.iload_n 3, 1) := by decide +kernel
theorem dX6_reserve_103 : decode cX6_reserve 103 = .ok (.ifCond .ne 17, 3) := by decide +kernel
theorem dX6_reserve_106 : decode cX6_reserve 106 = .ok (.aload 7, 2) := by decide +kernel
theorem dX6_reserve_108 : decode cX6_reserve 108 = .ok (.getfield 159, 3) := by decide +kernel
theorem dX6_reserve_111 : decode cX6_reserve 111 = .ok (.iconst 0, 1) := by decide +kernel
theorem dX6_reserve_112 : decode cX6_reserve 112 = .ok (.iconst 0, 1) := by decide +kernel
theorem dX6_reserve_113 : decode cX6_reserve 113 = .ok (.iconst 0, 1) := by decide +kernel
theorem dX6_reserve_114 : decode cX6_reserve 114 = .ok (.invokevirtual 168, 3) := by decide +kernel
theorem dX6_reserve_117 : decode cX6_reserve 117 = .ok (.goto 16, 3) := by decide +kernel
theorem dX6_reserve_120 : decode cX6_reserve 120 = .ok (.aload 7, 2) := by decide +kernel
theorem dX6_reserve_122 : decode cX6_reserve 122 = .ok (.getfield 159, 3) := by decide +kernel
theorem dX6_reserve_125 : decode cX6_reserve 125 = .ok (.iload_n 3, 1) := by decide +kernel
theorem dX6_reserve_126 : decode cX6_reserve 126 = .ok (.iload 4, 2) := by decide +kernel
theorem dX6_reserve_128 : decode cX6_reserve 128 = .ok (.iload 5, 2) := by decide +kernel
theorem dX6_reserve_130 : decode cX6_reserve 130 = .ok (.invokevirtual 168, 3) := by decide +kernel
theorem dX6_reserve_133 : decode cX6_reserve 133 = .ok (.aload_n 0, 1) := by decide +kernel
theorem dX6_reserve_134 : decode cX6_reserve 134 = .ok (.iload 8, 2) := by decide +kernel
theorem dX6_reserve_136 : decode cX6_reserve 136 = .ok (.invokevirtual 72, 3) := by decide +kernel
theorem dX6_reserve_139 : decode cX6_reserve 139 = .ok (.ireturn, 1) := by decide +kernel
theorem dX6_sniff_0 : decode cX6_sniff 0 = .ok (.iload_n 3, 1) := by decide +kernel
theorem dX6_sniff_1 : decode cX6_sniff 1 = .ok (.ifCond .eq 24, 3) := by decide +kernel
theorem dX6_sniff_4 : decode cX6_sniff 4 = .ok (.iload_n 3, 1) := by decide +kernel
theorem dX6_sniff_5 : decode cX6_sniff 5 = .ok (.bipush 8, 2) := by decide +kernel
theorem dX6_sniff_7 : decode cX6_sniff 7 = .ok (.bipush 64, 2) := by decide +kernel
theorem dX6_sniff_9 : decode cX6_sniff 9 = .ok (.invokestatic 156, 3) := by decide +kernel
theorem dX6_sniff_12 : decode cX6_sniff 12 = .ok (.ifCond .eq 17, 3) := by decide +kernel
theorem dX6_sniff_15 : decode cX6_sniff 15 = .ok (.iload 4, 2) := by decide +kernel
theorem dX6_sniff_17 : decode cX6_sniff 17 = .ok (.iconst 1, 1) := by decide +kernel
theorem dX6_sniff_18 : decode cX6_sniff 18 = .ok (.iconst 4, 1) := by decide +kernel
theorem dX6_sniff_19 : decode cX6_sniff 19 = .ok (.invokestatic 54, 3) := by decide +kernel
theorem dX6_sniff_22 : decode cX6_sniff 22 = .ok (.ifCond .eq 7, 3) := by decide +kernel
theorem dX6_sniff_25 : decode cX6_sniff 25 = .ok (.iconst 1, 1) := by decide +kernel
theorem dX6_sniff_26 : decode cX6_sniff 26 = .ok (.goto 4, 3) := by decide +kernel
theorem dX6_sniff_29 : decode cX6_sniff 29 = .ok (.iconst 0, 1) := by decide +kernel
theorem dX6_sniff_30 : decode cX6_sniff 30 = .ok (.istore 5, 2) := by decide +kernel
theorem dX6_sniff_32 : decode cX6_sniff 32 = .ok (.iload 5, 2) := by decide +kernel
theorem dX6_sniff_34 : decode cX6_sniff 34 = .ok (.ifCond .ne 9, 3) := by decide +kernel
theorem dX6_sniff_37 : decode cX6_sniff 37 = .ok (.aload_n 0, 1) := by decide +kernel
theorem dX6_sniff_38 : decode cX6_sniff 38 = .ok (.iconst (-1), 1) := by decide +kernel
theorem dX6_sniff_39 : decode cX6_sniff 39 = .ok (.invokevirtual 58, 3) := by decide +kernel
theorem dX6_sniff_42 : decode cX6_sniff 42 = .ok (.ireturn, 1) := by decide +kernel
theorem dX6_sniff_43 : decode cX6_sniff 43 = .ok (.aload_n 0, 1) := by decide +kernel
theorem dX6_sniff_44 : decode cX6_sniff 44 = .ok (.getfield 12, 3) := by decide +kernel
theorem dX6_sniff_47 : decode cX6_sniff 47 = .ok (.iload_n 1, 1) := by decide +kernel
theorem dX6_sniff_48 : decode cX6_sniff 48 = .ok (.iload_n 2, 1) := by decide +kernel
theorem dX6_sniff_49 : decode cX6_sniff 49 = .ok (.invokevirtual 132, 3) := by decide +kernel
theorem dX6_sniff_52 : decode cX6_sniff 52 = .ok (.astore 6, 2) := by decide +kernel
theorem dX6_sniff_54 : decode cX6_sniff 54 = .ok (.aload 6, 2) := by decide +kernel
theorem dX6_sniff_56 : decode cX6_sniff 56 = .ok (.ifnonnull 10, 3) := by decide +kernel
theorem dX6_sniff_59 : decode cX6_sniff 59 = .ok (.aload_n 0, 1) := by decide +kernel
theorem dX6_sniff_60 : decode cX6_sniff 60 = .ok (.bipush (-2), 2) := by decide +kernel
theorem dX6_sniff_62 : decode cX6_sniff 62 = .ok (.invokevirtual 58, 3) := by decide +kernel
theorem dX6_sniff_65 : decode cX6_sniff 65 = .ok (.ireturn, 1) := by decide +kernel
theorem dX6_sniff_66 : decode cX6_sniff 66 = .ok (.aload_n 0, 1) := by decide +kernel
theorem dX6_sniff_67 : decode cX6_sniff 67 = .ok (.bipush 10, 2) := by decide +kernel
theorem dX6_sniff_69 : decode cX6_sniff 69 = .ok (.invokevirtual 65, 3) := by decide +kernel
theorem dX6_sniff_72 : decode cX6_sniff 72 = .ok (.aload 6, 2) := by decide +kernel
theorem dX6_sniff_74 : decode cX6_sniff 74 = .ok (.getfield 172, 3) := by decide +kernel
theorem dX6_sniff_77 : decode cX6_sniff 77 = .ok (.istore 7, 2) := by decide +kernel
theorem dX6_sniff_79 : decode cX6_sniff 79 = .ok (.aload 6, 2) := by decide +kernel
theorem dX6_sniff_81 : decode cX6_sniff 81 = .ok (.iload_n 3, 1) := by decide +kernel
theorem dX6_sniff_82 : decode cX6_sniff 82 = .ok (.putfield 172, 3) := by decide +kernel
theorem dX6_sniff_85 : decode cX6_sniff 85 = .ok (.aload 6, 2) := by decide +kernel
theorem dX6_sniff_87 : decode cX6_sniff 87 = .ok (.iload_n 3, 1) := by decide +kernel
theorem dX6_sniff_88 : decode cX6_sniff 88 = .ok (.ifCond .ne 7, 3) := by decide +kernel
theorem dX6_sniff_91 : decode cX6_sniff 91 = .ok (.iconst 0, 1) := by decide +kernel
theorem dX6_sniff_92 : decode cX6_sniff 92 = .ok (.goto 5, 3) := by decide +kernel
theorem dX6_sniff_95 : decode cX6_sniff 95 = .ok (.iload 4, 2) := by decide +kernel
theorem dX6_sniff_97 : decode cX6_sniff 97 = .ok (.putfield 175, 3) := by decide +kernel
theorem dX6_sniff_100 : decode cX6_sniff 100 = .ok (.aload_n 0, 1) := by decide +kernel
theorem dX6_sniff_101 : decode cX6_sniff 101 = .ok (.iload 7, 2) := by decide +kernel
theorem dX6_sniff_103 : decode cX6_sniff 103 = .ok (.invokevirtual 72, 3) := by decide +kernel
theorem dX6_sniff_106 : decode cX6_sniff 106 = .ok (.ireturn, 1) := by decide +kernel
theorem dX6_weigh_0 : decode cX6_weigh 0 = .ok (.iload_n 3, 1) := by decide +kernel
theorem dX6_weigh_1 : decode cX6_weigh 1 = .ok (.iconst 1, 1) := by decide +kernel
theorem dX6_weigh_2 : decode cX6_weigh 2 = .ok (.iconst 4, 1) := by decide +kernel
theorem dX6_weigh_3 : decode cX6_weigh 3 = .ok (.invokestatic 54, 3) := by decide +kernel
theorem dX6_weigh_6 : decode cX6_weigh 6 = .ok (.ifCond .ne 9, 3) := by decide +kernel
theorem dX6_weigh_9 : decode cX6_weigh 9 = .ok (.aload_n 0, 1) := by decide +kernel
theorem dX6_weigh_10 : decode cX6_weigh 10 = .ok (.iconst (-1), 1) := by decide +kernel
theorem dX6_weigh_11 : decode cX6_weigh 11 = .ok (.invokevirtual 58, 3) := by decide +kernel
theorem dX6_weigh_14 : decode cX6_weigh 14 = .ok (.ireturn, 1) := by decide +kernel
theorem dX6_weigh_15 : decode cX6_weigh 15 = .ok (.aload_n 0, 1) := by decide +kernel
theorem dX6_weigh_16 : decode cX6_weigh 16 = .ok (.getfield 12, 3) := by decide +kernel
theorem dX6_weigh_19 : decode cX6_weigh 19 = .ok (.iload_n 1, 1) := by decide +kernel
theorem dX6_weigh_20 : decode cX6_weigh 20 = .ok (.iload_n 2, 1) := by decide +kernel
theorem dX6_weigh_21 : decode cX6_weigh 21 = .ok (.invokevirtual 132, 3) := by decide +kernel
theorem dX6_weigh_24 : decode cX6_weigh 24 = .ok (.astore 4, 2) := by decide +kernel
theorem dX6_weigh_26 : decode cX6_weigh 26 = .ok (.aload 4, 2) := by decide +kernel
theorem dX6_weigh_28 : decode cX6_weigh 28 = .ok (.ifnonnull 10, 3) := by decide +kernel
theorem dX6_weigh_31 : decode cX6_weigh 31 = .ok (.aload_n 0, 1) := by decide +kernel
theorem dX6_weigh_32 : decode cX6_weigh 32 = .ok (.bipush (-2), 2) := by decide +kernel
theorem dX6_weigh_34 : decode cX6_weigh 34 = .ok (.invokevirtual 58, 3) := by decide +kernel
theorem dX6_weigh_37 : decode cX6_weigh 37 = .ok (.ireturn, 1) := by decide +kernel
theorem dX6_weigh_38 : decode cX6_weigh 38 = .ok (.aload_n 0, 1) := by decide +kernel
theorem dX6_weigh_39 : decode cX6_weigh 39 = .ok (.bipush 12, 2) := by decide +kernel
theorem dX6_weigh_41 : decode cX6_weigh 41 = .ok (.invokevirtual 65, 3) := by decide +kernel
theorem dX6_weigh_44 : decode cX6_weigh 44 = .ok (.aload 4, 2) := by decide +kernel
theorem dX6_weigh_46 : decode cX6_weigh 46 = .ok (.getfield 178, 3) := by decide +kernel
theorem dX6_weigh_49 : decode cX6_weigh 49 = .ok (.istore 5, 2) := by decide +kernel
theorem dX6_weigh_51 : decode cX6_weigh 51 = .ok (.aload 4, 2) := by decide +kernel
theorem dX6_weigh_53 : decode cX6_weigh 53 = .ok (.iload_n 3, 1) := by decide +kernel
theorem dX6_weigh_54 : decode cX6_weigh 54 = .ok (.putfield 178, 3) := by decide +kernel
theorem dX6_weigh_57 : decode cX6_weigh 57 = .ok (.aload_n 0, 1) := by decide +kernel
theorem dX6_weigh_58 : decode cX6_weigh 58 = .ok (.iload 5, 2) := by decide +kernel
theorem dX6_weigh_60 : decode cX6_weigh 60 = .ok (.invokevirtual 72, 3) := by decide +kernel
theorem dX6_weigh_63 : decode cX6_weigh 63 = .ok (.ireturn, 1) := by decide +kernel
theorem dX6_cast_0 : decode cX6_cast 0 = .ok (.iload_n 2, 1) := by decide +kernel
theorem dX6_cast_1 : decode cX6_cast 1 = .ok (.iconst 0, 1) := by decide +kernel
theorem dX6_cast_2 : decode cX6_cast 2 = .ok (.sipush 255, 3) := by decide +kernel
theorem dX6_cast_5 : decode cX6_cast 5 = .ok (.invokestatic 54, 3) := by decide +kernel
theorem dX6_cast_8 : decode cX6_cast 8 = .ok (.ifCond .ne 9, 3) := by decide +kernel
theorem dX6_cast_11 : decode cX6_cast 11 = .ok (.aload_n 0, 1) := by decide +kernel
theorem dX6_cast_12 : decode cX6_cast 12 = .ok (.iconst (-1), 1) := by decide +kernel
theorem dX6_cast_13 : decode cX6_cast 13 = .ok (.invokevirtual 58, 3) := by decide +kernel
theorem dX6_cast_16 : decode cX6_cast 16 = .ok (.ireturn, 1) := by decide +kernel
theorem dX6_cast_17 : decode cX6_cast 17 = .ok (.aload_n 0, 1) := by decide +kernel
theorem dX6_cast_18 : decode cX6_cast 18 = .ok (.getfield 12, 3) := by decide +kernel
theorem dX6_cast_21 : decode cX6_cast 21 = .ok (.iload_n 1, 1) := by decide +kernel
theorem dX6_cast_22 : decode cX6_cast 22 = .ok (.invokevirtual 95, 3) := by decide +kernel
theorem dX6_cast_25 : decode cX6_cast 25 = .ok (.astore_n 3, 1) := by decide +kernel
theorem dX6_cast_26 : decode cX6_cast 26 = .ok (.aload_n 3, 1) := by decide +kernel
theorem dX6_cast_27 : decode cX6_cast 27 = .ok (.ifnonnull 10, 3) := by decide +kernel
theorem dX6_cast_30 : decode cX6_cast 30 = .ok (.aload_n 0, 1) := by decide +kernel
theorem dX6_cast_31 : decode cX6_cast 31 = .ok (.bipush (-2), 2) := by decide +kernel
theorem dX6_cast_33 : decode cX6_cast 33 = .ok (.invokevirtual 58, 3) := by decide +kernel
theorem dX6_cast_36 : decode cX6_cast 36 = .ok (.ireturn, 1) := by decide +kernel
theorem dX6_cast_37 : decode cX6_cast 37 = .ok (.aload_n 3, 1) := by decide +kernel
theorem dX6_cast_38 : decode cX6_cast 38 = .ok (.getfield 181, 3) := by decide +kernel
theorem dX6_cast_41 : decode cX6_cast 41 = .ok (.iconst 4, 1) := by decide +kernel
theorem dX6_cast_42 : decode cX6_cast 42 = .ok (.if_icmp .lt 10, 3) := by decide +kernel
theorem dX6_cast_45 : decode cX6_cast 45 = .ok (.aload_n 0, 1) := by decide +kernel
theorem dX6_cast_46 : decode cX6_cast 46 = .ok (.bipush (-5), 2) := by decide +kernel
theorem dX6_cast_48 : decode cX6_cast 48 = .ok (.invokevirtual 58, 3) := by decide +kernel
theorem dX6_cast_51 : decode cX6_cast 51 = .ok (.ireturn, 1) := by decide +kernel
theorem dX6_cast_52 : decode cX6_cast 52 = .ok (.aload_n 0, 1) := by decide +kernel
theorem dX6_cast_53 : decode cX6_cast 53 = .ok (.bipush 11, 2) := by decide +kernel
theorem dX6_cast_55 : decode cX6_cast 55 = .ok (.invokevirtual 65, 3) := by decide +kernel
theorem dX6_cast_58 : decode cX6_cast 58 = .ok (.aload_n 3, 1) := by decide +kernel
theorem dX6_cast_59 : decode cX6_cast 59 = .ok (.getfield 184, 3) := by decide +kernel
theorem dX6_cast_62 : decode cX6_cast 62 = .ok (.aload_n 3, 1) := by decide +kernel
theorem dX6_cast_63 : decode cX6_cast 63 = .ok (.getfield 181, 3) := by decide +kernel
theorem dX6_cast_66 : decode cX6_cast 66 = .ok (.iload_n 2, 1) := by decide +kernel
theorem dX6_cast_67 : decode cX6_cast 67 = .ok (.iastore, 1) := by decide +kernel
theorem dX6_cast_68 : decode cX6_cast 68 = .ok (.aload_n 3, 1) := by decide +kernel
theorem dX6_cast_69 : decode cX6_cast 69 = .ok (.dup, 1) := by decide +kernel
theorem dX6_cast_70 : decode cX6_cast 70 = .ok (.getfield 181, 3) := by decide +kernel
theorem dX6_cast_73 : decode cX6_cast 73 = .ok (.iconst 1, 1) := by decide +kernel
theorem dX6_cast_74 : decode cX6_cast 74 = .ok (.iadd, 1) := by decide +kernel
theorem dX6_cast_75 : decode cX6_cast 75 = .ok (.putfield 181, 3) := by decide +kernel
theorem dX6_cast_78 : decode cX6_cast 78 = .ok (.aload_n 0, 1) := by decide +kernel
theorem dX6_cast_79 : decode cX6_cast 79 = .ok (.aload_n 3, 1) := by decide +kernel
theorem dX6_cast_80 : decode cX6_cast 80 = .ok (.getfield 181, 3) := by decide +kernel
theorem dX6_cast_83 : decode cX6_cast 83 = .ok (.invokevirtual 72, 3) := by decide +kernel
theorem dX6_cast_86 : decode cX6_cast 86 = .ok (.ireturn, 1) := by decide +kernel
theorem dX6_adapt_0 : decode cX6_adapt 0 = .ok (.iload_n 2, 1) := by decide +kernel
theorem dX6_adapt_1 : decode cX6_adapt 1 = .ok (.iconst 1, 1) := by decide +kernel
theorem dX6_adapt_2 : decode cX6_adapt 2 = .ok (.bipush 99, 2) := by decide +kernel
theorem dX6_adapt_4 : decode cX6_adapt 4 = .ok (.invokestatic 54, 3) := by decide +kernel
theorem dX6_adapt_7 : decode cX6_adapt 7 = .ok (.ifCond .eq 13, 3) := by decide +kernel
theorem dX6_adapt_10 : decode cX6_adapt 10 = .ok (.iload_n 3, 1) := by decide +kernel
theorem dX6_adapt_11 : decode cX6_adapt 11 = .ok (.iconst 1, 1) := by decide +kernel
theorem dX6_adapt_12 : decode cX6_adapt 12 = .ok (.bipush 100, 2) := by decide +kernel
theorem dX6_adapt_14 : decode cX6_adapt 14 = .ok (.invokestatic 54, 3) := by decide +kernel
theorem dX6_adapt_17 : decode cX6_adapt 17 = .ok (.ifCond .ne 9, 3) := by decide +kernel
theorem dX6_adapt_20 : decode cX6_adapt 20 = .ok (.aload_n 0, 1) := by decide +kernel
theorem dX6_adapt_21 : decode cX6_adapt 21 = .ok (.iconst (-1), 1) := by decide +kernel
theorem dX6_adapt_22 : decode cX6_adapt 22 = .ok (.invokevirtual 58, 3) := by decide +kernel
theorem dX6_adapt_25 : decode cX6_adapt 25 = .ok (.ireturn, 1) := by decide +kernel
theorem dX6_adapt_26 : decode cX6_adapt 26 = .ok (.aload_n 0, 1) := by decide +kernel
theorem dX6_adapt_27 : decode cX6_adapt 27 = .ok (.getfield 12, 3) := by decide +kernel
theorem dX6_adapt_30 : decode cX6_adapt 30 = .ok (.iload_n 1, 1) := by decide +kernel
theorem dX6_adapt_31 : decode cX6_adapt 31 = .ok (.invokevirtual 95, 3) := by decide +kernel
theorem dX6_adapt_34 : decode cX6_adapt 34 = .ok (.astore 4, 2) := by decide +kernel
theorem dX6_adapt_36 : decode cX6_adapt 36 = .ok (.aload 4, 2) := by decide +kernel
theorem dX6_adapt_38 : decode cX6_adapt 38 = .ok (.ifnonnull 10, 3) := by decide +kernel
theorem dX6_adapt_41 : decode cX6_adapt 41 = .ok (.aload_n 0, 1) := by decide +kernel
theorem dX6_adapt_42 : decode cX6_adapt 42 = .ok (.bipush (-2), 2) := by decide +kernel
theorem dX6_adapt_44 : decode cX6_adapt 44 = .ok (.invokevirtual 58, 3) := by decide +kernel
theorem dX6_adapt_47 : decode cX6_adapt 47 = .ok (.ireturn, 1) := by decide +kernel
theorem dX6_adapt_48 : decode cX6_adapt 48 = .ok (.aload 4, 2) := by decide +kernel
theorem dX6_adapt_50 : decode cX6_adapt 50 = .ok (.iload_n 2, 1) := by decide +kernel
theorem dX6_adapt_51 : decode cX6_adapt 51 = .ok (.invokevirtual 203, 3) := by decide +kernel
theorem dX6_adapt_54 : decode cX6_adapt 54 = .ok (.istore 5, 2) := by decide +kernel
theorem dX6_adapt_56 : decode cX6_adapt 56 = .ok (.aload 4, 2) := by decide +kernel
theorem dX6_adapt_58 : decode cX6_adapt 58 = .ok (.getfield 190, 3) := by decide +kernel
theorem dX6_adapt_61 : decode cX6_adapt 61 = .ok (.invokevirtual 194, 3) := by decide +kernel
theorem dX6_adapt_64 : decode cX6_adapt 64 = .ok (.ifCond .ne 8, 3) := by decide +kernel
theorem dX6_adapt_67 : decode cX6_adapt 67 = .ok (.iload 5, 2) := by decide +kernel
theorem dX6_adapt_69 : decode cX6_adapt 69 = .ok (.ifCond .ne 10, 3) := by decide +kernel
theorem dX6_adapt_72 : decode cX6_adapt 72 = .ok (.aload_n 0, 1) := by decide +kernel
theorem dX6_adapt_73 : decode cX6_adapt 73 = .ok (.bipush (-4), 2) := by decide +kernel
theorem dX6_adapt_75 : decode cX6_adapt 75 = .ok (.invokevirtual 58, 3) := by decide +kernel
theorem dX6_adapt_78 : decode cX6_adapt 78 = .ok (.ireturn, 1) := by decide +kernel
theorem dX6_adapt_79 : decode cX6_adapt 79 = .ok (.aload 4, 2) := by decide +kernel
theorem dX6_adapt_81 : decode cX6_adapt 81 = .ok (.getfield 190, 3) := by decide +kernel
theorem dX6_adapt_84 : decode cX6_adapt 84 = .ok (.getfield 206, 3) := by decide +kernel
theorem dX6_adapt_87 : decode cX6_adapt 87 = .ok (.iload 5, 2) := by decide +kernel
theorem dX6_adapt_89 : decode cX6_adapt 89 = .ok (.iconst (-1), 1) := by decide +kernel
theorem dX6_adapt_90 : decode cX6_adapt 90 = .ok (.ixor, 1) := by decide +kernel
theorem dX6_adapt_91 : decode cX6_adapt 91 = .ok (.iand, 1) := by decide +kernel
theorem dX6_adapt_92 : decode cX6_adapt 92 = .ok (.istore 6, 2) := by decide +kernel
theorem dX6_adapt_94 : decode cX6_adapt 94 = .ok (.aload_n 0, 1) := by decide +kernel
theorem dX6_adapt_95 : decode cX6_adapt 95 = .ok (.aload 4, 2) := by decide +kernel
theorem dX6_adapt_97 : decode cX6_adapt 97 = .ok (.iload 6, 2) := by decide +kernel
theorem dX6_adapt_99 : decode cX6_adapt 99 = .ok (.invokestatic 187, 3) := by decide +kernel
theorem dX6_adapt_102 : decode cX6_adapt 102 = .ok (.ifCond .eq 8, 3) := by decide +kernel
theorem dX6_adapt_105 : decode cX6_adapt 105 = .ok (.iload 6, 2) := by decide +kernel
theorem dX6_adapt_107 : decode cX6_adapt 107 = .ok (.goto 8, 3) := by decide +kernel
theorem dX6_adapt_110 : decode cX6_adapt 110 = .ok (.aload 4, 2) := by decide +kernel
theorem dX6_adapt_112 : decode cX6_adapt 112 = .ok (.invokevirtual 209, 3) := by decide +kernel
theorem dX6_adapt_115 : decode cX6_adapt 115 = .ok (.iload_n 3, 1) := by decide +kernel
theorem dX6_adapt_116 : decode cX6_adapt 116 = .ok (.invokevirtual 199, 3) := by decide +kernel
theorem dX6_adapt_119 : decode cX6_adapt 119 = .ok (.ireturn, 1) := by decide +kernel
theorem dX6_run_0 : decode cX6_run 0 = .ok (.iload_n 1, 1) := by decide +kernel
theorem dX6_run_1 : decode cX6_run 1 = .ok (.iconst 1, 1) := by decide +kernel
theorem dX6_run_2 : decode cX6_run 2 = .ok (.sipush 200, 3) := by decide +kernel
theorem dX6_run_5 : decode cX6_run 5 = .ok (.invokestatic 54, 3) := by decide +kernel
theorem dX6_run_8 : decode cX6_run 8 = .ok (.ifCond .ne 9, 3) := by decide +kernel
theorem dX6_run_11 : decode cX6_run 11 = .ok (.aload_n 0, 1) := by decide +kernel
theorem dX6_run_12 : decode cX6_run 12 = .ok (.iconst (-1), 1) := by decide +kernel
theorem dX6_run_13 : decode cX6_run 13 = .ok (.invokevirtual 58, 3) := by decide +kernel
theorem dX6_run_16 : decode cX6_run 16 = .ok (.ireturn, 1) := by decide +kernel
theorem dX6_run_17 : decode cX6_run 17 = .ok (.aload_n 0, 1) := by decide +kernel
theorem dX6_run_18 : decode cX6_run 18 = .ok (.iload_n 1, 1) := by decide +kernel
theorem dX6_run_19 : decode cX6_run 19 = .ok (.invokevirtual 213, 3) := by decide +kernel
theorem dX6_run_22 : decode cX6_run 22 = .ok (.ifCond .ne 10, 3) := by decide +kernel
theorem dX6_run_25 : decode cX6_run 25 = .ok (.aload_n 0, 1) := by decide +kernel
theorem dX6_run_26 : decode cX6_run 26 = .ok (.bipush (-4), 2) := by decide +kernel
theorem dX6_run_28 : decode cX6_run 28 = .ok (.invokevirtual 58, 3) := by decide +kernel
theorem dX6_run_31 : decode cX6_run 31 = .ok (.ireturn, 1) := by decide +kernel
theorem dX6_run_32 : decode cX6_run 32 = .ok (.aload_n 0, 1) := by decide +kernel
theorem dX6_run_33 : decode cX6_run 33 = .ok (.bipush 9, 2) := by decide +kernel
theorem dX6_run_35 : decode cX6_run 35 = .ok (.invokevirtual 65, 3) := by decide +kernel
theorem dX6_run_38 : decode cX6_run 38 = .ok (.aload_n 0, 1) := by decide +kernel
theorem dX6_run_39 : decode cX6_run 39 = .ok (.aload_n 0, 1) := by decide +kernel
theorem dX6_run_40 : decode cX6_run 40 = .ok (.getfield 12, 3) := by decide +kernel
theorem dX6_run_43 : decode cX6_run 43 = .ok (.iload_n 1, 1) := by decide +kernel
theorem dX6_run_44 : decode cX6_run 44 = .ok (.invokevirtual 216, 3) := by decide +kernel
theorem dX6_run_47 : decode cX6_run 47 = .ok (.invokevirtual 72, 3) := by decide +kernel
theorem dX6_run_50 : decode cX6_run 50 = .ok (.ireturn, 1) := by decide +kernel
theorem dX6_undo_0 : decode cX6_undo 0 = .ok (.aload_n 0, 1) := by decide +kernel
theorem dX6_undo_1 : decode cX6_undo 1 = .ok (.getfield 38, 3) := by decide +kernel
theorem dX6_undo_4 : decode cX6_undo 4 = .ok (.ifCond .ne 10, 3) := by decide +kernel
theorem dX6_undo_7 : decode cX6_undo 7 = .ok (.aload_n 0, 1) := by decide +kernel
theorem dX6_undo_8 : decode cX6_undo 8 = .ok (.bipush (-4), 2) := by decide +kernel
theorem dX6_undo_10 : decode cX6_undo 10 = .ok (.invokevirtual 58, 3) := by decide +kernel
theorem dX6_undo_13 : decode cX6_undo 13 = .ok (.ireturn, 1) := by decide +kernel
theorem dX6_undo_14 : decode cX6_undo 14 = .ok (.aload_n 0, 1) := by decide +kernel
theorem dX6_undo_15 : decode cX6_undo 15 = .ok (.aload_n 0, 1) := by decide +kernel
theorem dX6_undo_16 : decode cX6_undo 16 = .ok (.getfield 34, 3) := by decide +kernel
theorem dX6_undo_19 : decode cX6_undo 19 = .ok (.bipush 8, 2) := by decide +kernel
theorem dX6_undo_21 : decode cX6_undo 21 = .ok (.iadd, 1) := by decide +kernel
theorem dX6_undo_22 : decode cX6_undo 22 = .ok (.iconst 1, 1) := by decide +kernel
theorem dX6_undo_23 : decode cX6_undo 23 = .ok (.isub, 1) := by decide +kernel
theorem dX6_undo_24 : decode cX6_undo 24 = .ok (.bipush 8, 2) := by decide +kernel
theorem dX6_undo_26 : decode cX6_undo 26 = .ok (.irem, 1) := by decide +kernel
theorem dX6_undo_27 : decode cX6_undo 27 = .ok (.putfield 34, 3) := by decide +kernel
theorem dX6_undo_30 : decode cX6_undo 30 = .ok (.aload_n 0, 1) := by decide +kernel
theorem dX6_undo_31 : decode cX6_undo 31 = .ok (.dup, 1) := by decide +kernel
theorem dX6_undo_32 : decode cX6_undo 32 = .ok (.getfield 38, 3) := by decide +kernel
theorem dX6_undo_35 : decode cX6_undo 35 = .ok (.iconst 1, 1) := by decide +kernel
theorem dX6_undo_36 : decode cX6_undo 36 = .ok (.isub, 1) := by decide +kernel
theorem dX6_undo_37 : decode cX6_undo 37 = .ok (.putfield 38, 3) := by decide +kernel
theorem dX6_undo_40 : decode cX6_undo 40 = .ok (.aload_n 0, 1) := by decide +kernel
theorem dX6_undo_41 : decode cX6_undo 41 = .ok (.getfield 12, 3) := by decide +kernel
theorem dX6_undo_44 : decode cX6_undo 44 = .ok (.aload_n 0, 1) := by decide +kernel
theorem dX6_undo_45 : decode cX6_undo 45 = .ok (.getfield 27, 3) := by decide +kernel
theorem dX6_undo_48 : decode cX6_undo 48 = .ok (.aload_n 0, 1) := by decide +kernel
theorem dX6_undo_49 : decode cX6_undo 49 = .ok (.getfield 34, 3) := by decide +kernel
theorem dX6_undo_52 : decode cX6_undo 52 = .ok (.aaload, 1) := by decide +kernel
theorem dX6_undo_53 : decode cX6_undo 53 = .ok (.invokevirtual 219, 3) := by decide +kernel
theorem dX6_undo_56 : decode cX6_undo 56 = .ok (.aload_n 0, 1) := by decide +kernel
theorem dX6_undo_57 : decode cX6_undo 57 = .ok (.aload_n 0, 1) := by decide +kernel
theorem dX6_undo_58 : decode cX6_undo 58 = .ok (.getfield 30, 3) := by decide +kernel
theorem dX6_undo_61 : decode cX6_undo 61 = .ok (.aload_n 0, 1) := by decide +kernel
theorem dX6_undo_62 : decode cX6_undo 62 = .ok (.getfield 34, 3) := by decide +kernel
theorem dX6_undo_65 : decode cX6_undo 65 = .ok (.iaload, 1) := by decide +kernel
theorem dX6_undo_66 : decode cX6_undo 66 = .ok (.invokevirtual 72, 3) := by decide +kernel
theorem dX6_undo_69 : decode cX6_undo 69 = .ok (.ireturn, 1) := by decide +kernel
theorem dX6_image_0 : decode cX6_image 0 = .ok (.iload_n 1, 1) := by decide +kernel
theorem dX6_image_1 : decode cX6_image 1 = .ok (.iconst 0, 1) := by decide +kernel
theorem dX6_image_2 : decode cX6_image 2 = .ok (.iconst 1, 1) := by decide +kernel
theorem dX6_image_3 : decode cX6_image 3 = .ok (.invokestatic 54, 3) := by decide +kernel
theorem dX6_image_6 : decode cX6_image 6 = .ok (.ifCond .ne 9, 3) := by decide +kernel
theorem dX6_image_9 : decode cX6_image 9 = .ok (.aload_n 0, 1) := by decide +kernel
theorem dX6_image_10 : decode cX6_image 10 = .ok (.iconst (-1), 1) := by decide +kernel
theorem dX6_image_11 : decode cX6_image 11 = .ok (.invokevirtual 58, 3) := by decide +kernel
theorem dX6_image_14 : decode cX6_image 14 = .ok (.ireturn, 1) := by decide +kernel
theorem dX6_image_15 : decode cX6_image 15 = .ok (.aload_n 0, 1) := by decide +kernel
theorem dX6_image_16 : decode cX6_image 16 = .ok (.getfield 19, 3) := by decide +kernel
theorem dX6_image_19 : decode cX6_image 19 = .ok (.iload_n 1, 1) := by decide +kernel
theorem dX6_image_20 : decode cX6_image 20 = .ok (.aaload, 1) := by decide +kernel
theorem dX6_image_21 : decode cX6_image 21 = .ok (.aload_n 0, 1) := by decide +kernel
theorem dX6_image_22 : decode cX6_image 22 = .ok (.getfield 12, 3) := by decide +kernel
theorem dX6_image_25 : decode cX6_image 25 = .ok (.invokevirtual 219, 3) := by decide +kernel
theorem dX6_image_28 : decode cX6_image 28 = .ok (.aload_n 0, 1) := by decide +kernel
theorem dX6_image_29 : decode cX6_image 29 = .ok (.getfield 23, 3) := by decide +kernel
theorem dX6_image_32 : decode cX6_image 32 = .ok (.iload_n 1, 1) := by decide +kernel
theorem dX6_image_33 : decode cX6_image 33 = .ok (.iconst 1, 1) := by decide +kernel
theorem dX6_image_34 : decode cX6_image 34 = .ok (.bastore, 1) := by decide +kernel
theorem dX6_image_35 : decode cX6_image 35 = .ok (.aload_n 0, 1) := by decide +kernel
theorem dX6_image_36 : decode cX6_image 36 = .ok (.aload_n 0, 1) := by decide +kernel
theorem dX6_image_37 : decode cX6_image 37 = .ok (.getfield 12, 3) := by decide +kernel
theorem dX6_image_40 : decode cX6_image 40 = .ok (.getfield 102, 3) := by decide +kernel
theorem dX6_image_43 : decode cX6_image 43 = .ok (.invokevirtual 72, 3) := by decide +kernel
theorem dX6_image_46 : decode cX6_image 46 = .ok (.ireturn, 1) := by decide +kernel
theorem dX6_back_0 : decode cX6_back 0 = .ok (.iload_n 1, 1) := by decide +kernel
theorem dX6_back_1 : decode cX6_back 1 = .ok (.iconst 0, 1) := by decide +kernel
theorem dX6_back_2 : decode cX6_back 2 = .ok (.iconst 1, 1) := by decide +kernel
theorem dX6_back_3 : decode cX6_back 3 = .ok (.invokestatic 54, 3) := by decide +kernel
theorem dX6_back_6 : decode cX6_back 6 = .ok (.ifCond .ne 9, 3) := by decide +kernel
theorem dX6_back_9 : decode cX6_back 9 = .ok (.aload_n 0, 1) := by decide +kernel
theorem dX6_back_10 : decode cX6_back 10 = .ok (.iconst (-1), 1) := by decide +kernel
theorem dX6_back_11 : decode cX6_back 11 = .ok (.invokevirtual 58, 3) := by decide +kernel
theorem dX6_back_14 : decode cX6_back 14 = .ok (.ireturn, 1) := by decide +kernel
theorem dX6_back_15 : decode cX6_back 15 = .ok (.aload_n 0, 1) := by decide +kernel
theorem dX6_back_16 : decode cX6_back 16 = .ok (.getfield 23, 3) := by decide +kernel
theorem dX6_back_19 : decode cX6_back 19 = .ok (.iload_n 1, 1) := by decide +kernel
theorem dX6_back_20 : decode cX6_back 20 = .ok (.baload, 1) := by decide +kernel
theorem dX6_back_21 : decode cX6_back 21 = .ok (.ifCond .ne 10, 3) := by decide +kernel
theorem dX6_back_24 : decode cX6_back 24 = .ok (.aload_n 0, 1) := by decide +kernel
theorem dX6_back_25 : decode cX6_back 25 = .ok (.bipush (-4), 2) := by decide +kernel
theorem dX6_back_27 : decode cX6_back 27 = .ok (.invokevirtual 58, 3) := by decide +kernel
theorem dX6_back_30 : decode cX6_back 30 = .ok (.ireturn, 1) := by decide +kernel
theorem dX6_back_31 : decode cX6_back 31 = .ok (.aload_n 0, 1) := by decide +kernel
theorem dX6_back_32 : decode cX6_back 32 = .ok (.getfield 12, 3) := by decide +kernel
theorem dX6_back_35 : decode cX6_back 35 = .ok (.aload_n 0, 1) := by decide +kernel
theorem dX6_back_36 : decode cX6_back 36 = .ok (.getfield 19, 3) := by decide +kernel
theorem dX6_back_39 : decode cX6_back 39 = .ok (.iload_n 1, 1) := by decide +kernel
theorem dX6_back_40 : decode cX6_back 40 = .ok (.aaload, 1) := by decide +kernel
theorem dX6_back_41 : decode cX6_back 41 = .ok (.invokevirtual 219, 3) := by decide +kernel
theorem dX6_back_44 : decode cX6_back 44 = .ok (.aload_n 0, 1) := by decide +kernel
theorem dX6_back_45 : decode cX6_back 45 = .ok (.iconst 0, 1) := by decide +kernel
theorem dX6_back_46 : decode cX6_back 46 = .ok (.putfield 38, 3) := by decide +kernel
theorem dX6_back_49 : decode cX6_back 49 = .ok (.aload_n 0, 1) := by decide +kernel
theorem dX6_back_50 : decode cX6_back 50 = .ok (.aload_n 0, 1) := by decide +kernel
theorem dX6_back_51 : decode cX6_back 51 = .ok (.getfield 12, 3) := by decide +kernel
theorem dX6_back_54 : decode cX6_back 54 = .ok (.getfield 102, 3) := by decide +kernel
theorem dX6_back_57 : decode cX6_back 57 = .ok (.invokevirtual 72, 3) := by decide +kernel
theorem dX6_back_60 : decode cX6_back 60 = .ok (.ireturn, 1) := by decide +kernel
theorem dX6_hop_0 : decode cX6_hop 0 = .ok (.aload_n 0, 1) := by decide +kernel
theorem dX6_hop_1 : decode cX6_hop 1 = .ok (.iload_n 1, 1) := by decide +kernel
theorem dX6_hop_2 : decode cX6_hop 2 = .ok (.iload_n 2, 1) := by decide +kernel
theorem dX6_hop_3 : decode cX6_hop 3 = .ok (.invokevirtual 228, 3) := by decide +kernel
theorem dX6_hop_6 : decode cX6_hop 6 = .ok (.astore 4, 2) := by decide +kernel
theorem dX6_hop_8 : decode cX6_hop 8 = .ok (.aload 4, 2) := by decide +kernel
theorem dX6_hop_10 : decode cX6_hop 10 = .ok (.ifnull 13, 3) := by decide +kernel
theorem dX6_hop_13 : decode cX6_hop 13 = .ok (.iload_n 3, 1) := by decide +kernel
theorem dX6_hop_14 : decode cX6_hop 14 = .ok (.iconst 0, 1) := by decide +kernel
theorem dX6_hop_15 : decode cX6_hop 15 = .ok (.ldc 232, 2) := by decide +kernel
theorem dX6_hop_17 : decode cX6_hop 17 = .ok (.invokestatic 54, 3) := by decide +kernel
theorem dX6_hop_20 : decode cX6_hop 20 = .ok (.ifCond .ne 5, 3) := by decide +kernel
theorem dX6_hop_23 : decode cX6_hop 23 = .ok (.iconst (-1), 1) := by decide +kernel
theorem dX6_hop_24 : decode cX6_hop 24 = .ok (.ireturn, 1) := by decide +kernel
theorem dX6_hop_25 : decode cX6_hop 25 = .ok (.aload_n 0, 1) := by decide +kernel
theorem dX6_hop_26 : decode cX6_hop 26 = .ok (.getfield 12, 3) := by decide +kernel
theorem dX6_hop_29 : decode cX6_hop 29 = .ok (.iload_n 1, 1) := by decide +kernel
theorem dX6_hop_30 : decode cX6_hop 30 = .ok (.aload 4, 2) := by decide +kernel
theorem dX6_hop_32 : decode cX6_hop 32 = .ok (.getfield 206, 3) := by decide +kernel
theorem dX6_hop_35 : decode cX6_hop 35 = .ok (.iload_n 3, 1) := by decide +kernel
theorem dX6_hop_36 : decode cX6_hop 36 = .ok (.invokevirtual 233, 3) := by decide +kernel
theorem dX6_hop_39 : decode cX6_hop 39 = .ok (.ireturn, 1) := by decide +kernel
theorem dX6_alike_0 : decode cX6_alike 0 = .ok (.aload_n 0, 1) := by decide +kernel
theorem dX6_alike_1 : decode cX6_alike 1 = .ok (.getfield 12, 3) := by decide +kernel
theorem dX6_alike_4 : decode cX6_alike 4 = .ok (.iload_n 1, 1) := by decide +kernel
theorem dX6_alike_5 : decode cX6_alike 5 = .ok (.iload_n 2, 1) := by decide +kernel
theorem dX6_alike_6 : decode cX6_alike 6 = .ok (.invokevirtual 132, 3) := by decide +kernel
theorem dX6_alike_9 : decode cX6_alike 9 = .ok (.astore 4, 2) := by decide +kernel
theorem dX6_alike_11 : decode cX6_alike 11 = .ok (.aload 4, 2) := by decide +kernel
theorem dX6_alike_13 : decode cX6_alike 13 = .ok (.ifnonnull 5, 3) := by decide +kernel
theorem dX6_alike_16 : decode cX6_alike 16 = .ok (.iconst (-1), 1) := by decide +kernel
theorem dX6_alike_17 : decode cX6_alike 17 = .ok (.ireturn, 1) := by decide +kernel
theorem dX6_alike_18 : decode cX6_alike 18 = .ok (.aload_n 0, 1) := by decide +kernel
theorem dX6_alike_19 : decode cX6_alike 19 = .ok (.getfield 12, 3) := by decide +kernel
theorem dX6_alike_22 : decode cX6_alike 22 = .ok (.getfield 80, 3) := by decide +kernel
theorem dX6_alike_25 : decode cX6_alike 25 = .ok (.iload_n 1, 1) := by decide +kernel
theorem dX6_alike_26 : decode cX6_alike 26 = .ok (.aaload, 1) := by decide +kernel
theorem dX6_alike_27 : decode cX6_alike 27 = .ok (.getfield 190, 3) := by decide +kernel
theorem dX6_alike_30 : decode cX6_alike 30 = .ok (.astore 5, 2) := by decide +kernel
theorem dX6_alike_32 : decode cX6_alike 32 = .ok (.iload_n 3, 1) := by decide +kernel
theorem dX6_alike_33 : decode cX6_alike 33 = .ok (.tableswitch 75 0 2 #[27, 41, 66], 27) := by decide +kernel
theorem dX6_alike_60 : decode cX6_alike 60 = .ok (.aload 4, 2) := by decide +kernel
theorem dX6_alike_62 : decode cX6_alike 62 = .ok (.getfield 237, 3) := by decide +kernel
theorem dX6_alike_65 : decode cX6_alike 65 = .ok (.aload 5, 2) := by decide +kernel
theorem dX6_alike_67 : decode cX6_alike 67 = .ok (.invokevirtual 238, 3) := by decide +kernel
theorem dX6_alike_70 : decode cX6_alike 70 = .ok (.invokestatic 242, 3) := by decide +kernel
theorem dX6_alike_73 : decode cX6_alike 73 = .ok (.ireturn, 1) := by decide +kernel
theorem dX6_alike_74 : decode cX6_alike 74 = .ok (.aload 4, 2) := by decide +kernel
theorem dX6_alike_76 : decode cX6_alike 76 = .ok (.getfield 237, 3) := by decide +kernel
theorem dX6_alike_79 : decode cX6_alike 79 = .ok (.getfield 206, 3) := by decide +kernel
theorem dX6_alike_82 : decode cX6_alike 82 = .ok (.aload 5, 2) := by decide +kernel
theorem dX6_alike_84 : decode cX6_alike 84 = .ok (.getfield 206, 3) := by decide +kernel
theorem dX6_alike_87 : decode cX6_alike 87 = .ok (.if_icmp .ne 7, 3) := by decide +kernel
theorem dX6_alike_90 : decode cX6_alike 90 = .ok (.iconst 1, 1) := by decide +kernel
theorem dX6_alike_91 : decode cX6_alike 91 = .ok (.goto 4, 3) := by decide +kernel
theorem dX6_alike_94 : decode cX6_alike 94 = .ok (.iconst 0, 1) := by decide +kernel
theorem dX6_alike_95 : decode cX6_alike 95 = .ok (.invokestatic 242, 3) := by decide +kernel
theorem dX6_alike_98 : decode cX6_alike 98 = .ok (.ireturn, 1) := by decide +kernel
theorem dX6_alike_99 : decode cX6_alike 99 = .ok (.aload 4, 2) := by decide +kernel
theorem dX6_alike_101 : decode cX6_alike 101 = .ok (.getfield 246, 3) := by decide +kernel
theorem dX6_alike_104 : decode cX6_alike 104 = .ok (.invokestatic 242, 3) := by decide +kernel
theorem dX6_alike_107 : decode cX6_alike 107 = .ok (.ireturn, 1) := by decide +kernel
theorem dX6_alike_108 : decode cX6_alike 108 = .ok (.iconst (-1), 1) := by decide +kernel
theorem dX6_alike_109 : decode cX6_alike 109 = .ok (.ireturn, 1) := by decide +kernel
theorem dX6_mapOf_0 : decode cX6_mapOf 0 = .ok (.aload_n 0, 1) := by decide +kernel
theorem dX6_mapOf_1 : decode cX6_mapOf 1 = .ok (.iload_n 1, 1) := by decide +kernel
theorem dX6_mapOf_2 : decode cX6_mapOf 2 = .ok (.iload_n 2, 1) := by decide +kernel
theorem dX6_mapOf_3 : decode cX6_mapOf 3 = .ok (.invokevirtual 228, 3) := by decide +kernel
theorem dX6_mapOf_6 : decode cX6_mapOf 6 = .ok (.astore 4, 2) := by decide +kernel
theorem dX6_mapOf_8 : decode cX6_mapOf 8 = .ok (.aload 4, 2) := by decide +kernel
theorem dX6_mapOf_10 : decode cX6_mapOf 10 = .ok (.ifnonnull 5, 3) := by decide +kernel
theorem dX6_mapOf_13 : decode cX6_mapOf 13 = .ok (.iconst (-1), 1) := by decide +kernel
theorem dX6_mapOf_14 : decode cX6_mapOf 14 = .ok (.ireturn, 1) := by decide +kernel
theorem dX6_mapOf_15 : decode cX6_mapOf 15 = .ok (.iload_n 3, 1) := by decide +kernel
theorem dX6_mapOf_16 : decode cX6_mapOf 16 = .ok (.tableswitch 72 0 3 #[32, 38, 44, 50], 32) := by decide +kernel
theorem dX6_mapOf_48 : decode cX6_mapOf 48 = .ok (.aload 4, 2) := by decide +kernel
theorem dX6_mapOf_50 : decode cX6_mapOf 50 = .ok (.getfield 206, 3) := by decide +kernel
theorem dX6_mapOf_53 : decode cX6_mapOf 53 = .ok (.ireturn, 1) := by decide +kernel
theorem dX6_mapOf_54 : decode cX6_mapOf 54 = .ok (.aload 4, 2) := by decide +kernel
theorem dX6_mapOf_56 : decode cX6_mapOf 56 = .ok (.getfield 250, 3) := by decide +kernel
theorem dX6_mapOf_59 : decode cX6_mapOf 59 = .ok (.ireturn, 1) := by decide +kernel
theorem dX6_mapOf_60 : decode cX6_mapOf 60 = .ok (.aload 4, 2) := by decide +kernel
theorem dX6_mapOf_62 : decode cX6_mapOf 62 = .ok (.getfield 253, 3) := by decide +kernel
theorem dX6_mapOf_65 : decode cX6_mapOf 65 = .ok (.ireturn, 1) := by decide +kernel
theorem dX6_mapOf_66 : decode cX6_mapOf 66 = .ok (.iload_n 2, 1) := by decide +kernel
theorem dX6_mapOf_67 : decode cX6_mapOf 67 = .ok (.iconst (-1), 1) := by decide +kernel
theorem dX6_mapOf_68 : decode cX6_mapOf 68 = .ok (.if_icmp .ne 18, 3) := by decide +kernel
theorem dX6_mapOf_71 : decode cX6_mapOf 71 = .ok (.aload_n 0, 1) := by decide +kernel
theorem dX6_mapOf_72 : decode cX6_mapOf 72 = .ok (.getfield 12, 3) := by decide +kernel
theorem dX6_mapOf_75 : decode cX6_mapOf 75 = .ok (.getfield 80, 3) := by decide +kernel
theorem dX6_mapOf_78 : decode cX6_mapOf 78 = .ok (.iload_n 1, 1) := by decide +kernel
theorem dX6_mapOf_79 : decode cX6_mapOf 79 = .ok (.aaload, 1) := by decide +kernel
theorem dX6_mapOf_80 : decode cX6_mapOf 80 = .ok (.getfield 256, 3) := by decide +kernel
theorem dX6_mapOf_83 : decode cX6_mapOf 83 = .ok (.goto 4, 3) := by decide +kernel
theorem dX6_mapOf_86 : decode cX6_mapOf 86 = .ok (.iconst (-1), 1) := by decide +kernel
theorem dX6_mapOf_87 : decode cX6_mapOf 87 = .ok (.ireturn, 1) := by decide +kernel
theorem dX6_mapOf_88 : decode cX6_mapOf 88 = .ok (.iconst (-1), 1) := by decide +kernel
theorem dX6_mapOf_89 : decode cX6_mapOf 89 = .ok (.ireturn, 1) := by decide +kernel
theorem dX6_meets_0 : decode cX6_meets 0 = .ok (.aload_n 0, 1) := by decide +kernel
theorem dX6_meets_1 : decode cX6_meets 1 = .ok (.getfield 12, 3) := by decide +kernel
theorem dX6_meets_4 : decode cX6_meets 4 = .ok (.invokevirtual 259, 3) := by decide +kernel
theorem dX6_meets_7 : decode cX6_meets 7 = .ok (.ifCond .ne 5, 3) := by decide +kernel
theorem dX6_meets_10 : decode cX6_meets 10 = .ok (.iconst (-1), 1) := by decide +kernel
theorem dX6_meets_11 : decode cX6_meets 11 = .ok (.ireturn, 1) := by decide +kernel
theorem dX6_meets_12 : decode cX6_meets 12 = .ok (.iconst 0, 1) := by decide +kernel
theorem dX6_meets_13 : decode cX6_meets 13 = .ok (.istore_n 1, 1) := by decide +kernel
theorem dX6_meets_14 : decode cX6_meets 14 = .ok (.iload_n 1, 1) := by decide +kernel
theorem dX6_meets_15 : decode cX6_meets 15 = .ok (.sipush 4000, 3) := by decide +kernel
theorem dX6_meets_18 : decode cX6_meets 18 = .ok (.if_icmp .ge 38, 3) := by decide +kernel
theorem dX6_meets_21 : decode cX6_meets 21 = .ok (.aload_n 0, 1) := by decide +kernel
theorem dX6_meets_22 : decode cX6_meets 22 = .ok (.getfield 12, 3) := by decide +kernel
theorem dX6_meets_25 : decode cX6_meets 25 = .ok (.aload_n 0, 1) := by decide +kernel
theorem dX6_meets_26 : decode cX6_meets 26 = .ok (.getfield 12, 3) := by decide +kernel
theorem dX6_meets_29 : decode cX6_meets 29 = .ok (.getfield 102, 3) := by decide +kernel
theorem dX6_meets_32 : decode cX6_meets 32 = .ok (.iload_n 1, 1) := by decide +kernel
theorem dX6_meets_33 : decode cX6_meets 33 = .ok (.iadd, 1) := by decide +kernel
theorem dX6_meets_34 : decode cX6_meets 34 = .ok (.invokevirtual 262, 3) := by decide +kernel
theorem dX6_meets_37 : decode cX6_meets 37 = .ok (.ifCond .eq 13, 3) := by decide +kernel
theorem dX6_meets_40 : decode cX6_meets 40 = .ok (.aload_n 0, 1) := by decide +kernel
theorem dX6_meets_41 : decode cX6_meets 41 = .ok (.getfield 12, 3) := by decide +kernel
theorem dX6_meets_44 : decode cX6_meets 44 = .ok (.getfield 102, 3) := by decide +kernel
theorem dX6_meets_47 : decode cX6_meets 47 = .ok (.iload_n 1, 1) := by decide +kernel
theorem dX6_meets_48 : decode cX6_meets 48 = .ok (.iadd, 1) := by decide +kernel
theorem dX6_meets_49 : decode cX6_meets 49 = .ok (.ireturn, 1) := by decide +kernel
theorem dX6_meets_50 : decode cX6_meets 50 = .ok (.iinc 1 1, 3) := by decide +kernel
theorem dX6_meets_53 : decode cX6_meets 53 = .ok (.goto (-39), 3) := by decide +kernel
theorem dX6_meets_56 : decode cX6_meets 56 = .ok (.iconst (-1), 1) := by decide +kernel
theorem dX6_meets_57 : decode cX6_meets 57 = .ok (.ireturn, 1) := by decide +kernel
theorem dX6_used_0 : decode cX6_used 0 = .ok (.aload_n 0, 1) := by decide +kernel
theorem dX6_used_1 : decode cX6_used 1 = .ok (.getfield 12, 3) := by decide +kernel
theorem dX6_used_4 : decode cX6_used 4 = .ok (.iload_n 1, 1) := by decide +kernel
theorem dX6_used_5 : decode cX6_used 5 = .ok (.invokevirtual 95, 3) := by decide +kernel
theorem dX6_used_8 : decode cX6_used 8 = .ok (.astore 4, 2) := by decide +kernel
theorem dX6_used_10 : decode cX6_used 10 = .ok (.aload 4, 2) := by decide +kernel
theorem dX6_used_12 : decode cX6_used 12 = .ok (.ifnull 24, 3) := by decide +kernel
theorem dX6_used_15 : decode cX6_used 15 = .ok (.iload_n 2, 1) := by decide +kernel
theorem dX6_used_16 : decode cX6_used 16 = .ok (.iconst 0, 1) := by decide +kernel
theorem dX6_used_17 : decode cX6_used 17 = .ok (.bipush 22, 2) := by decide +kernel
theorem dX6_used_19 : decode cX6_used 19 = .ok (.invokestatic 54, 3) := by decide +kernel
theorem dX6_used_22 : decode cX6_used 22 = .ok (.ifCond .eq 14, 3) := by decide +kernel
theorem dX6_used_25 : decode cX6_used 25 = .ok (.iload_n 3, 1) := by decide +kernel
theorem dX6_used_26 : decode cX6_used 26 = .ok (.iconst 1, 1) := by decide +kernel
theorem dX6_used_27 : decode cX6_used 27 = .ok (.sipush 512, 3) := by decide +kernel
theorem dX6_used_30 : decode cX6_used 30 = .ok (.invokestatic 54, 3) := by decide +kernel
theorem dX6_used_33 : decode cX6_used 33 = .ok (.ifCond .ne 5, 3) := by decide +kernel
theorem dX6_used_36 : decode cX6_used 36 = .ok (.iconst (-1), 1) := by decide +kernel
theorem dX6_used_37 : decode cX6_used 37 = .ok (.ireturn, 1) := by decide +kernel
theorem dX6_used_38 : decode cX6_used 38 = .ok (.iconst 0, 1) := by decide +kernel
theorem dX6_used_39 : decode cX6_used 39 = .ok (.istore 5, 2) := by decide +kernel
theorem dX6_used_41 : decode cX6_used 41 = .ok (.iconst 0, 1) := by decide +kernel
theorem dX6_used_42 : decode cX6_used 42 = .ok (.istore 6, 2) := by decide +kernel
theorem dX6_used_44 : decode cX6_used 44 = .ok (.iload 6, 2) := by decide +kernel
theorem dX6_used_46 : decode cX6_used 46 = .ok (.iload_n 3, 1) := by decide +kernel
theorem dX6_used_47 : decode cX6_used 47 = .ok (.if_icmp .ge 42, 3) := by decide +kernel
theorem dX6_used_50 : decode cX6_used 50 = .ok (.aload_n 0, 1) := by decide +kernel
theorem dX6_used_51 : decode cX6_used 51 = .ok (.getfield 12, 3) := by decide +kernel
theorem dX6_used_54 : decode cX6_used 54 = .ok (.iload_n 1, 1) := by decide +kernel
theorem dX6_used_55 : decode cX6_used 55 = .ok (.aload 4, 2) := by decide +kernel
theorem dX6_used_57 : decode cX6_used 57 = .ok (.getfield 190, 3) := by decide +kernel
theorem dX6_used_60 : decode cX6_used 60 = .ok (.getfield 206, 3) := by decide +kernel
theorem dX6_used_63 : decode cX6_used 63 = .ok (.aload_n 0, 1) := by decide +kernel
theorem dX6_used_64 : decode cX6_used 64 = .ok (.getfield 12, 3) := by decide +kernel
theorem dX6_used_67 : decode cX6_used 67 = .ok (.getfield 102, 3) := by decide +kernel
theorem dX6_used_70 : decode cX6_used 70 = .ok (.iload 6, 2) := by decide +kernel
theorem dX6_used_72 : decode cX6_used 72 = .ok (.iadd, 1) := by decide +kernel
theorem dX6_used_73 : decode cX6_used 73 = .ok (.invokevirtual 233, 3) := by decide +kernel
theorem dX6_used_76 : decode cX6_used 76 = .ok (.iload_n 2, 1) := by decide +kernel
theorem dX6_used_77 : decode cX6_used 77 = .ok (.if_icmp .ne 6, 3) := by decide +kernel
theorem dX6_used_80 : decode cX6_used 80 = .ok (.iinc 5 1, 3) := by decide +kernel
theorem dX6_used_83 : decode cX6_used 83 = .ok (.iinc 6 1, 3) := by decide +kernel
theorem dX6_used_86 : decode cX6_used 86 = .ok (.goto (-42), 3) := by decide +kernel
theorem dX6_used_89 : decode cX6_used 89 = .ok (.iload 5, 2) := by decide +kernel
theorem dX6_used_91 : decode cX6_used 91 = .ok (.ireturn, 1) := by decide +kernel
theorem dX6_bad_0 : decode cX6_bad 0 = .ok (.aload_n 0, 1) := by decide +kernel
theorem dX6_bad_1 : decode cX6_bad 1 = .ok (.getfield 12, 3) := by decide +kernel
theorem dX6_bad_4 : decode cX6_bad 4 = .ok (.iload_n 1, 1) := by decide +kernel
theorem dX6_bad_5 : decode cX6_bad 5 = .ok (.invokevirtual 95, 3) := by decide +kernel
theorem dX6_bad_8 : decode cX6_bad 8 = .ok (.astore_n 3, 1) := by decide +kernel
theorem dX6_bad_9 : decode cX6_bad 9 = .ok (.aload_n 3, 1) := by decide +kernel
theorem dX6_bad_10 : decode cX6_bad 10 = .ok (.ifnull 13, 3) := by decide +kernel
theorem dX6_bad_13 : decode cX6_bad 13 = .ok (.iload_n 2, 1) := by decide +kernel
theorem dX6_bad_14 : decode cX6_bad 14 = .ok (.iconst 1, 1) := by decide +kernel
theorem dX6_bad_15 : decode cX6_bad 15 = .ok (.bipush 99, 2) := by decide +kernel
theorem dX6_bad_17 : decode cX6_bad 17 = .ok (.invokestatic 54, 3) := by decide +kernel
theorem dX6_bad_20 : decode cX6_bad 20 = .ok (.ifCond .ne 7, 3) := by decide +kernel
theorem dX6_bad_23 : decode cX6_bad 23 = .ok (.iconst (-1), 1) := by decide +kernel
theorem dX6_bad_24 : decode cX6_bad 24 = .ok (.goto 8, 3) := by decide +kernel
theorem dX6_bad_27 : decode cX6_bad 27 = .ok (.aload_n 3, 1) := by decide +kernel
theorem dX6_bad_28 : decode cX6_bad 28 = .ok (.iload_n 2, 1) := by decide +kernel
theorem dX6_bad_29 : decode cX6_bad 29 = .ok (.invokevirtual 203, 3) := by decide +kernel
theorem dX6_bad_32 : decode cX6_bad 32 = .ok (.ireturn, 1) := by decide +kernel
theorem dX6_sent_0 : decode cX6_sent 0 = .ok (.aload_n 0, 1) := by decide +kernel
theorem dX6_sent_1 : decode cX6_sent 1 = .ok (.getfield 12, 3) := by decide +kernel
theorem dX6_sent_4 : decode cX6_sent 4 = .ok (.iload_n 1, 1) := by decide +kernel
theorem dX6_sent_5 : decode cX6_sent 5 = .ok (.invokevirtual 95, 3) := by decide +kernel
theorem dX6_sent_8 : decode cX6_sent 8 = .ok (.astore 4, 2) := by decide +kernel
theorem dX6_sent_10 : decode cX6_sent 10 = .ok (.aload 4, 2) := by decide +kernel
theorem dX6_sent_12 : decode cX6_sent 12 = .ok (.ifnull 13, 3) := by decide +kernel
theorem dX6_sent_15 : decode cX6_sent 15 = .ok (.iload_n 2, 1) := by decide +kernel
theorem dX6_sent_16 : decode cX6_sent 16 = .ok (.iconst 0, 1) := by decide +kernel
theorem dX6_sent_17 : decode cX6_sent 17 = .ok (.bipush 22, 2) := by decide +kernel
theorem dX6_sent_19 : decode cX6_sent 19 = .ok (.invokestatic 54, 3) := by decide +kernel
theorem dX6_sent_22 : decode cX6_sent 22 = .ok (.ifCond .ne 5, 3) := by decide +kernel
theorem dX6_sent_25 : decode cX6_sent 25 = .ok (.iconst (-1), 1) := by decide +kernel
theorem dX6_sent_26 : decode cX6_sent 26 = .ok (.ireturn, 1) := by decide +kernel
theorem dX6_sent_27 : decode cX6_sent 27 = .ok (.iload_n 3, 1) := by decide +kernel
theorem dX6_sent_28 : decode cX6_sent 28 = .ok (.lookupswitch 44 #[(0, 28), (1, 36)], 28) := by decide +kernel
theorem dX6_sent_56 : decode cX6_sent 56 = .ok (.aload 4, 2) := by decide +kernel
theorem dX6_sent_58 : decode cX6_sent 58 = .ok (.getfield 265, 3) := by decide +kernel
theorem dX6_sent_61 : decode cX6_sent 61 = .ok (.iload_n 2, 1) := by decide +kernel
theorem dX6_sent_62 : decode cX6_sent 62 = .ok (.iaload, 1) := by decide +kernel
theorem dX6_sent_63 : decode cX6_sent 63 = .ok (.ireturn, 1) := by decide +kernel
theorem dX6_sent_64 : decode cX6_sent 64 = .ok (.aload 4, 2) := by decide +kernel
theorem dX6_sent_66 : decode cX6_sent 66 = .ok (.getfield 268, 3) := by decide +kernel
theorem dX6_sent_69 : decode cX6_sent 69 = .ok (.iload_n 2, 1) := by decide +kernel
theorem dX6_sent_70 : decode cX6_sent 70 = .ok (.iaload, 1) := by decide +kernel
theorem dX6_sent_71 : decode cX6_sent 71 = .ok (.ireturn, 1) := by decide +kernel
theorem dX6_sent_72 : decode cX6_sent 72 = .ok (.iconst (-1), 1) := by decide +kernel
theorem dX6_sent_73 : decode cX6_sent 73 = .ok (.ireturn, 1) := by decide +kernel
theorem dX6_link_0 : decode cX6_link 0 = .ok (.aload_n 0, 1) := by decide +kernel
theorem dX6_link_1 : decode cX6_link 1 = .ok (.getfield 12, 3) := by decide +kernel
theorem dX6_link_4 : decode cX6_link 4 = .ok (.iload_n 1, 1) := by decide +kernel
theorem dX6_link_5 : decode cX6_link 5 = .ok (.iload_n 2, 1) := by decide +kernel
theorem dX6_link_6 : decode cX6_link 6 = .ok (.invokevirtual 132, 3) := by decide +kernel
theorem dX6_link_9 : decode cX6_link 9 = .ok (.astore 4, 2) := by decide +kernel
theorem dX6_link_11 : decode cX6_link 11 = .ok (.aload 4, 2) := by decide +kernel
theorem dX6_link_13 : decode cX6_link 13 = .ok (.ifnonnull 5, 3) := by decide +kernel
theorem dX6_link_16 : decode cX6_link 16 = .ok (.iconst (-1), 1) := by decide +kernel
theorem dX6_link_17 : decode cX6_link 17 = .ok (.ireturn, 1) := by decide +kernel
theorem dX6_link_18 : decode cX6_link 18 = .ok (.iload_n 3, 1) := by decide +kernel
theorem dX6_link_19 : decode cX6_link 19 = .ok (.tableswitch 213 0 16 #[81, 87, 96, 105, 114, 123, 129, 138, 147, 156, 165, 171, 177, 183, 189, 198, 207], 81) := by decide +kernel
theorem dX6_link_100 : decode cX6_link 100 = .ok (.aload 4, 2) := by decide +kernel
theorem dX6_link_102 : decode cX6_link 102 = .ok (.getfield 271, 3) := by decide +kernel
theorem dX6_link_105 : decode cX6_link 105 = .ok (.ireturn, 1) := by decide +kernel
theorem dX6_link_106 : decode cX6_link 106 = .ok (.aload 4, 2) := by decide +kernel
theorem dX6_link_108 : decode cX6_link 108 = .ok (.getfield 135, 3) := by decide +kernel
theorem dX6_link_111 : decode cX6_link 111 = .ok (.getfield 153, 3) := by decide +kernel
theorem dX6_link_114 : decode cX6_link 114 = .ok (.ireturn, 1) := by decide +kernel
theorem dX6_link_115 : decode cX6_link 115 = .ok (.aload 4, 2) := by decide +kernel
theorem dX6_link_117 : decode cX6_link 117 = .ok (.getfield 141, 3) := by decide +kernel
theorem dX6_link_120 : decode cX6_link 120 = .ok (.getfield 153, 3) := by decide +kernel
theorem dX6_link_123 : decode cX6_link 123 = .ok (.ireturn, 1) := by decide +kernel
theorem dX6_link_124 : decode cX6_link 124 = .ok (.aload 4, 2) := by decide +kernel
theorem dX6_link_126 : decode cX6_link 126 = .ok (.getfield 135, 3) := by decide +kernel
theorem dX6_link_129 : decode cX6_link 129 = .ok (.getfield 274, 3) := by decide +kernel
theorem dX6_link_132 : decode cX6_link 132 = .ok (.ireturn, 1) := by decide +kernel
theorem dX6_link_133 : decode cX6_link 133 = .ok (.aload 4, 2) := by decide +kernel
theorem dX6_link_135 : decode cX6_link 135 = .ok (.getfield 141, 3) := by decide +kernel
theorem dX6_link_138 : decode cX6_link 138 = .ok (.getfield 274, 3) := by decide +kernel
theorem dX6_link_141 : decode cX6_link 141 = .ok (.ireturn, 1) := by decide +kernel
theorem dX6_link_142 : decode cX6_link 142 = .ok (.aload 4, 2) := by decide +kernel
theorem dX6_link_144 : decode cX6_link 144 = .ok (.getfield 277, 3) := by decide +kernel
theorem dX6_link_147 : decode cX6_link 147 = .ok (.ireturn, 1) := by decide +kernel
theorem dX6_link_148 : decode cX6_link 148 = .ok (.aload 4, 2) := by decide +kernel
theorem dX6_link_150 : decode cX6_link 150 = .ok (.getfield 135, 3) := by decide +kernel
theorem dX6_link_153 : decode cX6_link 153 = .ok (.getfield 280, 3) := by decide +kernel
theorem dX6_link_156 : decode cX6_link 156 = .ok (.ireturn, 1) := by decide +kernel
theorem dX6_link_157 : decode cX6_link 157 = .ok (.aload 4, 2) := by decide +kernel
theorem dX6_link_159 : decode cX6_link 159 = .ok (.getfield 135, 3) := by decide +kernel
theorem dX6_link_162 : decode cX6_link 162 = .ok (.getfield 283, 3) := by decide +kernel
theorem dX6_link_165 : decode cX6_link 165 = .ok (.ireturn, 1) := by decide +kernel
theorem dX6_link_166 : decode cX6_link 166 = .ok (.aload 4, 2) := by decide +kernel
theorem dX6_link_168 : decode cX6_link 168 = .ok (.getfield 141, 3) := by decide +kernel
theorem dX6_link_171 : decode cX6_link 171 = .ok (.getfield 280, 3) := by decide +kernel
theorem dX6_link_174 : decode cX6_link 174 = .ok (.ireturn, 1) := by decide +kernel
theorem dX6_link_175 : decode cX6_link 175 = .ok (.aload 4, 2) := by decide +kernel
theorem dX6_link_177 : decode cX6_link 177 = .ok (.getfield 141, 3) := by decide +kernel
theorem dX6_link_180 : decode cX6_link 180 = .ok (.getfield 283, 3) := by decide +kernel
theorem dX6_link_183 : decode cX6_link 183 = .ok (.ireturn, 1) := by decide +kernel
theorem dX6_link_184 : decode cX6_link 184 = .ok (.aload 4, 2) := by decide +kernel
theorem dX6_link_186 : decode cX6_link 186 = .ok (.getfield 286, 3) := by decide +kernel
theorem dX6_link_189 : decode cX6_link 189 = .ok (.ireturn, 1) := by decide +kernel
theorem dX6_link_190 : decode cX6_link 190 = .ok (.aload 4, 2) := by decide +kernel
theorem dX6_link_192 : decode cX6_link 192 = .ok (.getfield 289, 3) := by decide +kernel
theorem dX6_link_195 : decode cX6_link 195 = .ok (.ireturn, 1) := by decide +kernel
theorem dX6_link_196 : decode cX6_link 196 = .ok (.aload 4, 2) := by decide +kernel
theorem dX6_link_198 : decode cX6_link 198 = .ok (.getfield 292, 3) := by decide +kernel
theorem dX6_link_201 : decode cX6_link 201 = .ok (.ireturn, 1) := by decide +kernel
theorem dX6_link_202 : decode cX6_link 202 = .ok (.aload 4, 2) := by decide +kernel
theorem dX6_link_204 : decode cX6_link 204 = .ok (.getfield 295, 3) := by decide +kernel
theorem dX6_link_207 : decode cX6_link 207 = .ok (.ireturn, 1) := by decide +kernel
theorem dX6_link_208 : decode cX6_link 208 = .ok (.aload 4, 2) := by decide +kernel
theorem dX6_link_210 : decode cX6_link 210 = .ok (.getfield 135, 3) := by decide +kernel
theorem dX6_link_213 : decode cX6_link 213 = .ok (.getfield 298, 3) := by decide +kernel
theorem dX6_link_216 : decode cX6_link 216 = .ok (.ireturn, 1) := by decide +kernel
theorem dX6_link_217 : decode cX6_link 217 = .ok (.aload 4, 2) := by decide +kernel
theorem dX6_link_219 : decode cX6_link 219 = .ok (.getfield 141, 3) := by decide +kernel
theorem dX6_link_222 : decode cX6_link 222 = .ok (.getfield 298, 3) := by decide +kernel
theorem dX6_link_225 : decode cX6_link 225 = .ok (.ireturn, 1) := by decide +kernel
theorem dX6_link_226 : decode cX6_link 226 = .ok (.aload 4, 2) := by decide +kernel
theorem dX6_link_228 : decode cX6_link 228 = .ok (.getfield 178, 3) := by decide +kernel
theorem dX6_link_231 : decode cX6_link 231 = .ok (.ireturn, 1) := by decide +kernel
theorem dX6_link_232 : decode cX6_link 232 = .ok (.iconst (-1), 1) := by decide +kernel
theorem dX6_link_233 : decode cX6_link 233 = .ok (.ireturn, 1) := by decide +kernel
theorem dX6_reserved_0 : decode cX6_reserved 0 = .ok (.aload_n 0, 1) := by decide +kernel
theorem dX6_reserved_1 : decode cX6_reserved 1 = .ok (.getfield 12, 3) := by decide +kernel
theorem dX6_reserved_4 : decode cX6_reserved 4 = .ok (.iload_n 1, 1) := by decide +kernel
theorem dX6_reserved_5 : decode cX6_reserved 5 = .ok (.iload_n 2, 1) := by decide +kernel
theorem dX6_reserved_6 : decode cX6_reserved 6 = .ok (.invokevirtual 132, 3) := by decide +kernel
theorem dX6_reserved_9 : decode cX6_reserved 9 = .ok (.astore 4, 2) := by decide +kernel
theorem dX6_reserved_11 : decode cX6_reserved 11 = .ok (.aload 4, 2) := by decide +kernel
theorem dX6_reserved_13 : decode cX6_reserved 13 = .ok (.ifnull 14, 3) := by decide +kernel
theorem dX6_reserved_16 : decode cX6_reserved 16 = .ok (.aload 4, 2) := by decide +kernel
theorem dX6_reserved_18 : decode cX6_reserved 18 = .ok (.getfield 159, 3) := by decide +kernel
theorem dX6_reserved_21 : decode cX6_reserved 21 = .ok (.getfield 163, 3) := by decide +kernel
theorem dX6_reserved_24 : decode cX6_reserved 24 = .ok (.ifCond .ne 5, 3) := by decide +kernel
theorem dX6_reserved_27 : decode cX6_reserved 27 = .ok (.iconst (-1), 1) := by decide +kernel
theorem dX6_reserved_28 : decode cX6_reserved 28 = .ok (.ireturn, 1) := by decide +kernel
theorem dX6_reserved_29 : decode cX6_reserved 29 = .ok (.iload_n 3, 1) := by decide +kernel
theorem dX6_reserved_30 : decode cX6_reserved 30 = .ok (.tableswitch 92 0 5 #[38, 47, 56, 65, 74, 83], 38) := by decide +kernel
theorem dX6_reserved_68 : decode cX6_reserved 68 = .ok (.aload 4, 2) := by decide +kernel
theorem dX6_reserved_70 : decode cX6_reserved 70 = .ok (.getfield 159, 3) := by decide +kernel
theorem dX6_reserved_73 : decode cX6_reserved 73 = .ok (.getfield 163, 3) := by decide +kernel
theorem dX6_reserved_76 : decode cX6_reserved 76 = .ok (.ireturn, 1) := by decide +kernel
theorem dX6_reserved_77 : decode cX6_reserved 77 = .ok (.aload 4, 2) := by decide +kernel
theorem dX6_reserved_79 : decode cX6_reserved 79 = .ok (.getfield 159, 3) := by decide +kernel
theorem dX6_reserved_82 : decode cX6_reserved 82 = .ok (.getfield 307, 3) := by decide +kernel
theorem dX6_reserved_85 : decode cX6_reserved 85 = .ok (.ireturn, 1) := by decide +kernel
theorem dX6_reserved_86 : decode cX6_reserved 86 = .ok (.aload 4, 2) := by decide +kernel
theorem dX6_reserved_88 : decode cX6_reserved 88 = .ok (.getfield 159, 3) := by decide +kernel
theorem dX6_reserved_91 : decode cX6_reserved 91 = .ok (.getfield 310, 3) := by decide +kernel
theorem dX6_reserved_94 : decode cX6_reserved 94 = .ok (.ireturn, 1) := by decide +kernel
theorem dX6_reserved_95 : decode cX6_reserved 95 = .ok (.aload 4, 2) := by decide +kernel
theorem dX6_reserved_97 : decode cX6_reserved 97 = .ok (.getfield 159, 3) := by decide +kernel
theorem dX6_reserved_100 : decode cX6_reserved 100 = .ok (.getfield 313, 3) := by decide +kernel
theorem dX6_reserved_103 : decode cX6_reserved 103 = .ok (.ireturn, 1) := by decide +kernel
theorem dX6_reserved_104 : decode cX6_reserved 104 = .ok (.aload 4, 2) := by decide +kernel
theorem dX6_reserved_106 : decode cX6_reserved 106 = .ok (.getfield 159, 3) := by decide +kernel
theorem dX6_reserved_109 : decode cX6_reserved 109 = .ok (.getfield 316, 3) := by decide +kernel
theorem dX6_reserved_112 : decode cX6_reserved 112 = .ok (.ireturn, 1) := by decide +kernel
theorem dX6_reserved_113 : decode cX6_reserved 113 = .ok (.aload 4, 2) := by decide +kernel
theorem dX6_reserved_115 : decode cX6_reserved 115 = .ok (.getfield 159, 3) := by decide +kernel
theorem dX6_reserved_118 : decode cX6_reserved 118 = .ok (.getfield 319, 3) := by decide +kernel
theorem dX6_reserved_121 : decode cX6_reserved 121 = .ok (.ireturn, 1) := by decide +kernel
theorem dX6_reserved_122 : decode cX6_reserved 122 = .ok (.iconst (-1), 1) := by decide +kernel
theorem dX6_reserved_123 : decode cX6_reserved 123 = .ok (.ireturn, 1) := by decide +kernel
theorem dX6_odds_0 : decode cX6_odds 0 = .ok (.aload_n 0, 1) := by decide +kernel
theorem dX6_odds_1 : decode cX6_odds 1 = .ok (.getfield 12, 3) := by decide +kernel
theorem dX6_odds_4 : decode cX6_odds 4 = .ok (.iload_n 1, 1) := by decide +kernel
theorem dX6_odds_5 : decode cX6_odds 5 = .ok (.iload_n 2, 1) := by decide +kernel
theorem dX6_odds_6 : decode cX6_odds 6 = .ok (.invokevirtual 132, 3) := by decide +kernel
theorem dX6_odds_9 : decode cX6_odds 9 = .ok (.astore 5, 2) := by decide +kernel
theorem dX6_odds_11 : decode cX6_odds 11 = .ok (.aload 5, 2) := by decide +kernel
theorem dX6_odds_13 : decode cX6_odds 13 = .ok (.ifnull 23, 3) := by decide +kernel
theorem dX6_odds_16 : decode cX6_odds 16 = .ok (.iload_n 3, 1) := by decide +kernel
theorem dX6_odds_17 : decode cX6_odds 17 = .ok (.iconst 1, 1) := by decide +kernel
theorem dX6_odds_18 : decode cX6_odds 18 = .ok (.bipush 64, 2) := by decide +kernel
theorem dX6_odds_20 : decode cX6_odds 20 = .ok (.invokestatic 54, 3) := by decide +kernel
theorem dX6_odds_23 : decode cX6_odds 23 = .ok (.ifCond .eq 13, 3) := by decide +kernel
theorem dX6_odds_26 : decode cX6_odds 26 = .ok (.iload 4, 2) := by decide +kernel
theorem dX6_odds_28 : decode cX6_odds 28 = .ok (.iconst 0, 1) := by decide +kernel
theorem dX6_odds_29 : decode cX6_odds 29 = .ok (.iconst 1, 1) := by decide +kernel
theorem dX6_odds_30 : decode cX6_odds 30 = .ok (.invokestatic 54, 3) := by decide +kernel
theorem dX6_odds_33 : decode cX6_odds 33 = .ok (.ifCond .ne 5, 3) := by decide +kernel
theorem dX6_odds_36 : decode cX6_odds 36 = .ok (.iconst (-1), 1) := by decide +kernel
theorem dX6_odds_37 : decode cX6_odds 37 = .ok (.ireturn, 1) := by decide +kernel
theorem dX6_odds_38 : decode cX6_odds 38 = .ok (.iconst 0, 1) := by decide +kernel
theorem dX6_odds_39 : decode cX6_odds 39 = .ok (.istore 6, 2) := by decide +kernel
theorem dX6_odds_41 : decode cX6_odds 41 = .ok (.iconst 0, 1) := by decide +kernel
theorem dX6_odds_42 : decode cX6_odds 42 = .ok (.istore 7, 2) := by decide +kernel
theorem dX6_odds_44 : decode cX6_odds 44 = .ok (.iload 7, 2) := by decide +kernel
theorem dX6_odds_46 : decode cX6_odds 46 = .ok (.iload_n 3, 1) := by decide +kernel
theorem dX6_odds_47 : decode cX6_odds 47 = .ok (.if_icmp .ge 55, 3) := by decide +kernel
theorem dX6_odds_50 : decode cX6_odds 50 = .ok (.aload_n 0, 1) := by decide +kernel
theorem dX6_odds_51 : decode cX6_odds 51 = .ok (.getfield 12, 3) := by decide +kernel
theorem dX6_odds_54 : decode cX6_odds 54 = .ok (.getfield 102, 3) := by decide +kernel
theorem dX6_odds_57 : decode cX6_odds 57 = .ok (.iconst 2, 1) := by decide +kernel
theorem dX6_odds_58 : decode cX6_odds 58 = .ok (.iload 7, 2) := by decide +kernel
theorem dX6_odds_60 : decode cX6_odds 60 = .ok (.imul, 1) := by decide +kernel
theorem dX6_odds_61 : decode cX6_odds 61 = .ok (.iadd, 1) := by decide +kernel
theorem dX6_odds_62 : decode cX6_odds 62 = .ok (.istore 8, 2) := by decide +kernel
theorem dX6_odds_64 : decode cX6_odds 64 = .ok (.iload 6, 2) := by decide +kernel
theorem dX6_odds_66 : decode cX6_odds 66 = .ok (.aload_n 0, 1) := by decide +kernel
theorem dX6_odds_67 : decode cX6_odds 67 = .ok (.getfield 12, 3) := by decide +kernel
theorem dX6_odds_70 : decode cX6_odds 70 = .ok (.iload_n 1, 1) := by decide +kernel
theorem dX6_odds_71 : decode cX6_odds 71 = .ok (.aload 5, 2) := by decide +kernel
theorem dX6_odds_73 : decode cX6_odds 73 = .ok (.iload 8, 2) := by decide +kernel
theorem dX6_odds_75 : decode cX6_odds 75 = .ok (.invokevirtual 325, 3) := by decide +kernel
theorem dX6_odds_78 : decode cX6_odds 78 = .ok (.aload_n 0, 1) := by decide +kernel
theorem dX6_odds_79 : decode cX6_odds 79 = .ok (.getfield 12, 3) := by decide +kernel
theorem dX6_odds_82 : decode cX6_odds 82 = .ok (.iload_n 1, 1) := by decide +kernel
theorem dX6_odds_83 : decode cX6_odds 83 = .ok (.aload 5, 2) := by decide +kernel
theorem dX6_odds_85 : decode cX6_odds 85 = .ok (.iload 8, 2) := by decide +kernel
theorem dX6_odds_87 : decode cX6_odds 87 = .ok (.iconst 1, 1) := by decide +kernel
theorem dX6_odds_88 : decode cX6_odds 88 = .ok (.iadd, 1) := by decide +kernel
theorem dX6_odds_89 : decode cX6_odds 89 = .ok (.invokevirtual 325, 3) := by decide +kernel
theorem dX6_odds_92 : decode cX6_odds 92 = .ok (.imul, 1) := by decide +kernel
theorem dX6_odds_93 : decode cX6_odds 93 = .ok (.iadd, 1) := by decide +kernel
theorem dX6_odds_94 : decode cX6_odds 94 = .ok (.istore 6, 2) := by decide +kernel
theorem dX6_odds_96 : decode cX6_odds 96 = .ok (.iinc 7 1, 3) := by decide +kernel
theorem dX6_odds_99 : decode cX6_odds 99 = .ok (.goto (-55), 3) := by decide +kernel
theorem dX6_odds_102 : decode cX6_odds 102 = .ok (.sipush 256, 3) := by decide +kernel
theorem dX6_odds_105 : decode cX6_odds 105 = .ok (.iload_n 3, 1) := by decide +kernel
theorem dX6_odds_106 : decode cX6_odds 106 = .ok (.imul, 1) := by decide +kernel
theorem dX6_odds_107 : decode cX6_odds 107 = .ok (.istore 7, 2) := by decide +kernel
theorem dX6_odds_109 : decode cX6_odds 109 = .ok (.iload 7, 2) := by decide +kernel
theorem dX6_odds_111 : decode cX6_odds 111 = .ok (.iload 6, 2) := by decide +kernel
theorem dX6_odds_113 : decode cX6_odds 113 = .ok (.invokestatic 329, 3) := by decide +kernel
theorem dX6_odds_116 : decode cX6_odds 116 = .ok (.istore 8, 2) := by decide +kernel
theorem dX6_odds_118 : decode cX6_odds 118 = .ok (.iload 8, 2) := by decide +kernel
theorem dX6_odds_120 : decode cX6_odds 120 = .ok (.ifCond .ne 7, 3) := by decide +kernel
theorem dX6_odds_123 : decode cX6_odds 123 = .ok (.iconst (-1), 1) := by decide +kernel
theorem dX6_odds_124 : decode cX6_odds 124 = .ok (.goto 18, 3) := by decide +kernel
theorem dX6_odds_127 : decode cX6_odds 127 = .ok (.iload 4, 2) := by decide +kernel
theorem dX6_odds_129 : decode cX6_odds 129 = .ok (.ifCond .ne 8, 3) := by decide +kernel
theorem dX6_odds_132 : decode cX6_odds 132 = .ok (.iload 6, 2) := by decide +kernel
theorem dX6_odds_134 : decode cX6_odds 134 = .ok (.goto 5, 3) := by decide +kernel
theorem dX6_odds_137 : decode cX6_odds 137 = .ok (.iload 7, 2) := by decide +kernel
theorem dX6_odds_139 : decode cX6_odds 139 = .ok (.iload 8, 2) := by decide +kernel
theorem dX6_odds_141 : decode cX6_odds 141 = .ok (.idiv, 1) := by decide +kernel
theorem dX6_odds_142 : decode cX6_odds 142 = .ok (.ireturn, 1) := by decide +kernel
theorem dX6_clashes_0 : decode cX6_clashes 0 = .ok (.aload_n 0, 1) := by decide +kernel
theorem dX6_clashes_1 : decode cX6_clashes 1 = .ok (.getfield 12, 3) := by decide +kernel
theorem dX6_clashes_4 : decode cX6_clashes 4 = .ok (.invokevirtual 259, 3) := by decide +kernel
theorem dX6_clashes_7 : decode cX6_clashes 7 = .ok (.ifCond .eq 14, 3) := by decide +kernel
theorem dX6_clashes_10 : decode cX6_clashes 10 = .ok (.iload_n 1, 1) := by decide +kernel
theorem dX6_clashes_11 : decode cX6_clashes 11 = .ok (.iconst 1, 1) := by decide +kernel
theorem dX6_clashes_12 : decode cX6_clashes 12 = .ok (.sipush 512, 3) := by decide +kernel
theorem dX6_clashes_15 : decode cX6_clashes 15 = .ok (.invokestatic 54, 3) := by decide +kernel
theorem dX6_clashes_18 : decode cX6_clashes 18 = .ok (.ifCond .ne 5, 3) := by decide +kernel
theorem dX6_clashes_21 : decode cX6_clashes 21 = .ok (.iconst (-1), 1) := by decide +kernel
theorem dX6_clashes_22 : decode cX6_clashes 22 = .ok (.ireturn, 1) := by decide +kernel
theorem dX6_clashes_23 : decode cX6_clashes 23 = .ok (.iconst 0, 1) := by decide +kernel
theorem dX6_clashes_24 : decode cX6_clashes 24 = .ok (.istore_n 2, 1) := by decide +kernel
theorem dX6_clashes_25 : decode cX6_clashes 25 = .ok (.iconst 0, 1) := by decide +kernel
theorem dX6_clashes_26 : decode cX6_clashes 26 = .ok (.istore_n 3, 1) := by decide +kernel
theorem dX6_clashes_27 : decode cX6_clashes 27 = .ok (.iload_n 3, 1) := by decide +kernel
theorem dX6_clashes_28 : decode cX6_clashes 28 = .ok (.iload_n 1, 1) := by decide +kernel
theorem dX6_clashes_29 : decode cX6_clashes 29 = .ok (.if_icmp .ge 31, 3) := by decide +kernel
theorem dX6_clashes_32 : decode cX6_clashes 32 = .ok (.aload_n 0, 1) := by decide +kernel
theorem dX6_clashes_33 : decode cX6_clashes 33 = .ok (.getfield 12, 3) := by decide +kernel
theorem dX6_clashes_36 : decode cX6_clashes 36 = .ok (.aload_n 0, 1) := by decide +kernel
theorem dX6_clashes_37 : decode cX6_clashes 37 = .ok (.getfield 12, 3) := by decide +kernel
theorem dX6_clashes_40 : decode cX6_clashes 40 = .ok (.getfield 102, 3) := by decide +kernel
theorem dX6_clashes_43 : decode cX6_clashes 43 = .ok (.iload_n 3, 1) := by decide +kernel
theorem dX6_clashes_44 : decode cX6_clashes 44 = .ok (.iadd, 1) := by decide +kernel
theorem dX6_clashes_45 : decode cX6_clashes 45 = .ok (.invokevirtual 262, 3) := by decide +kernel
theorem dX6_clashes_48 : decode cX6_clashes 48 = .ok (.ifCond .eq 6, 3) := by decide +kernel
theorem dX6_clashes_51 : decode cX6_clashes 51 = .ok (.iinc 2 1, 3) := by decide +kernel
theorem dX6_clashes_54 : decode cX6_clashes 54 = .ok (.iinc 3 1, 3) := by decide +kernel
theorem dX6_clashes_57 : decode cX6_clashes 57 = .ok (.goto (-30), 3) := by decide +kernel
theorem dX6_clashes_60 : decode cX6_clashes 60 = .ok (.iload_n 2, 1) := by decide +kernel
theorem dX6_clashes_61 : decode cX6_clashes 61 = .ok (.ireturn, 1) := by decide +kernel
theorem dX6_bestOffset_0 : decode cX6_bestOffset 0 = .ok (.aload_n 0, 1) := by decide +kernel
theorem dX6_bestOffset_1 : decode cX6_bestOffset 1 = .ok (.getfield 12, 3) := by decide +kernel
theorem dX6_bestOffset_4 : decode cX6_bestOffset 4 = .ok (.invokevirtual 259, 3) := by decide +kernel
theorem dX6_bestOffset_7 : decode cX6_bestOffset 7 = .ok (.ifCond .eq 14, 3) := by decide +kernel
theorem dX6_bestOffset_10 : decode cX6_bestOffset 10 = .ok (.iload_n 1, 1) := by decide +kernel
theorem dX6_bestOffset_11 : decode cX6_bestOffset 11 = .ok (.iconst 1, 1) := by decide +kernel
theorem dX6_bestOffset_12 : decode cX6_bestOffset 12 = .ok (.sipush 512, 3) := by decide +kernel
theorem dX6_bestOffset_15 : decode cX6_bestOffset 15 = .ok (.invokestatic 54, 3) := by decide +kernel
theorem dX6_bestOffset_18 : decode cX6_bestOffset 18 = .ok (.ifCond .ne 5, 3) := by decide +kernel
theorem dX6_bestOffset_21 : decode cX6_bestOffset 21 = .ok (.iconst (-1), 1) := by decide +kernel
theorem dX6_bestOffset_22 : decode cX6_bestOffset 22 = .ok (.ireturn, 1) := by decide +kernel
theorem dX6_bestOffset_23 : decode cX6_bestOffset 23 = .ok (.aload_n 0, 1) := by decide +kernel
theorem dX6_bestOffset_24 : decode cX6_bestOffset 24 = .ok (.iload_n 1, 1) := by decide +kernel
theorem dX6_bestOffset_25 : decode cX6_bestOffset 25 = .ok (.invokevirtual 332, 3) := by decide +kernel
theorem dX6_bestOffset_28 : decode cX6_bestOffset 28 = .ok (.iconst 0, 1) := by decide +kernel
theorem dX6_bestOffset_29 : decode cX6_bestOffset 29 = .ok (.istore_n 2, 1) := by decide +kernel
theorem dX6_bestOffset_30 : decode cX6_bestOffset 30 = .ok (.aload_n 0, 1) := by decide +kernel
theorem dX6_bestOffset_31 : decode cX6_bestOffset 31 = .ok (.iconst 0, 1) := by decide +kernel
theorem dX6_bestOffset_32 : decode cX6_bestOffset 32 = .ok (.iload_n 1, 1) := by decide +kernel
theorem dX6_bestOffset_33 : decode cX6_bestOffset 33 = .ok (.invokevirtual 335, 3) := by decide +kernel
theorem dX6_bestOffset_36 : decode cX6_bestOffset 36 = .ok (.istore_n 3, 1) := by decide +kernel
theorem dX6_bestOffset_37 : decode cX6_bestOffset 37 = .ok (.iconst 1, 1) := by decide +kernel
theorem dX6_bestOffset_38 : decode cX6_bestOffset 38 = .ok (.istore 4, 2) := by decide +kernel
theorem dX6_bestOffset_40 : decode cX6_bestOffset 40 = .ok (.iload 4, 2) := by decide +kernel
theorem dX6_bestOffset_42 : decode cX6_bestOffset 42 = .ok (.bipush 64, 2) := by decide +kernel
theorem dX6_bestOffset_44 : decode cX6_bestOffset 44 = .ok (.if_icmp .ge 30, 3) := by decide +kernel
theorem dX6_bestOffset_47 : decode cX6_bestOffset 47 = .ok (.aload_n 0, 1) := by decide +kernel
theorem dX6_bestOffset_48 : decode cX6_bestOffset 48 = .ok (.iload 4, 2) := by decide +kernel
theorem dX6_bestOffset_50 : decode cX6_bestOffset 50 = .ok (.iload_n 1, 1) := by decide +kernel
theorem dX6_bestOffset_51 : decode cX6_bestOffset 51 = .ok (.invokevirtual 335, 3) := by decide +kernel
theorem dX6_bestOffset_54 : decode cX6_bestOffset 54 = .ok (.istore 5, 2) := by decide +kernel
theorem dX6_bestOffset_56 : decode cX6_bestOffset 56 = .ok (.iload 5, 2) := by decide +kernel
theorem dX6_bestOffset_58 : decode cX6_bestOffset 58 = .ok (.iload_n 3, 1) := by decide +kernel
theorem dX6_bestOffset_59 : decode cX6_bestOffset 59 = .ok (.if_icmp .ge 9, 3) := by decide +kernel
theorem dX6_bestOffset_62 : decode cX6_bestOffset 62 = .ok (.iload 5, 2) := by decide +kernel
theorem dX6_bestOffset_64 : decode cX6_bestOffset 64 = .ok (.istore_n 3, 1) := by decide +kernel
theorem dX6_bestOffset_65 : decode cX6_bestOffset 65 = .ok (.iload 4, 2) := by decide +kernel
theorem dX6_bestOffset_67 : decode cX6_bestOffset 67 = .ok (.istore_n 2, 1) := by decide +kernel
theorem dX6_bestOffset_68 : decode cX6_bestOffset 68 = .ok (.iinc 4 1, 3) := by decide +kernel
theorem dX6_bestOffset_71 : decode cX6_bestOffset 71 = .ok (.goto (-31), 3) := by decide +kernel
theorem dX6_bestOffset_74 : decode cX6_bestOffset 74 = .ok (.iload_n 2, 1) := by decide +kernel
theorem dX6_bestOffset_75 : decode cX6_bestOffset 75 = .ok (.ireturn, 1) := by decide +kernel
theorem dX6_drain_0 : decode cX6_drain 0 = .ok (.aload_n 0, 1) := by decide +kernel
theorem dX6_drain_1 : decode cX6_drain 1 = .ok (.getfield 12, 3) := by decide +kernel
theorem dX6_drain_4 : decode cX6_drain 4 = .ok (.iload_n 1, 1) := by decide +kernel
theorem dX6_drain_5 : decode cX6_drain 5 = .ok (.iload_n 2, 1) := by decide +kernel
theorem dX6_drain_6 : decode cX6_drain 6 = .ok (.invokevirtual 132, 3) := by decide +kernel
theorem dX6_drain_9 : decode cX6_drain 9 = .ok (.ifnonnull 5, 3) := by decide +kernel
theorem dX6_drain_12 : decode cX6_drain 12 = .ok (.iconst (-1), 1) := by decide +kernel
theorem dX6_drain_13 : decode cX6_drain 13 = .ok (.ireturn, 1) := by decide +kernel
theorem dX6_drain_14 : decode cX6_drain 14 = .ok (.aload_n 0, 1) := by decide +kernel
theorem dX6_drain_15 : decode cX6_drain 15 = .ok (.getfield 16, 3) := by decide +kernel
theorem dX6_drain_18 : decode cX6_drain 18 = .ok (.aload_n 0, 1) := by decide +kernel
theorem dX6_drain_19 : decode cX6_drain 19 = .ok (.getfield 12, 3) := by decide +kernel
theorem dX6_drain_22 : decode cX6_drain 22 = .ok (.invokevirtual 219, 3) := by decide +kernel
theorem dX6_drain_25 : decode cX6_drain 25 = .ok (.aload_n 0, 1) := by decide +kernel
theorem dX6_drain_26 : decode cX6_drain 26 = .ok (.getfield 16, 3) := by decide +kernel
theorem dX6_drain_29 : decode cX6_drain 29 = .ok (.iload_n 1, 1) := by decide +kernel
theorem dX6_drain_30 : decode cX6_drain 30 = .ok (.iload_n 2, 1) := by decide +kernel
theorem dX6_drain_31 : decode cX6_drain 31 = .ok (.invokevirtual 132, 3) := by decide +kernel
theorem dX6_drain_34 : decode cX6_drain 34 = .ok (.astore_n 3, 1) := by decide +kernel
theorem dX6_drain_35 : decode cX6_drain 35 = .ok (.iconst 0, 1) := by decide +kernel
theorem dX6_drain_36 : decode cX6_drain 36 = .ok (.istore 4, 2) := by decide +kernel
theorem dX6_drain_38 : decode cX6_drain 38 = .ok (.iload 4, 2) := by decide +kernel
theorem dX6_drain_40 : decode cX6_drain 40 = .ok (.sipush 400, 3) := by decide +kernel
theorem dX6_drain_43 : decode cX6_drain 43 = .ok (.if_icmp .gt 68, 3) := by decide +kernel
theorem dX6_drain_46 : decode cX6_drain 46 = .ok (.aload_n 3, 1) := by decide +kernel
theorem dX6_drain_47 : decode cX6_drain 47 = .ok (.ifnull 64, 3) := by decide +kernel
theorem dX6_drain_50 : decode cX6_drain 50 = .ok (.aload_n 3, 1) := by decide +kernel
theorem dX6_drain_51 : decode cX6_drain 51 = .ok (.getfield 135, 3) := by decide +kernel
theorem dX6_drain_54 : decode cX6_drain 54 = .ok (.getfield 153, 3) := by decide +kernel
theorem dX6_drain_57 : decode cX6_drain 57 = .ok (.ifCond .ne 16, 3) := by decide +kernel
theorem dX6_drain_60 : decode cX6_drain 60 = .ok (.aload_n 3, 1) := by decide +kernel
theorem dX6_drain_61 : decode cX6_drain 61 = .ok (.getfield 141, 3) := by decide +kernel
theorem dX6_drain_64 : decode cX6_drain 64 = .ok (.getfield 153, 3) := by decide +kernel
theorem dX6_drain_67 : decode cX6_drain 67 = .ok (.ifCond .ne 6, 3) := by decide +kernel
theorem dX6_drain_70 : decode cX6_drain 70 = .ok (.iload 4, 2) := by decide +kernel
theorem dX6_drain_72 : decode cX6_drain 72 = .ok (.ireturn, 1) := by decide +kernel
theorem dX6_drain_73 : decode cX6_drain 73 = .ok (.iload 4, 2) := by decide +kernel
theorem dX6_drain_75 : decode cX6_drain 75 = .ok (.sipush 400, 3) := by decide +kernel
theorem dX6_drain_78 : decode cX6_drain 78 = .ok (.if_icmp .eq 18, 3) := by decide +kernel
theorem dX6_drain_81 : decode cX6_drain 81 = .ok (.aload_n 0, 1) := by decide +kernel
theorem dX6_drain_82 : decode cX6_drain 82 = .ok (.getfield 16, 3) := by decide +kernel
theorem dX6_drain_85 : decode cX6_drain 85 = .ok (.getfield 102, 3) := by decide +kernel
theorem dX6_drain_88 : decode cX6_drain 88 = .ok (.iconst 2, 1) := by decide +kernel
theorem dX6_drain_89 : decode cX6_drain 89 = .ok (.iadd, 1) := by decide +kernel
theorem dX6_drain_90 : decode cX6_drain 90 = .ok (.ldc_w 338, 3) := by decide +kernel
theorem dX6_drain_93 : decode cX6_drain 93 = .ok (.if_icmp .le 5, 3) := by decide +kernel
theorem dX6_drain_96 : decode cX6_drain 96 = .ok (.iconst (-1), 1) := by decide +kernel
theorem dX6_drain_97 : decode cX6_drain 97 = .ok (.ireturn, 1) := by decide +kernel
theorem dX6_drain_98 : decode cX6_drain 98 = .ok (.aload_n 0, 1) := by decide +kernel
theorem dX6_drain_99 : decode cX6_drain 99 = .ok (.getfield 16, 3) := by decide +kernel
theorem dX6_drain_102 : decode cX6_drain 102 = .ok (.invokevirtual 339, 3) := by decide +kernel
theorem dX6_drain_105 : decode cX6_drain 105 = .ok (.iinc 4 1, 3) := by decide +kernel
theorem dX6_drain_108 : decode cX6_drain 108 = .ok (.goto (-70), 3) := by decide +kernel
theorem dX6_drain_111 : decode cX6_drain 111 = .ok (.iconst (-1), 1) := by decide +kernel
theorem dX6_drain_112 : decode cX6_drain 112 = .ok (.ireturn, 1) := by decide +kernel
theorem dX6_ready_0 : decode cX6_ready 0 = .ok (.aload_n 0, 1) := by decide +kernel
theorem dX6_ready_1 : decode cX6_ready 1 = .ok (.getfield 12, 3) := by decide +kernel
theorem dX6_ready_4 : decode cX6_ready 4 = .ok (.iload_n 1, 1) := by decide +kernel
theorem dX6_ready_5 : decode cX6_ready 5 = .ok (.iload_n 2, 1) := by decide +kernel
theorem dX6_ready_6 : decode cX6_ready 6 = .ok (.invokevirtual 132, 3) := by decide +kernel
theorem dX6_ready_9 : decode cX6_ready 9 = .ok (.astore_n 3, 1) := by decide +kernel
theorem dX6_ready_10 : decode cX6_ready 10 = .ok (.aload_n 3, 1) := by decide +kernel
theorem dX6_ready_11 : decode cX6_ready 11 = .ok (.ifnonnull 5, 3) := by decide +kernel
theorem dX6_ready_14 : decode cX6_ready 14 = .ok (.iconst (-1), 1) := by decide +kernel
theorem dX6_ready_15 : decode cX6_ready 15 = .ok (.ireturn, 1) := by decide +kernel
theorem dX6_ready_16 : decode cX6_ready 16 = .ok (.iconst 0, 1) := by decide +kernel
theorem dX6_ready_17 : decode cX6_ready 17 = .ok (.istore 4, 2) := by decide +kernel
theorem dX6_ready_19 : decode cX6_ready 19 = .ok (.iload 4, 2) := by decide +kernel
theorem dX6_ready_21 : decode cX6_ready 21 = .ok (.sipush 200, 3) := by decide +kernel
theorem dX6_ready_24 : decode cX6_ready 24 = .ok (.if_icmp .ge 42, 3) := by decide +kernel
theorem dX6_ready_27 : decode cX6_ready 27 = .ok (.aload_n 0, 1) := by decide +kernel
theorem dX6_ready_28 : decode cX6_ready 28 = .ok (.getfield 12, 3) := by decide +kernel
theorem dX6_ready_31 : decode cX6_ready 31 = .ok (.iload_n 1, 1) := by decide +kernel
theorem dX6_ready_32 : decode cX6_ready 32 = .ok (.aload_n 3, 1) := by decide +kernel
theorem dX6_ready_33 : decode cX6_ready 33 = .ok (.aload_n 0, 1) := by decide +kernel
theorem dX6_ready_34 : decode cX6_ready 34 = .ok (.getfield 12, 3) := by decide +kernel
theorem dX6_ready_37 : decode cX6_ready 37 = .ok (.getfield 102, 3) := by decide +kernel
theorem dX6_ready_40 : decode cX6_ready 40 = .ok (.iload 4, 2) := by decide +kernel
theorem dX6_ready_42 : decode cX6_ready 42 = .ok (.iadd, 1) := by decide +kernel
theorem dX6_ready_43 : decode cX6_ready 43 = .ok (.invokevirtual 352, 3) := by decide +kernel
theorem dX6_ready_46 : decode cX6_ready 46 = .ok (.ifCond .eq 14, 3) := by decide +kernel
theorem dX6_ready_49 : decode cX6_ready 49 = .ok (.aload_n 0, 1) := by decide +kernel
theorem dX6_ready_50 : decode cX6_ready 50 = .ok (.getfield 12, 3) := by decide +kernel
theorem dX6_ready_53 : decode cX6_ready 53 = .ok (.getfield 102, 3) := by decide +kernel
theorem dX6_ready_56 : decode cX6_ready 56 = .ok (.iload 4, 2) := by decide +kernel
theorem dX6_ready_58 : decode cX6_ready 58 = .ok (.iadd, 1) := by decide +kernel
theorem dX6_ready_59 : decode cX6_ready 59 = .ok (.ireturn, 1) := by decide +kernel
theorem dX6_ready_60 : decode cX6_ready 60 = .ok (.iinc 4 2, 3) := by decide +kernel
theorem dX6_ready_63 : decode cX6_ready 63 = .ok (.goto (-44), 3) := by decide +kernel
theorem dX6_ready_66 : decode cX6_ready 66 = .ok (.iconst (-1), 1) := by decide +kernel
theorem dX6_ready_67 : decode cX6_ready 67 = .ok (.ireturn, 1) := by decide +kernel
theorem dX6_bothReady_0 : decode cX6_bothReady 0 = .ok (.aload_n 0, 1) := by decide +kernel
theorem dX6_bothReady_1 : decode cX6_bothReady 1 = .ok (.getfield 12, 3) := by decide +kernel
theorem dX6_bothReady_4 : decode cX6_bothReady 4 = .ok (.iload_n 1, 1) := by decide +kernel
theorem dX6_bothReady_5 : decode cX6_bothReady 5 = .ok (.iload_n 2, 1) := by decide +kernel
theorem dX6_bothReady_6 : decode cX6_bothReady 6 = .ok (.invokevirtual 132, 3) := by decide +kernel
theorem dX6_bothReady_9 : decode cX6_bothReady 9 = .ok (.astore 5, 2) := by decide +kernel
theorem dX6_bothReady_11 : decode cX6_bothReady 11 = .ok (.aload_n 0, 1) := by decide +kernel
theorem dX6_bothReady_12 : decode cX6_bothReady 12 = .ok (.getfield 12, 3) := by decide +kernel
theorem dX6_bothReady_15 : decode cX6_bothReady 15 = .ok (.iload_n 1, 1) := by decide +kernel
theorem dX6_bothReady_16 : decode cX6_bothReady 16 = .ok (.iload_n 3, 1) := by decide +kernel
theorem dX6_bothReady_17 : decode cX6_bothReady 17 = .ok (.invokevirtual 132, 3) := by decide +kernel
theorem dX6_bothReady_20 : decode cX6_bothReady 20 = .ok (.astore 6, 2) := by decide +kernel
theorem dX6_bothReady_22 : decode cX6_bothReady 22 = .ok (.aload 5, 2) := by decide +kernel
theorem dX6_bothReady_24 : decode cX6_bothReady 24 = .ok (.ifnull 20, 3) := by decide +kernel
theorem dX6_bothReady_27 : decode cX6_bothReady 27 = .ok (.aload 6, 2) := by decide +kernel
theorem dX6_bothReady_29 : decode cX6_bothReady 29 = .ok (.ifnull 15, 3) := by decide +kernel
theorem dX6_bothReady_32 : decode cX6_bothReady 32 = .ok (.iload 4, 2) := by decide +kernel
theorem dX6_bothReady_34 : decode cX6_bothReady 34 = .ok (.iconst 1, 1) := by decide +kernel
theorem dX6_bothReady_35 : decode cX6_bothReady 35 = .ok (.sipush 200, 3) := by decide +kernel
theorem dX6_bothReady_38 : decode cX6_bothReady 38 = .ok (.invokestatic 54, 3) := by decide +kernel
theorem dX6_bothReady_41 : decode cX6_bothReady 41 = .ok (.ifCond .ne 5, 3) := by decide +kernel
theorem dX6_bothReady_44 : decode cX6_bothReady 44 = .ok (.iconst (-1), 1) := by decide +kernel
theorem dX6_bothReady_45 : decode cX6_bothReady 45 = .ok (.ireturn, 1) := by decide +kernel
theorem dX6_bothReady_46 : decode cX6_bothReady 46 = .ok (.iconst 0, 1) := by decide +kernel
theorem dX6_bothReady_47 : decode cX6_bothReady 47 = .ok (.istore 7, 2) := by decide +kernel
theorem dX6_bothReady_49 : decode cX6_bothReady 49 = .ok (.iconst 0, 1) := by decide +kernel
theorem dX6_bothReady_50 : decode cX6_bothReady 50 = .ok (.istore 8, 2) := by decide +kernel
theorem dX6_bothReady_52 : decode cX6_bothReady 52 = .ok (.iload 8, 2) := by decide +kernel
theorem dX6_bothReady_54 : decode cX6_bothReady 54 = .ok (.iload 4, 2) := by decide +kernel
theorem dX6_bothReady_56 : decode cX6_bothReady 56 = .ok (.if_icmp .ge 56, 3) := by decide +kernel
theorem dX6_bothReady_59 : decode cX6_bothReady 59 = .ok (.aload_n 0, 1) := by decide +kernel
theorem dX6_bothReady_60 : decode cX6_bothReady 60 = .ok (.getfield 12, 3) := by decide +kernel
theorem dX6_bothReady_63 : decode cX6_bothReady 63 = .ok (.getfield 102, 3) := by decide +kernel
theorem dX6_bothReady_66 : decode cX6_bothReady 66 = .ok (.iconst 2, 1) := by decide +kernel
theorem dX6_bothReady_67 : decode cX6_bothReady 67 = .ok (.iload 8, 2) := by decide +kernel
theorem dX6_bothReady_69 : decode cX6_bothReady 69 = .ok (.imul, 1) := by decide +kernel
theorem dX6_bothReady_70 : decode cX6_bothReady 70 = .ok (.iadd, 1) := by decide +kernel
theorem dX6_bothReady_71 : decode cX6_bothReady 71 = .ok (.istore 9, 2) := by decide +kernel
theorem dX6_bothReady_73 : decode cX6_bothReady 73 = .ok (.aload_n 0, 1) := by decide +kernel
theorem dX6_bothReady_74 : decode cX6_bothReady 74 = .ok (.getfield 12, 3) := by decide +kernel
theorem dX6_bothReady_77 : decode cX6_bothReady 77 = .ok (.iload_n 1, 1) := by decide +kernel
theorem dX6_bothReady_78 : decode cX6_bothReady 78 = .ok (.aload 5, 2) := by decide +kernel
theorem dX6_bothReady_80 : decode cX6_bothReady 80 = .ok (.iload 9, 2) := by decide +kernel
theorem dX6_bothReady_82 : decode cX6_bothReady 82 = .ok (.invokevirtual 352, 3) := by decide +kernel
theorem dX6_bothReady_85 : decode cX6_bothReady 85 = .ok (.ifCond .eq 21, 3) := by decide +kernel
theorem dX6_bothReady_88 : decode cX6_bothReady 88 = .ok (.aload_n 0, 1) := by decide +kernel
theorem dX6_bothReady_89 : decode cX6_bothReady 89 = .ok (.getfield 12, 3) := by decide +kernel
theorem dX6_bothReady_92 : decode cX6_bothReady 92 = .ok (.iload_n 1, 1) := by decide +kernel
theorem dX6_bothReady_93 : decode cX6_bothReady 93 = .ok (.aload 6, 2) := by decide +kernel
theorem dX6_bothReady_95 : decode cX6_bothReady 95 = .ok (.iload 9, 2) := by decide +kernel
theorem dX6_bothReady_97 : decode cX6_bothReady 97 = .ok (.invokevirtual 352, 3) := by decide +kernel
theorem dX6_bothReady_100 : decode cX6_bothReady 100 = .ok (.ifCond .eq 6, 3) := by decide +kernel
theorem dX6_bothReady_103 : decode cX6_bothReady 103 = .ok (.iinc 7 1, 3) := by decide +kernel
theorem dX6_bothReady_106 : decode cX6_bothReady 106 = .ok (.iinc 8 1, 3) := by decide +kernel
theorem dX6_bothReady_109 : decode cX6_bothReady 109 = .ok (.goto (-57), 3) := by decide +kernel
theorem dX6_bothReady_112 : decode cX6_bothReady 112 = .ok (.iload 7, 2) := by decide +kernel
theorem dX6_bothReady_114 : decode cX6_bothReady 114 = .ok (.ireturn, 1) := by decide +kernel
theorem dX6_ahead_0 : decode cX6_ahead 0 = .ok (.aload_n 0, 1) := by decide +kernel
theorem dX6_ahead_1 : decode cX6_ahead 1 = .ok (.getfield 12, 3) := by decide +kernel
theorem dX6_ahead_4 : decode cX6_ahead 4 = .ok (.iload_n 1, 1) := by decide +kernel
theorem dX6_ahead_5 : decode cX6_ahead 5 = .ok (.invokevirtual 95, 3) := by decide +kernel
theorem dX6_ahead_8 : decode cX6_ahead 8 = .ok (.ifnull 22, 3) := by decide +kernel
theorem dX6_ahead_11 : decode cX6_ahead 11 = .ok (.iload_n 2, 1) := by decide +kernel
theorem dX6_ahead_12 : decode cX6_ahead 12 = .ok (.iconst 1, 1) := by decide +kernel
theorem dX6_ahead_13 : decode cX6_ahead 13 = .ok (.sipush 200, 3) := by decide +kernel
theorem dX6_ahead_16 : decode cX6_ahead 16 = .ok (.invokestatic 54, 3) := by decide +kernel
theorem dX6_ahead_19 : decode cX6_ahead 19 = .ok (.ifCond .eq 11, 3) := by decide +kernel
theorem dX6_ahead_22 : decode cX6_ahead 22 = .ok (.aload_n 0, 1) := by decide +kernel
theorem dX6_ahead_23 : decode cX6_ahead 23 = .ok (.iload_n 2, 1) := by decide +kernel
theorem dX6_ahead_24 : decode cX6_ahead 24 = .ok (.invokevirtual 213, 3) := by decide +kernel
theorem dX6_ahead_27 : decode cX6_ahead 27 = .ok (.ifCond .ne 5, 3) := by decide +kernel
theorem dX6_ahead_30 : decode cX6_ahead 30 = .ok (.iconst (-1), 1) := by decide +kernel
theorem dX6_ahead_31 : decode cX6_ahead 31 = .ok (.ireturn, 1) := by decide +kernel
theorem dX6_ahead_32 : decode cX6_ahead 32 = .ok (.aload_n 0, 1) := by decide +kernel
theorem dX6_ahead_33 : decode cX6_ahead 33 = .ok (.aload_n 0, 1) := by decide +kernel
theorem dX6_ahead_34 : decode cX6_ahead 34 = .ok (.getfield 12, 3) := by decide +kernel
theorem dX6_ahead_37 : decode cX6_ahead 37 = .ok (.getfield 126, 3) := by decide +kernel
theorem dX6_ahead_40 : decode cX6_ahead 40 = .ok (.invokevirtual 342, 3) := by decide +kernel
theorem dX6_ahead_43 : decode cX6_ahead 43 = .ok (.iload_n 2, 1) := by decide +kernel
theorem dX6_ahead_44 : decode cX6_ahead 44 = .ok (.invokevirtual 216, 3) := by decide +kernel
theorem dX6_ahead_47 : decode cX6_ahead 47 = .ok (.pop, 1) := by decide +kernel
theorem dX6_ahead_48 : decode cX6_ahead 48 = .ok (.aload_n 0, 1) := by decide +kernel
theorem dX6_ahead_49 : decode cX6_ahead 49 = .ok (.getfield 16, 3) := by decide +kernel
theorem dX6_ahead_52 : decode cX6_ahead 52 = .ok (.getfield 80, 3) := by decide +kernel
theorem dX6_ahead_55 : decode cX6_ahead 55 = .ok (.iload_n 1, 1) := by decide +kernel
theorem dX6_ahead_56 : decode cX6_ahead 56 = .ok (.aaload, 1) := by decide +kernel
theorem dX6_ahead_57 : decode cX6_ahead 57 = .ok (.astore_n 3, 1) := by decide +kernel
theorem dX6_ahead_58 : decode cX6_ahead 58 = .ok (.aload_n 3, 1) := by decide +kernel
theorem dX6_ahead_59 : decode cX6_ahead 59 = .ok (.getfield 356, 3) := by decide +kernel
theorem dX6_ahead_62 : decode cX6_ahead 62 = .ok (.ifCond .eq 8, 3) := by decide +kernel
theorem dX6_ahead_65 : decode cX6_ahead 65 = .ok (.bipush (-2), 2) := by decide +kernel
theorem dX6_ahead_67 : decode cX6_ahead 67 = .ok (.goto 7, 3) := by decide +kernel
theorem dX6_ahead_70 : decode cX6_ahead 70 = .ok (.aload_n 3, 1) := by decide +kernel
theorem dX6_ahead_71 : decode cX6_ahead 71 = .ok (.getfield 359, 3) := by decide +kernel
theorem dX6_ahead_74 : decode cX6_ahead 74 = .ok (.ireturn, 1) := by decide +kernel
theorem dX6_together_0 : decode cX6_together 0 = .ok (.aload_n 0, 1) := by decide +kernel
theorem dX6_together_1 : decode cX6_together 1 = .ok (.getfield 12, 3) := by decide +kernel
theorem dX6_together_4 : decode cX6_together 4 = .ok (.iload_n 1, 1) := by decide +kernel
theorem dX6_together_5 : decode cX6_together 5 = .ok (.iload_n 2, 1) := by decide +kernel
theorem dX6_together_6 : decode cX6_together 6 = .ok (.invokevirtual 132, 3) := by decide +kernel
theorem dX6_together_9 : decode cX6_together 9 = .ok (.astore 4, 2) := by decide +kernel
theorem dX6_together_11 : decode cX6_together 11 = .ok (.aload_n 0, 1) := by decide +kernel
theorem dX6_together_12 : decode cX6_together 12 = .ok (.getfield 12, 3) := by decide +kernel
theorem dX6_together_15 : decode cX6_together 15 = .ok (.iload_n 1, 1) := by decide +kernel
theorem dX6_together_16 : decode cX6_together 16 = .ok (.iload_n 3, 1) := by decide +kernel
theorem dX6_together_17 : decode cX6_together 17 = .ok (.invokevirtual 132, 3) := by decide +kernel
theorem dX6_together_20 : decode cX6_together 20 = .ok (.astore 5, 2) := by decide +kernel
theorem dX6_together_22 : decode cX6_together 22 = .ok (.aload 4, 2) := by decide +kernel
theorem dX6_together_24 : decode cX6_together 24 = .ok (.ifnull 13, 3) := by decide +kernel
theorem dX6_together_27 : decode cX6_together 27 = .ok (.aload 5, 2) := by decide +kernel
theorem dX6_together_29 : decode cX6_together 29 = .ok (.ifnull 8, 3) := by decide +kernel
theorem dX6_together_32 : decode cX6_together 32 = .ok (.iload_n 2, 1) := by decide +kernel
theorem dX6_together_33 : decode cX6_together 33 = .ok (.iload_n 3, 1) := by decide +kernel
theorem dX6_together_34 : decode cX6_together 34 = .ok (.if_icmp .ne 5, 3) := by decide +kernel
theorem dX6_together_37 : decode cX6_together 37 = .ok (.iconst (-1), 1) := by decide +kernel
theorem dX6_together_38 : decode cX6_together 38 = .ok (.ireturn, 1) := by decide +kernel
theorem dX6_together_39 : decode cX6_together 39 = .ok (.iconst 0, 1) := by decide +kernel
theorem dX6_together_40 : decode cX6_together 40 = .ok (.istore 6, 2) := by decide +kernel
theorem dX6_together_42 : decode cX6_together 42 = .ok (.iload 6, 2) := by decide +kernel
theorem dX6_together_44 : decode cX6_together 44 = .ok (.sipush 2000, 3) := by decide +kernel
theorem dX6_together_47 : decode cX6_together 47 = .ok (.if_icmp .ge 50, 3) := by decide +kernel
theorem dX6_together_50 : decode cX6_together 50 = .ok (.aload_n 0, 1) := by decide +kernel
theorem dX6_together_51 : decode cX6_together 51 = .ok (.getfield 12, 3) := by decide +kernel
theorem dX6_together_54 : decode cX6_together 54 = .ok (.getfield 102, 3) := by decide +kernel
theorem dX6_together_57 : decode cX6_together 57 = .ok (.iload 6, 2) := by decide +kernel
theorem dX6_together_59 : decode cX6_together 59 = .ok (.iadd, 1) := by decide +kernel
theorem dX6_together_60 : decode cX6_together 60 = .ok (.istore 7, 2) := by decide +kernel
theorem dX6_together_62 : decode cX6_together 62 = .ok (.aload 4, 2) := by decide +kernel
theorem dX6_together_64 : decode cX6_together 64 = .ok (.getfield 159, 3) := by decide +kernel
theorem dX6_together_67 : decode cX6_together 67 = .ok (.iload 7, 2) := by decide +kernel
theorem dX6_together_69 : decode cX6_together 69 = .ok (.invokevirtual 362, 3) := by decide +kernel
theorem dX6_together_72 : decode cX6_together 72 = .ok (.ifCond .eq 19, 3) := by decide +kernel
theorem dX6_together_75 : decode cX6_together 75 = .ok (.aload 5, 2) := by decide +kernel
theorem dX6_together_77 : decode cX6_together 77 = .ok (.getfield 159, 3) := by decide +kernel
theorem dX6_together_80 : decode cX6_together 80 = .ok (.iload 7, 2) := by decide +kernel
theorem dX6_together_82 : decode cX6_together 82 = .ok (.invokevirtual 362, 3) := by decide +kernel
theorem dX6_together_85 : decode cX6_together 85 = .ok (.ifCond .eq 6, 3) := by decide +kernel
theorem dX6_together_88 : decode cX6_together 88 = .ok (.iload 7, 2) := by decide +kernel
theorem dX6_together_90 : decode cX6_together 90 = .ok (.ireturn, 1) := by decide +kernel
theorem dX6_together_91 : decode cX6_together 91 = .ok (.iinc 6 2, 3) := by decide +kernel
theorem dX6_together_94 : decode cX6_together 94 = .ok (.goto (-52), 3) := by decide +kernel
theorem dX6_together_97 : decode cX6_together 97 = .ok (.iconst (-1), 1) := by decide +kernel
theorem dX6_together_98 : decode cX6_together 98 = .ok (.ireturn, 1) := by decide +kernel
theorem dX6_ranked_0 : decode cX6_ranked 0 = .ok (.aload_n 0, 1) := by decide +kernel
theorem dX6_ranked_1 : decode cX6_ranked 1 = .ok (.getfield 12, 3) := by decide +kernel
theorem dX6_ranked_4 : decode cX6_ranked 4 = .ok (.iload_n 1, 1) := by decide +kernel
theorem dX6_ranked_5 : decode cX6_ranked 5 = .ok (.invokevirtual 95, 3) := by decide +kernel
theorem dX6_ranked_8 : decode cX6_ranked 8 = .ok (.astore_n 3, 1) := by decide +kernel
theorem dX6_ranked_9 : decode cX6_ranked 9 = .ok (.aload_n 3, 1) := by decide +kernel
theorem dX6_ranked_10 : decode cX6_ranked 10 = .ok (.ifnull 13, 3) := by decide +kernel
theorem dX6_ranked_13 : decode cX6_ranked 13 = .ok (.iload_n 2, 1) := by decide +kernel
theorem dX6_ranked_14 : decode cX6_ranked 14 = .ok (.iconst 0, 1) := by decide +kernel
theorem dX6_ranked_15 : decode cX6_ranked 15 = .ok (.bipush 22, 2) := by decide +kernel
theorem dX6_ranked_17 : decode cX6_ranked 17 = .ok (.invokestatic 54, 3) := by decide +kernel
theorem dX6_ranked_20 : decode cX6_ranked 20 = .ok (.ifCond .ne 5, 3) := by decide +kernel
theorem dX6_ranked_23 : decode cX6_ranked 23 = .ok (.iconst (-1), 1) := by decide +kernel
theorem dX6_ranked_24 : decode cX6_ranked 24 = .ok (.ireturn, 1) := by decide +kernel
theorem dX6_ranked_25 : decode cX6_ranked 25 = .ok (.iconst 0, 1) := by decide +kernel
theorem dX6_ranked_26 : decode cX6_ranked 26 = .ok (.istore 4, 2) := by decide +kernel
theorem dX6_ranked_28 : decode cX6_ranked 28 = .ok (.iload 4, 2) := by decide +kernel
theorem dX6_ranked_30 : decode cX6_ranked 30 = .ok (.bipush 23, 2) := by decide +kernel
theorem dX6_ranked_32 : decode cX6_ranked 32 = .ok (.if_icmp .ge 32, 3) := by decide +kernel
theorem dX6_ranked_35 : decode cX6_ranked 35 = .ok (.aload_n 3, 1) := by decide +kernel
theorem dX6_ranked_36 : decode cX6_ranked 36 = .ok (.getfield 265, 3) := by decide +kernel
theorem dX6_ranked_39 : decode cX6_ranked 39 = .ok (.iload 4, 2) := by decide +kernel
theorem dX6_ranked_41 : decode cX6_ranked 41 = .ok (.iaload, 1) := by decide +kernel
theorem dX6_ranked_42 : decode cX6_ranked 42 = .ok (.ifCond .le 16, 3) := by decide +kernel
theorem dX6_ranked_45 : decode cX6_ranked 45 = .ok (.aload_n 3, 1) := by decide +kernel
theorem dX6_ranked_46 : decode cX6_ranked 46 = .ok (.iload 4, 2) := by decide +kernel
theorem dX6_ranked_48 : decode cX6_ranked 48 = .ok (.invokevirtual 365, 3) := by decide +kernel
theorem dX6_ranked_51 : decode cX6_ranked 51 = .ok (.iload_n 2, 1) := by decide +kernel
theorem dX6_ranked_52 : decode cX6_ranked 52 = .ok (.if_icmp .ne 6, 3) := by decide +kernel
theorem dX6_ranked_55 : decode cX6_ranked 55 = .ok (.iload 4, 2) := by decide +kernel
theorem dX6_ranked_57 : decode cX6_ranked 57 = .ok (.ireturn, 1) := by decide +kernel
theorem dX6_ranked_58 : decode cX6_ranked 58 = .ok (.iinc 4 1, 3) := by decide +kernel
theorem dX6_ranked_61 : decode cX6_ranked 61 = .ok (.goto (-33), 3) := by decide +kernel
theorem dX6_ranked_64 : decode cX6_ranked 64 = .ok (.iconst (-1), 1) := by decide +kernel
theorem dX6_ranked_65 : decode cX6_ranked 65 = .ok (.ireturn, 1) := by decide +kernel
theorem dX6_quiet_0 : decode cX6_quiet 0 = .ok (.aload_n 0, 1) := by decide +kernel
theorem dX6_quiet_1 : decode cX6_quiet 1 = .ok (.getfield 12, 3) := by decide +kernel
theorem dX6_quiet_4 : decode cX6_quiet 4 = .ok (.iload_n 1, 1) := by decide +kernel
theorem dX6_quiet_5 : decode cX6_quiet 5 = .ok (.invokevirtual 95, 3) := by decide +kernel
theorem dX6_quiet_8 : decode cX6_quiet 8 = .ok (.astore_n 3, 1) := by decide +kernel
theorem dX6_quiet_9 : decode cX6_quiet 9 = .ok (.aload_n 3, 1) := by decide +kernel
theorem dX6_quiet_10 : decode cX6_quiet 10 = .ok (.ifnull 14, 3) := by decide +kernel
theorem dX6_quiet_13 : decode cX6_quiet 13 = .ok (.iload_n 2, 1) := by decide +kernel
theorem dX6_quiet_14 : decode cX6_quiet 14 = .ok (.iconst 0, 1) := by decide +kernel
theorem dX6_quiet_15 : decode cX6_quiet 15 = .ok (.sipush 9999, 3) := by decide +kernel
theorem dX6_quiet_18 : decode cX6_quiet 18 = .ok (.invokestatic 54, 3) := by decide +kernel
theorem dX6_quiet_21 : decode cX6_quiet 21 = .ok (.ifCond .ne 5, 3) := by decide +kernel
theorem dX6_quiet_24 : decode cX6_quiet 24 = .ok (.iconst (-1), 1) := by decide +kernel
theorem dX6_quiet_25 : decode cX6_quiet 25 = .ok (.ireturn, 1) := by decide +kernel
theorem dX6_quiet_26 : decode cX6_quiet 26 = .ok (.iconst 0, 1) := by decide +kernel
theorem dX6_quiet_27 : decode cX6_quiet 27 = .ok (.istore 4, 2) := by decide +kernel
theorem dX6_quiet_29 : decode cX6_quiet 29 = .ok (.iconst 0, 1) := by decide +kernel
theorem dX6_quiet_30 : decode cX6_quiet 30 = .ok (.istore 5, 2) := by decide +kernel
theorem dX6_quiet_32 : decode cX6_quiet 32 = .ok (.iload 5, 2) := by decide +kernel
theorem dX6_quiet_34 : decode cX6_quiet 34 = .ok (.aload_n 3, 1) := by decide +kernel
theorem dX6_quiet_35 : decode cX6_quiet 35 = .ok (.getfield 92, 3) := by decide +kernel
theorem dX6_quiet_38 : decode cX6_quiet 38 = .ok (.if_icmp .ge 48, 3) := by decide +kernel
theorem dX6_quiet_41 : decode cX6_quiet 41 = .ok (.iload 5, 2) := by decide +kernel
theorem dX6_quiet_43 : decode cX6_quiet 43 = .ok (.iconst 4, 1) := by decide +kernel
theorem dX6_quiet_44 : decode cX6_quiet 44 = .ok (.if_icmp .ge 42, 3) := by decide +kernel
theorem dX6_quiet_47 : decode cX6_quiet 47 = .ok (.aload_n 0, 1) := by decide +kernel
theorem dX6_quiet_48 : decode cX6_quiet 48 = .ok (.getfield 12, 3) := by decide +kernel
theorem dX6_quiet_51 : decode cX6_quiet 51 = .ok (.getfield 102, 3) := by decide +kernel
theorem dX6_quiet_54 : decode cX6_quiet 54 = .ok (.aload_n 3, 1) := by decide +kernel
theorem dX6_quiet_55 : decode cX6_quiet 55 = .ok (.getfield 368, 3) := by decide +kernel
theorem dX6_quiet_58 : decode cX6_quiet 58 = .ok (.iload 5, 2) := by decide +kernel
theorem dX6_quiet_60 : decode cX6_quiet 60 = .ok (.aaload, 1) := by decide +kernel
theorem dX6_quiet_61 : decode cX6_quiet 61 = .ok (.getfield 372, 3) := by decide +kernel
theorem dX6_quiet_64 : decode cX6_quiet 64 = .ok (.isub, 1) := by decide +kernel
theorem dX6_quiet_65 : decode cX6_quiet 65 = .ok (.iconst 2, 1) := by decide +kernel
theorem dX6_quiet_66 : decode cX6_quiet 66 = .ok (.idiv, 1) := by decide +kernel
theorem dX6_quiet_67 : decode cX6_quiet 67 = .ok (.iload_n 2, 1) := by decide +kernel
theorem dX6_quiet_68 : decode cX6_quiet 68 = .ok (.if_icmp .lt 12, 3) := by decide +kernel
theorem dX6_quiet_71 : decode cX6_quiet 71 = .ok (.iload 4, 2) := by decide +kernel
theorem dX6_quiet_73 : decode cX6_quiet 73 = .ok (.iconst 1, 1) := by decide +kernel
theorem dX6_quiet_74 : decode cX6_quiet 74 = .ok (.iload 5, 2) := by decide +kernel
theorem dX6_quiet_76 : decode cX6_quiet 76 = .ok (.ishl, 1) := by decide +kernel
theorem dX6_quiet_77 : decode cX6_quiet 77 = .ok (.ior, 1) := by decide +kernel
theorem dX6_quiet_78 : decode cX6_quiet 78 = .ok (.istore 4, 2) := by decide +kernel
theorem dX6_quiet_80 : decode cX6_quiet 80 = .ok (.iinc 5 1, 3) := by decide +kernel
theorem dX6_quiet_83 : decode cX6_quiet 83 = .ok (.goto (-51), 3) := by decide +kernel
theorem dX6_quiet_86 : decode cX6_quiet 86 = .ok (.iload 4, 2) := by decide +kernel
theorem dX6_quiet_88 : decode cX6_quiet 88 = .ok (.ireturn, 1) := by decide +kernel
theorem dX6_ofNet_0 : decode cX6_ofNet 0 = .ok (.aload_n 0, 1) := by decide +kernel
theorem dX6_ofNet_1 : decode cX6_ofNet 1 = .ok (.getfield 12, 3) := by decide +kernel
theorem dX6_ofNet_4 : decode cX6_ofNet 4 = .ok (.iload_n 1, 1) := by decide +kernel
theorem dX6_ofNet_5 : decode cX6_ofNet 5 = .ok (.invokevirtual 95, 3) := by decide +kernel
theorem dX6_ofNet_8 : decode cX6_ofNet 8 = .ok (.astore_n 3, 1) := by decide +kernel
theorem dX6_ofNet_9 : decode cX6_ofNet 9 = .ok (.aload_n 3, 1) := by decide +kernel
theorem dX6_ofNet_10 : decode cX6_ofNet 10 = .ok (.ifnonnull 5, 3) := by decide +kernel
theorem dX6_ofNet_13 : decode cX6_ofNet 13 = .ok (.iconst (-1), 1) := by decide +kernel
theorem dX6_ofNet_14 : decode cX6_ofNet 14 = .ok (.ireturn, 1) := by decide +kernel
theorem dX6_ofNet_15 : decode cX6_ofNet 15 = .ok (.iload_n 2, 1) := by decide +kernel
theorem dX6_ofNet_16 : decode cX6_ofNet 16 = .ok (.tableswitch 79 0 6 #[44, 49, 54, 59, 64, 69, 74], 44) := by decide +kernel
theorem dX6_ofNet_60 : decode cX6_ofNet 60 = .ok (.aload_n 3, 1) := by decide +kernel
theorem dX6_ofNet_61 : decode cX6_ofNet 61 = .ok (.getfield 84, 3) := by decide +kernel
theorem dX6_ofNet_64 : decode cX6_ofNet 64 = .ok (.ireturn, 1) := by decide +kernel
theorem dX6_ofNet_65 : decode cX6_ofNet 65 = .ok (.aload_n 3, 1) := by decide +kernel
theorem dX6_ofNet_66 : decode cX6_ofNet 66 = .ok (.getfield 89, 3) := by decide +kernel
theorem dX6_ofNet_69 : decode cX6_ofNet 69 = .ok (.ireturn, 1) := by decide +kernel
theorem dX6_ofNet_70 : decode cX6_ofNet 70 = .ok (.aload_n 3, 1) := by decide +kernel
theorem dX6_ofNet_71 : decode cX6_ofNet 71 = .ok (.getfield 92, 3) := by decide +kernel
theorem dX6_ofNet_74 : decode cX6_ofNet 74 = .ok (.ireturn, 1) := by decide +kernel
theorem dX6_ofNet_75 : decode cX6_ofNet 75 = .ok (.aload_n 3, 1) := by decide +kernel
theorem dX6_ofNet_76 : decode cX6_ofNet 76 = .ok (.getfield 375, 3) := by decide +kernel
theorem dX6_ofNet_79 : decode cX6_ofNet 79 = .ok (.ireturn, 1) := by decide +kernel
theorem dX6_ofNet_80 : decode cX6_ofNet 80 = .ok (.aload_n 3, 1) := by decide +kernel
theorem dX6_ofNet_81 : decode cX6_ofNet 81 = .ok (.getfield 181, 3) := by decide +kernel
theorem dX6_ofNet_84 : decode cX6_ofNet 84 = .ok (.ireturn, 1) := by decide +kernel
theorem dX6_ofNet_85 : decode cX6_ofNet 85 = .ok (.aload_n 3, 1) := by decide +kernel
theorem dX6_ofNet_86 : decode cX6_ofNet 86 = .ok (.getfield 378, 3) := by decide +kernel
theorem dX6_ofNet_89 : decode cX6_ofNet 89 = .ok (.ireturn, 1) := by decide +kernel
theorem dX6_ofNet_90 : decode cX6_ofNet 90 = .ok (.aload_n 3, 1) := by decide +kernel
theorem dX6_ofNet_91 : decode cX6_ofNet 91 = .ok (.getfield 381, 3) := by decide +kernel
theorem dX6_ofNet_94 : decode cX6_ofNet 94 = .ok (.ireturn, 1) := by decide +kernel
theorem dX6_ofNet_95 : decode cX6_ofNet 95 = .ok (.iconst (-1), 1) := by decide +kernel
theorem dX6_ofNet_96 : decode cX6_ofNet 96 = .ok (.ireturn, 1) := by decide +kernel
theorem dX6_hash_0 : decode cX6_hash 0 = .ok (.aload_n 0, 1) := by decide +kernel
theorem dX6_hash_1 : decode cX6_hash 1 = .ok (.getfield 12, 3) := by decide +kernel
theorem dX6_hash_4 : decode cX6_hash 4 = .ok (.iload_n 1, 1) := by decide +kernel
theorem dX6_hash_5 : decode cX6_hash 5 = .ok (.iload_n 2, 1) := by decide +kernel
theorem dX6_hash_6 : decode cX6_hash 6 = .ok (.invokevirtual 132, 3) := by decide +kernel
theorem dX6_hash_9 : decode cX6_hash 9 = .ok (.astore 4, 2) := by decide +kernel
theorem dX6_hash_11 : decode cX6_hash 11 = .ok (.aload 4, 2) := by decide +kernel
theorem dX6_hash_13 : decode cX6_hash 13 = .ok (.ifnonnull 5, 3) := by decide +kernel
theorem dX6_hash_16 : decode cX6_hash 16 = .ok (.iconst 0, 1) := by decide +kernel
theorem dX6_hash_17 : decode cX6_hash 17 = .ok (.ireturn, 1) := by decide +kernel
theorem dX6_hash_18 : decode cX6_hash 18 = .ok (.iload_n 3, 1) := by decide +kernel
theorem dX6_hash_19 : decode cX6_hash 19 = .ok (.tableswitch 49 0 2 #[25, 34, 43], 25) := by decide +kernel
theorem dX6_hash_44 : decode cX6_hash 44 = .ok (.aload 4, 2) := by decide +kernel
theorem dX6_hash_46 : decode cX6_hash 46 = .ok (.getfield 135, 3) := by decide +kernel
theorem dX6_hash_49 : decode cX6_hash 49 = .ok (.getfield 301, 3) := by decide +kernel
theorem dX6_hash_52 : decode cX6_hash 52 = .ok (.ireturn, 1) := by decide +kernel
theorem dX6_hash_53 : decode cX6_hash 53 = .ok (.aload 4, 2) := by decide +kernel
theorem dX6_hash_55 : decode cX6_hash 55 = .ok (.getfield 141, 3) := by decide +kernel
theorem dX6_hash_58 : decode cX6_hash 58 = .ok (.getfield 301, 3) := by decide +kernel
theorem dX6_hash_61 : decode cX6_hash 61 = .ok (.ireturn, 1) := by decide +kernel
theorem dX6_hash_62 : decode cX6_hash 62 = .ok (.aload 4, 2) := by decide +kernel
theorem dX6_hash_64 : decode cX6_hash 64 = .ok (.getfield 304, 3) := by decide +kernel
theorem dX6_hash_67 : decode cX6_hash 67 = .ok (.ireturn, 1) := by decide +kernel
theorem dX6_hash_68 : decode cX6_hash 68 = .ok (.iconst 0, 1) := by decide +kernel
theorem dX6_hash_69 : decode cX6_hash 69 = .ok (.ireturn, 1) := by decide +kernel
theorem dX6_isThere_0 : decode cX6_isThere 0 = .ok (.iload_n 2, 1) := by decide +kernel
theorem dX6_isThere_1 : decode cX6_isThere 1 = .ok (.iconst 0, 1) := by decide +kernel
theorem dX6_isThere_2 : decode cX6_isThere 2 = .ok (.iconst 1, 1) := by decide +kernel
theorem dX6_isThere_3 : decode cX6_isThere 3 = .ok (.invokestatic 54, 3) := by decide +kernel
theorem dX6_isThere_6 : decode cX6_isThere 6 = .ok (.ifCond .eq 17, 3) := by decide +kernel
theorem dX6_isThere_9 : decode cX6_isThere 9 = .ok (.iload_n 3, 1) := by decide +kernel
theorem dX6_isThere_10 : decode cX6_isThere 10 = .ok (.iconst 0, 1) := by decide +kernel
theorem dX6_isThere_11 : decode cX6_isThere 11 = .ok (.ldc 232, 2) := by decide +kernel
theorem dX6_isThere_13 : decode cX6_isThere 13 = .ok (.invokestatic 54, 3) := by decide +kernel
theorem dX6_isThere_16 : decode cX6_isThere 16 = .ok (.ifCond .eq 7, 3) := by decide +kernel
theorem dX6_isThere_19 : decode cX6_isThere 19 = .ok (.iconst 1, 1) := by decide +kernel
theorem dX6_isThere_20 : decode cX6_isThere 20 = .ok (.goto 4, 3) := by decide +kernel
theorem dX6_isThere_23 : decode cX6_isThere 23 = .ok (.iconst 0, 1) := by decide +kernel
theorem dX6_isThere_24 : decode cX6_isThere 24 = .ok (.istore 4, 2) := by decide +kernel
theorem dX6_isThere_26 : decode cX6_isThere 26 = .ok (.iload 4, 2) := by decide +kernel
theorem dX6_isThere_28 : decode cX6_isThere 28 = .ok (.ifCond .eq 14, 3) := by decide +kernel
theorem dX6_isThere_31 : decode cX6_isThere 31 = .ok (.aload_n 0, 1) := by decide +kernel
theorem dX6_isThere_32 : decode cX6_isThere 32 = .ok (.getfield 12, 3) := by decide +kernel
theorem dX6_isThere_35 : decode cX6_isThere 35 = .ok (.iload_n 1, 1) := by decide +kernel
theorem dX6_isThere_36 : decode cX6_isThere 36 = .ok (.invokevirtual 76, 3) := by decide +kernel
theorem dX6_isThere_39 : decode cX6_isThere 39 = .ok (.ifCond .ne 5, 3) := by decide +kernel
theorem dX6_isThere_42 : decode cX6_isThere 42 = .ok (.iconst (-1), 1) := by decide +kernel
theorem dX6_isThere_43 : decode cX6_isThere 43 = .ok (.ireturn, 1) := by decide +kernel
theorem dX6_isThere_44 : decode cX6_isThere 44 = .ok (.aload_n 0, 1) := by decide +kernel
theorem dX6_isThere_45 : decode cX6_isThere 45 = .ok (.getfield 12, 3) := by decide +kernel
theorem dX6_isThere_48 : decode cX6_isThere 48 = .ok (.iload_n 1, 1) := by decide +kernel
theorem dX6_isThere_49 : decode cX6_isThere 49 = .ok (.iload_n 2, 1) := by decide +kernel
theorem dX6_isThere_50 : decode cX6_isThere 50 = .ok (.iload_n 3, 1) := by decide +kernel
theorem dX6_isThere_51 : decode cX6_isThere 51 = .ok (.invokevirtual 322, 3) := by decide +kernel
theorem dX6_isThere_54 : decode cX6_isThere 54 = .ok (.invokestatic 242, 3) := by decide +kernel
theorem dX6_isThere_57 : decode cX6_isThere 57 = .ok (.ireturn, 1) := by decide +kernel
theorem dX6_status_0 : decode cX6_status 0 = .ok (.aload_n 0, 1) := by decide +kernel
theorem dX6_status_1 : decode cX6_status 1 = .ok (.getfield 44, 3) := by decide +kernel
theorem dX6_status_4 : decode cX6_status 4 = .ok (.ireturn, 1) := by decide +kernel
theorem dX6_count_0 : decode cX6_count 0 = .ok (.iload_n 1, 1) := by decide +kernel
theorem dX6_count_1 : decode cX6_count 1 = .ok (.tableswitch 269 0 19 #[95, 103, 111, 119, 127, 135, 142, 149, 156, 163, 168, 178, 188, 198, 208, 218, 228, 239, 250, 258], 95) := by decide +kernel
theorem dX6_count_96 : decode cX6_count 96 = .ok (.aload_n 0, 1) := by decide +kernel
theorem dX6_count_97 : decode cX6_count 97 = .ok (.getfield 12, 3) := by decide +kernel
theorem dX6_count_100 : decode cX6_count 100 = .ok (.getfield 102, 3) := by decide +kernel
theorem dX6_count_103 : decode cX6_count 103 = .ok (.ireturn, 1) := by decide +kernel
theorem dX6_count_104 : decode cX6_count 104 = .ok (.aload_n 0, 1) := by decide +kernel
theorem dX6_count_105 : decode cX6_count 105 = .ok (.getfield 12, 3) := by decide +kernel
theorem dX6_count_108 : decode cX6_count 108 = .ok (.getfield 62, 3) := by decide +kernel
theorem dX6_count_111 : decode cX6_count 111 = .ok (.ireturn, 1) := by decide +kernel
theorem dX6_count_112 : decode cX6_count 112 = .ok (.aload_n 0, 1) := by decide +kernel
theorem dX6_count_113 : decode cX6_count 113 = .ok (.getfield 12, 3) := by decide +kernel
theorem dX6_count_116 : decode cX6_count 116 = .ok (.getfield 123, 3) := by decide +kernel
theorem dX6_count_119 : decode cX6_count 119 = .ok (.ireturn, 1) := by decide +kernel
theorem dX6_count_120 : decode cX6_count 120 = .ok (.aload_n 0, 1) := by decide +kernel
theorem dX6_count_121 : decode cX6_count 121 = .ok (.getfield 12, 3) := by decide +kernel
theorem dX6_count_124 : decode cX6_count 124 = .ok (.getfield 126, 3) := by decide +kernel
theorem dX6_count_127 : decode cX6_count 127 = .ok (.ireturn, 1) := by decide +kernel
theorem dX6_count_128 : decode cX6_count 128 = .ok (.aload_n 0, 1) := by decide +kernel
theorem dX6_count_129 : decode cX6_count 129 = .ok (.getfield 12, 3) := by decide +kernel
theorem dX6_count_132 : decode cX6_count 132 = .ok (.invokevirtual 382, 3) := by decide +kernel
theorem dX6_count_135 : decode cX6_count 135 = .ok (.ireturn, 1) := by decide +kernel
theorem dX6_count_136 : decode cX6_count 136 = .ok (.aload_n 0, 1) := by decide +kernel
theorem dX6_count_137 : decode cX6_count 137 = .ok (.getfield 41, 3) := by decide +kernel
theorem dX6_count_140 : decode cX6_count 140 = .ok (.iconst 0, 1) := by decide +kernel
theorem dX6_count_141 : decode cX6_count 141 = .ok (.iaload, 1) := by decide +kernel
theorem dX6_count_142 : decode cX6_count 142 = .ok (.ireturn, 1) := by decide +kernel
theorem dX6_count_143 : decode cX6_count 143 = .ok (.aload_n 0, 1) := by decide +kernel
theorem dX6_count_144 : decode cX6_count 144 = .ok (.getfield 41, 3) := by decide +kernel
theorem dX6_count_147 : decode cX6_count 147 = .ok (.iconst 1, 1) := by decide +kernel
theorem dX6_count_148 : decode cX6_count 148 = .ok (.iaload, 1) := by decide +kernel
theorem dX6_count_149 : decode cX6_count 149 = .ok (.ireturn, 1) := by decide +kernel
theorem dX6_count_150 : decode cX6_count 150 = .ok (.aload_n 0, 1) := by decide +kernel
theorem dX6_count_151 : decode cX6_count 151 = .ok (.getfield 41, 3) := by decide +kernel
theorem dX6_count_154 : decode cX6_count 154 = .ok (.iconst 3, 1) := by decide +kernel
theorem dX6_count_155 : decode cX6_count 155 = .ok (.iaload, 1) := by decide +kernel
theorem dX6_count_156 : decode cX6_count 156 = .ok (.ireturn, 1) := by decide +kernel
theorem dX6_count_157 : decode cX6_count 157 = .ok (.aload_n 0, 1) := by decide +kernel
theorem dX6_count_158 : decode cX6_count 158 = .ok (.getfield 41, 3) := by decide +kernel
theorem dX6_count_161 : decode cX6_count 161 = .ok (.iconst 4, 1) := by decide +kernel
theorem dX6_count_162 : decode cX6_count 162 = .ok (.iaload, 1) := by decide +kernel
theorem dX6_count_163 : decode cX6_count 163 = .ok (.ireturn, 1) := by decide +kernel
theorem dX6_count_164 : decode cX6_count 164 = .ok (.aload_n 0, 1) := by decide +kernel
theorem dX6_count_165 : decode cX6_count 165 = .ok (.getfield 38, 3) := by decide +kernel
theorem dX6_count_168 : decode cX6_count 168 = .ok (.ireturn, 1) := by decide +kernel
theorem dX6_count_169 : decode cX6_count 169 = .ok (.aload_n 0, 1) := by decide +kernel
theorem dX6_count_170 : decode cX6_count 170 = .ok (.getfield 12, 3) := by decide +kernel
theorem dX6_count_173 : decode cX6_count 173 = .ok (.getfield 385, 3) := by decide +kernel
theorem dX6_count_176 : decode cX6_count 176 = .ok (.iconst 0, 1) := by decide +kernel
theorem dX6_count_177 : decode cX6_count 177 = .ok (.iaload, 1) := by decide +kernel
theorem dX6_count_178 : decode cX6_count 178 = .ok (.ireturn, 1) := by decide +kernel
theorem dX6_count_179 : decode cX6_count 179 = .ok (.aload_n 0, 1) := by decide +kernel
theorem dX6_count_180 : decode cX6_count 180 = .ok (.getfield 12, 3) := by decide +kernel
theorem dX6_count_183 : decode cX6_count 183 = .ok (.getfield 385, 3) := by decide +kernel
theorem dX6_count_186 : decode cX6_count 186 = .ok (.iconst 1, 1) := by decide +kernel
theorem dX6_count_187 : decode cX6_count 187 = .ok (.iaload, 1) := by decide +kernel
theorem dX6_count_188 : decode cX6_count 188 = .ok (.ireturn, 1) := by decide +kernel
theorem dX6_count_189 : decode cX6_count 189 = .ok (.aload_n 0, 1) := by decide +kernel
theorem dX6_count_190 : decode cX6_count 190 = .ok (.getfield 12, 3) := by decide +kernel
theorem dX6_count_193 : decode cX6_count 193 = .ok (.getfield 385, 3) := by decide +kernel
theorem dX6_count_196 : decode cX6_count 196 = .ok (.iconst 2, 1) := by decide +kernel
theorem dX6_count_197 : decode cX6_count 197 = .ok (.iaload, 1) := by decide +kernel
theorem dX6_count_198 : decode cX6_count 198 = .ok (.ireturn, 1) := by decide +kernel
theorem dX6_count_199 : decode cX6_count 199 = .ok (.aload_n 0, 1) := by decide +kernel
theorem dX6_count_200 : decode cX6_count 200 = .ok (.getfield 12, 3) := by decide +kernel
theorem dX6_count_203 : decode cX6_count 203 = .ok (.getfield 385, 3) := by decide +kernel
theorem dX6_count_206 : decode cX6_count 206 = .ok (.iconst 3, 1) := by decide +kernel
theorem dX6_count_207 : decode cX6_count 207 = .ok (.iaload, 1) := by decide +kernel
theorem dX6_count_208 : decode cX6_count 208 = .ok (.ireturn, 1) := by decide +kernel
theorem dX6_count_209 : decode cX6_count 209 = .ok (.aload_n 0, 1) := by decide +kernel
theorem dX6_count_210 : decode cX6_count 210 = .ok (.getfield 12, 3) := by decide +kernel
theorem dX6_count_213 : decode cX6_count 213 = .ok (.getfield 385, 3) := by decide +kernel
theorem dX6_count_216 : decode cX6_count 216 = .ok (.iconst 4, 1) := by decide +kernel
theorem dX6_count_217 : decode cX6_count 217 = .ok (.iaload, 1) := by decide +kernel
theorem dX6_count_218 : decode cX6_count 218 = .ok (.ireturn, 1) := by decide +kernel
theorem dX6_count_219 : decode cX6_count 219 = .ok (.aload_n 0, 1) := by decide +kernel
theorem dX6_count_220 : decode cX6_count 220 = .ok (.getfield 12, 3) := by decide +kernel
theorem dX6_count_223 : decode cX6_count 223 = .ok (.getfield 385, 3) := by decide +kernel
theorem dX6_count_226 : decode cX6_count 226 = .ok (.iconst 5, 1) := by decide +kernel
theorem dX6_count_227 : decode cX6_count 227 = .ok (.iaload, 1) := by decide +kernel
theorem dX6_count_228 : decode cX6_count 228 = .ok (.ireturn, 1) := by decide +kernel
theorem dX6_count_229 : decode cX6_count 229 = .ok (.aload_n 0, 1) := by decide +kernel
theorem dX6_count_230 : decode cX6_count 230 = .ok (.getfield 12, 3) := by decide +kernel
theorem dX6_count_233 : decode cX6_count 233 = .ok (.getfield 385, 3) := by decide +kernel
theorem dX6_count_236 : decode cX6_count 236 = .ok (.bipush 6, 2) := by decide +kernel
theorem dX6_count_238 : decode cX6_count 238 = .ok (.iaload, 1) := by decide +kernel
theorem dX6_count_239 : decode cX6_count 239 = .ok (.ireturn, 1) := by decide +kernel
theorem dX6_count_240 : decode cX6_count 240 = .ok (.aload_n 0, 1) := by decide +kernel
theorem dX6_count_241 : decode cX6_count 241 = .ok (.getfield 12, 3) := by decide +kernel
theorem dX6_count_244 : decode cX6_count 244 = .ok (.getfield 385, 3) := by decide +kernel
theorem dX6_count_247 : decode cX6_count 247 = .ok (.bipush 7, 2) := by decide +kernel
theorem dX6_count_249 : decode cX6_count 249 = .ok (.iaload, 1) := by decide +kernel
theorem dX6_count_250 : decode cX6_count 250 = .ok (.ireturn, 1) := by decide +kernel
theorem dX6_count_251 : decode cX6_count 251 = .ok (.aload_n 0, 1) := by decide +kernel
theorem dX6_count_252 : decode cX6_count 252 = .ok (.getfield 12, 3) := by decide +kernel
theorem dX6_count_255 : decode cX6_count 255 = .ok (.getfield 129, 3) := by decide +kernel
theorem dX6_count_258 : decode cX6_count 258 = .ok (.ireturn, 1) := by decide +kernel
theorem dX6_count_259 : decode cX6_count 259 = .ok (.aload_n 0, 1) := by decide +kernel
theorem dX6_count_260 : decode cX6_count 260 = .ok (.getfield 12, 3) := by decide +kernel
theorem dX6_count_263 : decode cX6_count 263 = .ok (.getfield 385, 3) := by decide +kernel
theorem dX6_count_266 : decode cX6_count 266 = .ok (.bipush 8, 2) := by decide +kernel
theorem dX6_count_268 : decode cX6_count 268 = .ok (.iaload, 1) := by decide +kernel
theorem dX6_count_269 : decode cX6_count 269 = .ok (.ireturn, 1) := by decide +kernel
theorem dX6_count_270 : decode cX6_count 270 = .ok (.iconst (-1), 1) := by decide +kernel
theorem dX6_count_271 : decode cX6_count 271 = .ok (.ireturn, 1) := by decide +kernel
theorem dX6_paperWith_0 : decode cX6_paperWith 0 = .ok (.aload_n 0, 1) := by decide +kernel
theorem dX6_paperWith_1 : decode cX6_paperWith 1 = .ok (.getfield 16, 3) := by decide +kernel
theorem dX6_paperWith_4 : decode cX6_paperWith 4 = .ok (.aload_n 0, 1) := by decide +kernel
theorem dX6_paperWith_5 : decode cX6_paperWith 5 = .ok (.getfield 12, 3) := by decide +kernel
theorem dX6_paperWith_8 : decode cX6_paperWith 8 = .ok (.invokevirtual 219, 3) := by decide +kernel
theorem dX6_paperWith_11 : decode cX6_paperWith 11 = .ok (.aload_n 0, 1) := by decide +kernel
theorem dX6_paperWith_12 : decode cX6_paperWith 12 = .ok (.getfield 16, 3) := by decide +kernel
theorem dX6_paperWith_15 : decode cX6_paperWith 15 = .ok (.iload_n 1, 1) := by decide +kernel
theorem dX6_paperWith_16 : decode cX6_paperWith 16 = .ok (.putfield 126, 3) := by decide +kernel
theorem dX6_paperWith_19 : decode cX6_paperWith 19 = .ok (.aload_n 0, 1) := by decide +kernel
theorem dX6_paperWith_20 : decode cX6_paperWith 20 = .ok (.getfield 16, 3) := by decide +kernel
theorem dX6_paperWith_23 : decode cX6_paperWith 23 = .ok (.areturn, 1) := by decide +kernel
theorem dX6_would_0 : decode cX6_would 0 = .ok (.iconst 1, 1) := by decide +kernel
theorem dX6_would_1 : decode cX6_would 1 = .ok (.iload_n 1, 1) := by decide +kernel
theorem dX6_would_2 : decode cX6_would 2 = .ok (.invokestatic 119, 3) := by decide +kernel
theorem dX6_would_5 : decode cX6_would 5 = .ok (.ifCond .eq 27, 3) := by decide +kernel
theorem dX6_would_8 : decode cX6_would 8 = .ok (.iload_n 2, 1) := by decide +kernel
theorem dX6_would_9 : decode cX6_would 9 = .ok (.iconst 1, 1) := by decide +kernel
theorem dX6_would_10 : decode cX6_would 10 = .ok (.sipush 200, 3) := by decide +kernel
theorem dX6_would_13 : decode cX6_would 13 = .ok (.invokestatic 54, 3) := by decide +kernel
theorem dX6_would_16 : decode cX6_would 16 = .ok (.ifCond .eq 16, 3) := by decide +kernel
theorem dX6_would_19 : decode cX6_would 19 = .ok (.iload_n 3, 1) := by decide +kernel
theorem dX6_would_20 : decode cX6_would 20 = .ok (.iconst 0, 1) := by decide +kernel
theorem dX6_would_21 : decode cX6_would 21 = .ok (.iconst 2, 1) := by decide +kernel
theorem dX6_would_22 : decode cX6_would 22 = .ok (.invokestatic 54, 3) := by decide +kernel
theorem dX6_would_25 : decode cX6_would 25 = .ok (.ifCond .eq 7, 3) := by decide +kernel
theorem dX6_would_28 : decode cX6_would 28 = .ok (.iconst 1, 1) := by decide +kernel
theorem dX6_would_29 : decode cX6_would 29 = .ok (.goto 4, 3) := by decide +kernel
theorem dX6_would_32 : decode cX6_would 32 = .ok (.iconst 0, 1) := by decide +kernel
theorem dX6_would_33 : decode cX6_would 33 = .ok (.istore 4, 2) := by decide +kernel
theorem dX6_would_35 : decode cX6_would 35 = .ok (.iload 4, 2) := by decide +kernel
theorem dX6_would_37 : decode cX6_would 37 = .ok (.ifCond .eq 11, 3) := by decide +kernel
theorem dX6_would_40 : decode cX6_would 40 = .ok (.aload_n 0, 1) := by decide +kernel
theorem dX6_would_41 : decode cX6_would 41 = .ok (.iload_n 2, 1) := by decide +kernel
theorem dX6_would_42 : decode cX6_would 42 = .ok (.invokevirtual 213, 3) := by decide +kernel
theorem dX6_would_45 : decode cX6_would 45 = .ok (.ifCond .ne 5, 3) := by decide +kernel
theorem dX6_would_48 : decode cX6_would 48 = .ok (.iconst (-1), 1) := by decide +kernel
theorem dX6_would_49 : decode cX6_would 49 = .ok (.ireturn, 1) := by decide +kernel
theorem dX6_would_50 : decode cX6_would 50 = .ok (.aload_n 0, 1) := by decide +kernel
theorem dX6_would_51 : decode cX6_would 51 = .ok (.iload_n 1, 1) := by decide +kernel
theorem dX6_would_52 : decode cX6_would 52 = .ok (.invokevirtual 342, 3) := by decide +kernel
theorem dX6_would_55 : decode cX6_would 55 = .ok (.iload_n 2, 1) := by decide +kernel
theorem dX6_would_56 : decode cX6_would 56 = .ok (.invokevirtual 216, 3) := by decide +kernel
theorem dX6_would_59 : decode cX6_would 59 = .ok (.istore 5, 2) := by decide +kernel
theorem dX6_would_61 : decode cX6_would 61 = .ok (.iload_n 3, 1) := by decide +kernel
theorem dX6_would_62 : decode cX6_would 62 = .ok (.lookupswitch 45 #[(0, 26), (1, 29)], 26) := by decide +kernel
theorem dX6_would_88 : decode cX6_would 88 = .ok (.iload 5, 2) := by decide +kernel
theorem dX6_would_90 : decode cX6_would 90 = .ok (.ireturn, 1) := by decide +kernel
theorem dX6_would_91 : decode cX6_would 91 = .ok (.aload_n 0, 1) := by decide +kernel
theorem dX6_would_92 : decode cX6_would 92 = .ok (.getfield 16, 3) := by decide +kernel
theorem dX6_would_95 : decode cX6_would 95 = .ok (.invokevirtual 346, 3) := by decide +kernel
theorem dX6_would_98 : decode cX6_would 98 = .ok (.aload_n 0, 1) := by decide +kernel
theorem dX6_would_99 : decode cX6_would 99 = .ok (.getfield 12, 3) := by decide +kernel
theorem dX6_would_102 : decode cX6_would 102 = .ok (.invokevirtual 346, 3) := by decide +kernel
theorem dX6_would_105 : decode cX6_would 105 = .ok (.isub, 1) := by decide +kernel
theorem dX6_would_106 : decode cX6_would 106 = .ok (.ireturn, 1) := by decide +kernel
theorem dX6_would_107 : decode cX6_would 107 = .ok (.aload_n 0, 1) := by decide +kernel
theorem dX6_would_108 : decode cX6_would 108 = .ok (.getfield 16, 3) := by decide +kernel
theorem dX6_would_111 : decode cX6_would 111 = .ok (.invokevirtual 349, 3) := by decide +kernel
theorem dX6_would_114 : decode cX6_would 114 = .ok (.ireturn, 1) := by decide +kernel
theorem dX6_bestShare_0 : decode cX6_bestShare 0 = .ok (.iload_n 1, 1) := by decide +kernel
theorem dX6_bestShare_1 : decode cX6_bestShare 1 = .ok (.iconst 1, 1) := by decide +kernel
theorem dX6_bestShare_2 : decode cX6_bestShare 2 = .ok (.bipush 32, 2) := by decide +kernel
theorem dX6_bestShare_4 : decode cX6_bestShare 4 = .ok (.invokestatic 54, 3) := by decide +kernel
theorem dX6_bestShare_7 : decode cX6_bestShare 7 = .ok (.ifCond .eq 11, 3) := by decide +kernel
theorem dX6_bestShare_10 : decode cX6_bestShare 10 = .ok (.aload_n 0, 1) := by decide +kernel
theorem dX6_bestShare_11 : decode cX6_bestShare 11 = .ok (.iload_n 1, 1) := by decide +kernel
theorem dX6_bestShare_12 : decode cX6_bestShare 12 = .ok (.invokevirtual 213, 3) := by decide +kernel
theorem dX6_bestShare_15 : decode cX6_bestShare 15 = .ok (.ifCond .ne 5, 3) := by decide +kernel
theorem dX6_bestShare_18 : decode cX6_bestShare 18 = .ok (.iconst (-1), 1) := by decide +kernel
theorem dX6_bestShare_19 : decode cX6_bestShare 19 = .ok (.ireturn, 1) := by decide +kernel
theorem dX6_bestShare_20 : decode cX6_bestShare 20 = .ok (.iconst 0, 1) := by decide +kernel
theorem dX6_bestShare_21 : decode cX6_bestShare 21 = .ok (.istore_n 2, 1) := by decide +kernel
theorem dX6_bestShare_22 : decode cX6_bestShare 22 = .ok (.iconst (-1), 1) := by decide +kernel
theorem dX6_bestShare_23 : decode cX6_bestShare 23 = .ok (.istore_n 3, 1) := by decide +kernel
theorem dX6_bestShare_24 : decode cX6_bestShare 24 = .ok (.iconst 0, 1) := by decide +kernel
theorem dX6_bestShare_25 : decode cX6_bestShare 25 = .ok (.istore 4, 2) := by decide +kernel
theorem dX6_bestShare_27 : decode cX6_bestShare 27 = .ok (.iload 4, 2) := by decide +kernel
theorem dX6_bestShare_29 : decode cX6_bestShare 29 = .ok (.bipush 32, 2) := by decide +kernel
theorem dX6_bestShare_31 : decode cX6_bestShare 31 = .ok (.if_icmp .gt 33, 3) := by decide +kernel
theorem dX6_bestShare_34 : decode cX6_bestShare 34 = .ok (.aload_n 0, 1) := by decide +kernel
theorem dX6_bestShare_35 : decode cX6_bestShare 35 = .ok (.iload 4, 2) := by decide +kernel
theorem dX6_bestShare_37 : decode cX6_bestShare 37 = .ok (.invokevirtual 342, 3) := by decide +kernel
theorem dX6_bestShare_40 : decode cX6_bestShare 40 = .ok (.iload_n 1, 1) := by decide +kernel
theorem dX6_bestShare_41 : decode cX6_bestShare 41 = .ok (.invokevirtual 216, 3) := by decide +kernel
theorem dX6_bestShare_44 : decode cX6_bestShare 44 = .ok (.istore 5, 2) := by decide +kernel
theorem dX6_bestShare_46 : decode cX6_bestShare 46 = .ok (.iload 5, 2) := by decide +kernel
theorem dX6_bestShare_48 : decode cX6_bestShare 48 = .ok (.iload_n 3, 1) := by decide +kernel
theorem dX6_bestShare_49 : decode cX6_bestShare 49 = .ok (.if_icmp .le 9, 3) := by decide +kernel
theorem dX6_bestShare_52 : decode cX6_bestShare 52 = .ok (.iload 5, 2) := by decide +kernel
theorem dX6_bestShare_54 : decode cX6_bestShare 54 = .ok (.istore_n 3, 1) := by decide +kernel
theorem dX6_bestShare_55 : decode cX6_bestShare 55 = .ok (.iload 4, 2) := by decide +kernel
theorem dX6_bestShare_57 : decode cX6_bestShare 57 = .ok (.istore_n 2, 1) := by decide +kernel
theorem dX6_bestShare_58 : decode cX6_bestShare 58 = .ok (.iinc 4 2, 3) := by decide +kernel
theorem dX6_bestShare_61 : decode cX6_bestShare 61 = .ok (.goto (-34), 3) := by decide +kernel
theorem dX6_bestShare_64 : decode cX6_bestShare 64 = .ok (.iload_n 2, 1) := by decide +kernel
theorem dX6_bestShare_65 : decode cX6_bestShare 65 = .ok (.ireturn, 1) := by decide +kernel
theorem lk_RX6_219 : LkV RX6 219 RX5 yX5_copyFrom cX5_copyFrom 3 none 1 := ⟨⟨mw_466, mw_467, mw_468, mw_53, mw_469⟩, by decide +kernel⟩
set_option maxHeartbeats 4000000 in
set_option maxRecDepth 100000 in
theorem c_keepForUndo (l : Launch) (E : hE) (a : Int32) : Met l yX6_keepForUndo (.code yX6_keepForUndo cX6_keepForUndo 2 none :: gw_all) (rmk 3 120) (cPre E r0 [.ref (E.2.1 + 0), .int a]) (cV E (fun ρ1 => ∀ k, k ≠ 0 → k ≠ 182 → ρ1 k = r0 k)) 0 0 (hA E) := by
  refine ent (own := RX6) (by decide) rfl (Nat.le_of_ble_eq_true rfl) ?_
  intro p e s m below meth c ls B hr hlk hl hP hS
  have hx := B.1.1
  have hb := B.1.2.1
  have hown := B.1.2.2.2.1
  have hts := B.1.2.2.2.2
  have hl : lv_has ls 2 [(0, .ref (E.2.1 + 0)), (1, .int a)] := hl
  refine lv_aload_n hx hb dX6_keepForUndo_0 rfl (lv_at hl 0 rfl) ?_
  refine get6 B hP (by decide +kernel) 4 (by decide) mw_416 rfl dX6_keepForUndo_1 ?_
  refine lv_aload_n hx hb dX6_keepForUndo_4 rfl (lv_at hl 0 rfl) ?_
  refine get6 B hP (by decide +kernel) 6 (by decide) mw_418 (v := .int 0) (show some (Value.int (r0 0 6)) = some (Value.int 0) from congrArg (fun z => some (Value.int z)) (show r0 0 6 = 0 by decide +kernel)) dX6_keepForUndo_5 ?_
  refine aldWn (n := 8) B hP (by decide +kernel) (by decide +kernel) rfl (by decide) (by decide) dX6_keepForUndo_8 ?_
  refine lv_aload_n hx hb dX6_keepForUndo_9 rfl (lv_at hl 0 rfl) ?_
  refine get6 B hP (by decide +kernel) 0 (by decide) mw_412 rfl dX6_keepForUndo_10 ?_
  refine call_v (cVt (k := 364) (av := [.ref (E.2.1 + 1)]) (rest := []) B hP hS (c_World_copyFrom l E r0 364 1 (by decide +kernel) (by decide +kernel) (by decide) (fun r _ h52 h10 j => congrFun (r0_ag (by decide +kernel) (by decide +kernel) h52 h10) j) ⟨by decide +kernel, by decide +kernel⟩) lk_RX6_219 (hrecv (ci := 5) B hP (hk_lt (c := 5) (by decide +kernel) (by decide)) (hcc5 _ _ (by decide +kernel)) rfl) rfl rfl hl.1 (Nat.le_of_ble_eq_true rfl) ⟨Nat.le_of_ble_eq_true rfl, Nat.le_of_ble_eq_true rfl⟩ ⟨Nat.le_of_ble_eq_true rfl, Nat.le_of_ble_eq_true rfl⟩ dX6_keepForUndo_13) hS (fun ρ2 H locs q3 hP hS => ?_)
  rw [cpw_self (fun j => congrFun (r0_ag (k1 := 364) (k2 := 1) (r := 0) (by decide +kernel) (by decide +kernel) (by decide) (by decide)) j)] at q3
  subst q3
  refine lv_aload_n hx hb dX6_keepForUndo_16 rfl (lv_at hl 0 rfl) ?_
  refine get6 B hP (by decide +kernel) 5 (by decide) mw_417 rfl dX6_keepForUndo_17 ?_
  refine lv_aload_n hx hb dX6_keepForUndo_20 rfl (lv_at hl 0 rfl) ?_
  refine get6 B hP (by decide +kernel) 6 (by decide) mw_418 (v := .int 0) (show some (Value.int (r0 0 6)) = some (Value.int 0) from congrArg (fun z => some (Value.int z)) (show r0 0 6 = 0 by decide +kernel)) dX6_keepForUndo_21 ?_
  refine lv_iload_n hx hb dX6_keepForUndo_24 rfl (lv_at hl 1 rfl) ?_
  refine astn (n := 8) (j := 0) B hP hS (by decide +kernel) (by decide +kernel) rfl (by decide) (by decide) dX6_keepForUndo_25 (fun H locs hP hS => ?_)
  obtain ⟨ρ4, e5⟩ : ∃ z, z = up r0 182 0 a := ⟨_, rfl⟩
  rw [← e5] at hP
  refine lv_aload_n hx hb dX6_keepForUndo_26 rfl (lv_at hl 0 rfl) ?_
  refine lv_aload_n hx hb dX6_keepForUndo_27 rfl (lv_at hl 0 rfl) ?_
  refine get6 B hP (by decide +kernel) 6 (by decide) mw_418 (v := .int 0) (show some (Value.int (ρ4 0 6)) = some (Value.int 0) from congrArg (fun z => some (Value.int z)) (by rw [e5]; exact up_get_ne (Or.inl (by decide)) (show r0 0 6 = 0 by decide +kernel))) dX6_keepForUndo_28 ?_
  refine lv_iconst (v := 1) hx hb dX6_keepForUndo_31 (by decide) ?_
  refine lv_iadd hx hb dX6_keepForUndo_32 ?_
  refine lv_topi (fun z6 ez6 => ?_)
  obtain rfl : z6 = 1 := ez6.trans (by decide)
  refine lv_bipush (v := 8) hx hb dX6_keepForUndo_33 (by decide) ?_
  refine lv_irem hx hb dX6_keepForUndo_35 (by decide) ?_
  refine lv_topi (fun z7 ez7 => ?_)
  obtain rfl : z7 = 1 := ez7.trans (by decide)
  refine put6 B hP hS (by decide +kernel) 6 (by decide) mw_418 rfl rfl rfl (fs6_6 E 0 _ _) dX6_keepForUndo_36 (fun H locs hP hS => ?_)
  obtain ⟨ρ8, e9⟩ : ∃ z, z = up ρ4 0 6 1 := ⟨_, rfl⟩
  rw [← e9] at hP
  refine lv_aload_n hx hb dX6_keepForUndo_39 rfl (lv_at hl 0 rfl) ?_
  refine lv_aload_n hx hb dX6_keepForUndo_40 rfl (lv_at hl 0 rfl) ?_
  refine get6 B hP (by decide +kernel) 7 (by decide) mw_419 (v := .int 0) (show some (Value.int (ρ8 0 7)) = some (Value.int 0) from congrArg (fun z => some (Value.int z)) (by rw [e9]; exact up_get_ne (Or.inr (by decide)) (by rw [e5]; exact up_get_ne (Or.inl (by decide)) (show r0 0 7 = 0 by decide +kernel)))) dX6_keepForUndo_41 ?_
  refine lv_iconst (v := 1) hx hb dX6_keepForUndo_44 (by decide) ?_
  refine lv_iadd hx hb dX6_keepForUndo_45 ?_
  refine lv_topi (fun z10 ez10 => ?_)
  obtain rfl : z10 = 1 := ez10.trans (by decide)
  refine lv_bipush (v := 8) hx hb dX6_keepForUndo_46 (by decide) ?_
  refine va_mmin hx hb (by rw [hl.1]; exact B.1.2.2.1) hown (hts _ mw_496) (hts _ mw_497) (hts _ mw_61) (hts _ mw_498) (Nat.le_of_ble_eq_true rfl) (Nat.le_of_ble_eq_true rfl) (Nat.le_refl _) (Nat.le_refl _) dX6_keepForUndo_48 ?_
  refine lv_topi (fun z11 ez11 => ?_)
  obtain rfl : z11 = 1 := ez11.trans (by decide)
  refine put6 B hP hS (by decide +kernel) 7 (by decide) mw_419 rfl rfl rfl (fs6_7 E 0 _ _) dX6_keepForUndo_51 (fun H locs hP hS => ?_)
  obtain ⟨ρ12, e13⟩ : ∃ z, z = up ρ8 0 7 1 := ⟨_, rfl⟩
  rw [← e13] at hP
  exact ret_v B hr hlk hP hS dX6_keepForUndo_54 ((fun k h0 h1 => by rw [e13, up_ne _ _ _ h0, e9, up_ne _ _ _ h0, e5, up_ne _ _ _ h1]))

theorem lk_RX6_58 : LkV RX6 58 RX6 yX6_refuse cX6_refuse 3 (some .int) 1 := ⟨⟨mw_458, mw_460, mw_0, mw_52, mw_461⟩, by decide +kernel⟩
theorem lk_RX6_65 : LkV RX6 65 RX6 yX6_keepForUndo cX6_keepForUndo 2 none 1 := ⟨⟨mw_462, mw_464, mw_1, mw_52, mw_465⟩, by decide +kernel⟩
theorem lk_RX6_72 : LkV RX6 72 RX6 yX6_accept cX6_accept 2 (some .int) 1 := ⟨⟨mw_499, mw_501, mw_2, mw_52, mw_502⟩, by decide +kernel⟩
set_option maxHeartbeats 4000000 in
set_option maxRecDepth 100000 in
theorem c_radio (l : Launch) (E : hE) (a1 : Int32) : Met l yX6_radio (.code yX6_radio cX6_radio 2 (some .int) :: gw_all) (rmk 4 160) (cPre E r0 [.ref (E.2.1 + 0), .int a1]) (cI E (fun r ρ1 => (((iR a1 0 268435455) ∧ r = 0) ∨ (¬ (iR a1 0 268435455) ∧ r = -1)) ∧ ∀ k, 1076 ≤ k → ρ1 k = r0 k)) 0 0 (hA E) := by
  refine ent (own := RX6) (by decide) rfl (Nat.le_of_ble_eq_true rfl) ?_
  intro p e s m below meth c ls B hr hlk hl hP hS
  have hx := B.1.1
  have hb := B.1.2.1
  have hown := B.1.2.2.2.1
  have hts := B.1.2.2.2.2
  have hl : lv_has ls 2 [(0, .ref (E.2.1 + 0)), (1, .int a1)] := hl
  refine lv_iload_n hx hb dX6_radio_0 rfl (lv_at hl 1 rfl) ?_
  refine lv_iconst (v := 0) hx hb dX6_radio_1 (by decide) ?_
  refine lv_ldc (v := 268435455) hx hb hown (hts _ mw_454) dX6_radio_2 ?_
  refine call_i (cS (av := [.int a1, .int 0, .int 268435455]) (rest := []) B hP hS (c_isWithin l E r0 a1 0 268435455 0 268435455 (by decide) (by decide)) lk_RX6_54 rfl rfl hl.1 (Nat.le_of_ble_eq_true rfl) ⟨Nat.le_of_ble_eq_true rfl, Nat.le_of_ble_eq_true rfl⟩ ⟨Nat.le_of_ble_eq_true rfl, Nat.le_of_ble_eq_true rfl⟩ dX6_radio_4) hS (fun r1 ρ2 H locs q3 hP hS => ?_)
  obtain ⟨rfl, q3⟩ := q3
  rcases q3 with ⟨rfl, q3⟩ | ⟨rfl, q3⟩
  · skip
    refine lv_if_ne (tgt := 16) hx hb dX6_radio_7 (by decide) (fun _ => ?_) (fun c4 => absurd c4 (by decide))
    refine lv_aload_n hx hb dX6_radio_16 rfl (lv_at hl 0 rfl) ?_
    refine get6 B hP (by decide +kernel) 0 (by decide) mw_412 rfl dX6_radio_17 ?_
    refine get5 B hP (by decide +kernel) 4 (by decide) mw_380 (v := .int 0) (show some (Value.int (r0 1 4)) = some (Value.int 0) from congrArg (fun z => some (Value.int z)) (show r0 1 4 = 0 by decide +kernel)) dX6_radio_20 ?_
    refine lv_bipush (v := 6) hx hb dX6_radio_23 (by decide) ?_
    refine lv_icmp_lt (tgt := 35) hx hb dX6_radio_25 (by decide) (fun _ => ?_) (fun c5 => absurd c5 (by decide))
    refine lv_aload_n hx hb dX6_radio_35 rfl (lv_at hl 0 rfl) ?_
    refine lv_iconst (v := 0) hx hb dX6_radio_36 (by decide) ?_
    refine call_v (cVt (k := 0) (av := [.int 0]) (rest := []) B hP hS (c_keepForUndo l E 0) lk_RX6_65 (hrecv (ci := 6) B hP (hk_lt (c := 6) (by decide +kernel) (by decide)) (hcc6 _ _ (by decide +kernel)) rfl) rfl rfl hl.1 (Nat.le_of_ble_eq_true rfl) ⟨Nat.le_of_ble_eq_true rfl, Nat.le_of_ble_eq_true rfl⟩ ⟨Nat.le_of_ble_eq_true rfl, Nat.le_of_ble_eq_true rfl⟩ dX6_radio_37) hS (fun ρ7 H locs q8 hP hS => ?_)
    have F9 : ∀ k, 1076 ≤ k → ρ7 k = r0 k := fun k hk => (q8 k (by omega) (by omega))
    refine lv_aload_n hx hb dX6_radio_40 rfl (lv_at hl 0 rfl) ?_
    refine get6 B hP (by decide +kernel) 0 (by decide) mw_412 rfl dX6_radio_41 ?_
    refine get5 B hP (by decide +kernel) 0 (by decide) mw_372 rfl dX6_radio_44 ?_
    refine lv_aload_n hx hb dX6_radio_47 rfl (lv_at hl 0 rfl) ?_
    refine get6 B hP (by decide +kernel) 0 (by decide) mw_412 rfl dX6_radio_48 ?_
    refine get5 B hP (by decide +kernel) 4 (by decide) mw_380 (v := .int 0) (show some (Value.int (ρ7 1 4)) = some (Value.int 0) from congrArg (fun z => some (Value.int z)) ((congrFun (q8 1 (by decide) (by decide)) 4).trans (show r0 1 4 = 0 by decide +kernel))) dX6_radio_51 ?_
    refine lv_iload_n hx hb dX6_radio_54 rfl (lv_at hl 1 rfl) ?_
    refine astn (n := 6) (j := 0) B hP hS (by decide +kernel) (by decide +kernel) rfl (by decide) (by decide) dX6_radio_55 (fun H locs hP hS => ?_)
    obtain ⟨ρ10, e11⟩ : ∃ z, z = up ρ7 2 0 a1 := ⟨_, rfl⟩
    rw [← e11] at hP
    have F12 : ∀ k, 1076 ≤ k → ρ10 k = r0 k := fun k t0 => by rw [e11, up_ne _ _ _ (by omega)]; exact F9 k t0
    refine lv_aload_n hx hb dX6_radio_56 rfl (lv_at hl 0 rfl) ?_
    refine get6 B hP (by decide +kernel) 0 (by decide) mw_412 rfl dX6_radio_57 ?_
    refine lv_dup hx hb dX6_radio_60 rfl ?_
    refine get5 B hP (by decide +kernel) 4 (by decide) mw_380 (v := .int 0) (show some (Value.int (ρ10 1 4)) = some (Value.int 0) from congrArg (fun z => some (Value.int z)) (by rw [e11]; exact up_get_ne (Or.inl (by decide)) ((congrFun (q8 1 (by decide) (by decide)) 4).trans (show r0 1 4 = 0 by decide +kernel)))) dX6_radio_61 ?_
    refine lv_iconst (v := 1) hx hb dX6_radio_64 (by decide) ?_
    refine lv_iadd hx hb dX6_radio_65 ?_
    refine lv_topi (fun z13 ez13 => ?_)
    obtain rfl : z13 = 1 := ez13.trans (by decide)
    refine put5 B hP hS (by decide +kernel) 4 (by decide) mw_380 rfl rfl rfl (fs5_4 E 1 _ _) dX6_radio_66 (fun H locs hP hS => ?_)
    obtain ⟨ρ14, e15⟩ : ∃ z, z = up ρ10 1 4 1 := ⟨_, rfl⟩
    rw [← e15] at hP
    have F16 : ∀ k, 1076 ≤ k → ρ14 k = r0 k := fun k t0 => by rw [e15, up_ne _ _ _ (by omega)]; exact F12 k t0
    refine lv_aload_n hx hb dX6_radio_69 rfl (lv_at hl 0 rfl) ?_
    refine lv_aload_n hx hb dX6_radio_70 rfl (lv_at hl 0 rfl) ?_
    refine get6 B hP (by decide +kernel) 0 (by decide) mw_412 rfl dX6_radio_71 ?_
    refine get5 B hP (by decide +kernel) 4 (by decide) mw_380 (v := .int 1) (show some (Value.int (ρ14 1 4)) = some (Value.int 1) from congrArg (fun z => some (Value.int z)) (by rw [e15]; exact up_get_at)) dX6_radio_74 ?_
    refine lv_iconst (v := 1) hx hb dX6_radio_77 (by decide) ?_
    refine lv_isub hx hb dX6_radio_78 ?_
    refine lv_topi (fun z17 ez17 => ?_)
    obtain rfl : z17 = 0 := ez17.trans (by decide)
    refine call_i (cVt (k := 0) (av := [.int 0]) (rest := []) B hP hS (c_accept l E ρ14 0) lk_RX6_72 (hrecv (ci := 6) B hP (hk_lt (c := 6) (by decide +kernel) (by decide)) (hcc6 _ _ (by decide +kernel)) rfl) rfl rfl hl.1 (Nat.le_of_ble_eq_true rfl) ⟨Nat.le_of_ble_eq_true rfl, Nat.le_of_ble_eq_true rfl⟩ ⟨Nat.le_of_ble_eq_true rfl, Nat.le_of_ble_eq_true rfl⟩ dX6_radio_79) hS (fun r18 ρ19 H locs q20 hP hS => ?_)
    obtain ⟨rfl, q20⟩ := q20
    have F21 : ∀ k, 1076 ≤ k → ρ19 k = r0 k := fun k hk => (q20 k (by omega) (by omega)).trans (F16 k hk)
    exact ret_i B hr hlk hP hS dX6_radio_82 (⟨Or.inl ⟨q3, rfl⟩, F21⟩)
  · skip
    refine lv_if_ne (tgt := 16) hx hb dX6_radio_7 (by decide) (fun c22 => absurd c22 (by decide)) (fun _ => ?_)
    refine lv_aload_n hx hb dX6_radio_10 rfl (lv_at hl 0 rfl) ?_
    refine lv_iconst (v := (-1)) hx hb dX6_radio_11 (by decide) ?_
    refine call_i (cVt (k := 0) (av := [.int (-1)]) (rest := []) B hP hS (c_refuse l E r0 (-1)) lk_RX6_58 (hrecv (ci := 6) B hP (hk_lt (c := 6) (by decide +kernel) (by decide)) (hcc6 _ _ (by decide +kernel)) rfl) rfl rfl hl.1 (Nat.le_of_ble_eq_true rfl) ⟨Nat.le_of_ble_eq_true rfl, Nat.le_of_ble_eq_true rfl⟩ ⟨Nat.le_of_ble_eq_true rfl, Nat.le_of_ble_eq_true rfl⟩ dX6_radio_12) hS (fun r23 ρ24 H locs q25 hP hS => ?_)
    obtain ⟨rfl, q25⟩ := q25
    have F26 : ∀ k, 1076 ≤ k → ρ24 k = r0 k := fun k hk => (q25 k (by omega) (by omega))
    exact ret_i B hr hlk hP hS dX6_radio_15 (⟨Or.inr ⟨fun z => q3 z, rfl⟩, F26⟩)

theorem lk_RX6_76 : LkV RX6 76 RX5 yX5_hasRadio cX5_hasRadio 2 (some .boolean) 1 := ⟨⟨mw_508, mw_509, mw_510, mw_53, mw_511⟩, by decide +kernel⟩
set_option maxHeartbeats 4000000 in
set_option maxRecDepth 100000 in
theorem c_net (l : Launch) (E : hE) (a1 a2 a3 : Int32) : Met l yX6_net (.code yX6_net cX6_net 4 (some .int) :: gw_all) (rmk 4 160) (cPre E r0 [.ref (E.2.1 + 0), .int a1, .int a2, .int a3]) (cI E (fun r ρ1 => (((iR a1 0 1 ∧ iR a3 0 65535) ∧ r = -2) ∨ (¬ (iR a1 0 1 ∧ iR a3 0 65535) ∧ r = -1)) ∧ ∀ k, 1076 ≤ k → ρ1 k = r0 k)) 0 0 (hA E) := by
  refine ent (own := RX6) (by decide) rfl (Nat.le_of_ble_eq_true rfl) ?_
  intro p e s m below meth c ls B hr hlk hl hP hS
  have hx := B.1.1
  have hb := B.1.2.1
  have hown := B.1.2.2.2.1
  have hts := B.1.2.2.2.2
  have hl : lv_has ls 4 [(0, .ref (E.2.1 + 0)), (1, .int a1), (2, .int a2), (3, .int a3)] := hl
  refine lv_iload_n hx hb dX6_net_0 rfl (lv_at hl 1 rfl) ?_
  refine lv_iconst (v := 0) hx hb dX6_net_1 (by decide) ?_
  refine lv_iconst (v := 1) hx hb dX6_net_2 (by decide) ?_
  refine call_i (cS (av := [.int a1, .int 0, .int 1]) (rest := []) B hP hS (c_isWithin l E r0 a1 0 1 0 1 (by decide) (by decide)) lk_RX6_54 rfl rfl hl.1 (Nat.le_of_ble_eq_true rfl) ⟨Nat.le_of_ble_eq_true rfl, Nat.le_of_ble_eq_true rfl⟩ ⟨Nat.le_of_ble_eq_true rfl, Nat.le_of_ble_eq_true rfl⟩ dX6_net_3) hS (fun r1 ρ2 H locs q3 hP hS => ?_)
  obtain ⟨rfl, q3⟩ := q3
  rcases q3 with ⟨rfl, q3⟩ | ⟨rfl, q3⟩
  · skip
    refine lv_if_eq (tgt := 19) hx hb dX6_net_6 (by decide) (fun c4 => absurd c4 (by decide)) (fun _ => ?_)
    refine lv_iload_n hx hb dX6_net_9 rfl (lv_at hl 3 rfl) ?_
    refine lv_iconst (v := 0) hx hb dX6_net_10 (by decide) ?_
    refine lv_ldc (v := 65535) hx hb hown (hts _ mw_507) dX6_net_11 ?_
    refine call_i (cS (av := [.int a3, .int 0, .int 65535]) (rest := []) B hP hS (c_isWithin l E r0 a3 0 65535 0 65535 (by decide) (by decide)) lk_RX6_54 rfl rfl hl.1 (Nat.le_of_ble_eq_true rfl) ⟨Nat.le_of_ble_eq_true rfl, Nat.le_of_ble_eq_true rfl⟩ ⟨Nat.le_of_ble_eq_true rfl, Nat.le_of_ble_eq_true rfl⟩ dX6_net_13) hS (fun r5 ρ6 H locs q7 hP hS => ?_)
    obtain ⟨rfl, q7⟩ := q7
    rcases q7 with ⟨rfl, q7⟩ | ⟨rfl, q7⟩
    · skip
      refine lv_if_ne (tgt := 25) hx hb dX6_net_16 (by decide) (fun _ => ?_) (fun c8 => absurd c8 (by decide))
      refine lv_aload_n hx hb dX6_net_25 rfl (lv_at hl 0 rfl) ?_
      refine get6 B hP (by decide +kernel) 0 (by decide) mw_412 rfl dX6_net_26 ?_
      refine lv_iload_n hx hb dX6_net_29 rfl (lv_at hl 2 rfl) ?_
      refine call_i (cVt (k := 1) (av := [.int a2]) (rest := []) B hP hS (c_hasRadio l E r0 1 a2 (by decide +kernel) (show r0 1 4 = 0 by decide +kernel)) lk_RX6_76 (hrecv (ci := 5) B hP (hk_lt (c := 5) (by decide +kernel) (by decide)) (hcc5 _ _ (by decide +kernel)) rfl) rfl rfl hl.1 (Nat.le_of_ble_eq_true rfl) ⟨Nat.le_of_ble_eq_true rfl, Nat.le_of_ble_eq_true rfl⟩ ⟨Nat.le_of_ble_eq_true rfl, Nat.le_of_ble_eq_true rfl⟩ dX6_net_30) hS (fun r9 ρ10 H locs q11 hP hS => ?_)
      obtain ⟨rfl, rfl⟩ := q11
      refine lv_if_ne (tgt := 43) hx hb dX6_net_33 (by decide) (fun c12 => absurd c12 (by decide)) (fun _ => ?_)
      refine lv_aload_n hx hb dX6_net_36 rfl (lv_at hl 0 rfl) ?_
      refine lv_bipush (v := (-2)) hx hb dX6_net_37 (by decide) ?_
      refine call_i (cVt (k := 0) (av := [.int (-2)]) (rest := []) B hP hS (c_refuse l E r0 (-2)) lk_RX6_58 (hrecv (ci := 6) B hP (hk_lt (c := 6) (by decide +kernel) (by decide)) (hcc6 _ _ (by decide +kernel)) rfl) rfl rfl hl.1 (Nat.le_of_ble_eq_true rfl) ⟨Nat.le_of_ble_eq_true rfl, Nat.le_of_ble_eq_true rfl⟩ ⟨Nat.le_of_ble_eq_true rfl, Nat.le_of_ble_eq_true rfl⟩ dX6_net_39) hS (fun r13 ρ14 H locs q15 hP hS => ?_)
      obtain ⟨rfl, q15⟩ := q15
      have F16 : ∀ k, 1076 ≤ k → ρ14 k = r0 k := fun k hk => (q15 k (by omega) (by omega))
      exact ret_i B hr hlk hP hS dX6_net_42 (⟨Or.inl ⟨⟨q3, q7⟩, rfl⟩, F16⟩)
    · skip
      refine lv_if_ne (tgt := 25) hx hb dX6_net_16 (by decide) (fun c17 => absurd c17 (by decide)) (fun _ => ?_)
      refine lv_aload_n hx hb dX6_net_19 rfl (lv_at hl 0 rfl) ?_
      refine lv_iconst (v := (-1)) hx hb dX6_net_20 (by decide) ?_
      refine call_i (cVt (k := 0) (av := [.int (-1)]) (rest := []) B hP hS (c_refuse l E r0 (-1)) lk_RX6_58 (hrecv (ci := 6) B hP (hk_lt (c := 6) (by decide +kernel) (by decide)) (hcc6 _ _ (by decide +kernel)) rfl) rfl rfl hl.1 (Nat.le_of_ble_eq_true rfl) ⟨Nat.le_of_ble_eq_true rfl, Nat.le_of_ble_eq_true rfl⟩ ⟨Nat.le_of_ble_eq_true rfl, Nat.le_of_ble_eq_true rfl⟩ dX6_net_21) hS (fun r18 ρ19 H locs q20 hP hS => ?_)
      obtain ⟨rfl, q20⟩ := q20
      have F21 : ∀ k, 1076 ≤ k → ρ19 k = r0 k := fun k hk => (q20 k (by omega) (by omega))
      exact ret_i B hr hlk hP hS dX6_net_24 (⟨Or.inr ⟨fun z => q7 z.2, rfl⟩, F21⟩)
  · skip
    refine lv_if_eq (tgt := 19) hx hb dX6_net_6 (by decide) (fun _ => ?_) (fun c22 => absurd c22 (by decide))
    refine lv_aload_n hx hb dX6_net_19 rfl (lv_at hl 0 rfl) ?_
    refine lv_iconst (v := (-1)) hx hb dX6_net_20 (by decide) ?_
    refine call_i (cVt (k := 0) (av := [.int (-1)]) (rest := []) B hP hS (c_refuse l E r0 (-1)) lk_RX6_58 (hrecv (ci := 6) B hP (hk_lt (c := 6) (by decide +kernel) (by decide)) (hcc6 _ _ (by decide +kernel)) rfl) rfl rfl hl.1 (Nat.le_of_ble_eq_true rfl) ⟨Nat.le_of_ble_eq_true rfl, Nat.le_of_ble_eq_true rfl⟩ ⟨Nat.le_of_ble_eq_true rfl, Nat.le_of_ble_eq_true rfl⟩ dX6_net_21) hS (fun r23 ρ24 H locs q25 hP hS => ?_)
    obtain ⟨rfl, q25⟩ := q25
    have F26 : ∀ k, 1076 ≤ k → ρ24 k = r0 k := fun k hk => (q25 k (by omega) (by omega))
    exact ret_i B hr hlk hP hS dX6_net_24 (⟨Or.inr ⟨fun z => q3 z.1, rfl⟩, F26⟩)

set_option maxHeartbeats 4000000 in
set_option maxRecDepth 100000 in
theorem c_join (l : Launch) (E : hE) (a1 a2 : Int32) : Met l yX6_join (.code yX6_join cX6_join 4 (some .int) :: gw_all) (rmk 4 160) (cPre E r0 [.ref (E.2.1 + 0), .int a1, .int a2]) (cI E (fun r ρ1 => (r = (-2)) ∧ ∀ k, 1076 ≤ k → ρ1 k = r0 k)) 0 0 (hA E) := by
  refine ent (own := RX6) (by decide) rfl (Nat.le_of_ble_eq_true rfl) ?_
  intro p e s m below meth c ls B hr hlk hl hP hS
  have hx := B.1.1
  have hb := B.1.2.1
  have hown := B.1.2.2.2.1
  have hts := B.1.2.2.2.2
  have hl : lv_has ls 4 [(0, .ref (E.2.1 + 0)), (1, .int a1), (2, .int a2)] := hl
  refine lv_aload_n hx hb dX6_join_0 rfl (lv_at hl 0 rfl) ?_
  refine get6 B hP (by decide +kernel) 0 (by decide) mw_412 rfl dX6_join_1 ?_
  refine lv_iload_n hx hb dX6_join_4 rfl (lv_at hl 1 rfl) ?_
  refine call_q (cVt (k := 1) (av := [.int a1]) (rest := []) B hP hS (c_netAt l E r0 1 a1 (by decide +kernel) (FrW_r0 (by decide +kernel))) lk_RX6_95 (hrecv (ci := 5) B hP (hk_lt (c := 5) (by decide +kernel) (by decide)) (hcc5 _ _ (by decide +kernel)) rfl) rfl rfl hl.1 (Nat.le_of_ble_eq_true rfl) ⟨Nat.le_of_ble_eq_true rfl, Nat.le_of_ble_eq_true rfl⟩ ⟨Nat.le_of_ble_eq_true rfl, Nat.le_of_ble_eq_true rfl⟩ dX6_join_5) hS (fun r1 ρ2 H locs q3 hP hS => ?_)
  obtain ⟨rfl, rfl⟩ := q3
  refine W.eq (g2 := F0 m 8 ls [.null]) rfl ?_
  refine lv_astore_nN (lv' := [(3, .null), (0, .ref (E.2.1 + 0)), (1, .int a1), (2, .int a2)]) hx hb dX6_join_8 rfl hl (by decide) rfl (fun ls hl => ?_)
  refine lv_aload_nN hx hb dX6_join_9 rfl (lv_at hl 0 rfl) ?_
  refine lv_ifnullN (tgt := 24) hx hb dX6_join_10 (by decide) ?_
  refine lv_aload_n hx hb dX6_join_24 rfl (lv_at hl 1 rfl) ?_
  refine lv_bipush (v := (-2)) hx hb dX6_join_25 (by decide) ?_
  refine call_i (cVt (k := 0) (av := [.int (-2)]) (rest := []) B hP hS (c_refuse l E r0 (-2)) lk_RX6_58 (hrecv (ci := 6) B hP (hk_lt (c := 6) (by decide +kernel) (by decide)) (hcc6 _ _ (by decide +kernel)) rfl) rfl rfl hl.1 (Nat.le_of_ble_eq_true rfl) ⟨Nat.le_of_ble_eq_true rfl, Nat.le_of_ble_eq_true rfl⟩ ⟨Nat.le_of_ble_eq_true rfl, Nat.le_of_ble_eq_true rfl⟩ dX6_join_27) hS (fun r4 ρ5 H locs q6 hP hS => ?_)
  obtain ⟨rfl, q6⟩ := q6
  have F7 : ∀ k, 1076 ≤ k → ρ5 k = r0 k := fun k hk => (q6 k (by omega) (by omega))
  exact ret_i B hr hlk hP hS dX6_join_30 (⟨rfl, F7⟩)

set_option maxHeartbeats 4000000 in
set_option maxRecDepth 100000 in
theorem c_leave (l : Launch) (E : hE) (a1 a2 : Int32) : Met l yX6_leave (.code yX6_leave cX6_leave 4 (some .int) :: gw_all) (rmk 4 160) (cPre E r0 [.ref (E.2.1 + 0), .int a1, .int a2]) (cI E (fun r ρ1 => (r = (-2)) ∧ ∀ k, 1076 ≤ k → ρ1 k = r0 k)) 0 0 (hA E) := by
  refine ent (own := RX6) (by decide) rfl (Nat.le_of_ble_eq_true rfl) ?_
  intro p e s m below meth c ls B hr hlk hl hP hS
  have hx := B.1.1
  have hb := B.1.2.1
  have hown := B.1.2.2.2.1
  have hts := B.1.2.2.2.2
  have hl : lv_has ls 4 [(0, .ref (E.2.1 + 0)), (1, .int a1), (2, .int a2)] := hl
  refine lv_aload_n hx hb dX6_leave_0 rfl (lv_at hl 0 rfl) ?_
  refine get6 B hP (by decide +kernel) 0 (by decide) mw_412 rfl dX6_leave_1 ?_
  refine lv_iload_n hx hb dX6_leave_4 rfl (lv_at hl 1 rfl) ?_
  refine call_q (cVt (k := 1) (av := [.int a1]) (rest := []) B hP hS (c_netAt l E r0 1 a1 (by decide +kernel) (FrW_r0 (by decide +kernel))) lk_RX6_95 (hrecv (ci := 5) B hP (hk_lt (c := 5) (by decide +kernel) (by decide)) (hcc5 _ _ (by decide +kernel)) rfl) rfl rfl hl.1 (Nat.le_of_ble_eq_true rfl) ⟨Nat.le_of_ble_eq_true rfl, Nat.le_of_ble_eq_true rfl⟩ ⟨Nat.le_of_ble_eq_true rfl, Nat.le_of_ble_eq_true rfl⟩ dX6_leave_5) hS (fun r1 ρ2 H locs q3 hP hS => ?_)
  obtain ⟨rfl, rfl⟩ := q3
  refine W.eq (g2 := F0 m 8 ls [.null]) rfl ?_
  refine lv_astore_nN (lv' := [(3, .null), (0, .ref (E.2.1 + 0)), (1, .int a1), (2, .int a2)]) hx hb dX6_leave_8 rfl hl (by decide) rfl (fun ls hl => ?_)
  refine lv_aload_nN hx hb dX6_leave_9 rfl (lv_at hl 0 rfl) ?_
  refine lv_ifnullN (tgt := 21) hx hb dX6_leave_10 (by decide) ?_
  refine lv_aload_n hx hb dX6_leave_21 rfl (lv_at hl 1 rfl) ?_
  refine lv_bipush (v := (-2)) hx hb dX6_leave_22 (by decide) ?_
  refine call_i (cVt (k := 0) (av := [.int (-2)]) (rest := []) B hP hS (c_refuse l E r0 (-2)) lk_RX6_58 (hrecv (ci := 6) B hP (hk_lt (c := 6) (by decide +kernel) (by decide)) (hcc6 _ _ (by decide +kernel)) rfl) rfl rfl hl.1 (Nat.le_of_ble_eq_true rfl) ⟨Nat.le_of_ble_eq_true rfl, Nat.le_of_ble_eq_true rfl⟩ ⟨Nat.le_of_ble_eq_true rfl, Nat.le_of_ble_eq_true rfl⟩ dX6_leave_24) hS (fun r4 ρ5 H locs q6 hP hS => ?_)
  obtain ⟨rfl, q6⟩ := q6
  have F7 : ∀ k, 1076 ≤ k → ρ5 k = r0 k := fun k hk => (q6 k (by omega) (by omega))
  exact ret_i B hr hlk hP hS dX6_leave_27 (⟨rfl, F7⟩)

set_option maxHeartbeats 4000000 in
set_option maxRecDepth 100000 in
theorem c_noise (l : Launch) (E : hE) (a1 a2 : Int32) : Met l yX6_noise (.code yX6_noise cX6_noise 4 (some .int) :: gw_all) (rmk 4 160) (cPre E r0 [.ref (E.2.1 + 0), .int a1, .int a2]) (cI E (fun r ρ1 => (((iR a1 0 22 ∧ iR a2 0 16) ∧ r = 0) ∨ (¬ (iR a1 0 22 ∧ iR a2 0 16) ∧ r = -1)) ∧ ∀ k, 1076 ≤ k → ρ1 k = r0 k)) 0 0 (hA E) := by
  refine ent (own := RX6) (by decide) rfl (Nat.le_of_ble_eq_true rfl) ?_
  intro p e s m below meth c ls B hr hlk hl hP hS
  have hx := B.1.1
  have hb := B.1.2.1
  have hown := B.1.2.2.2.1
  have hts := B.1.2.2.2.2
  have hl : lv_has ls 4 [(0, .ref (E.2.1 + 0)), (1, .int a1), (2, .int a2)] := hl
  refine lv_iload_n hx hb dX6_noise_0 rfl (lv_at hl 1 rfl) ?_
  refine lv_iconst (v := 0) hx hb dX6_noise_1 (by decide) ?_
  refine lv_bipush (v := 22) hx hb dX6_noise_2 (by decide) ?_
  refine call_i (cS (av := [.int a1, .int 0, .int 22]) (rest := []) B hP hS (c_isWithin l E r0 a1 0 22 0 22 (by decide) (by decide)) lk_RX6_54 rfl rfl hl.1 (Nat.le_of_ble_eq_true rfl) ⟨Nat.le_of_ble_eq_true rfl, Nat.le_of_ble_eq_true rfl⟩ ⟨Nat.le_of_ble_eq_true rfl, Nat.le_of_ble_eq_true rfl⟩ dX6_noise_4) hS (fun r1 ρ2 H locs q3 hP hS => ?_)
  obtain ⟨rfl, q3⟩ := q3
  rcases q3 with ⟨rfl, q3⟩ | ⟨rfl, q3⟩
  · skip
    obtain ⟨j4, hj4, ej4⟩ := iR_ix (n := 23) q3 (by decide) (by decide)
    refine lv_if_eq (tgt := 20) hx hb dX6_noise_7 (by decide) (fun c5 => absurd c5 (by decide)) (fun _ => ?_)
    refine lv_iload_n hx hb dX6_noise_10 rfl (lv_at hl 2 rfl) ?_
    refine lv_iconst (v := 0) hx hb dX6_noise_11 (by decide) ?_
    refine lv_bipush (v := 16) hx hb dX6_noise_12 (by decide) ?_
    refine call_i (cS (av := [.int a2, .int 0, .int 16]) (rest := []) B hP hS (c_isWithin l E r0 a2 0 16 0 16 (by decide) (by decide)) lk_RX6_54 rfl rfl hl.1 (Nat.le_of_ble_eq_true rfl) ⟨Nat.le_of_ble_eq_true rfl, Nat.le_of_ble_eq_true rfl⟩ ⟨Nat.le_of_ble_eq_true rfl, Nat.le_of_ble_eq_true rfl⟩ dX6_noise_14) hS (fun r6 ρ7 H locs q8 hP hS => ?_)
    obtain ⟨rfl, q8⟩ := q8
    rcases q8 with ⟨rfl, q8⟩ | ⟨rfl, q8⟩
    · skip
      refine lv_if_ne (tgt := 26) hx hb dX6_noise_17 (by decide) (fun _ => ?_) (fun c9 => absurd c9 (by decide))
      refine lv_aload_n hx hb dX6_noise_26 rfl (lv_at hl 0 rfl) ?_
      refine lv_iconst (v := 4) hx hb dX6_noise_27 (by decide) ?_
      refine call_v (cVt (k := 0) (av := [.int 4]) (rest := []) B hP hS (c_keepForUndo l E 4) lk_RX6_65 (hrecv (ci := 6) B hP (hk_lt (c := 6) (by decide +kernel) (by decide)) (hcc6 _ _ (by decide +kernel)) rfl) rfl rfl hl.1 (Nat.le_of_ble_eq_true rfl) ⟨Nat.le_of_ble_eq_true rfl, Nat.le_of_ble_eq_true rfl⟩ ⟨Nat.le_of_ble_eq_true rfl, Nat.le_of_ble_eq_true rfl⟩ dX6_noise_28) hS (fun ρ11 H locs q12 hP hS => ?_)
      have F13 : ∀ k, 1076 ≤ k → ρ11 k = r0 k := fun k hk => (q12 k (by omega) (by omega))
      refine lv_aload_n hx hb dX6_noise_31 rfl (lv_at hl 0 rfl) ?_
      refine get6 B hP (by decide +kernel) 0 (by decide) mw_412 rfl dX6_noise_32 ?_
      refine get5 B hP (by decide +kernel) 1 (by decide) mw_374 rfl dX6_noise_35 ?_
      refine lv_iload_n hx hb dX6_noise_38 rfl (lv_at hl 1 rfl) ?_
      refine aldf (n := 23) (j := j4) (v := 0) B hP (by decide +kernel) (by decide +kernel) ej4 hj4 (by decide) ((congrFun (q12 3 (by decide) (by decide)) j4).trans (r0_arr (k := 3) (j := j4) (by decide +kernel) (by decide))) dX6_noise_39 ?_
      refine lv_istore_n (lv' := [(3, .int 0), (0, .ref (E.2.1 + 0)), (1, .int a1), (2, .int a2)]) hx hb dX6_noise_40 rfl hl (by decide) rfl (fun ls hl => ?_)
      refine lv_aload_n hx hb dX6_noise_41 rfl (lv_at hl 1 rfl) ?_
      refine get6 B hP (by decide +kernel) 0 (by decide) mw_412 rfl dX6_noise_42 ?_
      refine get5 B hP (by decide +kernel) 1 (by decide) mw_374 rfl dX6_noise_45 ?_
      refine lv_iload_n hx hb dX6_noise_48 rfl (lv_at hl 2 rfl) ?_
      refine lv_iload_n hx hb dX6_noise_49 rfl (lv_at hl 3 rfl) ?_
      refine astn (n := 23) (j := j4) B hP hS (by decide +kernel) (by decide +kernel) ej4 hj4 (by decide) dX6_noise_50 (fun H locs hP hS => ?_)
      obtain ⟨ρ14, e15⟩ : ∃ z, z = up ρ11 3 j4 a2 := ⟨_, rfl⟩
      rw [← e15] at hP
      have F16 : ∀ k, 1076 ≤ k → ρ14 k = r0 k := fun k t0 => by rw [e15, up_ne _ _ _ (by omega)]; exact F13 k t0
      refine lv_aload_n hx hb dX6_noise_51 rfl (lv_at hl 1 rfl) ?_
      refine lv_iload_n hx hb dX6_noise_52 rfl (lv_at hl 0 rfl) ?_
      refine call_i (cVt (k := 0) (av := [.int 0]) (rest := []) B hP hS (c_accept l E ρ14 0) lk_RX6_72 (hrecv (ci := 6) B hP (hk_lt (c := 6) (by decide +kernel) (by decide)) (hcc6 _ _ (by decide +kernel)) rfl) rfl rfl hl.1 (Nat.le_of_ble_eq_true rfl) ⟨Nat.le_of_ble_eq_true rfl, Nat.le_of_ble_eq_true rfl⟩ ⟨Nat.le_of_ble_eq_true rfl, Nat.le_of_ble_eq_true rfl⟩ dX6_noise_53) hS (fun r17 ρ18 H locs q19 hP hS => ?_)
      obtain ⟨rfl, q19⟩ := q19
      have F20 : ∀ k, 1076 ≤ k → ρ18 k = r0 k := fun k hk => (q19 k (by omega) (by omega)).trans (F16 k hk)
      exact ret_i B hr hlk hP hS dX6_noise_56 (⟨Or.inl ⟨⟨q3, q8⟩, rfl⟩, F20⟩)
    · skip
      refine lv_if_ne (tgt := 26) hx hb dX6_noise_17 (by decide) (fun c21 => absurd c21 (by decide)) (fun _ => ?_)
      refine lv_aload_n hx hb dX6_noise_20 rfl (lv_at hl 0 rfl) ?_
      refine lv_iconst (v := (-1)) hx hb dX6_noise_21 (by decide) ?_
      refine call_i (cVt (k := 0) (av := [.int (-1)]) (rest := []) B hP hS (c_refuse l E r0 (-1)) lk_RX6_58 (hrecv (ci := 6) B hP (hk_lt (c := 6) (by decide +kernel) (by decide)) (hcc6 _ _ (by decide +kernel)) rfl) rfl rfl hl.1 (Nat.le_of_ble_eq_true rfl) ⟨Nat.le_of_ble_eq_true rfl, Nat.le_of_ble_eq_true rfl⟩ ⟨Nat.le_of_ble_eq_true rfl, Nat.le_of_ble_eq_true rfl⟩ dX6_noise_22) hS (fun r22 ρ23 H locs q24 hP hS => ?_)
      obtain ⟨rfl, q24⟩ := q24
      have F25 : ∀ k, 1076 ≤ k → ρ23 k = r0 k := fun k hk => (q24 k (by omega) (by omega))
      exact ret_i B hr hlk hP hS dX6_noise_25 (⟨Or.inr ⟨fun z => q8 z.2, rfl⟩, F25⟩)
  · skip
    refine lv_if_eq (tgt := 20) hx hb dX6_noise_7 (by decide) (fun _ => ?_) (fun c26 => absurd c26 (by decide))
    refine lv_aload_n hx hb dX6_noise_20 rfl (lv_at hl 0 rfl) ?_
    refine lv_iconst (v := (-1)) hx hb dX6_noise_21 (by decide) ?_
    refine call_i (cVt (k := 0) (av := [.int (-1)]) (rest := []) B hP hS (c_refuse l E r0 (-1)) lk_RX6_58 (hrecv (ci := 6) B hP (hk_lt (c := 6) (by decide +kernel) (by decide)) (hcc6 _ _ (by decide +kernel)) rfl) rfl rfl hl.1 (Nat.le_of_ble_eq_true rfl) ⟨Nat.le_of_ble_eq_true rfl, Nat.le_of_ble_eq_true rfl⟩ ⟨Nat.le_of_ble_eq_true rfl, Nat.le_of_ble_eq_true rfl⟩ dX6_noise_22) hS (fun r27 ρ28 H locs q29 hP hS => ?_)
    obtain ⟨rfl, q29⟩ := q29
    have F30 : ∀ k, 1076 ≤ k → ρ28 k = r0 k := fun k hk => (q29 k (by omega) (by omega))
    exact ret_i B hr hlk hP hS dX6_noise_25 (⟨Or.inr ⟨fun z => q3 z.1, rfl⟩, F30⟩)

theorem lk_RX6_119 : LkS RX6 119 yX6_isTerm cX6_isTerm 2 (some .boolean) 2 := ⟨⟨mw_561, mw_562, mw_52, mw_563⟩, by decide +kernel⟩
set_option maxHeartbeats 4000000 in
set_option maxRecDepth 100000 in
theorem c_terms (l : Launch) (E : hE) (a1 a2 : Int32) : Met l yX6_terms (.code yX6_terms cX6_terms 4 (some .int) :: gw_all) (rmk 4 160) (cPre E r0 [.ref (E.2.1 + 0), .int a1, .int a2]) (cI E (fun r ρ1 => ((tm a1 a2 ∧ tmv a1 r) ∨ (¬ tm a1 a2 ∧ r = -1)) ∧ ∀ k, 1076 ≤ k → ρ1 k = r0 k)) 0 0 (hA E) := by
  refine ent (own := RX6) (by decide) rfl (Nat.le_of_ble_eq_true rfl) ?_
  intro p e s m below meth c ls B hr hlk hl hP hS
  have hx := B.1.1
  have hb := B.1.2.1
  have hown := B.1.2.2.2.1
  have hts := B.1.2.2.2.2
  have hl : lv_has ls 4 [(0, .ref (E.2.1 + 0)), (1, .int a1), (2, .int a2)] := hl
  refine lv_iload_n hx hb dX6_terms_0 rfl (lv_at hl 1 rfl) ?_
  refine lv_iload_n hx hb dX6_terms_1 rfl (lv_at hl 2 rfl) ?_
  refine call_i (cS (av := [.int a1, .int a2]) (rest := []) B hP hS (c_isTerm l E r0 a1 a2) lk_RX6_119 rfl rfl hl.1 (Nat.le_of_ble_eq_true rfl) ⟨Nat.le_of_ble_eq_true rfl, Nat.le_of_ble_eq_true rfl⟩ ⟨Nat.le_of_ble_eq_true rfl, Nat.le_of_ble_eq_true rfl⟩ dX6_terms_2) hS (fun r1 ρ2 H locs q3 hP hS => ?_)
  obtain ⟨rfl, q3⟩ := q3
  rcases q3 with ⟨rfl, q3⟩ | ⟨rfl, q3⟩
  · skip
    refine lv_if_ne (tgt := 14) hx hb dX6_terms_5 (by decide) (fun _ => ?_) (fun c4 => absurd c4 (by decide))
    refine lv_aload_n hx hb dX6_terms_14 rfl (lv_at hl 0 rfl) ?_
    refine lv_iconst (v := 5) hx hb dX6_terms_15 (by decide) ?_
    refine call_v (cVt (k := 0) (av := [.int 5]) (rest := []) B hP hS (c_keepForUndo l E 5) lk_RX6_65 (hrecv (ci := 6) B hP (hk_lt (c := 6) (by decide +kernel) (by decide)) (hcc6 _ _ (by decide +kernel)) rfl) rfl rfl hl.1 (Nat.le_of_ble_eq_true rfl) ⟨Nat.le_of_ble_eq_true rfl, Nat.le_of_ble_eq_true rfl⟩ ⟨Nat.le_of_ble_eq_true rfl, Nat.le_of_ble_eq_true rfl⟩ dX6_terms_16) hS (fun ρ6 H locs q7 hP hS => ?_)
    have F8 : ∀ k, 1076 ≤ k → ρ6 k = r0 k := fun k hk => (q7 k (by omega) (by omega))
    refine lv_iload_n hx hb dX6_terms_19 rfl (lv_at hl 1 rfl) ?_
    refine lv_if_ne (tgt := 42) hx hb dX6_terms_20 (by decide) (fun c9 => ?_) (fun c9 => ?_)
    · skip
      refine lv_iload_n hx hb dX6_terms_42 rfl (lv_at hl 1 rfl) ?_
      refine lv_iconst (v := 1) hx hb dX6_terms_43 (by decide) ?_
      refine lv_icmp_ne (tgt := 66) hx hb dX6_terms_44 (by decide) (fun c10 => ?_) (fun c10 => ?_)
      · skip
        refine lv_aload_n hx hb dX6_terms_66 rfl (lv_at hl 0 rfl) ?_
        refine get6 B hP (by decide +kernel) 0 (by decide) mw_412 rfl dX6_terms_67 ?_
        refine get5 B hP (by decide +kernel) 8 (by decide) mw_388 (v := .int 2) (show some (Value.int (ρ6 1 8)) = some (Value.int 2) from congrArg (fun z => some (Value.int z)) ((congrFun (q7 1 (by decide) (by decide)) 8).trans (show r0 1 8 = 2 by decide +kernel))) dX6_terms_70 ?_
        refine lv_istore_n (lv' := [(3, .int 2), (0, .ref (E.2.1 + 0)), (1, .int a1), (2, .int a2)]) hx hb dX6_terms_73 rfl hl (by decide) rfl (fun ls hl => ?_)
        refine lv_aload_n hx hb dX6_terms_74 rfl (lv_at hl 1 rfl) ?_
        refine get6 B hP (by decide +kernel) 0 (by decide) mw_412 rfl dX6_terms_75 ?_
        refine lv_iload_n hx hb dX6_terms_78 rfl (lv_at hl 3 rfl) ?_
        refine put5 B hP hS (by decide +kernel) 8 (by decide) mw_388 rfl rfl rfl (fs5_8 E 1 _ _) dX6_terms_79 (fun H locs hP hS => ?_)
        obtain ⟨ρ11, e12⟩ : ∃ z, z = up ρ6 1 8 a2 := ⟨_, rfl⟩
        rw [← e12] at hP
        have F13 : ∀ k, 1076 ≤ k → ρ11 k = r0 k := fun k t0 => by rw [e12, up_ne _ _ _ (by omega)]; exact F8 k t0
        refine lv_aload_n hx hb dX6_terms_82 rfl (lv_at hl 1 rfl) ?_
        refine lv_iload_n hx hb dX6_terms_83 rfl (lv_at hl 0 rfl) ?_
        refine call_i (cVt (k := 0) (av := [.int 2]) (rest := []) B hP hS (c_accept l E ρ11 2) lk_RX6_72 (hrecv (ci := 6) B hP (hk_lt (c := 6) (by decide +kernel) (by decide)) (hcc6 _ _ (by decide +kernel)) rfl) rfl rfl hl.1 (Nat.le_of_ble_eq_true rfl) ⟨Nat.le_of_ble_eq_true rfl, Nat.le_of_ble_eq_true rfl⟩ ⟨Nat.le_of_ble_eq_true rfl, Nat.le_of_ble_eq_true rfl⟩ dX6_terms_84) hS (fun r14 ρ15 H locs q16 hP hS => ?_)
        obtain ⟨rfl, q16⟩ := q16
        have F17 : ∀ k, 1076 ≤ k → ρ15 k = r0 k := fun k hk => (q16 k (by omega) (by omega)).trans (F13 k hk)
        exact ret_i B hr hlk hP hS dX6_terms_87 (⟨Or.inl ⟨q3, tmv_2 q3 c9 c10⟩, F17⟩)
      · skip
        refine lv_aload_n hx hb dX6_terms_47 rfl (lv_at hl 0 rfl) ?_
        refine get6 B hP (by decide +kernel) 0 (by decide) mw_412 rfl dX6_terms_48 ?_
        refine get5 B hP (by decide +kernel) 7 (by decide) mw_386 (v := .int 16) (show some (Value.int (ρ6 1 7)) = some (Value.int 16) from congrArg (fun z => some (Value.int z)) ((congrFun (q7 1 (by decide) (by decide)) 7).trans (show r0 1 7 = 16 by decide +kernel))) dX6_terms_51 ?_
        refine lv_istore_n (lv' := [(3, .int 16), (0, .ref (E.2.1 + 0)), (1, .int a1), (2, .int a2)]) hx hb dX6_terms_54 rfl hl (by decide) rfl (fun ls hl => ?_)
        refine lv_aload_n hx hb dX6_terms_55 rfl (lv_at hl 1 rfl) ?_
        refine get6 B hP (by decide +kernel) 0 (by decide) mw_412 rfl dX6_terms_56 ?_
        refine lv_iload_n hx hb dX6_terms_59 rfl (lv_at hl 3 rfl) ?_
        refine put5 B hP hS (by decide +kernel) 7 (by decide) mw_386 rfl rfl rfl (fs5_7 E 1 _ _) dX6_terms_60 (fun H locs hP hS => ?_)
        obtain ⟨ρ18, e19⟩ : ∃ z, z = up ρ6 1 7 a2 := ⟨_, rfl⟩
        rw [← e19] at hP
        have F20 : ∀ k, 1076 ≤ k → ρ18 k = r0 k := fun k t0 => by rw [e19, up_ne _ _ _ (by omega)]; exact F8 k t0
        refine lv_goto (tgt := 82) hx hb dX6_terms_63 (by decide) ?_
        refine lv_aload_n hx hb dX6_terms_82 rfl (lv_at hl 1 rfl) ?_
        refine lv_iload_n hx hb dX6_terms_83 rfl (lv_at hl 0 rfl) ?_
        refine call_i (cVt (k := 0) (av := [.int 16]) (rest := []) B hP hS (c_accept l E ρ18 16) lk_RX6_72 (hrecv (ci := 6) B hP (hk_lt (c := 6) (by decide +kernel) (by decide)) (hcc6 _ _ (by decide +kernel)) rfl) rfl rfl hl.1 (Nat.le_of_ble_eq_true rfl) ⟨Nat.le_of_ble_eq_true rfl, Nat.le_of_ble_eq_true rfl⟩ ⟨Nat.le_of_ble_eq_true rfl, Nat.le_of_ble_eq_true rfl⟩ dX6_terms_84) hS (fun r21 ρ22 H locs q23 hP hS => ?_)
        obtain ⟨rfl, q23⟩ := q23
        have F24 : ∀ k, 1076 ≤ k → ρ22 k = r0 k := fun k hk => (q23 k (by omega) (by omega)).trans (F20 k hk)
        exact ret_i B hr hlk hP hS dX6_terms_87 (⟨Or.inl ⟨q3, tmv_1 c10⟩, F24⟩)
    · skip
      refine lv_aload_n hx hb dX6_terms_23 rfl (lv_at hl 0 rfl) ?_
      refine get6 B hP (by decide +kernel) 0 (by decide) mw_412 rfl dX6_terms_24 ?_
      refine get5 B hP (by decide +kernel) 6 (by decide) mw_384 (v := .int 1) (show some (Value.int (ρ6 1 6)) = some (Value.int 1) from congrArg (fun z => some (Value.int z)) ((congrFun (q7 1 (by decide) (by decide)) 6).trans (show r0 1 6 = 1 by decide +kernel))) dX6_terms_27 ?_
      refine lv_istore_n (lv' := [(3, .int 1), (0, .ref (E.2.1 + 0)), (1, .int a1), (2, .int a2)]) hx hb dX6_terms_30 rfl hl (by decide) rfl (fun ls hl => ?_)
      refine lv_aload_n hx hb dX6_terms_31 rfl (lv_at hl 1 rfl) ?_
      refine get6 B hP (by decide +kernel) 0 (by decide) mw_412 rfl dX6_terms_32 ?_
      refine lv_iload_n hx hb dX6_terms_35 rfl (lv_at hl 3 rfl) ?_
      refine put5 B hP hS (by decide +kernel) 6 (by decide) mw_384 rfl rfl rfl (fs5_6 E 1 _ _) dX6_terms_36 (fun H locs hP hS => ?_)
      obtain ⟨ρ25, e26⟩ : ∃ z, z = up ρ6 1 6 a2 := ⟨_, rfl⟩
      rw [← e26] at hP
      have F27 : ∀ k, 1076 ≤ k → ρ25 k = r0 k := fun k t0 => by rw [e26, up_ne _ _ _ (by omega)]; exact F8 k t0
      refine lv_goto (tgt := 82) hx hb dX6_terms_39 (by decide) ?_
      refine lv_aload_n hx hb dX6_terms_82 rfl (lv_at hl 1 rfl) ?_
      refine lv_iload_n hx hb dX6_terms_83 rfl (lv_at hl 0 rfl) ?_
      refine call_i (cVt (k := 0) (av := [.int 1]) (rest := []) B hP hS (c_accept l E ρ25 1) lk_RX6_72 (hrecv (ci := 6) B hP (hk_lt (c := 6) (by decide +kernel) (by decide)) (hcc6 _ _ (by decide +kernel)) rfl) rfl rfl hl.1 (Nat.le_of_ble_eq_true rfl) ⟨Nat.le_of_ble_eq_true rfl, Nat.le_of_ble_eq_true rfl⟩ ⟨Nat.le_of_ble_eq_true rfl, Nat.le_of_ble_eq_true rfl⟩ dX6_terms_84) hS (fun r28 ρ29 H locs q30 hP hS => ?_)
      obtain ⟨rfl, q30⟩ := q30
      have F31 : ∀ k, 1076 ≤ k → ρ29 k = r0 k := fun k hk => (q30 k (by omega) (by omega)).trans (F27 k hk)
      exact ret_i B hr hlk hP hS dX6_terms_87 (⟨Or.inl ⟨q3, tmv_0 c9⟩, F31⟩)
  · skip
    refine lv_if_ne (tgt := 14) hx hb dX6_terms_5 (by decide) (fun c32 => absurd c32 (by decide)) (fun _ => ?_)
    refine lv_aload_n hx hb dX6_terms_8 rfl (lv_at hl 0 rfl) ?_
    refine lv_iconst (v := (-1)) hx hb dX6_terms_9 (by decide) ?_
    refine call_i (cVt (k := 0) (av := [.int (-1)]) (rest := []) B hP hS (c_refuse l E r0 (-1)) lk_RX6_58 (hrecv (ci := 6) B hP (hk_lt (c := 6) (by decide +kernel) (by decide)) (hcc6 _ _ (by decide +kernel)) rfl) rfl rfl hl.1 (Nat.le_of_ble_eq_true rfl) ⟨Nat.le_of_ble_eq_true rfl, Nat.le_of_ble_eq_true rfl⟩ ⟨Nat.le_of_ble_eq_true rfl, Nat.le_of_ble_eq_true rfl⟩ dX6_terms_10) hS (fun r33 ρ34 H locs q35 hP hS => ?_)
    obtain ⟨rfl, q35⟩ := q35
    have F36 : ∀ k, 1076 ≤ k → ρ34 k = r0 k := fun k hk => (q35 k (by omega) (by omega))
    exact ret_i B hr hlk hP hS dX6_terms_13 (⟨Or.inr ⟨q3, rfl⟩, F36⟩)

theorem lk_RX6_132 : LkV RX6 132 RX5 yX5_linkAt cX5_linkAt 4 (some (.object "HopNet$Link")) 2 := ⟨⟨mw_572, mw_573, mw_574, mw_53, mw_575⟩, by decide +kernel⟩
set_option maxHeartbeats 4000000 in
set_option maxRecDepth 100000 in
theorem c_put (l : Launch) (E : hE) (a1 a2 a3 a4 : Int32) : Met l yX6_put (.code yX6_put cX6_put 7 (some .int) :: gw_all) (rmk 4 160) (cPre E r0 [.ref (E.2.1 + 0), .int a1, .int a2, .int a3, .int a4]) (cI E (fun r ρ1 => (((iR a3 0 1 ∧ iR a4 0 255) ∧ r = -2) ∨ (¬ (iR a3 0 1 ∧ iR a4 0 255) ∧ r = -1)) ∧ ∀ k, 1076 ≤ k → ρ1 k = r0 k)) 0 0 (hA E) := by
  refine ent (own := RX6) (by decide) rfl (Nat.le_of_ble_eq_true rfl) ?_
  intro p e s m below meth c ls B hr hlk hl hP hS
  have hx := B.1.1
  have hb := B.1.2.1
  have hown := B.1.2.2.2.1
  have hts := B.1.2.2.2.2
  have hl : lv_has ls 7 [(0, .ref (E.2.1 + 0)), (1, .int a1), (2, .int a2), (3, .int a3), (4, .int a4)] := hl
  refine lv_iload_n hx hb dX6_put_0 rfl (lv_at hl 3 rfl) ?_
  refine lv_iconst (v := 0) hx hb dX6_put_1 (by decide) ?_
  refine lv_iconst (v := 1) hx hb dX6_put_2 (by decide) ?_
  refine call_i (cS (av := [.int a3, .int 0, .int 1]) (rest := []) B hP hS (c_isWithin l E r0 a3 0 1 0 1 (by decide) (by decide)) lk_RX6_54 rfl rfl hl.1 (Nat.le_of_ble_eq_true rfl) ⟨Nat.le_of_ble_eq_true rfl, Nat.le_of_ble_eq_true rfl⟩ ⟨Nat.le_of_ble_eq_true rfl, Nat.le_of_ble_eq_true rfl⟩ dX6_put_3) hS (fun r1 ρ2 H locs q3 hP hS => ?_)
  obtain ⟨rfl, q3⟩ := q3
  rcases q3 with ⟨rfl, q3⟩ | ⟨rfl, q3⟩
  · skip
    refine lv_if_eq (tgt := 21) hx hb dX6_put_6 (by decide) (fun c4 => absurd c4 (by decide)) (fun _ => ?_)
    refine lv_iload hx hb dX6_put_9 (lv_at hl 4 rfl) ?_
    refine lv_iconst (v := 0) hx hb dX6_put_11 (by decide) ?_
    refine lv_sipush (v := 255) hx hb dX6_put_12 (by decide) ?_
    refine call_i (cS (av := [.int a4, .int 0, .int 255]) (rest := []) B hP hS (c_isWithin l E r0 a4 0 255 0 255 (by decide) (by decide)) lk_RX6_54 rfl rfl hl.1 (Nat.le_of_ble_eq_true rfl) ⟨Nat.le_of_ble_eq_true rfl, Nat.le_of_ble_eq_true rfl⟩ ⟨Nat.le_of_ble_eq_true rfl, Nat.le_of_ble_eq_true rfl⟩ dX6_put_15) hS (fun r5 ρ6 H locs q7 hP hS => ?_)
    obtain ⟨rfl, q7⟩ := q7
    rcases q7 with ⟨rfl, q7⟩ | ⟨rfl, q7⟩
    · skip
      refine lv_if_ne (tgt := 27) hx hb dX6_put_18 (by decide) (fun _ => ?_) (fun c8 => absurd c8 (by decide))
      refine lv_aload_n hx hb dX6_put_27 rfl (lv_at hl 0 rfl) ?_
      refine get6 B hP (by decide +kernel) 0 (by decide) mw_412 rfl dX6_put_28 ?_
      refine lv_iload_n hx hb dX6_put_31 rfl (lv_at hl 1 rfl) ?_
      refine lv_iload_n hx hb dX6_put_32 rfl (lv_at hl 2 rfl) ?_
      refine call_q (cVt (k := 1) (av := [.int a1, .int a2]) (rest := []) B hP hS (c_linkAt l E r0 1 a1 a2 (by decide +kernel) (FrW_r0 (by decide +kernel))) lk_RX6_132 (hrecv (ci := 5) B hP (hk_lt (c := 5) (by decide +kernel) (by decide)) (hcc5 _ _ (by decide +kernel)) rfl) rfl rfl hl.1 (Nat.le_of_ble_eq_true rfl) ⟨Nat.le_of_ble_eq_true rfl, Nat.le_of_ble_eq_true rfl⟩ ⟨Nat.le_of_ble_eq_true rfl, Nat.le_of_ble_eq_true rfl⟩ dX6_put_33) hS (fun r9 ρ10 H locs q11 hP hS => ?_)
      obtain ⟨rfl, rfl⟩ := q11
      refine W.eq (g2 := F0 m 36 ls [.null]) rfl ?_
      refine lv_astoreN (lv' := [(5, .null), (0, .ref (E.2.1 + 0)), (1, .int a1), (2, .int a2), (3, .int a3), (4, .int a4)]) hx hb dX6_put_36 hl (by decide) rfl (fun ls hl => ?_)
      refine lv_aloadN hx hb dX6_put_38 (lv_at hl 0 rfl) ?_
      refine lv_ifnonnullN hx hb dX6_put_40 ?_
      refine lv_aload_n hx hb dX6_put_43 rfl (lv_at hl 1 rfl) ?_
      refine lv_bipush (v := (-2)) hx hb dX6_put_44 (by decide) ?_
      refine call_i (cVt (k := 0) (av := [.int (-2)]) (rest := []) B hP hS (c_refuse l E r0 (-2)) lk_RX6_58 (hrecv (ci := 6) B hP (hk_lt (c := 6) (by decide +kernel) (by decide)) (hcc6 _ _ (by decide +kernel)) rfl) rfl rfl hl.1 (Nat.le_of_ble_eq_true rfl) ⟨Nat.le_of_ble_eq_true rfl, Nat.le_of_ble_eq_true rfl⟩ ⟨Nat.le_of_ble_eq_true rfl, Nat.le_of_ble_eq_true rfl⟩ dX6_put_46) hS (fun r12 ρ13 H locs q14 hP hS => ?_)
      obtain ⟨rfl, q14⟩ := q14
      have F15 : ∀ k, 1076 ≤ k → ρ13 k = r0 k := fun k hk => (q14 k (by omega) (by omega))
      exact ret_i B hr hlk hP hS dX6_put_49 (⟨Or.inl ⟨⟨q3, q7⟩, rfl⟩, F15⟩)
    · skip
      refine lv_if_ne (tgt := 27) hx hb dX6_put_18 (by decide) (fun c16 => absurd c16 (by decide)) (fun _ => ?_)
      refine lv_aload_n hx hb dX6_put_21 rfl (lv_at hl 0 rfl) ?_
      refine lv_iconst (v := (-1)) hx hb dX6_put_22 (by decide) ?_
      refine call_i (cVt (k := 0) (av := [.int (-1)]) (rest := []) B hP hS (c_refuse l E r0 (-1)) lk_RX6_58 (hrecv (ci := 6) B hP (hk_lt (c := 6) (by decide +kernel) (by decide)) (hcc6 _ _ (by decide +kernel)) rfl) rfl rfl hl.1 (Nat.le_of_ble_eq_true rfl) ⟨Nat.le_of_ble_eq_true rfl, Nat.le_of_ble_eq_true rfl⟩ ⟨Nat.le_of_ble_eq_true rfl, Nat.le_of_ble_eq_true rfl⟩ dX6_put_23) hS (fun r17 ρ18 H locs q19 hP hS => ?_)
      obtain ⟨rfl, q19⟩ := q19
      have F20 : ∀ k, 1076 ≤ k → ρ18 k = r0 k := fun k hk => (q19 k (by omega) (by omega))
      exact ret_i B hr hlk hP hS dX6_put_26 (⟨Or.inr ⟨fun z => q7 z.2, rfl⟩, F20⟩)
  · skip
    refine lv_if_eq (tgt := 21) hx hb dX6_put_6 (by decide) (fun _ => ?_) (fun c21 => absurd c21 (by decide))
    refine lv_aload_n hx hb dX6_put_21 rfl (lv_at hl 0 rfl) ?_
    refine lv_iconst (v := (-1)) hx hb dX6_put_22 (by decide) ?_
    refine call_i (cVt (k := 0) (av := [.int (-1)]) (rest := []) B hP hS (c_refuse l E r0 (-1)) lk_RX6_58 (hrecv (ci := 6) B hP (hk_lt (c := 6) (by decide +kernel) (by decide)) (hcc6 _ _ (by decide +kernel)) rfl) rfl rfl hl.1 (Nat.le_of_ble_eq_true rfl) ⟨Nat.le_of_ble_eq_true rfl, Nat.le_of_ble_eq_true rfl⟩ ⟨Nat.le_of_ble_eq_true rfl, Nat.le_of_ble_eq_true rfl⟩ dX6_put_23) hS (fun r22 ρ23 H locs q24 hP hS => ?_)
    obtain ⟨rfl, q24⟩ := q24
    have F25 : ∀ k, 1076 ≤ k → ρ23 k = r0 k := fun k hk => (q24 k (by omega) (by omega))
    exact ret_i B hr hlk hP hS dX6_put_26 (⟨Or.inr ⟨fun z => q3 z.1, rfl⟩, F25⟩)

set_option maxHeartbeats 4000000 in
set_option maxRecDepth 100000 in
theorem c_reserve (l : Launch) (E : hE) (a1 a2 a3 a4 a5 : Int32) : Met l yX6_reserve (.code yX6_reserve cX6_reserve 9 (some .int) :: gw_all) (rmk 4 160) (cPre E r0 [.ref (E.2.1 + 0), .int a1, .int a2, .int a3, .int a4, .int a5]) (cI E (fun r ρ1 => (((a3 = 0 ∨ (iR a3 6 40 ∧ ev a3) ∧ (iR a4 0 (a3 - 1).toInt ∧ ev a4) ∧ iR a5 1 3) ∧ r = -2) ∨ (¬ (a3 = 0 ∨ (iR a3 6 40 ∧ ev a3) ∧ (iR a4 0 (a3 - 1).toInt ∧ ev a4) ∧ iR a5 1 3) ∧ r = -1)) ∧ ∀ k, 1076 ≤ k → ρ1 k = r0 k)) 0 0 (hA E) := by
  refine ent (own := RX6) (by decide) rfl (Nat.le_of_ble_eq_true rfl) ?_
  intro p e s m below meth c ls B hr hlk hl hP hS
  have hx := B.1.1
  have hb := B.1.2.1
  have hown := B.1.2.2.2.1
  have hts := B.1.2.2.2.2
  have hl : lv_has ls 9 [(0, .ref (E.2.1 + 0)), (1, .int a1), (2, .int a2), (3, .int a3), (4, .int a4), (5, .int a5)] := hl
  refine lv_iload_n hx hb dX6_reserve_0 rfl (lv_at hl 3 rfl) ?_
  refine lv_if_eq (tgt := 37) hx hb dX6_reserve_1 (by decide) (fun c1 => ?_) (fun c1 => ?_)
  · skip
    refine lv_iconst (v := 1) hx hb dX6_reserve_37 (by decide) ?_
    refine lv_goto (tgt := 42) hx hb dX6_reserve_38 (by decide) ?_
    refine lv_istore (lv' := [(6, .int 1), (0, .ref (E.2.1 + 0)), (1, .int a1), (2, .int a2), (3, .int a3), (4, .int a4), (5, .int a5)]) hx hb dX6_reserve_42 hl (by decide) rfl (fun ls hl => ?_)
    refine lv_iload hx hb dX6_reserve_44 (lv_at hl 0 rfl) ?_
    refine lv_if_ne (tgt := 55) hx hb dX6_reserve_46 (by decide) (fun _ => ?_) (fun c2 => absurd c2 (by decide))
    refine lv_aload_n hx hb dX6_reserve_55 rfl (lv_at hl 1 rfl) ?_
    refine get6 B hP (by decide +kernel) 0 (by decide) mw_412 rfl dX6_reserve_56 ?_
    refine lv_iload_n hx hb dX6_reserve_59 rfl (lv_at hl 2 rfl) ?_
    refine lv_iload_n hx hb dX6_reserve_60 rfl (lv_at hl 3 rfl) ?_
    refine call_q (cVt (k := 1) (av := [.int a1, .int a2]) (rest := []) B hP hS (c_linkAt l E r0 1 a1 a2 (by decide +kernel) (FrW_r0 (by decide +kernel))) lk_RX6_132 (hrecv (ci := 5) B hP (hk_lt (c := 5) (by decide +kernel) (by decide)) (hcc5 _ _ (by decide +kernel)) rfl) rfl rfl hl.1 (Nat.le_of_ble_eq_true rfl) ⟨Nat.le_of_ble_eq_true rfl, Nat.le_of_ble_eq_true rfl⟩ ⟨Nat.le_of_ble_eq_true rfl, Nat.le_of_ble_eq_true rfl⟩ dX6_reserve_61) hS (fun r3 ρ4 H locs q5 hP hS => ?_)
    obtain ⟨rfl, rfl⟩ := q5
    refine W.eq (g2 := F0 m 64 ls [.null]) rfl ?_
    refine lv_astoreN (lv' := [(7, .null), (6, .int 1), (0, .ref (E.2.1 + 0)), (1, .int a1), (2, .int a2), (3, .int a3), (4, .int a4), (5, .int a5)]) hx hb dX6_reserve_64 hl (by decide) rfl (fun ls hl => ?_)
    refine lv_aloadN hx hb dX6_reserve_66 (lv_at hl 0 rfl) ?_
    refine lv_ifnonnullN hx hb dX6_reserve_68 ?_
    refine lv_aload_n hx hb dX6_reserve_71 rfl (lv_at hl 2 rfl) ?_
    refine lv_bipush (v := (-2)) hx hb dX6_reserve_72 (by decide) ?_
    refine call_i (cVt (k := 0) (av := [.int (-2)]) (rest := []) B hP hS (c_refuse l E r0 (-2)) lk_RX6_58 (hrecv (ci := 6) B hP (hk_lt (c := 6) (by decide +kernel) (by decide)) (hcc6 _ _ (by decide +kernel)) rfl) rfl rfl hl.1 (Nat.le_of_ble_eq_true rfl) ⟨Nat.le_of_ble_eq_true rfl, Nat.le_of_ble_eq_true rfl⟩ ⟨Nat.le_of_ble_eq_true rfl, Nat.le_of_ble_eq_true rfl⟩ dX6_reserve_74) hS (fun r6 ρ7 H locs q8 hP hS => ?_)
    obtain ⟨rfl, q8⟩ := q8
    have F9 : ∀ k, 1076 ≤ k → ρ7 k = r0 k := fun k hk => (q8 k (by omega) (by omega))
    exact ret_i B hr hlk hP hS dX6_reserve_77 (⟨Or.inl ⟨Or.inl c1, rfl⟩, F9⟩)
  · skip
    refine lv_iload_n hx hb dX6_reserve_4 rfl (lv_at hl 3 rfl) ?_
    refine lv_bipush (v := 6) hx hb dX6_reserve_5 (by decide) ?_
    refine lv_bipush (v := 40) hx hb dX6_reserve_7 (by decide) ?_
    refine call_i (cS (av := [.int a3, .int 6, .int 40]) (rest := []) B hP hS (c_isEvenWithin l E r0 a3 6 40 6 40 (by decide) (by decide)) lk_RX6_156 rfl rfl hl.1 (Nat.le_of_ble_eq_true rfl) ⟨Nat.le_of_ble_eq_true rfl, Nat.le_of_ble_eq_true rfl⟩ ⟨Nat.le_of_ble_eq_true rfl, Nat.le_of_ble_eq_true rfl⟩ dX6_reserve_9) hS (fun r10 ρ11 H locs q12 hP hS => ?_)
    obtain ⟨rfl, q12⟩ := q12
    rcases q12 with ⟨rfl, q12⟩ | ⟨rfl, q12⟩
    · skip
      refine lv_if_eq (tgt := 41) hx hb dX6_reserve_12 (by decide) (fun c13 => absurd c13 (by decide)) (fun _ => ?_)
      refine lv_iload hx hb dX6_reserve_15 (lv_at hl 4 rfl) ?_
      refine lv_iconst (v := 0) hx hb dX6_reserve_17 (by decide) ?_
      refine lv_iload_n hx hb dX6_reserve_18 rfl (lv_at hl 3 rfl) ?_
      refine lv_iconst (v := 1) hx hb dX6_reserve_19 (by decide) ?_
      refine lv_isub hx hb dX6_reserve_20 ?_
      refine call_i (cS (av := [.int a4, .int 0, .int (a3 - 1)]) (rest := []) B hP hS (c_isEvenWithin l E r0 a4 0 (a3 - 1) 0 (a3 - 1).toInt (by decide) rfl) lk_RX6_156 rfl rfl hl.1 (Nat.le_of_ble_eq_true rfl) ⟨Nat.le_of_ble_eq_true rfl, Nat.le_of_ble_eq_true rfl⟩ ⟨Nat.le_of_ble_eq_true rfl, Nat.le_of_ble_eq_true rfl⟩ dX6_reserve_21) hS (fun r14 ρ15 H locs q16 hP hS => ?_)
      obtain ⟨rfl, q16⟩ := q16
      rcases q16 with ⟨rfl, q16⟩ | ⟨rfl, q16⟩
      · skip
        refine lv_if_eq (tgt := 41) hx hb dX6_reserve_24 (by decide) (fun c17 => absurd c17 (by decide)) (fun _ => ?_)
        refine lv_iload hx hb dX6_reserve_27 (lv_at hl 5 rfl) ?_
        refine lv_iconst (v := 1) hx hb dX6_reserve_29 (by decide) ?_
        refine lv_iconst (v := 3) hx hb dX6_reserve_30 (by decide) ?_
        refine call_i (cS (av := [.int a5, .int 1, .int 3]) (rest := []) B hP hS (c_isWithin l E r0 a5 1 3 1 3 (by decide) (by decide)) lk_RX6_54 rfl rfl hl.1 (Nat.le_of_ble_eq_true rfl) ⟨Nat.le_of_ble_eq_true rfl, Nat.le_of_ble_eq_true rfl⟩ ⟨Nat.le_of_ble_eq_true rfl, Nat.le_of_ble_eq_true rfl⟩ dX6_reserve_31) hS (fun r18 ρ19 H locs q20 hP hS => ?_)
        obtain ⟨rfl, q20⟩ := q20
        rcases q20 with ⟨rfl, q20⟩ | ⟨rfl, q20⟩
        · skip
          refine lv_if_eq (tgt := 41) hx hb dX6_reserve_34 (by decide) (fun c21 => absurd c21 (by decide)) (fun _ => ?_)
          refine lv_iconst (v := 1) hx hb dX6_reserve_37 (by decide) ?_
          refine lv_goto (tgt := 42) hx hb dX6_reserve_38 (by decide) ?_
          refine lv_istore (lv' := [(6, .int 1), (0, .ref (E.2.1 + 0)), (1, .int a1), (2, .int a2), (3, .int a3), (4, .int a4), (5, .int a5)]) hx hb dX6_reserve_42 hl (by decide) rfl (fun ls hl => ?_)
          refine lv_iload hx hb dX6_reserve_44 (lv_at hl 0 rfl) ?_
          refine lv_if_ne (tgt := 55) hx hb dX6_reserve_46 (by decide) (fun _ => ?_) (fun c22 => absurd c22 (by decide))
          refine lv_aload_n hx hb dX6_reserve_55 rfl (lv_at hl 1 rfl) ?_
          refine get6 B hP (by decide +kernel) 0 (by decide) mw_412 rfl dX6_reserve_56 ?_
          refine lv_iload_n hx hb dX6_reserve_59 rfl (lv_at hl 2 rfl) ?_
          refine lv_iload_n hx hb dX6_reserve_60 rfl (lv_at hl 3 rfl) ?_
          refine call_q (cVt (k := 1) (av := [.int a1, .int a2]) (rest := []) B hP hS (c_linkAt l E r0 1 a1 a2 (by decide +kernel) (FrW_r0 (by decide +kernel))) lk_RX6_132 (hrecv (ci := 5) B hP (hk_lt (c := 5) (by decide +kernel) (by decide)) (hcc5 _ _ (by decide +kernel)) rfl) rfl rfl hl.1 (Nat.le_of_ble_eq_true rfl) ⟨Nat.le_of_ble_eq_true rfl, Nat.le_of_ble_eq_true rfl⟩ ⟨Nat.le_of_ble_eq_true rfl, Nat.le_of_ble_eq_true rfl⟩ dX6_reserve_61) hS (fun r23 ρ24 H locs q25 hP hS => ?_)
          obtain ⟨rfl, rfl⟩ := q25
          refine W.eq (g2 := F0 m 64 ls [.null]) rfl ?_
          refine lv_astoreN (lv' := [(7, .null), (6, .int 1), (0, .ref (E.2.1 + 0)), (1, .int a1), (2, .int a2), (3, .int a3), (4, .int a4), (5, .int a5)]) hx hb dX6_reserve_64 hl (by decide) rfl (fun ls hl => ?_)
          refine lv_aloadN hx hb dX6_reserve_66 (lv_at hl 0 rfl) ?_
          refine lv_ifnonnullN hx hb dX6_reserve_68 ?_
          refine lv_aload_n hx hb dX6_reserve_71 rfl (lv_at hl 2 rfl) ?_
          refine lv_bipush (v := (-2)) hx hb dX6_reserve_72 (by decide) ?_
          refine call_i (cVt (k := 0) (av := [.int (-2)]) (rest := []) B hP hS (c_refuse l E r0 (-2)) lk_RX6_58 (hrecv (ci := 6) B hP (hk_lt (c := 6) (by decide +kernel) (by decide)) (hcc6 _ _ (by decide +kernel)) rfl) rfl rfl hl.1 (Nat.le_of_ble_eq_true rfl) ⟨Nat.le_of_ble_eq_true rfl, Nat.le_of_ble_eq_true rfl⟩ ⟨Nat.le_of_ble_eq_true rfl, Nat.le_of_ble_eq_true rfl⟩ dX6_reserve_74) hS (fun r26 ρ27 H locs q28 hP hS => ?_)
          obtain ⟨rfl, q28⟩ := q28
          have F29 : ∀ k, 1076 ≤ k → ρ27 k = r0 k := fun k hk => (q28 k (by omega) (by omega))
          exact ret_i B hr hlk hP hS dX6_reserve_77 (⟨Or.inl ⟨Or.inr ⟨q12, q16, q20⟩, rfl⟩, F29⟩)
        · skip
          refine lv_if_eq (tgt := 41) hx hb dX6_reserve_34 (by decide) (fun _ => ?_) (fun c30 => absurd c30 (by decide))
          refine lv_iconst (v := 0) hx hb dX6_reserve_41 (by decide) ?_
          refine lv_istore (lv' := [(6, .int 0), (0, .ref (E.2.1 + 0)), (1, .int a1), (2, .int a2), (3, .int a3), (4, .int a4), (5, .int a5)]) hx hb dX6_reserve_42 hl (by decide) rfl (fun ls hl => ?_)
          refine lv_iload hx hb dX6_reserve_44 (lv_at hl 0 rfl) ?_
          refine lv_if_ne (tgt := 55) hx hb dX6_reserve_46 (by decide) (fun c31 => absurd c31 (by decide)) (fun _ => ?_)
          refine lv_aload_n hx hb dX6_reserve_49 rfl (lv_at hl 1 rfl) ?_
          refine lv_iconst (v := (-1)) hx hb dX6_reserve_50 (by decide) ?_
          refine call_i (cVt (k := 0) (av := [.int (-1)]) (rest := []) B hP hS (c_refuse l E r0 (-1)) lk_RX6_58 (hrecv (ci := 6) B hP (hk_lt (c := 6) (by decide +kernel) (by decide)) (hcc6 _ _ (by decide +kernel)) rfl) rfl rfl hl.1 (Nat.le_of_ble_eq_true rfl) ⟨Nat.le_of_ble_eq_true rfl, Nat.le_of_ble_eq_true rfl⟩ ⟨Nat.le_of_ble_eq_true rfl, Nat.le_of_ble_eq_true rfl⟩ dX6_reserve_51) hS (fun r32 ρ33 H locs q34 hP hS => ?_)
          obtain ⟨rfl, q34⟩ := q34
          have F35 : ∀ k, 1076 ≤ k → ρ33 k = r0 k := fun k hk => (q34 k (by omega) (by omega))
          exact ret_i B hr hlk hP hS dX6_reserve_54 (⟨Or.inr ⟨fun z => z.elim c1 (fun z => q20 z.2.2), rfl⟩, F35⟩)
      · skip
        refine lv_if_eq (tgt := 41) hx hb dX6_reserve_24 (by decide) (fun _ => ?_) (fun c36 => absurd c36 (by decide))
        refine lv_iconst (v := 0) hx hb dX6_reserve_41 (by decide) ?_
        refine lv_istore (lv' := [(6, .int 0), (0, .ref (E.2.1 + 0)), (1, .int a1), (2, .int a2), (3, .int a3), (4, .int a4), (5, .int a5)]) hx hb dX6_reserve_42 hl (by decide) rfl (fun ls hl => ?_)
        refine lv_iload hx hb dX6_reserve_44 (lv_at hl 0 rfl) ?_
        refine lv_if_ne (tgt := 55) hx hb dX6_reserve_46 (by decide) (fun c37 => absurd c37 (by decide)) (fun _ => ?_)
        refine lv_aload_n hx hb dX6_reserve_49 rfl (lv_at hl 1 rfl) ?_
        refine lv_iconst (v := (-1)) hx hb dX6_reserve_50 (by decide) ?_
        refine call_i (cVt (k := 0) (av := [.int (-1)]) (rest := []) B hP hS (c_refuse l E r0 (-1)) lk_RX6_58 (hrecv (ci := 6) B hP (hk_lt (c := 6) (by decide +kernel) (by decide)) (hcc6 _ _ (by decide +kernel)) rfl) rfl rfl hl.1 (Nat.le_of_ble_eq_true rfl) ⟨Nat.le_of_ble_eq_true rfl, Nat.le_of_ble_eq_true rfl⟩ ⟨Nat.le_of_ble_eq_true rfl, Nat.le_of_ble_eq_true rfl⟩ dX6_reserve_51) hS (fun r38 ρ39 H locs q40 hP hS => ?_)
        obtain ⟨rfl, q40⟩ := q40
        have F41 : ∀ k, 1076 ≤ k → ρ39 k = r0 k := fun k hk => (q40 k (by omega) (by omega))
        exact ret_i B hr hlk hP hS dX6_reserve_54 (⟨Or.inr ⟨fun z => z.elim c1 (fun z => q16 z.2.1), rfl⟩, F41⟩)
    · skip
      refine lv_if_eq (tgt := 41) hx hb dX6_reserve_12 (by decide) (fun _ => ?_) (fun c42 => absurd c42 (by decide))
      refine lv_iconst (v := 0) hx hb dX6_reserve_41 (by decide) ?_
      refine lv_istore (lv' := [(6, .int 0), (0, .ref (E.2.1 + 0)), (1, .int a1), (2, .int a2), (3, .int a3), (4, .int a4), (5, .int a5)]) hx hb dX6_reserve_42 hl (by decide) rfl (fun ls hl => ?_)
      refine lv_iload hx hb dX6_reserve_44 (lv_at hl 0 rfl) ?_
      refine lv_if_ne (tgt := 55) hx hb dX6_reserve_46 (by decide) (fun c43 => absurd c43 (by decide)) (fun _ => ?_)
      refine lv_aload_n hx hb dX6_reserve_49 rfl (lv_at hl 1 rfl) ?_
      refine lv_iconst (v := (-1)) hx hb dX6_reserve_50 (by decide) ?_
      refine call_i (cVt (k := 0) (av := [.int (-1)]) (rest := []) B hP hS (c_refuse l E r0 (-1)) lk_RX6_58 (hrecv (ci := 6) B hP (hk_lt (c := 6) (by decide +kernel) (by decide)) (hcc6 _ _ (by decide +kernel)) rfl) rfl rfl hl.1 (Nat.le_of_ble_eq_true rfl) ⟨Nat.le_of_ble_eq_true rfl, Nat.le_of_ble_eq_true rfl⟩ ⟨Nat.le_of_ble_eq_true rfl, Nat.le_of_ble_eq_true rfl⟩ dX6_reserve_51) hS (fun r44 ρ45 H locs q46 hP hS => ?_)
      obtain ⟨rfl, q46⟩ := q46
      have F47 : ∀ k, 1076 ≤ k → ρ45 k = r0 k := fun k hk => (q46 k (by omega) (by omega))
      exact ret_i B hr hlk hP hS dX6_reserve_54 (⟨Or.inr ⟨fun z => z.elim c1 (fun z => q12 z.1), rfl⟩, F47⟩)

set_option maxHeartbeats 4000000 in
set_option maxRecDepth 100000 in
theorem c_sniff (l : Launch) (E : hE) (a1 a2 a3 a4 : Int32) : Met l yX6_sniff (.code yX6_sniff cX6_sniff 8 (some .int) :: gw_all) (rmk 4 160) (cPre E r0 [.ref (E.2.1 + 0), .int a1, .int a2, .int a3, .int a4]) (cI E (fun r ρ1 => (((a3 = 0 ∨ (iR a3 8 64 ∧ ev a3) ∧ iR a4 1 4) ∧ r = -2) ∨ (¬ (a3 = 0 ∨ (iR a3 8 64 ∧ ev a3) ∧ iR a4 1 4) ∧ r = -1)) ∧ ∀ k, 1076 ≤ k → ρ1 k = r0 k)) 0 0 (hA E) := by
  refine ent (own := RX6) (by decide) rfl (Nat.le_of_ble_eq_true rfl) ?_
  intro p e s m below meth c ls B hr hlk hl hP hS
  have hx := B.1.1
  have hb := B.1.2.1
  have hown := B.1.2.2.2.1
  have hts := B.1.2.2.2.2
  have hl : lv_has ls 8 [(0, .ref (E.2.1 + 0)), (1, .int a1), (2, .int a2), (3, .int a3), (4, .int a4)] := hl
  refine lv_iload_n hx hb dX6_sniff_0 rfl (lv_at hl 3 rfl) ?_
  refine lv_if_eq (tgt := 25) hx hb dX6_sniff_1 (by decide) (fun c1 => ?_) (fun c1 => ?_)
  · skip
    refine lv_iconst (v := 1) hx hb dX6_sniff_25 (by decide) ?_
    refine lv_goto (tgt := 30) hx hb dX6_sniff_26 (by decide) ?_
    refine lv_istore (lv' := [(5, .int 1), (0, .ref (E.2.1 + 0)), (1, .int a1), (2, .int a2), (3, .int a3), (4, .int a4)]) hx hb dX6_sniff_30 hl (by decide) rfl (fun ls hl => ?_)
    refine lv_iload hx hb dX6_sniff_32 (lv_at hl 0 rfl) ?_
    refine lv_if_ne (tgt := 43) hx hb dX6_sniff_34 (by decide) (fun _ => ?_) (fun c2 => absurd c2 (by decide))
    refine lv_aload_n hx hb dX6_sniff_43 rfl (lv_at hl 1 rfl) ?_
    refine get6 B hP (by decide +kernel) 0 (by decide) mw_412 rfl dX6_sniff_44 ?_
    refine lv_iload_n hx hb dX6_sniff_47 rfl (lv_at hl 2 rfl) ?_
    refine lv_iload_n hx hb dX6_sniff_48 rfl (lv_at hl 3 rfl) ?_
    refine call_q (cVt (k := 1) (av := [.int a1, .int a2]) (rest := []) B hP hS (c_linkAt l E r0 1 a1 a2 (by decide +kernel) (FrW_r0 (by decide +kernel))) lk_RX6_132 (hrecv (ci := 5) B hP (hk_lt (c := 5) (by decide +kernel) (by decide)) (hcc5 _ _ (by decide +kernel)) rfl) rfl rfl hl.1 (Nat.le_of_ble_eq_true rfl) ⟨Nat.le_of_ble_eq_true rfl, Nat.le_of_ble_eq_true rfl⟩ ⟨Nat.le_of_ble_eq_true rfl, Nat.le_of_ble_eq_true rfl⟩ dX6_sniff_49) hS (fun r3 ρ4 H locs q5 hP hS => ?_)
    obtain ⟨rfl, rfl⟩ := q5
    refine W.eq (g2 := F0 m 52 ls [.null]) rfl ?_
    refine lv_astoreN (lv' := [(6, .null), (5, .int 1), (0, .ref (E.2.1 + 0)), (1, .int a1), (2, .int a2), (3, .int a3), (4, .int a4)]) hx hb dX6_sniff_52 hl (by decide) rfl (fun ls hl => ?_)
    refine lv_aloadN hx hb dX6_sniff_54 (lv_at hl 0 rfl) ?_
    refine lv_ifnonnullN hx hb dX6_sniff_56 ?_
    refine lv_aload_n hx hb dX6_sniff_59 rfl (lv_at hl 2 rfl) ?_
    refine lv_bipush (v := (-2)) hx hb dX6_sniff_60 (by decide) ?_
    refine call_i (cVt (k := 0) (av := [.int (-2)]) (rest := []) B hP hS (c_refuse l E r0 (-2)) lk_RX6_58 (hrecv (ci := 6) B hP (hk_lt (c := 6) (by decide +kernel) (by decide)) (hcc6 _ _ (by decide +kernel)) rfl) rfl rfl hl.1 (Nat.le_of_ble_eq_true rfl) ⟨Nat.le_of_ble_eq_true rfl, Nat.le_of_ble_eq_true rfl⟩ ⟨Nat.le_of_ble_eq_true rfl, Nat.le_of_ble_eq_true rfl⟩ dX6_sniff_62) hS (fun r6 ρ7 H locs q8 hP hS => ?_)
    obtain ⟨rfl, q8⟩ := q8
    have F9 : ∀ k, 1076 ≤ k → ρ7 k = r0 k := fun k hk => (q8 k (by omega) (by omega))
    exact ret_i B hr hlk hP hS dX6_sniff_65 (⟨Or.inl ⟨Or.inl c1, rfl⟩, F9⟩)
  · skip
    refine lv_iload_n hx hb dX6_sniff_4 rfl (lv_at hl 3 rfl) ?_
    refine lv_bipush (v := 8) hx hb dX6_sniff_5 (by decide) ?_
    refine lv_bipush (v := 64) hx hb dX6_sniff_7 (by decide) ?_
    refine call_i (cS (av := [.int a3, .int 8, .int 64]) (rest := []) B hP hS (c_isEvenWithin l E r0 a3 8 64 8 64 (by decide) (by decide)) lk_RX6_156 rfl rfl hl.1 (Nat.le_of_ble_eq_true rfl) ⟨Nat.le_of_ble_eq_true rfl, Nat.le_of_ble_eq_true rfl⟩ ⟨Nat.le_of_ble_eq_true rfl, Nat.le_of_ble_eq_true rfl⟩ dX6_sniff_9) hS (fun r10 ρ11 H locs q12 hP hS => ?_)
    obtain ⟨rfl, q12⟩ := q12
    rcases q12 with ⟨rfl, q12⟩ | ⟨rfl, q12⟩
    · skip
      refine lv_if_eq (tgt := 29) hx hb dX6_sniff_12 (by decide) (fun c13 => absurd c13 (by decide)) (fun _ => ?_)
      refine lv_iload hx hb dX6_sniff_15 (lv_at hl 4 rfl) ?_
      refine lv_iconst (v := 1) hx hb dX6_sniff_17 (by decide) ?_
      refine lv_iconst (v := 4) hx hb dX6_sniff_18 (by decide) ?_
      refine call_i (cS (av := [.int a4, .int 1, .int 4]) (rest := []) B hP hS (c_isWithin l E r0 a4 1 4 1 4 (by decide) (by decide)) lk_RX6_54 rfl rfl hl.1 (Nat.le_of_ble_eq_true rfl) ⟨Nat.le_of_ble_eq_true rfl, Nat.le_of_ble_eq_true rfl⟩ ⟨Nat.le_of_ble_eq_true rfl, Nat.le_of_ble_eq_true rfl⟩ dX6_sniff_19) hS (fun r14 ρ15 H locs q16 hP hS => ?_)
      obtain ⟨rfl, q16⟩ := q16
      rcases q16 with ⟨rfl, q16⟩ | ⟨rfl, q16⟩
      · skip
        refine lv_if_eq (tgt := 29) hx hb dX6_sniff_22 (by decide) (fun c17 => absurd c17 (by decide)) (fun _ => ?_)
        refine lv_iconst (v := 1) hx hb dX6_sniff_25 (by decide) ?_
        refine lv_goto (tgt := 30) hx hb dX6_sniff_26 (by decide) ?_
        refine lv_istore (lv' := [(5, .int 1), (0, .ref (E.2.1 + 0)), (1, .int a1), (2, .int a2), (3, .int a3), (4, .int a4)]) hx hb dX6_sniff_30 hl (by decide) rfl (fun ls hl => ?_)
        refine lv_iload hx hb dX6_sniff_32 (lv_at hl 0 rfl) ?_
        refine lv_if_ne (tgt := 43) hx hb dX6_sniff_34 (by decide) (fun _ => ?_) (fun c18 => absurd c18 (by decide))
        refine lv_aload_n hx hb dX6_sniff_43 rfl (lv_at hl 1 rfl) ?_
        refine get6 B hP (by decide +kernel) 0 (by decide) mw_412 rfl dX6_sniff_44 ?_
        refine lv_iload_n hx hb dX6_sniff_47 rfl (lv_at hl 2 rfl) ?_
        refine lv_iload_n hx hb dX6_sniff_48 rfl (lv_at hl 3 rfl) ?_
        refine call_q (cVt (k := 1) (av := [.int a1, .int a2]) (rest := []) B hP hS (c_linkAt l E r0 1 a1 a2 (by decide +kernel) (FrW_r0 (by decide +kernel))) lk_RX6_132 (hrecv (ci := 5) B hP (hk_lt (c := 5) (by decide +kernel) (by decide)) (hcc5 _ _ (by decide +kernel)) rfl) rfl rfl hl.1 (Nat.le_of_ble_eq_true rfl) ⟨Nat.le_of_ble_eq_true rfl, Nat.le_of_ble_eq_true rfl⟩ ⟨Nat.le_of_ble_eq_true rfl, Nat.le_of_ble_eq_true rfl⟩ dX6_sniff_49) hS (fun r19 ρ20 H locs q21 hP hS => ?_)
        obtain ⟨rfl, rfl⟩ := q21
        refine W.eq (g2 := F0 m 52 ls [.null]) rfl ?_
        refine lv_astoreN (lv' := [(6, .null), (5, .int 1), (0, .ref (E.2.1 + 0)), (1, .int a1), (2, .int a2), (3, .int a3), (4, .int a4)]) hx hb dX6_sniff_52 hl (by decide) rfl (fun ls hl => ?_)
        refine lv_aloadN hx hb dX6_sniff_54 (lv_at hl 0 rfl) ?_
        refine lv_ifnonnullN hx hb dX6_sniff_56 ?_
        refine lv_aload_n hx hb dX6_sniff_59 rfl (lv_at hl 2 rfl) ?_
        refine lv_bipush (v := (-2)) hx hb dX6_sniff_60 (by decide) ?_
        refine call_i (cVt (k := 0) (av := [.int (-2)]) (rest := []) B hP hS (c_refuse l E r0 (-2)) lk_RX6_58 (hrecv (ci := 6) B hP (hk_lt (c := 6) (by decide +kernel) (by decide)) (hcc6 _ _ (by decide +kernel)) rfl) rfl rfl hl.1 (Nat.le_of_ble_eq_true rfl) ⟨Nat.le_of_ble_eq_true rfl, Nat.le_of_ble_eq_true rfl⟩ ⟨Nat.le_of_ble_eq_true rfl, Nat.le_of_ble_eq_true rfl⟩ dX6_sniff_62) hS (fun r22 ρ23 H locs q24 hP hS => ?_)
        obtain ⟨rfl, q24⟩ := q24
        have F25 : ∀ k, 1076 ≤ k → ρ23 k = r0 k := fun k hk => (q24 k (by omega) (by omega))
        exact ret_i B hr hlk hP hS dX6_sniff_65 (⟨Or.inl ⟨Or.inr ⟨q12, q16⟩, rfl⟩, F25⟩)
      · skip
        refine lv_if_eq (tgt := 29) hx hb dX6_sniff_22 (by decide) (fun _ => ?_) (fun c26 => absurd c26 (by decide))
        refine lv_iconst (v := 0) hx hb dX6_sniff_29 (by decide) ?_
        refine lv_istore (lv' := [(5, .int 0), (0, .ref (E.2.1 + 0)), (1, .int a1), (2, .int a2), (3, .int a3), (4, .int a4)]) hx hb dX6_sniff_30 hl (by decide) rfl (fun ls hl => ?_)
        refine lv_iload hx hb dX6_sniff_32 (lv_at hl 0 rfl) ?_
        refine lv_if_ne (tgt := 43) hx hb dX6_sniff_34 (by decide) (fun c27 => absurd c27 (by decide)) (fun _ => ?_)
        refine lv_aload_n hx hb dX6_sniff_37 rfl (lv_at hl 1 rfl) ?_
        refine lv_iconst (v := (-1)) hx hb dX6_sniff_38 (by decide) ?_
        refine call_i (cVt (k := 0) (av := [.int (-1)]) (rest := []) B hP hS (c_refuse l E r0 (-1)) lk_RX6_58 (hrecv (ci := 6) B hP (hk_lt (c := 6) (by decide +kernel) (by decide)) (hcc6 _ _ (by decide +kernel)) rfl) rfl rfl hl.1 (Nat.le_of_ble_eq_true rfl) ⟨Nat.le_of_ble_eq_true rfl, Nat.le_of_ble_eq_true rfl⟩ ⟨Nat.le_of_ble_eq_true rfl, Nat.le_of_ble_eq_true rfl⟩ dX6_sniff_39) hS (fun r28 ρ29 H locs q30 hP hS => ?_)
        obtain ⟨rfl, q30⟩ := q30
        have F31 : ∀ k, 1076 ≤ k → ρ29 k = r0 k := fun k hk => (q30 k (by omega) (by omega))
        exact ret_i B hr hlk hP hS dX6_sniff_42 (⟨Or.inr ⟨fun z => z.elim c1 (fun z => q16 z.2), rfl⟩, F31⟩)
    · skip
      refine lv_if_eq (tgt := 29) hx hb dX6_sniff_12 (by decide) (fun _ => ?_) (fun c32 => absurd c32 (by decide))
      refine lv_iconst (v := 0) hx hb dX6_sniff_29 (by decide) ?_
      refine lv_istore (lv' := [(5, .int 0), (0, .ref (E.2.1 + 0)), (1, .int a1), (2, .int a2), (3, .int a3), (4, .int a4)]) hx hb dX6_sniff_30 hl (by decide) rfl (fun ls hl => ?_)
      refine lv_iload hx hb dX6_sniff_32 (lv_at hl 0 rfl) ?_
      refine lv_if_ne (tgt := 43) hx hb dX6_sniff_34 (by decide) (fun c33 => absurd c33 (by decide)) (fun _ => ?_)
      refine lv_aload_n hx hb dX6_sniff_37 rfl (lv_at hl 1 rfl) ?_
      refine lv_iconst (v := (-1)) hx hb dX6_sniff_38 (by decide) ?_
      refine call_i (cVt (k := 0) (av := [.int (-1)]) (rest := []) B hP hS (c_refuse l E r0 (-1)) lk_RX6_58 (hrecv (ci := 6) B hP (hk_lt (c := 6) (by decide +kernel) (by decide)) (hcc6 _ _ (by decide +kernel)) rfl) rfl rfl hl.1 (Nat.le_of_ble_eq_true rfl) ⟨Nat.le_of_ble_eq_true rfl, Nat.le_of_ble_eq_true rfl⟩ ⟨Nat.le_of_ble_eq_true rfl, Nat.le_of_ble_eq_true rfl⟩ dX6_sniff_39) hS (fun r34 ρ35 H locs q36 hP hS => ?_)
      obtain ⟨rfl, q36⟩ := q36
      have F37 : ∀ k, 1076 ≤ k → ρ35 k = r0 k := fun k hk => (q36 k (by omega) (by omega))
      exact ret_i B hr hlk hP hS dX6_sniff_42 (⟨Or.inr ⟨fun z => z.elim c1 (fun z => q12 z.1), rfl⟩, F37⟩)

set_option maxHeartbeats 4000000 in
set_option maxRecDepth 100000 in
theorem c_weigh (l : Launch) (E : hE) (a1 a2 a3 : Int32) : Met l yX6_weigh (.code yX6_weigh cX6_weigh 6 (some .int) :: gw_all) (rmk 4 160) (cPre E r0 [.ref (E.2.1 + 0), .int a1, .int a2, .int a3]) (cI E (fun r ρ1 => (((iR a3 1 4) ∧ r = -2) ∨ (¬ (iR a3 1 4) ∧ r = -1)) ∧ ∀ k, 1076 ≤ k → ρ1 k = r0 k)) 0 0 (hA E) := by
  refine ent (own := RX6) (by decide) rfl (Nat.le_of_ble_eq_true rfl) ?_
  intro p e s m below meth c ls B hr hlk hl hP hS
  have hx := B.1.1
  have hb := B.1.2.1
  have hown := B.1.2.2.2.1
  have hts := B.1.2.2.2.2
  have hl : lv_has ls 6 [(0, .ref (E.2.1 + 0)), (1, .int a1), (2, .int a2), (3, .int a3)] := hl
  refine lv_iload_n hx hb dX6_weigh_0 rfl (lv_at hl 3 rfl) ?_
  refine lv_iconst (v := 1) hx hb dX6_weigh_1 (by decide) ?_
  refine lv_iconst (v := 4) hx hb dX6_weigh_2 (by decide) ?_
  refine call_i (cS (av := [.int a3, .int 1, .int 4]) (rest := []) B hP hS (c_isWithin l E r0 a3 1 4 1 4 (by decide) (by decide)) lk_RX6_54 rfl rfl hl.1 (Nat.le_of_ble_eq_true rfl) ⟨Nat.le_of_ble_eq_true rfl, Nat.le_of_ble_eq_true rfl⟩ ⟨Nat.le_of_ble_eq_true rfl, Nat.le_of_ble_eq_true rfl⟩ dX6_weigh_3) hS (fun r1 ρ2 H locs q3 hP hS => ?_)
  obtain ⟨rfl, q3⟩ := q3
  rcases q3 with ⟨rfl, q3⟩ | ⟨rfl, q3⟩
  · skip
    refine lv_if_ne (tgt := 15) hx hb dX6_weigh_6 (by decide) (fun _ => ?_) (fun c4 => absurd c4 (by decide))
    refine lv_aload_n hx hb dX6_weigh_15 rfl (lv_at hl 0 rfl) ?_
    refine get6 B hP (by decide +kernel) 0 (by decide) mw_412 rfl dX6_weigh_16 ?_
    refine lv_iload_n hx hb dX6_weigh_19 rfl (lv_at hl 1 rfl) ?_
    refine lv_iload_n hx hb dX6_weigh_20 rfl (lv_at hl 2 rfl) ?_
    refine call_q (cVt (k := 1) (av := [.int a1, .int a2]) (rest := []) B hP hS (c_linkAt l E r0 1 a1 a2 (by decide +kernel) (FrW_r0 (by decide +kernel))) lk_RX6_132 (hrecv (ci := 5) B hP (hk_lt (c := 5) (by decide +kernel) (by decide)) (hcc5 _ _ (by decide +kernel)) rfl) rfl rfl hl.1 (Nat.le_of_ble_eq_true rfl) ⟨Nat.le_of_ble_eq_true rfl, Nat.le_of_ble_eq_true rfl⟩ ⟨Nat.le_of_ble_eq_true rfl, Nat.le_of_ble_eq_true rfl⟩ dX6_weigh_21) hS (fun r5 ρ6 H locs q7 hP hS => ?_)
    obtain ⟨rfl, rfl⟩ := q7
    refine W.eq (g2 := F0 m 24 ls [.null]) rfl ?_
    refine lv_astoreN (lv' := [(4, .null), (0, .ref (E.2.1 + 0)), (1, .int a1), (2, .int a2), (3, .int a3)]) hx hb dX6_weigh_24 hl (by decide) rfl (fun ls hl => ?_)
    refine lv_aloadN hx hb dX6_weigh_26 (lv_at hl 0 rfl) ?_
    refine lv_ifnonnullN hx hb dX6_weigh_28 ?_
    refine lv_aload_n hx hb dX6_weigh_31 rfl (lv_at hl 1 rfl) ?_
    refine lv_bipush (v := (-2)) hx hb dX6_weigh_32 (by decide) ?_
    refine call_i (cVt (k := 0) (av := [.int (-2)]) (rest := []) B hP hS (c_refuse l E r0 (-2)) lk_RX6_58 (hrecv (ci := 6) B hP (hk_lt (c := 6) (by decide +kernel) (by decide)) (hcc6 _ _ (by decide +kernel)) rfl) rfl rfl hl.1 (Nat.le_of_ble_eq_true rfl) ⟨Nat.le_of_ble_eq_true rfl, Nat.le_of_ble_eq_true rfl⟩ ⟨Nat.le_of_ble_eq_true rfl, Nat.le_of_ble_eq_true rfl⟩ dX6_weigh_34) hS (fun r8 ρ9 H locs q10 hP hS => ?_)
    obtain ⟨rfl, q10⟩ := q10
    have F11 : ∀ k, 1076 ≤ k → ρ9 k = r0 k := fun k hk => (q10 k (by omega) (by omega))
    exact ret_i B hr hlk hP hS dX6_weigh_37 (⟨Or.inl ⟨q3, rfl⟩, F11⟩)
  · skip
    refine lv_if_ne (tgt := 15) hx hb dX6_weigh_6 (by decide) (fun c12 => absurd c12 (by decide)) (fun _ => ?_)
    refine lv_aload_n hx hb dX6_weigh_9 rfl (lv_at hl 0 rfl) ?_
    refine lv_iconst (v := (-1)) hx hb dX6_weigh_10 (by decide) ?_
    refine call_i (cVt (k := 0) (av := [.int (-1)]) (rest := []) B hP hS (c_refuse l E r0 (-1)) lk_RX6_58 (hrecv (ci := 6) B hP (hk_lt (c := 6) (by decide +kernel) (by decide)) (hcc6 _ _ (by decide +kernel)) rfl) rfl rfl hl.1 (Nat.le_of_ble_eq_true rfl) ⟨Nat.le_of_ble_eq_true rfl, Nat.le_of_ble_eq_true rfl⟩ ⟨Nat.le_of_ble_eq_true rfl, Nat.le_of_ble_eq_true rfl⟩ dX6_weigh_11) hS (fun r13 ρ14 H locs q15 hP hS => ?_)
    obtain ⟨rfl, q15⟩ := q15
    have F16 : ∀ k, 1076 ≤ k → ρ14 k = r0 k := fun k hk => (q15 k (by omega) (by omega))
    exact ret_i B hr hlk hP hS dX6_weigh_14 (⟨Or.inr ⟨fun z => q3 z, rfl⟩, F16⟩)

set_option maxHeartbeats 4000000 in
set_option maxRecDepth 100000 in
theorem c_cast (l : Launch) (E : hE) (a1 a2 : Int32) : Met l yX6_cast (.code yX6_cast cX6_cast 4 (some .int) :: gw_all) (rmk 4 160) (cPre E r0 [.ref (E.2.1 + 0), .int a1, .int a2]) (cI E (fun r ρ1 => (((iR a2 0 255) ∧ r = -2) ∨ (¬ (iR a2 0 255) ∧ r = -1)) ∧ ∀ k, 1076 ≤ k → ρ1 k = r0 k)) 0 0 (hA E) := by
  refine ent (own := RX6) (by decide) rfl (Nat.le_of_ble_eq_true rfl) ?_
  intro p e s m below meth c ls B hr hlk hl hP hS
  have hx := B.1.1
  have hb := B.1.2.1
  have hown := B.1.2.2.2.1
  have hts := B.1.2.2.2.2
  have hl : lv_has ls 4 [(0, .ref (E.2.1 + 0)), (1, .int a1), (2, .int a2)] := hl
  refine lv_iload_n hx hb dX6_cast_0 rfl (lv_at hl 2 rfl) ?_
  refine lv_iconst (v := 0) hx hb dX6_cast_1 (by decide) ?_
  refine lv_sipush (v := 255) hx hb dX6_cast_2 (by decide) ?_
  refine call_i (cS (av := [.int a2, .int 0, .int 255]) (rest := []) B hP hS (c_isWithin l E r0 a2 0 255 0 255 (by decide) (by decide)) lk_RX6_54 rfl rfl hl.1 (Nat.le_of_ble_eq_true rfl) ⟨Nat.le_of_ble_eq_true rfl, Nat.le_of_ble_eq_true rfl⟩ ⟨Nat.le_of_ble_eq_true rfl, Nat.le_of_ble_eq_true rfl⟩ dX6_cast_5) hS (fun r1 ρ2 H locs q3 hP hS => ?_)
  obtain ⟨rfl, q3⟩ := q3
  rcases q3 with ⟨rfl, q3⟩ | ⟨rfl, q3⟩
  · skip
    refine lv_if_ne (tgt := 17) hx hb dX6_cast_8 (by decide) (fun _ => ?_) (fun c4 => absurd c4 (by decide))
    refine lv_aload_n hx hb dX6_cast_17 rfl (lv_at hl 0 rfl) ?_
    refine get6 B hP (by decide +kernel) 0 (by decide) mw_412 rfl dX6_cast_18 ?_
    refine lv_iload_n hx hb dX6_cast_21 rfl (lv_at hl 1 rfl) ?_
    refine call_q (cVt (k := 1) (av := [.int a1]) (rest := []) B hP hS (c_netAt l E r0 1 a1 (by decide +kernel) (FrW_r0 (by decide +kernel))) lk_RX6_95 (hrecv (ci := 5) B hP (hk_lt (c := 5) (by decide +kernel) (by decide)) (hcc5 _ _ (by decide +kernel)) rfl) rfl rfl hl.1 (Nat.le_of_ble_eq_true rfl) ⟨Nat.le_of_ble_eq_true rfl, Nat.le_of_ble_eq_true rfl⟩ ⟨Nat.le_of_ble_eq_true rfl, Nat.le_of_ble_eq_true rfl⟩ dX6_cast_22) hS (fun r5 ρ6 H locs q7 hP hS => ?_)
    obtain ⟨rfl, rfl⟩ := q7
    refine W.eq (g2 := F0 m 25 ls [.null]) rfl ?_
    refine lv_astore_nN (lv' := [(3, .null), (0, .ref (E.2.1 + 0)), (1, .int a1), (2, .int a2)]) hx hb dX6_cast_25 rfl hl (by decide) rfl (fun ls hl => ?_)
    refine lv_aload_nN hx hb dX6_cast_26 rfl (lv_at hl 0 rfl) ?_
    refine lv_ifnonnullN hx hb dX6_cast_27 ?_
    refine lv_aload_n hx hb dX6_cast_30 rfl (lv_at hl 1 rfl) ?_
    refine lv_bipush (v := (-2)) hx hb dX6_cast_31 (by decide) ?_
    refine call_i (cVt (k := 0) (av := [.int (-2)]) (rest := []) B hP hS (c_refuse l E r0 (-2)) lk_RX6_58 (hrecv (ci := 6) B hP (hk_lt (c := 6) (by decide +kernel) (by decide)) (hcc6 _ _ (by decide +kernel)) rfl) rfl rfl hl.1 (Nat.le_of_ble_eq_true rfl) ⟨Nat.le_of_ble_eq_true rfl, Nat.le_of_ble_eq_true rfl⟩ ⟨Nat.le_of_ble_eq_true rfl, Nat.le_of_ble_eq_true rfl⟩ dX6_cast_33) hS (fun r8 ρ9 H locs q10 hP hS => ?_)
    obtain ⟨rfl, q10⟩ := q10
    have F11 : ∀ k, 1076 ≤ k → ρ9 k = r0 k := fun k hk => (q10 k (by omega) (by omega))
    exact ret_i B hr hlk hP hS dX6_cast_36 (⟨Or.inl ⟨q3, rfl⟩, F11⟩)
  · skip
    refine lv_if_ne (tgt := 17) hx hb dX6_cast_8 (by decide) (fun c12 => absurd c12 (by decide)) (fun _ => ?_)
    refine lv_aload_n hx hb dX6_cast_11 rfl (lv_at hl 0 rfl) ?_
    refine lv_iconst (v := (-1)) hx hb dX6_cast_12 (by decide) ?_
    refine call_i (cVt (k := 0) (av := [.int (-1)]) (rest := []) B hP hS (c_refuse l E r0 (-1)) lk_RX6_58 (hrecv (ci := 6) B hP (hk_lt (c := 6) (by decide +kernel) (by decide)) (hcc6 _ _ (by decide +kernel)) rfl) rfl rfl hl.1 (Nat.le_of_ble_eq_true rfl) ⟨Nat.le_of_ble_eq_true rfl, Nat.le_of_ble_eq_true rfl⟩ ⟨Nat.le_of_ble_eq_true rfl, Nat.le_of_ble_eq_true rfl⟩ dX6_cast_13) hS (fun r13 ρ14 H locs q15 hP hS => ?_)
    obtain ⟨rfl, q15⟩ := q15
    have F16 : ∀ k, 1076 ≤ k → ρ14 k = r0 k := fun k hk => (q15 k (by omega) (by omega))
    exact ret_i B hr hlk hP hS dX6_cast_16 (⟨Or.inr ⟨fun z => q3 z, rfl⟩, F16⟩)

set_option maxHeartbeats 4000000 in
set_option maxRecDepth 100000 in
theorem c_adapt (l : Launch) (E : hE) (a1 a2 a3 : Int32) : Met l yX6_adapt (.code yX6_adapt cX6_adapt 7 (some .int) :: gw_all) (rmk 4 160) (cPre E r0 [.ref (E.2.1 + 0), .int a1, .int a2, .int a3]) (cI E (fun r ρ1 => (((iR a2 1 99 ∧ iR a3 1 100) ∧ r = -2) ∨ (¬ (iR a2 1 99 ∧ iR a3 1 100) ∧ r = -1)) ∧ ∀ k, 1076 ≤ k → ρ1 k = r0 k)) 0 0 (hA E) := by
  refine ent (own := RX6) (by decide) rfl (Nat.le_of_ble_eq_true rfl) ?_
  intro p e s m below meth c ls B hr hlk hl hP hS
  have hx := B.1.1
  have hb := B.1.2.1
  have hown := B.1.2.2.2.1
  have hts := B.1.2.2.2.2
  have hl : lv_has ls 7 [(0, .ref (E.2.1 + 0)), (1, .int a1), (2, .int a2), (3, .int a3)] := hl
  refine lv_iload_n hx hb dX6_adapt_0 rfl (lv_at hl 2 rfl) ?_
  refine lv_iconst (v := 1) hx hb dX6_adapt_1 (by decide) ?_
  refine lv_bipush (v := 99) hx hb dX6_adapt_2 (by decide) ?_
  refine call_i (cS (av := [.int a2, .int 1, .int 99]) (rest := []) B hP hS (c_isWithin l E r0 a2 1 99 1 99 (by decide) (by decide)) lk_RX6_54 rfl rfl hl.1 (Nat.le_of_ble_eq_true rfl) ⟨Nat.le_of_ble_eq_true rfl, Nat.le_of_ble_eq_true rfl⟩ ⟨Nat.le_of_ble_eq_true rfl, Nat.le_of_ble_eq_true rfl⟩ dX6_adapt_4) hS (fun r1 ρ2 H locs q3 hP hS => ?_)
  obtain ⟨rfl, q3⟩ := q3
  rcases q3 with ⟨rfl, q3⟩ | ⟨rfl, q3⟩
  · skip
    refine lv_if_eq (tgt := 20) hx hb dX6_adapt_7 (by decide) (fun c4 => absurd c4 (by decide)) (fun _ => ?_)
    refine lv_iload_n hx hb dX6_adapt_10 rfl (lv_at hl 3 rfl) ?_
    refine lv_iconst (v := 1) hx hb dX6_adapt_11 (by decide) ?_
    refine lv_bipush (v := 100) hx hb dX6_adapt_12 (by decide) ?_
    refine call_i (cS (av := [.int a3, .int 1, .int 100]) (rest := []) B hP hS (c_isWithin l E r0 a3 1 100 1 100 (by decide) (by decide)) lk_RX6_54 rfl rfl hl.1 (Nat.le_of_ble_eq_true rfl) ⟨Nat.le_of_ble_eq_true rfl, Nat.le_of_ble_eq_true rfl⟩ ⟨Nat.le_of_ble_eq_true rfl, Nat.le_of_ble_eq_true rfl⟩ dX6_adapt_14) hS (fun r5 ρ6 H locs q7 hP hS => ?_)
    obtain ⟨rfl, q7⟩ := q7
    rcases q7 with ⟨rfl, q7⟩ | ⟨rfl, q7⟩
    · skip
      refine lv_if_ne (tgt := 26) hx hb dX6_adapt_17 (by decide) (fun _ => ?_) (fun c8 => absurd c8 (by decide))
      refine lv_aload_n hx hb dX6_adapt_26 rfl (lv_at hl 0 rfl) ?_
      refine get6 B hP (by decide +kernel) 0 (by decide) mw_412 rfl dX6_adapt_27 ?_
      refine lv_iload_n hx hb dX6_adapt_30 rfl (lv_at hl 1 rfl) ?_
      refine call_q (cVt (k := 1) (av := [.int a1]) (rest := []) B hP hS (c_netAt l E r0 1 a1 (by decide +kernel) (FrW_r0 (by decide +kernel))) lk_RX6_95 (hrecv (ci := 5) B hP (hk_lt (c := 5) (by decide +kernel) (by decide)) (hcc5 _ _ (by decide +kernel)) rfl) rfl rfl hl.1 (Nat.le_of_ble_eq_true rfl) ⟨Nat.le_of_ble_eq_true rfl, Nat.le_of_ble_eq_true rfl⟩ ⟨Nat.le_of_ble_eq_true rfl, Nat.le_of_ble_eq_true rfl⟩ dX6_adapt_31) hS (fun r9 ρ10 H locs q11 hP hS => ?_)
      obtain ⟨rfl, rfl⟩ := q11
      refine W.eq (g2 := F0 m 34 ls [.null]) rfl ?_
      refine lv_astoreN (lv' := [(4, .null), (0, .ref (E.2.1 + 0)), (1, .int a1), (2, .int a2), (3, .int a3)]) hx hb dX6_adapt_34 hl (by decide) rfl (fun ls hl => ?_)
      refine lv_aloadN hx hb dX6_adapt_36 (lv_at hl 0 rfl) ?_
      refine lv_ifnonnullN hx hb dX6_adapt_38 ?_
      refine lv_aload_n hx hb dX6_adapt_41 rfl (lv_at hl 1 rfl) ?_
      refine lv_bipush (v := (-2)) hx hb dX6_adapt_42 (by decide) ?_
      refine call_i (cVt (k := 0) (av := [.int (-2)]) (rest := []) B hP hS (c_refuse l E r0 (-2)) lk_RX6_58 (hrecv (ci := 6) B hP (hk_lt (c := 6) (by decide +kernel) (by decide)) (hcc6 _ _ (by decide +kernel)) rfl) rfl rfl hl.1 (Nat.le_of_ble_eq_true rfl) ⟨Nat.le_of_ble_eq_true rfl, Nat.le_of_ble_eq_true rfl⟩ ⟨Nat.le_of_ble_eq_true rfl, Nat.le_of_ble_eq_true rfl⟩ dX6_adapt_44) hS (fun r12 ρ13 H locs q14 hP hS => ?_)
      obtain ⟨rfl, q14⟩ := q14
      have F15 : ∀ k, 1076 ≤ k → ρ13 k = r0 k := fun k hk => (q14 k (by omega) (by omega))
      exact ret_i B hr hlk hP hS dX6_adapt_47 (⟨Or.inl ⟨⟨q3, q7⟩, rfl⟩, F15⟩)
    · skip
      refine lv_if_ne (tgt := 26) hx hb dX6_adapt_17 (by decide) (fun c16 => absurd c16 (by decide)) (fun _ => ?_)
      refine lv_aload_n hx hb dX6_adapt_20 rfl (lv_at hl 0 rfl) ?_
      refine lv_iconst (v := (-1)) hx hb dX6_adapt_21 (by decide) ?_
      refine call_i (cVt (k := 0) (av := [.int (-1)]) (rest := []) B hP hS (c_refuse l E r0 (-1)) lk_RX6_58 (hrecv (ci := 6) B hP (hk_lt (c := 6) (by decide +kernel) (by decide)) (hcc6 _ _ (by decide +kernel)) rfl) rfl rfl hl.1 (Nat.le_of_ble_eq_true rfl) ⟨Nat.le_of_ble_eq_true rfl, Nat.le_of_ble_eq_true rfl⟩ ⟨Nat.le_of_ble_eq_true rfl, Nat.le_of_ble_eq_true rfl⟩ dX6_adapt_22) hS (fun r17 ρ18 H locs q19 hP hS => ?_)
      obtain ⟨rfl, q19⟩ := q19
      have F20 : ∀ k, 1076 ≤ k → ρ18 k = r0 k := fun k hk => (q19 k (by omega) (by omega))
      exact ret_i B hr hlk hP hS dX6_adapt_25 (⟨Or.inr ⟨fun z => q7 z.2, rfl⟩, F20⟩)
  · skip
    refine lv_if_eq (tgt := 20) hx hb dX6_adapt_7 (by decide) (fun _ => ?_) (fun c21 => absurd c21 (by decide))
    refine lv_aload_n hx hb dX6_adapt_20 rfl (lv_at hl 0 rfl) ?_
    refine lv_iconst (v := (-1)) hx hb dX6_adapt_21 (by decide) ?_
    refine call_i (cVt (k := 0) (av := [.int (-1)]) (rest := []) B hP hS (c_refuse l E r0 (-1)) lk_RX6_58 (hrecv (ci := 6) B hP (hk_lt (c := 6) (by decide +kernel) (by decide)) (hcc6 _ _ (by decide +kernel)) rfl) rfl rfl hl.1 (Nat.le_of_ble_eq_true rfl) ⟨Nat.le_of_ble_eq_true rfl, Nat.le_of_ble_eq_true rfl⟩ ⟨Nat.le_of_ble_eq_true rfl, Nat.le_of_ble_eq_true rfl⟩ dX6_adapt_22) hS (fun r22 ρ23 H locs q24 hP hS => ?_)
    obtain ⟨rfl, q24⟩ := q24
    have F25 : ∀ k, 1076 ≤ k → ρ23 k = r0 k := fun k hk => (q24 k (by omega) (by omega))
    exact ret_i B hr hlk hP hS dX6_adapt_25 (⟨Or.inr ⟨fun z => q3 z.1, rfl⟩, F25⟩)

theorem lk_RX6_213 : LkV RX6 213 RX6 yX6_hasTimeFor cX6_hasTimeFor 2 (some .boolean) 1 := ⟨⟨mw_649, mw_651, mw_4, mw_52, mw_652⟩, by decide +kernel⟩
theorem lk_RX6_216 : LkV RX6 216 RX5 yX5_heardInTurns cX5_heardInTurns 3 (some .int) 1 := ⟨⟨mw_654, mw_655, mw_656, mw_53, mw_657⟩, by decide +kernel⟩
set_option maxHeartbeats 4000000 in
set_option maxRecDepth 100000 in
theorem c_run (l : Launch) (E : hE) (a1 : Int32) : Met l yX6_run (.code yX6_run cX6_run 2 (some .int) :: gw_all) (rmk 4 160) (cPre E r0 [.ref (E.2.1 + 0), .int a1]) (cI E (fun r ρ1 => (((iR a1 1 200) ∧ r = 0) ∨ (¬ (iR a1 1 200) ∧ r = -1)) ∧ ∀ k, 1076 ≤ k → ρ1 k = r0 k)) 0 0 (hA E) := by
  refine ent (own := RX6) (by decide) rfl (Nat.le_of_ble_eq_true rfl) ?_
  intro p e s m below meth c ls B hr hlk hl hP hS
  have hx := B.1.1
  have hb := B.1.2.1
  have hown := B.1.2.2.2.1
  have hts := B.1.2.2.2.2
  have hl : lv_has ls 2 [(0, .ref (E.2.1 + 0)), (1, .int a1)] := hl
  refine lv_iload_n hx hb dX6_run_0 rfl (lv_at hl 1 rfl) ?_
  refine lv_iconst (v := 1) hx hb dX6_run_1 (by decide) ?_
  refine lv_sipush (v := 200) hx hb dX6_run_2 (by decide) ?_
  refine call_i (cS (av := [.int a1, .int 1, .int 200]) (rest := []) B hP hS (c_isWithin l E r0 a1 1 200 1 200 (by decide) (by decide)) lk_RX6_54 rfl rfl hl.1 (Nat.le_of_ble_eq_true rfl) ⟨Nat.le_of_ble_eq_true rfl, Nat.le_of_ble_eq_true rfl⟩ ⟨Nat.le_of_ble_eq_true rfl, Nat.le_of_ble_eq_true rfl⟩ dX6_run_5) hS (fun r1 ρ2 H locs q3 hP hS => ?_)
  obtain ⟨rfl, q3⟩ := q3
  rcases q3 with ⟨rfl, q3⟩ | ⟨rfl, q3⟩
  · skip
    have hn := q3
    obtain ⟨N, hN, rfl⟩ := iR_nat hn (by decide) (by decide)
    refine lv_if_ne (tgt := 17) hx hb dX6_run_8 (by decide) (fun _ => ?_) (fun c4 => absurd c4 (by decide))
    refine lv_aload_n hx hb dX6_run_17 rfl (lv_at hl 0 rfl) ?_
    refine lv_iload_n hx hb dX6_run_18 rfl (lv_at hl 1 rfl) ?_
    refine call_i (cVt (k := 0) (av := [.int (nI N)]) (rest := []) B hP hS (c_hasTimeFor l E r0 (nI N) (show r0 1 5 = 0 by decide +kernel) hn) lk_RX6_213 (hrecv (ci := 6) B hP (hk_lt (c := 6) (by decide +kernel) (by decide)) (hcc6 _ _ (by decide +kernel)) rfl) rfl rfl hl.1 (Nat.le_of_ble_eq_true rfl) ⟨Nat.le_of_ble_eq_true rfl, Nat.le_of_ble_eq_true rfl⟩ ⟨Nat.le_of_ble_eq_true rfl, Nat.le_of_ble_eq_true rfl⟩ dX6_run_19) hS (fun r5 ρ6 H locs q7 hP hS => ?_)
    obtain ⟨rfl, rfl⟩ := q7
    refine lv_if_ne (tgt := 32) hx hb dX6_run_22 (by decide) (fun _ => ?_) (fun c8 => absurd c8 (by decide))
    refine lv_aload_n hx hb dX6_run_32 rfl (lv_at hl 0 rfl) ?_
    refine lv_bipush (v := 9) hx hb dX6_run_33 (by decide) ?_
    refine call_v (cVt (k := 0) (av := [.int 9]) (rest := []) B hP hS (c_keepForUndo l E 9) lk_RX6_65 (hrecv (ci := 6) B hP (hk_lt (c := 6) (by decide +kernel) (by decide)) (hcc6 _ _ (by decide +kernel)) rfl) rfl rfl hl.1 (Nat.le_of_ble_eq_true rfl) ⟨Nat.le_of_ble_eq_true rfl, Nat.le_of_ble_eq_true rfl⟩ ⟨Nat.le_of_ble_eq_true rfl, Nat.le_of_ble_eq_true rfl⟩ dX6_run_35) hS (fun ρ10 H locs q11 hP hS => ?_)
    have F12 : ∀ k, 1076 ≤ k → ρ10 k = r0 k := fun k hk => (q11 k (by omega) (by omega))
    refine lv_aload_n hx hb dX6_run_38 rfl (lv_at hl 0 rfl) ?_
    refine lv_aload_n hx hb dX6_run_39 rfl (lv_at hl 0 rfl) ?_
    refine get6 B hP (by decide +kernel) 0 (by decide) mw_412 rfl dX6_run_40 ?_
    refine lv_iload_n hx hb dX6_run_43 rfl (lv_at hl 1 rfl) ?_
    refine call_i (cVt (k := 1) (av := [.int (nI N)]) (rest := [.ref (E.2.1 + 0)]) B hP hS (c_heardInTurns l E ρ10 1 N (by decide +kernel) ((FrW_r0 (k := 1) (by decide +kernel)).keep4 (q11 _ (by decide) (by decide)) (q11 _ (by decide) (by decide)) (q11 _ (by decide) (by decide)) (q11 _ (by decide) (by decide))) (by omega)) lk_RX6_216 (hrecv (ci := 5) B hP (hk_lt (c := 5) (by decide +kernel) (by decide)) (hcc5 _ _ (by decide +kernel)) rfl) rfl rfl hl.1 (Nat.le_of_ble_eq_true rfl) ⟨Nat.le_of_ble_eq_true rfl, Nat.le_of_ble_eq_true rfl⟩ ⟨Nat.le_of_ble_eq_true rfl, Nat.le_of_ble_eq_true rfl⟩ dX6_run_44) hS (fun r13 ρ14 H locs q15 hP hS => ?_)
    obtain ⟨rfl, q15⟩ := q15
    have F16 : ∀ k, 1076 ≤ k → ρ14 k = r0 k := fun k hk => (q15 k (by omega)).trans (F12 k hk)
    refine call_i (cVt (k := 0) (av := [.int 0]) (rest := []) B hP hS (c_accept l E ρ14 0) lk_RX6_72 (hrecv (ci := 6) B hP (hk_lt (c := 6) (by decide +kernel) (by decide)) (hcc6 _ _ (by decide +kernel)) rfl) rfl rfl hl.1 (Nat.le_of_ble_eq_true rfl) ⟨Nat.le_of_ble_eq_true rfl, Nat.le_of_ble_eq_true rfl⟩ ⟨Nat.le_of_ble_eq_true rfl, Nat.le_of_ble_eq_true rfl⟩ dX6_run_47) hS (fun r17 ρ18 H locs q19 hP hS => ?_)
    obtain ⟨rfl, q19⟩ := q19
    have F20 : ∀ k, 1076 ≤ k → ρ18 k = r0 k := fun k hk => (q19 k (by omega) (by omega)).trans (F16 k hk)
    exact ret_i B hr hlk hP hS dX6_run_50 (⟨Or.inl ⟨hn, rfl⟩, F20⟩)
  · skip
    refine lv_if_ne (tgt := 17) hx hb dX6_run_8 (by decide) (fun c21 => absurd c21 (by decide)) (fun _ => ?_)
    refine lv_aload_n hx hb dX6_run_11 rfl (lv_at hl 0 rfl) ?_
    refine lv_iconst (v := (-1)) hx hb dX6_run_12 (by decide) ?_
    refine call_i (cVt (k := 0) (av := [.int (-1)]) (rest := []) B hP hS (c_refuse l E r0 (-1)) lk_RX6_58 (hrecv (ci := 6) B hP (hk_lt (c := 6) (by decide +kernel) (by decide)) (hcc6 _ _ (by decide +kernel)) rfl) rfl rfl hl.1 (Nat.le_of_ble_eq_true rfl) ⟨Nat.le_of_ble_eq_true rfl, Nat.le_of_ble_eq_true rfl⟩ ⟨Nat.le_of_ble_eq_true rfl, Nat.le_of_ble_eq_true rfl⟩ dX6_run_13) hS (fun r22 ρ23 H locs q24 hP hS => ?_)
    obtain ⟨rfl, q24⟩ := q24
    have F25 : ∀ k, 1076 ≤ k → ρ23 k = r0 k := fun k hk => (q24 k (by omega) (by omega))
    exact ret_i B hr hlk hP hS dX6_run_16 (⟨Or.inr ⟨fun z => q3 z, rfl⟩, F25⟩)

set_option maxHeartbeats 4000000 in
set_option maxRecDepth 100000 in
theorem c_undo (l : Launch) (E : hE)  : Met l yX6_undo (.code yX6_undo cX6_undo 1 (some .int) :: gw_all) (rmk 4 160) (cPre E r0 [.ref (E.2.1 + 0)]) (cI E (fun r ρ1 => (r = (-4)) ∧ ∀ k, 1076 ≤ k → ρ1 k = r0 k)) 0 0 (hA E) := by
  refine ent (own := RX6) (by decide) rfl (Nat.le_of_ble_eq_true rfl) ?_
  intro p e s m below meth c ls B hr hlk hl hP hS
  have hx := B.1.1
  have hb := B.1.2.1
  have hown := B.1.2.2.2.1
  have hts := B.1.2.2.2.2
  have hl : lv_has ls 1 [(0, .ref (E.2.1 + 0))] := hl
  refine lv_aload_n hx hb dX6_undo_0 rfl (lv_at hl 0 rfl) ?_
  refine get6 B hP (by decide +kernel) 7 (by decide) mw_419 (v := .int 0) (show some (Value.int (r0 0 7)) = some (Value.int 0) from congrArg (fun z => some (Value.int z)) (show r0 0 7 = 0 by decide +kernel)) dX6_undo_1 ?_
  refine lv_if_ne (tgt := 14) hx hb dX6_undo_4 (by decide) (fun c1 => absurd c1 (by decide)) (fun _ => ?_)
  refine lv_aload_n hx hb dX6_undo_7 rfl (lv_at hl 0 rfl) ?_
  refine lv_bipush (v := (-4)) hx hb dX6_undo_8 (by decide) ?_
  refine call_i (cVt (k := 0) (av := [.int (-4)]) (rest := []) B hP hS (c_refuse l E r0 (-4)) lk_RX6_58 (hrecv (ci := 6) B hP (hk_lt (c := 6) (by decide +kernel) (by decide)) (hcc6 _ _ (by decide +kernel)) rfl) rfl rfl hl.1 (Nat.le_of_ble_eq_true rfl) ⟨Nat.le_of_ble_eq_true rfl, Nat.le_of_ble_eq_true rfl⟩ ⟨Nat.le_of_ble_eq_true rfl, Nat.le_of_ble_eq_true rfl⟩ dX6_undo_10) hS (fun r2 ρ3 H locs q4 hP hS => ?_)
  obtain ⟨rfl, q4⟩ := q4
  have F5 : ∀ k, 1076 ≤ k → ρ3 k = r0 k := fun k hk => (q4 k (by omega) (by omega))
  exact ret_i B hr hlk hP hS dX6_undo_13 (⟨rfl, F5⟩)

set_option maxHeartbeats 4000000 in
set_option maxRecDepth 100000 in
theorem c_image (l : Launch) (E : hE) (a1 : Int32) : Met l yX6_image (.code yX6_image cX6_image 2 (some .int) :: gw_all) (rmk 4 160) (cPre E r0 [.ref (E.2.1 + 0), .int a1]) (cI E (fun r ρ1 => (((iR a1 0 1) ∧ r = 0) ∨ (¬ (iR a1 0 1) ∧ r = -1)) ∧ ∀ k, 1076 ≤ k → ρ1 k = r0 k)) 0 0 (hA E) := by
  refine ent (own := RX6) (by decide) rfl (Nat.le_of_ble_eq_true rfl) ?_
  intro p e s m below meth c ls B hr hlk hl hP hS
  have hx := B.1.1
  have hb := B.1.2.1
  have hown := B.1.2.2.2.1
  have hts := B.1.2.2.2.2
  have hl : lv_has ls 2 [(0, .ref (E.2.1 + 0)), (1, .int a1)] := hl
  refine lv_iload_n hx hb dX6_image_0 rfl (lv_at hl 1 rfl) ?_
  refine lv_iconst (v := 0) hx hb dX6_image_1 (by decide) ?_
  refine lv_iconst (v := 1) hx hb dX6_image_2 (by decide) ?_
  refine call_i (cS (av := [.int a1, .int 0, .int 1]) (rest := []) B hP hS (c_isWithin l E r0 a1 0 1 0 1 (by decide) (by decide)) lk_RX6_54 rfl rfl hl.1 (Nat.le_of_ble_eq_true rfl) ⟨Nat.le_of_ble_eq_true rfl, Nat.le_of_ble_eq_true rfl⟩ ⟨Nat.le_of_ble_eq_true rfl, Nat.le_of_ble_eq_true rfl⟩ dX6_image_3) hS (fun r1 ρ2 H locs q3 hP hS => ?_)
  obtain ⟨rfl, q3⟩ := q3
  rcases q3 with ⟨rfl, q3⟩ | ⟨rfl, q3⟩
  · skip
    have hn := q3
    obtain ⟨j, hj, rfl⟩ := iR_ix (n := 2) hn (by decide) (by decide)
    rcases (show j = 0 ∨ j = 1 by omega) with rfl | rfl
    · skip
      refine lv_if_ne (tgt := 15) hx hb dX6_image_6 (by decide) (fun _ => ?_) (fun c4 => absurd c4 (by decide))
      refine lv_aload_n hx hb dX6_image_15 rfl (lv_at hl 0 rfl) ?_
      refine get6 B hP (by decide +kernel) 2 (by decide) mw_414 rfl dX6_image_16 ?_
      refine lv_iload_n hx hb dX6_image_19 rfl (lv_at hl 1 rfl) ?_
      refine aldWn (n := 2) B hP (by decide +kernel) (by decide +kernel) rfl (by decide) (by decide) dX6_image_20 ?_
      refine lv_aload_n hx hb dX6_image_21 rfl (lv_at hl 0 rfl) ?_
      refine get6 B hP (by decide +kernel) 0 (by decide) mw_412 rfl dX6_image_22 ?_
      refine call_v (cVt (k := 186) (av := [.ref (E.2.1 + 1)]) (rest := []) B hP hS (c_World_copyFrom l E r0 186 1 (by decide +kernel) (by decide +kernel) (by decide) (fun r _ h52 h10 j => congrFun (r0_ag (by decide +kernel) (by decide +kernel) h52 h10) j) ⟨by decide +kernel, by decide +kernel⟩) lk_RX6_219 (hrecv (ci := 5) B hP (hk_lt (c := 5) (by decide +kernel) (by decide)) (hcc5 _ _ (by decide +kernel)) rfl) rfl rfl hl.1 (Nat.le_of_ble_eq_true rfl) ⟨Nat.le_of_ble_eq_true rfl, Nat.le_of_ble_eq_true rfl⟩ ⟨Nat.le_of_ble_eq_true rfl, Nat.le_of_ble_eq_true rfl⟩ dX6_image_25) hS (fun ρ6 H locs q7 hP hS => ?_)
      rw [cpw_self (fun j => congrFun (r0_ag (k1 := 186) (k2 := 1) (r := 0) (by decide +kernel) (by decide +kernel) (by decide) (by decide)) j)] at q7
      subst q7
      refine lv_aload_n hx hb dX6_image_28 rfl (lv_at hl 0 rfl) ?_
      refine get6 B hP (by decide +kernel) 3 (by decide) mw_415 rfl dX6_image_29 ?_
      refine lv_iload_n hx hb dX6_image_32 rfl (lv_at hl 1 rfl) ?_
      refine lv_iconst (v := 1) hx hb dX6_image_33 (by decide) ?_
      refine zstn (n := 2) (j := 0) B hP hS (by decide +kernel) (by decide +kernel) rfl (by decide) (by decide) rfl dX6_image_34 (fun H locs hP hS => ?_)
      obtain ⟨ρ8, e9⟩ : ∃ z, z = up r0 180 0 1 := ⟨_, rfl⟩
      rw [← e9] at hP
      have F10 : ∀ k, 1076 ≤ k → ρ8 k = r0 k := fun k t0 => by rw [e9, up_ne _ _ _ (by omega)]
      refine lv_aload_n hx hb dX6_image_35 rfl (lv_at hl 0 rfl) ?_
      refine lv_aload_n hx hb dX6_image_36 rfl (lv_at hl 0 rfl) ?_
      refine get6 B hP (by decide +kernel) 0 (by decide) mw_412 rfl dX6_image_37 ?_
      refine get5 B hP (by decide +kernel) 5 (by decide) mw_382 (v := .int 0) (show some (Value.int (ρ8 1 5)) = some (Value.int 0) from congrArg (fun z => some (Value.int z)) (by rw [e9]; exact up_get_ne (Or.inl (by decide)) (show r0 1 5 = 0 by decide +kernel))) dX6_image_40 ?_
      refine call_i (cVt (k := 0) (av := [.int 0]) (rest := []) B hP hS (c_accept l E ρ8 0) lk_RX6_72 (hrecv (ci := 6) B hP (hk_lt (c := 6) (by decide +kernel) (by decide)) (hcc6 _ _ (by decide +kernel)) rfl) rfl rfl hl.1 (Nat.le_of_ble_eq_true rfl) ⟨Nat.le_of_ble_eq_true rfl, Nat.le_of_ble_eq_true rfl⟩ ⟨Nat.le_of_ble_eq_true rfl, Nat.le_of_ble_eq_true rfl⟩ dX6_image_43) hS (fun r11 ρ12 H locs q13 hP hS => ?_)
      obtain ⟨rfl, q13⟩ := q13
      have F14 : ∀ k, 1076 ≤ k → ρ12 k = r0 k := fun k hk => (q13 k (by omega) (by omega)).trans (F10 k hk)
      exact ret_i B hr hlk hP hS dX6_image_46 (⟨Or.inl ⟨hn, rfl⟩, F14⟩)
    · skip
      refine lv_if_ne (tgt := 15) hx hb dX6_image_6 (by decide) (fun _ => ?_) (fun c15 => absurd c15 (by decide))
      refine lv_aload_n hx hb dX6_image_15 rfl (lv_at hl 0 rfl) ?_
      refine get6 B hP (by decide +kernel) 2 (by decide) mw_414 rfl dX6_image_16 ?_
      refine lv_iload_n hx hb dX6_image_19 rfl (lv_at hl 1 rfl) ?_
      refine aldWn (n := 2) B hP (by decide +kernel) (by decide +kernel) rfl (by decide) (by decide) dX6_image_20 ?_
      refine lv_aload_n hx hb dX6_image_21 rfl (lv_at hl 0 rfl) ?_
      refine get6 B hP (by decide +kernel) 0 (by decide) mw_412 rfl dX6_image_22 ?_
      refine call_v (cVt (k := 275) (av := [.ref (E.2.1 + 1)]) (rest := []) B hP hS (c_World_copyFrom l E r0 275 1 (by decide +kernel) (by decide +kernel) (by decide) (fun r _ h52 h10 j => congrFun (r0_ag (by decide +kernel) (by decide +kernel) h52 h10) j) ⟨by decide +kernel, by decide +kernel⟩) lk_RX6_219 (hrecv (ci := 5) B hP (hk_lt (c := 5) (by decide +kernel) (by decide)) (hcc5 _ _ (by decide +kernel)) rfl) rfl rfl hl.1 (Nat.le_of_ble_eq_true rfl) ⟨Nat.le_of_ble_eq_true rfl, Nat.le_of_ble_eq_true rfl⟩ ⟨Nat.le_of_ble_eq_true rfl, Nat.le_of_ble_eq_true rfl⟩ dX6_image_25) hS (fun ρ17 H locs q18 hP hS => ?_)
      rw [cpw_self (fun j => congrFun (r0_ag (k1 := 275) (k2 := 1) (r := 0) (by decide +kernel) (by decide +kernel) (by decide) (by decide)) j)] at q18
      subst q18
      refine lv_aload_n hx hb dX6_image_28 rfl (lv_at hl 0 rfl) ?_
      refine get6 B hP (by decide +kernel) 3 (by decide) mw_415 rfl dX6_image_29 ?_
      refine lv_iload_n hx hb dX6_image_32 rfl (lv_at hl 1 rfl) ?_
      refine lv_iconst (v := 1) hx hb dX6_image_33 (by decide) ?_
      refine zstn (n := 2) (j := 1) B hP hS (by decide +kernel) (by decide +kernel) rfl (by decide) (by decide) rfl dX6_image_34 (fun H locs hP hS => ?_)
      obtain ⟨ρ19, e20⟩ : ∃ z, z = up r0 180 1 1 := ⟨_, rfl⟩
      rw [← e20] at hP
      have F21 : ∀ k, 1076 ≤ k → ρ19 k = r0 k := fun k t0 => by rw [e20, up_ne _ _ _ (by omega)]
      refine lv_aload_n hx hb dX6_image_35 rfl (lv_at hl 0 rfl) ?_
      refine lv_aload_n hx hb dX6_image_36 rfl (lv_at hl 0 rfl) ?_
      refine get6 B hP (by decide +kernel) 0 (by decide) mw_412 rfl dX6_image_37 ?_
      refine get5 B hP (by decide +kernel) 5 (by decide) mw_382 (v := .int 0) (show some (Value.int (ρ19 1 5)) = some (Value.int 0) from congrArg (fun z => some (Value.int z)) (by rw [e20]; exact up_get_ne (Or.inl (by decide)) (show r0 1 5 = 0 by decide +kernel))) dX6_image_40 ?_
      refine call_i (cVt (k := 0) (av := [.int 0]) (rest := []) B hP hS (c_accept l E ρ19 0) lk_RX6_72 (hrecv (ci := 6) B hP (hk_lt (c := 6) (by decide +kernel) (by decide)) (hcc6 _ _ (by decide +kernel)) rfl) rfl rfl hl.1 (Nat.le_of_ble_eq_true rfl) ⟨Nat.le_of_ble_eq_true rfl, Nat.le_of_ble_eq_true rfl⟩ ⟨Nat.le_of_ble_eq_true rfl, Nat.le_of_ble_eq_true rfl⟩ dX6_image_43) hS (fun r22 ρ23 H locs q24 hP hS => ?_)
      obtain ⟨rfl, q24⟩ := q24
      have F25 : ∀ k, 1076 ≤ k → ρ23 k = r0 k := fun k hk => (q24 k (by omega) (by omega)).trans (F21 k hk)
      exact ret_i B hr hlk hP hS dX6_image_46 (⟨Or.inl ⟨hn, rfl⟩, F25⟩)
  · skip
    refine lv_if_ne (tgt := 15) hx hb dX6_image_6 (by decide) (fun c26 => absurd c26 (by decide)) (fun _ => ?_)
    refine lv_aload_n hx hb dX6_image_9 rfl (lv_at hl 0 rfl) ?_
    refine lv_iconst (v := (-1)) hx hb dX6_image_10 (by decide) ?_
    refine call_i (cVt (k := 0) (av := [.int (-1)]) (rest := []) B hP hS (c_refuse l E r0 (-1)) lk_RX6_58 (hrecv (ci := 6) B hP (hk_lt (c := 6) (by decide +kernel) (by decide)) (hcc6 _ _ (by decide +kernel)) rfl) rfl rfl hl.1 (Nat.le_of_ble_eq_true rfl) ⟨Nat.le_of_ble_eq_true rfl, Nat.le_of_ble_eq_true rfl⟩ ⟨Nat.le_of_ble_eq_true rfl, Nat.le_of_ble_eq_true rfl⟩ dX6_image_11) hS (fun r27 ρ28 H locs q29 hP hS => ?_)
    obtain ⟨rfl, q29⟩ := q29
    have F30 : ∀ k, 1076 ≤ k → ρ28 k = r0 k := fun k hk => (q29 k (by omega) (by omega))
    exact ret_i B hr hlk hP hS dX6_image_14 (⟨Or.inr ⟨fun z => q3 z, rfl⟩, F30⟩)

set_option maxHeartbeats 4000000 in
set_option maxRecDepth 100000 in
theorem c_back (l : Launch) (E : hE) (a1 : Int32) : Met l yX6_back (.code yX6_back cX6_back 2 (some .int) :: gw_all) (rmk 4 160) (cPre E r0 [.ref (E.2.1 + 0), .int a1]) (cI E (fun r ρ1 => (((iR a1 0 1) ∧ r = -4) ∨ (¬ (iR a1 0 1) ∧ r = -1)) ∧ ∀ k, 1076 ≤ k → ρ1 k = r0 k)) 0 0 (hA E) := by
  refine ent (own := RX6) (by decide) rfl (Nat.le_of_ble_eq_true rfl) ?_
  intro p e s m below meth c ls B hr hlk hl hP hS
  have hx := B.1.1
  have hb := B.1.2.1
  have hown := B.1.2.2.2.1
  have hts := B.1.2.2.2.2
  have hl : lv_has ls 2 [(0, .ref (E.2.1 + 0)), (1, .int a1)] := hl
  refine lv_iload_n hx hb dX6_back_0 rfl (lv_at hl 1 rfl) ?_
  refine lv_iconst (v := 0) hx hb dX6_back_1 (by decide) ?_
  refine lv_iconst (v := 1) hx hb dX6_back_2 (by decide) ?_
  refine call_i (cS (av := [.int a1, .int 0, .int 1]) (rest := []) B hP hS (c_isWithin l E r0 a1 0 1 0 1 (by decide) (by decide)) lk_RX6_54 rfl rfl hl.1 (Nat.le_of_ble_eq_true rfl) ⟨Nat.le_of_ble_eq_true rfl, Nat.le_of_ble_eq_true rfl⟩ ⟨Nat.le_of_ble_eq_true rfl, Nat.le_of_ble_eq_true rfl⟩ dX6_back_3) hS (fun r1 ρ2 H locs q3 hP hS => ?_)
  obtain ⟨rfl, q3⟩ := q3
  rcases q3 with ⟨rfl, q3⟩ | ⟨rfl, q3⟩
  · skip
    have hn := q3
    obtain ⟨j, hj, rfl⟩ := iR_ix (n := 2) hn (by decide) (by decide)
    rcases (show j = 0 ∨ j = 1 by omega) with rfl | rfl
    · skip
      refine lv_if_ne (tgt := 15) hx hb dX6_back_6 (by decide) (fun _ => ?_) (fun c4 => absurd c4 (by decide))
      refine lv_aload_n hx hb dX6_back_15 rfl (lv_at hl 0 rfl) ?_
      refine get6 B hP (by decide +kernel) 3 (by decide) mw_415 rfl dX6_back_16 ?_
      refine lv_iload_n hx hb dX6_back_19 rfl (lv_at hl 1 rfl) ?_
      refine zldf (n := 2) (j := 0) (v := 0) B hP (by decide +kernel) (by decide +kernel) rfl (by decide) (by decide) (show r0 180 0 = 0 by decide +kernel) dX6_back_20 ?_
      refine lv_if_ne (tgt := 31) hx hb dX6_back_21 (by decide) (fun c5 => absurd c5 (by decide)) (fun _ => ?_)
      refine lv_aload_n hx hb dX6_back_24 rfl (lv_at hl 0 rfl) ?_
      refine lv_bipush (v := (-4)) hx hb dX6_back_25 (by decide) ?_
      refine call_i (cVt (k := 0) (av := [.int (-4)]) (rest := []) B hP hS (c_refuse l E r0 (-4)) lk_RX6_58 (hrecv (ci := 6) B hP (hk_lt (c := 6) (by decide +kernel) (by decide)) (hcc6 _ _ (by decide +kernel)) rfl) rfl rfl hl.1 (Nat.le_of_ble_eq_true rfl) ⟨Nat.le_of_ble_eq_true rfl, Nat.le_of_ble_eq_true rfl⟩ ⟨Nat.le_of_ble_eq_true rfl, Nat.le_of_ble_eq_true rfl⟩ dX6_back_27) hS (fun r6 ρ7 H locs q8 hP hS => ?_)
      obtain ⟨rfl, q8⟩ := q8
      have F9 : ∀ k, 1076 ≤ k → ρ7 k = r0 k := fun k hk => (q8 k (by omega) (by omega))
      exact ret_i B hr hlk hP hS dX6_back_30 (⟨Or.inl ⟨hn, rfl⟩, F9⟩)
    · skip
      refine lv_if_ne (tgt := 15) hx hb dX6_back_6 (by decide) (fun _ => ?_) (fun c10 => absurd c10 (by decide))
      refine lv_aload_n hx hb dX6_back_15 rfl (lv_at hl 0 rfl) ?_
      refine get6 B hP (by decide +kernel) 3 (by decide) mw_415 rfl dX6_back_16 ?_
      refine lv_iload_n hx hb dX6_back_19 rfl (lv_at hl 1 rfl) ?_
      refine zldf (n := 2) (j := 1) (v := 0) B hP (by decide +kernel) (by decide +kernel) rfl (by decide) (by decide) (show r0 180 1 = 0 by decide +kernel) dX6_back_20 ?_
      refine lv_if_ne (tgt := 31) hx hb dX6_back_21 (by decide) (fun c11 => absurd c11 (by decide)) (fun _ => ?_)
      refine lv_aload_n hx hb dX6_back_24 rfl (lv_at hl 0 rfl) ?_
      refine lv_bipush (v := (-4)) hx hb dX6_back_25 (by decide) ?_
      refine call_i (cVt (k := 0) (av := [.int (-4)]) (rest := []) B hP hS (c_refuse l E r0 (-4)) lk_RX6_58 (hrecv (ci := 6) B hP (hk_lt (c := 6) (by decide +kernel) (by decide)) (hcc6 _ _ (by decide +kernel)) rfl) rfl rfl hl.1 (Nat.le_of_ble_eq_true rfl) ⟨Nat.le_of_ble_eq_true rfl, Nat.le_of_ble_eq_true rfl⟩ ⟨Nat.le_of_ble_eq_true rfl, Nat.le_of_ble_eq_true rfl⟩ dX6_back_27) hS (fun r12 ρ13 H locs q14 hP hS => ?_)
      obtain ⟨rfl, q14⟩ := q14
      have F15 : ∀ k, 1076 ≤ k → ρ13 k = r0 k := fun k hk => (q14 k (by omega) (by omega))
      exact ret_i B hr hlk hP hS dX6_back_30 (⟨Or.inl ⟨hn, rfl⟩, F15⟩)
  · skip
    refine lv_if_ne (tgt := 15) hx hb dX6_back_6 (by decide) (fun c16 => absurd c16 (by decide)) (fun _ => ?_)
    refine lv_aload_n hx hb dX6_back_9 rfl (lv_at hl 0 rfl) ?_
    refine lv_iconst (v := (-1)) hx hb dX6_back_10 (by decide) ?_
    refine call_i (cVt (k := 0) (av := [.int (-1)]) (rest := []) B hP hS (c_refuse l E r0 (-1)) lk_RX6_58 (hrecv (ci := 6) B hP (hk_lt (c := 6) (by decide +kernel) (by decide)) (hcc6 _ _ (by decide +kernel)) rfl) rfl rfl hl.1 (Nat.le_of_ble_eq_true rfl) ⟨Nat.le_of_ble_eq_true rfl, Nat.le_of_ble_eq_true rfl⟩ ⟨Nat.le_of_ble_eq_true rfl, Nat.le_of_ble_eq_true rfl⟩ dX6_back_11) hS (fun r17 ρ18 H locs q19 hP hS => ?_)
    obtain ⟨rfl, q19⟩ := q19
    have F20 : ∀ k, 1076 ≤ k → ρ18 k = r0 k := fun k hk => (q19 k (by omega) (by omega))
    exact ret_i B hr hlk hP hS dX6_back_14 (⟨Or.inr ⟨fun z => q3 z, rfl⟩, F20⟩)

theorem lk_RX6_228 : LkV RX6 228 RX6 yX6_planOf cX6_planOf 5 (some (.object "HopNet$Plan")) 2 := ⟨⟨mw_855, mw_857, mw_5, mw_52, mw_858⟩, by decide +kernel⟩
set_option maxHeartbeats 4000000 in
set_option maxRecDepth 100000 in
theorem c_hop (l : Launch) (E : hE) (a1 a2 a3 : Int32) : Met l yX6_hop (.code yX6_hop cX6_hop 5 (some .int) :: gw_all) (rmk 4 160) (cPre E r0 [.ref (E.2.1 + 0), .int a1, .int a2, .int a3]) (cI E (fun r ρ1 => (r = (-1)) ∧ ∀ k, 1076 ≤ k → ρ1 k = r0 k)) 0 0 (hA E) := by
  refine ent (own := RX6) (by decide) rfl (Nat.le_of_ble_eq_true rfl) ?_
  intro p e s m below meth c ls B hr hlk hl hP hS
  have hx := B.1.1
  have hb := B.1.2.1
  have hown := B.1.2.2.2.1
  have hts := B.1.2.2.2.2
  have hl : lv_has ls 5 [(0, .ref (E.2.1 + 0)), (1, .int a1), (2, .int a2), (3, .int a3)] := hl
  refine lv_aload_n hx hb dX6_hop_0 rfl (lv_at hl 0 rfl) ?_
  refine lv_iload_n hx hb dX6_hop_1 rfl (lv_at hl 1 rfl) ?_
  refine lv_iload_n hx hb dX6_hop_2 rfl (lv_at hl 2 rfl) ?_
  refine call_q (cVt (k := 0) (av := [.int a1, .int a2]) (rest := []) B hP hS (c_planOf l E r0 a1 a2 (FrW_r0 (by decide +kernel))) lk_RX6_228 (hrecv (ci := 6) B hP (hk_lt (c := 6) (by decide +kernel) (by decide)) (hcc6 _ _ (by decide +kernel)) rfl) rfl rfl hl.1 (Nat.le_of_ble_eq_true rfl) ⟨Nat.le_of_ble_eq_true rfl, Nat.le_of_ble_eq_true rfl⟩ ⟨Nat.le_of_ble_eq_true rfl, Nat.le_of_ble_eq_true rfl⟩ dX6_hop_3) hS (fun r1 ρ2 H locs q3 hP hS => ?_)
  obtain ⟨rfl, rfl⟩ := q3
  refine W.eq (g2 := F0 m 6 ls [.null]) rfl ?_
  refine lv_astoreN (lv' := [(4, .null), (0, .ref (E.2.1 + 0)), (1, .int a1), (2, .int a2), (3, .int a3)]) hx hb dX6_hop_6 hl (by decide) rfl (fun ls hl => ?_)
  refine lv_aloadN hx hb dX6_hop_8 (lv_at hl 0 rfl) ?_
  refine lv_ifnullN (tgt := 23) hx hb dX6_hop_10 (by decide) ?_
  refine lv_iconst (v := (-1)) hx hb dX6_hop_23 (by decide) ?_
  exact ret_i B hr hlk hP hS dX6_hop_24 (⟨rfl, fun _ _ => rfl⟩)

set_option maxHeartbeats 4000000 in
set_option maxRecDepth 100000 in
theorem c_alike (l : Launch) (E : hE) (a1 a2 a3 : Int32) : Met l yX6_alike (.code yX6_alike cX6_alike 6 (some .int) :: gw_all) (rmk 4 160) (cPre E r0 [.ref (E.2.1 + 0), .int a1, .int a2, .int a3]) (cI E (fun r ρ1 => (r = (-1)) ∧ ∀ k, 1076 ≤ k → ρ1 k = r0 k)) 0 0 (hA E) := by
  refine ent (own := RX6) (by decide) rfl (Nat.le_of_ble_eq_true rfl) ?_
  intro p e s m below meth c ls B hr hlk hl hP hS
  have hx := B.1.1
  have hb := B.1.2.1
  have hown := B.1.2.2.2.1
  have hts := B.1.2.2.2.2
  have hl : lv_has ls 6 [(0, .ref (E.2.1 + 0)), (1, .int a1), (2, .int a2), (3, .int a3)] := hl
  refine lv_aload_n hx hb dX6_alike_0 rfl (lv_at hl 0 rfl) ?_
  refine get6 B hP (by decide +kernel) 0 (by decide) mw_412 rfl dX6_alike_1 ?_
  refine lv_iload_n hx hb dX6_alike_4 rfl (lv_at hl 1 rfl) ?_
  refine lv_iload_n hx hb dX6_alike_5 rfl (lv_at hl 2 rfl) ?_
  refine call_q (cVt (k := 1) (av := [.int a1, .int a2]) (rest := []) B hP hS (c_linkAt l E r0 1 a1 a2 (by decide +kernel) (FrW_r0 (by decide +kernel))) lk_RX6_132 (hrecv (ci := 5) B hP (hk_lt (c := 5) (by decide +kernel) (by decide)) (hcc5 _ _ (by decide +kernel)) rfl) rfl rfl hl.1 (Nat.le_of_ble_eq_true rfl) ⟨Nat.le_of_ble_eq_true rfl, Nat.le_of_ble_eq_true rfl⟩ ⟨Nat.le_of_ble_eq_true rfl, Nat.le_of_ble_eq_true rfl⟩ dX6_alike_6) hS (fun r1 ρ2 H locs q3 hP hS => ?_)
  obtain ⟨rfl, rfl⟩ := q3
  refine W.eq (g2 := F0 m 9 ls [.null]) rfl ?_
  refine lv_astoreN (lv' := [(4, .null), (0, .ref (E.2.1 + 0)), (1, .int a1), (2, .int a2), (3, .int a3)]) hx hb dX6_alike_9 hl (by decide) rfl (fun ls hl => ?_)
  refine lv_aloadN hx hb dX6_alike_11 (lv_at hl 0 rfl) ?_
  refine lv_ifnonnullN hx hb dX6_alike_13 ?_
  refine lv_iconst (v := (-1)) hx hb dX6_alike_16 (by decide) ?_
  exact ret_i B hr hlk hP hS dX6_alike_17 (⟨rfl, fun _ _ => rfl⟩)

set_option maxHeartbeats 4000000 in
set_option maxRecDepth 100000 in
theorem c_mapOf (l : Launch) (E : hE) (a1 a2 a3 : Int32) : Met l yX6_mapOf (.code yX6_mapOf cX6_mapOf 5 (some .int) :: gw_all) (rmk 4 160) (cPre E r0 [.ref (E.2.1 + 0), .int a1, .int a2, .int a3]) (cI E (fun r ρ1 => (r = (-1)) ∧ ∀ k, 1076 ≤ k → ρ1 k = r0 k)) 0 0 (hA E) := by
  refine ent (own := RX6) (by decide) rfl (Nat.le_of_ble_eq_true rfl) ?_
  intro p e s m below meth c ls B hr hlk hl hP hS
  have hx := B.1.1
  have hb := B.1.2.1
  have hown := B.1.2.2.2.1
  have hts := B.1.2.2.2.2
  have hl : lv_has ls 5 [(0, .ref (E.2.1 + 0)), (1, .int a1), (2, .int a2), (3, .int a3)] := hl
  refine lv_aload_n hx hb dX6_mapOf_0 rfl (lv_at hl 0 rfl) ?_
  refine lv_iload_n hx hb dX6_mapOf_1 rfl (lv_at hl 1 rfl) ?_
  refine lv_iload_n hx hb dX6_mapOf_2 rfl (lv_at hl 2 rfl) ?_
  refine call_q (cVt (k := 0) (av := [.int a1, .int a2]) (rest := []) B hP hS (c_planOf l E r0 a1 a2 (FrW_r0 (by decide +kernel))) lk_RX6_228 (hrecv (ci := 6) B hP (hk_lt (c := 6) (by decide +kernel) (by decide)) (hcc6 _ _ (by decide +kernel)) rfl) rfl rfl hl.1 (Nat.le_of_ble_eq_true rfl) ⟨Nat.le_of_ble_eq_true rfl, Nat.le_of_ble_eq_true rfl⟩ ⟨Nat.le_of_ble_eq_true rfl, Nat.le_of_ble_eq_true rfl⟩ dX6_mapOf_3) hS (fun r1 ρ2 H locs q3 hP hS => ?_)
  obtain ⟨rfl, rfl⟩ := q3
  refine W.eq (g2 := F0 m 6 ls [.null]) rfl ?_
  refine lv_astoreN (lv' := [(4, .null), (0, .ref (E.2.1 + 0)), (1, .int a1), (2, .int a2), (3, .int a3)]) hx hb dX6_mapOf_6 hl (by decide) rfl (fun ls hl => ?_)
  refine lv_aloadN hx hb dX6_mapOf_8 (lv_at hl 0 rfl) ?_
  refine lv_ifnonnullN hx hb dX6_mapOf_10 ?_
  refine lv_iconst (v := (-1)) hx hb dX6_mapOf_13 (by decide) ?_
  exact ret_i B hr hlk hP hS dX6_mapOf_14 (⟨rfl, fun _ _ => rfl⟩)

theorem lk_RX6_259 : LkV RX6 259 RX5 yX5_hasBothNets cX5_hasBothNets 1 (some .boolean) 0 := ⟨⟨mw_883, mw_884, mw_885, mw_53, mw_886⟩, by decide +kernel⟩
set_option maxHeartbeats 4000000 in
set_option maxRecDepth 100000 in
theorem c_meets (l : Launch) (E : hE)  : Met l yX6_meets (.code yX6_meets cX6_meets 2 (some .int) :: gw_all) (rmk 4 160) (cPre E r0 [.ref (E.2.1 + 0)]) (cI E (fun r ρ1 => (r = (-1)) ∧ ∀ k, 1076 ≤ k → ρ1 k = r0 k)) 0 0 (hA E) := by
  refine ent (own := RX6) (by decide) rfl (Nat.le_of_ble_eq_true rfl) ?_
  intro p e s m below meth c ls B hr hlk hl hP hS
  have hx := B.1.1
  have hb := B.1.2.1
  have hown := B.1.2.2.2.1
  have hts := B.1.2.2.2.2
  have hl : lv_has ls 2 [(0, .ref (E.2.1 + 0))] := hl
  refine lv_aload_n hx hb dX6_meets_0 rfl (lv_at hl 0 rfl) ?_
  refine get6 B hP (by decide +kernel) 0 (by decide) mw_412 rfl dX6_meets_1 ?_
  refine call_i (cVt (k := 1) (av := []) (rest := []) B hP hS (c_hasBothNets l E r0 1 (by decide +kernel) (FrW_r0 (by decide +kernel))) lk_RX6_259 (hrecv (ci := 5) B hP (hk_lt (c := 5) (by decide +kernel) (by decide)) (hcc5 _ _ (by decide +kernel)) rfl) rfl rfl hl.1 (Nat.le_of_ble_eq_true rfl) ⟨Nat.le_of_ble_eq_true rfl, Nat.le_of_ble_eq_true rfl⟩ ⟨Nat.le_of_ble_eq_true rfl, Nat.le_of_ble_eq_true rfl⟩ dX6_meets_4) hS (fun r1 ρ2 H locs q3 hP hS => ?_)
  obtain ⟨rfl, rfl⟩ := q3
  refine lv_if_ne (tgt := 12) hx hb dX6_meets_7 (by decide) (fun c4 => absurd c4 (by decide)) (fun _ => ?_)
  refine lv_iconst (v := (-1)) hx hb dX6_meets_10 (by decide) ?_
  exact ret_i B hr hlk hP hS dX6_meets_11 (⟨rfl, fun _ _ => rfl⟩)

set_option maxHeartbeats 4000000 in
set_option maxRecDepth 100000 in
theorem c_used (l : Launch) (E : hE) (a1 a2 a3 : Int32) : Met l yX6_used (.code yX6_used cX6_used 7 (some .int) :: gw_all) (rmk 4 160) (cPre E r0 [.ref (E.2.1 + 0), .int a1, .int a2, .int a3]) (cI E (fun r ρ1 => (r = (-1)) ∧ ∀ k, 1076 ≤ k → ρ1 k = r0 k)) 0 0 (hA E) := by
  refine ent (own := RX6) (by decide) rfl (Nat.le_of_ble_eq_true rfl) ?_
  intro p e s m below meth c ls B hr hlk hl hP hS
  have hx := B.1.1
  have hb := B.1.2.1
  have hown := B.1.2.2.2.1
  have hts := B.1.2.2.2.2
  have hl : lv_has ls 7 [(0, .ref (E.2.1 + 0)), (1, .int a1), (2, .int a2), (3, .int a3)] := hl
  refine lv_aload_n hx hb dX6_used_0 rfl (lv_at hl 0 rfl) ?_
  refine get6 B hP (by decide +kernel) 0 (by decide) mw_412 rfl dX6_used_1 ?_
  refine lv_iload_n hx hb dX6_used_4 rfl (lv_at hl 1 rfl) ?_
  refine call_q (cVt (k := 1) (av := [.int a1]) (rest := []) B hP hS (c_netAt l E r0 1 a1 (by decide +kernel) (FrW_r0 (by decide +kernel))) lk_RX6_95 (hrecv (ci := 5) B hP (hk_lt (c := 5) (by decide +kernel) (by decide)) (hcc5 _ _ (by decide +kernel)) rfl) rfl rfl hl.1 (Nat.le_of_ble_eq_true rfl) ⟨Nat.le_of_ble_eq_true rfl, Nat.le_of_ble_eq_true rfl⟩ ⟨Nat.le_of_ble_eq_true rfl, Nat.le_of_ble_eq_true rfl⟩ dX6_used_5) hS (fun r1 ρ2 H locs q3 hP hS => ?_)
  obtain ⟨rfl, rfl⟩ := q3
  refine W.eq (g2 := F0 m 8 ls [.null]) rfl ?_
  refine lv_astoreN (lv' := [(4, .null), (0, .ref (E.2.1 + 0)), (1, .int a1), (2, .int a2), (3, .int a3)]) hx hb dX6_used_8 hl (by decide) rfl (fun ls hl => ?_)
  refine lv_aloadN hx hb dX6_used_10 (lv_at hl 0 rfl) ?_
  refine lv_ifnullN (tgt := 36) hx hb dX6_used_12 (by decide) ?_
  refine lv_iconst (v := (-1)) hx hb dX6_used_36 (by decide) ?_
  exact ret_i B hr hlk hP hS dX6_used_37 (⟨rfl, fun _ _ => rfl⟩)

set_option maxHeartbeats 4000000 in
set_option maxRecDepth 100000 in
theorem c_bad (l : Launch) (E : hE) (a1 a2 : Int32) : Met l yX6_bad (.code yX6_bad cX6_bad 4 (some .int) :: gw_all) (rmk 4 160) (cPre E r0 [.ref (E.2.1 + 0), .int a1, .int a2]) (cI E (fun r ρ1 => (r = (-1)) ∧ ∀ k, 1076 ≤ k → ρ1 k = r0 k)) 0 0 (hA E) := by
  refine ent (own := RX6) (by decide) rfl (Nat.le_of_ble_eq_true rfl) ?_
  intro p e s m below meth c ls B hr hlk hl hP hS
  have hx := B.1.1
  have hb := B.1.2.1
  have hown := B.1.2.2.2.1
  have hts := B.1.2.2.2.2
  have hl : lv_has ls 4 [(0, .ref (E.2.1 + 0)), (1, .int a1), (2, .int a2)] := hl
  refine lv_aload_n hx hb dX6_bad_0 rfl (lv_at hl 0 rfl) ?_
  refine get6 B hP (by decide +kernel) 0 (by decide) mw_412 rfl dX6_bad_1 ?_
  refine lv_iload_n hx hb dX6_bad_4 rfl (lv_at hl 1 rfl) ?_
  refine call_q (cVt (k := 1) (av := [.int a1]) (rest := []) B hP hS (c_netAt l E r0 1 a1 (by decide +kernel) (FrW_r0 (by decide +kernel))) lk_RX6_95 (hrecv (ci := 5) B hP (hk_lt (c := 5) (by decide +kernel) (by decide)) (hcc5 _ _ (by decide +kernel)) rfl) rfl rfl hl.1 (Nat.le_of_ble_eq_true rfl) ⟨Nat.le_of_ble_eq_true rfl, Nat.le_of_ble_eq_true rfl⟩ ⟨Nat.le_of_ble_eq_true rfl, Nat.le_of_ble_eq_true rfl⟩ dX6_bad_5) hS (fun r1 ρ2 H locs q3 hP hS => ?_)
  obtain ⟨rfl, rfl⟩ := q3
  refine W.eq (g2 := F0 m 8 ls [.null]) rfl ?_
  refine lv_astore_nN (lv' := [(3, .null), (0, .ref (E.2.1 + 0)), (1, .int a1), (2, .int a2)]) hx hb dX6_bad_8 rfl hl (by decide) rfl (fun ls hl => ?_)
  refine lv_aload_nN hx hb dX6_bad_9 rfl (lv_at hl 0 rfl) ?_
  refine lv_ifnullN (tgt := 23) hx hb dX6_bad_10 (by decide) ?_
  refine lv_iconst (v := (-1)) hx hb dX6_bad_23 (by decide) ?_
  refine lv_goto (tgt := 32) hx hb dX6_bad_24 (by decide) ?_
  exact ret_i B hr hlk hP hS dX6_bad_32 (⟨rfl, fun _ _ => rfl⟩)

set_option maxHeartbeats 4000000 in
set_option maxRecDepth 100000 in
theorem c_sent (l : Launch) (E : hE) (a1 a2 a3 : Int32) : Met l yX6_sent (.code yX6_sent cX6_sent 5 (some .int) :: gw_all) (rmk 4 160) (cPre E r0 [.ref (E.2.1 + 0), .int a1, .int a2, .int a3]) (cI E (fun r ρ1 => (r = (-1)) ∧ ∀ k, 1076 ≤ k → ρ1 k = r0 k)) 0 0 (hA E) := by
  refine ent (own := RX6) (by decide) rfl (Nat.le_of_ble_eq_true rfl) ?_
  intro p e s m below meth c ls B hr hlk hl hP hS
  have hx := B.1.1
  have hb := B.1.2.1
  have hown := B.1.2.2.2.1
  have hts := B.1.2.2.2.2
  have hl : lv_has ls 5 [(0, .ref (E.2.1 + 0)), (1, .int a1), (2, .int a2), (3, .int a3)] := hl
  refine lv_aload_n hx hb dX6_sent_0 rfl (lv_at hl 0 rfl) ?_
  refine get6 B hP (by decide +kernel) 0 (by decide) mw_412 rfl dX6_sent_1 ?_
  refine lv_iload_n hx hb dX6_sent_4 rfl (lv_at hl 1 rfl) ?_
  refine call_q (cVt (k := 1) (av := [.int a1]) (rest := []) B hP hS (c_netAt l E r0 1 a1 (by decide +kernel) (FrW_r0 (by decide +kernel))) lk_RX6_95 (hrecv (ci := 5) B hP (hk_lt (c := 5) (by decide +kernel) (by decide)) (hcc5 _ _ (by decide +kernel)) rfl) rfl rfl hl.1 (Nat.le_of_ble_eq_true rfl) ⟨Nat.le_of_ble_eq_true rfl, Nat.le_of_ble_eq_true rfl⟩ ⟨Nat.le_of_ble_eq_true rfl, Nat.le_of_ble_eq_true rfl⟩ dX6_sent_5) hS (fun r1 ρ2 H locs q3 hP hS => ?_)
  obtain ⟨rfl, rfl⟩ := q3
  refine W.eq (g2 := F0 m 8 ls [.null]) rfl ?_
  refine lv_astoreN (lv' := [(4, .null), (0, .ref (E.2.1 + 0)), (1, .int a1), (2, .int a2), (3, .int a3)]) hx hb dX6_sent_8 hl (by decide) rfl (fun ls hl => ?_)
  refine lv_aloadN hx hb dX6_sent_10 (lv_at hl 0 rfl) ?_
  refine lv_ifnullN (tgt := 25) hx hb dX6_sent_12 (by decide) ?_
  refine lv_iconst (v := (-1)) hx hb dX6_sent_25 (by decide) ?_
  exact ret_i B hr hlk hP hS dX6_sent_26 (⟨rfl, fun _ _ => rfl⟩)

set_option maxHeartbeats 4000000 in
set_option maxRecDepth 100000 in
theorem c_link (l : Launch) (E : hE) (a1 a2 a3 : Int32) : Met l yX6_link (.code yX6_link cX6_link 5 (some .int) :: gw_all) (rmk 4 160) (cPre E r0 [.ref (E.2.1 + 0), .int a1, .int a2, .int a3]) (cI E (fun r ρ1 => (r = (-1)) ∧ ∀ k, 1076 ≤ k → ρ1 k = r0 k)) 0 0 (hA E) := by
  refine ent (own := RX6) (by decide) rfl (Nat.le_of_ble_eq_true rfl) ?_
  intro p e s m below meth c ls B hr hlk hl hP hS
  have hx := B.1.1
  have hb := B.1.2.1
  have hown := B.1.2.2.2.1
  have hts := B.1.2.2.2.2
  have hl : lv_has ls 5 [(0, .ref (E.2.1 + 0)), (1, .int a1), (2, .int a2), (3, .int a3)] := hl
  refine lv_aload_n hx hb dX6_link_0 rfl (lv_at hl 0 rfl) ?_
  refine get6 B hP (by decide +kernel) 0 (by decide) mw_412 rfl dX6_link_1 ?_
  refine lv_iload_n hx hb dX6_link_4 rfl (lv_at hl 1 rfl) ?_
  refine lv_iload_n hx hb dX6_link_5 rfl (lv_at hl 2 rfl) ?_
  refine call_q (cVt (k := 1) (av := [.int a1, .int a2]) (rest := []) B hP hS (c_linkAt l E r0 1 a1 a2 (by decide +kernel) (FrW_r0 (by decide +kernel))) lk_RX6_132 (hrecv (ci := 5) B hP (hk_lt (c := 5) (by decide +kernel) (by decide)) (hcc5 _ _ (by decide +kernel)) rfl) rfl rfl hl.1 (Nat.le_of_ble_eq_true rfl) ⟨Nat.le_of_ble_eq_true rfl, Nat.le_of_ble_eq_true rfl⟩ ⟨Nat.le_of_ble_eq_true rfl, Nat.le_of_ble_eq_true rfl⟩ dX6_link_6) hS (fun r1 ρ2 H locs q3 hP hS => ?_)
  obtain ⟨rfl, rfl⟩ := q3
  refine W.eq (g2 := F0 m 9 ls [.null]) rfl ?_
  refine lv_astoreN (lv' := [(4, .null), (0, .ref (E.2.1 + 0)), (1, .int a1), (2, .int a2), (3, .int a3)]) hx hb dX6_link_9 hl (by decide) rfl (fun ls hl => ?_)
  refine lv_aloadN hx hb dX6_link_11 (lv_at hl 0 rfl) ?_
  refine lv_ifnonnullN hx hb dX6_link_13 ?_
  refine lv_iconst (v := (-1)) hx hb dX6_link_16 (by decide) ?_
  exact ret_i B hr hlk hP hS dX6_link_17 (⟨rfl, fun _ _ => rfl⟩)

set_option maxHeartbeats 4000000 in
set_option maxRecDepth 100000 in
theorem c_reserved (l : Launch) (E : hE) (a1 a2 a3 : Int32) : Met l yX6_reserved (.code yX6_reserved cX6_reserved 5 (some .int) :: gw_all) (rmk 4 160) (cPre E r0 [.ref (E.2.1 + 0), .int a1, .int a2, .int a3]) (cI E (fun r ρ1 => (r = (-1)) ∧ ∀ k, 1076 ≤ k → ρ1 k = r0 k)) 0 0 (hA E) := by
  refine ent (own := RX6) (by decide) rfl (Nat.le_of_ble_eq_true rfl) ?_
  intro p e s m below meth c ls B hr hlk hl hP hS
  have hx := B.1.1
  have hb := B.1.2.1
  have hown := B.1.2.2.2.1
  have hts := B.1.2.2.2.2
  have hl : lv_has ls 5 [(0, .ref (E.2.1 + 0)), (1, .int a1), (2, .int a2), (3, .int a3)] := hl
  refine lv_aload_n hx hb dX6_reserved_0 rfl (lv_at hl 0 rfl) ?_
  refine get6 B hP (by decide +kernel) 0 (by decide) mw_412 rfl dX6_reserved_1 ?_
  refine lv_iload_n hx hb dX6_reserved_4 rfl (lv_at hl 1 rfl) ?_
  refine lv_iload_n hx hb dX6_reserved_5 rfl (lv_at hl 2 rfl) ?_
  refine call_q (cVt (k := 1) (av := [.int a1, .int a2]) (rest := []) B hP hS (c_linkAt l E r0 1 a1 a2 (by decide +kernel) (FrW_r0 (by decide +kernel))) lk_RX6_132 (hrecv (ci := 5) B hP (hk_lt (c := 5) (by decide +kernel) (by decide)) (hcc5 _ _ (by decide +kernel)) rfl) rfl rfl hl.1 (Nat.le_of_ble_eq_true rfl) ⟨Nat.le_of_ble_eq_true rfl, Nat.le_of_ble_eq_true rfl⟩ ⟨Nat.le_of_ble_eq_true rfl, Nat.le_of_ble_eq_true rfl⟩ dX6_reserved_6) hS (fun r1 ρ2 H locs q3 hP hS => ?_)
  obtain ⟨rfl, rfl⟩ := q3
  refine W.eq (g2 := F0 m 9 ls [.null]) rfl ?_
  refine lv_astoreN (lv' := [(4, .null), (0, .ref (E.2.1 + 0)), (1, .int a1), (2, .int a2), (3, .int a3)]) hx hb dX6_reserved_9 hl (by decide) rfl (fun ls hl => ?_)
  refine lv_aloadN hx hb dX6_reserved_11 (lv_at hl 0 rfl) ?_
  refine lv_ifnullN (tgt := 27) hx hb dX6_reserved_13 (by decide) ?_
  refine lv_iconst (v := (-1)) hx hb dX6_reserved_27 (by decide) ?_
  exact ret_i B hr hlk hP hS dX6_reserved_28 (⟨rfl, fun _ _ => rfl⟩)

set_option maxHeartbeats 4000000 in
set_option maxRecDepth 100000 in
theorem c_odds (l : Launch) (E : hE) (a1 a2 a3 a4 : Int32) : Met l yX6_odds (.code yX6_odds cX6_odds 9 (some .int) :: gw_all) (rmk 4 160) (cPre E r0 [.ref (E.2.1 + 0), .int a1, .int a2, .int a3, .int a4]) (cI E (fun r ρ1 => (r = (-1)) ∧ ∀ k, 1076 ≤ k → ρ1 k = r0 k)) 0 0 (hA E) := by
  refine ent (own := RX6) (by decide) rfl (Nat.le_of_ble_eq_true rfl) ?_
  intro p e s m below meth c ls B hr hlk hl hP hS
  have hx := B.1.1
  have hb := B.1.2.1
  have hown := B.1.2.2.2.1
  have hts := B.1.2.2.2.2
  have hl : lv_has ls 9 [(0, .ref (E.2.1 + 0)), (1, .int a1), (2, .int a2), (3, .int a3), (4, .int a4)] := hl
  refine lv_aload_n hx hb dX6_odds_0 rfl (lv_at hl 0 rfl) ?_
  refine get6 B hP (by decide +kernel) 0 (by decide) mw_412 rfl dX6_odds_1 ?_
  refine lv_iload_n hx hb dX6_odds_4 rfl (lv_at hl 1 rfl) ?_
  refine lv_iload_n hx hb dX6_odds_5 rfl (lv_at hl 2 rfl) ?_
  refine call_q (cVt (k := 1) (av := [.int a1, .int a2]) (rest := []) B hP hS (c_linkAt l E r0 1 a1 a2 (by decide +kernel) (FrW_r0 (by decide +kernel))) lk_RX6_132 (hrecv (ci := 5) B hP (hk_lt (c := 5) (by decide +kernel) (by decide)) (hcc5 _ _ (by decide +kernel)) rfl) rfl rfl hl.1 (Nat.le_of_ble_eq_true rfl) ⟨Nat.le_of_ble_eq_true rfl, Nat.le_of_ble_eq_true rfl⟩ ⟨Nat.le_of_ble_eq_true rfl, Nat.le_of_ble_eq_true rfl⟩ dX6_odds_6) hS (fun r1 ρ2 H locs q3 hP hS => ?_)
  obtain ⟨rfl, rfl⟩ := q3
  refine W.eq (g2 := F0 m 9 ls [.null]) rfl ?_
  refine lv_astoreN (lv' := [(5, .null), (0, .ref (E.2.1 + 0)), (1, .int a1), (2, .int a2), (3, .int a3), (4, .int a4)]) hx hb dX6_odds_9 hl (by decide) rfl (fun ls hl => ?_)
  refine lv_aloadN hx hb dX6_odds_11 (lv_at hl 0 rfl) ?_
  refine lv_ifnullN (tgt := 36) hx hb dX6_odds_13 (by decide) ?_
  refine lv_iconst (v := (-1)) hx hb dX6_odds_36 (by decide) ?_
  exact ret_i B hr hlk hP hS dX6_odds_37 (⟨rfl, fun _ _ => rfl⟩)

set_option maxHeartbeats 4000000 in
set_option maxRecDepth 100000 in
theorem c_clashes (l : Launch) (E : hE) (a1 : Int32) : Met l yX6_clashes (.code yX6_clashes cX6_clashes 4 (some .int) :: gw_all) (rmk 4 160) (cPre E r0 [.ref (E.2.1 + 0), .int a1]) (cI E (fun r ρ1 => (r = (-1)) ∧ ∀ k, 1076 ≤ k → ρ1 k = r0 k)) 0 0 (hA E) := by
  refine ent (own := RX6) (by decide) rfl (Nat.le_of_ble_eq_true rfl) ?_
  intro p e s m below meth c ls B hr hlk hl hP hS
  have hx := B.1.1
  have hb := B.1.2.1
  have hown := B.1.2.2.2.1
  have hts := B.1.2.2.2.2
  have hl : lv_has ls 4 [(0, .ref (E.2.1 + 0)), (1, .int a1)] := hl
  refine lv_aload_n hx hb dX6_clashes_0 rfl (lv_at hl 0 rfl) ?_
  refine get6 B hP (by decide +kernel) 0 (by decide) mw_412 rfl dX6_clashes_1 ?_
  refine call_i (cVt (k := 1) (av := []) (rest := []) B hP hS (c_hasBothNets l E r0 1 (by decide +kernel) (FrW_r0 (by decide +kernel))) lk_RX6_259 (hrecv (ci := 5) B hP (hk_lt (c := 5) (by decide +kernel) (by decide)) (hcc5 _ _ (by decide +kernel)) rfl) rfl rfl hl.1 (Nat.le_of_ble_eq_true rfl) ⟨Nat.le_of_ble_eq_true rfl, Nat.le_of_ble_eq_true rfl⟩ ⟨Nat.le_of_ble_eq_true rfl, Nat.le_of_ble_eq_true rfl⟩ dX6_clashes_4) hS (fun r1 ρ2 H locs q3 hP hS => ?_)
  obtain ⟨rfl, rfl⟩ := q3
  refine lv_if_eq (tgt := 21) hx hb dX6_clashes_7 (by decide) (fun _ => ?_) (fun c4 => absurd c4 (by decide))
  refine lv_iconst (v := (-1)) hx hb dX6_clashes_21 (by decide) ?_
  exact ret_i B hr hlk hP hS dX6_clashes_22 (⟨rfl, fun _ _ => rfl⟩)

set_option maxHeartbeats 4000000 in
set_option maxRecDepth 100000 in
theorem c_bestOffset (l : Launch) (E : hE) (a1 : Int32) : Met l yX6_bestOffset (.code yX6_bestOffset cX6_bestOffset 6 (some .int) :: gw_all) (rmk 4 160) (cPre E r0 [.ref (E.2.1 + 0), .int a1]) (cI E (fun r ρ1 => (r = (-1)) ∧ ∀ k, 1076 ≤ k → ρ1 k = r0 k)) 0 0 (hA E) := by
  refine ent (own := RX6) (by decide) rfl (Nat.le_of_ble_eq_true rfl) ?_
  intro p e s m below meth c ls B hr hlk hl hP hS
  have hx := B.1.1
  have hb := B.1.2.1
  have hown := B.1.2.2.2.1
  have hts := B.1.2.2.2.2
  have hl : lv_has ls 6 [(0, .ref (E.2.1 + 0)), (1, .int a1)] := hl
  refine lv_aload_n hx hb dX6_bestOffset_0 rfl (lv_at hl 0 rfl) ?_
  refine get6 B hP (by decide +kernel) 0 (by decide) mw_412 rfl dX6_bestOffset_1 ?_
  refine call_i (cVt (k := 1) (av := []) (rest := []) B hP hS (c_hasBothNets l E r0 1 (by decide +kernel) (FrW_r0 (by decide +kernel))) lk_RX6_259 (hrecv (ci := 5) B hP (hk_lt (c := 5) (by decide +kernel) (by decide)) (hcc5 _ _ (by decide +kernel)) rfl) rfl rfl hl.1 (Nat.le_of_ble_eq_true rfl) ⟨Nat.le_of_ble_eq_true rfl, Nat.le_of_ble_eq_true rfl⟩ ⟨Nat.le_of_ble_eq_true rfl, Nat.le_of_ble_eq_true rfl⟩ dX6_bestOffset_4) hS (fun r1 ρ2 H locs q3 hP hS => ?_)
  obtain ⟨rfl, rfl⟩ := q3
  refine lv_if_eq (tgt := 21) hx hb dX6_bestOffset_7 (by decide) (fun _ => ?_) (fun c4 => absurd c4 (by decide))
  refine lv_iconst (v := (-1)) hx hb dX6_bestOffset_21 (by decide) ?_
  exact ret_i B hr hlk hP hS dX6_bestOffset_22 (⟨rfl, fun _ _ => rfl⟩)

set_option maxHeartbeats 4000000 in
set_option maxRecDepth 100000 in
theorem c_drain (l : Launch) (E : hE) (a1 a2 : Int32) : Met l yX6_drain (.code yX6_drain cX6_drain 5 (some .int) :: gw_all) (rmk 4 160) (cPre E r0 [.ref (E.2.1 + 0), .int a1, .int a2]) (cI E (fun r ρ1 => (r = (-1)) ∧ ∀ k, 1076 ≤ k → ρ1 k = r0 k)) 0 0 (hA E) := by
  refine ent (own := RX6) (by decide) rfl (Nat.le_of_ble_eq_true rfl) ?_
  intro p e s m below meth c ls B hr hlk hl hP hS
  have hx := B.1.1
  have hb := B.1.2.1
  have hown := B.1.2.2.2.1
  have hts := B.1.2.2.2.2
  have hl : lv_has ls 5 [(0, .ref (E.2.1 + 0)), (1, .int a1), (2, .int a2)] := hl
  refine lv_aload_n hx hb dX6_drain_0 rfl (lv_at hl 0 rfl) ?_
  refine get6 B hP (by decide +kernel) 0 (by decide) mw_412 rfl dX6_drain_1 ?_
  refine lv_iload_n hx hb dX6_drain_4 rfl (lv_at hl 1 rfl) ?_
  refine lv_iload_n hx hb dX6_drain_5 rfl (lv_at hl 2 rfl) ?_
  refine call_q (cVt (k := 1) (av := [.int a1, .int a2]) (rest := []) B hP hS (c_linkAt l E r0 1 a1 a2 (by decide +kernel) (FrW_r0 (by decide +kernel))) lk_RX6_132 (hrecv (ci := 5) B hP (hk_lt (c := 5) (by decide +kernel) (by decide)) (hcc5 _ _ (by decide +kernel)) rfl) rfl rfl hl.1 (Nat.le_of_ble_eq_true rfl) ⟨Nat.le_of_ble_eq_true rfl, Nat.le_of_ble_eq_true rfl⟩ ⟨Nat.le_of_ble_eq_true rfl, Nat.le_of_ble_eq_true rfl⟩ dX6_drain_6) hS (fun r1 ρ2 H locs q3 hP hS => ?_)
  obtain ⟨rfl, rfl⟩ := q3
  refine W.eq (g2 := F0 m 9 ls [.null]) rfl ?_
  refine lv_ifnonnullN hx hb dX6_drain_9 ?_
  refine lv_iconst (v := (-1)) hx hb dX6_drain_12 (by decide) ?_
  exact ret_i B hr hlk hP hS dX6_drain_13 (⟨rfl, fun _ _ => rfl⟩)

set_option maxHeartbeats 4000000 in
set_option maxRecDepth 100000 in
theorem c_ready (l : Launch) (E : hE) (a1 a2 : Int32) : Met l yX6_ready (.code yX6_ready cX6_ready 5 (some .int) :: gw_all) (rmk 4 160) (cPre E r0 [.ref (E.2.1 + 0), .int a1, .int a2]) (cI E (fun r ρ1 => (r = (-1)) ∧ ∀ k, 1076 ≤ k → ρ1 k = r0 k)) 0 0 (hA E) := by
  refine ent (own := RX6) (by decide) rfl (Nat.le_of_ble_eq_true rfl) ?_
  intro p e s m below meth c ls B hr hlk hl hP hS
  have hx := B.1.1
  have hb := B.1.2.1
  have hown := B.1.2.2.2.1
  have hts := B.1.2.2.2.2
  have hl : lv_has ls 5 [(0, .ref (E.2.1 + 0)), (1, .int a1), (2, .int a2)] := hl
  refine lv_aload_n hx hb dX6_ready_0 rfl (lv_at hl 0 rfl) ?_
  refine get6 B hP (by decide +kernel) 0 (by decide) mw_412 rfl dX6_ready_1 ?_
  refine lv_iload_n hx hb dX6_ready_4 rfl (lv_at hl 1 rfl) ?_
  refine lv_iload_n hx hb dX6_ready_5 rfl (lv_at hl 2 rfl) ?_
  refine call_q (cVt (k := 1) (av := [.int a1, .int a2]) (rest := []) B hP hS (c_linkAt l E r0 1 a1 a2 (by decide +kernel) (FrW_r0 (by decide +kernel))) lk_RX6_132 (hrecv (ci := 5) B hP (hk_lt (c := 5) (by decide +kernel) (by decide)) (hcc5 _ _ (by decide +kernel)) rfl) rfl rfl hl.1 (Nat.le_of_ble_eq_true rfl) ⟨Nat.le_of_ble_eq_true rfl, Nat.le_of_ble_eq_true rfl⟩ ⟨Nat.le_of_ble_eq_true rfl, Nat.le_of_ble_eq_true rfl⟩ dX6_ready_6) hS (fun r1 ρ2 H locs q3 hP hS => ?_)
  obtain ⟨rfl, rfl⟩ := q3
  refine W.eq (g2 := F0 m 9 ls [.null]) rfl ?_
  refine lv_astore_nN (lv' := [(3, .null), (0, .ref (E.2.1 + 0)), (1, .int a1), (2, .int a2)]) hx hb dX6_ready_9 rfl hl (by decide) rfl (fun ls hl => ?_)
  refine lv_aload_nN hx hb dX6_ready_10 rfl (lv_at hl 0 rfl) ?_
  refine lv_ifnonnullN hx hb dX6_ready_11 ?_
  refine lv_iconst (v := (-1)) hx hb dX6_ready_14 (by decide) ?_
  exact ret_i B hr hlk hP hS dX6_ready_15 (⟨rfl, fun _ _ => rfl⟩)

set_option maxHeartbeats 4000000 in
set_option maxRecDepth 100000 in
theorem c_bothReady (l : Launch) (E : hE) (a1 a2 a3 a4 : Int32) : Met l yX6_bothReady (.code yX6_bothReady cX6_bothReady 10 (some .int) :: gw_all) (rmk 4 160) (cPre E r0 [.ref (E.2.1 + 0), .int a1, .int a2, .int a3, .int a4]) (cI E (fun r ρ1 => (r = (-1)) ∧ ∀ k, 1076 ≤ k → ρ1 k = r0 k)) 0 0 (hA E) := by
  refine ent (own := RX6) (by decide) rfl (Nat.le_of_ble_eq_true rfl) ?_
  intro p e s m below meth c ls B hr hlk hl hP hS
  have hx := B.1.1
  have hb := B.1.2.1
  have hown := B.1.2.2.2.1
  have hts := B.1.2.2.2.2
  have hl : lv_has ls 10 [(0, .ref (E.2.1 + 0)), (1, .int a1), (2, .int a2), (3, .int a3), (4, .int a4)] := hl
  refine lv_aload_n hx hb dX6_bothReady_0 rfl (lv_at hl 0 rfl) ?_
  refine get6 B hP (by decide +kernel) 0 (by decide) mw_412 rfl dX6_bothReady_1 ?_
  refine lv_iload_n hx hb dX6_bothReady_4 rfl (lv_at hl 1 rfl) ?_
  refine lv_iload_n hx hb dX6_bothReady_5 rfl (lv_at hl 2 rfl) ?_
  refine call_q (cVt (k := 1) (av := [.int a1, .int a2]) (rest := []) B hP hS (c_linkAt l E r0 1 a1 a2 (by decide +kernel) (FrW_r0 (by decide +kernel))) lk_RX6_132 (hrecv (ci := 5) B hP (hk_lt (c := 5) (by decide +kernel) (by decide)) (hcc5 _ _ (by decide +kernel)) rfl) rfl rfl hl.1 (Nat.le_of_ble_eq_true rfl) ⟨Nat.le_of_ble_eq_true rfl, Nat.le_of_ble_eq_true rfl⟩ ⟨Nat.le_of_ble_eq_true rfl, Nat.le_of_ble_eq_true rfl⟩ dX6_bothReady_6) hS (fun r1 ρ2 H locs q3 hP hS => ?_)
  obtain ⟨rfl, rfl⟩ := q3
  refine W.eq (g2 := F0 m 9 ls [.null]) rfl ?_
  refine lv_astoreN (lv' := [(5, .null), (0, .ref (E.2.1 + 0)), (1, .int a1), (2, .int a2), (3, .int a3), (4, .int a4)]) hx hb dX6_bothReady_9 hl (by decide) rfl (fun ls hl => ?_)
  refine lv_aload_n hx hb dX6_bothReady_11 rfl (lv_at hl 1 rfl) ?_
  refine get6 B hP (by decide +kernel) 0 (by decide) mw_412 rfl dX6_bothReady_12 ?_
  refine lv_iload_n hx hb dX6_bothReady_15 rfl (lv_at hl 2 rfl) ?_
  refine lv_iload_n hx hb dX6_bothReady_16 rfl (lv_at hl 4 rfl) ?_
  refine call_q (cVt (k := 1) (av := [.int a1, .int a3]) (rest := []) B hP hS (c_linkAt l E r0 1 a1 a3 (by decide +kernel) (FrW_r0 (by decide +kernel))) lk_RX6_132 (hrecv (ci := 5) B hP (hk_lt (c := 5) (by decide +kernel) (by decide)) (hcc5 _ _ (by decide +kernel)) rfl) rfl rfl hl.1 (Nat.le_of_ble_eq_true rfl) ⟨Nat.le_of_ble_eq_true rfl, Nat.le_of_ble_eq_true rfl⟩ ⟨Nat.le_of_ble_eq_true rfl, Nat.le_of_ble_eq_true rfl⟩ dX6_bothReady_17) hS (fun r4 ρ5 H locs q6 hP hS => ?_)
  obtain ⟨rfl, rfl⟩ := q6
  refine W.eq (g2 := F0 m 20 ls [.null]) rfl ?_
  refine lv_astoreN (lv' := [(6, .null), (5, .null), (0, .ref (E.2.1 + 0)), (1, .int a1), (2, .int a2), (3, .int a3), (4, .int a4)]) hx hb dX6_bothReady_20 hl (by decide) rfl (fun ls hl => ?_)
  refine lv_aloadN hx hb dX6_bothReady_22 (lv_at hl 1 rfl) ?_
  refine lv_ifnullN (tgt := 44) hx hb dX6_bothReady_24 (by decide) ?_
  refine lv_iconst (v := (-1)) hx hb dX6_bothReady_44 (by decide) ?_
  exact ret_i B hr hlk hP hS dX6_bothReady_45 (⟨rfl, fun _ _ => rfl⟩)

set_option maxHeartbeats 4000000 in
set_option maxRecDepth 100000 in
theorem c_ahead (l : Launch) (E : hE) (a1 a2 : Int32) : Met l yX6_ahead (.code yX6_ahead cX6_ahead 4 (some .int) :: gw_all) (rmk 4 160) (cPre E r0 [.ref (E.2.1 + 0), .int a1, .int a2]) (cI E (fun r ρ1 => (r = (-1)) ∧ ∀ k, 1076 ≤ k → ρ1 k = r0 k)) 0 0 (hA E) := by
  refine ent (own := RX6) (by decide) rfl (Nat.le_of_ble_eq_true rfl) ?_
  intro p e s m below meth c ls B hr hlk hl hP hS
  have hx := B.1.1
  have hb := B.1.2.1
  have hown := B.1.2.2.2.1
  have hts := B.1.2.2.2.2
  have hl : lv_has ls 4 [(0, .ref (E.2.1 + 0)), (1, .int a1), (2, .int a2)] := hl
  refine lv_aload_n hx hb dX6_ahead_0 rfl (lv_at hl 0 rfl) ?_
  refine get6 B hP (by decide +kernel) 0 (by decide) mw_412 rfl dX6_ahead_1 ?_
  refine lv_iload_n hx hb dX6_ahead_4 rfl (lv_at hl 1 rfl) ?_
  refine call_q (cVt (k := 1) (av := [.int a1]) (rest := []) B hP hS (c_netAt l E r0 1 a1 (by decide +kernel) (FrW_r0 (by decide +kernel))) lk_RX6_95 (hrecv (ci := 5) B hP (hk_lt (c := 5) (by decide +kernel) (by decide)) (hcc5 _ _ (by decide +kernel)) rfl) rfl rfl hl.1 (Nat.le_of_ble_eq_true rfl) ⟨Nat.le_of_ble_eq_true rfl, Nat.le_of_ble_eq_true rfl⟩ ⟨Nat.le_of_ble_eq_true rfl, Nat.le_of_ble_eq_true rfl⟩ dX6_ahead_5) hS (fun r1 ρ2 H locs q3 hP hS => ?_)
  obtain ⟨rfl, rfl⟩ := q3
  refine W.eq (g2 := F0 m 8 ls [.null]) rfl ?_
  refine lv_ifnullN (tgt := 30) hx hb dX6_ahead_8 (by decide) ?_
  refine lv_iconst (v := (-1)) hx hb dX6_ahead_30 (by decide) ?_
  exact ret_i B hr hlk hP hS dX6_ahead_31 (⟨rfl, fun _ _ => rfl⟩)

set_option maxHeartbeats 4000000 in
set_option maxRecDepth 100000 in
theorem c_together (l : Launch) (E : hE) (a1 a2 a3 : Int32) : Met l yX6_together (.code yX6_together cX6_together 8 (some .int) :: gw_all) (rmk 4 160) (cPre E r0 [.ref (E.2.1 + 0), .int a1, .int a2, .int a3]) (cI E (fun r ρ1 => (r = (-1)) ∧ ∀ k, 1076 ≤ k → ρ1 k = r0 k)) 0 0 (hA E) := by
  refine ent (own := RX6) (by decide) rfl (Nat.le_of_ble_eq_true rfl) ?_
  intro p e s m below meth c ls B hr hlk hl hP hS
  have hx := B.1.1
  have hb := B.1.2.1
  have hown := B.1.2.2.2.1
  have hts := B.1.2.2.2.2
  have hl : lv_has ls 8 [(0, .ref (E.2.1 + 0)), (1, .int a1), (2, .int a2), (3, .int a3)] := hl
  refine lv_aload_n hx hb dX6_together_0 rfl (lv_at hl 0 rfl) ?_
  refine get6 B hP (by decide +kernel) 0 (by decide) mw_412 rfl dX6_together_1 ?_
  refine lv_iload_n hx hb dX6_together_4 rfl (lv_at hl 1 rfl) ?_
  refine lv_iload_n hx hb dX6_together_5 rfl (lv_at hl 2 rfl) ?_
  refine call_q (cVt (k := 1) (av := [.int a1, .int a2]) (rest := []) B hP hS (c_linkAt l E r0 1 a1 a2 (by decide +kernel) (FrW_r0 (by decide +kernel))) lk_RX6_132 (hrecv (ci := 5) B hP (hk_lt (c := 5) (by decide +kernel) (by decide)) (hcc5 _ _ (by decide +kernel)) rfl) rfl rfl hl.1 (Nat.le_of_ble_eq_true rfl) ⟨Nat.le_of_ble_eq_true rfl, Nat.le_of_ble_eq_true rfl⟩ ⟨Nat.le_of_ble_eq_true rfl, Nat.le_of_ble_eq_true rfl⟩ dX6_together_6) hS (fun r1 ρ2 H locs q3 hP hS => ?_)
  obtain ⟨rfl, rfl⟩ := q3
  refine W.eq (g2 := F0 m 9 ls [.null]) rfl ?_
  refine lv_astoreN (lv' := [(4, .null), (0, .ref (E.2.1 + 0)), (1, .int a1), (2, .int a2), (3, .int a3)]) hx hb dX6_together_9 hl (by decide) rfl (fun ls hl => ?_)
  refine lv_aload_n hx hb dX6_together_11 rfl (lv_at hl 1 rfl) ?_
  refine get6 B hP (by decide +kernel) 0 (by decide) mw_412 rfl dX6_together_12 ?_
  refine lv_iload_n hx hb dX6_together_15 rfl (lv_at hl 2 rfl) ?_
  refine lv_iload_n hx hb dX6_together_16 rfl (lv_at hl 4 rfl) ?_
  refine call_q (cVt (k := 1) (av := [.int a1, .int a3]) (rest := []) B hP hS (c_linkAt l E r0 1 a1 a3 (by decide +kernel) (FrW_r0 (by decide +kernel))) lk_RX6_132 (hrecv (ci := 5) B hP (hk_lt (c := 5) (by decide +kernel) (by decide)) (hcc5 _ _ (by decide +kernel)) rfl) rfl rfl hl.1 (Nat.le_of_ble_eq_true rfl) ⟨Nat.le_of_ble_eq_true rfl, Nat.le_of_ble_eq_true rfl⟩ ⟨Nat.le_of_ble_eq_true rfl, Nat.le_of_ble_eq_true rfl⟩ dX6_together_17) hS (fun r4 ρ5 H locs q6 hP hS => ?_)
  obtain ⟨rfl, rfl⟩ := q6
  refine W.eq (g2 := F0 m 20 ls [.null]) rfl ?_
  refine lv_astoreN (lv' := [(5, .null), (4, .null), (0, .ref (E.2.1 + 0)), (1, .int a1), (2, .int a2), (3, .int a3)]) hx hb dX6_together_20 hl (by decide) rfl (fun ls hl => ?_)
  refine lv_aloadN hx hb dX6_together_22 (lv_at hl 1 rfl) ?_
  refine lv_ifnullN (tgt := 37) hx hb dX6_together_24 (by decide) ?_
  refine lv_iconst (v := (-1)) hx hb dX6_together_37 (by decide) ?_
  exact ret_i B hr hlk hP hS dX6_together_38 (⟨rfl, fun _ _ => rfl⟩)

set_option maxHeartbeats 4000000 in
set_option maxRecDepth 100000 in
theorem c_ranked (l : Launch) (E : hE) (a1 a2 : Int32) : Met l yX6_ranked (.code yX6_ranked cX6_ranked 5 (some .int) :: gw_all) (rmk 4 160) (cPre E r0 [.ref (E.2.1 + 0), .int a1, .int a2]) (cI E (fun r ρ1 => (r = (-1)) ∧ ∀ k, 1076 ≤ k → ρ1 k = r0 k)) 0 0 (hA E) := by
  refine ent (own := RX6) (by decide) rfl (Nat.le_of_ble_eq_true rfl) ?_
  intro p e s m below meth c ls B hr hlk hl hP hS
  have hx := B.1.1
  have hb := B.1.2.1
  have hown := B.1.2.2.2.1
  have hts := B.1.2.2.2.2
  have hl : lv_has ls 5 [(0, .ref (E.2.1 + 0)), (1, .int a1), (2, .int a2)] := hl
  refine lv_aload_n hx hb dX6_ranked_0 rfl (lv_at hl 0 rfl) ?_
  refine get6 B hP (by decide +kernel) 0 (by decide) mw_412 rfl dX6_ranked_1 ?_
  refine lv_iload_n hx hb dX6_ranked_4 rfl (lv_at hl 1 rfl) ?_
  refine call_q (cVt (k := 1) (av := [.int a1]) (rest := []) B hP hS (c_netAt l E r0 1 a1 (by decide +kernel) (FrW_r0 (by decide +kernel))) lk_RX6_95 (hrecv (ci := 5) B hP (hk_lt (c := 5) (by decide +kernel) (by decide)) (hcc5 _ _ (by decide +kernel)) rfl) rfl rfl hl.1 (Nat.le_of_ble_eq_true rfl) ⟨Nat.le_of_ble_eq_true rfl, Nat.le_of_ble_eq_true rfl⟩ ⟨Nat.le_of_ble_eq_true rfl, Nat.le_of_ble_eq_true rfl⟩ dX6_ranked_5) hS (fun r1 ρ2 H locs q3 hP hS => ?_)
  obtain ⟨rfl, rfl⟩ := q3
  refine W.eq (g2 := F0 m 8 ls [.null]) rfl ?_
  refine lv_astore_nN (lv' := [(3, .null), (0, .ref (E.2.1 + 0)), (1, .int a1), (2, .int a2)]) hx hb dX6_ranked_8 rfl hl (by decide) rfl (fun ls hl => ?_)
  refine lv_aload_nN hx hb dX6_ranked_9 rfl (lv_at hl 0 rfl) ?_
  refine lv_ifnullN (tgt := 23) hx hb dX6_ranked_10 (by decide) ?_
  refine lv_iconst (v := (-1)) hx hb dX6_ranked_23 (by decide) ?_
  exact ret_i B hr hlk hP hS dX6_ranked_24 (⟨rfl, fun _ _ => rfl⟩)

set_option maxHeartbeats 4000000 in
set_option maxRecDepth 100000 in
theorem c_quiet (l : Launch) (E : hE) (a1 a2 : Int32) : Met l yX6_quiet (.code yX6_quiet cX6_quiet 6 (some .int) :: gw_all) (rmk 4 160) (cPre E r0 [.ref (E.2.1 + 0), .int a1, .int a2]) (cI E (fun r ρ1 => (r = (-1)) ∧ ∀ k, 1076 ≤ k → ρ1 k = r0 k)) 0 0 (hA E) := by
  refine ent (own := RX6) (by decide) rfl (Nat.le_of_ble_eq_true rfl) ?_
  intro p e s m below meth c ls B hr hlk hl hP hS
  have hx := B.1.1
  have hb := B.1.2.1
  have hown := B.1.2.2.2.1
  have hts := B.1.2.2.2.2
  have hl : lv_has ls 6 [(0, .ref (E.2.1 + 0)), (1, .int a1), (2, .int a2)] := hl
  refine lv_aload_n hx hb dX6_quiet_0 rfl (lv_at hl 0 rfl) ?_
  refine get6 B hP (by decide +kernel) 0 (by decide) mw_412 rfl dX6_quiet_1 ?_
  refine lv_iload_n hx hb dX6_quiet_4 rfl (lv_at hl 1 rfl) ?_
  refine call_q (cVt (k := 1) (av := [.int a1]) (rest := []) B hP hS (c_netAt l E r0 1 a1 (by decide +kernel) (FrW_r0 (by decide +kernel))) lk_RX6_95 (hrecv (ci := 5) B hP (hk_lt (c := 5) (by decide +kernel) (by decide)) (hcc5 _ _ (by decide +kernel)) rfl) rfl rfl hl.1 (Nat.le_of_ble_eq_true rfl) ⟨Nat.le_of_ble_eq_true rfl, Nat.le_of_ble_eq_true rfl⟩ ⟨Nat.le_of_ble_eq_true rfl, Nat.le_of_ble_eq_true rfl⟩ dX6_quiet_5) hS (fun r1 ρ2 H locs q3 hP hS => ?_)
  obtain ⟨rfl, rfl⟩ := q3
  refine W.eq (g2 := F0 m 8 ls [.null]) rfl ?_
  refine lv_astore_nN (lv' := [(3, .null), (0, .ref (E.2.1 + 0)), (1, .int a1), (2, .int a2)]) hx hb dX6_quiet_8 rfl hl (by decide) rfl (fun ls hl => ?_)
  refine lv_aload_nN hx hb dX6_quiet_9 rfl (lv_at hl 0 rfl) ?_
  refine lv_ifnullN (tgt := 24) hx hb dX6_quiet_10 (by decide) ?_
  refine lv_iconst (v := (-1)) hx hb dX6_quiet_24 (by decide) ?_
  exact ret_i B hr hlk hP hS dX6_quiet_25 (⟨rfl, fun _ _ => rfl⟩)

set_option maxHeartbeats 4000000 in
set_option maxRecDepth 100000 in
theorem c_ofNet (l : Launch) (E : hE) (a1 a2 : Int32) : Met l yX6_ofNet (.code yX6_ofNet cX6_ofNet 4 (some .int) :: gw_all) (rmk 4 160) (cPre E r0 [.ref (E.2.1 + 0), .int a1, .int a2]) (cI E (fun r ρ1 => (r = (-1)) ∧ ∀ k, 1076 ≤ k → ρ1 k = r0 k)) 0 0 (hA E) := by
  refine ent (own := RX6) (by decide) rfl (Nat.le_of_ble_eq_true rfl) ?_
  intro p e s m below meth c ls B hr hlk hl hP hS
  have hx := B.1.1
  have hb := B.1.2.1
  have hown := B.1.2.2.2.1
  have hts := B.1.2.2.2.2
  have hl : lv_has ls 4 [(0, .ref (E.2.1 + 0)), (1, .int a1), (2, .int a2)] := hl
  refine lv_aload_n hx hb dX6_ofNet_0 rfl (lv_at hl 0 rfl) ?_
  refine get6 B hP (by decide +kernel) 0 (by decide) mw_412 rfl dX6_ofNet_1 ?_
  refine lv_iload_n hx hb dX6_ofNet_4 rfl (lv_at hl 1 rfl) ?_
  refine call_q (cVt (k := 1) (av := [.int a1]) (rest := []) B hP hS (c_netAt l E r0 1 a1 (by decide +kernel) (FrW_r0 (by decide +kernel))) lk_RX6_95 (hrecv (ci := 5) B hP (hk_lt (c := 5) (by decide +kernel) (by decide)) (hcc5 _ _ (by decide +kernel)) rfl) rfl rfl hl.1 (Nat.le_of_ble_eq_true rfl) ⟨Nat.le_of_ble_eq_true rfl, Nat.le_of_ble_eq_true rfl⟩ ⟨Nat.le_of_ble_eq_true rfl, Nat.le_of_ble_eq_true rfl⟩ dX6_ofNet_5) hS (fun r1 ρ2 H locs q3 hP hS => ?_)
  obtain ⟨rfl, rfl⟩ := q3
  refine W.eq (g2 := F0 m 8 ls [.null]) rfl ?_
  refine lv_astore_nN (lv' := [(3, .null), (0, .ref (E.2.1 + 0)), (1, .int a1), (2, .int a2)]) hx hb dX6_ofNet_8 rfl hl (by decide) rfl (fun ls hl => ?_)
  refine lv_aload_nN hx hb dX6_ofNet_9 rfl (lv_at hl 0 rfl) ?_
  refine lv_ifnonnullN hx hb dX6_ofNet_10 ?_
  refine lv_iconst (v := (-1)) hx hb dX6_ofNet_13 (by decide) ?_
  exact ret_i B hr hlk hP hS dX6_ofNet_14 (⟨rfl, fun _ _ => rfl⟩)

set_option maxHeartbeats 4000000 in
set_option maxRecDepth 100000 in
theorem c_hash (l : Launch) (E : hE) (a1 a2 a3 : Int32) : Met l yX6_hash (.code yX6_hash cX6_hash 5 (some .int) :: gw_all) (rmk 4 160) (cPre E r0 [.ref (E.2.1 + 0), .int a1, .int a2, .int a3]) (cI E (fun r ρ1 => (r = 0) ∧ ∀ k, 1076 ≤ k → ρ1 k = r0 k)) 0 0 (hA E) := by
  refine ent (own := RX6) (by decide) rfl (Nat.le_of_ble_eq_true rfl) ?_
  intro p e s m below meth c ls B hr hlk hl hP hS
  have hx := B.1.1
  have hb := B.1.2.1
  have hown := B.1.2.2.2.1
  have hts := B.1.2.2.2.2
  have hl : lv_has ls 5 [(0, .ref (E.2.1 + 0)), (1, .int a1), (2, .int a2), (3, .int a3)] := hl
  refine lv_aload_n hx hb dX6_hash_0 rfl (lv_at hl 0 rfl) ?_
  refine get6 B hP (by decide +kernel) 0 (by decide) mw_412 rfl dX6_hash_1 ?_
  refine lv_iload_n hx hb dX6_hash_4 rfl (lv_at hl 1 rfl) ?_
  refine lv_iload_n hx hb dX6_hash_5 rfl (lv_at hl 2 rfl) ?_
  refine call_q (cVt (k := 1) (av := [.int a1, .int a2]) (rest := []) B hP hS (c_linkAt l E r0 1 a1 a2 (by decide +kernel) (FrW_r0 (by decide +kernel))) lk_RX6_132 (hrecv (ci := 5) B hP (hk_lt (c := 5) (by decide +kernel) (by decide)) (hcc5 _ _ (by decide +kernel)) rfl) rfl rfl hl.1 (Nat.le_of_ble_eq_true rfl) ⟨Nat.le_of_ble_eq_true rfl, Nat.le_of_ble_eq_true rfl⟩ ⟨Nat.le_of_ble_eq_true rfl, Nat.le_of_ble_eq_true rfl⟩ dX6_hash_6) hS (fun r1 ρ2 H locs q3 hP hS => ?_)
  obtain ⟨rfl, rfl⟩ := q3
  refine W.eq (g2 := F0 m 9 ls [.null]) rfl ?_
  refine lv_astoreN (lv' := [(4, .null), (0, .ref (E.2.1 + 0)), (1, .int a1), (2, .int a2), (3, .int a3)]) hx hb dX6_hash_9 hl (by decide) rfl (fun ls hl => ?_)
  refine lv_aloadN hx hb dX6_hash_11 (lv_at hl 0 rfl) ?_
  refine lv_ifnonnullN hx hb dX6_hash_13 ?_
  refine lv_iconst (v := 0) hx hb dX6_hash_16 (by decide) ?_
  exact ret_i B hr hlk hP hS dX6_hash_17 (⟨rfl, fun _ _ => rfl⟩)

set_option maxHeartbeats 4000000 in
set_option maxRecDepth 100000 in
theorem c_isThere (l : Launch) (E : hE) (a1 a2 a3 : Int32) : Met l yX6_isThere (.code yX6_isThere cX6_isThere 5 (some .int) :: gw_all) (rmk 4 160) (cPre E r0 [.ref (E.2.1 + 0), .int a1, .int a2, .int a3]) (cI E (fun r ρ1 => (r = (-1)) ∧ ∀ k, 1076 ≤ k → ρ1 k = r0 k)) 0 0 (hA E) := by
  refine ent (own := RX6) (by decide) rfl (Nat.le_of_ble_eq_true rfl) ?_
  intro p e s m below meth c ls B hr hlk hl hP hS
  have hx := B.1.1
  have hb := B.1.2.1
  have hown := B.1.2.2.2.1
  have hts := B.1.2.2.2.2
  have hl : lv_has ls 5 [(0, .ref (E.2.1 + 0)), (1, .int a1), (2, .int a2), (3, .int a3)] := hl
  refine lv_iload_n hx hb dX6_isThere_0 rfl (lv_at hl 2 rfl) ?_
  refine lv_iconst (v := 0) hx hb dX6_isThere_1 (by decide) ?_
  refine lv_iconst (v := 1) hx hb dX6_isThere_2 (by decide) ?_
  refine call_i (cS (av := [.int a2, .int 0, .int 1]) (rest := []) B hP hS (c_isWithin l E r0 a2 0 1 0 1 (by decide) (by decide)) lk_RX6_54 rfl rfl hl.1 (Nat.le_of_ble_eq_true rfl) ⟨Nat.le_of_ble_eq_true rfl, Nat.le_of_ble_eq_true rfl⟩ ⟨Nat.le_of_ble_eq_true rfl, Nat.le_of_ble_eq_true rfl⟩ dX6_isThere_3) hS (fun r1 ρ2 H locs q3 hP hS => ?_)
  obtain ⟨rfl, q3⟩ := q3
  rcases q3 with ⟨rfl, q3⟩ | ⟨rfl, q3⟩
  · skip
    refine lv_if_eq (tgt := 23) hx hb dX6_isThere_6 (by decide) (fun c4 => absurd c4 (by decide)) (fun _ => ?_)
    refine lv_iload_n hx hb dX6_isThere_9 rfl (lv_at hl 3 rfl) ?_
    refine lv_iconst (v := 0) hx hb dX6_isThere_10 (by decide) ?_
    refine lv_ldc (v := 199999) hx hb hown (hts _ mw_859) dX6_isThere_11 ?_
    refine call_i (cS (av := [.int a3, .int 0, .int 199999]) (rest := []) B hP hS (c_isWithin l E r0 a3 0 199999 0 199999 (by decide) (by decide)) lk_RX6_54 rfl rfl hl.1 (Nat.le_of_ble_eq_true rfl) ⟨Nat.le_of_ble_eq_true rfl, Nat.le_of_ble_eq_true rfl⟩ ⟨Nat.le_of_ble_eq_true rfl, Nat.le_of_ble_eq_true rfl⟩ dX6_isThere_13) hS (fun r5 ρ6 H locs q7 hP hS => ?_)
    obtain ⟨rfl, q7⟩ := q7
    rcases q7 with ⟨rfl, q7⟩ | ⟨rfl, q7⟩
    · skip
      refine lv_if_eq (tgt := 23) hx hb dX6_isThere_16 (by decide) (fun c8 => absurd c8 (by decide)) (fun _ => ?_)
      refine lv_iconst (v := 1) hx hb dX6_isThere_19 (by decide) ?_
      refine lv_goto (tgt := 24) hx hb dX6_isThere_20 (by decide) ?_
      refine lv_istore (lv' := [(4, .int 1), (0, .ref (E.2.1 + 0)), (1, .int a1), (2, .int a2), (3, .int a3)]) hx hb dX6_isThere_24 hl (by decide) rfl (fun ls hl => ?_)
      refine lv_iload hx hb dX6_isThere_26 (lv_at hl 0 rfl) ?_
      refine lv_if_eq (tgt := 42) hx hb dX6_isThere_28 (by decide) (fun c9 => absurd c9 (by decide)) (fun _ => ?_)
      refine lv_aload_n hx hb dX6_isThere_31 rfl (lv_at hl 1 rfl) ?_
      refine get6 B hP (by decide +kernel) 0 (by decide) mw_412 rfl dX6_isThere_32 ?_
      refine lv_iload_n hx hb dX6_isThere_35 rfl (lv_at hl 2 rfl) ?_
      refine call_i (cVt (k := 1) (av := [.int a1]) (rest := []) B hP hS (c_hasRadio l E r0 1 a1 (by decide +kernel) (show r0 1 4 = 0 by decide +kernel)) lk_RX6_76 (hrecv (ci := 5) B hP (hk_lt (c := 5) (by decide +kernel) (by decide)) (hcc5 _ _ (by decide +kernel)) rfl) rfl rfl hl.1 (Nat.le_of_ble_eq_true rfl) ⟨Nat.le_of_ble_eq_true rfl, Nat.le_of_ble_eq_true rfl⟩ ⟨Nat.le_of_ble_eq_true rfl, Nat.le_of_ble_eq_true rfl⟩ dX6_isThere_36) hS (fun r10 ρ11 H locs q12 hP hS => ?_)
      obtain ⟨rfl, rfl⟩ := q12
      refine lv_if_ne (tgt := 44) hx hb dX6_isThere_39 (by decide) (fun c13 => absurd c13 (by decide)) (fun _ => ?_)
      refine lv_iconst (v := (-1)) hx hb dX6_isThere_42 (by decide) ?_
      exact ret_i B hr hlk hP hS dX6_isThere_43 (⟨rfl, fun _ _ => rfl⟩)
    · skip
      refine lv_if_eq (tgt := 23) hx hb dX6_isThere_16 (by decide) (fun _ => ?_) (fun c14 => absurd c14 (by decide))
      refine lv_iconst (v := 0) hx hb dX6_isThere_23 (by decide) ?_
      refine lv_istore (lv' := [(4, .int 0), (0, .ref (E.2.1 + 0)), (1, .int a1), (2, .int a2), (3, .int a3)]) hx hb dX6_isThere_24 hl (by decide) rfl (fun ls hl => ?_)
      refine lv_iload hx hb dX6_isThere_26 (lv_at hl 0 rfl) ?_
      refine lv_if_eq (tgt := 42) hx hb dX6_isThere_28 (by decide) (fun _ => ?_) (fun c15 => absurd c15 (by decide))
      refine lv_iconst (v := (-1)) hx hb dX6_isThere_42 (by decide) ?_
      exact ret_i B hr hlk hP hS dX6_isThere_43 (⟨rfl, fun _ _ => rfl⟩)
  · skip
    refine lv_if_eq (tgt := 23) hx hb dX6_isThere_6 (by decide) (fun _ => ?_) (fun c16 => absurd c16 (by decide))
    refine lv_iconst (v := 0) hx hb dX6_isThere_23 (by decide) ?_
    refine lv_istore (lv' := [(4, .int 0), (0, .ref (E.2.1 + 0)), (1, .int a1), (2, .int a2), (3, .int a3)]) hx hb dX6_isThere_24 hl (by decide) rfl (fun ls hl => ?_)
    refine lv_iload hx hb dX6_isThere_26 (lv_at hl 0 rfl) ?_
    refine lv_if_eq (tgt := 42) hx hb dX6_isThere_28 (by decide) (fun _ => ?_) (fun c17 => absurd c17 (by decide))
    refine lv_iconst (v := (-1)) hx hb dX6_isThere_42 (by decide) ?_
    exact ret_i B hr hlk hP hS dX6_isThere_43 (⟨rfl, fun _ _ => rfl⟩)

set_option maxHeartbeats 4000000 in
set_option maxRecDepth 100000 in
theorem c_status (l : Launch) (E : hE)  : Met l yX6_status (.code yX6_status cX6_status 1 (some .int) :: gw_all) (rmk 4 160) (cPre E r0 [.ref (E.2.1 + 0)]) (cI E (fun r ρ1 => (r = 0) ∧ ∀ k, 1076 ≤ k → ρ1 k = r0 k)) 0 0 (hA E) := by
  refine ent (own := RX6) (by decide) rfl (Nat.le_of_ble_eq_true rfl) ?_
  intro p e s m below meth c ls B hr hlk hl hP hS
  have hx := B.1.1
  have hb := B.1.2.1
  have hown := B.1.2.2.2.1
  have hts := B.1.2.2.2.2
  have hl : lv_has ls 1 [(0, .ref (E.2.1 + 0))] := hl
  refine lv_aload_n hx hb dX6_status_0 rfl (lv_at hl 0 rfl) ?_
  refine get6 B hP (by decide +kernel) 9 (by decide) mw_421 (v := .int 0) (show some (Value.int (r0 0 9)) = some (Value.int 0) from congrArg (fun z => some (Value.int z)) (show r0 0 9 = 0 by decide +kernel)) dX6_status_1 ?_
  exact ret_i B hr hlk hP hS dX6_status_4 (⟨rfl, fun _ _ => rfl⟩)

theorem lk_RX6_382 : LkV RX6 382 RX5 yX5_heardOfAll cX5_heardOfAll 4 (some .int) 0 := ⟨⟨mw_1013, mw_1014, mw_1015, mw_53, mw_1016⟩, by decide +kernel⟩
set_option maxHeartbeats 4000000 in
set_option maxRecDepth 100000 in
theorem c_count (l : Launch) (E : hE) (a1 : Int32) : Met l yX6_count (.code yX6_count cX6_count 2 (some .int) :: gw_all) (rmk 4 160) (cPre E r0 [.ref (E.2.1 + 0), .int a1]) (cI E (fun r ρ1 => (r = cnt a1.toInt) ∧ ∀ k, 1076 ≤ k → ρ1 k = r0 k)) 0 0 (hA E) := by
  refine ent (own := RX6) (by decide) rfl (Nat.le_of_ble_eq_true rfl) ?_
  intro p e s m below meth c ls B hr hlk hl hP hS
  have hx := B.1.1
  have hb := B.1.2.1
  have hown := B.1.2.2.2.1
  have hts := B.1.2.2.2.2
  have hl : lv_has ls 2 [(0, .ref (E.2.1 + 0)), (1, .int a1)] := hl
  refine lv_iload_n hx hb dX6_count_0 rfl (lv_at hl 1 rfl) ?_
  rcases sw_split (x := a1) (lo := 0) (hi := 19) (by decide) with c1 | c1
  · skip
    refine lv_tableOut (tgt := 270) hx hb dX6_count_1 c1 (by decide) ?_
    refine lv_iconst (v := (-1)) hx hb dX6_count_270 (by decide) ?_
    exact ret_i B hr hlk hP hS dX6_count_271 (⟨cnt_out c1, fun _ _ => rfl⟩)
  · skip
    rcases sw_step (x := a1) (n := 0) (n' := 1) (by decide) c1 with c1 | c1
    · skip
      refine lv_tableIn (off := 95) (tgt := 96) hx hb dX6_count_1 (by rw [c1]; decide) (by rw [c1]; decide) (by rw [c1]; decide) (by decide) ?_
      refine lv_aload_n hx hb dX6_count_96 rfl (lv_at hl 0 rfl) ?_
      refine get6 B hP (by decide +kernel) 0 (by decide) mw_412 rfl dX6_count_97 ?_
      refine get5 B hP (by decide +kernel) 5 (by decide) mw_382 (v := .int 0) (show some (Value.int (r0 1 5)) = some (Value.int 0) from congrArg (fun z => some (Value.int z)) (show r0 1 5 = 0 by decide +kernel)) dX6_count_100 ?_
      exact ret_i B hr hlk hP hS dX6_count_103 (⟨(by rw [c1]; decide), fun _ _ => rfl⟩)
    · skip
      rcases sw_step (x := a1) (n := 1) (n' := 2) (by decide) c1 with c1 | c1
      · skip
        refine lv_tableIn (off := 103) (tgt := 104) hx hb dX6_count_1 (by rw [c1]; decide) (by rw [c1]; decide) (by rw [c1]; decide) (by decide) ?_
        refine lv_aload_n hx hb dX6_count_104 rfl (lv_at hl 0 rfl) ?_
        refine get6 B hP (by decide +kernel) 0 (by decide) mw_412 rfl dX6_count_105 ?_
        refine get5 B hP (by decide +kernel) 4 (by decide) mw_380 (v := .int 0) (show some (Value.int (r0 1 4)) = some (Value.int 0) from congrArg (fun z => some (Value.int z)) (show r0 1 4 = 0 by decide +kernel)) dX6_count_108 ?_
        exact ret_i B hr hlk hP hS dX6_count_111 (⟨(by rw [c1]; decide), fun _ _ => rfl⟩)
      · skip
        rcases sw_step (x := a1) (n := 2) (n' := 3) (by decide) c1 with c1 | c1
        · skip
          refine lv_tableIn (off := 111) (tgt := 112) hx hb dX6_count_1 (by rw [c1]; decide) (by rw [c1]; decide) (by rw [c1]; decide) (by decide) ?_
          refine lv_aload_n hx hb dX6_count_112 rfl (lv_at hl 0 rfl) ?_
          refine get6 B hP (by decide +kernel) 0 (by decide) mw_412 rfl dX6_count_113 ?_
          refine get5 B hP (by decide +kernel) 6 (by decide) mw_384 (v := .int 1) (show some (Value.int (r0 1 6)) = some (Value.int 1) from congrArg (fun z => some (Value.int z)) (show r0 1 6 = 1 by decide +kernel)) dX6_count_116 ?_
          exact ret_i B hr hlk hP hS dX6_count_119 (⟨(by rw [c1]; decide), fun _ _ => rfl⟩)
        · skip
          rcases sw_step (x := a1) (n := 3) (n' := 4) (by decide) c1 with c1 | c1
          · skip
            refine lv_tableIn (off := 119) (tgt := 120) hx hb dX6_count_1 (by rw [c1]; decide) (by rw [c1]; decide) (by rw [c1]; decide) (by decide) ?_
            refine lv_aload_n hx hb dX6_count_120 rfl (lv_at hl 0 rfl) ?_
            refine get6 B hP (by decide +kernel) 0 (by decide) mw_412 rfl dX6_count_121 ?_
            refine get5 B hP (by decide +kernel) 7 (by decide) mw_386 (v := .int 16) (show some (Value.int (r0 1 7)) = some (Value.int 16) from congrArg (fun z => some (Value.int z)) (show r0 1 7 = 16 by decide +kernel)) dX6_count_124 ?_
            exact ret_i B hr hlk hP hS dX6_count_127 (⟨(by rw [c1]; decide), fun _ _ => rfl⟩)
          · skip
            rcases sw_step (x := a1) (n := 4) (n' := 5) (by decide) c1 with c1 | c1
            · skip
              refine lv_tableIn (off := 127) (tgt := 128) hx hb dX6_count_1 (by rw [c1]; decide) (by rw [c1]; decide) (by rw [c1]; decide) (by decide) ?_
              refine lv_aload_n hx hb dX6_count_128 rfl (lv_at hl 0 rfl) ?_
              refine get6 B hP (by decide +kernel) 0 (by decide) mw_412 rfl dX6_count_129 ?_
              refine call_i (cVt (k := 1) (av := []) (rest := []) B hP hS (c_heardOfAll l E r0 1 (by decide +kernel) (FrW_r0 (by decide +kernel))) lk_RX6_382 (hrecv (ci := 5) B hP (hk_lt (c := 5) (by decide +kernel) (by decide)) (hcc5 _ _ (by decide +kernel)) rfl) rfl rfl hl.1 (Nat.le_of_ble_eq_true rfl) ⟨Nat.le_of_ble_eq_true rfl, Nat.le_of_ble_eq_true rfl⟩ ⟨Nat.le_of_ble_eq_true rfl, Nat.le_of_ble_eq_true rfl⟩ dX6_count_132) hS (fun r2 ρ3 H locs q4 hP hS => ?_)
              obtain ⟨rfl, rfl⟩ := q4
              exact ret_i B hr hlk hP hS dX6_count_135 (⟨(by rw [c1]; decide), fun _ _ => rfl⟩)
            · skip
              rcases sw_step (x := a1) (n := 5) (n' := 6) (by decide) c1 with c1 | c1
              · skip
                refine lv_tableIn (off := 135) (tgt := 136) hx hb dX6_count_1 (by rw [c1]; decide) (by rw [c1]; decide) (by rw [c1]; decide) (by decide) ?_
                refine lv_aload_n hx hb dX6_count_136 rfl (lv_at hl 0 rfl) ?_
                refine get6 B hP (by decide +kernel) 8 (by decide) mw_420 rfl dX6_count_137 ?_
                refine lv_iconst (v := 0) hx hb dX6_count_140 (by decide) ?_
                refine aldf (n := 5) (j := 0) (v := 0) B hP (by decide +kernel) (by decide +kernel) rfl (by decide) (by decide) (show r0 183 0 = 0 by decide +kernel) dX6_count_141 ?_
                exact ret_i B hr hlk hP hS dX6_count_142 (⟨(by rw [c1]; decide), fun _ _ => rfl⟩)
              · skip
                rcases sw_step (x := a1) (n := 6) (n' := 7) (by decide) c1 with c1 | c1
                · skip
                  refine lv_tableIn (off := 142) (tgt := 143) hx hb dX6_count_1 (by rw [c1]; decide) (by rw [c1]; decide) (by rw [c1]; decide) (by decide) ?_
                  refine lv_aload_n hx hb dX6_count_143 rfl (lv_at hl 0 rfl) ?_
                  refine get6 B hP (by decide +kernel) 8 (by decide) mw_420 rfl dX6_count_144 ?_
                  refine lv_iconst (v := 1) hx hb dX6_count_147 (by decide) ?_
                  refine aldf (n := 5) (j := 1) (v := 0) B hP (by decide +kernel) (by decide +kernel) rfl (by decide) (by decide) (show r0 183 1 = 0 by decide +kernel) dX6_count_148 ?_
                  exact ret_i B hr hlk hP hS dX6_count_149 (⟨(by rw [c1]; decide), fun _ _ => rfl⟩)
                · skip
                  rcases sw_step (x := a1) (n := 7) (n' := 8) (by decide) c1 with c1 | c1
                  · skip
                    refine lv_tableIn (off := 149) (tgt := 150) hx hb dX6_count_1 (by rw [c1]; decide) (by rw [c1]; decide) (by rw [c1]; decide) (by decide) ?_
                    refine lv_aload_n hx hb dX6_count_150 rfl (lv_at hl 0 rfl) ?_
                    refine get6 B hP (by decide +kernel) 8 (by decide) mw_420 rfl dX6_count_151 ?_
                    refine lv_iconst (v := 3) hx hb dX6_count_154 (by decide) ?_
                    refine aldf (n := 5) (j := 3) (v := 0) B hP (by decide +kernel) (by decide +kernel) rfl (by decide) (by decide) (show r0 183 3 = 0 by decide +kernel) dX6_count_155 ?_
                    exact ret_i B hr hlk hP hS dX6_count_156 (⟨(by rw [c1]; decide), fun _ _ => rfl⟩)
                  · skip
                    rcases sw_step (x := a1) (n := 8) (n' := 9) (by decide) c1 with c1 | c1
                    · skip
                      refine lv_tableIn (off := 156) (tgt := 157) hx hb dX6_count_1 (by rw [c1]; decide) (by rw [c1]; decide) (by rw [c1]; decide) (by decide) ?_
                      refine lv_aload_n hx hb dX6_count_157 rfl (lv_at hl 0 rfl) ?_
                      refine get6 B hP (by decide +kernel) 8 (by decide) mw_420 rfl dX6_count_158 ?_
                      refine lv_iconst (v := 4) hx hb dX6_count_161 (by decide) ?_
                      refine aldf (n := 5) (j := 4) (v := 0) B hP (by decide +kernel) (by decide +kernel) rfl (by decide) (by decide) (show r0 183 4 = 0 by decide +kernel) dX6_count_162 ?_
                      exact ret_i B hr hlk hP hS dX6_count_163 (⟨(by rw [c1]; decide), fun _ _ => rfl⟩)
                    · skip
                      rcases sw_step (x := a1) (n := 9) (n' := 10) (by decide) c1 with c1 | c1
                      · skip
                        refine lv_tableIn (off := 163) (tgt := 164) hx hb dX6_count_1 (by rw [c1]; decide) (by rw [c1]; decide) (by rw [c1]; decide) (by decide) ?_
                        refine lv_aload_n hx hb dX6_count_164 rfl (lv_at hl 0 rfl) ?_
                        refine get6 B hP (by decide +kernel) 7 (by decide) mw_419 (v := .int 0) (show some (Value.int (r0 0 7)) = some (Value.int 0) from congrArg (fun z => some (Value.int z)) (show r0 0 7 = 0 by decide +kernel)) dX6_count_165 ?_
                        exact ret_i B hr hlk hP hS dX6_count_168 (⟨(by rw [c1]; decide), fun _ _ => rfl⟩)
                      · skip
                        rcases sw_step (x := a1) (n := 10) (n' := 11) (by decide) c1 with c1 | c1
                        · skip
                          refine lv_tableIn (off := 168) (tgt := 169) hx hb dX6_count_1 (by rw [c1]; decide) (by rw [c1]; decide) (by rw [c1]; decide) (by decide) ?_
                          refine lv_aload_n hx hb dX6_count_169 rfl (lv_at hl 0 rfl) ?_
                          refine get6 B hP (by decide +kernel) 0 (by decide) mw_412 rfl dX6_count_170 ?_
                          refine get5 B hP (by decide +kernel) 2 (by decide) mw_376 rfl dX6_count_173 ?_
                          refine lv_iconst (v := 0) hx hb dX6_count_176 (by decide) ?_
                          refine aldf (n := 9) (j := 0) (v := 0) B hP (by decide +kernel) (by decide +kernel) rfl (by decide) (by decide) (show r0 4 0 = 0 by decide +kernel) dX6_count_177 ?_
                          exact ret_i B hr hlk hP hS dX6_count_178 (⟨(by rw [c1]; decide), fun _ _ => rfl⟩)
                        · skip
                          rcases sw_step (x := a1) (n := 11) (n' := 12) (by decide) c1 with c1 | c1
                          · skip
                            refine lv_tableIn (off := 178) (tgt := 179) hx hb dX6_count_1 (by rw [c1]; decide) (by rw [c1]; decide) (by rw [c1]; decide) (by decide) ?_
                            refine lv_aload_n hx hb dX6_count_179 rfl (lv_at hl 0 rfl) ?_
                            refine get6 B hP (by decide +kernel) 0 (by decide) mw_412 rfl dX6_count_180 ?_
                            refine get5 B hP (by decide +kernel) 2 (by decide) mw_376 rfl dX6_count_183 ?_
                            refine lv_iconst (v := 1) hx hb dX6_count_186 (by decide) ?_
                            refine aldf (n := 9) (j := 1) (v := 0) B hP (by decide +kernel) (by decide +kernel) rfl (by decide) (by decide) (show r0 4 1 = 0 by decide +kernel) dX6_count_187 ?_
                            exact ret_i B hr hlk hP hS dX6_count_188 (⟨(by rw [c1]; decide), fun _ _ => rfl⟩)
                          · skip
                            rcases sw_step (x := a1) (n := 12) (n' := 13) (by decide) c1 with c1 | c1
                            · skip
                              refine lv_tableIn (off := 188) (tgt := 189) hx hb dX6_count_1 (by rw [c1]; decide) (by rw [c1]; decide) (by rw [c1]; decide) (by decide) ?_
                              refine lv_aload_n hx hb dX6_count_189 rfl (lv_at hl 0 rfl) ?_
                              refine get6 B hP (by decide +kernel) 0 (by decide) mw_412 rfl dX6_count_190 ?_
                              refine get5 B hP (by decide +kernel) 2 (by decide) mw_376 rfl dX6_count_193 ?_
                              refine lv_iconst (v := 2) hx hb dX6_count_196 (by decide) ?_
                              refine aldf (n := 9) (j := 2) (v := 0) B hP (by decide +kernel) (by decide +kernel) rfl (by decide) (by decide) (show r0 4 2 = 0 by decide +kernel) dX6_count_197 ?_
                              exact ret_i B hr hlk hP hS dX6_count_198 (⟨(by rw [c1]; decide), fun _ _ => rfl⟩)
                            · skip
                              rcases sw_step (x := a1) (n := 13) (n' := 14) (by decide) c1 with c1 | c1
                              · skip
                                refine lv_tableIn (off := 198) (tgt := 199) hx hb dX6_count_1 (by rw [c1]; decide) (by rw [c1]; decide) (by rw [c1]; decide) (by decide) ?_
                                refine lv_aload_n hx hb dX6_count_199 rfl (lv_at hl 0 rfl) ?_
                                refine get6 B hP (by decide +kernel) 0 (by decide) mw_412 rfl dX6_count_200 ?_
                                refine get5 B hP (by decide +kernel) 2 (by decide) mw_376 rfl dX6_count_203 ?_
                                refine lv_iconst (v := 3) hx hb dX6_count_206 (by decide) ?_
                                refine aldf (n := 9) (j := 3) (v := 0) B hP (by decide +kernel) (by decide +kernel) rfl (by decide) (by decide) (show r0 4 3 = 0 by decide +kernel) dX6_count_207 ?_
                                exact ret_i B hr hlk hP hS dX6_count_208 (⟨(by rw [c1]; decide), fun _ _ => rfl⟩)
                              · skip
                                rcases sw_step (x := a1) (n := 14) (n' := 15) (by decide) c1 with c1 | c1
                                · skip
                                  refine lv_tableIn (off := 208) (tgt := 209) hx hb dX6_count_1 (by rw [c1]; decide) (by rw [c1]; decide) (by rw [c1]; decide) (by decide) ?_
                                  refine lv_aload_n hx hb dX6_count_209 rfl (lv_at hl 0 rfl) ?_
                                  refine get6 B hP (by decide +kernel) 0 (by decide) mw_412 rfl dX6_count_210 ?_
                                  refine get5 B hP (by decide +kernel) 2 (by decide) mw_376 rfl dX6_count_213 ?_
                                  refine lv_iconst (v := 4) hx hb dX6_count_216 (by decide) ?_
                                  refine aldf (n := 9) (j := 4) (v := 0) B hP (by decide +kernel) (by decide +kernel) rfl (by decide) (by decide) (show r0 4 4 = 0 by decide +kernel) dX6_count_217 ?_
                                  exact ret_i B hr hlk hP hS dX6_count_218 (⟨(by rw [c1]; decide), fun _ _ => rfl⟩)
                                · skip
                                  rcases sw_step (x := a1) (n := 15) (n' := 16) (by decide) c1 with c1 | c1
                                  · skip
                                    refine lv_tableIn (off := 218) (tgt := 219) hx hb dX6_count_1 (by rw [c1]; decide) (by rw [c1]; decide) (by rw [c1]; decide) (by decide) ?_
                                    refine lv_aload_n hx hb dX6_count_219 rfl (lv_at hl 0 rfl) ?_
                                    refine get6 B hP (by decide +kernel) 0 (by decide) mw_412 rfl dX6_count_220 ?_
                                    refine get5 B hP (by decide +kernel) 2 (by decide) mw_376 rfl dX6_count_223 ?_
                                    refine lv_iconst (v := 5) hx hb dX6_count_226 (by decide) ?_
                                    refine aldf (n := 9) (j := 5) (v := 0) B hP (by decide +kernel) (by decide +kernel) rfl (by decide) (by decide) (show r0 4 5 = 0 by decide +kernel) dX6_count_227 ?_
                                    exact ret_i B hr hlk hP hS dX6_count_228 (⟨(by rw [c1]; decide), fun _ _ => rfl⟩)
                                  · skip
                                    rcases sw_step (x := a1) (n := 16) (n' := 17) (by decide) c1 with c1 | c1
                                    · skip
                                      refine lv_tableIn (off := 228) (tgt := 229) hx hb dX6_count_1 (by rw [c1]; decide) (by rw [c1]; decide) (by rw [c1]; decide) (by decide) ?_
                                      refine lv_aload_n hx hb dX6_count_229 rfl (lv_at hl 0 rfl) ?_
                                      refine get6 B hP (by decide +kernel) 0 (by decide) mw_412 rfl dX6_count_230 ?_
                                      refine get5 B hP (by decide +kernel) 2 (by decide) mw_376 rfl dX6_count_233 ?_
                                      refine lv_bipush (v := 6) hx hb dX6_count_236 (by decide) ?_
                                      refine aldf (n := 9) (j := 6) (v := 0) B hP (by decide +kernel) (by decide +kernel) rfl (by decide) (by decide) (show r0 4 6 = 0 by decide +kernel) dX6_count_238 ?_
                                      exact ret_i B hr hlk hP hS dX6_count_239 (⟨(by rw [c1]; decide), fun _ _ => rfl⟩)
                                    · skip
                                      rcases sw_step (x := a1) (n := 17) (n' := 18) (by decide) c1 with c1 | c1
                                      · skip
                                        refine lv_tableIn (off := 239) (tgt := 240) hx hb dX6_count_1 (by rw [c1]; decide) (by rw [c1]; decide) (by rw [c1]; decide) (by decide) ?_
                                        refine lv_aload_n hx hb dX6_count_240 rfl (lv_at hl 0 rfl) ?_
                                        refine get6 B hP (by decide +kernel) 0 (by decide) mw_412 rfl dX6_count_241 ?_
                                        refine get5 B hP (by decide +kernel) 2 (by decide) mw_376 rfl dX6_count_244 ?_
                                        refine lv_bipush (v := 7) hx hb dX6_count_247 (by decide) ?_
                                        refine aldf (n := 9) (j := 7) (v := 0) B hP (by decide +kernel) (by decide +kernel) rfl (by decide) (by decide) (show r0 4 7 = 0 by decide +kernel) dX6_count_249 ?_
                                        exact ret_i B hr hlk hP hS dX6_count_250 (⟨(by rw [c1]; decide), fun _ _ => rfl⟩)
                                      · skip
                                        rcases sw_step (x := a1) (n := 18) (n' := 19) (by decide) c1 with c1 | c1
                                        · skip
                                          refine lv_tableIn (off := 250) (tgt := 251) hx hb dX6_count_1 (by rw [c1]; decide) (by rw [c1]; decide) (by rw [c1]; decide) (by decide) ?_
                                          refine lv_aload_n hx hb dX6_count_251 rfl (lv_at hl 0 rfl) ?_
                                          refine get6 B hP (by decide +kernel) 0 (by decide) mw_412 rfl dX6_count_252 ?_
                                          refine get5 B hP (by decide +kernel) 8 (by decide) mw_388 (v := .int 2) (show some (Value.int (r0 1 8)) = some (Value.int 2) from congrArg (fun z => some (Value.int z)) (show r0 1 8 = 2 by decide +kernel)) dX6_count_255 ?_
                                          exact ret_i B hr hlk hP hS dX6_count_258 (⟨(by rw [c1]; decide), fun _ _ => rfl⟩)
                                        · skip
                                          have c1 := sw_last (n := 19) c1
                                          refine lv_tableIn (off := 258) (tgt := 259) hx hb dX6_count_1 (by rw [c1]; decide) (by rw [c1]; decide) (by rw [c1]; decide) (by decide) ?_
                                          refine lv_aload_n hx hb dX6_count_259 rfl (lv_at hl 0 rfl) ?_
                                          refine get6 B hP (by decide +kernel) 0 (by decide) mw_412 rfl dX6_count_260 ?_
                                          refine get5 B hP (by decide +kernel) 2 (by decide) mw_376 rfl dX6_count_263 ?_
                                          refine lv_bipush (v := 8) hx hb dX6_count_266 (by decide) ?_
                                          refine aldf (n := 9) (j := 8) (v := 0) B hP (by decide +kernel) (by decide +kernel) rfl (by decide) (by decide) (show r0 4 8 = 0 by decide +kernel) dX6_count_268 ?_
                                          exact ret_i B hr hlk hP hS dX6_count_269 (⟨(by rw [c1]; decide), fun _ _ => rfl⟩)

set_option maxHeartbeats 4000000 in
set_option maxRecDepth 100000 in
theorem c_paperWith (l : Launch) (E : hE) (ρ : Nat → Nat → Int32) (a : Int32) (hB : BS ρ) : Met l yX6_paperWith (.code yX6_paperWith cX6_paperWith 2 (some (.object "HopNet$World")) :: gw_all) (rmk 3 120) (cPre E ρ [.ref (E.2.1 + 0), .int a]) (cQ E (fun r ρ1 => r = some (E.2.1 + 90) ∧ BS ρ1)) 0 0 (hA E) := by
  refine ent (own := RX6) (by decide) rfl (Nat.le_of_ble_eq_true rfl) ?_
  intro p e s m below meth c ls B hr hlk hl hP hS
  have hx := B.1.1
  have hb := B.1.2.1
  have hown := B.1.2.2.2.1
  have hts := B.1.2.2.2.2
  have hl : lv_has ls 2 [(0, .ref (E.2.1 + 0)), (1, .int a)] := hl
  refine lv_aload_n hx hb dX6_paperWith_0 rfl (lv_at hl 0 rfl) ?_
  refine get6 B hP (by decide +kernel) 1 (by decide) mw_413 rfl dX6_paperWith_1 ?_
  refine lv_aload_n hx hb dX6_paperWith_4 rfl (lv_at hl 0 rfl) ?_
  refine get6 B hP (by decide +kernel) 0 (by decide) mw_412 rfl dX6_paperWith_5 ?_
  refine call_v (cVt (k := 90) (av := [.ref (E.2.1 + 1)]) (rest := []) B hP hS (c_World_copyFrom l E ρ 90 1 (by decide +kernel) (by decide +kernel) (by decide) (fun r h0 h52 h10 j => by rw [hB (90 + r) (by omega), hB (1 + r) (by omega)]; exact congrFun (r0_ag (by decide +kernel) (by decide +kernel) h52 h10) j) ⟨by rw [hB _ (by decide)]; decide +kernel, by rw [hB _ (by decide)]; decide +kernel⟩) lk_RX6_219 (hrecv (ci := 5) B hP (hk_lt (c := 5) (by decide +kernel) (by decide)) (hcc5 _ _ (by decide +kernel)) rfl) rfl rfl hl.1 (Nat.le_of_ble_eq_true rfl) ⟨Nat.le_of_ble_eq_true rfl, Nat.le_of_ble_eq_true rfl⟩ ⟨Nat.le_of_ble_eq_true rfl, Nat.le_of_ble_eq_true rfl⟩ dX6_paperWith_8) hS (fun ρ2 H locs q3 hP hS => ?_)
  refine lv_aload_n hx hb dX6_paperWith_11 rfl (lv_at hl 0 rfl) ?_
  refine get6 B hP (by decide +kernel) 1 (by decide) mw_413 rfl dX6_paperWith_12 ?_
  refine lv_iload_n hx hb dX6_paperWith_15 rfl (lv_at hl 1 rfl) ?_
  refine put5 B hP hS (by decide +kernel) 7 (by decide) mw_386 rfl rfl rfl (fs5_7 E 90 _ _) dX6_paperWith_16 (fun H locs hP hS => ?_)
  obtain ⟨ρ4, e5⟩ : ∃ z, z = up ρ2 90 7 a := ⟨_, rfl⟩
  rw [← e5] at hP
  refine lv_aload_n hx hb dX6_paperWith_19 rfl (lv_at hl 0 rfl) ?_
  refine get6 B hP (by decide +kernel) 1 (by decide) mw_413 rfl dX6_paperWith_20 ?_
  exact ret_q (some (E.2.1 + 90)) B hr hlk hP hS dX6_paperWith_23 (⟨rfl, fun k hk => by rw [e5, up_ne _ _ _ hk, q3, cpw_ne hk]; exact hB k hk⟩)

theorem lk_RX6_342 : LkV RX6 342 RX6 yX6_paperWith cX6_paperWith 2 (some (.object "HopNet$World")) 1 := ⟨⟨mw_959, mw_961, mw_8, mw_52, mw_962⟩, by decide +kernel⟩
theorem lk_RX6_346 : LkV RX6 346 RX5 yX5_framesMissed cX5_framesMissed 4 (some .int) 0 := ⟨⟨mw_963, mw_964, mw_965, mw_53, mw_966⟩, by decide +kernel⟩
theorem lk_RX6_349 : LkV RX6 349 RX5 yX5_linksOfOtherMap cX5_linksOfOtherMap 4 (some .int) 0 := ⟨⟨mw_967, mw_968, mw_969, mw_53, mw_970⟩, by decide +kernel⟩
set_option maxHeartbeats 4000000 in
set_option maxRecDepth 100000 in
theorem c_would (l : Launch) (E : hE) (a1 a2 a3 : Int32) : Met l yX6_would (.code yX6_would cX6_would 6 (some .int) :: gw_all) (rmk 4 160) (cPre E r0 [.ref (E.2.1 + 0), .int a1, .int a2, .int a3]) (cI E (fun r ρ1 => ((((iR a1 0 32 ∧ ev a1) ∧ iR a2 1 200 ∧ iR a3 0 2) ∧ r = 0) ∨ (¬ ((iR a1 0 32 ∧ ev a1) ∧ iR a2 1 200 ∧ iR a3 0 2) ∧ r = -1)) ∧ ∀ k, 1076 ≤ k → ρ1 k = r0 k)) 0 0 (hA E) := by
  refine ent (own := RX6) (by decide) rfl (Nat.le_of_ble_eq_true rfl) ?_
  intro p e s m below meth c ls B hr hlk hl hP hS
  have hx := B.1.1
  have hb := B.1.2.1
  have hown := B.1.2.2.2.1
  have hts := B.1.2.2.2.2
  have hl : lv_has ls 6 [(0, .ref (E.2.1 + 0)), (1, .int a1), (2, .int a2), (3, .int a3)] := hl
  refine lv_iconst (v := 1) hx hb dX6_would_0 (by decide) ?_
  refine lv_iload_n hx hb dX6_would_1 rfl (lv_at hl 1 rfl) ?_
  refine call_i (cS (av := [.int 1, .int a1]) (rest := []) B hP hS (c_isTerm l E r0 1 a1) lk_RX6_119 rfl rfl hl.1 (Nat.le_of_ble_eq_true rfl) ⟨Nat.le_of_ble_eq_true rfl, Nat.le_of_ble_eq_true rfl⟩ ⟨Nat.le_of_ble_eq_true rfl, Nat.le_of_ble_eq_true rfl⟩ dX6_would_2) hS (fun r1 ρ2 H locs q3 hP hS => ?_)
  obtain ⟨rfl, q3⟩ := q3
  rcases q3 with ⟨rfl, q3⟩ | ⟨rfl, q3⟩
  · skip
    refine lv_if_eq (tgt := 32) hx hb dX6_would_5 (by decide) (fun c4 => absurd c4 (by decide)) (fun _ => ?_)
    refine lv_iload_n hx hb dX6_would_8 rfl (lv_at hl 2 rfl) ?_
    refine lv_iconst (v := 1) hx hb dX6_would_9 (by decide) ?_
    refine lv_sipush (v := 200) hx hb dX6_would_10 (by decide) ?_
    refine call_i (cS (av := [.int a2, .int 1, .int 200]) (rest := []) B hP hS (c_isWithin l E r0 a2 1 200 1 200 (by decide) (by decide)) lk_RX6_54 rfl rfl hl.1 (Nat.le_of_ble_eq_true rfl) ⟨Nat.le_of_ble_eq_true rfl, Nat.le_of_ble_eq_true rfl⟩ ⟨Nat.le_of_ble_eq_true rfl, Nat.le_of_ble_eq_true rfl⟩ dX6_would_13) hS (fun r5 ρ6 H locs q7 hP hS => ?_)
    obtain ⟨rfl, q7⟩ := q7
    rcases q7 with ⟨rfl, q7⟩ | ⟨rfl, q7⟩
    · skip
      have hn := q7
      obtain ⟨N, hN, rfl⟩ := iR_nat hn (by decide) (by decide)
      refine lv_if_eq (tgt := 32) hx hb dX6_would_16 (by decide) (fun c8 => absurd c8 (by decide)) (fun _ => ?_)
      refine lv_iload_n hx hb dX6_would_19 rfl (lv_at hl 3 rfl) ?_
      refine lv_iconst (v := 0) hx hb dX6_would_20 (by decide) ?_
      refine lv_iconst (v := 2) hx hb dX6_would_21 (by decide) ?_
      refine call_i (cS (av := [.int a3, .int 0, .int 2]) (rest := []) B hP hS (c_isWithin l E r0 a3 0 2 0 2 (by decide) (by decide)) lk_RX6_54 rfl rfl hl.1 (Nat.le_of_ble_eq_true rfl) ⟨Nat.le_of_ble_eq_true rfl, Nat.le_of_ble_eq_true rfl⟩ ⟨Nat.le_of_ble_eq_true rfl, Nat.le_of_ble_eq_true rfl⟩ dX6_would_22) hS (fun r9 ρ10 H locs q11 hP hS => ?_)
      obtain ⟨rfl, q11⟩ := q11
      rcases q11 with ⟨rfl, q11⟩ | ⟨rfl, q11⟩
      · skip
        refine lv_if_eq (tgt := 32) hx hb dX6_would_25 (by decide) (fun c12 => absurd c12 (by decide)) (fun _ => ?_)
        refine lv_iconst (v := 1) hx hb dX6_would_28 (by decide) ?_
        refine lv_goto (tgt := 33) hx hb dX6_would_29 (by decide) ?_
        refine lv_istore (lv' := [(4, .int 1), (0, .ref (E.2.1 + 0)), (1, .int a1), (2, .int (nI N)), (3, .int a3)]) hx hb dX6_would_33 hl (by decide) rfl (fun ls hl => ?_)
        refine lv_iload hx hb dX6_would_35 (lv_at hl 0 rfl) ?_
        refine lv_if_eq (tgt := 48) hx hb dX6_would_37 (by decide) (fun c13 => absurd c13 (by decide)) (fun _ => ?_)
        refine lv_aload_n hx hb dX6_would_40 rfl (lv_at hl 1 rfl) ?_
        refine lv_iload_n hx hb dX6_would_41 rfl (lv_at hl 3 rfl) ?_
        refine call_i (cVt (k := 0) (av := [.int (nI N)]) (rest := []) B hP hS (c_hasTimeFor l E r0 (nI N) (show r0 1 5 = 0 by decide +kernel) hn) lk_RX6_213 (hrecv (ci := 6) B hP (hk_lt (c := 6) (by decide +kernel) (by decide)) (hcc6 _ _ (by decide +kernel)) rfl) rfl rfl hl.1 (Nat.le_of_ble_eq_true rfl) ⟨Nat.le_of_ble_eq_true rfl, Nat.le_of_ble_eq_true rfl⟩ ⟨Nat.le_of_ble_eq_true rfl, Nat.le_of_ble_eq_true rfl⟩ dX6_would_42) hS (fun r14 ρ15 H locs q16 hP hS => ?_)
        obtain ⟨rfl, rfl⟩ := q16
        refine lv_if_ne (tgt := 50) hx hb dX6_would_45 (by decide) (fun _ => ?_) (fun c17 => absurd c17 (by decide))
        refine lv_aload_n hx hb dX6_would_50 rfl (lv_at hl 1 rfl) ?_
        refine lv_iload_n hx hb dX6_would_51 rfl (lv_at hl 2 rfl) ?_
        refine call_q (cVt (k := 0) (av := [.int a1]) (rest := []) B hP hS (c_paperWith l E r0 a1 BS_r0) lk_RX6_342 (hrecv (ci := 6) B hP (hk_lt (c := 6) (by decide +kernel) (by decide)) (hcc6 _ _ (by decide +kernel)) rfl) rfl rfl hl.1 (Nat.le_of_ble_eq_true rfl) ⟨Nat.le_of_ble_eq_true rfl, Nat.le_of_ble_eq_true rfl⟩ ⟨Nat.le_of_ble_eq_true rfl, Nat.le_of_ble_eq_true rfl⟩ dX6_would_52) hS (fun r18 ρ19 H locs q20 hP hS => ?_)
        obtain ⟨rfl, q20⟩ := q20
        have F21 : ∀ k, 1076 ≤ k → ρ19 k = r0 k := fun k hk => q20 k (by omega)
        refine W.eq (g2 := F0 m 55 ls [.ref (E.2.1 + 90)]) rfl ?_
        refine lv_iload_n hx hb dX6_would_55 rfl (lv_at hl 3 rfl) ?_
        refine call_i (cVt (k := 90) (av := [.int (nI N)]) (rest := []) B hP hS (c_heardInTurns l E ρ19 90 N (by decide +kernel) (q20).F90 (by omega)) lk_RX6_216 (hrecv (ci := 5) B hP (hk_lt (c := 5) (by decide +kernel) (by decide)) (hcc5 _ _ (by decide +kernel)) rfl) rfl rfl hl.1 (Nat.le_of_ble_eq_true rfl) ⟨Nat.le_of_ble_eq_true rfl, Nat.le_of_ble_eq_true rfl⟩ ⟨Nat.le_of_ble_eq_true rfl, Nat.le_of_ble_eq_true rfl⟩ dX6_would_56) hS (fun r22 ρ23 H locs q24 hP hS => ?_)
        obtain ⟨rfl, q24⟩ := q24
        have F25 : ∀ k, 1076 ≤ k → ρ23 k = r0 k := fun k hk => (q24 k (by omega)).trans (F21 k hk)
        have bq24 : BS ρ23 := fun k hk => (q24 k hk).trans (q20 k hk)
        refine lv_istore (lv' := [(5, .int 0), (4, .int 1), (0, .ref (E.2.1 + 0)), (1, .int a1), (2, .int (nI N)), (3, .int a3)]) hx hb dX6_would_59 hl (by decide) rfl (fun ls hl => ?_)
        refine lv_iload_n hx hb dX6_would_61 rfl (lv_at hl 5 rfl) ?_
        rcases Classical.em (a3.toInt = 0) with c26 | c26
        · skip
          refine lv_lookup (off := 26) (tgt := 88) hx hb dX6_would_62 (by decide) (by rw [c26]; rfl) (by decide) ?_
          refine lv_iload hx hb dX6_would_88 (lv_at hl 0 rfl) ?_
          exact ret_i B hr hlk hP hS dX6_would_90 (⟨Or.inl ⟨⟨tm1.mp q3, hn, q11⟩, rfl⟩, F25⟩)
        · skip
          rcases Classical.em (a3.toInt = 1) with c27 | c27
          · skip
            refine lv_lookup (off := 29) (tgt := 91) hx hb dX6_would_62 (by decide) (by rw [c27]; rfl) (by decide) ?_
            refine lv_aload_n hx hb dX6_would_91 rfl (lv_at hl 2 rfl) ?_
            refine get6 B hP (by decide +kernel) 1 (by decide) mw_413 rfl dX6_would_92 ?_
            refine call_i (cVt (k := 90) (av := []) (rest := []) B hP hS (c_framesMissed l E ρ23 90 (by decide +kernel) (bq24).F90) lk_RX6_346 (hrecv (ci := 5) B hP (hk_lt (c := 5) (by decide +kernel) (by decide)) (hcc5 _ _ (by decide +kernel)) rfl) rfl rfl hl.1 (Nat.le_of_ble_eq_true rfl) ⟨Nat.le_of_ble_eq_true rfl, Nat.le_of_ble_eq_true rfl⟩ ⟨Nat.le_of_ble_eq_true rfl, Nat.le_of_ble_eq_true rfl⟩ dX6_would_95) hS (fun r28 ρ29 H locs q30 hP hS => ?_)
            obtain ⟨rfl, rfl⟩ := q30
            refine lv_aload_n hx hb dX6_would_98 rfl (lv_at hl 2 rfl) ?_
            refine get6 B hP (by decide +kernel) 0 (by decide) mw_412 rfl dX6_would_99 ?_
            refine call_i (cVt (k := 1) (av := []) (rest := [.int 0]) B hP hS (c_framesMissed l E ρ23 1 (by decide +kernel) (bq24).F1) lk_RX6_346 (hrecv (ci := 5) B hP (hk_lt (c := 5) (by decide +kernel) (by decide)) (hcc5 _ _ (by decide +kernel)) rfl) rfl rfl hl.1 (Nat.le_of_ble_eq_true rfl) ⟨Nat.le_of_ble_eq_true rfl, Nat.le_of_ble_eq_true rfl⟩ ⟨Nat.le_of_ble_eq_true rfl, Nat.le_of_ble_eq_true rfl⟩ dX6_would_102) hS (fun r31 ρ32 H locs q33 hP hS => ?_)
            obtain ⟨rfl, rfl⟩ := q33
            refine lv_isub hx hb dX6_would_105 ?_
            refine lv_topi (fun z34 ez34 => ?_)
            obtain rfl : z34 = 0 := ez34.trans (by decide)
            exact ret_i B hr hlk hP hS dX6_would_106 (⟨Or.inl ⟨⟨tm1.mp q3, hn, q11⟩, rfl⟩, F25⟩)
          · skip
            refine lv_lookup (off := 45) (tgt := 107) hx hb dX6_would_62 (by decide) (by simp only [Op.lookupswitch.offset]; rw [if_neg (fun h => c26 h.symm), if_neg (fun h => c27 h.symm)]) (by decide) ?_
            refine lv_aload_n hx hb dX6_would_107 rfl (lv_at hl 2 rfl) ?_
            refine get6 B hP (by decide +kernel) 1 (by decide) mw_413 rfl dX6_would_108 ?_
            refine call_i (cVt (k := 90) (av := []) (rest := []) B hP hS (c_otherMap l E ρ23 90 (by decide +kernel) (bq24).F90) lk_RX6_349 (hrecv (ci := 5) B hP (hk_lt (c := 5) (by decide +kernel) (by decide)) (hcc5 _ _ (by decide +kernel)) rfl) rfl rfl hl.1 (Nat.le_of_ble_eq_true rfl) ⟨Nat.le_of_ble_eq_true rfl, Nat.le_of_ble_eq_true rfl⟩ ⟨Nat.le_of_ble_eq_true rfl, Nat.le_of_ble_eq_true rfl⟩ dX6_would_111) hS (fun r35 ρ36 H locs q37 hP hS => ?_)
            obtain ⟨rfl, rfl⟩ := q37
            exact ret_i B hr hlk hP hS dX6_would_114 (⟨Or.inl ⟨⟨tm1.mp q3, hn, q11⟩, rfl⟩, F25⟩)
      · skip
        refine lv_if_eq (tgt := 32) hx hb dX6_would_25 (by decide) (fun _ => ?_) (fun c38 => absurd c38 (by decide))
        refine lv_iconst (v := 0) hx hb dX6_would_32 (by decide) ?_
        refine lv_istore (lv' := [(4, .int 0), (0, .ref (E.2.1 + 0)), (1, .int a1), (2, .int (nI N)), (3, .int a3)]) hx hb dX6_would_33 hl (by decide) rfl (fun ls hl => ?_)
        refine lv_iload hx hb dX6_would_35 (lv_at hl 0 rfl) ?_
        refine lv_if_eq (tgt := 48) hx hb dX6_would_37 (by decide) (fun _ => ?_) (fun c39 => absurd c39 (by decide))
        refine lv_iconst (v := (-1)) hx hb dX6_would_48 (by decide) ?_
        exact ret_i B hr hlk hP hS dX6_would_49 (⟨Or.inr ⟨fun z => q11 z.2.2, rfl⟩, fun _ _ => rfl⟩)
    · skip
      refine lv_if_eq (tgt := 32) hx hb dX6_would_16 (by decide) (fun _ => ?_) (fun c40 => absurd c40 (by decide))
      refine lv_iconst (v := 0) hx hb dX6_would_32 (by decide) ?_
      refine lv_istore (lv' := [(4, .int 0), (0, .ref (E.2.1 + 0)), (1, .int a1), (2, .int a2), (3, .int a3)]) hx hb dX6_would_33 hl (by decide) rfl (fun ls hl => ?_)
      refine lv_iload hx hb dX6_would_35 (lv_at hl 0 rfl) ?_
      refine lv_if_eq (tgt := 48) hx hb dX6_would_37 (by decide) (fun _ => ?_) (fun c41 => absurd c41 (by decide))
      refine lv_iconst (v := (-1)) hx hb dX6_would_48 (by decide) ?_
      exact ret_i B hr hlk hP hS dX6_would_49 (⟨Or.inr ⟨fun z => q7 z.2.1, rfl⟩, fun _ _ => rfl⟩)
  · skip
    refine lv_if_eq (tgt := 32) hx hb dX6_would_5 (by decide) (fun _ => ?_) (fun c42 => absurd c42 (by decide))
    refine lv_iconst (v := 0) hx hb dX6_would_32 (by decide) ?_
    refine lv_istore (lv' := [(4, .int 0), (0, .ref (E.2.1 + 0)), (1, .int a1), (2, .int a2), (3, .int a3)]) hx hb dX6_would_33 hl (by decide) rfl (fun ls hl => ?_)
    refine lv_iload hx hb dX6_would_35 (lv_at hl 0 rfl) ?_
    refine lv_if_eq (tgt := 48) hx hb dX6_would_37 (by decide) (fun _ => ?_) (fun c43 => absurd c43 (by decide))
    refine lv_iconst (v := (-1)) hx hb dX6_would_48 (by decide) ?_
    exact ret_i B hr hlk hP hS dX6_would_49 (⟨Or.inr ⟨fun z => q3 (tm1.mpr z.1), rfl⟩, fun _ _ => rfl⟩)

set_option maxHeartbeats 4000000 in
set_option maxRecDepth 100000 in
theorem c_bestShare (l : Launch) (E : hE) (a1 : Int32) : Met l yX6_bestShare (.code yX6_bestShare cX6_bestShare 6 (some .int) :: gw_all) (rmk 4 160) (cPre E r0 [.ref (E.2.1 + 0), .int a1]) (cI E (fun r ρ1 => (((iR a1 1 32) ∧ r = 0) ∨ (¬ (iR a1 1 32) ∧ r = -1)) ∧ ∀ k, 1076 ≤ k → ρ1 k = r0 k)) 0 0 (hA E) := by
  refine ent (own := RX6) (by decide) rfl (Nat.le_of_ble_eq_true rfl) ?_
  intro p e s m below meth c ls B hr hlk hl hP hS
  have hx := B.1.1
  have hb := B.1.2.1
  have hown := B.1.2.2.2.1
  have hts := B.1.2.2.2.2
  have hl : lv_has ls 6 [(0, .ref (E.2.1 + 0)), (1, .int a1)] := hl
  refine lv_iload_n hx hb dX6_bestShare_0 rfl (lv_at hl 1 rfl) ?_
  refine lv_iconst (v := 1) hx hb dX6_bestShare_1 (by decide) ?_
  refine lv_bipush (v := 32) hx hb dX6_bestShare_2 (by decide) ?_
  refine call_i (cS (av := [.int a1, .int 1, .int 32]) (rest := []) B hP hS (c_isWithin l E r0 a1 1 32 1 32 (by decide) (by decide)) lk_RX6_54 rfl rfl hl.1 (Nat.le_of_ble_eq_true rfl) ⟨Nat.le_of_ble_eq_true rfl, Nat.le_of_ble_eq_true rfl⟩ ⟨Nat.le_of_ble_eq_true rfl, Nat.le_of_ble_eq_true rfl⟩ dX6_bestShare_4) hS (fun r1 ρ2 H locs q3 hP hS => ?_)
  obtain ⟨rfl, q3⟩ := q3
  rcases q3 with ⟨rfl, q3⟩ | ⟨rfl, q3⟩
  · skip
    have hn := q3
    obtain ⟨N, hN, rfl⟩ := iR_nat hn (by decide) (by decide)
    refine lv_if_eq (tgt := 18) hx hb dX6_bestShare_7 (by decide) (fun c4 => absurd c4 (by decide)) (fun _ => ?_)
    refine lv_aload_n hx hb dX6_bestShare_10 rfl (lv_at hl 0 rfl) ?_
    refine lv_iload_n hx hb dX6_bestShare_11 rfl (lv_at hl 1 rfl) ?_
    refine call_i (cVt (k := 0) (av := [.int (nI N)]) (rest := []) B hP hS (c_hasTimeFor l E r0 (nI N) (show r0 1 5 = 0 by decide +kernel) ⟨hn.1, by have := hn.2; omega⟩) lk_RX6_213 (hrecv (ci := 6) B hP (hk_lt (c := 6) (by decide +kernel) (by decide)) (hcc6 _ _ (by decide +kernel)) rfl) rfl rfl hl.1 (Nat.le_of_ble_eq_true rfl) ⟨Nat.le_of_ble_eq_true rfl, Nat.le_of_ble_eq_true rfl⟩ ⟨Nat.le_of_ble_eq_true rfl, Nat.le_of_ble_eq_true rfl⟩ dX6_bestShare_12) hS (fun r5 ρ6 H locs q7 hP hS => ?_)
    obtain ⟨rfl, rfl⟩ := q7
    refine lv_if_ne (tgt := 20) hx hb dX6_bestShare_15 (by decide) (fun _ => ?_) (fun c8 => absurd c8 (by decide))
    refine lv_iconst (v := 0) hx hb dX6_bestShare_20 (by decide) ?_
    refine lv_istore_n (lv' := [(2, .int 0), (0, .ref (E.2.1 + 0)), (1, .int (nI N))]) hx hb dX6_bestShare_21 rfl hl (by decide) rfl (fun ls hl => ?_)
    refine lv_iconst (v := (-1)) hx hb dX6_bestShare_22 (by decide) ?_
    refine lv_istore_n (lv' := [(3, .int (-1)), (2, .int 0), (0, .ref (E.2.1 + 0)), (1, .int (nI N))]) hx hb dX6_bestShare_23 rfl hl (by decide) rfl (fun ls hl => ?_)
    refine lv_iconst (v := 0) hx hb dX6_bestShare_24 (by decide) ?_
    refine lv_istore (lv' := [(4, .int 0), (3, .int (-1)), (2, .int 0), (0, .ref (E.2.1 + 0)), (1, .int (nI N))]) hx hb dX6_bestShare_25 hl (by decide) rfl (fun ls hl => ?_)
    refine lv_iload hx hb dX6_bestShare_27 (lv_at hl 0 rfl) ?_
    refine lv_bipush (v := 32) hx hb dX6_bestShare_29 (by decide) ?_
    refine lv_icmp_gt (tgt := 64) hx hb dX6_bestShare_31 (by decide) (fun c9 => absurd c9 (by decide)) (fun _ => ?_)
    refine lv_aload_n hx hb dX6_bestShare_34 rfl (lv_at hl 3 rfl) ?_
    refine lv_iload hx hb dX6_bestShare_35 (lv_at hl 0 rfl) ?_
    refine call_q (cVt (k := 0) (av := [.int 0]) (rest := []) B hP hS (c_paperWith l E r0 0 BS_r0) lk_RX6_342 (hrecv (ci := 6) B hP (hk_lt (c := 6) (by decide +kernel) (by decide)) (hcc6 _ _ (by decide +kernel)) rfl) rfl rfl hl.1 (Nat.le_of_ble_eq_true rfl) ⟨Nat.le_of_ble_eq_true rfl, Nat.le_of_ble_eq_true rfl⟩ ⟨Nat.le_of_ble_eq_true rfl, Nat.le_of_ble_eq_true rfl⟩ dX6_bestShare_37) hS (fun r10 ρ11 H locs q12 hP hS => ?_)
    obtain ⟨rfl, q12⟩ := q12
    have F13 : ∀ k, 1076 ≤ k → ρ11 k = r0 k := fun k hk => q12 k (by omega)
    refine W.eq (g2 := F0 m 40 ls [.ref (E.2.1 + 90)]) rfl ?_
    refine lv_iload_n hx hb dX6_bestShare_40 rfl (lv_at hl 4 rfl) ?_
    refine call_i (cVt (k := 90) (av := [.int (nI N)]) (rest := []) B hP hS (c_heardInTurns l E ρ11 90 N (by decide +kernel) (q12).F90 (by omega)) lk_RX6_216 (hrecv (ci := 5) B hP (hk_lt (c := 5) (by decide +kernel) (by decide)) (hcc5 _ _ (by decide +kernel)) rfl) rfl rfl hl.1 (Nat.le_of_ble_eq_true rfl) ⟨Nat.le_of_ble_eq_true rfl, Nat.le_of_ble_eq_true rfl⟩ ⟨Nat.le_of_ble_eq_true rfl, Nat.le_of_ble_eq_true rfl⟩ dX6_bestShare_41) hS (fun r14 ρ15 H locs q16 hP hS => ?_)
    obtain ⟨rfl, q16⟩ := q16
    have F17 : ∀ k, 1076 ≤ k → ρ15 k = r0 k := fun k hk => (q16 k (by omega)).trans (F13 k hk)
    have bq16 : BS ρ15 := fun k hk => (q16 k hk).trans (q12 k hk)
    refine lv_istore (lv' := [(5, .int 0), (4, .int 0), (3, .int (-1)), (2, .int 0), (0, .ref (E.2.1 + 0)), (1, .int (nI N))]) hx hb dX6_bestShare_44 hl (by decide) rfl (fun ls hl => ?_)
    refine lv_iload hx hb dX6_bestShare_46 (lv_at hl 0 rfl) ?_
    refine lv_iload_n hx hb dX6_bestShare_48 rfl (lv_at hl 2 rfl) ?_
    refine lv_icmp_le (tgt := 58) hx hb dX6_bestShare_49 (by decide) (fun c18 => absurd c18 (by decide)) (fun _ => ?_)
    refine lv_iload hx hb dX6_bestShare_52 (lv_at hl 0 rfl) ?_
    refine lv_istore_n (lv' := [(3, .int 0), (5, .int 0), (4, .int 0), (2, .int 0), (0, .ref (E.2.1 + 0)), (1, .int (nI N))]) hx hb dX6_bestShare_54 rfl hl (by decide) rfl (fun ls hl => ?_)
    refine lv_iload hx hb dX6_bestShare_55 (lv_at hl 2 rfl) ?_
    refine lv_istore_n (lv' := [(2, .int 0), (3, .int 0), (5, .int 0), (4, .int 0), (0, .ref (E.2.1 + 0)), (1, .int (nI N))]) hx hb dX6_bestShare_57 rfl hl (by decide) rfl (fun ls hl => ?_)
    refine lv_iinc (v := 2) (lv' := [(4, .int 2), (2, .int 0), (3, .int 0), (5, .int 0), (0, .ref (E.2.1 + 0)), (1, .int (nI N))]) hx hb dX6_bestShare_58 hl (k := 3) rfl (by decide) (by decide) rfl (fun ls hl => ?_)
    refine lv_goto (tgt := 27) hx hb dX6_bestShare_61 (by decide) ?_
    refine lv_iload hx hb dX6_bestShare_27 (lv_at hl 0 rfl) ?_
    refine lv_bipush (v := 32) hx hb dX6_bestShare_29 (by decide) ?_
    refine lv_icmp_gt (tgt := 64) hx hb dX6_bestShare_31 (by decide) (fun c19 => absurd c19 (by decide)) (fun _ => ?_)
    refine lv_aload_n hx hb dX6_bestShare_34 rfl (lv_at hl 4 rfl) ?_
    refine lv_iload hx hb dX6_bestShare_35 (lv_at hl 0 rfl) ?_
    refine call_q (cVt (k := 0) (av := [.int 2]) (rest := []) B hP hS (c_paperWith l E ρ15 2 bq16) lk_RX6_342 (hrecv (ci := 6) B hP (hk_lt (c := 6) (by decide +kernel) (by decide)) (hcc6 _ _ (by decide +kernel)) rfl) rfl rfl hl.1 (Nat.le_of_ble_eq_true rfl) ⟨Nat.le_of_ble_eq_true rfl, Nat.le_of_ble_eq_true rfl⟩ ⟨Nat.le_of_ble_eq_true rfl, Nat.le_of_ble_eq_true rfl⟩ dX6_bestShare_37) hS (fun r20 ρ21 H locs q22 hP hS => ?_)
    obtain ⟨rfl, q22⟩ := q22
    have F23 : ∀ k, 1076 ≤ k → ρ21 k = r0 k := fun k hk => q22 k (by omega)
    refine W.eq (g2 := F0 m 40 ls [.ref (E.2.1 + 90)]) rfl ?_
    refine lv_iload_n hx hb dX6_bestShare_40 rfl (lv_at hl 5 rfl) ?_
    refine call_i (cVt (k := 90) (av := [.int (nI N)]) (rest := []) B hP hS (c_heardInTurns l E ρ21 90 N (by decide +kernel) (q22).F90 (by omega)) lk_RX6_216 (hrecv (ci := 5) B hP (hk_lt (c := 5) (by decide +kernel) (by decide)) (hcc5 _ _ (by decide +kernel)) rfl) rfl rfl hl.1 (Nat.le_of_ble_eq_true rfl) ⟨Nat.le_of_ble_eq_true rfl, Nat.le_of_ble_eq_true rfl⟩ ⟨Nat.le_of_ble_eq_true rfl, Nat.le_of_ble_eq_true rfl⟩ dX6_bestShare_41) hS (fun r24 ρ25 H locs q26 hP hS => ?_)
    obtain ⟨rfl, q26⟩ := q26
    have F27 : ∀ k, 1076 ≤ k → ρ25 k = r0 k := fun k hk => (q26 k (by omega)).trans (F23 k hk)
    have bq26 : BS ρ25 := fun k hk => (q26 k hk).trans (q22 k hk)
    refine lv_istore (lv' := [(5, .int 0), (4, .int 2), (2, .int 0), (3, .int 0), (0, .ref (E.2.1 + 0)), (1, .int (nI N))]) hx hb dX6_bestShare_44 hl (by decide) rfl (fun ls hl => ?_)
    refine lv_iload hx hb dX6_bestShare_46 (lv_at hl 0 rfl) ?_
    refine lv_iload_n hx hb dX6_bestShare_48 rfl (lv_at hl 3 rfl) ?_
    refine lv_icmp_le (tgt := 58) hx hb dX6_bestShare_49 (by decide) (fun _ => ?_) (fun c28 => absurd c28 (by decide))
    refine lv_iinc (v := 4) (lv' := [(4, .int 4), (5, .int 0), (2, .int 0), (3, .int 0), (0, .ref (E.2.1 + 0)), (1, .int (nI N))]) hx hb dX6_bestShare_58 hl (k := 1) rfl (by decide) (by decide) rfl (fun ls hl => ?_)
    refine lv_goto (tgt := 27) hx hb dX6_bestShare_61 (by decide) ?_
    refine lv_iload hx hb dX6_bestShare_27 (lv_at hl 0 rfl) ?_
    refine lv_bipush (v := 32) hx hb dX6_bestShare_29 (by decide) ?_
    refine lv_icmp_gt (tgt := 64) hx hb dX6_bestShare_31 (by decide) (fun c29 => absurd c29 (by decide)) (fun _ => ?_)
    refine lv_aload_n hx hb dX6_bestShare_34 rfl (lv_at hl 4 rfl) ?_
    refine lv_iload hx hb dX6_bestShare_35 (lv_at hl 0 rfl) ?_
    refine call_q (cVt (k := 0) (av := [.int 4]) (rest := []) B hP hS (c_paperWith l E ρ25 4 bq26) lk_RX6_342 (hrecv (ci := 6) B hP (hk_lt (c := 6) (by decide +kernel) (by decide)) (hcc6 _ _ (by decide +kernel)) rfl) rfl rfl hl.1 (Nat.le_of_ble_eq_true rfl) ⟨Nat.le_of_ble_eq_true rfl, Nat.le_of_ble_eq_true rfl⟩ ⟨Nat.le_of_ble_eq_true rfl, Nat.le_of_ble_eq_true rfl⟩ dX6_bestShare_37) hS (fun r30 ρ31 H locs q32 hP hS => ?_)
    obtain ⟨rfl, q32⟩ := q32
    have F33 : ∀ k, 1076 ≤ k → ρ31 k = r0 k := fun k hk => q32 k (by omega)
    refine W.eq (g2 := F0 m 40 ls [.ref (E.2.1 + 90)]) rfl ?_
    refine lv_iload_n hx hb dX6_bestShare_40 rfl (lv_at hl 5 rfl) ?_
    refine call_i (cVt (k := 90) (av := [.int (nI N)]) (rest := []) B hP hS (c_heardInTurns l E ρ31 90 N (by decide +kernel) (q32).F90 (by omega)) lk_RX6_216 (hrecv (ci := 5) B hP (hk_lt (c := 5) (by decide +kernel) (by decide)) (hcc5 _ _ (by decide +kernel)) rfl) rfl rfl hl.1 (Nat.le_of_ble_eq_true rfl) ⟨Nat.le_of_ble_eq_true rfl, Nat.le_of_ble_eq_true rfl⟩ ⟨Nat.le_of_ble_eq_true rfl, Nat.le_of_ble_eq_true rfl⟩ dX6_bestShare_41) hS (fun r34 ρ35 H locs q36 hP hS => ?_)
    obtain ⟨rfl, q36⟩ := q36
    have F37 : ∀ k, 1076 ≤ k → ρ35 k = r0 k := fun k hk => (q36 k (by omega)).trans (F33 k hk)
    have bq36 : BS ρ35 := fun k hk => (q36 k hk).trans (q32 k hk)
    refine lv_istore (lv' := [(5, .int 0), (4, .int 4), (2, .int 0), (3, .int 0), (0, .ref (E.2.1 + 0)), (1, .int (nI N))]) hx hb dX6_bestShare_44 hl (by decide) rfl (fun ls hl => ?_)
    refine lv_iload hx hb dX6_bestShare_46 (lv_at hl 0 rfl) ?_
    refine lv_iload_n hx hb dX6_bestShare_48 rfl (lv_at hl 3 rfl) ?_
    refine lv_icmp_le (tgt := 58) hx hb dX6_bestShare_49 (by decide) (fun _ => ?_) (fun c38 => absurd c38 (by decide))
    refine lv_iinc (v := 6) (lv' := [(4, .int 6), (5, .int 0), (2, .int 0), (3, .int 0), (0, .ref (E.2.1 + 0)), (1, .int (nI N))]) hx hb dX6_bestShare_58 hl (k := 1) rfl (by decide) (by decide) rfl (fun ls hl => ?_)
    refine lv_goto (tgt := 27) hx hb dX6_bestShare_61 (by decide) ?_
    refine lv_iload hx hb dX6_bestShare_27 (lv_at hl 0 rfl) ?_
    refine lv_bipush (v := 32) hx hb dX6_bestShare_29 (by decide) ?_
    refine lv_icmp_gt (tgt := 64) hx hb dX6_bestShare_31 (by decide) (fun c39 => absurd c39 (by decide)) (fun _ => ?_)
    refine lv_aload_n hx hb dX6_bestShare_34 rfl (lv_at hl 4 rfl) ?_
    refine lv_iload hx hb dX6_bestShare_35 (lv_at hl 0 rfl) ?_
    refine call_q (cVt (k := 0) (av := [.int 6]) (rest := []) B hP hS (c_paperWith l E ρ35 6 bq36) lk_RX6_342 (hrecv (ci := 6) B hP (hk_lt (c := 6) (by decide +kernel) (by decide)) (hcc6 _ _ (by decide +kernel)) rfl) rfl rfl hl.1 (Nat.le_of_ble_eq_true rfl) ⟨Nat.le_of_ble_eq_true rfl, Nat.le_of_ble_eq_true rfl⟩ ⟨Nat.le_of_ble_eq_true rfl, Nat.le_of_ble_eq_true rfl⟩ dX6_bestShare_37) hS (fun r40 ρ41 H locs q42 hP hS => ?_)
    obtain ⟨rfl, q42⟩ := q42
    have F43 : ∀ k, 1076 ≤ k → ρ41 k = r0 k := fun k hk => q42 k (by omega)
    refine W.eq (g2 := F0 m 40 ls [.ref (E.2.1 + 90)]) rfl ?_
    refine lv_iload_n hx hb dX6_bestShare_40 rfl (lv_at hl 5 rfl) ?_
    refine call_i (cVt (k := 90) (av := [.int (nI N)]) (rest := []) B hP hS (c_heardInTurns l E ρ41 90 N (by decide +kernel) (q42).F90 (by omega)) lk_RX6_216 (hrecv (ci := 5) B hP (hk_lt (c := 5) (by decide +kernel) (by decide)) (hcc5 _ _ (by decide +kernel)) rfl) rfl rfl hl.1 (Nat.le_of_ble_eq_true rfl) ⟨Nat.le_of_ble_eq_true rfl, Nat.le_of_ble_eq_true rfl⟩ ⟨Nat.le_of_ble_eq_true rfl, Nat.le_of_ble_eq_true rfl⟩ dX6_bestShare_41) hS (fun r44 ρ45 H locs q46 hP hS => ?_)
    obtain ⟨rfl, q46⟩ := q46
    have F47 : ∀ k, 1076 ≤ k → ρ45 k = r0 k := fun k hk => (q46 k (by omega)).trans (F43 k hk)
    have bq46 : BS ρ45 := fun k hk => (q46 k hk).trans (q42 k hk)
    refine lv_istore (lv' := [(5, .int 0), (4, .int 6), (2, .int 0), (3, .int 0), (0, .ref (E.2.1 + 0)), (1, .int (nI N))]) hx hb dX6_bestShare_44 hl (by decide) rfl (fun ls hl => ?_)
    refine lv_iload hx hb dX6_bestShare_46 (lv_at hl 0 rfl) ?_
    refine lv_iload_n hx hb dX6_bestShare_48 rfl (lv_at hl 3 rfl) ?_
    refine lv_icmp_le (tgt := 58) hx hb dX6_bestShare_49 (by decide) (fun _ => ?_) (fun c48 => absurd c48 (by decide))
    refine lv_iinc (v := 8) (lv' := [(4, .int 8), (5, .int 0), (2, .int 0), (3, .int 0), (0, .ref (E.2.1 + 0)), (1, .int (nI N))]) hx hb dX6_bestShare_58 hl (k := 1) rfl (by decide) (by decide) rfl (fun ls hl => ?_)
    refine lv_goto (tgt := 27) hx hb dX6_bestShare_61 (by decide) ?_
    refine lv_iload hx hb dX6_bestShare_27 (lv_at hl 0 rfl) ?_
    refine lv_bipush (v := 32) hx hb dX6_bestShare_29 (by decide) ?_
    refine lv_icmp_gt (tgt := 64) hx hb dX6_bestShare_31 (by decide) (fun c49 => absurd c49 (by decide)) (fun _ => ?_)
    refine lv_aload_n hx hb dX6_bestShare_34 rfl (lv_at hl 4 rfl) ?_
    refine lv_iload hx hb dX6_bestShare_35 (lv_at hl 0 rfl) ?_
    refine call_q (cVt (k := 0) (av := [.int 8]) (rest := []) B hP hS (c_paperWith l E ρ45 8 bq46) lk_RX6_342 (hrecv (ci := 6) B hP (hk_lt (c := 6) (by decide +kernel) (by decide)) (hcc6 _ _ (by decide +kernel)) rfl) rfl rfl hl.1 (Nat.le_of_ble_eq_true rfl) ⟨Nat.le_of_ble_eq_true rfl, Nat.le_of_ble_eq_true rfl⟩ ⟨Nat.le_of_ble_eq_true rfl, Nat.le_of_ble_eq_true rfl⟩ dX6_bestShare_37) hS (fun r50 ρ51 H locs q52 hP hS => ?_)
    obtain ⟨rfl, q52⟩ := q52
    have F53 : ∀ k, 1076 ≤ k → ρ51 k = r0 k := fun k hk => q52 k (by omega)
    refine W.eq (g2 := F0 m 40 ls [.ref (E.2.1 + 90)]) rfl ?_
    refine lv_iload_n hx hb dX6_bestShare_40 rfl (lv_at hl 5 rfl) ?_
    refine call_i (cVt (k := 90) (av := [.int (nI N)]) (rest := []) B hP hS (c_heardInTurns l E ρ51 90 N (by decide +kernel) (q52).F90 (by omega)) lk_RX6_216 (hrecv (ci := 5) B hP (hk_lt (c := 5) (by decide +kernel) (by decide)) (hcc5 _ _ (by decide +kernel)) rfl) rfl rfl hl.1 (Nat.le_of_ble_eq_true rfl) ⟨Nat.le_of_ble_eq_true rfl, Nat.le_of_ble_eq_true rfl⟩ ⟨Nat.le_of_ble_eq_true rfl, Nat.le_of_ble_eq_true rfl⟩ dX6_bestShare_41) hS (fun r54 ρ55 H locs q56 hP hS => ?_)
    obtain ⟨rfl, q56⟩ := q56
    have F57 : ∀ k, 1076 ≤ k → ρ55 k = r0 k := fun k hk => (q56 k (by omega)).trans (F53 k hk)
    have bq56 : BS ρ55 := fun k hk => (q56 k hk).trans (q52 k hk)
    refine lv_istore (lv' := [(5, .int 0), (4, .int 8), (2, .int 0), (3, .int 0), (0, .ref (E.2.1 + 0)), (1, .int (nI N))]) hx hb dX6_bestShare_44 hl (by decide) rfl (fun ls hl => ?_)
    refine lv_iload hx hb dX6_bestShare_46 (lv_at hl 0 rfl) ?_
    refine lv_iload_n hx hb dX6_bestShare_48 rfl (lv_at hl 3 rfl) ?_
    refine lv_icmp_le (tgt := 58) hx hb dX6_bestShare_49 (by decide) (fun _ => ?_) (fun c58 => absurd c58 (by decide))
    refine lv_iinc (v := 10) (lv' := [(4, .int 10), (5, .int 0), (2, .int 0), (3, .int 0), (0, .ref (E.2.1 + 0)), (1, .int (nI N))]) hx hb dX6_bestShare_58 hl (k := 1) rfl (by decide) (by decide) rfl (fun ls hl => ?_)
    refine lv_goto (tgt := 27) hx hb dX6_bestShare_61 (by decide) ?_
    refine lv_iload hx hb dX6_bestShare_27 (lv_at hl 0 rfl) ?_
    refine lv_bipush (v := 32) hx hb dX6_bestShare_29 (by decide) ?_
    refine lv_icmp_gt (tgt := 64) hx hb dX6_bestShare_31 (by decide) (fun c59 => absurd c59 (by decide)) (fun _ => ?_)
    refine lv_aload_n hx hb dX6_bestShare_34 rfl (lv_at hl 4 rfl) ?_
    refine lv_iload hx hb dX6_bestShare_35 (lv_at hl 0 rfl) ?_
    refine call_q (cVt (k := 0) (av := [.int 10]) (rest := []) B hP hS (c_paperWith l E ρ55 10 bq56) lk_RX6_342 (hrecv (ci := 6) B hP (hk_lt (c := 6) (by decide +kernel) (by decide)) (hcc6 _ _ (by decide +kernel)) rfl) rfl rfl hl.1 (Nat.le_of_ble_eq_true rfl) ⟨Nat.le_of_ble_eq_true rfl, Nat.le_of_ble_eq_true rfl⟩ ⟨Nat.le_of_ble_eq_true rfl, Nat.le_of_ble_eq_true rfl⟩ dX6_bestShare_37) hS (fun r60 ρ61 H locs q62 hP hS => ?_)
    obtain ⟨rfl, q62⟩ := q62
    have F63 : ∀ k, 1076 ≤ k → ρ61 k = r0 k := fun k hk => q62 k (by omega)
    refine W.eq (g2 := F0 m 40 ls [.ref (E.2.1 + 90)]) rfl ?_
    refine lv_iload_n hx hb dX6_bestShare_40 rfl (lv_at hl 5 rfl) ?_
    refine call_i (cVt (k := 90) (av := [.int (nI N)]) (rest := []) B hP hS (c_heardInTurns l E ρ61 90 N (by decide +kernel) (q62).F90 (by omega)) lk_RX6_216 (hrecv (ci := 5) B hP (hk_lt (c := 5) (by decide +kernel) (by decide)) (hcc5 _ _ (by decide +kernel)) rfl) rfl rfl hl.1 (Nat.le_of_ble_eq_true rfl) ⟨Nat.le_of_ble_eq_true rfl, Nat.le_of_ble_eq_true rfl⟩ ⟨Nat.le_of_ble_eq_true rfl, Nat.le_of_ble_eq_true rfl⟩ dX6_bestShare_41) hS (fun r64 ρ65 H locs q66 hP hS => ?_)
    obtain ⟨rfl, q66⟩ := q66
    have F67 : ∀ k, 1076 ≤ k → ρ65 k = r0 k := fun k hk => (q66 k (by omega)).trans (F63 k hk)
    have bq66 : BS ρ65 := fun k hk => (q66 k hk).trans (q62 k hk)
    refine lv_istore (lv' := [(5, .int 0), (4, .int 10), (2, .int 0), (3, .int 0), (0, .ref (E.2.1 + 0)), (1, .int (nI N))]) hx hb dX6_bestShare_44 hl (by decide) rfl (fun ls hl => ?_)
    refine lv_iload hx hb dX6_bestShare_46 (lv_at hl 0 rfl) ?_
    refine lv_iload_n hx hb dX6_bestShare_48 rfl (lv_at hl 3 rfl) ?_
    refine lv_icmp_le (tgt := 58) hx hb dX6_bestShare_49 (by decide) (fun _ => ?_) (fun c68 => absurd c68 (by decide))
    refine lv_iinc (v := 12) (lv' := [(4, .int 12), (5, .int 0), (2, .int 0), (3, .int 0), (0, .ref (E.2.1 + 0)), (1, .int (nI N))]) hx hb dX6_bestShare_58 hl (k := 1) rfl (by decide) (by decide) rfl (fun ls hl => ?_)
    refine lv_goto (tgt := 27) hx hb dX6_bestShare_61 (by decide) ?_
    refine lv_iload hx hb dX6_bestShare_27 (lv_at hl 0 rfl) ?_
    refine lv_bipush (v := 32) hx hb dX6_bestShare_29 (by decide) ?_
    refine lv_icmp_gt (tgt := 64) hx hb dX6_bestShare_31 (by decide) (fun c69 => absurd c69 (by decide)) (fun _ => ?_)
    refine lv_aload_n hx hb dX6_bestShare_34 rfl (lv_at hl 4 rfl) ?_
    refine lv_iload hx hb dX6_bestShare_35 (lv_at hl 0 rfl) ?_
    refine call_q (cVt (k := 0) (av := [.int 12]) (rest := []) B hP hS (c_paperWith l E ρ65 12 bq66) lk_RX6_342 (hrecv (ci := 6) B hP (hk_lt (c := 6) (by decide +kernel) (by decide)) (hcc6 _ _ (by decide +kernel)) rfl) rfl rfl hl.1 (Nat.le_of_ble_eq_true rfl) ⟨Nat.le_of_ble_eq_true rfl, Nat.le_of_ble_eq_true rfl⟩ ⟨Nat.le_of_ble_eq_true rfl, Nat.le_of_ble_eq_true rfl⟩ dX6_bestShare_37) hS (fun r70 ρ71 H locs q72 hP hS => ?_)
    obtain ⟨rfl, q72⟩ := q72
    have F73 : ∀ k, 1076 ≤ k → ρ71 k = r0 k := fun k hk => q72 k (by omega)
    refine W.eq (g2 := F0 m 40 ls [.ref (E.2.1 + 90)]) rfl ?_
    refine lv_iload_n hx hb dX6_bestShare_40 rfl (lv_at hl 5 rfl) ?_
    refine call_i (cVt (k := 90) (av := [.int (nI N)]) (rest := []) B hP hS (c_heardInTurns l E ρ71 90 N (by decide +kernel) (q72).F90 (by omega)) lk_RX6_216 (hrecv (ci := 5) B hP (hk_lt (c := 5) (by decide +kernel) (by decide)) (hcc5 _ _ (by decide +kernel)) rfl) rfl rfl hl.1 (Nat.le_of_ble_eq_true rfl) ⟨Nat.le_of_ble_eq_true rfl, Nat.le_of_ble_eq_true rfl⟩ ⟨Nat.le_of_ble_eq_true rfl, Nat.le_of_ble_eq_true rfl⟩ dX6_bestShare_41) hS (fun r74 ρ75 H locs q76 hP hS => ?_)
    obtain ⟨rfl, q76⟩ := q76
    have F77 : ∀ k, 1076 ≤ k → ρ75 k = r0 k := fun k hk => (q76 k (by omega)).trans (F73 k hk)
    have bq76 : BS ρ75 := fun k hk => (q76 k hk).trans (q72 k hk)
    refine lv_istore (lv' := [(5, .int 0), (4, .int 12), (2, .int 0), (3, .int 0), (0, .ref (E.2.1 + 0)), (1, .int (nI N))]) hx hb dX6_bestShare_44 hl (by decide) rfl (fun ls hl => ?_)
    refine lv_iload hx hb dX6_bestShare_46 (lv_at hl 0 rfl) ?_
    refine lv_iload_n hx hb dX6_bestShare_48 rfl (lv_at hl 3 rfl) ?_
    refine lv_icmp_le (tgt := 58) hx hb dX6_bestShare_49 (by decide) (fun _ => ?_) (fun c78 => absurd c78 (by decide))
    refine lv_iinc (v := 14) (lv' := [(4, .int 14), (5, .int 0), (2, .int 0), (3, .int 0), (0, .ref (E.2.1 + 0)), (1, .int (nI N))]) hx hb dX6_bestShare_58 hl (k := 1) rfl (by decide) (by decide) rfl (fun ls hl => ?_)
    refine lv_goto (tgt := 27) hx hb dX6_bestShare_61 (by decide) ?_
    refine lv_iload hx hb dX6_bestShare_27 (lv_at hl 0 rfl) ?_
    refine lv_bipush (v := 32) hx hb dX6_bestShare_29 (by decide) ?_
    refine lv_icmp_gt (tgt := 64) hx hb dX6_bestShare_31 (by decide) (fun c79 => absurd c79 (by decide)) (fun _ => ?_)
    refine lv_aload_n hx hb dX6_bestShare_34 rfl (lv_at hl 4 rfl) ?_
    refine lv_iload hx hb dX6_bestShare_35 (lv_at hl 0 rfl) ?_
    refine call_q (cVt (k := 0) (av := [.int 14]) (rest := []) B hP hS (c_paperWith l E ρ75 14 bq76) lk_RX6_342 (hrecv (ci := 6) B hP (hk_lt (c := 6) (by decide +kernel) (by decide)) (hcc6 _ _ (by decide +kernel)) rfl) rfl rfl hl.1 (Nat.le_of_ble_eq_true rfl) ⟨Nat.le_of_ble_eq_true rfl, Nat.le_of_ble_eq_true rfl⟩ ⟨Nat.le_of_ble_eq_true rfl, Nat.le_of_ble_eq_true rfl⟩ dX6_bestShare_37) hS (fun r80 ρ81 H locs q82 hP hS => ?_)
    obtain ⟨rfl, q82⟩ := q82
    have F83 : ∀ k, 1076 ≤ k → ρ81 k = r0 k := fun k hk => q82 k (by omega)
    refine W.eq (g2 := F0 m 40 ls [.ref (E.2.1 + 90)]) rfl ?_
    refine lv_iload_n hx hb dX6_bestShare_40 rfl (lv_at hl 5 rfl) ?_
    refine call_i (cVt (k := 90) (av := [.int (nI N)]) (rest := []) B hP hS (c_heardInTurns l E ρ81 90 N (by decide +kernel) (q82).F90 (by omega)) lk_RX6_216 (hrecv (ci := 5) B hP (hk_lt (c := 5) (by decide +kernel) (by decide)) (hcc5 _ _ (by decide +kernel)) rfl) rfl rfl hl.1 (Nat.le_of_ble_eq_true rfl) ⟨Nat.le_of_ble_eq_true rfl, Nat.le_of_ble_eq_true rfl⟩ ⟨Nat.le_of_ble_eq_true rfl, Nat.le_of_ble_eq_true rfl⟩ dX6_bestShare_41) hS (fun r84 ρ85 H locs q86 hP hS => ?_)
    obtain ⟨rfl, q86⟩ := q86
    have F87 : ∀ k, 1076 ≤ k → ρ85 k = r0 k := fun k hk => (q86 k (by omega)).trans (F83 k hk)
    have bq86 : BS ρ85 := fun k hk => (q86 k hk).trans (q82 k hk)
    refine lv_istore (lv' := [(5, .int 0), (4, .int 14), (2, .int 0), (3, .int 0), (0, .ref (E.2.1 + 0)), (1, .int (nI N))]) hx hb dX6_bestShare_44 hl (by decide) rfl (fun ls hl => ?_)
    refine lv_iload hx hb dX6_bestShare_46 (lv_at hl 0 rfl) ?_
    refine lv_iload_n hx hb dX6_bestShare_48 rfl (lv_at hl 3 rfl) ?_
    refine lv_icmp_le (tgt := 58) hx hb dX6_bestShare_49 (by decide) (fun _ => ?_) (fun c88 => absurd c88 (by decide))
    refine lv_iinc (v := 16) (lv' := [(4, .int 16), (5, .int 0), (2, .int 0), (3, .int 0), (0, .ref (E.2.1 + 0)), (1, .int (nI N))]) hx hb dX6_bestShare_58 hl (k := 1) rfl (by decide) (by decide) rfl (fun ls hl => ?_)
    refine lv_goto (tgt := 27) hx hb dX6_bestShare_61 (by decide) ?_
    refine lv_iload hx hb dX6_bestShare_27 (lv_at hl 0 rfl) ?_
    refine lv_bipush (v := 32) hx hb dX6_bestShare_29 (by decide) ?_
    refine lv_icmp_gt (tgt := 64) hx hb dX6_bestShare_31 (by decide) (fun c89 => absurd c89 (by decide)) (fun _ => ?_)
    refine lv_aload_n hx hb dX6_bestShare_34 rfl (lv_at hl 4 rfl) ?_
    refine lv_iload hx hb dX6_bestShare_35 (lv_at hl 0 rfl) ?_
    refine call_q (cVt (k := 0) (av := [.int 16]) (rest := []) B hP hS (c_paperWith l E ρ85 16 bq86) lk_RX6_342 (hrecv (ci := 6) B hP (hk_lt (c := 6) (by decide +kernel) (by decide)) (hcc6 _ _ (by decide +kernel)) rfl) rfl rfl hl.1 (Nat.le_of_ble_eq_true rfl) ⟨Nat.le_of_ble_eq_true rfl, Nat.le_of_ble_eq_true rfl⟩ ⟨Nat.le_of_ble_eq_true rfl, Nat.le_of_ble_eq_true rfl⟩ dX6_bestShare_37) hS (fun r90 ρ91 H locs q92 hP hS => ?_)
    obtain ⟨rfl, q92⟩ := q92
    have F93 : ∀ k, 1076 ≤ k → ρ91 k = r0 k := fun k hk => q92 k (by omega)
    refine W.eq (g2 := F0 m 40 ls [.ref (E.2.1 + 90)]) rfl ?_
    refine lv_iload_n hx hb dX6_bestShare_40 rfl (lv_at hl 5 rfl) ?_
    refine call_i (cVt (k := 90) (av := [.int (nI N)]) (rest := []) B hP hS (c_heardInTurns l E ρ91 90 N (by decide +kernel) (q92).F90 (by omega)) lk_RX6_216 (hrecv (ci := 5) B hP (hk_lt (c := 5) (by decide +kernel) (by decide)) (hcc5 _ _ (by decide +kernel)) rfl) rfl rfl hl.1 (Nat.le_of_ble_eq_true rfl) ⟨Nat.le_of_ble_eq_true rfl, Nat.le_of_ble_eq_true rfl⟩ ⟨Nat.le_of_ble_eq_true rfl, Nat.le_of_ble_eq_true rfl⟩ dX6_bestShare_41) hS (fun r94 ρ95 H locs q96 hP hS => ?_)
    obtain ⟨rfl, q96⟩ := q96
    have F97 : ∀ k, 1076 ≤ k → ρ95 k = r0 k := fun k hk => (q96 k (by omega)).trans (F93 k hk)
    have bq96 : BS ρ95 := fun k hk => (q96 k hk).trans (q92 k hk)
    refine lv_istore (lv' := [(5, .int 0), (4, .int 16), (2, .int 0), (3, .int 0), (0, .ref (E.2.1 + 0)), (1, .int (nI N))]) hx hb dX6_bestShare_44 hl (by decide) rfl (fun ls hl => ?_)
    refine lv_iload hx hb dX6_bestShare_46 (lv_at hl 0 rfl) ?_
    refine lv_iload_n hx hb dX6_bestShare_48 rfl (lv_at hl 3 rfl) ?_
    refine lv_icmp_le (tgt := 58) hx hb dX6_bestShare_49 (by decide) (fun _ => ?_) (fun c98 => absurd c98 (by decide))
    refine lv_iinc (v := 18) (lv' := [(4, .int 18), (5, .int 0), (2, .int 0), (3, .int 0), (0, .ref (E.2.1 + 0)), (1, .int (nI N))]) hx hb dX6_bestShare_58 hl (k := 1) rfl (by decide) (by decide) rfl (fun ls hl => ?_)
    refine lv_goto (tgt := 27) hx hb dX6_bestShare_61 (by decide) ?_
    refine lv_iload hx hb dX6_bestShare_27 (lv_at hl 0 rfl) ?_
    refine lv_bipush (v := 32) hx hb dX6_bestShare_29 (by decide) ?_
    refine lv_icmp_gt (tgt := 64) hx hb dX6_bestShare_31 (by decide) (fun c99 => absurd c99 (by decide)) (fun _ => ?_)
    refine lv_aload_n hx hb dX6_bestShare_34 rfl (lv_at hl 4 rfl) ?_
    refine lv_iload hx hb dX6_bestShare_35 (lv_at hl 0 rfl) ?_
    refine call_q (cVt (k := 0) (av := [.int 18]) (rest := []) B hP hS (c_paperWith l E ρ95 18 bq96) lk_RX6_342 (hrecv (ci := 6) B hP (hk_lt (c := 6) (by decide +kernel) (by decide)) (hcc6 _ _ (by decide +kernel)) rfl) rfl rfl hl.1 (Nat.le_of_ble_eq_true rfl) ⟨Nat.le_of_ble_eq_true rfl, Nat.le_of_ble_eq_true rfl⟩ ⟨Nat.le_of_ble_eq_true rfl, Nat.le_of_ble_eq_true rfl⟩ dX6_bestShare_37) hS (fun r100 ρ101 H locs q102 hP hS => ?_)
    obtain ⟨rfl, q102⟩ := q102
    have F103 : ∀ k, 1076 ≤ k → ρ101 k = r0 k := fun k hk => q102 k (by omega)
    refine W.eq (g2 := F0 m 40 ls [.ref (E.2.1 + 90)]) rfl ?_
    refine lv_iload_n hx hb dX6_bestShare_40 rfl (lv_at hl 5 rfl) ?_
    refine call_i (cVt (k := 90) (av := [.int (nI N)]) (rest := []) B hP hS (c_heardInTurns l E ρ101 90 N (by decide +kernel) (q102).F90 (by omega)) lk_RX6_216 (hrecv (ci := 5) B hP (hk_lt (c := 5) (by decide +kernel) (by decide)) (hcc5 _ _ (by decide +kernel)) rfl) rfl rfl hl.1 (Nat.le_of_ble_eq_true rfl) ⟨Nat.le_of_ble_eq_true rfl, Nat.le_of_ble_eq_true rfl⟩ ⟨Nat.le_of_ble_eq_true rfl, Nat.le_of_ble_eq_true rfl⟩ dX6_bestShare_41) hS (fun r104 ρ105 H locs q106 hP hS => ?_)
    obtain ⟨rfl, q106⟩ := q106
    have F107 : ∀ k, 1076 ≤ k → ρ105 k = r0 k := fun k hk => (q106 k (by omega)).trans (F103 k hk)
    have bq106 : BS ρ105 := fun k hk => (q106 k hk).trans (q102 k hk)
    refine lv_istore (lv' := [(5, .int 0), (4, .int 18), (2, .int 0), (3, .int 0), (0, .ref (E.2.1 + 0)), (1, .int (nI N))]) hx hb dX6_bestShare_44 hl (by decide) rfl (fun ls hl => ?_)
    refine lv_iload hx hb dX6_bestShare_46 (lv_at hl 0 rfl) ?_
    refine lv_iload_n hx hb dX6_bestShare_48 rfl (lv_at hl 3 rfl) ?_
    refine lv_icmp_le (tgt := 58) hx hb dX6_bestShare_49 (by decide) (fun _ => ?_) (fun c108 => absurd c108 (by decide))
    refine lv_iinc (v := 20) (lv' := [(4, .int 20), (5, .int 0), (2, .int 0), (3, .int 0), (0, .ref (E.2.1 + 0)), (1, .int (nI N))]) hx hb dX6_bestShare_58 hl (k := 1) rfl (by decide) (by decide) rfl (fun ls hl => ?_)
    refine lv_goto (tgt := 27) hx hb dX6_bestShare_61 (by decide) ?_
    refine lv_iload hx hb dX6_bestShare_27 (lv_at hl 0 rfl) ?_
    refine lv_bipush (v := 32) hx hb dX6_bestShare_29 (by decide) ?_
    refine lv_icmp_gt (tgt := 64) hx hb dX6_bestShare_31 (by decide) (fun c109 => absurd c109 (by decide)) (fun _ => ?_)
    refine lv_aload_n hx hb dX6_bestShare_34 rfl (lv_at hl 4 rfl) ?_
    refine lv_iload hx hb dX6_bestShare_35 (lv_at hl 0 rfl) ?_
    refine call_q (cVt (k := 0) (av := [.int 20]) (rest := []) B hP hS (c_paperWith l E ρ105 20 bq106) lk_RX6_342 (hrecv (ci := 6) B hP (hk_lt (c := 6) (by decide +kernel) (by decide)) (hcc6 _ _ (by decide +kernel)) rfl) rfl rfl hl.1 (Nat.le_of_ble_eq_true rfl) ⟨Nat.le_of_ble_eq_true rfl, Nat.le_of_ble_eq_true rfl⟩ ⟨Nat.le_of_ble_eq_true rfl, Nat.le_of_ble_eq_true rfl⟩ dX6_bestShare_37) hS (fun r110 ρ111 H locs q112 hP hS => ?_)
    obtain ⟨rfl, q112⟩ := q112
    have F113 : ∀ k, 1076 ≤ k → ρ111 k = r0 k := fun k hk => q112 k (by omega)
    refine W.eq (g2 := F0 m 40 ls [.ref (E.2.1 + 90)]) rfl ?_
    refine lv_iload_n hx hb dX6_bestShare_40 rfl (lv_at hl 5 rfl) ?_
    refine call_i (cVt (k := 90) (av := [.int (nI N)]) (rest := []) B hP hS (c_heardInTurns l E ρ111 90 N (by decide +kernel) (q112).F90 (by omega)) lk_RX6_216 (hrecv (ci := 5) B hP (hk_lt (c := 5) (by decide +kernel) (by decide)) (hcc5 _ _ (by decide +kernel)) rfl) rfl rfl hl.1 (Nat.le_of_ble_eq_true rfl) ⟨Nat.le_of_ble_eq_true rfl, Nat.le_of_ble_eq_true rfl⟩ ⟨Nat.le_of_ble_eq_true rfl, Nat.le_of_ble_eq_true rfl⟩ dX6_bestShare_41) hS (fun r114 ρ115 H locs q116 hP hS => ?_)
    obtain ⟨rfl, q116⟩ := q116
    have F117 : ∀ k, 1076 ≤ k → ρ115 k = r0 k := fun k hk => (q116 k (by omega)).trans (F113 k hk)
    have bq116 : BS ρ115 := fun k hk => (q116 k hk).trans (q112 k hk)
    refine lv_istore (lv' := [(5, .int 0), (4, .int 20), (2, .int 0), (3, .int 0), (0, .ref (E.2.1 + 0)), (1, .int (nI N))]) hx hb dX6_bestShare_44 hl (by decide) rfl (fun ls hl => ?_)
    refine lv_iload hx hb dX6_bestShare_46 (lv_at hl 0 rfl) ?_
    refine lv_iload_n hx hb dX6_bestShare_48 rfl (lv_at hl 3 rfl) ?_
    refine lv_icmp_le (tgt := 58) hx hb dX6_bestShare_49 (by decide) (fun _ => ?_) (fun c118 => absurd c118 (by decide))
    refine lv_iinc (v := 22) (lv' := [(4, .int 22), (5, .int 0), (2, .int 0), (3, .int 0), (0, .ref (E.2.1 + 0)), (1, .int (nI N))]) hx hb dX6_bestShare_58 hl (k := 1) rfl (by decide) (by decide) rfl (fun ls hl => ?_)
    refine lv_goto (tgt := 27) hx hb dX6_bestShare_61 (by decide) ?_
    refine lv_iload hx hb dX6_bestShare_27 (lv_at hl 0 rfl) ?_
    refine lv_bipush (v := 32) hx hb dX6_bestShare_29 (by decide) ?_
    refine lv_icmp_gt (tgt := 64) hx hb dX6_bestShare_31 (by decide) (fun c119 => absurd c119 (by decide)) (fun _ => ?_)
    refine lv_aload_n hx hb dX6_bestShare_34 rfl (lv_at hl 4 rfl) ?_
    refine lv_iload hx hb dX6_bestShare_35 (lv_at hl 0 rfl) ?_
    refine call_q (cVt (k := 0) (av := [.int 22]) (rest := []) B hP hS (c_paperWith l E ρ115 22 bq116) lk_RX6_342 (hrecv (ci := 6) B hP (hk_lt (c := 6) (by decide +kernel) (by decide)) (hcc6 _ _ (by decide +kernel)) rfl) rfl rfl hl.1 (Nat.le_of_ble_eq_true rfl) ⟨Nat.le_of_ble_eq_true rfl, Nat.le_of_ble_eq_true rfl⟩ ⟨Nat.le_of_ble_eq_true rfl, Nat.le_of_ble_eq_true rfl⟩ dX6_bestShare_37) hS (fun r120 ρ121 H locs q122 hP hS => ?_)
    obtain ⟨rfl, q122⟩ := q122
    have F123 : ∀ k, 1076 ≤ k → ρ121 k = r0 k := fun k hk => q122 k (by omega)
    refine W.eq (g2 := F0 m 40 ls [.ref (E.2.1 + 90)]) rfl ?_
    refine lv_iload_n hx hb dX6_bestShare_40 rfl (lv_at hl 5 rfl) ?_
    refine call_i (cVt (k := 90) (av := [.int (nI N)]) (rest := []) B hP hS (c_heardInTurns l E ρ121 90 N (by decide +kernel) (q122).F90 (by omega)) lk_RX6_216 (hrecv (ci := 5) B hP (hk_lt (c := 5) (by decide +kernel) (by decide)) (hcc5 _ _ (by decide +kernel)) rfl) rfl rfl hl.1 (Nat.le_of_ble_eq_true rfl) ⟨Nat.le_of_ble_eq_true rfl, Nat.le_of_ble_eq_true rfl⟩ ⟨Nat.le_of_ble_eq_true rfl, Nat.le_of_ble_eq_true rfl⟩ dX6_bestShare_41) hS (fun r124 ρ125 H locs q126 hP hS => ?_)
    obtain ⟨rfl, q126⟩ := q126
    have F127 : ∀ k, 1076 ≤ k → ρ125 k = r0 k := fun k hk => (q126 k (by omega)).trans (F123 k hk)
    have bq126 : BS ρ125 := fun k hk => (q126 k hk).trans (q122 k hk)
    refine lv_istore (lv' := [(5, .int 0), (4, .int 22), (2, .int 0), (3, .int 0), (0, .ref (E.2.1 + 0)), (1, .int (nI N))]) hx hb dX6_bestShare_44 hl (by decide) rfl (fun ls hl => ?_)
    refine lv_iload hx hb dX6_bestShare_46 (lv_at hl 0 rfl) ?_
    refine lv_iload_n hx hb dX6_bestShare_48 rfl (lv_at hl 3 rfl) ?_
    refine lv_icmp_le (tgt := 58) hx hb dX6_bestShare_49 (by decide) (fun _ => ?_) (fun c128 => absurd c128 (by decide))
    refine lv_iinc (v := 24) (lv' := [(4, .int 24), (5, .int 0), (2, .int 0), (3, .int 0), (0, .ref (E.2.1 + 0)), (1, .int (nI N))]) hx hb dX6_bestShare_58 hl (k := 1) rfl (by decide) (by decide) rfl (fun ls hl => ?_)
    refine lv_goto (tgt := 27) hx hb dX6_bestShare_61 (by decide) ?_
    refine lv_iload hx hb dX6_bestShare_27 (lv_at hl 0 rfl) ?_
    refine lv_bipush (v := 32) hx hb dX6_bestShare_29 (by decide) ?_
    refine lv_icmp_gt (tgt := 64) hx hb dX6_bestShare_31 (by decide) (fun c129 => absurd c129 (by decide)) (fun _ => ?_)
    refine lv_aload_n hx hb dX6_bestShare_34 rfl (lv_at hl 4 rfl) ?_
    refine lv_iload hx hb dX6_bestShare_35 (lv_at hl 0 rfl) ?_
    refine call_q (cVt (k := 0) (av := [.int 24]) (rest := []) B hP hS (c_paperWith l E ρ125 24 bq126) lk_RX6_342 (hrecv (ci := 6) B hP (hk_lt (c := 6) (by decide +kernel) (by decide)) (hcc6 _ _ (by decide +kernel)) rfl) rfl rfl hl.1 (Nat.le_of_ble_eq_true rfl) ⟨Nat.le_of_ble_eq_true rfl, Nat.le_of_ble_eq_true rfl⟩ ⟨Nat.le_of_ble_eq_true rfl, Nat.le_of_ble_eq_true rfl⟩ dX6_bestShare_37) hS (fun r130 ρ131 H locs q132 hP hS => ?_)
    obtain ⟨rfl, q132⟩ := q132
    have F133 : ∀ k, 1076 ≤ k → ρ131 k = r0 k := fun k hk => q132 k (by omega)
    refine W.eq (g2 := F0 m 40 ls [.ref (E.2.1 + 90)]) rfl ?_
    refine lv_iload_n hx hb dX6_bestShare_40 rfl (lv_at hl 5 rfl) ?_
    refine call_i (cVt (k := 90) (av := [.int (nI N)]) (rest := []) B hP hS (c_heardInTurns l E ρ131 90 N (by decide +kernel) (q132).F90 (by omega)) lk_RX6_216 (hrecv (ci := 5) B hP (hk_lt (c := 5) (by decide +kernel) (by decide)) (hcc5 _ _ (by decide +kernel)) rfl) rfl rfl hl.1 (Nat.le_of_ble_eq_true rfl) ⟨Nat.le_of_ble_eq_true rfl, Nat.le_of_ble_eq_true rfl⟩ ⟨Nat.le_of_ble_eq_true rfl, Nat.le_of_ble_eq_true rfl⟩ dX6_bestShare_41) hS (fun r134 ρ135 H locs q136 hP hS => ?_)
    obtain ⟨rfl, q136⟩ := q136
    have F137 : ∀ k, 1076 ≤ k → ρ135 k = r0 k := fun k hk => (q136 k (by omega)).trans (F133 k hk)
    have bq136 : BS ρ135 := fun k hk => (q136 k hk).trans (q132 k hk)
    refine lv_istore (lv' := [(5, .int 0), (4, .int 24), (2, .int 0), (3, .int 0), (0, .ref (E.2.1 + 0)), (1, .int (nI N))]) hx hb dX6_bestShare_44 hl (by decide) rfl (fun ls hl => ?_)
    refine lv_iload hx hb dX6_bestShare_46 (lv_at hl 0 rfl) ?_
    refine lv_iload_n hx hb dX6_bestShare_48 rfl (lv_at hl 3 rfl) ?_
    refine lv_icmp_le (tgt := 58) hx hb dX6_bestShare_49 (by decide) (fun _ => ?_) (fun c138 => absurd c138 (by decide))
    refine lv_iinc (v := 26) (lv' := [(4, .int 26), (5, .int 0), (2, .int 0), (3, .int 0), (0, .ref (E.2.1 + 0)), (1, .int (nI N))]) hx hb dX6_bestShare_58 hl (k := 1) rfl (by decide) (by decide) rfl (fun ls hl => ?_)
    refine lv_goto (tgt := 27) hx hb dX6_bestShare_61 (by decide) ?_
    refine lv_iload hx hb dX6_bestShare_27 (lv_at hl 0 rfl) ?_
    refine lv_bipush (v := 32) hx hb dX6_bestShare_29 (by decide) ?_
    refine lv_icmp_gt (tgt := 64) hx hb dX6_bestShare_31 (by decide) (fun c139 => absurd c139 (by decide)) (fun _ => ?_)
    refine lv_aload_n hx hb dX6_bestShare_34 rfl (lv_at hl 4 rfl) ?_
    refine lv_iload hx hb dX6_bestShare_35 (lv_at hl 0 rfl) ?_
    refine call_q (cVt (k := 0) (av := [.int 26]) (rest := []) B hP hS (c_paperWith l E ρ135 26 bq136) lk_RX6_342 (hrecv (ci := 6) B hP (hk_lt (c := 6) (by decide +kernel) (by decide)) (hcc6 _ _ (by decide +kernel)) rfl) rfl rfl hl.1 (Nat.le_of_ble_eq_true rfl) ⟨Nat.le_of_ble_eq_true rfl, Nat.le_of_ble_eq_true rfl⟩ ⟨Nat.le_of_ble_eq_true rfl, Nat.le_of_ble_eq_true rfl⟩ dX6_bestShare_37) hS (fun r140 ρ141 H locs q142 hP hS => ?_)
    obtain ⟨rfl, q142⟩ := q142
    have F143 : ∀ k, 1076 ≤ k → ρ141 k = r0 k := fun k hk => q142 k (by omega)
    refine W.eq (g2 := F0 m 40 ls [.ref (E.2.1 + 90)]) rfl ?_
    refine lv_iload_n hx hb dX6_bestShare_40 rfl (lv_at hl 5 rfl) ?_
    refine call_i (cVt (k := 90) (av := [.int (nI N)]) (rest := []) B hP hS (c_heardInTurns l E ρ141 90 N (by decide +kernel) (q142).F90 (by omega)) lk_RX6_216 (hrecv (ci := 5) B hP (hk_lt (c := 5) (by decide +kernel) (by decide)) (hcc5 _ _ (by decide +kernel)) rfl) rfl rfl hl.1 (Nat.le_of_ble_eq_true rfl) ⟨Nat.le_of_ble_eq_true rfl, Nat.le_of_ble_eq_true rfl⟩ ⟨Nat.le_of_ble_eq_true rfl, Nat.le_of_ble_eq_true rfl⟩ dX6_bestShare_41) hS (fun r144 ρ145 H locs q146 hP hS => ?_)
    obtain ⟨rfl, q146⟩ := q146
    have F147 : ∀ k, 1076 ≤ k → ρ145 k = r0 k := fun k hk => (q146 k (by omega)).trans (F143 k hk)
    have bq146 : BS ρ145 := fun k hk => (q146 k hk).trans (q142 k hk)
    refine lv_istore (lv' := [(5, .int 0), (4, .int 26), (2, .int 0), (3, .int 0), (0, .ref (E.2.1 + 0)), (1, .int (nI N))]) hx hb dX6_bestShare_44 hl (by decide) rfl (fun ls hl => ?_)
    refine lv_iload hx hb dX6_bestShare_46 (lv_at hl 0 rfl) ?_
    refine lv_iload_n hx hb dX6_bestShare_48 rfl (lv_at hl 3 rfl) ?_
    refine lv_icmp_le (tgt := 58) hx hb dX6_bestShare_49 (by decide) (fun _ => ?_) (fun c148 => absurd c148 (by decide))
    refine lv_iinc (v := 28) (lv' := [(4, .int 28), (5, .int 0), (2, .int 0), (3, .int 0), (0, .ref (E.2.1 + 0)), (1, .int (nI N))]) hx hb dX6_bestShare_58 hl (k := 1) rfl (by decide) (by decide) rfl (fun ls hl => ?_)
    refine lv_goto (tgt := 27) hx hb dX6_bestShare_61 (by decide) ?_
    refine lv_iload hx hb dX6_bestShare_27 (lv_at hl 0 rfl) ?_
    refine lv_bipush (v := 32) hx hb dX6_bestShare_29 (by decide) ?_
    refine lv_icmp_gt (tgt := 64) hx hb dX6_bestShare_31 (by decide) (fun c149 => absurd c149 (by decide)) (fun _ => ?_)
    refine lv_aload_n hx hb dX6_bestShare_34 rfl (lv_at hl 4 rfl) ?_
    refine lv_iload hx hb dX6_bestShare_35 (lv_at hl 0 rfl) ?_
    refine call_q (cVt (k := 0) (av := [.int 28]) (rest := []) B hP hS (c_paperWith l E ρ145 28 bq146) lk_RX6_342 (hrecv (ci := 6) B hP (hk_lt (c := 6) (by decide +kernel) (by decide)) (hcc6 _ _ (by decide +kernel)) rfl) rfl rfl hl.1 (Nat.le_of_ble_eq_true rfl) ⟨Nat.le_of_ble_eq_true rfl, Nat.le_of_ble_eq_true rfl⟩ ⟨Nat.le_of_ble_eq_true rfl, Nat.le_of_ble_eq_true rfl⟩ dX6_bestShare_37) hS (fun r150 ρ151 H locs q152 hP hS => ?_)
    obtain ⟨rfl, q152⟩ := q152
    have F153 : ∀ k, 1076 ≤ k → ρ151 k = r0 k := fun k hk => q152 k (by omega)
    refine W.eq (g2 := F0 m 40 ls [.ref (E.2.1 + 90)]) rfl ?_
    refine lv_iload_n hx hb dX6_bestShare_40 rfl (lv_at hl 5 rfl) ?_
    refine call_i (cVt (k := 90) (av := [.int (nI N)]) (rest := []) B hP hS (c_heardInTurns l E ρ151 90 N (by decide +kernel) (q152).F90 (by omega)) lk_RX6_216 (hrecv (ci := 5) B hP (hk_lt (c := 5) (by decide +kernel) (by decide)) (hcc5 _ _ (by decide +kernel)) rfl) rfl rfl hl.1 (Nat.le_of_ble_eq_true rfl) ⟨Nat.le_of_ble_eq_true rfl, Nat.le_of_ble_eq_true rfl⟩ ⟨Nat.le_of_ble_eq_true rfl, Nat.le_of_ble_eq_true rfl⟩ dX6_bestShare_41) hS (fun r154 ρ155 H locs q156 hP hS => ?_)
    obtain ⟨rfl, q156⟩ := q156
    have F157 : ∀ k, 1076 ≤ k → ρ155 k = r0 k := fun k hk => (q156 k (by omega)).trans (F153 k hk)
    have bq156 : BS ρ155 := fun k hk => (q156 k hk).trans (q152 k hk)
    refine lv_istore (lv' := [(5, .int 0), (4, .int 28), (2, .int 0), (3, .int 0), (0, .ref (E.2.1 + 0)), (1, .int (nI N))]) hx hb dX6_bestShare_44 hl (by decide) rfl (fun ls hl => ?_)
    refine lv_iload hx hb dX6_bestShare_46 (lv_at hl 0 rfl) ?_
    refine lv_iload_n hx hb dX6_bestShare_48 rfl (lv_at hl 3 rfl) ?_
    refine lv_icmp_le (tgt := 58) hx hb dX6_bestShare_49 (by decide) (fun _ => ?_) (fun c158 => absurd c158 (by decide))
    refine lv_iinc (v := 30) (lv' := [(4, .int 30), (5, .int 0), (2, .int 0), (3, .int 0), (0, .ref (E.2.1 + 0)), (1, .int (nI N))]) hx hb dX6_bestShare_58 hl (k := 1) rfl (by decide) (by decide) rfl (fun ls hl => ?_)
    refine lv_goto (tgt := 27) hx hb dX6_bestShare_61 (by decide) ?_
    refine lv_iload hx hb dX6_bestShare_27 (lv_at hl 0 rfl) ?_
    refine lv_bipush (v := 32) hx hb dX6_bestShare_29 (by decide) ?_
    refine lv_icmp_gt (tgt := 64) hx hb dX6_bestShare_31 (by decide) (fun c159 => absurd c159 (by decide)) (fun _ => ?_)
    refine lv_aload_n hx hb dX6_bestShare_34 rfl (lv_at hl 4 rfl) ?_
    refine lv_iload hx hb dX6_bestShare_35 (lv_at hl 0 rfl) ?_
    refine call_q (cVt (k := 0) (av := [.int 30]) (rest := []) B hP hS (c_paperWith l E ρ155 30 bq156) lk_RX6_342 (hrecv (ci := 6) B hP (hk_lt (c := 6) (by decide +kernel) (by decide)) (hcc6 _ _ (by decide +kernel)) rfl) rfl rfl hl.1 (Nat.le_of_ble_eq_true rfl) ⟨Nat.le_of_ble_eq_true rfl, Nat.le_of_ble_eq_true rfl⟩ ⟨Nat.le_of_ble_eq_true rfl, Nat.le_of_ble_eq_true rfl⟩ dX6_bestShare_37) hS (fun r160 ρ161 H locs q162 hP hS => ?_)
    obtain ⟨rfl, q162⟩ := q162
    have F163 : ∀ k, 1076 ≤ k → ρ161 k = r0 k := fun k hk => q162 k (by omega)
    refine W.eq (g2 := F0 m 40 ls [.ref (E.2.1 + 90)]) rfl ?_
    refine lv_iload_n hx hb dX6_bestShare_40 rfl (lv_at hl 5 rfl) ?_
    refine call_i (cVt (k := 90) (av := [.int (nI N)]) (rest := []) B hP hS (c_heardInTurns l E ρ161 90 N (by decide +kernel) (q162).F90 (by omega)) lk_RX6_216 (hrecv (ci := 5) B hP (hk_lt (c := 5) (by decide +kernel) (by decide)) (hcc5 _ _ (by decide +kernel)) rfl) rfl rfl hl.1 (Nat.le_of_ble_eq_true rfl) ⟨Nat.le_of_ble_eq_true rfl, Nat.le_of_ble_eq_true rfl⟩ ⟨Nat.le_of_ble_eq_true rfl, Nat.le_of_ble_eq_true rfl⟩ dX6_bestShare_41) hS (fun r164 ρ165 H locs q166 hP hS => ?_)
    obtain ⟨rfl, q166⟩ := q166
    have F167 : ∀ k, 1076 ≤ k → ρ165 k = r0 k := fun k hk => (q166 k (by omega)).trans (F163 k hk)
    have bq166 : BS ρ165 := fun k hk => (q166 k hk).trans (q162 k hk)
    refine lv_istore (lv' := [(5, .int 0), (4, .int 30), (2, .int 0), (3, .int 0), (0, .ref (E.2.1 + 0)), (1, .int (nI N))]) hx hb dX6_bestShare_44 hl (by decide) rfl (fun ls hl => ?_)
    refine lv_iload hx hb dX6_bestShare_46 (lv_at hl 0 rfl) ?_
    refine lv_iload_n hx hb dX6_bestShare_48 rfl (lv_at hl 3 rfl) ?_
    refine lv_icmp_le (tgt := 58) hx hb dX6_bestShare_49 (by decide) (fun _ => ?_) (fun c168 => absurd c168 (by decide))
    refine lv_iinc (v := 32) (lv' := [(4, .int 32), (5, .int 0), (2, .int 0), (3, .int 0), (0, .ref (E.2.1 + 0)), (1, .int (nI N))]) hx hb dX6_bestShare_58 hl (k := 1) rfl (by decide) (by decide) rfl (fun ls hl => ?_)
    refine lv_goto (tgt := 27) hx hb dX6_bestShare_61 (by decide) ?_
    refine lv_iload hx hb dX6_bestShare_27 (lv_at hl 0 rfl) ?_
    refine lv_bipush (v := 32) hx hb dX6_bestShare_29 (by decide) ?_
    refine lv_icmp_gt (tgt := 64) hx hb dX6_bestShare_31 (by decide) (fun c169 => absurd c169 (by decide)) (fun _ => ?_)
    refine lv_aload_n hx hb dX6_bestShare_34 rfl (lv_at hl 4 rfl) ?_
    refine lv_iload hx hb dX6_bestShare_35 (lv_at hl 0 rfl) ?_
    refine call_q (cVt (k := 0) (av := [.int 32]) (rest := []) B hP hS (c_paperWith l E ρ165 32 bq166) lk_RX6_342 (hrecv (ci := 6) B hP (hk_lt (c := 6) (by decide +kernel) (by decide)) (hcc6 _ _ (by decide +kernel)) rfl) rfl rfl hl.1 (Nat.le_of_ble_eq_true rfl) ⟨Nat.le_of_ble_eq_true rfl, Nat.le_of_ble_eq_true rfl⟩ ⟨Nat.le_of_ble_eq_true rfl, Nat.le_of_ble_eq_true rfl⟩ dX6_bestShare_37) hS (fun r170 ρ171 H locs q172 hP hS => ?_)
    obtain ⟨rfl, q172⟩ := q172
    have F173 : ∀ k, 1076 ≤ k → ρ171 k = r0 k := fun k hk => q172 k (by omega)
    refine W.eq (g2 := F0 m 40 ls [.ref (E.2.1 + 90)]) rfl ?_
    refine lv_iload_n hx hb dX6_bestShare_40 rfl (lv_at hl 5 rfl) ?_
    refine call_i (cVt (k := 90) (av := [.int (nI N)]) (rest := []) B hP hS (c_heardInTurns l E ρ171 90 N (by decide +kernel) (q172).F90 (by omega)) lk_RX6_216 (hrecv (ci := 5) B hP (hk_lt (c := 5) (by decide +kernel) (by decide)) (hcc5 _ _ (by decide +kernel)) rfl) rfl rfl hl.1 (Nat.le_of_ble_eq_true rfl) ⟨Nat.le_of_ble_eq_true rfl, Nat.le_of_ble_eq_true rfl⟩ ⟨Nat.le_of_ble_eq_true rfl, Nat.le_of_ble_eq_true rfl⟩ dX6_bestShare_41) hS (fun r174 ρ175 H locs q176 hP hS => ?_)
    obtain ⟨rfl, q176⟩ := q176
    have F177 : ∀ k, 1076 ≤ k → ρ175 k = r0 k := fun k hk => (q176 k (by omega)).trans (F173 k hk)
    have bq176 : BS ρ175 := fun k hk => (q176 k hk).trans (q172 k hk)
    refine lv_istore (lv' := [(5, .int 0), (4, .int 32), (2, .int 0), (3, .int 0), (0, .ref (E.2.1 + 0)), (1, .int (nI N))]) hx hb dX6_bestShare_44 hl (by decide) rfl (fun ls hl => ?_)
    refine lv_iload hx hb dX6_bestShare_46 (lv_at hl 0 rfl) ?_
    refine lv_iload_n hx hb dX6_bestShare_48 rfl (lv_at hl 3 rfl) ?_
    refine lv_icmp_le (tgt := 58) hx hb dX6_bestShare_49 (by decide) (fun _ => ?_) (fun c178 => absurd c178 (by decide))
    refine lv_iinc (v := 34) (lv' := [(4, .int 34), (5, .int 0), (2, .int 0), (3, .int 0), (0, .ref (E.2.1 + 0)), (1, .int (nI N))]) hx hb dX6_bestShare_58 hl (k := 1) rfl (by decide) (by decide) rfl (fun ls hl => ?_)
    refine lv_goto (tgt := 27) hx hb dX6_bestShare_61 (by decide) ?_
    refine lv_iload hx hb dX6_bestShare_27 (lv_at hl 0 rfl) ?_
    refine lv_bipush (v := 32) hx hb dX6_bestShare_29 (by decide) ?_
    refine lv_icmp_gt (tgt := 64) hx hb dX6_bestShare_31 (by decide) (fun _ => ?_) (fun c179 => absurd c179 (by decide))
    refine lv_iload_n hx hb dX6_bestShare_64 rfl (lv_at hl 2 rfl) ?_
    exact ret_i B hr hlk hP hS dX6_bestShare_65 (⟨Or.inl ⟨hn, rfl⟩, F177⟩)
  · skip
    refine lv_if_eq (tgt := 18) hx hb dX6_bestShare_7 (by decide) (fun _ => ?_) (fun c180 => absurd c180 (by decide))
    refine lv_iconst (v := (-1)) hx hb dX6_bestShare_18 (by decide) ?_
    exact ret_i B hr hlk hP hS dX6_bestShare_19 (⟨Or.inr ⟨fun z => q3 z, rfl⟩, fun _ _ => rfl⟩)
