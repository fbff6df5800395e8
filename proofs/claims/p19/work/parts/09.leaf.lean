theorem dX3_hasNext_0 : decode cX3_hasNext 0 = .ok (.aload_n 0, 1) := by decide +kernel
theorem dX3_hasNext_1 : decode cX3_hasNext 1 = .ok (.getfield 16, 3) := by decide +kernel
theorem dX3_hasNext_4 : decode cX3_hasNext 4 = .ok (.ifCond .eq 7, 3) := by decide +kernel
theorem dX3_hasNext_7 : decode cX3_hasNext 7 = .ok (.iconst 1, 1) := by decide +kernel
theorem dX3_hasNext_8 : decode cX3_hasNext 8 = .ok (.goto 4, 3) := by decide +kernel
theorem dX3_hasNext_11 : decode cX3_hasNext 11 = .ok (.iconst 0, 1) := by decide +kernel
theorem dX3_hasNext_12 : decode cX3_hasNext 12 = .ok (.ireturn, 1) := by decide +kernel
theorem dX3_takeAtOnce_0 : decode cX3_takeAtOnce 0 = .ok (.aload_n 0, 1) := by decide +kernel
theorem dX3_takeAtOnce_1 : decode cX3_takeAtOnce 1 = .ok (.iload_n 1, 1) := by decide +kernel
theorem dX3_takeAtOnce_2 : decode cX3_takeAtOnce 2 = .ok (.putfield 10, 3) := by decide +kernel
theorem dX3_takeAtOnce_5 : decode cX3_takeAtOnce 5 = .ok (.aload_n 0, 1) := by decide +kernel
theorem dX3_takeAtOnce_6 : decode cX3_takeAtOnce 6 = .ok (.iconst 0, 1) := by decide +kernel
theorem dX3_takeAtOnce_7 : decode cX3_takeAtOnce 7 = .ok (.putfield 16, 3) := by decide +kernel
theorem dX3_takeAtOnce_10 : decode cX3_takeAtOnce 10 = .ok (.aload_n 0, 1) := by decide +kernel
theorem dX3_takeAtOnce_11 : decode cX3_takeAtOnce 11 = .ok (.iconst (-1), 1) := by decide +kernel
theorem dX3_takeAtOnce_12 : decode cX3_takeAtOnce 12 = .ok (.putfield 19, 3) := by decide +kernel
theorem dX3_takeAtOnce_15 : decode cX3_takeAtOnce 15 = .ok (.return_, 1) := by decide +kernel
theorem dX3_changesAt_0 : decode cX3_changesAt 0 = .ok (.aload_n 0, 1) := by decide +kernel
theorem dX3_changesAt_1 : decode cX3_changesAt 1 = .ok (.getfield 16, 3) := by decide +kernel
theorem dX3_changesAt_4 : decode cX3_changesAt 4 = .ok (.ifCond .eq 11, 3) := by decide +kernel
theorem dX3_changesAt_7 : decode cX3_changesAt 7 = .ok (.aload_n 0, 1) := by decide +kernel
theorem dX3_changesAt_8 : decode cX3_changesAt 8 = .ok (.getfield 19, 3) := by decide +kernel
theorem dX3_changesAt_11 : decode cX3_changesAt 11 = .ok (.iload_n 1, 1) := by decide +kernel
theorem dX3_changesAt_12 : decode cX3_changesAt 12 = .ok (.if_icmp .le 5, 3) := by decide +kernel
theorem dX3_changesAt_15 : decode cX3_changesAt 15 = .ok (.iconst 0, 1) := by decide +kernel
theorem dX3_changesAt_16 : decode cX3_changesAt 16 = .ok (.ireturn, 1) := by decide +kernel
theorem dX3_changesAt_17 : decode cX3_changesAt 17 = .ok (.aload_n 0, 1) := by decide +kernel
theorem dX3_changesAt_18 : decode cX3_changesAt 18 = .ok (.aload_n 0, 1) := by decide +kernel
theorem dX3_changesAt_19 : decode cX3_changesAt 19 = .ok (.getfield 16, 3) := by decide +kernel
theorem dX3_changesAt_22 : decode cX3_changesAt 22 = .ok (.invokevirtual 22, 3) := by decide +kernel
theorem dX3_changesAt_25 : decode cX3_changesAt 25 = .ok (.iconst 1, 1) := by decide +kernel
theorem dX3_changesAt_26 : decode cX3_changesAt 26 = .ok (.ireturn, 1) := by decide +kernel
theorem dX4_append_0 : decode cX4_append 0 = .ok (.aload_n 0, 1) := by decide +kernel
theorem dX4_append_1 : decode cX4_append 1 = .ok (.getfield 18, 3) := by decide +kernel
theorem dX4_append_4 : decode cX4_append 4 = .ok (.bipush 8, 2) := by decide +kernel
theorem dX4_append_6 : decode cX4_append 6 = .ok (.if_icmp .ge 33, 3) := by decide +kernel
theorem dX4_append_9 : decode cX4_append 9 = .ok (.aload_n 0, 1) := by decide +kernel
theorem dX4_append_10 : decode cX4_append 10 = .ok (.getfield 9, 3) := by decide +kernel
theorem dX4_append_13 : decode cX4_append 13 = .ok (.aload_n 0, 1) := by decide +kernel
theorem dX4_append_14 : decode cX4_append 14 = .ok (.getfield 18, 3) := by decide +kernel
theorem dX4_append_17 : decode cX4_append 17 = .ok (.iload_n 1, 1) := by decide +kernel
theorem dX4_append_18 : decode cX4_append 18 = .ok (.iastore, 1) := by decide +kernel
theorem dX4_append_19 : decode cX4_append 19 = .ok (.aload_n 0, 1) := by decide +kernel
theorem dX4_append_20 : decode cX4_append 20 = .ok (.getfield 15, 3) := by decide +kernel
theorem dX4_append_23 : decode cX4_append 23 = .ok (.aload_n 0, 1) := by decide +kernel
theorem dX4_append_24 : decode cX4_append 24 = .ok (.getfield 18, 3) := by decide +kernel
theorem dX4_append_27 : decode cX4_append 27 = .ok (.iload_n 2, 1) := by decide +kernel
theorem dX4_append_28 : decode cX4_append 28 = .ok (.iastore, 1) := by decide +kernel
theorem dX4_append_29 : decode cX4_append 29 = .ok (.aload_n 0, 1) := by decide +kernel
theorem dX4_append_30 : decode cX4_append 30 = .ok (.dup, 1) := by decide +kernel
theorem dX4_append_31 : decode cX4_append 31 = .ok (.getfield 18, 3) := by decide +kernel
theorem dX4_append_34 : decode cX4_append 34 = .ok (.iconst 1, 1) := by decide +kernel
theorem dX4_append_35 : decode cX4_append 35 = .ok (.iadd, 1) := by decide +kernel
theorem dX4_append_36 : decode cX4_append 36 = .ok (.putfield 18, 3) := by decide +kernel
theorem dX4_append_39 : decode cX4_append 39 = .ok (.return_, 1) := by decide +kernel
set_option maxHeartbeats 4000000 in
set_option maxRecDepth 100000 in
theorem d_X3_hasNext (l : Launch) (E : hE) (ρ r : Nat → Nat → Int32) (S : Nat → Prop) (hSS : ∀ x, S x → hk x = 2) (k : Nat) (h : hk k = 3) (hI : CI r S ρ) : Met l yX3_hasNext (.code yX3_hasNext cX3_hasNext 1 (some .boolean) :: gw_all) (rmk 1 40) (cPre E ρ [.ref (E.2.1 + k)]) (cI E (fun v ρ1 => ρ1 = ρ ∧ CI r S ρ1 ∧ iR v 0 1)) 0 0 (hA E) := by
  refine ent (own := RX3) (by decide) rfl (Nat.le_of_ble_eq_true rfl) ?_
  intro p e s m below meth c ls B hr hlk hl hP hS
  have hx := B.1.1
  have hb := B.1.2.1
  have hown := B.1.2.2.2.1
  have hts := B.1.2.2.2.2
  have hl : lv_has ls 1 [(0, .ref (E.2.1 + k))] := hl
  refine lv_aload_n hx hb dX3_hasNext_0 rfl (lv_at hl 0 rfl) ?_
  refine get3 B hP h 1 (by decide) mw_96 rfl dX3_hasNext_1 ?_
  refine lv_if_eq (tgt := 11) hx hb dX3_hasNext_4 (by decide) (fun c3 => ?_) (fun c3 => ?_)
  · skip
    have i4 : iR (ρ k 1) (0) (0) := (by rw [c3]; exact ⟨by decide, by decide⟩)
    refine lv_iconst (v := 0) hx hb dX3_hasNext_11 (by decide) ?_
    exact ret_z B hr hlk hP hS dX3_hasNext_12 (Or.inl rfl) (⟨rfl, hI, (iR_w (a := 0) (b := 0) (show iR 0 0 0 from ⟨by decide, by decide⟩) (by decide) (by decide))⟩)
  · skip
    refine lv_iconst (v := 1) hx hb dX3_hasNext_7 (by decide) ?_
    refine lv_goto (tgt := 12) hx hb dX3_hasNext_8 (by decide) ?_
    exact ret_z B hr hlk hP hS dX3_hasNext_12 (Or.inr rfl) (⟨rfl, hI, (iR_w (a := 1) (b := 1) (show iR 1 1 1 from ⟨by decide, by decide⟩) (by decide) (by decide))⟩)

set_option maxHeartbeats 4000000 in
set_option maxRecDepth 100000 in
theorem d_X3_takeAtOnce (l : Launch) (E : hE) (ρ r : Nat → Nat → Int32) (S : Nat → Prop) (hSS : ∀ x, S x → hk x = 2) (k : Nat) (h : hk k = 3) (a1 : Int32) (hI : CI r S ρ) : Met l yX3_takeAtOnce (.code yX3_takeAtOnce cX3_takeAtOnce 2 none :: gw_all) (rmk 1 40) (cPre E ρ [.ref (E.2.1 + k), .int a1]) (cV E (fun ρ1 => CI r S ρ1)) 0 0 (hA E) := by
  refine ent (own := RX3) (by decide) rfl (Nat.le_of_ble_eq_true rfl) ?_
  intro p e s m below meth c ls B hr hlk hl hP hS
  have hx := B.1.1
  have hb := B.1.2.1
  have hown := B.1.2.2.2.1
  have hts := B.1.2.2.2.2
  have hl : lv_has ls 2 [(0, .ref (E.2.1 + k)), (1, .int a1)] := hl
  refine lv_aload_n hx hb dX3_takeAtOnce_0 rfl (lv_at hl 0 rfl) ?_
  refine lv_iload_n hx hb dX3_takeAtOnce_1 rfl (lv_at hl 1 rfl) ?_
  refine put3 B hP hS h 0 (by decide) mw_91 rfl rfl rfl (fs3_0 E k _ _) dX3_takeAtOnce_2 (fun H locs hP hS => ?_)
  obtain ⟨ρ7, e8⟩ : ∃ z, z = up ρ k 0 a1 := ⟨_, rfl⟩
  rw [← e8] at hP
  have hI : CI r S ρ7 := by rw [e8]; exact CI_up hI (kind_lt h (by decide)) (SP_plain h rfl (by decide)) (fun h2 => absurd (Eq.trans (Eq.symm h) h2) (by decide)) hSS
  refine lv_aload_n hx hb dX3_takeAtOnce_5 rfl (lv_at hl 0 rfl) ?_
  refine lv_iconst (v := 0) hx hb dX3_takeAtOnce_6 (by decide) ?_
  refine put3 B hP hS h 1 (by decide) mw_96 rfl rfl rfl (fs3_1 E k _ _) dX3_takeAtOnce_7 (fun H locs hP hS => ?_)
  obtain ⟨ρ9, e10⟩ : ∃ z, z = up ρ7 k 1 0 := ⟨_, rfl⟩
  rw [← e10] at hP
  have hI : CI r S ρ9 := by rw [e10]; exact CI_up hI (kind_lt h (by decide)) (SP_plain h rfl (by decide)) (fun h2 => absurd (Eq.trans (Eq.symm h) h2) (by decide)) hSS
  refine lv_aload_n hx hb dX3_takeAtOnce_10 rfl (lv_at hl 0 rfl) ?_
  refine lv_iconst (v := (-1)) hx hb dX3_takeAtOnce_11 (by decide) ?_
  refine put3 B hP hS h 2 (by decide) mw_99 rfl rfl rfl (fs3_2 E k _ _) dX3_takeAtOnce_12 (fun H locs hP hS => ?_)
  obtain ⟨ρ11, e12⟩ : ∃ z, z = up ρ9 k 2 (-1) := ⟨_, rfl⟩
  rw [← e12] at hP
  have hI : CI r S ρ11 := by rw [e12]; exact CI_up hI (kind_lt h (by decide)) (SP_plain h rfl (by decide)) (fun h2 => absurd (Eq.trans (Eq.symm h) h2) (by decide)) hSS
  exact ret_v B hr hlk hP hS dX3_takeAtOnce_15 (hI)

theorem lk_RX3_22 : LkV RX3 22 RX3 yX3_takeAtOnce cX3_takeAtOnce 2 none 1 := ⟨⟨mw_670, mw_671, mw_672, mw_55, mw_673⟩, by decide +kernel⟩
set_option maxHeartbeats 4000000 in
set_option maxRecDepth 100000 in
theorem d_X3_changesAt (l : Launch) (E : hE) (ρ r : Nat → Nat → Int32) (S : Nat → Prop) (hSS : ∀ x, S x → hk x = 2) (k : Nat) (h : hk k = 3) (a1 : Int32) (hI : CI r S ρ) : Met l yX3_changesAt (.code yX3_changesAt cX3_changesAt 2 (some .boolean) :: gw_all) (rmk 2 80) (cPre E ρ [.ref (E.2.1 + k), .int a1]) (cI E (fun v ρ1 => CI r S ρ1 ∧ iR v 0 1)) 0 0 (hA E) := by
  refine ent (own := RX3) (by decide) rfl (Nat.le_of_ble_eq_true rfl) ?_
  intro p e s m below meth c ls B hr hlk hl hP hS
  have hx := B.1.1
  have hb := B.1.2.1
  have hown := B.1.2.2.2.1
  have hts := B.1.2.2.2.2
  have hl : lv_has ls 2 [(0, .ref (E.2.1 + k)), (1, .int a1)] := hl
  refine lv_aload_n hx hb dX3_changesAt_0 rfl (lv_at hl 0 rfl) ?_
  refine get3 B hP h 1 (by decide) mw_96 rfl dX3_changesAt_1 ?_
  refine lv_if_eq (tgt := 15) hx hb dX3_changesAt_4 (by decide) (fun c8 => ?_) (fun c8 => ?_)
  · skip
    have i9 : iR (ρ k 1) (0) (0) := (by rw [c8]; exact ⟨by decide, by decide⟩)
    refine lv_iconst (v := 0) hx hb dX3_changesAt_15 (by decide) ?_
    exact ret_z B hr hlk hP hS dX3_changesAt_16 (Or.inl rfl) (⟨hI, (iR_w (a := 0) (b := 0) (show iR 0 0 0 from ⟨by decide, by decide⟩) (by decide) (by decide))⟩)
  · skip
    refine lv_aload_n hx hb dX3_changesAt_7 rfl (lv_at hl 0 rfl) ?_
    refine get3 B hP h 2 (by decide) mw_99 rfl dX3_changesAt_8 ?_
    refine lv_iload_n hx hb dX3_changesAt_11 rfl (lv_at hl 1 rfl) ?_
    refine lv_icmp_le (tgt := 17) hx hb dX3_changesAt_12 (by decide) (fun c10 => ?_) (fun c10 => ?_)
    · skip
      refine lv_aload_n hx hb dX3_changesAt_17 rfl (lv_at hl 0 rfl) ?_
      refine lv_aload_n hx hb dX3_changesAt_18 rfl (lv_at hl 0 rfl) ?_
      refine get3 B hP h 1 (by decide) mw_96 (v := .int (ρ k 1)) (show some (Value.int (ρ k 1)) = some (Value.int (ρ k 1)) from congrArg (fun z => some (Value.int z)) rfl) dX3_changesAt_19 ?_
      refine call_v (cVt (k := k) (av := [.int (ρ k 1)]) (rest := []) B hP hS (d_X3_takeAtOnce l E ρ r S hSS k h (ρ k 1) hI) lk_RX3_22 (hrecv (ci := 3) B hP (hk_lt (c := 3) h (by decide)) (hcc3 _ _ h) rfl) rfl rfl hl.1 (Nat.le_of_ble_eq_true rfl) ⟨Nat.le_of_ble_eq_true rfl, Nat.le_of_ble_eq_true rfl⟩ ⟨Nat.le_of_ble_eq_true rfl, Nat.le_of_ble_eq_true rfl⟩ dX3_changesAt_22) hS (fun ρ12 H locs q13 hP hS => ?_)
      have hI := q13
      refine lv_iconst (v := 1) hx hb dX3_changesAt_25 (by decide) ?_
      exact ret_z B hr hlk hP hS dX3_changesAt_26 (Or.inr rfl) (⟨hI, (iR_w (a := 1) (b := 1) (show iR 1 1 1 from ⟨by decide, by decide⟩) (by decide) (by decide))⟩)
    · skip
      refine lv_iconst (v := 0) hx hb dX3_changesAt_15 (by decide) ?_
      exact ret_z B hr hlk hP hS dX3_changesAt_16 (Or.inl rfl) (⟨hI, (iR_w (a := 0) (b := 0) (show iR 0 0 0 from ⟨by decide, by decide⟩) (by decide) (by decide))⟩)

set_option maxHeartbeats 4000000 in
set_option maxRecDepth 100000 in
theorem d_X4_append (l : Launch) (E : hE) (ρ r : Nat → Nat → Int32) (S : Nat → Prop) (hSS : ∀ x, S x → hk x = 2) (k : Nat) (h : hk k = 4) (a1 : Int32) (a2 : Int32) (hI : CI r S ρ) : Met l yX4_append (.code yX4_append cX4_append 3 none :: gw_all) (rmk 1 40) (cPre E ρ [.ref (E.2.1 + k), .int a1, .int a2]) (cV E (fun ρ1 => CI r S ρ1)) 0 0 (hA E) := by
  refine ent (own := RX4) (by decide) rfl (Nat.le_of_ble_eq_true rfl) ?_
  intro p e s m below meth c ls B hr hlk hl hP hS
  have hx := B.1.1
  have hb := B.1.2.1
  have hown := B.1.2.2.2.1
  have hts := B.1.2.2.2.2
  have hl : lv_has ls 3 [(0, .ref (E.2.1 + k)), (1, .int a1), (2, .int a2)] := hl
  refine lv_aload_n hx hb dX4_append_0 rfl (lv_at hl 0 rfl) ?_
  refine get4 B hP h 2 (by decide) mw_129 rfl dX4_append_1 ?_
  have i14 : iR (ρ k 2) 0 8 := CI_get hI (kind_lt h (by decide)) h rfl
  obtain ⟨j15, lj15, uj15, ej15⟩ := iR_nat (a := 0) (b := 8) i14
  refine lv_topi (fun z16 ez16 => ?_)
  obtain rfl : z16 = nI j15 := ez16.trans ej15
  refine lv_bipush (v := 8) hx hb dX4_append_4 (by decide) ?_
  refine lv_icmp_ge (tgt := 39) hx hb dX4_append_6 (by decide) (fun c17 => ?_) (fun c17 => ?_)
  · skip
    have n18 := mt (nx_lt (a := j15) (b := 8) (by omega) (by omega)).mpr (show ¬ (nI j15 < nI 8) from (Int32.not_lt.mpr c17))
    exact ret_v B hr hlk hP hS dX4_append_39 (hI)
  · skip
    have n19 := (nx_lt (a := j15) (b := 8) (by omega) (by omega)).mp (show (nI j15 < nI 8) from (Int32.not_le.mp c17))
    refine lv_aload_n hx hb dX4_append_9 rfl (lv_at hl 0 rfl) ?_
    refine get4 B hP h 0 (by decide) mw_126 rfl dX4_append_10 ?_
    refine lv_aload_n hx hb dX4_append_13 rfl (lv_at hl 0 rfl) ?_
    refine get4 B hP h 2 (by decide) mw_129 (v := .int (nI j15)) (show some (Value.int (ρ k 2)) = some (Value.int (nI j15)) from congrArg (fun z => some (Value.int z)) ej15) dX4_append_14 ?_
    refine lv_iload_n hx hb dX4_append_17 rfl (lv_at hl 1 rfl) ?_
    refine astn (n := 8) (j := j15) B hP hS (lay4 h).1 (lay4 h).2.1 rfl (by omega) (by decide) dX4_append_18 (fun H locs hP hS => ?_)
    obtain ⟨ρ20, e21⟩ : ∃ z, z = up ρ (k + 1) j15 a1 := ⟨_, rfl⟩
    rw [← e21] at hP
    have hI : CI r S ρ20 := by rw [e21]; exact CI_up hI (by have := lay4l h; omega) (SP_plain (lay4 h).1 rfl (by decide)) (fun h2 => absurd (Eq.trans (Eq.symm (lay4 h).1) h2) (by decide)) hSS
    refine lv_aload_n hx hb dX4_append_19 rfl (lv_at hl 0 rfl) ?_
    refine get4 B hP h 1 (by decide) mw_128 rfl dX4_append_20 ?_
    refine lv_aload_n hx hb dX4_append_23 rfl (lv_at hl 0 rfl) ?_
    refine get4 B hP h 2 (by decide) mw_129 (v := .int (nI j15)) (show some (Value.int (ρ20 k 2)) = some (Value.int (nI j15)) from congrArg (fun z => some (Value.int z)) (by rw [e21]; exact up_get_ne (Or.inl (fun z => absurd (Eq.trans (Eq.symm h) (Eq.trans (congrArg hk z) (lay4 h).1)) (by decide))) ej15)) dX4_append_24 ?_
    refine lv_iload_n hx hb dX4_append_27 rfl (lv_at hl 2 rfl) ?_
    refine astn (n := 8) (j := j15) B hP hS (lay4 h).2.2.1 (lay4 h).2.2.2 rfl (by omega) (by decide) dX4_append_28 (fun H locs hP hS => ?_)
    obtain ⟨ρ22, e23⟩ : ∃ z, z = up ρ20 (k + 2) j15 a2 := ⟨_, rfl⟩
    rw [← e23] at hP
    have hI : CI r S ρ22 := by rw [e23]; exact CI_up hI (by have := lay4l h; omega) (SP_plain (lay4 h).2.2.1 rfl (by decide)) (fun h2 => absurd (Eq.trans (Eq.symm (lay4 h).2.2.1) h2) (by decide)) hSS
    refine lv_aload_n hx hb dX4_append_29 rfl (lv_at hl 0 rfl) ?_
    refine lv_dup hx hb dX4_append_30 rfl ?_
    refine get4 B hP h 2 (by decide) mw_129 (v := .int (nI j15)) (show some (Value.int (ρ22 k 2)) = some (Value.int (nI j15)) from congrArg (fun z => some (Value.int z)) (by rw [e23]; exact up_get_ne (Or.inl (fun z => absurd (Eq.trans (Eq.symm h) (Eq.trans (congrArg hk z) (lay4 h).2.2.1)) (by decide))) (by rw [e21]; exact up_get_ne (Or.inl (fun z => absurd (Eq.trans (Eq.symm h) (Eq.trans (congrArg hk z) (lay4 h).1)) (by decide))) ej15))) dX4_append_31 ?_
    refine lv_iconst (v := 1) hx hb dX4_append_34 (by decide) ?_
    refine lv_iadd hx hb dX4_append_35 ?_
    refine lv_topi (fun z24 ez24 => ?_)
    obtain rfl : z24 = (nI (1 + j15)) := ez24.trans (by rw [show (nI j15) = nI j15 from rfl, show 1 = nI 1 from rfl, nI_add]; exact congrArg nI (by omega))
    refine put4 B hP hS h 2 (by decide) mw_129 rfl rfl rfl (fs4_2 E k _ _) dX4_append_36 (fun H locs hP hS => ?_)
    obtain ⟨ρ25, e26⟩ : ∃ z, z = up ρ22 k 2 (nI (1 + j15)) := ⟨_, rfl⟩
    rw [← e26] at hP
    have hI : CI r S ρ25 := by rw [e26]; exact CI_up hI (kind_lt h (by decide)) (SP_rng h rfl (by decide) (iR_w (a := 1) (b := 8) (nI_iR (a := 1) (b := 8) (by omega) (by omega) (by omega)) (by decide) (by decide))) (fun h2 => absurd (Eq.trans (Eq.symm h) h2) (by decide)) hSS
    exact ret_v B hr hlk hP hS dX4_append_39 (hI)
