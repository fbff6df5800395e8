theorem KER_rng (a c : Int32) : iR (KER a c) 0 22 := by
  rw [← HOP_KER]
  obtain ⟨y, hy, ey⟩ := (kZ_eq a c).2
  obtain ⟨-, y2, hy2, ey2⟩ := hz_eq (p := kP a c) 9 (by decide) y hy
  obtain ⟨u, hu, eu⟩ := pk_andE (a >>> ((19 : Int32) &&& 31)) (m := 31) 5 rfl
  unfold HOP
  rw [ey, ey2, eu, nI_add]
  have hq : ∃ q, q < 14 ∧ (if (c &&& 1) = 1 then (13 : Int32) else 0) = nI q := by
    by_cases h : (c &&& 1) = 1
    · rw [if_pos h]; exact ⟨13, by decide, rfl⟩
    · rw [if_neg h]; exact ⟨0, by decide, rfl⟩
  obtain ⟨q, hq, eq⟩ := hq
  rw [eq, nI_add]
  unfold rem23
  obtain ⟨j, hj, ej⟩ := nI_rem (a := y2 + u + q) (b := 23) (by omega) (by decide) (by decide)
  rw [show (23 : Int32) = nI 23 from rfl, ej]
  exact nI_iR (by omega) (by omega) (by omega)
theorem any_nI (y : Int32) : ∃ Y : Nat, y = nI Y := ⟨y.toBitVec.toNat, by apply Int32.toBitVec_inj.mp; simp [nI]⟩
theorem iR_andL {x y : Int32} {a b : Int} (h : iR x a b) (ha : 0 ≤ a) : iR (x &&& y) 0 b := by
  obtain ⟨j, hj, e⟩ := nI_of (x := x) (fun q => by have q := Int32.lt_iff_toInt_lt.mp q; have h0 : (0 : Int32).toInt = 0 := rfl; rw [h0] at q; have := h.1; omega)
  obtain ⟨Y, rfl⟩ := any_nI y
  have h2 := h.2
  rw [e, nI_toInt hj] at h2
  rw [e, nI_and]
  have := Nat.and_le_left (n := j) (m := Y)
  exact nI_iR (by omega) (by omega) (by omega)
theorem iR_andR {x y : Int32} {a b : Int} (h : iR y a b) (ha : 0 ≤ a) : iR (x &&& y) 0 b := by
  rw [Int32.and_comm]
  exact iR_andL h ha
theorem nI_or {a b : Nat} : nI a ||| nI b = nI (a ||| b) := by
  apply Int32.toBitVec_inj.mp
  simp [nI]
theorem iR_or {x y : Int32} (h1 : iR x 0 8388607) (h2 : iR y 0 8388607) : iR (x ||| y) 0 8388607 := by
  obtain ⟨j, -, hj, rfl⟩ := iR_nat (a := 0) (b := 8388607) h1
  obtain ⟨k, -, hk, rfl⟩ := iR_nat (a := 0) (b := 8388607) h2
  rw [nI_or]
  have := Nat.or_lt_two_pow (n := 23) (x := j) (y := k) (by omega) (by omega)
  exact nI_iR (by omega) (by omega) (by omega)
theorem shl1T : (List.range 23).all (fun c => decide (1 ≤ ((1 : Int32) <<< (nI c &&& 31)).toInt ∧ ((1 : Int32) <<< (nI c &&& 31)).toInt ≤ 4194304)) = true := by decide +kernel
theorem iR_shl1 {c : Nat} (h : c < 23) : iR ((1 : Int32) <<< (nI c &&& 31)) 1 4194304 := by
  have q := List.all_eq_true.mp shl1T c (List.mem_range.mpr h)
  simp only [decide_eq_true_eq] at q
  exact q
