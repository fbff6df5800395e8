theorem iR_any (x : Int32) : iR x (-2147483648) 2147483647 := by
  have h1 := Int32.le_toInt x
  have h2 := Int32.toInt_lt x
  unfold iR
  omega
theorem iR_nat {x : Int32} {a b : Nat} (h : iR x a b) : ∃ j : Nat, a ≤ j ∧ j ≤ b ∧ x = nI j := by
  unfold iR at h
  have h2 := Int32.toInt_lt x
  obtain ⟨j, hj, e⟩ := nI_of (x := x) (fun q => by have := Int32.lt_iff_toInt_lt.mp q; have h0 : (0 : Int32).toInt = 0 := rfl; omega)
  have e2 : x.toInt = j := by rw [e, nI_toInt hj]
  exact ⟨j, by omega, by omega, e⟩
theorem nI_iR {j : Nat} {a b : Int} (hj : j < 2 ^ 31) (h1 : a ≤ j) (h2 : (j : Int) ≤ b) : iR (nI j) a b := by
  unfold iR
  rw [nI_toInt hj]
  exact ⟨h1, h2⟩
theorem iR_w {x : Int32} {a b a' b' : Int} (h : iR x a b) (h1 : a' ≤ a) (h2 : b ≤ b') : iR x a' b' := by
  unfold iR at *
  omega
theorem iR_ltL {x y : Int32} {a b c d b' : Int} (hx : iR x a b) (hy : iR y c d) (h : x < y) (hb : b' = if d - 1 < b then d - 1 else b) : iR x a b' := by
  have h := Int32.lt_iff_toInt_lt.mp h
  unfold iR at *
  subst hb
  split <;> omega
theorem iR_ltR {x y : Int32} {a b c d c' : Int} (hx : iR x a b) (hy : iR y c d) (h : x < y) (hc : c' = if c < a + 1 then a + 1 else c) : iR y c' d := by
  have h := Int32.lt_iff_toInt_lt.mp h
  unfold iR at *
  subst hc
  split <;> omega
theorem iR_geL {x y : Int32} {a b c d a' : Int} (hx : iR x a b) (hy : iR y c d) (h : ¬ x < y) (ha : a' = if a < c then c else a) : iR x a' b := by
  have h := Int32.le_iff_toInt_le.mp (Int32.not_lt.mp h)
  unfold iR at *
  subst ha
  split <;> omega
theorem iR_geR {x y : Int32} {a b c d d' : Int} (hx : iR x a b) (hy : iR y c d) (h : ¬ x < y) (hd : d' = if b < d then b else d) : iR y c d' := by
  have h := Int32.le_iff_toInt_le.mp (Int32.not_lt.mp h)
  unfold iR at *
  subst hd
  split <;> omega
theorem iR_leL {x y : Int32} {a b c d b' : Int} (hx : iR x a b) (hy : iR y c d) (h : x ≤ y) (hb : b' = if d < b then d else b) : iR x a b' := by
  have h := Int32.le_iff_toInt_le.mp h
  unfold iR at *
  subst hb
  split <;> omega
theorem iR_leR {x y : Int32} {a b c d c' : Int} (hx : iR x a b) (hy : iR y c d) (h : x ≤ y) (hc : c' = if c < a then a else c) : iR y c' d := by
  have h := Int32.le_iff_toInt_le.mp h
  unfold iR at *
  subst hc
  split <;> omega
theorem iR_gtL {x y : Int32} {a b c d a' : Int} (hx : iR x a b) (hy : iR y c d) (h : ¬ x ≤ y) (ha : a' = if a < c + 1 then c + 1 else a) : iR x a' b := by
  have h := Int32.lt_iff_toInt_lt.mp (Int32.not_le.mp h)
  unfold iR at *
  subst ha
  split <;> omega
theorem iR_gtR {x y : Int32} {a b c d d' : Int} (hx : iR x a b) (hy : iR y c d) (h : ¬ x ≤ y) (hd : d' = if b - 1 < d then b - 1 else d) : iR y c d' := by
  have h := Int32.lt_iff_toInt_lt.mp (Int32.not_le.mp h)
  unfold iR at *
  subst hd
  split <;> omega
theorem iR_neL {x y : Int32} {a b c a' b' : Int} (hx : iR x a b) (hy : iR y c c) (h : ¬ x = y) (ha : a' = if a = c then a + 1 else a) (hb : b' = if b = c then b - 1 else b) : iR x a' b' := by
  have h2 : ¬ x.toInt = y.toInt := fun e => h (Int32.toInt_inj.mp e)
  unfold iR at *
  subst ha
  subst hb
  split <;> split <;> omega
theorem iR_lt {x y : Int32} {a b c d : Int} (hx : iR x a b) (hy : iR y c d) (h : b < c) : x < y := by
  unfold iR at *
  exact Int32.lt_iff_toInt_lt.mpr (by omega)
theorem iR_nlt {x y : Int32} {a b c d : Int} (hx : iR x a b) (hy : iR y c d) (h : d ≤ a) : ¬ x < y := by
  unfold iR at *
  exact Int32.not_lt.mpr (Int32.le_iff_toInt_le.mpr (by omega))
theorem iR_le {x y : Int32} {a b c d : Int} (hx : iR x a b) (hy : iR y c d) (h : b ≤ c) : x ≤ y := by
  unfold iR at *
  exact Int32.le_iff_toInt_le.mpr (by omega)
theorem iR_nle {x y : Int32} {a b c d : Int} (hx : iR x a b) (hy : iR y c d) (h : d < a) : ¬ x ≤ y := by
  unfold iR at *
  exact Int32.not_le.mpr (Int32.lt_iff_toInt_lt.mpr (by omega))
theorem iR_ne {x y : Int32} {a b c d : Int} (hx : iR x a b) (hy : iR y c d) (h : b < c ∨ d < a) : ¬ x = y := by
  intro e
  subst e
  unfold iR at *
  omega
theorem iR_add {x y : Int32} {a b c d a' b' : Int} (hx : iR x a b) (hy : iR y c d) (h1 : -2147483648 ≤ a + c) (h2 : b + d ≤ 2147483647) (ha : a' = a + c) (hb : b' = b + d) : iR (x + y) a' b' := by
  subst ha
  subst hb
  unfold iR at *
  rw [Int32.toInt_add, Int.bmod_eq_of_le (by omega) (by omega)]
  omega
theorem iR_sub {x y : Int32} {a b c d a' b' : Int} (hx : iR x a b) (hy : iR y c d) (h1 : -2147483648 ≤ a - d) (h2 : b - c ≤ 2147483647) (ha : a' = a - d) (hb : b' = b - c) : iR (x - y) a' b' := by
  subst ha
  subst hb
  unfold iR at *
  rw [Int32.toInt_sub, Int.bmod_eq_of_le (by omega) (by omega)]
  omega
theorem b01 {v : Int32} (h : iR v 0 1) : v = 0 ∨ v = 1 := by
  obtain ⟨j, -, h2, rfl⟩ := iR_nat (a := 0) (b := 1) h
  rcases (show j = 0 ∨ j = 1 by omega) with rfl | rfl
  · exact Or.inl rfl
  · exact Or.inr rfl
theorem nI_mul (a b : Nat) : nI a * nI b = nI (a * b) := (Int32.ofNat_mul a b).symm
theorem nI_rem {a b : Nat} (ha : a < 2 ^ 31) (hb : b < 2 ^ 31) (h0 : 0 < b) : ∃ j : Nat, j < b ∧ nI a - nI a / nI b * nI b = nI j := by
  refine ⟨a % b, Nat.mod_lt _ h0, ?_⟩
  have hd : nI a / nI b = nI (a / b) := by
    rw [← Int32.toInt_inj, Int32.toInt_div_of_ne_left _ _ (fun e => by have := congrArg Int32.toInt e; rw [nI_toInt ha] at this; have h2 : (Int32.minValue).toInt = -2147483648 := (by decide); omega), nI_toInt ha, nI_toInt hb, nI_toInt (Nat.lt_of_le_of_lt (Nat.div_le_self a b) ha)]
    exact Int.ofNat_tdiv a b
  rw [hd, nI_mul]
  have e := Nat.div_add_mod a b
  rw [Nat.mul_comm] at e
  have e2 : nI a = nI (a / b * b) + nI (a % b) := by rw [nI_add, e]
  rw [e2, Int32.add_comm, Int32.add_sub_cancel]
theorem nx_lt {a b : Nat} (ha : a < 2 ^ 31) (hb : b < 2 ^ 31) : nI a < nI b ↔ a < b := by
  rw [Int32.lt_iff_toInt_lt, nI_toInt ha, nI_toInt hb]
  omega
theorem nx_le {a b : Nat} (ha : a < 2 ^ 31) (hb : b < 2 ^ 31) : nI a ≤ nI b ↔ a ≤ b := by
  rw [Int32.le_iff_toInt_le, nI_toInt ha, nI_toInt hb]
  omega
