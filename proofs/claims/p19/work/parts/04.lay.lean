abbrev hE : Type := va_G × Nat × (Nat → ClassId) × (Nat → Nat)
def hA (E : hE) : Nat → Prop := fun q => E.2.1 ≤ q
def wl (E : hE) (N : Nat) (C : Nat → va_E) : va_W := (List.range N).map (fun k => (E.2.1 + k, C k))
theorem wl_len (E : hE) (N : Nat) (C : Nat → va_E) : (wl E N C).length = N := by simp [wl]
theorem wl_get (E : hE) (N : Nat) (C : Nat → va_E) (i : Nat) : (wl E N C)[i]? = if i < N then some (E.2.1 + i, C i) else none := by
  unfold wl
  rw [List.getElem?_map]
  by_cases h : i < N
  · rw [List.getElem?_range h, if_pos h]; rfl
  · rw [List.getElem?_eq_none (by simp; omega), if_neg h]; rfl
theorem wl_at {E : hE} {N : Nat} {C : Nat → va_E} {k : Nat} (h : k < N) : (wl E N C)[k]? = some (E.2.1 + k, C k) := by rw [wl_get, if_pos h]
theorem wl_set {E : hE} {N : Nat} {C : Nat → va_E} {k : Nat} {e : va_E} (h : k < N) : (wl E N C).set k (E.2.1 + k, e) = wl E N (va_up C k e) := by
  apply List.ext_getElem?
  intro i
  rw [wl_get]
  by_cases hi : i = k
  · subst hi
    rw [List.getElem?_set_self (by rw [wl_len]; exact h), if_pos h]
    simp [va_up]
  · rw [List.getElem?_set_ne (Ne.symm hi), wl_get]
    simp [va_up, hi]
theorem wl_push {E : hE} {N : Nat} {C : Nat → va_E} {e : va_E} : wl E N C ++ [(E.2.1 + N, e)] = wl E (N + 1) (va_up C N e) := by
  apply List.ext_getElem?
  intro i
  rw [wl_get]
  by_cases hi : i < N
  · rw [List.getElem?_append_left (by rw [wl_len]; exact hi), wl_get, if_pos hi, if_pos (by omega)]
    simp [va_up, Nat.ne_of_lt hi]
  · rw [List.getElem?_append_right (by rw [wl_len]; omega), wl_len]
    by_cases h2 : i = N
    · subst h2
      simp [va_up]
    · rw [if_neg (by omega), List.getElem?_eq_none (by simp; omega)]
theorem wl_D (E : hE) (N : Nat) (C : Nat → va_E) : va_D (hA E) (wl E N C) := by
  refine ⟨fun i j p q hi hj hpq => ?_, fun k q h => ?_⟩
  · rw [wl_get] at hi hj
    by_cases h1 : i < N
    · by_cases h2 : j < N
      · rw [if_pos h1] at hi
        rw [if_pos h2] at hj
        cases hi
        cases hj
        have hpq : E.2.1 + i = E.2.1 + j := hpq
        omega
      · rw [if_neg h2] at hj; cases hj
    · rw [if_neg h1] at hi; cases hi
  · rw [wl_get] at h
    by_cases h1 : k < N
    · rw [if_pos h1] at h
      cases h
      exact Nat.le_add_right _ _
    · rw [if_neg h1] at h; cases h
theorem wl_ext {E : hE} {N : Nat} {C C' : Nat → va_E} (h : ∀ k, k < N → C k = C' k) : wl E N C = wl E N C' := by
  apply List.ext_getElem?
  intro i
  rw [wl_get, wl_get]
  by_cases hi : i < N
  · rw [if_pos hi, if_pos hi, h i hi]
  · rw [if_neg hi, if_neg hi]
def hkL (r : Nat) : Nat := ([1, 3, 4, 8, 8, 4, 8, 8, 0] : List Nat).getD r 99
def hkN (r : Nat) : Nat := if r = 0 then 2 else if r = 1 then 3 else if r < 5 then 8 else if r = 5 then 10 else hkL ((r - 6) % 9)
def hkW (r : Nat) : Nat := if r = 0 then 5 else if r < 4 then 8 else if r = 4 then 11 else hkN ((r - 5) % 42)
/-- the kind of the cell k: 0 Frames, 1 Link, 2 Net, 3 Plan, 4 Row, 5 World, 6 HopNet, 7 HopNetModel, 8 int[], 9 boolean[], 10 Link[], 11 Net[], 12 World[] -/
def hk (k : Nat) : Nat := if k = 0 then 6 else if k < 179 then hkW ((k - 1) % 89) else if k < 186 then ([12, 9, 12, 8, 8, 8, 8] : List Nat).getD (k - 179) 99 else if k < 1076 then hkW ((k - 186) % 89) else if k = 1076 then 7 else ([8, 8, 8, 8, 8, 9, 8, 8, 8, 8, 9, 9, 9] : List Nat).getD (k - 1077) 99
def hlL (r : Nat) : Nat := ([0, 0, 0, 8, 8, 0, 8, 8, 0] : List Nat).getD r 0
def hlN (r : Nat) : Nat := if r < 6 then ([0, 0, 4, 23, 23, 4] : List Nat).getD r 0 else hlL ((r - 6) % 9)
def hlW (r : Nat) : Nat := if r < 5 then ([0, 6, 23, 9, 2] : List Nat).getD r 0 else hlN ((r - 5) % 42)
/-- the length of the array in the cell k -/
def hlen (k : Nat) : Nat := if k = 0 then 0 else if k < 179 then hlW ((k - 1) % 89) else if k < 186 then ([2, 2, 8, 8, 5, 512, 576] : List Nat).getD (k - 179) 0 else if k < 1076 then hlW ((k - 186) % 89) else ([0, 6, 695, 5560, 8, 1390, 2, 695, 2, 2, 2, 2, 2, 2] : List Nat).getD (k - 1076) 0
def hw (k : Nat) : Nat := if k = 179 then 186 else 364
def fl0 (E : hE) (k : Nat) (f : Nat → Int32) : List Value := [.int (f 0), .int (f 1), .int (f 2), .int (f 3), .int (f 4), .int (f 5)]
def fl1 (E : hE) (k : Nat) (f : Nat → Int32) : List Value := [.ref (E.2.1 + (k + 1)), .ref (E.2.1 + (k + 2)), .ref (E.2.1 + (k + 5)), .ref (E.2.1 + (k + 8)), .int (f 4), .int (f 5), .int (f 6), .int (f 7), .int (f 8), .int (f 9), .int (f 10), .int (f 11), .int (f 12), .int (f 13), .int (f 14), .int (f 15), .int (f 16), .int (f 17)]
def fl2 (E : hE) (k : Nat) (f : Nat → Int32) : List Value := [.ref (E.2.1 + (k + 1)), .ref (E.2.1 + (k + 2)), .ref (E.2.1 + (k + 3)), .ref (E.2.1 + (k + 4)), .ref (E.2.1 + (k + 5)), .int (f 5), .int (f 6), .int (f 7), .int (f 8), .int (f 9), .int (f 10), .int (f 11), .int (f 12), .int (f 13), .int (f 14), .int (f 15), .int (f 16), .int (f 17), .int (f 18), .int (f 19)]
def fl3 (E : hE) (k : Nat) (f : Nat → Int32) : List Value := [.int (f 0), .int (f 1), .int (f 2)]
def fl4 (E : hE) (k : Nat) (f : Nat → Int32) : List Value := [.ref (E.2.1 + (k + 1)), .ref (E.2.1 + (k + 2)), .int (f 2), .int (f 3), .int (f 4), .int (f 5), .int (f 6), .int (f 7)]
def fl5 (E : hE) (k : Nat) (f : Nat → Int32) : List Value := [.ref (E.2.1 + (k + 1)), .ref (E.2.1 + (k + 2)), .ref (E.2.1 + (k + 3)), .ref (E.2.1 + (k + 4)), .int (f 4), .int (f 5), .int (f 6), .int (f 7), .int (f 8), .int (f 9)]
def fl6 (E : hE) (k : Nat) (f : Nat → Int32) : List Value := [.ref (E.2.1 + (k + 1)), .ref (E.2.1 + (k + 90)), .ref (E.2.1 + (k + 179)), .ref (E.2.1 + (k + 180)), .ref (E.2.1 + (k + 181)), .ref (E.2.1 + (k + 182)), .int (f 6), .int (f 7), .ref (E.2.1 + (k + 183)), .int (f 9), .ref (E.2.1 + (k + 184)), .ref (E.2.1 + (k + 185))]
def fl7 (E : hE) (k : Nat) (f : Nat → Int32) : List Value := [.int (f 0), .int (f 1), .ref (E.2.1 + (k + 1)), .ref (E.2.1 + (k + 2)), .ref (E.2.1 + (k + 3)), .ref (E.2.1 + (k + 4)), .int (f 6), .ref (E.2.1 + (k + 5)), .ref (E.2.1 + (k + 6)), .ref (E.2.1 + (k + 7)), .ref (E.2.1 + (k + 8)), .ref (E.2.1 + (k + 9)), .ref (E.2.1 + (k + 10)), .ref (E.2.1 + (k + 11)), .ref (E.2.1 + (k + 12)), .ref (E.2.1 + (k + 13)), .int (f 16), .int (f 17)]
/-- what the cell k holds -/
def hcc (E : hE) (k : Nat) (f : Nat → Int32) : va_E :=
  if hk k = 0 then .inr (0, fl0 E k f) else if hk k = 1 then .inr (1, fl1 E k f) else if hk k = 2 then .inr (2, fl2 E k f) else if hk k = 3 then .inr (3, fl3 E k f) else if hk k = 4 then .inr (4, fl4 E k f) else if hk k = 5 then .inr (5, fl5 E k f) else if hk k = 6 then .inr (6, fl6 E k f) else if hk k = 7 then .inr (7, fl7 E k f)
  else if hk k = 8 then .inl (E.2.2.1 0, hlen k, .inl f) else if hk k = 9 then .inl (E.2.2.1 1, hlen k, .inl f) else if hk k = 10 then .inl (E.2.2.1 2, hlen k, .inr (.inr (.inr (.inr (fun i => some (E.2.1 + (f i).toNatClampNeg)))))) else if hk k = 11 then .inl (E.2.2.1 3, hlen k, .inr (.inr (.inr (.inr (fun i => some (E.2.1 + (k + 1 + 42 * i))))))) else .inl (E.2.2.1 4, hlen k, .inr (.inr (.inr (.inr (fun i => some (E.2.1 + (hw k + 89 * i)))))))
def hcf (E : hE) (ρ : Nat → Nat → Int32) : Nat → va_E := fun k => hcc E k (ρ k)
/-- the state with the slot j of the cell k changed -/
def up (ρ : Nat → Nat → Int32) (k j : Nat) (v : Int32) : Nat → Nat → Int32 := fun k' => if k' = k then upd (ρ k) j v else ρ k'
def upc (ρ : Nat → Nat → Int32) (k : Nat) (f : Nat → Int32) : Nat → Nat → Int32 := fun k' => if k' = k then f else ρ k'
theorem upc_at (ρ : Nat → Nat → Int32) (k : Nat) (f : Nat → Int32) : upc ρ k f k = f := if_pos rfl
theorem upc_ne (ρ : Nat → Nat → Int32) {k k' : Nat} (f : Nat → Int32) (h : k' ≠ k) : upc ρ k f k' = ρ k' := if_neg h
theorem up_at (ρ : Nat → Nat → Int32) (k j : Nat) (v : Int32) : up ρ k j v k = upd (ρ k) j v := if_pos rfl
theorem up_ne (ρ : Nat → Nat → Int32) {k k' : Nat} (j : Nat) (v : Int32) (h : k' ≠ k) : up ρ k j v k' = ρ k' := if_neg h
theorem up_eq (ρ : Nat → Nat → Int32) (k j : Nat) (v : Int32) : up ρ k j v = upc ρ k (upd (ρ k) j v) := rfl
theorem upc_self (ρ : Nat → Nat → Int32) {k : Nat} {f : Nat → Int32} (h : ∀ j, f j = ρ k j) : upc ρ k f = ρ := by
  funext k' j
  by_cases hk : k' = k
  · subst hk; rw [upc_at]; exact h j
  · rw [upc_ne _ _ hk]
theorem up_self (ρ : Nat → Nat → Int32) {k j : Nat} {v : Int32} (h : ρ k j = v) : up ρ k j v = ρ := by
  rw [up_eq]
  refine upc_self ρ (fun i => ?_)
  by_cases hi : i = j
  · subst hi; simp [upd, h]
  · simp [upd, hi]
theorem hcf_up (E : hE) (ρ : Nat → Nat → Int32) (k : Nat) (f : Nat → Int32) : va_up (hcf E ρ) k (hcc E k f) = hcf E (upc ρ k f) := by
  funext k'
  by_cases h : k' = k
  · subst h; simp [va_up, hcf, upc]
  · simp [va_up, hcf, upc, h]
theorem hcc0 (E : hE) {k : Nat} (f : Nat → Int32) (h : hk k = 0) : hcc E k f = .inr (0, fl0 E k f) := by simp [hcc, h]
theorem hcc1 (E : hE) {k : Nat} (f : Nat → Int32) (h : hk k = 1) : hcc E k f = .inr (1, fl1 E k f) := by simp [hcc, h]
theorem hcc2 (E : hE) {k : Nat} (f : Nat → Int32) (h : hk k = 2) : hcc E k f = .inr (2, fl2 E k f) := by simp [hcc, h]
theorem hcc3 (E : hE) {k : Nat} (f : Nat → Int32) (h : hk k = 3) : hcc E k f = .inr (3, fl3 E k f) := by simp [hcc, h]
theorem hcc4 (E : hE) {k : Nat} (f : Nat → Int32) (h : hk k = 4) : hcc E k f = .inr (4, fl4 E k f) := by simp [hcc, h]
theorem hcc5 (E : hE) {k : Nat} (f : Nat → Int32) (h : hk k = 5) : hcc E k f = .inr (5, fl5 E k f) := by simp [hcc, h]
theorem hcc6 (E : hE) {k : Nat} (f : Nat → Int32) (h : hk k = 6) : hcc E k f = .inr (6, fl6 E k f) := by simp [hcc, h]
theorem hcc7 (E : hE) {k : Nat} (f : Nat → Int32) (h : hk k = 7) : hcc E k f = .inr (7, fl7 E k f) := by simp [hcc, h]
theorem hcc8 (E : hE) {k : Nat} (f : Nat → Int32) (h : hk k = 8) : hcc E k f = .inl (E.2.2.1 0, hlen k, .inl f) := by simp [hcc, h]
theorem hcc9 (E : hE) {k : Nat} (f : Nat → Int32) (h : hk k = 9) : hcc E k f = .inl (E.2.2.1 1, hlen k, .inl f) := by simp [hcc, h]
theorem hcc10 (E : hE) {k : Nat} (f : Nat → Int32) (h : hk k = 10) : hcc E k f = .inl (E.2.2.1 2, hlen k, .inr (.inr (.inr (.inr (fun i => some (E.2.1 + (f i).toNatClampNeg)))))) := by simp [hcc, h]
theorem hcc11 (E : hE) {k : Nat} (f : Nat → Int32) (h : hk k = 11) : hcc E k f = .inl (E.2.2.1 3, hlen k, .inr (.inr (.inr (.inr (fun i => some (E.2.1 + (k + 1 + 42 * i))))))) := by simp [hcc, h]
theorem hcc12 (E : hE) {k : Nat} (f : Nat → Int32) (h : hk k = 12) : hcc E k f = .inl (E.2.2.1 4, hlen k, .inr (.inr (.inr (.inr (fun i => some (E.2.1 + (hw k + 89 * i))))))) := by simp [hcc, h]
theorem hk_big {k : Nat} (h : 1090 ≤ k) : hk k = 99 := by
  unfold hk
  rw [if_neg (by omega), if_neg (by omega), if_neg (by omega), if_neg (by omega), if_neg (by omega), List.getD_eq_getElem?_getD, List.getElem?_eq_none (by simp; omega)]
  rfl
theorem hk_lt {k c : Nat} (h : hk k = c) (hc : c ≠ 99) : k < 1090 := by
  rcases Nat.lt_or_ge k 1090 with q | q
  · exact q
  · exact absurd ((hk_big q).symm.trans h).symm hc
theorem lay1b : (List.range 1090).all (fun k => !(hk k == 1) || (hk (k + 1) == 3 && hk (k + 2) == 4 && hk (k + 5) == 4 && hk (k + 8) == 0)) = true := by decide +kernel
theorem lay1 {k : Nat} (h : hk k = 1) : hk (k + 1) = 3 ∧ hk (k + 2) = 4 ∧ hk (k + 5) = 4 ∧ hk (k + 8) = 0 := by
  have q := List.all_eq_true.mp lay1b k (List.mem_range.mpr (hk_lt h (by decide)))
  simpa [h, and_assoc] using q
theorem lay4b : (List.range 1090).all (fun k => !(hk k == 4) || (hk (k + 1) == 8 && hlen (k + 1) == 8 && hk (k + 2) == 8 && hlen (k + 2) == 8)) = true := by decide +kernel
theorem lay4 {k : Nat} (h : hk k = 4) : hk (k + 1) = 8 ∧ hlen (k + 1) = 8 ∧ hk (k + 2) = 8 ∧ hlen (k + 2) = 8 := by
  have q := List.all_eq_true.mp lay4b k (List.mem_range.mpr (hk_lt h (by decide)))
  simpa [h, and_assoc] using q
theorem lay2b : (List.range 1090).all (fun k => !(hk k == 2) || (hk (k + 1) == 3 && hk (k + 2) == 8 && hlen (k + 2) == 4 && hk (k + 3) == 8 && hlen (k + 3) == 23 && hk (k + 4) == 8 && hlen (k + 4) == 23 && hk (k + 5) == 10 && hlen (k + 5) == 4 && hk (k + 6) == 1 && hk (k + 15) == 1 && hk (k + 24) == 1 && hk (k + 33) == 1)) = true := by decide +kernel
theorem lay2 {k : Nat} (h : hk k = 2) : hk (k + 1) = 3 ∧ hk (k + 2) = 8 ∧ hlen (k + 2) = 4 ∧ hk (k + 3) = 8 ∧ hlen (k + 3) = 23 ∧ hk (k + 4) = 8 ∧ hlen (k + 4) = 23 ∧ hk (k + 5) = 10 ∧ hlen (k + 5) = 4 ∧ hk (k + 6) = 1 ∧ hk (k + 15) = 1 ∧ hk (k + 24) = 1 ∧ hk (k + 33) = 1 := by
  have q := List.all_eq_true.mp lay2b k (List.mem_range.mpr (hk_lt h (by decide)))
  simpa [h, and_assoc] using q
theorem lay5b : (List.range 1090).all (fun k => !(hk k == 5) || (hk (k + 1) == 8 && hlen (k + 1) == 6 && hk (k + 2) == 8 && hlen (k + 2) == 23 && hk (k + 3) == 8 && hlen (k + 3) == 9 && hk (k + 4) == 11 && hlen (k + 4) == 2 && hk (k + 5) == 2 && hk (k + 47) == 2)) = true := by decide +kernel
theorem lay5 {k : Nat} (h : hk k = 5) : hk (k + 1) = 8 ∧ hlen (k + 1) = 6 ∧ hk (k + 2) = 8 ∧ hlen (k + 2) = 23 ∧ hk (k + 3) = 8 ∧ hlen (k + 3) = 9 ∧ hk (k + 4) = 11 ∧ hlen (k + 4) = 2 ∧ hk (k + 5) = 2 ∧ hk (k + 47) = 2 := by
  have q := List.all_eq_true.mp lay5b k (List.mem_range.mpr (hk_lt h (by decide)))
  simpa [h, and_assoc] using q
theorem lay5n {k n : Nat} (h : hk k = 5) (hn : n < 2) : hk (k + 4 + 1 + 42 * n) = 2 := by
  rcases (show n = 0 ∨ n = 1 by omega) with rfl | rfl
  · exact (lay5 h).2.2.2.2.2.2.2.2.1
  · exact (lay5 h).2.2.2.2.2.2.2.2.2
theorem fs0_0 (E : hE) (k : Nat) (f : Nat → Int32) (v : Int32) : (fl0 E k f).set 0 (.int v) = fl0 E k (upd f 0 v) := rfl
theorem fs0_1 (E : hE) (k : Nat) (f : Nat → Int32) (v : Int32) : (fl0 E k f).set 1 (.int v) = fl0 E k (upd f 1 v) := rfl
theorem fs0_2 (E : hE) (k : Nat) (f : Nat → Int32) (v : Int32) : (fl0 E k f).set 2 (.int v) = fl0 E k (upd f 2 v) := rfl
theorem fs0_3 (E : hE) (k : Nat) (f : Nat → Int32) (v : Int32) : (fl0 E k f).set 3 (.int v) = fl0 E k (upd f 3 v) := rfl
theorem fs0_4 (E : hE) (k : Nat) (f : Nat → Int32) (v : Int32) : (fl0 E k f).set 4 (.int v) = fl0 E k (upd f 4 v) := rfl
theorem fs0_5 (E : hE) (k : Nat) (f : Nat → Int32) (v : Int32) : (fl0 E k f).set 5 (.int v) = fl0 E k (upd f 5 v) := rfl
theorem fs1_4 (E : hE) (k : Nat) (f : Nat → Int32) (v : Int32) : (fl1 E k f).set 4 (.int v) = fl1 E k (upd f 4 v) := rfl
theorem fs1_5 (E : hE) (k : Nat) (f : Nat → Int32) (v : Int32) : (fl1 E k f).set 5 (.int v) = fl1 E k (upd f 5 v) := rfl
theorem fs1_6 (E : hE) (k : Nat) (f : Nat → Int32) (v : Int32) : (fl1 E k f).set 6 (.int v) = fl1 E k (upd f 6 v) := rfl
theorem fs1_7 (E : hE) (k : Nat) (f : Nat → Int32) (v : Int32) : (fl1 E k f).set 7 (.int v) = fl1 E k (upd f 7 v) := rfl
theorem fs1_8 (E : hE) (k : Nat) (f : Nat → Int32) (v : Int32) : (fl1 E k f).set 8 (.int v) = fl1 E k (upd f 8 v) := rfl
theorem fs1_9 (E : hE) (k : Nat) (f : Nat → Int32) (v : Int32) : (fl1 E k f).set 9 (.int v) = fl1 E k (upd f 9 v) := rfl
theorem fs1_10 (E : hE) (k : Nat) (f : Nat → Int32) (v : Int32) : (fl1 E k f).set 10 (.int v) = fl1 E k (upd f 10 v) := rfl
theorem fs1_11 (E : hE) (k : Nat) (f : Nat → Int32) (v : Int32) : (fl1 E k f).set 11 (.int v) = fl1 E k (upd f 11 v) := rfl
theorem fs1_12 (E : hE) (k : Nat) (f : Nat → Int32) (v : Int32) : (fl1 E k f).set 12 (.int v) = fl1 E k (upd f 12 v) := rfl
theorem fs1_13 (E : hE) (k : Nat) (f : Nat → Int32) (v : Int32) : (fl1 E k f).set 13 (.int v) = fl1 E k (upd f 13 v) := rfl
theorem fs1_14 (E : hE) (k : Nat) (f : Nat → Int32) (v : Int32) : (fl1 E k f).set 14 (.int v) = fl1 E k (upd f 14 v) := rfl
theorem fs1_15 (E : hE) (k : Nat) (f : Nat → Int32) (v : Int32) : (fl1 E k f).set 15 (.int v) = fl1 E k (upd f 15 v) := rfl
theorem fs1_16 (E : hE) (k : Nat) (f : Nat → Int32) (v : Int32) : (fl1 E k f).set 16 (.int v) = fl1 E k (upd f 16 v) := rfl
theorem fs1_17 (E : hE) (k : Nat) (f : Nat → Int32) (v : Int32) : (fl1 E k f).set 17 (.int v) = fl1 E k (upd f 17 v) := rfl
theorem fs2_5 (E : hE) (k : Nat) (f : Nat → Int32) (v : Int32) : (fl2 E k f).set 5 (.int v) = fl2 E k (upd f 5 v) := rfl
theorem fs2_6 (E : hE) (k : Nat) (f : Nat → Int32) (v : Int32) : (fl2 E k f).set 6 (.int v) = fl2 E k (upd f 6 v) := rfl
theorem fs2_7 (E : hE) (k : Nat) (f : Nat → Int32) (v : Int32) : (fl2 E k f).set 7 (.int v) = fl2 E k (upd f 7 v) := rfl
theorem fs2_8 (E : hE) (k : Nat) (f : Nat → Int32) (v : Int32) : (fl2 E k f).set 8 (.int v) = fl2 E k (upd f 8 v) := rfl
theorem fs2_9 (E : hE) (k : Nat) (f : Nat → Int32) (v : Int32) : (fl2 E k f).set 9 (.int v) = fl2 E k (upd f 9 v) := rfl
theorem fs2_10 (E : hE) (k : Nat) (f : Nat → Int32) (v : Int32) : (fl2 E k f).set 10 (.int v) = fl2 E k (upd f 10 v) := rfl
theorem fs2_11 (E : hE) (k : Nat) (f : Nat → Int32) (v : Int32) : (fl2 E k f).set 11 (.int v) = fl2 E k (upd f 11 v) := rfl
theorem fs2_12 (E : hE) (k : Nat) (f : Nat → Int32) (v : Int32) : (fl2 E k f).set 12 (.int v) = fl2 E k (upd f 12 v) := rfl
theorem fs2_13 (E : hE) (k : Nat) (f : Nat → Int32) (v : Int32) : (fl2 E k f).set 13 (.int v) = fl2 E k (upd f 13 v) := rfl
theorem fs2_14 (E : hE) (k : Nat) (f : Nat → Int32) (v : Int32) : (fl2 E k f).set 14 (.int v) = fl2 E k (upd f 14 v) := rfl
theorem fs2_15 (E : hE) (k : Nat) (f : Nat → Int32) (v : Int32) : (fl2 E k f).set 15 (.int v) = fl2 E k (upd f 15 v) := rfl
theorem fs2_16 (E : hE) (k : Nat) (f : Nat → Int32) (v : Int32) : (fl2 E k f).set 16 (.int v) = fl2 E k (upd f 16 v) := rfl
theorem fs2_17 (E : hE) (k : Nat) (f : Nat → Int32) (v : Int32) : (fl2 E k f).set 17 (.int v) = fl2 E k (upd f 17 v) := rfl
theorem fs2_18 (E : hE) (k : Nat) (f : Nat → Int32) (v : Int32) : (fl2 E k f).set 18 (.int v) = fl2 E k (upd f 18 v) := rfl
theorem fs2_19 (E : hE) (k : Nat) (f : Nat → Int32) (v : Int32) : (fl2 E k f).set 19 (.int v) = fl2 E k (upd f 19 v) := rfl
theorem fs3_0 (E : hE) (k : Nat) (f : Nat → Int32) (v : Int32) : (fl3 E k f).set 0 (.int v) = fl3 E k (upd f 0 v) := rfl
theorem fs3_1 (E : hE) (k : Nat) (f : Nat → Int32) (v : Int32) : (fl3 E k f).set 1 (.int v) = fl3 E k (upd f 1 v) := rfl
theorem fs3_2 (E : hE) (k : Nat) (f : Nat → Int32) (v : Int32) : (fl3 E k f).set 2 (.int v) = fl3 E k (upd f 2 v) := rfl
theorem fs4_2 (E : hE) (k : Nat) (f : Nat → Int32) (v : Int32) : (fl4 E k f).set 2 (.int v) = fl4 E k (upd f 2 v) := rfl
theorem fs4_3 (E : hE) (k : Nat) (f : Nat → Int32) (v : Int32) : (fl4 E k f).set 3 (.int v) = fl4 E k (upd f 3 v) := rfl
theorem fs4_4 (E : hE) (k : Nat) (f : Nat → Int32) (v : Int32) : (fl4 E k f).set 4 (.int v) = fl4 E k (upd f 4 v) := rfl
theorem fs4_5 (E : hE) (k : Nat) (f : Nat → Int32) (v : Int32) : (fl4 E k f).set 5 (.int v) = fl4 E k (upd f 5 v) := rfl
theorem fs4_6 (E : hE) (k : Nat) (f : Nat → Int32) (v : Int32) : (fl4 E k f).set 6 (.int v) = fl4 E k (upd f 6 v) := rfl
theorem fs4_7 (E : hE) (k : Nat) (f : Nat → Int32) (v : Int32) : (fl4 E k f).set 7 (.int v) = fl4 E k (upd f 7 v) := rfl
theorem fs5_4 (E : hE) (k : Nat) (f : Nat → Int32) (v : Int32) : (fl5 E k f).set 4 (.int v) = fl5 E k (upd f 4 v) := rfl
theorem fs5_5 (E : hE) (k : Nat) (f : Nat → Int32) (v : Int32) : (fl5 E k f).set 5 (.int v) = fl5 E k (upd f 5 v) := rfl
theorem fs5_6 (E : hE) (k : Nat) (f : Nat → Int32) (v : Int32) : (fl5 E k f).set 6 (.int v) = fl5 E k (upd f 6 v) := rfl
theorem fs5_7 (E : hE) (k : Nat) (f : Nat → Int32) (v : Int32) : (fl5 E k f).set 7 (.int v) = fl5 E k (upd f 7 v) := rfl
theorem fs5_8 (E : hE) (k : Nat) (f : Nat → Int32) (v : Int32) : (fl5 E k f).set 8 (.int v) = fl5 E k (upd f 8 v) := rfl
theorem fs5_9 (E : hE) (k : Nat) (f : Nat → Int32) (v : Int32) : (fl5 E k f).set 9 (.int v) = fl5 E k (upd f 9 v) := rfl
theorem fs6_6 (E : hE) (k : Nat) (f : Nat → Int32) (v : Int32) : (fl6 E k f).set 6 (.int v) = fl6 E k (upd f 6 v) := rfl
theorem fs6_7 (E : hE) (k : Nat) (f : Nat → Int32) (v : Int32) : (fl6 E k f).set 7 (.int v) = fl6 E k (upd f 7 v) := rfl
theorem fs6_9 (E : hE) (k : Nat) (f : Nat → Int32) (v : Int32) : (fl6 E k f).set 9 (.int v) = fl6 E k (upd f 9 v) := rfl
theorem fs7_0 (E : hE) (k : Nat) (f : Nat → Int32) (v : Int32) : (fl7 E k f).set 0 (.int v) = fl7 E k (upd f 0 v) := rfl
theorem fs7_1 (E : hE) (k : Nat) (f : Nat → Int32) (v : Int32) : (fl7 E k f).set 1 (.int v) = fl7 E k (upd f 1 v) := rfl
theorem fs7_6 (E : hE) (k : Nat) (f : Nat → Int32) (v : Int32) : (fl7 E k f).set 6 (.int v) = fl7 E k (upd f 6 v) := rfl
theorem fs7_16 (E : hE) (k : Nat) (f : Nat → Int32) (v : Int32) : (fl7 E k f).set 16 (.int v) = fl7 E k (upd f 16 v) := rfl
theorem fs7_17 (E : hE) (k : Nat) (f : Nat → Int32) (v : Int32) : (fl7 E k f).set 17 (.int v) = fl7 E k (upd f 17 v) := rfl
/-- the state of new objects -/
def r0 (k : Nat) : Nat → Int32 := fun j =>
  if hk k = 2 then (if j = 5 ∨ j = 9 ∨ 15 ≤ j ∧ j ≤ 18 then -1 else if j = 7 then 8388607 else 0)
  else if hk k = 3 then (if j = 0 then 8388607 else if j = 2 then -1 else 0)
  else if hk k = 5 then (if j = 6 then 1 else if j = 7 then 16 else if j = 8 then 2 else 0)
  else if hk k = 10 then nI (k + 1 + 9 * j)
  else if k = 1078 then (if j = 8 then 1 else if j = 9 then 16 else if j = 10 then 2 else if j = 42 ∨ j = 368 then -1 else 0)
  else 0
