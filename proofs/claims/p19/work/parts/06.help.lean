theorem up_get_at {ρ : Nat → Nat → Int32} {k j : Nat} {v : Int32} : up ρ k j v k j = v := by simp [up, upd]
theorem up_get_ne {ρ : Nat → Nat → Int32} {k j k' j' : Nat} {v x : Int32} (h : k' ≠ k ∨ j' ≠ j) (hx : ρ k' j' = x) : up ρ k j v k' j' = x := by
  by_cases e : k' = k
  · subst e
    have hj : j' ≠ j := h.resolve_left (fun q => q rfl)
    simp [up, upd, hj]
    exact hx
  · simp [up, e]
    exact hx
theorem sw_split {x : Int32} {lo hi : Int} (_ : lo ≤ hi) : (x.toInt < lo ∨ hi < x.toInt) ∨ (lo ≤ x.toInt ∧ x.toInt ≤ hi) := by omega
theorem sw_step {x : Int32} {n n' hi : Int} (hn : n + 1 = n') (h : n ≤ x.toInt ∧ x.toInt ≤ hi) : x.toInt = n ∨ (n' ≤ x.toInt ∧ x.toInt ≤ hi) := by omega
theorem sw_last {x : Int32} {n : Int} (h : n ≤ x.toInt ∧ x.toInt ≤ n) : x.toInt = n := by omega
theorem nar_b {v : Int32} (h : v = 0 ∨ v = 1) : narrow .boolean (.int v) = .int v := by rcases h with rfl | rfl <;> rfl
theorem fit_b {v : Int32} (h : v = 0 ∨ v = 1) : fits .boolean (.int v) = true := by rcases h with rfl | rfl <;> rfl
theorem narb {v : Int32} (h : v = 0 ∨ v = 1) : vp_nar .boolean v = v := by rcases h with rfl | rfl <;> rfl
theorem ix_of {x L : Int32} {n : Nat} (hL : L.toInt = n) (h0 : ¬ x < 0) (h1 : ¬ L ≤ x) : ∃ j : Nat, j < n ∧ x = nI j := by
  obtain ⟨j, hj, e⟩ := nI_of h0
  refine ⟨j, ?_, e⟩
  have h2 := Int32.lt_iff_toInt_lt.mp (Int32.not_le.mp h1)
  rw [e, nI_toInt hj, hL] at h2
  omega
/-- an int between two bounds -/
def iR (v : Int32) (a b : Int) : Prop := a ≤ v.toInt ∧ v.toInt ≤ b
theorem iR_ix {v : Int32} {n : Nat} {b : Int} (h : iR v 0 b) (hb : b + 1 = n) (hn : n < 2 ^ 31) : ∃ j : Nat, j < n ∧ v = nI j := by
  obtain ⟨j, hj, e⟩ := nI_of (x := v) (fun q => by have := Int32.lt_iff_toInt_lt.mp q; have h0 : (0 : Int32).toInt = 0 := rfl; rw [h0] at this; have := h.1; omega)
  refine ⟨j, ?_, e⟩
  have h2 := h.2
  rw [e, nI_toInt hj] at h2
  omega
/-- an even int, by the machine's remainder -/
def ev (v : Int32) : Prop := v - v / 2 * 2 = 0
def tm (w v : Int32) : Prop := (w.toInt = 0 ∧ iR v 0 1000000) ∨ (w.toInt = 1 ∧ iR v 0 32 ∧ ev v) ∨ (w.toInt = 2 ∧ iR v 1 4)
theorem iR_in {v lo hi : Int32} {a b : Int} (ha : lo.toInt = a) (hb : hi.toInt = b) (h1 : ¬ v < lo) (h2 : ¬ hi < v) : iR v a b := by
  have h1 := Int32.le_iff_toInt_le.mp (Int32.not_lt.mp h1)
  have h2 := Int32.le_iff_toInt_le.mp (Int32.not_lt.mp h2)
  unfold iR
  omega
theorem iR_lo {v lo : Int32} {a b : Int} (ha : lo.toInt = a) (h1 : v < lo) : ¬ iR v a b := by
  have h1 := Int32.lt_iff_toInt_lt.mp h1
  unfold iR
  omega
theorem iR_hi {v hi : Int32} {a b : Int} (hb : hi.toInt = b) (h1 : hi < v) : ¬ iR v a b := by
  have h1 := Int32.lt_iff_toInt_lt.mp h1
  unfold iR
  omega
/-- a long between two bounds -/
def lR (v : Int64) (a b : Int) : Prop := a ≤ v.toInt ∧ v.toInt ≤ b
theorem lR_in {v lo hi : Int64} {a b : Int} (ha : lo.toInt = a) (hb : hi.toInt = b) (h1 : ¬ lg_cmp v lo < 0) (h2 : ¬ 0 < lg_cmp v hi) : lR v a b := by
  rw [lg_cmp_lt] at h1
  rw [lg_cmp_gt] at h2
  have h1 := Int64.le_iff_toInt_le.mp (Int64.not_lt.mp h1)
  have h2 := Int64.le_iff_toInt_le.mp (Int64.not_lt.mp h2)
  unfold lR
  omega
theorem lR_lo {v lo : Int64} {a b : Int} (ha : lo.toInt = a) (h1 : lg_cmp v lo < 0) : ¬ lR v a b := by
  rw [lg_cmp_lt] at h1
  have h1 := Int64.lt_iff_toInt_lt.mp h1
  unfold lR
  omega
theorem lR_hi {v hi : Int64} {a b : Int} (hb : hi.toInt = b) (h1 : 0 < lg_cmp v hi) : ¬ lR v a b := by
  rw [lg_cmp_gt] at h1
  have h1 := Int64.lt_iff_toInt_lt.mp h1
  unfold lR
  omega
theorem lR_i (v : Int32) (a b : Int) : lR v.toInt64 a b ↔ iR v a b := by unfold lR iR; rw [Int32.toInt_toInt64]
section XS
variable {p : Program} {l : Launch} {e : Env} {R : Room} {s : State} {m : MethodId} {args : Array Value} {below : List Frame} {meth : Method} {c : Code} {H : Heap} {locs : List Loc} {cells slots : Nat} {Q : State → Prop} {cc : ByteArray} {nL pc : Nat} {ls : Array Slot} {rest : List Value} {E : hE} {ρ : Nat → Nat → Int32} {own : String}
theorem aldn {k n j : Nat} {i : Int32} (B : MB p s m args c cc nL own E) (hP : WP E ρ H) (h : hk k = 8) (hl : hlen k = n) (hi : i = nI j) (hj : j < n) (h31 : n < 2 ^ 31) (hd : decode cc pc = .ok (.iaload, 1)) (kk : W p l e R s m args below meth c H locs cells slots Q (F0 m (pc + 1) ls (.int (ρ k j) :: rest))) : W p l e R s m args below meth c H locs cells slots Q (F0 m pc ls (.int i :: .ref (E.2.1 + k) :: rest)) := by
  subst hi
  refine ald B hP h hl (vp_in_nI hj h31) hd ?_
  rw [nI_clamp (by omega)]
  exact kk
theorem aldf {k n j : Nat} {i v : Int32} (B : MB p s m args c cc nL own E) (hP : WP E ρ H) (h : hk k = 8) (hl : hlen k = n) (hi : i = nI j) (hj : j < n) (h31 : n < 2 ^ 31) (hf : ρ k j = v) (hd : decode cc pc = .ok (.iaload, 1)) (kk : W p l e R s m args below meth c H locs cells slots Q (F0 m (pc + 1) ls (.int v :: rest))) : W p l e R s m args below meth c H locs cells slots Q (F0 m pc ls (.int i :: .ref (E.2.1 + k) :: rest)) := by
  refine aldn B hP h hl hi hj h31 hd ?_
  rw [hf]
  exact kk
theorem zldn {k n j : Nat} {i : Int32} (B : MB p s m args c cc nL own E) (hP : WP E ρ H) (h : hk k = 9) (hl : hlen k = n) (hi : i = nI j) (hj : j < n) (h31 : n < 2 ^ 31) (hd : decode cc pc = .ok (.baload, 1)) (kk : W p l e R s m args below meth c H locs cells slots Q (F0 m (pc + 1) ls (.int (ρ k j) :: rest))) : W p l e R s m args below meth c H locs cells slots Q (F0 m pc ls (.int i :: .ref (E.2.1 + k) :: rest)) := by
  subst hi
  refine zld B hP h hl (vp_in_nI hj h31) hd ?_
  rw [nI_clamp (by omega)]
  exact kk
theorem zldf {k n j : Nat} {i v : Int32} (B : MB p s m args c cc nL own E) (hP : WP E ρ H) (h : hk k = 9) (hl : hlen k = n) (hi : i = nI j) (hj : j < n) (h31 : n < 2 ^ 31) (hf : ρ k j = v) (hd : decode cc pc = .ok (.baload, 1)) (kk : W p l e R s m args below meth c H locs cells slots Q (F0 m (pc + 1) ls (.int v :: rest))) : W p l e R s m args below meth c H locs cells slots Q (F0 m pc ls (.int i :: .ref (E.2.1 + k) :: rest)) := by
  refine zldn B hP h hl hi hj h31 hd ?_
  rw [hf]
  exact kk
theorem astn {k n j : Nat} {i x : Int32} (B : MB p s m args c cc nL own E) (hP : WP E ρ H) (hS : va_S (hA E) s.heap H locs) (h : hk k = 8) (hl : hlen k = n) (hi : i = nI j) (hj : j < n) (h31 : n < 2 ^ 31) (hd : decode cc pc = .ok (.iastore, 1)) (kk : ∀ (H' : Heap) (locs' : List Loc), WP E (up ρ k j x) H' → va_S (hA E) s.heap H' locs' → W p l e R s m args below meth c H' locs' cells slots Q (F0 m (pc + 1) ls rest)) : W p l e R s m args below meth c H locs cells slots Q (F0 m pc ls (.int x :: .int i :: .ref (E.2.1 + k) :: rest)) := by
  subst hi
  refine ast B hP hS h hl (vp_in_nI hj h31) hd (fun H1 l1 h1 h2 => ?_)
  rw [nI_clamp (by omega)] at h1
  exact kk H1 l1 h1 h2
theorem zstn {k n j : Nat} {i x : Int32} (B : MB p s m args c cc nL own E) (hP : WP E ρ H) (hS : va_S (hA E) s.heap H locs) (h : hk k = 9) (hl : hlen k = n) (hi : i = nI j) (hj : j < n) (h31 : n < 2 ^ 31) (hx : vp_nar .boolean x = x) (hd : decode cc pc = .ok (.bastore, 1)) (kk : ∀ (H' : Heap) (locs' : List Loc), WP E (up ρ k j x) H' → va_S (hA E) s.heap H' locs' → W p l e R s m args below meth c H' locs' cells slots Q (F0 m (pc + 1) ls rest)) : W p l e R s m args below meth c H locs cells slots Q (F0 m pc ls (.int x :: .int i :: .ref (E.2.1 + k) :: rest)) := by
  subst hi
  refine zst B hP hS h hl (vp_in_nI hj h31) hx hd (fun H1 l1 h1 h2 => ?_)
  rw [nI_clamp (by omega)] at h1
  exact kk H1 l1 h1 h2
theorem aldNn {k j : Nat} {i : Int32} (B : MB p s m args c cc nL own E) (hP : WP E ρ H) (h : hk k = 11) (hl : hlen k = 2) (hi : i = nI j) (hj : j < 2) (hd : decode cc pc = .ok (.aaload, 1)) (kk : W p l e R s m args below meth c H locs cells slots Q (F0 m (pc + 1) ls (.ref (E.2.1 + (k + 1 + 42 * j)) :: rest))) : W p l e R s m args below meth c H locs cells slots Q (F0 m pc ls (.int i :: .ref (E.2.1 + k) :: rest)) := by
  subst hi
  refine aldN B hP h (vp_in_nI hj (by omega)) hl hd ?_
  rw [nI_clamp (by omega)]
  exact kk
theorem aldWn {k n j : Nat} {i : Int32} (B : MB p s m args c cc nL own E) (hP : WP E ρ H) (h : hk k = 12) (hl : hlen k = n) (hi : i = nI j) (hj : j < n) (h31 : n < 2 ^ 31) (hd : decode cc pc = .ok (.aaload, 1)) (kk : W p l e R s m args below meth c H locs cells slots Q (F0 m (pc + 1) ls (.ref (E.2.1 + (hw k + 89 * j)) :: rest))) : W p l e R s m args below meth c H locs cells slots Q (F0 m pc ls (.int i :: .ref (E.2.1 + k) :: rest)) := by
  subst hi
  refine aldW B hP h hl (vp_in_nI hj h31) hd ?_
  rw [nI_clamp (by omega)]
  exact kk
end XS
theorem cpy_self {f g : Nat → Int32} {n : Nat} (h : ∀ j, j < n → g j = f j) : ∀ j, va_cpy f g 0 0 n j = g j := by
  intro j
  unfold va_cpy
  by_cases q : 0 ≤ j ∧ j < 0 + n
  · rw [if_pos q, Nat.sub_zero, Nat.zero_add]
    exact (h j (by omega)).symm
  · rw [if_neg q]
/-- a world in which there is no net -/
def FrN (ρ : Nat → Nat → Int32) (x : Nat) : Prop := ρ x 5 = -1 ∧ ρ x 8 = 0 ∧ ρ x 14 = 0 ∧ ρ x 15 = -1 ∧ ρ x 17 = -1 ∧ ρ x 18 = -1 ∧ ρ x 19 = 0 ∧ ρ (x + 1) 1 = 0
def FrW (ρ : Nat → Nat → Int32) (k : Nat) : Prop := FrN ρ (k + 5) ∧ FrN ρ (k + 47)
theorem FrN.keep {ρ ρ' : Nat → Nat → Int32} {x : Nat} (h : FrN ρ x) (h0 : ρ' x = ρ x) (h1 : ρ' (x + 1) = ρ (x + 1)) : FrN ρ' x := by
  unfold FrN at *
  rw [h0, h1]
  exact h
theorem FrW.keep {ρ ρ' : Nat → Nat → Int32} {k : Nat} (h : FrW ρ k) (hq : ∀ k', k' ≠ k → ρ' k' = ρ k') : FrW ρ' k :=
  ⟨h.1.keep (hq _ (by omega)) (hq _ (by omega)), h.2.keep (hq _ (by omega)) (hq _ (by omega))⟩
theorem FrN_r0 {x : Nat} (h : hk x = 2) : FrN r0 x := by
  have h1 := (lay2 h).1
  unfold FrN
  simp [r0, h, h1]
theorem FrW_r0 {k : Nat} (h : hk k = 5) : FrW r0 k := ⟨FrN_r0 (lay5 h).2.2.2.2.2.2.2.2.1, FrN_r0 (lay5 h).2.2.2.2.2.2.2.2.2⟩
theorem r0_arr {k j : Nat} (h : hk k = 8) (h2 : k ≠ 1078) : r0 k j = 0 := by simp [r0, h, h2]
theorem r0_kind {k k' : Nat} (h : hk k = hk k') (h10 : hk k ≠ 10) (h1 : k ≠ 1078) (h2 : k' ≠ 1078) : r0 k = r0 k' := by
  funext j
  unfold r0
  rw [← h, if_neg h1, if_neg h2, if_neg h10, if_neg h10]
