/-- the range that a slot of a kind keeps -/
def SPr (c j : Nat) : Option (Int × Int) :=
  if c = 1 then (if j = 5 ∨ j = 6 ∨ j = 17 then some (0, 1) else none)
  else if c = 2 then (if j = 14 ∨ j = 19 then some (0, 1) else if j = 8 ∨ j = 11 then some (0, 4) else none)
  else if c = 4 then (if j = 2 then some (0, 8) else none)
  else if c = 5 then (if j = 4 then some (0, 6) else none)
  else if c = 6 then (if j = 6 then some (0, 7) else none)
  else if c = 9 then some (0, 1)
  else none
def SP (k j : Nat) (v : Int32) : Prop := (∀ q : Int × Int, SPr (hk k) j = some q → iR v q.1 q.2) ∧ (hk k = 10 → j < 4 → ∃ x : Nat, v = nI x ∧ hk x = 1)
/-- what is kept of a cell: 0: a net that casts has a cast; 1: a net has a cast; 2: room for a link; 3: a world has room for a radio; 4: a net has room for a cast -/
def RC (ρ : Nat → Nat → Int32) (x : Nat × Nat) : Prop := (x.2 = 0 → ρ x.1 14 = 1 → iR (ρ x.1 11) 1 4) ∧ (x.2 = 1 → iR (ρ x.1 11) 1 4) ∧ (x.2 = 2 → iR (ρ x.1 8) 0 3) ∧ (x.2 = 3 → iR (ρ x.1 4) 0 5) ∧ (x.2 = 4 → iR (ρ x.1 11) 0 3)
def SK (S : Nat × Nat → Prop) : Prop := ∀ x, S x → (hk x.1 = 2 ∧ x.2 ≠ 3) ∨ (hk x.1 = 5 ∧ x.2 = 3)
/-- the class's cells keep their ranges, the reference's are those of r -/
def CI (r : Nat → Nat → Int32) (S : Nat × Nat → Prop) (ρ : Nat → Nat → Int32) : Prop := (∀ k j, k < 1076 → SP k j (ρ k j)) ∧ (∀ x, S x → RC ρ x) ∧ ∀ k, 1076 ≤ k → ρ k = r k
def S0 : Nat × Nat → Prop := fun _ => False
theorem hS0 : SK S0 := fun _ h => h.elim
def SL (k t : Nat) : Nat × Nat → Prop := fun x => x = (k, t)
theorem hSL {k t : Nat} (h : hk k = 2) (ht : t ≠ 3) : SK (SL k t) := fun x e => by rw [show x = (k, t) from e]; exact Or.inl ⟨h, ht⟩
theorem hSL5 {k : Nat} (h : hk k = 5) : SK (SL k 3) := fun x e => by rw [show x = (k, 3) from e]; exact Or.inr ⟨h, rfl⟩
def SA (S : Nat × Nat → Prop) (k t : Nat) : Nat × Nat → Prop := fun x => S x ∨ x = (k, t)
theorem hSA {S : Nat × Nat → Prop} {k t : Nat} (hS : SK S) (h : hk k = 2) (ht : t ≠ 3) : SK (SA S k t) := fun x e => by
  rcases e with e | e
  · exact hS x e
  · rw [e]; exact Or.inl ⟨h, ht⟩
theorem RC0 {ρ : Nat → Nat → Int32} {k : Nat} : RC ρ (k, 0) ↔ (ρ k 14 = 1 → iR (ρ k 11) 1 4) := by simp [RC]
theorem RC1 {ρ : Nat → Nat → Int32} {k : Nat} : RC ρ (k, 1) ↔ iR (ρ k 11) 1 4 := by simp [RC]
theorem RC2 {ρ : Nat → Nat → Int32} {k : Nat} : RC ρ (k, 2) ↔ iR (ρ k 8) 0 3 := by simp [RC]
theorem RC3 {ρ : Nat → Nat → Int32} {k : Nat} : RC ρ (k, 3) ↔ iR (ρ k 4) 0 5 := by simp [RC]
theorem RC4 {ρ : Nat → Nat → Int32} {k : Nat} : RC ρ (k, 4) ↔ iR (ρ k 11) 0 3 := by simp [RC]
theorem CI_S {r : Nat → Nat → Int32} {S S' : Nat × Nat → Prop} {ρ : Nat → Nat → Int32} (hI : CI r S ρ) (h : ∀ x, S' x → RC ρ x) : CI r S' ρ := ⟨hI.1, h, hI.2.2⟩
theorem SP_plain {k j c : Nat} {v : Int32} (h : hk k = c) (h1 : SPr c j = none) (h2 : c ≠ 10) : SP k j v := by
  refine ⟨fun q hq => ?_, fun e => absurd (h.symm.trans e) h2⟩
  rw [h, h1] at hq
  cases hq
theorem SP_rng {k j c : Nat} {v : Int32} {a b : Int} (h : hk k = c) (h1 : SPr c j = some (a, b)) (h2 : c ≠ 10) (hv : iR v a b) : SP k j v := by
  refine ⟨fun q hq => ?_, fun e => absurd (h.symm.trans e) h2⟩
  rw [h, h1] at hq
  cases hq
  exact hv
theorem SP_link {k j x : Nat} (h : hk k = 10) (hx : hk x = 1) : SP k j (nI x) := by
  refine ⟨fun q hq => ?_, fun _ _ => ⟨x, rfl, hx⟩⟩
  rw [h] at hq
  cases hq
theorem kind_b : (List.range 1090).all (fun k => decide (k < 1076) || (hk k == 7 || (hk k == 8 || hk k == 9))) = true := by decide +kernel
theorem kind_lt {k c : Nat} (h : hk k = c) (hc : c < 7 ∨ c = 10 ∨ c = 11 ∨ c = 12) : k < 1076 := by
  have q := List.all_eq_true.mp kind_b k (List.mem_range.mpr (hk_lt h (by omega)))
  simp only [Bool.or_eq_true, decide_eq_true_eq, beq_iff_eq, h] at q
  omega
theorem CI_get {r : Nat → Nat → Int32} {S : Nat × Nat → Prop} {ρ : Nat → Nat → Int32} {k j c : Nat} {a b : Int} (hI : CI r S ρ) (hkl : k < 1076) (h : hk k = c) (h1 : SPr c j = some (a, b)) : iR (ρ k j) a b := (hI.1 k j hkl).1 (a, b) (by rw [h]; exact h1)
theorem CI_link {r : Nat → Nat → Int32} {S : Nat × Nat → Prop} {ρ : Nat → Nat → Int32} {k j : Nat} (hI : CI r S ρ) (h : hk k = 10) (hj : j < 4) : ∃ x : Nat, ρ k j = nI x ∧ hk x = 1 := (hI.1 k j (kind_lt h (by decide))).2 h hj
theorem CI_upS {r : Nat → Nat → Int32} {S S' : Nat × Nat → Prop} {ρ : Nat → Nat → Int32} {k j : Nat} {v : Int32} (hI : CI r S ρ) (hkl : k < 1076) (hp : SP k j v) (hn : ∀ x, S' x → RC (up ρ k j v) x) : CI r S' (up ρ k j v) := by
  refine ⟨fun k' j' hk' => ?_, hn, fun k' hk' => ?_⟩
  · by_cases e : k' = k
    · subst e
      rw [up_at]
      by_cases e2 : j' = j
      · subst e2; simp [upd]; exact hp
      · simp [upd, e2]; exact hI.1 k' j' hk'
    · rw [up_ne _ _ _ e]; exact hI.1 k' j' hk'
  · rw [up_ne _ _ _ (by omega)]; exact hI.2.2 k' hk'
theorem RC_ne {ρ : Nat → Nat → Int32} {k j : Nat} {v : Int32} {x : Nat × Nat} (h : RC ρ x) (hx : x.1 ≠ k) : RC (up ρ k j v) x := by
  unfold RC at *
  rw [up_ne _ _ _ hx]
  exact h
theorem CI_up {r : Nat → Nat → Int32} {S : Nat × Nat → Prop} {ρ : Nat → Nat → Int32} {k j : Nat} {v : Int32} (hI : CI r S ρ) (hkl : k < 1076) (hp : SP k j v) (hn : (hk k = 2 → j ≠ 8 ∧ j ≠ 11 ∧ j ≠ 14) ∧ (hk k = 5 → j ≠ 4)) (hS : SK S) : CI r S (up ρ k j v) := by
  refine CI_upS hI hkl hp (fun x hx => ?_)
  have h := hI.2.1 x hx
  by_cases ex : x.1 = k
  · have e : ∀ i, i ≠ j → up ρ k j v x.1 i = ρ x.1 i := fun i hi => up_get_ne (Or.inr hi) rfl
    have hs := hS x hx
    rw [ex] at hs
    have n2 : hk k = 2 → j ≠ 8 ∧ j ≠ 11 ∧ j ≠ 14 := hn.1
    have n5 : hk k = 5 → j ≠ 4 := hn.2
    unfold RC at *
    rcases hs with ⟨h2, ht⟩ | ⟨h5, ht⟩
    · obtain ⟨a, b, c⟩ := n2 h2
      rw [e 14 (Ne.symm c), e 11 (Ne.symm b), e 8 (Ne.symm a)]
      exact ⟨h.1, h.2.1, h.2.2.1, fun q => absurd q ht, h.2.2.2.2⟩
    · rw [e 4 (Ne.symm (n5 h5))]
      exact ⟨fun q => by omega, fun q => by omega, fun q => by omega, h.2.2.2.1, fun q => by omega⟩
  · exact RC_ne h ex
theorem CI_upc {r : Nat → Nat → Int32} {S : Nat × Nat → Prop} {ρ : Nat → Nat → Int32} {k : Nat} {f : Nat → Int32} (hI : CI r S ρ) (hkl : k < 1076) (h : hk k = 8) (hS : SK S) : CI r S (upc ρ k f) := by
  refine ⟨fun k' j' hk' => ?_, fun x hx => ?_, fun k' hk' => ?_⟩
  · by_cases e : k' = k
    · subst e
      exact SP_plain h rfl (by decide)
    · rw [upc_ne _ _ e]; exact hI.1 k' j' hk'
  · have e : x.1 ≠ k := fun e => by
      have q := hS x hx
      rw [e, h] at q
      rcases q with q | q
      · exact absurd q.1 (by decide)
      · exact absurd q.1 (by decide)
    have h := hI.2.1 x hx
    unfold RC at *
    rw [upc_ne _ _ e]
    exact h
  · rw [upc_ne _ _ (by omega)]; exact hI.2.2 k' hk'
section XL
variable {p : Program} {l : Launch} {e : Env} {R : Room} {s : State} {m : MethodId} {args : Array Value} {below : List Frame} {meth : Method} {c : Code} {H : Heap} {locs : List Loc} {cells slots : Nat} {Q : State → Prop} {cc : ByteArray} {nL pc : Nat} {ls : Array Slot} {rest : List Value} {E : hE} {ρ : Nat → Nat → Int32} {own : String}
theorem aldLn {k j x : Nat} {i : Int32} (B : MB p s m args c cc nL own E) (hP : WP E ρ H) (h : hk k = 10) (hl : hlen k = 4) (hi : i = nI j) (hj : j < 4) (hx : ρ k j = nI x) (hx1 : hk x = 1) (hd : decode cc pc = .ok (.aaload, 1)) (kk : W p l e R s m args below meth c H locs cells slots Q (F0 m (pc + 1) ls (.ref (E.2.1 + x) :: rest))) : W p l e R s m args below meth c H locs cells slots Q (F0 m pc ls (.int i :: .ref (E.2.1 + k) :: rest)) := by
  subst hi
  refine aldL B hP h hl (vp_in_nI hj (by decide)) hd ?_
  rw [nI_clamp (by omega), hx, nI_clamp (by have := hk_lt hx1 (by decide); omega)]
  exact kk
theorem astLn {k j q : Nat} {i : Int32} (B : MB p s m args c cc nL own E) (hP : WP E ρ H) (hS : va_S (hA E) s.heap H locs) (h : hk k = 10) (hl : hlen k = 4) (hq : hk q = 1) (hi : i = nI j) (hj : j < 4) (hd : decode cc pc = .ok (.aastore, 1))
    (kk : ∀ (H' : Heap) (locs' : List Loc), WP E (up ρ k j (nI q)) H' → va_S (hA E) s.heap H' locs' → W p l e R s m args below meth c H' locs' cells slots Q (F0 m (pc + 1) ls rest)) : W p l e R s m args below meth c H locs cells slots Q (F0 m pc ls (.ref (E.2.1 + q) :: .int i :: .ref (E.2.1 + k) :: rest)) := by
  subst hi
  have hin : vp_in (nI j) 4 := vp_in_nI hj (by decide)
  have hci : (nI j).toNatClampNeg = j := nI_clamp (by omega)
  have hk1 := hk_lt h (by decide)
  have hq1 := hk_lt hq (by decide)
  have hata : (wl E 1090 (hcf E ρ))[k]? = some (E.2.1 + k, .inl (E.2.2.1 2, 4, .inr (.inr (.inr (.inr (fun i => some (E.2.1 + (ρ k i).toNatClampNeg))))))) := by rw [wl_at hk1]; show some (_, hcc E k (ρ k)) = _; rw [hcc10 _ _ h, hl]
  have hatv : (wl E 1090 (hcf E ρ))[q]? = some (E.2.1 + q, .inr (1, fl1 E q (ρ q))) := by rw [wl_at hq1]; show some (_, hcc E q (ρ q)) = _; rw [hcc1 _ _ hq]
  have h0 : ¬ (nI j) < 0 := fun z => hin (Or.inl z)
  obtain ⟨r', hr', cellV, g1, g2, g3, -⟩ := hP q _ hatv
  have hcls := (B.2.1.1 1 (RX1, TX1, 18) rfl).2
  obtain ⟨kA, comp, k1, k2, k3, -⟩ := (B.2.1.2 2 (E.2.2.1 2, .object RX1) rfl).2
  have hcomp : comp = E.1.1 1 := Option.some.inj (k3.symm.trans hcls.1)
  subst hcomp
  obtain ⟨kC, hkC, -⟩ := hcls.2
  refine W.aast B.1.1 B.1.2.1 (hP k _ hata) (fun q h => by cases h) (fun h => by cases h) k1 k2 rfl hkC ⟨h0, by show _ < (arrV _ _ _).slots.size; rw [arrV_size, hci]; exact hj⟩ g1 (fun q h => by rw [g3] at h; cases h) (by rw [g2]; exact hkC) (by rw [g2]; exact va_assign hcls) rfl rfl hd fun H1 e1 z oq => ?_
  refine kk H1 _ ?_ (hS.put z oq (Nat.le_add_right _ _))
  have h9 := hP.set (wl_D E 1090 (hcf E ρ)) hata (e := hcc E k (upd (ρ k) j (nI q))) (H1 := H1) (by
    rw [hcc10 _ _ h, hl]
    show H1[E.2.1 + k]? = some (vp_cell _ _)
    rw [e1, vp_cell_q, vp_cell_q, arrV_store]
    refine congrArg (fun g => some (arrV (E.2.2.1 2) 4 g)) (funext fun z => ?_)
    by_cases hz : z = j
    · subst hz
      simp [updV, upd, va_rf, hci, nI_clamp (show q < 2 ^ 31 by omega)]
    · simp [updV, upd, hz, hci]) oq
  rw [wl_set hk1, hcf_up] at h9
  exact h9
end XL
theorem layl : (List.range 1090).all (fun k => (!(hk k == 4) || decide (k + 2 < 1076)) && ((!(hk k == 2) || decide (k + 41 < 1076)) && (!(hk k == 5) || decide (k + 88 < 1076)))) = true := by decide +kernel
theorem lay4l {k : Nat} (h : hk k = 4) : k + 2 < 1076 := by
  have q := List.all_eq_true.mp layl k (List.mem_range.mpr (hk_lt h (by decide)))
  simpa [h] using q
theorem lay2l {k : Nat} (h : hk k = 2) : k + 41 < 1076 := by
  have q := List.all_eq_true.mp layl k (List.mem_range.mpr (hk_lt h (by decide)))
  simpa [h] using q
theorem lay5l {k : Nat} (h : hk k = 5) : k + 88 < 1076 := by
  have q := List.all_eq_true.mp layl k (List.mem_range.mpr (hk_lt h (by decide)))
  simpa [h] using q
