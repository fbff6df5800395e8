section RN
variable {r ρ ra : Nat → Nat → Int32} {B n0 l0 w k a : Nat} {M : Nat → Int32} {L : Nat → Nat} {f g : Nat → Int32} {m : Int32}
/-- slots a .. a + k are 0, a .. a + e may be anything else, the rest is as it was -/
def FZ (r : Nat → Nat → Int32) (M : Nat → Int32) (L : Nat → Nat) (a e k : Nat) (ρ : Nat → Nat → Int32) : Prop := ∃ ra, PJ r M L ra ∧ (∀ c, c ≠ 1078 → ρ c = ra c) ∧ (∀ j, (j < a ∨ a + e ≤ j) → ρ 1078 j = ra 1078 j) ∧ (∀ j, a ≤ j → j < a + k → ρ 1078 j = 0)
theorem FZ_0 {e : Nat} (h : PJ r M L ρ) : FZ r M L a e 0 ρ := ⟨ρ, h, fun _ _ => rfl, fun _ _ => rfl, fun j h1 h2 => by omega⟩
theorem FZ_s {e j : Nat} (h : FZ r M L a e k ρ) (hk : k < e) (hj : j = a + k) : FZ r M L a e (1 + k) (up ρ 1078 j 0) := by
  obtain ⟨ra, h1, h2, h3, h4⟩ := h
  subst hj
  refine ⟨ra, h1, fun c hc => by rw [up_ne _ _ _ hc]; exact h2 c hc, fun j hj => up_get_ne (Or.inr (by omega)) (h3 j hj), fun j a1 a2 => ?_⟩
  by_cases e : j = a + k
  · subst e; exact up_get_at
  · exact up_get_ne (Or.inr e) (h4 j a1 (by omega))
theorem PI_row (h : PI r ra) (hG : GE (ρ 1078)) (h1 : ∀ c, c ≠ 1078 → ρ c = ra c) : PI r ρ := by
  obtain ⟨a, b, c, d, e⟩ := h
  exact ⟨fun k hk => by rw [h1 k (by omega)]; exact a k hk, hG, by rw [h1 1076 (by decide), h1 1079 (by decide)]; exact c, by rw [h1 1081 (by decide), h1 1082 (by decide)]; exact d, by rw [h1 1085 (by decide), h1 1086 (by decide), h1 1087 (by decide), h1 1088 (by decide), h1 1089 (by decide)]; exact e⟩
def fu {α : Type} (M : Nat → α) (n0 : Nat) (m : α) : Nat → α := fun n => if n = n0 then m else M n
theorem fu_at {α : Type} {M : Nat → α} {m : α} : fu M n0 m n0 = m := if_pos rfl
theorem fu_ne {α : Type} {M : Nat → α} {m : α} {n : Nat} (h : n ≠ n0) : fu M n0 m n = M n := if_neg h
theorem Z0 {a b : Int} (ha : a ≤ 0) (hb : 0 ≤ b) : iR (0 : Int32) a b := ⟨by rw [show (0 : Int32).toInt = 0 from rfl]; exact ha, by rw [show (0 : Int32).toInt = 0 from rfl]; exact hb⟩
theorem GN_keep {n : Nat} {M2 : Nat → Int32} {L2 : Nat → Nat} (h : GN M L X0 g n) (hM : M2 n = M n) (hL : L2 n = L n) (e : ∀ j, 42 + 326 * n ≤ j → j < 368 + 326 * n → f j = g j) : GN M2 L2 X0 f n := by
  obtain ⟨a1, a2, a3, a4, a5, a6, a7, a8⟩ := h
  unfold GN
  rw [hM, hL]
  refine ⟨by rw [e _ (by omega) (by omega)]; exact a1, by rw [e _ (by omega) (by omega)]; exact a2, fun z => by rw [e _ (by omega) (by omega)]; exact a3 z, by rw [e _ (by omega) (by omega)]; exact a4, by rw [e _ (by omega) (by omega)]; exact a5, fun z => by rw [e _ (by omega) (by omega), e _ (by omega) (by omega)]; exact a6 z, fun z => z.elim, fun l hl => ?_⟩
  obtain ⟨b1, b2, b3, b4, b5, b6⟩ := a8 l hl
  unfold GL
  rw [hL]
  exact ⟨by rw [e _ (by omega) (by omega)]; exact b1, by rw [e _ (by omega) (by omega)]; exact b2, by rw [e _ (by omega) (by omega)]; exact b3, fun z => by rw [e _ (by omega) (by omega)]; exact b4 z, fun z t => by rw [e _ (by omega) (by omega)] at t ⊢; exact b5 z t, fun z => z.elim⟩
theorem Good_net (h : Good B M L X0 g) (hn : n0 < 2) (hm : iR m 0 5) (o : ∀ j, (j < 42 + 326 * n0 ∨ 42 + 326 * n0 + 326 ≤ j) → f j = g j) (f0 : f (42 + 326 * n0) = m) (f2 : f (44 + 326 * n0) = 8388607) (f7 : f (49 + 326 * n0) = 8388607) (f5 : f (47 + 326 * n0) = -1) (z : ∀ j, 42 + 326 * n0 ≤ j → j < 42 + 326 * n0 + 326 → j ≠ 42 + 326 * n0 → j ≠ 43 + 326 * n0 → j ≠ 44 + 326 * n0 → j ≠ 49 + 326 * n0 → j ≠ 47 + 326 * n0 → f j = 0) : Good B (fu M n0 m) (fu L n0 0) X0 f := by
  refine ⟨by rw [o _ (by omega)]; exact h.1, by rw [o _ (by omega)]; exact h.2.1, fun n hn2 => ?_⟩
  by_cases e : n = n0
  · subst e
    unfold GN
    rw [fu_at, fu_at]
    refine ⟨⟨f0, iR_w hm (by decide) (by decide)⟩, ⟨by rw [z _ (by omega) (by omega) (by omega) (by omega) (by omega) (by omega) (by omega)]; rfl, by decide⟩, fun _ => by rw [f5]; exact ⟨by decide, by decide⟩, by rw [z _ (by omega) (by omega) (by omega) (by omega) (by omega) (by omega) (by omega)]; exact Z0 (by decide) (by decide), by rw [z _ (by omega) (by omega) (by omega) (by omega) (by omega) (by omega) (by omega)]; exact Z0 (by decide) (by decide), fun _ => by rw [f2, f7]; exact ⟨⟨by decide, by decide⟩, ⟨by decide, by decide⟩⟩, fun q => q.elim, fun l hl => ?_⟩
    unfold GL
    rw [fu_at]
    refine ⟨by rw [z _ (by omega) (by omega) (by omega) (by omega) (by omega) (by omega) (by omega)]; exact Z0 (by decide) (by decide), by rw [z _ (by omega) (by omega) (by omega) (by omega) (by omega) (by omega) (by omega)]; exact Z0 (by decide) (by decide), by rw [z _ (by omega) (by omega) (by omega) (by omega) (by omega) (by omega) (by omega)]; exact Z0 (by decide) (by decide), fun q => absurd q (Nat.not_lt_zero _), fun _ t => ?_, fun q => q.elim⟩
    rw [z _ (by omega) (by omega) (by omega) (by omega) (by omega) (by omega) (by omega)] at t
    exact absurd t (by decide)
  · exact GN_keep (h.2.2 n hn2) (fu_ne e) (fu_ne e) (fun j h1 h2 => o j (by omega))
theorem Good_join (h : Good B M L X0 g) (hn : n0 < 2) (h4 : L n0 < 4) (o : ∀ j, j ≠ 48 + 326 * n0 → (j < 104 + 326 * n0 + 66 * L n0 ∨ 104 + 326 * n0 + 66 * L n0 + 66 ≤ j) → f j = g j) (f48 : f (48 + 326 * n0) = nI (L n0 + 1)) (f1 : iR (f (105 + 326 * n0 + 66 * L n0)) 1 8388607) (f2 : iR (f (106 + 326 * n0 + 66 * L n0)) 0 8388607) (f5 : f (109 + 326 * n0 + 66 * L n0) = 0) (f14 : f (118 + 326 * n0 + 66 * L n0) = 0) (f39 : f (143 + 326 * n0 + 66 * L n0) = 0) : Good B M (fu L n0 (L n0 + 1)) X0 f := by
  refine ⟨by rw [o _ (by omega) (by omega)]; exact h.1, by rw [o _ (by omega) (by omega)]; exact h.2.1, fun n hn2 => ?_⟩
  by_cases e : n = n0
  · subst e
    obtain ⟨a1, a2, a3, a4, a5, a6, a7, a8⟩ := h.2.2 n hn2
    unfold GN
    rw [fu_at]
    refine ⟨by rw [o _ (by omega) (by omega)]; exact a1, ⟨f48, by omega⟩, fun z => by rw [o _ (by omega) (by omega)]; exact iR_w (a3 z) (by decide) (by omega), by rw [o _ (by omega) (by omega)]; exact a4, by rw [o _ (by omega) (by omega)]; exact a5, fun z => by rw [o _ (by omega) (by omega), o _ (by omega) (by omega)]; exact a6 z, fun q => q.elim, fun l hl => ?_⟩
    unfold GL
    rw [fu_at]
    by_cases e2 : l = L n
    · subst e2
      refine ⟨f2, by rw [f5]; exact Z0 (by decide) (by decide), by rw [f14]; exact Z0 (by decide) (by decide), fun _ => f1, fun _ t => ?_, fun q => q.elim⟩
      rw [f39] at t
      exact absurd t (by decide)
    · obtain ⟨b1, b2, b3, b4, b5, b6⟩ := a8 l hl
      exact ⟨by rw [o _ (by omega) (by omega)]; exact b1, by rw [o _ (by omega) (by omega)]; exact b2, by rw [o _ (by omega) (by omega)]; exact b3, fun z => by rw [o _ (by omega) (by omega)]; exact b4 (by omega), fun z t => by rw [o _ (by omega) (by omega)] at t ⊢; exact b5 z t, fun z => z.elim⟩
  · have hx : n = 0 ∧ n0 = 1 ∨ n = 1 ∧ n0 = 0 := by omega
    exact GN_keep (h.2.2 n hn2) rfl (fu_ne e) (fun j h1 h2 => o j (by omega) (by omega))
theorem Good_leave (h : Good B M L X0 g) (hn : n0 < 2) (hl0 : l0 < L n0) (hw : L n0 = w + 1) (f48 : f (48 + 326 * n0) = nI w) (f47 : iR (f (47 + 326 * n0)) (-1) ((w : Int) - 1)) (sh : ∀ j, 104 + 326 * n0 + 66 * l0 ≤ j → j < 104 + 326 * n0 + 66 * w → f j = g (j + 66)) (o : ∀ j, j ≠ 48 + 326 * n0 → j ≠ 47 + 326 * n0 → j ≠ 50 + 326 * n0 → (j < 104 + 326 * n0 + 66 * l0 ∨ 104 + 326 * n0 + 66 * w ≤ j) → f j = g j) : Good B M (fu L n0 w) X0 f := by
  have h4 : L n0 ≤ 4 := (h.2.2 n0 hn).2.1.2
  refine ⟨by rw [o _ (by omega) (by omega) (by omega) (by omega)]; exact h.1, by rw [o _ (by omega) (by omega) (by omega) (by omega)]; exact h.2.1, fun n hn2 => ?_⟩
  by_cases e : n = n0
  · subst e
    obtain ⟨a1, a2, a3, a4, a5, a6, a7, a8⟩ := h.2.2 n hn2
    unfold GN
    rw [fu_at]
    refine ⟨by rw [o _ (by omega) (by omega) (by omega) (by omega)]; exact a1, ⟨f48, by omega⟩, fun _ => f47, by rw [o _ (by omega) (by omega) (by omega) (by omega)]; exact a4, by rw [o _ (by omega) (by omega) (by omega) (by omega)]; exact a5, fun z => by rw [o _ (by omega) (by omega) (by omega) (by omega), o _ (by omega) (by omega) (by omega) (by omega)]; exact a6 z, fun q => q.elim, fun l hl => ?_⟩
    unfold GL
    rw [fu_at]
    by_cases e2 : l < l0 ∨ w ≤ l
    · obtain ⟨b1, b2, b3, b4, b5, b6⟩ := a8 l hl
      exact ⟨by rw [o _ (by omega) (by omega) (by omega) (by omega)]; exact b1, by rw [o _ (by omega) (by omega) (by omega) (by omega)]; exact b2, by rw [o _ (by omega) (by omega) (by omega) (by omega)]; exact b3, fun z => by rw [o _ (by omega) (by omega) (by omega) (by omega)]; exact b4 (by omega), fun z t => by rw [o _ (by omega) (by omega) (by omega) (by omega)] at t ⊢; exact b5 z t, fun z => z.elim⟩
    · obtain ⟨b1, b2, b3, b4, b5, b6⟩ := a8 (l + 1) (by omega)
      have s : ∀ q, q < 66 → f (104 + q + 326 * n + 66 * l) = g (104 + q + 326 * n + 66 * (l + 1)) := fun q hq => by rw [sh _ (by omega) (by omega)]; congr 1
      exact ⟨by rw [s 2 (by decide)]; exact b1, by rw [s 5 (by decide)]; exact b2, by rw [s 14 (by decide)]; exact b3, fun z => by rw [s 1 (by decide)]; exact b4 (by omega), fun z t => by rw [s 39 (by decide)] at t; rw [s 14 (by decide)]; exact b5 (fun q => q.elim) t, fun z => z.elim⟩
  · have hx : n = 0 ∧ n0 = 1 ∨ n = 1 ∧ n0 = 0 := by omega
    exact GN_keep (h.2.2 n hn2) rfl (fu_ne e) (fun j h1 h2 => o j (by omega) (by omega) (by omega) (by omega))
end RN
