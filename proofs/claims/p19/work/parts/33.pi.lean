def GE (f : Nat → Int32) : Prop := ∃ M L, Good 99998 M L X0 f
/-- the reference between calls -/
def PI (r ρ : Nat → Nat → Int32) : Prop := (∀ k, k < 1076 → ρ k = r k) ∧ GE (ρ 1078) ∧ (∃ u, u ≤ 8 ∧ ρ 1076 6 = nI u ∧ ∀ i, i < u → GE (fun j => ρ 1079 (695 * i + j))) ∧ (∀ k, k < 2 → iR (ρ 1082 k) 0 1 ∧ (ρ 1082 k = 1 → GE (fun j => ρ 1081 (695 * k + j)))) ∧ (∀ n, n < 2 → iR (ρ 1085 n) (-2) 22 ∧ iR (ρ 1086 n) (-2) 22 ∧ iR (ρ 1087 n) 0 1 ∧ iR (ρ 1088 n) 0 1 ∧ iR (ρ 1089 n) 0 1)
def PJ (r : Nat → Nat → Int32) (M : Nat → Int32) (L : Nat → Nat) (ρ : Nat → Nat → Int32) : Prop := PI r ρ ∧ Good 99998 M L X0 (ρ 1078)
section PP
variable {r ρ ρ1 ρ2 : Nat → Nat → Int32} {B : Nat} {M M2 : Nat → Int32} {L L2 : Nat → Nat} {X : Nat × Nat → Prop} {f g : Nat → Int32}
theorem Good_ext (h : Good B M L X f) (e : ∀ j, j < 695 → g j = f j) : Good B M L X g := by
  refine ⟨by rw [e 0 (by decide)]; exact h.1, by rw [e 7 (by decide)]; exact h.2.1, fun n hn => ?_⟩
  obtain ⟨a1, a2, a3, a4, a5, a6, a7, a8⟩ := h.2.2 n hn
  refine ⟨by rw [e _ (by omega)]; exact a1, by rw [e _ (by omega)]; exact a2, fun z => by rw [e _ (by omega)]; exact a3 z, by rw [e _ (by omega)]; exact a4, by rw [e _ (by omega)]; exact a5, fun z => by rw [e _ (by omega), e _ (by omega)]; exact a6 z, fun z => by rw [e _ (by omega)]; exact a7 z, fun l hl => ?_⟩
  obtain ⟨b1, b2, b3, b4, b5, b6⟩ := a8 l hl
  exact ⟨by rw [e _ (by omega)]; exact b1, by rw [e _ (by omega)]; exact b2, by rw [e _ (by omega)]; exact b3, fun z => by rw [e _ (by omega)]; exact b4 z, fun z t => by rw [e _ (by omega)] at t ⊢; exact b5 z t, fun z => by rw [e _ (by omega)]; exact b6 z⟩
theorem GE_ext (h : GE f) (e : ∀ j, j < 695 → g j = f j) : GE g := by
  obtain ⟨M, L, h⟩ := h
  exact ⟨M, L, Good_ext h e⟩
theorem PI_RI (h : PI r ρ) (hR : RI ρ 99998 M L X0 ρ1) : PI r ρ1 := by
  refine ⟨fun k hk => (hR.1 k (by omega) (by omega)).trans (h.1 k hk), ⟨M, L, hR.2.2⟩, ?_, ?_, ?_⟩
  · rw [hR.2.1, hR.1 1079 (by decide) (by decide)]; exact h.2.2.1
  · rw [hR.1 1081 (by decide) (by decide), hR.1 1082 (by decide) (by decide)]; exact h.2.2.2.1
  · rw [hR.1 1085 (by decide) (by decide), hR.1 1086 (by decide) (by decide), hR.1 1087 (by decide) (by decide), hR.1 1088 (by decide) (by decide), hR.1 1089 (by decide) (by decide)]; exact h.2.2.2.2
theorem PJ_RI (h : PI r ρ) (hR : RI ρ 99998 M L X0 ρ1) : PJ r M L ρ1 := ⟨PI_RI h hR, hR.2.2⟩
theorem PJ_I (h : PJ r M L ρ) : RI ρ 99998 M L X0 ρ := ⟨fun _ _ _ => rfl, rfl, h.2⟩
theorem Good_tight {j : Nat} (h : Good B M L X f) (e : f 7 = nI j) (hj : j < 2 ^ 31) : Good j M L X f := ⟨h.1, by rw [e]; exact nI_iR hj (by omega) (by omega), h.2.2⟩
theorem X0_XT {c s : Nat → Int32} (h : Good B M L X0 f) : Good B M L (XT 0 0 0 0 c s) f := Good_X h (fun _ _ _ z => z.elim) (fun n l _ _ z => by rcases z with ⟨-, -, z, -⟩ | ⟨x, -, -, -, z, -⟩ <;> exact absurd z (Nat.not_lt_zero _)) (fun n _ z => by rcases z with ⟨-, -, z, -⟩ | ⟨x, -, -, -, z, -⟩ <;> exact absurd z (Nat.not_lt_zero _))
theorem XT_X0 {c s : Nat → Int32} (h : Good B M L (XT 0 0 0 0 c s) f) : Good B M L X0 f := Good_X h (fun n l hl z => absurd z (XT_no hl)) (fun _ _ _ _ z => z.elim) (fun _ _ z => z.elim)
theorem PJ_TI (h : PI r ρ) (hG : Good B M L X0 (ρ 1078)) : TI ρ B M L 0 0 0 0 0 2 0 ρ := ⟨fun _ _ _ _ => rfl, rfl, X0_XT hG, h.2.2.2.2, fun n _ z => absurd z (Nat.not_lt_zero _), fun n _ z => absurd z (Nat.not_lt_zero _), fun n a b => by omega⟩
theorem PI_TI (h : PI r ρ) (hT : TI ρ B M L 0 0 0 0 0 2 0 ρ1) (hG : GE (ρ2 1078)) (h1 : ∀ k, k ≠ 1078 → k ≠ 1083 → ρ2 k = ρ1 k) : PI r ρ2 := by
  refine ⟨fun k hk => ?_, hG, ?_, ?_, ?_⟩
  · rw [h1 k (by omega) (by omega), hT.1 k (by omega) (by omega) (by omega)]; exact h.1 k hk
  · rw [h1 1076 (by decide) (by decide), h1 1079 (by decide) (by decide), hT.2.1, hT.1 1079 (by decide) (by decide) (by decide)]; exact h.2.2.1
  · rw [h1 1081 (by decide) (by decide), h1 1082 (by decide) (by decide), hT.1 1081 (by decide) (by decide) (by decide), hT.1 1082 (by decide) (by decide) (by decide)]; exact h.2.2.2.1
  · rw [h1 1085 (by decide) (by decide), h1 1086 (by decide) (by decide), h1 1087 (by decide) (by decide), h1 1088 (by decide) (by decide), h1 1089 (by decide) (by decide)]; exact hT.2.2.2.1
theorem PJ_run (h : PI r ρ) (hT : TI ρ B M L 0 0 0 0 0 2 0 ρ1) (hB : B ≤ 99998) : PJ r M L ρ1 := by
  have hG := Good_B (XT_X0 hT.2.2.1) hB
  exact ⟨PI_TI h hT ⟨M, L, hG⟩ (fun _ _ _ => rfl), hG⟩
/-- a cell that nothing is said of -/
theorem PI_free {c j : Nat} {v : Int32} (h : PI r ρ) (hc : c = 1077 ∨ c = 1080 ∨ c = 1083) : PI r (up ρ c j v) := by
  refine ⟨fun k hk => by rw [up_ne _ _ _ (by omega)]; exact h.1 k hk, by rw [up_ne _ _ _ (by omega)]; exact h.2.1, by rw [up_ne _ _ _ (by omega), up_ne _ _ _ (by omega)]; exact h.2.2.1, by rw [up_ne _ _ _ (by omega), up_ne _ _ _ (by omega)]; exact h.2.2.2.1, by rw [up_ne _ _ _ (by omega), up_ne _ _ _ (by omega), up_ne _ _ _ (by omega), up_ne _ _ _ (by omega), up_ne _ _ _ (by omega)]; exact h.2.2.2.2⟩
theorem PJ_free {c j : Nat} {v : Int32} (h : PJ r M L ρ) (hc : c = 1077 ∨ c = 1080 ∨ c = 1083) : PJ r M L (up ρ c j v) := ⟨PI_free h.1 hc, by rw [up_ne _ _ _ (by omega)]; exact h.2⟩
end PP
