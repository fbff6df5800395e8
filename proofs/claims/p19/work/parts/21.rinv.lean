/-- a link's slots in the reference's row -/
def GL (L : Nat → Nat) (X : Nat × Nat → Prop) (f : Nat → Int32) (n l : Nat) : Prop :=
  iR (f (106 + 326 * n + 66 * l)) 0 8388607 ∧ iR (f (109 + 326 * n + 66 * l)) 0 8 ∧ iR (f (118 + 326 * n + 66 * l)) 0 8 ∧ (l < L n → iR (f (105 + 326 * n + 66 * l)) 1 8388607) ∧ (¬ X (n, l) → f (143 + 326 * n + 66 * l) = 1 → iR (f (118 + 326 * n + 66 * l)) 1 8) ∧ (X (n, 10 + l) → iR (f (109 + 326 * n + 66 * l)) 1 8)
/-- a net's slots -/
def GN (M : Nat → Int32) (L : Nat → Nat) (X : Nat × Nat → Prop) (f : Nat → Int32) (n : Nat) : Prop :=
  (f (42 + 326 * n) = M n ∧ iR (M n) (-1) 5) ∧ (f (48 + 326 * n) = nI (L n) ∧ L n ≤ 4) ∧ (M n ≠ -1 → iR (f (47 + 326 * n)) (-1) (L n - 1)) ∧ iR (f (45 + 326 * n)) 0 8388607 ∧ iR (f (51 + 326 * n)) 0 4 ∧ (M n ≠ -1 → iR (f (44 + 326 * n)) 1 8388607 ∧ iR (f (49 + 326 * n)) 1 8388607) ∧ (X (n, 20) → iR (f (51 + 326 * n)) 1 4) ∧ ∀ l, l < 4 → GL L X f n l
/-- the reference's row -/
def Good (B : Nat) (M : Nat → Int32) (L : Nat → Nat) (X : Nat × Nat → Prop) (f : Nat → Int32) : Prop := iR (f 0) 0 6 ∧ iR (f 7) 0 B ∧ ∀ n, n < 2 → GN M L X f n
def X0 : Nat × Nat → Prop := fun _ => False
/-- what a slot may be given -/
def OKv (B : Nat) (M : Nat → Int32) (L : Nat → Nat) (X : Nat × Nat → Prop) (f : Nat → Int32) (j : Nat) (v : Int32) : Prop :=
  (j = 0 → iR v 0 6) ∧ (j = 7 → iR v 0 B) ∧ ∀ n, n < 2 → (42 + 326 * n = j → False) ∧ (48 + 326 * n = j → False) ∧ (j = 47 + 326 * n → M n ≠ -1 → iR v (-1) (L n - 1)) ∧ (j = 45 + 326 * n → iR v 0 8388607) ∧ (j = 51 + 326 * n → iR v 0 4 ∧ (X (n, 20) → iR v 1 4)) ∧ ((j = 44 + 326 * n ∨ j = 49 + 326 * n) → M n ≠ -1 → iR v 1 8388607) ∧ ∀ l, l < 4 → (j = 106 + 326 * n + 66 * l → iR v 0 8388607) ∧ (j = 109 + 326 * n + 66 * l → iR v 0 8 ∧ (X (n, 10 + l) → iR v 1 8)) ∧ (j = 118 + 326 * n + 66 * l → iR v 0 8 ∧ (¬ X (n, l) → f (143 + 326 * n + 66 * l) = 1 → iR v 1 8)) ∧ (j = 105 + 326 * n + 66 * l → l < L n → iR v 1 8388607) ∧ (j = 143 + 326 * n + 66 * l → v = 1 → ¬ X (n, l) → iR (f (118 + 326 * n + 66 * l)) 1 8)
theorem uq {f : Nat → Int32} {j : Nat} {v : Int32} : upd f j v j = v := by simp [upd]
theorem un {f : Nat → Int32} {i j : Nat} {v : Int32} (h : i ≠ j) : upd f j v i = f i := by simp [upd, h]
theorem ur {f : Nat → Int32} {i j : Nat} {v : Int32} {a b : Int} (h : iR (f i) a b) (hv : j = i → iR v a b) : iR (upd f j v i) a b := by
  by_cases e : i = j
  · subst e; rw [uq]; exact hv rfl
  · rw [un e]; exact h
theorem Good_upd {B : Nat} {M : Nat → Int32} {L : Nat → Nat} {X : Nat × Nat → Prop} {f : Nat → Int32} {j : Nat} {v : Int32} (h : Good B M L X f) (ho : OKv B M L X f j v) : Good B M L X (upd f j v) := by
  refine ⟨ur h.1 ho.1, ur h.2.1 ho.2.1, fun n hn => ?_⟩
  obtain ⟨h1, h2, h3, h4, h5, h6, h8, h7⟩ := h.2.2 n hn
  obtain ⟨o1, o2, o3, o4, o5, o6, o7⟩ := ho.2.2 n hn
  refine ⟨⟨by rw [un o1]; exact h1.1, h1.2⟩, ⟨by rw [un o2]; exact h2.1, h2.2⟩, fun hm => ur (h3 hm) (fun e => o3 e hm), ur h4 o4, ur h5 (fun e => (o5 e).1), fun hm => ⟨ur (h6 hm).1 (fun e => o6 (Or.inl e) hm), ur (h6 hm).2 (fun e => o6 (Or.inr e) hm)⟩, fun hx => ur (h8 hx) (fun e => (o5 e).2 hx), fun l hl => ?_⟩
  obtain ⟨g1, g2, g3, g4, g5, g6⟩ := h7 l hl
  obtain ⟨p1, p2, p3, p4, p5⟩ := o7 l hl
  refine ⟨ur g1 p1, ur g2 (fun e => (p2 e).1), ur g3 (fun e => (p3 e).1), fun q => ur (g4 q) (fun e => p4 e q), fun hx ht => ?_, fun hx => ur (g6 hx) (fun e => (p2 e).2 hx)⟩
  by_cases e1 : j = 143 + 326 * n + 66 * l
  · rw [un (by omega)]
    rw [← e1, uq] at ht
    exact p5 e1 ht hx
  · rw [un (Ne.symm e1)] at ht
    exact ur (g5 hx ht) (fun e => (p3 e).2 hx ht)
def RI (r : Nat → Nat → Int32) (B : Nat) (M : Nat → Int32) (L : Nat → Nat) (X : Nat × Nat → Prop) (ρ : Nat → Nat → Int32) : Prop := (∀ k, k ≠ 1076 → k ≠ 1078 → ρ k = r k) ∧ ρ 1076 6 = r 1076 6 ∧ Good B M L X (ρ 1078)
section RR
variable {r ρ : Nat → Nat → Int32} {B : Nat} {M : Nat → Int32} {L : Nat → Nat} {X : Nat × Nat → Prop} {j n0 l0 : Nat} {v : Int32}
theorem RI_up (hI : RI r B M L X ρ) (ho : OKv B M L X (ρ 1078) j v) : RI r B M L X (up ρ 1078 j v) := by
  refine ⟨fun k h1 h2 => ?_, ?_, ?_⟩
  · rw [up_ne _ _ _ h2]; exact hI.1 k h1 h2
  · rw [up_ne _ _ _ (by decide)]; exact hI.2.1
  · rw [up_at]; exact Good_upd hI.2.2 ho
theorem RI_76 (hI : RI r B M L X ρ) (h : j ≠ 6) : RI r B M L X (up ρ 1076 j v) := by
  refine ⟨fun k h1 h2 => ?_, ?_, ?_⟩
  · rw [up_ne _ _ _ h1]; exact hI.1 k h1 h2
  · exact (up_get_ne (Or.inr (Ne.symm h)) rfl).trans hI.2.1
  · rw [up_ne _ _ _ (by decide)]; exact hI.2.2
theorem RI_Lb (hI : RI r B M L X ρ) {n : Nat} (hn : n < 2) : L n ≤ 4 := (hI.2.2.2.2 n hn).2.1.2
theorem RI_Mb (hI : RI r B M L X ρ) {n : Nat} (hn : n < 2) : iR (M n) (-1) 5 := (hI.2.2.2.2 n hn).1.2
theorem g_m (hI : RI r B M L X ρ) (hn : n0 < 2) (hj : j = 42 + 326 * n0) : ρ 1078 j = M n0 := by subst hj; exact (hI.2.2.2.2 n0 hn).1.1
theorem g_l (hI : RI r B M L X ρ) (hn : n0 < 2) (hj : j = 48 + 326 * n0) : ρ 1078 j = nI (L n0) := by subst hj; exact (hI.2.2.2.2 n0 hn).2.1.1
theorem m_ne {x : Int32} {b : Int} (h : iR x 0 b) : x ≠ -1 := fun e => by rw [e] at h; exact absurd h.1 (by decide)
theorem g_polled (hI : RI r B M L X ρ) (hn : n0 < 2) (hm : iR (M n0) 0 5) (hj : j = 47 + 326 * n0) : iR (ρ 1078 j) (-1) (L n0 - 1) := by subst hj; exact (hI.2.2.2.2 n0 hn).2.2.1 (m_ne hm)
theorem g_polled3 (hI : RI r B M L X ρ) (hn : n0 < 2) (hm : iR (M n0) 0 5) (hj : j = 47 + 326 * n0) : iR (ρ 1078 j) (-1) 3 := by
  have h := g_polled hI hn hm hj
  have := RI_Lb hI hn
  exact iR_w h (by omega) (by omega)
theorem g_next (hI : RI r B M L X ρ) (hn : n0 < 2) (hj : j = 45 + 326 * n0) : iR (ρ 1078 j) 0 8388607 := by subst hj; exact (hI.2.2.2.2 n0 hn).2.2.2.1
theorem g_ncast (hI : RI r B M L X ρ) (hn : n0 < 2) (hj : j = 51 + 326 * n0) : iR (ρ 1078 j) 0 4 := by subst hj; exact (hI.2.2.2.2 n0 hn).2.2.2.2.1
theorem g_map (hI : RI r B M L X ρ) (hn : n0 < 2) (hm : iR (M n0) 0 5) (hj : j = 44 + 326 * n0) : iR (ρ 1078 j) 1 8388607 := by subst hj; exact ((hI.2.2.2.2 n0 hn).2.2.2.2.2.1 (m_ne hm)).1
theorem g_mapahead (hI : RI r B M L X ρ) (hn : n0 < 2) (hm : iR (M n0) 0 5) (hj : j = 49 + 326 * n0) : iR (ρ 1078 j) 1 8388607 := by subst hj; exact ((hI.2.2.2.2 n0 hn).2.2.2.2.2.1 (m_ne hm)).2
theorem g_itsnext (hI : RI r B M L X ρ) (hn : n0 < 2) (hl : l0 < 4) (hj : j = 106 + 326 * n0 + 66 * l0) : iR (ρ 1078 j) 0 8388607 := by subst hj; exact ((hI.2.2.2.2 n0 hn).2.2.2.2.2.2.2 l0 hl).1
theorem g_ndown (hI : RI r B M L X ρ) (hn : n0 < 2) (hl : l0 < 4) (hj : j = 109 + 326 * n0 + 66 * l0) : iR (ρ 1078 j) 0 8 := by subst hj; exact ((hI.2.2.2.2 n0 hn).2.2.2.2.2.2.2 l0 hl).2.1
theorem g_nup (hI : RI r B M L X ρ) (hn : n0 < 2) (hl : l0 < 4) (hj : j = 118 + 326 * n0 + 66 * l0) : iR (ρ 1078 j) 0 8 := by subst hj; exact ((hI.2.2.2.2 n0 hn).2.2.2.2.2.2.2 l0 hl).2.2.1
theorem g_itsmap (hI : RI r B M L X ρ) (hn : n0 < 2) (hl : l0 < L n0) (hj : j = 105 + 326 * n0 + 66 * l0) : iR (ρ 1078 j) 1 8388607 := by
  subst hj
  have := RI_Lb hI hn
  exact ((hI.2.2.2.2 n0 hn).2.2.2.2.2.2.2 l0 (by omega)).2.2.2.1 hl
theorem g_xdown (hI : RI r B M L X ρ) (hn : n0 < 2) (hl : l0 < 4) (hx : X (n0, 10 + l0)) (hj : j = 109 + 326 * n0 + 66 * l0) : iR (ρ 1078 j) 1 8 := by subst hj; exact ((hI.2.2.2.2 n0 hn).2.2.2.2.2.2.2 l0 hl).2.2.2.2.2 hx
theorem g_xcast (hI : RI r B M L X ρ) (hn : n0 < 2) (hx : X (n0, 20)) (hj : j = 51 + 326 * n0) : iR (ρ 1078 j) 1 4 := by subst hj; exact (hI.2.2.2.2 n0 hn).2.2.2.2.2.2.1 hx
theorem g_taken (hI : RI r B M L X ρ) (hn : n0 < 2) (hl : l0 < 4) (hx : ¬ X (n0, l0)) (ht : ρ 1078 (143 + 326 * n0 + 66 * l0) = 1) (hj : j = 118 + 326 * n0 + 66 * l0) : iR (ρ 1078 j) 1 8 := by subst hj; exact ((hI.2.2.2.2 n0 hn).2.2.2.2.2.2.2 l0 hl).2.2.2.2.1 hx ht
theorem rl_m1 (N : Nat) : iR (-1) (-1) ((N : Int) - 1) := ⟨by decide, by rw [show (-1 : Int32).toInt = -1 from rfl]; omega⟩
theorem rl_nat {N k : Nat} (h : k < N) (h4 : N ≤ 4) : iR (nI k) (-1) ((N : Int) - 1) := nI_iR (by omega) (by omega) (by omega)
theorem rl_lt {x : Int32} {N k : Nat} (h : iR x (-1) ((N : Int) - 1)) (e : x = nI k) (hk : k < 2 ^ 31) : k < N := by
  have := h.2
  rw [e, nI_toInt hk] at this
  omega
theorem iI_dec {x : Int32} {a b n : Int} {m : Int32} (hx : iR x a b) (hm : m.toInt = n) (h1 : -2147483648 ≤ a + n) (h2 : b + n ≤ 2147483647) : (x + m).toInt = x.toInt + n ∧ a ≤ x.toInt ∧ x.toInt ≤ b := by
  unfold iR at hx
  rw [Int32.toInt_add, Int.bmod_eq_of_le (by omega) (by omega)]
  exact ⟨by omega, hx.1, hx.2⟩
theorem nI_dec {k j : Nat} (h : k = j + 1) : nI k + (-1) = nI j := by
  subst h
  rw [← nI_add, show nI 1 = 1 from rfl, show (-1 : Int32) = -1 from rfl, Int32.add_assoc]
  exact Int32.add_zero _
theorem g_nradio (hI : RI r B M L X ρ) : iR (ρ 1078 0) 0 6 := hI.2.2.1
theorem g_time (hI : RI r B M L X ρ) : iR (ρ 1078 7) 0 B := hI.2.2.2.1
theorem ok_head (h1 : j < 42) (h2 : j ≠ 0) (h3 : j ≠ 7) : OKv B M L X (ρ 1078) j v :=
  ⟨fun e => by omega, fun e => by omega, fun n hn => ⟨fun e => by omega, fun e => by omega, fun e => by omega, fun e => by omega, fun e => by omega, fun e => by omega, fun l hl => ⟨fun e => by omega, fun e => by omega, fun e => by omega, fun e => by omega, fun e => by omega⟩⟩⟩
theorem ok_last (h1 : j = 694) : OKv B M L X (ρ 1078) j v :=
  ⟨fun e => by omega, fun e => by omega, fun n hn => ⟨fun e => by omega, fun e => by omega, fun e => by omega, fun e => by omega, fun e => by omega, fun e => by omega, fun l hl => ⟨fun e => by omega, fun e => by omega, fun e => by omega, fun e => by omega, fun e => by omega⟩⟩⟩
theorem ok_net (o : Nat) (hn : n0 < 2) (ho : o < 62 ∧ o ≠ 0 ∧ o ≠ 2 ∧ o ≠ 3 ∧ o ≠ 5 ∧ o ≠ 6 ∧ o ≠ 7 ∧ o ≠ 9) (hj : j = 42 + 326 * n0 + o) : OKv B M L X (ρ 1078) j v := by
  rcases (show n0 = 0 ∨ n0 = 1 by omega) with rfl | rfl
  · refine ⟨fun e => by omega, fun e => by omega, fun n hn2 => ?_⟩
    rcases (show n = 0 ∨ n = 1 by omega) with rfl | rfl
    · exact ⟨fun e => by omega, fun e => by omega, fun e => by omega, fun e => by omega, fun e => by omega, fun e => by omega, fun l hl => ⟨fun e => by omega, fun e => by omega, fun e => by omega, fun e => by omega, fun e => by omega⟩⟩
    · exact ⟨fun e => by omega, fun e => by omega, fun e => by omega, fun e => by omega, fun e => by omega, fun e => by omega, fun l hl => ⟨fun e => by omega, fun e => by omega, fun e => by omega, fun e => by omega, fun e => by omega⟩⟩
  · refine ⟨fun e => by omega, fun e => by omega, fun n hn2 => ?_⟩
    rcases (show n = 0 ∨ n = 1 by omega) with rfl | rfl
    · exact ⟨fun e => by omega, fun e => by omega, fun e => by omega, fun e => by omega, fun e => by omega, fun e => by omega, fun l hl => ⟨fun e => by omega, fun e => by omega, fun e => by omega, fun e => by omega, fun e => by omega⟩⟩
    · exact ⟨fun e => by omega, fun e => by omega, fun e => by omega, fun e => by omega, fun e => by omega, fun e => by omega, fun l hl => ⟨fun e => by omega, fun e => by omega, fun e => by omega, fun e => by omega, fun e => by omega⟩⟩

theorem ok_link (o : Nat) (hn : n0 < 2) (hl0 : l0 < 4) (ho : o < 66 ∧ o ≠ 1 ∧ o ≠ 2 ∧ o ≠ 5 ∧ o ≠ 14 ∧ o ≠ 39) (hj : j = 104 + 326 * n0 + 66 * l0 + o) : OKv B M L X (ρ 1078) j v := by
  rcases (show n0 = 0 ∨ n0 = 1 by omega) with rfl | rfl
  · refine ⟨fun e => by omega, fun e => by omega, fun n hn2 => ?_⟩
    rcases (show n = 0 ∨ n = 1 by omega) with rfl | rfl
    · exact ⟨fun e => by omega, fun e => by omega, fun e => by omega, fun e => by omega, fun e => by omega, fun e => by omega, fun l hl => ⟨fun e => by omega, fun e => by omega, fun e => by omega, fun e => by omega, fun e => by omega⟩⟩
    · exact ⟨fun e => by omega, fun e => by omega, fun e => by omega, fun e => by omega, fun e => by omega, fun e => by omega, fun l hl => ⟨fun e => by omega, fun e => by omega, fun e => by omega, fun e => by omega, fun e => by omega⟩⟩
  · refine ⟨fun e => by omega, fun e => by omega, fun n hn2 => ?_⟩
    rcases (show n = 0 ∨ n = 1 by omega) with rfl | rfl
    · exact ⟨fun e => by omega, fun e => by omega, fun e => by omega, fun e => by omega, fun e => by omega, fun e => by omega, fun l hl => ⟨fun e => by omega, fun e => by omega, fun e => by omega, fun e => by omega, fun e => by omega⟩⟩
    · exact ⟨fun e => by omega, fun e => by omega, fun e => by omega, fun e => by omega, fun e => by omega, fun e => by omega, fun l hl => ⟨fun e => by omega, fun e => by omega, fun e => by omega, fun e => by omega, fun e => by omega⟩⟩

theorem ok_next (hn0 : n0 < 2) (hv : iR v 0 8388607) (hj : j = 45 + 326 * n0) : OKv B M L X (ρ 1078) j v :=
  ⟨fun e => by omega, fun e => by omega, fun n hn => ⟨fun e => by omega, fun e => by omega, fun e => by omega, fun _ => hv, fun e => by omega, fun e => by omega, fun l hl => ⟨fun e => by omega, fun e => by omega, fun e => by omega, fun e => by omega, fun e => by omega⟩⟩⟩
theorem ok_ncast (hn0 : n0 < 2) (hv : iR v 1 4) (hj : j = 51 + 326 * n0) : OKv B M L X (ρ 1078) j v :=
  ⟨fun e => by omega, fun e => by omega, fun n hn => ⟨fun e => by omega, fun e => by omega, fun e => by omega, fun e => by omega, fun _ => ⟨iR_w hv (by decide) (by decide), fun _ => hv⟩, fun e => by omega, fun l hl => ⟨fun e => by omega, fun e => by omega, fun e => by omega, fun e => by omega, fun e => by omega⟩⟩⟩
theorem ok_ncastX (hn0 : n0 < 2) (hx : ¬ X (n0, 20)) (hv : iR v 0 4) (hj : j = 51 + 326 * n0) : OKv B M L X (ρ 1078) j v :=
  ⟨fun e => by omega, fun e => by omega, fun n hn => ⟨fun e => by omega, fun e => by omega, fun e => by omega, fun e => by omega, fun e => ⟨hv, fun z => absurd (by rw [show n0 = n by omega]; exact z) hx⟩, fun e => by omega, fun l hl => ⟨fun e => by omega, fun e => by omega, fun e => by omega, fun e => by omega, fun e => by omega⟩⟩⟩
theorem ok_map (hn0 : n0 < 2) (hv : iR v 1 8388607) (hj : j = 44 + 326 * n0) : OKv B M L X (ρ 1078) j v :=
  ⟨fun e => by omega, fun e => by omega, fun n hn => ⟨fun e => by omega, fun e => by omega, fun e => by omega, fun e => by omega, fun e => by omega, fun _ _ => hv, fun l hl => ⟨fun e => by omega, fun e => by omega, fun e => by omega, fun e => by omega, fun e => by omega⟩⟩⟩
theorem ok_mapahead (hn0 : n0 < 2) (hv : iR v 1 8388607) (hj : j = 49 + 326 * n0) : OKv B M L X (ρ 1078) j v :=
  ⟨fun e => by omega, fun e => by omega, fun n hn => ⟨fun e => by omega, fun e => by omega, fun e => by omega, fun e => by omega, fun e => by omega, fun _ _ => hv, fun l hl => ⟨fun e => by omega, fun e => by omega, fun e => by omega, fun e => by omega, fun e => by omega⟩⟩⟩
theorem ok_polled (hn0 : n0 < 2) (hv : iR v (-1) (L n0 - 1)) (hj : j = 47 + 326 * n0) : OKv B M L X (ρ 1078) j v :=
  ⟨fun e => by omega, fun e => by omega, fun n hn => ⟨fun e => by omega, fun e => by omega, fun e _ => by rw [show n = n0 by omega]; exact hv, fun e => by omega, fun e => by omega, fun e => by omega, fun l hl => ⟨fun e => by omega, fun e => by omega, fun e => by omega, fun e => by omega, fun e => by omega⟩⟩⟩
theorem ok_itsnext (hn0 : n0 < 2) (hl0 : l0 < 4) (hv : iR v 0 8388607) (hj : j = 106 + 326 * n0 + 66 * l0) : OKv B M L X (ρ 1078) j v :=
  ⟨fun e => by omega, fun e => by omega, fun n hn => ⟨fun e => by omega, fun e => by omega, fun e => by omega, fun e => by omega, fun e => by omega, fun e => by omega, fun l hl => ⟨fun _ => hv, fun e => by omega, fun e => by omega, fun e => by omega, fun e => by omega⟩⟩⟩
theorem ok_ndown (hn0 : n0 < 2) (hl0 : l0 < 4) (hv : iR v 1 8) (hj : j = 109 + 326 * n0 + 66 * l0) : OKv B M L X (ρ 1078) j v :=
  ⟨fun e => by omega, fun e => by omega, fun n hn => ⟨fun e => by omega, fun e => by omega, fun e => by omega, fun e => by omega, fun e => by omega, fun e => by omega, fun l hl => ⟨fun e => by omega, fun _ => ⟨iR_w hv (by decide) (by decide), fun _ => hv⟩, fun e => by omega, fun e => by omega, fun e => by omega⟩⟩⟩
theorem ok_ndownX (hn0 : n0 < 2) (hl0 : l0 < 4) (hx : ¬ X (n0, 10 + l0)) (hv : iR v 0 8) (hj : j = 109 + 326 * n0 + 66 * l0) : OKv B M L X (ρ 1078) j v :=
  ⟨fun e => by omega, fun e => by omega, fun n hn => ⟨fun e => by omega, fun e => by omega, fun e => by omega, fun e => by omega, fun e => by omega, fun e => by omega, fun l hl => ⟨fun e => by omega, fun e => ⟨hv, fun z => absurd (by rw [show n0 = n by omega, show l0 = l by omega]; exact z) hx⟩, fun e => by omega, fun e => by omega, fun e => by omega⟩⟩⟩
theorem ok_nup (hn0 : n0 < 2) (hl0 : l0 < 4) (hv : iR v 1 8) (hj : j = 118 + 326 * n0 + 66 * l0) : OKv B M L X (ρ 1078) j v :=
  ⟨fun e => by omega, fun e => by omega, fun n hn => ⟨fun e => by omega, fun e => by omega, fun e => by omega, fun e => by omega, fun e => by omega, fun e => by omega, fun l hl => ⟨fun e => by omega, fun e => by omega, fun _ => ⟨iR_w hv (by decide) (by decide), fun _ _ => hv⟩, fun e => by omega, fun e => by omega⟩⟩⟩
theorem ok_nupX (hn0 : n0 < 2) (hl0 : l0 < 4) (hx : X (n0, l0)) (hv : iR v 0 8) (hj : j = 118 + 326 * n0 + 66 * l0) : OKv B M L X (ρ 1078) j v :=
  ⟨fun e => by omega, fun e => by omega, fun n hn => ⟨fun e => by omega, fun e => by omega, fun e => by omega, fun e => by omega, fun e => by omega, fun e => by omega, fun l hl => ⟨fun e => by omega, fun e => by omega, fun e => ⟨hv, fun z => absurd (by rw [show n = n0 by omega, show l = l0 by omega]; exact hx) z⟩, fun e => by omega, fun e => by omega⟩⟩⟩
theorem ok_itsmap (hn0 : n0 < 2) (hl0 : l0 < 4) (hv : iR v 1 8388607) (hj : j = 105 + 326 * n0 + 66 * l0) : OKv B M L X (ρ 1078) j v :=
  ⟨fun e => by omega, fun e => by omega, fun n hn => ⟨fun e => by omega, fun e => by omega, fun e => by omega, fun e => by omega, fun e => by omega, fun e => by omega, fun l hl => ⟨fun e => by omega, fun e => by omega, fun e => by omega, fun _ _ => hv, fun e => by omega⟩⟩⟩
theorem ok_taken0 (hn0 : n0 < 2) (hl0 : l0 < 4) (hv : v ≠ 1) (hj : j = 143 + 326 * n0 + 66 * l0) : OKv B M L X (ρ 1078) j v :=
  ⟨fun e => by omega, fun e => by omega, fun n hn => ⟨fun e => by omega, fun e => by omega, fun e => by omega, fun e => by omega, fun e => by omega, fun e => by omega, fun l hl => ⟨fun e => by omega, fun e => by omega, fun e => by omega, fun e => by omega, fun _ e => absurd e hv⟩⟩⟩
theorem ok_taken1 (hn0 : n0 < 2) (hl0 : l0 < 4) (hv : iR (ρ 1078 (118 + 326 * n0 + 66 * l0)) 1 8) (hj : j = 143 + 326 * n0 + 66 * l0) : OKv B M L X (ρ 1078) j v :=
  ⟨fun e => by omega, fun e => by omega, fun n hn => ⟨fun e => by omega, fun e => by omega, fun e => by omega, fun e => by omega, fun e => by omega, fun e => by omega, fun l hl => ⟨fun e => by omega, fun e => by omega, fun e => by omega, fun e => by omega, fun e _ _ => by rw [show n = n0 by omega, show l = l0 by omega]; exact hv⟩⟩⟩
theorem ok_nradio (hv : iR v 0 6) (hj : j = 0) : OKv B M L X (ρ 1078) j v :=
  ⟨fun _ => hv, fun e => by omega, fun n hn => ⟨fun e => by omega, fun e => by omega, fun e => by omega, fun e => by omega, fun e => by omega, fun e => by omega, fun l hl => ⟨fun e => by omega, fun e => by omega, fun e => by omega, fun e => by omega, fun e => by omega⟩⟩⟩
theorem RI_time {B2 : Nat} (hI : RI r B M L X ρ) (hB : B ≤ B2) (hv : iR v 0 B2) : RI r B2 M L X (up ρ 1078 7 v) := by
  have h2 : Good B2 M L X (ρ 1078) := ⟨hI.2.2.1, iR_w hI.2.2.2.1 (by omega) (by omega), hI.2.2.2.2⟩
  exact RI_up ⟨hI.1, hI.2.1, h2⟩ (⟨fun e => by omega, fun _ => hv, fun n hn => ⟨fun e => by omega, fun e => by omega, fun e => by omega, fun e => by omega, fun e => by omega, fun e => by omega, fun l hl => ⟨fun e => by omega, fun e => by omega, fun e => by omega, fun e => by omega, fun e => by omega⟩⟩⟩)
theorem Good_B {B2 : Nat} {f : Nat → Int32} (h : Good B M L X f) (hB : B ≤ B2) : Good B2 M L X f := ⟨h.1, iR_w h.2.1 (by omega) (by omega), h.2.2⟩
end RR
