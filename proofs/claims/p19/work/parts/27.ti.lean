def XT (q0 q1 q2 q4 : Nat) (c s : Nat → Int32) : Nat × Nat → Prop := fun x => (x.2 = 20 ∧ q1 ≤ x.1 ∧ x.1 < q0 ∧ c x.1 = -2) ∨ ∃ l, l < 4 ∧ x.2 = 10 + l ∧ q2 ≤ x.1 ∧ x.1 < q4 ∧ c x.1 = nI l ∧ s x.1 = 1
/-- the reference within a turn -/
def TI (r : Nat → Nat → Int32) (B : Nat) (M : Nat → Int32) (L : Nat → Nat) (q0 q1 q2 q3 q4 qc ql : Nat) (ρ : Nat → Nat → Int32) : Prop :=
  (∀ k, k ≠ 1076 → k ≠ 1078 → (k < 1084 ∨ 1090 ≤ k) → ρ k = r k) ∧ ρ 1076 6 = r 1076 6 ∧ Good B M L (XT q0 q1 q2 q4 (ρ 1084) (ρ 1087)) (ρ 1078) ∧
  (∀ n, n < 2 → iR (ρ 1085 n) (-2) 22 ∧ iR (ρ 1086 n) (-2) 22 ∧ iR (ρ 1087 n) 0 1 ∧ iR (ρ 1088 n) 0 1 ∧ iR (ρ 1089 n) 0 1) ∧
  (∀ n, n < 2 → n < q0 → iR (ρ 1084 n) (-2) ((L n : Int) - 1) ∧ (ρ 1084 n ≠ -1 → iR (M n) 0 5)) ∧
  (∀ n, n < 2 → n < q3 → ρ 1089 n = 1 → iR (ρ 1084 n) 0 3) ∧
  (∀ n, n < 2 → n = qc → ρ 1084 n = nI ql ∧ ql < 4)
section TT
variable {r ρ ρ1 : Nat → Nat → Int32} {B : Nat} {M : Nat → Int32} {L : Nat → Nat} {Y : Nat × Nat → Prop} {q0 q1 q2 q3 q4 qc ql p0 p1 p2 p3 p4 pc pl n0 l0 : Nat} {v : Int32}
theorem TI_RI (h : TI r B M L q0 q1 q2 q3 q4 qc ql ρ) : RI ρ B M L (XT q0 q1 q2 q4 (ρ 1084) (ρ 1087)) ρ := ⟨fun _ _ _ => rfl, rfl, h.2.2.1⟩
theorem XT_no {c s : Nat → Int32} {n l : Nat} (hl : l < 4) : ¬ XT q0 q1 q2 q4 c s (n, l) := by
  intro z
  rcases z with z | ⟨x, hx, e, -⟩
  · have := z.1
    simp only at this
    omega
  · simp only at e
    omega
theorem TI_backX (h : TI r B M L q0 q1 q2 q3 q4 qc ql ρ) (hR : RI ρ B M L Y ρ1) (h0 : ∀ n l, l < 4 → ¬ Y (n, l)) (h1 : ∀ n l, l < 4 → XT q0 p1 p2 q4 (ρ 1084) (ρ 1087) (n, 10 + l) → Y (n, 10 + l)) (h2 : ∀ n, XT q0 p1 p2 q4 (ρ 1084) (ρ 1087) (n, 20) → Y (n, 20)) : TI r B M L q0 p1 p2 q3 q4 qc ql ρ1 := by
  refine ⟨fun k a b c => (hR.1 k a b).trans (h.1 k a b c), hR.2.1.trans h.2.1, ?_, ?_, ?_, ?_, ?_⟩
  · rw [hR.1 1084 (by decide) (by decide), hR.1 1087 (by decide) (by decide)]
    exact Good_X hR.2.2 (fun n l hl z => absurd z (h0 n l hl)) (fun n l _ hl z => Or.inl (h1 n l hl z)) (fun n _ z => Or.inl (h2 n z))
  · rw [hR.1 1085 (by decide) (by decide), hR.1 1086 (by decide) (by decide), hR.1 1087 (by decide) (by decide), hR.1 1088 (by decide) (by decide), hR.1 1089 (by decide) (by decide)]
    exact h.2.2.2.1
  · rw [hR.1 1084 (by decide) (by decide)]
    exact h.2.2.2.2.1
  · rw [hR.1 1084 (by decide) (by decide), hR.1 1089 (by decide) (by decide)]
    exact h.2.2.2.2.2.1
  · rw [hR.1 1084 (by decide) (by decide)]
    exact h.2.2.2.2.2.2
theorem TI_back (h : TI r B M L q0 q1 q2 q3 q4 qc ql ρ) (hR : RI ρ B M L (XT q0 q1 q2 q4 (ρ 1084) (ρ 1087)) ρ1) : TI r B M L q0 q1 q2 q3 q4 qc ql ρ1 := TI_backX h hR (fun _ _ hl => XT_no hl) (fun _ _ _ z => z) (fun _ z => z)
theorem TI_back20 (h : TI r B M L q0 q1 q2 q3 q4 qc ql ρ) (hR : RI ρ B M L (fun x => XT q0 q1 q2 q4 (ρ 1084) (ρ 1087) x ∧ x ≠ (n0, 20)) ρ1) (hp : p1 = n0 + 1) (hq : q1 ≤ n0) : TI r B M L q0 p1 q2 q3 q4 qc ql ρ1 := by
  refine TI_backX h hR (fun n l hl z => XT_no hl z.1) (fun n l hl z => ⟨?_, fun e => ?_⟩) (fun n z => ⟨?_, fun e => ?_⟩)
  · rcases z with ⟨a, -⟩ | z
    · simp only at a; omega
    · exact Or.inr z
  · have := (Prod.mk.inj e).2; omega
  · rcases z with ⟨a, b, c, d⟩ | ⟨x, hx, e, -⟩
    · exact Or.inl ⟨a, by simp only at b ⊢; omega, c, d⟩
    · simp only at e; omega
  · have e := (Prod.mk.inj e).1
    rcases z with ⟨a, b, c, d⟩ | ⟨x, hx, e, -⟩
    · simp only at b; omega
    · simp only at e; omega
theorem TI_back10 (h : TI r B M L q0 q1 q2 q3 q4 qc ql ρ) (hR : RI ρ B M L (fun x => XT q0 q1 q2 q4 (ρ 1084) (ρ 1087) x ∧ x ≠ (n0, 10 + l0)) ρ1) (hp : p2 = n0 + 1) (hq : q2 ≤ n0) (hl0 : l0 < 4) : TI r B M L q0 q1 p2 q3 q4 qc ql ρ1 := by
  refine TI_backX h hR (fun n l hl z => XT_no hl z.1) (fun n l hl z => ⟨?_, fun e => ?_⟩) (fun n z => ⟨?_, fun e => ?_⟩)
  · rcases z with ⟨a, -⟩ | ⟨x, hx, e, b, c⟩
    · simp only at a; omega
    · exact Or.inr ⟨x, hx, e, by simp only at b ⊢; omega, c⟩
  · have e := (Prod.mk.inj e).1
    rcases z with ⟨a, -⟩ | ⟨x, hx, e, b, c⟩
    · simp only at a; omega
    · simp only at b; omega
  · rcases z with z | ⟨x, hx, e, -⟩
    · exact Or.inl z
    · simp only at e; omega
  · have := (Prod.mk.inj e).2; omega
theorem TI_w (h : TI r B M L q0 q1 q2 q3 q4 qc ql ρ) (h1 : ∀ m, p1 ≤ m → m < p0 → q1 ≤ m ∧ m < q0) (h2 : ∀ m, p2 ≤ m → m < p4 → q2 ≤ m ∧ m < q4) (h3 : p3 ≤ q3) (h0 : p0 ≤ q0) (hc : 2 ≤ pc ∨ (pc = qc ∧ pl = ql)) : TI r B M L p0 p1 p2 p3 p4 pc pl ρ := by
  refine ⟨h.1, h.2.1, Good_X h.2.2.1 (fun n l hl z => absurd z (XT_no hl)) (fun n l _ hl z => Or.inl ?_) (fun n _ z => Or.inl ?_), h.2.2.2.1, fun n a b => h.2.2.2.2.1 n a (by omega), fun n a b => h.2.2.2.2.2.1 n a (by omega), fun n a b => ?_⟩
  · rcases z with ⟨a, -⟩ | ⟨x, hx, e, b, c, d⟩
    · simp only at a; omega
    · exact Or.inr ⟨x, hx, e, (h2 _ b c).1, (h2 _ b c).2, d⟩
  · rcases z with ⟨a, b, c, d⟩ | ⟨x, hx, e, -⟩
    · exact Or.inl ⟨a, (h1 _ b c).1, (h1 _ b c).2, d⟩
    · simp only at e; omega
  · rcases hc with hc | ⟨hc, hl⟩
    · omega
    · rw [hl]; exact h.2.2.2.2.2.2 n a (by omega)
theorem TI_B {B2 : Nat} (hB : B ≤ B2) (h : TI r B M L q0 q1 q2 q3 q4 qc ql ρ) : TI r B2 M L q0 q1 q2 q3 q4 qc ql ρ := ⟨h.1, h.2.1, Good_B h.2.2.1 hB, h.2.2.2⟩
theorem TI_qc (h : TI r B M L q0 q1 q2 q3 q4 qc ql ρ) (e : ρ 1084 n0 = nI l0) (hl : l0 < 4) : TI r B M L q0 q1 q2 q3 q4 n0 l0 ρ := ⟨h.1, h.2.1, h.2.2.1, h.2.2.2.1, h.2.2.2.2.1, h.2.2.2.2.2.1, fun n a b => by rw [b]; exact ⟨e, hl⟩⟩
theorem neg_nI {x : Int32} {l : Nat} {a : Int} (h : iR x a (-1)) (e : x = nI l) (hl : l < 4) : False := by
  have := h.2
  rw [e, nI_toInt (by omega)] at this
  omega
theorem TI_q4 (h : TI r B M L q0 q1 q2 q3 q4 qc ql ρ) (hq : q4 = n0) (hp : p4 = n0 + 1) {a : Int} (hn : iR (ρ 1084 n0) a (-1)) : TI r B M L q0 q1 q2 q3 p4 qc ql ρ := by
  refine ⟨h.1, h.2.1, Good_X h.2.2.1 (fun n l hl z => absurd z (XT_no hl)) (fun n l _ hl z => Or.inl ?_) (fun n _ z => Or.inl ?_), h.2.2.2⟩
  · rcases z with ⟨a, -⟩ | ⟨x, hx, e, b, c, d, f⟩
    · simp only at a; omega
    · refine Or.inr ⟨x, hx, e, b, ?_, d, f⟩
      simp only at c d ⊢
      by_cases hc : n = n0
      · rw [hc] at d; exact (neg_nI hn d hx).elim
      · omega
  · rcases z with z | ⟨x, hx, e, -⟩
    · exact Or.inl z
    · simp only at e; omega
/-- writes -/
theorem u84 {k j : Nat} (hk : k ≠ 1084) : up ρ k j v 1084 = ρ 1084 := up_ne _ _ _ (Ne.symm hk)
theorem TI_up5 (h : TI r B M L q0 q1 q2 q3 q4 qc ql ρ) (hv : iR v (-2) 22) : TI r B M L q0 q1 q2 q3 q4 qc ql (up ρ 1085 n0 v) := by
  refine ⟨fun k a b c => by rw [up_ne _ _ _ (by omega)]; exact h.1 k a b c, by rw [up_ne _ _ _ (by decide)]; exact h.2.1, by rw [up_ne _ _ _ (by decide), up_ne _ _ _ (by decide), up_ne _ _ _ (by decide)]; exact h.2.2.1, fun n hn => ?_, by rw [up_ne _ _ _ (by decide)]; exact h.2.2.2.2.1, by rw [up_ne _ _ _ (by decide), up_ne _ _ _ (by decide)]; exact h.2.2.2.2.2.1, by rw [up_ne _ _ _ (by decide)]; exact h.2.2.2.2.2.2⟩
  obtain ⟨a, b⟩ := h.2.2.2.1 n hn
  rw [up_ne _ _ _ (show 1086 ≠ 1085 by decide), up_ne _ _ _ (show 1087 ≠ 1085 by decide), up_ne _ _ _ (show 1088 ≠ 1085 by decide), up_ne _ _ _ (show 1089 ≠ 1085 by decide), up_at]
  exact ⟨ur a (fun _ => hv), b⟩
theorem TI_up6 (h : TI r B M L q0 q1 q2 q3 q4 qc ql ρ) (hv : iR v (-2) 22) : TI r B M L q0 q1 q2 q3 q4 qc ql (up ρ 1086 n0 v) := by
  refine ⟨fun k a b c => by rw [up_ne _ _ _ (by omega)]; exact h.1 k a b c, by rw [up_ne _ _ _ (by decide)]; exact h.2.1, by rw [up_ne _ _ _ (by decide), up_ne _ _ _ (by decide), up_ne _ _ _ (by decide)]; exact h.2.2.1, fun n hn => ?_, by rw [up_ne _ _ _ (by decide)]; exact h.2.2.2.2.1, by rw [up_ne _ _ _ (by decide), up_ne _ _ _ (by decide)]; exact h.2.2.2.2.2.1, by rw [up_ne _ _ _ (by decide)]; exact h.2.2.2.2.2.2⟩
  obtain ⟨a, b, c⟩ := h.2.2.2.1 n hn
  rw [up_ne _ _ _ (show 1085 ≠ 1086 by decide), up_ne _ _ _ (show 1087 ≠ 1086 by decide), up_ne _ _ _ (show 1088 ≠ 1086 by decide), up_ne _ _ _ (show 1089 ≠ 1086 by decide), up_at]
  exact ⟨a, ur b (fun _ => hv), c⟩
theorem TI_up8 (h : TI r B M L q0 q1 q2 q3 q4 qc ql ρ) (hv : iR v 0 1) : TI r B M L q0 q1 q2 q3 q4 qc ql (up ρ 1088 n0 v) := by
  refine ⟨fun k a b c => by rw [up_ne _ _ _ (by omega)]; exact h.1 k a b c, by rw [up_ne _ _ _ (by decide)]; exact h.2.1, by rw [up_ne _ _ _ (by decide), up_ne _ _ _ (by decide), up_ne _ _ _ (by decide)]; exact h.2.2.1, fun n hn => ?_, by rw [up_ne _ _ _ (by decide)]; exact h.2.2.2.2.1, by rw [up_ne _ _ _ (by decide), up_ne _ _ _ (by decide)]; exact h.2.2.2.2.2.1, by rw [up_ne _ _ _ (by decide)]; exact h.2.2.2.2.2.2⟩
  obtain ⟨a, b, c, d, e⟩ := h.2.2.2.1 n hn
  rw [up_ne _ _ _ (show 1085 ≠ 1088 by decide), up_ne _ _ _ (show 1086 ≠ 1088 by decide), up_ne _ _ _ (show 1087 ≠ 1088 by decide), up_ne _ _ _ (show 1089 ≠ 1088 by decide), up_at]
  exact ⟨a, b, c, ur d (fun _ => hv), e⟩
theorem TI_up9 (h : TI r B M L q0 q1 q2 q3 q4 qc ql ρ) (hv : iR v 0 1) (hq : ∀ m, m < p3 → m ≠ n0 → m < q3) (hc : v = 1 → iR (ρ 1084 n0) 0 3) : TI r B M L q0 q1 q2 p3 q4 qc ql (up ρ 1089 n0 v) := by
  refine ⟨fun k a b c => by rw [up_ne _ _ _ (by omega)]; exact h.1 k a b c, by rw [up_ne _ _ _ (by decide)]; exact h.2.1, by rw [up_ne _ _ _ (by decide), up_ne _ _ _ (by decide), up_ne _ _ _ (by decide)]; exact h.2.2.1, fun n hn => ?_, by rw [up_ne _ _ _ (by decide)]; exact h.2.2.2.2.1, fun n hn hp => ?_, by rw [up_ne _ _ _ (by decide)]; exact h.2.2.2.2.2.2⟩
  · obtain ⟨a, b, c, d, e⟩ := h.2.2.2.1 n hn
    rw [up_ne _ _ _ (show 1085 ≠ 1089 by decide), up_ne _ _ _ (show 1086 ≠ 1089 by decide), up_ne _ _ _ (show 1087 ≠ 1089 by decide), up_ne _ _ _ (show 1088 ≠ 1089 by decide), up_at]
    exact ⟨a, b, c, d, ur e (fun _ => hv)⟩
  · rw [up_ne _ _ _ (show 1084 ≠ 1089 by decide), up_at]
    by_cases e : n = n0
    · subst e; rw [uq]; exact hc
    · rw [un e]; exact h.2.2.2.2.2.1 n hn (hq n hp e)
theorem TI_up7 (h : TI r B M L q0 q1 q2 q3 q4 qc ql ρ) (hv : iR v 0 1) (hq : ∀ m, m < p4 → m ≠ n0 → m < q4) (hc : v = 1 → ∀ l, l < 4 → ρ 1084 n0 = nI l → iR (ρ 1078 (109 + 326 * n0 + 66 * l)) 1 8) : TI r B M L q0 q1 q2 q3 p4 qc ql (up ρ 1087 n0 v) := by
  refine ⟨fun k a b c => by rw [up_ne _ _ _ (by omega)]; exact h.1 k a b c, by rw [up_ne _ _ _ (by decide)]; exact h.2.1, ?_, fun n hn => ?_, by rw [up_ne _ _ _ (by decide)]; exact h.2.2.2.2.1, by rw [up_ne _ _ _ (by decide), up_ne _ _ _ (by decide)]; exact h.2.2.2.2.2.1, by rw [up_ne _ _ _ (by decide)]; exact h.2.2.2.2.2.2⟩
  · rw [up_ne _ _ _ (show 1084 ≠ 1087 by decide), up_ne _ _ _ (show 1078 ≠ 1087 by decide), up_at]
    refine Good_X h.2.2.1 (fun n l hl z => absurd z (XT_no hl)) (fun n l hn hl z => ?_) (fun n _ z => Or.inl ?_)
    · rcases z with ⟨a, -⟩ | ⟨x, hx, e, b, c, d, f⟩
      · simp only at a; omega
      · simp only at e b c d f
        obtain rfl : x = l := by omega
        by_cases e2 : n = n0
        · subst e2; rw [uq] at f; exact Or.inr (hc f x hx d)
        · rw [un e2] at f; exact Or.inl (Or.inr ⟨x, hx, e, b, hq n c e2, d, f⟩)
    · rcases z with z | ⟨x, hx, e, -⟩
      · exact Or.inl z
      · simp only at e; omega
  · obtain ⟨a, b, c, d, e⟩ := h.2.2.2.1 n hn
    rw [up_ne _ _ _ (show 1085 ≠ 1087 by decide), up_ne _ _ _ (show 1086 ≠ 1087 by decide), up_ne _ _ _ (show 1088 ≠ 1087 by decide), up_ne _ _ _ (show 1089 ≠ 1087 by decide), up_at]
    exact ⟨a, b, ur c (fun _ => hv), d, e⟩
theorem TI_up4 (h : TI r B M L q0 0 0 0 0 2 0 ρ) (hq : q0 = n0) (hp : p0 = n0 + 1) (hn0 : n0 < 2) (hv : iR v (-2) ((L n0 : Int) - 1)) (hm : v ≠ -1 → iR (M n0) 0 5) (hc : v = -2 → iR (ρ 1078 (51 + 326 * n0)) 1 4) : TI r B M L p0 0 0 0 0 2 0 (up ρ 1084 n0 v) := by
  refine ⟨fun k a b c => by rw [up_ne _ _ _ (by omega)]; exact h.1 k a b c, by rw [up_ne _ _ _ (by decide)]; exact h.2.1, ?_, ?_, fun n hn hp2 => ?_, fun n _ z => absurd z (Nat.not_lt_zero _), fun n a b => by omega⟩
  · rw [up_ne _ _ _ (show 1087 ≠ 1084 by decide), up_ne _ _ _ (show 1078 ≠ 1084 by decide), up_at]
    refine Good_X h.2.2.1 (fun n l hl z => absurd z (XT_no hl)) (fun n l hn hl z => ?_) (fun n hn z => ?_)
    · rcases z with ⟨a, -⟩ | ⟨x, hx, e, b, c, d, f⟩
      · simp only at a; omega
      · exact absurd c (Nat.not_lt_zero _)
    · rcases z with ⟨a, b, c, d⟩ | ⟨x, hx, e, -⟩
      · simp only at c d
        by_cases e2 : n = n0
        · subst e2; rw [uq] at d; exact Or.inr (hc d)
        · rw [un e2] at d; exact Or.inl (Or.inl ⟨rfl, Nat.zero_le _, by simp only; omega, d⟩)
      · simp only at e; omega
  · rw [up_ne _ _ _ (show 1085 ≠ 1084 by decide), up_ne _ _ _ (show 1086 ≠ 1084 by decide), up_ne _ _ _ (show 1087 ≠ 1084 by decide), up_ne _ _ _ (show 1088 ≠ 1084 by decide), up_ne _ _ _ (show 1089 ≠ 1084 by decide)]
    exact h.2.2.2.1
  · rw [up_at]
    by_cases e : n = n0
    · subst e; rw [uq]; exact ⟨hv, hm⟩
    · rw [un e]; exact h.2.2.2.2.1 n hn (by omega)
theorem TI_time {B2 : Nat} (h : TI r B M L 0 0 0 0 0 2 0 ρ) (hB : B ≤ B2) (hv : iR v 0 B2) : TI r B2 M L 0 0 0 0 0 2 0 (up ρ 1078 7 v) := by
  have hR := RI_time (TI_RI h) hB hv
  exact TI_back (TI_B hB h) hR
theorem time_le {x : Int32} {j : Nat} (h : iR x 0 B) (e : x = nI j) (hj : j < 2 ^ 31) : j ≤ B := by
  have := h.2
  rw [e, nI_toInt hj] at this
  omega
theorem m_ne2 {x : Int32} (h : iR x (-2) (-2)) : x ≠ -1 := fun e => by rw [e] at h; exact absurd h.2 (by decide)
theorem rl_cmp {x : Int32} {N : Nat} {b : Int} (h : iR x (-1) b) (hN : N ≤ 4) (c : x < nI N) : iR x (-1) ((N : Int) - 1) := by
  have c := Int32.lt_iff_toInt_lt.mp c
  rw [nI_toInt (by omega)] at c
  exact ⟨h.1, by omega⟩
end TT
