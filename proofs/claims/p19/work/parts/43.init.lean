/-- between two calls -/
def LI (ρ : Nat → Nat → Int32) : Prop := CI ρ S0 ρ ∧ PI ρ ρ
section LIS
variable {ρ ρ1 ρ2 : Nat → Nat → Int32} {k j : Nat}
theorem PI_cls (h : PI ρ ρ) (hC : CI ρ S0 ρ1) : PI ρ1 ρ1 := by
  obtain ⟨-, b, c, d, e⟩ := h
  have g : ∀ k, 1076 ≤ k → ρ1 k = ρ k := hC.2.2
  exact ⟨fun _ _ => rfl, by rw [g 1078 (by decide)]; exact b, by rw [g 1076 (by decide), g 1079 (by decide)]; exact c, by rw [g 1081 (by decide), g 1082 (by decide)]; exact d, by rw [g 1085 (by decide), g 1086 (by decide), g 1087 (by decide), g 1088 (by decide), g 1089 (by decide)]; exact e⟩
theorem LI_step (hC : CI ρ S0 ρ1) (hp : PI ρ1 ρ2) : LI ρ2 :=
  ⟨⟨fun k j hk => by rw [hp.1 k hk]; exact hC.1 k j hk, fun _ h => h.elim, fun _ _ => rfl⟩, ⟨fun _ _ => rfl, hp.2⟩⟩
theorem r0_z (h2 : hk k ≠ 2) (h3 : hk k ≠ 3) (h5 : hk k ≠ 5) (h10 : hk k ≠ 10) (hk : k ≠ 1078) : r0 k j = 0 := by
  unfold r0
  rw [if_neg h2, if_neg h3, if_neg h5, if_neg h10, if_neg hk]
theorem r0_l10 : (List.range 1090).all (fun k => !(hk k == 10) || (hk (k + 1) == 1 && (hk (k + 10) == 1 && (hk (k + 19) == 1 && hk (k + 28) == 1)))) = true := by decide +kernel
theorem r0_ln (h : hk k = 10) (hk1 : k < 1090) (hj : j < 4) : hk (k + 1 + 9 * j) = 1 := by
  have q := List.all_eq_true.mp r0_l10 k (List.mem_range.mpr hk1)
  simp [h] at q
  rcases (show j = 0 ∨ j = 1 ∨ j = 2 ∨ j = 3 by omega) with rfl | rfl | rfl | rfl
  · exact q.1
  · exact q.2.1
  · exact q.2.2.1
  · exact q.2.2.2
theorem r0_SP (hk1 : k < 1076) : SP k j (r0 k j) := by
  refine ⟨fun q hq => ?_, fun h hj => ⟨k + 1 + 9 * j, by simp [r0, h], r0_ln h (by omega) hj⟩⟩
  have hk8 : k ≠ 1078 := by omega
  unfold SPr at hq
  by_cases h1 : hk k = 1
  · rw [r0_z (by omega) (by omega) (by omega) (by omega) hk8]
    rw [if_pos h1] at hq
    split at hq <;> cases hq
    exact Z0 (by decide) (by decide)
  rw [if_neg h1] at hq
  by_cases h2 : hk k = 2
  · rw [if_pos h2] at hq
    split at hq
    · rename_i e
      cases hq
      rw [show r0 k j = 0 by unfold r0; rw [if_pos h2, if_neg (by omega), if_neg (by omega)]]
      exact Z0 (by decide) (by decide)
    · split at hq <;> cases hq
      rename_i e
      rw [show r0 k j = 0 by unfold r0; rw [if_pos h2, if_neg (by omega), if_neg (by omega)]]
      exact Z0 (by decide) (by decide)
  rw [if_neg h2] at hq
  by_cases h4 : hk k = 4
  · rw [r0_z (by omega) (by omega) (by omega) (by omega) hk8]
    rw [if_pos h4] at hq
    split at hq <;> cases hq
    exact Z0 (by decide) (by decide)
  rw [if_neg h4] at hq
  by_cases h5 : hk k = 5
  · rw [if_pos h5] at hq
    split at hq <;> cases hq
    rename_i e
    rw [show r0 k j = 0 by unfold r0; rw [if_neg (by omega), if_neg (by omega), if_pos h5, if_neg (by omega), if_neg (by omega), if_neg (by omega)]]
    exact Z0 (by decide) (by decide)
  rw [if_neg h5] at hq
  by_cases h6 : hk k = 6
  · rw [r0_z (by omega) (by omega) (by omega) (by omega) hk8]
    rw [if_pos h6] at hq
    split at hq <;> cases hq
    exact Z0 (by decide) (by decide)
  rw [if_neg h6] at hq
  by_cases h9 : hk k = 9
  · rw [r0_z (by omega) (by omega) (by omega) (by omega) hk8]
    rw [if_pos h9] at hq
    cases hq
    exact Z0 (by decide) (by decide)
  rw [if_neg h9] at hq
  cases hq
theorem r78 (j : Nat) : r0 1078 j = (if j = 8 then 1 else if j = 9 then 16 else if j = 10 then 2 else if j = 42 ∨ j = 368 then -1 else 0) := by
  have e : hk 1078 = 8 := by decide +kernel
  unfold r0
  rw [e, if_neg (by decide), if_neg (by decide), if_neg (by decide), if_neg (by decide), if_pos rfl]
theorem r78z (h : j ≠ 8) (h2 : j ≠ 9) (h3 : j ≠ 10) (h4 : j ≠ 42) (h5 : j ≠ 368) : r0 1078 j = 0 := by
  rw [r78, if_neg h, if_neg h2, if_neg h3, if_neg (by omega)]
theorem r78m (h : j = 42 ∨ j = 368) : r0 1078 j = -1 := by
  rw [r78, if_neg (by omega), if_neg (by omega), if_neg (by omega), if_pos h]
theorem r0_Good : Good 99998 (fun _ => -1) (fun _ => 0) X0 (r0 1078) := by
  refine ⟨by rw [r78z (by decide) (by decide) (by decide) (by decide) (by decide)]; exact Z0 (by decide) (by decide), by rw [r78z (by decide) (by decide) (by decide) (by decide) (by decide)]; exact Z0 (by decide) (by decide), fun n hn => ?_⟩
  have z : ∀ q, 43 + 326 * n ≤ q → q < 42 + 326 * n + 326 → r0 1078 q = 0 := fun q h1 h2 => r78z (by omega) (by omega) (by omega) (by omega) (by omega)
  refine ⟨⟨r78m (by omega), show iR (-1 : Int32) (-1) 5 from ⟨by decide, by decide⟩⟩, ⟨by rw [z _ (by omega) (by omega)]; rfl, show (0 : Nat) ≤ 4 by decide⟩, fun q => absurd rfl q, by rw [z _ (by omega) (by omega)]; exact Z0 (by decide) (by decide), by rw [z _ (by omega) (by omega)]; exact Z0 (by decide) (by decide), fun q => absurd rfl q, fun q => q.elim, fun l hl => ?_⟩
  refine ⟨by rw [z _ (by omega) (by omega)]; exact Z0 (by decide) (by decide), by rw [z _ (by omega) (by omega)]; exact Z0 (by decide) (by decide), by rw [z _ (by omega) (by omega)]; exact Z0 (by decide) (by decide), fun q => absurd q (Nat.not_lt_zero _), fun _ t => ?_, fun q => q.elim⟩
  rw [z _ (by omega) (by omega)] at t
  exact absurd t (by decide)
theorem LI_0 : LI r0 := by
  have u7 : r0 1076 6 = nI 0 := by rw [r0_z (by decide +kernel) (by decide +kernel) (by decide +kernel) (by decide +kernel) (by decide)]; rfl
  have u : ∀ j, r0 1082 j = 0 := fun j => r0_z (by decide +kernel) (by decide +kernel) (by decide +kernel) (by decide +kernel) (by decide)
  have u5 : ∀ j, r0 1085 j = 0 := fun j => r0_z (by decide +kernel) (by decide +kernel) (by decide +kernel) (by decide +kernel) (by decide)
  have u6 : ∀ j, r0 1086 j = 0 := fun j => r0_z (by decide +kernel) (by decide +kernel) (by decide +kernel) (by decide +kernel) (by decide)
  have u77 : ∀ j, r0 1087 j = 0 := fun j => r0_z (by decide +kernel) (by decide +kernel) (by decide +kernel) (by decide +kernel) (by decide)
  have u8 : ∀ j, r0 1088 j = 0 := fun j => r0_z (by decide +kernel) (by decide +kernel) (by decide +kernel) (by decide +kernel) (by decide)
  have u9 : ∀ j, r0 1089 j = 0 := fun j => r0_z (by decide +kernel) (by decide +kernel) (by decide +kernel) (by decide +kernel) (by decide)
  refine ⟨⟨fun k j hk => r0_SP hk, fun _ h => h.elim, fun _ _ => rfl⟩, fun _ _ => rfl, ⟨_, _, r0_Good⟩, ⟨0, by decide, u7, fun i hi => absurd hi (Nat.not_lt_zero _)⟩, fun k hk => ?_, fun n hn => ?_⟩
  · rw [u]
    exact ⟨Z0 (by decide) (by decide), fun e => absurd e (by decide)⟩
  · rw [u5, u6, u77, u8, u9]
    exact ⟨Z0 (by decide) (by decide), Z0 (by decide) (by decide), Z0 (by decide) (by decide), Z0 (by decide) (by decide), Z0 (by decide) (by decide)⟩
theorem two {P : Prop} {r1 r2 u v : Int32} (h1 : (P ∧ r1 = u) ∨ (¬ P ∧ r1 = v)) (h2 : (P ∧ r2 = u) ∨ (¬ P ∧ r2 = v)) : r1 = r2 := by
  rcases h1 with ⟨a, rfl⟩ | ⟨a, rfl⟩ <;> rcases h2 with ⟨b, rfl⟩ | ⟨b, rfl⟩
  · rfl
  · exact absurd a b
  · exact absurd b a
  · rfl
end LIS
