section RU
variable {r ρ ρ1 ρ2 ρ3 : Nat → Nat → Int32} {w k j u : Nat} {a v : Int32}
theorem PI_76 (h : PI r ρ) (hj : j ≠ 6) : PI r (up ρ 1076 j v) := by
  obtain ⟨M, L, hG⟩ := h.2.1
  exact PI_RI h (RI_76 (M := M) (L := L) ⟨fun _ _ _ => rfl, rfl, hG⟩ hj)
theorem PI_ref (h : PI r ρ) : PI r (up (up ρ 1076 1 a) 1077 u v) := PI_free (PI_76 h (by decide)) (Or.inl rfl)
theorem PI_undo (h : PI r ρ) (hu : ρ 1076 6 = nI (w + 1)) (hw : w + 1 ≤ 8) (e2 : ρ2 = up ρ 1076 6 (nI w)) (c1 : ∀ k, k ≠ 1078 → ρ3 k = ρ2 k) (c2 : ∀ j, j < 695 → ρ3 1078 (0 + j) = ρ2 1079 (695 * w + j)) : PI r ρ3 := by
  obtain ⟨g1, g2, ⟨x, hx8, hxe, hx⟩, g4, g5⟩ := h
  obtain rfl : x = w + 1 := (nI_eq (a := x) (b := w + 1) (by omega) (by omega)).mp (hxe.symm.trans hu)
  have c : ∀ c, c ≠ 1076 → c ≠ 1078 → ρ3 c = ρ c := fun c a1 a2 => by rw [c1 c a2, e2, up_ne _ _ _ a1]
  have e79 : ρ2 1079 = ρ 1079 := by rw [e2, up_ne _ _ _ (by decide)]
  refine ⟨fun k hk => by rw [c k (by omega) (by omega)]; exact g1 k hk, ?_, ⟨w, by omega, by rw [c1 1076 (by decide), e2]; exact up_get_at, fun i hi => by rw [c 1079 (by decide) (by decide)]; exact hx i (by omega)⟩, by rw [c 1081 (by decide) (by decide), c 1082 (by decide) (by decide)]; exact g4, by rw [c 1085 (by decide) (by decide), c 1086 (by decide) (by decide), c 1087 (by decide) (by decide), c 1088 (by decide) (by decide), c 1089 (by decide) (by decide)]; exact g5⟩
  refine GE_ext (hx w (by omega)) (fun j hj => ?_)
  have z := c2 j hj
  rw [Nat.zero_add, e79] at z
  exact z
theorem PI_image (h : PI r ρ) (hk : k < 2) (c1 : ∀ c, c ≠ 1081 → ρ1 c = ρ c) (c2 : ∀ j, j < 695 → ρ1 1081 (695 * k + j) = ρ 1078 (0 + j)) (c3 : ∀ j, (j < 695 * k ∨ 695 * k + 695 ≤ j) → ρ1 1081 j = ρ 1081 j) : PI r (up ρ1 1082 k 1) := by
  obtain ⟨g1, g2, g3, g4, g5⟩ := h
  have c : ∀ c, c ≠ 1081 → c ≠ 1082 → up ρ1 1082 k 1 c = ρ c := fun c a1 a2 => by rw [up_ne _ _ _ a2]; exact c1 c a1
  refine ⟨fun k hk => by rw [c k (by omega) (by omega)]; exact g1 k hk, by rw [c _ (by decide) (by decide)]; exact g2, by rw [c 1076 (by decide) (by decide), c 1079 (by decide) (by decide)]; exact g3, fun m hm => ?_, by rw [c 1085 (by decide) (by decide), c 1086 (by decide) (by decide), c 1087 (by decide) (by decide), c 1088 (by decide) (by decide), c 1089 (by decide) (by decide)]; exact g5⟩
  rw [up_ne _ _ _ (show 1081 ≠ 1082 by decide), up_at]
  by_cases e : m = k
  · subst e
    rw [uq]
    exact ⟨⟨by decide, by decide⟩, fun _ => GE_ext g2 (fun j hj => (c2 j hj).trans (by rw [Nat.zero_add]))⟩
  · rw [un e, c1 1082 (by decide)]
    exact ⟨(g4 m hm).1, fun z => GE_ext ((g4 m hm).2 z) (fun j hj => c3 _ (by omega))⟩
theorem PI_back (h : PI r ρ) (hk : k < 2) (hb : ρ 1082 k = 1) (c1 : ∀ c, c ≠ 1078 → ρ1 c = ρ c) (c2 : ∀ j, j < 695 → ρ1 1078 (0 + j) = ρ 1081 (695 * k + j)) : PI r (up ρ1 1076 6 0) := by
  obtain ⟨g1, g2, g3, g4, g5⟩ := h
  have c : ∀ c, c ≠ 1076 → c ≠ 1078 → up ρ1 1076 6 0 c = ρ c := fun c a1 a2 => by rw [up_ne _ _ _ a1]; exact c1 c a2
  refine ⟨fun k hk => by rw [c k (by omega) (by omega)]; exact g1 k hk, ?_, ⟨0, by decide, up_get_at, fun i hi => absurd hi (Nat.not_lt_zero _)⟩, by rw [c 1081 (by decide) (by decide), c 1082 (by decide) (by decide)]; exact g4, by rw [c 1085 (by decide) (by decide), c 1086 (by decide) (by decide), c 1087 (by decide) (by decide), c 1088 (by decide) (by decide), c 1089 (by decide) (by decide)]; exact g5⟩
  rw [up_ne _ _ _ (by decide)]
  refine GE_ext ((g4 k hk).2 hb) (fun j hj => ?_)
  have z := c2 j hj
  rw [Nat.zero_add] at z
  exact z
end RU
theorem dX7_undo_0 : decode cX7_undo 0 = .ok (.aload_n 0, 1) := by decide +kernel
theorem dX7_undo_1 : decode cX7_undo 1 = .ok (.iconst 0, 1) := by decide +kernel
theorem dX7_undo_2 : decode cX7_undo 2 = .ok (.putfield 50, 3) := by decide +kernel
theorem dX7_undo_5 : decode cX7_undo 5 = .ok (.aload_n 0, 1) := by decide +kernel
theorem dX7_undo_6 : decode cX7_undo 6 = .ok (.getfield 57, 3) := by decide +kernel
theorem dX7_undo_9 : decode cX7_undo 9 = .ok (.ifCond .ne 10, 3) := by decide +kernel
theorem dX7_undo_12 : decode cX7_undo 12 = .ok (.aload_n 0, 1) := by decide +kernel
theorem dX7_undo_13 : decode cX7_undo 13 = .ok (.bipush (-4), 2) := by decide +kernel
theorem dX7_undo_15 : decode cX7_undo 15 = .ok (.invokevirtual 64, 3) := by decide +kernel
theorem dX7_undo_18 : decode cX7_undo 18 = .ok (.ireturn, 1) := by decide +kernel
theorem dX7_undo_19 : decode cX7_undo 19 = .ok (.aload_n 0, 1) := by decide +kernel
theorem dX7_undo_20 : decode cX7_undo 20 = .ok (.dup, 1) := by decide +kernel
theorem dX7_undo_21 : decode cX7_undo 21 = .ok (.getfield 57, 3) := by decide +kernel
theorem dX7_undo_24 : decode cX7_undo 24 = .ok (.iconst 1, 1) := by decide +kernel
theorem dX7_undo_25 : decode cX7_undo 25 = .ok (.isub, 1) := by decide +kernel
theorem dX7_undo_26 : decode cX7_undo 26 = .ok (.putfield 57, 3) := by decide +kernel
theorem dX7_undo_29 : decode cX7_undo 29 = .ok (.aload_n 0, 1) := by decide +kernel
theorem dX7_undo_30 : decode cX7_undo 30 = .ok (.getfield 16, 3) := by decide +kernel
theorem dX7_undo_33 : decode cX7_undo 33 = .ok (.sipush 695, 3) := by decide +kernel
theorem dX7_undo_36 : decode cX7_undo 36 = .ok (.aload_n 0, 1) := by decide +kernel
theorem dX7_undo_37 : decode cX7_undo 37 = .ok (.getfield 57, 3) := by decide +kernel
theorem dX7_undo_40 : decode cX7_undo 40 = .ok (.imul, 1) := by decide +kernel
theorem dX7_undo_41 : decode cX7_undo 41 = .ok (.aload_n 0, 1) := by decide +kernel
theorem dX7_undo_42 : decode cX7_undo 42 = .ok (.getfield 13, 3) := by decide +kernel
theorem dX7_undo_45 : decode cX7_undo 45 = .ok (.iconst 0, 1) := by decide +kernel
theorem dX7_undo_46 : decode cX7_undo 46 = .ok (.invokestatic 60, 3) := by decide +kernel
theorem dX7_undo_49 : decode cX7_undo 49 = .ok (.aload_n 0, 1) := by decide +kernel
theorem dX7_undo_50 : decode cX7_undo 50 = .ok (.aload_n 0, 1) := by decide +kernel
theorem dX7_undo_51 : decode cX7_undo 51 = .ok (.getfield 19, 3) := by decide +kernel
theorem dX7_undo_54 : decode cX7_undo 54 = .ok (.aload_n 0, 1) := by decide +kernel
theorem dX7_undo_55 : decode cX7_undo 55 = .ok (.getfield 57, 3) := by decide +kernel
theorem dX7_undo_58 : decode cX7_undo 58 = .ok (.iaload, 1) := by decide +kernel
theorem dX7_undo_59 : decode cX7_undo 59 = .ok (.invokevirtual 68, 3) := by decide +kernel
theorem dX7_undo_62 : decode cX7_undo 62 = .ok (.ireturn, 1) := by decide +kernel
theorem dX7_image_0 : decode cX7_image 0 = .ok (.aload_n 0, 1) := by decide +kernel
theorem dX7_image_1 : decode cX7_image 1 = .ok (.iconst 0, 1) := by decide +kernel
theorem dX7_image_2 : decode cX7_image 2 = .ok (.putfield 50, 3) := by decide +kernel
theorem dX7_image_5 : decode cX7_image 5 = .ok (.iload_n 1, 1) := by decide +kernel
theorem dX7_image_6 : decode cX7_image 6 = .ok (.i2l, 1) := by decide +kernel
theorem dX7_image_7 : decode cX7_image 7 = .ok (.lconst 0, 1) := by decide +kernel
theorem dX7_image_8 : decode cX7_image 8 = .ok (.lconst 1, 1) := by decide +kernel
theorem dX7_image_9 : decode cX7_image 9 = .ok (.invokestatic 71, 3) := by decide +kernel
theorem dX7_image_12 : decode cX7_image 12 = .ok (.ifCond .ne 9, 3) := by decide +kernel
theorem dX7_image_15 : decode cX7_image 15 = .ok (.aload_n 0, 1) := by decide +kernel
theorem dX7_image_16 : decode cX7_image 16 = .ok (.iconst (-1), 1) := by decide +kernel
theorem dX7_image_17 : decode cX7_image 17 = .ok (.invokevirtual 64, 3) := by decide +kernel
theorem dX7_image_20 : decode cX7_image 20 = .ok (.ireturn, 1) := by decide +kernel
theorem dX7_image_21 : decode cX7_image 21 = .ok (.aload_n 0, 1) := by decide +kernel
theorem dX7_image_22 : decode cX7_image 22 = .ok (.getfield 13, 3) := by decide +kernel
theorem dX7_image_25 : decode cX7_image 25 = .ok (.iconst 0, 1) := by decide +kernel
theorem dX7_image_26 : decode cX7_image 26 = .ok (.aload_n 0, 1) := by decide +kernel
theorem dX7_image_27 : decode cX7_image 27 = .ok (.getfield 22, 3) := by decide +kernel
theorem dX7_image_30 : decode cX7_image 30 = .ok (.sipush 695, 3) := by decide +kernel
theorem dX7_image_33 : decode cX7_image 33 = .ok (.iload_n 1, 1) := by decide +kernel
theorem dX7_image_34 : decode cX7_image 34 = .ok (.imul, 1) := by decide +kernel
theorem dX7_image_35 : decode cX7_image 35 = .ok (.invokestatic 60, 3) := by decide +kernel
theorem dX7_image_38 : decode cX7_image 38 = .ok (.aload_n 0, 1) := by decide +kernel
theorem dX7_image_39 : decode cX7_image 39 = .ok (.getfield 25, 3) := by decide +kernel
theorem dX7_image_42 : decode cX7_image 42 = .ok (.iload_n 1, 1) := by decide +kernel
theorem dX7_image_43 : decode cX7_image 43 = .ok (.iconst 1, 1) := by decide +kernel
theorem dX7_image_44 : decode cX7_image 44 = .ok (.bastore, 1) := by decide +kernel
theorem dX7_image_45 : decode cX7_image 45 = .ok (.aload_n 0, 1) := by decide +kernel
theorem dX7_image_46 : decode cX7_image 46 = .ok (.aload_n 0, 1) := by decide +kernel
theorem dX7_image_47 : decode cX7_image 47 = .ok (.getfield 13, 3) := by decide +kernel
theorem dX7_image_50 : decode cX7_image 50 = .ok (.bipush 7, 2) := by decide +kernel
theorem dX7_image_52 : decode cX7_image 52 = .ok (.iaload, 1) := by decide +kernel
theorem dX7_image_53 : decode cX7_image 53 = .ok (.invokevirtual 68, 3) := by decide +kernel
theorem dX7_image_56 : decode cX7_image 56 = .ok (.ireturn, 1) := by decide +kernel
theorem dX7_back_0 : decode cX7_back 0 = .ok (.aload_n 0, 1) := by decide +kernel
theorem dX7_back_1 : decode cX7_back 1 = .ok (.iconst 0, 1) := by decide +kernel
theorem dX7_back_2 : decode cX7_back 2 = .ok (.putfield 50, 3) := by decide +kernel
theorem dX7_back_5 : decode cX7_back 5 = .ok (.iload_n 1, 1) := by decide +kernel
theorem dX7_back_6 : decode cX7_back 6 = .ok (.i2l, 1) := by decide +kernel
theorem dX7_back_7 : decode cX7_back 7 = .ok (.lconst 0, 1) := by decide +kernel
theorem dX7_back_8 : decode cX7_back 8 = .ok (.lconst 1, 1) := by decide +kernel
theorem dX7_back_9 : decode cX7_back 9 = .ok (.invokestatic 71, 3) := by decide +kernel
theorem dX7_back_12 : decode cX7_back 12 = .ok (.ifCond .ne 9, 3) := by decide +kernel
theorem dX7_back_15 : decode cX7_back 15 = .ok (.aload_n 0, 1) := by decide +kernel
theorem dX7_back_16 : decode cX7_back 16 = .ok (.iconst (-1), 1) := by decide +kernel
theorem dX7_back_17 : decode cX7_back 17 = .ok (.invokevirtual 64, 3) := by decide +kernel
theorem dX7_back_20 : decode cX7_back 20 = .ok (.ireturn, 1) := by decide +kernel
theorem dX7_back_21 : decode cX7_back 21 = .ok (.aload_n 0, 1) := by decide +kernel
theorem dX7_back_22 : decode cX7_back 22 = .ok (.getfield 25, 3) := by decide +kernel
theorem dX7_back_25 : decode cX7_back 25 = .ok (.iload_n 1, 1) := by decide +kernel
theorem dX7_back_26 : decode cX7_back 26 = .ok (.baload, 1) := by decide +kernel
theorem dX7_back_27 : decode cX7_back 27 = .ok (.ifCond .ne 10, 3) := by decide +kernel
theorem dX7_back_30 : decode cX7_back 30 = .ok (.aload_n 0, 1) := by decide +kernel
theorem dX7_back_31 : decode cX7_back 31 = .ok (.bipush (-4), 2) := by decide +kernel
theorem dX7_back_33 : decode cX7_back 33 = .ok (.invokevirtual 64, 3) := by decide +kernel
theorem dX7_back_36 : decode cX7_back 36 = .ok (.ireturn, 1) := by decide +kernel
theorem dX7_back_37 : decode cX7_back 37 = .ok (.aload_n 0, 1) := by decide +kernel
theorem dX7_back_38 : decode cX7_back 38 = .ok (.getfield 22, 3) := by decide +kernel
theorem dX7_back_41 : decode cX7_back 41 = .ok (.sipush 695, 3) := by decide +kernel
theorem dX7_back_44 : decode cX7_back 44 = .ok (.iload_n 1, 1) := by decide +kernel
theorem dX7_back_45 : decode cX7_back 45 = .ok (.imul, 1) := by decide +kernel
theorem dX7_back_46 : decode cX7_back 46 = .ok (.aload_n 0, 1) := by decide +kernel
theorem dX7_back_47 : decode cX7_back 47 = .ok (.getfield 13, 3) := by decide +kernel
theorem dX7_back_50 : decode cX7_back 50 = .ok (.iconst 0, 1) := by decide +kernel
theorem dX7_back_51 : decode cX7_back 51 = .ok (.invokestatic 60, 3) := by decide +kernel
theorem dX7_back_54 : decode cX7_back 54 = .ok (.aload_n 0, 1) := by decide +kernel
theorem dX7_back_55 : decode cX7_back 55 = .ok (.iconst 0, 1) := by decide +kernel
theorem dX7_back_56 : decode cX7_back 56 = .ok (.putfield 57, 3) := by decide +kernel
theorem dX7_back_59 : decode cX7_back 59 = .ok (.aload_n 0, 1) := by decide +kernel
theorem dX7_back_60 : decode cX7_back 60 = .ok (.aload_n 0, 1) := by decide +kernel
theorem dX7_back_61 : decode cX7_back 61 = .ok (.getfield 13, 3) := by decide +kernel
theorem dX7_back_64 : decode cX7_back 64 = .ok (.bipush 7, 2) := by decide +kernel
theorem dX7_back_66 : decode cX7_back 66 = .ok (.iaload, 1) := by decide +kernel
theorem dX7_back_67 : decode cX7_back 67 = .ok (.invokevirtual 68, 3) := by decide +kernel
theorem dX7_back_70 : decode cX7_back 70 = .ok (.ireturn, 1) := by decide +kernel
set_option maxHeartbeats 4000000 in
set_option maxRecDepth 100000 in
theorem d_X7_undo (l : Launch) (E : hE) (ρ r : Nat → Nat → Int32) (hQ : PI r ρ) : Met l yX7_undo (.code yX7_undo cX7_undo 1 (some .int) :: gw_all) (rmk 2 80) (cPre E ρ [.ref (E.2.1 + 1076)]) (cI E (fun v ρ1 => PI r ρ1)) 0 0 (hA E) := by
  refine ent (own := RX7) (by decide) rfl (Nat.le_of_ble_eq_true rfl) ?_
  intro p e s m below meth c ls B hr hlk hl hP hS
  have hx := B.1.1
  have hb := B.1.2.1
  have hown := B.1.2.2.2.1
  have hts := B.1.2.2.2.2
  have hl : lv_has ls 1 [(0, .ref (E.2.1 + 1076))] := hl
  obtain ⟨u, hu8, hue, -⟩ := hQ.2.2.1
  refine lv_aload_n hx hb dX7_undo_0 rfl (lv_at hl 0 rfl) ?_
  refine lv_iconst (v := 0) hx hb dX7_undo_1 (by decide) ?_
  refine put7 B hP hS (show hk 1076 = 7 by decide +kernel) 0 (by decide) mw_1027 rfl rfl rfl (fs7_0 E 1076 _ _) dX7_undo_2 (fun H locs hP hS => ?_)
  obtain ⟨ρ20, e21⟩ : ∃ z, z = up ρ 1076 0 0 := ⟨_, rfl⟩
  rw [← e21] at hP
  refine lv_aload_n hx hb dX7_undo_5 rfl (lv_at hl 0 rfl) ?_
  refine get7 B hP (show hk 1076 = 7 by decide +kernel) 6 (by decide) mw_1033 (v := .int (nI u)) (show some (Value.int (ρ20 1076 6)) = some (Value.int (nI u)) from congrArg (fun z => some (Value.int z)) (by rw [e21]; exact up_get_ne (Or.inr (by omega)) hue)) dX7_undo_6 ?_
  refine lv_if_ne (tgt := 19) hx hb dX7_undo_9 (by decide) (fun c22 => ?_) (fun c22 => ?_)
  · skip
    have n23 := mt (nI_eq (a := u) (b := 0) (by omega) (by omega)).mpr (show ¬ (nI u = nI 0) from c22)
    refine lv_aload_n hx hb dX7_undo_19 rfl (lv_at hl 0 rfl) ?_
    refine lv_dup hx hb dX7_undo_20 rfl ?_
    refine get7 B hP (show hk 1076 = 7 by decide +kernel) 6 (by decide) mw_1033 (v := .int (nI u)) (show some (Value.int (ρ20 1076 6)) = some (Value.int (nI u)) from congrArg (fun z => some (Value.int z)) (by rw [e21]; exact up_get_ne (Or.inr (by omega)) hue)) dX7_undo_21 ?_
    refine lv_iconst (v := 1) hx hb dX7_undo_24 (by decide) ?_
    refine lv_isub hx hb dX7_undo_25 ?_
    obtain ⟨j24, hj24⟩ : ∃ q, u = q + 1 := ⟨u - 1, by omega⟩
    refine lv_topi (fun z25 ez25 => ?_)
    obtain rfl : z25 = (nI j24) := ez25.trans (nI_subE (a := u) (b := 1) hj24)
    refine put7 B hP hS (show hk 1076 = 7 by decide +kernel) 6 (by decide) mw_1033 rfl rfl rfl (fs7_6 E 1076 _ _) dX7_undo_26 (fun H locs hP hS => ?_)
    obtain ⟨ρ26, e27⟩ : ∃ z, z = up ρ20 1076 6 (nI j24) := ⟨_, rfl⟩
    rw [← e27] at hP
    refine lv_aload_n hx hb dX7_undo_29 rfl (lv_at hl 0 rfl) ?_
    refine get7 B hP (show hk 1076 = 7 by decide +kernel) 4 (by decide) mw_1031 rfl dX7_undo_30 ?_
    refine lv_sipush (v := 695) hx hb dX7_undo_33 (by decide) ?_
    refine lv_aload_n hx hb dX7_undo_36 rfl (lv_at hl 0 rfl) ?_
    refine get7 B hP (show hk 1076 = 7 by decide +kernel) 6 (by decide) mw_1033 (v := .int (nI j24)) (show some (Value.int (ρ26 1076 6)) = some (Value.int (nI j24)) from congrArg (fun z => some (Value.int z)) (by rw [e27]; exact up_get_at)) dX7_undo_37 ?_
    refine lv_imul hx hb dX7_undo_40 ?_
    refine lv_topi (fun z28 ez28 => ?_)
    obtain rfl : z28 = (nI (695 * j24)) := ez28.trans (by rw [show 695 = nI 695 from rfl, show (nI j24) = nI j24 from rfl, nI_mul] <;> exact congrArg nI (by omega))
    refine lv_aload_n hx hb dX7_undo_41 rfl (lv_at hl 0 rfl) ?_
    refine get7 B hP (show hk 1076 = 7 by decide +kernel) 3 (by decide) mw_1030 rfl dX7_undo_42 ?_
    refine lv_iconst (v := 0) hx hb dX7_undo_45 (by decide) ?_
    refine call_v (cS (av := [.ref (E.2.1 + 1079), .int (nI (695 * j24)), .ref (E.2.1 + 1078), .int 0]) (rest := []) B hP hS (c_copy l E ρ26 1079 1078 5560 695 (695 * j24) 0 (show hk 1079 = 8 by decide +kernel) (show hlen 1079 = 5560 by decide +kernel) (show hk 1078 = 8 by decide +kernel) (show hlen 1078 = 695 by decide +kernel) (by omega) (by omega) (by decide) (by decide) (by decide)) lk_RX7_60 rfl rfl hl.1 (Nat.le_of_ble_eq_true rfl) ⟨Nat.le_of_ble_eq_true rfl, Nat.le_of_ble_eq_true rfl⟩ ⟨Nat.le_of_ble_eq_true rfl, Nat.le_of_ble_eq_true rfl⟩ dX7_undo_46) hS (fun ρ30 H locs q31 hP hS => ?_)
    refine lv_aload_n hx hb dX7_undo_49 rfl (lv_at hl 0 rfl) ?_
    refine lv_aload_n hx hb dX7_undo_50 rfl (lv_at hl 0 rfl) ?_
    refine get7 B hP (show hk 1076 = 7 by decide +kernel) 5 (by decide) mw_1032 rfl dX7_undo_51 ?_
    refine lv_aload_n hx hb dX7_undo_54 rfl (lv_at hl 0 rfl) ?_
    refine get7 B hP (show hk 1076 = 7 by decide +kernel) 6 (by decide) mw_1033 (v := .int (nI j24)) (show some (Value.int (ρ30 1076 6)) = some (Value.int (nI j24)) from congrArg (fun z => some (Value.int z)) ((congrFun (q31.1 1076 (by decide)) _).trans (by rw [e27]; exact up_get_at))) dX7_undo_55 ?_
    refine aldn (n := 8) (j := j24) B hP (show hk 1080 = 8 by decide +kernel) (show hlen 1080 = 8 by decide +kernel) rfl (by omega) (by decide) dX7_undo_58 ?_
    refine call_i (cVt (k := 1076) (av := [.int (ρ30 1080 j24)]) (rest := []) B hP hS (d_X7_tell l E ρ30 (ρ30 1080 j24)) lk_RX7_68 (hrecv (ci := 7) B hP (hk_lt (c := 7) (show hk 1076 = 7 by decide +kernel) (by decide)) (hcc7 _ _ (show hk 1076 = 7 by decide +kernel)) rfl) rfl rfl hl.1 (Nat.le_of_ble_eq_true rfl) ⟨Nat.le_of_ble_eq_true rfl, Nat.le_of_ble_eq_true rfl⟩ ⟨Nat.le_of_ble_eq_true rfl, Nat.le_of_ble_eq_true rfl⟩ dX7_undo_59) hS (fun r32 ρ33 H locs q34 hP hS => ?_)
    exact ret_i B hr hlk hP hS dX7_undo_62 ((by rw [q34]; exact PI_76 (PI_undo (w := j24) (by rw [e21]; exact PI_76 hQ (by decide)) ((show ρ20 1076 6 = nI u from (by rw [e21]; exact up_get_ne (Or.inr (by omega)) hue)).trans (congrArg nI (show u = j24 + 1 by omega))) (by omega) e27 q31.1 q31.2.1) (by decide)))
  · skip
    have n35 := (nI_eq (a := u) (b := 0) (by omega) (by omega)).mp (show (nI u = nI 0) from c22)
    refine lv_aload_n hx hb dX7_undo_12 rfl (lv_at hl 0 rfl) ?_
    refine lv_bipush (v := (-4)) hx hb dX7_undo_13 (by decide) ?_
    refine call_i (cVt (k := 1076) (av := [.int (-4)]) (rest := []) B hP hS (d_X7_refuse4 l E ρ20) lk_RX7_64 (hrecv (ci := 7) B hP (hk_lt (c := 7) (show hk 1076 = 7 by decide +kernel) (by decide)) (hcc7 _ _ (show hk 1076 = 7 by decide +kernel)) rfl) rfl rfl hl.1 (Nat.le_of_ble_eq_true rfl) ⟨Nat.le_of_ble_eq_true rfl, Nat.le_of_ble_eq_true rfl⟩ ⟨Nat.le_of_ble_eq_true rfl, Nat.le_of_ble_eq_true rfl⟩ dX7_undo_15) hS (fun r36 ρ37 H locs q38 hP hS => ?_)
    exact ret_i B hr hlk hP hS dX7_undo_18 ((by rw [q38]; exact PI_ref (by rw [e21]; exact PI_76 hQ (by decide))))

set_option maxHeartbeats 4000000 in
set_option maxRecDepth 100000 in
theorem d_X7_image (l : Launch) (E : hE) (ρ r : Nat → Nat → Int32) (hQ : PI r ρ) (a1 : Int32) : Met l yX7_image (.code yX7_image cX7_image 2 (some .int) :: gw_all) (rmk 2 80) (cPre E ρ [.ref (E.2.1 + 1076), .int a1]) (cI E (fun v ρ1 => PI r ρ1)) 0 0 (hA E) := by
  refine ent (own := RX7) (by decide) rfl (Nat.le_of_ble_eq_true rfl) ?_
  intro p e s m below meth c ls B hr hlk hl hP hS
  have hx := B.1.1
  have hb := B.1.2.1
  have hown := B.1.2.2.2.1
  have hts := B.1.2.2.2.2
  have hl : lv_has ls 2 [(0, .ref (E.2.1 + 1076)), (1, .int a1)] := hl
  refine lv_aload_n hx hb dX7_image_0 rfl (lv_at hl 0 rfl) ?_
  refine lv_iconst (v := 0) hx hb dX7_image_1 (by decide) ?_
  refine put7 B hP hS (show hk 1076 = 7 by decide +kernel) 0 (by decide) mw_1027 rfl rfl rfl (fs7_0 E 1076 _ _) dX7_image_2 (fun H locs hP hS => ?_)
  obtain ⟨ρ23, e24⟩ : ∃ z, z = up ρ 1076 0 0 := ⟨_, rfl⟩
  rw [← e24] at hP
  refine lv_iload_n hx hb dX7_image_5 rfl (lv_at hl 1 rfl) ?_
  refine lv_i2l hx hb dX7_image_6 rfl ?_
  refine lv_lconst (v := 0) hx hb dX7_image_7 (by decide) ?_
  refine lv_lconst (v := 1) hx hb dX7_image_8 (by decide) ?_
  refine call_i (cS (av := [.long a1.toInt64, .long 0, .long 1]) (rest := []) B hP hS (c_in l E ρ23 a1.toInt64 0 1 0 1 (by decide) (by decide)) lk_RX7_71 rfl rfl hl.1 (Nat.le_of_ble_eq_true rfl) ⟨Nat.le_of_ble_eq_true rfl, Nat.le_of_ble_eq_true rfl⟩ ⟨Nat.le_of_ble_eq_true rfl, Nat.le_of_ble_eq_true rfl⟩ dX7_image_9) hS (fun r25 ρ26 H locs q27 hP hS => ?_)
  obtain ⟨rfl, q27⟩ := q27
  rcases q27 with ⟨rfl, q27⟩ | ⟨rfl, q27⟩
  · skip
    have i28 : iR a1 0 1 := (lR_i _ _ _).mp q27
    refine lv_if_ne (tgt := 21) hx hb dX7_image_12 (by decide) (fun _ => ?_) (fun c29 => absurd c29 (iR_ne (show iR 1 (1) (1) from ⟨by decide, by decide⟩) (show iR 0 (0) (0) from ⟨by decide, by decide⟩) (by decide)))
    refine lv_aload_n hx hb dX7_image_21 rfl (lv_at hl 0 rfl) ?_
    refine get7 B hP (show hk 1076 = 7 by decide +kernel) 3 (by decide) mw_1030 rfl dX7_image_22 ?_
    refine lv_iconst (v := 0) hx hb dX7_image_25 (by decide) ?_
    refine lv_aload_n hx hb dX7_image_26 rfl (lv_at hl 0 rfl) ?_
    refine get7 B hP (show hk 1076 = 7 by decide +kernel) 7 (by decide) mw_1034 rfl dX7_image_27 ?_
    refine lv_sipush (v := 695) hx hb dX7_image_30 (by decide) ?_
    refine lv_iload_n hx hb dX7_image_33 rfl (lv_at hl 1 rfl) ?_
    have := nn_r (x := a1) (a := 0) (b := 1) i28 (by decide)
    refine lv_topi (fun z30 ez30 => ?_)
    obtain rfl : z30 = nI (nn a1) := ez30.trans (nn_eq a1)
    refine lv_imul hx hb dX7_image_34 ?_
    refine lv_topi (fun z31 ez31 => ?_)
    obtain rfl : z31 = (nI (695 * (nn a1))) := ez31.trans (by rw [show 695 = nI 695 from rfl, show (nI (nn a1)) = nI (nn a1) from rfl, nI_mul] <;> exact congrArg nI (by omega))
    refine call_v (cS (av := [.ref (E.2.1 + 1078), .int 0, .ref (E.2.1 + 1081), .int (nI (695 * (nn a1)))]) (rest := []) B hP hS (c_copy l E ρ23 1078 1081 695 1390 0 (695 * (nn a1)) (show hk 1078 = 8 by decide +kernel) (show hlen 1078 = 695 by decide +kernel) (show hk 1081 = 8 by decide +kernel) (show hlen 1081 = 1390 by decide +kernel) (by omega) (by omega) (by decide) (by decide) (by decide)) lk_RX7_60 rfl rfl hl.1 (Nat.le_of_ble_eq_true rfl) ⟨Nat.le_of_ble_eq_true rfl, Nat.le_of_ble_eq_true rfl⟩ ⟨Nat.le_of_ble_eq_true rfl, Nat.le_of_ble_eq_true rfl⟩ dX7_image_35) hS (fun ρ33 H locs q34 hP hS => ?_)
    refine lv_aload_n hx hb dX7_image_38 rfl (lv_at hl 0 rfl) ?_
    refine get7 B hP (show hk 1076 = 7 by decide +kernel) 8 (by decide) mw_1035 rfl dX7_image_39 ?_
    refine lv_iload_n hx hb dX7_image_42 rfl (lv_at hl 1 rfl) ?_
    refine lv_topi (fun z35 ez35 => ?_)
    obtain rfl : z35 = nI (nn a1) := ez35.trans (nn_eq a1)
    refine lv_iconst (v := 1) hx hb dX7_image_43 (by decide) ?_
    refine zstn (n := 2) (j := (nn a1)) B hP hS (show hk 1082 = 9 by decide +kernel) (show hlen 1082 = 2 by decide +kernel) rfl (by omega) (by decide) rfl dX7_image_44 (fun H locs hP hS => ?_)
    obtain ⟨ρ36, e37⟩ : ∃ z, z = up ρ33 1082 (nn a1) 1 := ⟨_, rfl⟩
    rw [← e37] at hP
    refine lv_aload_n hx hb dX7_image_45 rfl (lv_at hl 0 rfl) ?_
    refine lv_aload_n hx hb dX7_image_46 rfl (lv_at hl 0 rfl) ?_
    refine get7 B hP (show hk 1076 = 7 by decide +kernel) 3 (by decide) mw_1030 rfl dX7_image_47 ?_
    refine lv_bipush (v := 7) hx hb dX7_image_50 (by decide) ?_
    refine aldn (n := 695) (j := 7) B hP (show hk 1078 = 8 by decide +kernel) (show hlen 1078 = 695 by decide +kernel) rfl (by omega) (by decide) dX7_image_52 ?_
    refine call_i (cVt (k := 1076) (av := [.int (ρ36 1078 7)]) (rest := []) B hP hS (d_X7_tell l E ρ36 (ρ36 1078 7)) lk_RX7_68 (hrecv (ci := 7) B hP (hk_lt (c := 7) (show hk 1076 = 7 by decide +kernel) (by decide)) (hcc7 _ _ (show hk 1076 = 7 by decide +kernel)) rfl) rfl rfl hl.1 (Nat.le_of_ble_eq_true rfl) ⟨Nat.le_of_ble_eq_true rfl, Nat.le_of_ble_eq_true rfl⟩ ⟨Nat.le_of_ble_eq_true rfl, Nat.le_of_ble_eq_true rfl⟩ dX7_image_53) hS (fun r38 ρ39 H locs q40 hP hS => ?_)
    exact ret_i B hr hlk hP hS dX7_image_56 ((by rw [q40]; exact PI_76 (by rw [e37]; exact PI_image (by rw [e24]; exact PI_76 hQ (by decide)) (by omega) q34.1 q34.2.1 q34.2.2) (by decide)))
  · skip
    refine lv_if_ne (tgt := 21) hx hb dX7_image_12 (by decide) (fun c41 => absurd rfl c41) (fun _ => ?_)
    refine lv_aload_n hx hb dX7_image_15 rfl (lv_at hl 0 rfl) ?_
    refine lv_iconst (v := (-1)) hx hb dX7_image_16 (by decide) ?_
    refine call_i (cVt (k := 1076) (av := [.int (-1)]) (rest := []) B hP hS (d_X7_refuse1 l E ρ23) lk_RX7_64 (hrecv (ci := 7) B hP (hk_lt (c := 7) (show hk 1076 = 7 by decide +kernel) (by decide)) (hcc7 _ _ (show hk 1076 = 7 by decide +kernel)) rfl) rfl rfl hl.1 (Nat.le_of_ble_eq_true rfl) ⟨Nat.le_of_ble_eq_true rfl, Nat.le_of_ble_eq_true rfl⟩ ⟨Nat.le_of_ble_eq_true rfl, Nat.le_of_ble_eq_true rfl⟩ dX7_image_17) hS (fun r42 ρ43 H locs q44 hP hS => ?_)
    exact ret_i B hr hlk hP hS dX7_image_20 ((by rw [q44]; exact PI_ref (by rw [e24]; exact PI_76 hQ (by decide))))

set_option maxHeartbeats 4000000 in
set_option maxRecDepth 100000 in
theorem d_X7_back (l : Launch) (E : hE) (ρ r : Nat → Nat → Int32) (hQ : PI r ρ) (a1 : Int32) : Met l yX7_back (.code yX7_back cX7_back 2 (some .int) :: gw_all) (rmk 2 80) (cPre E ρ [.ref (E.2.1 + 1076), .int a1]) (cI E (fun v ρ1 => PI r ρ1)) 0 0 (hA E) := by
  refine ent (own := RX7) (by decide) rfl (Nat.le_of_ble_eq_true rfl) ?_
  intro p e s m below meth c ls B hr hlk hl hP hS
  have hx := B.1.1
  have hb := B.1.2.1
  have hown := B.1.2.2.2.1
  have hts := B.1.2.2.2.2
  have hl : lv_has ls 2 [(0, .ref (E.2.1 + 1076)), (1, .int a1)] := hl
  refine lv_aload_n hx hb dX7_back_0 rfl (lv_at hl 0 rfl) ?_
  refine lv_iconst (v := 0) hx hb dX7_back_1 (by decide) ?_
  refine put7 B hP hS (show hk 1076 = 7 by decide +kernel) 0 (by decide) mw_1027 rfl rfl rfl (fs7_0 E 1076 _ _) dX7_back_2 (fun H locs hP hS => ?_)
  obtain ⟨ρ30, e31⟩ : ∃ z, z = up ρ 1076 0 0 := ⟨_, rfl⟩
  rw [← e31] at hP
  refine lv_iload_n hx hb dX7_back_5 rfl (lv_at hl 1 rfl) ?_
  refine lv_i2l hx hb dX7_back_6 rfl ?_
  refine lv_lconst (v := 0) hx hb dX7_back_7 (by decide) ?_
  refine lv_lconst (v := 1) hx hb dX7_back_8 (by decide) ?_
  refine call_i (cS (av := [.long a1.toInt64, .long 0, .long 1]) (rest := []) B hP hS (c_in l E ρ30 a1.toInt64 0 1 0 1 (by decide) (by decide)) lk_RX7_71 rfl rfl hl.1 (Nat.le_of_ble_eq_true rfl) ⟨Nat.le_of_ble_eq_true rfl, Nat.le_of_ble_eq_true rfl⟩ ⟨Nat.le_of_ble_eq_true rfl, Nat.le_of_ble_eq_true rfl⟩ dX7_back_9) hS (fun r32 ρ33 H locs q34 hP hS => ?_)
  obtain ⟨rfl, q34⟩ := q34
  rcases q34 with ⟨rfl, q34⟩ | ⟨rfl, q34⟩
  · skip
    have i35 : iR a1 0 1 := (lR_i _ _ _).mp q34
    refine lv_if_ne (tgt := 21) hx hb dX7_back_12 (by decide) (fun _ => ?_) (fun c36 => absurd c36 (iR_ne (show iR 1 (1) (1) from ⟨by decide, by decide⟩) (show iR 0 (0) (0) from ⟨by decide, by decide⟩) (by decide)))
    refine lv_aload_n hx hb dX7_back_21 rfl (lv_at hl 0 rfl) ?_
    refine get7 B hP (show hk 1076 = 7 by decide +kernel) 8 (by decide) mw_1035 rfl dX7_back_22 ?_
    refine lv_iload_n hx hb dX7_back_25 rfl (lv_at hl 1 rfl) ?_
    have := nn_r (x := a1) (a := 0) (b := 1) i35 (by decide)
    refine lv_topi (fun z37 ez37 => ?_)
    obtain rfl : z37 = nI (nn a1) := ez37.trans (nn_eq a1)
    refine zldn (n := 2) (j := (nn a1)) B hP (show hk 1082 = 9 by decide +kernel) (show hlen 1082 = 2 by decide +kernel) rfl (by omega) (by decide) dX7_back_26 ?_
    have i38 : iR (ρ30 1082 (nn a1)) 0 1 := ((show PI r ρ30 from (by rw [e31]; exact PI_76 hQ (by decide))).2.2.2.1 (nn a1) (by omega)).1
    refine lv_if_ne (tgt := 37) hx hb dX7_back_27 (by decide) (fun c39 => ?_) (fun c39 => ?_)
    · skip
      have i40 : iR (ρ30 1082 (nn a1)) (1) (1) := (iR_neL i38 (show iR 0 (0) (0) from ⟨by decide, by decide⟩) c39 (by decide) (by decide))
      refine lv_aload_n hx hb dX7_back_37 rfl (lv_at hl 0 rfl) ?_
      refine get7 B hP (show hk 1076 = 7 by decide +kernel) 7 (by decide) mw_1034 rfl dX7_back_38 ?_
      refine lv_sipush (v := 695) hx hb dX7_back_41 (by decide) ?_
      refine lv_iload_n hx hb dX7_back_44 rfl (lv_at hl 1 rfl) ?_
      refine lv_topi (fun z41 ez41 => ?_)
      obtain rfl : z41 = nI (nn a1) := ez41.trans (nn_eq a1)
      refine lv_imul hx hb dX7_back_45 ?_
      refine lv_topi (fun z42 ez42 => ?_)
      obtain rfl : z42 = (nI (695 * (nn a1))) := ez42.trans (by rw [show 695 = nI 695 from rfl, show (nI (nn a1)) = nI (nn a1) from rfl, nI_mul] <;> exact congrArg nI (by omega))
      refine lv_aload_n hx hb dX7_back_46 rfl (lv_at hl 0 rfl) ?_
      refine get7 B hP (show hk 1076 = 7 by decide +kernel) 3 (by decide) mw_1030 rfl dX7_back_47 ?_
      refine lv_iconst (v := 0) hx hb dX7_back_50 (by decide) ?_
      refine call_v (cS (av := [.ref (E.2.1 + 1081), .int (nI (695 * (nn a1))), .ref (E.2.1 + 1078), .int 0]) (rest := []) B hP hS (c_copy l E ρ30 1081 1078 1390 695 (695 * (nn a1)) 0 (show hk 1081 = 8 by decide +kernel) (show hlen 1081 = 1390 by decide +kernel) (show hk 1078 = 8 by decide +kernel) (show hlen 1078 = 695 by decide +kernel) (by omega) (by omega) (by decide) (by decide) (by decide)) lk_RX7_60 rfl rfl hl.1 (Nat.le_of_ble_eq_true rfl) ⟨Nat.le_of_ble_eq_true rfl, Nat.le_of_ble_eq_true rfl⟩ ⟨Nat.le_of_ble_eq_true rfl, Nat.le_of_ble_eq_true rfl⟩ dX7_back_51) hS (fun ρ44 H locs q45 hP hS => ?_)
      refine lv_aload_n hx hb dX7_back_54 rfl (lv_at hl 0 rfl) ?_
      refine lv_iconst (v := 0) hx hb dX7_back_55 (by decide) ?_
      refine put7 B hP hS (show hk 1076 = 7 by decide +kernel) 6 (by decide) mw_1033 rfl rfl rfl (fs7_6 E 1076 _ _) dX7_back_56 (fun H locs hP hS => ?_)
      obtain ⟨ρ46, e47⟩ : ∃ z, z = up ρ44 1076 6 0 := ⟨_, rfl⟩
      rw [← e47] at hP
      refine lv_aload_n hx hb dX7_back_59 rfl (lv_at hl 0 rfl) ?_
      refine lv_aload_n hx hb dX7_back_60 rfl (lv_at hl 0 rfl) ?_
      refine get7 B hP (show hk 1076 = 7 by decide +kernel) 3 (by decide) mw_1030 rfl dX7_back_61 ?_
      refine lv_bipush (v := 7) hx hb dX7_back_64 (by decide) ?_
      refine aldn (n := 695) (j := 7) B hP (show hk 1078 = 8 by decide +kernel) (show hlen 1078 = 695 by decide +kernel) rfl (by omega) (by decide) dX7_back_66 ?_
      refine call_i (cVt (k := 1076) (av := [.int (ρ46 1078 7)]) (rest := []) B hP hS (d_X7_tell l E ρ46 (ρ46 1078 7)) lk_RX7_68 (hrecv (ci := 7) B hP (hk_lt (c := 7) (show hk 1076 = 7 by decide +kernel) (by decide)) (hcc7 _ _ (show hk 1076 = 7 by decide +kernel)) rfl) rfl rfl hl.1 (Nat.le_of_ble_eq_true rfl) ⟨Nat.le_of_ble_eq_true rfl, Nat.le_of_ble_eq_true rfl⟩ ⟨Nat.le_of_ble_eq_true rfl, Nat.le_of_ble_eq_true rfl⟩ dX7_back_67) hS (fun r48 ρ49 H locs q50 hP hS => ?_)
      exact ret_i B hr hlk hP hS dX7_back_70 ((by rw [q50]; exact PI_76 (by rw [e47]; exact PI_back (k := nn a1) (by rw [e31]; exact PI_76 hQ (by decide)) (by omega) (iR_is i40 rfl) q45.1 q45.2.1) (by decide)))
    · skip
      have i51 : iR (ρ30 1082 (nn a1)) (0) (0) := (by rw [c39]; exact ⟨by decide, by decide⟩)
      refine lv_aload_n hx hb dX7_back_30 rfl (lv_at hl 0 rfl) ?_
      refine lv_bipush (v := (-4)) hx hb dX7_back_31 (by decide) ?_
      refine call_i (cVt (k := 1076) (av := [.int (-4)]) (rest := []) B hP hS (d_X7_refuse4 l E ρ30) lk_RX7_64 (hrecv (ci := 7) B hP (hk_lt (c := 7) (show hk 1076 = 7 by decide +kernel) (by decide)) (hcc7 _ _ (show hk 1076 = 7 by decide +kernel)) rfl) rfl rfl hl.1 (Nat.le_of_ble_eq_true rfl) ⟨Nat.le_of_ble_eq_true rfl, Nat.le_of_ble_eq_true rfl⟩ ⟨Nat.le_of_ble_eq_true rfl, Nat.le_of_ble_eq_true rfl⟩ dX7_back_33) hS (fun r52 ρ53 H locs q54 hP hS => ?_)
      exact ret_i B hr hlk hP hS dX7_back_36 ((by rw [q54]; exact PI_ref (by rw [e31]; exact PI_76 hQ (by decide))))
  · skip
    refine lv_if_ne (tgt := 21) hx hb dX7_back_12 (by decide) (fun c55 => absurd rfl c55) (fun _ => ?_)
    refine lv_aload_n hx hb dX7_back_15 rfl (lv_at hl 0 rfl) ?_
    refine lv_iconst (v := (-1)) hx hb dX7_back_16 (by decide) ?_
    refine call_i (cVt (k := 1076) (av := [.int (-1)]) (rest := []) B hP hS (d_X7_refuse1 l E ρ30) lk_RX7_64 (hrecv (ci := 7) B hP (hk_lt (c := 7) (show hk 1076 = 7 by decide +kernel) (by decide)) (hcc7 _ _ (show hk 1076 = 7 by decide +kernel)) rfl) rfl rfl hl.1 (Nat.le_of_ble_eq_true rfl) ⟨Nat.le_of_ble_eq_true rfl, Nat.le_of_ble_eq_true rfl⟩ ⟨Nat.le_of_ble_eq_true rfl, Nat.le_of_ble_eq_true rfl⟩ dX7_back_17) hS (fun r56 ρ57 H locs q58 hP hS => ?_)
    exact ret_i B hr hlk hP hS dX7_back_20 ((by rw [q58]; exact PI_ref (by rw [e31]; exact PI_76 hQ (by decide))))
