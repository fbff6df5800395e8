theorem cp_in {ρ ρ1 : Nat → Nat → Int32} {ka kb p1 q1 i j : Nat} (hne : ka ≠ kb) (hQ : ∀ k, k ≠ kb → ρ1 k = ρ k) (hA1 : ∀ j, j < i → ρ1 kb (q1 + j) = ρ ka (p1 + j)) (hj : j < i + 1) : up ρ1 kb (q1 + i) (ρ1 ka (p1 + i)) kb (q1 + j) = ρ ka (p1 + j) := by
  by_cases e : j = i
  · subst e
    rw [up_get_at, hQ ka hne]
  · exact up_get_ne (Or.inr (by omega)) (hA1 j (by omega))
def RM (r0 : Nat → Nat → Int32) (k : Nat) (ρ : Nat → Nat → Int32) : Prop := (∀ c, c ≠ 1079 → c ≠ 1080 → ρ c = r0 c) ∧ (∀ j, j < k → ρ 1079 j = r0 1079 (695 + j)) ∧ (∀ j, k ≤ j → ρ 1079 j = r0 1079 j)
section RMS
variable {r ρ ρ1 r0 : Nat → Nat → Int32} {M : Nat → Int32} {L : Nat → Nat} {k w u : Nat} {a v : Int32}
theorem RM_0 : RM r0 0 r0 := ⟨fun _ _ _ => rfl, fun j h => absurd h (Nat.not_lt_zero _), fun _ _ => rfl⟩
theorem RM_step (h : RM r0 k ρ) : RM r0 (1 + k) (up ρ 1079 k (ρ 1079 (695 + k))) := by
  refine ⟨fun c a b => by rw [up_ne _ _ _ a]; exact h.1 c a b, fun j hj => ?_, fun j hj => ?_⟩
  · by_cases e : j = k
    · subst e
      exact up_get_at.trans (h.2.2 _ (by omega))
    · exact up_get_ne (Or.inr e) (h.2.1 j (by omega))
  · exact up_get_ne (Or.inr (by omega)) (h.2.2 j (by omega))
theorem RM_80 (h : RM r0 k ρ) : RM r0 k (up ρ 1080 u v) := ⟨fun c a b => by rw [up_ne _ _ _ b]; exact h.1 c a b, by rw [up_ne _ _ _ (by decide)]; exact h.2.1, by rw [up_ne _ _ _ (by decide)]; exact h.2.2⟩
theorem PJ_shift (h : PJ r M L r0) (hu : r0 1076 6 = nI 8) (hm : RM r0 4865 ρ) : PJ r M L (up ρ 1076 6 (nI 7)) := by
  obtain ⟨⟨h1, h2, ⟨x, hx8, hxe, hx⟩, h4, h5⟩, hG⟩ := h
  obtain rfl : x = 8 := (nI_eq (a := x) (b := 8) (by omega) (by decide)).mp (hxe.symm.trans hu)
  have c : ∀ c, c ≠ 1076 → c ≠ 1079 → c ≠ 1080 → up ρ 1076 6 (nI 7) c = r0 c := fun c a1 a2 a3 => by rw [up_ne _ _ _ a1]; exact hm.1 c a2 a3
  refine ⟨⟨fun k hk => by rw [c k (by omega) (by omega) (by omega)]; exact h1 k hk, by rw [c _ (by decide) (by decide) (by decide)]; exact h2, ⟨7, by decide, up_get_at, fun i hi => ?_⟩, by rw [c 1081 (by decide) (by decide) (by decide), c 1082 (by decide) (by decide) (by decide)]; exact h4, by rw [c 1085 (by decide) (by decide) (by decide), c 1086 (by decide) (by decide) (by decide), c 1087 (by decide) (by decide) (by decide), c 1088 (by decide) (by decide) (by decide), c 1089 (by decide) (by decide) (by decide)]; exact h5⟩, by rw [c _ (by decide) (by decide) (by decide)]; exact hG⟩
  refine GE_ext (hx (i + 1) (by omega)) (fun j hj => ?_)
  rw [up_ne _ _ _ (by decide), hm.2.1 _ (by omega)]
  congr 1
  omega
theorem PJ_rem (h : PJ r M L ρ) (hw : ρ 1076 6 = nI w) (hw7 : w ≤ 7) (h1 : ∀ k, k ≠ 1079 → ρ1 k = ρ k) (h2 : ∀ j, j < 695 → ρ1 1079 (695 * w + j) = ρ 1078 (0 + j)) (h3 : ∀ j, (j < 695 * w ∨ 695 * w + 695 ≤ j) → ρ1 1079 j = ρ 1079 j) : PJ r M L (up (up ρ1 1080 w a) 1076 6 (nI (1 + w))) ∧ up (up ρ1 1080 w a) 1076 6 (nI (1 + w)) 1078 = ρ 1078 := by
  obtain ⟨⟨g1, g2, ⟨x, hx8, hxe, hx⟩, g4, g5⟩, hG⟩ := h
  obtain rfl : x = w := (nI_eq (a := x) (b := w) (by omega) (by omega)).mp (hxe.symm.trans hw)
  have c : ∀ c, c ≠ 1076 → c ≠ 1079 → c ≠ 1080 → up (up ρ1 1080 x a) 1076 6 (nI (1 + x)) c = ρ c := fun c a1 a2 a3 => by rw [up_ne _ _ _ a1, up_ne _ _ _ a3]; exact h1 c a2
  refine ⟨⟨⟨fun k hk => by rw [c k (by omega) (by omega) (by omega)]; exact g1 k hk, by rw [c _ (by decide) (by decide) (by decide)]; exact g2, ⟨1 + x, by omega, up_get_at, fun i hi => ?_⟩, by rw [c 1081 (by decide) (by decide) (by decide), c 1082 (by decide) (by decide) (by decide)]; exact g4, by rw [c 1085 (by decide) (by decide) (by decide), c 1086 (by decide) (by decide) (by decide), c 1087 (by decide) (by decide) (by decide), c 1088 (by decide) (by decide) (by decide), c 1089 (by decide) (by decide) (by decide)]; exact g5⟩, by rw [c _ (by decide) (by decide) (by decide)]; exact hG⟩, c _ (by decide) (by decide) (by decide)⟩
  have e79 : up (up ρ1 1080 x a) 1076 6 (nI (1 + x)) 1079 = ρ1 1079 := by rw [up_ne _ _ _ (by decide), up_ne _ _ _ (by decide)]
  rw [e79]
  by_cases e : i = x
  · subst e
    exact GE_ext g2 (fun j hj => by rw [h2 j hj, Nat.zero_add])
  · exact GE_ext (hx i (by omega)) (fun j hj => h3 _ (by omega))
theorem PJ_ref (h : PJ r M L ρ) : PJ r M L (up (up ρ 1076 1 a) 1077 u v) := by
  have hI := RI_76 (j := 1) (v := a) (PJ_I h) (by decide)
  exact PJ_free (PJ_RI h.1 hI) (Or.inl rfl)
end RMS
theorem dX7_copy_0 : decode cX7_copy 0 = .ok (.iconst 0, 1) := by decide +kernel
theorem dX7_copy_1 : decode cX7_copy 1 = .ok (.istore 4, 2) := by decide +kernel
theorem dX7_copy_3 : decode cX7_copy 3 = .ok (.iload 4, 2) := by decide +kernel
theorem dX7_copy_5 : decode cX7_copy 5 = .ok (.sipush 695, 3) := by decide +kernel
theorem dX7_copy_8 : decode cX7_copy 8 = .ok (.if_icmp .ge 21, 3) := by decide +kernel
theorem dX7_copy_11 : decode cX7_copy 11 = .ok (.aload_n 2, 1) := by decide +kernel
theorem dX7_copy_12 : decode cX7_copy 12 = .ok (.iload_n 3, 1) := by decide +kernel
theorem dX7_copy_13 : decode cX7_copy 13 = .ok (.iload 4, 2) := by decide +kernel
theorem dX7_copy_15 : decode cX7_copy 15 = .ok (.iadd, 1) := by decide +kernel
theorem dX7_copy_16 : decode cX7_copy 16 = .ok (.aload_n 0, 1) := by decide +kernel
theorem dX7_copy_17 : decode cX7_copy 17 = .ok (.iload_n 1, 1) := by decide +kernel
theorem dX7_copy_18 : decode cX7_copy 18 = .ok (.iload 4, 2) := by decide +kernel
theorem dX7_copy_20 : decode cX7_copy 20 = .ok (.iadd, 1) := by decide +kernel
theorem dX7_copy_21 : decode cX7_copy 21 = .ok (.iaload, 1) := by decide +kernel
theorem dX7_copy_22 : decode cX7_copy 22 = .ok (.iastore, 1) := by decide +kernel
theorem dX7_copy_23 : decode cX7_copy 23 = .ok (.iinc 4 1, 3) := by decide +kernel
theorem dX7_copy_26 : decode cX7_copy 26 = .ok (.goto (-23), 3) := by decide +kernel
theorem dX7_copy_29 : decode cX7_copy 29 = .ok (.return_, 1) := by decide +kernel
set_option maxHeartbeats 4000000 in
set_option maxRecDepth 100000 in
theorem c_copy (l : Launch) (E : hE) (ρ : Nat → Nat → Int32) (ka kb na nb p1 q1 : Nat) (h1 : hk ka = 8) (l1 : hlen ka = na) (h2 : hk kb = 8) (l2 : hlen kb = nb) (hpa : p1 + 695 ≤ na) (hqb : q1 + 695 ≤ nb) (hna : na < 100000) (hnb : nb < 100000) (hne : ka ≠ kb) : Met l yX7_copy (.code yX7_copy cX7_copy 5 none :: gw_all) (rmk 0 0) (cPre E ρ [.ref (E.2.1 + ka), .int (nI p1), .ref (E.2.1 + kb), .int (nI q1)]) (cV E (fun ρ1 => (∀ k, k ≠ kb → ρ1 k = ρ k) ∧ (∀ j, j < 695 → ρ1 kb (q1 + j) = ρ ka (p1 + j)) ∧ (∀ j, (j < q1 ∨ q1 + 695 ≤ j) → ρ1 kb j = ρ kb j))) 0 0 (hA E) := by
  refine ent (own := RX7) (by decide) rfl (Nat.le_of_ble_eq_true rfl) ?_
  intro p e s m below meth c ls B hr hlk hl hP hS
  have hx := B.1.1
  have hb := B.1.2.1
  have hown := B.1.2.2.2.1
  have hts := B.1.2.2.2.2
  have hl : lv_has ls 5 [(0, .ref (E.2.1 + ka)), (1, .int (nI p1)), (2, .ref (E.2.1 + kb)), (3, .int (nI q1))] := hl
  refine lv_iconst (v := 0) hx hb dX7_copy_0 (by decide) ?_
  refine lv_istore (lv' := [(4, .int 0), (0, .ref (E.2.1 + ka)), (1, .int (nI p1)), (2, .ref (E.2.1 + kb)), (3, .int (nI q1))]) hx hb dX7_copy_1 hl (by decide) rfl (fun ls hl => ?_)
  have L : ∀ (d i : Nat) (ρ1 : Nat → Nat → Int32) (H : Heap) (locs : List Loc) (ls : Array Slot), i ≤ 695 → 695 - i < d → (∀ k, k ≠ kb → ρ1 k = ρ k) → (∀ j, j < i → ρ1 kb (q1 + j) = ρ ka (p1 + j)) → (∀ j, (j < q1 ∨ q1 + i ≤ j) → ρ1 kb j = ρ kb j) → WP E ρ1 H → va_S (hA E) s.heap H locs → lv_has ls 5 [(0, .ref (E.2.1 + ka)), (1, .int (nI p1)), (2, .ref (E.2.1 + kb)), (3, .int (nI q1)), (4, .int (nI i))] → W p l e (rmk 0 0) s m ([.ref (E.2.1 + ka), .int (nI p1), .ref (E.2.1 + kb), .int (nI q1)] : List Value).toArray below meth c H locs 0 0 (MQ below (cV E (fun ρ1 => (∀ k, k ≠ kb → ρ1 k = ρ k) ∧ (∀ j, j < 695 → ρ1 kb (q1 + j) = ρ ka (p1 + j)) ∧ (∀ j, (j < q1 ∨ q1 + 695 ≤ j) → ρ1 kb j = ρ kb j))) ([.ref (E.2.1 + ka), .int (nI p1), .ref (E.2.1 + kb), .int (nI q1)] : List Value).toArray s 0 0 (hA E)) (F0 m 3 ls []) := by
    intro d
    induction d with
    | zero => intro i ρ1 H locs ls h1 h2; exact absurd h2 (by omega)
    | succ d ih =>
      intro i ρ1 H locs ls hi hd hQ hA1 hB1 hP hS hl
      refine lv_iload hx hb dX7_copy_3 (lv_at hl 4 rfl) ?_
      refine lv_sipush (v := 695) hx hb dX7_copy_5 (by decide) ?_
      refine lv_icmp_ge (tgt := 29) hx hb dX7_copy_8 (by decide) (fun c1 => ?_) (fun c1 => ?_)
      · skip
        have cN : 695 ≤ i := (nI_leI (a := 695) (b := i) (by decide) (by omega)).mp c1
        exact ret_v B hr hlk hP hS dX7_copy_29 (⟨hQ, fun j hj => hA1 j (by omega), fun j hj => hB1 j (by omega)⟩)
      · skip
        have cN : i < 695 := Nat.not_le.mp (fun z => c1 ((nI_leI (a := 695) (b := i) (by decide) (by omega)).mpr z))
        refine lv_aload_n hx hb dX7_copy_11 rfl (lv_at hl 2 rfl) ?_
        refine lv_iload_n hx hb dX7_copy_12 rfl (lv_at hl 3 rfl) ?_
        refine lv_iload hx hb dX7_copy_13 (lv_at hl 4 rfl) ?_
        refine lv_iadd hx hb dX7_copy_15 ?_
        refine lv_aload_n hx hb dX7_copy_16 rfl (lv_at hl 0 rfl) ?_
        refine lv_iload_n hx hb dX7_copy_17 rfl (lv_at hl 1 rfl) ?_
        refine lv_iload hx hb dX7_copy_18 (lv_at hl 4 rfl) ?_
        refine lv_iadd hx hb dX7_copy_20 ?_
        refine aldn (n := na) (j := (p1 + i)) B hP h1 l1 (nI_add p1 i) (by omega) (by omega) dX7_copy_21 ?_
        refine astn (n := nb) (j := (q1 + i)) B hP hS h2 l2 (nI_add q1 i) (by omega) (by omega) dX7_copy_22 (fun H locs hP hS => ?_)
        obtain ⟨ρ2, e3⟩ : ∃ z, z = up ρ1 kb (q1 + i) (ρ1 ka (p1 + i)) := ⟨_, rfl⟩
        rw [← e3] at hP
        refine lv_iinc (v := (nI (i + 1))) (lv' := [(4, .int (nI (i + 1))), (0, .ref (E.2.1 + ka)), (1, .int (nI p1)), (2, .ref (E.2.1 + kb)), (3, .int (nI q1))]) hx hb dX7_copy_23 hl (k := 4) rfl (nI_1 i) (by decide) rfl (fun ls hl => ?_)
        refine lv_goto (tgt := 3) hx hb dX7_copy_26 (by decide) ?_
        exact ih (i + 1) ρ2 _ _ ls (by omega) (by omega) (fun k hk => by rw [e3, up_ne _ _ _ hk]; exact hQ k hk) (fun j hj => by rw [e3]; exact cp_in hne hQ hA1 hj) (fun j hj => by rw [e3]; exact up_get_ne (Or.inr (by omega)) (hB1 j (by omega))) hP hS (lv_sub hl [1, 2, 3, 4, 0] rfl)
  exact L 696 0 ρ _ _ ls (by omega) (by omega) (fun _ _ => rfl) (fun j hj => absurd hj (Nat.not_lt_zero j)) (fun _ _ => rfl) hP hS (lv_sub hl [1, 2, 3, 4, 0] rfl)
