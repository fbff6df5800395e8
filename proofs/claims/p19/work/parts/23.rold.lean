theorem inN {j : Nat} {a b : Int} (hj : j < 2 ^ 31) (h : iR (nI j) a b) : a ≤ j ∧ (j : Int) ≤ b := by
  unfold iR at h
  rw [nI_toInt hj] at h
  exact h
theorem subN {N : Nat} (hN : N < 2 ^ 31) : ((nI N).toInt64 - 1).toInt = (N : Int) - 1 := by
  rw [Int64.toInt_sub, Int32.toInt_toInt64, nI_toInt hN, show (1 : Int64).toInt = 1 from rfl]
  exact Int.bmod_eq_of_le (by omega) (by omega)
theorem inSub {x : Int32} {N : Nat} (hN : N < 2 ^ 31) (h : lR x.toInt64 0 ((nI N).toInt64 - 1).toInt) : ∃ j : Nat, j < N ∧ x = nI j := by
  rw [subN hN] at h
  have h := (lR_i _ _ _).mp h
  have h2 := h.2
  have h1 := h.1
  obtain ⟨j, hj, e⟩ := nI_of (x := x) (fun q => by have := Int32.lt_iff_toInt_lt.mp q; have h0 : (0 : Int32).toInt = 0 := rfl; omega)
  refine ⟨j, ?_, e⟩
  rw [e, nI_toInt hj] at h2
  omega
theorem inSubN {k N : Nat} (hk : k < 2 ^ 31) (hN : N < 2 ^ 31) (h : lR (nI k).toInt64 0 ((nI N).toInt64 - 1).toInt) : k < N := by
  rw [subN hN] at h
  have h := ((lR_i _ _ _).mp h).2
  rw [nI_toInt hk] at h
  omega
theorem p8T : (List.range 256).all (fun a => decide (pc8 (a / 2) + a % 2 = pc8 a) && decide (pc8 (a / 2 + 128) + a % 2 = pc8 a + 1)) = true := by decide +kernel
theorem p8s {a t : Nat} (ha : a < 256) (ht : t < 2) : pc8 (a / 2 + 128 * t) + a % 2 = pc8 a + t := by
  have e := List.all_eq_true.mp p8T a (List.mem_range.mpr ha)
  simp only [Bool.and_eq_true, decide_eq_true_eq] at e
  rcases (show t = 0 ∨ t = 1 by omega) with rfl | rfl
  · exact e.1
  · exact e.2
theorem pcc_step (x : Nat) (h : x < 8388608) : pcc x = x % 2 + pcc (x / 2) := by
  unfold pcc pc16
  have h1 := p8s (a := x % 256) (t := x / 256 % 256 % 2) (by omega) (by omega)
  have h2 := p8s (a := x / 256 % 256) (t := x / 256 / 256 % 2) (by omega) (by omega)
  have h3 := p8s (a := x / 256 / 256) (t := 0) (by omega) (by omega)
  rw [show x % 256 / 2 + 128 * (x / 256 % 256 % 2) = x / 2 % 256 by omega] at h1
  rw [show x / 256 % 256 / 2 + 128 * (x / 256 / 256 % 2) = x / 2 / 256 % 256 by omega] at h2
  rw [show x / 256 / 256 / 2 + 128 * 0 = x / 2 / 256 / 256 by omega] at h3
  omega
theorem pcc_pos {x : Nat} (h0 : 0 < x) (h : x < 8388608) : 0 < pcc x := by
  have := (kpc h0 h).2
  omega
theorem shrT : (List.range 32).all (fun c => ((nI c &&& 31).toBitVec.smod 32).toNat == c) = true := by decide +kernel
theorem shr_nI {x c : Nat} (hx : x < 2 ^ 31) (hc : c < 32) : nI x >>> (nI c &&& 31) = nI (x / 2 ^ c) := by
  have e := List.all_eq_true.mp shrT c (List.mem_range.mpr hc)
  simp only [beq_iff_eq] at e
  apply Int32.toBitVec_inj.mp
  rw [Int32.toBitVec_shiftRight]
  have hb : (nI x).toBitVec.toNat = x := by
    show (BitVec.ofNat 32 x).toNat = x
    rw [BitVec.toNat_ofNat]
    exact Nat.mod_eq_of_lt (by omega)
  have hd : x / 2 ^ c ≤ x := Nat.div_le_self _ _
  have hm : (nI x).toBitVec.msb = false := by
    rw [BitVec.msb_eq_decide, hb]
    exact decide_eq_false (by omega)
  unfold BitVec.sshiftRight'
  rw [e, BitVec.sshiftRight_eq_of_msb_false hm]
  apply BitVec.eq_of_toNat_eq
  rw [BitVec.toNat_ushiftRight, hb, Nat.shiftRight_eq_div_pow]
  show x / 2 ^ c = (BitVec.ofNat 32 (x / 2 ^ c)).toNat
  rw [BitVec.toNat_ofNat, Nat.mod_eq_of_lt (by omega)]
theorem bmS {x c : Nat} (hx : x < 8388608) : pcc (x / 2 ^ c) = x / 2 ^ c % 2 + pcc (x / 2 ^ (c + 1)) := by
  rw [pcc_step _ (Nat.lt_of_le_of_lt (Nat.div_le_self _ _) hx), Nat.div_div_eq_div_mul, ← Nat.pow_succ]
theorem bmC {x c k : Nat} (hx : x < 8388608) (h : k < pcc (x / 2 ^ c)) : c ≤ 22 := by
  by_cases hc : c ≤ 22
  · exact hc
  · have h2 : 2 ^ 23 ≤ 2 ^ c := Nat.pow_le_pow_right (by decide) (by omega)
    rw [Nat.div_eq_of_lt (by omega), pcc_0] at h
    omega
theorem nI_subE {a b q : Nat} (h : a = q + b) : nI a - nI b = nI q := by
  subst h
  rw [← nI_add, Int32.add_sub_cancel]
theorem rl_sub {N : Nat} (h : N ≤ 4) : iR (nI N - 1) (-1) ((N : Int) - 1) := by
  rcases (show N = 0 ∨ N = 1 ∨ N = 2 ∨ N = 3 ∨ N = 4 by omega) with rfl | rfl | rfl | rfl | rfl <;> exact ⟨by decide, by decide⟩
theorem rl_dec {x : Int32} {N : Nat} {a b : Int} (h : iR x (-1) ((N : Int) - 1)) (m : (x + -1).toInt = x.toInt + -1 ∧ a ≤ x.toInt ∧ x.toInt ≤ b) (ha : 0 ≤ a) : iR (x + -1) (-1) ((N : Int) - 1) := by
  unfold iR at *
  omega
theorem and1_nI (x : Nat) : nI x &&& 1 = nI (x % 2) := by
  rw [show (1 : Int32) = nI 1 from rfl, nI_and, Nat.and_one_is_mod]
theorem dX7_in_0 : decode cX7_in 0 = .ok (.lload_n 0, 1) := by decide +kernel
theorem dX7_in_1 : decode cX7_in 1 = .ok (.lload_n 2, 1) := by decide +kernel
theorem dX7_in_2 : decode cX7_in 2 = .ok (.lcmp, 1) := by decide +kernel
theorem dX7_in_3 : decode cX7_in 3 = .ok (.ifCond .lt 14, 3) := by decide +kernel
theorem dX7_in_6 : decode cX7_in 6 = .ok (.lload_n 0, 1) := by decide +kernel
theorem dX7_in_7 : decode cX7_in 7 = .ok (.lload 4, 2) := by decide +kernel
theorem dX7_in_9 : decode cX7_in 9 = .ok (.lcmp, 1) := by decide +kernel
theorem dX7_in_10 : decode cX7_in 10 = .ok (.ifCond .gt 7, 3) := by decide +kernel
theorem dX7_in_13 : decode cX7_in 13 = .ok (.iconst 1, 1) := by decide +kernel
theorem dX7_in_14 : decode cX7_in 14 = .ok (.goto 4, 3) := by decide +kernel
theorem dX7_in_17 : decode cX7_in 17 = .ok (.iconst 0, 1) := by decide +kernel
theorem dX7_in_18 : decode cX7_in 18 = .ok (.ireturn, 1) := by decide +kernel
set_option maxHeartbeats 4000000 in
set_option maxRecDepth 100000 in
theorem c_in (l : Launch) (E : hE) (ρ : Nat → Nat → Int32) (v lo hi : Int64) (a b : Int) (ha : lo.toInt = a) (hb2 : hi.toInt = b) : Met l yX7_in (.code yX7_in cX7_in 6 (some .boolean) :: gw_all) (rmk 0 0) (cPre E ρ [.long v, .long lo, .long hi]) (cI E (fun r ρ1 => ρ = ρ1 ∧ ((r = 1 ∧ lR v a b) ∨ (r = 0 ∧ ¬ lR v a b)))) 0 0 (hA E) := by
  refine ent (own := RX7) (by decide) rfl (Nat.le_of_ble_eq_true rfl) ?_
  intro p e s m below meth c ls B hr hlk hl hP hS
  have hx := B.1.1
  have hb := B.1.2.1
  have hown := B.1.2.2.2.1
  have hts := B.1.2.2.2.2
  have hl : lv_has ls 6 [(0, .long v), (2, .long lo), (4, .long hi)] := hl
  refine lv_lload_n hx hb dX7_in_0 rfl (lv_at hl 0 rfl) ?_
  refine lv_lload_n hx hb dX7_in_1 rfl (lv_at hl 1 rfl) ?_
  refine W.lcmp hx hb dX7_in_2 ?_
  refine lv_if_lt (tgt := 17) hx hb dX7_in_3 (by decide) (fun c1 => ?_) (fun c1 => ?_)
  · skip
    refine lv_iconst (v := 0) hx hb dX7_in_17 (by decide) ?_
    exact ret_z B hr hlk hP hS dX7_in_18 (Or.inl rfl) (⟨rfl, Or.inr ⟨rfl, lR_lo ha c1⟩⟩)
  · skip
    refine lv_lload_n hx hb dX7_in_6 rfl (lv_at hl 0 rfl) ?_
    refine lv_lload hx hb dX7_in_7 (lv_at hl 2 rfl) ?_
    refine W.lcmp hx hb dX7_in_9 ?_
    refine lv_if_gt (tgt := 17) hx hb dX7_in_10 (by decide) (fun c2 => ?_) (fun c2 => ?_)
    · skip
      refine lv_iconst (v := 0) hx hb dX7_in_17 (by decide) ?_
      exact ret_z B hr hlk hP hS dX7_in_18 (Or.inl rfl) (⟨rfl, Or.inr ⟨rfl, lR_hi hb2 c2⟩⟩)
    · skip
      refine lv_iconst (v := 1) hx hb dX7_in_13 (by decide) ?_
      refine lv_goto (tgt := 18) hx hb dX7_in_14 (by decide) ?_
      exact ret_z B hr hlk hP hS dX7_in_18 (Or.inr rfl) (⟨rfl, Or.inl ⟨rfl, lR_in ha hb2 c1 c2⟩⟩)
