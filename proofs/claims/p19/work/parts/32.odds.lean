theorem rem_lt {x y : Int32} (hy : y ≠ 0) : (x - x / y * y).toInt.natAbs < y.toInt.natAbs := by
  have h0 : y.toInt ≠ 0 := fun e => hy (Int32.toInt_inj.mp e)
  rw [rem_toInt, Int.natAbs_tmod]
  exact Nat.mod_lt _ (by omega)
theorem dX7_common_0 : decode cX7_common 0 = .ok (.iload_n 0, 1) := by decide +kernel
theorem dX7_common_1 : decode cX7_common 1 = .ok (.istore_n 2, 1) := by decide +kernel
theorem dX7_common_2 : decode cX7_common 2 = .ok (.iload_n 1, 1) := by decide +kernel
theorem dX7_common_3 : decode cX7_common 3 = .ok (.istore_n 3, 1) := by decide +kernel
theorem dX7_common_4 : decode cX7_common 4 = .ok (.iload_n 3, 1) := by decide +kernel
theorem dX7_common_5 : decode cX7_common 5 = .ok (.ifCond .eq 16, 3) := by decide +kernel
theorem dX7_common_8 : decode cX7_common 8 = .ok (.iload_n 2, 1) := by decide +kernel
theorem dX7_common_9 : decode cX7_common 9 = .ok (.iload_n 3, 1) := by decide +kernel
theorem dX7_common_10 : decode cX7_common 10 = .ok (.irem, 1) := by decide +kernel
theorem dX7_common_11 : decode cX7_common 11 = .ok (.istore 4, 2) := by decide +kernel
theorem dX7_common_13 : decode cX7_common 13 = .ok (.iload_n 3, 1) := by decide +kernel
theorem dX7_common_14 : decode cX7_common 14 = .ok (.istore_n 2, 1) := by decide +kernel
theorem dX7_common_15 : decode cX7_common 15 = .ok (.iload 4, 2) := by decide +kernel
theorem dX7_common_17 : decode cX7_common 17 = .ok (.istore_n 3, 1) := by decide +kernel
theorem dX7_common_18 : decode cX7_common 18 = .ok (.goto (-14), 3) := by decide +kernel
theorem dX7_common_21 : decode cX7_common 21 = .ok (.iload_n 2, 1) := by decide +kernel
theorem dX7_common_22 : decode cX7_common 22 = .ok (.ireturn, 1) := by decide +kernel
theorem dX7_odds_0 : decode cX7_odds 0 = .ok (.aload_n 0, 1) := by decide +kernel
theorem dX7_odds_1 : decode cX7_odds 1 = .ok (.iconst 0, 1) := by decide +kernel
theorem dX7_odds_2 : decode cX7_odds 2 = .ok (.putfield 50, 3) := by decide +kernel
theorem dX7_odds_5 : decode cX7_odds 5 = .ok (.aload_n 0, 1) := by decide +kernel
theorem dX7_odds_6 : decode cX7_odds 6 = .ok (.iload_n 1, 1) := by decide +kernel
theorem dX7_odds_7 : decode cX7_odds 7 = .ok (.iload_n 2, 1) := by decide +kernel
theorem dX7_odds_8 : decode cX7_odds 8 = .ok (.invokevirtual 106, 3) := by decide +kernel
theorem dX7_odds_11 : decode cX7_odds 11 = .ok (.ifCond .eq 26, 3) := by decide +kernel
theorem dX7_odds_14 : decode cX7_odds 14 = .ok (.iload_n 3, 1) := by decide +kernel
theorem dX7_odds_15 : decode cX7_odds 15 = .ok (.i2l, 1) := by decide +kernel
theorem dX7_odds_16 : decode cX7_odds 16 = .ok (.lconst 1, 1) := by decide +kernel
theorem dX7_odds_17 : decode cX7_odds 17 = .ok (.ldc2_w 249, 3) := by decide +kernel
theorem dX7_odds_20 : decode cX7_odds 20 = .ok (.invokestatic 71, 3) := by decide +kernel
theorem dX7_odds_23 : decode cX7_odds 23 = .ok (.ifCond .eq 14, 3) := by decide +kernel
theorem dX7_odds_26 : decode cX7_odds 26 = .ok (.iload 4, 2) := by decide +kernel
theorem dX7_odds_28 : decode cX7_odds 28 = .ok (.i2l, 1) := by decide +kernel
theorem dX7_odds_29 : decode cX7_odds 29 = .ok (.lconst 0, 1) := by decide +kernel
theorem dX7_odds_30 : decode cX7_odds 30 = .ok (.lconst 1, 1) := by decide +kernel
theorem dX7_odds_31 : decode cX7_odds 31 = .ok (.invokestatic 71, 3) := by decide +kernel
theorem dX7_odds_34 : decode cX7_odds 34 = .ok (.ifCond .ne 5, 3) := by decide +kernel
theorem dX7_odds_37 : decode cX7_odds 37 = .ok (.iconst (-1), 1) := by decide +kernel
theorem dX7_odds_38 : decode cX7_odds 38 = .ok (.ireturn, 1) := by decide +kernel
theorem dX7_odds_39 : decode cX7_odds 39 = .ok (.iconst 0, 1) := by decide +kernel
theorem dX7_odds_40 : decode cX7_odds 40 = .ok (.istore 5, 2) := by decide +kernel
theorem dX7_odds_42 : decode cX7_odds 42 = .ok (.iconst 0, 1) := by decide +kernel
theorem dX7_odds_43 : decode cX7_odds 43 = .ok (.istore 6, 2) := by decide +kernel
theorem dX7_odds_45 : decode cX7_odds 45 = .ok (.iload 6, 2) := by decide +kernel
theorem dX7_odds_47 : decode cX7_odds 47 = .ok (.iload_n 3, 1) := by decide +kernel
theorem dX7_odds_48 : decode cX7_odds 48 = .ok (.if_icmp .ge 47, 3) := by decide +kernel
theorem dX7_odds_51 : decode cX7_odds 51 = .ok (.aload_n 0, 1) := by decide +kernel
theorem dX7_odds_52 : decode cX7_odds 52 = .ok (.getfield 13, 3) := by decide +kernel
theorem dX7_odds_55 : decode cX7_odds 55 = .ok (.bipush 7, 2) := by decide +kernel
theorem dX7_odds_57 : decode cX7_odds 57 = .ok (.iaload, 1) := by decide +kernel
theorem dX7_odds_58 : decode cX7_odds 58 = .ok (.iconst 2, 1) := by decide +kernel
theorem dX7_odds_59 : decode cX7_odds 59 = .ok (.iload 6, 2) := by decide +kernel
theorem dX7_odds_61 : decode cX7_odds 61 = .ok (.imul, 1) := by decide +kernel
theorem dX7_odds_62 : decode cX7_odds 62 = .ok (.iadd, 1) := by decide +kernel
theorem dX7_odds_63 : decode cX7_odds 63 = .ok (.istore 7, 2) := by decide +kernel
theorem dX7_odds_65 : decode cX7_odds 65 = .ok (.iload 5, 2) := by decide +kernel
theorem dX7_odds_67 : decode cX7_odds 67 = .ok (.aload_n 0, 1) := by decide +kernel
theorem dX7_odds_68 : decode cX7_odds 68 = .ok (.iload_n 1, 1) := by decide +kernel
theorem dX7_odds_69 : decode cX7_odds 69 = .ok (.iload_n 2, 1) := by decide +kernel
theorem dX7_odds_70 : decode cX7_odds 70 = .ok (.iload 7, 2) := by decide +kernel
theorem dX7_odds_72 : decode cX7_odds 72 = .ok (.invokevirtual 251, 3) := by decide +kernel
theorem dX7_odds_75 : decode cX7_odds 75 = .ok (.aload_n 0, 1) := by decide +kernel
theorem dX7_odds_76 : decode cX7_odds 76 = .ok (.iload_n 1, 1) := by decide +kernel
theorem dX7_odds_77 : decode cX7_odds 77 = .ok (.iload_n 2, 1) := by decide +kernel
theorem dX7_odds_78 : decode cX7_odds 78 = .ok (.iload 7, 2) := by decide +kernel
theorem dX7_odds_80 : decode cX7_odds 80 = .ok (.iconst 1, 1) := by decide +kernel
theorem dX7_odds_81 : decode cX7_odds 81 = .ok (.iadd, 1) := by decide +kernel
theorem dX7_odds_82 : decode cX7_odds 82 = .ok (.invokevirtual 251, 3) := by decide +kernel
theorem dX7_odds_85 : decode cX7_odds 85 = .ok (.imul, 1) := by decide +kernel
theorem dX7_odds_86 : decode cX7_odds 86 = .ok (.iadd, 1) := by decide +kernel
theorem dX7_odds_87 : decode cX7_odds 87 = .ok (.istore 5, 2) := by decide +kernel
theorem dX7_odds_89 : decode cX7_odds 89 = .ok (.iinc 6 1, 3) := by decide +kernel
theorem dX7_odds_92 : decode cX7_odds 92 = .ok (.goto (-47), 3) := by decide +kernel
theorem dX7_odds_95 : decode cX7_odds 95 = .ok (.iload 4, 2) := by decide +kernel
theorem dX7_odds_97 : decode cX7_odds 97 = .ok (.ifCond .ne 8, 3) := by decide +kernel
theorem dX7_odds_100 : decode cX7_odds 100 = .ok (.iload 5, 2) := by decide +kernel
theorem dX7_odds_102 : decode cX7_odds 102 = .ok (.goto 8, 3) := by decide +kernel
theorem dX7_odds_105 : decode cX7_odds 105 = .ok (.sipush 256, 3) := by decide +kernel
theorem dX7_odds_108 : decode cX7_odds 108 = .ok (.iload_n 3, 1) := by decide +kernel
theorem dX7_odds_109 : decode cX7_odds 109 = .ok (.imul, 1) := by decide +kernel
theorem dX7_odds_110 : decode cX7_odds 110 = .ok (.iload 5, 2) := by decide +kernel
theorem dX7_odds_112 : decode cX7_odds 112 = .ok (.sipush 256, 3) := by decide +kernel
theorem dX7_odds_115 : decode cX7_odds 115 = .ok (.iload_n 3, 1) := by decide +kernel
theorem dX7_odds_116 : decode cX7_odds 116 = .ok (.imul, 1) := by decide +kernel
theorem dX7_odds_117 : decode cX7_odds 117 = .ok (.invokestatic 254, 3) := by decide +kernel
theorem dX7_odds_120 : decode cX7_odds 120 = .ok (.idiv, 1) := by decide +kernel
theorem dX7_odds_121 : decode cX7_odds 121 = .ok (.ireturn, 1) := by decide +kernel
theorem dX7_kernel_0 : decode cX7_kernel 0 = .ok (.aload_n 0, 1) := by decide +kernel
theorem dX7_kernel_1 : decode cX7_kernel 1 = .ok (.iconst 0, 1) := by decide +kernel
theorem dX7_kernel_2 : decode cX7_kernel 2 = .ok (.putfield 50, 3) := by decide +kernel
theorem dX7_kernel_5 : decode cX7_kernel 5 = .ok (.iload_n 1, 1) := by decide +kernel
theorem dX7_kernel_6 : decode cX7_kernel 6 = .ok (.i2l, 1) := by decide +kernel
theorem dX7_kernel_7 : decode cX7_kernel 7 = .ok (.lconst 0, 1) := by decide +kernel
theorem dX7_kernel_8 : decode cX7_kernel 8 = .ok (.ldc2_w 102, 3) := by decide +kernel
theorem dX7_kernel_11 : decode cX7_kernel 11 = .ok (.invokestatic 71, 3) := by decide +kernel
theorem dX7_kernel_14 : decode cX7_kernel 14 = .ok (.ifCond .eq 23, 3) := by decide +kernel
theorem dX7_kernel_17 : decode cX7_kernel 17 = .ok (.iload_n 2, 1) := by decide +kernel
theorem dX7_kernel_18 : decode cX7_kernel 18 = .ok (.i2l, 1) := by decide +kernel
theorem dX7_kernel_19 : decode cX7_kernel 19 = .ok (.lconst 0, 1) := by decide +kernel
theorem dX7_kernel_20 : decode cX7_kernel 20 = .ok (.ldc2_w 104, 3) := by decide +kernel
theorem dX7_kernel_23 : decode cX7_kernel 23 = .ok (.invokestatic 71, 3) := by decide +kernel
theorem dX7_kernel_26 : decode cX7_kernel 26 = .ok (.ifCond .eq 11, 3) := by decide +kernel
theorem dX7_kernel_29 : decode cX7_kernel 29 = .ok (.iload_n 1, 1) := by decide +kernel
theorem dX7_kernel_30 : decode cX7_kernel 30 = .ok (.iload_n 2, 1) := by decide +kernel
theorem dX7_kernel_31 : decode cX7_kernel 31 = .ok (.invokestatic 96, 3) := by decide +kernel
theorem dX7_kernel_34 : decode cX7_kernel 34 = .ok (.goto 4, 3) := by decide +kernel
theorem dX7_kernel_37 : decode cX7_kernel 37 = .ok (.iconst (-1), 1) := by decide +kernel
theorem dX7_kernel_38 : decode cX7_kernel 38 = .ok (.ireturn, 1) := by decide +kernel
set_option maxHeartbeats 4000000 in
set_option maxRecDepth 100000 in
theorem d_X7_common (l : Launch) (E : hE) (ρ r : Nat → Nat → Int32) (Bt : Nat) (hBt : Bt ≤ 1000000) (M : Nat → Int32) (L : Nat → Nat) (X : Nat × Nat → Prop) (a1 : Int32) (na2 : Nat) (lna2 : 1 ≤ na2) (una2 : na2 ≤ 16384) (hI : RI r Bt M L X ρ) : Met l yX7_common (.code yX7_common cX7_common 5 (some .int) :: gw_all) (rmk 1 40) (cPre E ρ [.int a1, .int (nI na2)]) (cI E (fun v ρ1 => ρ = ρ1 ∧ RI r Bt M L X ρ1 ∧ v ≠ 0)) 0 0 (hA E) := by
  refine ent (own := RX7) (by decide) rfl (Nat.le_of_ble_eq_true rfl) ?_
  intro p e s m below meth c ls B hr hlk hl hP hS
  have hx := B.1.1
  have hb := B.1.2.1
  have hown := B.1.2.2.2.1
  have hts := B.1.2.2.2.2
  have hl : lv_has ls 5 [(0, .int a1), (1, .int (nI na2))] := hl
  have b4_0 : ∀ (ls : Array Slot) (H : Heap) (locs : List Loc) (d4 : Nat) (x4_2 : Int32) (x4_3 : Int32), lv_has ls 5 [(2, .int x4_2), (3, .int x4_3)] → WP E ρ H → va_S (hA E) s.heap H locs → x4_3.toInt.natAbs < d4 → iR x4_2 (-2147483648) (2147483647) → iR x4_3 (-2147483648) (2147483647) → 1 ≤ na2 → na2 ≤ 16384 → x4_2 ≠ 0 ∨ x4_3 ≠ 0 → W p l e (rmk 1 40) s m ([.int a1, .int (nI na2)] : List Value).toArray below meth c H locs 0 0 (MQ below (cI E (fun v ρ1 => ρ = ρ1 ∧ RI r Bt M L X ρ1 ∧ v ≠ 0)) ([.int a1, .int (nI na2)] : List Value).toArray s 0 0 (hA E)) (F0 m 4 ls []) := by
    intro ls H locs d4
    induction d4 generalizing ls H locs with
    | zero => intro x4_2 x4_3 hl hP hS hd4 hx4_2 hx4_3 tlna2 tuna2 hxh; exact absurd hd4 (Nat.not_lt_zero _)
    | succ d4 ih4 =>
      intro x4_2 x4_3 hl hP hS hd4 hx4_2 hx4_3 tlna2 tuna2 hxh
      refine lv_iload_n hx hb dX7_common_4 rfl (lv_at hl 1 rfl) ?_
      refine lv_if_eq (tgt := 21) hx hb dX7_common_5 (by decide) (fun c4 => ?_) (fun c4 => ?_)
      · skip
        have i5 : iR x4_3 (0) (0) := (by rw [c4]; exact ⟨by decide, by decide⟩)
        refine lv_iload_n hx hb dX7_common_21 rfl (lv_at hl 0 rfl) ?_
        exact ret_i B hr hlk hP hS dX7_common_22 (⟨rfl, hI, (hxh.resolve_right (fun z => z c4))⟩)
      · skip
        refine lv_iload_n hx hb dX7_common_8 rfl (lv_at hl 0 rfl) ?_
        refine lv_iload_n hx hb dX7_common_9 rfl (lv_at hl 1 rfl) ?_
        refine lv_irem hx hb dX7_common_10 c4 ?_
        refine lv_istore (lv' := [(4, .int (x4_2 - x4_2 / x4_3 * x4_3)), (2, .int x4_2), (3, .int x4_3)]) hx hb dX7_common_11 hl (by decide) rfl (fun ls hl => ?_)
        refine lv_iload_n hx hb dX7_common_13 rfl (lv_at hl 2 rfl) ?_
        refine lv_istore_n (lv' := [(2, .int x4_3), (4, .int (x4_2 - x4_2 / x4_3 * x4_3)), (3, .int x4_3)]) hx hb dX7_common_14 rfl hl (by decide) rfl (fun ls hl => ?_)
        refine lv_iload hx hb dX7_common_15 (lv_at hl 1 rfl) ?_
        refine lv_istore_n (lv' := [(3, .int (x4_2 - x4_2 / x4_3 * x4_3)), (2, .int x4_3), (4, .int (x4_2 - x4_2 / x4_3 * x4_3))]) hx hb dX7_common_17 rfl hl (by decide) rfl (fun ls hl => ?_)
        refine lv_goto (tgt := 4) hx hb dX7_common_18 (by decide) ?_
        have hml := rem_lt (x := x4_2) (y := x4_3) c4
        have hbm : x4_3 ≠ 0 ∨ (x4_2 - x4_2 / x4_3 * x4_3) ≠ 0 := Or.inl c4
        exact ih4 ls _ _ (x4_3 : Int32) ((x4_2 - x4_2 / x4_3 * x4_3) : Int32) (lv_sub hl [1, 0] rfl) hP hS (by omega) (iR_w hx4_3 (by decide) (by decide)) (iR_w (iR_any (x4_2 - x4_2 / x4_3 * x4_3)) (by decide) (by decide)) (by omega) (by omega) hbm
  refine lv_iload_n hx hb dX7_common_0 rfl (lv_at hl 0 rfl) ?_
  refine lv_istore_n (lv' := [(2, .int a1), (0, .int a1), (1, .int (nI na2))]) hx hb dX7_common_1 rfl hl (by decide) rfl (fun ls hl => ?_)
  refine lv_iload_n hx hb dX7_common_2 rfl (lv_at hl 2 rfl) ?_
  refine lv_istore_n (lv' := [(3, .int (nI na2)), (2, .int a1), (0, .int a1), (1, .int (nI na2))]) hx hb dX7_common_3 rfl hl (by decide) rfl (fun ls hl => ?_)
  have hbm : a1 ≠ 0 ∨ (nI na2) ≠ 0 := Or.inr (iR_ne (nI_iR (j := na2) (a := 1) (b := 16384) (by omega) (by omega) (by omega)) (show iR 0 0 0 from ⟨by decide, by decide⟩) (by decide))
  exact b4_0 ls _ _ _ (a1 : Int32) ((nI na2) : Int32) (lv_sub hl [1, 0] rfl) hP hS (Nat.lt_succ_self _) (iR_w (iR_any a1) (by decide) (by decide)) (iR_w (nI_iR (j := na2) (a := 1) (b := 16384) (by omega) (by omega) (by omega)) (by decide) (by decide)) (by omega) (by omega) hbm

theorem lk_RX7_251 : LkV RX7 251 RX7 yX7_chance cX7_chance 5 (some .int) 3 := ⟨⟨mw_1383, mw_1385, mw_41, mw_59, mw_1386⟩, by decide +kernel⟩
theorem lk_RX7_254 : LkS RX7 254 yX7_common cX7_common 5 (some .int) 2 := ⟨⟨mw_1387, mw_1388, mw_59, mw_1389⟩, by decide +kernel⟩
set_option maxHeartbeats 4000000 in
set_option maxRecDepth 100000 in
theorem d_X7_odds (l : Launch) (E : hE) (ρ r : Nat → Nat → Int32) (Bt : Nat) (hBt : Bt ≤ 1000000) (M : Nat → Int32) (L : Nat → Nat) (X : Nat × Nat → Prop) (a1 : Int32) (a2 : Int32) (a3 : Int32) (a4 : Int32) (hI : RI r Bt M L X ρ) : Met l yX7_odds (.code yX7_odds cX7_odds 8 (some .int) :: gw_all) (rmk 4 160) (cPre E ρ [.ref (E.2.1 + 1076), .int a1, .int a2, .int a3, .int a4]) (cI E (fun v ρ1 => RI r Bt M L X ρ1)) 0 0 (hA E) := by
  refine ent (own := RX7) (by decide) rfl (Nat.le_of_ble_eq_true rfl) ?_
  intro p e s m below meth c ls B hr hlk hl hP hS
  have hx := B.1.1
  have hb := B.1.2.1
  have hown := B.1.2.2.2.1
  have hts := B.1.2.2.2.2
  have hl : lv_has ls 8 [(0, .ref (E.2.1 + 1076)), (1, .int a1), (2, .int a2), (3, .int a3), (4, .int a4)] := hl
  have b110_0 : ∀ (ls : Array Slot) (ρ : Nat → Nat → Int32) (H : Heap) (locs : List Loc) (x110_5 : Int32) (x110_s0 : Int32), lv_has ls 8 [(3, .int a3), (5, .int x110_5)] → WP E ρ H → va_S (hA E) s.heap H locs → RI r Bt M L X ρ → iR x110_5 (-2147483648) (2147483647) → iR x110_s0 (-2147483648) (2147483647) → iR (M (nn a1)) (0) (5) → iR a1 (0) (1) → iR a2 (0) (3) → iR a3 (1) (64) → iR a4 (0) (1) → 1 ≤ (L (nn a1)) → (L (nn a1)) ≤ 4 → 0 ≤ (nn a1) → (nn a1) ≤ 1 → 0 ≤ (nn a2) → (nn a2) ≤ 3 → 1 ≤ (nn a3) → (nn a3) ≤ 64 → 0 ≤ (nn a4) → (nn a4) ≤ 1 → (nn a2) + 1 ≤ L (nn a1) → W p l e (rmk 4 160) s m ([.ref (E.2.1 + 1076), .int a1, .int a2, .int a3, .int a4] : List Value).toArray below meth c H locs 0 0 (MQ below (cI E (fun v ρ1 => RI r Bt M L X ρ1)) ([.ref (E.2.1 + 1076), .int a1, .int a2, .int a3, .int a4] : List Value).toArray s 0 0 (hA E)) (F0 m 110 ls [.int x110_s0]) := by
    intro ls ρ H locs x110_5 x110_s0 hl hP hS hI hx110_5 hx110_s0 f_M__nn_a1__ fa1 fa2 fa3 fa4 tl_L__nn_a1__ tu_L__nn_a1__ tl_nn_a1_ tu_nn_a1_ tl_nn_a2_ tu_nn_a2_ tl_nn_a3_ tu_nn_a3_ tl_nn_a4_ tu_nn_a4_ hr110_0
    refine lv_iload hx hb dX7_odds_110 (lv_at hl 1 rfl) ?_
    refine lv_sipush (v := 256) hx hb dX7_odds_112 (by decide) ?_
    refine lv_iload_n hx hb dX7_odds_115 rfl (lv_at hl 0 rfl) ?_
    have := nn_r (x := a3) (a := 1) (b := 64) fa3 (by decide)
    refine lv_topi (fun z478 ez478 => ?_)
    obtain rfl : z478 = nI (nn a3) := ez478.trans (nn_eq a3)
    refine lv_imul hx hb dX7_odds_116 ?_
    refine lv_topi (fun z479 ez479 => ?_)
    obtain rfl : z479 = (nI (256 * (nn a3))) := ez479.trans (by rw [show 256 = nI 256 from rfl, show (nI (nn a3)) = nI (nn a3) from rfl, nI_mul] <;> exact congrArg nI (by omega))
    refine call_i (cS (av := [.int x110_5, .int (nI (256 * (nn a3)))]) (rest := [.int x110_s0]) B hP hS (d_X7_common l E ρ r Bt hBt M L X x110_5 (256 * (nn a3)) (by omega) (by omega) hI) lk_RX7_254 rfl rfl hl.1 (Nat.le_of_ble_eq_true rfl) ⟨Nat.le_of_ble_eq_true rfl, Nat.le_of_ble_eq_true rfl⟩ ⟨Nat.le_of_ble_eq_true rfl, Nat.le_of_ble_eq_true rfl⟩ dX7_odds_117) hS (fun r480 ρ481 H locs q482 hP hS => ?_)
    obtain ⟨rfl, hI, q482⟩ := q482
    refine lv_idiv hx hb dX7_odds_120 q482 ?_
    exact ret_i B hr hlk hP hS dX7_odds_121 (hI)
  have b45_0 : ∀ (ls : Array Slot) (ρ : Nat → Nat → Int32) (H : Heap) (locs : List Loc) (d45 : Nat) (x45_5 : Int32) (j45_6 : Nat), lv_has ls 8 [(0, .ref (E.2.1 + 1076)), (1, .int a1), (2, .int a2), (3, .int a3), (4, .int a4), (5, .int x45_5), (6, .int (nI j45_6))] → WP E ρ H → va_S (hA E) s.heap H locs → RI r Bt M L X ρ → 65 - j45_6 < d45 → iR x45_5 (-2147483648) (2147483647) → 0 ≤ j45_6 → j45_6 ≤ 64 → iR (M (nn a1)) (0) (5) → iR a1 (0) (1) → iR a2 (0) (3) → iR a3 (1) (64) → iR a4 (0) (1) → 1 ≤ (L (nn a1)) → (L (nn a1)) ≤ 4 → 0 ≤ (nn a1) → (nn a1) ≤ 1 → 0 ≤ (nn a2) → (nn a2) ≤ 3 → (nn a2) + 1 ≤ L (nn a1) → iR a2 (-1) ((L (nn a1) : Int) - 1) → W p l e (rmk 4 160) s m ([.ref (E.2.1 + 1076), .int a1, .int a2, .int a3, .int a4] : List Value).toArray below meth c H locs 0 0 (MQ below (cI E (fun v ρ1 => RI r Bt M L X ρ1)) ([.ref (E.2.1 + 1076), .int a1, .int a2, .int a3, .int a4] : List Value).toArray s 0 0 (hA E)) (F0 m 45 ls []) := by
    intro ls ρ H locs d45
    induction d45 generalizing ls ρ H locs with
    | zero => intro x45_5 j45_6 hl hP hS hI hd45 hx45_5 lj45_6 uj45_6 f_M__nn_a1__ fa1 fa2 fa3 fa4 tl_L__nn_a1__ tu_L__nn_a1__ tl_nn_a1_ tu_nn_a1_ tl_nn_a2_ tu_nn_a2_ hr45_0 hr45_1; exact absurd hd45 (Nat.not_lt_zero _)
    | succ d45 ih45 =>
      intro x45_5 j45_6 hl hP hS hI hd45 hx45_5 lj45_6 uj45_6 f_M__nn_a1__ fa1 fa2 fa3 fa4 tl_L__nn_a1__ tu_L__nn_a1__ tl_nn_a1_ tu_nn_a1_ tl_nn_a2_ tu_nn_a2_ hr45_0 hr45_1
      refine lv_iload hx hb dX7_odds_45 (lv_at hl 6 rfl) ?_
      refine lv_iload_n hx hb dX7_odds_47 rfl (lv_at hl 3 rfl) ?_
      have := nn_r (x := a3) (a := 1) (b := 64) fa3 (by decide)
      refine lv_topi (fun z483 ez483 => ?_)
      obtain rfl : z483 = nI (nn a3) := ez483.trans (nn_eq a3)
      refine lv_icmp_ge (tgt := 95) hx hb dX7_odds_48 (by decide) (fun c484 => ?_) (fun c484 => ?_)
      · skip
        have n485 := mt (nx_lt (a := j45_6) (b := (nn a3)) (by omega) (by omega)).mpr (show ¬ (nI j45_6 < nI (nn a3)) from (Int32.not_lt.mpr c484))
        refine lv_iload hx hb dX7_odds_95 (lv_at hl 4 rfl) ?_
        have := nn_r (x := a4) (a := 0) (b := 1) fa4 (by decide)
        refine lv_topi (fun z486 ez486 => ?_)
        obtain rfl : z486 = nI (nn a4) := ez486.trans (nn_eq a4)
        refine lv_if_ne (tgt := 105) hx hb dX7_odds_97 (by decide) (fun c487 => ?_) (fun c487 => ?_)
        · skip
          have n488 := mt (nI_eq (a := (nn a4)) (b := 0) (by omega) (by omega)).mpr (show ¬ (nI (nn a4) = nI 0) from c487)
          refine lv_sipush (v := 256) hx hb dX7_odds_105 (by decide) ?_
          refine lv_iload_n hx hb dX7_odds_108 rfl (lv_at hl 3 rfl) ?_
          refine lv_topi (fun z489 ez489 => ?_)
          obtain rfl : z489 = nI (nn a3) := ez489.trans (nn_eq a3)
          refine lv_imul hx hb dX7_odds_109 ?_
          refine lv_topi (fun z490 ez490 => ?_)
          obtain rfl : z490 = (nI (256 * (nn a3))) := ez490.trans (by rw [show 256 = nI 256 from rfl, show (nI (nn a3)) = nI (nn a3) from rfl, nI_mul] <;> exact congrArg nI (by omega))
          exact b110_0 ls ρ _ _ (x45_5 : Int32) ((nI (256 * (nn a3))) : Int32) (lv_sub hl [3, 5] rfl) hP hS hI (iR_w hx45_5 (by decide) (by decide)) (iR_w (nI_iR (j := (256 * (nn a3))) (a := 256) (b := 16384) (by omega) (by omega) (by omega)) (by decide) (by decide)) (iR_w f_M__nn_a1__ (by decide) (by decide)) (iR_w fa1 (by decide) (by decide)) (iR_w fa2 (by decide) (by decide)) (iR_w fa3 (by decide) (by decide)) (iR_w fa4 (by decide) (by decide)) (by omega) (by omega) (by omega) (by omega) (by omega) (by omega) (by omega) (by omega) (by omega) (by omega) (by omega)
        · skip
          have n491 := (nI_eq (a := (nn a4)) (b := 0) (by omega) (by omega)).mp (show (nI (nn a4) = nI 0) from c487)
          refine lv_iload hx hb dX7_odds_100 (lv_at hl 5 rfl) ?_
          refine lv_goto (tgt := 110) hx hb dX7_odds_102 (by decide) ?_
          exact b110_0 ls ρ _ _ (x45_5 : Int32) (x45_5 : Int32) (lv_sub hl [3, 5] rfl) hP hS hI (iR_w hx45_5 (by decide) (by decide)) (iR_w hx45_5 (by decide) (by decide)) (iR_w f_M__nn_a1__ (by decide) (by decide)) (iR_w fa1 (by decide) (by decide)) (iR_w fa2 (by decide) (by decide)) (iR_w fa3 (by decide) (by decide)) (iR_w fa4 (by decide) (by decide)) (by omega) (by omega) (by omega) (by omega) (by omega) (by omega) (by omega) (by omega) (by omega) (by omega) (by omega)
      · skip
        have n492 := (nx_lt (a := j45_6) (b := (nn a3)) (by omega) (by omega)).mp (show (nI j45_6 < nI (nn a3)) from (Int32.not_le.mp c484))
        refine lv_aload_n hx hb dX7_odds_51 rfl (lv_at hl 0 rfl) ?_
        refine get7 B hP (show hk 1076 = 7 by decide +kernel) 3 (by decide) mw_1030 rfl dX7_odds_52 ?_
        refine lv_bipush (v := 7) hx hb dX7_odds_55 (by decide) ?_
        refine aldn (n := 695) (j := 7) B hP (show hk 1078 = 8 by decide +kernel) (show hlen 1078 = 695 by decide +kernel) rfl (by omega) (by decide) dX7_odds_57 ?_
        have i493 : iR (ρ 1078 7) (0) (1000000) := (iR_w (g_time hI) (by omega) (by omega))
        obtain ⟨j494, lj494, uj494, ej494⟩ := iR_nat (a := 0) (b := 1000000) i493
        refine lv_topi (fun z495 ez495 => ?_)
        obtain rfl : z495 = nI j494 := ez495.trans ej494
        refine lv_iconst (v := 2) hx hb dX7_odds_58 (by decide) ?_
        refine lv_iload hx hb dX7_odds_59 (lv_at hl 6 rfl) ?_
        refine lv_imul hx hb dX7_odds_61 ?_
        refine lv_topi (fun z496 ez496 => ?_)
        obtain rfl : z496 = (nI (2 * j45_6)) := ez496.trans (by rw [show 2 = nI 2 from rfl, show (nI j45_6) = nI j45_6 from rfl, nI_mul] <;> exact congrArg nI (by omega))
        refine lv_iadd hx hb dX7_odds_62 ?_
        refine lv_topi (fun z497 ez497 => ?_)
        obtain rfl : z497 = (nI (2 * j45_6 + j494)) := ez497.trans (by rw [show (nI j494) = nI j494 from rfl, show (nI (2 * j45_6)) = nI (2 * j45_6) from rfl, nI_add] <;> exact congrArg nI (by omega))
        refine lv_istore (lv' := [(7, .int (nI (2 * j45_6 + j494))), (0, .ref (E.2.1 + 1076)), (1, .int a1), (2, .int a2), (3, .int a3), (4, .int a4), (5, .int x45_5), (6, .int (nI j45_6))]) hx hb dX7_odds_63 hl (by decide) rfl (fun ls hl => ?_)
        refine lv_iload hx hb dX7_odds_65 (lv_at hl 6 rfl) ?_
        refine lv_aload_n hx hb dX7_odds_67 rfl (lv_at hl 1 rfl) ?_
        refine lv_iload_n hx hb dX7_odds_68 rfl (lv_at hl 2 rfl) ?_
        have := nn_r (x := a1) (a := 0) (b := 1) fa1 (by decide)
        refine lv_topi (fun z498 ez498 => ?_)
        obtain rfl : z498 = nI (nn a1) := ez498.trans (nn_eq a1)
        refine lv_iload_n hx hb dX7_odds_69 rfl (lv_at hl 3 rfl) ?_
        have := nn_r (x := a2) (a := 0) (b := 3) fa2 (by decide)
        refine lv_topi (fun z499 ez499 => ?_)
        obtain rfl : z499 = nI (nn a2) := ez499.trans (nn_eq a2)
        refine lv_iload hx hb dX7_odds_70 (lv_at hl 0 rfl) ?_
        refine call_i (cVt (k := 1076) (av := [.int (nI (nn a1)), .int (nI (nn a2)), .int (nI (2 * j45_6 + j494))]) (rest := [.int x45_5]) B hP hS (d_X7_chance l E ρ r Bt hBt M L X (nn a1) (by omega) (by omega) (nn a2) (by omega) (by omega) (nI (2 * j45_6 + j494)) hI f_M__nn_a1__ (by omega)) lk_RX7_251 (hrecv (ci := 7) B hP (hk_lt (c := 7) (show hk 1076 = 7 by decide +kernel) (by decide)) (hcc7 _ _ (show hk 1076 = 7 by decide +kernel)) rfl) rfl rfl hl.1 (Nat.le_of_ble_eq_true rfl) ⟨Nat.le_of_ble_eq_true rfl, Nat.le_of_ble_eq_true rfl⟩ ⟨Nat.le_of_ble_eq_true rfl, Nat.le_of_ble_eq_true rfl⟩ dX7_odds_72) hS (fun r500 ρ501 H locs q502 hP hS => ?_)
        obtain ⟨rfl, hI⟩ := q502
        refine lv_aload_n hx hb dX7_odds_75 rfl (lv_at hl 1 rfl) ?_
        refine lv_iload_n hx hb dX7_odds_76 rfl (lv_at hl 2 rfl) ?_
        refine lv_topi (fun z503 ez503 => ?_)
        obtain rfl : z503 = nI (nn a1) := ez503.trans (nn_eq a1)
        refine lv_iload_n hx hb dX7_odds_77 rfl (lv_at hl 3 rfl) ?_
        refine lv_topi (fun z504 ez504 => ?_)
        obtain rfl : z504 = nI (nn a2) := ez504.trans (nn_eq a2)
        refine lv_iload hx hb dX7_odds_78 (lv_at hl 0 rfl) ?_
        refine lv_iconst (v := 1) hx hb dX7_odds_80 (by decide) ?_
        refine lv_iadd hx hb dX7_odds_81 ?_
        refine lv_topi (fun z505 ez505 => ?_)
        obtain rfl : z505 = (nI (1 + 2 * j45_6 + j494)) := ez505.trans (by rw [show (nI (2 * j45_6 + j494)) = nI (2 * j45_6 + j494) from rfl, show 1 = nI 1 from rfl, nI_add] <;> exact congrArg nI (by omega))
        refine call_i (cVt (k := 1076) (av := [.int (nI (nn a1)), .int (nI (nn a2)), .int (nI (1 + 2 * j45_6 + j494))]) (rest := [.int r500, .int x45_5]) B hP hS (d_X7_chance l E ρ r Bt hBt M L X (nn a1) (by omega) (by omega) (nn a2) (by omega) (by omega) (nI (1 + 2 * j45_6 + j494)) hI f_M__nn_a1__ (by omega)) lk_RX7_251 (hrecv (ci := 7) B hP (hk_lt (c := 7) (show hk 1076 = 7 by decide +kernel) (by decide)) (hcc7 _ _ (show hk 1076 = 7 by decide +kernel)) rfl) rfl rfl hl.1 (Nat.le_of_ble_eq_true rfl) ⟨Nat.le_of_ble_eq_true rfl, Nat.le_of_ble_eq_true rfl⟩ ⟨Nat.le_of_ble_eq_true rfl, Nat.le_of_ble_eq_true rfl⟩ dX7_odds_82) hS (fun r506 ρ507 H locs q508 hP hS => ?_)
        obtain ⟨rfl, hI⟩ := q508
        refine lv_imul hx hb dX7_odds_85 ?_
        refine lv_iadd hx hb dX7_odds_86 ?_
        refine lv_istore (lv' := [(5, .int (x45_5 + (r500 * r506))), (7, .int (nI (2 * j45_6 + j494))), (0, .ref (E.2.1 + 1076)), (1, .int a1), (2, .int a2), (3, .int a3), (4, .int a4), (6, .int (nI j45_6))]) hx hb dX7_odds_87 hl (by decide) rfl (fun ls hl => ?_)
        refine lv_iinc (v := (nI (1 + j45_6))) (lv' := [(6, .int (nI (1 + j45_6))), (5, .int (x45_5 + (r500 * r506))), (7, .int (nI (2 * j45_6 + j494))), (0, .ref (E.2.1 + 1076)), (1, .int a1), (2, .int a2), (3, .int a3), (4, .int a4)]) hx hb dX7_odds_89 hl (k := 7) rfl (show nI j45_6 + nI 1 = _ from (nI_add _ _).trans (congrArg nI (by omega))) (by decide) rfl (fun ls hl => ?_)
        refine lv_goto (tgt := 45) hx hb dX7_odds_92 (by decide) ?_
        exact ih45 ls ρ _ _ ((x45_5 + (r500 * r506)) : Int32) (1 + j45_6) (lv_sub hl [3, 4, 5, 6, 7, 1, 0] rfl) hP hS hI (by omega) (iR_w (iR_any (x45_5 + (r500 * r506))) (by decide) (by decide)) (by omega) (by omega) (iR_w f_M__nn_a1__ (by decide) (by decide)) (iR_w fa1 (by decide) (by decide)) (iR_w fa2 (by decide) (by decide)) (iR_w fa3 (by decide) (by decide)) (iR_w fa4 (by decide) (by decide)) (by omega) (by omega) (by omega) (by omega) (by omega) (by omega) (by omega) hr45_1
  refine lv_aload_n hx hb dX7_odds_0 rfl (lv_at hl 0 rfl) ?_
  refine lv_iconst (v := 0) hx hb dX7_odds_1 (by decide) ?_
  refine put7 B hP hS (show hk 1076 = 7 by decide +kernel) 0 (by decide) mw_1027 rfl rfl rfl (fs7_0 E 1076 _ _) dX7_odds_2 (fun H locs hP hS => ?_)
  obtain ⟨ρ509, e510⟩ : ∃ z, z = up ρ 1076 0 0 := ⟨_, rfl⟩
  rw [← e510] at hP
  have hI : RI r Bt M L X ρ509 := by rw [e510]; exact RI_76 hI (by decide)
  refine lv_aload_n hx hb dX7_odds_5 rfl (lv_at hl 0 rfl) ?_
  refine lv_iload_n hx hb dX7_odds_6 rfl (lv_at hl 1 rfl) ?_
  refine lv_iload_n hx hb dX7_odds_7 rfl (lv_at hl 2 rfl) ?_
  refine call_i (cVt (k := 1076) (av := [.int a1, .int a2]) (rest := []) B hP hS (d_X7_isLink l E ρ509 r Bt hBt M L X a1 a2 hI) lk_RX7_106 (hrecv (ci := 7) B hP (hk_lt (c := 7) (show hk 1076 = 7 by decide +kernel) (by decide)) (hcc7 _ _ (show hk 1076 = 7 by decide +kernel)) rfl) rfl rfl hl.1 (Nat.le_of_ble_eq_true rfl) ⟨Nat.le_of_ble_eq_true rfl, Nat.le_of_ble_eq_true rfl⟩ ⟨Nat.le_of_ble_eq_true rfl, Nat.le_of_ble_eq_true rfl⟩ dX7_odds_8) hS (fun r511 ρ512 H locs q513 hP hS => ?_)
  obtain ⟨rfl, hI, q513⟩ := q513
  rcases q513 with rfl | ⟨rfl, j514, hj514, ej514, i515, j516, hj516, ej516⟩
  · skip
    refine lv_if_eq (tgt := 37) hx hb dX7_odds_11 (by decide) (fun _ => ?_) (fun c517 => absurd rfl c517)
    refine lv_iconst (v := (-1)) hx hb dX7_odds_37 (by decide) ?_
    exact ret_i B hr hlk hP hS dX7_odds_38 (hI)
  · skip
    have := RI_Lb hI hj514
    have n518 : nn a1 = j514 := nn_u ej514 (by omega)
    have i519 : iR (M (nn a1)) 0 5 := by rw [n518]; exact i515
    have : j516 < L (nn a1) := by rw [n518]; exact hj516
    have := RI_Lb (n := (nn a1)) hI (by omega)
    have n520 : nn a2 = j516 := nn_u ej516 (by omega)
    refine lv_if_eq (tgt := 37) hx hb dX7_odds_11 (by decide) (fun c521 => absurd c521 (iR_ne (show iR 1 (1) (1) from ⟨by decide, by decide⟩) (show iR 0 (0) (0) from ⟨by decide, by decide⟩) (by decide))) (fun _ => ?_)
    refine lv_iload_n hx hb dX7_odds_14 rfl (lv_at hl 3 rfl) ?_
    refine lv_i2l hx hb dX7_odds_15 rfl ?_
    refine lv_lconst (v := 1) hx hb dX7_odds_16 (by decide) ?_
    refine lv_ldc2 (v := 64) hx hb hown (hts _ mw_1382) dX7_odds_17 ?_
    refine call_i (cS (av := [.long a3.toInt64, .long 1, .long 64]) (rest := []) B hP hS (c_in l E ρ509 a3.toInt64 1 64 1 64 (by decide) (by decide)) lk_RX7_71 rfl rfl hl.1 (Nat.le_of_ble_eq_true rfl) ⟨Nat.le_of_ble_eq_true rfl, Nat.le_of_ble_eq_true rfl⟩ ⟨Nat.le_of_ble_eq_true rfl, Nat.le_of_ble_eq_true rfl⟩ dX7_odds_20) hS (fun r522 ρ523 H locs q524 hP hS => ?_)
    obtain ⟨rfl, q524⟩ := q524
    rcases q524 with ⟨rfl, q524⟩ | ⟨rfl, q524⟩
    · skip
      have i525 : iR a3 1 64 := (lR_i _ _ _).mp q524
      refine lv_if_eq (tgt := 37) hx hb dX7_odds_23 (by decide) (fun c526 => absurd c526 (iR_ne (show iR 1 (1) (1) from ⟨by decide, by decide⟩) (show iR 0 (0) (0) from ⟨by decide, by decide⟩) (by decide))) (fun _ => ?_)
      refine lv_iload hx hb dX7_odds_26 (lv_at hl 4 rfl) ?_
      refine lv_i2l hx hb dX7_odds_28 rfl ?_
      refine lv_lconst (v := 0) hx hb dX7_odds_29 (by decide) ?_
      refine lv_lconst (v := 1) hx hb dX7_odds_30 (by decide) ?_
      refine call_i (cS (av := [.long a4.toInt64, .long 0, .long 1]) (rest := []) B hP hS (c_in l E ρ509 a4.toInt64 0 1 0 1 (by decide) (by decide)) lk_RX7_71 rfl rfl hl.1 (Nat.le_of_ble_eq_true rfl) ⟨Nat.le_of_ble_eq_true rfl, Nat.le_of_ble_eq_true rfl⟩ ⟨Nat.le_of_ble_eq_true rfl, Nat.le_of_ble_eq_true rfl⟩ dX7_odds_31) hS (fun r527 ρ528 H locs q529 hP hS => ?_)
      obtain ⟨rfl, q529⟩ := q529
      rcases q529 with ⟨rfl, q529⟩ | ⟨rfl, q529⟩
      · skip
        have i530 : iR a4 0 1 := (lR_i _ _ _).mp q529
        refine lv_if_ne (tgt := 39) hx hb dX7_odds_34 (by decide) (fun _ => ?_) (fun c531 => absurd c531 (iR_ne (show iR 1 (1) (1) from ⟨by decide, by decide⟩) (show iR 0 (0) (0) from ⟨by decide, by decide⟩) (by decide)))
        refine lv_iconst (v := 0) hx hb dX7_odds_39 (by decide) ?_
        refine lv_istore (lv' := [(5, .int 0), (0, .ref (E.2.1 + 1076)), (1, .int a1), (2, .int a2), (3, .int a3), (4, .int a4)]) hx hb dX7_odds_40 hl (by decide) rfl (fun ls hl => ?_)
        refine lv_iconst (v := 0) hx hb dX7_odds_42 (by decide) ?_
        refine lv_istore (lv' := [(6, .int 0), (5, .int 0), (0, .ref (E.2.1 + 1076)), (1, .int a1), (2, .int a2), (3, .int a3), (4, .int a4)]) hx hb dX7_odds_43 hl (by decide) rfl (fun ls hl => ?_)
        exact b45_0 ls ρ509 _ _ _ (0 : Int32) 0 (lv_sub hl [2, 3, 4, 5, 6, 1, 0] rfl) hP hS hI (Nat.lt_succ_self _) (iR_w (show iR 0 (0) (0) from ⟨by decide, by decide⟩) (by decide) (by decide)) (by omega) (by omega) (iR_w i519 (by decide) (by decide)) (iR_w (show iR a1 0 1 from by rw [ej514]; exact nI_iR (by omega) (by omega) (by omega)) (by decide) (by decide)) (iR_w (show iR a2 0 3 from by rw [ej516]; exact nI_iR (by omega) (by omega) (by omega)) (by decide) (by decide)) (iR_w i525 (by decide) (by decide)) (iR_w i530 (by decide) (by decide)) (by omega) (by omega) (by omega) (by omega) (by omega) (by omega) (by omega) (show iR a2 (-1) ((L (nn a1) : Int) - 1) from by rw [ej516]; exact rl_nat (k := j516) (by omega) (by omega))
      · skip
        refine lv_if_ne (tgt := 39) hx hb dX7_odds_34 (by decide) (fun c532 => absurd rfl c532) (fun _ => ?_)
        refine lv_iconst (v := (-1)) hx hb dX7_odds_37 (by decide) ?_
        exact ret_i B hr hlk hP hS dX7_odds_38 (hI)
    · skip
      refine lv_if_eq (tgt := 37) hx hb dX7_odds_23 (by decide) (fun _ => ?_) (fun c533 => absurd rfl c533)
      refine lv_iconst (v := (-1)) hx hb dX7_odds_37 (by decide) ?_
      exact ret_i B hr hlk hP hS dX7_odds_38 (hI)

set_option maxHeartbeats 4000000 in
set_option maxRecDepth 100000 in
theorem d_X7_kernel (l : Launch) (E : hE) (ρ r : Nat → Nat → Int32) (Bt : Nat) (hBt : Bt ≤ 1000000) (M : Nat → Int32) (L : Nat → Nat) (X : Nat × Nat → Prop) (a1 : Int32) (a2 : Int32) (hI : RI r Bt M L X ρ) : Met l yX7_kernel (.code yX7_kernel cX7_kernel 3 (some .int) :: gw_all) (rmk 1 40) (cPre E ρ [.ref (E.2.1 + 1076), .int a1, .int a2]) (cI E (fun v ρ1 => RI r Bt M L X ρ1 ∧ (((iR a1 0 268435455 ∧ iR a2 0 999999) ∧ v = KER a1 a2) ∨ (¬ (iR a1 0 268435455 ∧ iR a2 0 999999) ∧ v = -1)))) 0 0 (hA E) := by
  refine ent (own := RX7) (by decide) rfl (Nat.le_of_ble_eq_true rfl) ?_
  intro p e s m below meth c ls B hr hlk hl hP hS
  have hx := B.1.1
  have hb := B.1.2.1
  have hown := B.1.2.2.2.1
  have hts := B.1.2.2.2.2
  have hl : lv_has ls 3 [(0, .ref (E.2.1 + 1076)), (1, .int a1), (2, .int a2)] := hl
  refine lv_aload_n hx hb dX7_kernel_0 rfl (lv_at hl 0 rfl) ?_
  refine lv_iconst (v := 0) hx hb dX7_kernel_1 (by decide) ?_
  refine put7 B hP hS (show hk 1076 = 7 by decide +kernel) 0 (by decide) mw_1027 rfl rfl rfl (fs7_0 E 1076 _ _) dX7_kernel_2 (fun H locs hP hS => ?_)
  obtain ⟨ρ20, e21⟩ : ∃ z, z = up ρ 1076 0 0 := ⟨_, rfl⟩
  rw [← e21] at hP
  have hI : RI r Bt M L X ρ20 := by rw [e21]; exact RI_76 hI (by decide)
  refine lv_iload_n hx hb dX7_kernel_5 rfl (lv_at hl 1 rfl) ?_
  refine lv_i2l hx hb dX7_kernel_6 rfl ?_
  refine lv_lconst (v := 0) hx hb dX7_kernel_7 (by decide) ?_
  refine lv_ldc2 (v := 268435455) hx hb hown (hts _ mw_1112) dX7_kernel_8 ?_
  refine call_i (cS (av := [.long a1.toInt64, .long 0, .long 268435455]) (rest := []) B hP hS (c_in l E ρ20 a1.toInt64 0 268435455 0 268435455 (by decide) (by decide)) lk_RX7_71 rfl rfl hl.1 (Nat.le_of_ble_eq_true rfl) ⟨Nat.le_of_ble_eq_true rfl, Nat.le_of_ble_eq_true rfl⟩ ⟨Nat.le_of_ble_eq_true rfl, Nat.le_of_ble_eq_true rfl⟩ dX7_kernel_11) hS (fun r22 ρ23 H locs q24 hP hS => ?_)
  obtain ⟨rfl, q24⟩ := q24
  rcases q24 with ⟨rfl, q24⟩ | ⟨rfl, q24⟩
  · skip
    have i25 : iR a1 0 268435455 := (lR_i _ _ _).mp q24
    refine lv_if_eq (tgt := 37) hx hb dX7_kernel_14 (by decide) (fun c26 => absurd c26 (iR_ne (show iR 1 (1) (1) from ⟨by decide, by decide⟩) (show iR 0 (0) (0) from ⟨by decide, by decide⟩) (by decide))) (fun _ => ?_)
    refine lv_iload_n hx hb dX7_kernel_17 rfl (lv_at hl 2 rfl) ?_
    refine lv_i2l hx hb dX7_kernel_18 rfl ?_
    refine lv_lconst (v := 0) hx hb dX7_kernel_19 (by decide) ?_
    refine lv_ldc2 (v := 999999) hx hb hown (hts _ mw_1113) dX7_kernel_20 ?_
    refine call_i (cS (av := [.long a2.toInt64, .long 0, .long 999999]) (rest := []) B hP hS (c_in l E ρ20 a2.toInt64 0 999999 0 999999 (by decide) (by decide)) lk_RX7_71 rfl rfl hl.1 (Nat.le_of_ble_eq_true rfl) ⟨Nat.le_of_ble_eq_true rfl, Nat.le_of_ble_eq_true rfl⟩ ⟨Nat.le_of_ble_eq_true rfl, Nat.le_of_ble_eq_true rfl⟩ dX7_kernel_23) hS (fun r27 ρ28 H locs q29 hP hS => ?_)
    obtain ⟨rfl, q29⟩ := q29
    rcases q29 with ⟨rfl, q29⟩ | ⟨rfl, q29⟩
    · skip
      have i30 : iR a2 0 999999 := (lR_i _ _ _).mp q29
      refine lv_if_eq (tgt := 37) hx hb dX7_kernel_26 (by decide) (fun c31 => absurd c31 (iR_ne (show iR 1 (1) (1) from ⟨by decide, by decide⟩) (show iR 0 (0) (0) from ⟨by decide, by decide⟩) (by decide))) (fun _ => ?_)
      refine lv_iload_n hx hb dX7_kernel_29 rfl (lv_at hl 1 rfl) ?_
      refine lv_iload_n hx hb dX7_kernel_30 rfl (lv_at hl 2 rfl) ?_
      refine call_i (cS (av := [.int a1, .int a2]) (rest := []) B hP hS (c_kernelOf l E ρ20 a1 a2) lk_RX7_96 rfl rfl hl.1 (Nat.le_of_ble_eq_true rfl) ⟨Nat.le_of_ble_eq_true rfl, Nat.le_of_ble_eq_true rfl⟩ ⟨Nat.le_of_ble_eq_true rfl, Nat.le_of_ble_eq_true rfl⟩ dX7_kernel_31) hS (fun r32 ρ33 H locs q34 hP hS => ?_)
      obtain ⟨rfl, rfl⟩ := q34
      obtain ⟨j35, lj35, uj35, ej35⟩ := iR_nat (a := 0) (b := 22) (KER_rng a1 a2)
      refine lv_topi (fun z36 ez36 => ?_)
      obtain rfl : z36 = nI j35 := ez36.trans ej35
      refine lv_goto (tgt := 38) hx hb dX7_kernel_34 (by decide) ?_
      exact ret_i B hr hlk hP hS dX7_kernel_38 (⟨hI, (Or.inl ⟨⟨(lR_i _ _ _).mp q24, (lR_i _ _ _).mp q29⟩, ej35.symm⟩)⟩)
    · skip
      refine lv_if_eq (tgt := 37) hx hb dX7_kernel_26 (by decide) (fun _ => ?_) (fun c37 => absurd rfl c37)
      refine lv_iconst (v := (-1)) hx hb dX7_kernel_37 (by decide) ?_
      exact ret_i B hr hlk hP hS dX7_kernel_38 (⟨hI, (Or.inr ⟨fun z => absurd z.2 (fun y => q29 ((lR_i _ _ _).mpr y)), rfl⟩)⟩)
  · skip
    refine lv_if_eq (tgt := 37) hx hb dX7_kernel_14 (by decide) (fun _ => ?_) (fun c38 => absurd rfl c38)
    refine lv_iconst (v := (-1)) hx hb dX7_kernel_37 (by decide) ?_
    exact ret_i B hr hlk hP hS dX7_kernel_38 (⟨hI, (Or.inr ⟨fun z => absurd z.1 (fun y => q24 ((lR_i _ _ _).mpr y)), rfl⟩)⟩)
