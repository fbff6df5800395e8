
/-- the reference's cells are new -/
def MF (ρ : Nat → Nat → Int32) : Prop := ∀ k, 1076 ≤ k → ρ k = r0 k
/-- what a turn without nets changes -/
def TU (ρ ρ1 : Nat → Nat → Int32) : Prop := (∀ k, k ≠ 1078 → k ≠ 1084 → k ≠ 1085 → k ≠ 1086 → k ≠ 1089 → ρ1 k = ρ k) ∧ ∀ j, j ≠ 7 → ρ1 1078 j = ρ 1078 j
theorem TU.trans {a b c : Nat → Nat → Int32} (h : TU a b) (h2 : TU b c) : TU a c :=
  ⟨fun k h1 h3 h4 h5 h6 => (h2.1 k h1 h3 h4 h5 h6).trans (h.1 k h1 h3 h4 h5 h6), fun j hj => (h2.2 j hj).trans (h.2 j hj)⟩
theorem iR_no {v : Int32} {P : Prop} (h : iR v 0 (-1)) : P := by have h1 := h.1; have h2 := h.2; omega
theorem tm_w0 {w v : Int32} (c : w = 0) (q : iR v 0 1000000) : tm w v := tm_0 (by rw [c]; rfl) q
theorem tm_wn0 {w v : Int32} (c : w = 0) (q : ¬ iR v 0 1000000) : ¬ tm w v := tm_n0 (by rw [c]; rfl) q
theorem tm_w1 {w v : Int32} (c : w = 1) (q : iR v 0 32 ∧ ev v) : tm w v := tm_1 (by rw [c]; rfl) q
theorem tm_wn1 {w v : Int32} (c : w = 1) (q : ¬ (iR v 0 32 ∧ ev v)) : ¬ tm w v := tm_n1 (by rw [c]; rfl) q
theorem w_two {w : Int32} (h : iR w 0 2) (h0 : ¬ w = 0) (h1 : ¬ w = 1) : w.toInt = 2 := by
  have g0 : ¬ w.toInt = 0 := fun z => h0 (Int32.toInt_inj.mp (z.trans rfl))
  have g1 : ¬ w.toInt = 1 := fun z => h1 (Int32.toInt_inj.mp (z.trans rfl))
  have := h.1
  have := h.2
  omega
theorem tm_big {w v : Int32} (h : ¬ iR w 0 2) : ¬ tm w v := by
  unfold iR at h
  rintro (z | z | z) <;> omega
theorem cnt_mid {w : Int32} (h : iR w 10 17) : (0 : Int32) = cnt w.toInt := by
  have h1 := h.1
  have h2 := h.2
  unfold cnt
  rw [if_neg (by omega), if_neg (by omega), if_neg (by omega), if_pos (by omega)]
theorem w_eq {w : Int32} {n : Nat} (h : w.toInt = n) (hn : n < 2 ^ 31) : w = nI n := Int32.toInt_inj.mp (by rw [h, nI_toInt hn])

theorem cp_in {ρ ρ1 : Nat → Nat → Int32} {ka kb p1 q1 i j : Nat} (hne : ka ≠ kb) (hQ : ∀ k, k ≠ kb → ρ1 k = ρ k) (hA1 : ∀ j, j < i → ρ1 kb (q1 + j) = ρ ka (p1 + j)) (hj : j < i + 1) : up ρ1 kb (q1 + i) (ρ1 ka (p1 + i)) kb (q1 + j) = ρ ka (p1 + j) := by
  by_cases e : j = i
  · subst e
    rw [up_get_at, hQ ka hne]
  · exact up_get_ne (Or.inr (by omega)) (hA1 j (by omega))

theorem r0_row {j : Nat} (h : 11 ≤ j) (h2 : j < 42) : r0 1078 j = 0 := by
  have e : hk 1078 = 8 := by decide +kernel
  unfold r0
  rw [e, if_neg (by decide), if_neg (by decide), if_neg (by decide), if_neg (by decide), if_pos rfl, if_neg (by omega), if_neg (by omega), if_neg (by omega), if_neg (by omega)]

theorem ix_cnt (j : Nat) : 11 + nI j - 10 = nI (j + 1) := by
  rw [show (11 : Int32) + nI j = nI (11 + j) from nI_add 11 j, show (10 : Int32) = nI 10 from rfl, pk_sub (by omega), show 11 + j - 10 = j + 1 by omega]
theorem dX7_in_0 : decode cX7_in 0 = .ok (.lload_n 0, 1) := by decide +kernel
theorem dX7_in_1 : decode cX7_in 1 = .ok (.lload_n 2, 1) := by decide +kernel
theorem dX7_in_2 : decode cX7_in 2 = .ok (.lcmp, 1) := by decide +kernel
theorem dX7_in_3 : decode cX7_in 3 = .ok (.ifCond .lt 14, 3) := by decide +kernel
theorem dX7_in_6 : decode cX7_in 6 = .ok (.lload_n 0, 1) := by decide +kernel
theorem dX7_in_7 : decode cX7_in 7 = .ok (.lload 4, 2) := by decide +kernel
theorem dX7_in_9 : decode cX7_in 9 = .ok (.lcmp, 1) := by decide +kernel
theorem dX7_in_10 : decode cX7_in 10 = .ok (.ifCond .gt 7, 3) := by decide +kernel
theorem dX7_in_13 : decode cX7_in 13 = .ok (.iconst 1, 1) := by decide +kernel
theorem dX7_in_14 : decode cX7_in 14 = .ok (.goto 4, 3) := by decide +kernel
theorem dX7_in_17 : decode cX7_in 17 = .ok (.iconst 0, 1) := by decide +kernel
theorem dX7_in_18 : decode cX7_in 18 = .ok (.ireturn, 1) := by decide +kernel
theorem dX7_isEven_0 : decode cX7_isEven 0 = .ok (.iload_n 0, 1) := by decide +kernel
theorem dX7_isEven_1 : decode cX7_isEven 1 = .ok (.i2l, 1) := by decide +kernel
theorem dX7_isEven_2 : decode cX7_isEven 2 = .ok (.iload_n 1, 1) := by decide +kernel
theorem dX7_isEven_3 : decode cX7_isEven 3 = .ok (.i2l, 1) := by decide +kernel
theorem dX7_isEven_4 : decode cX7_isEven 4 = .ok (.iload_n 2, 1) := by decide +kernel
theorem dX7_isEven_5 : decode cX7_isEven 5 = .ok (.i2l, 1) := by decide +kernel
theorem dX7_isEven_6 : decode cX7_isEven 6 = .ok (.invokestatic 71, 3) := by decide +kernel
theorem dX7_isEven_9 : decode cX7_isEven 9 = .ok (.ifCond .eq 13, 3) := by decide +kernel
theorem dX7_isEven_12 : decode cX7_isEven 12 = .ok (.iload_n 0, 1) := by decide +kernel
theorem dX7_isEven_13 : decode cX7_isEven 13 = .ok (.iconst 2, 1) := by decide +kernel
theorem dX7_isEven_14 : decode cX7_isEven 14 = .ok (.irem, 1) := by decide +kernel
theorem dX7_isEven_15 : decode cX7_isEven 15 = .ok (.ifCond .ne 7, 3) := by decide +kernel
theorem dX7_isEven_18 : decode cX7_isEven 18 = .ok (.iconst 1, 1) := by decide +kernel
theorem dX7_isEven_19 : decode cX7_isEven 19 = .ok (.goto 4, 3) := by decide +kernel
theorem dX7_isEven_22 : decode cX7_isEven 22 = .ok (.iconst 0, 1) := by decide +kernel
theorem dX7_isEven_23 : decode cX7_isEven 23 = .ok (.ireturn, 1) := by decide +kernel
theorem dX7_isShare_0 : decode cX7_isShare 0 = .ok (.iload_n 0, 1) := by decide +kernel
theorem dX7_isShare_1 : decode cX7_isShare 1 = .ok (.i2l, 1) := by decide +kernel
theorem dX7_isShare_2 : decode cX7_isShare 2 = .ok (.lconst 0, 1) := by decide +kernel
theorem dX7_isShare_3 : decode cX7_isShare 3 = .ok (.ldc2_w 132, 3) := by decide +kernel
theorem dX7_isShare_6 : decode cX7_isShare 6 = .ok (.invokestatic 71, 3) := by decide +kernel
theorem dX7_isShare_9 : decode cX7_isShare 9 = .ok (.ifCond .eq 13, 3) := by decide +kernel
theorem dX7_isShare_12 : decode cX7_isShare 12 = .ok (.iload_n 0, 1) := by decide +kernel
theorem dX7_isShare_13 : decode cX7_isShare 13 = .ok (.iconst 2, 1) := by decide +kernel
theorem dX7_isShare_14 : decode cX7_isShare 14 = .ok (.irem, 1) := by decide +kernel
theorem dX7_isShare_15 : decode cX7_isShare 15 = .ok (.ifCond .ne 7, 3) := by decide +kernel
theorem dX7_isShare_18 : decode cX7_isShare 18 = .ok (.iconst 1, 1) := by decide +kernel
theorem dX7_isShare_19 : decode cX7_isShare 19 = .ok (.goto 4, 3) := by decide +kernel
theorem dX7_isShare_22 : decode cX7_isShare 22 = .ok (.iconst 0, 1) := by decide +kernel
theorem dX7_isShare_23 : decode cX7_isShare 23 = .ok (.ireturn, 1) := by decide +kernel
theorem dX7_tell_0 : decode cX7_tell 0 = .ok (.aload_n 0, 1) := by decide +kernel
theorem dX7_tell_1 : decode cX7_tell 1 = .ok (.iconst 0, 1) := by decide +kernel
theorem dX7_tell_2 : decode cX7_tell 2 = .ok (.putfield 54, 3) := by decide +kernel
theorem dX7_tell_5 : decode cX7_tell 5 = .ok (.iload_n 1, 1) := by decide +kernel
theorem dX7_tell_6 : decode cX7_tell 6 = .ok (.ireturn, 1) := by decide +kernel
theorem dX7_refuse_0 : decode cX7_refuse 0 = .ok (.aload_n 0, 1) := by decide +kernel
theorem dX7_refuse_1 : decode cX7_refuse 1 = .ok (.iload_n 1, 1) := by decide +kernel
theorem dX7_refuse_2 : decode cX7_refuse 2 = .ok (.putfield 54, 3) := by decide +kernel
theorem dX7_refuse_5 : decode cX7_refuse 5 = .ok (.aload_n 0, 1) := by decide +kernel
theorem dX7_refuse_6 : decode cX7_refuse 6 = .ok (.getfield 7, 3) := by decide +kernel
theorem dX7_refuse_9 : decode cX7_refuse 9 = .ok (.iload_n 1, 1) := by decide +kernel
theorem dX7_refuse_10 : decode cX7_refuse 10 = .ok (.ineg, 1) := by decide +kernel
theorem dX7_refuse_11 : decode cX7_refuse 11 = .ok (.dup2, 1) := by decide +kernel
theorem dX7_refuse_12 : decode cX7_refuse 12 = .ok (.iaload, 1) := by decide +kernel
theorem dX7_refuse_13 : decode cX7_refuse 13 = .ok (.iconst 1, 1) := by decide +kernel
theorem dX7_refuse_14 : decode cX7_refuse 14 = .ok (.iadd, 1) := by decide +kernel
theorem dX7_refuse_15 : decode cX7_refuse 15 = .ok (.iastore, 1) := by decide +kernel
theorem dX7_refuse_16 : decode cX7_refuse 16 = .ok (.iload_n 1, 1) := by decide +kernel
theorem dX7_refuse_17 : decode cX7_refuse 17 = .ok (.ireturn, 1) := by decide +kernel
theorem dX7_netAt_0 : decode cX7_netAt 0 = .ok (.bipush 42, 2) := by decide +kernel
theorem dX7_netAt_2 : decode cX7_netAt 2 = .ok (.sipush 326, 3) := by decide +kernel
theorem dX7_netAt_5 : decode cX7_netAt 5 = .ok (.iload_n 0, 1) := by decide +kernel
theorem dX7_netAt_6 : decode cX7_netAt 6 = .ok (.imul, 1) := by decide +kernel
theorem dX7_netAt_7 : decode cX7_netAt 7 = .ok (.iadd, 1) := by decide +kernel
theorem dX7_netAt_8 : decode cX7_netAt 8 = .ok (.ireturn, 1) := by decide +kernel
theorem dX7_isNet_0 : decode cX7_isNet 0 = .ok (.iload_n 1, 1) := by decide +kernel
theorem dX7_isNet_1 : decode cX7_isNet 1 = .ok (.i2l, 1) := by decide +kernel
theorem dX7_isNet_2 : decode cX7_isNet 2 = .ok (.lconst 0, 1) := by decide +kernel
theorem dX7_isNet_3 : decode cX7_isNet 3 = .ok (.lconst 1, 1) := by decide +kernel
theorem dX7_isNet_4 : decode cX7_isNet 4 = .ok (.invokestatic 71, 3) := by decide +kernel
theorem dX7_isNet_7 : decode cX7_isNet 7 = .ok (.ifCond .eq 20, 3) := by decide +kernel
theorem dX7_isNet_10 : decode cX7_isNet 10 = .ok (.aload_n 0, 1) := by decide +kernel
theorem dX7_isNet_11 : decode cX7_isNet 11 = .ok (.getfield 13, 3) := by decide +kernel
theorem dX7_isNet_14 : decode cX7_isNet 14 = .ok (.iload_n 1, 1) := by decide +kernel
theorem dX7_isNet_15 : decode cX7_isNet 15 = .ok (.invokestatic 75, 3) := by decide +kernel
theorem dX7_isNet_18 : decode cX7_isNet 18 = .ok (.iaload, 1) := by decide +kernel
theorem dX7_isNet_19 : decode cX7_isNet 19 = .ok (.iconst (-1), 1) := by decide +kernel
theorem dX7_isNet_20 : decode cX7_isNet 20 = .ok (.if_icmp .eq 7, 3) := by decide +kernel
theorem dX7_isNet_23 : decode cX7_isNet 23 = .ok (.iconst 1, 1) := by decide +kernel
theorem dX7_isNet_24 : decode cX7_isNet 24 = .ok (.goto 4, 3) := by decide +kernel
theorem dX7_isNet_27 : decode cX7_isNet 27 = .ok (.iconst 0, 1) := by decide +kernel
theorem dX7_isNet_28 : decode cX7_isNet 28 = .ok (.ireturn, 1) := by decide +kernel
theorem dX7_isLink_0 : decode cX7_isLink 0 = .ok (.aload_n 0, 1) := by decide +kernel
theorem dX7_isLink_1 : decode cX7_isLink 1 = .ok (.iload_n 1, 1) := by decide +kernel
theorem dX7_isLink_2 : decode cX7_isLink 2 = .ok (.invokevirtual 78, 3) := by decide +kernel
theorem dX7_isLink_5 : decode cX7_isLink 5 = .ok (.ifCond .eq 31, 3) := by decide +kernel
theorem dX7_isLink_8 : decode cX7_isLink 8 = .ok (.iload_n 2, 1) := by decide +kernel
theorem dX7_isLink_9 : decode cX7_isLink 9 = .ok (.i2l, 1) := by decide +kernel
theorem dX7_isLink_10 : decode cX7_isLink 10 = .ok (.lconst 0, 1) := by decide +kernel
theorem dX7_isLink_11 : decode cX7_isLink 11 = .ok (.aload_n 0, 1) := by decide +kernel
theorem dX7_isLink_12 : decode cX7_isLink 12 = .ok (.getfield 13, 3) := by decide +kernel
theorem dX7_isLink_15 : decode cX7_isLink 15 = .ok (.iload_n 1, 1) := by decide +kernel
theorem dX7_isLink_16 : decode cX7_isLink 16 = .ok (.invokestatic 75, 3) := by decide +kernel
theorem dX7_isLink_19 : decode cX7_isLink 19 = .ok (.bipush 6, 2) := by decide +kernel
theorem dX7_isLink_21 : decode cX7_isLink 21 = .ok (.iadd, 1) := by decide +kernel
theorem dX7_isLink_22 : decode cX7_isLink 22 = .ok (.iaload, 1) := by decide +kernel
theorem dX7_isLink_23 : decode cX7_isLink 23 = .ok (.i2l, 1) := by decide +kernel
theorem dX7_isLink_24 : decode cX7_isLink 24 = .ok (.lconst 1, 1) := by decide +kernel
theorem dX7_isLink_25 : decode cX7_isLink 25 = .ok (.lsub, 1) := by decide +kernel
theorem dX7_isLink_26 : decode cX7_isLink 26 = .ok (.invokestatic 71, 3) := by decide +kernel
theorem dX7_isLink_29 : decode cX7_isLink 29 = .ok (.ifCond .eq 7, 3) := by decide +kernel
theorem dX7_isLink_32 : decode cX7_isLink 32 = .ok (.iconst 1, 1) := by decide +kernel
theorem dX7_isLink_33 : decode cX7_isLink 33 = .ok (.goto 4, 3) := by decide +kernel
theorem dX7_isLink_36 : decode cX7_isLink 36 = .ok (.iconst 0, 1) := by decide +kernel
theorem dX7_isLink_37 : decode cX7_isLink 37 = .ok (.ireturn, 1) := by decide +kernel
theorem dX7_areBoth_0 : decode cX7_areBoth 0 = .ok (.aload_n 0, 1) := by decide +kernel
theorem dX7_areBoth_1 : decode cX7_areBoth 1 = .ok (.iconst 0, 1) := by decide +kernel
theorem dX7_areBoth_2 : decode cX7_areBoth 2 = .ok (.invokevirtual 78, 3) := by decide +kernel
theorem dX7_areBoth_5 : decode cX7_areBoth 5 = .ok (.ifCond .eq 27, 3) := by decide +kernel
theorem dX7_areBoth_8 : decode cX7_areBoth 8 = .ok (.aload_n 0, 1) := by decide +kernel
theorem dX7_areBoth_9 : decode cX7_areBoth 9 = .ok (.iconst 1, 1) := by decide +kernel
theorem dX7_areBoth_10 : decode cX7_areBoth 10 = .ok (.invokevirtual 78, 3) := by decide +kernel
theorem dX7_areBoth_13 : decode cX7_areBoth 13 = .ok (.ifCond .eq 19, 3) := by decide +kernel
theorem dX7_areBoth_16 : decode cX7_areBoth 16 = .ok (.iload_n 1, 1) := by decide +kernel
theorem dX7_areBoth_17 : decode cX7_areBoth 17 = .ok (.i2l, 1) := by decide +kernel
theorem dX7_areBoth_18 : decode cX7_areBoth 18 = .ok (.lconst 1, 1) := by decide +kernel
theorem dX7_areBoth_19 : decode cX7_areBoth 19 = .ok (.ldc2_w 245, 3) := by decide +kernel
theorem dX7_areBoth_22 : decode cX7_areBoth 22 = .ok (.invokestatic 71, 3) := by decide +kernel
theorem dX7_areBoth_25 : decode cX7_areBoth 25 = .ok (.ifCond .eq 7, 3) := by decide +kernel
theorem dX7_areBoth_28 : decode cX7_areBoth 28 = .ok (.iconst 1, 1) := by decide +kernel
theorem dX7_areBoth_29 : decode cX7_areBoth 29 = .ok (.goto 4, 3) := by decide +kernel
theorem dX7_areBoth_32 : decode cX7_areBoth 32 = .ok (.iconst 0, 1) := by decide +kernel
theorem dX7_areBoth_33 : decode cX7_areBoth 33 = .ok (.ireturn, 1) := by decide +kernel
theorem dX7_otherMaps_0 : decode cX7_otherMaps 0 = .ok (.iconst 0, 1) := by decide +kernel
theorem dX7_otherMaps_1 : decode cX7_otherMaps 1 = .ok (.istore_n 1, 1) := by decide +kernel
theorem dX7_otherMaps_2 : decode cX7_otherMaps 2 = .ok (.iconst 0, 1) := by decide +kernel
theorem dX7_otherMaps_3 : decode cX7_otherMaps 3 = .ok (.istore_n 2, 1) := by decide +kernel
theorem dX7_otherMaps_4 : decode cX7_otherMaps 4 = .ok (.iload_n 2, 1) := by decide +kernel
theorem dX7_otherMaps_5 : decode cX7_otherMaps 5 = .ok (.iconst 2, 1) := by decide +kernel
theorem dX7_otherMaps_6 : decode cX7_otherMaps 6 = .ok (.if_icmp .ge 75, 3) := by decide +kernel
theorem dX7_otherMaps_9 : decode cX7_otherMaps 9 = .ok (.iconst 0, 1) := by decide +kernel
theorem dX7_otherMaps_10 : decode cX7_otherMaps 10 = .ok (.istore_n 3, 1) := by decide +kernel
theorem dX7_otherMaps_11 : decode cX7_otherMaps 11 = .ok (.aload_n 0, 1) := by decide +kernel
theorem dX7_otherMaps_12 : decode cX7_otherMaps 12 = .ok (.iload_n 2, 1) := by decide +kernel
theorem dX7_otherMaps_13 : decode cX7_otherMaps 13 = .ok (.invokevirtual 78, 3) := by decide +kernel
theorem dX7_otherMaps_16 : decode cX7_otherMaps 16 = .ok (.ifCond .eq 59, 3) := by decide +kernel
theorem dX7_otherMaps_19 : decode cX7_otherMaps 19 = .ok (.iload_n 3, 1) := by decide +kernel
theorem dX7_otherMaps_20 : decode cX7_otherMaps 20 = .ok (.aload_n 0, 1) := by decide +kernel
theorem dX7_otherMaps_21 : decode cX7_otherMaps 21 = .ok (.getfield 13, 3) := by decide +kernel
theorem dX7_otherMaps_24 : decode cX7_otherMaps 24 = .ok (.iload_n 2, 1) := by decide +kernel
theorem dX7_otherMaps_25 : decode cX7_otherMaps 25 = .ok (.invokestatic 75, 3) := by decide +kernel
theorem dX7_otherMaps_28 : decode cX7_otherMaps 28 = .ok (.bipush 6, 2) := by decide +kernel
theorem dX7_otherMaps_30 : decode cX7_otherMaps 30 = .ok (.iadd, 1) := by decide +kernel
theorem dX7_otherMaps_31 : decode cX7_otherMaps 31 = .ok (.iaload, 1) := by decide +kernel
theorem dX7_otherMaps_32 : decode cX7_otherMaps 32 = .ok (.if_icmp .ge 43, 3) := by decide +kernel
theorem dX7_otherMaps_35 : decode cX7_otherMaps 35 = .ok (.iload_n 1, 1) := by decide +kernel
theorem dX7_otherMaps_36 : decode cX7_otherMaps 36 = .ok (.aload_n 0, 1) := by decide +kernel
theorem dX7_otherMaps_37 : decode cX7_otherMaps 37 = .ok (.getfield 13, 3) := by decide +kernel
theorem dX7_otherMaps_40 : decode cX7_otherMaps 40 = .ok (.iload_n 2, 1) := by decide +kernel
theorem dX7_otherMaps_41 : decode cX7_otherMaps 41 = .ok (.iload_n 3, 1) := by decide +kernel
theorem dX7_otherMaps_42 : decode cX7_otherMaps 42 = .ok (.invokestatic 82, 3) := by decide +kernel
theorem dX7_otherMaps_45 : decode cX7_otherMaps 45 = .ok (.iconst 1, 1) := by decide +kernel
theorem dX7_otherMaps_46 : decode cX7_otherMaps 46 = .ok (.iadd, 1) := by decide +kernel
theorem dX7_otherMaps_47 : decode cX7_otherMaps 47 = .ok (.iaload, 1) := by decide +kernel
theorem dX7_otherMaps_48 : decode cX7_otherMaps 48 = .ok (.aload_n 0, 1) := by decide +kernel
theorem dX7_otherMaps_49 : decode cX7_otherMaps 49 = .ok (.getfield 13, 3) := by decide +kernel
theorem dX7_otherMaps_52 : decode cX7_otherMaps 52 = .ok (.iload_n 2, 1) := by decide +kernel
theorem dX7_otherMaps_53 : decode cX7_otherMaps 53 = .ok (.invokestatic 75, 3) := by decide +kernel
theorem dX7_otherMaps_56 : decode cX7_otherMaps 56 = .ok (.iconst 2, 1) := by decide +kernel
theorem dX7_otherMaps_57 : decode cX7_otherMaps 57 = .ok (.iadd, 1) := by decide +kernel
theorem dX7_otherMaps_58 : decode cX7_otherMaps 58 = .ok (.iaload, 1) := by decide +kernel
theorem dX7_otherMaps_59 : decode cX7_otherMaps 59 = .ok (.if_icmp .ne 7, 3) := by decide +kernel
theorem dX7_otherMaps_62 : decode cX7_otherMaps 62 = .ok (.iconst 0, 1) := by decide +kernel
theorem dX7_otherMaps_63 : decode cX7_otherMaps 63 = .ok (.goto 4, 3) := by decide +kernel
theorem dX7_otherMaps_66 : decode cX7_otherMaps 66 = .ok (.iconst 1, 1) := by decide +kernel
theorem dX7_otherMaps_67 : decode cX7_otherMaps 67 = .ok (.iadd, 1) := by decide +kernel
theorem dX7_otherMaps_68 : decode cX7_otherMaps 68 = .ok (.istore_n 1, 1) := by decide +kernel
theorem dX7_otherMaps_69 : decode cX7_otherMaps 69 = .ok (.iinc 3 1, 3) := by decide +kernel
theorem dX7_otherMaps_72 : decode cX7_otherMaps 72 = .ok (.goto (-61), 3) := by decide +kernel
theorem dX7_otherMaps_75 : decode cX7_otherMaps 75 = .ok (.iinc 2 1, 3) := by decide +kernel
theorem dX7_otherMaps_78 : decode cX7_otherMaps 78 = .ok (.goto (-74), 3) := by decide +kernel
theorem dX7_otherMaps_81 : decode cX7_otherMaps 81 = .ok (.iload_n 1, 1) := by decide +kernel
theorem dX7_otherMaps_82 : decode cX7_otherMaps 82 = .ok (.ireturn, 1) := by decide +kernel
theorem dX7_heardOfAll_0 : decode cX7_heardOfAll 0 = .ok (.iconst 0, 1) := by decide +kernel
theorem dX7_heardOfAll_1 : decode cX7_heardOfAll 1 = .ok (.istore_n 1, 1) := by decide +kernel
theorem dX7_heardOfAll_2 : decode cX7_heardOfAll 2 = .ok (.iconst 0, 1) := by decide +kernel
theorem dX7_heardOfAll_3 : decode cX7_heardOfAll 3 = .ok (.istore_n 2, 1) := by decide +kernel
theorem dX7_heardOfAll_4 : decode cX7_heardOfAll 4 = .ok (.iload_n 2, 1) := by decide +kernel
theorem dX7_heardOfAll_5 : decode cX7_heardOfAll 5 = .ok (.iconst 2, 1) := by decide +kernel
theorem dX7_heardOfAll_6 : decode cX7_heardOfAll 6 = .ok (.if_icmp .ge 71, 3) := by decide +kernel
theorem dX7_heardOfAll_9 : decode cX7_heardOfAll 9 = .ok (.iconst 0, 1) := by decide +kernel
theorem dX7_heardOfAll_10 : decode cX7_heardOfAll 10 = .ok (.istore_n 3, 1) := by decide +kernel
theorem dX7_heardOfAll_11 : decode cX7_heardOfAll 11 = .ok (.aload_n 0, 1) := by decide +kernel
theorem dX7_heardOfAll_12 : decode cX7_heardOfAll 12 = .ok (.iload_n 2, 1) := by decide +kernel
theorem dX7_heardOfAll_13 : decode cX7_heardOfAll 13 = .ok (.invokevirtual 78, 3) := by decide +kernel
theorem dX7_heardOfAll_16 : decode cX7_heardOfAll 16 = .ok (.ifCond .eq 55, 3) := by decide +kernel
theorem dX7_heardOfAll_19 : decode cX7_heardOfAll 19 = .ok (.iload_n 3, 1) := by decide +kernel
theorem dX7_heardOfAll_20 : decode cX7_heardOfAll 20 = .ok (.aload_n 0, 1) := by decide +kernel
theorem dX7_heardOfAll_21 : decode cX7_heardOfAll 21 = .ok (.getfield 13, 3) := by decide +kernel
theorem dX7_heardOfAll_24 : decode cX7_heardOfAll 24 = .ok (.iload_n 2, 1) := by decide +kernel
theorem dX7_heardOfAll_25 : decode cX7_heardOfAll 25 = .ok (.invokestatic 75, 3) := by decide +kernel
theorem dX7_heardOfAll_28 : decode cX7_heardOfAll 28 = .ok (.bipush 6, 2) := by decide +kernel
theorem dX7_heardOfAll_30 : decode cX7_heardOfAll 30 = .ok (.iadd, 1) := by decide +kernel
theorem dX7_heardOfAll_31 : decode cX7_heardOfAll 31 = .ok (.iaload, 1) := by decide +kernel
theorem dX7_heardOfAll_32 : decode cX7_heardOfAll 32 = .ok (.if_icmp .ge 39, 3) := by decide +kernel
theorem dX7_heardOfAll_35 : decode cX7_heardOfAll 35 = .ok (.iload_n 1, 1) := by decide +kernel
theorem dX7_heardOfAll_36 : decode cX7_heardOfAll 36 = .ok (.aload_n 0, 1) := by decide +kernel
theorem dX7_heardOfAll_37 : decode cX7_heardOfAll 37 = .ok (.getfield 13, 3) := by decide +kernel
theorem dX7_heardOfAll_40 : decode cX7_heardOfAll 40 = .ok (.iload_n 2, 1) := by decide +kernel
theorem dX7_heardOfAll_41 : decode cX7_heardOfAll 41 = .ok (.iload_n 3, 1) := by decide +kernel
theorem dX7_heardOfAll_42 : decode cX7_heardOfAll 42 = .ok (.invokestatic 82, 3) := by decide +kernel
theorem dX7_heardOfAll_45 : decode cX7_heardOfAll 45 = .ok (.bipush 27, 2) := by decide +kernel
theorem dX7_heardOfAll_47 : decode cX7_heardOfAll 47 = .ok (.iadd, 1) := by decide +kernel
theorem dX7_heardOfAll_48 : decode cX7_heardOfAll 48 = .ok (.iaload, 1) := by decide +kernel
theorem dX7_heardOfAll_49 : decode cX7_heardOfAll 49 = .ok (.aload_n 0, 1) := by decide +kernel
theorem dX7_heardOfAll_50 : decode cX7_heardOfAll 50 = .ok (.getfield 13, 3) := by decide +kernel
theorem dX7_heardOfAll_53 : decode cX7_heardOfAll 53 = .ok (.iload_n 2, 1) := by decide +kernel
theorem dX7_heardOfAll_54 : decode cX7_heardOfAll 54 = .ok (.iload_n 3, 1) := by decide +kernel
theorem dX7_heardOfAll_55 : decode cX7_heardOfAll 55 = .ok (.invokestatic 82, 3) := by decide +kernel
theorem dX7_heardOfAll_58 : decode cX7_heardOfAll 58 = .ok (.bipush 29, 2) := by decide +kernel
theorem dX7_heardOfAll_60 : decode cX7_heardOfAll 60 = .ok (.iadd, 1) := by decide +kernel
theorem dX7_heardOfAll_61 : decode cX7_heardOfAll 61 = .ok (.iaload, 1) := by decide +kernel
theorem dX7_heardOfAll_62 : decode cX7_heardOfAll 62 = .ok (.iadd, 1) := by decide +kernel
theorem dX7_heardOfAll_63 : decode cX7_heardOfAll 63 = .ok (.iadd, 1) := by decide +kernel
theorem dX7_heardOfAll_64 : decode cX7_heardOfAll 64 = .ok (.istore_n 1, 1) := by decide +kernel
theorem dX7_heardOfAll_65 : decode cX7_heardOfAll 65 = .ok (.iinc 3 1, 3) := by decide +kernel
theorem dX7_heardOfAll_68 : decode cX7_heardOfAll 68 = .ok (.goto (-57), 3) := by decide +kernel
theorem dX7_heardOfAll_71 : decode cX7_heardOfAll 71 = .ok (.iinc 2 1, 3) := by decide +kernel
theorem dX7_heardOfAll_74 : decode cX7_heardOfAll 74 = .ok (.goto (-70), 3) := by decide +kernel
theorem dX7_heardOfAll_77 : decode cX7_heardOfAll 77 = .ok (.iload_n 1, 1) := by decide +kernel
theorem dX7_heardOfAll_78 : decode cX7_heardOfAll 78 = .ok (.ireturn, 1) := by decide +kernel
theorem dX7_isRadio_0 : decode cX7_isRadio 0 = .ok (.iload_n 1, 1) := by decide +kernel
theorem dX7_isRadio_1 : decode cX7_isRadio 1 = .ok (.i2l, 1) := by decide +kernel
theorem dX7_isRadio_2 : decode cX7_isRadio 2 = .ok (.lconst 0, 1) := by decide +kernel
theorem dX7_isRadio_3 : decode cX7_isRadio 3 = .ok (.aload_n 0, 1) := by decide +kernel
theorem dX7_isRadio_4 : decode cX7_isRadio 4 = .ok (.getfield 13, 3) := by decide +kernel
theorem dX7_isRadio_7 : decode cX7_isRadio 7 = .ok (.iconst 0, 1) := by decide +kernel
theorem dX7_isRadio_8 : decode cX7_isRadio 8 = .ok (.iaload, 1) := by decide +kernel
theorem dX7_isRadio_9 : decode cX7_isRadio 9 = .ok (.i2l, 1) := by decide +kernel
theorem dX7_isRadio_10 : decode cX7_isRadio 10 = .ok (.lconst 1, 1) := by decide +kernel
theorem dX7_isRadio_11 : decode cX7_isRadio 11 = .ok (.lsub, 1) := by decide +kernel
theorem dX7_isRadio_12 : decode cX7_isRadio 12 = .ok (.invokestatic 71, 3) := by decide +kernel
theorem dX7_isRadio_15 : decode cX7_isRadio 15 = .ok (.ireturn, 1) := by decide +kernel
theorem dX7_copy_0 : decode cX7_copy 0 = .ok (.iconst 0, 1) := by decide +kernel
theorem dX7_copy_1 : decode cX7_copy 1 = .ok (.istore 4, 2) := by decide +kernel
theorem dX7_copy_3 : decode cX7_copy 3 = .ok (.iload 4, 2) := by decide +kernel
theorem dX7_copy_5 : decode cX7_copy 5 = .ok (.sipush 695, 3) := by decide +kernel
theorem dX7_copy_8 : decode cX7_copy 8 = .ok (.if_icmp .ge 21, 3) := by decide +kernel
theorem dX7_copy_11 : decode cX7_copy 11 = .ok (.aload_n 2, 1) := by decide +kernel
theorem dX7_copy_12 : decode cX7_copy 12 = .ok (.iload_n 3, 1) := by decide +kernel
theorem dX7_copy_13 : decode cX7_copy 13 = .ok (.iload 4, 2) := by decide +kernel
theorem dX7_copy_15 : decode cX7_copy 15 = .ok (.iadd, 1) := by decide +kernel
theorem dX7_copy_16 : decode cX7_copy 16 = .ok (.aload_n 0, 1) := by decide +kernel
theorem dX7_copy_17 : decode cX7_copy 17 = .ok (.iload_n 1, 1) := by decide +kernel
theorem dX7_copy_18 : decode cX7_copy 18 = .ok (.iload 4, 2) := by decide +kernel
theorem dX7_copy_20 : decode cX7_copy 20 = .ok (.iadd, 1) := by decide +kernel
theorem dX7_copy_21 : decode cX7_copy 21 = .ok (.iaload, 1) := by decide +kernel
theorem dX7_copy_22 : decode cX7_copy 22 = .ok (.iastore, 1) := by decide +kernel
theorem dX7_copy_23 : decode cX7_copy 23 = .ok (.iinc 4 1, 3) := by decide +kernel
theorem dX7_copy_26 : decode cX7_copy 26 = .ok (.goto (-23), 3) := by decide +kernel
theorem dX7_copy_29 : decode cX7_copy 29 = .ok (.return_, 1) := by decide +kernel
theorem dX7_remember_0 : decode cX7_remember 0 = .ok (.aload_n 0, 1) := by decide +kernel
theorem dX7_remember_1 : decode cX7_remember 1 = .ok (.getfield 57, 3) := by decide +kernel
theorem dX7_remember_4 : decode cX7_remember 4 = .ok (.bipush 8, 2) := by decide +kernel
theorem dX7_remember_6 : decode cX7_remember 6 = .ok (.if_icmp .ne 72, 3) := by decide +kernel
theorem dX7_remember_9 : decode cX7_remember 9 = .ok (.iconst 0, 1) := by decide +kernel
theorem dX7_remember_10 : decode cX7_remember 10 = .ok (.istore_n 2, 1) := by decide +kernel
theorem dX7_remember_11 : decode cX7_remember 11 = .ok (.iload_n 2, 1) := by decide +kernel
theorem dX7_remember_12 : decode cX7_remember 12 = .ok (.sipush 4865, 3) := by decide +kernel
theorem dX7_remember_15 : decode cX7_remember 15 = .ok (.if_icmp .ge 25, 3) := by decide +kernel
theorem dX7_remember_18 : decode cX7_remember 18 = .ok (.aload_n 0, 1) := by decide +kernel
theorem dX7_remember_19 : decode cX7_remember 19 = .ok (.getfield 16, 3) := by decide +kernel
theorem dX7_remember_22 : decode cX7_remember 22 = .ok (.iload_n 2, 1) := by decide +kernel
theorem dX7_remember_23 : decode cX7_remember 23 = .ok (.aload_n 0, 1) := by decide +kernel
theorem dX7_remember_24 : decode cX7_remember 24 = .ok (.getfield 16, 3) := by decide +kernel
theorem dX7_remember_27 : decode cX7_remember 27 = .ok (.iload_n 2, 1) := by decide +kernel
theorem dX7_remember_28 : decode cX7_remember 28 = .ok (.sipush 695, 3) := by decide +kernel
theorem dX7_remember_31 : decode cX7_remember 31 = .ok (.iadd, 1) := by decide +kernel
theorem dX7_remember_32 : decode cX7_remember 32 = .ok (.iaload, 1) := by decide +kernel
theorem dX7_remember_33 : decode cX7_remember 33 = .ok (.iastore, 1) := by decide +kernel
theorem dX7_remember_34 : decode cX7_remember 34 = .ok (.iinc 2 1, 3) := by decide +kernel
theorem dX7_remember_37 : decode cX7_remember 37 = .ok (.goto (-26), 3) := by decide +kernel
theorem dX7_remember_40 : decode cX7_remember 40 = .ok (.iconst 0, 1) := by decide +kernel
theorem dX7_remember_41 : decode cX7_remember 41 = .ok (.istore_n 2, 1) := by decide +kernel
theorem dX7_remember_42 : decode cX7_remember 42 = .ok (.iload_n 2, 1) := by decide +kernel
theorem dX7_remember_43 : decode cX7_remember 43 = .ok (.bipush 7, 2) := by decide +kernel
theorem dX7_remember_45 : decode cX7_remember 45 = .ok (.if_icmp .ge 23, 3) := by decide +kernel
theorem dX7_remember_48 : decode cX7_remember 48 = .ok (.aload_n 0, 1) := by decide +kernel
theorem dX7_remember_49 : decode cX7_remember 49 = .ok (.getfield 19, 3) := by decide +kernel
theorem dX7_remember_52 : decode cX7_remember 52 = .ok (.iload_n 2, 1) := by decide +kernel
theorem dX7_remember_53 : decode cX7_remember 53 = .ok (.aload_n 0, 1) := by decide +kernel
theorem dX7_remember_54 : decode cX7_remember 54 = .ok (.getfield 19, 3) := by decide +kernel
theorem dX7_remember_57 : decode cX7_remember 57 = .ok (.iload_n 2, 1) := by decide +kernel
theorem dX7_remember_58 : decode cX7_remember 58 = .ok (.iconst 1, 1) := by decide +kernel
theorem dX7_remember_59 : decode cX7_remember 59 = .ok (.iadd, 1) := by decide +kernel
theorem dX7_remember_60 : decode cX7_remember 60 = .ok (.iaload, 1) := by decide +kernel
theorem dX7_remember_61 : decode cX7_remember 61 = .ok (.iastore, 1) := by decide +kernel
theorem dX7_remember_62 : decode cX7_remember 62 = .ok (.iinc 2 1, 3) := by decide +kernel
theorem dX7_remember_65 : decode cX7_remember 65 = .ok (.goto (-23), 3) := by decide +kernel
theorem dX7_remember_68 : decode cX7_remember 68 = .ok (.aload_n 0, 1) := by decide +kernel
theorem dX7_remember_69 : decode cX7_remember 69 = .ok (.dup, 1) := by decide +kernel
theorem dX7_remember_70 : decode cX7_remember 70 = .ok (.getfield 57, 3) := by decide +kernel
theorem dX7_remember_73 : decode cX7_remember 73 = .ok (.iconst 1, 1) := by decide +kernel
theorem dX7_remember_74 : decode cX7_remember 74 = .ok (.isub, 1) := by decide +kernel
theorem dX7_remember_75 : decode cX7_remember 75 = .ok (.putfield 57, 3) := by decide +kernel
theorem dX7_remember_78 : decode cX7_remember 78 = .ok (.aload_n 0, 1) := by decide +kernel
theorem dX7_remember_79 : decode cX7_remember 79 = .ok (.getfield 13, 3) := by decide +kernel
theorem dX7_remember_82 : decode cX7_remember 82 = .ok (.iconst 0, 1) := by decide +kernel
theorem dX7_remember_83 : decode cX7_remember 83 = .ok (.aload_n 0, 1) := by decide +kernel
theorem dX7_remember_84 : decode cX7_remember 84 = .ok (.getfield 16, 3) := by decide +kernel
theorem dX7_remember_87 : decode cX7_remember 87 = .ok (.sipush 695, 3) := by decide +kernel
theorem dX7_remember_90 : decode cX7_remember 90 = .ok (.aload_n 0, 1) := by decide +kernel
theorem dX7_remember_91 : decode cX7_remember 91 = .ok (.getfield 57, 3) := by decide +kernel
theorem dX7_remember_94 : decode cX7_remember 94 = .ok (.imul, 1) := by decide +kernel
theorem dX7_remember_95 : decode cX7_remember 95 = .ok (.invokestatic 60, 3) := by decide +kernel
theorem dX7_remember_98 : decode cX7_remember 98 = .ok (.aload_n 0, 1) := by decide +kernel
theorem dX7_remember_99 : decode cX7_remember 99 = .ok (.getfield 19, 3) := by decide +kernel
theorem dX7_remember_102 : decode cX7_remember 102 = .ok (.aload_n 0, 1) := by decide +kernel
theorem dX7_remember_103 : decode cX7_remember 103 = .ok (.getfield 57, 3) := by decide +kernel
theorem dX7_remember_106 : decode cX7_remember 106 = .ok (.iload_n 1, 1) := by decide +kernel
theorem dX7_remember_107 : decode cX7_remember 107 = .ok (.iastore, 1) := by decide +kernel
theorem dX7_remember_108 : decode cX7_remember 108 = .ok (.aload_n 0, 1) := by decide +kernel
theorem dX7_remember_109 : decode cX7_remember 109 = .ok (.dup, 1) := by decide +kernel
theorem dX7_remember_110 : decode cX7_remember 110 = .ok (.getfield 57, 3) := by decide +kernel
theorem dX7_remember_113 : decode cX7_remember 113 = .ok (.iconst 1, 1) := by decide +kernel
theorem dX7_remember_114 : decode cX7_remember 114 = .ok (.iadd, 1) := by decide +kernel
theorem dX7_remember_115 : decode cX7_remember 115 = .ok (.putfield 57, 3) := by decide +kernel
theorem dX7_remember_118 : decode cX7_remember 118 = .ok (.return_, 1) := by decide +kernel
theorem dX7_sendsDown_0 : decode cX7_sendsDown 0 = .ok (.iconst 0, 1) := by decide +kernel
theorem dX7_sendsDown_1 : decode cX7_sendsDown 1 = .ok (.istore_n 1, 1) := by decide +kernel
theorem dX7_sendsDown_2 : decode cX7_sendsDown 2 = .ok (.iload_n 1, 1) := by decide +kernel
theorem dX7_sendsDown_3 : decode cX7_sendsDown 3 = .ok (.iconst 2, 1) := by decide +kernel
theorem dX7_sendsDown_4 : decode cX7_sendsDown 4 = .ok (.if_icmp .ge 67, 3) := by decide +kernel
theorem dX7_sendsDown_7 : decode cX7_sendsDown 7 = .ok (.aload_n 0, 1) := by decide +kernel
theorem dX7_sendsDown_8 : decode cX7_sendsDown 8 = .ok (.getfield 35, 3) := by decide +kernel
theorem dX7_sendsDown_11 : decode cX7_sendsDown 11 = .ok (.iload_n 1, 1) := by decide +kernel
theorem dX7_sendsDown_12 : decode cX7_sendsDown 12 = .ok (.aload_n 0, 1) := by decide +kernel
theorem dX7_sendsDown_13 : decode cX7_sendsDown 13 = .ok (.getfield 32, 3) := by decide +kernel
theorem dX7_sendsDown_16 : decode cX7_sendsDown 16 = .ok (.iload_n 1, 1) := by decide +kernel
theorem dX7_sendsDown_17 : decode cX7_sendsDown 17 = .ok (.iaload, 1) := by decide +kernel
theorem dX7_sendsDown_18 : decode cX7_sendsDown 18 = .ok (.iconst (-1), 1) := by decide +kernel
theorem dX7_sendsDown_19 : decode cX7_sendsDown 19 = .ok (.if_icmp .ne 9, 3) := by decide +kernel
theorem dX7_sendsDown_22 : decode cX7_sendsDown 22 = .ok (.iconst (-1), 1) := by decide +kernel
theorem dX7_sendsDown_23 : decode cX7_sendsDown 23 = .ok (.iload_n 1, 1) := by decide +kernel
theorem dX7_sendsDown_24 : decode cX7_sendsDown 24 = .ok (.isub, 1) := by decide +kernel
theorem dX7_sendsDown_25 : decode cX7_sendsDown 25 = .ok (.goto 20, 3) := by decide +kernel
theorem dX7_sendsDown_28 : decode cX7_sendsDown 28 = .ok (.aload_n 0, 1) := by decide +kernel
theorem dX7_sendsDown_29 : decode cX7_sendsDown 29 = .ok (.iload_n 1, 1) := by decide +kernel
theorem dX7_sendsDown_30 : decode cX7_sendsDown 30 = .ok (.aload_n 0, 1) := by decide +kernel
theorem dX7_sendsDown_31 : decode cX7_sendsDown 31 = .ok (.getfield 13, 3) := by decide +kernel
theorem dX7_sendsDown_34 : decode cX7_sendsDown 34 = .ok (.bipush 7, 2) := by decide +kernel
theorem dX7_sendsDown_36 : decode cX7_sendsDown 36 = .ok (.iaload, 1) := by decide +kernel
theorem dX7_sendsDown_37 : decode cX7_sendsDown 37 = .ok (.aload_n 0, 1) := by decide +kernel
theorem dX7_sendsDown_38 : decode cX7_sendsDown 38 = .ok (.iload_n 1, 1) := by decide +kernel
theorem dX7_sendsDown_39 : decode cX7_sendsDown 39 = .ok (.invokevirtual 196, 3) := by decide +kernel
theorem dX7_sendsDown_42 : decode cX7_sendsDown 42 = .ok (.invokevirtual 114, 3) := by decide +kernel
theorem dX7_sendsDown_45 : decode cX7_sendsDown 45 = .ok (.iastore, 1) := by decide +kernel
theorem dX7_sendsDown_46 : decode cX7_sendsDown 46 = .ok (.aload_n 0, 1) := by decide +kernel
theorem dX7_sendsDown_47 : decode cX7_sendsDown 47 = .ok (.getfield 38, 3) := by decide +kernel
theorem dX7_sendsDown_50 : decode cX7_sendsDown 50 = .ok (.iload_n 1, 1) := by decide +kernel
theorem dX7_sendsDown_51 : decode cX7_sendsDown 51 = .ok (.aload_n 0, 1) := by decide +kernel
theorem dX7_sendsDown_52 : decode cX7_sendsDown 52 = .ok (.getfield 35, 3) := by decide +kernel
theorem dX7_sendsDown_55 : decode cX7_sendsDown 55 = .ok (.iload_n 1, 1) := by decide +kernel
theorem dX7_sendsDown_56 : decode cX7_sendsDown 56 = .ok (.iaload, 1) := by decide +kernel
theorem dX7_sendsDown_57 : decode cX7_sendsDown 57 = .ok (.iastore, 1) := by decide +kernel
theorem dX7_sendsDown_58 : decode cX7_sendsDown 58 = .ok (.aload_n 0, 1) := by decide +kernel
theorem dX7_sendsDown_59 : decode cX7_sendsDown 59 = .ok (.getfield 47, 3) := by decide +kernel
theorem dX7_sendsDown_62 : decode cX7_sendsDown 62 = .ok (.iload_n 1, 1) := by decide +kernel
theorem dX7_sendsDown_63 : decode cX7_sendsDown 63 = .ok (.iconst 0, 1) := by decide +kernel
theorem dX7_sendsDown_64 : decode cX7_sendsDown 64 = .ok (.bastore, 1) := by decide +kernel
theorem dX7_sendsDown_65 : decode cX7_sendsDown 65 = .ok (.iinc 1 1, 3) := by decide +kernel
theorem dX7_sendsDown_68 : decode cX7_sendsDown 68 = .ok (.goto (-66), 3) := by decide +kernel
theorem dX7_sendsDown_71 : decode cX7_sendsDown 71 = .ok (.iconst 0, 1) := by decide +kernel
theorem dX7_sendsDown_72 : decode cX7_sendsDown 72 = .ok (.istore_n 1, 1) := by decide +kernel
theorem dX7_sendsDown_73 : decode cX7_sendsDown 73 = .ok (.iload_n 1, 1) := by decide +kernel
theorem dX7_sendsDown_74 : decode cX7_sendsDown 74 = .ok (.iconst 2, 1) := by decide +kernel
theorem dX7_sendsDown_75 : decode cX7_sendsDown 75 = .ok (.if_icmp .ge 242, 3) := by decide +kernel
theorem dX7_sendsDown_78 : decode cX7_sendsDown 78 = .ok (.aload_n 0, 1) := by decide +kernel
theorem dX7_sendsDown_79 : decode cX7_sendsDown 79 = .ok (.getfield 32, 3) := by decide +kernel
theorem dX7_sendsDown_82 : decode cX7_sendsDown 82 = .ok (.iload_n 1, 1) := by decide +kernel
theorem dX7_sendsDown_83 : decode cX7_sendsDown 83 = .ok (.iaload, 1) := by decide +kernel
theorem dX7_sendsDown_84 : decode cX7_sendsDown 84 = .ok (.bipush (-2), 2) := by decide +kernel
theorem dX7_sendsDown_86 : decode cX7_sendsDown 86 = .ok (.if_icmp .ne 11, 3) := by decide +kernel
theorem dX7_sendsDown_89 : decode cX7_sendsDown 89 = .ok (.aload_n 0, 1) := by decide +kernel
theorem dX7_sendsDown_90 : decode cX7_sendsDown 90 = .ok (.iload_n 1, 1) := by decide +kernel
theorem dX7_sendsDown_91 : decode cX7_sendsDown 91 = .ok (.invokevirtual 199, 3) := by decide +kernel
theorem dX7_sendsDown_94 : decode cX7_sendsDown 94 = .ok (.goto 217, 3) := by decide +kernel
theorem dX7_sendsDown_97 : decode cX7_sendsDown 97 = .ok (.aload_n 0, 1) := by decide +kernel
theorem dX7_sendsDown_98 : decode cX7_sendsDown 98 = .ok (.getfield 32, 3) := by decide +kernel
theorem dX7_sendsDown_101 : decode cX7_sendsDown 101 = .ok (.iload_n 1, 1) := by decide +kernel
theorem dX7_sendsDown_102 : decode cX7_sendsDown 102 = .ok (.iaload, 1) := by decide +kernel
theorem dX7_sendsDown_103 : decode cX7_sendsDown 103 = .ok (.iconst (-1), 1) := by decide +kernel
theorem dX7_sendsDown_104 : decode cX7_sendsDown 104 = .ok (.if_icmp .eq 207, 3) := by decide +kernel
theorem dX7_sendsDown_107 : decode cX7_sendsDown 107 = .ok (.iload_n 1, 1) := by decide +kernel
theorem dX7_sendsDown_108 : decode cX7_sendsDown 108 = .ok (.invokestatic 75, 3) := by decide +kernel
theorem dX7_sendsDown_111 : decode cX7_sendsDown 111 = .ok (.istore_n 2, 1) := by decide +kernel
theorem dX7_sendsDown_112 : decode cX7_sendsDown 112 = .ok (.iload_n 1, 1) := by decide +kernel
theorem dX7_sendsDown_113 : decode cX7_sendsDown 113 = .ok (.aload_n 0, 1) := by decide +kernel
theorem dX7_sendsDown_114 : decode cX7_sendsDown 114 = .ok (.getfield 32, 3) := by decide +kernel
theorem dX7_sendsDown_117 : decode cX7_sendsDown 117 = .ok (.iload_n 1, 1) := by decide +kernel
theorem dX7_sendsDown_118 : decode cX7_sendsDown 118 = .ok (.iaload, 1) := by decide +kernel
theorem dX7_sendsDown_119 : decode cX7_sendsDown 119 = .ok (.invokestatic 82, 3) := by decide +kernel
theorem dX7_sendsDown_122 : decode cX7_sendsDown 122 = .ok (.istore_n 3, 1) := by decide +kernel
theorem dX7_sendsDown_123 : decode cX7_sendsDown 123 = .ok (.aload_n 0, 1) := by decide +kernel
theorem dX7_sendsDown_124 : decode cX7_sendsDown 124 = .ok (.getfield 13, 3) := by decide +kernel
theorem dX7_sendsDown_127 : decode cX7_sendsDown 127 = .ok (.bipush 11, 2) := by decide +kernel
theorem dX7_sendsDown_129 : decode cX7_sendsDown 129 = .ok (.dup2, 1) := by decide +kernel
theorem dX7_sendsDown_130 : decode cX7_sendsDown 130 = .ok (.iaload, 1) := by decide +kernel
theorem dX7_sendsDown_131 : decode cX7_sendsDown 131 = .ok (.iconst 1, 1) := by decide +kernel
theorem dX7_sendsDown_132 : decode cX7_sendsDown 132 = .ok (.iadd, 1) := by decide +kernel
theorem dX7_sendsDown_133 : decode cX7_sendsDown 133 = .ok (.iastore, 1) := by decide +kernel
theorem dX7_sendsDown_134 : decode cX7_sendsDown 134 = .ok (.aload_n 0, 1) := by decide +kernel
theorem dX7_sendsDown_135 : decode cX7_sendsDown 135 = .ok (.getfield 13, 3) := by decide +kernel
theorem dX7_sendsDown_138 : decode cX7_sendsDown 138 = .ok (.iload_n 3, 1) := by decide +kernel
theorem dX7_sendsDown_139 : decode cX7_sendsDown 139 = .ok (.bipush 38, 2) := by decide +kernel
theorem dX7_sendsDown_141 : decode cX7_sendsDown 141 = .ok (.iadd, 1) := by decide +kernel
theorem dX7_sendsDown_142 : decode cX7_sendsDown 142 = .ok (.dup2, 1) := by decide +kernel
theorem dX7_sendsDown_143 : decode cX7_sendsDown 143 = .ok (.iaload, 1) := by decide +kernel
theorem dX7_sendsDown_144 : decode cX7_sendsDown 144 = .ok (.iconst 1, 1) := by decide +kernel
theorem dX7_sendsDown_145 : decode cX7_sendsDown 145 = .ok (.iadd, 1) := by decide +kernel
theorem dX7_sendsDown_146 : decode cX7_sendsDown 146 = .ok (.iastore, 1) := by decide +kernel
theorem dX7_sendsDown_147 : decode cX7_sendsDown 147 = .ok (.aload_n 0, 1) := by decide +kernel
theorem dX7_sendsDown_148 : decode cX7_sendsDown 148 = .ok (.getfield 13, 3) := by decide +kernel
theorem dX7_sendsDown_151 : decode cX7_sendsDown 151 = .ok (.iload_n 2, 1) := by decide +kernel
theorem dX7_sendsDown_152 : decode cX7_sendsDown 152 = .ok (.bipush 16, 2) := by decide +kernel
theorem dX7_sendsDown_154 : decode cX7_sendsDown 154 = .ok (.iadd, 1) := by decide +kernel
theorem dX7_sendsDown_155 : decode cX7_sendsDown 155 = .ok (.aload_n 0, 1) := by decide +kernel
theorem dX7_sendsDown_156 : decode cX7_sendsDown 156 = .ok (.getfield 35, 3) := by decide +kernel
theorem dX7_sendsDown_159 : decode cX7_sendsDown 159 = .ok (.iload_n 1, 1) := by decide +kernel
theorem dX7_sendsDown_160 : decode cX7_sendsDown 160 = .ok (.iaload, 1) := by decide +kernel
theorem dX7_sendsDown_161 : decode cX7_sendsDown 161 = .ok (.iadd, 1) := by decide +kernel
theorem dX7_sendsDown_162 : decode cX7_sendsDown 162 = .ok (.dup2, 1) := by decide +kernel
theorem dX7_sendsDown_163 : decode cX7_sendsDown 163 = .ok (.iaload, 1) := by decide +kernel
theorem dX7_sendsDown_164 : decode cX7_sendsDown 164 = .ok (.iconst 1, 1) := by decide +kernel
theorem dX7_sendsDown_165 : decode cX7_sendsDown 165 = .ok (.iadd, 1) := by decide +kernel
theorem dX7_sendsDown_166 : decode cX7_sendsDown 166 = .ok (.iastore, 1) := by decide +kernel
theorem dX7_sendsDown_167 : decode cX7_sendsDown 167 = .ok (.aload_n 0, 1) := by decide +kernel
theorem dX7_sendsDown_168 : decode cX7_sendsDown 168 = .ok (.getfield 41, 3) := by decide +kernel
theorem dX7_sendsDown_171 : decode cX7_sendsDown 171 = .ok (.iload_n 1, 1) := by decide +kernel
theorem dX7_sendsDown_172 : decode cX7_sendsDown 172 = .ok (.aload_n 0, 1) := by decide +kernel
theorem dX7_sendsDown_173 : decode cX7_sendsDown 173 = .ok (.getfield 13, 3) := by decide +kernel
theorem dX7_sendsDown_176 : decode cX7_sendsDown 176 = .ok (.iload_n 3, 1) := by decide +kernel
theorem dX7_sendsDown_177 : decode cX7_sendsDown 177 = .ok (.iconst 5, 1) := by decide +kernel
theorem dX7_sendsDown_178 : decode cX7_sendsDown 178 = .ok (.iadd, 1) := by decide +kernel
theorem dX7_sendsDown_179 : decode cX7_sendsDown 179 = .ok (.iaload, 1) := by decide +kernel
theorem dX7_sendsDown_180 : decode cX7_sendsDown 180 = .ok (.ifCond .le 7, 3) := by decide +kernel
theorem dX7_sendsDown_183 : decode cX7_sendsDown 183 = .ok (.iconst 1, 1) := by decide +kernel
theorem dX7_sendsDown_184 : decode cX7_sendsDown 184 = .ok (.goto 4, 3) := by decide +kernel
theorem dX7_sendsDown_187 : decode cX7_sendsDown 187 = .ok (.iconst 0, 1) := by decide +kernel
theorem dX7_sendsDown_188 : decode cX7_sendsDown 188 = .ok (.bastore, 1) := by decide +kernel
theorem dX7_sendsDown_189 : decode cX7_sendsDown 189 = .ok (.aload_n 0, 1) := by decide +kernel
theorem dX7_sendsDown_190 : decode cX7_sendsDown 190 = .ok (.getfield 44, 3) := by decide +kernel
theorem dX7_sendsDown_193 : decode cX7_sendsDown 193 = .ok (.iload_n 1, 1) := by decide +kernel
theorem dX7_sendsDown_194 : decode cX7_sendsDown 194 = .ok (.aload_n 0, 1) := by decide +kernel
theorem dX7_sendsDown_195 : decode cX7_sendsDown 195 = .ok (.getfield 13, 3) := by decide +kernel
theorem dX7_sendsDown_198 : decode cX7_sendsDown 198 = .ok (.iload_n 3, 1) := by decide +kernel
theorem dX7_sendsDown_199 : decode cX7_sendsDown 199 = .ok (.iconst 4, 1) := by decide +kernel
theorem dX7_sendsDown_200 : decode cX7_sendsDown 200 = .ok (.iadd, 1) := by decide +kernel
theorem dX7_sendsDown_201 : decode cX7_sendsDown 201 = .ok (.iaload, 1) := by decide +kernel
theorem dX7_sendsDown_202 : decode cX7_sendsDown 202 = .ok (.ifCond .ne 7, 3) := by decide +kernel
theorem dX7_sendsDown_205 : decode cX7_sendsDown 205 = .ok (.iconst 1, 1) := by decide +kernel
theorem dX7_sendsDown_206 : decode cX7_sendsDown 206 = .ok (.goto 4, 3) := by decide +kernel
theorem dX7_sendsDown_209 : decode cX7_sendsDown 209 = .ok (.iconst 0, 1) := by decide +kernel
theorem dX7_sendsDown_210 : decode cX7_sendsDown 210 = .ok (.bastore, 1) := by decide +kernel
theorem dX7_sendsDown_211 : decode cX7_sendsDown 211 = .ok (.aload_n 0, 1) := by decide +kernel
theorem dX7_sendsDown_212 : decode cX7_sendsDown 212 = .ok (.iload_n 1, 1) := by decide +kernel
theorem dX7_sendsDown_213 : decode cX7_sendsDown 213 = .ok (.aload_n 0, 1) := by decide +kernel
theorem dX7_sendsDown_214 : decode cX7_sendsDown 214 = .ok (.iload_n 1, 1) := by decide +kernel
theorem dX7_sendsDown_215 : decode cX7_sendsDown 215 = .ok (.aload_n 0, 1) := by decide +kernel
theorem dX7_sendsDown_216 : decode cX7_sendsDown 216 = .ok (.getfield 13, 3) := by decide +kernel
theorem dX7_sendsDown_219 : decode cX7_sendsDown 219 = .ok (.bipush 7, 2) := by decide +kernel
theorem dX7_sendsDown_221 : decode cX7_sendsDown 221 = .ok (.iaload, 1) := by decide +kernel
theorem dX7_sendsDown_222 : decode cX7_sendsDown 222 = .ok (.aload_n 0, 1) := by decide +kernel
theorem dX7_sendsDown_223 : decode cX7_sendsDown 223 = .ok (.getfield 13, 3) := by decide +kernel
theorem dX7_sendsDown_226 : decode cX7_sendsDown 226 = .ok (.iload_n 3, 1) := by decide +kernel
theorem dX7_sendsDown_227 : decode cX7_sendsDown 227 = .ok (.iconst 1, 1) := by decide +kernel
theorem dX7_sendsDown_228 : decode cX7_sendsDown 228 = .ok (.iadd, 1) := by decide +kernel
theorem dX7_sendsDown_229 : decode cX7_sendsDown 229 = .ok (.iaload, 1) := by decide +kernel
theorem dX7_sendsDown_230 : decode cX7_sendsDown 230 = .ok (.invokevirtual 114, 3) := by decide +kernel
theorem dX7_sendsDown_233 : decode cX7_sendsDown 233 = .ok (.invokevirtual 202, 3) := by decide +kernel
theorem dX7_sendsDown_236 : decode cX7_sendsDown 236 = .ok (.istore 4, 2) := by decide +kernel
theorem dX7_sendsDown_238 : decode cX7_sendsDown 238 = .ok (.aload_n 0, 1) := by decide +kernel
theorem dX7_sendsDown_239 : decode cX7_sendsDown 239 = .ok (.getfield 13, 3) := by decide +kernel
theorem dX7_sendsDown_242 : decode cX7_sendsDown 242 = .ok (.iload_n 3, 1) := by decide +kernel
theorem dX7_sendsDown_243 : decode cX7_sendsDown 243 = .ok (.bipush 37, 2) := by decide +kernel
theorem dX7_sendsDown_245 : decode cX7_sendsDown 245 = .ok (.iadd, 1) := by decide +kernel
theorem dX7_sendsDown_246 : decode cX7_sendsDown 246 = .ok (.iload 4, 2) := by decide +kernel
theorem dX7_sendsDown_248 : decode cX7_sendsDown 248 = .ok (.ifCond .ne 7, 3) := by decide +kernel
theorem dX7_sendsDown_251 : decode cX7_sendsDown 251 = .ok (.iconst 0, 1) := by decide +kernel
theorem dX7_sendsDown_252 : decode cX7_sendsDown 252 = .ok (.goto 8, 3) := by decide +kernel
theorem dX7_sendsDown_255 : decode cX7_sendsDown 255 = .ok (.bipush 10, 2) := by decide +kernel
theorem dX7_sendsDown_257 : decode cX7_sendsDown 257 = .ok (.iload 4, 2) := by decide +kernel
theorem dX7_sendsDown_259 : decode cX7_sendsDown 259 = .ok (.iadd, 1) := by decide +kernel
theorem dX7_sendsDown_260 : decode cX7_sendsDown 260 = .ok (.iastore, 1) := by decide +kernel
theorem dX7_sendsDown_261 : decode cX7_sendsDown 261 = .ok (.aload_n 0, 1) := by decide +kernel
theorem dX7_sendsDown_262 : decode cX7_sendsDown 262 = .ok (.getfield 47, 3) := by decide +kernel
theorem dX7_sendsDown_265 : decode cX7_sendsDown 265 = .ok (.iload_n 1, 1) := by decide +kernel
theorem dX7_sendsDown_266 : decode cX7_sendsDown 266 = .ok (.iload 4, 2) := by decide +kernel
theorem dX7_sendsDown_268 : decode cX7_sendsDown 268 = .ok (.ifCond .ne 7, 3) := by decide +kernel
theorem dX7_sendsDown_271 : decode cX7_sendsDown 271 = .ok (.iconst 1, 1) := by decide +kernel
theorem dX7_sendsDown_272 : decode cX7_sendsDown 272 = .ok (.goto 4, 3) := by decide +kernel
theorem dX7_sendsDown_275 : decode cX7_sendsDown 275 = .ok (.iconst 0, 1) := by decide +kernel
theorem dX7_sendsDown_276 : decode cX7_sendsDown 276 = .ok (.bastore, 1) := by decide +kernel
theorem dX7_sendsDown_277 : decode cX7_sendsDown 277 = .ok (.aload_n 0, 1) := by decide +kernel
theorem dX7_sendsDown_278 : decode cX7_sendsDown 278 = .ok (.getfield 13, 3) := by decide +kernel
theorem dX7_sendsDown_281 : decode cX7_sendsDown 281 = .ok (.bipush 13, 2) := by decide +kernel
theorem dX7_sendsDown_283 : decode cX7_sendsDown 283 = .ok (.iload 4, 2) := by decide +kernel
theorem dX7_sendsDown_285 : decode cX7_sendsDown 285 = .ok (.iadd, 1) := by decide +kernel
theorem dX7_sendsDown_286 : decode cX7_sendsDown 286 = .ok (.iload 4, 2) := by decide +kernel
theorem dX7_sendsDown_288 : decode cX7_sendsDown 288 = .ok (.ifCond .ne 7, 3) := by decide +kernel
theorem dX7_sendsDown_291 : decode cX7_sendsDown 291 = .ok (.iconst 0, 1) := by decide +kernel
theorem dX7_sendsDown_292 : decode cX7_sendsDown 292 = .ok (.goto 4, 3) := by decide +kernel
theorem dX7_sendsDown_295 : decode cX7_sendsDown 295 = .ok (.iconst 1, 1) := by decide +kernel
theorem dX7_sendsDown_296 : decode cX7_sendsDown 296 = .ok (.isub, 1) := by decide +kernel
theorem dX7_sendsDown_297 : decode cX7_sendsDown 297 = .ok (.dup2, 1) := by decide +kernel
theorem dX7_sendsDown_298 : decode cX7_sendsDown 298 = .ok (.iaload, 1) := by decide +kernel
theorem dX7_sendsDown_299 : decode cX7_sendsDown 299 = .ok (.iload 4, 2) := by decide +kernel
theorem dX7_sendsDown_301 : decode cX7_sendsDown 301 = .ok (.ifCond .ne 7, 3) := by decide +kernel
theorem dX7_sendsDown_304 : decode cX7_sendsDown 304 = .ok (.iconst 0, 1) := by decide +kernel
theorem dX7_sendsDown_305 : decode cX7_sendsDown 305 = .ok (.goto 4, 3) := by decide +kernel
theorem dX7_sendsDown_308 : decode cX7_sendsDown 308 = .ok (.iconst 1, 1) := by decide +kernel
theorem dX7_sendsDown_309 : decode cX7_sendsDown 309 = .ok (.iadd, 1) := by decide +kernel
theorem dX7_sendsDown_310 : decode cX7_sendsDown 310 = .ok (.iastore, 1) := by decide +kernel
theorem dX7_sendsDown_311 : decode cX7_sendsDown 311 = .ok (.iinc 1 1, 3) := by decide +kernel
theorem dX7_sendsDown_314 : decode cX7_sendsDown 314 = .ok (.goto (-241), 3) := by decide +kernel
theorem dX7_sendsDown_317 : decode cX7_sendsDown 317 = .ok (.iconst 0, 1) := by decide +kernel
theorem dX7_sendsDown_318 : decode cX7_sendsDown 318 = .ok (.istore_n 1, 1) := by decide +kernel
theorem dX7_sendsDown_319 : decode cX7_sendsDown 319 = .ok (.iload_n 1, 1) := by decide +kernel
theorem dX7_sendsDown_320 : decode cX7_sendsDown 320 = .ok (.iconst 2, 1) := by decide +kernel
theorem dX7_sendsDown_321 : decode cX7_sendsDown 321 = .ok (.if_icmp .ge 33, 3) := by decide +kernel
theorem dX7_sendsDown_324 : decode cX7_sendsDown 324 = .ok (.aload_n 0, 1) := by decide +kernel
theorem dX7_sendsDown_325 : decode cX7_sendsDown 325 = .ok (.getfield 47, 3) := by decide +kernel
theorem dX7_sendsDown_328 : decode cX7_sendsDown 328 = .ok (.iload_n 1, 1) := by decide +kernel
theorem dX7_sendsDown_329 : decode cX7_sendsDown 329 = .ok (.baload, 1) := by decide +kernel
theorem dX7_sendsDown_330 : decode cX7_sendsDown 330 = .ok (.ifCond .eq 18, 3) := by decide +kernel
theorem dX7_sendsDown_333 : decode cX7_sendsDown 333 = .ok (.aload_n 0, 1) := by decide +kernel
theorem dX7_sendsDown_334 : decode cX7_sendsDown 334 = .ok (.iload_n 1, 1) := by decide +kernel
theorem dX7_sendsDown_335 : decode cX7_sendsDown 335 = .ok (.iload_n 1, 1) := by decide +kernel
theorem dX7_sendsDown_336 : decode cX7_sendsDown 336 = .ok (.aload_n 0, 1) := by decide +kernel
theorem dX7_sendsDown_337 : decode cX7_sendsDown 337 = .ok (.getfield 32, 3) := by decide +kernel
theorem dX7_sendsDown_340 : decode cX7_sendsDown 340 = .ok (.iload_n 1, 1) := by decide +kernel
theorem dX7_sendsDown_341 : decode cX7_sendsDown 341 = .ok (.iaload, 1) := by decide +kernel
theorem dX7_sendsDown_342 : decode cX7_sendsDown 342 = .ok (.invokestatic 82, 3) := by decide +kernel
theorem dX7_sendsDown_345 : decode cX7_sendsDown 345 = .ok (.invokevirtual 205, 3) := by decide +kernel
theorem dX7_sendsDown_348 : decode cX7_sendsDown 348 = .ok (.iinc 1 1, 3) := by decide +kernel
theorem dX7_sendsDown_351 : decode cX7_sendsDown 351 = .ok (.goto (-32), 3) := by decide +kernel
theorem dX7_sendsDown_354 : decode cX7_sendsDown 354 = .ok (.return_, 1) := by decide +kernel
theorem dX7_sendsUp_0 : decode cX7_sendsUp 0 = .ok (.iconst 0, 1) := by decide +kernel
theorem dX7_sendsUp_1 : decode cX7_sendsUp 1 = .ok (.istore_n 1, 1) := by decide +kernel
theorem dX7_sendsUp_2 : decode cX7_sendsUp 2 = .ok (.iload_n 1, 1) := by decide +kernel
theorem dX7_sendsUp_3 : decode cX7_sendsUp 3 = .ok (.iconst 2, 1) := by decide +kernel
theorem dX7_sendsUp_4 : decode cX7_sendsUp 4 = .ok (.if_icmp .ge 61, 3) := by decide +kernel
theorem dX7_sendsUp_7 : decode cX7_sendsUp 7 = .ok (.aload_n 0, 1) := by decide +kernel
theorem dX7_sendsUp_8 : decode cX7_sendsUp 8 = .ok (.getfield 35, 3) := by decide +kernel
theorem dX7_sendsUp_11 : decode cX7_sendsUp 11 = .ok (.iload_n 1, 1) := by decide +kernel
theorem dX7_sendsUp_12 : decode cX7_sendsUp 12 = .ok (.aload_n 0, 1) := by decide +kernel
theorem dX7_sendsUp_13 : decode cX7_sendsUp 13 = .ok (.getfield 47, 3) := by decide +kernel
theorem dX7_sendsUp_16 : decode cX7_sendsUp 16 = .ok (.iload_n 1, 1) := by decide +kernel
theorem dX7_sendsUp_17 : decode cX7_sendsUp 17 = .ok (.baload, 1) := by decide +kernel
theorem dX7_sendsUp_18 : decode cX7_sendsUp 18 = .ok (.ifCond .eq 37, 3) := by decide +kernel
theorem dX7_sendsUp_21 : decode cX7_sendsUp 21 = .ok (.aload_n 0, 1) := by decide +kernel
theorem dX7_sendsUp_22 : decode cX7_sendsUp 22 = .ok (.iload_n 1, 1) := by decide +kernel
theorem dX7_sendsUp_23 : decode cX7_sendsUp 23 = .ok (.aload_n 0, 1) := by decide +kernel
theorem dX7_sendsUp_24 : decode cX7_sendsUp 24 = .ok (.getfield 13, 3) := by decide +kernel
theorem dX7_sendsUp_27 : decode cX7_sendsUp 27 = .ok (.bipush 7, 2) := by decide +kernel
theorem dX7_sendsUp_29 : decode cX7_sendsUp 29 = .ok (.iaload, 1) := by decide +kernel
theorem dX7_sendsUp_30 : decode cX7_sendsUp 30 = .ok (.iconst 1, 1) := by decide +kernel
theorem dX7_sendsUp_31 : decode cX7_sendsUp 31 = .ok (.iadd, 1) := by decide +kernel
theorem dX7_sendsUp_32 : decode cX7_sendsUp 32 = .ok (.aload_n 0, 1) := by decide +kernel
theorem dX7_sendsUp_33 : decode cX7_sendsUp 33 = .ok (.getfield 13, 3) := by decide +kernel
theorem dX7_sendsUp_36 : decode cX7_sendsUp 36 = .ok (.iload_n 1, 1) := by decide +kernel
theorem dX7_sendsUp_37 : decode cX7_sendsUp 37 = .ok (.aload_n 0, 1) := by decide +kernel
theorem dX7_sendsUp_38 : decode cX7_sendsUp 38 = .ok (.getfield 32, 3) := by decide +kernel
theorem dX7_sendsUp_41 : decode cX7_sendsUp 41 = .ok (.iload_n 1, 1) := by decide +kernel
theorem dX7_sendsUp_42 : decode cX7_sendsUp 42 = .ok (.iaload, 1) := by decide +kernel
theorem dX7_sendsUp_43 : decode cX7_sendsUp 43 = .ok (.invokestatic 82, 3) := by decide +kernel
theorem dX7_sendsUp_46 : decode cX7_sendsUp 46 = .ok (.iconst 1, 1) := by decide +kernel
theorem dX7_sendsUp_47 : decode cX7_sendsUp 47 = .ok (.iadd, 1) := by decide +kernel
theorem dX7_sendsUp_48 : decode cX7_sendsUp 48 = .ok (.iaload, 1) := by decide +kernel
theorem dX7_sendsUp_49 : decode cX7_sendsUp 49 = .ok (.invokevirtual 114, 3) := by decide +kernel
theorem dX7_sendsUp_52 : decode cX7_sendsUp 52 = .ok (.goto 6, 3) := by decide +kernel
theorem dX7_sendsUp_55 : decode cX7_sendsUp 55 = .ok (.iconst (-1), 1) := by decide +kernel
theorem dX7_sendsUp_56 : decode cX7_sendsUp 56 = .ok (.iload_n 1, 1) := by decide +kernel
theorem dX7_sendsUp_57 : decode cX7_sendsUp 57 = .ok (.isub, 1) := by decide +kernel
theorem dX7_sendsUp_58 : decode cX7_sendsUp 58 = .ok (.iastore, 1) := by decide +kernel
theorem dX7_sendsUp_59 : decode cX7_sendsUp 59 = .ok (.iinc 1 1, 3) := by decide +kernel
theorem dX7_sendsUp_62 : decode cX7_sendsUp 62 = .ok (.goto (-60), 3) := by decide +kernel
theorem dX7_sendsUp_65 : decode cX7_sendsUp 65 = .ok (.iconst 0, 1) := by decide +kernel
theorem dX7_sendsUp_66 : decode cX7_sendsUp 66 = .ok (.istore_n 1, 1) := by decide +kernel
theorem dX7_sendsUp_67 : decode cX7_sendsUp 67 = .ok (.iload_n 1, 1) := by decide +kernel
theorem dX7_sendsUp_68 : decode cX7_sendsUp 68 = .ok (.iconst 2, 1) := by decide +kernel
theorem dX7_sendsUp_69 : decode cX7_sendsUp 69 = .ok (.if_icmp .ge 133, 3) := by decide +kernel
theorem dX7_sendsUp_72 : decode cX7_sendsUp 72 = .ok (.aload_n 0, 1) := by decide +kernel
theorem dX7_sendsUp_73 : decode cX7_sendsUp 73 = .ok (.getfield 47, 3) := by decide +kernel
theorem dX7_sendsUp_76 : decode cX7_sendsUp 76 = .ok (.iload_n 1, 1) := by decide +kernel
theorem dX7_sendsUp_77 : decode cX7_sendsUp 77 = .ok (.baload, 1) := by decide +kernel
theorem dX7_sendsUp_78 : decode cX7_sendsUp 78 = .ok (.ifCond .eq 118, 3) := by decide +kernel
theorem dX7_sendsUp_81 : decode cX7_sendsUp 81 = .ok (.iload_n 1, 1) := by decide +kernel
theorem dX7_sendsUp_82 : decode cX7_sendsUp 82 = .ok (.aload_n 0, 1) := by decide +kernel
theorem dX7_sendsUp_83 : decode cX7_sendsUp 83 = .ok (.getfield 32, 3) := by decide +kernel
theorem dX7_sendsUp_86 : decode cX7_sendsUp 86 = .ok (.iload_n 1, 1) := by decide +kernel
theorem dX7_sendsUp_87 : decode cX7_sendsUp 87 = .ok (.iaload, 1) := by decide +kernel
theorem dX7_sendsUp_88 : decode cX7_sendsUp 88 = .ok (.invokestatic 82, 3) := by decide +kernel
theorem dX7_sendsUp_91 : decode cX7_sendsUp 91 = .ok (.istore_n 2, 1) := by decide +kernel
theorem dX7_sendsUp_92 : decode cX7_sendsUp 92 = .ok (.aload_n 0, 1) := by decide +kernel
theorem dX7_sendsUp_93 : decode cX7_sendsUp 93 = .ok (.getfield 13, 3) := by decide +kernel
theorem dX7_sendsUp_96 : decode cX7_sendsUp 96 = .ok (.bipush 12, 2) := by decide +kernel
theorem dX7_sendsUp_98 : decode cX7_sendsUp 98 = .ok (.dup2, 1) := by decide +kernel
theorem dX7_sendsUp_99 : decode cX7_sendsUp 99 = .ok (.iaload, 1) := by decide +kernel
theorem dX7_sendsUp_100 : decode cX7_sendsUp 100 = .ok (.iconst 1, 1) := by decide +kernel
theorem dX7_sendsUp_101 : decode cX7_sendsUp 101 = .ok (.iadd, 1) := by decide +kernel
theorem dX7_sendsUp_102 : decode cX7_sendsUp 102 = .ok (.iastore, 1) := by decide +kernel
theorem dX7_sendsUp_103 : decode cX7_sendsUp 103 = .ok (.aload_n 0, 1) := by decide +kernel
theorem dX7_sendsUp_104 : decode cX7_sendsUp 104 = .ok (.iload_n 1, 1) := by decide +kernel
theorem dX7_sendsUp_105 : decode cX7_sendsUp 105 = .ok (.aload_n 0, 1) := by decide +kernel
theorem dX7_sendsUp_106 : decode cX7_sendsUp 106 = .ok (.iload_n 1, 1) := by decide +kernel
theorem dX7_sendsUp_107 : decode cX7_sendsUp 107 = .ok (.aload_n 0, 1) := by decide +kernel
theorem dX7_sendsUp_108 : decode cX7_sendsUp 108 = .ok (.getfield 13, 3) := by decide +kernel
theorem dX7_sendsUp_111 : decode cX7_sendsUp 111 = .ok (.bipush 7, 2) := by decide +kernel
theorem dX7_sendsUp_113 : decode cX7_sendsUp 113 = .ok (.iaload, 1) := by decide +kernel
theorem dX7_sendsUp_114 : decode cX7_sendsUp 114 = .ok (.iconst 1, 1) := by decide +kernel
theorem dX7_sendsUp_115 : decode cX7_sendsUp 115 = .ok (.iadd, 1) := by decide +kernel
theorem dX7_sendsUp_116 : decode cX7_sendsUp 116 = .ok (.aload_n 0, 1) := by decide +kernel
theorem dX7_sendsUp_117 : decode cX7_sendsUp 117 = .ok (.getfield 13, 3) := by decide +kernel
theorem dX7_sendsUp_120 : decode cX7_sendsUp 120 = .ok (.iload_n 1, 1) := by decide +kernel
theorem dX7_sendsUp_121 : decode cX7_sendsUp 121 = .ok (.invokestatic 75, 3) := by decide +kernel
theorem dX7_sendsUp_124 : decode cX7_sendsUp 124 = .ok (.iconst 2, 1) := by decide +kernel
theorem dX7_sendsUp_125 : decode cX7_sendsUp 125 = .ok (.iadd, 1) := by decide +kernel
theorem dX7_sendsUp_126 : decode cX7_sendsUp 126 = .ok (.iaload, 1) := by decide +kernel
theorem dX7_sendsUp_127 : decode cX7_sendsUp 127 = .ok (.invokevirtual 114, 3) := by decide +kernel
theorem dX7_sendsUp_130 : decode cX7_sendsUp 130 = .ok (.invokevirtual 202, 3) := by decide +kernel
theorem dX7_sendsUp_133 : decode cX7_sendsUp 133 = .ok (.istore_n 3, 1) := by decide +kernel
theorem dX7_sendsUp_134 : decode cX7_sendsUp 134 = .ok (.aload_n 0, 1) := by decide +kernel
theorem dX7_sendsUp_135 : decode cX7_sendsUp 135 = .ok (.getfield 13, 3) := by decide +kernel
theorem dX7_sendsUp_138 : decode cX7_sendsUp 138 = .ok (.iload_n 2, 1) := by decide +kernel
theorem dX7_sendsUp_139 : decode cX7_sendsUp 139 = .ok (.bipush 37, 2) := by decide +kernel
theorem dX7_sendsUp_141 : decode cX7_sendsUp 141 = .ok (.iadd, 1) := by decide +kernel
theorem dX7_sendsUp_142 : decode cX7_sendsUp 142 = .ok (.iload_n 3, 1) := by decide +kernel
theorem dX7_sendsUp_143 : decode cX7_sendsUp 143 = .ok (.ifCond .ne 7, 3) := by decide +kernel
theorem dX7_sendsUp_146 : decode cX7_sendsUp 146 = .ok (.iconst 0, 1) := by decide +kernel
theorem dX7_sendsUp_147 : decode cX7_sendsUp 147 = .ok (.goto 7, 3) := by decide +kernel
theorem dX7_sendsUp_150 : decode cX7_sendsUp 150 = .ok (.bipush 20, 2) := by decide +kernel
theorem dX7_sendsUp_152 : decode cX7_sendsUp 152 = .ok (.iload_n 3, 1) := by decide +kernel
theorem dX7_sendsUp_153 : decode cX7_sendsUp 153 = .ok (.iadd, 1) := by decide +kernel
theorem dX7_sendsUp_154 : decode cX7_sendsUp 154 = .ok (.iastore, 1) := by decide +kernel
theorem dX7_sendsUp_155 : decode cX7_sendsUp 155 = .ok (.aload_n 0, 1) := by decide +kernel
theorem dX7_sendsUp_156 : decode cX7_sendsUp 156 = .ok (.getfield 13, 3) := by decide +kernel
theorem dX7_sendsUp_159 : decode cX7_sendsUp 159 = .ok (.bipush 13, 2) := by decide +kernel
theorem dX7_sendsUp_161 : decode cX7_sendsUp 161 = .ok (.iload_n 3, 1) := by decide +kernel
theorem dX7_sendsUp_162 : decode cX7_sendsUp 162 = .ok (.iadd, 1) := by decide +kernel
theorem dX7_sendsUp_163 : decode cX7_sendsUp 163 = .ok (.iload_n 3, 1) := by decide +kernel
theorem dX7_sendsUp_164 : decode cX7_sendsUp 164 = .ok (.ifCond .ne 7, 3) := by decide +kernel
theorem dX7_sendsUp_167 : decode cX7_sendsUp 167 = .ok (.iconst 0, 1) := by decide +kernel
theorem dX7_sendsUp_168 : decode cX7_sendsUp 168 = .ok (.goto 4, 3) := by decide +kernel
theorem dX7_sendsUp_171 : decode cX7_sendsUp 171 = .ok (.iconst 1, 1) := by decide +kernel
theorem dX7_sendsUp_172 : decode cX7_sendsUp 172 = .ok (.isub, 1) := by decide +kernel
theorem dX7_sendsUp_173 : decode cX7_sendsUp 173 = .ok (.dup2, 1) := by decide +kernel
theorem dX7_sendsUp_174 : decode cX7_sendsUp 174 = .ok (.iaload, 1) := by decide +kernel
theorem dX7_sendsUp_175 : decode cX7_sendsUp 175 = .ok (.iload_n 3, 1) := by decide +kernel
theorem dX7_sendsUp_176 : decode cX7_sendsUp 176 = .ok (.ifCond .ne 7, 3) := by decide +kernel
theorem dX7_sendsUp_179 : decode cX7_sendsUp 179 = .ok (.iconst 0, 1) := by decide +kernel
theorem dX7_sendsUp_180 : decode cX7_sendsUp 180 = .ok (.goto 4, 3) := by decide +kernel
theorem dX7_sendsUp_183 : decode cX7_sendsUp 183 = .ok (.iconst 1, 1) := by decide +kernel
theorem dX7_sendsUp_184 : decode cX7_sendsUp 184 = .ok (.iadd, 1) := by decide +kernel
theorem dX7_sendsUp_185 : decode cX7_sendsUp 185 = .ok (.iastore, 1) := by decide +kernel
theorem dX7_sendsUp_186 : decode cX7_sendsUp 186 = .ok (.iload_n 3, 1) := by decide +kernel
theorem dX7_sendsUp_187 : decode cX7_sendsUp 187 = .ok (.ifCond .ne 9, 3) := by decide +kernel
theorem dX7_sendsUp_190 : decode cX7_sendsUp 190 = .ok (.aload_n 0, 1) := by decide +kernel
theorem dX7_sendsUp_191 : decode cX7_sendsUp 191 = .ok (.iload_n 1, 1) := by decide +kernel
theorem dX7_sendsUp_192 : decode cX7_sendsUp 192 = .ok (.iload_n 2, 1) := by decide +kernel
theorem dX7_sendsUp_193 : decode cX7_sendsUp 193 = .ok (.invokevirtual 215, 3) := by decide +kernel
theorem dX7_sendsUp_196 : decode cX7_sendsUp 196 = .ok (.iinc 1 1, 3) := by decide +kernel
theorem dX7_sendsUp_199 : decode cX7_sendsUp 199 = .ok (.goto (-132), 3) := by decide +kernel
theorem dX7_sendsUp_202 : decode cX7_sendsUp 202 = .ok (.return_, 1) := by decide +kernel
theorem dX7_turn_0 : decode cX7_turn 0 = .ok (.iconst 0, 1) := by decide +kernel
theorem dX7_turn_1 : decode cX7_turn 1 = .ok (.istore_n 1, 1) := by decide +kernel
theorem dX7_turn_2 : decode cX7_turn 2 = .ok (.iload_n 1, 1) := by decide +kernel
theorem dX7_turn_3 : decode cX7_turn 3 = .ok (.iconst 2, 1) := by decide +kernel
theorem dX7_turn_4 : decode cX7_turn 4 = .ok (.if_icmp .ge 93, 3) := by decide +kernel
theorem dX7_turn_7 : decode cX7_turn 7 = .ok (.iload_n 1, 1) := by decide +kernel
theorem dX7_turn_8 : decode cX7_turn 8 = .ok (.invokestatic 75, 3) := by decide +kernel
theorem dX7_turn_11 : decode cX7_turn 11 = .ok (.istore_n 2, 1) := by decide +kernel
theorem dX7_turn_12 : decode cX7_turn 12 = .ok (.iconst (-1), 1) := by decide +kernel
theorem dX7_turn_13 : decode cX7_turn 13 = .ok (.istore_n 3, 1) := by decide +kernel
theorem dX7_turn_14 : decode cX7_turn 14 = .ok (.aload_n 0, 1) := by decide +kernel
theorem dX7_turn_15 : decode cX7_turn 15 = .ok (.iload_n 1, 1) := by decide +kernel
theorem dX7_turn_16 : decode cX7_turn 16 = .ok (.invokevirtual 78, 3) := by decide +kernel
theorem dX7_turn_19 : decode cX7_turn 19 = .ok (.ifCond .eq 72, 3) := by decide +kernel
theorem dX7_turn_22 : decode cX7_turn 22 = .ok (.iload_n 3, 1) := by decide +kernel
theorem dX7_turn_23 : decode cX7_turn 23 = .ok (.aload_n 0, 1) := by decide +kernel
theorem dX7_turn_24 : decode cX7_turn 24 = .ok (.getfield 13, 3) := by decide +kernel
theorem dX7_turn_27 : decode cX7_turn 27 = .ok (.iload_n 2, 1) := by decide +kernel
theorem dX7_turn_28 : decode cX7_turn 28 = .ok (.bipush 6, 2) := by decide +kernel
theorem dX7_turn_30 : decode cX7_turn 30 = .ok (.iadd, 1) := by decide +kernel
theorem dX7_turn_31 : decode cX7_turn 31 = .ok (.iaload, 1) := by decide +kernel
theorem dX7_turn_32 : decode cX7_turn 32 = .ok (.if_icmp .ge 59, 3) := by decide +kernel
theorem dX7_turn_35 : decode cX7_turn 35 = .ok (.iload_n 3, 1) := by decide +kernel
theorem dX7_turn_36 : decode cX7_turn 36 = .ok (.iconst (-1), 1) := by decide +kernel
theorem dX7_turn_37 : decode cX7_turn 37 = .ok (.if_icmp .ne 9, 3) := by decide +kernel
theorem dX7_turn_40 : decode cX7_turn 40 = .ok (.iload_n 2, 1) := by decide +kernel
theorem dX7_turn_41 : decode cX7_turn 41 = .ok (.iconst 3, 1) := by decide +kernel
theorem dX7_turn_42 : decode cX7_turn 42 = .ok (.iadd, 1) := by decide +kernel
theorem dX7_turn_43 : decode cX7_turn 43 = .ok (.goto 10, 3) := by decide +kernel
theorem dX7_turn_46 : decode cX7_turn 46 = .ok (.iload_n 1, 1) := by decide +kernel
theorem dX7_turn_47 : decode cX7_turn 47 = .ok (.iload_n 3, 1) := by decide +kernel
theorem dX7_turn_48 : decode cX7_turn 48 = .ok (.invokestatic 82, 3) := by decide +kernel
theorem dX7_turn_51 : decode cX7_turn 51 = .ok (.iconst 2, 1) := by decide +kernel
theorem dX7_turn_52 : decode cX7_turn 52 = .ok (.iadd, 1) := by decide +kernel
theorem dX7_turn_53 : decode cX7_turn 53 = .ok (.istore 4, 2) := by decide +kernel
theorem dX7_turn_55 : decode cX7_turn 55 = .ok (.aload_n 0, 1) := by decide +kernel
theorem dX7_turn_56 : decode cX7_turn 56 = .ok (.iload 4, 2) := by decide +kernel
theorem dX7_turn_58 : decode cX7_turn 58 = .ok (.iload 4, 2) := by decide +kernel
theorem dX7_turn_60 : decode cX7_turn 60 = .ok (.iconst 1, 1) := by decide +kernel
theorem dX7_turn_61 : decode cX7_turn 61 = .ok (.iadd, 1) := by decide +kernel
theorem dX7_turn_62 : decode cX7_turn 62 = .ok (.iload 4, 2) := by decide +kernel
theorem dX7_turn_64 : decode cX7_turn 64 = .ok (.iconst 1, 1) := by decide +kernel
theorem dX7_turn_65 : decode cX7_turn 65 = .ok (.isub, 1) := by decide +kernel
theorem dX7_turn_66 : decode cX7_turn 66 = .ok (.iload_n 3, 1) := by decide +kernel
theorem dX7_turn_67 : decode cX7_turn 67 = .ok (.iconst (-1), 1) := by decide +kernel
theorem dX7_turn_68 : decode cX7_turn 68 = .ok (.if_icmp .ne 10, 3) := by decide +kernel
theorem dX7_turn_71 : decode cX7_turn 71 = .ok (.iload_n 2, 1) := by decide +kernel
theorem dX7_turn_72 : decode cX7_turn 72 = .ok (.bipush 7, 2) := by decide +kernel
theorem dX7_turn_74 : decode cX7_turn 74 = .ok (.iadd, 1) := by decide +kernel
theorem dX7_turn_75 : decode cX7_turn 75 = .ok (.goto 7, 3) := by decide +kernel
theorem dX7_turn_78 : decode cX7_turn 78 = .ok (.iload 4, 2) := by decide +kernel
theorem dX7_turn_80 : decode cX7_turn 80 = .ok (.iconst 1, 1) := by decide +kernel
theorem dX7_turn_81 : decode cX7_turn 81 = .ok (.isub, 1) := by decide +kernel
theorem dX7_turn_82 : decode cX7_turn 82 = .ok (.invokevirtual 218, 3) := by decide +kernel
theorem dX7_turn_85 : decode cX7_turn 85 = .ok (.iinc 3 1, 3) := by decide +kernel
theorem dX7_turn_88 : decode cX7_turn 88 = .ok (.goto (-74), 3) := by decide +kernel
theorem dX7_turn_91 : decode cX7_turn 91 = .ok (.iinc 1 1, 3) := by decide +kernel
theorem dX7_turn_94 : decode cX7_turn 94 = .ok (.goto (-92), 3) := by decide +kernel
theorem dX7_turn_97 : decode cX7_turn 97 = .ok (.iconst 0, 1) := by decide +kernel
theorem dX7_turn_98 : decode cX7_turn 98 = .ok (.istore_n 1, 1) := by decide +kernel
theorem dX7_turn_99 : decode cX7_turn 99 = .ok (.iload_n 1, 1) := by decide +kernel
theorem dX7_turn_100 : decode cX7_turn 100 = .ok (.iconst 2, 1) := by decide +kernel
theorem dX7_turn_101 : decode cX7_turn 101 = .ok (.if_icmp .ge 80, 3) := by decide +kernel
theorem dX7_turn_104 : decode cX7_turn 104 = .ok (.iconst 0, 1) := by decide +kernel
theorem dX7_turn_105 : decode cX7_turn 105 = .ok (.istore_n 2, 1) := by decide +kernel
theorem dX7_turn_106 : decode cX7_turn 106 = .ok (.aload_n 0, 1) := by decide +kernel
theorem dX7_turn_107 : decode cX7_turn 107 = .ok (.iload_n 1, 1) := by decide +kernel
theorem dX7_turn_108 : decode cX7_turn 108 = .ok (.invokevirtual 78, 3) := by decide +kernel
theorem dX7_turn_111 : decode cX7_turn 111 = .ok (.ifCond .eq 64, 3) := by decide +kernel
theorem dX7_turn_114 : decode cX7_turn 114 = .ok (.iload_n 2, 1) := by decide +kernel
theorem dX7_turn_115 : decode cX7_turn 115 = .ok (.aload_n 0, 1) := by decide +kernel
theorem dX7_turn_116 : decode cX7_turn 116 = .ok (.getfield 13, 3) := by decide +kernel
theorem dX7_turn_119 : decode cX7_turn 119 = .ok (.iload_n 1, 1) := by decide +kernel
theorem dX7_turn_120 : decode cX7_turn 120 = .ok (.invokestatic 75, 3) := by decide +kernel
theorem dX7_turn_123 : decode cX7_turn 123 = .ok (.bipush 6, 2) := by decide +kernel
theorem dX7_turn_125 : decode cX7_turn 125 = .ok (.iadd, 1) := by decide +kernel
theorem dX7_turn_126 : decode cX7_turn 126 = .ok (.iaload, 1) := by decide +kernel
theorem dX7_turn_127 : decode cX7_turn 127 = .ok (.if_icmp .ge 48, 3) := by decide +kernel
theorem dX7_turn_130 : decode cX7_turn 130 = .ok (.aload_n 0, 1) := by decide +kernel
theorem dX7_turn_131 : decode cX7_turn 131 = .ok (.iload_n 1, 1) := by decide +kernel
theorem dX7_turn_132 : decode cX7_turn 132 = .ok (.iload_n 2, 1) := by decide +kernel
theorem dX7_turn_133 : decode cX7_turn 133 = .ok (.invokestatic 82, 3) := by decide +kernel
theorem dX7_turn_136 : decode cX7_turn 136 = .ok (.invokevirtual 221, 3) := by decide +kernel
theorem dX7_turn_139 : decode cX7_turn 139 = .ok (.aload_n 0, 1) := by decide +kernel
theorem dX7_turn_140 : decode cX7_turn 140 = .ok (.getfield 13, 3) := by decide +kernel
theorem dX7_turn_143 : decode cX7_turn 143 = .ok (.iload_n 1, 1) := by decide +kernel
theorem dX7_turn_144 : decode cX7_turn 144 = .ok (.iload_n 2, 1) := by decide +kernel
theorem dX7_turn_145 : decode cX7_turn 145 = .ok (.invokestatic 82, 3) := by decide +kernel
theorem dX7_turn_148 : decode cX7_turn 148 = .ok (.bipush 42, 2) := by decide +kernel
theorem dX7_turn_150 : decode cX7_turn 150 = .ok (.iadd, 1) := by decide +kernel
theorem dX7_turn_151 : decode cX7_turn 151 = .ok (.dup2, 1) := by decide +kernel
theorem dX7_turn_152 : decode cX7_turn 152 = .ok (.iaload, 1) := by decide +kernel
theorem dX7_turn_153 : decode cX7_turn 153 = .ok (.aload_n 0, 1) := by decide +kernel
theorem dX7_turn_154 : decode cX7_turn 154 = .ok (.iload_n 1, 1) := by decide +kernel
theorem dX7_turn_155 : decode cX7_turn 155 = .ok (.iload_n 2, 1) := by decide +kernel
theorem dX7_turn_156 : decode cX7_turn 156 = .ok (.invokevirtual 182, 3) := by decide +kernel
theorem dX7_turn_159 : decode cX7_turn 159 = .ok (.ifCond .eq 7, 3) := by decide +kernel
theorem dX7_turn_162 : decode cX7_turn 162 = .ok (.iconst 1, 1) := by decide +kernel
theorem dX7_turn_163 : decode cX7_turn 163 = .ok (.goto 4, 3) := by decide +kernel
theorem dX7_turn_166 : decode cX7_turn 166 = .ok (.iconst 0, 1) := by decide +kernel
theorem dX7_turn_167 : decode cX7_turn 167 = .ok (.iadd, 1) := by decide +kernel
theorem dX7_turn_168 : decode cX7_turn 168 = .ok (.iastore, 1) := by decide +kernel
theorem dX7_turn_169 : decode cX7_turn 169 = .ok (.iinc 2 1, 3) := by decide +kernel
theorem dX7_turn_172 : decode cX7_turn 172 = .ok (.goto (-66), 3) := by decide +kernel
theorem dX7_turn_175 : decode cX7_turn 175 = .ok (.iinc 1 1, 3) := by decide +kernel
theorem dX7_turn_178 : decode cX7_turn 178 = .ok (.goto (-79), 3) := by decide +kernel
theorem dX7_turn_181 : decode cX7_turn 181 = .ok (.iconst 0, 1) := by decide +kernel
theorem dX7_turn_182 : decode cX7_turn 182 = .ok (.istore_n 1, 1) := by decide +kernel
theorem dX7_turn_183 : decode cX7_turn 183 = .ok (.iload_n 1, 1) := by decide +kernel
theorem dX7_turn_184 : decode cX7_turn 184 = .ok (.iconst 2, 1) := by decide +kernel
theorem dX7_turn_185 : decode cX7_turn 185 = .ok (.if_icmp .ge 32, 3) := by decide +kernel
theorem dX7_turn_188 : decode cX7_turn 188 = .ok (.aload_n 0, 1) := by decide +kernel
theorem dX7_turn_189 : decode cX7_turn 189 = .ok (.getfield 32, 3) := by decide +kernel
theorem dX7_turn_192 : decode cX7_turn 192 = .ok (.iload_n 1, 1) := by decide +kernel
theorem dX7_turn_193 : decode cX7_turn 193 = .ok (.aload_n 0, 1) := by decide +kernel
theorem dX7_turn_194 : decode cX7_turn 194 = .ok (.iload_n 1, 1) := by decide +kernel
theorem dX7_turn_195 : decode cX7_turn 195 = .ok (.invokevirtual 78, 3) := by decide +kernel
theorem dX7_turn_198 : decode cX7_turn 198 = .ok (.ifCond .eq 11, 3) := by decide +kernel
theorem dX7_turn_201 : decode cX7_turn 201 = .ok (.aload_n 0, 1) := by decide +kernel
theorem dX7_turn_202 : decode cX7_turn 202 = .ok (.iload_n 1, 1) := by decide +kernel
theorem dX7_turn_203 : decode cX7_turn 203 = .ok (.invokevirtual 224, 3) := by decide +kernel
theorem dX7_turn_206 : decode cX7_turn 206 = .ok (.goto 4, 3) := by decide +kernel
theorem dX7_turn_209 : decode cX7_turn 209 = .ok (.iconst (-1), 1) := by decide +kernel
theorem dX7_turn_210 : decode cX7_turn 210 = .ok (.iastore, 1) := by decide +kernel
theorem dX7_turn_211 : decode cX7_turn 211 = .ok (.iinc 1 1, 3) := by decide +kernel
theorem dX7_turn_214 : decode cX7_turn 214 = .ok (.goto (-31), 3) := by decide +kernel
theorem dX7_turn_217 : decode cX7_turn 217 = .ok (.aload_n 0, 1) := by decide +kernel
theorem dX7_turn_218 : decode cX7_turn 218 = .ok (.invokevirtual 227, 3) := by decide +kernel
theorem dX7_turn_221 : decode cX7_turn 221 = .ok (.aload_n 0, 1) := by decide +kernel
theorem dX7_turn_222 : decode cX7_turn 222 = .ok (.invokevirtual 230, 3) := by decide +kernel
theorem dX7_turn_225 : decode cX7_turn 225 = .ok (.iconst 0, 1) := by decide +kernel
theorem dX7_turn_226 : decode cX7_turn 226 = .ok (.istore_n 1, 1) := by decide +kernel
theorem dX7_turn_227 : decode cX7_turn 227 = .ok (.iload_n 1, 1) := by decide +kernel
theorem dX7_turn_228 : decode cX7_turn 228 = .ok (.iconst 2, 1) := by decide +kernel
theorem dX7_turn_229 : decode cX7_turn 229 = .ok (.if_icmp .ge 127, 3) := by decide +kernel
theorem dX7_turn_232 : decode cX7_turn 232 = .ok (.iconst 0, 1) := by decide +kernel
theorem dX7_turn_233 : decode cX7_turn 233 = .ok (.istore_n 2, 1) := by decide +kernel
theorem dX7_turn_234 : decode cX7_turn 234 = .ok (.aload_n 0, 1) := by decide +kernel
theorem dX7_turn_235 : decode cX7_turn 235 = .ok (.iload_n 1, 1) := by decide +kernel
theorem dX7_turn_236 : decode cX7_turn 236 = .ok (.invokevirtual 78, 3) := by decide +kernel
theorem dX7_turn_239 : decode cX7_turn 239 = .ok (.ifCond .eq 111, 3) := by decide +kernel
theorem dX7_turn_242 : decode cX7_turn 242 = .ok (.iload_n 2, 1) := by decide +kernel
theorem dX7_turn_243 : decode cX7_turn 243 = .ok (.aload_n 0, 1) := by decide +kernel
theorem dX7_turn_244 : decode cX7_turn 244 = .ok (.getfield 13, 3) := by decide +kernel
theorem dX7_turn_247 : decode cX7_turn 247 = .ok (.iload_n 1, 1) := by decide +kernel
theorem dX7_turn_248 : decode cX7_turn 248 = .ok (.invokestatic 75, 3) := by decide +kernel
theorem dX7_turn_251 : decode cX7_turn 251 = .ok (.bipush 6, 2) := by decide +kernel
theorem dX7_turn_253 : decode cX7_turn 253 = .ok (.iadd, 1) := by decide +kernel
theorem dX7_turn_254 : decode cX7_turn 254 = .ok (.iaload, 1) := by decide +kernel
theorem dX7_turn_255 : decode cX7_turn 255 = .ok (.if_icmp .ge 95, 3) := by decide +kernel
theorem dX7_turn_258 : decode cX7_turn 258 = .ok (.iload_n 1, 1) := by decide +kernel
theorem dX7_turn_259 : decode cX7_turn 259 = .ok (.iload_n 2, 1) := by decide +kernel
theorem dX7_turn_260 : decode cX7_turn 260 = .ok (.invokestatic 82, 3) := by decide +kernel
theorem dX7_turn_263 : decode cX7_turn 263 = .ok (.istore_n 3, 1) := by decide +kernel
theorem dX7_turn_264 : decode cX7_turn 264 = .ok (.aload_n 0, 1) := by decide +kernel
theorem dX7_turn_265 : decode cX7_turn 265 = .ok (.getfield 13, 3) := by decide +kernel
theorem dX7_turn_268 : decode cX7_turn 268 = .ok (.iload_n 3, 1) := by decide +kernel
theorem dX7_turn_269 : decode cX7_turn 269 = .ok (.bipush 36, 2) := by decide +kernel
theorem dX7_turn_271 : decode cX7_turn 271 = .ok (.iadd, 1) := by decide +kernel
theorem dX7_turn_272 : decode cX7_turn 272 = .ok (.iaload, 1) := by decide +kernel
theorem dX7_turn_273 : decode cX7_turn 273 = .ok (.ifCond .le 71, 3) := by decide +kernel
theorem dX7_turn_276 : decode cX7_turn 276 = .ok (.aload_n 0, 1) := by decide +kernel
theorem dX7_turn_277 : decode cX7_turn 277 = .ok (.getfield 13, 3) := by decide +kernel
theorem dX7_turn_280 : decode cX7_turn 280 = .ok (.iload_n 3, 1) := by decide +kernel
theorem dX7_turn_281 : decode cX7_turn 281 = .ok (.bipush 36, 2) := by decide +kernel
theorem dX7_turn_283 : decode cX7_turn 283 = .ok (.iadd, 1) := by decide +kernel
theorem dX7_turn_284 : decode cX7_turn 284 = .ok (.dup2, 1) := by decide +kernel
theorem dX7_turn_285 : decode cX7_turn 285 = .ok (.iaload, 1) := by decide +kernel
theorem dX7_turn_286 : decode cX7_turn 286 = .ok (.iconst 1, 1) := by decide +kernel
theorem dX7_turn_287 : decode cX7_turn 287 = .ok (.isub, 1) := by decide +kernel
theorem dX7_turn_288 : decode cX7_turn 288 = .ok (.iastore, 1) := by decide +kernel
theorem dX7_turn_289 : decode cX7_turn 289 = .ok (.aload_n 0, 1) := by decide +kernel
theorem dX7_turn_290 : decode cX7_turn 290 = .ok (.getfield 13, 3) := by decide +kernel
theorem dX7_turn_293 : decode cX7_turn 293 = .ok (.iload_n 3, 1) := by decide +kernel
theorem dX7_turn_294 : decode cX7_turn 294 = .ok (.bipush 35, 2) := by decide +kernel
theorem dX7_turn_296 : decode cX7_turn 296 = .ok (.iadd, 1) := by decide +kernel
theorem dX7_turn_297 : decode cX7_turn 297 = .ok (.dup2, 1) := by decide +kernel
theorem dX7_turn_298 : decode cX7_turn 298 = .ok (.iaload, 1) := by decide +kernel
theorem dX7_turn_299 : decode cX7_turn 299 = .ok (.aload_n 0, 1) := by decide +kernel
theorem dX7_turn_300 : decode cX7_turn 300 = .ok (.getfield 13, 3) := by decide +kernel
theorem dX7_turn_303 : decode cX7_turn 303 = .ok (.iload_n 3, 1) := by decide +kernel
theorem dX7_turn_304 : decode cX7_turn 304 = .ok (.bipush 36, 2) := by decide +kernel
theorem dX7_turn_306 : decode cX7_turn 306 = .ok (.iadd, 1) := by decide +kernel
theorem dX7_turn_307 : decode cX7_turn 307 = .ok (.iaload, 1) := by decide +kernel
theorem dX7_turn_308 : decode cX7_turn 308 = .ok (.ifCond .ne 7, 3) := by decide +kernel
theorem dX7_turn_311 : decode cX7_turn 311 = .ok (.iconst 1, 1) := by decide +kernel
theorem dX7_turn_312 : decode cX7_turn 312 = .ok (.goto 4, 3) := by decide +kernel
theorem dX7_turn_315 : decode cX7_turn 315 = .ok (.iconst 0, 1) := by decide +kernel
theorem dX7_turn_316 : decode cX7_turn 316 = .ok (.iadd, 1) := by decide +kernel
theorem dX7_turn_317 : decode cX7_turn 317 = .ok (.iastore, 1) := by decide +kernel
theorem dX7_turn_318 : decode cX7_turn 318 = .ok (.aload_n 0, 1) := by decide +kernel
theorem dX7_turn_319 : decode cX7_turn 319 = .ok (.dup, 1) := by decide +kernel
theorem dX7_turn_320 : decode cX7_turn 320 = .ok (.getfield 233, 3) := by decide +kernel
theorem dX7_turn_323 : decode cX7_turn 323 = .ok (.aload_n 0, 1) := by decide +kernel
theorem dX7_turn_324 : decode cX7_turn 324 = .ok (.getfield 13, 3) := by decide +kernel
theorem dX7_turn_327 : decode cX7_turn 327 = .ok (.iload_n 3, 1) := by decide +kernel
theorem dX7_turn_328 : decode cX7_turn 328 = .ok (.bipush 36, 2) := by decide +kernel
theorem dX7_turn_330 : decode cX7_turn 330 = .ok (.iadd, 1) := by decide +kernel
theorem dX7_turn_331 : decode cX7_turn 331 = .ok (.iaload, 1) := by decide +kernel
theorem dX7_turn_332 : decode cX7_turn 332 = .ok (.ifCond .ne 7, 3) := by decide +kernel
theorem dX7_turn_335 : decode cX7_turn 335 = .ok (.iconst 1, 1) := by decide +kernel
theorem dX7_turn_336 : decode cX7_turn 336 = .ok (.goto 4, 3) := by decide +kernel
theorem dX7_turn_339 : decode cX7_turn 339 = .ok (.iconst 0, 1) := by decide +kernel
theorem dX7_turn_340 : decode cX7_turn 340 = .ok (.iadd, 1) := by decide +kernel
theorem dX7_turn_341 : decode cX7_turn 341 = .ok (.putfield 233, 3) := by decide +kernel
theorem dX7_turn_344 : decode cX7_turn 344 = .ok (.iinc 2 1, 3) := by decide +kernel
theorem dX7_turn_347 : decode cX7_turn 347 = .ok (.goto (-113), 3) := by decide +kernel
theorem dX7_turn_350 : decode cX7_turn 350 = .ok (.iinc 1 1, 3) := by decide +kernel
theorem dX7_turn_353 : decode cX7_turn 353 = .ok (.goto (-126), 3) := by decide +kernel
theorem dX7_turn_356 : decode cX7_turn 356 = .ok (.aload_n 0, 1) := by decide +kernel
theorem dX7_turn_357 : decode cX7_turn 357 = .ok (.getfield 13, 3) := by decide +kernel
theorem dX7_turn_360 : decode cX7_turn 360 = .ok (.bipush 7, 2) := by decide +kernel
theorem dX7_turn_362 : decode cX7_turn 362 = .ok (.dup2, 1) := by decide +kernel
theorem dX7_turn_363 : decode cX7_turn 363 = .ok (.iaload, 1) := by decide +kernel
theorem dX7_turn_364 : decode cX7_turn 364 = .ok (.iconst 2, 1) := by decide +kernel
theorem dX7_turn_365 : decode cX7_turn 365 = .ok (.iadd, 1) := by decide +kernel
theorem dX7_turn_366 : decode cX7_turn 366 = .ok (.iastore, 1) := by decide +kernel
theorem dX7_turn_367 : decode cX7_turn 367 = .ok (.return_, 1) := by decide +kernel
theorem dX7_turnsBy_0 : decode cX7_turnsBy 0 = .ok (.aload_n 0, 1) := by decide +kernel
theorem dX7_turnsBy_1 : decode cX7_turnsBy 1 = .ok (.iconst 0, 1) := by decide +kernel
theorem dX7_turnsBy_2 : decode cX7_turnsBy 2 = .ok (.putfield 189, 3) := by decide +kernel
theorem dX7_turnsBy_5 : decode cX7_turnsBy 5 = .ok (.aload_n 0, 1) := by decide +kernel
theorem dX7_turnsBy_6 : decode cX7_turnsBy 6 = .ok (.iconst 0, 1) := by decide +kernel
theorem dX7_turnsBy_7 : decode cX7_turnsBy 7 = .ok (.putfield 233, 3) := by decide +kernel
theorem dX7_turnsBy_10 : decode cX7_turnsBy 10 = .ok (.iconst 0, 1) := by decide +kernel
theorem dX7_turnsBy_11 : decode cX7_turnsBy 11 = .ok (.istore_n 2, 1) := by decide +kernel
theorem dX7_turnsBy_12 : decode cX7_turnsBy 12 = .ok (.iload_n 2, 1) := by decide +kernel
theorem dX7_turnsBy_13 : decode cX7_turnsBy 13 = .ok (.iload_n 1, 1) := by decide +kernel
theorem dX7_turnsBy_14 : decode cX7_turnsBy 14 = .ok (.if_icmp .ge 13, 3) := by decide +kernel
theorem dX7_turnsBy_17 : decode cX7_turnsBy 17 = .ok (.aload_n 0, 1) := by decide +kernel
theorem dX7_turnsBy_18 : decode cX7_turnsBy 18 = .ok (.invokevirtual 236, 3) := by decide +kernel
theorem dX7_turnsBy_21 : decode cX7_turnsBy 21 = .ok (.iinc 2 1, 3) := by decide +kernel
theorem dX7_turnsBy_24 : decode cX7_turnsBy 24 = .ok (.goto (-12), 3) := by decide +kernel
theorem dX7_turnsBy_27 : decode cX7_turnsBy 27 = .ok (.return_, 1) := by decide +kernel
theorem dX7_canTurn_0 : decode cX7_canTurn 0 = .ok (.iload_n 1, 1) := by decide +kernel
theorem dX7_canTurn_1 : decode cX7_canTurn 1 = .ok (.i2l, 1) := by decide +kernel
theorem dX7_canTurn_2 : decode cX7_canTurn 2 = .ok (.lconst 1, 1) := by decide +kernel
theorem dX7_canTurn_3 : decode cX7_canTurn 3 = .ok (.ldc2_w 239, 3) := by decide +kernel
theorem dX7_canTurn_6 : decode cX7_canTurn 6 = .ok (.invokestatic 71, 3) := by decide +kernel
theorem dX7_canTurn_9 : decode cX7_canTurn 9 = .ok (.ifCond .eq 23, 3) := by decide +kernel
theorem dX7_canTurn_12 : decode cX7_canTurn 12 = .ok (.aload_n 0, 1) := by decide +kernel
theorem dX7_canTurn_13 : decode cX7_canTurn 13 = .ok (.getfield 13, 3) := by decide +kernel
theorem dX7_canTurn_16 : decode cX7_canTurn 16 = .ok (.bipush 7, 2) := by decide +kernel
theorem dX7_canTurn_18 : decode cX7_canTurn 18 = .ok (.iaload, 1) := by decide +kernel
theorem dX7_canTurn_19 : decode cX7_canTurn 19 = .ok (.iconst 2, 1) := by decide +kernel
theorem dX7_canTurn_20 : decode cX7_canTurn 20 = .ok (.iload_n 1, 1) := by decide +kernel
theorem dX7_canTurn_21 : decode cX7_canTurn 21 = .ok (.imul, 1) := by decide +kernel
theorem dX7_canTurn_22 : decode cX7_canTurn 22 = .ok (.iadd, 1) := by decide +kernel
theorem dX7_canTurn_23 : decode cX7_canTurn 23 = .ok (.ldc 241, 2) := by decide +kernel
theorem dX7_canTurn_25 : decode cX7_canTurn 25 = .ok (.if_icmp .gt 7, 3) := by decide +kernel
theorem dX7_canTurn_28 : decode cX7_canTurn 28 = .ok (.iconst 1, 1) := by decide +kernel
theorem dX7_canTurn_29 : decode cX7_canTurn 29 = .ok (.goto 4, 3) := by decide +kernel
theorem dX7_canTurn_32 : decode cX7_canTurn 32 = .ok (.iconst 0, 1) := by decide +kernel
theorem dX7_canTurn_33 : decode cX7_canTurn 33 = .ok (.ireturn, 1) := by decide +kernel
theorem dX7_tries_0 : decode cX7_tries 0 = .ok (.aload_n 0, 1) := by decide +kernel
theorem dX7_tries_1 : decode cX7_tries 1 = .ok (.getfield 13, 3) := by decide +kernel
theorem dX7_tries_4 : decode cX7_tries 4 = .ok (.iconst 0, 1) := by decide +kernel
theorem dX7_tries_5 : decode cX7_tries 5 = .ok (.aload_n 0, 1) := by decide +kernel
theorem dX7_tries_6 : decode cX7_tries 6 = .ok (.getfield 29, 3) := by decide +kernel
theorem dX7_tries_9 : decode cX7_tries 9 = .ok (.iconst 0, 1) := by decide +kernel
theorem dX7_tries_10 : decode cX7_tries 10 = .ok (.invokestatic 60, 3) := by decide +kernel
theorem dX7_tries_13 : decode cX7_tries 13 = .ok (.aload_n 0, 1) := by decide +kernel
theorem dX7_tries_14 : decode cX7_tries 14 = .ok (.getfield 13, 3) := by decide +kernel
theorem dX7_tries_17 : decode cX7_tries 17 = .ok (.bipush 9, 2) := by decide +kernel
theorem dX7_tries_19 : decode cX7_tries 19 = .ok (.iload_n 1, 1) := by decide +kernel
theorem dX7_tries_20 : decode cX7_tries 20 = .ok (.iastore, 1) := by decide +kernel
theorem dX7_tries_21 : decode cX7_tries 21 = .ok (.aload_n 0, 1) := by decide +kernel
theorem dX7_tries_22 : decode cX7_tries 22 = .ok (.iload_n 2, 1) := by decide +kernel
theorem dX7_tries_23 : decode cX7_tries 23 = .ok (.invokevirtual 242, 3) := by decide +kernel
theorem dX7_tries_26 : decode cX7_tries 26 = .ok (.iload_n 3, 1) := by decide +kernel
theorem dX7_tries_27 : decode cX7_tries 27 = .ok (.ifCond .ne 10, 3) := by decide +kernel
theorem dX7_tries_30 : decode cX7_tries 30 = .ok (.aload_n 0, 1) := by decide +kernel
theorem dX7_tries_31 : decode cX7_tries 31 = .ok (.getfield 189, 3) := by decide +kernel
theorem dX7_tries_34 : decode cX7_tries 34 = .ok (.goto 19, 3) := by decide +kernel
theorem dX7_tries_37 : decode cX7_tries 37 = .ok (.iload_n 3, 1) := by decide +kernel
theorem dX7_tries_38 : decode cX7_tries 38 = .ok (.iconst 1, 1) := by decide +kernel
theorem dX7_tries_39 : decode cX7_tries 39 = .ok (.if_icmp .ne 10, 3) := by decide +kernel
theorem dX7_tries_42 : decode cX7_tries 42 = .ok (.aload_n 0, 1) := by decide +kernel
theorem dX7_tries_43 : decode cX7_tries 43 = .ok (.getfield 233, 3) := by decide +kernel
theorem dX7_tries_46 : decode cX7_tries 46 = .ok (.goto 7, 3) := by decide +kernel
theorem dX7_tries_49 : decode cX7_tries 49 = .ok (.aload_n 0, 1) := by decide +kernel
theorem dX7_tries_50 : decode cX7_tries 50 = .ok (.invokevirtual 277, 3) := by decide +kernel
theorem dX7_tries_53 : decode cX7_tries 53 = .ok (.istore 4, 2) := by decide +kernel
theorem dX7_tries_55 : decode cX7_tries 55 = .ok (.aload_n 0, 1) := by decide +kernel
theorem dX7_tries_56 : decode cX7_tries 56 = .ok (.getfield 29, 3) := by decide +kernel
theorem dX7_tries_59 : decode cX7_tries 59 = .ok (.iconst 0, 1) := by decide +kernel
theorem dX7_tries_60 : decode cX7_tries 60 = .ok (.aload_n 0, 1) := by decide +kernel
theorem dX7_tries_61 : decode cX7_tries 61 = .ok (.getfield 13, 3) := by decide +kernel
theorem dX7_tries_64 : decode cX7_tries 64 = .ok (.iconst 0, 1) := by decide +kernel
theorem dX7_tries_65 : decode cX7_tries 65 = .ok (.invokestatic 60, 3) := by decide +kernel
theorem dX7_tries_68 : decode cX7_tries 68 = .ok (.iload 4, 2) := by decide +kernel
theorem dX7_tries_70 : decode cX7_tries 70 = .ok (.ireturn, 1) := by decide +kernel
set_option maxHeartbeats 4000000 in
set_option maxRecDepth 100000 in
theorem c_in (l : Launch) (E : hE) (ρ : Nat → Nat → Int32) (v lo hi : Int64) (a b : Int) (ha : lo.toInt = a) (hb2 : hi.toInt = b) : Met l yX7_in (.code yX7_in cX7_in 6 (some .boolean) :: gw_all) (rmk 0 0) (cPre E ρ [.long v, .long lo, .long hi]) (cI E (fun r ρ1 => ρ = ρ1 ∧ ((r = 1 ∧ lR v a b) ∨ (r = 0 ∧ ¬ lR v a b)))) 0 0 (hA E) := by
  refine ent (own := RX7) (by decide) rfl (Nat.le_of_ble_eq_true rfl) ?_
  intro p e s m below meth c ls B hr hlk hl hP hS
  have hx := B.1.1
  have hb := B.1.2.1
  have hown := B.1.2.2.2.1
  have hts := B.1.2.2.2.2
  have hl : lv_has ls 6 [(0, .long v), (2, .long lo), (4, .long hi)] := hl
  refine lv_lload_n hx hb dX7_in_0 rfl (lv_at hl 0 rfl) ?_
  refine lv_lload_n hx hb dX7_in_1 rfl (lv_at hl 1 rfl) ?_
  refine W.lcmp hx hb dX7_in_2 ?_
  refine lv_if_lt (tgt := 17) hx hb dX7_in_3 (by decide) (fun c1 => ?_) (fun c1 => ?_)
  · skip
    refine lv_iconst (v := 0) hx hb dX7_in_17 (by decide) ?_
    exact ret_z B hr hlk hP hS dX7_in_18 (Or.inl rfl) (⟨rfl, Or.inr ⟨rfl, lR_lo ha c1⟩⟩)
  · skip
    refine lv_lload_n hx hb dX7_in_6 rfl (lv_at hl 0 rfl) ?_
    refine lv_lload hx hb dX7_in_7 (lv_at hl 2 rfl) ?_
    refine W.lcmp hx hb dX7_in_9 ?_
    refine lv_if_gt (tgt := 17) hx hb dX7_in_10 (by decide) (fun c2 => ?_) (fun c2 => ?_)
    · skip
      refine lv_iconst (v := 0) hx hb dX7_in_17 (by decide) ?_
      exact ret_z B hr hlk hP hS dX7_in_18 (Or.inl rfl) (⟨rfl, Or.inr ⟨rfl, lR_hi hb2 c2⟩⟩)
    · skip
      refine lv_iconst (v := 1) hx hb dX7_in_13 (by decide) ?_
      refine lv_goto (tgt := 18) hx hb dX7_in_14 (by decide) ?_
      exact ret_z B hr hlk hP hS dX7_in_18 (Or.inr rfl) (⟨rfl, Or.inl ⟨rfl, lR_in ha hb2 c1 c2⟩⟩)

theorem lk_RX7_71 : LkS RX7 71 yX7_in cX7_in 6 (some .boolean) 3 := ⟨⟨mw_1101, mw_1102, mw_59, mw_1103⟩, by decide +kernel⟩
set_option maxHeartbeats 4000000 in
set_option maxRecDepth 100000 in
theorem c_isEven (l : Launch) (E : hE) (ρ : Nat → Nat → Int32) (v lo hi : Int32) (a b : Int) (ha : lo.toInt = a) (hb2 : hi.toInt = b) : Met l yX7_isEven (.code yX7_isEven cX7_isEven 3 (some .boolean) :: gw_all) (rmk 1 40) (cPre E ρ [.int v, .int lo, .int hi]) (cI E (fun r ρ1 => ρ = ρ1 ∧ ((r = 1 ∧ iR v a b ∧ ev v) ∨ (r = 0 ∧ ¬ (iR v a b ∧ ev v))))) 0 0 (hA E) := by
  refine ent (own := RX7) (by decide) rfl (Nat.le_of_ble_eq_true rfl) ?_
  intro p e s m below meth c ls B hr hlk hl hP hS
  have hx := B.1.1
  have hb := B.1.2.1
  have hown := B.1.2.2.2.1
  have hts := B.1.2.2.2.2
  have hl : lv_has ls 3 [(0, .int v), (1, .int lo), (2, .int hi)] := hl
  refine lv_iload_n hx hb dX7_isEven_0 rfl (lv_at hl 0 rfl) ?_
  refine lv_i2l hx hb dX7_isEven_1 rfl ?_
  refine lv_iload_n hx hb dX7_isEven_2 rfl (lv_at hl 1 rfl) ?_
  refine lv_i2l hx hb dX7_isEven_3 rfl ?_
  refine lv_iload_n hx hb dX7_isEven_4 rfl (lv_at hl 2 rfl) ?_
  refine lv_i2l hx hb dX7_isEven_5 rfl ?_
  refine call_i (cS (av := [.long v.toInt64, .long lo.toInt64, .long hi.toInt64]) (rest := []) B hP hS (c_in l E ρ v.toInt64 lo.toInt64 hi.toInt64 a b ((Int32.toInt_toInt64 lo).trans ha) ((Int32.toInt_toInt64 hi).trans hb2)) lk_RX7_71 rfl rfl hl.1 (Nat.le_of_ble_eq_true rfl) ⟨Nat.le_of_ble_eq_true rfl, Nat.le_of_ble_eq_true rfl⟩ ⟨Nat.le_of_ble_eq_true rfl, Nat.le_of_ble_eq_true rfl⟩ dX7_isEven_6) hS (fun r1 ρ2 H locs q3 hP hS => ?_)
  obtain ⟨rfl, q3⟩ := q3
  rw [lR_i] at q3
  rcases q3 with ⟨rfl, q3⟩ | ⟨rfl, q3⟩
  · skip
    refine lv_if_eq (tgt := 22) hx hb dX7_isEven_9 (by decide) (fun c4 => absurd c4 (by decide)) (fun _ => ?_)
    refine lv_iload_n hx hb dX7_isEven_12 rfl (lv_at hl 0 rfl) ?_
    refine lv_iconst (v := 2) hx hb dX7_isEven_13 (by decide) ?_
    refine lv_irem hx hb dX7_isEven_14 (by decide) ?_
    refine lv_if_ne (tgt := 22) hx hb dX7_isEven_15 (by decide) (fun c5 => ?_) (fun c5 => ?_)
    · skip
      refine lv_iconst (v := 0) hx hb dX7_isEven_22 (by decide) ?_
      exact ret_z B hr hlk hP hS dX7_isEven_23 (Or.inl rfl) (⟨rfl, Or.inr ⟨rfl, fun z => c5 z.2⟩⟩)
    · skip
      refine lv_iconst (v := 1) hx hb dX7_isEven_18 (by decide) ?_
      refine lv_goto (tgt := 23) hx hb dX7_isEven_19 (by decide) ?_
      exact ret_z B hr hlk hP hS dX7_isEven_23 (Or.inr rfl) (⟨rfl, Or.inl ⟨rfl, q3, c5⟩⟩)
  · skip
    refine lv_if_eq (tgt := 22) hx hb dX7_isEven_9 (by decide) (fun _ => ?_) (fun c6 => absurd c6 (by decide))
    refine lv_iconst (v := 0) hx hb dX7_isEven_22 (by decide) ?_
    exact ret_z B hr hlk hP hS dX7_isEven_23 (Or.inl rfl) (⟨rfl, Or.inr ⟨rfl, fun z => q3 z.1⟩⟩)

set_option maxHeartbeats 4000000 in
set_option maxRecDepth 100000 in
theorem c_isShare (l : Launch) (E : hE) (ρ : Nat → Nat → Int32) (v : Int32) : Met l yX7_isShare (.code yX7_isShare cX7_isShare 1 (some .boolean) :: gw_all) (rmk 1 40) (cPre E ρ [.int v]) (cI E (fun r ρ1 => ρ = ρ1 ∧ ((r = 1 ∧ iR v 0 32 ∧ ev v) ∨ (r = 0 ∧ ¬ (iR v 0 32 ∧ ev v))))) 0 0 (hA E) := by
  refine ent (own := RX7) (by decide) rfl (Nat.le_of_ble_eq_true rfl) ?_
  intro p e s m below meth c ls B hr hlk hl hP hS
  have hx := B.1.1
  have hb := B.1.2.1
  have hown := B.1.2.2.2.1
  have hts := B.1.2.2.2.2
  have hl : lv_has ls 1 [(0, .int v)] := hl
  refine lv_iload_n hx hb dX7_isShare_0 rfl (lv_at hl 0 rfl) ?_
  refine lv_i2l hx hb dX7_isShare_1 rfl ?_
  refine lv_lconst (v := 0) hx hb dX7_isShare_2 (by decide) ?_
  refine lv_ldc2 (v := 32) hx hb hown (hts _ mw_1197) dX7_isShare_3 ?_
  refine call_i (cS (av := [.long v.toInt64, .long 0, .long 32]) (rest := []) B hP hS (c_in l E ρ v.toInt64 0 32 0 32 (by decide) (by decide)) lk_RX7_71 rfl rfl hl.1 (Nat.le_of_ble_eq_true rfl) ⟨Nat.le_of_ble_eq_true rfl, Nat.le_of_ble_eq_true rfl⟩ ⟨Nat.le_of_ble_eq_true rfl, Nat.le_of_ble_eq_true rfl⟩ dX7_isShare_6) hS (fun r1 ρ2 H locs q3 hP hS => ?_)
  obtain ⟨rfl, q3⟩ := q3
  rw [lR_i] at q3
  rcases q3 with ⟨rfl, q3⟩ | ⟨rfl, q3⟩
  · skip
    refine lv_if_eq (tgt := 22) hx hb dX7_isShare_9 (by decide) (fun c4 => absurd c4 (by decide)) (fun _ => ?_)
    refine lv_iload_n hx hb dX7_isShare_12 rfl (lv_at hl 0 rfl) ?_
    refine lv_iconst (v := 2) hx hb dX7_isShare_13 (by decide) ?_
    refine lv_irem hx hb dX7_isShare_14 (by decide) ?_
    refine lv_if_ne (tgt := 22) hx hb dX7_isShare_15 (by decide) (fun c5 => ?_) (fun c5 => ?_)
    · skip
      refine lv_iconst (v := 0) hx hb dX7_isShare_22 (by decide) ?_
      exact ret_z B hr hlk hP hS dX7_isShare_23 (Or.inl rfl) (⟨rfl, Or.inr ⟨rfl, fun z => c5 z.2⟩⟩)
    · skip
      refine lv_iconst (v := 1) hx hb dX7_isShare_18 (by decide) ?_
      refine lv_goto (tgt := 23) hx hb dX7_isShare_19 (by decide) ?_
      exact ret_z B hr hlk hP hS dX7_isShare_23 (Or.inr rfl) (⟨rfl, Or.inl ⟨rfl, q3, c5⟩⟩)
  · skip
    refine lv_if_eq (tgt := 22) hx hb dX7_isShare_9 (by decide) (fun _ => ?_) (fun c6 => absurd c6 (by decide))
    refine lv_iconst (v := 0) hx hb dX7_isShare_22 (by decide) ?_
    exact ret_z B hr hlk hP hS dX7_isShare_23 (Or.inl rfl) (⟨rfl, Or.inr ⟨rfl, fun z => q3 z.1⟩⟩)

set_option maxHeartbeats 4000000 in
set_option maxRecDepth 100000 in
theorem c_mtell (l : Launch) (E : hE) (ρ : Nat → Nat → Int32) (w : Int32) : Met l yX7_tell (.code yX7_tell cX7_tell 2 (some .int) :: gw_all) (rmk 0 0) (cPre E ρ [.ref (E.2.1 + 1076), .int w]) (cI E (fun r ρ1 => w = r)) 0 0 (hA E) := by
  refine ent (own := RX7) (by decide) rfl (Nat.le_of_ble_eq_true rfl) ?_
  intro p e s m below meth c ls B hr hlk hl hP hS
  have hx := B.1.1
  have hb := B.1.2.1
  have hown := B.1.2.2.2.1
  have hts := B.1.2.2.2.2
  have hl : lv_has ls 2 [(0, .ref (E.2.1 + 1076)), (1, .int w)] := hl
  refine lv_aload_n hx hb dX7_tell_0 rfl (lv_at hl 0 rfl) ?_
  refine lv_iconst (v := 0) hx hb dX7_tell_1 (by decide) ?_
  refine put7 B hP hS (by decide +kernel) 1 (by decide) mw_1028 rfl rfl rfl (fs7_1 E 1076 _ _) dX7_tell_2 (fun H locs hP hS => ?_)
  obtain ⟨ρ1, e2⟩ : ∃ z, z = up ρ 1076 1 0 := ⟨_, rfl⟩
  rw [← e2] at hP
  refine lv_iload_n hx hb dX7_tell_5 rfl (lv_at hl 1 rfl) ?_
  exact ret_i B hr hlk hP hS dX7_tell_6 (rfl)

set_option maxHeartbeats 4000000 in
set_option maxRecDepth 100000 in
theorem c_mrefuse (l : Launch) (E : hE) (ρ : Nat → Nat → Int32) (w : Int32) (hw : ∃ j : Nat, j < 6 ∧ -w = nI j) : Met l yX7_refuse (.code yX7_refuse cX7_refuse 2 (some .int) :: gw_all) (rmk 0 0) (cPre E ρ [.ref (E.2.1 + 1076), .int w]) (cI E (fun r ρ1 => w = r)) 0 0 (hA E) := by
  refine ent (own := RX7) (by decide) rfl (Nat.le_of_ble_eq_true rfl) ?_
  intro p e s m below meth c ls B hr hlk hl hP hS
  have hx := B.1.1
  have hb := B.1.2.1
  have hown := B.1.2.2.2.1
  have hts := B.1.2.2.2.2
  have hl : lv_has ls 2 [(0, .ref (E.2.1 + 1076)), (1, .int w)] := hl
  refine lv_aload_n hx hb dX7_refuse_0 rfl (lv_at hl 0 rfl) ?_
  refine lv_iload_n hx hb dX7_refuse_1 rfl (lv_at hl 1 rfl) ?_
  refine put7 B hP hS (by decide +kernel) 1 (by decide) mw_1028 rfl rfl rfl (fs7_1 E 1076 _ _) dX7_refuse_2 (fun H locs hP hS => ?_)
  obtain ⟨ρ1, e2⟩ : ∃ z, z = up ρ 1076 1 w := ⟨_, rfl⟩
  rw [← e2] at hP
  refine lv_aload_n hx hb dX7_refuse_5 rfl (lv_at hl 0 rfl) ?_
  refine get7 B hP (by decide +kernel) 2 (by decide) mw_1029 rfl dX7_refuse_6 ?_
  refine lv_iload_n hx hb dX7_refuse_9 rfl (lv_at hl 1 rfl) ?_
  refine lv_ineg hx hb dX7_refuse_10 ?_
  refine lv_dup2_11 hx hb dX7_refuse_11 rfl rfl ?_
  obtain ⟨j, hj, ej⟩ := hw
  refine aldn (n := 6) (j := j) B hP (by decide +kernel) (by decide +kernel) ej hj (by decide) dX7_refuse_12 ?_
  refine lv_iconst (v := 1) hx hb dX7_refuse_13 (by decide) ?_
  refine lv_iadd hx hb dX7_refuse_14 ?_
  refine astn (n := 6) (j := j) B hP hS (by decide +kernel) (by decide +kernel) ej hj (by decide) dX7_refuse_15 (fun H locs hP hS => ?_)
  obtain ⟨ρ3, e4⟩ : ∃ z, z = up ρ1 1077 j ((ρ1 1077 j) + 1) := ⟨_, rfl⟩
  rw [← e4] at hP
  refine lv_iload_n hx hb dX7_refuse_16 rfl (lv_at hl 1 rfl) ?_
  exact ret_i B hr hlk hP hS dX7_refuse_17 (rfl)

set_option maxHeartbeats 4000000 in
set_option maxRecDepth 100000 in
theorem c_mnetAt (l : Launch) (E : hE) (ρ : Nat → Nat → Int32) (n : Int32) : Met l yX7_netAt (.code yX7_netAt cX7_netAt 1 (some .int) :: gw_all) (rmk 0 0) (cPre E ρ [.int n]) (cI E (fun r ρ1 => ρ = ρ1 ∧ r = 42 + 326 * n)) 0 0 (hA E) := by
  refine ent (own := RX7) (by decide) rfl (Nat.le_of_ble_eq_true rfl) ?_
  intro p e s m below meth c ls B hr hlk hl hP hS
  have hx := B.1.1
  have hb := B.1.2.1
  have hown := B.1.2.2.2.1
  have hts := B.1.2.2.2.2
  have hl : lv_has ls 1 [(0, .int n)] := hl
  refine lv_bipush (v := 42) hx hb dX7_netAt_0 (by decide) ?_
  refine lv_sipush (v := 326) hx hb dX7_netAt_2 (by decide) ?_
  refine lv_iload_n hx hb dX7_netAt_5 rfl (lv_at hl 0 rfl) ?_
  refine lv_imul hx hb dX7_netAt_6 ?_
  refine lv_iadd hx hb dX7_netAt_7 ?_
  exact ret_i B hr hlk hP hS dX7_netAt_8 (⟨rfl, rfl⟩)

theorem lk_RX7_75 : LkS RX7 75 yX7_netAt cX7_netAt 1 (some .int) 1 := ⟨⟨mw_1127, mw_1128, mw_59, mw_1129⟩, by decide +kernel⟩
set_option maxHeartbeats 4000000 in
set_option maxRecDepth 100000 in
theorem c_isNet (l : Launch) (E : hE) (ρ : Nat → Nat → Int32) (a1 : Int32) (hN : ρ 1078 42 = -1 ∧ ρ 1078 368 = -1) : Met l yX7_isNet (.code yX7_isNet cX7_isNet 2 (some .boolean) :: gw_all) (rmk 1 40) (cPre E ρ [.ref (E.2.1 + 1076), .int a1]) (cI E (fun r ρ1 => ρ = ρ1 ∧ r = 0)) 0 0 (hA E) := by
  refine ent (own := RX7) (by decide) rfl (Nat.le_of_ble_eq_true rfl) ?_
  intro p e s m below meth c ls B hr hlk hl hP hS
  have hx := B.1.1
  have hb := B.1.2.1
  have hown := B.1.2.2.2.1
  have hts := B.1.2.2.2.2
  have hl : lv_has ls 2 [(0, .ref (E.2.1 + 1076)), (1, .int a1)] := hl
  refine lv_iload_n hx hb dX7_isNet_0 rfl (lv_at hl 1 rfl) ?_
  refine lv_i2l hx hb dX7_isNet_1 rfl ?_
  refine lv_lconst (v := 0) hx hb dX7_isNet_2 (by decide) ?_
  refine lv_lconst (v := 1) hx hb dX7_isNet_3 (by decide) ?_
  refine call_i (cS (av := [.long a1.toInt64, .long 0, .long 1]) (rest := []) B hP hS (c_in l E ρ a1.toInt64 0 1 0 1 (by decide) (by decide)) lk_RX7_71 rfl rfl hl.1 (Nat.le_of_ble_eq_true rfl) ⟨Nat.le_of_ble_eq_true rfl, Nat.le_of_ble_eq_true rfl⟩ ⟨Nat.le_of_ble_eq_true rfl, Nat.le_of_ble_eq_true rfl⟩ dX7_isNet_4) hS (fun r1 ρ2 H locs q3 hP hS => ?_)
  obtain ⟨rfl, q3⟩ := q3
  rw [lR_i] at q3
  rcases q3 with ⟨rfl, q3⟩ | ⟨rfl, q3⟩
  · skip
    have hn := q3
    obtain ⟨j, hj, rfl⟩ := iR_ix (n := 2) hn (by decide) (by decide)
    rcases (show j = 0 ∨ j = 1 by omega) with rfl | rfl
    · skip
      refine lv_if_eq (tgt := 27) hx hb dX7_isNet_7 (by decide) (fun c4 => absurd c4 (by decide)) (fun _ => ?_)
      refine lv_aload_n hx hb dX7_isNet_10 rfl (lv_at hl 0 rfl) ?_
      refine get7 B hP (by decide +kernel) 3 (by decide) mw_1030 rfl dX7_isNet_11 ?_
      refine lv_iload_n hx hb dX7_isNet_14 rfl (lv_at hl 1 rfl) ?_
      refine call_i (cS (av := [.int (nI 0)]) (rest := [.ref (E.2.1 + 1078)]) B hP hS (c_mnetAt l E ρ (nI 0)) lk_RX7_75 rfl rfl hl.1 (Nat.le_of_ble_eq_true rfl) ⟨Nat.le_of_ble_eq_true rfl, Nat.le_of_ble_eq_true rfl⟩ ⟨Nat.le_of_ble_eq_true rfl, Nat.le_of_ble_eq_true rfl⟩ dX7_isNet_15) hS (fun r5 ρ6 H locs q7 hP hS => ?_)
      obtain ⟨rfl, q7⟩ := q7
      obtain rfl : r5 = 42 := q7.trans (by decide)
      refine aldf (n := 695) (j := 42) (v := (-1)) B hP (by decide +kernel) (by decide +kernel) rfl (by decide) (by decide) hN.1 dX7_isNet_18 ?_
      refine lv_iconst (v := (-1)) hx hb dX7_isNet_19 (by decide) ?_
      refine lv_icmp_eq (tgt := 27) hx hb dX7_isNet_20 (by decide) (fun _ => ?_) (fun c8 => absurd c8 (by decide))
      refine lv_iconst (v := 0) hx hb dX7_isNet_27 (by decide) ?_
      exact ret_z B hr hlk hP hS dX7_isNet_28 (Or.inl rfl) (⟨rfl, rfl⟩)
    · skip
      refine lv_if_eq (tgt := 27) hx hb dX7_isNet_7 (by decide) (fun c9 => absurd c9 (by decide)) (fun _ => ?_)
      refine lv_aload_n hx hb dX7_isNet_10 rfl (lv_at hl 0 rfl) ?_
      refine get7 B hP (by decide +kernel) 3 (by decide) mw_1030 rfl dX7_isNet_11 ?_
      refine lv_iload_n hx hb dX7_isNet_14 rfl (lv_at hl 1 rfl) ?_
      refine call_i (cS (av := [.int (nI 1)]) (rest := [.ref (E.2.1 + 1078)]) B hP hS (c_mnetAt l E ρ (nI 1)) lk_RX7_75 rfl rfl hl.1 (Nat.le_of_ble_eq_true rfl) ⟨Nat.le_of_ble_eq_true rfl, Nat.le_of_ble_eq_true rfl⟩ ⟨Nat.le_of_ble_eq_true rfl, Nat.le_of_ble_eq_true rfl⟩ dX7_isNet_15) hS (fun r10 ρ11 H locs q12 hP hS => ?_)
      obtain ⟨rfl, q12⟩ := q12
      obtain rfl : r10 = 368 := q12.trans (by decide)
      refine aldf (n := 695) (j := 368) (v := (-1)) B hP (by decide +kernel) (by decide +kernel) rfl (by decide) (by decide) hN.2 dX7_isNet_18 ?_
      refine lv_iconst (v := (-1)) hx hb dX7_isNet_19 (by decide) ?_
      refine lv_icmp_eq (tgt := 27) hx hb dX7_isNet_20 (by decide) (fun _ => ?_) (fun c13 => absurd c13 (by decide))
      refine lv_iconst (v := 0) hx hb dX7_isNet_27 (by decide) ?_
      exact ret_z B hr hlk hP hS dX7_isNet_28 (Or.inl rfl) (⟨rfl, rfl⟩)
  · skip
    refine lv_if_eq (tgt := 27) hx hb dX7_isNet_7 (by decide) (fun _ => ?_) (fun c14 => absurd c14 (by decide))
    refine lv_iconst (v := 0) hx hb dX7_isNet_27 (by decide) ?_
    exact ret_z B hr hlk hP hS dX7_isNet_28 (Or.inl rfl) (⟨rfl, rfl⟩)

theorem lk_RX7_78 : LkV RX7 78 RX7 yX7_isNet cX7_isNet 2 (some .boolean) 1 := ⟨⟨mw_1123, mw_1125, mw_11, mw_59, mw_1126⟩, by decide +kernel⟩
set_option maxHeartbeats 4000000 in
set_option maxRecDepth 100000 in
theorem c_isLink (l : Launch) (E : hE) (ρ : Nat → Nat → Int32) (a1 : Int32) (a2 : Int32) (hN : ρ 1078 42 = -1 ∧ ρ 1078 368 = -1) : Met l yX7_isLink (.code yX7_isLink cX7_isLink 3 (some .boolean) :: gw_all) (rmk 2 80) (cPre E ρ [.ref (E.2.1 + 1076), .int a1, .int a2]) (cI E (fun r ρ1 => ρ = ρ1 ∧ r = 0)) 0 0 (hA E) := by
  refine ent (own := RX7) (by decide) rfl (Nat.le_of_ble_eq_true rfl) ?_
  intro p e s m below meth c ls B hr hlk hl hP hS
  have hx := B.1.1
  have hb := B.1.2.1
  have hown := B.1.2.2.2.1
  have hts := B.1.2.2.2.2
  have hl : lv_has ls 3 [(0, .ref (E.2.1 + 1076)), (1, .int a1), (2, .int a2)] := hl
  refine lv_aload_n hx hb dX7_isLink_0 rfl (lv_at hl 0 rfl) ?_
  refine lv_iload_n hx hb dX7_isLink_1 rfl (lv_at hl 1 rfl) ?_
  refine call_i (cVt (k := 1076) (av := [.int a1]) (rest := []) B hP hS (c_isNet l E ρ a1 ⟨hN.1, hN.2⟩) lk_RX7_78 (hrecv (ci := 7) B hP (hk_lt (c := 7) (by decide +kernel) (by decide)) (hcc7 _ _ (by decide +kernel)) rfl) rfl rfl hl.1 (Nat.le_of_ble_eq_true rfl) ⟨Nat.le_of_ble_eq_true rfl, Nat.le_of_ble_eq_true rfl⟩ ⟨Nat.le_of_ble_eq_true rfl, Nat.le_of_ble_eq_true rfl⟩ dX7_isLink_2) hS (fun r1 ρ2 H locs q3 hP hS => ?_)
  obtain ⟨rfl, rfl⟩ := q3
  refine lv_if_eq (tgt := 36) hx hb dX7_isLink_5 (by decide) (fun _ => ?_) (fun c4 => absurd c4 (by decide))
  refine lv_iconst (v := 0) hx hb dX7_isLink_36 (by decide) ?_
  exact ret_z B hr hlk hP hS dX7_isLink_37 (Or.inl rfl) (⟨rfl, rfl⟩)

set_option maxHeartbeats 4000000 in
set_option maxRecDepth 100000 in
theorem c_areBoth (l : Launch) (E : hE) (ρ : Nat → Nat → Int32) (a1 : Int32) (hN : ρ 1078 42 = -1 ∧ ρ 1078 368 = -1) : Met l yX7_areBoth (.code yX7_areBoth cX7_areBoth 2 (some .boolean) :: gw_all) (rmk 2 80) (cPre E ρ [.ref (E.2.1 + 1076), .int a1]) (cI E (fun r ρ1 => ρ = ρ1 ∧ r = 0)) 0 0 (hA E) := by
  refine ent (own := RX7) (by decide) rfl (Nat.le_of_ble_eq_true rfl) ?_
  intro p e s m below meth c ls B hr hlk hl hP hS
  have hx := B.1.1
  have hb := B.1.2.1
  have hown := B.1.2.2.2.1
  have hts := B.1.2.2.2.2
  have hl : lv_has ls 2 [(0, .ref (E.2.1 + 1076)), (1, .int a1)] := hl
  refine lv_aload_n hx hb dX7_areBoth_0 rfl (lv_at hl 0 rfl) ?_
  refine lv_iconst (v := 0) hx hb dX7_areBoth_1 (by decide) ?_
  refine call_i (cVt (k := 1076) (av := [.int 0]) (rest := []) B hP hS (c_isNet l E ρ 0 ⟨hN.1, hN.2⟩) lk_RX7_78 (hrecv (ci := 7) B hP (hk_lt (c := 7) (by decide +kernel) (by decide)) (hcc7 _ _ (by decide +kernel)) rfl) rfl rfl hl.1 (Nat.le_of_ble_eq_true rfl) ⟨Nat.le_of_ble_eq_true rfl, Nat.le_of_ble_eq_true rfl⟩ ⟨Nat.le_of_ble_eq_true rfl, Nat.le_of_ble_eq_true rfl⟩ dX7_areBoth_2) hS (fun r1 ρ2 H locs q3 hP hS => ?_)
  obtain ⟨rfl, rfl⟩ := q3
  refine lv_if_eq (tgt := 32) hx hb dX7_areBoth_5 (by decide) (fun _ => ?_) (fun c4 => absurd c4 (by decide))
  refine lv_iconst (v := 0) hx hb dX7_areBoth_32 (by decide) ?_
  exact ret_z B hr hlk hP hS dX7_areBoth_33 (Or.inl rfl) (⟨rfl, rfl⟩)

set_option maxHeartbeats 4000000 in
set_option maxRecDepth 100000 in
theorem c_otherMaps (l : Launch) (E : hE) (ρ : Nat → Nat → Int32) (hN : ρ 1078 42 = -1 ∧ ρ 1078 368 = -1) : Met l yX7_otherMaps (.code yX7_otherMaps cX7_otherMaps 4 (some .int) :: gw_all) (rmk 2 80) (cPre E ρ [.ref (E.2.1 + 1076)]) (cI E (fun r ρ1 => ρ = ρ1 ∧ r = 0)) 0 0 (hA E) := by
  refine ent (own := RX7) (by decide) rfl (Nat.le_of_ble_eq_true rfl) ?_
  intro p e s m below meth c ls B hr hlk hl hP hS
  have hx := B.1.1
  have hb := B.1.2.1
  have hown := B.1.2.2.2.1
  have hts := B.1.2.2.2.2
  have hl : lv_has ls 4 [(0, .ref (E.2.1 + 1076))] := hl
  refine lv_iconst (v := 0) hx hb dX7_otherMaps_0 (by decide) ?_
  refine lv_istore_n (lv' := [(1, .int 0), (0, .ref (E.2.1 + 1076))]) hx hb dX7_otherMaps_1 rfl hl (by decide) rfl (fun ls hl => ?_)
  refine lv_iconst (v := 0) hx hb dX7_otherMaps_2 (by decide) ?_
  refine lv_istore_n (lv' := [(2, .int 0), (1, .int 0), (0, .ref (E.2.1 + 1076))]) hx hb dX7_otherMaps_3 rfl hl (by decide) rfl (fun ls hl => ?_)
  refine lv_iload_n hx hb dX7_otherMaps_4 rfl (lv_at hl 0 rfl) ?_
  refine lv_iconst (v := 2) hx hb dX7_otherMaps_5 (by decide) ?_
  refine lv_icmp_ge (tgt := 81) hx hb dX7_otherMaps_6 (by decide) (fun c1 => absurd c1 (by decide)) (fun _ => ?_)
  refine lv_iconst (v := 0) hx hb dX7_otherMaps_9 (by decide) ?_
  refine lv_istore_n (lv' := [(3, .int 0), (2, .int 0), (1, .int 0), (0, .ref (E.2.1 + 1076))]) hx hb dX7_otherMaps_10 rfl hl (by decide) rfl (fun ls hl => ?_)
  refine lv_aload_n hx hb dX7_otherMaps_11 rfl (lv_at hl 3 rfl) ?_
  refine lv_iload_n hx hb dX7_otherMaps_12 rfl (lv_at hl 1 rfl) ?_
  refine call_i (cVt (k := 1076) (av := [.int 0]) (rest := []) B hP hS (c_isNet l E ρ 0 ⟨hN.1, hN.2⟩) lk_RX7_78 (hrecv (ci := 7) B hP (hk_lt (c := 7) (by decide +kernel) (by decide)) (hcc7 _ _ (by decide +kernel)) rfl) rfl rfl hl.1 (Nat.le_of_ble_eq_true rfl) ⟨Nat.le_of_ble_eq_true rfl, Nat.le_of_ble_eq_true rfl⟩ ⟨Nat.le_of_ble_eq_true rfl, Nat.le_of_ble_eq_true rfl⟩ dX7_otherMaps_13) hS (fun r2 ρ3 H locs q4 hP hS => ?_)
  obtain ⟨rfl, rfl⟩ := q4
  refine lv_if_eq (tgt := 75) hx hb dX7_otherMaps_16 (by decide) (fun _ => ?_) (fun c5 => absurd c5 (by decide))
  refine lv_iinc (v := 1) (lv' := [(2, .int 1), (3, .int 0), (1, .int 0), (0, .ref (E.2.1 + 1076))]) hx hb dX7_otherMaps_75 hl (k := 1) rfl (by decide) (by decide) rfl (fun ls hl => ?_)
  refine lv_goto (tgt := 4) hx hb dX7_otherMaps_78 (by decide) ?_
  refine lv_iload_n hx hb dX7_otherMaps_4 rfl (lv_at hl 0 rfl) ?_
  refine lv_iconst (v := 2) hx hb dX7_otherMaps_5 (by decide) ?_
  refine lv_icmp_ge (tgt := 81) hx hb dX7_otherMaps_6 (by decide) (fun c6 => absurd c6 (by decide)) (fun _ => ?_)
  refine lv_iconst (v := 0) hx hb dX7_otherMaps_9 (by decide) ?_
  refine lv_istore_n (lv' := [(3, .int 0), (2, .int 1), (1, .int 0), (0, .ref (E.2.1 + 1076))]) hx hb dX7_otherMaps_10 rfl hl (by decide) rfl (fun ls hl => ?_)
  refine lv_aload_n hx hb dX7_otherMaps_11 rfl (lv_at hl 3 rfl) ?_
  refine lv_iload_n hx hb dX7_otherMaps_12 rfl (lv_at hl 1 rfl) ?_
  refine call_i (cVt (k := 1076) (av := [.int 1]) (rest := []) B hP hS (c_isNet l E ρ 1 ⟨hN.1, hN.2⟩) lk_RX7_78 (hrecv (ci := 7) B hP (hk_lt (c := 7) (by decide +kernel) (by decide)) (hcc7 _ _ (by decide +kernel)) rfl) rfl rfl hl.1 (Nat.le_of_ble_eq_true rfl) ⟨Nat.le_of_ble_eq_true rfl, Nat.le_of_ble_eq_true rfl⟩ ⟨Nat.le_of_ble_eq_true rfl, Nat.le_of_ble_eq_true rfl⟩ dX7_otherMaps_13) hS (fun r7 ρ8 H locs q9 hP hS => ?_)
  obtain ⟨rfl, rfl⟩ := q9
  refine lv_if_eq (tgt := 75) hx hb dX7_otherMaps_16 (by decide) (fun _ => ?_) (fun c10 => absurd c10 (by decide))
  refine lv_iinc (v := 2) (lv' := [(2, .int 2), (3, .int 0), (1, .int 0), (0, .ref (E.2.1 + 1076))]) hx hb dX7_otherMaps_75 hl (k := 1) rfl (by decide) (by decide) rfl (fun ls hl => ?_)
  refine lv_goto (tgt := 4) hx hb dX7_otherMaps_78 (by decide) ?_
  refine lv_iload_n hx hb dX7_otherMaps_4 rfl (lv_at hl 0 rfl) ?_
  refine lv_iconst (v := 2) hx hb dX7_otherMaps_5 (by decide) ?_
  refine lv_icmp_ge (tgt := 81) hx hb dX7_otherMaps_6 (by decide) (fun _ => ?_) (fun c11 => absurd c11 (by decide))
  refine lv_iload_n hx hb dX7_otherMaps_81 rfl (lv_at hl 2 rfl) ?_
  exact ret_i B hr hlk hP hS dX7_otherMaps_82 (⟨rfl, rfl⟩)

set_option maxHeartbeats 4000000 in
set_option maxRecDepth 100000 in
theorem c_mheardOfAll (l : Launch) (E : hE) (ρ : Nat → Nat → Int32) (hN : ρ 1078 42 = -1 ∧ ρ 1078 368 = -1) : Met l yX7_heardOfAll (.code yX7_heardOfAll cX7_heardOfAll 4 (some .int) :: gw_all) (rmk 2 80) (cPre E ρ [.ref (E.2.1 + 1076)]) (cI E (fun r ρ1 => ρ = ρ1 ∧ r = 0)) 0 0 (hA E) := by
  refine ent (own := RX7) (by decide) rfl (Nat.le_of_ble_eq_true rfl) ?_
  intro p e s m below meth c ls B hr hlk hl hP hS
  have hx := B.1.1
  have hb := B.1.2.1
  have hown := B.1.2.2.2.1
  have hts := B.1.2.2.2.2
  have hl : lv_has ls 4 [(0, .ref (E.2.1 + 1076))] := hl
  refine lv_iconst (v := 0) hx hb dX7_heardOfAll_0 (by decide) ?_
  refine lv_istore_n (lv' := [(1, .int 0), (0, .ref (E.2.1 + 1076))]) hx hb dX7_heardOfAll_1 rfl hl (by decide) rfl (fun ls hl => ?_)
  refine lv_iconst (v := 0) hx hb dX7_heardOfAll_2 (by decide) ?_
  refine lv_istore_n (lv' := [(2, .int 0), (1, .int 0), (0, .ref (E.2.1 + 1076))]) hx hb dX7_heardOfAll_3 rfl hl (by decide) rfl (fun ls hl => ?_)
  refine lv_iload_n hx hb dX7_heardOfAll_4 rfl (lv_at hl 0 rfl) ?_
  refine lv_iconst (v := 2) hx hb dX7_heardOfAll_5 (by decide) ?_
  refine lv_icmp_ge (tgt := 77) hx hb dX7_heardOfAll_6 (by decide) (fun c1 => absurd c1 (by decide)) (fun _ => ?_)
  refine lv_iconst (v := 0) hx hb dX7_heardOfAll_9 (by decide) ?_
  refine lv_istore_n (lv' := [(3, .int 0), (2, .int 0), (1, .int 0), (0, .ref (E.2.1 + 1076))]) hx hb dX7_heardOfAll_10 rfl hl (by decide) rfl (fun ls hl => ?_)
  refine lv_aload_n hx hb dX7_heardOfAll_11 rfl (lv_at hl 3 rfl) ?_
  refine lv_iload_n hx hb dX7_heardOfAll_12 rfl (lv_at hl 1 rfl) ?_
  refine call_i (cVt (k := 1076) (av := [.int 0]) (rest := []) B hP hS (c_isNet l E ρ 0 ⟨hN.1, hN.2⟩) lk_RX7_78 (hrecv (ci := 7) B hP (hk_lt (c := 7) (by decide +kernel) (by decide)) (hcc7 _ _ (by decide +kernel)) rfl) rfl rfl hl.1 (Nat.le_of_ble_eq_true rfl) ⟨Nat.le_of_ble_eq_true rfl, Nat.le_of_ble_eq_true rfl⟩ ⟨Nat.le_of_ble_eq_true rfl, Nat.le_of_ble_eq_true rfl⟩ dX7_heardOfAll_13) hS (fun r2 ρ3 H locs q4 hP hS => ?_)
  obtain ⟨rfl, rfl⟩ := q4
  refine lv_if_eq (tgt := 71) hx hb dX7_heardOfAll_16 (by decide) (fun _ => ?_) (fun c5 => absurd c5 (by decide))
  refine lv_iinc (v := 1) (lv' := [(2, .int 1), (3, .int 0), (1, .int 0), (0, .ref (E.2.1 + 1076))]) hx hb dX7_heardOfAll_71 hl (k := 1) rfl (by decide) (by decide) rfl (fun ls hl => ?_)
  refine lv_goto (tgt := 4) hx hb dX7_heardOfAll_74 (by decide) ?_
  refine lv_iload_n hx hb dX7_heardOfAll_4 rfl (lv_at hl 0 rfl) ?_
  refine lv_iconst (v := 2) hx hb dX7_heardOfAll_5 (by decide) ?_
  refine lv_icmp_ge (tgt := 77) hx hb dX7_heardOfAll_6 (by decide) (fun c6 => absurd c6 (by decide)) (fun _ => ?_)
  refine lv_iconst (v := 0) hx hb dX7_heardOfAll_9 (by decide) ?_
  refine lv_istore_n (lv' := [(3, .int 0), (2, .int 1), (1, .int 0), (0, .ref (E.2.1 + 1076))]) hx hb dX7_heardOfAll_10 rfl hl (by decide) rfl (fun ls hl => ?_)
  refine lv_aload_n hx hb dX7_heardOfAll_11 rfl (lv_at hl 3 rfl) ?_
  refine lv_iload_n hx hb dX7_heardOfAll_12 rfl (lv_at hl 1 rfl) ?_
  refine call_i (cVt (k := 1076) (av := [.int 1]) (rest := []) B hP hS (c_isNet l E ρ 1 ⟨hN.1, hN.2⟩) lk_RX7_78 (hrecv (ci := 7) B hP (hk_lt (c := 7) (by decide +kernel) (by decide)) (hcc7 _ _ (by decide +kernel)) rfl) rfl rfl hl.1 (Nat.le_of_ble_eq_true rfl) ⟨Nat.le_of_ble_eq_true rfl, Nat.le_of_ble_eq_true rfl⟩ ⟨Nat.le_of_ble_eq_true rfl, Nat.le_of_ble_eq_true rfl⟩ dX7_heardOfAll_13) hS (fun r7 ρ8 H locs q9 hP hS => ?_)
  obtain ⟨rfl, rfl⟩ := q9
  refine lv_if_eq (tgt := 71) hx hb dX7_heardOfAll_16 (by decide) (fun _ => ?_) (fun c10 => absurd c10 (by decide))
  refine lv_iinc (v := 2) (lv' := [(2, .int 2), (3, .int 0), (1, .int 0), (0, .ref (E.2.1 + 1076))]) hx hb dX7_heardOfAll_71 hl (k := 1) rfl (by decide) (by decide) rfl (fun ls hl => ?_)
  refine lv_goto (tgt := 4) hx hb dX7_heardOfAll_74 (by decide) ?_
  refine lv_iload_n hx hb dX7_heardOfAll_4 rfl (lv_at hl 0 rfl) ?_
  refine lv_iconst (v := 2) hx hb dX7_heardOfAll_5 (by decide) ?_
  refine lv_icmp_ge (tgt := 77) hx hb dX7_heardOfAll_6 (by decide) (fun _ => ?_) (fun c11 => absurd c11 (by decide))
  refine lv_iload_n hx hb dX7_heardOfAll_77 rfl (lv_at hl 2 rfl) ?_
  exact ret_i B hr hlk hP hS dX7_heardOfAll_78 (⟨rfl, rfl⟩)

set_option maxHeartbeats 4000000 in
set_option maxRecDepth 100000 in
theorem c_isRadio (l : Launch) (E : hE) (ρ : Nat → Nat → Int32) (n : Int32) (hz : ρ 1078 0 = 0) : Met l yX7_isRadio (.code yX7_isRadio cX7_isRadio 2 (some .boolean) :: gw_all) (rmk 1 40) (cPre E ρ [.ref (E.2.1 + 1076), .int n]) (cI E (fun r ρ1 => ρ = ρ1 ∧ r = 0)) 0 0 (hA E) := by
  refine ent (own := RX7) (by decide) rfl (Nat.le_of_ble_eq_true rfl) ?_
  intro p e s m below meth c ls B hr hlk hl hP hS
  have hx := B.1.1
  have hb := B.1.2.1
  have hown := B.1.2.2.2.1
  have hts := B.1.2.2.2.2
  have hl : lv_has ls 2 [(0, .ref (E.2.1 + 1076)), (1, .int n)] := hl
  refine lv_iload_n hx hb dX7_isRadio_0 rfl (lv_at hl 1 rfl) ?_
  refine lv_i2l hx hb dX7_isRadio_1 rfl ?_
  refine lv_lconst (v := 0) hx hb dX7_isRadio_2 (by decide) ?_
  refine lv_aload_n hx hb dX7_isRadio_3 rfl (lv_at hl 0 rfl) ?_
  refine get7 B hP (by decide +kernel) 3 (by decide) mw_1030 rfl dX7_isRadio_4 ?_
  refine lv_iconst (v := 0) hx hb dX7_isRadio_7 (by decide) ?_
  refine aldf (n := 695) (j := 0) (v := 0) B hP (by decide +kernel) (by decide +kernel) rfl (by decide) (by decide) hz dX7_isRadio_8 ?_
  refine lv_i2l (v := 0) hx hb dX7_isRadio_9 (by decide) ?_
  refine lv_lconst (v := 1) hx hb dX7_isRadio_10 (by decide) ?_
  refine lv_lsub hx hb dX7_isRadio_11 ?_
  refine lv_topl (fun z1 ez1 => ?_)
  obtain rfl : z1 = (-1) := ez1.trans (by decide)
  refine call_i (cS (av := [.long n.toInt64, .long 0, .long (-1)]) (rest := []) B hP hS (c_in l E ρ n.toInt64 0 (-1) 0 (-1) (by decide) (by decide)) lk_RX7_71 rfl rfl hl.1 (Nat.le_of_ble_eq_true rfl) ⟨Nat.le_of_ble_eq_true rfl, Nat.le_of_ble_eq_true rfl⟩ ⟨Nat.le_of_ble_eq_true rfl, Nat.le_of_ble_eq_true rfl⟩ dX7_isRadio_12) hS (fun r2 ρ3 H locs q4 hP hS => ?_)
  obtain ⟨rfl, q4⟩ := q4
  rw [lR_i] at q4
  rcases q4 with ⟨rfl, q4⟩ | ⟨rfl, q4⟩
  · skip
    exact ret_z B hr hlk hP hS dX7_isRadio_15 (Or.inr rfl) (⟨rfl, iR_no q4⟩)
  · skip
    exact ret_z B hr hlk hP hS dX7_isRadio_15 (Or.inl rfl) (⟨rfl, rfl⟩)

set_option maxHeartbeats 4000000 in
set_option maxRecDepth 100000 in
theorem c_copy (l : Launch) (E : hE) (ρ : Nat → Nat → Int32) (ka kb na nb p1 q1 : Nat) (h1 : hk ka = 8) (l1 : hlen ka = na) (h2 : hk kb = 8) (l2 : hlen kb = nb) (hpa : p1 + 695 ≤ na) (hqb : q1 + 695 ≤ nb) (hna : na < 100000) (hnb : nb < 100000) (hne : ka ≠ kb) : Met l yX7_copy (.code yX7_copy cX7_copy 5 none :: gw_all) (rmk 0 0) (cPre E ρ [.ref (E.2.1 + ka), .int (nI p1), .ref (E.2.1 + kb), .int (nI q1)]) (cV E (fun ρ1 => (∀ k, k ≠ kb → ρ1 k = ρ k) ∧ (∀ j, j < 695 → ρ1 kb (q1 + j) = ρ ka (p1 + j)) ∧ (∀ j, (j < q1 ∨ q1 + 695 ≤ j) → ρ1 kb j = ρ kb j))) 0 0 (hA E) := by
  refine ent (own := RX7) (by decide) rfl (Nat.le_of_ble_eq_true rfl) ?_
  intro p e s m below meth c ls B hr hlk hl hP hS
  have hx := B.1.1
  have hb := B.1.2.1
  have hown := B.1.2.2.2.1
  have hts := B.1.2.2.2.2
  have hl : lv_has ls 5 [(0, .ref (E.2.1 + ka)), (1, .int (nI p1)), (2, .ref (E.2.1 + kb)), (3, .int (nI q1))] := hl
  refine lv_iconst (v := 0) hx hb dX7_copy_0 (by decide) ?_
  refine lv_istore (lv' := [(4, .int 0), (0, .ref (E.2.1 + ka)), (1, .int (nI p1)), (2, .ref (E.2.1 + kb)), (3, .int (nI q1))]) hx hb dX7_copy_1 hl (by decide) rfl (fun ls hl => ?_)
  have L : ∀ (d i : Nat) (ρ1 : Nat → Nat → Int32) (H : Heap) (locs : List Loc) (ls : Array Slot), i ≤ 695 → 695 - i < d → (∀ k, k ≠ kb → ρ1 k = ρ k) → (∀ j, j < i → ρ1 kb (q1 + j) = ρ ka (p1 + j)) → (∀ j, (j < q1 ∨ q1 + i ≤ j) → ρ1 kb j = ρ kb j) → WP E ρ1 H → va_S (hA E) s.heap H locs → lv_has ls 5 [(0, .ref (E.2.1 + ka)), (1, .int (nI p1)), (2, .ref (E.2.1 + kb)), (3, .int (nI q1)), (4, .int (nI i))] → W p l e (rmk 0 0) s m ([.ref (E.2.1 + ka), .int (nI p1), .ref (E.2.1 + kb), .int (nI q1)] : List Value).toArray below meth c H locs 0 0 (MQ below (cV E (fun ρ1 => (∀ k, k ≠ kb → ρ1 k = ρ k) ∧ (∀ j, j < 695 → ρ1 kb (q1 + j) = ρ ka (p1 + j)) ∧ (∀ j, (j < q1 ∨ q1 + 695 ≤ j) → ρ1 kb j = ρ kb j))) ([.ref (E.2.1 + ka), .int (nI p1), .ref (E.2.1 + kb), .int (nI q1)] : List Value).toArray s 0 0 (hA E)) (F0 m 3 ls []) := by
    intro d
    induction d with
    | zero => intro i ρ1 H locs ls h1 h2; exact absurd h2 (by omega)
    | succ d ih =>
      intro i ρ1 H locs ls hi hd hQ hA1 hB1 hP hS hl
      refine lv_iload hx hb dX7_copy_3 (lv_at hl 4 rfl) ?_
      refine lv_sipush (v := 695) hx hb dX7_copy_5 (by decide) ?_
      refine lv_icmp_ge (tgt := 29) hx hb dX7_copy_8 (by decide) (fun c1 => ?_) (fun c1 => ?_)
      · skip
        have cN : 695 ≤ i := (nI_leI (a := 695) (b := i) (by decide) (by omega)).mp c1
        exact ret_v B hr hlk hP hS dX7_copy_29 (⟨hQ, fun j hj => hA1 j (by omega), fun j hj => hB1 j (by omega)⟩)
      · skip
        have cN : i < 695 := Nat.not_le.mp (fun z => c1 ((nI_leI (a := 695) (b := i) (by decide) (by omega)).mpr z))
        refine lv_aload_n hx hb dX7_copy_11 rfl (lv_at hl 2 rfl) ?_
        refine lv_iload_n hx hb dX7_copy_12 rfl (lv_at hl 3 rfl) ?_
        refine lv_iload hx hb dX7_copy_13 (lv_at hl 4 rfl) ?_
        refine lv_iadd hx hb dX7_copy_15 ?_
        refine lv_aload_n hx hb dX7_copy_16 rfl (lv_at hl 0 rfl) ?_
        refine lv_iload_n hx hb dX7_copy_17 rfl (lv_at hl 1 rfl) ?_
        refine lv_iload hx hb dX7_copy_18 (lv_at hl 4 rfl) ?_
        refine lv_iadd hx hb dX7_copy_20 ?_
        refine aldn (n := na) (j := (p1 + i)) B hP h1 l1 (nI_add p1 i) (by omega) (by omega) dX7_copy_21 ?_
        refine astn (n := nb) (j := (q1 + i)) B hP hS h2 l2 (nI_add q1 i) (by omega) (by omega) dX7_copy_22 (fun H locs hP hS => ?_)
        obtain ⟨ρ2, e3⟩ : ∃ z, z = up ρ1 kb (q1 + i) (ρ1 ka (p1 + i)) := ⟨_, rfl⟩
        rw [← e3] at hP
        refine lv_iinc (v := (nI (i + 1))) (lv' := [(4, .int (nI (i + 1))), (0, .ref (E.2.1 + ka)), (1, .int (nI p1)), (2, .ref (E.2.1 + kb)), (3, .int (nI q1))]) hx hb dX7_copy_23 hl (k := 4) rfl (nI_1 i) (by decide) rfl (fun ls hl => ?_)
        refine lv_goto (tgt := 3) hx hb dX7_copy_26 (by decide) ?_
        exact ih (i + 1) ρ2 _ _ ls (by omega) (by omega) (fun k hk => by rw [e3, up_ne _ _ _ hk]; exact hQ k hk) (fun j hj => by rw [e3]; exact cp_in hne hQ hA1 hj) (fun j hj => by rw [e3]; exact up_get_ne (Or.inr (by omega)) (hB1 j (by omega))) hP hS (lv_sub hl [1, 2, 3, 4, 0] rfl)
  exact L 696 0 ρ _ _ ls (by omega) (by omega) (fun _ _ => rfl) (fun j hj => absurd hj (Nat.not_lt_zero j)) (fun _ _ => rfl) hP hS (lv_sub hl [1, 2, 3, 4, 0] rfl)

theorem lk_RX7_60 : LkS RX7 60 yX7_copy cX7_copy 5 none 4 := ⟨⟨mw_1090, mw_1091, mw_59, mw_1092⟩, by decide +kernel⟩
set_option maxHeartbeats 4000000 in
set_option maxRecDepth 100000 in
theorem c_remember (l : Launch) (E : hE) (ρ : Nat → Nat → Int32) (w : Int32) (hz : ρ 1076 6 = 0) : Met l yX7_remember (.code yX7_remember cX7_remember 3 none :: gw_all) (rmk 1 40) (cPre E ρ [.ref (E.2.1 + 1076), .int w]) (cV E (fun ρ1 => ∀ k, k ≠ 1076 → k ≠ 1079 → k ≠ 1080 → ρ1 k = ρ k)) 0 0 (hA E) := by
  refine ent (own := RX7) (by decide) rfl (Nat.le_of_ble_eq_true rfl) ?_
  intro p e s m below meth c ls B hr hlk hl hP hS
  have hx := B.1.1
  have hb := B.1.2.1
  have hown := B.1.2.2.2.1
  have hts := B.1.2.2.2.2
  have hl : lv_has ls 3 [(0, .ref (E.2.1 + 1076)), (1, .int w)] := hl
  refine lv_aload_n hx hb dX7_remember_0 rfl (lv_at hl 0 rfl) ?_
  refine get7 B hP (by decide +kernel) 6 (by decide) mw_1033 (v := .int 0) (show some (Value.int (ρ 1076 6)) = some (Value.int 0) from congrArg (fun z => some (Value.int z)) hz) dX7_remember_1 ?_
  refine lv_bipush (v := 8) hx hb dX7_remember_4 (by decide) ?_
  refine lv_icmp_ne (tgt := 78) hx hb dX7_remember_6 (by decide) (fun _ => ?_) (fun c1 => absurd c1 (by decide))
  refine lv_aload_n hx hb dX7_remember_78 rfl (lv_at hl 0 rfl) ?_
  refine get7 B hP (by decide +kernel) 3 (by decide) mw_1030 rfl dX7_remember_79 ?_
  refine lv_iconst (v := 0) hx hb dX7_remember_82 (by decide) ?_
  refine lv_aload_n hx hb dX7_remember_83 rfl (lv_at hl 0 rfl) ?_
  refine get7 B hP (by decide +kernel) 4 (by decide) mw_1031 rfl dX7_remember_84 ?_
  refine lv_sipush (v := 695) hx hb dX7_remember_87 (by decide) ?_
  refine lv_aload_n hx hb dX7_remember_90 rfl (lv_at hl 0 rfl) ?_
  refine get7 B hP (by decide +kernel) 6 (by decide) mw_1033 (v := .int 0) (show some (Value.int (ρ 1076 6)) = some (Value.int 0) from congrArg (fun z => some (Value.int z)) hz) dX7_remember_91 ?_
  refine lv_imul hx hb dX7_remember_94 ?_
  refine lv_topi (fun z2 ez2 => ?_)
  obtain rfl : z2 = 0 := ez2.trans (by decide)
  refine call_v (cS (av := [.ref (E.2.1 + 1078), .int 0, .ref (E.2.1 + 1079), .int 0]) (rest := []) B hP hS (c_copy l E ρ 1078 1079 695 5560 0 0 (by decide +kernel) (by decide +kernel) (by decide +kernel) (by decide +kernel) (by decide) (by decide) (by decide) (by decide) (by decide)) lk_RX7_60 rfl rfl hl.1 (Nat.le_of_ble_eq_true rfl) ⟨Nat.le_of_ble_eq_true rfl, Nat.le_of_ble_eq_true rfl⟩ ⟨Nat.le_of_ble_eq_true rfl, Nat.le_of_ble_eq_true rfl⟩ dX7_remember_95) hS (fun ρ4 H locs q5 hP hS => ?_)
  refine lv_aload_n hx hb dX7_remember_98 rfl (lv_at hl 0 rfl) ?_
  refine get7 B hP (by decide +kernel) 5 (by decide) mw_1032 rfl dX7_remember_99 ?_
  refine lv_aload_n hx hb dX7_remember_102 rfl (lv_at hl 0 rfl) ?_
  refine get7 B hP (by decide +kernel) 6 (by decide) mw_1033 (v := .int 0) (show some (Value.int (ρ4 1076 6)) = some (Value.int 0) from congrArg (fun z => some (Value.int z)) ((congrFun (q5.1 1076 (by decide)) 6).trans hz)) dX7_remember_103 ?_
  refine lv_iload_n hx hb dX7_remember_106 rfl (lv_at hl 1 rfl) ?_
  refine astn (n := 8) (j := 0) B hP hS (by decide +kernel) (by decide +kernel) rfl (by decide) (by decide) dX7_remember_107 (fun H locs hP hS => ?_)
  obtain ⟨ρ6, e7⟩ : ∃ z, z = up ρ4 1080 0 w := ⟨_, rfl⟩
  rw [← e7] at hP
  refine lv_aload_n hx hb dX7_remember_108 rfl (lv_at hl 0 rfl) ?_
  refine lv_dup hx hb dX7_remember_109 rfl ?_
  refine get7 B hP (by decide +kernel) 6 (by decide) mw_1033 (v := .int 0) (show some (Value.int (ρ6 1076 6)) = some (Value.int 0) from congrArg (fun z => some (Value.int z)) (by rw [e7]; exact up_get_ne (Or.inl (by decide)) ((congrFun (q5.1 1076 (by decide)) 6).trans hz))) dX7_remember_110 ?_
  refine lv_iconst (v := 1) hx hb dX7_remember_113 (by decide) ?_
  refine lv_iadd hx hb dX7_remember_114 ?_
  refine lv_topi (fun z8 ez8 => ?_)
  obtain rfl : z8 = 1 := ez8.trans (by decide)
  refine put7 B hP hS (by decide +kernel) 6 (by decide) mw_1033 rfl rfl rfl (fs7_6 E 1076 _ _) dX7_remember_115 (fun H locs hP hS => ?_)
  obtain ⟨ρ9, e10⟩ : ∃ z, z = up ρ6 1076 6 1 := ⟨_, rfl⟩
  rw [← e10] at hP
  exact ret_v B hr hlk hP hS dX7_remember_118 ((fun k h0 h1 h2 => by rw [e10, up_ne _ _ _ h0, e7, up_ne _ _ _ h2]; exact q5.1 k h1))

set_option maxHeartbeats 4000000 in
set_option maxRecDepth 100000 in
theorem c_sendsDown (l : Launch) (E : hE) (ρ : Nat → Nat → Int32) (hc0 : ρ 1084 0 = -1) (hc1 : ρ 1084 1 = -1) : Met l yX7_sendsDown (.code yX7_sendsDown cX7_sendsDown 5 none :: gw_all) (rmk 0 0) (cPre E ρ [.ref (E.2.1 + 1076)]) (cV E (fun ρ1 => (∀ k, k ≠ 1085 → k ≠ 1086 → k ≠ 1089 → ρ1 k = ρ k) ∧ ρ1 1089 0 = 0 ∧ ρ1 1089 1 = 0)) 0 0 (hA E) := by
  refine ent (own := RX7) (by decide) rfl (Nat.le_of_ble_eq_true rfl) ?_
  intro p e s m below meth c ls B hr hlk hl hP hS
  have hx := B.1.1
  have hb := B.1.2.1
  have hown := B.1.2.2.2.1
  have hts := B.1.2.2.2.2
  have hl : lv_has ls 5 [(0, .ref (E.2.1 + 1076))] := hl
  refine lv_iconst (v := 0) hx hb dX7_sendsDown_0 (by decide) ?_
  refine lv_istore_n (lv' := [(1, .int 0), (0, .ref (E.2.1 + 1076))]) hx hb dX7_sendsDown_1 rfl hl (by decide) rfl (fun ls hl => ?_)
  refine lv_iload_n hx hb dX7_sendsDown_2 rfl (lv_at hl 0 rfl) ?_
  refine lv_iconst (v := 2) hx hb dX7_sendsDown_3 (by decide) ?_
  refine lv_icmp_ge (tgt := 71) hx hb dX7_sendsDown_4 (by decide) (fun c1 => absurd c1 (by decide)) (fun _ => ?_)
  refine lv_aload_n hx hb dX7_sendsDown_7 rfl (lv_at hl 1 rfl) ?_
  refine get7 B hP (by decide +kernel) 11 (by decide) mw_1038 rfl dX7_sendsDown_8 ?_
  refine lv_iload_n hx hb dX7_sendsDown_11 rfl (lv_at hl 0 rfl) ?_
  refine lv_aload_n hx hb dX7_sendsDown_12 rfl (lv_at hl 1 rfl) ?_
  refine get7 B hP (by decide +kernel) 10 (by decide) mw_1037 rfl dX7_sendsDown_13 ?_
  refine lv_iload_n hx hb dX7_sendsDown_16 rfl (lv_at hl 0 rfl) ?_
  refine aldf (n := 2) (j := 0) (v := (-1)) B hP (by decide +kernel) (by decide +kernel) rfl (by decide) (by decide) hc0 dX7_sendsDown_17 ?_
  refine lv_iconst (v := (-1)) hx hb dX7_sendsDown_18 (by decide) ?_
  refine lv_icmp_ne (tgt := 28) hx hb dX7_sendsDown_19 (by decide) (fun c2 => absurd c2 (by decide)) (fun _ => ?_)
  refine lv_iconst (v := (-1)) hx hb dX7_sendsDown_22 (by decide) ?_
  refine lv_iload_n hx hb dX7_sendsDown_23 rfl (lv_at hl 0 rfl) ?_
  refine lv_isub hx hb dX7_sendsDown_24 ?_
  refine lv_topi (fun z3 ez3 => ?_)
  obtain rfl : z3 = (-1) := ez3.trans (by decide)
  refine lv_goto (tgt := 45) hx hb dX7_sendsDown_25 (by decide) ?_
  refine astn (n := 2) (j := 0) B hP hS (by decide +kernel) (by decide +kernel) rfl (by decide) (by decide) dX7_sendsDown_45 (fun H locs hP hS => ?_)
  obtain ⟨ρ4, e5⟩ : ∃ z, z = up ρ 1085 0 (-1) := ⟨_, rfl⟩
  rw [← e5] at hP
  have F6 : ∀ k, k ≠ 1085 → k ≠ 1086 → k ≠ 1089 → ρ4 k = ρ k := fun k t0 t1 t2 => by rw [e5, up_ne _ _ _ t0]
  refine lv_aload_n hx hb dX7_sendsDown_46 rfl (lv_at hl 1 rfl) ?_
  refine get7 B hP (by decide +kernel) 12 (by decide) mw_1039 rfl dX7_sendsDown_47 ?_
  refine lv_iload_n hx hb dX7_sendsDown_50 rfl (lv_at hl 0 rfl) ?_
  refine lv_aload_n hx hb dX7_sendsDown_51 rfl (lv_at hl 1 rfl) ?_
  refine get7 B hP (by decide +kernel) 11 (by decide) mw_1038 rfl dX7_sendsDown_52 ?_
  refine lv_iload_n hx hb dX7_sendsDown_55 rfl (lv_at hl 0 rfl) ?_
  refine aldf (n := 2) (j := 0) (v := (-1)) B hP (by decide +kernel) (by decide +kernel) rfl (by decide) (by decide) (by rw [e5]; exact up_get_at) dX7_sendsDown_56 ?_
  refine astn (n := 2) (j := 0) B hP hS (by decide +kernel) (by decide +kernel) rfl (by decide) (by decide) dX7_sendsDown_57 (fun H locs hP hS => ?_)
  obtain ⟨ρ7, e8⟩ : ∃ z, z = up ρ4 1086 0 (-1) := ⟨_, rfl⟩
  rw [← e8] at hP
  have F9 : ∀ k, k ≠ 1085 → k ≠ 1086 → k ≠ 1089 → ρ7 k = ρ k := fun k t0 t1 t2 => by rw [e8, up_ne _ _ _ t1]; exact F6 k t0 t1 t2
  refine lv_aload_n hx hb dX7_sendsDown_58 rfl (lv_at hl 1 rfl) ?_
  refine get7 B hP (by decide +kernel) 15 (by decide) mw_1042 rfl dX7_sendsDown_59 ?_
  refine lv_iload_n hx hb dX7_sendsDown_62 rfl (lv_at hl 0 rfl) ?_
  refine lv_iconst (v := 0) hx hb dX7_sendsDown_63 (by decide) ?_
  refine zstn (n := 2) (j := 0) B hP hS (by decide +kernel) (by decide +kernel) rfl (by decide) (by decide) rfl dX7_sendsDown_64 (fun H locs hP hS => ?_)
  obtain ⟨ρ10, e11⟩ : ∃ z, z = up ρ7 1089 0 0 := ⟨_, rfl⟩
  rw [← e11] at hP
  have F12 : ∀ k, k ≠ 1085 → k ≠ 1086 → k ≠ 1089 → ρ10 k = ρ k := fun k t0 t1 t2 => by rw [e11, up_ne _ _ _ t2]; exact F9 k t0 t1 t2
  refine lv_iinc (v := 1) (lv' := [(1, .int 1), (0, .ref (E.2.1 + 1076))]) hx hb dX7_sendsDown_65 hl (k := 0) rfl (by decide) (by decide) rfl (fun ls hl => ?_)
  refine lv_goto (tgt := 2) hx hb dX7_sendsDown_68 (by decide) ?_
  refine lv_iload_n hx hb dX7_sendsDown_2 rfl (lv_at hl 0 rfl) ?_
  refine lv_iconst (v := 2) hx hb dX7_sendsDown_3 (by decide) ?_
  refine lv_icmp_ge (tgt := 71) hx hb dX7_sendsDown_4 (by decide) (fun c13 => absurd c13 (by decide)) (fun _ => ?_)
  refine lv_aload_n hx hb dX7_sendsDown_7 rfl (lv_at hl 1 rfl) ?_
  refine get7 B hP (by decide +kernel) 11 (by decide) mw_1038 rfl dX7_sendsDown_8 ?_
  refine lv_iload_n hx hb dX7_sendsDown_11 rfl (lv_at hl 0 rfl) ?_
  refine lv_aload_n hx hb dX7_sendsDown_12 rfl (lv_at hl 1 rfl) ?_
  refine get7 B hP (by decide +kernel) 10 (by decide) mw_1037 rfl dX7_sendsDown_13 ?_
  refine lv_iload_n hx hb dX7_sendsDown_16 rfl (lv_at hl 0 rfl) ?_
  refine aldf (n := 2) (j := 1) (v := (-1)) B hP (by decide +kernel) (by decide +kernel) rfl (by decide) (by decide) (by rw [e11]; exact up_get_ne (Or.inl (by decide)) (by rw [e8]; exact up_get_ne (Or.inl (by decide)) (by rw [e5]; exact up_get_ne (Or.inl (by decide)) hc1))) dX7_sendsDown_17 ?_
  refine lv_iconst (v := (-1)) hx hb dX7_sendsDown_18 (by decide) ?_
  refine lv_icmp_ne (tgt := 28) hx hb dX7_sendsDown_19 (by decide) (fun c14 => absurd c14 (by decide)) (fun _ => ?_)
  refine lv_iconst (v := (-1)) hx hb dX7_sendsDown_22 (by decide) ?_
  refine lv_iload_n hx hb dX7_sendsDown_23 rfl (lv_at hl 0 rfl) ?_
  refine lv_isub hx hb dX7_sendsDown_24 ?_
  refine lv_topi (fun z15 ez15 => ?_)
  obtain rfl : z15 = (-2) := ez15.trans (by decide)
  refine lv_goto (tgt := 45) hx hb dX7_sendsDown_25 (by decide) ?_
  refine astn (n := 2) (j := 1) B hP hS (by decide +kernel) (by decide +kernel) rfl (by decide) (by decide) dX7_sendsDown_45 (fun H locs hP hS => ?_)
  obtain ⟨ρ16, e17⟩ : ∃ z, z = up ρ10 1085 1 (-2) := ⟨_, rfl⟩
  rw [← e17] at hP
  have F18 : ∀ k, k ≠ 1085 → k ≠ 1086 → k ≠ 1089 → ρ16 k = ρ k := fun k t0 t1 t2 => by rw [e17, up_ne _ _ _ t0]; exact F12 k t0 t1 t2
  refine lv_aload_n hx hb dX7_sendsDown_46 rfl (lv_at hl 1 rfl) ?_
  refine get7 B hP (by decide +kernel) 12 (by decide) mw_1039 rfl dX7_sendsDown_47 ?_
  refine lv_iload_n hx hb dX7_sendsDown_50 rfl (lv_at hl 0 rfl) ?_
  refine lv_aload_n hx hb dX7_sendsDown_51 rfl (lv_at hl 1 rfl) ?_
  refine get7 B hP (by decide +kernel) 11 (by decide) mw_1038 rfl dX7_sendsDown_52 ?_
  refine lv_iload_n hx hb dX7_sendsDown_55 rfl (lv_at hl 0 rfl) ?_
  refine aldf (n := 2) (j := 1) (v := (-2)) B hP (by decide +kernel) (by decide +kernel) rfl (by decide) (by decide) (by rw [e17]; exact up_get_at) dX7_sendsDown_56 ?_
  refine astn (n := 2) (j := 1) B hP hS (by decide +kernel) (by decide +kernel) rfl (by decide) (by decide) dX7_sendsDown_57 (fun H locs hP hS => ?_)
  obtain ⟨ρ19, e20⟩ : ∃ z, z = up ρ16 1086 1 (-2) := ⟨_, rfl⟩
  rw [← e20] at hP
  have F21 : ∀ k, k ≠ 1085 → k ≠ 1086 → k ≠ 1089 → ρ19 k = ρ k := fun k t0 t1 t2 => by rw [e20, up_ne _ _ _ t1]; exact F18 k t0 t1 t2
  refine lv_aload_n hx hb dX7_sendsDown_58 rfl (lv_at hl 1 rfl) ?_
  refine get7 B hP (by decide +kernel) 15 (by decide) mw_1042 rfl dX7_sendsDown_59 ?_
  refine lv_iload_n hx hb dX7_sendsDown_62 rfl (lv_at hl 0 rfl) ?_
  refine lv_iconst (v := 0) hx hb dX7_sendsDown_63 (by decide) ?_
  refine zstn (n := 2) (j := 1) B hP hS (by decide +kernel) (by decide +kernel) rfl (by decide) (by decide) rfl dX7_sendsDown_64 (fun H locs hP hS => ?_)
  obtain ⟨ρ22, e23⟩ : ∃ z, z = up ρ19 1089 1 0 := ⟨_, rfl⟩
  rw [← e23] at hP
  have F24 : ∀ k, k ≠ 1085 → k ≠ 1086 → k ≠ 1089 → ρ22 k = ρ k := fun k t0 t1 t2 => by rw [e23, up_ne _ _ _ t2]; exact F21 k t0 t1 t2
  refine lv_iinc (v := 2) (lv' := [(1, .int 2), (0, .ref (E.2.1 + 1076))]) hx hb dX7_sendsDown_65 hl (k := 0) rfl (by decide) (by decide) rfl (fun ls hl => ?_)
  refine lv_goto (tgt := 2) hx hb dX7_sendsDown_68 (by decide) ?_
  refine lv_iload_n hx hb dX7_sendsDown_2 rfl (lv_at hl 0 rfl) ?_
  refine lv_iconst (v := 2) hx hb dX7_sendsDown_3 (by decide) ?_
  refine lv_icmp_ge (tgt := 71) hx hb dX7_sendsDown_4 (by decide) (fun _ => ?_) (fun c25 => absurd c25 (by decide))
  refine lv_iconst (v := 0) hx hb dX7_sendsDown_71 (by decide) ?_
  refine lv_istore_n (lv' := [(1, .int 0), (0, .ref (E.2.1 + 1076))]) hx hb dX7_sendsDown_72 rfl hl (by decide) rfl (fun ls hl => ?_)
  refine lv_iload_n hx hb dX7_sendsDown_73 rfl (lv_at hl 0 rfl) ?_
  refine lv_iconst (v := 2) hx hb dX7_sendsDown_74 (by decide) ?_
  refine lv_icmp_ge (tgt := 317) hx hb dX7_sendsDown_75 (by decide) (fun c26 => absurd c26 (by decide)) (fun _ => ?_)
  refine lv_aload_n hx hb dX7_sendsDown_78 rfl (lv_at hl 1 rfl) ?_
  refine get7 B hP (by decide +kernel) 10 (by decide) mw_1037 rfl dX7_sendsDown_79 ?_
  refine lv_iload_n hx hb dX7_sendsDown_82 rfl (lv_at hl 0 rfl) ?_
  refine aldf (n := 2) (j := 0) (v := (-1)) B hP (by decide +kernel) (by decide +kernel) rfl (by decide) (by decide) (by rw [e23]; exact up_get_ne (Or.inl (by decide)) (by rw [e20]; exact up_get_ne (Or.inl (by decide)) (by rw [e17]; exact up_get_ne (Or.inl (by decide)) (by rw [e11]; exact up_get_ne (Or.inl (by decide)) (by rw [e8]; exact up_get_ne (Or.inl (by decide)) (by rw [e5]; exact up_get_ne (Or.inl (by decide)) hc0)))))) dX7_sendsDown_83 ?_
  refine lv_bipush (v := (-2)) hx hb dX7_sendsDown_84 (by decide) ?_
  refine lv_icmp_ne (tgt := 97) hx hb dX7_sendsDown_86 (by decide) (fun _ => ?_) (fun c27 => absurd c27 (by decide))
  refine lv_aload_n hx hb dX7_sendsDown_97 rfl (lv_at hl 1 rfl) ?_
  refine get7 B hP (by decide +kernel) 10 (by decide) mw_1037 rfl dX7_sendsDown_98 ?_
  refine lv_iload_n hx hb dX7_sendsDown_101 rfl (lv_at hl 0 rfl) ?_
  refine aldf (n := 2) (j := 0) (v := (-1)) B hP (by decide +kernel) (by decide +kernel) rfl (by decide) (by decide) (by rw [e23]; exact up_get_ne (Or.inl (by decide)) (by rw [e20]; exact up_get_ne (Or.inl (by decide)) (by rw [e17]; exact up_get_ne (Or.inl (by decide)) (by rw [e11]; exact up_get_ne (Or.inl (by decide)) (by rw [e8]; exact up_get_ne (Or.inl (by decide)) (by rw [e5]; exact up_get_ne (Or.inl (by decide)) hc0)))))) dX7_sendsDown_102 ?_
  refine lv_iconst (v := (-1)) hx hb dX7_sendsDown_103 (by decide) ?_
  refine lv_icmp_eq (tgt := 311) hx hb dX7_sendsDown_104 (by decide) (fun _ => ?_) (fun c28 => absurd c28 (by decide))
  refine lv_iinc (v := 1) (lv' := [(1, .int 1), (0, .ref (E.2.1 + 1076))]) hx hb dX7_sendsDown_311 hl (k := 0) rfl (by decide) (by decide) rfl (fun ls hl => ?_)
  refine lv_goto (tgt := 73) hx hb dX7_sendsDown_314 (by decide) ?_
  refine lv_iload_n hx hb dX7_sendsDown_73 rfl (lv_at hl 0 rfl) ?_
  refine lv_iconst (v := 2) hx hb dX7_sendsDown_74 (by decide) ?_
  refine lv_icmp_ge (tgt := 317) hx hb dX7_sendsDown_75 (by decide) (fun c29 => absurd c29 (by decide)) (fun _ => ?_)
  refine lv_aload_n hx hb dX7_sendsDown_78 rfl (lv_at hl 1 rfl) ?_
  refine get7 B hP (by decide +kernel) 10 (by decide) mw_1037 rfl dX7_sendsDown_79 ?_
  refine lv_iload_n hx hb dX7_sendsDown_82 rfl (lv_at hl 0 rfl) ?_
  refine aldf (n := 2) (j := 1) (v := (-1)) B hP (by decide +kernel) (by decide +kernel) rfl (by decide) (by decide) (by rw [e23]; exact up_get_ne (Or.inl (by decide)) (by rw [e20]; exact up_get_ne (Or.inl (by decide)) (by rw [e17]; exact up_get_ne (Or.inl (by decide)) (by rw [e11]; exact up_get_ne (Or.inl (by decide)) (by rw [e8]; exact up_get_ne (Or.inl (by decide)) (by rw [e5]; exact up_get_ne (Or.inl (by decide)) hc1)))))) dX7_sendsDown_83 ?_
  refine lv_bipush (v := (-2)) hx hb dX7_sendsDown_84 (by decide) ?_
  refine lv_icmp_ne (tgt := 97) hx hb dX7_sendsDown_86 (by decide) (fun _ => ?_) (fun c30 => absurd c30 (by decide))
  refine lv_aload_n hx hb dX7_sendsDown_97 rfl (lv_at hl 1 rfl) ?_
  refine get7 B hP (by decide +kernel) 10 (by decide) mw_1037 rfl dX7_sendsDown_98 ?_
  refine lv_iload_n hx hb dX7_sendsDown_101 rfl (lv_at hl 0 rfl) ?_
  refine aldf (n := 2) (j := 1) (v := (-1)) B hP (by decide +kernel) (by decide +kernel) rfl (by decide) (by decide) (by rw [e23]; exact up_get_ne (Or.inl (by decide)) (by rw [e20]; exact up_get_ne (Or.inl (by decide)) (by rw [e17]; exact up_get_ne (Or.inl (by decide)) (by rw [e11]; exact up_get_ne (Or.inl (by decide)) (by rw [e8]; exact up_get_ne (Or.inl (by decide)) (by rw [e5]; exact up_get_ne (Or.inl (by decide)) hc1)))))) dX7_sendsDown_102 ?_
  refine lv_iconst (v := (-1)) hx hb dX7_sendsDown_103 (by decide) ?_
  refine lv_icmp_eq (tgt := 311) hx hb dX7_sendsDown_104 (by decide) (fun _ => ?_) (fun c31 => absurd c31 (by decide))
  refine lv_iinc (v := 2) (lv' := [(1, .int 2), (0, .ref (E.2.1 + 1076))]) hx hb dX7_sendsDown_311 hl (k := 0) rfl (by decide) (by decide) rfl (fun ls hl => ?_)
  refine lv_goto (tgt := 73) hx hb dX7_sendsDown_314 (by decide) ?_
  refine lv_iload_n hx hb dX7_sendsDown_73 rfl (lv_at hl 0 rfl) ?_
  refine lv_iconst (v := 2) hx hb dX7_sendsDown_74 (by decide) ?_
  refine lv_icmp_ge (tgt := 317) hx hb dX7_sendsDown_75 (by decide) (fun _ => ?_) (fun c32 => absurd c32 (by decide))
  refine lv_iconst (v := 0) hx hb dX7_sendsDown_317 (by decide) ?_
  refine lv_istore_n (lv' := [(1, .int 0), (0, .ref (E.2.1 + 1076))]) hx hb dX7_sendsDown_318 rfl hl (by decide) rfl (fun ls hl => ?_)
  refine lv_iload_n hx hb dX7_sendsDown_319 rfl (lv_at hl 0 rfl) ?_
  refine lv_iconst (v := 2) hx hb dX7_sendsDown_320 (by decide) ?_
  refine lv_icmp_ge (tgt := 354) hx hb dX7_sendsDown_321 (by decide) (fun c33 => absurd c33 (by decide)) (fun _ => ?_)
  refine lv_aload_n hx hb dX7_sendsDown_324 rfl (lv_at hl 1 rfl) ?_
  refine get7 B hP (by decide +kernel) 15 (by decide) mw_1042 rfl dX7_sendsDown_325 ?_
  refine lv_iload_n hx hb dX7_sendsDown_328 rfl (lv_at hl 0 rfl) ?_
  refine zldf (n := 2) (j := 0) (v := 0) B hP (by decide +kernel) (by decide +kernel) rfl (by decide) (by decide) (by rw [e23]; exact up_get_ne (Or.inr (by decide)) (by rw [e20]; exact up_get_ne (Or.inl (by decide)) (by rw [e17]; exact up_get_ne (Or.inl (by decide)) (by rw [e11]; exact up_get_at)))) dX7_sendsDown_329 ?_
  refine lv_if_eq (tgt := 348) hx hb dX7_sendsDown_330 (by decide) (fun _ => ?_) (fun c34 => absurd c34 (by decide))
  refine lv_iinc (v := 1) (lv' := [(1, .int 1), (0, .ref (E.2.1 + 1076))]) hx hb dX7_sendsDown_348 hl (k := 0) rfl (by decide) (by decide) rfl (fun ls hl => ?_)
  refine lv_goto (tgt := 319) hx hb dX7_sendsDown_351 (by decide) ?_
  refine lv_iload_n hx hb dX7_sendsDown_319 rfl (lv_at hl 0 rfl) ?_
  refine lv_iconst (v := 2) hx hb dX7_sendsDown_320 (by decide) ?_
  refine lv_icmp_ge (tgt := 354) hx hb dX7_sendsDown_321 (by decide) (fun c35 => absurd c35 (by decide)) (fun _ => ?_)
  refine lv_aload_n hx hb dX7_sendsDown_324 rfl (lv_at hl 1 rfl) ?_
  refine get7 B hP (by decide +kernel) 15 (by decide) mw_1042 rfl dX7_sendsDown_325 ?_
  refine lv_iload_n hx hb dX7_sendsDown_328 rfl (lv_at hl 0 rfl) ?_
  refine zldf (n := 2) (j := 1) (v := 0) B hP (by decide +kernel) (by decide +kernel) rfl (by decide) (by decide) (by rw [e23]; exact up_get_at) dX7_sendsDown_329 ?_
  refine lv_if_eq (tgt := 348) hx hb dX7_sendsDown_330 (by decide) (fun _ => ?_) (fun c36 => absurd c36 (by decide))
  refine lv_iinc (v := 2) (lv' := [(1, .int 2), (0, .ref (E.2.1 + 1076))]) hx hb dX7_sendsDown_348 hl (k := 0) rfl (by decide) (by decide) rfl (fun ls hl => ?_)
  refine lv_goto (tgt := 319) hx hb dX7_sendsDown_351 (by decide) ?_
  refine lv_iload_n hx hb dX7_sendsDown_319 rfl (lv_at hl 0 rfl) ?_
  refine lv_iconst (v := 2) hx hb dX7_sendsDown_320 (by decide) ?_
  refine lv_icmp_ge (tgt := 354) hx hb dX7_sendsDown_321 (by decide) (fun _ => ?_) (fun c37 => absurd c37 (by decide))
  exact ret_v B hr hlk hP hS dX7_sendsDown_354 (⟨F24, (by rw [e23]; exact up_get_ne (Or.inr (by decide)) (by rw [e20]; exact up_get_ne (Or.inl (by decide)) (by rw [e17]; exact up_get_ne (Or.inl (by decide)) (by rw [e11]; exact up_get_at)))), (by rw [e23]; exact up_get_at)⟩)

set_option maxHeartbeats 4000000 in
set_option maxRecDepth 100000 in
theorem c_sendsUp (l : Launch) (E : hE) (ρ : Nat → Nat → Int32) (hc0 : ρ 1089 0 = 0) (hc1 : ρ 1089 1 = 0) : Met l yX7_sendsUp (.code yX7_sendsUp cX7_sendsUp 4 none :: gw_all) (rmk 0 0) (cPre E ρ [.ref (E.2.1 + 1076)]) (cV E (fun ρ1 => ∀ k, k ≠ 1085 → ρ1 k = ρ k)) 0 0 (hA E) := by
  refine ent (own := RX7) (by decide) rfl (Nat.le_of_ble_eq_true rfl) ?_
  intro p e s m below meth c ls B hr hlk hl hP hS
  have hx := B.1.1
  have hb := B.1.2.1
  have hown := B.1.2.2.2.1
  have hts := B.1.2.2.2.2
  have hl : lv_has ls 4 [(0, .ref (E.2.1 + 1076))] := hl
  refine lv_iconst (v := 0) hx hb dX7_sendsUp_0 (by decide) ?_
  refine lv_istore_n (lv' := [(1, .int 0), (0, .ref (E.2.1 + 1076))]) hx hb dX7_sendsUp_1 rfl hl (by decide) rfl (fun ls hl => ?_)
  refine lv_iload_n hx hb dX7_sendsUp_2 rfl (lv_at hl 0 rfl) ?_
  refine lv_iconst (v := 2) hx hb dX7_sendsUp_3 (by decide) ?_
  refine lv_icmp_ge (tgt := 65) hx hb dX7_sendsUp_4 (by decide) (fun c1 => absurd c1 (by decide)) (fun _ => ?_)
  refine lv_aload_n hx hb dX7_sendsUp_7 rfl (lv_at hl 1 rfl) ?_
  refine get7 B hP (by decide +kernel) 11 (by decide) mw_1038 rfl dX7_sendsUp_8 ?_
  refine lv_iload_n hx hb dX7_sendsUp_11 rfl (lv_at hl 0 rfl) ?_
  refine lv_aload_n hx hb dX7_sendsUp_12 rfl (lv_at hl 1 rfl) ?_
  refine get7 B hP (by decide +kernel) 15 (by decide) mw_1042 rfl dX7_sendsUp_13 ?_
  refine lv_iload_n hx hb dX7_sendsUp_16 rfl (lv_at hl 0 rfl) ?_
  refine zldf (n := 2) (j := 0) (v := 0) B hP (by decide +kernel) (by decide +kernel) rfl (by decide) (by decide) hc0 dX7_sendsUp_17 ?_
  refine lv_if_eq (tgt := 55) hx hb dX7_sendsUp_18 (by decide) (fun _ => ?_) (fun c2 => absurd c2 (by decide))
  refine lv_iconst (v := (-1)) hx hb dX7_sendsUp_55 (by decide) ?_
  refine lv_iload_n hx hb dX7_sendsUp_56 rfl (lv_at hl 0 rfl) ?_
  refine lv_isub hx hb dX7_sendsUp_57 ?_
  refine lv_topi (fun z3 ez3 => ?_)
  obtain rfl : z3 = (-1) := ez3.trans (by decide)
  refine astn (n := 2) (j := 0) B hP hS (by decide +kernel) (by decide +kernel) rfl (by decide) (by decide) dX7_sendsUp_58 (fun H locs hP hS => ?_)
  obtain ⟨ρ4, e5⟩ : ∃ z, z = up ρ 1085 0 (-1) := ⟨_, rfl⟩
  rw [← e5] at hP
  have F6 : ∀ k, k ≠ 1085 → ρ4 k = ρ k := fun k t0 => by rw [e5, up_ne _ _ _ t0]
  refine lv_iinc (v := 1) (lv' := [(1, .int 1), (0, .ref (E.2.1 + 1076))]) hx hb dX7_sendsUp_59 hl (k := 0) rfl (by decide) (by decide) rfl (fun ls hl => ?_)
  refine lv_goto (tgt := 2) hx hb dX7_sendsUp_62 (by decide) ?_
  refine lv_iload_n hx hb dX7_sendsUp_2 rfl (lv_at hl 0 rfl) ?_
  refine lv_iconst (v := 2) hx hb dX7_sendsUp_3 (by decide) ?_
  refine lv_icmp_ge (tgt := 65) hx hb dX7_sendsUp_4 (by decide) (fun c7 => absurd c7 (by decide)) (fun _ => ?_)
  refine lv_aload_n hx hb dX7_sendsUp_7 rfl (lv_at hl 1 rfl) ?_
  refine get7 B hP (by decide +kernel) 11 (by decide) mw_1038 rfl dX7_sendsUp_8 ?_
  refine lv_iload_n hx hb dX7_sendsUp_11 rfl (lv_at hl 0 rfl) ?_
  refine lv_aload_n hx hb dX7_sendsUp_12 rfl (lv_at hl 1 rfl) ?_
  refine get7 B hP (by decide +kernel) 15 (by decide) mw_1042 rfl dX7_sendsUp_13 ?_
  refine lv_iload_n hx hb dX7_sendsUp_16 rfl (lv_at hl 0 rfl) ?_
  refine zldf (n := 2) (j := 1) (v := 0) B hP (by decide +kernel) (by decide +kernel) rfl (by decide) (by decide) (by rw [e5]; exact up_get_ne (Or.inl (by decide)) hc1) dX7_sendsUp_17 ?_
  refine lv_if_eq (tgt := 55) hx hb dX7_sendsUp_18 (by decide) (fun _ => ?_) (fun c8 => absurd c8 (by decide))
  refine lv_iconst (v := (-1)) hx hb dX7_sendsUp_55 (by decide) ?_
  refine lv_iload_n hx hb dX7_sendsUp_56 rfl (lv_at hl 0 rfl) ?_
  refine lv_isub hx hb dX7_sendsUp_57 ?_
  refine lv_topi (fun z9 ez9 => ?_)
  obtain rfl : z9 = (-2) := ez9.trans (by decide)
  refine astn (n := 2) (j := 1) B hP hS (by decide +kernel) (by decide +kernel) rfl (by decide) (by decide) dX7_sendsUp_58 (fun H locs hP hS => ?_)
  obtain ⟨ρ10, e11⟩ : ∃ z, z = up ρ4 1085 1 (-2) := ⟨_, rfl⟩
  rw [← e11] at hP
  have F12 : ∀ k, k ≠ 1085 → ρ10 k = ρ k := fun k t0 => by rw [e11, up_ne _ _ _ t0]; exact F6 k t0
  refine lv_iinc (v := 2) (lv' := [(1, .int 2), (0, .ref (E.2.1 + 1076))]) hx hb dX7_sendsUp_59 hl (k := 0) rfl (by decide) (by decide) rfl (fun ls hl => ?_)
  refine lv_goto (tgt := 2) hx hb dX7_sendsUp_62 (by decide) ?_
  refine lv_iload_n hx hb dX7_sendsUp_2 rfl (lv_at hl 0 rfl) ?_
  refine lv_iconst (v := 2) hx hb dX7_sendsUp_3 (by decide) ?_
  refine lv_icmp_ge (tgt := 65) hx hb dX7_sendsUp_4 (by decide) (fun _ => ?_) (fun c13 => absurd c13 (by decide))
  refine lv_iconst (v := 0) hx hb dX7_sendsUp_65 (by decide) ?_
  refine lv_istore_n (lv' := [(1, .int 0), (0, .ref (E.2.1 + 1076))]) hx hb dX7_sendsUp_66 rfl hl (by decide) rfl (fun ls hl => ?_)
  refine lv_iload_n hx hb dX7_sendsUp_67 rfl (lv_at hl 0 rfl) ?_
  refine lv_iconst (v := 2) hx hb dX7_sendsUp_68 (by decide) ?_
  refine lv_icmp_ge (tgt := 202) hx hb dX7_sendsUp_69 (by decide) (fun c14 => absurd c14 (by decide)) (fun _ => ?_)
  refine lv_aload_n hx hb dX7_sendsUp_72 rfl (lv_at hl 1 rfl) ?_
  refine get7 B hP (by decide +kernel) 15 (by decide) mw_1042 rfl dX7_sendsUp_73 ?_
  refine lv_iload_n hx hb dX7_sendsUp_76 rfl (lv_at hl 0 rfl) ?_
  refine zldf (n := 2) (j := 0) (v := 0) B hP (by decide +kernel) (by decide +kernel) rfl (by decide) (by decide) (by rw [e11]; exact up_get_ne (Or.inl (by decide)) (by rw [e5]; exact up_get_ne (Or.inl (by decide)) hc0)) dX7_sendsUp_77 ?_
  refine lv_if_eq (tgt := 196) hx hb dX7_sendsUp_78 (by decide) (fun _ => ?_) (fun c15 => absurd c15 (by decide))
  refine lv_iinc (v := 1) (lv' := [(1, .int 1), (0, .ref (E.2.1 + 1076))]) hx hb dX7_sendsUp_196 hl (k := 0) rfl (by decide) (by decide) rfl (fun ls hl => ?_)
  refine lv_goto (tgt := 67) hx hb dX7_sendsUp_199 (by decide) ?_
  refine lv_iload_n hx hb dX7_sendsUp_67 rfl (lv_at hl 0 rfl) ?_
  refine lv_iconst (v := 2) hx hb dX7_sendsUp_68 (by decide) ?_
  refine lv_icmp_ge (tgt := 202) hx hb dX7_sendsUp_69 (by decide) (fun c16 => absurd c16 (by decide)) (fun _ => ?_)
  refine lv_aload_n hx hb dX7_sendsUp_72 rfl (lv_at hl 1 rfl) ?_
  refine get7 B hP (by decide +kernel) 15 (by decide) mw_1042 rfl dX7_sendsUp_73 ?_
  refine lv_iload_n hx hb dX7_sendsUp_76 rfl (lv_at hl 0 rfl) ?_
  refine zldf (n := 2) (j := 1) (v := 0) B hP (by decide +kernel) (by decide +kernel) rfl (by decide) (by decide) (by rw [e11]; exact up_get_ne (Or.inl (by decide)) (by rw [e5]; exact up_get_ne (Or.inl (by decide)) hc1)) dX7_sendsUp_77 ?_
  refine lv_if_eq (tgt := 196) hx hb dX7_sendsUp_78 (by decide) (fun _ => ?_) (fun c17 => absurd c17 (by decide))
  refine lv_iinc (v := 2) (lv' := [(1, .int 2), (0, .ref (E.2.1 + 1076))]) hx hb dX7_sendsUp_196 hl (k := 0) rfl (by decide) (by decide) rfl (fun ls hl => ?_)
  refine lv_goto (tgt := 67) hx hb dX7_sendsUp_199 (by decide) ?_
  refine lv_iload_n hx hb dX7_sendsUp_67 rfl (lv_at hl 0 rfl) ?_
  refine lv_iconst (v := 2) hx hb dX7_sendsUp_68 (by decide) ?_
  refine lv_icmp_ge (tgt := 202) hx hb dX7_sendsUp_69 (by decide) (fun _ => ?_) (fun c18 => absurd c18 (by decide))
  exact ret_v B hr hlk hP hS dX7_sendsUp_202 (F12)

theorem lk_RX7_227 : LkV RX7 227 RX7 yX7_sendsDown cX7_sendsDown 5 none 0 := ⟨⟨mw_1289, mw_1291, mw_30, mw_59, mw_1292⟩, by decide +kernel⟩
theorem lk_RX7_230 : LkV RX7 230 RX7 yX7_sendsUp cX7_sendsUp 4 none 0 := ⟨⟨mw_1328, mw_1330, mw_39, mw_59, mw_1331⟩, by decide +kernel⟩
set_option maxHeartbeats 4000000 in
set_option maxRecDepth 100000 in
theorem c_turn (l : Launch) (E : hE) (ρ : Nat → Nat → Int32) (hN : ρ 1078 42 = -1 ∧ ρ 1078 368 = -1) : Met l yX7_turn (.code yX7_turn cX7_turn 5 none :: gw_all) (rmk 2 80) (cPre E ρ [.ref (E.2.1 + 1076)]) (cV E (fun ρ1 => TU ρ ρ1)) 0 0 (hA E) := by
  refine ent (own := RX7) (by decide) rfl (Nat.le_of_ble_eq_true rfl) ?_
  intro p e s m below meth c ls B hr hlk hl hP hS
  have hx := B.1.1
  have hb := B.1.2.1
  have hown := B.1.2.2.2.1
  have hts := B.1.2.2.2.2
  have hl : lv_has ls 5 [(0, .ref (E.2.1 + 1076))] := hl
  refine lv_iconst (v := 0) hx hb dX7_turn_0 (by decide) ?_
  refine lv_istore_n (lv' := [(1, .int 0), (0, .ref (E.2.1 + 1076))]) hx hb dX7_turn_1 rfl hl (by decide) rfl (fun ls hl => ?_)
  refine lv_iload_n hx hb dX7_turn_2 rfl (lv_at hl 0 rfl) ?_
  refine lv_iconst (v := 2) hx hb dX7_turn_3 (by decide) ?_
  refine lv_icmp_ge (tgt := 97) hx hb dX7_turn_4 (by decide) (fun c1 => absurd c1 (by decide)) (fun _ => ?_)
  refine lv_iload_n hx hb dX7_turn_7 rfl (lv_at hl 0 rfl) ?_
  refine call_i (cS (av := [.int 0]) (rest := []) B hP hS (c_mnetAt l E ρ 0) lk_RX7_75 rfl rfl hl.1 (Nat.le_of_ble_eq_true rfl) ⟨Nat.le_of_ble_eq_true rfl, Nat.le_of_ble_eq_true rfl⟩ ⟨Nat.le_of_ble_eq_true rfl, Nat.le_of_ble_eq_true rfl⟩ dX7_turn_8) hS (fun r2 ρ3 H locs q4 hP hS => ?_)
  obtain ⟨rfl, q4⟩ := q4
  obtain rfl : r2 = 42 := q4.trans (by decide)
  refine lv_istore_n (lv' := [(2, .int 42), (1, .int 0), (0, .ref (E.2.1 + 1076))]) hx hb dX7_turn_11 rfl hl (by decide) rfl (fun ls hl => ?_)
  refine lv_iconst (v := (-1)) hx hb dX7_turn_12 (by decide) ?_
  refine lv_istore_n (lv' := [(3, .int (-1)), (2, .int 42), (1, .int 0), (0, .ref (E.2.1 + 1076))]) hx hb dX7_turn_13 rfl hl (by decide) rfl (fun ls hl => ?_)
  refine lv_aload_n hx hb dX7_turn_14 rfl (lv_at hl 3 rfl) ?_
  refine lv_iload_n hx hb dX7_turn_15 rfl (lv_at hl 2 rfl) ?_
  refine call_i (cVt (k := 1076) (av := [.int 0]) (rest := []) B hP hS (c_isNet l E ρ 0 ⟨hN.1, hN.2⟩) lk_RX7_78 (hrecv (ci := 7) B hP (hk_lt (c := 7) (by decide +kernel) (by decide)) (hcc7 _ _ (by decide +kernel)) rfl) rfl rfl hl.1 (Nat.le_of_ble_eq_true rfl) ⟨Nat.le_of_ble_eq_true rfl, Nat.le_of_ble_eq_true rfl⟩ ⟨Nat.le_of_ble_eq_true rfl, Nat.le_of_ble_eq_true rfl⟩ dX7_turn_16) hS (fun r5 ρ6 H locs q7 hP hS => ?_)
  obtain ⟨rfl, rfl⟩ := q7
  refine lv_if_eq (tgt := 91) hx hb dX7_turn_19 (by decide) (fun _ => ?_) (fun c8 => absurd c8 (by decide))
  refine lv_iinc (v := 1) (lv' := [(1, .int 1), (3, .int (-1)), (2, .int 42), (0, .ref (E.2.1 + 1076))]) hx hb dX7_turn_91 hl (k := 2) rfl (by decide) (by decide) rfl (fun ls hl => ?_)
  refine lv_goto (tgt := 2) hx hb dX7_turn_94 (by decide) ?_
  refine lv_iload_n hx hb dX7_turn_2 rfl (lv_at hl 0 rfl) ?_
  refine lv_iconst (v := 2) hx hb dX7_turn_3 (by decide) ?_
  refine lv_icmp_ge (tgt := 97) hx hb dX7_turn_4 (by decide) (fun c9 => absurd c9 (by decide)) (fun _ => ?_)
  refine lv_iload_n hx hb dX7_turn_7 rfl (lv_at hl 0 rfl) ?_
  refine call_i (cS (av := [.int 1]) (rest := []) B hP hS (c_mnetAt l E ρ 1) lk_RX7_75 rfl rfl hl.1 (Nat.le_of_ble_eq_true rfl) ⟨Nat.le_of_ble_eq_true rfl, Nat.le_of_ble_eq_true rfl⟩ ⟨Nat.le_of_ble_eq_true rfl, Nat.le_of_ble_eq_true rfl⟩ dX7_turn_8) hS (fun r10 ρ11 H locs q12 hP hS => ?_)
  obtain ⟨rfl, q12⟩ := q12
  obtain rfl : r10 = 368 := q12.trans (by decide)
  refine lv_istore_n (lv' := [(2, .int 368), (1, .int 1), (3, .int (-1)), (0, .ref (E.2.1 + 1076))]) hx hb dX7_turn_11 rfl hl (by decide) rfl (fun ls hl => ?_)
  refine lv_iconst (v := (-1)) hx hb dX7_turn_12 (by decide) ?_
  refine lv_istore_n (lv' := [(3, .int (-1)), (2, .int 368), (1, .int 1), (0, .ref (E.2.1 + 1076))]) hx hb dX7_turn_13 rfl hl (by decide) rfl (fun ls hl => ?_)
  refine lv_aload_n hx hb dX7_turn_14 rfl (lv_at hl 3 rfl) ?_
  refine lv_iload_n hx hb dX7_turn_15 rfl (lv_at hl 2 rfl) ?_
  refine call_i (cVt (k := 1076) (av := [.int 1]) (rest := []) B hP hS (c_isNet l E ρ 1 ⟨hN.1, hN.2⟩) lk_RX7_78 (hrecv (ci := 7) B hP (hk_lt (c := 7) (by decide +kernel) (by decide)) (hcc7 _ _ (by decide +kernel)) rfl) rfl rfl hl.1 (Nat.le_of_ble_eq_true rfl) ⟨Nat.le_of_ble_eq_true rfl, Nat.le_of_ble_eq_true rfl⟩ ⟨Nat.le_of_ble_eq_true rfl, Nat.le_of_ble_eq_true rfl⟩ dX7_turn_16) hS (fun r13 ρ14 H locs q15 hP hS => ?_)
  obtain ⟨rfl, rfl⟩ := q15
  refine lv_if_eq (tgt := 91) hx hb dX7_turn_19 (by decide) (fun _ => ?_) (fun c16 => absurd c16 (by decide))
  refine lv_iinc (v := 2) (lv' := [(1, .int 2), (3, .int (-1)), (2, .int 368), (0, .ref (E.2.1 + 1076))]) hx hb dX7_turn_91 hl (k := 2) rfl (by decide) (by decide) rfl (fun ls hl => ?_)
  refine lv_goto (tgt := 2) hx hb dX7_turn_94 (by decide) ?_
  refine lv_iload_n hx hb dX7_turn_2 rfl (lv_at hl 0 rfl) ?_
  refine lv_iconst (v := 2) hx hb dX7_turn_3 (by decide) ?_
  refine lv_icmp_ge (tgt := 97) hx hb dX7_turn_4 (by decide) (fun _ => ?_) (fun c17 => absurd c17 (by decide))
  refine lv_iconst (v := 0) hx hb dX7_turn_97 (by decide) ?_
  refine lv_istore_n (lv' := [(1, .int 0), (3, .int (-1)), (2, .int 368), (0, .ref (E.2.1 + 1076))]) hx hb dX7_turn_98 rfl hl (by decide) rfl (fun ls hl => ?_)
  refine lv_iload_n hx hb dX7_turn_99 rfl (lv_at hl 0 rfl) ?_
  refine lv_iconst (v := 2) hx hb dX7_turn_100 (by decide) ?_
  refine lv_icmp_ge (tgt := 181) hx hb dX7_turn_101 (by decide) (fun c18 => absurd c18 (by decide)) (fun _ => ?_)
  refine lv_iconst (v := 0) hx hb dX7_turn_104 (by decide) ?_
  refine lv_istore_n (lv' := [(2, .int 0), (1, .int 0), (3, .int (-1)), (0, .ref (E.2.1 + 1076))]) hx hb dX7_turn_105 rfl hl (by decide) rfl (fun ls hl => ?_)
  refine lv_aload_n hx hb dX7_turn_106 rfl (lv_at hl 3 rfl) ?_
  refine lv_iload_n hx hb dX7_turn_107 rfl (lv_at hl 1 rfl) ?_
  refine call_i (cVt (k := 1076) (av := [.int 0]) (rest := []) B hP hS (c_isNet l E ρ 0 ⟨hN.1, hN.2⟩) lk_RX7_78 (hrecv (ci := 7) B hP (hk_lt (c := 7) (by decide +kernel) (by decide)) (hcc7 _ _ (by decide +kernel)) rfl) rfl rfl hl.1 (Nat.le_of_ble_eq_true rfl) ⟨Nat.le_of_ble_eq_true rfl, Nat.le_of_ble_eq_true rfl⟩ ⟨Nat.le_of_ble_eq_true rfl, Nat.le_of_ble_eq_true rfl⟩ dX7_turn_108) hS (fun r19 ρ20 H locs q21 hP hS => ?_)
  obtain ⟨rfl, rfl⟩ := q21
  refine lv_if_eq (tgt := 175) hx hb dX7_turn_111 (by decide) (fun _ => ?_) (fun c22 => absurd c22 (by decide))
  refine lv_iinc (v := 1) (lv' := [(1, .int 1), (2, .int 0), (3, .int (-1)), (0, .ref (E.2.1 + 1076))]) hx hb dX7_turn_175 hl (k := 1) rfl (by decide) (by decide) rfl (fun ls hl => ?_)
  refine lv_goto (tgt := 99) hx hb dX7_turn_178 (by decide) ?_
  refine lv_iload_n hx hb dX7_turn_99 rfl (lv_at hl 0 rfl) ?_
  refine lv_iconst (v := 2) hx hb dX7_turn_100 (by decide) ?_
  refine lv_icmp_ge (tgt := 181) hx hb dX7_turn_101 (by decide) (fun c23 => absurd c23 (by decide)) (fun _ => ?_)
  refine lv_iconst (v := 0) hx hb dX7_turn_104 (by decide) ?_
  refine lv_istore_n (lv' := [(2, .int 0), (1, .int 1), (3, .int (-1)), (0, .ref (E.2.1 + 1076))]) hx hb dX7_turn_105 rfl hl (by decide) rfl (fun ls hl => ?_)
  refine lv_aload_n hx hb dX7_turn_106 rfl (lv_at hl 3 rfl) ?_
  refine lv_iload_n hx hb dX7_turn_107 rfl (lv_at hl 1 rfl) ?_
  refine call_i (cVt (k := 1076) (av := [.int 1]) (rest := []) B hP hS (c_isNet l E ρ 1 ⟨hN.1, hN.2⟩) lk_RX7_78 (hrecv (ci := 7) B hP (hk_lt (c := 7) (by decide +kernel) (by decide)) (hcc7 _ _ (by decide +kernel)) rfl) rfl rfl hl.1 (Nat.le_of_ble_eq_true rfl) ⟨Nat.le_of_ble_eq_true rfl, Nat.le_of_ble_eq_true rfl⟩ ⟨Nat.le_of_ble_eq_true rfl, Nat.le_of_ble_eq_true rfl⟩ dX7_turn_108) hS (fun r24 ρ25 H locs q26 hP hS => ?_)
  obtain ⟨rfl, rfl⟩ := q26
  refine lv_if_eq (tgt := 175) hx hb dX7_turn_111 (by decide) (fun _ => ?_) (fun c27 => absurd c27 (by decide))
  refine lv_iinc (v := 2) (lv' := [(1, .int 2), (2, .int 0), (3, .int (-1)), (0, .ref (E.2.1 + 1076))]) hx hb dX7_turn_175 hl (k := 1) rfl (by decide) (by decide) rfl (fun ls hl => ?_)
  refine lv_goto (tgt := 99) hx hb dX7_turn_178 (by decide) ?_
  refine lv_iload_n hx hb dX7_turn_99 rfl (lv_at hl 0 rfl) ?_
  refine lv_iconst (v := 2) hx hb dX7_turn_100 (by decide) ?_
  refine lv_icmp_ge (tgt := 181) hx hb dX7_turn_101 (by decide) (fun _ => ?_) (fun c28 => absurd c28 (by decide))
  refine lv_iconst (v := 0) hx hb dX7_turn_181 (by decide) ?_
  refine lv_istore_n (lv' := [(1, .int 0), (2, .int 0), (3, .int (-1)), (0, .ref (E.2.1 + 1076))]) hx hb dX7_turn_182 rfl hl (by decide) rfl (fun ls hl => ?_)
  refine lv_iload_n hx hb dX7_turn_183 rfl (lv_at hl 0 rfl) ?_
  refine lv_iconst (v := 2) hx hb dX7_turn_184 (by decide) ?_
  refine lv_icmp_ge (tgt := 217) hx hb dX7_turn_185 (by decide) (fun c29 => absurd c29 (by decide)) (fun _ => ?_)
  refine lv_aload_n hx hb dX7_turn_188 rfl (lv_at hl 3 rfl) ?_
  refine get7 B hP (by decide +kernel) 10 (by decide) mw_1037 rfl dX7_turn_189 ?_
  refine lv_iload_n hx hb dX7_turn_192 rfl (lv_at hl 0 rfl) ?_
  refine lv_aload_n hx hb dX7_turn_193 rfl (lv_at hl 3 rfl) ?_
  refine lv_iload_n hx hb dX7_turn_194 rfl (lv_at hl 0 rfl) ?_
  refine call_i (cVt (k := 1076) (av := [.int 0]) (rest := [.int 0, .ref (E.2.1 + 1084)]) B hP hS (c_isNet l E ρ 0 ⟨hN.1, hN.2⟩) lk_RX7_78 (hrecv (ci := 7) B hP (hk_lt (c := 7) (by decide +kernel) (by decide)) (hcc7 _ _ (by decide +kernel)) rfl) rfl rfl hl.1 (Nat.le_of_ble_eq_true rfl) ⟨Nat.le_of_ble_eq_true rfl, Nat.le_of_ble_eq_true rfl⟩ ⟨Nat.le_of_ble_eq_true rfl, Nat.le_of_ble_eq_true rfl⟩ dX7_turn_195) hS (fun r30 ρ31 H locs q32 hP hS => ?_)
  obtain ⟨rfl, rfl⟩ := q32
  refine lv_if_eq (tgt := 209) hx hb dX7_turn_198 (by decide) (fun _ => ?_) (fun c33 => absurd c33 (by decide))
  refine lv_iconst (v := (-1)) hx hb dX7_turn_209 (by decide) ?_
  refine astn (n := 2) (j := 0) B hP hS (by decide +kernel) (by decide +kernel) rfl (by decide) (by decide) dX7_turn_210 (fun H locs hP hS => ?_)
  obtain ⟨ρ34, e35⟩ : ∃ z, z = up ρ 1084 0 (-1) := ⟨_, rfl⟩
  rw [← e35] at hP
  have F36 : ∀ k, k ≠ 1078 → k ≠ 1084 → k ≠ 1085 → k ≠ 1086 → k ≠ 1089 → ρ34 k = ρ k := fun k t0 t1 t2 t3 t4 => by rw [e35, up_ne _ _ _ t1]
  have G37 : ∀ j, j ≠ 7 → ρ34 1078 j = ρ 1078 j := fun j hj => by rw [e35]; exact up_get_ne (Or.inl (by decide)) ((fun _ _ => rfl) j hj)
  refine lv_iinc (v := 1) (lv' := [(1, .int 1), (2, .int 0), (3, .int (-1)), (0, .ref (E.2.1 + 1076))]) hx hb dX7_turn_211 hl (k := 0) rfl (by decide) (by decide) rfl (fun ls hl => ?_)
  refine lv_goto (tgt := 183) hx hb dX7_turn_214 (by decide) ?_
  refine lv_iload_n hx hb dX7_turn_183 rfl (lv_at hl 0 rfl) ?_
  refine lv_iconst (v := 2) hx hb dX7_turn_184 (by decide) ?_
  refine lv_icmp_ge (tgt := 217) hx hb dX7_turn_185 (by decide) (fun c38 => absurd c38 (by decide)) (fun _ => ?_)
  refine lv_aload_n hx hb dX7_turn_188 rfl (lv_at hl 3 rfl) ?_
  refine get7 B hP (by decide +kernel) 10 (by decide) mw_1037 rfl dX7_turn_189 ?_
  refine lv_iload_n hx hb dX7_turn_192 rfl (lv_at hl 0 rfl) ?_
  refine lv_aload_n hx hb dX7_turn_193 rfl (lv_at hl 3 rfl) ?_
  refine lv_iload_n hx hb dX7_turn_194 rfl (lv_at hl 0 rfl) ?_
  refine call_i (cVt (k := 1076) (av := [.int 1]) (rest := [.int 1, .ref (E.2.1 + 1084)]) B hP hS (c_isNet l E ρ34 1 ⟨(by rw [e35]; exact up_get_ne (Or.inl (by decide)) hN.1), (by rw [e35]; exact up_get_ne (Or.inl (by decide)) hN.2)⟩) lk_RX7_78 (hrecv (ci := 7) B hP (hk_lt (c := 7) (by decide +kernel) (by decide)) (hcc7 _ _ (by decide +kernel)) rfl) rfl rfl hl.1 (Nat.le_of_ble_eq_true rfl) ⟨Nat.le_of_ble_eq_true rfl, Nat.le_of_ble_eq_true rfl⟩ ⟨Nat.le_of_ble_eq_true rfl, Nat.le_of_ble_eq_true rfl⟩ dX7_turn_195) hS (fun r39 ρ40 H locs q41 hP hS => ?_)
  obtain ⟨rfl, rfl⟩ := q41
  refine lv_if_eq (tgt := 209) hx hb dX7_turn_198 (by decide) (fun _ => ?_) (fun c42 => absurd c42 (by decide))
  refine lv_iconst (v := (-1)) hx hb dX7_turn_209 (by decide) ?_
  refine astn (n := 2) (j := 1) B hP hS (by decide +kernel) (by decide +kernel) rfl (by decide) (by decide) dX7_turn_210 (fun H locs hP hS => ?_)
  obtain ⟨ρ43, e44⟩ : ∃ z, z = up ρ34 1084 1 (-1) := ⟨_, rfl⟩
  rw [← e44] at hP
  have F45 : ∀ k, k ≠ 1078 → k ≠ 1084 → k ≠ 1085 → k ≠ 1086 → k ≠ 1089 → ρ43 k = ρ k := fun k t0 t1 t2 t3 t4 => by rw [e44, up_ne _ _ _ t1]; exact F36 k t0 t1 t2 t3 t4
  have G46 : ∀ j, j ≠ 7 → ρ43 1078 j = ρ 1078 j := fun j hj => by rw [e44]; exact up_get_ne (Or.inl (by decide)) (G37 j hj)
  refine lv_iinc (v := 2) (lv' := [(1, .int 2), (2, .int 0), (3, .int (-1)), (0, .ref (E.2.1 + 1076))]) hx hb dX7_turn_211 hl (k := 0) rfl (by decide) (by decide) rfl (fun ls hl => ?_)
  refine lv_goto (tgt := 183) hx hb dX7_turn_214 (by decide) ?_
  refine lv_iload_n hx hb dX7_turn_183 rfl (lv_at hl 0 rfl) ?_
  refine lv_iconst (v := 2) hx hb dX7_turn_184 (by decide) ?_
  refine lv_icmp_ge (tgt := 217) hx hb dX7_turn_185 (by decide) (fun _ => ?_) (fun c47 => absurd c47 (by decide))
  refine lv_aload_n hx hb dX7_turn_217 rfl (lv_at hl 3 rfl) ?_
  refine call_v (cVt (k := 1076) (av := []) (rest := []) B hP hS (c_sendsDown l E ρ43 (by rw [e44]; exact up_get_ne (Or.inr (by decide)) (by rw [e35]; exact up_get_at)) (by rw [e44]; exact up_get_at)) lk_RX7_227 (hrecv (ci := 7) B hP (hk_lt (c := 7) (by decide +kernel) (by decide)) (hcc7 _ _ (by decide +kernel)) rfl) rfl rfl hl.1 (Nat.le_of_ble_eq_true rfl) ⟨Nat.le_of_ble_eq_true rfl, Nat.le_of_ble_eq_true rfl⟩ ⟨Nat.le_of_ble_eq_true rfl, Nat.le_of_ble_eq_true rfl⟩ dX7_turn_218) hS (fun ρ49 H locs q50 hP hS => ?_)
  have Fq50 : ∀ k, k ≠ 1078 → k ≠ 1084 → k ≠ 1085 → k ≠ 1086 → k ≠ 1089 → ρ49 k = ρ k := fun k t0 t1 t2 t3 t4 => (q50.1 k t2 t3 t4).trans (F45 k t0 t1 t2 t3 t4)
  have Gq50 : ∀ j, j ≠ 7 → ρ49 1078 j = ρ 1078 j := fun j hj => (congrFun (q50.1 1078 (by decide) (by decide) (by decide)) j).trans (G46 j hj)
  refine lv_aload_n hx hb dX7_turn_221 rfl (lv_at hl 3 rfl) ?_
  refine call_v (cVt (k := 1076) (av := []) (rest := []) B hP hS (c_sendsUp l E ρ49 q50.2.1 q50.2.2) lk_RX7_230 (hrecv (ci := 7) B hP (hk_lt (c := 7) (by decide +kernel) (by decide)) (hcc7 _ _ (by decide +kernel)) rfl) rfl rfl hl.1 (Nat.le_of_ble_eq_true rfl) ⟨Nat.le_of_ble_eq_true rfl, Nat.le_of_ble_eq_true rfl⟩ ⟨Nat.le_of_ble_eq_true rfl, Nat.le_of_ble_eq_true rfl⟩ dX7_turn_222) hS (fun ρ52 H locs q53 hP hS => ?_)
  have Fq53 : ∀ k, k ≠ 1078 → k ≠ 1084 → k ≠ 1085 → k ≠ 1086 → k ≠ 1089 → ρ52 k = ρ k := fun k t0 t1 t2 t3 t4 => (q53 k t2).trans (Fq50 k t0 t1 t2 t3 t4)
  have Gq53 : ∀ j, j ≠ 7 → ρ52 1078 j = ρ 1078 j := fun j hj => (congrFun (q53 1078 (by decide)) j).trans (Gq50 j hj)
  refine lv_iconst (v := 0) hx hb dX7_turn_225 (by decide) ?_
  refine lv_istore_n (lv' := [(1, .int 0), (2, .int 0), (3, .int (-1)), (0, .ref (E.2.1 + 1076))]) hx hb dX7_turn_226 rfl hl (by decide) rfl (fun ls hl => ?_)
  refine lv_iload_n hx hb dX7_turn_227 rfl (lv_at hl 0 rfl) ?_
  refine lv_iconst (v := 2) hx hb dX7_turn_228 (by decide) ?_
  refine lv_icmp_ge (tgt := 356) hx hb dX7_turn_229 (by decide) (fun c54 => absurd c54 (by decide)) (fun _ => ?_)
  refine lv_iconst (v := 0) hx hb dX7_turn_232 (by decide) ?_
  refine lv_istore_n (lv' := [(2, .int 0), (1, .int 0), (3, .int (-1)), (0, .ref (E.2.1 + 1076))]) hx hb dX7_turn_233 rfl hl (by decide) rfl (fun ls hl => ?_)
  refine lv_aload_n hx hb dX7_turn_234 rfl (lv_at hl 3 rfl) ?_
  refine lv_iload_n hx hb dX7_turn_235 rfl (lv_at hl 1 rfl) ?_
  refine call_i (cVt (k := 1076) (av := [.int 0]) (rest := []) B hP hS (c_isNet l E ρ52 0 ⟨((congrFun (q53 1078 (by decide)) 42).trans ((congrFun (q50.1 1078 (by decide) (by decide) (by decide)) 42).trans (by rw [e44]; exact up_get_ne (Or.inl (by decide)) (by rw [e35]; exact up_get_ne (Or.inl (by decide)) hN.1)))), ((congrFun (q53 1078 (by decide)) 368).trans ((congrFun (q50.1 1078 (by decide) (by decide) (by decide)) 368).trans (by rw [e44]; exact up_get_ne (Or.inl (by decide)) (by rw [e35]; exact up_get_ne (Or.inl (by decide)) hN.2))))⟩) lk_RX7_78 (hrecv (ci := 7) B hP (hk_lt (c := 7) (by decide +kernel) (by decide)) (hcc7 _ _ (by decide +kernel)) rfl) rfl rfl hl.1 (Nat.le_of_ble_eq_true rfl) ⟨Nat.le_of_ble_eq_true rfl, Nat.le_of_ble_eq_true rfl⟩ ⟨Nat.le_of_ble_eq_true rfl, Nat.le_of_ble_eq_true rfl⟩ dX7_turn_236) hS (fun r55 ρ56 H locs q57 hP hS => ?_)
  obtain ⟨rfl, rfl⟩ := q57
  refine lv_if_eq (tgt := 350) hx hb dX7_turn_239 (by decide) (fun _ => ?_) (fun c58 => absurd c58 (by decide))
  refine lv_iinc (v := 1) (lv' := [(1, .int 1), (2, .int 0), (3, .int (-1)), (0, .ref (E.2.1 + 1076))]) hx hb dX7_turn_350 hl (k := 1) rfl (by decide) (by decide) rfl (fun ls hl => ?_)
  refine lv_goto (tgt := 227) hx hb dX7_turn_353 (by decide) ?_
  refine lv_iload_n hx hb dX7_turn_227 rfl (lv_at hl 0 rfl) ?_
  refine lv_iconst (v := 2) hx hb dX7_turn_228 (by decide) ?_
  refine lv_icmp_ge (tgt := 356) hx hb dX7_turn_229 (by decide) (fun c59 => absurd c59 (by decide)) (fun _ => ?_)
  refine lv_iconst (v := 0) hx hb dX7_turn_232 (by decide) ?_
  refine lv_istore_n (lv' := [(2, .int 0), (1, .int 1), (3, .int (-1)), (0, .ref (E.2.1 + 1076))]) hx hb dX7_turn_233 rfl hl (by decide) rfl (fun ls hl => ?_)
  refine lv_aload_n hx hb dX7_turn_234 rfl (lv_at hl 3 rfl) ?_
  refine lv_iload_n hx hb dX7_turn_235 rfl (lv_at hl 1 rfl) ?_
  refine call_i (cVt (k := 1076) (av := [.int 1]) (rest := []) B hP hS (c_isNet l E ρ52 1 ⟨((congrFun (q53 1078 (by decide)) 42).trans ((congrFun (q50.1 1078 (by decide) (by decide) (by decide)) 42).trans (by rw [e44]; exact up_get_ne (Or.inl (by decide)) (by rw [e35]; exact up_get_ne (Or.inl (by decide)) hN.1)))), ((congrFun (q53 1078 (by decide)) 368).trans ((congrFun (q50.1 1078 (by decide) (by decide) (by decide)) 368).trans (by rw [e44]; exact up_get_ne (Or.inl (by decide)) (by rw [e35]; exact up_get_ne (Or.inl (by decide)) hN.2))))⟩) lk_RX7_78 (hrecv (ci := 7) B hP (hk_lt (c := 7) (by decide +kernel) (by decide)) (hcc7 _ _ (by decide +kernel)) rfl) rfl rfl hl.1 (Nat.le_of_ble_eq_true rfl) ⟨Nat.le_of_ble_eq_true rfl, Nat.le_of_ble_eq_true rfl⟩ ⟨Nat.le_of_ble_eq_true rfl, Nat.le_of_ble_eq_true rfl⟩ dX7_turn_236) hS (fun r60 ρ61 H locs q62 hP hS => ?_)
  obtain ⟨rfl, rfl⟩ := q62
  refine lv_if_eq (tgt := 350) hx hb dX7_turn_239 (by decide) (fun _ => ?_) (fun c63 => absurd c63 (by decide))
  refine lv_iinc (v := 2) (lv' := [(1, .int 2), (2, .int 0), (3, .int (-1)), (0, .ref (E.2.1 + 1076))]) hx hb dX7_turn_350 hl (k := 1) rfl (by decide) (by decide) rfl (fun ls hl => ?_)
  refine lv_goto (tgt := 227) hx hb dX7_turn_353 (by decide) ?_
  refine lv_iload_n hx hb dX7_turn_227 rfl (lv_at hl 0 rfl) ?_
  refine lv_iconst (v := 2) hx hb dX7_turn_228 (by decide) ?_
  refine lv_icmp_ge (tgt := 356) hx hb dX7_turn_229 (by decide) (fun _ => ?_) (fun c64 => absurd c64 (by decide))
  refine lv_aload_n hx hb dX7_turn_356 rfl (lv_at hl 3 rfl) ?_
  refine get7 B hP (by decide +kernel) 3 (by decide) mw_1030 rfl dX7_turn_357 ?_
  refine lv_bipush (v := 7) hx hb dX7_turn_360 (by decide) ?_
  refine lv_dup2_11 hx hb dX7_turn_362 rfl rfl ?_
  refine aldn (n := 695) (j := 7) B hP (by decide +kernel) (by decide +kernel) rfl (by decide) (by decide) dX7_turn_363 ?_
  refine lv_iconst (v := 2) hx hb dX7_turn_364 (by decide) ?_
  refine lv_iadd hx hb dX7_turn_365 ?_
  refine astn (n := 695) (j := 7) B hP hS (by decide +kernel) (by decide +kernel) rfl (by decide) (by decide) dX7_turn_366 (fun H locs hP hS => ?_)
  obtain ⟨ρ65, e66⟩ : ∃ z, z = up ρ52 1078 7 ((ρ52 1078 7) + 2) := ⟨_, rfl⟩
  rw [← e66] at hP
  have F67 : ∀ k, k ≠ 1078 → k ≠ 1084 → k ≠ 1085 → k ≠ 1086 → k ≠ 1089 → ρ65 k = ρ k := fun k t0 t1 t2 t3 t4 => by rw [e66, up_ne _ _ _ t0]; exact Fq53 k t0 t1 t2 t3 t4
  have G68 : ∀ j, j ≠ 7 → ρ65 1078 j = ρ 1078 j := fun j hj => by rw [e66]; exact up_get_ne (Or.inr hj) (Gq53 j hj)
  exact ret_v B hr hlk hP hS dX7_turn_367 (⟨F67, G68⟩)

theorem lk_RX7_236 : LkV RX7 236 RX7 yX7_turn cX7_turn 5 none 0 := ⟨⟨mw_1261, mw_1263, mw_23, mw_59, mw_1264⟩, by decide +kernel⟩
set_option maxHeartbeats 4000000 in
set_option maxRecDepth 100000 in
theorem c_turnsBy (l : Launch) (E : hE) (ρ : Nat → Nat → Int32) (N : Nat) (hN : ρ 1078 42 = -1 ∧ ρ 1078 368 = -1) (hNb : N < 2 ^ 30) : Met l yX7_turnsBy (.code yX7_turnsBy cX7_turnsBy 3 none :: gw_all) (rmk 3 120) (cPre E ρ [.ref (E.2.1 + 1076), .int (nI N)]) (cV E (fun ρ1 => (ρ1 1076 16 = 0 ∧ ρ1 1076 17 = 0) ∧ (∀ k, k ≠ 1076 → k ≠ 1078 → k ≠ 1084 → k ≠ 1085 → k ≠ 1086 → k ≠ 1089 → ρ1 k = ρ k) ∧ ∀ j, j ≠ 7 → ρ1 1078 j = ρ 1078 j)) 0 0 (hA E) := by
  refine ent (own := RX7) (by decide) rfl (Nat.le_of_ble_eq_true rfl) ?_
  intro p e s m below meth c ls B hr hlk hl hP hS
  have hx := B.1.1
  have hb := B.1.2.1
  have hown := B.1.2.2.2.1
  have hts := B.1.2.2.2.2
  have hl : lv_has ls 3 [(0, .ref (E.2.1 + 1076)), (1, .int (nI N))] := hl
  refine lv_aload_n hx hb dX7_turnsBy_0 rfl (lv_at hl 0 rfl) ?_
  refine lv_iconst (v := 0) hx hb dX7_turnsBy_1 (by decide) ?_
  refine put7 B hP hS (by decide +kernel) 16 (by decide) mw_1043 rfl rfl rfl (fs7_16 E 1076 _ _) dX7_turnsBy_2 (fun H locs hP hS => ?_)
  obtain ⟨ρ1, e2⟩ : ∃ z, z = up ρ 1076 16 0 := ⟨_, rfl⟩
  rw [← e2] at hP
  refine lv_aload_n hx hb dX7_turnsBy_5 rfl (lv_at hl 0 rfl) ?_
  refine lv_iconst (v := 0) hx hb dX7_turnsBy_6 (by decide) ?_
  refine put7 B hP hS (by decide +kernel) 17 (by decide) mw_1044 rfl rfl rfl (fs7_17 E 1076 _ _) dX7_turnsBy_7 (fun H locs hP hS => ?_)
  obtain ⟨ρ3, e4⟩ : ∃ z, z = up ρ1 1076 17 0 := ⟨_, rfl⟩
  rw [← e4] at hP
  refine lv_iconst (v := 0) hx hb dX7_turnsBy_10 (by decide) ?_
  refine lv_istore_n (lv' := [(2, .int 0), (0, .ref (E.2.1 + 1076)), (1, .int (nI N))]) hx hb dX7_turnsBy_11 rfl hl (by decide) rfl (fun ls hl => ?_)
  have L : ∀ (d j : Nat) (ρ1 : Nat → Nat → Int32) (H : Heap) (locs : List Loc) (ls : Array Slot), j ≤ N → N - j < d → TU ρ3 ρ1 → WP E ρ1 H → va_S (hA E) s.heap H locs → lv_has ls 3 [(0, .ref (E.2.1 + 1076)), (1, .int (nI N)), (2, .int (nI j))] → W p l e (rmk 3 120) s m ([.ref (E.2.1 + 1076), .int (nI N)] : List Value).toArray below meth c H locs 0 0 (MQ below (cV E (fun ρ1 => (ρ1 1076 16 = 0 ∧ ρ1 1076 17 = 0) ∧ (∀ k, k ≠ 1076 → k ≠ 1078 → k ≠ 1084 → k ≠ 1085 → k ≠ 1086 → k ≠ 1089 → ρ1 k = ρ k) ∧ ∀ j, j ≠ 7 → ρ1 1078 j = ρ 1078 j)) ([.ref (E.2.1 + 1076), .int (nI N)] : List Value).toArray s 0 0 (hA E)) (F0 m 12 ls []) := by
    intro d
    induction d with
    | zero => intro j ρ1 H locs ls h1 h2; exact absurd h2 (by omega)
    | succ d ih =>
      intro j ρ1 H locs ls hj hd hT hP hS hl
      refine lv_iload_n hx hb dX7_turnsBy_12 rfl (lv_at hl 2 rfl) ?_
      refine lv_iload_n hx hb dX7_turnsBy_13 rfl (lv_at hl 1 rfl) ?_
      refine lv_icmp_ge (tgt := 27) hx hb dX7_turnsBy_14 (by decide) (fun c5 => ?_) (fun c5 => ?_)
      · skip
        have cN : N ≤ j := (nI_leI (by omega) (by omega)).mp c5
        exact ret_v B hr hlk hP hS dX7_turnsBy_27 (⟨⟨((congrFun (hT.1 1076 (by decide) (by decide) (by decide) (by decide) (by decide)) 16).trans (by rw [e4]; exact up_get_ne (Or.inr (by decide)) (by rw [e2]; exact up_get_at))), ((congrFun (hT.1 1076 (by decide) (by decide) (by decide) (by decide) (by decide)) 17).trans (by rw [e4]; exact up_get_at))⟩, fun k h0 t0 t1 t2 t3 t4 => (hT.1 k t0 t1 t2 t3 t4).trans (by rw [e4, up_ne _ _ _ h0, e2, up_ne _ _ _ h0]), fun j hj => (hT.2 j hj).trans (by rw [e4, up_ne _ _ _ (by decide), e2, up_ne _ _ _ (by decide)])⟩)
      · skip
        have cN : j < N := Nat.not_le.mp (fun z => c5 ((nI_leI (by omega) (by omega)).mpr z))
        refine lv_aload_n hx hb dX7_turnsBy_17 rfl (lv_at hl 0 rfl) ?_
        refine call_v (cVt (k := 1076) (av := []) (rest := []) B hP hS (c_turn l E ρ1 ⟨((hT.2 42 (by decide)).trans (by rw [e4]; exact up_get_ne (Or.inl (by decide)) (by rw [e2]; exact up_get_ne (Or.inl (by decide)) hN.1))), ((hT.2 368 (by decide)).trans (by rw [e4]; exact up_get_ne (Or.inl (by decide)) (by rw [e2]; exact up_get_ne (Or.inl (by decide)) hN.2)))⟩) lk_RX7_236 (hrecv (ci := 7) B hP (hk_lt (c := 7) (by decide +kernel) (by decide)) (hcc7 _ _ (by decide +kernel)) rfl) rfl rfl hl.1 (Nat.le_of_ble_eq_true rfl) ⟨Nat.le_of_ble_eq_true rfl, Nat.le_of_ble_eq_true rfl⟩ ⟨Nat.le_of_ble_eq_true rfl, Nat.le_of_ble_eq_true rfl⟩ dX7_turnsBy_18) hS (fun ρ7 H locs q8 hP hS => ?_)
        refine lv_iinc (v := (nI (j + 1))) (lv' := [(2, .int (nI (j + 1))), (0, .ref (E.2.1 + 1076)), (1, .int (nI N))]) hx hb dX7_turnsBy_21 hl (k := 2) rfl (nI_1 j) (by decide) rfl (fun ls hl => ?_)
        refine lv_goto (tgt := 12) hx hb dX7_turnsBy_24 (by decide) ?_
        exact ih (j + 1) ρ7 _ _ ls (by omega) (by omega) (hT.trans q8) hP hS (lv_sub hl [1, 2, 0] rfl)
  exact L (N + 1) 0 ρ3 _ _ ls (by omega) (by omega) ⟨fun _ _ _ _ _ _ => rfl, fun _ _ => rfl⟩ hP hS (lv_sub hl [1, 2, 0] rfl)

set_option maxHeartbeats 4000000 in
set_option maxRecDepth 100000 in
theorem c_canTurn (l : Launch) (E : hE) (ρ : Nat → Nat → Int32) (n : Int32) (hz : ρ 1078 7 = 0) : Met l yX7_canTurn (.code yX7_canTurn cX7_canTurn 2 (some .boolean) :: gw_all) (rmk 1 40) (cPre E ρ [.ref (E.2.1 + 1076), .int n]) (cI E (fun r ρ1 => ρ = ρ1 ∧ ((r = 1 ∧ iR n 1 200) ∨ (r = 0 ∧ ¬ iR n 1 200)))) 0 0 (hA E) := by
  refine ent (own := RX7) (by decide) rfl (Nat.le_of_ble_eq_true rfl) ?_
  intro p e s m below meth c ls B hr hlk hl hP hS
  have hx := B.1.1
  have hb := B.1.2.1
  have hown := B.1.2.2.2.1
  have hts := B.1.2.2.2.2
  have hl : lv_has ls 2 [(0, .ref (E.2.1 + 1076)), (1, .int n)] := hl
  refine lv_iload_n hx hb dX7_canTurn_0 rfl (lv_at hl 1 rfl) ?_
  refine lv_i2l hx hb dX7_canTurn_1 rfl ?_
  refine lv_lconst (v := 1) hx hb dX7_canTurn_2 (by decide) ?_
  refine lv_ldc2 (v := 200) hx hb hown (hts _ mw_1255) dX7_canTurn_3 ?_
  refine call_i (cS (av := [.long n.toInt64, .long 1, .long 200]) (rest := []) B hP hS (c_in l E ρ n.toInt64 1 200 1 200 (by decide) (by decide)) lk_RX7_71 rfl rfl hl.1 (Nat.le_of_ble_eq_true rfl) ⟨Nat.le_of_ble_eq_true rfl, Nat.le_of_ble_eq_true rfl⟩ ⟨Nat.le_of_ble_eq_true rfl, Nat.le_of_ble_eq_true rfl⟩ dX7_canTurn_6) hS (fun r1 ρ2 H locs q3 hP hS => ?_)
  obtain ⟨rfl, q3⟩ := q3
  rw [lR_i] at q3
  rcases q3 with ⟨rfl, q3⟩ | ⟨rfl, q3⟩
  · skip
    refine lv_if_eq (tgt := 32) hx hb dX7_canTurn_9 (by decide) (fun c4 => absurd c4 (by decide)) (fun _ => ?_)
    refine lv_aload_n hx hb dX7_canTurn_12 rfl (lv_at hl 0 rfl) ?_
    refine get7 B hP (by decide +kernel) 3 (by decide) mw_1030 rfl dX7_canTurn_13 ?_
    refine lv_bipush (v := 7) hx hb dX7_canTurn_16 (by decide) ?_
    refine aldf (n := 695) (j := 7) (v := 0) B hP (by decide +kernel) (by decide +kernel) rfl (by decide) (by decide) hz dX7_canTurn_18 ?_
    refine lv_iconst (v := 2) hx hb dX7_canTurn_19 (by decide) ?_
    refine lv_iload_n hx hb dX7_canTurn_20 rfl (lv_at hl 1 rfl) ?_
    refine lv_imul hx hb dX7_canTurn_21 ?_
    refine lv_iadd hx hb dX7_canTurn_22 ?_
    refine lv_ldc (v := 99998) hx hb hown (hts _ mw_1256) dX7_canTurn_23 ?_
    refine lv_icmp_gt (tgt := 32) hx hb dX7_canTurn_25 (by decide) (fun c5 => absurd c5 (ht_ok q3)) (fun _ => ?_)
    refine lv_iconst (v := 1) hx hb dX7_canTurn_28 (by decide) ?_
    refine lv_goto (tgt := 33) hx hb dX7_canTurn_29 (by decide) ?_
    exact ret_z B hr hlk hP hS dX7_canTurn_33 (Or.inr rfl) (⟨rfl, Or.inl ⟨rfl, q3⟩⟩)
  · skip
    refine lv_if_eq (tgt := 32) hx hb dX7_canTurn_9 (by decide) (fun _ => ?_) (fun c6 => absurd c6 (by decide))
    refine lv_iconst (v := 0) hx hb dX7_canTurn_32 (by decide) ?_
    exact ret_z B hr hlk hP hS dX7_canTurn_33 (Or.inl rfl) (⟨rfl, Or.inr ⟨rfl, q3⟩⟩)

theorem lk_RX7_242 : LkV RX7 242 RX7 yX7_turnsBy cX7_turnsBy 3 none 1 := ⟨⟨mw_1257, mw_1259, mw_22, mw_59, mw_1260⟩, by decide +kernel⟩
theorem lk_RX7_277 : LkV RX7 277 RX7 yX7_otherMaps cX7_otherMaps 4 (some .int) 0 := ⟨⟨mw_1459, mw_1461, mw_49, mw_59, mw_1462⟩, by decide +kernel⟩
set_option maxHeartbeats 4000000 in
set_option maxRecDepth 100000 in
theorem c_tries (l : Launch) (E : hE) (ρ : Nat → Nat → Int32) (a : Int32) (N : Nat) (w : Int32) (hN : ρ 1078 42 = -1 ∧ ρ 1078 368 = -1) (hNb : N < 2 ^ 30) : Met l yX7_tries (.code yX7_tries cX7_tries 5 (some .int) :: gw_all) (rmk 4 160) (cPre E ρ [.ref (E.2.1 + 1076), .int a, .int (nI N), .int w]) (cI E (fun r ρ1 => r = 0 ∧ ∀ j, j < 695 → ρ1 1078 j = ρ 1078 j)) 0 0 (hA E) := by
  refine ent (own := RX7) (by decide) rfl (Nat.le_of_ble_eq_true rfl) ?_
  intro p e s m below meth c ls B hr hlk hl hP hS
  have hx := B.1.1
  have hb := B.1.2.1
  have hown := B.1.2.2.2.1
  have hts := B.1.2.2.2.2
  have hl : lv_has ls 5 [(0, .ref (E.2.1 + 1076)), (1, .int a), (2, .int (nI N)), (3, .int w)] := hl
  refine lv_aload_n hx hb dX7_tries_0 rfl (lv_at hl 0 rfl) ?_
  refine get7 B hP (by decide +kernel) 3 (by decide) mw_1030 rfl dX7_tries_1 ?_
  refine lv_iconst (v := 0) hx hb dX7_tries_4 (by decide) ?_
  refine lv_aload_n hx hb dX7_tries_5 rfl (lv_at hl 0 rfl) ?_
  refine get7 B hP (by decide +kernel) 9 (by decide) mw_1036 rfl dX7_tries_6 ?_
  refine lv_iconst (v := 0) hx hb dX7_tries_9 (by decide) ?_
  refine call_v (cS (av := [.ref (E.2.1 + 1078), .int 0, .ref (E.2.1 + 1083), .int 0]) (rest := []) B hP hS (c_copy l E ρ 1078 1083 695 695 0 0 (by decide +kernel) (by decide +kernel) (by decide +kernel) (by decide +kernel) (by decide) (by decide) (by decide) (by decide) (by decide)) lk_RX7_60 rfl rfl hl.1 (Nat.le_of_ble_eq_true rfl) ⟨Nat.le_of_ble_eq_true rfl, Nat.le_of_ble_eq_true rfl⟩ ⟨Nat.le_of_ble_eq_true rfl, Nat.le_of_ble_eq_true rfl⟩ dX7_tries_10) hS (fun ρ2 H locs q3 hP hS => ?_)
  refine lv_aload_n hx hb dX7_tries_13 rfl (lv_at hl 0 rfl) ?_
  refine get7 B hP (by decide +kernel) 3 (by decide) mw_1030 rfl dX7_tries_14 ?_
  refine lv_bipush (v := 9) hx hb dX7_tries_17 (by decide) ?_
  refine lv_iload_n hx hb dX7_tries_19 rfl (lv_at hl 1 rfl) ?_
  refine astn (n := 695) (j := 9) B hP hS (by decide +kernel) (by decide +kernel) rfl (by decide) (by decide) dX7_tries_20 (fun H locs hP hS => ?_)
  obtain ⟨ρ4, e5⟩ : ∃ z, z = up ρ2 1078 9 a := ⟨_, rfl⟩
  rw [← e5] at hP
  refine lv_aload_n hx hb dX7_tries_21 rfl (lv_at hl 0 rfl) ?_
  refine lv_iload_n hx hb dX7_tries_22 rfl (lv_at hl 2 rfl) ?_
  refine call_v (cVt (k := 1076) (av := [.int (nI N)]) (rest := []) B hP hS (c_turnsBy l E ρ4 N ⟨(by rw [e5]; exact up_get_ne (Or.inr (by decide)) ((congrFun (q3.1 1078 (by decide)) 42).trans hN.1)), (by rw [e5]; exact up_get_ne (Or.inr (by decide)) ((congrFun (q3.1 1078 (by decide)) 368).trans hN.2))⟩ hNb) lk_RX7_242 (hrecv (ci := 7) B hP (hk_lt (c := 7) (by decide +kernel) (by decide)) (hcc7 _ _ (by decide +kernel)) rfl) rfl rfl hl.1 (Nat.le_of_ble_eq_true rfl) ⟨Nat.le_of_ble_eq_true rfl, Nat.le_of_ble_eq_true rfl⟩ ⟨Nat.le_of_ble_eq_true rfl, Nat.le_of_ble_eq_true rfl⟩ dX7_tries_23) hS (fun ρ7 H locs q8 hP hS => ?_)
  refine lv_iload_n hx hb dX7_tries_26 rfl (lv_at hl 3 rfl) ?_
  refine lv_if_ne (tgt := 37) hx hb dX7_tries_27 (by decide) (fun c9 => ?_) (fun c9 => ?_)
  · skip
    refine lv_iload_n hx hb dX7_tries_37 rfl (lv_at hl 3 rfl) ?_
    refine lv_iconst (v := 1) hx hb dX7_tries_38 (by decide) ?_
    refine lv_icmp_ne (tgt := 49) hx hb dX7_tries_39 (by decide) (fun c10 => ?_) (fun c10 => ?_)
    · skip
      refine lv_aload_n hx hb dX7_tries_49 rfl (lv_at hl 0 rfl) ?_
      refine call_i (cVt (k := 1076) (av := []) (rest := []) B hP hS (c_otherMaps l E ρ7 ⟨((q8.2.2 42 (by decide)).trans (by rw [e5]; exact up_get_ne (Or.inr (by decide)) ((congrFun (q3.1 1078 (by decide)) 42).trans hN.1))), ((q8.2.2 368 (by decide)).trans (by rw [e5]; exact up_get_ne (Or.inr (by decide)) ((congrFun (q3.1 1078 (by decide)) 368).trans hN.2)))⟩) lk_RX7_277 (hrecv (ci := 7) B hP (hk_lt (c := 7) (by decide +kernel) (by decide)) (hcc7 _ _ (by decide +kernel)) rfl) rfl rfl hl.1 (Nat.le_of_ble_eq_true rfl) ⟨Nat.le_of_ble_eq_true rfl, Nat.le_of_ble_eq_true rfl⟩ ⟨Nat.le_of_ble_eq_true rfl, Nat.le_of_ble_eq_true rfl⟩ dX7_tries_50) hS (fun r11 ρ12 H locs q13 hP hS => ?_)
      obtain ⟨rfl, rfl⟩ := q13
      refine lv_istore (lv' := [(4, .int 0), (0, .ref (E.2.1 + 1076)), (1, .int a), (2, .int (nI N)), (3, .int w)]) hx hb dX7_tries_53 hl (by decide) rfl (fun ls hl => ?_)
      refine lv_aload_n hx hb dX7_tries_55 rfl (lv_at hl 1 rfl) ?_
      refine get7 B hP (by decide +kernel) 9 (by decide) mw_1036 rfl dX7_tries_56 ?_
      refine lv_iconst (v := 0) hx hb dX7_tries_59 (by decide) ?_
      refine lv_aload_n hx hb dX7_tries_60 rfl (lv_at hl 1 rfl) ?_
      refine get7 B hP (by decide +kernel) 3 (by decide) mw_1030 rfl dX7_tries_61 ?_
      refine lv_iconst (v := 0) hx hb dX7_tries_64 (by decide) ?_
      refine call_v (cS (av := [.ref (E.2.1 + 1083), .int 0, .ref (E.2.1 + 1078), .int 0]) (rest := []) B hP hS (c_copy l E ρ7 1083 1078 695 695 0 0 (by decide +kernel) (by decide +kernel) (by decide +kernel) (by decide +kernel) (by decide) (by decide) (by decide) (by decide) (by decide)) lk_RX7_60 rfl rfl hl.1 (Nat.le_of_ble_eq_true rfl) ⟨Nat.le_of_ble_eq_true rfl, Nat.le_of_ble_eq_true rfl⟩ ⟨Nat.le_of_ble_eq_true rfl, Nat.le_of_ble_eq_true rfl⟩ dX7_tries_65) hS (fun ρ15 H locs q16 hP hS => ?_)
      refine lv_iload hx hb dX7_tries_68 (lv_at hl 0 rfl) ?_
      exact ret_i B hr hlk hP hS dX7_tries_70 (⟨rfl, fun j hj => by have a := q16.2.1 j hj; have b := q3.2.1 j hj; rw [Nat.zero_add] at a b; rw [a, q8.2.1 1083 (by decide) (by decide) (by decide) (by decide) (by decide) (by decide), e5, up_ne _ _ _ (by decide)]; exact b⟩)
    · skip
      refine lv_aload_n hx hb dX7_tries_42 rfl (lv_at hl 0 rfl) ?_
      refine get7 B hP (by decide +kernel) 17 (by decide) mw_1044 (v := .int 0) (show some (Value.int (ρ7 1076 17)) = some (Value.int 0) from congrArg (fun z => some (Value.int z)) q8.1.2) dX7_tries_43 ?_
      refine lv_goto (tgt := 53) hx hb dX7_tries_46 (by decide) ?_
      refine lv_istore (lv' := [(4, .int 0), (0, .ref (E.2.1 + 1076)), (1, .int a), (2, .int (nI N)), (3, .int w)]) hx hb dX7_tries_53 hl (by decide) rfl (fun ls hl => ?_)
      refine lv_aload_n hx hb dX7_tries_55 rfl (lv_at hl 1 rfl) ?_
      refine get7 B hP (by decide +kernel) 9 (by decide) mw_1036 rfl dX7_tries_56 ?_
      refine lv_iconst (v := 0) hx hb dX7_tries_59 (by decide) ?_
      refine lv_aload_n hx hb dX7_tries_60 rfl (lv_at hl 1 rfl) ?_
      refine get7 B hP (by decide +kernel) 3 (by decide) mw_1030 rfl dX7_tries_61 ?_
      refine lv_iconst (v := 0) hx hb dX7_tries_64 (by decide) ?_
      refine call_v (cS (av := [.ref (E.2.1 + 1083), .int 0, .ref (E.2.1 + 1078), .int 0]) (rest := []) B hP hS (c_copy l E ρ7 1083 1078 695 695 0 0 (by decide +kernel) (by decide +kernel) (by decide +kernel) (by decide +kernel) (by decide) (by decide) (by decide) (by decide) (by decide)) lk_RX7_60 rfl rfl hl.1 (Nat.le_of_ble_eq_true rfl) ⟨Nat.le_of_ble_eq_true rfl, Nat.le_of_ble_eq_true rfl⟩ ⟨Nat.le_of_ble_eq_true rfl, Nat.le_of_ble_eq_true rfl⟩ dX7_tries_65) hS (fun ρ18 H locs q19 hP hS => ?_)
      refine lv_iload hx hb dX7_tries_68 (lv_at hl 0 rfl) ?_
      exact ret_i B hr hlk hP hS dX7_tries_70 (⟨rfl, fun j hj => by have a := q19.2.1 j hj; have b := q3.2.1 j hj; rw [Nat.zero_add] at a b; rw [a, q8.2.1 1083 (by decide) (by decide) (by decide) (by decide) (by decide) (by decide), e5, up_ne _ _ _ (by decide)]; exact b⟩)
  · skip
    refine lv_aload_n hx hb dX7_tries_30 rfl (lv_at hl 0 rfl) ?_
    refine get7 B hP (by decide +kernel) 16 (by decide) mw_1043 (v := .int 0) (show some (Value.int (ρ7 1076 16)) = some (Value.int 0) from congrArg (fun z => some (Value.int z)) q8.1.1) dX7_tries_31 ?_
    refine lv_goto (tgt := 53) hx hb dX7_tries_34 (by decide) ?_
    refine lv_istore (lv' := [(4, .int 0), (0, .ref (E.2.1 + 1076)), (1, .int a), (2, .int (nI N)), (3, .int w)]) hx hb dX7_tries_53 hl (by decide) rfl (fun ls hl => ?_)
    refine lv_aload_n hx hb dX7_tries_55 rfl (lv_at hl 1 rfl) ?_
    refine get7 B hP (by decide +kernel) 9 (by decide) mw_1036 rfl dX7_tries_56 ?_
    refine lv_iconst (v := 0) hx hb dX7_tries_59 (by decide) ?_
    refine lv_aload_n hx hb dX7_tries_60 rfl (lv_at hl 1 rfl) ?_
    refine get7 B hP (by decide +kernel) 3 (by decide) mw_1030 rfl dX7_tries_61 ?_
    refine lv_iconst (v := 0) hx hb dX7_tries_64 (by decide) ?_
    refine call_v (cS (av := [.ref (E.2.1 + 1083), .int 0, .ref (E.2.1 + 1078), .int 0]) (rest := []) B hP hS (c_copy l E ρ7 1083 1078 695 695 0 0 (by decide +kernel) (by decide +kernel) (by decide +kernel) (by decide +kernel) (by decide) (by decide) (by decide) (by decide) (by decide)) lk_RX7_60 rfl rfl hl.1 (Nat.le_of_ble_eq_true rfl) ⟨Nat.le_of_ble_eq_true rfl, Nat.le_of_ble_eq_true rfl⟩ ⟨Nat.le_of_ble_eq_true rfl, Nat.le_of_ble_eq_true rfl⟩ dX7_tries_65) hS (fun ρ21 H locs q22 hP hS => ?_)
    refine lv_iload hx hb dX7_tries_68 (lv_at hl 0 rfl) ?_
    exact ret_i B hr hlk hP hS dX7_tries_70 (⟨rfl, fun j hj => by have a := q22.2.1 j hj; have b := q3.2.1 j hj; rw [Nat.zero_add] at a b; rw [a, q8.2.1 1083 (by decide) (by decide) (by decide) (by decide) (by decide) (by decide), e5, up_ne _ _ _ (by decide)]; exact b⟩)
