theorem lkc_X6 : LkC yX6_init cX6_init 2 := ⟨⟨mw_66, mw_52, mw_67⟩, rfl, by decide +kernel⟩
theorem lkc_X7 : LkC yX7_init cX7_init 1 := ⟨⟨mw_1024, mw_59, mw_1025⟩, rfl, by decide +kernel⟩
section OP
variable {p : Program} {l : Launch} {e : Env} {s : State} {m : MethodId} {below : List Frame} {meth : Method} {c : Code} {H : Heap} {locs : List Loc} {cells slots : Nat} {Q : State → Prop} {ls : Array Slot} {E : hE} {b pc L : Nat} {xs : Nat → Int32} {rest : List Value} {R : Room} {args : Array Value} {ρ : Nat → Nat → Int32} {j : Nat}
theorem law_exit (B : MB p s m #[Value.ref b] c code 4 RL E) (hr : meth.sig.returnType = ret) (hlk : meth.locks = false) (hE : s.heap.size ≤ E.2.1) (hS : va_S (hA E) s.heap H locs) : W p l e room_1 s m #[Value.ref b] below meth c H locs 1090 19159 (lw_Z below #[Value.ref b] s) (F0 m 1802 ls []) := by
  refine lv_iconst (v := 1) B.1.1 B.1.2.1 dL_law_1802 (by decide) ?_
  refine va_forget (fun q hq => Nat.le_trans hE (hS.2.2 q hq)) ?_
  refine W.widen (k := 600000) (n := 7302250) (by decide) (by decide) ?_
  exact lw_ret B.1.1 B.1.2.1 hr hlk dL_law_1803
theorem lp_in (hL : L ≤ 3072) (hj : j ≤ 3078) (h : ¬ (Int32.ofNat L - 6) < nI j) : j + 6 ≤ L := by
  have h1 := Int32.le_iff_toInt_le.mp (Int32.not_lt.mp h)
  have h2 := iR_sub (x := nI L) (y := 6) (a := L) (b := L) (c := 6) (d := 6) (a' := L - 6) (b' := L - 6) (nI_iR (by omega) (by omega) (by omega)) ⟨by decide, by decide⟩ (by omega) (by omega) rfl rfl
  rw [nI_toInt (by omega)] at h1
  have h3 : (Int32.ofNat L - 6).toInt ≤ L - 6 := h2.2
  omega
set_option maxHeartbeats 4000000 in
set_option maxRecDepth 100000 in
theorem law_sw (B : MB p s m #[Value.ref b] c code 4 RL E) (hl : lv_has ls 4 [(3, .int (nI j)), (2, .ref (E.2.1 + 1076)), (1, .ref (E.2.1 + 0)), (0, .ref b)]) (hP : WP E ρ H) (hS : va_S (hA E) s.heap H locs) (hX : va_X b L xs s s.heap) (hbl : b < s.heap.size) (hbA : ¬ hA E b) (hI : LI ρ) (hj : j + 6 ≤ L) (hL : L ≤ 3072) (kk : ∀ (ρ : Nat → Nat → Int32) (H : Heap) (locs : List Loc), LI ρ → WP E ρ H → va_S (hA E) s.heap H locs → W p l e room_1 s m #[Value.ref b] below meth c H locs 1090 19159 Q (F0 m 1796 ls [])) : W p l e room_1 s m #[Value.ref b] below meth c H locs 1090 19159 Q (F0 m 27 ls []) := by
  have hx := B.1.1
  have hb := B.1.2.1
  refine lv_aload_n hx hb dL_law_27 rfl (lv_at hl 3 rfl) ?_
  refine lv_iload_n hx hb dL_law_28 rfl (lv_at hl 0 rfl) ?_
  refine sldn (q := j) B hX hbl hbA hS hL rfl (by omega) dL_law_29 ?_
  refine lv_bipush (v := 63) hx hb dL_law_30 (by decide) ?_
  refine lv_iand hx hb dL_law_32 ?_
  obtain ⟨x, ex⟩ : ∃ x, x = (xs j) &&& 63 := ⟨_, rfl⟩
  rw [← ex]
  rcases sw_split (x := x) (lo := 0) (hi := 43) (by decide) with c1 | c1
  · exact lv_tableOut (tgt := 1796) hx hb dL_law_33 c1 (by decide) (kk _ _ _ hI hP hS)
  · skip
    rcases sw_step (x := x) (n := 0) (n' := 1) (by decide) c1 with c1 | c1
    · skip
      exact lv_tableIn (off := 191) (tgt := 224) hx hb dL_law_33 (by rw [c1]; decide) (by rw [c1]; decide) (by rw [c1]; decide) (by decide) (op_0 B hl hP hS hX hbl hbA hI hj hL kk)
    · skip
      rcases sw_step (x := x) (n := 1) (n' := 2) (by decide) c1 with c1 | c1
      · skip
        exact lv_tableIn (off := 214) (tgt := 247) hx hb dL_law_33 (by rw [c1]; decide) (by rw [c1]; decide) (by rw [c1]; decide) (by decide) (op_1 B hl hP hS hX hbl hbA hI hj hL kk)
      · skip
        rcases sw_step (x := x) (n := 2) (n' := 3) (by decide) c1 with c1 | c1
        · skip
          exact lv_tableIn (off := 257) (tgt := 290) hx hb dL_law_33 (by rw [c1]; decide) (by rw [c1]; decide) (by rw [c1]; decide) (by decide) (op_2 B hl hP hS hX hbl hbA hI hj hL kk)
        · skip
          rcases sw_step (x := x) (n := 3) (n' := 4) (by decide) c1 with c1 | c1
          · skip
            exact lv_tableIn (off := 290) (tgt := 323) hx hb dL_law_33 (by rw [c1]; decide) (by rw [c1]; decide) (by rw [c1]; decide) (by decide) (op_3 B hl hP hS hX hbl hbA hI hj hL kk)
          · skip
            rcases sw_step (x := x) (n := 4) (n' := 5) (by decide) c1 with c1 | c1
            · skip
              exact lv_tableIn (off := 323) (tgt := 356) hx hb dL_law_33 (by rw [c1]; decide) (by rw [c1]; decide) (by rw [c1]; decide) (by decide) (op_4 B hl hP hS hX hbl hbA hI hj hL kk)
            · skip
              rcases sw_step (x := x) (n := 5) (n' := 6) (by decide) c1 with c1 | c1
              · skip
                exact lv_tableIn (off := 356) (tgt := 389) hx hb dL_law_33 (by rw [c1]; decide) (by rw [c1]; decide) (by rw [c1]; decide) (by decide) (op_5 B hl hP hS hX hbl hbA hI hj hL kk)
              · skip
                rcases sw_step (x := x) (n := 6) (n' := 7) (by decide) c1 with c1 | c1
                · skip
                  exact lv_tableIn (off := 389) (tgt := 422) hx hb dL_law_33 (by rw [c1]; decide) (by rw [c1]; decide) (by rw [c1]; decide) (by decide) (op_6 B hl hP hS hX hbl hbA hI hj hL kk)
                · skip
                  rcases sw_step (x := x) (n := 7) (n' := 8) (by decide) c1 with c1 | c1
                  · skip
                    exact lv_tableIn (off := 442) (tgt := 475) hx hb dL_law_33 (by rw [c1]; decide) (by rw [c1]; decide) (by rw [c1]; decide) (by decide) (op_7 B hl hP hS hX hbl hbA hI hj hL kk)
                  · skip
                    rcases sw_step (x := x) (n := 8) (n' := 9) (by decide) c1 with c1 | c1
                    · skip
                      exact lv_tableIn (off := 505) (tgt := 538) hx hb dL_law_33 (by rw [c1]; decide) (by rw [c1]; decide) (by rw [c1]; decide) (by decide) (op_8 B hl hP hS hX hbl hbA hI hj hL kk)
                    · skip
                      rcases sw_step (x := x) (n := 9) (n' := 10) (by decide) c1 with c1 | c1
                      · skip
                        exact lv_tableIn (off := 558) (tgt := 591) hx hb dL_law_33 (by rw [c1]; decide) (by rw [c1]; decide) (by rw [c1]; decide) (by decide) (op_9 B hl hP hS hX hbl hbA hI hj hL kk)
                      · skip
                        rcases sw_step (x := x) (n := 10) (n' := 11) (by decide) c1 with c1 | c1
                        · skip
                          exact lv_tableIn (off := 601) (tgt := 634) hx hb dL_law_33 (by rw [c1]; decide) (by rw [c1]; decide) (by rw [c1]; decide) (by decide) (op_10 B hl hP hS hX hbl hbA hI hj hL kk)
                        · skip
                          rcases sw_step (x := x) (n := 11) (n' := 12) (by decide) c1 with c1 | c1
                          · skip
                            exact lv_tableIn (off := 634) (tgt := 667) hx hb dL_law_33 (by rw [c1]; decide) (by rw [c1]; decide) (by rw [c1]; decide) (by decide) (op_11 B hl hP hS hX hbl hbA hI hj hL kk)
                          · skip
                            rcases sw_step (x := x) (n := 12) (n' := 13) (by decide) c1 with c1 | c1
                            · skip
                              exact lv_tableIn (off := 677) (tgt := 710) hx hb dL_law_33 (by rw [c1]; decide) (by rw [c1]; decide) (by rw [c1]; decide) (by decide) (op_12 B hl hP hS hX hbl hbA hI hj hL kk)
                            · skip
                              rcases sw_step (x := x) (n := 13) (n' := 14) (by decide) c1 with c1 | c1
                              · skip
                                exact lv_tableIn (off := 720) (tgt := 753) hx hb dL_law_33 (by rw [c1]; decide) (by rw [c1]; decide) (by rw [c1]; decide) (by decide) (op_13 B hl hP hS hX hbl hbA hI hj hL kk)
                              · skip
                                rcases sw_step (x := x) (n := 14) (n' := 15) (by decide) c1 with c1 | c1
                                · skip
                                  exact lv_tableIn (off := 743) (tgt := 776) hx hb dL_law_33 (by rw [c1]; decide) (by rw [c1]; decide) (by rw [c1]; decide) (by decide) (op_14 B hl hP hS hX hbl hbA hI hj hL kk)
                                · skip
                                  rcases sw_step (x := x) (n := 15) (n' := 16) (by decide) c1 with c1 | c1
                                  · skip
                                    exact lv_tableIn (off := 756) (tgt := 789) hx hb dL_law_33 (by rw [c1]; decide) (by rw [c1]; decide) (by rw [c1]; decide) (by decide) (op_15 B hl hP hS hX hbl hbA hI hj hL kk)
                                  · skip
                                    rcases sw_step (x := x) (n := 16) (n' := 17) (by decide) c1 with c1 | c1
                                    · skip
                                      exact lv_tableIn (off := 779) (tgt := 812) hx hb dL_law_33 (by rw [c1]; decide) (by rw [c1]; decide) (by rw [c1]; decide) (by decide) (op_16 B hl hP hS hX hbl hbA hI hj hL kk)
                                    · skip
                                      rcases sw_step (x := x) (n := 17) (n' := 18) (by decide) c1 with c1 | c1
                                      · skip
                                        exact lv_tableIn (off := 802) (tgt := 835) hx hb dL_law_33 (by rw [c1]; decide) (by rw [c1]; decide) (by rw [c1]; decide) (by decide) (op_17 B hl hP hS hX hbl hbA hI hj hL kk)
                                      · skip
                                        rcases sw_step (x := x) (n := 18) (n' := 19) (by decide) c1 with c1 | c1
                                        · skip
                                          exact lv_tableIn (off := 835) (tgt := 868) hx hb dL_law_33 (by rw [c1]; decide) (by rw [c1]; decide) (by rw [c1]; decide) (by decide) (op_18 B hl hP hS hX hbl hbA hI hj hL kk)
                                        · skip
                                          rcases sw_step (x := x) (n := 19) (n' := 20) (by decide) c1 with c1 | c1
                                          · skip
                                            exact lv_tableIn (off := 878) (tgt := 911) hx hb dL_law_33 (by rw [c1]; decide) (by rw [c1]; decide) (by rw [c1]; decide) (by decide) (op_19 B hl hP hS hX hbl hbA hI hj hL kk)
                                          · skip
                                            rcases sw_step (x := x) (n := 20) (n' := 21) (by decide) c1 with c1 | c1
                                            · skip
                                              exact lv_tableIn (off := 921) (tgt := 954) hx hb dL_law_33 (by rw [c1]; decide) (by rw [c1]; decide) (by rw [c1]; decide) (by decide) (op_20 B hl hP hS hX hbl hbA hI hj hL kk)
                                            · skip
                                              rcases sw_step (x := x) (n := 21) (n' := 22) (by decide) c1 with c1 | c1
                                              · skip
                                                exact lv_tableIn (off := 964) (tgt := 997) hx hb dL_law_33 (by rw [c1]; decide) (by rw [c1]; decide) (by rw [c1]; decide) (by decide) (op_21 B hl hP hS hX hbl hbA hI hj hL kk)
                                              · skip
                                                rcases sw_step (x := x) (n := 22) (n' := 23) (by decide) c1 with c1 | c1
                                                · skip
                                                  exact lv_tableIn (off := 977) (tgt := 1010) hx hb dL_law_33 (by rw [c1]; decide) (by rw [c1]; decide) (by rw [c1]; decide) (by decide) (op_22 B hl hP hS hX hbl hbA hI hj hL kk)
                                                · skip
                                                  rcases sw_step (x := x) (n := 23) (n' := 24) (by decide) c1 with c1 | c1
                                                  · skip
                                                    exact lv_tableIn (off := 1020) (tgt := 1053) hx hb dL_law_33 (by rw [c1]; decide) (by rw [c1]; decide) (by rw [c1]; decide) (by decide) (op_23 B hl hP hS hX hbl hbA hI hj hL kk)
                                                  · skip
                                                    rcases sw_step (x := x) (n := 24) (n' := 25) (by decide) c1 with c1 | c1
                                                    · skip
                                                      exact lv_tableIn (off := 1053) (tgt := 1086) hx hb dL_law_33 (by rw [c1]; decide) (by rw [c1]; decide) (by rw [c1]; decide) (by decide) (op_24 B hl hP hS hX hbl hbA hI hj hL kk)
                                                    · skip
                                                      rcases sw_step (x := x) (n := 25) (n' := 26) (by decide) c1 with c1 | c1
                                                      · skip
                                                        exact lv_tableIn (off := 1096) (tgt := 1129) hx hb dL_law_33 (by rw [c1]; decide) (by rw [c1]; decide) (by rw [c1]; decide) (by decide) (op_25 B hl hP hS hX hbl hbA hI hj hL kk)
                                                      · skip
                                                        rcases sw_step (x := x) (n := 26) (n' := 27) (by decide) c1 with c1 | c1
                                                        · skip
                                                          exact lv_tableIn (off := 1139) (tgt := 1172) hx hb dL_law_33 (by rw [c1]; decide) (by rw [c1]; decide) (by rw [c1]; decide) (by decide) (op_26 B hl hP hS hX hbl hbA hI hj hL kk)
                                                        · skip
                                                          rcases sw_step (x := x) (n := 27) (n' := 28) (by decide) c1 with c1 | c1
                                                          · skip
                                                            exact lv_tableIn (off := 1182) (tgt := 1215) hx hb dL_law_33 (by rw [c1]; decide) (by rw [c1]; decide) (by rw [c1]; decide) (by decide) (op_27 B hl hP hS hX hbl hbA hI hj hL kk)
                                                          · skip
                                                            rcases sw_step (x := x) (n := 28) (n' := 29) (by decide) c1 with c1 | c1
                                                            · skip
                                                              exact lv_tableIn (off := 1225) (tgt := 1258) hx hb dL_law_33 (by rw [c1]; decide) (by rw [c1]; decide) (by rw [c1]; decide) (by decide) (op_28 B hl hP hS hX hbl hbA hI hj hL kk)
                                                            · skip
                                                              rcases sw_step (x := x) (n := 29) (n' := 30) (by decide) c1 with c1 | c1
                                                              · skip
                                                                exact lv_tableIn (off := 1268) (tgt := 1301) hx hb dL_law_33 (by rw [c1]; decide) (by rw [c1]; decide) (by rw [c1]; decide) (by decide) (op_29 B hl hP hS hX hbl hbA hI hj hL kk)
                                                              · skip
                                                                rcases sw_step (x := x) (n := 30) (n' := 31) (by decide) c1 with c1 | c1
                                                                · skip
                                                                  exact lv_tableIn (off := 1321) (tgt := 1354) hx hb dL_law_33 (by rw [c1]; decide) (by rw [c1]; decide) (by rw [c1]; decide) (by decide) (op_30 B hl hP hS hX hbl hbA hI hj hL kk)
                                                                · skip
                                                                  rcases sw_step (x := x) (n := 31) (n' := 32) (by decide) c1 with c1 | c1
                                                                  · skip
                                                                    exact lv_tableIn (off := 1344) (tgt := 1377) hx hb dL_law_33 (by rw [c1]; decide) (by rw [c1]; decide) (by rw [c1]; decide) (by decide) (op_31 B hl hP hS hX hbl hbA hI hj hL kk)
                                                                  · skip
                                                                    rcases sw_step (x := x) (n := 32) (n' := 33) (by decide) c1 with c1 | c1
                                                                    · skip
                                                                      exact lv_tableIn (off := 1367) (tgt := 1400) hx hb dL_law_33 (by rw [c1]; decide) (by rw [c1]; decide) (by rw [c1]; decide) (by decide) (op_32 B hl hP hS hX hbl hbA hI hj hL kk)
                                                                    · skip
                                                                      rcases sw_step (x := x) (n := 33) (n' := 34) (by decide) c1 with c1 | c1
                                                                      · skip
                                                                        exact lv_tableIn (off := 1400) (tgt := 1433) hx hb dL_law_33 (by rw [c1]; decide) (by rw [c1]; decide) (by rw [c1]; decide) (by decide) (op_33 B hl hP hS hX hbl hbA hI hj hL kk)
                                                                      · skip
                                                                        rcases sw_step (x := x) (n := 34) (n' := 35) (by decide) c1 with c1 | c1
                                                                        · skip
                                                                          exact lv_tableIn (off := 1443) (tgt := 1476) hx hb dL_law_33 (by rw [c1]; decide) (by rw [c1]; decide) (by rw [c1]; decide) (by decide) (op_34 B hl hP hS hX hbl hbA hI hj hL kk)
                                                                        · skip
                                                                          rcases sw_step (x := x) (n := 35) (n' := 36) (by decide) c1 with c1 | c1
                                                                          · skip
                                                                            exact lv_tableIn (off := 1476) (tgt := 1509) hx hb dL_law_33 (by rw [c1]; decide) (by rw [c1]; decide) (by rw [c1]; decide) (by decide) (op_35 B hl hP hS hX hbl hbA hI hj hL kk)
                                                                          · skip
                                                                            rcases sw_step (x := x) (n := 36) (n' := 37) (by decide) c1 with c1 | c1
                                                                            · skip
                                                                              exact lv_tableIn (off := 1529) (tgt := 1562) hx hb dL_law_33 (by rw [c1]; decide) (by rw [c1]; decide) (by rw [c1]; decide) (by decide) (op_36 B hl hP hS hX hbl hbA hI hj hL kk)
                                                                            · skip
                                                                              rcases sw_step (x := x) (n := 37) (n' := 38) (by decide) c1 with c1 | c1
                                                                              · skip
                                                                                exact lv_tableIn (off := 1562) (tgt := 1595) hx hb dL_law_33 (by rw [c1]; decide) (by rw [c1]; decide) (by rw [c1]; decide) (by decide) (op_37 B hl hP hS hX hbl hbA hI hj hL kk)
                                                                              · skip
                                                                                rcases sw_step (x := x) (n := 38) (n' := 39) (by decide) c1 with c1 | c1
                                                                                · skip
                                                                                  exact lv_tableIn (off := 1605) (tgt := 1638) hx hb dL_law_33 (by rw [c1]; decide) (by rw [c1]; decide) (by rw [c1]; decide) (by decide) (op_38 B hl hP hS hX hbl hbA hI hj hL kk)
                                                                                · skip
                                                                                  rcases sw_step (x := x) (n := 39) (n' := 40) (by decide) c1 with c1 | c1
                                                                                  · skip
                                                                                    exact lv_tableIn (off := 1638) (tgt := 1671) hx hb dL_law_33 (by rw [c1]; decide) (by rw [c1]; decide) (by rw [c1]; decide) (by decide) (op_39 B hl hP hS hX hbl hbA hI hj hL kk)
                                                                                  · skip
                                                                                    rcases sw_step (x := x) (n := 40) (n' := 41) (by decide) c1 with c1 | c1
                                                                                    · skip
                                                                                      exact lv_tableIn (off := 1671) (tgt := 1704) hx hb dL_law_33 (by rw [c1]; decide) (by rw [c1]; decide) (by rw [c1]; decide) (by decide) (op_40 B hl hP hS hX hbl hbA hI hj hL kk)
                                                                                    · skip
                                                                                      rcases sw_step (x := x) (n := 41) (n' := 42) (by decide) c1 with c1 | c1
                                                                                      · skip
                                                                                        exact lv_tableIn (off := 1694) (tgt := 1727) hx hb dL_law_33 (by rw [c1]; decide) (by rw [c1]; decide) (by rw [c1]; decide) (by decide) (op_41 B hl hP hS hX hbl hbA hI hj hL kk)
                                                                                      · skip
                                                                                        rcases sw_step (x := x) (n := 42) (n' := 43) (by decide) c1 with c1 | c1
                                                                                        · skip
                                                                                          exact lv_tableIn (off := 1727) (tgt := 1760) hx hb dL_law_33 (by rw [c1]; decide) (by rw [c1]; decide) (by rw [c1]; decide) (by decide) (op_42 B hl hP hS hX hbl hbA hI hj hL kk)
                                                                                        · skip
                                                                                          have c1 := sw_last (n := 43) c1
                                                                                          exact lv_tableIn (off := 1750) (tgt := 1783) hx hb dL_law_33 (by rw [c1]; decide) (by rw [c1]; decide) (by rw [c1]; decide) (by decide) (op_43 B hl hP hS hX hbl hbA hI hj hL kk)
set_option maxHeartbeats 4000000 in
set_option maxRecDepth 100000 in
theorem law_loop (B : MB p s m #[Value.ref b] c code 4 RL E) (hX : va_X b L xs s s.heap) (hbl : b < s.heap.size) (hbA : ¬ hA E b) (hr : meth.sig.returnType = ret) (hlk : meth.locks = false) (hE : s.heap.size ≤ E.2.1) (hL : L ≤ 3072) : ∀ (d j : Nat) (ls : Array Slot) (ρ : Nat → Nat → Int32) (H : Heap) (locs : List Loc), 3084 - j < d → j ≤ 3078 → lv_has ls 4 [(3, .int (nI j)), (2, .ref (E.2.1 + 1076)), (1, .ref (E.2.1 + 0)), (0, .ref b)] → WP E ρ H → va_S (hA E) s.heap H locs → LI ρ → W p l e room_1 s m #[Value.ref b] below meth c H locs 1090 19159 (lw_Z below #[Value.ref b] s) (F0 m 18 ls []) := by
  intro d
  induction d with
  | zero => intro j ls ρ H locs hd; exact absurd hd (Nat.not_lt_zero _)
  | succ d ih =>
    intro j ls ρ H locs hd hjm hl hP hS hI
    have hx := B.1.1
    have hb := B.1.2.1
    refine lv_iload_n hx hb dL_law_18 rfl (lv_at hl 0 rfl) ?_
    refine lv_aload_n hx hb dL_law_19 rfl (lv_at hl 3 rfl) ?_
    refine va_slen hx hb hX hbl hbA hS dL_law_20 ?_
    refine lv_bipush (v := 6) hx hb dL_law_21 (by decide) ?_
    refine lv_isub hx hb dL_law_23 ?_
    refine lv_icmp_gt (tgt := 1802) hx hb dL_law_24 (by decide) (fun _ => law_exit B hr hlk hE hS) (fun hc => ?_)
    have hj := lp_in hL hjm hc
    refine law_sw B hl hP hS hX hbl hbA hI hj hL (fun ρ H locs hI hP hS => ?_)
    refine lv_iinc (v := nI (6 + j)) (lv' := [(3, .int (nI (6 + j))), (2, .ref (E.2.1 + 1076)), (1, .ref (E.2.1 + 0)), (0, .ref b)]) hx hb dL_law_1796 hl (k := 0) rfl (show nI j + nI 6 = _ from (nI_add _ _).trans (congrArg nI (by omega))) (by decide) rfl (fun ls hl => ?_)
    refine lv_goto (tgt := 18) hx hb dL_law_1799 (by decide) ?_
    exact ih (6 + j) ls ρ H locs (by omega) (by omega) hl hP hS hI
end OP
set_option maxHeartbeats 8000000 in
set_option maxRecDepth 100000 in
theorem law_world {s : State} {b : Nat} (hts : ∀ w ∈ lw_tbl, w.before #[Value.ref b] s = true) (hgv : (Jvm.Cond.and given_1 narrow_1).before #[Value.ref b] s = true) : ∃ E : hE, E.2.1 = s.heap.size ∧ KK E s := by
  have htg : ∀ w ∈ gw_all, w.before #[Value.ref b] s = true := fun w hw => hts w (gw_sub hw)
  obtain ⟨c0, i0, k0⟩ := u_known htg in0 (htg _ mw_161)
  obtain ⟨c1, i1, k1⟩ := u_known htg in1 (htg _ mw_113)
  obtain ⟨c2, i2, k2⟩ := u_known htg in2 (htg _ mw_79)
  obtain ⟨c3, i3, k3⟩ := u_known htg in3 (htg _ mw_85)
  obtain ⟨c4, i4, k4⟩ := u_known htg in4 (htg _ mw_121)
  obtain ⟨c5, i5, k5⟩ := u_known htg in5 (htg _ mw_72)
  obtain ⟨c6, i6, k6⟩ := u_known htg in6 (htg _ mw_64)
  obtain ⟨c7, i7, k7⟩ := u_known htg in7 (htg _ mw_1022)
  obtain ⟨aI, kI, pI, fI, gI, jI⟩ := Cond.arrayClass_spec (htg _ mw_109)
  obtain ⟨aZ, kZ, pZ, fZ, gZ, jZ⟩ := Cond.arrayClass_spec (htg _ mw_449)
  obtain ⟨pL, aL, kL, dL, -, gL, jL, fL⟩ := Cond.arrayOver_spec (hts _ nw_111)
  obtain ⟨pN, aN, kN, dN, -, gN, jN, fN⟩ := Cond.arrayOver_spec (hts _ nw_78)
  obtain ⟨pW, aW, kW, dW, -, gW, jW, fW⟩ := Cond.arrayOver_spec (hts _ nw_411)
  have hs := flat_of_before _ hgv
  have hA0 : ∀ a : Nat, a < s.heap.size → ¬ (fun q => s.heap.size ≤ q) a := fun a h1 h2 => absurd h1 (Nat.not_lt.mpr h2)
  obtain ⟨t0, v0, T0⟩ := va_Tof (N := 9) (f := xo) (A := fun q => s.heap.size ≤ q) (by decide) (hs (Cond.arrayOf (Term.static "HopNet" "EXCHANGE_ONE" "[I") .int) (by decide +kernel)) (va_eqt (hs (Cond.eq (.length (Term.static "HopNet" "EXCHANGE_ONE" "[I")) (.int 9)) (by decide +kernel))) (fun j hj => by
    rcases (show j = 0 ∨ j = 1 ∨ j = 2 ∨ j = 3 ∨ j = 4 ∨ j = 5 ∨ j = 6 ∨ j = 7 ∨ j = 8 by omega) with rfl | rfl | rfl | rfl | rfl | rfl | rfl | rfl | rfl
    · exact va_eqt (hs (Cond.eq (.elem (Term.static "HopNet" "EXCHANGE_ONE" "[I") (.int 0)) (.int 0)) (by decide +kernel))
    · exact va_eqt (hs (Cond.eq (.elem (Term.static "HopNet" "EXCHANGE_ONE" "[I") (.int 1)) (.int 1)) (by decide +kernel))
    · exact va_eqt (hs (Cond.eq (.elem (Term.static "HopNet" "EXCHANGE_ONE" "[I") (.int 2)) (.int 0)) (by decide +kernel))
    · exact va_eqt (hs (Cond.eq (.elem (Term.static "HopNet" "EXCHANGE_ONE" "[I") (.int 3)) (.int 2)) (by decide +kernel))
    · exact va_eqt (hs (Cond.eq (.elem (Term.static "HopNet" "EXCHANGE_ONE" "[I") (.int 4)) (.int 1)) (by decide +kernel))
    · exact va_eqt (hs (Cond.eq (.elem (Term.static "HopNet" "EXCHANGE_ONE" "[I") (.int 5)) (.int 0)) (by decide +kernel))
    · exact va_eqt (hs (Cond.eq (.elem (Term.static "HopNet" "EXCHANGE_ONE" "[I") (.int 6)) (.int 3)) (by decide +kernel))
    · exact va_eqt (hs (Cond.eq (.elem (Term.static "HopNet" "EXCHANGE_ONE" "[I") (.int 7)) (.int 1)) (by decide +kernel))
    · exact va_eqt (hs (Cond.eq (.elem (Term.static "HopNet" "EXCHANGE_ONE" "[I") (.int 8)) (.int 0)) (by decide +kernel))) hA0
  have Z0 := va_Zref (A := fun q => s.heap.size ≤ q) (hts _ nw_733) (htg _ mw_52) v0 hA0
  obtain ⟨t1, v1, T1⟩ := va_Tof (N := 9) (f := xp) (A := fun q => s.heap.size ≤ q) (by decide) (hs (Cond.arrayOf (Term.static "HopNet" "EXCHANGE_OTHER" "[I") .int) (by decide +kernel)) (va_eqt (hs (Cond.eq (.length (Term.static "HopNet" "EXCHANGE_OTHER" "[I")) (.int 9)) (by decide +kernel))) (fun j hj => by
    rcases (show j = 0 ∨ j = 1 ∨ j = 2 ∨ j = 3 ∨ j = 4 ∨ j = 5 ∨ j = 6 ∨ j = 7 ∨ j = 8 by omega) with rfl | rfl | rfl | rfl | rfl | rfl | rfl | rfl | rfl
    · exact va_eqt (hs (Cond.eq (.elem (Term.static "HopNet" "EXCHANGE_OTHER" "[I") (.int 0)) (.int 3)) (by decide +kernel))
    · exact va_eqt (hs (Cond.eq (.elem (Term.static "HopNet" "EXCHANGE_OTHER" "[I") (.int 1)) (.int 2)) (by decide +kernel))
    · exact va_eqt (hs (Cond.eq (.elem (Term.static "HopNet" "EXCHANGE_OTHER" "[I") (.int 2)) (.int 1)) (by decide +kernel))
    · exact va_eqt (hs (Cond.eq (.elem (Term.static "HopNet" "EXCHANGE_OTHER" "[I") (.int 3)) (.int 4)) (by decide +kernel))
    · exact va_eqt (hs (Cond.eq (.elem (Term.static "HopNet" "EXCHANGE_OTHER" "[I") (.int 4)) (.int 4)) (by decide +kernel))
    · exact va_eqt (hs (Cond.eq (.elem (Term.static "HopNet" "EXCHANGE_OTHER" "[I") (.int 5)) (.int 2)) (by decide +kernel))
    · exact va_eqt (hs (Cond.eq (.elem (Term.static "HopNet" "EXCHANGE_OTHER" "[I") (.int 6)) (.int 4)) (by decide +kernel))
    · exact va_eqt (hs (Cond.eq (.elem (Term.static "HopNet" "EXCHANGE_OTHER" "[I") (.int 7)) (.int 3)) (by decide +kernel))
    · exact va_eqt (hs (Cond.eq (.elem (Term.static "HopNet" "EXCHANGE_OTHER" "[I") (.int 8)) (.int 4)) (by decide +kernel))) hA0
  have Z1 := va_Zref (A := fun q => s.heap.size ≤ q) (hts _ nw_735) (htg _ mw_52) v1 hA0
  obtain ⟨t2, v2, T2⟩ := va_Tof (N := 18) (f := xq) (A := fun q => s.heap.size ≤ q) (by decide) (hs (Cond.arrayOf (Term.static "HopNetModel" "PAIRS" "[I") .int) (by decide +kernel)) (va_eqt (hs (Cond.eq (.length (Term.static "HopNetModel" "PAIRS" "[I")) (.int 18)) (by decide +kernel))) (fun j hj => by
    rcases (show j = 0 ∨ j = 1 ∨ j = 2 ∨ j = 3 ∨ j = 4 ∨ j = 5 ∨ j = 6 ∨ j = 7 ∨ j = 8 ∨ j = 9 ∨ j = 10 ∨ j = 11 ∨ j = 12 ∨ j = 13 ∨ j = 14 ∨ j = 15 ∨ j = 16 ∨ j = 17 by omega) with rfl | rfl | rfl | rfl | rfl | rfl | rfl | rfl | rfl | rfl | rfl | rfl | rfl | rfl | rfl | rfl | rfl | rfl
    · exact va_eqt (hs (Cond.eq (.elem (Term.static "HopNetModel" "PAIRS" "[I") (.int 0)) (.int 0)) (by decide +kernel))
    · exact va_eqt (hs (Cond.eq (.elem (Term.static "HopNetModel" "PAIRS" "[I") (.int 1)) (.int 3)) (by decide +kernel))
    · exact va_eqt (hs (Cond.eq (.elem (Term.static "HopNetModel" "PAIRS" "[I") (.int 2)) (.int 1)) (by decide +kernel))
    · exact va_eqt (hs (Cond.eq (.elem (Term.static "HopNetModel" "PAIRS" "[I") (.int 3)) (.int 2)) (by decide +kernel))
    · exact va_eqt (hs (Cond.eq (.elem (Term.static "HopNetModel" "PAIRS" "[I") (.int 4)) (.int 0)) (by decide +kernel))
    · exact va_eqt (hs (Cond.eq (.elem (Term.static "HopNetModel" "PAIRS" "[I") (.int 5)) (.int 1)) (by decide +kernel))
    · exact va_eqt (hs (Cond.eq (.elem (Term.static "HopNetModel" "PAIRS" "[I") (.int 6)) (.int 2)) (by decide +kernel))
    · exact va_eqt (hs (Cond.eq (.elem (Term.static "HopNetModel" "PAIRS" "[I") (.int 7)) (.int 4)) (by decide +kernel))
    · exact va_eqt (hs (Cond.eq (.elem (Term.static "HopNetModel" "PAIRS" "[I") (.int 8)) (.int 1)) (by decide +kernel))
    · exact va_eqt (hs (Cond.eq (.elem (Term.static "HopNetModel" "PAIRS" "[I") (.int 9)) (.int 4)) (by decide +kernel))
    · exact va_eqt (hs (Cond.eq (.elem (Term.static "HopNetModel" "PAIRS" "[I") (.int 10)) (.int 0)) (by decide +kernel))
    · exact va_eqt (hs (Cond.eq (.elem (Term.static "HopNetModel" "PAIRS" "[I") (.int 11)) (.int 2)) (by decide +kernel))
    · exact va_eqt (hs (Cond.eq (.elem (Term.static "HopNetModel" "PAIRS" "[I") (.int 12)) (.int 3)) (by decide +kernel))
    · exact va_eqt (hs (Cond.eq (.elem (Term.static "HopNetModel" "PAIRS" "[I") (.int 13)) (.int 4)) (by decide +kernel))
    · exact va_eqt (hs (Cond.eq (.elem (Term.static "HopNetModel" "PAIRS" "[I") (.int 14)) (.int 1)) (by decide +kernel))
    · exact va_eqt (hs (Cond.eq (.elem (Term.static "HopNetModel" "PAIRS" "[I") (.int 15)) (.int 3)) (by decide +kernel))
    · exact va_eqt (hs (Cond.eq (.elem (Term.static "HopNetModel" "PAIRS" "[I") (.int 16)) (.int 0)) (by decide +kernel))
    · exact va_eqt (hs (Cond.eq (.elem (Term.static "HopNetModel" "PAIRS" "[I") (.int 17)) (.int 4)) (by decide +kernel))) hA0
  have Z2 := va_Zref (A := fun q => s.heap.size ≤ q) (hts _ nw_1118) (htg _ mw_59) v2 hA0
  refine ⟨((fun c => ([c0, c1, c2, c3, c4, c5, c6, c7] : List ClassId).getD c c0, fun c => ([i0, i1, i2, i3, i4, i5, i6, i7] : List (Nat → Nat)).getD c i0), s.heap.size, fun k => ([aI, aZ, aL, aN, aW] : List ClassId).getD k aI, fun k => ([t0, t1, t2] : List Nat).getD k 0), rfl, ⟨?_, ?_⟩, ?_, ⟨va_AO.of (hts _ nw_111), va_AO.of (hts _ nw_78), va_AO.of (hts _ nw_411)⟩, ⟨Z0, T0⟩, ⟨Z1, T1⟩, ⟨Z2, T2⟩⟩
  · intro c q hq
    have hc : c < 8 := (List.getElem?_eq_some_iff.mp hq).1
    rcases (show c = 0 ∨ c = 1 ∨ c = 2 ∨ c = 3 ∨ c = 4 ∨ c = 5 ∨ c = 6 ∨ c = 7 by omega) with rfl | rfl | rfl | rfl | rfl | rfl | rfl | rfl
    · have e := Option.some.inj hq; subst e; exact k0
    · have e := Option.some.inj hq; subst e; exact k1
    · have e := Option.some.inj hq; subst e; exact k2
    · have e := Option.some.inj hq; subst e; exact k3
    · have e := Option.some.inj hq; subst e; exact k4
    · have e := Option.some.inj hq; subst e; exact k5
    · have e := Option.some.inj hq; subst e; exact k6
    · have e := Option.some.inj hq; subst e; exact k7
  · intro k q hq
    have hc : k < 5 := (List.getElem?_eq_some_iff.mp hq).1
    rcases (show k = 0 ∨ k = 1 ∨ k = 2 ∨ k = 3 ∨ k = 4 by omega) with rfl | rfl | rfl | rfl | rfl
    · have e := Option.some.inj hq; subst e; exact ⟨fun n z => ⟨fun k h => (by cases h), kI, gI, pI, jI⟩, fI⟩
    · have e := Option.some.inj hq; subst e; exact ⟨fun n z => ⟨fun k h => (by cases h), kZ, gZ, pZ, jZ⟩, fZ⟩
    · have e := Option.some.inj hq; subst e; exact ⟨fun n z => ⟨fun k h => (by cases h), kL, gL, pL, jL⟩, kL, pL, gL, jL, dL, fL⟩
    · have e := Option.some.inj hq; subst e; exact ⟨fun n z => ⟨fun k h => (by cases h), kN, gN, pN, jN⟩, kN, pN, gN, jN, dN, fN⟩
    · have e := Option.some.inj hq; subst e; exact ⟨fun n z => ⟨fun k h => (by cases h), kW, gW, pW, jW⟩, kW, pW, gW, jW, dW, fW⟩
  · intro q hq
    simp only [nws, List.mem_cons, List.not_mem_nil, or_false] at hq
    rcases hq with rfl | rfl | rfl | rfl | rfl | rfl | rfl | rfl
    · exact va_Nw.of rfl (hts _ nw_86)
    · exact va_Nw.of rfl (hts _ nw_114)
    · exact va_Nw.of rfl (hts _ nw_119)
    · exact va_Nw.of rfl (hts _ nw_122)
    · exact va_Nw.of rfl (hts _ nw_162)
    · exact va_Nw.of rfl (hts _ nw_729)
    · exact va_Nw.of rfl (hts _ nw_736)
    · exact va_Nw.of rfl (hts _ nw_768)
/-- from the entry, for every script of at most 3072 ints, the law comes to its end with true -/
theorem whole_start {p : Program} {e : Env} {s : State} {m : MethodId} {below : List Frame} {meth : Method} {c : Code} (l : Launch) (hflags : l.flags = flags0) {b L : Nat} {xs : Nat → Int32} (hL : L ≤ 3072) (C0 : lw_At p s m meth c b L xs) : W p l e room_1 s m #[Value.ref b] below meth c s.heap [] 0 0 (lw_Z below #[Value.ref b] s) (entryFrame m ([Value.ref b] : List Value).toArray 4) := by
  obtain ⟨hx, hb, hr, hml, hown, hts, hX, hbl, hlk, hgv⟩ := C0
  obtain ⟨E, hE, hK⟩ := law_world hts hgv
  have B : MB p s m #[Value.ref b] c code 4 RL E := ⟨⟨hx, hb, hml, hown, fun w hw => hts w (gw_sub hw)⟩, hK⟩
  have hbA : ¬ hA E b := fun h => by
    have h : E.2.1 ≤ b := h
    omega
  rw [lg_entry_eq]
  obtain ⟨ls, els⟩ : ∃ z, z = (lg_sl [Value.ref b] ++ List.replicate (4 - (lg_sl [Value.ref b]).length) Slot.unset).toArray := ⟨_, rfl⟩
  have hl : lv_has ls 4 [(0, .ref b)] := by rw [els]; exact lv_entry [Value.ref b] (Nat.le_of_ble_eq_true rfl)
  rw [← els]
  have hS : va_S (hA E) s.heap s.heap [] := va_S.rf
  have hz : s.heap.size = E.2.1 + 0 := by rw [hE, Nat.add_zero]
  have hP : va_P E.1 vwCl (wl E 0 (fun j => hcc E j (r0 j))) s.heap := fun k q h => by rw [wl_get, if_neg (Nat.not_lt_zero _)] at h; cases h
  refine x_new (ci := 6) (fs := [.null, .null, .null, .null, .null, .null, .int 0, .int 0, .null, .int 0, .null, .null]) tyX6 B hz hP hS in6 tyX6_ok rfl mw_63 mw_64 mw_52 (by decide) (Nat.le_of_ble_eq_true rfl) (Nat.le_of_ble_eq_true rfl) dL_law_0 (fun H hz hP hS => ?_)
  refine lv_dup hx hb dL_law_3 rfl ?_
  have hz : H.size = E.2.1 + (0 + 1) := hz
  refine xcI (N := 0) B hz hP hS (k_X6_init l E _ rfl) mw_65 lkc_X6 hl.1 (Nat.le_of_ble_eq_true rfl) ⟨Nat.le_of_ble_eq_true rfl, Nat.le_of_ble_eq_true rfl⟩ ⟨Nat.le_of_ble_eq_true rfl, Nat.le_of_ble_eq_true rfl⟩ dL_law_4 (fun H locs hz hP hS => ?_)
  refine lv_astore_n (lv' := [(1, .ref (E.2.1 + 0)), (0, .ref b)]) hx hb dL_law_7 rfl hl (by decide) rfl (fun ls hl => ?_)
  have hz : H.size = E.2.1 + 1076 := hz
  refine x_new (N := 1076) (ci := 7) (fs := [.int 0, .int 0, .null, .null, .null, .null, .int 0, .null, .null, .null, .null, .null, .null, .null, .null, .null, .int 0, .int 0]) tyX7 B hz hP hS in7 tyX7_ok rfl mw_1021 mw_1022 mw_59 (by decide) (Nat.le_of_ble_eq_true rfl) (Nat.le_of_ble_eq_true rfl) dL_law_8 (fun H hz hP hS => ?_)
  refine lv_dup hx hb dL_law_11 rfl ?_
  refine xcI (N := 1076) B hz hP hS (k_X7_init l E _ rfl) mw_1023 lkc_X7 hl.1 (Nat.le_of_ble_eq_true rfl) ⟨Nat.le_of_ble_eq_true rfl, Nat.le_of_ble_eq_true rfl⟩ ⟨Nat.le_of_ble_eq_true rfl, Nat.le_of_ble_eq_true rfl⟩ dL_law_12 (fun H locs hz hP hS => ?_)
  refine lv_astore_n (lv' := [(2, .ref (E.2.1 + 1076)), (1, .ref (E.2.1 + 0)), (0, .ref b)]) hx hb dL_law_15 rfl hl (by decide) rfl (fun ls hl => ?_)
  refine lv_iconst (v := 0) hx hb dL_law_16 (by decide) ?_
  refine lv_istore_n (lv' := [(3, .int 0), (2, .ref (E.2.1 + 1076)), (1, .ref (E.2.1 + 0)), (0, .ref b)]) hx hb dL_law_17 rfl hl (by decide) rfl (fun ls hl => ?_)
  refine W.cs (cells' := 1090) (slots' := 19159) rfl rfl ?_
  have hP : WP E r0 H := by
    have h0 := wl_P.mp hP
    refine wl_P.mpr (fun j hj => ?_)
    have h := h0 j hj
    by_cases h1 : j < 1076
    · have h2 := Nat.ne_of_lt h1
      simpa [h1, h2, va_up, hcf] using h
    · simpa [h1, hcf] using h
  exact law_loop B hX hbl hbA hr hlk (Nat.le_of_eq hE.symm) hL 3085 0 ls r0 H locs (by decide) (by decide) hl hP hS LI_0
