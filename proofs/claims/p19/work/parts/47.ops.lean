section OP
variable {p : Program} {l : Launch} {e : Env} {s : State} {m : MethodId} {below : List Frame} {meth : Method} {c : Code} {H : Heap} {locs : List Loc} {cells slots : Nat} {Q : State → Prop} {ls : Array Slot} {E : hE} {b pc L : Nat} {xs : Nat → Int32} {rest : List Value} {R : Room} {args : Array Value} {ρ : Nat → Nat → Int32} {j : Nat}
set_option maxHeartbeats 4000000 in
set_option maxRecDepth 100000 in
theorem op_22 (B : MB p s m #[Value.ref b] c code 4 RL E) (hl : lv_has ls 4 [(3, .int (nI j)), (2, .ref (E.2.1 + 1076)), (1, .ref (E.2.1 + 0)), (0, .ref b)]) (hP : WP E ρ H) (hS : va_S (hA E) s.heap H locs) (hX : va_X b L xs s s.heap) (hbl : b < s.heap.size) (hbA : ¬ hA E b) (hI : LI ρ) (hj : j + 6 ≤ L) (hL : L ≤ 3072) (kk : ∀ (ρ : Nat → Nat → Int32) (H : Heap) (locs : List Loc), LI ρ → WP E ρ H → va_S (hA E) s.heap H locs → W p l e room_1 s m #[Value.ref b] below meth c H locs 1090 19159 Q (F0 m 1796 ls [])) : W p l e room_1 s m #[Value.ref b] below meth c H locs 1090 19159 Q (F0 m 1010 ls []) := by
  have hx := B.1.1
  have hb := B.1.2.1
  refine lv_aload_n hx hb dL_law_1010 rfl (lv_at hl 2 rfl) ?_
  refine lv_aload_n hx hb dL_law_1011 rfl (lv_at hl 3 rfl) ?_
  refine lv_iload_n hx hb dL_law_1012 rfl (lv_at hl 0 rfl) ?_
  refine lv_iconst (v := 1) hx hb dL_law_1013 (by decide) ?_
  refine lv_iadd hx hb dL_law_1014 ?_
  refine lv_topi (fun z1 ez1 => ?_)
  obtain rfl : z1 = (nI (1 + j)) := ez1.trans (by rw [show (nI j) = nI j from rfl, show 1 = nI 1 from rfl, nI_add] <;> exact congrArg nI (by omega))
  refine sldn (q := (1 + j)) B hX hbl hbA hS hL rfl (by omega) dL_law_1015 ?_
  refine lv_aload_n hx hb dL_law_1016 rfl (lv_at hl 3 rfl) ?_
  refine lv_iload_n hx hb dL_law_1017 rfl (lv_at hl 0 rfl) ?_
  refine lv_iconst (v := 2) hx hb dL_law_1018 (by decide) ?_
  refine lv_iadd hx hb dL_law_1019 ?_
  refine lv_topi (fun z2 ez2 => ?_)
  obtain rfl : z2 = (nI (2 + j)) := ez2.trans (by rw [show (nI j) = nI j from rfl, show 2 = nI 2 from rfl, nI_add] <;> exact congrArg nI (by omega))
  refine sldn (q := (2 + j)) B hX hbl hbA hS hL rfl (by omega) dL_law_1020 ?_
  refine lv_aload_n hx hb dL_law_1021 rfl (lv_at hl 3 rfl) ?_
  refine lv_iload_n hx hb dL_law_1022 rfl (lv_at hl 0 rfl) ?_
  refine lv_iconst (v := 3) hx hb dL_law_1023 (by decide) ?_
  refine lv_iadd hx hb dL_law_1024 ?_
  refine lv_topi (fun z3 ez3 => ?_)
  obtain rfl : z3 = (nI (3 + j)) := ez3.trans (by rw [show (nI j) = nI j from rfl, show 3 = nI 3 from rfl, nI_add] <;> exact congrArg nI (by omega))
  refine sldn (q := (3 + j)) B hX hbl hbA hS hL rfl (by omega) dL_law_1025 ?_
  refine call_i (cVt (k := 0) (av := [.int (xs (1 + j)), .int (xs (2 + j)), .int (xs (3 + j))]) (rest := []) B hP hS (d_X6_used l E ρ ρ (xs (1 + j)) (xs (2 + j)) (xs (3 + j)) hI.1) lk_RL_107 (hrecv (ci := 6) B hP (by decide) (hcc6 _ _ (show hk 0 = 6 by decide +kernel)) rfl) rfl rfl hl.1 (Nat.le_of_ble_eq_true rfl) ⟨Nat.le_of_ble_eq_true rfl, Nat.le_of_ble_eq_true rfl⟩ ⟨Nat.le_of_ble_eq_true rfl, Nat.le_of_ble_eq_true rfl⟩ dL_law_1026) hS (fun r1 ρ1 H locs q1 hP hS => ?_)
  have hC : CI ρ S0 ρ1 := q1.2
  refine lv_pop hx hb dL_law_1029 rfl ?_
  refine lv_aload_n hx hb dL_law_1030 rfl (lv_at hl 1 rfl) ?_
  refine lv_aload_n hx hb dL_law_1031 rfl (lv_at hl 3 rfl) ?_
  refine lv_iload_n hx hb dL_law_1032 rfl (lv_at hl 0 rfl) ?_
  refine lv_iconst (v := 1) hx hb dL_law_1033 (by decide) ?_
  refine lv_iadd hx hb dL_law_1034 ?_
  refine lv_topi (fun z4 ez4 => ?_)
  obtain rfl : z4 = (nI (1 + j)) := ez4.trans (by rw [show (nI j) = nI j from rfl, show 1 = nI 1 from rfl, nI_add] <;> exact congrArg nI (by omega))
  refine sldn (q := (1 + j)) B hX hbl hbA hS hL rfl (by omega) dL_law_1035 ?_
  refine lv_aload_n hx hb dL_law_1036 rfl (lv_at hl 3 rfl) ?_
  refine lv_iload_n hx hb dL_law_1037 rfl (lv_at hl 0 rfl) ?_
  refine lv_iconst (v := 2) hx hb dL_law_1038 (by decide) ?_
  refine lv_iadd hx hb dL_law_1039 ?_
  refine lv_topi (fun z5 ez5 => ?_)
  obtain rfl : z5 = (nI (2 + j)) := ez5.trans (by rw [show (nI j) = nI j from rfl, show 2 = nI 2 from rfl, nI_add] <;> exact congrArg nI (by omega))
  refine sldn (q := (2 + j)) B hX hbl hbA hS hL rfl (by omega) dL_law_1040 ?_
  refine lv_aload_n hx hb dL_law_1041 rfl (lv_at hl 3 rfl) ?_
  refine lv_iload_n hx hb dL_law_1042 rfl (lv_at hl 0 rfl) ?_
  refine lv_iconst (v := 3) hx hb dL_law_1043 (by decide) ?_
  refine lv_iadd hx hb dL_law_1044 ?_
  refine lv_topi (fun z6 ez6 => ?_)
  obtain rfl : z6 = (nI (3 + j)) := ez6.trans (by rw [show (nI j) = nI j from rfl, show 3 = nI 3 from rfl, nI_add] <;> exact congrArg nI (by omega))
  refine sldn (q := (3 + j)) B hX hbl hbA hS hL rfl (by omega) dL_law_1045 ?_
  have hp1 := PI_cls hI.2 hC
  obtain ⟨M, LL, hG⟩ := hp1.2.1
  refine call_i (cVt (k := 1076) (av := [.int (xs (1 + j)), .int (xs (2 + j)), .int (xs (3 + j))]) (rest := []) B hP hS (d_X7_used l E ρ1 ρ1 99998 (by decide) M LL X0 (xs (1 + j)) (xs (2 + j)) (xs (3 + j)) ⟨fun _ _ _ => rfl, rfl, hG⟩) lk_RL_110 (hrecv (ci := 7) B hP (by decide) (hcc7 _ _ (show hk 1076 = 7 by decide +kernel)) rfl) rfl rfl hl.1 (Nat.le_of_ble_eq_true rfl) ⟨Nat.le_of_ble_eq_true rfl, Nat.le_of_ble_eq_true rfl⟩ ⟨Nat.le_of_ble_eq_true rfl, Nat.le_of_ble_eq_true rfl⟩ dL_law_1046) hS (fun r2 ρ2 H locs q2 hP hS => ?_)
  have hp : PI ρ1 ρ2 := PI_RI hp1 q2
  refine lv_pop hx hb dL_law_1049 rfl ?_
  refine lv_goto (tgt := 1796) hx hb dL_law_1050 (by decide) ?_
  exact kk ρ2 _ _ (LI_step hC hp) hP hS
set_option maxHeartbeats 4000000 in
set_option maxRecDepth 100000 in
theorem op_23 (B : MB p s m #[Value.ref b] c code 4 RL E) (hl : lv_has ls 4 [(3, .int (nI j)), (2, .ref (E.2.1 + 1076)), (1, .ref (E.2.1 + 0)), (0, .ref b)]) (hP : WP E ρ H) (hS : va_S (hA E) s.heap H locs) (hX : va_X b L xs s s.heap) (hbl : b < s.heap.size) (hbA : ¬ hA E b) (hI : LI ρ) (hj : j + 6 ≤ L) (hL : L ≤ 3072) (kk : ∀ (ρ : Nat → Nat → Int32) (H : Heap) (locs : List Loc), LI ρ → WP E ρ H → va_S (hA E) s.heap H locs → W p l e room_1 s m #[Value.ref b] below meth c H locs 1090 19159 Q (F0 m 1796 ls [])) : W p l e room_1 s m #[Value.ref b] below meth c H locs 1090 19159 Q (F0 m 1053 ls []) := by
  have hx := B.1.1
  have hb := B.1.2.1
  refine lv_aload_n hx hb dL_law_1053 rfl (lv_at hl 2 rfl) ?_
  refine lv_aload_n hx hb dL_law_1054 rfl (lv_at hl 3 rfl) ?_
  refine lv_iload_n hx hb dL_law_1055 rfl (lv_at hl 0 rfl) ?_
  refine lv_iconst (v := 1) hx hb dL_law_1056 (by decide) ?_
  refine lv_iadd hx hb dL_law_1057 ?_
  refine lv_topi (fun z1 ez1 => ?_)
  obtain rfl : z1 = (nI (1 + j)) := ez1.trans (by rw [show (nI j) = nI j from rfl, show 1 = nI 1 from rfl, nI_add] <;> exact congrArg nI (by omega))
  refine sldn (q := (1 + j)) B hX hbl hbA hS hL rfl (by omega) dL_law_1058 ?_
  refine lv_aload_n hx hb dL_law_1059 rfl (lv_at hl 3 rfl) ?_
  refine lv_iload_n hx hb dL_law_1060 rfl (lv_at hl 0 rfl) ?_
  refine lv_iconst (v := 2) hx hb dL_law_1061 (by decide) ?_
  refine lv_iadd hx hb dL_law_1062 ?_
  refine lv_topi (fun z2 ez2 => ?_)
  obtain rfl : z2 = (nI (2 + j)) := ez2.trans (by rw [show (nI j) = nI j from rfl, show 2 = nI 2 from rfl, nI_add] <;> exact congrArg nI (by omega))
  refine sldn (q := (2 + j)) B hX hbl hbA hS hL rfl (by omega) dL_law_1063 ?_
  refine call_i (cVt (k := 0) (av := [.int (xs (1 + j)), .int (xs (2 + j))]) (rest := []) B hP hS (d_X6_bad l E ρ ρ (xs (1 + j)) (xs (2 + j)) hI.1) lk_RL_111 (hrecv (ci := 6) B hP (by decide) (hcc6 _ _ (show hk 0 = 6 by decide +kernel)) rfl) rfl rfl hl.1 (Nat.le_of_ble_eq_true rfl) ⟨Nat.le_of_ble_eq_true rfl, Nat.le_of_ble_eq_true rfl⟩ ⟨Nat.le_of_ble_eq_true rfl, Nat.le_of_ble_eq_true rfl⟩ dL_law_1064) hS (fun r1 ρ1 H locs q1 hP hS => ?_)
  have hC : CI ρ S0 ρ1 := q1.2
  refine lv_pop hx hb dL_law_1067 rfl ?_
  refine lv_aload_n hx hb dL_law_1068 rfl (lv_at hl 1 rfl) ?_
  refine lv_aload_n hx hb dL_law_1069 rfl (lv_at hl 3 rfl) ?_
  refine lv_iload_n hx hb dL_law_1070 rfl (lv_at hl 0 rfl) ?_
  refine lv_iconst (v := 1) hx hb dL_law_1071 (by decide) ?_
  refine lv_iadd hx hb dL_law_1072 ?_
  refine lv_topi (fun z3 ez3 => ?_)
  obtain rfl : z3 = (nI (1 + j)) := ez3.trans (by rw [show (nI j) = nI j from rfl, show 1 = nI 1 from rfl, nI_add] <;> exact congrArg nI (by omega))
  refine sldn (q := (1 + j)) B hX hbl hbA hS hL rfl (by omega) dL_law_1073 ?_
  refine lv_aload_n hx hb dL_law_1074 rfl (lv_at hl 3 rfl) ?_
  refine lv_iload_n hx hb dL_law_1075 rfl (lv_at hl 0 rfl) ?_
  refine lv_iconst (v := 2) hx hb dL_law_1076 (by decide) ?_
  refine lv_iadd hx hb dL_law_1077 ?_
  refine lv_topi (fun z4 ez4 => ?_)
  obtain rfl : z4 = (nI (2 + j)) := ez4.trans (by rw [show (nI j) = nI j from rfl, show 2 = nI 2 from rfl, nI_add] <;> exact congrArg nI (by omega))
  refine sldn (q := (2 + j)) B hX hbl hbA hS hL rfl (by omega) dL_law_1078 ?_
  have hp1 := PI_cls hI.2 hC
  obtain ⟨M, LL, hG⟩ := hp1.2.1
  refine call_i (cVt (k := 1076) (av := [.int (xs (1 + j)), .int (xs (2 + j))]) (rest := []) B hP hS (d_X7_bad l E ρ1 ρ1 99998 (by decide) M LL X0 (xs (1 + j)) (xs (2 + j)) ⟨fun _ _ _ => rfl, rfl, hG⟩) lk_RL_114 (hrecv (ci := 7) B hP (by decide) (hcc7 _ _ (show hk 1076 = 7 by decide +kernel)) rfl) rfl rfl hl.1 (Nat.le_of_ble_eq_true rfl) ⟨Nat.le_of_ble_eq_true rfl, Nat.le_of_ble_eq_true rfl⟩ ⟨Nat.le_of_ble_eq_true rfl, Nat.le_of_ble_eq_true rfl⟩ dL_law_1079) hS (fun r2 ρ2 H locs q2 hP hS => ?_)
  have hp : PI ρ1 ρ2 := PI_RI hp1 q2
  refine lv_pop hx hb dL_law_1082 rfl ?_
  refine lv_goto (tgt := 1796) hx hb dL_law_1083 (by decide) ?_
  exact kk ρ2 _ _ (LI_step hC hp) hP hS
set_option maxHeartbeats 4000000 in
set_option maxRecDepth 100000 in
theorem op_24 (B : MB p s m #[Value.ref b] c code 4 RL E) (hl : lv_has ls 4 [(3, .int (nI j)), (2, .ref (E.2.1 + 1076)), (1, .ref (E.2.1 + 0)), (0, .ref b)]) (hP : WP E ρ H) (hS : va_S (hA E) s.heap H locs) (hX : va_X b L xs s s.heap) (hbl : b < s.heap.size) (hbA : ¬ hA E b) (hI : LI ρ) (hj : j + 6 ≤ L) (hL : L ≤ 3072) (kk : ∀ (ρ : Nat → Nat → Int32) (H : Heap) (locs : List Loc), LI ρ → WP E ρ H → va_S (hA E) s.heap H locs → W p l e room_1 s m #[Value.ref b] below meth c H locs 1090 19159 Q (F0 m 1796 ls [])) : W p l e room_1 s m #[Value.ref b] below meth c H locs 1090 19159 Q (F0 m 1086 ls []) := by
  have hx := B.1.1
  have hb := B.1.2.1
  refine lv_aload_n hx hb dL_law_1086 rfl (lv_at hl 2 rfl) ?_
  refine lv_aload_n hx hb dL_law_1087 rfl (lv_at hl 3 rfl) ?_
  refine lv_iload_n hx hb dL_law_1088 rfl (lv_at hl 0 rfl) ?_
  refine lv_iconst (v := 1) hx hb dL_law_1089 (by decide) ?_
  refine lv_iadd hx hb dL_law_1090 ?_
  refine lv_topi (fun z1 ez1 => ?_)
  obtain rfl : z1 = (nI (1 + j)) := ez1.trans (by rw [show (nI j) = nI j from rfl, show 1 = nI 1 from rfl, nI_add] <;> exact congrArg nI (by omega))
  refine sldn (q := (1 + j)) B hX hbl hbA hS hL rfl (by omega) dL_law_1091 ?_
  refine lv_aload_n hx hb dL_law_1092 rfl (lv_at hl 3 rfl) ?_
  refine lv_iload_n hx hb dL_law_1093 rfl (lv_at hl 0 rfl) ?_
  refine lv_iconst (v := 2) hx hb dL_law_1094 (by decide) ?_
  refine lv_iadd hx hb dL_law_1095 ?_
  refine lv_topi (fun z2 ez2 => ?_)
  obtain rfl : z2 = (nI (2 + j)) := ez2.trans (by rw [show (nI j) = nI j from rfl, show 2 = nI 2 from rfl, nI_add] <;> exact congrArg nI (by omega))
  refine sldn (q := (2 + j)) B hX hbl hbA hS hL rfl (by omega) dL_law_1096 ?_
  refine lv_aload_n hx hb dL_law_1097 rfl (lv_at hl 3 rfl) ?_
  refine lv_iload_n hx hb dL_law_1098 rfl (lv_at hl 0 rfl) ?_
  refine lv_iconst (v := 3) hx hb dL_law_1099 (by decide) ?_
  refine lv_iadd hx hb dL_law_1100 ?_
  refine lv_topi (fun z3 ez3 => ?_)
  obtain rfl : z3 = (nI (3 + j)) := ez3.trans (by rw [show (nI j) = nI j from rfl, show 3 = nI 3 from rfl, nI_add] <;> exact congrArg nI (by omega))
  refine sldn (q := (3 + j)) B hX hbl hbA hS hL rfl (by omega) dL_law_1101 ?_
  refine call_i (cVt (k := 0) (av := [.int (xs (1 + j)), .int (xs (2 + j)), .int (xs (3 + j))]) (rest := []) B hP hS (d_X6_sent l E ρ ρ (xs (1 + j)) (xs (2 + j)) (xs (3 + j)) hI.1) lk_RL_115 (hrecv (ci := 6) B hP (by decide) (hcc6 _ _ (show hk 0 = 6 by decide +kernel)) rfl) rfl rfl hl.1 (Nat.le_of_ble_eq_true rfl) ⟨Nat.le_of_ble_eq_true rfl, Nat.le_of_ble_eq_true rfl⟩ ⟨Nat.le_of_ble_eq_true rfl, Nat.le_of_ble_eq_true rfl⟩ dL_law_1102) hS (fun r1 ρ1 H locs q1 hP hS => ?_)
  have hC : CI ρ S0 ρ1 := q1.2
  refine lv_pop hx hb dL_law_1105 rfl ?_
  refine lv_aload_n hx hb dL_law_1106 rfl (lv_at hl 1 rfl) ?_
  refine lv_aload_n hx hb dL_law_1107 rfl (lv_at hl 3 rfl) ?_
  refine lv_iload_n hx hb dL_law_1108 rfl (lv_at hl 0 rfl) ?_
  refine lv_iconst (v := 1) hx hb dL_law_1109 (by decide) ?_
  refine lv_iadd hx hb dL_law_1110 ?_
  refine lv_topi (fun z4 ez4 => ?_)
  obtain rfl : z4 = (nI (1 + j)) := ez4.trans (by rw [show (nI j) = nI j from rfl, show 1 = nI 1 from rfl, nI_add] <;> exact congrArg nI (by omega))
  refine sldn (q := (1 + j)) B hX hbl hbA hS hL rfl (by omega) dL_law_1111 ?_
  refine lv_aload_n hx hb dL_law_1112 rfl (lv_at hl 3 rfl) ?_
  refine lv_iload_n hx hb dL_law_1113 rfl (lv_at hl 0 rfl) ?_
  refine lv_iconst (v := 2) hx hb dL_law_1114 (by decide) ?_
  refine lv_iadd hx hb dL_law_1115 ?_
  refine lv_topi (fun z5 ez5 => ?_)
  obtain rfl : z5 = (nI (2 + j)) := ez5.trans (by rw [show (nI j) = nI j from rfl, show 2 = nI 2 from rfl, nI_add] <;> exact congrArg nI (by omega))
  refine sldn (q := (2 + j)) B hX hbl hbA hS hL rfl (by omega) dL_law_1116 ?_
  refine lv_aload_n hx hb dL_law_1117 rfl (lv_at hl 3 rfl) ?_
  refine lv_iload_n hx hb dL_law_1118 rfl (lv_at hl 0 rfl) ?_
  refine lv_iconst (v := 3) hx hb dL_law_1119 (by decide) ?_
  refine lv_iadd hx hb dL_law_1120 ?_
  refine lv_topi (fun z6 ez6 => ?_)
  obtain rfl : z6 = (nI (3 + j)) := ez6.trans (by rw [show (nI j) = nI j from rfl, show 3 = nI 3 from rfl, nI_add] <;> exact congrArg nI (by omega))
  refine sldn (q := (3 + j)) B hX hbl hbA hS hL rfl (by omega) dL_law_1121 ?_
  have hp1 := PI_cls hI.2 hC
  obtain ⟨M, LL, hG⟩ := hp1.2.1
  refine call_i (cVt (k := 1076) (av := [.int (xs (1 + j)), .int (xs (2 + j)), .int (xs (3 + j))]) (rest := []) B hP hS (d_X7_sent l E ρ1 ρ1 99998 (by decide) M LL X0 (xs (1 + j)) (xs (2 + j)) (xs (3 + j)) ⟨fun _ _ _ => rfl, rfl, hG⟩) lk_RL_118 (hrecv (ci := 7) B hP (by decide) (hcc7 _ _ (show hk 1076 = 7 by decide +kernel)) rfl) rfl rfl hl.1 (Nat.le_of_ble_eq_true rfl) ⟨Nat.le_of_ble_eq_true rfl, Nat.le_of_ble_eq_true rfl⟩ ⟨Nat.le_of_ble_eq_true rfl, Nat.le_of_ble_eq_true rfl⟩ dL_law_1122) hS (fun r2 ρ2 H locs q2 hP hS => ?_)
  have hp : PI ρ1 ρ2 := PI_RI hp1 q2
  refine lv_pop hx hb dL_law_1125 rfl ?_
  refine lv_goto (tgt := 1796) hx hb dL_law_1126 (by decide) ?_
  exact kk ρ2 _ _ (LI_step hC hp) hP hS
set_option maxHeartbeats 4000000 in
set_option maxRecDepth 100000 in
theorem op_25 (B : MB p s m #[Value.ref b] c code 4 RL E) (hl : lv_has ls 4 [(3, .int (nI j)), (2, .ref (E.2.1 + 1076)), (1, .ref (E.2.1 + 0)), (0, .ref b)]) (hP : WP E ρ H) (hS : va_S (hA E) s.heap H locs) (hX : va_X b L xs s s.heap) (hbl : b < s.heap.size) (hbA : ¬ hA E b) (hI : LI ρ) (hj : j + 6 ≤ L) (hL : L ≤ 3072) (kk : ∀ (ρ : Nat → Nat → Int32) (H : Heap) (locs : List Loc), LI ρ → WP E ρ H → va_S (hA E) s.heap H locs → W p l e room_1 s m #[Value.ref b] below meth c H locs 1090 19159 Q (F0 m 1796 ls [])) : W p l e room_1 s m #[Value.ref b] below meth c H locs 1090 19159 Q (F0 m 1129 ls []) := by
  have hx := B.1.1
  have hb := B.1.2.1
  refine lv_aload_n hx hb dL_law_1129 rfl (lv_at hl 2 rfl) ?_
  refine lv_aload_n hx hb dL_law_1130 rfl (lv_at hl 3 rfl) ?_
  refine lv_iload_n hx hb dL_law_1131 rfl (lv_at hl 0 rfl) ?_
  refine lv_iconst (v := 1) hx hb dL_law_1132 (by decide) ?_
  refine lv_iadd hx hb dL_law_1133 ?_
  refine lv_topi (fun z1 ez1 => ?_)
  obtain rfl : z1 = (nI (1 + j)) := ez1.trans (by rw [show (nI j) = nI j from rfl, show 1 = nI 1 from rfl, nI_add] <;> exact congrArg nI (by omega))
  refine sldn (q := (1 + j)) B hX hbl hbA hS hL rfl (by omega) dL_law_1134 ?_
  refine lv_aload_n hx hb dL_law_1135 rfl (lv_at hl 3 rfl) ?_
  refine lv_iload_n hx hb dL_law_1136 rfl (lv_at hl 0 rfl) ?_
  refine lv_iconst (v := 2) hx hb dL_law_1137 (by decide) ?_
  refine lv_iadd hx hb dL_law_1138 ?_
  refine lv_topi (fun z2 ez2 => ?_)
  obtain rfl : z2 = (nI (2 + j)) := ez2.trans (by rw [show (nI j) = nI j from rfl, show 2 = nI 2 from rfl, nI_add] <;> exact congrArg nI (by omega))
  refine sldn (q := (2 + j)) B hX hbl hbA hS hL rfl (by omega) dL_law_1139 ?_
  refine lv_aload_n hx hb dL_law_1140 rfl (lv_at hl 3 rfl) ?_
  refine lv_iload_n hx hb dL_law_1141 rfl (lv_at hl 0 rfl) ?_
  refine lv_iconst (v := 3) hx hb dL_law_1142 (by decide) ?_
  refine lv_iadd hx hb dL_law_1143 ?_
  refine lv_topi (fun z3 ez3 => ?_)
  obtain rfl : z3 = (nI (3 + j)) := ez3.trans (by rw [show (nI j) = nI j from rfl, show 3 = nI 3 from rfl, nI_add] <;> exact congrArg nI (by omega))
  refine sldn (q := (3 + j)) B hX hbl hbA hS hL rfl (by omega) dL_law_1144 ?_
  refine call_i (cVt (k := 0) (av := [.int (xs (1 + j)), .int (xs (2 + j)), .int (xs (3 + j))]) (rest := []) B hP hS (d_X6_link l E ρ ρ (xs (1 + j)) (xs (2 + j)) (xs (3 + j)) hI.1) lk_RL_119 (hrecv (ci := 6) B hP (by decide) (hcc6 _ _ (show hk 0 = 6 by decide +kernel)) rfl) rfl rfl hl.1 (Nat.le_of_ble_eq_true rfl) ⟨Nat.le_of_ble_eq_true rfl, Nat.le_of_ble_eq_true rfl⟩ ⟨Nat.le_of_ble_eq_true rfl, Nat.le_of_ble_eq_true rfl⟩ dL_law_1145) hS (fun r1 ρ1 H locs q1 hP hS => ?_)
  have hC : CI ρ S0 ρ1 := q1.2
  refine lv_pop hx hb dL_law_1148 rfl ?_
  refine lv_aload_n hx hb dL_law_1149 rfl (lv_at hl 1 rfl) ?_
  refine lv_aload_n hx hb dL_law_1150 rfl (lv_at hl 3 rfl) ?_
  refine lv_iload_n hx hb dL_law_1151 rfl (lv_at hl 0 rfl) ?_
  refine lv_iconst (v := 1) hx hb dL_law_1152 (by decide) ?_
  refine lv_iadd hx hb dL_law_1153 ?_
  refine lv_topi (fun z4 ez4 => ?_)
  obtain rfl : z4 = (nI (1 + j)) := ez4.trans (by rw [show (nI j) = nI j from rfl, show 1 = nI 1 from rfl, nI_add] <;> exact congrArg nI (by omega))
  refine sldn (q := (1 + j)) B hX hbl hbA hS hL rfl (by omega) dL_law_1154 ?_
  refine lv_aload_n hx hb dL_law_1155 rfl (lv_at hl 3 rfl) ?_
  refine lv_iload_n hx hb dL_law_1156 rfl (lv_at hl 0 rfl) ?_
  refine lv_iconst (v := 2) hx hb dL_law_1157 (by decide) ?_
  refine lv_iadd hx hb dL_law_1158 ?_
  refine lv_topi (fun z5 ez5 => ?_)
  obtain rfl : z5 = (nI (2 + j)) := ez5.trans (by rw [show (nI j) = nI j from rfl, show 2 = nI 2 from rfl, nI_add] <;> exact congrArg nI (by omega))
  refine sldn (q := (2 + j)) B hX hbl hbA hS hL rfl (by omega) dL_law_1159 ?_
  refine lv_aload_n hx hb dL_law_1160 rfl (lv_at hl 3 rfl) ?_
  refine lv_iload_n hx hb dL_law_1161 rfl (lv_at hl 0 rfl) ?_
  refine lv_iconst (v := 3) hx hb dL_law_1162 (by decide) ?_
  refine lv_iadd hx hb dL_law_1163 ?_
  refine lv_topi (fun z6 ez6 => ?_)
  obtain rfl : z6 = (nI (3 + j)) := ez6.trans (by rw [show (nI j) = nI j from rfl, show 3 = nI 3 from rfl, nI_add] <;> exact congrArg nI (by omega))
  refine sldn (q := (3 + j)) B hX hbl hbA hS hL rfl (by omega) dL_law_1164 ?_
  have hp1 := PI_cls hI.2 hC
  obtain ⟨M, LL, hG⟩ := hp1.2.1
  refine call_i (cVt (k := 1076) (av := [.int (xs (1 + j)), .int (xs (2 + j)), .int (xs (3 + j))]) (rest := []) B hP hS (d_X7_link l E ρ1 ρ1 99998 (by decide) M LL X0 (xs (1 + j)) (xs (2 + j)) (xs (3 + j)) ⟨fun _ _ _ => rfl, rfl, hG⟩) lk_RL_122 (hrecv (ci := 7) B hP (by decide) (hcc7 _ _ (show hk 1076 = 7 by decide +kernel)) rfl) rfl rfl hl.1 (Nat.le_of_ble_eq_true rfl) ⟨Nat.le_of_ble_eq_true rfl, Nat.le_of_ble_eq_true rfl⟩ ⟨Nat.le_of_ble_eq_true rfl, Nat.le_of_ble_eq_true rfl⟩ dL_law_1165) hS (fun r2 ρ2 H locs q2 hP hS => ?_)
  have hp : PI ρ1 ρ2 := PI_RI hp1 q2
  refine lv_pop hx hb dL_law_1168 rfl ?_
  refine lv_goto (tgt := 1796) hx hb dL_law_1169 (by decide) ?_
  exact kk ρ2 _ _ (LI_step hC hp) hP hS
set_option maxHeartbeats 4000000 in
set_option maxRecDepth 100000 in
theorem op_26 (B : MB p s m #[Value.ref b] c code 4 RL E) (hl : lv_has ls 4 [(3, .int (nI j)), (2, .ref (E.2.1 + 1076)), (1, .ref (E.2.1 + 0)), (0, .ref b)]) (hP : WP E ρ H) (hS : va_S (hA E) s.heap H locs) (hX : va_X b L xs s s.heap) (hbl : b < s.heap.size) (hbA : ¬ hA E b) (hI : LI ρ) (hj : j + 6 ≤ L) (hL : L ≤ 3072) (kk : ∀ (ρ : Nat → Nat → Int32) (H : Heap) (locs : List Loc), LI ρ → WP E ρ H → va_S (hA E) s.heap H locs → W p l e room_1 s m #[Value.ref b] below meth c H locs 1090 19159 Q (F0 m 1796 ls [])) : W p l e room_1 s m #[Value.ref b] below meth c H locs 1090 19159 Q (F0 m 1172 ls []) := by
  have hx := B.1.1
  have hb := B.1.2.1
  refine lv_aload_n hx hb dL_law_1172 rfl (lv_at hl 2 rfl) ?_
  refine lv_aload_n hx hb dL_law_1173 rfl (lv_at hl 3 rfl) ?_
  refine lv_iload_n hx hb dL_law_1174 rfl (lv_at hl 0 rfl) ?_
  refine lv_iconst (v := 1) hx hb dL_law_1175 (by decide) ?_
  refine lv_iadd hx hb dL_law_1176 ?_
  refine lv_topi (fun z1 ez1 => ?_)
  obtain rfl : z1 = (nI (1 + j)) := ez1.trans (by rw [show (nI j) = nI j from rfl, show 1 = nI 1 from rfl, nI_add] <;> exact congrArg nI (by omega))
  refine sldn (q := (1 + j)) B hX hbl hbA hS hL rfl (by omega) dL_law_1177 ?_
  refine lv_aload_n hx hb dL_law_1178 rfl (lv_at hl 3 rfl) ?_
  refine lv_iload_n hx hb dL_law_1179 rfl (lv_at hl 0 rfl) ?_
  refine lv_iconst (v := 2) hx hb dL_law_1180 (by decide) ?_
  refine lv_iadd hx hb dL_law_1181 ?_
  refine lv_topi (fun z2 ez2 => ?_)
  obtain rfl : z2 = (nI (2 + j)) := ez2.trans (by rw [show (nI j) = nI j from rfl, show 2 = nI 2 from rfl, nI_add] <;> exact congrArg nI (by omega))
  refine sldn (q := (2 + j)) B hX hbl hbA hS hL rfl (by omega) dL_law_1182 ?_
  refine lv_aload_n hx hb dL_law_1183 rfl (lv_at hl 3 rfl) ?_
  refine lv_iload_n hx hb dL_law_1184 rfl (lv_at hl 0 rfl) ?_
  refine lv_iconst (v := 3) hx hb dL_law_1185 (by decide) ?_
  refine lv_iadd hx hb dL_law_1186 ?_
  refine lv_topi (fun z3 ez3 => ?_)
  obtain rfl : z3 = (nI (3 + j)) := ez3.trans (by rw [show (nI j) = nI j from rfl, show 3 = nI 3 from rfl, nI_add] <;> exact congrArg nI (by omega))
  refine sldn (q := (3 + j)) B hX hbl hbA hS hL rfl (by omega) dL_law_1187 ?_
  refine call_i (cVt (k := 0) (av := [.int (xs (1 + j)), .int (xs (2 + j)), .int (xs (3 + j))]) (rest := []) B hP hS (d_X6_hash l E ρ ρ (xs (1 + j)) (xs (2 + j)) (xs (3 + j)) hI.1) lk_RL_123 (hrecv (ci := 6) B hP (by decide) (hcc6 _ _ (show hk 0 = 6 by decide +kernel)) rfl) rfl rfl hl.1 (Nat.le_of_ble_eq_true rfl) ⟨Nat.le_of_ble_eq_true rfl, Nat.le_of_ble_eq_true rfl⟩ ⟨Nat.le_of_ble_eq_true rfl, Nat.le_of_ble_eq_true rfl⟩ dL_law_1188) hS (fun r1 ρ1 H locs q1 hP hS => ?_)
  have hC : CI ρ S0 ρ1 := q1.2
  refine lv_pop hx hb dL_law_1191 rfl ?_
  refine lv_aload_n hx hb dL_law_1192 rfl (lv_at hl 1 rfl) ?_
  refine lv_aload_n hx hb dL_law_1193 rfl (lv_at hl 3 rfl) ?_
  refine lv_iload_n hx hb dL_law_1194 rfl (lv_at hl 0 rfl) ?_
  refine lv_iconst (v := 1) hx hb dL_law_1195 (by decide) ?_
  refine lv_iadd hx hb dL_law_1196 ?_
  refine lv_topi (fun z4 ez4 => ?_)
  obtain rfl : z4 = (nI (1 + j)) := ez4.trans (by rw [show (nI j) = nI j from rfl, show 1 = nI 1 from rfl, nI_add] <;> exact congrArg nI (by omega))
  refine sldn (q := (1 + j)) B hX hbl hbA hS hL rfl (by omega) dL_law_1197 ?_
  refine lv_aload_n hx hb dL_law_1198 rfl (lv_at hl 3 rfl) ?_
  refine lv_iload_n hx hb dL_law_1199 rfl (lv_at hl 0 rfl) ?_
  refine lv_iconst (v := 2) hx hb dL_law_1200 (by decide) ?_
  refine lv_iadd hx hb dL_law_1201 ?_
  refine lv_topi (fun z5 ez5 => ?_)
  obtain rfl : z5 = (nI (2 + j)) := ez5.trans (by rw [show (nI j) = nI j from rfl, show 2 = nI 2 from rfl, nI_add] <;> exact congrArg nI (by omega))
  refine sldn (q := (2 + j)) B hX hbl hbA hS hL rfl (by omega) dL_law_1202 ?_
  refine lv_aload_n hx hb dL_law_1203 rfl (lv_at hl 3 rfl) ?_
  refine lv_iload_n hx hb dL_law_1204 rfl (lv_at hl 0 rfl) ?_
  refine lv_iconst (v := 3) hx hb dL_law_1205 (by decide) ?_
  refine lv_iadd hx hb dL_law_1206 ?_
  refine lv_topi (fun z6 ez6 => ?_)
  obtain rfl : z6 = (nI (3 + j)) := ez6.trans (by rw [show (nI j) = nI j from rfl, show 3 = nI 3 from rfl, nI_add] <;> exact congrArg nI (by omega))
  refine sldn (q := (3 + j)) B hX hbl hbA hS hL rfl (by omega) dL_law_1207 ?_
  have hp1 := PI_cls hI.2 hC
  obtain ⟨M, LL, hG⟩ := hp1.2.1
  refine call_i (cVt (k := 1076) (av := [.int (xs (1 + j)), .int (xs (2 + j)), .int (xs (3 + j))]) (rest := []) B hP hS (d_X7_hash l E ρ1 ρ1 99998 (by decide) M LL X0 (xs (1 + j)) (xs (2 + j)) (xs (3 + j)) ⟨fun _ _ _ => rfl, rfl, hG⟩) lk_RL_126 (hrecv (ci := 7) B hP (by decide) (hcc7 _ _ (show hk 1076 = 7 by decide +kernel)) rfl) rfl rfl hl.1 (Nat.le_of_ble_eq_true rfl) ⟨Nat.le_of_ble_eq_true rfl, Nat.le_of_ble_eq_true rfl⟩ ⟨Nat.le_of_ble_eq_true rfl, Nat.le_of_ble_eq_true rfl⟩ dL_law_1208) hS (fun r2 ρ2 H locs q2 hP hS => ?_)
  have hp : PI ρ1 ρ2 := PI_RI hp1 q2
  refine lv_pop hx hb dL_law_1211 rfl ?_
  refine lv_goto (tgt := 1796) hx hb dL_law_1212 (by decide) ?_
  exact kk ρ2 _ _ (LI_step hC hp) hP hS
set_option maxHeartbeats 4000000 in
set_option maxRecDepth 100000 in
theorem op_27 (B : MB p s m #[Value.ref b] c code 4 RL E) (hl : lv_has ls 4 [(3, .int (nI j)), (2, .ref (E.2.1 + 1076)), (1, .ref (E.2.1 + 0)), (0, .ref b)]) (hP : WP E ρ H) (hS : va_S (hA E) s.heap H locs) (hX : va_X b L xs s s.heap) (hbl : b < s.heap.size) (hbA : ¬ hA E b) (hI : LI ρ) (hj : j + 6 ≤ L) (hL : L ≤ 3072) (kk : ∀ (ρ : Nat → Nat → Int32) (H : Heap) (locs : List Loc), LI ρ → WP E ρ H → va_S (hA E) s.heap H locs → W p l e room_1 s m #[Value.ref b] below meth c H locs 1090 19159 Q (F0 m 1796 ls [])) : W p l e room_1 s m #[Value.ref b] below meth c H locs 1090 19159 Q (F0 m 1215 ls []) := by
  have hx := B.1.1
  have hb := B.1.2.1
  refine lv_aload_n hx hb dL_law_1215 rfl (lv_at hl 2 rfl) ?_
  refine lv_aload_n hx hb dL_law_1216 rfl (lv_at hl 3 rfl) ?_
  refine lv_iload_n hx hb dL_law_1217 rfl (lv_at hl 0 rfl) ?_
  refine lv_iconst (v := 1) hx hb dL_law_1218 (by decide) ?_
  refine lv_iadd hx hb dL_law_1219 ?_
  refine lv_topi (fun z1 ez1 => ?_)
  obtain rfl : z1 = (nI (1 + j)) := ez1.trans (by rw [show (nI j) = nI j from rfl, show 1 = nI 1 from rfl, nI_add] <;> exact congrArg nI (by omega))
  refine sldn (q := (1 + j)) B hX hbl hbA hS hL rfl (by omega) dL_law_1220 ?_
  refine lv_aload_n hx hb dL_law_1221 rfl (lv_at hl 3 rfl) ?_
  refine lv_iload_n hx hb dL_law_1222 rfl (lv_at hl 0 rfl) ?_
  refine lv_iconst (v := 2) hx hb dL_law_1223 (by decide) ?_
  refine lv_iadd hx hb dL_law_1224 ?_
  refine lv_topi (fun z2 ez2 => ?_)
  obtain rfl : z2 = (nI (2 + j)) := ez2.trans (by rw [show (nI j) = nI j from rfl, show 2 = nI 2 from rfl, nI_add] <;> exact congrArg nI (by omega))
  refine sldn (q := (2 + j)) B hX hbl hbA hS hL rfl (by omega) dL_law_1225 ?_
  refine lv_aload_n hx hb dL_law_1226 rfl (lv_at hl 3 rfl) ?_
  refine lv_iload_n hx hb dL_law_1227 rfl (lv_at hl 0 rfl) ?_
  refine lv_iconst (v := 3) hx hb dL_law_1228 (by decide) ?_
  refine lv_iadd hx hb dL_law_1229 ?_
  refine lv_topi (fun z3 ez3 => ?_)
  obtain rfl : z3 = (nI (3 + j)) := ez3.trans (by rw [show (nI j) = nI j from rfl, show 3 = nI 3 from rfl, nI_add] <;> exact congrArg nI (by omega))
  refine sldn (q := (3 + j)) B hX hbl hbA hS hL rfl (by omega) dL_law_1230 ?_
  refine call_i (cVt (k := 0) (av := [.int (xs (1 + j)), .int (xs (2 + j)), .int (xs (3 + j))]) (rest := []) B hP hS (d_X6_reserved l E ρ ρ (xs (1 + j)) (xs (2 + j)) (xs (3 + j)) hI.1) lk_RL_127 (hrecv (ci := 6) B hP (by decide) (hcc6 _ _ (show hk 0 = 6 by decide +kernel)) rfl) rfl rfl hl.1 (Nat.le_of_ble_eq_true rfl) ⟨Nat.le_of_ble_eq_true rfl, Nat.le_of_ble_eq_true rfl⟩ ⟨Nat.le_of_ble_eq_true rfl, Nat.le_of_ble_eq_true rfl⟩ dL_law_1231) hS (fun r1 ρ1 H locs q1 hP hS => ?_)
  have hC : CI ρ S0 ρ1 := q1.2
  refine lv_pop hx hb dL_law_1234 rfl ?_
  refine lv_aload_n hx hb dL_law_1235 rfl (lv_at hl 1 rfl) ?_
  refine lv_aload_n hx hb dL_law_1236 rfl (lv_at hl 3 rfl) ?_
  refine lv_iload_n hx hb dL_law_1237 rfl (lv_at hl 0 rfl) ?_
  refine lv_iconst (v := 1) hx hb dL_law_1238 (by decide) ?_
  refine lv_iadd hx hb dL_law_1239 ?_
  refine lv_topi (fun z4 ez4 => ?_)
  obtain rfl : z4 = (nI (1 + j)) := ez4.trans (by rw [show (nI j) = nI j from rfl, show 1 = nI 1 from rfl, nI_add] <;> exact congrArg nI (by omega))
  refine sldn (q := (1 + j)) B hX hbl hbA hS hL rfl (by omega) dL_law_1240 ?_
  refine lv_aload_n hx hb dL_law_1241 rfl (lv_at hl 3 rfl) ?_
  refine lv_iload_n hx hb dL_law_1242 rfl (lv_at hl 0 rfl) ?_
  refine lv_iconst (v := 2) hx hb dL_law_1243 (by decide) ?_
  refine lv_iadd hx hb dL_law_1244 ?_
  refine lv_topi (fun z5 ez5 => ?_)
  obtain rfl : z5 = (nI (2 + j)) := ez5.trans (by rw [show (nI j) = nI j from rfl, show 2 = nI 2 from rfl, nI_add] <;> exact congrArg nI (by omega))
  refine sldn (q := (2 + j)) B hX hbl hbA hS hL rfl (by omega) dL_law_1245 ?_
  refine lv_aload_n hx hb dL_law_1246 rfl (lv_at hl 3 rfl) ?_
  refine lv_iload_n hx hb dL_law_1247 rfl (lv_at hl 0 rfl) ?_
  refine lv_iconst (v := 3) hx hb dL_law_1248 (by decide) ?_
  refine lv_iadd hx hb dL_law_1249 ?_
  refine lv_topi (fun z6 ez6 => ?_)
  obtain rfl : z6 = (nI (3 + j)) := ez6.trans (by rw [show (nI j) = nI j from rfl, show 3 = nI 3 from rfl, nI_add] <;> exact congrArg nI (by omega))
  refine sldn (q := (3 + j)) B hX hbl hbA hS hL rfl (by omega) dL_law_1250 ?_
  have hp1 := PI_cls hI.2 hC
  obtain ⟨M, LL, hG⟩ := hp1.2.1
  refine call_i (cVt (k := 1076) (av := [.int (xs (1 + j)), .int (xs (2 + j)), .int (xs (3 + j))]) (rest := []) B hP hS (d_X7_reserved l E ρ1 ρ1 99998 (by decide) M LL X0 (xs (1 + j)) (xs (2 + j)) (xs (3 + j)) ⟨fun _ _ _ => rfl, rfl, hG⟩) lk_RL_130 (hrecv (ci := 7) B hP (by decide) (hcc7 _ _ (show hk 1076 = 7 by decide +kernel)) rfl) rfl rfl hl.1 (Nat.le_of_ble_eq_true rfl) ⟨Nat.le_of_ble_eq_true rfl, Nat.le_of_ble_eq_true rfl⟩ ⟨Nat.le_of_ble_eq_true rfl, Nat.le_of_ble_eq_true rfl⟩ dL_law_1251) hS (fun r2 ρ2 H locs q2 hP hS => ?_)
  have hp : PI ρ1 ρ2 := PI_RI hp1 q2
  refine lv_pop hx hb dL_law_1254 rfl ?_
  refine lv_goto (tgt := 1796) hx hb dL_law_1255 (by decide) ?_
  exact kk ρ2 _ _ (LI_step hC hp) hP hS
set_option maxHeartbeats 4000000 in
set_option maxRecDepth 100000 in
theorem op_28 (B : MB p s m #[Value.ref b] c code 4 RL E) (hl : lv_has ls 4 [(3, .int (nI j)), (2, .ref (E.2.1 + 1076)), (1, .ref (E.2.1 + 0)), (0, .ref b)]) (hP : WP E ρ H) (hS : va_S (hA E) s.heap H locs) (hX : va_X b L xs s s.heap) (hbl : b < s.heap.size) (hbA : ¬ hA E b) (hI : LI ρ) (hj : j + 6 ≤ L) (hL : L ≤ 3072) (kk : ∀ (ρ : Nat → Nat → Int32) (H : Heap) (locs : List Loc), LI ρ → WP E ρ H → va_S (hA E) s.heap H locs → W p l e room_1 s m #[Value.ref b] below meth c H locs 1090 19159 Q (F0 m 1796 ls [])) : W p l e room_1 s m #[Value.ref b] below meth c H locs 1090 19159 Q (F0 m 1258 ls []) := by
  have hx := B.1.1
  have hb := B.1.2.1
  refine lv_aload_n hx hb dL_law_1258 rfl (lv_at hl 2 rfl) ?_
  refine lv_aload_n hx hb dL_law_1259 rfl (lv_at hl 3 rfl) ?_
  refine lv_iload_n hx hb dL_law_1260 rfl (lv_at hl 0 rfl) ?_
  refine lv_iconst (v := 1) hx hb dL_law_1261 (by decide) ?_
  refine lv_iadd hx hb dL_law_1262 ?_
  refine lv_topi (fun z1 ez1 => ?_)
  obtain rfl : z1 = (nI (1 + j)) := ez1.trans (by rw [show (nI j) = nI j from rfl, show 1 = nI 1 from rfl, nI_add] <;> exact congrArg nI (by omega))
  refine sldn (q := (1 + j)) B hX hbl hbA hS hL rfl (by omega) dL_law_1263 ?_
  refine lv_aload_n hx hb dL_law_1264 rfl (lv_at hl 3 rfl) ?_
  refine lv_iload_n hx hb dL_law_1265 rfl (lv_at hl 0 rfl) ?_
  refine lv_iconst (v := 2) hx hb dL_law_1266 (by decide) ?_
  refine lv_iadd hx hb dL_law_1267 ?_
  refine lv_topi (fun z2 ez2 => ?_)
  obtain rfl : z2 = (nI (2 + j)) := ez2.trans (by rw [show (nI j) = nI j from rfl, show 2 = nI 2 from rfl, nI_add] <;> exact congrArg nI (by omega))
  refine sldn (q := (2 + j)) B hX hbl hbA hS hL rfl (by omega) dL_law_1268 ?_
  refine lv_aload_n hx hb dL_law_1269 rfl (lv_at hl 3 rfl) ?_
  refine lv_iload_n hx hb dL_law_1270 rfl (lv_at hl 0 rfl) ?_
  refine lv_iconst (v := 3) hx hb dL_law_1271 (by decide) ?_
  refine lv_iadd hx hb dL_law_1272 ?_
  refine lv_topi (fun z3 ez3 => ?_)
  obtain rfl : z3 = (nI (3 + j)) := ez3.trans (by rw [show (nI j) = nI j from rfl, show 3 = nI 3 from rfl, nI_add] <;> exact congrArg nI (by omega))
  refine sldn (q := (3 + j)) B hX hbl hbA hS hL rfl (by omega) dL_law_1273 ?_
  refine call_i (cVt (k := 0) (av := [.int (xs (1 + j)), .int (xs (2 + j)), .int (xs (3 + j))]) (rest := []) B hP hS (d_X6_isThere l E ρ ρ (xs (1 + j)) (xs (2 + j)) (xs (3 + j)) hI.1) lk_RL_131 (hrecv (ci := 6) B hP (by decide) (hcc6 _ _ (show hk 0 = 6 by decide +kernel)) rfl) rfl rfl hl.1 (Nat.le_of_ble_eq_true rfl) ⟨Nat.le_of_ble_eq_true rfl, Nat.le_of_ble_eq_true rfl⟩ ⟨Nat.le_of_ble_eq_true rfl, Nat.le_of_ble_eq_true rfl⟩ dL_law_1274) hS (fun r1 ρ1 H locs q1 hP hS => ?_)
  have hC : CI ρ S0 ρ1 := q1.2
  refine lv_pop hx hb dL_law_1277 rfl ?_
  refine lv_aload_n hx hb dL_law_1278 rfl (lv_at hl 1 rfl) ?_
  refine lv_aload_n hx hb dL_law_1279 rfl (lv_at hl 3 rfl) ?_
  refine lv_iload_n hx hb dL_law_1280 rfl (lv_at hl 0 rfl) ?_
  refine lv_iconst (v := 1) hx hb dL_law_1281 (by decide) ?_
  refine lv_iadd hx hb dL_law_1282 ?_
  refine lv_topi (fun z4 ez4 => ?_)
  obtain rfl : z4 = (nI (1 + j)) := ez4.trans (by rw [show (nI j) = nI j from rfl, show 1 = nI 1 from rfl, nI_add] <;> exact congrArg nI (by omega))
  refine sldn (q := (1 + j)) B hX hbl hbA hS hL rfl (by omega) dL_law_1283 ?_
  refine lv_aload_n hx hb dL_law_1284 rfl (lv_at hl 3 rfl) ?_
  refine lv_iload_n hx hb dL_law_1285 rfl (lv_at hl 0 rfl) ?_
  refine lv_iconst (v := 2) hx hb dL_law_1286 (by decide) ?_
  refine lv_iadd hx hb dL_law_1287 ?_
  refine lv_topi (fun z5 ez5 => ?_)
  obtain rfl : z5 = (nI (2 + j)) := ez5.trans (by rw [show (nI j) = nI j from rfl, show 2 = nI 2 from rfl, nI_add] <;> exact congrArg nI (by omega))
  refine sldn (q := (2 + j)) B hX hbl hbA hS hL rfl (by omega) dL_law_1288 ?_
  refine lv_aload_n hx hb dL_law_1289 rfl (lv_at hl 3 rfl) ?_
  refine lv_iload_n hx hb dL_law_1290 rfl (lv_at hl 0 rfl) ?_
  refine lv_iconst (v := 3) hx hb dL_law_1291 (by decide) ?_
  refine lv_iadd hx hb dL_law_1292 ?_
  refine lv_topi (fun z6 ez6 => ?_)
  obtain rfl : z6 = (nI (3 + j)) := ez6.trans (by rw [show (nI j) = nI j from rfl, show 3 = nI 3 from rfl, nI_add] <;> exact congrArg nI (by omega))
  refine sldn (q := (3 + j)) B hX hbl hbA hS hL rfl (by omega) dL_law_1293 ?_
  have hp1 := PI_cls hI.2 hC
  obtain ⟨M, LL, hG⟩ := hp1.2.1
  refine call_i (cVt (k := 1076) (av := [.int (xs (1 + j)), .int (xs (2 + j)), .int (xs (3 + j))]) (rest := []) B hP hS (d_X7_isThere l E ρ1 ρ1 99998 (by decide) M LL X0 (xs (1 + j)) (xs (2 + j)) (xs (3 + j)) ⟨fun _ _ _ => rfl, rfl, hG⟩) lk_RL_134 (hrecv (ci := 7) B hP (by decide) (hcc7 _ _ (show hk 1076 = 7 by decide +kernel)) rfl) rfl rfl hl.1 (Nat.le_of_ble_eq_true rfl) ⟨Nat.le_of_ble_eq_true rfl, Nat.le_of_ble_eq_true rfl⟩ ⟨Nat.le_of_ble_eq_true rfl, Nat.le_of_ble_eq_true rfl⟩ dL_law_1294) hS (fun r2 ρ2 H locs q2 hP hS => ?_)
  have hp : PI ρ1 ρ2 := PI_RI hp1 q2
  refine lv_pop hx hb dL_law_1297 rfl ?_
  refine lv_goto (tgt := 1796) hx hb dL_law_1298 (by decide) ?_
  exact kk ρ2 _ _ (LI_step hC hp) hP hS
set_option maxHeartbeats 4000000 in
set_option maxRecDepth 100000 in
theorem op_29 (B : MB p s m #[Value.ref b] c code 4 RL E) (hl : lv_has ls 4 [(3, .int (nI j)), (2, .ref (E.2.1 + 1076)), (1, .ref (E.2.1 + 0)), (0, .ref b)]) (hP : WP E ρ H) (hS : va_S (hA E) s.heap H locs) (hX : va_X b L xs s s.heap) (hbl : b < s.heap.size) (hbA : ¬ hA E b) (hI : LI ρ) (hj : j + 6 ≤ L) (hL : L ≤ 3072) (kk : ∀ (ρ : Nat → Nat → Int32) (H : Heap) (locs : List Loc), LI ρ → WP E ρ H → va_S (hA E) s.heap H locs → W p l e room_1 s m #[Value.ref b] below meth c H locs 1090 19159 Q (F0 m 1796 ls [])) : W p l e room_1 s m #[Value.ref b] below meth c H locs 1090 19159 Q (F0 m 1301 ls []) := by
  have hx := B.1.1
  have hb := B.1.2.1
  refine lv_aload_n hx hb dL_law_1301 rfl (lv_at hl 2 rfl) ?_
  refine lv_aload_n hx hb dL_law_1302 rfl (lv_at hl 3 rfl) ?_
  refine lv_iload_n hx hb dL_law_1303 rfl (lv_at hl 0 rfl) ?_
  refine lv_iconst (v := 1) hx hb dL_law_1304 (by decide) ?_
  refine lv_iadd hx hb dL_law_1305 ?_
  refine lv_topi (fun z1 ez1 => ?_)
  obtain rfl : z1 = (nI (1 + j)) := ez1.trans (by rw [show (nI j) = nI j from rfl, show 1 = nI 1 from rfl, nI_add] <;> exact congrArg nI (by omega))
  refine sldn (q := (1 + j)) B hX hbl hbA hS hL rfl (by omega) dL_law_1306 ?_
  refine lv_aload_n hx hb dL_law_1307 rfl (lv_at hl 3 rfl) ?_
  refine lv_iload_n hx hb dL_law_1308 rfl (lv_at hl 0 rfl) ?_
  refine lv_iconst (v := 2) hx hb dL_law_1309 (by decide) ?_
  refine lv_iadd hx hb dL_law_1310 ?_
  refine lv_topi (fun z2 ez2 => ?_)
  obtain rfl : z2 = (nI (2 + j)) := ez2.trans (by rw [show (nI j) = nI j from rfl, show 2 = nI 2 from rfl, nI_add] <;> exact congrArg nI (by omega))
  refine sldn (q := (2 + j)) B hX hbl hbA hS hL rfl (by omega) dL_law_1311 ?_
  refine lv_aload_n hx hb dL_law_1312 rfl (lv_at hl 3 rfl) ?_
  refine lv_iload_n hx hb dL_law_1313 rfl (lv_at hl 0 rfl) ?_
  refine lv_iconst (v := 3) hx hb dL_law_1314 (by decide) ?_
  refine lv_iadd hx hb dL_law_1315 ?_
  refine lv_topi (fun z3 ez3 => ?_)
  obtain rfl : z3 = (nI (3 + j)) := ez3.trans (by rw [show (nI j) = nI j from rfl, show 3 = nI 3 from rfl, nI_add] <;> exact congrArg nI (by omega))
  refine sldn (q := (3 + j)) B hX hbl hbA hS hL rfl (by omega) dL_law_1316 ?_
  refine lv_aload_n hx hb dL_law_1317 rfl (lv_at hl 3 rfl) ?_
  refine lv_iload_n hx hb dL_law_1318 rfl (lv_at hl 0 rfl) ?_
  refine lv_iconst (v := 4) hx hb dL_law_1319 (by decide) ?_
  refine lv_iadd hx hb dL_law_1320 ?_
  refine lv_topi (fun z4 ez4 => ?_)
  obtain rfl : z4 = (nI (4 + j)) := ez4.trans (by rw [show (nI j) = nI j from rfl, show 4 = nI 4 from rfl, nI_add] <;> exact congrArg nI (by omega))
  refine sldn (q := (4 + j)) B hX hbl hbA hS hL rfl (by omega) dL_law_1321 ?_
  refine call_i (cVt (k := 0) (av := [.int (xs (1 + j)), .int (xs (2 + j)), .int (xs (3 + j)), .int (xs (4 + j))]) (rest := []) B hP hS (d_X6_odds l E ρ ρ (xs (1 + j)) (xs (2 + j)) (xs (3 + j)) (xs (4 + j)) hI.1) lk_RL_135 (hrecv (ci := 6) B hP (by decide) (hcc6 _ _ (show hk 0 = 6 by decide +kernel)) rfl) rfl rfl hl.1 (Nat.le_of_ble_eq_true rfl) ⟨Nat.le_of_ble_eq_true rfl, Nat.le_of_ble_eq_true rfl⟩ ⟨Nat.le_of_ble_eq_true rfl, Nat.le_of_ble_eq_true rfl⟩ dL_law_1322) hS (fun r1 ρ1 H locs q1 hP hS => ?_)
  have hC : CI ρ S0 ρ1 := q1.2
  refine lv_pop hx hb dL_law_1325 rfl ?_
  refine lv_aload_n hx hb dL_law_1326 rfl (lv_at hl 1 rfl) ?_
  refine lv_aload_n hx hb dL_law_1327 rfl (lv_at hl 3 rfl) ?_
  refine lv_iload_n hx hb dL_law_1328 rfl (lv_at hl 0 rfl) ?_
  refine lv_iconst (v := 1) hx hb dL_law_1329 (by decide) ?_
  refine lv_iadd hx hb dL_law_1330 ?_
  refine lv_topi (fun z5 ez5 => ?_)
  obtain rfl : z5 = (nI (1 + j)) := ez5.trans (by rw [show (nI j) = nI j from rfl, show 1 = nI 1 from rfl, nI_add] <;> exact congrArg nI (by omega))
  refine sldn (q := (1 + j)) B hX hbl hbA hS hL rfl (by omega) dL_law_1331 ?_
  refine lv_aload_n hx hb dL_law_1332 rfl (lv_at hl 3 rfl) ?_
  refine lv_iload_n hx hb dL_law_1333 rfl (lv_at hl 0 rfl) ?_
  refine lv_iconst (v := 2) hx hb dL_law_1334 (by decide) ?_
  refine lv_iadd hx hb dL_law_1335 ?_
  refine lv_topi (fun z6 ez6 => ?_)
  obtain rfl : z6 = (nI (2 + j)) := ez6.trans (by rw [show (nI j) = nI j from rfl, show 2 = nI 2 from rfl, nI_add] <;> exact congrArg nI (by omega))
  refine sldn (q := (2 + j)) B hX hbl hbA hS hL rfl (by omega) dL_law_1336 ?_
  refine lv_aload_n hx hb dL_law_1337 rfl (lv_at hl 3 rfl) ?_
  refine lv_iload_n hx hb dL_law_1338 rfl (lv_at hl 0 rfl) ?_
  refine lv_iconst (v := 3) hx hb dL_law_1339 (by decide) ?_
  refine lv_iadd hx hb dL_law_1340 ?_
  refine lv_topi (fun z7 ez7 => ?_)
  obtain rfl : z7 = (nI (3 + j)) := ez7.trans (by rw [show (nI j) = nI j from rfl, show 3 = nI 3 from rfl, nI_add] <;> exact congrArg nI (by omega))
  refine sldn (q := (3 + j)) B hX hbl hbA hS hL rfl (by omega) dL_law_1341 ?_
  refine lv_aload_n hx hb dL_law_1342 rfl (lv_at hl 3 rfl) ?_
  refine lv_iload_n hx hb dL_law_1343 rfl (lv_at hl 0 rfl) ?_
  refine lv_iconst (v := 4) hx hb dL_law_1344 (by decide) ?_
  refine lv_iadd hx hb dL_law_1345 ?_
  refine lv_topi (fun z8 ez8 => ?_)
  obtain rfl : z8 = (nI (4 + j)) := ez8.trans (by rw [show (nI j) = nI j from rfl, show 4 = nI 4 from rfl, nI_add] <;> exact congrArg nI (by omega))
  refine sldn (q := (4 + j)) B hX hbl hbA hS hL rfl (by omega) dL_law_1346 ?_
  have hp1 := PI_cls hI.2 hC
  obtain ⟨M, LL, hG⟩ := hp1.2.1
  refine call_i (cVt (k := 1076) (av := [.int (xs (1 + j)), .int (xs (2 + j)), .int (xs (3 + j)), .int (xs (4 + j))]) (rest := []) B hP hS (d_X7_odds l E ρ1 ρ1 99998 (by decide) M LL X0 (xs (1 + j)) (xs (2 + j)) (xs (3 + j)) (xs (4 + j)) ⟨fun _ _ _ => rfl, rfl, hG⟩) lk_RL_138 (hrecv (ci := 7) B hP (by decide) (hcc7 _ _ (show hk 1076 = 7 by decide +kernel)) rfl) rfl rfl hl.1 (Nat.le_of_ble_eq_true rfl) ⟨Nat.le_of_ble_eq_true rfl, Nat.le_of_ble_eq_true rfl⟩ ⟨Nat.le_of_ble_eq_true rfl, Nat.le_of_ble_eq_true rfl⟩ dL_law_1347) hS (fun r2 ρ2 H locs q2 hP hS => ?_)
  have hp : PI ρ1 ρ2 := PI_RI hp1 q2
  refine lv_pop hx hb dL_law_1350 rfl ?_
  refine lv_goto (tgt := 1796) hx hb dL_law_1351 (by decide) ?_
  exact kk ρ2 _ _ (LI_step hC hp) hP hS
set_option maxHeartbeats 4000000 in
set_option maxRecDepth 100000 in
theorem op_30 (B : MB p s m #[Value.ref b] c code 4 RL E) (hl : lv_has ls 4 [(3, .int (nI j)), (2, .ref (E.2.1 + 1076)), (1, .ref (E.2.1 + 0)), (0, .ref b)]) (hP : WP E ρ H) (hS : va_S (hA E) s.heap H locs) (hX : va_X b L xs s s.heap) (hbl : b < s.heap.size) (hbA : ¬ hA E b) (hI : LI ρ) (hj : j + 6 ≤ L) (hL : L ≤ 3072) (kk : ∀ (ρ : Nat → Nat → Int32) (H : Heap) (locs : List Loc), LI ρ → WP E ρ H → va_S (hA E) s.heap H locs → W p l e room_1 s m #[Value.ref b] below meth c H locs 1090 19159 Q (F0 m 1796 ls [])) : W p l e room_1 s m #[Value.ref b] below meth c H locs 1090 19159 Q (F0 m 1354 ls []) := by
  have hx := B.1.1
  have hb := B.1.2.1
  refine lv_aload_n hx hb dL_law_1354 rfl (lv_at hl 2 rfl) ?_
  refine lv_aload_n hx hb dL_law_1355 rfl (lv_at hl 3 rfl) ?_
  refine lv_iload_n hx hb dL_law_1356 rfl (lv_at hl 0 rfl) ?_
  refine lv_iconst (v := 1) hx hb dL_law_1357 (by decide) ?_
  refine lv_iadd hx hb dL_law_1358 ?_
  refine lv_topi (fun z1 ez1 => ?_)
  obtain rfl : z1 = (nI (1 + j)) := ez1.trans (by rw [show (nI j) = nI j from rfl, show 1 = nI 1 from rfl, nI_add] <;> exact congrArg nI (by omega))
  refine sldn (q := (1 + j)) B hX hbl hbA hS hL rfl (by omega) dL_law_1359 ?_
  refine call_i (cVt (k := 0) (av := [.int (xs (1 + j))]) (rest := []) B hP hS (d_X6_clashes l E ρ ρ (xs (1 + j)) hI.1) lk_RL_139 (hrecv (ci := 6) B hP (by decide) (hcc6 _ _ (show hk 0 = 6 by decide +kernel)) rfl) rfl rfl hl.1 (Nat.le_of_ble_eq_true rfl) ⟨Nat.le_of_ble_eq_true rfl, Nat.le_of_ble_eq_true rfl⟩ ⟨Nat.le_of_ble_eq_true rfl, Nat.le_of_ble_eq_true rfl⟩ dL_law_1360) hS (fun r1 ρ1 H locs q1 hP hS => ?_)
  have hC : CI ρ S0 ρ1 := q1.2
  refine lv_pop hx hb dL_law_1363 rfl ?_
  refine lv_aload_n hx hb dL_law_1364 rfl (lv_at hl 1 rfl) ?_
  refine lv_aload_n hx hb dL_law_1365 rfl (lv_at hl 3 rfl) ?_
  refine lv_iload_n hx hb dL_law_1366 rfl (lv_at hl 0 rfl) ?_
  refine lv_iconst (v := 1) hx hb dL_law_1367 (by decide) ?_
  refine lv_iadd hx hb dL_law_1368 ?_
  refine lv_topi (fun z2 ez2 => ?_)
  obtain rfl : z2 = (nI (1 + j)) := ez2.trans (by rw [show (nI j) = nI j from rfl, show 1 = nI 1 from rfl, nI_add] <;> exact congrArg nI (by omega))
  refine sldn (q := (1 + j)) B hX hbl hbA hS hL rfl (by omega) dL_law_1369 ?_
  have hp1 := PI_cls hI.2 hC
  obtain ⟨M, LL, hG⟩ := hp1.2.1
  refine call_i (cVt (k := 1076) (av := [.int (xs (1 + j))]) (rest := []) B hP hS (d_X7_clashes l E ρ1 ρ1 99998 (by decide) M LL X0 (xs (1 + j)) ⟨fun _ _ _ => rfl, rfl, hG⟩) lk_RL_142 (hrecv (ci := 7) B hP (by decide) (hcc7 _ _ (show hk 1076 = 7 by decide +kernel)) rfl) rfl rfl hl.1 (Nat.le_of_ble_eq_true rfl) ⟨Nat.le_of_ble_eq_true rfl, Nat.le_of_ble_eq_true rfl⟩ ⟨Nat.le_of_ble_eq_true rfl, Nat.le_of_ble_eq_true rfl⟩ dL_law_1370) hS (fun r2 ρ2 H locs q2 hP hS => ?_)
  have hp : PI ρ1 ρ2 := PI_RI hp1 q2
  refine lv_pop hx hb dL_law_1373 rfl ?_
  refine lv_goto (tgt := 1796) hx hb dL_law_1374 (by decide) ?_
  exact kk ρ2 _ _ (LI_step hC hp) hP hS
set_option maxHeartbeats 4000000 in
set_option maxRecDepth 100000 in
theorem op_31 (B : MB p s m #[Value.ref b] c code 4 RL E) (hl : lv_has ls 4 [(3, .int (nI j)), (2, .ref (E.2.1 + 1076)), (1, .ref (E.2.1 + 0)), (0, .ref b)]) (hP : WP E ρ H) (hS : va_S (hA E) s.heap H locs) (hX : va_X b L xs s s.heap) (hbl : b < s.heap.size) (hbA : ¬ hA E b) (hI : LI ρ) (hj : j + 6 ≤ L) (hL : L ≤ 3072) (kk : ∀ (ρ : Nat → Nat → Int32) (H : Heap) (locs : List Loc), LI ρ → WP E ρ H → va_S (hA E) s.heap H locs → W p l e room_1 s m #[Value.ref b] below meth c H locs 1090 19159 Q (F0 m 1796 ls [])) : W p l e room_1 s m #[Value.ref b] below meth c H locs 1090 19159 Q (F0 m 1377 ls []) := by
  have hx := B.1.1
  have hb := B.1.2.1
  refine lv_aload_n hx hb dL_law_1377 rfl (lv_at hl 2 rfl) ?_
  refine lv_aload_n hx hb dL_law_1378 rfl (lv_at hl 3 rfl) ?_
  refine lv_iload_n hx hb dL_law_1379 rfl (lv_at hl 0 rfl) ?_
  refine lv_iconst (v := 1) hx hb dL_law_1380 (by decide) ?_
  refine lv_iadd hx hb dL_law_1381 ?_
  refine lv_topi (fun z1 ez1 => ?_)
  obtain rfl : z1 = (nI (1 + j)) := ez1.trans (by rw [show (nI j) = nI j from rfl, show 1 = nI 1 from rfl, nI_add] <;> exact congrArg nI (by omega))
  refine sldn (q := (1 + j)) B hX hbl hbA hS hL rfl (by omega) dL_law_1382 ?_
  refine call_i (cVt (k := 0) (av := [.int (xs (1 + j))]) (rest := []) B hP hS (d_X6_bestOffset l E ρ ρ (xs (1 + j)) hI.1) lk_RL_143 (hrecv (ci := 6) B hP (by decide) (hcc6 _ _ (show hk 0 = 6 by decide +kernel)) rfl) rfl rfl hl.1 (Nat.le_of_ble_eq_true rfl) ⟨Nat.le_of_ble_eq_true rfl, Nat.le_of_ble_eq_true rfl⟩ ⟨Nat.le_of_ble_eq_true rfl, Nat.le_of_ble_eq_true rfl⟩ dL_law_1383) hS (fun r1 ρ1 H locs q1 hP hS => ?_)
  have hC : CI ρ S0 ρ1 := q1
  refine lv_pop hx hb dL_law_1386 rfl ?_
  refine lv_aload_n hx hb dL_law_1387 rfl (lv_at hl 1 rfl) ?_
  refine lv_aload_n hx hb dL_law_1388 rfl (lv_at hl 3 rfl) ?_
  refine lv_iload_n hx hb dL_law_1389 rfl (lv_at hl 0 rfl) ?_
  refine lv_iconst (v := 1) hx hb dL_law_1390 (by decide) ?_
  refine lv_iadd hx hb dL_law_1391 ?_
  refine lv_topi (fun z2 ez2 => ?_)
  obtain rfl : z2 = (nI (1 + j)) := ez2.trans (by rw [show (nI j) = nI j from rfl, show 1 = nI 1 from rfl, nI_add] <;> exact congrArg nI (by omega))
  refine sldn (q := (1 + j)) B hX hbl hbA hS hL rfl (by omega) dL_law_1392 ?_
  have hp1 := PI_cls hI.2 hC
  obtain ⟨M, LL, hG⟩ := hp1.2.1
  refine call_i (cVt (k := 1076) (av := [.int (xs (1 + j))]) (rest := []) B hP hS (d_X7_bestOffset l E ρ1 ρ1 99998 (by decide) M LL X0 (xs (1 + j)) ⟨fun _ _ _ => rfl, rfl, hG⟩) lk_RL_146 (hrecv (ci := 7) B hP (by decide) (hcc7 _ _ (show hk 1076 = 7 by decide +kernel)) rfl) rfl rfl hl.1 (Nat.le_of_ble_eq_true rfl) ⟨Nat.le_of_ble_eq_true rfl, Nat.le_of_ble_eq_true rfl⟩ ⟨Nat.le_of_ble_eq_true rfl, Nat.le_of_ble_eq_true rfl⟩ dL_law_1393) hS (fun r2 ρ2 H locs q2 hP hS => ?_)
  have hp : PI ρ1 ρ2 := PI_RI hp1 q2
  refine lv_pop hx hb dL_law_1396 rfl ?_
  refine lv_goto (tgt := 1796) hx hb dL_law_1397 (by decide) ?_
  exact kk ρ2 _ _ (LI_step hC hp) hP hS
set_option maxHeartbeats 4000000 in
set_option maxRecDepth 100000 in
theorem op_32 (B : MB p s m #[Value.ref b] c code 4 RL E) (hl : lv_has ls 4 [(3, .int (nI j)), (2, .ref (E.2.1 + 1076)), (1, .ref (E.2.1 + 0)), (0, .ref b)]) (hP : WP E ρ H) (hS : va_S (hA E) s.heap H locs) (hX : va_X b L xs s s.heap) (hbl : b < s.heap.size) (hbA : ¬ hA E b) (hI : LI ρ) (hj : j + 6 ≤ L) (hL : L ≤ 3072) (kk : ∀ (ρ : Nat → Nat → Int32) (H : Heap) (locs : List Loc), LI ρ → WP E ρ H → va_S (hA E) s.heap H locs → W p l e room_1 s m #[Value.ref b] below meth c H locs 1090 19159 Q (F0 m 1796 ls [])) : W p l e room_1 s m #[Value.ref b] below meth c H locs 1090 19159 Q (F0 m 1400 ls []) := by
  have hx := B.1.1
  have hb := B.1.2.1
  refine lv_aload_n hx hb dL_law_1400 rfl (lv_at hl 2 rfl) ?_
  refine lv_aload_n hx hb dL_law_1401 rfl (lv_at hl 3 rfl) ?_
  refine lv_iload_n hx hb dL_law_1402 rfl (lv_at hl 0 rfl) ?_
  refine lv_iconst (v := 1) hx hb dL_law_1403 (by decide) ?_
  refine lv_iadd hx hb dL_law_1404 ?_
  refine lv_topi (fun z1 ez1 => ?_)
  obtain rfl : z1 = (nI (1 + j)) := ez1.trans (by rw [show (nI j) = nI j from rfl, show 1 = nI 1 from rfl, nI_add] <;> exact congrArg nI (by omega))
  refine sldn (q := (1 + j)) B hX hbl hbA hS hL rfl (by omega) dL_law_1405 ?_
  refine lv_aload_n hx hb dL_law_1406 rfl (lv_at hl 3 rfl) ?_
  refine lv_iload_n hx hb dL_law_1407 rfl (lv_at hl 0 rfl) ?_
  refine lv_iconst (v := 2) hx hb dL_law_1408 (by decide) ?_
  refine lv_iadd hx hb dL_law_1409 ?_
  refine lv_topi (fun z2 ez2 => ?_)
  obtain rfl : z2 = (nI (2 + j)) := ez2.trans (by rw [show (nI j) = nI j from rfl, show 2 = nI 2 from rfl, nI_add] <;> exact congrArg nI (by omega))
  refine sldn (q := (2 + j)) B hX hbl hbA hS hL rfl (by omega) dL_law_1410 ?_
  refine call_i (cVt (k := 0) (av := [.int (xs (1 + j)), .int (xs (2 + j))]) (rest := []) B hP hS (d_X6_drain l E ρ ρ (xs (1 + j)) (xs (2 + j)) hI.1) lk_RL_147 (hrecv (ci := 6) B hP (by decide) (hcc6 _ _ (show hk 0 = 6 by decide +kernel)) rfl) rfl rfl hl.1 (Nat.le_of_ble_eq_true rfl) ⟨Nat.le_of_ble_eq_true rfl, Nat.le_of_ble_eq_true rfl⟩ ⟨Nat.le_of_ble_eq_true rfl, Nat.le_of_ble_eq_true rfl⟩ dL_law_1411) hS (fun r1 ρ1 H locs q1 hP hS => ?_)
  have hC : CI ρ S0 ρ1 := q1
  refine lv_pop hx hb dL_law_1414 rfl ?_
  refine lv_aload_n hx hb dL_law_1415 rfl (lv_at hl 1 rfl) ?_
  refine lv_aload_n hx hb dL_law_1416 rfl (lv_at hl 3 rfl) ?_
  refine lv_iload_n hx hb dL_law_1417 rfl (lv_at hl 0 rfl) ?_
  refine lv_iconst (v := 1) hx hb dL_law_1418 (by decide) ?_
  refine lv_iadd hx hb dL_law_1419 ?_
  refine lv_topi (fun z3 ez3 => ?_)
  obtain rfl : z3 = (nI (1 + j)) := ez3.trans (by rw [show (nI j) = nI j from rfl, show 1 = nI 1 from rfl, nI_add] <;> exact congrArg nI (by omega))
  refine sldn (q := (1 + j)) B hX hbl hbA hS hL rfl (by omega) dL_law_1420 ?_
  refine lv_aload_n hx hb dL_law_1421 rfl (lv_at hl 3 rfl) ?_
  refine lv_iload_n hx hb dL_law_1422 rfl (lv_at hl 0 rfl) ?_
  refine lv_iconst (v := 2) hx hb dL_law_1423 (by decide) ?_
  refine lv_iadd hx hb dL_law_1424 ?_
  refine lv_topi (fun z4 ez4 => ?_)
  obtain rfl : z4 = (nI (2 + j)) := ez4.trans (by rw [show (nI j) = nI j from rfl, show 2 = nI 2 from rfl, nI_add] <;> exact congrArg nI (by omega))
  refine sldn (q := (2 + j)) B hX hbl hbA hS hL rfl (by omega) dL_law_1425 ?_
  have hp1 := PI_cls hI.2 hC
  obtain ⟨M, LL, hG⟩ := hp1.2.1
  refine call_i (cVt (k := 1076) (av := [.int (xs (1 + j)), .int (xs (2 + j))]) (rest := []) B hP hS (d_X7_drain l E ρ1 ρ1 M LL ⟨hp1, hG⟩ (xs (1 + j)) (xs (2 + j))) lk_RL_150 (hrecv (ci := 7) B hP (by decide) (hcc7 _ _ (show hk 1076 = 7 by decide +kernel)) rfl) rfl rfl hl.1 (Nat.le_of_ble_eq_true rfl) ⟨Nat.le_of_ble_eq_true rfl, Nat.le_of_ble_eq_true rfl⟩ ⟨Nat.le_of_ble_eq_true rfl, Nat.le_of_ble_eq_true rfl⟩ dL_law_1426) hS (fun r2 ρ2 H locs q2 hP hS => ?_)
  have hp : PI ρ1 ρ2 := q2.1
  refine lv_pop hx hb dL_law_1429 rfl ?_
  refine lv_goto (tgt := 1796) hx hb dL_law_1430 (by decide) ?_
  exact kk ρ2 _ _ (LI_step hC hp) hP hS
set_option maxHeartbeats 4000000 in
set_option maxRecDepth 100000 in
theorem op_33 (B : MB p s m #[Value.ref b] c code 4 RL E) (hl : lv_has ls 4 [(3, .int (nI j)), (2, .ref (E.2.1 + 1076)), (1, .ref (E.2.1 + 0)), (0, .ref b)]) (hP : WP E ρ H) (hS : va_S (hA E) s.heap H locs) (hX : va_X b L xs s s.heap) (hbl : b < s.heap.size) (hbA : ¬ hA E b) (hI : LI ρ) (hj : j + 6 ≤ L) (hL : L ≤ 3072) (kk : ∀ (ρ : Nat → Nat → Int32) (H : Heap) (locs : List Loc), LI ρ → WP E ρ H → va_S (hA E) s.heap H locs → W p l e room_1 s m #[Value.ref b] below meth c H locs 1090 19159 Q (F0 m 1796 ls [])) : W p l e room_1 s m #[Value.ref b] below meth c H locs 1090 19159 Q (F0 m 1433 ls []) := by
  have hx := B.1.1
  have hb := B.1.2.1
  refine lv_aload_n hx hb dL_law_1433 rfl (lv_at hl 2 rfl) ?_
  refine lv_aload_n hx hb dL_law_1434 rfl (lv_at hl 3 rfl) ?_
  refine lv_iload_n hx hb dL_law_1435 rfl (lv_at hl 0 rfl) ?_
  refine lv_iconst (v := 1) hx hb dL_law_1436 (by decide) ?_
  refine lv_iadd hx hb dL_law_1437 ?_
  refine lv_topi (fun z1 ez1 => ?_)
  obtain rfl : z1 = (nI (1 + j)) := ez1.trans (by rw [show (nI j) = nI j from rfl, show 1 = nI 1 from rfl, nI_add] <;> exact congrArg nI (by omega))
  refine sldn (q := (1 + j)) B hX hbl hbA hS hL rfl (by omega) dL_law_1438 ?_
  refine lv_aload_n hx hb dL_law_1439 rfl (lv_at hl 3 rfl) ?_
  refine lv_iload_n hx hb dL_law_1440 rfl (lv_at hl 0 rfl) ?_
  refine lv_iconst (v := 2) hx hb dL_law_1441 (by decide) ?_
  refine lv_iadd hx hb dL_law_1442 ?_
  refine lv_topi (fun z2 ez2 => ?_)
  obtain rfl : z2 = (nI (2 + j)) := ez2.trans (by rw [show (nI j) = nI j from rfl, show 2 = nI 2 from rfl, nI_add] <;> exact congrArg nI (by omega))
  refine sldn (q := (2 + j)) B hX hbl hbA hS hL rfl (by omega) dL_law_1443 ?_
  refine lv_aload_n hx hb dL_law_1444 rfl (lv_at hl 3 rfl) ?_
  refine lv_iload_n hx hb dL_law_1445 rfl (lv_at hl 0 rfl) ?_
  refine lv_iconst (v := 3) hx hb dL_law_1446 (by decide) ?_
  refine lv_iadd hx hb dL_law_1447 ?_
  refine lv_topi (fun z3 ez3 => ?_)
  obtain rfl : z3 = (nI (3 + j)) := ez3.trans (by rw [show (nI j) = nI j from rfl, show 3 = nI 3 from rfl, nI_add] <;> exact congrArg nI (by omega))
  refine sldn (q := (3 + j)) B hX hbl hbA hS hL rfl (by omega) dL_law_1448 ?_
  refine call_i (cVt (k := 0) (av := [.int (xs (1 + j)), .int (xs (2 + j)), .int (xs (3 + j))]) (rest := []) B hP hS (d_X6_would l E ρ ρ (xs (1 + j)) (xs (2 + j)) (xs (3 + j)) hI.1) lk_RL_151 (hrecv (ci := 6) B hP (by decide) (hcc6 _ _ (show hk 0 = 6 by decide +kernel)) rfl) rfl rfl hl.1 (Nat.le_of_ble_eq_true rfl) ⟨Nat.le_of_ble_eq_true rfl, Nat.le_of_ble_eq_true rfl⟩ ⟨Nat.le_of_ble_eq_true rfl, Nat.le_of_ble_eq_true rfl⟩ dL_law_1449) hS (fun r1 ρ1 H locs q1 hP hS => ?_)
  have hC : CI ρ S0 ρ1 := q1
  refine lv_pop hx hb dL_law_1452 rfl ?_
  refine lv_aload_n hx hb dL_law_1453 rfl (lv_at hl 1 rfl) ?_
  refine lv_aload_n hx hb dL_law_1454 rfl (lv_at hl 3 rfl) ?_
  refine lv_iload_n hx hb dL_law_1455 rfl (lv_at hl 0 rfl) ?_
  refine lv_iconst (v := 1) hx hb dL_law_1456 (by decide) ?_
  refine lv_iadd hx hb dL_law_1457 ?_
  refine lv_topi (fun z4 ez4 => ?_)
  obtain rfl : z4 = (nI (1 + j)) := ez4.trans (by rw [show (nI j) = nI j from rfl, show 1 = nI 1 from rfl, nI_add] <;> exact congrArg nI (by omega))
  refine sldn (q := (1 + j)) B hX hbl hbA hS hL rfl (by omega) dL_law_1458 ?_
  refine lv_aload_n hx hb dL_law_1459 rfl (lv_at hl 3 rfl) ?_
  refine lv_iload_n hx hb dL_law_1460 rfl (lv_at hl 0 rfl) ?_
  refine lv_iconst (v := 2) hx hb dL_law_1461 (by decide) ?_
  refine lv_iadd hx hb dL_law_1462 ?_
  refine lv_topi (fun z5 ez5 => ?_)
  obtain rfl : z5 = (nI (2 + j)) := ez5.trans (by rw [show (nI j) = nI j from rfl, show 2 = nI 2 from rfl, nI_add] <;> exact congrArg nI (by omega))
  refine sldn (q := (2 + j)) B hX hbl hbA hS hL rfl (by omega) dL_law_1463 ?_
  refine lv_aload_n hx hb dL_law_1464 rfl (lv_at hl 3 rfl) ?_
  refine lv_iload_n hx hb dL_law_1465 rfl (lv_at hl 0 rfl) ?_
  refine lv_iconst (v := 3) hx hb dL_law_1466 (by decide) ?_
  refine lv_iadd hx hb dL_law_1467 ?_
  refine lv_topi (fun z6 ez6 => ?_)
  obtain rfl : z6 = (nI (3 + j)) := ez6.trans (by rw [show (nI j) = nI j from rfl, show 3 = nI 3 from rfl, nI_add] <;> exact congrArg nI (by omega))
  refine sldn (q := (3 + j)) B hX hbl hbA hS hL rfl (by omega) dL_law_1468 ?_
  have hp1 := PI_cls hI.2 hC
  obtain ⟨M, LL, hG⟩ := hp1.2.1
  refine call_i (cVt (k := 1076) (av := [.int (xs (1 + j)), .int (xs (2 + j)), .int (xs (3 + j))]) (rest := []) B hP hS (d_X7_would l E ρ1 ρ1 M LL ⟨hp1, hG⟩ (xs (1 + j)) (xs (2 + j)) (xs (3 + j))) lk_RL_154 (hrecv (ci := 7) B hP (by decide) (hcc7 _ _ (show hk 1076 = 7 by decide +kernel)) rfl) rfl rfl hl.1 (Nat.le_of_ble_eq_true rfl) ⟨Nat.le_of_ble_eq_true rfl, Nat.le_of_ble_eq_true rfl⟩ ⟨Nat.le_of_ble_eq_true rfl, Nat.le_of_ble_eq_true rfl⟩ dL_law_1469) hS (fun r2 ρ2 H locs q2 hP hS => ?_)
  have hp : PI ρ1 ρ2 := q2.1
  refine lv_pop hx hb dL_law_1472 rfl ?_
  refine lv_goto (tgt := 1796) hx hb dL_law_1473 (by decide) ?_
  exact kk ρ2 _ _ (LI_step hC hp) hP hS
set_option maxHeartbeats 4000000 in
set_option maxRecDepth 100000 in
theorem op_34 (B : MB p s m #[Value.ref b] c code 4 RL E) (hl : lv_has ls 4 [(3, .int (nI j)), (2, .ref (E.2.1 + 1076)), (1, .ref (E.2.1 + 0)), (0, .ref b)]) (hP : WP E ρ H) (hS : va_S (hA E) s.heap H locs) (hX : va_X b L xs s s.heap) (hbl : b < s.heap.size) (hbA : ¬ hA E b) (hI : LI ρ) (hj : j + 6 ≤ L) (hL : L ≤ 3072) (kk : ∀ (ρ : Nat → Nat → Int32) (H : Heap) (locs : List Loc), LI ρ → WP E ρ H → va_S (hA E) s.heap H locs → W p l e room_1 s m #[Value.ref b] below meth c H locs 1090 19159 Q (F0 m 1796 ls [])) : W p l e room_1 s m #[Value.ref b] below meth c H locs 1090 19159 Q (F0 m 1476 ls []) := by
  have hx := B.1.1
  have hb := B.1.2.1
  refine lv_aload_n hx hb dL_law_1476 rfl (lv_at hl 2 rfl) ?_
  refine lv_aload_n hx hb dL_law_1477 rfl (lv_at hl 3 rfl) ?_
  refine lv_iload_n hx hb dL_law_1478 rfl (lv_at hl 0 rfl) ?_
  refine lv_iconst (v := 1) hx hb dL_law_1479 (by decide) ?_
  refine lv_iadd hx hb dL_law_1480 ?_
  refine lv_topi (fun z1 ez1 => ?_)
  obtain rfl : z1 = (nI (1 + j)) := ez1.trans (by rw [show (nI j) = nI j from rfl, show 1 = nI 1 from rfl, nI_add] <;> exact congrArg nI (by omega))
  refine sldn (q := (1 + j)) B hX hbl hbA hS hL rfl (by omega) dL_law_1481 ?_
  refine lv_aload_n hx hb dL_law_1482 rfl (lv_at hl 3 rfl) ?_
  refine lv_iload_n hx hb dL_law_1483 rfl (lv_at hl 0 rfl) ?_
  refine lv_iconst (v := 2) hx hb dL_law_1484 (by decide) ?_
  refine lv_iadd hx hb dL_law_1485 ?_
  refine lv_topi (fun z2 ez2 => ?_)
  obtain rfl : z2 = (nI (2 + j)) := ez2.trans (by rw [show (nI j) = nI j from rfl, show 2 = nI 2 from rfl, nI_add] <;> exact congrArg nI (by omega))
  refine sldn (q := (2 + j)) B hX hbl hbA hS hL rfl (by omega) dL_law_1486 ?_
  refine call_i (cVt (k := 0) (av := [.int (xs (1 + j)), .int (xs (2 + j))]) (rest := []) B hP hS (d_X6_ready l E ρ ρ (xs (1 + j)) (xs (2 + j)) hI.1) lk_RL_155 (hrecv (ci := 6) B hP (by decide) (hcc6 _ _ (show hk 0 = 6 by decide +kernel)) rfl) rfl rfl hl.1 (Nat.le_of_ble_eq_true rfl) ⟨Nat.le_of_ble_eq_true rfl, Nat.le_of_ble_eq_true rfl⟩ ⟨Nat.le_of_ble_eq_true rfl, Nat.le_of_ble_eq_true rfl⟩ dL_law_1487) hS (fun r1 ρ1 H locs q1 hP hS => ?_)
  have hC : CI ρ S0 ρ1 := q1.2
  refine lv_pop hx hb dL_law_1490 rfl ?_
  refine lv_aload_n hx hb dL_law_1491 rfl (lv_at hl 1 rfl) ?_
  refine lv_aload_n hx hb dL_law_1492 rfl (lv_at hl 3 rfl) ?_
  refine lv_iload_n hx hb dL_law_1493 rfl (lv_at hl 0 rfl) ?_
  refine lv_iconst (v := 1) hx hb dL_law_1494 (by decide) ?_
  refine lv_iadd hx hb dL_law_1495 ?_
  refine lv_topi (fun z3 ez3 => ?_)
  obtain rfl : z3 = (nI (1 + j)) := ez3.trans (by rw [show (nI j) = nI j from rfl, show 1 = nI 1 from rfl, nI_add] <;> exact congrArg nI (by omega))
  refine sldn (q := (1 + j)) B hX hbl hbA hS hL rfl (by omega) dL_law_1496 ?_
  refine lv_aload_n hx hb dL_law_1497 rfl (lv_at hl 3 rfl) ?_
  refine lv_iload_n hx hb dL_law_1498 rfl (lv_at hl 0 rfl) ?_
  refine lv_iconst (v := 2) hx hb dL_law_1499 (by decide) ?_
  refine lv_iadd hx hb dL_law_1500 ?_
  refine lv_topi (fun z4 ez4 => ?_)
  obtain rfl : z4 = (nI (2 + j)) := ez4.trans (by rw [show (nI j) = nI j from rfl, show 2 = nI 2 from rfl, nI_add] <;> exact congrArg nI (by omega))
  refine sldn (q := (2 + j)) B hX hbl hbA hS hL rfl (by omega) dL_law_1501 ?_
  have hp1 := PI_cls hI.2 hC
  obtain ⟨M, LL, hG⟩ := hp1.2.1
  refine call_i (cVt (k := 1076) (av := [.int (xs (1 + j)), .int (xs (2 + j))]) (rest := []) B hP hS (d_X7_ready l E ρ1 ρ1 99998 (by decide) M LL X0 (xs (1 + j)) (xs (2 + j)) ⟨fun _ _ _ => rfl, rfl, hG⟩) lk_RL_158 (hrecv (ci := 7) B hP (by decide) (hcc7 _ _ (show hk 1076 = 7 by decide +kernel)) rfl) rfl rfl hl.1 (Nat.le_of_ble_eq_true rfl) ⟨Nat.le_of_ble_eq_true rfl, Nat.le_of_ble_eq_true rfl⟩ ⟨Nat.le_of_ble_eq_true rfl, Nat.le_of_ble_eq_true rfl⟩ dL_law_1502) hS (fun r2 ρ2 H locs q2 hP hS => ?_)
  have hp : PI ρ1 ρ2 := PI_RI hp1 q2
  refine lv_pop hx hb dL_law_1505 rfl ?_
  refine lv_goto (tgt := 1796) hx hb dL_law_1506 (by decide) ?_
  exact kk ρ2 _ _ (LI_step hC hp) hP hS
set_option maxHeartbeats 4000000 in
set_option maxRecDepth 100000 in
theorem op_35 (B : MB p s m #[Value.ref b] c code 4 RL E) (hl : lv_has ls 4 [(3, .int (nI j)), (2, .ref (E.2.1 + 1076)), (1, .ref (E.2.1 + 0)), (0, .ref b)]) (hP : WP E ρ H) (hS : va_S (hA E) s.heap H locs) (hX : va_X b L xs s s.heap) (hbl : b < s.heap.size) (hbA : ¬ hA E b) (hI : LI ρ) (hj : j + 6 ≤ L) (hL : L ≤ 3072) (kk : ∀ (ρ : Nat → Nat → Int32) (H : Heap) (locs : List Loc), LI ρ → WP E ρ H → va_S (hA E) s.heap H locs → W p l e room_1 s m #[Value.ref b] below meth c H locs 1090 19159 Q (F0 m 1796 ls [])) : W p l e room_1 s m #[Value.ref b] below meth c H locs 1090 19159 Q (F0 m 1509 ls []) := by
  have hx := B.1.1
  have hb := B.1.2.1
  refine lv_aload_n hx hb dL_law_1509 rfl (lv_at hl 2 rfl) ?_
  refine lv_aload_n hx hb dL_law_1510 rfl (lv_at hl 3 rfl) ?_
  refine lv_iload_n hx hb dL_law_1511 rfl (lv_at hl 0 rfl) ?_
  refine lv_iconst (v := 1) hx hb dL_law_1512 (by decide) ?_
  refine lv_iadd hx hb dL_law_1513 ?_
  refine lv_topi (fun z1 ez1 => ?_)
  obtain rfl : z1 = (nI (1 + j)) := ez1.trans (by rw [show (nI j) = nI j from rfl, show 1 = nI 1 from rfl, nI_add] <;> exact congrArg nI (by omega))
  refine sldn (q := (1 + j)) B hX hbl hbA hS hL rfl (by omega) dL_law_1514 ?_
  refine lv_aload_n hx hb dL_law_1515 rfl (lv_at hl 3 rfl) ?_
  refine lv_iload_n hx hb dL_law_1516 rfl (lv_at hl 0 rfl) ?_
  refine lv_iconst (v := 2) hx hb dL_law_1517 (by decide) ?_
  refine lv_iadd hx hb dL_law_1518 ?_
  refine lv_topi (fun z2 ez2 => ?_)
  obtain rfl : z2 = (nI (2 + j)) := ez2.trans (by rw [show (nI j) = nI j from rfl, show 2 = nI 2 from rfl, nI_add] <;> exact congrArg nI (by omega))
  refine sldn (q := (2 + j)) B hX hbl hbA hS hL rfl (by omega) dL_law_1519 ?_
  refine lv_aload_n hx hb dL_law_1520 rfl (lv_at hl 3 rfl) ?_
  refine lv_iload_n hx hb dL_law_1521 rfl (lv_at hl 0 rfl) ?_
  refine lv_iconst (v := 3) hx hb dL_law_1522 (by decide) ?_
  refine lv_iadd hx hb dL_law_1523 ?_
  refine lv_topi (fun z3 ez3 => ?_)
  obtain rfl : z3 = (nI (3 + j)) := ez3.trans (by rw [show (nI j) = nI j from rfl, show 3 = nI 3 from rfl, nI_add] <;> exact congrArg nI (by omega))
  refine sldn (q := (3 + j)) B hX hbl hbA hS hL rfl (by omega) dL_law_1524 ?_
  refine lv_aload_n hx hb dL_law_1525 rfl (lv_at hl 3 rfl) ?_
  refine lv_iload_n hx hb dL_law_1526 rfl (lv_at hl 0 rfl) ?_
  refine lv_iconst (v := 4) hx hb dL_law_1527 (by decide) ?_
  refine lv_iadd hx hb dL_law_1528 ?_
  refine lv_topi (fun z4 ez4 => ?_)
  obtain rfl : z4 = (nI (4 + j)) := ez4.trans (by rw [show (nI j) = nI j from rfl, show 4 = nI 4 from rfl, nI_add] <;> exact congrArg nI (by omega))
  refine sldn (q := (4 + j)) B hX hbl hbA hS hL rfl (by omega) dL_law_1529 ?_
  refine call_i (cVt (k := 0) (av := [.int (xs (1 + j)), .int (xs (2 + j)), .int (xs (3 + j)), .int (xs (4 + j))]) (rest := []) B hP hS (d_X6_bothReady l E ρ ρ (xs (1 + j)) (xs (2 + j)) (xs (3 + j)) (xs (4 + j)) hI.1) lk_RL_159 (hrecv (ci := 6) B hP (by decide) (hcc6 _ _ (show hk 0 = 6 by decide +kernel)) rfl) rfl rfl hl.1 (Nat.le_of_ble_eq_true rfl) ⟨Nat.le_of_ble_eq_true rfl, Nat.le_of_ble_eq_true rfl⟩ ⟨Nat.le_of_ble_eq_true rfl, Nat.le_of_ble_eq_true rfl⟩ dL_law_1530) hS (fun r1 ρ1 H locs q1 hP hS => ?_)
  have hC : CI ρ S0 ρ1 := q1.2
  refine lv_pop hx hb dL_law_1533 rfl ?_
  refine lv_aload_n hx hb dL_law_1534 rfl (lv_at hl 1 rfl) ?_
  refine lv_aload_n hx hb dL_law_1535 rfl (lv_at hl 3 rfl) ?_
  refine lv_iload_n hx hb dL_law_1536 rfl (lv_at hl 0 rfl) ?_
  refine lv_iconst (v := 1) hx hb dL_law_1537 (by decide) ?_
  refine lv_iadd hx hb dL_law_1538 ?_
  refine lv_topi (fun z5 ez5 => ?_)
  obtain rfl : z5 = (nI (1 + j)) := ez5.trans (by rw [show (nI j) = nI j from rfl, show 1 = nI 1 from rfl, nI_add] <;> exact congrArg nI (by omega))
  refine sldn (q := (1 + j)) B hX hbl hbA hS hL rfl (by omega) dL_law_1539 ?_
  refine lv_aload_n hx hb dL_law_1540 rfl (lv_at hl 3 rfl) ?_
  refine lv_iload_n hx hb dL_law_1541 rfl (lv_at hl 0 rfl) ?_
  refine lv_iconst (v := 2) hx hb dL_law_1542 (by decide) ?_
  refine lv_iadd hx hb dL_law_1543 ?_
  refine lv_topi (fun z6 ez6 => ?_)
  obtain rfl : z6 = (nI (2 + j)) := ez6.trans (by rw [show (nI j) = nI j from rfl, show 2 = nI 2 from rfl, nI_add] <;> exact congrArg nI (by omega))
  refine sldn (q := (2 + j)) B hX hbl hbA hS hL rfl (by omega) dL_law_1544 ?_
  refine lv_aload_n hx hb dL_law_1545 rfl (lv_at hl 3 rfl) ?_
  refine lv_iload_n hx hb dL_law_1546 rfl (lv_at hl 0 rfl) ?_
  refine lv_iconst (v := 3) hx hb dL_law_1547 (by decide) ?_
  refine lv_iadd hx hb dL_law_1548 ?_
  refine lv_topi (fun z7 ez7 => ?_)
  obtain rfl : z7 = (nI (3 + j)) := ez7.trans (by rw [show (nI j) = nI j from rfl, show 3 = nI 3 from rfl, nI_add] <;> exact congrArg nI (by omega))
  refine sldn (q := (3 + j)) B hX hbl hbA hS hL rfl (by omega) dL_law_1549 ?_
  refine lv_aload_n hx hb dL_law_1550 rfl (lv_at hl 3 rfl) ?_
  refine lv_iload_n hx hb dL_law_1551 rfl (lv_at hl 0 rfl) ?_
  refine lv_iconst (v := 4) hx hb dL_law_1552 (by decide) ?_
  refine lv_iadd hx hb dL_law_1553 ?_
  refine lv_topi (fun z8 ez8 => ?_)
  obtain rfl : z8 = (nI (4 + j)) := ez8.trans (by rw [show (nI j) = nI j from rfl, show 4 = nI 4 from rfl, nI_add] <;> exact congrArg nI (by omega))
  refine sldn (q := (4 + j)) B hX hbl hbA hS hL rfl (by omega) dL_law_1554 ?_
  have hp1 := PI_cls hI.2 hC
  obtain ⟨M, LL, hG⟩ := hp1.2.1
  refine call_i (cVt (k := 1076) (av := [.int (xs (1 + j)), .int (xs (2 + j)), .int (xs (3 + j)), .int (xs (4 + j))]) (rest := []) B hP hS (d_X7_bothReady l E ρ1 ρ1 99998 (by decide) M LL X0 (xs (1 + j)) (xs (2 + j)) (xs (3 + j)) (xs (4 + j)) ⟨fun _ _ _ => rfl, rfl, hG⟩) lk_RL_162 (hrecv (ci := 7) B hP (by decide) (hcc7 _ _ (show hk 1076 = 7 by decide +kernel)) rfl) rfl rfl hl.1 (Nat.le_of_ble_eq_true rfl) ⟨Nat.le_of_ble_eq_true rfl, Nat.le_of_ble_eq_true rfl⟩ ⟨Nat.le_of_ble_eq_true rfl, Nat.le_of_ble_eq_true rfl⟩ dL_law_1555) hS (fun r2 ρ2 H locs q2 hP hS => ?_)
  have hp : PI ρ1 ρ2 := PI_RI hp1 q2
  refine lv_pop hx hb dL_law_1558 rfl ?_
  refine lv_goto (tgt := 1796) hx hb dL_law_1559 (by decide) ?_
  exact kk ρ2 _ _ (LI_step hC hp) hP hS
set_option maxHeartbeats 4000000 in
set_option maxRecDepth 100000 in
theorem op_36 (B : MB p s m #[Value.ref b] c code 4 RL E) (hl : lv_has ls 4 [(3, .int (nI j)), (2, .ref (E.2.1 + 1076)), (1, .ref (E.2.1 + 0)), (0, .ref b)]) (hP : WP E ρ H) (hS : va_S (hA E) s.heap H locs) (hX : va_X b L xs s s.heap) (hbl : b < s.heap.size) (hbA : ¬ hA E b) (hI : LI ρ) (hj : j + 6 ≤ L) (hL : L ≤ 3072) (kk : ∀ (ρ : Nat → Nat → Int32) (H : Heap) (locs : List Loc), LI ρ → WP E ρ H → va_S (hA E) s.heap H locs → W p l e room_1 s m #[Value.ref b] below meth c H locs 1090 19159 Q (F0 m 1796 ls [])) : W p l e room_1 s m #[Value.ref b] below meth c H locs 1090 19159 Q (F0 m 1562 ls []) := by
  have hx := B.1.1
  have hb := B.1.2.1
  refine lv_aload_n hx hb dL_law_1562 rfl (lv_at hl 2 rfl) ?_
  refine lv_aload_n hx hb dL_law_1563 rfl (lv_at hl 3 rfl) ?_
  refine lv_iload_n hx hb dL_law_1564 rfl (lv_at hl 0 rfl) ?_
  refine lv_iconst (v := 1) hx hb dL_law_1565 (by decide) ?_
  refine lv_iadd hx hb dL_law_1566 ?_
  refine lv_topi (fun z1 ez1 => ?_)
  obtain rfl : z1 = (nI (1 + j)) := ez1.trans (by rw [show (nI j) = nI j from rfl, show 1 = nI 1 from rfl, nI_add] <;> exact congrArg nI (by omega))
  refine sldn (q := (1 + j)) B hX hbl hbA hS hL rfl (by omega) dL_law_1567 ?_
  refine lv_aload_n hx hb dL_law_1568 rfl (lv_at hl 3 rfl) ?_
  refine lv_iload_n hx hb dL_law_1569 rfl (lv_at hl 0 rfl) ?_
  refine lv_iconst (v := 2) hx hb dL_law_1570 (by decide) ?_
  refine lv_iadd hx hb dL_law_1571 ?_
  refine lv_topi (fun z2 ez2 => ?_)
  obtain rfl : z2 = (nI (2 + j)) := ez2.trans (by rw [show (nI j) = nI j from rfl, show 2 = nI 2 from rfl, nI_add] <;> exact congrArg nI (by omega))
  refine sldn (q := (2 + j)) B hX hbl hbA hS hL rfl (by omega) dL_law_1572 ?_
  refine call_i (cVt (k := 0) (av := [.int (xs (1 + j)), .int (xs (2 + j))]) (rest := []) B hP hS (d_X6_ahead l E ρ ρ (xs (1 + j)) (xs (2 + j)) hI.1) lk_RL_163 (hrecv (ci := 6) B hP (by decide) (hcc6 _ _ (show hk 0 = 6 by decide +kernel)) rfl) rfl rfl hl.1 (Nat.le_of_ble_eq_true rfl) ⟨Nat.le_of_ble_eq_true rfl, Nat.le_of_ble_eq_true rfl⟩ ⟨Nat.le_of_ble_eq_true rfl, Nat.le_of_ble_eq_true rfl⟩ dL_law_1573) hS (fun r1 ρ1 H locs q1 hP hS => ?_)
  have hC : CI ρ S0 ρ1 := q1
  refine lv_pop hx hb dL_law_1576 rfl ?_
  refine lv_aload_n hx hb dL_law_1577 rfl (lv_at hl 1 rfl) ?_
  refine lv_aload_n hx hb dL_law_1578 rfl (lv_at hl 3 rfl) ?_
  refine lv_iload_n hx hb dL_law_1579 rfl (lv_at hl 0 rfl) ?_
  refine lv_iconst (v := 1) hx hb dL_law_1580 (by decide) ?_
  refine lv_iadd hx hb dL_law_1581 ?_
  refine lv_topi (fun z3 ez3 => ?_)
  obtain rfl : z3 = (nI (1 + j)) := ez3.trans (by rw [show (nI j) = nI j from rfl, show 1 = nI 1 from rfl, nI_add] <;> exact congrArg nI (by omega))
  refine sldn (q := (1 + j)) B hX hbl hbA hS hL rfl (by omega) dL_law_1582 ?_
  refine lv_aload_n hx hb dL_law_1583 rfl (lv_at hl 3 rfl) ?_
  refine lv_iload_n hx hb dL_law_1584 rfl (lv_at hl 0 rfl) ?_
  refine lv_iconst (v := 2) hx hb dL_law_1585 (by decide) ?_
  refine lv_iadd hx hb dL_law_1586 ?_
  refine lv_topi (fun z4 ez4 => ?_)
  obtain rfl : z4 = (nI (2 + j)) := ez4.trans (by rw [show (nI j) = nI j from rfl, show 2 = nI 2 from rfl, nI_add] <;> exact congrArg nI (by omega))
  refine sldn (q := (2 + j)) B hX hbl hbA hS hL rfl (by omega) dL_law_1587 ?_
  have hp1 := PI_cls hI.2 hC
  obtain ⟨M, LL, hG⟩ := hp1.2.1
  refine call_i (cVt (k := 1076) (av := [.int (xs (1 + j)), .int (xs (2 + j))]) (rest := []) B hP hS (d_X7_ahead l E ρ1 ρ1 M LL ⟨hp1, hG⟩ (xs (1 + j)) (xs (2 + j))) lk_RL_166 (hrecv (ci := 7) B hP (by decide) (hcc7 _ _ (show hk 1076 = 7 by decide +kernel)) rfl) rfl rfl hl.1 (Nat.le_of_ble_eq_true rfl) ⟨Nat.le_of_ble_eq_true rfl, Nat.le_of_ble_eq_true rfl⟩ ⟨Nat.le_of_ble_eq_true rfl, Nat.le_of_ble_eq_true rfl⟩ dL_law_1588) hS (fun r2 ρ2 H locs q2 hP hS => ?_)
  have hp : PI ρ1 ρ2 := q2.1
  refine lv_pop hx hb dL_law_1591 rfl ?_
  refine lv_goto (tgt := 1796) hx hb dL_law_1592 (by decide) ?_
  exact kk ρ2 _ _ (LI_step hC hp) hP hS
set_option maxHeartbeats 4000000 in
set_option maxRecDepth 100000 in
theorem op_37 (B : MB p s m #[Value.ref b] c code 4 RL E) (hl : lv_has ls 4 [(3, .int (nI j)), (2, .ref (E.2.1 + 1076)), (1, .ref (E.2.1 + 0)), (0, .ref b)]) (hP : WP E ρ H) (hS : va_S (hA E) s.heap H locs) (hX : va_X b L xs s s.heap) (hbl : b < s.heap.size) (hbA : ¬ hA E b) (hI : LI ρ) (hj : j + 6 ≤ L) (hL : L ≤ 3072) (kk : ∀ (ρ : Nat → Nat → Int32) (H : Heap) (locs : List Loc), LI ρ → WP E ρ H → va_S (hA E) s.heap H locs → W p l e room_1 s m #[Value.ref b] below meth c H locs 1090 19159 Q (F0 m 1796 ls [])) : W p l e room_1 s m #[Value.ref b] below meth c H locs 1090 19159 Q (F0 m 1595 ls []) := by
  have hx := B.1.1
  have hb := B.1.2.1
  refine lv_aload_n hx hb dL_law_1595 rfl (lv_at hl 2 rfl) ?_
  refine lv_aload_n hx hb dL_law_1596 rfl (lv_at hl 3 rfl) ?_
  refine lv_iload_n hx hb dL_law_1597 rfl (lv_at hl 0 rfl) ?_
  refine lv_iconst (v := 1) hx hb dL_law_1598 (by decide) ?_
  refine lv_iadd hx hb dL_law_1599 ?_
  refine lv_topi (fun z1 ez1 => ?_)
  obtain rfl : z1 = (nI (1 + j)) := ez1.trans (by rw [show (nI j) = nI j from rfl, show 1 = nI 1 from rfl, nI_add] <;> exact congrArg nI (by omega))
  refine sldn (q := (1 + j)) B hX hbl hbA hS hL rfl (by omega) dL_law_1600 ?_
  refine lv_aload_n hx hb dL_law_1601 rfl (lv_at hl 3 rfl) ?_
  refine lv_iload_n hx hb dL_law_1602 rfl (lv_at hl 0 rfl) ?_
  refine lv_iconst (v := 2) hx hb dL_law_1603 (by decide) ?_
  refine lv_iadd hx hb dL_law_1604 ?_
  refine lv_topi (fun z2 ez2 => ?_)
  obtain rfl : z2 = (nI (2 + j)) := ez2.trans (by rw [show (nI j) = nI j from rfl, show 2 = nI 2 from rfl, nI_add] <;> exact congrArg nI (by omega))
  refine sldn (q := (2 + j)) B hX hbl hbA hS hL rfl (by omega) dL_law_1605 ?_
  refine lv_aload_n hx hb dL_law_1606 rfl (lv_at hl 3 rfl) ?_
  refine lv_iload_n hx hb dL_law_1607 rfl (lv_at hl 0 rfl) ?_
  refine lv_iconst (v := 3) hx hb dL_law_1608 (by decide) ?_
  refine lv_iadd hx hb dL_law_1609 ?_
  refine lv_topi (fun z3 ez3 => ?_)
  obtain rfl : z3 = (nI (3 + j)) := ez3.trans (by rw [show (nI j) = nI j from rfl, show 3 = nI 3 from rfl, nI_add] <;> exact congrArg nI (by omega))
  refine sldn (q := (3 + j)) B hX hbl hbA hS hL rfl (by omega) dL_law_1610 ?_
  refine call_i (cVt (k := 0) (av := [.int (xs (1 + j)), .int (xs (2 + j)), .int (xs (3 + j))]) (rest := []) B hP hS (d_X6_together l E ρ ρ (xs (1 + j)) (xs (2 + j)) (xs (3 + j)) hI.1) lk_RL_167 (hrecv (ci := 6) B hP (by decide) (hcc6 _ _ (show hk 0 = 6 by decide +kernel)) rfl) rfl rfl hl.1 (Nat.le_of_ble_eq_true rfl) ⟨Nat.le_of_ble_eq_true rfl, Nat.le_of_ble_eq_true rfl⟩ ⟨Nat.le_of_ble_eq_true rfl, Nat.le_of_ble_eq_true rfl⟩ dL_law_1611) hS (fun r1 ρ1 H locs q1 hP hS => ?_)
  have hC : CI ρ S0 ρ1 := q1.2
  refine lv_pop hx hb dL_law_1614 rfl ?_
  refine lv_aload_n hx hb dL_law_1615 rfl (lv_at hl 1 rfl) ?_
  refine lv_aload_n hx hb dL_law_1616 rfl (lv_at hl 3 rfl) ?_
  refine lv_iload_n hx hb dL_law_1617 rfl (lv_at hl 0 rfl) ?_
  refine lv_iconst (v := 1) hx hb dL_law_1618 (by decide) ?_
  refine lv_iadd hx hb dL_law_1619 ?_
  refine lv_topi (fun z4 ez4 => ?_)
  obtain rfl : z4 = (nI (1 + j)) := ez4.trans (by rw [show (nI j) = nI j from rfl, show 1 = nI 1 from rfl, nI_add] <;> exact congrArg nI (by omega))
  refine sldn (q := (1 + j)) B hX hbl hbA hS hL rfl (by omega) dL_law_1620 ?_
  refine lv_aload_n hx hb dL_law_1621 rfl (lv_at hl 3 rfl) ?_
  refine lv_iload_n hx hb dL_law_1622 rfl (lv_at hl 0 rfl) ?_
  refine lv_iconst (v := 2) hx hb dL_law_1623 (by decide) ?_
  refine lv_iadd hx hb dL_law_1624 ?_
  refine lv_topi (fun z5 ez5 => ?_)
  obtain rfl : z5 = (nI (2 + j)) := ez5.trans (by rw [show (nI j) = nI j from rfl, show 2 = nI 2 from rfl, nI_add] <;> exact congrArg nI (by omega))
  refine sldn (q := (2 + j)) B hX hbl hbA hS hL rfl (by omega) dL_law_1625 ?_
  refine lv_aload_n hx hb dL_law_1626 rfl (lv_at hl 3 rfl) ?_
  refine lv_iload_n hx hb dL_law_1627 rfl (lv_at hl 0 rfl) ?_
  refine lv_iconst (v := 3) hx hb dL_law_1628 (by decide) ?_
  refine lv_iadd hx hb dL_law_1629 ?_
  refine lv_topi (fun z6 ez6 => ?_)
  obtain rfl : z6 = (nI (3 + j)) := ez6.trans (by rw [show (nI j) = nI j from rfl, show 3 = nI 3 from rfl, nI_add] <;> exact congrArg nI (by omega))
  refine sldn (q := (3 + j)) B hX hbl hbA hS hL rfl (by omega) dL_law_1630 ?_
  have hp1 := PI_cls hI.2 hC
  obtain ⟨M, LL, hG⟩ := hp1.2.1
  refine call_i (cVt (k := 1076) (av := [.int (xs (1 + j)), .int (xs (2 + j)), .int (xs (3 + j))]) (rest := []) B hP hS (d_X7_together l E ρ1 ρ1 99998 (by decide) M LL X0 (xs (1 + j)) (xs (2 + j)) (xs (3 + j)) ⟨fun _ _ _ => rfl, rfl, hG⟩) lk_RL_170 (hrecv (ci := 7) B hP (by decide) (hcc7 _ _ (show hk 1076 = 7 by decide +kernel)) rfl) rfl rfl hl.1 (Nat.le_of_ble_eq_true rfl) ⟨Nat.le_of_ble_eq_true rfl, Nat.le_of_ble_eq_true rfl⟩ ⟨Nat.le_of_ble_eq_true rfl, Nat.le_of_ble_eq_true rfl⟩ dL_law_1631) hS (fun r2 ρ2 H locs q2 hP hS => ?_)
  have hp : PI ρ1 ρ2 := PI_RI hp1 q2
  refine lv_pop hx hb dL_law_1634 rfl ?_
  refine lv_goto (tgt := 1796) hx hb dL_law_1635 (by decide) ?_
  exact kk ρ2 _ _ (LI_step hC hp) hP hS
set_option maxHeartbeats 4000000 in
set_option maxRecDepth 100000 in
theorem op_38 (B : MB p s m #[Value.ref b] c code 4 RL E) (hl : lv_has ls 4 [(3, .int (nI j)), (2, .ref (E.2.1 + 1076)), (1, .ref (E.2.1 + 0)), (0, .ref b)]) (hP : WP E ρ H) (hS : va_S (hA E) s.heap H locs) (hX : va_X b L xs s s.heap) (hbl : b < s.heap.size) (hbA : ¬ hA E b) (hI : LI ρ) (hj : j + 6 ≤ L) (hL : L ≤ 3072) (kk : ∀ (ρ : Nat → Nat → Int32) (H : Heap) (locs : List Loc), LI ρ → WP E ρ H → va_S (hA E) s.heap H locs → W p l e room_1 s m #[Value.ref b] below meth c H locs 1090 19159 Q (F0 m 1796 ls [])) : W p l e room_1 s m #[Value.ref b] below meth c H locs 1090 19159 Q (F0 m 1638 ls []) := by
  have hx := B.1.1
  have hb := B.1.2.1
  refine lv_aload_n hx hb dL_law_1638 rfl (lv_at hl 2 rfl) ?_
  refine lv_aload_n hx hb dL_law_1639 rfl (lv_at hl 3 rfl) ?_
  refine lv_iload_n hx hb dL_law_1640 rfl (lv_at hl 0 rfl) ?_
  refine lv_iconst (v := 1) hx hb dL_law_1641 (by decide) ?_
  refine lv_iadd hx hb dL_law_1642 ?_
  refine lv_topi (fun z1 ez1 => ?_)
  obtain rfl : z1 = (nI (1 + j)) := ez1.trans (by rw [show (nI j) = nI j from rfl, show 1 = nI 1 from rfl, nI_add] <;> exact congrArg nI (by omega))
  refine sldn (q := (1 + j)) B hX hbl hbA hS hL rfl (by omega) dL_law_1643 ?_
  refine lv_aload_n hx hb dL_law_1644 rfl (lv_at hl 3 rfl) ?_
  refine lv_iload_n hx hb dL_law_1645 rfl (lv_at hl 0 rfl) ?_
  refine lv_iconst (v := 2) hx hb dL_law_1646 (by decide) ?_
  refine lv_iadd hx hb dL_law_1647 ?_
  refine lv_topi (fun z2 ez2 => ?_)
  obtain rfl : z2 = (nI (2 + j)) := ez2.trans (by rw [show (nI j) = nI j from rfl, show 2 = nI 2 from rfl, nI_add] <;> exact congrArg nI (by omega))
  refine sldn (q := (2 + j)) B hX hbl hbA hS hL rfl (by omega) dL_law_1648 ?_
  refine call_i (cVt (k := 0) (av := [.int (xs (1 + j)), .int (xs (2 + j))]) (rest := []) B hP hS (d_X6_ranked l E ρ ρ (xs (1 + j)) (xs (2 + j)) hI.1) lk_RL_171 (hrecv (ci := 6) B hP (by decide) (hcc6 _ _ (show hk 0 = 6 by decide +kernel)) rfl) rfl rfl hl.1 (Nat.le_of_ble_eq_true rfl) ⟨Nat.le_of_ble_eq_true rfl, Nat.le_of_ble_eq_true rfl⟩ ⟨Nat.le_of_ble_eq_true rfl, Nat.le_of_ble_eq_true rfl⟩ dL_law_1649) hS (fun r1 ρ1 H locs q1 hP hS => ?_)
  have hC : CI ρ S0 ρ1 := q1.2
  refine lv_pop hx hb dL_law_1652 rfl ?_
  refine lv_aload_n hx hb dL_law_1653 rfl (lv_at hl 1 rfl) ?_
  refine lv_aload_n hx hb dL_law_1654 rfl (lv_at hl 3 rfl) ?_
  refine lv_iload_n hx hb dL_law_1655 rfl (lv_at hl 0 rfl) ?_
  refine lv_iconst (v := 1) hx hb dL_law_1656 (by decide) ?_
  refine lv_iadd hx hb dL_law_1657 ?_
  refine lv_topi (fun z3 ez3 => ?_)
  obtain rfl : z3 = (nI (1 + j)) := ez3.trans (by rw [show (nI j) = nI j from rfl, show 1 = nI 1 from rfl, nI_add] <;> exact congrArg nI (by omega))
  refine sldn (q := (1 + j)) B hX hbl hbA hS hL rfl (by omega) dL_law_1658 ?_
  refine lv_aload_n hx hb dL_law_1659 rfl (lv_at hl 3 rfl) ?_
  refine lv_iload_n hx hb dL_law_1660 rfl (lv_at hl 0 rfl) ?_
  refine lv_iconst (v := 2) hx hb dL_law_1661 (by decide) ?_
  refine lv_iadd hx hb dL_law_1662 ?_
  refine lv_topi (fun z4 ez4 => ?_)
  obtain rfl : z4 = (nI (2 + j)) := ez4.trans (by rw [show (nI j) = nI j from rfl, show 2 = nI 2 from rfl, nI_add] <;> exact congrArg nI (by omega))
  refine sldn (q := (2 + j)) B hX hbl hbA hS hL rfl (by omega) dL_law_1663 ?_
  have hp1 := PI_cls hI.2 hC
  obtain ⟨M, LL, hG⟩ := hp1.2.1
  refine call_i (cVt (k := 1076) (av := [.int (xs (1 + j)), .int (xs (2 + j))]) (rest := []) B hP hS (d_X7_ranked l E ρ1 ρ1 99998 (by decide) M LL X0 (xs (1 + j)) (xs (2 + j)) ⟨fun _ _ _ => rfl, rfl, hG⟩) lk_RL_174 (hrecv (ci := 7) B hP (by decide) (hcc7 _ _ (show hk 1076 = 7 by decide +kernel)) rfl) rfl rfl hl.1 (Nat.le_of_ble_eq_true rfl) ⟨Nat.le_of_ble_eq_true rfl, Nat.le_of_ble_eq_true rfl⟩ ⟨Nat.le_of_ble_eq_true rfl, Nat.le_of_ble_eq_true rfl⟩ dL_law_1664) hS (fun r2 ρ2 H locs q2 hP hS => ?_)
  have hp : PI ρ1 ρ2 := PI_RI hp1 q2
  refine lv_pop hx hb dL_law_1667 rfl ?_
  refine lv_goto (tgt := 1796) hx hb dL_law_1668 (by decide) ?_
  exact kk ρ2 _ _ (LI_step hC hp) hP hS
set_option maxHeartbeats 4000000 in
set_option maxRecDepth 100000 in
theorem op_39 (B : MB p s m #[Value.ref b] c code 4 RL E) (hl : lv_has ls 4 [(3, .int (nI j)), (2, .ref (E.2.1 + 1076)), (1, .ref (E.2.1 + 0)), (0, .ref b)]) (hP : WP E ρ H) (hS : va_S (hA E) s.heap H locs) (hX : va_X b L xs s s.heap) (hbl : b < s.heap.size) (hbA : ¬ hA E b) (hI : LI ρ) (hj : j + 6 ≤ L) (hL : L ≤ 3072) (kk : ∀ (ρ : Nat → Nat → Int32) (H : Heap) (locs : List Loc), LI ρ → WP E ρ H → va_S (hA E) s.heap H locs → W p l e room_1 s m #[Value.ref b] below meth c H locs 1090 19159 Q (F0 m 1796 ls [])) : W p l e room_1 s m #[Value.ref b] below meth c H locs 1090 19159 Q (F0 m 1671 ls []) := by
  have hx := B.1.1
  have hb := B.1.2.1
  refine lv_aload_n hx hb dL_law_1671 rfl (lv_at hl 2 rfl) ?_
  refine lv_aload_n hx hb dL_law_1672 rfl (lv_at hl 3 rfl) ?_
  refine lv_iload_n hx hb dL_law_1673 rfl (lv_at hl 0 rfl) ?_
  refine lv_iconst (v := 1) hx hb dL_law_1674 (by decide) ?_
  refine lv_iadd hx hb dL_law_1675 ?_
  refine lv_topi (fun z1 ez1 => ?_)
  obtain rfl : z1 = (nI (1 + j)) := ez1.trans (by rw [show (nI j) = nI j from rfl, show 1 = nI 1 from rfl, nI_add] <;> exact congrArg nI (by omega))
  refine sldn (q := (1 + j)) B hX hbl hbA hS hL rfl (by omega) dL_law_1676 ?_
  refine lv_aload_n hx hb dL_law_1677 rfl (lv_at hl 3 rfl) ?_
  refine lv_iload_n hx hb dL_law_1678 rfl (lv_at hl 0 rfl) ?_
  refine lv_iconst (v := 2) hx hb dL_law_1679 (by decide) ?_
  refine lv_iadd hx hb dL_law_1680 ?_
  refine lv_topi (fun z2 ez2 => ?_)
  obtain rfl : z2 = (nI (2 + j)) := ez2.trans (by rw [show (nI j) = nI j from rfl, show 2 = nI 2 from rfl, nI_add] <;> exact congrArg nI (by omega))
  refine sldn (q := (2 + j)) B hX hbl hbA hS hL rfl (by omega) dL_law_1681 ?_
  refine call_i (cVt (k := 0) (av := [.int (xs (1 + j)), .int (xs (2 + j))]) (rest := []) B hP hS (d_X6_quiet l E ρ ρ (xs (1 + j)) (xs (2 + j)) hI.1) lk_RL_175 (hrecv (ci := 6) B hP (by decide) (hcc6 _ _ (show hk 0 = 6 by decide +kernel)) rfl) rfl rfl hl.1 (Nat.le_of_ble_eq_true rfl) ⟨Nat.le_of_ble_eq_true rfl, Nat.le_of_ble_eq_true rfl⟩ ⟨Nat.le_of_ble_eq_true rfl, Nat.le_of_ble_eq_true rfl⟩ dL_law_1682) hS (fun r1 ρ1 H locs q1 hP hS => ?_)
  have hC : CI ρ S0 ρ1 := q1.2
  refine lv_pop hx hb dL_law_1685 rfl ?_
  refine lv_aload_n hx hb dL_law_1686 rfl (lv_at hl 1 rfl) ?_
  refine lv_aload_n hx hb dL_law_1687 rfl (lv_at hl 3 rfl) ?_
  refine lv_iload_n hx hb dL_law_1688 rfl (lv_at hl 0 rfl) ?_
  refine lv_iconst (v := 1) hx hb dL_law_1689 (by decide) ?_
  refine lv_iadd hx hb dL_law_1690 ?_
  refine lv_topi (fun z3 ez3 => ?_)
  obtain rfl : z3 = (nI (1 + j)) := ez3.trans (by rw [show (nI j) = nI j from rfl, show 1 = nI 1 from rfl, nI_add] <;> exact congrArg nI (by omega))
  refine sldn (q := (1 + j)) B hX hbl hbA hS hL rfl (by omega) dL_law_1691 ?_
  refine lv_aload_n hx hb dL_law_1692 rfl (lv_at hl 3 rfl) ?_
  refine lv_iload_n hx hb dL_law_1693 rfl (lv_at hl 0 rfl) ?_
  refine lv_iconst (v := 2) hx hb dL_law_1694 (by decide) ?_
  refine lv_iadd hx hb dL_law_1695 ?_
  refine lv_topi (fun z4 ez4 => ?_)
  obtain rfl : z4 = (nI (2 + j)) := ez4.trans (by rw [show (nI j) = nI j from rfl, show 2 = nI 2 from rfl, nI_add] <;> exact congrArg nI (by omega))
  refine sldn (q := (2 + j)) B hX hbl hbA hS hL rfl (by omega) dL_law_1696 ?_
  have hp1 := PI_cls hI.2 hC
  obtain ⟨M, LL, hG⟩ := hp1.2.1
  refine call_i (cVt (k := 1076) (av := [.int (xs (1 + j)), .int (xs (2 + j))]) (rest := []) B hP hS (d_X7_quiet l E ρ1 ρ1 99998 (by decide) M LL X0 (xs (1 + j)) (xs (2 + j)) ⟨fun _ _ _ => rfl, rfl, hG⟩) lk_RL_178 (hrecv (ci := 7) B hP (by decide) (hcc7 _ _ (show hk 1076 = 7 by decide +kernel)) rfl) rfl rfl hl.1 (Nat.le_of_ble_eq_true rfl) ⟨Nat.le_of_ble_eq_true rfl, Nat.le_of_ble_eq_true rfl⟩ ⟨Nat.le_of_ble_eq_true rfl, Nat.le_of_ble_eq_true rfl⟩ dL_law_1697) hS (fun r2 ρ2 H locs q2 hP hS => ?_)
  have hp : PI ρ1 ρ2 := PI_RI hp1 q2
  refine lv_pop hx hb dL_law_1700 rfl ?_
  refine lv_goto (tgt := 1796) hx hb dL_law_1701 (by decide) ?_
  exact kk ρ2 _ _ (LI_step hC hp) hP hS
set_option maxHeartbeats 4000000 in
set_option maxRecDepth 100000 in
theorem op_40 (B : MB p s m #[Value.ref b] c code 4 RL E) (hl : lv_has ls 4 [(3, .int (nI j)), (2, .ref (E.2.1 + 1076)), (1, .ref (E.2.1 + 0)), (0, .ref b)]) (hP : WP E ρ H) (hS : va_S (hA E) s.heap H locs) (hX : va_X b L xs s s.heap) (hbl : b < s.heap.size) (hbA : ¬ hA E b) (hI : LI ρ) (hj : j + 6 ≤ L) (hL : L ≤ 3072) (kk : ∀ (ρ : Nat → Nat → Int32) (H : Heap) (locs : List Loc), LI ρ → WP E ρ H → va_S (hA E) s.heap H locs → W p l e room_1 s m #[Value.ref b] below meth c H locs 1090 19159 Q (F0 m 1796 ls [])) : W p l e room_1 s m #[Value.ref b] below meth c H locs 1090 19159 Q (F0 m 1704 ls []) := by
  have hx := B.1.1
  have hb := B.1.2.1
  refine lv_aload_n hx hb dL_law_1704 rfl (lv_at hl 2 rfl) ?_
  refine lv_aload_n hx hb dL_law_1705 rfl (lv_at hl 3 rfl) ?_
  refine lv_iload_n hx hb dL_law_1706 rfl (lv_at hl 0 rfl) ?_
  refine lv_iconst (v := 1) hx hb dL_law_1707 (by decide) ?_
  refine lv_iadd hx hb dL_law_1708 ?_
  refine lv_topi (fun z1 ez1 => ?_)
  obtain rfl : z1 = (nI (1 + j)) := ez1.trans (by rw [show (nI j) = nI j from rfl, show 1 = nI 1 from rfl, nI_add] <;> exact congrArg nI (by omega))
  refine sldn (q := (1 + j)) B hX hbl hbA hS hL rfl (by omega) dL_law_1709 ?_
  refine call_i (cVt (k := 0) (av := [.int (xs (1 + j))]) (rest := []) B hP hS (d_X6_bestShare l E ρ ρ (xs (1 + j)) hI.1) lk_RL_179 (hrecv (ci := 6) B hP (by decide) (hcc6 _ _ (show hk 0 = 6 by decide +kernel)) rfl) rfl rfl hl.1 (Nat.le_of_ble_eq_true rfl) ⟨Nat.le_of_ble_eq_true rfl, Nat.le_of_ble_eq_true rfl⟩ ⟨Nat.le_of_ble_eq_true rfl, Nat.le_of_ble_eq_true rfl⟩ dL_law_1710) hS (fun r1 ρ1 H locs q1 hP hS => ?_)
  have hC : CI ρ S0 ρ1 := q1
  refine lv_pop hx hb dL_law_1713 rfl ?_
  refine lv_aload_n hx hb dL_law_1714 rfl (lv_at hl 1 rfl) ?_
  refine lv_aload_n hx hb dL_law_1715 rfl (lv_at hl 3 rfl) ?_
  refine lv_iload_n hx hb dL_law_1716 rfl (lv_at hl 0 rfl) ?_
  refine lv_iconst (v := 1) hx hb dL_law_1717 (by decide) ?_
  refine lv_iadd hx hb dL_law_1718 ?_
  refine lv_topi (fun z2 ez2 => ?_)
  obtain rfl : z2 = (nI (1 + j)) := ez2.trans (by rw [show (nI j) = nI j from rfl, show 1 = nI 1 from rfl, nI_add] <;> exact congrArg nI (by omega))
  refine sldn (q := (1 + j)) B hX hbl hbA hS hL rfl (by omega) dL_law_1719 ?_
  have hp1 := PI_cls hI.2 hC
  obtain ⟨M, LL, hG⟩ := hp1.2.1
  refine call_i (cVt (k := 1076) (av := [.int (xs (1 + j))]) (rest := []) B hP hS (d_X7_bestShare l E ρ1 ρ1 M LL ⟨hp1, hG⟩ (xs (1 + j))) lk_RL_182 (hrecv (ci := 7) B hP (by decide) (hcc7 _ _ (show hk 1076 = 7 by decide +kernel)) rfl) rfl rfl hl.1 (Nat.le_of_ble_eq_true rfl) ⟨Nat.le_of_ble_eq_true rfl, Nat.le_of_ble_eq_true rfl⟩ ⟨Nat.le_of_ble_eq_true rfl, Nat.le_of_ble_eq_true rfl⟩ dL_law_1720) hS (fun r2 ρ2 H locs q2 hP hS => ?_)
  have hp : PI ρ1 ρ2 := q2.1
  refine lv_pop hx hb dL_law_1723 rfl ?_
  refine lv_goto (tgt := 1796) hx hb dL_law_1724 (by decide) ?_
  exact kk ρ2 _ _ (LI_step hC hp) hP hS
set_option maxHeartbeats 4000000 in
set_option maxRecDepth 100000 in
theorem op_41 (B : MB p s m #[Value.ref b] c code 4 RL E) (hl : lv_has ls 4 [(3, .int (nI j)), (2, .ref (E.2.1 + 1076)), (1, .ref (E.2.1 + 0)), (0, .ref b)]) (hP : WP E ρ H) (hS : va_S (hA E) s.heap H locs) (hX : va_X b L xs s s.heap) (hbl : b < s.heap.size) (hbA : ¬ hA E b) (hI : LI ρ) (hj : j + 6 ≤ L) (hL : L ≤ 3072) (kk : ∀ (ρ : Nat → Nat → Int32) (H : Heap) (locs : List Loc), LI ρ → WP E ρ H → va_S (hA E) s.heap H locs → W p l e room_1 s m #[Value.ref b] below meth c H locs 1090 19159 Q (F0 m 1796 ls [])) : W p l e room_1 s m #[Value.ref b] below meth c H locs 1090 19159 Q (F0 m 1727 ls []) := by
  have hx := B.1.1
  have hb := B.1.2.1
  refine lv_aload_n hx hb dL_law_1727 rfl (lv_at hl 2 rfl) ?_
  refine lv_aload_n hx hb dL_law_1728 rfl (lv_at hl 3 rfl) ?_
  refine lv_iload_n hx hb dL_law_1729 rfl (lv_at hl 0 rfl) ?_
  refine lv_iconst (v := 1) hx hb dL_law_1730 (by decide) ?_
  refine lv_iadd hx hb dL_law_1731 ?_
  refine lv_topi (fun z1 ez1 => ?_)
  obtain rfl : z1 = (nI (1 + j)) := ez1.trans (by rw [show (nI j) = nI j from rfl, show 1 = nI 1 from rfl, nI_add] <;> exact congrArg nI (by omega))
  refine sldn (q := (1 + j)) B hX hbl hbA hS hL rfl (by omega) dL_law_1732 ?_
  refine lv_aload_n hx hb dL_law_1733 rfl (lv_at hl 3 rfl) ?_
  refine lv_iload_n hx hb dL_law_1734 rfl (lv_at hl 0 rfl) ?_
  refine lv_iconst (v := 2) hx hb dL_law_1735 (by decide) ?_
  refine lv_iadd hx hb dL_law_1736 ?_
  refine lv_topi (fun z2 ez2 => ?_)
  obtain rfl : z2 = (nI (2 + j)) := ez2.trans (by rw [show (nI j) = nI j from rfl, show 2 = nI 2 from rfl, nI_add] <;> exact congrArg nI (by omega))
  refine sldn (q := (2 + j)) B hX hbl hbA hS hL rfl (by omega) dL_law_1737 ?_
  refine call_i (cVt (k := 0) (av := [.int (xs (1 + j)), .int (xs (2 + j))]) (rest := []) B hP hS (d_X6_ofNet l E ρ ρ (xs (1 + j)) (xs (2 + j)) hI.1) lk_RL_183 (hrecv (ci := 6) B hP (by decide) (hcc6 _ _ (show hk 0 = 6 by decide +kernel)) rfl) rfl rfl hl.1 (Nat.le_of_ble_eq_true rfl) ⟨Nat.le_of_ble_eq_true rfl, Nat.le_of_ble_eq_true rfl⟩ ⟨Nat.le_of_ble_eq_true rfl, Nat.le_of_ble_eq_true rfl⟩ dL_law_1738) hS (fun r1 ρ1 H locs q1 hP hS => ?_)
  have hC : CI ρ S0 ρ1 := q1.2
  refine lv_pop hx hb dL_law_1741 rfl ?_
  refine lv_aload_n hx hb dL_law_1742 rfl (lv_at hl 1 rfl) ?_
  refine lv_aload_n hx hb dL_law_1743 rfl (lv_at hl 3 rfl) ?_
  refine lv_iload_n hx hb dL_law_1744 rfl (lv_at hl 0 rfl) ?_
  refine lv_iconst (v := 1) hx hb dL_law_1745 (by decide) ?_
  refine lv_iadd hx hb dL_law_1746 ?_
  refine lv_topi (fun z3 ez3 => ?_)
  obtain rfl : z3 = (nI (1 + j)) := ez3.trans (by rw [show (nI j) = nI j from rfl, show 1 = nI 1 from rfl, nI_add] <;> exact congrArg nI (by omega))
  refine sldn (q := (1 + j)) B hX hbl hbA hS hL rfl (by omega) dL_law_1747 ?_
  refine lv_aload_n hx hb dL_law_1748 rfl (lv_at hl 3 rfl) ?_
  refine lv_iload_n hx hb dL_law_1749 rfl (lv_at hl 0 rfl) ?_
  refine lv_iconst (v := 2) hx hb dL_law_1750 (by decide) ?_
  refine lv_iadd hx hb dL_law_1751 ?_
  refine lv_topi (fun z4 ez4 => ?_)
  obtain rfl : z4 = (nI (2 + j)) := ez4.trans (by rw [show (nI j) = nI j from rfl, show 2 = nI 2 from rfl, nI_add] <;> exact congrArg nI (by omega))
  refine sldn (q := (2 + j)) B hX hbl hbA hS hL rfl (by omega) dL_law_1752 ?_
  have hp1 := PI_cls hI.2 hC
  obtain ⟨M, LL, hG⟩ := hp1.2.1
  refine call_i (cVt (k := 1076) (av := [.int (xs (1 + j)), .int (xs (2 + j))]) (rest := []) B hP hS (d_X7_ofNet l E ρ1 ρ1 99998 (by decide) M LL X0 (xs (1 + j)) (xs (2 + j)) ⟨fun _ _ _ => rfl, rfl, hG⟩) lk_RL_186 (hrecv (ci := 7) B hP (by decide) (hcc7 _ _ (show hk 1076 = 7 by decide +kernel)) rfl) rfl rfl hl.1 (Nat.le_of_ble_eq_true rfl) ⟨Nat.le_of_ble_eq_true rfl, Nat.le_of_ble_eq_true rfl⟩ ⟨Nat.le_of_ble_eq_true rfl, Nat.le_of_ble_eq_true rfl⟩ dL_law_1753) hS (fun r2 ρ2 H locs q2 hP hS => ?_)
  have hp : PI ρ1 ρ2 := PI_RI hp1 q2
  refine lv_pop hx hb dL_law_1756 rfl ?_
  refine lv_goto (tgt := 1796) hx hb dL_law_1757 (by decide) ?_
  exact kk ρ2 _ _ (LI_step hC hp) hP hS
set_option maxHeartbeats 4000000 in
set_option maxRecDepth 100000 in
theorem op_42 (B : MB p s m #[Value.ref b] c code 4 RL E) (hl : lv_has ls 4 [(3, .int (nI j)), (2, .ref (E.2.1 + 1076)), (1, .ref (E.2.1 + 0)), (0, .ref b)]) (hP : WP E ρ H) (hS : va_S (hA E) s.heap H locs) (hX : va_X b L xs s s.heap) (hbl : b < s.heap.size) (hbA : ¬ hA E b) (hI : LI ρ) (hj : j + 6 ≤ L) (hL : L ≤ 3072) (kk : ∀ (ρ : Nat → Nat → Int32) (H : Heap) (locs : List Loc), LI ρ → WP E ρ H → va_S (hA E) s.heap H locs → W p l e room_1 s m #[Value.ref b] below meth c H locs 1090 19159 Q (F0 m 1796 ls [])) : W p l e room_1 s m #[Value.ref b] below meth c H locs 1090 19159 Q (F0 m 1760 ls []) := by
  have hx := B.1.1
  have hb := B.1.2.1
  refine lv_aload_n hx hb dL_law_1760 rfl (lv_at hl 2 rfl) ?_
  refine lv_aload_n hx hb dL_law_1761 rfl (lv_at hl 3 rfl) ?_
  refine lv_iload_n hx hb dL_law_1762 rfl (lv_at hl 0 rfl) ?_
  refine lv_iconst (v := 1) hx hb dL_law_1763 (by decide) ?_
  refine lv_iadd hx hb dL_law_1764 ?_
  refine lv_topi (fun z1 ez1 => ?_)
  obtain rfl : z1 = (nI (1 + j)) := ez1.trans (by rw [show (nI j) = nI j from rfl, show 1 = nI 1 from rfl, nI_add] <;> exact congrArg nI (by omega))
  refine sldn (q := (1 + j)) B hX hbl hbA hS hL rfl (by omega) dL_law_1765 ?_
  refine call_i (cVt (k := 0) (av := [.int (xs (1 + j))]) (rest := []) B hP hS (d_X6_count l E ρ ρ (xs (1 + j)) hI.1) lk_RL_187 (hrecv (ci := 6) B hP (by decide) (hcc6 _ _ (show hk 0 = 6 by decide +kernel)) rfl) rfl rfl hl.1 (Nat.le_of_ble_eq_true rfl) ⟨Nat.le_of_ble_eq_true rfl, Nat.le_of_ble_eq_true rfl⟩ ⟨Nat.le_of_ble_eq_true rfl, Nat.le_of_ble_eq_true rfl⟩ dL_law_1766) hS (fun r1 ρ1 H locs q1 hP hS => ?_)
  have hC : CI ρ S0 ρ1 := q1.2
  refine lv_pop hx hb dL_law_1769 rfl ?_
  refine lv_aload_n hx hb dL_law_1770 rfl (lv_at hl 1 rfl) ?_
  refine lv_aload_n hx hb dL_law_1771 rfl (lv_at hl 3 rfl) ?_
  refine lv_iload_n hx hb dL_law_1772 rfl (lv_at hl 0 rfl) ?_
  refine lv_iconst (v := 1) hx hb dL_law_1773 (by decide) ?_
  refine lv_iadd hx hb dL_law_1774 ?_
  refine lv_topi (fun z2 ez2 => ?_)
  obtain rfl : z2 = (nI (1 + j)) := ez2.trans (by rw [show (nI j) = nI j from rfl, show 1 = nI 1 from rfl, nI_add] <;> exact congrArg nI (by omega))
  refine sldn (q := (1 + j)) B hX hbl hbA hS hL rfl (by omega) dL_law_1775 ?_
  have hp1 := PI_cls hI.2 hC
  obtain ⟨M, LL, hG⟩ := hp1.2.1
  refine call_i (cVt (k := 1076) (av := [.int (xs (1 + j))]) (rest := []) B hP hS (d_X7_count l E ρ1 ρ1 99998 (by decide) M LL X0 (xs (1 + j)) ⟨fun _ _ _ => rfl, rfl, hG⟩) lk_RL_190 (hrecv (ci := 7) B hP (by decide) (hcc7 _ _ (show hk 1076 = 7 by decide +kernel)) rfl) rfl rfl hl.1 (Nat.le_of_ble_eq_true rfl) ⟨Nat.le_of_ble_eq_true rfl, Nat.le_of_ble_eq_true rfl⟩ ⟨Nat.le_of_ble_eq_true rfl, Nat.le_of_ble_eq_true rfl⟩ dL_law_1776) hS (fun r2 ρ2 H locs q2 hP hS => ?_)
  have hp : PI ρ1 ρ2 := PI_RI hp1 q2
  refine lv_pop hx hb dL_law_1779 rfl ?_
  refine lv_goto (tgt := 1796) hx hb dL_law_1780 (by decide) ?_
  exact kk ρ2 _ _ (LI_step hC hp) hP hS
set_option maxHeartbeats 4000000 in
set_option maxRecDepth 100000 in
theorem op_43 (B : MB p s m #[Value.ref b] c code 4 RL E) (hl : lv_has ls 4 [(3, .int (nI j)), (2, .ref (E.2.1 + 1076)), (1, .ref (E.2.1 + 0)), (0, .ref b)]) (hP : WP E ρ H) (hS : va_S (hA E) s.heap H locs) (hX : va_X b L xs s s.heap) (hbl : b < s.heap.size) (hbA : ¬ hA E b) (hI : LI ρ) (hj : j + 6 ≤ L) (hL : L ≤ 3072) (kk : ∀ (ρ : Nat → Nat → Int32) (H : Heap) (locs : List Loc), LI ρ → WP E ρ H → va_S (hA E) s.heap H locs → W p l e room_1 s m #[Value.ref b] below meth c H locs 1090 19159 Q (F0 m 1796 ls [])) : W p l e room_1 s m #[Value.ref b] below meth c H locs 1090 19159 Q (F0 m 1783 ls []) := by
  have hx := B.1.1
  have hb := B.1.2.1
  refine lv_aload_n hx hb dL_law_1783 rfl (lv_at hl 2 rfl) ?_
  refine call_i (cVt (k := 0) (av := []) (rest := []) B hP hS (d_X6_status l E ρ ρ hI.1) lk_RL_191 (hrecv (ci := 6) B hP (by decide) (hcc6 _ _ (show hk 0 = 6 by decide +kernel)) rfl) rfl rfl hl.1 (Nat.le_of_ble_eq_true rfl) ⟨Nat.le_of_ble_eq_true rfl, Nat.le_of_ble_eq_true rfl⟩ ⟨Nat.le_of_ble_eq_true rfl, Nat.le_of_ble_eq_true rfl⟩ dL_law_1784) hS (fun r1 ρ1 H locs q1 hP hS => ?_)
  have hC : CI ρ S0 ρ1 := q1.2
  refine lv_pop hx hb dL_law_1787 rfl ?_
  refine lv_aload_n hx hb dL_law_1788 rfl (lv_at hl 1 rfl) ?_
  have hp1 := PI_cls hI.2 hC
  obtain ⟨M, LL, hG⟩ := hp1.2.1
  refine call_i (cVt (k := 1076) (av := []) (rest := []) B hP hS (d_X7_status l E ρ1 ρ1 99998 (by decide) M LL X0 ⟨fun _ _ _ => rfl, rfl, hG⟩) lk_RL_194 (hrecv (ci := 7) B hP (by decide) (hcc7 _ _ (show hk 1076 = 7 by decide +kernel)) rfl) rfl rfl hl.1 (Nat.le_of_ble_eq_true rfl) ⟨Nat.le_of_ble_eq_true rfl, Nat.le_of_ble_eq_true rfl⟩ ⟨Nat.le_of_ble_eq_true rfl, Nat.le_of_ble_eq_true rfl⟩ dL_law_1789) hS (fun r2 ρ2 H locs q2 hP hS => ?_)
  have hp : PI ρ1 ρ2 := PI_RI hp1 q2
  refine lv_pop hx hb dL_law_1792 rfl ?_
  refine lv_goto (tgt := 1796) hx hb dL_law_1793 (by decide) ?_
  exact kk ρ2 _ _ (LI_step hC hp) hP hS
end OP
