section OP
variable {p : Program} {l : Launch} {e : Env} {s : State} {m : MethodId} {below : List Frame} {meth : Method} {c : Code} {H : Heap} {locs : List Loc} {cells slots : Nat} {Q : State → Prop} {ls : Array Slot} {E : hE} {b pc L : Nat} {xs : Nat → Int32} {rest : List Value} {R : Room} {args : Array Value}
set_option maxHeartbeats 4000000 in
set_option maxRecDepth 100000 in
theorem op_22 (B : MB p s m #[Value.ref b] c code 4 RL E) (hl : lv_has ls 4 [(3, .int 0), (2, .ref (E.2.1 + 1076)), (1, .ref (E.2.1 + 0)), (0, .ref b)]) (hP : WP E r0 H) (hS : va_S (hA E) s.heap H locs) (hX : va_X b L xs s s.heap) (hbl : b < s.heap.size) (hbA : ¬ hA E b) (hL : L = 6) (kk : ∀ (ρ : Nat → Nat → Int32) (H : Heap) (locs : List Loc), WP E ρ H → va_S (hA E) s.heap H locs → W p l e room_1 s m #[Value.ref b] below meth c H locs 1090 19159 Q (F0 m 1796 ls [])) : W p l e room_1 s m #[Value.ref b] below meth c H locs 1090 19159 Q (F0 m 1010 ls []) := by
  have hx := B.1.1
  have hb := B.1.2.1
  refine lv_aload_n hx hb dL_law_1010 rfl (lv_at hl 2 rfl) ?_
  refine lv_aload_n hx hb dL_law_1011 rfl (lv_at hl 3 rfl) ?_
  refine lv_iload_n hx hb dL_law_1012 rfl (lv_at hl 0 rfl) ?_
  refine lv_iconst (v := 1) hx hb dL_law_1013 (by decide) ?_
  refine lv_iadd hx hb dL_law_1014 ?_
  refine lv_topi (fun z1 ez1 => ?_)
  obtain rfl : z1 = 1 := ez1.trans (by decide)
  refine sldn (j := 1) B hX hbl hbA hS hL rfl (by decide) dL_law_1015 ?_
  refine lv_aload_n hx hb dL_law_1016 rfl (lv_at hl 3 rfl) ?_
  refine lv_iload_n hx hb dL_law_1017 rfl (lv_at hl 0 rfl) ?_
  refine lv_iconst (v := 2) hx hb dL_law_1018 (by decide) ?_
  refine lv_iadd hx hb dL_law_1019 ?_
  refine lv_topi (fun z2 ez2 => ?_)
  obtain rfl : z2 = 2 := ez2.trans (by decide)
  refine sldn (j := 2) B hX hbl hbA hS hL rfl (by decide) dL_law_1020 ?_
  refine lv_aload_n hx hb dL_law_1021 rfl (lv_at hl 3 rfl) ?_
  refine lv_iload_n hx hb dL_law_1022 rfl (lv_at hl 0 rfl) ?_
  refine lv_iconst (v := 3) hx hb dL_law_1023 (by decide) ?_
  refine lv_iadd hx hb dL_law_1024 ?_
  refine lv_topi (fun z3 ez3 => ?_)
  obtain rfl : z3 = 3 := ez3.trans (by decide)
  refine sldn (j := 3) B hX hbl hbA hS hL rfl (by decide) dL_law_1025 ?_
  refine call_i (cVt (k := 0) (av := [.int (xs 1), .int (xs 2), .int (xs 3)]) (rest := []) B hP hS (c_used l E (xs 1) (xs 2) (xs 3)) lk_RL_107 (hrecv (ci := 6) B hP (by decide) (hcc6 _ _ (show hk 0 = 6 by decide +kernel)) rfl) rfl rfl hl.1 (Nat.le_of_ble_eq_true rfl) ⟨Nat.le_of_ble_eq_true rfl, Nat.le_of_ble_eq_true rfl⟩ ⟨Nat.le_of_ble_eq_true rfl, Nat.le_of_ble_eq_true rfl⟩ dL_law_1026) hS (fun r1 ρ1 H locs q1 hP hS => ?_)
  refine lv_aload_n hx hb dL_law_1029 rfl (lv_at hl 1 rfl) ?_
  refine lv_aload_n hx hb dL_law_1030 rfl (lv_at hl 3 rfl) ?_
  refine lv_iload_n hx hb dL_law_1031 rfl (lv_at hl 0 rfl) ?_
  refine lv_iconst (v := 1) hx hb dL_law_1032 (by decide) ?_
  refine lv_iadd hx hb dL_law_1033 ?_
  refine lv_topi (fun z4 ez4 => ?_)
  obtain rfl : z4 = 1 := ez4.trans (by decide)
  refine sldn (j := 1) B hX hbl hbA hS hL rfl (by decide) dL_law_1034 ?_
  refine lv_aload_n hx hb dL_law_1035 rfl (lv_at hl 3 rfl) ?_
  refine lv_iload_n hx hb dL_law_1036 rfl (lv_at hl 0 rfl) ?_
  refine lv_iconst (v := 2) hx hb dL_law_1037 (by decide) ?_
  refine lv_iadd hx hb dL_law_1038 ?_
  refine lv_topi (fun z5 ez5 => ?_)
  obtain rfl : z5 = 2 := ez5.trans (by decide)
  refine sldn (j := 2) B hX hbl hbA hS hL rfl (by decide) dL_law_1039 ?_
  refine lv_aload_n hx hb dL_law_1040 rfl (lv_at hl 3 rfl) ?_
  refine lv_iload_n hx hb dL_law_1041 rfl (lv_at hl 0 rfl) ?_
  refine lv_iconst (v := 3) hx hb dL_law_1042 (by decide) ?_
  refine lv_iadd hx hb dL_law_1043 ?_
  refine lv_topi (fun z6 ez6 => ?_)
  obtain rfl : z6 = 3 := ez6.trans (by decide)
  refine sldn (j := 3) B hX hbl hbA hS hL rfl (by decide) dL_law_1044 ?_
  refine call_i (cVt (k := 1076) (av := [.int (xs 1), .int (xs 2), .int (xs 3)]) (rest := [.int r1]) B hP hS (c_mused l E ρ1 (xs 1) (xs 2) (xs 3) q1.2) lk_RL_110 (hrecv (ci := 7) B hP (by decide) (hcc7 _ _ (show hk 1076 = 7 by decide +kernel)) rfl) rfl rfl hl.1 (Nat.le_of_ble_eq_true rfl) ⟨Nat.le_of_ble_eq_true rfl, Nat.le_of_ble_eq_true rfl⟩ ⟨Nat.le_of_ble_eq_true rfl, Nat.le_of_ble_eq_true rfl⟩ dL_law_1045) hS (fun r2 ρ2 H locs q2 hP hS => ?_)
  exact lv_icmp_eq (tgt := 1796) hx hb dL_law_1048 (by decide) (fun _ => kk ρ2 _ _ hP hS) (fun c => absurd (q1.1.trans q2.symm) c)
set_option maxHeartbeats 4000000 in
set_option maxRecDepth 100000 in
theorem op_23 (B : MB p s m #[Value.ref b] c code 4 RL E) (hl : lv_has ls 4 [(3, .int 0), (2, .ref (E.2.1 + 1076)), (1, .ref (E.2.1 + 0)), (0, .ref b)]) (hP : WP E r0 H) (hS : va_S (hA E) s.heap H locs) (hX : va_X b L xs s s.heap) (hbl : b < s.heap.size) (hbA : ¬ hA E b) (hL : L = 6) (kk : ∀ (ρ : Nat → Nat → Int32) (H : Heap) (locs : List Loc), WP E ρ H → va_S (hA E) s.heap H locs → W p l e room_1 s m #[Value.ref b] below meth c H locs 1090 19159 Q (F0 m 1796 ls [])) : W p l e room_1 s m #[Value.ref b] below meth c H locs 1090 19159 Q (F0 m 1053 ls []) := by
  have hx := B.1.1
  have hb := B.1.2.1
  refine lv_aload_n hx hb dL_law_1053 rfl (lv_at hl 2 rfl) ?_
  refine lv_aload_n hx hb dL_law_1054 rfl (lv_at hl 3 rfl) ?_
  refine lv_iload_n hx hb dL_law_1055 rfl (lv_at hl 0 rfl) ?_
  refine lv_iconst (v := 1) hx hb dL_law_1056 (by decide) ?_
  refine lv_iadd hx hb dL_law_1057 ?_
  refine lv_topi (fun z1 ez1 => ?_)
  obtain rfl : z1 = 1 := ez1.trans (by decide)
  refine sldn (j := 1) B hX hbl hbA hS hL rfl (by decide) dL_law_1058 ?_
  refine lv_aload_n hx hb dL_law_1059 rfl (lv_at hl 3 rfl) ?_
  refine lv_iload_n hx hb dL_law_1060 rfl (lv_at hl 0 rfl) ?_
  refine lv_iconst (v := 2) hx hb dL_law_1061 (by decide) ?_
  refine lv_iadd hx hb dL_law_1062 ?_
  refine lv_topi (fun z2 ez2 => ?_)
  obtain rfl : z2 = 2 := ez2.trans (by decide)
  refine sldn (j := 2) B hX hbl hbA hS hL rfl (by decide) dL_law_1063 ?_
  refine call_i (cVt (k := 0) (av := [.int (xs 1), .int (xs 2)]) (rest := []) B hP hS (c_bad l E (xs 1) (xs 2)) lk_RL_111 (hrecv (ci := 6) B hP (by decide) (hcc6 _ _ (show hk 0 = 6 by decide +kernel)) rfl) rfl rfl hl.1 (Nat.le_of_ble_eq_true rfl) ⟨Nat.le_of_ble_eq_true rfl, Nat.le_of_ble_eq_true rfl⟩ ⟨Nat.le_of_ble_eq_true rfl, Nat.le_of_ble_eq_true rfl⟩ dL_law_1064) hS (fun r1 ρ1 H locs q1 hP hS => ?_)
  refine lv_aload_n hx hb dL_law_1067 rfl (lv_at hl 1 rfl) ?_
  refine lv_aload_n hx hb dL_law_1068 rfl (lv_at hl 3 rfl) ?_
  refine lv_iload_n hx hb dL_law_1069 rfl (lv_at hl 0 rfl) ?_
  refine lv_iconst (v := 1) hx hb dL_law_1070 (by decide) ?_
  refine lv_iadd hx hb dL_law_1071 ?_
  refine lv_topi (fun z3 ez3 => ?_)
  obtain rfl : z3 = 1 := ez3.trans (by decide)
  refine sldn (j := 1) B hX hbl hbA hS hL rfl (by decide) dL_law_1072 ?_
  refine lv_aload_n hx hb dL_law_1073 rfl (lv_at hl 3 rfl) ?_
  refine lv_iload_n hx hb dL_law_1074 rfl (lv_at hl 0 rfl) ?_
  refine lv_iconst (v := 2) hx hb dL_law_1075 (by decide) ?_
  refine lv_iadd hx hb dL_law_1076 ?_
  refine lv_topi (fun z4 ez4 => ?_)
  obtain rfl : z4 = 2 := ez4.trans (by decide)
  refine sldn (j := 2) B hX hbl hbA hS hL rfl (by decide) dL_law_1077 ?_
  refine call_i (cVt (k := 1076) (av := [.int (xs 1), .int (xs 2)]) (rest := [.int r1]) B hP hS (c_mbad l E ρ1 (xs 1) (xs 2) q1.2) lk_RL_114 (hrecv (ci := 7) B hP (by decide) (hcc7 _ _ (show hk 1076 = 7 by decide +kernel)) rfl) rfl rfl hl.1 (Nat.le_of_ble_eq_true rfl) ⟨Nat.le_of_ble_eq_true rfl, Nat.le_of_ble_eq_true rfl⟩ ⟨Nat.le_of_ble_eq_true rfl, Nat.le_of_ble_eq_true rfl⟩ dL_law_1078) hS (fun r2 ρ2 H locs q2 hP hS => ?_)
  exact lv_icmp_eq (tgt := 1796) hx hb dL_law_1081 (by decide) (fun _ => kk ρ2 _ _ hP hS) (fun c => absurd (q1.1.trans q2.symm) c)
set_option maxHeartbeats 4000000 in
set_option maxRecDepth 100000 in
theorem op_24 (B : MB p s m #[Value.ref b] c code 4 RL E) (hl : lv_has ls 4 [(3, .int 0), (2, .ref (E.2.1 + 1076)), (1, .ref (E.2.1 + 0)), (0, .ref b)]) (hP : WP E r0 H) (hS : va_S (hA E) s.heap H locs) (hX : va_X b L xs s s.heap) (hbl : b < s.heap.size) (hbA : ¬ hA E b) (hL : L = 6) (kk : ∀ (ρ : Nat → Nat → Int32) (H : Heap) (locs : List Loc), WP E ρ H → va_S (hA E) s.heap H locs → W p l e room_1 s m #[Value.ref b] below meth c H locs 1090 19159 Q (F0 m 1796 ls [])) : W p l e room_1 s m #[Value.ref b] below meth c H locs 1090 19159 Q (F0 m 1086 ls []) := by
  have hx := B.1.1
  have hb := B.1.2.1
  refine lv_aload_n hx hb dL_law_1086 rfl (lv_at hl 2 rfl) ?_
  refine lv_aload_n hx hb dL_law_1087 rfl (lv_at hl 3 rfl) ?_
  refine lv_iload_n hx hb dL_law_1088 rfl (lv_at hl 0 rfl) ?_
  refine lv_iconst (v := 1) hx hb dL_law_1089 (by decide) ?_
  refine lv_iadd hx hb dL_law_1090 ?_
  refine lv_topi (fun z1 ez1 => ?_)
  obtain rfl : z1 = 1 := ez1.trans (by decide)
  refine sldn (j := 1) B hX hbl hbA hS hL rfl (by decide) dL_law_1091 ?_
  refine lv_aload_n hx hb dL_law_1092 rfl (lv_at hl 3 rfl) ?_
  refine lv_iload_n hx hb dL_law_1093 rfl (lv_at hl 0 rfl) ?_
  refine lv_iconst (v := 2) hx hb dL_law_1094 (by decide) ?_
  refine lv_iadd hx hb dL_law_1095 ?_
  refine lv_topi (fun z2 ez2 => ?_)
  obtain rfl : z2 = 2 := ez2.trans (by decide)
  refine sldn (j := 2) B hX hbl hbA hS hL rfl (by decide) dL_law_1096 ?_
  refine lv_aload_n hx hb dL_law_1097 rfl (lv_at hl 3 rfl) ?_
  refine lv_iload_n hx hb dL_law_1098 rfl (lv_at hl 0 rfl) ?_
  refine lv_iconst (v := 3) hx hb dL_law_1099 (by decide) ?_
  refine lv_iadd hx hb dL_law_1100 ?_
  refine lv_topi (fun z3 ez3 => ?_)
  obtain rfl : z3 = 3 := ez3.trans (by decide)
  refine sldn (j := 3) B hX hbl hbA hS hL rfl (by decide) dL_law_1101 ?_
  refine call_i (cVt (k := 0) (av := [.int (xs 1), .int (xs 2), .int (xs 3)]) (rest := []) B hP hS (c_sent l E (xs 1) (xs 2) (xs 3)) lk_RL_115 (hrecv (ci := 6) B hP (by decide) (hcc6 _ _ (show hk 0 = 6 by decide +kernel)) rfl) rfl rfl hl.1 (Nat.le_of_ble_eq_true rfl) ⟨Nat.le_of_ble_eq_true rfl, Nat.le_of_ble_eq_true rfl⟩ ⟨Nat.le_of_ble_eq_true rfl, Nat.le_of_ble_eq_true rfl⟩ dL_law_1102) hS (fun r1 ρ1 H locs q1 hP hS => ?_)
  refine lv_aload_n hx hb dL_law_1105 rfl (lv_at hl 1 rfl) ?_
  refine lv_aload_n hx hb dL_law_1106 rfl (lv_at hl 3 rfl) ?_
  refine lv_iload_n hx hb dL_law_1107 rfl (lv_at hl 0 rfl) ?_
  refine lv_iconst (v := 1) hx hb dL_law_1108 (by decide) ?_
  refine lv_iadd hx hb dL_law_1109 ?_
  refine lv_topi (fun z4 ez4 => ?_)
  obtain rfl : z4 = 1 := ez4.trans (by decide)
  refine sldn (j := 1) B hX hbl hbA hS hL rfl (by decide) dL_law_1110 ?_
  refine lv_aload_n hx hb dL_law_1111 rfl (lv_at hl 3 rfl) ?_
  refine lv_iload_n hx hb dL_law_1112 rfl (lv_at hl 0 rfl) ?_
  refine lv_iconst (v := 2) hx hb dL_law_1113 (by decide) ?_
  refine lv_iadd hx hb dL_law_1114 ?_
  refine lv_topi (fun z5 ez5 => ?_)
  obtain rfl : z5 = 2 := ez5.trans (by decide)
  refine sldn (j := 2) B hX hbl hbA hS hL rfl (by decide) dL_law_1115 ?_
  refine lv_aload_n hx hb dL_law_1116 rfl (lv_at hl 3 rfl) ?_
  refine lv_iload_n hx hb dL_law_1117 rfl (lv_at hl 0 rfl) ?_
  refine lv_iconst (v := 3) hx hb dL_law_1118 (by decide) ?_
  refine lv_iadd hx hb dL_law_1119 ?_
  refine lv_topi (fun z6 ez6 => ?_)
  obtain rfl : z6 = 3 := ez6.trans (by decide)
  refine sldn (j := 3) B hX hbl hbA hS hL rfl (by decide) dL_law_1120 ?_
  refine call_i (cVt (k := 1076) (av := [.int (xs 1), .int (xs 2), .int (xs 3)]) (rest := [.int r1]) B hP hS (c_msent l E ρ1 (xs 1) (xs 2) (xs 3) q1.2) lk_RL_118 (hrecv (ci := 7) B hP (by decide) (hcc7 _ _ (show hk 1076 = 7 by decide +kernel)) rfl) rfl rfl hl.1 (Nat.le_of_ble_eq_true rfl) ⟨Nat.le_of_ble_eq_true rfl, Nat.le_of_ble_eq_true rfl⟩ ⟨Nat.le_of_ble_eq_true rfl, Nat.le_of_ble_eq_true rfl⟩ dL_law_1121) hS (fun r2 ρ2 H locs q2 hP hS => ?_)
  exact lv_icmp_eq (tgt := 1796) hx hb dL_law_1124 (by decide) (fun _ => kk ρ2 _ _ hP hS) (fun c => absurd (q1.1.trans q2.symm) c)
set_option maxHeartbeats 4000000 in
set_option maxRecDepth 100000 in
theorem op_25 (B : MB p s m #[Value.ref b] c code 4 RL E) (hl : lv_has ls 4 [(3, .int 0), (2, .ref (E.2.1 + 1076)), (1, .ref (E.2.1 + 0)), (0, .ref b)]) (hP : WP E r0 H) (hS : va_S (hA E) s.heap H locs) (hX : va_X b L xs s s.heap) (hbl : b < s.heap.size) (hbA : ¬ hA E b) (hL : L = 6) (kk : ∀ (ρ : Nat → Nat → Int32) (H : Heap) (locs : List Loc), WP E ρ H → va_S (hA E) s.heap H locs → W p l e room_1 s m #[Value.ref b] below meth c H locs 1090 19159 Q (F0 m 1796 ls [])) : W p l e room_1 s m #[Value.ref b] below meth c H locs 1090 19159 Q (F0 m 1129 ls []) := by
  have hx := B.1.1
  have hb := B.1.2.1
  refine lv_aload_n hx hb dL_law_1129 rfl (lv_at hl 2 rfl) ?_
  refine lv_aload_n hx hb dL_law_1130 rfl (lv_at hl 3 rfl) ?_
  refine lv_iload_n hx hb dL_law_1131 rfl (lv_at hl 0 rfl) ?_
  refine lv_iconst (v := 1) hx hb dL_law_1132 (by decide) ?_
  refine lv_iadd hx hb dL_law_1133 ?_
  refine lv_topi (fun z1 ez1 => ?_)
  obtain rfl : z1 = 1 := ez1.trans (by decide)
  refine sldn (j := 1) B hX hbl hbA hS hL rfl (by decide) dL_law_1134 ?_
  refine lv_aload_n hx hb dL_law_1135 rfl (lv_at hl 3 rfl) ?_
  refine lv_iload_n hx hb dL_law_1136 rfl (lv_at hl 0 rfl) ?_
  refine lv_iconst (v := 2) hx hb dL_law_1137 (by decide) ?_
  refine lv_iadd hx hb dL_law_1138 ?_
  refine lv_topi (fun z2 ez2 => ?_)
  obtain rfl : z2 = 2 := ez2.trans (by decide)
  refine sldn (j := 2) B hX hbl hbA hS hL rfl (by decide) dL_law_1139 ?_
  refine lv_aload_n hx hb dL_law_1140 rfl (lv_at hl 3 rfl) ?_
  refine lv_iload_n hx hb dL_law_1141 rfl (lv_at hl 0 rfl) ?_
  refine lv_iconst (v := 3) hx hb dL_law_1142 (by decide) ?_
  refine lv_iadd hx hb dL_law_1143 ?_
  refine lv_topi (fun z3 ez3 => ?_)
  obtain rfl : z3 = 3 := ez3.trans (by decide)
  refine sldn (j := 3) B hX hbl hbA hS hL rfl (by decide) dL_law_1144 ?_
  refine call_i (cVt (k := 0) (av := [.int (xs 1), .int (xs 2), .int (xs 3)]) (rest := []) B hP hS (c_link l E (xs 1) (xs 2) (xs 3)) lk_RL_119 (hrecv (ci := 6) B hP (by decide) (hcc6 _ _ (show hk 0 = 6 by decide +kernel)) rfl) rfl rfl hl.1 (Nat.le_of_ble_eq_true rfl) ⟨Nat.le_of_ble_eq_true rfl, Nat.le_of_ble_eq_true rfl⟩ ⟨Nat.le_of_ble_eq_true rfl, Nat.le_of_ble_eq_true rfl⟩ dL_law_1145) hS (fun r1 ρ1 H locs q1 hP hS => ?_)
  refine lv_aload_n hx hb dL_law_1148 rfl (lv_at hl 1 rfl) ?_
  refine lv_aload_n hx hb dL_law_1149 rfl (lv_at hl 3 rfl) ?_
  refine lv_iload_n hx hb dL_law_1150 rfl (lv_at hl 0 rfl) ?_
  refine lv_iconst (v := 1) hx hb dL_law_1151 (by decide) ?_
  refine lv_iadd hx hb dL_law_1152 ?_
  refine lv_topi (fun z4 ez4 => ?_)
  obtain rfl : z4 = 1 := ez4.trans (by decide)
  refine sldn (j := 1) B hX hbl hbA hS hL rfl (by decide) dL_law_1153 ?_
  refine lv_aload_n hx hb dL_law_1154 rfl (lv_at hl 3 rfl) ?_
  refine lv_iload_n hx hb dL_law_1155 rfl (lv_at hl 0 rfl) ?_
  refine lv_iconst (v := 2) hx hb dL_law_1156 (by decide) ?_
  refine lv_iadd hx hb dL_law_1157 ?_
  refine lv_topi (fun z5 ez5 => ?_)
  obtain rfl : z5 = 2 := ez5.trans (by decide)
  refine sldn (j := 2) B hX hbl hbA hS hL rfl (by decide) dL_law_1158 ?_
  refine lv_aload_n hx hb dL_law_1159 rfl (lv_at hl 3 rfl) ?_
  refine lv_iload_n hx hb dL_law_1160 rfl (lv_at hl 0 rfl) ?_
  refine lv_iconst (v := 3) hx hb dL_law_1161 (by decide) ?_
  refine lv_iadd hx hb dL_law_1162 ?_
  refine lv_topi (fun z6 ez6 => ?_)
  obtain rfl : z6 = 3 := ez6.trans (by decide)
  refine sldn (j := 3) B hX hbl hbA hS hL rfl (by decide) dL_law_1163 ?_
  refine call_i (cVt (k := 1076) (av := [.int (xs 1), .int (xs 2), .int (xs 3)]) (rest := [.int r1]) B hP hS (c_mlink l E ρ1 (xs 1) (xs 2) (xs 3) q1.2) lk_RL_122 (hrecv (ci := 7) B hP (by decide) (hcc7 _ _ (show hk 1076 = 7 by decide +kernel)) rfl) rfl rfl hl.1 (Nat.le_of_ble_eq_true rfl) ⟨Nat.le_of_ble_eq_true rfl, Nat.le_of_ble_eq_true rfl⟩ ⟨Nat.le_of_ble_eq_true rfl, Nat.le_of_ble_eq_true rfl⟩ dL_law_1164) hS (fun r2 ρ2 H locs q2 hP hS => ?_)
  exact lv_icmp_eq (tgt := 1796) hx hb dL_law_1167 (by decide) (fun _ => kk ρ2 _ _ hP hS) (fun c => absurd (q1.1.trans q2.symm) c)
set_option maxHeartbeats 4000000 in
set_option maxRecDepth 100000 in
theorem op_26 (B : MB p s m #[Value.ref b] c code 4 RL E) (hl : lv_has ls 4 [(3, .int 0), (2, .ref (E.2.1 + 1076)), (1, .ref (E.2.1 + 0)), (0, .ref b)]) (hP : WP E r0 H) (hS : va_S (hA E) s.heap H locs) (hX : va_X b L xs s s.heap) (hbl : b < s.heap.size) (hbA : ¬ hA E b) (hL : L = 6) (kk : ∀ (ρ : Nat → Nat → Int32) (H : Heap) (locs : List Loc), WP E ρ H → va_S (hA E) s.heap H locs → W p l e room_1 s m #[Value.ref b] below meth c H locs 1090 19159 Q (F0 m 1796 ls [])) : W p l e room_1 s m #[Value.ref b] below meth c H locs 1090 19159 Q (F0 m 1172 ls []) := by
  have hx := B.1.1
  have hb := B.1.2.1
  refine lv_aload_n hx hb dL_law_1172 rfl (lv_at hl 2 rfl) ?_
  refine lv_aload_n hx hb dL_law_1173 rfl (lv_at hl 3 rfl) ?_
  refine lv_iload_n hx hb dL_law_1174 rfl (lv_at hl 0 rfl) ?_
  refine lv_iconst (v := 1) hx hb dL_law_1175 (by decide) ?_
  refine lv_iadd hx hb dL_law_1176 ?_
  refine lv_topi (fun z1 ez1 => ?_)
  obtain rfl : z1 = 1 := ez1.trans (by decide)
  refine sldn (j := 1) B hX hbl hbA hS hL rfl (by decide) dL_law_1177 ?_
  refine lv_aload_n hx hb dL_law_1178 rfl (lv_at hl 3 rfl) ?_
  refine lv_iload_n hx hb dL_law_1179 rfl (lv_at hl 0 rfl) ?_
  refine lv_iconst (v := 2) hx hb dL_law_1180 (by decide) ?_
  refine lv_iadd hx hb dL_law_1181 ?_
  refine lv_topi (fun z2 ez2 => ?_)
  obtain rfl : z2 = 2 := ez2.trans (by decide)
  refine sldn (j := 2) B hX hbl hbA hS hL rfl (by decide) dL_law_1182 ?_
  refine lv_aload_n hx hb dL_law_1183 rfl (lv_at hl 3 rfl) ?_
  refine lv_iload_n hx hb dL_law_1184 rfl (lv_at hl 0 rfl) ?_
  refine lv_iconst (v := 3) hx hb dL_law_1185 (by decide) ?_
  refine lv_iadd hx hb dL_law_1186 ?_
  refine lv_topi (fun z3 ez3 => ?_)
  obtain rfl : z3 = 3 := ez3.trans (by decide)
  refine sldn (j := 3) B hX hbl hbA hS hL rfl (by decide) dL_law_1187 ?_
  refine call_i (cVt (k := 0) (av := [.int (xs 1), .int (xs 2), .int (xs 3)]) (rest := []) B hP hS (c_hash l E (xs 1) (xs 2) (xs 3)) lk_RL_123 (hrecv (ci := 6) B hP (by decide) (hcc6 _ _ (show hk 0 = 6 by decide +kernel)) rfl) rfl rfl hl.1 (Nat.le_of_ble_eq_true rfl) ⟨Nat.le_of_ble_eq_true rfl, Nat.le_of_ble_eq_true rfl⟩ ⟨Nat.le_of_ble_eq_true rfl, Nat.le_of_ble_eq_true rfl⟩ dL_law_1188) hS (fun r1 ρ1 H locs q1 hP hS => ?_)
  refine lv_aload_n hx hb dL_law_1191 rfl (lv_at hl 1 rfl) ?_
  refine lv_aload_n hx hb dL_law_1192 rfl (lv_at hl 3 rfl) ?_
  refine lv_iload_n hx hb dL_law_1193 rfl (lv_at hl 0 rfl) ?_
  refine lv_iconst (v := 1) hx hb dL_law_1194 (by decide) ?_
  refine lv_iadd hx hb dL_law_1195 ?_
  refine lv_topi (fun z4 ez4 => ?_)
  obtain rfl : z4 = 1 := ez4.trans (by decide)
  refine sldn (j := 1) B hX hbl hbA hS hL rfl (by decide) dL_law_1196 ?_
  refine lv_aload_n hx hb dL_law_1197 rfl (lv_at hl 3 rfl) ?_
  refine lv_iload_n hx hb dL_law_1198 rfl (lv_at hl 0 rfl) ?_
  refine lv_iconst (v := 2) hx hb dL_law_1199 (by decide) ?_
  refine lv_iadd hx hb dL_law_1200 ?_
  refine lv_topi (fun z5 ez5 => ?_)
  obtain rfl : z5 = 2 := ez5.trans (by decide)
  refine sldn (j := 2) B hX hbl hbA hS hL rfl (by decide) dL_law_1201 ?_
  refine lv_aload_n hx hb dL_law_1202 rfl (lv_at hl 3 rfl) ?_
  refine lv_iload_n hx hb dL_law_1203 rfl (lv_at hl 0 rfl) ?_
  refine lv_iconst (v := 3) hx hb dL_law_1204 (by decide) ?_
  refine lv_iadd hx hb dL_law_1205 ?_
  refine lv_topi (fun z6 ez6 => ?_)
  obtain rfl : z6 = 3 := ez6.trans (by decide)
  refine sldn (j := 3) B hX hbl hbA hS hL rfl (by decide) dL_law_1206 ?_
  refine call_i (cVt (k := 1076) (av := [.int (xs 1), .int (xs 2), .int (xs 3)]) (rest := [.int r1]) B hP hS (c_mhash l E ρ1 (xs 1) (xs 2) (xs 3) q1.2) lk_RL_126 (hrecv (ci := 7) B hP (by decide) (hcc7 _ _ (show hk 1076 = 7 by decide +kernel)) rfl) rfl rfl hl.1 (Nat.le_of_ble_eq_true rfl) ⟨Nat.le_of_ble_eq_true rfl, Nat.le_of_ble_eq_true rfl⟩ ⟨Nat.le_of_ble_eq_true rfl, Nat.le_of_ble_eq_true rfl⟩ dL_law_1207) hS (fun r2 ρ2 H locs q2 hP hS => ?_)
  exact lv_icmp_eq (tgt := 1796) hx hb dL_law_1210 (by decide) (fun _ => kk ρ2 _ _ hP hS) (fun c => absurd (q1.1.trans q2.symm) c)
set_option maxHeartbeats 4000000 in
set_option maxRecDepth 100000 in
theorem op_27 (B : MB p s m #[Value.ref b] c code 4 RL E) (hl : lv_has ls 4 [(3, .int 0), (2, .ref (E.2.1 + 1076)), (1, .ref (E.2.1 + 0)), (0, .ref b)]) (hP : WP E r0 H) (hS : va_S (hA E) s.heap H locs) (hX : va_X b L xs s s.heap) (hbl : b < s.heap.size) (hbA : ¬ hA E b) (hL : L = 6) (kk : ∀ (ρ : Nat → Nat → Int32) (H : Heap) (locs : List Loc), WP E ρ H → va_S (hA E) s.heap H locs → W p l e room_1 s m #[Value.ref b] below meth c H locs 1090 19159 Q (F0 m 1796 ls [])) : W p l e room_1 s m #[Value.ref b] below meth c H locs 1090 19159 Q (F0 m 1215 ls []) := by
  have hx := B.1.1
  have hb := B.1.2.1
  refine lv_aload_n hx hb dL_law_1215 rfl (lv_at hl 2 rfl) ?_
  refine lv_aload_n hx hb dL_law_1216 rfl (lv_at hl 3 rfl) ?_
  refine lv_iload_n hx hb dL_law_1217 rfl (lv_at hl 0 rfl) ?_
  refine lv_iconst (v := 1) hx hb dL_law_1218 (by decide) ?_
  refine lv_iadd hx hb dL_law_1219 ?_
  refine lv_topi (fun z1 ez1 => ?_)
  obtain rfl : z1 = 1 := ez1.trans (by decide)
  refine sldn (j := 1) B hX hbl hbA hS hL rfl (by decide) dL_law_1220 ?_
  refine lv_aload_n hx hb dL_law_1221 rfl (lv_at hl 3 rfl) ?_
  refine lv_iload_n hx hb dL_law_1222 rfl (lv_at hl 0 rfl) ?_
  refine lv_iconst (v := 2) hx hb dL_law_1223 (by decide) ?_
  refine lv_iadd hx hb dL_law_1224 ?_
  refine lv_topi (fun z2 ez2 => ?_)
  obtain rfl : z2 = 2 := ez2.trans (by decide)
  refine sldn (j := 2) B hX hbl hbA hS hL rfl (by decide) dL_law_1225 ?_
  refine lv_aload_n hx hb dL_law_1226 rfl (lv_at hl 3 rfl) ?_
  refine lv_iload_n hx hb dL_law_1227 rfl (lv_at hl 0 rfl) ?_
  refine lv_iconst (v := 3) hx hb dL_law_1228 (by decide) ?_
  refine lv_iadd hx hb dL_law_1229 ?_
  refine lv_topi (fun z3 ez3 => ?_)
  obtain rfl : z3 = 3 := ez3.trans (by decide)
  refine sldn (j := 3) B hX hbl hbA hS hL rfl (by decide) dL_law_1230 ?_
  refine call_i (cVt (k := 0) (av := [.int (xs 1), .int (xs 2), .int (xs 3)]) (rest := []) B hP hS (c_reserved l E (xs 1) (xs 2) (xs 3)) lk_RL_127 (hrecv (ci := 6) B hP (by decide) (hcc6 _ _ (show hk 0 = 6 by decide +kernel)) rfl) rfl rfl hl.1 (Nat.le_of_ble_eq_true rfl) ⟨Nat.le_of_ble_eq_true rfl, Nat.le_of_ble_eq_true rfl⟩ ⟨Nat.le_of_ble_eq_true rfl, Nat.le_of_ble_eq_true rfl⟩ dL_law_1231) hS (fun r1 ρ1 H locs q1 hP hS => ?_)
  refine lv_aload_n hx hb dL_law_1234 rfl (lv_at hl 1 rfl) ?_
  refine lv_aload_n hx hb dL_law_1235 rfl (lv_at hl 3 rfl) ?_
  refine lv_iload_n hx hb dL_law_1236 rfl (lv_at hl 0 rfl) ?_
  refine lv_iconst (v := 1) hx hb dL_law_1237 (by decide) ?_
  refine lv_iadd hx hb dL_law_1238 ?_
  refine lv_topi (fun z4 ez4 => ?_)
  obtain rfl : z4 = 1 := ez4.trans (by decide)
  refine sldn (j := 1) B hX hbl hbA hS hL rfl (by decide) dL_law_1239 ?_
  refine lv_aload_n hx hb dL_law_1240 rfl (lv_at hl 3 rfl) ?_
  refine lv_iload_n hx hb dL_law_1241 rfl (lv_at hl 0 rfl) ?_
  refine lv_iconst (v := 2) hx hb dL_law_1242 (by decide) ?_
  refine lv_iadd hx hb dL_law_1243 ?_
  refine lv_topi (fun z5 ez5 => ?_)
  obtain rfl : z5 = 2 := ez5.trans (by decide)
  refine sldn (j := 2) B hX hbl hbA hS hL rfl (by decide) dL_law_1244 ?_
  refine lv_aload_n hx hb dL_law_1245 rfl (lv_at hl 3 rfl) ?_
  refine lv_iload_n hx hb dL_law_1246 rfl (lv_at hl 0 rfl) ?_
  refine lv_iconst (v := 3) hx hb dL_law_1247 (by decide) ?_
  refine lv_iadd hx hb dL_law_1248 ?_
  refine lv_topi (fun z6 ez6 => ?_)
  obtain rfl : z6 = 3 := ez6.trans (by decide)
  refine sldn (j := 3) B hX hbl hbA hS hL rfl (by decide) dL_law_1249 ?_
  refine call_i (cVt (k := 1076) (av := [.int (xs 1), .int (xs 2), .int (xs 3)]) (rest := [.int r1]) B hP hS (c_mreserved l E ρ1 (xs 1) (xs 2) (xs 3) q1.2) lk_RL_130 (hrecv (ci := 7) B hP (by decide) (hcc7 _ _ (show hk 1076 = 7 by decide +kernel)) rfl) rfl rfl hl.1 (Nat.le_of_ble_eq_true rfl) ⟨Nat.le_of_ble_eq_true rfl, Nat.le_of_ble_eq_true rfl⟩ ⟨Nat.le_of_ble_eq_true rfl, Nat.le_of_ble_eq_true rfl⟩ dL_law_1250) hS (fun r2 ρ2 H locs q2 hP hS => ?_)
  exact lv_icmp_eq (tgt := 1796) hx hb dL_law_1253 (by decide) (fun _ => kk ρ2 _ _ hP hS) (fun c => absurd (q1.1.trans q2.symm) c)
set_option maxHeartbeats 4000000 in
set_option maxRecDepth 100000 in
theorem op_28 (B : MB p s m #[Value.ref b] c code 4 RL E) (hl : lv_has ls 4 [(3, .int 0), (2, .ref (E.2.1 + 1076)), (1, .ref (E.2.1 + 0)), (0, .ref b)]) (hP : WP E r0 H) (hS : va_S (hA E) s.heap H locs) (hX : va_X b L xs s s.heap) (hbl : b < s.heap.size) (hbA : ¬ hA E b) (hL : L = 6) (kk : ∀ (ρ : Nat → Nat → Int32) (H : Heap) (locs : List Loc), WP E ρ H → va_S (hA E) s.heap H locs → W p l e room_1 s m #[Value.ref b] below meth c H locs 1090 19159 Q (F0 m 1796 ls [])) : W p l e room_1 s m #[Value.ref b] below meth c H locs 1090 19159 Q (F0 m 1258 ls []) := by
  have hx := B.1.1
  have hb := B.1.2.1
  refine lv_aload_n hx hb dL_law_1258 rfl (lv_at hl 2 rfl) ?_
  refine lv_aload_n hx hb dL_law_1259 rfl (lv_at hl 3 rfl) ?_
  refine lv_iload_n hx hb dL_law_1260 rfl (lv_at hl 0 rfl) ?_
  refine lv_iconst (v := 1) hx hb dL_law_1261 (by decide) ?_
  refine lv_iadd hx hb dL_law_1262 ?_
  refine lv_topi (fun z1 ez1 => ?_)
  obtain rfl : z1 = 1 := ez1.trans (by decide)
  refine sldn (j := 1) B hX hbl hbA hS hL rfl (by decide) dL_law_1263 ?_
  refine lv_aload_n hx hb dL_law_1264 rfl (lv_at hl 3 rfl) ?_
  refine lv_iload_n hx hb dL_law_1265 rfl (lv_at hl 0 rfl) ?_
  refine lv_iconst (v := 2) hx hb dL_law_1266 (by decide) ?_
  refine lv_iadd hx hb dL_law_1267 ?_
  refine lv_topi (fun z2 ez2 => ?_)
  obtain rfl : z2 = 2 := ez2.trans (by decide)
  refine sldn (j := 2) B hX hbl hbA hS hL rfl (by decide) dL_law_1268 ?_
  refine lv_aload_n hx hb dL_law_1269 rfl (lv_at hl 3 rfl) ?_
  refine lv_iload_n hx hb dL_law_1270 rfl (lv_at hl 0 rfl) ?_
  refine lv_iconst (v := 3) hx hb dL_law_1271 (by decide) ?_
  refine lv_iadd hx hb dL_law_1272 ?_
  refine lv_topi (fun z3 ez3 => ?_)
  obtain rfl : z3 = 3 := ez3.trans (by decide)
  refine sldn (j := 3) B hX hbl hbA hS hL rfl (by decide) dL_law_1273 ?_
  refine call_i (cVt (k := 0) (av := [.int (xs 1), .int (xs 2), .int (xs 3)]) (rest := []) B hP hS (c_isThere l E (xs 1) (xs 2) (xs 3)) lk_RL_131 (hrecv (ci := 6) B hP (by decide) (hcc6 _ _ (show hk 0 = 6 by decide +kernel)) rfl) rfl rfl hl.1 (Nat.le_of_ble_eq_true rfl) ⟨Nat.le_of_ble_eq_true rfl, Nat.le_of_ble_eq_true rfl⟩ ⟨Nat.le_of_ble_eq_true rfl, Nat.le_of_ble_eq_true rfl⟩ dL_law_1274) hS (fun r1 ρ1 H locs q1 hP hS => ?_)
  refine lv_aload_n hx hb dL_law_1277 rfl (lv_at hl 1 rfl) ?_
  refine lv_aload_n hx hb dL_law_1278 rfl (lv_at hl 3 rfl) ?_
  refine lv_iload_n hx hb dL_law_1279 rfl (lv_at hl 0 rfl) ?_
  refine lv_iconst (v := 1) hx hb dL_law_1280 (by decide) ?_
  refine lv_iadd hx hb dL_law_1281 ?_
  refine lv_topi (fun z4 ez4 => ?_)
  obtain rfl : z4 = 1 := ez4.trans (by decide)
  refine sldn (j := 1) B hX hbl hbA hS hL rfl (by decide) dL_law_1282 ?_
  refine lv_aload_n hx hb dL_law_1283 rfl (lv_at hl 3 rfl) ?_
  refine lv_iload_n hx hb dL_law_1284 rfl (lv_at hl 0 rfl) ?_
  refine lv_iconst (v := 2) hx hb dL_law_1285 (by decide) ?_
  refine lv_iadd hx hb dL_law_1286 ?_
  refine lv_topi (fun z5 ez5 => ?_)
  obtain rfl : z5 = 2 := ez5.trans (by decide)
  refine sldn (j := 2) B hX hbl hbA hS hL rfl (by decide) dL_law_1287 ?_
  refine lv_aload_n hx hb dL_law_1288 rfl (lv_at hl 3 rfl) ?_
  refine lv_iload_n hx hb dL_law_1289 rfl (lv_at hl 0 rfl) ?_
  refine lv_iconst (v := 3) hx hb dL_law_1290 (by decide) ?_
  refine lv_iadd hx hb dL_law_1291 ?_
  refine lv_topi (fun z6 ez6 => ?_)
  obtain rfl : z6 = 3 := ez6.trans (by decide)
  refine sldn (j := 3) B hX hbl hbA hS hL rfl (by decide) dL_law_1292 ?_
  refine call_i (cVt (k := 1076) (av := [.int (xs 1), .int (xs 2), .int (xs 3)]) (rest := [.int r1]) B hP hS (c_misThere l E ρ1 (xs 1) (xs 2) (xs 3) q1.2) lk_RL_134 (hrecv (ci := 7) B hP (by decide) (hcc7 _ _ (show hk 1076 = 7 by decide +kernel)) rfl) rfl rfl hl.1 (Nat.le_of_ble_eq_true rfl) ⟨Nat.le_of_ble_eq_true rfl, Nat.le_of_ble_eq_true rfl⟩ ⟨Nat.le_of_ble_eq_true rfl, Nat.le_of_ble_eq_true rfl⟩ dL_law_1293) hS (fun r2 ρ2 H locs q2 hP hS => ?_)
  exact lv_icmp_eq (tgt := 1796) hx hb dL_law_1296 (by decide) (fun _ => kk ρ2 _ _ hP hS) (fun c => absurd (q1.1.trans q2.symm) c)
set_option maxHeartbeats 4000000 in
set_option maxRecDepth 100000 in
theorem op_29 (B : MB p s m #[Value.ref b] c code 4 RL E) (hl : lv_has ls 4 [(3, .int 0), (2, .ref (E.2.1 + 1076)), (1, .ref (E.2.1 + 0)), (0, .ref b)]) (hP : WP E r0 H) (hS : va_S (hA E) s.heap H locs) (hX : va_X b L xs s s.heap) (hbl : b < s.heap.size) (hbA : ¬ hA E b) (hL : L = 6) (kk : ∀ (ρ : Nat → Nat → Int32) (H : Heap) (locs : List Loc), WP E ρ H → va_S (hA E) s.heap H locs → W p l e room_1 s m #[Value.ref b] below meth c H locs 1090 19159 Q (F0 m 1796 ls [])) : W p l e room_1 s m #[Value.ref b] below meth c H locs 1090 19159 Q (F0 m 1301 ls []) := by
  have hx := B.1.1
  have hb := B.1.2.1
  refine lv_aload_n hx hb dL_law_1301 rfl (lv_at hl 2 rfl) ?_
  refine lv_aload_n hx hb dL_law_1302 rfl (lv_at hl 3 rfl) ?_
  refine lv_iload_n hx hb dL_law_1303 rfl (lv_at hl 0 rfl) ?_
  refine lv_iconst (v := 1) hx hb dL_law_1304 (by decide) ?_
  refine lv_iadd hx hb dL_law_1305 ?_
  refine lv_topi (fun z1 ez1 => ?_)
  obtain rfl : z1 = 1 := ez1.trans (by decide)
  refine sldn (j := 1) B hX hbl hbA hS hL rfl (by decide) dL_law_1306 ?_
  refine lv_aload_n hx hb dL_law_1307 rfl (lv_at hl 3 rfl) ?_
  refine lv_iload_n hx hb dL_law_1308 rfl (lv_at hl 0 rfl) ?_
  refine lv_iconst (v := 2) hx hb dL_law_1309 (by decide) ?_
  refine lv_iadd hx hb dL_law_1310 ?_
  refine lv_topi (fun z2 ez2 => ?_)
  obtain rfl : z2 = 2 := ez2.trans (by decide)
  refine sldn (j := 2) B hX hbl hbA hS hL rfl (by decide) dL_law_1311 ?_
  refine lv_aload_n hx hb dL_law_1312 rfl (lv_at hl 3 rfl) ?_
  refine lv_iload_n hx hb dL_law_1313 rfl (lv_at hl 0 rfl) ?_
  refine lv_iconst (v := 3) hx hb dL_law_1314 (by decide) ?_
  refine lv_iadd hx hb dL_law_1315 ?_
  refine lv_topi (fun z3 ez3 => ?_)
  obtain rfl : z3 = 3 := ez3.trans (by decide)
  refine sldn (j := 3) B hX hbl hbA hS hL rfl (by decide) dL_law_1316 ?_
  refine lv_aload_n hx hb dL_law_1317 rfl (lv_at hl 3 rfl) ?_
  refine lv_iload_n hx hb dL_law_1318 rfl (lv_at hl 0 rfl) ?_
  refine lv_iconst (v := 4) hx hb dL_law_1319 (by decide) ?_
  refine lv_iadd hx hb dL_law_1320 ?_
  refine lv_topi (fun z4 ez4 => ?_)
  obtain rfl : z4 = 4 := ez4.trans (by decide)
  refine sldn (j := 4) B hX hbl hbA hS hL rfl (by decide) dL_law_1321 ?_
  refine call_i (cVt (k := 0) (av := [.int (xs 1), .int (xs 2), .int (xs 3), .int (xs 4)]) (rest := []) B hP hS (c_odds l E (xs 1) (xs 2) (xs 3) (xs 4)) lk_RL_135 (hrecv (ci := 6) B hP (by decide) (hcc6 _ _ (show hk 0 = 6 by decide +kernel)) rfl) rfl rfl hl.1 (Nat.le_of_ble_eq_true rfl) ⟨Nat.le_of_ble_eq_true rfl, Nat.le_of_ble_eq_true rfl⟩ ⟨Nat.le_of_ble_eq_true rfl, Nat.le_of_ble_eq_true rfl⟩ dL_law_1322) hS (fun r1 ρ1 H locs q1 hP hS => ?_)
  refine lv_aload_n hx hb dL_law_1325 rfl (lv_at hl 1 rfl) ?_
  refine lv_aload_n hx hb dL_law_1326 rfl (lv_at hl 3 rfl) ?_
  refine lv_iload_n hx hb dL_law_1327 rfl (lv_at hl 0 rfl) ?_
  refine lv_iconst (v := 1) hx hb dL_law_1328 (by decide) ?_
  refine lv_iadd hx hb dL_law_1329 ?_
  refine lv_topi (fun z5 ez5 => ?_)
  obtain rfl : z5 = 1 := ez5.trans (by decide)
  refine sldn (j := 1) B hX hbl hbA hS hL rfl (by decide) dL_law_1330 ?_
  refine lv_aload_n hx hb dL_law_1331 rfl (lv_at hl 3 rfl) ?_
  refine lv_iload_n hx hb dL_law_1332 rfl (lv_at hl 0 rfl) ?_
  refine lv_iconst (v := 2) hx hb dL_law_1333 (by decide) ?_
  refine lv_iadd hx hb dL_law_1334 ?_
  refine lv_topi (fun z6 ez6 => ?_)
  obtain rfl : z6 = 2 := ez6.trans (by decide)
  refine sldn (j := 2) B hX hbl hbA hS hL rfl (by decide) dL_law_1335 ?_
  refine lv_aload_n hx hb dL_law_1336 rfl (lv_at hl 3 rfl) ?_
  refine lv_iload_n hx hb dL_law_1337 rfl (lv_at hl 0 rfl) ?_
  refine lv_iconst (v := 3) hx hb dL_law_1338 (by decide) ?_
  refine lv_iadd hx hb dL_law_1339 ?_
  refine lv_topi (fun z7 ez7 => ?_)
  obtain rfl : z7 = 3 := ez7.trans (by decide)
  refine sldn (j := 3) B hX hbl hbA hS hL rfl (by decide) dL_law_1340 ?_
  refine lv_aload_n hx hb dL_law_1341 rfl (lv_at hl 3 rfl) ?_
  refine lv_iload_n hx hb dL_law_1342 rfl (lv_at hl 0 rfl) ?_
  refine lv_iconst (v := 4) hx hb dL_law_1343 (by decide) ?_
  refine lv_iadd hx hb dL_law_1344 ?_
  refine lv_topi (fun z8 ez8 => ?_)
  obtain rfl : z8 = 4 := ez8.trans (by decide)
  refine sldn (j := 4) B hX hbl hbA hS hL rfl (by decide) dL_law_1345 ?_
  refine call_i (cVt (k := 1076) (av := [.int (xs 1), .int (xs 2), .int (xs 3), .int (xs 4)]) (rest := [.int r1]) B hP hS (c_modds l E ρ1 (xs 1) (xs 2) (xs 3) (xs 4) q1.2) lk_RL_138 (hrecv (ci := 7) B hP (by decide) (hcc7 _ _ (show hk 1076 = 7 by decide +kernel)) rfl) rfl rfl hl.1 (Nat.le_of_ble_eq_true rfl) ⟨Nat.le_of_ble_eq_true rfl, Nat.le_of_ble_eq_true rfl⟩ ⟨Nat.le_of_ble_eq_true rfl, Nat.le_of_ble_eq_true rfl⟩ dL_law_1346) hS (fun r2 ρ2 H locs q2 hP hS => ?_)
  exact lv_icmp_eq (tgt := 1796) hx hb dL_law_1349 (by decide) (fun _ => kk ρ2 _ _ hP hS) (fun c => absurd (q1.1.trans q2.symm) c)
set_option maxHeartbeats 4000000 in
set_option maxRecDepth 100000 in
theorem op_30 (B : MB p s m #[Value.ref b] c code 4 RL E) (hl : lv_has ls 4 [(3, .int 0), (2, .ref (E.2.1 + 1076)), (1, .ref (E.2.1 + 0)), (0, .ref b)]) (hP : WP E r0 H) (hS : va_S (hA E) s.heap H locs) (hX : va_X b L xs s s.heap) (hbl : b < s.heap.size) (hbA : ¬ hA E b) (hL : L = 6) (kk : ∀ (ρ : Nat → Nat → Int32) (H : Heap) (locs : List Loc), WP E ρ H → va_S (hA E) s.heap H locs → W p l e room_1 s m #[Value.ref b] below meth c H locs 1090 19159 Q (F0 m 1796 ls [])) : W p l e room_1 s m #[Value.ref b] below meth c H locs 1090 19159 Q (F0 m 1354 ls []) := by
  have hx := B.1.1
  have hb := B.1.2.1
  refine lv_aload_n hx hb dL_law_1354 rfl (lv_at hl 2 rfl) ?_
  refine lv_aload_n hx hb dL_law_1355 rfl (lv_at hl 3 rfl) ?_
  refine lv_iload_n hx hb dL_law_1356 rfl (lv_at hl 0 rfl) ?_
  refine lv_iconst (v := 1) hx hb dL_law_1357 (by decide) ?_
  refine lv_iadd hx hb dL_law_1358 ?_
  refine lv_topi (fun z1 ez1 => ?_)
  obtain rfl : z1 = 1 := ez1.trans (by decide)
  refine sldn (j := 1) B hX hbl hbA hS hL rfl (by decide) dL_law_1359 ?_
  refine call_i (cVt (k := 0) (av := [.int (xs 1)]) (rest := []) B hP hS (c_clashes l E (xs 1)) lk_RL_139 (hrecv (ci := 6) B hP (by decide) (hcc6 _ _ (show hk 0 = 6 by decide +kernel)) rfl) rfl rfl hl.1 (Nat.le_of_ble_eq_true rfl) ⟨Nat.le_of_ble_eq_true rfl, Nat.le_of_ble_eq_true rfl⟩ ⟨Nat.le_of_ble_eq_true rfl, Nat.le_of_ble_eq_true rfl⟩ dL_law_1360) hS (fun r1 ρ1 H locs q1 hP hS => ?_)
  refine lv_aload_n hx hb dL_law_1363 rfl (lv_at hl 1 rfl) ?_
  refine lv_aload_n hx hb dL_law_1364 rfl (lv_at hl 3 rfl) ?_
  refine lv_iload_n hx hb dL_law_1365 rfl (lv_at hl 0 rfl) ?_
  refine lv_iconst (v := 1) hx hb dL_law_1366 (by decide) ?_
  refine lv_iadd hx hb dL_law_1367 ?_
  refine lv_topi (fun z2 ez2 => ?_)
  obtain rfl : z2 = 1 := ez2.trans (by decide)
  refine sldn (j := 1) B hX hbl hbA hS hL rfl (by decide) dL_law_1368 ?_
  refine call_i (cVt (k := 1076) (av := [.int (xs 1)]) (rest := [.int r1]) B hP hS (c_mclashes l E ρ1 (xs 1) q1.2) lk_RL_142 (hrecv (ci := 7) B hP (by decide) (hcc7 _ _ (show hk 1076 = 7 by decide +kernel)) rfl) rfl rfl hl.1 (Nat.le_of_ble_eq_true rfl) ⟨Nat.le_of_ble_eq_true rfl, Nat.le_of_ble_eq_true rfl⟩ ⟨Nat.le_of_ble_eq_true rfl, Nat.le_of_ble_eq_true rfl⟩ dL_law_1369) hS (fun r2 ρ2 H locs q2 hP hS => ?_)
  exact lv_icmp_eq (tgt := 1796) hx hb dL_law_1372 (by decide) (fun _ => kk ρ2 _ _ hP hS) (fun c => absurd (q1.1.trans q2.symm) c)
set_option maxHeartbeats 4000000 in
set_option maxRecDepth 100000 in
theorem op_31 (B : MB p s m #[Value.ref b] c code 4 RL E) (hl : lv_has ls 4 [(3, .int 0), (2, .ref (E.2.1 + 1076)), (1, .ref (E.2.1 + 0)), (0, .ref b)]) (hP : WP E r0 H) (hS : va_S (hA E) s.heap H locs) (hX : va_X b L xs s s.heap) (hbl : b < s.heap.size) (hbA : ¬ hA E b) (hL : L = 6) (kk : ∀ (ρ : Nat → Nat → Int32) (H : Heap) (locs : List Loc), WP E ρ H → va_S (hA E) s.heap H locs → W p l e room_1 s m #[Value.ref b] below meth c H locs 1090 19159 Q (F0 m 1796 ls [])) : W p l e room_1 s m #[Value.ref b] below meth c H locs 1090 19159 Q (F0 m 1377 ls []) := by
  have hx := B.1.1
  have hb := B.1.2.1
  refine lv_aload_n hx hb dL_law_1377 rfl (lv_at hl 2 rfl) ?_
  refine lv_aload_n hx hb dL_law_1378 rfl (lv_at hl 3 rfl) ?_
  refine lv_iload_n hx hb dL_law_1379 rfl (lv_at hl 0 rfl) ?_
  refine lv_iconst (v := 1) hx hb dL_law_1380 (by decide) ?_
  refine lv_iadd hx hb dL_law_1381 ?_
  refine lv_topi (fun z1 ez1 => ?_)
  obtain rfl : z1 = 1 := ez1.trans (by decide)
  refine sldn (j := 1) B hX hbl hbA hS hL rfl (by decide) dL_law_1382 ?_
  refine call_i (cVt (k := 0) (av := [.int (xs 1)]) (rest := []) B hP hS (c_bestOffset l E (xs 1)) lk_RL_143 (hrecv (ci := 6) B hP (by decide) (hcc6 _ _ (show hk 0 = 6 by decide +kernel)) rfl) rfl rfl hl.1 (Nat.le_of_ble_eq_true rfl) ⟨Nat.le_of_ble_eq_true rfl, Nat.le_of_ble_eq_true rfl⟩ ⟨Nat.le_of_ble_eq_true rfl, Nat.le_of_ble_eq_true rfl⟩ dL_law_1383) hS (fun r1 ρ1 H locs q1 hP hS => ?_)
  refine lv_aload_n hx hb dL_law_1386 rfl (lv_at hl 1 rfl) ?_
  refine lv_aload_n hx hb dL_law_1387 rfl (lv_at hl 3 rfl) ?_
  refine lv_iload_n hx hb dL_law_1388 rfl (lv_at hl 0 rfl) ?_
  refine lv_iconst (v := 1) hx hb dL_law_1389 (by decide) ?_
  refine lv_iadd hx hb dL_law_1390 ?_
  refine lv_topi (fun z2 ez2 => ?_)
  obtain rfl : z2 = 1 := ez2.trans (by decide)
  refine sldn (j := 1) B hX hbl hbA hS hL rfl (by decide) dL_law_1391 ?_
  refine call_i (cVt (k := 1076) (av := [.int (xs 1)]) (rest := [.int r1]) B hP hS (c_mbestOffset l E ρ1 (xs 1) q1.2) lk_RL_146 (hrecv (ci := 7) B hP (by decide) (hcc7 _ _ (show hk 1076 = 7 by decide +kernel)) rfl) rfl rfl hl.1 (Nat.le_of_ble_eq_true rfl) ⟨Nat.le_of_ble_eq_true rfl, Nat.le_of_ble_eq_true rfl⟩ ⟨Nat.le_of_ble_eq_true rfl, Nat.le_of_ble_eq_true rfl⟩ dL_law_1392) hS (fun r2 ρ2 H locs q2 hP hS => ?_)
  exact lv_icmp_eq (tgt := 1796) hx hb dL_law_1395 (by decide) (fun _ => kk ρ2 _ _ hP hS) (fun c => absurd (q1.1.trans q2.symm) c)
set_option maxHeartbeats 4000000 in
set_option maxRecDepth 100000 in
theorem op_32 (B : MB p s m #[Value.ref b] c code 4 RL E) (hl : lv_has ls 4 [(3, .int 0), (2, .ref (E.2.1 + 1076)), (1, .ref (E.2.1 + 0)), (0, .ref b)]) (hP : WP E r0 H) (hS : va_S (hA E) s.heap H locs) (hX : va_X b L xs s s.heap) (hbl : b < s.heap.size) (hbA : ¬ hA E b) (hL : L = 6) (kk : ∀ (ρ : Nat → Nat → Int32) (H : Heap) (locs : List Loc), WP E ρ H → va_S (hA E) s.heap H locs → W p l e room_1 s m #[Value.ref b] below meth c H locs 1090 19159 Q (F0 m 1796 ls [])) : W p l e room_1 s m #[Value.ref b] below meth c H locs 1090 19159 Q (F0 m 1400 ls []) := by
  have hx := B.1.1
  have hb := B.1.2.1
  refine lv_aload_n hx hb dL_law_1400 rfl (lv_at hl 2 rfl) ?_
  refine lv_aload_n hx hb dL_law_1401 rfl (lv_at hl 3 rfl) ?_
  refine lv_iload_n hx hb dL_law_1402 rfl (lv_at hl 0 rfl) ?_
  refine lv_iconst (v := 1) hx hb dL_law_1403 (by decide) ?_
  refine lv_iadd hx hb dL_law_1404 ?_
  refine lv_topi (fun z1 ez1 => ?_)
  obtain rfl : z1 = 1 := ez1.trans (by decide)
  refine sldn (j := 1) B hX hbl hbA hS hL rfl (by decide) dL_law_1405 ?_
  refine lv_aload_n hx hb dL_law_1406 rfl (lv_at hl 3 rfl) ?_
  refine lv_iload_n hx hb dL_law_1407 rfl (lv_at hl 0 rfl) ?_
  refine lv_iconst (v := 2) hx hb dL_law_1408 (by decide) ?_
  refine lv_iadd hx hb dL_law_1409 ?_
  refine lv_topi (fun z2 ez2 => ?_)
  obtain rfl : z2 = 2 := ez2.trans (by decide)
  refine sldn (j := 2) B hX hbl hbA hS hL rfl (by decide) dL_law_1410 ?_
  refine call_i (cVt (k := 0) (av := [.int (xs 1), .int (xs 2)]) (rest := []) B hP hS (c_drain l E (xs 1) (xs 2)) lk_RL_147 (hrecv (ci := 6) B hP (by decide) (hcc6 _ _ (show hk 0 = 6 by decide +kernel)) rfl) rfl rfl hl.1 (Nat.le_of_ble_eq_true rfl) ⟨Nat.le_of_ble_eq_true rfl, Nat.le_of_ble_eq_true rfl⟩ ⟨Nat.le_of_ble_eq_true rfl, Nat.le_of_ble_eq_true rfl⟩ dL_law_1411) hS (fun r1 ρ1 H locs q1 hP hS => ?_)
  refine lv_aload_n hx hb dL_law_1414 rfl (lv_at hl 1 rfl) ?_
  refine lv_aload_n hx hb dL_law_1415 rfl (lv_at hl 3 rfl) ?_
  refine lv_iload_n hx hb dL_law_1416 rfl (lv_at hl 0 rfl) ?_
  refine lv_iconst (v := 1) hx hb dL_law_1417 (by decide) ?_
  refine lv_iadd hx hb dL_law_1418 ?_
  refine lv_topi (fun z3 ez3 => ?_)
  obtain rfl : z3 = 1 := ez3.trans (by decide)
  refine sldn (j := 1) B hX hbl hbA hS hL rfl (by decide) dL_law_1419 ?_
  refine lv_aload_n hx hb dL_law_1420 rfl (lv_at hl 3 rfl) ?_
  refine lv_iload_n hx hb dL_law_1421 rfl (lv_at hl 0 rfl) ?_
  refine lv_iconst (v := 2) hx hb dL_law_1422 (by decide) ?_
  refine lv_iadd hx hb dL_law_1423 ?_
  refine lv_topi (fun z4 ez4 => ?_)
  obtain rfl : z4 = 2 := ez4.trans (by decide)
  refine sldn (j := 2) B hX hbl hbA hS hL rfl (by decide) dL_law_1424 ?_
  refine call_i (cVt (k := 1076) (av := [.int (xs 1), .int (xs 2)]) (rest := [.int r1]) B hP hS (c_mdrain l E ρ1 (xs 1) (xs 2) q1.2) lk_RL_150 (hrecv (ci := 7) B hP (by decide) (hcc7 _ _ (show hk 1076 = 7 by decide +kernel)) rfl) rfl rfl hl.1 (Nat.le_of_ble_eq_true rfl) ⟨Nat.le_of_ble_eq_true rfl, Nat.le_of_ble_eq_true rfl⟩ ⟨Nat.le_of_ble_eq_true rfl, Nat.le_of_ble_eq_true rfl⟩ dL_law_1425) hS (fun r2 ρ2 H locs q2 hP hS => ?_)
  exact lv_icmp_eq (tgt := 1796) hx hb dL_law_1428 (by decide) (fun _ => kk ρ2 _ _ hP hS) (fun c => absurd (q1.1.trans q2.symm) c)
set_option maxHeartbeats 4000000 in
set_option maxRecDepth 100000 in
theorem op_33 (B : MB p s m #[Value.ref b] c code 4 RL E) (hl : lv_has ls 4 [(3, .int 0), (2, .ref (E.2.1 + 1076)), (1, .ref (E.2.1 + 0)), (0, .ref b)]) (hP : WP E r0 H) (hS : va_S (hA E) s.heap H locs) (hX : va_X b L xs s s.heap) (hbl : b < s.heap.size) (hbA : ¬ hA E b) (hL : L = 6) (kk : ∀ (ρ : Nat → Nat → Int32) (H : Heap) (locs : List Loc), WP E ρ H → va_S (hA E) s.heap H locs → W p l e room_1 s m #[Value.ref b] below meth c H locs 1090 19159 Q (F0 m 1796 ls [])) : W p l e room_1 s m #[Value.ref b] below meth c H locs 1090 19159 Q (F0 m 1433 ls []) := by
  have hx := B.1.1
  have hb := B.1.2.1
  refine lv_aload_n hx hb dL_law_1433 rfl (lv_at hl 2 rfl) ?_
  refine lv_aload_n hx hb dL_law_1434 rfl (lv_at hl 3 rfl) ?_
  refine lv_iload_n hx hb dL_law_1435 rfl (lv_at hl 0 rfl) ?_
  refine lv_iconst (v := 1) hx hb dL_law_1436 (by decide) ?_
  refine lv_iadd hx hb dL_law_1437 ?_
  refine lv_topi (fun z1 ez1 => ?_)
  obtain rfl : z1 = 1 := ez1.trans (by decide)
  refine sldn (j := 1) B hX hbl hbA hS hL rfl (by decide) dL_law_1438 ?_
  refine lv_aload_n hx hb dL_law_1439 rfl (lv_at hl 3 rfl) ?_
  refine lv_iload_n hx hb dL_law_1440 rfl (lv_at hl 0 rfl) ?_
  refine lv_iconst (v := 2) hx hb dL_law_1441 (by decide) ?_
  refine lv_iadd hx hb dL_law_1442 ?_
  refine lv_topi (fun z2 ez2 => ?_)
  obtain rfl : z2 = 2 := ez2.trans (by decide)
  refine sldn (j := 2) B hX hbl hbA hS hL rfl (by decide) dL_law_1443 ?_
  refine lv_aload_n hx hb dL_law_1444 rfl (lv_at hl 3 rfl) ?_
  refine lv_iload_n hx hb dL_law_1445 rfl (lv_at hl 0 rfl) ?_
  refine lv_iconst (v := 3) hx hb dL_law_1446 (by decide) ?_
  refine lv_iadd hx hb dL_law_1447 ?_
  refine lv_topi (fun z3 ez3 => ?_)
  obtain rfl : z3 = 3 := ez3.trans (by decide)
  refine sldn (j := 3) B hX hbl hbA hS hL rfl (by decide) dL_law_1448 ?_
  refine call_i (cVt (k := 0) (av := [.int (xs 1), .int (xs 2), .int (xs 3)]) (rest := []) B hP hS (c_would l E (xs 1) (xs 2) (xs 3)) lk_RL_151 (hrecv (ci := 6) B hP (by decide) (hcc6 _ _ (show hk 0 = 6 by decide +kernel)) rfl) rfl rfl hl.1 (Nat.le_of_ble_eq_true rfl) ⟨Nat.le_of_ble_eq_true rfl, Nat.le_of_ble_eq_true rfl⟩ ⟨Nat.le_of_ble_eq_true rfl, Nat.le_of_ble_eq_true rfl⟩ dL_law_1449) hS (fun r1 ρ1 H locs q1 hP hS => ?_)
  refine lv_aload_n hx hb dL_law_1452 rfl (lv_at hl 1 rfl) ?_
  refine lv_aload_n hx hb dL_law_1453 rfl (lv_at hl 3 rfl) ?_
  refine lv_iload_n hx hb dL_law_1454 rfl (lv_at hl 0 rfl) ?_
  refine lv_iconst (v := 1) hx hb dL_law_1455 (by decide) ?_
  refine lv_iadd hx hb dL_law_1456 ?_
  refine lv_topi (fun z4 ez4 => ?_)
  obtain rfl : z4 = 1 := ez4.trans (by decide)
  refine sldn (j := 1) B hX hbl hbA hS hL rfl (by decide) dL_law_1457 ?_
  refine lv_aload_n hx hb dL_law_1458 rfl (lv_at hl 3 rfl) ?_
  refine lv_iload_n hx hb dL_law_1459 rfl (lv_at hl 0 rfl) ?_
  refine lv_iconst (v := 2) hx hb dL_law_1460 (by decide) ?_
  refine lv_iadd hx hb dL_law_1461 ?_
  refine lv_topi (fun z5 ez5 => ?_)
  obtain rfl : z5 = 2 := ez5.trans (by decide)
  refine sldn (j := 2) B hX hbl hbA hS hL rfl (by decide) dL_law_1462 ?_
  refine lv_aload_n hx hb dL_law_1463 rfl (lv_at hl 3 rfl) ?_
  refine lv_iload_n hx hb dL_law_1464 rfl (lv_at hl 0 rfl) ?_
  refine lv_iconst (v := 3) hx hb dL_law_1465 (by decide) ?_
  refine lv_iadd hx hb dL_law_1466 ?_
  refine lv_topi (fun z6 ez6 => ?_)
  obtain rfl : z6 = 3 := ez6.trans (by decide)
  refine sldn (j := 3) B hX hbl hbA hS hL rfl (by decide) dL_law_1467 ?_
  refine call_i (cVt (k := 1076) (av := [.int (xs 1), .int (xs 2), .int (xs 3)]) (rest := [.int r1]) B hP hS (c_mwould l E ρ1 (xs 1) (xs 2) (xs 3) q1.2) lk_RL_154 (hrecv (ci := 7) B hP (by decide) (hcc7 _ _ (show hk 1076 = 7 by decide +kernel)) rfl) rfl rfl hl.1 (Nat.le_of_ble_eq_true rfl) ⟨Nat.le_of_ble_eq_true rfl, Nat.le_of_ble_eq_true rfl⟩ ⟨Nat.le_of_ble_eq_true rfl, Nat.le_of_ble_eq_true rfl⟩ dL_law_1468) hS (fun r2 ρ2 H locs q2 hP hS => ?_)
  exact lv_icmp_eq (tgt := 1796) hx hb dL_law_1471 (by decide) (fun _ => kk ρ2 _ _ hP hS) (fun c => absurd (two q1.1 q2) c)
set_option maxHeartbeats 4000000 in
set_option maxRecDepth 100000 in
theorem op_34 (B : MB p s m #[Value.ref b] c code 4 RL E) (hl : lv_has ls 4 [(3, .int 0), (2, .ref (E.2.1 + 1076)), (1, .ref (E.2.1 + 0)), (0, .ref b)]) (hP : WP E r0 H) (hS : va_S (hA E) s.heap H locs) (hX : va_X b L xs s s.heap) (hbl : b < s.heap.size) (hbA : ¬ hA E b) (hL : L = 6) (kk : ∀ (ρ : Nat → Nat → Int32) (H : Heap) (locs : List Loc), WP E ρ H → va_S (hA E) s.heap H locs → W p l e room_1 s m #[Value.ref b] below meth c H locs 1090 19159 Q (F0 m 1796 ls [])) : W p l e room_1 s m #[Value.ref b] below meth c H locs 1090 19159 Q (F0 m 1476 ls []) := by
  have hx := B.1.1
  have hb := B.1.2.1
  refine lv_aload_n hx hb dL_law_1476 rfl (lv_at hl 2 rfl) ?_
  refine lv_aload_n hx hb dL_law_1477 rfl (lv_at hl 3 rfl) ?_
  refine lv_iload_n hx hb dL_law_1478 rfl (lv_at hl 0 rfl) ?_
  refine lv_iconst (v := 1) hx hb dL_law_1479 (by decide) ?_
  refine lv_iadd hx hb dL_law_1480 ?_
  refine lv_topi (fun z1 ez1 => ?_)
  obtain rfl : z1 = 1 := ez1.trans (by decide)
  refine sldn (j := 1) B hX hbl hbA hS hL rfl (by decide) dL_law_1481 ?_
  refine lv_aload_n hx hb dL_law_1482 rfl (lv_at hl 3 rfl) ?_
  refine lv_iload_n hx hb dL_law_1483 rfl (lv_at hl 0 rfl) ?_
  refine lv_iconst (v := 2) hx hb dL_law_1484 (by decide) ?_
  refine lv_iadd hx hb dL_law_1485 ?_
  refine lv_topi (fun z2 ez2 => ?_)
  obtain rfl : z2 = 2 := ez2.trans (by decide)
  refine sldn (j := 2) B hX hbl hbA hS hL rfl (by decide) dL_law_1486 ?_
  refine call_i (cVt (k := 0) (av := [.int (xs 1), .int (xs 2)]) (rest := []) B hP hS (c_ready l E (xs 1) (xs 2)) lk_RL_155 (hrecv (ci := 6) B hP (by decide) (hcc6 _ _ (show hk 0 = 6 by decide +kernel)) rfl) rfl rfl hl.1 (Nat.le_of_ble_eq_true rfl) ⟨Nat.le_of_ble_eq_true rfl, Nat.le_of_ble_eq_true rfl⟩ ⟨Nat.le_of_ble_eq_true rfl, Nat.le_of_ble_eq_true rfl⟩ dL_law_1487) hS (fun r1 ρ1 H locs q1 hP hS => ?_)
  refine lv_aload_n hx hb dL_law_1490 rfl (lv_at hl 1 rfl) ?_
  refine lv_aload_n hx hb dL_law_1491 rfl (lv_at hl 3 rfl) ?_
  refine lv_iload_n hx hb dL_law_1492 rfl (lv_at hl 0 rfl) ?_
  refine lv_iconst (v := 1) hx hb dL_law_1493 (by decide) ?_
  refine lv_iadd hx hb dL_law_1494 ?_
  refine lv_topi (fun z3 ez3 => ?_)
  obtain rfl : z3 = 1 := ez3.trans (by decide)
  refine sldn (j := 1) B hX hbl hbA hS hL rfl (by decide) dL_law_1495 ?_
  refine lv_aload_n hx hb dL_law_1496 rfl (lv_at hl 3 rfl) ?_
  refine lv_iload_n hx hb dL_law_1497 rfl (lv_at hl 0 rfl) ?_
  refine lv_iconst (v := 2) hx hb dL_law_1498 (by decide) ?_
  refine lv_iadd hx hb dL_law_1499 ?_
  refine lv_topi (fun z4 ez4 => ?_)
  obtain rfl : z4 = 2 := ez4.trans (by decide)
  refine sldn (j := 2) B hX hbl hbA hS hL rfl (by decide) dL_law_1500 ?_
  refine call_i (cVt (k := 1076) (av := [.int (xs 1), .int (xs 2)]) (rest := [.int r1]) B hP hS (c_mready l E ρ1 (xs 1) (xs 2) q1.2) lk_RL_158 (hrecv (ci := 7) B hP (by decide) (hcc7 _ _ (show hk 1076 = 7 by decide +kernel)) rfl) rfl rfl hl.1 (Nat.le_of_ble_eq_true rfl) ⟨Nat.le_of_ble_eq_true rfl, Nat.le_of_ble_eq_true rfl⟩ ⟨Nat.le_of_ble_eq_true rfl, Nat.le_of_ble_eq_true rfl⟩ dL_law_1501) hS (fun r2 ρ2 H locs q2 hP hS => ?_)
  exact lv_icmp_eq (tgt := 1796) hx hb dL_law_1504 (by decide) (fun _ => kk ρ2 _ _ hP hS) (fun c => absurd (q1.1.trans q2.symm) c)
set_option maxHeartbeats 4000000 in
set_option maxRecDepth 100000 in
theorem op_35 (B : MB p s m #[Value.ref b] c code 4 RL E) (hl : lv_has ls 4 [(3, .int 0), (2, .ref (E.2.1 + 1076)), (1, .ref (E.2.1 + 0)), (0, .ref b)]) (hP : WP E r0 H) (hS : va_S (hA E) s.heap H locs) (hX : va_X b L xs s s.heap) (hbl : b < s.heap.size) (hbA : ¬ hA E b) (hL : L = 6) (kk : ∀ (ρ : Nat → Nat → Int32) (H : Heap) (locs : List Loc), WP E ρ H → va_S (hA E) s.heap H locs → W p l e room_1 s m #[Value.ref b] below meth c H locs 1090 19159 Q (F0 m 1796 ls [])) : W p l e room_1 s m #[Value.ref b] below meth c H locs 1090 19159 Q (F0 m 1509 ls []) := by
  have hx := B.1.1
  have hb := B.1.2.1
  refine lv_aload_n hx hb dL_law_1509 rfl (lv_at hl 2 rfl) ?_
  refine lv_aload_n hx hb dL_law_1510 rfl (lv_at hl 3 rfl) ?_
  refine lv_iload_n hx hb dL_law_1511 rfl (lv_at hl 0 rfl) ?_
  refine lv_iconst (v := 1) hx hb dL_law_1512 (by decide) ?_
  refine lv_iadd hx hb dL_law_1513 ?_
  refine lv_topi (fun z1 ez1 => ?_)
  obtain rfl : z1 = 1 := ez1.trans (by decide)
  refine sldn (j := 1) B hX hbl hbA hS hL rfl (by decide) dL_law_1514 ?_
  refine lv_aload_n hx hb dL_law_1515 rfl (lv_at hl 3 rfl) ?_
  refine lv_iload_n hx hb dL_law_1516 rfl (lv_at hl 0 rfl) ?_
  refine lv_iconst (v := 2) hx hb dL_law_1517 (by decide) ?_
  refine lv_iadd hx hb dL_law_1518 ?_
  refine lv_topi (fun z2 ez2 => ?_)
  obtain rfl : z2 = 2 := ez2.trans (by decide)
  refine sldn (j := 2) B hX hbl hbA hS hL rfl (by decide) dL_law_1519 ?_
  refine lv_aload_n hx hb dL_law_1520 rfl (lv_at hl 3 rfl) ?_
  refine lv_iload_n hx hb dL_law_1521 rfl (lv_at hl 0 rfl) ?_
  refine lv_iconst (v := 3) hx hb dL_law_1522 (by decide) ?_
  refine lv_iadd hx hb dL_law_1523 ?_
  refine lv_topi (fun z3 ez3 => ?_)
  obtain rfl : z3 = 3 := ez3.trans (by decide)
  refine sldn (j := 3) B hX hbl hbA hS hL rfl (by decide) dL_law_1524 ?_
  refine lv_aload_n hx hb dL_law_1525 rfl (lv_at hl 3 rfl) ?_
  refine lv_iload_n hx hb dL_law_1526 rfl (lv_at hl 0 rfl) ?_
  refine lv_iconst (v := 4) hx hb dL_law_1527 (by decide) ?_
  refine lv_iadd hx hb dL_law_1528 ?_
  refine lv_topi (fun z4 ez4 => ?_)
  obtain rfl : z4 = 4 := ez4.trans (by decide)
  refine sldn (j := 4) B hX hbl hbA hS hL rfl (by decide) dL_law_1529 ?_
  refine call_i (cVt (k := 0) (av := [.int (xs 1), .int (xs 2), .int (xs 3), .int (xs 4)]) (rest := []) B hP hS (c_bothReady l E (xs 1) (xs 2) (xs 3) (xs 4)) lk_RL_159 (hrecv (ci := 6) B hP (by decide) (hcc6 _ _ (show hk 0 = 6 by decide +kernel)) rfl) rfl rfl hl.1 (Nat.le_of_ble_eq_true rfl) ⟨Nat.le_of_ble_eq_true rfl, Nat.le_of_ble_eq_true rfl⟩ ⟨Nat.le_of_ble_eq_true rfl, Nat.le_of_ble_eq_true rfl⟩ dL_law_1530) hS (fun r1 ρ1 H locs q1 hP hS => ?_)
  refine lv_aload_n hx hb dL_law_1533 rfl (lv_at hl 1 rfl) ?_
  refine lv_aload_n hx hb dL_law_1534 rfl (lv_at hl 3 rfl) ?_
  refine lv_iload_n hx hb dL_law_1535 rfl (lv_at hl 0 rfl) ?_
  refine lv_iconst (v := 1) hx hb dL_law_1536 (by decide) ?_
  refine lv_iadd hx hb dL_law_1537 ?_
  refine lv_topi (fun z5 ez5 => ?_)
  obtain rfl : z5 = 1 := ez5.trans (by decide)
  refine sldn (j := 1) B hX hbl hbA hS hL rfl (by decide) dL_law_1538 ?_
  refine lv_aload_n hx hb dL_law_1539 rfl (lv_at hl 3 rfl) ?_
  refine lv_iload_n hx hb dL_law_1540 rfl (lv_at hl 0 rfl) ?_
  refine lv_iconst (v := 2) hx hb dL_law_1541 (by decide) ?_
  refine lv_iadd hx hb dL_law_1542 ?_
  refine lv_topi (fun z6 ez6 => ?_)
  obtain rfl : z6 = 2 := ez6.trans (by decide)
  refine sldn (j := 2) B hX hbl hbA hS hL rfl (by decide) dL_law_1543 ?_
  refine lv_aload_n hx hb dL_law_1544 rfl (lv_at hl 3 rfl) ?_
  refine lv_iload_n hx hb dL_law_1545 rfl (lv_at hl 0 rfl) ?_
  refine lv_iconst (v := 3) hx hb dL_law_1546 (by decide) ?_
  refine lv_iadd hx hb dL_law_1547 ?_
  refine lv_topi (fun z7 ez7 => ?_)
  obtain rfl : z7 = 3 := ez7.trans (by decide)
  refine sldn (j := 3) B hX hbl hbA hS hL rfl (by decide) dL_law_1548 ?_
  refine lv_aload_n hx hb dL_law_1549 rfl (lv_at hl 3 rfl) ?_
  refine lv_iload_n hx hb dL_law_1550 rfl (lv_at hl 0 rfl) ?_
  refine lv_iconst (v := 4) hx hb dL_law_1551 (by decide) ?_
  refine lv_iadd hx hb dL_law_1552 ?_
  refine lv_topi (fun z8 ez8 => ?_)
  obtain rfl : z8 = 4 := ez8.trans (by decide)
  refine sldn (j := 4) B hX hbl hbA hS hL rfl (by decide) dL_law_1553 ?_
  refine call_i (cVt (k := 1076) (av := [.int (xs 1), .int (xs 2), .int (xs 3), .int (xs 4)]) (rest := [.int r1]) B hP hS (c_mbothReady l E ρ1 (xs 1) (xs 2) (xs 3) (xs 4) q1.2) lk_RL_162 (hrecv (ci := 7) B hP (by decide) (hcc7 _ _ (show hk 1076 = 7 by decide +kernel)) rfl) rfl rfl hl.1 (Nat.le_of_ble_eq_true rfl) ⟨Nat.le_of_ble_eq_true rfl, Nat.le_of_ble_eq_true rfl⟩ ⟨Nat.le_of_ble_eq_true rfl, Nat.le_of_ble_eq_true rfl⟩ dL_law_1554) hS (fun r2 ρ2 H locs q2 hP hS => ?_)
  exact lv_icmp_eq (tgt := 1796) hx hb dL_law_1557 (by decide) (fun _ => kk ρ2 _ _ hP hS) (fun c => absurd (q1.1.trans q2.symm) c)
set_option maxHeartbeats 4000000 in
set_option maxRecDepth 100000 in
theorem op_36 (B : MB p s m #[Value.ref b] c code 4 RL E) (hl : lv_has ls 4 [(3, .int 0), (2, .ref (E.2.1 + 1076)), (1, .ref (E.2.1 + 0)), (0, .ref b)]) (hP : WP E r0 H) (hS : va_S (hA E) s.heap H locs) (hX : va_X b L xs s s.heap) (hbl : b < s.heap.size) (hbA : ¬ hA E b) (hL : L = 6) (kk : ∀ (ρ : Nat → Nat → Int32) (H : Heap) (locs : List Loc), WP E ρ H → va_S (hA E) s.heap H locs → W p l e room_1 s m #[Value.ref b] below meth c H locs 1090 19159 Q (F0 m 1796 ls [])) : W p l e room_1 s m #[Value.ref b] below meth c H locs 1090 19159 Q (F0 m 1562 ls []) := by
  have hx := B.1.1
  have hb := B.1.2.1
  refine lv_aload_n hx hb dL_law_1562 rfl (lv_at hl 2 rfl) ?_
  refine lv_aload_n hx hb dL_law_1563 rfl (lv_at hl 3 rfl) ?_
  refine lv_iload_n hx hb dL_law_1564 rfl (lv_at hl 0 rfl) ?_
  refine lv_iconst (v := 1) hx hb dL_law_1565 (by decide) ?_
  refine lv_iadd hx hb dL_law_1566 ?_
  refine lv_topi (fun z1 ez1 => ?_)
  obtain rfl : z1 = 1 := ez1.trans (by decide)
  refine sldn (j := 1) B hX hbl hbA hS hL rfl (by decide) dL_law_1567 ?_
  refine lv_aload_n hx hb dL_law_1568 rfl (lv_at hl 3 rfl) ?_
  refine lv_iload_n hx hb dL_law_1569 rfl (lv_at hl 0 rfl) ?_
  refine lv_iconst (v := 2) hx hb dL_law_1570 (by decide) ?_
  refine lv_iadd hx hb dL_law_1571 ?_
  refine lv_topi (fun z2 ez2 => ?_)
  obtain rfl : z2 = 2 := ez2.trans (by decide)
  refine sldn (j := 2) B hX hbl hbA hS hL rfl (by decide) dL_law_1572 ?_
  refine call_i (cVt (k := 0) (av := [.int (xs 1), .int (xs 2)]) (rest := []) B hP hS (c_ahead l E (xs 1) (xs 2)) lk_RL_163 (hrecv (ci := 6) B hP (by decide) (hcc6 _ _ (show hk 0 = 6 by decide +kernel)) rfl) rfl rfl hl.1 (Nat.le_of_ble_eq_true rfl) ⟨Nat.le_of_ble_eq_true rfl, Nat.le_of_ble_eq_true rfl⟩ ⟨Nat.le_of_ble_eq_true rfl, Nat.le_of_ble_eq_true rfl⟩ dL_law_1573) hS (fun r1 ρ1 H locs q1 hP hS => ?_)
  refine lv_aload_n hx hb dL_law_1576 rfl (lv_at hl 1 rfl) ?_
  refine lv_aload_n hx hb dL_law_1577 rfl (lv_at hl 3 rfl) ?_
  refine lv_iload_n hx hb dL_law_1578 rfl (lv_at hl 0 rfl) ?_
  refine lv_iconst (v := 1) hx hb dL_law_1579 (by decide) ?_
  refine lv_iadd hx hb dL_law_1580 ?_
  refine lv_topi (fun z3 ez3 => ?_)
  obtain rfl : z3 = 1 := ez3.trans (by decide)
  refine sldn (j := 1) B hX hbl hbA hS hL rfl (by decide) dL_law_1581 ?_
  refine lv_aload_n hx hb dL_law_1582 rfl (lv_at hl 3 rfl) ?_
  refine lv_iload_n hx hb dL_law_1583 rfl (lv_at hl 0 rfl) ?_
  refine lv_iconst (v := 2) hx hb dL_law_1584 (by decide) ?_
  refine lv_iadd hx hb dL_law_1585 ?_
  refine lv_topi (fun z4 ez4 => ?_)
  obtain rfl : z4 = 2 := ez4.trans (by decide)
  refine sldn (j := 2) B hX hbl hbA hS hL rfl (by decide) dL_law_1586 ?_
  refine call_i (cVt (k := 1076) (av := [.int (xs 1), .int (xs 2)]) (rest := [.int r1]) B hP hS (c_mahead l E ρ1 (xs 1) (xs 2) q1.2) lk_RL_166 (hrecv (ci := 7) B hP (by decide) (hcc7 _ _ (show hk 1076 = 7 by decide +kernel)) rfl) rfl rfl hl.1 (Nat.le_of_ble_eq_true rfl) ⟨Nat.le_of_ble_eq_true rfl, Nat.le_of_ble_eq_true rfl⟩ ⟨Nat.le_of_ble_eq_true rfl, Nat.le_of_ble_eq_true rfl⟩ dL_law_1587) hS (fun r2 ρ2 H locs q2 hP hS => ?_)
  exact lv_icmp_eq (tgt := 1796) hx hb dL_law_1590 (by decide) (fun _ => kk ρ2 _ _ hP hS) (fun c => absurd (q1.1.trans q2.symm) c)
set_option maxHeartbeats 4000000 in
set_option maxRecDepth 100000 in
theorem op_37 (B : MB p s m #[Value.ref b] c code 4 RL E) (hl : lv_has ls 4 [(3, .int 0), (2, .ref (E.2.1 + 1076)), (1, .ref (E.2.1 + 0)), (0, .ref b)]) (hP : WP E r0 H) (hS : va_S (hA E) s.heap H locs) (hX : va_X b L xs s s.heap) (hbl : b < s.heap.size) (hbA : ¬ hA E b) (hL : L = 6) (kk : ∀ (ρ : Nat → Nat → Int32) (H : Heap) (locs : List Loc), WP E ρ H → va_S (hA E) s.heap H locs → W p l e room_1 s m #[Value.ref b] below meth c H locs 1090 19159 Q (F0 m 1796 ls [])) : W p l e room_1 s m #[Value.ref b] below meth c H locs 1090 19159 Q (F0 m 1595 ls []) := by
  have hx := B.1.1
  have hb := B.1.2.1
  refine lv_aload_n hx hb dL_law_1595 rfl (lv_at hl 2 rfl) ?_
  refine lv_aload_n hx hb dL_law_1596 rfl (lv_at hl 3 rfl) ?_
  refine lv_iload_n hx hb dL_law_1597 rfl (lv_at hl 0 rfl) ?_
  refine lv_iconst (v := 1) hx hb dL_law_1598 (by decide) ?_
  refine lv_iadd hx hb dL_law_1599 ?_
  refine lv_topi (fun z1 ez1 => ?_)
  obtain rfl : z1 = 1 := ez1.trans (by decide)
  refine sldn (j := 1) B hX hbl hbA hS hL rfl (by decide) dL_law_1600 ?_
  refine lv_aload_n hx hb dL_law_1601 rfl (lv_at hl 3 rfl) ?_
  refine lv_iload_n hx hb dL_law_1602 rfl (lv_at hl 0 rfl) ?_
  refine lv_iconst (v := 2) hx hb dL_law_1603 (by decide) ?_
  refine lv_iadd hx hb dL_law_1604 ?_
  refine lv_topi (fun z2 ez2 => ?_)
  obtain rfl : z2 = 2 := ez2.trans (by decide)
  refine sldn (j := 2) B hX hbl hbA hS hL rfl (by decide) dL_law_1605 ?_
  refine lv_aload_n hx hb dL_law_1606 rfl (lv_at hl 3 rfl) ?_
  refine lv_iload_n hx hb dL_law_1607 rfl (lv_at hl 0 rfl) ?_
  refine lv_iconst (v := 3) hx hb dL_law_1608 (by decide) ?_
  refine lv_iadd hx hb dL_law_1609 ?_
  refine lv_topi (fun z3 ez3 => ?_)
  obtain rfl : z3 = 3 := ez3.trans (by decide)
  refine sldn (j := 3) B hX hbl hbA hS hL rfl (by decide) dL_law_1610 ?_
  refine call_i (cVt (k := 0) (av := [.int (xs 1), .int (xs 2), .int (xs 3)]) (rest := []) B hP hS (c_together l E (xs 1) (xs 2) (xs 3)) lk_RL_167 (hrecv (ci := 6) B hP (by decide) (hcc6 _ _ (show hk 0 = 6 by decide +kernel)) rfl) rfl rfl hl.1 (Nat.le_of_ble_eq_true rfl) ⟨Nat.le_of_ble_eq_true rfl, Nat.le_of_ble_eq_true rfl⟩ ⟨Nat.le_of_ble_eq_true rfl, Nat.le_of_ble_eq_true rfl⟩ dL_law_1611) hS (fun r1 ρ1 H locs q1 hP hS => ?_)
  refine lv_aload_n hx hb dL_law_1614 rfl (lv_at hl 1 rfl) ?_
  refine lv_aload_n hx hb dL_law_1615 rfl (lv_at hl 3 rfl) ?_
  refine lv_iload_n hx hb dL_law_1616 rfl (lv_at hl 0 rfl) ?_
  refine lv_iconst (v := 1) hx hb dL_law_1617 (by decide) ?_
  refine lv_iadd hx hb dL_law_1618 ?_
  refine lv_topi (fun z4 ez4 => ?_)
  obtain rfl : z4 = 1 := ez4.trans (by decide)
  refine sldn (j := 1) B hX hbl hbA hS hL rfl (by decide) dL_law_1619 ?_
  refine lv_aload_n hx hb dL_law_1620 rfl (lv_at hl 3 rfl) ?_
  refine lv_iload_n hx hb dL_law_1621 rfl (lv_at hl 0 rfl) ?_
  refine lv_iconst (v := 2) hx hb dL_law_1622 (by decide) ?_
  refine lv_iadd hx hb dL_law_1623 ?_
  refine lv_topi (fun z5 ez5 => ?_)
  obtain rfl : z5 = 2 := ez5.trans (by decide)
  refine sldn (j := 2) B hX hbl hbA hS hL rfl (by decide) dL_law_1624 ?_
  refine lv_aload_n hx hb dL_law_1625 rfl (lv_at hl 3 rfl) ?_
  refine lv_iload_n hx hb dL_law_1626 rfl (lv_at hl 0 rfl) ?_
  refine lv_iconst (v := 3) hx hb dL_law_1627 (by decide) ?_
  refine lv_iadd hx hb dL_law_1628 ?_
  refine lv_topi (fun z6 ez6 => ?_)
  obtain rfl : z6 = 3 := ez6.trans (by decide)
  refine sldn (j := 3) B hX hbl hbA hS hL rfl (by decide) dL_law_1629 ?_
  refine call_i (cVt (k := 1076) (av := [.int (xs 1), .int (xs 2), .int (xs 3)]) (rest := [.int r1]) B hP hS (c_mtogether l E ρ1 (xs 1) (xs 2) (xs 3) q1.2) lk_RL_170 (hrecv (ci := 7) B hP (by decide) (hcc7 _ _ (show hk 1076 = 7 by decide +kernel)) rfl) rfl rfl hl.1 (Nat.le_of_ble_eq_true rfl) ⟨Nat.le_of_ble_eq_true rfl, Nat.le_of_ble_eq_true rfl⟩ ⟨Nat.le_of_ble_eq_true rfl, Nat.le_of_ble_eq_true rfl⟩ dL_law_1630) hS (fun r2 ρ2 H locs q2 hP hS => ?_)
  exact lv_icmp_eq (tgt := 1796) hx hb dL_law_1633 (by decide) (fun _ => kk ρ2 _ _ hP hS) (fun c => absurd (q1.1.trans q2.symm) c)
set_option maxHeartbeats 4000000 in
set_option maxRecDepth 100000 in
theorem op_38 (B : MB p s m #[Value.ref b] c code 4 RL E) (hl : lv_has ls 4 [(3, .int 0), (2, .ref (E.2.1 + 1076)), (1, .ref (E.2.1 + 0)), (0, .ref b)]) (hP : WP E r0 H) (hS : va_S (hA E) s.heap H locs) (hX : va_X b L xs s s.heap) (hbl : b < s.heap.size) (hbA : ¬ hA E b) (hL : L = 6) (kk : ∀ (ρ : Nat → Nat → Int32) (H : Heap) (locs : List Loc), WP E ρ H → va_S (hA E) s.heap H locs → W p l e room_1 s m #[Value.ref b] below meth c H locs 1090 19159 Q (F0 m 1796 ls [])) : W p l e room_1 s m #[Value.ref b] below meth c H locs 1090 19159 Q (F0 m 1638 ls []) := by
  have hx := B.1.1
  have hb := B.1.2.1
  refine lv_aload_n hx hb dL_law_1638 rfl (lv_at hl 2 rfl) ?_
  refine lv_aload_n hx hb dL_law_1639 rfl (lv_at hl 3 rfl) ?_
  refine lv_iload_n hx hb dL_law_1640 rfl (lv_at hl 0 rfl) ?_
  refine lv_iconst (v := 1) hx hb dL_law_1641 (by decide) ?_
  refine lv_iadd hx hb dL_law_1642 ?_
  refine lv_topi (fun z1 ez1 => ?_)
  obtain rfl : z1 = 1 := ez1.trans (by decide)
  refine sldn (j := 1) B hX hbl hbA hS hL rfl (by decide) dL_law_1643 ?_
  refine lv_aload_n hx hb dL_law_1644 rfl (lv_at hl 3 rfl) ?_
  refine lv_iload_n hx hb dL_law_1645 rfl (lv_at hl 0 rfl) ?_
  refine lv_iconst (v := 2) hx hb dL_law_1646 (by decide) ?_
  refine lv_iadd hx hb dL_law_1647 ?_
  refine lv_topi (fun z2 ez2 => ?_)
  obtain rfl : z2 = 2 := ez2.trans (by decide)
  refine sldn (j := 2) B hX hbl hbA hS hL rfl (by decide) dL_law_1648 ?_
  refine call_i (cVt (k := 0) (av := [.int (xs 1), .int (xs 2)]) (rest := []) B hP hS (c_ranked l E (xs 1) (xs 2)) lk_RL_171 (hrecv (ci := 6) B hP (by decide) (hcc6 _ _ (show hk 0 = 6 by decide +kernel)) rfl) rfl rfl hl.1 (Nat.le_of_ble_eq_true rfl) ⟨Nat.le_of_ble_eq_true rfl, Nat.le_of_ble_eq_true rfl⟩ ⟨Nat.le_of_ble_eq_true rfl, Nat.le_of_ble_eq_true rfl⟩ dL_law_1649) hS (fun r1 ρ1 H locs q1 hP hS => ?_)
  refine lv_aload_n hx hb dL_law_1652 rfl (lv_at hl 1 rfl) ?_
  refine lv_aload_n hx hb dL_law_1653 rfl (lv_at hl 3 rfl) ?_
  refine lv_iload_n hx hb dL_law_1654 rfl (lv_at hl 0 rfl) ?_
  refine lv_iconst (v := 1) hx hb dL_law_1655 (by decide) ?_
  refine lv_iadd hx hb dL_law_1656 ?_
  refine lv_topi (fun z3 ez3 => ?_)
  obtain rfl : z3 = 1 := ez3.trans (by decide)
  refine sldn (j := 1) B hX hbl hbA hS hL rfl (by decide) dL_law_1657 ?_
  refine lv_aload_n hx hb dL_law_1658 rfl (lv_at hl 3 rfl) ?_
  refine lv_iload_n hx hb dL_law_1659 rfl (lv_at hl 0 rfl) ?_
  refine lv_iconst (v := 2) hx hb dL_law_1660 (by decide) ?_
  refine lv_iadd hx hb dL_law_1661 ?_
  refine lv_topi (fun z4 ez4 => ?_)
  obtain rfl : z4 = 2 := ez4.trans (by decide)
  refine sldn (j := 2) B hX hbl hbA hS hL rfl (by decide) dL_law_1662 ?_
  refine call_i (cVt (k := 1076) (av := [.int (xs 1), .int (xs 2)]) (rest := [.int r1]) B hP hS (c_mranked l E ρ1 (xs 1) (xs 2) q1.2) lk_RL_174 (hrecv (ci := 7) B hP (by decide) (hcc7 _ _ (show hk 1076 = 7 by decide +kernel)) rfl) rfl rfl hl.1 (Nat.le_of_ble_eq_true rfl) ⟨Nat.le_of_ble_eq_true rfl, Nat.le_of_ble_eq_true rfl⟩ ⟨Nat.le_of_ble_eq_true rfl, Nat.le_of_ble_eq_true rfl⟩ dL_law_1663) hS (fun r2 ρ2 H locs q2 hP hS => ?_)
  exact lv_icmp_eq (tgt := 1796) hx hb dL_law_1666 (by decide) (fun _ => kk ρ2 _ _ hP hS) (fun c => absurd (q1.1.trans q2.symm) c)
set_option maxHeartbeats 4000000 in
set_option maxRecDepth 100000 in
theorem op_39 (B : MB p s m #[Value.ref b] c code 4 RL E) (hl : lv_has ls 4 [(3, .int 0), (2, .ref (E.2.1 + 1076)), (1, .ref (E.2.1 + 0)), (0, .ref b)]) (hP : WP E r0 H) (hS : va_S (hA E) s.heap H locs) (hX : va_X b L xs s s.heap) (hbl : b < s.heap.size) (hbA : ¬ hA E b) (hL : L = 6) (kk : ∀ (ρ : Nat → Nat → Int32) (H : Heap) (locs : List Loc), WP E ρ H → va_S (hA E) s.heap H locs → W p l e room_1 s m #[Value.ref b] below meth c H locs 1090 19159 Q (F0 m 1796 ls [])) : W p l e room_1 s m #[Value.ref b] below meth c H locs 1090 19159 Q (F0 m 1671 ls []) := by
  have hx := B.1.1
  have hb := B.1.2.1
  refine lv_aload_n hx hb dL_law_1671 rfl (lv_at hl 2 rfl) ?_
  refine lv_aload_n hx hb dL_law_1672 rfl (lv_at hl 3 rfl) ?_
  refine lv_iload_n hx hb dL_law_1673 rfl (lv_at hl 0 rfl) ?_
  refine lv_iconst (v := 1) hx hb dL_law_1674 (by decide) ?_
  refine lv_iadd hx hb dL_law_1675 ?_
  refine lv_topi (fun z1 ez1 => ?_)
  obtain rfl : z1 = 1 := ez1.trans (by decide)
  refine sldn (j := 1) B hX hbl hbA hS hL rfl (by decide) dL_law_1676 ?_
  refine lv_aload_n hx hb dL_law_1677 rfl (lv_at hl 3 rfl) ?_
  refine lv_iload_n hx hb dL_law_1678 rfl (lv_at hl 0 rfl) ?_
  refine lv_iconst (v := 2) hx hb dL_law_1679 (by decide) ?_
  refine lv_iadd hx hb dL_law_1680 ?_
  refine lv_topi (fun z2 ez2 => ?_)
  obtain rfl : z2 = 2 := ez2.trans (by decide)
  refine sldn (j := 2) B hX hbl hbA hS hL rfl (by decide) dL_law_1681 ?_
  refine call_i (cVt (k := 0) (av := [.int (xs 1), .int (xs 2)]) (rest := []) B hP hS (c_quiet l E (xs 1) (xs 2)) lk_RL_175 (hrecv (ci := 6) B hP (by decide) (hcc6 _ _ (show hk 0 = 6 by decide +kernel)) rfl) rfl rfl hl.1 (Nat.le_of_ble_eq_true rfl) ⟨Nat.le_of_ble_eq_true rfl, Nat.le_of_ble_eq_true rfl⟩ ⟨Nat.le_of_ble_eq_true rfl, Nat.le_of_ble_eq_true rfl⟩ dL_law_1682) hS (fun r1 ρ1 H locs q1 hP hS => ?_)
  refine lv_aload_n hx hb dL_law_1685 rfl (lv_at hl 1 rfl) ?_
  refine lv_aload_n hx hb dL_law_1686 rfl (lv_at hl 3 rfl) ?_
  refine lv_iload_n hx hb dL_law_1687 rfl (lv_at hl 0 rfl) ?_
  refine lv_iconst (v := 1) hx hb dL_law_1688 (by decide) ?_
  refine lv_iadd hx hb dL_law_1689 ?_
  refine lv_topi (fun z3 ez3 => ?_)
  obtain rfl : z3 = 1 := ez3.trans (by decide)
  refine sldn (j := 1) B hX hbl hbA hS hL rfl (by decide) dL_law_1690 ?_
  refine lv_aload_n hx hb dL_law_1691 rfl (lv_at hl 3 rfl) ?_
  refine lv_iload_n hx hb dL_law_1692 rfl (lv_at hl 0 rfl) ?_
  refine lv_iconst (v := 2) hx hb dL_law_1693 (by decide) ?_
  refine lv_iadd hx hb dL_law_1694 ?_
  refine lv_topi (fun z4 ez4 => ?_)
  obtain rfl : z4 = 2 := ez4.trans (by decide)
  refine sldn (j := 2) B hX hbl hbA hS hL rfl (by decide) dL_law_1695 ?_
  refine call_i (cVt (k := 1076) (av := [.int (xs 1), .int (xs 2)]) (rest := [.int r1]) B hP hS (c_mquiet l E ρ1 (xs 1) (xs 2) q1.2) lk_RL_178 (hrecv (ci := 7) B hP (by decide) (hcc7 _ _ (show hk 1076 = 7 by decide +kernel)) rfl) rfl rfl hl.1 (Nat.le_of_ble_eq_true rfl) ⟨Nat.le_of_ble_eq_true rfl, Nat.le_of_ble_eq_true rfl⟩ ⟨Nat.le_of_ble_eq_true rfl, Nat.le_of_ble_eq_true rfl⟩ dL_law_1696) hS (fun r2 ρ2 H locs q2 hP hS => ?_)
  exact lv_icmp_eq (tgt := 1796) hx hb dL_law_1699 (by decide) (fun _ => kk ρ2 _ _ hP hS) (fun c => absurd (q1.1.trans q2.symm) c)
set_option maxHeartbeats 4000000 in
set_option maxRecDepth 100000 in
theorem op_40 (B : MB p s m #[Value.ref b] c code 4 RL E) (hl : lv_has ls 4 [(3, .int 0), (2, .ref (E.2.1 + 1076)), (1, .ref (E.2.1 + 0)), (0, .ref b)]) (hP : WP E r0 H) (hS : va_S (hA E) s.heap H locs) (hX : va_X b L xs s s.heap) (hbl : b < s.heap.size) (hbA : ¬ hA E b) (hL : L = 6) (kk : ∀ (ρ : Nat → Nat → Int32) (H : Heap) (locs : List Loc), WP E ρ H → va_S (hA E) s.heap H locs → W p l e room_1 s m #[Value.ref b] below meth c H locs 1090 19159 Q (F0 m 1796 ls [])) : W p l e room_1 s m #[Value.ref b] below meth c H locs 1090 19159 Q (F0 m 1704 ls []) := by
  have hx := B.1.1
  have hb := B.1.2.1
  refine lv_aload_n hx hb dL_law_1704 rfl (lv_at hl 2 rfl) ?_
  refine lv_aload_n hx hb dL_law_1705 rfl (lv_at hl 3 rfl) ?_
  refine lv_iload_n hx hb dL_law_1706 rfl (lv_at hl 0 rfl) ?_
  refine lv_iconst (v := 1) hx hb dL_law_1707 (by decide) ?_
  refine lv_iadd hx hb dL_law_1708 ?_
  refine lv_topi (fun z1 ez1 => ?_)
  obtain rfl : z1 = 1 := ez1.trans (by decide)
  refine sldn (j := 1) B hX hbl hbA hS hL rfl (by decide) dL_law_1709 ?_
  refine call_i (cVt (k := 0) (av := [.int (xs 1)]) (rest := []) B hP hS (c_bestShare l E (xs 1)) lk_RL_179 (hrecv (ci := 6) B hP (by decide) (hcc6 _ _ (show hk 0 = 6 by decide +kernel)) rfl) rfl rfl hl.1 (Nat.le_of_ble_eq_true rfl) ⟨Nat.le_of_ble_eq_true rfl, Nat.le_of_ble_eq_true rfl⟩ ⟨Nat.le_of_ble_eq_true rfl, Nat.le_of_ble_eq_true rfl⟩ dL_law_1710) hS (fun r1 ρ1 H locs q1 hP hS => ?_)
  refine lv_aload_n hx hb dL_law_1713 rfl (lv_at hl 1 rfl) ?_
  refine lv_aload_n hx hb dL_law_1714 rfl (lv_at hl 3 rfl) ?_
  refine lv_iload_n hx hb dL_law_1715 rfl (lv_at hl 0 rfl) ?_
  refine lv_iconst (v := 1) hx hb dL_law_1716 (by decide) ?_
  refine lv_iadd hx hb dL_law_1717 ?_
  refine lv_topi (fun z2 ez2 => ?_)
  obtain rfl : z2 = 1 := ez2.trans (by decide)
  refine sldn (j := 1) B hX hbl hbA hS hL rfl (by decide) dL_law_1718 ?_
  refine call_i (cVt (k := 1076) (av := [.int (xs 1)]) (rest := [.int r1]) B hP hS (c_mbestShare l E ρ1 (xs 1) q1.2) lk_RL_182 (hrecv (ci := 7) B hP (by decide) (hcc7 _ _ (show hk 1076 = 7 by decide +kernel)) rfl) rfl rfl hl.1 (Nat.le_of_ble_eq_true rfl) ⟨Nat.le_of_ble_eq_true rfl, Nat.le_of_ble_eq_true rfl⟩ ⟨Nat.le_of_ble_eq_true rfl, Nat.le_of_ble_eq_true rfl⟩ dL_law_1719) hS (fun r2 ρ2 H locs q2 hP hS => ?_)
  exact lv_icmp_eq (tgt := 1796) hx hb dL_law_1722 (by decide) (fun _ => kk ρ2 _ _ hP hS) (fun c => absurd (two q1.1 q2) c)
set_option maxHeartbeats 4000000 in
set_option maxRecDepth 100000 in
theorem op_41 (B : MB p s m #[Value.ref b] c code 4 RL E) (hl : lv_has ls 4 [(3, .int 0), (2, .ref (E.2.1 + 1076)), (1, .ref (E.2.1 + 0)), (0, .ref b)]) (hP : WP E r0 H) (hS : va_S (hA E) s.heap H locs) (hX : va_X b L xs s s.heap) (hbl : b < s.heap.size) (hbA : ¬ hA E b) (hL : L = 6) (kk : ∀ (ρ : Nat → Nat → Int32) (H : Heap) (locs : List Loc), WP E ρ H → va_S (hA E) s.heap H locs → W p l e room_1 s m #[Value.ref b] below meth c H locs 1090 19159 Q (F0 m 1796 ls [])) : W p l e room_1 s m #[Value.ref b] below meth c H locs 1090 19159 Q (F0 m 1727 ls []) := by
  have hx := B.1.1
  have hb := B.1.2.1
  refine lv_aload_n hx hb dL_law_1727 rfl (lv_at hl 2 rfl) ?_
  refine lv_aload_n hx hb dL_law_1728 rfl (lv_at hl 3 rfl) ?_
  refine lv_iload_n hx hb dL_law_1729 rfl (lv_at hl 0 rfl) ?_
  refine lv_iconst (v := 1) hx hb dL_law_1730 (by decide) ?_
  refine lv_iadd hx hb dL_law_1731 ?_
  refine lv_topi (fun z1 ez1 => ?_)
  obtain rfl : z1 = 1 := ez1.trans (by decide)
  refine sldn (j := 1) B hX hbl hbA hS hL rfl (by decide) dL_law_1732 ?_
  refine lv_aload_n hx hb dL_law_1733 rfl (lv_at hl 3 rfl) ?_
  refine lv_iload_n hx hb dL_law_1734 rfl (lv_at hl 0 rfl) ?_
  refine lv_iconst (v := 2) hx hb dL_law_1735 (by decide) ?_
  refine lv_iadd hx hb dL_law_1736 ?_
  refine lv_topi (fun z2 ez2 => ?_)
  obtain rfl : z2 = 2 := ez2.trans (by decide)
  refine sldn (j := 2) B hX hbl hbA hS hL rfl (by decide) dL_law_1737 ?_
  refine call_i (cVt (k := 0) (av := [.int (xs 1), .int (xs 2)]) (rest := []) B hP hS (c_ofNet l E (xs 1) (xs 2)) lk_RL_183 (hrecv (ci := 6) B hP (by decide) (hcc6 _ _ (show hk 0 = 6 by decide +kernel)) rfl) rfl rfl hl.1 (Nat.le_of_ble_eq_true rfl) ⟨Nat.le_of_ble_eq_true rfl, Nat.le_of_ble_eq_true rfl⟩ ⟨Nat.le_of_ble_eq_true rfl, Nat.le_of_ble_eq_true rfl⟩ dL_law_1738) hS (fun r1 ρ1 H locs q1 hP hS => ?_)
  refine lv_aload_n hx hb dL_law_1741 rfl (lv_at hl 1 rfl) ?_
  refine lv_aload_n hx hb dL_law_1742 rfl (lv_at hl 3 rfl) ?_
  refine lv_iload_n hx hb dL_law_1743 rfl (lv_at hl 0 rfl) ?_
  refine lv_iconst (v := 1) hx hb dL_law_1744 (by decide) ?_
  refine lv_iadd hx hb dL_law_1745 ?_
  refine lv_topi (fun z3 ez3 => ?_)
  obtain rfl : z3 = 1 := ez3.trans (by decide)
  refine sldn (j := 1) B hX hbl hbA hS hL rfl (by decide) dL_law_1746 ?_
  refine lv_aload_n hx hb dL_law_1747 rfl (lv_at hl 3 rfl) ?_
  refine lv_iload_n hx hb dL_law_1748 rfl (lv_at hl 0 rfl) ?_
  refine lv_iconst (v := 2) hx hb dL_law_1749 (by decide) ?_
  refine lv_iadd hx hb dL_law_1750 ?_
  refine lv_topi (fun z4 ez4 => ?_)
  obtain rfl : z4 = 2 := ez4.trans (by decide)
  refine sldn (j := 2) B hX hbl hbA hS hL rfl (by decide) dL_law_1751 ?_
  refine call_i (cVt (k := 1076) (av := [.int (xs 1), .int (xs 2)]) (rest := [.int r1]) B hP hS (c_mofNet l E ρ1 (xs 1) (xs 2) q1.2) lk_RL_186 (hrecv (ci := 7) B hP (by decide) (hcc7 _ _ (show hk 1076 = 7 by decide +kernel)) rfl) rfl rfl hl.1 (Nat.le_of_ble_eq_true rfl) ⟨Nat.le_of_ble_eq_true rfl, Nat.le_of_ble_eq_true rfl⟩ ⟨Nat.le_of_ble_eq_true rfl, Nat.le_of_ble_eq_true rfl⟩ dL_law_1752) hS (fun r2 ρ2 H locs q2 hP hS => ?_)
  exact lv_icmp_eq (tgt := 1796) hx hb dL_law_1755 (by decide) (fun _ => kk ρ2 _ _ hP hS) (fun c => absurd (q1.1.trans q2.symm) c)
set_option maxHeartbeats 4000000 in
set_option maxRecDepth 100000 in
theorem op_42 (B : MB p s m #[Value.ref b] c code 4 RL E) (hl : lv_has ls 4 [(3, .int 0), (2, .ref (E.2.1 + 1076)), (1, .ref (E.2.1 + 0)), (0, .ref b)]) (hP : WP E r0 H) (hS : va_S (hA E) s.heap H locs) (hX : va_X b L xs s s.heap) (hbl : b < s.heap.size) (hbA : ¬ hA E b) (hL : L = 6) (kk : ∀ (ρ : Nat → Nat → Int32) (H : Heap) (locs : List Loc), WP E ρ H → va_S (hA E) s.heap H locs → W p l e room_1 s m #[Value.ref b] below meth c H locs 1090 19159 Q (F0 m 1796 ls [])) : W p l e room_1 s m #[Value.ref b] below meth c H locs 1090 19159 Q (F0 m 1760 ls []) := by
  have hx := B.1.1
  have hb := B.1.2.1
  refine lv_aload_n hx hb dL_law_1760 rfl (lv_at hl 2 rfl) ?_
  refine lv_aload_n hx hb dL_law_1761 rfl (lv_at hl 3 rfl) ?_
  refine lv_iload_n hx hb dL_law_1762 rfl (lv_at hl 0 rfl) ?_
  refine lv_iconst (v := 1) hx hb dL_law_1763 (by decide) ?_
  refine lv_iadd hx hb dL_law_1764 ?_
  refine lv_topi (fun z1 ez1 => ?_)
  obtain rfl : z1 = 1 := ez1.trans (by decide)
  refine sldn (j := 1) B hX hbl hbA hS hL rfl (by decide) dL_law_1765 ?_
  refine call_i (cVt (k := 0) (av := [.int (xs 1)]) (rest := []) B hP hS (c_count l E (xs 1)) lk_RL_187 (hrecv (ci := 6) B hP (by decide) (hcc6 _ _ (show hk 0 = 6 by decide +kernel)) rfl) rfl rfl hl.1 (Nat.le_of_ble_eq_true rfl) ⟨Nat.le_of_ble_eq_true rfl, Nat.le_of_ble_eq_true rfl⟩ ⟨Nat.le_of_ble_eq_true rfl, Nat.le_of_ble_eq_true rfl⟩ dL_law_1766) hS (fun r1 ρ1 H locs q1 hP hS => ?_)
  refine lv_aload_n hx hb dL_law_1769 rfl (lv_at hl 1 rfl) ?_
  refine lv_aload_n hx hb dL_law_1770 rfl (lv_at hl 3 rfl) ?_
  refine lv_iload_n hx hb dL_law_1771 rfl (lv_at hl 0 rfl) ?_
  refine lv_iconst (v := 1) hx hb dL_law_1772 (by decide) ?_
  refine lv_iadd hx hb dL_law_1773 ?_
  refine lv_topi (fun z2 ez2 => ?_)
  obtain rfl : z2 = 1 := ez2.trans (by decide)
  refine sldn (j := 1) B hX hbl hbA hS hL rfl (by decide) dL_law_1774 ?_
  refine call_i (cVt (k := 1076) (av := [.int (xs 1)]) (rest := [.int r1]) B hP hS (c_mcount l E ρ1 (xs 1) q1.2) lk_RL_190 (hrecv (ci := 7) B hP (by decide) (hcc7 _ _ (show hk 1076 = 7 by decide +kernel)) rfl) rfl rfl hl.1 (Nat.le_of_ble_eq_true rfl) ⟨Nat.le_of_ble_eq_true rfl, Nat.le_of_ble_eq_true rfl⟩ ⟨Nat.le_of_ble_eq_true rfl, Nat.le_of_ble_eq_true rfl⟩ dL_law_1775) hS (fun r2 ρ2 H locs q2 hP hS => ?_)
  exact lv_icmp_eq (tgt := 1796) hx hb dL_law_1778 (by decide) (fun _ => kk ρ2 _ _ hP hS) (fun c => absurd (q1.1.trans q2.symm) c)
set_option maxHeartbeats 4000000 in
set_option maxRecDepth 100000 in
theorem op_43 (B : MB p s m #[Value.ref b] c code 4 RL E) (hl : lv_has ls 4 [(3, .int 0), (2, .ref (E.2.1 + 1076)), (1, .ref (E.2.1 + 0)), (0, .ref b)]) (hP : WP E r0 H) (hS : va_S (hA E) s.heap H locs) (hX : va_X b L xs s s.heap) (hbl : b < s.heap.size) (hbA : ¬ hA E b) (hL : L = 6) (kk : ∀ (ρ : Nat → Nat → Int32) (H : Heap) (locs : List Loc), WP E ρ H → va_S (hA E) s.heap H locs → W p l e room_1 s m #[Value.ref b] below meth c H locs 1090 19159 Q (F0 m 1796 ls [])) : W p l e room_1 s m #[Value.ref b] below meth c H locs 1090 19159 Q (F0 m 1783 ls []) := by
  have hx := B.1.1
  have hb := B.1.2.1
  refine lv_aload_n hx hb dL_law_1783 rfl (lv_at hl 2 rfl) ?_
  refine call_i (cVt (k := 0) (av := []) (rest := []) B hP hS (c_status l E ) lk_RL_191 (hrecv (ci := 6) B hP (by decide) (hcc6 _ _ (show hk 0 = 6 by decide +kernel)) rfl) rfl rfl hl.1 (Nat.le_of_ble_eq_true rfl) ⟨Nat.le_of_ble_eq_true rfl, Nat.le_of_ble_eq_true rfl⟩ ⟨Nat.le_of_ble_eq_true rfl, Nat.le_of_ble_eq_true rfl⟩ dL_law_1784) hS (fun r1 ρ1 H locs q1 hP hS => ?_)
  refine lv_aload_n hx hb dL_law_1787 rfl (lv_at hl 1 rfl) ?_
  refine call_i (cVt (k := 1076) (av := []) (rest := [.int r1]) B hP hS (c_mstatus l E ρ1  q1.2) lk_RL_194 (hrecv (ci := 7) B hP (by decide) (hcc7 _ _ (show hk 1076 = 7 by decide +kernel)) rfl) rfl rfl hl.1 (Nat.le_of_ble_eq_true rfl) ⟨Nat.le_of_ble_eq_true rfl, Nat.le_of_ble_eq_true rfl⟩ ⟨Nat.le_of_ble_eq_true rfl, Nat.le_of_ble_eq_true rfl⟩ dL_law_1788) hS (fun r2 ρ2 H locs q2 hP hS => ?_)
  exact lv_icmp_eq (tgt := 1796) hx hb dL_law_1791 (by decide) (fun _ => kk ρ2 _ _ hP hS) (fun c => absurd (q1.1.trans q2.symm) c)
end OP
