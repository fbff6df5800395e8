theorem dX7_tell_0 : decode cX7_tell 0 = .ok (.aload_n 0, 1) := by decide +kernel
theorem dX7_tell_1 : decode cX7_tell 1 = .ok (.iconst 0, 1) := by decide +kernel
theorem dX7_tell_2 : decode cX7_tell 2 = .ok (.putfield 54, 3) := by decide +kernel
theorem dX7_tell_5 : decode cX7_tell 5 = .ok (.iload_n 1, 1) := by decide +kernel
theorem dX7_tell_6 : decode cX7_tell 6 = .ok (.ireturn, 1) := by decide +kernel
theorem dX7_refuse_0 : decode cX7_refuse 0 = .ok (.aload_n 0, 1) := by decide +kernel
theorem dX7_refuse_1 : decode cX7_refuse 1 = .ok (.iload_n 1, 1) := by decide +kernel
theorem dX7_refuse_2 : decode cX7_refuse 2 = .ok (.putfield 54, 3) := by decide +kernel
theorem dX7_refuse_5 : decode cX7_refuse 5 = .ok (.aload_n 0, 1) := by decide +kernel
theorem dX7_refuse_6 : decode cX7_refuse 6 = .ok (.getfield 7, 3) := by decide +kernel
theorem dX7_refuse_9 : decode cX7_refuse 9 = .ok (.iload_n 1, 1) := by decide +kernel
theorem dX7_refuse_10 : decode cX7_refuse 10 = .ok (.ineg, 1) := by decide +kernel
theorem dX7_refuse_11 : decode cX7_refuse 11 = .ok (.dup2, 1) := by decide +kernel
theorem dX7_refuse_12 : decode cX7_refuse 12 = .ok (.iaload, 1) := by decide +kernel
theorem dX7_refuse_13 : decode cX7_refuse 13 = .ok (.iconst 1, 1) := by decide +kernel
theorem dX7_refuse_14 : decode cX7_refuse 14 = .ok (.iadd, 1) := by decide +kernel
theorem dX7_refuse_15 : decode cX7_refuse 15 = .ok (.iastore, 1) := by decide +kernel
theorem dX7_refuse_16 : decode cX7_refuse 16 = .ok (.iload_n 1, 1) := by decide +kernel
theorem dX7_refuse_17 : decode cX7_refuse 17 = .ok (.ireturn, 1) := by decide +kernel
theorem dX7_remember_0 : decode cX7_remember 0 = .ok (.aload_n 0, 1) := by decide +kernel
theorem dX7_remember_1 : decode cX7_remember 1 = .ok (.getfield 57, 3) := by decide +kernel
theorem dX7_remember_4 : decode cX7_remember 4 = .ok (.bipush 8, 2) := by decide +kernel
theorem dX7_remember_6 : decode cX7_remember 6 = .ok (.if_icmp .ne 72, 3) := by decide +kernel
theorem dX7_remember_9 : decode cX7_remember 9 = .ok (.iconst 0, 1) := by decide +kernel
theorem dX7_remember_10 : decode cX7_remember 10 = .ok (.istore_n 2, 1) := by decide +kernel
theorem dX7_remember_11 : decode cX7_remember 11 = .ok (.iload_n 2, 1) := by decide +kernel
theorem dX7_remember_12 : decode cX7_remember 12 = .ok (.sipush 4865, 3) := by decide +kernel
theorem dX7_remember_15 : decode cX7_remember 15 = .ok (.if_icmp .ge 25, 3) := by decide +kernel
theorem dX7_remember_18 : decode cX7_remember 18 = .ok (.aload_n 0, 1) := by decide +kernel
theorem dX7_remember_19 : decode cX7_remember 19 = .ok (.getfield 16, 3) := by decide +kernel
theorem dX7_remember_22 : decode cX7_remember 22 = .ok (.iload_n 2, 1) := by decide +kernel
theorem dX7_remember_23 : decode cX7_remember 23 = .ok (.aload_n 0, 1) := by decide +kernel
theorem dX7_remember_24 : decode cX7_remember 24 = .ok (.getfield 16, 3) := by decide +kernel
theorem dX7_remember_27 : decode cX7_remember 27 = .ok (.iload_n 2, 1) := by decide +kernel
theorem dX7_remember_28 : decode cX7_remember 28 = .ok (.sipush 695, 3) := by decide +kernel
theorem dX7_remember_31 : decode cX7_remember 31 = .ok (.iadd, 1) := by decide +kernel
theorem dX7_remember_32 : decode cX7_remember 32 = .ok (.iaload, 1) := by decide +kernel
theorem dX7_remember_33 : decode cX7_remember 33 = .ok (.iastore, 1) := by decide +kernel
theorem dX7_remember_34 : decode cX7_remember 34 = .ok (.iinc 2 1, 3) := by decide +kernel
theorem dX7_remember_37 : decode cX7_remember 37 = .ok (.goto (-26), 3) := by decide +kernel
theorem dX7_remember_40 : decode cX7_remember 40 = .ok (.iconst 0, 1) := by decide +kernel
theorem dX7_remember_41 : decode cX7_remember 41 = .ok (.istore_n 2, 1) := by decide +kernel
theorem dX7_remember_42 : decode cX7_remember 42 = .ok (.iload_n 2, 1) := by decide +kernel
theorem dX7_remember_43 : decode cX7_remember 43 = .ok (.bipush 7, 2) := by decide +kernel
theorem dX7_remember_45 : decode cX7_remember 45 = .ok (.if_icmp .ge 23, 3) := by decide +kernel
theorem dX7_remember_48 : decode cX7_remember 48 = .ok (.aload_n 0, 1) := by decide +kernel
theorem dX7_remember_49 : decode cX7_remember 49 = .ok (.getfield 19, 3) := by decide +kernel
theorem dX7_remember_52 : decode cX7_remember 52 = .ok (.iload_n 2, 1) := by decide +kernel
theorem dX7_remember_53 : decode cX7_remember 53 = .ok (.aload_n 0, 1) := by decide +kernel
theorem dX7_remember_54 : decode cX7_remember 54 = .ok (.getfield 19, 3) := by decide +kernel
theorem dX7_remember_57 : decode cX7_remember 57 = .ok (.iload_n 2, 1) := by decide +kernel
theorem dX7_remember_58 : decode cX7_remember 58 = .ok (.iconst 1, 1) := by decide +kernel
theorem dX7_remember_59 : decode cX7_remember 59 = .ok (.iadd, 1) := by decide +kernel
theorem dX7_remember_60 : decode cX7_remember 60 = .ok (.iaload, 1) := by decide +kernel
theorem dX7_remember_61 : decode cX7_remember 61 = .ok (.iastore, 1) := by decide +kernel
theorem dX7_remember_62 : decode cX7_remember 62 = .ok (.iinc 2 1, 3) := by decide +kernel
theorem dX7_remember_65 : decode cX7_remember 65 = .ok (.goto (-23), 3) := by decide +kernel
theorem dX7_remember_68 : decode cX7_remember 68 = .ok (.aload_n 0, 1) := by decide +kernel
theorem dX7_remember_69 : decode cX7_remember 69 = .ok (.dup, 1) := by decide +kernel
theorem dX7_remember_70 : decode cX7_remember 70 = .ok (.getfield 57, 3) := by decide +kernel
theorem dX7_remember_73 : decode cX7_remember 73 = .ok (.iconst 1, 1) := by decide +kernel
theorem dX7_remember_74 : decode cX7_remember 74 = .ok (.isub, 1) := by decide +kernel
theorem dX7_remember_75 : decode cX7_remember 75 = .ok (.putfield 57, 3) := by decide +kernel
theorem dX7_remember_78 : decode cX7_remember 78 = .ok (.aload_n 0, 1) := by decide +kernel
theorem dX7_remember_79 : decode cX7_remember 79 = .ok (.getfield 13, 3) := by decide +kernel
theorem dX7_remember_82 : decode cX7_remember 82 = .ok (.iconst 0, 1) := by decide +kernel
theorem dX7_remember_83 : decode cX7_remember 83 = .ok (.aload_n 0, 1) := by decide +kernel
theorem dX7_remember_84 : decode cX7_remember 84 = .ok (.getfield 16, 3) := by decide +kernel
theorem dX7_remember_87 : decode cX7_remember 87 = .ok (.sipush 695, 3) := by decide +kernel
theorem dX7_remember_90 : decode cX7_remember 90 = .ok (.aload_n 0, 1) := by decide +kernel
theorem dX7_remember_91 : decode cX7_remember 91 = .ok (.getfield 57, 3) := by decide +kernel
theorem dX7_remember_94 : decode cX7_remember 94 = .ok (.imul, 1) := by decide +kernel
theorem dX7_remember_95 : decode cX7_remember 95 = .ok (.invokestatic 60, 3) := by decide +kernel
theorem dX7_remember_98 : decode cX7_remember 98 = .ok (.aload_n 0, 1) := by decide +kernel
theorem dX7_remember_99 : decode cX7_remember 99 = .ok (.getfield 19, 3) := by decide +kernel
theorem dX7_remember_102 : decode cX7_remember 102 = .ok (.aload_n 0, 1) := by decide +kernel
theorem dX7_remember_103 : decode cX7_remember 103 = .ok (.getfield 57, 3) := by decide +kernel
theorem dX7_remember_106 : decode cX7_remember 106 = .ok (.iload_n 1, 1) := by decide +kernel
theorem dX7_remember_107 : decode cX7_remember 107 = .ok (.iastore, 1) := by decide +kernel
theorem dX7_remember_108 : decode cX7_remember 108 = .ok (.aload_n 0, 1) := by decide +kernel
theorem dX7_remember_109 : decode cX7_remember 109 = .ok (.dup, 1) := by decide +kernel
theorem dX7_remember_110 : decode cX7_remember 110 = .ok (.getfield 57, 3) := by decide +kernel
theorem dX7_remember_113 : decode cX7_remember 113 = .ok (.iconst 1, 1) := by decide +kernel
theorem dX7_remember_114 : decode cX7_remember 114 = .ok (.iadd, 1) := by decide +kernel
theorem dX7_remember_115 : decode cX7_remember 115 = .ok (.putfield 57, 3) := by decide +kernel
theorem dX7_remember_118 : decode cX7_remember 118 = .ok (.return_, 1) := by decide +kernel
set_option maxHeartbeats 4000000 in
set_option maxRecDepth 100000 in
theorem d_X7_tell (l : Launch) (E : hE) (ρ : Nat → Nat → Int32) (a1 : Int32) : Met l yX7_tell (.code yX7_tell cX7_tell 2 (some .int) :: gw_all) (rmk 1 40) (cPre E ρ [.ref (E.2.1 + 1076), .int a1]) (cI E (fun v ρ1 => ρ1 = up ρ 1076 1 0)) 0 0 (hA E) := by
  refine ent (own := RX7) (by decide) rfl (Nat.le_of_ble_eq_true rfl) ?_
  intro p e s m below meth c ls B hr hlk hl hP hS
  have hx := B.1.1
  have hb := B.1.2.1
  have hown := B.1.2.2.2.1
  have hts := B.1.2.2.2.2
  have hl : lv_has ls 2 [(0, .ref (E.2.1 + 1076)), (1, .int a1)] := hl
  refine lv_aload_n hx hb dX7_tell_0 rfl (lv_at hl 0 rfl) ?_
  refine lv_iconst (v := 0) hx hb dX7_tell_1 (by decide) ?_
  refine put7 B hP hS (show hk 1076 = 7 by decide +kernel) 1 (by decide) mw_1028 rfl rfl rfl (fs7_1 E 1076 _ _) dX7_tell_2 (fun H locs hP hS => ?_)
  obtain ⟨ρ3, e4⟩ : ∃ z, z = up ρ 1076 1 0 := ⟨_, rfl⟩
  rw [← e4] at hP
  refine lv_iload_n hx hb dX7_tell_5 rfl (lv_at hl 1 rfl) ?_
  exact ret_i B hr hlk hP hS dX7_tell_6 (e4)

set_option maxHeartbeats 4000000 in
set_option maxRecDepth 100000 in
theorem d_X7_refuse1 (l : Launch) (E : hE) (ρ : Nat → Nat → Int32) : Met l yX7_refuse (.code yX7_refuse cX7_refuse 2 (some .int) :: gw_all) (rmk 1 40) (cPre E ρ [.ref (E.2.1 + 1076), .int (-1)]) (cI E (fun v ρ1 => ρ1 = up (up ρ 1076 1 (-1)) 1077 1 (ρ 1077 1 + 1))) 0 0 (hA E) := by
  refine ent (own := RX7) (by decide) rfl (Nat.le_of_ble_eq_true rfl) ?_
  intro p e s m below meth c ls B hr hlk hl hP hS
  have hx := B.1.1
  have hb := B.1.2.1
  have hown := B.1.2.2.2.1
  have hts := B.1.2.2.2.2
  have hl : lv_has ls 2 [(0, .ref (E.2.1 + 1076)), (1, .int (-1))] := hl
  refine lv_aload_n hx hb dX7_refuse_0 rfl (lv_at hl 0 rfl) ?_
  refine lv_iload_n hx hb dX7_refuse_1 rfl (lv_at hl 1 rfl) ?_
  refine put7 B hP hS (show hk 1076 = 7 by decide +kernel) 1 (by decide) mw_1028 rfl rfl rfl (fs7_1 E 1076 _ _) dX7_refuse_2 (fun H locs hP hS => ?_)
  obtain ⟨ρ6, e7⟩ : ∃ z, z = up ρ 1076 1 (-1) := ⟨_, rfl⟩
  rw [← e7] at hP
  refine lv_aload_n hx hb dX7_refuse_5 rfl (lv_at hl 0 rfl) ?_
  refine get7 B hP (show hk 1076 = 7 by decide +kernel) 2 (by decide) mw_1029 rfl dX7_refuse_6 ?_
  refine lv_iload_n hx hb dX7_refuse_9 rfl (lv_at hl 1 rfl) ?_
  refine lv_ineg hx hb dX7_refuse_10 ?_
  refine lv_topi (fun z8 ez8 => ?_)
  obtain rfl : z8 = 1 := ez8.trans (by decide)
  refine lv_dup2_11 hx hb dX7_refuse_11 rfl rfl ?_
  refine aldf (n := 6) (j := 1) (v := (ρ 1077 1)) B hP (show hk 1077 = 8 by decide +kernel) (show hlen 1077 = 6 by decide +kernel) rfl (by omega) (by decide) (by rw [e7]; exact up_get_ne (Or.inl (by decide)) rfl) dX7_refuse_12 ?_
  refine lv_iconst (v := 1) hx hb dX7_refuse_13 (by decide) ?_
  refine lv_iadd hx hb dX7_refuse_14 ?_
  refine astn (n := 6) (j := 1) B hP hS (show hk 1077 = 8 by decide +kernel) (show hlen 1077 = 6 by decide +kernel) rfl (by omega) (by decide) dX7_refuse_15 (fun H locs hP hS => ?_)
  obtain ⟨ρ9, e10⟩ : ∃ z, z = up ρ6 1077 1 ((ρ 1077 1) + 1) := ⟨_, rfl⟩
  rw [← e10] at hP
  refine lv_iload_n hx hb dX7_refuse_16 rfl (lv_at hl 1 rfl) ?_
  exact ret_i B hr hlk hP hS dX7_refuse_17 ((by rw [e10, e7]))

set_option maxHeartbeats 4000000 in
set_option maxRecDepth 100000 in
theorem d_X7_refuse2 (l : Launch) (E : hE) (ρ : Nat → Nat → Int32) : Met l yX7_refuse (.code yX7_refuse cX7_refuse 2 (some .int) :: gw_all) (rmk 1 40) (cPre E ρ [.ref (E.2.1 + 1076), .int (-2)]) (cI E (fun v ρ1 => ρ1 = up (up ρ 1076 1 (-2)) 1077 2 (ρ 1077 2 + 1))) 0 0 (hA E) := by
  refine ent (own := RX7) (by decide) rfl (Nat.le_of_ble_eq_true rfl) ?_
  intro p e s m below meth c ls B hr hlk hl hP hS
  have hx := B.1.1
  have hb := B.1.2.1
  have hown := B.1.2.2.2.1
  have hts := B.1.2.2.2.2
  have hl : lv_has ls 2 [(0, .ref (E.2.1 + 1076)), (1, .int (-2))] := hl
  refine lv_aload_n hx hb dX7_refuse_0 rfl (lv_at hl 0 rfl) ?_
  refine lv_iload_n hx hb dX7_refuse_1 rfl (lv_at hl 1 rfl) ?_
  refine put7 B hP hS (show hk 1076 = 7 by decide +kernel) 1 (by decide) mw_1028 rfl rfl rfl (fs7_1 E 1076 _ _) dX7_refuse_2 (fun H locs hP hS => ?_)
  obtain ⟨ρ6, e7⟩ : ∃ z, z = up ρ 1076 1 (-2) := ⟨_, rfl⟩
  rw [← e7] at hP
  refine lv_aload_n hx hb dX7_refuse_5 rfl (lv_at hl 0 rfl) ?_
  refine get7 B hP (show hk 1076 = 7 by decide +kernel) 2 (by decide) mw_1029 rfl dX7_refuse_6 ?_
  refine lv_iload_n hx hb dX7_refuse_9 rfl (lv_at hl 1 rfl) ?_
  refine lv_ineg hx hb dX7_refuse_10 ?_
  refine lv_topi (fun z8 ez8 => ?_)
  obtain rfl : z8 = 2 := ez8.trans (by decide)
  refine lv_dup2_11 hx hb dX7_refuse_11 rfl rfl ?_
  refine aldf (n := 6) (j := 2) (v := (ρ 1077 2)) B hP (show hk 1077 = 8 by decide +kernel) (show hlen 1077 = 6 by decide +kernel) rfl (by omega) (by decide) (by rw [e7]; exact up_get_ne (Or.inl (by decide)) rfl) dX7_refuse_12 ?_
  refine lv_iconst (v := 1) hx hb dX7_refuse_13 (by decide) ?_
  refine lv_iadd hx hb dX7_refuse_14 ?_
  refine astn (n := 6) (j := 2) B hP hS (show hk 1077 = 8 by decide +kernel) (show hlen 1077 = 6 by decide +kernel) rfl (by omega) (by decide) dX7_refuse_15 (fun H locs hP hS => ?_)
  obtain ⟨ρ9, e10⟩ : ∃ z, z = up ρ6 1077 2 ((ρ 1077 2) + 1) := ⟨_, rfl⟩
  rw [← e10] at hP
  refine lv_iload_n hx hb dX7_refuse_16 rfl (lv_at hl 1 rfl) ?_
  exact ret_i B hr hlk hP hS dX7_refuse_17 ((by rw [e10, e7]))

set_option maxHeartbeats 4000000 in
set_option maxRecDepth 100000 in
theorem d_X7_refuse4 (l : Launch) (E : hE) (ρ : Nat → Nat → Int32) : Met l yX7_refuse (.code yX7_refuse cX7_refuse 2 (some .int) :: gw_all) (rmk 1 40) (cPre E ρ [.ref (E.2.1 + 1076), .int (-4)]) (cI E (fun v ρ1 => ρ1 = up (up ρ 1076 1 (-4)) 1077 4 (ρ 1077 4 + 1))) 0 0 (hA E) := by
  refine ent (own := RX7) (by decide) rfl (Nat.le_of_ble_eq_true rfl) ?_
  intro p e s m below meth c ls B hr hlk hl hP hS
  have hx := B.1.1
  have hb := B.1.2.1
  have hown := B.1.2.2.2.1
  have hts := B.1.2.2.2.2
  have hl : lv_has ls 2 [(0, .ref (E.2.1 + 1076)), (1, .int (-4))] := hl
  refine lv_aload_n hx hb dX7_refuse_0 rfl (lv_at hl 0 rfl) ?_
  refine lv_iload_n hx hb dX7_refuse_1 rfl (lv_at hl 1 rfl) ?_
  refine put7 B hP hS (show hk 1076 = 7 by decide +kernel) 1 (by decide) mw_1028 rfl rfl rfl (fs7_1 E 1076 _ _) dX7_refuse_2 (fun H locs hP hS => ?_)
  obtain ⟨ρ6, e7⟩ : ∃ z, z = up ρ 1076 1 (-4) := ⟨_, rfl⟩
  rw [← e7] at hP
  refine lv_aload_n hx hb dX7_refuse_5 rfl (lv_at hl 0 rfl) ?_
  refine get7 B hP (show hk 1076 = 7 by decide +kernel) 2 (by decide) mw_1029 rfl dX7_refuse_6 ?_
  refine lv_iload_n hx hb dX7_refuse_9 rfl (lv_at hl 1 rfl) ?_
  refine lv_ineg hx hb dX7_refuse_10 ?_
  refine lv_topi (fun z8 ez8 => ?_)
  obtain rfl : z8 = 4 := ez8.trans (by decide)
  refine lv_dup2_11 hx hb dX7_refuse_11 rfl rfl ?_
  refine aldf (n := 6) (j := 4) (v := (ρ 1077 4)) B hP (show hk 1077 = 8 by decide +kernel) (show hlen 1077 = 6 by decide +kernel) rfl (by omega) (by decide) (by rw [e7]; exact up_get_ne (Or.inl (by decide)) rfl) dX7_refuse_12 ?_
  refine lv_iconst (v := 1) hx hb dX7_refuse_13 (by decide) ?_
  refine lv_iadd hx hb dX7_refuse_14 ?_
  refine astn (n := 6) (j := 4) B hP hS (show hk 1077 = 8 by decide +kernel) (show hlen 1077 = 6 by decide +kernel) rfl (by omega) (by decide) dX7_refuse_15 (fun H locs hP hS => ?_)
  obtain ⟨ρ9, e10⟩ : ∃ z, z = up ρ6 1077 4 ((ρ 1077 4) + 1) := ⟨_, rfl⟩
  rw [← e10] at hP
  refine lv_iload_n hx hb dX7_refuse_16 rfl (lv_at hl 1 rfl) ?_
  exact ret_i B hr hlk hP hS dX7_refuse_17 ((by rw [e10, e7]))

set_option maxHeartbeats 4000000 in
set_option maxRecDepth 100000 in
theorem d_X7_refuse5 (l : Launch) (E : hE) (ρ : Nat → Nat → Int32) : Met l yX7_refuse (.code yX7_refuse cX7_refuse 2 (some .int) :: gw_all) (rmk 1 40) (cPre E ρ [.ref (E.2.1 + 1076), .int (-5)]) (cI E (fun v ρ1 => ρ1 = up (up ρ 1076 1 (-5)) 1077 5 (ρ 1077 5 + 1))) 0 0 (hA E) := by
  refine ent (own := RX7) (by decide) rfl (Nat.le_of_ble_eq_true rfl) ?_
  intro p e s m below meth c ls B hr hlk hl hP hS
  have hx := B.1.1
  have hb := B.1.2.1
  have hown := B.1.2.2.2.1
  have hts := B.1.2.2.2.2
  have hl : lv_has ls 2 [(0, .ref (E.2.1 + 1076)), (1, .int (-5))] := hl
  refine lv_aload_n hx hb dX7_refuse_0 rfl (lv_at hl 0 rfl) ?_
  refine lv_iload_n hx hb dX7_refuse_1 rfl (lv_at hl 1 rfl) ?_
  refine put7 B hP hS (show hk 1076 = 7 by decide +kernel) 1 (by decide) mw_1028 rfl rfl rfl (fs7_1 E 1076 _ _) dX7_refuse_2 (fun H locs hP hS => ?_)
  obtain ⟨ρ6, e7⟩ : ∃ z, z = up ρ 1076 1 (-5) := ⟨_, rfl⟩
  rw [← e7] at hP
  refine lv_aload_n hx hb dX7_refuse_5 rfl (lv_at hl 0 rfl) ?_
  refine get7 B hP (show hk 1076 = 7 by decide +kernel) 2 (by decide) mw_1029 rfl dX7_refuse_6 ?_
  refine lv_iload_n hx hb dX7_refuse_9 rfl (lv_at hl 1 rfl) ?_
  refine lv_ineg hx hb dX7_refuse_10 ?_
  refine lv_topi (fun z8 ez8 => ?_)
  obtain rfl : z8 = 5 := ez8.trans (by decide)
  refine lv_dup2_11 hx hb dX7_refuse_11 rfl rfl ?_
  refine aldf (n := 6) (j := 5) (v := (ρ 1077 5)) B hP (show hk 1077 = 8 by decide +kernel) (show hlen 1077 = 6 by decide +kernel) rfl (by omega) (by decide) (by rw [e7]; exact up_get_ne (Or.inl (by decide)) rfl) dX7_refuse_12 ?_
  refine lv_iconst (v := 1) hx hb dX7_refuse_13 (by decide) ?_
  refine lv_iadd hx hb dX7_refuse_14 ?_
  refine astn (n := 6) (j := 5) B hP hS (show hk 1077 = 8 by decide +kernel) (show hlen 1077 = 6 by decide +kernel) rfl (by omega) (by decide) dX7_refuse_15 (fun H locs hP hS => ?_)
  obtain ⟨ρ9, e10⟩ : ∃ z, z = up ρ6 1077 5 ((ρ 1077 5) + 1) := ⟨_, rfl⟩
  rw [← e10] at hP
  refine lv_iload_n hx hb dX7_refuse_16 rfl (lv_at hl 1 rfl) ?_
  exact ret_i B hr hlk hP hS dX7_refuse_17 ((by rw [e10, e7]))

theorem lk_RX7_60 : LkS RX7 60 yX7_copy cX7_copy 5 none 4 := ⟨⟨mw_1090, mw_1091, mw_59, mw_1092⟩, by decide +kernel⟩
set_option maxHeartbeats 4000000 in
set_option maxRecDepth 100000 in
theorem d_X7_remember (l : Launch) (E : hE) (ρ r : Nat → Nat → Int32) (M : Nat → Int32) (L : Nat → Nat) (hJ : PJ r M L ρ) (r0 : Nat → Nat → Int32) (hr0 : r0 = ρ) (a1 : Int32) : Met l yX7_remember (.code yX7_remember cX7_remember 3 none :: gw_all) (rmk 1 40) (cPre E ρ [.ref (E.2.1 + 1076), .int a1]) (cV E (fun ρ1 => PJ r M L ρ1 ∧ ρ1 1078 = r0 1078)) 0 0 (hA E) := by
  refine ent (own := RX7) (by decide) rfl (Nat.le_of_ble_eq_true rfl) ?_
  intro p e s m below meth c ls B hr hlk hl hP hS
  have hx := B.1.1
  have hb := B.1.2.1
  have hown := B.1.2.2.2.1
  have hts := B.1.2.2.2.2
  have hl : lv_has ls 3 [(0, .ref (E.2.1 + 1076)), (1, .int a1)] := hl
  obtain ⟨u, hu8, hue, -⟩ := hJ.1.2.2.1
  have hue0 : r0 1076 6 = nI u := by rw [hr0]; exact hue
  have b78_0 : ∀ (ls : Array Slot) (ρ : Nat → Nat → Int32) (H : Heap) (locs : List Loc) , lv_has ls 3 [(0, .ref (E.2.1 + 1076)), (1, .int a1)] → WP E ρ H → va_S (hA E) s.heap H locs → (PJ r M L ρ ∧ ρ 1078 = r0 1078 ∧ ∃ w, w ≤ 7 ∧ ρ 1076 6 = nI w) → 0 ≤ u → u ≤ 8 → W p l e (rmk 1 40) s m ([.ref (E.2.1 + 1076), .int a1] : List Value).toArray below meth c H locs 0 0 (MQ below (cV E (fun ρ1 => PJ r M L ρ1 ∧ ρ1 1078 = r0 1078)) ([.ref (E.2.1 + 1076), .int a1] : List Value).toArray s 0 0 (hA E)) (F0 m 78 ls []) := by
    intro ls ρ H locs  hl hP hS hI tlu tuu
    obtain ⟨hJ2, hrow, w, hw7, hwe⟩ := hI
    refine lv_aload_n hx hb dX7_remember_78 rfl (lv_at hl 0 rfl) ?_
    refine get7 B hP (show hk 1076 = 7 by decide +kernel) 3 (by decide) mw_1030 rfl dX7_remember_79 ?_
    refine lv_iconst (v := 0) hx hb dX7_remember_82 (by decide) ?_
    refine lv_aload_n hx hb dX7_remember_83 rfl (lv_at hl 0 rfl) ?_
    refine get7 B hP (show hk 1076 = 7 by decide +kernel) 4 (by decide) mw_1031 rfl dX7_remember_84 ?_
    refine lv_sipush (v := 695) hx hb dX7_remember_87 (by decide) ?_
    refine lv_aload_n hx hb dX7_remember_90 rfl (lv_at hl 0 rfl) ?_
    refine get7 B hP (show hk 1076 = 7 by decide +kernel) 6 (by decide) mw_1033 (v := .int (nI w)) (show some (Value.int (ρ 1076 6)) = some (Value.int (nI w)) from congrArg (fun z => some (Value.int z)) hwe) dX7_remember_91 ?_
    refine lv_imul hx hb dX7_remember_94 ?_
    refine lv_topi (fun z150 ez150 => ?_)
    obtain rfl : z150 = (nI (695 * w)) := ez150.trans (by rw [show 695 = nI 695 from rfl, show (nI w) = nI w from rfl, nI_mul] <;> exact congrArg nI (by omega))
    refine call_v (cS (av := [.ref (E.2.1 + 1078), .int 0, .ref (E.2.1 + 1079), .int (nI (695 * w))]) (rest := []) B hP hS (c_copy l E ρ 1078 1079 695 5560 0 (695 * w) (show hk 1078 = 8 by decide +kernel) (show hlen 1078 = 695 by decide +kernel) (show hk 1079 = 8 by decide +kernel) (show hlen 1079 = 5560 by decide +kernel) (by omega) (by omega) (by decide) (by decide) (by decide)) lk_RX7_60 rfl rfl hl.1 (Nat.le_of_ble_eq_true rfl) ⟨Nat.le_of_ble_eq_true rfl, Nat.le_of_ble_eq_true rfl⟩ ⟨Nat.le_of_ble_eq_true rfl, Nat.le_of_ble_eq_true rfl⟩ dX7_remember_95) hS (fun ρ152 H locs q153 hP hS => ?_)
    refine lv_aload_n hx hb dX7_remember_98 rfl (lv_at hl 0 rfl) ?_
    refine get7 B hP (show hk 1076 = 7 by decide +kernel) 5 (by decide) mw_1032 rfl dX7_remember_99 ?_
    refine lv_aload_n hx hb dX7_remember_102 rfl (lv_at hl 0 rfl) ?_
    refine get7 B hP (show hk 1076 = 7 by decide +kernel) 6 (by decide) mw_1033 (v := .int (nI w)) (show some (Value.int (ρ152 1076 6)) = some (Value.int (nI w)) from congrArg (fun z => some (Value.int z)) ((congrFun (q153.1 1076 (by decide)) _).trans hwe)) dX7_remember_103 ?_
    refine lv_iload_n hx hb dX7_remember_106 rfl (lv_at hl 1 rfl) ?_
    refine astn (n := 8) (j := w) B hP hS (show hk 1080 = 8 by decide +kernel) (show hlen 1080 = 8 by decide +kernel) rfl (by omega) (by decide) dX7_remember_107 (fun H locs hP hS => ?_)
    obtain ⟨ρ154, e155⟩ : ∃ z, z = up ρ152 1080 w a1 := ⟨_, rfl⟩
    rw [← e155] at hP
    refine lv_aload_n hx hb dX7_remember_108 rfl (lv_at hl 0 rfl) ?_
    refine lv_dup hx hb dX7_remember_109 rfl ?_
    refine get7 B hP (show hk 1076 = 7 by decide +kernel) 6 (by decide) mw_1033 (v := .int (nI w)) (show some (Value.int (ρ154 1076 6)) = some (Value.int (nI w)) from congrArg (fun z => some (Value.int z)) (by rw [e155]; exact up_get_ne (Or.inl (by decide)) ((congrFun (q153.1 1076 (by decide)) _).trans hwe))) dX7_remember_110 ?_
    refine lv_iconst (v := 1) hx hb dX7_remember_113 (by decide) ?_
    refine lv_iadd hx hb dX7_remember_114 ?_
    refine lv_topi (fun z156 ez156 => ?_)
    obtain rfl : z156 = (nI (1 + w)) := ez156.trans (by rw [show (nI w) = nI w from rfl, show 1 = nI 1 from rfl, nI_add] <;> exact congrArg nI (by omega))
    refine put7 B hP hS (show hk 1076 = 7 by decide +kernel) 6 (by decide) mw_1033 rfl rfl rfl (fs7_6 E 1076 _ _) dX7_remember_115 (fun H locs hP hS => ?_)
    obtain ⟨ρ157, e158⟩ : ∃ z, z = up ρ154 1076 6 (nI (1 + w)) := ⟨_, rfl⟩
    rw [← e158] at hP
    exact ret_v B hr hlk hP hS dX7_remember_118 ((by rw [e158, e155]; have z := PJ_rem (a := a1) hJ2 hwe hw7 q153.1 q153.2.1 q153.2.2; exact ⟨z.1, z.2.trans hrow⟩))
  have b42_0 : ∀ (ls : Array Slot) (ρ : Nat → Nat → Int32) (H : Heap) (locs : List Loc) (d42 : Nat) (j42_2 : Nat), lv_has ls 3 [(0, .ref (E.2.1 + 1076)), (1, .int a1), (2, .int (nI j42_2))] → WP E ρ H → va_S (hA E) s.heap H locs → RM r0 4865 ρ → 8 - j42_2 < d42 → 0 ≤ j42_2 → j42_2 ≤ 7 → 8 ≤ u → u ≤ 8 → W p l e (rmk 1 40) s m ([.ref (E.2.1 + 1076), .int a1] : List Value).toArray below meth c H locs 0 0 (MQ below (cV E (fun ρ1 => PJ r M L ρ1 ∧ ρ1 1078 = r0 1078)) ([.ref (E.2.1 + 1076), .int a1] : List Value).toArray s 0 0 (hA E)) (F0 m 42 ls []) := by
    intro ls ρ H locs d42
    induction d42 generalizing ls ρ H locs with
    | zero => intro j42_2 hl hP hS hI hd42 lj42_2 uj42_2 tlu tuu; exact absurd hd42 (Nat.not_lt_zero _)
    | succ d42 ih42 =>
      intro j42_2 hl hP hS hI hd42 lj42_2 uj42_2 tlu tuu
      refine lv_iload_n hx hb dX7_remember_42 rfl (lv_at hl 2 rfl) ?_
      refine lv_bipush (v := 7) hx hb dX7_remember_43 (by decide) ?_
      refine lv_icmp_ge (tgt := 68) hx hb dX7_remember_45 (by decide) (fun c159 => ?_) (fun c159 => ?_)
      · skip
        have n160 := mt (nx_lt (a := j42_2) (b := 7) (by omega) (by omega)).mpr (show ¬ (nI j42_2 < nI 7) from (Int32.not_lt.mpr c159))
        refine lv_aload_n hx hb dX7_remember_68 rfl (lv_at hl 0 rfl) ?_
        refine lv_dup hx hb dX7_remember_69 rfl ?_
        refine get7 B hP (show hk 1076 = 7 by decide +kernel) 6 (by decide) mw_1033 (v := .int (nI u)) (show some (Value.int (ρ 1076 6)) = some (Value.int (nI u)) from congrArg (fun z => some (Value.int z)) ((congrFun (hI.1 1076 (by decide) (by decide)) 6).trans hue0)) dX7_remember_70 ?_
        refine lv_iconst (v := 1) hx hb dX7_remember_73 (by decide) ?_
        refine lv_isub hx hb dX7_remember_74 ?_
        obtain ⟨j161, hj161⟩ : ∃ q, u = q + 1 := ⟨u - 1, by omega⟩
        refine lv_topi (fun z162 ez162 => ?_)
        obtain rfl : z162 = (nI j161) := ez162.trans (nI_subE (a := u) (b := 1) hj161)
        refine put7 B hP hS (show hk 1076 = 7 by decide +kernel) 6 (by decide) mw_1033 rfl rfl rfl (fs7_6 E 1076 _ _) dX7_remember_75 (fun H locs hP hS => ?_)
        obtain ⟨ρ163, e164⟩ : ∃ z, z = up ρ 1076 6 (nI j161) := ⟨_, rfl⟩
        rw [← e164] at hP
        exact b78_0 ls ρ163 _ _  (lv_sub hl [0, 1] rfl) hP hS ⟨by rw [e164]; have z := PJ_shift (hr0.symm ▸ hJ) (by rw [hue0]; exact congrArg nI (show u = 8 by omega)) hI; rw [show j161 = 7 by omega]; exact z, by rw [e164, up_ne _ _ _ (by decide)]; exact hI.1 1078 (by decide) (by decide), j161, by omega, by rw [e164]; exact up_get_at⟩ (by omega) (by omega)
      · skip
        have n165 := (nx_lt (a := j42_2) (b := 7) (by omega) (by omega)).mp (show (nI j42_2 < nI 7) from (Int32.not_le.mp c159))
        refine lv_aload_n hx hb dX7_remember_48 rfl (lv_at hl 0 rfl) ?_
        refine get7 B hP (show hk 1076 = 7 by decide +kernel) 5 (by decide) mw_1032 rfl dX7_remember_49 ?_
        refine lv_iload_n hx hb dX7_remember_52 rfl (lv_at hl 2 rfl) ?_
        refine lv_aload_n hx hb dX7_remember_53 rfl (lv_at hl 0 rfl) ?_
        refine get7 B hP (show hk 1076 = 7 by decide +kernel) 5 (by decide) mw_1032 rfl dX7_remember_54 ?_
        refine lv_iload_n hx hb dX7_remember_57 rfl (lv_at hl 2 rfl) ?_
        refine lv_iconst (v := 1) hx hb dX7_remember_58 (by decide) ?_
        refine lv_iadd hx hb dX7_remember_59 ?_
        refine lv_topi (fun z166 ez166 => ?_)
        obtain rfl : z166 = (nI (1 + j42_2)) := ez166.trans (by rw [show (nI j42_2) = nI j42_2 from rfl, show 1 = nI 1 from rfl, nI_add] <;> exact congrArg nI (by omega))
        refine aldn (n := 8) (j := (1 + j42_2)) B hP (show hk 1080 = 8 by decide +kernel) (show hlen 1080 = 8 by decide +kernel) rfl (by omega) (by decide) dX7_remember_60 ?_
        refine astn (n := 8) (j := j42_2) B hP hS (show hk 1080 = 8 by decide +kernel) (show hlen 1080 = 8 by decide +kernel) rfl (by omega) (by decide) dX7_remember_61 (fun H locs hP hS => ?_)
        obtain ⟨ρ167, e168⟩ : ∃ z, z = up ρ 1080 j42_2 (ρ 1080 (1 + j42_2)) := ⟨_, rfl⟩
        rw [← e168] at hP
        refine lv_iinc (v := (nI (1 + j42_2))) (lv' := [(2, .int (nI (1 + j42_2))), (0, .ref (E.2.1 + 1076)), (1, .int a1)]) hx hb dX7_remember_62 hl (k := 2) rfl (show nI j42_2 + nI 1 = _ from (nI_add _ _).trans (congrArg nI (by omega))) (by decide) rfl (fun ls hl => ?_)
        refine lv_goto (tgt := 42) hx hb dX7_remember_65 (by decide) ?_
        exact ih42 ls ρ167 _ _ (1 + j42_2) (lv_sub hl [1, 2, 0] rfl) hP hS (by rw [e168]; exact RM_80 hI) (by omega) (by omega) (by omega) (by omega) (by omega)
  have b11_0 : ∀ (ls : Array Slot) (ρ : Nat → Nat → Int32) (H : Heap) (locs : List Loc) (d11 : Nat) (j11_2 : Nat), lv_has ls 3 [(0, .ref (E.2.1 + 1076)), (1, .int a1), (2, .int (nI j11_2))] → WP E ρ H → va_S (hA E) s.heap H locs → RM r0 j11_2 ρ → 4866 - j11_2 < d11 → 0 ≤ j11_2 → j11_2 ≤ 4865 → 8 ≤ u → u ≤ 8 → W p l e (rmk 1 40) s m ([.ref (E.2.1 + 1076), .int a1] : List Value).toArray below meth c H locs 0 0 (MQ below (cV E (fun ρ1 => PJ r M L ρ1 ∧ ρ1 1078 = r0 1078)) ([.ref (E.2.1 + 1076), .int a1] : List Value).toArray s 0 0 (hA E)) (F0 m 11 ls []) := by
    intro ls ρ H locs d11
    induction d11 generalizing ls ρ H locs with
    | zero => intro j11_2 hl hP hS hI hd11 lj11_2 uj11_2 tlu tuu; exact absurd hd11 (Nat.not_lt_zero _)
    | succ d11 ih11 =>
      intro j11_2 hl hP hS hI hd11 lj11_2 uj11_2 tlu tuu
      refine lv_iload_n hx hb dX7_remember_11 rfl (lv_at hl 2 rfl) ?_
      refine lv_sipush (v := 4865) hx hb dX7_remember_12 (by decide) ?_
      refine lv_icmp_ge (tgt := 40) hx hb dX7_remember_15 (by decide) (fun c169 => ?_) (fun c169 => ?_)
      · skip
        have n170 := mt (nx_lt (a := j11_2) (b := 4865) (by omega) (by omega)).mpr (show ¬ (nI j11_2 < nI 4865) from (Int32.not_lt.mpr c169))
        refine lv_iconst (v := 0) hx hb dX7_remember_40 (by decide) ?_
        refine lv_istore_n (lv' := [(2, .int 0), (0, .ref (E.2.1 + 1076)), (1, .int a1)]) hx hb dX7_remember_41 rfl hl (by decide) rfl (fun ls hl => ?_)
        exact b42_0 ls ρ _ _ _ 0 (lv_sub hl [1, 2, 0] rfl) hP hS (by have z := hI; rw [show j11_2 = 4865 by omega] at z; exact z) (Nat.lt_succ_self _) (by omega) (by omega) (by omega) (by omega)
      · skip
        have n171 := (nx_lt (a := j11_2) (b := 4865) (by omega) (by omega)).mp (show (nI j11_2 < nI 4865) from (Int32.not_le.mp c169))
        refine lv_aload_n hx hb dX7_remember_18 rfl (lv_at hl 0 rfl) ?_
        refine get7 B hP (show hk 1076 = 7 by decide +kernel) 4 (by decide) mw_1031 rfl dX7_remember_19 ?_
        refine lv_iload_n hx hb dX7_remember_22 rfl (lv_at hl 2 rfl) ?_
        refine lv_aload_n hx hb dX7_remember_23 rfl (lv_at hl 0 rfl) ?_
        refine get7 B hP (show hk 1076 = 7 by decide +kernel) 4 (by decide) mw_1031 rfl dX7_remember_24 ?_
        refine lv_iload_n hx hb dX7_remember_27 rfl (lv_at hl 2 rfl) ?_
        refine lv_sipush (v := 695) hx hb dX7_remember_28 (by decide) ?_
        refine lv_iadd hx hb dX7_remember_31 ?_
        refine lv_topi (fun z172 ez172 => ?_)
        obtain rfl : z172 = (nI (695 + j11_2)) := ez172.trans (by rw [show (nI j11_2) = nI j11_2 from rfl, show 695 = nI 695 from rfl, nI_add] <;> exact congrArg nI (by omega))
        refine aldn (n := 5560) (j := (695 + j11_2)) B hP (show hk 1079 = 8 by decide +kernel) (show hlen 1079 = 5560 by decide +kernel) rfl (by omega) (by decide) dX7_remember_32 ?_
        refine astn (n := 5560) (j := j11_2) B hP hS (show hk 1079 = 8 by decide +kernel) (show hlen 1079 = 5560 by decide +kernel) rfl (by omega) (by decide) dX7_remember_33 (fun H locs hP hS => ?_)
        obtain ⟨ρ173, e174⟩ : ∃ z, z = up ρ 1079 j11_2 (ρ 1079 (695 + j11_2)) := ⟨_, rfl⟩
        rw [← e174] at hP
        refine lv_iinc (v := (nI (1 + j11_2))) (lv' := [(2, .int (nI (1 + j11_2))), (0, .ref (E.2.1 + 1076)), (1, .int a1)]) hx hb dX7_remember_34 hl (k := 2) rfl (show nI j11_2 + nI 1 = _ from (nI_add _ _).trans (congrArg nI (by omega))) (by decide) rfl (fun ls hl => ?_)
        refine lv_goto (tgt := 11) hx hb dX7_remember_37 (by decide) ?_
        exact ih11 ls ρ173 _ _ (1 + j11_2) (lv_sub hl [1, 2, 0] rfl) hP hS (by rw [e174]; exact RM_step hI) (by omega) (by omega) (by omega) (by omega) (by omega)
  refine lv_aload_n hx hb dX7_remember_0 rfl (lv_at hl 0 rfl) ?_
  refine get7 B hP (show hk 1076 = 7 by decide +kernel) 6 (by decide) mw_1033 (v := .int (nI u)) (show some (Value.int (ρ 1076 6)) = some (Value.int (nI u)) from congrArg (fun z => some (Value.int z)) hue) dX7_remember_1 ?_
  refine lv_bipush (v := 8) hx hb dX7_remember_4 (by decide) ?_
  refine lv_icmp_ne (tgt := 78) hx hb dX7_remember_6 (by decide) (fun c175 => ?_) (fun c175 => ?_)
  · skip
    have n176 := mt (nI_eq (a := u) (b := 8) (by omega) (by omega)).mpr (show ¬ (nI u = nI 8) from c175)
    exact b78_0 ls ρ _ _  (lv_sub hl [0, 1] rfl) hP hS ⟨hJ, by rw [hr0], u, by omega, hue⟩ (by omega) (by omega)
  · skip
    have n177 := (nI_eq (a := u) (b := 8) (by omega) (by omega)).mp (show (nI u = nI 8) from c175)
    refine lv_iconst (v := 0) hx hb dX7_remember_9 (by decide) ?_
    refine lv_istore_n (lv' := [(2, .int 0), (0, .ref (E.2.1 + 1076)), (1, .int a1)]) hx hb dX7_remember_10 rfl hl (by decide) rfl (fun ls hl => ?_)
    exact b11_0 ls ρ _ _ _ 0 (lv_sub hl [1, 2, 0] rfl) hP hS (by rw [hr0]; exact RM_0) (Nat.lt_succ_self _) (by omega) (by omega) (by omega) (by omega)
