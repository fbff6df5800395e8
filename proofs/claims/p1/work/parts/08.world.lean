
theorem ht_ok {n : Int32} (h : iR n 1 200) : ¬ (99998 : Int32) < 0 + 2 * n := by
  intro z
  have z := Int32.lt_iff_toInt_lt.mp z
  have e : (0 + 2 * n).toInt = 2 * n.toInt := by
    rw [Int32.zero_add, Int32.toInt_mul]
    have e2 : (2 : Int32).toInt = 2 := rfl
    rw [e2, Int.bmod_eq_of_le (by have := h.1; omega) (by have := h.2; omega)]
  have e3 : (99998 : Int32).toInt = 99998 := rfl
  rw [e, e3] at z
  have := h.2
  omega
theorem iR_nat {n : Int32} {a b : Int} (h : iR n a b) (ha : 0 ≤ a) (hb : b < 2 ^ 31) : ∃ N : Nat, ((a ≤ N ∧ N ≤ b) ∧ N < 2 ^ 31) ∧ n = nI N := by
  obtain ⟨j, hj, e⟩ := nI_of (x := n) (fun q => by have := Int32.lt_iff_toInt_lt.mp q; have h0 : (0 : Int32).toInt = 0 := rfl; rw [h0] at this; have := h.1; omega)
  have h1 := h.1
  have h2 := h.2
  rw [e, nI_toInt hj] at h1 h2
  exact ⟨j, ⟨⟨h1, h2⟩, hj⟩, e⟩
theorem dX5_netAt_0 : decode cX5_netAt 0 = .ok (.iload_n 1, 1) := by decide +kernel
theorem dX5_netAt_1 : decode cX5_netAt 1 = .ok (.ifCond .lt 21, 3) := by decide +kernel
theorem dX5_netAt_4 : decode cX5_netAt 4 = .ok (.iload_n 1, 1) := by decide +kernel
theorem dX5_netAt_5 : decode cX5_netAt 5 = .ok (.iconst 2, 1) := by decide +kernel
theorem dX5_netAt_6 : decode cX5_netAt 6 = .ok (.if_icmp .ge 16, 3) := by decide +kernel
theorem dX5_netAt_9 : decode cX5_netAt 9 = .ok (.aload_n 0, 1) := by decide +kernel
theorem dX5_netAt_10 : decode cX5_netAt 10 = .ok (.getfield 23, 3) := by decide +kernel
theorem dX5_netAt_13 : decode cX5_netAt 13 = .ok (.iload_n 1, 1) := by decide +kernel
theorem dX5_netAt_14 : decode cX5_netAt 14 = .ok (.aaload, 1) := by decide +kernel
theorem dX5_netAt_15 : decode cX5_netAt 15 = .ok (.getfield 57, 3) := by decide +kernel
theorem dX5_netAt_18 : decode cX5_netAt 18 = .ok (.iconst (-1), 1) := by decide +kernel
theorem dX5_netAt_19 : decode cX5_netAt 19 = .ok (.if_icmp .ne 7, 3) := by decide +kernel
theorem dX5_netAt_22 : decode cX5_netAt 22 = .ok (.aconst_null, 1) := by decide +kernel
theorem dX5_netAt_23 : decode cX5_netAt 23 = .ok (.goto 9, 3) := by decide +kernel
theorem dX5_netAt_26 : decode cX5_netAt 26 = .ok (.aload_n 0, 1) := by decide +kernel
theorem dX5_netAt_27 : decode cX5_netAt 27 = .ok (.getfield 23, 3) := by decide +kernel
theorem dX5_netAt_30 : decode cX5_netAt 30 = .ok (.iload_n 1, 1) := by decide +kernel
theorem dX5_netAt_31 : decode cX5_netAt 31 = .ok (.aaload, 1) := by decide +kernel
theorem dX5_netAt_32 : decode cX5_netAt 32 = .ok (.areturn, 1) := by decide +kernel
theorem dX5_linkAt_0 : decode cX5_linkAt 0 = .ok (.aload_n 0, 1) := by decide +kernel
theorem dX5_linkAt_1 : decode cX5_linkAt 1 = .ok (.iload_n 1, 1) := by decide +kernel
theorem dX5_linkAt_2 : decode cX5_linkAt 2 = .ok (.invokevirtual 60, 3) := by decide +kernel
theorem dX5_linkAt_5 : decode cX5_linkAt 5 = .ok (.astore_n 3, 1) := by decide +kernel
theorem dX5_linkAt_6 : decode cX5_linkAt 6 = .ok (.aload_n 3, 1) := by decide +kernel
theorem dX5_linkAt_7 : decode cX5_linkAt 7 = .ok (.ifnonnull 7, 3) := by decide +kernel
theorem dX5_linkAt_10 : decode cX5_linkAt 10 = .ok (.aconst_null, 1) := by decide +kernel
theorem dX5_linkAt_11 : decode cX5_linkAt 11 = .ok (.goto 8, 3) := by decide +kernel
theorem dX5_linkAt_14 : decode cX5_linkAt 14 = .ok (.aload_n 3, 1) := by decide +kernel
theorem dX5_linkAt_15 : decode cX5_linkAt 15 = .ok (.iload_n 2, 1) := by decide +kernel
theorem dX5_linkAt_16 : decode cX5_linkAt 16 = .ok (.invokevirtual 64, 3) := by decide +kernel
theorem dX5_linkAt_19 : decode cX5_linkAt 19 = .ok (.areturn, 1) := by decide +kernel
theorem dX5_hasRadio_0 : decode cX5_hasRadio 0 = .ok (.iload_n 1, 1) := by decide +kernel
theorem dX5_hasRadio_1 : decode cX5_hasRadio 1 = .ok (.ifCond .lt 15, 3) := by decide +kernel
theorem dX5_hasRadio_4 : decode cX5_hasRadio 4 = .ok (.iload_n 1, 1) := by decide +kernel
theorem dX5_hasRadio_5 : decode cX5_hasRadio 5 = .ok (.aload_n 0, 1) := by decide +kernel
theorem dX5_hasRadio_6 : decode cX5_hasRadio 6 = .ok (.getfield 27, 3) := by decide +kernel
theorem dX5_hasRadio_9 : decode cX5_hasRadio 9 = .ok (.if_icmp .ge 7, 3) := by decide +kernel
theorem dX5_hasRadio_12 : decode cX5_hasRadio 12 = .ok (.iconst 1, 1) := by decide +kernel
theorem dX5_hasRadio_13 : decode cX5_hasRadio 13 = .ok (.goto 4, 3) := by decide +kernel
theorem dX5_hasRadio_16 : decode cX5_hasRadio 16 = .ok (.iconst 0, 1) := by decide +kernel
theorem dX5_hasRadio_17 : decode cX5_hasRadio 17 = .ok (.ireturn, 1) := by decide +kernel
theorem dX5_hasBothNets_0 : decode cX5_hasBothNets 0 = .ok (.aload_n 0, 1) := by decide +kernel
theorem dX5_hasBothNets_1 : decode cX5_hasBothNets 1 = .ok (.iconst 0, 1) := by decide +kernel
theorem dX5_hasBothNets_2 : decode cX5_hasBothNets 2 = .ok (.invokevirtual 60, 3) := by decide +kernel
theorem dX5_hasBothNets_5 : decode cX5_hasBothNets 5 = .ok (.ifnull 15, 3) := by decide +kernel
theorem dX5_hasBothNets_8 : decode cX5_hasBothNets 8 = .ok (.aload_n 0, 1) := by decide +kernel
theorem dX5_hasBothNets_9 : decode cX5_hasBothNets 9 = .ok (.iconst 1, 1) := by decide +kernel
theorem dX5_hasBothNets_10 : decode cX5_hasBothNets 10 = .ok (.invokevirtual 60, 3) := by decide +kernel
theorem dX5_hasBothNets_13 : decode cX5_hasBothNets 13 = .ok (.ifnull 7, 3) := by decide +kernel
theorem dX5_hasBothNets_16 : decode cX5_hasBothNets 16 = .ok (.iconst 1, 1) := by decide +kernel
theorem dX5_hasBothNets_17 : decode cX5_hasBothNets 17 = .ok (.goto 4, 3) := by decide +kernel
theorem dX5_hasBothNets_20 : decode cX5_hasBothNets 20 = .ok (.iconst 0, 1) := by decide +kernel
theorem dX5_hasBothNets_21 : decode cX5_hasBothNets 21 = .ok (.ireturn, 1) := by decide +kernel
theorem dX6_planOf_0 : decode cX6_planOf 0 = .ok (.aload_n 0, 1) := by decide +kernel
theorem dX6_planOf_1 : decode cX6_planOf 1 = .ok (.getfield 12, 3) := by decide +kernel
theorem dX6_planOf_4 : decode cX6_planOf 4 = .ok (.iload_n 1, 1) := by decide +kernel
theorem dX6_planOf_5 : decode cX6_planOf 5 = .ok (.invokevirtual 95, 3) := by decide +kernel
theorem dX6_planOf_8 : decode cX6_planOf 8 = .ok (.astore_n 3, 1) := by decide +kernel
theorem dX6_planOf_9 : decode cX6_planOf 9 = .ok (.aload_n 3, 1) := by decide +kernel
theorem dX6_planOf_10 : decode cX6_planOf 10 = .ok (.ifnonnull 5, 3) := by decide +kernel
theorem dX6_planOf_13 : decode cX6_planOf 13 = .ok (.aconst_null, 1) := by decide +kernel
theorem dX6_planOf_14 : decode cX6_planOf 14 = .ok (.areturn, 1) := by decide +kernel
theorem dX6_planOf_15 : decode cX6_planOf 15 = .ok (.iload_n 2, 1) := by decide +kernel
theorem dX6_planOf_16 : decode cX6_planOf 16 = .ok (.iconst (-1), 1) := by decide +kernel
theorem dX6_planOf_17 : decode cX6_planOf 17 = .ok (.if_icmp .ne 8, 3) := by decide +kernel
theorem dX6_planOf_20 : decode cX6_planOf 20 = .ok (.aload_n 3, 1) := by decide +kernel
theorem dX6_planOf_21 : decode cX6_planOf 21 = .ok (.getfield 190, 3) := by decide +kernel
theorem dX6_planOf_24 : decode cX6_planOf 24 = .ok (.areturn, 1) := by decide +kernel
theorem dX6_planOf_25 : decode cX6_planOf 25 = .ok (.aload_n 3, 1) := by decide +kernel
theorem dX6_planOf_26 : decode cX6_planOf 26 = .ok (.iload_n 2, 1) := by decide +kernel
theorem dX6_planOf_27 : decode cX6_planOf 27 = .ok (.invokevirtual 109, 3) := by decide +kernel
theorem dX6_planOf_30 : decode cX6_planOf 30 = .ok (.astore 4, 2) := by decide +kernel
theorem dX6_planOf_32 : decode cX6_planOf 32 = .ok (.aload 4, 2) := by decide +kernel
theorem dX6_planOf_34 : decode cX6_planOf 34 = .ok (.ifnonnull 7, 3) := by decide +kernel
theorem dX6_planOf_37 : decode cX6_planOf 37 = .ok (.aconst_null, 1) := by decide +kernel
theorem dX6_planOf_38 : decode cX6_planOf 38 = .ok (.goto 8, 3) := by decide +kernel
theorem dX6_planOf_41 : decode cX6_planOf 41 = .ok (.aload 4, 2) := by decide +kernel
theorem dX6_planOf_43 : decode cX6_planOf 43 = .ok (.getfield 237, 3) := by decide +kernel
theorem dX6_planOf_46 : decode cX6_planOf 46 = .ok (.areturn, 1) := by decide +kernel
theorem dX6_hasTimeFor_0 : decode cX6_hasTimeFor 0 = .ok (.aload_n 0, 1) := by decide +kernel
theorem dX6_hasTimeFor_1 : decode cX6_hasTimeFor 1 = .ok (.getfield 12, 3) := by decide +kernel
theorem dX6_hasTimeFor_4 : decode cX6_hasTimeFor 4 = .ok (.getfield 102, 3) := by decide +kernel
theorem dX6_hasTimeFor_7 : decode cX6_hasTimeFor 7 = .ok (.iconst 2, 1) := by decide +kernel
theorem dX6_hasTimeFor_8 : decode cX6_hasTimeFor 8 = .ok (.iload_n 1, 1) := by decide +kernel
theorem dX6_hasTimeFor_9 : decode cX6_hasTimeFor 9 = .ok (.imul, 1) := by decide +kernel
theorem dX6_hasTimeFor_10 : decode cX6_hasTimeFor 10 = .ok (.iadd, 1) := by decide +kernel
theorem dX6_hasTimeFor_11 : decode cX6_hasTimeFor 11 = .ok (.ldc_w 338, 3) := by decide +kernel
theorem dX6_hasTimeFor_14 : decode cX6_hasTimeFor 14 = .ok (.if_icmp .gt 7, 3) := by decide +kernel
theorem dX6_hasTimeFor_17 : decode cX6_hasTimeFor 17 = .ok (.iconst 1, 1) := by decide +kernel
theorem dX6_hasTimeFor_18 : decode cX6_hasTimeFor 18 = .ok (.goto 4, 3) := by decide +kernel
theorem dX6_hasTimeFor_21 : decode cX6_hasTimeFor 21 = .ok (.iconst 0, 1) := by decide +kernel
theorem dX6_hasTimeFor_22 : decode cX6_hasTimeFor 22 = .ok (.ireturn, 1) := by decide +kernel
theorem dX3_changesAt_0 : decode cX3_changesAt 0 = .ok (.aload_n 0, 1) := by decide +kernel
theorem dX3_changesAt_1 : decode cX3_changesAt 1 = .ok (.getfield 16, 3) := by decide +kernel
theorem dX3_changesAt_4 : decode cX3_changesAt 4 = .ok (.ifCond .eq 11, 3) := by decide +kernel
theorem dX3_changesAt_7 : decode cX3_changesAt 7 = .ok (.aload_n 0, 1) := by decide +kernel
theorem dX3_changesAt_8 : decode cX3_changesAt 8 = .ok (.getfield 19, 3) := by decide +kernel
theorem dX3_changesAt_11 : decode cX3_changesAt 11 = .ok (.iload_n 1, 1) := by decide +kernel
theorem dX3_changesAt_12 : decode cX3_changesAt 12 = .ok (.if_icmp .le 5, 3) := by decide +kernel
theorem dX3_changesAt_15 : decode cX3_changesAt 15 = .ok (.iconst 0, 1) := by decide +kernel
theorem dX3_changesAt_16 : decode cX3_changesAt 16 = .ok (.ireturn, 1) := by decide +kernel
theorem dX3_changesAt_17 : decode cX3_changesAt 17 = .ok (.aload_n 0, 1) := by decide +kernel
theorem dX3_changesAt_18 : decode cX3_changesAt 18 = .ok (.aload_n 0, 1) := by decide +kernel
theorem dX3_changesAt_19 : decode cX3_changesAt 19 = .ok (.getfield 16, 3) := by decide +kernel
theorem dX3_changesAt_22 : decode cX3_changesAt 22 = .ok (.invokevirtual 22, 3) := by decide +kernel
theorem dX3_changesAt_25 : decode cX3_changesAt 25 = .ok (.iconst 1, 1) := by decide +kernel
theorem dX3_changesAt_26 : decode cX3_changesAt 26 = .ok (.ireturn, 1) := by decide +kernel
theorem dX5_changeMaps_0 : decode cX5_changeMaps 0 = .ok (.aload_n 1, 1) := by decide +kernel
theorem dX5_changeMaps_1 : decode cX5_changeMaps 1 = .ok (.getfield 104, 3) := by decide +kernel
theorem dX5_changeMaps_4 : decode cX5_changeMaps 4 = .ok (.getfield 108, 3) := by decide +kernel
theorem dX5_changeMaps_7 : decode cX5_changeMaps 7 = .ok (.istore_n 2, 1) := by decide +kernel
theorem dX5_changeMaps_8 : decode cX5_changeMaps 8 = .ok (.aload_n 1, 1) := by decide +kernel
theorem dX5_changeMaps_9 : decode cX5_changeMaps 9 = .ok (.getfield 104, 3) := by decide +kernel
theorem dX5_changeMaps_12 : decode cX5_changeMaps 12 = .ok (.aload_n 0, 1) := by decide +kernel
theorem dX5_changeMaps_13 : decode cX5_changeMaps 13 = .ok (.getfield 31, 3) := by decide +kernel
theorem dX5_changeMaps_16 : decode cX5_changeMaps 16 = .ok (.invokevirtual 180, 3) := by decide +kernel
theorem dX5_changeMaps_19 : decode cX5_changeMaps 19 = .ok (.ifCond .eq 19, 3) := by decide +kernel
theorem dX5_changeMaps_22 : decode cX5_changeMaps 22 = .ok (.aload_n 1, 1) := by decide +kernel
theorem dX5_changeMaps_23 : decode cX5_changeMaps 23 = .ok (.iload_n 2, 1) := by decide +kernel
theorem dX5_changeMaps_24 : decode cX5_changeMaps 24 = .ok (.putfield 183, 3) := by decide +kernel
theorem dX5_changeMaps_27 : decode cX5_changeMaps 27 = .ok (.aload_n 0, 1) := by decide +kernel
theorem dX5_changeMaps_28 : decode cX5_changeMaps 28 = .ok (.getfield 18, 3) := by decide +kernel
theorem dX5_changeMaps_31 : decode cX5_changeMaps 31 = .ok (.bipush 8, 2) := by decide +kernel
theorem dX5_changeMaps_33 : decode cX5_changeMaps 33 = .ok (.dup2, 1) := by decide +kernel
theorem dX5_changeMaps_34 : decode cX5_changeMaps 34 = .ok (.iaload, 1) := by decide +kernel
theorem dX5_changeMaps_35 : decode cX5_changeMaps 35 = .ok (.iconst 1, 1) := by decide +kernel
theorem dX5_changeMaps_36 : decode cX5_changeMaps 36 = .ok (.iadd, 1) := by decide +kernel
theorem dX5_changeMaps_37 : decode cX5_changeMaps 37 = .ok (.iastore, 1) := by decide +kernel
theorem dX5_changeMaps_38 : decode cX5_changeMaps 38 = .ok (.iconst 0, 1) := by decide +kernel
theorem dX5_changeMaps_39 : decode cX5_changeMaps 39 = .ok (.istore_n 3, 1) := by decide +kernel
theorem dX5_changeMaps_40 : decode cX5_changeMaps 40 = .ok (.iload_n 3, 1) := by decide +kernel
theorem dX5_changeMaps_41 : decode cX5_changeMaps 41 = .ok (.aload_n 1, 1) := by decide +kernel
theorem dX5_changeMaps_42 : decode cX5_changeMaps 42 = .ok (.getfield 121, 3) := by decide +kernel
theorem dX5_changeMaps_45 : decode cX5_changeMaps 45 = .ok (.if_icmp .ge 31, 3) := by decide +kernel
theorem dX5_changeMaps_48 : decode cX5_changeMaps 48 = .ok (.iload_n 3, 1) := by decide +kernel
theorem dX5_changeMaps_49 : decode cX5_changeMaps 49 = .ok (.iconst 4, 1) := by decide +kernel
theorem dX5_changeMaps_50 : decode cX5_changeMaps 50 = .ok (.if_icmp .ge 26, 3) := by decide +kernel
theorem dX5_changeMaps_53 : decode cX5_changeMaps 53 = .ok (.aload_n 1, 1) := by decide +kernel
theorem dX5_changeMaps_54 : decode cX5_changeMaps 54 = .ok (.getfield 124, 3) := by decide +kernel
theorem dX5_changeMaps_57 : decode cX5_changeMaps 57 = .ok (.iload_n 3, 1) := by decide +kernel
theorem dX5_changeMaps_58 : decode cX5_changeMaps 58 = .ok (.aaload, 1) := by decide +kernel
theorem dX5_changeMaps_59 : decode cX5_changeMaps 59 = .ok (.getfield 117, 3) := by decide +kernel
theorem dX5_changeMaps_62 : decode cX5_changeMaps 62 = .ok (.aload_n 0, 1) := by decide +kernel
theorem dX5_changeMaps_63 : decode cX5_changeMaps 63 = .ok (.getfield 31, 3) := by decide +kernel
theorem dX5_changeMaps_66 : decode cX5_changeMaps 66 = .ok (.invokevirtual 180, 3) := by decide +kernel
theorem dX5_changeMaps_69 : decode cX5_changeMaps 69 = .ok (.pop, 1) := by decide +kernel
theorem dX5_changeMaps_70 : decode cX5_changeMaps 70 = .ok (.iinc 3 1, 3) := by decide +kernel
theorem dX5_changeMaps_73 : decode cX5_changeMaps 73 = .ok (.goto (-33), 3) := by decide +kernel
theorem dX5_changeMaps_76 : decode cX5_changeMaps 76 = .ok (.return_, 1) := by decide +kernel
theorem dX2_linkAt_0 : decode cX2_linkAt 0 = .ok (.iload_n 1, 1) := by decide +kernel
theorem dX2_linkAt_1 : decode cX2_linkAt 1 = .ok (.ifCond .lt 16, 3) := by decide +kernel
theorem dX2_linkAt_4 : decode cX2_linkAt 4 = .ok (.iload_n 1, 1) := by decide +kernel
theorem dX2_linkAt_5 : decode cX2_linkAt 5 = .ok (.aload_n 0, 1) := by decide +kernel
theorem dX2_linkAt_6 : decode cX2_linkAt 6 = .ok (.getfield 45, 3) := by decide +kernel
theorem dX2_linkAt_9 : decode cX2_linkAt 9 = .ok (.if_icmp .ge 8, 3) := by decide +kernel
theorem dX2_linkAt_12 : decode cX2_linkAt 12 = .ok (.iload_n 1, 1) := by decide +kernel
theorem dX2_linkAt_13 : decode cX2_linkAt 13 = .ok (.iconst 4, 1) := by decide +kernel
theorem dX2_linkAt_14 : decode cX2_linkAt 14 = .ok (.if_icmp .lt 7, 3) := by decide +kernel
theorem dX2_linkAt_17 : decode cX2_linkAt 17 = .ok (.aconst_null, 1) := by decide +kernel
theorem dX2_linkAt_18 : decode cX2_linkAt 18 = .ok (.goto 9, 3) := by decide +kernel
theorem dX2_linkAt_21 : decode cX2_linkAt 21 = .ok (.aload_n 0, 1) := by decide +kernel
theorem dX2_linkAt_22 : decode cX2_linkAt 22 = .ok (.getfield 30, 3) := by decide +kernel
theorem dX2_linkAt_25 : decode cX2_linkAt 25 = .ok (.iload_n 1, 1) := by decide +kernel
theorem dX2_linkAt_26 : decode cX2_linkAt 26 = .ok (.aaload, 1) := by decide +kernel
theorem dX2_linkAt_27 : decode cX2_linkAt 27 = .ok (.areturn, 1) := by decide +kernel
theorem dX5_beginTurnOfLinks_0 : decode cX5_beginTurnOfLinks 0 = .ok (.iconst 0, 1) := by decide +kernel
theorem dX5_beginTurnOfLinks_1 : decode cX5_beginTurnOfLinks 1 = .ok (.istore_n 2, 1) := by decide +kernel
theorem dX5_beginTurnOfLinks_2 : decode cX5_beginTurnOfLinks 2 = .ok (.iload_n 2, 1) := by decide +kernel
theorem dX5_beginTurnOfLinks_3 : decode cX5_beginTurnOfLinks 3 = .ok (.aload_n 0, 1) := by decide +kernel
theorem dX5_beginTurnOfLinks_4 : decode cX5_beginTurnOfLinks 4 = .ok (.getfield 23, 3) := by decide +kernel
theorem dX5_beginTurnOfLinks_7 : decode cX5_beginTurnOfLinks 7 = .ok (.iload_n 1, 1) := by decide +kernel
theorem dX5_beginTurnOfLinks_8 : decode cX5_beginTurnOfLinks 8 = .ok (.aaload, 1) := by decide +kernel
theorem dX5_beginTurnOfLinks_9 : decode cX5_beginTurnOfLinks 9 = .ok (.getfield 121, 3) := by decide +kernel
theorem dX5_beginTurnOfLinks_12 : decode cX5_beginTurnOfLinks 12 = .ok (.if_icmp .ge 68, 3) := by decide +kernel
theorem dX5_beginTurnOfLinks_15 : decode cX5_beginTurnOfLinks 15 = .ok (.iload_n 2, 1) := by decide +kernel
theorem dX5_beginTurnOfLinks_16 : decode cX5_beginTurnOfLinks 16 = .ok (.iconst 4, 1) := by decide +kernel
theorem dX5_beginTurnOfLinks_17 : decode cX5_beginTurnOfLinks 17 = .ok (.if_icmp .ge 63, 3) := by decide +kernel
theorem dX5_beginTurnOfLinks_20 : decode cX5_beginTurnOfLinks 20 = .ok (.aload_n 0, 1) := by decide +kernel
theorem dX5_beginTurnOfLinks_21 : decode cX5_beginTurnOfLinks 21 = .ok (.getfield 23, 3) := by decide +kernel
theorem dX5_beginTurnOfLinks_24 : decode cX5_beginTurnOfLinks 24 = .ok (.iload_n 1, 1) := by decide +kernel
theorem dX5_beginTurnOfLinks_25 : decode cX5_beginTurnOfLinks 25 = .ok (.aaload, 1) := by decide +kernel
theorem dX5_beginTurnOfLinks_26 : decode cX5_beginTurnOfLinks 26 = .ok (.getfield 124, 3) := by decide +kernel
theorem dX5_beginTurnOfLinks_29 : decode cX5_beginTurnOfLinks 29 = .ok (.iload_n 2, 1) := by decide +kernel
theorem dX5_beginTurnOfLinks_30 : decode cX5_beginTurnOfLinks 30 = .ok (.aaload, 1) := by decide +kernel
theorem dX5_beginTurnOfLinks_31 : decode cX5_beginTurnOfLinks 31 = .ok (.astore_n 3, 1) := by decide +kernel
theorem dX5_beginTurnOfLinks_32 : decode cX5_beginTurnOfLinks 32 = .ok (.aload_n 3, 1) := by decide +kernel
theorem dX5_beginTurnOfLinks_33 : decode cX5_beginTurnOfLinks 33 = .ok (.getfield 128, 3) := by decide +kernel
theorem dX5_beginTurnOfLinks_36 : decode cX5_beginTurnOfLinks 36 = .ok (.aload_n 0, 1) := by decide +kernel
theorem dX5_beginTurnOfLinks_37 : decode cX5_beginTurnOfLinks 37 = .ok (.getfield 31, 3) := by decide +kernel
theorem dX5_beginTurnOfLinks_40 : decode cX5_beginTurnOfLinks 40 = .ok (.invokevirtual 186, 3) := by decide +kernel
theorem dX5_beginTurnOfLinks_43 : decode cX5_beginTurnOfLinks 43 = .ok (.aload_n 3, 1) := by decide +kernel
theorem dX5_beginTurnOfLinks_44 : decode cX5_beginTurnOfLinks 44 = .ok (.aload_n 0, 1) := by decide +kernel
theorem dX5_beginTurnOfLinks_45 : decode cX5_beginTurnOfLinks 45 = .ok (.iload_n 1, 1) := by decide +kernel
theorem dX5_beginTurnOfLinks_46 : decode cX5_beginTurnOfLinks 46 = .ok (.aload_n 3, 1) := by decide +kernel
theorem dX5_beginTurnOfLinks_47 : decode cX5_beginTurnOfLinks 47 = .ok (.aload_n 0, 1) := by decide +kernel
theorem dX5_beginTurnOfLinks_48 : decode cX5_beginTurnOfLinks 48 = .ok (.getfield 31, 3) := by decide +kernel
theorem dX5_beginTurnOfLinks_51 : decode cX5_beginTurnOfLinks 51 = .ok (.invokevirtual 189, 3) := by decide +kernel
theorem dX5_beginTurnOfLinks_54 : decode cX5_beginTurnOfLinks 54 = .ok (.putfield 193, 3) := by decide +kernel
theorem dX5_beginTurnOfLinks_57 : decode cX5_beginTurnOfLinks 57 = .ok (.aload_n 3, 1) := by decide +kernel
theorem dX5_beginTurnOfLinks_58 : decode cX5_beginTurnOfLinks 58 = .ok (.getfield 193, 3) := by decide +kernel
theorem dX5_beginTurnOfLinks_61 : decode cX5_beginTurnOfLinks 61 = .ok (.ifCond .eq 13, 3) := by decide +kernel
theorem dX5_beginTurnOfLinks_64 : decode cX5_beginTurnOfLinks 64 = .ok (.aload_n 3, 1) := by decide +kernel
theorem dX5_beginTurnOfLinks_65 : decode cX5_beginTurnOfLinks 65 = .ok (.dup, 1) := by decide +kernel
theorem dX5_beginTurnOfLinks_66 : decode cX5_beginTurnOfLinks 66 = .ok (.getfield 197, 3) := by decide +kernel
theorem dX5_beginTurnOfLinks_69 : decode cX5_beginTurnOfLinks 69 = .ok (.iconst 1, 1) := by decide +kernel
theorem dX5_beginTurnOfLinks_70 : decode cX5_beginTurnOfLinks 70 = .ok (.iadd, 1) := by decide +kernel
theorem dX5_beginTurnOfLinks_71 : decode cX5_beginTurnOfLinks 71 = .ok (.putfield 197, 3) := by decide +kernel
theorem dX5_beginTurnOfLinks_74 : decode cX5_beginTurnOfLinks 74 = .ok (.iinc 2 1, 3) := by decide +kernel
theorem dX5_beginTurnOfLinks_77 : decode cX5_beginTurnOfLinks 77 = .ok (.goto (-75), 3) := by decide +kernel
theorem dX5_beginTurnOfLinks_80 : decode cX5_beginTurnOfLinks 80 = .ok (.return_, 1) := by decide +kernel
theorem dX5_chooseIn_0 : decode cX5_chooseIn 0 = .ok (.aload_n 0, 1) := by decide +kernel
theorem dX5_chooseIn_1 : decode cX5_chooseIn 1 = .ok (.getfield 23, 3) := by decide +kernel
theorem dX5_chooseIn_4 : decode cX5_chooseIn 4 = .ok (.iload_n 1, 1) := by decide +kernel
theorem dX5_chooseIn_5 : decode cX5_chooseIn 5 = .ok (.aaload, 1) := by decide +kernel
theorem dX5_chooseIn_6 : decode cX5_chooseIn 6 = .ok (.astore_n 2, 1) := by decide +kernel
theorem dX5_chooseIn_7 : decode cX5_chooseIn 7 = .ok (.aload_n 2, 1) := by decide +kernel
theorem dX5_chooseIn_8 : decode cX5_chooseIn 8 = .ok (.iconst (-1), 1) := by decide +kernel
theorem dX5_chooseIn_9 : decode cX5_chooseIn 9 = .ok (.putfield 203, 3) := by decide +kernel
theorem dX5_chooseIn_12 : decode cX5_chooseIn 12 = .ok (.aload_n 2, 1) := by decide +kernel
theorem dX5_chooseIn_13 : decode cX5_chooseIn 13 = .ok (.iconst 0, 1) := by decide +kernel
theorem dX5_chooseIn_14 : decode cX5_chooseIn 14 = .ok (.putfield 206, 3) := by decide +kernel
theorem dX5_chooseIn_17 : decode cX5_chooseIn 17 = .ok (.aload_n 2, 1) := by decide +kernel
theorem dX5_chooseIn_18 : decode cX5_chooseIn 18 = .ok (.getfield 57, 3) := by decide +kernel
theorem dX5_chooseIn_21 : decode cX5_chooseIn 21 = .ok (.iconst (-1), 1) := by decide +kernel
theorem dX5_chooseIn_22 : decode cX5_chooseIn 22 = .ok (.if_icmp .eq 19, 3) := by decide +kernel
theorem dX5_chooseIn_25 : decode cX5_chooseIn 25 = .ok (.aload_n 0, 1) := by decide +kernel
theorem dX5_chooseIn_26 : decode cX5_chooseIn 26 = .ok (.aload_n 2, 1) := by decide +kernel
theorem dX5_chooseIn_27 : decode cX5_chooseIn 27 = .ok (.getfield 57, 3) := by decide +kernel
theorem dX5_chooseIn_30 : decode cX5_chooseIn 30 = .ok (.iload_n 1, 1) := by decide +kernel
theorem dX5_chooseIn_31 : decode cX5_chooseIn 31 = .ok (.aload_n 0, 1) := by decide +kernel
theorem dX5_chooseIn_32 : decode cX5_chooseIn 32 = .ok (.getfield 31, 3) := by decide +kernel
theorem dX5_chooseIn_35 : decode cX5_chooseIn 35 = .ok (.invokevirtual 77, 3) := by decide +kernel
theorem dX5_chooseIn_38 : decode cX5_chooseIn 38 = .ok (.ifCond .ne 4, 3) := by decide +kernel
theorem dX5_chooseIn_41 : decode cX5_chooseIn 41 = .ok (.return_, 1) := by decide +kernel
theorem dX5_chooseIn_42 : decode cX5_chooseIn 42 = .ok (.aload_n 2, 1) := by decide +kernel
theorem dX5_chooseIn_43 : decode cX5_chooseIn 43 = .ok (.aload_n 2, 1) := by decide +kernel
theorem dX5_chooseIn_44 : decode cX5_chooseIn 44 = .ok (.invokevirtual 209, 3) := by decide +kernel
theorem dX5_chooseIn_47 : decode cX5_chooseIn 47 = .ok (.putfield 203, 3) := by decide +kernel
theorem dX5_chooseIn_50 : decode cX5_chooseIn 50 = .ok (.aload_n 2, 1) := by decide +kernel
theorem dX5_chooseIn_51 : decode cX5_chooseIn 51 = .ok (.getfield 203, 3) := by decide +kernel
theorem dX5_chooseIn_54 : decode cX5_chooseIn 54 = .ok (.iconst (-1), 1) := by decide +kernel
theorem dX5_chooseIn_55 : decode cX5_chooseIn 55 = .ok (.if_icmp .ne 11, 3) := by decide +kernel
theorem dX5_chooseIn_58 : decode cX5_chooseIn 58 = .ok (.aload_n 2, 1) := by decide +kernel
theorem dX5_chooseIn_59 : decode cX5_chooseIn 59 = .ok (.aload_n 2, 1) := by decide +kernel
theorem dX5_chooseIn_60 : decode cX5_chooseIn 60 = .ok (.invokevirtual 213, 3) := by decide +kernel
theorem dX5_chooseIn_63 : decode cX5_chooseIn 63 = .ok (.putfield 203, 3) := by decide +kernel
theorem dX5_chooseIn_66 : decode cX5_chooseIn 66 = .ok (.aload_n 2, 1) := by decide +kernel
theorem dX5_chooseIn_67 : decode cX5_chooseIn 67 = .ok (.getfield 203, 3) := by decide +kernel
theorem dX5_chooseIn_70 : decode cX5_chooseIn 70 = .ok (.iconst (-1), 1) := by decide +kernel
theorem dX5_chooseIn_71 : decode cX5_chooseIn 71 = .ok (.if_icmp .ne 16, 3) := by decide +kernel
theorem dX5_chooseIn_74 : decode cX5_chooseIn 74 = .ok (.aload_n 2, 1) := by decide +kernel
theorem dX5_chooseIn_75 : decode cX5_chooseIn 75 = .ok (.getfield 216, 3) := by decide +kernel
theorem dX5_chooseIn_78 : decode cX5_chooseIn 78 = .ok (.ifCond .le 9, 3) := by decide +kernel
theorem dX5_chooseIn_81 : decode cX5_chooseIn 81 = .ok (.aload_n 2, 1) := by decide +kernel
theorem dX5_chooseIn_82 : decode cX5_chooseIn 82 = .ok (.iconst 1, 1) := by decide +kernel
theorem dX5_chooseIn_83 : decode cX5_chooseIn 83 = .ok (.putfield 206, 3) := by decide +kernel
theorem dX5_chooseIn_86 : decode cX5_chooseIn 86 = .ok (.return_, 1) := by decide +kernel
theorem dX5_chooseIn_87 : decode cX5_chooseIn 87 = .ok (.aload_n 2, 1) := by decide +kernel
theorem dX5_chooseIn_88 : decode cX5_chooseIn 88 = .ok (.getfield 203, 3) := by decide +kernel
theorem dX5_chooseIn_91 : decode cX5_chooseIn 91 = .ok (.iconst (-1), 1) := by decide +kernel
theorem dX5_chooseIn_92 : decode cX5_chooseIn 92 = .ok (.if_icmp .ne 11, 3) := by decide +kernel
theorem dX5_chooseIn_95 : decode cX5_chooseIn 95 = .ok (.aload_n 2, 1) := by decide +kernel
theorem dX5_chooseIn_96 : decode cX5_chooseIn 96 = .ok (.aload_n 2, 1) := by decide +kernel
theorem dX5_chooseIn_97 : decode cX5_chooseIn 97 = .ok (.invokevirtual 219, 3) := by decide +kernel
theorem dX5_chooseIn_100 : decode cX5_chooseIn 100 = .ok (.putfield 203, 3) := by decide +kernel
theorem dX5_chooseIn_103 : decode cX5_chooseIn 103 = .ok (.aload_n 2, 1) := by decide +kernel
theorem dX5_chooseIn_104 : decode cX5_chooseIn 104 = .ok (.aload_n 2, 1) := by decide +kernel
theorem dX5_chooseIn_105 : decode cX5_chooseIn 105 = .ok (.getfield 203, 3) := by decide +kernel
theorem dX5_chooseIn_108 : decode cX5_chooseIn 108 = .ok (.invokevirtual 64, 3) := by decide +kernel
theorem dX5_chooseIn_111 : decode cX5_chooseIn 111 = .ok (.astore_n 3, 1) := by decide +kernel
theorem dX5_chooseIn_112 : decode cX5_chooseIn 112 = .ok (.aload_n 3, 1) := by decide +kernel
theorem dX5_chooseIn_113 : decode cX5_chooseIn 113 = .ok (.ifnull 13, 3) := by decide +kernel
theorem dX5_chooseIn_116 : decode cX5_chooseIn 116 = .ok (.aload_n 3, 1) := by decide +kernel
theorem dX5_chooseIn_117 : decode cX5_chooseIn 117 = .ok (.dup, 1) := by decide +kernel
theorem dX5_chooseIn_118 : decode cX5_chooseIn 118 = .ok (.getfield 222, 3) := by decide +kernel
theorem dX5_chooseIn_121 : decode cX5_chooseIn 121 = .ok (.iconst 1, 1) := by decide +kernel
theorem dX5_chooseIn_122 : decode cX5_chooseIn 122 = .ok (.iadd, 1) := by decide +kernel
theorem dX5_chooseIn_123 : decode cX5_chooseIn 123 = .ok (.putfield 222, 3) := by decide +kernel
theorem dX5_chooseIn_126 : decode cX5_chooseIn 126 = .ok (.return_, 1) := by decide +kernel
theorem dX5_tunePacket_0 : decode cX5_tunePacket 0 = .ok (.aload_n 0, 1) := by decide +kernel
theorem dX5_tunePacket_1 : decode cX5_tunePacket 1 = .ok (.getfield 23, 3) := by decide +kernel
theorem dX5_tunePacket_4 : decode cX5_tunePacket 4 = .ok (.iload_n 1, 1) := by decide +kernel
theorem dX5_tunePacket_5 : decode cX5_tunePacket 5 = .ok (.aaload, 1) := by decide +kernel
theorem dX5_tunePacket_6 : decode cX5_tunePacket 6 = .ok (.astore_n 2, 1) := by decide +kernel
theorem dX5_tunePacket_7 : decode cX5_tunePacket 7 = .ok (.aload_n 2, 1) := by decide +kernel
theorem dX5_tunePacket_8 : decode cX5_tunePacket 8 = .ok (.aload_n 2, 1) := by decide +kernel
theorem dX5_tunePacket_9 : decode cX5_tunePacket 9 = .ok (.getfield 203, 3) := by decide +kernel
theorem dX5_tunePacket_12 : decode cX5_tunePacket 12 = .ok (.invokevirtual 64, 3) := by decide +kernel
theorem dX5_tunePacket_15 : decode cX5_tunePacket 15 = .ok (.astore_n 3, 1) := by decide +kernel
theorem dX5_tunePacket_16 : decode cX5_tunePacket 16 = .ok (.aload_n 2, 1) := by decide +kernel
theorem dX5_tunePacket_17 : decode cX5_tunePacket 17 = .ok (.iconst 0, 1) := by decide +kernel
theorem dX5_tunePacket_18 : decode cX5_tunePacket 18 = .ok (.putfield 232, 3) := by decide +kernel
theorem dX5_tunePacket_21 : decode cX5_tunePacket 21 = .ok (.aload_n 2, 1) := by decide +kernel
theorem dX5_tunePacket_22 : decode cX5_tunePacket 22 = .ok (.iconst (-1), 1) := by decide +kernel
theorem dX5_tunePacket_23 : decode cX5_tunePacket 23 = .ok (.putfield 226, 3) := by decide +kernel
theorem dX5_tunePacket_26 : decode cX5_tunePacket 26 = .ok (.aload_n 2, 1) := by decide +kernel
theorem dX5_tunePacket_27 : decode cX5_tunePacket 27 = .ok (.getfield 206, 3) := by decide +kernel
theorem dX5_tunePacket_30 : decode cX5_tunePacket 30 = .ok (.ifCond .ne 7, 3) := by decide +kernel
theorem dX5_tunePacket_33 : decode cX5_tunePacket 33 = .ok (.aload_n 3, 1) := by decide +kernel
theorem dX5_tunePacket_34 : decode cX5_tunePacket 34 = .ok (.ifnull 84, 3) := by decide +kernel
theorem dX5_tunePacket_37 : decode cX5_tunePacket 37 = .ok (.aload_n 3, 1) := by decide +kernel
theorem dX5_tunePacket_38 : decode cX5_tunePacket 38 = .ok (.ifnull 34, 3) := by decide +kernel
theorem dX5_tunePacket_41 : decode cX5_tunePacket 41 = .ok (.aload_n 3, 1) := by decide +kernel
theorem dX5_tunePacket_42 : decode cX5_tunePacket 42 = .ok (.getfield 235, 3) := by decide +kernel
theorem dX5_tunePacket_45 : decode cX5_tunePacket 45 = .ok (.ifCond .ne 27, 3) := by decide +kernel
theorem dX5_tunePacket_48 : decode cX5_tunePacket 48 = .ok (.aload_n 2, 1) := by decide +kernel
theorem dX5_tunePacket_49 : decode cX5_tunePacket 49 = .ok (.getfield 104, 3) := by decide +kernel
theorem dX5_tunePacket_52 : decode cX5_tunePacket 52 = .ok (.invokevirtual 238, 3) := by decide +kernel
theorem dX5_tunePacket_55 : decode cX5_tunePacket 55 = .ok (.ifCond .ne 17, 3) := by decide +kernel
theorem dX5_tunePacket_58 : decode cX5_tunePacket 58 = .ok (.aload_n 0, 1) := by decide +kernel
theorem dX5_tunePacket_59 : decode cX5_tunePacket 59 = .ok (.getfield 31, 3) := by decide +kernel
theorem dX5_tunePacket_62 : decode cX5_tunePacket 62 = .ok (.iconst 4, 1) := by decide +kernel
theorem dX5_tunePacket_63 : decode cX5_tunePacket 63 = .ok (.irem, 1) := by decide +kernel
theorem dX5_tunePacket_64 : decode cX5_tunePacket 64 = .ok (.iconst 2, 1) := by decide +kernel
theorem dX5_tunePacket_65 : decode cX5_tunePacket 65 = .ok (.if_icmp .ne 7, 3) := by decide +kernel
theorem dX5_tunePacket_68 : decode cX5_tunePacket 68 = .ok (.iconst 1, 1) := by decide +kernel
theorem dX5_tunePacket_69 : decode cX5_tunePacket 69 = .ok (.goto 4, 3) := by decide +kernel
theorem dX5_tunePacket_72 : decode cX5_tunePacket 72 = .ok (.iconst 0, 1) := by decide +kernel
theorem dX5_tunePacket_73 : decode cX5_tunePacket 73 = .ok (.istore 4, 2) := by decide +kernel
theorem dX5_tunePacket_75 : decode cX5_tunePacket 75 = .ok (.aload_n 2, 1) := by decide +kernel
theorem dX5_tunePacket_76 : decode cX5_tunePacket 76 = .ok (.aload_n 0, 1) := by decide +kernel
theorem dX5_tunePacket_77 : decode cX5_tunePacket 77 = .ok (.iload_n 1, 1) := by decide +kernel
theorem dX5_tunePacket_78 : decode cX5_tunePacket 78 = .ok (.aload_n 0, 1) := by decide +kernel
theorem dX5_tunePacket_79 : decode cX5_tunePacket 79 = .ok (.getfield 31, 3) := by decide +kernel
theorem dX5_tunePacket_82 : decode cX5_tunePacket 82 = .ok (.invokevirtual 98, 3) := by decide +kernel
theorem dX5_tunePacket_85 : decode cX5_tunePacket 85 = .ok (.putfield 242, 3) := by decide +kernel
theorem dX5_tunePacket_88 : decode cX5_tunePacket 88 = .ok (.aload_n 2, 1) := by decide +kernel
theorem dX5_tunePacket_89 : decode cX5_tunePacket 89 = .ok (.aload_n 2, 1) := by decide +kernel
theorem dX5_tunePacket_90 : decode cX5_tunePacket 90 = .ok (.getfield 242, 3) := by decide +kernel
theorem dX5_tunePacket_93 : decode cX5_tunePacket 93 = .ok (.iload 4, 2) := by decide +kernel
theorem dX5_tunePacket_95 : decode cX5_tunePacket 95 = .ok (.ifCond .eq 10, 3) := by decide +kernel
theorem dX5_tunePacket_98 : decode cX5_tunePacket 98 = .ok (.aload_n 2, 1) := by decide +kernel
theorem dX5_tunePacket_99 : decode cX5_tunePacket 99 = .ok (.getfield 183, 3) := by decide +kernel
theorem dX5_tunePacket_102 : decode cX5_tunePacket 102 = .ok (.goto 10, 3) := by decide +kernel
theorem dX5_tunePacket_105 : decode cX5_tunePacket 105 = .ok (.aload_n 2, 1) := by decide +kernel
theorem dX5_tunePacket_106 : decode cX5_tunePacket 106 = .ok (.getfield 104, 3) := by decide +kernel
theorem dX5_tunePacket_109 : decode cX5_tunePacket 109 = .ok (.getfield 108, 3) := by decide +kernel
theorem dX5_tunePacket_112 : decode cX5_tunePacket 112 = .ok (.invokestatic 101, 3) := by decide +kernel
theorem dX5_tunePacket_115 : decode cX5_tunePacket 115 = .ok (.putfield 226, 3) := by decide +kernel
theorem dX5_tunePacket_118 : decode cX5_tunePacket 118 = .ok (.aload_n 2, 1) := by decide +kernel
theorem dX5_tunePacket_119 : decode cX5_tunePacket 119 = .ok (.aload_n 2, 1) := by decide +kernel
theorem dX5_tunePacket_120 : decode cX5_tunePacket 120 = .ok (.getfield 226, 3) := by decide +kernel
theorem dX5_tunePacket_123 : decode cX5_tunePacket 123 = .ok (.putfield 245, 3) := by decide +kernel
theorem dX5_tunePacket_126 : decode cX5_tunePacket 126 = .ok (.return_, 1) := by decide +kernel
theorem dX5_sendPacket_0 : decode cX5_sendPacket 0 = .ok (.aload_n 0, 1) := by decide +kernel
theorem dX5_sendPacket_1 : decode cX5_sendPacket 1 = .ok (.getfield 23, 3) := by decide +kernel
theorem dX5_sendPacket_4 : decode cX5_sendPacket 4 = .ok (.iload_n 1, 1) := by decide +kernel
theorem dX5_sendPacket_5 : decode cX5_sendPacket 5 = .ok (.aaload, 1) := by decide +kernel
theorem dX5_sendPacket_6 : decode cX5_sendPacket 6 = .ok (.astore_n 2, 1) := by decide +kernel
theorem dX5_sendPacket_7 : decode cX5_sendPacket 7 = .ok (.aload_n 2, 1) := by decide +kernel
theorem dX5_sendPacket_8 : decode cX5_sendPacket 8 = .ok (.getfield 226, 3) := by decide +kernel
theorem dX5_sendPacket_11 : decode cX5_sendPacket 11 = .ok (.iconst (-1), 1) := by decide +kernel
theorem dX5_sendPacket_12 : decode cX5_sendPacket 12 = .ok (.if_icmp .ne 4, 3) := by decide +kernel
theorem dX5_sendPacket_15 : decode cX5_sendPacket 15 = .ok (.return_, 1) := by decide +kernel
theorem dX5_sendPacket_16 : decode cX5_sendPacket 16 = .ok (.aload_n 0, 1) := by decide +kernel
theorem dX5_sendPacket_17 : decode cX5_sendPacket 17 = .ok (.getfield 18, 3) := by decide +kernel
theorem dX5_sendPacket_20 : decode cX5_sendPacket 20 = .ok (.iconst 0, 1) := by decide +kernel
theorem dX5_sendPacket_21 : decode cX5_sendPacket 21 = .ok (.dup2, 1) := by decide +kernel
theorem dX5_sendPacket_22 : decode cX5_sendPacket 22 = .ok (.iaload, 1) := by decide +kernel
theorem dX5_sendPacket_23 : decode cX5_sendPacket 23 = .ok (.iconst 1, 1) := by decide +kernel
theorem dX5_sendPacket_24 : decode cX5_sendPacket 24 = .ok (.iadd, 1) := by decide +kernel
theorem dX5_sendPacket_25 : decode cX5_sendPacket 25 = .ok (.iastore, 1) := by decide +kernel
theorem dX5_sendPacket_26 : decode cX5_sendPacket 26 = .ok (.aload_n 0, 1) := by decide +kernel
theorem dX5_sendPacket_27 : decode cX5_sendPacket 27 = .ok (.iload_n 1, 1) := by decide +kernel
theorem dX5_sendPacket_28 : decode cX5_sendPacket 28 = .ok (.invokevirtual 248, 3) := by decide +kernel
theorem dX5_sendPacket_31 : decode cX5_sendPacket 31 = .ok (.istore_n 3, 1) := by decide +kernel
theorem dX5_sendPacket_32 : decode cX5_sendPacket 32 = .ok (.aload_n 2, 1) := by decide +kernel
theorem dX5_sendPacket_33 : decode cX5_sendPacket 33 = .ok (.aload_n 2, 1) := by decide +kernel
theorem dX5_sendPacket_34 : decode cX5_sendPacket 34 = .ok (.getfield 203, 3) := by decide +kernel
theorem dX5_sendPacket_37 : decode cX5_sendPacket 37 = .ok (.invokevirtual 64, 3) := by decide +kernel
theorem dX5_sendPacket_40 : decode cX5_sendPacket 40 = .ok (.astore 4, 2) := by decide +kernel
theorem dX5_sendPacket_42 : decode cX5_sendPacket 42 = .ok (.aload 4, 2) := by decide +kernel
theorem dX5_sendPacket_44 : decode cX5_sendPacket 44 = .ok (.ifnonnull 17, 3) := by decide +kernel
theorem dX5_sendPacket_47 : decode cX5_sendPacket 47 = .ok (.aload_n 0, 1) := by decide +kernel
theorem dX5_sendPacket_48 : decode cX5_sendPacket 48 = .ok (.getfield 18, 3) := by decide +kernel
theorem dX5_sendPacket_51 : decode cX5_sendPacket 51 = .ok (.bipush 7, 2) := by decide +kernel
theorem dX5_sendPacket_53 : decode cX5_sendPacket 53 = .ok (.dup2, 1) := by decide +kernel
theorem dX5_sendPacket_54 : decode cX5_sendPacket 54 = .ok (.iaload, 1) := by decide +kernel
theorem dX5_sendPacket_55 : decode cX5_sendPacket 55 = .ok (.iconst 1, 1) := by decide +kernel
theorem dX5_sendPacket_56 : decode cX5_sendPacket 56 = .ok (.iadd, 1) := by decide +kernel
theorem dX5_sendPacket_57 : decode cX5_sendPacket 57 = .ok (.iastore, 1) := by decide +kernel
theorem dX5_sendPacket_58 : decode cX5_sendPacket 58 = .ok (.goto 35, 3) := by decide +kernel
theorem dX5_sendPacket_61 : decode cX5_sendPacket 61 = .ok (.aload_n 2, 1) := by decide +kernel
theorem dX5_sendPacket_62 : decode cX5_sendPacket 62 = .ok (.invokevirtual 251, 3) := by decide +kernel
theorem dX5_sendPacket_65 : decode cX5_sendPacket 65 = .ok (.iload_n 3, 1) := by decide +kernel
theorem dX5_sendPacket_66 : decode cX5_sendPacket 66 = .ok (.ifCond .ne 27, 3) := by decide +kernel
theorem dX5_sendPacket_69 : decode cX5_sendPacket 69 = .ok (.aload_n 2, 1) := by decide +kernel
theorem dX5_sendPacket_70 : decode cX5_sendPacket 70 = .ok (.getfield 242, 3) := by decide +kernel
theorem dX5_sendPacket_73 : decode cX5_sendPacket 73 = .ok (.aload 4, 2) := by decide +kernel
theorem dX5_sendPacket_75 : decode cX5_sendPacket 75 = .ok (.getfield 117, 3) := by decide +kernel
theorem dX5_sendPacket_78 : decode cX5_sendPacket 78 = .ok (.getfield 108, 3) := by decide +kernel
theorem dX5_sendPacket_81 : decode cX5_sendPacket 81 = .ok (.invokestatic 101, 3) := by decide +kernel
theorem dX5_sendPacket_84 : decode cX5_sendPacket 84 = .ok (.aload_n 2, 1) := by decide +kernel
theorem dX5_sendPacket_85 : decode cX5_sendPacket 85 = .ok (.getfield 226, 3) := by decide +kernel
theorem dX5_sendPacket_88 : decode cX5_sendPacket 88 = .ok (.if_icmp .eq 5, 3) := by decide +kernel
theorem dX5_sendPacket_91 : decode cX5_sendPacket 91 = .ok (.iconst 3, 1) := by decide +kernel
theorem dX5_sendPacket_92 : decode cX5_sendPacket 92 = .ok (.istore_n 3, 1) := by decide +kernel
theorem dX5_sendPacket_93 : decode cX5_sendPacket 93 = .ok (.aload_n 2, 1) := by decide +kernel
theorem dX5_sendPacket_94 : decode cX5_sendPacket 94 = .ok (.iload_n 3, 1) := by decide +kernel
theorem dX5_sendPacket_95 : decode cX5_sendPacket 95 = .ok (.ifCond .ne 7, 3) := by decide +kernel
theorem dX5_sendPacket_98 : decode cX5_sendPacket 98 = .ok (.iconst 1, 1) := by decide +kernel
theorem dX5_sendPacket_99 : decode cX5_sendPacket 99 = .ok (.goto 4, 3) := by decide +kernel
theorem dX5_sendPacket_102 : decode cX5_sendPacket 102 = .ok (.iconst 0, 1) := by decide +kernel
theorem dX5_sendPacket_103 : decode cX5_sendPacket 103 = .ok (.putfield 232, 3) := by decide +kernel
theorem dX5_sendPacket_106 : decode cX5_sendPacket 106 = .ok (.iload_n 3, 1) := by decide +kernel
theorem dX5_sendPacket_107 : decode cX5_sendPacket 107 = .ok (.ifCond .eq 15, 3) := by decide +kernel
theorem dX5_sendPacket_110 : decode cX5_sendPacket 110 = .ok (.aload_n 0, 1) := by decide +kernel
theorem dX5_sendPacket_111 : decode cX5_sendPacket 111 = .ok (.getfield 18, 3) := by decide +kernel
theorem dX5_sendPacket_114 : decode cX5_sendPacket 114 = .ok (.iconst 1, 1) := by decide +kernel
theorem dX5_sendPacket_115 : decode cX5_sendPacket 115 = .ok (.iload_n 3, 1) := by decide +kernel
theorem dX5_sendPacket_116 : decode cX5_sendPacket 116 = .ok (.iadd, 1) := by decide +kernel
theorem dX5_sendPacket_117 : decode cX5_sendPacket 117 = .ok (.dup2, 1) := by decide +kernel
theorem dX5_sendPacket_118 : decode cX5_sendPacket 118 = .ok (.iaload, 1) := by decide +kernel
theorem dX5_sendPacket_119 : decode cX5_sendPacket 119 = .ok (.iconst 1, 1) := by decide +kernel
theorem dX5_sendPacket_120 : decode cX5_sendPacket 120 = .ok (.iadd, 1) := by decide +kernel
theorem dX5_sendPacket_121 : decode cX5_sendPacket 121 = .ok (.iastore, 1) := by decide +kernel
theorem dX5_sendPacket_122 : decode cX5_sendPacket 122 = .ok (.iload_n 3, 1) := by decide +kernel
theorem dX5_sendPacket_123 : decode cX5_sendPacket 123 = .ok (.ifCond .eq 17, 3) := by decide +kernel
theorem dX5_sendPacket_126 : decode cX5_sendPacket 126 = .ok (.aload 4, 2) := by decide +kernel
theorem dX5_sendPacket_128 : decode cX5_sendPacket 128 = .ok (.ifnull 12, 3) := by decide +kernel
theorem dX5_sendPacket_131 : decode cX5_sendPacket 131 = .ok (.aload 4, 2) := by decide +kernel
theorem dX5_sendPacket_133 : decode cX5_sendPacket 133 = .ok (.bipush 10, 2) := by decide +kernel
theorem dX5_sendPacket_135 : decode cX5_sendPacket 135 = .ok (.iload_n 3, 1) := by decide +kernel
theorem dX5_sendPacket_136 : decode cX5_sendPacket 136 = .ok (.iadd, 1) := by decide +kernel
theorem dX5_sendPacket_137 : decode cX5_sendPacket 137 = .ok (.putfield 254, 3) := by decide +kernel
theorem dX5_sendPacket_140 : decode cX5_sendPacket 140 = .ok (.return_, 1) := by decide +kernel
theorem dX5_hearPacket_0 : decode cX5_hearPacket 0 = .ok (.aload_n 0, 1) := by decide +kernel
theorem dX5_hearPacket_1 : decode cX5_hearPacket 1 = .ok (.getfield 23, 3) := by decide +kernel
theorem dX5_hearPacket_4 : decode cX5_hearPacket 4 = .ok (.iload_n 1, 1) := by decide +kernel
theorem dX5_hearPacket_5 : decode cX5_hearPacket 5 = .ok (.aaload, 1) := by decide +kernel
theorem dX5_hearPacket_6 : decode cX5_hearPacket 6 = .ok (.astore_n 2, 1) := by decide +kernel
theorem dX5_hearPacket_7 : decode cX5_hearPacket 7 = .ok (.aload_n 2, 1) := by decide +kernel
theorem dX5_hearPacket_8 : decode cX5_hearPacket 8 = .ok (.getfield 206, 3) := by decide +kernel
theorem dX5_hearPacket_11 : decode cX5_hearPacket 11 = .ok (.ifCond .eq 12, 3) := by decide +kernel
theorem dX5_hearPacket_14 : decode cX5_hearPacket 14 = .ok (.aload_n 2, 1) := by decide +kernel
theorem dX5_hearPacket_15 : decode cX5_hearPacket 15 = .ok (.aload_n 0, 1) := by decide +kernel
theorem dX5_hearPacket_16 : decode cX5_hearPacket 16 = .ok (.getfield 40, 3) := by decide +kernel
theorem dX5_hearPacket_19 : decode cX5_hearPacket 19 = .ok (.invokevirtual 257, 3) := by decide +kernel
theorem dX5_hearPacket_22 : decode cX5_hearPacket 22 = .ok (.return_, 1) := by decide +kernel
theorem dX5_hearPacket_23 : decode cX5_hearPacket 23 = .ok (.aload_n 2, 1) := by decide +kernel
theorem dX5_hearPacket_24 : decode cX5_hearPacket 24 = .ok (.aload_n 2, 1) := by decide +kernel
theorem dX5_hearPacket_25 : decode cX5_hearPacket 25 = .ok (.getfield 203, 3) := by decide +kernel
theorem dX5_hearPacket_28 : decode cX5_hearPacket 28 = .ok (.invokevirtual 64, 3) := by decide +kernel
theorem dX5_hearPacket_31 : decode cX5_hearPacket 31 = .ok (.astore_n 3, 1) := by decide +kernel
theorem dX5_hearPacket_32 : decode cX5_hearPacket 32 = .ok (.aload_n 3, 1) := by decide +kernel
theorem dX5_hearPacket_33 : decode cX5_hearPacket 33 = .ok (.ifnull 10, 3) := by decide +kernel
theorem dX5_hearPacket_36 : decode cX5_hearPacket 36 = .ok (.aload_n 2, 1) := by decide +kernel
theorem dX5_hearPacket_37 : decode cX5_hearPacket 37 = .ok (.getfield 232, 3) := by decide +kernel
theorem dX5_hearPacket_40 : decode cX5_hearPacket 40 = .ok (.ifCond .ne 4, 3) := by decide +kernel
theorem dX5_hearPacket_43 : decode cX5_hearPacket 43 = .ok (.return_, 1) := by decide +kernel
theorem dX5_hearPacket_44 : decode cX5_hearPacket 44 = .ok (.aload_n 3, 1) := by decide +kernel
theorem dX5_hearPacket_45 : decode cX5_hearPacket 45 = .ok (.getfield 260, 3) := by decide +kernel
theorem dX5_hearPacket_48 : decode cX5_hearPacket 48 = .ok (.ifCond .eq 19, 3) := by decide +kernel
theorem dX5_hearPacket_51 : decode cX5_hearPacket 51 = .ok (.aload_n 3, 1) := by decide +kernel
theorem dX5_hearPacket_52 : decode cX5_hearPacket 52 = .ok (.getfield 146, 3) := by decide +kernel
theorem dX5_hearPacket_55 : decode cX5_hearPacket 55 = .ok (.aload_n 0, 1) := by decide +kernel
theorem dX5_hearPacket_56 : decode cX5_hearPacket 56 = .ok (.getfield 31, 3) := by decide +kernel
theorem dX5_hearPacket_59 : decode cX5_hearPacket 59 = .ok (.invokevirtual 263, 3) := by decide +kernel
theorem dX5_hearPacket_62 : decode cX5_hearPacket 62 = .ok (.aload_n 3, 1) := by decide +kernel
theorem dX5_hearPacket_63 : decode cX5_hearPacket 63 = .ok (.iconst 0, 1) := by decide +kernel
theorem dX5_hearPacket_64 : decode cX5_hearPacket 64 = .ok (.putfield 260, 3) := by decide +kernel
theorem dX5_hearPacket_67 : decode cX5_hearPacket 67 = .ok (.aload_n 3, 1) := by decide +kernel
theorem dX5_hearPacket_68 : decode cX5_hearPacket 68 = .ok (.getfield 137, 3) := by decide +kernel
theorem dX5_hearPacket_71 : decode cX5_hearPacket 71 = .ok (.invokevirtual 266, 3) := by decide +kernel
theorem dX5_hearPacket_74 : decode cX5_hearPacket 74 = .ok (.ifCond .eq 19, 3) := by decide +kernel
theorem dX5_hearPacket_77 : decode cX5_hearPacket 77 = .ok (.aload_n 0, 1) := by decide +kernel
theorem dX5_hearPacket_78 : decode cX5_hearPacket 78 = .ok (.dup, 1) := by decide +kernel
theorem dX5_hearPacket_79 : decode cX5_hearPacket 79 = .ok (.getfield 43, 3) := by decide +kernel
theorem dX5_hearPacket_82 : decode cX5_hearPacket 82 = .ok (.iconst 1, 1) := by decide +kernel
theorem dX5_hearPacket_83 : decode cX5_hearPacket 83 = .ok (.iadd, 1) := by decide +kernel
theorem dX5_hearPacket_84 : decode cX5_hearPacket 84 = .ok (.putfield 43, 3) := by decide +kernel
theorem dX5_hearPacket_87 : decode cX5_hearPacket 87 = .ok (.aload_n 0, 1) := by decide +kernel
theorem dX5_hearPacket_88 : decode cX5_hearPacket 88 = .ok (.iload_n 1, 1) := by decide +kernel
theorem dX5_hearPacket_89 : decode cX5_hearPacket 89 = .ok (.aload_n 3, 1) := by decide +kernel
theorem dX5_hearPacket_90 : decode cX5_hearPacket 90 = .ok (.invokevirtual 269, 3) := by decide +kernel
theorem dX5_hearPacket_93 : decode cX5_hearPacket 93 = .ok (.aload_n 3, 1) := by decide +kernel
theorem dX5_hearPacket_94 : decode cX5_hearPacket 94 = .ok (.getfield 235, 3) := by decide +kernel
theorem dX5_hearPacket_97 : decode cX5_hearPacket 97 = .ok (.ifCond .ne 11, 3) := by decide +kernel
theorem dX5_hearPacket_100 : decode cX5_hearPacket 100 = .ok (.aload_n 3, 1) := by decide +kernel
theorem dX5_hearPacket_101 : decode cX5_hearPacket 101 = .ok (.aload_n 2, 1) := by decide +kernel
theorem dX5_hearPacket_102 : decode cX5_hearPacket 102 = .ok (.getfield 104, 3) := by decide +kernel
theorem dX5_hearPacket_105 : decode cX5_hearPacket 105 = .ok (.invokevirtual 273, 3) := by decide +kernel
theorem dX5_hearPacket_108 : decode cX5_hearPacket 108 = .ok (.return_, 1) := by decide +kernel
theorem dX5_tuneAnswer_0 : decode cX5_tuneAnswer 0 = .ok (.aload_n 0, 1) := by decide +kernel
theorem dX5_tuneAnswer_1 : decode cX5_tuneAnswer 1 = .ok (.getfield 23, 3) := by decide +kernel
theorem dX5_tuneAnswer_4 : decode cX5_tuneAnswer 4 = .ok (.iload_n 1, 1) := by decide +kernel
theorem dX5_tuneAnswer_5 : decode cX5_tuneAnswer 5 = .ok (.aaload, 1) := by decide +kernel
theorem dX5_tuneAnswer_6 : decode cX5_tuneAnswer 6 = .ok (.astore_n 2, 1) := by decide +kernel
theorem dX5_tuneAnswer_7 : decode cX5_tuneAnswer 7 = .ok (.aload_n 2, 1) := by decide +kernel
theorem dX5_tuneAnswer_8 : decode cX5_tuneAnswer 8 = .ok (.aload_n 2, 1) := by decide +kernel
theorem dX5_tuneAnswer_9 : decode cX5_tuneAnswer 9 = .ok (.getfield 203, 3) := by decide +kernel
theorem dX5_tuneAnswer_12 : decode cX5_tuneAnswer 12 = .ok (.invokevirtual 64, 3) := by decide +kernel
theorem dX5_tuneAnswer_15 : decode cX5_tuneAnswer 15 = .ok (.astore_n 3, 1) := by decide +kernel
theorem dX5_tuneAnswer_16 : decode cX5_tuneAnswer 16 = .ok (.aload_n 2, 1) := by decide +kernel
theorem dX5_tuneAnswer_17 : decode cX5_tuneAnswer 17 = .ok (.iconst (-1), 1) := by decide +kernel
theorem dX5_tuneAnswer_18 : decode cX5_tuneAnswer 18 = .ok (.putfield 226, 3) := by decide +kernel
theorem dX5_tuneAnswer_21 : decode cX5_tuneAnswer 21 = .ok (.aload_n 3, 1) := by decide +kernel
theorem dX5_tuneAnswer_22 : decode cX5_tuneAnswer 22 = .ok (.ifnull 43, 3) := by decide +kernel
theorem dX5_tuneAnswer_25 : decode cX5_tuneAnswer 25 = .ok (.aload_n 2, 1) := by decide +kernel
theorem dX5_tuneAnswer_26 : decode cX5_tuneAnswer 26 = .ok (.getfield 232, 3) := by decide +kernel
theorem dX5_tuneAnswer_29 : decode cX5_tuneAnswer 29 = .ok (.ifCond .eq 36, 3) := by decide +kernel
theorem dX5_tuneAnswer_32 : decode cX5_tuneAnswer 32 = .ok (.aload_n 2, 1) := by decide +kernel
theorem dX5_tuneAnswer_33 : decode cX5_tuneAnswer 33 = .ok (.aload_n 0, 1) := by decide +kernel
theorem dX5_tuneAnswer_34 : decode cX5_tuneAnswer 34 = .ok (.iload_n 1, 1) := by decide +kernel
theorem dX5_tuneAnswer_35 : decode cX5_tuneAnswer 35 = .ok (.aload_n 0, 1) := by decide +kernel
theorem dX5_tuneAnswer_36 : decode cX5_tuneAnswer 36 = .ok (.getfield 31, 3) := by decide +kernel
theorem dX5_tuneAnswer_39 : decode cX5_tuneAnswer 39 = .ok (.iconst 1, 1) := by decide +kernel
theorem dX5_tuneAnswer_40 : decode cX5_tuneAnswer 40 = .ok (.iadd, 1) := by decide +kernel
theorem dX5_tuneAnswer_41 : decode cX5_tuneAnswer 41 = .ok (.invokevirtual 98, 3) := by decide +kernel
theorem dX5_tuneAnswer_44 : decode cX5_tuneAnswer 44 = .ok (.putfield 242, 3) := by decide +kernel
theorem dX5_tuneAnswer_47 : decode cX5_tuneAnswer 47 = .ok (.aload_n 2, 1) := by decide +kernel
theorem dX5_tuneAnswer_48 : decode cX5_tuneAnswer 48 = .ok (.aload_n 2, 1) := by decide +kernel
theorem dX5_tuneAnswer_49 : decode cX5_tuneAnswer 49 = .ok (.getfield 242, 3) := by decide +kernel
theorem dX5_tuneAnswer_52 : decode cX5_tuneAnswer 52 = .ok (.aload_n 3, 1) := by decide +kernel
theorem dX5_tuneAnswer_53 : decode cX5_tuneAnswer 53 = .ok (.getfield 117, 3) := by decide +kernel
theorem dX5_tuneAnswer_56 : decode cX5_tuneAnswer 56 = .ok (.getfield 108, 3) := by decide +kernel
theorem dX5_tuneAnswer_59 : decode cX5_tuneAnswer 59 = .ok (.invokestatic 101, 3) := by decide +kernel
theorem dX5_tuneAnswer_62 : decode cX5_tuneAnswer 62 = .ok (.putfield 226, 3) := by decide +kernel
theorem dX5_tuneAnswer_65 : decode cX5_tuneAnswer 65 = .ok (.return_, 1) := by decide +kernel
theorem dX5_sendAnswer_0 : decode cX5_sendAnswer 0 = .ok (.aload_n 0, 1) := by decide +kernel
theorem dX5_sendAnswer_1 : decode cX5_sendAnswer 1 = .ok (.getfield 23, 3) := by decide +kernel
theorem dX5_sendAnswer_4 : decode cX5_sendAnswer 4 = .ok (.iload_n 1, 1) := by decide +kernel
theorem dX5_sendAnswer_5 : decode cX5_sendAnswer 5 = .ok (.aaload, 1) := by decide +kernel
theorem dX5_sendAnswer_6 : decode cX5_sendAnswer 6 = .ok (.astore_n 2, 1) := by decide +kernel
theorem dX5_sendAnswer_7 : decode cX5_sendAnswer 7 = .ok (.aload_n 2, 1) := by decide +kernel
theorem dX5_sendAnswer_8 : decode cX5_sendAnswer 8 = .ok (.aload_n 2, 1) := by decide +kernel
theorem dX5_sendAnswer_9 : decode cX5_sendAnswer 9 = .ok (.getfield 203, 3) := by decide +kernel
theorem dX5_sendAnswer_12 : decode cX5_sendAnswer 12 = .ok (.invokevirtual 64, 3) := by decide +kernel
theorem dX5_sendAnswer_15 : decode cX5_sendAnswer 15 = .ok (.astore_n 3, 1) := by decide +kernel
theorem dX5_sendAnswer_16 : decode cX5_sendAnswer 16 = .ok (.aload_n 3, 1) := by decide +kernel
theorem dX5_sendAnswer_17 : decode cX5_sendAnswer 17 = .ok (.ifnull 11, 3) := by decide +kernel
theorem dX5_sendAnswer_20 : decode cX5_sendAnswer 20 = .ok (.aload_n 2, 1) := by decide +kernel
theorem dX5_sendAnswer_21 : decode cX5_sendAnswer 21 = .ok (.getfield 226, 3) := by decide +kernel
theorem dX5_sendAnswer_24 : decode cX5_sendAnswer 24 = .ok (.iconst (-1), 1) := by decide +kernel
theorem dX5_sendAnswer_25 : decode cX5_sendAnswer 25 = .ok (.if_icmp .ne 4, 3) := by decide +kernel
theorem dX5_sendAnswer_28 : decode cX5_sendAnswer 28 = .ok (.return_, 1) := by decide +kernel
theorem dX5_sendAnswer_29 : decode cX5_sendAnswer 29 = .ok (.aload_n 0, 1) := by decide +kernel
theorem dX5_sendAnswer_30 : decode cX5_sendAnswer 30 = .ok (.getfield 18, 3) := by decide +kernel
theorem dX5_sendAnswer_33 : decode cX5_sendAnswer 33 = .ok (.iconst 1, 1) := by decide +kernel
theorem dX5_sendAnswer_34 : decode cX5_sendAnswer 34 = .ok (.dup2, 1) := by decide +kernel
theorem dX5_sendAnswer_35 : decode cX5_sendAnswer 35 = .ok (.iaload, 1) := by decide +kernel
theorem dX5_sendAnswer_36 : decode cX5_sendAnswer 36 = .ok (.iconst 1, 1) := by decide +kernel
theorem dX5_sendAnswer_37 : decode cX5_sendAnswer 37 = .ok (.iadd, 1) := by decide +kernel
theorem dX5_sendAnswer_38 : decode cX5_sendAnswer 38 = .ok (.iastore, 1) := by decide +kernel
theorem dX5_sendAnswer_39 : decode cX5_sendAnswer 39 = .ok (.aload_n 0, 1) := by decide +kernel
theorem dX5_sendAnswer_40 : decode cX5_sendAnswer 40 = .ok (.iload_n 1, 1) := by decide +kernel
theorem dX5_sendAnswer_41 : decode cX5_sendAnswer 41 = .ok (.invokevirtual 248, 3) := by decide +kernel
theorem dX5_sendAnswer_44 : decode cX5_sendAnswer 44 = .ok (.istore 4, 2) := by decide +kernel
theorem dX5_sendAnswer_46 : decode cX5_sendAnswer 46 = .ok (.iload 4, 2) := by decide +kernel
theorem dX5_sendAnswer_48 : decode cX5_sendAnswer 48 = .ok (.ifCond .ne 27, 3) := by decide +kernel
theorem dX5_sendAnswer_51 : decode cX5_sendAnswer 51 = .ok (.aload_n 2, 1) := by decide +kernel
theorem dX5_sendAnswer_52 : decode cX5_sendAnswer 52 = .ok (.getfield 242, 3) := by decide +kernel
theorem dX5_sendAnswer_55 : decode cX5_sendAnswer 55 = .ok (.aload_n 2, 1) := by decide +kernel
theorem dX5_sendAnswer_56 : decode cX5_sendAnswer 56 = .ok (.getfield 104, 3) := by decide +kernel
theorem dX5_sendAnswer_59 : decode cX5_sendAnswer 59 = .ok (.getfield 108, 3) := by decide +kernel
theorem dX5_sendAnswer_62 : decode cX5_sendAnswer 62 = .ok (.invokestatic 101, 3) := by decide +kernel
theorem dX5_sendAnswer_65 : decode cX5_sendAnswer 65 = .ok (.aload_n 2, 1) := by decide +kernel
theorem dX5_sendAnswer_66 : decode cX5_sendAnswer 66 = .ok (.getfield 226, 3) := by decide +kernel
theorem dX5_sendAnswer_69 : decode cX5_sendAnswer 69 = .ok (.if_icmp .eq 6, 3) := by decide +kernel
theorem dX5_sendAnswer_72 : decode cX5_sendAnswer 72 = .ok (.iconst 3, 1) := by decide +kernel
theorem dX5_sendAnswer_73 : decode cX5_sendAnswer 73 = .ok (.istore 4, 2) := by decide +kernel
theorem dX5_sendAnswer_75 : decode cX5_sendAnswer 75 = .ok (.iload 4, 2) := by decide +kernel
theorem dX5_sendAnswer_77 : decode cX5_sendAnswer 77 = .ok (.ifCond .ne 12, 3) := by decide +kernel
theorem dX5_sendAnswer_80 : decode cX5_sendAnswer 80 = .ok (.aload_n 0, 1) := by decide +kernel
theorem dX5_sendAnswer_81 : decode cX5_sendAnswer 81 = .ok (.aload_n 2, 1) := by decide +kernel
theorem dX5_sendAnswer_82 : decode cX5_sendAnswer 82 = .ok (.aload_n 3, 1) := by decide +kernel
theorem dX5_sendAnswer_83 : decode cX5_sendAnswer 83 = .ok (.invokevirtual 290, 3) := by decide +kernel
theorem dX5_sendAnswer_86 : decode cX5_sendAnswer 86 = .ok (.goto 25, 3) := by decide +kernel
theorem dX5_sendAnswer_89 : decode cX5_sendAnswer 89 = .ok (.aload_n 0, 1) := by decide +kernel
theorem dX5_sendAnswer_90 : decode cX5_sendAnswer 90 = .ok (.getfield 18, 3) := by decide +kernel
theorem dX5_sendAnswer_93 : decode cX5_sendAnswer 93 = .ok (.iconst 1, 1) := by decide +kernel
theorem dX5_sendAnswer_94 : decode cX5_sendAnswer 94 = .ok (.iload 4, 2) := by decide +kernel
theorem dX5_sendAnswer_96 : decode cX5_sendAnswer 96 = .ok (.iadd, 1) := by decide +kernel
theorem dX5_sendAnswer_97 : decode cX5_sendAnswer 97 = .ok (.dup2, 1) := by decide +kernel
theorem dX5_sendAnswer_98 : decode cX5_sendAnswer 98 = .ok (.iaload, 1) := by decide +kernel
theorem dX5_sendAnswer_99 : decode cX5_sendAnswer 99 = .ok (.iconst 1, 1) := by decide +kernel
theorem dX5_sendAnswer_100 : decode cX5_sendAnswer 100 = .ok (.iadd, 1) := by decide +kernel
theorem dX5_sendAnswer_101 : decode cX5_sendAnswer 101 = .ok (.iastore, 1) := by decide +kernel
theorem dX5_sendAnswer_102 : decode cX5_sendAnswer 102 = .ok (.aload_n 3, 1) := by decide +kernel
theorem dX5_sendAnswer_103 : decode cX5_sendAnswer 103 = .ok (.bipush 20, 2) := by decide +kernel
theorem dX5_sendAnswer_105 : decode cX5_sendAnswer 105 = .ok (.iload 4, 2) := by decide +kernel
theorem dX5_sendAnswer_107 : decode cX5_sendAnswer 107 = .ok (.iadd, 1) := by decide +kernel
theorem dX5_sendAnswer_108 : decode cX5_sendAnswer 108 = .ok (.putfield 254, 3) := by decide +kernel
theorem dX5_sendAnswer_111 : decode cX5_sendAnswer 111 = .ok (.return_, 1) := by decide +kernel
theorem dX5_endTurnOfLinks_0 : decode cX5_endTurnOfLinks 0 = .ok (.iconst 0, 1) := by decide +kernel
theorem dX5_endTurnOfLinks_1 : decode cX5_endTurnOfLinks 1 = .ok (.istore_n 2, 1) := by decide +kernel
theorem dX5_endTurnOfLinks_2 : decode cX5_endTurnOfLinks 2 = .ok (.iload_n 2, 1) := by decide +kernel
theorem dX5_endTurnOfLinks_3 : decode cX5_endTurnOfLinks 3 = .ok (.aload_n 1, 1) := by decide +kernel
theorem dX5_endTurnOfLinks_4 : decode cX5_endTurnOfLinks 4 = .ok (.getfield 121, 3) := by decide +kernel
theorem dX5_endTurnOfLinks_7 : decode cX5_endTurnOfLinks 7 = .ok (.if_icmp .ge 26, 3) := by decide +kernel
theorem dX5_endTurnOfLinks_10 : decode cX5_endTurnOfLinks 10 = .ok (.iload_n 2, 1) := by decide +kernel
theorem dX5_endTurnOfLinks_11 : decode cX5_endTurnOfLinks 11 = .ok (.iconst 4, 1) := by decide +kernel
theorem dX5_endTurnOfLinks_12 : decode cX5_endTurnOfLinks 12 = .ok (.if_icmp .ge 21, 3) := by decide +kernel
theorem dX5_endTurnOfLinks_15 : decode cX5_endTurnOfLinks 15 = .ok (.aload_n 1, 1) := by decide +kernel
theorem dX5_endTurnOfLinks_16 : decode cX5_endTurnOfLinks 16 = .ok (.getfield 124, 3) := by decide +kernel
theorem dX5_endTurnOfLinks_19 : decode cX5_endTurnOfLinks 19 = .ok (.iload_n 2, 1) := by decide +kernel
theorem dX5_endTurnOfLinks_20 : decode cX5_endTurnOfLinks 20 = .ok (.aaload, 1) := by decide +kernel
theorem dX5_endTurnOfLinks_21 : decode cX5_endTurnOfLinks 21 = .ok (.getfield 128, 3) := by decide +kernel
theorem dX5_endTurnOfLinks_24 : decode cX5_endTurnOfLinks 24 = .ok (.invokevirtual 200, 3) := by decide +kernel
theorem dX5_endTurnOfLinks_27 : decode cX5_endTurnOfLinks 27 = .ok (.iinc 2 1, 3) := by decide +kernel
theorem dX5_endTurnOfLinks_30 : decode cX5_endTurnOfLinks 30 = .ok (.goto (-28), 3) := by decide +kernel
theorem dX5_endTurnOfLinks_33 : decode cX5_endTurnOfLinks 33 = .ok (.return_, 1) := by decide +kernel
theorem dX5_goOneTurn_0 : decode cX5_goOneTurn 0 = .ok (.iconst 0, 1) := by decide +kernel
theorem dX5_goOneTurn_1 : decode cX5_goOneTurn 1 = .ok (.istore_n 1, 1) := by decide +kernel
theorem dX5_goOneTurn_2 : decode cX5_goOneTurn 2 = .ok (.iload_n 1, 1) := by decide +kernel
theorem dX5_goOneTurn_3 : decode cX5_goOneTurn 3 = .ok (.iconst 2, 1) := by decide +kernel
theorem dX5_goOneTurn_4 : decode cX5_goOneTurn 4 = .ok (.if_icmp .ge 24, 3) := by decide +kernel
theorem dX5_goOneTurn_7 : decode cX5_goOneTurn 7 = .ok (.aload_n 0, 1) := by decide +kernel
theorem dX5_goOneTurn_8 : decode cX5_goOneTurn 8 = .ok (.aload_n 0, 1) := by decide +kernel
theorem dX5_goOneTurn_9 : decode cX5_goOneTurn 9 = .ok (.getfield 23, 3) := by decide +kernel
theorem dX5_goOneTurn_12 : decode cX5_goOneTurn 12 = .ok (.iload_n 1, 1) := by decide +kernel
theorem dX5_goOneTurn_13 : decode cX5_goOneTurn 13 = .ok (.aaload, 1) := by decide +kernel
theorem dX5_goOneTurn_14 : decode cX5_goOneTurn 14 = .ok (.invokevirtual 152, 3) := by decide +kernel
theorem dX5_goOneTurn_17 : decode cX5_goOneTurn 17 = .ok (.aload_n 0, 1) := by decide +kernel
theorem dX5_goOneTurn_18 : decode cX5_goOneTurn 18 = .ok (.iload_n 1, 1) := by decide +kernel
theorem dX5_goOneTurn_19 : decode cX5_goOneTurn 19 = .ok (.invokevirtual 155, 3) := by decide +kernel
theorem dX5_goOneTurn_22 : decode cX5_goOneTurn 22 = .ok (.iinc 1 1, 3) := by decide +kernel
theorem dX5_goOneTurn_25 : decode cX5_goOneTurn 25 = .ok (.goto (-23), 3) := by decide +kernel
theorem dX5_goOneTurn_28 : decode cX5_goOneTurn 28 = .ok (.iconst 0, 1) := by decide +kernel
theorem dX5_goOneTurn_29 : decode cX5_goOneTurn 29 = .ok (.istore_n 1, 1) := by decide +kernel
theorem dX5_goOneTurn_30 : decode cX5_goOneTurn 30 = .ok (.iload_n 1, 1) := by decide +kernel
theorem dX5_goOneTurn_31 : decode cX5_goOneTurn 31 = .ok (.iconst 2, 1) := by decide +kernel
theorem dX5_goOneTurn_32 : decode cX5_goOneTurn 32 = .ok (.if_icmp .ge 19, 3) := by decide +kernel
theorem dX5_goOneTurn_35 : decode cX5_goOneTurn 35 = .ok (.aload_n 0, 1) := by decide +kernel
theorem dX5_goOneTurn_36 : decode cX5_goOneTurn 36 = .ok (.iload_n 1, 1) := by decide +kernel
theorem dX5_goOneTurn_37 : decode cX5_goOneTurn 37 = .ok (.invokevirtual 159, 3) := by decide +kernel
theorem dX5_goOneTurn_40 : decode cX5_goOneTurn 40 = .ok (.aload_n 0, 1) := by decide +kernel
theorem dX5_goOneTurn_41 : decode cX5_goOneTurn 41 = .ok (.iload_n 1, 1) := by decide +kernel
theorem dX5_goOneTurn_42 : decode cX5_goOneTurn 42 = .ok (.invokevirtual 162, 3) := by decide +kernel
theorem dX5_goOneTurn_45 : decode cX5_goOneTurn 45 = .ok (.iinc 1 1, 3) := by decide +kernel
theorem dX5_goOneTurn_48 : decode cX5_goOneTurn 48 = .ok (.goto (-18), 3) := by decide +kernel
theorem dX5_goOneTurn_51 : decode cX5_goOneTurn 51 = .ok (.iconst 0, 1) := by decide +kernel
theorem dX5_goOneTurn_52 : decode cX5_goOneTurn 52 = .ok (.istore_n 1, 1) := by decide +kernel
theorem dX5_goOneTurn_53 : decode cX5_goOneTurn 53 = .ok (.iload_n 1, 1) := by decide +kernel
theorem dX5_goOneTurn_54 : decode cX5_goOneTurn 54 = .ok (.iconst 2, 1) := by decide +kernel
theorem dX5_goOneTurn_55 : decode cX5_goOneTurn 55 = .ok (.if_icmp .ge 14, 3) := by decide +kernel
theorem dX5_goOneTurn_58 : decode cX5_goOneTurn 58 = .ok (.aload_n 0, 1) := by decide +kernel
theorem dX5_goOneTurn_59 : decode cX5_goOneTurn 59 = .ok (.iload_n 1, 1) := by decide +kernel
theorem dX5_goOneTurn_60 : decode cX5_goOneTurn 60 = .ok (.invokevirtual 165, 3) := by decide +kernel
theorem dX5_goOneTurn_63 : decode cX5_goOneTurn 63 = .ok (.iinc 1 1, 3) := by decide +kernel
theorem dX5_goOneTurn_66 : decode cX5_goOneTurn 66 = .ok (.goto (-13), 3) := by decide +kernel
theorem dX5_goOneTurn_69 : decode cX5_goOneTurn 69 = .ok (.iconst 0, 1) := by decide +kernel
theorem dX5_goOneTurn_70 : decode cX5_goOneTurn 70 = .ok (.istore_n 1, 1) := by decide +kernel
theorem dX5_goOneTurn_71 : decode cX5_goOneTurn 71 = .ok (.iload_n 1, 1) := by decide +kernel
theorem dX5_goOneTurn_72 : decode cX5_goOneTurn 72 = .ok (.iconst 2, 1) := by decide +kernel
theorem dX5_goOneTurn_73 : decode cX5_goOneTurn 73 = .ok (.if_icmp .ge 19, 3) := by decide +kernel
theorem dX5_goOneTurn_76 : decode cX5_goOneTurn 76 = .ok (.aload_n 0, 1) := by decide +kernel
theorem dX5_goOneTurn_77 : decode cX5_goOneTurn 77 = .ok (.iload_n 1, 1) := by decide +kernel
theorem dX5_goOneTurn_78 : decode cX5_goOneTurn 78 = .ok (.invokevirtual 168, 3) := by decide +kernel
theorem dX5_goOneTurn_81 : decode cX5_goOneTurn 81 = .ok (.aload_n 0, 1) := by decide +kernel
theorem dX5_goOneTurn_82 : decode cX5_goOneTurn 82 = .ok (.iload_n 1, 1) := by decide +kernel
theorem dX5_goOneTurn_83 : decode cX5_goOneTurn 83 = .ok (.invokevirtual 171, 3) := by decide +kernel
theorem dX5_goOneTurn_86 : decode cX5_goOneTurn 86 = .ok (.iinc 1 1, 3) := by decide +kernel
theorem dX5_goOneTurn_89 : decode cX5_goOneTurn 89 = .ok (.goto (-18), 3) := by decide +kernel
theorem dX5_goOneTurn_92 : decode cX5_goOneTurn 92 = .ok (.iconst 0, 1) := by decide +kernel
theorem dX5_goOneTurn_93 : decode cX5_goOneTurn 93 = .ok (.istore_n 1, 1) := by decide +kernel
theorem dX5_goOneTurn_94 : decode cX5_goOneTurn 94 = .ok (.iload_n 1, 1) := by decide +kernel
theorem dX5_goOneTurn_95 : decode cX5_goOneTurn 95 = .ok (.iconst 2, 1) := by decide +kernel
theorem dX5_goOneTurn_96 : decode cX5_goOneTurn 96 = .ok (.if_icmp .ge 14, 3) := by decide +kernel
theorem dX5_goOneTurn_99 : decode cX5_goOneTurn 99 = .ok (.aload_n 0, 1) := by decide +kernel
theorem dX5_goOneTurn_100 : decode cX5_goOneTurn 100 = .ok (.iload_n 1, 1) := by decide +kernel
theorem dX5_goOneTurn_101 : decode cX5_goOneTurn 101 = .ok (.invokevirtual 174, 3) := by decide +kernel
theorem dX5_goOneTurn_104 : decode cX5_goOneTurn 104 = .ok (.iinc 1 1, 3) := by decide +kernel
theorem dX5_goOneTurn_107 : decode cX5_goOneTurn 107 = .ok (.goto (-13), 3) := by decide +kernel
theorem dX5_goOneTurn_110 : decode cX5_goOneTurn 110 = .ok (.iconst 0, 1) := by decide +kernel
theorem dX5_goOneTurn_111 : decode cX5_goOneTurn 111 = .ok (.istore_n 1, 1) := by decide +kernel
theorem dX5_goOneTurn_112 : decode cX5_goOneTurn 112 = .ok (.iload_n 1, 1) := by decide +kernel
theorem dX5_goOneTurn_113 : decode cX5_goOneTurn 113 = .ok (.iconst 2, 1) := by decide +kernel
theorem dX5_goOneTurn_114 : decode cX5_goOneTurn 114 = .ok (.if_icmp .ge 19, 3) := by decide +kernel
theorem dX5_goOneTurn_117 : decode cX5_goOneTurn 117 = .ok (.aload_n 0, 1) := by decide +kernel
theorem dX5_goOneTurn_118 : decode cX5_goOneTurn 118 = .ok (.aload_n 0, 1) := by decide +kernel
theorem dX5_goOneTurn_119 : decode cX5_goOneTurn 119 = .ok (.getfield 23, 3) := by decide +kernel
theorem dX5_goOneTurn_122 : decode cX5_goOneTurn 122 = .ok (.iload_n 1, 1) := by decide +kernel
theorem dX5_goOneTurn_123 : decode cX5_goOneTurn 123 = .ok (.aaload, 1) := by decide +kernel
theorem dX5_goOneTurn_124 : decode cX5_goOneTurn 124 = .ok (.invokevirtual 177, 3) := by decide +kernel
theorem dX5_goOneTurn_127 : decode cX5_goOneTurn 127 = .ok (.iinc 1 1, 3) := by decide +kernel
theorem dX5_goOneTurn_130 : decode cX5_goOneTurn 130 = .ok (.goto (-18), 3) := by decide +kernel
theorem dX5_goOneTurn_133 : decode cX5_goOneTurn 133 = .ok (.aload_n 0, 1) := by decide +kernel
theorem dX5_goOneTurn_134 : decode cX5_goOneTurn 134 = .ok (.dup, 1) := by decide +kernel
theorem dX5_goOneTurn_135 : decode cX5_goOneTurn 135 = .ok (.getfield 31, 3) := by decide +kernel
theorem dX5_goOneTurn_138 : decode cX5_goOneTurn 138 = .ok (.iconst 2, 1) := by decide +kernel
theorem dX5_goOneTurn_139 : decode cX5_goOneTurn 139 = .ok (.iadd, 1) := by decide +kernel
theorem dX5_goOneTurn_140 : decode cX5_goOneTurn 140 = .ok (.putfield 31, 3) := by decide +kernel
theorem dX5_goOneTurn_143 : decode cX5_goOneTurn 143 = .ok (.return_, 1) := by decide +kernel
theorem dX5_heardInTurns_0 : decode cX5_heardInTurns 0 = .ok (.aload_n 0, 1) := by decide +kernel
theorem dX5_heardInTurns_1 : decode cX5_heardInTurns 1 = .ok (.iconst 0, 1) := by decide +kernel
theorem dX5_heardInTurns_2 : decode cX5_heardInTurns 2 = .ok (.putfield 43, 3) := by decide +kernel
theorem dX5_heardInTurns_5 : decode cX5_heardInTurns 5 = .ok (.iconst 0, 1) := by decide +kernel
theorem dX5_heardInTurns_6 : decode cX5_heardInTurns 6 = .ok (.istore_n 2, 1) := by decide +kernel
theorem dX5_heardInTurns_7 : decode cX5_heardInTurns 7 = .ok (.iload_n 2, 1) := by decide +kernel
theorem dX5_heardInTurns_8 : decode cX5_heardInTurns 8 = .ok (.iload_n 1, 1) := by decide +kernel
theorem dX5_heardInTurns_9 : decode cX5_heardInTurns 9 = .ok (.if_icmp .ge 13, 3) := by decide +kernel
theorem dX5_heardInTurns_12 : decode cX5_heardInTurns 12 = .ok (.aload_n 0, 1) := by decide +kernel
theorem dX5_heardInTurns_13 : decode cX5_heardInTurns 13 = .ok (.invokevirtual 149, 3) := by decide +kernel
theorem dX5_heardInTurns_16 : decode cX5_heardInTurns 16 = .ok (.iinc 2 1, 3) := by decide +kernel
theorem dX5_heardInTurns_19 : decode cX5_heardInTurns 19 = .ok (.goto (-12), 3) := by decide +kernel
theorem dX5_heardInTurns_22 : decode cX5_heardInTurns 22 = .ok (.aload_n 0, 1) := by decide +kernel
theorem dX5_heardInTurns_23 : decode cX5_heardInTurns 23 = .ok (.getfield 43, 3) := by decide +kernel
theorem dX5_heardInTurns_26 : decode cX5_heardInTurns 26 = .ok (.ireturn, 1) := by decide +kernel
theorem dX5_framesMissed_0 : decode cX5_framesMissed 0 = .ok (.iconst 0, 1) := by decide +kernel
theorem dX5_framesMissed_1 : decode cX5_framesMissed 1 = .ok (.istore_n 1, 1) := by decide +kernel
theorem dX5_framesMissed_2 : decode cX5_framesMissed 2 = .ok (.iconst 0, 1) := by decide +kernel
theorem dX5_framesMissed_3 : decode cX5_framesMissed 3 = .ok (.istore_n 2, 1) := by decide +kernel
theorem dX5_framesMissed_4 : decode cX5_framesMissed 4 = .ok (.iload_n 2, 1) := by decide +kernel
theorem dX5_framesMissed_5 : decode cX5_framesMissed 5 = .ok (.iconst 2, 1) := by decide +kernel
theorem dX5_framesMissed_6 : decode cX5_framesMissed 6 = .ok (.if_icmp .ge 55, 3) := by decide +kernel
theorem dX5_framesMissed_9 : decode cX5_framesMissed 9 = .ok (.iconst 0, 1) := by decide +kernel
theorem dX5_framesMissed_10 : decode cX5_framesMissed 10 = .ok (.istore_n 3, 1) := by decide +kernel
theorem dX5_framesMissed_11 : decode cX5_framesMissed 11 = .ok (.iload_n 3, 1) := by decide +kernel
theorem dX5_framesMissed_12 : decode cX5_framesMissed 12 = .ok (.aload_n 0, 1) := by decide +kernel
theorem dX5_framesMissed_13 : decode cX5_framesMissed 13 = .ok (.getfield 23, 3) := by decide +kernel
theorem dX5_framesMissed_16 : decode cX5_framesMissed 16 = .ok (.iload_n 2, 1) := by decide +kernel
theorem dX5_framesMissed_17 : decode cX5_framesMissed 17 = .ok (.aaload, 1) := by decide +kernel
theorem dX5_framesMissed_18 : decode cX5_framesMissed 18 = .ok (.getfield 121, 3) := by decide +kernel
theorem dX5_framesMissed_21 : decode cX5_framesMissed 21 = .ok (.if_icmp .ge 34, 3) := by decide +kernel
theorem dX5_framesMissed_24 : decode cX5_framesMissed 24 = .ok (.iload_n 3, 1) := by decide +kernel
theorem dX5_framesMissed_25 : decode cX5_framesMissed 25 = .ok (.iconst 4, 1) := by decide +kernel
theorem dX5_framesMissed_26 : decode cX5_framesMissed 26 = .ok (.if_icmp .ge 29, 3) := by decide +kernel
theorem dX5_framesMissed_29 : decode cX5_framesMissed 29 = .ok (.iload_n 1, 1) := by decide +kernel
theorem dX5_framesMissed_30 : decode cX5_framesMissed 30 = .ok (.aload_n 0, 1) := by decide +kernel
theorem dX5_framesMissed_31 : decode cX5_framesMissed 31 = .ok (.getfield 23, 3) := by decide +kernel
theorem dX5_framesMissed_34 : decode cX5_framesMissed 34 = .ok (.iload_n 2, 1) := by decide +kernel
theorem dX5_framesMissed_35 : decode cX5_framesMissed 35 = .ok (.aaload, 1) := by decide +kernel
theorem dX5_framesMissed_36 : decode cX5_framesMissed 36 = .ok (.getfield 124, 3) := by decide +kernel
theorem dX5_framesMissed_39 : decode cX5_framesMissed 39 = .ok (.iload_n 3, 1) := by decide +kernel
theorem dX5_framesMissed_40 : decode cX5_framesMissed 40 = .ok (.aaload, 1) := by decide +kernel
theorem dX5_framesMissed_41 : decode cX5_framesMissed 41 = .ok (.getfield 128, 3) := by decide +kernel
theorem dX5_framesMissed_44 : decode cX5_framesMissed 44 = .ok (.getfield 132, 3) := by decide +kernel
theorem dX5_framesMissed_47 : decode cX5_framesMissed 47 = .ok (.iadd, 1) := by decide +kernel
theorem dX5_framesMissed_48 : decode cX5_framesMissed 48 = .ok (.istore_n 1, 1) := by decide +kernel
theorem dX5_framesMissed_49 : decode cX5_framesMissed 49 = .ok (.iinc 3 1, 3) := by decide +kernel
theorem dX5_framesMissed_52 : decode cX5_framesMissed 52 = .ok (.goto (-41), 3) := by decide +kernel
theorem dX5_framesMissed_55 : decode cX5_framesMissed 55 = .ok (.iinc 2 1, 3) := by decide +kernel
theorem dX5_framesMissed_58 : decode cX5_framesMissed 58 = .ok (.goto (-54), 3) := by decide +kernel
theorem dX5_framesMissed_61 : decode cX5_framesMissed 61 = .ok (.iload_n 1, 1) := by decide +kernel
theorem dX5_framesMissed_62 : decode cX5_framesMissed 62 = .ok (.ireturn, 1) := by decide +kernel
theorem dX5_linksOfOtherMap_0 : decode cX5_linksOfOtherMap 0 = .ok (.iconst 0, 1) := by decide +kernel
theorem dX5_linksOfOtherMap_1 : decode cX5_linksOfOtherMap 1 = .ok (.istore_n 1, 1) := by decide +kernel
theorem dX5_linksOfOtherMap_2 : decode cX5_linksOfOtherMap 2 = .ok (.iconst 0, 1) := by decide +kernel
theorem dX5_linksOfOtherMap_3 : decode cX5_linksOfOtherMap 3 = .ok (.istore_n 2, 1) := by decide +kernel
theorem dX5_linksOfOtherMap_4 : decode cX5_linksOfOtherMap 4 = .ok (.iload_n 2, 1) := by decide +kernel
theorem dX5_linksOfOtherMap_5 : decode cX5_linksOfOtherMap 5 = .ok (.iconst 2, 1) := by decide +kernel
theorem dX5_linksOfOtherMap_6 : decode cX5_linksOfOtherMap 6 = .ok (.if_icmp .ge 70, 3) := by decide +kernel
theorem dX5_linksOfOtherMap_9 : decode cX5_linksOfOtherMap 9 = .ok (.iconst 0, 1) := by decide +kernel
theorem dX5_linksOfOtherMap_10 : decode cX5_linksOfOtherMap 10 = .ok (.istore_n 3, 1) := by decide +kernel
theorem dX5_linksOfOtherMap_11 : decode cX5_linksOfOtherMap 11 = .ok (.iload_n 3, 1) := by decide +kernel
theorem dX5_linksOfOtherMap_12 : decode cX5_linksOfOtherMap 12 = .ok (.aload_n 0, 1) := by decide +kernel
theorem dX5_linksOfOtherMap_13 : decode cX5_linksOfOtherMap 13 = .ok (.getfield 23, 3) := by decide +kernel
theorem dX5_linksOfOtherMap_16 : decode cX5_linksOfOtherMap 16 = .ok (.iload_n 2, 1) := by decide +kernel
theorem dX5_linksOfOtherMap_17 : decode cX5_linksOfOtherMap 17 = .ok (.aaload, 1) := by decide +kernel
theorem dX5_linksOfOtherMap_18 : decode cX5_linksOfOtherMap 18 = .ok (.getfield 121, 3) := by decide +kernel
theorem dX5_linksOfOtherMap_21 : decode cX5_linksOfOtherMap 21 = .ok (.if_icmp .ge 49, 3) := by decide +kernel
theorem dX5_linksOfOtherMap_24 : decode cX5_linksOfOtherMap 24 = .ok (.iload_n 3, 1) := by decide +kernel
theorem dX5_linksOfOtherMap_25 : decode cX5_linksOfOtherMap 25 = .ok (.iconst 4, 1) := by decide +kernel
theorem dX5_linksOfOtherMap_26 : decode cX5_linksOfOtherMap 26 = .ok (.if_icmp .ge 44, 3) := by decide +kernel
theorem dX5_linksOfOtherMap_29 : decode cX5_linksOfOtherMap 29 = .ok (.aload_n 0, 1) := by decide +kernel
theorem dX5_linksOfOtherMap_30 : decode cX5_linksOfOtherMap 30 = .ok (.getfield 23, 3) := by decide +kernel
theorem dX5_linksOfOtherMap_33 : decode cX5_linksOfOtherMap 33 = .ok (.iload_n 2, 1) := by decide +kernel
theorem dX5_linksOfOtherMap_34 : decode cX5_linksOfOtherMap 34 = .ok (.aaload, 1) := by decide +kernel
theorem dX5_linksOfOtherMap_35 : decode cX5_linksOfOtherMap 35 = .ok (.getfield 124, 3) := by decide +kernel
theorem dX5_linksOfOtherMap_38 : decode cX5_linksOfOtherMap 38 = .ok (.iload_n 3, 1) := by decide +kernel
theorem dX5_linksOfOtherMap_39 : decode cX5_linksOfOtherMap 39 = .ok (.aaload, 1) := by decide +kernel
theorem dX5_linksOfOtherMap_40 : decode cX5_linksOfOtherMap 40 = .ok (.getfield 117, 3) := by decide +kernel
theorem dX5_linksOfOtherMap_43 : decode cX5_linksOfOtherMap 43 = .ok (.getfield 108, 3) := by decide +kernel
theorem dX5_linksOfOtherMap_46 : decode cX5_linksOfOtherMap 46 = .ok (.aload_n 0, 1) := by decide +kernel
theorem dX5_linksOfOtherMap_47 : decode cX5_linksOfOtherMap 47 = .ok (.getfield 23, 3) := by decide +kernel
theorem dX5_linksOfOtherMap_50 : decode cX5_linksOfOtherMap 50 = .ok (.iload_n 2, 1) := by decide +kernel
theorem dX5_linksOfOtherMap_51 : decode cX5_linksOfOtherMap 51 = .ok (.aaload, 1) := by decide +kernel
theorem dX5_linksOfOtherMap_52 : decode cX5_linksOfOtherMap 52 = .ok (.getfield 104, 3) := by decide +kernel
theorem dX5_linksOfOtherMap_55 : decode cX5_linksOfOtherMap 55 = .ok (.getfield 108, 3) := by decide +kernel
theorem dX5_linksOfOtherMap_58 : decode cX5_linksOfOtherMap 58 = .ok (.if_icmp .eq 6, 3) := by decide +kernel
theorem dX5_linksOfOtherMap_61 : decode cX5_linksOfOtherMap 61 = .ok (.iinc 1 1, 3) := by decide +kernel
theorem dX5_linksOfOtherMap_64 : decode cX5_linksOfOtherMap 64 = .ok (.iinc 3 1, 3) := by decide +kernel
theorem dX5_linksOfOtherMap_67 : decode cX5_linksOfOtherMap 67 = .ok (.goto (-56), 3) := by decide +kernel
theorem dX5_linksOfOtherMap_70 : decode cX5_linksOfOtherMap 70 = .ok (.iinc 2 1, 3) := by decide +kernel
theorem dX5_linksOfOtherMap_73 : decode cX5_linksOfOtherMap 73 = .ok (.goto (-69), 3) := by decide +kernel
theorem dX5_linksOfOtherMap_76 : decode cX5_linksOfOtherMap 76 = .ok (.iload_n 1, 1) := by decide +kernel
theorem dX5_linksOfOtherMap_77 : decode cX5_linksOfOtherMap 77 = .ok (.ireturn, 1) := by decide +kernel
theorem dX5_heardOfAll_0 : decode cX5_heardOfAll 0 = .ok (.iconst 0, 1) := by decide +kernel
theorem dX5_heardOfAll_1 : decode cX5_heardOfAll 1 = .ok (.istore_n 1, 1) := by decide +kernel
theorem dX5_heardOfAll_2 : decode cX5_heardOfAll 2 = .ok (.iconst 0, 1) := by decide +kernel
theorem dX5_heardOfAll_3 : decode cX5_heardOfAll 3 = .ok (.istore_n 2, 1) := by decide +kernel
theorem dX5_heardOfAll_4 : decode cX5_heardOfAll 4 = .ok (.iload_n 2, 1) := by decide +kernel
theorem dX5_heardOfAll_5 : decode cX5_heardOfAll 5 = .ok (.iconst 2, 1) := by decide +kernel
theorem dX5_heardOfAll_6 : decode cX5_heardOfAll 6 = .ok (.if_icmp .ge 73, 3) := by decide +kernel
theorem dX5_heardOfAll_9 : decode cX5_heardOfAll 9 = .ok (.iconst 0, 1) := by decide +kernel
theorem dX5_heardOfAll_10 : decode cX5_heardOfAll 10 = .ok (.istore_n 3, 1) := by decide +kernel
theorem dX5_heardOfAll_11 : decode cX5_heardOfAll 11 = .ok (.iload_n 3, 1) := by decide +kernel
theorem dX5_heardOfAll_12 : decode cX5_heardOfAll 12 = .ok (.aload_n 0, 1) := by decide +kernel
theorem dX5_heardOfAll_13 : decode cX5_heardOfAll 13 = .ok (.getfield 23, 3) := by decide +kernel
theorem dX5_heardOfAll_16 : decode cX5_heardOfAll 16 = .ok (.iload_n 2, 1) := by decide +kernel
theorem dX5_heardOfAll_17 : decode cX5_heardOfAll 17 = .ok (.aaload, 1) := by decide +kernel
theorem dX5_heardOfAll_18 : decode cX5_heardOfAll 18 = .ok (.getfield 121, 3) := by decide +kernel
theorem dX5_heardOfAll_21 : decode cX5_heardOfAll 21 = .ok (.if_icmp .ge 52, 3) := by decide +kernel
theorem dX5_heardOfAll_24 : decode cX5_heardOfAll 24 = .ok (.iload_n 3, 1) := by decide +kernel
theorem dX5_heardOfAll_25 : decode cX5_heardOfAll 25 = .ok (.iconst 4, 1) := by decide +kernel
theorem dX5_heardOfAll_26 : decode cX5_heardOfAll 26 = .ok (.if_icmp .ge 47, 3) := by decide +kernel
theorem dX5_heardOfAll_29 : decode cX5_heardOfAll 29 = .ok (.iload_n 1, 1) := by decide +kernel
theorem dX5_heardOfAll_30 : decode cX5_heardOfAll 30 = .ok (.aload_n 0, 1) := by decide +kernel
theorem dX5_heardOfAll_31 : decode cX5_heardOfAll 31 = .ok (.getfield 23, 3) := by decide +kernel
theorem dX5_heardOfAll_34 : decode cX5_heardOfAll 34 = .ok (.iload_n 2, 1) := by decide +kernel
theorem dX5_heardOfAll_35 : decode cX5_heardOfAll 35 = .ok (.aaload, 1) := by decide +kernel
theorem dX5_heardOfAll_36 : decode cX5_heardOfAll 36 = .ok (.getfield 124, 3) := by decide +kernel
theorem dX5_heardOfAll_39 : decode cX5_heardOfAll 39 = .ok (.iload_n 3, 1) := by decide +kernel
theorem dX5_heardOfAll_40 : decode cX5_heardOfAll 40 = .ok (.aaload, 1) := by decide +kernel
theorem dX5_heardOfAll_41 : decode cX5_heardOfAll 41 = .ok (.getfield 137, 3) := by decide +kernel
theorem dX5_heardOfAll_44 : decode cX5_heardOfAll 44 = .ok (.getfield 141, 3) := by decide +kernel
theorem dX5_heardOfAll_47 : decode cX5_heardOfAll 47 = .ok (.aload_n 0, 1) := by decide +kernel
theorem dX5_heardOfAll_48 : decode cX5_heardOfAll 48 = .ok (.getfield 23, 3) := by decide +kernel
theorem dX5_heardOfAll_51 : decode cX5_heardOfAll 51 = .ok (.iload_n 2, 1) := by decide +kernel
theorem dX5_heardOfAll_52 : decode cX5_heardOfAll 52 = .ok (.aaload, 1) := by decide +kernel
theorem dX5_heardOfAll_53 : decode cX5_heardOfAll 53 = .ok (.getfield 124, 3) := by decide +kernel
theorem dX5_heardOfAll_56 : decode cX5_heardOfAll 56 = .ok (.iload_n 3, 1) := by decide +kernel
theorem dX5_heardOfAll_57 : decode cX5_heardOfAll 57 = .ok (.aaload, 1) := by decide +kernel
theorem dX5_heardOfAll_58 : decode cX5_heardOfAll 58 = .ok (.getfield 146, 3) := by decide +kernel
theorem dX5_heardOfAll_61 : decode cX5_heardOfAll 61 = .ok (.getfield 141, 3) := by decide +kernel
theorem dX5_heardOfAll_64 : decode cX5_heardOfAll 64 = .ok (.iadd, 1) := by decide +kernel
theorem dX5_heardOfAll_65 : decode cX5_heardOfAll 65 = .ok (.iadd, 1) := by decide +kernel
theorem dX5_heardOfAll_66 : decode cX5_heardOfAll 66 = .ok (.istore_n 1, 1) := by decide +kernel
theorem dX5_heardOfAll_67 : decode cX5_heardOfAll 67 = .ok (.iinc 3 1, 3) := by decide +kernel
theorem dX5_heardOfAll_70 : decode cX5_heardOfAll 70 = .ok (.goto (-59), 3) := by decide +kernel
theorem dX5_heardOfAll_73 : decode cX5_heardOfAll 73 = .ok (.iinc 2 1, 3) := by decide +kernel
theorem dX5_heardOfAll_76 : decode cX5_heardOfAll 76 = .ok (.goto (-72), 3) := by decide +kernel
theorem dX5_heardOfAll_79 : decode cX5_heardOfAll 79 = .ok (.iload_n 1, 1) := by decide +kernel
theorem dX5_heardOfAll_80 : decode cX5_heardOfAll 80 = .ok (.ireturn, 1) := by decide +kernel
set_option maxHeartbeats 4000000 in
set_option maxRecDepth 100000 in
theorem c_netAt (l : Launch) (E : hE) (ρ : Nat → Nat → Int32) (k : Nat) (n : Int32) (h : hk k = 5) (hF : FrW ρ k) : Met l yX5_netAt (.code yX5_netAt cX5_netAt 2 (some (.object "HopNet$Net")) :: gw_all) (rmk 0 0) (cPre E ρ [.ref (E.2.1 + k), .int n]) (cQ E (fun r ρ1 => ρ = ρ1 ∧ r = none)) 0 0 (hA E) := by
  refine ent (own := RX5) (by decide) rfl (Nat.le_of_ble_eq_true rfl) ?_
  intro p e s m below meth c ls B hr hlk hl hP hS
  have hx := B.1.1
  have hb := B.1.2.1
  have hown := B.1.2.2.2.1
  have hts := B.1.2.2.2.2
  have hl : lv_has ls 2 [(0, .ref (E.2.1 + k)), (1, .int n)] := hl
  refine lv_iload_n hx hb dX5_netAt_0 rfl (lv_at hl 1 rfl) ?_
  refine lv_if_lt (tgt := 22) hx hb dX5_netAt_1 (by decide) (fun c1 => ?_) (fun c1 => ?_)
  · skip
    refine lv_null hx hb dX5_netAt_22 ?_
    refine lv_goto (tgt := 32) hx hb dX5_netAt_23 (by decide) ?_
    exact ret_q none B hr hlk hP hS dX5_netAt_32 (⟨rfl, rfl⟩)
  · skip
    refine lv_iload_n hx hb dX5_netAt_4 rfl (lv_at hl 1 rfl) ?_
    refine lv_iconst (v := 2) hx hb dX5_netAt_5 (by decide) ?_
    refine lv_icmp_ge (tgt := 22) hx hb dX5_netAt_6 (by decide) (fun c2 => ?_) (fun c2 => ?_)
    · skip
      refine lv_null hx hb dX5_netAt_22 ?_
      refine lv_goto (tgt := 32) hx hb dX5_netAt_23 (by decide) ?_
      exact ret_q none B hr hlk hP hS dX5_netAt_32 (⟨rfl, rfl⟩)
    · skip
      refine lv_aload_n hx hb dX5_netAt_9 rfl (lv_at hl 0 rfl) ?_
      refine get5 B hP h 3 (by decide) mw_377 rfl dX5_netAt_10 ?_
      refine lv_iload_n hx hb dX5_netAt_13 rfl (lv_at hl 1 rfl) ?_
      obtain ⟨j3, hj3, ej3⟩ := ix_of (L := 2) (n := 2) rfl c1 c2
      rcases (show j3 = 0 ∨ j3 = 1 by omega) with rfl | rfl
      · skip
        refine aldNn B hP (lay5 h).2.2.2.2.2.2.1 (lay5 h).2.2.2.2.2.2.2.1 ej3 (by decide) dX5_netAt_14 ?_
        refine get2 B hP (lay5 h).2.2.2.2.2.2.2.2.1 5 (by decide) mw_296 (v := .int (-1)) (show some (Value.int (ρ (k + 5) 5)) = some (Value.int (-1)) from congrArg (fun z => some (Value.int z)) (show ρ (k + 5) 5 = (-1) from hF.1.1)) dX5_netAt_15 ?_
        refine lv_iconst (v := (-1)) hx hb dX5_netAt_18 (by decide) ?_
        refine lv_icmp_ne (tgt := 26) hx hb dX5_netAt_19 (by decide) (fun c4 => absurd c4 (by decide)) (fun _ => ?_)
        refine lv_null hx hb dX5_netAt_22 ?_
        refine lv_goto (tgt := 32) hx hb dX5_netAt_23 (by decide) ?_
        exact ret_q none B hr hlk hP hS dX5_netAt_32 (⟨rfl, rfl⟩)
      · skip
        refine aldNn B hP (lay5 h).2.2.2.2.2.2.1 (lay5 h).2.2.2.2.2.2.2.1 ej3 (by decide) dX5_netAt_14 ?_
        refine get2 B hP (lay5 h).2.2.2.2.2.2.2.2.2 5 (by decide) mw_296 (v := .int (-1)) (show some (Value.int (ρ (k + 47) 5)) = some (Value.int (-1)) from congrArg (fun z => some (Value.int z)) (show ρ (k + 47) 5 = (-1) from hF.2.1)) dX5_netAt_15 ?_
        refine lv_iconst (v := (-1)) hx hb dX5_netAt_18 (by decide) ?_
        refine lv_icmp_ne (tgt := 26) hx hb dX5_netAt_19 (by decide) (fun c5 => absurd c5 (by decide)) (fun _ => ?_)
        refine lv_null hx hb dX5_netAt_22 ?_
        refine lv_goto (tgt := 32) hx hb dX5_netAt_23 (by decide) ?_
        exact ret_q none B hr hlk hP hS dX5_netAt_32 (⟨rfl, rfl⟩)

theorem lk_RX5_60 : LkV RX5 60 RX5 yX5_netAt cX5_netAt 2 (some (.object "HopNet$Net")) 1 := ⟨⟨mw_576, mw_517, mw_518, mw_53, mw_519⟩, by decide +kernel⟩
set_option maxHeartbeats 4000000 in
set_option maxRecDepth 100000 in
theorem c_linkAt (l : Launch) (E : hE) (ρ : Nat → Nat → Int32) (k : Nat) (n i : Int32) (h : hk k = 5) (hF : FrW ρ k) : Met l yX5_linkAt (.code yX5_linkAt cX5_linkAt 4 (some (.object "HopNet$Link")) :: gw_all) (rmk 1 40) (cPre E ρ [.ref (E.2.1 + k), .int n, .int i]) (cQ E (fun r ρ1 => ρ = ρ1 ∧ r = none)) 0 0 (hA E) := by
  refine ent (own := RX5) (by decide) rfl (Nat.le_of_ble_eq_true rfl) ?_
  intro p e s m below meth c ls B hr hlk hl hP hS
  have hx := B.1.1
  have hb := B.1.2.1
  have hown := B.1.2.2.2.1
  have hts := B.1.2.2.2.2
  have hl : lv_has ls 4 [(0, .ref (E.2.1 + k)), (1, .int n), (2, .int i)] := hl
  refine lv_aload_n hx hb dX5_linkAt_0 rfl (lv_at hl 0 rfl) ?_
  refine lv_iload_n hx hb dX5_linkAt_1 rfl (lv_at hl 1 rfl) ?_
  refine call_q (cVt (k := k) (av := [.int n]) (rest := []) B hP hS (c_netAt l E ρ k n h hF) lk_RX5_60 (hrecv (ci := 5) B hP (hk_lt (c := 5) h (by decide)) (hcc5 _ _ h) rfl) rfl rfl hl.1 (Nat.le_of_ble_eq_true rfl) ⟨Nat.le_of_ble_eq_true rfl, Nat.le_of_ble_eq_true rfl⟩ ⟨Nat.le_of_ble_eq_true rfl, Nat.le_of_ble_eq_true rfl⟩ dX5_linkAt_2) hS (fun r1 ρ2 H locs q3 hP hS => ?_)
  obtain ⟨rfl, rfl⟩ := q3
  refine W.eq (g2 := F0 m 5 ls [.null]) rfl ?_
  refine lv_astore_nN (lv' := [(3, .null), (0, .ref (E.2.1 + k)), (1, .int n), (2, .int i)]) hx hb dX5_linkAt_5 rfl hl (by decide) rfl (fun ls hl => ?_)
  refine lv_aload_nN hx hb dX5_linkAt_6 rfl (lv_at hl 0 rfl) ?_
  refine lv_ifnonnullN hx hb dX5_linkAt_7 ?_
  refine lv_null hx hb dX5_linkAt_10 ?_
  refine lv_goto (tgt := 19) hx hb dX5_linkAt_11 (by decide) ?_
  exact ret_q none B hr hlk hP hS dX5_linkAt_19 (⟨rfl, rfl⟩)

set_option maxHeartbeats 4000000 in
set_option maxRecDepth 100000 in
theorem c_hasRadio (l : Launch) (E : hE) (ρ : Nat → Nat → Int32) (k : Nat) (n : Int32) (h : hk k = 5) (hz : ρ k 4 = 0) : Met l yX5_hasRadio (.code yX5_hasRadio cX5_hasRadio 2 (some .boolean) :: gw_all) (rmk 0 0) (cPre E ρ [.ref (E.2.1 + k), .int n]) (cI E (fun r ρ1 => ρ = ρ1 ∧ r = 0)) 0 0 (hA E) := by
  refine ent (own := RX5) (by decide) rfl (Nat.le_of_ble_eq_true rfl) ?_
  intro p e s m below meth c ls B hr hlk hl hP hS
  have hx := B.1.1
  have hb := B.1.2.1
  have hown := B.1.2.2.2.1
  have hts := B.1.2.2.2.2
  have hl : lv_has ls 2 [(0, .ref (E.2.1 + k)), (1, .int n)] := hl
  refine lv_iload_n hx hb dX5_hasRadio_0 rfl (lv_at hl 1 rfl) ?_
  refine lv_if_lt (tgt := 16) hx hb dX5_hasRadio_1 (by decide) (fun c1 => ?_) (fun c1 => ?_)
  · skip
    refine lv_iconst (v := 0) hx hb dX5_hasRadio_16 (by decide) ?_
    exact ret_z B hr hlk hP hS dX5_hasRadio_17 (Or.inl rfl) (⟨rfl, rfl⟩)
  · skip
    refine lv_iload_n hx hb dX5_hasRadio_4 rfl (lv_at hl 1 rfl) ?_
    refine lv_aload_n hx hb dX5_hasRadio_5 rfl (lv_at hl 0 rfl) ?_
    refine get5 B hP h 4 (by decide) mw_379 (v := .int 0) (show some (Value.int (ρ k 4)) = some (Value.int 0) from congrArg (fun z => some (Value.int z)) hz) dX5_hasRadio_6 ?_
    refine lv_icmp_ge (tgt := 16) hx hb dX5_hasRadio_9 (by decide) (fun c2 => ?_) (fun c2 => ?_)
    · skip
      refine lv_iconst (v := 0) hx hb dX5_hasRadio_16 (by decide) ?_
      exact ret_z B hr hlk hP hS dX5_hasRadio_17 (Or.inl rfl) (⟨rfl, rfl⟩)
    · skip
      refine lv_iconst (v := 1) hx hb dX5_hasRadio_12 (by decide) ?_
      refine lv_goto (tgt := 17) hx hb dX5_hasRadio_13 (by decide) ?_
      exact ret_z B hr hlk hP hS dX5_hasRadio_17 (Or.inr rfl) (⟨rfl, absurd (Int32.not_lt.mp c1) c2⟩)

set_option maxHeartbeats 4000000 in
set_option maxRecDepth 100000 in
theorem c_hasBothNets (l : Launch) (E : hE) (ρ : Nat → Nat → Int32) (k : Nat) (h : hk k = 5) (hF : FrW ρ k) : Met l yX5_hasBothNets (.code yX5_hasBothNets cX5_hasBothNets 1 (some .boolean) :: gw_all) (rmk 1 40) (cPre E ρ [.ref (E.2.1 + k)]) (cI E (fun r ρ1 => ρ = ρ1 ∧ r = 0)) 0 0 (hA E) := by
  refine ent (own := RX5) (by decide) rfl (Nat.le_of_ble_eq_true rfl) ?_
  intro p e s m below meth c ls B hr hlk hl hP hS
  have hx := B.1.1
  have hb := B.1.2.1
  have hown := B.1.2.2.2.1
  have hts := B.1.2.2.2.2
  have hl : lv_has ls 1 [(0, .ref (E.2.1 + k))] := hl
  refine lv_aload_n hx hb dX5_hasBothNets_0 rfl (lv_at hl 0 rfl) ?_
  refine lv_iconst (v := 0) hx hb dX5_hasBothNets_1 (by decide) ?_
  refine call_q (cVt (k := k) (av := [.int 0]) (rest := []) B hP hS (c_netAt l E ρ k 0 h hF) lk_RX5_60 (hrecv (ci := 5) B hP (hk_lt (c := 5) h (by decide)) (hcc5 _ _ h) rfl) rfl rfl hl.1 (Nat.le_of_ble_eq_true rfl) ⟨Nat.le_of_ble_eq_true rfl, Nat.le_of_ble_eq_true rfl⟩ ⟨Nat.le_of_ble_eq_true rfl, Nat.le_of_ble_eq_true rfl⟩ dX5_hasBothNets_2) hS (fun r1 ρ2 H locs q3 hP hS => ?_)
  obtain ⟨rfl, rfl⟩ := q3
  refine W.eq (g2 := F0 m 5 ls [.null]) rfl ?_
  refine lv_ifnullN (tgt := 20) hx hb dX5_hasBothNets_5 (by decide) ?_
  refine lv_iconst (v := 0) hx hb dX5_hasBothNets_20 (by decide) ?_
  exact ret_z B hr hlk hP hS dX5_hasBothNets_21 (Or.inl rfl) (⟨rfl, rfl⟩)

theorem lk_RX6_95 : LkV RX6 95 RX5 yX5_netAt cX5_netAt 2 (some (.object "HopNet$Net")) 1 := ⟨⟨mw_516, mw_517, mw_518, mw_53, mw_519⟩, by decide +kernel⟩
set_option maxHeartbeats 4000000 in
set_option maxRecDepth 100000 in
theorem c_planOf (l : Launch) (E : hE) (ρ : Nat → Nat → Int32) (n i : Int32) (hF : FrW ρ 1) : Met l yX6_planOf (.code yX6_planOf cX6_planOf 5 (some (.object "HopNet$Plan")) :: gw_all) (rmk 1 40) (cPre E ρ [.ref (E.2.1 + 0), .int n, .int i]) (cQ E (fun r ρ1 => ρ = ρ1 ∧ r = none)) 0 0 (hA E) := by
  refine ent (own := RX6) (by decide) rfl (Nat.le_of_ble_eq_true rfl) ?_
  intro p e s m below meth c ls B hr hlk hl hP hS
  have hx := B.1.1
  have hb := B.1.2.1
  have hown := B.1.2.2.2.1
  have hts := B.1.2.2.2.2
  have hl : lv_has ls 5 [(0, .ref (E.2.1 + 0)), (1, .int n), (2, .int i)] := hl
  refine lv_aload_n hx hb dX6_planOf_0 rfl (lv_at hl 0 rfl) ?_
  refine get6 B hP (by decide +kernel) 0 (by decide) mw_412 rfl dX6_planOf_1 ?_
  refine lv_iload_n hx hb dX6_planOf_4 rfl (lv_at hl 1 rfl) ?_
  refine call_q (cVt (k := 1) (av := [.int n]) (rest := []) B hP hS (c_netAt l E ρ 1 n (by decide +kernel) hF) lk_RX6_95 (hrecv (ci := 5) B hP (hk_lt (c := 5) (by decide +kernel) (by decide)) (hcc5 _ _ (by decide +kernel)) rfl) rfl rfl hl.1 (Nat.le_of_ble_eq_true rfl) ⟨Nat.le_of_ble_eq_true rfl, Nat.le_of_ble_eq_true rfl⟩ ⟨Nat.le_of_ble_eq_true rfl, Nat.le_of_ble_eq_true rfl⟩ dX6_planOf_5) hS (fun r1 ρ2 H locs q3 hP hS => ?_)
  obtain ⟨rfl, rfl⟩ := q3
  refine W.eq (g2 := F0 m 8 ls [.null]) rfl ?_
  refine lv_astore_nN (lv' := [(3, .null), (0, .ref (E.2.1 + 0)), (1, .int n), (2, .int i)]) hx hb dX6_planOf_8 rfl hl (by decide) rfl (fun ls hl => ?_)
  refine lv_aload_nN hx hb dX6_planOf_9 rfl (lv_at hl 0 rfl) ?_
  refine lv_ifnonnullN hx hb dX6_planOf_10 ?_
  refine lv_null hx hb dX6_planOf_13 ?_
  exact ret_q none B hr hlk hP hS dX6_planOf_14 (⟨rfl, rfl⟩)

set_option maxHeartbeats 4000000 in
set_option maxRecDepth 100000 in
theorem c_hasTimeFor (l : Launch) (E : hE) (ρ : Nat → Nat → Int32) (n : Int32) (hz : ρ 1 5 = 0) (hn : iR n 1 200) : Met l yX6_hasTimeFor (.code yX6_hasTimeFor cX6_hasTimeFor 2 (some .boolean) :: gw_all) (rmk 0 0) (cPre E ρ [.ref (E.2.1 + 0), .int n]) (cI E (fun r ρ1 => ρ = ρ1 ∧ r = 1)) 0 0 (hA E) := by
  refine ent (own := RX6) (by decide) rfl (Nat.le_of_ble_eq_true rfl) ?_
  intro p e s m below meth c ls B hr hlk hl hP hS
  have hx := B.1.1
  have hb := B.1.2.1
  have hown := B.1.2.2.2.1
  have hts := B.1.2.2.2.2
  have hl : lv_has ls 2 [(0, .ref (E.2.1 + 0)), (1, .int n)] := hl
  refine lv_aload_n hx hb dX6_hasTimeFor_0 rfl (lv_at hl 0 rfl) ?_
  refine get6 B hP (by decide +kernel) 0 (by decide) mw_412 rfl dX6_hasTimeFor_1 ?_
  refine get5 B hP (by decide +kernel) 5 (by decide) mw_382 (v := .int 0) (show some (Value.int (ρ 1 5)) = some (Value.int 0) from congrArg (fun z => some (Value.int z)) hz) dX6_hasTimeFor_4 ?_
  refine lv_iconst (v := 2) hx hb dX6_hasTimeFor_7 (by decide) ?_
  refine lv_iload_n hx hb dX6_hasTimeFor_8 rfl (lv_at hl 1 rfl) ?_
  refine lv_imul hx hb dX6_hasTimeFor_9 ?_
  refine lv_iadd hx hb dX6_hasTimeFor_10 ?_
  refine lv_ldcw (v := 99998) hx hb hown (hts _ mw_653) dX6_hasTimeFor_11 ?_
  refine lv_icmp_gt (tgt := 21) hx hb dX6_hasTimeFor_14 (by decide) (fun c1 => absurd c1 (ht_ok hn)) (fun _ => ?_)
  refine lv_iconst (v := 1) hx hb dX6_hasTimeFor_17 (by decide) ?_
  refine lv_goto (tgt := 22) hx hb dX6_hasTimeFor_18 (by decide) ?_
  exact ret_z B hr hlk hP hS dX6_hasTimeFor_22 (Or.inr rfl) (⟨rfl, rfl⟩)

set_option maxHeartbeats 4000000 in
set_option maxRecDepth 100000 in
theorem c_changesAt (l : Launch) (E : hE) (ρ : Nat → Nat → Int32) (k : Nat) (t : Int32) (h : hk k = 3) (hz : ρ k 1 = 0) : Met l yX3_changesAt (.code yX3_changesAt cX3_changesAt 2 (some .boolean) :: gw_all) (rmk 0 0) (cPre E ρ [.ref (E.2.1 + k), .int t]) (cI E (fun r ρ1 => ρ = ρ1 ∧ r = 0)) 0 0 (hA E) := by
  refine ent (own := RX3) (by decide) rfl (Nat.le_of_ble_eq_true rfl) ?_
  intro p e s m below meth c ls B hr hlk hl hP hS
  have hx := B.1.1
  have hb := B.1.2.1
  have hown := B.1.2.2.2.1
  have hts := B.1.2.2.2.2
  have hl : lv_has ls 2 [(0, .ref (E.2.1 + k)), (1, .int t)] := hl
  refine lv_aload_n hx hb dX3_changesAt_0 rfl (lv_at hl 0 rfl) ?_
  refine get3 B hP h 1 (by decide) mw_96 (v := .int 0) (show some (Value.int (ρ k 1)) = some (Value.int 0) from congrArg (fun z => some (Value.int z)) hz) dX3_changesAt_1 ?_
  refine lv_if_eq (tgt := 15) hx hb dX3_changesAt_4 (by decide) (fun _ => ?_) (fun c1 => absurd c1 (by decide))
  refine lv_iconst (v := 0) hx hb dX3_changesAt_15 (by decide) ?_
  exact ret_z B hr hlk hP hS dX3_changesAt_16 (Or.inl rfl) (⟨rfl, rfl⟩)

theorem lk_RX5_180 : LkV RX5 180 RX3 yX3_changesAt cX3_changesAt 2 (some .boolean) 1 := ⟨⟨mw_666, mw_667, mw_668, mw_55, mw_669⟩, by decide +kernel⟩
set_option maxHeartbeats 4000000 in
set_option maxRecDepth 100000 in
theorem c_changeMaps (l : Launch) (E : hE) (ρ : Nat → Nat → Int32) (k x : Nat) (h : hk k = 5) (hx2 : hk x = 2) (h8 : ρ x 8 = 0) (h1 : ρ (x + 1) 1 = 0) : Met l yX5_changeMaps (.code yX5_changeMaps cX5_changeMaps 4 none :: gw_all) (rmk 1 40) (cPre E ρ [.ref (E.2.1 + k), .ref (E.2.1 + x)]) (cV E (fun ρ1 => ρ = ρ1)) 0 0 (hA E) := by
  refine ent (own := RX5) (by decide) rfl (Nat.le_of_ble_eq_true rfl) ?_
  intro p e s m below meth c ls B hr hlk hl hP hS
  have hx := B.1.1
  have hb := B.1.2.1
  have hown := B.1.2.2.2.1
  have hts := B.1.2.2.2.2
  have hl : lv_has ls 4 [(0, .ref (E.2.1 + k)), (1, .ref (E.2.1 + x))] := hl
  refine lv_aload_n hx hb dX5_changeMaps_0 rfl (lv_at hl 1 rfl) ?_
  refine get2 B hP hx2 0 (by decide) mw_283 rfl dX5_changeMaps_1 ?_
  refine get3 B hP (lay2 hx2).1 0 (by decide) mw_94 rfl dX5_changeMaps_4 ?_
  refine lv_istore_n (lv' := [(2, .int (ρ (x + 1) 0)), (0, .ref (E.2.1 + k)), (1, .ref (E.2.1 + x))]) hx hb dX5_changeMaps_7 rfl hl (by decide) rfl (fun ls hl => ?_)
  refine lv_aload_n hx hb dX5_changeMaps_8 rfl (lv_at hl 2 rfl) ?_
  refine get2 B hP hx2 0 (by decide) mw_283 rfl dX5_changeMaps_9 ?_
  refine lv_aload_n hx hb dX5_changeMaps_12 rfl (lv_at hl 1 rfl) ?_
  refine get5 B hP h 5 (by decide) mw_381 rfl dX5_changeMaps_13 ?_
  refine call_i (cVt (k := (x + 1)) (av := [.int (ρ k 5)]) (rest := []) B hP hS (c_changesAt l E ρ (x + 1) (ρ k 5) (lay2 hx2).1 h1) lk_RX5_180 (hrecv (ci := 3) B hP (hk_lt (c := 3) (lay2 hx2).1 (by decide)) (hcc3 _ _ (lay2 hx2).1) rfl) rfl rfl hl.1 (Nat.le_of_ble_eq_true rfl) ⟨Nat.le_of_ble_eq_true rfl, Nat.le_of_ble_eq_true rfl⟩ ⟨Nat.le_of_ble_eq_true rfl, Nat.le_of_ble_eq_true rfl⟩ dX5_changeMaps_16) hS (fun r1 ρ2 H locs q3 hP hS => ?_)
  obtain ⟨rfl, rfl⟩ := q3
  refine lv_if_eq (tgt := 38) hx hb dX5_changeMaps_19 (by decide) (fun _ => ?_) (fun c4 => absurd c4 (by decide))
  refine lv_iconst (v := 0) hx hb dX5_changeMaps_38 (by decide) ?_
  refine lv_istore_n (lv' := [(3, .int 0), (2, .int (ρ (x + 1) 0)), (0, .ref (E.2.1 + k)), (1, .ref (E.2.1 + x))]) hx hb dX5_changeMaps_39 rfl hl (by decide) rfl (fun ls hl => ?_)
  refine lv_iload_n hx hb dX5_changeMaps_40 rfl (lv_at hl 0 rfl) ?_
  refine lv_aload_n hx hb dX5_changeMaps_41 rfl (lv_at hl 3 rfl) ?_
  refine get2 B hP hx2 8 (by decide) mw_305 (v := .int 0) (show some (Value.int (ρ x 8)) = some (Value.int 0) from congrArg (fun z => some (Value.int z)) h8) dX5_changeMaps_42 ?_
  refine lv_icmp_ge (tgt := 76) hx hb dX5_changeMaps_45 (by decide) (fun _ => ?_) (fun c5 => absurd c5 (by decide))
  exact ret_v B hr hlk hP hS dX5_changeMaps_76 (rfl)

set_option maxHeartbeats 4000000 in
set_option maxRecDepth 100000 in
theorem c_Net_linkAt (l : Launch) (E : hE) (ρ : Nat → Nat → Int32) (x : Nat) (i : Int32) (h : hk x = 2) (hi : i < 0) : Met l yX2_linkAt (.code yX2_linkAt cX2_linkAt 2 (some (.object "HopNet$Link")) :: gw_all) (rmk 0 0) (cPre E ρ [.ref (E.2.1 + x), .int i]) (cQ E (fun r ρ1 => ρ = ρ1 ∧ r = none)) 0 0 (hA E) := by
  refine ent (own := RX2) (by decide) rfl (Nat.le_of_ble_eq_true rfl) ?_
  intro p e s m below meth c ls B hr hlk hl hP hS
  have hx := B.1.1
  have hb := B.1.2.1
  have hown := B.1.2.2.2.1
  have hts := B.1.2.2.2.2
  have hl : lv_has ls 2 [(0, .ref (E.2.1 + x)), (1, .int i)] := hl
  refine lv_iload_n hx hb dX2_linkAt_0 rfl (lv_at hl 1 rfl) ?_
  refine lv_if_lt (tgt := 17) hx hb dX2_linkAt_1 (by decide) (fun _ => ?_) (fun c1 => absurd c1 (fun z => z hi))
  refine lv_null hx hb dX2_linkAt_17 ?_
  refine lv_goto (tgt := 27) hx hb dX2_linkAt_18 (by decide) ?_
  exact ret_q none B hr hlk hP hS dX2_linkAt_27 (⟨rfl, rfl⟩)

set_option maxHeartbeats 4000000 in
set_option maxRecDepth 100000 in
theorem c_beginTurn (l : Launch) (E : hE) (ρ : Nat → Nat → Int32) (k : Nat) (n : Int32) (h : hk k = 5) (hF : FrW ρ k) (hn : n = 0 ∨ n = 1) : Met l yX5_beginTurnOfLinks (.code yX5_beginTurnOfLinks cX5_beginTurnOfLinks 4 none :: gw_all) (rmk 0 0) (cPre E ρ [.ref (E.2.1 + k), .int n]) (cV E (fun ρ1 => ρ = ρ1)) 0 0 (hA E) := by
  refine ent (own := RX5) (by decide) rfl (Nat.le_of_ble_eq_true rfl) ?_
  intro p e s m below meth c ls B hr hlk hl hP hS
  have hx := B.1.1
  have hb := B.1.2.1
  have hown := B.1.2.2.2.1
  have hts := B.1.2.2.2.2
  have hl : lv_has ls 4 [(0, .ref (E.2.1 + k)), (1, .int n)] := hl
  rcases hn with rfl | rfl
  · skip
    refine lv_iconst (v := 0) hx hb dX5_beginTurnOfLinks_0 (by decide) ?_
    refine lv_istore_n (lv' := [(2, .int 0), (0, .ref (E.2.1 + k)), (1, .int 0)]) hx hb dX5_beginTurnOfLinks_1 rfl hl (by decide) rfl (fun ls hl => ?_)
    refine lv_iload_n hx hb dX5_beginTurnOfLinks_2 rfl (lv_at hl 0 rfl) ?_
    refine lv_aload_n hx hb dX5_beginTurnOfLinks_3 rfl (lv_at hl 1 rfl) ?_
    refine get5 B hP h 3 (by decide) mw_377 rfl dX5_beginTurnOfLinks_4 ?_
    refine lv_iload_n hx hb dX5_beginTurnOfLinks_7 rfl (lv_at hl 2 rfl) ?_
    refine aldNn B hP (lay5 h).2.2.2.2.2.2.1 (lay5 h).2.2.2.2.2.2.2.1 rfl (by decide) dX5_beginTurnOfLinks_8 ?_
    refine get2 B hP (lay5 h).2.2.2.2.2.2.2.2.1 8 (by decide) mw_305 (v := .int 0) (show some (Value.int (ρ (k + 5) 8)) = some (Value.int 0) from congrArg (fun z => some (Value.int z)) (show ρ (k + 5) 8 = 0 from hF.1.2.1)) dX5_beginTurnOfLinks_9 ?_
    refine lv_icmp_ge (tgt := 80) hx hb dX5_beginTurnOfLinks_12 (by decide) (fun _ => ?_) (fun c1 => absurd c1 (by decide))
    exact ret_v B hr hlk hP hS dX5_beginTurnOfLinks_80 (rfl)
  · skip
    refine lv_iconst (v := 0) hx hb dX5_beginTurnOfLinks_0 (by decide) ?_
    refine lv_istore_n (lv' := [(2, .int 0), (0, .ref (E.2.1 + k)), (1, .int 1)]) hx hb dX5_beginTurnOfLinks_1 rfl hl (by decide) rfl (fun ls hl => ?_)
    refine lv_iload_n hx hb dX5_beginTurnOfLinks_2 rfl (lv_at hl 0 rfl) ?_
    refine lv_aload_n hx hb dX5_beginTurnOfLinks_3 rfl (lv_at hl 1 rfl) ?_
    refine get5 B hP h 3 (by decide) mw_377 rfl dX5_beginTurnOfLinks_4 ?_
    refine lv_iload_n hx hb dX5_beginTurnOfLinks_7 rfl (lv_at hl 2 rfl) ?_
    refine aldNn B hP (lay5 h).2.2.2.2.2.2.1 (lay5 h).2.2.2.2.2.2.2.1 rfl (by decide) dX5_beginTurnOfLinks_8 ?_
    refine get2 B hP (lay5 h).2.2.2.2.2.2.2.2.2 8 (by decide) mw_305 (v := .int 0) (show some (Value.int (ρ (k + 47) 8)) = some (Value.int 0) from congrArg (fun z => some (Value.int z)) (show ρ (k + 47) 8 = 0 from hF.2.2.1)) dX5_beginTurnOfLinks_9 ?_
    refine lv_icmp_ge (tgt := 80) hx hb dX5_beginTurnOfLinks_12 (by decide) (fun _ => ?_) (fun c2 => absurd c2 (by decide))
    exact ret_v B hr hlk hP hS dX5_beginTurnOfLinks_80 (rfl)

set_option maxHeartbeats 4000000 in
set_option maxRecDepth 100000 in
theorem c_chooseIn (l : Launch) (E : hE) (ρ : Nat → Nat → Int32) (k : Nat) (n : Int32) (h : hk k = 5) (hF : FrW ρ k) (hn : n = 0 ∨ n = 1) : Met l yX5_chooseIn (.code yX5_chooseIn cX5_chooseIn 4 none :: gw_all) (rmk 0 0) (cPre E ρ [.ref (E.2.1 + k), .int n]) (cV E (fun ρ1 => ρ = ρ1)) 0 0 (hA E) := by
  refine ent (own := RX5) (by decide) rfl (Nat.le_of_ble_eq_true rfl) ?_
  intro p e s m below meth c ls B hr hlk hl hP hS
  have hx := B.1.1
  have hb := B.1.2.1
  have hown := B.1.2.2.2.1
  have hts := B.1.2.2.2.2
  have hl : lv_has ls 4 [(0, .ref (E.2.1 + k)), (1, .int n)] := hl
  rcases hn with rfl | rfl
  · skip
    refine lv_aload_n hx hb dX5_chooseIn_0 rfl (lv_at hl 0 rfl) ?_
    refine get5 B hP h 3 (by decide) mw_377 rfl dX5_chooseIn_1 ?_
    refine lv_iload_n hx hb dX5_chooseIn_4 rfl (lv_at hl 1 rfl) ?_
    refine aldNn B hP (lay5 h).2.2.2.2.2.2.1 (lay5 h).2.2.2.2.2.2.2.1 rfl (by decide) dX5_chooseIn_5 ?_
    refine lv_astore_n (lv' := [(2, .ref (E.2.1 + (k + 5))), (0, .ref (E.2.1 + k)), (1, .int 0)]) hx hb dX5_chooseIn_6 rfl hl (by decide) rfl (fun ls hl => ?_)
    refine lv_aload_n hx hb dX5_chooseIn_7 rfl (lv_at hl 0 rfl) ?_
    refine lv_iconst (v := (-1)) hx hb dX5_chooseIn_8 (by decide) ?_
    refine put2 B hP hS (lay5 h).2.2.2.2.2.2.2.2.1 15 (by decide) mw_320 rfl rfl rfl (fs2_15 E (k + 5) _ _) dX5_chooseIn_9 (fun H locs hP hS => ?_)
    rw [up_self ρ (show ρ (k + 5) 15 = (-1) from hF.1.2.2.2.1)] at hP
    refine lv_aload_n hx hb dX5_chooseIn_12 rfl (lv_at hl 0 rfl) ?_
    refine lv_iconst (v := 0) hx hb dX5_chooseIn_13 (by decide) ?_
    refine put2 B hP hS (lay5 h).2.2.2.2.2.2.2.2.1 14 (by decide) mw_317 rfl rfl rfl (fs2_14 E (k + 5) _ _) dX5_chooseIn_14 (fun H locs hP hS => ?_)
    rw [up_self ρ (show ρ (k + 5) 14 = 0 from hF.1.2.2.1)] at hP
    refine lv_aload_n hx hb dX5_chooseIn_17 rfl (lv_at hl 0 rfl) ?_
    refine get2 B hP (lay5 h).2.2.2.2.2.2.2.2.1 5 (by decide) mw_296 (v := .int (-1)) (show some (Value.int (ρ (k + 5) 5)) = some (Value.int (-1)) from congrArg (fun z => some (Value.int z)) (show ρ (k + 5) 5 = (-1) from hF.1.1)) dX5_chooseIn_18 ?_
    refine lv_iconst (v := (-1)) hx hb dX5_chooseIn_21 (by decide) ?_
    refine lv_icmp_eq (tgt := 41) hx hb dX5_chooseIn_22 (by decide) (fun _ => ?_) (fun c1 => absurd c1 (by decide))
    exact ret_v B hr hlk hP hS dX5_chooseIn_41 (rfl)
  · skip
    refine lv_aload_n hx hb dX5_chooseIn_0 rfl (lv_at hl 0 rfl) ?_
    refine get5 B hP h 3 (by decide) mw_377 rfl dX5_chooseIn_1 ?_
    refine lv_iload_n hx hb dX5_chooseIn_4 rfl (lv_at hl 1 rfl) ?_
    refine aldNn B hP (lay5 h).2.2.2.2.2.2.1 (lay5 h).2.2.2.2.2.2.2.1 rfl (by decide) dX5_chooseIn_5 ?_
    refine lv_astore_n (lv' := [(2, .ref (E.2.1 + (k + 47))), (0, .ref (E.2.1 + k)), (1, .int 1)]) hx hb dX5_chooseIn_6 rfl hl (by decide) rfl (fun ls hl => ?_)
    refine lv_aload_n hx hb dX5_chooseIn_7 rfl (lv_at hl 0 rfl) ?_
    refine lv_iconst (v := (-1)) hx hb dX5_chooseIn_8 (by decide) ?_
    refine put2 B hP hS (lay5 h).2.2.2.2.2.2.2.2.2 15 (by decide) mw_320 rfl rfl rfl (fs2_15 E (k + 47) _ _) dX5_chooseIn_9 (fun H locs hP hS => ?_)
    rw [up_self ρ (show ρ (k + 47) 15 = (-1) from hF.2.2.2.2.1)] at hP
    refine lv_aload_n hx hb dX5_chooseIn_12 rfl (lv_at hl 0 rfl) ?_
    refine lv_iconst (v := 0) hx hb dX5_chooseIn_13 (by decide) ?_
    refine put2 B hP hS (lay5 h).2.2.2.2.2.2.2.2.2 14 (by decide) mw_317 rfl rfl rfl (fs2_14 E (k + 47) _ _) dX5_chooseIn_14 (fun H locs hP hS => ?_)
    rw [up_self ρ (show ρ (k + 47) 14 = 0 from hF.2.2.2.1)] at hP
    refine lv_aload_n hx hb dX5_chooseIn_17 rfl (lv_at hl 0 rfl) ?_
    refine get2 B hP (lay5 h).2.2.2.2.2.2.2.2.2 5 (by decide) mw_296 (v := .int (-1)) (show some (Value.int (ρ (k + 47) 5)) = some (Value.int (-1)) from congrArg (fun z => some (Value.int z)) (show ρ (k + 47) 5 = (-1) from hF.2.1)) dX5_chooseIn_18 ?_
    refine lv_iconst (v := (-1)) hx hb dX5_chooseIn_21 (by decide) ?_
    refine lv_icmp_eq (tgt := 41) hx hb dX5_chooseIn_22 (by decide) (fun _ => ?_) (fun c2 => absurd c2 (by decide))
    exact ret_v B hr hlk hP hS dX5_chooseIn_41 (rfl)

theorem lk_RX5_64 : LkV RX5 64 RX2 yX2_linkAt cX2_linkAt 2 (some (.object "HopNet$Link")) 1 := ⟨⟨mw_577, mw_545, mw_546, mw_54, mw_547⟩, by decide +kernel⟩
set_option maxHeartbeats 4000000 in
set_option maxRecDepth 100000 in
theorem c_tunePacket (l : Launch) (E : hE) (ρ : Nat → Nat → Int32) (k : Nat) (n : Int32) (h : hk k = 5) (hF : FrW ρ k) (hn : n = 0 ∨ n = 1) : Met l yX5_tunePacket (.code yX5_tunePacket cX5_tunePacket 5 none :: gw_all) (rmk 1 40) (cPre E ρ [.ref (E.2.1 + k), .int n]) (cV E (fun ρ1 => ρ = ρ1)) 0 0 (hA E) := by
  refine ent (own := RX5) (by decide) rfl (Nat.le_of_ble_eq_true rfl) ?_
  intro p e s m below meth c ls B hr hlk hl hP hS
  have hx := B.1.1
  have hb := B.1.2.1
  have hown := B.1.2.2.2.1
  have hts := B.1.2.2.2.2
  have hl : lv_has ls 5 [(0, .ref (E.2.1 + k)), (1, .int n)] := hl
  rcases hn with rfl | rfl
  · skip
    refine lv_aload_n hx hb dX5_tunePacket_0 rfl (lv_at hl 0 rfl) ?_
    refine get5 B hP h 3 (by decide) mw_377 rfl dX5_tunePacket_1 ?_
    refine lv_iload_n hx hb dX5_tunePacket_4 rfl (lv_at hl 1 rfl) ?_
    refine aldNn B hP (lay5 h).2.2.2.2.2.2.1 (lay5 h).2.2.2.2.2.2.2.1 rfl (by decide) dX5_tunePacket_5 ?_
    refine lv_astore_n (lv' := [(2, .ref (E.2.1 + (k + 5))), (0, .ref (E.2.1 + k)), (1, .int 0)]) hx hb dX5_tunePacket_6 rfl hl (by decide) rfl (fun ls hl => ?_)
    refine lv_aload_n hx hb dX5_tunePacket_7 rfl (lv_at hl 0 rfl) ?_
    refine lv_aload_n hx hb dX5_tunePacket_8 rfl (lv_at hl 0 rfl) ?_
    refine get2 B hP (lay5 h).2.2.2.2.2.2.2.2.1 15 (by decide) mw_320 (v := .int (-1)) (show some (Value.int (ρ (k + 5) 15)) = some (Value.int (-1)) from congrArg (fun z => some (Value.int z)) (show ρ (k + 5) 15 = (-1) from hF.1.2.2.2.1)) dX5_tunePacket_9 ?_
    refine call_q (cVt (k := (k + 5)) (av := [.int (-1)]) (rest := []) B hP hS (c_Net_linkAt l E ρ (k + 5) (-1) (lay5 h).2.2.2.2.2.2.2.2.1 (by decide)) lk_RX5_64 (hrecv (ci := 2) B hP (hk_lt (c := 2) (lay5 h).2.2.2.2.2.2.2.2.1 (by decide)) (hcc2 _ _ (lay5 h).2.2.2.2.2.2.2.2.1) rfl) rfl rfl hl.1 (Nat.le_of_ble_eq_true rfl) ⟨Nat.le_of_ble_eq_true rfl, Nat.le_of_ble_eq_true rfl⟩ ⟨Nat.le_of_ble_eq_true rfl, Nat.le_of_ble_eq_true rfl⟩ dX5_tunePacket_12) hS (fun r1 ρ2 H locs q3 hP hS => ?_)
    obtain ⟨rfl, rfl⟩ := q3
    refine W.eq (g2 := F0 m 15 ls [.null]) rfl ?_
    refine lv_astore_nN (lv' := [(3, .null), (2, .ref (E.2.1 + (k + 5))), (0, .ref (E.2.1 + k)), (1, .int 0)]) hx hb dX5_tunePacket_15 rfl hl (by decide) rfl (fun ls hl => ?_)
    refine lv_aload_n hx hb dX5_tunePacket_16 rfl (lv_at hl 1 rfl) ?_
    refine lv_iconst (v := 0) hx hb dX5_tunePacket_17 (by decide) ?_
    refine put2 B hP hS (lay5 h).2.2.2.2.2.2.2.2.1 19 (by decide) mw_329 rfl rfl rfl (fs2_19 E (k + 5) _ _) dX5_tunePacket_18 (fun H locs hP hS => ?_)
    rw [up_self ρ (show ρ (k + 5) 19 = 0 from hF.1.2.2.2.2.2.2.1)] at hP
    refine lv_aload_n hx hb dX5_tunePacket_21 rfl (lv_at hl 1 rfl) ?_
    refine lv_iconst (v := (-1)) hx hb dX5_tunePacket_22 (by decide) ?_
    refine put2 B hP hS (lay5 h).2.2.2.2.2.2.2.2.1 17 (by decide) mw_325 rfl rfl rfl (fs2_17 E (k + 5) _ _) dX5_tunePacket_23 (fun H locs hP hS => ?_)
    rw [up_self ρ (show ρ (k + 5) 17 = (-1) from hF.1.2.2.2.2.1)] at hP
    refine lv_aload_n hx hb dX5_tunePacket_26 rfl (lv_at hl 1 rfl) ?_
    refine get2 B hP (lay5 h).2.2.2.2.2.2.2.2.1 14 (by decide) mw_317 (v := .int 0) (show some (Value.int (ρ (k + 5) 14)) = some (Value.int 0) from congrArg (fun z => some (Value.int z)) (show ρ (k + 5) 14 = 0 from hF.1.2.2.1)) dX5_tunePacket_27 ?_
    refine lv_if_ne (tgt := 37) hx hb dX5_tunePacket_30 (by decide) (fun c4 => absurd c4 (by decide)) (fun _ => ?_)
    refine lv_aload_nN hx hb dX5_tunePacket_33 rfl (lv_at hl 0 rfl) ?_
    refine lv_ifnullN (tgt := 118) hx hb dX5_tunePacket_34 (by decide) ?_
    refine lv_aload_n hx hb dX5_tunePacket_118 rfl (lv_at hl 1 rfl) ?_
    refine lv_aload_n hx hb dX5_tunePacket_119 rfl (lv_at hl 1 rfl) ?_
    refine get2 B hP (lay5 h).2.2.2.2.2.2.2.2.1 17 (by decide) mw_325 (v := .int (-1)) (show some (Value.int (ρ (k + 5) 17)) = some (Value.int (-1)) from congrArg (fun z => some (Value.int z)) (show ρ (k + 5) 17 = (-1) from hF.1.2.2.2.2.1)) dX5_tunePacket_120 ?_
    refine put2 B hP hS (lay5 h).2.2.2.2.2.2.2.2.1 18 (by decide) mw_327 rfl rfl rfl (fs2_18 E (k + 5) _ _) dX5_tunePacket_123 (fun H locs hP hS => ?_)
    rw [up_self ρ (show ρ (k + 5) 18 = (-1) from hF.1.2.2.2.2.2.1)] at hP
    exact ret_v B hr hlk hP hS dX5_tunePacket_126 (rfl)
  · skip
    refine lv_aload_n hx hb dX5_tunePacket_0 rfl (lv_at hl 0 rfl) ?_
    refine get5 B hP h 3 (by decide) mw_377 rfl dX5_tunePacket_1 ?_
    refine lv_iload_n hx hb dX5_tunePacket_4 rfl (lv_at hl 1 rfl) ?_
    refine aldNn B hP (lay5 h).2.2.2.2.2.2.1 (lay5 h).2.2.2.2.2.2.2.1 rfl (by decide) dX5_tunePacket_5 ?_
    refine lv_astore_n (lv' := [(2, .ref (E.2.1 + (k + 47))), (0, .ref (E.2.1 + k)), (1, .int 1)]) hx hb dX5_tunePacket_6 rfl hl (by decide) rfl (fun ls hl => ?_)
    refine lv_aload_n hx hb dX5_tunePacket_7 rfl (lv_at hl 0 rfl) ?_
    refine lv_aload_n hx hb dX5_tunePacket_8 rfl (lv_at hl 0 rfl) ?_
    refine get2 B hP (lay5 h).2.2.2.2.2.2.2.2.2 15 (by decide) mw_320 (v := .int (-1)) (show some (Value.int (ρ (k + 47) 15)) = some (Value.int (-1)) from congrArg (fun z => some (Value.int z)) (show ρ (k + 47) 15 = (-1) from hF.2.2.2.2.1)) dX5_tunePacket_9 ?_
    refine call_q (cVt (k := (k + 47)) (av := [.int (-1)]) (rest := []) B hP hS (c_Net_linkAt l E ρ (k + 47) (-1) (lay5 h).2.2.2.2.2.2.2.2.2 (by decide)) lk_RX5_64 (hrecv (ci := 2) B hP (hk_lt (c := 2) (lay5 h).2.2.2.2.2.2.2.2.2 (by decide)) (hcc2 _ _ (lay5 h).2.2.2.2.2.2.2.2.2) rfl) rfl rfl hl.1 (Nat.le_of_ble_eq_true rfl) ⟨Nat.le_of_ble_eq_true rfl, Nat.le_of_ble_eq_true rfl⟩ ⟨Nat.le_of_ble_eq_true rfl, Nat.le_of_ble_eq_true rfl⟩ dX5_tunePacket_12) hS (fun r5 ρ6 H locs q7 hP hS => ?_)
    obtain ⟨rfl, rfl⟩ := q7
    refine W.eq (g2 := F0 m 15 ls [.null]) rfl ?_
    refine lv_astore_nN (lv' := [(3, .null), (2, .ref (E.2.1 + (k + 47))), (0, .ref (E.2.1 + k)), (1, .int 1)]) hx hb dX5_tunePacket_15 rfl hl (by decide) rfl (fun ls hl => ?_)
    refine lv_aload_n hx hb dX5_tunePacket_16 rfl (lv_at hl 1 rfl) ?_
    refine lv_iconst (v := 0) hx hb dX5_tunePacket_17 (by decide) ?_
    refine put2 B hP hS (lay5 h).2.2.2.2.2.2.2.2.2 19 (by decide) mw_329 rfl rfl rfl (fs2_19 E (k + 47) _ _) dX5_tunePacket_18 (fun H locs hP hS => ?_)
    rw [up_self ρ (show ρ (k + 47) 19 = 0 from hF.2.2.2.2.2.2.2.1)] at hP
    refine lv_aload_n hx hb dX5_tunePacket_21 rfl (lv_at hl 1 rfl) ?_
    refine lv_iconst (v := (-1)) hx hb dX5_tunePacket_22 (by decide) ?_
    refine put2 B hP hS (lay5 h).2.2.2.2.2.2.2.2.2 17 (by decide) mw_325 rfl rfl rfl (fs2_17 E (k + 47) _ _) dX5_tunePacket_23 (fun H locs hP hS => ?_)
    rw [up_self ρ (show ρ (k + 47) 17 = (-1) from hF.2.2.2.2.2.1)] at hP
    refine lv_aload_n hx hb dX5_tunePacket_26 rfl (lv_at hl 1 rfl) ?_
    refine get2 B hP (lay5 h).2.2.2.2.2.2.2.2.2 14 (by decide) mw_317 (v := .int 0) (show some (Value.int (ρ (k + 47) 14)) = some (Value.int 0) from congrArg (fun z => some (Value.int z)) (show ρ (k + 47) 14 = 0 from hF.2.2.2.1)) dX5_tunePacket_27 ?_
    refine lv_if_ne (tgt := 37) hx hb dX5_tunePacket_30 (by decide) (fun c8 => absurd c8 (by decide)) (fun _ => ?_)
    refine lv_aload_nN hx hb dX5_tunePacket_33 rfl (lv_at hl 0 rfl) ?_
    refine lv_ifnullN (tgt := 118) hx hb dX5_tunePacket_34 (by decide) ?_
    refine lv_aload_n hx hb dX5_tunePacket_118 rfl (lv_at hl 1 rfl) ?_
    refine lv_aload_n hx hb dX5_tunePacket_119 rfl (lv_at hl 1 rfl) ?_
    refine get2 B hP (lay5 h).2.2.2.2.2.2.2.2.2 17 (by decide) mw_325 (v := .int (-1)) (show some (Value.int (ρ (k + 47) 17)) = some (Value.int (-1)) from congrArg (fun z => some (Value.int z)) (show ρ (k + 47) 17 = (-1) from hF.2.2.2.2.2.1)) dX5_tunePacket_120 ?_
    refine put2 B hP hS (lay5 h).2.2.2.2.2.2.2.2.2 18 (by decide) mw_327 rfl rfl rfl (fs2_18 E (k + 47) _ _) dX5_tunePacket_123 (fun H locs hP hS => ?_)
    rw [up_self ρ (show ρ (k + 47) 18 = (-1) from hF.2.2.2.2.2.2.1)] at hP
    exact ret_v B hr hlk hP hS dX5_tunePacket_126 (rfl)

set_option maxHeartbeats 4000000 in
set_option maxRecDepth 100000 in
theorem c_sendPacket (l : Launch) (E : hE) (ρ : Nat → Nat → Int32) (k : Nat) (n : Int32) (h : hk k = 5) (hF : FrW ρ k) (hn : n = 0 ∨ n = 1) : Met l yX5_sendPacket (.code yX5_sendPacket cX5_sendPacket 5 none :: gw_all) (rmk 0 0) (cPre E ρ [.ref (E.2.1 + k), .int n]) (cV E (fun ρ1 => ρ = ρ1)) 0 0 (hA E) := by
  refine ent (own := RX5) (by decide) rfl (Nat.le_of_ble_eq_true rfl) ?_
  intro p e s m below meth c ls B hr hlk hl hP hS
  have hx := B.1.1
  have hb := B.1.2.1
  have hown := B.1.2.2.2.1
  have hts := B.1.2.2.2.2
  have hl : lv_has ls 5 [(0, .ref (E.2.1 + k)), (1, .int n)] := hl
  rcases hn with rfl | rfl
  · skip
    refine lv_aload_n hx hb dX5_sendPacket_0 rfl (lv_at hl 0 rfl) ?_
    refine get5 B hP h 3 (by decide) mw_377 rfl dX5_sendPacket_1 ?_
    refine lv_iload_n hx hb dX5_sendPacket_4 rfl (lv_at hl 1 rfl) ?_
    refine aldNn B hP (lay5 h).2.2.2.2.2.2.1 (lay5 h).2.2.2.2.2.2.2.1 rfl (by decide) dX5_sendPacket_5 ?_
    refine lv_astore_n (lv' := [(2, .ref (E.2.1 + (k + 5))), (0, .ref (E.2.1 + k)), (1, .int 0)]) hx hb dX5_sendPacket_6 rfl hl (by decide) rfl (fun ls hl => ?_)
    refine lv_aload_n hx hb dX5_sendPacket_7 rfl (lv_at hl 0 rfl) ?_
    refine get2 B hP (lay5 h).2.2.2.2.2.2.2.2.1 17 (by decide) mw_325 (v := .int (-1)) (show some (Value.int (ρ (k + 5) 17)) = some (Value.int (-1)) from congrArg (fun z => some (Value.int z)) (show ρ (k + 5) 17 = (-1) from hF.1.2.2.2.2.1)) dX5_sendPacket_8 ?_
    refine lv_iconst (v := (-1)) hx hb dX5_sendPacket_11 (by decide) ?_
    refine lv_icmp_ne (tgt := 16) hx hb dX5_sendPacket_12 (by decide) (fun c1 => absurd c1 (by decide)) (fun _ => ?_)
    exact ret_v B hr hlk hP hS dX5_sendPacket_15 (rfl)
  · skip
    refine lv_aload_n hx hb dX5_sendPacket_0 rfl (lv_at hl 0 rfl) ?_
    refine get5 B hP h 3 (by decide) mw_377 rfl dX5_sendPacket_1 ?_
    refine lv_iload_n hx hb dX5_sendPacket_4 rfl (lv_at hl 1 rfl) ?_
    refine aldNn B hP (lay5 h).2.2.2.2.2.2.1 (lay5 h).2.2.2.2.2.2.2.1 rfl (by decide) dX5_sendPacket_5 ?_
    refine lv_astore_n (lv' := [(2, .ref (E.2.1 + (k + 47))), (0, .ref (E.2.1 + k)), (1, .int 1)]) hx hb dX5_sendPacket_6 rfl hl (by decide) rfl (fun ls hl => ?_)
    refine lv_aload_n hx hb dX5_sendPacket_7 rfl (lv_at hl 0 rfl) ?_
    refine get2 B hP (lay5 h).2.2.2.2.2.2.2.2.2 17 (by decide) mw_325 (v := .int (-1)) (show some (Value.int (ρ (k + 47) 17)) = some (Value.int (-1)) from congrArg (fun z => some (Value.int z)) (show ρ (k + 47) 17 = (-1) from hF.2.2.2.2.2.1)) dX5_sendPacket_8 ?_
    refine lv_iconst (v := (-1)) hx hb dX5_sendPacket_11 (by decide) ?_
    refine lv_icmp_ne (tgt := 16) hx hb dX5_sendPacket_12 (by decide) (fun c2 => absurd c2 (by decide)) (fun _ => ?_)
    exact ret_v B hr hlk hP hS dX5_sendPacket_15 (rfl)

set_option maxHeartbeats 4000000 in
set_option maxRecDepth 100000 in
theorem c_hearPacket (l : Launch) (E : hE) (ρ : Nat → Nat → Int32) (k : Nat) (n : Int32) (h : hk k = 5) (hF : FrW ρ k) (hn : n = 0 ∨ n = 1) : Met l yX5_hearPacket (.code yX5_hearPacket cX5_hearPacket 4 none :: gw_all) (rmk 1 40) (cPre E ρ [.ref (E.2.1 + k), .int n]) (cV E (fun ρ1 => ρ = ρ1)) 0 0 (hA E) := by
  refine ent (own := RX5) (by decide) rfl (Nat.le_of_ble_eq_true rfl) ?_
  intro p e s m below meth c ls B hr hlk hl hP hS
  have hx := B.1.1
  have hb := B.1.2.1
  have hown := B.1.2.2.2.1
  have hts := B.1.2.2.2.2
  have hl : lv_has ls 4 [(0, .ref (E.2.1 + k)), (1, .int n)] := hl
  rcases hn with rfl | rfl
  · skip
    refine lv_aload_n hx hb dX5_hearPacket_0 rfl (lv_at hl 0 rfl) ?_
    refine get5 B hP h 3 (by decide) mw_377 rfl dX5_hearPacket_1 ?_
    refine lv_iload_n hx hb dX5_hearPacket_4 rfl (lv_at hl 1 rfl) ?_
    refine aldNn B hP (lay5 h).2.2.2.2.2.2.1 (lay5 h).2.2.2.2.2.2.2.1 rfl (by decide) dX5_hearPacket_5 ?_
    refine lv_astore_n (lv' := [(2, .ref (E.2.1 + (k + 5))), (0, .ref (E.2.1 + k)), (1, .int 0)]) hx hb dX5_hearPacket_6 rfl hl (by decide) rfl (fun ls hl => ?_)
    refine lv_aload_n hx hb dX5_hearPacket_7 rfl (lv_at hl 0 rfl) ?_
    refine get2 B hP (lay5 h).2.2.2.2.2.2.2.2.1 14 (by decide) mw_317 (v := .int 0) (show some (Value.int (ρ (k + 5) 14)) = some (Value.int 0) from congrArg (fun z => some (Value.int z)) (show ρ (k + 5) 14 = 0 from hF.1.2.2.1)) dX5_hearPacket_8 ?_
    refine lv_if_eq (tgt := 23) hx hb dX5_hearPacket_11 (by decide) (fun _ => ?_) (fun c1 => absurd c1 (by decide))
    refine lv_aload_n hx hb dX5_hearPacket_23 rfl (lv_at hl 0 rfl) ?_
    refine lv_aload_n hx hb dX5_hearPacket_24 rfl (lv_at hl 0 rfl) ?_
    refine get2 B hP (lay5 h).2.2.2.2.2.2.2.2.1 15 (by decide) mw_320 (v := .int (-1)) (show some (Value.int (ρ (k + 5) 15)) = some (Value.int (-1)) from congrArg (fun z => some (Value.int z)) (show ρ (k + 5) 15 = (-1) from hF.1.2.2.2.1)) dX5_hearPacket_25 ?_
    refine call_q (cVt (k := (k + 5)) (av := [.int (-1)]) (rest := []) B hP hS (c_Net_linkAt l E ρ (k + 5) (-1) (lay5 h).2.2.2.2.2.2.2.2.1 (by decide)) lk_RX5_64 (hrecv (ci := 2) B hP (hk_lt (c := 2) (lay5 h).2.2.2.2.2.2.2.2.1 (by decide)) (hcc2 _ _ (lay5 h).2.2.2.2.2.2.2.2.1) rfl) rfl rfl hl.1 (Nat.le_of_ble_eq_true rfl) ⟨Nat.le_of_ble_eq_true rfl, Nat.le_of_ble_eq_true rfl⟩ ⟨Nat.le_of_ble_eq_true rfl, Nat.le_of_ble_eq_true rfl⟩ dX5_hearPacket_28) hS (fun r2 ρ3 H locs q4 hP hS => ?_)
    obtain ⟨rfl, rfl⟩ := q4
    refine W.eq (g2 := F0 m 31 ls [.null]) rfl ?_
    refine lv_astore_nN (lv' := [(3, .null), (2, .ref (E.2.1 + (k + 5))), (0, .ref (E.2.1 + k)), (1, .int 0)]) hx hb dX5_hearPacket_31 rfl hl (by decide) rfl (fun ls hl => ?_)
    refine lv_aload_nN hx hb dX5_hearPacket_32 rfl (lv_at hl 0 rfl) ?_
    refine lv_ifnullN (tgt := 43) hx hb dX5_hearPacket_33 (by decide) ?_
    exact ret_v B hr hlk hP hS dX5_hearPacket_43 (rfl)
  · skip
    refine lv_aload_n hx hb dX5_hearPacket_0 rfl (lv_at hl 0 rfl) ?_
    refine get5 B hP h 3 (by decide) mw_377 rfl dX5_hearPacket_1 ?_
    refine lv_iload_n hx hb dX5_hearPacket_4 rfl (lv_at hl 1 rfl) ?_
    refine aldNn B hP (lay5 h).2.2.2.2.2.2.1 (lay5 h).2.2.2.2.2.2.2.1 rfl (by decide) dX5_hearPacket_5 ?_
    refine lv_astore_n (lv' := [(2, .ref (E.2.1 + (k + 47))), (0, .ref (E.2.1 + k)), (1, .int 1)]) hx hb dX5_hearPacket_6 rfl hl (by decide) rfl (fun ls hl => ?_)
    refine lv_aload_n hx hb dX5_hearPacket_7 rfl (lv_at hl 0 rfl) ?_
    refine get2 B hP (lay5 h).2.2.2.2.2.2.2.2.2 14 (by decide) mw_317 (v := .int 0) (show some (Value.int (ρ (k + 47) 14)) = some (Value.int 0) from congrArg (fun z => some (Value.int z)) (show ρ (k + 47) 14 = 0 from hF.2.2.2.1)) dX5_hearPacket_8 ?_
    refine lv_if_eq (tgt := 23) hx hb dX5_hearPacket_11 (by decide) (fun _ => ?_) (fun c5 => absurd c5 (by decide))
    refine lv_aload_n hx hb dX5_hearPacket_23 rfl (lv_at hl 0 rfl) ?_
    refine lv_aload_n hx hb dX5_hearPacket_24 rfl (lv_at hl 0 rfl) ?_
    refine get2 B hP (lay5 h).2.2.2.2.2.2.2.2.2 15 (by decide) mw_320 (v := .int (-1)) (show some (Value.int (ρ (k + 47) 15)) = some (Value.int (-1)) from congrArg (fun z => some (Value.int z)) (show ρ (k + 47) 15 = (-1) from hF.2.2.2.2.1)) dX5_hearPacket_25 ?_
    refine call_q (cVt (k := (k + 47)) (av := [.int (-1)]) (rest := []) B hP hS (c_Net_linkAt l E ρ (k + 47) (-1) (lay5 h).2.2.2.2.2.2.2.2.2 (by decide)) lk_RX5_64 (hrecv (ci := 2) B hP (hk_lt (c := 2) (lay5 h).2.2.2.2.2.2.2.2.2 (by decide)) (hcc2 _ _ (lay5 h).2.2.2.2.2.2.2.2.2) rfl) rfl rfl hl.1 (Nat.le_of_ble_eq_true rfl) ⟨Nat.le_of_ble_eq_true rfl, Nat.le_of_ble_eq_true rfl⟩ ⟨Nat.le_of_ble_eq_true rfl, Nat.le_of_ble_eq_true rfl⟩ dX5_hearPacket_28) hS (fun r6 ρ7 H locs q8 hP hS => ?_)
    obtain ⟨rfl, rfl⟩ := q8
    refine W.eq (g2 := F0 m 31 ls [.null]) rfl ?_
    refine lv_astore_nN (lv' := [(3, .null), (2, .ref (E.2.1 + (k + 47))), (0, .ref (E.2.1 + k)), (1, .int 1)]) hx hb dX5_hearPacket_31 rfl hl (by decide) rfl (fun ls hl => ?_)
    refine lv_aload_nN hx hb dX5_hearPacket_32 rfl (lv_at hl 0 rfl) ?_
    refine lv_ifnullN (tgt := 43) hx hb dX5_hearPacket_33 (by decide) ?_
    exact ret_v B hr hlk hP hS dX5_hearPacket_43 (rfl)

set_option maxHeartbeats 4000000 in
set_option maxRecDepth 100000 in
theorem c_tuneAnswer (l : Launch) (E : hE) (ρ : Nat → Nat → Int32) (k : Nat) (n : Int32) (h : hk k = 5) (hF : FrW ρ k) (hn : n = 0 ∨ n = 1) : Met l yX5_tuneAnswer (.code yX5_tuneAnswer cX5_tuneAnswer 4 none :: gw_all) (rmk 1 40) (cPre E ρ [.ref (E.2.1 + k), .int n]) (cV E (fun ρ1 => ρ = ρ1)) 0 0 (hA E) := by
  refine ent (own := RX5) (by decide) rfl (Nat.le_of_ble_eq_true rfl) ?_
  intro p e s m below meth c ls B hr hlk hl hP hS
  have hx := B.1.1
  have hb := B.1.2.1
  have hown := B.1.2.2.2.1
  have hts := B.1.2.2.2.2
  have hl : lv_has ls 4 [(0, .ref (E.2.1 + k)), (1, .int n)] := hl
  rcases hn with rfl | rfl
  · skip
    refine lv_aload_n hx hb dX5_tuneAnswer_0 rfl (lv_at hl 0 rfl) ?_
    refine get5 B hP h 3 (by decide) mw_377 rfl dX5_tuneAnswer_1 ?_
    refine lv_iload_n hx hb dX5_tuneAnswer_4 rfl (lv_at hl 1 rfl) ?_
    refine aldNn B hP (lay5 h).2.2.2.2.2.2.1 (lay5 h).2.2.2.2.2.2.2.1 rfl (by decide) dX5_tuneAnswer_5 ?_
    refine lv_astore_n (lv' := [(2, .ref (E.2.1 + (k + 5))), (0, .ref (E.2.1 + k)), (1, .int 0)]) hx hb dX5_tuneAnswer_6 rfl hl (by decide) rfl (fun ls hl => ?_)
    refine lv_aload_n hx hb dX5_tuneAnswer_7 rfl (lv_at hl 0 rfl) ?_
    refine lv_aload_n hx hb dX5_tuneAnswer_8 rfl (lv_at hl 0 rfl) ?_
    refine get2 B hP (lay5 h).2.2.2.2.2.2.2.2.1 15 (by decide) mw_320 (v := .int (-1)) (show some (Value.int (ρ (k + 5) 15)) = some (Value.int (-1)) from congrArg (fun z => some (Value.int z)) (show ρ (k + 5) 15 = (-1) from hF.1.2.2.2.1)) dX5_tuneAnswer_9 ?_
    refine call_q (cVt (k := (k + 5)) (av := [.int (-1)]) (rest := []) B hP hS (c_Net_linkAt l E ρ (k + 5) (-1) (lay5 h).2.2.2.2.2.2.2.2.1 (by decide)) lk_RX5_64 (hrecv (ci := 2) B hP (hk_lt (c := 2) (lay5 h).2.2.2.2.2.2.2.2.1 (by decide)) (hcc2 _ _ (lay5 h).2.2.2.2.2.2.2.2.1) rfl) rfl rfl hl.1 (Nat.le_of_ble_eq_true rfl) ⟨Nat.le_of_ble_eq_true rfl, Nat.le_of_ble_eq_true rfl⟩ ⟨Nat.le_of_ble_eq_true rfl, Nat.le_of_ble_eq_true rfl⟩ dX5_tuneAnswer_12) hS (fun r1 ρ2 H locs q3 hP hS => ?_)
    obtain ⟨rfl, rfl⟩ := q3
    refine W.eq (g2 := F0 m 15 ls [.null]) rfl ?_
    refine lv_astore_nN (lv' := [(3, .null), (2, .ref (E.2.1 + (k + 5))), (0, .ref (E.2.1 + k)), (1, .int 0)]) hx hb dX5_tuneAnswer_15 rfl hl (by decide) rfl (fun ls hl => ?_)
    refine lv_aload_n hx hb dX5_tuneAnswer_16 rfl (lv_at hl 1 rfl) ?_
    refine lv_iconst (v := (-1)) hx hb dX5_tuneAnswer_17 (by decide) ?_
    refine put2 B hP hS (lay5 h).2.2.2.2.2.2.2.2.1 17 (by decide) mw_325 rfl rfl rfl (fs2_17 E (k + 5) _ _) dX5_tuneAnswer_18 (fun H locs hP hS => ?_)
    rw [up_self ρ (show ρ (k + 5) 17 = (-1) from hF.1.2.2.2.2.1)] at hP
    refine lv_aload_nN hx hb dX5_tuneAnswer_21 rfl (lv_at hl 0 rfl) ?_
    refine lv_ifnullN (tgt := 65) hx hb dX5_tuneAnswer_22 (by decide) ?_
    exact ret_v B hr hlk hP hS dX5_tuneAnswer_65 (rfl)
  · skip
    refine lv_aload_n hx hb dX5_tuneAnswer_0 rfl (lv_at hl 0 rfl) ?_
    refine get5 B hP h 3 (by decide) mw_377 rfl dX5_tuneAnswer_1 ?_
    refine lv_iload_n hx hb dX5_tuneAnswer_4 rfl (lv_at hl 1 rfl) ?_
    refine aldNn B hP (lay5 h).2.2.2.2.2.2.1 (lay5 h).2.2.2.2.2.2.2.1 rfl (by decide) dX5_tuneAnswer_5 ?_
    refine lv_astore_n (lv' := [(2, .ref (E.2.1 + (k + 47))), (0, .ref (E.2.1 + k)), (1, .int 1)]) hx hb dX5_tuneAnswer_6 rfl hl (by decide) rfl (fun ls hl => ?_)
    refine lv_aload_n hx hb dX5_tuneAnswer_7 rfl (lv_at hl 0 rfl) ?_
    refine lv_aload_n hx hb dX5_tuneAnswer_8 rfl (lv_at hl 0 rfl) ?_
    refine get2 B hP (lay5 h).2.2.2.2.2.2.2.2.2 15 (by decide) mw_320 (v := .int (-1)) (show some (Value.int (ρ (k + 47) 15)) = some (Value.int (-1)) from congrArg (fun z => some (Value.int z)) (show ρ (k + 47) 15 = (-1) from hF.2.2.2.2.1)) dX5_tuneAnswer_9 ?_
    refine call_q (cVt (k := (k + 47)) (av := [.int (-1)]) (rest := []) B hP hS (c_Net_linkAt l E ρ (k + 47) (-1) (lay5 h).2.2.2.2.2.2.2.2.2 (by decide)) lk_RX5_64 (hrecv (ci := 2) B hP (hk_lt (c := 2) (lay5 h).2.2.2.2.2.2.2.2.2 (by decide)) (hcc2 _ _ (lay5 h).2.2.2.2.2.2.2.2.2) rfl) rfl rfl hl.1 (Nat.le_of_ble_eq_true rfl) ⟨Nat.le_of_ble_eq_true rfl, Nat.le_of_ble_eq_true rfl⟩ ⟨Nat.le_of_ble_eq_true rfl, Nat.le_of_ble_eq_true rfl⟩ dX5_tuneAnswer_12) hS (fun r4 ρ5 H locs q6 hP hS => ?_)
    obtain ⟨rfl, rfl⟩ := q6
    refine W.eq (g2 := F0 m 15 ls [.null]) rfl ?_
    refine lv_astore_nN (lv' := [(3, .null), (2, .ref (E.2.1 + (k + 47))), (0, .ref (E.2.1 + k)), (1, .int 1)]) hx hb dX5_tuneAnswer_15 rfl hl (by decide) rfl (fun ls hl => ?_)
    refine lv_aload_n hx hb dX5_tuneAnswer_16 rfl (lv_at hl 1 rfl) ?_
    refine lv_iconst (v := (-1)) hx hb dX5_tuneAnswer_17 (by decide) ?_
    refine put2 B hP hS (lay5 h).2.2.2.2.2.2.2.2.2 17 (by decide) mw_325 rfl rfl rfl (fs2_17 E (k + 47) _ _) dX5_tuneAnswer_18 (fun H locs hP hS => ?_)
    rw [up_self ρ (show ρ (k + 47) 17 = (-1) from hF.2.2.2.2.2.1)] at hP
    refine lv_aload_nN hx hb dX5_tuneAnswer_21 rfl (lv_at hl 0 rfl) ?_
    refine lv_ifnullN (tgt := 65) hx hb dX5_tuneAnswer_22 (by decide) ?_
    exact ret_v B hr hlk hP hS dX5_tuneAnswer_65 (rfl)

set_option maxHeartbeats 4000000 in
set_option maxRecDepth 100000 in
theorem c_sendAnswer (l : Launch) (E : hE) (ρ : Nat → Nat → Int32) (k : Nat) (n : Int32) (h : hk k = 5) (hF : FrW ρ k) (hn : n = 0 ∨ n = 1) : Met l yX5_sendAnswer (.code yX5_sendAnswer cX5_sendAnswer 5 none :: gw_all) (rmk 1 40) (cPre E ρ [.ref (E.2.1 + k), .int n]) (cV E (fun ρ1 => ρ = ρ1)) 0 0 (hA E) := by
  refine ent (own := RX5) (by decide) rfl (Nat.le_of_ble_eq_true rfl) ?_
  intro p e s m below meth c ls B hr hlk hl hP hS
  have hx := B.1.1
  have hb := B.1.2.1
  have hown := B.1.2.2.2.1
  have hts := B.1.2.2.2.2
  have hl : lv_has ls 5 [(0, .ref (E.2.1 + k)), (1, .int n)] := hl
  rcases hn with rfl | rfl
  · skip
    refine lv_aload_n hx hb dX5_sendAnswer_0 rfl (lv_at hl 0 rfl) ?_
    refine get5 B hP h 3 (by decide) mw_377 rfl dX5_sendAnswer_1 ?_
    refine lv_iload_n hx hb dX5_sendAnswer_4 rfl (lv_at hl 1 rfl) ?_
    refine aldNn B hP (lay5 h).2.2.2.2.2.2.1 (lay5 h).2.2.2.2.2.2.2.1 rfl (by decide) dX5_sendAnswer_5 ?_
    refine lv_astore_n (lv' := [(2, .ref (E.2.1 + (k + 5))), (0, .ref (E.2.1 + k)), (1, .int 0)]) hx hb dX5_sendAnswer_6 rfl hl (by decide) rfl (fun ls hl => ?_)
    refine lv_aload_n hx hb dX5_sendAnswer_7 rfl (lv_at hl 0 rfl) ?_
    refine lv_aload_n hx hb dX5_sendAnswer_8 rfl (lv_at hl 0 rfl) ?_
    refine get2 B hP (lay5 h).2.2.2.2.2.2.2.2.1 15 (by decide) mw_320 (v := .int (-1)) (show some (Value.int (ρ (k + 5) 15)) = some (Value.int (-1)) from congrArg (fun z => some (Value.int z)) (show ρ (k + 5) 15 = (-1) from hF.1.2.2.2.1)) dX5_sendAnswer_9 ?_
    refine call_q (cVt (k := (k + 5)) (av := [.int (-1)]) (rest := []) B hP hS (c_Net_linkAt l E ρ (k + 5) (-1) (lay5 h).2.2.2.2.2.2.2.2.1 (by decide)) lk_RX5_64 (hrecv (ci := 2) B hP (hk_lt (c := 2) (lay5 h).2.2.2.2.2.2.2.2.1 (by decide)) (hcc2 _ _ (lay5 h).2.2.2.2.2.2.2.2.1) rfl) rfl rfl hl.1 (Nat.le_of_ble_eq_true rfl) ⟨Nat.le_of_ble_eq_true rfl, Nat.le_of_ble_eq_true rfl⟩ ⟨Nat.le_of_ble_eq_true rfl, Nat.le_of_ble_eq_true rfl⟩ dX5_sendAnswer_12) hS (fun r1 ρ2 H locs q3 hP hS => ?_)
    obtain ⟨rfl, rfl⟩ := q3
    refine W.eq (g2 := F0 m 15 ls [.null]) rfl ?_
    refine lv_astore_nN (lv' := [(3, .null), (2, .ref (E.2.1 + (k + 5))), (0, .ref (E.2.1 + k)), (1, .int 0)]) hx hb dX5_sendAnswer_15 rfl hl (by decide) rfl (fun ls hl => ?_)
    refine lv_aload_nN hx hb dX5_sendAnswer_16 rfl (lv_at hl 0 rfl) ?_
    refine lv_ifnullN (tgt := 28) hx hb dX5_sendAnswer_17 (by decide) ?_
    exact ret_v B hr hlk hP hS dX5_sendAnswer_28 (rfl)
  · skip
    refine lv_aload_n hx hb dX5_sendAnswer_0 rfl (lv_at hl 0 rfl) ?_
    refine get5 B hP h 3 (by decide) mw_377 rfl dX5_sendAnswer_1 ?_
    refine lv_iload_n hx hb dX5_sendAnswer_4 rfl (lv_at hl 1 rfl) ?_
    refine aldNn B hP (lay5 h).2.2.2.2.2.2.1 (lay5 h).2.2.2.2.2.2.2.1 rfl (by decide) dX5_sendAnswer_5 ?_
    refine lv_astore_n (lv' := [(2, .ref (E.2.1 + (k + 47))), (0, .ref (E.2.1 + k)), (1, .int 1)]) hx hb dX5_sendAnswer_6 rfl hl (by decide) rfl (fun ls hl => ?_)
    refine lv_aload_n hx hb dX5_sendAnswer_7 rfl (lv_at hl 0 rfl) ?_
    refine lv_aload_n hx hb dX5_sendAnswer_8 rfl (lv_at hl 0 rfl) ?_
    refine get2 B hP (lay5 h).2.2.2.2.2.2.2.2.2 15 (by decide) mw_320 (v := .int (-1)) (show some (Value.int (ρ (k + 47) 15)) = some (Value.int (-1)) from congrArg (fun z => some (Value.int z)) (show ρ (k + 47) 15 = (-1) from hF.2.2.2.2.1)) dX5_sendAnswer_9 ?_
    refine call_q (cVt (k := (k + 47)) (av := [.int (-1)]) (rest := []) B hP hS (c_Net_linkAt l E ρ (k + 47) (-1) (lay5 h).2.2.2.2.2.2.2.2.2 (by decide)) lk_RX5_64 (hrecv (ci := 2) B hP (hk_lt (c := 2) (lay5 h).2.2.2.2.2.2.2.2.2 (by decide)) (hcc2 _ _ (lay5 h).2.2.2.2.2.2.2.2.2) rfl) rfl rfl hl.1 (Nat.le_of_ble_eq_true rfl) ⟨Nat.le_of_ble_eq_true rfl, Nat.le_of_ble_eq_true rfl⟩ ⟨Nat.le_of_ble_eq_true rfl, Nat.le_of_ble_eq_true rfl⟩ dX5_sendAnswer_12) hS (fun r4 ρ5 H locs q6 hP hS => ?_)
    obtain ⟨rfl, rfl⟩ := q6
    refine W.eq (g2 := F0 m 15 ls [.null]) rfl ?_
    refine lv_astore_nN (lv' := [(3, .null), (2, .ref (E.2.1 + (k + 47))), (0, .ref (E.2.1 + k)), (1, .int 1)]) hx hb dX5_sendAnswer_15 rfl hl (by decide) rfl (fun ls hl => ?_)
    refine lv_aload_nN hx hb dX5_sendAnswer_16 rfl (lv_at hl 0 rfl) ?_
    refine lv_ifnullN (tgt := 28) hx hb dX5_sendAnswer_17 (by decide) ?_
    exact ret_v B hr hlk hP hS dX5_sendAnswer_28 (rfl)

set_option maxHeartbeats 4000000 in
set_option maxRecDepth 100000 in
theorem c_endTurn (l : Launch) (E : hE) (ρ : Nat → Nat → Int32) (k x : Nat) (h : hk k = 5) (hx2 : hk x = 2) (h8 : ρ x 8 = 0) : Met l yX5_endTurnOfLinks (.code yX5_endTurnOfLinks cX5_endTurnOfLinks 3 none :: gw_all) (rmk 0 0) (cPre E ρ [.ref (E.2.1 + k), .ref (E.2.1 + x)]) (cV E (fun ρ1 => ρ = ρ1)) 0 0 (hA E) := by
  refine ent (own := RX5) (by decide) rfl (Nat.le_of_ble_eq_true rfl) ?_
  intro p e s m below meth c ls B hr hlk hl hP hS
  have hx := B.1.1
  have hb := B.1.2.1
  have hown := B.1.2.2.2.1
  have hts := B.1.2.2.2.2
  have hl : lv_has ls 3 [(0, .ref (E.2.1 + k)), (1, .ref (E.2.1 + x))] := hl
  refine lv_iconst (v := 0) hx hb dX5_endTurnOfLinks_0 (by decide) ?_
  refine lv_istore_n (lv' := [(2, .int 0), (0, .ref (E.2.1 + k)), (1, .ref (E.2.1 + x))]) hx hb dX5_endTurnOfLinks_1 rfl hl (by decide) rfl (fun ls hl => ?_)
  refine lv_iload_n hx hb dX5_endTurnOfLinks_2 rfl (lv_at hl 0 rfl) ?_
  refine lv_aload_n hx hb dX5_endTurnOfLinks_3 rfl (lv_at hl 2 rfl) ?_
  refine get2 B hP hx2 8 (by decide) mw_305 (v := .int 0) (show some (Value.int (ρ x 8)) = some (Value.int 0) from congrArg (fun z => some (Value.int z)) h8) dX5_endTurnOfLinks_4 ?_
  refine lv_icmp_ge (tgt := 33) hx hb dX5_endTurnOfLinks_7 (by decide) (fun _ => ?_) (fun c1 => absurd c1 (by decide))
  exact ret_v B hr hlk hP hS dX5_endTurnOfLinks_33 (rfl)

theorem lk_RX5_152 : LkV RX5 152 RX5 yX5_changeMaps cX5_changeMaps 4 none 1 := ⟨⟨mw_662, mw_663, mw_664, mw_53, mw_665⟩, by decide +kernel⟩
theorem lk_RX5_155 : LkV RX5 155 RX5 yX5_beginTurnOfLinks cX5_beginTurnOfLinks 4 none 1 := ⟨⟨mw_674, mw_675, mw_676, mw_53, mw_677⟩, by decide +kernel⟩
theorem lk_RX5_159 : LkV RX5 159 RX5 yX5_chooseIn cX5_chooseIn 4 none 1 := ⟨⟨mw_699, mw_700, mw_701, mw_53, mw_702⟩, by decide +kernel⟩
theorem lk_RX5_162 : LkV RX5 162 RX5 yX5_tunePacket cX5_tunePacket 5 none 1 := ⟨⟨mw_715, mw_716, mw_717, mw_53, mw_718⟩, by decide +kernel⟩
theorem lk_RX5_165 : LkV RX5 165 RX5 yX5_sendPacket cX5_sendPacket 5 none 1 := ⟨⟨mw_739, mw_740, mw_741, mw_53, mw_742⟩, by decide +kernel⟩
theorem lk_RX5_168 : LkV RX5 168 RX5 yX5_hearPacket cX5_hearPacket 4 none 1 := ⟨⟨mw_760, mw_761, mw_762, mw_53, mw_763⟩, by decide +kernel⟩
theorem lk_RX5_171 : LkV RX5 171 RX5 yX5_tuneAnswer cX5_tuneAnswer 4 none 1 := ⟨⟨mw_805, mw_806, mw_807, mw_53, mw_808⟩, by decide +kernel⟩
theorem lk_RX5_174 : LkV RX5 174 RX5 yX5_sendAnswer cX5_sendAnswer 5 none 1 := ⟨⟨mw_809, mw_810, mw_811, mw_53, mw_812⟩, by decide +kernel⟩
theorem lk_RX5_177 : LkV RX5 177 RX5 yX5_endTurnOfLinks cX5_endTurnOfLinks 3 none 1 := ⟨⟨mw_825, mw_826, mw_827, mw_53, mw_828⟩, by decide +kernel⟩
set_option maxHeartbeats 4000000 in
set_option maxRecDepth 100000 in
theorem c_goOneTurn (l : Launch) (E : hE) (ρ : Nat → Nat → Int32) (k : Nat) (h : hk k = 5) (hF : FrW ρ k) : Met l yX5_goOneTurn (.code yX5_goOneTurn cX5_goOneTurn 2 none :: gw_all) (rmk 2 80) (cPre E ρ [.ref (E.2.1 + k)]) (cV E (fun ρ1 => ρ1 = up ρ k 5 (ρ k 5 + 2))) 0 0 (hA E) := by
  refine ent (own := RX5) (by decide) rfl (Nat.le_of_ble_eq_true rfl) ?_
  intro p e s m below meth c ls B hr hlk hl hP hS
  have hx := B.1.1
  have hb := B.1.2.1
  have hown := B.1.2.2.2.1
  have hts := B.1.2.2.2.2
  have hl : lv_has ls 2 [(0, .ref (E.2.1 + k))] := hl
  refine lv_iconst (v := 0) hx hb dX5_goOneTurn_0 (by decide) ?_
  refine lv_istore_n (lv' := [(1, .int 0), (0, .ref (E.2.1 + k))]) hx hb dX5_goOneTurn_1 rfl hl (by decide) rfl (fun ls hl => ?_)
  refine lv_iload_n hx hb dX5_goOneTurn_2 rfl (lv_at hl 0 rfl) ?_
  refine lv_iconst (v := 2) hx hb dX5_goOneTurn_3 (by decide) ?_
  refine lv_icmp_ge (tgt := 28) hx hb dX5_goOneTurn_4 (by decide) (fun c1 => absurd c1 (by decide)) (fun _ => ?_)
  refine lv_aload_n hx hb dX5_goOneTurn_7 rfl (lv_at hl 1 rfl) ?_
  refine lv_aload_n hx hb dX5_goOneTurn_8 rfl (lv_at hl 1 rfl) ?_
  refine get5 B hP h 3 (by decide) mw_377 rfl dX5_goOneTurn_9 ?_
  refine lv_iload_n hx hb dX5_goOneTurn_12 rfl (lv_at hl 0 rfl) ?_
  refine aldNn B hP (lay5 h).2.2.2.2.2.2.1 (lay5 h).2.2.2.2.2.2.2.1 rfl (by decide) dX5_goOneTurn_13 ?_
  refine call_v (cVt (k := k) (av := [.ref (E.2.1 + (k + 5))]) (rest := []) B hP hS (c_changeMaps l E ρ k (k + 5) h (lay5 h).2.2.2.2.2.2.2.2.1 (show ρ (k + 5) 8 = 0 from hF.1.2.1) (show ρ (k + 6) 1 = 0 from hF.1.2.2.2.2.2.2.2)) lk_RX5_152 (hrecv (ci := 5) B hP (hk_lt (c := 5) h (by decide)) (hcc5 _ _ h) rfl) rfl rfl hl.1 (Nat.le_of_ble_eq_true rfl) ⟨Nat.le_of_ble_eq_true rfl, Nat.le_of_ble_eq_true rfl⟩ ⟨Nat.le_of_ble_eq_true rfl, Nat.le_of_ble_eq_true rfl⟩ dX5_goOneTurn_14) hS (fun ρ3 H locs q4 hP hS => ?_)
  obtain rfl := q4
  refine lv_aload_n hx hb dX5_goOneTurn_17 rfl (lv_at hl 1 rfl) ?_
  refine lv_iload_n hx hb dX5_goOneTurn_18 rfl (lv_at hl 0 rfl) ?_
  refine call_v (cVt (k := k) (av := [.int 0]) (rest := []) B hP hS (c_beginTurn l E ρ k 0 h hF (Or.inl rfl)) lk_RX5_155 (hrecv (ci := 5) B hP (hk_lt (c := 5) h (by decide)) (hcc5 _ _ h) rfl) rfl rfl hl.1 (Nat.le_of_ble_eq_true rfl) ⟨Nat.le_of_ble_eq_true rfl, Nat.le_of_ble_eq_true rfl⟩ ⟨Nat.le_of_ble_eq_true rfl, Nat.le_of_ble_eq_true rfl⟩ dX5_goOneTurn_19) hS (fun ρ6 H locs q7 hP hS => ?_)
  obtain rfl := q7
  refine lv_iinc (v := 1) (lv' := [(1, .int 1), (0, .ref (E.2.1 + k))]) hx hb dX5_goOneTurn_22 hl (k := 0) rfl (by decide) (by decide) rfl (fun ls hl => ?_)
  refine lv_goto (tgt := 2) hx hb dX5_goOneTurn_25 (by decide) ?_
  refine lv_iload_n hx hb dX5_goOneTurn_2 rfl (lv_at hl 0 rfl) ?_
  refine lv_iconst (v := 2) hx hb dX5_goOneTurn_3 (by decide) ?_
  refine lv_icmp_ge (tgt := 28) hx hb dX5_goOneTurn_4 (by decide) (fun c8 => absurd c8 (by decide)) (fun _ => ?_)
  refine lv_aload_n hx hb dX5_goOneTurn_7 rfl (lv_at hl 1 rfl) ?_
  refine lv_aload_n hx hb dX5_goOneTurn_8 rfl (lv_at hl 1 rfl) ?_
  refine get5 B hP h 3 (by decide) mw_377 rfl dX5_goOneTurn_9 ?_
  refine lv_iload_n hx hb dX5_goOneTurn_12 rfl (lv_at hl 0 rfl) ?_
  refine aldNn B hP (lay5 h).2.2.2.2.2.2.1 (lay5 h).2.2.2.2.2.2.2.1 rfl (by decide) dX5_goOneTurn_13 ?_
  refine call_v (cVt (k := k) (av := [.ref (E.2.1 + (k + 47))]) (rest := []) B hP hS (c_changeMaps l E ρ k (k + 47) h (lay5 h).2.2.2.2.2.2.2.2.2 (show ρ (k + 47) 8 = 0 from hF.2.2.1) (show ρ (k + 48) 1 = 0 from hF.2.2.2.2.2.2.2.2)) lk_RX5_152 (hrecv (ci := 5) B hP (hk_lt (c := 5) h (by decide)) (hcc5 _ _ h) rfl) rfl rfl hl.1 (Nat.le_of_ble_eq_true rfl) ⟨Nat.le_of_ble_eq_true rfl, Nat.le_of_ble_eq_true rfl⟩ ⟨Nat.le_of_ble_eq_true rfl, Nat.le_of_ble_eq_true rfl⟩ dX5_goOneTurn_14) hS (fun ρ10 H locs q11 hP hS => ?_)
  obtain rfl := q11
  refine lv_aload_n hx hb dX5_goOneTurn_17 rfl (lv_at hl 1 rfl) ?_
  refine lv_iload_n hx hb dX5_goOneTurn_18 rfl (lv_at hl 0 rfl) ?_
  refine call_v (cVt (k := k) (av := [.int 1]) (rest := []) B hP hS (c_beginTurn l E ρ k 1 h hF (Or.inr rfl)) lk_RX5_155 (hrecv (ci := 5) B hP (hk_lt (c := 5) h (by decide)) (hcc5 _ _ h) rfl) rfl rfl hl.1 (Nat.le_of_ble_eq_true rfl) ⟨Nat.le_of_ble_eq_true rfl, Nat.le_of_ble_eq_true rfl⟩ ⟨Nat.le_of_ble_eq_true rfl, Nat.le_of_ble_eq_true rfl⟩ dX5_goOneTurn_19) hS (fun ρ13 H locs q14 hP hS => ?_)
  obtain rfl := q14
  refine lv_iinc (v := 2) (lv' := [(1, .int 2), (0, .ref (E.2.1 + k))]) hx hb dX5_goOneTurn_22 hl (k := 0) rfl (by decide) (by decide) rfl (fun ls hl => ?_)
  refine lv_goto (tgt := 2) hx hb dX5_goOneTurn_25 (by decide) ?_
  refine lv_iload_n hx hb dX5_goOneTurn_2 rfl (lv_at hl 0 rfl) ?_
  refine lv_iconst (v := 2) hx hb dX5_goOneTurn_3 (by decide) ?_
  refine lv_icmp_ge (tgt := 28) hx hb dX5_goOneTurn_4 (by decide) (fun _ => ?_) (fun c15 => absurd c15 (by decide))
  refine lv_iconst (v := 0) hx hb dX5_goOneTurn_28 (by decide) ?_
  refine lv_istore_n (lv' := [(1, .int 0), (0, .ref (E.2.1 + k))]) hx hb dX5_goOneTurn_29 rfl hl (by decide) rfl (fun ls hl => ?_)
  refine lv_iload_n hx hb dX5_goOneTurn_30 rfl (lv_at hl 0 rfl) ?_
  refine lv_iconst (v := 2) hx hb dX5_goOneTurn_31 (by decide) ?_
  refine lv_icmp_ge (tgt := 51) hx hb dX5_goOneTurn_32 (by decide) (fun c16 => absurd c16 (by decide)) (fun _ => ?_)
  refine lv_aload_n hx hb dX5_goOneTurn_35 rfl (lv_at hl 1 rfl) ?_
  refine lv_iload_n hx hb dX5_goOneTurn_36 rfl (lv_at hl 0 rfl) ?_
  refine call_v (cVt (k := k) (av := [.int 0]) (rest := []) B hP hS (c_chooseIn l E ρ k 0 h hF (Or.inl rfl)) lk_RX5_159 (hrecv (ci := 5) B hP (hk_lt (c := 5) h (by decide)) (hcc5 _ _ h) rfl) rfl rfl hl.1 (Nat.le_of_ble_eq_true rfl) ⟨Nat.le_of_ble_eq_true rfl, Nat.le_of_ble_eq_true rfl⟩ ⟨Nat.le_of_ble_eq_true rfl, Nat.le_of_ble_eq_true rfl⟩ dX5_goOneTurn_37) hS (fun ρ18 H locs q19 hP hS => ?_)
  obtain rfl := q19
  refine lv_aload_n hx hb dX5_goOneTurn_40 rfl (lv_at hl 1 rfl) ?_
  refine lv_iload_n hx hb dX5_goOneTurn_41 rfl (lv_at hl 0 rfl) ?_
  refine call_v (cVt (k := k) (av := [.int 0]) (rest := []) B hP hS (c_tunePacket l E ρ k 0 h hF (Or.inl rfl)) lk_RX5_162 (hrecv (ci := 5) B hP (hk_lt (c := 5) h (by decide)) (hcc5 _ _ h) rfl) rfl rfl hl.1 (Nat.le_of_ble_eq_true rfl) ⟨Nat.le_of_ble_eq_true rfl, Nat.le_of_ble_eq_true rfl⟩ ⟨Nat.le_of_ble_eq_true rfl, Nat.le_of_ble_eq_true rfl⟩ dX5_goOneTurn_42) hS (fun ρ21 H locs q22 hP hS => ?_)
  obtain rfl := q22
  refine lv_iinc (v := 1) (lv' := [(1, .int 1), (0, .ref (E.2.1 + k))]) hx hb dX5_goOneTurn_45 hl (k := 0) rfl (by decide) (by decide) rfl (fun ls hl => ?_)
  refine lv_goto (tgt := 30) hx hb dX5_goOneTurn_48 (by decide) ?_
  refine lv_iload_n hx hb dX5_goOneTurn_30 rfl (lv_at hl 0 rfl) ?_
  refine lv_iconst (v := 2) hx hb dX5_goOneTurn_31 (by decide) ?_
  refine lv_icmp_ge (tgt := 51) hx hb dX5_goOneTurn_32 (by decide) (fun c23 => absurd c23 (by decide)) (fun _ => ?_)
  refine lv_aload_n hx hb dX5_goOneTurn_35 rfl (lv_at hl 1 rfl) ?_
  refine lv_iload_n hx hb dX5_goOneTurn_36 rfl (lv_at hl 0 rfl) ?_
  refine call_v (cVt (k := k) (av := [.int 1]) (rest := []) B hP hS (c_chooseIn l E ρ k 1 h hF (Or.inr rfl)) lk_RX5_159 (hrecv (ci := 5) B hP (hk_lt (c := 5) h (by decide)) (hcc5 _ _ h) rfl) rfl rfl hl.1 (Nat.le_of_ble_eq_true rfl) ⟨Nat.le_of_ble_eq_true rfl, Nat.le_of_ble_eq_true rfl⟩ ⟨Nat.le_of_ble_eq_true rfl, Nat.le_of_ble_eq_true rfl⟩ dX5_goOneTurn_37) hS (fun ρ25 H locs q26 hP hS => ?_)
  obtain rfl := q26
  refine lv_aload_n hx hb dX5_goOneTurn_40 rfl (lv_at hl 1 rfl) ?_
  refine lv_iload_n hx hb dX5_goOneTurn_41 rfl (lv_at hl 0 rfl) ?_
  refine call_v (cVt (k := k) (av := [.int 1]) (rest := []) B hP hS (c_tunePacket l E ρ k 1 h hF (Or.inr rfl)) lk_RX5_162 (hrecv (ci := 5) B hP (hk_lt (c := 5) h (by decide)) (hcc5 _ _ h) rfl) rfl rfl hl.1 (Nat.le_of_ble_eq_true rfl) ⟨Nat.le_of_ble_eq_true rfl, Nat.le_of_ble_eq_true rfl⟩ ⟨Nat.le_of_ble_eq_true rfl, Nat.le_of_ble_eq_true rfl⟩ dX5_goOneTurn_42) hS (fun ρ28 H locs q29 hP hS => ?_)
  obtain rfl := q29
  refine lv_iinc (v := 2) (lv' := [(1, .int 2), (0, .ref (E.2.1 + k))]) hx hb dX5_goOneTurn_45 hl (k := 0) rfl (by decide) (by decide) rfl (fun ls hl => ?_)
  refine lv_goto (tgt := 30) hx hb dX5_goOneTurn_48 (by decide) ?_
  refine lv_iload_n hx hb dX5_goOneTurn_30 rfl (lv_at hl 0 rfl) ?_
  refine lv_iconst (v := 2) hx hb dX5_goOneTurn_31 (by decide) ?_
  refine lv_icmp_ge (tgt := 51) hx hb dX5_goOneTurn_32 (by decide) (fun _ => ?_) (fun c30 => absurd c30 (by decide))
  refine lv_iconst (v := 0) hx hb dX5_goOneTurn_51 (by decide) ?_
  refine lv_istore_n (lv' := [(1, .int 0), (0, .ref (E.2.1 + k))]) hx hb dX5_goOneTurn_52 rfl hl (by decide) rfl (fun ls hl => ?_)
  refine lv_iload_n hx hb dX5_goOneTurn_53 rfl (lv_at hl 0 rfl) ?_
  refine lv_iconst (v := 2) hx hb dX5_goOneTurn_54 (by decide) ?_
  refine lv_icmp_ge (tgt := 69) hx hb dX5_goOneTurn_55 (by decide) (fun c31 => absurd c31 (by decide)) (fun _ => ?_)
  refine lv_aload_n hx hb dX5_goOneTurn_58 rfl (lv_at hl 1 rfl) ?_
  refine lv_iload_n hx hb dX5_goOneTurn_59 rfl (lv_at hl 0 rfl) ?_
  refine call_v (cVt (k := k) (av := [.int 0]) (rest := []) B hP hS (c_sendPacket l E ρ k 0 h hF (Or.inl rfl)) lk_RX5_165 (hrecv (ci := 5) B hP (hk_lt (c := 5) h (by decide)) (hcc5 _ _ h) rfl) rfl rfl hl.1 (Nat.le_of_ble_eq_true rfl) ⟨Nat.le_of_ble_eq_true rfl, Nat.le_of_ble_eq_true rfl⟩ ⟨Nat.le_of_ble_eq_true rfl, Nat.le_of_ble_eq_true rfl⟩ dX5_goOneTurn_60) hS (fun ρ33 H locs q34 hP hS => ?_)
  obtain rfl := q34
  refine lv_iinc (v := 1) (lv' := [(1, .int 1), (0, .ref (E.2.1 + k))]) hx hb dX5_goOneTurn_63 hl (k := 0) rfl (by decide) (by decide) rfl (fun ls hl => ?_)
  refine lv_goto (tgt := 53) hx hb dX5_goOneTurn_66 (by decide) ?_
  refine lv_iload_n hx hb dX5_goOneTurn_53 rfl (lv_at hl 0 rfl) ?_
  refine lv_iconst (v := 2) hx hb dX5_goOneTurn_54 (by decide) ?_
  refine lv_icmp_ge (tgt := 69) hx hb dX5_goOneTurn_55 (by decide) (fun c35 => absurd c35 (by decide)) (fun _ => ?_)
  refine lv_aload_n hx hb dX5_goOneTurn_58 rfl (lv_at hl 1 rfl) ?_
  refine lv_iload_n hx hb dX5_goOneTurn_59 rfl (lv_at hl 0 rfl) ?_
  refine call_v (cVt (k := k) (av := [.int 1]) (rest := []) B hP hS (c_sendPacket l E ρ k 1 h hF (Or.inr rfl)) lk_RX5_165 (hrecv (ci := 5) B hP (hk_lt (c := 5) h (by decide)) (hcc5 _ _ h) rfl) rfl rfl hl.1 (Nat.le_of_ble_eq_true rfl) ⟨Nat.le_of_ble_eq_true rfl, Nat.le_of_ble_eq_true rfl⟩ ⟨Nat.le_of_ble_eq_true rfl, Nat.le_of_ble_eq_true rfl⟩ dX5_goOneTurn_60) hS (fun ρ37 H locs q38 hP hS => ?_)
  obtain rfl := q38
  refine lv_iinc (v := 2) (lv' := [(1, .int 2), (0, .ref (E.2.1 + k))]) hx hb dX5_goOneTurn_63 hl (k := 0) rfl (by decide) (by decide) rfl (fun ls hl => ?_)
  refine lv_goto (tgt := 53) hx hb dX5_goOneTurn_66 (by decide) ?_
  refine lv_iload_n hx hb dX5_goOneTurn_53 rfl (lv_at hl 0 rfl) ?_
  refine lv_iconst (v := 2) hx hb dX5_goOneTurn_54 (by decide) ?_
  refine lv_icmp_ge (tgt := 69) hx hb dX5_goOneTurn_55 (by decide) (fun _ => ?_) (fun c39 => absurd c39 (by decide))
  refine lv_iconst (v := 0) hx hb dX5_goOneTurn_69 (by decide) ?_
  refine lv_istore_n (lv' := [(1, .int 0), (0, .ref (E.2.1 + k))]) hx hb dX5_goOneTurn_70 rfl hl (by decide) rfl (fun ls hl => ?_)
  refine lv_iload_n hx hb dX5_goOneTurn_71 rfl (lv_at hl 0 rfl) ?_
  refine lv_iconst (v := 2) hx hb dX5_goOneTurn_72 (by decide) ?_
  refine lv_icmp_ge (tgt := 92) hx hb dX5_goOneTurn_73 (by decide) (fun c40 => absurd c40 (by decide)) (fun _ => ?_)
  refine lv_aload_n hx hb dX5_goOneTurn_76 rfl (lv_at hl 1 rfl) ?_
  refine lv_iload_n hx hb dX5_goOneTurn_77 rfl (lv_at hl 0 rfl) ?_
  refine call_v (cVt (k := k) (av := [.int 0]) (rest := []) B hP hS (c_hearPacket l E ρ k 0 h hF (Or.inl rfl)) lk_RX5_168 (hrecv (ci := 5) B hP (hk_lt (c := 5) h (by decide)) (hcc5 _ _ h) rfl) rfl rfl hl.1 (Nat.le_of_ble_eq_true rfl) ⟨Nat.le_of_ble_eq_true rfl, Nat.le_of_ble_eq_true rfl⟩ ⟨Nat.le_of_ble_eq_true rfl, Nat.le_of_ble_eq_true rfl⟩ dX5_goOneTurn_78) hS (fun ρ42 H locs q43 hP hS => ?_)
  obtain rfl := q43
  refine lv_aload_n hx hb dX5_goOneTurn_81 rfl (lv_at hl 1 rfl) ?_
  refine lv_iload_n hx hb dX5_goOneTurn_82 rfl (lv_at hl 0 rfl) ?_
  refine call_v (cVt (k := k) (av := [.int 0]) (rest := []) B hP hS (c_tuneAnswer l E ρ k 0 h hF (Or.inl rfl)) lk_RX5_171 (hrecv (ci := 5) B hP (hk_lt (c := 5) h (by decide)) (hcc5 _ _ h) rfl) rfl rfl hl.1 (Nat.le_of_ble_eq_true rfl) ⟨Nat.le_of_ble_eq_true rfl, Nat.le_of_ble_eq_true rfl⟩ ⟨Nat.le_of_ble_eq_true rfl, Nat.le_of_ble_eq_true rfl⟩ dX5_goOneTurn_83) hS (fun ρ45 H locs q46 hP hS => ?_)
  obtain rfl := q46
  refine lv_iinc (v := 1) (lv' := [(1, .int 1), (0, .ref (E.2.1 + k))]) hx hb dX5_goOneTurn_86 hl (k := 0) rfl (by decide) (by decide) rfl (fun ls hl => ?_)
  refine lv_goto (tgt := 71) hx hb dX5_goOneTurn_89 (by decide) ?_
  refine lv_iload_n hx hb dX5_goOneTurn_71 rfl (lv_at hl 0 rfl) ?_
  refine lv_iconst (v := 2) hx hb dX5_goOneTurn_72 (by decide) ?_
  refine lv_icmp_ge (tgt := 92) hx hb dX5_goOneTurn_73 (by decide) (fun c47 => absurd c47 (by decide)) (fun _ => ?_)
  refine lv_aload_n hx hb dX5_goOneTurn_76 rfl (lv_at hl 1 rfl) ?_
  refine lv_iload_n hx hb dX5_goOneTurn_77 rfl (lv_at hl 0 rfl) ?_
  refine call_v (cVt (k := k) (av := [.int 1]) (rest := []) B hP hS (c_hearPacket l E ρ k 1 h hF (Or.inr rfl)) lk_RX5_168 (hrecv (ci := 5) B hP (hk_lt (c := 5) h (by decide)) (hcc5 _ _ h) rfl) rfl rfl hl.1 (Nat.le_of_ble_eq_true rfl) ⟨Nat.le_of_ble_eq_true rfl, Nat.le_of_ble_eq_true rfl⟩ ⟨Nat.le_of_ble_eq_true rfl, Nat.le_of_ble_eq_true rfl⟩ dX5_goOneTurn_78) hS (fun ρ49 H locs q50 hP hS => ?_)
  obtain rfl := q50
  refine lv_aload_n hx hb dX5_goOneTurn_81 rfl (lv_at hl 1 rfl) ?_
  refine lv_iload_n hx hb dX5_goOneTurn_82 rfl (lv_at hl 0 rfl) ?_
  refine call_v (cVt (k := k) (av := [.int 1]) (rest := []) B hP hS (c_tuneAnswer l E ρ k 1 h hF (Or.inr rfl)) lk_RX5_171 (hrecv (ci := 5) B hP (hk_lt (c := 5) h (by decide)) (hcc5 _ _ h) rfl) rfl rfl hl.1 (Nat.le_of_ble_eq_true rfl) ⟨Nat.le_of_ble_eq_true rfl, Nat.le_of_ble_eq_true rfl⟩ ⟨Nat.le_of_ble_eq_true rfl, Nat.le_of_ble_eq_true rfl⟩ dX5_goOneTurn_83) hS (fun ρ52 H locs q53 hP hS => ?_)
  obtain rfl := q53
  refine lv_iinc (v := 2) (lv' := [(1, .int 2), (0, .ref (E.2.1 + k))]) hx hb dX5_goOneTurn_86 hl (k := 0) rfl (by decide) (by decide) rfl (fun ls hl => ?_)
  refine lv_goto (tgt := 71) hx hb dX5_goOneTurn_89 (by decide) ?_
  refine lv_iload_n hx hb dX5_goOneTurn_71 rfl (lv_at hl 0 rfl) ?_
  refine lv_iconst (v := 2) hx hb dX5_goOneTurn_72 (by decide) ?_
  refine lv_icmp_ge (tgt := 92) hx hb dX5_goOneTurn_73 (by decide) (fun _ => ?_) (fun c54 => absurd c54 (by decide))
  refine lv_iconst (v := 0) hx hb dX5_goOneTurn_92 (by decide) ?_
  refine lv_istore_n (lv' := [(1, .int 0), (0, .ref (E.2.1 + k))]) hx hb dX5_goOneTurn_93 rfl hl (by decide) rfl (fun ls hl => ?_)
  refine lv_iload_n hx hb dX5_goOneTurn_94 rfl (lv_at hl 0 rfl) ?_
  refine lv_iconst (v := 2) hx hb dX5_goOneTurn_95 (by decide) ?_
  refine lv_icmp_ge (tgt := 110) hx hb dX5_goOneTurn_96 (by decide) (fun c55 => absurd c55 (by decide)) (fun _ => ?_)
  refine lv_aload_n hx hb dX5_goOneTurn_99 rfl (lv_at hl 1 rfl) ?_
  refine lv_iload_n hx hb dX5_goOneTurn_100 rfl (lv_at hl 0 rfl) ?_
  refine call_v (cVt (k := k) (av := [.int 0]) (rest := []) B hP hS (c_sendAnswer l E ρ k 0 h hF (Or.inl rfl)) lk_RX5_174 (hrecv (ci := 5) B hP (hk_lt (c := 5) h (by decide)) (hcc5 _ _ h) rfl) rfl rfl hl.1 (Nat.le_of_ble_eq_true rfl) ⟨Nat.le_of_ble_eq_true rfl, Nat.le_of_ble_eq_true rfl⟩ ⟨Nat.le_of_ble_eq_true rfl, Nat.le_of_ble_eq_true rfl⟩ dX5_goOneTurn_101) hS (fun ρ57 H locs q58 hP hS => ?_)
  obtain rfl := q58
  refine lv_iinc (v := 1) (lv' := [(1, .int 1), (0, .ref (E.2.1 + k))]) hx hb dX5_goOneTurn_104 hl (k := 0) rfl (by decide) (by decide) rfl (fun ls hl => ?_)
  refine lv_goto (tgt := 94) hx hb dX5_goOneTurn_107 (by decide) ?_
  refine lv_iload_n hx hb dX5_goOneTurn_94 rfl (lv_at hl 0 rfl) ?_
  refine lv_iconst (v := 2) hx hb dX5_goOneTurn_95 (by decide) ?_
  refine lv_icmp_ge (tgt := 110) hx hb dX5_goOneTurn_96 (by decide) (fun c59 => absurd c59 (by decide)) (fun _ => ?_)
  refine lv_aload_n hx hb dX5_goOneTurn_99 rfl (lv_at hl 1 rfl) ?_
  refine lv_iload_n hx hb dX5_goOneTurn_100 rfl (lv_at hl 0 rfl) ?_
  refine call_v (cVt (k := k) (av := [.int 1]) (rest := []) B hP hS (c_sendAnswer l E ρ k 1 h hF (Or.inr rfl)) lk_RX5_174 (hrecv (ci := 5) B hP (hk_lt (c := 5) h (by decide)) (hcc5 _ _ h) rfl) rfl rfl hl.1 (Nat.le_of_ble_eq_true rfl) ⟨Nat.le_of_ble_eq_true rfl, Nat.le_of_ble_eq_true rfl⟩ ⟨Nat.le_of_ble_eq_true rfl, Nat.le_of_ble_eq_true rfl⟩ dX5_goOneTurn_101) hS (fun ρ61 H locs q62 hP hS => ?_)
  obtain rfl := q62
  refine lv_iinc (v := 2) (lv' := [(1, .int 2), (0, .ref (E.2.1 + k))]) hx hb dX5_goOneTurn_104 hl (k := 0) rfl (by decide) (by decide) rfl (fun ls hl => ?_)
  refine lv_goto (tgt := 94) hx hb dX5_goOneTurn_107 (by decide) ?_
  refine lv_iload_n hx hb dX5_goOneTurn_94 rfl (lv_at hl 0 rfl) ?_
  refine lv_iconst (v := 2) hx hb dX5_goOneTurn_95 (by decide) ?_
  refine lv_icmp_ge (tgt := 110) hx hb dX5_goOneTurn_96 (by decide) (fun _ => ?_) (fun c63 => absurd c63 (by decide))
  refine lv_iconst (v := 0) hx hb dX5_goOneTurn_110 (by decide) ?_
  refine lv_istore_n (lv' := [(1, .int 0), (0, .ref (E.2.1 + k))]) hx hb dX5_goOneTurn_111 rfl hl (by decide) rfl (fun ls hl => ?_)
  refine lv_iload_n hx hb dX5_goOneTurn_112 rfl (lv_at hl 0 rfl) ?_
  refine lv_iconst (v := 2) hx hb dX5_goOneTurn_113 (by decide) ?_
  refine lv_icmp_ge (tgt := 133) hx hb dX5_goOneTurn_114 (by decide) (fun c64 => absurd c64 (by decide)) (fun _ => ?_)
  refine lv_aload_n hx hb dX5_goOneTurn_117 rfl (lv_at hl 1 rfl) ?_
  refine lv_aload_n hx hb dX5_goOneTurn_118 rfl (lv_at hl 1 rfl) ?_
  refine get5 B hP h 3 (by decide) mw_377 rfl dX5_goOneTurn_119 ?_
  refine lv_iload_n hx hb dX5_goOneTurn_122 rfl (lv_at hl 0 rfl) ?_
  refine aldNn B hP (lay5 h).2.2.2.2.2.2.1 (lay5 h).2.2.2.2.2.2.2.1 rfl (by decide) dX5_goOneTurn_123 ?_
  refine call_v (cVt (k := k) (av := [.ref (E.2.1 + (k + 5))]) (rest := []) B hP hS (c_endTurn l E ρ k (k + 5) h (lay5 h).2.2.2.2.2.2.2.2.1 (show ρ (k + 5) 8 = 0 from hF.1.2.1)) lk_RX5_177 (hrecv (ci := 5) B hP (hk_lt (c := 5) h (by decide)) (hcc5 _ _ h) rfl) rfl rfl hl.1 (Nat.le_of_ble_eq_true rfl) ⟨Nat.le_of_ble_eq_true rfl, Nat.le_of_ble_eq_true rfl⟩ ⟨Nat.le_of_ble_eq_true rfl, Nat.le_of_ble_eq_true rfl⟩ dX5_goOneTurn_124) hS (fun ρ66 H locs q67 hP hS => ?_)
  obtain rfl := q67
  refine lv_iinc (v := 1) (lv' := [(1, .int 1), (0, .ref (E.2.1 + k))]) hx hb dX5_goOneTurn_127 hl (k := 0) rfl (by decide) (by decide) rfl (fun ls hl => ?_)
  refine lv_goto (tgt := 112) hx hb dX5_goOneTurn_130 (by decide) ?_
  refine lv_iload_n hx hb dX5_goOneTurn_112 rfl (lv_at hl 0 rfl) ?_
  refine lv_iconst (v := 2) hx hb dX5_goOneTurn_113 (by decide) ?_
  refine lv_icmp_ge (tgt := 133) hx hb dX5_goOneTurn_114 (by decide) (fun c68 => absurd c68 (by decide)) (fun _ => ?_)
  refine lv_aload_n hx hb dX5_goOneTurn_117 rfl (lv_at hl 1 rfl) ?_
  refine lv_aload_n hx hb dX5_goOneTurn_118 rfl (lv_at hl 1 rfl) ?_
  refine get5 B hP h 3 (by decide) mw_377 rfl dX5_goOneTurn_119 ?_
  refine lv_iload_n hx hb dX5_goOneTurn_122 rfl (lv_at hl 0 rfl) ?_
  refine aldNn B hP (lay5 h).2.2.2.2.2.2.1 (lay5 h).2.2.2.2.2.2.2.1 rfl (by decide) dX5_goOneTurn_123 ?_
  refine call_v (cVt (k := k) (av := [.ref (E.2.1 + (k + 47))]) (rest := []) B hP hS (c_endTurn l E ρ k (k + 47) h (lay5 h).2.2.2.2.2.2.2.2.2 (show ρ (k + 47) 8 = 0 from hF.2.2.1)) lk_RX5_177 (hrecv (ci := 5) B hP (hk_lt (c := 5) h (by decide)) (hcc5 _ _ h) rfl) rfl rfl hl.1 (Nat.le_of_ble_eq_true rfl) ⟨Nat.le_of_ble_eq_true rfl, Nat.le_of_ble_eq_true rfl⟩ ⟨Nat.le_of_ble_eq_true rfl, Nat.le_of_ble_eq_true rfl⟩ dX5_goOneTurn_124) hS (fun ρ70 H locs q71 hP hS => ?_)
  obtain rfl := q71
  refine lv_iinc (v := 2) (lv' := [(1, .int 2), (0, .ref (E.2.1 + k))]) hx hb dX5_goOneTurn_127 hl (k := 0) rfl (by decide) (by decide) rfl (fun ls hl => ?_)
  refine lv_goto (tgt := 112) hx hb dX5_goOneTurn_130 (by decide) ?_
  refine lv_iload_n hx hb dX5_goOneTurn_112 rfl (lv_at hl 0 rfl) ?_
  refine lv_iconst (v := 2) hx hb dX5_goOneTurn_113 (by decide) ?_
  refine lv_icmp_ge (tgt := 133) hx hb dX5_goOneTurn_114 (by decide) (fun _ => ?_) (fun c72 => absurd c72 (by decide))
  refine lv_aload_n hx hb dX5_goOneTurn_133 rfl (lv_at hl 1 rfl) ?_
  refine lv_dup hx hb dX5_goOneTurn_134 rfl ?_
  refine get5 B hP h 5 (by decide) mw_381 rfl dX5_goOneTurn_135 ?_
  refine lv_iconst (v := 2) hx hb dX5_goOneTurn_138 (by decide) ?_
  refine lv_iadd hx hb dX5_goOneTurn_139 ?_
  refine put5 B hP hS h 5 (by decide) mw_381 rfl rfl rfl (fs5_5 E k _ _) dX5_goOneTurn_140 (fun H locs hP hS => ?_)
  obtain ⟨ρ73, e74⟩ : ∃ z, z = up ρ k 5 ((ρ k 5) + 2) := ⟨_, rfl⟩
  rw [← e74] at hP
  exact ret_v B hr hlk hP hS dX5_goOneTurn_143 (e74)

theorem lk_RX5_149 : LkV RX5 149 RX5 yX5_goOneTurn cX5_goOneTurn 2 none 0 := ⟨⟨mw_658, mw_659, mw_660, mw_53, mw_661⟩, by decide +kernel⟩
set_option maxHeartbeats 4000000 in
set_option maxRecDepth 100000 in
theorem c_heardInTurns (l : Launch) (E : hE) (ρ : Nat → Nat → Int32) (k N : Nat) (h : hk k = 5) (hF : FrW ρ k) (hN : N < 2 ^ 30) : Met l yX5_heardInTurns (.code yX5_heardInTurns cX5_heardInTurns 3 (some .int) :: gw_all) (rmk 3 120) (cPre E ρ [.ref (E.2.1 + k), .int (nI N)]) (cI E (fun r ρ1 => r = 0 ∧ ∀ k', k' ≠ k → ρ1 k' = ρ k')) 0 0 (hA E) := by
  refine ent (own := RX5) (by decide) rfl (Nat.le_of_ble_eq_true rfl) ?_
  intro p e s m below meth c ls B hr hlk hl hP hS
  have hx := B.1.1
  have hb := B.1.2.1
  have hown := B.1.2.2.2.1
  have hts := B.1.2.2.2.2
  have hl : lv_has ls 3 [(0, .ref (E.2.1 + k)), (1, .int (nI N))] := hl
  refine lv_aload_n hx hb dX5_heardInTurns_0 rfl (lv_at hl 0 rfl) ?_
  refine lv_iconst (v := 0) hx hb dX5_heardInTurns_1 (by decide) ?_
  refine put5 B hP hS h 9 (by decide) mw_389 rfl rfl rfl (fs5_9 E k _ _) dX5_heardInTurns_2 (fun H locs hP hS => ?_)
  obtain ⟨ρ1, e2⟩ : ∃ z, z = up ρ k 9 0 := ⟨_, rfl⟩
  rw [← e2] at hP
  refine lv_iconst (v := 0) hx hb dX5_heardInTurns_5 (by decide) ?_
  refine lv_istore_n (lv' := [(2, .int 0), (0, .ref (E.2.1 + k)), (1, .int (nI N))]) hx hb dX5_heardInTurns_6 rfl hl (by decide) rfl (fun ls hl => ?_)
  have L : ∀ (d j : Nat) (ρ1 : Nat → Nat → Int32) (H : Heap) (locs : List Loc) (ls : Array Slot), j ≤ N → N - j < d → (∀ k', k' ≠ k → ρ1 k' = ρ k') → ρ1 k 9 = 0 → WP E ρ1 H → va_S (hA E) s.heap H locs → lv_has ls 3 [(0, .ref (E.2.1 + k)), (1, .int (nI N)), (2, .int (nI j))] → W p l e (rmk 3 120) s m ([.ref (E.2.1 + k), .int (nI N)] : List Value).toArray below meth c H locs 0 0 (MQ below (cI E (fun r ρ1 => r = 0 ∧ ∀ k', k' ≠ k → ρ1 k' = ρ k')) ([.ref (E.2.1 + k), .int (nI N)] : List Value).toArray s 0 0 (hA E)) (F0 m 7 ls []) := by
    intro d
    induction d with
    | zero => intro j ρ1 H locs ls h1 h2; exact absurd h2 (by omega)
    | succ d ih =>
      intro j ρ1 H locs ls hj hd hQ hz9 hP hS hl
      have hF1 := hF.keep hQ
      refine lv_iload_n hx hb dX5_heardInTurns_7 rfl (lv_at hl 2 rfl) ?_
      refine lv_iload_n hx hb dX5_heardInTurns_8 rfl (lv_at hl 1 rfl) ?_
      refine lv_icmp_ge (tgt := 22) hx hb dX5_heardInTurns_9 (by decide) (fun c3 => ?_) (fun c3 => ?_)
      · skip
        have cN : N ≤ j := (nI_leI (by omega) (by omega)).mp c3
        refine lv_aload_n hx hb dX5_heardInTurns_22 rfl (lv_at hl 0 rfl) ?_
        refine get5 B hP h 9 (by decide) mw_389 (v := .int 0) (show some (Value.int (ρ1 k 9)) = some (Value.int 0) from congrArg (fun z => some (Value.int z)) hz9) dX5_heardInTurns_23 ?_
        exact ret_i B hr hlk hP hS dX5_heardInTurns_26 (⟨rfl, hQ⟩)
      · skip
        have cN : j < N := Nat.not_le.mp (fun z => c3 ((nI_leI (by omega) (by omega)).mpr z))
        refine lv_aload_n hx hb dX5_heardInTurns_12 rfl (lv_at hl 0 rfl) ?_
        refine call_v (cVt (k := k) (av := []) (rest := []) B hP hS (c_goOneTurn l E ρ1 k h hF1) lk_RX5_149 (hrecv (ci := 5) B hP (hk_lt (c := 5) h (by decide)) (hcc5 _ _ h) rfl) rfl rfl hl.1 (Nat.le_of_ble_eq_true rfl) ⟨Nat.le_of_ble_eq_true rfl, Nat.le_of_ble_eq_true rfl⟩ ⟨Nat.le_of_ble_eq_true rfl, Nat.le_of_ble_eq_true rfl⟩ dX5_heardInTurns_13) hS (fun ρ5 H locs q6 hP hS => ?_)
        refine lv_iinc (v := (nI (j + 1))) (lv' := [(2, .int (nI (j + 1))), (0, .ref (E.2.1 + k)), (1, .int (nI N))]) hx hb dX5_heardInTurns_16 hl (k := 2) rfl (nI_1 j) (by decide) rfl (fun ls hl => ?_)
        refine lv_goto (tgt := 7) hx hb dX5_heardInTurns_19 (by decide) ?_
        exact ih (j + 1) ρ5 _ _ ls (by omega) (by omega) (fun k' hk' => by rw [q6, up_ne _ _ _ hk']; exact hQ k' hk') (by rw [q6]; exact up_get_ne (Or.inr (by decide)) hz9) hP hS (lv_sub hl [1, 2, 0] rfl)
  exact L (N + 1) 0 ρ1 _ _ ls (by omega) (by omega) (fun k' hk' => by rw [e2, up_ne _ _ _ hk']) (by rw [e2]; exact up_get_at) hP hS (lv_sub hl [1, 2, 0] rfl)

set_option maxHeartbeats 4000000 in
set_option maxRecDepth 100000 in
theorem c_framesMissed (l : Launch) (E : hE) (ρ : Nat → Nat → Int32) (k : Nat) (h : hk k = 5) (hF : FrW ρ k) : Met l yX5_framesMissed (.code yX5_framesMissed cX5_framesMissed 4 (some .int) :: gw_all) (rmk 0 0) (cPre E ρ [.ref (E.2.1 + k)]) (cI E (fun r ρ1 => ρ = ρ1 ∧ r = 0)) 0 0 (hA E) := by
  refine ent (own := RX5) (by decide) rfl (Nat.le_of_ble_eq_true rfl) ?_
  intro p e s m below meth c ls B hr hlk hl hP hS
  have hx := B.1.1
  have hb := B.1.2.1
  have hown := B.1.2.2.2.1
  have hts := B.1.2.2.2.2
  have hl : lv_has ls 4 [(0, .ref (E.2.1 + k))] := hl
  refine lv_iconst (v := 0) hx hb dX5_framesMissed_0 (by decide) ?_
  refine lv_istore_n (lv' := [(1, .int 0), (0, .ref (E.2.1 + k))]) hx hb dX5_framesMissed_1 rfl hl (by decide) rfl (fun ls hl => ?_)
  refine lv_iconst (v := 0) hx hb dX5_framesMissed_2 (by decide) ?_
  refine lv_istore_n (lv' := [(2, .int 0), (1, .int 0), (0, .ref (E.2.1 + k))]) hx hb dX5_framesMissed_3 rfl hl (by decide) rfl (fun ls hl => ?_)
  refine lv_iload_n hx hb dX5_framesMissed_4 rfl (lv_at hl 0 rfl) ?_
  refine lv_iconst (v := 2) hx hb dX5_framesMissed_5 (by decide) ?_
  refine lv_icmp_ge (tgt := 61) hx hb dX5_framesMissed_6 (by decide) (fun c1 => absurd c1 (by decide)) (fun _ => ?_)
  refine lv_iconst (v := 0) hx hb dX5_framesMissed_9 (by decide) ?_
  refine lv_istore_n (lv' := [(3, .int 0), (2, .int 0), (1, .int 0), (0, .ref (E.2.1 + k))]) hx hb dX5_framesMissed_10 rfl hl (by decide) rfl (fun ls hl => ?_)
  refine lv_iload_n hx hb dX5_framesMissed_11 rfl (lv_at hl 0 rfl) ?_
  refine lv_aload_n hx hb dX5_framesMissed_12 rfl (lv_at hl 3 rfl) ?_
  refine get5 B hP h 3 (by decide) mw_377 rfl dX5_framesMissed_13 ?_
  refine lv_iload_n hx hb dX5_framesMissed_16 rfl (lv_at hl 1 rfl) ?_
  refine aldNn B hP (lay5 h).2.2.2.2.2.2.1 (lay5 h).2.2.2.2.2.2.2.1 rfl (by decide) dX5_framesMissed_17 ?_
  refine get2 B hP (lay5 h).2.2.2.2.2.2.2.2.1 8 (by decide) mw_305 (v := .int 0) (show some (Value.int (ρ (k + 5) 8)) = some (Value.int 0) from congrArg (fun z => some (Value.int z)) (show ρ (k + 5) 8 = 0 from hF.1.2.1)) dX5_framesMissed_18 ?_
  refine lv_icmp_ge (tgt := 55) hx hb dX5_framesMissed_21 (by decide) (fun _ => ?_) (fun c2 => absurd c2 (by decide))
  refine lv_iinc (v := 1) (lv' := [(2, .int 1), (3, .int 0), (1, .int 0), (0, .ref (E.2.1 + k))]) hx hb dX5_framesMissed_55 hl (k := 1) rfl (by decide) (by decide) rfl (fun ls hl => ?_)
  refine lv_goto (tgt := 4) hx hb dX5_framesMissed_58 (by decide) ?_
  refine lv_iload_n hx hb dX5_framesMissed_4 rfl (lv_at hl 0 rfl) ?_
  refine lv_iconst (v := 2) hx hb dX5_framesMissed_5 (by decide) ?_
  refine lv_icmp_ge (tgt := 61) hx hb dX5_framesMissed_6 (by decide) (fun c3 => absurd c3 (by decide)) (fun _ => ?_)
  refine lv_iconst (v := 0) hx hb dX5_framesMissed_9 (by decide) ?_
  refine lv_istore_n (lv' := [(3, .int 0), (2, .int 1), (1, .int 0), (0, .ref (E.2.1 + k))]) hx hb dX5_framesMissed_10 rfl hl (by decide) rfl (fun ls hl => ?_)
  refine lv_iload_n hx hb dX5_framesMissed_11 rfl (lv_at hl 0 rfl) ?_
  refine lv_aload_n hx hb dX5_framesMissed_12 rfl (lv_at hl 3 rfl) ?_
  refine get5 B hP h 3 (by decide) mw_377 rfl dX5_framesMissed_13 ?_
  refine lv_iload_n hx hb dX5_framesMissed_16 rfl (lv_at hl 1 rfl) ?_
  refine aldNn B hP (lay5 h).2.2.2.2.2.2.1 (lay5 h).2.2.2.2.2.2.2.1 rfl (by decide) dX5_framesMissed_17 ?_
  refine get2 B hP (lay5 h).2.2.2.2.2.2.2.2.2 8 (by decide) mw_305 (v := .int 0) (show some (Value.int (ρ (k + 47) 8)) = some (Value.int 0) from congrArg (fun z => some (Value.int z)) (show ρ (k + 47) 8 = 0 from hF.2.2.1)) dX5_framesMissed_18 ?_
  refine lv_icmp_ge (tgt := 55) hx hb dX5_framesMissed_21 (by decide) (fun _ => ?_) (fun c4 => absurd c4 (by decide))
  refine lv_iinc (v := 2) (lv' := [(2, .int 2), (3, .int 0), (1, .int 0), (0, .ref (E.2.1 + k))]) hx hb dX5_framesMissed_55 hl (k := 1) rfl (by decide) (by decide) rfl (fun ls hl => ?_)
  refine lv_goto (tgt := 4) hx hb dX5_framesMissed_58 (by decide) ?_
  refine lv_iload_n hx hb dX5_framesMissed_4 rfl (lv_at hl 0 rfl) ?_
  refine lv_iconst (v := 2) hx hb dX5_framesMissed_5 (by decide) ?_
  refine lv_icmp_ge (tgt := 61) hx hb dX5_framesMissed_6 (by decide) (fun _ => ?_) (fun c5 => absurd c5 (by decide))
  refine lv_iload_n hx hb dX5_framesMissed_61 rfl (lv_at hl 2 rfl) ?_
  exact ret_i B hr hlk hP hS dX5_framesMissed_62 (⟨rfl, rfl⟩)

set_option maxHeartbeats 4000000 in
set_option maxRecDepth 100000 in
theorem c_otherMap (l : Launch) (E : hE) (ρ : Nat → Nat → Int32) (k : Nat) (h : hk k = 5) (hF : FrW ρ k) : Met l yX5_linksOfOtherMap (.code yX5_linksOfOtherMap cX5_linksOfOtherMap 4 (some .int) :: gw_all) (rmk 0 0) (cPre E ρ [.ref (E.2.1 + k)]) (cI E (fun r ρ1 => ρ = ρ1 ∧ r = 0)) 0 0 (hA E) := by
  refine ent (own := RX5) (by decide) rfl (Nat.le_of_ble_eq_true rfl) ?_
  intro p e s m below meth c ls B hr hlk hl hP hS
  have hx := B.1.1
  have hb := B.1.2.1
  have hown := B.1.2.2.2.1
  have hts := B.1.2.2.2.2
  have hl : lv_has ls 4 [(0, .ref (E.2.1 + k))] := hl
  refine lv_iconst (v := 0) hx hb dX5_linksOfOtherMap_0 (by decide) ?_
  refine lv_istore_n (lv' := [(1, .int 0), (0, .ref (E.2.1 + k))]) hx hb dX5_linksOfOtherMap_1 rfl hl (by decide) rfl (fun ls hl => ?_)
  refine lv_iconst (v := 0) hx hb dX5_linksOfOtherMap_2 (by decide) ?_
  refine lv_istore_n (lv' := [(2, .int 0), (1, .int 0), (0, .ref (E.2.1 + k))]) hx hb dX5_linksOfOtherMap_3 rfl hl (by decide) rfl (fun ls hl => ?_)
  refine lv_iload_n hx hb dX5_linksOfOtherMap_4 rfl (lv_at hl 0 rfl) ?_
  refine lv_iconst (v := 2) hx hb dX5_linksOfOtherMap_5 (by decide) ?_
  refine lv_icmp_ge (tgt := 76) hx hb dX5_linksOfOtherMap_6 (by decide) (fun c1 => absurd c1 (by decide)) (fun _ => ?_)
  refine lv_iconst (v := 0) hx hb dX5_linksOfOtherMap_9 (by decide) ?_
  refine lv_istore_n (lv' := [(3, .int 0), (2, .int 0), (1, .int 0), (0, .ref (E.2.1 + k))]) hx hb dX5_linksOfOtherMap_10 rfl hl (by decide) rfl (fun ls hl => ?_)
  refine lv_iload_n hx hb dX5_linksOfOtherMap_11 rfl (lv_at hl 0 rfl) ?_
  refine lv_aload_n hx hb dX5_linksOfOtherMap_12 rfl (lv_at hl 3 rfl) ?_
  refine get5 B hP h 3 (by decide) mw_377 rfl dX5_linksOfOtherMap_13 ?_
  refine lv_iload_n hx hb dX5_linksOfOtherMap_16 rfl (lv_at hl 1 rfl) ?_
  refine aldNn B hP (lay5 h).2.2.2.2.2.2.1 (lay5 h).2.2.2.2.2.2.2.1 rfl (by decide) dX5_linksOfOtherMap_17 ?_
  refine get2 B hP (lay5 h).2.2.2.2.2.2.2.2.1 8 (by decide) mw_305 (v := .int 0) (show some (Value.int (ρ (k + 5) 8)) = some (Value.int 0) from congrArg (fun z => some (Value.int z)) (show ρ (k + 5) 8 = 0 from hF.1.2.1)) dX5_linksOfOtherMap_18 ?_
  refine lv_icmp_ge (tgt := 70) hx hb dX5_linksOfOtherMap_21 (by decide) (fun _ => ?_) (fun c2 => absurd c2 (by decide))
  refine lv_iinc (v := 1) (lv' := [(2, .int 1), (3, .int 0), (1, .int 0), (0, .ref (E.2.1 + k))]) hx hb dX5_linksOfOtherMap_70 hl (k := 1) rfl (by decide) (by decide) rfl (fun ls hl => ?_)
  refine lv_goto (tgt := 4) hx hb dX5_linksOfOtherMap_73 (by decide) ?_
  refine lv_iload_n hx hb dX5_linksOfOtherMap_4 rfl (lv_at hl 0 rfl) ?_
  refine lv_iconst (v := 2) hx hb dX5_linksOfOtherMap_5 (by decide) ?_
  refine lv_icmp_ge (tgt := 76) hx hb dX5_linksOfOtherMap_6 (by decide) (fun c3 => absurd c3 (by decide)) (fun _ => ?_)
  refine lv_iconst (v := 0) hx hb dX5_linksOfOtherMap_9 (by decide) ?_
  refine lv_istore_n (lv' := [(3, .int 0), (2, .int 1), (1, .int 0), (0, .ref (E.2.1 + k))]) hx hb dX5_linksOfOtherMap_10 rfl hl (by decide) rfl (fun ls hl => ?_)
  refine lv_iload_n hx hb dX5_linksOfOtherMap_11 rfl (lv_at hl 0 rfl) ?_
  refine lv_aload_n hx hb dX5_linksOfOtherMap_12 rfl (lv_at hl 3 rfl) ?_
  refine get5 B hP h 3 (by decide) mw_377 rfl dX5_linksOfOtherMap_13 ?_
  refine lv_iload_n hx hb dX5_linksOfOtherMap_16 rfl (lv_at hl 1 rfl) ?_
  refine aldNn B hP (lay5 h).2.2.2.2.2.2.1 (lay5 h).2.2.2.2.2.2.2.1 rfl (by decide) dX5_linksOfOtherMap_17 ?_
  refine get2 B hP (lay5 h).2.2.2.2.2.2.2.2.2 8 (by decide) mw_305 (v := .int 0) (show some (Value.int (ρ (k + 47) 8)) = some (Value.int 0) from congrArg (fun z => some (Value.int z)) (show ρ (k + 47) 8 = 0 from hF.2.2.1)) dX5_linksOfOtherMap_18 ?_
  refine lv_icmp_ge (tgt := 70) hx hb dX5_linksOfOtherMap_21 (by decide) (fun _ => ?_) (fun c4 => absurd c4 (by decide))
  refine lv_iinc (v := 2) (lv' := [(2, .int 2), (3, .int 0), (1, .int 0), (0, .ref (E.2.1 + k))]) hx hb dX5_linksOfOtherMap_70 hl (k := 1) rfl (by decide) (by decide) rfl (fun ls hl => ?_)
  refine lv_goto (tgt := 4) hx hb dX5_linksOfOtherMap_73 (by decide) ?_
  refine lv_iload_n hx hb dX5_linksOfOtherMap_4 rfl (lv_at hl 0 rfl) ?_
  refine lv_iconst (v := 2) hx hb dX5_linksOfOtherMap_5 (by decide) ?_
  refine lv_icmp_ge (tgt := 76) hx hb dX5_linksOfOtherMap_6 (by decide) (fun _ => ?_) (fun c5 => absurd c5 (by decide))
  refine lv_iload_n hx hb dX5_linksOfOtherMap_76 rfl (lv_at hl 2 rfl) ?_
  exact ret_i B hr hlk hP hS dX5_linksOfOtherMap_77 (⟨rfl, rfl⟩)

set_option maxHeartbeats 4000000 in
set_option maxRecDepth 100000 in
theorem c_heardOfAll (l : Launch) (E : hE) (ρ : Nat → Nat → Int32) (k : Nat) (h : hk k = 5) (hF : FrW ρ k) : Met l yX5_heardOfAll (.code yX5_heardOfAll cX5_heardOfAll 4 (some .int) :: gw_all) (rmk 0 0) (cPre E ρ [.ref (E.2.1 + k)]) (cI E (fun r ρ1 => ρ = ρ1 ∧ r = 0)) 0 0 (hA E) := by
  refine ent (own := RX5) (by decide) rfl (Nat.le_of_ble_eq_true rfl) ?_
  intro p e s m below meth c ls B hr hlk hl hP hS
  have hx := B.1.1
  have hb := B.1.2.1
  have hown := B.1.2.2.2.1
  have hts := B.1.2.2.2.2
  have hl : lv_has ls 4 [(0, .ref (E.2.1 + k))] := hl
  refine lv_iconst (v := 0) hx hb dX5_heardOfAll_0 (by decide) ?_
  refine lv_istore_n (lv' := [(1, .int 0), (0, .ref (E.2.1 + k))]) hx hb dX5_heardOfAll_1 rfl hl (by decide) rfl (fun ls hl => ?_)
  refine lv_iconst (v := 0) hx hb dX5_heardOfAll_2 (by decide) ?_
  refine lv_istore_n (lv' := [(2, .int 0), (1, .int 0), (0, .ref (E.2.1 + k))]) hx hb dX5_heardOfAll_3 rfl hl (by decide) rfl (fun ls hl => ?_)
  refine lv_iload_n hx hb dX5_heardOfAll_4 rfl (lv_at hl 0 rfl) ?_
  refine lv_iconst (v := 2) hx hb dX5_heardOfAll_5 (by decide) ?_
  refine lv_icmp_ge (tgt := 79) hx hb dX5_heardOfAll_6 (by decide) (fun c1 => absurd c1 (by decide)) (fun _ => ?_)
  refine lv_iconst (v := 0) hx hb dX5_heardOfAll_9 (by decide) ?_
  refine lv_istore_n (lv' := [(3, .int 0), (2, .int 0), (1, .int 0), (0, .ref (E.2.1 + k))]) hx hb dX5_heardOfAll_10 rfl hl (by decide) rfl (fun ls hl => ?_)
  refine lv_iload_n hx hb dX5_heardOfAll_11 rfl (lv_at hl 0 rfl) ?_
  refine lv_aload_n hx hb dX5_heardOfAll_12 rfl (lv_at hl 3 rfl) ?_
  refine get5 B hP h 3 (by decide) mw_377 rfl dX5_heardOfAll_13 ?_
  refine lv_iload_n hx hb dX5_heardOfAll_16 rfl (lv_at hl 1 rfl) ?_
  refine aldNn B hP (lay5 h).2.2.2.2.2.2.1 (lay5 h).2.2.2.2.2.2.2.1 rfl (by decide) dX5_heardOfAll_17 ?_
  refine get2 B hP (lay5 h).2.2.2.2.2.2.2.2.1 8 (by decide) mw_305 (v := .int 0) (show some (Value.int (ρ (k + 5) 8)) = some (Value.int 0) from congrArg (fun z => some (Value.int z)) (show ρ (k + 5) 8 = 0 from hF.1.2.1)) dX5_heardOfAll_18 ?_
  refine lv_icmp_ge (tgt := 73) hx hb dX5_heardOfAll_21 (by decide) (fun _ => ?_) (fun c2 => absurd c2 (by decide))
  refine lv_iinc (v := 1) (lv' := [(2, .int 1), (3, .int 0), (1, .int 0), (0, .ref (E.2.1 + k))]) hx hb dX5_heardOfAll_73 hl (k := 1) rfl (by decide) (by decide) rfl (fun ls hl => ?_)
  refine lv_goto (tgt := 4) hx hb dX5_heardOfAll_76 (by decide) ?_
  refine lv_iload_n hx hb dX5_heardOfAll_4 rfl (lv_at hl 0 rfl) ?_
  refine lv_iconst (v := 2) hx hb dX5_heardOfAll_5 (by decide) ?_
  refine lv_icmp_ge (tgt := 79) hx hb dX5_heardOfAll_6 (by decide) (fun c3 => absurd c3 (by decide)) (fun _ => ?_)
  refine lv_iconst (v := 0) hx hb dX5_heardOfAll_9 (by decide) ?_
  refine lv_istore_n (lv' := [(3, .int 0), (2, .int 1), (1, .int 0), (0, .ref (E.2.1 + k))]) hx hb dX5_heardOfAll_10 rfl hl (by decide) rfl (fun ls hl => ?_)
  refine lv_iload_n hx hb dX5_heardOfAll_11 rfl (lv_at hl 0 rfl) ?_
  refine lv_aload_n hx hb dX5_heardOfAll_12 rfl (lv_at hl 3 rfl) ?_
  refine get5 B hP h 3 (by decide) mw_377 rfl dX5_heardOfAll_13 ?_
  refine lv_iload_n hx hb dX5_heardOfAll_16 rfl (lv_at hl 1 rfl) ?_
  refine aldNn B hP (lay5 h).2.2.2.2.2.2.1 (lay5 h).2.2.2.2.2.2.2.1 rfl (by decide) dX5_heardOfAll_17 ?_
  refine get2 B hP (lay5 h).2.2.2.2.2.2.2.2.2 8 (by decide) mw_305 (v := .int 0) (show some (Value.int (ρ (k + 47) 8)) = some (Value.int 0) from congrArg (fun z => some (Value.int z)) (show ρ (k + 47) 8 = 0 from hF.2.2.1)) dX5_heardOfAll_18 ?_
  refine lv_icmp_ge (tgt := 73) hx hb dX5_heardOfAll_21 (by decide) (fun _ => ?_) (fun c4 => absurd c4 (by decide))
  refine lv_iinc (v := 2) (lv' := [(2, .int 2), (3, .int 0), (1, .int 0), (0, .ref (E.2.1 + k))]) hx hb dX5_heardOfAll_73 hl (k := 1) rfl (by decide) (by decide) rfl (fun ls hl => ?_)
  refine lv_goto (tgt := 4) hx hb dX5_heardOfAll_76 (by decide) ?_
  refine lv_iload_n hx hb dX5_heardOfAll_4 rfl (lv_at hl 0 rfl) ?_
  refine lv_iconst (v := 2) hx hb dX5_heardOfAll_5 (by decide) ?_
  refine lv_icmp_ge (tgt := 79) hx hb dX5_heardOfAll_6 (by decide) (fun _ => ?_) (fun c5 => absurd c5 (by decide))
  refine lv_iload_n hx hb dX5_heardOfAll_79 rfl (lv_at hl 2 rfl) ?_
  exact ret_i B hr hlk hP hS dX5_heardOfAll_80 (⟨rfl, rfl⟩)
