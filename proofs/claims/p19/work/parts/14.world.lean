theorem CI_cast0 {r : Nat → Nat → Int32} {S : Nat × Nat → Prop} {ρ : Nat → Nat → Int32} {x : Nat} (hI : CI r S ρ) (h : hk x = 2) (hne : ∀ y, S y → y.1 ≠ x) : CI r (SA S x 0) (up ρ x 14 0) :=
  CI_upS hI (kind_lt h (by decide)) (SP_rng h rfl (by decide) ⟨by decide, by decide⟩) (fun y hy => by
    rcases hy with q | q
    · exact RC_ne (hI.2.1 y q) (hne y q)
    · rw [q]
      refine RC0.mpr (fun e => ?_)
      rw [up_get_at] at e
      exact absurd e (by decide))
theorem CI_cast1 {r : Nat → Nat → Int32} {S : Nat × Nat → Prop} {ρ : Nat → Nat → Int32} {x : Nat} (hI : CI r (SA S x 0) ρ) (h : hk x = 2) (hne : ∀ y, S y → y.1 ≠ x) (h1 : iR (ρ x 11) 1 4) : CI r (SA S x 0) (up ρ x 14 1) :=
  CI_upS hI (kind_lt h (by decide)) (SP_rng h rfl (by decide) ⟨by decide, by decide⟩) (fun y hy => by
    rcases hy with q | q
    · exact RC_ne (hI.2.1 y (Or.inl q)) (hne y q)
    · rw [q]
      refine RC0.mpr (fun _ => ?_)
      rw [up_get_ne (x := ρ x 11) (Or.inr (by decide)) rfl]
      exact h1)
theorem dX5_netAt_0 : decode cX5_netAt 0 = .ok (.iload_n 1, 1) := by decide +kernel
theorem dX5_netAt_1 : decode cX5_netAt 1 = .ok (.ifCond .lt 21, 3) := by decide +kernel
theorem dX5_netAt_4 : decode cX5_netAt 4 = .ok (.iload_n 1, 1) := by decide +kernel
theorem dX5_netAt_5 : decode cX5_netAt 5 = .ok (.iconst 2, 1) := by decide +kernel
theorem dX5_netAt_6 : decode cX5_netAt 6 = .ok (.if_icmp .ge 16, 3) := by decide +kernel
theorem dX5_netAt_9 : decode cX5_netAt 9 = .ok (.aload_n 0, 1) := by decide +kernel
theorem dX5_netAt_10 : decode cX5_netAt 10 = .ok (.getfield 23, 3) := by decide +kernel
theorem dX5_netAt_13 : decode cX5_netAt 13 = .ok (.iload_n 1, 1) := by decide +kernel
theorem dX5_netAt_14 : decode cX5_netAt 14 = .ok (.aaload, 1) := by decide +kernel
theorem dX5_netAt_15 : decode cX5_netAt 15 = .ok (.getfield 57, 3) := by decide +kernel
theorem dX5_netAt_18 : decode cX5_netAt 18 = .ok (.iconst (-1), 1) := by decide +kernel
theorem dX5_netAt_19 : decode cX5_netAt 19 = .ok (.if_icmp .ne 7, 3) := by decide +kernel
theorem dX5_netAt_22 : decode cX5_netAt 22 = .ok (.aconst_null, 1) := by decide +kernel
theorem dX5_netAt_23 : decode cX5_netAt 23 = .ok (.goto 9, 3) := by decide +kernel
theorem dX5_netAt_26 : decode cX5_netAt 26 = .ok (.aload_n 0, 1) := by decide +kernel
theorem dX5_netAt_27 : decode cX5_netAt 27 = .ok (.getfield 23, 3) := by decide +kernel
theorem dX5_netAt_30 : decode cX5_netAt 30 = .ok (.iload_n 1, 1) := by decide +kernel
theorem dX5_netAt_31 : decode cX5_netAt 31 = .ok (.aaload, 1) := by decide +kernel
theorem dX5_netAt_32 : decode cX5_netAt 32 = .ok (.areturn, 1) := by decide +kernel
theorem dX5_linkAt_0 : decode cX5_linkAt 0 = .ok (.aload_n 0, 1) := by decide +kernel
theorem dX5_linkAt_1 : decode cX5_linkAt 1 = .ok (.iload_n 1, 1) := by decide +kernel
theorem dX5_linkAt_2 : decode cX5_linkAt 2 = .ok (.invokevirtual 60, 3) := by decide +kernel
theorem dX5_linkAt_5 : decode cX5_linkAt 5 = .ok (.astore_n 3, 1) := by decide +kernel
theorem dX5_linkAt_6 : decode cX5_linkAt 6 = .ok (.aload_n 3, 1) := by decide +kernel
theorem dX5_linkAt_7 : decode cX5_linkAt 7 = .ok (.ifnonnull 7, 3) := by decide +kernel
theorem dX5_linkAt_10 : decode cX5_linkAt 10 = .ok (.aconst_null, 1) := by decide +kernel
theorem dX5_linkAt_11 : decode cX5_linkAt 11 = .ok (.goto 8, 3) := by decide +kernel
theorem dX5_linkAt_14 : decode cX5_linkAt 14 = .ok (.aload_n 3, 1) := by decide +kernel
theorem dX5_linkAt_15 : decode cX5_linkAt 15 = .ok (.iload_n 2, 1) := by decide +kernel
theorem dX5_linkAt_16 : decode cX5_linkAt 16 = .ok (.invokevirtual 64, 3) := by decide +kernel
theorem dX5_linkAt_19 : decode cX5_linkAt 19 = .ok (.areturn, 1) := by decide +kernel
theorem dX5_hasBothNets_0 : decode cX5_hasBothNets 0 = .ok (.aload_n 0, 1) := by decide +kernel
theorem dX5_hasBothNets_1 : decode cX5_hasBothNets 1 = .ok (.iconst 0, 1) := by decide +kernel
theorem dX5_hasBothNets_2 : decode cX5_hasBothNets 2 = .ok (.invokevirtual 60, 3) := by decide +kernel
theorem dX5_hasBothNets_5 : decode cX5_hasBothNets 5 = .ok (.ifnull 15, 3) := by decide +kernel
theorem dX5_hasBothNets_8 : decode cX5_hasBothNets 8 = .ok (.aload_n 0, 1) := by decide +kernel
theorem dX5_hasBothNets_9 : decode cX5_hasBothNets 9 = .ok (.iconst 1, 1) := by decide +kernel
theorem dX5_hasBothNets_10 : decode cX5_hasBothNets 10 = .ok (.invokevirtual 60, 3) := by decide +kernel
theorem dX5_hasBothNets_13 : decode cX5_hasBothNets 13 = .ok (.ifnull 7, 3) := by decide +kernel
theorem dX5_hasBothNets_16 : decode cX5_hasBothNets 16 = .ok (.iconst 1, 1) := by decide +kernel
theorem dX5_hasBothNets_17 : decode cX5_hasBothNets 17 = .ok (.goto 4, 3) := by decide +kernel
theorem dX5_hasBothNets_20 : decode cX5_hasBothNets 20 = .ok (.iconst 0, 1) := by decide +kernel
theorem dX5_hasBothNets_21 : decode cX5_hasBothNets 21 = .ok (.ireturn, 1) := by decide +kernel
theorem dX5_hasRadio_0 : decode cX5_hasRadio 0 = .ok (.iload_n 1, 1) := by decide +kernel
theorem dX5_hasRadio_1 : decode cX5_hasRadio 1 = .ok (.ifCond .lt 15, 3) := by decide +kernel
theorem dX5_hasRadio_4 : decode cX5_hasRadio 4 = .ok (.iload_n 1, 1) := by decide +kernel
theorem dX5_hasRadio_5 : decode cX5_hasRadio 5 = .ok (.aload_n 0, 1) := by decide +kernel
theorem dX5_hasRadio_6 : decode cX5_hasRadio 6 = .ok (.getfield 27, 3) := by decide +kernel
theorem dX5_hasRadio_9 : decode cX5_hasRadio 9 = .ok (.if_icmp .ge 7, 3) := by decide +kernel
theorem dX5_hasRadio_12 : decode cX5_hasRadio 12 = .ok (.iconst 1, 1) := by decide +kernel
theorem dX5_hasRadio_13 : decode cX5_hasRadio 13 = .ok (.goto 4, 3) := by decide +kernel
theorem dX5_hasRadio_16 : decode cX5_hasRadio 16 = .ok (.iconst 0, 1) := by decide +kernel
theorem dX5_hasRadio_17 : decode cX5_hasRadio 17 = .ok (.ireturn, 1) := by decide +kernel
theorem dX5_isPresent_0 : decode cX5_isPresent 0 = .ok (.aload_n 0, 1) := by decide +kernel
theorem dX5_isPresent_1 : decode cX5_isPresent 1 = .ok (.getfield 23, 3) := by decide +kernel
theorem dX5_isPresent_4 : decode cX5_isPresent 4 = .ok (.iload_n 2, 1) := by decide +kernel
theorem dX5_isPresent_5 : decode cX5_isPresent 5 = .ok (.aaload, 1) := by decide +kernel
theorem dX5_isPresent_6 : decode cX5_isPresent 6 = .ok (.iload_n 1, 1) := by decide +kernel
theorem dX5_isPresent_7 : decode cX5_isPresent 7 = .ok (.invokevirtual 68, 3) := by decide +kernel
theorem dX5_isPresent_10 : decode cX5_isPresent 10 = .ok (.ifCond .ne 5, 3) := by decide +kernel
theorem dX5_isPresent_13 : decode cX5_isPresent 13 = .ok (.iconst 0, 1) := by decide +kernel
theorem dX5_isPresent_14 : decode cX5_isPresent 14 = .ok (.ireturn, 1) := by decide +kernel
theorem dX5_isPresent_15 : decode cX5_isPresent 15 = .ok (.aload_n 0, 1) := by decide +kernel
theorem dX5_isPresent_16 : decode cX5_isPresent 16 = .ok (.getfield 23, 3) := by decide +kernel
theorem dX5_isPresent_19 : decode cX5_isPresent 19 = .ok (.iconst 1, 1) := by decide +kernel
theorem dX5_isPresent_20 : decode cX5_isPresent 20 = .ok (.iload_n 2, 1) := by decide +kernel
theorem dX5_isPresent_21 : decode cX5_isPresent 21 = .ok (.isub, 1) := by decide +kernel
theorem dX5_isPresent_22 : decode cX5_isPresent 22 = .ok (.aaload, 1) := by decide +kernel
theorem dX5_isPresent_23 : decode cX5_isPresent 23 = .ok (.iload_n 1, 1) := by decide +kernel
theorem dX5_isPresent_24 : decode cX5_isPresent 24 = .ok (.invokevirtual 68, 3) := by decide +kernel
theorem dX5_isPresent_27 : decode cX5_isPresent 27 = .ok (.ifCond .ne 5, 3) := by decide +kernel
theorem dX5_isPresent_30 : decode cX5_isPresent 30 = .ok (.iconst 1, 1) := by decide +kernel
theorem dX5_isPresent_31 : decode cX5_isPresent 31 = .ok (.ireturn, 1) := by decide +kernel
theorem dX5_isPresent_32 : decode cX5_isPresent 32 = .ok (.iload_n 3, 1) := by decide +kernel
theorem dX5_isPresent_33 : decode cX5_isPresent 33 = .ok (.bipush 32, 2) := by decide +kernel
theorem dX5_isPresent_35 : decode cX5_isPresent 35 = .ok (.irem, 1) := by decide +kernel
theorem dX5_isPresent_36 : decode cX5_isPresent 36 = .ok (.aload_n 0, 1) := by decide +kernel
theorem dX5_isPresent_37 : decode cX5_isPresent 37 = .ok (.getfield 37, 3) := by decide +kernel
theorem dX5_isPresent_40 : decode cX5_isPresent 40 = .ok (.if_icmp .ge 7, 3) := by decide +kernel
theorem dX5_isPresent_43 : decode cX5_isPresent 43 = .ok (.iconst 1, 1) := by decide +kernel
theorem dX5_isPresent_44 : decode cX5_isPresent 44 = .ok (.goto 4, 3) := by decide +kernel
theorem dX5_isPresent_47 : decode cX5_isPresent 47 = .ok (.iconst 0, 1) := by decide +kernel
theorem dX5_isPresent_48 : decode cX5_isPresent 48 = .ok (.iload_n 2, 1) := by decide +kernel
theorem dX5_isPresent_49 : decode cX5_isPresent 49 = .ok (.ifCond .ne 7, 3) := by decide +kernel
theorem dX5_isPresent_52 : decode cX5_isPresent 52 = .ok (.iconst 1, 1) := by decide +kernel
theorem dX5_isPresent_53 : decode cX5_isPresent 53 = .ok (.goto 4, 3) := by decide +kernel
theorem dX5_isPresent_56 : decode cX5_isPresent 56 = .ok (.iconst 0, 1) := by decide +kernel
theorem dX5_isPresent_57 : decode cX5_isPresent 57 = .ok (.if_icmp .ne 7, 3) := by decide +kernel
theorem dX5_isPresent_60 : decode cX5_isPresent 60 = .ok (.iconst 1, 1) := by decide +kernel
theorem dX5_isPresent_61 : decode cX5_isPresent 61 = .ok (.goto 4, 3) := by decide +kernel
theorem dX5_isPresent_64 : decode cX5_isPresent 64 = .ok (.iconst 0, 1) := by decide +kernel
theorem dX5_isPresent_65 : decode cX5_isPresent 65 = .ok (.ireturn, 1) := by decide +kernel
theorem dX5_isReadyAt_0 : decode cX5_isReadyAt 0 = .ok (.aload_n 0, 1) := by decide +kernel
theorem dX5_isReadyAt_1 : decode cX5_isReadyAt 1 = .ok (.aload_n 2, 1) := by decide +kernel
theorem dX5_isReadyAt_2 : decode cX5_isReadyAt 2 = .ok (.getfield 72, 3) := by decide +kernel
theorem dX5_isReadyAt_5 : decode cX5_isReadyAt 5 = .ok (.iload_n 1, 1) := by decide +kernel
theorem dX5_isReadyAt_6 : decode cX5_isReadyAt 6 = .ok (.iload_n 3, 1) := by decide +kernel
theorem dX5_isReadyAt_7 : decode cX5_isReadyAt 7 = .ok (.invokevirtual 77, 3) := by decide +kernel
theorem dX5_isReadyAt_10 : decode cX5_isReadyAt 10 = .ok (.ifCond .eq 15, 3) := by decide +kernel
theorem dX5_isReadyAt_13 : decode cX5_isReadyAt 13 = .ok (.aload_n 2, 1) := by decide +kernel
theorem dX5_isReadyAt_14 : decode cX5_isReadyAt 14 = .ok (.iload_n 3, 1) := by decide +kernel
theorem dX5_isReadyAt_15 : decode cX5_isReadyAt 15 = .ok (.invokevirtual 81, 3) := by decide +kernel
theorem dX5_isReadyAt_18 : decode cX5_isReadyAt 18 = .ok (.ifCond .eq 7, 3) := by decide +kernel
theorem dX5_isReadyAt_21 : decode cX5_isReadyAt 21 = .ok (.iconst 1, 1) := by decide +kernel
theorem dX5_isReadyAt_22 : decode cX5_isReadyAt 22 = .ok (.goto 4, 3) := by decide +kernel
theorem dX5_isReadyAt_25 : decode cX5_isReadyAt 25 = .ok (.iconst 0, 1) := by decide +kernel
theorem dX5_isReadyAt_26 : decode cX5_isReadyAt 26 = .ok (.ireturn, 1) := by decide +kernel
theorem dX5_addressOf_0 : decode cX5_addressOf 0 = .ok (.aload_n 0, 1) := by decide +kernel
theorem dX5_addressOf_1 : decode cX5_addressOf 1 = .ok (.iload_n 1, 1) := by decide +kernel
theorem dX5_addressOf_2 : decode cX5_addressOf 2 = .ok (.invokevirtual 84, 3) := by decide +kernel
theorem dX5_addressOf_5 : decode cX5_addressOf 5 = .ok (.ifCond .eq 12, 3) := by decide +kernel
theorem dX5_addressOf_8 : decode cX5_addressOf 8 = .ok (.aload_n 0, 1) := by decide +kernel
theorem dX5_addressOf_9 : decode cX5_addressOf 9 = .ok (.getfield 9, 3) := by decide +kernel
theorem dX5_addressOf_12 : decode cX5_addressOf 12 = .ok (.iload_n 1, 1) := by decide +kernel
theorem dX5_addressOf_13 : decode cX5_addressOf 13 = .ok (.iaload, 1) := by decide +kernel
theorem dX5_addressOf_14 : decode cX5_addressOf 14 = .ok (.goto 4, 3) := by decide +kernel
theorem dX5_addressOf_17 : decode cX5_addressOf 17 = .ok (.iconst 0, 1) := by decide +kernel
theorem dX5_addressOf_18 : decode cX5_addressOf 18 = .ok (.ireturn, 1) := by decide +kernel
theorem dX5_hopIn_0 : decode cX5_hopIn 0 = .ok (.aload_n 0, 1) := by decide +kernel
theorem dX5_hopIn_1 : decode cX5_hopIn 1 = .ok (.aload_n 0, 1) := by decide +kernel
theorem dX5_hopIn_2 : decode cX5_hopIn 2 = .ok (.getfield 23, 3) := by decide +kernel
theorem dX5_hopIn_5 : decode cX5_hopIn 5 = .ok (.iload_n 1, 1) := by decide +kernel
theorem dX5_hopIn_6 : decode cX5_hopIn 6 = .ok (.aaload, 1) := by decide +kernel
theorem dX5_hopIn_7 : decode cX5_hopIn 7 = .ok (.getfield 57, 3) := by decide +kernel
theorem dX5_hopIn_10 : decode cX5_hopIn 10 = .ok (.invokevirtual 87, 3) := by decide +kernel
theorem dX5_hopIn_13 : decode cX5_hopIn 13 = .ok (.iload_n 2, 1) := by decide +kernel
theorem dX5_hopIn_14 : decode cX5_hopIn 14 = .ok (.aload_n 0, 1) := by decide +kernel
theorem dX5_hopIn_15 : decode cX5_hopIn 15 = .ok (.getfield 23, 3) := by decide +kernel
theorem dX5_hopIn_18 : decode cX5_hopIn 18 = .ok (.iload_n 1, 1) := by decide +kernel
theorem dX5_hopIn_19 : decode cX5_hopIn 19 = .ok (.aaload, 1) := by decide +kernel
theorem dX5_hopIn_20 : decode cX5_hopIn 20 = .ok (.getfield 91, 3) := by decide +kernel
theorem dX5_hopIn_23 : decode cX5_hopIn 23 = .ok (.iadd, 1) := by decide +kernel
theorem dX5_hopIn_24 : decode cX5_hopIn 24 = .ok (.invokestatic 94, 3) := by decide +kernel
theorem dX5_hopIn_27 : decode cX5_hopIn 27 = .ok (.ireturn, 1) := by decide +kernel
theorem dX5_channelBy_0 : decode cX5_channelBy 0 = .ok (.aload_n 0, 1) := by decide +kernel
theorem dX5_channelBy_1 : decode cX5_channelBy 1 = .ok (.iload_n 1, 1) := by decide +kernel
theorem dX5_channelBy_2 : decode cX5_channelBy 2 = .ok (.iload_n 3, 1) := by decide +kernel
theorem dX5_channelBy_3 : decode cX5_channelBy 3 = .ok (.invokevirtual 98, 3) := by decide +kernel
theorem dX5_channelBy_6 : decode cX5_channelBy 6 = .ok (.iload_n 2, 1) := by decide +kernel
theorem dX5_channelBy_7 : decode cX5_channelBy 7 = .ok (.invokestatic 101, 3) := by decide +kernel
theorem dX5_channelBy_10 : decode cX5_channelBy 10 = .ok (.ireturn, 1) := by decide +kernel
theorem dX5_mastersMeet_0 : decode cX5_mastersMeet 0 = .ok (.aload_n 0, 1) := by decide +kernel
theorem dX5_mastersMeet_1 : decode cX5_mastersMeet 1 = .ok (.iconst 0, 1) := by decide +kernel
theorem dX5_mastersMeet_2 : decode cX5_mastersMeet 2 = .ok (.aload_n 0, 1) := by decide +kernel
theorem dX5_mastersMeet_3 : decode cX5_mastersMeet 3 = .ok (.getfield 23, 3) := by decide +kernel
theorem dX5_mastersMeet_6 : decode cX5_mastersMeet 6 = .ok (.iconst 0, 1) := by decide +kernel
theorem dX5_mastersMeet_7 : decode cX5_mastersMeet 7 = .ok (.aaload, 1) := by decide +kernel
theorem dX5_mastersMeet_8 : decode cX5_mastersMeet 8 = .ok (.getfield 104, 3) := by decide +kernel
theorem dX5_mastersMeet_11 : decode cX5_mastersMeet 11 = .ok (.getfield 108, 3) := by decide +kernel
theorem dX5_mastersMeet_14 : decode cX5_mastersMeet 14 = .ok (.iload_n 1, 1) := by decide +kernel
theorem dX5_mastersMeet_15 : decode cX5_mastersMeet 15 = .ok (.invokevirtual 113, 3) := by decide +kernel
theorem dX5_mastersMeet_18 : decode cX5_mastersMeet 18 = .ok (.aload_n 0, 1) := by decide +kernel
theorem dX5_mastersMeet_19 : decode cX5_mastersMeet 19 = .ok (.iconst 1, 1) := by decide +kernel
theorem dX5_mastersMeet_20 : decode cX5_mastersMeet 20 = .ok (.aload_n 0, 1) := by decide +kernel
theorem dX5_mastersMeet_21 : decode cX5_mastersMeet 21 = .ok (.getfield 23, 3) := by decide +kernel
theorem dX5_mastersMeet_24 : decode cX5_mastersMeet 24 = .ok (.iconst 1, 1) := by decide +kernel
theorem dX5_mastersMeet_25 : decode cX5_mastersMeet 25 = .ok (.aaload, 1) := by decide +kernel
theorem dX5_mastersMeet_26 : decode cX5_mastersMeet 26 = .ok (.getfield 104, 3) := by decide +kernel
theorem dX5_mastersMeet_29 : decode cX5_mastersMeet 29 = .ok (.getfield 108, 3) := by decide +kernel
theorem dX5_mastersMeet_32 : decode cX5_mastersMeet 32 = .ok (.iload_n 1, 1) := by decide +kernel
theorem dX5_mastersMeet_33 : decode cX5_mastersMeet 33 = .ok (.invokevirtual 113, 3) := by decide +kernel
theorem dX5_mastersMeet_36 : decode cX5_mastersMeet 36 = .ok (.if_icmp .ne 7, 3) := by decide +kernel
theorem dX5_mastersMeet_39 : decode cX5_mastersMeet 39 = .ok (.iconst 1, 1) := by decide +kernel
theorem dX5_mastersMeet_40 : decode cX5_mastersMeet 40 = .ok (.goto 4, 3) := by decide +kernel
theorem dX5_mastersMeet_43 : decode cX5_mastersMeet 43 = .ok (.iconst 0, 1) := by decide +kernel
theorem dX5_mastersMeet_44 : decode cX5_mastersMeet 44 = .ok (.ireturn, 1) := by decide +kernel
theorem dX5_noiseOn_0 : decode cX5_noiseOn 0 = .ok (.iload_n 1, 1) := by decide +kernel
theorem dX5_noiseOn_1 : decode cX5_noiseOn 1 = .ok (.ifCond .lt 18, 3) := by decide +kernel
theorem dX5_noiseOn_4 : decode cX5_noiseOn 4 = .ok (.iload_n 1, 1) := by decide +kernel
theorem dX5_noiseOn_5 : decode cX5_noiseOn 5 = .ok (.bipush 23, 2) := by decide +kernel
theorem dX5_noiseOn_7 : decode cX5_noiseOn 7 = .ok (.if_icmp .ge 12, 3) := by decide +kernel
theorem dX5_noiseOn_10 : decode cX5_noiseOn 10 = .ok (.aload_n 0, 1) := by decide +kernel
theorem dX5_noiseOn_11 : decode cX5_noiseOn 11 = .ok (.getfield 15, 3) := by decide +kernel
theorem dX5_noiseOn_14 : decode cX5_noiseOn 14 = .ok (.iload_n 1, 1) := by decide +kernel
theorem dX5_noiseOn_15 : decode cX5_noiseOn 15 = .ok (.iaload, 1) := by decide +kernel
theorem dX5_noiseOn_16 : decode cX5_noiseOn 16 = .ok (.goto 4, 3) := by decide +kernel
theorem dX5_noiseOn_19 : decode cX5_noiseOn 19 = .ok (.iconst 0, 1) := by decide +kernel
theorem dX5_noiseOn_20 : decode cX5_noiseOn 20 = .ok (.ireturn, 1) := by decide +kernel
theorem dX5_clearOf_0 : decode cX5_clearOf 0 = .ok (.aload_n 0, 1) := by decide +kernel
theorem dX5_clearOf_1 : decode cX5_clearOf 1 = .ok (.iload_n 1, 1) := by decide +kernel
theorem dX5_clearOf_2 : decode cX5_clearOf 2 = .ok (.iload_n 3, 1) := by decide +kernel
theorem dX5_clearOf_3 : decode cX5_clearOf 3 = .ok (.invokevirtual 98, 3) := by decide +kernel
theorem dX5_clearOf_6 : decode cX5_clearOf 6 = .ok (.istore 4, 2) := by decide +kernel
theorem dX5_clearOf_8 : decode cX5_clearOf 8 = .ok (.iload 4, 2) := by decide +kernel
theorem dX5_clearOf_10 : decode cX5_clearOf 10 = .ok (.aload_n 0, 1) := by decide +kernel
theorem dX5_clearOf_11 : decode cX5_clearOf 11 = .ok (.getfield 23, 3) := by decide +kernel
theorem dX5_clearOf_14 : decode cX5_clearOf 14 = .ok (.iload_n 1, 1) := by decide +kernel
theorem dX5_clearOf_15 : decode cX5_clearOf 15 = .ok (.aaload, 1) := by decide +kernel
theorem dX5_clearOf_16 : decode cX5_clearOf 16 = .ok (.getfield 104, 3) := by decide +kernel
theorem dX5_clearOf_19 : decode cX5_clearOf 19 = .ok (.getfield 108, 3) := by decide +kernel
theorem dX5_clearOf_22 : decode cX5_clearOf 22 = .ok (.invokestatic 101, 3) := by decide +kernel
theorem dX5_clearOf_25 : decode cX5_clearOf 25 = .ok (.istore 5, 2) := by decide +kernel
theorem dX5_clearOf_27 : decode cX5_clearOf 27 = .ok (.iload 4, 2) := by decide +kernel
theorem dX5_clearOf_29 : decode cX5_clearOf 29 = .ok (.aload_n 2, 1) := by decide +kernel
theorem dX5_clearOf_30 : decode cX5_clearOf 30 = .ok (.getfield 117, 3) := by decide +kernel
theorem dX5_clearOf_33 : decode cX5_clearOf 33 = .ok (.getfield 108, 3) := by decide +kernel
theorem dX5_clearOf_36 : decode cX5_clearOf 36 = .ok (.invokestatic 101, 3) := by decide +kernel
theorem dX5_clearOf_39 : decode cX5_clearOf 39 = .ok (.iload 5, 2) := by decide +kernel
theorem dX5_clearOf_41 : decode cX5_clearOf 41 = .ok (.if_icmp .ne 7, 3) := by decide +kernel
theorem dX5_clearOf_44 : decode cX5_clearOf 44 = .ok (.iconst 1, 1) := by decide +kernel
theorem dX5_clearOf_45 : decode cX5_clearOf 45 = .ok (.goto 4, 3) := by decide +kernel
theorem dX5_clearOf_48 : decode cX5_clearOf 48 = .ok (.iconst 0, 1) := by decide +kernel
theorem dX5_clearOf_49 : decode cX5_clearOf 49 = .ok (.istore 6, 2) := by decide +kernel
theorem dX5_clearOf_51 : decode cX5_clearOf 51 = .ok (.iload 6, 2) := by decide +kernel
theorem dX5_clearOf_53 : decode cX5_clearOf 53 = .ok (.ifCond .eq 15, 3) := by decide +kernel
theorem dX5_clearOf_56 : decode cX5_clearOf 56 = .ok (.bipush 16, 2) := by decide +kernel
theorem dX5_clearOf_58 : decode cX5_clearOf 58 = .ok (.aload_n 0, 1) := by decide +kernel
theorem dX5_clearOf_59 : decode cX5_clearOf 59 = .ok (.iload 5, 2) := by decide +kernel
theorem dX5_clearOf_61 : decode cX5_clearOf 61 = .ok (.invokevirtual 118, 3) := by decide +kernel
theorem dX5_clearOf_64 : decode cX5_clearOf 64 = .ok (.isub, 1) := by decide +kernel
theorem dX5_clearOf_65 : decode cX5_clearOf 65 = .ok (.goto 4, 3) := by decide +kernel
theorem dX5_clearOf_68 : decode cX5_clearOf 68 = .ok (.iconst 0, 1) := by decide +kernel
theorem dX5_clearOf_69 : decode cX5_clearOf 69 = .ok (.ireturn, 1) := by decide +kernel
theorem dX5_framesMissed_0 : decode cX5_framesMissed 0 = .ok (.iconst 0, 1) := by decide +kernel
theorem dX5_framesMissed_1 : decode cX5_framesMissed 1 = .ok (.istore_n 1, 1) := by decide +kernel
theorem dX5_framesMissed_2 : decode cX5_framesMissed 2 = .ok (.iconst 0, 1) := by decide +kernel
theorem dX5_framesMissed_3 : decode cX5_framesMissed 3 = .ok (.istore_n 2, 1) := by decide +kernel
theorem dX5_framesMissed_4 : decode cX5_framesMissed 4 = .ok (.iload_n 2, 1) := by decide +kernel
theorem dX5_framesMissed_5 : decode cX5_framesMissed 5 = .ok (.iconst 2, 1) := by decide +kernel
theorem dX5_framesMissed_6 : decode cX5_framesMissed 6 = .ok (.if_icmp .ge 55, 3) := by decide +kernel
theorem dX5_framesMissed_9 : decode cX5_framesMissed 9 = .ok (.iconst 0, 1) := by decide +kernel
theorem dX5_framesMissed_10 : decode cX5_framesMissed 10 = .ok (.istore_n 3, 1) := by decide +kernel
theorem dX5_framesMissed_11 : decode cX5_framesMissed 11 = .ok (.iload_n 3, 1) := by decide +kernel
theorem dX5_framesMissed_12 : decode cX5_framesMissed 12 = .ok (.aload_n 0, 1) := by decide +kernel
theorem dX5_framesMissed_13 : decode cX5_framesMissed 13 = .ok (.getfield 23, 3) := by decide +kernel
theorem dX5_framesMissed_16 : decode cX5_framesMissed 16 = .ok (.iload_n 2, 1) := by decide +kernel
theorem dX5_framesMissed_17 : decode cX5_framesMissed 17 = .ok (.aaload, 1) := by decide +kernel
theorem dX5_framesMissed_18 : decode cX5_framesMissed 18 = .ok (.getfield 121, 3) := by decide +kernel
theorem dX5_framesMissed_21 : decode cX5_framesMissed 21 = .ok (.if_icmp .ge 34, 3) := by decide +kernel
theorem dX5_framesMissed_24 : decode cX5_framesMissed 24 = .ok (.iload_n 3, 1) := by decide +kernel
theorem dX5_framesMissed_25 : decode cX5_framesMissed 25 = .ok (.iconst 4, 1) := by decide +kernel
theorem dX5_framesMissed_26 : decode cX5_framesMissed 26 = .ok (.if_icmp .ge 29, 3) := by decide +kernel
theorem dX5_framesMissed_29 : decode cX5_framesMissed 29 = .ok (.iload_n 1, 1) := by decide +kernel
theorem dX5_framesMissed_30 : decode cX5_framesMissed 30 = .ok (.aload_n 0, 1) := by decide +kernel
theorem dX5_framesMissed_31 : decode cX5_framesMissed 31 = .ok (.getfield 23, 3) := by decide +kernel
theorem dX5_framesMissed_34 : decode cX5_framesMissed 34 = .ok (.iload_n 2, 1) := by decide +kernel
theorem dX5_framesMissed_35 : decode cX5_framesMissed 35 = .ok (.aaload, 1) := by decide +kernel
theorem dX5_framesMissed_36 : decode cX5_framesMissed 36 = .ok (.getfield 124, 3) := by decide +kernel
theorem dX5_framesMissed_39 : decode cX5_framesMissed 39 = .ok (.iload_n 3, 1) := by decide +kernel
theorem dX5_framesMissed_40 : decode cX5_framesMissed 40 = .ok (.aaload, 1) := by decide +kernel
theorem dX5_framesMissed_41 : decode cX5_framesMissed 41 = .ok (.getfield 128, 3) := by decide +kernel
theorem dX5_framesMissed_44 : decode cX5_framesMissed 44 = .ok (.getfield 132, 3) := by decide +kernel
theorem dX5_framesMissed_47 : decode cX5_framesMissed 47 = .ok (.iadd, 1) := by decide +kernel
theorem dX5_framesMissed_48 : decode cX5_framesMissed 48 = .ok (.istore_n 1, 1) := by decide +kernel
theorem dX5_framesMissed_49 : decode cX5_framesMissed 49 = .ok (.iinc 3 1, 3) := by decide +kernel
theorem dX5_framesMissed_52 : decode cX5_framesMissed 52 = .ok (.goto (-41), 3) := by decide +kernel
theorem dX5_framesMissed_55 : decode cX5_framesMissed 55 = .ok (.iinc 2 1, 3) := by decide +kernel
theorem dX5_framesMissed_58 : decode cX5_framesMissed 58 = .ok (.goto (-54), 3) := by decide +kernel
theorem dX5_framesMissed_61 : decode cX5_framesMissed 61 = .ok (.iload_n 1, 1) := by decide +kernel
theorem dX5_framesMissed_62 : decode cX5_framesMissed 62 = .ok (.ireturn, 1) := by decide +kernel
theorem dX5_linksOfOtherMap_0 : decode cX5_linksOfOtherMap 0 = .ok (.iconst 0, 1) := by decide +kernel
theorem dX5_linksOfOtherMap_1 : decode cX5_linksOfOtherMap 1 = .ok (.istore_n 1, 1) := by decide +kernel
theorem dX5_linksOfOtherMap_2 : decode cX5_linksOfOtherMap 2 = .ok (.iconst 0, 1) := by decide +kernel
theorem dX5_linksOfOtherMap_3 : decode cX5_linksOfOtherMap 3 = .ok (.istore_n 2, 1) := by decide +kernel
theorem dX5_linksOfOtherMap_4 : decode cX5_linksOfOtherMap 4 = .ok (.iload_n 2, 1) := by decide +kernel
theorem dX5_linksOfOtherMap_5 : decode cX5_linksOfOtherMap 5 = .ok (.iconst 2, 1) := by decide +kernel
theorem dX5_linksOfOtherMap_6 : decode cX5_linksOfOtherMap 6 = .ok (.if_icmp .ge 70, 3) := by decide +kernel
theorem dX5_linksOfOtherMap_9 : decode cX5_linksOfOtherMap 9 = .ok (.iconst 0, 1) := by decide +kernel
theorem dX5_linksOfOtherMap_10 : decode cX5_linksOfOtherMap 10 = .ok (.istore_n 3, 1) := by decide +kernel
theorem dX5_linksOfOtherMap_11 : decode cX5_linksOfOtherMap 11 = .ok (.iload_n 3, 1) := by decide +kernel
theorem dX5_linksOfOtherMap_12 : decode cX5_linksOfOtherMap 12 = .ok (.aload_n 0, 1) := by decide +kernel
theorem dX5_linksOfOtherMap_13 : decode cX5_linksOfOtherMap 13 = .ok (.getfield 23, 3) := by decide +kernel
theorem dX5_linksOfOtherMap_16 : decode cX5_linksOfOtherMap 16 = .ok (.iload_n 2, 1) := by decide +kernel
theorem dX5_linksOfOtherMap_17 : decode cX5_linksOfOtherMap 17 = .ok (.aaload, 1) := by decide +kernel
theorem dX5_linksOfOtherMap_18 : decode cX5_linksOfOtherMap 18 = .ok (.getfield 121, 3) := by decide +kernel
theorem dX5_linksOfOtherMap_21 : decode cX5_linksOfOtherMap 21 = .ok (.if_icmp .ge 49, 3) := by decide +kernel
theorem dX5_linksOfOtherMap_24 : decode cX5_linksOfOtherMap 24 = .ok (.iload_n 3, 1) := by decide +kernel
theorem dX5_linksOfOtherMap_25 : decode cX5_linksOfOtherMap 25 = .ok (.iconst 4, 1) := by decide +kernel
theorem dX5_linksOfOtherMap_26 : decode cX5_linksOfOtherMap 26 = .ok (.if_icmp .ge 44, 3) := by decide +kernel
theorem dX5_linksOfOtherMap_29 : decode cX5_linksOfOtherMap 29 = .ok (.aload_n 0, 1) := by decide +kernel
theorem dX5_linksOfOtherMap_30 : decode cX5_linksOfOtherMap 30 = .ok (.getfield 23, 3) := by decide +kernel
theorem dX5_linksOfOtherMap_33 : decode cX5_linksOfOtherMap 33 = .ok (.iload_n 2, 1) := by decide +kernel
theorem dX5_linksOfOtherMap_34 : decode cX5_linksOfOtherMap 34 = .ok (.aaload, 1) := by decide +kernel
theorem dX5_linksOfOtherMap_35 : decode cX5_linksOfOtherMap 35 = .ok (.getfield 124, 3) := by decide +kernel
theorem dX5_linksOfOtherMap_38 : decode cX5_linksOfOtherMap 38 = .ok (.iload_n 3, 1) := by decide +kernel
theorem dX5_linksOfOtherMap_39 : decode cX5_linksOfOtherMap 39 = .ok (.aaload, 1) := by decide +kernel
theorem dX5_linksOfOtherMap_40 : decode cX5_linksOfOtherMap 40 = .ok (.getfield 117, 3) := by decide +kernel
theorem dX5_linksOfOtherMap_43 : decode cX5_linksOfOtherMap 43 = .ok (.getfield 108, 3) := by decide +kernel
theorem dX5_linksOfOtherMap_46 : decode cX5_linksOfOtherMap 46 = .ok (.aload_n 0, 1) := by decide +kernel
theorem dX5_linksOfOtherMap_47 : decode cX5_linksOfOtherMap 47 = .ok (.getfield 23, 3) := by decide +kernel
theorem dX5_linksOfOtherMap_50 : decode cX5_linksOfOtherMap 50 = .ok (.iload_n 2, 1) := by decide +kernel
theorem dX5_linksOfOtherMap_51 : decode cX5_linksOfOtherMap 51 = .ok (.aaload, 1) := by decide +kernel
theorem dX5_linksOfOtherMap_52 : decode cX5_linksOfOtherMap 52 = .ok (.getfield 104, 3) := by decide +kernel
theorem dX5_linksOfOtherMap_55 : decode cX5_linksOfOtherMap 55 = .ok (.getfield 108, 3) := by decide +kernel
theorem dX5_linksOfOtherMap_58 : decode cX5_linksOfOtherMap 58 = .ok (.if_icmp .eq 6, 3) := by decide +kernel
theorem dX5_linksOfOtherMap_61 : decode cX5_linksOfOtherMap 61 = .ok (.iinc 1 1, 3) := by decide +kernel
theorem dX5_linksOfOtherMap_64 : decode cX5_linksOfOtherMap 64 = .ok (.iinc 3 1, 3) := by decide +kernel
theorem dX5_linksOfOtherMap_67 : decode cX5_linksOfOtherMap 67 = .ok (.goto (-56), 3) := by decide +kernel
theorem dX5_linksOfOtherMap_70 : decode cX5_linksOfOtherMap 70 = .ok (.iinc 2 1, 3) := by decide +kernel
theorem dX5_linksOfOtherMap_73 : decode cX5_linksOfOtherMap 73 = .ok (.goto (-69), 3) := by decide +kernel
theorem dX5_linksOfOtherMap_76 : decode cX5_linksOfOtherMap 76 = .ok (.iload_n 1, 1) := by decide +kernel
theorem dX5_linksOfOtherMap_77 : decode cX5_linksOfOtherMap 77 = .ok (.ireturn, 1) := by decide +kernel
theorem dX5_heardOfAll_0 : decode cX5_heardOfAll 0 = .ok (.iconst 0, 1) := by decide +kernel
theorem dX5_heardOfAll_1 : decode cX5_heardOfAll 1 = .ok (.istore_n 1, 1) := by decide +kernel
theorem dX5_heardOfAll_2 : decode cX5_heardOfAll 2 = .ok (.iconst 0, 1) := by decide +kernel
theorem dX5_heardOfAll_3 : decode cX5_heardOfAll 3 = .ok (.istore_n 2, 1) := by decide +kernel
theorem dX5_heardOfAll_4 : decode cX5_heardOfAll 4 = .ok (.iload_n 2, 1) := by decide +kernel
theorem dX5_heardOfAll_5 : decode cX5_heardOfAll 5 = .ok (.iconst 2, 1) := by decide +kernel
theorem dX5_heardOfAll_6 : decode cX5_heardOfAll 6 = .ok (.if_icmp .ge 73, 3) := by decide +kernel
theorem dX5_heardOfAll_9 : decode cX5_heardOfAll 9 = .ok (.iconst 0, 1) := by decide +kernel
theorem dX5_heardOfAll_10 : decode cX5_heardOfAll 10 = .ok (.istore_n 3, 1) := by decide +kernel
theorem dX5_heardOfAll_11 : decode cX5_heardOfAll 11 = .ok (.iload_n 3, 1) := by decide +kernel
theorem dX5_heardOfAll_12 : decode cX5_heardOfAll 12 = .ok (.aload_n 0, 1) := by decide +kernel
theorem dX5_heardOfAll_13 : decode cX5_heardOfAll 13 = .ok (.getfield 23, 3) := by decide +kernel
theorem dX5_heardOfAll_16 : decode cX5_heardOfAll 16 = .ok (.iload_n 2, 1) := by decide +kernel
theorem dX5_heardOfAll_17 : decode cX5_heardOfAll 17 = .ok (.aaload, 1) := by decide +kernel
theorem dX5_heardOfAll_18 : decode cX5_heardOfAll 18 = .ok (.getfield 121, 3) := by decide +kernel
theorem dX5_heardOfAll_21 : decode cX5_heardOfAll 21 = .ok (.if_icmp .ge 52, 3) := by decide +kernel
theorem dX5_heardOfAll_24 : decode cX5_heardOfAll 24 = .ok (.iload_n 3, 1) := by decide +kernel
theorem dX5_heardOfAll_25 : decode cX5_heardOfAll 25 = .ok (.iconst 4, 1) := by decide +kernel
theorem dX5_heardOfAll_26 : decode cX5_heardOfAll 26 = .ok (.if_icmp .ge 47, 3) := by decide +kernel
theorem dX5_heardOfAll_29 : decode cX5_heardOfAll 29 = .ok (.iload_n 1, 1) := by decide +kernel
theorem dX5_heardOfAll_30 : decode cX5_heardOfAll 30 = .ok (.aload_n 0, 1) := by decide +kernel
theorem dX5_heardOfAll_31 : decode cX5_heardOfAll 31 = .ok (.getfield 23, 3) := by decide +kernel
theorem dX5_heardOfAll_34 : decode cX5_heardOfAll 34 = .ok (.iload_n 2, 1) := by decide +kernel
theorem dX5_heardOfAll_35 : decode cX5_heardOfAll 35 = .ok (.aaload, 1) := by decide +kernel
theorem dX5_heardOfAll_36 : decode cX5_heardOfAll 36 = .ok (.getfield 124, 3) := by decide +kernel
theorem dX5_heardOfAll_39 : decode cX5_heardOfAll 39 = .ok (.iload_n 3, 1) := by decide +kernel
theorem dX5_heardOfAll_40 : decode cX5_heardOfAll 40 = .ok (.aaload, 1) := by decide +kernel
theorem dX5_heardOfAll_41 : decode cX5_heardOfAll 41 = .ok (.getfield 137, 3) := by decide +kernel
theorem dX5_heardOfAll_44 : decode cX5_heardOfAll 44 = .ok (.getfield 141, 3) := by decide +kernel
theorem dX5_heardOfAll_47 : decode cX5_heardOfAll 47 = .ok (.aload_n 0, 1) := by decide +kernel
theorem dX5_heardOfAll_48 : decode cX5_heardOfAll 48 = .ok (.getfield 23, 3) := by decide +kernel
theorem dX5_heardOfAll_51 : decode cX5_heardOfAll 51 = .ok (.iload_n 2, 1) := by decide +kernel
theorem dX5_heardOfAll_52 : decode cX5_heardOfAll 52 = .ok (.aaload, 1) := by decide +kernel
theorem dX5_heardOfAll_53 : decode cX5_heardOfAll 53 = .ok (.getfield 124, 3) := by decide +kernel
theorem dX5_heardOfAll_56 : decode cX5_heardOfAll 56 = .ok (.iload_n 3, 1) := by decide +kernel
theorem dX5_heardOfAll_57 : decode cX5_heardOfAll 57 = .ok (.aaload, 1) := by decide +kernel
theorem dX5_heardOfAll_58 : decode cX5_heardOfAll 58 = .ok (.getfield 146, 3) := by decide +kernel
theorem dX5_heardOfAll_61 : decode cX5_heardOfAll 61 = .ok (.getfield 141, 3) := by decide +kernel
theorem dX5_heardOfAll_64 : decode cX5_heardOfAll 64 = .ok (.iadd, 1) := by decide +kernel
theorem dX5_heardOfAll_65 : decode cX5_heardOfAll 65 = .ok (.iadd, 1) := by decide +kernel
theorem dX5_heardOfAll_66 : decode cX5_heardOfAll 66 = .ok (.istore_n 1, 1) := by decide +kernel
theorem dX5_heardOfAll_67 : decode cX5_heardOfAll 67 = .ok (.iinc 3 1, 3) := by decide +kernel
theorem dX5_heardOfAll_70 : decode cX5_heardOfAll 70 = .ok (.goto (-59), 3) := by decide +kernel
theorem dX5_heardOfAll_73 : decode cX5_heardOfAll 73 = .ok (.iinc 2 1, 3) := by decide +kernel
theorem dX5_heardOfAll_76 : decode cX5_heardOfAll 76 = .ok (.goto (-72), 3) := by decide +kernel
theorem dX5_heardOfAll_79 : decode cX5_heardOfAll 79 = .ok (.iload_n 1, 1) := by decide +kernel
theorem dX5_heardOfAll_80 : decode cX5_heardOfAll 80 = .ok (.ireturn, 1) := by decide +kernel
theorem dX5_draw_0 : decode cX5_draw 0 = .ok (.aload_n 0, 1) := by decide +kernel
theorem dX5_draw_1 : decode cX5_draw 1 = .ok (.sipush 1103, 3) := by decide +kernel
theorem dX5_draw_4 : decode cX5_draw 4 = .ok (.aload_n 0, 1) := by decide +kernel
theorem dX5_draw_5 : decode cX5_draw 5 = .ok (.getfield 34, 3) := by decide +kernel
theorem dX5_draw_8 : decode cX5_draw 8 = .ok (.imul, 1) := by decide +kernel
theorem dX5_draw_9 : decode cX5_draw 9 = .ok (.sipush 12345, 3) := by decide +kernel
theorem dX5_draw_12 : decode cX5_draw 12 = .ok (.iadd, 1) := by decide +kernel
theorem dX5_draw_13 : decode cX5_draw 13 = .ok (.ldc 225, 2) := by decide +kernel
theorem dX5_draw_15 : decode cX5_draw 15 = .ok (.irem, 1) := by decide +kernel
theorem dX5_draw_16 : decode cX5_draw 16 = .ok (.putfield 34, 3) := by decide +kernel
theorem dX5_draw_19 : decode cX5_draw 19 = .ok (.aload_n 0, 1) := by decide +kernel
theorem dX5_draw_20 : decode cX5_draw 20 = .ok (.getfield 34, 3) := by decide +kernel
theorem dX5_draw_23 : decode cX5_draw 23 = .ok (.bipush 16, 2) := by decide +kernel
theorem dX5_draw_25 : decode cX5_draw 25 = .ok (.irem, 1) := by decide +kernel
theorem dX5_draw_26 : decode cX5_draw 26 = .ok (.ireturn, 1) := by decide +kernel
theorem dX5_lossOnAir_0 : decode cX5_lossOnAir 0 = .ok (.aload_n 0, 1) := by decide +kernel
theorem dX5_lossOnAir_1 : decode cX5_lossOnAir 1 = .ok (.getfield 23, 3) := by decide +kernel
theorem dX5_lossOnAir_4 : decode cX5_lossOnAir 4 = .ok (.iload_n 1, 1) := by decide +kernel
theorem dX5_lossOnAir_5 : decode cX5_lossOnAir 5 = .ok (.aaload, 1) := by decide +kernel
theorem dX5_lossOnAir_6 : decode cX5_lossOnAir 6 = .ok (.getfield 226, 3) := by decide +kernel
theorem dX5_lossOnAir_9 : decode cX5_lossOnAir 9 = .ok (.istore_n 2, 1) := by decide +kernel
theorem dX5_lossOnAir_10 : decode cX5_lossOnAir 10 = .ok (.aload_n 0, 1) := by decide +kernel
theorem dX5_lossOnAir_11 : decode cX5_lossOnAir 11 = .ok (.invokevirtual 229, 3) := by decide +kernel
theorem dX5_lossOnAir_14 : decode cX5_lossOnAir 14 = .ok (.aload_n 0, 1) := by decide +kernel
theorem dX5_lossOnAir_15 : decode cX5_lossOnAir 15 = .ok (.iload_n 2, 1) := by decide +kernel
theorem dX5_lossOnAir_16 : decode cX5_lossOnAir 16 = .ok (.invokevirtual 118, 3) := by decide +kernel
theorem dX5_lossOnAir_19 : decode cX5_lossOnAir 19 = .ok (.if_icmp .ge 5, 3) := by decide +kernel
theorem dX5_lossOnAir_22 : decode cX5_lossOnAir 22 = .ok (.iconst 1, 1) := by decide +kernel
theorem dX5_lossOnAir_23 : decode cX5_lossOnAir 23 = .ok (.ireturn, 1) := by decide +kernel
theorem dX5_lossOnAir_24 : decode cX5_lossOnAir 24 = .ok (.aload_n 0, 1) := by decide +kernel
theorem dX5_lossOnAir_25 : decode cX5_lossOnAir 25 = .ok (.getfield 23, 3) := by decide +kernel
theorem dX5_lossOnAir_28 : decode cX5_lossOnAir 28 = .ok (.iconst 1, 1) := by decide +kernel
theorem dX5_lossOnAir_29 : decode cX5_lossOnAir 29 = .ok (.iload_n 1, 1) := by decide +kernel
theorem dX5_lossOnAir_30 : decode cX5_lossOnAir 30 = .ok (.isub, 1) := by decide +kernel
theorem dX5_lossOnAir_31 : decode cX5_lossOnAir 31 = .ok (.aaload, 1) := by decide +kernel
theorem dX5_lossOnAir_32 : decode cX5_lossOnAir 32 = .ok (.getfield 226, 3) := by decide +kernel
theorem dX5_lossOnAir_35 : decode cX5_lossOnAir 35 = .ok (.iload_n 2, 1) := by decide +kernel
theorem dX5_lossOnAir_36 : decode cX5_lossOnAir 36 = .ok (.if_icmp .ne 7, 3) := by decide +kernel
theorem dX5_lossOnAir_39 : decode cX5_lossOnAir 39 = .ok (.iconst 2, 1) := by decide +kernel
theorem dX5_lossOnAir_40 : decode cX5_lossOnAir 40 = .ok (.goto 4, 3) := by decide +kernel
theorem dX5_lossOnAir_43 : decode cX5_lossOnAir 43 = .ok (.iconst 0, 1) := by decide +kernel
theorem dX5_lossOnAir_44 : decode cX5_lossOnAir 44 = .ok (.ireturn, 1) := by decide +kernel
theorem dX5_changeMaps_0 : decode cX5_changeMaps 0 = .ok (.aload_n 1, 1) := by decide +kernel
theorem dX5_changeMaps_1 : decode cX5_changeMaps 1 = .ok (.getfield 104, 3) := by decide +kernel
theorem dX5_changeMaps_4 : decode cX5_changeMaps 4 = .ok (.getfield 108, 3) := by decide +kernel
theorem dX5_changeMaps_7 : decode cX5_changeMaps 7 = .ok (.istore_n 2, 1) := by decide +kernel
theorem dX5_changeMaps_8 : decode cX5_changeMaps 8 = .ok (.aload_n 1, 1) := by decide +kernel
theorem dX5_changeMaps_9 : decode cX5_changeMaps 9 = .ok (.getfield 104, 3) := by decide +kernel
theorem dX5_changeMaps_12 : decode cX5_changeMaps 12 = .ok (.aload_n 0, 1) := by decide +kernel
theorem dX5_changeMaps_13 : decode cX5_changeMaps 13 = .ok (.getfield 31, 3) := by decide +kernel
theorem dX5_changeMaps_16 : decode cX5_changeMaps 16 = .ok (.invokevirtual 180, 3) := by decide +kernel
theorem dX5_changeMaps_19 : decode cX5_changeMaps 19 = .ok (.ifCond .eq 19, 3) := by decide +kernel
theorem dX5_changeMaps_22 : decode cX5_changeMaps 22 = .ok (.aload_n 1, 1) := by decide +kernel
theorem dX5_changeMaps_23 : decode cX5_changeMaps 23 = .ok (.iload_n 2, 1) := by decide +kernel
theorem dX5_changeMaps_24 : decode cX5_changeMaps 24 = .ok (.putfield 183, 3) := by decide +kernel
theorem dX5_changeMaps_27 : decode cX5_changeMaps 27 = .ok (.aload_n 0, 1) := by decide +kernel
theorem dX5_changeMaps_28 : decode cX5_changeMaps 28 = .ok (.getfield 18, 3) := by decide +kernel
theorem dX5_changeMaps_31 : decode cX5_changeMaps 31 = .ok (.bipush 8, 2) := by decide +kernel
theorem dX5_changeMaps_33 : decode cX5_changeMaps 33 = .ok (.dup2, 1) := by decide +kernel
theorem dX5_changeMaps_34 : decode cX5_changeMaps 34 = .ok (.iaload, 1) := by decide +kernel
theorem dX5_changeMaps_35 : decode cX5_changeMaps 35 = .ok (.iconst 1, 1) := by decide +kernel
theorem dX5_changeMaps_36 : decode cX5_changeMaps 36 = .ok (.iadd, 1) := by decide +kernel
theorem dX5_changeMaps_37 : decode cX5_changeMaps 37 = .ok (.iastore, 1) := by decide +kernel
theorem dX5_changeMaps_38 : decode cX5_changeMaps 38 = .ok (.iconst 0, 1) := by decide +kernel
theorem dX5_changeMaps_39 : decode cX5_changeMaps 39 = .ok (.istore_n 3, 1) := by decide +kernel
theorem dX5_changeMaps_40 : decode cX5_changeMaps 40 = .ok (.iload_n 3, 1) := by decide +kernel
theorem dX5_changeMaps_41 : decode cX5_changeMaps 41 = .ok (.aload_n 1, 1) := by decide +kernel
theorem dX5_changeMaps_42 : decode cX5_changeMaps 42 = .ok (.getfield 121, 3) := by decide +kernel
theorem dX5_changeMaps_45 : decode cX5_changeMaps 45 = .ok (.if_icmp .ge 31, 3) := by decide +kernel
theorem dX5_changeMaps_48 : decode cX5_changeMaps 48 = .ok (.iload_n 3, 1) := by decide +kernel
theorem dX5_changeMaps_49 : decode cX5_changeMaps 49 = .ok (.iconst 4, 1) := by decide +kernel
theorem dX5_changeMaps_50 : decode cX5_changeMaps 50 = .ok (.if_icmp .ge 26, 3) := by decide +kernel
theorem dX5_changeMaps_53 : decode cX5_changeMaps 53 = .ok (.aload_n 1, 1) := by decide +kernel
theorem dX5_changeMaps_54 : decode cX5_changeMaps 54 = .ok (.getfield 124, 3) := by decide +kernel
theorem dX5_changeMaps_57 : decode cX5_changeMaps 57 = .ok (.iload_n 3, 1) := by decide +kernel
theorem dX5_changeMaps_58 : decode cX5_changeMaps 58 = .ok (.aaload, 1) := by decide +kernel
theorem dX5_changeMaps_59 : decode cX5_changeMaps 59 = .ok (.getfield 117, 3) := by decide +kernel
theorem dX5_changeMaps_62 : decode cX5_changeMaps 62 = .ok (.aload_n 0, 1) := by decide +kernel
theorem dX5_changeMaps_63 : decode cX5_changeMaps 63 = .ok (.getfield 31, 3) := by decide +kernel
theorem dX5_changeMaps_66 : decode cX5_changeMaps 66 = .ok (.invokevirtual 180, 3) := by decide +kernel
theorem dX5_changeMaps_69 : decode cX5_changeMaps 69 = .ok (.pop, 1) := by decide +kernel
theorem dX5_changeMaps_70 : decode cX5_changeMaps 70 = .ok (.iinc 3 1, 3) := by decide +kernel
theorem dX5_changeMaps_73 : decode cX5_changeMaps 73 = .ok (.goto (-33), 3) := by decide +kernel
theorem dX5_changeMaps_76 : decode cX5_changeMaps 76 = .ok (.return_, 1) := by decide +kernel
theorem dX5_beginTurnOfLinks_0 : decode cX5_beginTurnOfLinks 0 = .ok (.iconst 0, 1) := by decide +kernel
theorem dX5_beginTurnOfLinks_1 : decode cX5_beginTurnOfLinks 1 = .ok (.istore_n 2, 1) := by decide +kernel
theorem dX5_beginTurnOfLinks_2 : decode cX5_beginTurnOfLinks 2 = .ok (.iload_n 2, 1) := by decide +kernel
theorem dX5_beginTurnOfLinks_3 : decode cX5_beginTurnOfLinks 3 = .ok (.aload_n 0, 1) := by decide +kernel
theorem dX5_beginTurnOfLinks_4 : decode cX5_beginTurnOfLinks 4 = .ok (.getfield 23, 3) := by decide +kernel
theorem dX5_beginTurnOfLinks_7 : decode cX5_beginTurnOfLinks 7 = .ok (.iload_n 1, 1) := by decide +kernel
theorem dX5_beginTurnOfLinks_8 : decode cX5_beginTurnOfLinks 8 = .ok (.aaload, 1) := by decide +kernel
theorem dX5_beginTurnOfLinks_9 : decode cX5_beginTurnOfLinks 9 = .ok (.getfield 121, 3) := by decide +kernel
theorem dX5_beginTurnOfLinks_12 : decode cX5_beginTurnOfLinks 12 = .ok (.if_icmp .ge 68, 3) := by decide +kernel
theorem dX5_beginTurnOfLinks_15 : decode cX5_beginTurnOfLinks 15 = .ok (.iload_n 2, 1) := by decide +kernel
theorem dX5_beginTurnOfLinks_16 : decode cX5_beginTurnOfLinks 16 = .ok (.iconst 4, 1) := by decide +kernel
theorem dX5_beginTurnOfLinks_17 : decode cX5_beginTurnOfLinks 17 = .ok (.if_icmp .ge 63, 3) := by decide +kernel
theorem dX5_beginTurnOfLinks_20 : decode cX5_beginTurnOfLinks 20 = .ok (.aload_n 0, 1) := by decide +kernel
theorem dX5_beginTurnOfLinks_21 : decode cX5_beginTurnOfLinks 21 = .ok (.getfield 23, 3) := by decide +kernel
theorem dX5_beginTurnOfLinks_24 : decode cX5_beginTurnOfLinks 24 = .ok (.iload_n 1, 1) := by decide +kernel
theorem dX5_beginTurnOfLinks_25 : decode cX5_beginTurnOfLinks 25 = .ok (.aaload, 1) := by decide +kernel
theorem dX5_beginTurnOfLinks_26 : decode cX5_beginTurnOfLinks 26 = .ok (.getfield 124, 3) := by decide +kernel
theorem dX5_beginTurnOfLinks_29 : decode cX5_beginTurnOfLinks 29 = .ok (.iload_n 2, 1) := by decide +kernel
theorem dX5_beginTurnOfLinks_30 : decode cX5_beginTurnOfLinks 30 = .ok (.aaload, 1) := by decide +kernel
theorem dX5_beginTurnOfLinks_31 : decode cX5_beginTurnOfLinks 31 = .ok (.astore_n 3, 1) := by decide +kernel
theorem dX5_beginTurnOfLinks_32 : decode cX5_beginTurnOfLinks 32 = .ok (.aload_n 3, 1) := by decide +kernel
theorem dX5_beginTurnOfLinks_33 : decode cX5_beginTurnOfLinks 33 = .ok (.getfield 128, 3) := by decide +kernel
theorem dX5_beginTurnOfLinks_36 : decode cX5_beginTurnOfLinks 36 = .ok (.aload_n 0, 1) := by decide +kernel
theorem dX5_beginTurnOfLinks_37 : decode cX5_beginTurnOfLinks 37 = .ok (.getfield 31, 3) := by decide +kernel
theorem dX5_beginTurnOfLinks_40 : decode cX5_beginTurnOfLinks 40 = .ok (.invokevirtual 186, 3) := by decide +kernel
theorem dX5_beginTurnOfLinks_43 : decode cX5_beginTurnOfLinks 43 = .ok (.aload_n 3, 1) := by decide +kernel
theorem dX5_beginTurnOfLinks_44 : decode cX5_beginTurnOfLinks 44 = .ok (.aload_n 0, 1) := by decide +kernel
theorem dX5_beginTurnOfLinks_45 : decode cX5_beginTurnOfLinks 45 = .ok (.iload_n 1, 1) := by decide +kernel
theorem dX5_beginTurnOfLinks_46 : decode cX5_beginTurnOfLinks 46 = .ok (.aload_n 3, 1) := by decide +kernel
theorem dX5_beginTurnOfLinks_47 : decode cX5_beginTurnOfLinks 47 = .ok (.aload_n 0, 1) := by decide +kernel
theorem dX5_beginTurnOfLinks_48 : decode cX5_beginTurnOfLinks 48 = .ok (.getfield 31, 3) := by decide +kernel
theorem dX5_beginTurnOfLinks_51 : decode cX5_beginTurnOfLinks 51 = .ok (.invokevirtual 189, 3) := by decide +kernel
theorem dX5_beginTurnOfLinks_54 : decode cX5_beginTurnOfLinks 54 = .ok (.putfield 193, 3) := by decide +kernel
theorem dX5_beginTurnOfLinks_57 : decode cX5_beginTurnOfLinks 57 = .ok (.aload_n 3, 1) := by decide +kernel
theorem dX5_beginTurnOfLinks_58 : decode cX5_beginTurnOfLinks 58 = .ok (.getfield 193, 3) := by decide +kernel
theorem dX5_beginTurnOfLinks_61 : decode cX5_beginTurnOfLinks 61 = .ok (.ifCond .eq 13, 3) := by decide +kernel
theorem dX5_beginTurnOfLinks_64 : decode cX5_beginTurnOfLinks 64 = .ok (.aload_n 3, 1) := by decide +kernel
theorem dX5_beginTurnOfLinks_65 : decode cX5_beginTurnOfLinks 65 = .ok (.dup, 1) := by decide +kernel
theorem dX5_beginTurnOfLinks_66 : decode cX5_beginTurnOfLinks 66 = .ok (.getfield 197, 3) := by decide +kernel
theorem dX5_beginTurnOfLinks_69 : decode cX5_beginTurnOfLinks 69 = .ok (.iconst 1, 1) := by decide +kernel
theorem dX5_beginTurnOfLinks_70 : decode cX5_beginTurnOfLinks 70 = .ok (.iadd, 1) := by decide +kernel
theorem dX5_beginTurnOfLinks_71 : decode cX5_beginTurnOfLinks 71 = .ok (.putfield 197, 3) := by decide +kernel
theorem dX5_beginTurnOfLinks_74 : decode cX5_beginTurnOfLinks 74 = .ok (.iinc 2 1, 3) := by decide +kernel
theorem dX5_beginTurnOfLinks_77 : decode cX5_beginTurnOfLinks 77 = .ok (.goto (-75), 3) := by decide +kernel
theorem dX5_beginTurnOfLinks_80 : decode cX5_beginTurnOfLinks 80 = .ok (.return_, 1) := by decide +kernel
theorem dX5_endTurnOfLinks_0 : decode cX5_endTurnOfLinks 0 = .ok (.iconst 0, 1) := by decide +kernel
theorem dX5_endTurnOfLinks_1 : decode cX5_endTurnOfLinks 1 = .ok (.istore_n 2, 1) := by decide +kernel
theorem dX5_endTurnOfLinks_2 : decode cX5_endTurnOfLinks 2 = .ok (.iload_n 2, 1) := by decide +kernel
theorem dX5_endTurnOfLinks_3 : decode cX5_endTurnOfLinks 3 = .ok (.aload_n 1, 1) := by decide +kernel
theorem dX5_endTurnOfLinks_4 : decode cX5_endTurnOfLinks 4 = .ok (.getfield 121, 3) := by decide +kernel
theorem dX5_endTurnOfLinks_7 : decode cX5_endTurnOfLinks 7 = .ok (.if_icmp .ge 26, 3) := by decide +kernel
theorem dX5_endTurnOfLinks_10 : decode cX5_endTurnOfLinks 10 = .ok (.iload_n 2, 1) := by decide +kernel
theorem dX5_endTurnOfLinks_11 : decode cX5_endTurnOfLinks 11 = .ok (.iconst 4, 1) := by decide +kernel
theorem dX5_endTurnOfLinks_12 : decode cX5_endTurnOfLinks 12 = .ok (.if_icmp .ge 21, 3) := by decide +kernel
theorem dX5_endTurnOfLinks_15 : decode cX5_endTurnOfLinks 15 = .ok (.aload_n 1, 1) := by decide +kernel
theorem dX5_endTurnOfLinks_16 : decode cX5_endTurnOfLinks 16 = .ok (.getfield 124, 3) := by decide +kernel
theorem dX5_endTurnOfLinks_19 : decode cX5_endTurnOfLinks 19 = .ok (.iload_n 2, 1) := by decide +kernel
theorem dX5_endTurnOfLinks_20 : decode cX5_endTurnOfLinks 20 = .ok (.aaload, 1) := by decide +kernel
theorem dX5_endTurnOfLinks_21 : decode cX5_endTurnOfLinks 21 = .ok (.getfield 128, 3) := by decide +kernel
theorem dX5_endTurnOfLinks_24 : decode cX5_endTurnOfLinks 24 = .ok (.invokevirtual 200, 3) := by decide +kernel
theorem dX5_endTurnOfLinks_27 : decode cX5_endTurnOfLinks 27 = .ok (.iinc 2 1, 3) := by decide +kernel
theorem dX5_endTurnOfLinks_30 : decode cX5_endTurnOfLinks 30 = .ok (.goto (-28), 3) := by decide +kernel
theorem dX5_endTurnOfLinks_33 : decode cX5_endTurnOfLinks 33 = .ok (.return_, 1) := by decide +kernel
set_option maxHeartbeats 4000000 in
set_option maxRecDepth 100000 in
theorem d_X5_netAt (l : Launch) (E : hE) (ρ r : Nat → Nat → Int32) (S : Nat × Nat → Prop) (hSS : SK S) (k : Nat) (h : hk k = 5) (a1 : Int32) (hI : CI r S ρ) : Met l yX5_netAt (.code yX5_netAt cX5_netAt 2 (some (.object "HopNet$Net")) :: gw_all) (rmk 1 40) (cPre E ρ [.ref (E.2.1 + k), .int a1]) (cQ E (fun v ρ1 => ρ = ρ1 ∧ CI r S ρ1 ∧ (v = none ∨ ∃ j : Nat, v = some (E.2.1 + (k + 4 + 1 + 42 * j)) ∧ a1 = nI j ∧ j < 2))) 0 0 (hA E) := by
  refine ent (own := RX5) (by decide) rfl (Nat.le_of_ble_eq_true rfl) ?_
  intro p e s m below meth c ls B hr hlk hl hP hS
  have hx := B.1.1
  have hb := B.1.2.1
  have hown := B.1.2.2.2.1
  have hts := B.1.2.2.2.2
  have hl : lv_has ls 2 [(0, .ref (E.2.1 + k)), (1, .int a1)] := hl
  refine lv_iload_n hx hb dX5_netAt_0 rfl (lv_at hl 1 rfl) ?_
  refine lv_if_lt (tgt := 22) hx hb dX5_netAt_1 (by decide) (fun c13 => ?_) (fun c13 => ?_)
  · skip
    have i14 : iR a1 (-2147483648) (-1) := (iR_ltL (iR_any a1) (show iR 0 (0) (0) from ⟨by decide, by decide⟩) c13 (by decide))
    refine lv_null hx hb dX5_netAt_22 ?_
    refine lv_goto (tgt := 32) hx hb dX5_netAt_23 (by decide) ?_
    exact ret_q none B hr hlk hP hS dX5_netAt_32 (⟨rfl, hI, (Or.inl rfl)⟩)
  · skip
    have i15 : iR a1 (0) (2147483647) := (iR_geL (iR_any a1) (show iR 0 (0) (0) from ⟨by decide, by decide⟩) c13 (by decide))
    refine lv_iload_n hx hb dX5_netAt_4 rfl (lv_at hl 1 rfl) ?_
    obtain ⟨j16, lj16, uj16, ej16⟩ := iR_nat (a := 0) (b := 2147483647) i15
    refine lv_topi (fun z17 ez17 => ?_)
    obtain rfl : z17 = nI j16 := ez17.trans ej16
    refine lv_iconst (v := 2) hx hb dX5_netAt_5 (by decide) ?_
    refine lv_icmp_ge (tgt := 22) hx hb dX5_netAt_6 (by decide) (fun c18 => ?_) (fun c18 => ?_)
    · skip
      have n19 := mt (nx_lt (a := j16) (b := 2) (by omega) (by omega)).mpr (show ¬ (nI j16 < nI 2) from (Int32.not_lt.mpr c18))
      refine lv_null hx hb dX5_netAt_22 ?_
      refine lv_goto (tgt := 32) hx hb dX5_netAt_23 (by decide) ?_
      exact ret_q none B hr hlk hP hS dX5_netAt_32 (⟨rfl, hI, (Or.inl rfl)⟩)
    · skip
      have n20 := (nx_lt (a := j16) (b := 2) (by omega) (by omega)).mp (show (nI j16 < nI 2) from (Int32.not_le.mp c18))
      refine lv_aload_n hx hb dX5_netAt_9 rfl (lv_at hl 0 rfl) ?_
      refine get5 B hP h 3 (by decide) mw_377 rfl dX5_netAt_10 ?_
      refine lv_iload_n hx hb dX5_netAt_13 rfl (lv_at hl 1 rfl) ?_
      refine lv_topi (fun z21 ez21 => ?_)
      obtain rfl : z21 = nI j16 := ez21.trans ej16
      refine aldNn (j := j16) B hP (lay5 h).2.2.2.2.2.2.1 (lay5 h).2.2.2.2.2.2.2.1 rfl (by omega) dX5_netAt_14 ?_
      refine get2 B hP (lay5n (n := j16) h (by omega)) 5 (by decide) mw_296 rfl dX5_netAt_15 ?_
      refine lv_iconst (v := (-1)) hx hb dX5_netAt_18 (by decide) ?_
      refine lv_icmp_ne (tgt := 26) hx hb dX5_netAt_19 (by decide) (fun c22 => ?_) (fun c22 => ?_)
      · skip
        refine lv_aload_n hx hb dX5_netAt_26 rfl (lv_at hl 0 rfl) ?_
        refine get5 B hP h 3 (by decide) mw_377 rfl dX5_netAt_27 ?_
        refine lv_iload_n hx hb dX5_netAt_30 rfl (lv_at hl 1 rfl) ?_
        refine lv_topi (fun z23 ez23 => ?_)
        obtain rfl : z23 = nI j16 := ez23.trans ej16
        refine aldNn (j := j16) B hP (lay5 h).2.2.2.2.2.2.1 (lay5 h).2.2.2.2.2.2.2.1 rfl (by omega) dX5_netAt_31 ?_
        exact ret_q (some (E.2.1 + ((k + 4) + 1 + 42 * j16))) B hr hlk hP hS dX5_netAt_32 (⟨rfl, hI, (Or.inr ⟨j16, rfl, ej16, by omega⟩)⟩)
      · skip
        have i24 : iR (ρ ((k + 4) + 1 + 42 * j16) 5) (-1) (-1) := (by rw [c22]; exact ⟨by decide, by decide⟩)
        refine lv_null hx hb dX5_netAt_22 ?_
        refine lv_goto (tgt := 32) hx hb dX5_netAt_23 (by decide) ?_
        exact ret_q none B hr hlk hP hS dX5_netAt_32 (⟨rfl, hI, (Or.inl rfl)⟩)

theorem lk_RX5_60 : LkV RX5 60 RX5 yX5_netAt cX5_netAt 2 (some (.object "HopNet$Net")) 1 := ⟨⟨mw_576, mw_517, mw_518, mw_53, mw_519⟩, by decide +kernel⟩
theorem lk_RX5_64 : LkV RX5 64 RX2 yX2_linkAt cX2_linkAt 2 (some (.object "HopNet$Link")) 1 := ⟨⟨mw_577, mw_545, mw_546, mw_54, mw_547⟩, by decide +kernel⟩
set_option maxHeartbeats 4000000 in
set_option maxRecDepth 100000 in
theorem d_X5_linkAt (l : Launch) (E : hE) (ρ r : Nat → Nat → Int32) (S : Nat × Nat → Prop) (hSS : SK S) (k : Nat) (h : hk k = 5) (a1 : Int32) (a2 : Int32) (hI : CI r S ρ) : Met l yX5_linkAt (.code yX5_linkAt cX5_linkAt 4 (some (.object "HopNet$Link")) :: gw_all) (rmk 2 80) (cPre E ρ [.ref (E.2.1 + k), .int a1, .int a2]) (cQ E (fun v ρ1 => ρ = ρ1 ∧ CI r S ρ1 ∧ (v = none ∨ ∃ j x : Nat, v = some (E.2.1 + x) ∧ hk x = 1 ∧ a1 = nI j ∧ j < 2))) 0 0 (hA E) := by
  refine ent (own := RX5) (by decide) rfl (Nat.le_of_ble_eq_true rfl) ?_
  intro p e s m below meth c ls B hr hlk hl hP hS
  have hx := B.1.1
  have hb := B.1.2.1
  have hown := B.1.2.2.2.1
  have hts := B.1.2.2.2.2
  have hl : lv_has ls 4 [(0, .ref (E.2.1 + k)), (1, .int a1), (2, .int a2)] := hl
  refine lv_aload_n hx hb dX5_linkAt_0 rfl (lv_at hl 0 rfl) ?_
  refine lv_iload_n hx hb dX5_linkAt_1 rfl (lv_at hl 1 rfl) ?_
  refine call_q (cVt (k := k) (av := [.int a1]) (rest := []) B hP hS (d_X5_netAt l E ρ r S hSS k h a1 hI) lk_RX5_60 (hrecv (ci := 5) B hP (hk_lt (c := 5) h (by decide)) (hcc5 _ _ h) rfl) rfl rfl hl.1 (Nat.le_of_ble_eq_true rfl) ⟨Nat.le_of_ble_eq_true rfl, Nat.le_of_ble_eq_true rfl⟩ ⟨Nat.le_of_ble_eq_true rfl, Nat.le_of_ble_eq_true rfl⟩ dX5_linkAt_2) hS (fun r12 ρ13 H locs q14 hP hS => ?_)
  obtain ⟨rfl, hI, q14⟩ := q14
  rcases q14 with rfl | ⟨j15, rfl, ej15, uj15⟩
  · skip
    refine W.eq (g2 := F0 m 5 ls [.null]) rfl ?_
    refine lv_astore_nN (lv' := [(3, .null), (0, .ref (E.2.1 + k)), (1, .int a1), (2, .int a2)]) hx hb dX5_linkAt_5 rfl hl (by decide) rfl (fun ls hl => ?_)
    refine lv_aload_nN hx hb dX5_linkAt_6 rfl (lv_at hl 0 rfl) ?_
    refine lv_ifnonnullN hx hb dX5_linkAt_7 ?_
    refine lv_null hx hb dX5_linkAt_10 ?_
    refine lv_goto (tgt := 19) hx hb dX5_linkAt_11 (by decide) ?_
    exact ret_q none B hr hlk hP hS dX5_linkAt_19 (⟨rfl, hI, (Or.inl rfl)⟩)
  · skip
    refine W.eq (g2 := F0 m 5 ls [.ref (E.2.1 + ((k + 4) + 1 + 42 * j15))]) rfl ?_
    refine lv_astore_n (lv' := [(3, .ref (E.2.1 + ((k + 4) + 1 + 42 * j15))), (0, .ref (E.2.1 + k)), (1, .int a1), (2, .int a2)]) hx hb dX5_linkAt_5 rfl hl (by decide) rfl (fun ls hl => ?_)
    refine lv_aload_n hx hb dX5_linkAt_6 rfl (lv_at hl 0 rfl) ?_
    refine lv_ifnonnull (tgt := 14) hx hb dX5_linkAt_7 (by decide) ?_
    refine lv_aload_n hx hb dX5_linkAt_14 rfl (lv_at hl 0 rfl) ?_
    refine lv_iload_n hx hb dX5_linkAt_15 rfl (lv_at hl 3 rfl) ?_
    refine call_q (cVt (k := ((k + 4) + 1 + 42 * j15)) (av := [.int a2]) (rest := []) B hP hS (d_X2_linkAt l E ρ r S hSS ((k + 4) + 1 + 42 * j15) (lay5n (n := j15) h uj15) a2 hI) lk_RX5_64 (hrecv (ci := 2) B hP (hk_lt (c := 2) (lay5n (n := j15) h uj15) (by decide)) (hcc2 _ _ (lay5n (n := j15) h uj15)) rfl) rfl rfl hl.1 (Nat.le_of_ble_eq_true rfl) ⟨Nat.le_of_ble_eq_true rfl, Nat.le_of_ble_eq_true rfl⟩ ⟨Nat.le_of_ble_eq_true rfl, Nat.le_of_ble_eq_true rfl⟩ dX5_linkAt_16) hS (fun r17 ρ18 H locs q19 hP hS => ?_)
    obtain ⟨rfl, hI, q19⟩ := q19
    rcases q19 with rfl | ⟨j20, k21, rfl, hk21, ej20, uj20, gj20⟩
    · skip
      refine W.eq (g2 := F0 m 19 ls [.null]) rfl ?_
      exact ret_q none B hr hlk hP hS dX5_linkAt_19 (⟨rfl, hI, (Or.inl rfl)⟩)
    · skip
      refine W.eq (g2 := F0 m 19 ls [.ref (E.2.1 + k21)]) rfl ?_
      have i22 : iR (ρ ((k + 4) + 1 + 42 * j15) 8) 1 4 := iR_w gj20 (by omega) (by omega)
      exact ret_q (some (E.2.1 + k21)) B hr hlk hP hS dX5_linkAt_19 (⟨rfl, hI, (Or.inr ⟨j15, k21, rfl, hk21, ej15, by omega⟩)⟩)

set_option maxHeartbeats 4000000 in
set_option maxRecDepth 100000 in
theorem d_X5_hasBothNets (l : Launch) (E : hE) (ρ r : Nat → Nat → Int32) (S : Nat × Nat → Prop) (hSS : SK S) (k : Nat) (h : hk k = 5) (hI : CI r S ρ) : Met l yX5_hasBothNets (.code yX5_hasBothNets cX5_hasBothNets 1 (some .boolean) :: gw_all) (rmk 2 80) (cPre E ρ [.ref (E.2.1 + k)]) (cI E (fun v ρ1 => ρ = ρ1 ∧ CI r S ρ1 ∧ iR v (0) (1))) 0 0 (hA E) := by
  refine ent (own := RX5) (by decide) rfl (Nat.le_of_ble_eq_true rfl) ?_
  intro p e s m below meth c ls B hr hlk hl hP hS
  have hx := B.1.1
  have hb := B.1.2.1
  have hown := B.1.2.2.2.1
  have hts := B.1.2.2.2.2
  have hl : lv_has ls 1 [(0, .ref (E.2.1 + k))] := hl
  refine lv_aload_n hx hb dX5_hasBothNets_0 rfl (lv_at hl 0 rfl) ?_
  refine lv_iconst (v := 0) hx hb dX5_hasBothNets_1 (by decide) ?_
  refine call_q (cVt (k := k) (av := [.int 0]) (rest := []) B hP hS (d_X5_netAt l E ρ r S hSS k h 0 hI) lk_RX5_60 (hrecv (ci := 5) B hP (hk_lt (c := 5) h (by decide)) (hcc5 _ _ h) rfl) rfl rfl hl.1 (Nat.le_of_ble_eq_true rfl) ⟨Nat.le_of_ble_eq_true rfl, Nat.le_of_ble_eq_true rfl⟩ ⟨Nat.le_of_ble_eq_true rfl, Nat.le_of_ble_eq_true rfl⟩ dX5_hasBothNets_2) hS (fun r11 ρ12 H locs q13 hP hS => ?_)
  obtain ⟨rfl, hI, q13⟩ := q13
  rcases q13 with rfl | ⟨j14, rfl, ej14, uj14⟩
  · skip
    refine W.eq (g2 := F0 m 5 ls [.null]) rfl ?_
    refine lv_ifnullN (tgt := 20) hx hb dX5_hasBothNets_5 (by decide) ?_
    refine lv_iconst (v := 0) hx hb dX5_hasBothNets_20 (by decide) ?_
    exact ret_z B hr hlk hP hS dX5_hasBothNets_21 (Or.inl rfl) (⟨rfl, hI, (iR_w (a := 0) (b := 0) (show iR 0 (0) (0) from ⟨by decide, by decide⟩) (by decide) (by decide))⟩)
  · skip
    refine W.eq (g2 := F0 m 5 ls [.ref (E.2.1 + ((k + 4) + 1 + 42 * j14))]) rfl ?_
    refine lv_ifnull hx hb dX5_hasBothNets_5 ?_
    refine lv_aload_n hx hb dX5_hasBothNets_8 rfl (lv_at hl 0 rfl) ?_
    refine lv_iconst (v := 1) hx hb dX5_hasBothNets_9 (by decide) ?_
    refine call_q (cVt (k := k) (av := [.int 1]) (rest := []) B hP hS (d_X5_netAt l E ρ r S hSS k h 1 hI) lk_RX5_60 (hrecv (ci := 5) B hP (hk_lt (c := 5) h (by decide)) (hcc5 _ _ h) rfl) rfl rfl hl.1 (Nat.le_of_ble_eq_true rfl) ⟨Nat.le_of_ble_eq_true rfl, Nat.le_of_ble_eq_true rfl⟩ ⟨Nat.le_of_ble_eq_true rfl, Nat.le_of_ble_eq_true rfl⟩ dX5_hasBothNets_10) hS (fun r16 ρ17 H locs q18 hP hS => ?_)
    obtain ⟨rfl, hI, q18⟩ := q18
    rcases q18 with rfl | ⟨j19, rfl, ej19, uj19⟩
    · skip
      refine W.eq (g2 := F0 m 13 ls [.null]) rfl ?_
      refine lv_ifnullN (tgt := 20) hx hb dX5_hasBothNets_13 (by decide) ?_
      refine lv_iconst (v := 0) hx hb dX5_hasBothNets_20 (by decide) ?_
      exact ret_z B hr hlk hP hS dX5_hasBothNets_21 (Or.inl rfl) (⟨rfl, hI, (iR_w (a := 0) (b := 0) (show iR 0 (0) (0) from ⟨by decide, by decide⟩) (by decide) (by decide))⟩)
    · skip
      refine W.eq (g2 := F0 m 13 ls [.ref (E.2.1 + ((k + 4) + 1 + 42 * j19))]) rfl ?_
      refine lv_ifnull hx hb dX5_hasBothNets_13 ?_
      refine lv_iconst (v := 1) hx hb dX5_hasBothNets_16 (by decide) ?_
      refine lv_goto (tgt := 21) hx hb dX5_hasBothNets_17 (by decide) ?_
      exact ret_z B hr hlk hP hS dX5_hasBothNets_21 (Or.inr rfl) (⟨rfl, hI, (iR_w (a := 1) (b := 1) (show iR 1 (1) (1) from ⟨by decide, by decide⟩) (by decide) (by decide))⟩)

set_option maxHeartbeats 4000000 in
set_option maxRecDepth 100000 in
theorem d_X5_hasRadio (l : Launch) (E : hE) (ρ r : Nat → Nat → Int32) (S : Nat × Nat → Prop) (hSS : SK S) (k : Nat) (h : hk k = 5) (a1 : Int32) (hI : CI r S ρ) : Met l yX5_hasRadio (.code yX5_hasRadio cX5_hasRadio 2 (some .boolean) :: gw_all) (rmk 1 40) (cPre E ρ [.ref (E.2.1 + k), .int a1]) (cI E (fun v ρ1 => ρ = ρ1 ∧ CI r S ρ1 ∧ (v = 0 ∨ v = 1 ∧ iR a1 0 5))) 0 0 (hA E) := by
  refine ent (own := RX5) (by decide) rfl (Nat.le_of_ble_eq_true rfl) ?_
  intro p e s m below meth c ls B hr hlk hl hP hS
  have hx := B.1.1
  have hb := B.1.2.1
  have hown := B.1.2.2.2.1
  have hts := B.1.2.2.2.2
  have hl : lv_has ls 2 [(0, .ref (E.2.1 + k)), (1, .int a1)] := hl
  refine lv_iload_n hx hb dX5_hasRadio_0 rfl (lv_at hl 1 rfl) ?_
  refine lv_if_lt (tgt := 16) hx hb dX5_hasRadio_1 (by decide) (fun c9 => ?_) (fun c9 => ?_)
  · skip
    have i10 : iR a1 (-2147483648) (-1) := (iR_ltL (iR_any a1) (show iR 0 (0) (0) from ⟨by decide, by decide⟩) c9 (by decide))
    refine lv_iconst (v := 0) hx hb dX5_hasRadio_16 (by decide) ?_
    exact ret_z B hr hlk hP hS dX5_hasRadio_17 (Or.inl rfl) (⟨rfl, hI, (Or.inl rfl)⟩)
  · skip
    have i11 : iR a1 (0) (2147483647) := (iR_geL (iR_any a1) (show iR 0 (0) (0) from ⟨by decide, by decide⟩) c9 (by decide))
    refine lv_iload_n hx hb dX5_hasRadio_4 rfl (lv_at hl 1 rfl) ?_
    refine lv_aload_n hx hb dX5_hasRadio_5 rfl (lv_at hl 0 rfl) ?_
    refine get5 B hP h 4 (by decide) mw_379 rfl dX5_hasRadio_6 ?_
    have i12 : iR (ρ k 4) 0 6 := CI_get hI (kind_lt h (by decide)) h rfl
    obtain ⟨j13, lj13, uj13, ej13⟩ := iR_nat (a := 0) (b := 6) i12
    refine lv_topi (fun z14 ez14 => ?_)
    obtain rfl : z14 = nI j13 := ez14.trans ej13
    refine lv_icmp_ge (tgt := 16) hx hb dX5_hasRadio_9 (by decide) (fun c15 => ?_) (fun c15 => ?_)
    · skip
      refine lv_iconst (v := 0) hx hb dX5_hasRadio_16 (by decide) ?_
      exact ret_z B hr hlk hP hS dX5_hasRadio_17 (Or.inl rfl) (⟨rfl, hI, (Or.inl rfl)⟩)
    · skip
      have i16 : iR a1 (0) (5) := (iR_ltL i11 (nI_iR (j := j13) (a := 0) (b := 6) (by omega) (by omega) (by omega)) (Int32.not_le.mp c15) (by decide))
      refine lv_iconst (v := 1) hx hb dX5_hasRadio_12 (by decide) ?_
      refine lv_goto (tgt := 17) hx hb dX5_hasRadio_13 (by decide) ?_
      exact ret_z B hr hlk hP hS dX5_hasRadio_17 (Or.inr rfl) (⟨rfl, hI, (Or.inr ⟨rfl, (iR_w (a := 0) (b := 5) i16 (by decide) (by decide))⟩)⟩)

theorem lk_RX5_68 : LkV RX5 68 RX2 yX2_holds cX2_holds 3 (some .boolean) 1 := ⟨⟨mw_694, mw_521, mw_522, mw_54, mw_523⟩, by decide +kernel⟩
set_option maxHeartbeats 4000000 in
set_option maxRecDepth 100000 in
theorem d_X5_isPresent (l : Launch) (E : hE) (ρ r : Nat → Nat → Int32) (S : Nat × Nat → Prop) (hSS : SK S) (k : Nat) (h : hk k = 5) (a1 : Int32) (na2 : Nat) (lna2 : 0 ≤ na2) (una2 : na2 ≤ 1) (a3 : Int32) (hI : CI r S ρ) : Met l yX5_isPresent (.code yX5_isPresent cX5_isPresent 4 (some .boolean) :: gw_all) (rmk 2 80) (cPre E ρ [.ref (E.2.1 + k), .int a1, .int (nI na2), .int a3]) (cI E (fun v ρ1 => ρ = ρ1 ∧ CI r S ρ1 ∧ iR v (0) (1))) 0 0 (hA E) := by
  refine ent (own := RX5) (by decide) rfl (Nat.le_of_ble_eq_true rfl) ?_
  intro p e s m below meth c ls B hr hlk hl hP hS
  have hx := B.1.1
  have hb := B.1.2.1
  have hown := B.1.2.2.2.1
  have hts := B.1.2.2.2.2
  have hl : lv_has ls 4 [(0, .ref (E.2.1 + k)), (1, .int a1), (2, .int (nI na2)), (3, .int a3)] := hl
  have b57_0 : ∀ (ls : Array Slot) (H : Heap) (locs : List Loc) , lv_has ls 4 [] → WP E ρ H → va_S (hA E) s.heap H locs → 1 ≤ na2 → na2 ≤ 1 → W p l e (rmk 2 80) s m ([.ref (E.2.1 + k), .int a1, .int (nI na2), .int a3] : List Value).toArray below meth c H locs 0 0 (MQ below (cI E (fun v ρ1 => ρ = ρ1 ∧ CI r S ρ1 ∧ iR v (0) (1))) ([.ref (E.2.1 + k), .int a1, .int (nI na2), .int a3] : List Value).toArray s 0 0 (hA E)) (F0 m 57 ls [.int 0, .int 0]) := by
    intro ls H locs  hl hP hS tlna2 tuna2
    refine lv_icmp_ne (tgt := 64) hx hb dX5_isPresent_57 (by decide) (fun c32 => absurd rfl c32) (fun _ => ?_)
    refine lv_iconst (v := 1) hx hb dX5_isPresent_60 (by decide) ?_
    refine lv_goto (tgt := 65) hx hb dX5_isPresent_61 (by decide) ?_
    exact ret_z B hr hlk hP hS dX5_isPresent_65 (Or.inr rfl) (⟨rfl, hI, (iR_w (a := 1) (b := 1) (show iR 1 (1) (1) from ⟨by decide, by decide⟩) (by decide) (by decide))⟩)
  have b57_1 : ∀ (ls : Array Slot) (H : Heap) (locs : List Loc) , lv_has ls 4 [] → WP E ρ H → va_S (hA E) s.heap H locs → 0 ≤ na2 → na2 ≤ 0 → W p l e (rmk 2 80) s m ([.ref (E.2.1 + k), .int a1, .int (nI na2), .int a3] : List Value).toArray below meth c H locs 0 0 (MQ below (cI E (fun v ρ1 => ρ = ρ1 ∧ CI r S ρ1 ∧ iR v (0) (1))) ([.ref (E.2.1 + k), .int a1, .int (nI na2), .int a3] : List Value).toArray s 0 0 (hA E)) (F0 m 57 ls [.int 1, .int 0]) := by
    intro ls H locs  hl hP hS tlna2 tuna2
    refine lv_icmp_ne (tgt := 64) hx hb dX5_isPresent_57 (by decide) (fun _ => ?_) (fun c33 => absurd c33 (iR_ne (show iR 0 (0) (0) from ⟨by decide, by decide⟩) (show iR 1 (1) (1) from ⟨by decide, by decide⟩) (by decide)))
    refine lv_iconst (v := 0) hx hb dX5_isPresent_64 (by decide) ?_
    exact ret_z B hr hlk hP hS dX5_isPresent_65 (Or.inl rfl) (⟨rfl, hI, (iR_w (a := 0) (b := 0) (show iR 0 (0) (0) from ⟨by decide, by decide⟩) (by decide) (by decide))⟩)
  have b57_2 : ∀ (ls : Array Slot) (H : Heap) (locs : List Loc) , lv_has ls 4 [] → WP E ρ H → va_S (hA E) s.heap H locs → 1 ≤ na2 → na2 ≤ 1 → W p l e (rmk 2 80) s m ([.ref (E.2.1 + k), .int a1, .int (nI na2), .int a3] : List Value).toArray below meth c H locs 0 0 (MQ below (cI E (fun v ρ1 => ρ = ρ1 ∧ CI r S ρ1 ∧ iR v (0) (1))) ([.ref (E.2.1 + k), .int a1, .int (nI na2), .int a3] : List Value).toArray s 0 0 (hA E)) (F0 m 57 ls [.int 0, .int 1]) := by
    intro ls H locs  hl hP hS tlna2 tuna2
    refine lv_icmp_ne (tgt := 64) hx hb dX5_isPresent_57 (by decide) (fun _ => ?_) (fun c34 => absurd c34 (iR_ne (show iR 1 (1) (1) from ⟨by decide, by decide⟩) (show iR 0 (0) (0) from ⟨by decide, by decide⟩) (by decide)))
    refine lv_iconst (v := 0) hx hb dX5_isPresent_64 (by decide) ?_
    exact ret_z B hr hlk hP hS dX5_isPresent_65 (Or.inl rfl) (⟨rfl, hI, (iR_w (a := 0) (b := 0) (show iR 0 (0) (0) from ⟨by decide, by decide⟩) (by decide) (by decide))⟩)
  have b57_3 : ∀ (ls : Array Slot) (H : Heap) (locs : List Loc) , lv_has ls 4 [] → WP E ρ H → va_S (hA E) s.heap H locs → 0 ≤ na2 → na2 ≤ 0 → W p l e (rmk 2 80) s m ([.ref (E.2.1 + k), .int a1, .int (nI na2), .int a3] : List Value).toArray below meth c H locs 0 0 (MQ below (cI E (fun v ρ1 => ρ = ρ1 ∧ CI r S ρ1 ∧ iR v (0) (1))) ([.ref (E.2.1 + k), .int a1, .int (nI na2), .int a3] : List Value).toArray s 0 0 (hA E)) (F0 m 57 ls [.int 1, .int 1]) := by
    intro ls H locs  hl hP hS tlna2 tuna2
    refine lv_icmp_ne (tgt := 64) hx hb dX5_isPresent_57 (by decide) (fun c35 => absurd rfl c35) (fun _ => ?_)
    refine lv_iconst (v := 1) hx hb dX5_isPresent_60 (by decide) ?_
    refine lv_goto (tgt := 65) hx hb dX5_isPresent_61 (by decide) ?_
    exact ret_z B hr hlk hP hS dX5_isPresent_65 (Or.inr rfl) (⟨rfl, hI, (iR_w (a := 1) (b := 1) (show iR 1 (1) (1) from ⟨by decide, by decide⟩) (by decide) (by decide))⟩)
  have b48_0 : ∀ (ls : Array Slot) (H : Heap) (locs : List Loc) , lv_has ls 4 [(2, .int (nI na2))] → WP E ρ H → va_S (hA E) s.heap H locs → 0 ≤ na2 → na2 ≤ 1 → W p l e (rmk 2 80) s m ([.ref (E.2.1 + k), .int a1, .int (nI na2), .int a3] : List Value).toArray below meth c H locs 0 0 (MQ below (cI E (fun v ρ1 => ρ = ρ1 ∧ CI r S ρ1 ∧ iR v (0) (1))) ([.ref (E.2.1 + k), .int a1, .int (nI na2), .int a3] : List Value).toArray s 0 0 (hA E)) (F0 m 48 ls [.int 0]) := by
    intro ls H locs  hl hP hS tlna2 tuna2
    refine lv_iload_n hx hb dX5_isPresent_48 rfl (lv_at hl 0 rfl) ?_
    refine lv_if_ne (tgt := 56) hx hb dX5_isPresent_49 (by decide) (fun c36 => ?_) (fun c36 => ?_)
    · skip
      have n37 := mt (nI_eq (a := na2) (b := 0) (by omega) (by omega)).mpr (show ¬ (nI na2 = nI 0) from c36)
      refine lv_iconst (v := 0) hx hb dX5_isPresent_56 (by decide) ?_
      exact b57_0 ls _ _  (lv_sub hl [] rfl) hP hS (by omega) (by omega)
    · skip
      have n38 := (nI_eq (a := na2) (b := 0) (by omega) (by omega)).mp (show (nI na2 = nI 0) from c36)
      refine lv_iconst (v := 1) hx hb dX5_isPresent_52 (by decide) ?_
      refine lv_goto (tgt := 57) hx hb dX5_isPresent_53 (by decide) ?_
      exact b57_1 ls _ _  (lv_sub hl [] rfl) hP hS (by omega) (by omega)
  have b48_1 : ∀ (ls : Array Slot) (H : Heap) (locs : List Loc) , lv_has ls 4 [(2, .int (nI na2))] → WP E ρ H → va_S (hA E) s.heap H locs → 0 ≤ na2 → na2 ≤ 1 → W p l e (rmk 2 80) s m ([.ref (E.2.1 + k), .int a1, .int (nI na2), .int a3] : List Value).toArray below meth c H locs 0 0 (MQ below (cI E (fun v ρ1 => ρ = ρ1 ∧ CI r S ρ1 ∧ iR v (0) (1))) ([.ref (E.2.1 + k), .int a1, .int (nI na2), .int a3] : List Value).toArray s 0 0 (hA E)) (F0 m 48 ls [.int 1]) := by
    intro ls H locs  hl hP hS tlna2 tuna2
    refine lv_iload_n hx hb dX5_isPresent_48 rfl (lv_at hl 0 rfl) ?_
    refine lv_if_ne (tgt := 56) hx hb dX5_isPresent_49 (by decide) (fun c39 => ?_) (fun c39 => ?_)
    · skip
      have n40 := mt (nI_eq (a := na2) (b := 0) (by omega) (by omega)).mpr (show ¬ (nI na2 = nI 0) from c39)
      refine lv_iconst (v := 0) hx hb dX5_isPresent_56 (by decide) ?_
      exact b57_2 ls _ _  (lv_sub hl [] rfl) hP hS (by omega) (by omega)
    · skip
      have n41 := (nI_eq (a := na2) (b := 0) (by omega) (by omega)).mp (show (nI na2 = nI 0) from c39)
      refine lv_iconst (v := 1) hx hb dX5_isPresent_52 (by decide) ?_
      refine lv_goto (tgt := 57) hx hb dX5_isPresent_53 (by decide) ?_
      exact b57_3 ls _ _  (lv_sub hl [] rfl) hP hS (by omega) (by omega)
  refine lv_aload_n hx hb dX5_isPresent_0 rfl (lv_at hl 0 rfl) ?_
  refine get5 B hP h 3 (by decide) mw_377 rfl dX5_isPresent_1 ?_
  refine lv_iload_n hx hb dX5_isPresent_4 rfl (lv_at hl 2 rfl) ?_
  refine aldNn (j := na2) B hP (lay5 h).2.2.2.2.2.2.1 (lay5 h).2.2.2.2.2.2.2.1 rfl (by omega) dX5_isPresent_5 ?_
  refine lv_iload_n hx hb dX5_isPresent_6 rfl (lv_at hl 1 rfl) ?_
  refine call_i (cVt (k := ((k + 4) + 1 + 42 * na2)) (av := [.int a1]) (rest := []) B hP hS (d_X2_holds l E ρ r S hSS ((k + 4) + 1 + 42 * na2) (lay5n (n := na2) h (by omega)) a1 hI) lk_RX5_68 (hrecv (ci := 2) B hP (hk_lt (c := 2) (lay5n (n := na2) h (by omega)) (by decide)) (hcc2 _ _ (lay5n (n := na2) h (by omega))) rfl) rfl rfl hl.1 (Nat.le_of_ble_eq_true rfl) ⟨Nat.le_of_ble_eq_true rfl, Nat.le_of_ble_eq_true rfl⟩ ⟨Nat.le_of_ble_eq_true rfl, Nat.le_of_ble_eq_true rfl⟩ dX5_isPresent_7) hS (fun r42 ρ43 H locs q44 hP hS => ?_)
  obtain ⟨rfl, hI, i45⟩ := q44
  obtain ⟨j46, lj46, uj46, ej46⟩ := iR_nat (a := 0) (b := 1) i45
  refine lv_topi (fun z47 ez47 => ?_)
  obtain rfl : z47 = nI j46 := ez47.trans ej46
  refine lv_if_ne (tgt := 15) hx hb dX5_isPresent_10 (by decide) (fun c48 => ?_) (fun c48 => ?_)
  · skip
    have n49 := mt (nI_eq (a := j46) (b := 0) (by omega) (by omega)).mpr (show ¬ (nI j46 = nI 0) from c48)
    refine lv_aload_n hx hb dX5_isPresent_15 rfl (lv_at hl 0 rfl) ?_
    refine get5 B hP h 3 (by decide) mw_377 rfl dX5_isPresent_16 ?_
    refine lv_iconst (v := 1) hx hb dX5_isPresent_19 (by decide) ?_
    refine lv_iload_n hx hb dX5_isPresent_20 rfl (lv_at hl 2 rfl) ?_
    refine lv_isub hx hb dX5_isPresent_21 ?_
    obtain ⟨j50, lj50, uj50, ej50⟩ := iR_nat (a := 0) (b := 1) (iR_sub (a' := 0) (b' := 1) (show iR 1 (1) (1) from ⟨by decide, by decide⟩) (nI_iR (j := na2) (a := 0) (b := 1) (by omega) (by omega) (by omega)) (by decide) (by decide) (by decide) (by decide))
    refine lv_topi (fun z51 ez51 => ?_)
    obtain rfl : z51 = nI j50 := ez51.trans ej50
    refine aldNn (j := j50) B hP (lay5 h).2.2.2.2.2.2.1 (lay5 h).2.2.2.2.2.2.2.1 rfl (by omega) dX5_isPresent_22 ?_
    refine lv_iload_n hx hb dX5_isPresent_23 rfl (lv_at hl 1 rfl) ?_
    refine call_i (cVt (k := ((k + 4) + 1 + 42 * j50)) (av := [.int a1]) (rest := []) B hP hS (d_X2_holds l E ρ r S hSS ((k + 4) + 1 + 42 * j50) (lay5n (n := j50) h (by omega)) a1 hI) lk_RX5_68 (hrecv (ci := 2) B hP (hk_lt (c := 2) (lay5n (n := j50) h (by omega)) (by decide)) (hcc2 _ _ (lay5n (n := j50) h (by omega))) rfl) rfl rfl hl.1 (Nat.le_of_ble_eq_true rfl) ⟨Nat.le_of_ble_eq_true rfl, Nat.le_of_ble_eq_true rfl⟩ ⟨Nat.le_of_ble_eq_true rfl, Nat.le_of_ble_eq_true rfl⟩ dX5_isPresent_24) hS (fun r52 ρ53 H locs q54 hP hS => ?_)
    obtain ⟨rfl, hI, i55⟩ := q54
    obtain ⟨j56, lj56, uj56, ej56⟩ := iR_nat (a := 0) (b := 1) i55
    refine lv_topi (fun z57 ez57 => ?_)
    obtain rfl : z57 = nI j56 := ez57.trans ej56
    refine lv_if_ne (tgt := 32) hx hb dX5_isPresent_27 (by decide) (fun c58 => ?_) (fun c58 => ?_)
    · skip
      have n59 := mt (nI_eq (a := j56) (b := 0) (by omega) (by omega)).mpr (show ¬ (nI j56 = nI 0) from c58)
      refine lv_iload_n hx hb dX5_isPresent_32 rfl (lv_at hl 3 rfl) ?_
      refine lv_bipush (v := 32) hx hb dX5_isPresent_33 (by decide) ?_
      refine lv_irem hx hb dX5_isPresent_35 (by decide) ?_
      refine lv_aload_n hx hb dX5_isPresent_36 rfl (lv_at hl 0 rfl) ?_
      refine get5 B hP h 7 (by decide) mw_385 rfl dX5_isPresent_37 ?_
      refine lv_icmp_ge (tgt := 47) hx hb dX5_isPresent_40 (by decide) (fun c60 => ?_) (fun c60 => ?_)
      · skip
        refine lv_iconst (v := 0) hx hb dX5_isPresent_47 (by decide) ?_
        exact b48_0 ls _ _  (lv_sub hl [2] rfl) hP hS (by omega) (by omega)
      · skip
        refine lv_iconst (v := 1) hx hb dX5_isPresent_43 (by decide) ?_
        refine lv_goto (tgt := 48) hx hb dX5_isPresent_44 (by decide) ?_
        exact b48_1 ls _ _  (lv_sub hl [2] rfl) hP hS (by omega) (by omega)
    · skip
      have n61 := (nI_eq (a := j56) (b := 0) (by omega) (by omega)).mp (show (nI j56 = nI 0) from c58)
      refine lv_iconst (v := 1) hx hb dX5_isPresent_30 (by decide) ?_
      exact ret_z B hr hlk hP hS dX5_isPresent_31 (Or.inr rfl) (⟨rfl, hI, (iR_w (a := 1) (b := 1) (show iR 1 (1) (1) from ⟨by decide, by decide⟩) (by decide) (by decide))⟩)
  · skip
    have n62 := (nI_eq (a := j46) (b := 0) (by omega) (by omega)).mp (show (nI j46 = nI 0) from c48)
    refine lv_iconst (v := 0) hx hb dX5_isPresent_13 (by decide) ?_
    exact ret_z B hr hlk hP hS dX5_isPresent_14 (Or.inl rfl) (⟨rfl, hI, (iR_w (a := 0) (b := 0) (show iR 0 (0) (0) from ⟨by decide, by decide⟩) (by decide) (by decide))⟩)

theorem lk_RX5_77 : LkV RX5 77 RX5 yX5_isPresent cX5_isPresent 4 (some .boolean) 3 := ⟨⟨mw_690, mw_691, mw_692, mw_53, mw_693⟩, by decide +kernel⟩
theorem lk_RX5_81 : LkV RX5 81 RX1 yX1_isAwake cX1_isAwake 2 (some .boolean) 1 := ⟨⟨mw_695, mw_696, mw_697, mw_56, mw_698⟩, by decide +kernel⟩
set_option maxHeartbeats 4000000 in
set_option maxRecDepth 100000 in
theorem d_X5_isReadyAt (l : Launch) (E : hE) (ρ r : Nat → Nat → Int32) (S : Nat × Nat → Prop) (hSS : SK S) (k : Nat) (h : hk k = 5) (na1 : Nat) (lna1 : 0 ≤ na1) (una1 : na1 ≤ 1) (k2 : Nat) (h2 : hk k2 = 1) (a3 : Int32) (hI : CI r S ρ) : Met l yX5_isReadyAt (.code yX5_isReadyAt cX5_isReadyAt 4 (some .boolean) :: gw_all) (rmk 3 120) (cPre E ρ [.ref (E.2.1 + k), .int (nI na1), .ref (E.2.1 + k2), .int a3]) (cI E (fun v ρ1 => ρ = ρ1 ∧ CI r S ρ1 ∧ iR v (0) (1))) 0 0 (hA E) := by
  refine ent (own := RX5) (by decide) rfl (Nat.le_of_ble_eq_true rfl) ?_
  intro p e s m below meth c ls B hr hlk hl hP hS
  have hx := B.1.1
  have hb := B.1.2.1
  have hown := B.1.2.2.2.1
  have hts := B.1.2.2.2.2
  have hl : lv_has ls 4 [(0, .ref (E.2.1 + k)), (1, .int (nI na1)), (2, .ref (E.2.1 + k2)), (3, .int a3)] := hl
  refine lv_aload_n hx hb dX5_isReadyAt_0 rfl (lv_at hl 0 rfl) ?_
  refine lv_aload_n hx hb dX5_isReadyAt_1 rfl (lv_at hl 2 rfl) ?_
  refine get1 B hP h2 4 (by decide) mw_209 rfl dX5_isReadyAt_2 ?_
  refine lv_iload_n hx hb dX5_isReadyAt_5 rfl (lv_at hl 1 rfl) ?_
  refine lv_iload_n hx hb dX5_isReadyAt_6 rfl (lv_at hl 3 rfl) ?_
  refine call_i (cVt (k := k) (av := [.int (ρ k2 4), .int (nI na1), .int a3]) (rest := []) B hP hS (d_X5_isPresent l E ρ r S hSS k h (ρ k2 4) na1 (by omega) (by omega) a3 hI) lk_RX5_77 (hrecv (ci := 5) B hP (hk_lt (c := 5) h (by decide)) (hcc5 _ _ h) rfl) rfl rfl hl.1 (Nat.le_of_ble_eq_true rfl) ⟨Nat.le_of_ble_eq_true rfl, Nat.le_of_ble_eq_true rfl⟩ ⟨Nat.le_of_ble_eq_true rfl, Nat.le_of_ble_eq_true rfl⟩ dX5_isReadyAt_7) hS (fun r19 ρ20 H locs q21 hP hS => ?_)
  obtain ⟨rfl, hI, i22⟩ := q21
  obtain ⟨j23, lj23, uj23, ej23⟩ := iR_nat (a := 0) (b := 1) i22
  refine lv_topi (fun z24 ez24 => ?_)
  obtain rfl : z24 = nI j23 := ez24.trans ej23
  refine lv_if_eq (tgt := 25) hx hb dX5_isReadyAt_10 (by decide) (fun c25 => ?_) (fun c25 => ?_)
  · skip
    have n26 := (nI_eq (a := j23) (b := 0) (by omega) (by omega)).mp (show (nI j23 = nI 0) from c25)
    refine lv_iconst (v := 0) hx hb dX5_isReadyAt_25 (by decide) ?_
    exact ret_z B hr hlk hP hS dX5_isReadyAt_26 (Or.inl rfl) (⟨rfl, hI, (iR_w (a := 0) (b := 0) (show iR 0 (0) (0) from ⟨by decide, by decide⟩) (by decide) (by decide))⟩)
  · skip
    have n27 := mt (nI_eq (a := j23) (b := 0) (by omega) (by omega)).mpr (show ¬ (nI j23 = nI 0) from c25)
    refine lv_aload_n hx hb dX5_isReadyAt_13 rfl (lv_at hl 2 rfl) ?_
    refine lv_iload_n hx hb dX5_isReadyAt_14 rfl (lv_at hl 3 rfl) ?_
    refine call_i (cVt (k := k2) (av := [.int a3]) (rest := []) B hP hS (d_X1_isAwake l E ρ r S hSS k2 h2 a3 hI) lk_RX5_81 (hrecv (ci := 1) B hP (hk_lt (c := 1) h2 (by decide)) (hcc1 _ _ h2) rfl) rfl rfl hl.1 (Nat.le_of_ble_eq_true rfl) ⟨Nat.le_of_ble_eq_true rfl, Nat.le_of_ble_eq_true rfl⟩ ⟨Nat.le_of_ble_eq_true rfl, Nat.le_of_ble_eq_true rfl⟩ dX5_isReadyAt_15) hS (fun r28 ρ29 H locs q30 hP hS => ?_)
    obtain ⟨rfl, hI, i31⟩ := q30
    obtain ⟨j32, lj32, uj32, ej32⟩ := iR_nat (a := 0) (b := 1) i31
    refine lv_topi (fun z33 ez33 => ?_)
    obtain rfl : z33 = nI j32 := ez33.trans ej32
    refine lv_if_eq (tgt := 25) hx hb dX5_isReadyAt_18 (by decide) (fun c34 => ?_) (fun c34 => ?_)
    · skip
      have n35 := (nI_eq (a := j32) (b := 0) (by omega) (by omega)).mp (show (nI j32 = nI 0) from c34)
      refine lv_iconst (v := 0) hx hb dX5_isReadyAt_25 (by decide) ?_
      exact ret_z B hr hlk hP hS dX5_isReadyAt_26 (Or.inl rfl) (⟨rfl, hI, (iR_w (a := 0) (b := 0) (show iR 0 (0) (0) from ⟨by decide, by decide⟩) (by decide) (by decide))⟩)
    · skip
      have n36 := mt (nI_eq (a := j32) (b := 0) (by omega) (by omega)).mpr (show ¬ (nI j32 = nI 0) from c34)
      refine lv_iconst (v := 1) hx hb dX5_isReadyAt_21 (by decide) ?_
      refine lv_goto (tgt := 26) hx hb dX5_isReadyAt_22 (by decide) ?_
      exact ret_z B hr hlk hP hS dX5_isReadyAt_26 (Or.inr rfl) (⟨rfl, hI, (iR_w (a := 1) (b := 1) (show iR 1 (1) (1) from ⟨by decide, by decide⟩) (by decide) (by decide))⟩)

theorem lk_RX5_84 : LkV RX5 84 RX5 yX5_hasRadio cX5_hasRadio 2 (some .boolean) 1 := ⟨⟨mw_728, mw_509, mw_510, mw_53, mw_511⟩, by decide +kernel⟩
set_option maxHeartbeats 4000000 in
set_option maxRecDepth 100000 in
theorem d_X5_addressOf (l : Launch) (E : hE) (ρ r : Nat → Nat → Int32) (S : Nat × Nat → Prop) (hSS : SK S) (k : Nat) (h : hk k = 5) (a1 : Int32) (hI : CI r S ρ) : Met l yX5_addressOf (.code yX5_addressOf cX5_addressOf 2 (some .int) :: gw_all) (rmk 2 80) (cPre E ρ [.ref (E.2.1 + k), .int a1]) (cI E (fun v ρ1 => ρ = ρ1 ∧ CI r S ρ1)) 0 0 (hA E) := by
  refine ent (own := RX5) (by decide) rfl (Nat.le_of_ble_eq_true rfl) ?_
  intro p e s m below meth c ls B hr hlk hl hP hS
  have hx := B.1.1
  have hb := B.1.2.1
  have hown := B.1.2.2.2.1
  have hts := B.1.2.2.2.2
  have hl : lv_has ls 2 [(0, .ref (E.2.1 + k)), (1, .int a1)] := hl
  refine lv_aload_n hx hb dX5_addressOf_0 rfl (lv_at hl 0 rfl) ?_
  refine lv_iload_n hx hb dX5_addressOf_1 rfl (lv_at hl 1 rfl) ?_
  refine call_i (cVt (k := k) (av := [.int a1]) (rest := []) B hP hS (d_X5_hasRadio l E ρ r S hSS k h a1 hI) lk_RX5_84 (hrecv (ci := 5) B hP (hk_lt (c := 5) h (by decide)) (hcc5 _ _ h) rfl) rfl rfl hl.1 (Nat.le_of_ble_eq_true rfl) ⟨Nat.le_of_ble_eq_true rfl, Nat.le_of_ble_eq_true rfl⟩ ⟨Nat.le_of_ble_eq_true rfl, Nat.le_of_ble_eq_true rfl⟩ dX5_addressOf_2) hS (fun r8 ρ9 H locs q10 hP hS => ?_)
  obtain ⟨rfl, hI, q10⟩ := q10
  rcases q10 with rfl | ⟨rfl, q10⟩
  · skip
    refine lv_if_eq (tgt := 17) hx hb dX5_addressOf_5 (by decide) (fun _ => ?_) (fun c11 => absurd rfl c11)
    refine lv_iconst (v := 0) hx hb dX5_addressOf_17 (by decide) ?_
    exact ret_i B hr hlk hP hS dX5_addressOf_18 (⟨rfl, hI⟩)
  · skip
    refine lv_if_eq (tgt := 17) hx hb dX5_addressOf_5 (by decide) (fun c12 => absurd c12 (iR_ne (show iR 1 (1) (1) from ⟨by decide, by decide⟩) (show iR 0 (0) (0) from ⟨by decide, by decide⟩) (by decide))) (fun _ => ?_)
    refine lv_aload_n hx hb dX5_addressOf_8 rfl (lv_at hl 0 rfl) ?_
    refine get5 B hP h 0 (by decide) mw_371 rfl dX5_addressOf_9 ?_
    refine lv_iload_n hx hb dX5_addressOf_12 rfl (lv_at hl 1 rfl) ?_
    obtain ⟨j13, lj13, uj13, ej13⟩ := iR_nat (a := 0) (b := 5) q10
    refine lv_topi (fun z14 ez14 => ?_)
    obtain rfl : z14 = nI j13 := ez14.trans ej13
    refine aldn (n := 6) (j := j13) B hP (lay5 h).1 (lay5 h).2.1 rfl (by omega) (by decide) dX5_addressOf_13 ?_
    refine lv_goto (tgt := 18) hx hb dX5_addressOf_14 (by decide) ?_
    exact ret_i B hr hlk hP hS dX5_addressOf_18 (⟨rfl, hI⟩)

theorem lk_RX5_87 : LkV RX5 87 RX5 yX5_addressOf cX5_addressOf 2 (some .int) 1 := ⟨⟨mw_724, mw_725, mw_726, mw_53, mw_727⟩, by decide +kernel⟩
theorem lk_RX5_94 : LkN RX5 94 yX6_hopOf cX6_hopOf 8 (some .int) 2 := ⟨⟨List.mem_of_getElem? (i := 5) rfl, mw_730, mw_52, mw_731⟩, by decide +kernel⟩
set_option maxHeartbeats 4000000 in
set_option maxRecDepth 100000 in
theorem d_X5_hopIn (l : Launch) (E : hE) (ρ r : Nat → Nat → Int32) (S : Nat × Nat → Prop) (hSS : SK S) (k : Nat) (h : hk k = 5) (na1 : Nat) (lna1 : 0 ≤ na1) (una1 : na1 ≤ 1) (a2 : Int32) (hI : CI r S ρ) : Met l yX5_hopIn (.code yX5_hopIn cX5_hopIn 3 (some .int) :: gw_all) (rmk 3 120) (cPre E ρ [.ref (E.2.1 + k), .int (nI na1), .int a2]) (cI E (fun v ρ1 => ρ = ρ1 ∧ CI r S ρ1)) 0 0 (hA E) := by
  refine ent (own := RX5) (by decide) rfl (Nat.le_of_ble_eq_true rfl) ?_
  intro p e s m below meth c ls B hr hlk hl hP hS
  have hx := B.1.1
  have hb := B.1.2.1
  have hown := B.1.2.2.2.1
  have hts := B.1.2.2.2.2
  have hl : lv_has ls 3 [(0, .ref (E.2.1 + k)), (1, .int (nI na1)), (2, .int a2)] := hl
  refine lv_aload_n hx hb dX5_hopIn_0 rfl (lv_at hl 0 rfl) ?_
  refine lv_aload_n hx hb dX5_hopIn_1 rfl (lv_at hl 0 rfl) ?_
  refine get5 B hP h 3 (by decide) mw_377 rfl dX5_hopIn_2 ?_
  refine lv_iload_n hx hb dX5_hopIn_5 rfl (lv_at hl 1 rfl) ?_
  refine aldNn (j := na1) B hP (lay5 h).2.2.2.2.2.2.1 (lay5 h).2.2.2.2.2.2.2.1 rfl (by omega) dX5_hopIn_6 ?_
  refine get2 B hP (lay5n (n := na1) h (by omega)) 5 (by decide) mw_296 rfl dX5_hopIn_7 ?_
  refine call_i (cVt (k := k) (av := [.int (ρ ((k + 4) + 1 + 42 * na1) 5)]) (rest := []) B hP hS (d_X5_addressOf l E ρ r S hSS k h (ρ ((k + 4) + 1 + 42 * na1) 5) hI) lk_RX5_87 (hrecv (ci := 5) B hP (hk_lt (c := 5) h (by decide)) (hcc5 _ _ h) rfl) rfl rfl hl.1 (Nat.le_of_ble_eq_true rfl) ⟨Nat.le_of_ble_eq_true rfl, Nat.le_of_ble_eq_true rfl⟩ ⟨Nat.le_of_ble_eq_true rfl, Nat.le_of_ble_eq_true rfl⟩ dX5_hopIn_10) hS (fun r8 ρ9 H locs q10 hP hS => ?_)
  obtain ⟨rfl, hI⟩ := q10
  refine lv_iload_n hx hb dX5_hopIn_13 rfl (lv_at hl 2 rfl) ?_
  refine lv_aload_n hx hb dX5_hopIn_14 rfl (lv_at hl 0 rfl) ?_
  refine get5 B hP h 3 (by decide) mw_377 rfl dX5_hopIn_15 ?_
  refine lv_iload_n hx hb dX5_hopIn_18 rfl (lv_at hl 1 rfl) ?_
  refine aldNn (j := na1) B hP (lay5 h).2.2.2.2.2.2.1 (lay5 h).2.2.2.2.2.2.2.1 rfl (by omega) dX5_hopIn_19 ?_
  refine get2 B hP (lay5n (n := na1) h (by omega)) 6 (by decide) mw_299 rfl dX5_hopIn_20 ?_
  refine lv_iadd hx hb dX5_hopIn_23 ?_
  refine call_i (cN (av := [.int r8, .int (a2 + (ρ ((k + 4) + 1 + 42 * na1) 6))]) (rest := []) B hP hS (c_hopOf l E ρ r8 (a2 + (ρ ((k + 4) + 1 + 42 * na1) 6))) lk_RX5_94 rfl rfl hl.1 (Nat.le_of_ble_eq_true rfl) ⟨Nat.le_of_ble_eq_true rfl, Nat.le_of_ble_eq_true rfl⟩ ⟨Nat.le_of_ble_eq_true rfl, Nat.le_of_ble_eq_true rfl⟩ dX5_hopIn_24) hS (fun r12 ρ13 H locs q14 hP hS => ?_)
  obtain ⟨rfl, rfl⟩ := q14
  exact ret_i B hr hlk hP hS dX5_hopIn_27 (⟨rfl, hI⟩)

theorem lk_RX5_101 : LkN RX5 101 yX6_byMap cX6_byMap 5 (some .int) 2 := ⟨⟨List.mem_of_getElem? (i := 6) rfl, mw_737, mw_52, mw_738⟩, by decide +kernel⟩
theorem lk_RX5_98 : LkV RX5 98 RX5 yX5_hopIn cX5_hopIn 3 (some .int) 2 := ⟨⟨mw_720, mw_721, mw_722, mw_53, mw_723⟩, by decide +kernel⟩
set_option maxHeartbeats 4000000 in
set_option maxRecDepth 100000 in
theorem d_X5_channelBy (l : Launch) (E : hE) (ρ r : Nat → Nat → Int32) (S : Nat × Nat → Prop) (hSS : SK S) (k : Nat) (h : hk k = 5) (na1 : Nat) (lna1 : 0 ≤ na1) (una1 : na1 ≤ 1) (a2 : Int32) (a3 : Int32) (hI : CI r S ρ) : Met l yX5_channelBy (.code yX5_channelBy cX5_channelBy 4 (some .int) :: gw_all) (rmk 4 160) (cPre E ρ [.ref (E.2.1 + k), .int (nI na1), .int a2, .int a3]) (cI E (fun v ρ1 => ρ = ρ1 ∧ CI r S ρ1)) 0 0 (hA E) := by
  refine ent (own := RX5) (by decide) rfl (Nat.le_of_ble_eq_true rfl) ?_
  intro p e s m below meth c ls B hr hlk hl hP hS
  have hx := B.1.1
  have hb := B.1.2.1
  have hown := B.1.2.2.2.1
  have hts := B.1.2.2.2.2
  have hl : lv_has ls 4 [(0, .ref (E.2.1 + k)), (1, .int (nI na1)), (2, .int a2), (3, .int a3)] := hl
  refine lv_aload_n hx hb dX5_channelBy_0 rfl (lv_at hl 0 rfl) ?_
  refine lv_iload_n hx hb dX5_channelBy_1 rfl (lv_at hl 1 rfl) ?_
  refine lv_iload_n hx hb dX5_channelBy_2 rfl (lv_at hl 3 rfl) ?_
  refine call_i (cVt (k := k) (av := [.int (nI na1), .int a3]) (rest := []) B hP hS (d_X5_hopIn l E ρ r S hSS k h na1 (by omega) (by omega) a3 hI) lk_RX5_98 (hrecv (ci := 5) B hP (hk_lt (c := 5) h (by decide)) (hcc5 _ _ h) rfl) rfl rfl hl.1 (Nat.le_of_ble_eq_true rfl) ⟨Nat.le_of_ble_eq_true rfl, Nat.le_of_ble_eq_true rfl⟩ ⟨Nat.le_of_ble_eq_true rfl, Nat.le_of_ble_eq_true rfl⟩ dX5_channelBy_3) hS (fun r9 ρ10 H locs q11 hP hS => ?_)
  obtain ⟨rfl, hI⟩ := q11
  refine lv_iload_n hx hb dX5_channelBy_6 rfl (lv_at hl 2 rfl) ?_
  refine call_i (cN (av := [.int r9, .int a2]) (rest := []) B hP hS (d_X6_byMap l E ρ r S hSS r9 a2 hI) lk_RX5_101 rfl rfl hl.1 (Nat.le_of_ble_eq_true rfl) ⟨Nat.le_of_ble_eq_true rfl, Nat.le_of_ble_eq_true rfl⟩ ⟨Nat.le_of_ble_eq_true rfl, Nat.le_of_ble_eq_true rfl⟩ dX5_channelBy_7) hS (fun r13 ρ14 H locs q15 hP hS => ?_)
  obtain ⟨rfl, hI⟩ := q15
  exact ret_i B hr hlk hP hS dX5_channelBy_10 (⟨rfl, hI⟩)

theorem lk_RX5_113 : LkV RX5 113 RX5 yX5_channelBy cX5_channelBy 4 (some .int) 3 := ⟨⟨mw_891, mw_861, mw_862, mw_53, mw_863⟩, by decide +kernel⟩
set_option maxHeartbeats 4000000 in
set_option maxRecDepth 100000 in
theorem d_X5_mastersMeet (l : Launch) (E : hE) (ρ r : Nat → Nat → Int32) (S : Nat × Nat → Prop) (hSS : SK S) (k : Nat) (h : hk k = 5) (a1 : Int32) (hI : CI r S ρ) : Met l yX5_mastersMeet (.code yX5_mastersMeet cX5_mastersMeet 2 (some .boolean) :: gw_all) (rmk 5 200) (cPre E ρ [.ref (E.2.1 + k), .int a1]) (cI E (fun v ρ1 => ρ = ρ1 ∧ CI r S ρ1 ∧ iR v (0) (1))) 0 0 (hA E) := by
  refine ent (own := RX5) (by decide) rfl (Nat.le_of_ble_eq_true rfl) ?_
  intro p e s m below meth c ls B hr hlk hl hP hS
  have hx := B.1.1
  have hb := B.1.2.1
  have hown := B.1.2.2.2.1
  have hts := B.1.2.2.2.2
  have hl : lv_has ls 2 [(0, .ref (E.2.1 + k)), (1, .int a1)] := hl
  refine lv_aload_n hx hb dX5_mastersMeet_0 rfl (lv_at hl 0 rfl) ?_
  refine lv_iconst (v := 0) hx hb dX5_mastersMeet_1 (by decide) ?_
  refine lv_aload_n hx hb dX5_mastersMeet_2 rfl (lv_at hl 0 rfl) ?_
  refine get5 B hP h 3 (by decide) mw_377 rfl dX5_mastersMeet_3 ?_
  refine lv_iconst (v := 0) hx hb dX5_mastersMeet_6 (by decide) ?_
  refine aldNn (j := 0) B hP (lay5 h).2.2.2.2.2.2.1 (lay5 h).2.2.2.2.2.2.2.1 rfl (by decide) dX5_mastersMeet_7 ?_
  refine get2 B hP (lay5n (n := 0) h (by decide)) 0 (by decide) mw_283 rfl dX5_mastersMeet_8 ?_
  refine get3 B hP (lay2 (lay5n (n := 0) h (by decide))).1 0 (by decide) mw_94 rfl dX5_mastersMeet_11 ?_
  refine lv_iload_n hx hb dX5_mastersMeet_14 rfl (lv_at hl 1 rfl) ?_
  refine call_i (cVt (k := k) (av := [.int 0, .int (ρ (((k + 4) + 1 + 42 * 0) + 1) 0), .int a1]) (rest := []) B hP hS (d_X5_channelBy l E ρ r S hSS k h 0 (by omega) (by omega) (ρ (((k + 4) + 1 + 42 * 0) + 1) 0) a1 hI) lk_RX5_113 (hrecv (ci := 5) B hP (hk_lt (c := 5) h (by decide)) (hcc5 _ _ h) rfl) rfl rfl hl.1 (Nat.le_of_ble_eq_true rfl) ⟨Nat.le_of_ble_eq_true rfl, Nat.le_of_ble_eq_true rfl⟩ ⟨Nat.le_of_ble_eq_true rfl, Nat.le_of_ble_eq_true rfl⟩ dX5_mastersMeet_15) hS (fun r10 ρ11 H locs q12 hP hS => ?_)
  obtain ⟨rfl, hI⟩ := q12
  refine lv_aload_n hx hb dX5_mastersMeet_18 rfl (lv_at hl 0 rfl) ?_
  refine lv_iconst (v := 1) hx hb dX5_mastersMeet_19 (by decide) ?_
  refine lv_aload_n hx hb dX5_mastersMeet_20 rfl (lv_at hl 0 rfl) ?_
  refine get5 B hP h 3 (by decide) mw_377 rfl dX5_mastersMeet_21 ?_
  refine lv_iconst (v := 1) hx hb dX5_mastersMeet_24 (by decide) ?_
  refine aldNn (j := 1) B hP (lay5 h).2.2.2.2.2.2.1 (lay5 h).2.2.2.2.2.2.2.1 rfl (by decide) dX5_mastersMeet_25 ?_
  refine get2 B hP (lay5n (n := 1) h (by decide)) 0 (by decide) mw_283 rfl dX5_mastersMeet_26 ?_
  refine get3 B hP (lay2 (lay5n (n := 1) h (by decide))).1 0 (by decide) mw_94 rfl dX5_mastersMeet_29 ?_
  refine lv_iload_n hx hb dX5_mastersMeet_32 rfl (lv_at hl 1 rfl) ?_
  refine call_i (cVt (k := k) (av := [.int 1, .int (ρ (((k + 4) + 1 + 42 * 1) + 1) 0), .int a1]) (rest := [.int r10]) B hP hS (d_X5_channelBy l E ρ r S hSS k h 1 (by omega) (by omega) (ρ (((k + 4) + 1 + 42 * 1) + 1) 0) a1 hI) lk_RX5_113 (hrecv (ci := 5) B hP (hk_lt (c := 5) h (by decide)) (hcc5 _ _ h) rfl) rfl rfl hl.1 (Nat.le_of_ble_eq_true rfl) ⟨Nat.le_of_ble_eq_true rfl, Nat.le_of_ble_eq_true rfl⟩ ⟨Nat.le_of_ble_eq_true rfl, Nat.le_of_ble_eq_true rfl⟩ dX5_mastersMeet_33) hS (fun r14 ρ15 H locs q16 hP hS => ?_)
  obtain ⟨rfl, hI⟩ := q16
  refine lv_icmp_ne (tgt := 43) hx hb dX5_mastersMeet_36 (by decide) (fun c18 => ?_) (fun c18 => ?_)
  · skip
    refine lv_iconst (v := 0) hx hb dX5_mastersMeet_43 (by decide) ?_
    exact ret_z B hr hlk hP hS dX5_mastersMeet_44 (Or.inl rfl) (⟨rfl, hI, (iR_w (a := 0) (b := 0) (show iR 0 (0) (0) from ⟨by decide, by decide⟩) (by decide) (by decide))⟩)
  · skip
    refine lv_iconst (v := 1) hx hb dX5_mastersMeet_39 (by decide) ?_
    refine lv_goto (tgt := 44) hx hb dX5_mastersMeet_40 (by decide) ?_
    exact ret_z B hr hlk hP hS dX5_mastersMeet_44 (Or.inr rfl) (⟨rfl, hI, (iR_w (a := 1) (b := 1) (show iR 1 (1) (1) from ⟨by decide, by decide⟩) (by decide) (by decide))⟩)

set_option maxHeartbeats 4000000 in
set_option maxRecDepth 100000 in
theorem d_X5_noiseOn (l : Launch) (E : hE) (ρ r : Nat → Nat → Int32) (S : Nat × Nat → Prop) (hSS : SK S) (k : Nat) (h : hk k = 5) (a1 : Int32) (hI : CI r S ρ) : Met l yX5_noiseOn (.code yX5_noiseOn cX5_noiseOn 2 (some .int) :: gw_all) (rmk 1 40) (cPre E ρ [.ref (E.2.1 + k), .int a1]) (cI E (fun v ρ1 => ρ = ρ1 ∧ CI r S ρ1)) 0 0 (hA E) := by
  refine ent (own := RX5) (by decide) rfl (Nat.le_of_ble_eq_true rfl) ?_
  intro p e s m below meth c ls B hr hlk hl hP hS
  have hx := B.1.1
  have hb := B.1.2.1
  have hown := B.1.2.2.2.1
  have hts := B.1.2.2.2.2
  have hl : lv_has ls 2 [(0, .ref (E.2.1 + k)), (1, .int a1)] := hl
  refine lv_iload_n hx hb dX5_noiseOn_0 rfl (lv_at hl 1 rfl) ?_
  refine lv_if_lt (tgt := 19) hx hb dX5_noiseOn_1 (by decide) (fun c9 => ?_) (fun c9 => ?_)
  · skip
    have i10 : iR a1 (-2147483648) (-1) := (iR_ltL (iR_any a1) (show iR 0 (0) (0) from ⟨by decide, by decide⟩) c9 (by decide))
    refine lv_iconst (v := 0) hx hb dX5_noiseOn_19 (by decide) ?_
    exact ret_i B hr hlk hP hS dX5_noiseOn_20 (⟨rfl, hI⟩)
  · skip
    have i11 : iR a1 (0) (2147483647) := (iR_geL (iR_any a1) (show iR 0 (0) (0) from ⟨by decide, by decide⟩) c9 (by decide))
    refine lv_iload_n hx hb dX5_noiseOn_4 rfl (lv_at hl 1 rfl) ?_
    refine lv_bipush (v := 23) hx hb dX5_noiseOn_5 (by decide) ?_
    refine lv_icmp_ge (tgt := 19) hx hb dX5_noiseOn_7 (by decide) (fun c12 => ?_) (fun c12 => ?_)
    · skip
      have i13 : iR a1 (23) (2147483647) := (iR_geL i11 (show iR 23 (23) (23) from ⟨by decide, by decide⟩) (Int32.not_lt.mpr c12) (by decide))
      refine lv_iconst (v := 0) hx hb dX5_noiseOn_19 (by decide) ?_
      exact ret_i B hr hlk hP hS dX5_noiseOn_20 (⟨rfl, hI⟩)
    · skip
      have i14 : iR a1 (0) (22) := (iR_ltL i11 (show iR 23 (23) (23) from ⟨by decide, by decide⟩) (Int32.not_le.mp c12) (by decide))
      refine lv_aload_n hx hb dX5_noiseOn_10 rfl (lv_at hl 0 rfl) ?_
      refine get5 B hP h 1 (by decide) mw_373 rfl dX5_noiseOn_11 ?_
      refine lv_iload_n hx hb dX5_noiseOn_14 rfl (lv_at hl 1 rfl) ?_
      obtain ⟨j15, lj15, uj15, ej15⟩ := iR_nat (a := 0) (b := 22) i14
      refine lv_topi (fun z16 ez16 => ?_)
      obtain rfl : z16 = nI j15 := ez16.trans ej15
      refine aldn (n := 23) (j := j15) B hP (lay5 h).2.2.1 (lay5 h).2.2.2.1 rfl (by omega) (by decide) dX5_noiseOn_15 ?_
      refine lv_goto (tgt := 20) hx hb dX5_noiseOn_16 (by decide) ?_
      exact ret_i B hr hlk hP hS dX5_noiseOn_20 (⟨rfl, hI⟩)

theorem lk_RX5_118 : LkV RX5 118 RX5 yX5_noiseOn cX5_noiseOn 2 (some .int) 1 := ⟨⟨mw_752, mw_753, mw_754, mw_53, mw_755⟩, by decide +kernel⟩
set_option maxHeartbeats 4000000 in
set_option maxRecDepth 100000 in
theorem d_X5_clearOf (l : Launch) (E : hE) (ρ r : Nat → Nat → Int32) (S : Nat × Nat → Prop) (hSS : SK S) (k : Nat) (h : hk k = 5) (na1 : Nat) (lna1 : 0 ≤ na1) (una1 : na1 ≤ 1) (k2 : Nat) (h2 : hk k2 = 1) (a3 : Int32) (hI : CI r S ρ) : Met l yX5_clearOf (.code yX5_clearOf cX5_clearOf 7 (some .int) :: gw_all) (rmk 4 160) (cPre E ρ [.ref (E.2.1 + k), .int (nI na1), .ref (E.2.1 + k2), .int a3]) (cI E (fun v ρ1 => ρ = ρ1 ∧ CI r S ρ1)) 0 0 (hA E) := by
  refine ent (own := RX5) (by decide) rfl (Nat.le_of_ble_eq_true rfl) ?_
  intro p e s m below meth c ls B hr hlk hl hP hS
  have hx := B.1.1
  have hb := B.1.2.1
  have hown := B.1.2.2.2.1
  have hts := B.1.2.2.2.2
  have hl : lv_has ls 7 [(0, .ref (E.2.1 + k)), (1, .int (nI na1)), (2, .ref (E.2.1 + k2)), (3, .int a3)] := hl
  have b49_0 : ∀ (ls : Array Slot) (H : Heap) (locs : List Loc) (x49_5 : Int32), lv_has ls 7 [(0, .ref (E.2.1 + k)), (5, .int x49_5)] → WP E ρ H → va_S (hA E) s.heap H locs → iR x49_5 (-2147483648) (2147483647) → 0 ≤ na1 → na1 ≤ 1 → W p l e (rmk 4 160) s m ([.ref (E.2.1 + k), .int (nI na1), .ref (E.2.1 + k2), .int a3] : List Value).toArray below meth c H locs 0 0 (MQ below (cI E (fun v ρ1 => ρ = ρ1 ∧ CI r S ρ1)) ([.ref (E.2.1 + k), .int (nI na1), .ref (E.2.1 + k2), .int a3] : List Value).toArray s 0 0 (hA E)) (F0 m 49 ls [.int 0]) := by
    intro ls H locs x49_5 hl hP hS hx49_5 tlna1 tuna1
    refine lv_istore (lv' := [(6, .int 0), (0, .ref (E.2.1 + k)), (5, .int x49_5)]) hx hb dX5_clearOf_49 hl (by decide) rfl (fun ls hl => ?_)
    refine lv_iload hx hb dX5_clearOf_51 (lv_at hl 0 rfl) ?_
    refine lv_if_eq (tgt := 68) hx hb dX5_clearOf_53 (by decide) (fun _ => ?_) (fun c20 => absurd rfl c20)
    refine lv_iconst (v := 0) hx hb dX5_clearOf_68 (by decide) ?_
    exact ret_i B hr hlk hP hS dX5_clearOf_69 (⟨rfl, hI⟩)
  have b49_1 : ∀ (ls : Array Slot) (H : Heap) (locs : List Loc) (x49_5 : Int32), lv_has ls 7 [(0, .ref (E.2.1 + k)), (5, .int x49_5)] → WP E ρ H → va_S (hA E) s.heap H locs → iR x49_5 (-2147483648) (2147483647) → 0 ≤ na1 → na1 ≤ 1 → W p l e (rmk 4 160) s m ([.ref (E.2.1 + k), .int (nI na1), .ref (E.2.1 + k2), .int a3] : List Value).toArray below meth c H locs 0 0 (MQ below (cI E (fun v ρ1 => ρ = ρ1 ∧ CI r S ρ1)) ([.ref (E.2.1 + k), .int (nI na1), .ref (E.2.1 + k2), .int a3] : List Value).toArray s 0 0 (hA E)) (F0 m 49 ls [.int 1]) := by
    intro ls H locs x49_5 hl hP hS hx49_5 tlna1 tuna1
    refine lv_istore (lv' := [(6, .int 1), (0, .ref (E.2.1 + k)), (5, .int x49_5)]) hx hb dX5_clearOf_49 hl (by decide) rfl (fun ls hl => ?_)
    refine lv_iload hx hb dX5_clearOf_51 (lv_at hl 0 rfl) ?_
    refine lv_if_eq (tgt := 68) hx hb dX5_clearOf_53 (by decide) (fun c21 => absurd c21 (iR_ne (show iR 1 (1) (1) from ⟨by decide, by decide⟩) (show iR 0 (0) (0) from ⟨by decide, by decide⟩) (by decide))) (fun _ => ?_)
    refine lv_bipush (v := 16) hx hb dX5_clearOf_56 (by decide) ?_
    refine lv_aload_n hx hb dX5_clearOf_58 rfl (lv_at hl 1 rfl) ?_
    refine lv_iload hx hb dX5_clearOf_59 (lv_at hl 2 rfl) ?_
    refine call_i (cVt (k := k) (av := [.int x49_5]) (rest := [.int 16]) B hP hS (d_X5_noiseOn l E ρ r S hSS k h x49_5 hI) lk_RX5_118 (hrecv (ci := 5) B hP (hk_lt (c := 5) h (by decide)) (hcc5 _ _ h) rfl) rfl rfl hl.1 (Nat.le_of_ble_eq_true rfl) ⟨Nat.le_of_ble_eq_true rfl, Nat.le_of_ble_eq_true rfl⟩ ⟨Nat.le_of_ble_eq_true rfl, Nat.le_of_ble_eq_true rfl⟩ dX5_clearOf_61) hS (fun r22 ρ23 H locs q24 hP hS => ?_)
    obtain ⟨rfl, hI⟩ := q24
    refine lv_isub hx hb dX5_clearOf_64 ?_
    refine lv_goto (tgt := 69) hx hb dX5_clearOf_65 (by decide) ?_
    exact ret_i B hr hlk hP hS dX5_clearOf_69 (⟨rfl, hI⟩)
  refine lv_aload_n hx hb dX5_clearOf_0 rfl (lv_at hl 0 rfl) ?_
  refine lv_iload_n hx hb dX5_clearOf_1 rfl (lv_at hl 1 rfl) ?_
  refine lv_iload_n hx hb dX5_clearOf_2 rfl (lv_at hl 3 rfl) ?_
  refine call_i (cVt (k := k) (av := [.int (nI na1), .int a3]) (rest := []) B hP hS (d_X5_hopIn l E ρ r S hSS k h na1 (by omega) (by omega) a3 hI) lk_RX5_98 (hrecv (ci := 5) B hP (hk_lt (c := 5) h (by decide)) (hcc5 _ _ h) rfl) rfl rfl hl.1 (Nat.le_of_ble_eq_true rfl) ⟨Nat.le_of_ble_eq_true rfl, Nat.le_of_ble_eq_true rfl⟩ ⟨Nat.le_of_ble_eq_true rfl, Nat.le_of_ble_eq_true rfl⟩ dX5_clearOf_3) hS (fun r26 ρ27 H locs q28 hP hS => ?_)
  obtain ⟨rfl, hI⟩ := q28
  refine lv_istore (lv' := [(4, .int r26), (0, .ref (E.2.1 + k)), (1, .int (nI na1)), (2, .ref (E.2.1 + k2)), (3, .int a3)]) hx hb dX5_clearOf_6 hl (by decide) rfl (fun ls hl => ?_)
  refine lv_iload hx hb dX5_clearOf_8 (lv_at hl 0 rfl) ?_
  refine lv_aload_n hx hb dX5_clearOf_10 rfl (lv_at hl 1 rfl) ?_
  refine get5 B hP h 3 (by decide) mw_377 rfl dX5_clearOf_11 ?_
  refine lv_iload_n hx hb dX5_clearOf_14 rfl (lv_at hl 2 rfl) ?_
  refine aldNn (j := na1) B hP (lay5 h).2.2.2.2.2.2.1 (lay5 h).2.2.2.2.2.2.2.1 rfl (by omega) dX5_clearOf_15 ?_
  refine get2 B hP (lay5n (n := na1) h (by omega)) 0 (by decide) mw_283 rfl dX5_clearOf_16 ?_
  refine get3 B hP (lay2 (lay5n (n := na1) h (by omega))).1 0 (by decide) mw_94 rfl dX5_clearOf_19 ?_
  refine call_i (cN (av := [.int r26, .int (ρ (((k + 4) + 1 + 42 * na1) + 1) 0)]) (rest := []) B hP hS (d_X6_byMap l E ρ r S hSS r26 (ρ (((k + 4) + 1 + 42 * na1) + 1) 0) hI) lk_RX5_101 rfl rfl hl.1 (Nat.le_of_ble_eq_true rfl) ⟨Nat.le_of_ble_eq_true rfl, Nat.le_of_ble_eq_true rfl⟩ ⟨Nat.le_of_ble_eq_true rfl, Nat.le_of_ble_eq_true rfl⟩ dX5_clearOf_22) hS (fun r30 ρ31 H locs q32 hP hS => ?_)
  obtain ⟨rfl, hI⟩ := q32
  refine lv_istore (lv' := [(5, .int r30), (4, .int r26), (0, .ref (E.2.1 + k)), (1, .int (nI na1)), (2, .ref (E.2.1 + k2)), (3, .int a3)]) hx hb dX5_clearOf_25 hl (by decide) rfl (fun ls hl => ?_)
  refine lv_iload hx hb dX5_clearOf_27 (lv_at hl 1 rfl) ?_
  refine lv_aload_n hx hb dX5_clearOf_29 rfl (lv_at hl 4 rfl) ?_
  refine get1 B hP h2 0 (by decide) mw_194 rfl dX5_clearOf_30 ?_
  refine get3 B hP (lay1 h2).1 0 (by decide) mw_94 rfl dX5_clearOf_33 ?_
  refine call_i (cN (av := [.int r26, .int (ρ (k2 + 1) 0)]) (rest := []) B hP hS (d_X6_byMap l E ρ r S hSS r26 (ρ (k2 + 1) 0) hI) lk_RX5_101 rfl rfl hl.1 (Nat.le_of_ble_eq_true rfl) ⟨Nat.le_of_ble_eq_true rfl, Nat.le_of_ble_eq_true rfl⟩ ⟨Nat.le_of_ble_eq_true rfl, Nat.le_of_ble_eq_true rfl⟩ dX5_clearOf_36) hS (fun r34 ρ35 H locs q36 hP hS => ?_)
  obtain ⟨rfl, hI⟩ := q36
  refine lv_iload hx hb dX5_clearOf_39 (lv_at hl 0 rfl) ?_
  refine lv_icmp_ne (tgt := 48) hx hb dX5_clearOf_41 (by decide) (fun c38 => ?_) (fun c38 => ?_)
  · skip
    refine lv_iconst (v := 0) hx hb dX5_clearOf_48 (by decide) ?_
    exact b49_0 ls _ _ (r30 : Int32) (lv_sub hl [2, 0] rfl) hP hS (iR_w (iR_any r30) (by decide) (by decide)) (by omega) (by omega)
  · skip
    refine lv_iconst (v := 1) hx hb dX5_clearOf_44 (by decide) ?_
    refine lv_goto (tgt := 49) hx hb dX5_clearOf_45 (by decide) ?_
    exact b49_1 ls _ _ (r30 : Int32) (lv_sub hl [2, 0] rfl) hP hS (iR_w (iR_any r30) (by decide) (by decide)) (by omega) (by omega)

set_option maxHeartbeats 4000000 in
set_option maxRecDepth 100000 in
theorem d_X5_framesMissed (l : Launch) (E : hE) (ρ r : Nat → Nat → Int32) (S : Nat × Nat → Prop) (hSS : SK S) (k : Nat) (h : hk k = 5) (hI : CI r S ρ) : Met l yX5_framesMissed (.code yX5_framesMissed cX5_framesMissed 4 (some .int) :: gw_all) (rmk 1 40) (cPre E ρ [.ref (E.2.1 + k)]) (cI E (fun v ρ1 => ρ = ρ1 ∧ CI r S ρ1)) 0 0 (hA E) := by
  refine ent (own := RX5) (by decide) rfl (Nat.le_of_ble_eq_true rfl) ?_
  intro p e s m below meth c ls B hr hlk hl hP hS
  have hx := B.1.1
  have hb := B.1.2.1
  have hown := B.1.2.2.2.1
  have hts := B.1.2.2.2.2
  have hl : lv_has ls 4 [(0, .ref (E.2.1 + k))] := hl
  have b4_0 : ∀ (ls : Array Slot) (H : Heap) (locs : List Loc) (d4 : Nat) (x4_1 : Int32) (j4_2 : Nat), lv_has ls 4 [(0, .ref (E.2.1 + k)), (1, .int x4_1), (2, .int (nI j4_2))] → WP E ρ H → va_S (hA E) s.heap H locs → 3 - j4_2 < d4 → iR x4_1 (-2147483648) (2147483647) → 0 ≤ j4_2 → j4_2 ≤ 2 → W p l e (rmk 1 40) s m ([.ref (E.2.1 + k)] : List Value).toArray below meth c H locs 0 0 (MQ below (cI E (fun v ρ1 => ρ = ρ1 ∧ CI r S ρ1)) ([.ref (E.2.1 + k)] : List Value).toArray s 0 0 (hA E)) (F0 m 4 ls []) := by
    intro ls H locs d4
    induction d4 generalizing ls H locs with
    | zero => intro x4_1 j4_2 hl hP hS hd4 hx4_1 lj4_2 uj4_2; exact absurd hd4 (Nat.not_lt_zero _)
    | succ d4 ih4 =>
      intro x4_1 j4_2 hl hP hS hd4 hx4_1 lj4_2 uj4_2
      have b55_0 : ∀ (ls : Array Slot) (H : Heap) (locs : List Loc) (x55_1 : Int32), lv_has ls 4 [(0, .ref (E.2.1 + k)), (1, .int x55_1), (2, .int (nI j4_2))] → WP E ρ H → va_S (hA E) s.heap H locs → iR x55_1 (-2147483648) (2147483647) → iR (ρ ((k + 4) + 1 + 42 * j4_2) 8) (0) (4) → 0 ≤ j4_2 → j4_2 ≤ 1 → W p l e (rmk 1 40) s m ([.ref (E.2.1 + k)] : List Value).toArray below meth c H locs 0 0 (MQ below (cI E (fun v ρ1 => ρ = ρ1 ∧ CI r S ρ1)) ([.ref (E.2.1 + k)] : List Value).toArray s 0 0 (hA E)) (F0 m 55 ls []) := by
        intro ls H locs x55_1 hl hP hS hx55_1 f_ρ___k___4____1___42___j4_2__8_ tlj4_2 tuj4_2
        refine lv_iinc (v := (nI (1 + j4_2))) (lv' := [(2, .int (nI (1 + j4_2))), (0, .ref (E.2.1 + k)), (1, .int x55_1)]) hx hb dX5_framesMissed_55 hl (k := 2) rfl (show nI j4_2 + nI 1 = _ from (nI_add _ _).trans (congrArg nI (by omega))) (by decide) rfl (fun ls hl => ?_)
        refine lv_goto (tgt := 4) hx hb dX5_framesMissed_58 (by decide) ?_
        exact ih4 ls _ _ (x55_1 : Int32) (1 + j4_2) (lv_sub hl [1, 2, 0] rfl) hP hS (by omega) (iR_w hx55_1 (by decide) (by decide)) (by omega) (by omega)
      have b11_0 : ∀ (ls : Array Slot) (H : Heap) (locs : List Loc) (d11 : Nat) (x11_1 : Int32) (j11_3 : Nat), lv_has ls 4 [(0, .ref (E.2.1 + k)), (1, .int x11_1), (2, .int (nI j4_2)), (3, .int (nI j11_3))] → WP E ρ H → va_S (hA E) s.heap H locs → 5 - j11_3 < d11 → iR x11_1 (-2147483648) (2147483647) → 0 ≤ j11_3 → j11_3 ≤ 4 → 0 ≤ j4_2 → j4_2 ≤ 1 → W p l e (rmk 1 40) s m ([.ref (E.2.1 + k)] : List Value).toArray below meth c H locs 0 0 (MQ below (cI E (fun v ρ1 => ρ = ρ1 ∧ CI r S ρ1)) ([.ref (E.2.1 + k)] : List Value).toArray s 0 0 (hA E)) (F0 m 11 ls []) := by
        intro ls H locs d11
        induction d11 generalizing ls H locs with
        | zero => intro x11_1 j11_3 hl hP hS hd11 hx11_1 lj11_3 uj11_3 tlj4_2 tuj4_2; exact absurd hd11 (Nat.not_lt_zero _)
        | succ d11 ih11 =>
          intro x11_1 j11_3 hl hP hS hd11 hx11_1 lj11_3 uj11_3 tlj4_2 tuj4_2
          refine lv_iload_n hx hb dX5_framesMissed_11 rfl (lv_at hl 3 rfl) ?_
          refine lv_aload_n hx hb dX5_framesMissed_12 rfl (lv_at hl 0 rfl) ?_
          refine get5 B hP h 3 (by decide) mw_377 rfl dX5_framesMissed_13 ?_
          refine lv_iload_n hx hb dX5_framesMissed_16 rfl (lv_at hl 2 rfl) ?_
          refine aldNn (j := j4_2) B hP (lay5 h).2.2.2.2.2.2.1 (lay5 h).2.2.2.2.2.2.2.1 rfl (by omega) dX5_framesMissed_17 ?_
          refine get2 B hP (lay5n (n := j4_2) h (by omega)) 8 (by decide) mw_305 rfl dX5_framesMissed_18 ?_
          have i81 : iR (ρ ((k + 4) + 1 + 42 * j4_2) 8) 0 4 := CI_get hI (kind_lt (lay5n (n := j4_2) h (by omega)) (by decide)) (lay5n (n := j4_2) h (by omega)) rfl
          obtain ⟨j82, lj82, uj82, ej82⟩ := iR_nat (a := 0) (b := 4) i81
          refine lv_topi (fun z83 ez83 => ?_)
          obtain rfl : z83 = nI j82 := ez83.trans ej82
          refine lv_icmp_ge (tgt := 55) hx hb dX5_framesMissed_21 (by decide) (fun c84 => ?_) (fun c84 => ?_)
          · skip
            have n85 := mt (nx_lt (a := j11_3) (b := j82) (by omega) (by omega)).mpr (show ¬ (nI j11_3 < nI j82) from (Int32.not_lt.mpr c84))
            exact b55_0 ls _ _ (x11_1 : Int32) (lv_sub hl [0, 1, 2] rfl) hP hS (iR_w hx11_1 (by decide) (by decide)) (iR_w i81 (by decide) (by decide)) (by omega) (by omega)
          · skip
            have n86 := (nx_lt (a := j11_3) (b := j82) (by omega) (by omega)).mp (show (nI j11_3 < nI j82) from (Int32.not_le.mp c84))
            refine lv_iload_n hx hb dX5_framesMissed_24 rfl (lv_at hl 3 rfl) ?_
            refine lv_iconst (v := 4) hx hb dX5_framesMissed_25 (by decide) ?_
            refine lv_icmp_ge (tgt := 55) hx hb dX5_framesMissed_26 (by decide) (fun c87 => absurd c87 (iR_nle (show iR 4 (4) (4) from ⟨by decide, by decide⟩) (nI_iR (j := j11_3) (a := 0) (b := 3) (by omega) (by omega) (by omega)) (by decide))) (fun _ => ?_)
            refine lv_iload_n hx hb dX5_framesMissed_29 rfl (lv_at hl 1 rfl) ?_
            refine lv_aload_n hx hb dX5_framesMissed_30 rfl (lv_at hl 0 rfl) ?_
            refine get5 B hP h 3 (by decide) mw_377 rfl dX5_framesMissed_31 ?_
            refine lv_iload_n hx hb dX5_framesMissed_34 rfl (lv_at hl 2 rfl) ?_
            refine aldNn (j := j4_2) B hP (lay5 h).2.2.2.2.2.2.1 (lay5 h).2.2.2.2.2.2.2.1 rfl (by omega) dX5_framesMissed_35 ?_
            refine get2 B hP (lay5n (n := j4_2) h (by omega)) 4 (by decide) mw_292 rfl dX5_framesMissed_36 ?_
            refine lv_iload_n hx hb dX5_framesMissed_39 rfl (lv_at hl 3 rfl) ?_
            obtain ⟨k88, ek88, hk88⟩ := CI_link hI (lay2 (lay5n (n := j4_2) h (by omega))).2.2.2.2.2.2.2.1 (show j11_3 < 4 from (by omega))
            refine aldLn B hP (lay2 (lay5n (n := j4_2) h (by omega))).2.2.2.2.2.2.2.1 (lay2 (lay5n (n := j4_2) h (by omega))).2.2.2.2.2.2.2.2.1 rfl (by omega) ek88 hk88 dX5_framesMissed_40 ?_
            refine get1 B hP hk88 3 (by decide) mw_206 rfl dX5_framesMissed_41 ?_
            refine get0 B hP (lay1 hk88).2.2.2 4 (by decide) mw_175 rfl dX5_framesMissed_44 ?_
            refine lv_iadd hx hb dX5_framesMissed_47 ?_
            refine lv_istore_n (lv' := [(1, .int (x11_1 + (ρ (k88 + 8) 4))), (0, .ref (E.2.1 + k)), (2, .int (nI j4_2)), (3, .int (nI j11_3))]) hx hb dX5_framesMissed_48 rfl hl (by decide) rfl (fun ls hl => ?_)
            refine lv_iinc (v := (nI (1 + j11_3))) (lv' := [(3, .int (nI (1 + j11_3))), (1, .int (x11_1 + (ρ (k88 + 8) 4))), (0, .ref (E.2.1 + k)), (2, .int (nI j4_2))]) hx hb dX5_framesMissed_49 hl (k := 3) rfl (show nI j11_3 + nI 1 = _ from (nI_add _ _).trans (congrArg nI (by omega))) (by decide) rfl (fun ls hl => ?_)
            refine lv_goto (tgt := 11) hx hb dX5_framesMissed_52 (by decide) ?_
            exact ih11 ls _ _ ((x11_1 + (ρ (k88 + 8) 4)) : Int32) (1 + j11_3) (lv_sub hl [2, 1, 3, 0] rfl) hP hS (by omega) (iR_w (iR_any (x11_1 + (ρ (k88 + 8) 4))) (by decide) (by decide)) (by omega) (by omega) (by omega) (by omega)
      refine lv_iload_n hx hb dX5_framesMissed_4 rfl (lv_at hl 2 rfl) ?_
      refine lv_iconst (v := 2) hx hb dX5_framesMissed_5 (by decide) ?_
      refine lv_icmp_ge (tgt := 61) hx hb dX5_framesMissed_6 (by decide) (fun c89 => ?_) (fun c89 => ?_)
      · skip
        have n90 := mt (nx_lt (a := j4_2) (b := 2) (by omega) (by omega)).mpr (show ¬ (nI j4_2 < nI 2) from (Int32.not_lt.mpr c89))
        refine lv_iload_n hx hb dX5_framesMissed_61 rfl (lv_at hl 1 rfl) ?_
        exact ret_i B hr hlk hP hS dX5_framesMissed_62 (⟨rfl, hI⟩)
      · skip
        have n91 := (nx_lt (a := j4_2) (b := 2) (by omega) (by omega)).mp (show (nI j4_2 < nI 2) from (Int32.not_le.mp c89))
        refine lv_iconst (v := 0) hx hb dX5_framesMissed_9 (by decide) ?_
        refine lv_istore_n (lv' := [(3, .int 0), (0, .ref (E.2.1 + k)), (1, .int x4_1), (2, .int (nI j4_2))]) hx hb dX5_framesMissed_10 rfl hl (by decide) rfl (fun ls hl => ?_)
        exact b11_0 ls _ _ _ (x4_1 : Int32) 0 (lv_sub hl [1, 2, 3, 0] rfl) hP hS (Nat.lt_succ_self _) (iR_w hx4_1 (by decide) (by decide)) (by omega) (by omega) (by omega) (by omega)
  refine lv_iconst (v := 0) hx hb dX5_framesMissed_0 (by decide) ?_
  refine lv_istore_n (lv' := [(1, .int 0), (0, .ref (E.2.1 + k))]) hx hb dX5_framesMissed_1 rfl hl (by decide) rfl (fun ls hl => ?_)
  refine lv_iconst (v := 0) hx hb dX5_framesMissed_2 (by decide) ?_
  refine lv_istore_n (lv' := [(2, .int 0), (1, .int 0), (0, .ref (E.2.1 + k))]) hx hb dX5_framesMissed_3 rfl hl (by decide) rfl (fun ls hl => ?_)
  exact b4_0 ls _ _ _ (0 : Int32) 0 (lv_sub hl [2, 1, 0] rfl) hP hS (Nat.lt_succ_self _) (iR_w (show iR 0 (0) (0) from ⟨by decide, by decide⟩) (by decide) (by decide)) (by omega) (by omega)

set_option maxHeartbeats 4000000 in
set_option maxRecDepth 100000 in
theorem d_X5_linksOfOtherMap (l : Launch) (E : hE) (ρ r : Nat → Nat → Int32) (S : Nat × Nat → Prop) (hSS : SK S) (k : Nat) (h : hk k = 5) (hI : CI r S ρ) : Met l yX5_linksOfOtherMap (.code yX5_linksOfOtherMap cX5_linksOfOtherMap 4 (some .int) :: gw_all) (rmk 1 40) (cPre E ρ [.ref (E.2.1 + k)]) (cI E (fun v ρ1 => ρ = ρ1 ∧ CI r S ρ1)) 0 0 (hA E) := by
  refine ent (own := RX5) (by decide) rfl (Nat.le_of_ble_eq_true rfl) ?_
  intro p e s m below meth c ls B hr hlk hl hP hS
  have hx := B.1.1
  have hb := B.1.2.1
  have hown := B.1.2.2.2.1
  have hts := B.1.2.2.2.2
  have hl : lv_has ls 4 [(0, .ref (E.2.1 + k))] := hl
  have b4_0 : ∀ (ls : Array Slot) (H : Heap) (locs : List Loc) (d4 : Nat) (x4_1 : Int32) (j4_2 : Nat), lv_has ls 4 [(0, .ref (E.2.1 + k)), (1, .int x4_1), (2, .int (nI j4_2))] → WP E ρ H → va_S (hA E) s.heap H locs → 3 - j4_2 < d4 → iR x4_1 (-2147483648) (2147483647) → 0 ≤ j4_2 → j4_2 ≤ 2 → W p l e (rmk 1 40) s m ([.ref (E.2.1 + k)] : List Value).toArray below meth c H locs 0 0 (MQ below (cI E (fun v ρ1 => ρ = ρ1 ∧ CI r S ρ1)) ([.ref (E.2.1 + k)] : List Value).toArray s 0 0 (hA E)) (F0 m 4 ls []) := by
    intro ls H locs d4
    induction d4 generalizing ls H locs with
    | zero => intro x4_1 j4_2 hl hP hS hd4 hx4_1 lj4_2 uj4_2; exact absurd hd4 (Nat.not_lt_zero _)
    | succ d4 ih4 =>
      intro x4_1 j4_2 hl hP hS hd4 hx4_1 lj4_2 uj4_2
      have b70_0 : ∀ (ls : Array Slot) (H : Heap) (locs : List Loc) (x70_1 : Int32), lv_has ls 4 [(0, .ref (E.2.1 + k)), (1, .int x70_1), (2, .int (nI j4_2))] → WP E ρ H → va_S (hA E) s.heap H locs → iR x70_1 (-2147483648) (2147483647) → iR (ρ ((k + 4) + 1 + 42 * j4_2) 8) (0) (4) → 0 ≤ j4_2 → j4_2 ≤ 1 → W p l e (rmk 1 40) s m ([.ref (E.2.1 + k)] : List Value).toArray below meth c H locs 0 0 (MQ below (cI E (fun v ρ1 => ρ = ρ1 ∧ CI r S ρ1)) ([.ref (E.2.1 + k)] : List Value).toArray s 0 0 (hA E)) (F0 m 70 ls []) := by
        intro ls H locs x70_1 hl hP hS hx70_1 f_ρ___k___4____1___42___j4_2__8_ tlj4_2 tuj4_2
        refine lv_iinc (v := (nI (1 + j4_2))) (lv' := [(2, .int (nI (1 + j4_2))), (0, .ref (E.2.1 + k)), (1, .int x70_1)]) hx hb dX5_linksOfOtherMap_70 hl (k := 2) rfl (show nI j4_2 + nI 1 = _ from (nI_add _ _).trans (congrArg nI (by omega))) (by decide) rfl (fun ls hl => ?_)
        refine lv_goto (tgt := 4) hx hb dX5_linksOfOtherMap_73 (by decide) ?_
        exact ih4 ls _ _ (x70_1 : Int32) (1 + j4_2) (lv_sub hl [1, 2, 0] rfl) hP hS (by omega) (iR_w hx70_1 (by decide) (by decide)) (by omega) (by omega)
      have b11_0 : ∀ (ls : Array Slot) (H : Heap) (locs : List Loc) (d11 : Nat) (x11_1 : Int32) (j11_3 : Nat), lv_has ls 4 [(0, .ref (E.2.1 + k)), (1, .int x11_1), (2, .int (nI j4_2)), (3, .int (nI j11_3))] → WP E ρ H → va_S (hA E) s.heap H locs → 5 - j11_3 < d11 → iR x11_1 (-2147483648) (2147483647) → 0 ≤ j11_3 → j11_3 ≤ 4 → 0 ≤ j4_2 → j4_2 ≤ 1 → W p l e (rmk 1 40) s m ([.ref (E.2.1 + k)] : List Value).toArray below meth c H locs 0 0 (MQ below (cI E (fun v ρ1 => ρ = ρ1 ∧ CI r S ρ1)) ([.ref (E.2.1 + k)] : List Value).toArray s 0 0 (hA E)) (F0 m 11 ls []) := by
        intro ls H locs d11
        induction d11 generalizing ls H locs with
        | zero => intro x11_1 j11_3 hl hP hS hd11 hx11_1 lj11_3 uj11_3 tlj4_2 tuj4_2; exact absurd hd11 (Nat.not_lt_zero _)
        | succ d11 ih11 =>
          intro x11_1 j11_3 hl hP hS hd11 hx11_1 lj11_3 uj11_3 tlj4_2 tuj4_2
          have b64_0 : ∀ (ls : Array Slot) (H : Heap) (locs : List Loc) (x64_1 : Int32), lv_has ls 4 [(0, .ref (E.2.1 + k)), (1, .int x64_1), (2, .int (nI j4_2)), (3, .int (nI j11_3))] → WP E ρ H → va_S (hA E) s.heap H locs → iR x64_1 (-2147483648) (2147483647) → iR (ρ ((k + 4) + 1 + 42 * j4_2) 8) (0) (4) → 0 ≤ j11_3 → j11_3 ≤ 3 → 0 ≤ j4_2 → j4_2 ≤ 1 → W p l e (rmk 1 40) s m ([.ref (E.2.1 + k)] : List Value).toArray below meth c H locs 0 0 (MQ below (cI E (fun v ρ1 => ρ = ρ1 ∧ CI r S ρ1)) ([.ref (E.2.1 + k)] : List Value).toArray s 0 0 (hA E)) (F0 m 64 ls []) := by
            intro ls H locs x64_1 hl hP hS hx64_1 f_ρ___k___4____1___42___j4_2__8_ tlj11_3 tuj11_3 tlj4_2 tuj4_2
            refine lv_iinc (v := (nI (1 + j11_3))) (lv' := [(3, .int (nI (1 + j11_3))), (0, .ref (E.2.1 + k)), (1, .int x64_1), (2, .int (nI j4_2))]) hx hb dX5_linksOfOtherMap_64 hl (k := 3) rfl (show nI j11_3 + nI 1 = _ from (nI_add _ _).trans (congrArg nI (by omega))) (by decide) rfl (fun ls hl => ?_)
            refine lv_goto (tgt := 11) hx hb dX5_linksOfOtherMap_67 (by decide) ?_
            exact ih11 ls _ _ (x64_1 : Int32) (1 + j11_3) (lv_sub hl [1, 2, 3, 0] rfl) hP hS (by omega) (iR_w hx64_1 (by decide) (by decide)) (by omega) (by omega) (by omega) (by omega)
          refine lv_iload_n hx hb dX5_linksOfOtherMap_11 rfl (lv_at hl 3 rfl) ?_
          refine lv_aload_n hx hb dX5_linksOfOtherMap_12 rfl (lv_at hl 0 rfl) ?_
          refine get5 B hP h 3 (by decide) mw_377 rfl dX5_linksOfOtherMap_13 ?_
          refine lv_iload_n hx hb dX5_linksOfOtherMap_16 rfl (lv_at hl 2 rfl) ?_
          refine aldNn (j := j4_2) B hP (lay5 h).2.2.2.2.2.2.1 (lay5 h).2.2.2.2.2.2.2.1 rfl (by omega) dX5_linksOfOtherMap_17 ?_
          refine get2 B hP (lay5n (n := j4_2) h (by omega)) 8 (by decide) mw_305 rfl dX5_linksOfOtherMap_18 ?_
          have i279 : iR (ρ ((k + 4) + 1 + 42 * j4_2) 8) 0 4 := CI_get hI (kind_lt (lay5n (n := j4_2) h (by omega)) (by decide)) (lay5n (n := j4_2) h (by omega)) rfl
          obtain ⟨j280, lj280, uj280, ej280⟩ := iR_nat (a := 0) (b := 4) i279
          refine lv_topi (fun z281 ez281 => ?_)
          obtain rfl : z281 = nI j280 := ez281.trans ej280
          refine lv_icmp_ge (tgt := 70) hx hb dX5_linksOfOtherMap_21 (by decide) (fun c282 => ?_) (fun c282 => ?_)
          · skip
            have n283 := mt (nx_lt (a := j11_3) (b := j280) (by omega) (by omega)).mpr (show ¬ (nI j11_3 < nI j280) from (Int32.not_lt.mpr c282))
            exact b70_0 ls _ _ (x11_1 : Int32) (lv_sub hl [0, 1, 2] rfl) hP hS (iR_w hx11_1 (by decide) (by decide)) (iR_w i279 (by decide) (by decide)) (by omega) (by omega)
          · skip
            have n284 := (nx_lt (a := j11_3) (b := j280) (by omega) (by omega)).mp (show (nI j11_3 < nI j280) from (Int32.not_le.mp c282))
            refine lv_iload_n hx hb dX5_linksOfOtherMap_24 rfl (lv_at hl 3 rfl) ?_
            refine lv_iconst (v := 4) hx hb dX5_linksOfOtherMap_25 (by decide) ?_
            refine lv_icmp_ge (tgt := 70) hx hb dX5_linksOfOtherMap_26 (by decide) (fun c285 => absurd c285 (iR_nle (show iR 4 (4) (4) from ⟨by decide, by decide⟩) (nI_iR (j := j11_3) (a := 0) (b := 3) (by omega) (by omega) (by omega)) (by decide))) (fun _ => ?_)
            refine lv_aload_n hx hb dX5_linksOfOtherMap_29 rfl (lv_at hl 0 rfl) ?_
            refine get5 B hP h 3 (by decide) mw_377 rfl dX5_linksOfOtherMap_30 ?_
            refine lv_iload_n hx hb dX5_linksOfOtherMap_33 rfl (lv_at hl 2 rfl) ?_
            refine aldNn (j := j4_2) B hP (lay5 h).2.2.2.2.2.2.1 (lay5 h).2.2.2.2.2.2.2.1 rfl (by omega) dX5_linksOfOtherMap_34 ?_
            refine get2 B hP (lay5n (n := j4_2) h (by omega)) 4 (by decide) mw_292 rfl dX5_linksOfOtherMap_35 ?_
            refine lv_iload_n hx hb dX5_linksOfOtherMap_38 rfl (lv_at hl 3 rfl) ?_
            obtain ⟨k286, ek286, hk286⟩ := CI_link hI (lay2 (lay5n (n := j4_2) h (by omega))).2.2.2.2.2.2.2.1 (show j11_3 < 4 from (by omega))
            refine aldLn B hP (lay2 (lay5n (n := j4_2) h (by omega))).2.2.2.2.2.2.2.1 (lay2 (lay5n (n := j4_2) h (by omega))).2.2.2.2.2.2.2.2.1 rfl (by omega) ek286 hk286 dX5_linksOfOtherMap_39 ?_
            refine get1 B hP hk286 0 (by decide) mw_194 rfl dX5_linksOfOtherMap_40 ?_
            refine get3 B hP (lay1 hk286).1 0 (by decide) mw_94 rfl dX5_linksOfOtherMap_43 ?_
            refine lv_aload_n hx hb dX5_linksOfOtherMap_46 rfl (lv_at hl 0 rfl) ?_
            refine get5 B hP h 3 (by decide) mw_377 rfl dX5_linksOfOtherMap_47 ?_
            refine lv_iload_n hx hb dX5_linksOfOtherMap_50 rfl (lv_at hl 2 rfl) ?_
            refine aldNn (j := j4_2) B hP (lay5 h).2.2.2.2.2.2.1 (lay5 h).2.2.2.2.2.2.2.1 rfl (by omega) dX5_linksOfOtherMap_51 ?_
            refine get2 B hP (lay5n (n := j4_2) h (by omega)) 0 (by decide) mw_283 rfl dX5_linksOfOtherMap_52 ?_
            refine get3 B hP (lay2 (lay5n (n := j4_2) h (by omega))).1 0 (by decide) mw_94 rfl dX5_linksOfOtherMap_55 ?_
            refine lv_icmp_eq (tgt := 64) hx hb dX5_linksOfOtherMap_58 (by decide) (fun c287 => ?_) (fun c287 => ?_)
            · skip
              exact b64_0 ls _ _ (x11_1 : Int32) (lv_sub hl [0, 1, 2, 3] rfl) hP hS (iR_w hx11_1 (by decide) (by decide)) (iR_w i279 (by decide) (by decide)) (by omega) (by omega) (by omega) (by omega)
            · skip
              refine lv_iinc (v := (x11_1 + 1)) (lv' := [(1, .int (x11_1 + 1)), (0, .ref (E.2.1 + k)), (2, .int (nI j4_2)), (3, .int (nI j11_3))]) hx hb dX5_linksOfOtherMap_61 hl (k := 1) rfl rfl (by decide) rfl (fun ls hl => ?_)
              exact b64_0 ls _ _ ((x11_1 + 1) : Int32) (lv_sub hl [1, 0, 2, 3] rfl) hP hS (iR_w (iR_any (x11_1 + 1)) (by decide) (by decide)) (iR_w i279 (by decide) (by decide)) (by omega) (by omega) (by omega) (by omega)
      refine lv_iload_n hx hb dX5_linksOfOtherMap_4 rfl (lv_at hl 2 rfl) ?_
      refine lv_iconst (v := 2) hx hb dX5_linksOfOtherMap_5 (by decide) ?_
      refine lv_icmp_ge (tgt := 76) hx hb dX5_linksOfOtherMap_6 (by decide) (fun c288 => ?_) (fun c288 => ?_)
      · skip
        have n289 := mt (nx_lt (a := j4_2) (b := 2) (by omega) (by omega)).mpr (show ¬ (nI j4_2 < nI 2) from (Int32.not_lt.mpr c288))
        refine lv_iload_n hx hb dX5_linksOfOtherMap_76 rfl (lv_at hl 1 rfl) ?_
        exact ret_i B hr hlk hP hS dX5_linksOfOtherMap_77 (⟨rfl, hI⟩)
      · skip
        have n290 := (nx_lt (a := j4_2) (b := 2) (by omega) (by omega)).mp (show (nI j4_2 < nI 2) from (Int32.not_le.mp c288))
        refine lv_iconst (v := 0) hx hb dX5_linksOfOtherMap_9 (by decide) ?_
        refine lv_istore_n (lv' := [(3, .int 0), (0, .ref (E.2.1 + k)), (1, .int x4_1), (2, .int (nI j4_2))]) hx hb dX5_linksOfOtherMap_10 rfl hl (by decide) rfl (fun ls hl => ?_)
        exact b11_0 ls _ _ _ (x4_1 : Int32) 0 (lv_sub hl [1, 2, 3, 0] rfl) hP hS (Nat.lt_succ_self _) (iR_w hx4_1 (by decide) (by decide)) (by omega) (by omega) (by omega) (by omega)
  refine lv_iconst (v := 0) hx hb dX5_linksOfOtherMap_0 (by decide) ?_
  refine lv_istore_n (lv' := [(1, .int 0), (0, .ref (E.2.1 + k))]) hx hb dX5_linksOfOtherMap_1 rfl hl (by decide) rfl (fun ls hl => ?_)
  refine lv_iconst (v := 0) hx hb dX5_linksOfOtherMap_2 (by decide) ?_
  refine lv_istore_n (lv' := [(2, .int 0), (1, .int 0), (0, .ref (E.2.1 + k))]) hx hb dX5_linksOfOtherMap_3 rfl hl (by decide) rfl (fun ls hl => ?_)
  exact b4_0 ls _ _ _ (0 : Int32) 0 (lv_sub hl [2, 1, 0] rfl) hP hS (Nat.lt_succ_self _) (iR_w (show iR 0 (0) (0) from ⟨by decide, by decide⟩) (by decide) (by decide)) (by omega) (by omega)

set_option maxHeartbeats 4000000 in
set_option maxRecDepth 100000 in
theorem d_X5_heardOfAll (l : Launch) (E : hE) (ρ r : Nat → Nat → Int32) (S : Nat × Nat → Prop) (hSS : SK S) (k : Nat) (h : hk k = 5) (hI : CI r S ρ) : Met l yX5_heardOfAll (.code yX5_heardOfAll cX5_heardOfAll 4 (some .int) :: gw_all) (rmk 1 40) (cPre E ρ [.ref (E.2.1 + k)]) (cI E (fun v ρ1 => ρ = ρ1 ∧ CI r S ρ1)) 0 0 (hA E) := by
  refine ent (own := RX5) (by decide) rfl (Nat.le_of_ble_eq_true rfl) ?_
  intro p e s m below meth c ls B hr hlk hl hP hS
  have hx := B.1.1
  have hb := B.1.2.1
  have hown := B.1.2.2.2.1
  have hts := B.1.2.2.2.2
  have hl : lv_has ls 4 [(0, .ref (E.2.1 + k))] := hl
  have b4_0 : ∀ (ls : Array Slot) (H : Heap) (locs : List Loc) (d4 : Nat) (x4_1 : Int32) (j4_2 : Nat), lv_has ls 4 [(0, .ref (E.2.1 + k)), (1, .int x4_1), (2, .int (nI j4_2))] → WP E ρ H → va_S (hA E) s.heap H locs → 3 - j4_2 < d4 → iR x4_1 (-2147483648) (2147483647) → 0 ≤ j4_2 → j4_2 ≤ 2 → W p l e (rmk 1 40) s m ([.ref (E.2.1 + k)] : List Value).toArray below meth c H locs 0 0 (MQ below (cI E (fun v ρ1 => ρ = ρ1 ∧ CI r S ρ1)) ([.ref (E.2.1 + k)] : List Value).toArray s 0 0 (hA E)) (F0 m 4 ls []) := by
    intro ls H locs d4
    induction d4 generalizing ls H locs with
    | zero => intro x4_1 j4_2 hl hP hS hd4 hx4_1 lj4_2 uj4_2; exact absurd hd4 (Nat.not_lt_zero _)
    | succ d4 ih4 =>
      intro x4_1 j4_2 hl hP hS hd4 hx4_1 lj4_2 uj4_2
      have b73_0 : ∀ (ls : Array Slot) (H : Heap) (locs : List Loc) (x73_1 : Int32), lv_has ls 4 [(0, .ref (E.2.1 + k)), (1, .int x73_1), (2, .int (nI j4_2))] → WP E ρ H → va_S (hA E) s.heap H locs → iR x73_1 (-2147483648) (2147483647) → iR (ρ ((k + 4) + 1 + 42 * j4_2) 8) (0) (4) → 0 ≤ j4_2 → j4_2 ≤ 1 → W p l e (rmk 1 40) s m ([.ref (E.2.1 + k)] : List Value).toArray below meth c H locs 0 0 (MQ below (cI E (fun v ρ1 => ρ = ρ1 ∧ CI r S ρ1)) ([.ref (E.2.1 + k)] : List Value).toArray s 0 0 (hA E)) (F0 m 73 ls []) := by
        intro ls H locs x73_1 hl hP hS hx73_1 f_ρ___k___4____1___42___j4_2__8_ tlj4_2 tuj4_2
        refine lv_iinc (v := (nI (1 + j4_2))) (lv' := [(2, .int (nI (1 + j4_2))), (0, .ref (E.2.1 + k)), (1, .int x73_1)]) hx hb dX5_heardOfAll_73 hl (k := 2) rfl (show nI j4_2 + nI 1 = _ from (nI_add _ _).trans (congrArg nI (by omega))) (by decide) rfl (fun ls hl => ?_)
        refine lv_goto (tgt := 4) hx hb dX5_heardOfAll_76 (by decide) ?_
        exact ih4 ls _ _ (x73_1 : Int32) (1 + j4_2) (lv_sub hl [1, 2, 0] rfl) hP hS (by omega) (iR_w hx73_1 (by decide) (by decide)) (by omega) (by omega)
      have b11_0 : ∀ (ls : Array Slot) (H : Heap) (locs : List Loc) (d11 : Nat) (x11_1 : Int32) (j11_3 : Nat), lv_has ls 4 [(0, .ref (E.2.1 + k)), (1, .int x11_1), (2, .int (nI j4_2)), (3, .int (nI j11_3))] → WP E ρ H → va_S (hA E) s.heap H locs → 5 - j11_3 < d11 → iR x11_1 (-2147483648) (2147483647) → 0 ≤ j11_3 → j11_3 ≤ 4 → 0 ≤ j4_2 → j4_2 ≤ 1 → W p l e (rmk 1 40) s m ([.ref (E.2.1 + k)] : List Value).toArray below meth c H locs 0 0 (MQ below (cI E (fun v ρ1 => ρ = ρ1 ∧ CI r S ρ1)) ([.ref (E.2.1 + k)] : List Value).toArray s 0 0 (hA E)) (F0 m 11 ls []) := by
        intro ls H locs d11
        induction d11 generalizing ls H locs with
        | zero => intro x11_1 j11_3 hl hP hS hd11 hx11_1 lj11_3 uj11_3 tlj4_2 tuj4_2; exact absurd hd11 (Nat.not_lt_zero _)
        | succ d11 ih11 =>
          intro x11_1 j11_3 hl hP hS hd11 hx11_1 lj11_3 uj11_3 tlj4_2 tuj4_2
          refine lv_iload_n hx hb dX5_heardOfAll_11 rfl (lv_at hl 3 rfl) ?_
          refine lv_aload_n hx hb dX5_heardOfAll_12 rfl (lv_at hl 0 rfl) ?_
          refine get5 B hP h 3 (by decide) mw_377 rfl dX5_heardOfAll_13 ?_
          refine lv_iload_n hx hb dX5_heardOfAll_16 rfl (lv_at hl 2 rfl) ?_
          refine aldNn (j := j4_2) B hP (lay5 h).2.2.2.2.2.2.1 (lay5 h).2.2.2.2.2.2.2.1 rfl (by omega) dX5_heardOfAll_17 ?_
          refine get2 B hP (lay5n (n := j4_2) h (by omega)) 8 (by decide) mw_305 rfl dX5_heardOfAll_18 ?_
          have i90 : iR (ρ ((k + 4) + 1 + 42 * j4_2) 8) 0 4 := CI_get hI (kind_lt (lay5n (n := j4_2) h (by omega)) (by decide)) (lay5n (n := j4_2) h (by omega)) rfl
          obtain ⟨j91, lj91, uj91, ej91⟩ := iR_nat (a := 0) (b := 4) i90
          refine lv_topi (fun z92 ez92 => ?_)
          obtain rfl : z92 = nI j91 := ez92.trans ej91
          refine lv_icmp_ge (tgt := 73) hx hb dX5_heardOfAll_21 (by decide) (fun c93 => ?_) (fun c93 => ?_)
          · skip
            have n94 := mt (nx_lt (a := j11_3) (b := j91) (by omega) (by omega)).mpr (show ¬ (nI j11_3 < nI j91) from (Int32.not_lt.mpr c93))
            exact b73_0 ls _ _ (x11_1 : Int32) (lv_sub hl [0, 1, 2] rfl) hP hS (iR_w hx11_1 (by decide) (by decide)) (iR_w i90 (by decide) (by decide)) (by omega) (by omega)
          · skip
            have n95 := (nx_lt (a := j11_3) (b := j91) (by omega) (by omega)).mp (show (nI j11_3 < nI j91) from (Int32.not_le.mp c93))
            refine lv_iload_n hx hb dX5_heardOfAll_24 rfl (lv_at hl 3 rfl) ?_
            refine lv_iconst (v := 4) hx hb dX5_heardOfAll_25 (by decide) ?_
            refine lv_icmp_ge (tgt := 73) hx hb dX5_heardOfAll_26 (by decide) (fun c96 => absurd c96 (iR_nle (show iR 4 (4) (4) from ⟨by decide, by decide⟩) (nI_iR (j := j11_3) (a := 0) (b := 3) (by omega) (by omega) (by omega)) (by decide))) (fun _ => ?_)
            refine lv_iload_n hx hb dX5_heardOfAll_29 rfl (lv_at hl 1 rfl) ?_
            refine lv_aload_n hx hb dX5_heardOfAll_30 rfl (lv_at hl 0 rfl) ?_
            refine get5 B hP h 3 (by decide) mw_377 rfl dX5_heardOfAll_31 ?_
            refine lv_iload_n hx hb dX5_heardOfAll_34 rfl (lv_at hl 2 rfl) ?_
            refine aldNn (j := j4_2) B hP (lay5 h).2.2.2.2.2.2.1 (lay5 h).2.2.2.2.2.2.2.1 rfl (by omega) dX5_heardOfAll_35 ?_
            refine get2 B hP (lay5n (n := j4_2) h (by omega)) 4 (by decide) mw_292 rfl dX5_heardOfAll_36 ?_
            refine lv_iload_n hx hb dX5_heardOfAll_39 rfl (lv_at hl 3 rfl) ?_
            obtain ⟨k97, ek97, hk97⟩ := CI_link hI (lay2 (lay5n (n := j4_2) h (by omega))).2.2.2.2.2.2.2.1 (show j11_3 < 4 from (by omega))
            refine aldLn B hP (lay2 (lay5n (n := j4_2) h (by omega))).2.2.2.2.2.2.2.1 (lay2 (lay5n (n := j4_2) h (by omega))).2.2.2.2.2.2.2.2.1 rfl (by omega) ek97 hk97 dX5_heardOfAll_40 ?_
            refine get1 B hP hk97 1 (by decide) mw_199 rfl dX5_heardOfAll_41 ?_
            refine get4 B hP (lay1 hk97).2.1 5 (by decide) mw_137 rfl dX5_heardOfAll_44 ?_
            refine lv_aload_n hx hb dX5_heardOfAll_47 rfl (lv_at hl 0 rfl) ?_
            refine get5 B hP h 3 (by decide) mw_377 rfl dX5_heardOfAll_48 ?_
            refine lv_iload_n hx hb dX5_heardOfAll_51 rfl (lv_at hl 2 rfl) ?_
            refine aldNn (j := j4_2) B hP (lay5 h).2.2.2.2.2.2.1 (lay5 h).2.2.2.2.2.2.2.1 rfl (by omega) dX5_heardOfAll_52 ?_
            refine get2 B hP (lay5n (n := j4_2) h (by omega)) 4 (by decide) mw_292 rfl dX5_heardOfAll_53 ?_
            refine lv_iload_n hx hb dX5_heardOfAll_56 rfl (lv_at hl 3 rfl) ?_
            obtain ⟨k98, ek98, hk98⟩ := CI_link hI (lay2 (lay5n (n := j4_2) h (by omega))).2.2.2.2.2.2.2.1 (show j11_3 < 4 from (by omega))
            refine aldLn B hP (lay2 (lay5n (n := j4_2) h (by omega))).2.2.2.2.2.2.2.1 (lay2 (lay5n (n := j4_2) h (by omega))).2.2.2.2.2.2.2.2.1 rfl (by omega) ek98 hk98 dX5_heardOfAll_57 ?_
            refine get1 B hP hk98 2 (by decide) mw_202 rfl dX5_heardOfAll_58 ?_
            refine get4 B hP (lay1 hk98).2.2.1 5 (by decide) mw_137 rfl dX5_heardOfAll_61 ?_
            refine lv_iadd hx hb dX5_heardOfAll_64 ?_
            refine lv_iadd hx hb dX5_heardOfAll_65 ?_
            refine lv_istore_n (lv' := [(1, .int (x11_1 + ((ρ (k97 + 2) 5) + (ρ (k98 + 5) 5)))), (0, .ref (E.2.1 + k)), (2, .int (nI j4_2)), (3, .int (nI j11_3))]) hx hb dX5_heardOfAll_66 rfl hl (by decide) rfl (fun ls hl => ?_)
            refine lv_iinc (v := (nI (1 + j11_3))) (lv' := [(3, .int (nI (1 + j11_3))), (1, .int (x11_1 + ((ρ (k97 + 2) 5) + (ρ (k98 + 5) 5)))), (0, .ref (E.2.1 + k)), (2, .int (nI j4_2))]) hx hb dX5_heardOfAll_67 hl (k := 3) rfl (show nI j11_3 + nI 1 = _ from (nI_add _ _).trans (congrArg nI (by omega))) (by decide) rfl (fun ls hl => ?_)
            refine lv_goto (tgt := 11) hx hb dX5_heardOfAll_70 (by decide) ?_
            exact ih11 ls _ _ ((x11_1 + ((ρ (k97 + 2) 5) + (ρ (k98 + 5) 5))) : Int32) (1 + j11_3) (lv_sub hl [2, 1, 3, 0] rfl) hP hS (by omega) (iR_w (iR_any (x11_1 + ((ρ (k97 + 2) 5) + (ρ (k98 + 5) 5)))) (by decide) (by decide)) (by omega) (by omega) (by omega) (by omega)
      refine lv_iload_n hx hb dX5_heardOfAll_4 rfl (lv_at hl 2 rfl) ?_
      refine lv_iconst (v := 2) hx hb dX5_heardOfAll_5 (by decide) ?_
      refine lv_icmp_ge (tgt := 79) hx hb dX5_heardOfAll_6 (by decide) (fun c99 => ?_) (fun c99 => ?_)
      · skip
        have n100 := mt (nx_lt (a := j4_2) (b := 2) (by omega) (by omega)).mpr (show ¬ (nI j4_2 < nI 2) from (Int32.not_lt.mpr c99))
        refine lv_iload_n hx hb dX5_heardOfAll_79 rfl (lv_at hl 1 rfl) ?_
        exact ret_i B hr hlk hP hS dX5_heardOfAll_80 (⟨rfl, hI⟩)
      · skip
        have n101 := (nx_lt (a := j4_2) (b := 2) (by omega) (by omega)).mp (show (nI j4_2 < nI 2) from (Int32.not_le.mp c99))
        refine lv_iconst (v := 0) hx hb dX5_heardOfAll_9 (by decide) ?_
        refine lv_istore_n (lv' := [(3, .int 0), (0, .ref (E.2.1 + k)), (1, .int x4_1), (2, .int (nI j4_2))]) hx hb dX5_heardOfAll_10 rfl hl (by decide) rfl (fun ls hl => ?_)
        exact b11_0 ls _ _ _ (x4_1 : Int32) 0 (lv_sub hl [1, 2, 3, 0] rfl) hP hS (Nat.lt_succ_self _) (iR_w hx4_1 (by decide) (by decide)) (by omega) (by omega) (by omega) (by omega)
  refine lv_iconst (v := 0) hx hb dX5_heardOfAll_0 (by decide) ?_
  refine lv_istore_n (lv' := [(1, .int 0), (0, .ref (E.2.1 + k))]) hx hb dX5_heardOfAll_1 rfl hl (by decide) rfl (fun ls hl => ?_)
  refine lv_iconst (v := 0) hx hb dX5_heardOfAll_2 (by decide) ?_
  refine lv_istore_n (lv' := [(2, .int 0), (1, .int 0), (0, .ref (E.2.1 + k))]) hx hb dX5_heardOfAll_3 rfl hl (by decide) rfl (fun ls hl => ?_)
  exact b4_0 ls _ _ _ (0 : Int32) 0 (lv_sub hl [2, 1, 0] rfl) hP hS (Nat.lt_succ_self _) (iR_w (show iR 0 (0) (0) from ⟨by decide, by decide⟩) (by decide) (by decide)) (by omega) (by omega)

set_option maxHeartbeats 4000000 in
set_option maxRecDepth 100000 in
theorem d_X5_draw (l : Launch) (E : hE) (ρ r : Nat → Nat → Int32) (S : Nat × Nat → Prop) (hSS : SK S) (k : Nat) (h : hk k = 5) (hI : CI r S ρ) : Met l yX5_draw (.code yX5_draw cX5_draw 1 (some .int) :: gw_all) (rmk 1 40) (cPre E ρ [.ref (E.2.1 + k)]) (cI E (fun v ρ1 => CI r S ρ1)) 0 0 (hA E) := by
  refine ent (own := RX5) (by decide) rfl (Nat.le_of_ble_eq_true rfl) ?_
  intro p e s m below meth c ls B hr hlk hl hP hS
  have hx := B.1.1
  have hb := B.1.2.1
  have hown := B.1.2.2.2.1
  have hts := B.1.2.2.2.2
  have hl : lv_has ls 1 [(0, .ref (E.2.1 + k))] := hl
  refine lv_aload_n hx hb dX5_draw_0 rfl (lv_at hl 0 rfl) ?_
  refine lv_sipush (v := 1103) hx hb dX5_draw_1 (by decide) ?_
  refine lv_aload_n hx hb dX5_draw_4 rfl (lv_at hl 0 rfl) ?_
  refine get5 B hP h 6 (by decide) mw_383 rfl dX5_draw_5 ?_
  refine lv_imul hx hb dX5_draw_8 ?_
  refine lv_sipush (v := 12345) hx hb dX5_draw_9 (by decide) ?_
  refine lv_iadd hx hb dX5_draw_12 ?_
  refine lv_ldc (v := 1000003) hx hb hown (hts _ mw_751) dX5_draw_13 ?_
  refine lv_irem hx hb dX5_draw_15 (by decide) ?_
  refine put5 B hP hS h 6 (by decide) mw_383 rfl rfl rfl (fs5_6 E k _ _) dX5_draw_16 (fun H locs hP hS => ?_)
  obtain ⟨ρ3, e4⟩ : ∃ z, z = up ρ k 6 (((1103 * (ρ k 6)) + 12345) - ((1103 * (ρ k 6)) + 12345) / 1000003 * 1000003) := ⟨_, rfl⟩
  rw [← e4] at hP
  have hI : CI r S ρ3 := by rw [e4]; exact CI_up hI (kind_lt h (by decide)) (SP_plain h rfl (by decide)) ⟨(fun z2 => absurd (Eq.trans (Eq.symm h) z2) (by decide)), (fun _ => by decide)⟩ hSS
  refine lv_aload_n hx hb dX5_draw_19 rfl (lv_at hl 0 rfl) ?_
  refine get5 B hP h 6 (by decide) mw_383 (v := .int (((1103 * (ρ k 6)) + 12345) - ((1103 * (ρ k 6)) + 12345) / 1000003 * 1000003)) (show some (Value.int (ρ3 k 6)) = some (Value.int (((1103 * (ρ k 6)) + 12345) - ((1103 * (ρ k 6)) + 12345) / 1000003 * 1000003)) from congrArg (fun z => some (Value.int z)) (by rw [e4]; exact up_get_at)) dX5_draw_20 ?_
  refine lv_bipush (v := 16) hx hb dX5_draw_23 (by decide) ?_
  refine lv_irem hx hb dX5_draw_25 (by decide) ?_
  exact ret_i B hr hlk hP hS dX5_draw_26 (hI)

theorem lk_RX5_229 : LkV RX5 229 RX5 yX5_draw cX5_draw 1 (some .int) 0 := ⟨⟨mw_747, mw_748, mw_749, mw_53, mw_750⟩, by decide +kernel⟩
set_option maxHeartbeats 4000000 in
set_option maxRecDepth 100000 in
theorem d_X5_lossOnAir (l : Launch) (E : hE) (ρ r : Nat → Nat → Int32) (S : Nat × Nat → Prop) (hSS : SK S) (k : Nat) (h : hk k = 5) (na1 : Nat) (lna1 : 0 ≤ na1) (una1 : na1 ≤ 1) (hI : CI r S ρ) : Met l yX5_lossOnAir (.code yX5_lossOnAir cX5_lossOnAir 3 (some .int) :: gw_all) (rmk 2 80) (cPre E ρ [.ref (E.2.1 + k), .int (nI na1)]) (cI E (fun v ρ1 => CI r S ρ1 ∧ iR v (0) (2))) 0 0 (hA E) := by
  refine ent (own := RX5) (by decide) rfl (Nat.le_of_ble_eq_true rfl) ?_
  intro p e s m below meth c ls B hr hlk hl hP hS
  have hx := B.1.1
  have hb := B.1.2.1
  have hown := B.1.2.2.2.1
  have hts := B.1.2.2.2.2
  have hl : lv_has ls 3 [(0, .ref (E.2.1 + k)), (1, .int (nI na1))] := hl
  refine lv_aload_n hx hb dX5_lossOnAir_0 rfl (lv_at hl 0 rfl) ?_
  refine get5 B hP h 3 (by decide) mw_377 rfl dX5_lossOnAir_1 ?_
  refine lv_iload_n hx hb dX5_lossOnAir_4 rfl (lv_at hl 1 rfl) ?_
  refine aldNn (j := na1) B hP (lay5 h).2.2.2.2.2.2.1 (lay5 h).2.2.2.2.2.2.2.1 rfl (by omega) dX5_lossOnAir_5 ?_
  refine get2 B hP (lay5n (n := na1) h (by omega)) 17 (by decide) mw_325 rfl dX5_lossOnAir_6 ?_
  refine lv_istore_n (lv' := [(2, .int (ρ ((k + 4) + 1 + 42 * na1) 17)), (0, .ref (E.2.1 + k)), (1, .int (nI na1))]) hx hb dX5_lossOnAir_9 rfl hl (by decide) rfl (fun ls hl => ?_)
  refine lv_aload_n hx hb dX5_lossOnAir_10 rfl (lv_at hl 1 rfl) ?_
  refine call_i (cVt (k := k) (av := []) (rest := []) B hP hS (d_X5_draw l E ρ r S hSS k h hI) lk_RX5_229 (hrecv (ci := 5) B hP (hk_lt (c := 5) h (by decide)) (hcc5 _ _ h) rfl) rfl rfl hl.1 (Nat.le_of_ble_eq_true rfl) ⟨Nat.le_of_ble_eq_true rfl, Nat.le_of_ble_eq_true rfl⟩ ⟨Nat.le_of_ble_eq_true rfl, Nat.le_of_ble_eq_true rfl⟩ dX5_lossOnAir_11) hS (fun r13 ρ14 H locs q15 hP hS => ?_)
  have hI := q15
  refine lv_aload_n hx hb dX5_lossOnAir_14 rfl (lv_at hl 1 rfl) ?_
  refine lv_iload_n hx hb dX5_lossOnAir_15 rfl (lv_at hl 0 rfl) ?_
  refine call_i (cVt (k := k) (av := [.int (ρ ((k + 4) + 1 + 42 * na1) 17)]) (rest := [.int r13]) B hP hS (d_X5_noiseOn l E ρ14 r S hSS k h (ρ ((k + 4) + 1 + 42 * na1) 17) hI) lk_RX5_118 (hrecv (ci := 5) B hP (hk_lt (c := 5) h (by decide)) (hcc5 _ _ h) rfl) rfl rfl hl.1 (Nat.le_of_ble_eq_true rfl) ⟨Nat.le_of_ble_eq_true rfl, Nat.le_of_ble_eq_true rfl⟩ ⟨Nat.le_of_ble_eq_true rfl, Nat.le_of_ble_eq_true rfl⟩ dX5_lossOnAir_16) hS (fun r17 ρ18 H locs q19 hP hS => ?_)
  obtain ⟨rfl, hI⟩ := q19
  refine lv_icmp_ge (tgt := 24) hx hb dX5_lossOnAir_19 (by decide) (fun c21 => ?_) (fun c21 => ?_)
  · skip
    refine lv_aload_n hx hb dX5_lossOnAir_24 rfl (lv_at hl 1 rfl) ?_
    refine get5 B hP h 3 (by decide) mw_377 rfl dX5_lossOnAir_25 ?_
    refine lv_iconst (v := 1) hx hb dX5_lossOnAir_28 (by decide) ?_
    refine lv_iload_n hx hb dX5_lossOnAir_29 rfl (lv_at hl 2 rfl) ?_
    refine lv_isub hx hb dX5_lossOnAir_30 ?_
    obtain ⟨j22, lj22, uj22, ej22⟩ := iR_nat (a := 0) (b := 1) (iR_sub (a' := 0) (b' := 1) (show iR 1 (1) (1) from ⟨by decide, by decide⟩) (nI_iR (j := na1) (a := 0) (b := 1) (by omega) (by omega) (by omega)) (by decide) (by decide) (by decide) (by decide))
    refine lv_topi (fun z23 ez23 => ?_)
    obtain rfl : z23 = nI j22 := ez23.trans ej22
    refine aldNn (j := j22) B hP (lay5 h).2.2.2.2.2.2.1 (lay5 h).2.2.2.2.2.2.2.1 rfl (by omega) dX5_lossOnAir_31 ?_
    refine get2 B hP (lay5n (n := j22) h (by omega)) 17 (by decide) mw_325 rfl dX5_lossOnAir_32 ?_
    refine lv_iload_n hx hb dX5_lossOnAir_35 rfl (lv_at hl 0 rfl) ?_
    refine lv_icmp_ne (tgt := 43) hx hb dX5_lossOnAir_36 (by decide) (fun c24 => ?_) (fun c24 => ?_)
    · skip
      refine lv_iconst (v := 0) hx hb dX5_lossOnAir_43 (by decide) ?_
      exact ret_i B hr hlk hP hS dX5_lossOnAir_44 (⟨hI, (iR_w (a := 0) (b := 0) (show iR 0 (0) (0) from ⟨by decide, by decide⟩) (by decide) (by decide))⟩)
    · skip
      refine lv_iconst (v := 2) hx hb dX5_lossOnAir_39 (by decide) ?_
      refine lv_goto (tgt := 44) hx hb dX5_lossOnAir_40 (by decide) ?_
      exact ret_i B hr hlk hP hS dX5_lossOnAir_44 (⟨hI, (iR_w (a := 2) (b := 2) (show iR 2 (2) (2) from ⟨by decide, by decide⟩) (by decide) (by decide))⟩)
  · skip
    refine lv_iconst (v := 1) hx hb dX5_lossOnAir_22 (by decide) ?_
    exact ret_i B hr hlk hP hS dX5_lossOnAir_23 (⟨hI, (iR_w (a := 1) (b := 1) (show iR 1 (1) (1) from ⟨by decide, by decide⟩) (by decide) (by decide))⟩)

theorem lk_RX5_180 : LkV RX5 180 RX3 yX3_changesAt cX3_changesAt 2 (some .boolean) 1 := ⟨⟨mw_666, mw_667, mw_668, mw_55, mw_669⟩, by decide +kernel⟩
set_option maxHeartbeats 4000000 in
set_option maxRecDepth 100000 in
theorem d_X5_changeMaps (l : Launch) (E : hE) (ρ r : Nat → Nat → Int32) (S : Nat × Nat → Prop) (hSS : SK S) (k : Nat) (h : hk k = 5) (k1 : Nat) (h1 : hk k1 = 2) (hI : CI r S ρ) : Met l yX5_changeMaps (.code yX5_changeMaps cX5_changeMaps 4 none :: gw_all) (rmk 3 120) (cPre E ρ [.ref (E.2.1 + k), .ref (E.2.1 + k1)]) (cV E (fun ρ1 => CI r S ρ1)) 0 0 (hA E) := by
  refine ent (own := RX5) (by decide) rfl (Nat.le_of_ble_eq_true rfl) ?_
  intro p e s m below meth c ls B hr hlk hl hP hS
  have hx := B.1.1
  have hb := B.1.2.1
  have hown := B.1.2.2.2.1
  have hts := B.1.2.2.2.2
  have hl : lv_has ls 4 [(0, .ref (E.2.1 + k)), (1, .ref (E.2.1 + k1))] := hl
  have b40_0 : ∀ (ls : Array Slot) (ρ : Nat → Nat → Int32) (H : Heap) (locs : List Loc) (d40 : Nat) (j40_3 : Nat), lv_has ls 4 [(0, .ref (E.2.1 + k)), (1, .ref (E.2.1 + k1)), (3, .int (nI j40_3))] → WP E ρ H → va_S (hA E) s.heap H locs → CI r S ρ → 5 - j40_3 < d40 → 0 ≤ j40_3 → j40_3 ≤ 4 → W p l e (rmk 3 120) s m ([.ref (E.2.1 + k), .ref (E.2.1 + k1)] : List Value).toArray below meth c H locs 0 0 (MQ below (cV E (fun ρ1 => CI r S ρ1)) ([.ref (E.2.1 + k), .ref (E.2.1 + k1)] : List Value).toArray s 0 0 (hA E)) (F0 m 40 ls []) := by
    intro ls ρ H locs d40
    induction d40 generalizing ls ρ H locs with
    | zero => intro j40_3 hl hP hS hI hd40 lj40_3 uj40_3; exact absurd hd40 (Nat.not_lt_zero _)
    | succ d40 ih40 =>
      intro j40_3 hl hP hS hI hd40 lj40_3 uj40_3
      refine lv_iload_n hx hb dX5_changeMaps_40 rfl (lv_at hl 2 rfl) ?_
      refine lv_aload_n hx hb dX5_changeMaps_41 rfl (lv_at hl 1 rfl) ?_
      refine get2 B hP h1 8 (by decide) mw_305 rfl dX5_changeMaps_42 ?_
      have i84 : iR (ρ k1 8) 0 4 := CI_get hI (kind_lt h1 (by decide)) h1 rfl
      obtain ⟨j85, lj85, uj85, ej85⟩ := iR_nat (a := 0) (b := 4) i84
      refine lv_topi (fun z86 ez86 => ?_)
      obtain rfl : z86 = nI j85 := ez86.trans ej85
      refine lv_icmp_ge (tgt := 76) hx hb dX5_changeMaps_45 (by decide) (fun c87 => ?_) (fun c87 => ?_)
      · skip
        have n88 := mt (nx_lt (a := j40_3) (b := j85) (by omega) (by omega)).mpr (show ¬ (nI j40_3 < nI j85) from (Int32.not_lt.mpr c87))
        exact ret_v B hr hlk hP hS dX5_changeMaps_76 (hI)
      · skip
        have n89 := (nx_lt (a := j40_3) (b := j85) (by omega) (by omega)).mp (show (nI j40_3 < nI j85) from (Int32.not_le.mp c87))
        refine lv_iload_n hx hb dX5_changeMaps_48 rfl (lv_at hl 2 rfl) ?_
        refine lv_iconst (v := 4) hx hb dX5_changeMaps_49 (by decide) ?_
        refine lv_icmp_ge (tgt := 76) hx hb dX5_changeMaps_50 (by decide) (fun c90 => absurd c90 (iR_nle (show iR 4 (4) (4) from ⟨by decide, by decide⟩) (nI_iR (j := j40_3) (a := 0) (b := 3) (by omega) (by omega) (by omega)) (by decide))) (fun _ => ?_)
        refine lv_aload_n hx hb dX5_changeMaps_53 rfl (lv_at hl 1 rfl) ?_
        refine get2 B hP h1 4 (by decide) mw_292 rfl dX5_changeMaps_54 ?_
        refine lv_iload_n hx hb dX5_changeMaps_57 rfl (lv_at hl 2 rfl) ?_
        obtain ⟨k91, ek91, hk91⟩ := CI_link hI (lay2 h1).2.2.2.2.2.2.2.1 (show j40_3 < 4 from (by omega))
        refine aldLn B hP (lay2 h1).2.2.2.2.2.2.2.1 (lay2 h1).2.2.2.2.2.2.2.2.1 rfl (by omega) ek91 hk91 dX5_changeMaps_58 ?_
        refine get1 B hP hk91 0 (by decide) mw_194 rfl dX5_changeMaps_59 ?_
        refine lv_aload_n hx hb dX5_changeMaps_62 rfl (lv_at hl 0 rfl) ?_
        refine get5 B hP h 5 (by decide) mw_381 rfl dX5_changeMaps_63 ?_
        refine call_i (cVt (k := (k91 + 1)) (av := [.int (ρ k 5)]) (rest := []) B hP hS (d_X3_changesAt l E ρ r S hSS (k91 + 1) (lay1 hk91).1 (ρ k 5) hI) lk_RX5_180 (hrecv (ci := 3) B hP (hk_lt (c := 3) (lay1 hk91).1 (by decide)) (hcc3 _ _ (lay1 hk91).1) rfl) rfl rfl hl.1 (Nat.le_of_ble_eq_true rfl) ⟨Nat.le_of_ble_eq_true rfl, Nat.le_of_ble_eq_true rfl⟩ ⟨Nat.le_of_ble_eq_true rfl, Nat.le_of_ble_eq_true rfl⟩ dX5_changeMaps_66) hS (fun r92 ρ93 H locs q94 hP hS => ?_)
        obtain ⟨hI, i95⟩ := q94
        obtain ⟨j96, lj96, uj96, ej96⟩ := iR_nat (a := 0) (b := 1) i95
        refine lv_topi (fun z97 ez97 => ?_)
        obtain rfl : z97 = nI j96 := ez97.trans ej96
        refine lv_pop hx hb dX5_changeMaps_69 rfl ?_
        refine lv_iinc (v := (nI (1 + j40_3))) (lv' := [(3, .int (nI (1 + j40_3))), (0, .ref (E.2.1 + k)), (1, .ref (E.2.1 + k1))]) hx hb dX5_changeMaps_70 hl (k := 2) rfl (show nI j40_3 + nI 1 = _ from (nI_add _ _).trans (congrArg nI (by omega))) (by decide) rfl (fun ls hl => ?_)
        refine lv_goto (tgt := 40) hx hb dX5_changeMaps_73 (by decide) ?_
        exact ih40 ls ρ93 _ _ (1 + j40_3) (lv_sub hl [1, 2, 0] rfl) hP hS hI (by omega) (by omega) (by omega)
  have b38_0 : ∀ (ls : Array Slot) (ρ : Nat → Nat → Int32) (H : Heap) (locs : List Loc) , lv_has ls 4 [(0, .ref (E.2.1 + k)), (1, .ref (E.2.1 + k1))] → WP E ρ H → va_S (hA E) s.heap H locs → CI r S ρ → W p l e (rmk 3 120) s m ([.ref (E.2.1 + k), .ref (E.2.1 + k1)] : List Value).toArray below meth c H locs 0 0 (MQ below (cV E (fun ρ1 => CI r S ρ1)) ([.ref (E.2.1 + k), .ref (E.2.1 + k1)] : List Value).toArray s 0 0 (hA E)) (F0 m 38 ls []) := by
    intro ls ρ H locs  hl hP hS hI
    refine lv_iconst (v := 0) hx hb dX5_changeMaps_38 (by decide) ?_
    refine lv_istore_n (lv' := [(3, .int 0), (0, .ref (E.2.1 + k)), (1, .ref (E.2.1 + k1))]) hx hb dX5_changeMaps_39 rfl hl (by decide) rfl (fun ls hl => ?_)
    exact b40_0 ls ρ _ _ _ 0 (lv_sub hl [1, 2, 0] rfl) hP hS hI (Nat.lt_succ_self _) (by omega) (by omega)
  refine lv_aload_n hx hb dX5_changeMaps_0 rfl (lv_at hl 1 rfl) ?_
  refine get2 B hP h1 0 (by decide) mw_283 rfl dX5_changeMaps_1 ?_
  refine get3 B hP (lay2 h1).1 0 (by decide) mw_94 rfl dX5_changeMaps_4 ?_
  refine lv_istore_n (lv' := [(2, .int (ρ (k1 + 1) 0)), (0, .ref (E.2.1 + k)), (1, .ref (E.2.1 + k1))]) hx hb dX5_changeMaps_7 rfl hl (by decide) rfl (fun ls hl => ?_)
  refine lv_aload_n hx hb dX5_changeMaps_8 rfl (lv_at hl 2 rfl) ?_
  refine get2 B hP h1 0 (by decide) mw_283 rfl dX5_changeMaps_9 ?_
  refine lv_aload_n hx hb dX5_changeMaps_12 rfl (lv_at hl 1 rfl) ?_
  refine get5 B hP h 5 (by decide) mw_381 rfl dX5_changeMaps_13 ?_
  refine call_i (cVt (k := (k1 + 1)) (av := [.int (ρ k 5)]) (rest := []) B hP hS (d_X3_changesAt l E ρ r S hSS (k1 + 1) (lay2 h1).1 (ρ k 5) hI) lk_RX5_180 (hrecv (ci := 3) B hP (hk_lt (c := 3) (lay2 h1).1 (by decide)) (hcc3 _ _ (lay2 h1).1) rfl) rfl rfl hl.1 (Nat.le_of_ble_eq_true rfl) ⟨Nat.le_of_ble_eq_true rfl, Nat.le_of_ble_eq_true rfl⟩ ⟨Nat.le_of_ble_eq_true rfl, Nat.le_of_ble_eq_true rfl⟩ dX5_changeMaps_16) hS (fun r98 ρ99 H locs q100 hP hS => ?_)
  obtain ⟨hI, i101⟩ := q100
  obtain ⟨j102, lj102, uj102, ej102⟩ := iR_nat (a := 0) (b := 1) i101
  refine lv_topi (fun z103 ez103 => ?_)
  obtain rfl : z103 = nI j102 := ez103.trans ej102
  refine lv_if_eq (tgt := 38) hx hb dX5_changeMaps_19 (by decide) (fun c104 => ?_) (fun c104 => ?_)
  · skip
    have n105 := (nI_eq (a := j102) (b := 0) (by omega) (by omega)).mp (show (nI j102 = nI 0) from c104)
    exact b38_0 ls ρ99 _ _  (lv_sub hl [1, 2] rfl) hP hS hI 
  · skip
    have n106 := mt (nI_eq (a := j102) (b := 0) (by omega) (by omega)).mpr (show ¬ (nI j102 = nI 0) from c104)
    refine lv_aload_n hx hb dX5_changeMaps_22 rfl (lv_at hl 2 rfl) ?_
    refine lv_iload_n hx hb dX5_changeMaps_23 rfl (lv_at hl 0 rfl) ?_
    refine put2 B hP hS h1 7 (by decide) mw_301 rfl rfl rfl (fs2_7 E k1 _ _) dX5_changeMaps_24 (fun H locs hP hS => ?_)
    obtain ⟨ρ107, e108⟩ : ∃ z, z = up ρ99 k1 7 (ρ (k1 + 1) 0) := ⟨_, rfl⟩
    rw [← e108] at hP
    have hI : CI r S ρ107 := by rw [e108]; exact CI_up hI (kind_lt h1 (by decide)) (SP_plain h1 rfl (by decide)) ⟨(fun _ => ⟨by decide, by decide, by decide⟩), (fun z2 => absurd (Eq.trans (Eq.symm h1) z2) (by decide))⟩ hSS
    refine lv_aload_n hx hb dX5_changeMaps_27 rfl (lv_at hl 1 rfl) ?_
    refine get5 B hP h 2 (by decide) mw_375 rfl dX5_changeMaps_28 ?_
    refine lv_bipush (v := 8) hx hb dX5_changeMaps_31 (by decide) ?_
    refine lv_dup2_11 hx hb dX5_changeMaps_33 rfl rfl ?_
    refine aldn (n := 9) (j := 8) B hP (lay5 h).2.2.2.2.1 (lay5 h).2.2.2.2.2.1 rfl (by decide) (by decide) dX5_changeMaps_34 ?_
    refine lv_iconst (v := 1) hx hb dX5_changeMaps_35 (by decide) ?_
    refine lv_iadd hx hb dX5_changeMaps_36 ?_
    refine astn (n := 9) (j := 8) B hP hS (lay5 h).2.2.2.2.1 (lay5 h).2.2.2.2.2.1 rfl (by decide) (by decide) dX5_changeMaps_37 (fun H locs hP hS => ?_)
    obtain ⟨ρ109, e110⟩ : ∃ z, z = up ρ107 (k + 3) 8 ((ρ107 (k + 3) 8) + 1) := ⟨_, rfl⟩
    rw [← e110] at hP
    have hI : CI r S ρ109 := by rw [e110]; exact CI_up hI (by have := lay5l h; omega) (SP_plain (lay5 h).2.2.2.2.1 rfl (by decide)) ⟨(fun z2 => absurd (Eq.trans (Eq.symm (lay5 h).2.2.2.2.1) z2) (by decide)), (fun z2 => absurd (Eq.trans (Eq.symm (lay5 h).2.2.2.2.1) z2) (by decide))⟩ hSS
    exact b38_0 ls ρ109 _ _  (lv_sub hl [1, 2] rfl) hP hS hI 

theorem lk_RX5_186 : LkV RX5 186 RX0 yX0_openAt cX0_openAt 2 none 1 := ⟨⟨mw_678, mw_679, mw_680, mw_58, mw_681⟩, by decide +kernel⟩
theorem lk_RX5_189 : LkV RX5 189 RX5 yX5_isReadyAt cX5_isReadyAt 4 (some .boolean) 3 := ⟨⟨mw_686, mw_687, mw_688, mw_53, mw_689⟩, by decide +kernel⟩
set_option maxHeartbeats 4000000 in
set_option maxRecDepth 100000 in
theorem d_X5_beginTurnOfLinks (l : Launch) (E : hE) (ρ r : Nat → Nat → Int32) (S : Nat × Nat → Prop) (hSS : SK S) (k : Nat) (h : hk k = 5) (na1 : Nat) (lna1 : 0 ≤ na1) (una1 : na1 ≤ 1) (hI : CI r S ρ) : Met l yX5_beginTurnOfLinks (.code yX5_beginTurnOfLinks cX5_beginTurnOfLinks 4 none :: gw_all) (rmk 4 160) (cPre E ρ [.ref (E.2.1 + k), .int (nI na1)]) (cV E (fun ρ1 => CI r S ρ1)) 0 0 (hA E) := by
  refine ent (own := RX5) (by decide) rfl (Nat.le_of_ble_eq_true rfl) ?_
  intro p e s m below meth c ls B hr hlk hl hP hS
  have hx := B.1.1
  have hb := B.1.2.1
  have hown := B.1.2.2.2.1
  have hts := B.1.2.2.2.2
  have hl : lv_has ls 4 [(0, .ref (E.2.1 + k)), (1, .int (nI na1))] := hl
  have b2_0 : ∀ (ls : Array Slot) (ρ : Nat → Nat → Int32) (H : Heap) (locs : List Loc) (d2 : Nat) (j2_2 : Nat), lv_has ls 4 [(0, .ref (E.2.1 + k)), (1, .int (nI na1)), (2, .int (nI j2_2))] → WP E ρ H → va_S (hA E) s.heap H locs → CI r S ρ → 5 - j2_2 < d2 → 0 ≤ j2_2 → j2_2 ≤ 4 → 0 ≤ na1 → na1 ≤ 1 → W p l e (rmk 4 160) s m ([.ref (E.2.1 + k), .int (nI na1)] : List Value).toArray below meth c H locs 0 0 (MQ below (cV E (fun ρ1 => CI r S ρ1)) ([.ref (E.2.1 + k), .int (nI na1)] : List Value).toArray s 0 0 (hA E)) (F0 m 2 ls []) := by
    intro ls ρ H locs d2
    induction d2 generalizing ls ρ H locs with
    | zero => intro j2_2 hl hP hS hI hd2 lj2_2 uj2_2 tlna1 tuna1; exact absurd hd2 (Nat.not_lt_zero _)
    | succ d2 ih2 =>
      intro j2_2 hl hP hS hI hd2 lj2_2 uj2_2 tlna1 tuna1
      have b74_0 : ∀ (ls : Array Slot) (ρ : Nat → Nat → Int32) (H : Heap) (locs : List Loc) , lv_has ls 4 [(0, .ref (E.2.1 + k)), (1, .int (nI na1)), (2, .int (nI j2_2))] → WP E ρ H → va_S (hA E) s.heap H locs → CI r S ρ → 0 ≤ j2_2 → j2_2 ≤ 3 → 0 ≤ na1 → na1 ≤ 1 → W p l e (rmk 4 160) s m ([.ref (E.2.1 + k), .int (nI na1)] : List Value).toArray below meth c H locs 0 0 (MQ below (cV E (fun ρ1 => CI r S ρ1)) ([.ref (E.2.1 + k), .int (nI na1)] : List Value).toArray s 0 0 (hA E)) (F0 m 74 ls []) := by
        intro ls ρ H locs  hl hP hS hI tlj2_2 tuj2_2 tlna1 tuna1
        refine lv_iinc (v := (nI (1 + j2_2))) (lv' := [(2, .int (nI (1 + j2_2))), (0, .ref (E.2.1 + k)), (1, .int (nI na1))]) hx hb dX5_beginTurnOfLinks_74 hl (k := 2) rfl (show nI j2_2 + nI 1 = _ from (nI_add _ _).trans (congrArg nI (by omega))) (by decide) rfl (fun ls hl => ?_)
        refine lv_goto (tgt := 2) hx hb dX5_beginTurnOfLinks_77 (by decide) ?_
        exact ih2 ls ρ _ _ (1 + j2_2) (lv_sub hl [1, 2, 0] rfl) hP hS hI (by omega) (by omega) (by omega) (by omega) (by omega)
      refine lv_iload_n hx hb dX5_beginTurnOfLinks_2 rfl (lv_at hl 2 rfl) ?_
      refine lv_aload_n hx hb dX5_beginTurnOfLinks_3 rfl (lv_at hl 0 rfl) ?_
      refine get5 B hP h 3 (by decide) mw_377 rfl dX5_beginTurnOfLinks_4 ?_
      refine lv_iload_n hx hb dX5_beginTurnOfLinks_7 rfl (lv_at hl 1 rfl) ?_
      refine aldNn (j := na1) B hP (lay5 h).2.2.2.2.2.2.1 (lay5 h).2.2.2.2.2.2.2.1 rfl (by omega) dX5_beginTurnOfLinks_8 ?_
      refine get2 B hP (lay5n (n := na1) h (by omega)) 8 (by decide) mw_305 rfl dX5_beginTurnOfLinks_9 ?_
      have i126 : iR (ρ ((k + 4) + 1 + 42 * na1) 8) 0 4 := CI_get hI (kind_lt (lay5n (n := na1) h (by omega)) (by decide)) (lay5n (n := na1) h (by omega)) rfl
      obtain ⟨j127, lj127, uj127, ej127⟩ := iR_nat (a := 0) (b := 4) i126
      refine lv_topi (fun z128 ez128 => ?_)
      obtain rfl : z128 = nI j127 := ez128.trans ej127
      refine lv_icmp_ge (tgt := 80) hx hb dX5_beginTurnOfLinks_12 (by decide) (fun c129 => ?_) (fun c129 => ?_)
      · skip
        have n130 := mt (nx_lt (a := j2_2) (b := j127) (by omega) (by omega)).mpr (show ¬ (nI j2_2 < nI j127) from (Int32.not_lt.mpr c129))
        exact ret_v B hr hlk hP hS dX5_beginTurnOfLinks_80 (hI)
      · skip
        have n131 := (nx_lt (a := j2_2) (b := j127) (by omega) (by omega)).mp (show (nI j2_2 < nI j127) from (Int32.not_le.mp c129))
        refine lv_iload_n hx hb dX5_beginTurnOfLinks_15 rfl (lv_at hl 2 rfl) ?_
        refine lv_iconst (v := 4) hx hb dX5_beginTurnOfLinks_16 (by decide) ?_
        refine lv_icmp_ge (tgt := 80) hx hb dX5_beginTurnOfLinks_17 (by decide) (fun c132 => absurd c132 (iR_nle (show iR 4 (4) (4) from ⟨by decide, by decide⟩) (nI_iR (j := j2_2) (a := 0) (b := 3) (by omega) (by omega) (by omega)) (by decide))) (fun _ => ?_)
        refine lv_aload_n hx hb dX5_beginTurnOfLinks_20 rfl (lv_at hl 0 rfl) ?_
        refine get5 B hP h 3 (by decide) mw_377 rfl dX5_beginTurnOfLinks_21 ?_
        refine lv_iload_n hx hb dX5_beginTurnOfLinks_24 rfl (lv_at hl 1 rfl) ?_
        refine aldNn (j := na1) B hP (lay5 h).2.2.2.2.2.2.1 (lay5 h).2.2.2.2.2.2.2.1 rfl (by omega) dX5_beginTurnOfLinks_25 ?_
        refine get2 B hP (lay5n (n := na1) h (by omega)) 4 (by decide) mw_292 rfl dX5_beginTurnOfLinks_26 ?_
        refine lv_iload_n hx hb dX5_beginTurnOfLinks_29 rfl (lv_at hl 2 rfl) ?_
        obtain ⟨k133, ek133, hk133⟩ := CI_link hI (lay2 (lay5n (n := na1) h (by omega))).2.2.2.2.2.2.2.1 (show j2_2 < 4 from (by omega))
        refine aldLn B hP (lay2 (lay5n (n := na1) h (by omega))).2.2.2.2.2.2.2.1 (lay2 (lay5n (n := na1) h (by omega))).2.2.2.2.2.2.2.2.1 rfl (by omega) ek133 hk133 dX5_beginTurnOfLinks_30 ?_
        refine lv_astore_n (lv' := [(3, .ref (E.2.1 + k133)), (0, .ref (E.2.1 + k)), (1, .int (nI na1)), (2, .int (nI j2_2))]) hx hb dX5_beginTurnOfLinks_31 rfl hl (by decide) rfl (fun ls hl => ?_)
        refine lv_aload_n hx hb dX5_beginTurnOfLinks_32 rfl (lv_at hl 0 rfl) ?_
        refine get1 B hP hk133 3 (by decide) mw_206 rfl dX5_beginTurnOfLinks_33 ?_
        refine lv_aload_n hx hb dX5_beginTurnOfLinks_36 rfl (lv_at hl 1 rfl) ?_
        refine get5 B hP h 5 (by decide) mw_381 rfl dX5_beginTurnOfLinks_37 ?_
        refine call_v (cVt (k := (k133 + 8)) (av := [.int (ρ k 5)]) (rest := []) B hP hS (d_X0_openAt l E ρ r S hSS (k133 + 8) (lay1 hk133).2.2.2 (ρ k 5) hI) lk_RX5_186 (hrecv (ci := 0) B hP (hk_lt (c := 0) (lay1 hk133).2.2.2 (by decide)) (hcc0 _ _ (lay1 hk133).2.2.2) rfl) rfl rfl hl.1 (Nat.le_of_ble_eq_true rfl) ⟨Nat.le_of_ble_eq_true rfl, Nat.le_of_ble_eq_true rfl⟩ ⟨Nat.le_of_ble_eq_true rfl, Nat.le_of_ble_eq_true rfl⟩ dX5_beginTurnOfLinks_40) hS (fun ρ135 H locs q136 hP hS => ?_)
        have hI := q136
        refine lv_aload_n hx hb dX5_beginTurnOfLinks_43 rfl (lv_at hl 0 rfl) ?_
        refine lv_aload_n hx hb dX5_beginTurnOfLinks_44 rfl (lv_at hl 1 rfl) ?_
        refine lv_iload_n hx hb dX5_beginTurnOfLinks_45 rfl (lv_at hl 2 rfl) ?_
        refine lv_aload_n hx hb dX5_beginTurnOfLinks_46 rfl (lv_at hl 0 rfl) ?_
        refine lv_aload_n hx hb dX5_beginTurnOfLinks_47 rfl (lv_at hl 1 rfl) ?_
        refine get5 B hP h 5 (by decide) mw_381 rfl dX5_beginTurnOfLinks_48 ?_
        refine call_i (cVt (k := k) (av := [.int (nI na1), .ref (E.2.1 + k133), .int (ρ135 k 5)]) (rest := [.ref (E.2.1 + k133)]) B hP hS (d_X5_isReadyAt l E ρ135 r S hSS k h na1 (by omega) (by omega) k133 hk133 (ρ135 k 5) hI) lk_RX5_189 (hrecv (ci := 5) B hP (hk_lt (c := 5) h (by decide)) (hcc5 _ _ h) rfl) rfl rfl hl.1 (Nat.le_of_ble_eq_true rfl) ⟨Nat.le_of_ble_eq_true rfl, Nat.le_of_ble_eq_true rfl⟩ ⟨Nat.le_of_ble_eq_true rfl, Nat.le_of_ble_eq_true rfl⟩ dX5_beginTurnOfLinks_51) hS (fun r138 ρ139 H locs q140 hP hS => ?_)
        obtain ⟨rfl, hI, i141⟩ := q140
        obtain ⟨j142, lj142, uj142, ej142⟩ := iR_nat (a := 0) (b := 1) i141
        refine lv_topi (fun z143 ez143 => ?_)
        obtain rfl : z143 = nI j142 := ez143.trans ej142
        refine put1 B hP hS hk133 17 (by decide) mw_244 rfl (nar_b (b01 (iR_w (a := 0) (b := 1) (nI_iR (j := j142) (a := 0) (b := 1) (by omega) (by omega) (by omega)) (by decide) (by decide)))) (fit_b (b01 (iR_w (a := 0) (b := 1) (nI_iR (j := j142) (a := 0) (b := 1) (by omega) (by omega) (by omega)) (by decide) (by decide)))) (fs1_17 E k133 _ _) dX5_beginTurnOfLinks_54 (fun H locs hP hS => ?_)
        obtain ⟨ρ144, e145⟩ : ∃ z, z = up ρ135 k133 17 (nI j142) := ⟨_, rfl⟩
        rw [← e145] at hP
        have hI : CI r S ρ144 := by rw [e145]; exact CI_up hI (kind_lt hk133 (by decide)) (SP_rng hk133 rfl (by decide) (iR_w (a := 0) (b := 1) (nI_iR (j := j142) (a := 0) (b := 1) (by omega) (by omega) (by omega)) (by decide) (by decide))) ⟨(fun z2 => absurd (Eq.trans (Eq.symm hk133) z2) (by decide)), (fun z2 => absurd (Eq.trans (Eq.symm hk133) z2) (by decide))⟩ hSS
        refine lv_aload_n hx hb dX5_beginTurnOfLinks_57 rfl (lv_at hl 0 rfl) ?_
        refine get1 B hP hk133 17 (by decide) mw_244 (v := .int (nI j142)) (show some (Value.int (ρ144 k133 17)) = some (Value.int (nI j142)) from congrArg (fun z => some (Value.int z)) (by rw [e145]; exact up_get_at)) dX5_beginTurnOfLinks_58 ?_
        refine lv_if_eq (tgt := 74) hx hb dX5_beginTurnOfLinks_61 (by decide) (fun c146 => ?_) (fun c146 => ?_)
        · skip
          have n147 := (nI_eq (a := j142) (b := 0) (by omega) (by omega)).mp (show (nI j142 = nI 0) from c146)
          exact b74_0 ls ρ144 _ _  (lv_sub hl [1, 2, 3] rfl) hP hS hI (by omega) (by omega) (by omega) (by omega)
        · skip
          have n148 := mt (nI_eq (a := j142) (b := 0) (by omega) (by omega)).mpr (show ¬ (nI j142 = nI 0) from c146)
          refine lv_aload_n hx hb dX5_beginTurnOfLinks_64 rfl (lv_at hl 0 rfl) ?_
          refine lv_dup hx hb dX5_beginTurnOfLinks_65 rfl ?_
          refine get1 B hP hk133 14 (by decide) mw_234 rfl dX5_beginTurnOfLinks_66 ?_
          refine lv_iconst (v := 1) hx hb dX5_beginTurnOfLinks_69 (by decide) ?_
          refine lv_iadd hx hb dX5_beginTurnOfLinks_70 ?_
          refine put1 B hP hS hk133 14 (by decide) mw_234 rfl rfl rfl (fs1_14 E k133 _ _) dX5_beginTurnOfLinks_71 (fun H locs hP hS => ?_)
          obtain ⟨ρ149, e150⟩ : ∃ z, z = up ρ144 k133 14 ((ρ144 k133 14) + 1) := ⟨_, rfl⟩
          rw [← e150] at hP
          have hI : CI r S ρ149 := by rw [e150]; exact CI_up hI (kind_lt hk133 (by decide)) (SP_plain hk133 rfl (by decide)) ⟨(fun z2 => absurd (Eq.trans (Eq.symm hk133) z2) (by decide)), (fun z2 => absurd (Eq.trans (Eq.symm hk133) z2) (by decide))⟩ hSS
          exact b74_0 ls ρ149 _ _  (lv_sub hl [1, 2, 3] rfl) hP hS hI (by omega) (by omega) (by omega) (by omega)
  refine lv_iconst (v := 0) hx hb dX5_beginTurnOfLinks_0 (by decide) ?_
  refine lv_istore_n (lv' := [(2, .int 0), (0, .ref (E.2.1 + k)), (1, .int (nI na1))]) hx hb dX5_beginTurnOfLinks_1 rfl hl (by decide) rfl (fun ls hl => ?_)
  exact b2_0 ls ρ _ _ _ 0 (lv_sub hl [1, 2, 0] rfl) hP hS hI (Nat.lt_succ_self _) (by omega) (by omega) (by omega) (by omega)

theorem lk_RX5_200 : LkV RX5 200 RX0 yX0_endTurn cX0_endTurn 1 none 0 := ⟨⟨mw_829, mw_830, mw_831, mw_58, mw_832⟩, by decide +kernel⟩
set_option maxHeartbeats 4000000 in
set_option maxRecDepth 100000 in
theorem d_X5_endTurnOfLinks (l : Launch) (E : hE) (ρ r : Nat → Nat → Int32) (S : Nat × Nat → Prop) (hSS : SK S) (k : Nat) (h : hk k = 5) (k1 : Nat) (h1 : hk k1 = 2) (hI : CI r S ρ) : Met l yX5_endTurnOfLinks (.code yX5_endTurnOfLinks cX5_endTurnOfLinks 3 none :: gw_all) (rmk 2 80) (cPre E ρ [.ref (E.2.1 + k), .ref (E.2.1 + k1)]) (cV E (fun ρ1 => CI r S ρ1)) 0 0 (hA E) := by
  refine ent (own := RX5) (by decide) rfl (Nat.le_of_ble_eq_true rfl) ?_
  intro p e s m below meth c ls B hr hlk hl hP hS
  have hx := B.1.1
  have hb := B.1.2.1
  have hown := B.1.2.2.2.1
  have hts := B.1.2.2.2.2
  have hl : lv_has ls 3 [(0, .ref (E.2.1 + k)), (1, .ref (E.2.1 + k1))] := hl
  have b2_0 : ∀ (ls : Array Slot) (ρ : Nat → Nat → Int32) (H : Heap) (locs : List Loc) (d2 : Nat) (j2_2 : Nat), lv_has ls 3 [(1, .ref (E.2.1 + k1)), (2, .int (nI j2_2))] → WP E ρ H → va_S (hA E) s.heap H locs → CI r S ρ → 5 - j2_2 < d2 → 0 ≤ j2_2 → j2_2 ≤ 4 → W p l e (rmk 2 80) s m ([.ref (E.2.1 + k), .ref (E.2.1 + k1)] : List Value).toArray below meth c H locs 0 0 (MQ below (cV E (fun ρ1 => CI r S ρ1)) ([.ref (E.2.1 + k), .ref (E.2.1 + k1)] : List Value).toArray s 0 0 (hA E)) (F0 m 2 ls []) := by
    intro ls ρ H locs d2
    induction d2 generalizing ls ρ H locs with
    | zero => intro j2_2 hl hP hS hI hd2 lj2_2 uj2_2; exact absurd hd2 (Nat.not_lt_zero _)
    | succ d2 ih2 =>
      intro j2_2 hl hP hS hI hd2 lj2_2 uj2_2
      refine lv_iload_n hx hb dX5_endTurnOfLinks_2 rfl (lv_at hl 1 rfl) ?_
      refine lv_aload_n hx hb dX5_endTurnOfLinks_3 rfl (lv_at hl 0 rfl) ?_
      refine get2 B hP h1 8 (by decide) mw_305 rfl dX5_endTurnOfLinks_4 ?_
      have i61 : iR (ρ k1 8) 0 4 := CI_get hI (kind_lt h1 (by decide)) h1 rfl
      obtain ⟨j62, lj62, uj62, ej62⟩ := iR_nat (a := 0) (b := 4) i61
      refine lv_topi (fun z63 ez63 => ?_)
      obtain rfl : z63 = nI j62 := ez63.trans ej62
      refine lv_icmp_ge (tgt := 33) hx hb dX5_endTurnOfLinks_7 (by decide) (fun c64 => ?_) (fun c64 => ?_)
      · skip
        have n65 := mt (nx_lt (a := j2_2) (b := j62) (by omega) (by omega)).mpr (show ¬ (nI j2_2 < nI j62) from (Int32.not_lt.mpr c64))
        exact ret_v B hr hlk hP hS dX5_endTurnOfLinks_33 (hI)
      · skip
        have n66 := (nx_lt (a := j2_2) (b := j62) (by omega) (by omega)).mp (show (nI j2_2 < nI j62) from (Int32.not_le.mp c64))
        refine lv_iload_n hx hb dX5_endTurnOfLinks_10 rfl (lv_at hl 1 rfl) ?_
        refine lv_iconst (v := 4) hx hb dX5_endTurnOfLinks_11 (by decide) ?_
        refine lv_icmp_ge (tgt := 33) hx hb dX5_endTurnOfLinks_12 (by decide) (fun c67 => absurd c67 (iR_nle (show iR 4 (4) (4) from ⟨by decide, by decide⟩) (nI_iR (j := j2_2) (a := 0) (b := 3) (by omega) (by omega) (by omega)) (by decide))) (fun _ => ?_)
        refine lv_aload_n hx hb dX5_endTurnOfLinks_15 rfl (lv_at hl 0 rfl) ?_
        refine get2 B hP h1 4 (by decide) mw_292 rfl dX5_endTurnOfLinks_16 ?_
        refine lv_iload_n hx hb dX5_endTurnOfLinks_19 rfl (lv_at hl 1 rfl) ?_
        obtain ⟨k68, ek68, hk68⟩ := CI_link hI (lay2 h1).2.2.2.2.2.2.2.1 (show j2_2 < 4 from (by omega))
        refine aldLn B hP (lay2 h1).2.2.2.2.2.2.2.1 (lay2 h1).2.2.2.2.2.2.2.2.1 rfl (by omega) ek68 hk68 dX5_endTurnOfLinks_20 ?_
        refine get1 B hP hk68 3 (by decide) mw_206 rfl dX5_endTurnOfLinks_21 ?_
        refine call_v (cVt (k := (k68 + 8)) (av := []) (rest := []) B hP hS (d_X0_endTurn l E ρ r S hSS (k68 + 8) (lay1 hk68).2.2.2 hI) lk_RX5_200 (hrecv (ci := 0) B hP (hk_lt (c := 0) (lay1 hk68).2.2.2 (by decide)) (hcc0 _ _ (lay1 hk68).2.2.2) rfl) rfl rfl hl.1 (Nat.le_of_ble_eq_true rfl) ⟨Nat.le_of_ble_eq_true rfl, Nat.le_of_ble_eq_true rfl⟩ ⟨Nat.le_of_ble_eq_true rfl, Nat.le_of_ble_eq_true rfl⟩ dX5_endTurnOfLinks_24) hS (fun ρ70 H locs q71 hP hS => ?_)
        have hI := q71
        refine lv_iinc (v := (nI (1 + j2_2))) (lv' := [(2, .int (nI (1 + j2_2))), (1, .ref (E.2.1 + k1))]) hx hb dX5_endTurnOfLinks_27 hl (k := 1) rfl (show nI j2_2 + nI 1 = _ from (nI_add _ _).trans (congrArg nI (by omega))) (by decide) rfl (fun ls hl => ?_)
        refine lv_goto (tgt := 2) hx hb dX5_endTurnOfLinks_30 (by decide) ?_
        exact ih2 ls ρ70 _ _ (1 + j2_2) (lv_sub hl [1, 0] rfl) hP hS hI (by omega) (by omega) (by omega)
  refine lv_iconst (v := 0) hx hb dX5_endTurnOfLinks_0 (by decide) ?_
  refine lv_istore_n (lv' := [(2, .int 0), (0, .ref (E.2.1 + k)), (1, .ref (E.2.1 + k1))]) hx hb dX5_endTurnOfLinks_1 rfl hl (by decide) rfl (fun ls hl => ?_)
  exact b2_0 ls ρ _ _ _ 0 (lv_sub hl [2, 0] rfl) hP hS hI (Nat.lt_succ_self _) (by omega) (by omega)
