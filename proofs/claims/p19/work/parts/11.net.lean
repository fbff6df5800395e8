abbrev LkJ (own : String) (idx : Nat) (y : MethodName) (cc : ByteArray) (maxL : Nat) (ret : Option FieldType) (n : Nat) : Prop := (Cond.methodLink own idx y ∈ gw_all ∧ Cond.static y ∈ gw_all ∧ Cond.initialized y.cls ∈ gw_all ∧ Cond.code y cc maxL ret ∈ gw_all) ∧ (y.cls ≠ "java/lang/invoke/MethodHandle" ∧ y.cls ≠ "java/lang/invoke/VarHandle" ∧ (parseMethodDescriptor y.desc).map (fun d => d.parameters.length) = some n)
theorem cJ {p : Program} {l : Launch} {e : Env} {R : Room} {s : State} {m : MethodId} {args : Array Value} {below : List Frame} {meth : Method} {c : Code} {H : Heap} {locs : List Loc} {cells slots : Nat} {cc : ByteArray} {nL pc : Nat} {ls : Array Slot} {rest : List Value} {E : hE} {ρ : Nat → Nat → Int32} {own : String} {y : MethodName} {cc' : ByteArray} {maxL' : Nat} {ret' : Option FieldType} {fr' lo' n idx : Nat} {av st : List Value} {Qc : Array Value → State → Outcome → State → Prop} (B : MB p s m args c cc nL own E) (hP : WP E ρ H) (hS : va_S (hA E) s.heap H locs) (hM : Met l y (.code y cc' maxL' ret' :: gw_all) (rmk fr' lo') (cPre E ρ av) Qc 0 0 (hA E)) (K : LkJ own idx y cc' maxL' ret' n)
    (hn : av.length = n) (hst : st = av.reverse ++ rest) (hsz : ls.size = nL) (hro : (rest.map fun v => v.category).sum ≤ 8) (hR : fr' + 1 ≤ R.frames ∧ 8 + (maxL' + 11) + lo' ≤ R.locals) (hf : cells ≤ R.cells ∧ slots ≤ R.slots) (hd : decode cc pc = .ok (.invokestatic idx, 3)) :
    va_Run p l e R s m args below meth c H locs cells slots 0 0 (F0 m pc ls st) rest (Qc av.toArray) (hA E) := by
  obtain ⟨⟨k1, k2, k3, k4⟩, k5⟩ := K
  have hG : GoodIn gw_all (va_wsS own idx y (Cond.code y cc' maxL' ret' :: gw_all)) := gi (hd := [.methodLink own idx y, .static y, .initialized y.cls]) (fun w hw => by
    rcases List.mem_cons.mp hw with rfl | hw
    · exact k1
    · rcases List.mem_cons.mp hw with rfl | hw
      · exact k2
      · rcases List.mem_cons.mp hw with rfl | hw
        · exact k3
        · cases hw) k4
  exact va_runS (As := av) (rest := rest) B.1 hM (va_cwS n B.1.2.2.2.2 hG rfl rfl rfl k5 hR) ⟨cPre_blind, fun U hU hW => pre_ok B hP hS U hU hW⟩ rfl hn hsz hst (lv_room hro) hd hf
theorem dX2_linkAt_0 : decode cX2_linkAt 0 = .ok (.iload_n 1, 1) := by decide +kernel
theorem dX2_linkAt_1 : decode cX2_linkAt 1 = .ok (.ifCond .lt 16, 3) := by decide +kernel
theorem dX2_linkAt_4 : decode cX2_linkAt 4 = .ok (.iload_n 1, 1) := by decide +kernel
theorem dX2_linkAt_5 : decode cX2_linkAt 5 = .ok (.aload_n 0, 1) := by decide +kernel
theorem dX2_linkAt_6 : decode cX2_linkAt 6 = .ok (.getfield 45, 3) := by decide +kernel
theorem dX2_linkAt_9 : decode cX2_linkAt 9 = .ok (.if_icmp .ge 8, 3) := by decide +kernel
theorem dX2_linkAt_12 : decode cX2_linkAt 12 = .ok (.iload_n 1, 1) := by decide +kernel
theorem dX2_linkAt_13 : decode cX2_linkAt 13 = .ok (.iconst 4, 1) := by decide +kernel
theorem dX2_linkAt_14 : decode cX2_linkAt 14 = .ok (.if_icmp .lt 7, 3) := by decide +kernel
theorem dX2_linkAt_17 : decode cX2_linkAt 17 = .ok (.aconst_null, 1) := by decide +kernel
theorem dX2_linkAt_18 : decode cX2_linkAt 18 = .ok (.goto 9, 3) := by decide +kernel
theorem dX2_linkAt_21 : decode cX2_linkAt 21 = .ok (.aload_n 0, 1) := by decide +kernel
theorem dX2_linkAt_22 : decode cX2_linkAt 22 = .ok (.getfield 30, 3) := by decide +kernel
theorem dX2_linkAt_25 : decode cX2_linkAt 25 = .ok (.iload_n 1, 1) := by decide +kernel
theorem dX2_linkAt_26 : decode cX2_linkAt 26 = .ok (.aaload, 1) := by decide +kernel
theorem dX2_linkAt_27 : decode cX2_linkAt 27 = .ok (.areturn, 1) := by decide +kernel
theorem dX2_linkOfRadio_0 : decode cX2_linkOfRadio 0 = .ok (.iconst 0, 1) := by decide +kernel
theorem dX2_linkOfRadio_1 : decode cX2_linkOfRadio 1 = .ok (.istore_n 2, 1) := by decide +kernel
theorem dX2_linkOfRadio_2 : decode cX2_linkOfRadio 2 = .ok (.iload_n 2, 1) := by decide +kernel
theorem dX2_linkOfRadio_3 : decode cX2_linkOfRadio 3 = .ok (.aload_n 0, 1) := by decide +kernel
theorem dX2_linkOfRadio_4 : decode cX2_linkOfRadio 4 = .ok (.getfield 45, 3) := by decide +kernel
theorem dX2_linkOfRadio_7 : decode cX2_linkOfRadio 7 = .ok (.if_icmp .ge 34, 3) := by decide +kernel
theorem dX2_linkOfRadio_10 : decode cX2_linkOfRadio 10 = .ok (.iload_n 2, 1) := by decide +kernel
theorem dX2_linkOfRadio_11 : decode cX2_linkOfRadio 11 = .ok (.iconst 4, 1) := by decide +kernel
theorem dX2_linkOfRadio_12 : decode cX2_linkOfRadio 12 = .ok (.if_icmp .ge 29, 3) := by decide +kernel
theorem dX2_linkOfRadio_15 : decode cX2_linkOfRadio 15 = .ok (.aload_n 0, 1) := by decide +kernel
theorem dX2_linkOfRadio_16 : decode cX2_linkOfRadio 16 = .ok (.getfield 30, 3) := by decide +kernel
theorem dX2_linkOfRadio_19 : decode cX2_linkOfRadio 19 = .ok (.iload_n 2, 1) := by decide +kernel
theorem dX2_linkOfRadio_20 : decode cX2_linkOfRadio 20 = .ok (.aaload, 1) := by decide +kernel
theorem dX2_linkOfRadio_21 : decode cX2_linkOfRadio 21 = .ok (.getfield 96, 3) := by decide +kernel
theorem dX2_linkOfRadio_24 : decode cX2_linkOfRadio 24 = .ok (.iload_n 1, 1) := by decide +kernel
theorem dX2_linkOfRadio_25 : decode cX2_linkOfRadio 25 = .ok (.if_icmp .ne 10, 3) := by decide +kernel
theorem dX2_linkOfRadio_28 : decode cX2_linkOfRadio 28 = .ok (.aload_n 0, 1) := by decide +kernel
theorem dX2_linkOfRadio_29 : decode cX2_linkOfRadio 29 = .ok (.getfield 30, 3) := by decide +kernel
theorem dX2_linkOfRadio_32 : decode cX2_linkOfRadio 32 = .ok (.iload_n 2, 1) := by decide +kernel
theorem dX2_linkOfRadio_33 : decode cX2_linkOfRadio 33 = .ok (.aaload, 1) := by decide +kernel
theorem dX2_linkOfRadio_34 : decode cX2_linkOfRadio 34 = .ok (.areturn, 1) := by decide +kernel
theorem dX2_linkOfRadio_35 : decode cX2_linkOfRadio 35 = .ok (.iinc 2 1, 3) := by decide +kernel
theorem dX2_linkOfRadio_38 : decode cX2_linkOfRadio 38 = .ok (.goto (-36), 3) := by decide +kernel
theorem dX2_linkOfRadio_41 : decode cX2_linkOfRadio 41 = .ok (.aconst_null, 1) := by decide +kernel
theorem dX2_linkOfRadio_42 : decode cX2_linkOfRadio 42 = .ok (.areturn, 1) := by decide +kernel
theorem dX2_holds_0 : decode cX2_holds 0 = .ok (.iconst 0, 1) := by decide +kernel
theorem dX2_holds_1 : decode cX2_holds 1 = .ok (.istore_n 2, 1) := by decide +kernel
theorem dX2_holds_2 : decode cX2_holds 2 = .ok (.iload_n 2, 1) := by decide +kernel
theorem dX2_holds_3 : decode cX2_holds 3 = .ok (.aload_n 0, 1) := by decide +kernel
theorem dX2_holds_4 : decode cX2_holds 4 = .ok (.getfield 45, 3) := by decide +kernel
theorem dX2_holds_7 : decode cX2_holds 7 = .ok (.if_icmp .ge 29, 3) := by decide +kernel
theorem dX2_holds_10 : decode cX2_holds 10 = .ok (.iload_n 2, 1) := by decide +kernel
theorem dX2_holds_11 : decode cX2_holds 11 = .ok (.iconst 4, 1) := by decide +kernel
theorem dX2_holds_12 : decode cX2_holds 12 = .ok (.if_icmp .ge 24, 3) := by decide +kernel
theorem dX2_holds_15 : decode cX2_holds 15 = .ok (.aload_n 0, 1) := by decide +kernel
theorem dX2_holds_16 : decode cX2_holds 16 = .ok (.getfield 30, 3) := by decide +kernel
theorem dX2_holds_19 : decode cX2_holds 19 = .ok (.iload_n 2, 1) := by decide +kernel
theorem dX2_holds_20 : decode cX2_holds 20 = .ok (.aaload, 1) := by decide +kernel
theorem dX2_holds_21 : decode cX2_holds 21 = .ok (.getfield 96, 3) := by decide +kernel
theorem dX2_holds_24 : decode cX2_holds 24 = .ok (.iload_n 1, 1) := by decide +kernel
theorem dX2_holds_25 : decode cX2_holds 25 = .ok (.if_icmp .ne 5, 3) := by decide +kernel
theorem dX2_holds_28 : decode cX2_holds 28 = .ok (.iconst 1, 1) := by decide +kernel
theorem dX2_holds_29 : decode cX2_holds 29 = .ok (.ireturn, 1) := by decide +kernel
theorem dX2_holds_30 : decode cX2_holds 30 = .ok (.iinc 2 1, 3) := by decide +kernel
theorem dX2_holds_33 : decode cX2_holds 33 = .ok (.goto (-31), 3) := by decide +kernel
theorem dX2_holds_36 : decode cX2_holds 36 = .ok (.aload_n 0, 1) := by decide +kernel
theorem dX2_holds_37 : decode cX2_holds 37 = .ok (.getfield 34, 3) := by decide +kernel
theorem dX2_holds_40 : decode cX2_holds 40 = .ok (.iconst (-1), 1) := by decide +kernel
theorem dX2_holds_41 : decode cX2_holds 41 = .ok (.if_icmp .eq 15, 3) := by decide +kernel
theorem dX2_holds_44 : decode cX2_holds 44 = .ok (.aload_n 0, 1) := by decide +kernel
theorem dX2_holds_45 : decode cX2_holds 45 = .ok (.getfield 34, 3) := by decide +kernel
theorem dX2_holds_48 : decode cX2_holds 48 = .ok (.iload_n 1, 1) := by decide +kernel
theorem dX2_holds_49 : decode cX2_holds 49 = .ok (.if_icmp .ne 7, 3) := by decide +kernel
theorem dX2_holds_52 : decode cX2_holds 52 = .ok (.iconst 1, 1) := by decide +kernel
theorem dX2_holds_53 : decode cX2_holds 53 = .ok (.goto 4, 3) := by decide +kernel
theorem dX2_holds_56 : decode cX2_holds 56 = .ok (.iconst 0, 1) := by decide +kernel
theorem dX2_holds_57 : decode cX2_holds 57 = .ok (.ireturn, 1) := by decide +kernel
theorem dX2_addMember_0 : decode cX2_addMember 0 = .ok (.aload_n 0, 1) := by decide +kernel
theorem dX2_addMember_1 : decode cX2_addMember 1 = .ok (.getfield 45, 3) := by decide +kernel
theorem dX2_addMember_4 : decode cX2_addMember 4 = .ok (.iconst 4, 1) := by decide +kernel
theorem dX2_addMember_5 : decode cX2_addMember 5 = .ok (.if_icmp .ge 31, 3) := by decide +kernel
theorem dX2_addMember_8 : decode cX2_addMember 8 = .ok (.aload_n 0, 1) := by decide +kernel
theorem dX2_addMember_9 : decode cX2_addMember 9 = .ok (.getfield 30, 3) := by decide +kernel
theorem dX2_addMember_12 : decode cX2_addMember 12 = .ok (.aload_n 0, 1) := by decide +kernel
theorem dX2_addMember_13 : decode cX2_addMember 13 = .ok (.getfield 45, 3) := by decide +kernel
theorem dX2_addMember_16 : decode cX2_addMember 16 = .ok (.aaload, 1) := by decide +kernel
theorem dX2_addMember_17 : decode cX2_addMember 17 = .ok (.iload_n 1, 1) := by decide +kernel
theorem dX2_addMember_18 : decode cX2_addMember 18 = .ok (.aload_n 0, 1) := by decide +kernel
theorem dX2_addMember_19 : decode cX2_addMember 19 = .ok (.getfield 12, 3) := by decide +kernel
theorem dX2_addMember_22 : decode cX2_addMember 22 = .ok (.iload_n 2, 1) := by decide +kernel
theorem dX2_addMember_23 : decode cX2_addMember 23 = .ok (.invokevirtual 99, 3) := by decide +kernel
theorem dX2_addMember_26 : decode cX2_addMember 26 = .ok (.aload_n 0, 1) := by decide +kernel
theorem dX2_addMember_27 : decode cX2_addMember 27 = .ok (.dup, 1) := by decide +kernel
theorem dX2_addMember_28 : decode cX2_addMember 28 = .ok (.getfield 45, 3) := by decide +kernel
theorem dX2_addMember_31 : decode cX2_addMember 31 = .ok (.iconst 1, 1) := by decide +kernel
theorem dX2_addMember_32 : decode cX2_addMember 32 = .ok (.iadd, 1) := by decide +kernel
theorem dX2_addMember_33 : decode cX2_addMember 33 = .ok (.putfield 45, 3) := by decide +kernel
theorem dX2_addMember_36 : decode cX2_addMember 36 = .ok (.return_, 1) := by decide +kernel
theorem dX2_removeMember_0 : decode cX2_removeMember 0 = .ok (.aload_n 0, 1) := by decide +kernel
theorem dX2_removeMember_1 : decode cX2_removeMember 1 = .ok (.iload_n 1, 1) := by decide +kernel
theorem dX2_removeMember_2 : decode cX2_removeMember 2 = .ok (.invokevirtual 103, 3) := by decide +kernel
theorem dX2_removeMember_5 : decode cX2_removeMember 5 = .ok (.astore_n 2, 1) := by decide +kernel
theorem dX2_removeMember_6 : decode cX2_removeMember 6 = .ok (.aload_n 2, 1) := by decide +kernel
theorem dX2_removeMember_7 : decode cX2_removeMember 7 = .ok (.ifnonnull 4, 3) := by decide +kernel
theorem dX2_removeMember_10 : decode cX2_removeMember 10 = .ok (.return_, 1) := by decide +kernel
theorem dX2_removeMember_11 : decode cX2_removeMember 11 = .ok (.iload_n 1, 1) := by decide +kernel
theorem dX2_removeMember_12 : decode cX2_removeMember 12 = .ok (.iconst 1, 1) := by decide +kernel
theorem dX2_removeMember_13 : decode cX2_removeMember 13 = .ok (.iadd, 1) := by decide +kernel
theorem dX2_removeMember_14 : decode cX2_removeMember 14 = .ok (.istore_n 3, 1) := by decide +kernel
theorem dX2_removeMember_15 : decode cX2_removeMember 15 = .ok (.iload_n 3, 1) := by decide +kernel
theorem dX2_removeMember_16 : decode cX2_removeMember 16 = .ok (.aload_n 0, 1) := by decide +kernel
theorem dX2_removeMember_17 : decode cX2_removeMember 17 = .ok (.getfield 45, 3) := by decide +kernel
theorem dX2_removeMember_20 : decode cX2_removeMember 20 = .ok (.if_icmp .ge 28, 3) := by decide +kernel
theorem dX2_removeMember_23 : decode cX2_removeMember 23 = .ok (.iload_n 3, 1) := by decide +kernel
theorem dX2_removeMember_24 : decode cX2_removeMember 24 = .ok (.iconst 4, 1) := by decide +kernel
theorem dX2_removeMember_25 : decode cX2_removeMember 25 = .ok (.if_icmp .ge 23, 3) := by decide +kernel
theorem dX2_removeMember_28 : decode cX2_removeMember 28 = .ok (.aload_n 0, 1) := by decide +kernel
theorem dX2_removeMember_29 : decode cX2_removeMember 29 = .ok (.getfield 30, 3) := by decide +kernel
theorem dX2_removeMember_32 : decode cX2_removeMember 32 = .ok (.iload_n 3, 1) := by decide +kernel
theorem dX2_removeMember_33 : decode cX2_removeMember 33 = .ok (.iconst 1, 1) := by decide +kernel
theorem dX2_removeMember_34 : decode cX2_removeMember 34 = .ok (.isub, 1) := by decide +kernel
theorem dX2_removeMember_35 : decode cX2_removeMember 35 = .ok (.aload_n 0, 1) := by decide +kernel
theorem dX2_removeMember_36 : decode cX2_removeMember 36 = .ok (.getfield 30, 3) := by decide +kernel
theorem dX2_removeMember_39 : decode cX2_removeMember 39 = .ok (.iload_n 3, 1) := by decide +kernel
theorem dX2_removeMember_40 : decode cX2_removeMember 40 = .ok (.aaload, 1) := by decide +kernel
theorem dX2_removeMember_41 : decode cX2_removeMember 41 = .ok (.aastore, 1) := by decide +kernel
theorem dX2_removeMember_42 : decode cX2_removeMember 42 = .ok (.iinc 3 1, 3) := by decide +kernel
theorem dX2_removeMember_45 : decode cX2_removeMember 45 = .ok (.goto (-30), 3) := by decide +kernel
theorem dX2_removeMember_48 : decode cX2_removeMember 48 = .ok (.aload_n 0, 1) := by decide +kernel
theorem dX2_removeMember_49 : decode cX2_removeMember 49 = .ok (.dup, 1) := by decide +kernel
theorem dX2_removeMember_50 : decode cX2_removeMember 50 = .ok (.getfield 45, 3) := by decide +kernel
theorem dX2_removeMember_53 : decode cX2_removeMember 53 = .ok (.iconst 1, 1) := by decide +kernel
theorem dX2_removeMember_54 : decode cX2_removeMember 54 = .ok (.isub, 1) := by decide +kernel
theorem dX2_removeMember_55 : decode cX2_removeMember 55 = .ok (.putfield 45, 3) := by decide +kernel
theorem dX2_removeMember_58 : decode cX2_removeMember 58 = .ok (.aload_n 0, 1) := by decide +kernel
theorem dX2_removeMember_59 : decode cX2_removeMember 59 = .ok (.getfield 30, 3) := by decide +kernel
theorem dX2_removeMember_62 : decode cX2_removeMember 62 = .ok (.aload_n 0, 1) := by decide +kernel
theorem dX2_removeMember_63 : decode cX2_removeMember 63 = .ok (.getfield 45, 3) := by decide +kernel
theorem dX2_removeMember_66 : decode cX2_removeMember 66 = .ok (.aload_n 2, 1) := by decide +kernel
theorem dX2_removeMember_67 : decode cX2_removeMember 67 = .ok (.aastore, 1) := by decide +kernel
theorem dX2_removeMember_68 : decode cX2_removeMember 68 = .ok (.aload_n 0, 1) := by decide +kernel
theorem dX2_removeMember_69 : decode cX2_removeMember 69 = .ok (.getfield 48, 3) := by decide +kernel
theorem dX2_removeMember_72 : decode cX2_removeMember 72 = .ok (.iload_n 1, 1) := by decide +kernel
theorem dX2_removeMember_73 : decode cX2_removeMember 73 = .ok (.if_icmp .ne 8, 3) := by decide +kernel
theorem dX2_removeMember_76 : decode cX2_removeMember 76 = .ok (.aload_n 0, 1) := by decide +kernel
theorem dX2_removeMember_77 : decode cX2_removeMember 77 = .ok (.iconst (-1), 1) := by decide +kernel
theorem dX2_removeMember_78 : decode cX2_removeMember 78 = .ok (.putfield 51, 3) := by decide +kernel
theorem dX2_removeMember_81 : decode cX2_removeMember 81 = .ok (.aload_n 0, 1) := by decide +kernel
theorem dX2_removeMember_82 : decode cX2_removeMember 82 = .ok (.getfield 48, 3) := by decide +kernel
theorem dX2_removeMember_85 : decode cX2_removeMember 85 = .ok (.iload_n 1, 1) := by decide +kernel
theorem dX2_removeMember_86 : decode cX2_removeMember 86 = .ok (.if_icmp .lt 13, 3) := by decide +kernel
theorem dX2_removeMember_89 : decode cX2_removeMember 89 = .ok (.aload_n 0, 1) := by decide +kernel
theorem dX2_removeMember_90 : decode cX2_removeMember 90 = .ok (.dup, 1) := by decide +kernel
theorem dX2_removeMember_91 : decode cX2_removeMember 91 = .ok (.getfield 48, 3) := by decide +kernel
theorem dX2_removeMember_94 : decode cX2_removeMember 94 = .ok (.iconst 1, 1) := by decide +kernel
theorem dX2_removeMember_95 : decode cX2_removeMember 95 = .ok (.isub, 1) := by decide +kernel
theorem dX2_removeMember_96 : decode cX2_removeMember 96 = .ok (.putfield 48, 3) := by decide +kernel
theorem dX2_removeMember_99 : decode cX2_removeMember 99 = .ok (.return_, 1) := by decide +kernel
theorem dX2_tellMap_0 : decode cX2_tellMap 0 = .ok (.aload_n 0, 1) := by decide +kernel
theorem dX2_tellMap_1 : decode cX2_tellMap 1 = .ok (.getfield 12, 3) := by decide +kernel
theorem dX2_tellMap_4 : decode cX2_tellMap 4 = .ok (.iload_n 1, 1) := by decide +kernel
theorem dX2_tellMap_5 : decode cX2_tellMap 5 = .ok (.iload_n 2, 1) := by decide +kernel
theorem dX2_tellMap_6 : decode cX2_tellMap 6 = .ok (.invokevirtual 107, 3) := by decide +kernel
theorem dX2_tellMap_9 : decode cX2_tellMap 9 = .ok (.iconst 0, 1) := by decide +kernel
theorem dX2_tellMap_10 : decode cX2_tellMap 10 = .ok (.istore_n 3, 1) := by decide +kernel
theorem dX2_tellMap_11 : decode cX2_tellMap 11 = .ok (.iload_n 3, 1) := by decide +kernel
theorem dX2_tellMap_12 : decode cX2_tellMap 12 = .ok (.aload_n 0, 1) := by decide +kernel
theorem dX2_tellMap_13 : decode cX2_tellMap 13 = .ok (.getfield 45, 3) := by decide +kernel
theorem dX2_tellMap_16 : decode cX2_tellMap 16 = .ok (.if_icmp .ge 24, 3) := by decide +kernel
theorem dX2_tellMap_19 : decode cX2_tellMap 19 = .ok (.iload_n 3, 1) := by decide +kernel
theorem dX2_tellMap_20 : decode cX2_tellMap 20 = .ok (.iconst 4, 1) := by decide +kernel
theorem dX2_tellMap_21 : decode cX2_tellMap 21 = .ok (.if_icmp .ge 19, 3) := by decide +kernel
theorem dX2_tellMap_24 : decode cX2_tellMap 24 = .ok (.aload_n 0, 1) := by decide +kernel
theorem dX2_tellMap_25 : decode cX2_tellMap 25 = .ok (.getfield 30, 3) := by decide +kernel
theorem dX2_tellMap_28 : decode cX2_tellMap 28 = .ok (.iload_n 3, 1) := by decide +kernel
theorem dX2_tellMap_29 : decode cX2_tellMap 29 = .ok (.aaload, 1) := by decide +kernel
theorem dX2_tellMap_30 : decode cX2_tellMap 30 = .ok (.iconst 0, 1) := by decide +kernel
theorem dX2_tellMap_31 : decode cX2_tellMap 31 = .ok (.putfield 111, 3) := by decide +kernel
theorem dX2_tellMap_34 : decode cX2_tellMap 34 = .ok (.iinc 3 1, 3) := by decide +kernel
theorem dX2_tellMap_37 : decode cX2_tellMap 37 = .ok (.goto (-26), 3) := by decide +kernel
theorem dX2_tellMap_40 : decode cX2_tellMap 40 = .ok (.return_, 1) := by decide +kernel
theorem dX2_badChannels_0 : decode cX2_badChannels 0 = .ok (.iconst 0, 1) := by decide +kernel
theorem dX2_badChannels_1 : decode cX2_badChannels 1 = .ok (.istore_n 2, 1) := by decide +kernel
theorem dX2_badChannels_2 : decode cX2_badChannels 2 = .ok (.iconst 0, 1) := by decide +kernel
theorem dX2_badChannels_3 : decode cX2_badChannels 3 = .ok (.istore_n 3, 1) := by decide +kernel
theorem dX2_badChannels_4 : decode cX2_badChannels 4 = .ok (.iload_n 3, 1) := by decide +kernel
theorem dX2_badChannels_5 : decode cX2_badChannels 5 = .ok (.bipush 23, 2) := by decide +kernel
theorem dX2_badChannels_7 : decode cX2_badChannels 7 = .ok (.if_icmp .ge 69, 3) := by decide +kernel
theorem dX2_badChannels_10 : decode cX2_badChannels 10 = .ok (.aload_n 0, 1) := by decide +kernel
theorem dX2_badChannels_11 : decode cX2_badChannels 11 = .ok (.getfield 12, 3) := by decide +kernel
theorem dX2_badChannels_14 : decode cX2_badChannels 14 = .ok (.getfield 114, 3) := by decide +kernel
theorem dX2_badChannels_17 : decode cX2_badChannels 17 = .ok (.iload_n 3, 1) := by decide +kernel
theorem dX2_badChannels_18 : decode cX2_badChannels 18 = .ok (.ishr, 1) := by decide +kernel
theorem dX2_badChannels_19 : decode cX2_badChannels 19 = .ok (.iconst 1, 1) := by decide +kernel
theorem dX2_badChannels_20 : decode cX2_badChannels 20 = .ok (.iand, 1) := by decide +kernel
theorem dX2_badChannels_21 : decode cX2_badChannels 21 = .ok (.iconst 1, 1) := by decide +kernel
theorem dX2_badChannels_22 : decode cX2_badChannels 22 = .ok (.if_icmp .ne 7, 3) := by decide +kernel
theorem dX2_badChannels_25 : decode cX2_badChannels 25 = .ok (.iconst 1, 1) := by decide +kernel
theorem dX2_badChannels_26 : decode cX2_badChannels 26 = .ok (.goto 4, 3) := by decide +kernel
theorem dX2_badChannels_29 : decode cX2_badChannels 29 = .ok (.iconst 0, 1) := by decide +kernel
theorem dX2_badChannels_30 : decode cX2_badChannels 30 = .ok (.istore 4, 2) := by decide +kernel
theorem dX2_badChannels_32 : decode cX2_badChannels 32 = .ok (.iload 4, 2) := by decide +kernel
theorem dX2_badChannels_34 : decode cX2_badChannels 34 = .ok (.ifCond .eq 36, 3) := by decide +kernel
theorem dX2_badChannels_37 : decode cX2_badChannels 37 = .ok (.aload_n 0, 1) := by decide +kernel
theorem dX2_badChannels_38 : decode cX2_badChannels 38 = .ok (.getfield 22, 3) := by decide +kernel
theorem dX2_badChannels_41 : decode cX2_badChannels 41 = .ok (.iload_n 3, 1) := by decide +kernel
theorem dX2_badChannels_42 : decode cX2_badChannels 42 = .ok (.iaload, 1) := by decide +kernel
theorem dX2_badChannels_43 : decode cX2_badChannels 43 = .ok (.iload_n 1, 1) := by decide +kernel
theorem dX2_badChannels_44 : decode cX2_badChannels 44 = .ok (.if_icmp .lt 26, 3) := by decide +kernel
theorem dX2_badChannels_47 : decode cX2_badChannels 47 = .ok (.iconst 2, 1) := by decide +kernel
theorem dX2_badChannels_48 : decode cX2_badChannels 48 = .ok (.aload_n 0, 1) := by decide +kernel
theorem dX2_badChannels_49 : decode cX2_badChannels 49 = .ok (.getfield 25, 3) := by decide +kernel
theorem dX2_badChannels_52 : decode cX2_badChannels 52 = .ok (.iload_n 3, 1) := by decide +kernel
theorem dX2_badChannels_53 : decode cX2_badChannels 53 = .ok (.iaload, 1) := by decide +kernel
theorem dX2_badChannels_54 : decode cX2_badChannels 54 = .ok (.imul, 1) := by decide +kernel
theorem dX2_badChannels_55 : decode cX2_badChannels 55 = .ok (.aload_n 0, 1) := by decide +kernel
theorem dX2_badChannels_56 : decode cX2_badChannels 56 = .ok (.getfield 22, 3) := by decide +kernel
theorem dX2_badChannels_59 : decode cX2_badChannels 59 = .ok (.iload_n 3, 1) := by decide +kernel
theorem dX2_badChannels_60 : decode cX2_badChannels 60 = .ok (.iaload, 1) := by decide +kernel
theorem dX2_badChannels_61 : decode cX2_badChannels 61 = .ok (.if_icmp .ge 9, 3) := by decide +kernel
theorem dX2_badChannels_64 : decode cX2_badChannels 64 = .ok (.iload_n 2, 1) := by decide +kernel
theorem dX2_badChannels_65 : decode cX2_badChannels 65 = .ok (.iconst 1, 1) := by decide +kernel
theorem dX2_badChannels_66 : decode cX2_badChannels 66 = .ok (.iload_n 3, 1) := by decide +kernel
theorem dX2_badChannels_67 : decode cX2_badChannels 67 = .ok (.ishl, 1) := by decide +kernel
theorem dX2_badChannels_68 : decode cX2_badChannels 68 = .ok (.ior, 1) := by decide +kernel
theorem dX2_badChannels_69 : decode cX2_badChannels 69 = .ok (.istore_n 2, 1) := by decide +kernel
theorem dX2_badChannels_70 : decode cX2_badChannels 70 = .ok (.iinc 3 1, 3) := by decide +kernel
theorem dX2_badChannels_73 : decode cX2_badChannels 73 = .ok (.goto (-69), 3) := by decide +kernel
theorem dX2_badChannels_76 : decode cX2_badChannels 76 = .ok (.iload_n 2, 1) := by decide +kernel
theorem dX2_badChannels_77 : decode cX2_badChannels 77 = .ok (.ireturn, 1) := by decide +kernel
theorem dX2_mostAnswered_0 : decode cX2_mostAnswered 0 = .ok (.iconst 0, 1) := by decide +kernel
theorem dX2_mostAnswered_1 : decode cX2_mostAnswered 1 = .ok (.istore_n 1, 1) := by decide +kernel
theorem dX2_mostAnswered_2 : decode cX2_mostAnswered 2 = .ok (.iconst 0, 1) := by decide +kernel
theorem dX2_mostAnswered_3 : decode cX2_mostAnswered 3 = .ok (.istore_n 2, 1) := by decide +kernel
theorem dX2_mostAnswered_4 : decode cX2_mostAnswered 4 = .ok (.iload_n 2, 1) := by decide +kernel
theorem dX2_mostAnswered_5 : decode cX2_mostAnswered 5 = .ok (.bipush 8, 2) := by decide +kernel
theorem dX2_mostAnswered_7 : decode cX2_mostAnswered 7 = .ok (.if_icmp .ge 94, 3) := by decide +kernel
theorem dX2_mostAnswered_10 : decode cX2_mostAnswered 10 = .ok (.iconst (-1), 1) := by decide +kernel
theorem dX2_mostAnswered_11 : decode cX2_mostAnswered 11 = .ok (.istore_n 3, 1) := by decide +kernel
theorem dX2_mostAnswered_12 : decode cX2_mostAnswered 12 = .ok (.iconst 0, 1) := by decide +kernel
theorem dX2_mostAnswered_13 : decode cX2_mostAnswered 13 = .ok (.istore 4, 2) := by decide +kernel
theorem dX2_mostAnswered_15 : decode cX2_mostAnswered 15 = .ok (.iload 4, 2) := by decide +kernel
theorem dX2_mostAnswered_17 : decode cX2_mostAnswered 17 = .ok (.bipush 23, 2) := by decide +kernel
theorem dX2_mostAnswered_19 : decode cX2_mostAnswered 19 = .ok (.if_icmp .ge 65, 3) := by decide +kernel
theorem dX2_mostAnswered_22 : decode cX2_mostAnswered 22 = .ok (.aload_n 0, 1) := by decide +kernel
theorem dX2_mostAnswered_23 : decode cX2_mostAnswered 23 = .ok (.getfield 12, 3) := by decide +kernel
theorem dX2_mostAnswered_26 : decode cX2_mostAnswered 26 = .ok (.getfield 114, 3) := by decide +kernel
theorem dX2_mostAnswered_29 : decode cX2_mostAnswered 29 = .ok (.iload_n 1, 1) := by decide +kernel
theorem dX2_mostAnswered_30 : decode cX2_mostAnswered 30 = .ok (.iconst (-1), 1) := by decide +kernel
theorem dX2_mostAnswered_31 : decode cX2_mostAnswered 31 = .ok (.ixor, 1) := by decide +kernel
theorem dX2_mostAnswered_32 : decode cX2_mostAnswered 32 = .ok (.iand, 1) := by decide +kernel
theorem dX2_mostAnswered_33 : decode cX2_mostAnswered 33 = .ok (.iload 4, 2) := by decide +kernel
theorem dX2_mostAnswered_35 : decode cX2_mostAnswered 35 = .ok (.ishr, 1) := by decide +kernel
theorem dX2_mostAnswered_36 : decode cX2_mostAnswered 36 = .ok (.iconst 1, 1) := by decide +kernel
theorem dX2_mostAnswered_37 : decode cX2_mostAnswered 37 = .ok (.iand, 1) := by decide +kernel
theorem dX2_mostAnswered_38 : decode cX2_mostAnswered 38 = .ok (.iconst 1, 1) := by decide +kernel
theorem dX2_mostAnswered_39 : decode cX2_mostAnswered 39 = .ok (.if_icmp .ne 7, 3) := by decide +kernel
theorem dX2_mostAnswered_42 : decode cX2_mostAnswered 42 = .ok (.iconst 1, 1) := by decide +kernel
theorem dX2_mostAnswered_43 : decode cX2_mostAnswered 43 = .ok (.goto 4, 3) := by decide +kernel
theorem dX2_mostAnswered_46 : decode cX2_mostAnswered 46 = .ok (.iconst 0, 1) := by decide +kernel
theorem dX2_mostAnswered_47 : decode cX2_mostAnswered 47 = .ok (.istore 5, 2) := by decide +kernel
theorem dX2_mostAnswered_49 : decode cX2_mostAnswered 49 = .ok (.iload 5, 2) := by decide +kernel
theorem dX2_mostAnswered_51 : decode cX2_mostAnswered 51 = .ok (.ifCond .eq 27, 3) := by decide +kernel
theorem dX2_mostAnswered_54 : decode cX2_mostAnswered 54 = .ok (.iload_n 3, 1) := by decide +kernel
theorem dX2_mostAnswered_55 : decode cX2_mostAnswered 55 = .ok (.iconst (-1), 1) := by decide +kernel
theorem dX2_mostAnswered_56 : decode cX2_mostAnswered 56 = .ok (.if_icmp .eq 19, 3) := by decide +kernel
theorem dX2_mostAnswered_59 : decode cX2_mostAnswered 59 = .ok (.aload_n 0, 1) := by decide +kernel
theorem dX2_mostAnswered_60 : decode cX2_mostAnswered 60 = .ok (.getfield 25, 3) := by decide +kernel
theorem dX2_mostAnswered_63 : decode cX2_mostAnswered 63 = .ok (.iload 4, 2) := by decide +kernel
theorem dX2_mostAnswered_65 : decode cX2_mostAnswered 65 = .ok (.iaload, 1) := by decide +kernel
theorem dX2_mostAnswered_66 : decode cX2_mostAnswered 66 = .ok (.aload_n 0, 1) := by decide +kernel
theorem dX2_mostAnswered_67 : decode cX2_mostAnswered 67 = .ok (.getfield 25, 3) := by decide +kernel
theorem dX2_mostAnswered_70 : decode cX2_mostAnswered 70 = .ok (.iload_n 3, 1) := by decide +kernel
theorem dX2_mostAnswered_71 : decode cX2_mostAnswered 71 = .ok (.iaload, 1) := by decide +kernel
theorem dX2_mostAnswered_72 : decode cX2_mostAnswered 72 = .ok (.if_icmp .le 6, 3) := by decide +kernel
theorem dX2_mostAnswered_75 : decode cX2_mostAnswered 75 = .ok (.iload 4, 2) := by decide +kernel
theorem dX2_mostAnswered_77 : decode cX2_mostAnswered 77 = .ok (.istore_n 3, 1) := by decide +kernel
theorem dX2_mostAnswered_78 : decode cX2_mostAnswered 78 = .ok (.iinc 4 1, 3) := by decide +kernel
theorem dX2_mostAnswered_81 : decode cX2_mostAnswered 81 = .ok (.goto (-66), 3) := by decide +kernel
theorem dX2_mostAnswered_84 : decode cX2_mostAnswered 84 = .ok (.iload_n 3, 1) := by decide +kernel
theorem dX2_mostAnswered_85 : decode cX2_mostAnswered 85 = .ok (.iconst (-1), 1) := by decide +kernel
theorem dX2_mostAnswered_86 : decode cX2_mostAnswered 86 = .ok (.if_icmp .eq 9, 3) := by decide +kernel
theorem dX2_mostAnswered_89 : decode cX2_mostAnswered 89 = .ok (.iload_n 1, 1) := by decide +kernel
theorem dX2_mostAnswered_90 : decode cX2_mostAnswered 90 = .ok (.iconst 1, 1) := by decide +kernel
theorem dX2_mostAnswered_91 : decode cX2_mostAnswered 91 = .ok (.iload_n 3, 1) := by decide +kernel
theorem dX2_mostAnswered_92 : decode cX2_mostAnswered 92 = .ok (.ishl, 1) := by decide +kernel
theorem dX2_mostAnswered_93 : decode cX2_mostAnswered 93 = .ok (.ior, 1) := by decide +kernel
theorem dX2_mostAnswered_94 : decode cX2_mostAnswered 94 = .ok (.istore_n 1, 1) := by decide +kernel
theorem dX2_mostAnswered_95 : decode cX2_mostAnswered 95 = .ok (.iinc 2 1, 3) := by decide +kernel
theorem dX2_mostAnswered_98 : decode cX2_mostAnswered 98 = .ok (.goto (-94), 3) := by decide +kernel
theorem dX2_mostAnswered_101 : decode cX2_mostAnswered 101 = .ok (.iload_n 1, 1) := by decide +kernel
theorem dX2_mostAnswered_102 : decode cX2_mostAnswered 102 = .ok (.ireturn, 1) := by decide +kernel
theorem dX2_rankOf_0 : decode cX2_rankOf 0 = .ok (.iconst 0, 1) := by decide +kernel
theorem dX2_rankOf_1 : decode cX2_rankOf 1 = .ok (.istore_n 2, 1) := by decide +kernel
theorem dX2_rankOf_2 : decode cX2_rankOf 2 = .ok (.iconst 0, 1) := by decide +kernel
theorem dX2_rankOf_3 : decode cX2_rankOf 3 = .ok (.istore_n 3, 1) := by decide +kernel
theorem dX2_rankOf_4 : decode cX2_rankOf 4 = .ok (.iload_n 3, 1) := by decide +kernel
theorem dX2_rankOf_5 : decode cX2_rankOf 5 = .ok (.bipush 23, 2) := by decide +kernel
theorem dX2_rankOf_7 : decode cX2_rankOf 7 = .ok (.if_icmp .ge 76, 3) := by decide +kernel
theorem dX2_rankOf_10 : decode cX2_rankOf 10 = .ok (.aload_n 0, 1) := by decide +kernel
theorem dX2_rankOf_11 : decode cX2_rankOf 11 = .ok (.getfield 25, 3) := by decide +kernel
theorem dX2_rankOf_14 : decode cX2_rankOf 14 = .ok (.iload_n 3, 1) := by decide +kernel
theorem dX2_rankOf_15 : decode cX2_rankOf 15 = .ok (.iaload, 1) := by decide +kernel
theorem dX2_rankOf_16 : decode cX2_rankOf 16 = .ok (.i2l, 1) := by decide +kernel
theorem dX2_rankOf_17 : decode cX2_rankOf 17 = .ok (.aload_n 0, 1) := by decide +kernel
theorem dX2_rankOf_18 : decode cX2_rankOf 18 = .ok (.getfield 22, 3) := by decide +kernel
theorem dX2_rankOf_21 : decode cX2_rankOf 21 = .ok (.iload_n 1, 1) := by decide +kernel
theorem dX2_rankOf_22 : decode cX2_rankOf 22 = .ok (.iaload, 1) := by decide +kernel
theorem dX2_rankOf_23 : decode cX2_rankOf 23 = .ok (.i2l, 1) := by decide +kernel
theorem dX2_rankOf_24 : decode cX2_rankOf 24 = .ok (.lmul, 1) := by decide +kernel
theorem dX2_rankOf_25 : decode cX2_rankOf 25 = .ok (.lstore 4, 2) := by decide +kernel
theorem dX2_rankOf_27 : decode cX2_rankOf 27 = .ok (.aload_n 0, 1) := by decide +kernel
theorem dX2_rankOf_28 : decode cX2_rankOf 28 = .ok (.getfield 25, 3) := by decide +kernel
theorem dX2_rankOf_31 : decode cX2_rankOf 31 = .ok (.iload_n 1, 1) := by decide +kernel
theorem dX2_rankOf_32 : decode cX2_rankOf 32 = .ok (.iaload, 1) := by decide +kernel
theorem dX2_rankOf_33 : decode cX2_rankOf 33 = .ok (.i2l, 1) := by decide +kernel
theorem dX2_rankOf_34 : decode cX2_rankOf 34 = .ok (.aload_n 0, 1) := by decide +kernel
theorem dX2_rankOf_35 : decode cX2_rankOf 35 = .ok (.getfield 22, 3) := by decide +kernel
theorem dX2_rankOf_38 : decode cX2_rankOf 38 = .ok (.iload_n 3, 1) := by decide +kernel
theorem dX2_rankOf_39 : decode cX2_rankOf 39 = .ok (.iaload, 1) := by decide +kernel
theorem dX2_rankOf_40 : decode cX2_rankOf 40 = .ok (.i2l, 1) := by decide +kernel
theorem dX2_rankOf_41 : decode cX2_rankOf 41 = .ok (.lmul, 1) := by decide +kernel
theorem dX2_rankOf_42 : decode cX2_rankOf 42 = .ok (.lstore 6, 2) := by decide +kernel
theorem dX2_rankOf_44 : decode cX2_rankOf 44 = .ok (.aload_n 0, 1) := by decide +kernel
theorem dX2_rankOf_45 : decode cX2_rankOf 45 = .ok (.getfield 22, 3) := by decide +kernel
theorem dX2_rankOf_48 : decode cX2_rankOf 48 = .ok (.iload_n 3, 1) := by decide +kernel
theorem dX2_rankOf_49 : decode cX2_rankOf 49 = .ok (.iaload, 1) := by decide +kernel
theorem dX2_rankOf_50 : decode cX2_rankOf 50 = .ok (.ifCond .le 27, 3) := by decide +kernel
theorem dX2_rankOf_53 : decode cX2_rankOf 53 = .ok (.lload 4, 2) := by decide +kernel
theorem dX2_rankOf_55 : decode cX2_rankOf 55 = .ok (.lload 6, 2) := by decide +kernel
theorem dX2_rankOf_57 : decode cX2_rankOf 57 = .ok (.lcmp, 1) := by decide +kernel
theorem dX2_rankOf_58 : decode cX2_rankOf 58 = .ok (.ifCond .gt 16, 3) := by decide +kernel
theorem dX2_rankOf_61 : decode cX2_rankOf 61 = .ok (.lload 4, 2) := by decide +kernel
theorem dX2_rankOf_63 : decode cX2_rankOf 63 = .ok (.lload 6, 2) := by decide +kernel
theorem dX2_rankOf_65 : decode cX2_rankOf 65 = .ok (.lcmp, 1) := by decide +kernel
theorem dX2_rankOf_66 : decode cX2_rankOf 66 = .ok (.ifCond .ne 11, 3) := by decide +kernel
theorem dX2_rankOf_69 : decode cX2_rankOf 69 = .ok (.iload_n 3, 1) := by decide +kernel
theorem dX2_rankOf_70 : decode cX2_rankOf 70 = .ok (.iload_n 1, 1) := by decide +kernel
theorem dX2_rankOf_71 : decode cX2_rankOf 71 = .ok (.if_icmp .ge 6, 3) := by decide +kernel
theorem dX2_rankOf_74 : decode cX2_rankOf 74 = .ok (.iinc 2 1, 3) := by decide +kernel
theorem dX2_rankOf_77 : decode cX2_rankOf 77 = .ok (.iinc 3 1, 3) := by decide +kernel
theorem dX2_rankOf_80 : decode cX2_rankOf 80 = .ok (.goto (-76), 3) := by decide +kernel
theorem dX2_rankOf_83 : decode cX2_rankOf 83 = .ok (.iload_n 2, 1) := by decide +kernel
theorem dX2_rankOf_84 : decode cX2_rankOf 84 = .ok (.ireturn, 1) := by decide +kernel
theorem dX2_firstWithOpenFrame_0 : decode cX2_firstWithOpenFrame 0 = .ok (.iconst 0, 1) := by decide +kernel
theorem dX2_firstWithOpenFrame_1 : decode cX2_firstWithOpenFrame 1 = .ok (.istore_n 1, 1) := by decide +kernel
theorem dX2_firstWithOpenFrame_2 : decode cX2_firstWithOpenFrame 2 = .ok (.iload_n 1, 1) := by decide +kernel
theorem dX2_firstWithOpenFrame_3 : decode cX2_firstWithOpenFrame 3 = .ok (.aload_n 0, 1) := by decide +kernel
theorem dX2_firstWithOpenFrame_4 : decode cX2_firstWithOpenFrame 4 = .ok (.getfield 45, 3) := by decide +kernel
theorem dX2_firstWithOpenFrame_7 : decode cX2_firstWithOpenFrame 7 = .ok (.if_icmp .ge 43, 3) := by decide +kernel
theorem dX2_firstWithOpenFrame_10 : decode cX2_firstWithOpenFrame 10 = .ok (.iload_n 1, 1) := by decide +kernel
theorem dX2_firstWithOpenFrame_11 : decode cX2_firstWithOpenFrame 11 = .ok (.iconst 4, 1) := by decide +kernel
theorem dX2_firstWithOpenFrame_12 : decode cX2_firstWithOpenFrame 12 = .ok (.if_icmp .ge 38, 3) := by decide +kernel
theorem dX2_firstWithOpenFrame_15 : decode cX2_firstWithOpenFrame 15 = .ok (.aload_n 0, 1) := by decide +kernel
theorem dX2_firstWithOpenFrame_16 : decode cX2_firstWithOpenFrame 16 = .ok (.getfield 30, 3) := by decide +kernel
theorem dX2_firstWithOpenFrame_19 : decode cX2_firstWithOpenFrame 19 = .ok (.iload_n 1, 1) := by decide +kernel
theorem dX2_firstWithOpenFrame_20 : decode cX2_firstWithOpenFrame 20 = .ok (.aaload, 1) := by decide +kernel
theorem dX2_firstWithOpenFrame_21 : decode cX2_firstWithOpenFrame 21 = .ok (.getfield 117, 3) := by decide +kernel
theorem dX2_firstWithOpenFrame_24 : decode cX2_firstWithOpenFrame 24 = .ok (.ifCond .eq 20, 3) := by decide +kernel
theorem dX2_firstWithOpenFrame_27 : decode cX2_firstWithOpenFrame 27 = .ok (.aload_n 0, 1) := by decide +kernel
theorem dX2_firstWithOpenFrame_28 : decode cX2_firstWithOpenFrame 28 = .ok (.getfield 30, 3) := by decide +kernel
theorem dX2_firstWithOpenFrame_31 : decode cX2_firstWithOpenFrame 31 = .ok (.iload_n 1, 1) := by decide +kernel
theorem dX2_firstWithOpenFrame_32 : decode cX2_firstWithOpenFrame 32 = .ok (.aaload, 1) := by decide +kernel
theorem dX2_firstWithOpenFrame_33 : decode cX2_firstWithOpenFrame 33 = .ok (.getfield 120, 3) := by decide +kernel
theorem dX2_firstWithOpenFrame_36 : decode cX2_firstWithOpenFrame 36 = .ok (.getfield 124, 3) := by decide +kernel
theorem dX2_firstWithOpenFrame_39 : decode cX2_firstWithOpenFrame 39 = .ok (.ifCond .le 5, 3) := by decide +kernel
theorem dX2_firstWithOpenFrame_42 : decode cX2_firstWithOpenFrame 42 = .ok (.iload_n 1, 1) := by decide +kernel
theorem dX2_firstWithOpenFrame_43 : decode cX2_firstWithOpenFrame 43 = .ok (.ireturn, 1) := by decide +kernel
theorem dX2_firstWithOpenFrame_44 : decode cX2_firstWithOpenFrame 44 = .ok (.iinc 1 1, 3) := by decide +kernel
theorem dX2_firstWithOpenFrame_47 : decode cX2_firstWithOpenFrame 47 = .ok (.goto (-45), 3) := by decide +kernel
theorem dX2_firstWithOpenFrame_50 : decode cX2_firstWithOpenFrame 50 = .ok (.iconst (-1), 1) := by decide +kernel
theorem dX2_firstWithOpenFrame_51 : decode cX2_firstWithOpenFrame 51 = .ok (.ireturn, 1) := by decide +kernel
theorem dX2_firstNotKnown_0 : decode cX2_firstNotKnown 0 = .ok (.iconst 0, 1) := by decide +kernel
theorem dX2_firstNotKnown_1 : decode cX2_firstNotKnown 1 = .ok (.istore_n 1, 1) := by decide +kernel
theorem dX2_firstNotKnown_2 : decode cX2_firstNotKnown 2 = .ok (.iload_n 1, 1) := by decide +kernel
theorem dX2_firstNotKnown_3 : decode cX2_firstNotKnown 3 = .ok (.aload_n 0, 1) := by decide +kernel
theorem dX2_firstNotKnown_4 : decode cX2_firstNotKnown 4 = .ok (.getfield 45, 3) := by decide +kernel
theorem dX2_firstNotKnown_7 : decode cX2_firstNotKnown 7 = .ok (.if_icmp .ge 40, 3) := by decide +kernel
theorem dX2_firstNotKnown_10 : decode cX2_firstNotKnown 10 = .ok (.iload_n 1, 1) := by decide +kernel
theorem dX2_firstNotKnown_11 : decode cX2_firstNotKnown 11 = .ok (.iconst 4, 1) := by decide +kernel
theorem dX2_firstNotKnown_12 : decode cX2_firstNotKnown 12 = .ok (.if_icmp .ge 35, 3) := by decide +kernel
theorem dX2_firstNotKnown_15 : decode cX2_firstNotKnown 15 = .ok (.aload_n 0, 1) := by decide +kernel
theorem dX2_firstNotKnown_16 : decode cX2_firstNotKnown 16 = .ok (.getfield 30, 3) := by decide +kernel
theorem dX2_firstNotKnown_19 : decode cX2_firstNotKnown 19 = .ok (.iload_n 1, 1) := by decide +kernel
theorem dX2_firstNotKnown_20 : decode cX2_firstNotKnown 20 = .ok (.aaload, 1) := by decide +kernel
theorem dX2_firstNotKnown_21 : decode cX2_firstNotKnown 21 = .ok (.getfield 117, 3) := by decide +kernel
theorem dX2_firstNotKnown_24 : decode cX2_firstNotKnown 24 = .ok (.ifCond .eq 17, 3) := by decide +kernel
theorem dX2_firstNotKnown_27 : decode cX2_firstNotKnown 27 = .ok (.aload_n 0, 1) := by decide +kernel
theorem dX2_firstNotKnown_28 : decode cX2_firstNotKnown 28 = .ok (.getfield 30, 3) := by decide +kernel
theorem dX2_firstNotKnown_31 : decode cX2_firstNotKnown 31 = .ok (.iload_n 1, 1) := by decide +kernel
theorem dX2_firstNotKnown_32 : decode cX2_firstNotKnown 32 = .ok (.aaload, 1) := by decide +kernel
theorem dX2_firstNotKnown_33 : decode cX2_firstNotKnown 33 = .ok (.getfield 111, 3) := by decide +kernel
theorem dX2_firstNotKnown_36 : decode cX2_firstNotKnown 36 = .ok (.ifCond .ne 5, 3) := by decide +kernel
theorem dX2_firstNotKnown_39 : decode cX2_firstNotKnown 39 = .ok (.iload_n 1, 1) := by decide +kernel
theorem dX2_firstNotKnown_40 : decode cX2_firstNotKnown 40 = .ok (.ireturn, 1) := by decide +kernel
theorem dX2_firstNotKnown_41 : decode cX2_firstNotKnown 41 = .ok (.iinc 1 1, 3) := by decide +kernel
theorem dX2_firstNotKnown_44 : decode cX2_firstNotKnown 44 = .ok (.goto (-42), 3) := by decide +kernel
theorem dX2_firstNotKnown_47 : decode cX2_firstNotKnown 47 = .ok (.iconst (-1), 1) := by decide +kernel
theorem dX2_firstNotKnown_48 : decode cX2_firstNotKnown 48 = .ok (.ireturn, 1) := by decide +kernel
theorem dX2_nextPolled_0 : decode cX2_nextPolled 0 = .ok (.aload_n 0, 1) := by decide +kernel
theorem dX2_nextPolled_1 : decode cX2_nextPolled 1 = .ok (.aload_n 0, 1) := by decide +kernel
theorem dX2_nextPolled_2 : decode cX2_nextPolled 2 = .ok (.getfield 48, 3) := by decide +kernel
theorem dX2_nextPolled_5 : decode cX2_nextPolled 5 = .ok (.invokevirtual 103, 3) := by decide +kernel
theorem dX2_nextPolled_8 : decode cX2_nextPolled 8 = .ok (.astore_n 1, 1) := by decide +kernel
theorem dX2_nextPolled_9 : decode cX2_nextPolled 9 = .ok (.aload_n 1, 1) := by decide +kernel
theorem dX2_nextPolled_10 : decode cX2_nextPolled 10 = .ok (.ifnull 26, 3) := by decide +kernel
theorem dX2_nextPolled_13 : decode cX2_nextPolled 13 = .ok (.aload_n 0, 1) := by decide +kernel
theorem dX2_nextPolled_14 : decode cX2_nextPolled 14 = .ok (.getfield 51, 3) := by decide +kernel
theorem dX2_nextPolled_17 : decode cX2_nextPolled 17 = .ok (.iconst (-1), 1) := by decide +kernel
theorem dX2_nextPolled_18 : decode cX2_nextPolled 18 = .ok (.if_icmp .eq 18, 3) := by decide +kernel
theorem dX2_nextPolled_21 : decode cX2_nextPolled 21 = .ok (.aload_n 0, 1) := by decide +kernel
theorem dX2_nextPolled_22 : decode cX2_nextPolled 22 = .ok (.getfield 51, 3) := by decide +kernel
theorem dX2_nextPolled_25 : decode cX2_nextPolled 25 = .ok (.aload_n 1, 1) := by decide +kernel
theorem dX2_nextPolled_26 : decode cX2_nextPolled 26 = .ok (.getfield 129, 3) := by decide +kernel
theorem dX2_nextPolled_29 : decode cX2_nextPolled 29 = .ok (.if_icmp .ge 7, 3) := by decide +kernel
theorem dX2_nextPolled_32 : decode cX2_nextPolled 32 = .ok (.iconst 1, 1) := by decide +kernel
theorem dX2_nextPolled_33 : decode cX2_nextPolled 33 = .ok (.goto 4, 3) := by decide +kernel
theorem dX2_nextPolled_36 : decode cX2_nextPolled 36 = .ok (.iconst 0, 1) := by decide +kernel
theorem dX2_nextPolled_37 : decode cX2_nextPolled 37 = .ok (.istore_n 2, 1) := by decide +kernel
theorem dX2_nextPolled_38 : decode cX2_nextPolled 38 = .ok (.iload_n 2, 1) := by decide +kernel
theorem dX2_nextPolled_39 : decode cX2_nextPolled 39 = .ok (.ifCond .eq 25, 3) := by decide +kernel
theorem dX2_nextPolled_42 : decode cX2_nextPolled 42 = .ok (.aload_n 1, 1) := by decide +kernel
theorem dX2_nextPolled_43 : decode cX2_nextPolled 43 = .ok (.getfield 117, 3) := by decide +kernel
theorem dX2_nextPolled_46 : decode cX2_nextPolled 46 = .ok (.ifCond .eq 18, 3) := by decide +kernel
theorem dX2_nextPolled_49 : decode cX2_nextPolled 49 = .ok (.aload_n 0, 1) := by decide +kernel
theorem dX2_nextPolled_50 : decode cX2_nextPolled 50 = .ok (.dup, 1) := by decide +kernel
theorem dX2_nextPolled_51 : decode cX2_nextPolled 51 = .ok (.getfield 51, 3) := by decide +kernel
theorem dX2_nextPolled_54 : decode cX2_nextPolled 54 = .ok (.iconst 1, 1) := by decide +kernel
theorem dX2_nextPolled_55 : decode cX2_nextPolled 55 = .ok (.iadd, 1) := by decide +kernel
theorem dX2_nextPolled_56 : decode cX2_nextPolled 56 = .ok (.putfield 51, 3) := by decide +kernel
theorem dX2_nextPolled_59 : decode cX2_nextPolled 59 = .ok (.aload_n 0, 1) := by decide +kernel
theorem dX2_nextPolled_60 : decode cX2_nextPolled 60 = .ok (.getfield 48, 3) := by decide +kernel
theorem dX2_nextPolled_63 : decode cX2_nextPolled 63 = .ok (.ireturn, 1) := by decide +kernel
theorem dX2_nextPolled_64 : decode cX2_nextPolled 64 = .ok (.iconst 1, 1) := by decide +kernel
theorem dX2_nextPolled_65 : decode cX2_nextPolled 65 = .ok (.istore_n 3, 1) := by decide +kernel
theorem dX2_nextPolled_66 : decode cX2_nextPolled 66 = .ok (.iload_n 3, 1) := by decide +kernel
theorem dX2_nextPolled_67 : decode cX2_nextPolled 67 = .ok (.aload_n 0, 1) := by decide +kernel
theorem dX2_nextPolled_68 : decode cX2_nextPolled 68 = .ok (.getfield 45, 3) := by decide +kernel
theorem dX2_nextPolled_71 : decode cX2_nextPolled 71 = .ok (.if_icmp .gt 83, 3) := by decide +kernel
theorem dX2_nextPolled_74 : decode cX2_nextPolled 74 = .ok (.aload_n 0, 1) := by decide +kernel
theorem dX2_nextPolled_75 : decode cX2_nextPolled 75 = .ok (.getfield 48, 3) := by decide +kernel
theorem dX2_nextPolled_78 : decode cX2_nextPolled 78 = .ok (.iload_n 3, 1) := by decide +kernel
theorem dX2_nextPolled_79 : decode cX2_nextPolled 79 = .ok (.iadd, 1) := by decide +kernel
theorem dX2_nextPolled_80 : decode cX2_nextPolled 80 = .ok (.aload_n 0, 1) := by decide +kernel
theorem dX2_nextPolled_81 : decode cX2_nextPolled 81 = .ok (.getfield 45, 3) := by decide +kernel
theorem dX2_nextPolled_84 : decode cX2_nextPolled 84 = .ok (.irem, 1) := by decide +kernel
theorem dX2_nextPolled_85 : decode cX2_nextPolled 85 = .ok (.istore 4, 2) := by decide +kernel
theorem dX2_nextPolled_87 : decode cX2_nextPolled 87 = .ok (.aload_n 0, 1) := by decide +kernel
theorem dX2_nextPolled_88 : decode cX2_nextPolled 88 = .ok (.iload 4, 2) := by decide +kernel
theorem dX2_nextPolled_90 : decode cX2_nextPolled 90 = .ok (.invokevirtual 103, 3) := by decide +kernel
theorem dX2_nextPolled_93 : decode cX2_nextPolled 93 = .ok (.astore 5, 2) := by decide +kernel
theorem dX2_nextPolled_95 : decode cX2_nextPolled 95 = .ok (.aload 5, 2) := by decide +kernel
theorem dX2_nextPolled_97 : decode cX2_nextPolled 97 = .ok (.ifnull 51, 3) := by decide +kernel
theorem dX2_nextPolled_100 : decode cX2_nextPolled 100 = .ok (.aload 5, 2) := by decide +kernel
theorem dX2_nextPolled_102 : decode cX2_nextPolled 102 = .ok (.getfield 117, 3) := by decide +kernel
theorem dX2_nextPolled_105 : decode cX2_nextPolled 105 = .ok (.ifCond .eq 43, 3) := by decide +kernel
theorem dX2_nextPolled_108 : decode cX2_nextPolled 108 = .ok (.aload_n 0, 1) := by decide +kernel
theorem dX2_nextPolled_109 : decode cX2_nextPolled 109 = .ok (.iload 4, 2) := by decide +kernel
theorem dX2_nextPolled_111 : decode cX2_nextPolled 111 = .ok (.aload_n 0, 1) := by decide +kernel
theorem dX2_nextPolled_112 : decode cX2_nextPolled 112 = .ok (.getfield 48, 3) := by decide +kernel
theorem dX2_nextPolled_115 : decode cX2_nextPolled 115 = .ok (.if_icmp .ne 20, 3) := by decide +kernel
theorem dX2_nextPolled_118 : decode cX2_nextPolled 118 = .ok (.aload_n 0, 1) := by decide +kernel
theorem dX2_nextPolled_119 : decode cX2_nextPolled 119 = .ok (.getfield 51, 3) := by decide +kernel
theorem dX2_nextPolled_122 : decode cX2_nextPolled 122 = .ok (.iconst (-1), 1) := by decide +kernel
theorem dX2_nextPolled_123 : decode cX2_nextPolled 123 = .ok (.if_icmp .eq 12, 3) := by decide +kernel
theorem dX2_nextPolled_126 : decode cX2_nextPolled 126 = .ok (.aload_n 0, 1) := by decide +kernel
theorem dX2_nextPolled_127 : decode cX2_nextPolled 127 = .ok (.getfield 51, 3) := by decide +kernel
theorem dX2_nextPolled_130 : decode cX2_nextPolled 130 = .ok (.iconst 1, 1) := by decide +kernel
theorem dX2_nextPolled_131 : decode cX2_nextPolled 131 = .ok (.iadd, 1) := by decide +kernel
theorem dX2_nextPolled_132 : decode cX2_nextPolled 132 = .ok (.goto 4, 3) := by decide +kernel
theorem dX2_nextPolled_135 : decode cX2_nextPolled 135 = .ok (.iconst 1, 1) := by decide +kernel
theorem dX2_nextPolled_136 : decode cX2_nextPolled 136 = .ok (.putfield 51, 3) := by decide +kernel
theorem dX2_nextPolled_139 : decode cX2_nextPolled 139 = .ok (.aload_n 0, 1) := by decide +kernel
theorem dX2_nextPolled_140 : decode cX2_nextPolled 140 = .ok (.iload 4, 2) := by decide +kernel
theorem dX2_nextPolled_142 : decode cX2_nextPolled 142 = .ok (.putfield 48, 3) := by decide +kernel
theorem dX2_nextPolled_145 : decode cX2_nextPolled 145 = .ok (.iload 4, 2) := by decide +kernel
theorem dX2_nextPolled_147 : decode cX2_nextPolled 147 = .ok (.ireturn, 1) := by decide +kernel
theorem dX2_nextPolled_148 : decode cX2_nextPolled 148 = .ok (.iinc 3 1, 3) := by decide +kernel
theorem dX2_nextPolled_151 : decode cX2_nextPolled 151 = .ok (.goto (-85), 3) := by decide +kernel
theorem dX2_nextPolled_154 : decode cX2_nextPolled 154 = .ok (.iconst (-1), 1) := by decide +kernel
theorem dX2_nextPolled_155 : decode cX2_nextPolled 155 = .ok (.ireturn, 1) := by decide +kernel
theorem dX2_tallySent_0 : decode cX2_tallySent 0 = .ok (.aload_n 0, 1) := by decide +kernel
theorem dX2_tallySent_1 : decode cX2_tallySent 1 = .ok (.getfield 76, 3) := by decide +kernel
theorem dX2_tallySent_4 : decode cX2_tallySent 4 = .ok (.ifCond .lt 25, 3) := by decide +kernel
theorem dX2_tallySent_7 : decode cX2_tallySent 7 = .ok (.aload_n 0, 1) := by decide +kernel
theorem dX2_tallySent_8 : decode cX2_tallySent 8 = .ok (.getfield 76, 3) := by decide +kernel
theorem dX2_tallySent_11 : decode cX2_tallySent 11 = .ok (.bipush 23, 2) := by decide +kernel
theorem dX2_tallySent_13 : decode cX2_tallySent 13 = .ok (.if_icmp .ge 16, 3) := by decide +kernel
theorem dX2_tallySent_16 : decode cX2_tallySent 16 = .ok (.aload_n 0, 1) := by decide +kernel
theorem dX2_tallySent_17 : decode cX2_tallySent 17 = .ok (.getfield 22, 3) := by decide +kernel
theorem dX2_tallySent_20 : decode cX2_tallySent 20 = .ok (.aload_n 0, 1) := by decide +kernel
theorem dX2_tallySent_21 : decode cX2_tallySent 21 = .ok (.getfield 76, 3) := by decide +kernel
theorem dX2_tallySent_24 : decode cX2_tallySent 24 = .ok (.dup2, 1) := by decide +kernel
theorem dX2_tallySent_25 : decode cX2_tallySent 25 = .ok (.iaload, 1) := by decide +kernel
theorem dX2_tallySent_26 : decode cX2_tallySent 26 = .ok (.iconst 1, 1) := by decide +kernel
theorem dX2_tallySent_27 : decode cX2_tallySent 27 = .ok (.iadd, 1) := by decide +kernel
theorem dX2_tallySent_28 : decode cX2_tallySent 28 = .ok (.iastore, 1) := by decide +kernel
theorem dX2_tallySent_29 : decode cX2_tallySent 29 = .ok (.return_, 1) := by decide +kernel
theorem dX2_tallyAnswered_0 : decode cX2_tallyAnswered 0 = .ok (.aload_n 0, 1) := by decide +kernel
theorem dX2_tallyAnswered_1 : decode cX2_tallyAnswered 1 = .ok (.getfield 76, 3) := by decide +kernel
theorem dX2_tallyAnswered_4 : decode cX2_tallyAnswered 4 = .ok (.ifCond .lt 25, 3) := by decide +kernel
theorem dX2_tallyAnswered_7 : decode cX2_tallyAnswered 7 = .ok (.aload_n 0, 1) := by decide +kernel
theorem dX2_tallyAnswered_8 : decode cX2_tallyAnswered 8 = .ok (.getfield 76, 3) := by decide +kernel
theorem dX2_tallyAnswered_11 : decode cX2_tallyAnswered 11 = .ok (.bipush 23, 2) := by decide +kernel
theorem dX2_tallyAnswered_13 : decode cX2_tallyAnswered 13 = .ok (.if_icmp .ge 16, 3) := by decide +kernel
theorem dX2_tallyAnswered_16 : decode cX2_tallyAnswered 16 = .ok (.aload_n 0, 1) := by decide +kernel
theorem dX2_tallyAnswered_17 : decode cX2_tallyAnswered 17 = .ok (.getfield 25, 3) := by decide +kernel
theorem dX2_tallyAnswered_20 : decode cX2_tallyAnswered 20 = .ok (.aload_n 0, 1) := by decide +kernel
theorem dX2_tallyAnswered_21 : decode cX2_tallyAnswered 21 = .ok (.getfield 76, 3) := by decide +kernel
theorem dX2_tallyAnswered_24 : decode cX2_tallyAnswered 24 = .ok (.dup2, 1) := by decide +kernel
theorem dX2_tallyAnswered_25 : decode cX2_tallyAnswered 25 = .ok (.iaload, 1) := by decide +kernel
theorem dX2_tallyAnswered_26 : decode cX2_tallyAnswered 26 = .ok (.iconst 1, 1) := by decide +kernel
theorem dX2_tallyAnswered_27 : decode cX2_tallyAnswered 27 = .ok (.iadd, 1) := by decide +kernel
theorem dX2_tallyAnswered_28 : decode cX2_tallyAnswered 28 = .ok (.iastore, 1) := by decide +kernel
theorem dX2_tallyAnswered_29 : decode cX2_tallyAnswered 29 = .ok (.return_, 1) := by decide +kernel
theorem dX2_dropFirstCast_0 : decode cX2_dropFirstCast 0 = .ok (.iconst 1, 1) := by decide +kernel
theorem dX2_dropFirstCast_1 : decode cX2_dropFirstCast 1 = .ok (.istore_n 1, 1) := by decide +kernel
theorem dX2_dropFirstCast_2 : decode cX2_dropFirstCast 2 = .ok (.iload_n 1, 1) := by decide +kernel
theorem dX2_dropFirstCast_3 : decode cX2_dropFirstCast 3 = .ok (.aload_n 0, 1) := by decide +kernel
theorem dX2_dropFirstCast_4 : decode cX2_dropFirstCast 4 = .ok (.getfield 54, 3) := by decide +kernel
theorem dX2_dropFirstCast_7 : decode cX2_dropFirstCast 7 = .ok (.if_icmp .ge 28, 3) := by decide +kernel
theorem dX2_dropFirstCast_10 : decode cX2_dropFirstCast 10 = .ok (.iload_n 1, 1) := by decide +kernel
theorem dX2_dropFirstCast_11 : decode cX2_dropFirstCast 11 = .ok (.iconst 4, 1) := by decide +kernel
theorem dX2_dropFirstCast_12 : decode cX2_dropFirstCast 12 = .ok (.if_icmp .ge 23, 3) := by decide +kernel
theorem dX2_dropFirstCast_15 : decode cX2_dropFirstCast 15 = .ok (.aload_n 0, 1) := by decide +kernel
theorem dX2_dropFirstCast_16 : decode cX2_dropFirstCast 16 = .ok (.getfield 18, 3) := by decide +kernel
theorem dX2_dropFirstCast_19 : decode cX2_dropFirstCast 19 = .ok (.iload_n 1, 1) := by decide +kernel
theorem dX2_dropFirstCast_20 : decode cX2_dropFirstCast 20 = .ok (.iconst 1, 1) := by decide +kernel
theorem dX2_dropFirstCast_21 : decode cX2_dropFirstCast 21 = .ok (.isub, 1) := by decide +kernel
theorem dX2_dropFirstCast_22 : decode cX2_dropFirstCast 22 = .ok (.aload_n 0, 1) := by decide +kernel
theorem dX2_dropFirstCast_23 : decode cX2_dropFirstCast 23 = .ok (.getfield 18, 3) := by decide +kernel
theorem dX2_dropFirstCast_26 : decode cX2_dropFirstCast 26 = .ok (.iload_n 1, 1) := by decide +kernel
theorem dX2_dropFirstCast_27 : decode cX2_dropFirstCast 27 = .ok (.iaload, 1) := by decide +kernel
theorem dX2_dropFirstCast_28 : decode cX2_dropFirstCast 28 = .ok (.iastore, 1) := by decide +kernel
theorem dX2_dropFirstCast_29 : decode cX2_dropFirstCast 29 = .ok (.iinc 1 1, 3) := by decide +kernel
theorem dX2_dropFirstCast_32 : decode cX2_dropFirstCast 32 = .ok (.goto (-30), 3) := by decide +kernel
theorem dX2_dropFirstCast_35 : decode cX2_dropFirstCast 35 = .ok (.aload_n 0, 1) := by decide +kernel
theorem dX2_dropFirstCast_36 : decode cX2_dropFirstCast 36 = .ok (.dup, 1) := by decide +kernel
theorem dX2_dropFirstCast_37 : decode cX2_dropFirstCast 37 = .ok (.getfield 54, 3) := by decide +kernel
theorem dX2_dropFirstCast_40 : decode cX2_dropFirstCast 40 = .ok (.iconst 1, 1) := by decide +kernel
theorem dX2_dropFirstCast_41 : decode cX2_dropFirstCast 41 = .ok (.isub, 1) := by decide +kernel
theorem dX2_dropFirstCast_42 : decode cX2_dropFirstCast 42 = .ok (.putfield 54, 3) := by decide +kernel
theorem dX2_dropFirstCast_45 : decode cX2_dropFirstCast 45 = .ok (.aload_n 0, 1) := by decide +kernel
theorem dX2_dropFirstCast_46 : decode cX2_dropFirstCast 46 = .ok (.iconst 0, 1) := by decide +kernel
theorem dX2_dropFirstCast_47 : decode cX2_dropFirstCast 47 = .ok (.putfield 60, 3) := by decide +kernel
theorem dX2_dropFirstCast_50 : decode cX2_dropFirstCast 50 = .ok (.aload_n 0, 1) := by decide +kernel
theorem dX2_dropFirstCast_51 : decode cX2_dropFirstCast 51 = .ok (.iconst 1, 1) := by decide +kernel
theorem dX2_dropFirstCast_52 : decode cX2_dropFirstCast 52 = .ok (.aload_n 0, 1) := by decide +kernel
theorem dX2_dropFirstCast_53 : decode cX2_dropFirstCast 53 = .ok (.getfield 57, 3) := by decide +kernel
theorem dX2_dropFirstCast_56 : decode cX2_dropFirstCast 56 = .ok (.isub, 1) := by decide +kernel
theorem dX2_dropFirstCast_57 : decode cX2_dropFirstCast 57 = .ok (.putfield 57, 3) := by decide +kernel
theorem dX2_dropFirstCast_60 : decode cX2_dropFirstCast 60 = .ok (.return_, 1) := by decide +kernel
theorem dJ6_bitCount_0f7a4_0 : decode cJ6_bitCount_0f7a4 0 = .ok (.iload_n 0, 1) := by decide +kernel
theorem dJ6_bitCount_0f7a4_1 : decode cJ6_bitCount_0f7a4 1 = .ok (.iload_n 0, 1) := by decide +kernel
theorem dJ6_bitCount_0f7a4_2 : decode cJ6_bitCount_0f7a4 2 = .ok (.iconst 1, 1) := by decide +kernel
theorem dJ6_bitCount_0f7a4_3 : decode cJ6_bitCount_0f7a4 3 = .ok (.iushr, 1) := by decide +kernel
theorem dJ6_bitCount_0f7a4_4 : decode cJ6_bitCount_0f7a4 4 = .ok (.ldc_w 265, 3) := by decide +kernel
theorem dJ6_bitCount_0f7a4_7 : decode cJ6_bitCount_0f7a4 7 = .ok (.iand, 1) := by decide +kernel
theorem dJ6_bitCount_0f7a4_8 : decode cJ6_bitCount_0f7a4 8 = .ok (.isub, 1) := by decide +kernel
theorem dJ6_bitCount_0f7a4_9 : decode cJ6_bitCount_0f7a4 9 = .ok (.istore_n 0, 1) := by decide +kernel
theorem dJ6_bitCount_0f7a4_10 : decode cJ6_bitCount_0f7a4 10 = .ok (.iload_n 0, 1) := by decide +kernel
theorem dJ6_bitCount_0f7a4_11 : decode cJ6_bitCount_0f7a4 11 = .ok (.ldc_w 266, 3) := by decide +kernel
theorem dJ6_bitCount_0f7a4_14 : decode cJ6_bitCount_0f7a4 14 = .ok (.iand, 1) := by decide +kernel
theorem dJ6_bitCount_0f7a4_15 : decode cJ6_bitCount_0f7a4 15 = .ok (.iload_n 0, 1) := by decide +kernel
theorem dJ6_bitCount_0f7a4_16 : decode cJ6_bitCount_0f7a4 16 = .ok (.iconst 2, 1) := by decide +kernel
theorem dJ6_bitCount_0f7a4_17 : decode cJ6_bitCount_0f7a4 17 = .ok (.iushr, 1) := by decide +kernel
theorem dJ6_bitCount_0f7a4_18 : decode cJ6_bitCount_0f7a4 18 = .ok (.ldc_w 266, 3) := by decide +kernel
theorem dJ6_bitCount_0f7a4_21 : decode cJ6_bitCount_0f7a4 21 = .ok (.iand, 1) := by decide +kernel
theorem dJ6_bitCount_0f7a4_22 : decode cJ6_bitCount_0f7a4 22 = .ok (.iadd, 1) := by decide +kernel
theorem dJ6_bitCount_0f7a4_23 : decode cJ6_bitCount_0f7a4 23 = .ok (.istore_n 0, 1) := by decide +kernel
theorem dJ6_bitCount_0f7a4_24 : decode cJ6_bitCount_0f7a4 24 = .ok (.iload_n 0, 1) := by decide +kernel
theorem dJ6_bitCount_0f7a4_25 : decode cJ6_bitCount_0f7a4 25 = .ok (.iload_n 0, 1) := by decide +kernel
theorem dJ6_bitCount_0f7a4_26 : decode cJ6_bitCount_0f7a4 26 = .ok (.iconst 4, 1) := by decide +kernel
theorem dJ6_bitCount_0f7a4_27 : decode cJ6_bitCount_0f7a4 27 = .ok (.iushr, 1) := by decide +kernel
theorem dJ6_bitCount_0f7a4_28 : decode cJ6_bitCount_0f7a4 28 = .ok (.iadd, 1) := by decide +kernel
theorem dJ6_bitCount_0f7a4_29 : decode cJ6_bitCount_0f7a4 29 = .ok (.ldc_w 267, 3) := by decide +kernel
theorem dJ6_bitCount_0f7a4_32 : decode cJ6_bitCount_0f7a4 32 = .ok (.iand, 1) := by decide +kernel
theorem dJ6_bitCount_0f7a4_33 : decode cJ6_bitCount_0f7a4 33 = .ok (.istore_n 0, 1) := by decide +kernel
theorem dJ6_bitCount_0f7a4_34 : decode cJ6_bitCount_0f7a4 34 = .ok (.iload_n 0, 1) := by decide +kernel
theorem dJ6_bitCount_0f7a4_35 : decode cJ6_bitCount_0f7a4 35 = .ok (.iload_n 0, 1) := by decide +kernel
theorem dJ6_bitCount_0f7a4_36 : decode cJ6_bitCount_0f7a4 36 = .ok (.bipush 8, 2) := by decide +kernel
theorem dJ6_bitCount_0f7a4_38 : decode cJ6_bitCount_0f7a4 38 = .ok (.iushr, 1) := by decide +kernel
theorem dJ6_bitCount_0f7a4_39 : decode cJ6_bitCount_0f7a4 39 = .ok (.iadd, 1) := by decide +kernel
theorem dJ6_bitCount_0f7a4_40 : decode cJ6_bitCount_0f7a4 40 = .ok (.istore_n 0, 1) := by decide +kernel
theorem dJ6_bitCount_0f7a4_41 : decode cJ6_bitCount_0f7a4 41 = .ok (.iload_n 0, 1) := by decide +kernel
theorem dJ6_bitCount_0f7a4_42 : decode cJ6_bitCount_0f7a4 42 = .ok (.iload_n 0, 1) := by decide +kernel
theorem dJ6_bitCount_0f7a4_43 : decode cJ6_bitCount_0f7a4 43 = .ok (.bipush 16, 2) := by decide +kernel
theorem dJ6_bitCount_0f7a4_45 : decode cJ6_bitCount_0f7a4 45 = .ok (.iushr, 1) := by decide +kernel
theorem dJ6_bitCount_0f7a4_46 : decode cJ6_bitCount_0f7a4 46 = .ok (.iadd, 1) := by decide +kernel
theorem dJ6_bitCount_0f7a4_47 : decode cJ6_bitCount_0f7a4 47 = .ok (.istore_n 0, 1) := by decide +kernel
theorem dJ6_bitCount_0f7a4_48 : decode cJ6_bitCount_0f7a4 48 = .ok (.iload_n 0, 1) := by decide +kernel
theorem dJ6_bitCount_0f7a4_49 : decode cJ6_bitCount_0f7a4 49 = .ok (.bipush 63, 2) := by decide +kernel
theorem dJ6_bitCount_0f7a4_51 : decode cJ6_bitCount_0f7a4 51 = .ok (.iand, 1) := by decide +kernel
theorem dJ6_bitCount_0f7a4_52 : decode cJ6_bitCount_0f7a4 52 = .ok (.ireturn, 1) := by decide +kernel
theorem dX6_byMap_0 : decode cX6_byMap 0 = .ok (.iload_n 1, 1) := by decide +kernel
theorem dX6_byMap_1 : decode cX6_byMap 1 = .ok (.invokestatic 403, 3) := by decide +kernel
theorem dX6_byMap_4 : decode cX6_byMap 4 = .ok (.istore_n 2, 1) := by decide +kernel
theorem dX6_byMap_5 : decode cX6_byMap 5 = .ok (.iload_n 2, 1) := by decide +kernel
theorem dX6_byMap_6 : decode cX6_byMap 6 = .ok (.ifCond .eq 12, 3) := by decide +kernel
theorem dX6_byMap_9 : decode cX6_byMap 9 = .ok (.iload_n 1, 1) := by decide +kernel
theorem dX6_byMap_10 : decode cX6_byMap 10 = .ok (.iload_n 0, 1) := by decide +kernel
theorem dX6_byMap_11 : decode cX6_byMap 11 = .ok (.ishr, 1) := by decide +kernel
theorem dX6_byMap_12 : decode cX6_byMap 12 = .ok (.iconst 1, 1) := by decide +kernel
theorem dX6_byMap_13 : decode cX6_byMap 13 = .ok (.iand, 1) := by decide +kernel
theorem dX6_byMap_14 : decode cX6_byMap 14 = .ok (.iconst 1, 1) := by decide +kernel
theorem dX6_byMap_15 : decode cX6_byMap 15 = .ok (.if_icmp .ne 5, 3) := by decide +kernel
theorem dX6_byMap_18 : decode cX6_byMap 18 = .ok (.iload_n 0, 1) := by decide +kernel
theorem dX6_byMap_19 : decode cX6_byMap 19 = .ok (.ireturn, 1) := by decide +kernel
theorem dX6_byMap_20 : decode cX6_byMap 20 = .ok (.iload_n 0, 1) := by decide +kernel
theorem dX6_byMap_21 : decode cX6_byMap 21 = .ok (.iload_n 2, 1) := by decide +kernel
theorem dX6_byMap_22 : decode cX6_byMap 22 = .ok (.irem, 1) := by decide +kernel
theorem dX6_byMap_23 : decode cX6_byMap 23 = .ok (.istore_n 3, 1) := by decide +kernel
theorem dX6_byMap_24 : decode cX6_byMap 24 = .ok (.iconst 0, 1) := by decide +kernel
theorem dX6_byMap_25 : decode cX6_byMap 25 = .ok (.istore 4, 2) := by decide +kernel
theorem dX6_byMap_27 : decode cX6_byMap 27 = .ok (.iload 4, 2) := by decide +kernel
theorem dX6_byMap_29 : decode cX6_byMap 29 = .ok (.bipush 23, 2) := by decide +kernel
theorem dX6_byMap_31 : decode cX6_byMap 31 = .ok (.if_icmp .ge 29, 3) := by decide +kernel
theorem dX6_byMap_34 : decode cX6_byMap 34 = .ok (.iload_n 1, 1) := by decide +kernel
theorem dX6_byMap_35 : decode cX6_byMap 35 = .ok (.iload 4, 2) := by decide +kernel
theorem dX6_byMap_37 : decode cX6_byMap 37 = .ok (.ishr, 1) := by decide +kernel
theorem dX6_byMap_38 : decode cX6_byMap 38 = .ok (.iconst 1, 1) := by decide +kernel
theorem dX6_byMap_39 : decode cX6_byMap 39 = .ok (.iand, 1) := by decide +kernel
theorem dX6_byMap_40 : decode cX6_byMap 40 = .ok (.iconst 1, 1) := by decide +kernel
theorem dX6_byMap_41 : decode cX6_byMap 41 = .ok (.if_icmp .ne 13, 3) := by decide +kernel
theorem dX6_byMap_44 : decode cX6_byMap 44 = .ok (.iload_n 3, 1) := by decide +kernel
theorem dX6_byMap_45 : decode cX6_byMap 45 = .ok (.ifCond .ne 6, 3) := by decide +kernel
theorem dX6_byMap_48 : decode cX6_byMap 48 = .ok (.iload 4, 2) := by decide +kernel
theorem dX6_byMap_50 : decode cX6_byMap 50 = .ok (.ireturn, 1) := by decide +kernel
theorem dX6_byMap_51 : decode cX6_byMap 51 = .ok (.iinc 3 (-1), 3) := by decide +kernel
theorem dX6_byMap_54 : decode cX6_byMap 54 = .ok (.iinc 4 1, 3) := by decide +kernel
theorem dX6_byMap_57 : decode cX6_byMap 57 = .ok (.goto (-30), 3) := by decide +kernel
theorem dX6_byMap_60 : decode cX6_byMap 60 = .ok (.iload_n 0, 1) := by decide +kernel
theorem dX6_byMap_61 : decode cX6_byMap 61 = .ok (.ireturn, 1) := by decide +kernel
theorem dX2_endCastTurn_0 : decode cX2_endCastTurn 0 = .ok (.iconst 0, 1) := by decide +kernel
theorem dX2_endCastTurn_1 : decode cX2_endCastTurn 1 = .ok (.istore_n 2, 1) := by decide +kernel
theorem dX2_endCastTurn_2 : decode cX2_endCastTurn 2 = .ok (.iload_n 2, 1) := by decide +kernel
theorem dX2_endCastTurn_3 : decode cX2_endCastTurn 3 = .ok (.aload_n 0, 1) := by decide +kernel
theorem dX2_endCastTurn_4 : decode cX2_endCastTurn 4 = .ok (.getfield 45, 3) := by decide +kernel
theorem dX2_endCastTurn_7 : decode cX2_endCastTurn 7 = .ok (.if_icmp .ge 78, 3) := by decide +kernel
theorem dX2_endCastTurn_10 : decode cX2_endCastTurn 10 = .ok (.iload_n 2, 1) := by decide +kernel
theorem dX2_endCastTurn_11 : decode cX2_endCastTurn 11 = .ok (.iconst 4, 1) := by decide +kernel
theorem dX2_endCastTurn_12 : decode cX2_endCastTurn 12 = .ok (.if_icmp .ge 73, 3) := by decide +kernel
theorem dX2_endCastTurn_15 : decode cX2_endCastTurn 15 = .ok (.aload_n 0, 1) := by decide +kernel
theorem dX2_endCastTurn_16 : decode cX2_endCastTurn 16 = .ok (.getfield 79, 3) := by decide +kernel
theorem dX2_endCastTurn_19 : decode cX2_endCastTurn 19 = .ok (.ifCond .eq 66, 3) := by decide +kernel
theorem dX2_endCastTurn_22 : decode cX2_endCastTurn 22 = .ok (.aload_n 0, 1) := by decide +kernel
theorem dX2_endCastTurn_23 : decode cX2_endCastTurn 23 = .ok (.getfield 30, 3) := by decide +kernel
theorem dX2_endCastTurn_26 : decode cX2_endCastTurn 26 = .ok (.iload_n 2, 1) := by decide +kernel
theorem dX2_endCastTurn_27 : decode cX2_endCastTurn 27 = .ok (.aaload, 1) := by decide +kernel
theorem dX2_endCastTurn_28 : decode cX2_endCastTurn 28 = .ok (.getfield 117, 3) := by decide +kernel
theorem dX2_endCastTurn_31 : decode cX2_endCastTurn 31 = .ok (.ifCond .eq 48, 3) := by decide +kernel
theorem dX2_endCastTurn_34 : decode cX2_endCastTurn 34 = .ok (.aload_n 0, 1) := by decide +kernel
theorem dX2_endCastTurn_35 : decode cX2_endCastTurn 35 = .ok (.getfield 70, 3) := by decide +kernel
theorem dX2_endCastTurn_38 : decode cX2_endCastTurn 38 = .ok (.aload_n 0, 1) := by decide +kernel
theorem dX2_endCastTurn_39 : decode cX2_endCastTurn 39 = .ok (.getfield 30, 3) := by decide +kernel
theorem dX2_endCastTurn_42 : decode cX2_endCastTurn 42 = .ok (.iload_n 2, 1) := by decide +kernel
theorem dX2_endCastTurn_43 : decode cX2_endCastTurn 43 = .ok (.aaload, 1) := by decide +kernel
theorem dX2_endCastTurn_44 : decode cX2_endCastTurn 44 = .ok (.getfield 132, 3) := by decide +kernel
theorem dX2_endCastTurn_47 : decode cX2_endCastTurn 47 = .ok (.getfield 114, 3) := by decide +kernel
theorem dX2_endCastTurn_50 : decode cX2_endCastTurn 50 = .ok (.invokestatic 133, 3) := by decide +kernel
theorem dX2_endCastTurn_53 : decode cX2_endCastTurn 53 = .ok (.aload_n 0, 1) := by decide +kernel
theorem dX2_endCastTurn_54 : decode cX2_endCastTurn 54 = .ok (.getfield 73, 3) := by decide +kernel
theorem dX2_endCastTurn_57 : decode cX2_endCastTurn 57 = .ok (.if_icmp .ne 22, 3) := by decide +kernel
theorem dX2_endCastTurn_60 : decode cX2_endCastTurn 60 = .ok (.aload_n 0, 1) := by decide +kernel
theorem dX2_endCastTurn_61 : decode cX2_endCastTurn 61 = .ok (.getfield 30, 3) := by decide +kernel
theorem dX2_endCastTurn_64 : decode cX2_endCastTurn 64 = .ok (.iload_n 2, 1) := by decide +kernel
theorem dX2_endCastTurn_65 : decode cX2_endCastTurn 65 = .ok (.aaload, 1) := by decide +kernel
theorem dX2_endCastTurn_66 : decode cX2_endCastTurn 66 = .ok (.aload_n 0, 1) := by decide +kernel
theorem dX2_endCastTurn_67 : decode cX2_endCastTurn 67 = .ok (.getfield 18, 3) := by decide +kernel
theorem dX2_endCastTurn_70 : decode cX2_endCastTurn 70 = .ok (.iconst 0, 1) := by decide +kernel
theorem dX2_endCastTurn_71 : decode cX2_endCastTurn 71 = .ok (.iaload, 1) := by decide +kernel
theorem dX2_endCastTurn_72 : decode cX2_endCastTurn 72 = .ok (.aload_n 0, 1) := by decide +kernel
theorem dX2_endCastTurn_73 : decode cX2_endCastTurn 73 = .ok (.getfield 57, 3) := by decide +kernel
theorem dX2_endCastTurn_76 : decode cX2_endCastTurn 76 = .ok (.invokevirtual 137, 3) := by decide +kernel
theorem dX2_endCastTurn_79 : decode cX2_endCastTurn 79 = .ok (.iinc 2 1, 3) := by decide +kernel
theorem dX2_endCastTurn_82 : decode cX2_endCastTurn 82 = .ok (.goto (-80), 3) := by decide +kernel
theorem dX2_endCastTurn_85 : decode cX2_endCastTurn 85 = .ok (.aload_n 0, 1) := by decide +kernel
theorem dX2_endCastTurn_86 : decode cX2_endCastTurn 86 = .ok (.dup, 1) := by decide +kernel
theorem dX2_endCastTurn_87 : decode cX2_endCastTurn 87 = .ok (.getfield 60, 3) := by decide +kernel
theorem dX2_endCastTurn_90 : decode cX2_endCastTurn 90 = .ok (.iconst 1, 1) := by decide +kernel
theorem dX2_endCastTurn_91 : decode cX2_endCastTurn 91 = .ok (.iadd, 1) := by decide +kernel
theorem dX2_endCastTurn_92 : decode cX2_endCastTurn 92 = .ok (.putfield 60, 3) := by decide +kernel
theorem dX2_endCastTurn_95 : decode cX2_endCastTurn 95 = .ok (.aload_n 0, 1) := by decide +kernel
theorem dX2_endCastTurn_96 : decode cX2_endCastTurn 96 = .ok (.getfield 60, 3) := by decide +kernel
theorem dX2_endCastTurn_99 : decode cX2_endCastTurn 99 = .ok (.iload_n 1, 1) := by decide +kernel
theorem dX2_endCastTurn_100 : decode cX2_endCastTurn 100 = .ok (.if_icmp .lt 7, 3) := by decide +kernel
theorem dX2_endCastTurn_103 : decode cX2_endCastTurn 103 = .ok (.aload_n 0, 1) := by decide +kernel
theorem dX2_endCastTurn_104 : decode cX2_endCastTurn 104 = .ok (.invokevirtual 140, 3) := by decide +kernel
theorem dX2_endCastTurn_107 : decode cX2_endCastTurn 107 = .ok (.return_, 1) := by decide +kernel
theorem dX2_copyFrom_0 : decode cX2_copyFrom 0 = .ok (.aload_n 0, 1) := by decide +kernel
theorem dX2_copyFrom_1 : decode cX2_copyFrom 1 = .ok (.getfield 12, 3) := by decide +kernel
theorem dX2_copyFrom_4 : decode cX2_copyFrom 4 = .ok (.aload_n 1, 1) := by decide +kernel
theorem dX2_copyFrom_5 : decode cX2_copyFrom 5 = .ok (.getfield 12, 3) := by decide +kernel
theorem dX2_copyFrom_8 : decode cX2_copyFrom 8 = .ok (.invokevirtual 83, 3) := by decide +kernel
theorem dX2_copyFrom_11 : decode cX2_copyFrom 11 = .ok (.aload_n 1, 1) := by decide +kernel
theorem dX2_copyFrom_12 : decode cX2_copyFrom 12 = .ok (.getfield 18, 3) := by decide +kernel
theorem dX2_copyFrom_15 : decode cX2_copyFrom 15 = .ok (.iconst 0, 1) := by decide +kernel
theorem dX2_copyFrom_16 : decode cX2_copyFrom 16 = .ok (.aload_n 0, 1) := by decide +kernel
theorem dX2_copyFrom_17 : decode cX2_copyFrom 17 = .ok (.getfield 18, 3) := by decide +kernel
theorem dX2_copyFrom_20 : decode cX2_copyFrom 20 = .ok (.iconst 0, 1) := by decide +kernel
theorem dX2_copyFrom_21 : decode cX2_copyFrom 21 = .ok (.iconst 4, 1) := by decide +kernel
theorem dX2_copyFrom_22 : decode cX2_copyFrom 22 = .ok (.invokestatic 87, 3) := by decide +kernel
theorem dX2_copyFrom_25 : decode cX2_copyFrom 25 = .ok (.aload_n 1, 1) := by decide +kernel
theorem dX2_copyFrom_26 : decode cX2_copyFrom 26 = .ok (.getfield 22, 3) := by decide +kernel
theorem dX2_copyFrom_29 : decode cX2_copyFrom 29 = .ok (.iconst 0, 1) := by decide +kernel
theorem dX2_copyFrom_30 : decode cX2_copyFrom 30 = .ok (.aload_n 0, 1) := by decide +kernel
theorem dX2_copyFrom_31 : decode cX2_copyFrom 31 = .ok (.getfield 22, 3) := by decide +kernel
theorem dX2_copyFrom_34 : decode cX2_copyFrom 34 = .ok (.iconst 0, 1) := by decide +kernel
theorem dX2_copyFrom_35 : decode cX2_copyFrom 35 = .ok (.bipush 23, 2) := by decide +kernel
theorem dX2_copyFrom_37 : decode cX2_copyFrom 37 = .ok (.invokestatic 87, 3) := by decide +kernel
theorem dX2_copyFrom_40 : decode cX2_copyFrom 40 = .ok (.aload_n 1, 1) := by decide +kernel
theorem dX2_copyFrom_41 : decode cX2_copyFrom 41 = .ok (.getfield 25, 3) := by decide +kernel
theorem dX2_copyFrom_44 : decode cX2_copyFrom 44 = .ok (.iconst 0, 1) := by decide +kernel
theorem dX2_copyFrom_45 : decode cX2_copyFrom 45 = .ok (.aload_n 0, 1) := by decide +kernel
theorem dX2_copyFrom_46 : decode cX2_copyFrom 46 = .ok (.getfield 25, 3) := by decide +kernel
theorem dX2_copyFrom_49 : decode cX2_copyFrom 49 = .ok (.iconst 0, 1) := by decide +kernel
theorem dX2_copyFrom_50 : decode cX2_copyFrom 50 = .ok (.bipush 23, 2) := by decide +kernel
theorem dX2_copyFrom_52 : decode cX2_copyFrom 52 = .ok (.invokestatic 87, 3) := by decide +kernel
theorem dX2_copyFrom_55 : decode cX2_copyFrom 55 = .ok (.iconst 0, 1) := by decide +kernel
theorem dX2_copyFrom_56 : decode cX2_copyFrom 56 = .ok (.istore_n 2, 1) := by decide +kernel
theorem dX2_copyFrom_57 : decode cX2_copyFrom 57 = .ok (.iload_n 2, 1) := by decide +kernel
theorem dX2_copyFrom_58 : decode cX2_copyFrom 58 = .ok (.aload_n 1, 1) := by decide +kernel
theorem dX2_copyFrom_59 : decode cX2_copyFrom 59 = .ok (.getfield 45, 3) := by decide +kernel
theorem dX2_copyFrom_62 : decode cX2_copyFrom 62 = .ok (.if_icmp .ge 29, 3) := by decide +kernel
theorem dX2_copyFrom_65 : decode cX2_copyFrom 65 = .ok (.iload_n 2, 1) := by decide +kernel
theorem dX2_copyFrom_66 : decode cX2_copyFrom 66 = .ok (.iconst 4, 1) := by decide +kernel
theorem dX2_copyFrom_67 : decode cX2_copyFrom 67 = .ok (.if_icmp .ge 24, 3) := by decide +kernel
theorem dX2_copyFrom_70 : decode cX2_copyFrom 70 = .ok (.aload_n 0, 1) := by decide +kernel
theorem dX2_copyFrom_71 : decode cX2_copyFrom 71 = .ok (.getfield 30, 3) := by decide +kernel
theorem dX2_copyFrom_74 : decode cX2_copyFrom 74 = .ok (.iload_n 2, 1) := by decide +kernel
theorem dX2_copyFrom_75 : decode cX2_copyFrom 75 = .ok (.aaload, 1) := by decide +kernel
theorem dX2_copyFrom_76 : decode cX2_copyFrom 76 = .ok (.aload_n 1, 1) := by decide +kernel
theorem dX2_copyFrom_77 : decode cX2_copyFrom 77 = .ok (.getfield 30, 3) := by decide +kernel
theorem dX2_copyFrom_80 : decode cX2_copyFrom 80 = .ok (.iload_n 2, 1) := by decide +kernel
theorem dX2_copyFrom_81 : decode cX2_copyFrom 81 = .ok (.aaload, 1) := by decide +kernel
theorem dX2_copyFrom_82 : decode cX2_copyFrom 82 = .ok (.invokevirtual 93, 3) := by decide +kernel
theorem dX2_copyFrom_85 : decode cX2_copyFrom 85 = .ok (.iinc 2 1, 3) := by decide +kernel
theorem dX2_copyFrom_88 : decode cX2_copyFrom 88 = .ok (.goto (-31), 3) := by decide +kernel
theorem dX2_copyFrom_91 : decode cX2_copyFrom 91 = .ok (.aload_n 0, 1) := by decide +kernel
theorem dX2_copyFrom_92 : decode cX2_copyFrom 92 = .ok (.aload_n 1, 1) := by decide +kernel
theorem dX2_copyFrom_93 : decode cX2_copyFrom 93 = .ok (.getfield 34, 3) := by decide +kernel
theorem dX2_copyFrom_96 : decode cX2_copyFrom 96 = .ok (.putfield 34, 3) := by decide +kernel
theorem dX2_copyFrom_99 : decode cX2_copyFrom 99 = .ok (.aload_n 0, 1) := by decide +kernel
theorem dX2_copyFrom_100 : decode cX2_copyFrom 100 = .ok (.aload_n 1, 1) := by decide +kernel
theorem dX2_copyFrom_101 : decode cX2_copyFrom 101 = .ok (.getfield 38, 3) := by decide +kernel
theorem dX2_copyFrom_104 : decode cX2_copyFrom 104 = .ok (.putfield 38, 3) := by decide +kernel
theorem dX2_copyFrom_107 : decode cX2_copyFrom 107 = .ok (.aload_n 0, 1) := by decide +kernel
theorem dX2_copyFrom_108 : decode cX2_copyFrom 108 = .ok (.aload_n 1, 1) := by decide +kernel
theorem dX2_copyFrom_109 : decode cX2_copyFrom 109 = .ok (.getfield 42, 3) := by decide +kernel
theorem dX2_copyFrom_112 : decode cX2_copyFrom 112 = .ok (.putfield 42, 3) := by decide +kernel
theorem dX2_copyFrom_115 : decode cX2_copyFrom 115 = .ok (.aload_n 0, 1) := by decide +kernel
theorem dX2_copyFrom_116 : decode cX2_copyFrom 116 = .ok (.aload_n 1, 1) := by decide +kernel
theorem dX2_copyFrom_117 : decode cX2_copyFrom 117 = .ok (.getfield 45, 3) := by decide +kernel
theorem dX2_copyFrom_120 : decode cX2_copyFrom 120 = .ok (.putfield 45, 3) := by decide +kernel
theorem dX2_copyFrom_123 : decode cX2_copyFrom 123 = .ok (.aload_n 0, 1) := by decide +kernel
theorem dX2_copyFrom_124 : decode cX2_copyFrom 124 = .ok (.aload_n 1, 1) := by decide +kernel
theorem dX2_copyFrom_125 : decode cX2_copyFrom 125 = .ok (.getfield 48, 3) := by decide +kernel
theorem dX2_copyFrom_128 : decode cX2_copyFrom 128 = .ok (.putfield 48, 3) := by decide +kernel
theorem dX2_copyFrom_131 : decode cX2_copyFrom 131 = .ok (.aload_n 0, 1) := by decide +kernel
theorem dX2_copyFrom_132 : decode cX2_copyFrom 132 = .ok (.aload_n 1, 1) := by decide +kernel
theorem dX2_copyFrom_133 : decode cX2_copyFrom 133 = .ok (.getfield 51, 3) := by decide +kernel
theorem dX2_copyFrom_136 : decode cX2_copyFrom 136 = .ok (.putfield 51, 3) := by decide +kernel
theorem dX2_copyFrom_139 : decode cX2_copyFrom 139 = .ok (.aload_n 0, 1) := by decide +kernel
theorem dX2_copyFrom_140 : decode cX2_copyFrom 140 = .ok (.aload_n 1, 1) := by decide +kernel
theorem dX2_copyFrom_141 : decode cX2_copyFrom 141 = .ok (.getfield 54, 3) := by decide +kernel
theorem dX2_copyFrom_144 : decode cX2_copyFrom 144 = .ok (.putfield 54, 3) := by decide +kernel
theorem dX2_copyFrom_147 : decode cX2_copyFrom 147 = .ok (.aload_n 0, 1) := by decide +kernel
theorem dX2_copyFrom_148 : decode cX2_copyFrom 148 = .ok (.aload_n 1, 1) := by decide +kernel
theorem dX2_copyFrom_149 : decode cX2_copyFrom 149 = .ok (.getfield 57, 3) := by decide +kernel
theorem dX2_copyFrom_152 : decode cX2_copyFrom 152 = .ok (.putfield 57, 3) := by decide +kernel
theorem dX2_copyFrom_155 : decode cX2_copyFrom 155 = .ok (.aload_n 0, 1) := by decide +kernel
theorem dX2_copyFrom_156 : decode cX2_copyFrom 156 = .ok (.aload_n 1, 1) := by decide +kernel
theorem dX2_copyFrom_157 : decode cX2_copyFrom 157 = .ok (.getfield 60, 3) := by decide +kernel
theorem dX2_copyFrom_160 : decode cX2_copyFrom 160 = .ok (.putfield 60, 3) := by decide +kernel
theorem dX2_copyFrom_163 : decode cX2_copyFrom 163 = .ok (.return_, 1) := by decide +kernel
set_option maxHeartbeats 4000000 in
set_option maxRecDepth 100000 in
theorem d_X2_linkAt (l : Launch) (E : hE) (ρ r : Nat → Nat → Int32) (S : Nat × Nat → Prop) (hSS : SK S) (k : Nat) (h : hk k = 2) (a1 : Int32) (hI : CI r S ρ) : Met l yX2_linkAt (.code yX2_linkAt cX2_linkAt 2 (some (.object "HopNet$Link")) :: gw_all) (rmk 1 40) (cPre E ρ [.ref (E.2.1 + k), .int a1]) (cQ E (fun v ρ1 => ρ = ρ1 ∧ CI r S ρ1 ∧ (v = none ∨ ∃ j x : Nat, v = some (E.2.1 + x) ∧ hk x = 1 ∧ a1 = nI j ∧ j < 4 ∧ iR (ρ1 k 8) (j + 1) 4))) 0 0 (hA E) := by
  refine ent (own := RX2) (by decide) rfl (Nat.le_of_ble_eq_true rfl) ?_
  intro p e s m below meth c ls B hr hlk hl hP hS
  have hx := B.1.1
  have hb := B.1.2.1
  have hown := B.1.2.2.2.1
  have hts := B.1.2.2.2.2
  have hl : lv_has ls 2 [(0, .ref (E.2.1 + k)), (1, .int a1)] := hl
  refine lv_iload_n hx hb dX2_linkAt_0 rfl (lv_at hl 1 rfl) ?_
  refine lv_if_lt (tgt := 17) hx hb dX2_linkAt_1 (by decide) (fun c16 => ?_) (fun c16 => ?_)
  · skip
    have i17 : iR a1 (-2147483648) (-1) := (iR_ltL (iR_any a1) (show iR 0 (0) (0) from ⟨by decide, by decide⟩) c16 (by decide))
    refine lv_null hx hb dX2_linkAt_17 ?_
    refine lv_goto (tgt := 27) hx hb dX2_linkAt_18 (by decide) ?_
    exact ret_q none B hr hlk hP hS dX2_linkAt_27 (⟨rfl, hI, (Or.inl rfl)⟩)
  · skip
    have i18 : iR a1 (0) (2147483647) := (iR_geL (iR_any a1) (show iR 0 (0) (0) from ⟨by decide, by decide⟩) c16 (by decide))
    refine lv_iload_n hx hb dX2_linkAt_4 rfl (lv_at hl 1 rfl) ?_
    obtain ⟨j19, lj19, uj19, ej19⟩ := iR_nat (a := 0) (b := 2147483647) i18
    refine lv_topi (fun z20 ez20 => ?_)
    obtain rfl : z20 = nI j19 := ez20.trans ej19
    refine lv_aload_n hx hb dX2_linkAt_5 rfl (lv_at hl 0 rfl) ?_
    refine get2 B hP h 8 (by decide) mw_303 rfl dX2_linkAt_6 ?_
    have i21 : iR (ρ k 8) 0 4 := CI_get hI (kind_lt h (by decide)) h rfl
    obtain ⟨j22, lj22, uj22, ej22⟩ := iR_nat (a := 0) (b := 4) i21
    refine lv_topi (fun z23 ez23 => ?_)
    obtain rfl : z23 = nI j22 := ez23.trans ej22
    refine lv_icmp_ge (tgt := 17) hx hb dX2_linkAt_9 (by decide) (fun c24 => ?_) (fun c24 => ?_)
    · skip
      have n25 := mt (nx_lt (a := j19) (b := j22) (by omega) (by omega)).mpr (show ¬ (nI j19 < nI j22) from (Int32.not_lt.mpr c24))
      refine lv_null hx hb dX2_linkAt_17 ?_
      refine lv_goto (tgt := 27) hx hb dX2_linkAt_18 (by decide) ?_
      exact ret_q none B hr hlk hP hS dX2_linkAt_27 (⟨rfl, hI, (Or.inl rfl)⟩)
    · skip
      have n26 := (nx_lt (a := j19) (b := j22) (by omega) (by omega)).mp (show (nI j19 < nI j22) from (Int32.not_le.mp c24))
      refine lv_iload_n hx hb dX2_linkAt_12 rfl (lv_at hl 1 rfl) ?_
      refine lv_topi (fun z27 ez27 => ?_)
      obtain rfl : z27 = nI j19 := ez27.trans ej19
      refine lv_iconst (v := 4) hx hb dX2_linkAt_13 (by decide) ?_
      refine lv_icmp_lt (tgt := 21) hx hb dX2_linkAt_14 (by decide) (fun _ => ?_) (fun c28 => absurd (iR_lt (nI_iR (j := j19) (a := 0) (b := 3) (by omega) (by omega) (by omega)) (show iR 4 (4) (4) from ⟨by decide, by decide⟩) (by decide)) c28)
      refine lv_aload_n hx hb dX2_linkAt_21 rfl (lv_at hl 0 rfl) ?_
      refine get2 B hP h 4 (by decide) mw_291 rfl dX2_linkAt_22 ?_
      refine lv_iload_n hx hb dX2_linkAt_25 rfl (lv_at hl 1 rfl) ?_
      refine lv_topi (fun z29 ez29 => ?_)
      obtain rfl : z29 = nI j19 := ez29.trans ej19
      obtain ⟨k30, ek30, hk30⟩ := CI_link hI (lay2 h).2.2.2.2.2.2.2.1 (show j19 < 4 from (by omega))
      refine aldLn B hP (lay2 h).2.2.2.2.2.2.2.1 (lay2 h).2.2.2.2.2.2.2.2.1 rfl (by omega) ek30 hk30 dX2_linkAt_26 ?_
      exact ret_q (some (E.2.1 + k30)) B hr hlk hP hS dX2_linkAt_27 (⟨rfl, hI, (Or.inr ⟨j19, k30, rfl, hk30, ej19, by omega, (by rw [ej22]; exact nI_iR (by omega) (by omega) (by omega))⟩)⟩)

set_option maxHeartbeats 4000000 in
set_option maxRecDepth 100000 in
theorem d_X2_linkOfRadio (l : Launch) (E : hE) (ρ r : Nat → Nat → Int32) (S : Nat × Nat → Prop) (hSS : SK S) (k : Nat) (h : hk k = 2) (a1 : Int32) (hI : CI r S ρ) : Met l yX2_linkOfRadio (.code yX2_linkOfRadio cX2_linkOfRadio 3 (some (.object "HopNet$Link")) :: gw_all) (rmk 1 40) (cPre E ρ [.ref (E.2.1 + k), .int a1]) (cQ E (fun v ρ1 => ρ = ρ1 ∧ CI r S ρ1 ∧ (v = none ∨ ∃ x : Nat, v = some (E.2.1 + x) ∧ hk x = 1))) 0 0 (hA E) := by
  refine ent (own := RX2) (by decide) rfl (Nat.le_of_ble_eq_true rfl) ?_
  intro p e s m below meth c ls B hr hlk hl hP hS
  have hx := B.1.1
  have hb := B.1.2.1
  have hown := B.1.2.2.2.1
  have hts := B.1.2.2.2.2
  have hl : lv_has ls 3 [(0, .ref (E.2.1 + k)), (1, .int a1)] := hl
  have b2_0 : ∀ (ls : Array Slot) (H : Heap) (locs : List Loc) (d2 : Nat) (j2_2 : Nat), lv_has ls 3 [(0, .ref (E.2.1 + k)), (1, .int a1), (2, .int (nI j2_2))] → WP E ρ H → va_S (hA E) s.heap H locs → 5 - j2_2 < d2 → 0 ≤ j2_2 → j2_2 ≤ 4 → W p l e (rmk 1 40) s m ([.ref (E.2.1 + k), .int a1] : List Value).toArray below meth c H locs 0 0 (MQ below (cQ E (fun v ρ1 => ρ = ρ1 ∧ CI r S ρ1 ∧ (v = none ∨ ∃ x : Nat, v = some (E.2.1 + x) ∧ hk x = 1))) ([.ref (E.2.1 + k), .int a1] : List Value).toArray s 0 0 (hA E)) (F0 m 2 ls []) := by
    intro ls H locs d2
    induction d2 generalizing ls H locs with
    | zero => intro j2_2 hl hP hS hd2 lj2_2 uj2_2; exact absurd hd2 (Nat.not_lt_zero _)
    | succ d2 ih2 =>
      intro j2_2 hl hP hS hd2 lj2_2 uj2_2
      refine lv_iload_n hx hb dX2_linkOfRadio_2 rfl (lv_at hl 2 rfl) ?_
      refine lv_aload_n hx hb dX2_linkOfRadio_3 rfl (lv_at hl 0 rfl) ?_
      refine get2 B hP h 8 (by decide) mw_303 rfl dX2_linkOfRadio_4 ?_
      have i51 : iR (ρ k 8) 0 4 := CI_get hI (kind_lt h (by decide)) h rfl
      obtain ⟨j52, lj52, uj52, ej52⟩ := iR_nat (a := 0) (b := 4) i51
      refine lv_topi (fun z53 ez53 => ?_)
      obtain rfl : z53 = nI j52 := ez53.trans ej52
      refine lv_icmp_ge (tgt := 41) hx hb dX2_linkOfRadio_7 (by decide) (fun c54 => ?_) (fun c54 => ?_)
      · skip
        have n55 := mt (nx_lt (a := j2_2) (b := j52) (by omega) (by omega)).mpr (show ¬ (nI j2_2 < nI j52) from (Int32.not_lt.mpr c54))
        refine lv_null hx hb dX2_linkOfRadio_41 ?_
        exact ret_q none B hr hlk hP hS dX2_linkOfRadio_42 (⟨rfl, hI, (Or.inl rfl)⟩)
      · skip
        have n56 := (nx_lt (a := j2_2) (b := j52) (by omega) (by omega)).mp (show (nI j2_2 < nI j52) from (Int32.not_le.mp c54))
        refine lv_iload_n hx hb dX2_linkOfRadio_10 rfl (lv_at hl 2 rfl) ?_
        refine lv_iconst (v := 4) hx hb dX2_linkOfRadio_11 (by decide) ?_
        refine lv_icmp_ge (tgt := 41) hx hb dX2_linkOfRadio_12 (by decide) (fun c57 => absurd c57 (iR_nle (show iR 4 (4) (4) from ⟨by decide, by decide⟩) (nI_iR (j := j2_2) (a := 0) (b := 3) (by omega) (by omega) (by omega)) (by decide))) (fun _ => ?_)
        refine lv_aload_n hx hb dX2_linkOfRadio_15 rfl (lv_at hl 0 rfl) ?_
        refine get2 B hP h 4 (by decide) mw_291 rfl dX2_linkOfRadio_16 ?_
        refine lv_iload_n hx hb dX2_linkOfRadio_19 rfl (lv_at hl 2 rfl) ?_
        obtain ⟨k58, ek58, hk58⟩ := CI_link hI (lay2 h).2.2.2.2.2.2.2.1 (show j2_2 < 4 from (by omega))
        refine aldLn B hP (lay2 h).2.2.2.2.2.2.2.1 (lay2 h).2.2.2.2.2.2.2.2.1 rfl (by omega) ek58 hk58 dX2_linkOfRadio_20 ?_
        refine get1 B hP hk58 4 (by decide) mw_208 rfl dX2_linkOfRadio_21 ?_
        refine lv_iload_n hx hb dX2_linkOfRadio_24 rfl (lv_at hl 1 rfl) ?_
        refine lv_icmp_ne (tgt := 35) hx hb dX2_linkOfRadio_25 (by decide) (fun c59 => ?_) (fun c59 => ?_)
        · skip
          refine lv_iinc (v := (nI (1 + j2_2))) (lv' := [(2, .int (nI (1 + j2_2))), (0, .ref (E.2.1 + k)), (1, .int a1)]) hx hb dX2_linkOfRadio_35 hl (k := 2) rfl (show nI j2_2 + nI 1 = _ from (nI_add _ _).trans (congrArg nI (by omega))) (by decide) rfl (fun ls hl => ?_)
          refine lv_goto (tgt := 2) hx hb dX2_linkOfRadio_38 (by decide) ?_
          exact ih2 ls _ _ (1 + j2_2) (lv_sub hl [1, 2, 0] rfl) hP hS (by omega) (by omega) (by omega)
        · skip
          refine lv_aload_n hx hb dX2_linkOfRadio_28 rfl (lv_at hl 0 rfl) ?_
          refine get2 B hP h 4 (by decide) mw_291 rfl dX2_linkOfRadio_29 ?_
          refine lv_iload_n hx hb dX2_linkOfRadio_32 rfl (lv_at hl 2 rfl) ?_
          obtain ⟨k60, ek60, hk60⟩ := CI_link hI (lay2 h).2.2.2.2.2.2.2.1 (show j2_2 < 4 from (by omega))
          refine aldLn B hP (lay2 h).2.2.2.2.2.2.2.1 (lay2 h).2.2.2.2.2.2.2.2.1 rfl (by omega) ek60 hk60 dX2_linkOfRadio_33 ?_
          exact ret_q (some (E.2.1 + k60)) B hr hlk hP hS dX2_linkOfRadio_34 (⟨rfl, hI, (Or.inr ⟨k60, rfl, hk60⟩)⟩)
  refine lv_iconst (v := 0) hx hb dX2_linkOfRadio_0 (by decide) ?_
  refine lv_istore_n (lv' := [(2, .int 0), (0, .ref (E.2.1 + k)), (1, .int a1)]) hx hb dX2_linkOfRadio_1 rfl hl (by decide) rfl (fun ls hl => ?_)
  exact b2_0 ls _ _ _ 0 (lv_sub hl [1, 2, 0] rfl) hP hS (Nat.lt_succ_self _) (by omega) (by omega)

set_option maxHeartbeats 4000000 in
set_option maxRecDepth 100000 in
theorem d_X2_holds (l : Launch) (E : hE) (ρ r : Nat → Nat → Int32) (S : Nat × Nat → Prop) (hSS : SK S) (k : Nat) (h : hk k = 2) (a1 : Int32) (hI : CI r S ρ) : Met l yX2_holds (.code yX2_holds cX2_holds 3 (some .boolean) :: gw_all) (rmk 1 40) (cPre E ρ [.ref (E.2.1 + k), .int a1]) (cI E (fun v ρ1 => ρ = ρ1 ∧ CI r S ρ1 ∧ iR v (0) (1))) 0 0 (hA E) := by
  refine ent (own := RX2) (by decide) rfl (Nat.le_of_ble_eq_true rfl) ?_
  intro p e s m below meth c ls B hr hlk hl hP hS
  have hx := B.1.1
  have hb := B.1.2.1
  have hown := B.1.2.2.2.1
  have hts := B.1.2.2.2.2
  have hl : lv_has ls 3 [(0, .ref (E.2.1 + k)), (1, .int a1)] := hl
  have b36_0 : ∀ (ls : Array Slot) (H : Heap) (locs : List Loc) , lv_has ls 3 [(0, .ref (E.2.1 + k)), (1, .int a1)] → WP E ρ H → va_S (hA E) s.heap H locs → iR (ρ k 8) (0) (4) → W p l e (rmk 1 40) s m ([.ref (E.2.1 + k), .int a1] : List Value).toArray below meth c H locs 0 0 (MQ below (cI E (fun v ρ1 => ρ = ρ1 ∧ CI r S ρ1 ∧ iR v (0) (1))) ([.ref (E.2.1 + k), .int a1] : List Value).toArray s 0 0 (hA E)) (F0 m 36 ls []) := by
    intro ls H locs  hl hP hS f_ρ_k_8_
    refine lv_aload_n hx hb dX2_holds_36 rfl (lv_at hl 0 rfl) ?_
    refine get2 B hP h 5 (by decide) mw_294 rfl dX2_holds_37 ?_
    refine lv_iconst (v := (-1)) hx hb dX2_holds_40 (by decide) ?_
    refine lv_icmp_eq (tgt := 56) hx hb dX2_holds_41 (by decide) (fun c49 => ?_) (fun c49 => ?_)
    · skip
      have i50 : iR (ρ k 5) (-1) (-1) := (by rw [c49]; exact ⟨by decide, by decide⟩)
      refine lv_iconst (v := 0) hx hb dX2_holds_56 (by decide) ?_
      exact ret_z B hr hlk hP hS dX2_holds_57 (Or.inl rfl) (⟨rfl, hI, (iR_w (a := 0) (b := 0) (show iR 0 (0) (0) from ⟨by decide, by decide⟩) (by decide) (by decide))⟩)
    · skip
      refine lv_aload_n hx hb dX2_holds_44 rfl (lv_at hl 0 rfl) ?_
      refine get2 B hP h 5 (by decide) mw_294 (v := .int (ρ k 5)) (show some (Value.int (ρ k 5)) = some (Value.int (ρ k 5)) from congrArg (fun z => some (Value.int z)) rfl) dX2_holds_45 ?_
      refine lv_iload_n hx hb dX2_holds_48 rfl (lv_at hl 1 rfl) ?_
      refine lv_icmp_ne (tgt := 56) hx hb dX2_holds_49 (by decide) (fun c51 => ?_) (fun c51 => ?_)
      · skip
        refine lv_iconst (v := 0) hx hb dX2_holds_56 (by decide) ?_
        exact ret_z B hr hlk hP hS dX2_holds_57 (Or.inl rfl) (⟨rfl, hI, (iR_w (a := 0) (b := 0) (show iR 0 (0) (0) from ⟨by decide, by decide⟩) (by decide) (by decide))⟩)
      · skip
        refine lv_iconst (v := 1) hx hb dX2_holds_52 (by decide) ?_
        refine lv_goto (tgt := 57) hx hb dX2_holds_53 (by decide) ?_
        exact ret_z B hr hlk hP hS dX2_holds_57 (Or.inr rfl) (⟨rfl, hI, (iR_w (a := 1) (b := 1) (show iR 1 (1) (1) from ⟨by decide, by decide⟩) (by decide) (by decide))⟩)
  have b2_0 : ∀ (ls : Array Slot) (H : Heap) (locs : List Loc) (d2 : Nat) (j2_2 : Nat), lv_has ls 3 [(0, .ref (E.2.1 + k)), (1, .int a1), (2, .int (nI j2_2))] → WP E ρ H → va_S (hA E) s.heap H locs → 5 - j2_2 < d2 → 0 ≤ j2_2 → j2_2 ≤ 4 → W p l e (rmk 1 40) s m ([.ref (E.2.1 + k), .int a1] : List Value).toArray below meth c H locs 0 0 (MQ below (cI E (fun v ρ1 => ρ = ρ1 ∧ CI r S ρ1 ∧ iR v (0) (1))) ([.ref (E.2.1 + k), .int a1] : List Value).toArray s 0 0 (hA E)) (F0 m 2 ls []) := by
    intro ls H locs d2
    induction d2 generalizing ls H locs with
    | zero => intro j2_2 hl hP hS hd2 lj2_2 uj2_2; exact absurd hd2 (Nat.not_lt_zero _)
    | succ d2 ih2 =>
      intro j2_2 hl hP hS hd2 lj2_2 uj2_2
      refine lv_iload_n hx hb dX2_holds_2 rfl (lv_at hl 2 rfl) ?_
      refine lv_aload_n hx hb dX2_holds_3 rfl (lv_at hl 0 rfl) ?_
      refine get2 B hP h 8 (by decide) mw_303 rfl dX2_holds_4 ?_
      have i52 : iR (ρ k 8) 0 4 := CI_get hI (kind_lt h (by decide)) h rfl
      obtain ⟨j53, lj53, uj53, ej53⟩ := iR_nat (a := 0) (b := 4) i52
      refine lv_topi (fun z54 ez54 => ?_)
      obtain rfl : z54 = nI j53 := ez54.trans ej53
      refine lv_icmp_ge (tgt := 36) hx hb dX2_holds_7 (by decide) (fun c55 => ?_) (fun c55 => ?_)
      · skip
        have n56 := mt (nx_lt (a := j2_2) (b := j53) (by omega) (by omega)).mpr (show ¬ (nI j2_2 < nI j53) from (Int32.not_lt.mpr c55))
        exact b36_0 ls _ _  (lv_sub hl [0, 1] rfl) hP hS (iR_w i52 (by decide) (by decide))
      · skip
        have n57 := (nx_lt (a := j2_2) (b := j53) (by omega) (by omega)).mp (show (nI j2_2 < nI j53) from (Int32.not_le.mp c55))
        refine lv_iload_n hx hb dX2_holds_10 rfl (lv_at hl 2 rfl) ?_
        refine lv_iconst (v := 4) hx hb dX2_holds_11 (by decide) ?_
        refine lv_icmp_ge (tgt := 36) hx hb dX2_holds_12 (by decide) (fun c58 => absurd c58 (iR_nle (show iR 4 (4) (4) from ⟨by decide, by decide⟩) (nI_iR (j := j2_2) (a := 0) (b := 3) (by omega) (by omega) (by omega)) (by decide))) (fun _ => ?_)
        refine lv_aload_n hx hb dX2_holds_15 rfl (lv_at hl 0 rfl) ?_
        refine get2 B hP h 4 (by decide) mw_291 rfl dX2_holds_16 ?_
        refine lv_iload_n hx hb dX2_holds_19 rfl (lv_at hl 2 rfl) ?_
        obtain ⟨k59, ek59, hk59⟩ := CI_link hI (lay2 h).2.2.2.2.2.2.2.1 (show j2_2 < 4 from (by omega))
        refine aldLn B hP (lay2 h).2.2.2.2.2.2.2.1 (lay2 h).2.2.2.2.2.2.2.2.1 rfl (by omega) ek59 hk59 dX2_holds_20 ?_
        refine get1 B hP hk59 4 (by decide) mw_208 rfl dX2_holds_21 ?_
        refine lv_iload_n hx hb dX2_holds_24 rfl (lv_at hl 1 rfl) ?_
        refine lv_icmp_ne (tgt := 30) hx hb dX2_holds_25 (by decide) (fun c60 => ?_) (fun c60 => ?_)
        · skip
          refine lv_iinc (v := (nI (1 + j2_2))) (lv' := [(2, .int (nI (1 + j2_2))), (0, .ref (E.2.1 + k)), (1, .int a1)]) hx hb dX2_holds_30 hl (k := 2) rfl (show nI j2_2 + nI 1 = _ from (nI_add _ _).trans (congrArg nI (by omega))) (by decide) rfl (fun ls hl => ?_)
          refine lv_goto (tgt := 2) hx hb dX2_holds_33 (by decide) ?_
          exact ih2 ls _ _ (1 + j2_2) (lv_sub hl [1, 2, 0] rfl) hP hS (by omega) (by omega) (by omega)
        · skip
          refine lv_iconst (v := 1) hx hb dX2_holds_28 (by decide) ?_
          exact ret_z B hr hlk hP hS dX2_holds_29 (Or.inr rfl) (⟨rfl, hI, (iR_w (a := 1) (b := 1) (show iR 1 (1) (1) from ⟨by decide, by decide⟩) (by decide) (by decide))⟩)
  refine lv_iconst (v := 0) hx hb dX2_holds_0 (by decide) ?_
  refine lv_istore_n (lv' := [(2, .int 0), (0, .ref (E.2.1 + k)), (1, .int a1)]) hx hb dX2_holds_1 rfl hl (by decide) rfl (fun ls hl => ?_)
  exact b2_0 ls _ _ _ 0 (lv_sub hl [1, 2, 0] rfl) hP hS (Nat.lt_succ_self _) (by omega) (by omega)

theorem lk_RX2_99 : LkV RX2 99 RX1 yX1_begin cX1_begin 4 none 3 := ⟨⟨mw_528, mw_529, mw_530, mw_56, mw_531⟩, by decide +kernel⟩
set_option maxHeartbeats 4000000 in
set_option maxRecDepth 100000 in
theorem d_X2_addMember (l : Launch) (E : hE) (ρ r : Nat → Nat → Int32) (k : Nat) (h : hk k = 2) (a1 : Int32) (a2 : Int32) (hI : CI r S0 ρ) : Met l yX2_addMember (.code yX2_addMember cX2_addMember 3 none :: gw_all) (rmk 3 120) (cPre E ρ [.ref (E.2.1 + k), .int a1, .int a2]) (cV E (fun ρ1 => CI r S0 ρ1)) 0 0 (hA E) := by
  refine ent (own := RX2) (by decide) rfl (Nat.le_of_ble_eq_true rfl) ?_
  intro p e s m below meth c ls B hr hlk hl hP hS
  have hx := B.1.1
  have hb := B.1.2.1
  have hown := B.1.2.2.2.1
  have hts := B.1.2.2.2.2
  have hl : lv_has ls 3 [(0, .ref (E.2.1 + k)), (1, .int a1), (2, .int a2)] := hl
  refine lv_aload_n hx hb dX2_addMember_0 rfl (lv_at hl 0 rfl) ?_
  refine get2 B hP h 8 (by decide) mw_303 rfl dX2_addMember_1 ?_
  have i18 : iR (ρ k 8) 0 4 := CI_get hI (kind_lt h (by decide)) h rfl
  obtain ⟨j19, lj19, uj19, ej19⟩ := iR_nat (a := 0) (b := 4) i18
  refine lv_topi (fun z20 ez20 => ?_)
  obtain rfl : z20 = nI j19 := ez20.trans ej19
  refine lv_iconst (v := 4) hx hb dX2_addMember_4 (by decide) ?_
  refine lv_icmp_ge (tgt := 36) hx hb dX2_addMember_5 (by decide) (fun c21 => ?_) (fun c21 => ?_)
  · skip
    have n22 := mt (nx_lt (a := j19) (b := 4) (by omega) (by omega)).mpr (show ¬ (nI j19 < nI 4) from (Int32.not_lt.mpr c21))
    exact ret_v B hr hlk hP hS dX2_addMember_36 (hI)
  · skip
    have n23 := (nx_lt (a := j19) (b := 4) (by omega) (by omega)).mp (show (nI j19 < nI 4) from (Int32.not_le.mp c21))
    refine lv_aload_n hx hb dX2_addMember_8 rfl (lv_at hl 0 rfl) ?_
    refine get2 B hP h 4 (by decide) mw_291 rfl dX2_addMember_9 ?_
    refine lv_aload_n hx hb dX2_addMember_12 rfl (lv_at hl 0 rfl) ?_
    refine get2 B hP h 8 (by decide) mw_303 (v := .int (nI j19)) (show some (Value.int (ρ k 8)) = some (Value.int (nI j19)) from congrArg (fun z => some (Value.int z)) ej19) dX2_addMember_13 ?_
    obtain ⟨k24, ek24, hk24⟩ := CI_link hI (lay2 h).2.2.2.2.2.2.2.1 (show j19 < 4 from (by omega))
    refine aldLn B hP (lay2 h).2.2.2.2.2.2.2.1 (lay2 h).2.2.2.2.2.2.2.2.1 rfl (by omega) ek24 hk24 dX2_addMember_16 ?_
    refine lv_iload_n hx hb dX2_addMember_17 rfl (lv_at hl 1 rfl) ?_
    refine lv_aload_n hx hb dX2_addMember_18 rfl (lv_at hl 0 rfl) ?_
    refine get2 B hP h 0 (by decide) mw_282 rfl dX2_addMember_19 ?_
    refine lv_iload_n hx hb dX2_addMember_22 rfl (lv_at hl 2 rfl) ?_
    have hI : CI r (SL k 2) ρ := CI_S hI (fun x hx => by rw [show x = (k, 2) from hx]; exact RC2.mpr (by rw [show ρ k 8 = (nI j19) from ej19]; exact iR_w (nI_iR (j := j19) (a := 0) (b := 3) (by omega) (by omega) (by omega)) (by decide) (by decide)))
    refine call_v (cVt (k := k24) (av := [.int a1, .ref (E.2.1 + (k + 1)), .int a2]) (rest := []) B hP hS (d_X1_begin l E ρ r (SL k 2) (hSL h (by decide)) k24 hk24 a1 (k + 1) (lay2 h).1 a2 hI) lk_RX2_99 (hrecv (ci := 1) B hP (hk_lt (c := 1) hk24 (by decide)) (hcc1 _ _ hk24) rfl) rfl rfl hl.1 (Nat.le_of_ble_eq_true rfl) ⟨Nat.le_of_ble_eq_true rfl, Nat.le_of_ble_eq_true rfl⟩ ⟨Nat.le_of_ble_eq_true rfl, Nat.le_of_ble_eq_true rfl⟩ dX2_addMember_23) hS (fun ρ26 H locs q27 hP hS => ?_)
    have hI := q27
    refine lv_aload_n hx hb dX2_addMember_26 rfl (lv_at hl 0 rfl) ?_
    refine lv_dup hx hb dX2_addMember_27 rfl ?_
    refine get2 B hP h 8 (by decide) mw_303 rfl dX2_addMember_28 ?_
    have i29 : iR (ρ26 k 8) 0 3 := RC2.mp (hI.2.1 (k, 2) rfl)
    obtain ⟨j30, lj30, uj30, ej30⟩ := iR_nat (a := 0) (b := 3) i29
    refine lv_topi (fun z31 ez31 => ?_)
    obtain rfl : z31 = nI j30 := ez31.trans ej30
    refine lv_iconst (v := 1) hx hb dX2_addMember_31 (by decide) ?_
    refine lv_iadd hx hb dX2_addMember_32 ?_
    refine lv_topi (fun z32 ez32 => ?_)
    obtain rfl : z32 = (nI (1 + j30)) := ez32.trans (by rw [show (nI j30) = nI j30 from rfl, show 1 = nI 1 from rfl, nI_add] <;> exact congrArg nI (by omega))
    refine put2 B hP hS h 8 (by decide) mw_303 rfl rfl rfl (fs2_8 E k _ _) dX2_addMember_33 (fun H locs hP hS => ?_)
    obtain ⟨ρ33, e34⟩ : ∃ z, z = up ρ26 k 8 (nI (1 + j30)) := ⟨_, rfl⟩
    rw [← e34] at hP
    have hI : CI r S0 ρ33 := by rw [e34]; exact CI_upS hI (kind_lt h (by decide)) (SP_rng h rfl (by decide) (iR_w (a := 1) (b := 4) (nI_iR (j := (1 + j30)) (a := 1) (b := 4) (by omega) (by omega) (by omega)) (by decide) (by decide))) (fun x hx => hx.elim)
    exact ret_v B hr hlk hP hS dX2_addMember_36 (hI)

theorem lk_RX2_103 : LkV RX2 103 RX2 yX2_linkAt cX2_linkAt 2 (some (.object "HopNet$Link")) 1 := ⟨⟨mw_552, mw_545, mw_546, mw_54, mw_547⟩, by decide +kernel⟩
set_option maxHeartbeats 4000000 in
set_option maxRecDepth 100000 in
theorem d_X2_removeMember (l : Launch) (E : hE) (ρ r : Nat → Nat → Int32) (k : Nat) (h : hk k = 2) (a1 : Int32) (hI : CI r S0 ρ) : Met l yX2_removeMember (.code yX2_removeMember cX2_removeMember 4 none :: gw_all) (rmk 2 80) (cPre E ρ [.ref (E.2.1 + k), .int a1]) (cV E (fun ρ1 => CI r S0 ρ1)) 0 0 (hA E) := by
  refine ent (own := RX2) (by decide) rfl (Nat.le_of_ble_eq_true rfl) ?_
  intro p e s m below meth c ls B hr hlk hl hP hS
  have hx := B.1.1
  have hb := B.1.2.1
  have hown := B.1.2.2.2.1
  have hts := B.1.2.2.2.2
  have hl : lv_has ls 4 [(0, .ref (E.2.1 + k)), (1, .int a1)] := hl
  have b81_0 : ∀ (ls : Array Slot) (ρ : Nat → Nat → Int32) (H : Heap) (locs : List Loc) , lv_has ls 4 [(0, .ref (E.2.1 + k)), (1, .int a1)] → WP E ρ H → va_S (hA E) s.heap H locs → CI r S0 ρ → iR a1 (0) (3) → W p l e (rmk 2 80) s m ([.ref (E.2.1 + k), .int a1] : List Value).toArray below meth c H locs 0 0 (MQ below (cV E (fun ρ1 => CI r S0 ρ1)) ([.ref (E.2.1 + k), .int a1] : List Value).toArray s 0 0 (hA E)) (F0 m 81 ls []) := by
    intro ls ρ H locs  hl hP hS hI fa1
    refine lv_aload_n hx hb dX2_removeMember_81 rfl (lv_at hl 0 rfl) ?_
    refine get2 B hP h 9 (by decide) mw_306 rfl dX2_removeMember_82 ?_
    refine lv_iload_n hx hb dX2_removeMember_85 rfl (lv_at hl 1 rfl) ?_
    obtain ⟨j41, lj41, uj41, ej41⟩ := iR_nat (a := 0) (b := 3) fa1
    refine lv_topi (fun z42 ez42 => ?_)
    obtain rfl : z42 = nI j41 := ez42.trans ej41
    refine lv_icmp_lt (tgt := 99) hx hb dX2_removeMember_86 (by decide) (fun c43 => ?_) (fun c43 => ?_)
    · skip
      have i44 : iR (ρ k 9) (-2147483648) (2) := (iR_ltL (iR_any (ρ k 9)) (nI_iR (j := j41) (a := 0) (b := 3) (by omega) (by omega) (by omega)) c43 (by decide))
      exact ret_v B hr hlk hP hS dX2_removeMember_99 (hI)
    · skip
      have i45 : iR (ρ k 9) (0) (2147483647) := (iR_geL (iR_any (ρ k 9)) (nI_iR (j := j41) (a := 0) (b := 3) (by omega) (by omega) (by omega)) c43 (by decide))
      refine lv_aload_n hx hb dX2_removeMember_89 rfl (lv_at hl 0 rfl) ?_
      refine lv_dup hx hb dX2_removeMember_90 rfl ?_
      refine get2 B hP h 9 (by decide) mw_306 (v := .int (ρ k 9)) (show some (Value.int (ρ k 9)) = some (Value.int (ρ k 9)) from congrArg (fun z => some (Value.int z)) rfl) dX2_removeMember_91 ?_
      refine lv_iconst (v := 1) hx hb dX2_removeMember_94 (by decide) ?_
      refine lv_isub hx hb dX2_removeMember_95 ?_
      refine put2 B hP hS h 9 (by decide) mw_306 rfl rfl rfl (fs2_9 E k _ _) dX2_removeMember_96 (fun H locs hP hS => ?_)
      obtain ⟨ρ46, e47⟩ : ∃ z, z = up ρ k 9 ((ρ k 9) - 1) := ⟨_, rfl⟩
      rw [← e47] at hP
      have hI : CI r S0 ρ46 := by rw [e47]; exact CI_up hI (kind_lt h (by decide)) (SP_plain h rfl (by decide)) ⟨(fun _ => ⟨by decide, by decide, by decide⟩), (fun z2 => absurd (Eq.trans (Eq.symm h) z2) (by decide))⟩ hS0
      exact ret_v B hr hlk hP hS dX2_removeMember_99 (hI)
  have b48_0 : ∀ (ls : Array Slot) (ρ : Nat → Nat → Int32) (H : Heap) (locs : List Loc) (k48_2 : Nat), lv_has ls 4 [(0, .ref (E.2.1 + k)), (1, .int a1), (2, .ref (E.2.1 + k48_2))] → WP E ρ H → va_S (hA E) s.heap H locs → CI r S0 ρ → hk k48_2 = 1 → iR a1 (0) (3) → iR (ρ k 8) 1 4 → W p l e (rmk 2 80) s m ([.ref (E.2.1 + k), .int a1] : List Value).toArray below meth c H locs 0 0 (MQ below (cV E (fun ρ1 => CI r S0 ρ1)) ([.ref (E.2.1 + k), .int a1] : List Value).toArray s 0 0 (hA E)) (F0 m 48 ls []) := by
    intro ls ρ H locs k48_2 hl hP hS hI hk48_2 fa1 kp0
    refine lv_aload_n hx hb dX2_removeMember_48 rfl (lv_at hl 0 rfl) ?_
    refine lv_dup hx hb dX2_removeMember_49 rfl ?_
    refine get2 B hP h 8 (by decide) mw_303 rfl dX2_removeMember_50 ?_
    obtain ⟨j48, lj48, uj48, ej48⟩ := iR_nat (a := 1) (b := 4) kp0
    refine lv_topi (fun z49 ez49 => ?_)
    obtain rfl : z49 = nI j48 := ez49.trans ej48
    refine lv_iconst (v := 1) hx hb dX2_removeMember_53 (by decide) ?_
    refine lv_isub hx hb dX2_removeMember_54 ?_
    obtain ⟨j50, lj50, uj50, ej50⟩ := iR_nat (a := 0) (b := 3) (iR_sub (a' := 0) (b' := 3) (nI_iR (j := j48) (a := 1) (b := 4) (by omega) (by omega) (by omega)) (show iR 1 (1) (1) from ⟨by decide, by decide⟩) (by decide) (by decide) (by decide) (by decide))
    refine lv_topi (fun z51 ez51 => ?_)
    obtain rfl : z51 = nI j50 := ez51.trans ej50
    refine put2 B hP hS h 8 (by decide) mw_303 rfl rfl rfl (fs2_8 E k _ _) dX2_removeMember_55 (fun H locs hP hS => ?_)
    obtain ⟨ρ52, e53⟩ : ∃ z, z = up ρ k 8 (nI j50) := ⟨_, rfl⟩
    rw [← e53] at hP
    have hI : CI r S0 ρ52 := by rw [e53]; exact CI_upS hI (kind_lt h (by decide)) (SP_rng h rfl (by decide) (iR_w (a := 0) (b := 3) (nI_iR (j := j50) (a := 0) (b := 3) (by omega) (by omega) (by omega)) (by decide) (by decide))) (fun x hx => hx.elim)
    refine lv_aload_n hx hb dX2_removeMember_58 rfl (lv_at hl 0 rfl) ?_
    refine get2 B hP h 4 (by decide) mw_291 rfl dX2_removeMember_59 ?_
    refine lv_aload_n hx hb dX2_removeMember_62 rfl (lv_at hl 0 rfl) ?_
    refine get2 B hP h 8 (by decide) mw_303 (v := .int (nI j50)) (show some (Value.int (ρ52 k 8)) = some (Value.int (nI j50)) from congrArg (fun z => some (Value.int z)) (by rw [e53]; exact up_get_at)) dX2_removeMember_63 ?_
    refine lv_aload_n hx hb dX2_removeMember_66 rfl (lv_at hl 2 rfl) ?_
    refine astLn (j := j50) B hP hS (lay2 h).2.2.2.2.2.2.2.1 (lay2 h).2.2.2.2.2.2.2.2.1 hk48_2 rfl (by omega) dX2_removeMember_67 (fun H locs hP hS => ?_)
    obtain ⟨ρ54, e55⟩ : ∃ z, z = up ρ52 (k + 5) j50 (nI k48_2) := ⟨_, rfl⟩
    rw [← e55] at hP
    have hI : CI r S0 ρ54 := by rw [e55]; exact CI_up hI (kind_lt (lay2 h).2.2.2.2.2.2.2.1 (by decide)) (SP_link (lay2 h).2.2.2.2.2.2.2.1 hk48_2) ⟨(fun z2 => absurd (Eq.trans (Eq.symm (lay2 h).2.2.2.2.2.2.2.1) z2) (by decide)), (fun z2 => absurd (Eq.trans (Eq.symm (lay2 h).2.2.2.2.2.2.2.1) z2) (by decide))⟩ hS0
    refine lv_aload_n hx hb dX2_removeMember_68 rfl (lv_at hl 0 rfl) ?_
    refine get2 B hP h 9 (by decide) mw_306 rfl dX2_removeMember_69 ?_
    refine lv_iload_n hx hb dX2_removeMember_72 rfl (lv_at hl 1 rfl) ?_
    obtain ⟨j56, lj56, uj56, ej56⟩ := iR_nat (a := 0) (b := 3) fa1
    refine lv_topi (fun z57 ez57 => ?_)
    obtain rfl : z57 = nI j56 := ez57.trans ej56
    refine lv_icmp_ne (tgt := 81) hx hb dX2_removeMember_73 (by decide) (fun c58 => ?_) (fun c58 => ?_)
    · skip
      exact b81_0 ls ρ54 _ _  (lv_sub hl [0, 1] rfl) hP hS hI (iR_w fa1 (by decide) (by decide))
    · skip
      have i59 : iR (ρ54 k 9) (0) (3) := (by rw [c58]; exact (nI_iR (j := j56) (a := 0) (b := 3) (by omega) (by omega) (by omega)))
      refine lv_aload_n hx hb dX2_removeMember_76 rfl (lv_at hl 0 rfl) ?_
      refine lv_iconst (v := (-1)) hx hb dX2_removeMember_77 (by decide) ?_
      refine put2 B hP hS h 10 (by decide) mw_308 rfl rfl rfl (fs2_10 E k _ _) dX2_removeMember_78 (fun H locs hP hS => ?_)
      obtain ⟨ρ60, e61⟩ : ∃ z, z = up ρ54 k 10 (-1) := ⟨_, rfl⟩
      rw [← e61] at hP
      have hI : CI r S0 ρ60 := by rw [e61]; exact CI_up hI (kind_lt h (by decide)) (SP_plain h rfl (by decide)) ⟨(fun _ => ⟨by decide, by decide, by decide⟩), (fun z2 => absurd (Eq.trans (Eq.symm h) z2) (by decide))⟩ hS0
      exact b81_0 ls ρ60 _ _  (lv_sub hl [0, 1] rfl) hP hS hI (iR_w fa1 (by decide) (by decide))
  have b15_0 : ∀ (ls : Array Slot) (ρ : Nat → Nat → Int32) (H : Heap) (locs : List Loc) (d15 : Nat) (k15_2 : Nat) (j15_3 : Nat), lv_has ls 4 [(0, .ref (E.2.1 + k)), (1, .int a1), (2, .ref (E.2.1 + k15_2)), (3, .int (nI j15_3))] → WP E ρ H → va_S (hA E) s.heap H locs → CI r S0 ρ → 5 - j15_3 < d15 → hk k15_2 = 1 → 1 ≤ j15_3 → j15_3 ≤ 4 → iR a1 (0) (3) → iR (ρ k 8) 1 4 → W p l e (rmk 2 80) s m ([.ref (E.2.1 + k), .int a1] : List Value).toArray below meth c H locs 0 0 (MQ below (cV E (fun ρ1 => CI r S0 ρ1)) ([.ref (E.2.1 + k), .int a1] : List Value).toArray s 0 0 (hA E)) (F0 m 15 ls []) := by
    intro ls ρ H locs d15
    induction d15 generalizing ls ρ H locs with
    | zero => intro k15_2 j15_3 hl hP hS hI hd15 hk15_2 lj15_3 uj15_3 fa1 kp0; exact absurd hd15 (Nat.not_lt_zero _)
    | succ d15 ih15 =>
      intro k15_2 j15_3 hl hP hS hI hd15 hk15_2 lj15_3 uj15_3 fa1 kp0
      refine lv_iload_n hx hb dX2_removeMember_15 rfl (lv_at hl 3 rfl) ?_
      refine lv_aload_n hx hb dX2_removeMember_16 rfl (lv_at hl 0 rfl) ?_
      refine get2 B hP h 8 (by decide) mw_303 rfl dX2_removeMember_17 ?_
      obtain ⟨j62, lj62, uj62, ej62⟩ := iR_nat (a := 1) (b := 4) kp0
      refine lv_topi (fun z63 ez63 => ?_)
      obtain rfl : z63 = nI j62 := ez63.trans ej62
      refine lv_icmp_ge (tgt := 48) hx hb dX2_removeMember_20 (by decide) (fun c64 => ?_) (fun c64 => ?_)
      · skip
        have n65 := mt (nx_lt (a := j15_3) (b := j62) (by omega) (by omega)).mpr (show ¬ (nI j15_3 < nI j62) from (Int32.not_lt.mpr c64))
        exact b48_0 ls ρ _ _ k15_2 (lv_sub hl [0, 1, 2] rfl) hP hS hI hk15_2 (iR_w fa1 (by decide) (by decide)) (show iR (ρ k 8) 1 4 from by rw [show (ρ k 8) = (nI j62) from ej62]; exact iR_w (nI_iR (j := j62) (a := 1) (b := 4) (by omega) (by omega) (by omega)) (by decide) (by decide))
      · skip
        have n66 := (nx_lt (a := j15_3) (b := j62) (by omega) (by omega)).mp (show (nI j15_3 < nI j62) from (Int32.not_le.mp c64))
        refine lv_iload_n hx hb dX2_removeMember_23 rfl (lv_at hl 3 rfl) ?_
        refine lv_iconst (v := 4) hx hb dX2_removeMember_24 (by decide) ?_
        refine lv_icmp_ge (tgt := 48) hx hb dX2_removeMember_25 (by decide) (fun c67 => absurd c67 (iR_nle (show iR 4 (4) (4) from ⟨by decide, by decide⟩) (nI_iR (j := j15_3) (a := 1) (b := 3) (by omega) (by omega) (by omega)) (by decide))) (fun _ => ?_)
        refine lv_aload_n hx hb dX2_removeMember_28 rfl (lv_at hl 0 rfl) ?_
        refine get2 B hP h 4 (by decide) mw_291 rfl dX2_removeMember_29 ?_
        refine lv_iload_n hx hb dX2_removeMember_32 rfl (lv_at hl 3 rfl) ?_
        refine lv_iconst (v := 1) hx hb dX2_removeMember_33 (by decide) ?_
        refine lv_isub hx hb dX2_removeMember_34 ?_
        obtain ⟨j68, lj68, uj68, ej68⟩ := iR_nat (a := 0) (b := 2) (iR_sub (a' := 0) (b' := 2) (nI_iR (j := j15_3) (a := 1) (b := 3) (by omega) (by omega) (by omega)) (show iR 1 (1) (1) from ⟨by decide, by decide⟩) (by decide) (by decide) (by decide) (by decide))
        refine lv_topi (fun z69 ez69 => ?_)
        obtain rfl : z69 = nI j68 := ez69.trans ej68
        refine lv_aload_n hx hb dX2_removeMember_35 rfl (lv_at hl 0 rfl) ?_
        refine get2 B hP h 4 (by decide) mw_291 rfl dX2_removeMember_36 ?_
        refine lv_iload_n hx hb dX2_removeMember_39 rfl (lv_at hl 3 rfl) ?_
        obtain ⟨k70, ek70, hk70⟩ := CI_link hI (lay2 h).2.2.2.2.2.2.2.1 (show j15_3 < 4 from (by omega))
        refine aldLn B hP (lay2 h).2.2.2.2.2.2.2.1 (lay2 h).2.2.2.2.2.2.2.2.1 rfl (by omega) ek70 hk70 dX2_removeMember_40 ?_
        refine astLn (j := j68) B hP hS (lay2 h).2.2.2.2.2.2.2.1 (lay2 h).2.2.2.2.2.2.2.2.1 hk70 rfl (by omega) dX2_removeMember_41 (fun H locs hP hS => ?_)
        obtain ⟨ρ71, e72⟩ : ∃ z, z = up ρ (k + 5) j68 (nI k70) := ⟨_, rfl⟩
        rw [← e72] at hP
        have hI : CI r S0 ρ71 := by rw [e72]; exact CI_up hI (kind_lt (lay2 h).2.2.2.2.2.2.2.1 (by decide)) (SP_link (lay2 h).2.2.2.2.2.2.2.1 hk70) ⟨(fun z2 => absurd (Eq.trans (Eq.symm (lay2 h).2.2.2.2.2.2.2.1) z2) (by decide)), (fun z2 => absurd (Eq.trans (Eq.symm (lay2 h).2.2.2.2.2.2.2.1) z2) (by decide))⟩ hS0
        refine lv_iinc (v := (nI (1 + j15_3))) (lv' := [(3, .int (nI (1 + j15_3))), (0, .ref (E.2.1 + k)), (1, .int a1), (2, .ref (E.2.1 + k15_2))]) hx hb dX2_removeMember_42 hl (k := 3) rfl (show nI j15_3 + nI 1 = _ from (nI_add _ _).trans (congrArg nI (by omega))) (by decide) rfl (fun ls hl => ?_)
        refine lv_goto (tgt := 15) hx hb dX2_removeMember_45 (by decide) ?_
        exact ih15 ls ρ71 _ _ k15_2 (1 + j15_3) (lv_sub hl [1, 2, 3, 0] rfl) hP hS hI (by omega) hk15_2 (by omega) (by omega) (iR_w fa1 (by decide) (by decide)) (show iR (ρ71 k 8) 1 4 from by rw [show (ρ71 k 8) = (nI j62) from (by rw [e72]; exact up_get_ne (Or.inl (fun z => absurd (Eq.trans (Eq.symm h) (Eq.trans (congrArg hk z) (lay2 h).2.2.2.2.2.2.2.1)) (by decide))) ej62)]; exact iR_w (nI_iR (j := j62) (a := 2) (b := 4) (by omega) (by omega) (by omega)) (by decide) (by decide))
  refine lv_aload_n hx hb dX2_removeMember_0 rfl (lv_at hl 0 rfl) ?_
  refine lv_iload_n hx hb dX2_removeMember_1 rfl (lv_at hl 1 rfl) ?_
  refine call_q (cVt (k := k) (av := [.int a1]) (rest := []) B hP hS (d_X2_linkAt l E ρ r S0 hS0 k h a1 hI) lk_RX2_103 (hrecv (ci := 2) B hP (hk_lt (c := 2) h (by decide)) (hcc2 _ _ h) rfl) rfl rfl hl.1 (Nat.le_of_ble_eq_true rfl) ⟨Nat.le_of_ble_eq_true rfl, Nat.le_of_ble_eq_true rfl⟩ ⟨Nat.le_of_ble_eq_true rfl, Nat.le_of_ble_eq_true rfl⟩ dX2_removeMember_2) hS (fun r73 ρ74 H locs q75 hP hS => ?_)
  obtain ⟨rfl, hI, q75⟩ := q75
  rcases q75 with rfl | ⟨j76, k77, rfl, hk77, ej76, uj76, gj76⟩
  · skip
    refine W.eq (g2 := F0 m 5 ls [.null]) rfl ?_
    refine lv_astore_nN (lv' := [(2, .null), (0, .ref (E.2.1 + k)), (1, .int a1)]) hx hb dX2_removeMember_5 rfl hl (by decide) rfl (fun ls hl => ?_)
    refine lv_aload_nN hx hb dX2_removeMember_6 rfl (lv_at hl 0 rfl) ?_
    refine lv_ifnonnullN hx hb dX2_removeMember_7 ?_
    exact ret_v B hr hlk hP hS dX2_removeMember_10 (hI)
  · skip
    refine W.eq (g2 := F0 m 5 ls [.ref (E.2.1 + k77)]) rfl ?_
    have i78 : iR (ρ k 8) 1 4 := iR_w gj76 (by omega) (by omega)
    refine lv_astore_n (lv' := [(2, .ref (E.2.1 + k77)), (0, .ref (E.2.1 + k)), (1, .int a1)]) hx hb dX2_removeMember_5 rfl hl (by decide) rfl (fun ls hl => ?_)
    refine lv_aload_n hx hb dX2_removeMember_6 rfl (lv_at hl 0 rfl) ?_
    refine lv_ifnonnull (tgt := 11) hx hb dX2_removeMember_7 (by decide) ?_
    refine lv_iload_n hx hb dX2_removeMember_11 rfl (lv_at hl 2 rfl) ?_
    refine lv_topi (fun z79 ez79 => ?_)
    obtain rfl : z79 = nI j76 := ez79.trans ej76
    refine lv_iconst (v := 1) hx hb dX2_removeMember_12 (by decide) ?_
    refine lv_iadd hx hb dX2_removeMember_13 ?_
    refine lv_topi (fun z80 ez80 => ?_)
    obtain rfl : z80 = (nI (1 + j76)) := ez80.trans (by rw [show (nI j76) = nI j76 from rfl, show 1 = nI 1 from rfl, nI_add] <;> exact congrArg nI (by omega))
    refine lv_istore_n (lv' := [(3, .int (nI (1 + j76))), (2, .ref (E.2.1 + k77)), (0, .ref (E.2.1 + k)), (1, .int a1)]) hx hb dX2_removeMember_14 rfl hl (by decide) rfl (fun ls hl => ?_)
    exact b15_0 ls ρ _ _ _ k77 (1 + j76) (lv_sub hl [2, 3, 1, 0] rfl) hP hS hI (Nat.lt_succ_self _) hk77 (by omega) (by omega) (iR_w (show iR a1 0 3 from by rw [ej76]; exact nI_iR (by omega) (by omega) (by omega)) (by decide) (by decide)) (iR_w i78 (by decide) (by decide))

theorem lk_RX2_107 : LkV RX2 107 RX3 yX3_expect cX3_expect 3 none 2 := ⟨⟨mw_629, mw_630, mw_631, mw_55, mw_632⟩, by decide +kernel⟩
set_option maxHeartbeats 4000000 in
set_option maxRecDepth 100000 in
theorem d_X2_tellMap (l : Launch) (E : hE) (ρ r : Nat → Nat → Int32) (S : Nat × Nat → Prop) (hSS : SK S) (k : Nat) (h : hk k = 2) (a1 : Int32) (a2 : Int32) (hI : CI r S ρ) : Met l yX2_tellMap (.code yX2_tellMap cX2_tellMap 4 none :: gw_all) (rmk 2 80) (cPre E ρ [.ref (E.2.1 + k), .int a1, .int a2]) (cV E (fun ρ1 => CI r S ρ1)) 0 0 (hA E) := by
  refine ent (own := RX2) (by decide) rfl (Nat.le_of_ble_eq_true rfl) ?_
  intro p e s m below meth c ls B hr hlk hl hP hS
  have hx := B.1.1
  have hb := B.1.2.1
  have hown := B.1.2.2.2.1
  have hts := B.1.2.2.2.2
  have hl : lv_has ls 4 [(0, .ref (E.2.1 + k)), (1, .int a1), (2, .int a2)] := hl
  have b11_0 : ∀ (ls : Array Slot) (ρ : Nat → Nat → Int32) (H : Heap) (locs : List Loc) (d11 : Nat) (j11_3 : Nat), lv_has ls 4 [(0, .ref (E.2.1 + k)), (3, .int (nI j11_3))] → WP E ρ H → va_S (hA E) s.heap H locs → CI r S ρ → 5 - j11_3 < d11 → 0 ≤ j11_3 → j11_3 ≤ 4 → W p l e (rmk 2 80) s m ([.ref (E.2.1 + k), .int a1, .int a2] : List Value).toArray below meth c H locs 0 0 (MQ below (cV E (fun ρ1 => CI r S ρ1)) ([.ref (E.2.1 + k), .int a1, .int a2] : List Value).toArray s 0 0 (hA E)) (F0 m 11 ls []) := by
    intro ls ρ H locs d11
    induction d11 generalizing ls ρ H locs with
    | zero => intro j11_3 hl hP hS hI hd11 lj11_3 uj11_3; exact absurd hd11 (Nat.not_lt_zero _)
    | succ d11 ih11 =>
      intro j11_3 hl hP hS hI hd11 lj11_3 uj11_3
      refine lv_iload_n hx hb dX2_tellMap_11 rfl (lv_at hl 1 rfl) ?_
      refine lv_aload_n hx hb dX2_tellMap_12 rfl (lv_at hl 0 rfl) ?_
      refine get2 B hP h 8 (by decide) mw_303 rfl dX2_tellMap_13 ?_
      have i55 : iR (ρ k 8) 0 4 := CI_get hI (kind_lt h (by decide)) h rfl
      obtain ⟨j56, lj56, uj56, ej56⟩ := iR_nat (a := 0) (b := 4) i55
      refine lv_topi (fun z57 ez57 => ?_)
      obtain rfl : z57 = nI j56 := ez57.trans ej56
      refine lv_icmp_ge (tgt := 40) hx hb dX2_tellMap_16 (by decide) (fun c58 => ?_) (fun c58 => ?_)
      · skip
        have n59 := mt (nx_lt (a := j11_3) (b := j56) (by omega) (by omega)).mpr (show ¬ (nI j11_3 < nI j56) from (Int32.not_lt.mpr c58))
        exact ret_v B hr hlk hP hS dX2_tellMap_40 (hI)
      · skip
        have n60 := (nx_lt (a := j11_3) (b := j56) (by omega) (by omega)).mp (show (nI j11_3 < nI j56) from (Int32.not_le.mp c58))
        refine lv_iload_n hx hb dX2_tellMap_19 rfl (lv_at hl 1 rfl) ?_
        refine lv_iconst (v := 4) hx hb dX2_tellMap_20 (by decide) ?_
        refine lv_icmp_ge (tgt := 40) hx hb dX2_tellMap_21 (by decide) (fun c61 => absurd c61 (iR_nle (show iR 4 (4) (4) from ⟨by decide, by decide⟩) (nI_iR (j := j11_3) (a := 0) (b := 3) (by omega) (by omega) (by omega)) (by decide))) (fun _ => ?_)
        refine lv_aload_n hx hb dX2_tellMap_24 rfl (lv_at hl 0 rfl) ?_
        refine get2 B hP h 4 (by decide) mw_291 rfl dX2_tellMap_25 ?_
        refine lv_iload_n hx hb dX2_tellMap_28 rfl (lv_at hl 1 rfl) ?_
        obtain ⟨k62, ek62, hk62⟩ := CI_link hI (lay2 h).2.2.2.2.2.2.2.1 (show j11_3 < 4 from (by omega))
        refine aldLn B hP (lay2 h).2.2.2.2.2.2.2.1 (lay2 h).2.2.2.2.2.2.2.2.1 rfl (by omega) ek62 hk62 dX2_tellMap_29 ?_
        refine lv_iconst (v := 0) hx hb dX2_tellMap_30 (by decide) ?_
        refine put1 B hP hS hk62 5 (by decide) mw_212 rfl rfl rfl (fs1_5 E k62 _ _) dX2_tellMap_31 (fun H locs hP hS => ?_)
        obtain ⟨ρ63, e64⟩ : ∃ z, z = up ρ k62 5 0 := ⟨_, rfl⟩
        rw [← e64] at hP
        have hI : CI r S ρ63 := by rw [e64]; exact CI_up hI (kind_lt hk62 (by decide)) (SP_rng hk62 rfl (by decide) (iR_w (a := 0) (b := 0) (show iR 0 (0) (0) from ⟨by decide, by decide⟩) (by decide) (by decide))) ⟨(fun z2 => absurd (Eq.trans (Eq.symm hk62) z2) (by decide)), (fun z2 => absurd (Eq.trans (Eq.symm hk62) z2) (by decide))⟩ hSS
        refine lv_iinc (v := (nI (1 + j11_3))) (lv' := [(3, .int (nI (1 + j11_3))), (0, .ref (E.2.1 + k))]) hx hb dX2_tellMap_34 hl (k := 1) rfl (show nI j11_3 + nI 1 = _ from (nI_add _ _).trans (congrArg nI (by omega))) (by decide) rfl (fun ls hl => ?_)
        refine lv_goto (tgt := 11) hx hb dX2_tellMap_37 (by decide) ?_
        exact ih11 ls ρ63 _ _ (1 + j11_3) (lv_sub hl [1, 0] rfl) hP hS hI (by omega) (by omega) (by omega)
  refine lv_aload_n hx hb dX2_tellMap_0 rfl (lv_at hl 0 rfl) ?_
  refine get2 B hP h 0 (by decide) mw_282 rfl dX2_tellMap_1 ?_
  refine lv_iload_n hx hb dX2_tellMap_4 rfl (lv_at hl 1 rfl) ?_
  refine lv_iload_n hx hb dX2_tellMap_5 rfl (lv_at hl 2 rfl) ?_
  refine call_v (cVt (k := (k + 1)) (av := [.int a1, .int a2]) (rest := []) B hP hS (d_X3_expect l E ρ r S hSS (k + 1) (lay2 h).1 a1 a2 hI) lk_RX2_107 (hrecv (ci := 3) B hP (hk_lt (c := 3) (lay2 h).1 (by decide)) (hcc3 _ _ (lay2 h).1) rfl) rfl rfl hl.1 (Nat.le_of_ble_eq_true rfl) ⟨Nat.le_of_ble_eq_true rfl, Nat.le_of_ble_eq_true rfl⟩ ⟨Nat.le_of_ble_eq_true rfl, Nat.le_of_ble_eq_true rfl⟩ dX2_tellMap_6) hS (fun ρ66 H locs q67 hP hS => ?_)
  have hI := q67
  refine lv_iconst (v := 0) hx hb dX2_tellMap_9 (by decide) ?_
  refine lv_istore_n (lv' := [(3, .int 0), (0, .ref (E.2.1 + k)), (1, .int a1), (2, .int a2)]) hx hb dX2_tellMap_10 rfl hl (by decide) rfl (fun ls hl => ?_)
  exact b11_0 ls ρ66 _ _ _ 0 (lv_sub hl [1, 0] rfl) hP hS hI (Nat.lt_succ_self _) (by omega) (by omega)

set_option maxHeartbeats 4000000 in
set_option maxRecDepth 100000 in
theorem d_X2_badChannels (l : Launch) (E : hE) (ρ r : Nat → Nat → Int32) (S : Nat × Nat → Prop) (hSS : SK S) (k : Nat) (h : hk k = 2) (a1 : Int32) (hI : CI r S ρ) : Met l yX2_badChannels (.code yX2_badChannels cX2_badChannels 5 (some .int) :: gw_all) (rmk 1 40) (cPre E ρ [.ref (E.2.1 + k), .int a1]) (cI E (fun v ρ1 => ρ = ρ1 ∧ CI r S ρ1)) 0 0 (hA E) := by
  refine ent (own := RX2) (by decide) rfl (Nat.le_of_ble_eq_true rfl) ?_
  intro p e s m below meth c ls B hr hlk hl hP hS
  have hx := B.1.1
  have hb := B.1.2.1
  have hown := B.1.2.2.2.1
  have hts := B.1.2.2.2.2
  have hl : lv_has ls 5 [(0, .ref (E.2.1 + k)), (1, .int a1)] := hl
  have b4_0 : ∀ (ls : Array Slot) (H : Heap) (locs : List Loc) (d4 : Nat) (x4_2 : Int32) (j4_3 : Nat), lv_has ls 5 [(0, .ref (E.2.1 + k)), (1, .int a1), (2, .int x4_2), (3, .int (nI j4_3))] → WP E ρ H → va_S (hA E) s.heap H locs → 24 - j4_3 < d4 → iR x4_2 (-2147483648) (2147483647) → 0 ≤ j4_3 → j4_3 ≤ 23 → W p l e (rmk 1 40) s m ([.ref (E.2.1 + k), .int a1] : List Value).toArray below meth c H locs 0 0 (MQ below (cI E (fun v ρ1 => ρ = ρ1 ∧ CI r S ρ1)) ([.ref (E.2.1 + k), .int a1] : List Value).toArray s 0 0 (hA E)) (F0 m 4 ls []) := by
    intro ls H locs d4
    induction d4 generalizing ls H locs with
    | zero => intro x4_2 j4_3 hl hP hS hd4 hx4_2 lj4_3 uj4_3; exact absurd hd4 (Nat.not_lt_zero _)
    | succ d4 ih4 =>
      intro x4_2 j4_3 hl hP hS hd4 hx4_2 lj4_3 uj4_3
      have b70_0 : ∀ (ls : Array Slot) (H : Heap) (locs : List Loc) (x70_2 : Int32), lv_has ls 5 [(0, .ref (E.2.1 + k)), (1, .int a1), (2, .int x70_2), (3, .int (nI j4_3))] → WP E ρ H → va_S (hA E) s.heap H locs → iR x70_2 (-2147483648) (2147483647) → 0 ≤ j4_3 → j4_3 ≤ 22 → W p l e (rmk 1 40) s m ([.ref (E.2.1 + k), .int a1] : List Value).toArray below meth c H locs 0 0 (MQ below (cI E (fun v ρ1 => ρ = ρ1 ∧ CI r S ρ1)) ([.ref (E.2.1 + k), .int a1] : List Value).toArray s 0 0 (hA E)) (F0 m 70 ls []) := by
        intro ls H locs x70_2 hl hP hS hx70_2 tlj4_3 tuj4_3
        refine lv_iinc (v := (nI (1 + j4_3))) (lv' := [(3, .int (nI (1 + j4_3))), (0, .ref (E.2.1 + k)), (1, .int a1), (2, .int x70_2)]) hx hb dX2_badChannels_70 hl (k := 3) rfl (show nI j4_3 + nI 1 = _ from (nI_add _ _).trans (congrArg nI (by omega))) (by decide) rfl (fun ls hl => ?_)
        refine lv_goto (tgt := 4) hx hb dX2_badChannels_73 (by decide) ?_
        exact ih4 ls _ _ (x70_2 : Int32) (1 + j4_3) (lv_sub hl [1, 2, 3, 0] rfl) hP hS (by omega) (iR_w hx70_2 (by decide) (by decide)) (by omega) (by omega)
      have b30_0 : ∀ (ls : Array Slot) (H : Heap) (locs : List Loc) , lv_has ls 5 [(0, .ref (E.2.1 + k)), (1, .int a1), (2, .int x4_2), (3, .int (nI j4_3))] → WP E ρ H → va_S (hA E) s.heap H locs → 0 ≤ j4_3 → j4_3 ≤ 22 → W p l e (rmk 1 40) s m ([.ref (E.2.1 + k), .int a1] : List Value).toArray below meth c H locs 0 0 (MQ below (cI E (fun v ρ1 => ρ = ρ1 ∧ CI r S ρ1)) ([.ref (E.2.1 + k), .int a1] : List Value).toArray s 0 0 (hA E)) (F0 m 30 ls [.int 0]) := by
        intro ls H locs  hl hP hS tlj4_3 tuj4_3
        refine lv_istore (lv' := [(4, .int 0), (0, .ref (E.2.1 + k)), (1, .int a1), (2, .int x4_2), (3, .int (nI j4_3))]) hx hb dX2_badChannels_30 hl (by decide) rfl (fun ls hl => ?_)
        refine lv_iload hx hb dX2_badChannels_32 (lv_at hl 0 rfl) ?_
        refine lv_if_eq (tgt := 70) hx hb dX2_badChannels_34 (by decide) (fun _ => ?_) (fun c68 => absurd rfl c68)
        exact b70_0 ls _ _ (x4_2 : Int32) (lv_sub hl [1, 2, 3, 4] rfl) hP hS (iR_w hx4_2 (by decide) (by decide)) (by omega) (by omega)
      have b30_1 : ∀ (ls : Array Slot) (H : Heap) (locs : List Loc) , lv_has ls 5 [(0, .ref (E.2.1 + k)), (1, .int a1), (2, .int x4_2), (3, .int (nI j4_3))] → WP E ρ H → va_S (hA E) s.heap H locs → 0 ≤ j4_3 → j4_3 ≤ 22 → W p l e (rmk 1 40) s m ([.ref (E.2.1 + k), .int a1] : List Value).toArray below meth c H locs 0 0 (MQ below (cI E (fun v ρ1 => ρ = ρ1 ∧ CI r S ρ1)) ([.ref (E.2.1 + k), .int a1] : List Value).toArray s 0 0 (hA E)) (F0 m 30 ls [.int 1]) := by
        intro ls H locs  hl hP hS tlj4_3 tuj4_3
        refine lv_istore (lv' := [(4, .int 1), (0, .ref (E.2.1 + k)), (1, .int a1), (2, .int x4_2), (3, .int (nI j4_3))]) hx hb dX2_badChannels_30 hl (by decide) rfl (fun ls hl => ?_)
        refine lv_iload hx hb dX2_badChannels_32 (lv_at hl 0 rfl) ?_
        refine lv_if_eq (tgt := 70) hx hb dX2_badChannels_34 (by decide) (fun c69 => absurd c69 (iR_ne (show iR 1 (1) (1) from ⟨by decide, by decide⟩) (show iR 0 (0) (0) from ⟨by decide, by decide⟩) (by decide))) (fun _ => ?_)
        refine lv_aload_n hx hb dX2_badChannels_37 rfl (lv_at hl 1 rfl) ?_
        refine get2 B hP h 2 (by decide) mw_287 rfl dX2_badChannels_38 ?_
        refine lv_iload_n hx hb dX2_badChannels_41 rfl (lv_at hl 4 rfl) ?_
        refine aldn (n := 23) (j := j4_3) B hP (lay2 h).2.2.2.1 (lay2 h).2.2.2.2.1 rfl (by omega) (by decide) dX2_badChannels_42 ?_
        refine lv_iload_n hx hb dX2_badChannels_43 rfl (lv_at hl 2 rfl) ?_
        refine lv_icmp_lt (tgt := 70) hx hb dX2_badChannels_44 (by decide) (fun c70 => ?_) (fun c70 => ?_)
        · skip
          exact b70_0 ls _ _ (x4_2 : Int32) (lv_sub hl [1, 2, 3, 4] rfl) hP hS (iR_w hx4_2 (by decide) (by decide)) (by omega) (by omega)
        · skip
          refine lv_iconst (v := 2) hx hb dX2_badChannels_47 (by decide) ?_
          refine lv_aload_n hx hb dX2_badChannels_48 rfl (lv_at hl 1 rfl) ?_
          refine get2 B hP h 3 (by decide) mw_289 rfl dX2_badChannels_49 ?_
          refine lv_iload_n hx hb dX2_badChannels_52 rfl (lv_at hl 4 rfl) ?_
          refine aldn (n := 23) (j := j4_3) B hP (lay2 h).2.2.2.2.2.1 (lay2 h).2.2.2.2.2.2.1 rfl (by omega) (by decide) dX2_badChannels_53 ?_
          refine lv_imul hx hb dX2_badChannels_54 ?_
          refine lv_aload_n hx hb dX2_badChannels_55 rfl (lv_at hl 1 rfl) ?_
          refine get2 B hP h 2 (by decide) mw_287 rfl dX2_badChannels_56 ?_
          refine lv_iload_n hx hb dX2_badChannels_59 rfl (lv_at hl 4 rfl) ?_
          refine aldn (n := 23) (j := j4_3) B hP (lay2 h).2.2.2.1 (lay2 h).2.2.2.2.1 rfl (by omega) (by decide) dX2_badChannels_60 ?_
          refine lv_icmp_ge (tgt := 70) hx hb dX2_badChannels_61 (by decide) (fun c71 => ?_) (fun c71 => ?_)
          · skip
            exact b70_0 ls _ _ (x4_2 : Int32) (lv_sub hl [1, 2, 3, 4] rfl) hP hS (iR_w hx4_2 (by decide) (by decide)) (by omega) (by omega)
          · skip
            refine lv_iload_n hx hb dX2_badChannels_64 rfl (lv_at hl 3 rfl) ?_
            refine lv_iconst (v := 1) hx hb dX2_badChannels_65 (by decide) ?_
            refine lv_iload_n hx hb dX2_badChannels_66 rfl (lv_at hl 4 rfl) ?_
            refine lv_ishl hx hb dX2_badChannels_67 ?_
            refine lv_ior hx hb dX2_badChannels_68 ?_
            refine lv_istore_n (lv' := [(2, .int (x4_2 ||| (1 <<< (((nI j4_3) : Int32) &&& 31)))), (4, .int 1), (0, .ref (E.2.1 + k)), (1, .int a1), (3, .int (nI j4_3))]) hx hb dX2_badChannels_69 rfl hl (by decide) rfl (fun ls hl => ?_)
            exact b70_0 ls _ _ ((x4_2 ||| (1 <<< (((nI j4_3) : Int32) &&& 31))) : Int32) (lv_sub hl [2, 3, 0, 4] rfl) hP hS (iR_w (iR_any (x4_2 ||| (1 <<< (((nI j4_3) : Int32) &&& 31)))) (by decide) (by decide)) (by omega) (by omega)
      refine lv_iload_n hx hb dX2_badChannels_4 rfl (lv_at hl 3 rfl) ?_
      refine lv_bipush (v := 23) hx hb dX2_badChannels_5 (by decide) ?_
      refine lv_icmp_ge (tgt := 76) hx hb dX2_badChannels_7 (by decide) (fun c72 => ?_) (fun c72 => ?_)
      · skip
        have n73 := mt (nx_lt (a := j4_3) (b := 23) (by omega) (by omega)).mpr (show ¬ (nI j4_3 < nI 23) from (Int32.not_lt.mpr c72))
        refine lv_iload_n hx hb dX2_badChannels_76 rfl (lv_at hl 2 rfl) ?_
        exact ret_i B hr hlk hP hS dX2_badChannels_77 (⟨rfl, hI⟩)
      · skip
        have n74 := (nx_lt (a := j4_3) (b := 23) (by omega) (by omega)).mp (show (nI j4_3 < nI 23) from (Int32.not_le.mp c72))
        refine lv_aload_n hx hb dX2_badChannels_10 rfl (lv_at hl 0 rfl) ?_
        refine get2 B hP h 0 (by decide) mw_282 rfl dX2_badChannels_11 ?_
        refine get3 B hP (lay2 h).1 0 (by decide) mw_93 rfl dX2_badChannels_14 ?_
        refine lv_iload_n hx hb dX2_badChannels_17 rfl (lv_at hl 3 rfl) ?_
        refine lv_ishr hx hb dX2_badChannels_18 ?_
        refine lv_iconst (v := 1) hx hb dX2_badChannels_19 (by decide) ?_
        refine lv_iand hx hb dX2_badChannels_20 ?_
        refine lv_iconst (v := 1) hx hb dX2_badChannels_21 (by decide) ?_
        refine lv_icmp_ne (tgt := 29) hx hb dX2_badChannels_22 (by decide) (fun c75 => ?_) (fun c75 => ?_)
        · skip
          refine lv_iconst (v := 0) hx hb dX2_badChannels_29 (by decide) ?_
          exact b30_0 ls _ _  (lv_sub hl [0, 1, 2, 3] rfl) hP hS (by omega) (by omega)
        · skip
          have i76 : iR (((ρ (k + 1) 0) >>> (((nI j4_3) : Int32) &&& 31)) &&& 1) (1) (1) := (by rw [c75]; exact ⟨by decide, by decide⟩)
          refine lv_iconst (v := 1) hx hb dX2_badChannels_25 (by decide) ?_
          refine lv_goto (tgt := 30) hx hb dX2_badChannels_26 (by decide) ?_
          exact b30_1 ls _ _  (lv_sub hl [0, 1, 2, 3] rfl) hP hS (by omega) (by omega)
  refine lv_iconst (v := 0) hx hb dX2_badChannels_0 (by decide) ?_
  refine lv_istore_n (lv' := [(2, .int 0), (0, .ref (E.2.1 + k)), (1, .int a1)]) hx hb dX2_badChannels_1 rfl hl (by decide) rfl (fun ls hl => ?_)
  refine lv_iconst (v := 0) hx hb dX2_badChannels_2 (by decide) ?_
  refine lv_istore_n (lv' := [(3, .int 0), (2, .int 0), (0, .ref (E.2.1 + k)), (1, .int a1)]) hx hb dX2_badChannels_3 rfl hl (by decide) rfl (fun ls hl => ?_)
  exact b4_0 ls _ _ _ (0 : Int32) 0 (lv_sub hl [2, 3, 1, 0] rfl) hP hS (Nat.lt_succ_self _) (iR_w (show iR 0 (0) (0) from ⟨by decide, by decide⟩) (by decide) (by decide)) (by omega) (by omega)

set_option maxHeartbeats 4000000 in
set_option maxRecDepth 100000 in
theorem d_X2_mostAnswered (l : Launch) (E : hE) (ρ r : Nat → Nat → Int32) (S : Nat × Nat → Prop) (hSS : SK S) (k : Nat) (h : hk k = 2) (hI : CI r S ρ) : Met l yX2_mostAnswered (.code yX2_mostAnswered cX2_mostAnswered 6 (some .int) :: gw_all) (rmk 1 40) (cPre E ρ [.ref (E.2.1 + k)]) (cI E (fun v ρ1 => ρ = ρ1 ∧ CI r S ρ1)) 0 0 (hA E) := by
  refine ent (own := RX2) (by decide) rfl (Nat.le_of_ble_eq_true rfl) ?_
  intro p e s m below meth c ls B hr hlk hl hP hS
  have hx := B.1.1
  have hb := B.1.2.1
  have hown := B.1.2.2.2.1
  have hts := B.1.2.2.2.2
  have hl : lv_has ls 6 [(0, .ref (E.2.1 + k))] := hl
  have b4_0 : ∀ (ls : Array Slot) (H : Heap) (locs : List Loc) (d4 : Nat) (x4_1 : Int32) (j4_2 : Nat), lv_has ls 6 [(0, .ref (E.2.1 + k)), (1, .int x4_1), (2, .int (nI j4_2))] → WP E ρ H → va_S (hA E) s.heap H locs → 9 - j4_2 < d4 → iR x4_1 (-2147483648) (2147483647) → 0 ≤ j4_2 → j4_2 ≤ 8 → W p l e (rmk 1 40) s m ([.ref (E.2.1 + k)] : List Value).toArray below meth c H locs 0 0 (MQ below (cI E (fun v ρ1 => ρ = ρ1 ∧ CI r S ρ1)) ([.ref (E.2.1 + k)] : List Value).toArray s 0 0 (hA E)) (F0 m 4 ls []) := by
    intro ls H locs d4
    induction d4 generalizing ls H locs with
    | zero => intro x4_1 j4_2 hl hP hS hd4 hx4_1 lj4_2 uj4_2; exact absurd hd4 (Nat.not_lt_zero _)
    | succ d4 ih4 =>
      intro x4_1 j4_2 hl hP hS hd4 hx4_1 lj4_2 uj4_2
      have b95_0 : ∀ (ls : Array Slot) (H : Heap) (locs : List Loc) (x95_1 : Int32), lv_has ls 6 [(0, .ref (E.2.1 + k)), (1, .int x95_1), (2, .int (nI j4_2))] → WP E ρ H → va_S (hA E) s.heap H locs → iR x95_1 (-2147483648) (2147483647) → 0 ≤ j4_2 → j4_2 ≤ 7 → W p l e (rmk 1 40) s m ([.ref (E.2.1 + k)] : List Value).toArray below meth c H locs 0 0 (MQ below (cI E (fun v ρ1 => ρ = ρ1 ∧ CI r S ρ1)) ([.ref (E.2.1 + k)] : List Value).toArray s 0 0 (hA E)) (F0 m 95 ls []) := by
        intro ls H locs x95_1 hl hP hS hx95_1 tlj4_2 tuj4_2
        refine lv_iinc (v := (nI (1 + j4_2))) (lv' := [(2, .int (nI (1 + j4_2))), (0, .ref (E.2.1 + k)), (1, .int x95_1)]) hx hb dX2_mostAnswered_95 hl (k := 2) rfl (show nI j4_2 + nI 1 = _ from (nI_add _ _).trans (congrArg nI (by omega))) (by decide) rfl (fun ls hl => ?_)
        refine lv_goto (tgt := 4) hx hb dX2_mostAnswered_98 (by decide) ?_
        exact ih4 ls _ _ (x95_1 : Int32) (1 + j4_2) (lv_sub hl [1, 2, 0] rfl) hP hS (by omega) (iR_w hx95_1 (by decide) (by decide)) (by omega) (by omega)
      have b15_0 : ∀ (ls : Array Slot) (H : Heap) (locs : List Loc) (d15 : Nat) (x15_3 : Int32) (j15_4 : Nat), lv_has ls 6 [(0, .ref (E.2.1 + k)), (1, .int x4_1), (2, .int (nI j4_2)), (3, .int x15_3), (4, .int (nI j15_4))] → WP E ρ H → va_S (hA E) s.heap H locs → 24 - j15_4 < d15 → iR x15_3 (-1) (22) → 0 ≤ j15_4 → j15_4 ≤ 23 → 0 ≤ j4_2 → j4_2 ≤ 7 → W p l e (rmk 1 40) s m ([.ref (E.2.1 + k)] : List Value).toArray below meth c H locs 0 0 (MQ below (cI E (fun v ρ1 => ρ = ρ1 ∧ CI r S ρ1)) ([.ref (E.2.1 + k)] : List Value).toArray s 0 0 (hA E)) (F0 m 15 ls []) := by
        intro ls H locs d15
        induction d15 generalizing ls H locs with
        | zero => intro x15_3 j15_4 hl hP hS hd15 hx15_3 lj15_4 uj15_4 tlj4_2 tuj4_2; exact absurd hd15 (Nat.not_lt_zero _)
        | succ d15 ih15 =>
          intro x15_3 j15_4 hl hP hS hd15 hx15_3 lj15_4 uj15_4 tlj4_2 tuj4_2
          have b78_0 : ∀ (ls : Array Slot) (H : Heap) (locs : List Loc) (x78_3 : Int32), lv_has ls 6 [(0, .ref (E.2.1 + k)), (1, .int x4_1), (2, .int (nI j4_2)), (3, .int x78_3), (4, .int (nI j15_4))] → WP E ρ H → va_S (hA E) s.heap H locs → iR x78_3 (-1) (22) → 0 ≤ j15_4 → j15_4 ≤ 22 → 0 ≤ j4_2 → j4_2 ≤ 7 → W p l e (rmk 1 40) s m ([.ref (E.2.1 + k)] : List Value).toArray below meth c H locs 0 0 (MQ below (cI E (fun v ρ1 => ρ = ρ1 ∧ CI r S ρ1)) ([.ref (E.2.1 + k)] : List Value).toArray s 0 0 (hA E)) (F0 m 78 ls []) := by
            intro ls H locs x78_3 hl hP hS hx78_3 tlj15_4 tuj15_4 tlj4_2 tuj4_2
            refine lv_iinc (v := (nI (1 + j15_4))) (lv' := [(4, .int (nI (1 + j15_4))), (0, .ref (E.2.1 + k)), (1, .int x4_1), (2, .int (nI j4_2)), (3, .int x78_3)]) hx hb dX2_mostAnswered_78 hl (k := 4) rfl (show nI j15_4 + nI 1 = _ from (nI_add _ _).trans (congrArg nI (by omega))) (by decide) rfl (fun ls hl => ?_)
            refine lv_goto (tgt := 15) hx hb dX2_mostAnswered_81 (by decide) ?_
            exact ih15 ls _ _ (x78_3 : Int32) (1 + j15_4) (lv_sub hl [1, 2, 3, 4, 0] rfl) hP hS (by omega) (iR_w hx78_3 (by decide) (by decide)) (by omega) (by omega) (by omega) (by omega)
          have b75_0 : ∀ (ls : Array Slot) (H : Heap) (locs : List Loc) , lv_has ls 6 [(0, .ref (E.2.1 + k)), (1, .int x4_1), (2, .int (nI j4_2)), (4, .int (nI j15_4))] → WP E ρ H → va_S (hA E) s.heap H locs → iR x15_3 (-1) (22) → 0 ≤ j15_4 → j15_4 ≤ 22 → 0 ≤ j4_2 → j4_2 ≤ 7 → W p l e (rmk 1 40) s m ([.ref (E.2.1 + k)] : List Value).toArray below meth c H locs 0 0 (MQ below (cI E (fun v ρ1 => ρ = ρ1 ∧ CI r S ρ1)) ([.ref (E.2.1 + k)] : List Value).toArray s 0 0 (hA E)) (F0 m 75 ls []) := by
            intro ls H locs  hl hP hS fx15_3 tlj15_4 tuj15_4 tlj4_2 tuj4_2
            refine lv_iload hx hb dX2_mostAnswered_75 (lv_at hl 3 rfl) ?_
            refine lv_istore_n (lv' := [(3, .int (nI j15_4)), (0, .ref (E.2.1 + k)), (1, .int x4_1), (2, .int (nI j4_2)), (4, .int (nI j15_4))]) hx hb dX2_mostAnswered_77 rfl hl (by decide) rfl (fun ls hl => ?_)
            exact b78_0 ls _ _ ((nI j15_4) : Int32) (lv_sub hl [1, 2, 3, 0, 4] rfl) hP hS (iR_w (nI_iR (j := j15_4) (a := 0) (b := 22) (by omega) (by omega) (by omega)) (by decide) (by decide)) (by omega) (by omega) (by omega) (by omega)
          have b47_0 : ∀ (ls : Array Slot) (H : Heap) (locs : List Loc) , lv_has ls 6 [(0, .ref (E.2.1 + k)), (1, .int x4_1), (2, .int (nI j4_2)), (3, .int x15_3), (4, .int (nI j15_4))] → WP E ρ H → va_S (hA E) s.heap H locs → 0 ≤ j15_4 → j15_4 ≤ 22 → 0 ≤ j4_2 → j4_2 ≤ 7 → W p l e (rmk 1 40) s m ([.ref (E.2.1 + k)] : List Value).toArray below meth c H locs 0 0 (MQ below (cI E (fun v ρ1 => ρ = ρ1 ∧ CI r S ρ1)) ([.ref (E.2.1 + k)] : List Value).toArray s 0 0 (hA E)) (F0 m 47 ls [.int 0]) := by
            intro ls H locs  hl hP hS tlj15_4 tuj15_4 tlj4_2 tuj4_2
            refine lv_istore (lv' := [(5, .int 0), (0, .ref (E.2.1 + k)), (1, .int x4_1), (2, .int (nI j4_2)), (3, .int x15_3), (4, .int (nI j15_4))]) hx hb dX2_mostAnswered_47 hl (by decide) rfl (fun ls hl => ?_)
            refine lv_iload hx hb dX2_mostAnswered_49 (lv_at hl 0 rfl) ?_
            refine lv_if_eq (tgt := 78) hx hb dX2_mostAnswered_51 (by decide) (fun _ => ?_) (fun c543 => absurd rfl c543)
            exact b78_0 ls _ _ (x15_3 : Int32) (lv_sub hl [1, 2, 3, 4, 5] rfl) hP hS (iR_w hx15_3 (by decide) (by decide)) (by omega) (by omega) (by omega) (by omega)
          have b47_1 : ∀ (ls : Array Slot) (H : Heap) (locs : List Loc) , lv_has ls 6 [(0, .ref (E.2.1 + k)), (1, .int x4_1), (2, .int (nI j4_2)), (3, .int x15_3), (4, .int (nI j15_4))] → WP E ρ H → va_S (hA E) s.heap H locs → 0 ≤ j15_4 → j15_4 ≤ 22 → 0 ≤ j4_2 → j4_2 ≤ 7 → W p l e (rmk 1 40) s m ([.ref (E.2.1 + k)] : List Value).toArray below meth c H locs 0 0 (MQ below (cI E (fun v ρ1 => ρ = ρ1 ∧ CI r S ρ1)) ([.ref (E.2.1 + k)] : List Value).toArray s 0 0 (hA E)) (F0 m 47 ls [.int 1]) := by
            intro ls H locs  hl hP hS tlj15_4 tuj15_4 tlj4_2 tuj4_2
            refine lv_istore (lv' := [(5, .int 1), (0, .ref (E.2.1 + k)), (1, .int x4_1), (2, .int (nI j4_2)), (3, .int x15_3), (4, .int (nI j15_4))]) hx hb dX2_mostAnswered_47 hl (by decide) rfl (fun ls hl => ?_)
            refine lv_iload hx hb dX2_mostAnswered_49 (lv_at hl 0 rfl) ?_
            refine lv_if_eq (tgt := 78) hx hb dX2_mostAnswered_51 (by decide) (fun c544 => absurd c544 (iR_ne (show iR 1 (1) (1) from ⟨by decide, by decide⟩) (show iR 0 (0) (0) from ⟨by decide, by decide⟩) (by decide))) (fun _ => ?_)
            refine lv_iload_n hx hb dX2_mostAnswered_54 rfl (lv_at hl 4 rfl) ?_
            refine lv_iconst (v := (-1)) hx hb dX2_mostAnswered_55 (by decide) ?_
            refine lv_icmp_eq (tgt := 75) hx hb dX2_mostAnswered_56 (by decide) (fun c545 => ?_) (fun c545 => ?_)
            · skip
              have i546 : iR x15_3 (-1) (-1) := (by rw [c545]; exact ⟨by decide, by decide⟩)
              exact b75_0 ls _ _  (lv_sub hl [1, 2, 3, 5] rfl) hP hS (iR_w i546 (by decide) (by decide)) (by omega) (by omega) (by omega) (by omega)
            · skip
              have i547 : iR x15_3 (0) (22) := (iR_neL hx15_3 (show iR (-1) (-1) (-1) from ⟨by decide, by decide⟩) c545 (by decide) (by decide))
              refine lv_aload_n hx hb dX2_mostAnswered_59 rfl (lv_at hl 1 rfl) ?_
              refine get2 B hP h 3 (by decide) mw_289 rfl dX2_mostAnswered_60 ?_
              refine lv_iload hx hb dX2_mostAnswered_63 (lv_at hl 5 rfl) ?_
              refine aldn (n := 23) (j := j15_4) B hP (lay2 h).2.2.2.2.2.1 (lay2 h).2.2.2.2.2.2.1 rfl (by omega) (by decide) dX2_mostAnswered_65 ?_
              refine lv_aload_n hx hb dX2_mostAnswered_66 rfl (lv_at hl 1 rfl) ?_
              refine get2 B hP h 3 (by decide) mw_289 rfl dX2_mostAnswered_67 ?_
              refine lv_iload_n hx hb dX2_mostAnswered_70 rfl (lv_at hl 4 rfl) ?_
              obtain ⟨j548, lj548, uj548, ej548⟩ := iR_nat (a := 0) (b := 22) i547
              refine lv_topi (fun z549 ez549 => ?_)
              obtain rfl : z549 = nI j548 := ez549.trans ej548
              refine aldn (n := 23) (j := j548) B hP (lay2 h).2.2.2.2.2.1 (lay2 h).2.2.2.2.2.2.1 rfl (by omega) (by decide) dX2_mostAnswered_71 ?_
              refine lv_icmp_le (tgt := 78) hx hb dX2_mostAnswered_72 (by decide) (fun c550 => ?_) (fun c550 => ?_)
              · skip
                exact b78_0 ls _ _ (x15_3 : Int32) (lv_sub hl [1, 2, 3, 4, 5] rfl) hP hS (iR_w i547 (by decide) (by decide)) (by omega) (by omega) (by omega) (by omega)
              · skip
                exact b75_0 ls _ _  (lv_sub hl [1, 2, 3, 5] rfl) hP hS (iR_w i547 (by decide) (by decide)) (by omega) (by omega) (by omega) (by omega)
          refine lv_iload hx hb dX2_mostAnswered_15 (lv_at hl 4 rfl) ?_
          refine lv_bipush (v := 23) hx hb dX2_mostAnswered_17 (by decide) ?_
          refine lv_icmp_ge (tgt := 84) hx hb dX2_mostAnswered_19 (by decide) (fun c551 => ?_) (fun c551 => ?_)
          · skip
            have n552 := mt (nx_lt (a := j15_4) (b := 23) (by omega) (by omega)).mpr (show ¬ (nI j15_4 < nI 23) from (Int32.not_lt.mpr c551))
            refine lv_iload_n hx hb dX2_mostAnswered_84 rfl (lv_at hl 3 rfl) ?_
            refine lv_iconst (v := (-1)) hx hb dX2_mostAnswered_85 (by decide) ?_
            refine lv_icmp_eq (tgt := 95) hx hb dX2_mostAnswered_86 (by decide) (fun c553 => ?_) (fun c553 => ?_)
            · skip
              have i554 : iR x15_3 (-1) (-1) := (by rw [c553]; exact ⟨by decide, by decide⟩)
              exact b95_0 ls _ _ (x4_1 : Int32) (lv_sub hl [0, 1, 2] rfl) hP hS (iR_w hx4_1 (by decide) (by decide)) (by omega) (by omega)
            · skip
              have i555 : iR x15_3 (0) (22) := (iR_neL hx15_3 (show iR (-1) (-1) (-1) from ⟨by decide, by decide⟩) c553 (by decide) (by decide))
              refine lv_iload_n hx hb dX2_mostAnswered_89 rfl (lv_at hl 1 rfl) ?_
              refine lv_iconst (v := 1) hx hb dX2_mostAnswered_90 (by decide) ?_
              refine lv_iload_n hx hb dX2_mostAnswered_91 rfl (lv_at hl 3 rfl) ?_
              obtain ⟨j556, lj556, uj556, ej556⟩ := iR_nat (a := 0) (b := 22) i555
              refine lv_topi (fun z557 ez557 => ?_)
              obtain rfl : z557 = nI j556 := ez557.trans ej556
              refine lv_ishl hx hb dX2_mostAnswered_92 ?_
              refine lv_ior hx hb dX2_mostAnswered_93 ?_
              refine lv_istore_n (lv' := [(1, .int (x4_1 ||| (1 <<< (((nI j556) : Int32) &&& 31)))), (0, .ref (E.2.1 + k)), (2, .int (nI j4_2)), (3, .int x15_3), (4, .int (nI j15_4))]) hx hb dX2_mostAnswered_94 rfl hl (by decide) rfl (fun ls hl => ?_)
              exact b95_0 ls _ _ ((x4_1 ||| (1 <<< (((nI j556) : Int32) &&& 31))) : Int32) (lv_sub hl [1, 0, 2] rfl) hP hS (iR_w (iR_any (x4_1 ||| (1 <<< (((nI j556) : Int32) &&& 31)))) (by decide) (by decide)) (by omega) (by omega)
          · skip
            have n558 := (nx_lt (a := j15_4) (b := 23) (by omega) (by omega)).mp (show (nI j15_4 < nI 23) from (Int32.not_le.mp c551))
            refine lv_aload_n hx hb dX2_mostAnswered_22 rfl (lv_at hl 0 rfl) ?_
            refine get2 B hP h 0 (by decide) mw_282 rfl dX2_mostAnswered_23 ?_
            refine get3 B hP (lay2 h).1 0 (by decide) mw_93 rfl dX2_mostAnswered_26 ?_
            refine lv_iload_n hx hb dX2_mostAnswered_29 rfl (lv_at hl 1 rfl) ?_
            refine lv_iconst (v := (-1)) hx hb dX2_mostAnswered_30 (by decide) ?_
            refine lv_ixor hx hb dX2_mostAnswered_31 ?_
            refine lv_iand hx hb dX2_mostAnswered_32 ?_
            refine lv_iload hx hb dX2_mostAnswered_33 (lv_at hl 4 rfl) ?_
            refine lv_ishr hx hb dX2_mostAnswered_35 ?_
            refine lv_iconst (v := 1) hx hb dX2_mostAnswered_36 (by decide) ?_
            refine lv_iand hx hb dX2_mostAnswered_37 ?_
            refine lv_iconst (v := 1) hx hb dX2_mostAnswered_38 (by decide) ?_
            refine lv_icmp_ne (tgt := 46) hx hb dX2_mostAnswered_39 (by decide) (fun c559 => ?_) (fun c559 => ?_)
            · skip
              refine lv_iconst (v := 0) hx hb dX2_mostAnswered_46 (by decide) ?_
              exact b47_0 ls _ _  (lv_sub hl [0, 1, 2, 3, 4] rfl) hP hS (by omega) (by omega) (by omega) (by omega)
            · skip
              have i560 : iR ((((ρ (k + 1) 0) &&& (x4_1 ^^^ (-1))) >>> (((nI j15_4) : Int32) &&& 31)) &&& 1) (1) (1) := (by rw [c559]; exact ⟨by decide, by decide⟩)
              refine lv_iconst (v := 1) hx hb dX2_mostAnswered_42 (by decide) ?_
              refine lv_goto (tgt := 47) hx hb dX2_mostAnswered_43 (by decide) ?_
              exact b47_1 ls _ _  (lv_sub hl [0, 1, 2, 3, 4] rfl) hP hS (by omega) (by omega) (by omega) (by omega)
      refine lv_iload_n hx hb dX2_mostAnswered_4 rfl (lv_at hl 2 rfl) ?_
      refine lv_bipush (v := 8) hx hb dX2_mostAnswered_5 (by decide) ?_
      refine lv_icmp_ge (tgt := 101) hx hb dX2_mostAnswered_7 (by decide) (fun c561 => ?_) (fun c561 => ?_)
      · skip
        have n562 := mt (nx_lt (a := j4_2) (b := 8) (by omega) (by omega)).mpr (show ¬ (nI j4_2 < nI 8) from (Int32.not_lt.mpr c561))
        refine lv_iload_n hx hb dX2_mostAnswered_101 rfl (lv_at hl 1 rfl) ?_
        exact ret_i B hr hlk hP hS dX2_mostAnswered_102 (⟨rfl, hI⟩)
      · skip
        have n563 := (nx_lt (a := j4_2) (b := 8) (by omega) (by omega)).mp (show (nI j4_2 < nI 8) from (Int32.not_le.mp c561))
        refine lv_iconst (v := (-1)) hx hb dX2_mostAnswered_10 (by decide) ?_
        refine lv_istore_n (lv' := [(3, .int (-1)), (0, .ref (E.2.1 + k)), (1, .int x4_1), (2, .int (nI j4_2))]) hx hb dX2_mostAnswered_11 rfl hl (by decide) rfl (fun ls hl => ?_)
        refine lv_iconst (v := 0) hx hb dX2_mostAnswered_12 (by decide) ?_
        refine lv_istore (lv' := [(4, .int 0), (3, .int (-1)), (0, .ref (E.2.1 + k)), (1, .int x4_1), (2, .int (nI j4_2))]) hx hb dX2_mostAnswered_13 hl (by decide) rfl (fun ls hl => ?_)
        exact b15_0 ls _ _ _ ((-1) : Int32) 0 (lv_sub hl [2, 3, 4, 1, 0] rfl) hP hS (Nat.lt_succ_self _) (iR_w (show iR (-1) (-1) (-1) from ⟨by decide, by decide⟩) (by decide) (by decide)) (by omega) (by omega) (by omega) (by omega)
  refine lv_iconst (v := 0) hx hb dX2_mostAnswered_0 (by decide) ?_
  refine lv_istore_n (lv' := [(1, .int 0), (0, .ref (E.2.1 + k))]) hx hb dX2_mostAnswered_1 rfl hl (by decide) rfl (fun ls hl => ?_)
  refine lv_iconst (v := 0) hx hb dX2_mostAnswered_2 (by decide) ?_
  refine lv_istore_n (lv' := [(2, .int 0), (1, .int 0), (0, .ref (E.2.1 + k))]) hx hb dX2_mostAnswered_3 rfl hl (by decide) rfl (fun ls hl => ?_)
  exact b4_0 ls _ _ _ (0 : Int32) 0 (lv_sub hl [2, 1, 0] rfl) hP hS (Nat.lt_succ_self _) (iR_w (show iR 0 (0) (0) from ⟨by decide, by decide⟩) (by decide) (by decide)) (by omega) (by omega)

set_option maxHeartbeats 4000000 in
set_option maxRecDepth 100000 in
theorem d_X2_rankOf (l : Launch) (E : hE) (ρ r : Nat → Nat → Int32) (S : Nat × Nat → Prop) (hSS : SK S) (k : Nat) (h : hk k = 2) (na1 : Nat) (lna1 : 0 ≤ na1) (una1 : na1 ≤ 22) (hI : CI r S ρ) : Met l yX2_rankOf (.code yX2_rankOf cX2_rankOf 8 (some .int) :: gw_all) (rmk 1 40) (cPre E ρ [.ref (E.2.1 + k), .int (nI na1)]) (cI E (fun v ρ1 => ρ = ρ1 ∧ CI r S ρ1)) 0 0 (hA E) := by
  refine ent (own := RX2) (by decide) rfl (Nat.le_of_ble_eq_true rfl) ?_
  intro p e s m below meth c ls B hr hlk hl hP hS
  have hx := B.1.1
  have hb := B.1.2.1
  have hown := B.1.2.2.2.1
  have hts := B.1.2.2.2.2
  have hl : lv_has ls 8 [(0, .ref (E.2.1 + k)), (1, .int (nI na1))] := hl
  have b4_0 : ∀ (ls : Array Slot) (H : Heap) (locs : List Loc) (d4 : Nat) (x4_2 : Int32) (j4_3 : Nat), lv_has ls 8 [(0, .ref (E.2.1 + k)), (1, .int (nI na1)), (2, .int x4_2), (3, .int (nI j4_3))] → WP E ρ H → va_S (hA E) s.heap H locs → 24 - j4_3 < d4 → iR x4_2 (-2147483648) (2147483647) → 0 ≤ j4_3 → j4_3 ≤ 23 → 0 ≤ na1 → na1 ≤ 22 → W p l e (rmk 1 40) s m ([.ref (E.2.1 + k), .int (nI na1)] : List Value).toArray below meth c H locs 0 0 (MQ below (cI E (fun v ρ1 => ρ = ρ1 ∧ CI r S ρ1)) ([.ref (E.2.1 + k), .int (nI na1)] : List Value).toArray s 0 0 (hA E)) (F0 m 4 ls []) := by
    intro ls H locs d4
    induction d4 generalizing ls H locs with
    | zero => intro x4_2 j4_3 hl hP hS hd4 hx4_2 lj4_3 uj4_3 tlna1 tuna1; exact absurd hd4 (Nat.not_lt_zero _)
    | succ d4 ih4 =>
      intro x4_2 j4_3 hl hP hS hd4 hx4_2 lj4_3 uj4_3 tlna1 tuna1
      have b77_0 : ∀ (ls : Array Slot) (H : Heap) (locs : List Loc) (x77_2 : Int32), lv_has ls 8 [(0, .ref (E.2.1 + k)), (1, .int (nI na1)), (2, .int x77_2), (3, .int (nI j4_3))] → WP E ρ H → va_S (hA E) s.heap H locs → iR x77_2 (-2147483648) (2147483647) → iR (ρ (k + 3) j4_3) (-2147483648) (2147483647) → 0 ≤ j4_3 → j4_3 ≤ 22 → 0 ≤ na1 → na1 ≤ 22 → W p l e (rmk 1 40) s m ([.ref (E.2.1 + k), .int (nI na1)] : List Value).toArray below meth c H locs 0 0 (MQ below (cI E (fun v ρ1 => ρ = ρ1 ∧ CI r S ρ1)) ([.ref (E.2.1 + k), .int (nI na1)] : List Value).toArray s 0 0 (hA E)) (F0 m 77 ls []) := by
        intro ls H locs x77_2 hl hP hS hx77_2 f_ρ__k___3__j4_3_ tlj4_3 tuj4_3 tlna1 tuna1
        refine lv_iinc (v := (nI (1 + j4_3))) (lv' := [(3, .int (nI (1 + j4_3))), (0, .ref (E.2.1 + k)), (1, .int (nI na1)), (2, .int x77_2)]) hx hb dX2_rankOf_77 hl (k := 3) rfl (show nI j4_3 + nI 1 = _ from (nI_add _ _).trans (congrArg nI (by omega))) (by decide) rfl (fun ls hl => ?_)
        refine lv_goto (tgt := 4) hx hb dX2_rankOf_80 (by decide) ?_
        exact ih4 ls _ _ (x77_2 : Int32) (1 + j4_3) (lv_sub hl [1, 2, 3, 0] rfl) hP hS (by omega) (iR_w hx77_2 (by decide) (by decide)) (by omega) (by omega) (by omega) (by omega)
      have b74_0 : ∀ (ls : Array Slot) (H : Heap) (locs : List Loc) , lv_has ls 8 [(0, .ref (E.2.1 + k)), (1, .int (nI na1)), (2, .int x4_2), (3, .int (nI j4_3))] → WP E ρ H → va_S (hA E) s.heap H locs → iR (ρ (k + 3) j4_3) (1) (2147483647) → 0 ≤ j4_3 → j4_3 ≤ 22 → 0 ≤ na1 → na1 ≤ 22 → W p l e (rmk 1 40) s m ([.ref (E.2.1 + k), .int (nI na1)] : List Value).toArray below meth c H locs 0 0 (MQ below (cI E (fun v ρ1 => ρ = ρ1 ∧ CI r S ρ1)) ([.ref (E.2.1 + k), .int (nI na1)] : List Value).toArray s 0 0 (hA E)) (F0 m 74 ls []) := by
        intro ls H locs  hl hP hS f_ρ__k___3__j4_3_ tlj4_3 tuj4_3 tlna1 tuna1
        refine lv_iinc (v := (x4_2 + 1)) (lv' := [(2, .int (x4_2 + 1)), (0, .ref (E.2.1 + k)), (1, .int (nI na1)), (3, .int (nI j4_3))]) hx hb dX2_rankOf_74 hl (k := 2) rfl rfl (by decide) rfl (fun ls hl => ?_)
        exact b77_0 ls _ _ ((x4_2 + 1) : Int32) (lv_sub hl [1, 2, 0, 3] rfl) hP hS (iR_w (iR_any (x4_2 + 1)) (by decide) (by decide)) (iR_w f_ρ__k___3__j4_3_ (by decide) (by decide)) (by omega) (by omega) (by omega) (by omega)
      refine lv_iload_n hx hb dX2_rankOf_4 rfl (lv_at hl 3 rfl) ?_
      refine lv_bipush (v := 23) hx hb dX2_rankOf_5 (by decide) ?_
      refine lv_icmp_ge (tgt := 83) hx hb dX2_rankOf_7 (by decide) (fun c270 => ?_) (fun c270 => ?_)
      · skip
        have n271 := mt (nx_lt (a := j4_3) (b := 23) (by omega) (by omega)).mpr (show ¬ (nI j4_3 < nI 23) from (Int32.not_lt.mpr c270))
        refine lv_iload_n hx hb dX2_rankOf_83 rfl (lv_at hl 2 rfl) ?_
        exact ret_i B hr hlk hP hS dX2_rankOf_84 (⟨rfl, hI⟩)
      · skip
        have n272 := (nx_lt (a := j4_3) (b := 23) (by omega) (by omega)).mp (show (nI j4_3 < nI 23) from (Int32.not_le.mp c270))
        refine lv_aload_n hx hb dX2_rankOf_10 rfl (lv_at hl 0 rfl) ?_
        refine get2 B hP h 3 (by decide) mw_289 rfl dX2_rankOf_11 ?_
        refine lv_iload_n hx hb dX2_rankOf_14 rfl (lv_at hl 3 rfl) ?_
        refine aldn (n := 23) (j := j4_3) B hP (lay2 h).2.2.2.2.2.1 (lay2 h).2.2.2.2.2.2.1 rfl (by omega) (by decide) dX2_rankOf_15 ?_
        refine lv_i2l hx hb dX2_rankOf_16 rfl ?_
        refine lv_aload_n hx hb dX2_rankOf_17 rfl (lv_at hl 0 rfl) ?_
        refine get2 B hP h 2 (by decide) mw_287 rfl dX2_rankOf_18 ?_
        refine lv_iload_n hx hb dX2_rankOf_21 rfl (lv_at hl 1 rfl) ?_
        refine aldn (n := 23) (j := na1) B hP (lay2 h).2.2.2.1 (lay2 h).2.2.2.2.1 rfl (by omega) (by decide) dX2_rankOf_22 ?_
        refine lv_i2l hx hb dX2_rankOf_23 rfl ?_
        refine lv_lmul hx hb dX2_rankOf_24 ?_
        refine lv_lstore (lv' := [(4, .long ((ρ (k + 4) j4_3).toInt64 * (ρ (k + 3) na1).toInt64)), (0, .ref (E.2.1 + k)), (1, .int (nI na1)), (2, .int x4_2), (3, .int (nI j4_3))]) hx hb dX2_rankOf_25 hl (by decide) rfl (fun ls hl => ?_)
        refine lv_aload_n hx hb dX2_rankOf_27 rfl (lv_at hl 1 rfl) ?_
        refine get2 B hP h 3 (by decide) mw_289 rfl dX2_rankOf_28 ?_
        refine lv_iload_n hx hb dX2_rankOf_31 rfl (lv_at hl 2 rfl) ?_
        refine aldn (n := 23) (j := na1) B hP (lay2 h).2.2.2.2.2.1 (lay2 h).2.2.2.2.2.2.1 rfl (by omega) (by decide) dX2_rankOf_32 ?_
        refine lv_i2l hx hb dX2_rankOf_33 rfl ?_
        refine lv_aload_n hx hb dX2_rankOf_34 rfl (lv_at hl 1 rfl) ?_
        refine get2 B hP h 2 (by decide) mw_287 rfl dX2_rankOf_35 ?_
        refine lv_iload_n hx hb dX2_rankOf_38 rfl (lv_at hl 4 rfl) ?_
        refine aldn (n := 23) (j := j4_3) B hP (lay2 h).2.2.2.1 (lay2 h).2.2.2.2.1 rfl (by omega) (by decide) dX2_rankOf_39 ?_
        refine lv_i2l hx hb dX2_rankOf_40 rfl ?_
        refine lv_lmul hx hb dX2_rankOf_41 ?_
        refine lv_lstore (lv' := [(6, .long ((ρ (k + 4) na1).toInt64 * (ρ (k + 3) j4_3).toInt64)), (4, .long ((ρ (k + 4) j4_3).toInt64 * (ρ (k + 3) na1).toInt64)), (0, .ref (E.2.1 + k)), (1, .int (nI na1)), (2, .int x4_2), (3, .int (nI j4_3))]) hx hb dX2_rankOf_42 hl (by decide) rfl (fun ls hl => ?_)
        refine lv_aload_n hx hb dX2_rankOf_44 rfl (lv_at hl 2 rfl) ?_
        refine get2 B hP h 2 (by decide) mw_287 rfl dX2_rankOf_45 ?_
        refine lv_iload_n hx hb dX2_rankOf_48 rfl (lv_at hl 5 rfl) ?_
        refine aldn (n := 23) (j := j4_3) B hP (lay2 h).2.2.2.1 (lay2 h).2.2.2.2.1 rfl (by omega) (by decide) dX2_rankOf_49 ?_
        refine lv_if_le (tgt := 77) hx hb dX2_rankOf_50 (by decide) (fun c273 => ?_) (fun c273 => ?_)
        · skip
          have i274 : iR (ρ (k + 3) j4_3) (-2147483648) (0) := (iR_geR (show iR 0 (0) (0) from ⟨by decide, by decide⟩) (iR_any (ρ (k + 3) j4_3)) (Int32.not_lt.mpr c273) (by decide))
          exact b77_0 ls _ _ (x4_2 : Int32) (lv_sub hl [2, 3, 4, 5] rfl) hP hS (iR_w hx4_2 (by decide) (by decide)) (iR_w i274 (by decide) (by decide)) (by omega) (by omega) (by omega) (by omega)
        · skip
          have i275 : iR (ρ (k + 3) j4_3) (1) (2147483647) := (iR_ltR (show iR 0 (0) (0) from ⟨by decide, by decide⟩) (iR_any (ρ (k + 3) j4_3)) (Int32.not_le.mp c273) (by decide))
          refine lv_lload hx hb dX2_rankOf_53 (lv_at hl 1 rfl) ?_
          refine lv_lload hx hb dX2_rankOf_55 (lv_at hl 0 rfl) ?_
          refine W.lcmp hx hb dX2_rankOf_57 ?_
          refine lv_if_gt (tgt := 74) hx hb dX2_rankOf_58 (by decide) (fun c276 => ?_) (fun c276 => ?_)
          · skip
            have i277 : iR (lg_cmp ((ρ (k + 4) j4_3).toInt64 * (ρ (k + 3) na1).toInt64) ((ρ (k + 4) na1).toInt64 * (ρ (k + 3) j4_3).toInt64)) (1) (2147483647) := (iR_ltR (show iR 0 (0) (0) from ⟨by decide, by decide⟩) (iR_any (lg_cmp ((ρ (k + 4) j4_3).toInt64 * (ρ (k + 3) na1).toInt64) ((ρ (k + 4) na1).toInt64 * (ρ (k + 3) j4_3).toInt64))) c276 (by decide))
            exact b74_0 ls _ _  (lv_sub hl [2, 3, 4, 5] rfl) hP hS (iR_w i275 (by decide) (by decide)) (by omega) (by omega) (by omega) (by omega)
          · skip
            have i278 : iR (lg_cmp ((ρ (k + 4) j4_3).toInt64 * (ρ (k + 3) na1).toInt64) ((ρ (k + 4) na1).toInt64 * (ρ (k + 3) j4_3).toInt64)) (-2147483648) (0) := (iR_geR (show iR 0 (0) (0) from ⟨by decide, by decide⟩) (iR_any (lg_cmp ((ρ (k + 4) j4_3).toInt64 * (ρ (k + 3) na1).toInt64) ((ρ (k + 4) na1).toInt64 * (ρ (k + 3) j4_3).toInt64))) c276 (by decide))
            refine lv_lload hx hb dX2_rankOf_61 (lv_at hl 1 rfl) ?_
            refine lv_lload hx hb dX2_rankOf_63 (lv_at hl 0 rfl) ?_
            refine W.lcmp hx hb dX2_rankOf_65 ?_
            refine lv_if_ne (tgt := 77) hx hb dX2_rankOf_66 (by decide) (fun c279 => ?_) (fun c279 => ?_)
            · skip
              have i280 : iR (lg_cmp ((ρ (k + 4) j4_3).toInt64 * (ρ (k + 3) na1).toInt64) ((ρ (k + 4) na1).toInt64 * (ρ (k + 3) j4_3).toInt64)) (-2147483648) (-1) := (iR_neL i278 (show iR 0 (0) (0) from ⟨by decide, by decide⟩) c279 (by decide) (by decide))
              exact b77_0 ls _ _ (x4_2 : Int32) (lv_sub hl [2, 3, 4, 5] rfl) hP hS (iR_w hx4_2 (by decide) (by decide)) (iR_w i275 (by decide) (by decide)) (by omega) (by omega) (by omega) (by omega)
            · skip
              have i281 : iR (lg_cmp ((ρ (k + 4) j4_3).toInt64 * (ρ (k + 3) na1).toInt64) ((ρ (k + 4) na1).toInt64 * (ρ (k + 3) j4_3).toInt64)) (0) (0) := (by rw [c279]; exact ⟨by decide, by decide⟩)
              refine lv_iload_n hx hb dX2_rankOf_69 rfl (lv_at hl 5 rfl) ?_
              refine lv_iload_n hx hb dX2_rankOf_70 rfl (lv_at hl 3 rfl) ?_
              refine lv_icmp_ge (tgt := 77) hx hb dX2_rankOf_71 (by decide) (fun c282 => ?_) (fun c282 => ?_)
              · skip
                have n283 := mt (nx_lt (a := j4_3) (b := na1) (by omega) (by omega)).mpr (show ¬ (nI j4_3 < nI na1) from (Int32.not_lt.mpr c282))
                exact b77_0 ls _ _ (x4_2 : Int32) (lv_sub hl [2, 3, 4, 5] rfl) hP hS (iR_w hx4_2 (by decide) (by decide)) (iR_w i275 (by decide) (by decide)) (by omega) (by omega) (by omega) (by omega)
              · skip
                have n284 := (nx_lt (a := j4_3) (b := na1) (by omega) (by omega)).mp (show (nI j4_3 < nI na1) from (Int32.not_le.mp c282))
                exact b74_0 ls _ _  (lv_sub hl [2, 3, 4, 5] rfl) hP hS (iR_w i275 (by decide) (by decide)) (by omega) (by omega) (by omega) (by omega)
  refine lv_iconst (v := 0) hx hb dX2_rankOf_0 (by decide) ?_
  refine lv_istore_n (lv' := [(2, .int 0), (0, .ref (E.2.1 + k)), (1, .int (nI na1))]) hx hb dX2_rankOf_1 rfl hl (by decide) rfl (fun ls hl => ?_)
  refine lv_iconst (v := 0) hx hb dX2_rankOf_2 (by decide) ?_
  refine lv_istore_n (lv' := [(3, .int 0), (2, .int 0), (0, .ref (E.2.1 + k)), (1, .int (nI na1))]) hx hb dX2_rankOf_3 rfl hl (by decide) rfl (fun ls hl => ?_)
  exact b4_0 ls _ _ _ (0 : Int32) 0 (lv_sub hl [2, 3, 1, 0] rfl) hP hS (Nat.lt_succ_self _) (iR_w (show iR 0 (0) (0) from ⟨by decide, by decide⟩) (by decide) (by decide)) (by omega) (by omega) (by omega) (by omega)

set_option maxHeartbeats 4000000 in
set_option maxRecDepth 100000 in
theorem d_X2_firstWithOpenFrame (l : Launch) (E : hE) (ρ r : Nat → Nat → Int32) (S : Nat × Nat → Prop) (hSS : SK S) (k : Nat) (h : hk k = 2) (hI : CI r S ρ) : Met l yX2_firstWithOpenFrame (.code yX2_firstWithOpenFrame cX2_firstWithOpenFrame 2 (some .int) :: gw_all) (rmk 1 40) (cPre E ρ [.ref (E.2.1 + k)]) (cI E (fun v ρ1 => ρ = ρ1 ∧ CI r S ρ1)) 0 0 (hA E) := by
  refine ent (own := RX2) (by decide) rfl (Nat.le_of_ble_eq_true rfl) ?_
  intro p e s m below meth c ls B hr hlk hl hP hS
  have hx := B.1.1
  have hb := B.1.2.1
  have hown := B.1.2.2.2.1
  have hts := B.1.2.2.2.2
  have hl : lv_has ls 2 [(0, .ref (E.2.1 + k))] := hl
  have b2_0 : ∀ (ls : Array Slot) (H : Heap) (locs : List Loc) (d2 : Nat) (j2_1 : Nat), lv_has ls 2 [(0, .ref (E.2.1 + k)), (1, .int (nI j2_1))] → WP E ρ H → va_S (hA E) s.heap H locs → 5 - j2_1 < d2 → 0 ≤ j2_1 → j2_1 ≤ 4 → W p l e (rmk 1 40) s m ([.ref (E.2.1 + k)] : List Value).toArray below meth c H locs 0 0 (MQ below (cI E (fun v ρ1 => ρ = ρ1 ∧ CI r S ρ1)) ([.ref (E.2.1 + k)] : List Value).toArray s 0 0 (hA E)) (F0 m 2 ls []) := by
    intro ls H locs d2
    induction d2 generalizing ls H locs with
    | zero => intro j2_1 hl hP hS hd2 lj2_1 uj2_1; exact absurd hd2 (Nat.not_lt_zero _)
    | succ d2 ih2 =>
      intro j2_1 hl hP hS hd2 lj2_1 uj2_1
      have b44_0 : ∀ (ls : Array Slot) (H : Heap) (locs : List Loc) , lv_has ls 2 [(0, .ref (E.2.1 + k)), (1, .int (nI j2_1))] → WP E ρ H → va_S (hA E) s.heap H locs → iR (ρ k 8) (0) (4) → 0 ≤ j2_1 → j2_1 ≤ 3 → W p l e (rmk 1 40) s m ([.ref (E.2.1 + k)] : List Value).toArray below meth c H locs 0 0 (MQ below (cI E (fun v ρ1 => ρ = ρ1 ∧ CI r S ρ1)) ([.ref (E.2.1 + k)] : List Value).toArray s 0 0 (hA E)) (F0 m 44 ls []) := by
        intro ls H locs  hl hP hS f_ρ_k_8_ tlj2_1 tuj2_1
        refine lv_iinc (v := (nI (1 + j2_1))) (lv' := [(1, .int (nI (1 + j2_1))), (0, .ref (E.2.1 + k))]) hx hb dX2_firstWithOpenFrame_44 hl (k := 1) rfl (show nI j2_1 + nI 1 = _ from (nI_add _ _).trans (congrArg nI (by omega))) (by decide) rfl (fun ls hl => ?_)
        refine lv_goto (tgt := 2) hx hb dX2_firstWithOpenFrame_47 (by decide) ?_
        exact ih2 ls _ _ (1 + j2_1) (lv_sub hl [1, 0] rfl) hP hS (by omega) (by omega) (by omega)
      refine lv_iload_n hx hb dX2_firstWithOpenFrame_2 rfl (lv_at hl 1 rfl) ?_
      refine lv_aload_n hx hb dX2_firstWithOpenFrame_3 rfl (lv_at hl 0 rfl) ?_
      refine get2 B hP h 8 (by decide) mw_303 rfl dX2_firstWithOpenFrame_4 ?_
      have i91 : iR (ρ k 8) 0 4 := CI_get hI (kind_lt h (by decide)) h rfl
      obtain ⟨j92, lj92, uj92, ej92⟩ := iR_nat (a := 0) (b := 4) i91
      refine lv_topi (fun z93 ez93 => ?_)
      obtain rfl : z93 = nI j92 := ez93.trans ej92
      refine lv_icmp_ge (tgt := 50) hx hb dX2_firstWithOpenFrame_7 (by decide) (fun c94 => ?_) (fun c94 => ?_)
      · skip
        have n95 := mt (nx_lt (a := j2_1) (b := j92) (by omega) (by omega)).mpr (show ¬ (nI j2_1 < nI j92) from (Int32.not_lt.mpr c94))
        refine lv_iconst (v := (-1)) hx hb dX2_firstWithOpenFrame_50 (by decide) ?_
        exact ret_i B hr hlk hP hS dX2_firstWithOpenFrame_51 (⟨rfl, hI⟩)
      · skip
        have n96 := (nx_lt (a := j2_1) (b := j92) (by omega) (by omega)).mp (show (nI j2_1 < nI j92) from (Int32.not_le.mp c94))
        refine lv_iload_n hx hb dX2_firstWithOpenFrame_10 rfl (lv_at hl 1 rfl) ?_
        refine lv_iconst (v := 4) hx hb dX2_firstWithOpenFrame_11 (by decide) ?_
        refine lv_icmp_ge (tgt := 50) hx hb dX2_firstWithOpenFrame_12 (by decide) (fun c97 => absurd c97 (iR_nle (show iR 4 (4) (4) from ⟨by decide, by decide⟩) (nI_iR (j := j2_1) (a := 0) (b := 3) (by omega) (by omega) (by omega)) (by decide))) (fun _ => ?_)
        refine lv_aload_n hx hb dX2_firstWithOpenFrame_15 rfl (lv_at hl 0 rfl) ?_
        refine get2 B hP h 4 (by decide) mw_291 rfl dX2_firstWithOpenFrame_16 ?_
        refine lv_iload_n hx hb dX2_firstWithOpenFrame_19 rfl (lv_at hl 1 rfl) ?_
        obtain ⟨k98, ek98, hk98⟩ := CI_link hI (lay2 h).2.2.2.2.2.2.2.1 (show j2_1 < 4 from (by omega))
        refine aldLn B hP (lay2 h).2.2.2.2.2.2.2.1 (lay2 h).2.2.2.2.2.2.2.2.1 rfl (by omega) ek98 hk98 dX2_firstWithOpenFrame_20 ?_
        refine get1 B hP hk98 17 (by decide) mw_243 rfl dX2_firstWithOpenFrame_21 ?_
        have i99 : iR (ρ k98 17) 0 1 := CI_get hI (kind_lt hk98 (by decide)) hk98 rfl
        obtain ⟨j100, lj100, uj100, ej100⟩ := iR_nat (a := 0) (b := 1) i99
        refine lv_topi (fun z101 ez101 => ?_)
        obtain rfl : z101 = nI j100 := ez101.trans ej100
        refine lv_if_eq (tgt := 44) hx hb dX2_firstWithOpenFrame_24 (by decide) (fun c102 => ?_) (fun c102 => ?_)
        · skip
          have n103 := (nI_eq (a := j100) (b := 0) (by omega) (by omega)).mp (show (nI j100 = nI 0) from c102)
          exact b44_0 ls _ _  (lv_sub hl [0, 1] rfl) hP hS (iR_w i91 (by decide) (by decide)) (by omega) (by omega)
        · skip
          have n104 := mt (nI_eq (a := j100) (b := 0) (by omega) (by omega)).mpr (show ¬ (nI j100 = nI 0) from c102)
          refine lv_aload_n hx hb dX2_firstWithOpenFrame_27 rfl (lv_at hl 0 rfl) ?_
          refine get2 B hP h 4 (by decide) mw_291 rfl dX2_firstWithOpenFrame_28 ?_
          refine lv_iload_n hx hb dX2_firstWithOpenFrame_31 rfl (lv_at hl 1 rfl) ?_
          obtain ⟨k105, ek105, hk105⟩ := CI_link hI (lay2 h).2.2.2.2.2.2.2.1 (show j2_1 < 4 from (by omega))
          refine aldLn B hP (lay2 h).2.2.2.2.2.2.2.1 (lay2 h).2.2.2.2.2.2.2.2.1 rfl (by omega) ek105 hk105 dX2_firstWithOpenFrame_32 ?_
          refine get1 B hP hk105 3 (by decide) mw_205 rfl dX2_firstWithOpenFrame_33 ?_
          refine get0 B hP (lay1 hk105).2.2.2 5 (by decide) mw_178 rfl dX2_firstWithOpenFrame_36 ?_
          refine lv_if_le (tgt := 44) hx hb dX2_firstWithOpenFrame_39 (by decide) (fun c106 => ?_) (fun c106 => ?_)
          · skip
            have i107 : iR (ρ (k105 + 8) 5) (-2147483648) (0) := (iR_geR (show iR 0 (0) (0) from ⟨by decide, by decide⟩) (iR_any (ρ (k105 + 8) 5)) (Int32.not_lt.mpr c106) (by decide))
            exact b44_0 ls _ _  (lv_sub hl [0, 1] rfl) hP hS (iR_w i91 (by decide) (by decide)) (by omega) (by omega)
          · skip
            have i108 : iR (ρ (k105 + 8) 5) (1) (2147483647) := (iR_ltR (show iR 0 (0) (0) from ⟨by decide, by decide⟩) (iR_any (ρ (k105 + 8) 5)) (Int32.not_le.mp c106) (by decide))
            refine lv_iload_n hx hb dX2_firstWithOpenFrame_42 rfl (lv_at hl 1 rfl) ?_
            exact ret_i B hr hlk hP hS dX2_firstWithOpenFrame_43 (⟨rfl, hI⟩)
  refine lv_iconst (v := 0) hx hb dX2_firstWithOpenFrame_0 (by decide) ?_
  refine lv_istore_n (lv' := [(1, .int 0), (0, .ref (E.2.1 + k))]) hx hb dX2_firstWithOpenFrame_1 rfl hl (by decide) rfl (fun ls hl => ?_)
  exact b2_0 ls _ _ _ 0 (lv_sub hl [1, 0] rfl) hP hS (Nat.lt_succ_self _) (by omega) (by omega)

set_option maxHeartbeats 4000000 in
set_option maxRecDepth 100000 in
theorem d_X2_firstNotKnown (l : Launch) (E : hE) (ρ r : Nat → Nat → Int32) (S : Nat × Nat → Prop) (hSS : SK S) (k : Nat) (h : hk k = 2) (hI : CI r S ρ) : Met l yX2_firstNotKnown (.code yX2_firstNotKnown cX2_firstNotKnown 2 (some .int) :: gw_all) (rmk 1 40) (cPre E ρ [.ref (E.2.1 + k)]) (cI E (fun v ρ1 => ρ = ρ1 ∧ CI r S ρ1)) 0 0 (hA E) := by
  refine ent (own := RX2) (by decide) rfl (Nat.le_of_ble_eq_true rfl) ?_
  intro p e s m below meth c ls B hr hlk hl hP hS
  have hx := B.1.1
  have hb := B.1.2.1
  have hown := B.1.2.2.2.1
  have hts := B.1.2.2.2.2
  have hl : lv_has ls 2 [(0, .ref (E.2.1 + k))] := hl
  have b2_0 : ∀ (ls : Array Slot) (H : Heap) (locs : List Loc) (d2 : Nat) (j2_1 : Nat), lv_has ls 2 [(0, .ref (E.2.1 + k)), (1, .int (nI j2_1))] → WP E ρ H → va_S (hA E) s.heap H locs → 5 - j2_1 < d2 → 0 ≤ j2_1 → j2_1 ≤ 4 → W p l e (rmk 1 40) s m ([.ref (E.2.1 + k)] : List Value).toArray below meth c H locs 0 0 (MQ below (cI E (fun v ρ1 => ρ = ρ1 ∧ CI r S ρ1)) ([.ref (E.2.1 + k)] : List Value).toArray s 0 0 (hA E)) (F0 m 2 ls []) := by
    intro ls H locs d2
    induction d2 generalizing ls H locs with
    | zero => intro j2_1 hl hP hS hd2 lj2_1 uj2_1; exact absurd hd2 (Nat.not_lt_zero _)
    | succ d2 ih2 =>
      intro j2_1 hl hP hS hd2 lj2_1 uj2_1
      have b41_0 : ∀ (ls : Array Slot) (H : Heap) (locs : List Loc) , lv_has ls 2 [(0, .ref (E.2.1 + k)), (1, .int (nI j2_1))] → WP E ρ H → va_S (hA E) s.heap H locs → iR (ρ k 8) (0) (4) → 0 ≤ j2_1 → j2_1 ≤ 3 → W p l e (rmk 1 40) s m ([.ref (E.2.1 + k)] : List Value).toArray below meth c H locs 0 0 (MQ below (cI E (fun v ρ1 => ρ = ρ1 ∧ CI r S ρ1)) ([.ref (E.2.1 + k)] : List Value).toArray s 0 0 (hA E)) (F0 m 41 ls []) := by
        intro ls H locs  hl hP hS f_ρ_k_8_ tlj2_1 tuj2_1
        refine lv_iinc (v := (nI (1 + j2_1))) (lv' := [(1, .int (nI (1 + j2_1))), (0, .ref (E.2.1 + k))]) hx hb dX2_firstNotKnown_41 hl (k := 1) rfl (show nI j2_1 + nI 1 = _ from (nI_add _ _).trans (congrArg nI (by omega))) (by decide) rfl (fun ls hl => ?_)
        refine lv_goto (tgt := 2) hx hb dX2_firstNotKnown_44 (by decide) ?_
        exact ih2 ls _ _ (1 + j2_1) (lv_sub hl [1, 0] rfl) hP hS (by omega) (by omega) (by omega)
      refine lv_iload_n hx hb dX2_firstNotKnown_2 rfl (lv_at hl 1 rfl) ?_
      refine lv_aload_n hx hb dX2_firstNotKnown_3 rfl (lv_at hl 0 rfl) ?_
      refine get2 B hP h 8 (by decide) mw_303 rfl dX2_firstNotKnown_4 ?_
      have i106 : iR (ρ k 8) 0 4 := CI_get hI (kind_lt h (by decide)) h rfl
      obtain ⟨j107, lj107, uj107, ej107⟩ := iR_nat (a := 0) (b := 4) i106
      refine lv_topi (fun z108 ez108 => ?_)
      obtain rfl : z108 = nI j107 := ez108.trans ej107
      refine lv_icmp_ge (tgt := 47) hx hb dX2_firstNotKnown_7 (by decide) (fun c109 => ?_) (fun c109 => ?_)
      · skip
        have n110 := mt (nx_lt (a := j2_1) (b := j107) (by omega) (by omega)).mpr (show ¬ (nI j2_1 < nI j107) from (Int32.not_lt.mpr c109))
        refine lv_iconst (v := (-1)) hx hb dX2_firstNotKnown_47 (by decide) ?_
        exact ret_i B hr hlk hP hS dX2_firstNotKnown_48 (⟨rfl, hI⟩)
      · skip
        have n111 := (nx_lt (a := j2_1) (b := j107) (by omega) (by omega)).mp (show (nI j2_1 < nI j107) from (Int32.not_le.mp c109))
        refine lv_iload_n hx hb dX2_firstNotKnown_10 rfl (lv_at hl 1 rfl) ?_
        refine lv_iconst (v := 4) hx hb dX2_firstNotKnown_11 (by decide) ?_
        refine lv_icmp_ge (tgt := 47) hx hb dX2_firstNotKnown_12 (by decide) (fun c112 => absurd c112 (iR_nle (show iR 4 (4) (4) from ⟨by decide, by decide⟩) (nI_iR (j := j2_1) (a := 0) (b := 3) (by omega) (by omega) (by omega)) (by decide))) (fun _ => ?_)
        refine lv_aload_n hx hb dX2_firstNotKnown_15 rfl (lv_at hl 0 rfl) ?_
        refine get2 B hP h 4 (by decide) mw_291 rfl dX2_firstNotKnown_16 ?_
        refine lv_iload_n hx hb dX2_firstNotKnown_19 rfl (lv_at hl 1 rfl) ?_
        obtain ⟨k113, ek113, hk113⟩ := CI_link hI (lay2 h).2.2.2.2.2.2.2.1 (show j2_1 < 4 from (by omega))
        refine aldLn B hP (lay2 h).2.2.2.2.2.2.2.1 (lay2 h).2.2.2.2.2.2.2.2.1 rfl (by omega) ek113 hk113 dX2_firstNotKnown_20 ?_
        refine get1 B hP hk113 17 (by decide) mw_243 rfl dX2_firstNotKnown_21 ?_
        have i114 : iR (ρ k113 17) 0 1 := CI_get hI (kind_lt hk113 (by decide)) hk113 rfl
        obtain ⟨j115, lj115, uj115, ej115⟩ := iR_nat (a := 0) (b := 1) i114
        refine lv_topi (fun z116 ez116 => ?_)
        obtain rfl : z116 = nI j115 := ez116.trans ej115
        refine lv_if_eq (tgt := 41) hx hb dX2_firstNotKnown_24 (by decide) (fun c117 => ?_) (fun c117 => ?_)
        · skip
          have n118 := (nI_eq (a := j115) (b := 0) (by omega) (by omega)).mp (show (nI j115 = nI 0) from c117)
          exact b41_0 ls _ _  (lv_sub hl [0, 1] rfl) hP hS (iR_w i106 (by decide) (by decide)) (by omega) (by omega)
        · skip
          have n119 := mt (nI_eq (a := j115) (b := 0) (by omega) (by omega)).mpr (show ¬ (nI j115 = nI 0) from c117)
          refine lv_aload_n hx hb dX2_firstNotKnown_27 rfl (lv_at hl 0 rfl) ?_
          refine get2 B hP h 4 (by decide) mw_291 rfl dX2_firstNotKnown_28 ?_
          refine lv_iload_n hx hb dX2_firstNotKnown_31 rfl (lv_at hl 1 rfl) ?_
          obtain ⟨k120, ek120, hk120⟩ := CI_link hI (lay2 h).2.2.2.2.2.2.2.1 (show j2_1 < 4 from (by omega))
          refine aldLn B hP (lay2 h).2.2.2.2.2.2.2.1 (lay2 h).2.2.2.2.2.2.2.2.1 rfl (by omega) ek120 hk120 dX2_firstNotKnown_32 ?_
          refine get1 B hP hk120 5 (by decide) mw_212 rfl dX2_firstNotKnown_33 ?_
          have i121 : iR (ρ k120 5) 0 1 := CI_get hI (kind_lt hk120 (by decide)) hk120 rfl
          obtain ⟨j122, lj122, uj122, ej122⟩ := iR_nat (a := 0) (b := 1) i121
          refine lv_topi (fun z123 ez123 => ?_)
          obtain rfl : z123 = nI j122 := ez123.trans ej122
          refine lv_if_ne (tgt := 41) hx hb dX2_firstNotKnown_36 (by decide) (fun c124 => ?_) (fun c124 => ?_)
          · skip
            have n125 := mt (nI_eq (a := j122) (b := 0) (by omega) (by omega)).mpr (show ¬ (nI j122 = nI 0) from c124)
            exact b41_0 ls _ _  (lv_sub hl [0, 1] rfl) hP hS (iR_w i106 (by decide) (by decide)) (by omega) (by omega)
          · skip
            have n126 := (nI_eq (a := j122) (b := 0) (by omega) (by omega)).mp (show (nI j122 = nI 0) from c124)
            refine lv_iload_n hx hb dX2_firstNotKnown_39 rfl (lv_at hl 1 rfl) ?_
            exact ret_i B hr hlk hP hS dX2_firstNotKnown_40 (⟨rfl, hI⟩)
  refine lv_iconst (v := 0) hx hb dX2_firstNotKnown_0 (by decide) ?_
  refine lv_istore_n (lv' := [(1, .int 0), (0, .ref (E.2.1 + k))]) hx hb dX2_firstNotKnown_1 rfl hl (by decide) rfl (fun ls hl => ?_)
  exact b2_0 ls _ _ _ 0 (lv_sub hl [1, 0] rfl) hP hS (Nat.lt_succ_self _) (by omega) (by omega)

set_option maxHeartbeats 4000000 in
set_option maxRecDepth 100000 in
theorem d_X2_nextPolled (l : Launch) (E : hE) (ρ r : Nat → Nat → Int32) (S : Nat × Nat → Prop) (hSS : SK S) (k : Nat) (h : hk k = 2) (hI : CI r S ρ) : Met l yX2_nextPolled (.code yX2_nextPolled cX2_nextPolled 6 (some .int) :: gw_all) (rmk 2 80) (cPre E ρ [.ref (E.2.1 + k)]) (cI E (fun v ρ1 => CI r S ρ1)) 0 0 (hA E) := by
  refine ent (own := RX2) (by decide) rfl (Nat.le_of_ble_eq_true rfl) ?_
  intro p e s m below meth c ls B hr hlk hl hP hS
  have hx := B.1.1
  have hb := B.1.2.1
  have hown := B.1.2.2.2.1
  have hts := B.1.2.2.2.2
  have hl : lv_has ls 6 [(0, .ref (E.2.1 + k))] := hl
  have b66_0 : ∀ (ls : Array Slot) (ρ : Nat → Nat → Int32) (H : Heap) (locs : List Loc) (d66 : Nat) (j66_3 : Nat), lv_has ls 6 [(0, .ref (E.2.1 + k)), (3, .int (nI j66_3))] → WP E ρ H → va_S (hA E) s.heap H locs → CI r S ρ → 8 - j66_3 < d66 → 1 ≤ j66_3 → j66_3 ≤ 7 → W p l e (rmk 2 80) s m ([.ref (E.2.1 + k)] : List Value).toArray below meth c H locs 0 0 (MQ below (cI E (fun v ρ1 => CI r S ρ1)) ([.ref (E.2.1 + k)] : List Value).toArray s 0 0 (hA E)) (F0 m 66 ls []) := by
    intro ls ρ H locs d66
    induction d66 generalizing ls ρ H locs with
    | zero => intro j66_3 hl hP hS hI hd66 lj66_3 uj66_3; exact absurd hd66 (Nat.not_lt_zero _)
    | succ d66 ih66 =>
      intro j66_3 hl hP hS hI hd66 lj66_3 uj66_3
      have b148_0 : ∀ (ls : Array Slot) (ρ : Nat → Nat → Int32) (H : Heap) (locs : List Loc) , lv_has ls 6 [(0, .ref (E.2.1 + k)), (3, .int (nI j66_3))] → WP E ρ H → va_S (hA E) s.heap H locs → CI r S ρ → 1 ≤ j66_3 → j66_3 ≤ 4 → W p l e (rmk 2 80) s m ([.ref (E.2.1 + k)] : List Value).toArray below meth c H locs 0 0 (MQ below (cI E (fun v ρ1 => CI r S ρ1)) ([.ref (E.2.1 + k)] : List Value).toArray s 0 0 (hA E)) (F0 m 148 ls []) := by
        intro ls ρ H locs  hl hP hS hI tlj66_3 tuj66_3
        refine lv_iinc (v := (nI (1 + j66_3))) (lv' := [(3, .int (nI (1 + j66_3))), (0, .ref (E.2.1 + k))]) hx hb dX2_nextPolled_148 hl (k := 1) rfl (show nI j66_3 + nI 1 = _ from (nI_add _ _).trans (congrArg nI (by omega))) (by decide) rfl (fun ls hl => ?_)
        refine lv_goto (tgt := 66) hx hb dX2_nextPolled_151 (by decide) ?_
        exact ih66 ls ρ _ _ (1 + j66_3) (lv_sub hl [1, 0] rfl) hP hS hI (by omega) (by omega) (by omega)
      have b136_0 : ∀ (ls : Array Slot) (ρ : Nat → Nat → Int32) (H : Heap) (locs : List Loc) (x136_4 : Int32) (x136_s1 : Int32), lv_has ls 6 [(0, .ref (E.2.1 + k)), (4, .int x136_4)] → WP E ρ H → va_S (hA E) s.heap H locs → CI r S ρ → iR x136_4 (0) (3) → iR x136_s1 (-2147483648) (2147483647) → 1 ≤ j66_3 → j66_3 ≤ 4 → W p l e (rmk 2 80) s m ([.ref (E.2.1 + k)] : List Value).toArray below meth c H locs 0 0 (MQ below (cI E (fun v ρ1 => CI r S ρ1)) ([.ref (E.2.1 + k)] : List Value).toArray s 0 0 (hA E)) (F0 m 136 ls [.int x136_s1, .ref (E.2.1 + k)]) := by
        intro ls ρ H locs x136_4 x136_s1 hl hP hS hI hx136_4 hx136_s1 tlj66_3 tuj66_3
        refine put2 B hP hS h 10 (by decide) mw_308 rfl rfl rfl (fs2_10 E k _ _) dX2_nextPolled_136 (fun H locs hP hS => ?_)
        obtain ⟨ρ145, e146⟩ : ∃ z, z = up ρ k 10 x136_s1 := ⟨_, rfl⟩
        rw [← e146] at hP
        have hI : CI r S ρ145 := by rw [e146]; exact CI_up hI (kind_lt h (by decide)) (SP_plain h rfl (by decide)) ⟨(fun _ => ⟨by decide, by decide, by decide⟩), (fun z2 => absurd (Eq.trans (Eq.symm h) z2) (by decide))⟩ hSS
        refine lv_aload_n hx hb dX2_nextPolled_139 rfl (lv_at hl 0 rfl) ?_
        refine lv_iload hx hb dX2_nextPolled_140 (lv_at hl 1 rfl) ?_
        obtain ⟨j147, lj147, uj147, ej147⟩ := iR_nat (a := 0) (b := 3) hx136_4
        refine lv_topi (fun z148 ez148 => ?_)
        obtain rfl : z148 = nI j147 := ez148.trans ej147
        refine put2 B hP hS h 9 (by decide) mw_306 rfl rfl rfl (fs2_9 E k _ _) dX2_nextPolled_142 (fun H locs hP hS => ?_)
        obtain ⟨ρ149, e150⟩ : ∃ z, z = up ρ145 k 9 (nI j147) := ⟨_, rfl⟩
        rw [← e150] at hP
        have hI : CI r S ρ149 := by rw [e150]; exact CI_up hI (kind_lt h (by decide)) (SP_plain h rfl (by decide)) ⟨(fun _ => ⟨by decide, by decide, by decide⟩), (fun z2 => absurd (Eq.trans (Eq.symm h) z2) (by decide))⟩ hSS
        refine lv_iload hx hb dX2_nextPolled_145 (lv_at hl 1 rfl) ?_
        refine lv_topi (fun z151 ez151 => ?_)
        obtain rfl : z151 = nI j147 := ez151.trans ej147
        exact ret_i B hr hlk hP hS dX2_nextPolled_147 (hI)
      have b136_1 : ∀ (ls : Array Slot) (ρ : Nat → Nat → Int32) (H : Heap) (locs : List Loc) (x136_4 : Int32), lv_has ls 6 [(0, .ref (E.2.1 + k)), (4, .int x136_4)] → WP E ρ H → va_S (hA E) s.heap H locs → CI r S ρ → iR x136_4 (0) (3) → 1 ≤ j66_3 → j66_3 ≤ 4 → W p l e (rmk 2 80) s m ([.ref (E.2.1 + k)] : List Value).toArray below meth c H locs 0 0 (MQ below (cI E (fun v ρ1 => CI r S ρ1)) ([.ref (E.2.1 + k)] : List Value).toArray s 0 0 (hA E)) (F0 m 136 ls [.int 1, .ref (E.2.1 + k)]) := by
        intro ls ρ H locs x136_4 hl hP hS hI hx136_4 tlj66_3 tuj66_3
        refine put2 B hP hS h 10 (by decide) mw_308 rfl rfl rfl (fs2_10 E k _ _) dX2_nextPolled_136 (fun H locs hP hS => ?_)
        obtain ⟨ρ152, e153⟩ : ∃ z, z = up ρ k 10 1 := ⟨_, rfl⟩
        rw [← e153] at hP
        have hI : CI r S ρ152 := by rw [e153]; exact CI_up hI (kind_lt h (by decide)) (SP_plain h rfl (by decide)) ⟨(fun _ => ⟨by decide, by decide, by decide⟩), (fun z2 => absurd (Eq.trans (Eq.symm h) z2) (by decide))⟩ hSS
        refine lv_aload_n hx hb dX2_nextPolled_139 rfl (lv_at hl 0 rfl) ?_
        refine lv_iload hx hb dX2_nextPolled_140 (lv_at hl 1 rfl) ?_
        obtain ⟨j154, lj154, uj154, ej154⟩ := iR_nat (a := 0) (b := 3) hx136_4
        refine lv_topi (fun z155 ez155 => ?_)
        obtain rfl : z155 = nI j154 := ez155.trans ej154
        refine put2 B hP hS h 9 (by decide) mw_306 rfl rfl rfl (fs2_9 E k _ _) dX2_nextPolled_142 (fun H locs hP hS => ?_)
        obtain ⟨ρ156, e157⟩ : ∃ z, z = up ρ152 k 9 (nI j154) := ⟨_, rfl⟩
        rw [← e157] at hP
        have hI : CI r S ρ156 := by rw [e157]; exact CI_up hI (kind_lt h (by decide)) (SP_plain h rfl (by decide)) ⟨(fun _ => ⟨by decide, by decide, by decide⟩), (fun z2 => absurd (Eq.trans (Eq.symm h) z2) (by decide))⟩ hSS
        refine lv_iload hx hb dX2_nextPolled_145 (lv_at hl 1 rfl) ?_
        refine lv_topi (fun z158 ez158 => ?_)
        obtain rfl : z158 = nI j154 := ez158.trans ej154
        exact ret_i B hr hlk hP hS dX2_nextPolled_147 (hI)
      have b135_0 : ∀ (ls : Array Slot) (ρ : Nat → Nat → Int32) (H : Heap) (locs : List Loc) (x135_4 : Int32), lv_has ls 6 [(0, .ref (E.2.1 + k)), (4, .int x135_4)] → WP E ρ H → va_S (hA E) s.heap H locs → CI r S ρ → iR x135_4 (0) (3) → 1 ≤ j66_3 → j66_3 ≤ 4 → W p l e (rmk 2 80) s m ([.ref (E.2.1 + k)] : List Value).toArray below meth c H locs 0 0 (MQ below (cI E (fun v ρ1 => CI r S ρ1)) ([.ref (E.2.1 + k)] : List Value).toArray s 0 0 (hA E)) (F0 m 135 ls [.ref (E.2.1 + k)]) := by
        intro ls ρ H locs x135_4 hl hP hS hI hx135_4 tlj66_3 tuj66_3
        refine lv_iconst (v := 1) hx hb dX2_nextPolled_135 (by decide) ?_
        exact b136_1 ls ρ _ _ (x135_4 : Int32) (lv_sub hl [0, 1] rfl) hP hS hI (iR_w hx135_4 (by decide) (by decide)) (by omega) (by omega)
      refine lv_iload_n hx hb dX2_nextPolled_66 rfl (lv_at hl 1 rfl) ?_
      refine lv_aload_n hx hb dX2_nextPolled_67 rfl (lv_at hl 0 rfl) ?_
      refine get2 B hP h 8 (by decide) mw_303 rfl dX2_nextPolled_68 ?_
      have i159 : iR (ρ k 8) 0 4 := CI_get hI (kind_lt h (by decide)) h rfl
      obtain ⟨j160, lj160, uj160, ej160⟩ := iR_nat (a := 0) (b := 4) i159
      refine lv_topi (fun z161 ez161 => ?_)
      obtain rfl : z161 = nI j160 := ez161.trans ej160
      refine lv_icmp_gt (tgt := 154) hx hb dX2_nextPolled_71 (by decide) (fun c162 => ?_) (fun c162 => ?_)
      · skip
        have n163 := (nx_lt (a := j160) (b := j66_3) (by omega) (by omega)).mp (show (nI j160 < nI j66_3) from c162)
        refine lv_iconst (v := (-1)) hx hb dX2_nextPolled_154 (by decide) ?_
        exact ret_i B hr hlk hP hS dX2_nextPolled_155 (hI)
      · skip
        have n164 := mt (nx_lt (a := j160) (b := j66_3) (by omega) (by omega)).mpr (show ¬ (nI j160 < nI j66_3) from c162)
        refine lv_aload_n hx hb dX2_nextPolled_74 rfl (lv_at hl 0 rfl) ?_
        refine get2 B hP h 9 (by decide) mw_306 rfl dX2_nextPolled_75 ?_
        refine lv_iload_n hx hb dX2_nextPolled_78 rfl (lv_at hl 1 rfl) ?_
        refine lv_iadd hx hb dX2_nextPolled_79 ?_
        refine lv_aload_n hx hb dX2_nextPolled_80 rfl (lv_at hl 0 rfl) ?_
        refine get2 B hP h 8 (by decide) mw_303 (v := .int (nI j160)) (show some (Value.int (ρ k 8)) = some (Value.int (nI j160)) from congrArg (fun z => some (Value.int z)) ej160) dX2_nextPolled_81 ?_
        refine lv_irem hx hb dX2_nextPolled_84 (iR_ne (nI_iR (j := j160) (a := 1) (b := 4) (by omega) (by omega) (by omega)) (show iR 0 0 0 from ⟨by decide, by decide⟩) (by decide)) ?_
        refine lv_istore (lv' := [(4, .int (((ρ k 9) + (nI j66_3)) - ((ρ k 9) + (nI j66_3)) / (nI j160) * (nI j160))), (0, .ref (E.2.1 + k)), (3, .int (nI j66_3))]) hx hb dX2_nextPolled_85 hl (by decide) rfl (fun ls hl => ?_)
        refine lv_aload_n hx hb dX2_nextPolled_87 rfl (lv_at hl 1 rfl) ?_
        refine lv_iload hx hb dX2_nextPolled_88 (lv_at hl 0 rfl) ?_
        refine call_q (cVt (k := k) (av := [.int (((ρ k 9) + (nI j66_3)) - ((ρ k 9) + (nI j66_3)) / (nI j160) * (nI j160))]) (rest := []) B hP hS (d_X2_linkAt l E ρ r S hSS k h (((ρ k 9) + (nI j66_3)) - ((ρ k 9) + (nI j66_3)) / (nI j160) * (nI j160)) hI) lk_RX2_103 (hrecv (ci := 2) B hP (hk_lt (c := 2) h (by decide)) (hcc2 _ _ h) rfl) rfl rfl hl.1 (Nat.le_of_ble_eq_true rfl) ⟨Nat.le_of_ble_eq_true rfl, Nat.le_of_ble_eq_true rfl⟩ ⟨Nat.le_of_ble_eq_true rfl, Nat.le_of_ble_eq_true rfl⟩ dX2_nextPolled_90) hS (fun r165 ρ166 H locs q167 hP hS => ?_)
        obtain ⟨rfl, hI, q167⟩ := q167
        rcases q167 with rfl | ⟨j168, k169, rfl, hk169, ej168, uj168, gj168⟩
        · skip
          refine W.eq (g2 := F0 m 93 ls [.null]) rfl ?_
          refine lv_astoreN (lv' := [(5, .null), (4, .int (((ρ k 9) + (nI j66_3)) - ((ρ k 9) + (nI j66_3)) / (nI j160) * (nI j160))), (0, .ref (E.2.1 + k)), (3, .int (nI j66_3))]) hx hb dX2_nextPolled_93 hl (by decide) rfl (fun ls hl => ?_)
          refine lv_aloadN hx hb dX2_nextPolled_95 (lv_at hl 0 rfl) ?_
          refine lv_ifnullN (tgt := 148) hx hb dX2_nextPolled_97 (by decide) ?_
          exact b148_0 ls ρ _ _  (lv_sub hl [2, 3] rfl) hP hS hI (by omega) (by omega)
        · skip
          refine W.eq (g2 := F0 m 93 ls [.ref (E.2.1 + k169)]) rfl ?_
          have i170 : iR (ρ k 8) 1 4 := iR_w gj168 (by omega) (by omega)
          refine lv_astore (lv' := [(5, .ref (E.2.1 + k169)), (4, .int (((ρ k 9) + (nI j66_3)) - ((ρ k 9) + (nI j66_3)) / (nI j160) * (nI j160))), (0, .ref (E.2.1 + k)), (3, .int (nI j66_3))]) hx hb dX2_nextPolled_93 hl (by decide) rfl (fun ls hl => ?_)
          refine lv_aload hx hb dX2_nextPolled_95 (lv_at hl 0 rfl) ?_
          refine lv_ifnull hx hb dX2_nextPolled_97 ?_
          refine lv_aload hx hb dX2_nextPolled_100 (lv_at hl 0 rfl) ?_
          refine get1 B hP hk169 17 (by decide) mw_243 rfl dX2_nextPolled_102 ?_
          have i171 : iR (ρ k169 17) 0 1 := CI_get hI (kind_lt hk169 (by decide)) hk169 rfl
          obtain ⟨j172, lj172, uj172, ej172⟩ := iR_nat (a := 0) (b := 1) i171
          refine lv_topi (fun z173 ez173 => ?_)
          obtain rfl : z173 = nI j172 := ez173.trans ej172
          refine lv_if_eq (tgt := 148) hx hb dX2_nextPolled_105 (by decide) (fun c174 => ?_) (fun c174 => ?_)
          · skip
            have n175 := (nI_eq (a := j172) (b := 0) (by omega) (by omega)).mp (show (nI j172 = nI 0) from c174)
            exact b148_0 ls ρ _ _  (lv_sub hl [2, 3] rfl) hP hS hI (by omega) (by omega)
          · skip
            have n176 := mt (nI_eq (a := j172) (b := 0) (by omega) (by omega)).mpr (show ¬ (nI j172 = nI 0) from c174)
            refine lv_aload_n hx hb dX2_nextPolled_108 rfl (lv_at hl 2 rfl) ?_
            refine lv_iload hx hb dX2_nextPolled_109 (lv_at hl 1 rfl) ?_
            refine lv_topi (fun z177 ez177 => ?_)
            obtain rfl : z177 = nI j168 := ez177.trans ej168
            refine lv_aload_n hx hb dX2_nextPolled_111 rfl (lv_at hl 2 rfl) ?_
            refine get2 B hP h 9 (by decide) mw_306 (v := .int (ρ k 9)) (show some (Value.int (ρ k 9)) = some (Value.int (ρ k 9)) from congrArg (fun z => some (Value.int z)) rfl) dX2_nextPolled_112 ?_
            refine lv_icmp_ne (tgt := 135) hx hb dX2_nextPolled_115 (by decide) (fun c178 => ?_) (fun c178 => ?_)
            · skip
              exact b135_0 ls ρ _ _ ((((ρ k 9) + (nI j66_3)) - ((ρ k 9) + (nI j66_3)) / (nI j160) * (nI j160)) : Int32) (lv_sub hl [2, 1] rfl) hP hS hI (iR_w (show iR (((ρ k 9) + (nI j66_3)) - ((ρ k 9) + (nI j66_3)) / (nI j160) * (nI j160)) 0 3 from by rw [ej168]; exact nI_iR (by omega) (by omega) (by omega)) (by decide) (by decide)) (by omega) (by omega)
            · skip
              refine lv_aload_n hx hb dX2_nextPolled_118 rfl (lv_at hl 2 rfl) ?_
              refine get2 B hP h 10 (by decide) mw_308 rfl dX2_nextPolled_119 ?_
              refine lv_iconst (v := (-1)) hx hb dX2_nextPolled_122 (by decide) ?_
              refine lv_icmp_eq (tgt := 135) hx hb dX2_nextPolled_123 (by decide) (fun c179 => ?_) (fun c179 => ?_)
              · skip
                have i180 : iR (ρ k 10) (-1) (-1) := (by rw [c179]; exact ⟨by decide, by decide⟩)
                exact b135_0 ls ρ _ _ ((((ρ k 9) + (nI j66_3)) - ((ρ k 9) + (nI j66_3)) / (nI j160) * (nI j160)) : Int32) (lv_sub hl [2, 1] rfl) hP hS hI (iR_w (show iR (((ρ k 9) + (nI j66_3)) - ((ρ k 9) + (nI j66_3)) / (nI j160) * (nI j160)) 0 3 from by rw [ej168]; exact nI_iR (by omega) (by omega) (by omega)) (by decide) (by decide)) (by omega) (by omega)
              · skip
                refine lv_aload_n hx hb dX2_nextPolled_126 rfl (lv_at hl 2 rfl) ?_
                refine get2 B hP h 10 (by decide) mw_308 (v := .int (ρ k 10)) (show some (Value.int (ρ k 10)) = some (Value.int (ρ k 10)) from congrArg (fun z => some (Value.int z)) rfl) dX2_nextPolled_127 ?_
                refine lv_iconst (v := 1) hx hb dX2_nextPolled_130 (by decide) ?_
                refine lv_iadd hx hb dX2_nextPolled_131 ?_
                refine lv_goto (tgt := 136) hx hb dX2_nextPolled_132 (by decide) ?_
                exact b136_0 ls ρ _ _ ((((ρ k 9) + (nI j66_3)) - ((ρ k 9) + (nI j66_3)) / (nI j160) * (nI j160)) : Int32) (((ρ k 10) + 1) : Int32) (lv_sub hl [2, 1] rfl) hP hS hI (iR_w (show iR (((ρ k 9) + (nI j66_3)) - ((ρ k 9) + (nI j66_3)) / (nI j160) * (nI j160)) 0 3 from by rw [ej168]; exact nI_iR (by omega) (by omega) (by omega)) (by decide) (by decide)) (iR_w (iR_any ((ρ k 10) + 1)) (by decide) (by decide)) (by omega) (by omega)
  have b64_0 : ∀ (ls : Array Slot) (ρ : Nat → Nat → Int32) (H : Heap) (locs : List Loc) , lv_has ls 6 [(0, .ref (E.2.1 + k))] → WP E ρ H → va_S (hA E) s.heap H locs → CI r S ρ → W p l e (rmk 2 80) s m ([.ref (E.2.1 + k)] : List Value).toArray below meth c H locs 0 0 (MQ below (cI E (fun v ρ1 => CI r S ρ1)) ([.ref (E.2.1 + k)] : List Value).toArray s 0 0 (hA E)) (F0 m 64 ls []) := by
    intro ls ρ H locs  hl hP hS hI
    refine lv_iconst (v := 1) hx hb dX2_nextPolled_64 (by decide) ?_
    refine lv_istore_n (lv' := [(3, .int 1), (0, .ref (E.2.1 + k))]) hx hb dX2_nextPolled_65 rfl hl (by decide) rfl (fun ls hl => ?_)
    exact b66_0 ls ρ _ _ _ 1 (lv_sub hl [1, 0] rfl) hP hS hI (Nat.lt_succ_self _) (by omega) (by omega)
  have b37_0 : ∀ (ls : Array Slot) (ρ : Nat → Nat → Int32) (H : Heap) (locs : List Loc) , lv_has ls 6 [(0, .ref (E.2.1 + k)), (1, .null)] → WP E ρ H → va_S (hA E) s.heap H locs → CI r S ρ → W p l e (rmk 2 80) s m ([.ref (E.2.1 + k)] : List Value).toArray below meth c H locs 0 0 (MQ below (cI E (fun v ρ1 => CI r S ρ1)) ([.ref (E.2.1 + k)] : List Value).toArray s 0 0 (hA E)) (F0 m 37 ls [.int 0]) := by
    intro ls ρ H locs  hl hP hS hI
    refine lv_istore_n (lv' := [(2, .int 0), (0, .ref (E.2.1 + k)), (1, .null)]) hx hb dX2_nextPolled_37 rfl hl (by decide) rfl (fun ls hl => ?_)
    refine lv_iload_n hx hb dX2_nextPolled_38 rfl (lv_at hl 0 rfl) ?_
    refine lv_if_eq (tgt := 64) hx hb dX2_nextPolled_39 (by decide) (fun _ => ?_) (fun c181 => absurd rfl c181)
    exact b64_0 ls ρ _ _  (lv_sub hl [1] rfl) hP hS hI 
  have b37_1 : ∀ (ls : Array Slot) (ρ : Nat → Nat → Int32) (H : Heap) (locs : List Loc) (k37_1 : Nat), lv_has ls 6 [(0, .ref (E.2.1 + k)), (1, .ref (E.2.1 + k37_1))] → WP E ρ H → va_S (hA E) s.heap H locs → CI r S ρ → hk k37_1 = 1 → W p l e (rmk 2 80) s m ([.ref (E.2.1 + k)] : List Value).toArray below meth c H locs 0 0 (MQ below (cI E (fun v ρ1 => CI r S ρ1)) ([.ref (E.2.1 + k)] : List Value).toArray s 0 0 (hA E)) (F0 m 37 ls [.int 0]) := by
    intro ls ρ H locs k37_1 hl hP hS hI hk37_1
    refine lv_istore_n (lv' := [(2, .int 0), (0, .ref (E.2.1 + k)), (1, .ref (E.2.1 + k37_1))]) hx hb dX2_nextPolled_37 rfl hl (by decide) rfl (fun ls hl => ?_)
    refine lv_iload_n hx hb dX2_nextPolled_38 rfl (lv_at hl 0 rfl) ?_
    refine lv_if_eq (tgt := 64) hx hb dX2_nextPolled_39 (by decide) (fun _ => ?_) (fun c182 => absurd rfl c182)
    exact b64_0 ls ρ _ _  (lv_sub hl [1] rfl) hP hS hI 
  have b37_2 : ∀ (ls : Array Slot) (ρ : Nat → Nat → Int32) (H : Heap) (locs : List Loc) (k37_1 : Nat), lv_has ls 6 [(0, .ref (E.2.1 + k)), (1, .ref (E.2.1 + k37_1))] → WP E ρ H → va_S (hA E) s.heap H locs → CI r S ρ → hk k37_1 = 1 → W p l e (rmk 2 80) s m ([.ref (E.2.1 + k)] : List Value).toArray below meth c H locs 0 0 (MQ below (cI E (fun v ρ1 => CI r S ρ1)) ([.ref (E.2.1 + k)] : List Value).toArray s 0 0 (hA E)) (F0 m 37 ls [.int 1]) := by
    intro ls ρ H locs k37_1 hl hP hS hI hk37_1
    refine lv_istore_n (lv' := [(2, .int 1), (0, .ref (E.2.1 + k)), (1, .ref (E.2.1 + k37_1))]) hx hb dX2_nextPolled_37 rfl hl (by decide) rfl (fun ls hl => ?_)
    refine lv_iload_n hx hb dX2_nextPolled_38 rfl (lv_at hl 0 rfl) ?_
    refine lv_if_eq (tgt := 64) hx hb dX2_nextPolled_39 (by decide) (fun c183 => absurd c183 (iR_ne (show iR 1 (1) (1) from ⟨by decide, by decide⟩) (show iR 0 (0) (0) from ⟨by decide, by decide⟩) (by decide))) (fun _ => ?_)
    refine lv_aload_n hx hb dX2_nextPolled_42 rfl (lv_at hl 2 rfl) ?_
    refine get1 B hP hk37_1 17 (by decide) mw_243 rfl dX2_nextPolled_43 ?_
    have i184 : iR (ρ k37_1 17) 0 1 := CI_get hI (kind_lt hk37_1 (by decide)) hk37_1 rfl
    obtain ⟨j185, lj185, uj185, ej185⟩ := iR_nat (a := 0) (b := 1) i184
    refine lv_topi (fun z186 ez186 => ?_)
    obtain rfl : z186 = nI j185 := ez186.trans ej185
    refine lv_if_eq (tgt := 64) hx hb dX2_nextPolled_46 (by decide) (fun c187 => ?_) (fun c187 => ?_)
    · skip
      have n188 := (nI_eq (a := j185) (b := 0) (by omega) (by omega)).mp (show (nI j185 = nI 0) from c187)
      exact b64_0 ls ρ _ _  (lv_sub hl [1] rfl) hP hS hI 
    · skip
      have n189 := mt (nI_eq (a := j185) (b := 0) (by omega) (by omega)).mpr (show ¬ (nI j185 = nI 0) from c187)
      refine lv_aload_n hx hb dX2_nextPolled_49 rfl (lv_at hl 1 rfl) ?_
      refine lv_dup hx hb dX2_nextPolled_50 rfl ?_
      refine get2 B hP h 10 (by decide) mw_308 rfl dX2_nextPolled_51 ?_
      refine lv_iconst (v := 1) hx hb dX2_nextPolled_54 (by decide) ?_
      refine lv_iadd hx hb dX2_nextPolled_55 ?_
      refine put2 B hP hS h 10 (by decide) mw_308 rfl rfl rfl (fs2_10 E k _ _) dX2_nextPolled_56 (fun H locs hP hS => ?_)
      obtain ⟨ρ190, e191⟩ : ∃ z, z = up ρ k 10 ((ρ k 10) + 1) := ⟨_, rfl⟩
      rw [← e191] at hP
      have hI : CI r S ρ190 := by rw [e191]; exact CI_up hI (kind_lt h (by decide)) (SP_plain h rfl (by decide)) ⟨(fun _ => ⟨by decide, by decide, by decide⟩), (fun z2 => absurd (Eq.trans (Eq.symm h) z2) (by decide))⟩ hSS
      refine lv_aload_n hx hb dX2_nextPolled_59 rfl (lv_at hl 1 rfl) ?_
      refine get2 B hP h 9 (by decide) mw_306 rfl dX2_nextPolled_60 ?_
      exact ret_i B hr hlk hP hS dX2_nextPolled_63 (hI)
  have b36_0 : ∀ (ls : Array Slot) (ρ : Nat → Nat → Int32) (H : Heap) (locs : List Loc) , lv_has ls 6 [(0, .ref (E.2.1 + k)), (1, .null)] → WP E ρ H → va_S (hA E) s.heap H locs → CI r S ρ → W p l e (rmk 2 80) s m ([.ref (E.2.1 + k)] : List Value).toArray below meth c H locs 0 0 (MQ below (cI E (fun v ρ1 => CI r S ρ1)) ([.ref (E.2.1 + k)] : List Value).toArray s 0 0 (hA E)) (F0 m 36 ls []) := by
    intro ls ρ H locs  hl hP hS hI
    refine lv_iconst (v := 0) hx hb dX2_nextPolled_36 (by decide) ?_
    exact b37_0 ls ρ _ _  (lv_sub hl [0, 1] rfl) hP hS hI 
  have b36_1 : ∀ (ls : Array Slot) (ρ : Nat → Nat → Int32) (H : Heap) (locs : List Loc) (k36_1 : Nat), lv_has ls 6 [(0, .ref (E.2.1 + k)), (1, .ref (E.2.1 + k36_1))] → WP E ρ H → va_S (hA E) s.heap H locs → CI r S ρ → hk k36_1 = 1 → W p l e (rmk 2 80) s m ([.ref (E.2.1 + k)] : List Value).toArray below meth c H locs 0 0 (MQ below (cI E (fun v ρ1 => CI r S ρ1)) ([.ref (E.2.1 + k)] : List Value).toArray s 0 0 (hA E)) (F0 m 36 ls []) := by
    intro ls ρ H locs k36_1 hl hP hS hI hk36_1
    refine lv_iconst (v := 0) hx hb dX2_nextPolled_36 (by decide) ?_
    exact b37_1 ls ρ _ _ k36_1 (lv_sub hl [0, 1] rfl) hP hS hI hk36_1
  refine lv_aload_n hx hb dX2_nextPolled_0 rfl (lv_at hl 0 rfl) ?_
  refine lv_aload_n hx hb dX2_nextPolled_1 rfl (lv_at hl 0 rfl) ?_
  refine get2 B hP h 9 (by decide) mw_306 rfl dX2_nextPolled_2 ?_
  refine call_q (cVt (k := k) (av := [.int (ρ k 9)]) (rest := []) B hP hS (d_X2_linkAt l E ρ r S hSS k h (ρ k 9) hI) lk_RX2_103 (hrecv (ci := 2) B hP (hk_lt (c := 2) h (by decide)) (hcc2 _ _ h) rfl) rfl rfl hl.1 (Nat.le_of_ble_eq_true rfl) ⟨Nat.le_of_ble_eq_true rfl, Nat.le_of_ble_eq_true rfl⟩ ⟨Nat.le_of_ble_eq_true rfl, Nat.le_of_ble_eq_true rfl⟩ dX2_nextPolled_5) hS (fun r192 ρ193 H locs q194 hP hS => ?_)
  obtain ⟨rfl, hI, q194⟩ := q194
  rcases q194 with rfl | ⟨j195, k196, rfl, hk196, ej195, uj195, gj195⟩
  · skip
    refine W.eq (g2 := F0 m 8 ls [.null]) rfl ?_
    refine lv_astore_nN (lv' := [(1, .null), (0, .ref (E.2.1 + k))]) hx hb dX2_nextPolled_8 rfl hl (by decide) rfl (fun ls hl => ?_)
    refine lv_aload_nN hx hb dX2_nextPolled_9 rfl (lv_at hl 0 rfl) ?_
    refine lv_ifnullN (tgt := 36) hx hb dX2_nextPolled_10 (by decide) ?_
    exact b36_0 ls ρ _ _  (lv_sub hl [1, 0] rfl) hP hS hI 
  · skip
    refine W.eq (g2 := F0 m 8 ls [.ref (E.2.1 + k196)]) rfl ?_
    have i197 : iR (ρ k 8) 1 4 := iR_w gj195 (by omega) (by omega)
    refine lv_astore_n (lv' := [(1, .ref (E.2.1 + k196)), (0, .ref (E.2.1 + k))]) hx hb dX2_nextPolled_8 rfl hl (by decide) rfl (fun ls hl => ?_)
    refine lv_aload_n hx hb dX2_nextPolled_9 rfl (lv_at hl 0 rfl) ?_
    refine lv_ifnull hx hb dX2_nextPolled_10 ?_
    refine lv_aload_n hx hb dX2_nextPolled_13 rfl (lv_at hl 1 rfl) ?_
    refine get2 B hP h 10 (by decide) mw_308 rfl dX2_nextPolled_14 ?_
    refine lv_iconst (v := (-1)) hx hb dX2_nextPolled_17 (by decide) ?_
    refine lv_icmp_eq (tgt := 36) hx hb dX2_nextPolled_18 (by decide) (fun c198 => ?_) (fun c198 => ?_)
    · skip
      have i199 : iR (ρ k 10) (-1) (-1) := (by rw [c198]; exact ⟨by decide, by decide⟩)
      exact b36_1 ls ρ _ _ k196 (lv_sub hl [1, 0] rfl) hP hS hI hk196
    · skip
      refine lv_aload_n hx hb dX2_nextPolled_21 rfl (lv_at hl 1 rfl) ?_
      refine get2 B hP h 10 (by decide) mw_308 (v := .int (ρ k 10)) (show some (Value.int (ρ k 10)) = some (Value.int (ρ k 10)) from congrArg (fun z => some (Value.int z)) rfl) dX2_nextPolled_22 ?_
      refine lv_aload_n hx hb dX2_nextPolled_25 rfl (lv_at hl 0 rfl) ?_
      refine get1 B hP hk196 9 (by decide) mw_223 rfl dX2_nextPolled_26 ?_
      refine lv_icmp_ge (tgt := 36) hx hb dX2_nextPolled_29 (by decide) (fun c200 => ?_) (fun c200 => ?_)
      · skip
        exact b36_1 ls ρ _ _ k196 (lv_sub hl [1, 0] rfl) hP hS hI hk196
      · skip
        refine lv_iconst (v := 1) hx hb dX2_nextPolled_32 (by decide) ?_
        refine lv_goto (tgt := 37) hx hb dX2_nextPolled_33 (by decide) ?_
        exact b37_2 ls ρ _ _ k196 (lv_sub hl [1, 0] rfl) hP hS hI hk196

set_option maxHeartbeats 4000000 in
set_option maxRecDepth 100000 in
theorem d_X2_tallySent (l : Launch) (E : hE) (ρ r : Nat → Nat → Int32) (S : Nat × Nat → Prop) (hSS : SK S) (k : Nat) (h : hk k = 2) (hI : CI r S ρ) : Met l yX2_tallySent (.code yX2_tallySent cX2_tallySent 1 none :: gw_all) (rmk 1 40) (cPre E ρ [.ref (E.2.1 + k)]) (cV E (fun ρ1 => CI r S ρ1)) 0 0 (hA E) := by
  refine ent (own := RX2) (by decide) rfl (Nat.le_of_ble_eq_true rfl) ?_
  intro p e s m below meth c ls B hr hlk hl hP hS
  have hx := B.1.1
  have hb := B.1.2.1
  have hown := B.1.2.2.2.1
  have hts := B.1.2.2.2.2
  have hl : lv_has ls 1 [(0, .ref (E.2.1 + k))] := hl
  refine lv_aload_n hx hb dX2_tallySent_0 rfl (lv_at hl 0 rfl) ?_
  refine get2 B hP h 18 (by decide) mw_326 rfl dX2_tallySent_1 ?_
  refine lv_if_lt (tgt := 29) hx hb dX2_tallySent_4 (by decide) (fun c11 => ?_) (fun c11 => ?_)
  · skip
    have i12 : iR (ρ k 18) (-2147483648) (-1) := (iR_ltL (iR_any (ρ k 18)) (show iR 0 (0) (0) from ⟨by decide, by decide⟩) c11 (by decide))
    exact ret_v B hr hlk hP hS dX2_tallySent_29 (hI)
  · skip
    have i13 : iR (ρ k 18) (0) (2147483647) := (iR_geL (iR_any (ρ k 18)) (show iR 0 (0) (0) from ⟨by decide, by decide⟩) c11 (by decide))
    refine lv_aload_n hx hb dX2_tallySent_7 rfl (lv_at hl 0 rfl) ?_
    refine get2 B hP h 18 (by decide) mw_326 (v := .int (ρ k 18)) (show some (Value.int (ρ k 18)) = some (Value.int (ρ k 18)) from congrArg (fun z => some (Value.int z)) rfl) dX2_tallySent_8 ?_
    refine lv_bipush (v := 23) hx hb dX2_tallySent_11 (by decide) ?_
    refine lv_icmp_ge (tgt := 29) hx hb dX2_tallySent_13 (by decide) (fun c14 => ?_) (fun c14 => ?_)
    · skip
      have i15 : iR (ρ k 18) (23) (2147483647) := (iR_geL i13 (show iR 23 (23) (23) from ⟨by decide, by decide⟩) (Int32.not_lt.mpr c14) (by decide))
      exact ret_v B hr hlk hP hS dX2_tallySent_29 (hI)
    · skip
      have i16 : iR (ρ k 18) (0) (22) := (iR_ltL i13 (show iR 23 (23) (23) from ⟨by decide, by decide⟩) (Int32.not_le.mp c14) (by decide))
      refine lv_aload_n hx hb dX2_tallySent_16 rfl (lv_at hl 0 rfl) ?_
      refine get2 B hP h 2 (by decide) mw_287 rfl dX2_tallySent_17 ?_
      refine lv_aload_n hx hb dX2_tallySent_20 rfl (lv_at hl 0 rfl) ?_
      refine get2 B hP h 18 (by decide) mw_326 (v := .int (ρ k 18)) (show some (Value.int (ρ k 18)) = some (Value.int (ρ k 18)) from congrArg (fun z => some (Value.int z)) rfl) dX2_tallySent_21 ?_
      obtain ⟨j17, lj17, uj17, ej17⟩ := iR_nat (a := 0) (b := 22) i16
      refine lv_topi (fun z18 ez18 => ?_)
      obtain rfl : z18 = nI j17 := ez18.trans ej17
      refine lv_dup2_11 hx hb dX2_tallySent_24 rfl rfl ?_
      refine aldn (n := 23) (j := j17) B hP (lay2 h).2.2.2.1 (lay2 h).2.2.2.2.1 rfl (by omega) (by decide) dX2_tallySent_25 ?_
      refine lv_iconst (v := 1) hx hb dX2_tallySent_26 (by decide) ?_
      refine lv_iadd hx hb dX2_tallySent_27 ?_
      refine astn (n := 23) (j := j17) B hP hS (lay2 h).2.2.2.1 (lay2 h).2.2.2.2.1 rfl (by omega) (by decide) dX2_tallySent_28 (fun H locs hP hS => ?_)
      obtain ⟨ρ19, e20⟩ : ∃ z, z = up ρ (k + 3) j17 ((ρ (k + 3) j17) + 1) := ⟨_, rfl⟩
      rw [← e20] at hP
      have hI : CI r S ρ19 := by rw [e20]; exact CI_up hI (by have := lay2l h; omega) (SP_plain (lay2 h).2.2.2.1 rfl (by decide)) ⟨(fun z2 => absurd (Eq.trans (Eq.symm (lay2 h).2.2.2.1) z2) (by decide)), (fun z2 => absurd (Eq.trans (Eq.symm (lay2 h).2.2.2.1) z2) (by decide))⟩ hSS
      exact ret_v B hr hlk hP hS dX2_tallySent_29 (hI)

set_option maxHeartbeats 4000000 in
set_option maxRecDepth 100000 in
theorem d_X2_tallyAnswered (l : Launch) (E : hE) (ρ r : Nat → Nat → Int32) (S : Nat × Nat → Prop) (hSS : SK S) (k : Nat) (h : hk k = 2) (hI : CI r S ρ) : Met l yX2_tallyAnswered (.code yX2_tallyAnswered cX2_tallyAnswered 1 none :: gw_all) (rmk 1 40) (cPre E ρ [.ref (E.2.1 + k)]) (cV E (fun ρ1 => CI r S ρ1)) 0 0 (hA E) := by
  refine ent (own := RX2) (by decide) rfl (Nat.le_of_ble_eq_true rfl) ?_
  intro p e s m below meth c ls B hr hlk hl hP hS
  have hx := B.1.1
  have hb := B.1.2.1
  have hown := B.1.2.2.2.1
  have hts := B.1.2.2.2.2
  have hl : lv_has ls 1 [(0, .ref (E.2.1 + k))] := hl
  refine lv_aload_n hx hb dX2_tallyAnswered_0 rfl (lv_at hl 0 rfl) ?_
  refine get2 B hP h 18 (by decide) mw_326 rfl dX2_tallyAnswered_1 ?_
  refine lv_if_lt (tgt := 29) hx hb dX2_tallyAnswered_4 (by decide) (fun c11 => ?_) (fun c11 => ?_)
  · skip
    have i12 : iR (ρ k 18) (-2147483648) (-1) := (iR_ltL (iR_any (ρ k 18)) (show iR 0 (0) (0) from ⟨by decide, by decide⟩) c11 (by decide))
    exact ret_v B hr hlk hP hS dX2_tallyAnswered_29 (hI)
  · skip
    have i13 : iR (ρ k 18) (0) (2147483647) := (iR_geL (iR_any (ρ k 18)) (show iR 0 (0) (0) from ⟨by decide, by decide⟩) c11 (by decide))
    refine lv_aload_n hx hb dX2_tallyAnswered_7 rfl (lv_at hl 0 rfl) ?_
    refine get2 B hP h 18 (by decide) mw_326 (v := .int (ρ k 18)) (show some (Value.int (ρ k 18)) = some (Value.int (ρ k 18)) from congrArg (fun z => some (Value.int z)) rfl) dX2_tallyAnswered_8 ?_
    refine lv_bipush (v := 23) hx hb dX2_tallyAnswered_11 (by decide) ?_
    refine lv_icmp_ge (tgt := 29) hx hb dX2_tallyAnswered_13 (by decide) (fun c14 => ?_) (fun c14 => ?_)
    · skip
      have i15 : iR (ρ k 18) (23) (2147483647) := (iR_geL i13 (show iR 23 (23) (23) from ⟨by decide, by decide⟩) (Int32.not_lt.mpr c14) (by decide))
      exact ret_v B hr hlk hP hS dX2_tallyAnswered_29 (hI)
    · skip
      have i16 : iR (ρ k 18) (0) (22) := (iR_ltL i13 (show iR 23 (23) (23) from ⟨by decide, by decide⟩) (Int32.not_le.mp c14) (by decide))
      refine lv_aload_n hx hb dX2_tallyAnswered_16 rfl (lv_at hl 0 rfl) ?_
      refine get2 B hP h 3 (by decide) mw_289 rfl dX2_tallyAnswered_17 ?_
      refine lv_aload_n hx hb dX2_tallyAnswered_20 rfl (lv_at hl 0 rfl) ?_
      refine get2 B hP h 18 (by decide) mw_326 (v := .int (ρ k 18)) (show some (Value.int (ρ k 18)) = some (Value.int (ρ k 18)) from congrArg (fun z => some (Value.int z)) rfl) dX2_tallyAnswered_21 ?_
      obtain ⟨j17, lj17, uj17, ej17⟩ := iR_nat (a := 0) (b := 22) i16
      refine lv_topi (fun z18 ez18 => ?_)
      obtain rfl : z18 = nI j17 := ez18.trans ej17
      refine lv_dup2_11 hx hb dX2_tallyAnswered_24 rfl rfl ?_
      refine aldn (n := 23) (j := j17) B hP (lay2 h).2.2.2.2.2.1 (lay2 h).2.2.2.2.2.2.1 rfl (by omega) (by decide) dX2_tallyAnswered_25 ?_
      refine lv_iconst (v := 1) hx hb dX2_tallyAnswered_26 (by decide) ?_
      refine lv_iadd hx hb dX2_tallyAnswered_27 ?_
      refine astn (n := 23) (j := j17) B hP hS (lay2 h).2.2.2.2.2.1 (lay2 h).2.2.2.2.2.2.1 rfl (by omega) (by decide) dX2_tallyAnswered_28 (fun H locs hP hS => ?_)
      obtain ⟨ρ19, e20⟩ : ∃ z, z = up ρ (k + 4) j17 ((ρ (k + 4) j17) + 1) := ⟨_, rfl⟩
      rw [← e20] at hP
      have hI : CI r S ρ19 := by rw [e20]; exact CI_up hI (by have := lay2l h; omega) (SP_plain (lay2 h).2.2.2.2.2.1 rfl (by decide)) ⟨(fun z2 => absurd (Eq.trans (Eq.symm (lay2 h).2.2.2.2.2.1) z2) (by decide)), (fun z2 => absurd (Eq.trans (Eq.symm (lay2 h).2.2.2.2.2.1) z2) (by decide))⟩ hSS
      exact ret_v B hr hlk hP hS dX2_tallyAnswered_29 (hI)

set_option maxHeartbeats 4000000 in
set_option maxRecDepth 100000 in
theorem d_X2_dropFirstCast (l : Launch) (E : hE) (ρ r : Nat → Nat → Int32) (S : Nat × Nat → Prop) (hSS : SK S) (k : Nat) (h : hk k = 2) (hI : CI r (SA S k 1) ρ) (hne : ∀ x, S x → x.1 ≠ k) : Met l yX2_dropFirstCast (.code yX2_dropFirstCast cX2_dropFirstCast 2 none :: gw_all) (rmk 1 40) (cPre E ρ [.ref (E.2.1 + k)]) (cV E (fun ρ1 => CI r S ρ1)) 0 0 (hA E) := by
  refine ent (own := RX2) (by decide) rfl (Nat.le_of_ble_eq_true rfl) ?_
  intro p e s m below meth c ls B hr hlk hl hP hS
  have hx := B.1.1
  have hb := B.1.2.1
  have hown := B.1.2.2.2.1
  have hts := B.1.2.2.2.2
  have hl : lv_has ls 2 [(0, .ref (E.2.1 + k))] := hl
  have b35_0 : ∀ (ls : Array Slot) (ρ : Nat → Nat → Int32) (H : Heap) (locs : List Loc) , lv_has ls 2 [(0, .ref (E.2.1 + k))] → WP E ρ H → va_S (hA E) s.heap H locs → CI r (SA S k 1) ρ → W p l e (rmk 1 40) s m ([.ref (E.2.1 + k)] : List Value).toArray below meth c H locs 0 0 (MQ below (cV E (fun ρ1 => CI r S ρ1)) ([.ref (E.2.1 + k)] : List Value).toArray s 0 0 (hA E)) (F0 m 35 ls []) := by
    intro ls ρ H locs  hl hP hS hI
    refine lv_aload_n hx hb dX2_dropFirstCast_35 rfl (lv_at hl 0 rfl) ?_
    refine lv_dup hx hb dX2_dropFirstCast_36 rfl ?_
    refine get2 B hP h 11 (by decide) mw_309 rfl dX2_dropFirstCast_37 ?_
    have i55 : iR (ρ k 11) 1 4 := RC1.mp (hI.2.1 (k, 1) (Or.inr rfl))
    obtain ⟨j56, lj56, uj56, ej56⟩ := iR_nat (a := 1) (b := 4) i55
    refine lv_topi (fun z57 ez57 => ?_)
    obtain rfl : z57 = nI j56 := ez57.trans ej56
    refine lv_iconst (v := 1) hx hb dX2_dropFirstCast_40 (by decide) ?_
    refine lv_isub hx hb dX2_dropFirstCast_41 ?_
    obtain ⟨j58, lj58, uj58, ej58⟩ := iR_nat (a := 0) (b := 3) (iR_sub (a' := 0) (b' := 3) (nI_iR (j := j56) (a := 1) (b := 4) (by omega) (by omega) (by omega)) (show iR 1 (1) (1) from ⟨by decide, by decide⟩) (by decide) (by decide) (by decide) (by decide))
    refine lv_topi (fun z59 ez59 => ?_)
    obtain rfl : z59 = nI j58 := ez59.trans ej58
    refine put2 B hP hS h 11 (by decide) mw_309 rfl rfl rfl (fs2_11 E k _ _) dX2_dropFirstCast_42 (fun H locs hP hS => ?_)
    obtain ⟨ρ60, e61⟩ : ∃ z, z = up ρ k 11 (nI j58) := ⟨_, rfl⟩
    rw [← e61] at hP
    have hI : CI r S ρ60 := by rw [e61]; exact CI_upS hI (kind_lt h (by decide)) (SP_rng h rfl (by decide) (iR_w (a := 0) (b := 3) (nI_iR (j := j58) (a := 0) (b := 3) (by omega) (by omega) (by omega)) (by decide) (by decide))) (fun x hx => RC_ne (hI.2.1 x (Or.inl hx)) (hne x hx))
    refine lv_aload_n hx hb dX2_dropFirstCast_45 rfl (lv_at hl 0 rfl) ?_
    refine lv_iconst (v := 0) hx hb dX2_dropFirstCast_46 (by decide) ?_
    refine put2 B hP hS h 13 (by decide) mw_314 rfl rfl rfl (fs2_13 E k _ _) dX2_dropFirstCast_47 (fun H locs hP hS => ?_)
    obtain ⟨ρ62, e63⟩ : ∃ z, z = up ρ60 k 13 0 := ⟨_, rfl⟩
    rw [← e63] at hP
    have hI : CI r S ρ62 := by rw [e63]; exact CI_up hI (kind_lt h (by decide)) (SP_plain h rfl (by decide)) ⟨(fun _ => ⟨by decide, by decide, by decide⟩), (fun z2 => absurd (Eq.trans (Eq.symm h) z2) (by decide))⟩ hSS
    refine lv_aload_n hx hb dX2_dropFirstCast_50 rfl (lv_at hl 0 rfl) ?_
    refine lv_iconst (v := 1) hx hb dX2_dropFirstCast_51 (by decide) ?_
    refine lv_aload_n hx hb dX2_dropFirstCast_52 rfl (lv_at hl 0 rfl) ?_
    refine get2 B hP h 12 (by decide) mw_312 rfl dX2_dropFirstCast_53 ?_
    refine lv_isub hx hb dX2_dropFirstCast_56 ?_
    refine put2 B hP hS h 12 (by decide) mw_312 rfl rfl rfl (fs2_12 E k _ _) dX2_dropFirstCast_57 (fun H locs hP hS => ?_)
    obtain ⟨ρ64, e65⟩ : ∃ z, z = up ρ62 k 12 (1 - (ρ62 k 12)) := ⟨_, rfl⟩
    rw [← e65] at hP
    have hI : CI r S ρ64 := by rw [e65]; exact CI_up hI (kind_lt h (by decide)) (SP_plain h rfl (by decide)) ⟨(fun _ => ⟨by decide, by decide, by decide⟩), (fun z2 => absurd (Eq.trans (Eq.symm h) z2) (by decide))⟩ hSS
    exact ret_v B hr hlk hP hS dX2_dropFirstCast_60 (hI)
  have b2_0 : ∀ (ls : Array Slot) (ρ : Nat → Nat → Int32) (H : Heap) (locs : List Loc) (d2 : Nat) (j2_1 : Nat), lv_has ls 2 [(0, .ref (E.2.1 + k)), (1, .int (nI j2_1))] → WP E ρ H → va_S (hA E) s.heap H locs → CI r (SA S k 1) ρ → 5 - j2_1 < d2 → 1 ≤ j2_1 → j2_1 ≤ 4 → W p l e (rmk 1 40) s m ([.ref (E.2.1 + k)] : List Value).toArray below meth c H locs 0 0 (MQ below (cV E (fun ρ1 => CI r S ρ1)) ([.ref (E.2.1 + k)] : List Value).toArray s 0 0 (hA E)) (F0 m 2 ls []) := by
    intro ls ρ H locs d2
    induction d2 generalizing ls ρ H locs with
    | zero => intro j2_1 hl hP hS hI hd2 lj2_1 uj2_1; exact absurd hd2 (Nat.not_lt_zero _)
    | succ d2 ih2 =>
      intro j2_1 hl hP hS hI hd2 lj2_1 uj2_1
      refine lv_iload_n hx hb dX2_dropFirstCast_2 rfl (lv_at hl 1 rfl) ?_
      refine lv_aload_n hx hb dX2_dropFirstCast_3 rfl (lv_at hl 0 rfl) ?_
      refine get2 B hP h 11 (by decide) mw_309 rfl dX2_dropFirstCast_4 ?_
      have i66 : iR (ρ k 11) 1 4 := RC1.mp (hI.2.1 (k, 1) (Or.inr rfl))
      obtain ⟨j67, lj67, uj67, ej67⟩ := iR_nat (a := 1) (b := 4) i66
      refine lv_topi (fun z68 ez68 => ?_)
      obtain rfl : z68 = nI j67 := ez68.trans ej67
      refine lv_icmp_ge (tgt := 35) hx hb dX2_dropFirstCast_7 (by decide) (fun c69 => ?_) (fun c69 => ?_)
      · skip
        have n70 := mt (nx_lt (a := j2_1) (b := j67) (by omega) (by omega)).mpr (show ¬ (nI j2_1 < nI j67) from (Int32.not_lt.mpr c69))
        exact b35_0 ls ρ _ _  (lv_sub hl [0] rfl) hP hS hI 
      · skip
        have n71 := (nx_lt (a := j2_1) (b := j67) (by omega) (by omega)).mp (show (nI j2_1 < nI j67) from (Int32.not_le.mp c69))
        refine lv_iload_n hx hb dX2_dropFirstCast_10 rfl (lv_at hl 1 rfl) ?_
        refine lv_iconst (v := 4) hx hb dX2_dropFirstCast_11 (by decide) ?_
        refine lv_icmp_ge (tgt := 35) hx hb dX2_dropFirstCast_12 (by decide) (fun c72 => absurd c72 (iR_nle (show iR 4 (4) (4) from ⟨by decide, by decide⟩) (nI_iR (j := j2_1) (a := 1) (b := 3) (by omega) (by omega) (by omega)) (by decide))) (fun _ => ?_)
        refine lv_aload_n hx hb dX2_dropFirstCast_15 rfl (lv_at hl 0 rfl) ?_
        refine get2 B hP h 1 (by decide) mw_285 rfl dX2_dropFirstCast_16 ?_
        refine lv_iload_n hx hb dX2_dropFirstCast_19 rfl (lv_at hl 1 rfl) ?_
        refine lv_iconst (v := 1) hx hb dX2_dropFirstCast_20 (by decide) ?_
        refine lv_isub hx hb dX2_dropFirstCast_21 ?_
        obtain ⟨j73, lj73, uj73, ej73⟩ := iR_nat (a := 0) (b := 2) (iR_sub (a' := 0) (b' := 2) (nI_iR (j := j2_1) (a := 1) (b := 3) (by omega) (by omega) (by omega)) (show iR 1 (1) (1) from ⟨by decide, by decide⟩) (by decide) (by decide) (by decide) (by decide))
        refine lv_topi (fun z74 ez74 => ?_)
        obtain rfl : z74 = nI j73 := ez74.trans ej73
        refine lv_aload_n hx hb dX2_dropFirstCast_22 rfl (lv_at hl 0 rfl) ?_
        refine get2 B hP h 1 (by decide) mw_285 rfl dX2_dropFirstCast_23 ?_
        refine lv_iload_n hx hb dX2_dropFirstCast_26 rfl (lv_at hl 1 rfl) ?_
        refine aldn (n := 4) (j := j2_1) B hP (lay2 h).2.1 (lay2 h).2.2.1 rfl (by omega) (by decide) dX2_dropFirstCast_27 ?_
        refine astn (n := 4) (j := j73) B hP hS (lay2 h).2.1 (lay2 h).2.2.1 rfl (by omega) (by decide) dX2_dropFirstCast_28 (fun H locs hP hS => ?_)
        obtain ⟨ρ75, e76⟩ : ∃ z, z = up ρ (k + 2) j73 (ρ (k + 2) j2_1) := ⟨_, rfl⟩
        rw [← e76] at hP
        have hI : CI r (SA S k 1) ρ75 := by rw [e76]; exact CI_up hI (by have := lay2l h; omega) (SP_plain (lay2 h).2.1 rfl (by decide)) ⟨(fun z2 => absurd (Eq.trans (Eq.symm (lay2 h).2.1) z2) (by decide)), (fun z2 => absurd (Eq.trans (Eq.symm (lay2 h).2.1) z2) (by decide))⟩ (hSA hSS h (by decide))
        refine lv_iinc (v := (nI (1 + j2_1))) (lv' := [(1, .int (nI (1 + j2_1))), (0, .ref (E.2.1 + k))]) hx hb dX2_dropFirstCast_29 hl (k := 1) rfl (show nI j2_1 + nI 1 = _ from (nI_add _ _).trans (congrArg nI (by omega))) (by decide) rfl (fun ls hl => ?_)
        refine lv_goto (tgt := 2) hx hb dX2_dropFirstCast_32 (by decide) ?_
        exact ih2 ls ρ75 _ _ (1 + j2_1) (lv_sub hl [1, 0] rfl) hP hS hI (by omega) (by omega) (by omega)
  refine lv_iconst (v := 1) hx hb dX2_dropFirstCast_0 (by decide) ?_
  refine lv_istore_n (lv' := [(1, .int 1), (0, .ref (E.2.1 + k))]) hx hb dX2_dropFirstCast_1 rfl hl (by decide) rfl (fun ls hl => ?_)
  exact b2_0 ls ρ _ _ _ 1 (lv_sub hl [1, 0] rfl) hP hS hI (Nat.lt_succ_self _) (by omega) (by omega)

set_option maxHeartbeats 4000000 in
set_option maxRecDepth 100000 in
theorem d_J6_bitCount_0f7a4 (l : Launch) (E : hE) (ρ r : Nat → Nat → Int32) (S : Nat × Nat → Prop) (hSS : SK S) (a1 : Int32) (hI : CI r S ρ) : Met l yJ6_bitCount_0f7a4 (.code yJ6_bitCount_0f7a4 cJ6_bitCount_0f7a4 1 (some .int) :: gw_all) (rmk 1 40) (cPre E ρ [.int a1]) (cI E (fun v ρ1 => ρ = ρ1 ∧ CI r S ρ1)) 0 0 (hA E) := by
  refine ent (own := RJ6) (by decide) rfl (Nat.le_of_ble_eq_true rfl) ?_
  intro p e s m below meth c ls B hr hlk hl hP hS
  have hx := B.1.1
  have hb := B.1.2.1
  have hown := B.1.2.2.2.1
  have hts := B.1.2.2.2.2
  have hl : lv_has ls 1 [(0, .int a1)] := hl
  refine lv_iload_n hx hb dJ6_bitCount_0f7a4_0 rfl (lv_at hl 0 rfl) ?_
  refine lv_iload_n hx hb dJ6_bitCount_0f7a4_1 rfl (lv_at hl 0 rfl) ?_
  refine lv_iconst (v := 1) hx hb dJ6_bitCount_0f7a4_2 (by decide) ?_
  refine lv_iushr hx hb dJ6_bitCount_0f7a4_3 rfl ?_
  refine lv_ldcw (v := 1431655765) hx hb hown (hts _ mw_614) dJ6_bitCount_0f7a4_4 ?_
  refine lv_iand hx hb dJ6_bitCount_0f7a4_7 ?_
  refine lv_isub hx hb dJ6_bitCount_0f7a4_8 ?_
  refine lv_istore_n (lv' := [(0, .int (a1 - ((a1.toUInt32 >>> ((1 : Int32).toUInt32 &&& Int32.toUInt32 31)).toInt32 &&& 1431655765)))]) hx hb dJ6_bitCount_0f7a4_9 rfl hl (by decide) rfl (fun ls hl => ?_)
  refine lv_iload_n hx hb dJ6_bitCount_0f7a4_10 rfl (lv_at hl 0 rfl) ?_
  refine lv_ldcw (v := 858993459) hx hb hown (hts _ mw_615) dJ6_bitCount_0f7a4_11 ?_
  refine lv_iand hx hb dJ6_bitCount_0f7a4_14 ?_
  refine lv_iload_n hx hb dJ6_bitCount_0f7a4_15 rfl (lv_at hl 0 rfl) ?_
  refine lv_iconst (v := 2) hx hb dJ6_bitCount_0f7a4_16 (by decide) ?_
  refine lv_iushr hx hb dJ6_bitCount_0f7a4_17 rfl ?_
  refine lv_ldcw (v := 858993459) hx hb hown (hts _ mw_615) dJ6_bitCount_0f7a4_18 ?_
  refine lv_iand hx hb dJ6_bitCount_0f7a4_21 ?_
  refine lv_iadd hx hb dJ6_bitCount_0f7a4_22 ?_
  refine lv_istore_n (lv' := [(0, .int (((a1 - ((a1.toUInt32 >>> ((1 : Int32).toUInt32 &&& Int32.toUInt32 31)).toInt32 &&& 1431655765)) &&& 858993459) + (((a1 - ((a1.toUInt32 >>> ((1 : Int32).toUInt32 &&& Int32.toUInt32 31)).toInt32 &&& 1431655765)).toUInt32 >>> ((2 : Int32).toUInt32 &&& Int32.toUInt32 31)).toInt32 &&& 858993459)))]) hx hb dJ6_bitCount_0f7a4_23 rfl hl (by decide) rfl (fun ls hl => ?_)
  refine lv_iload_n hx hb dJ6_bitCount_0f7a4_24 rfl (lv_at hl 0 rfl) ?_
  refine lv_iload_n hx hb dJ6_bitCount_0f7a4_25 rfl (lv_at hl 0 rfl) ?_
  refine lv_iconst (v := 4) hx hb dJ6_bitCount_0f7a4_26 (by decide) ?_
  refine lv_iushr hx hb dJ6_bitCount_0f7a4_27 rfl ?_
  refine lv_iadd hx hb dJ6_bitCount_0f7a4_28 ?_
  refine lv_ldcw (v := 252645135) hx hb hown (hts _ mw_616) dJ6_bitCount_0f7a4_29 ?_
  refine lv_iand hx hb dJ6_bitCount_0f7a4_32 ?_
  refine lv_istore_n (lv' := [(0, .int (((((a1 - ((a1.toUInt32 >>> ((1 : Int32).toUInt32 &&& Int32.toUInt32 31)).toInt32 &&& 1431655765)) &&& 858993459) + (((a1 - ((a1.toUInt32 >>> ((1 : Int32).toUInt32 &&& Int32.toUInt32 31)).toInt32 &&& 1431655765)).toUInt32 >>> ((2 : Int32).toUInt32 &&& Int32.toUInt32 31)).toInt32 &&& 858993459)) + ((((a1 - ((a1.toUInt32 >>> ((1 : Int32).toUInt32 &&& Int32.toUInt32 31)).toInt32 &&& 1431655765)) &&& 858993459) + (((a1 - ((a1.toUInt32 >>> ((1 : Int32).toUInt32 &&& Int32.toUInt32 31)).toInt32 &&& 1431655765)).toUInt32 >>> ((2 : Int32).toUInt32 &&& Int32.toUInt32 31)).toInt32 &&& 858993459)).toUInt32 >>> ((4 : Int32).toUInt32 &&& Int32.toUInt32 31)).toInt32) &&& 252645135))]) hx hb dJ6_bitCount_0f7a4_33 rfl hl (by decide) rfl (fun ls hl => ?_)
  refine lv_iload_n hx hb dJ6_bitCount_0f7a4_34 rfl (lv_at hl 0 rfl) ?_
  refine lv_iload_n hx hb dJ6_bitCount_0f7a4_35 rfl (lv_at hl 0 rfl) ?_
  refine lv_bipush (v := 8) hx hb dJ6_bitCount_0f7a4_36 (by decide) ?_
  refine lv_iushr hx hb dJ6_bitCount_0f7a4_38 rfl ?_
  refine lv_iadd hx hb dJ6_bitCount_0f7a4_39 ?_
  refine lv_istore_n (lv' := [(0, .int ((((((a1 - ((a1.toUInt32 >>> ((1 : Int32).toUInt32 &&& Int32.toUInt32 31)).toInt32 &&& 1431655765)) &&& 858993459) + (((a1 - ((a1.toUInt32 >>> ((1 : Int32).toUInt32 &&& Int32.toUInt32 31)).toInt32 &&& 1431655765)).toUInt32 >>> ((2 : Int32).toUInt32 &&& Int32.toUInt32 31)).toInt32 &&& 858993459)) + ((((a1 - ((a1.toUInt32 >>> ((1 : Int32).toUInt32 &&& Int32.toUInt32 31)).toInt32 &&& 1431655765)) &&& 858993459) + (((a1 - ((a1.toUInt32 >>> ((1 : Int32).toUInt32 &&& Int32.toUInt32 31)).toInt32 &&& 1431655765)).toUInt32 >>> ((2 : Int32).toUInt32 &&& Int32.toUInt32 31)).toInt32 &&& 858993459)).toUInt32 >>> ((4 : Int32).toUInt32 &&& Int32.toUInt32 31)).toInt32) &&& 252645135) + ((((((a1 - ((a1.toUInt32 >>> ((1 : Int32).toUInt32 &&& Int32.toUInt32 31)).toInt32 &&& 1431655765)) &&& 858993459) + (((a1 - ((a1.toUInt32 >>> ((1 : Int32).toUInt32 &&& Int32.toUInt32 31)).toInt32 &&& 1431655765)).toUInt32 >>> ((2 : Int32).toUInt32 &&& Int32.toUInt32 31)).toInt32 &&& 858993459)) + ((((a1 - ((a1.toUInt32 >>> ((1 : Int32).toUInt32 &&& Int32.toUInt32 31)).toInt32 &&& 1431655765)) &&& 858993459) + (((a1 - ((a1.toUInt32 >>> ((1 : Int32).toUInt32 &&& Int32.toUInt32 31)).toInt32 &&& 1431655765)).toUInt32 >>> ((2 : Int32).toUInt32 &&& Int32.toUInt32 31)).toInt32 &&& 858993459)).toUInt32 >>> ((4 : Int32).toUInt32 &&& Int32.toUInt32 31)).toInt32) &&& 252645135).toUInt32 >>> ((8 : Int32).toUInt32 &&& Int32.toUInt32 31)).toInt32))]) hx hb dJ6_bitCount_0f7a4_40 rfl hl (by decide) rfl (fun ls hl => ?_)
  refine lv_iload_n hx hb dJ6_bitCount_0f7a4_41 rfl (lv_at hl 0 rfl) ?_
  refine lv_iload_n hx hb dJ6_bitCount_0f7a4_42 rfl (lv_at hl 0 rfl) ?_
  refine lv_bipush (v := 16) hx hb dJ6_bitCount_0f7a4_43 (by decide) ?_
  refine lv_iushr hx hb dJ6_bitCount_0f7a4_45 rfl ?_
  refine lv_iadd hx hb dJ6_bitCount_0f7a4_46 ?_
  refine lv_istore_n (lv' := [(0, .int (((((((a1 - ((a1.toUInt32 >>> ((1 : Int32).toUInt32 &&& Int32.toUInt32 31)).toInt32 &&& 1431655765)) &&& 858993459) + (((a1 - ((a1.toUInt32 >>> ((1 : Int32).toUInt32 &&& Int32.toUInt32 31)).toInt32 &&& 1431655765)).toUInt32 >>> ((2 : Int32).toUInt32 &&& Int32.toUInt32 31)).toInt32 &&& 858993459)) + ((((a1 - ((a1.toUInt32 >>> ((1 : Int32).toUInt32 &&& Int32.toUInt32 31)).toInt32 &&& 1431655765)) &&& 858993459) + (((a1 - ((a1.toUInt32 >>> ((1 : Int32).toUInt32 &&& Int32.toUInt32 31)).toInt32 &&& 1431655765)).toUInt32 >>> ((2 : Int32).toUInt32 &&& Int32.toUInt32 31)).toInt32 &&& 858993459)).toUInt32 >>> ((4 : Int32).toUInt32 &&& Int32.toUInt32 31)).toInt32) &&& 252645135) + ((((((a1 - ((a1.toUInt32 >>> ((1 : Int32).toUInt32 &&& Int32.toUInt32 31)).toInt32 &&& 1431655765)) &&& 858993459) + (((a1 - ((a1.toUInt32 >>> ((1 : Int32).toUInt32 &&& Int32.toUInt32 31)).toInt32 &&& 1431655765)).toUInt32 >>> ((2 : Int32).toUInt32 &&& Int32.toUInt32 31)).toInt32 &&& 858993459)) + ((((a1 - ((a1.toUInt32 >>> ((1 : Int32).toUInt32 &&& Int32.toUInt32 31)).toInt32 &&& 1431655765)) &&& 858993459) + (((a1 - ((a1.toUInt32 >>> ((1 : Int32).toUInt32 &&& Int32.toUInt32 31)).toInt32 &&& 1431655765)).toUInt32 >>> ((2 : Int32).toUInt32 &&& Int32.toUInt32 31)).toInt32 &&& 858993459)).toUInt32 >>> ((4 : Int32).toUInt32 &&& Int32.toUInt32 31)).toInt32) &&& 252645135).toUInt32 >>> ((8 : Int32).toUInt32 &&& Int32.toUInt32 31)).toInt32) + (((((((a1 - ((a1.toUInt32 >>> ((1 : Int32).toUInt32 &&& Int32.toUInt32 31)).toInt32 &&& 1431655765)) &&& 858993459) + (((a1 - ((a1.toUInt32 >>> ((1 : Int32).toUInt32 &&& Int32.toUInt32 31)).toInt32 &&& 1431655765)).toUInt32 >>> ((2 : Int32).toUInt32 &&& Int32.toUInt32 31)).toInt32 &&& 858993459)) + ((((a1 - ((a1.toUInt32 >>> ((1 : Int32).toUInt32 &&& Int32.toUInt32 31)).toInt32 &&& 1431655765)) &&& 858993459) + (((a1 - ((a1.toUInt32 >>> ((1 : Int32).toUInt32 &&& Int32.toUInt32 31)).toInt32 &&& 1431655765)).toUInt32 >>> ((2 : Int32).toUInt32 &&& Int32.toUInt32 31)).toInt32 &&& 858993459)).toUInt32 >>> ((4 : Int32).toUInt32 &&& Int32.toUInt32 31)).toInt32) &&& 252645135) + ((((((a1 - ((a1.toUInt32 >>> ((1 : Int32).toUInt32 &&& Int32.toUInt32 31)).toInt32 &&& 1431655765)) &&& 858993459) + (((a1 - ((a1.toUInt32 >>> ((1 : Int32).toUInt32 &&& Int32.toUInt32 31)).toInt32 &&& 1431655765)).toUInt32 >>> ((2 : Int32).toUInt32 &&& Int32.toUInt32 31)).toInt32 &&& 858993459)) + ((((a1 - ((a1.toUInt32 >>> ((1 : Int32).toUInt32 &&& Int32.toUInt32 31)).toInt32 &&& 1431655765)) &&& 858993459) + (((a1 - ((a1.toUInt32 >>> ((1 : Int32).toUInt32 &&& Int32.toUInt32 31)).toInt32 &&& 1431655765)).toUInt32 >>> ((2 : Int32).toUInt32 &&& Int32.toUInt32 31)).toInt32 &&& 858993459)).toUInt32 >>> ((4 : Int32).toUInt32 &&& Int32.toUInt32 31)).toInt32) &&& 252645135).toUInt32 >>> ((8 : Int32).toUInt32 &&& Int32.toUInt32 31)).toInt32).toUInt32 >>> ((16 : Int32).toUInt32 &&& Int32.toUInt32 31)).toInt32))]) hx hb dJ6_bitCount_0f7a4_47 rfl hl (by decide) rfl (fun ls hl => ?_)
  refine lv_iload_n hx hb dJ6_bitCount_0f7a4_48 rfl (lv_at hl 0 rfl) ?_
  refine lv_bipush (v := 63) hx hb dJ6_bitCount_0f7a4_49 (by decide) ?_
  refine lv_iand hx hb dJ6_bitCount_0f7a4_51 ?_
  exact ret_i B hr hlk hP hS dJ6_bitCount_0f7a4_52 (⟨rfl, hI⟩)

theorem lk_RX6_403 : LkJ RX6 403 yJ6_bitCount_0f7a4 cJ6_bitCount_0f7a4 1 (some .int) 1 := ⟨⟨mw_611, mw_612, mw_62, mw_613⟩, by decide +kernel⟩
set_option maxHeartbeats 4000000 in
set_option maxRecDepth 100000 in
theorem d_X6_byMap (l : Launch) (E : hE) (ρ r : Nat → Nat → Int32) (S : Nat × Nat → Prop) (hSS : SK S) (a1 : Int32) (a2 : Int32) (hI : CI r S ρ) : Met l yX6_byMap (.code yX6_byMap cX6_byMap 5 (some .int) :: gw_all) (rmk 2 80) (cPre E ρ [.int a1, .int a2]) (cI E (fun v ρ1 => ρ = ρ1 ∧ CI r S ρ1)) 0 0 (hA E) := by
  refine ent (own := RX6) (by decide) rfl (Nat.le_of_ble_eq_true rfl) ?_
  intro p e s m below meth c ls B hr hlk hl hP hS
  have hx := B.1.1
  have hb := B.1.2.1
  have hown := B.1.2.2.2.1
  have hts := B.1.2.2.2.2
  have hl : lv_has ls 5 [(0, .int a1), (1, .int a2)] := hl
  have b27_0 : ∀ (ls : Array Slot) (H : Heap) (locs : List Loc) (d27 : Nat) (x27_3 : Int32) (j27_4 : Nat), lv_has ls 5 [(0, .int a1), (1, .int a2), (3, .int x27_3), (4, .int (nI j27_4))] → WP E ρ H → va_S (hA E) s.heap H locs → 24 - j27_4 < d27 → iR x27_3 (-2147483648) (2147483647) → 0 ≤ j27_4 → j27_4 ≤ 23 → W p l e (rmk 2 80) s m ([.int a1, .int a2] : List Value).toArray below meth c H locs 0 0 (MQ below (cI E (fun v ρ1 => ρ = ρ1 ∧ CI r S ρ1)) ([.int a1, .int a2] : List Value).toArray s 0 0 (hA E)) (F0 m 27 ls []) := by
    intro ls H locs d27
    induction d27 generalizing ls H locs with
    | zero => intro x27_3 j27_4 hl hP hS hd27 hx27_3 lj27_4 uj27_4; exact absurd hd27 (Nat.not_lt_zero _)
    | succ d27 ih27 =>
      intro x27_3 j27_4 hl hP hS hd27 hx27_3 lj27_4 uj27_4
      have b54_0 : ∀ (ls : Array Slot) (H : Heap) (locs : List Loc) (x54_3 : Int32), lv_has ls 5 [(0, .int a1), (1, .int a2), (3, .int x54_3), (4, .int (nI j27_4))] → WP E ρ H → va_S (hA E) s.heap H locs → iR x54_3 (-2147483648) (2147483647) → 0 ≤ j27_4 → j27_4 ≤ 22 → W p l e (rmk 2 80) s m ([.int a1, .int a2] : List Value).toArray below meth c H locs 0 0 (MQ below (cI E (fun v ρ1 => ρ = ρ1 ∧ CI r S ρ1)) ([.int a1, .int a2] : List Value).toArray s 0 0 (hA E)) (F0 m 54 ls []) := by
        intro ls H locs x54_3 hl hP hS hx54_3 tlj27_4 tuj27_4
        refine lv_iinc (v := (nI (1 + j27_4))) (lv' := [(4, .int (nI (1 + j27_4))), (0, .int a1), (1, .int a2), (3, .int x54_3)]) hx hb dX6_byMap_54 hl (k := 3) rfl (show nI j27_4 + nI 1 = _ from (nI_add _ _).trans (congrArg nI (by omega))) (by decide) rfl (fun ls hl => ?_)
        refine lv_goto (tgt := 27) hx hb dX6_byMap_57 (by decide) ?_
        exact ih27 ls _ _ (x54_3 : Int32) (1 + j27_4) (lv_sub hl [1, 2, 3, 0] rfl) hP hS (by omega) (iR_w hx54_3 (by decide) (by decide)) (by omega) (by omega)
      refine lv_iload hx hb dX6_byMap_27 (lv_at hl 3 rfl) ?_
      refine lv_bipush (v := 23) hx hb dX6_byMap_29 (by decide) ?_
      refine lv_icmp_ge (tgt := 60) hx hb dX6_byMap_31 (by decide) (fun c56 => ?_) (fun c56 => ?_)
      · skip
        have n57 := mt (nx_lt (a := j27_4) (b := 23) (by omega) (by omega)).mpr (show ¬ (nI j27_4 < nI 23) from (Int32.not_lt.mpr c56))
        refine lv_iload_n hx hb dX6_byMap_60 rfl (lv_at hl 0 rfl) ?_
        exact ret_i B hr hlk hP hS dX6_byMap_61 (⟨rfl, hI⟩)
      · skip
        have n58 := (nx_lt (a := j27_4) (b := 23) (by omega) (by omega)).mp (show (nI j27_4 < nI 23) from (Int32.not_le.mp c56))
        refine lv_iload_n hx hb dX6_byMap_34 rfl (lv_at hl 1 rfl) ?_
        refine lv_iload hx hb dX6_byMap_35 (lv_at hl 3 rfl) ?_
        refine lv_ishr hx hb dX6_byMap_37 ?_
        refine lv_iconst (v := 1) hx hb dX6_byMap_38 (by decide) ?_
        refine lv_iand hx hb dX6_byMap_39 ?_
        refine lv_iconst (v := 1) hx hb dX6_byMap_40 (by decide) ?_
        refine lv_icmp_ne (tgt := 54) hx hb dX6_byMap_41 (by decide) (fun c59 => ?_) (fun c59 => ?_)
        · skip
          exact b54_0 ls _ _ (x27_3 : Int32) (lv_sub hl [0, 1, 2, 3] rfl) hP hS (iR_w hx27_3 (by decide) (by decide)) (by omega) (by omega)
        · skip
          have i60 : iR ((a2 >>> (((nI j27_4) : Int32) &&& 31)) &&& 1) (1) (1) := (by rw [c59]; exact ⟨by decide, by decide⟩)
          refine lv_iload_n hx hb dX6_byMap_44 rfl (lv_at hl 2 rfl) ?_
          refine lv_if_ne (tgt := 51) hx hb dX6_byMap_45 (by decide) (fun c61 => ?_) (fun c61 => ?_)
          · skip
            refine lv_iinc (v := (x27_3 + (-1))) (lv' := [(3, .int (x27_3 + (-1))), (0, .int a1), (1, .int a2), (4, .int (nI j27_4))]) hx hb dX6_byMap_51 hl (k := 2) rfl rfl (by decide) rfl (fun ls hl => ?_)
            exact b54_0 ls _ _ ((x27_3 + (-1)) : Int32) (lv_sub hl [1, 2, 0, 3] rfl) hP hS (iR_w (iR_any (x27_3 + (-1))) (by decide) (by decide)) (by omega) (by omega)
          · skip
            have i62 : iR x27_3 (0) (0) := (by rw [c61]; exact ⟨by decide, by decide⟩)
            refine lv_iload hx hb dX6_byMap_48 (lv_at hl 3 rfl) ?_
            exact ret_i B hr hlk hP hS dX6_byMap_50 (⟨rfl, hI⟩)
  refine lv_iload_n hx hb dX6_byMap_0 rfl (lv_at hl 1 rfl) ?_
  refine call_i (cJ (av := [.int a2]) (rest := []) B hP hS (d_J6_bitCount_0f7a4 l E ρ r S hSS a2 hI) lk_RX6_403 rfl rfl hl.1 (Nat.le_of_ble_eq_true rfl) ⟨Nat.le_of_ble_eq_true rfl, Nat.le_of_ble_eq_true rfl⟩ ⟨Nat.le_of_ble_eq_true rfl, Nat.le_of_ble_eq_true rfl⟩ dX6_byMap_1) hS (fun r63 ρ64 H locs q65 hP hS => ?_)
  obtain ⟨rfl, hI⟩ := q65
  refine lv_istore_n (lv' := [(2, .int r63), (0, .int a1), (1, .int a2)]) hx hb dX6_byMap_4 rfl hl (by decide) rfl (fun ls hl => ?_)
  refine lv_iload_n hx hb dX6_byMap_5 rfl (lv_at hl 0 rfl) ?_
  refine lv_if_eq (tgt := 18) hx hb dX6_byMap_6 (by decide) (fun c67 => ?_) (fun c67 => ?_)
  · skip
    have i68 : iR r63 (0) (0) := (by rw [c67]; exact ⟨by decide, by decide⟩)
    refine lv_iload_n hx hb dX6_byMap_18 rfl (lv_at hl 1 rfl) ?_
    exact ret_i B hr hlk hP hS dX6_byMap_19 (⟨rfl, hI⟩)
  · skip
    refine lv_iload_n hx hb dX6_byMap_9 rfl (lv_at hl 2 rfl) ?_
    refine lv_iload_n hx hb dX6_byMap_10 rfl (lv_at hl 1 rfl) ?_
    refine lv_ishr hx hb dX6_byMap_11 ?_
    refine lv_iconst (v := 1) hx hb dX6_byMap_12 (by decide) ?_
    refine lv_iand hx hb dX6_byMap_13 ?_
    refine lv_iconst (v := 1) hx hb dX6_byMap_14 (by decide) ?_
    refine lv_icmp_ne (tgt := 20) hx hb dX6_byMap_15 (by decide) (fun c69 => ?_) (fun c69 => ?_)
    · skip
      refine lv_iload_n hx hb dX6_byMap_20 rfl (lv_at hl 1 rfl) ?_
      refine lv_iload_n hx hb dX6_byMap_21 rfl (lv_at hl 0 rfl) ?_
      refine lv_irem hx hb dX6_byMap_22 c67 ?_
      refine lv_istore_n (lv' := [(3, .int (a1 - a1 / r63 * r63)), (2, .int r63), (0, .int a1), (1, .int a2)]) hx hb dX6_byMap_23 rfl hl (by decide) rfl (fun ls hl => ?_)
      refine lv_iconst (v := 0) hx hb dX6_byMap_24 (by decide) ?_
      refine lv_istore (lv' := [(4, .int 0), (3, .int (a1 - a1 / r63 * r63)), (2, .int r63), (0, .int a1), (1, .int a2)]) hx hb dX6_byMap_25 hl (by decide) rfl (fun ls hl => ?_)
      exact b27_0 ls _ _ _ ((a1 - a1 / r63 * r63) : Int32) 0 (lv_sub hl [3, 4, 1, 0] rfl) hP hS (Nat.lt_succ_self _) (iR_w (iR_any (a1 - a1 / r63 * r63)) (by decide) (by decide)) (by omega) (by omega)
    · skip
      have i70 : iR ((a2 >>> ((a1 : Int32) &&& 31)) &&& 1) (1) (1) := (by rw [c69]; exact ⟨by decide, by decide⟩)
      refine lv_iload_n hx hb dX6_byMap_18 rfl (lv_at hl 1 rfl) ?_
      exact ret_i B hr hlk hP hS dX6_byMap_19 (⟨rfl, hI⟩)

theorem lk_RX2_133 : LkN RX2 133 yX6_byMap cX6_byMap 5 (some .int) 2 := ⟨⟨List.mem_of_getElem? (i := 7) rfl, mw_737, mw_52, mw_738⟩, by decide +kernel⟩
theorem lk_RX2_137 : LkV RX2 137 RX1 yX1_hearCast cX1_hearCast 3 none 2 := ⟨⟨mw_769, mw_770, mw_771, mw_56, mw_772⟩, by decide +kernel⟩
theorem lk_RX2_140 : LkV RX2 140 RX2 yX2_dropFirstCast cX2_dropFirstCast 2 none 0 := ⟨⟨mw_773, mw_774, mw_775, mw_54, mw_776⟩, by decide +kernel⟩
set_option maxHeartbeats 4000000 in
set_option maxRecDepth 100000 in
theorem d_X2_endCastTurn (l : Launch) (E : hE) (ρ r : Nat → Nat → Int32) (S : Nat × Nat → Prop) (hSS : SK S) (k : Nat) (h : hk k = 2) (a1 : Int32) (hI : CI r (SA S k 1) ρ) (hne : ∀ x, S x → x.1 ≠ k) : Met l yX2_endCastTurn (.code yX2_endCastTurn cX2_endCastTurn 3 none :: gw_all) (rmk 3 120) (cPre E ρ [.ref (E.2.1 + k), .int a1]) (cV E (fun ρ1 => CI r S ρ1)) 0 0 (hA E) := by
  refine ent (own := RX2) (by decide) rfl (Nat.le_of_ble_eq_true rfl) ?_
  intro p e s m below meth c ls B hr hlk hl hP hS
  have hx := B.1.1
  have hb := B.1.2.1
  have hown := B.1.2.2.2.1
  have hts := B.1.2.2.2.2
  have hl : lv_has ls 3 [(0, .ref (E.2.1 + k)), (1, .int a1)] := hl
  have b85_0 : ∀ (ls : Array Slot) (ρ : Nat → Nat → Int32) (H : Heap) (locs : List Loc) , lv_has ls 3 [(0, .ref (E.2.1 + k)), (1, .int a1)] → WP E ρ H → va_S (hA E) s.heap H locs → CI r (SA S k 1) ρ → W p l e (rmk 3 120) s m ([.ref (E.2.1 + k), .int a1] : List Value).toArray below meth c H locs 0 0 (MQ below (cV E (fun ρ1 => CI r S ρ1)) ([.ref (E.2.1 + k), .int a1] : List Value).toArray s 0 0 (hA E)) (F0 m 85 ls []) := by
    intro ls ρ H locs  hl hP hS hI
    refine lv_aload_n hx hb dX2_endCastTurn_85 rfl (lv_at hl 0 rfl) ?_
    refine lv_dup hx hb dX2_endCastTurn_86 rfl ?_
    refine get2 B hP h 13 (by decide) mw_314 rfl dX2_endCastTurn_87 ?_
    refine lv_iconst (v := 1) hx hb dX2_endCastTurn_90 (by decide) ?_
    refine lv_iadd hx hb dX2_endCastTurn_91 ?_
    refine put2 B hP hS h 13 (by decide) mw_314 rfl rfl rfl (fs2_13 E k _ _) dX2_endCastTurn_92 (fun H locs hP hS => ?_)
    obtain ⟨ρ163, e164⟩ : ∃ z, z = up ρ k 13 ((ρ k 13) + 1) := ⟨_, rfl⟩
    rw [← e164] at hP
    have hI : CI r (SA S k 1) ρ163 := by rw [e164]; exact CI_up hI (kind_lt h (by decide)) (SP_plain h rfl (by decide)) ⟨(fun _ => ⟨by decide, by decide, by decide⟩), (fun z2 => absurd (Eq.trans (Eq.symm h) z2) (by decide))⟩ (hSA hSS h (by decide))
    refine lv_aload_n hx hb dX2_endCastTurn_95 rfl (lv_at hl 0 rfl) ?_
    refine get2 B hP h 13 (by decide) mw_314 (v := .int ((ρ k 13) + 1)) (show some (Value.int (ρ163 k 13)) = some (Value.int ((ρ k 13) + 1)) from congrArg (fun z => some (Value.int z)) (by rw [e164]; exact up_get_at)) dX2_endCastTurn_96 ?_
    refine lv_iload_n hx hb dX2_endCastTurn_99 rfl (lv_at hl 1 rfl) ?_
    refine lv_icmp_lt (tgt := 107) hx hb dX2_endCastTurn_100 (by decide) (fun c165 => ?_) (fun c165 => ?_)
    · skip
      exact ret_v B hr hlk hP hS dX2_endCastTurn_107 ((CI_S hI (fun x hx => hI.2.1 x (Or.inl hx))))
    · skip
      refine lv_aload_n hx hb dX2_endCastTurn_103 rfl (lv_at hl 0 rfl) ?_
      refine call_v (cVt (k := k) (av := []) (rest := []) B hP hS (d_X2_dropFirstCast l E ρ163 r S hSS k h hI hne) lk_RX2_140 (hrecv (ci := 2) B hP (hk_lt (c := 2) h (by decide)) (hcc2 _ _ h) rfl) rfl rfl hl.1 (Nat.le_of_ble_eq_true rfl) ⟨Nat.le_of_ble_eq_true rfl, Nat.le_of_ble_eq_true rfl⟩ ⟨Nat.le_of_ble_eq_true rfl, Nat.le_of_ble_eq_true rfl⟩ dX2_endCastTurn_104) hS (fun ρ167 H locs q168 hP hS => ?_)
      have hI := q168
      exact ret_v B hr hlk hP hS dX2_endCastTurn_107 (hI)
  have b2_0 : ∀ (ls : Array Slot) (ρ : Nat → Nat → Int32) (H : Heap) (locs : List Loc) (d2 : Nat) (j2_2 : Nat), lv_has ls 3 [(0, .ref (E.2.1 + k)), (1, .int a1), (2, .int (nI j2_2))] → WP E ρ H → va_S (hA E) s.heap H locs → CI r (SA S k 1) ρ → 5 - j2_2 < d2 → 0 ≤ j2_2 → j2_2 ≤ 4 → W p l e (rmk 3 120) s m ([.ref (E.2.1 + k), .int a1] : List Value).toArray below meth c H locs 0 0 (MQ below (cV E (fun ρ1 => CI r S ρ1)) ([.ref (E.2.1 + k), .int a1] : List Value).toArray s 0 0 (hA E)) (F0 m 2 ls []) := by
    intro ls ρ H locs d2
    induction d2 generalizing ls ρ H locs with
    | zero => intro j2_2 hl hP hS hI hd2 lj2_2 uj2_2; exact absurd hd2 (Nat.not_lt_zero _)
    | succ d2 ih2 =>
      intro j2_2 hl hP hS hI hd2 lj2_2 uj2_2
      have b79_0 : ∀ (ls : Array Slot) (ρ : Nat → Nat → Int32) (H : Heap) (locs : List Loc) , lv_has ls 3 [(0, .ref (E.2.1 + k)), (1, .int a1), (2, .int (nI j2_2))] → WP E ρ H → va_S (hA E) s.heap H locs → CI r (SA S k 1) ρ → 0 ≤ j2_2 → j2_2 ≤ 3 → W p l e (rmk 3 120) s m ([.ref (E.2.1 + k), .int a1] : List Value).toArray below meth c H locs 0 0 (MQ below (cV E (fun ρ1 => CI r S ρ1)) ([.ref (E.2.1 + k), .int a1] : List Value).toArray s 0 0 (hA E)) (F0 m 79 ls []) := by
        intro ls ρ H locs  hl hP hS hI tlj2_2 tuj2_2
        refine lv_iinc (v := (nI (1 + j2_2))) (lv' := [(2, .int (nI (1 + j2_2))), (0, .ref (E.2.1 + k)), (1, .int a1)]) hx hb dX2_endCastTurn_79 hl (k := 2) rfl (show nI j2_2 + nI 1 = _ from (nI_add _ _).trans (congrArg nI (by omega))) (by decide) rfl (fun ls hl => ?_)
        refine lv_goto (tgt := 2) hx hb dX2_endCastTurn_82 (by decide) ?_
        exact ih2 ls ρ _ _ (1 + j2_2) (lv_sub hl [1, 2, 0] rfl) hP hS hI (by omega) (by omega) (by omega)
      refine lv_iload_n hx hb dX2_endCastTurn_2 rfl (lv_at hl 2 rfl) ?_
      refine lv_aload_n hx hb dX2_endCastTurn_3 rfl (lv_at hl 0 rfl) ?_
      refine get2 B hP h 8 (by decide) mw_303 rfl dX2_endCastTurn_4 ?_
      have i170 : iR (ρ k 8) 0 4 := CI_get hI (kind_lt h (by decide)) h rfl
      obtain ⟨j171, lj171, uj171, ej171⟩ := iR_nat (a := 0) (b := 4) i170
      refine lv_topi (fun z172 ez172 => ?_)
      obtain rfl : z172 = nI j171 := ez172.trans ej171
      refine lv_icmp_ge (tgt := 85) hx hb dX2_endCastTurn_7 (by decide) (fun c173 => ?_) (fun c173 => ?_)
      · skip
        have n174 := mt (nx_lt (a := j2_2) (b := j171) (by omega) (by omega)).mpr (show ¬ (nI j2_2 < nI j171) from (Int32.not_lt.mpr c173))
        exact b85_0 ls ρ _ _  (lv_sub hl [0, 1] rfl) hP hS hI 
      · skip
        have n175 := (nx_lt (a := j2_2) (b := j171) (by omega) (by omega)).mp (show (nI j2_2 < nI j171) from (Int32.not_le.mp c173))
        refine lv_iload_n hx hb dX2_endCastTurn_10 rfl (lv_at hl 2 rfl) ?_
        refine lv_iconst (v := 4) hx hb dX2_endCastTurn_11 (by decide) ?_
        refine lv_icmp_ge (tgt := 85) hx hb dX2_endCastTurn_12 (by decide) (fun c176 => absurd c176 (iR_nle (show iR 4 (4) (4) from ⟨by decide, by decide⟩) (nI_iR (j := j2_2) (a := 0) (b := 3) (by omega) (by omega) (by omega)) (by decide))) (fun _ => ?_)
        refine lv_aload_n hx hb dX2_endCastTurn_15 rfl (lv_at hl 0 rfl) ?_
        refine get2 B hP h 19 (by decide) mw_328 rfl dX2_endCastTurn_16 ?_
        have i177 : iR (ρ k 19) 0 1 := CI_get hI (kind_lt h (by decide)) h rfl
        obtain ⟨j178, lj178, uj178, ej178⟩ := iR_nat (a := 0) (b := 1) i177
        refine lv_topi (fun z179 ez179 => ?_)
        obtain rfl : z179 = nI j178 := ez179.trans ej178
        refine lv_if_eq (tgt := 85) hx hb dX2_endCastTurn_19 (by decide) (fun c180 => ?_) (fun c180 => ?_)
        · skip
          have n181 := (nI_eq (a := j178) (b := 0) (by omega) (by omega)).mp (show (nI j178 = nI 0) from c180)
          exact b85_0 ls ρ _ _  (lv_sub hl [0, 1] rfl) hP hS hI 
        · skip
          have n182 := mt (nI_eq (a := j178) (b := 0) (by omega) (by omega)).mpr (show ¬ (nI j178 = nI 0) from c180)
          refine lv_aload_n hx hb dX2_endCastTurn_22 rfl (lv_at hl 0 rfl) ?_
          refine get2 B hP h 4 (by decide) mw_291 rfl dX2_endCastTurn_23 ?_
          refine lv_iload_n hx hb dX2_endCastTurn_26 rfl (lv_at hl 2 rfl) ?_
          obtain ⟨k183, ek183, hk183⟩ := CI_link hI (lay2 h).2.2.2.2.2.2.2.1 (show j2_2 < 4 from (by omega))
          refine aldLn B hP (lay2 h).2.2.2.2.2.2.2.1 (lay2 h).2.2.2.2.2.2.2.2.1 rfl (by omega) ek183 hk183 dX2_endCastTurn_27 ?_
          refine get1 B hP hk183 17 (by decide) mw_243 rfl dX2_endCastTurn_28 ?_
          have i184 : iR (ρ k183 17) 0 1 := CI_get hI (kind_lt hk183 (by decide)) hk183 rfl
          obtain ⟨j185, lj185, uj185, ej185⟩ := iR_nat (a := 0) (b := 1) i184
          refine lv_topi (fun z186 ez186 => ?_)
          obtain rfl : z186 = nI j185 := ez186.trans ej185
          refine lv_if_eq (tgt := 79) hx hb dX2_endCastTurn_31 (by decide) (fun c187 => ?_) (fun c187 => ?_)
          · skip
            have n188 := (nI_eq (a := j185) (b := 0) (by omega) (by omega)).mp (show (nI j185 = nI 0) from c187)
            exact b79_0 ls ρ _ _  (lv_sub hl [0, 1, 2] rfl) hP hS hI (by omega) (by omega)
          · skip
            have n189 := mt (nI_eq (a := j185) (b := 0) (by omega) (by omega)).mpr (show ¬ (nI j185 = nI 0) from c187)
            refine lv_aload_n hx hb dX2_endCastTurn_34 rfl (lv_at hl 0 rfl) ?_
            refine get2 B hP h 16 (by decide) mw_322 rfl dX2_endCastTurn_35 ?_
            refine lv_aload_n hx hb dX2_endCastTurn_38 rfl (lv_at hl 0 rfl) ?_
            refine get2 B hP h 4 (by decide) mw_291 rfl dX2_endCastTurn_39 ?_
            refine lv_iload_n hx hb dX2_endCastTurn_42 rfl (lv_at hl 2 rfl) ?_
            obtain ⟨k190, ek190, hk190⟩ := CI_link hI (lay2 h).2.2.2.2.2.2.2.1 (show j2_2 < 4 from (by omega))
            refine aldLn B hP (lay2 h).2.2.2.2.2.2.2.1 (lay2 h).2.2.2.2.2.2.2.2.1 rfl (by omega) ek190 hk190 dX2_endCastTurn_43 ?_
            refine get1 B hP hk190 0 (by decide) mw_195 rfl dX2_endCastTurn_44 ?_
            refine get3 B hP (lay1 hk190).1 0 (by decide) mw_93 rfl dX2_endCastTurn_47 ?_
            refine call_i (cN (av := [.int (ρ k 16), .int (ρ (k190 + 1) 0)]) (rest := []) B hP hS (d_X6_byMap l E ρ r (SA S k 1) (hSA hSS h (by decide)) (ρ k 16) (ρ (k190 + 1) 0) hI) lk_RX2_133 rfl rfl hl.1 (Nat.le_of_ble_eq_true rfl) ⟨Nat.le_of_ble_eq_true rfl, Nat.le_of_ble_eq_true rfl⟩ ⟨Nat.le_of_ble_eq_true rfl, Nat.le_of_ble_eq_true rfl⟩ dX2_endCastTurn_50) hS (fun r191 ρ192 H locs q193 hP hS => ?_)
            obtain ⟨rfl, hI⟩ := q193
            refine lv_aload_n hx hb dX2_endCastTurn_53 rfl (lv_at hl 0 rfl) ?_
            refine get2 B hP h 17 (by decide) mw_324 rfl dX2_endCastTurn_54 ?_
            refine lv_icmp_ne (tgt := 79) hx hb dX2_endCastTurn_57 (by decide) (fun c195 => ?_) (fun c195 => ?_)
            · skip
              exact b79_0 ls ρ _ _  (lv_sub hl [0, 1, 2] rfl) hP hS hI (by omega) (by omega)
            · skip
              refine lv_aload_n hx hb dX2_endCastTurn_60 rfl (lv_at hl 0 rfl) ?_
              refine get2 B hP h 4 (by decide) mw_291 rfl dX2_endCastTurn_61 ?_
              refine lv_iload_n hx hb dX2_endCastTurn_64 rfl (lv_at hl 2 rfl) ?_
              obtain ⟨k196, ek196, hk196⟩ := CI_link hI (lay2 h).2.2.2.2.2.2.2.1 (show j2_2 < 4 from (by omega))
              refine aldLn B hP (lay2 h).2.2.2.2.2.2.2.1 (lay2 h).2.2.2.2.2.2.2.2.1 rfl (by omega) ek196 hk196 dX2_endCastTurn_65 ?_
              refine lv_aload_n hx hb dX2_endCastTurn_66 rfl (lv_at hl 0 rfl) ?_
              refine get2 B hP h 1 (by decide) mw_285 rfl dX2_endCastTurn_67 ?_
              refine lv_iconst (v := 0) hx hb dX2_endCastTurn_70 (by decide) ?_
              refine aldn (n := 4) (j := 0) B hP (lay2 h).2.1 (lay2 h).2.2.1 rfl (by decide) (by decide) dX2_endCastTurn_71 ?_
              refine lv_aload_n hx hb dX2_endCastTurn_72 rfl (lv_at hl 0 rfl) ?_
              refine get2 B hP h 12 (by decide) mw_312 rfl dX2_endCastTurn_73 ?_
              refine call_v (cVt (k := k196) (av := [.int (ρ (k + 2) 0), .int (ρ k 12)]) (rest := []) B hP hS (d_X1_hearCast l E ρ r (SA S k 1) (hSA hSS h (by decide)) k196 hk196 (ρ (k + 2) 0) (ρ k 12) hI) lk_RX2_137 (hrecv (ci := 1) B hP (hk_lt (c := 1) hk196 (by decide)) (hcc1 _ _ hk196) rfl) rfl rfl hl.1 (Nat.le_of_ble_eq_true rfl) ⟨Nat.le_of_ble_eq_true rfl, Nat.le_of_ble_eq_true rfl⟩ ⟨Nat.le_of_ble_eq_true rfl, Nat.le_of_ble_eq_true rfl⟩ dX2_endCastTurn_76) hS (fun ρ198 H locs q199 hP hS => ?_)
              have hI := q199
              exact b79_0 ls ρ198 _ _  (lv_sub hl [0, 1, 2] rfl) hP hS hI (by omega) (by omega)
  refine lv_iconst (v := 0) hx hb dX2_endCastTurn_0 (by decide) ?_
  refine lv_istore_n (lv' := [(2, .int 0), (0, .ref (E.2.1 + k)), (1, .int a1)]) hx hb dX2_endCastTurn_1 rfl hl (by decide) rfl (fun ls hl => ?_)
  exact b2_0 ls ρ _ _ _ 0 (lv_sub hl [1, 2, 0] rfl) hP hS hI (Nat.lt_succ_self _) (by omega) (by omega)

theorem lk_RX2_83 : LkV RX2 83 RX3 yX3_copyFrom cX3_copyFrom 2 none 1 := ⟨⟨mw_477, mw_478, mw_479, mw_55, mw_480⟩, by decide +kernel⟩
theorem lk_RX2_93 : LkV RX2 93 RX1 yX1_copyFrom cX1_copyFrom 2 none 1 := ⟨⟨mw_482, mw_483, mw_484, mw_56, mw_485⟩, by decide +kernel⟩
set_option maxHeartbeats 4000000 in
set_option maxRecDepth 100000 in
theorem d_X2_copyFrom (l : Launch) (E : hE) (ρ r : Nat → Nat → Int32) (S : Nat × Nat → Prop) (hSS : SK S) (k : Nat) (h : hk k = 2) (k1 : Nat) (h1 : hk k1 = 2) (hI : CI r S ρ) (hne : ∀ x, S x → x.1 ≠ k) : Met l yX2_copyFrom (.code yX2_copyFrom cX2_copyFrom 3 none :: gw_all) (rmk 4 160) (cPre E ρ [.ref (E.2.1 + k), .ref (E.2.1 + k1)]) (cV E (fun ρ1 => CI r S ρ1)) 0 0 (hA E) := by
  refine ent (own := RX2) (by decide) rfl (Nat.le_of_ble_eq_true rfl) ?_
  intro p e s m below meth c ls B hr hlk hl hP hS
  have hx := B.1.1
  have hb := B.1.2.1
  have hown := B.1.2.2.2.1
  have hts := B.1.2.2.2.2
  have hl : lv_has ls 3 [(0, .ref (E.2.1 + k)), (1, .ref (E.2.1 + k1))] := hl
  have b91_0 : ∀ (ls : Array Slot) (ρ : Nat → Nat → Int32) (H : Heap) (locs : List Loc) , lv_has ls 3 [(0, .ref (E.2.1 + k)), (1, .ref (E.2.1 + k1))] → WP E ρ H → va_S (hA E) s.heap H locs → CI r S ρ → W p l e (rmk 4 160) s m ([.ref (E.2.1 + k), .ref (E.2.1 + k1)] : List Value).toArray below meth c H locs 0 0 (MQ below (cV E (fun ρ1 => CI r S ρ1)) ([.ref (E.2.1 + k), .ref (E.2.1 + k1)] : List Value).toArray s 0 0 (hA E)) (F0 m 91 ls []) := by
    intro ls ρ H locs  hl hP hS hI
    refine lv_aload_n hx hb dX2_copyFrom_91 rfl (lv_at hl 0 rfl) ?_
    refine lv_aload_n hx hb dX2_copyFrom_92 rfl (lv_at hl 1 rfl) ?_
    refine get2 B hP h1 5 (by decide) mw_294 rfl dX2_copyFrom_93 ?_
    refine put2 B hP hS h 5 (by decide) mw_294 rfl rfl rfl (fs2_5 E k _ _) dX2_copyFrom_96 (fun H locs hP hS => ?_)
    obtain ⟨ρ100, e101⟩ : ∃ z, z = up ρ k 5 (ρ k1 5) := ⟨_, rfl⟩
    rw [← e101] at hP
    have hI : CI r S ρ100 := by rw [e101]; exact CI_up hI (kind_lt h (by decide)) (SP_plain h rfl (by decide)) ⟨(fun _ => ⟨by decide, by decide, by decide⟩), (fun z2 => absurd (Eq.trans (Eq.symm h) z2) (by decide))⟩ hSS
    refine lv_aload_n hx hb dX2_copyFrom_99 rfl (lv_at hl 0 rfl) ?_
    refine lv_aload_n hx hb dX2_copyFrom_100 rfl (lv_at hl 1 rfl) ?_
    refine get2 B hP h1 6 (by decide) mw_297 rfl dX2_copyFrom_101 ?_
    refine put2 B hP hS h 6 (by decide) mw_297 rfl rfl rfl (fs2_6 E k _ _) dX2_copyFrom_104 (fun H locs hP hS => ?_)
    obtain ⟨ρ102, e103⟩ : ∃ z, z = up ρ100 k 6 (ρ100 k1 6) := ⟨_, rfl⟩
    rw [← e103] at hP
    have hI : CI r S ρ102 := by rw [e103]; exact CI_up hI (kind_lt h (by decide)) (SP_plain h rfl (by decide)) ⟨(fun _ => ⟨by decide, by decide, by decide⟩), (fun z2 => absurd (Eq.trans (Eq.symm h) z2) (by decide))⟩ hSS
    refine lv_aload_n hx hb dX2_copyFrom_107 rfl (lv_at hl 0 rfl) ?_
    refine lv_aload_n hx hb dX2_copyFrom_108 rfl (lv_at hl 1 rfl) ?_
    refine get2 B hP h1 7 (by decide) mw_300 rfl dX2_copyFrom_109 ?_
    refine put2 B hP hS h 7 (by decide) mw_300 rfl rfl rfl (fs2_7 E k _ _) dX2_copyFrom_112 (fun H locs hP hS => ?_)
    obtain ⟨ρ104, e105⟩ : ∃ z, z = up ρ102 k 7 (ρ102 k1 7) := ⟨_, rfl⟩
    rw [← e105] at hP
    have hI : CI r S ρ104 := by rw [e105]; exact CI_up hI (kind_lt h (by decide)) (SP_plain h rfl (by decide)) ⟨(fun _ => ⟨by decide, by decide, by decide⟩), (fun z2 => absurd (Eq.trans (Eq.symm h) z2) (by decide))⟩ hSS
    refine lv_aload_n hx hb dX2_copyFrom_115 rfl (lv_at hl 0 rfl) ?_
    refine lv_aload_n hx hb dX2_copyFrom_116 rfl (lv_at hl 1 rfl) ?_
    refine get2 B hP h1 8 (by decide) mw_303 rfl dX2_copyFrom_117 ?_
    have i106 : iR (ρ104 k1 8) 0 4 := CI_get hI (kind_lt h1 (by decide)) h1 rfl
    obtain ⟨j107, lj107, uj107, ej107⟩ := iR_nat (a := 0) (b := 4) i106
    refine lv_topi (fun z108 ez108 => ?_)
    obtain rfl : z108 = nI j107 := ez108.trans ej107
    refine put2 B hP hS h 8 (by decide) mw_303 rfl rfl rfl (fs2_8 E k _ _) dX2_copyFrom_120 (fun H locs hP hS => ?_)
    obtain ⟨ρ109, e110⟩ : ∃ z, z = up ρ104 k 8 (nI j107) := ⟨_, rfl⟩
    rw [← e110] at hP
    have hI : CI r S ρ109 := by rw [e110]; exact CI_upS hI (kind_lt h (by decide)) (SP_rng h rfl (by decide) (iR_w (a := 0) (b := 4) (nI_iR (j := j107) (a := 0) (b := 4) (by omega) (by omega) (by omega)) (by decide) (by decide))) (fun x hx => RC_ne (hI.2.1 x hx) (hne x hx))
    refine lv_aload_n hx hb dX2_copyFrom_123 rfl (lv_at hl 0 rfl) ?_
    refine lv_aload_n hx hb dX2_copyFrom_124 rfl (lv_at hl 1 rfl) ?_
    refine get2 B hP h1 9 (by decide) mw_306 rfl dX2_copyFrom_125 ?_
    refine put2 B hP hS h 9 (by decide) mw_306 rfl rfl rfl (fs2_9 E k _ _) dX2_copyFrom_128 (fun H locs hP hS => ?_)
    obtain ⟨ρ111, e112⟩ : ∃ z, z = up ρ109 k 9 (ρ109 k1 9) := ⟨_, rfl⟩
    rw [← e112] at hP
    have hI : CI r S ρ111 := by rw [e112]; exact CI_up hI (kind_lt h (by decide)) (SP_plain h rfl (by decide)) ⟨(fun _ => ⟨by decide, by decide, by decide⟩), (fun z2 => absurd (Eq.trans (Eq.symm h) z2) (by decide))⟩ hSS
    refine lv_aload_n hx hb dX2_copyFrom_131 rfl (lv_at hl 0 rfl) ?_
    refine lv_aload_n hx hb dX2_copyFrom_132 rfl (lv_at hl 1 rfl) ?_
    refine get2 B hP h1 10 (by decide) mw_308 rfl dX2_copyFrom_133 ?_
    refine put2 B hP hS h 10 (by decide) mw_308 rfl rfl rfl (fs2_10 E k _ _) dX2_copyFrom_136 (fun H locs hP hS => ?_)
    obtain ⟨ρ113, e114⟩ : ∃ z, z = up ρ111 k 10 (ρ111 k1 10) := ⟨_, rfl⟩
    rw [← e114] at hP
    have hI : CI r S ρ113 := by rw [e114]; exact CI_up hI (kind_lt h (by decide)) (SP_plain h rfl (by decide)) ⟨(fun _ => ⟨by decide, by decide, by decide⟩), (fun z2 => absurd (Eq.trans (Eq.symm h) z2) (by decide))⟩ hSS
    refine lv_aload_n hx hb dX2_copyFrom_139 rfl (lv_at hl 0 rfl) ?_
    refine lv_aload_n hx hb dX2_copyFrom_140 rfl (lv_at hl 1 rfl) ?_
    refine get2 B hP h1 11 (by decide) mw_309 rfl dX2_copyFrom_141 ?_
    have i115 : iR (ρ113 k1 11) 0 4 := CI_get hI (kind_lt h1 (by decide)) h1 rfl
    obtain ⟨j116, lj116, uj116, ej116⟩ := iR_nat (a := 0) (b := 4) i115
    refine lv_topi (fun z117 ez117 => ?_)
    obtain rfl : z117 = nI j116 := ez117.trans ej116
    refine put2 B hP hS h 11 (by decide) mw_309 rfl rfl rfl (fs2_11 E k _ _) dX2_copyFrom_144 (fun H locs hP hS => ?_)
    obtain ⟨ρ118, e119⟩ : ∃ z, z = up ρ113 k 11 (nI j116) := ⟨_, rfl⟩
    rw [← e119] at hP
    have hI : CI r S ρ118 := by rw [e119]; exact CI_upS hI (kind_lt h (by decide)) (SP_rng h rfl (by decide) (iR_w (a := 0) (b := 4) (nI_iR (j := j116) (a := 0) (b := 4) (by omega) (by omega) (by omega)) (by decide) (by decide))) (fun x hx => RC_ne (hI.2.1 x hx) (hne x hx))
    refine lv_aload_n hx hb dX2_copyFrom_147 rfl (lv_at hl 0 rfl) ?_
    refine lv_aload_n hx hb dX2_copyFrom_148 rfl (lv_at hl 1 rfl) ?_
    refine get2 B hP h1 12 (by decide) mw_312 rfl dX2_copyFrom_149 ?_
    refine put2 B hP hS h 12 (by decide) mw_312 rfl rfl rfl (fs2_12 E k _ _) dX2_copyFrom_152 (fun H locs hP hS => ?_)
    obtain ⟨ρ120, e121⟩ : ∃ z, z = up ρ118 k 12 (ρ118 k1 12) := ⟨_, rfl⟩
    rw [← e121] at hP
    have hI : CI r S ρ120 := by rw [e121]; exact CI_up hI (kind_lt h (by decide)) (SP_plain h rfl (by decide)) ⟨(fun _ => ⟨by decide, by decide, by decide⟩), (fun z2 => absurd (Eq.trans (Eq.symm h) z2) (by decide))⟩ hSS
    refine lv_aload_n hx hb dX2_copyFrom_155 rfl (lv_at hl 0 rfl) ?_
    refine lv_aload_n hx hb dX2_copyFrom_156 rfl (lv_at hl 1 rfl) ?_
    refine get2 B hP h1 13 (by decide) mw_314 rfl dX2_copyFrom_157 ?_
    refine put2 B hP hS h 13 (by decide) mw_314 rfl rfl rfl (fs2_13 E k _ _) dX2_copyFrom_160 (fun H locs hP hS => ?_)
    obtain ⟨ρ122, e123⟩ : ∃ z, z = up ρ120 k 13 (ρ120 k1 13) := ⟨_, rfl⟩
    rw [← e123] at hP
    have hI : CI r S ρ122 := by rw [e123]; exact CI_up hI (kind_lt h (by decide)) (SP_plain h rfl (by decide)) ⟨(fun _ => ⟨by decide, by decide, by decide⟩), (fun z2 => absurd (Eq.trans (Eq.symm h) z2) (by decide))⟩ hSS
    exact ret_v B hr hlk hP hS dX2_copyFrom_163 (hI)
  have b57_0 : ∀ (ls : Array Slot) (ρ : Nat → Nat → Int32) (H : Heap) (locs : List Loc) (d57 : Nat) (j57_2 : Nat), lv_has ls 3 [(0, .ref (E.2.1 + k)), (1, .ref (E.2.1 + k1)), (2, .int (nI j57_2))] → WP E ρ H → va_S (hA E) s.heap H locs → CI r S ρ → 5 - j57_2 < d57 → 0 ≤ j57_2 → j57_2 ≤ 4 → W p l e (rmk 4 160) s m ([.ref (E.2.1 + k), .ref (E.2.1 + k1)] : List Value).toArray below meth c H locs 0 0 (MQ below (cV E (fun ρ1 => CI r S ρ1)) ([.ref (E.2.1 + k), .ref (E.2.1 + k1)] : List Value).toArray s 0 0 (hA E)) (F0 m 57 ls []) := by
    intro ls ρ H locs d57
    induction d57 generalizing ls ρ H locs with
    | zero => intro j57_2 hl hP hS hI hd57 lj57_2 uj57_2; exact absurd hd57 (Nat.not_lt_zero _)
    | succ d57 ih57 =>
      intro j57_2 hl hP hS hI hd57 lj57_2 uj57_2
      refine lv_iload_n hx hb dX2_copyFrom_57 rfl (lv_at hl 2 rfl) ?_
      refine lv_aload_n hx hb dX2_copyFrom_58 rfl (lv_at hl 1 rfl) ?_
      refine get2 B hP h1 8 (by decide) mw_303 rfl dX2_copyFrom_59 ?_
      have i124 : iR (ρ k1 8) 0 4 := CI_get hI (kind_lt h1 (by decide)) h1 rfl
      obtain ⟨j125, lj125, uj125, ej125⟩ := iR_nat (a := 0) (b := 4) i124
      refine lv_topi (fun z126 ez126 => ?_)
      obtain rfl : z126 = nI j125 := ez126.trans ej125
      refine lv_icmp_ge (tgt := 91) hx hb dX2_copyFrom_62 (by decide) (fun c127 => ?_) (fun c127 => ?_)
      · skip
        have n128 := mt (nx_lt (a := j57_2) (b := j125) (by omega) (by omega)).mpr (show ¬ (nI j57_2 < nI j125) from (Int32.not_lt.mpr c127))
        exact b91_0 ls ρ _ _  (lv_sub hl [0, 1] rfl) hP hS hI 
      · skip
        have n129 := (nx_lt (a := j57_2) (b := j125) (by omega) (by omega)).mp (show (nI j57_2 < nI j125) from (Int32.not_le.mp c127))
        refine lv_iload_n hx hb dX2_copyFrom_65 rfl (lv_at hl 2 rfl) ?_
        refine lv_iconst (v := 4) hx hb dX2_copyFrom_66 (by decide) ?_
        refine lv_icmp_ge (tgt := 91) hx hb dX2_copyFrom_67 (by decide) (fun c130 => absurd c130 (iR_nle (show iR 4 (4) (4) from ⟨by decide, by decide⟩) (nI_iR (j := j57_2) (a := 0) (b := 3) (by omega) (by omega) (by omega)) (by decide))) (fun _ => ?_)
        refine lv_aload_n hx hb dX2_copyFrom_70 rfl (lv_at hl 0 rfl) ?_
        refine get2 B hP h 4 (by decide) mw_291 rfl dX2_copyFrom_71 ?_
        refine lv_iload_n hx hb dX2_copyFrom_74 rfl (lv_at hl 2 rfl) ?_
        obtain ⟨k131, ek131, hk131⟩ := CI_link hI (lay2 h).2.2.2.2.2.2.2.1 (show j57_2 < 4 from (by omega))
        refine aldLn B hP (lay2 h).2.2.2.2.2.2.2.1 (lay2 h).2.2.2.2.2.2.2.2.1 rfl (by omega) ek131 hk131 dX2_copyFrom_75 ?_
        refine lv_aload_n hx hb dX2_copyFrom_76 rfl (lv_at hl 1 rfl) ?_
        refine get2 B hP h1 4 (by decide) mw_291 rfl dX2_copyFrom_77 ?_
        refine lv_iload_n hx hb dX2_copyFrom_80 rfl (lv_at hl 2 rfl) ?_
        obtain ⟨k132, ek132, hk132⟩ := CI_link hI (lay2 h1).2.2.2.2.2.2.2.1 (show j57_2 < 4 from (by omega))
        refine aldLn B hP (lay2 h1).2.2.2.2.2.2.2.1 (lay2 h1).2.2.2.2.2.2.2.2.1 rfl (by omega) ek132 hk132 dX2_copyFrom_81 ?_
        refine call_v (cVt (k := k131) (av := [.ref (E.2.1 + k132)]) (rest := []) B hP hS (d_X1_copyFrom l E ρ r S hSS k131 hk131 k132 hk132 hI) lk_RX2_93 (hrecv (ci := 1) B hP (hk_lt (c := 1) hk131 (by decide)) (hcc1 _ _ hk131) rfl) rfl rfl hl.1 (Nat.le_of_ble_eq_true rfl) ⟨Nat.le_of_ble_eq_true rfl, Nat.le_of_ble_eq_true rfl⟩ ⟨Nat.le_of_ble_eq_true rfl, Nat.le_of_ble_eq_true rfl⟩ dX2_copyFrom_82) hS (fun ρ134 H locs q135 hP hS => ?_)
        have hI := q135
        refine lv_iinc (v := (nI (1 + j57_2))) (lv' := [(2, .int (nI (1 + j57_2))), (0, .ref (E.2.1 + k)), (1, .ref (E.2.1 + k1))]) hx hb dX2_copyFrom_85 hl (k := 2) rfl (show nI j57_2 + nI 1 = _ from (nI_add _ _).trans (congrArg nI (by omega))) (by decide) rfl (fun ls hl => ?_)
        refine lv_goto (tgt := 57) hx hb dX2_copyFrom_88 (by decide) ?_
        exact ih57 ls ρ134 _ _ (1 + j57_2) (lv_sub hl [1, 2, 0] rfl) hP hS hI (by omega) (by omega) (by omega)
  refine lv_aload_n hx hb dX2_copyFrom_0 rfl (lv_at hl 0 rfl) ?_
  refine get2 B hP h 0 (by decide) mw_282 rfl dX2_copyFrom_1 ?_
  refine lv_aload_n hx hb dX2_copyFrom_4 rfl (lv_at hl 1 rfl) ?_
  refine get2 B hP h1 0 (by decide) mw_282 rfl dX2_copyFrom_5 ?_
  refine call_v (cVt (k := (k + 1)) (av := [.ref (E.2.1 + (k1 + 1))]) (rest := []) B hP hS (d_X3_copyFrom l E ρ r S hSS (k + 1) (lay2 h).1 (k1 + 1) (lay2 h1).1 hI) lk_RX2_83 (hrecv (ci := 3) B hP (hk_lt (c := 3) (lay2 h).1 (by decide)) (hcc3 _ _ (lay2 h).1) rfl) rfl rfl hl.1 (Nat.le_of_ble_eq_true rfl) ⟨Nat.le_of_ble_eq_true rfl, Nat.le_of_ble_eq_true rfl⟩ ⟨Nat.le_of_ble_eq_true rfl, Nat.le_of_ble_eq_true rfl⟩ dX2_copyFrom_8) hS (fun ρ138 H locs q139 hP hS => ?_)
  have hI := q139
  refine lv_aload_n hx hb dX2_copyFrom_11 rfl (lv_at hl 1 rfl) ?_
  refine get2 B hP h1 1 (by decide) mw_285 rfl dX2_copyFrom_12 ?_
  refine lv_iconst (v := 0) hx hb dX2_copyFrom_15 (by decide) ?_
  refine lv_aload_n hx hb dX2_copyFrom_16 rfl (lv_at hl 0 rfl) ?_
  refine get2 B hP h 1 (by decide) mw_285 rfl dX2_copyFrom_17 ?_
  refine lv_iconst (v := 0) hx hb dX2_copyFrom_20 (by decide) ?_
  refine lv_iconst (v := 4) hx hb dX2_copyFrom_21 (by decide) ?_
  refine acopy (n := 4) B hP hS (lay2 h1).2.1 (lay2 h).2.1 (lay2 h1).2.2.1 (lay2 h).2.2.1 rfl (by decide) hl.1 mw_481 mw_472 mw_471 mw_60 (Nat.le_of_ble_eq_true rfl) (Nat.le_of_ble_eq_true rfl) dX2_copyFrom_22 (fun H locs hP hS => ?_)
  obtain ⟨ρ141, e142⟩ : ∃ z, z = upc ρ138 (k + 2) (va_cpy (ρ138 (k1 + 2)) (ρ138 (k + 2)) 0 0 4) := ⟨_, rfl⟩
  rw [← e142] at hP
  have hI : CI r S ρ141 := by rw [e142]; exact CI_upc hI (by have := lay2l h; omega) (lay2 h).2.1 hSS
  refine lv_aload_n hx hb dX2_copyFrom_25 rfl (lv_at hl 1 rfl) ?_
  refine get2 B hP h1 2 (by decide) mw_287 rfl dX2_copyFrom_26 ?_
  refine lv_iconst (v := 0) hx hb dX2_copyFrom_29 (by decide) ?_
  refine lv_aload_n hx hb dX2_copyFrom_30 rfl (lv_at hl 0 rfl) ?_
  refine get2 B hP h 2 (by decide) mw_287 rfl dX2_copyFrom_31 ?_
  refine lv_iconst (v := 0) hx hb dX2_copyFrom_34 (by decide) ?_
  refine lv_bipush (v := 23) hx hb dX2_copyFrom_35 (by decide) ?_
  refine acopy (n := 23) B hP hS (lay2 h1).2.2.2.1 (lay2 h).2.2.2.1 (lay2 h1).2.2.2.2.1 (lay2 h).2.2.2.2.1 rfl (by decide) hl.1 mw_481 mw_472 mw_471 mw_60 (Nat.le_of_ble_eq_true rfl) (Nat.le_of_ble_eq_true rfl) dX2_copyFrom_37 (fun H locs hP hS => ?_)
  obtain ⟨ρ143, e144⟩ : ∃ z, z = upc ρ141 (k + 3) (va_cpy (ρ141 (k1 + 3)) (ρ141 (k + 3)) 0 0 23) := ⟨_, rfl⟩
  rw [← e144] at hP
  have hI : CI r S ρ143 := by rw [e144]; exact CI_upc hI (by have := lay2l h; omega) (lay2 h).2.2.2.1 hSS
  refine lv_aload_n hx hb dX2_copyFrom_40 rfl (lv_at hl 1 rfl) ?_
  refine get2 B hP h1 3 (by decide) mw_289 rfl dX2_copyFrom_41 ?_
  refine lv_iconst (v := 0) hx hb dX2_copyFrom_44 (by decide) ?_
  refine lv_aload_n hx hb dX2_copyFrom_45 rfl (lv_at hl 0 rfl) ?_
  refine get2 B hP h 3 (by decide) mw_289 rfl dX2_copyFrom_46 ?_
  refine lv_iconst (v := 0) hx hb dX2_copyFrom_49 (by decide) ?_
  refine lv_bipush (v := 23) hx hb dX2_copyFrom_50 (by decide) ?_
  refine acopy (n := 23) B hP hS (lay2 h1).2.2.2.2.2.1 (lay2 h).2.2.2.2.2.1 (lay2 h1).2.2.2.2.2.2.1 (lay2 h).2.2.2.2.2.2.1 rfl (by decide) hl.1 mw_481 mw_472 mw_471 mw_60 (Nat.le_of_ble_eq_true rfl) (Nat.le_of_ble_eq_true rfl) dX2_copyFrom_52 (fun H locs hP hS => ?_)
  obtain ⟨ρ145, e146⟩ : ∃ z, z = upc ρ143 (k + 4) (va_cpy (ρ143 (k1 + 4)) (ρ143 (k + 4)) 0 0 23) := ⟨_, rfl⟩
  rw [← e146] at hP
  have hI : CI r S ρ145 := by rw [e146]; exact CI_upc hI (by have := lay2l h; omega) (lay2 h).2.2.2.2.2.1 hSS
  refine lv_iconst (v := 0) hx hb dX2_copyFrom_55 (by decide) ?_
  refine lv_istore_n (lv' := [(2, .int 0), (0, .ref (E.2.1 + k)), (1, .ref (E.2.1 + k1))]) hx hb dX2_copyFrom_56 rfl hl (by decide) rfl (fun ls hl => ?_)
  exact b57_0 ls ρ145 _ _ _ 0 (lv_sub hl [1, 2, 0] rfl) hP hS hI (Nat.lt_succ_self _) (by omega) (by omega)
