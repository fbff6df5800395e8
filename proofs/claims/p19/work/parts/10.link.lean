theorem dX1_begin_0 : decode cX1_begin 0 = .ok (.aload_n 0, 1) := by decide +kernel
theorem dX1_begin_1 : decode cX1_begin 1 = .ok (.iload_n 1, 1) := by decide +kernel
theorem dX1_begin_2 : decode cX1_begin 2 = .ok (.putfield 33, 3) := by decide +kernel
theorem dX1_begin_5 : decode cX1_begin 5 = .ok (.aload_n 0, 1) := by decide +kernel
theorem dX1_begin_6 : decode cX1_begin 6 = .ok (.getfield 10, 3) := by decide +kernel
theorem dX1_begin_9 : decode cX1_begin 9 = .ok (.aload_n 2, 1) := by decide +kernel
theorem dX1_begin_10 : decode cX1_begin 10 = .ok (.invokevirtual 37, 3) := by decide +kernel
theorem dX1_begin_13 : decode cX1_begin 13 = .ok (.aload_n 0, 1) := by decide +kernel
theorem dX1_begin_14 : decode cX1_begin 14 = .ok (.iconst 1, 1) := by decide +kernel
theorem dX1_begin_15 : decode cX1_begin 15 = .ok (.putfield 41, 3) := by decide +kernel
theorem dX1_begin_18 : decode cX1_begin 18 = .ok (.aload_n 0, 1) := by decide +kernel
theorem dX1_begin_19 : decode cX1_begin 19 = .ok (.getfield 19, 3) := by decide +kernel
theorem dX1_begin_22 : decode cX1_begin 22 = .ok (.invokevirtual 45, 3) := by decide +kernel
theorem dX1_begin_25 : decode cX1_begin 25 = .ok (.aload_n 0, 1) := by decide +kernel
theorem dX1_begin_26 : decode cX1_begin 26 = .ok (.getfield 23, 3) := by decide +kernel
theorem dX1_begin_29 : decode cX1_begin 29 = .ok (.invokevirtual 45, 3) := by decide +kernel
theorem dX1_begin_32 : decode cX1_begin 32 = .ok (.aload_n 0, 1) := by decide +kernel
theorem dX1_begin_33 : decode cX1_begin 33 = .ok (.iconst 0, 1) := by decide +kernel
theorem dX1_begin_34 : decode cX1_begin 34 = .ok (.putfield 48, 3) := by decide +kernel
theorem dX1_begin_37 : decode cX1_begin 37 = .ok (.aload_n 0, 1) := by decide +kernel
theorem dX1_begin_38 : decode cX1_begin 38 = .ok (.getfield 29, 3) := by decide +kernel
theorem dX1_begin_41 : decode cX1_begin 41 = .ok (.iconst 0, 1) := by decide +kernel
theorem dX1_begin_42 : decode cX1_begin 42 = .ok (.iconst 0, 1) := by decide +kernel
theorem dX1_begin_43 : decode cX1_begin 43 = .ok (.iconst 0, 1) := by decide +kernel
theorem dX1_begin_44 : decode cX1_begin 44 = .ok (.invokevirtual 51, 3) := by decide +kernel
theorem dX1_begin_47 : decode cX1_begin 47 = .ok (.aload_n 0, 1) := by decide +kernel
theorem dX1_begin_48 : decode cX1_begin 48 = .ok (.iconst 0, 1) := by decide +kernel
theorem dX1_begin_49 : decode cX1_begin 49 = .ok (.putfield 55, 3) := by decide +kernel
theorem dX1_begin_52 : decode cX1_begin 52 = .ok (.aload_n 0, 1) := by decide +kernel
theorem dX1_begin_53 : decode cX1_begin 53 = .ok (.iconst 0, 1) := by decide +kernel
theorem dX1_begin_54 : decode cX1_begin 54 = .ok (.putfield 58, 3) := by decide +kernel
theorem dX1_begin_57 : decode cX1_begin 57 = .ok (.aload_n 0, 1) := by decide +kernel
theorem dX1_begin_58 : decode cX1_begin 58 = .ok (.iconst 1, 1) := by decide +kernel
theorem dX1_begin_59 : decode cX1_begin 59 = .ok (.putfield 61, 3) := by decide +kernel
theorem dX1_begin_62 : decode cX1_begin 62 = .ok (.aload_n 0, 1) := by decide +kernel
theorem dX1_begin_63 : decode cX1_begin 63 = .ok (.iconst 1, 1) := by decide +kernel
theorem dX1_begin_64 : decode cX1_begin 64 = .ok (.putfield 64, 3) := by decide +kernel
theorem dX1_begin_67 : decode cX1_begin 67 = .ok (.aload_n 0, 1) := by decide +kernel
theorem dX1_begin_68 : decode cX1_begin 68 = .ok (.iconst 0, 1) := by decide +kernel
theorem dX1_begin_69 : decode cX1_begin 69 = .ok (.putfield 67, 3) := by decide +kernel
theorem dX1_begin_72 : decode cX1_begin 72 = .ok (.aload_n 0, 1) := by decide +kernel
theorem dX1_begin_73 : decode cX1_begin 73 = .ok (.iconst 0, 1) := by decide +kernel
theorem dX1_begin_74 : decode cX1_begin 74 = .ok (.putfield 70, 3) := by decide +kernel
theorem dX1_begin_77 : decode cX1_begin 77 = .ok (.aload_n 0, 1) := by decide +kernel
theorem dX1_begin_78 : decode cX1_begin 78 = .ok (.iconst 0, 1) := by decide +kernel
theorem dX1_begin_79 : decode cX1_begin 79 = .ok (.putfield 73, 3) := by decide +kernel
theorem dX1_begin_82 : decode cX1_begin 82 = .ok (.aload_n 0, 1) := by decide +kernel
theorem dX1_begin_83 : decode cX1_begin 83 = .ok (.iconst 0, 1) := by decide +kernel
theorem dX1_begin_84 : decode cX1_begin 84 = .ok (.putfield 76, 3) := by decide +kernel
theorem dX1_begin_87 : decode cX1_begin 87 = .ok (.aload_n 0, 1) := by decide +kernel
theorem dX1_begin_88 : decode cX1_begin 88 = .ok (.iconst 0, 1) := by decide +kernel
theorem dX1_begin_89 : decode cX1_begin 89 = .ok (.putfield 79, 3) := by decide +kernel
theorem dX1_begin_92 : decode cX1_begin 92 = .ok (.aload_n 0, 1) := by decide +kernel
theorem dX1_begin_93 : decode cX1_begin 93 = .ok (.iload_n 3, 1) := by decide +kernel
theorem dX1_begin_94 : decode cX1_begin 94 = .ok (.putfield 82, 3) := by decide +kernel
theorem dX1_begin_97 : decode cX1_begin 97 = .ok (.aload_n 0, 1) := by decide +kernel
theorem dX1_begin_98 : decode cX1_begin 98 = .ok (.iconst 0, 1) := by decide +kernel
theorem dX1_begin_99 : decode cX1_begin 99 = .ok (.putfield 85, 3) := by decide +kernel
theorem dX1_begin_102 : decode cX1_begin 102 = .ok (.return_, 1) := by decide +kernel
theorem dX1_copyFrom_0 : decode cX1_copyFrom 0 = .ok (.aload_n 0, 1) := by decide +kernel
theorem dX1_copyFrom_1 : decode cX1_copyFrom 1 = .ok (.getfield 10, 3) := by decide +kernel
theorem dX1_copyFrom_4 : decode cX1_copyFrom 4 = .ok (.aload_n 1, 1) := by decide +kernel
theorem dX1_copyFrom_5 : decode cX1_copyFrom 5 = .ok (.getfield 10, 3) := by decide +kernel
theorem dX1_copyFrom_8 : decode cX1_copyFrom 8 = .ok (.invokevirtual 37, 3) := by decide +kernel
theorem dX1_copyFrom_11 : decode cX1_copyFrom 11 = .ok (.aload_n 0, 1) := by decide +kernel
theorem dX1_copyFrom_12 : decode cX1_copyFrom 12 = .ok (.getfield 19, 3) := by decide +kernel
theorem dX1_copyFrom_15 : decode cX1_copyFrom 15 = .ok (.aload_n 1, 1) := by decide +kernel
theorem dX1_copyFrom_16 : decode cX1_copyFrom 16 = .ok (.getfield 19, 3) := by decide +kernel
theorem dX1_copyFrom_19 : decode cX1_copyFrom 19 = .ok (.invokevirtual 88, 3) := by decide +kernel
theorem dX1_copyFrom_22 : decode cX1_copyFrom 22 = .ok (.aload_n 0, 1) := by decide +kernel
theorem dX1_copyFrom_23 : decode cX1_copyFrom 23 = .ok (.getfield 23, 3) := by decide +kernel
theorem dX1_copyFrom_26 : decode cX1_copyFrom 26 = .ok (.aload_n 1, 1) := by decide +kernel
theorem dX1_copyFrom_27 : decode cX1_copyFrom 27 = .ok (.getfield 23, 3) := by decide +kernel
theorem dX1_copyFrom_30 : decode cX1_copyFrom 30 = .ok (.invokevirtual 88, 3) := by decide +kernel
theorem dX1_copyFrom_33 : decode cX1_copyFrom 33 = .ok (.aload_n 0, 1) := by decide +kernel
theorem dX1_copyFrom_34 : decode cX1_copyFrom 34 = .ok (.getfield 29, 3) := by decide +kernel
theorem dX1_copyFrom_37 : decode cX1_copyFrom 37 = .ok (.aload_n 1, 1) := by decide +kernel
theorem dX1_copyFrom_38 : decode cX1_copyFrom 38 = .ok (.getfield 29, 3) := by decide +kernel
theorem dX1_copyFrom_41 : decode cX1_copyFrom 41 = .ok (.invokevirtual 91, 3) := by decide +kernel
theorem dX1_copyFrom_44 : decode cX1_copyFrom 44 = .ok (.aload_n 0, 1) := by decide +kernel
theorem dX1_copyFrom_45 : decode cX1_copyFrom 45 = .ok (.aload_n 1, 1) := by decide +kernel
theorem dX1_copyFrom_46 : decode cX1_copyFrom 46 = .ok (.getfield 33, 3) := by decide +kernel
theorem dX1_copyFrom_49 : decode cX1_copyFrom 49 = .ok (.putfield 33, 3) := by decide +kernel
theorem dX1_copyFrom_52 : decode cX1_copyFrom 52 = .ok (.aload_n 0, 1) := by decide +kernel
theorem dX1_copyFrom_53 : decode cX1_copyFrom 53 = .ok (.aload_n 1, 1) := by decide +kernel
theorem dX1_copyFrom_54 : decode cX1_copyFrom 54 = .ok (.getfield 41, 3) := by decide +kernel
theorem dX1_copyFrom_57 : decode cX1_copyFrom 57 = .ok (.putfield 41, 3) := by decide +kernel
theorem dX1_copyFrom_60 : decode cX1_copyFrom 60 = .ok (.aload_n 0, 1) := by decide +kernel
theorem dX1_copyFrom_61 : decode cX1_copyFrom 61 = .ok (.aload_n 1, 1) := by decide +kernel
theorem dX1_copyFrom_62 : decode cX1_copyFrom 62 = .ok (.getfield 48, 3) := by decide +kernel
theorem dX1_copyFrom_65 : decode cX1_copyFrom 65 = .ok (.putfield 48, 3) := by decide +kernel
theorem dX1_copyFrom_68 : decode cX1_copyFrom 68 = .ok (.aload_n 0, 1) := by decide +kernel
theorem dX1_copyFrom_69 : decode cX1_copyFrom 69 = .ok (.aload_n 1, 1) := by decide +kernel
theorem dX1_copyFrom_70 : decode cX1_copyFrom 70 = .ok (.getfield 55, 3) := by decide +kernel
theorem dX1_copyFrom_73 : decode cX1_copyFrom 73 = .ok (.putfield 55, 3) := by decide +kernel
theorem dX1_copyFrom_76 : decode cX1_copyFrom 76 = .ok (.aload_n 0, 1) := by decide +kernel
theorem dX1_copyFrom_77 : decode cX1_copyFrom 77 = .ok (.aload_n 1, 1) := by decide +kernel
theorem dX1_copyFrom_78 : decode cX1_copyFrom 78 = .ok (.getfield 58, 3) := by decide +kernel
theorem dX1_copyFrom_81 : decode cX1_copyFrom 81 = .ok (.putfield 58, 3) := by decide +kernel
theorem dX1_copyFrom_84 : decode cX1_copyFrom 84 = .ok (.aload_n 0, 1) := by decide +kernel
theorem dX1_copyFrom_85 : decode cX1_copyFrom 85 = .ok (.aload_n 1, 1) := by decide +kernel
theorem dX1_copyFrom_86 : decode cX1_copyFrom 86 = .ok (.getfield 61, 3) := by decide +kernel
theorem dX1_copyFrom_89 : decode cX1_copyFrom 89 = .ok (.putfield 61, 3) := by decide +kernel
theorem dX1_copyFrom_92 : decode cX1_copyFrom 92 = .ok (.aload_n 0, 1) := by decide +kernel
theorem dX1_copyFrom_93 : decode cX1_copyFrom 93 = .ok (.aload_n 1, 1) := by decide +kernel
theorem dX1_copyFrom_94 : decode cX1_copyFrom 94 = .ok (.getfield 64, 3) := by decide +kernel
theorem dX1_copyFrom_97 : decode cX1_copyFrom 97 = .ok (.putfield 64, 3) := by decide +kernel
theorem dX1_copyFrom_100 : decode cX1_copyFrom 100 = .ok (.aload_n 0, 1) := by decide +kernel
theorem dX1_copyFrom_101 : decode cX1_copyFrom 101 = .ok (.aload_n 1, 1) := by decide +kernel
theorem dX1_copyFrom_102 : decode cX1_copyFrom 102 = .ok (.getfield 67, 3) := by decide +kernel
theorem dX1_copyFrom_105 : decode cX1_copyFrom 105 = .ok (.putfield 67, 3) := by decide +kernel
theorem dX1_copyFrom_108 : decode cX1_copyFrom 108 = .ok (.aload_n 0, 1) := by decide +kernel
theorem dX1_copyFrom_109 : decode cX1_copyFrom 109 = .ok (.aload_n 1, 1) := by decide +kernel
theorem dX1_copyFrom_110 : decode cX1_copyFrom 110 = .ok (.getfield 70, 3) := by decide +kernel
theorem dX1_copyFrom_113 : decode cX1_copyFrom 113 = .ok (.putfield 70, 3) := by decide +kernel
theorem dX1_copyFrom_116 : decode cX1_copyFrom 116 = .ok (.aload_n 0, 1) := by decide +kernel
theorem dX1_copyFrom_117 : decode cX1_copyFrom 117 = .ok (.aload_n 1, 1) := by decide +kernel
theorem dX1_copyFrom_118 : decode cX1_copyFrom 118 = .ok (.getfield 73, 3) := by decide +kernel
theorem dX1_copyFrom_121 : decode cX1_copyFrom 121 = .ok (.putfield 73, 3) := by decide +kernel
theorem dX1_copyFrom_124 : decode cX1_copyFrom 124 = .ok (.aload_n 0, 1) := by decide +kernel
theorem dX1_copyFrom_125 : decode cX1_copyFrom 125 = .ok (.aload_n 1, 1) := by decide +kernel
theorem dX1_copyFrom_126 : decode cX1_copyFrom 126 = .ok (.getfield 76, 3) := by decide +kernel
theorem dX1_copyFrom_129 : decode cX1_copyFrom 129 = .ok (.putfield 76, 3) := by decide +kernel
theorem dX1_copyFrom_132 : decode cX1_copyFrom 132 = .ok (.aload_n 0, 1) := by decide +kernel
theorem dX1_copyFrom_133 : decode cX1_copyFrom 133 = .ok (.aload_n 1, 1) := by decide +kernel
theorem dX1_copyFrom_134 : decode cX1_copyFrom 134 = .ok (.getfield 79, 3) := by decide +kernel
theorem dX1_copyFrom_137 : decode cX1_copyFrom 137 = .ok (.putfield 79, 3) := by decide +kernel
theorem dX1_copyFrom_140 : decode cX1_copyFrom 140 = .ok (.aload_n 0, 1) := by decide +kernel
theorem dX1_copyFrom_141 : decode cX1_copyFrom 141 = .ok (.aload_n 1, 1) := by decide +kernel
theorem dX1_copyFrom_142 : decode cX1_copyFrom 142 = .ok (.getfield 82, 3) := by decide +kernel
theorem dX1_copyFrom_145 : decode cX1_copyFrom 145 = .ok (.putfield 82, 3) := by decide +kernel
theorem dX1_copyFrom_148 : decode cX1_copyFrom 148 = .ok (.return_, 1) := by decide +kernel
theorem dX1_isAwake_0 : decode cX1_isAwake 0 = .ok (.aload_n 0, 1) := by decide +kernel
theorem dX1_isAwake_1 : decode cX1_isAwake 1 = .ok (.getfield 55, 3) := by decide +kernel
theorem dX1_isAwake_4 : decode cX1_isAwake 4 = .ok (.ifCond .eq 18, 3) := by decide +kernel
theorem dX1_isAwake_7 : decode cX1_isAwake 7 = .ok (.iload_n 1, 1) := by decide +kernel
theorem dX1_isAwake_8 : decode cX1_isAwake 8 = .ok (.aload_n 0, 1) := by decide +kernel
theorem dX1_isAwake_9 : decode cX1_isAwake 9 = .ok (.getfield 55, 3) := by decide +kernel
theorem dX1_isAwake_12 : decode cX1_isAwake 12 = .ok (.irem, 1) := by decide +kernel
theorem dX1_isAwake_13 : decode cX1_isAwake 13 = .ok (.iconst 2, 1) := by decide +kernel
theorem dX1_isAwake_14 : decode cX1_isAwake 14 = .ok (.aload_n 0, 1) := by decide +kernel
theorem dX1_isAwake_15 : decode cX1_isAwake 15 = .ok (.getfield 58, 3) := by decide +kernel
theorem dX1_isAwake_18 : decode cX1_isAwake 18 = .ok (.imul, 1) := by decide +kernel
theorem dX1_isAwake_19 : decode cX1_isAwake 19 = .ok (.if_icmp .ge 7, 3) := by decide +kernel
theorem dX1_isAwake_22 : decode cX1_isAwake 22 = .ok (.iconst 1, 1) := by decide +kernel
theorem dX1_isAwake_23 : decode cX1_isAwake 23 = .ok (.goto 4, 3) := by decide +kernel
theorem dX1_isAwake_26 : decode cX1_isAwake 26 = .ok (.iconst 0, 1) := by decide +kernel
theorem dX1_isAwake_27 : decode cX1_isAwake 27 = .ok (.ireturn, 1) := by decide +kernel
theorem dX1_hearCast_0 : decode cX1_hearCast 0 = .ok (.aload_n 0, 1) := by decide +kernel
theorem dX1_hearCast_1 : decode cX1_hearCast 1 = .ok (.getfield 64, 3) := by decide +kernel
theorem dX1_hearCast_4 : decode cX1_hearCast 4 = .ok (.iload_n 2, 1) := by decide +kernel
theorem dX1_hearCast_5 : decode cX1_hearCast 5 = .ok (.if_icmp .eq 33, 3) := by decide +kernel
theorem dX1_hearCast_8 : decode cX1_hearCast 8 = .ok (.aload_n 0, 1) := by decide +kernel
theorem dX1_hearCast_9 : decode cX1_hearCast 9 = .ok (.iload_n 2, 1) := by decide +kernel
theorem dX1_hearCast_10 : decode cX1_hearCast 10 = .ok (.putfield 64, 3) := by decide +kernel
theorem dX1_hearCast_13 : decode cX1_hearCast 13 = .ok (.aload_n 0, 1) := by decide +kernel
theorem dX1_hearCast_14 : decode cX1_hearCast 14 = .ok (.dup, 1) := by decide +kernel
theorem dX1_hearCast_15 : decode cX1_hearCast 15 = .ok (.getfield 67, 3) := by decide +kernel
theorem dX1_hearCast_18 : decode cX1_hearCast 18 = .ok (.iconst 1, 1) := by decide +kernel
theorem dX1_hearCast_19 : decode cX1_hearCast 19 = .ok (.iadd, 1) := by decide +kernel
theorem dX1_hearCast_20 : decode cX1_hearCast 20 = .ok (.putfield 67, 3) := by decide +kernel
theorem dX1_hearCast_23 : decode cX1_hearCast 23 = .ok (.aload_n 0, 1) := by decide +kernel
theorem dX1_hearCast_24 : decode cX1_hearCast 24 = .ok (.bipush 31, 2) := by decide +kernel
theorem dX1_hearCast_26 : decode cX1_hearCast 26 = .ok (.aload_n 0, 1) := by decide +kernel
theorem dX1_hearCast_27 : decode cX1_hearCast 27 = .ok (.getfield 70, 3) := by decide +kernel
theorem dX1_hearCast_30 : decode cX1_hearCast 30 = .ok (.imul, 1) := by decide +kernel
theorem dX1_hearCast_31 : decode cX1_hearCast 31 = .ok (.iload_n 1, 1) := by decide +kernel
theorem dX1_hearCast_32 : decode cX1_hearCast 32 = .ok (.iadd, 1) := by decide +kernel
theorem dX1_hearCast_33 : decode cX1_hearCast 33 = .ok (.iconst 1, 1) := by decide +kernel
theorem dX1_hearCast_34 : decode cX1_hearCast 34 = .ok (.iadd, 1) := by decide +kernel
theorem dX1_hearCast_35 : decode cX1_hearCast 35 = .ok (.putfield 70, 3) := by decide +kernel
theorem dX1_hearCast_38 : decode cX1_hearCast 38 = .ok (.return_, 1) := by decide +kernel
theorem dX1_hearMapOf_0 : decode cX1_hearMapOf 0 = .ok (.aload_n 1, 1) := by decide +kernel
theorem dX1_hearMapOf_1 : decode cX1_hearMapOf 1 = .ok (.invokevirtual 94, 3) := by decide +kernel
theorem dX1_hearMapOf_4 : decode cX1_hearMapOf 4 = .ok (.ifCond .eq 21, 3) := by decide +kernel
theorem dX1_hearMapOf_7 : decode cX1_hearMapOf 7 = .ok (.aload_n 0, 1) := by decide +kernel
theorem dX1_hearMapOf_8 : decode cX1_hearMapOf 8 = .ok (.getfield 10, 3) := by decide +kernel
theorem dX1_hearMapOf_11 : decode cX1_hearMapOf 11 = .ok (.aload_n 1, 1) := by decide +kernel
theorem dX1_hearMapOf_12 : decode cX1_hearMapOf 12 = .ok (.getfield 98, 3) := by decide +kernel
theorem dX1_hearMapOf_15 : decode cX1_hearMapOf 15 = .ok (.aload_n 1, 1) := by decide +kernel
theorem dX1_hearMapOf_16 : decode cX1_hearMapOf 16 = .ok (.getfield 101, 3) := by decide +kernel
theorem dX1_hearMapOf_19 : decode cX1_hearMapOf 19 = .ok (.invokevirtual 104, 3) := by decide +kernel
theorem dX1_hearMapOf_22 : decode cX1_hearMapOf 22 = .ok (.goto 14, 3) := by decide +kernel
theorem dX1_hearMapOf_25 : decode cX1_hearMapOf 25 = .ok (.aload_n 0, 1) := by decide +kernel
theorem dX1_hearMapOf_26 : decode cX1_hearMapOf 26 = .ok (.getfield 10, 3) := by decide +kernel
theorem dX1_hearMapOf_29 : decode cX1_hearMapOf 29 = .ok (.aload_n 1, 1) := by decide +kernel
theorem dX1_hearMapOf_30 : decode cX1_hearMapOf 30 = .ok (.getfield 108, 3) := by decide +kernel
theorem dX1_hearMapOf_33 : decode cX1_hearMapOf 33 = .ok (.invokevirtual 111, 3) := by decide +kernel
theorem dX1_hearMapOf_36 : decode cX1_hearMapOf 36 = .ok (.return_, 1) := by decide +kernel
theorem lk_RX1_37 : LkV RX1 37 RX3 yX3_copyFrom cX3_copyFrom 2 none 1 := ⟨⟨mw_486, mw_478, mw_479, mw_55, mw_480⟩, by decide +kernel⟩
theorem lk_RX1_45 : LkV RX1 45 RX4 yX4_begin cX4_begin 1 none 0 := ⟨⟨mw_532, mw_533, mw_534, mw_57, mw_535⟩, by decide +kernel⟩
theorem lk_RX1_51 : LkV RX1 51 RX0 yX0_set cX0_set 4 none 3 := ⟨⟨mw_536, mw_537, mw_538, mw_58, mw_539⟩, by decide +kernel⟩
set_option maxHeartbeats 4000000 in
set_option maxRecDepth 100000 in
theorem d_X1_begin (l : Launch) (E : hE) (ρ r : Nat → Nat → Int32) (S : Nat × Nat → Prop) (hSS : SK S) (k : Nat) (h : hk k = 1) (a1 : Int32) (k2 : Nat) (h2 : hk k2 = 3) (a3 : Int32) (hI : CI r S ρ) : Met l yX1_begin (.code yX1_begin cX1_begin 4 none :: gw_all) (rmk 2 80) (cPre E ρ [.ref (E.2.1 + k), .int a1, .ref (E.2.1 + k2), .int a3]) (cV E (fun ρ1 => CI r S ρ1)) 0 0 (hA E) := by
  refine ent (own := RX1) (by decide) rfl (Nat.le_of_ble_eq_true rfl) ?_
  intro p e s m below meth c ls B hr hlk hl hP hS
  have hx := B.1.1
  have hb := B.1.2.1
  have hown := B.1.2.2.2.1
  have hts := B.1.2.2.2.2
  have hl : lv_has ls 4 [(0, .ref (E.2.1 + k)), (1, .int a1), (2, .ref (E.2.1 + k2)), (3, .int a3)] := hl
  refine lv_aload_n hx hb dX1_begin_0 rfl (lv_at hl 0 rfl) ?_
  refine lv_iload_n hx hb dX1_begin_1 rfl (lv_at hl 1 rfl) ?_
  refine put1 B hP hS h 4 (by decide) mw_207 rfl rfl rfl (fs1_4 E k _ _) dX1_begin_2 (fun H locs hP hS => ?_)
  obtain ⟨ρ45, e46⟩ : ∃ z, z = up ρ k 4 a1 := ⟨_, rfl⟩
  rw [← e46] at hP
  have hI : CI r S ρ45 := by rw [e46]; exact CI_up hI (kind_lt h (by decide)) (SP_plain h rfl (by decide)) ⟨(fun z2 => absurd (Eq.trans (Eq.symm h) z2) (by decide)), (fun z2 => absurd (Eq.trans (Eq.symm h) z2) (by decide))⟩ hSS
  refine lv_aload_n hx hb dX1_begin_5 rfl (lv_at hl 0 rfl) ?_
  refine get1 B hP h 0 (by decide) mw_193 rfl dX1_begin_6 ?_
  refine lv_aload_n hx hb dX1_begin_9 rfl (lv_at hl 2 rfl) ?_
  refine call_v (cVt (k := (k + 1)) (av := [.ref (E.2.1 + k2)]) (rest := []) B hP hS (d_X3_copyFrom l E ρ45 r S hSS (k + 1) (lay1 h).1 k2 h2 hI) lk_RX1_37 (hrecv (ci := 3) B hP (hk_lt (c := 3) (lay1 h).1 (by decide)) (hcc3 _ _ (lay1 h).1) rfl) rfl rfl hl.1 (Nat.le_of_ble_eq_true rfl) ⟨Nat.le_of_ble_eq_true rfl, Nat.le_of_ble_eq_true rfl⟩ ⟨Nat.le_of_ble_eq_true rfl, Nat.le_of_ble_eq_true rfl⟩ dX1_begin_10) hS (fun ρ48 H locs q49 hP hS => ?_)
  have hI := q49
  refine lv_aload_n hx hb dX1_begin_13 rfl (lv_at hl 0 rfl) ?_
  refine lv_iconst (v := 1) hx hb dX1_begin_14 (by decide) ?_
  refine put1 B hP hS h 5 (by decide) mw_211 rfl rfl rfl (fs1_5 E k _ _) dX1_begin_15 (fun H locs hP hS => ?_)
  obtain ⟨ρ51, e52⟩ : ∃ z, z = up ρ48 k 5 1 := ⟨_, rfl⟩
  rw [← e52] at hP
  have hI : CI r S ρ51 := by rw [e52]; exact CI_up hI (kind_lt h (by decide)) (SP_rng h rfl (by decide) (iR_w (a := 1) (b := 1) (show iR 1 (1) (1) from ⟨by decide, by decide⟩) (by decide) (by decide))) ⟨(fun z2 => absurd (Eq.trans (Eq.symm h) z2) (by decide)), (fun z2 => absurd (Eq.trans (Eq.symm h) z2) (by decide))⟩ hSS
  refine lv_aload_n hx hb dX1_begin_18 rfl (lv_at hl 0 rfl) ?_
  refine get1 B hP h 1 (by decide) mw_197 rfl dX1_begin_19 ?_
  refine call_v (cVt (k := (k + 2)) (av := []) (rest := []) B hP hS (d_X4_begin l E ρ51 r S hSS (k + 2) (lay1 h).2.1 hI) lk_RX1_45 (hrecv (ci := 4) B hP (hk_lt (c := 4) (lay1 h).2.1 (by decide)) (hcc4 _ _ (lay1 h).2.1) rfl) rfl rfl hl.1 (Nat.le_of_ble_eq_true rfl) ⟨Nat.le_of_ble_eq_true rfl, Nat.le_of_ble_eq_true rfl⟩ ⟨Nat.le_of_ble_eq_true rfl, Nat.le_of_ble_eq_true rfl⟩ dX1_begin_22) hS (fun ρ54 H locs q55 hP hS => ?_)
  have hI := q55
  refine lv_aload_n hx hb dX1_begin_25 rfl (lv_at hl 0 rfl) ?_
  refine get1 B hP h 2 (by decide) mw_200 rfl dX1_begin_26 ?_
  refine call_v (cVt (k := (k + 5)) (av := []) (rest := []) B hP hS (d_X4_begin l E ρ54 r S hSS (k + 5) (lay1 h).2.2.1 hI) lk_RX1_45 (hrecv (ci := 4) B hP (hk_lt (c := 4) (lay1 h).2.2.1 (by decide)) (hcc4 _ _ (lay1 h).2.2.1) rfl) rfl rfl hl.1 (Nat.le_of_ble_eq_true rfl) ⟨Nat.le_of_ble_eq_true rfl, Nat.le_of_ble_eq_true rfl⟩ ⟨Nat.le_of_ble_eq_true rfl, Nat.le_of_ble_eq_true rfl⟩ dX1_begin_29) hS (fun ρ58 H locs q59 hP hS => ?_)
  have hI := q59
  refine lv_aload_n hx hb dX1_begin_32 rfl (lv_at hl 0 rfl) ?_
  refine lv_iconst (v := 0) hx hb dX1_begin_33 (by decide) ?_
  refine put1 B hP hS h 6 (by decide) mw_215 rfl rfl rfl (fs1_6 E k _ _) dX1_begin_34 (fun H locs hP hS => ?_)
  obtain ⟨ρ61, e62⟩ : ∃ z, z = up ρ58 k 6 0 := ⟨_, rfl⟩
  rw [← e62] at hP
  have hI : CI r S ρ61 := by rw [e62]; exact CI_up hI (kind_lt h (by decide)) (SP_rng h rfl (by decide) (iR_w (a := 0) (b := 0) (show iR 0 (0) (0) from ⟨by decide, by decide⟩) (by decide) (by decide))) ⟨(fun z2 => absurd (Eq.trans (Eq.symm h) z2) (by decide)), (fun z2 => absurd (Eq.trans (Eq.symm h) z2) (by decide))⟩ hSS
  refine lv_aload_n hx hb dX1_begin_37 rfl (lv_at hl 0 rfl) ?_
  refine get1 B hP h 3 (by decide) mw_203 rfl dX1_begin_38 ?_
  refine lv_iconst (v := 0) hx hb dX1_begin_41 (by decide) ?_
  refine lv_iconst (v := 0) hx hb dX1_begin_42 (by decide) ?_
  refine lv_iconst (v := 0) hx hb dX1_begin_43 (by decide) ?_
  refine call_v (cVt (k := (k + 8)) (av := [.int 0, .int 0, .int 0]) (rest := []) B hP hS (d_X0_set l E ρ61 r S hSS (k + 8) (lay1 h).2.2.2 0 0 0 hI) lk_RX1_51 (hrecv (ci := 0) B hP (hk_lt (c := 0) (lay1 h).2.2.2 (by decide)) (hcc0 _ _ (lay1 h).2.2.2) rfl) rfl rfl hl.1 (Nat.le_of_ble_eq_true rfl) ⟨Nat.le_of_ble_eq_true rfl, Nat.le_of_ble_eq_true rfl⟩ ⟨Nat.le_of_ble_eq_true rfl, Nat.le_of_ble_eq_true rfl⟩ dX1_begin_44) hS (fun ρ64 H locs q65 hP hS => ?_)
  have hI := q65
  refine lv_aload_n hx hb dX1_begin_47 rfl (lv_at hl 0 rfl) ?_
  refine lv_iconst (v := 0) hx hb dX1_begin_48 (by decide) ?_
  refine put1 B hP hS h 7 (by decide) mw_217 rfl rfl rfl (fs1_7 E k _ _) dX1_begin_49 (fun H locs hP hS => ?_)
  obtain ⟨ρ67, e68⟩ : ∃ z, z = up ρ64 k 7 0 := ⟨_, rfl⟩
  rw [← e68] at hP
  have hI : CI r S ρ67 := by rw [e68]; exact CI_up hI (kind_lt h (by decide)) (SP_plain h rfl (by decide)) ⟨(fun z2 => absurd (Eq.trans (Eq.symm h) z2) (by decide)), (fun z2 => absurd (Eq.trans (Eq.symm h) z2) (by decide))⟩ hSS
  refine lv_aload_n hx hb dX1_begin_52 rfl (lv_at hl 0 rfl) ?_
  refine lv_iconst (v := 0) hx hb dX1_begin_53 (by decide) ?_
  refine put1 B hP hS h 8 (by decide) mw_219 rfl rfl rfl (fs1_8 E k _ _) dX1_begin_54 (fun H locs hP hS => ?_)
  obtain ⟨ρ69, e70⟩ : ∃ z, z = up ρ67 k 8 0 := ⟨_, rfl⟩
  rw [← e70] at hP
  have hI : CI r S ρ69 := by rw [e70]; exact CI_up hI (kind_lt h (by decide)) (SP_plain h rfl (by decide)) ⟨(fun z2 => absurd (Eq.trans (Eq.symm h) z2) (by decide)), (fun z2 => absurd (Eq.trans (Eq.symm h) z2) (by decide))⟩ hSS
  refine lv_aload_n hx hb dX1_begin_57 rfl (lv_at hl 0 rfl) ?_
  refine lv_iconst (v := 1) hx hb dX1_begin_58 (by decide) ?_
  refine put1 B hP hS h 9 (by decide) mw_221 rfl rfl rfl (fs1_9 E k _ _) dX1_begin_59 (fun H locs hP hS => ?_)
  obtain ⟨ρ71, e72⟩ : ∃ z, z = up ρ69 k 9 1 := ⟨_, rfl⟩
  rw [← e72] at hP
  have hI : CI r S ρ71 := by rw [e72]; exact CI_up hI (kind_lt h (by decide)) (SP_plain h rfl (by decide)) ⟨(fun z2 => absurd (Eq.trans (Eq.symm h) z2) (by decide)), (fun z2 => absurd (Eq.trans (Eq.symm h) z2) (by decide))⟩ hSS
  refine lv_aload_n hx hb dX1_begin_62 rfl (lv_at hl 0 rfl) ?_
  refine lv_iconst (v := 1) hx hb dX1_begin_63 (by decide) ?_
  refine put1 B hP hS h 10 (by decide) mw_224 rfl rfl rfl (fs1_10 E k _ _) dX1_begin_64 (fun H locs hP hS => ?_)
  obtain ⟨ρ73, e74⟩ : ∃ z, z = up ρ71 k 10 1 := ⟨_, rfl⟩
  rw [← e74] at hP
  have hI : CI r S ρ73 := by rw [e74]; exact CI_up hI (kind_lt h (by decide)) (SP_plain h rfl (by decide)) ⟨(fun z2 => absurd (Eq.trans (Eq.symm h) z2) (by decide)), (fun z2 => absurd (Eq.trans (Eq.symm h) z2) (by decide))⟩ hSS
  refine lv_aload_n hx hb dX1_begin_67 rfl (lv_at hl 0 rfl) ?_
  refine lv_iconst (v := 0) hx hb dX1_begin_68 (by decide) ?_
  refine put1 B hP hS h 11 (by decide) mw_226 rfl rfl rfl (fs1_11 E k _ _) dX1_begin_69 (fun H locs hP hS => ?_)
  obtain ⟨ρ75, e76⟩ : ∃ z, z = up ρ73 k 11 0 := ⟨_, rfl⟩
  rw [← e76] at hP
  have hI : CI r S ρ75 := by rw [e76]; exact CI_up hI (kind_lt h (by decide)) (SP_plain h rfl (by decide)) ⟨(fun z2 => absurd (Eq.trans (Eq.symm h) z2) (by decide)), (fun z2 => absurd (Eq.trans (Eq.symm h) z2) (by decide))⟩ hSS
  refine lv_aload_n hx hb dX1_begin_72 rfl (lv_at hl 0 rfl) ?_
  refine lv_iconst (v := 0) hx hb dX1_begin_73 (by decide) ?_
  refine put1 B hP hS h 12 (by decide) mw_228 rfl rfl rfl (fs1_12 E k _ _) dX1_begin_74 (fun H locs hP hS => ?_)
  obtain ⟨ρ77, e78⟩ : ∃ z, z = up ρ75 k 12 0 := ⟨_, rfl⟩
  rw [← e78] at hP
  have hI : CI r S ρ77 := by rw [e78]; exact CI_up hI (kind_lt h (by decide)) (SP_plain h rfl (by decide)) ⟨(fun z2 => absurd (Eq.trans (Eq.symm h) z2) (by decide)), (fun z2 => absurd (Eq.trans (Eq.symm h) z2) (by decide))⟩ hSS
  refine lv_aload_n hx hb dX1_begin_77 rfl (lv_at hl 0 rfl) ?_
  refine lv_iconst (v := 0) hx hb dX1_begin_78 (by decide) ?_
  refine put1 B hP hS h 13 (by decide) mw_230 rfl rfl rfl (fs1_13 E k _ _) dX1_begin_79 (fun H locs hP hS => ?_)
  obtain ⟨ρ79, e80⟩ : ∃ z, z = up ρ77 k 13 0 := ⟨_, rfl⟩
  rw [← e80] at hP
  have hI : CI r S ρ79 := by rw [e80]; exact CI_up hI (kind_lt h (by decide)) (SP_plain h rfl (by decide)) ⟨(fun z2 => absurd (Eq.trans (Eq.symm h) z2) (by decide)), (fun z2 => absurd (Eq.trans (Eq.symm h) z2) (by decide))⟩ hSS
  refine lv_aload_n hx hb dX1_begin_82 rfl (lv_at hl 0 rfl) ?_
  refine lv_iconst (v := 0) hx hb dX1_begin_83 (by decide) ?_
  refine put1 B hP hS h 14 (by decide) mw_233 rfl rfl rfl (fs1_14 E k _ _) dX1_begin_84 (fun H locs hP hS => ?_)
  obtain ⟨ρ81, e82⟩ : ∃ z, z = up ρ79 k 14 0 := ⟨_, rfl⟩
  rw [← e82] at hP
  have hI : CI r S ρ81 := by rw [e82]; exact CI_up hI (kind_lt h (by decide)) (SP_plain h rfl (by decide)) ⟨(fun z2 => absurd (Eq.trans (Eq.symm h) z2) (by decide)), (fun z2 => absurd (Eq.trans (Eq.symm h) z2) (by decide))⟩ hSS
  refine lv_aload_n hx hb dX1_begin_87 rfl (lv_at hl 0 rfl) ?_
  refine lv_iconst (v := 0) hx hb dX1_begin_88 (by decide) ?_
  refine put1 B hP hS h 15 (by decide) mw_236 rfl rfl rfl (fs1_15 E k _ _) dX1_begin_89 (fun H locs hP hS => ?_)
  obtain ⟨ρ83, e84⟩ : ∃ z, z = up ρ81 k 15 0 := ⟨_, rfl⟩
  rw [← e84] at hP
  have hI : CI r S ρ83 := by rw [e84]; exact CI_up hI (kind_lt h (by decide)) (SP_plain h rfl (by decide)) ⟨(fun z2 => absurd (Eq.trans (Eq.symm h) z2) (by decide)), (fun z2 => absurd (Eq.trans (Eq.symm h) z2) (by decide))⟩ hSS
  refine lv_aload_n hx hb dX1_begin_92 rfl (lv_at hl 0 rfl) ?_
  refine lv_iload_n hx hb dX1_begin_93 rfl (lv_at hl 3 rfl) ?_
  refine put1 B hP hS h 16 (by decide) mw_239 rfl rfl rfl (fs1_16 E k _ _) dX1_begin_94 (fun H locs hP hS => ?_)
  obtain ⟨ρ85, e86⟩ : ∃ z, z = up ρ83 k 16 a3 := ⟨_, rfl⟩
  rw [← e86] at hP
  have hI : CI r S ρ85 := by rw [e86]; exact CI_up hI (kind_lt h (by decide)) (SP_plain h rfl (by decide)) ⟨(fun z2 => absurd (Eq.trans (Eq.symm h) z2) (by decide)), (fun z2 => absurd (Eq.trans (Eq.symm h) z2) (by decide))⟩ hSS
  refine lv_aload_n hx hb dX1_begin_97 rfl (lv_at hl 0 rfl) ?_
  refine lv_iconst (v := 0) hx hb dX1_begin_98 (by decide) ?_
  refine put1 B hP hS h 17 (by decide) mw_242 rfl rfl rfl (fs1_17 E k _ _) dX1_begin_99 (fun H locs hP hS => ?_)
  obtain ⟨ρ87, e88⟩ : ∃ z, z = up ρ85 k 17 0 := ⟨_, rfl⟩
  rw [← e88] at hP
  have hI : CI r S ρ87 := by rw [e88]; exact CI_up hI (kind_lt h (by decide)) (SP_rng h rfl (by decide) (iR_w (a := 0) (b := 0) (show iR 0 (0) (0) from ⟨by decide, by decide⟩) (by decide) (by decide))) ⟨(fun z2 => absurd (Eq.trans (Eq.symm h) z2) (by decide)), (fun z2 => absurd (Eq.trans (Eq.symm h) z2) (by decide))⟩ hSS
  exact ret_v B hr hlk hP hS dX1_begin_102 (hI)

theorem lk_RX1_88 : LkV RX1 88 RX4 yX4_copyFrom cX4_copyFrom 2 none 1 := ⟨⟨mw_487, mw_488, mw_489, mw_57, mw_490⟩, by decide +kernel⟩
theorem lk_RX1_91 : LkV RX1 91 RX0 yX0_copyFrom cX0_copyFrom 2 none 1 := ⟨⟨mw_492, mw_493, mw_494, mw_58, mw_495⟩, by decide +kernel⟩
set_option maxHeartbeats 4000000 in
set_option maxRecDepth 100000 in
theorem d_X1_copyFrom (l : Launch) (E : hE) (ρ r : Nat → Nat → Int32) (S : Nat × Nat → Prop) (hSS : SK S) (k : Nat) (h : hk k = 1) (k1 : Nat) (h1 : hk k1 = 1) (hI : CI r S ρ) : Met l yX1_copyFrom (.code yX1_copyFrom cX1_copyFrom 2 none :: gw_all) (rmk 3 120) (cPre E ρ [.ref (E.2.1 + k), .ref (E.2.1 + k1)]) (cV E (fun ρ1 => CI r S ρ1)) 0 0 (hA E) := by
  refine ent (own := RX1) (by decide) rfl (Nat.le_of_ble_eq_true rfl) ?_
  intro p e s m below meth c ls B hr hlk hl hP hS
  have hx := B.1.1
  have hb := B.1.2.1
  have hown := B.1.2.2.2.1
  have hts := B.1.2.2.2.2
  have hl : lv_has ls 2 [(0, .ref (E.2.1 + k)), (1, .ref (E.2.1 + k1))] := hl
  refine lv_aload_n hx hb dX1_copyFrom_0 rfl (lv_at hl 0 rfl) ?_
  refine get1 B hP h 0 (by decide) mw_193 rfl dX1_copyFrom_1 ?_
  refine lv_aload_n hx hb dX1_copyFrom_4 rfl (lv_at hl 1 rfl) ?_
  refine get1 B hP h1 0 (by decide) mw_193 rfl dX1_copyFrom_5 ?_
  refine call_v (cVt (k := (k + 1)) (av := [.ref (E.2.1 + (k1 + 1))]) (rest := []) B hP hS (d_X3_copyFrom l E ρ r S hSS (k + 1) (lay1 h).1 (k1 + 1) (lay1 h1).1 hI) lk_RX1_37 (hrecv (ci := 3) B hP (hk_lt (c := 3) (lay1 h).1 (by decide)) (hcc3 _ _ (lay1 h).1) rfl) rfl rfl hl.1 (Nat.le_of_ble_eq_true rfl) ⟨Nat.le_of_ble_eq_true rfl, Nat.le_of_ble_eq_true rfl⟩ ⟨Nat.le_of_ble_eq_true rfl, Nat.le_of_ble_eq_true rfl⟩ dX1_copyFrom_8) hS (fun ρ50 H locs q51 hP hS => ?_)
  have hI := q51
  refine lv_aload_n hx hb dX1_copyFrom_11 rfl (lv_at hl 0 rfl) ?_
  refine get1 B hP h 1 (by decide) mw_197 rfl dX1_copyFrom_12 ?_
  refine lv_aload_n hx hb dX1_copyFrom_15 rfl (lv_at hl 1 rfl) ?_
  refine get1 B hP h1 1 (by decide) mw_197 rfl dX1_copyFrom_16 ?_
  refine call_v (cVt (k := (k + 2)) (av := [.ref (E.2.1 + (k1 + 2))]) (rest := []) B hP hS (d_X4_copyFrom l E ρ50 r S hSS (k + 2) (lay1 h).2.1 (k1 + 2) (lay1 h1).2.1 hI) lk_RX1_88 (hrecv (ci := 4) B hP (hk_lt (c := 4) (lay1 h).2.1 (by decide)) (hcc4 _ _ (lay1 h).2.1) rfl) rfl rfl hl.1 (Nat.le_of_ble_eq_true rfl) ⟨Nat.le_of_ble_eq_true rfl, Nat.le_of_ble_eq_true rfl⟩ ⟨Nat.le_of_ble_eq_true rfl, Nat.le_of_ble_eq_true rfl⟩ dX1_copyFrom_19) hS (fun ρ54 H locs q55 hP hS => ?_)
  have hI := q55
  refine lv_aload_n hx hb dX1_copyFrom_22 rfl (lv_at hl 0 rfl) ?_
  refine get1 B hP h 2 (by decide) mw_200 rfl dX1_copyFrom_23 ?_
  refine lv_aload_n hx hb dX1_copyFrom_26 rfl (lv_at hl 1 rfl) ?_
  refine get1 B hP h1 2 (by decide) mw_200 rfl dX1_copyFrom_27 ?_
  refine call_v (cVt (k := (k + 5)) (av := [.ref (E.2.1 + (k1 + 5))]) (rest := []) B hP hS (d_X4_copyFrom l E ρ54 r S hSS (k + 5) (lay1 h).2.2.1 (k1 + 5) (lay1 h1).2.2.1 hI) lk_RX1_88 (hrecv (ci := 4) B hP (hk_lt (c := 4) (lay1 h).2.2.1 (by decide)) (hcc4 _ _ (lay1 h).2.2.1) rfl) rfl rfl hl.1 (Nat.le_of_ble_eq_true rfl) ⟨Nat.le_of_ble_eq_true rfl, Nat.le_of_ble_eq_true rfl⟩ ⟨Nat.le_of_ble_eq_true rfl, Nat.le_of_ble_eq_true rfl⟩ dX1_copyFrom_30) hS (fun ρ58 H locs q59 hP hS => ?_)
  have hI := q59
  refine lv_aload_n hx hb dX1_copyFrom_33 rfl (lv_at hl 0 rfl) ?_
  refine get1 B hP h 3 (by decide) mw_203 rfl dX1_copyFrom_34 ?_
  refine lv_aload_n hx hb dX1_copyFrom_37 rfl (lv_at hl 1 rfl) ?_
  refine get1 B hP h1 3 (by decide) mw_203 rfl dX1_copyFrom_38 ?_
  refine call_v (cVt (k := (k + 8)) (av := [.ref (E.2.1 + (k1 + 8))]) (rest := []) B hP hS (d_X0_copyFrom l E ρ58 r S hSS (k + 8) (lay1 h).2.2.2 (k1 + 8) (lay1 h1).2.2.2 hI) lk_RX1_91 (hrecv (ci := 0) B hP (hk_lt (c := 0) (lay1 h).2.2.2 (by decide)) (hcc0 _ _ (lay1 h).2.2.2) rfl) rfl rfl hl.1 (Nat.le_of_ble_eq_true rfl) ⟨Nat.le_of_ble_eq_true rfl, Nat.le_of_ble_eq_true rfl⟩ ⟨Nat.le_of_ble_eq_true rfl, Nat.le_of_ble_eq_true rfl⟩ dX1_copyFrom_41) hS (fun ρ62 H locs q63 hP hS => ?_)
  have hI := q63
  refine lv_aload_n hx hb dX1_copyFrom_44 rfl (lv_at hl 0 rfl) ?_
  refine lv_aload_n hx hb dX1_copyFrom_45 rfl (lv_at hl 1 rfl) ?_
  refine get1 B hP h1 4 (by decide) mw_207 rfl dX1_copyFrom_46 ?_
  refine put1 B hP hS h 4 (by decide) mw_207 rfl rfl rfl (fs1_4 E k _ _) dX1_copyFrom_49 (fun H locs hP hS => ?_)
  obtain ⟨ρ65, e66⟩ : ∃ z, z = up ρ62 k 4 (ρ62 k1 4) := ⟨_, rfl⟩
  rw [← e66] at hP
  have hI : CI r S ρ65 := by rw [e66]; exact CI_up hI (kind_lt h (by decide)) (SP_plain h rfl (by decide)) ⟨(fun z2 => absurd (Eq.trans (Eq.symm h) z2) (by decide)), (fun z2 => absurd (Eq.trans (Eq.symm h) z2) (by decide))⟩ hSS
  refine lv_aload_n hx hb dX1_copyFrom_52 rfl (lv_at hl 0 rfl) ?_
  refine lv_aload_n hx hb dX1_copyFrom_53 rfl (lv_at hl 1 rfl) ?_
  refine get1 B hP h1 5 (by decide) mw_211 rfl dX1_copyFrom_54 ?_
  have i67 : iR (ρ65 k1 5) 0 1 := CI_get hI (kind_lt h1 (by decide)) h1 rfl
  obtain ⟨j68, lj68, uj68, ej68⟩ := iR_nat (a := 0) (b := 1) i67
  refine lv_topi (fun z69 ez69 => ?_)
  obtain rfl : z69 = nI j68 := ez69.trans ej68
  refine put1 B hP hS h 5 (by decide) mw_211 rfl (nar_b (b01 (iR_w (a := 0) (b := 1) (nI_iR (j := j68) (a := 0) (b := 1) (by omega) (by omega) (by omega)) (by decide) (by decide)))) (fit_b (b01 (iR_w (a := 0) (b := 1) (nI_iR (j := j68) (a := 0) (b := 1) (by omega) (by omega) (by omega)) (by decide) (by decide)))) (fs1_5 E k _ _) dX1_copyFrom_57 (fun H locs hP hS => ?_)
  obtain ⟨ρ70, e71⟩ : ∃ z, z = up ρ65 k 5 (nI j68) := ⟨_, rfl⟩
  rw [← e71] at hP
  have hI : CI r S ρ70 := by rw [e71]; exact CI_up hI (kind_lt h (by decide)) (SP_rng h rfl (by decide) (iR_w (a := 0) (b := 1) (nI_iR (j := j68) (a := 0) (b := 1) (by omega) (by omega) (by omega)) (by decide) (by decide))) ⟨(fun z2 => absurd (Eq.trans (Eq.symm h) z2) (by decide)), (fun z2 => absurd (Eq.trans (Eq.symm h) z2) (by decide))⟩ hSS
  refine lv_aload_n hx hb dX1_copyFrom_60 rfl (lv_at hl 0 rfl) ?_
  refine lv_aload_n hx hb dX1_copyFrom_61 rfl (lv_at hl 1 rfl) ?_
  refine get1 B hP h1 6 (by decide) mw_215 rfl dX1_copyFrom_62 ?_
  have i72 : iR (ρ70 k1 6) 0 1 := CI_get hI (kind_lt h1 (by decide)) h1 rfl
  obtain ⟨j73, lj73, uj73, ej73⟩ := iR_nat (a := 0) (b := 1) i72
  refine lv_topi (fun z74 ez74 => ?_)
  obtain rfl : z74 = nI j73 := ez74.trans ej73
  refine put1 B hP hS h 6 (by decide) mw_215 rfl (nar_b (b01 (iR_w (a := 0) (b := 1) (nI_iR (j := j73) (a := 0) (b := 1) (by omega) (by omega) (by omega)) (by decide) (by decide)))) (fit_b (b01 (iR_w (a := 0) (b := 1) (nI_iR (j := j73) (a := 0) (b := 1) (by omega) (by omega) (by omega)) (by decide) (by decide)))) (fs1_6 E k _ _) dX1_copyFrom_65 (fun H locs hP hS => ?_)
  obtain ⟨ρ75, e76⟩ : ∃ z, z = up ρ70 k 6 (nI j73) := ⟨_, rfl⟩
  rw [← e76] at hP
  have hI : CI r S ρ75 := by rw [e76]; exact CI_up hI (kind_lt h (by decide)) (SP_rng h rfl (by decide) (iR_w (a := 0) (b := 1) (nI_iR (j := j73) (a := 0) (b := 1) (by omega) (by omega) (by omega)) (by decide) (by decide))) ⟨(fun z2 => absurd (Eq.trans (Eq.symm h) z2) (by decide)), (fun z2 => absurd (Eq.trans (Eq.symm h) z2) (by decide))⟩ hSS
  refine lv_aload_n hx hb dX1_copyFrom_68 rfl (lv_at hl 0 rfl) ?_
  refine lv_aload_n hx hb dX1_copyFrom_69 rfl (lv_at hl 1 rfl) ?_
  refine get1 B hP h1 7 (by decide) mw_217 rfl dX1_copyFrom_70 ?_
  refine put1 B hP hS h 7 (by decide) mw_217 rfl rfl rfl (fs1_7 E k _ _) dX1_copyFrom_73 (fun H locs hP hS => ?_)
  obtain ⟨ρ77, e78⟩ : ∃ z, z = up ρ75 k 7 (ρ75 k1 7) := ⟨_, rfl⟩
  rw [← e78] at hP
  have hI : CI r S ρ77 := by rw [e78]; exact CI_up hI (kind_lt h (by decide)) (SP_plain h rfl (by decide)) ⟨(fun z2 => absurd (Eq.trans (Eq.symm h) z2) (by decide)), (fun z2 => absurd (Eq.trans (Eq.symm h) z2) (by decide))⟩ hSS
  refine lv_aload_n hx hb dX1_copyFrom_76 rfl (lv_at hl 0 rfl) ?_
  refine lv_aload_n hx hb dX1_copyFrom_77 rfl (lv_at hl 1 rfl) ?_
  refine get1 B hP h1 8 (by decide) mw_219 rfl dX1_copyFrom_78 ?_
  refine put1 B hP hS h 8 (by decide) mw_219 rfl rfl rfl (fs1_8 E k _ _) dX1_copyFrom_81 (fun H locs hP hS => ?_)
  obtain ⟨ρ79, e80⟩ : ∃ z, z = up ρ77 k 8 (ρ77 k1 8) := ⟨_, rfl⟩
  rw [← e80] at hP
  have hI : CI r S ρ79 := by rw [e80]; exact CI_up hI (kind_lt h (by decide)) (SP_plain h rfl (by decide)) ⟨(fun z2 => absurd (Eq.trans (Eq.symm h) z2) (by decide)), (fun z2 => absurd (Eq.trans (Eq.symm h) z2) (by decide))⟩ hSS
  refine lv_aload_n hx hb dX1_copyFrom_84 rfl (lv_at hl 0 rfl) ?_
  refine lv_aload_n hx hb dX1_copyFrom_85 rfl (lv_at hl 1 rfl) ?_
  refine get1 B hP h1 9 (by decide) mw_221 rfl dX1_copyFrom_86 ?_
  refine put1 B hP hS h 9 (by decide) mw_221 rfl rfl rfl (fs1_9 E k _ _) dX1_copyFrom_89 (fun H locs hP hS => ?_)
  obtain ⟨ρ81, e82⟩ : ∃ z, z = up ρ79 k 9 (ρ79 k1 9) := ⟨_, rfl⟩
  rw [← e82] at hP
  have hI : CI r S ρ81 := by rw [e82]; exact CI_up hI (kind_lt h (by decide)) (SP_plain h rfl (by decide)) ⟨(fun z2 => absurd (Eq.trans (Eq.symm h) z2) (by decide)), (fun z2 => absurd (Eq.trans (Eq.symm h) z2) (by decide))⟩ hSS
  refine lv_aload_n hx hb dX1_copyFrom_92 rfl (lv_at hl 0 rfl) ?_
  refine lv_aload_n hx hb dX1_copyFrom_93 rfl (lv_at hl 1 rfl) ?_
  refine get1 B hP h1 10 (by decide) mw_224 rfl dX1_copyFrom_94 ?_
  refine put1 B hP hS h 10 (by decide) mw_224 rfl rfl rfl (fs1_10 E k _ _) dX1_copyFrom_97 (fun H locs hP hS => ?_)
  obtain ⟨ρ83, e84⟩ : ∃ z, z = up ρ81 k 10 (ρ81 k1 10) := ⟨_, rfl⟩
  rw [← e84] at hP
  have hI : CI r S ρ83 := by rw [e84]; exact CI_up hI (kind_lt h (by decide)) (SP_plain h rfl (by decide)) ⟨(fun z2 => absurd (Eq.trans (Eq.symm h) z2) (by decide)), (fun z2 => absurd (Eq.trans (Eq.symm h) z2) (by decide))⟩ hSS
  refine lv_aload_n hx hb dX1_copyFrom_100 rfl (lv_at hl 0 rfl) ?_
  refine lv_aload_n hx hb dX1_copyFrom_101 rfl (lv_at hl 1 rfl) ?_
  refine get1 B hP h1 11 (by decide) mw_226 rfl dX1_copyFrom_102 ?_
  refine put1 B hP hS h 11 (by decide) mw_226 rfl rfl rfl (fs1_11 E k _ _) dX1_copyFrom_105 (fun H locs hP hS => ?_)
  obtain ⟨ρ85, e86⟩ : ∃ z, z = up ρ83 k 11 (ρ83 k1 11) := ⟨_, rfl⟩
  rw [← e86] at hP
  have hI : CI r S ρ85 := by rw [e86]; exact CI_up hI (kind_lt h (by decide)) (SP_plain h rfl (by decide)) ⟨(fun z2 => absurd (Eq.trans (Eq.symm h) z2) (by decide)), (fun z2 => absurd (Eq.trans (Eq.symm h) z2) (by decide))⟩ hSS
  refine lv_aload_n hx hb dX1_copyFrom_108 rfl (lv_at hl 0 rfl) ?_
  refine lv_aload_n hx hb dX1_copyFrom_109 rfl (lv_at hl 1 rfl) ?_
  refine get1 B hP h1 12 (by decide) mw_228 rfl dX1_copyFrom_110 ?_
  refine put1 B hP hS h 12 (by decide) mw_228 rfl rfl rfl (fs1_12 E k _ _) dX1_copyFrom_113 (fun H locs hP hS => ?_)
  obtain ⟨ρ87, e88⟩ : ∃ z, z = up ρ85 k 12 (ρ85 k1 12) := ⟨_, rfl⟩
  rw [← e88] at hP
  have hI : CI r S ρ87 := by rw [e88]; exact CI_up hI (kind_lt h (by decide)) (SP_plain h rfl (by decide)) ⟨(fun z2 => absurd (Eq.trans (Eq.symm h) z2) (by decide)), (fun z2 => absurd (Eq.trans (Eq.symm h) z2) (by decide))⟩ hSS
  refine lv_aload_n hx hb dX1_copyFrom_116 rfl (lv_at hl 0 rfl) ?_
  refine lv_aload_n hx hb dX1_copyFrom_117 rfl (lv_at hl 1 rfl) ?_
  refine get1 B hP h1 13 (by decide) mw_230 rfl dX1_copyFrom_118 ?_
  refine put1 B hP hS h 13 (by decide) mw_230 rfl rfl rfl (fs1_13 E k _ _) dX1_copyFrom_121 (fun H locs hP hS => ?_)
  obtain ⟨ρ89, e90⟩ : ∃ z, z = up ρ87 k 13 (ρ87 k1 13) := ⟨_, rfl⟩
  rw [← e90] at hP
  have hI : CI r S ρ89 := by rw [e90]; exact CI_up hI (kind_lt h (by decide)) (SP_plain h rfl (by decide)) ⟨(fun z2 => absurd (Eq.trans (Eq.symm h) z2) (by decide)), (fun z2 => absurd (Eq.trans (Eq.symm h) z2) (by decide))⟩ hSS
  refine lv_aload_n hx hb dX1_copyFrom_124 rfl (lv_at hl 0 rfl) ?_
  refine lv_aload_n hx hb dX1_copyFrom_125 rfl (lv_at hl 1 rfl) ?_
  refine get1 B hP h1 14 (by decide) mw_233 rfl dX1_copyFrom_126 ?_
  refine put1 B hP hS h 14 (by decide) mw_233 rfl rfl rfl (fs1_14 E k _ _) dX1_copyFrom_129 (fun H locs hP hS => ?_)
  obtain ⟨ρ91, e92⟩ : ∃ z, z = up ρ89 k 14 (ρ89 k1 14) := ⟨_, rfl⟩
  rw [← e92] at hP
  have hI : CI r S ρ91 := by rw [e92]; exact CI_up hI (kind_lt h (by decide)) (SP_plain h rfl (by decide)) ⟨(fun z2 => absurd (Eq.trans (Eq.symm h) z2) (by decide)), (fun z2 => absurd (Eq.trans (Eq.symm h) z2) (by decide))⟩ hSS
  refine lv_aload_n hx hb dX1_copyFrom_132 rfl (lv_at hl 0 rfl) ?_
  refine lv_aload_n hx hb dX1_copyFrom_133 rfl (lv_at hl 1 rfl) ?_
  refine get1 B hP h1 15 (by decide) mw_236 rfl dX1_copyFrom_134 ?_
  refine put1 B hP hS h 15 (by decide) mw_236 rfl rfl rfl (fs1_15 E k _ _) dX1_copyFrom_137 (fun H locs hP hS => ?_)
  obtain ⟨ρ93, e94⟩ : ∃ z, z = up ρ91 k 15 (ρ91 k1 15) := ⟨_, rfl⟩
  rw [← e94] at hP
  have hI : CI r S ρ93 := by rw [e94]; exact CI_up hI (kind_lt h (by decide)) (SP_plain h rfl (by decide)) ⟨(fun z2 => absurd (Eq.trans (Eq.symm h) z2) (by decide)), (fun z2 => absurd (Eq.trans (Eq.symm h) z2) (by decide))⟩ hSS
  refine lv_aload_n hx hb dX1_copyFrom_140 rfl (lv_at hl 0 rfl) ?_
  refine lv_aload_n hx hb dX1_copyFrom_141 rfl (lv_at hl 1 rfl) ?_
  refine get1 B hP h1 16 (by decide) mw_239 rfl dX1_copyFrom_142 ?_
  refine put1 B hP hS h 16 (by decide) mw_239 rfl rfl rfl (fs1_16 E k _ _) dX1_copyFrom_145 (fun H locs hP hS => ?_)
  obtain ⟨ρ95, e96⟩ : ∃ z, z = up ρ93 k 16 (ρ93 k1 16) := ⟨_, rfl⟩
  rw [← e96] at hP
  have hI : CI r S ρ95 := by rw [e96]; exact CI_up hI (kind_lt h (by decide)) (SP_plain h rfl (by decide)) ⟨(fun z2 => absurd (Eq.trans (Eq.symm h) z2) (by decide)), (fun z2 => absurd (Eq.trans (Eq.symm h) z2) (by decide))⟩ hSS
  exact ret_v B hr hlk hP hS dX1_copyFrom_148 (hI)

set_option maxHeartbeats 4000000 in
set_option maxRecDepth 100000 in
theorem d_X1_isAwake (l : Launch) (E : hE) (ρ r : Nat → Nat → Int32) (S : Nat × Nat → Prop) (hSS : SK S) (k : Nat) (h : hk k = 1) (a1 : Int32) (hI : CI r S ρ) : Met l yX1_isAwake (.code yX1_isAwake cX1_isAwake 2 (some .boolean) :: gw_all) (rmk 1 40) (cPre E ρ [.ref (E.2.1 + k), .int a1]) (cI E (fun v ρ1 => ρ = ρ1 ∧ CI r S ρ1 ∧ iR v (0) (1))) 0 0 (hA E) := by
  refine ent (own := RX1) (by decide) rfl (Nat.le_of_ble_eq_true rfl) ?_
  intro p e s m below meth c ls B hr hlk hl hP hS
  have hx := B.1.1
  have hb := B.1.2.1
  have hown := B.1.2.2.2.1
  have hts := B.1.2.2.2.2
  have hl : lv_has ls 2 [(0, .ref (E.2.1 + k)), (1, .int a1)] := hl
  refine lv_aload_n hx hb dX1_isAwake_0 rfl (lv_at hl 0 rfl) ?_
  refine get1 B hP h 7 (by decide) mw_217 rfl dX1_isAwake_1 ?_
  refine lv_if_eq (tgt := 22) hx hb dX1_isAwake_4 (by decide) (fun c4 => ?_) (fun c4 => ?_)
  · skip
    have i5 : iR (ρ k 7) (0) (0) := (by rw [c4]; exact ⟨by decide, by decide⟩)
    refine lv_iconst (v := 1) hx hb dX1_isAwake_22 (by decide) ?_
    refine lv_goto (tgt := 27) hx hb dX1_isAwake_23 (by decide) ?_
    exact ret_z B hr hlk hP hS dX1_isAwake_27 (Or.inr rfl) (⟨rfl, hI, (iR_w (a := 1) (b := 1) (show iR 1 (1) (1) from ⟨by decide, by decide⟩) (by decide) (by decide))⟩)
  · skip
    refine lv_iload_n hx hb dX1_isAwake_7 rfl (lv_at hl 1 rfl) ?_
    refine lv_aload_n hx hb dX1_isAwake_8 rfl (lv_at hl 0 rfl) ?_
    refine get1 B hP h 7 (by decide) mw_217 (v := .int (ρ k 7)) (show some (Value.int (ρ k 7)) = some (Value.int (ρ k 7)) from congrArg (fun z => some (Value.int z)) rfl) dX1_isAwake_9 ?_
    refine lv_irem hx hb dX1_isAwake_12 c4 ?_
    refine lv_iconst (v := 2) hx hb dX1_isAwake_13 (by decide) ?_
    refine lv_aload_n hx hb dX1_isAwake_14 rfl (lv_at hl 0 rfl) ?_
    refine get1 B hP h 8 (by decide) mw_219 rfl dX1_isAwake_15 ?_
    refine lv_imul hx hb dX1_isAwake_18 ?_
    refine lv_icmp_ge (tgt := 26) hx hb dX1_isAwake_19 (by decide) (fun c6 => ?_) (fun c6 => ?_)
    · skip
      refine lv_iconst (v := 0) hx hb dX1_isAwake_26 (by decide) ?_
      exact ret_z B hr hlk hP hS dX1_isAwake_27 (Or.inl rfl) (⟨rfl, hI, (iR_w (a := 0) (b := 0) (show iR 0 (0) (0) from ⟨by decide, by decide⟩) (by decide) (by decide))⟩)
    · skip
      refine lv_iconst (v := 1) hx hb dX1_isAwake_22 (by decide) ?_
      refine lv_goto (tgt := 27) hx hb dX1_isAwake_23 (by decide) ?_
      exact ret_z B hr hlk hP hS dX1_isAwake_27 (Or.inr rfl) (⟨rfl, hI, (iR_w (a := 1) (b := 1) (show iR 1 (1) (1) from ⟨by decide, by decide⟩) (by decide) (by decide))⟩)

set_option maxHeartbeats 4000000 in
set_option maxRecDepth 100000 in
theorem d_X1_hearCast (l : Launch) (E : hE) (ρ r : Nat → Nat → Int32) (S : Nat × Nat → Prop) (hSS : SK S) (k : Nat) (h : hk k = 1) (a1 : Int32) (a2 : Int32) (hI : CI r S ρ) : Met l yX1_hearCast (.code yX1_hearCast cX1_hearCast 3 none :: gw_all) (rmk 1 40) (cPre E ρ [.ref (E.2.1 + k), .int a1, .int a2]) (cV E (fun ρ1 => CI r S ρ1)) 0 0 (hA E) := by
  refine ent (own := RX1) (by decide) rfl (Nat.le_of_ble_eq_true rfl) ?_
  intro p e s m below meth c ls B hr hlk hl hP hS
  have hx := B.1.1
  have hb := B.1.2.1
  have hown := B.1.2.2.2.1
  have hts := B.1.2.2.2.2
  have hl : lv_has ls 3 [(0, .ref (E.2.1 + k)), (1, .int a1), (2, .int a2)] := hl
  refine lv_aload_n hx hb dX1_hearCast_0 rfl (lv_at hl 0 rfl) ?_
  refine get1 B hP h 10 (by decide) mw_224 rfl dX1_hearCast_1 ?_
  refine lv_iload_n hx hb dX1_hearCast_4 rfl (lv_at hl 2 rfl) ?_
  refine lv_icmp_eq (tgt := 38) hx hb dX1_hearCast_5 (by decide) (fun c8 => ?_) (fun c8 => ?_)
  · skip
    exact ret_v B hr hlk hP hS dX1_hearCast_38 (hI)
  · skip
    refine lv_aload_n hx hb dX1_hearCast_8 rfl (lv_at hl 0 rfl) ?_
    refine lv_iload_n hx hb dX1_hearCast_9 rfl (lv_at hl 2 rfl) ?_
    refine put1 B hP hS h 10 (by decide) mw_224 rfl rfl rfl (fs1_10 E k _ _) dX1_hearCast_10 (fun H locs hP hS => ?_)
    obtain ⟨ρ9, e10⟩ : ∃ z, z = up ρ k 10 a2 := ⟨_, rfl⟩
    rw [← e10] at hP
    have hI : CI r S ρ9 := by rw [e10]; exact CI_up hI (kind_lt h (by decide)) (SP_plain h rfl (by decide)) ⟨(fun z2 => absurd (Eq.trans (Eq.symm h) z2) (by decide)), (fun z2 => absurd (Eq.trans (Eq.symm h) z2) (by decide))⟩ hSS
    refine lv_aload_n hx hb dX1_hearCast_13 rfl (lv_at hl 0 rfl) ?_
    refine lv_dup hx hb dX1_hearCast_14 rfl ?_
    refine get1 B hP h 11 (by decide) mw_226 rfl dX1_hearCast_15 ?_
    refine lv_iconst (v := 1) hx hb dX1_hearCast_18 (by decide) ?_
    refine lv_iadd hx hb dX1_hearCast_19 ?_
    refine put1 B hP hS h 11 (by decide) mw_226 rfl rfl rfl (fs1_11 E k _ _) dX1_hearCast_20 (fun H locs hP hS => ?_)
    obtain ⟨ρ11, e12⟩ : ∃ z, z = up ρ9 k 11 ((ρ9 k 11) + 1) := ⟨_, rfl⟩
    rw [← e12] at hP
    have hI : CI r S ρ11 := by rw [e12]; exact CI_up hI (kind_lt h (by decide)) (SP_plain h rfl (by decide)) ⟨(fun z2 => absurd (Eq.trans (Eq.symm h) z2) (by decide)), (fun z2 => absurd (Eq.trans (Eq.symm h) z2) (by decide))⟩ hSS
    refine lv_aload_n hx hb dX1_hearCast_23 rfl (lv_at hl 0 rfl) ?_
    refine lv_bipush (v := 31) hx hb dX1_hearCast_24 (by decide) ?_
    refine lv_aload_n hx hb dX1_hearCast_26 rfl (lv_at hl 0 rfl) ?_
    refine get1 B hP h 12 (by decide) mw_228 rfl dX1_hearCast_27 ?_
    refine lv_imul hx hb dX1_hearCast_30 ?_
    refine lv_iload_n hx hb dX1_hearCast_31 rfl (lv_at hl 1 rfl) ?_
    refine lv_iadd hx hb dX1_hearCast_32 ?_
    refine lv_iconst (v := 1) hx hb dX1_hearCast_33 (by decide) ?_
    refine lv_iadd hx hb dX1_hearCast_34 ?_
    refine put1 B hP hS h 12 (by decide) mw_228 rfl rfl rfl (fs1_12 E k _ _) dX1_hearCast_35 (fun H locs hP hS => ?_)
    obtain ⟨ρ13, e14⟩ : ∃ z, z = up ρ11 k 12 (((31 * (ρ11 k 12)) + a1) + 1) := ⟨_, rfl⟩
    rw [← e14] at hP
    have hI : CI r S ρ13 := by rw [e14]; exact CI_up hI (kind_lt h (by decide)) (SP_plain h rfl (by decide)) ⟨(fun z2 => absurd (Eq.trans (Eq.symm h) z2) (by decide)), (fun z2 => absurd (Eq.trans (Eq.symm h) z2) (by decide))⟩ hSS
    exact ret_v B hr hlk hP hS dX1_hearCast_38 (hI)

theorem lk_RX1_104 : LkV RX1 104 RX3 yX3_expect cX3_expect 3 none 2 := ⟨⟨mw_803, mw_630, mw_631, mw_55, mw_632⟩, by decide +kernel⟩
theorem lk_RX1_111 : LkV RX1 111 RX3 yX3_takeAtOnce cX3_takeAtOnce 2 none 1 := ⟨⟨mw_804, mw_671, mw_672, mw_55, mw_673⟩, by decide +kernel⟩
theorem lk_RX1_94 : LkV RX1 94 RX3 yX3_hasNext cX3_hasNext 1 (some .boolean) 0 := ⟨⟨mw_802, mw_618, mw_619, mw_55, mw_620⟩, by decide +kernel⟩
set_option maxHeartbeats 4000000 in
set_option maxRecDepth 100000 in
theorem d_X1_hearMapOf (l : Launch) (E : hE) (ρ r : Nat → Nat → Int32) (S : Nat × Nat → Prop) (hSS : SK S) (k : Nat) (h : hk k = 1) (k1 : Nat) (h1 : hk k1 = 3) (hI : CI r S ρ) : Met l yX1_hearMapOf (.code yX1_hearMapOf cX1_hearMapOf 2 none :: gw_all) (rmk 2 80) (cPre E ρ [.ref (E.2.1 + k), .ref (E.2.1 + k1)]) (cV E (fun ρ1 => CI r S ρ1)) 0 0 (hA E) := by
  refine ent (own := RX1) (by decide) rfl (Nat.le_of_ble_eq_true rfl) ?_
  intro p e s m below meth c ls B hr hlk hl hP hS
  have hx := B.1.1
  have hb := B.1.2.1
  have hown := B.1.2.2.2.1
  have hts := B.1.2.2.2.2
  have hl : lv_has ls 2 [(0, .ref (E.2.1 + k)), (1, .ref (E.2.1 + k1))] := hl
  refine lv_aload_n hx hb dX1_hearMapOf_0 rfl (lv_at hl 1 rfl) ?_
  refine call_i (cVt (k := k1) (av := []) (rest := []) B hP hS (d_X3_hasNext l E ρ r S hSS k1 h1 hI) lk_RX1_94 (hrecv (ci := 3) B hP (hk_lt (c := 3) h1 (by decide)) (hcc3 _ _ h1) rfl) rfl rfl hl.1 (Nat.le_of_ble_eq_true rfl) ⟨Nat.le_of_ble_eq_true rfl, Nat.le_of_ble_eq_true rfl⟩ ⟨Nat.le_of_ble_eq_true rfl, Nat.le_of_ble_eq_true rfl⟩ dX1_hearMapOf_1) hS (fun r18 ρ19 H locs q20 hP hS => ?_)
  obtain ⟨rfl, hI, i21⟩ := q20
  obtain ⟨j22, lj22, uj22, ej22⟩ := iR_nat (a := 0) (b := 1) i21
  refine lv_topi (fun z23 ez23 => ?_)
  obtain rfl : z23 = nI j22 := ez23.trans ej22
  refine lv_if_eq (tgt := 25) hx hb dX1_hearMapOf_4 (by decide) (fun c24 => ?_) (fun c24 => ?_)
  · skip
    have n25 := (nI_eq (a := j22) (b := 0) (by omega) (by omega)).mp (show (nI j22 = nI 0) from c24)
    refine lv_aload_n hx hb dX1_hearMapOf_25 rfl (lv_at hl 0 rfl) ?_
    refine get1 B hP h 0 (by decide) mw_193 rfl dX1_hearMapOf_26 ?_
    refine lv_aload_n hx hb dX1_hearMapOf_29 rfl (lv_at hl 1 rfl) ?_
    refine get3 B hP h1 0 (by decide) mw_92 rfl dX1_hearMapOf_30 ?_
    refine call_v (cVt (k := (k + 1)) (av := [.int (ρ k1 0)]) (rest := []) B hP hS (d_X3_takeAtOnce l E ρ r S hSS (k + 1) (lay1 h).1 (ρ k1 0) hI) lk_RX1_111 (hrecv (ci := 3) B hP (hk_lt (c := 3) (lay1 h).1 (by decide)) (hcc3 _ _ (lay1 h).1) rfl) rfl rfl hl.1 (Nat.le_of_ble_eq_true rfl) ⟨Nat.le_of_ble_eq_true rfl, Nat.le_of_ble_eq_true rfl⟩ ⟨Nat.le_of_ble_eq_true rfl, Nat.le_of_ble_eq_true rfl⟩ dX1_hearMapOf_33) hS (fun ρ27 H locs q28 hP hS => ?_)
    have hI := q28
    exact ret_v B hr hlk hP hS dX1_hearMapOf_36 (hI)
  · skip
    have n30 := mt (nI_eq (a := j22) (b := 0) (by omega) (by omega)).mpr (show ¬ (nI j22 = nI 0) from c24)
    refine lv_aload_n hx hb dX1_hearMapOf_7 rfl (lv_at hl 0 rfl) ?_
    refine get1 B hP h 0 (by decide) mw_193 rfl dX1_hearMapOf_8 ?_
    refine lv_aload_n hx hb dX1_hearMapOf_11 rfl (lv_at hl 1 rfl) ?_
    refine get3 B hP h1 1 (by decide) mw_97 rfl dX1_hearMapOf_12 ?_
    refine lv_aload_n hx hb dX1_hearMapOf_15 rfl (lv_at hl 1 rfl) ?_
    refine get3 B hP h1 2 (by decide) mw_100 rfl dX1_hearMapOf_16 ?_
    refine call_v (cVt (k := (k + 1)) (av := [.int (ρ k1 1), .int (ρ k1 2)]) (rest := []) B hP hS (d_X3_expect l E ρ r S hSS (k + 1) (lay1 h).1 (ρ k1 1) (ρ k1 2) hI) lk_RX1_104 (hrecv (ci := 3) B hP (hk_lt (c := 3) (lay1 h).1 (by decide)) (hcc3 _ _ (lay1 h).1) rfl) rfl rfl hl.1 (Nat.le_of_ble_eq_true rfl) ⟨Nat.le_of_ble_eq_true rfl, Nat.le_of_ble_eq_true rfl⟩ ⟨Nat.le_of_ble_eq_true rfl, Nat.le_of_ble_eq_true rfl⟩ dX1_hearMapOf_19) hS (fun ρ32 H locs q33 hP hS => ?_)
    have hI := q33
    refine lv_goto (tgt := 36) hx hb dX1_hearMapOf_22 (by decide) ?_
    exact ret_v B hr hlk hP hS dX1_hearMapOf_36 (hI)
