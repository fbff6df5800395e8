
abbrev LkJ (own : String) (idx : Nat) (y : MethodName) (cc : ByteArray) (maxL : Nat) (ret : Option FieldType) (n : Nat) : Prop := (Cond.methodLink own idx y ∈ gw_all ∧ Cond.static y ∈ gw_all ∧ Cond.initialized y.cls ∈ gw_all ∧ Cond.code y cc maxL ret ∈ gw_all) ∧ (y.cls ≠ "java/lang/invoke/MethodHandle" ∧ y.cls ≠ "java/lang/invoke/VarHandle" ∧ (parseMethodDescriptor y.desc).map (fun d => d.parameters.length) = some n)
theorem cJ {p : Program} {l : Launch} {e : Env} {R : Room} {s : State} {m : MethodId} {args : Array Value} {below : List Frame} {meth : Method} {c : Code} {H : Heap} {locs : List Loc} {cells slots : Nat} {cc : ByteArray} {nL pc : Nat} {ls : Array Slot} {rest : List Value} {E : hE} {ρ : Nat → Nat → Int32} {own : String} {y : MethodName} {cc' : ByteArray} {maxL' : Nat} {ret' : Option FieldType} {fr' lo' n idx : Nat} {av st : List Value} {Qc : Array Value → State → Outcome → State → Prop} (B : MB p s m args c cc nL own E) (hP : WP E ρ H) (hS : va_S (hA E) s.heap H locs) (hM : Met l y (.code y cc' maxL' ret' :: gw_all) (rmk fr' lo') (cPre E ρ av) Qc 0 0 (hA E)) (K : LkJ own idx y cc' maxL' ret' n)
    (hn : av.length = n) (hst : st = av.reverse ++ rest) (hsz : ls.size = nL) (hro : (rest.map fun v => v.category).sum ≤ 8) (hR : fr' + 1 ≤ R.frames ∧ 8 + (maxL' + 11) + lo' ≤ R.locals) (hf : cells ≤ R.cells ∧ slots ≤ R.slots) (hd : decode cc pc = .ok (.invokestatic idx, 3)) :
    va_Run p l e R s m args below meth c H locs cells slots 0 0 (F0 m pc ls st) rest (Qc av.toArray) (hA E) := by
  obtain ⟨⟨k1, k2, k3, k4⟩, k5⟩ := K
  have hG : GoodIn gw_all (va_wsS own idx y (Cond.code y cc' maxL' ret' :: gw_all)) := gi (hd := [.methodLink own idx y, .static y, .initialized y.cls]) (fun w hw => by
    rcases List.mem_cons.mp hw with rfl | hw
    · exact k1
    · rcases List.mem_cons.mp hw with rfl | hw
      · exact k2
      · rcases List.mem_cons.mp hw with rfl | hw
        · exact k3
        · cases hw) k4
  exact va_runS (As := av) (rest := rest) B.1 hM (va_cwS n B.1.2.2.2.2 hG rfl rfl rfl k5 hR) ⟨cPre_blind, fun U hU hW => pre_ok B hP hS U hU hW⟩ rfl hn hsz hst (lv_room hro) hd hf
theorem dX6_hopOf_0 : decode cX6_hopOf 0 = .ok (.iload_n 0, 1) := by decide +kernel
theorem dX6_hopOf_1 : decode cX6_hopOf 1 = .ok (.bipush 31, 2) := by decide +kernel
theorem dX6_hopOf_3 : decode cX6_hopOf 3 = .ok (.iand, 1) := by decide +kernel
theorem dX6_hopOf_4 : decode cX6_hopOf 4 = .ok (.iload_n 1, 1) := by decide +kernel
theorem dX6_hopOf_5 : decode cX6_hopOf 5 = .ok (.bipush 31, 2) := by decide +kernel
theorem dX6_hopOf_7 : decode cX6_hopOf 7 = .ok (.iand, 1) := by decide +kernel
theorem dX6_hopOf_8 : decode cX6_hopOf 8 = .ok (.iadd, 1) := by decide +kernel
theorem dX6_hopOf_9 : decode cX6_hopOf 9 = .ok (.bipush 32, 2) := by decide +kernel
theorem dX6_hopOf_11 : decode cX6_hopOf 11 = .ok (.irem, 1) := by decide +kernel
theorem dX6_hopOf_12 : decode cX6_hopOf 12 = .ok (.istore_n 2, 1) := by decide +kernel
theorem dX6_hopOf_13 : decode cX6_hopOf 13 = .ok (.iload_n 2, 1) := by decide +kernel
theorem dX6_hopOf_14 : decode cX6_hopOf 14 = .ok (.iload_n 0, 1) := by decide +kernel
theorem dX6_hopOf_15 : decode cX6_hopOf 15 = .ok (.iconst 5, 1) := by decide +kernel
theorem dX6_hopOf_16 : decode cX6_hopOf 16 = .ok (.ishr, 1) := by decide +kernel
theorem dX6_hopOf_17 : decode cX6_hopOf 17 = .ok (.bipush 31, 2) := by decide +kernel
theorem dX6_hopOf_19 : decode cX6_hopOf 19 = .ok (.iand, 1) := by decide +kernel
theorem dX6_hopOf_20 : decode cX6_hopOf 20 = .ok (.ixor, 1) := by decide +kernel
theorem dX6_hopOf_21 : decode cX6_hopOf 21 = .ok (.iload_n 1, 1) := by decide +kernel
theorem dX6_hopOf_22 : decode cX6_hopOf 22 = .ok (.bipush 7, 2) := by decide +kernel
theorem dX6_hopOf_24 : decode cX6_hopOf 24 = .ok (.ishr, 1) := by decide +kernel
theorem dX6_hopOf_25 : decode cX6_hopOf 25 = .ok (.bipush 31, 2) := by decide +kernel
theorem dX6_hopOf_27 : decode cX6_hopOf 27 = .ok (.iand, 1) := by decide +kernel
theorem dX6_hopOf_28 : decode cX6_hopOf 28 = .ok (.ixor, 1) := by decide +kernel
theorem dX6_hopOf_29 : decode cX6_hopOf 29 = .ok (.istore_n 2, 1) := by decide +kernel
theorem dX6_hopOf_30 : decode cX6_hopOf 30 = .ok (.iload_n 0, 1) := by decide +kernel
theorem dX6_hopOf_31 : decode cX6_hopOf 31 = .ok (.bipush 10, 2) := by decide +kernel
theorem dX6_hopOf_33 : decode cX6_hopOf 33 = .ok (.ishr, 1) := by decide +kernel
theorem dX6_hopOf_34 : decode cX6_hopOf 34 = .ok (.sipush 511, 3) := by decide +kernel
theorem dX6_hopOf_37 : decode cX6_hopOf 37 = .ok (.iand, 1) := by decide +kernel
theorem dX6_hopOf_38 : decode cX6_hopOf 38 = .ok (.iload_n 1, 1) := by decide +kernel
theorem dX6_hopOf_39 : decode cX6_hopOf 39 = .ok (.iconst 5, 1) := by decide +kernel
theorem dX6_hopOf_40 : decode cX6_hopOf 40 = .ok (.ishr, 1) := by decide +kernel
theorem dX6_hopOf_41 : decode cX6_hopOf 41 = .ok (.sipush 511, 3) := by decide +kernel
theorem dX6_hopOf_44 : decode cX6_hopOf 44 = .ok (.iand, 1) := by decide +kernel
theorem dX6_hopOf_45 : decode cX6_hopOf 45 = .ok (.ixor, 1) := by decide +kernel
theorem dX6_hopOf_46 : decode cX6_hopOf 46 = .ok (.istore_n 3, 1) := by decide +kernel
theorem dX6_hopOf_47 : decode cX6_hopOf 47 = .ok (.iconst 0, 1) := by decide +kernel
theorem dX6_hopOf_48 : decode cX6_hopOf 48 = .ok (.istore 4, 2) := by decide +kernel
theorem dX6_hopOf_50 : decode cX6_hopOf 50 = .ok (.iload 4, 2) := by decide +kernel
theorem dX6_hopOf_52 : decode cX6_hopOf 52 = .ok (.getstatic 408, 3) := by decide +kernel
theorem dX6_hopOf_55 : decode cX6_hopOf 55 = .ok (.arraylength, 1) := by decide +kernel
theorem dX6_hopOf_56 : decode cX6_hopOf 56 = .ok (.if_icmp .ge 83, 3) := by decide +kernel
theorem dX6_hopOf_59 : decode cX6_hopOf 59 = .ok (.iload 4, 2) := by decide +kernel
theorem dX6_hopOf_61 : decode cX6_hopOf 61 = .ok (.getstatic 411, 3) := by decide +kernel
theorem dX6_hopOf_64 : decode cX6_hopOf 64 = .ok (.arraylength, 1) := by decide +kernel
theorem dX6_hopOf_65 : decode cX6_hopOf 65 = .ok (.if_icmp .ge 74, 3) := by decide +kernel
theorem dX6_hopOf_68 : decode cX6_hopOf 68 = .ok (.getstatic 408, 3) := by decide +kernel
theorem dX6_hopOf_71 : decode cX6_hopOf 71 = .ok (.iload 4, 2) := by decide +kernel
theorem dX6_hopOf_73 : decode cX6_hopOf 73 = .ok (.iaload, 1) := by decide +kernel
theorem dX6_hopOf_74 : decode cX6_hopOf 74 = .ok (.istore 5, 2) := by decide +kernel
theorem dX6_hopOf_76 : decode cX6_hopOf 76 = .ok (.getstatic 411, 3) := by decide +kernel
theorem dX6_hopOf_79 : decode cX6_hopOf 79 = .ok (.iload 4, 2) := by decide +kernel
theorem dX6_hopOf_81 : decode cX6_hopOf 81 = .ok (.iaload, 1) := by decide +kernel
theorem dX6_hopOf_82 : decode cX6_hopOf 82 = .ok (.istore 6, 2) := by decide +kernel
theorem dX6_hopOf_84 : decode cX6_hopOf 84 = .ok (.iload_n 2, 1) := by decide +kernel
theorem dX6_hopOf_85 : decode cX6_hopOf 85 = .ok (.iload 5, 2) := by decide +kernel
theorem dX6_hopOf_87 : decode cX6_hopOf 87 = .ok (.ishr, 1) := by decide +kernel
theorem dX6_hopOf_88 : decode cX6_hopOf 88 = .ok (.iload_n 2, 1) := by decide +kernel
theorem dX6_hopOf_89 : decode cX6_hopOf 89 = .ok (.iload 6, 2) := by decide +kernel
theorem dX6_hopOf_91 : decode cX6_hopOf 91 = .ok (.ishr, 1) := by decide +kernel
theorem dX6_hopOf_92 : decode cX6_hopOf 92 = .ok (.ixor, 1) := by decide +kernel
theorem dX6_hopOf_93 : decode cX6_hopOf 93 = .ok (.iconst 1, 1) := by decide +kernel
theorem dX6_hopOf_94 : decode cX6_hopOf 94 = .ok (.iand, 1) := by decide +kernel
theorem dX6_hopOf_95 : decode cX6_hopOf 95 = .ok (.iconst 1, 1) := by decide +kernel
theorem dX6_hopOf_96 : decode cX6_hopOf 96 = .ok (.if_icmp .ne 7, 3) := by decide +kernel
theorem dX6_hopOf_99 : decode cX6_hopOf 99 = .ok (.iconst 1, 1) := by decide +kernel
theorem dX6_hopOf_100 : decode cX6_hopOf 100 = .ok (.goto 4, 3) := by decide +kernel
theorem dX6_hopOf_103 : decode cX6_hopOf 103 = .ok (.iconst 0, 1) := by decide +kernel
theorem dX6_hopOf_104 : decode cX6_hopOf 104 = .ok (.istore 7, 2) := by decide +kernel
theorem dX6_hopOf_106 : decode cX6_hopOf 106 = .ok (.iload_n 3, 1) := by decide +kernel
theorem dX6_hopOf_107 : decode cX6_hopOf 107 = .ok (.iload 4, 2) := by decide +kernel
theorem dX6_hopOf_109 : decode cX6_hopOf 109 = .ok (.ishr, 1) := by decide +kernel
theorem dX6_hopOf_110 : decode cX6_hopOf 110 = .ok (.iconst 1, 1) := by decide +kernel
theorem dX6_hopOf_111 : decode cX6_hopOf 111 = .ok (.iand, 1) := by decide +kernel
theorem dX6_hopOf_112 : decode cX6_hopOf 112 = .ok (.iconst 1, 1) := by decide +kernel
theorem dX6_hopOf_113 : decode cX6_hopOf 113 = .ok (.if_icmp .ne 20, 3) := by decide +kernel
theorem dX6_hopOf_116 : decode cX6_hopOf 116 = .ok (.iload 7, 2) := by decide +kernel
theorem dX6_hopOf_118 : decode cX6_hopOf 118 = .ok (.ifCond .eq 15, 3) := by decide +kernel
theorem dX6_hopOf_121 : decode cX6_hopOf 121 = .ok (.iload_n 2, 1) := by decide +kernel
theorem dX6_hopOf_122 : decode cX6_hopOf 122 = .ok (.iconst 1, 1) := by decide +kernel
theorem dX6_hopOf_123 : decode cX6_hopOf 123 = .ok (.iload 5, 2) := by decide +kernel
theorem dX6_hopOf_125 : decode cX6_hopOf 125 = .ok (.ishl, 1) := by decide +kernel
theorem dX6_hopOf_126 : decode cX6_hopOf 126 = .ok (.iconst 1, 1) := by decide +kernel
theorem dX6_hopOf_127 : decode cX6_hopOf 127 = .ok (.iload 6, 2) := by decide +kernel
theorem dX6_hopOf_129 : decode cX6_hopOf 129 = .ok (.ishl, 1) := by decide +kernel
theorem dX6_hopOf_130 : decode cX6_hopOf 130 = .ok (.ior, 1) := by decide +kernel
theorem dX6_hopOf_131 : decode cX6_hopOf 131 = .ok (.ixor, 1) := by decide +kernel
theorem dX6_hopOf_132 : decode cX6_hopOf 132 = .ok (.istore_n 2, 1) := by decide +kernel
theorem dX6_hopOf_133 : decode cX6_hopOf 133 = .ok (.iinc 4 1, 3) := by decide +kernel
theorem dX6_hopOf_136 : decode cX6_hopOf 136 = .ok (.goto (-86), 3) := by decide +kernel
theorem dX6_hopOf_139 : decode cX6_hopOf 139 = .ok (.iload_n 1, 1) := by decide +kernel
theorem dX6_hopOf_140 : decode cX6_hopOf 140 = .ok (.iconst 1, 1) := by decide +kernel
theorem dX6_hopOf_141 : decode cX6_hopOf 141 = .ok (.iand, 1) := by decide +kernel
theorem dX6_hopOf_142 : decode cX6_hopOf 142 = .ok (.iconst 1, 1) := by decide +kernel
theorem dX6_hopOf_143 : decode cX6_hopOf 143 = .ok (.if_icmp .ne 8, 3) := by decide +kernel
theorem dX6_hopOf_146 : decode cX6_hopOf 146 = .ok (.bipush 13, 2) := by decide +kernel
theorem dX6_hopOf_148 : decode cX6_hopOf 148 = .ok (.goto 4, 3) := by decide +kernel
theorem dX6_hopOf_151 : decode cX6_hopOf 151 = .ok (.iconst 0, 1) := by decide +kernel
theorem dX6_hopOf_152 : decode cX6_hopOf 152 = .ok (.istore 4, 2) := by decide +kernel
theorem dX6_hopOf_154 : decode cX6_hopOf 154 = .ok (.iload_n 2, 1) := by decide +kernel
theorem dX6_hopOf_155 : decode cX6_hopOf 155 = .ok (.iload_n 0, 1) := by decide +kernel
theorem dX6_hopOf_156 : decode cX6_hopOf 156 = .ok (.bipush 19, 2) := by decide +kernel
theorem dX6_hopOf_158 : decode cX6_hopOf 158 = .ok (.ishr, 1) := by decide +kernel
theorem dX6_hopOf_159 : decode cX6_hopOf 159 = .ok (.bipush 31, 2) := by decide +kernel
theorem dX6_hopOf_161 : decode cX6_hopOf 161 = .ok (.iand, 1) := by decide +kernel
theorem dX6_hopOf_162 : decode cX6_hopOf 162 = .ok (.iadd, 1) := by decide +kernel
theorem dX6_hopOf_163 : decode cX6_hopOf 163 = .ok (.iload 4, 2) := by decide +kernel
theorem dX6_hopOf_165 : decode cX6_hopOf 165 = .ok (.iadd, 1) := by decide +kernel
theorem dX6_hopOf_166 : decode cX6_hopOf 166 = .ok (.bipush 23, 2) := by decide +kernel
theorem dX6_hopOf_168 : decode cX6_hopOf 168 = .ok (.irem, 1) := by decide +kernel
theorem dX6_hopOf_169 : decode cX6_hopOf 169 = .ok (.ireturn, 1) := by decide +kernel
theorem dX7_kernelOf_0 : decode cX7_kernelOf 0 = .ok (.iload_n 0, 1) := by decide +kernel
theorem dX7_kernelOf_1 : decode cX7_kernelOf 1 = .ok (.bipush 31, 2) := by decide +kernel
theorem dX7_kernelOf_3 : decode cX7_kernelOf 3 = .ok (.iand, 1) := by decide +kernel
theorem dX7_kernelOf_4 : decode cX7_kernelOf 4 = .ok (.iload_n 1, 1) := by decide +kernel
theorem dX7_kernelOf_5 : decode cX7_kernelOf 5 = .ok (.bipush 31, 2) := by decide +kernel
theorem dX7_kernelOf_7 : decode cX7_kernelOf 7 = .ok (.iand, 1) := by decide +kernel
theorem dX7_kernelOf_8 : decode cX7_kernelOf 8 = .ok (.iadd, 1) := by decide +kernel
theorem dX7_kernelOf_9 : decode cX7_kernelOf 9 = .ok (.bipush 31, 2) := by decide +kernel
theorem dX7_kernelOf_11 : decode cX7_kernelOf 11 = .ok (.iand, 1) := by decide +kernel
theorem dX7_kernelOf_12 : decode cX7_kernelOf 12 = .ok (.istore_n 2, 1) := by decide +kernel
theorem dX7_kernelOf_13 : decode cX7_kernelOf 13 = .ok (.iload_n 2, 1) := by decide +kernel
theorem dX7_kernelOf_14 : decode cX7_kernelOf 14 = .ok (.iload_n 0, 1) := by decide +kernel
theorem dX7_kernelOf_15 : decode cX7_kernelOf 15 = .ok (.iconst 5, 1) := by decide +kernel
theorem dX7_kernelOf_16 : decode cX7_kernelOf 16 = .ok (.ishr, 1) := by decide +kernel
theorem dX7_kernelOf_17 : decode cX7_kernelOf 17 = .ok (.bipush 31, 2) := by decide +kernel
theorem dX7_kernelOf_19 : decode cX7_kernelOf 19 = .ok (.iand, 1) := by decide +kernel
theorem dX7_kernelOf_20 : decode cX7_kernelOf 20 = .ok (.iload_n 1, 1) := by decide +kernel
theorem dX7_kernelOf_21 : decode cX7_kernelOf 21 = .ok (.bipush 7, 2) := by decide +kernel
theorem dX7_kernelOf_23 : decode cX7_kernelOf 23 = .ok (.ishr, 1) := by decide +kernel
theorem dX7_kernelOf_24 : decode cX7_kernelOf 24 = .ok (.bipush 31, 2) := by decide +kernel
theorem dX7_kernelOf_26 : decode cX7_kernelOf 26 = .ok (.iand, 1) := by decide +kernel
theorem dX7_kernelOf_27 : decode cX7_kernelOf 27 = .ok (.ixor, 1) := by decide +kernel
theorem dX7_kernelOf_28 : decode cX7_kernelOf 28 = .ok (.ixor, 1) := by decide +kernel
theorem dX7_kernelOf_29 : decode cX7_kernelOf 29 = .ok (.istore_n 2, 1) := by decide +kernel
theorem dX7_kernelOf_30 : decode cX7_kernelOf 30 = .ok (.iload_n 0, 1) := by decide +kernel
theorem dX7_kernelOf_31 : decode cX7_kernelOf 31 = .ok (.bipush 10, 2) := by decide +kernel
theorem dX7_kernelOf_33 : decode cX7_kernelOf 33 = .ok (.ishr, 1) := by decide +kernel
theorem dX7_kernelOf_34 : decode cX7_kernelOf 34 = .ok (.sipush 511, 3) := by decide +kernel
theorem dX7_kernelOf_37 : decode cX7_kernelOf 37 = .ok (.iand, 1) := by decide +kernel
theorem dX7_kernelOf_38 : decode cX7_kernelOf 38 = .ok (.iload_n 1, 1) := by decide +kernel
theorem dX7_kernelOf_39 : decode cX7_kernelOf 39 = .ok (.iconst 5, 1) := by decide +kernel
theorem dX7_kernelOf_40 : decode cX7_kernelOf 40 = .ok (.ishr, 1) := by decide +kernel
theorem dX7_kernelOf_41 : decode cX7_kernelOf 41 = .ok (.sipush 511, 3) := by decide +kernel
theorem dX7_kernelOf_44 : decode cX7_kernelOf 44 = .ok (.iand, 1) := by decide +kernel
theorem dX7_kernelOf_45 : decode cX7_kernelOf 45 = .ok (.ixor, 1) := by decide +kernel
theorem dX7_kernelOf_46 : decode cX7_kernelOf 46 = .ok (.istore_n 3, 1) := by decide +kernel
theorem dX7_kernelOf_47 : decode cX7_kernelOf 47 = .ok (.iconst 0, 1) := by decide +kernel
theorem dX7_kernelOf_48 : decode cX7_kernelOf 48 = .ok (.istore 4, 2) := by decide +kernel
theorem dX7_kernelOf_50 : decode cX7_kernelOf 50 = .ok (.iload 4, 2) := by decide +kernel
theorem dX7_kernelOf_52 : decode cX7_kernelOf 52 = .ok (.bipush 9, 2) := by decide +kernel
theorem dX7_kernelOf_54 : decode cX7_kernelOf 54 = .ok (.if_icmp .ge 80, 3) := by decide +kernel
theorem dX7_kernelOf_57 : decode cX7_kernelOf 57 = .ok (.getstatic 90, 3) := by decide +kernel
theorem dX7_kernelOf_60 : decode cX7_kernelOf 60 = .ok (.iconst 2, 1) := by decide +kernel
theorem dX7_kernelOf_61 : decode cX7_kernelOf 61 = .ok (.iload 4, 2) := by decide +kernel
theorem dX7_kernelOf_63 : decode cX7_kernelOf 63 = .ok (.imul, 1) := by decide +kernel
theorem dX7_kernelOf_64 : decode cX7_kernelOf 64 = .ok (.iaload, 1) := by decide +kernel
theorem dX7_kernelOf_65 : decode cX7_kernelOf 65 = .ok (.istore 5, 2) := by decide +kernel
theorem dX7_kernelOf_67 : decode cX7_kernelOf 67 = .ok (.getstatic 90, 3) := by decide +kernel
theorem dX7_kernelOf_70 : decode cX7_kernelOf 70 = .ok (.iconst 2, 1) := by decide +kernel
theorem dX7_kernelOf_71 : decode cX7_kernelOf 71 = .ok (.iload 4, 2) := by decide +kernel
theorem dX7_kernelOf_73 : decode cX7_kernelOf 73 = .ok (.imul, 1) := by decide +kernel
theorem dX7_kernelOf_74 : decode cX7_kernelOf 74 = .ok (.iconst 1, 1) := by decide +kernel
theorem dX7_kernelOf_75 : decode cX7_kernelOf 75 = .ok (.iadd, 1) := by decide +kernel
theorem dX7_kernelOf_76 : decode cX7_kernelOf 76 = .ok (.iaload, 1) := by decide +kernel
theorem dX7_kernelOf_77 : decode cX7_kernelOf 77 = .ok (.istore 6, 2) := by decide +kernel
theorem dX7_kernelOf_79 : decode cX7_kernelOf 79 = .ok (.iload_n 2, 1) := by decide +kernel
theorem dX7_kernelOf_80 : decode cX7_kernelOf 80 = .ok (.iload 5, 2) := by decide +kernel
theorem dX7_kernelOf_82 : decode cX7_kernelOf 82 = .ok (.ishr, 1) := by decide +kernel
theorem dX7_kernelOf_83 : decode cX7_kernelOf 83 = .ok (.iconst 1, 1) := by decide +kernel
theorem dX7_kernelOf_84 : decode cX7_kernelOf 84 = .ok (.iand, 1) := by decide +kernel
theorem dX7_kernelOf_85 : decode cX7_kernelOf 85 = .ok (.iload_n 2, 1) := by decide +kernel
theorem dX7_kernelOf_86 : decode cX7_kernelOf 86 = .ok (.iload 6, 2) := by decide +kernel
theorem dX7_kernelOf_88 : decode cX7_kernelOf 88 = .ok (.ishr, 1) := by decide +kernel
theorem dX7_kernelOf_89 : decode cX7_kernelOf 89 = .ok (.iconst 1, 1) := by decide +kernel
theorem dX7_kernelOf_90 : decode cX7_kernelOf 90 = .ok (.iand, 1) := by decide +kernel
theorem dX7_kernelOf_91 : decode cX7_kernelOf 91 = .ok (.if_icmp .eq 7, 3) := by decide +kernel
theorem dX7_kernelOf_94 : decode cX7_kernelOf 94 = .ok (.iconst 1, 1) := by decide +kernel
theorem dX7_kernelOf_95 : decode cX7_kernelOf 95 = .ok (.goto 4, 3) := by decide +kernel
theorem dX7_kernelOf_98 : decode cX7_kernelOf 98 = .ok (.iconst 0, 1) := by decide +kernel
theorem dX7_kernelOf_99 : decode cX7_kernelOf 99 = .ok (.istore 7, 2) := by decide +kernel
theorem dX7_kernelOf_101 : decode cX7_kernelOf 101 = .ok (.iload_n 3, 1) := by decide +kernel
theorem dX7_kernelOf_102 : decode cX7_kernelOf 102 = .ok (.iload 4, 2) := by decide +kernel
theorem dX7_kernelOf_104 : decode cX7_kernelOf 104 = .ok (.ishr, 1) := by decide +kernel
theorem dX7_kernelOf_105 : decode cX7_kernelOf 105 = .ok (.iconst 1, 1) := by decide +kernel
theorem dX7_kernelOf_106 : decode cX7_kernelOf 106 = .ok (.iand, 1) := by decide +kernel
theorem dX7_kernelOf_107 : decode cX7_kernelOf 107 = .ok (.iconst 1, 1) := by decide +kernel
theorem dX7_kernelOf_108 : decode cX7_kernelOf 108 = .ok (.if_icmp .ne 20, 3) := by decide +kernel
theorem dX7_kernelOf_111 : decode cX7_kernelOf 111 = .ok (.iload 7, 2) := by decide +kernel
theorem dX7_kernelOf_113 : decode cX7_kernelOf 113 = .ok (.ifCond .eq 15, 3) := by decide +kernel
theorem dX7_kernelOf_116 : decode cX7_kernelOf 116 = .ok (.iload_n 2, 1) := by decide +kernel
theorem dX7_kernelOf_117 : decode cX7_kernelOf 117 = .ok (.iconst 1, 1) := by decide +kernel
theorem dX7_kernelOf_118 : decode cX7_kernelOf 118 = .ok (.iload 5, 2) := by decide +kernel
theorem dX7_kernelOf_120 : decode cX7_kernelOf 120 = .ok (.ishl, 1) := by decide +kernel
theorem dX7_kernelOf_121 : decode cX7_kernelOf 121 = .ok (.iconst 1, 1) := by decide +kernel
theorem dX7_kernelOf_122 : decode cX7_kernelOf 122 = .ok (.iload 6, 2) := by decide +kernel
theorem dX7_kernelOf_124 : decode cX7_kernelOf 124 = .ok (.ishl, 1) := by decide +kernel
theorem dX7_kernelOf_125 : decode cX7_kernelOf 125 = .ok (.ior, 1) := by decide +kernel
theorem dX7_kernelOf_126 : decode cX7_kernelOf 126 = .ok (.ixor, 1) := by decide +kernel
theorem dX7_kernelOf_127 : decode cX7_kernelOf 127 = .ok (.istore_n 2, 1) := by decide +kernel
theorem dX7_kernelOf_128 : decode cX7_kernelOf 128 = .ok (.iinc 4 1, 3) := by decide +kernel
theorem dX7_kernelOf_131 : decode cX7_kernelOf 131 = .ok (.goto (-81), 3) := by decide +kernel
theorem dX7_kernelOf_134 : decode cX7_kernelOf 134 = .ok (.iload_n 2, 1) := by decide +kernel
theorem dX7_kernelOf_135 : decode cX7_kernelOf 135 = .ok (.iload_n 0, 1) := by decide +kernel
theorem dX7_kernelOf_136 : decode cX7_kernelOf 136 = .ok (.bipush 19, 2) := by decide +kernel
theorem dX7_kernelOf_138 : decode cX7_kernelOf 138 = .ok (.ishr, 1) := by decide +kernel
theorem dX7_kernelOf_139 : decode cX7_kernelOf 139 = .ok (.bipush 31, 2) := by decide +kernel
theorem dX7_kernelOf_141 : decode cX7_kernelOf 141 = .ok (.iand, 1) := by decide +kernel
theorem dX7_kernelOf_142 : decode cX7_kernelOf 142 = .ok (.iadd, 1) := by decide +kernel
theorem dX7_kernelOf_143 : decode cX7_kernelOf 143 = .ok (.bipush 13, 2) := by decide +kernel
theorem dX7_kernelOf_145 : decode cX7_kernelOf 145 = .ok (.iload_n 1, 1) := by decide +kernel
theorem dX7_kernelOf_146 : decode cX7_kernelOf 146 = .ok (.iconst 1, 1) := by decide +kernel
theorem dX7_kernelOf_147 : decode cX7_kernelOf 147 = .ok (.iand, 1) := by decide +kernel
theorem dX7_kernelOf_148 : decode cX7_kernelOf 148 = .ok (.imul, 1) := by decide +kernel
theorem dX7_kernelOf_149 : decode cX7_kernelOf 149 = .ok (.iadd, 1) := by decide +kernel
theorem dX7_kernelOf_150 : decode cX7_kernelOf 150 = .ok (.bipush 23, 2) := by decide +kernel
theorem dX7_kernelOf_152 : decode cX7_kernelOf 152 = .ok (.irem, 1) := by decide +kernel
theorem dX7_kernelOf_153 : decode cX7_kernelOf 153 = .ok (.ireturn, 1) := by decide +kernel
theorem dX6_kernel_0 : decode cX6_kernel 0 = .ok (.iload_n 1, 1) := by decide +kernel
theorem dX6_kernel_1 : decode cX6_kernel 1 = .ok (.iconst 0, 1) := by decide +kernel
theorem dX6_kernel_2 : decode cX6_kernel 2 = .ok (.ldc 53, 2) := by decide +kernel
theorem dX6_kernel_4 : decode cX6_kernel 4 = .ok (.invokestatic 54, 3) := by decide +kernel
theorem dX6_kernel_7 : decode cX6_kernel 7 = .ok (.ifCond .eq 13, 3) := by decide +kernel
theorem dX6_kernel_10 : decode cX6_kernel 10 = .ok (.iload_n 2, 1) := by decide +kernel
theorem dX6_kernel_11 : decode cX6_kernel 11 = .ok (.iconst 0, 1) := by decide +kernel
theorem dX6_kernel_12 : decode cX6_kernel 12 = .ok (.ldc 223, 2) := by decide +kernel
theorem dX6_kernel_14 : decode cX6_kernel 14 = .ok (.invokestatic 54, 3) := by decide +kernel
theorem dX6_kernel_17 : decode cX6_kernel 17 = .ok (.ifCond .ne 5, 3) := by decide +kernel
theorem dX6_kernel_20 : decode cX6_kernel 20 = .ok (.iconst (-1), 1) := by decide +kernel
theorem dX6_kernel_21 : decode cX6_kernel 21 = .ok (.ireturn, 1) := by decide +kernel
theorem dX6_kernel_22 : decode cX6_kernel 22 = .ok (.iload_n 1, 1) := by decide +kernel
theorem dX6_kernel_23 : decode cX6_kernel 23 = .ok (.iload_n 2, 1) := by decide +kernel
theorem dX6_kernel_24 : decode cX6_kernel 24 = .ok (.invokestatic 224, 3) := by decide +kernel
theorem dX6_kernel_27 : decode cX6_kernel 27 = .ok (.ireturn, 1) := by decide +kernel
theorem dX7_kernel_0 : decode cX7_kernel 0 = .ok (.aload_n 0, 1) := by decide +kernel
theorem dX7_kernel_1 : decode cX7_kernel 1 = .ok (.iconst 0, 1) := by decide +kernel
theorem dX7_kernel_2 : decode cX7_kernel 2 = .ok (.putfield 50, 3) := by decide +kernel
theorem dX7_kernel_5 : decode cX7_kernel 5 = .ok (.iload_n 1, 1) := by decide +kernel
theorem dX7_kernel_6 : decode cX7_kernel 6 = .ok (.i2l, 1) := by decide +kernel
theorem dX7_kernel_7 : decode cX7_kernel 7 = .ok (.lconst 0, 1) := by decide +kernel
theorem dX7_kernel_8 : decode cX7_kernel 8 = .ok (.ldc2_w 102, 3) := by decide +kernel
theorem dX7_kernel_11 : decode cX7_kernel 11 = .ok (.invokestatic 71, 3) := by decide +kernel
theorem dX7_kernel_14 : decode cX7_kernel 14 = .ok (.ifCond .eq 23, 3) := by decide +kernel
theorem dX7_kernel_17 : decode cX7_kernel 17 = .ok (.iload_n 2, 1) := by decide +kernel
theorem dX7_kernel_18 : decode cX7_kernel 18 = .ok (.i2l, 1) := by decide +kernel
theorem dX7_kernel_19 : decode cX7_kernel 19 = .ok (.lconst 0, 1) := by decide +kernel
theorem dX7_kernel_20 : decode cX7_kernel 20 = .ok (.ldc2_w 104, 3) := by decide +kernel
theorem dX7_kernel_23 : decode cX7_kernel 23 = .ok (.invokestatic 71, 3) := by decide +kernel
theorem dX7_kernel_26 : decode cX7_kernel 26 = .ok (.ifCond .eq 11, 3) := by decide +kernel
theorem dX7_kernel_29 : decode cX7_kernel 29 = .ok (.iload_n 1, 1) := by decide +kernel
theorem dX7_kernel_30 : decode cX7_kernel 30 = .ok (.iload_n 2, 1) := by decide +kernel
theorem dX7_kernel_31 : decode cX7_kernel 31 = .ok (.invokestatic 96, 3) := by decide +kernel
theorem dX7_kernel_34 : decode cX7_kernel 34 = .ok (.goto 4, 3) := by decide +kernel
theorem dX7_kernel_37 : decode cX7_kernel 37 = .ok (.iconst (-1), 1) := by decide +kernel
theorem dX7_kernel_38 : decode cX7_kernel 38 = .ok (.ireturn, 1) := by decide +kernel
theorem dJ6_bitCount_0f7a4_0 : decode cJ6_bitCount_0f7a4 0 = .ok (.iload_n 0, 1) := by decide +kernel
theorem dJ6_bitCount_0f7a4_1 : decode cJ6_bitCount_0f7a4 1 = .ok (.iload_n 0, 1) := by decide +kernel
theorem dJ6_bitCount_0f7a4_2 : decode cJ6_bitCount_0f7a4 2 = .ok (.iconst 1, 1) := by decide +kernel
theorem dJ6_bitCount_0f7a4_3 : decode cJ6_bitCount_0f7a4 3 = .ok (.iushr, 1) := by decide +kernel
theorem dJ6_bitCount_0f7a4_4 : decode cJ6_bitCount_0f7a4 4 = .ok (.ldc_w 265, 3) := by decide +kernel
theorem dJ6_bitCount_0f7a4_7 : decode cJ6_bitCount_0f7a4 7 = .ok (.iand, 1) := by decide +kernel
theorem dJ6_bitCount_0f7a4_8 : decode cJ6_bitCount_0f7a4 8 = .ok (.isub, 1) := by decide +kernel
theorem dJ6_bitCount_0f7a4_9 : decode cJ6_bitCount_0f7a4 9 = .ok (.istore_n 0, 1) := by decide +kernel
theorem dJ6_bitCount_0f7a4_10 : decode cJ6_bitCount_0f7a4 10 = .ok (.iload_n 0, 1) := by decide +kernel
theorem dJ6_bitCount_0f7a4_11 : decode cJ6_bitCount_0f7a4 11 = .ok (.ldc_w 266, 3) := by decide +kernel
theorem dJ6_bitCount_0f7a4_14 : decode cJ6_bitCount_0f7a4 14 = .ok (.iand, 1) := by decide +kernel
theorem dJ6_bitCount_0f7a4_15 : decode cJ6_bitCount_0f7a4 15 = .ok (.iload_n 0, 1) := by decide +kernel
theorem dJ6_bitCount_0f7a4_16 : decode cJ6_bitCount_0f7a4 16 = .ok (.iconst 2, 1) := by decide +kernel
theorem dJ6_bitCount_0f7a4_17 : decode cJ6_bitCount_0f7a4 17 = .ok (.iushr, 1) := by decide +kernel
theorem dJ6_bitCount_0f7a4_18 : decode cJ6_bitCount_0f7a4 18 = .ok (.ldc_w 266, 3) := by decide +kernel
theorem dJ6_bitCount_0f7a4_21 : decode cJ6_bitCount_0f7a4 21 = .ok (.iand, 1) := by decide +kernel
theorem dJ6_bitCount_0f7a4_22 : decode cJ6_bitCount_0f7a4 22 = .ok (.iadd, 1) := by decide +kernel
theorem dJ6_bitCount_0f7a4_23 : decode cJ6_bitCount_0f7a4 23 = .ok (.istore_n 0, 1) := by decide +kernel
theorem dJ6_bitCount_0f7a4_24 : decode cJ6_bitCount_0f7a4 24 = .ok (.iload_n 0, 1) := by decide +kernel
theorem dJ6_bitCount_0f7a4_25 : decode cJ6_bitCount_0f7a4 25 = .ok (.iload_n 0, 1) := by decide +kernel
theorem dJ6_bitCount_0f7a4_26 : decode cJ6_bitCount_0f7a4 26 = .ok (.iconst 4, 1) := by decide +kernel
theorem dJ6_bitCount_0f7a4_27 : decode cJ6_bitCount_0f7a4 27 = .ok (.iushr, 1) := by decide +kernel
theorem dJ6_bitCount_0f7a4_28 : decode cJ6_bitCount_0f7a4 28 = .ok (.iadd, 1) := by decide +kernel
theorem dJ6_bitCount_0f7a4_29 : decode cJ6_bitCount_0f7a4 29 = .ok (.ldc_w 267, 3) := by decide +kernel
theorem dJ6_bitCount_0f7a4_32 : decode cJ6_bitCount_0f7a4 32 = .ok (.iand, 1) := by decide +kernel
theorem dJ6_bitCount_0f7a4_33 : decode cJ6_bitCount_0f7a4 33 = .ok (.istore_n 0, 1) := by decide +kernel
theorem dJ6_bitCount_0f7a4_34 : decode cJ6_bitCount_0f7a4 34 = .ok (.iload_n 0, 1) := by decide +kernel
theorem dJ6_bitCount_0f7a4_35 : decode cJ6_bitCount_0f7a4 35 = .ok (.iload_n 0, 1) := by decide +kernel
theorem dJ6_bitCount_0f7a4_36 : decode cJ6_bitCount_0f7a4 36 = .ok (.bipush 8, 2) := by decide +kernel
theorem dJ6_bitCount_0f7a4_38 : decode cJ6_bitCount_0f7a4 38 = .ok (.iushr, 1) := by decide +kernel
theorem dJ6_bitCount_0f7a4_39 : decode cJ6_bitCount_0f7a4 39 = .ok (.iadd, 1) := by decide +kernel
theorem dJ6_bitCount_0f7a4_40 : decode cJ6_bitCount_0f7a4 40 = .ok (.istore_n 0, 1) := by decide +kernel
theorem dJ6_bitCount_0f7a4_41 : decode cJ6_bitCount_0f7a4 41 = .ok (.iload_n 0, 1) := by decide +kernel
theorem dJ6_bitCount_0f7a4_42 : decode cJ6_bitCount_0f7a4 42 = .ok (.iload_n 0, 1) := by decide +kernel
theorem dJ6_bitCount_0f7a4_43 : decode cJ6_bitCount_0f7a4 43 = .ok (.bipush 16, 2) := by decide +kernel
theorem dJ6_bitCount_0f7a4_45 : decode cJ6_bitCount_0f7a4 45 = .ok (.iushr, 1) := by decide +kernel
theorem dJ6_bitCount_0f7a4_46 : decode cJ6_bitCount_0f7a4 46 = .ok (.iadd, 1) := by decide +kernel
theorem dJ6_bitCount_0f7a4_47 : decode cJ6_bitCount_0f7a4 47 = .ok (.istore_n 0, 1) := by decide +kernel
theorem dJ6_bitCount_0f7a4_48 : decode cJ6_bitCount_0f7a4 48 = .ok (.iload_n 0, 1) := by decide +kernel
theorem dJ6_bitCount_0f7a4_49 : decode cJ6_bitCount_0f7a4 49 = .ok (.bipush 63, 2) := by decide +kernel
theorem dJ6_bitCount_0f7a4_51 : decode cJ6_bitCount_0f7a4 51 = .ok (.iand, 1) := by decide +kernel
theorem dJ6_bitCount_0f7a4_52 : decode cJ6_bitCount_0f7a4 52 = .ok (.ireturn, 1) := by decide +kernel
theorem dX6_isMap_0 : decode cX6_isMap 0 = .ok (.iload_n 0, 1) := by decide +kernel
theorem dX6_isMap_1 : decode cX6_isMap 1 = .ok (.ldc_w 402, 3) := by decide +kernel
theorem dX6_isMap_4 : decode cX6_isMap 4 = .ok (.iand, 1) := by decide +kernel
theorem dX6_isMap_5 : decode cX6_isMap 5 = .ok (.ifCond .ne 16, 3) := by decide +kernel
theorem dX6_isMap_8 : decode cX6_isMap 8 = .ok (.iload_n 0, 1) := by decide +kernel
theorem dX6_isMap_9 : decode cX6_isMap 9 = .ok (.invokestatic 403, 3) := by decide +kernel
theorem dX6_isMap_12 : decode cX6_isMap 12 = .ok (.bipush 8, 2) := by decide +kernel
theorem dX6_isMap_14 : decode cX6_isMap 14 = .ok (.if_icmp .lt 7, 3) := by decide +kernel
theorem dX6_isMap_17 : decode cX6_isMap 17 = .ok (.iconst 1, 1) := by decide +kernel
theorem dX6_isMap_18 : decode cX6_isMap 18 = .ok (.goto 4, 3) := by decide +kernel
theorem dX6_isMap_21 : decode cX6_isMap 21 = .ok (.iconst 0, 1) := by decide +kernel
theorem dX6_isMap_22 : decode cX6_isMap 22 = .ok (.ireturn, 1) := by decide +kernel
theorem dX6_map_0 : decode cX6_map 0 = .ok (.iload_n 2, 1) := by decide +kernel
theorem dX6_map_1 : decode cX6_map 1 = .ok (.invokestatic 187, 3) := by decide +kernel
theorem dX6_map_4 : decode cX6_map 4 = .ok (.ifCond .eq 13, 3) := by decide +kernel
theorem dX6_map_7 : decode cX6_map 7 = .ok (.iload_n 3, 1) := by decide +kernel
theorem dX6_map_8 : decode cX6_map 8 = .ok (.iconst 1, 1) := by decide +kernel
theorem dX6_map_9 : decode cX6_map 9 = .ok (.bipush 100, 2) := by decide +kernel
theorem dX6_map_11 : decode cX6_map 11 = .ok (.invokestatic 54, 3) := by decide +kernel
theorem dX6_map_14 : decode cX6_map 14 = .ok (.ifCond .ne 9, 3) := by decide +kernel
theorem dX6_map_17 : decode cX6_map 17 = .ok (.aload_n 0, 1) := by decide +kernel
theorem dX6_map_18 : decode cX6_map 18 = .ok (.iconst (-1), 1) := by decide +kernel
theorem dX6_map_19 : decode cX6_map 19 = .ok (.invokevirtual 58, 3) := by decide +kernel
theorem dX6_map_22 : decode cX6_map 22 = .ok (.ireturn, 1) := by decide +kernel
theorem dX6_map_23 : decode cX6_map 23 = .ok (.aload_n 0, 1) := by decide +kernel
theorem dX6_map_24 : decode cX6_map 24 = .ok (.getfield 12, 3) := by decide +kernel
theorem dX6_map_27 : decode cX6_map 27 = .ok (.iload_n 1, 1) := by decide +kernel
theorem dX6_map_28 : decode cX6_map 28 = .ok (.invokevirtual 95, 3) := by decide +kernel
theorem dX6_map_31 : decode cX6_map 31 = .ok (.astore 4, 2) := by decide +kernel
theorem dX6_map_33 : decode cX6_map 33 = .ok (.aload 4, 2) := by decide +kernel
theorem dX6_map_35 : decode cX6_map 35 = .ok (.ifnonnull 10, 3) := by decide +kernel
theorem dX6_map_38 : decode cX6_map 38 = .ok (.aload_n 0, 1) := by decide +kernel
theorem dX6_map_39 : decode cX6_map 39 = .ok (.bipush (-2), 2) := by decide +kernel
theorem dX6_map_41 : decode cX6_map 41 = .ok (.invokevirtual 58, 3) := by decide +kernel
theorem dX6_map_44 : decode cX6_map 44 = .ok (.ireturn, 1) := by decide +kernel
theorem dX6_map_45 : decode cX6_map 45 = .ok (.aload 4, 2) := by decide +kernel
theorem dX6_map_47 : decode cX6_map 47 = .ok (.getfield 190, 3) := by decide +kernel
theorem dX6_map_50 : decode cX6_map 50 = .ok (.invokevirtual 194, 3) := by decide +kernel
theorem dX6_map_53 : decode cX6_map 53 = .ok (.ifCond .eq 10, 3) := by decide +kernel
theorem dX6_map_56 : decode cX6_map 56 = .ok (.aload_n 0, 1) := by decide +kernel
theorem dX6_map_57 : decode cX6_map 57 = .ok (.bipush (-4), 2) := by decide +kernel
theorem dX6_map_59 : decode cX6_map 59 = .ok (.invokevirtual 58, 3) := by decide +kernel
theorem dX6_map_62 : decode cX6_map 62 = .ok (.ireturn, 1) := by decide +kernel
theorem dX6_map_63 : decode cX6_map 63 = .ok (.aload_n 0, 1) := by decide +kernel
theorem dX6_map_64 : decode cX6_map 64 = .ok (.aload 4, 2) := by decide +kernel
theorem dX6_map_66 : decode cX6_map 66 = .ok (.iload_n 2, 1) := by decide +kernel
theorem dX6_map_67 : decode cX6_map 67 = .ok (.iload_n 3, 1) := by decide +kernel
theorem dX6_map_68 : decode cX6_map 68 = .ok (.invokevirtual 199, 3) := by decide +kernel
theorem dX6_map_71 : decode cX6_map 71 = .ok (.ireturn, 1) := by decide +kernel
theorem dX7_bits_0 : decode cX7_bits 0 = .ok (.iconst 0, 1) := by decide +kernel
theorem dX7_bits_1 : decode cX7_bits 1 = .ok (.istore_n 1, 1) := by decide +kernel
theorem dX7_bits_2 : decode cX7_bits 2 = .ok (.iload_n 0, 1) := by decide +kernel
theorem dX7_bits_3 : decode cX7_bits 3 = .ok (.istore_n 2, 1) := by decide +kernel
theorem dX7_bits_4 : decode cX7_bits 4 = .ok (.iload_n 2, 1) := by decide +kernel
theorem dX7_bits_5 : decode cX7_bits 5 = .ok (.ifCond .eq 15, 3) := by decide +kernel
theorem dX7_bits_8 : decode cX7_bits 8 = .ok (.iinc 1 1, 3) := by decide +kernel
theorem dX7_bits_11 : decode cX7_bits 11 = .ok (.iload_n 2, 1) := by decide +kernel
theorem dX7_bits_12 : decode cX7_bits 12 = .ok (.iload_n 2, 1) := by decide +kernel
theorem dX7_bits_13 : decode cX7_bits 13 = .ok (.iconst 1, 1) := by decide +kernel
theorem dX7_bits_14 : decode cX7_bits 14 = .ok (.isub, 1) := by decide +kernel
theorem dX7_bits_15 : decode cX7_bits 15 = .ok (.iand, 1) := by decide +kernel
theorem dX7_bits_16 : decode cX7_bits 16 = .ok (.istore_n 2, 1) := by decide +kernel
theorem dX7_bits_17 : decode cX7_bits 17 = .ok (.goto (-13), 3) := by decide +kernel
theorem dX7_bits_20 : decode cX7_bits 20 = .ok (.iload_n 1, 1) := by decide +kernel
theorem dX7_bits_21 : decode cX7_bits 21 = .ok (.ireturn, 1) := by decide +kernel
theorem dX7_map_0 : decode cX7_map 0 = .ok (.aload_n 0, 1) := by decide +kernel
theorem dX7_map_1 : decode cX7_map 1 = .ok (.iconst 0, 1) := by decide +kernel
theorem dX7_map_2 : decode cX7_map 2 = .ok (.putfield 50, 3) := by decide +kernel
theorem dX7_map_5 : decode cX7_map 5 = .ok (.iload_n 2, 1) := by decide +kernel
theorem dX7_map_6 : decode cX7_map 6 = .ok (.i2l, 1) := by decide +kernel
theorem dX7_map_7 : decode cX7_map 7 = .ok (.lconst 0, 1) := by decide +kernel
theorem dX7_map_8 : decode cX7_map 8 = .ok (.ldc2_w 155, 3) := by decide +kernel
theorem dX7_map_11 : decode cX7_map 11 = .ok (.invokestatic 71, 3) := by decide +kernel
theorem dX7_map_14 : decode cX7_map 14 = .ok (.ifCond .eq 24, 3) := by decide +kernel
theorem dX7_map_17 : decode cX7_map 17 = .ok (.iload_n 2, 1) := by decide +kernel
theorem dX7_map_18 : decode cX7_map 18 = .ok (.invokestatic 93, 3) := by decide +kernel
theorem dX7_map_21 : decode cX7_map 21 = .ok (.bipush 8, 2) := by decide +kernel
theorem dX7_map_23 : decode cX7_map 23 = .ok (.if_icmp .lt 15, 3) := by decide +kernel
theorem dX7_map_26 : decode cX7_map 26 = .ok (.iload_n 3, 1) := by decide +kernel
theorem dX7_map_27 : decode cX7_map 27 = .ok (.i2l, 1) := by decide +kernel
theorem dX7_map_28 : decode cX7_map 28 = .ok (.lconst 1, 1) := by decide +kernel
theorem dX7_map_29 : decode cX7_map 29 = .ok (.ldc2_w 157, 3) := by decide +kernel
theorem dX7_map_32 : decode cX7_map 32 = .ok (.invokestatic 71, 3) := by decide +kernel
theorem dX7_map_35 : decode cX7_map 35 = .ok (.ifCond .ne 9, 3) := by decide +kernel
theorem dX7_map_38 : decode cX7_map 38 = .ok (.aload_n 0, 1) := by decide +kernel
theorem dX7_map_39 : decode cX7_map 39 = .ok (.iconst (-1), 1) := by decide +kernel
theorem dX7_map_40 : decode cX7_map 40 = .ok (.invokevirtual 64, 3) := by decide +kernel
theorem dX7_map_43 : decode cX7_map 43 = .ok (.ireturn, 1) := by decide +kernel
theorem dX7_map_44 : decode cX7_map 44 = .ok (.aload_n 0, 1) := by decide +kernel
theorem dX7_map_45 : decode cX7_map 45 = .ok (.iload_n 1, 1) := by decide +kernel
theorem dX7_map_46 : decode cX7_map 46 = .ok (.invokevirtual 78, 3) := by decide +kernel
theorem dX7_map_49 : decode cX7_map 49 = .ok (.ifCond .ne 10, 3) := by decide +kernel
theorem dX7_map_52 : decode cX7_map 52 = .ok (.aload_n 0, 1) := by decide +kernel
theorem dX7_map_53 : decode cX7_map 53 = .ok (.bipush (-2), 2) := by decide +kernel
theorem dX7_map_55 : decode cX7_map 55 = .ok (.invokevirtual 64, 3) := by decide +kernel
theorem dX7_map_58 : decode cX7_map 58 = .ok (.ireturn, 1) := by decide +kernel
theorem dX7_map_59 : decode cX7_map 59 = .ok (.aload_n 0, 1) := by decide +kernel
theorem dX7_map_60 : decode cX7_map 60 = .ok (.getfield 13, 3) := by decide +kernel
theorem dX7_map_63 : decode cX7_map 63 = .ok (.iload_n 1, 1) := by decide +kernel
theorem dX7_map_64 : decode cX7_map 64 = .ok (.invokestatic 75, 3) := by decide +kernel
theorem dX7_map_67 : decode cX7_map 67 = .ok (.iconst 3, 1) := by decide +kernel
theorem dX7_map_68 : decode cX7_map 68 = .ok (.iadd, 1) := by decide +kernel
theorem dX7_map_69 : decode cX7_map 69 = .ok (.iaload, 1) := by decide +kernel
theorem dX7_map_70 : decode cX7_map 70 = .ok (.ifCond .eq 12, 3) := by decide +kernel
theorem dX7_map_73 : decode cX7_map 73 = .ok (.aload_n 0, 1) := by decide +kernel
theorem dX7_map_74 : decode cX7_map 74 = .ok (.bipush (-4), 2) := by decide +kernel
theorem dX7_map_76 : decode cX7_map 76 = .ok (.invokevirtual 64, 3) := by decide +kernel
theorem dX7_map_79 : decode cX7_map 79 = .ok (.goto 10, 3) := by decide +kernel
theorem dX7_map_82 : decode cX7_map 82 = .ok (.aload_n 0, 1) := by decide +kernel
theorem dX7_map_83 : decode cX7_map 83 = .ok (.iload_n 1, 1) := by decide +kernel
theorem dX7_map_84 : decode cX7_map 84 = .ok (.iload_n 2, 1) := by decide +kernel
theorem dX7_map_85 : decode cX7_map 85 = .ok (.iload_n 3, 1) := by decide +kernel
theorem dX7_map_86 : decode cX7_map 86 = .ok (.invokevirtual 159, 3) := by decide +kernel
theorem dX7_map_89 : decode cX7_map 89 = .ok (.ireturn, 1) := by decide +kernel
set_option maxHeartbeats 4000000 in
set_option maxRecDepth 100000 in
theorem c_hopOf (l : Launch) (E : hE) (ρ : Nat → Nat → Int32) (a c0 : Int32) : Met l yX6_hopOf (.code yX6_hopOf cX6_hopOf 8 (some .int) :: gw_all) (rmk 0 0) (cPre E ρ [.int a, .int c0]) (cI E (fun r ρ1 => ρ = ρ1 ∧ r = HOP a c0)) 0 0 (hA E) := by
  refine ent (own := RX6) (by decide) rfl (Nat.le_of_ble_eq_true rfl) ?_
  intro p e s m below meth c ls B hr hlk hl hP hS
  have hx := B.1.1
  have hb := B.1.2.1
  have hown := B.1.2.2.2.1
  have hts := B.1.2.2.2.2
  have hl : lv_has ls 8 [(0, .int a), (1, .int c0)] := hl
  refine lv_iload_n hx hb dX6_hopOf_0 rfl (lv_at hl 0 rfl) ?_
  refine lv_bipush (v := 31) hx hb dX6_hopOf_1 (by decide) ?_
  refine lv_iand hx hb dX6_hopOf_3 ?_
  refine lv_iload_n hx hb dX6_hopOf_4 rfl (lv_at hl 1 rfl) ?_
  refine lv_bipush (v := 31) hx hb dX6_hopOf_5 (by decide) ?_
  refine lv_iand hx hb dX6_hopOf_7 ?_
  refine lv_iadd hx hb dX6_hopOf_8 ?_
  refine lv_bipush (v := 32) hx hb dX6_hopOf_9 (by decide) ?_
  refine lv_irem hx hb dX6_hopOf_11 (by decide) ?_
  refine lv_istore_n (lv' := [(2, .int (((a &&& 31) + (c0 &&& 31)) - ((a &&& 31) + (c0 &&& 31)) / 32 * 32)), (0, .int a), (1, .int c0)]) hx hb dX6_hopOf_12 rfl hl (by decide) rfl (fun ls hl => ?_)
  refine lv_iload_n hx hb dX6_hopOf_13 rfl (lv_at hl 0 rfl) ?_
  refine lv_iload_n hx hb dX6_hopOf_14 rfl (lv_at hl 1 rfl) ?_
  refine lv_iconst (v := 5) hx hb dX6_hopOf_15 (by decide) ?_
  refine lv_ishr hx hb dX6_hopOf_16 ?_
  refine lv_bipush (v := 31) hx hb dX6_hopOf_17 (by decide) ?_
  refine lv_iand hx hb dX6_hopOf_19 ?_
  refine lv_ixor hx hb dX6_hopOf_20 ?_
  refine lv_iload_n hx hb dX6_hopOf_21 rfl (lv_at hl 2 rfl) ?_
  refine lv_bipush (v := 7) hx hb dX6_hopOf_22 (by decide) ?_
  refine lv_ishr hx hb dX6_hopOf_24 ?_
  refine lv_bipush (v := 31) hx hb dX6_hopOf_25 (by decide) ?_
  refine lv_iand hx hb dX6_hopOf_27 ?_
  refine lv_ixor hx hb dX6_hopOf_28 ?_
  refine lv_istore_n (lv' := [(2, .int (((((a &&& 31) + (c0 &&& 31)) - ((a &&& 31) + (c0 &&& 31)) / 32 * 32) ^^^ ((a >>> ((5 : Int32) &&& 31)) &&& 31)) ^^^ ((c0 >>> ((7 : Int32) &&& 31)) &&& 31))), (0, .int a), (1, .int c0)]) hx hb dX6_hopOf_29 rfl hl (by decide) rfl (fun ls hl => ?_)
  refine lv_iload_n hx hb dX6_hopOf_30 rfl (lv_at hl 1 rfl) ?_
  refine lv_bipush (v := 10) hx hb dX6_hopOf_31 (by decide) ?_
  refine lv_ishr hx hb dX6_hopOf_33 ?_
  refine lv_sipush (v := 511) hx hb dX6_hopOf_34 (by decide) ?_
  refine lv_iand hx hb dX6_hopOf_37 ?_
  refine lv_iload_n hx hb dX6_hopOf_38 rfl (lv_at hl 2 rfl) ?_
  refine lv_iconst (v := 5) hx hb dX6_hopOf_39 (by decide) ?_
  refine lv_ishr hx hb dX6_hopOf_40 ?_
  refine lv_sipush (v := 511) hx hb dX6_hopOf_41 (by decide) ?_
  refine lv_iand hx hb dX6_hopOf_44 ?_
  refine lv_ixor hx hb dX6_hopOf_45 ?_
  refine lv_istore_n (lv' := [(3, .int (((a >>> ((10 : Int32) &&& 31)) &&& 511) ^^^ ((c0 >>> ((5 : Int32) &&& 31)) &&& 511))), (2, .int (((((a &&& 31) + (c0 &&& 31)) - ((a &&& 31) + (c0 &&& 31)) / 32 * 32) ^^^ ((a >>> ((5 : Int32) &&& 31)) &&& 31)) ^^^ ((c0 >>> ((7 : Int32) &&& 31)) &&& 31))), (0, .int a), (1, .int c0)]) hx hb dX6_hopOf_46 rfl hl (by decide) rfl (fun ls hl => ?_)
  refine lv_iconst (v := 0) hx hb dX6_hopOf_47 (by decide) ?_
  refine lv_istore (lv' := [(4, .int 0), (3, .int (((a >>> ((10 : Int32) &&& 31)) &&& 511) ^^^ ((c0 >>> ((5 : Int32) &&& 31)) &&& 511))), (2, .int (((((a &&& 31) + (c0 &&& 31)) - ((a &&& 31) + (c0 &&& 31)) / 32 * 32) ^^^ ((a >>> ((5 : Int32) &&& 31)) &&& 31)) ^^^ ((c0 >>> ((7 : Int32) &&& 31)) &&& 31))), (0, .int a), (1, .int c0)]) hx hb dX6_hopOf_48 hl (by decide) rfl (fun ls hl => ?_)
  have L : ∀ (d k : Nat) (z : Int32) (H : Heap) (locs : List Loc) (ls : Array Slot), k ≤ 9 → 9 - k < d → z = hzC (kP a c0) k (kZ a c0) → WP E ρ H → va_S (hA E) s.heap H locs → lv_has ls 8 [(0, .int a), (1, .int c0), (2, .int z), (3, .int (kP a c0)), (4, .int (nI k))] → W p l e (rmk 0 0) s m ([.int a, .int c0] : List Value).toArray below meth c H locs 0 0 (MQ below (cI E (fun r ρ1 => ρ = ρ1 ∧ r = HOP a c0)) ([.int a, .int c0] : List Value).toArray s 0 0 (hA E)) (F0 m 50 ls []) := by
    intro d
    induction d with
    | zero => intro k z H locs ls h1 h2; exact absurd h2 (by omega)
    | succ d ih =>
      intro k z H locs ls hk9 hd hz hP hS hl
      refine lv_iload hx hb dX6_hopOf_50 (lv_at hl 4 rfl) ?_
      refine va_gets hx hb (B.2.2.2.2.1).1 hS hown (hts _ mw_732) (fun _ h9 => h9) dX6_hopOf_52 ?_
      refine va_tlen hx hb (B.2.2.2.2.1).2 hS (v := 9) (by decide) dX6_hopOf_55 ?_
      refine lv_icmp_ge (tgt := 139) hx hb dX6_hopOf_56 (by decide) (fun c1 => ?_) (fun c1 => ?_)
      · skip
        have hk : k = 9 := by have := (nI_leI (a := 9) (b := k) (by decide) (by omega)).mp c1; omega
        subst hk
        refine lv_iload_n hx hb dX6_hopOf_139 rfl (lv_at hl 1 rfl) ?_
        refine lv_iconst (v := 1) hx hb dX6_hopOf_140 (by decide) ?_
        refine lv_iand hx hb dX6_hopOf_141 ?_
        refine lv_iconst (v := 1) hx hb dX6_hopOf_142 (by decide) ?_
        refine lv_icmp_ne (tgt := 151) hx hb dX6_hopOf_143 (by decide) (fun c2 => ?_) (fun c2 => ?_)
        · skip
          refine lv_iconst (v := 0) hx hb dX6_hopOf_151 (by decide) ?_
          refine lv_istore (lv' := [(4, .int 0), (0, .int a), (1, .int c0), (2, .int z), (3, .int (kP a c0))]) hx hb dX6_hopOf_152 hl (by decide) rfl (fun ls hl => ?_)
          refine lv_iload_n hx hb dX6_hopOf_154 rfl (lv_at hl 3 rfl) ?_
          refine lv_iload_n hx hb dX6_hopOf_155 rfl (lv_at hl 1 rfl) ?_
          refine lv_bipush (v := 19) hx hb dX6_hopOf_156 (by decide) ?_
          refine lv_ishr hx hb dX6_hopOf_158 ?_
          refine lv_bipush (v := 31) hx hb dX6_hopOf_159 (by decide) ?_
          refine lv_iand hx hb dX6_hopOf_161 ?_
          refine lv_iadd hx hb dX6_hopOf_162 ?_
          refine lv_iload hx hb dX6_hopOf_163 (lv_at hl 0 rfl) ?_
          refine lv_iadd hx hb dX6_hopOf_165 ?_
          refine lv_bipush (v := 23) hx hb dX6_hopOf_166 (by decide) ?_
          refine lv_irem hx hb dX6_hopOf_168 (by decide) ?_
          exact ret_i B hr hlk hP hS dX6_hopOf_169 (⟨rfl, by unfold HOP rem23; rw [← hz, if_neg c2]⟩)
        · skip
          refine lv_bipush (v := 13) hx hb dX6_hopOf_146 (by decide) ?_
          refine lv_goto (tgt := 152) hx hb dX6_hopOf_148 (by decide) ?_
          refine lv_istore (lv' := [(4, .int 13), (0, .int a), (1, .int c0), (2, .int z), (3, .int (kP a c0))]) hx hb dX6_hopOf_152 hl (by decide) rfl (fun ls hl => ?_)
          refine lv_iload_n hx hb dX6_hopOf_154 rfl (lv_at hl 3 rfl) ?_
          refine lv_iload_n hx hb dX6_hopOf_155 rfl (lv_at hl 1 rfl) ?_
          refine lv_bipush (v := 19) hx hb dX6_hopOf_156 (by decide) ?_
          refine lv_ishr hx hb dX6_hopOf_158 ?_
          refine lv_bipush (v := 31) hx hb dX6_hopOf_159 (by decide) ?_
          refine lv_iand hx hb dX6_hopOf_161 ?_
          refine lv_iadd hx hb dX6_hopOf_162 ?_
          refine lv_iload hx hb dX6_hopOf_163 (lv_at hl 0 rfl) ?_
          refine lv_iadd hx hb dX6_hopOf_165 ?_
          refine lv_bipush (v := 23) hx hb dX6_hopOf_166 (by decide) ?_
          refine lv_irem hx hb dX6_hopOf_168 (by decide) ?_
          exact ret_i B hr hlk hP hS dX6_hopOf_169 (⟨rfl, by unfold HOP rem23; rw [← hz, if_pos c2]⟩)
      · skip
        have hk : k < 9 := Nat.not_le.mp (fun z => c1 ((nI_leI (a := 9) (b := k) (by decide) (by omega)).mpr z))
        refine lv_iload hx hb dX6_hopOf_59 (lv_at hl 4 rfl) ?_
        refine va_gets hx hb (B.2.2.2.2.2.1).1 hS hown (hts _ mw_734) (fun _ h9 => h9) dX6_hopOf_61 ?_
        refine va_tlen hx hb (B.2.2.2.2.2.1).2 hS (v := 9) (by decide) dX6_hopOf_64 ?_
        refine lv_icmp_ge (tgt := 139) hx hb dX6_hopOf_65 (by decide) (fun c3 => absurd c3 (fun z => absurd ((nI_leI (a := 9) (b := k) (by decide) (by omega)).mp z) (by omega))) (fun _ => ?_)
        refine va_gets hx hb (B.2.2.2.2.1).1 hS hown (hts _ mw_732) (fun _ h9 => h9) dX6_hopOf_68 ?_
        refine lv_iload hx hb dX6_hopOf_71 (lv_at hl 4 rfl) ?_
        refine va_ti hx hb (B.2.2.2.2.1).2 hS (vp_in_nI (by omega) (by decide)) (v := .int (e1 k)) (by rw [nI_clamp (by omega)]; rfl) dX6_hopOf_73 ?_
        refine lv_istore (lv' := [(5, .int (e1 k)), (0, .int a), (1, .int c0), (2, .int z), (3, .int (kP a c0)), (4, .int (nI k))]) hx hb dX6_hopOf_74 hl (by decide) rfl (fun ls hl => ?_)
        refine va_gets hx hb (B.2.2.2.2.2.1).1 hS hown (hts _ mw_734) (fun _ h9 => h9) dX6_hopOf_76 ?_
        refine lv_iload hx hb dX6_hopOf_79 (lv_at hl 5 rfl) ?_
        refine va_ti hx hb (B.2.2.2.2.2.1).2 hS (vp_in_nI (by omega) (by decide)) (v := .int (e2 k)) (by rw [nI_clamp (by omega)]; rfl) dX6_hopOf_81 ?_
        refine lv_istore (lv' := [(6, .int (e2 k)), (5, .int (e1 k)), (0, .int a), (1, .int c0), (2, .int z), (3, .int (kP a c0)), (4, .int (nI k))]) hx hb dX6_hopOf_82 hl (by decide) rfl (fun ls hl => ?_)
        refine lv_iload_n hx hb dX6_hopOf_84 rfl (lv_at hl 4 rfl) ?_
        refine lv_iload hx hb dX6_hopOf_85 (lv_at hl 1 rfl) ?_
        refine lv_ishr hx hb dX6_hopOf_87 ?_
        refine lv_iload_n hx hb dX6_hopOf_88 rfl (lv_at hl 4 rfl) ?_
        refine lv_iload hx hb dX6_hopOf_89 (lv_at hl 0 rfl) ?_
        refine lv_ishr hx hb dX6_hopOf_91 ?_
        refine lv_ixor hx hb dX6_hopOf_92 ?_
        refine lv_iconst (v := 1) hx hb dX6_hopOf_93 (by decide) ?_
        refine lv_iand hx hb dX6_hopOf_94 ?_
        refine lv_iconst (v := 1) hx hb dX6_hopOf_95 (by decide) ?_
        refine lv_icmp_ne (tgt := 103) hx hb dX6_hopOf_96 (by decide) (fun c4 => ?_) (fun c4 => ?_)
        · skip
          refine lv_iconst (v := 0) hx hb dX6_hopOf_103 (by decide) ?_
          refine lv_istore (lv' := [(7, .int 0), (6, .int (e2 k)), (5, .int (e1 k)), (0, .int a), (1, .int c0), (2, .int z), (3, .int (kP a c0)), (4, .int (nI k))]) hx hb dX6_hopOf_104 hl (by decide) rfl (fun ls hl => ?_)
          refine lv_iload_n hx hb dX6_hopOf_106 rfl (lv_at hl 6 rfl) ?_
          refine lv_iload hx hb dX6_hopOf_107 (lv_at hl 7 rfl) ?_
          refine lv_ishr hx hb dX6_hopOf_109 ?_
          refine lv_iconst (v := 1) hx hb dX6_hopOf_110 (by decide) ?_
          refine lv_iand hx hb dX6_hopOf_111 ?_
          refine lv_iconst (v := 1) hx hb dX6_hopOf_112 (by decide) ?_
          refine lv_icmp_ne (tgt := 133) hx hb dX6_hopOf_113 (by decide) (fun c5 => ?_) (fun c5 => ?_)
          · skip
            refine lv_iinc (v := (nI (k + 1))) (lv' := [(4, .int (nI (k + 1))), (7, .int 0), (6, .int (e2 k)), (5, .int (e1 k)), (0, .int a), (1, .int c0), (2, .int z), (3, .int (kP a c0))]) hx hb dX6_hopOf_133 hl (k := 7) rfl (nI_1 k) (by decide) rfl (fun ls hl => ?_)
            refine lv_goto (tgt := 50) hx hb dX6_hopOf_136 (by decide) ?_
            exact ih (k + 1) _ _ _ ls (by omega) (by omega) (by show _ = stC (kP a c0) k (hzC (kP a c0) k (kZ a c0)); rw [← hz]; exact (if_neg (fun q => c4 q.1)).symm) hP hS (lv_sub hl [4, 5, 6, 7, 0] rfl)
          · skip
            refine lv_iload hx hb dX6_hopOf_116 (lv_at hl 0 rfl) ?_
            refine lv_if_eq (tgt := 133) hx hb dX6_hopOf_118 (by decide) (fun _ => ?_) (fun c6 => absurd c6 (by decide))
            refine lv_iinc (v := (nI (k + 1))) (lv' := [(4, .int (nI (k + 1))), (7, .int 0), (6, .int (e2 k)), (5, .int (e1 k)), (0, .int a), (1, .int c0), (2, .int z), (3, .int (kP a c0))]) hx hb dX6_hopOf_133 hl (k := 7) rfl (nI_1 k) (by decide) rfl (fun ls hl => ?_)
            refine lv_goto (tgt := 50) hx hb dX6_hopOf_136 (by decide) ?_
            exact ih (k + 1) _ _ _ ls (by omega) (by omega) (by show _ = stC (kP a c0) k (hzC (kP a c0) k (kZ a c0)); rw [← hz]; exact (if_neg (fun q => c4 q.1)).symm) hP hS (lv_sub hl [4, 5, 6, 7, 0] rfl)
        · skip
          refine lv_iconst (v := 1) hx hb dX6_hopOf_99 (by decide) ?_
          refine lv_goto (tgt := 104) hx hb dX6_hopOf_100 (by decide) ?_
          refine lv_istore (lv' := [(7, .int 1), (6, .int (e2 k)), (5, .int (e1 k)), (0, .int a), (1, .int c0), (2, .int z), (3, .int (kP a c0)), (4, .int (nI k))]) hx hb dX6_hopOf_104 hl (by decide) rfl (fun ls hl => ?_)
          refine lv_iload_n hx hb dX6_hopOf_106 rfl (lv_at hl 6 rfl) ?_
          refine lv_iload hx hb dX6_hopOf_107 (lv_at hl 7 rfl) ?_
          refine lv_ishr hx hb dX6_hopOf_109 ?_
          refine lv_iconst (v := 1) hx hb dX6_hopOf_110 (by decide) ?_
          refine lv_iand hx hb dX6_hopOf_111 ?_
          refine lv_iconst (v := 1) hx hb dX6_hopOf_112 (by decide) ?_
          refine lv_icmp_ne (tgt := 133) hx hb dX6_hopOf_113 (by decide) (fun c7 => ?_) (fun c7 => ?_)
          · skip
            refine lv_iinc (v := (nI (k + 1))) (lv' := [(4, .int (nI (k + 1))), (7, .int 1), (6, .int (e2 k)), (5, .int (e1 k)), (0, .int a), (1, .int c0), (2, .int z), (3, .int (kP a c0))]) hx hb dX6_hopOf_133 hl (k := 7) rfl (nI_1 k) (by decide) rfl (fun ls hl => ?_)
            refine lv_goto (tgt := 50) hx hb dX6_hopOf_136 (by decide) ?_
            exact ih (k + 1) _ _ _ ls (by omega) (by omega) (by show _ = stC (kP a c0) k (hzC (kP a c0) k (kZ a c0)); rw [← hz]; exact (if_neg (fun q => c7 q.2)).symm) hP hS (lv_sub hl [4, 5, 6, 7, 0] rfl)
          · skip
            refine lv_iload hx hb dX6_hopOf_116 (lv_at hl 0 rfl) ?_
            refine lv_if_eq (tgt := 133) hx hb dX6_hopOf_118 (by decide) (fun c8 => absurd c8 (by decide)) (fun _ => ?_)
            refine lv_iload_n hx hb dX6_hopOf_121 rfl (lv_at hl 5 rfl) ?_
            refine lv_iconst (v := 1) hx hb dX6_hopOf_122 (by decide) ?_
            refine lv_iload hx hb dX6_hopOf_123 (lv_at hl 2 rfl) ?_
            refine lv_ishl hx hb dX6_hopOf_125 ?_
            refine lv_iconst (v := 1) hx hb dX6_hopOf_126 (by decide) ?_
            refine lv_iload hx hb dX6_hopOf_127 (lv_at hl 1 rfl) ?_
            refine lv_ishl hx hb dX6_hopOf_129 ?_
            refine lv_ior hx hb dX6_hopOf_130 ?_
            refine lv_ixor hx hb dX6_hopOf_131 ?_
            refine lv_istore_n (lv' := [(2, .int (z ^^^ ((1 <<< (((e1 k) : Int32) &&& 31)) ||| (1 <<< (((e2 k) : Int32) &&& 31))))), (7, .int 1), (6, .int (e2 k)), (5, .int (e1 k)), (0, .int a), (1, .int c0), (3, .int (kP a c0)), (4, .int (nI k))]) hx hb dX6_hopOf_132 rfl hl (by decide) rfl (fun ls hl => ?_)
            refine lv_iinc (v := (nI (k + 1))) (lv' := [(4, .int (nI (k + 1))), (2, .int (z ^^^ ((1 <<< (((e1 k) : Int32) &&& 31)) ||| (1 <<< (((e2 k) : Int32) &&& 31))))), (7, .int 1), (6, .int (e2 k)), (5, .int (e1 k)), (0, .int a), (1, .int c0), (3, .int (kP a c0))]) hx hb dX6_hopOf_133 hl (k := 7) rfl (nI_1 k) (by decide) rfl (fun ls hl => ?_)
            refine lv_goto (tgt := 50) hx hb dX6_hopOf_136 (by decide) ?_
            exact ih (k + 1) _ _ _ ls (by omega) (by omega) (by show _ = stC (kP a c0) k (hzC (kP a c0) k (kZ a c0)); rw [← hz]; exact (if_pos ⟨c4, c7⟩).symm) hP hS (lv_sub hl [5, 6, 1, 7, 0] rfl)
  exact L 10 0 _ _ _ ls (by omega) (by omega) rfl hP hS (lv_sub hl [3, 4, 2, 1, 0] rfl)

set_option maxHeartbeats 4000000 in
set_option maxRecDepth 100000 in
theorem c_kernelOf (l : Launch) (E : hE) (ρ : Nat → Nat → Int32) (a c0 : Int32) : Met l yX7_kernelOf (.code yX7_kernelOf cX7_kernelOf 8 (some .int) :: gw_all) (rmk 0 0) (cPre E ρ [.int a, .int c0]) (cI E (fun r ρ1 => ρ = ρ1 ∧ r = KER a c0)) 0 0 (hA E) := by
  refine ent (own := RX7) (by decide) rfl (Nat.le_of_ble_eq_true rfl) ?_
  intro p e s m below meth c ls B hr hlk hl hP hS
  have hx := B.1.1
  have hb := B.1.2.1
  have hown := B.1.2.2.2.1
  have hts := B.1.2.2.2.2
  have hl : lv_has ls 8 [(0, .int a), (1, .int c0)] := hl
  refine lv_iload_n hx hb dX7_kernelOf_0 rfl (lv_at hl 0 rfl) ?_
  refine lv_bipush (v := 31) hx hb dX7_kernelOf_1 (by decide) ?_
  refine lv_iand hx hb dX7_kernelOf_3 ?_
  refine lv_iload_n hx hb dX7_kernelOf_4 rfl (lv_at hl 1 rfl) ?_
  refine lv_bipush (v := 31) hx hb dX7_kernelOf_5 (by decide) ?_
  refine lv_iand hx hb dX7_kernelOf_7 ?_
  refine lv_iadd hx hb dX7_kernelOf_8 ?_
  refine lv_bipush (v := 31) hx hb dX7_kernelOf_9 (by decide) ?_
  refine lv_iand hx hb dX7_kernelOf_11 ?_
  refine lv_istore_n (lv' := [(2, .int (((a &&& 31) + (c0 &&& 31)) &&& 31)), (0, .int a), (1, .int c0)]) hx hb dX7_kernelOf_12 rfl hl (by decide) rfl (fun ls hl => ?_)
  refine lv_iload_n hx hb dX7_kernelOf_13 rfl (lv_at hl 0 rfl) ?_
  refine lv_iload_n hx hb dX7_kernelOf_14 rfl (lv_at hl 1 rfl) ?_
  refine lv_iconst (v := 5) hx hb dX7_kernelOf_15 (by decide) ?_
  refine lv_ishr hx hb dX7_kernelOf_16 ?_
  refine lv_bipush (v := 31) hx hb dX7_kernelOf_17 (by decide) ?_
  refine lv_iand hx hb dX7_kernelOf_19 ?_
  refine lv_iload_n hx hb dX7_kernelOf_20 rfl (lv_at hl 2 rfl) ?_
  refine lv_bipush (v := 7) hx hb dX7_kernelOf_21 (by decide) ?_
  refine lv_ishr hx hb dX7_kernelOf_23 ?_
  refine lv_bipush (v := 31) hx hb dX7_kernelOf_24 (by decide) ?_
  refine lv_iand hx hb dX7_kernelOf_26 ?_
  refine lv_ixor hx hb dX7_kernelOf_27 ?_
  refine lv_ixor hx hb dX7_kernelOf_28 ?_
  refine lv_istore_n (lv' := [(2, .int ((((a &&& 31) + (c0 &&& 31)) &&& 31) ^^^ (((a >>> ((5 : Int32) &&& 31)) &&& 31) ^^^ ((c0 >>> ((7 : Int32) &&& 31)) &&& 31)))), (0, .int a), (1, .int c0)]) hx hb dX7_kernelOf_29 rfl hl (by decide) rfl (fun ls hl => ?_)
  refine lv_iload_n hx hb dX7_kernelOf_30 rfl (lv_at hl 1 rfl) ?_
  refine lv_bipush (v := 10) hx hb dX7_kernelOf_31 (by decide) ?_
  refine lv_ishr hx hb dX7_kernelOf_33 ?_
  refine lv_sipush (v := 511) hx hb dX7_kernelOf_34 (by decide) ?_
  refine lv_iand hx hb dX7_kernelOf_37 ?_
  refine lv_iload_n hx hb dX7_kernelOf_38 rfl (lv_at hl 2 rfl) ?_
  refine lv_iconst (v := 5) hx hb dX7_kernelOf_39 (by decide) ?_
  refine lv_ishr hx hb dX7_kernelOf_40 ?_
  refine lv_sipush (v := 511) hx hb dX7_kernelOf_41 (by decide) ?_
  refine lv_iand hx hb dX7_kernelOf_44 ?_
  refine lv_ixor hx hb dX7_kernelOf_45 ?_
  refine lv_istore_n (lv' := [(3, .int (((a >>> ((10 : Int32) &&& 31)) &&& 511) ^^^ ((c0 >>> ((5 : Int32) &&& 31)) &&& 511))), (2, .int ((((a &&& 31) + (c0 &&& 31)) &&& 31) ^^^ (((a >>> ((5 : Int32) &&& 31)) &&& 31) ^^^ ((c0 >>> ((7 : Int32) &&& 31)) &&& 31)))), (0, .int a), (1, .int c0)]) hx hb dX7_kernelOf_46 rfl hl (by decide) rfl (fun ls hl => ?_)
  refine lv_iconst (v := 0) hx hb dX7_kernelOf_47 (by decide) ?_
  refine lv_istore (lv' := [(4, .int 0), (3, .int (((a >>> ((10 : Int32) &&& 31)) &&& 511) ^^^ ((c0 >>> ((5 : Int32) &&& 31)) &&& 511))), (2, .int ((((a &&& 31) + (c0 &&& 31)) &&& 31) ^^^ (((a >>> ((5 : Int32) &&& 31)) &&& 31) ^^^ ((c0 >>> ((7 : Int32) &&& 31)) &&& 31)))), (0, .int a), (1, .int c0)]) hx hb dX7_kernelOf_48 hl (by decide) rfl (fun ls hl => ?_)
  have L : ∀ (d k : Nat) (z : Int32) (H : Heap) (locs : List Loc) (ls : Array Slot), k ≤ 9 → 9 - k < d → z = hzM (kP a c0) k (kZM a c0) → WP E ρ H → va_S (hA E) s.heap H locs → lv_has ls 8 [(0, .int a), (1, .int c0), (2, .int z), (3, .int (kP a c0)), (4, .int (nI k))] → W p l e (rmk 0 0) s m ([.int a, .int c0] : List Value).toArray below meth c H locs 0 0 (MQ below (cI E (fun r ρ1 => ρ = ρ1 ∧ r = KER a c0)) ([.int a, .int c0] : List Value).toArray s 0 0 (hA E)) (F0 m 50 ls []) := by
    intro d
    induction d with
    | zero => intro k z H locs ls h1 h2; exact absurd h2 (by omega)
    | succ d ih =>
      intro k z H locs ls hk9 hd hz hP hS hl
      refine lv_iload hx hb dX7_kernelOf_50 (lv_at hl 4 rfl) ?_
      refine lv_bipush (v := 9) hx hb dX7_kernelOf_52 (by decide) ?_
      refine lv_icmp_ge (tgt := 134) hx hb dX7_kernelOf_54 (by decide) (fun c1 => ?_) (fun c1 => ?_)
      · skip
        have hk : k = 9 := by have := (nI_leI (a := 9) (b := k) (by decide) (by omega)).mp c1; omega
        subst hk
        refine lv_iload_n hx hb dX7_kernelOf_134 rfl (lv_at hl 2 rfl) ?_
        refine lv_iload_n hx hb dX7_kernelOf_135 rfl (lv_at hl 0 rfl) ?_
        refine lv_bipush (v := 19) hx hb dX7_kernelOf_136 (by decide) ?_
        refine lv_ishr hx hb dX7_kernelOf_138 ?_
        refine lv_bipush (v := 31) hx hb dX7_kernelOf_139 (by decide) ?_
        refine lv_iand hx hb dX7_kernelOf_141 ?_
        refine lv_iadd hx hb dX7_kernelOf_142 ?_
        refine lv_bipush (v := 13) hx hb dX7_kernelOf_143 (by decide) ?_
        refine lv_iload_n hx hb dX7_kernelOf_145 rfl (lv_at hl 1 rfl) ?_
        refine lv_iconst (v := 1) hx hb dX7_kernelOf_146 (by decide) ?_
        refine lv_iand hx hb dX7_kernelOf_147 ?_
        refine lv_imul hx hb dX7_kernelOf_148 ?_
        refine lv_iadd hx hb dX7_kernelOf_149 ?_
        refine lv_bipush (v := 23) hx hb dX7_kernelOf_150 (by decide) ?_
        refine lv_irem hx hb dX7_kernelOf_152 (by decide) ?_
        exact ret_i B hr hlk hP hS dX7_kernelOf_153 (⟨rfl, by unfold KER rem23; rw [← hz]⟩)
      · skip
        have hk : k < 9 := Nat.not_le.mp (fun z => c1 ((nI_leI (a := 9) (b := k) (by decide) (by omega)).mpr z))
        refine va_gets hx hb (B.2.2.2.2.2.2).1 hS hown (hts _ mw_1117) (fun _ h9 => h9) dX7_kernelOf_57 ?_
        refine lv_iconst (v := 2) hx hb dX7_kernelOf_60 (by decide) ?_
        refine lv_iload hx hb dX7_kernelOf_61 (lv_at hl 4 rfl) ?_
        refine lv_imul hx hb dX7_kernelOf_63 ?_
        rw [(show (2 * (nI k)) = nI (2 * k) from (by rw [show (2 : Int32) = nI 2 from rfl, pk_mul]))]
        refine va_ti hx hb (B.2.2.2.2.2.2).2 hS (vp_in_nI (by omega) (by decide)) (v := .int (q1 k)) (by rw [nI_clamp (by omega)]; rfl) dX7_kernelOf_64 ?_
        refine lv_istore (lv' := [(5, .int (q1 k)), (0, .int a), (1, .int c0), (2, .int z), (3, .int (kP a c0)), (4, .int (nI k))]) hx hb dX7_kernelOf_65 hl (by decide) rfl (fun ls hl => ?_)
        refine va_gets hx hb (B.2.2.2.2.2.2).1 hS hown (hts _ mw_1117) (fun _ h9 => h9) dX7_kernelOf_67 ?_
        refine lv_iconst (v := 2) hx hb dX7_kernelOf_70 (by decide) ?_
        refine lv_iload hx hb dX7_kernelOf_71 (lv_at hl 5 rfl) ?_
        refine lv_imul hx hb dX7_kernelOf_73 ?_
        refine lv_iconst (v := 1) hx hb dX7_kernelOf_74 (by decide) ?_
        refine lv_iadd hx hb dX7_kernelOf_75 ?_
        rw [(show ((2 * (nI k)) + 1) = nI (2 * k + 1) from (by rw [show (2 : Int32) = nI 2 from rfl, pk_mul]; exact nI_1 _))]
        refine va_ti hx hb (B.2.2.2.2.2.2).2 hS (vp_in_nI (by omega) (by decide)) (v := .int (q2 k)) (by rw [nI_clamp (by omega)]; rfl) dX7_kernelOf_76 ?_
        refine lv_istore (lv' := [(6, .int (q2 k)), (5, .int (q1 k)), (0, .int a), (1, .int c0), (2, .int z), (3, .int (kP a c0)), (4, .int (nI k))]) hx hb dX7_kernelOf_77 hl (by decide) rfl (fun ls hl => ?_)
        refine lv_iload_n hx hb dX7_kernelOf_79 rfl (lv_at hl 4 rfl) ?_
        refine lv_iload hx hb dX7_kernelOf_80 (lv_at hl 1 rfl) ?_
        refine lv_ishr hx hb dX7_kernelOf_82 ?_
        refine lv_iconst (v := 1) hx hb dX7_kernelOf_83 (by decide) ?_
        refine lv_iand hx hb dX7_kernelOf_84 ?_
        refine lv_iload_n hx hb dX7_kernelOf_85 rfl (lv_at hl 4 rfl) ?_
        refine lv_iload hx hb dX7_kernelOf_86 (lv_at hl 0 rfl) ?_
        refine lv_ishr hx hb dX7_kernelOf_88 ?_
        refine lv_iconst (v := 1) hx hb dX7_kernelOf_89 (by decide) ?_
        refine lv_iand hx hb dX7_kernelOf_90 ?_
        refine lv_icmp_eq (tgt := 98) hx hb dX7_kernelOf_91 (by decide) (fun c2 => ?_) (fun c2 => ?_)
        · skip
          refine lv_iconst (v := 0) hx hb dX7_kernelOf_98 (by decide) ?_
          refine lv_istore (lv' := [(7, .int 0), (6, .int (q2 k)), (5, .int (q1 k)), (0, .int a), (1, .int c0), (2, .int z), (3, .int (kP a c0)), (4, .int (nI k))]) hx hb dX7_kernelOf_99 hl (by decide) rfl (fun ls hl => ?_)
          refine lv_iload_n hx hb dX7_kernelOf_101 rfl (lv_at hl 6 rfl) ?_
          refine lv_iload hx hb dX7_kernelOf_102 (lv_at hl 7 rfl) ?_
          refine lv_ishr hx hb dX7_kernelOf_104 ?_
          refine lv_iconst (v := 1) hx hb dX7_kernelOf_105 (by decide) ?_
          refine lv_iand hx hb dX7_kernelOf_106 ?_
          refine lv_iconst (v := 1) hx hb dX7_kernelOf_107 (by decide) ?_
          refine lv_icmp_ne (tgt := 128) hx hb dX7_kernelOf_108 (by decide) (fun c3 => ?_) (fun c3 => ?_)
          · skip
            refine lv_iinc (v := (nI (k + 1))) (lv' := [(4, .int (nI (k + 1))), (7, .int 0), (6, .int (q2 k)), (5, .int (q1 k)), (0, .int a), (1, .int c0), (2, .int z), (3, .int (kP a c0))]) hx hb dX7_kernelOf_128 hl (k := 7) rfl (nI_1 k) (by decide) rfl (fun ls hl => ?_)
            refine lv_goto (tgt := 50) hx hb dX7_kernelOf_131 (by decide) ?_
            exact ih (k + 1) _ _ _ ls (by omega) (by omega) (by show _ = stM (kP a c0) k (hzM (kP a c0) k (kZM a c0)); rw [← hz]; exact (if_neg (fun q => q.1 c2)).symm) hP hS (lv_sub hl [4, 5, 6, 7, 0] rfl)
          · skip
            refine lv_iload hx hb dX7_kernelOf_111 (lv_at hl 0 rfl) ?_
            refine lv_if_eq (tgt := 128) hx hb dX7_kernelOf_113 (by decide) (fun _ => ?_) (fun c4 => absurd c4 (by decide))
            refine lv_iinc (v := (nI (k + 1))) (lv' := [(4, .int (nI (k + 1))), (7, .int 0), (6, .int (q2 k)), (5, .int (q1 k)), (0, .int a), (1, .int c0), (2, .int z), (3, .int (kP a c0))]) hx hb dX7_kernelOf_128 hl (k := 7) rfl (nI_1 k) (by decide) rfl (fun ls hl => ?_)
            refine lv_goto (tgt := 50) hx hb dX7_kernelOf_131 (by decide) ?_
            exact ih (k + 1) _ _ _ ls (by omega) (by omega) (by show _ = stM (kP a c0) k (hzM (kP a c0) k (kZM a c0)); rw [← hz]; exact (if_neg (fun q => q.1 c2)).symm) hP hS (lv_sub hl [4, 5, 6, 7, 0] rfl)
        · skip
          refine lv_iconst (v := 1) hx hb dX7_kernelOf_94 (by decide) ?_
          refine lv_goto (tgt := 99) hx hb dX7_kernelOf_95 (by decide) ?_
          refine lv_istore (lv' := [(7, .int 1), (6, .int (q2 k)), (5, .int (q1 k)), (0, .int a), (1, .int c0), (2, .int z), (3, .int (kP a c0)), (4, .int (nI k))]) hx hb dX7_kernelOf_99 hl (by decide) rfl (fun ls hl => ?_)
          refine lv_iload_n hx hb dX7_kernelOf_101 rfl (lv_at hl 6 rfl) ?_
          refine lv_iload hx hb dX7_kernelOf_102 (lv_at hl 7 rfl) ?_
          refine lv_ishr hx hb dX7_kernelOf_104 ?_
          refine lv_iconst (v := 1) hx hb dX7_kernelOf_105 (by decide) ?_
          refine lv_iand hx hb dX7_kernelOf_106 ?_
          refine lv_iconst (v := 1) hx hb dX7_kernelOf_107 (by decide) ?_
          refine lv_icmp_ne (tgt := 128) hx hb dX7_kernelOf_108 (by decide) (fun c5 => ?_) (fun c5 => ?_)
          · skip
            refine lv_iinc (v := (nI (k + 1))) (lv' := [(4, .int (nI (k + 1))), (7, .int 1), (6, .int (q2 k)), (5, .int (q1 k)), (0, .int a), (1, .int c0), (2, .int z), (3, .int (kP a c0))]) hx hb dX7_kernelOf_128 hl (k := 7) rfl (nI_1 k) (by decide) rfl (fun ls hl => ?_)
            refine lv_goto (tgt := 50) hx hb dX7_kernelOf_131 (by decide) ?_
            exact ih (k + 1) _ _ _ ls (by omega) (by omega) (by show _ = stM (kP a c0) k (hzM (kP a c0) k (kZM a c0)); rw [← hz]; exact (if_neg (fun q => c5 q.2)).symm) hP hS (lv_sub hl [4, 5, 6, 7, 0] rfl)
          · skip
            refine lv_iload hx hb dX7_kernelOf_111 (lv_at hl 0 rfl) ?_
            refine lv_if_eq (tgt := 128) hx hb dX7_kernelOf_113 (by decide) (fun c6 => absurd c6 (by decide)) (fun _ => ?_)
            refine lv_iload_n hx hb dX7_kernelOf_116 rfl (lv_at hl 5 rfl) ?_
            refine lv_iconst (v := 1) hx hb dX7_kernelOf_117 (by decide) ?_
            refine lv_iload hx hb dX7_kernelOf_118 (lv_at hl 2 rfl) ?_
            refine lv_ishl hx hb dX7_kernelOf_120 ?_
            refine lv_iconst (v := 1) hx hb dX7_kernelOf_121 (by decide) ?_
            refine lv_iload hx hb dX7_kernelOf_122 (lv_at hl 1 rfl) ?_
            refine lv_ishl hx hb dX7_kernelOf_124 ?_
            refine lv_ior hx hb dX7_kernelOf_125 ?_
            refine lv_ixor hx hb dX7_kernelOf_126 ?_
            refine lv_istore_n (lv' := [(2, .int (z ^^^ ((1 <<< (((q1 k) : Int32) &&& 31)) ||| (1 <<< (((q2 k) : Int32) &&& 31))))), (7, .int 1), (6, .int (q2 k)), (5, .int (q1 k)), (0, .int a), (1, .int c0), (3, .int (kP a c0)), (4, .int (nI k))]) hx hb dX7_kernelOf_127 rfl hl (by decide) rfl (fun ls hl => ?_)
            refine lv_iinc (v := (nI (k + 1))) (lv' := [(4, .int (nI (k + 1))), (2, .int (z ^^^ ((1 <<< (((q1 k) : Int32) &&& 31)) ||| (1 <<< (((q2 k) : Int32) &&& 31))))), (7, .int 1), (6, .int (q2 k)), (5, .int (q1 k)), (0, .int a), (1, .int c0), (3, .int (kP a c0))]) hx hb dX7_kernelOf_128 hl (k := 7) rfl (nI_1 k) (by decide) rfl (fun ls hl => ?_)
            refine lv_goto (tgt := 50) hx hb dX7_kernelOf_131 (by decide) ?_
            exact ih (k + 1) _ _ _ ls (by omega) (by omega) (by show _ = stM (kP a c0) k (hzM (kP a c0) k (kZM a c0)); rw [← hz]; exact (if_pos ⟨c2, c5⟩).symm) hP hS (lv_sub hl [5, 6, 1, 7, 0] rfl)
  exact L 10 0 _ _ _ ls (by omega) (by omega) rfl hP hS (lv_sub hl [3, 4, 2, 1, 0] rfl)

theorem lk_RX6_224 : LkS RX6 224 yX6_hopOf cX6_hopOf 8 (some .int) 2 := ⟨⟨mw_850, mw_730, mw_52, mw_731⟩, by decide +kernel⟩
set_option maxHeartbeats 4000000 in
set_option maxRecDepth 100000 in
theorem c_kernel (l : Launch) (E : hE) (a1 a2 : Int32) : Met l yX6_kernel (.code yX6_kernel cX6_kernel 3 (some .int) :: gw_all) (rmk 4 160) (cPre E r0 [.ref (E.2.1 + 0), .int a1, .int a2]) (cI E (fun r ρ1 => (((iR a1 0 268435455 ∧ iR a2 0 999999) ∧ r = HOP a1 a2) ∨ (¬ (iR a1 0 268435455 ∧ iR a2 0 999999) ∧ r = -1)) ∧ ∀ k, 1076 ≤ k → ρ1 k = r0 k)) 0 0 (hA E) := by
  refine ent (own := RX6) (by decide) rfl (Nat.le_of_ble_eq_true rfl) ?_
  intro p e s m below meth c ls B hr hlk hl hP hS
  have hx := B.1.1
  have hb := B.1.2.1
  have hown := B.1.2.2.2.1
  have hts := B.1.2.2.2.2
  have hl : lv_has ls 3 [(0, .ref (E.2.1 + 0)), (1, .int a1), (2, .int a2)] := hl
  refine lv_iload_n hx hb dX6_kernel_0 rfl (lv_at hl 1 rfl) ?_
  refine lv_iconst (v := 0) hx hb dX6_kernel_1 (by decide) ?_
  refine lv_ldc (v := 268435455) hx hb hown (hts _ mw_454) dX6_kernel_2 ?_
  refine call_i (cS (av := [.int a1, .int 0, .int 268435455]) (rest := []) B hP hS (c_isWithin l E r0 a1 0 268435455 0 268435455 (by decide) (by decide)) lk_RX6_54 rfl rfl hl.1 (Nat.le_of_ble_eq_true rfl) ⟨Nat.le_of_ble_eq_true rfl, Nat.le_of_ble_eq_true rfl⟩ ⟨Nat.le_of_ble_eq_true rfl, Nat.le_of_ble_eq_true rfl⟩ dX6_kernel_4) hS (fun r1 ρ2 H locs q3 hP hS => ?_)
  obtain ⟨rfl, q3⟩ := q3
  rcases q3 with ⟨rfl, q3⟩ | ⟨rfl, q3⟩
  · skip
    refine lv_if_eq (tgt := 20) hx hb dX6_kernel_7 (by decide) (fun c4 => absurd c4 (by decide)) (fun _ => ?_)
    refine lv_iload_n hx hb dX6_kernel_10 rfl (lv_at hl 2 rfl) ?_
    refine lv_iconst (v := 0) hx hb dX6_kernel_11 (by decide) ?_
    refine lv_ldc (v := 999999) hx hb hown (hts _ mw_849) dX6_kernel_12 ?_
    refine call_i (cS (av := [.int a2, .int 0, .int 999999]) (rest := []) B hP hS (c_isWithin l E r0 a2 0 999999 0 999999 (by decide) (by decide)) lk_RX6_54 rfl rfl hl.1 (Nat.le_of_ble_eq_true rfl) ⟨Nat.le_of_ble_eq_true rfl, Nat.le_of_ble_eq_true rfl⟩ ⟨Nat.le_of_ble_eq_true rfl, Nat.le_of_ble_eq_true rfl⟩ dX6_kernel_14) hS (fun r5 ρ6 H locs q7 hP hS => ?_)
    obtain ⟨rfl, q7⟩ := q7
    rcases q7 with ⟨rfl, q7⟩ | ⟨rfl, q7⟩
    · skip
      refine lv_if_ne (tgt := 22) hx hb dX6_kernel_17 (by decide) (fun _ => ?_) (fun c8 => absurd c8 (by decide))
      refine lv_iload_n hx hb dX6_kernel_22 rfl (lv_at hl 1 rfl) ?_
      refine lv_iload_n hx hb dX6_kernel_23 rfl (lv_at hl 2 rfl) ?_
      refine call_i (cS (av := [.int a1, .int a2]) (rest := []) B hP hS (c_hopOf l E r0 a1 a2) lk_RX6_224 rfl rfl hl.1 (Nat.le_of_ble_eq_true rfl) ⟨Nat.le_of_ble_eq_true rfl, Nat.le_of_ble_eq_true rfl⟩ ⟨Nat.le_of_ble_eq_true rfl, Nat.le_of_ble_eq_true rfl⟩ dX6_kernel_24) hS (fun r9 ρ10 H locs q11 hP hS => ?_)
      obtain ⟨rfl, rfl⟩ := q11
      exact ret_i B hr hlk hP hS dX6_kernel_27 (⟨Or.inl ⟨⟨q3, q7⟩, rfl⟩, fun _ _ => rfl⟩)
    · skip
      refine lv_if_ne (tgt := 22) hx hb dX6_kernel_17 (by decide) (fun c12 => absurd c12 (by decide)) (fun _ => ?_)
      refine lv_iconst (v := (-1)) hx hb dX6_kernel_20 (by decide) ?_
      exact ret_i B hr hlk hP hS dX6_kernel_21 (⟨Or.inr ⟨fun z => q7 z.2, rfl⟩, fun _ _ => rfl⟩)
  · skip
    refine lv_if_eq (tgt := 20) hx hb dX6_kernel_7 (by decide) (fun _ => ?_) (fun c13 => absurd c13 (by decide))
    refine lv_iconst (v := (-1)) hx hb dX6_kernel_20 (by decide) ?_
    exact ret_i B hr hlk hP hS dX6_kernel_21 (⟨Or.inr ⟨fun z => q3 z.1, rfl⟩, fun _ _ => rfl⟩)

theorem lk_RX7_96 : LkS RX7 96 yX7_kernelOf cX7_kernelOf 8 (some .int) 2 := ⟨⟨mw_1114, mw_1115, mw_59, mw_1116⟩, by decide +kernel⟩
set_option maxHeartbeats 4000000 in
set_option maxRecDepth 100000 in
theorem c_mkernel (l : Launch) (E : hE) (ρ : Nat → Nat → Int32) (a1 a2 : Int32) (hM : MF ρ) : Met l yX7_kernel (.code yX7_kernel cX7_kernel 3 (some .int) :: gw_all) (rmk 5 200) (cPre E ρ [.ref (E.2.1 + 1076), .int a1, .int a2]) (cI E (fun r _ => ((iR a1 0 268435455 ∧ iR a2 0 999999) ∧ r = KER a1 a2) ∨ (¬ (iR a1 0 268435455 ∧ iR a2 0 999999) ∧ r = -1))) 0 0 (hA E) := by
  refine ent (own := RX7) (by decide) rfl (Nat.le_of_ble_eq_true rfl) ?_
  intro p e s m below meth c ls B hr hlk hl hP hS
  have hx := B.1.1
  have hb := B.1.2.1
  have hown := B.1.2.2.2.1
  have hts := B.1.2.2.2.2
  have hl : lv_has ls 3 [(0, .ref (E.2.1 + 1076)), (1, .int a1), (2, .int a2)] := hl
  refine lv_aload_n hx hb dX7_kernel_0 rfl (lv_at hl 0 rfl) ?_
  refine lv_iconst (v := 0) hx hb dX7_kernel_1 (by decide) ?_
  refine put7 B hP hS (by decide +kernel) 0 (by decide) mw_1027 rfl rfl rfl (fs7_0 E 1076 _ _) dX7_kernel_2 (fun H locs hP hS => ?_)
  rw [up_self ρ ((congrFun (hM 1076 (by decide)) 0).trans (show r0 1076 0 = 0 by decide +kernel))] at hP
  refine lv_iload_n hx hb dX7_kernel_5 rfl (lv_at hl 1 rfl) ?_
  refine lv_i2l hx hb dX7_kernel_6 rfl ?_
  refine lv_lconst (v := 0) hx hb dX7_kernel_7 (by decide) ?_
  refine lv_ldc2 (v := 268435455) hx hb hown (hts _ mw_1112) dX7_kernel_8 ?_
  refine call_i (cS (av := [.long a1.toInt64, .long 0, .long 268435455]) (rest := []) B hP hS (c_in l E ρ a1.toInt64 0 268435455 0 268435455 (by decide) (by decide)) lk_RX7_71 rfl rfl hl.1 (Nat.le_of_ble_eq_true rfl) ⟨Nat.le_of_ble_eq_true rfl, Nat.le_of_ble_eq_true rfl⟩ ⟨Nat.le_of_ble_eq_true rfl, Nat.le_of_ble_eq_true rfl⟩ dX7_kernel_11) hS (fun r1 ρ2 H locs q3 hP hS => ?_)
  obtain ⟨rfl, q3⟩ := q3
  rw [lR_i] at q3
  rcases q3 with ⟨rfl, q3⟩ | ⟨rfl, q3⟩
  · skip
    refine lv_if_eq (tgt := 37) hx hb dX7_kernel_14 (by decide) (fun c4 => absurd c4 (by decide)) (fun _ => ?_)
    refine lv_iload_n hx hb dX7_kernel_17 rfl (lv_at hl 2 rfl) ?_
    refine lv_i2l hx hb dX7_kernel_18 rfl ?_
    refine lv_lconst (v := 0) hx hb dX7_kernel_19 (by decide) ?_
    refine lv_ldc2 (v := 999999) hx hb hown (hts _ mw_1113) dX7_kernel_20 ?_
    refine call_i (cS (av := [.long a2.toInt64, .long 0, .long 999999]) (rest := []) B hP hS (c_in l E ρ a2.toInt64 0 999999 0 999999 (by decide) (by decide)) lk_RX7_71 rfl rfl hl.1 (Nat.le_of_ble_eq_true rfl) ⟨Nat.le_of_ble_eq_true rfl, Nat.le_of_ble_eq_true rfl⟩ ⟨Nat.le_of_ble_eq_true rfl, Nat.le_of_ble_eq_true rfl⟩ dX7_kernel_23) hS (fun r5 ρ6 H locs q7 hP hS => ?_)
    obtain ⟨rfl, q7⟩ := q7
    rw [lR_i] at q7
    rcases q7 with ⟨rfl, q7⟩ | ⟨rfl, q7⟩
    · skip
      refine lv_if_eq (tgt := 37) hx hb dX7_kernel_26 (by decide) (fun c8 => absurd c8 (by decide)) (fun _ => ?_)
      refine lv_iload_n hx hb dX7_kernel_29 rfl (lv_at hl 1 rfl) ?_
      refine lv_iload_n hx hb dX7_kernel_30 rfl (lv_at hl 2 rfl) ?_
      refine call_i (cS (av := [.int a1, .int a2]) (rest := []) B hP hS (c_kernelOf l E ρ a1 a2) lk_RX7_96 rfl rfl hl.1 (Nat.le_of_ble_eq_true rfl) ⟨Nat.le_of_ble_eq_true rfl, Nat.le_of_ble_eq_true rfl⟩ ⟨Nat.le_of_ble_eq_true rfl, Nat.le_of_ble_eq_true rfl⟩ dX7_kernel_31) hS (fun r9 ρ10 H locs q11 hP hS => ?_)
      obtain ⟨rfl, rfl⟩ := q11
      refine lv_goto (tgt := 38) hx hb dX7_kernel_34 (by decide) ?_
      exact ret_i B hr hlk hP hS dX7_kernel_38 (Or.inl ⟨⟨q3, q7⟩, rfl⟩)
    · skip
      refine lv_if_eq (tgt := 37) hx hb dX7_kernel_26 (by decide) (fun _ => ?_) (fun c12 => absurd c12 (by decide))
      refine lv_iconst (v := (-1)) hx hb dX7_kernel_37 (by decide) ?_
      exact ret_i B hr hlk hP hS dX7_kernel_38 (Or.inr ⟨fun z => q7 z.2, rfl⟩)
  · skip
    refine lv_if_eq (tgt := 37) hx hb dX7_kernel_14 (by decide) (fun _ => ?_) (fun c13 => absurd c13 (by decide))
    refine lv_iconst (v := (-1)) hx hb dX7_kernel_37 (by decide) ?_
    exact ret_i B hr hlk hP hS dX7_kernel_38 (Or.inr ⟨fun z => q3 z.1, rfl⟩)

set_option maxHeartbeats 4000000 in
set_option maxRecDepth 100000 in
theorem c_bitCount (l : Launch) (E : hE) (ρ : Nat → Nat → Int32) (X : Nat) (hX : X < 8388608) : Met l yJ6_bitCount_0f7a4 (.code yJ6_bitCount_0f7a4 cJ6_bitCount_0f7a4 1 (some .int) :: gw_all) (rmk 0 0) (cPre E ρ [.int (nI X)]) (cI E (fun r ρ1 => ρ = ρ1 ∧ r = nI (pcc X))) 0 0 (hA E) := by
  refine ent (own := RJ6) (by decide) rfl (Nat.le_of_ble_eq_true rfl) ?_
  intro p e s m below meth c ls B hr hlk hl hP hS
  have hx := B.1.1
  have hb := B.1.2.1
  have hown := B.1.2.2.2.1
  have hts := B.1.2.2.2.2
  have hl : lv_has ls 1 [(0, .int (nI X))] := hl
  refine lv_iload_n hx hb dJ6_bitCount_0f7a4_0 rfl (lv_at hl 0 rfl) ?_
  refine lv_iload_n hx hb dJ6_bitCount_0f7a4_1 rfl (lv_at hl 0 rfl) ?_
  refine lv_iconst (v := 1) hx hb dJ6_bitCount_0f7a4_2 (by decide) ?_
  refine lv_iushr hx hb dJ6_bitCount_0f7a4_3 rfl ?_
  refine lv_ldcw (v := 1431655765) hx hb hown (hts _ mw_614) dJ6_bitCount_0f7a4_4 ?_
  refine lv_iand hx hb dJ6_bitCount_0f7a4_7 ?_
  refine lv_isub hx hb dJ6_bitCount_0f7a4_8 ?_
  refine lv_topi (fun z1 ez1 => ?_)
  obtain rfl : z1 = (nI (w1 X)) := ez1.trans (bc1 hX)
  refine lv_istore_n (lv' := [(0, .int (nI (w1 X)))]) hx hb dJ6_bitCount_0f7a4_9 rfl hl (by decide) rfl (fun ls hl => ?_)
  refine lv_iload_n hx hb dJ6_bitCount_0f7a4_10 rfl (lv_at hl 0 rfl) ?_
  refine lv_ldcw (v := 858993459) hx hb hown (hts _ mw_615) dJ6_bitCount_0f7a4_11 ?_
  refine lv_iand hx hb dJ6_bitCount_0f7a4_14 ?_
  refine lv_iload_n hx hb dJ6_bitCount_0f7a4_15 rfl (lv_at hl 0 rfl) ?_
  refine lv_iconst (v := 2) hx hb dJ6_bitCount_0f7a4_16 (by decide) ?_
  refine lv_iushr hx hb dJ6_bitCount_0f7a4_17 rfl ?_
  refine lv_ldcw (v := 858993459) hx hb hown (hts _ mw_615) dJ6_bitCount_0f7a4_18 ?_
  refine lv_iand hx hb dJ6_bitCount_0f7a4_21 ?_
  refine lv_iadd hx hb dJ6_bitCount_0f7a4_22 ?_
  refine lv_topi (fun z2 ez2 => ?_)
  obtain rfl : z2 = (nI (w2 (w1 X))) := ez2.trans (bc2 (w_all hX).2.1)
  refine lv_istore_n (lv' := [(0, .int (nI (w2 (w1 X))))]) hx hb dJ6_bitCount_0f7a4_23 rfl hl (by decide) rfl (fun ls hl => ?_)
  refine lv_iload_n hx hb dJ6_bitCount_0f7a4_24 rfl (lv_at hl 0 rfl) ?_
  refine lv_iload_n hx hb dJ6_bitCount_0f7a4_25 rfl (lv_at hl 0 rfl) ?_
  refine lv_iconst (v := 4) hx hb dJ6_bitCount_0f7a4_26 (by decide) ?_
  refine lv_iushr hx hb dJ6_bitCount_0f7a4_27 rfl ?_
  refine lv_iadd hx hb dJ6_bitCount_0f7a4_28 ?_
  refine lv_ldcw (v := 252645135) hx hb hown (hts _ mw_616) dJ6_bitCount_0f7a4_29 ?_
  refine lv_iand hx hb dJ6_bitCount_0f7a4_32 ?_
  refine lv_topi (fun z3 ez3 => ?_)
  obtain rfl : z3 = (nI (w3 (w2 (w1 X)))) := ez3.trans (bc3 (w_all hX).2.2)
  refine lv_istore_n (lv' := [(0, .int (nI (w3 (w2 (w1 X)))))]) hx hb dJ6_bitCount_0f7a4_33 rfl hl (by decide) rfl (fun ls hl => ?_)
  refine lv_iload_n hx hb dJ6_bitCount_0f7a4_34 rfl (lv_at hl 0 rfl) ?_
  refine lv_iload_n hx hb dJ6_bitCount_0f7a4_35 rfl (lv_at hl 0 rfl) ?_
  refine lv_bipush (v := 8) hx hb dJ6_bitCount_0f7a4_36 (by decide) ?_
  refine lv_iushr hx hb dJ6_bitCount_0f7a4_38 rfl ?_
  refine lv_iadd hx hb dJ6_bitCount_0f7a4_39 ?_
  refine lv_topi (fun z4 ez4 => ?_)
  obtain rfl : z4 = (nI (w3 (w2 (w1 X)) + w3 (w2 (w1 X)) / 256)) := ez4.trans (bc4 (by have := bc_lt hX; omega))
  refine lv_istore_n (lv' := [(0, .int (nI (w3 (w2 (w1 X)) + w3 (w2 (w1 X)) / 256)))]) hx hb dJ6_bitCount_0f7a4_40 rfl hl (by decide) rfl (fun ls hl => ?_)
  refine lv_iload_n hx hb dJ6_bitCount_0f7a4_41 rfl (lv_at hl 0 rfl) ?_
  refine lv_iload_n hx hb dJ6_bitCount_0f7a4_42 rfl (lv_at hl 0 rfl) ?_
  refine lv_bipush (v := 16) hx hb dJ6_bitCount_0f7a4_43 (by decide) ?_
  refine lv_iushr hx hb dJ6_bitCount_0f7a4_45 rfl ?_
  refine lv_iadd hx hb dJ6_bitCount_0f7a4_46 ?_
  refine lv_topi (fun z5 ez5 => ?_)
  obtain rfl : z5 = (nI ((w3 (w2 (w1 X)) + w3 (w2 (w1 X)) / 256) + (w3 (w2 (w1 X)) + w3 (w2 (w1 X)) / 256) / 65536)) := ez5.trans (bc5 (by have := bc_lt hX; omega))
  refine lv_istore_n (lv' := [(0, .int (nI ((w3 (w2 (w1 X)) + w3 (w2 (w1 X)) / 256) + (w3 (w2 (w1 X)) + w3 (w2 (w1 X)) / 256) / 65536)))]) hx hb dJ6_bitCount_0f7a4_47 rfl hl (by decide) rfl (fun ls hl => ?_)
  refine lv_iload_n hx hb dJ6_bitCount_0f7a4_48 rfl (lv_at hl 0 rfl) ?_
  refine lv_bipush (v := 63) hx hb dJ6_bitCount_0f7a4_49 (by decide) ?_
  refine lv_iand hx hb dJ6_bitCount_0f7a4_51 ?_
  exact ret_i B hr hlk hP hS dJ6_bitCount_0f7a4_52 (⟨rfl, by rw [bc6 (by have := bc_lt hX; omega), bc_end hX]⟩)

theorem lk_RX6_403 : LkJ RX6 403 yJ6_bitCount_0f7a4 cJ6_bitCount_0f7a4 1 (some .int) 1 := ⟨⟨mw_611, mw_612, mw_62, mw_613⟩, by decide +kernel⟩
set_option maxHeartbeats 4000000 in
set_option maxRecDepth 100000 in
theorem c_isMap (l : Launch) (E : hE) (ρ : Nat → Nat → Int32) (v : Int32) : Met l yX6_isMap (.code yX6_isMap cX6_isMap 1 (some .boolean) :: gw_all) (rmk 1 40) (cPre E ρ [.int v]) (cI E (fun r ρ1 => ρ = ρ1 ∧ ((r = 1 ∧ mp v) ∨ (r = 0 ∧ ¬ mp v)))) 0 0 (hA E) := by
  refine ent (own := RX6) (by decide) rfl (Nat.le_of_ble_eq_true rfl) ?_
  intro p e s m below meth c ls B hr hlk hl hP hS
  have hx := B.1.1
  have hb := B.1.2.1
  have hown := B.1.2.2.2.1
  have hts := B.1.2.2.2.2
  have hl : lv_has ls 1 [(0, .int v)] := hl
  refine lv_iload_n hx hb dX6_isMap_0 rfl (lv_at hl 0 rfl) ?_
  refine lv_ldcw (v := (-8388608)) hx hb hown (hts _ mw_610) dX6_isMap_1 ?_
  refine lv_iand hx hb dX6_isMap_4 ?_
  refine lv_if_ne (tgt := 21) hx hb dX6_isMap_5 (by decide) (fun c1 => ?_) (fun c1 => ?_)
  · skip
    refine lv_iconst (v := 0) hx hb dX6_isMap_21 (by decide) ?_
    exact ret_z B hr hlk hP hS dX6_isMap_22 (Or.inl rfl) (⟨rfl, Or.inr ⟨rfl, mask_no c1⟩⟩)
  · skip
    obtain ⟨X, hX, rfl⟩ := mask_nat c1
    refine lv_iload_n hx hb dX6_isMap_8 rfl (lv_at hl 0 rfl) ?_
    refine call_i (cJ (av := [.int (nI X)]) (rest := []) B hP hS (c_bitCount l E ρ X hX) lk_RX6_403 rfl rfl hl.1 (Nat.le_of_ble_eq_true rfl) ⟨Nat.le_of_ble_eq_true rfl, Nat.le_of_ble_eq_true rfl⟩ ⟨Nat.le_of_ble_eq_true rfl, Nat.le_of_ble_eq_true rfl⟩ dX6_isMap_9) hS (fun r2 ρ3 H locs q4 hP hS => ?_)
    obtain ⟨rfl, rfl⟩ := q4
    refine lv_bipush (v := 8) hx hb dX6_isMap_12 (by decide) ?_
    refine lv_icmp_lt (tgt := 21) hx hb dX6_isMap_14 (by decide) (fun c5 => ?_) (fun c5 => ?_)
    · skip
      have hp : ¬ 8 ≤ pcc X := fun z => absurd c5 (nI_nlt (a := pcc X) (b := 8) z (by have := pcc_le X; omega))
      refine lv_iconst (v := 0) hx hb dX6_isMap_21 (by decide) ?_
      exact ret_z B hr hlk hP hS dX6_isMap_22 (Or.inl rfl) (⟨rfl, Or.inr ⟨rfl, fun z => hp ((mp_iff hX).mp z)⟩⟩)
    · skip
      have hp : 8 ≤ pcc X := Nat.not_lt.mp (fun z => c5 (nI_lt (a := pcc X) (b := 8) z (by decide)))
      refine lv_iconst (v := 1) hx hb dX6_isMap_17 (by decide) ?_
      refine lv_goto (tgt := 22) hx hb dX6_isMap_18 (by decide) ?_
      exact ret_z B hr hlk hP hS dX6_isMap_22 (Or.inr rfl) (⟨rfl, Or.inl ⟨rfl, (mp_iff hX).mpr hp⟩⟩)

theorem lk_RX6_187 : LkS RX6 187 yX6_isMap cX6_isMap 1 (some .boolean) 1 := ⟨⟨mw_607, mw_608, mw_52, mw_609⟩, by decide +kernel⟩
set_option maxHeartbeats 4000000 in
set_option maxRecDepth 100000 in
theorem c_map (l : Launch) (E : hE) (a1 a2 a3 : Int32) : Met l yX6_map (.code yX6_map cX6_map 5 (some .int) :: gw_all) (rmk 4 160) (cPre E r0 [.ref (E.2.1 + 0), .int a1, .int a2, .int a3]) (cI E (fun r ρ1 => (((mp a2 ∧ iR a3 1 100) ∧ r = -2) ∨ (¬ (mp a2 ∧ iR a3 1 100) ∧ r = -1)) ∧ ∀ k, 1076 ≤ k → ρ1 k = r0 k)) 0 0 (hA E) := by
  refine ent (own := RX6) (by decide) rfl (Nat.le_of_ble_eq_true rfl) ?_
  intro p e s m below meth c ls B hr hlk hl hP hS
  have hx := B.1.1
  have hb := B.1.2.1
  have hown := B.1.2.2.2.1
  have hts := B.1.2.2.2.2
  have hl : lv_has ls 5 [(0, .ref (E.2.1 + 0)), (1, .int a1), (2, .int a2), (3, .int a3)] := hl
  refine lv_iload_n hx hb dX6_map_0 rfl (lv_at hl 2 rfl) ?_
  refine call_i (cS (av := [.int a2]) (rest := []) B hP hS (c_isMap l E r0 a2) lk_RX6_187 rfl rfl hl.1 (Nat.le_of_ble_eq_true rfl) ⟨Nat.le_of_ble_eq_true rfl, Nat.le_of_ble_eq_true rfl⟩ ⟨Nat.le_of_ble_eq_true rfl, Nat.le_of_ble_eq_true rfl⟩ dX6_map_1) hS (fun r1 ρ2 H locs q3 hP hS => ?_)
  obtain ⟨rfl, q3⟩ := q3
  rcases q3 with ⟨rfl, q3⟩ | ⟨rfl, q3⟩
  · skip
    refine lv_if_eq (tgt := 17) hx hb dX6_map_4 (by decide) (fun c4 => absurd c4 (by decide)) (fun _ => ?_)
    refine lv_iload_n hx hb dX6_map_7 rfl (lv_at hl 3 rfl) ?_
    refine lv_iconst (v := 1) hx hb dX6_map_8 (by decide) ?_
    refine lv_bipush (v := 100) hx hb dX6_map_9 (by decide) ?_
    refine call_i (cS (av := [.int a3, .int 1, .int 100]) (rest := []) B hP hS (c_isWithin l E r0 a3 1 100 1 100 (by decide) (by decide)) lk_RX6_54 rfl rfl hl.1 (Nat.le_of_ble_eq_true rfl) ⟨Nat.le_of_ble_eq_true rfl, Nat.le_of_ble_eq_true rfl⟩ ⟨Nat.le_of_ble_eq_true rfl, Nat.le_of_ble_eq_true rfl⟩ dX6_map_11) hS (fun r5 ρ6 H locs q7 hP hS => ?_)
    obtain ⟨rfl, q7⟩ := q7
    rcases q7 with ⟨rfl, q7⟩ | ⟨rfl, q7⟩
    · skip
      refine lv_if_ne (tgt := 23) hx hb dX6_map_14 (by decide) (fun _ => ?_) (fun c8 => absurd c8 (by decide))
      refine lv_aload_n hx hb dX6_map_23 rfl (lv_at hl 0 rfl) ?_
      refine get6 B hP (by decide +kernel) 0 (by decide) mw_412 rfl dX6_map_24 ?_
      refine lv_iload_n hx hb dX6_map_27 rfl (lv_at hl 1 rfl) ?_
      refine call_q (cVt (k := 1) (av := [.int a1]) (rest := []) B hP hS (c_netAt l E r0 1 a1 (by decide +kernel) (FrW_r0 (by decide +kernel))) lk_RX6_95 (hrecv (ci := 5) B hP (hk_lt (c := 5) (by decide +kernel) (by decide)) (hcc5 _ _ (by decide +kernel)) rfl) rfl rfl hl.1 (Nat.le_of_ble_eq_true rfl) ⟨Nat.le_of_ble_eq_true rfl, Nat.le_of_ble_eq_true rfl⟩ ⟨Nat.le_of_ble_eq_true rfl, Nat.le_of_ble_eq_true rfl⟩ dX6_map_28) hS (fun r9 ρ10 H locs q11 hP hS => ?_)
      obtain ⟨rfl, rfl⟩ := q11
      refine W.eq (g2 := F0 m 31 ls [.null]) rfl ?_
      refine lv_astoreN (lv' := [(4, .null), (0, .ref (E.2.1 + 0)), (1, .int a1), (2, .int a2), (3, .int a3)]) hx hb dX6_map_31 hl (by decide) rfl (fun ls hl => ?_)
      refine lv_aloadN hx hb dX6_map_33 (lv_at hl 0 rfl) ?_
      refine lv_ifnonnullN hx hb dX6_map_35 ?_
      refine lv_aload_n hx hb dX6_map_38 rfl (lv_at hl 1 rfl) ?_
      refine lv_bipush (v := (-2)) hx hb dX6_map_39 (by decide) ?_
      refine call_i (cVt (k := 0) (av := [.int (-2)]) (rest := []) B hP hS (c_refuse l E r0 (-2)) lk_RX6_58 (hrecv (ci := 6) B hP (hk_lt (c := 6) (by decide +kernel) (by decide)) (hcc6 _ _ (by decide +kernel)) rfl) rfl rfl hl.1 (Nat.le_of_ble_eq_true rfl) ⟨Nat.le_of_ble_eq_true rfl, Nat.le_of_ble_eq_true rfl⟩ ⟨Nat.le_of_ble_eq_true rfl, Nat.le_of_ble_eq_true rfl⟩ dX6_map_41) hS (fun r12 ρ13 H locs q14 hP hS => ?_)
      obtain ⟨rfl, q14⟩ := q14
      have F15 : ∀ k, 1076 ≤ k → ρ13 k = r0 k := fun k hk => (q14 k (by omega) (by omega))
      exact ret_i B hr hlk hP hS dX6_map_44 (⟨Or.inl ⟨⟨q3, q7⟩, rfl⟩, F15⟩)
    · skip
      refine lv_if_ne (tgt := 23) hx hb dX6_map_14 (by decide) (fun c16 => absurd c16 (by decide)) (fun _ => ?_)
      refine lv_aload_n hx hb dX6_map_17 rfl (lv_at hl 0 rfl) ?_
      refine lv_iconst (v := (-1)) hx hb dX6_map_18 (by decide) ?_
      refine call_i (cVt (k := 0) (av := [.int (-1)]) (rest := []) B hP hS (c_refuse l E r0 (-1)) lk_RX6_58 (hrecv (ci := 6) B hP (hk_lt (c := 6) (by decide +kernel) (by decide)) (hcc6 _ _ (by decide +kernel)) rfl) rfl rfl hl.1 (Nat.le_of_ble_eq_true rfl) ⟨Nat.le_of_ble_eq_true rfl, Nat.le_of_ble_eq_true rfl⟩ ⟨Nat.le_of_ble_eq_true rfl, Nat.le_of_ble_eq_true rfl⟩ dX6_map_19) hS (fun r17 ρ18 H locs q19 hP hS => ?_)
      obtain ⟨rfl, q19⟩ := q19
      have F20 : ∀ k, 1076 ≤ k → ρ18 k = r0 k := fun k hk => (q19 k (by omega) (by omega))
      exact ret_i B hr hlk hP hS dX6_map_22 (⟨Or.inr ⟨fun z => q7 z.2, rfl⟩, F20⟩)
  · skip
    refine lv_if_eq (tgt := 17) hx hb dX6_map_4 (by decide) (fun _ => ?_) (fun c21 => absurd c21 (by decide))
    refine lv_aload_n hx hb dX6_map_17 rfl (lv_at hl 0 rfl) ?_
    refine lv_iconst (v := (-1)) hx hb dX6_map_18 (by decide) ?_
    refine call_i (cVt (k := 0) (av := [.int (-1)]) (rest := []) B hP hS (c_refuse l E r0 (-1)) lk_RX6_58 (hrecv (ci := 6) B hP (hk_lt (c := 6) (by decide +kernel) (by decide)) (hcc6 _ _ (by decide +kernel)) rfl) rfl rfl hl.1 (Nat.le_of_ble_eq_true rfl) ⟨Nat.le_of_ble_eq_true rfl, Nat.le_of_ble_eq_true rfl⟩ ⟨Nat.le_of_ble_eq_true rfl, Nat.le_of_ble_eq_true rfl⟩ dX6_map_19) hS (fun r22 ρ23 H locs q24 hP hS => ?_)
    obtain ⟨rfl, q24⟩ := q24
    have F25 : ∀ k, 1076 ≤ k → ρ23 k = r0 k := fun k hk => (q24 k (by omega) (by omega))
    exact ret_i B hr hlk hP hS dX6_map_22 (⟨Or.inr ⟨fun z => q3 z.1, rfl⟩, F25⟩)

set_option maxHeartbeats 4000000 in
set_option maxRecDepth 100000 in
theorem c_bits (l : Launch) (E : hE) (ρ : Nat → Nat → Int32) (X : Nat) (hX : X < 8388608) : Met l yX7_bits (.code yX7_bits cX7_bits 3 (some .int) :: gw_all) (rmk 0 0) (cPre E ρ [.int (nI X)]) (cI E (fun r ρ1 => ρ = ρ1 ∧ r = nI (pcc X))) 0 0 (hA E) := by
  refine ent (own := RX7) (by decide) rfl (Nat.le_of_ble_eq_true rfl) ?_
  intro p e s m below meth c ls B hr hlk hl hP hS
  have hx := B.1.1
  have hb := B.1.2.1
  have hown := B.1.2.2.2.1
  have hts := B.1.2.2.2.2
  have hl : lv_has ls 3 [(0, .int (nI X))] := hl
  refine lv_iconst (v := 0) hx hb dX7_bits_0 (by decide) ?_
  refine lv_istore_n (lv' := [(1, .int 0), (0, .int (nI X))]) hx hb dX7_bits_1 rfl hl (by decide) rfl (fun ls hl => ?_)
  refine lv_iload_n hx hb dX7_bits_2 rfl (lv_at hl 1 rfl) ?_
  refine lv_istore_n (lv' := [(2, .int (nI X)), (1, .int 0), (0, .int (nI X))]) hx hb dX7_bits_3 rfl hl (by decide) rfl (fun ls hl => ?_)
  have L : ∀ (d S n : Nat) (H : Heap) (locs : List Loc) (ls : Array Slot), S < d → S < 8388608 → n + pcc S = pcc X → WP E ρ H → va_S (hA E) s.heap H locs → lv_has ls 3 [(0, .int (nI X)), (1, .int (nI n)), (2, .int (nI S))] → W p l e (rmk 0 0) s m ([.int (nI X)] : List Value).toArray below meth c H locs 0 0 (MQ below (cI E (fun r ρ1 => ρ = ρ1 ∧ r = nI (pcc X))) ([.int (nI X)] : List Value).toArray s 0 0 (hA E)) (F0 m 4 ls []) := by
    intro d
    induction d with
    | zero => intro S n H locs ls h1; exact absurd h1 (by omega)
    | succ d ih =>
      intro S n H locs ls hd hS8 hn hP hS hl
      refine lv_iload_n hx hb dX7_bits_4 rfl (lv_at hl 2 rfl) ?_
      refine lv_if_eq (tgt := 20) hx hb dX7_bits_5 (by decide) (fun c1 => ?_) (fun c1 => ?_)
      · skip
        have h0 : S = 0 := (nI_eq (b := 0) (by omega) (by decide)).mp c1
        subst h0
        refine lv_iload_n hx hb dX7_bits_20 rfl (lv_at hl 1 rfl) ?_
        exact ret_i B hr hlk hP hS dX7_bits_21 (⟨rfl, by rw [← hn, pcc_0, Nat.add_zero]⟩)
      · skip
        have h0 : 0 < S := Nat.pos_of_ne_zero (fun z => c1 (by rw [z]; rfl))
        have hk := kpc h0 hS8
        refine lv_iinc (v := (nI (n + 1))) (lv' := [(1, .int (nI (n + 1))), (0, .int (nI X)), (2, .int (nI S))]) hx hb dX7_bits_8 hl (k := 1) rfl (nI_1 n) (by decide) rfl (fun ls hl => ?_)
        refine lv_iload_n hx hb dX7_bits_11 rfl (lv_at hl 2 rfl) ?_
        refine lv_iload_n hx hb dX7_bits_12 rfl (lv_at hl 2 rfl) ?_
        refine lv_iconst (v := 1) hx hb dX7_bits_13 (by decide) ?_
        refine lv_isub hx hb dX7_bits_14 ?_
        refine lv_iand hx hb dX7_bits_15 ?_
        refine lv_topi (fun z2 ez2 => ?_)
        obtain rfl : z2 = nI (S &&& (S - 1)) := ez2.trans (kz_and h0)
        refine lv_istore_n (lv' := [(2, .int (nI (S &&& (S - 1)))), (1, .int (nI (n + 1))), (0, .int (nI X))]) hx hb dX7_bits_16 rfl hl (by decide) rfl (fun ls hl => ?_)
        refine lv_goto (tgt := 4) hx hb dX7_bits_17 (by decide) ?_
        exact ih _ (n + 1) _ _ ls (by omega) (by omega) (by omega) hP hS (lv_sub hl [2, 1, 0] rfl)
  exact L (X + 1) X 0 _ _ ls (by omega) hX (by omega) hP hS (lv_sub hl [2, 1, 0] rfl)

theorem lk_RX7_93 : LkS RX7 93 yX7_bits cX7_bits 3 (some .int) 1 := ⟨⟨mw_1149, mw_1150, mw_59, mw_1151⟩, by decide +kernel⟩
set_option maxHeartbeats 4000000 in
set_option maxRecDepth 100000 in
theorem c_mmap (l : Launch) (E : hE) (ρ : Nat → Nat → Int32) (a1 a2 a3 : Int32) (hM : MF ρ) : Met l yX7_map (.code yX7_map cX7_map 4 (some .int) :: gw_all) (rmk 5 200) (cPre E ρ [.ref (E.2.1 + 1076), .int a1, .int a2, .int a3]) (cI E (fun r _ => ((mp a2 ∧ iR a3 1 100) ∧ r = -2) ∨ (¬ (mp a2 ∧ iR a3 1 100) ∧ r = -1))) 0 0 (hA E) := by
  refine ent (own := RX7) (by decide) rfl (Nat.le_of_ble_eq_true rfl) ?_
  intro p e s m below meth c ls B hr hlk hl hP hS
  have hx := B.1.1
  have hb := B.1.2.1
  have hown := B.1.2.2.2.1
  have hts := B.1.2.2.2.2
  have hl : lv_has ls 4 [(0, .ref (E.2.1 + 1076)), (1, .int a1), (2, .int a2), (3, .int a3)] := hl
  refine lv_aload_n hx hb dX7_map_0 rfl (lv_at hl 0 rfl) ?_
  refine lv_iconst (v := 0) hx hb dX7_map_1 (by decide) ?_
  refine put7 B hP hS (by decide +kernel) 0 (by decide) mw_1027 rfl rfl rfl (fs7_0 E 1076 _ _) dX7_map_2 (fun H locs hP hS => ?_)
  rw [up_self ρ ((congrFun (hM 1076 (by decide)) 0).trans (show r0 1076 0 = 0 by decide +kernel))] at hP
  refine lv_iload_n hx hb dX7_map_5 rfl (lv_at hl 2 rfl) ?_
  refine lv_i2l hx hb dX7_map_6 rfl ?_
  refine lv_lconst (v := 0) hx hb dX7_map_7 (by decide) ?_
  refine lv_ldc2 (v := 8388607) hx hb hown (hts _ mw_1232) dX7_map_8 ?_
  refine call_i (cS (av := [.long a2.toInt64, .long 0, .long 8388607]) (rest := []) B hP hS (c_in l E ρ a2.toInt64 0 8388607 0 8388607 (by decide) (by decide)) lk_RX7_71 rfl rfl hl.1 (Nat.le_of_ble_eq_true rfl) ⟨Nat.le_of_ble_eq_true rfl, Nat.le_of_ble_eq_true rfl⟩ ⟨Nat.le_of_ble_eq_true rfl, Nat.le_of_ble_eq_true rfl⟩ dX7_map_11) hS (fun r1 ρ2 H locs q3 hP hS => ?_)
  obtain ⟨rfl, q3⟩ := q3
  rw [lR_i] at q3
  rcases q3 with ⟨rfl, q3⟩ | ⟨rfl, q3⟩
  · skip
    have hq := q3
    obtain ⟨X, hX, rfl⟩ := iR_ix (n := 8388608) hq (by decide) (by decide)
    refine lv_if_eq (tgt := 38) hx hb dX7_map_14 (by decide) (fun c4 => absurd c4 (by decide)) (fun _ => ?_)
    refine lv_iload_n hx hb dX7_map_17 rfl (lv_at hl 2 rfl) ?_
    refine call_i (cS (av := [.int (nI X)]) (rest := []) B hP hS (c_bits l E ρ X hX) lk_RX7_93 rfl rfl hl.1 (Nat.le_of_ble_eq_true rfl) ⟨Nat.le_of_ble_eq_true rfl, Nat.le_of_ble_eq_true rfl⟩ ⟨Nat.le_of_ble_eq_true rfl, Nat.le_of_ble_eq_true rfl⟩ dX7_map_18) hS (fun r5 ρ6 H locs q7 hP hS => ?_)
    obtain ⟨rfl, rfl⟩ := q7
    refine lv_bipush (v := 8) hx hb dX7_map_21 (by decide) ?_
    refine lv_icmp_lt (tgt := 38) hx hb dX7_map_23 (by decide) (fun c8 => ?_) (fun c8 => ?_)
    · skip
      have hp : ¬ 8 ≤ pcc X := fun z => absurd c8 (nI_nlt (a := pcc X) (b := 8) z (by have := pcc_le X; omega))
      refine lv_aload_n hx hb dX7_map_38 rfl (lv_at hl 0 rfl) ?_
      refine lv_iconst (v := (-1)) hx hb dX7_map_39 (by decide) ?_
      refine call_i (cVt (k := 1076) (av := [.int (-1)]) (rest := []) B hP hS (c_mrefuse l E ρ (-1) ⟨1, by decide, by decide⟩) lk_RX7_64 (hrecv (ci := 7) B hP (hk_lt (c := 7) (by decide +kernel) (by decide)) (hcc7 _ _ (by decide +kernel)) rfl) rfl rfl hl.1 (Nat.le_of_ble_eq_true rfl) ⟨Nat.le_of_ble_eq_true rfl, Nat.le_of_ble_eq_true rfl⟩ ⟨Nat.le_of_ble_eq_true rfl, Nat.le_of_ble_eq_true rfl⟩ dX7_map_40) hS (fun r9 ρ10 H locs q11 hP hS => ?_)
      obtain rfl := q11
      exact ret_i B hr hlk hP hS dX7_map_43 (Or.inr ⟨fun z => hp ((mp_iff hX).mp z.1), rfl⟩)
    · skip
      have hp : 8 ≤ pcc X := Nat.not_lt.mp (fun z => c8 (nI_lt (a := pcc X) (b := 8) z (by decide)))
      refine lv_iload_n hx hb dX7_map_26 rfl (lv_at hl 3 rfl) ?_
      refine lv_i2l hx hb dX7_map_27 rfl ?_
      refine lv_lconst (v := 1) hx hb dX7_map_28 (by decide) ?_
      refine lv_ldc2 (v := 100) hx hb hown (hts _ mw_1233) dX7_map_29 ?_
      refine call_i (cS (av := [.long a3.toInt64, .long 1, .long 100]) (rest := []) B hP hS (c_in l E ρ a3.toInt64 1 100 1 100 (by decide) (by decide)) lk_RX7_71 rfl rfl hl.1 (Nat.le_of_ble_eq_true rfl) ⟨Nat.le_of_ble_eq_true rfl, Nat.le_of_ble_eq_true rfl⟩ ⟨Nat.le_of_ble_eq_true rfl, Nat.le_of_ble_eq_true rfl⟩ dX7_map_32) hS (fun r12 ρ13 H locs q14 hP hS => ?_)
      obtain ⟨rfl, q14⟩ := q14
      rw [lR_i] at q14
      rcases q14 with ⟨rfl, q14⟩ | ⟨rfl, q14⟩
      · skip
        refine lv_if_ne (tgt := 44) hx hb dX7_map_35 (by decide) (fun _ => ?_) (fun c15 => absurd c15 (by decide))
        refine lv_aload_n hx hb dX7_map_44 rfl (lv_at hl 0 rfl) ?_
        refine lv_iload_n hx hb dX7_map_45 rfl (lv_at hl 1 rfl) ?_
        refine call_i (cVt (k := 1076) (av := [.int a1]) (rest := []) B hP hS (c_isNet l E ρ a1 ⟨((congrFun (hM 1078 (by decide)) 42).trans (show r0 1078 42 = (-1) by decide +kernel)), ((congrFun (hM 1078 (by decide)) 368).trans (show r0 1078 368 = (-1) by decide +kernel))⟩) lk_RX7_78 (hrecv (ci := 7) B hP (hk_lt (c := 7) (by decide +kernel) (by decide)) (hcc7 _ _ (by decide +kernel)) rfl) rfl rfl hl.1 (Nat.le_of_ble_eq_true rfl) ⟨Nat.le_of_ble_eq_true rfl, Nat.le_of_ble_eq_true rfl⟩ ⟨Nat.le_of_ble_eq_true rfl, Nat.le_of_ble_eq_true rfl⟩ dX7_map_46) hS (fun r16 ρ17 H locs q18 hP hS => ?_)
        obtain ⟨rfl, rfl⟩ := q18
        refine lv_if_ne (tgt := 59) hx hb dX7_map_49 (by decide) (fun c19 => absurd c19 (by decide)) (fun _ => ?_)
        refine lv_aload_n hx hb dX7_map_52 rfl (lv_at hl 0 rfl) ?_
        refine lv_bipush (v := (-2)) hx hb dX7_map_53 (by decide) ?_
        refine call_i (cVt (k := 1076) (av := [.int (-2)]) (rest := []) B hP hS (c_mrefuse l E ρ (-2) ⟨2, by decide, by decide⟩) lk_RX7_64 (hrecv (ci := 7) B hP (hk_lt (c := 7) (by decide +kernel) (by decide)) (hcc7 _ _ (by decide +kernel)) rfl) rfl rfl hl.1 (Nat.le_of_ble_eq_true rfl) ⟨Nat.le_of_ble_eq_true rfl, Nat.le_of_ble_eq_true rfl⟩ ⟨Nat.le_of_ble_eq_true rfl, Nat.le_of_ble_eq_true rfl⟩ dX7_map_55) hS (fun r20 ρ21 H locs q22 hP hS => ?_)
        obtain rfl := q22
        exact ret_i B hr hlk hP hS dX7_map_58 (Or.inl ⟨⟨(mp_iff hX).mpr hp, q14⟩, rfl⟩)
      · skip
        refine lv_if_ne (tgt := 44) hx hb dX7_map_35 (by decide) (fun c23 => absurd c23 (by decide)) (fun _ => ?_)
        refine lv_aload_n hx hb dX7_map_38 rfl (lv_at hl 0 rfl) ?_
        refine lv_iconst (v := (-1)) hx hb dX7_map_39 (by decide) ?_
        refine call_i (cVt (k := 1076) (av := [.int (-1)]) (rest := []) B hP hS (c_mrefuse l E ρ (-1) ⟨1, by decide, by decide⟩) lk_RX7_64 (hrecv (ci := 7) B hP (hk_lt (c := 7) (by decide +kernel) (by decide)) (hcc7 _ _ (by decide +kernel)) rfl) rfl rfl hl.1 (Nat.le_of_ble_eq_true rfl) ⟨Nat.le_of_ble_eq_true rfl, Nat.le_of_ble_eq_true rfl⟩ ⟨Nat.le_of_ble_eq_true rfl, Nat.le_of_ble_eq_true rfl⟩ dX7_map_40) hS (fun r24 ρ25 H locs q26 hP hS => ?_)
        obtain rfl := q26
        exact ret_i B hr hlk hP hS dX7_map_43 (Or.inr ⟨fun z => q14 z.2, rfl⟩)
  · skip
    refine lv_if_eq (tgt := 38) hx hb dX7_map_14 (by decide) (fun _ => ?_) (fun c27 => absurd c27 (by decide))
    refine lv_aload_n hx hb dX7_map_38 rfl (lv_at hl 0 rfl) ?_
    refine lv_iconst (v := (-1)) hx hb dX7_map_39 (by decide) ?_
    refine call_i (cVt (k := 1076) (av := [.int (-1)]) (rest := []) B hP hS (c_mrefuse l E ρ (-1) ⟨1, by decide, by decide⟩) lk_RX7_64 (hrecv (ci := 7) B hP (hk_lt (c := 7) (by decide +kernel) (by decide)) (hcc7 _ _ (by decide +kernel)) rfl) rfl rfl hl.1 (Nat.le_of_ble_eq_true rfl) ⟨Nat.le_of_ble_eq_true rfl, Nat.le_of_ble_eq_true rfl⟩ ⟨Nat.le_of_ble_eq_true rfl, Nat.le_of_ble_eq_true rfl⟩ dX7_map_40) hS (fun r28 ρ29 H locs q30 hP hS => ?_)
    obtain rfl := q30
    exact ret_i B hr hlk hP hS dX7_map_43 (Or.inr ⟨fun z => q3 (mp_iR z.1), rfl⟩)
