abbrev vwCl : List vw_C := [(RX0, TX0, 6), (RX1, TX1, 18), (RX2, TX2, 20), (RX3, TX3, 3), (RX4, TX4, 8), (RX5, TX5, 10), (RX6, TX6, 12), (RX7, TX7, 18)]
def tyl (E : hE) : List (ClassId × FieldType) := [(E.2.2.1 0, .int), (E.2.2.1 1, .boolean), (E.2.2.1 2, .object RX1), (E.2.2.1 3, .object RX2), (E.2.2.1 4, .object RX5)]
def nws : List (String × Nat × MethodName × String) := [(RX2, 11, yX3_init, RX6), (RX2, 82, yX1_init, RX6), (RX1, 9, yX3_init, RX6), (RX1, 18, yX4_init, RX6), (RX1, 28, yX0_init, RX6), (RX5, 94, yX6_hopOf, RX6), (RX5, 101, yX6_byMap, RX6), (RX2, 133, yX6_byMap, RX6)]
def xo : Nat → Value := fun j => .int (([0, 1, 0, 2, 1, 0, 3, 1, 0] : List Int32).getD j 0)
def xp : Nat → Value := fun j => .int (([3, 2, 1, 4, 4, 2, 4, 3, 4] : List Int32).getD j 0)
def xq : Nat → Value := fun j => .int (([0, 3, 1, 2, 0, 1, 2, 4, 1, 4, 0, 2, 3, 4, 1, 3, 0, 4] : List Int32).getD j 0)
/-- the statics -/
def ST (E : hE) (U : State) (H : Heap) : Prop := (va_Z RX6 "EXCHANGE_ONE" "[I" (.ref (E.2.2.2 0)) (hA E) U H ∧ va_T .int (E.2.2.2 0) 9 xo (hA E) U H) ∧ (va_Z RX6 "EXCHANGE_OTHER" "[I" (.ref (E.2.2.2 1)) (hA E) U H ∧ va_T .int (E.2.2.2 1) 9 xp (hA E) U H) ∧ (va_Z RX7 "PAIRS" "[I" (.ref (E.2.2.2 2)) (hA E) U H ∧ va_T .int (E.2.2.2 2) 18 xq (hA E) U H)
/-- what a method knows of the machine's tables and statics -/
def KK (E : hE) (U : State) : Prop := va_K E.1 vwCl (tyl E) U ∧ (∀ q ∈ nws, va_Nw (.methodLinkNest q.1 q.2.1 q.2.2.1 q.2.2.2) U) ∧ (va_AO RX1 U ∧ va_AO RX2 U ∧ va_AO RX5 U) ∧ ST E U U.heap
theorem ST.moved {E : hE} {u U : State} {H : Heap} (hvm : u.vm.Alike U.vm) (h : ST E u H) : ST E U H :=
  ⟨⟨h.1.1.moved hvm, h.1.2.moved hvm⟩, ⟨h.2.1.1.moved hvm, h.2.1.2.moved hvm⟩, ⟨h.2.2.1.moved hvm, h.2.2.2.moved hvm⟩⟩
theorem ST.kept {E : hE} {U : State} {H H1 : Heap} (h : ST E U H) (hq : ∀ a : Nat, a < H.size → ¬ hA E a → H1[a]? = H[a]?) : ST E U H1 :=
  ⟨⟨h.1.1.kept hq, h.1.2.kept hq⟩, ⟨h.2.1.1.kept hq, h.2.1.2.kept hq⟩, ⟨h.2.2.1.kept hq, h.2.2.2.kept hq⟩⟩
theorem KK.warm {E : hE} {s U : State} {H : Heap} {locs : List Loc} (h : KK E s) (hS : va_S (hA E) s.heap H locs) (hU : U.heap = H) (hW : s.WarmedH U.vm) : KK E U :=
  ⟨va_K.moved hW.alike h.1, fun q hq => va_Nw.warmM hW (h.2.1 q hq), ⟨h.2.2.1.1.moved hW.alike, h.2.2.1.2.1.moved hW.alike, h.2.2.1.2.2.moved hW.alike⟩, by rw [hU]; exact (h.2.2.2.moved hW.alike).kept hS.2.1⟩
/-- the world is as ρ says -/
abbrev WP (E : hE) (ρ : Nat → Nat → Int32) (H : Heap) : Prop := va_P E.1 vwCl (wl E 1090 (hcf E ρ)) H
def cPre (E : hE) (ρ : Nat → Nat → Int32) (av : List Value) : Array Value → State → Prop := va_Pc av (fun U => WP E ρ U.heap ∧ KK E U)
abbrev cI (E : hE) (post : Int32 → (Nat → Nat → Int32) → Prop) : Array Value → State → Outcome → State → Prop := va_Qi post (fun ρ t => WP E ρ t.heap) (hA E)
abbrev cV (E : hE) (post : (Nat → Nat → Int32) → Prop) : Array Value → State → Outcome → State → Prop := va_Qv post (fun ρ t => WP E ρ t.heap) (hA E)
abbrev cQ (E : hE) (post : Option Nat → (Nat → Nat → Int32) → Prop) : Array Value → State → Outcome → State → Prop := va_Qq post (fun ρ t => WP E ρ t.heap) (hA E)
abbrev rmk (fr lo : Nat) : Room := { frames := fr, cells := 0, slots := 0, locals := lo }
theorem KK.call {E : hE} {U : State} (g : JFrame) (mk : MethodId) (a : Array Value) (h : KK E U) : KK E (U.calling g mk a) :=
  ⟨va_K.moved (u := U) (U := U.calling g mk a) (Vm.Alike.refl U.vm) h.1, fun q hq => va_Nw.same rfl (rfl : U.vm = (U.calling g mk a).vm) (h.2.1 q hq), ⟨h.2.2.1.1.moved (Vm.Alike.refl U.vm), h.2.2.1.2.1.moved (Vm.Alike.refl U.vm), h.2.2.1.2.2.moved (Vm.Alike.refl U.vm)⟩, h.2.2.2.moved (U := U.calling g mk a) (Vm.Alike.refl U.vm)⟩
theorem cPre_blind {E : hE} {ρ : Nat → Nat → Int32} {av : List Value} : FrameBlind (cPre E ρ av) := fun a U g mk h => ⟨h.1, h.2.1, h.2.2.call g mk a⟩
/-- what is at hand inside a method -/
abbrev MB (p : Program) (s : State) (m : MethodId) (args : Array Value) (c : Code) (cc : ByteArray) (nL : Nat) (own : String) (E : hE) : Prop := CallFix p m c cc nL s args gw_all own ∧ KK E s
theorem gwAll : gw_all.all goodWord = true := List.all_eq_true.mpr (fun _ h => (List.mem_filter.mp h).2)
theorem gwGood {w : Cond} (h : w ∈ gw_all) : (w.onTables && w.keeps) = true ∨ ∃ ty, w = .arrayClass ty := good_of_word (List.mem_filter.mp h).2
/-- a method is entered -/
theorem ent {l : Launch} {y : MethodName} {cc : ByteArray} {maxL : Nat} {ret : Option FieldType} {fr lo : Nat} {E : hE} {ρ : Nat → Nat → Int32} {av : List Value} {Qc : Array Value → State → Outcome → State → Prop} {own : String} (hy : plainName y.cls = true) (ho : y.cls = own) (hlen : (lg_sl av).length ≤ maxL)
    (body : ∀ (p : Program) (e : Env) (s : State) (m : MethodId) (below : List Frame) (meth : Method) (c : Code) (ls : Array Slot), MB p s m av.toArray c cc maxL own E → meth.sig.returnType = ret → meth.locks = false → lv_has ls maxL (lv_args 0 av) → WP E ρ s.heap → va_S (hA E) s.heap s.heap [] → W p l e (rmk fr lo) s m av.toArray below meth c s.heap [] 0 0 (MQ below Qc av.toArray s 0 0 (hA E)) (F0 m 0 ls [])) :
    Met l y (.code y cc maxL ret :: gw_all) (rmk fr lo) (cPre E ρ av) Qc 0 0 (hA E) := by
  refine Met.ofW (cc := cc) (maxL := maxL) (ret := ret) hy rfl ?_
  intro p e s m args below meth c s₁ B hml hv
  obtain ⟨rfl, hP, hK⟩ := hv
  rw [lg_entry_eq]
  have hts := atoms_spec (ws := .code y cc maxL ret :: gw_all) B.pre
  exact body p e s m below meth c _ ⟨⟨B.exec, B.bytes, hml, by rw [← ho]; exact findClass_of_methodNamed B.named, fun w hw => hts w (List.mem_cons_of_mem _ hw)⟩, hK⟩ B.returns B.notSynchronized (lv_entry av hlen) hP va_S.rf
section XR
variable {p : Program} {l : Launch} {e : Env} {R : Room} {s : State} {m : MethodId} {args : Array Value} {below : List Frame} {meth : Method} {c : Code} {H : Heap} {locs : List Loc} {cells slots : Nat} {Q : State → Prop} {cc : ByteArray} {nL pc : Nat} {ls : Array Slot} {rest : List Value} {E : hE} {ρ : Nat → Nat → Int32} {own : String}
theorem ret_i {post : Int32 → (Nat → Nat → Int32) → Prop} {v : Int32} (B : MB p s m args c cc nL own E) (hr : meth.sig.returnType = some .int) (hlk : meth.locks = false) (hP : WP E ρ H) (hS : va_S (hA E) s.heap H locs) (hd : decode cc pc = .ok (.ireturn, 1)) (hq : post v ρ) : W p l e R s m args below meth c H locs cells slots (MQ below (cI E post) args s cells slots (hA E)) (F0 m pc ls [.int v]) :=
  W.iret (v := v) B.1.1 B.1.2.1 hr (fun t ht hW => ⟨⟨v, ρ, rfl, hq, by show WP E ρ t.heap; rw [ht]; exact hP⟩, hS.F ht⟩) hS.2.2 hd hlk
theorem ret_z {post : Int32 → (Nat → Nat → Int32) → Prop} {v : Int32} (B : MB p s m args c cc nL own E) (hr : meth.sig.returnType = some .boolean) (hlk : meth.locks = false) (hP : WP E ρ H) (hS : va_S (hA E) s.heap H locs) (hd : decode cc pc = .ok (.ireturn, 1)) (hn : v = 0 ∨ v = 1) (hq : post v ρ) : W p l e R s m args below meth c H locs cells slots (MQ below (cI E post) args s cells slots (hA E)) (F0 m pc ls [.int v]) :=
  W.zret (v := v) B.1.1 B.1.2.1 hr (by rcases hn with rfl | rfl <;> rfl) (fun t ht hW => ⟨⟨v, ρ, rfl, hq, by show WP E ρ t.heap; rw [ht]; exact hP⟩, hS.F ht⟩) hS.2.2 hd hlk
theorem ret_v {post : (Nat → Nat → Int32) → Prop} (B : MB p s m args c cc nL own E) (hr : meth.sig.returnType = none) (hlk : meth.locks = false) (hP : WP E ρ H) (hS : va_S (hA E) s.heap H locs) (hd : decode cc pc = .ok (.return_, 1)) (hq : post ρ) : W p l e R s m args below meth c H locs cells slots (MQ below (cV E post) args s cells slots (hA E)) (F0 m pc ls []) :=
  W.vret B.1.1 B.1.2.1 hr (fun t ht hW => ⟨⟨ρ, rfl, hq, by show WP E ρ t.heap; rw [ht]; exact hP⟩, hS.F ht⟩) hS.2.2 hd hlk
theorem ret_q {post : Option Nat → (Nat → Nat → Int32) → Prop} {C : String} (r : Option Nat) (B : MB p s m args c cc nL own E) (hr : meth.sig.returnType = some (.object C)) (hlk : meth.locks = false) (hP : WP E ρ H) (hS : va_S (hA E) s.heap H locs) (hd : decode cc pc = .ok (.areturn, 1)) (hq : post r ρ) : W p l e R s m args below meth c H locs cells slots (MQ below (cQ E post) args s cells slots (hA E)) (F0 m pc ls [va_rf r]) :=
  W.aret (v := va_rf r) B.1.1 B.1.2.1 hr (Or.inl ⟨C, rfl⟩) (by cases r with | none => exact Or.inl rfl | some a => exact Or.inr ⟨a, rfl⟩) (fun t ht hW => ⟨⟨r, ρ, rfl, hq, by show WP E ρ t.heap; rw [ht]; exact hP⟩, hS.F ht⟩) hS.2.2 hd hlk
/-- linkage of a call: the words and what a program decides -/
abbrev LkS (own : String) (idx : Nat) (y : MethodName) (cc : ByteArray) (maxL : Nat) (ret : Option FieldType) (n : Nat) : Prop := (Cond.methodLink own idx y ∈ gw_all ∧ Cond.static y ∈ gw_all ∧ Cond.initialized own ∈ gw_all ∧ Cond.code y cc maxL ret ∈ gw_all) ∧ (y.cls = own ∧ y.cls ≠ "java/lang/invoke/MethodHandle" ∧ y.cls ≠ "java/lang/invoke/VarHandle" ∧ (parseMethodDescriptor y.desc).map (fun d => d.parameters.length) = some n)
abbrev LkV (own : String) (idx : Nat) (C : String) (y : MethodName) (cc : ByteArray) (maxL : Nat) (ret : Option FieldType) (n : Nat) : Prop := (Cond.methodLink own idx y ∈ gw_all ∧ Cond.instanceMethod y ∈ gw_all ∧ Cond.selects C y y ∈ gw_all ∧ Cond.initialized C ∈ gw_all ∧ Cond.code y cc maxL ret ∈ gw_all) ∧ (y.cls = C ∧ y.cls ≠ "java/lang/invoke/MethodHandle" ∧ y.cls ≠ "java/lang/invoke/VarHandle" ∧ (parseMethodDescriptor y.desc).map (fun d => d.parameters.length) = some n)
abbrev LkN (own : String) (idx : Nat) (y : MethodName) (cc : ByteArray) (maxL : Nat) (ret : Option FieldType) (n : Nat) : Prop := ((own, idx, y, RX6) ∈ nws ∧ Cond.static y ∈ gw_all ∧ Cond.initialized y.cls ∈ gw_all ∧ Cond.code y cc maxL ret ∈ gw_all) ∧ (y.cls ≠ "java/lang/invoke/MethodHandle" ∧ y.cls ≠ "java/lang/invoke/VarHandle" ∧ (parseMethodDescriptor y.desc).map (fun d => d.parameters.length) = some n)
theorem gi {y : MethodName} {cc : ByteArray} {maxL : Nat} {ret : Option FieldType} {hd : List Cond} (h : ∀ w ∈ hd, w ∈ gw_all) (hc : Cond.code y cc maxL ret ∈ gw_all) : GoodIn gw_all (hd ++ (Cond.code y cc maxL ret :: gw_all)) := by
  intro w hw
  have hm : w ∈ gw_all := by
    rcases List.mem_append.mp hw with q | q
    · exact h w q
    · rcases List.mem_cons.mp q with rfl | q
      · exact hc
      · exact q
  exact ⟨hm, gwGood hm⟩
theorem pre_ok {av : List Value} (B : MB p s m args c cc nL own E) (hP : WP E ρ H) (hS : va_S (hA E) s.heap H locs) (U : State) (hU : U.heap = H) (hW : s.WarmedH U.vm) : cPre E ρ av av.toArray U := ⟨rfl, by rw [hU]; exact hP, B.2.warm hS hU hW⟩
theorem cS {y : MethodName} {cc' : ByteArray} {maxL' : Nat} {ret' : Option FieldType} {fr' lo' n idx : Nat} {av st : List Value} {Qc : Array Value → State → Outcome → State → Prop} (B : MB p s m args c cc nL own E) (hP : WP E ρ H) (hS : va_S (hA E) s.heap H locs) (hM : Met l y (.code y cc' maxL' ret' :: gw_all) (rmk fr' lo') (cPre E ρ av) Qc 0 0 (hA E)) (K : LkS own idx y cc' maxL' ret' n)
    (hn : av.length = n) (hst : st = av.reverse ++ rest) (hsz : ls.size = nL) (hro : (rest.map fun v => v.category).sum ≤ 8) (hR : fr' + 1 ≤ R.frames ∧ 8 + (maxL' + 11) + lo' ≤ R.locals) (hf : cells ≤ R.cells ∧ slots ≤ R.slots) (hd : decode cc pc = .ok (.invokestatic idx, 3)) :
    va_Run p l e R s m args below meth c H locs cells slots 0 0 (F0 m pc ls st) rest (Qc av.toArray) (hA E) := by
  obtain ⟨⟨k1, k2, k3, k4⟩, k5⟩ := K
  have hG : GoodIn gw_all (wsS own idx y (Cond.code y cc' maxL' ret' :: gw_all)) := gi (hd := [.methodLink own idx y, .static y, .initialized own]) (fun w hw => by
    rcases List.mem_cons.mp hw with rfl | hw
    · exact k1
    · rcases List.mem_cons.mp hw with rfl | hw
      · exact k2
      · rcases List.mem_cons.mp hw with rfl | hw
        · exact k3
        · cases hw) k4
  exact va_runS (As := av) (rest := rest) B.1 hM (cwS n B.1.2.2.2.2 hG rfl rfl rfl k5 hR) ⟨cPre_blind, fun U hU hW => pre_ok B hP hS U hU hW⟩ rfl hn hsz hst (lv_room hro) hd hf
theorem cN {y : MethodName} {cc' : ByteArray} {maxL' : Nat} {ret' : Option FieldType} {fr' lo' n idx : Nat} {av st : List Value} {Qc : Array Value → State → Outcome → State → Prop} (B : MB p s m args c cc nL own E) (hP : WP E ρ H) (hS : va_S (hA E) s.heap H locs) (hM : Met l y (.code y cc' maxL' ret' :: gw_all) (rmk fr' lo') (cPre E ρ av) Qc 0 0 (hA E)) (K : LkN own idx y cc' maxL' ret' n)
    (hn : av.length = n) (hst : st = av.reverse ++ rest) (hsz : ls.size = nL) (hro : (rest.map fun v => v.category).sum ≤ 8) (hR : fr' + 1 ≤ R.frames ∧ 8 + (maxL' + 11) + lo' ≤ R.locals) (hf : cells ≤ R.cells ∧ slots ≤ R.slots) (hd : decode cc pc = .ok (.invokestatic idx, 3)) :
    va_Run p l e R s m args below meth c H locs cells slots 0 0 (F0 m pc ls st) rest (Qc av.toArray) (hA E) := by
  obtain ⟨⟨k1, k2, k3, k4⟩, k5⟩ := K
  have hG : GoodIn gw_all (Cond.code y cc' maxL' ret' :: gw_all) := gi (hd := []) (fun w hw => by cases hw) k4
  exact va_runSN (As := av) (rest := rest) (host := RX6) B.1 hM ⟨va_cnB n B.1.2.2.2.2 hG rfl rfl rfl (B.2.2.1 _ k1) (B.1.2.2.2.2 _ k3) k5 hR, B.1.2.2.2.2 _ k2, trivial⟩ ⟨cPre_blind, fun U hU hW => pre_ok B hP hS U hU hW⟩ rfl hn hsz hst (lv_room hro) hd hf
theorem hrecv {C : String} {T : u_T} {ci N k : Nat} {fs : List Value} (B : MB p s m args c cc nL own E) (hP : WP E ρ H) (hk : k < 1090) (hc : hcc E k (ρ k) = .inr (ci, fs)) (hcl : vwCl[ci]? = some (C, T, N)) : ∃ cell : Cell, H[E.2.1 + k]? = some cell ∧ cell.vm.isStatics = false ∧ s.vm.findClass C = some cell.cls :=
  va_recv (q := (C, T, N)) (q0 := k) (ci := ci) (fs := fs) B.2.1 hP hcl (by rw [wl_at hk]; show some (_, hcc E k (ρ k)) = _; rw [hc])
theorem cVt {y : MethodName} {cc' : ByteArray} {maxL' : Nat} {ret' : Option FieldType} {fr' lo' n idx k : Nat} {C : String} {av st : List Value} {Qc : Array Value → State → Outcome → State → Prop} (B : MB p s m args c cc nL own E) (hP : WP E ρ H) (hS : va_S (hA E) s.heap H locs) (hM : Met l y (.code y cc' maxL' ret' :: gw_all) (rmk fr' lo') (cPre E ρ (.ref (E.2.1 + k) :: av)) Qc 0 0 (hA E)) (K : LkV own idx C y cc' maxL' ret' n)
    (hrec : ∃ cell : Cell, H[E.2.1 + k]? = some cell ∧ cell.vm.isStatics = false ∧ s.vm.findClass C = some cell.cls) (hn : av.length = n) (hst : st = av.reverse ++ .ref (E.2.1 + k) :: rest) (hsz : ls.size = nL) (hro : (rest.map fun v => v.category).sum ≤ 8) (hR : fr' + 1 ≤ R.frames ∧ 8 + (maxL' + 11) + lo' ≤ R.locals) (hf : cells ≤ R.cells ∧ slots ≤ R.slots) (hd : decode cc pc = .ok (.invokevirtual idx, 3)) :
    va_Run p l e R s m args below meth c H locs cells slots 0 0 (F0 m pc ls st) rest (Qc (Value.ref (E.2.1 + k) :: av).toArray) (hA E) := by
  obtain ⟨⟨k1, k2, k3, k4, k6⟩, k5⟩ := K
  have hG : GoodIn gw_all (wsV own idx C y (Cond.code y cc' maxL' ret' :: gw_all)) := gi (hd := [.methodLink own idx y, .instanceMethod y, .selects C y y, .initialized C]) (fun w hw => by
    rcases List.mem_cons.mp hw with rfl | hw
    · exact k1
    · rcases List.mem_cons.mp hw with rfl | hw
      · exact k2
      · rcases List.mem_cons.mp hw with rfl | hw
        · exact k3
        · rcases List.mem_cons.mp hw with rfl | hw
          · exact k4
          · cases hw) k6
  exact va_runV (As := av) (rest := rest) B.1 hM (cwV n B.1.2.2.2.2 hG rfl rfl rfl k5 hR) ⟨cPre_blind, hrec, fun U hU hW => pre_ok B hP hS U hU hW⟩ rfl hn hsz hst (lv_room hro) hd hf
theorem call_i {post : Int32 → (Nat → Nat → Int32) → Prop} {a : Array Value} {st : List Value} (hr : va_Run p l e R s m args below meth c H locs cells slots 0 0 (F0 m pc ls st) rest (cI E post a) (hA E)) (hS : va_S (hA E) s.heap H locs)
    (kk : ∀ (r : Int32) (ρ' : Nat → Nat → Int32) (H' : Heap) (locs' : List Loc), post r ρ' → WP E ρ' H' → va_S (hA E) s.heap H' locs' → W p l e R s m args below meth c H' locs' cells slots Q (F0 m (pc + 3) ls (.int r :: rest))) : W p l e R s m args below meth c H locs cells slots Q (F0 m pc ls st) :=
  va_calli hr hS (fun _ _ h => h) (fun _ h => h) (fun r u t H1 locs1 ht _ hp hb _ _ hS' => kk r u H1 locs1 hp (by have hb : WP E u t.heap := hb; rw [ht] at hb; exact hb) hS')
theorem call_v {post : (Nat → Nat → Int32) → Prop} {a : Array Value} {st : List Value} (hr : va_Run p l e R s m args below meth c H locs cells slots 0 0 (F0 m pc ls st) rest (cV E post a) (hA E)) (hS : va_S (hA E) s.heap H locs)
    (kk : ∀ (ρ' : Nat → Nat → Int32) (H' : Heap) (locs' : List Loc), post ρ' → WP E ρ' H' → va_S (hA E) s.heap H' locs' → W p l e R s m args below meth c H' locs' cells slots Q (F0 m (pc + 3) ls rest)) : W p l e R s m args below meth c H locs cells slots Q (F0 m pc ls st) :=
  va_callv hr hS (fun _ _ h => h) (fun _ h => h) (fun u t H1 locs1 ht _ hp hb _ _ hS' => kk u H1 locs1 hp (by have hb : WP E u t.heap := hb; rw [ht] at hb; exact hb) hS')
theorem call_q {post : Option Nat → (Nat → Nat → Int32) → Prop} {a : Array Value} {st : List Value} (hr : va_Run p l e R s m args below meth c H locs cells slots 0 0 (F0 m pc ls st) rest (cQ E post a) (hA E)) (hS : va_S (hA E) s.heap H locs)
    (kk : ∀ (r : Option Nat) (ρ' : Nat → Nat → Int32) (H' : Heap) (locs' : List Loc), post r ρ' → WP E ρ' H' → va_S (hA E) s.heap H' locs' → W p l e R s m args below meth c H' locs' cells slots Q (F0 m (pc + 3) ls (va_rf r :: rest))) : W p l e R s m args below meth c H locs cells slots Q (F0 m pc ls st) :=
  va_callq hr hS (fun _ _ h => h) (fun _ h => h) (fun r u t H1 locs1 ht _ hp hb _ _ hS' => kk r u H1 locs1 hp (by have hb : WP E u t.heap := hb; rw [ht] at hb; exact hb) hS')
theorem get0 {k idx : Nat} (B : MB p s m args c cc nL own E) (hP : WP E ρ H) (h : hk k = 0) (j : Nat) (hj : j < 6) (hw : Cond.fieldLink own idx RX0 (TX0 j).2.1 (TX0 j).2.2.1 ∈ gw_all) {v : Value} (hv : (fl0 E k (ρ k))[j]? = some v) (hd : decode cc pc = .ok (.getfield idx, 3)) (kk : W p l e R s m args below meth c H locs cells slots Q (F0 m (pc + 3) ls (v :: rest))) : W p l e R s m args below meth c H locs cells slots Q (F0 m pc ls (.ref (E.2.1 + k) :: rest)) := by
  have hlt := hk_lt h (by decide)
  refine va_get (D := E.1) (ci := 0) (C := RX0) (T := TX0) (N := 6) B.1.1 B.1.2.1 B.1.2.2.2.2 in0 B.1.2.2.2.1 B.2.1 hP k (fs := fl0 E k (ρ k)) ?_ rfl j hj (B.1.2.2.2.2 _ hw) (fun x hx => ?_) hv hd kk
  · rw [wl_at hlt]; show some (_, hcc E k (ρ k)) = _; rw [hcc0 _ _ h]
  · have e : ∀ j, j < 6 → (TX0 j).1 = RX0 := by decide +kernel
    rw [e j hj] at hx; exact hx
theorem put0 {k idx : Nat} {v : Int32} (B : MB p s m args c cc nL own E) (hP : WP E ρ H) (hS : va_S (hA E) s.heap H locs) (h : hk k = 0) (j : Nat) (hj : j < 6) (hw : Cond.fieldLink own idx RX0 (TX0 j).2.1 (TX0 j).2.2.1 ∈ gw_all) (hfin : (TX0 j).2.2.2 = false) (hn : narrow (tyX0 j) (.int v) = .int v) (hfit : fits (tyX0 j) (.int v) = true) (hset : (fl0 E k (ρ k)).set j (.int v) = fl0 E k (upd (ρ k) j v)) (hd : decode cc pc = .ok (.putfield idx, 3)) (kk : ∀ (H' : Heap) (locs' : List Loc), WP E (up ρ k j v) H' → va_S (hA E) s.heap H' locs' → W p l e R s m args below meth c H' locs' cells slots Q (F0 m (pc + 3) ls rest)) : W p l e R s m args below meth c H locs cells slots Q (F0 m pc ls (.int v :: .ref (E.2.1 + k) :: rest)) := by
  have hlt := hk_lt h (by decide)
  have e : ∀ j, j < 6 → (TX0 j).1 = RX0 := by decide +kernel
  refine va_put (D := E.1) (ci := 0) (C := RX0) (T := TX0) (N := 6) (ty := tyX0 j) B.1.1 B.1.2.1 B.1.2.2.2.2 in0 tyX0 tyX0_ok nmX0 B.1.2.2.2.1 B.2.1 hP (wl_D E _ _) hS k (fs := fl0 E k (ρ k)) ?_ rfl j hj (B.1.2.2.2.2 _ hw) (fun x hx => by rw [e j hj] at hx; exact hx) hfin (tyX0_ok j hj) hn hfit (by simp [fl0]; exact hj) hd (fun H1 locs1 h1 _ h3 => ?_)
  · rw [wl_at hlt]; show some (_, hcc E k (ρ k)) = _; rw [hcc0 _ _ h]
  · refine kk H1 locs1 ?_ h3
    rw [wl_set hlt, hset, ← hcc0 _ _ h, hcf_up] at h1
    exact h1
theorem get1 {k idx : Nat} (B : MB p s m args c cc nL own E) (hP : WP E ρ H) (h : hk k = 1) (j : Nat) (hj : j < 18) (hw : Cond.fieldLink own idx RX1 (TX1 j).2.1 (TX1 j).2.2.1 ∈ gw_all) {v : Value} (hv : (fl1 E k (ρ k))[j]? = some v) (hd : decode cc pc = .ok (.getfield idx, 3)) (kk : W p l e R s m args below meth c H locs cells slots Q (F0 m (pc + 3) ls (v :: rest))) : W p l e R s m args below meth c H locs cells slots Q (F0 m pc ls (.ref (E.2.1 + k) :: rest)) := by
  have hlt := hk_lt h (by decide)
  refine va_get (D := E.1) (ci := 1) (C := RX1) (T := TX1) (N := 18) B.1.1 B.1.2.1 B.1.2.2.2.2 in1 B.1.2.2.2.1 B.2.1 hP k (fs := fl1 E k (ρ k)) ?_ rfl j hj (B.1.2.2.2.2 _ hw) (fun x hx => ?_) hv hd kk
  · rw [wl_at hlt]; show some (_, hcc E k (ρ k)) = _; rw [hcc1 _ _ h]
  · have e : ∀ j, j < 18 → (TX1 j).1 = RX1 := by decide +kernel
    rw [e j hj] at hx; exact hx
theorem put1 {k idx : Nat} {v : Int32} (B : MB p s m args c cc nL own E) (hP : WP E ρ H) (hS : va_S (hA E) s.heap H locs) (h : hk k = 1) (j : Nat) (hj : j < 18) (hw : Cond.fieldLink own idx RX1 (TX1 j).2.1 (TX1 j).2.2.1 ∈ gw_all) (hfin : (TX1 j).2.2.2 = false) (hn : narrow (tyX1 j) (.int v) = .int v) (hfit : fits (tyX1 j) (.int v) = true) (hset : (fl1 E k (ρ k)).set j (.int v) = fl1 E k (upd (ρ k) j v)) (hd : decode cc pc = .ok (.putfield idx, 3)) (kk : ∀ (H' : Heap) (locs' : List Loc), WP E (up ρ k j v) H' → va_S (hA E) s.heap H' locs' → W p l e R s m args below meth c H' locs' cells slots Q (F0 m (pc + 3) ls rest)) : W p l e R s m args below meth c H locs cells slots Q (F0 m pc ls (.int v :: .ref (E.2.1 + k) :: rest)) := by
  have hlt := hk_lt h (by decide)
  have e : ∀ j, j < 18 → (TX1 j).1 = RX1 := by decide +kernel
  refine va_put (D := E.1) (ci := 1) (C := RX1) (T := TX1) (N := 18) (ty := tyX1 j) B.1.1 B.1.2.1 B.1.2.2.2.2 in1 tyX1 tyX1_ok nmX1 B.1.2.2.2.1 B.2.1 hP (wl_D E _ _) hS k (fs := fl1 E k (ρ k)) ?_ rfl j hj (B.1.2.2.2.2 _ hw) (fun x hx => by rw [e j hj] at hx; exact hx) hfin (tyX1_ok j hj) hn hfit (by simp [fl1]; exact hj) hd (fun H1 locs1 h1 _ h3 => ?_)
  · rw [wl_at hlt]; show some (_, hcc E k (ρ k)) = _; rw [hcc1 _ _ h]
  · refine kk H1 locs1 ?_ h3
    rw [wl_set hlt, hset, ← hcc1 _ _ h, hcf_up] at h1
    exact h1
theorem get2 {k idx : Nat} (B : MB p s m args c cc nL own E) (hP : WP E ρ H) (h : hk k = 2) (j : Nat) (hj : j < 20) (hw : Cond.fieldLink own idx RX2 (TX2 j).2.1 (TX2 j).2.2.1 ∈ gw_all) {v : Value} (hv : (fl2 E k (ρ k))[j]? = some v) (hd : decode cc pc = .ok (.getfield idx, 3)) (kk : W p l e R s m args below meth c H locs cells slots Q (F0 m (pc + 3) ls (v :: rest))) : W p l e R s m args below meth c H locs cells slots Q (F0 m pc ls (.ref (E.2.1 + k) :: rest)) := by
  have hlt := hk_lt h (by decide)
  refine va_get (D := E.1) (ci := 2) (C := RX2) (T := TX2) (N := 20) B.1.1 B.1.2.1 B.1.2.2.2.2 in2 B.1.2.2.2.1 B.2.1 hP k (fs := fl2 E k (ρ k)) ?_ rfl j hj (B.1.2.2.2.2 _ hw) (fun x hx => ?_) hv hd kk
  · rw [wl_at hlt]; show some (_, hcc E k (ρ k)) = _; rw [hcc2 _ _ h]
  · have e : ∀ j, j < 20 → (TX2 j).1 = RX2 := by decide +kernel
    rw [e j hj] at hx; exact hx
theorem put2 {k idx : Nat} {v : Int32} (B : MB p s m args c cc nL own E) (hP : WP E ρ H) (hS : va_S (hA E) s.heap H locs) (h : hk k = 2) (j : Nat) (hj : j < 20) (hw : Cond.fieldLink own idx RX2 (TX2 j).2.1 (TX2 j).2.2.1 ∈ gw_all) (hfin : (TX2 j).2.2.2 = false) (hn : narrow (tyX2 j) (.int v) = .int v) (hfit : fits (tyX2 j) (.int v) = true) (hset : (fl2 E k (ρ k)).set j (.int v) = fl2 E k (upd (ρ k) j v)) (hd : decode cc pc = .ok (.putfield idx, 3)) (kk : ∀ (H' : Heap) (locs' : List Loc), WP E (up ρ k j v) H' → va_S (hA E) s.heap H' locs' → W p l e R s m args below meth c H' locs' cells slots Q (F0 m (pc + 3) ls rest)) : W p l e R s m args below meth c H locs cells slots Q (F0 m pc ls (.int v :: .ref (E.2.1 + k) :: rest)) := by
  have hlt := hk_lt h (by decide)
  have e : ∀ j, j < 20 → (TX2 j).1 = RX2 := by decide +kernel
  refine va_put (D := E.1) (ci := 2) (C := RX2) (T := TX2) (N := 20) (ty := tyX2 j) B.1.1 B.1.2.1 B.1.2.2.2.2 in2 tyX2 tyX2_ok nmX2 B.1.2.2.2.1 B.2.1 hP (wl_D E _ _) hS k (fs := fl2 E k (ρ k)) ?_ rfl j hj (B.1.2.2.2.2 _ hw) (fun x hx => by rw [e j hj] at hx; exact hx) hfin (tyX2_ok j hj) hn hfit (by simp [fl2]; exact hj) hd (fun H1 locs1 h1 _ h3 => ?_)
  · rw [wl_at hlt]; show some (_, hcc E k (ρ k)) = _; rw [hcc2 _ _ h]
  · refine kk H1 locs1 ?_ h3
    rw [wl_set hlt, hset, ← hcc2 _ _ h, hcf_up] at h1
    exact h1
theorem get3 {k idx : Nat} (B : MB p s m args c cc nL own E) (hP : WP E ρ H) (h : hk k = 3) (j : Nat) (hj : j < 3) (hw : Cond.fieldLink own idx RX3 (TX3 j).2.1 (TX3 j).2.2.1 ∈ gw_all) {v : Value} (hv : (fl3 E k (ρ k))[j]? = some v) (hd : decode cc pc = .ok (.getfield idx, 3)) (kk : W p l e R s m args below meth c H locs cells slots Q (F0 m (pc + 3) ls (v :: rest))) : W p l e R s m args below meth c H locs cells slots Q (F0 m pc ls (.ref (E.2.1 + k) :: rest)) := by
  have hlt := hk_lt h (by decide)
  refine va_get (D := E.1) (ci := 3) (C := RX3) (T := TX3) (N := 3) B.1.1 B.1.2.1 B.1.2.2.2.2 in3 B.1.2.2.2.1 B.2.1 hP k (fs := fl3 E k (ρ k)) ?_ rfl j hj (B.1.2.2.2.2 _ hw) (fun x hx => ?_) hv hd kk
  · rw [wl_at hlt]; show some (_, hcc E k (ρ k)) = _; rw [hcc3 _ _ h]
  · have e : ∀ j, j < 3 → (TX3 j).1 = RX3 := by decide +kernel
    rw [e j hj] at hx; exact hx
theorem put3 {k idx : Nat} {v : Int32} (B : MB p s m args c cc nL own E) (hP : WP E ρ H) (hS : va_S (hA E) s.heap H locs) (h : hk k = 3) (j : Nat) (hj : j < 3) (hw : Cond.fieldLink own idx RX3 (TX3 j).2.1 (TX3 j).2.2.1 ∈ gw_all) (hfin : (TX3 j).2.2.2 = false) (hn : narrow (tyX3 j) (.int v) = .int v) (hfit : fits (tyX3 j) (.int v) = true) (hset : (fl3 E k (ρ k)).set j (.int v) = fl3 E k (upd (ρ k) j v)) (hd : decode cc pc = .ok (.putfield idx, 3)) (kk : ∀ (H' : Heap) (locs' : List Loc), WP E (up ρ k j v) H' → va_S (hA E) s.heap H' locs' → W p l e R s m args below meth c H' locs' cells slots Q (F0 m (pc + 3) ls rest)) : W p l e R s m args below meth c H locs cells slots Q (F0 m pc ls (.int v :: .ref (E.2.1 + k) :: rest)) := by
  have hlt := hk_lt h (by decide)
  have e : ∀ j, j < 3 → (TX3 j).1 = RX3 := by decide +kernel
  refine va_put (D := E.1) (ci := 3) (C := RX3) (T := TX3) (N := 3) (ty := tyX3 j) B.1.1 B.1.2.1 B.1.2.2.2.2 in3 tyX3 tyX3_ok nmX3 B.1.2.2.2.1 B.2.1 hP (wl_D E _ _) hS k (fs := fl3 E k (ρ k)) ?_ rfl j hj (B.1.2.2.2.2 _ hw) (fun x hx => by rw [e j hj] at hx; exact hx) hfin (tyX3_ok j hj) hn hfit (by simp [fl3]; exact hj) hd (fun H1 locs1 h1 _ h3 => ?_)
  · rw [wl_at hlt]; show some (_, hcc E k (ρ k)) = _; rw [hcc3 _ _ h]
  · refine kk H1 locs1 ?_ h3
    rw [wl_set hlt, hset, ← hcc3 _ _ h, hcf_up] at h1
    exact h1
theorem get4 {k idx : Nat} (B : MB p s m args c cc nL own E) (hP : WP E ρ H) (h : hk k = 4) (j : Nat) (hj : j < 8) (hw : Cond.fieldLink own idx RX4 (TX4 j).2.1 (TX4 j).2.2.1 ∈ gw_all) {v : Value} (hv : (fl4 E k (ρ k))[j]? = some v) (hd : decode cc pc = .ok (.getfield idx, 3)) (kk : W p l e R s m args below meth c H locs cells slots Q (F0 m (pc + 3) ls (v :: rest))) : W p l e R s m args below meth c H locs cells slots Q (F0 m pc ls (.ref (E.2.1 + k) :: rest)) := by
  have hlt := hk_lt h (by decide)
  refine va_get (D := E.1) (ci := 4) (C := RX4) (T := TX4) (N := 8) B.1.1 B.1.2.1 B.1.2.2.2.2 in4 B.1.2.2.2.1 B.2.1 hP k (fs := fl4 E k (ρ k)) ?_ rfl j hj (B.1.2.2.2.2 _ hw) (fun x hx => ?_) hv hd kk
  · rw [wl_at hlt]; show some (_, hcc E k (ρ k)) = _; rw [hcc4 _ _ h]
  · have e : ∀ j, j < 8 → (TX4 j).1 = RX4 := by decide +kernel
    rw [e j hj] at hx; exact hx
theorem put4 {k idx : Nat} {v : Int32} (B : MB p s m args c cc nL own E) (hP : WP E ρ H) (hS : va_S (hA E) s.heap H locs) (h : hk k = 4) (j : Nat) (hj : j < 8) (hw : Cond.fieldLink own idx RX4 (TX4 j).2.1 (TX4 j).2.2.1 ∈ gw_all) (hfin : (TX4 j).2.2.2 = false) (hn : narrow (tyX4 j) (.int v) = .int v) (hfit : fits (tyX4 j) (.int v) = true) (hset : (fl4 E k (ρ k)).set j (.int v) = fl4 E k (upd (ρ k) j v)) (hd : decode cc pc = .ok (.putfield idx, 3)) (kk : ∀ (H' : Heap) (locs' : List Loc), WP E (up ρ k j v) H' → va_S (hA E) s.heap H' locs' → W p l e R s m args below meth c H' locs' cells slots Q (F0 m (pc + 3) ls rest)) : W p l e R s m args below meth c H locs cells slots Q (F0 m pc ls (.int v :: .ref (E.2.1 + k) :: rest)) := by
  have hlt := hk_lt h (by decide)
  have e : ∀ j, j < 8 → (TX4 j).1 = RX4 := by decide +kernel
  refine va_put (D := E.1) (ci := 4) (C := RX4) (T := TX4) (N := 8) (ty := tyX4 j) B.1.1 B.1.2.1 B.1.2.2.2.2 in4 tyX4 tyX4_ok nmX4 B.1.2.2.2.1 B.2.1 hP (wl_D E _ _) hS k (fs := fl4 E k (ρ k)) ?_ rfl j hj (B.1.2.2.2.2 _ hw) (fun x hx => by rw [e j hj] at hx; exact hx) hfin (tyX4_ok j hj) hn hfit (by simp [fl4]; exact hj) hd (fun H1 locs1 h1 _ h3 => ?_)
  · rw [wl_at hlt]; show some (_, hcc E k (ρ k)) = _; rw [hcc4 _ _ h]
  · refine kk H1 locs1 ?_ h3
    rw [wl_set hlt, hset, ← hcc4 _ _ h, hcf_up] at h1
    exact h1
theorem get5 {k idx : Nat} (B : MB p s m args c cc nL own E) (hP : WP E ρ H) (h : hk k = 5) (j : Nat) (hj : j < 10) (hw : Cond.fieldLink own idx RX5 (TX5 j).2.1 (TX5 j).2.2.1 ∈ gw_all) {v : Value} (hv : (fl5 E k (ρ k))[j]? = some v) (hd : decode cc pc = .ok (.getfield idx, 3)) (kk : W p l e R s m args below meth c H locs cells slots Q (F0 m (pc + 3) ls (v :: rest))) : W p l e R s m args below meth c H locs cells slots Q (F0 m pc ls (.ref (E.2.1 + k) :: rest)) := by
  have hlt := hk_lt h (by decide)
  refine va_get (D := E.1) (ci := 5) (C := RX5) (T := TX5) (N := 10) B.1.1 B.1.2.1 B.1.2.2.2.2 in5 B.1.2.2.2.1 B.2.1 hP k (fs := fl5 E k (ρ k)) ?_ rfl j hj (B.1.2.2.2.2 _ hw) (fun x hx => ?_) hv hd kk
  · rw [wl_at hlt]; show some (_, hcc E k (ρ k)) = _; rw [hcc5 _ _ h]
  · have e : ∀ j, j < 10 → (TX5 j).1 = RX5 := by decide +kernel
    rw [e j hj] at hx; exact hx
theorem put5 {k idx : Nat} {v : Int32} (B : MB p s m args c cc nL own E) (hP : WP E ρ H) (hS : va_S (hA E) s.heap H locs) (h : hk k = 5) (j : Nat) (hj : j < 10) (hw : Cond.fieldLink own idx RX5 (TX5 j).2.1 (TX5 j).2.2.1 ∈ gw_all) (hfin : (TX5 j).2.2.2 = false) (hn : narrow (tyX5 j) (.int v) = .int v) (hfit : fits (tyX5 j) (.int v) = true) (hset : (fl5 E k (ρ k)).set j (.int v) = fl5 E k (upd (ρ k) j v)) (hd : decode cc pc = .ok (.putfield idx, 3)) (kk : ∀ (H' : Heap) (locs' : List Loc), WP E (up ρ k j v) H' → va_S (hA E) s.heap H' locs' → W p l e R s m args below meth c H' locs' cells slots Q (F0 m (pc + 3) ls rest)) : W p l e R s m args below meth c H locs cells slots Q (F0 m pc ls (.int v :: .ref (E.2.1 + k) :: rest)) := by
  have hlt := hk_lt h (by decide)
  have e : ∀ j, j < 10 → (TX5 j).1 = RX5 := by decide +kernel
  refine va_put (D := E.1) (ci := 5) (C := RX5) (T := TX5) (N := 10) (ty := tyX5 j) B.1.1 B.1.2.1 B.1.2.2.2.2 in5 tyX5 tyX5_ok nmX5 B.1.2.2.2.1 B.2.1 hP (wl_D E _ _) hS k (fs := fl5 E k (ρ k)) ?_ rfl j hj (B.1.2.2.2.2 _ hw) (fun x hx => by rw [e j hj] at hx; exact hx) hfin (tyX5_ok j hj) hn hfit (by simp [fl5]; exact hj) hd (fun H1 locs1 h1 _ h3 => ?_)
  · rw [wl_at hlt]; show some (_, hcc E k (ρ k)) = _; rw [hcc5 _ _ h]
  · refine kk H1 locs1 ?_ h3
    rw [wl_set hlt, hset, ← hcc5 _ _ h, hcf_up] at h1
    exact h1
theorem get6 {k idx : Nat} (B : MB p s m args c cc nL own E) (hP : WP E ρ H) (h : hk k = 6) (j : Nat) (hj : j < 12) (hw : Cond.fieldLink own idx RX6 (TX6 j).2.1 (TX6 j).2.2.1 ∈ gw_all) {v : Value} (hv : (fl6 E k (ρ k))[j]? = some v) (hd : decode cc pc = .ok (.getfield idx, 3)) (kk : W p l e R s m args below meth c H locs cells slots Q (F0 m (pc + 3) ls (v :: rest))) : W p l e R s m args below meth c H locs cells slots Q (F0 m pc ls (.ref (E.2.1 + k) :: rest)) := by
  have hlt := hk_lt h (by decide)
  refine va_get (D := E.1) (ci := 6) (C := RX6) (T := TX6) (N := 12) B.1.1 B.1.2.1 B.1.2.2.2.2 in6 B.1.2.2.2.1 B.2.1 hP k (fs := fl6 E k (ρ k)) ?_ rfl j hj (B.1.2.2.2.2 _ hw) (fun x hx => ?_) hv hd kk
  · rw [wl_at hlt]; show some (_, hcc E k (ρ k)) = _; rw [hcc6 _ _ h]
  · have e : ∀ j, j < 12 → (TX6 j).1 = RX6 := by decide +kernel
    rw [e j hj] at hx; exact hx
theorem put6 {k idx : Nat} {v : Int32} (B : MB p s m args c cc nL own E) (hP : WP E ρ H) (hS : va_S (hA E) s.heap H locs) (h : hk k = 6) (j : Nat) (hj : j < 12) (hw : Cond.fieldLink own idx RX6 (TX6 j).2.1 (TX6 j).2.2.1 ∈ gw_all) (hfin : (TX6 j).2.2.2 = false) (hn : narrow (tyX6 j) (.int v) = .int v) (hfit : fits (tyX6 j) (.int v) = true) (hset : (fl6 E k (ρ k)).set j (.int v) = fl6 E k (upd (ρ k) j v)) (hd : decode cc pc = .ok (.putfield idx, 3)) (kk : ∀ (H' : Heap) (locs' : List Loc), WP E (up ρ k j v) H' → va_S (hA E) s.heap H' locs' → W p l e R s m args below meth c H' locs' cells slots Q (F0 m (pc + 3) ls rest)) : W p l e R s m args below meth c H locs cells slots Q (F0 m pc ls (.int v :: .ref (E.2.1 + k) :: rest)) := by
  have hlt := hk_lt h (by decide)
  have e : ∀ j, j < 12 → (TX6 j).1 = RX6 := by decide +kernel
  refine va_put (D := E.1) (ci := 6) (C := RX6) (T := TX6) (N := 12) (ty := tyX6 j) B.1.1 B.1.2.1 B.1.2.2.2.2 in6 tyX6 tyX6_ok nmX6 B.1.2.2.2.1 B.2.1 hP (wl_D E _ _) hS k (fs := fl6 E k (ρ k)) ?_ rfl j hj (B.1.2.2.2.2 _ hw) (fun x hx => by rw [e j hj] at hx; exact hx) hfin (tyX6_ok j hj) hn hfit (by simp [fl6]; exact hj) hd (fun H1 locs1 h1 _ h3 => ?_)
  · rw [wl_at hlt]; show some (_, hcc E k (ρ k)) = _; rw [hcc6 _ _ h]
  · refine kk H1 locs1 ?_ h3
    rw [wl_set hlt, hset, ← hcc6 _ _ h, hcf_up] at h1
    exact h1
theorem get7 {k idx : Nat} (B : MB p s m args c cc nL own E) (hP : WP E ρ H) (h : hk k = 7) (j : Nat) (hj : j < 18) (hw : Cond.fieldLink own idx RX7 (TX7 j).2.1 (TX7 j).2.2.1 ∈ gw_all) {v : Value} (hv : (fl7 E k (ρ k))[j]? = some v) (hd : decode cc pc = .ok (.getfield idx, 3)) (kk : W p l e R s m args below meth c H locs cells slots Q (F0 m (pc + 3) ls (v :: rest))) : W p l e R s m args below meth c H locs cells slots Q (F0 m pc ls (.ref (E.2.1 + k) :: rest)) := by
  have hlt := hk_lt h (by decide)
  refine va_get (D := E.1) (ci := 7) (C := RX7) (T := TX7) (N := 18) B.1.1 B.1.2.1 B.1.2.2.2.2 in7 B.1.2.2.2.1 B.2.1 hP k (fs := fl7 E k (ρ k)) ?_ rfl j hj (B.1.2.2.2.2 _ hw) (fun x hx => ?_) hv hd kk
  · rw [wl_at hlt]; show some (_, hcc E k (ρ k)) = _; rw [hcc7 _ _ h]
  · have e : ∀ j, j < 18 → (TX7 j).1 = RX7 := by decide +kernel
    rw [e j hj] at hx; exact hx
theorem put7 {k idx : Nat} {v : Int32} (B : MB p s m args c cc nL own E) (hP : WP E ρ H) (hS : va_S (hA E) s.heap H locs) (h : hk k = 7) (j : Nat) (hj : j < 18) (hw : Cond.fieldLink own idx RX7 (TX7 j).2.1 (TX7 j).2.2.1 ∈ gw_all) (hfin : (TX7 j).2.2.2 = false) (hn : narrow (tyX7 j) (.int v) = .int v) (hfit : fits (tyX7 j) (.int v) = true) (hset : (fl7 E k (ρ k)).set j (.int v) = fl7 E k (upd (ρ k) j v)) (hd : decode cc pc = .ok (.putfield idx, 3)) (kk : ∀ (H' : Heap) (locs' : List Loc), WP E (up ρ k j v) H' → va_S (hA E) s.heap H' locs' → W p l e R s m args below meth c H' locs' cells slots Q (F0 m (pc + 3) ls rest)) : W p l e R s m args below meth c H locs cells slots Q (F0 m pc ls (.int v :: .ref (E.2.1 + k) :: rest)) := by
  have hlt := hk_lt h (by decide)
  have e : ∀ j, j < 18 → (TX7 j).1 = RX7 := by decide +kernel
  refine va_put (D := E.1) (ci := 7) (C := RX7) (T := TX7) (N := 18) (ty := tyX7 j) B.1.1 B.1.2.1 B.1.2.2.2.2 in7 tyX7 tyX7_ok nmX7 B.1.2.2.2.1 B.2.1 hP (wl_D E _ _) hS k (fs := fl7 E k (ρ k)) ?_ rfl j hj (B.1.2.2.2.2 _ hw) (fun x hx => by rw [e j hj] at hx; exact hx) hfin (tyX7_ok j hj) hn hfit (by simp [fl7]; exact hj) hd (fun H1 locs1 h1 _ h3 => ?_)
  · rw [wl_at hlt]; show some (_, hcc E k (ρ k)) = _; rw [hcc7 _ _ h]
  · refine kk H1 locs1 ?_ h3
    rw [wl_set hlt, hset, ← hcc7 _ _ h, hcf_up] at h1
    exact h1
/-- an int array -/
theorem ald {k n : Nat} {i : Int32} (B : MB p s m args c cc nL own E) (hP : WP E ρ H) (h : hk k = 8) (hl : hlen k = n) (hin : vp_in i n) (hd : decode cc pc = .ok (.iaload, 1)) (kk : W p l e R s m args below meth c H locs cells slots Q (F0 m (pc + 1) ls (.int (ρ k i.toNatClampNeg) :: rest))) : W p l e R s m args below meth c H locs cells slots Q (F0 m pc ls (.int i :: .ref (E.2.1 + k) :: rest)) :=
  va_iald (D := E.1) B.1.1 B.1.2.1 B.2.1 hP k 0 (by rw [wl_at (hk_lt h (by decide))]; show some (_, hcc E k (ρ k)) = _; rw [hcc8 _ _ h]) rfl (by rw [hl]; exact hin) hd kk
theorem zld {k n : Nat} {i : Int32} (B : MB p s m args c cc nL own E) (hP : WP E ρ H) (h : hk k = 9) (hl : hlen k = n) (hin : vp_in i n) (hd : decode cc pc = .ok (.baload, 1)) (kk : W p l e R s m args below meth c H locs cells slots Q (F0 m (pc + 1) ls (.int (ρ k i.toNatClampNeg) :: rest))) : W p l e R s m args below meth c H locs cells slots Q (F0 m pc ls (.int i :: .ref (E.2.1 + k) :: rest)) :=
  va_zald (D := E.1) B.1.1 B.1.2.1 B.2.1 hP k 1 (by rw [wl_at (hk_lt h (by decide))]; show some (_, hcc E k (ρ k)) = _; rw [hcc9 _ _ h]) rfl (by rw [hl]; exact hin) hd kk
theorem ast {k n : Nat} {i x : Int32} (B : MB p s m args c cc nL own E) (hP : WP E ρ H) (hS : va_S (hA E) s.heap H locs) (h : hk k = 8) (hl : hlen k = n) (hin : vp_in i n) (hd : decode cc pc = .ok (.iastore, 1)) (kk : ∀ (H' : Heap) (locs' : List Loc), WP E (up ρ k i.toNatClampNeg x) H' → va_S (hA E) s.heap H' locs' → W p l e R s m args below meth c H' locs' cells slots Q (F0 m (pc + 1) ls rest)) : W p l e R s m args below meth c H locs cells slots Q (F0 m pc ls (.int x :: .int i :: .ref (E.2.1 + k) :: rest)) := by
  have hlt := hk_lt h (by decide)
  refine va_iast (D := E.1) (cA := E.2.2.1 0) (n := hlen k) (f := ρ k) B.1.1 B.1.2.1 B.2.1 hP (wl_D E _ _) hS k 0 ?_ rfl (by rw [hl]; exact hin) hd (fun H1 locs1 h1 _ h3 => ?_)
  · rw [wl_at hlt]; show some (_, hcc E k (ρ k)) = _; rw [hcc8 _ _ h]
  · refine kk H1 locs1 ?_ h3
    rw [wl_set hlt, ← hcc8 _ _ h, hcf_up] at h1
    exact h1
theorem zst {k n : Nat} {i x : Int32} (B : MB p s m args c cc nL own E) (hP : WP E ρ H) (hS : va_S (hA E) s.heap H locs) (h : hk k = 9) (hl : hlen k = n) (hin : vp_in i n) (hx : vp_nar .boolean x = x) (hd : decode cc pc = .ok (.bastore, 1)) (kk : ∀ (H' : Heap) (locs' : List Loc), WP E (up ρ k i.toNatClampNeg x) H' → va_S (hA E) s.heap H' locs' → W p l e R s m args below meth c H' locs' cells slots Q (F0 m (pc + 1) ls rest)) : W p l e R s m args below meth c H locs cells slots Q (F0 m pc ls (.int x :: .int i :: .ref (E.2.1 + k) :: rest)) := by
  have hlt := hk_lt h (by decide)
  refine va_zast (D := E.1) (cA := E.2.2.1 1) (n := hlen k) (f := ρ k) B.1.1 B.1.2.1 B.2.1 hP (wl_D E _ _) hS k 1 ?_ rfl (by rw [hl]; exact hin) hd (fun H1 locs1 h1 _ h3 => ?_)
  · rw [wl_at hlt]; show some (_, hcc E k (ρ k)) = _; rw [hcc9 _ _ h]
  · refine kk H1 locs1 ?_ h3
    rw [hx, wl_set hlt, ← hcc9 _ _ h, hcf_up] at h1
    exact h1
theorem alen8 {k n : Nat} {v : Int32} (B : MB p s m args c cc nL own E) (hP : WP E ρ H) (h : hk k = 8) (hl : hlen k = n) (hv : Int32.ofNat n = v) (hd : decode cc pc = .ok (.arraylength, 1)) (kk : W p l e R s m args below meth c H locs cells slots Q (F0 m (pc + 1) ls (.int v :: rest))) : W p l e R s m args below meth c H locs cells slots Q (F0 m pc ls (.ref (E.2.1 + k) :: rest)) :=
  va_alen (D := E.1) (x := (hlen k, .inl (ρ k))) B.1.1 B.1.2.1 B.2.1 hP k 0 (by rw [wl_at (hk_lt h (by decide))]; show some (_, hcc E k (ρ k)) = _; rw [hcc8 _ _ h]) (ty := .int) rfl (by show Int32.ofNat (hlen k) = v; rw [hl]; exact hv) hd kk
/-- nets[n], images[i], past[i], links[i] -/
theorem aldN {k : Nat} {i : Int32} (B : MB p s m args c cc nL own E) (hP : WP E ρ H) (h : hk k = 11) (hin : vp_in i 2) (hl : hlen k = 2) (hd : decode cc pc = .ok (.aaload, 1)) (kk : W p l e R s m args below meth c H locs cells slots Q (F0 m (pc + 1) ls (.ref (E.2.1 + (k + 1 + 42 * i.toNatClampNeg)) :: rest))) : W p l e R s m args below meth c H locs cells slots Q (F0 m pc ls (.int i :: .ref (E.2.1 + k) :: rest)) :=
  va_aldq (D := E.1) (C := RX2) (f := fun i => some (E.2.1 + (k + 1 + 42 * i))) B.1.1 B.1.2.1 B.2.1 hP k 3 (by rw [wl_at (hk_lt h (by decide))]; show some (_, hcc E k (ρ k)) = _; rw [hcc11 _ _ h]) rfl (by rw [hl]; exact hin) hd kk
theorem aldW {k n : Nat} {i : Int32} (B : MB p s m args c cc nL own E) (hP : WP E ρ H) (h : hk k = 12) (hl : hlen k = n) (hin : vp_in i n) (hd : decode cc pc = .ok (.aaload, 1)) (kk : W p l e R s m args below meth c H locs cells slots Q (F0 m (pc + 1) ls (.ref (E.2.1 + (hw k + 89 * i.toNatClampNeg)) :: rest))) : W p l e R s m args below meth c H locs cells slots Q (F0 m pc ls (.int i :: .ref (E.2.1 + k) :: rest)) :=
  va_aldq (D := E.1) (C := RX5) (f := fun i => some (E.2.1 + (hw k + 89 * i))) B.1.1 B.1.2.1 B.2.1 hP k 4 (by rw [wl_at (hk_lt h (by decide))]; show some (_, hcc E k (ρ k)) = _; rw [hcc12 _ _ h]) rfl (by rw [hl]; exact hin) hd kk
theorem aldL {k : Nat} {i : Int32} (B : MB p s m args c cc nL own E) (hP : WP E ρ H) (h : hk k = 10) (hl : hlen k = 4) (hin : vp_in i 4) (hd : decode cc pc = .ok (.aaload, 1)) (kk : W p l e R s m args below meth c H locs cells slots Q (F0 m (pc + 1) ls (.ref (E.2.1 + (ρ k i.toNatClampNeg).toNatClampNeg) :: rest))) : W p l e R s m args below meth c H locs cells slots Q (F0 m pc ls (.int i :: .ref (E.2.1 + k) :: rest)) :=
  va_aldq (D := E.1) (C := RX1) (f := fun i => some (E.2.1 + (ρ k i).toNatClampNeg)) B.1.1 B.1.2.1 B.2.1 hP k 2 (by rw [wl_at (hk_lt h (by decide))]; show some (_, hcc E k (ρ k)) = _; rw [hcc10 _ _ h]) rfl (by rw [hl]; exact hin) hd kk
/-- System.arraycopy of ints, whole rows -/
theorem acopy {k0 k1 n idx : Nat} {n32 : Int32} (B : MB p s m args c cc nL own E) (hP : WP E ρ H) (hS : va_S (hA E) s.heap H locs) (h0 : hk k0 = 8) (h1 : hk k1 = 8) (l0 : hlen k0 = n) (l1 : hlen k1 = n) (hn : n32 = nI n) (hn31 : n < 2 ^ 31) (hsz : ls.size = nL) (hw : Cond.methodLink own idx arraycopyName ∈ gw_all) (hwn : Cond.native arraycopyName ∈ gw_all) (hws : Cond.static arraycopyName ∈ gw_all) (hwi : Cond.initialized RJ10 ∈ gw_all) (hfr : 1 ≤ R.frames) (hlo : (rest.map fun v => v.category).sum + (nativeFrameWords "java/lang/System" "arraycopy" 5 + 11) ≤ R.locals) (hd : decode cc pc = .ok (.invokestatic idx, 3))
    (kk : ∀ (H' : Heap) (locs' : List Loc), WP E (upc ρ k1 (va_cpy (ρ k0) (ρ k1) 0 0 n)) H' → va_S (hA E) s.heap H' locs' → W p l e R s m args below meth c H' locs' cells slots Q (F0 m (pc + 3) ls rest)) : W p l e R s m args below meth c H locs cells slots Q (F0 m pc ls (.int n32 :: .int 0 :: .ref (E.2.1 + k1) :: .int 0 :: .ref (E.2.1 + k0) :: rest)) := by
  have hlt0 := hk_lt h0 (by decide)
  have hlt1 := hk_lt h1 (by decide)
  subst hn
  have z0 : (0 : Int32).toNatClampNeg = 0 := rfl
  refine va_copyi (D := E.1) (c0 := E.2.2.1 0) (c1 := E.2.2.1 0) (n0 := hlen k0) (n1 := hlen k1) (f := ρ k0) (g := ρ k1) (ty := .int) B.1.1 B.1.2.1 (by rw [hsz]; exact B.1.2.2.1) B.1.2.2.2.1 (B.1.2.2.2.2 _ hw) (B.1.2.2.2.2 _ hwn) (B.1.2.2.2.2 _ hws) (B.1.2.2.2.2 _ hwi) B.2.1 hP (wl_D E _ _) hS k0 k1 0 0 ?_ ?_ rfl rfl rfl (by decide) (by decide) (nI_pos hn31) ?_ ?_ (fun _ _ => rfl) hfr hlo hd (fun H1 locs1 q1 _ q3 => ?_)
  · rw [wl_at hlt0]; show some (_, hcc E k0 (ρ k0)) = _; rw [hcc8 _ _ h0]
  · rw [wl_at hlt1]; show some (_, hcc E k1 (ρ k1)) = _; rw [hcc8 _ _ h1]
  · rw [z0, nI_clamp hn31, l0]; omega
  · rw [z0, nI_clamp hn31, l1]; omega
  · refine kk H1 locs1 ?_ q3
    rw [wl_set hlt1, z0, nI_clamp hn31, ← hcc8 _ _ h1, hcf_up] at q1
    exact q1
end XR
