def sel : List (Nat × va_E) → Nat → va_E → va_E
  | [], _, d => d
  | (a, e) :: op, j, d => if j = a then e else sel op j d
theorem sel_hd {a : Nat} {e d : va_E} {op : List (Nat × va_E)} : sel ((a, e) :: op) a d = e := if_pos rfl
theorem sel_tl {a j : Nat} {e d : va_E} {op : List (Nat × va_E)} (h : j ≠ a) : sel ((a, e) :: op) j d = sel op j d := if_neg h
theorem sel_cases : ∀ (op : List (Nat × va_E)) (j : Nat) (d : va_E), (sel op j d = d ∧ ∀ q ∈ op, q.1 ≠ j) ∨ ∃ q ∈ op, q.1 = j ∧ sel op j d = q.2
  | [], j, d => Or.inl ⟨rfl, fun q h => absurd h List.not_mem_nil⟩
  | (a, e) :: op, j, d => by
    by_cases h : j = a
    · subst h
      exact Or.inr ⟨(j, e), List.mem_cons_self, rfl, sel_hd⟩
    · rw [sel_tl h]
      rcases sel_cases op j d with ⟨h1, h2⟩ | ⟨q, h1, h2, h3⟩
      · exact Or.inl ⟨h1, fun q hq => by
          rcases List.mem_cons.mp hq with rfl | hq
          · exact fun z => h z.symm
          · exact h2 q hq⟩
      · exact Or.inr ⟨q, List.mem_cons_of_mem _ h1, h2, h3⟩
theorem sel_none {op : List (Nat × va_E)} {j : Nat} {d : va_E} (h : ∀ q ∈ op, q.1 ≠ j) : sel op j d = d := by
  rcases sel_cases op j d with ⟨h1, -⟩ | ⟨q, h1, h2, -⟩
  · exact h1
  · exact absurd h2 (h q h1)
/-- what the cells hold while the object at k is made: op are the open ones -/
def ct (E : hE) (C0 : Nat → va_E) (k : Nat) (op : List (Nat × va_E)) : Nat → va_E := fun j => sel op j (if j < k then C0 j else hcc E j (r0 j))
theorem ct_push {E : hE} {C0 : Nat → va_E} {k a : Nat} {op : List (Nat × va_E)} {e : va_E} : va_up (ct E C0 k op) a e = ct E C0 k ((a, e) :: op) := by
  funext j
  by_cases h : j = a
  · subst h; simp [va_up, ct, sel]
  · simp [va_up, ct, sel, h]
theorem ct_up0 {E : hE} {C0 : Nat → va_E} {k a : Nat} {op : List (Nat × va_E)} {e e0 : va_E} : va_up (ct E C0 k ((a, e0) :: op)) a e = ct E C0 k ((a, e) :: op) := by
  funext j
  by_cases h : j = a
  · subst h; simp [va_up, ct, sel]
  · simp [va_up, ct, sel, h]
theorem ct_up1 {E : hE} {C0 : Nat → va_E} {k a b : Nat} {op : List (Nat × va_E)} {e e0 x : va_E} (hb : a ≠ b) : va_up (ct E C0 k ((b, x) :: (a, e0) :: op)) a e = ct E C0 k ((b, x) :: (a, e) :: op) := by
  funext j
  by_cases h : j = a
  · subst h; simp [va_up, ct, sel, hb]
  · by_cases h2 : j = b
    · subst h2; simp [va_up, ct, sel, h]
    · simp [va_up, ct, sel, h, h2]
theorem ct_up2 {E : hE} {C0 : Nat → va_E} {k a b b2 : Nat} {op : List (Nat × va_E)} {e e0 x x2 : va_E} (hb : a ≠ b) (hb2 : a ≠ b2) : va_up (ct E C0 k ((b, x) :: (b2, x2) :: (a, e0) :: op)) a e = ct E C0 k ((b, x) :: (b2, x2) :: (a, e) :: op) := by
  funext j
  by_cases h : j = a
  · subst h; simp [va_up, ct, sel, hb, hb2]
  · by_cases h2 : j = b
    · subst h2; simp [va_up, ct, sel, h]
    · by_cases h3 : j = b2
      · subst h3; simp [va_up, ct, sel, h, h2]
      · simp [va_up, ct, sel, h, h2, h3]
theorem ct_start {E : hE} {C : Nat → va_E} {k : Nat} {b : va_E} (h : C k = b) : wl E (k + 1) C = wl E (k + 1) (ct E C k [(k, b)]) := by
  refine wl_ext (fun j hj => ?_)
  by_cases e : j = k
  · subst e; simp [ct, sel, h]
  · simp [ct, sel, e]
    intro q
    omega
theorem ct_call {E : hE} {C0 : Nat → va_E} {k N M : Nat} {op : List (Nat × va_E)} {b : va_E} (hop : ∀ q ∈ op, q.1 < N) (hk : k ≤ N) : wl E M (fun j => if j < N then ct E C0 k ((N, b) :: op) j else hcc E j (r0 j)) = wl E M (ct E C0 k op) := by
  refine wl_ext (fun j hj => ?_)
  by_cases e : j < N
  · show (if j < N then _ else _) = _
    rw [if_pos e]
    exact sel_tl (by omega)
  · show (if j < N then _ else _) = _
    rw [if_neg e]
    show _ = sel op j _
    rw [sel_none (fun q hq z => e (by rw [← z]; exact hop q hq)), if_neg (by omega)]
theorem ct_arr {E : hE} {C0 : Nat → va_E} {k N : Nat} {op : List (Nat × va_E)} {e : va_E} (hop : ∀ q ∈ op, q.1 < N) (hk : k ≤ N) (he : e = hcc E N (r0 N)) : wl E (N + 1) (va_up (ct E C0 k op) N e) = wl E (N + 1) (ct E C0 k op) := by
  refine wl_ext (fun j hj => ?_)
  by_cases q : j = N
  · subst q
    rw [he]
    show va_up (ct E C0 k op) j _ j = sel op j _
    rw [sel_none (fun q hq z => by have := hop q hq; omega), if_neg (by omega)]
    simp [va_up]
  · simp [va_up, q]
theorem wl_P {E : hE} {D : va_G} {cl : List vw_C} {N : Nat} {C : Nat → va_E} {H : Heap} : va_P D cl (wl E N C) H ↔ ∀ j, j < N → va_at D cl (E.2.1 + j, C j) H := by
  constructor
  · intro h j hj
    exact h j _ (wl_at hj)
  · intro h j q hq
    rw [wl_get] at hq
    by_cases e : j < N
    · rw [if_pos e] at hq
      cases hq
      exact h j e
    · rw [if_neg e] at hq
      cases hq
theorem ct_end {E : hE} {C0 : Nat → va_E} {k M : Nat} {op : List (Nat × va_E)} {H : Heap} (h : va_P E.1 vwCl (wl E M (ct E C0 k op)) H) (hk : ∀ q ∈ op, k ≤ q.1) (hc : ∀ q ∈ op, va_at E.1 vwCl (E.2.1 + q.1, q.2) H → va_at E.1 vwCl (E.2.1 + q.1, hcc E q.1 (r0 q.1)) H) : va_P E.1 vwCl (wl E M (fun j => if j < k then C0 j else hcc E j (r0 j))) H := by
  rw [wl_P] at h ⊢
  intro j hj
  have h1 := h j hj
  rcases sel_cases op j (if j < k then C0 j else hcc E j (r0 j)) with ⟨g1, -⟩ | ⟨q, g1, g2, g3⟩
  · have e : ct E C0 k op j = (if j < k then C0 j else hcc E j (r0 j)) := g1
    rw [e] at h1
    exact h1
  · have e : ct E C0 k op j = q.2 := g3
    rw [e] at h1
    have h2 := hc q g1
    rw [g2] at h2
    have := hk q g1
    rw [show (if j < k then C0 j else hcc E j (r0 j)) = hcc E j (r0 j) from if_neg (by omega)]
    exact h2 h1
theorem arrV_ext {c : ClassId} {n : Nat} {f g : Nat → Value} (h : ∀ i, i < n → f i = g i) : arrV c n f = arrV c n g := by
  unfold arrV
  congr 1
  congr 1
  funext i
  exact h i.val i.isLt
theorem va_at_q {D : va_G} {cl : List vw_C} {a n : Nat} {cA : ClassId} {f g : Nat → Option Nat} {H : Heap} (h : ∀ i, i < n → f i = g i) (ha : va_at D cl (a, .inl (cA, n, .inr (.inr (.inr (.inr f))))) H) : va_at D cl (a, .inl (cA, n, .inr (.inr (.inr (.inr g))))) H := by
  have ha : H[a]? = some (vp_cell cA (n, .inr (.inr (.inr (.inr f))))) := ha
  show H[a]? = some (vp_cell cA (n, .inr (.inr (.inr (.inr g)))))
  rw [ha, vp_cell_q, vp_cell_q, arrV_ext (fun i hi => by rw [h i hi])]
abbrev rmc (fr mc ms lo : Nat) : Room := { frames := fr, cells := mc, slots := ms, locals := lo }
def xPre (E : hE) (C : Nat → va_E) (N : Nat) (av : List Value) : Array Value → State → Prop := va_Pc av (fun U => (U.heap.size = E.2.1 + N ∧ va_P E.1 vwCl (wl E N C) U.heap) ∧ KK E U)
abbrev xQ (E : hE) (N : Nat) (C : Nat → va_E) : Array Value → State → Outcome → State → Prop := va_Qv (fun _ : Unit => True) (fun _ t => t.heap.size = E.2.1 + N ∧ va_P E.1 vwCl (wl E N C) t.heap) (hA E)
theorem xPre_blind {E : hE} {C : Nat → va_E} {N : Nat} {av : List Value} : FrameBlind (xPre E C N av) := fun a U g mk h => ⟨h.1, h.2.1, h.2.2.call g mk a⟩
theorem entC {l : Launch} {y : MethodName} {cc : ByteArray} {maxL : Nat} {fr mc ms lo N : Nat} {E : hE} {C : Nat → va_E} {av : List Value} {Qc : Array Value → State → Outcome → State → Prop} {own : String} (hy : plainName y.cls = true) (ho : y.cls = own) (hn : y.name = "<init>") (hlen : (lg_sl av).length ≤ maxL)
    (body : ∀ (p : Program) (e : Env) (s : State) (m : MethodId) (below : List Frame) (meth : Method) (c : Code) (ls : Array Slot), MB p s m av.toArray c cc maxL own E → meth.sig.returnType = none → meth.locks = false → meth.name = "<init>" → lv_has ls maxL (lv_args 0 av) → s.heap.size = E.2.1 + N → va_P E.1 vwCl (wl E N C) s.heap → va_S (hA E) s.heap s.heap [] → W p l e (rmc fr mc ms lo) s m av.toArray below meth c s.heap [] 0 0 (MQ below Qc av.toArray s mc ms (hA E)) (F0 m 0 ls [])) :
    Met l y (.code y cc maxL none :: gw_all) (rmc fr mc ms lo) (xPre E C N av) Qc mc ms (hA E) := by
  refine Met.ofW (cc := cc) (maxL := maxL) (ret := none) hy rfl ?_
  intro p e s m args below meth c s₁ B hml hv
  obtain ⟨rfl, ⟨hz, hP⟩, hK⟩ := hv
  rw [lg_entry_eq]
  have hts := atoms_spec (ws := .code y cc maxL none :: gw_all) B.pre
  exact body p e s m below meth c _ ⟨⟨B.exec, B.bytes, hml, by rw [← ho]; exact findClass_of_methodNamed B.named, fun w hw => hts w (List.mem_cons_of_mem _ hw)⟩, hK⟩ B.returns B.notSynchronized ((name_of_methodNamed B.named B.method).1.trans hn) (lv_entry av hlen) hz hP va_S.rf
section XC
variable {p : Program} {l : Launch} {e : Env} {R : Room} {s : State} {m : MethodId} {args : Array Value} {below : List Frame} {meth : Method} {c : Code} {H : Heap} {locs : List Loc} {cells slots : Nat} {Q : State → Prop} {cc : ByteArray} {nL pc N : Nat} {ls : Array Slot} {rest : List Value} {E : hE} {C : Nat → va_E} {own : String}
theorem ret_c {M : Nat} {C' : Nat → va_E} (B : MB p s m args c cc nL own E) (hr : meth.sig.returnType = none) (hlk : meth.locks = false) (hz : H.size = E.2.1 + M) (hP : va_P E.1 vwCl (wl E M C') H) (hS : va_S (hA E) s.heap H locs) (hd : decode cc pc = .ok (.return_, 1)) : W p l e R s m args below meth c H locs cells slots (MQ below (xQ E M C') args s cells slots (hA E)) (F0 m pc ls []) :=
  W.vret B.1.1 B.1.2.1 hr (fun t ht hW => ⟨⟨(), rfl, trivial, by rw [ht]; exact hz, by rw [ht]; exact hP⟩, hS.F ht⟩) hS.2.2 hd hlk
theorem S_push {H1 : Heap} (hS : va_S (hA E) s.heap H locs) (z : H1.size = H.size + 1) (o : ∀ q : Nat, q < H.size → H1[q]? = H[q]?) : va_S (hA E) s.heap H1 locs :=
  ⟨Nat.le_trans hS.1 (by omega), fun x h1 h2 => (o x (Nat.lt_of_lt_of_le h1 hS.1)).trans (hS.2.1 x h1 h2), hS.2.2⟩
theorem P_push {H1 : Heap} {x : va_E} (hz : H.size = E.2.1 + N) (hP : va_P E.1 vwCl (wl E N C) H) (o : ∀ q : Nat, q < H.size → H1[q]? = H[q]?) (hx : va_at E.1 vwCl (E.2.1 + N, x) H1) : va_P E.1 vwCl (wl E (N + 1) (va_up C N x)) H1 := by
  rw [wl_P] at hP ⊢
  intro j hj
  by_cases e : j = N
  · subst e
    simpa [va_up] using hx
  · have h1 := (hP j (by omega)).kept (H1 := H1) (o _ (by show E.2.1 + j < _; omega))
    simpa [va_up, e] using h1
theorem x_new {ci idx NF : Nat} {Cn : String} {T : u_T} {fs : List Value} (ty : Nat → FieldType) (B : MB p s m args c cc nL own E) (hz : H.size = E.2.1 + N) (hP : va_P E.1 vwCl (wl E N C) H) (hS : va_S (hA E) s.heap H locs) (hin : ∀ w ∈ u_ws Cn T NF, w ∈ gw_all) (hty : ∀ k, k < NF → parseFieldDescriptor (T k).2.2.1 = some (ty k)) (hcl : vwCl[ci]? = some (Cn, T, NF)) (hw1 : Cond.classLink own idx Cn ∈ gw_all) (hw2 : Cond.instantiable Cn NF ∈ gw_all) (hw3 : Cond.initialized Cn ∈ gw_all) (hfs : ∀ j, j < NF → defaultValue (ty j) = vp_V fs j) (hc : cells + 1 ≤ R.cells) (hs : slots + NF ≤ R.slots) (hd : decode cc pc = .ok (.new idx, 3))
    (kk : ∀ H' : Heap, H'.size = E.2.1 + (N + 1) → va_P E.1 vwCl (wl E (N + 1) (va_up C N (.inr (ci, fs)))) H' → va_S (hA E) s.heap H' locs → W p l e R s m args below meth c H' locs (cells + 1) (slots + NF) Q (F0 m (pc + 3) ls (.ref (E.2.1 + N) :: rest))) : W p l e R s m args below meth c H locs cells slots Q (F0 m pc ls rest) := by
  have hKn := B.2.1.1 ci _ hcl
  refine W.newcK B.1.1 B.1.2.1 B.1.2.2.2.1 (B.1.2.2.2.2 _ hw1) (B.1.2.2.2.2 _ hw2) (B.1.2.2.2.2 _ hw3) rfl hd hc hs hKn.2.1 hz fun H1 kC hkC e1 z1 o1 => ?_
  have o2 : ∀ q : Nat, q < H.size → H1[q]? = H[q]? := fun q h => o1 q (by rw [hz] at h; exact h)
  refine kk H1 (by rw [z1]; omega) (P_push hz hP o2 ?_) (S_push hS (by rw [z1, hz]) o2)
  exact ⟨_, hcl, (u_born ty B.1.2.2.2.2 hin hKn hkC e1 hty).to hfs⟩
theorem x_arrI {n : Int32} {n0 : Nat} (B : MB p s m args c cc nL own E) (hz : H.size = E.2.1 + N) (hP : va_P E.1 vwCl (wl E N C) H) (hS : va_S (hA E) s.heap H locs) (hw : Cond.arrayClass FieldType.int ∈ gw_all) (hn : ¬ n < 0) (hN : n.toNatClampNeg = n0) (hbytes : n0 * componentBytes .int ≤ 536870912) (hc : cells + 1 ≤ R.cells) (hs : slots + n0 ≤ R.slots) (hd : decode cc pc = .ok (.newarray .int, 2))
    (kk : ∀ H' : Heap, H'.size = E.2.1 + (N + 1) → va_P E.1 vwCl (wl E (N + 1) (va_up C N (.inl (E.2.2.1 0, n0, .inl (fun _ => 0))))) H' → va_S (hA E) s.heap H' locs → W p l e R s m args below meth c H' locs (cells + 1) (slots + n0) Q (F0 m (pc + 2) ls (.ref (E.2.1 + N) :: rest))) : W p l e R s m args below meth c H locs cells slots Q (F0 m pc ls (.int n :: rest)) := by
  refine va_newaK (atype := .int) B.1.1 B.1.2.1 (B.1.2.2.2.2 _ hw) rfl hd rfl hn hN hbytes hc hs hz fun H1 cA e1 z1 o1 _ hNm => ?_
  have o2 : ∀ q : Nat, q < H.size → H1[q]? = H[q]? := fun q h => o1 q (by rw [hz] at h; exact h)
  have hcy : s.vm.findClass ("[" ++ FieldType.int.toString) = some (E.2.2.1 0) := (B.2.1.2 0 (E.2.2.1 0, .int) rfl).2
  have hA : cA = E.2.2.1 0 := Option.some.inj (hNm.symm.trans hcy)
  subst hA
  exact kk H1 (by rw [z1]; omega) (P_push hz hP o2 e1) (S_push hS (by rw [z1, hz]) o2)
theorem x_arrZ {n : Int32} {n0 : Nat} (B : MB p s m args c cc nL own E) (hz : H.size = E.2.1 + N) (hP : va_P E.1 vwCl (wl E N C) H) (hS : va_S (hA E) s.heap H locs) (hw : Cond.arrayClass FieldType.boolean ∈ gw_all) (hn : ¬ n < 0) (hN : n.toNatClampNeg = n0) (hbytes : n0 * componentBytes .boolean ≤ 536870912) (hc : cells + 1 ≤ R.cells) (hs : slots + n0 ≤ R.slots) (hd : decode cc pc = .ok (.newarray .boolean, 2))
    (kk : ∀ H' : Heap, H'.size = E.2.1 + (N + 1) → va_P E.1 vwCl (wl E (N + 1) (va_up C N (.inl (E.2.2.1 1, n0, .inl (fun _ => 0))))) H' → va_S (hA E) s.heap H' locs → W p l e R s m args below meth c H' locs (cells + 1) (slots + n0) Q (F0 m (pc + 2) ls (.ref (E.2.1 + N) :: rest))) : W p l e R s m args below meth c H locs cells slots Q (F0 m pc ls (.int n :: rest)) := by
  refine va_newaK (atype := .boolean) B.1.1 B.1.2.1 (B.1.2.2.2.2 _ hw) rfl hd rfl hn hN hbytes hc hs hz fun H1 cA e1 z1 o1 _ hNm => ?_
  have o2 : ∀ q : Nat, q < H.size → H1[q]? = H[q]? := fun q h => o1 q (by rw [hz] at h; exact h)
  have hcy : s.vm.findClass ("[" ++ FieldType.boolean.toString) = some (E.2.2.1 1) := (B.2.1.2 1 (E.2.2.1 1, .boolean) rfl).2
  have hA : cA = E.2.2.1 1 := Option.some.inj (hNm.symm.trans hcy)
  subst hA
  exact kk H1 (by rw [z1]; omega) (P_push hz hP o2 e1) (S_push hS (by rw [z1, hz]) o2)
theorem x_arrQ {n : Int32} {n0 idx t0 : Nat} {Cn : String} {cy : ClassId} (B : MB p s m args c cc nL own E) (hz : H.size = E.2.1 + N) (hP : va_P E.1 vwCl (wl E N C) H) (hS : va_S (hA E) s.heap H locs) (hw : Cond.classLink own idx Cn ∈ gw_all) (hov : va_AO Cn s) (ht : (tyl E)[t0]? = some (cy, .object Cn)) (hn : ¬ n < 0) (hN : n.toNatClampNeg = n0) (hbytes : n0 * 4 ≤ 536870912) (hc : cells + 1 ≤ R.cells) (hs : slots + n0 ≤ R.slots) (hd : decode cc pc = .ok (.anewarray idx, 3))
    (kk : ∀ H' : Heap, H'.size = E.2.1 + (N + 1) → va_P E.1 vwCl (wl E (N + 1) (va_up C N (.inl (cy, n0, .inr (.inr (.inr (.inr (fun _ => none)))))))) H' → va_S (hA E) s.heap H' locs → W p l e R s m args below meth c H' locs (cells + 1) (slots + n0) Q (F0 m (pc + 3) ls (.ref (E.2.1 + N) :: rest))) : W p l e R s m args below meth c H locs cells slots Q (F0 m pc ls (.int n :: rest)) := by
  subst hN
  refine W.anew B.1.1 B.1.2.1 B.1.2.2.2.1 (B.1.2.2.2.2 _ hw) (va_AO.use hov) rfl hd rfl hn hbytes hc hs fun cA kA comp f1 f2 f3 f4 => ?_
  obtain ⟨_, _, _, _, _, hcy⟩ := (B.2.1.2 t0 _ ht).2
  have hA : cA = cy := Option.some.inj (f1.symm.trans hcy)
  subst hA
  rw [hz]
  have z1 : (H.push ({ cls := cA, slots := Array.replicate n.toNatClampNeg .null, vm := .none } : Cell)).size = H.size + 1 := by rw [Array.size_push]
  have e1 : (H.push ({ cls := cA, slots := Array.replicate n.toNatClampNeg .null, vm := .none } : Cell))[E.2.1 + N]? = some (arrV cA n.toNatClampNeg (fun _ => .null)) := by rw [← hz, Array.getElem?_push_size, ← arrV_new]
  have o1 : ∀ q : Nat, q < H.size → (H.push ({ cls := cA, slots := Array.replicate n.toNatClampNeg .null, vm := .none } : Cell))[q]? = H[q]? := fun q hq => by rw [Array.getElem?_push, if_neg (Nat.ne_of_lt hq)]
  exact kk _ (by rw [z1]; omega) (P_push hz hP o1 e1) (S_push hS z1 o1)
theorem x_putF {k ci idx NF : Nat} {Cn : String} {T : u_T} {fs : List Value} {v : Value} (ty : Nat → FieldType) (B : MB p s m args c cc nL own E) (hz : H.size = E.2.1 + N) (hP : va_P E.1 vwCl (wl E N C) H) (hS : va_S (hA E) s.heap H locs) (hin : ∀ w ∈ u_ws Cn T NF, w ∈ gw_all) (hty : ∀ k, k < NF → parseFieldDescriptor (T k).2.2.1 = some (ty k)) (hnm : ∀ a, a < NF → ∀ b, b < NF → a ≠ b → (T a).2.1 ≠ (T b).2.1) (hcl : vwCl[ci]? = some (Cn, T, NF)) (hk : k < N) (hC : C k = .inr (ci, fs)) (j : Nat) (hj : j < NF) (hT : (T j).1 = Cn) (hCo : Cn = own) (hw : Cond.fieldLink own idx Cn (T j).2.1 (T j).2.2.1 ∈ gw_all) (hfin : (T j).2.2.2 = true) (hi : meth.name = "<init>") (hn : narrow (ty j) v = v) (hfit : fits (ty j) v = true) (hl : j < fs.length) (hd : decode cc pc = .ok (.putfield idx, 3))
    (kk : ∀ (H' : Heap) (locs' : List Loc), H'.size = E.2.1 + N → va_P E.1 vwCl (wl E N (va_up C k (.inr (ci, fs.set j v)))) H' → va_S (hA E) s.heap H' locs' → W p l e R s m args below meth c H' locs' cells slots Q (F0 m (pc + 3) ls rest)) : W p l e R s m args below meth c H locs cells slots Q (F0 m pc ls (v :: .ref (E.2.1 + k) :: rest)) := by
  have hat : (wl E N C)[k]? = some (E.2.1 + k, .inr (ci, fs)) := by rw [wl_at hk, hC]
  have hKn := B.2.1.1 ci _ hcl
  have hap := va_apart (own := own) B.1.2.2.2.2 hin ty hty hnm B.2.1 hcl
  obtain ⟨r, h1, cell, q1, q2, q3, q4⟩ := hP k _ hat
  have hr : r = (Cn, T, NF) := Option.some.inj (h1.symm.trans hcl)
  subst hr
  obtain ⟨hSl, hfc, kC, hkC, hkind⟩ := hKn
  obtain ⟨cf, kf, fi, f, hf, hsl⟩ := hSl j hj
  have hlay := B.1.2.2.2.2 _ (hin _ (u_in_lay hj))
  unfold u_lay at hlay
  rw [if_pos hfin] at hlay
  have hst := (u_facts hfc hkC (u_lays B.1.2.2.2.2 hin hj) hf).1
  have hcf : m.cls = cf := by
    obtain ⟨_, _, c', _, _, _, -, -, hf', -, -, -, hown2, -⟩ := Cond.laysFinal_spec hlay
    have e1 : c' = cf := by have := hf.symm.trans hf'; simp at this; exact this.1.symm
    rw [hT, hCo] at hown2
    rw [← e1]; exact Option.some.inj (B.1.2.2.2.1.symm.trans hown2)
  have h6 := u_fits hfc hkC hkind (Or.inr hlay) hf (hty j hj) hn hfit
  refine W.putFinK B.1.1 B.1.2.1 B.1.2.2.2.1 (B.1.2.2.2.2 _ hw) (by rw [hT] at hf; exact hf) hst hcf hi (by rw [q2]; exact h6) q1 q3 (by rw [hsl]; exact k2_hasslot (q4 j hj)) rfl rfl hd fun H' e1 e2 e3 => ?_
  rw [hsl] at e1 ⊢
  refine kk H' _ (by rw [e2]; exact hz) ?_ (hS.put e2 e3 (Nat.le_add_right _ _))
  have h9 := hP.set (wl_D E N C) hat (e := .inr (ci, fs.set j v)) ⟨_, hcl, t_OB.to (V := updV (vp_V fs) j v) ⟨_, e1, q2, q3, t_set q4 hap hj v⟩ (fun i _ => vp_updV_set hl v i)⟩ e3
  rw [wl_set hk] at h9
  exact h9
theorem x_putI {k ci idx NF : Nat} {Cn : String} {T : u_T} {fs : List Value} {v : Value} (ty : Nat → FieldType) (B : MB p s m args c cc nL own E) (hz : H.size = E.2.1 + N) (hP : va_P E.1 vwCl (wl E N C) H) (hS : va_S (hA E) s.heap H locs) (hin : ∀ w ∈ u_ws Cn T NF, w ∈ gw_all) (hty : ∀ k, k < NF → parseFieldDescriptor (T k).2.2.1 = some (ty k)) (hnm : ∀ a, a < NF → ∀ b, b < NF → a ≠ b → (T a).2.1 ≠ (T b).2.1) (hcl : vwCl[ci]? = some (Cn, T, NF)) (hk : k < N) (hC : C k = .inr (ci, fs)) (j : Nat) (hj : j < NF) (hT : (T j).1 = Cn) (hw : Cond.fieldLink own idx Cn (T j).2.1 (T j).2.2.1 ∈ gw_all) (hfin : (T j).2.2.2 = false) (hn : narrow (ty j) v = v) (hfit : fits (ty j) v = true) (hl : j < fs.length) (hd : decode cc pc = .ok (.putfield idx, 3))
    (kk : ∀ (H' : Heap) (locs' : List Loc), H'.size = E.2.1 + N → va_P E.1 vwCl (wl E N (va_up C k (.inr (ci, fs.set j v)))) H' → va_S (hA E) s.heap H' locs' → W p l e R s m args below meth c H' locs' cells slots Q (F0 m (pc + 3) ls rest)) : W p l e R s m args below meth c H locs cells slots Q (F0 m pc ls (v :: .ref (E.2.1 + k) :: rest)) := by
  have hat : (wl E N C)[k]? = some (E.2.1 + k, .inr (ci, fs)) := by rw [wl_at hk, hC]
  have hKn := B.2.1.1 ci _ hcl
  have hap := va_apart (own := own) B.1.2.2.2.2 hin ty hty hnm B.2.1 hcl
  obtain ⟨r, h1, cell, q1, q2, q3, q4⟩ := hP k _ hat
  have hr : r = (Cn, T, NF) := Option.some.inj (h1.symm.trans hcl)
  subst hr
  obtain ⟨hSl, hfc, kC, hkC, hkind⟩ := hKn
  obtain ⟨cf, kf, fi, f, hf, hsl⟩ := hSl j hj
  have hlay := B.1.2.2.2.2 _ (hin _ (u_in_lay hj))
  unfold u_lay at hlay
  rw [if_neg (by rw [hfin]; decide)] at hlay
  have hst := (u_facts hfc hkC (u_lays B.1.2.2.2.2 hin hj) hf).1
  have h6 := u_store hfc hkC hkind hlay hf (hty j hj) hn hfit
  refine W.putK B.1.1 B.1.2.1 (f := f) ⟨B.1.2.2.2.1, B.1.2.2.2.2 _ hw, ⟨_, _, _, by rw [hT] at hf; exact hf⟩, hst⟩ (by rw [q2]; exact h6) q1 q3 (by rw [hsl]; exact k2_hasslot (q4 j hj)) rfl rfl hd fun H' e1 e2 e3 => ?_
  rw [hsl] at e1 ⊢
  refine kk H' _ (by rw [e2]; exact hz) ?_ (hS.put e2 e3 (Nat.le_add_right _ _))
  have h9 := hP.set (wl_D E N C) hat (e := .inr (ci, fs.set j v)) ⟨_, hcl, t_OB.to (V := updV (vp_V fs) j v) ⟨_, e1, q2, q3, t_set q4 hap hj v⟩ (fun i _ => vp_updV_set hl v i)⟩ e3
  rw [wl_set hk] at h9
  exact h9
theorem x_get {k ci idx NF : Nat} {Cn : String} {T : u_T} {fs : List Value} {v : Value} (B : MB p s m args c cc nL own E) (hP : va_P E.1 vwCl (wl E N C) H) (hin : ∀ w ∈ u_ws Cn T NF, w ∈ gw_all) (hcl : vwCl[ci]? = some (Cn, T, NF)) (hk : k < N) (hC : C k = .inr (ci, fs)) (j : Nat) (hj : j < NF) (hT : (T j).1 = Cn) (hw : Cond.fieldLink own idx Cn (T j).2.1 (T j).2.2.1 ∈ gw_all) (hv : fs[j]? = some v) (hd : decode cc pc = .ok (.getfield idx, 3)) (kk : W p l e R s m args below meth c H locs cells slots Q (F0 m (pc + 3) ls (v :: rest))) : W p l e R s m args below meth c H locs cells slots Q (F0 m pc ls (.ref (E.2.1 + k) :: rest)) :=
  va_get (D := E.1) (ci := ci) (C := Cn) (T := T) (N := NF) B.1.1 B.1.2.1 B.1.2.2.2.2 hin B.1.2.2.2.1 B.2.1 hP k (fs := fs) (by rw [wl_at hk, hC]) hcl j hj (B.1.2.2.2.2 _ hw) (fun x hx => by rw [hT] at hx; exact hx) hv hd kk
theorem x_aast {a v n t0 ci NF : Nat} {Cn : String} {T : u_T} {cy : ClassId} {f : Nat → Option Nat} {fs : List Value} {i : Int32} {i0 : Nat} (B : MB p s m args c cc nL own E) (hz : H.size = E.2.1 + N) (hP : va_P E.1 vwCl (wl E N C) H) (hS : va_S (hA E) s.heap H locs) (ha : a < N) (hCa : C a = .inl (cy, n, .inr (.inr (.inr (.inr f))))) (ht : (tyl E)[t0]? = some (cy, .object Cn)) (hv : v < N) (hCv : C v = .inr (ci, fs)) (hcl : vwCl[ci]? = some (Cn, T, NF)) (hi : i = nI i0) (hi0 : i0 < n) (h31 : n < 2 ^ 31) (hd : decode cc pc = .ok (.aastore, 1))
    (kk : ∀ (H' : Heap) (locs' : List Loc), H'.size = E.2.1 + N → va_P E.1 vwCl (wl E N (va_up C a (.inl (cy, n, .inr (.inr (.inr (.inr (va_up f i0 (some (E.2.1 + v)))))))))) H' → va_S (hA E) s.heap H' locs' → W p l e R s m args below meth c H' locs' cells slots Q (F0 m (pc + 1) ls rest)) : W p l e R s m args below meth c H locs cells slots Q (F0 m pc ls (.ref (E.2.1 + v) :: .int i :: .ref (E.2.1 + a) :: rest)) := by
  subst hi
  have hin : vp_in (nI i0) n := vp_in_nI hi0 h31
  have hci : (nI i0).toNatClampNeg = i0 := nI_clamp (by omega)
  have hata : (wl E N C)[a]? = some (E.2.1 + a, .inl (cy, n, .inr (.inr (.inr (.inr f))))) := by rw [wl_at ha, hCa]
  have hatv : (wl E N C)[v]? = some (E.2.1 + v, .inr (ci, fs)) := by rw [wl_at hv, hCv]
  have h0 : ¬ (nI i0) < 0 := fun q => hin (Or.inl q)
  obtain ⟨r', hr', cellV, g1, g2, g3, -⟩ := hP v _ hatv
  have hcls := (B.2.1.1 ci _ hcl).2
  obtain ⟨kA, comp, k1, k2, k3, -⟩ := (B.2.1.2 t0 _ ht).2
  have hcomp : comp = E.1.1 ci := Option.some.inj (k3.symm.trans hcls.1)
  subst hcomp
  obtain ⟨kC, hkC, -⟩ := hcls.2
  refine W.aast B.1.1 B.1.2.1 (hP a _ hata) (fun q h => by cases h) (fun h => by cases h) k1 k2 rfl hkC ⟨h0, by show _ < (arrV _ _ _).slots.size; rw [arrV_size, hci]; exact hi0⟩ g1 (fun q h => by rw [g3] at h; cases h) (by rw [g2]; exact hkC) (by rw [g2]; exact va_assign hcls) rfl rfl hd fun H1 e z oq => ?_
  refine kk H1 _ (by rw [z]; exact hz) ?_ (hS.put z oq (Nat.le_add_right _ _))
  have h9 := hP.set (wl_D E N C) hata (e := .inl (cy, n, .inr (.inr (.inr (.inr (va_up f i0 (some (E.2.1 + v)))))))) (H1 := H1) (by
    show H1[E.2.1 + a]? = some (vp_cell _ _)
    rw [e, vp_cell_q, vp_cell_q, arrV_store]
    congr 2
    funext q
    by_cases hq : q = i0
    · subst hq
      simp [updV, va_up, va_rf, hci]
    · simp [updV, va_up, hq, hci]) oq
  rw [wl_set ha] at h9
  exact h9
theorem x_iast {a n : Nat} {f : Nat → Int32} {i x : Int32} {i0 : Nat} (B : MB p s m args c cc nL own E) (hz : H.size = E.2.1 + N) (hP : va_P E.1 vwCl (wl E N C) H) (hS : va_S (hA E) s.heap H locs) (ha : a < N) (hCa : C a = .inl (E.2.2.1 0, n, .inl f)) (hi : i = nI i0) (hi0 : i0 < n) (h31 : n < 2 ^ 31) (hd : decode cc pc = .ok (.iastore, 1))
    (kk : ∀ (H' : Heap) (locs' : List Loc), H'.size = E.2.1 + N → va_P E.1 vwCl (wl E N (va_up C a (.inl (E.2.2.1 0, n, .inl (upd f i0 x))))) H' → va_S (hA E) s.heap H' locs' → W p l e R s m args below meth c H' locs' cells slots Q (F0 m (pc + 1) ls rest)) : W p l e R s m args below meth c H locs cells slots Q (F0 m pc ls (.int x :: .int i :: .ref (E.2.1 + a) :: rest)) := by
  subst hi
  have hin : vp_in (nI i0) n := vp_in_nI hi0 h31
  have hci : (nI i0).toNatClampNeg = i0 := nI_clamp (by omega)
  have hata : (wl E N C)[a]? = some (E.2.1 + a, .inl (E.2.2.1 0, n, .inl f)) := by rw [wl_at ha, hCa]
  refine W.iast B.1.1 B.1.2.1 (hP a _ hata) ((B.2.1.2 0 (E.2.2.1 0, .int) rfl).1 n (fun j => .int (f j))) (fun q => by cases q) (by show ¬ ((nI i0) < 0 ∨ (arrV _ _ _).slots.size ≤ _); rw [arrV_size]; exact hin) rfl rfl hd fun H1 e z oq => ?_
  refine kk H1 _ (by rw [z]; exact hz) ?_ (hS.put z oq (Nat.le_add_right _ _))
  have h9 := hP.set (wl_D E N C) hata (e := .inl (E.2.2.1 0, n, .inl (upd f i0 x))) (H1 := H1) (by
    show H1[E.2.1 + a]? = some (vp_cell _ _)
    rw [e, vp_cell_i, vp_cell_i, arrV_store]
    congr 2
    funext q
    by_cases hq : q = i0
    · subst hq
      simp [updV, upd, hci]
    · simp [updV, upd, hq, hci]) oq
  rw [wl_set ha] at h9
  exact h9
theorem pre_okC {av : List Value} (B : MB p s m args c cc nL own E) (hz : H.size = E.2.1 + N) (hP : va_P E.1 vwCl (wl E N C) H) (hS : va_S (hA E) s.heap H locs) (U : State) (hU : U.heap = H) (hW : s.WarmedH U.vm) : xPre E C N av av.toArray U := ⟨rfl, ⟨by rw [hU]; exact hz, by rw [hU]; exact hP⟩, B.2.warm hS hU hW⟩
/-- a new object's constructor, a nest mate's -/
abbrev LkC (y : MethodName) (cc : ByteArray) (maxL : Nat) : Prop := (Cond.instanceMethod y ∈ gw_all ∧ Cond.initialized y.cls ∈ gw_all ∧ Cond.code y cc maxL none ∈ gw_all) ∧ y.name = "<init>" ∧ (y.cls ≠ "java/lang/invoke/MethodHandle" ∧ y.cls ≠ "java/lang/invoke/VarHandle" ∧ (parseMethodDescriptor y.desc).map (fun d => d.parameters.length) = some 0)
theorem xcN {y : MethodName} {cc' : ByteArray} {maxL' fr' mc ms lo' idx M : Nat} {C' : Nat → va_E} (B : MB p s m args c cc nL own E) (hz : H.size = E.2.1 + (N + 1)) (hP : va_P E.1 vwCl (wl E (N + 1) C) H) (hS : va_S (hA E) s.heap H locs) (hM : Met l y (.code y cc' maxL' none :: gw_all) (rmc fr' mc ms lo') (xPre E C (N + 1) [.ref (E.2.1 + N)]) (xQ E M C') mc ms (hA E)) (hw : (own, idx, y, RX6) ∈ nws) (K : LkC y cc' maxL') (hsz : ls.size = nL) (hro : (rest.map fun v => v.category).sum ≤ 8) (hR : fr' + 1 ≤ R.frames ∧ 8 + (maxL' + 11) + lo' ≤ R.locals) (hf : cells + mc ≤ R.cells ∧ slots + ms ≤ R.slots) (hd : decode cc pc = .ok (.invokespecial idx, 3))
    (kk : ∀ (H' : Heap) (locs' : List Loc), H'.size = E.2.1 + M → va_P E.1 vwCl (wl E M C') H' → va_S (hA E) s.heap H' locs' → W p l e R s m args below meth c H' locs' (cells + mc) (slots + ms) Q (F0 m (pc + 3) ls rest)) : W p l e R s m args below meth c H locs cells slots Q (F0 m pc ls (.ref (E.2.1 + N) :: rest)) := by
  obtain ⟨⟨k1, k2, k3⟩, k4, k5⟩ := K
  have hG : GoodIn gw_all (Cond.code y cc' maxL' none :: gw_all) := gi (hd := []) (fun w hw => by cases hw) k3
  refine va_callv (va_runIN (As := []) (rest := rest) (host := RX6) (b := E.2.1 + N) B.1 hM ⟨va_cnB 0 B.1.2.2.2.2 hG rfl rfl rfl (B.2.2.1 _ hw) (B.1.2.2.2.2 _ k2) k5 hR, k4, B.1.2.2.2.2 _ k1⟩ ⟨xPre_blind, fun U hU hW => pre_okC B hz hP hS U hU hW⟩ rfl rfl hsz rfl (lv_room hro) hd hf) hS (fun _ _ h => h) (fun _ h => h) (fun u t H1 locs1 ht _ _ hb _ _ hS' => ?_)
  obtain ⟨h1, h2⟩ := hb
  rw [ht] at h1 h2
  exact kk H1 locs1 h1 h2 hS'
theorem xcI {y : MethodName} {cc' : ByteArray} {maxL' fr' mc ms lo' idx M : Nat} {C' : Nat → va_E} (B : MB p s m args c cc nL own E) (hz : H.size = E.2.1 + (N + 1)) (hP : va_P E.1 vwCl (wl E (N + 1) C) H) (hS : va_S (hA E) s.heap H locs) (hM : Met l y (.code y cc' maxL' none :: gw_all) (rmc fr' mc ms lo') (xPre E C (N + 1) [.ref (E.2.1 + N)]) (xQ E M C') mc ms (hA E)) (hw : Cond.methodLink own idx y ∈ gw_all) (K : LkC y cc' maxL') (hsz : ls.size = nL) (hro : (rest.map fun v => v.category).sum ≤ 8) (hR : fr' + 1 ≤ R.frames ∧ 8 + (maxL' + 11) + lo' ≤ R.locals) (hf : cells + mc ≤ R.cells ∧ slots + ms ≤ R.slots) (hd : decode cc pc = .ok (.invokespecial idx, 3))
    (kk : ∀ (H' : Heap) (locs' : List Loc), H'.size = E.2.1 + M → va_P E.1 vwCl (wl E M C') H' → va_S (hA E) s.heap H' locs' → W p l e R s m args below meth c H' locs' (cells + mc) (slots + ms) Q (F0 m (pc + 3) ls rest)) : W p l e R s m args below meth c H locs cells slots Q (F0 m pc ls (.ref (E.2.1 + N) :: rest)) := by
  obtain ⟨⟨k1, k2, k3⟩, k4, k5⟩ := K
  have hG : GoodIn gw_all (Cond.code y cc' maxL' none :: gw_all) := gi (hd := []) (fun w hw => by cases hw) k3
  refine va_callv (va_runI (As := []) (rest := rest) (b := E.2.1 + N) B.1 hM (cwI 0 B.1.2.2.2.2 hG rfl rfl rfl (B.1.2.2.2.2 _ k2) (B.1.2.2.2.2 _ hw) (B.1.2.2.2.2 _ k1) k4 k5 hR) ⟨xPre_blind, fun U hU hW => pre_okC B hz hP hS U hU hW⟩ rfl rfl hsz rfl (lv_room hro) hd hf) hS (fun _ _ h => h) (fun _ h => h) (fun u t H1 locs1 ht _ _ hb _ _ hS' => ?_)
  obtain ⟨h1, h2⟩ := hb
  rw [ht] at h1 h2
  exact kk H1 locs1 h1 h2 hS'
end XC
