theorem nI_addneg {y : Int32} {k m : Nat} (h : iR y (-(k : Int)) ((m : Int) - k)) : ∃ j : Nat, j ≤ m ∧ ∀ a : Nat, k ≤ a → nI a + y = nI (a - k + j) := by
  refine ⟨(y.toInt + k).toNat, by have := h.1; have := h.2; omega, fun a ha => ?_⟩
  have e : y = nI ((y.toInt + k).toNat) - nI k := by
    have hy : y = Int32.ofInt y.toInt := (Int32.ofInt_toInt y).symm
    have h2 : nI ((y.toInt + k).toNat) = Int32.ofInt (y.toInt + k) := by
      show Int32.ofNat _ = _
      rw [← Int32.ofInt_eq_ofNat]
      congr 1
      have := h.1
      omega
    rw [h2, Int32.ofInt_add, Int32.ofInt_toInt, show Int32.ofInt (k : Int) = nI k from Int32.ofInt_eq_ofNat, Int32.add_sub_cancel]
  have e2 : nI a = nI (a - k) + nI k := by rw [nI_add]; congr 1; omega
  rw [← nI_add]
  conv => lhs; rw [e, e2]
  rw [Int32.add_assoc, Int32.add_comm (nI k), Int32.sub_add_cancel]
section RX
variable {r ρ : Nat → Nat → Int32} {B : Nat} {M : Nat → Int32} {L : Nat → Nat} {X Y : Nat × Nat → Prop} {j n0 l0 : Nat} {v : Int32}
theorem Good_X {f : Nat → Int32} (h : Good B M L X f) (h0 : ∀ n l, l < 4 → X (n, l) → Y (n, l)) (h1 : ∀ n l, n < 2 → l < 4 → Y (n, 10 + l) → X (n, 10 + l) ∨ iR (f (109 + 326 * n + 66 * l)) 1 8) (h2 : ∀ n, n < 2 → Y (n, 20) → X (n, 20) ∨ iR (f (51 + 326 * n)) 1 4) : Good B M L Y f := by
  refine ⟨h.1, h.2.1, fun n hn => ?_⟩
  obtain ⟨a1, a2, a3, a4, a5, a6, a7, a8⟩ := h.2.2 n hn
  refine ⟨a1, a2, a3, a4, a5, a6, fun z => (h2 n hn z).elim a7 id, fun l hl => ?_⟩
  obtain ⟨b1, b2, b3, b4, b5, b6⟩ := a8 l hl
  exact ⟨b1, b2, b3, b4, fun z t => b5 (fun w => z (h0 n l hl w)) t, fun z => (h1 n l hn hl z).elim b6 id⟩
theorem RI_X (hI : RI r B M L X ρ) (h0 : ∀ n l, l < 4 → X (n, l) → Y (n, l)) (h1 : ∀ n l, l < 4 → Y (n, 10 + l) → X (n, 10 + l)) (h2 : ∀ n, Y (n, 20) → X (n, 20)) : RI r B M L Y ρ := ⟨hI.1, hI.2.1, Good_X hI.2.2 h0 (fun n l _ hl z => Or.inl (h1 n l hl z)) (fun n _ z => Or.inl (h2 n z))⟩
theorem RI_m20 (hI : RI r B M L X ρ) : RI r B M L (fun x => X x ∧ x ≠ (n0, 20)) ρ := RI_X hI (fun n l hl z => ⟨z, fun e => by have := (Prod.mk.inj e).2; omega⟩) (fun n l hl z => z.1) (fun n z => z.1)
theorem RI_m10 (hI : RI r B M L X ρ) : RI r B M L (fun x => X x ∧ x ≠ (n0, 10 + l0)) ρ := RI_X hI (fun n l hl z => ⟨z, fun e => by have := (Prod.mk.inj e).2; omega⟩) (fun n l hl z => z.1) (fun n z => z.1)
theorem RI_pT (hl0 : l0 < 4) (hI : RI r B M L X ρ) : RI r B M L (fun x => X x ∨ x = (n0, l0)) ρ := RI_X hI (fun n l hl z => Or.inl z) (fun n l hl z => z.elim id (fun e => by have := (Prod.mk.inj e).2; omega)) (fun n z => z.elim id (fun e => by have := (Prod.mk.inj e).2; omega))
theorem RI_dT (hI : RI r B M L (fun x => X x ∨ x = (n0, l0)) ρ) (ht : ρ 1078 (143 + 326 * n0 + 66 * l0) ≠ 1) : RI r B M L X ρ := by
  refine ⟨hI.1, hI.2.1, hI.2.2.1, hI.2.2.2.1, fun n hn => ?_⟩
  obtain ⟨a1, a2, a3, a4, a5, a6, a7, a8⟩ := hI.2.2.2.2 n hn
  refine ⟨a1, a2, a3, a4, a5, a6, fun z => a7 (Or.inl z), fun l hl => ?_⟩
  obtain ⟨b1, b2, b3, b4, b5, b6⟩ := a8 l hl
  refine ⟨b1, b2, b3, b4, fun z t => b5 (fun w => w.elim z (fun e => ?_)) t, fun z => b6 (Or.inl z)⟩
  obtain ⟨e1, e2⟩ := Prod.mk.inj e
  rw [e1, e2] at t
  exact ht t
theorem iR_is {x : Int32} {a : Int} {y : Int32} (h : iR x a a) (hy : y.toInt = a) : x = y := Int32.toInt_inj.mp (by have := h.1; have := h.2; omega)
end RX
theorem dX7_whyNot_0 : decode cX7_whyNot 0 = .ok (.aload_n 0, 1) := by decide +kernel
theorem dX7_whyNot_1 : decode cX7_whyNot 1 = .ok (.invokevirtual 185, 3) := by decide +kernel
theorem dX7_whyNot_4 : decode cX7_whyNot 4 = .ok (.istore_n 3, 1) := by decide +kernel
theorem dX7_whyNot_5 : decode cX7_whyNot 5 = .ok (.iload_n 3, 1) := by decide +kernel
theorem dX7_whyNot_6 : decode cX7_whyNot 6 = .ok (.aload_n 0, 1) := by decide +kernel
theorem dX7_whyNot_7 : decode cX7_whyNot 7 = .ok (.getfield 13, 3) := by decide +kernel
theorem dX7_whyNot_10 : decode cX7_whyNot 10 = .ok (.bipush 19, 2) := by decide +kernel
theorem dX7_whyNot_12 : decode cX7_whyNot 12 = .ok (.aload_n 0, 1) := by decide +kernel
theorem dX7_whyNot_13 : decode cX7_whyNot 13 = .ok (.getfield 35, 3) := by decide +kernel
theorem dX7_whyNot_16 : decode cX7_whyNot 16 = .ok (.iload_n 1, 1) := by decide +kernel
theorem dX7_whyNot_17 : decode cX7_whyNot 17 = .ok (.iaload, 1) := by decide +kernel
theorem dX7_whyNot_18 : decode cX7_whyNot 18 = .ok (.iadd, 1) := by decide +kernel
theorem dX7_whyNot_19 : decode cX7_whyNot 19 = .ok (.iaload, 1) := by decide +kernel
theorem dX7_whyNot_20 : decode cX7_whyNot 20 = .ok (.if_icmp .ge 7, 3) := by decide +kernel
theorem dX7_whyNot_23 : decode cX7_whyNot 23 = .ok (.iconst 1, 1) := by decide +kernel
theorem dX7_whyNot_24 : decode cX7_whyNot 24 = .ok (.goto 39, 3) := by decide +kernel
theorem dX7_whyNot_27 : decode cX7_whyNot 27 = .ok (.aload_n 0, 1) := by decide +kernel
theorem dX7_whyNot_28 : decode cX7_whyNot 28 = .ok (.getfield 35, 3) := by decide +kernel
theorem dX7_whyNot_31 : decode cX7_whyNot 31 = .ok (.iload_n 1, 1) := by decide +kernel
theorem dX7_whyNot_32 : decode cX7_whyNot 32 = .ok (.iaload, 1) := by decide +kernel
theorem dX7_whyNot_33 : decode cX7_whyNot 33 = .ok (.aload_n 0, 1) := by decide +kernel
theorem dX7_whyNot_34 : decode cX7_whyNot 34 = .ok (.getfield 35, 3) := by decide +kernel
theorem dX7_whyNot_37 : decode cX7_whyNot 37 = .ok (.iconst 1, 1) := by decide +kernel
theorem dX7_whyNot_38 : decode cX7_whyNot 38 = .ok (.iload_n 1, 1) := by decide +kernel
theorem dX7_whyNot_39 : decode cX7_whyNot 39 = .ok (.isub, 1) := by decide +kernel
theorem dX7_whyNot_40 : decode cX7_whyNot 40 = .ok (.iaload, 1) := by decide +kernel
theorem dX7_whyNot_41 : decode cX7_whyNot 41 = .ok (.if_icmp .ne 7, 3) := by decide +kernel
theorem dX7_whyNot_44 : decode cX7_whyNot 44 = .ok (.iconst 2, 1) := by decide +kernel
theorem dX7_whyNot_45 : decode cX7_whyNot 45 = .ok (.goto 18, 3) := by decide +kernel
theorem dX7_whyNot_48 : decode cX7_whyNot 48 = .ok (.aload_n 0, 1) := by decide +kernel
theorem dX7_whyNot_49 : decode cX7_whyNot 49 = .ok (.getfield 35, 3) := by decide +kernel
theorem dX7_whyNot_52 : decode cX7_whyNot 52 = .ok (.iload_n 1, 1) := by decide +kernel
theorem dX7_whyNot_53 : decode cX7_whyNot 53 = .ok (.iaload, 1) := by decide +kernel
theorem dX7_whyNot_54 : decode cX7_whyNot 54 = .ok (.iload_n 2, 1) := by decide +kernel
theorem dX7_whyNot_55 : decode cX7_whyNot 55 = .ok (.if_icmp .eq 7, 3) := by decide +kernel
theorem dX7_whyNot_58 : decode cX7_whyNot 58 = .ok (.iconst 3, 1) := by decide +kernel
theorem dX7_whyNot_59 : decode cX7_whyNot 59 = .ok (.goto 4, 3) := by decide +kernel
theorem dX7_whyNot_62 : decode cX7_whyNot 62 = .ok (.iconst 0, 1) := by decide +kernel
theorem dX7_whyNot_63 : decode cX7_whyNot 63 = .ok (.ireturn, 1) := by decide +kernel
theorem dX7_mapFor_0 : decode cX7_mapFor 0 = .ok (.iload_n 1, 1) := by decide +kernel
theorem dX7_mapFor_1 : decode cX7_mapFor 1 = .ok (.invokestatic 75, 3) := by decide +kernel
theorem dX7_mapFor_4 : decode cX7_mapFor 4 = .ok (.istore_n 2, 1) := by decide +kernel
theorem dX7_mapFor_5 : decode cX7_mapFor 5 = .ok (.aload_n 0, 1) := by decide +kernel
theorem dX7_mapFor_6 : decode cX7_mapFor 6 = .ok (.getfield 32, 3) := by decide +kernel
theorem dX7_mapFor_9 : decode cX7_mapFor 9 = .ok (.iload_n 1, 1) := by decide +kernel
theorem dX7_mapFor_10 : decode cX7_mapFor 10 = .ok (.iaload, 1) := by decide +kernel
theorem dX7_mapFor_11 : decode cX7_mapFor 11 = .ok (.ifCond .lt 51, 3) := by decide +kernel
theorem dX7_mapFor_14 : decode cX7_mapFor 14 = .ok (.aload_n 0, 1) := by decide +kernel
theorem dX7_mapFor_15 : decode cX7_mapFor 15 = .ok (.getfield 13, 3) := by decide +kernel
theorem dX7_mapFor_18 : decode cX7_mapFor 18 = .ok (.iload_n 1, 1) := by decide +kernel
theorem dX7_mapFor_19 : decode cX7_mapFor 19 = .ok (.aload_n 0, 1) := by decide +kernel
theorem dX7_mapFor_20 : decode cX7_mapFor 20 = .ok (.getfield 32, 3) := by decide +kernel
theorem dX7_mapFor_23 : decode cX7_mapFor 23 = .ok (.iload_n 1, 1) := by decide +kernel
theorem dX7_mapFor_24 : decode cX7_mapFor 24 = .ok (.iaload, 1) := by decide +kernel
theorem dX7_mapFor_25 : decode cX7_mapFor 25 = .ok (.invokestatic 82, 3) := by decide +kernel
theorem dX7_mapFor_28 : decode cX7_mapFor 28 = .ok (.iconst 4, 1) := by decide +kernel
theorem dX7_mapFor_29 : decode cX7_mapFor 29 = .ok (.iadd, 1) := by decide +kernel
theorem dX7_mapFor_30 : decode cX7_mapFor 30 = .ok (.iaload, 1) := by decide +kernel
theorem dX7_mapFor_31 : decode cX7_mapFor 31 = .ok (.ifCond .ne 31, 3) := by decide +kernel
theorem dX7_mapFor_34 : decode cX7_mapFor 34 = .ok (.aload_n 0, 1) := by decide +kernel
theorem dX7_mapFor_35 : decode cX7_mapFor 35 = .ok (.getfield 13, 3) := by decide +kernel
theorem dX7_mapFor_38 : decode cX7_mapFor 38 = .ok (.iload_n 2, 1) := by decide +kernel
theorem dX7_mapFor_39 : decode cX7_mapFor 39 = .ok (.iconst 3, 1) := by decide +kernel
theorem dX7_mapFor_40 : decode cX7_mapFor 40 = .ok (.iadd, 1) := by decide +kernel
theorem dX7_mapFor_41 : decode cX7_mapFor 41 = .ok (.iaload, 1) := by decide +kernel
theorem dX7_mapFor_42 : decode cX7_mapFor 42 = .ok (.ifCond .ne 20, 3) := by decide +kernel
theorem dX7_mapFor_45 : decode cX7_mapFor 45 = .ok (.aload_n 0, 1) := by decide +kernel
theorem dX7_mapFor_46 : decode cX7_mapFor 46 = .ok (.getfield 13, 3) := by decide +kernel
theorem dX7_mapFor_49 : decode cX7_mapFor 49 = .ok (.bipush 7, 2) := by decide +kernel
theorem dX7_mapFor_51 : decode cX7_mapFor 51 = .ok (.iaload, 1) := by decide +kernel
theorem dX7_mapFor_52 : decode cX7_mapFor 52 = .ok (.iconst 4, 1) := by decide +kernel
theorem dX7_mapFor_53 : decode cX7_mapFor 53 = .ok (.irem, 1) := by decide +kernel
theorem dX7_mapFor_54 : decode cX7_mapFor 54 = .ok (.iconst 2, 1) := by decide +kernel
theorem dX7_mapFor_55 : decode cX7_mapFor 55 = .ok (.if_icmp .ne 7, 3) := by decide +kernel
theorem dX7_mapFor_58 : decode cX7_mapFor 58 = .ok (.iconst 1, 1) := by decide +kernel
theorem dX7_mapFor_59 : decode cX7_mapFor 59 = .ok (.goto 4, 3) := by decide +kernel
theorem dX7_mapFor_62 : decode cX7_mapFor 62 = .ok (.iconst 0, 1) := by decide +kernel
theorem dX7_mapFor_63 : decode cX7_mapFor 63 = .ok (.istore_n 3, 1) := by decide +kernel
theorem dX7_mapFor_64 : decode cX7_mapFor 64 = .ok (.aload_n 0, 1) := by decide +kernel
theorem dX7_mapFor_65 : decode cX7_mapFor 65 = .ok (.getfield 13, 3) := by decide +kernel
theorem dX7_mapFor_68 : decode cX7_mapFor 68 = .ok (.iload_n 2, 1) := by decide +kernel
theorem dX7_mapFor_69 : decode cX7_mapFor 69 = .ok (.iload_n 3, 1) := by decide +kernel
theorem dX7_mapFor_70 : decode cX7_mapFor 70 = .ok (.ifCond .eq 8, 3) := by decide +kernel
theorem dX7_mapFor_73 : decode cX7_mapFor 73 = .ok (.bipush 7, 2) := by decide +kernel
theorem dX7_mapFor_75 : decode cX7_mapFor 75 = .ok (.goto 4, 3) := by decide +kernel
theorem dX7_mapFor_78 : decode cX7_mapFor 78 = .ok (.iconst 2, 1) := by decide +kernel
theorem dX7_mapFor_79 : decode cX7_mapFor 79 = .ok (.iadd, 1) := by decide +kernel
theorem dX7_mapFor_80 : decode cX7_mapFor 80 = .ok (.iaload, 1) := by decide +kernel
theorem dX7_mapFor_81 : decode cX7_mapFor 81 = .ok (.ireturn, 1) := by decide +kernel
theorem dX7_casts_0 : decode cX7_casts 0 = .ok (.iload_n 1, 1) := by decide +kernel
theorem dX7_casts_1 : decode cX7_casts 1 = .ok (.invokestatic 75, 3) := by decide +kernel
theorem dX7_casts_4 : decode cX7_casts 4 = .ok (.istore_n 2, 1) := by decide +kernel
theorem dX7_casts_5 : decode cX7_casts 5 = .ok (.aload_n 0, 1) := by decide +kernel
theorem dX7_casts_6 : decode cX7_casts 6 = .ok (.getfield 13, 3) := by decide +kernel
theorem dX7_casts_9 : decode cX7_casts 9 = .ok (.bipush 18, 2) := by decide +kernel
theorem dX7_casts_11 : decode cX7_casts 11 = .ok (.dup2, 1) := by decide +kernel
theorem dX7_casts_12 : decode cX7_casts 12 = .ok (.iaload, 1) := by decide +kernel
theorem dX7_casts_13 : decode cX7_casts 13 = .ok (.iconst 1, 1) := by decide +kernel
theorem dX7_casts_14 : decode cX7_casts 14 = .ok (.iadd, 1) := by decide +kernel
theorem dX7_casts_15 : decode cX7_casts 15 = .ok (.iastore, 1) := by decide +kernel
theorem dX7_casts_16 : decode cX7_casts 16 = .ok (.aload_n 0, 1) := by decide +kernel
theorem dX7_casts_17 : decode cX7_casts 17 = .ok (.iload_n 1, 1) := by decide +kernel
theorem dX7_casts_18 : decode cX7_casts 18 = .ok (.aload_n 0, 1) := by decide +kernel
theorem dX7_casts_19 : decode cX7_casts 19 = .ok (.getfield 35, 3) := by decide +kernel
theorem dX7_casts_22 : decode cX7_casts 22 = .ok (.iload_n 1, 1) := by decide +kernel
theorem dX7_casts_23 : decode cX7_casts 23 = .ok (.iaload, 1) := by decide +kernel
theorem dX7_casts_24 : decode cX7_casts 24 = .ok (.invokevirtual 202, 3) := by decide +kernel
theorem dX7_casts_27 : decode cX7_casts 27 = .ok (.istore_n 3, 1) := by decide +kernel
theorem dX7_casts_28 : decode cX7_casts 28 = .ok (.aload_n 0, 1) := by decide +kernel
theorem dX7_casts_29 : decode cX7_casts 29 = .ok (.getfield 13, 3) := by decide +kernel
theorem dX7_casts_32 : decode cX7_casts 32 = .ok (.bipush 13, 2) := by decide +kernel
theorem dX7_casts_34 : decode cX7_casts 34 = .ok (.iload_n 3, 1) := by decide +kernel
theorem dX7_casts_35 : decode cX7_casts 35 = .ok (.iadd, 1) := by decide +kernel
theorem dX7_casts_36 : decode cX7_casts 36 = .ok (.iload_n 3, 1) := by decide +kernel
theorem dX7_casts_37 : decode cX7_casts 37 = .ok (.ifCond .ne 7, 3) := by decide +kernel
theorem dX7_casts_40 : decode cX7_casts 40 = .ok (.iconst 0, 1) := by decide +kernel
theorem dX7_casts_41 : decode cX7_casts 41 = .ok (.goto 4, 3) := by decide +kernel
theorem dX7_casts_44 : decode cX7_casts 44 = .ok (.iconst 1, 1) := by decide +kernel
theorem dX7_casts_45 : decode cX7_casts 45 = .ok (.isub, 1) := by decide +kernel
theorem dX7_casts_46 : decode cX7_casts 46 = .ok (.dup2, 1) := by decide +kernel
theorem dX7_casts_47 : decode cX7_casts 47 = .ok (.iaload, 1) := by decide +kernel
theorem dX7_casts_48 : decode cX7_casts 48 = .ok (.iload_n 3, 1) := by decide +kernel
theorem dX7_casts_49 : decode cX7_casts 49 = .ok (.ifCond .ne 7, 3) := by decide +kernel
theorem dX7_casts_52 : decode cX7_casts 52 = .ok (.iconst 0, 1) := by decide +kernel
theorem dX7_casts_53 : decode cX7_casts 53 = .ok (.goto 4, 3) := by decide +kernel
theorem dX7_casts_56 : decode cX7_casts 56 = .ok (.iconst 1, 1) := by decide +kernel
theorem dX7_casts_57 : decode cX7_casts 57 = .ok (.iadd, 1) := by decide +kernel
theorem dX7_casts_58 : decode cX7_casts 58 = .ok (.iastore, 1) := by decide +kernel
theorem dX7_casts_59 : decode cX7_casts 59 = .ok (.iconst 0, 1) := by decide +kernel
theorem dX7_casts_60 : decode cX7_casts 60 = .ok (.istore 4, 2) := by decide +kernel
theorem dX7_casts_62 : decode cX7_casts 62 = .ok (.iload 4, 2) := by decide +kernel
theorem dX7_casts_64 : decode cX7_casts 64 = .ok (.aload_n 0, 1) := by decide +kernel
theorem dX7_casts_65 : decode cX7_casts 65 = .ok (.getfield 13, 3) := by decide +kernel
theorem dX7_casts_68 : decode cX7_casts 68 = .ok (.iload_n 2, 1) := by decide +kernel
theorem dX7_casts_69 : decode cX7_casts 69 = .ok (.bipush 6, 2) := by decide +kernel
theorem dX7_casts_71 : decode cX7_casts 71 = .ok (.iadd, 1) := by decide +kernel
theorem dX7_casts_72 : decode cX7_casts 72 = .ok (.iaload, 1) := by decide +kernel
theorem dX7_casts_73 : decode cX7_casts 73 = .ok (.if_icmp .ge 151, 3) := by decide +kernel
theorem dX7_casts_76 : decode cX7_casts 76 = .ok (.iload_n 3, 1) := by decide +kernel
theorem dX7_casts_77 : decode cX7_casts 77 = .ok (.ifCond .ne 147, 3) := by decide +kernel
theorem dX7_casts_80 : decode cX7_casts 80 = .ok (.iload_n 1, 1) := by decide +kernel
theorem dX7_casts_81 : decode cX7_casts 81 = .ok (.iload 4, 2) := by decide +kernel
theorem dX7_casts_83 : decode cX7_casts 83 = .ok (.invokestatic 82, 3) := by decide +kernel
theorem dX7_casts_86 : decode cX7_casts 86 = .ok (.istore 5, 2) := by decide +kernel
theorem dX7_casts_88 : decode cX7_casts 88 = .ok (.aload_n 0, 1) := by decide +kernel
theorem dX7_casts_89 : decode cX7_casts 89 = .ok (.iload_n 1, 1) := by decide +kernel
theorem dX7_casts_90 : decode cX7_casts 90 = .ok (.iload 4, 2) := by decide +kernel
theorem dX7_casts_92 : decode cX7_casts 92 = .ok (.invokevirtual 182, 3) := by decide +kernel
theorem dX7_casts_95 : decode cX7_casts 95 = .ok (.ifCond .eq 123, 3) := by decide +kernel
theorem dX7_casts_98 : decode cX7_casts 98 = .ok (.aload_n 0, 1) := by decide +kernel
theorem dX7_casts_99 : decode cX7_casts 99 = .ok (.iload_n 1, 1) := by decide +kernel
theorem dX7_casts_100 : decode cX7_casts 100 = .ok (.aload_n 0, 1) := by decide +kernel
theorem dX7_casts_101 : decode cX7_casts 101 = .ok (.getfield 13, 3) := by decide +kernel
theorem dX7_casts_104 : decode cX7_casts 104 = .ok (.bipush 7, 2) := by decide +kernel
theorem dX7_casts_106 : decode cX7_casts 106 = .ok (.iaload, 1) := by decide +kernel
theorem dX7_casts_107 : decode cX7_casts 107 = .ok (.aload_n 0, 1) := by decide +kernel
theorem dX7_casts_108 : decode cX7_casts 108 = .ok (.getfield 13, 3) := by decide +kernel
theorem dX7_casts_111 : decode cX7_casts 111 = .ok (.iload 5, 2) := by decide +kernel
theorem dX7_casts_113 : decode cX7_casts 113 = .ok (.iconst 1, 1) := by decide +kernel
theorem dX7_casts_114 : decode cX7_casts 114 = .ok (.iadd, 1) := by decide +kernel
theorem dX7_casts_115 : decode cX7_casts 115 = .ok (.iaload, 1) := by decide +kernel
theorem dX7_casts_116 : decode cX7_casts 116 = .ok (.invokevirtual 114, 3) := by decide +kernel
theorem dX7_casts_119 : decode cX7_casts 119 = .ok (.aload_n 0, 1) := by decide +kernel
theorem dX7_casts_120 : decode cX7_casts 120 = .ok (.getfield 35, 3) := by decide +kernel
theorem dX7_casts_123 : decode cX7_casts 123 = .ok (.iload_n 1, 1) := by decide +kernel
theorem dX7_casts_124 : decode cX7_casts 124 = .ok (.iaload, 1) := by decide +kernel
theorem dX7_casts_125 : decode cX7_casts 125 = .ok (.if_icmp .ne 93, 3) := by decide +kernel
theorem dX7_casts_128 : decode cX7_casts 128 = .ok (.aload_n 0, 1) := by decide +kernel
theorem dX7_casts_129 : decode cX7_casts 129 = .ok (.getfield 13, 3) := by decide +kernel
theorem dX7_casts_132 : decode cX7_casts 132 = .ok (.iload 5, 2) := by decide +kernel
theorem dX7_casts_134 : decode cX7_casts 134 = .ok (.bipush 45, 2) := by decide +kernel
theorem dX7_casts_136 : decode cX7_casts 136 = .ok (.iadd, 1) := by decide +kernel
theorem dX7_casts_137 : decode cX7_casts 137 = .ok (.iaload, 1) := by decide +kernel
theorem dX7_casts_138 : decode cX7_casts 138 = .ok (.aload_n 0, 1) := by decide +kernel
theorem dX7_casts_139 : decode cX7_casts 139 = .ok (.getfield 13, 3) := by decide +kernel
theorem dX7_casts_142 : decode cX7_casts 142 = .ok (.iload_n 2, 1) := by decide +kernel
theorem dX7_casts_143 : decode cX7_casts 143 = .ok (.bipush 14, 2) := by decide +kernel
theorem dX7_casts_145 : decode cX7_casts 145 = .ok (.iadd, 1) := by decide +kernel
theorem dX7_casts_146 : decode cX7_casts 146 = .ok (.iaload, 1) := by decide +kernel
theorem dX7_casts_147 : decode cX7_casts 147 = .ok (.if_icmp .eq 71, 3) := by decide +kernel
theorem dX7_casts_150 : decode cX7_casts 150 = .ok (.aload_n 0, 1) := by decide +kernel
theorem dX7_casts_151 : decode cX7_casts 151 = .ok (.getfield 13, 3) := by decide +kernel
theorem dX7_casts_154 : decode cX7_casts 154 = .ok (.iload 5, 2) := by decide +kernel
theorem dX7_casts_156 : decode cX7_casts 156 = .ok (.bipush 45, 2) := by decide +kernel
theorem dX7_casts_158 : decode cX7_casts 158 = .ok (.iadd, 1) := by decide +kernel
theorem dX7_casts_159 : decode cX7_casts 159 = .ok (.aload_n 0, 1) := by decide +kernel
theorem dX7_casts_160 : decode cX7_casts 160 = .ok (.getfield 13, 3) := by decide +kernel
theorem dX7_casts_163 : decode cX7_casts 163 = .ok (.iload_n 2, 1) := by decide +kernel
theorem dX7_casts_164 : decode cX7_casts 164 = .ok (.bipush 14, 2) := by decide +kernel
theorem dX7_casts_166 : decode cX7_casts 166 = .ok (.iadd, 1) := by decide +kernel
theorem dX7_casts_167 : decode cX7_casts 167 = .ok (.iaload, 1) := by decide +kernel
theorem dX7_casts_168 : decode cX7_casts 168 = .ok (.iastore, 1) := by decide +kernel
theorem dX7_casts_169 : decode cX7_casts 169 = .ok (.aload_n 0, 1) := by decide +kernel
theorem dX7_casts_170 : decode cX7_casts 170 = .ok (.getfield 13, 3) := by decide +kernel
theorem dX7_casts_173 : decode cX7_casts 173 = .ok (.iload 5, 2) := by decide +kernel
theorem dX7_casts_175 : decode cX7_casts 175 = .ok (.bipush 43, 2) := by decide +kernel
theorem dX7_casts_177 : decode cX7_casts 177 = .ok (.iadd, 1) := by decide +kernel
theorem dX7_casts_178 : decode cX7_casts 178 = .ok (.dup2, 1) := by decide +kernel
theorem dX7_casts_179 : decode cX7_casts 179 = .ok (.iaload, 1) := by decide +kernel
theorem dX7_casts_180 : decode cX7_casts 180 = .ok (.iconst 1, 1) := by decide +kernel
theorem dX7_casts_181 : decode cX7_casts 181 = .ok (.iadd, 1) := by decide +kernel
theorem dX7_casts_182 : decode cX7_casts 182 = .ok (.iastore, 1) := by decide +kernel
theorem dX7_casts_183 : decode cX7_casts 183 = .ok (.aload_n 0, 1) := by decide +kernel
theorem dX7_casts_184 : decode cX7_casts 184 = .ok (.getfield 13, 3) := by decide +kernel
theorem dX7_casts_187 : decode cX7_casts 187 = .ok (.iload 5, 2) := by decide +kernel
theorem dX7_casts_189 : decode cX7_casts 189 = .ok (.bipush 44, 2) := by decide +kernel
theorem dX7_casts_191 : decode cX7_casts 191 = .ok (.iadd, 1) := by decide +kernel
theorem dX7_casts_192 : decode cX7_casts 192 = .ok (.bipush 31, 2) := by decide +kernel
theorem dX7_casts_194 : decode cX7_casts 194 = .ok (.aload_n 0, 1) := by decide +kernel
theorem dX7_casts_195 : decode cX7_casts 195 = .ok (.getfield 13, 3) := by decide +kernel
theorem dX7_casts_198 : decode cX7_casts 198 = .ok (.iload 5, 2) := by decide +kernel
theorem dX7_casts_200 : decode cX7_casts 200 = .ok (.bipush 44, 2) := by decide +kernel
theorem dX7_casts_202 : decode cX7_casts 202 = .ok (.iadd, 1) := by decide +kernel
theorem dX7_casts_203 : decode cX7_casts 203 = .ok (.iaload, 1) := by decide +kernel
theorem dX7_casts_204 : decode cX7_casts 204 = .ok (.imul, 1) := by decide +kernel
theorem dX7_casts_205 : decode cX7_casts 205 = .ok (.aload_n 0, 1) := by decide +kernel
theorem dX7_casts_206 : decode cX7_casts 206 = .ok (.getfield 13, 3) := by decide +kernel
theorem dX7_casts_209 : decode cX7_casts 209 = .ok (.iload_n 2, 1) := by decide +kernel
theorem dX7_casts_210 : decode cX7_casts 210 = .ok (.bipush 10, 2) := by decide +kernel
theorem dX7_casts_212 : decode cX7_casts 212 = .ok (.iadd, 1) := by decide +kernel
theorem dX7_casts_213 : decode cX7_casts 213 = .ok (.iaload, 1) := by decide +kernel
theorem dX7_casts_214 : decode cX7_casts 214 = .ok (.iadd, 1) := by decide +kernel
theorem dX7_casts_215 : decode cX7_casts 215 = .ok (.iconst 1, 1) := by decide +kernel
theorem dX7_casts_216 : decode cX7_casts 216 = .ok (.iadd, 1) := by decide +kernel
theorem dX7_casts_217 : decode cX7_casts 217 = .ok (.iastore, 1) := by decide +kernel
theorem dX7_casts_218 : decode cX7_casts 218 = .ok (.iinc 4 1, 3) := by decide +kernel
theorem dX7_casts_221 : decode cX7_casts 221 = .ok (.goto (-159), 3) := by decide +kernel
theorem dX7_casts_224 : decode cX7_casts 224 = .ok (.aload_n 0, 1) := by decide +kernel
theorem dX7_casts_225 : decode cX7_casts 225 = .ok (.getfield 13, 3) := by decide +kernel
theorem dX7_casts_228 : decode cX7_casts 228 = .ok (.iload_n 2, 1) := by decide +kernel
theorem dX7_casts_229 : decode cX7_casts 229 = .ok (.bipush 15, 2) := by decide +kernel
theorem dX7_casts_231 : decode cX7_casts 231 = .ok (.iadd, 1) := by decide +kernel
theorem dX7_casts_232 : decode cX7_casts 232 = .ok (.dup2, 1) := by decide +kernel
theorem dX7_casts_233 : decode cX7_casts 233 = .ok (.iaload, 1) := by decide +kernel
theorem dX7_casts_234 : decode cX7_casts 234 = .ok (.iconst 1, 1) := by decide +kernel
theorem dX7_casts_235 : decode cX7_casts 235 = .ok (.iadd, 1) := by decide +kernel
theorem dX7_casts_236 : decode cX7_casts 236 = .ok (.iastore, 1) := by decide +kernel
theorem dX7_casts_237 : decode cX7_casts 237 = .ok (.aload_n 0, 1) := by decide +kernel
theorem dX7_casts_238 : decode cX7_casts 238 = .ok (.getfield 13, 3) := by decide +kernel
theorem dX7_casts_241 : decode cX7_casts 241 = .ok (.iload_n 2, 1) := by decide +kernel
theorem dX7_casts_242 : decode cX7_casts 242 = .ok (.bipush 15, 2) := by decide +kernel
theorem dX7_casts_244 : decode cX7_casts 244 = .ok (.iadd, 1) := by decide +kernel
theorem dX7_casts_245 : decode cX7_casts 245 = .ok (.iaload, 1) := by decide +kernel
theorem dX7_casts_246 : decode cX7_casts 246 = .ok (.aload_n 0, 1) := by decide +kernel
theorem dX7_casts_247 : decode cX7_casts 247 = .ok (.getfield 13, 3) := by decide +kernel
theorem dX7_casts_250 : decode cX7_casts 250 = .ok (.bipush 10, 2) := by decide +kernel
theorem dX7_casts_252 : decode cX7_casts 252 = .ok (.iaload, 1) := by decide +kernel
theorem dX7_casts_253 : decode cX7_casts 253 = .ok (.if_icmp .lt 95, 3) := by decide +kernel
theorem dX7_casts_256 : decode cX7_casts 256 = .ok (.aload_n 0, 1) := by decide +kernel
theorem dX7_casts_257 : decode cX7_casts 257 = .ok (.getfield 13, 3) := by decide +kernel
theorem dX7_casts_260 : decode cX7_casts 260 = .ok (.iload_n 2, 1) := by decide +kernel
theorem dX7_casts_261 : decode cX7_casts 261 = .ok (.bipush 9, 2) := by decide +kernel
theorem dX7_casts_263 : decode cX7_casts 263 = .ok (.iadd, 1) := by decide +kernel
theorem dX7_casts_264 : decode cX7_casts 264 = .ok (.dup2, 1) := by decide +kernel
theorem dX7_casts_265 : decode cX7_casts 265 = .ok (.iaload, 1) := by decide +kernel
theorem dX7_casts_266 : decode cX7_casts 266 = .ok (.iconst 1, 1) := by decide +kernel
theorem dX7_casts_267 : decode cX7_casts 267 = .ok (.isub, 1) := by decide +kernel
theorem dX7_casts_268 : decode cX7_casts 268 = .ok (.iastore, 1) := by decide +kernel
theorem dX7_casts_269 : decode cX7_casts 269 = .ok (.iconst 0, 1) := by decide +kernel
theorem dX7_casts_270 : decode cX7_casts 270 = .ok (.istore 4, 2) := by decide +kernel
theorem dX7_casts_272 : decode cX7_casts 272 = .ok (.iload 4, 2) := by decide +kernel
theorem dX7_casts_274 : decode cX7_casts 274 = .ok (.aload_n 0, 1) := by decide +kernel
theorem dX7_casts_275 : decode cX7_casts 275 = .ok (.getfield 13, 3) := by decide +kernel
theorem dX7_casts_278 : decode cX7_casts 278 = .ok (.iload_n 2, 1) := by decide +kernel
theorem dX7_casts_279 : decode cX7_casts 279 = .ok (.bipush 9, 2) := by decide +kernel
theorem dX7_casts_281 : decode cX7_casts 281 = .ok (.iadd, 1) := by decide +kernel
theorem dX7_casts_282 : decode cX7_casts 282 = .ok (.iaload, 1) := by decide +kernel
theorem dX7_casts_283 : decode cX7_casts 283 = .ok (.if_icmp .ge 35, 3) := by decide +kernel
theorem dX7_casts_286 : decode cX7_casts 286 = .ok (.aload_n 0, 1) := by decide +kernel
theorem dX7_casts_287 : decode cX7_casts 287 = .ok (.getfield 13, 3) := by decide +kernel
theorem dX7_casts_290 : decode cX7_casts 290 = .ok (.iload_n 2, 1) := by decide +kernel
theorem dX7_casts_291 : decode cX7_casts 291 = .ok (.bipush 10, 2) := by decide +kernel
theorem dX7_casts_293 : decode cX7_casts 293 = .ok (.iadd, 1) := by decide +kernel
theorem dX7_casts_294 : decode cX7_casts 294 = .ok (.iload 4, 2) := by decide +kernel
theorem dX7_casts_296 : decode cX7_casts 296 = .ok (.iadd, 1) := by decide +kernel
theorem dX7_casts_297 : decode cX7_casts 297 = .ok (.aload_n 0, 1) := by decide +kernel
theorem dX7_casts_298 : decode cX7_casts 298 = .ok (.getfield 13, 3) := by decide +kernel
theorem dX7_casts_301 : decode cX7_casts 301 = .ok (.iload_n 2, 1) := by decide +kernel
theorem dX7_casts_302 : decode cX7_casts 302 = .ok (.bipush 10, 2) := by decide +kernel
theorem dX7_casts_304 : decode cX7_casts 304 = .ok (.iadd, 1) := by decide +kernel
theorem dX7_casts_305 : decode cX7_casts 305 = .ok (.iload 4, 2) := by decide +kernel
theorem dX7_casts_307 : decode cX7_casts 307 = .ok (.iadd, 1) := by decide +kernel
theorem dX7_casts_308 : decode cX7_casts 308 = .ok (.iconst 1, 1) := by decide +kernel
theorem dX7_casts_309 : decode cX7_casts 309 = .ok (.iadd, 1) := by decide +kernel
theorem dX7_casts_310 : decode cX7_casts 310 = .ok (.iaload, 1) := by decide +kernel
theorem dX7_casts_311 : decode cX7_casts 311 = .ok (.iastore, 1) := by decide +kernel
theorem dX7_casts_312 : decode cX7_casts 312 = .ok (.iinc 4 1, 3) := by decide +kernel
theorem dX7_casts_315 : decode cX7_casts 315 = .ok (.goto (-43), 3) := by decide +kernel
theorem dX7_casts_318 : decode cX7_casts 318 = .ok (.aload_n 0, 1) := by decide +kernel
theorem dX7_casts_319 : decode cX7_casts 319 = .ok (.getfield 13, 3) := by decide +kernel
theorem dX7_casts_322 : decode cX7_casts 322 = .ok (.iload_n 2, 1) := by decide +kernel
theorem dX7_casts_323 : decode cX7_casts 323 = .ok (.bipush 15, 2) := by decide +kernel
theorem dX7_casts_325 : decode cX7_casts 325 = .ok (.iadd, 1) := by decide +kernel
theorem dX7_casts_326 : decode cX7_casts 326 = .ok (.iconst 0, 1) := by decide +kernel
theorem dX7_casts_327 : decode cX7_casts 327 = .ok (.iastore, 1) := by decide +kernel
theorem dX7_casts_328 : decode cX7_casts 328 = .ok (.aload_n 0, 1) := by decide +kernel
theorem dX7_casts_329 : decode cX7_casts 329 = .ok (.getfield 13, 3) := by decide +kernel
theorem dX7_casts_332 : decode cX7_casts 332 = .ok (.iload_n 2, 1) := by decide +kernel
theorem dX7_casts_333 : decode cX7_casts 333 = .ok (.bipush 14, 2) := by decide +kernel
theorem dX7_casts_335 : decode cX7_casts 335 = .ok (.iadd, 1) := by decide +kernel
theorem dX7_casts_336 : decode cX7_casts 336 = .ok (.iconst 1, 1) := by decide +kernel
theorem dX7_casts_337 : decode cX7_casts 337 = .ok (.aload_n 0, 1) := by decide +kernel
theorem dX7_casts_338 : decode cX7_casts 338 = .ok (.getfield 13, 3) := by decide +kernel
theorem dX7_casts_341 : decode cX7_casts 341 = .ok (.iload_n 2, 1) := by decide +kernel
theorem dX7_casts_342 : decode cX7_casts 342 = .ok (.bipush 14, 2) := by decide +kernel
theorem dX7_casts_344 : decode cX7_casts 344 = .ok (.iadd, 1) := by decide +kernel
theorem dX7_casts_345 : decode cX7_casts 345 = .ok (.iaload, 1) := by decide +kernel
theorem dX7_casts_346 : decode cX7_casts 346 = .ok (.isub, 1) := by decide +kernel
theorem dX7_casts_347 : decode cX7_casts 347 = .ok (.iastore, 1) := by decide +kernel
theorem dX7_casts_348 : decode cX7_casts 348 = .ok (.return_, 1) := by decide +kernel
theorem dX7_memberHears_0 : decode cX7_memberHears 0 = .ok (.iload_n 1, 1) := by decide +kernel
theorem dX7_memberHears_1 : decode cX7_memberHears 1 = .ok (.invokestatic 75, 3) := by decide +kernel
theorem dX7_memberHears_4 : decode cX7_memberHears 4 = .ok (.istore_n 3, 1) := by decide +kernel
theorem dX7_memberHears_5 : decode cX7_memberHears 5 = .ok (.aload_n 0, 1) := by decide +kernel
theorem dX7_memberHears_6 : decode cX7_memberHears 6 = .ok (.getfield 41, 3) := by decide +kernel
theorem dX7_memberHears_9 : decode cX7_memberHears 9 = .ok (.iload_n 1, 1) := by decide +kernel
theorem dX7_memberHears_10 : decode cX7_memberHears 10 = .ok (.baload, 1) := by decide +kernel
theorem dX7_memberHears_11 : decode cX7_memberHears 11 = .ok (.ifCond .eq 28, 3) := by decide +kernel
theorem dX7_memberHears_14 : decode cX7_memberHears 14 = .ok (.aload_n 0, 1) := by decide +kernel
theorem dX7_memberHears_15 : decode cX7_memberHears 15 = .ok (.iload_n 2, 1) := by decide +kernel
theorem dX7_memberHears_16 : decode cX7_memberHears 16 = .ok (.aload_n 0, 1) := by decide +kernel
theorem dX7_memberHears_17 : decode cX7_memberHears 17 = .ok (.getfield 13, 3) := by decide +kernel
theorem dX7_memberHears_20 : decode cX7_memberHears 20 = .ok (.iload_n 2, 1) := by decide +kernel
theorem dX7_memberHears_21 : decode cX7_memberHears 21 = .ok (.bipush 6, 2) := by decide +kernel
theorem dX7_memberHears_23 : decode cX7_memberHears 23 = .ok (.iadd, 1) := by decide +kernel
theorem dX7_memberHears_24 : decode cX7_memberHears 24 = .ok (.iaload, 1) := by decide +kernel
theorem dX7_memberHears_25 : decode cX7_memberHears 25 = .ok (.aload_n 0, 1) := by decide +kernel
theorem dX7_memberHears_26 : decode cX7_memberHears 26 = .ok (.getfield 13, 3) := by decide +kernel
theorem dX7_memberHears_29 : decode cX7_memberHears 29 = .ok (.iload_n 2, 1) := by decide +kernel
theorem dX7_memberHears_30 : decode cX7_memberHears 30 = .ok (.bipush 23, 2) := by decide +kernel
theorem dX7_memberHears_32 : decode cX7_memberHears 32 = .ok (.iadd, 1) := by decide +kernel
theorem dX7_memberHears_33 : decode cX7_memberHears 33 = .ok (.iaload, 1) := by decide +kernel
theorem dX7_memberHears_34 : decode cX7_memberHears 34 = .ok (.bipush 24, 2) := by decide +kernel
theorem dX7_memberHears_36 : decode cX7_memberHears 36 = .ok (.invokevirtual 209, 3) := by decide +kernel
theorem dX7_memberHears_39 : decode cX7_memberHears 39 = .ok (.aload_n 0, 1) := by decide +kernel
theorem dX7_memberHears_40 : decode cX7_memberHears 40 = .ok (.getfield 44, 3) := by decide +kernel
theorem dX7_memberHears_43 : decode cX7_memberHears 43 = .ok (.iload_n 1, 1) := by decide +kernel
theorem dX7_memberHears_44 : decode cX7_memberHears 44 = .ok (.baload, 1) := by decide +kernel
theorem dX7_memberHears_45 : decode cX7_memberHears 45 = .ok (.ifCond .eq 49, 3) := by decide +kernel
theorem dX7_memberHears_48 : decode cX7_memberHears 48 = .ok (.aload_n 0, 1) := by decide +kernel
theorem dX7_memberHears_49 : decode cX7_memberHears 49 = .ok (.getfield 13, 3) := by decide +kernel
theorem dX7_memberHears_52 : decode cX7_memberHears 52 = .ok (.iload_n 3, 1) := by decide +kernel
theorem dX7_memberHears_53 : decode cX7_memberHears 53 = .ok (.iconst 3, 1) := by decide +kernel
theorem dX7_memberHears_54 : decode cX7_memberHears 54 = .ok (.iadd, 1) := by decide +kernel
theorem dX7_memberHears_55 : decode cX7_memberHears 55 = .ok (.iaload, 1) := by decide +kernel
theorem dX7_memberHears_56 : decode cX7_memberHears 56 = .ok (.ifCond .eq 38, 3) := by decide +kernel
theorem dX7_memberHears_59 : decode cX7_memberHears 59 = .ok (.aload_n 0, 1) := by decide +kernel
theorem dX7_memberHears_60 : decode cX7_memberHears 60 = .ok (.getfield 13, 3) := by decide +kernel
theorem dX7_memberHears_63 : decode cX7_memberHears 63 = .ok (.iload_n 2, 1) := by decide +kernel
theorem dX7_memberHears_64 : decode cX7_memberHears 64 = .ok (.iconst 2, 1) := by decide +kernel
theorem dX7_memberHears_65 : decode cX7_memberHears 65 = .ok (.iadd, 1) := by decide +kernel
theorem dX7_memberHears_66 : decode cX7_memberHears 66 = .ok (.aload_n 0, 1) := by decide +kernel
theorem dX7_memberHears_67 : decode cX7_memberHears 67 = .ok (.getfield 13, 3) := by decide +kernel
theorem dX7_memberHears_70 : decode cX7_memberHears 70 = .ok (.iload_n 3, 1) := by decide +kernel
theorem dX7_memberHears_71 : decode cX7_memberHears 71 = .ok (.iconst 3, 1) := by decide +kernel
theorem dX7_memberHears_72 : decode cX7_memberHears 72 = .ok (.iadd, 1) := by decide +kernel
theorem dX7_memberHears_73 : decode cX7_memberHears 73 = .ok (.iaload, 1) := by decide +kernel
theorem dX7_memberHears_74 : decode cX7_memberHears 74 = .ok (.iastore, 1) := by decide +kernel
theorem dX7_memberHears_75 : decode cX7_memberHears 75 = .ok (.aload_n 0, 1) := by decide +kernel
theorem dX7_memberHears_76 : decode cX7_memberHears 76 = .ok (.getfield 13, 3) := by decide +kernel
theorem dX7_memberHears_79 : decode cX7_memberHears 79 = .ok (.iload_n 2, 1) := by decide +kernel
theorem dX7_memberHears_80 : decode cX7_memberHears 80 = .ok (.iconst 3, 1) := by decide +kernel
theorem dX7_memberHears_81 : decode cX7_memberHears 81 = .ok (.iadd, 1) := by decide +kernel
theorem dX7_memberHears_82 : decode cX7_memberHears 82 = .ok (.aload_n 0, 1) := by decide +kernel
theorem dX7_memberHears_83 : decode cX7_memberHears 83 = .ok (.getfield 13, 3) := by decide +kernel
theorem dX7_memberHears_86 : decode cX7_memberHears 86 = .ok (.iload_n 3, 1) := by decide +kernel
theorem dX7_memberHears_87 : decode cX7_memberHears 87 = .ok (.iconst 4, 1) := by decide +kernel
theorem dX7_memberHears_88 : decode cX7_memberHears 88 = .ok (.iadd, 1) := by decide +kernel
theorem dX7_memberHears_89 : decode cX7_memberHears 89 = .ok (.iaload, 1) := by decide +kernel
theorem dX7_memberHears_90 : decode cX7_memberHears 90 = .ok (.iastore, 1) := by decide +kernel
theorem dX7_memberHears_91 : decode cX7_memberHears 91 = .ok (.goto 46, 3) := by decide +kernel
theorem dX7_memberHears_94 : decode cX7_memberHears 94 = .ok (.aload_n 0, 1) := by decide +kernel
theorem dX7_memberHears_95 : decode cX7_memberHears 95 = .ok (.getfield 44, 3) := by decide +kernel
theorem dX7_memberHears_98 : decode cX7_memberHears 98 = .ok (.iload_n 1, 1) := by decide +kernel
theorem dX7_memberHears_99 : decode cX7_memberHears 99 = .ok (.baload, 1) := by decide +kernel
theorem dX7_memberHears_100 : decode cX7_memberHears 100 = .ok (.ifCond .eq 37, 3) := by decide +kernel
theorem dX7_memberHears_103 : decode cX7_memberHears 103 = .ok (.aload_n 0, 1) := by decide +kernel
theorem dX7_memberHears_104 : decode cX7_memberHears 104 = .ok (.getfield 13, 3) := by decide +kernel
theorem dX7_memberHears_107 : decode cX7_memberHears 107 = .ok (.iload_n 2, 1) := by decide +kernel
theorem dX7_memberHears_108 : decode cX7_memberHears 108 = .ok (.iconst 1, 1) := by decide +kernel
theorem dX7_memberHears_109 : decode cX7_memberHears 109 = .ok (.iadd, 1) := by decide +kernel
theorem dX7_memberHears_110 : decode cX7_memberHears 110 = .ok (.aload_n 0, 1) := by decide +kernel
theorem dX7_memberHears_111 : decode cX7_memberHears 111 = .ok (.getfield 13, 3) := by decide +kernel
theorem dX7_memberHears_114 : decode cX7_memberHears 114 = .ok (.iload_n 3, 1) := by decide +kernel
theorem dX7_memberHears_115 : decode cX7_memberHears 115 = .ok (.iconst 2, 1) := by decide +kernel
theorem dX7_memberHears_116 : decode cX7_memberHears 116 = .ok (.iadd, 1) := by decide +kernel
theorem dX7_memberHears_117 : decode cX7_memberHears 117 = .ok (.iaload, 1) := by decide +kernel
theorem dX7_memberHears_118 : decode cX7_memberHears 118 = .ok (.iastore, 1) := by decide +kernel
theorem dX7_memberHears_119 : decode cX7_memberHears 119 = .ok (.aload_n 0, 1) := by decide +kernel
theorem dX7_memberHears_120 : decode cX7_memberHears 120 = .ok (.getfield 13, 3) := by decide +kernel
theorem dX7_memberHears_123 : decode cX7_memberHears 123 = .ok (.iload_n 2, 1) := by decide +kernel
theorem dX7_memberHears_124 : decode cX7_memberHears 124 = .ok (.iconst 2, 1) := by decide +kernel
theorem dX7_memberHears_125 : decode cX7_memberHears 125 = .ok (.iadd, 1) := by decide +kernel
theorem dX7_memberHears_126 : decode cX7_memberHears 126 = .ok (.iconst 0, 1) := by decide +kernel
theorem dX7_memberHears_127 : decode cX7_memberHears 127 = .ok (.iastore, 1) := by decide +kernel
theorem dX7_memberHears_128 : decode cX7_memberHears 128 = .ok (.aload_n 0, 1) := by decide +kernel
theorem dX7_memberHears_129 : decode cX7_memberHears 129 = .ok (.getfield 13, 3) := by decide +kernel
theorem dX7_memberHears_132 : decode cX7_memberHears 132 = .ok (.iload_n 2, 1) := by decide +kernel
theorem dX7_memberHears_133 : decode cX7_memberHears 133 = .ok (.iconst 3, 1) := by decide +kernel
theorem dX7_memberHears_134 : decode cX7_memberHears 134 = .ok (.iadd, 1) := by decide +kernel
theorem dX7_memberHears_135 : decode cX7_memberHears 135 = .ok (.iconst 0, 1) := by decide +kernel
theorem dX7_memberHears_136 : decode cX7_memberHears 136 = .ok (.iastore, 1) := by decide +kernel
theorem dX7_memberHears_137 : decode cX7_memberHears 137 = .ok (.aload_n 0, 1) := by decide +kernel
theorem dX7_memberHears_138 : decode cX7_memberHears 138 = .ok (.getfield 13, 3) := by decide +kernel
theorem dX7_memberHears_141 : decode cX7_memberHears 141 = .ok (.iload_n 2, 1) := by decide +kernel
theorem dX7_memberHears_142 : decode cX7_memberHears 142 = .ok (.bipush 39, 2) := by decide +kernel
theorem dX7_memberHears_144 : decode cX7_memberHears 144 = .ok (.iadd, 1) := by decide +kernel
theorem dX7_memberHears_145 : decode cX7_memberHears 145 = .ok (.iaload, 1) := by decide +kernel
theorem dX7_memberHears_146 : decode cX7_memberHears 146 = .ok (.iconst 1, 1) := by decide +kernel
theorem dX7_memberHears_147 : decode cX7_memberHears 147 = .ok (.if_icmp .ne 22, 3) := by decide +kernel
theorem dX7_memberHears_150 : decode cX7_memberHears 150 = .ok (.aload_n 0, 1) := by decide +kernel
theorem dX7_memberHears_151 : decode cX7_memberHears 151 = .ok (.iload_n 2, 1) := by decide +kernel
theorem dX7_memberHears_152 : decode cX7_memberHears 152 = .ok (.bipush 14, 2) := by decide +kernel
theorem dX7_memberHears_154 : decode cX7_memberHears 154 = .ok (.bipush 25, 2) := by decide +kernel
theorem dX7_memberHears_156 : decode cX7_memberHears 156 = .ok (.invokevirtual 212, 3) := by decide +kernel
theorem dX7_memberHears_159 : decode cX7_memberHears 159 = .ok (.aload_n 0, 1) := by decide +kernel
theorem dX7_memberHears_160 : decode cX7_memberHears 160 = .ok (.getfield 13, 3) := by decide +kernel
theorem dX7_memberHears_163 : decode cX7_memberHears 163 = .ok (.iload_n 2, 1) := by decide +kernel
theorem dX7_memberHears_164 : decode cX7_memberHears 164 = .ok (.bipush 39, 2) := by decide +kernel
theorem dX7_memberHears_166 : decode cX7_memberHears 166 = .ok (.iadd, 1) := by decide +kernel
theorem dX7_memberHears_167 : decode cX7_memberHears 167 = .ok (.iconst 0, 1) := by decide +kernel
theorem dX7_memberHears_168 : decode cX7_memberHears 168 = .ok (.iastore, 1) := by decide +kernel
theorem dX7_memberHears_169 : decode cX7_memberHears 169 = .ok (.return_, 1) := by decide +kernel
theorem dX7_masterHears_0 : decode cX7_masterHears 0 = .ok (.aload_n 0, 1) := by decide +kernel
theorem dX7_masterHears_1 : decode cX7_masterHears 1 = .ok (.getfield 13, 3) := by decide +kernel
theorem dX7_masterHears_4 : decode cX7_masterHears 4 = .ok (.iload_n 1, 1) := by decide +kernel
theorem dX7_masterHears_5 : decode cX7_masterHears 5 = .ok (.invokestatic 75, 3) := by decide +kernel
theorem dX7_masterHears_8 : decode cX7_masterHears 8 = .ok (.bipush 39, 2) := by decide +kernel
theorem dX7_masterHears_10 : decode cX7_masterHears 10 = .ok (.iadd, 1) := by decide +kernel
theorem dX7_masterHears_11 : decode cX7_masterHears 11 = .ok (.aload_n 0, 1) := by decide +kernel
theorem dX7_masterHears_12 : decode cX7_masterHears 12 = .ok (.getfield 38, 3) := by decide +kernel
theorem dX7_masterHears_15 : decode cX7_masterHears 15 = .ok (.iload_n 1, 1) := by decide +kernel
theorem dX7_masterHears_16 : decode cX7_masterHears 16 = .ok (.iaload, 1) := by decide +kernel
theorem dX7_masterHears_17 : decode cX7_masterHears 17 = .ok (.iadd, 1) := by decide +kernel
theorem dX7_masterHears_18 : decode cX7_masterHears 18 = .ok (.dup2, 1) := by decide +kernel
theorem dX7_masterHears_19 : decode cX7_masterHears 19 = .ok (.iaload, 1) := by decide +kernel
theorem dX7_masterHears_20 : decode cX7_masterHears 20 = .ok (.iconst 1, 1) := by decide +kernel
theorem dX7_masterHears_21 : decode cX7_masterHears 21 = .ok (.iadd, 1) := by decide +kernel
theorem dX7_masterHears_22 : decode cX7_masterHears 22 = .ok (.iastore, 1) := by decide +kernel
theorem dX7_masterHears_23 : decode cX7_masterHears 23 = .ok (.aload_n 0, 1) := by decide +kernel
theorem dX7_masterHears_24 : decode cX7_masterHears 24 = .ok (.getfield 13, 3) := by decide +kernel
theorem dX7_masterHears_27 : decode cX7_masterHears 27 = .ok (.iload_n 2, 1) := by decide +kernel
theorem dX7_masterHears_28 : decode cX7_masterHears 28 = .ok (.bipush 49, 2) := by decide +kernel
theorem dX7_masterHears_30 : decode cX7_masterHears 30 = .ok (.iadd, 1) := by decide +kernel
theorem dX7_masterHears_31 : decode cX7_masterHears 31 = .ok (.aload_n 0, 1) := by decide +kernel
theorem dX7_masterHears_32 : decode cX7_masterHears 32 = .ok (.getfield 13, 3) := by decide +kernel
theorem dX7_masterHears_35 : decode cX7_masterHears 35 = .ok (.bipush 7, 2) := by decide +kernel
theorem dX7_masterHears_37 : decode cX7_masterHears 37 = .ok (.iaload, 1) := by decide +kernel
theorem dX7_masterHears_38 : decode cX7_masterHears 38 = .ok (.iastore, 1) := by decide +kernel
theorem dX7_masterHears_39 : decode cX7_masterHears 39 = .ok (.aload_n 0, 1) := by decide +kernel
theorem dX7_masterHears_40 : decode cX7_masterHears 40 = .ok (.getfield 41, 3) := by decide +kernel
theorem dX7_masterHears_43 : decode cX7_masterHears 43 = .ok (.iload_n 1, 1) := by decide +kernel
theorem dX7_masterHears_44 : decode cX7_masterHears 44 = .ok (.baload, 1) := by decide +kernel
theorem dX7_masterHears_45 : decode cX7_masterHears 45 = .ok (.ifCond .eq 11, 3) := by decide +kernel
theorem dX7_masterHears_48 : decode cX7_masterHears 48 = .ok (.aload_n 0, 1) := by decide +kernel
theorem dX7_masterHears_49 : decode cX7_masterHears 49 = .ok (.iload_n 2, 1) := by decide +kernel
theorem dX7_masterHears_50 : decode cX7_masterHears 50 = .ok (.iconst 5, 1) := by decide +kernel
theorem dX7_masterHears_51 : decode cX7_masterHears 51 = .ok (.bipush 23, 2) := by decide +kernel
theorem dX7_masterHears_53 : decode cX7_masterHears 53 = .ok (.invokevirtual 212, 3) := by decide +kernel
theorem dX7_masterHears_56 : decode cX7_masterHears 56 = .ok (.aload_n 0, 1) := by decide +kernel
theorem dX7_masterHears_57 : decode cX7_masterHears 57 = .ok (.getfield 13, 3) := by decide +kernel
theorem dX7_masterHears_60 : decode cX7_masterHears 60 = .ok (.iload_n 2, 1) := by decide +kernel
theorem dX7_masterHears_61 : decode cX7_masterHears 61 = .ok (.bipush 14, 2) := by decide +kernel
theorem dX7_masterHears_63 : decode cX7_masterHears 63 = .ok (.iadd, 1) := by decide +kernel
theorem dX7_masterHears_64 : decode cX7_masterHears 64 = .ok (.iaload, 1) := by decide +kernel
theorem dX7_masterHears_65 : decode cX7_masterHears 65 = .ok (.ifCond .le 38, 3) := by decide +kernel
theorem dX7_masterHears_68 : decode cX7_masterHears 68 = .ok (.aload_n 0, 1) := by decide +kernel
theorem dX7_masterHears_69 : decode cX7_masterHears 69 = .ok (.iload_n 2, 1) := by decide +kernel
theorem dX7_masterHears_70 : decode cX7_masterHears 70 = .ok (.aload_n 0, 1) := by decide +kernel
theorem dX7_masterHears_71 : decode cX7_masterHears 71 = .ok (.getfield 13, 3) := by decide +kernel
theorem dX7_masterHears_74 : decode cX7_masterHears 74 = .ok (.iload_n 2, 1) := by decide +kernel
theorem dX7_masterHears_75 : decode cX7_masterHears 75 = .ok (.bipush 15, 2) := by decide +kernel
theorem dX7_masterHears_77 : decode cX7_masterHears 77 = .ok (.iadd, 1) := by decide +kernel
theorem dX7_masterHears_78 : decode cX7_masterHears 78 = .ok (.iaload, 1) := by decide +kernel
theorem dX7_masterHears_79 : decode cX7_masterHears 79 = .ok (.aload_n 0, 1) := by decide +kernel
theorem dX7_masterHears_80 : decode cX7_masterHears 80 = .ok (.getfield 13, 3) := by decide +kernel
theorem dX7_masterHears_83 : decode cX7_masterHears 83 = .ok (.iload_n 2, 1) := by decide +kernel
theorem dX7_masterHears_84 : decode cX7_masterHears 84 = .ok (.bipush 25, 2) := by decide +kernel
theorem dX7_masterHears_86 : decode cX7_masterHears 86 = .ok (.iadd, 1) := by decide +kernel
theorem dX7_masterHears_87 : decode cX7_masterHears 87 = .ok (.iaload, 1) := by decide +kernel
theorem dX7_masterHears_88 : decode cX7_masterHears 88 = .ok (.bipush 26, 2) := by decide +kernel
theorem dX7_masterHears_90 : decode cX7_masterHears 90 = .ok (.invokevirtual 209, 3) := by decide +kernel
theorem dX7_masterHears_93 : decode cX7_masterHears 93 = .ok (.aload_n 0, 1) := by decide +kernel
theorem dX7_masterHears_94 : decode cX7_masterHears 94 = .ok (.getfield 13, 3) := by decide +kernel
theorem dX7_masterHears_97 : decode cX7_masterHears 97 = .ok (.iload_n 2, 1) := by decide +kernel
theorem dX7_masterHears_98 : decode cX7_masterHears 98 = .ok (.bipush 39, 2) := by decide +kernel
theorem dX7_masterHears_100 : decode cX7_masterHears 100 = .ok (.iadd, 1) := by decide +kernel
theorem dX7_masterHears_101 : decode cX7_masterHears 101 = .ok (.iconst 1, 1) := by decide +kernel
theorem dX7_masterHears_102 : decode cX7_masterHears 102 = .ok (.iastore, 1) := by decide +kernel
theorem dX7_masterHears_103 : decode cX7_masterHears 103 = .ok (.aload_n 0, 1) := by decide +kernel
theorem dX7_masterHears_104 : decode cX7_masterHears 104 = .ok (.getfield 13, 3) := by decide +kernel
theorem dX7_masterHears_107 : decode cX7_masterHears 107 = .ok (.iload_n 2, 1) := by decide +kernel
theorem dX7_masterHears_108 : decode cX7_masterHears 108 = .ok (.bipush 36, 2) := by decide +kernel
theorem dX7_masterHears_110 : decode cX7_masterHears 110 = .ok (.iadd, 1) := by decide +kernel
theorem dX7_masterHears_111 : decode cX7_masterHears 111 = .ok (.iaload, 1) := by decide +kernel
theorem dX7_masterHears_112 : decode cX7_masterHears 112 = .ok (.ifCond .le 26, 3) := by decide +kernel
theorem dX7_masterHears_115 : decode cX7_masterHears 115 = .ok (.aload_n 0, 1) := by decide +kernel
theorem dX7_masterHears_116 : decode cX7_masterHears 116 = .ok (.getfield 13, 3) := by decide +kernel
theorem dX7_masterHears_119 : decode cX7_masterHears 119 = .ok (.iload_n 2, 1) := by decide +kernel
theorem dX7_masterHears_120 : decode cX7_masterHears 120 = .ok (.bipush 36, 2) := by decide +kernel
theorem dX7_masterHears_122 : decode cX7_masterHears 122 = .ok (.iadd, 1) := by decide +kernel
theorem dX7_masterHears_123 : decode cX7_masterHears 123 = .ok (.iconst 0, 1) := by decide +kernel
theorem dX7_masterHears_124 : decode cX7_masterHears 124 = .ok (.iastore, 1) := by decide +kernel
theorem dX7_masterHears_125 : decode cX7_masterHears 125 = .ok (.aload_n 0, 1) := by decide +kernel
theorem dX7_masterHears_126 : decode cX7_masterHears 126 = .ok (.getfield 13, 3) := by decide +kernel
theorem dX7_masterHears_129 : decode cX7_masterHears 129 = .ok (.iload_n 2, 1) := by decide +kernel
theorem dX7_masterHears_130 : decode cX7_masterHears 130 = .ok (.bipush 34, 2) := by decide +kernel
theorem dX7_masterHears_132 : decode cX7_masterHears 132 = .ok (.iadd, 1) := by decide +kernel
theorem dX7_masterHears_133 : decode cX7_masterHears 133 = .ok (.dup2, 1) := by decide +kernel
theorem dX7_masterHears_134 : decode cX7_masterHears 134 = .ok (.iaload, 1) := by decide +kernel
theorem dX7_masterHears_135 : decode cX7_masterHears 135 = .ok (.iconst 1, 1) := by decide +kernel
theorem dX7_masterHears_136 : decode cX7_masterHears 136 = .ok (.iadd, 1) := by decide +kernel
theorem dX7_masterHears_137 : decode cX7_masterHears 137 = .ok (.iastore, 1) := by decide +kernel
theorem dX7_masterHears_138 : decode cX7_masterHears 138 = .ok (.aload_n 0, 1) := by decide +kernel
theorem dX7_masterHears_139 : decode cX7_masterHears 139 = .ok (.getfield 13, 3) := by decide +kernel
theorem dX7_masterHears_142 : decode cX7_masterHears 142 = .ok (.iload_n 2, 1) := by decide +kernel
theorem dX7_masterHears_143 : decode cX7_masterHears 143 = .ok (.iconst 4, 1) := by decide +kernel
theorem dX7_masterHears_144 : decode cX7_masterHears 144 = .ok (.iadd, 1) := by decide +kernel
theorem dX7_masterHears_145 : decode cX7_masterHears 145 = .ok (.aload_n 0, 1) := by decide +kernel
theorem dX7_masterHears_146 : decode cX7_masterHears 146 = .ok (.getfield 44, 3) := by decide +kernel
theorem dX7_masterHears_149 : decode cX7_masterHears 149 = .ok (.iload_n 1, 1) := by decide +kernel
theorem dX7_masterHears_150 : decode cX7_masterHears 150 = .ok (.baload, 1) := by decide +kernel
theorem dX7_masterHears_151 : decode cX7_masterHears 151 = .ok (.ifCond .eq 7, 3) := by decide +kernel
theorem dX7_masterHears_154 : decode cX7_masterHears 154 = .ok (.iconst 1, 1) := by decide +kernel
theorem dX7_masterHears_155 : decode cX7_masterHears 155 = .ok (.goto 11, 3) := by decide +kernel
theorem dX7_masterHears_158 : decode cX7_masterHears 158 = .ok (.aload_n 0, 1) := by decide +kernel
theorem dX7_masterHears_159 : decode cX7_masterHears 159 = .ok (.getfield 13, 3) := by decide +kernel
theorem dX7_masterHears_162 : decode cX7_masterHears 162 = .ok (.iload_n 2, 1) := by decide +kernel
theorem dX7_masterHears_163 : decode cX7_masterHears 163 = .ok (.iconst 4, 1) := by decide +kernel
theorem dX7_masterHears_164 : decode cX7_masterHears 164 = .ok (.iadd, 1) := by decide +kernel
theorem dX7_masterHears_165 : decode cX7_masterHears 165 = .ok (.iaload, 1) := by decide +kernel
theorem dX7_masterHears_166 : decode cX7_masterHears 166 = .ok (.iastore, 1) := by decide +kernel
theorem dX7_masterHears_167 : decode cX7_masterHears 167 = .ok (.return_, 1) := by decide +kernel
theorem lk_RX7_185 : LkV RX7 185 RX7 yX7_draw cX7_draw 1 (some .int) 0 := ⟨⟨mw_1305, mw_1307, mw_34, mw_59, mw_1308⟩, by decide +kernel⟩
set_option maxHeartbeats 4000000 in
set_option maxRecDepth 100000 in
theorem d_X7_whyNot (l : Launch) (E : hE) (ρ r : Nat → Nat → Int32) (Bt : Nat) (hBt : Bt ≤ 1000000) (M : Nat → Int32) (L : Nat → Nat) (X : Nat × Nat → Prop) (na1 : Nat) (lna1 : 0 ≤ na1) (una1 : na1 ≤ 1) (a2 : Int32) (hI : RI r Bt M L X ρ) (hc : ∀ n, n < 2 → iR (r 1085 n) (-2) 22) : Met l yX7_whyNot (.code yX7_whyNot cX7_whyNot 4 (some .int) :: gw_all) (rmk 2 80) (cPre E ρ [.ref (E.2.1 + 1076), .int (nI na1), .int a2]) (cI E (fun v ρ1 => RI r Bt M L X ρ1 ∧ iR v (0) (3))) 0 0 (hA E) := by
  refine ent (own := RX7) (by decide) rfl (Nat.le_of_ble_eq_true rfl) ?_
  intro p e s m below meth c ls B hr hlk hl hP hS
  have hx := B.1.1
  have hb := B.1.2.1
  have hown := B.1.2.2.2.1
  have hts := B.1.2.2.2.2
  have hl : lv_has ls 4 [(0, .ref (E.2.1 + 1076)), (1, .int (nI na1)), (2, .int a2)] := hl
  refine lv_aload_n hx hb dX7_whyNot_0 rfl (lv_at hl 0 rfl) ?_
  refine call_i (cVt (k := 1076) (av := []) (rest := []) B hP hS (d_X7_draw l E ρ r Bt hBt M L X hI) lk_RX7_185 (hrecv (ci := 7) B hP (hk_lt (c := 7) (show hk 1076 = 7 by decide +kernel) (by decide)) (hcc7 _ _ (show hk 1076 = 7 by decide +kernel)) rfl) rfl rfl hl.1 (Nat.le_of_ble_eq_true rfl) ⟨Nat.le_of_ble_eq_true rfl, Nat.le_of_ble_eq_true rfl⟩ ⟨Nat.le_of_ble_eq_true rfl, Nat.le_of_ble_eq_true rfl⟩ dX7_whyNot_1) hS (fun r13 ρ14 H locs q15 hP hS => ?_)
  have hI := q15
  refine lv_istore_n (lv' := [(3, .int r13), (0, .ref (E.2.1 + 1076)), (1, .int (nI na1)), (2, .int a2)]) hx hb dX7_whyNot_4 rfl hl (by decide) rfl (fun ls hl => ?_)
  refine lv_iload_n hx hb dX7_whyNot_5 rfl (lv_at hl 0 rfl) ?_
  refine lv_aload_n hx hb dX7_whyNot_6 rfl (lv_at hl 1 rfl) ?_
  refine get7 B hP (show hk 1076 = 7 by decide +kernel) 3 (by decide) mw_1030 rfl dX7_whyNot_7 ?_
  refine lv_bipush (v := 19) hx hb dX7_whyNot_10 (by decide) ?_
  refine lv_aload_n hx hb dX7_whyNot_12 rfl (lv_at hl 1 rfl) ?_
  refine get7 B hP (show hk 1076 = 7 by decide +kernel) 11 (by decide) mw_1038 rfl dX7_whyNot_13 ?_
  refine lv_iload_n hx hb dX7_whyNot_16 rfl (lv_at hl 2 rfl) ?_
  refine aldf (n := 2) (j := na1) (v := (r 1085 na1)) B hP (show hk 1085 = 8 by decide +kernel) (show hlen 1085 = 2 by decide +kernel) rfl (by omega) (by decide) (congrFun (hI.1 1085 (by decide) (by decide)) _) dX7_whyNot_17 ?_
  have i16 : iR (r 1085 na1) (-2) (22) := hc na1 (by omega)
  refine lv_iadd hx hb dX7_whyNot_18 ?_
  obtain ⟨j17, lj17, uj17, ej17⟩ := iR_nat (a := 17) (b := 41) (iR_add (a' := 17) (b' := 41) (show iR 19 (19) (19) from ⟨by decide, by decide⟩) i16 (by decide) (by decide) (by decide) (by decide))
  refine lv_topi (fun z18 ez18 => ?_)
  obtain rfl : z18 = nI j17 := ez18.trans ej17
  refine aldn (n := 695) (j := j17) B hP (show hk 1078 = 8 by decide +kernel) (show hlen 1078 = 695 by decide +kernel) rfl (by omega) (by decide) dX7_whyNot_19 ?_
  refine lv_icmp_ge (tgt := 27) hx hb dX7_whyNot_20 (by decide) (fun c19 => ?_) (fun c19 => ?_)
  · skip
    refine lv_aload_n hx hb dX7_whyNot_27 rfl (lv_at hl 1 rfl) ?_
    refine get7 B hP (show hk 1076 = 7 by decide +kernel) 11 (by decide) mw_1038 rfl dX7_whyNot_28 ?_
    refine lv_iload_n hx hb dX7_whyNot_31 rfl (lv_at hl 2 rfl) ?_
    refine aldf (n := 2) (j := na1) (v := (r 1085 na1)) B hP (show hk 1085 = 8 by decide +kernel) (show hlen 1085 = 2 by decide +kernel) rfl (by omega) (by decide) (congrFun (hI.1 1085 (by decide) (by decide)) _) dX7_whyNot_32 ?_
    refine lv_aload_n hx hb dX7_whyNot_33 rfl (lv_at hl 1 rfl) ?_
    refine get7 B hP (show hk 1076 = 7 by decide +kernel) 11 (by decide) mw_1038 rfl dX7_whyNot_34 ?_
    refine lv_iconst (v := 1) hx hb dX7_whyNot_37 (by decide) ?_
    refine lv_iload_n hx hb dX7_whyNot_38 rfl (lv_at hl 2 rfl) ?_
    refine lv_isub hx hb dX7_whyNot_39 ?_
    obtain ⟨j20, hj20⟩ : ∃ q, 1 = q + na1 := ⟨1 - na1, by omega⟩
    refine lv_topi (fun z21 ez21 => ?_)
    obtain rfl : z21 = (nI j20) := ez21.trans (nI_subE (a := 1) (b := na1) hj20)
    refine aldf (n := 2) (j := j20) (v := (r 1085 j20)) B hP (show hk 1085 = 8 by decide +kernel) (show hlen 1085 = 2 by decide +kernel) rfl (by omega) (by decide) (congrFun (hI.1 1085 (by decide) (by decide)) _) dX7_whyNot_40 ?_
    have i22 : iR (r 1085 j20) (-2) (22) := hc j20 (by omega)
    refine lv_icmp_ne (tgt := 48) hx hb dX7_whyNot_41 (by decide) (fun c23 => ?_) (fun c23 => ?_)
    · skip
      refine lv_aload_n hx hb dX7_whyNot_48 rfl (lv_at hl 1 rfl) ?_
      refine get7 B hP (show hk 1076 = 7 by decide +kernel) 11 (by decide) mw_1038 rfl dX7_whyNot_49 ?_
      refine lv_iload_n hx hb dX7_whyNot_52 rfl (lv_at hl 2 rfl) ?_
      refine aldf (n := 2) (j := na1) (v := (r 1085 na1)) B hP (show hk 1085 = 8 by decide +kernel) (show hlen 1085 = 2 by decide +kernel) rfl (by omega) (by decide) (congrFun (hI.1 1085 (by decide) (by decide)) _) dX7_whyNot_53 ?_
      refine lv_iload_n hx hb dX7_whyNot_54 rfl (lv_at hl 3 rfl) ?_
      refine lv_icmp_eq (tgt := 62) hx hb dX7_whyNot_55 (by decide) (fun c24 => ?_) (fun c24 => ?_)
      · skip
        refine lv_iconst (v := 0) hx hb dX7_whyNot_62 (by decide) ?_
        exact ret_i B hr hlk hP hS dX7_whyNot_63 (⟨hI, (iR_w (a := 0) (b := 0) (show iR 0 (0) (0) from ⟨by decide, by decide⟩) (by decide) (by decide))⟩)
      · skip
        refine lv_iconst (v := 3) hx hb dX7_whyNot_58 (by decide) ?_
        refine lv_goto (tgt := 63) hx hb dX7_whyNot_59 (by decide) ?_
        exact ret_i B hr hlk hP hS dX7_whyNot_63 (⟨hI, (iR_w (a := 3) (b := 3) (show iR 3 (3) (3) from ⟨by decide, by decide⟩) (by decide) (by decide))⟩)
    · skip
      refine lv_iconst (v := 2) hx hb dX7_whyNot_44 (by decide) ?_
      refine lv_goto (tgt := 63) hx hb dX7_whyNot_45 (by decide) ?_
      exact ret_i B hr hlk hP hS dX7_whyNot_63 (⟨hI, (iR_w (a := 2) (b := 2) (show iR 2 (2) (2) from ⟨by decide, by decide⟩) (by decide) (by decide))⟩)
  · skip
    refine lv_iconst (v := 1) hx hb dX7_whyNot_23 (by decide) ?_
    refine lv_goto (tgt := 63) hx hb dX7_whyNot_24 (by decide) ?_
    exact ret_i B hr hlk hP hS dX7_whyNot_63 (⟨hI, (iR_w (a := 1) (b := 1) (show iR 1 (1) (1) from ⟨by decide, by decide⟩) (by decide) (by decide))⟩)

set_option maxHeartbeats 4000000 in
set_option maxRecDepth 100000 in
theorem d_X7_mapFor (l : Launch) (E : hE) (ρ r : Nat → Nat → Int32) (Bt : Nat) (hBt : Bt ≤ 1000000) (M : Nat → Int32) (L : Nat → Nat) (X : Nat × Nat → Prop) (na1 : Nat) (lna1 : 0 ≤ na1) (una1 : na1 ≤ 1) (hI : RI r Bt M L X ρ) (hm : iR (M na1) 0 5) (hc : iR (r 1084 na1) (-2) 3) : Met l yX7_mapFor (.code yX7_mapFor cX7_mapFor 4 (some .int) :: gw_all) (rmk 3 120) (cPre E ρ [.ref (E.2.1 + 1076), .int (nI na1)]) (cI E (fun v ρ1 => ρ = ρ1 ∧ RI r Bt M L X ρ1 ∧ iR v (1) (8388607))) 0 0 (hA E) := by
  refine ent (own := RX7) (by decide) rfl (Nat.le_of_ble_eq_true rfl) ?_
  intro p e s m below meth c ls B hr hlk hl hP hS
  have hx := B.1.1
  have hb := B.1.2.1
  have hown := B.1.2.2.2.1
  have hts := B.1.2.2.2.2
  have hl : lv_has ls 4 [(0, .ref (E.2.1 + 1076)), (1, .int (nI na1))] := hl
  have b63_0 : ∀ (ls : Array Slot) (H : Heap) (locs : List Loc) , lv_has ls 4 [(0, .ref (E.2.1 + 1076)), (2, .int (nI (42 + 326 * na1)))] → WP E ρ H → va_S (hA E) s.heap H locs → iR (M na1) (0) (5) → 0 ≤ na1 → na1 ≤ 1 → W p l e (rmk 3 120) s m ([.ref (E.2.1 + 1076), .int (nI na1)] : List Value).toArray below meth c H locs 0 0 (MQ below (cI E (fun v ρ1 => ρ = ρ1 ∧ RI r Bt M L X ρ1 ∧ iR v (1) (8388607))) ([.ref (E.2.1 + 1076), .int (nI na1)] : List Value).toArray s 0 0 (hA E)) (F0 m 63 ls [.int 0]) := by
    intro ls H locs  hl hP hS f_M_na1_ tlna1 tuna1
    refine lv_istore_n (lv' := [(3, .int 0), (0, .ref (E.2.1 + 1076)), (2, .int (nI (42 + 326 * na1)))]) hx hb dX7_mapFor_63 rfl hl (by decide) rfl (fun ls hl => ?_)
    refine lv_aload_n hx hb dX7_mapFor_64 rfl (lv_at hl 1 rfl) ?_
    refine get7 B hP (show hk 1076 = 7 by decide +kernel) 3 (by decide) mw_1030 rfl dX7_mapFor_65 ?_
    refine lv_iload_n hx hb dX7_mapFor_68 rfl (lv_at hl 2 rfl) ?_
    refine lv_iload_n hx hb dX7_mapFor_69 rfl (lv_at hl 0 rfl) ?_
    refine lv_if_eq (tgt := 78) hx hb dX7_mapFor_70 (by decide) (fun _ => ?_) (fun c42 => absurd rfl c42)
    refine lv_iconst (v := 2) hx hb dX7_mapFor_78 (by decide) ?_
    refine lv_iadd hx hb dX7_mapFor_79 ?_
    refine lv_topi (fun z43 ez43 => ?_)
    obtain rfl : z43 = (nI (44 + 326 * na1)) := ez43.trans (by rw [show (nI (42 + 326 * na1)) = nI (42 + 326 * na1) from rfl, show 2 = nI 2 from rfl, nI_add] <;> exact congrArg nI (by omega))
    refine aldn (n := 695) (j := (44 + 326 * na1)) B hP (show hk 1078 = 8 by decide +kernel) (show hlen 1078 = 695 by decide +kernel) rfl (by omega) (by decide) dX7_mapFor_80 ?_
    have i44 : iR (ρ 1078 (44 + 326 * na1)) (1) (8388607) := g_map (n0 := na1) (j := (44 + 326 * na1)) hI (by omega) f_M_na1_ (by omega)
    obtain ⟨j45, lj45, uj45, ej45⟩ := iR_nat (a := 1) (b := 8388607) i44
    refine lv_topi (fun z46 ez46 => ?_)
    obtain rfl : z46 = nI j45 := ez46.trans ej45
    exact ret_i B hr hlk hP hS dX7_mapFor_81 (⟨rfl, hI, (iR_w (a := 1) (b := 8388607) (nI_iR (j := j45) (a := 1) (b := 8388607) (by omega) (by omega) (by omega)) (by decide) (by decide))⟩)
  have b63_1 : ∀ (ls : Array Slot) (H : Heap) (locs : List Loc) , lv_has ls 4 [(0, .ref (E.2.1 + 1076)), (2, .int (nI (42 + 326 * na1)))] → WP E ρ H → va_S (hA E) s.heap H locs → iR (M na1) (0) (5) → iR (ρ 1078 (45 + 326 * na1)) (0) (8388607) → iR (ρ 1078 7) (0) (1000000) → 0 ≤ na1 → na1 ≤ 1 → W p l e (rmk 3 120) s m ([.ref (E.2.1 + 1076), .int (nI na1)] : List Value).toArray below meth c H locs 0 0 (MQ below (cI E (fun v ρ1 => ρ = ρ1 ∧ RI r Bt M L X ρ1 ∧ iR v (1) (8388607))) ([.ref (E.2.1 + 1076), .int (nI na1)] : List Value).toArray s 0 0 (hA E)) (F0 m 63 ls [.int 1]) := by
    intro ls H locs  hl hP hS f_M_na1_ f_ρ_1078__45___326___na1__ f_ρ_1078_7_ tlna1 tuna1
    refine lv_istore_n (lv' := [(3, .int 1), (0, .ref (E.2.1 + 1076)), (2, .int (nI (42 + 326 * na1)))]) hx hb dX7_mapFor_63 rfl hl (by decide) rfl (fun ls hl => ?_)
    refine lv_aload_n hx hb dX7_mapFor_64 rfl (lv_at hl 1 rfl) ?_
    refine get7 B hP (show hk 1076 = 7 by decide +kernel) 3 (by decide) mw_1030 rfl dX7_mapFor_65 ?_
    refine lv_iload_n hx hb dX7_mapFor_68 rfl (lv_at hl 2 rfl) ?_
    refine lv_iload_n hx hb dX7_mapFor_69 rfl (lv_at hl 0 rfl) ?_
    refine lv_if_eq (tgt := 78) hx hb dX7_mapFor_70 (by decide) (fun c47 => absurd c47 (iR_ne (show iR 1 (1) (1) from ⟨by decide, by decide⟩) (show iR 0 (0) (0) from ⟨by decide, by decide⟩) (by decide))) (fun _ => ?_)
    refine lv_bipush (v := 7) hx hb dX7_mapFor_73 (by decide) ?_
    refine lv_goto (tgt := 79) hx hb dX7_mapFor_75 (by decide) ?_
    refine lv_iadd hx hb dX7_mapFor_79 ?_
    refine lv_topi (fun z48 ez48 => ?_)
    obtain rfl : z48 = (nI (49 + 326 * na1)) := ez48.trans (by rw [show (nI (42 + 326 * na1)) = nI (42 + 326 * na1) from rfl, show 7 = nI 7 from rfl, nI_add] <;> exact congrArg nI (by omega))
    refine aldn (n := 695) (j := (49 + 326 * na1)) B hP (show hk 1078 = 8 by decide +kernel) (show hlen 1078 = 695 by decide +kernel) rfl (by omega) (by decide) dX7_mapFor_80 ?_
    have i49 : iR (ρ 1078 (49 + 326 * na1)) (1) (8388607) := g_mapahead (n0 := na1) (j := (49 + 326 * na1)) hI (by omega) f_M_na1_ (by omega)
    obtain ⟨j50, lj50, uj50, ej50⟩ := iR_nat (a := 1) (b := 8388607) i49
    refine lv_topi (fun z51 ez51 => ?_)
    obtain rfl : z51 = nI j50 := ez51.trans ej50
    exact ret_i B hr hlk hP hS dX7_mapFor_81 (⟨rfl, hI, (iR_w (a := 1) (b := 8388607) (nI_iR (j := j50) (a := 1) (b := 8388607) (by omega) (by omega) (by omega)) (by decide) (by decide))⟩)
  have b62_0 : ∀ (ls : Array Slot) (H : Heap) (locs : List Loc) , lv_has ls 4 [(0, .ref (E.2.1 + 1076)), (2, .int (nI (42 + 326 * na1)))] → WP E ρ H → va_S (hA E) s.heap H locs → iR (M na1) (0) (5) → 0 ≤ na1 → na1 ≤ 1 → W p l e (rmk 3 120) s m ([.ref (E.2.1 + 1076), .int (nI na1)] : List Value).toArray below meth c H locs 0 0 (MQ below (cI E (fun v ρ1 => ρ = ρ1 ∧ RI r Bt M L X ρ1 ∧ iR v (1) (8388607))) ([.ref (E.2.1 + 1076), .int (nI na1)] : List Value).toArray s 0 0 (hA E)) (F0 m 62 ls []) := by
    intro ls H locs  hl hP hS f_M_na1_ tlna1 tuna1
    refine lv_iconst (v := 0) hx hb dX7_mapFor_62 (by decide) ?_
    exact b63_0 ls _ _  (lv_sub hl [0, 1] rfl) hP hS (iR_w f_M_na1_ (by decide) (by decide)) (by omega) (by omega)
  refine lv_iload_n hx hb dX7_mapFor_0 rfl (lv_at hl 1 rfl) ?_
  refine call_i (cS (av := [.int (nI na1)]) (rest := []) B hP hS (d_X7_netAt l E ρ r Bt hBt M L X na1 (by omega) (by omega) hI) lk_RX7_75 rfl rfl hl.1 (Nat.le_of_ble_eq_true rfl) ⟨Nat.le_of_ble_eq_true rfl, Nat.le_of_ble_eq_true rfl⟩ ⟨Nat.le_of_ble_eq_true rfl, Nat.le_of_ble_eq_true rfl⟩ dX7_mapFor_1) hS (fun r52 ρ53 H locs q54 hP hS => ?_)
  obtain ⟨rfl, hI, q54⟩ := q54
  obtain rfl : r52 = nI (42 + 326 * na1) := q54.trans (congrArg nI (by omega))
  refine lv_istore_n (lv' := [(2, .int (nI (42 + 326 * na1))), (0, .ref (E.2.1 + 1076)), (1, .int (nI na1))]) hx hb dX7_mapFor_4 rfl hl (by decide) rfl (fun ls hl => ?_)
  refine lv_aload_n hx hb dX7_mapFor_5 rfl (lv_at hl 1 rfl) ?_
  refine get7 B hP (show hk 1076 = 7 by decide +kernel) 10 (by decide) mw_1037 rfl dX7_mapFor_6 ?_
  refine lv_iload_n hx hb dX7_mapFor_9 rfl (lv_at hl 2 rfl) ?_
  refine aldf (n := 2) (j := na1) (v := (r 1084 na1)) B hP (show hk 1084 = 8 by decide +kernel) (show hlen 1084 = 2 by decide +kernel) rfl (by omega) (by decide) (congrFun (hI.1 1084 (by decide) (by decide)) _) dX7_mapFor_10 ?_
  have i55 : iR (r 1084 na1) (-2) (3) := hc
  refine lv_if_lt (tgt := 62) hx hb dX7_mapFor_11 (by decide) (fun c56 => ?_) (fun c56 => ?_)
  · skip
    have i57 : iR (r 1084 na1) (-2) (-1) := (iR_ltL i55 (show iR 0 (0) (0) from ⟨by decide, by decide⟩) c56 (by decide))
    exact b62_0 ls _ _  (lv_sub hl [1, 0] rfl) hP hS (iR_w hm (by decide) (by decide)) (by omega) (by omega)
  · skip
    have i58 : iR (r 1084 na1) (0) (3) := (iR_geL i55 (show iR 0 (0) (0) from ⟨by decide, by decide⟩) c56 (by decide))
    refine lv_aload_n hx hb dX7_mapFor_14 rfl (lv_at hl 1 rfl) ?_
    refine get7 B hP (show hk 1076 = 7 by decide +kernel) 3 (by decide) mw_1030 rfl dX7_mapFor_15 ?_
    refine lv_iload_n hx hb dX7_mapFor_18 rfl (lv_at hl 2 rfl) ?_
    refine lv_aload_n hx hb dX7_mapFor_19 rfl (lv_at hl 1 rfl) ?_
    refine get7 B hP (show hk 1076 = 7 by decide +kernel) 10 (by decide) mw_1037 rfl dX7_mapFor_20 ?_
    refine lv_iload_n hx hb dX7_mapFor_23 rfl (lv_at hl 2 rfl) ?_
    refine aldf (n := 2) (j := na1) (v := (r 1084 na1)) B hP (show hk 1084 = 8 by decide +kernel) (show hlen 1084 = 2 by decide +kernel) rfl (by omega) (by decide) (congrFun (hI.1 1084 (by decide) (by decide)) _) dX7_mapFor_24 ?_
    obtain ⟨j59, lj59, uj59, ej59⟩ := iR_nat (a := 0) (b := 3) i58
    refine lv_topi (fun z60 ez60 => ?_)
    obtain rfl : z60 = nI j59 := ez60.trans ej59
    refine call_i (cS (av := [.int (nI na1), .int (nI j59)]) (rest := [.ref (E.2.1 + 1078)]) B hP hS (d_X7_linkAt l E ρ r Bt hBt M L X na1 (by omega) (by omega) j59 (by omega) (by omega) hI) lk_RX7_82 rfl rfl hl.1 (Nat.le_of_ble_eq_true rfl) ⟨Nat.le_of_ble_eq_true rfl, Nat.le_of_ble_eq_true rfl⟩ ⟨Nat.le_of_ble_eq_true rfl, Nat.le_of_ble_eq_true rfl⟩ dX7_mapFor_25) hS (fun r61 ρ62 H locs q63 hP hS => ?_)
    obtain ⟨rfl, hI, q63⟩ := q63
    obtain rfl : r61 = nI (104 + 326 * na1 + 66 * j59) := q63.trans (congrArg nI (by omega))
    refine lv_iconst (v := 4) hx hb dX7_mapFor_28 (by decide) ?_
    refine lv_iadd hx hb dX7_mapFor_29 ?_
    refine lv_topi (fun z64 ez64 => ?_)
    obtain rfl : z64 = (nI (108 + 326 * na1 + 66 * j59)) := ez64.trans (by rw [show (nI (104 + 326 * na1 + 66 * j59)) = nI (104 + 326 * na1 + 66 * j59) from rfl, show 4 = nI 4 from rfl, nI_add] <;> exact congrArg nI (by omega))
    refine aldn (n := 695) (j := (108 + 326 * na1 + 66 * j59)) B hP (show hk 1078 = 8 by decide +kernel) (show hlen 1078 = 695 by decide +kernel) rfl (by omega) (by decide) dX7_mapFor_30 ?_
    refine lv_if_ne (tgt := 62) hx hb dX7_mapFor_31 (by decide) (fun c65 => ?_) (fun c65 => ?_)
    · skip
      exact b62_0 ls _ _  (lv_sub hl [1, 0] rfl) hP hS (iR_w hm (by decide) (by decide)) (by omega) (by omega)
    · skip
      have i66 : iR (ρ 1078 (108 + 326 * na1 + 66 * j59)) (0) (0) := (by rw [c65]; exact ⟨by decide, by decide⟩)
      refine lv_aload_n hx hb dX7_mapFor_34 rfl (lv_at hl 1 rfl) ?_
      refine get7 B hP (show hk 1076 = 7 by decide +kernel) 3 (by decide) mw_1030 rfl dX7_mapFor_35 ?_
      refine lv_iload_n hx hb dX7_mapFor_38 rfl (lv_at hl 0 rfl) ?_
      refine lv_iconst (v := 3) hx hb dX7_mapFor_39 (by decide) ?_
      refine lv_iadd hx hb dX7_mapFor_40 ?_
      refine lv_topi (fun z67 ez67 => ?_)
      obtain rfl : z67 = (nI (45 + 326 * na1)) := ez67.trans (by rw [show (nI (42 + 326 * na1)) = nI (42 + 326 * na1) from rfl, show 3 = nI 3 from rfl, nI_add] <;> exact congrArg nI (by omega))
      refine aldn (n := 695) (j := (45 + 326 * na1)) B hP (show hk 1078 = 8 by decide +kernel) (show hlen 1078 = 695 by decide +kernel) rfl (by omega) (by decide) dX7_mapFor_41 ?_
      have i68 : iR (ρ 1078 (45 + 326 * na1)) (0) (8388607) := g_next (n0 := na1) (j := (45 + 326 * na1)) hI (by omega) (by omega)
      obtain ⟨j69, lj69, uj69, ej69⟩ := iR_nat (a := 0) (b := 8388607) i68
      refine lv_topi (fun z70 ez70 => ?_)
      obtain rfl : z70 = nI j69 := ez70.trans ej69
      refine lv_if_ne (tgt := 62) hx hb dX7_mapFor_42 (by decide) (fun c71 => ?_) (fun c71 => ?_)
      · skip
        have n72 := mt (nI_eq (a := j69) (b := 0) (by omega) (by omega)).mpr (show ¬ (nI j69 = nI 0) from c71)
        exact b62_0 ls _ _  (lv_sub hl [1, 0] rfl) hP hS (iR_w hm (by decide) (by decide)) (by omega) (by omega)
      · skip
        have n73 := (nI_eq (a := j69) (b := 0) (by omega) (by omega)).mp (show (nI j69 = nI 0) from c71)
        refine lv_aload_n hx hb dX7_mapFor_45 rfl (lv_at hl 1 rfl) ?_
        refine get7 B hP (show hk 1076 = 7 by decide +kernel) 3 (by decide) mw_1030 rfl dX7_mapFor_46 ?_
        refine lv_bipush (v := 7) hx hb dX7_mapFor_49 (by decide) ?_
        refine aldn (n := 695) (j := 7) B hP (show hk 1078 = 8 by decide +kernel) (show hlen 1078 = 695 by decide +kernel) rfl (by omega) (by decide) dX7_mapFor_51 ?_
        have i74 : iR (ρ 1078 7) (0) (1000000) := (iR_w (g_time hI) (by omega) (by omega))
        obtain ⟨j75, lj75, uj75, ej75⟩ := iR_nat (a := 0) (b := 1000000) i74
        refine lv_topi (fun z76 ez76 => ?_)
        obtain rfl : z76 = nI j75 := ez76.trans ej75
        refine lv_iconst (v := 4) hx hb dX7_mapFor_52 (by decide) ?_
        refine lv_irem hx hb dX7_mapFor_53 (by decide) ?_
        obtain ⟨j77, m78, ej77⟩ := nI_rem (a := j75) (b := 4) (by omega) (by omega) (by omega)
        refine lv_topi (fun z79 ez79 => ?_)
        obtain rfl : z79 = (nI j77) := ez79.trans ej77
        refine lv_iconst (v := 2) hx hb dX7_mapFor_54 (by decide) ?_
        refine lv_icmp_ne (tgt := 62) hx hb dX7_mapFor_55 (by decide) (fun c80 => ?_) (fun c80 => ?_)
        · skip
          have n81 := mt (nI_eq (a := j77) (b := 2) (by omega) (by omega)).mpr (show ¬ (nI j77 = nI 2) from c80)
          exact b62_0 ls _ _  (lv_sub hl [1, 0] rfl) hP hS (iR_w hm (by decide) (by decide)) (by omega) (by omega)
        · skip
          have n82 := (nI_eq (a := j77) (b := 2) (by omega) (by omega)).mp (show (nI j77 = nI 2) from c80)
          refine lv_iconst (v := 1) hx hb dX7_mapFor_58 (by decide) ?_
          refine lv_goto (tgt := 63) hx hb dX7_mapFor_59 (by decide) ?_
          exact b63_1 ls _ _  (lv_sub hl [1, 0] rfl) hP hS (iR_w hm (by decide) (by decide)) (iR_w i68 (by decide) (by decide)) (iR_w i74 (by decide) (by decide)) (by omega) (by omega)

theorem lk_RX7_202 : LkV RX7 202 RX7 yX7_whyNot cX7_whyNot 4 (some .int) 2 := ⟨⟨mw_1301, mw_1303, mw_33, mw_59, mw_1304⟩, by decide +kernel⟩
set_option maxHeartbeats 4000000 in
set_option maxRecDepth 100000 in
theorem d_X7_casts (l : Launch) (E : hE) (ρ r : Nat → Nat → Int32) (Bt : Nat) (hBt : Bt ≤ 1000000) (M : Nat → Int32) (L : Nat → Nat) (X : Nat × Nat → Prop) (na1 : Nat) (lna1 : 0 ≤ na1) (una1 : na1 ≤ 1) (hI : RI r Bt M L X ρ) (hm : iR (M na1) 0 5) (hx20 : X (na1, 20)) (hc : ∀ n, n < 2 → iR (r 1085 n) (-2) 22) : Met l yX7_casts (.code yX7_casts cX7_casts 6 none :: gw_all) (rmk 7 280) (cPre E ρ [.ref (E.2.1 + 1076), .int (nI na1)]) (cV E (fun ρ1 => RI r Bt M L (fun x => X x ∧ x ≠ (na1, 20)) ρ1)) 0 0 (hA E) := by
  refine ent (own := RX7) (by decide) rfl (Nat.le_of_ble_eq_true rfl) ?_
  intro p e s m below meth c ls B hr hlk hl hP hS
  have hx := B.1.1
  have hb := B.1.2.1
  have hown := B.1.2.2.2.1
  have hts := B.1.2.2.2.2
  have hl : lv_has ls 6 [(0, .ref (E.2.1 + 1076)), (1, .int (nI na1))] := hl
  have b272_0 : ∀ (ls : Array Slot) (ρ : Nat → Nat → Int32) (H : Heap) (locs : List Loc) (d272 : Nat) (j272_4 : Nat), lv_has ls 6 [(0, .ref (E.2.1 + 1076)), (2, .int (nI (42 + 326 * na1))), (4, .int (nI j272_4))] → WP E ρ H → va_S (hA E) s.heap H locs → RI r Bt M L (fun x => X x ∧ x ≠ (na1, 20)) ρ → 5 - j272_4 < d272 → 0 ≤ j272_4 → j272_4 ≤ 4 → iR (M na1) (0) (5) → 0 ≤ (L na1) → (L na1) ≤ 4 → 0 ≤ na1 → na1 ≤ 1 → W p l e (rmk 7 280) s m ([.ref (E.2.1 + 1076), .int (nI na1)] : List Value).toArray below meth c H locs 0 0 (MQ below (cV E (fun ρ1 => RI r Bt M L (fun x => X x ∧ x ≠ (na1, 20)) ρ1)) ([.ref (E.2.1 + 1076), .int (nI na1)] : List Value).toArray s 0 0 (hA E)) (F0 m 272 ls []) := by
    intro ls ρ H locs d272
    induction d272 generalizing ls ρ H locs with
    | zero => intro j272_4 hl hP hS hI hd272 lj272_4 uj272_4 f_M_na1_ tl_L_na1_ tu_L_na1_ tlna1 tuna1; exact absurd hd272 (Nat.not_lt_zero _)
    | succ d272 ih272 =>
      intro j272_4 hl hP hS hI hd272 lj272_4 uj272_4 f_M_na1_ tl_L_na1_ tu_L_na1_ tlna1 tuna1
      refine lv_iload hx hb dX7_casts_272 (lv_at hl 2 rfl) ?_
      refine lv_aload_n hx hb dX7_casts_274 rfl (lv_at hl 0 rfl) ?_
      refine get7 B hP (show hk 1076 = 7 by decide +kernel) 3 (by decide) mw_1030 rfl dX7_casts_275 ?_
      refine lv_iload_n hx hb dX7_casts_278 rfl (lv_at hl 1 rfl) ?_
      refine lv_bipush (v := 9) hx hb dX7_casts_279 (by decide) ?_
      refine lv_iadd hx hb dX7_casts_281 ?_
      refine lv_topi (fun z371 ez371 => ?_)
      obtain rfl : z371 = (nI (51 + 326 * na1)) := ez371.trans (by rw [show (nI (42 + 326 * na1)) = nI (42 + 326 * na1) from rfl, show 9 = nI 9 from rfl, nI_add] <;> exact congrArg nI (by omega))
      refine aldn (n := 695) (j := (51 + 326 * na1)) B hP (show hk 1078 = 8 by decide +kernel) (show hlen 1078 = 695 by decide +kernel) rfl (by omega) (by decide) dX7_casts_282 ?_
      have i372 : iR (ρ 1078 (51 + 326 * na1)) (0) (4) := g_ncast (n0 := na1) (j := (51 + 326 * na1)) hI (by omega) (by omega)
      obtain ⟨j373, lj373, uj373, ej373⟩ := iR_nat (a := 0) (b := 4) i372
      refine lv_topi (fun z374 ez374 => ?_)
      obtain rfl : z374 = nI j373 := ez374.trans ej373
      refine lv_icmp_ge (tgt := 318) hx hb dX7_casts_283 (by decide) (fun c375 => ?_) (fun c375 => ?_)
      · skip
        have n376 := mt (nx_lt (a := j272_4) (b := j373) (by omega) (by omega)).mpr (show ¬ (nI j272_4 < nI j373) from (Int32.not_lt.mpr c375))
        refine lv_aload_n hx hb dX7_casts_318 rfl (lv_at hl 0 rfl) ?_
        refine get7 B hP (show hk 1076 = 7 by decide +kernel) 3 (by decide) mw_1030 rfl dX7_casts_319 ?_
        refine lv_iload_n hx hb dX7_casts_322 rfl (lv_at hl 1 rfl) ?_
        refine lv_bipush (v := 15) hx hb dX7_casts_323 (by decide) ?_
        refine lv_iadd hx hb dX7_casts_325 ?_
        refine lv_topi (fun z377 ez377 => ?_)
        obtain rfl : z377 = (nI (57 + 326 * na1)) := ez377.trans (by rw [show (nI (42 + 326 * na1)) = nI (42 + 326 * na1) from rfl, show 15 = nI 15 from rfl, nI_add] <;> exact congrArg nI (by omega))
        refine lv_iconst (v := 0) hx hb dX7_casts_326 (by decide) ?_
        refine astn (n := 695) (j := (57 + 326 * na1)) B hP hS (show hk 1078 = 8 by decide +kernel) (show hlen 1078 = 695 by decide +kernel) rfl (by omega) (by decide) dX7_casts_327 (fun H locs hP hS => ?_)
        obtain ⟨ρ378, e379⟩ : ∃ z, z = up ρ 1078 (57 + 326 * na1) 0 := ⟨_, rfl⟩
        rw [← e379] at hP
        have hI : RI r Bt M L (fun x => X x ∧ x ≠ (na1, 20)) ρ378 := by rw [e379]; exact RI_up hI (ok_net (n0 := na1) (j := (57 + 326 * na1)) 15 (by omega) (by omega) (by omega))
        refine lv_aload_n hx hb dX7_casts_328 rfl (lv_at hl 0 rfl) ?_
        refine get7 B hP (show hk 1076 = 7 by decide +kernel) 3 (by decide) mw_1030 rfl dX7_casts_329 ?_
        refine lv_iload_n hx hb dX7_casts_332 rfl (lv_at hl 1 rfl) ?_
        refine lv_bipush (v := 14) hx hb dX7_casts_333 (by decide) ?_
        refine lv_iadd hx hb dX7_casts_335 ?_
        refine lv_topi (fun z380 ez380 => ?_)
        obtain rfl : z380 = (nI (56 + 326 * na1)) := ez380.trans (by rw [show (nI (42 + 326 * na1)) = nI (42 + 326 * na1) from rfl, show 14 = nI 14 from rfl, nI_add] <;> exact congrArg nI (by omega))
        refine lv_iconst (v := 1) hx hb dX7_casts_336 (by decide) ?_
        refine lv_aload_n hx hb dX7_casts_337 rfl (lv_at hl 0 rfl) ?_
        refine get7 B hP (show hk 1076 = 7 by decide +kernel) 3 (by decide) mw_1030 rfl dX7_casts_338 ?_
        refine lv_iload_n hx hb dX7_casts_341 rfl (lv_at hl 1 rfl) ?_
        refine lv_bipush (v := 14) hx hb dX7_casts_342 (by decide) ?_
        refine lv_iadd hx hb dX7_casts_344 ?_
        refine lv_topi (fun z381 ez381 => ?_)
        obtain rfl : z381 = (nI (56 + 326 * na1)) := ez381.trans (by rw [show (nI (42 + 326 * na1)) = nI (42 + 326 * na1) from rfl, show 14 = nI 14 from rfl, nI_add] <;> exact congrArg nI (by omega))
        refine aldn (n := 695) (j := (56 + 326 * na1)) B hP (show hk 1078 = 8 by decide +kernel) (show hlen 1078 = 695 by decide +kernel) rfl (by omega) (by decide) dX7_casts_345 ?_
        refine lv_isub hx hb dX7_casts_346 ?_
        refine astn (n := 695) (j := (56 + 326 * na1)) B hP hS (show hk 1078 = 8 by decide +kernel) (show hlen 1078 = 695 by decide +kernel) rfl (by omega) (by decide) dX7_casts_347 (fun H locs hP hS => ?_)
        obtain ⟨ρ382, e383⟩ : ∃ z, z = up ρ378 1078 (56 + 326 * na1) (1 - (ρ378 1078 (56 + 326 * na1))) := ⟨_, rfl⟩
        rw [← e383] at hP
        have hI : RI r Bt M L (fun x => X x ∧ x ≠ (na1, 20)) ρ382 := by rw [e383]; exact RI_up hI (ok_net (n0 := na1) (j := (56 + 326 * na1)) 14 (by omega) (by omega) (by omega))
        exact ret_v B hr hlk hP hS dX7_casts_348 (hI)
      · skip
        have n384 := (nx_lt (a := j272_4) (b := j373) (by omega) (by omega)).mp (show (nI j272_4 < nI j373) from (Int32.not_le.mp c375))
        refine lv_aload_n hx hb dX7_casts_286 rfl (lv_at hl 0 rfl) ?_
        refine get7 B hP (show hk 1076 = 7 by decide +kernel) 3 (by decide) mw_1030 rfl dX7_casts_287 ?_
        refine lv_iload_n hx hb dX7_casts_290 rfl (lv_at hl 1 rfl) ?_
        refine lv_bipush (v := 10) hx hb dX7_casts_291 (by decide) ?_
        refine lv_iadd hx hb dX7_casts_293 ?_
        refine lv_topi (fun z385 ez385 => ?_)
        obtain rfl : z385 = (nI (52 + 326 * na1)) := ez385.trans (by rw [show (nI (42 + 326 * na1)) = nI (42 + 326 * na1) from rfl, show 10 = nI 10 from rfl, nI_add] <;> exact congrArg nI (by omega))
        refine lv_iload hx hb dX7_casts_294 (lv_at hl 2 rfl) ?_
        refine lv_iadd hx hb dX7_casts_296 ?_
        refine lv_topi (fun z386 ez386 => ?_)
        obtain rfl : z386 = (nI (52 + 326 * na1 + j272_4)) := ez386.trans (by rw [show (nI (52 + 326 * na1)) = nI (52 + 326 * na1) from rfl, show (nI j272_4) = nI j272_4 from rfl, nI_add] <;> exact congrArg nI (by omega))
        refine lv_aload_n hx hb dX7_casts_297 rfl (lv_at hl 0 rfl) ?_
        refine get7 B hP (show hk 1076 = 7 by decide +kernel) 3 (by decide) mw_1030 rfl dX7_casts_298 ?_
        refine lv_iload_n hx hb dX7_casts_301 rfl (lv_at hl 1 rfl) ?_
        refine lv_bipush (v := 10) hx hb dX7_casts_302 (by decide) ?_
        refine lv_iadd hx hb dX7_casts_304 ?_
        refine lv_topi (fun z387 ez387 => ?_)
        obtain rfl : z387 = (nI (52 + 326 * na1)) := ez387.trans (by rw [show (nI (42 + 326 * na1)) = nI (42 + 326 * na1) from rfl, show 10 = nI 10 from rfl, nI_add] <;> exact congrArg nI (by omega))
        refine lv_iload hx hb dX7_casts_305 (lv_at hl 2 rfl) ?_
        refine lv_iadd hx hb dX7_casts_307 ?_
        refine lv_topi (fun z388 ez388 => ?_)
        obtain rfl : z388 = (nI (52 + 326 * na1 + j272_4)) := ez388.trans (by rw [show (nI (52 + 326 * na1)) = nI (52 + 326 * na1) from rfl, show (nI j272_4) = nI j272_4 from rfl, nI_add] <;> exact congrArg nI (by omega))
        refine lv_iconst (v := 1) hx hb dX7_casts_308 (by decide) ?_
        refine lv_iadd hx hb dX7_casts_309 ?_
        refine lv_topi (fun z389 ez389 => ?_)
        obtain rfl : z389 = (nI (53 + 326 * na1 + j272_4)) := ez389.trans (by rw [show (nI (52 + 326 * na1 + j272_4)) = nI (52 + 326 * na1 + j272_4) from rfl, show 1 = nI 1 from rfl, nI_add] <;> exact congrArg nI (by omega))
        refine aldn (n := 695) (j := (53 + 326 * na1 + j272_4)) B hP (show hk 1078 = 8 by decide +kernel) (show hlen 1078 = 695 by decide +kernel) rfl (by omega) (by decide) dX7_casts_310 ?_
        refine astn (n := 695) (j := (52 + 326 * na1 + j272_4)) B hP hS (show hk 1078 = 8 by decide +kernel) (show hlen 1078 = 695 by decide +kernel) rfl (by omega) (by decide) dX7_casts_311 (fun H locs hP hS => ?_)
        obtain ⟨ρ390, e391⟩ : ∃ z, z = up ρ 1078 (52 + 326 * na1 + j272_4) (ρ 1078 (53 + 326 * na1 + j272_4)) := ⟨_, rfl⟩
        rw [← e391] at hP
        have hI : RI r Bt M L (fun x => X x ∧ x ≠ (na1, 20)) ρ390 := by rw [e391]; exact RI_up hI (ok_net (n0 := na1) (j := (52 + 326 * na1 + j272_4)) (10 + j272_4) (by omega) (by omega) (by omega))
        refine lv_iinc (v := (nI (1 + j272_4))) (lv' := [(4, .int (nI (1 + j272_4))), (0, .ref (E.2.1 + 1076)), (2, .int (nI (42 + 326 * na1)))]) hx hb dX7_casts_312 hl (k := 2) rfl (show nI j272_4 + nI 1 = _ from (nI_add _ _).trans (congrArg nI (by omega))) (by decide) rfl (fun ls hl => ?_)
        refine lv_goto (tgt := 272) hx hb dX7_casts_315 (by decide) ?_
        exact ih272 ls ρ390 _ _ (1 + j272_4) (lv_sub hl [1, 2, 0] rfl) hP hS hI (by omega) (by omega) (by omega) (iR_w f_M_na1_ (by decide) (by decide)) (by omega) (by omega) (by omega) (by omega)
  have b224_0 : ∀ (ls : Array Slot) (ρ : Nat → Nat → Int32) (H : Heap) (locs : List Loc) , lv_has ls 6 [(0, .ref (E.2.1 + 1076)), (2, .int (nI (42 + 326 * na1)))] → WP E ρ H → va_S (hA E) s.heap H locs → RI r Bt M L X ρ → iR (M na1) (0) (5) → 0 ≤ (L na1) → (L na1) ≤ 4 → 0 ≤ na1 → na1 ≤ 1 → W p l e (rmk 7 280) s m ([.ref (E.2.1 + 1076), .int (nI na1)] : List Value).toArray below meth c H locs 0 0 (MQ below (cV E (fun ρ1 => RI r Bt M L (fun x => X x ∧ x ≠ (na1, 20)) ρ1)) ([.ref (E.2.1 + 1076), .int (nI na1)] : List Value).toArray s 0 0 (hA E)) (F0 m 224 ls []) := by
    intro ls ρ H locs  hl hP hS hI f_M_na1_ tl_L_na1_ tu_L_na1_ tlna1 tuna1
    refine lv_aload_n hx hb dX7_casts_224 rfl (lv_at hl 0 rfl) ?_
    refine get7 B hP (show hk 1076 = 7 by decide +kernel) 3 (by decide) mw_1030 rfl dX7_casts_225 ?_
    refine lv_iload_n hx hb dX7_casts_228 rfl (lv_at hl 1 rfl) ?_
    refine lv_bipush (v := 15) hx hb dX7_casts_229 (by decide) ?_
    refine lv_iadd hx hb dX7_casts_231 ?_
    refine lv_topi (fun z392 ez392 => ?_)
    obtain rfl : z392 = (nI (57 + 326 * na1)) := ez392.trans (by rw [show (nI (42 + 326 * na1)) = nI (42 + 326 * na1) from rfl, show 15 = nI 15 from rfl, nI_add] <;> exact congrArg nI (by omega))
    refine lv_dup2_11 hx hb dX7_casts_232 rfl rfl ?_
    refine aldn (n := 695) (j := (57 + 326 * na1)) B hP (show hk 1078 = 8 by decide +kernel) (show hlen 1078 = 695 by decide +kernel) rfl (by omega) (by decide) dX7_casts_233 ?_
    refine lv_iconst (v := 1) hx hb dX7_casts_234 (by decide) ?_
    refine lv_iadd hx hb dX7_casts_235 ?_
    refine astn (n := 695) (j := (57 + 326 * na1)) B hP hS (show hk 1078 = 8 by decide +kernel) (show hlen 1078 = 695 by decide +kernel) rfl (by omega) (by decide) dX7_casts_236 (fun H locs hP hS => ?_)
    obtain ⟨ρ393, e394⟩ : ∃ z, z = up ρ 1078 (57 + 326 * na1) ((ρ 1078 (57 + 326 * na1)) + 1) := ⟨_, rfl⟩
    rw [← e394] at hP
    have hI : RI r Bt M L X ρ393 := by rw [e394]; exact RI_up hI (ok_net (n0 := na1) (j := (57 + 326 * na1)) 15 (by omega) (by omega) (by omega))
    refine lv_aload_n hx hb dX7_casts_237 rfl (lv_at hl 0 rfl) ?_
    refine get7 B hP (show hk 1076 = 7 by decide +kernel) 3 (by decide) mw_1030 rfl dX7_casts_238 ?_
    refine lv_iload_n hx hb dX7_casts_241 rfl (lv_at hl 1 rfl) ?_
    refine lv_bipush (v := 15) hx hb dX7_casts_242 (by decide) ?_
    refine lv_iadd hx hb dX7_casts_244 ?_
    refine lv_topi (fun z395 ez395 => ?_)
    obtain rfl : z395 = (nI (57 + 326 * na1)) := ez395.trans (by rw [show (nI (42 + 326 * na1)) = nI (42 + 326 * na1) from rfl, show 15 = nI 15 from rfl, nI_add] <;> exact congrArg nI (by omega))
    refine aldf (n := 695) (j := (57 + 326 * na1)) (v := ((ρ 1078 (57 + 326 * na1)) + 1)) B hP (show hk 1078 = 8 by decide +kernel) (show hlen 1078 = 695 by decide +kernel) rfl (by omega) (by decide) (by rw [e394]; exact up_get_at) dX7_casts_245 ?_
    refine lv_aload_n hx hb dX7_casts_246 rfl (lv_at hl 0 rfl) ?_
    refine get7 B hP (show hk 1076 = 7 by decide +kernel) 3 (by decide) mw_1030 rfl dX7_casts_247 ?_
    refine lv_bipush (v := 10) hx hb dX7_casts_250 (by decide) ?_
    refine aldn (n := 695) (j := 10) B hP (show hk 1078 = 8 by decide +kernel) (show hlen 1078 = 695 by decide +kernel) rfl (by omega) (by decide) dX7_casts_252 ?_
    refine lv_icmp_lt (tgt := 348) hx hb dX7_casts_253 (by decide) (fun c396 => ?_) (fun c396 => ?_)
    · skip
      exact ret_v B hr hlk hP hS dX7_casts_348 ((RI_m20 hI))
    · skip
      refine lv_aload_n hx hb dX7_casts_256 rfl (lv_at hl 0 rfl) ?_
      refine get7 B hP (show hk 1076 = 7 by decide +kernel) 3 (by decide) mw_1030 rfl dX7_casts_257 ?_
      refine lv_iload_n hx hb dX7_casts_260 rfl (lv_at hl 1 rfl) ?_
      refine lv_bipush (v := 9) hx hb dX7_casts_261 (by decide) ?_
      refine lv_iadd hx hb dX7_casts_263 ?_
      refine lv_topi (fun z397 ez397 => ?_)
      obtain rfl : z397 = (nI (51 + 326 * na1)) := ez397.trans (by rw [show (nI (42 + 326 * na1)) = nI (42 + 326 * na1) from rfl, show 9 = nI 9 from rfl, nI_add] <;> exact congrArg nI (by omega))
      refine lv_dup2_11 hx hb dX7_casts_264 rfl rfl ?_
      refine aldn (n := 695) (j := (51 + 326 * na1)) B hP (show hk 1078 = 8 by decide +kernel) (show hlen 1078 = 695 by decide +kernel) rfl (by omega) (by decide) dX7_casts_265 ?_
      have i398 : iR (ρ393 1078 (51 + 326 * na1)) (1) (4) := g_xcast (n0 := na1) (j := (51 + 326 * na1)) hI (by omega) hx20 (by omega)
      obtain ⟨j399, lj399, uj399, ej399⟩ := iR_nat (a := 1) (b := 4) i398
      refine lv_topi (fun z400 ez400 => ?_)
      obtain rfl : z400 = nI j399 := ez400.trans ej399
      refine lv_iconst (v := 1) hx hb dX7_casts_266 (by decide) ?_
      refine lv_isub hx hb dX7_casts_267 ?_
      obtain ⟨j401, hj401⟩ : ∃ q, j399 = q + 1 := ⟨j399 - 1, by omega⟩
      refine lv_topi (fun z402 ez402 => ?_)
      obtain rfl : z402 = (nI j401) := ez402.trans (nI_subE (a := j399) (b := 1) hj401)
      have hI : RI r Bt M L (fun x => X x ∧ x ≠ (na1, 20)) ρ393 := RI_m20 hI
      refine astn (n := 695) (j := (51 + 326 * na1)) B hP hS (show hk 1078 = 8 by decide +kernel) (show hlen 1078 = 695 by decide +kernel) rfl (by omega) (by decide) dX7_casts_268 (fun H locs hP hS => ?_)
      obtain ⟨ρ403, e404⟩ : ∃ z, z = up ρ393 1078 (51 + 326 * na1) (nI j401) := ⟨_, rfl⟩
      rw [← e404] at hP
      have hI : RI r Bt M L (fun x => X x ∧ x ≠ (na1, 20)) ρ403 := by rw [e404]; exact RI_up hI (ok_ncastX (n0 := na1) (j := (51 + 326 * na1)) (by omega) (fun z => z.2 rfl) (iR_w (a := 0) (b := 3) (nI_iR (j := j401) (a := 0) (b := 3) (by omega) (by omega) (by omega)) (by decide) (by decide)) (by omega))
      refine lv_iconst (v := 0) hx hb dX7_casts_269 (by decide) ?_
      refine lv_istore (lv' := [(4, .int 0), (0, .ref (E.2.1 + 1076)), (2, .int (nI (42 + 326 * na1)))]) hx hb dX7_casts_270 hl (by decide) rfl (fun ls hl => ?_)
      exact b272_0 ls ρ403 _ _ _ 0 (lv_sub hl [1, 2, 0] rfl) hP hS hI (Nat.lt_succ_self _) (by omega) (by omega) (iR_w f_M_na1_ (by decide) (by decide)) (by omega) (by omega) (by omega) (by omega)
  have b62_0 : ∀ (ls : Array Slot) (ρ : Nat → Nat → Int32) (H : Heap) (locs : List Loc) (d62 : Nat) (j62_3 : Nat) (j62_4 : Nat), lv_has ls 6 [(0, .ref (E.2.1 + 1076)), (1, .int (nI na1)), (2, .int (nI (42 + 326 * na1))), (3, .int (nI j62_3)), (4, .int (nI j62_4))] → WP E ρ H → va_S (hA E) s.heap H locs → RI r Bt M L X ρ → 5 - j62_4 < d62 → 0 ≤ j62_3 → j62_3 ≤ 3 → 0 ≤ j62_4 → j62_4 ≤ 4 → iR (M na1) (0) (5) → 0 ≤ na1 → na1 ≤ 1 → W p l e (rmk 7 280) s m ([.ref (E.2.1 + 1076), .int (nI na1)] : List Value).toArray below meth c H locs 0 0 (MQ below (cV E (fun ρ1 => RI r Bt M L (fun x => X x ∧ x ≠ (na1, 20)) ρ1)) ([.ref (E.2.1 + 1076), .int (nI na1)] : List Value).toArray s 0 0 (hA E)) (F0 m 62 ls []) := by
    intro ls ρ H locs d62
    induction d62 generalizing ls ρ H locs with
    | zero => intro j62_3 j62_4 hl hP hS hI hd62 lj62_3 uj62_3 lj62_4 uj62_4 f_M_na1_ tlna1 tuna1; exact absurd hd62 (Nat.not_lt_zero _)
    | succ d62 ih62 =>
      intro j62_3 j62_4 hl hP hS hI hd62 lj62_3 uj62_3 lj62_4 uj62_4 f_M_na1_ tlna1 tuna1
      have b218_0 : ∀ (ls : Array Slot) (ρ : Nat → Nat → Int32) (H : Heap) (locs : List Loc) , lv_has ls 6 [(0, .ref (E.2.1 + 1076)), (1, .int (nI na1)), (2, .int (nI (42 + 326 * na1))), (3, .int (nI j62_3)), (4, .int (nI j62_4))] → WP E ρ H → va_S (hA E) s.heap H locs → RI r Bt M L X ρ → iR (M na1) (0) (5) → 1 ≤ (L na1) → (L na1) ≤ 4 → 0 ≤ j62_3 → j62_3 ≤ 0 → 0 ≤ j62_4 → j62_4 ≤ 3 → 0 ≤ na1 → na1 ≤ 1 → j62_4 + 1 ≤ L na1 → W p l e (rmk 7 280) s m ([.ref (E.2.1 + 1076), .int (nI na1)] : List Value).toArray below meth c H locs 0 0 (MQ below (cV E (fun ρ1 => RI r Bt M L (fun x => X x ∧ x ≠ (na1, 20)) ρ1)) ([.ref (E.2.1 + 1076), .int (nI na1)] : List Value).toArray s 0 0 (hA E)) (F0 m 218 ls []) := by
        intro ls ρ H locs  hl hP hS hI f_M_na1_ tl_L_na1_ tu_L_na1_ tlj62_3 tuj62_3 tlj62_4 tuj62_4 tlna1 tuna1 hr218_0
        refine lv_iinc (v := (nI (1 + j62_4))) (lv' := [(4, .int (nI (1 + j62_4))), (0, .ref (E.2.1 + 1076)), (1, .int (nI na1)), (2, .int (nI (42 + 326 * na1))), (3, .int (nI j62_3))]) hx hb dX7_casts_218 hl (k := 4) rfl (show nI j62_4 + nI 1 = _ from (nI_add _ _).trans (congrArg nI (by omega))) (by decide) rfl (fun ls hl => ?_)
        refine lv_goto (tgt := 62) hx hb dX7_casts_221 (by decide) ?_
        exact ih62 ls ρ _ _ j62_3 (1 + j62_4) (lv_sub hl [1, 2, 3, 4, 0] rfl) hP hS hI (by omega) (by omega) (by omega) (by omega) (by omega) (iR_w f_M_na1_ (by decide) (by decide)) (by omega) (by omega)
      refine lv_iload hx hb dX7_casts_62 (lv_at hl 4 rfl) ?_
      refine lv_aload_n hx hb dX7_casts_64 rfl (lv_at hl 0 rfl) ?_
      refine get7 B hP (show hk 1076 = 7 by decide +kernel) 3 (by decide) mw_1030 rfl dX7_casts_65 ?_
      refine lv_iload_n hx hb dX7_casts_68 rfl (lv_at hl 2 rfl) ?_
      refine lv_bipush (v := 6) hx hb dX7_casts_69 (by decide) ?_
      refine lv_iadd hx hb dX7_casts_71 ?_
      refine lv_topi (fun z405 ez405 => ?_)
      obtain rfl : z405 = (nI (48 + 326 * na1)) := ez405.trans (by rw [show (nI (42 + 326 * na1)) = nI (42 + 326 * na1) from rfl, show 6 = nI 6 from rfl, nI_add] <;> exact congrArg nI (by omega))
      have := RI_Lb (n := na1) hI (by omega)
      refine aldf (n := 695) (j := (48 + 326 * na1)) (v := (nI (L na1))) B hP (show hk 1078 = 8 by decide +kernel) (show hlen 1078 = 695 by decide +kernel) rfl (by omega) (by decide) (g_l (n0 := na1) hI (by omega) (by omega)) dX7_casts_72 ?_
      refine lv_icmp_ge (tgt := 224) hx hb dX7_casts_73 (by decide) (fun c406 => ?_) (fun c406 => ?_)
      · skip
        have n407 := mt (nx_lt (a := j62_4) (b := (L na1)) (by omega) (by omega)).mpr (show ¬ (nI j62_4 < nI (L na1)) from (Int32.not_lt.mpr c406))
        exact b224_0 ls ρ _ _  (lv_sub hl [0, 2] rfl) hP hS hI (iR_w f_M_na1_ (by decide) (by decide)) (by omega) (by omega) (by omega) (by omega)
      · skip
        have n408 := (nx_lt (a := j62_4) (b := (L na1)) (by omega) (by omega)).mp (show (nI j62_4 < nI (L na1)) from (Int32.not_le.mp c406))
        refine lv_iload_n hx hb dX7_casts_76 rfl (lv_at hl 3 rfl) ?_
        refine lv_if_ne (tgt := 224) hx hb dX7_casts_77 (by decide) (fun c409 => ?_) (fun c409 => ?_)
        · skip
          have n410 := mt (nI_eq (a := j62_3) (b := 0) (by omega) (by omega)).mpr (show ¬ (nI j62_3 = nI 0) from c409)
          exact b224_0 ls ρ _ _  (lv_sub hl [0, 2] rfl) hP hS hI (iR_w f_M_na1_ (by decide) (by decide)) (by omega) (by omega) (by omega) (by omega)
        · skip
          have n411 := (nI_eq (a := j62_3) (b := 0) (by omega) (by omega)).mp (show (nI j62_3 = nI 0) from c409)
          refine lv_iload_n hx hb dX7_casts_80 rfl (lv_at hl 1 rfl) ?_
          refine lv_iload hx hb dX7_casts_81 (lv_at hl 4 rfl) ?_
          refine call_i (cS (av := [.int (nI na1), .int (nI j62_4)]) (rest := []) B hP hS (d_X7_linkAt l E ρ r Bt hBt M L X na1 (by omega) (by omega) j62_4 (by omega) (by omega) hI) lk_RX7_82 rfl rfl hl.1 (Nat.le_of_ble_eq_true rfl) ⟨Nat.le_of_ble_eq_true rfl, Nat.le_of_ble_eq_true rfl⟩ ⟨Nat.le_of_ble_eq_true rfl, Nat.le_of_ble_eq_true rfl⟩ dX7_casts_83) hS (fun r412 ρ413 H locs q414 hP hS => ?_)
          obtain ⟨rfl, hI, q414⟩ := q414
          obtain rfl : r412 = nI (104 + 326 * na1 + 66 * j62_4) := q414.trans (congrArg nI (by omega))
          refine lv_istore (lv' := [(5, .int (nI (104 + 326 * na1 + 66 * j62_4))), (0, .ref (E.2.1 + 1076)), (1, .int (nI na1)), (2, .int (nI (42 + 326 * na1))), (3, .int (nI j62_3)), (4, .int (nI j62_4))]) hx hb dX7_casts_86 hl (by decide) rfl (fun ls hl => ?_)
          refine lv_aload_n hx hb dX7_casts_88 rfl (lv_at hl 1 rfl) ?_
          refine lv_iload_n hx hb dX7_casts_89 rfl (lv_at hl 2 rfl) ?_
          refine lv_iload hx hb dX7_casts_90 (lv_at hl 5 rfl) ?_
          refine call_i (cVt (k := 1076) (av := [.int (nI na1), .int (nI j62_4)]) (rest := []) B hP hS (d_X7_isLinkHere l E ρ r Bt hBt M L X na1 (by omega) (by omega) j62_4 (by omega) (by omega) hI) lk_RX7_182 (hrecv (ci := 7) B hP (hk_lt (c := 7) (show hk 1076 = 7 by decide +kernel) (by decide)) (hcc7 _ _ (show hk 1076 = 7 by decide +kernel)) rfl) rfl rfl hl.1 (Nat.le_of_ble_eq_true rfl) ⟨Nat.le_of_ble_eq_true rfl, Nat.le_of_ble_eq_true rfl⟩ ⟨Nat.le_of_ble_eq_true rfl, Nat.le_of_ble_eq_true rfl⟩ dX7_casts_92) hS (fun r415 ρ416 H locs q417 hP hS => ?_)
          obtain ⟨rfl, hI, q417⟩ := q417
          obtain ⟨j418, lj418, uj418, ej418⟩ := iR_nat (a := 0) (b := 1) q417
          refine lv_topi (fun z419 ez419 => ?_)
          obtain rfl : z419 = nI j418 := ez419.trans ej418
          refine lv_if_eq (tgt := 218) hx hb dX7_casts_95 (by decide) (fun c420 => ?_) (fun c420 => ?_)
          · skip
            have n421 := (nI_eq (a := j418) (b := 0) (by omega) (by omega)).mp (show (nI j418 = nI 0) from c420)
            exact b218_0 ls ρ _ _  (lv_sub hl [1, 2, 3, 4, 5] rfl) hP hS hI (iR_w f_M_na1_ (by decide) (by decide)) (by omega) (by omega) (by omega) (by omega) (by omega) (by omega) (by omega) (by omega) (by omega)
          · skip
            have n422 := mt (nI_eq (a := j418) (b := 0) (by omega) (by omega)).mpr (show ¬ (nI j418 = nI 0) from c420)
            refine lv_aload_n hx hb dX7_casts_98 rfl (lv_at hl 1 rfl) ?_
            refine lv_iload_n hx hb dX7_casts_99 rfl (lv_at hl 2 rfl) ?_
            refine lv_aload_n hx hb dX7_casts_100 rfl (lv_at hl 1 rfl) ?_
            refine get7 B hP (show hk 1076 = 7 by decide +kernel) 3 (by decide) mw_1030 rfl dX7_casts_101 ?_
            refine lv_bipush (v := 7) hx hb dX7_casts_104 (by decide) ?_
            refine aldn (n := 695) (j := 7) B hP (show hk 1078 = 8 by decide +kernel) (show hlen 1078 = 695 by decide +kernel) rfl (by omega) (by decide) dX7_casts_106 ?_
            have i423 : iR (ρ 1078 7) (0) (1000000) := (iR_w (g_time hI) (by omega) (by omega))
            obtain ⟨j424, lj424, uj424, ej424⟩ := iR_nat (a := 0) (b := 1000000) i423
            refine lv_topi (fun z425 ez425 => ?_)
            obtain rfl : z425 = nI j424 := ez425.trans ej424
            refine lv_aload_n hx hb dX7_casts_107 rfl (lv_at hl 1 rfl) ?_
            refine get7 B hP (show hk 1076 = 7 by decide +kernel) 3 (by decide) mw_1030 rfl dX7_casts_108 ?_
            refine lv_iload hx hb dX7_casts_111 (lv_at hl 0 rfl) ?_
            refine lv_iconst (v := 1) hx hb dX7_casts_113 (by decide) ?_
            refine lv_iadd hx hb dX7_casts_114 ?_
            refine lv_topi (fun z426 ez426 => ?_)
            obtain rfl : z426 = (nI (105 + 326 * na1 + 66 * j62_4)) := ez426.trans (by rw [show (nI (104 + 326 * na1 + 66 * j62_4)) = nI (104 + 326 * na1 + 66 * j62_4) from rfl, show 1 = nI 1 from rfl, nI_add] <;> exact congrArg nI (by omega))
            refine aldn (n := 695) (j := (105 + 326 * na1 + 66 * j62_4)) B hP (show hk 1078 = 8 by decide +kernel) (show hlen 1078 = 695 by decide +kernel) rfl (by omega) (by decide) dX7_casts_115 ?_
            have i427 : iR (ρ 1078 (105 + 326 * na1 + 66 * j62_4)) (1) (8388607) := g_itsmap (n0 := na1) (l0 := j62_4) (j := (105 + 326 * na1 + 66 * j62_4)) hI (by omega) (by omega) (by omega)
            obtain ⟨j428, lj428, uj428, ej428⟩ := iR_nat (a := 1) (b := 8388607) i427
            refine lv_topi (fun z429 ez429 => ?_)
            obtain rfl : z429 = nI j428 := ez429.trans ej428
            refine call_i (cVt (k := 1076) (av := [.int (nI na1), .int (nI j424), .int (nI j428)]) (rest := []) B hP hS (d_X7_hopOf l E ρ r Bt hBt M L X na1 (by omega) (by omega) (nI j424) j428 (by omega) (by omega) hI) lk_RX7_114 (hrecv (ci := 7) B hP (hk_lt (c := 7) (show hk 1076 = 7 by decide +kernel) (by decide)) (hcc7 _ _ (show hk 1076 = 7 by decide +kernel)) rfl) rfl rfl hl.1 (Nat.le_of_ble_eq_true rfl) ⟨Nat.le_of_ble_eq_true rfl, Nat.le_of_ble_eq_true rfl⟩ ⟨Nat.le_of_ble_eq_true rfl, Nat.le_of_ble_eq_true rfl⟩ dX7_casts_116) hS (fun r430 ρ431 H locs q432 hP hS => ?_)
            obtain ⟨rfl, hI, q432⟩ := q432
            obtain ⟨j433, lj433, uj433, ej433⟩ := iR_nat (a := 0) (b := 22) q432
            refine lv_topi (fun z434 ez434 => ?_)
            obtain rfl : z434 = nI j433 := ez434.trans ej433
            refine lv_aload_n hx hb dX7_casts_119 rfl (lv_at hl 1 rfl) ?_
            refine get7 B hP (show hk 1076 = 7 by decide +kernel) 11 (by decide) mw_1038 rfl dX7_casts_120 ?_
            refine lv_iload_n hx hb dX7_casts_123 rfl (lv_at hl 2 rfl) ?_
            refine aldf (n := 2) (j := na1) (v := (r 1085 na1)) B hP (show hk 1085 = 8 by decide +kernel) (show hlen 1085 = 2 by decide +kernel) rfl (by omega) (by decide) (congrFun (hI.1 1085 (by decide) (by decide)) _) dX7_casts_124 ?_
            have i435 : iR (r 1085 na1) (-2) (22) := hc na1 (by omega)
            refine lv_icmp_ne (tgt := 218) hx hb dX7_casts_125 (by decide) (fun c436 => ?_) (fun c436 => ?_)
            · skip
              exact b218_0 ls ρ _ _  (lv_sub hl [1, 2, 3, 4, 5] rfl) hP hS hI (iR_w f_M_na1_ (by decide) (by decide)) (by omega) (by omega) (by omega) (by omega) (by omega) (by omega) (by omega) (by omega) (by omega)
            · skip
              refine lv_aload_n hx hb dX7_casts_128 rfl (lv_at hl 1 rfl) ?_
              refine get7 B hP (show hk 1076 = 7 by decide +kernel) 3 (by decide) mw_1030 rfl dX7_casts_129 ?_
              refine lv_iload hx hb dX7_casts_132 (lv_at hl 0 rfl) ?_
              refine lv_bipush (v := 45) hx hb dX7_casts_134 (by decide) ?_
              refine lv_iadd hx hb dX7_casts_136 ?_
              refine lv_topi (fun z437 ez437 => ?_)
              obtain rfl : z437 = (nI (149 + 326 * na1 + 66 * j62_4)) := ez437.trans (by rw [show (nI (104 + 326 * na1 + 66 * j62_4)) = nI (104 + 326 * na1 + 66 * j62_4) from rfl, show 45 = nI 45 from rfl, nI_add] <;> exact congrArg nI (by omega))
              refine aldn (n := 695) (j := (149 + 326 * na1 + 66 * j62_4)) B hP (show hk 1078 = 8 by decide +kernel) (show hlen 1078 = 695 by decide +kernel) rfl (by omega) (by decide) dX7_casts_137 ?_
              refine lv_aload_n hx hb dX7_casts_138 rfl (lv_at hl 1 rfl) ?_
              refine get7 B hP (show hk 1076 = 7 by decide +kernel) 3 (by decide) mw_1030 rfl dX7_casts_139 ?_
              refine lv_iload_n hx hb dX7_casts_142 rfl (lv_at hl 3 rfl) ?_
              refine lv_bipush (v := 14) hx hb dX7_casts_143 (by decide) ?_
              refine lv_iadd hx hb dX7_casts_145 ?_
              refine lv_topi (fun z438 ez438 => ?_)
              obtain rfl : z438 = (nI (56 + 326 * na1)) := ez438.trans (by rw [show (nI (42 + 326 * na1)) = nI (42 + 326 * na1) from rfl, show 14 = nI 14 from rfl, nI_add] <;> exact congrArg nI (by omega))
              refine aldn (n := 695) (j := (56 + 326 * na1)) B hP (show hk 1078 = 8 by decide +kernel) (show hlen 1078 = 695 by decide +kernel) rfl (by omega) (by decide) dX7_casts_146 ?_
              refine lv_icmp_eq (tgt := 218) hx hb dX7_casts_147 (by decide) (fun c439 => ?_) (fun c439 => ?_)
              · skip
                exact b218_0 ls ρ _ _  (lv_sub hl [1, 2, 3, 4, 5] rfl) hP hS hI (iR_w f_M_na1_ (by decide) (by decide)) (by omega) (by omega) (by omega) (by omega) (by omega) (by omega) (by omega) (by omega) (by omega)
              · skip
                refine lv_aload_n hx hb dX7_casts_150 rfl (lv_at hl 1 rfl) ?_
                refine get7 B hP (show hk 1076 = 7 by decide +kernel) 3 (by decide) mw_1030 rfl dX7_casts_151 ?_
                refine lv_iload hx hb dX7_casts_154 (lv_at hl 0 rfl) ?_
                refine lv_bipush (v := 45) hx hb dX7_casts_156 (by decide) ?_
                refine lv_iadd hx hb dX7_casts_158 ?_
                refine lv_topi (fun z440 ez440 => ?_)
                obtain rfl : z440 = (nI (149 + 326 * na1 + 66 * j62_4)) := ez440.trans (by rw [show (nI (104 + 326 * na1 + 66 * j62_4)) = nI (104 + 326 * na1 + 66 * j62_4) from rfl, show 45 = nI 45 from rfl, nI_add] <;> exact congrArg nI (by omega))
                refine lv_aload_n hx hb dX7_casts_159 rfl (lv_at hl 1 rfl) ?_
                refine get7 B hP (show hk 1076 = 7 by decide +kernel) 3 (by decide) mw_1030 rfl dX7_casts_160 ?_
                refine lv_iload_n hx hb dX7_casts_163 rfl (lv_at hl 3 rfl) ?_
                refine lv_bipush (v := 14) hx hb dX7_casts_164 (by decide) ?_
                refine lv_iadd hx hb dX7_casts_166 ?_
                refine lv_topi (fun z441 ez441 => ?_)
                obtain rfl : z441 = (nI (56 + 326 * na1)) := ez441.trans (by rw [show (nI (42 + 326 * na1)) = nI (42 + 326 * na1) from rfl, show 14 = nI 14 from rfl, nI_add] <;> exact congrArg nI (by omega))
                refine aldf (n := 695) (j := (56 + 326 * na1)) (v := (ρ 1078 (56 + 326 * na1))) B hP (show hk 1078 = 8 by decide +kernel) (show hlen 1078 = 695 by decide +kernel) rfl (by omega) (by decide) rfl dX7_casts_167 ?_
                refine astn (n := 695) (j := (149 + 326 * na1 + 66 * j62_4)) B hP hS (show hk 1078 = 8 by decide +kernel) (show hlen 1078 = 695 by decide +kernel) rfl (by omega) (by decide) dX7_casts_168 (fun H locs hP hS => ?_)
                obtain ⟨ρ442, e443⟩ : ∃ z, z = up ρ 1078 (149 + 326 * na1 + 66 * j62_4) (ρ 1078 (56 + 326 * na1)) := ⟨_, rfl⟩
                rw [← e443] at hP
                have hI : RI r Bt M L X ρ442 := by rw [e443]; exact RI_up hI (ok_link (n0 := na1) (l0 := j62_4) (j := (149 + 326 * na1 + 66 * j62_4)) 45 (by omega) (by omega) (by omega) (by omega))
                refine lv_aload_n hx hb dX7_casts_169 rfl (lv_at hl 1 rfl) ?_
                refine get7 B hP (show hk 1076 = 7 by decide +kernel) 3 (by decide) mw_1030 rfl dX7_casts_170 ?_
                refine lv_iload hx hb dX7_casts_173 (lv_at hl 0 rfl) ?_
                refine lv_bipush (v := 43) hx hb dX7_casts_175 (by decide) ?_
                refine lv_iadd hx hb dX7_casts_177 ?_
                refine lv_topi (fun z444 ez444 => ?_)
                obtain rfl : z444 = (nI (147 + 326 * na1 + 66 * j62_4)) := ez444.trans (by rw [show (nI (104 + 326 * na1 + 66 * j62_4)) = nI (104 + 326 * na1 + 66 * j62_4) from rfl, show 43 = nI 43 from rfl, nI_add] <;> exact congrArg nI (by omega))
                refine lv_dup2_11 hx hb dX7_casts_178 rfl rfl ?_
                refine aldn (n := 695) (j := (147 + 326 * na1 + 66 * j62_4)) B hP (show hk 1078 = 8 by decide +kernel) (show hlen 1078 = 695 by decide +kernel) rfl (by omega) (by decide) dX7_casts_179 ?_
                refine lv_iconst (v := 1) hx hb dX7_casts_180 (by decide) ?_
                refine lv_iadd hx hb dX7_casts_181 ?_
                refine astn (n := 695) (j := (147 + 326 * na1 + 66 * j62_4)) B hP hS (show hk 1078 = 8 by decide +kernel) (show hlen 1078 = 695 by decide +kernel) rfl (by omega) (by decide) dX7_casts_182 (fun H locs hP hS => ?_)
                obtain ⟨ρ445, e446⟩ : ∃ z, z = up ρ442 1078 (147 + 326 * na1 + 66 * j62_4) ((ρ442 1078 (147 + 326 * na1 + 66 * j62_4)) + 1) := ⟨_, rfl⟩
                rw [← e446] at hP
                have hI : RI r Bt M L X ρ445 := by rw [e446]; exact RI_up hI (ok_link (n0 := na1) (l0 := j62_4) (j := (147 + 326 * na1 + 66 * j62_4)) 43 (by omega) (by omega) (by omega) (by omega))
                refine lv_aload_n hx hb dX7_casts_183 rfl (lv_at hl 1 rfl) ?_
                refine get7 B hP (show hk 1076 = 7 by decide +kernel) 3 (by decide) mw_1030 rfl dX7_casts_184 ?_
                refine lv_iload hx hb dX7_casts_187 (lv_at hl 0 rfl) ?_
                refine lv_bipush (v := 44) hx hb dX7_casts_189 (by decide) ?_
                refine lv_iadd hx hb dX7_casts_191 ?_
                refine lv_topi (fun z447 ez447 => ?_)
                obtain rfl : z447 = (nI (148 + 326 * na1 + 66 * j62_4)) := ez447.trans (by rw [show (nI (104 + 326 * na1 + 66 * j62_4)) = nI (104 + 326 * na1 + 66 * j62_4) from rfl, show 44 = nI 44 from rfl, nI_add] <;> exact congrArg nI (by omega))
                refine lv_bipush (v := 31) hx hb dX7_casts_192 (by decide) ?_
                refine lv_aload_n hx hb dX7_casts_194 rfl (lv_at hl 1 rfl) ?_
                refine get7 B hP (show hk 1076 = 7 by decide +kernel) 3 (by decide) mw_1030 rfl dX7_casts_195 ?_
                refine lv_iload hx hb dX7_casts_198 (lv_at hl 0 rfl) ?_
                refine lv_bipush (v := 44) hx hb dX7_casts_200 (by decide) ?_
                refine lv_iadd hx hb dX7_casts_202 ?_
                refine lv_topi (fun z448 ez448 => ?_)
                obtain rfl : z448 = (nI (148 + 326 * na1 + 66 * j62_4)) := ez448.trans (by rw [show (nI (104 + 326 * na1 + 66 * j62_4)) = nI (104 + 326 * na1 + 66 * j62_4) from rfl, show 44 = nI 44 from rfl, nI_add] <;> exact congrArg nI (by omega))
                refine aldn (n := 695) (j := (148 + 326 * na1 + 66 * j62_4)) B hP (show hk 1078 = 8 by decide +kernel) (show hlen 1078 = 695 by decide +kernel) rfl (by omega) (by decide) dX7_casts_203 ?_
                refine lv_imul hx hb dX7_casts_204 ?_
                refine lv_aload_n hx hb dX7_casts_205 rfl (lv_at hl 1 rfl) ?_
                refine get7 B hP (show hk 1076 = 7 by decide +kernel) 3 (by decide) mw_1030 rfl dX7_casts_206 ?_
                refine lv_iload_n hx hb dX7_casts_209 rfl (lv_at hl 3 rfl) ?_
                refine lv_bipush (v := 10) hx hb dX7_casts_210 (by decide) ?_
                refine lv_iadd hx hb dX7_casts_212 ?_
                refine lv_topi (fun z449 ez449 => ?_)
                obtain rfl : z449 = (nI (52 + 326 * na1)) := ez449.trans (by rw [show (nI (42 + 326 * na1)) = nI (42 + 326 * na1) from rfl, show 10 = nI 10 from rfl, nI_add] <;> exact congrArg nI (by omega))
                refine aldn (n := 695) (j := (52 + 326 * na1)) B hP (show hk 1078 = 8 by decide +kernel) (show hlen 1078 = 695 by decide +kernel) rfl (by omega) (by decide) dX7_casts_213 ?_
                refine lv_iadd hx hb dX7_casts_214 ?_
                refine lv_iconst (v := 1) hx hb dX7_casts_215 (by decide) ?_
                refine lv_iadd hx hb dX7_casts_216 ?_
                refine astn (n := 695) (j := (148 + 326 * na1 + 66 * j62_4)) B hP hS (show hk 1078 = 8 by decide +kernel) (show hlen 1078 = 695 by decide +kernel) rfl (by omega) (by decide) dX7_casts_217 (fun H locs hP hS => ?_)
                obtain ⟨ρ450, e451⟩ : ∃ z, z = up ρ445 1078 (148 + 326 * na1 + 66 * j62_4) (((31 * (ρ445 1078 (148 + 326 * na1 + 66 * j62_4))) + (ρ445 1078 (52 + 326 * na1))) + 1) := ⟨_, rfl⟩
                rw [← e451] at hP
                have hI : RI r Bt M L X ρ450 := by rw [e451]; exact RI_up hI (ok_link (n0 := na1) (l0 := j62_4) (j := (148 + 326 * na1 + 66 * j62_4)) 44 (by omega) (by omega) (by omega) (by omega))
                exact b218_0 ls ρ450 _ _  (lv_sub hl [1, 2, 3, 4, 5] rfl) hP hS hI (iR_w f_M_na1_ (by decide) (by decide)) (by omega) (by omega) (by omega) (by omega) (by omega) (by omega) (by omega) (by omega) (by omega)
  have b57_0 : ∀ (ls : Array Slot) (ρ : Nat → Nat → Int32) (H : Heap) (locs : List Loc) (j57_3 : Nat) (j57_s1 : Nat) (x57_s2 : Int32), lv_has ls 6 [(0, .ref (E.2.1 + 1076)), (1, .int (nI na1)), (2, .int (nI (42 + 326 * na1))), (3, .int (nI j57_3))] → WP E ρ H → va_S (hA E) s.heap H locs → RI r Bt M L X ρ → 0 ≤ j57_3 → j57_3 ≤ 0 → 13 ≤ j57_s1 → j57_s1 ≤ 13 → iR x57_s2 (-2147483648) (2147483647) → iR (M na1) (0) (5) → 0 ≤ na1 → na1 ≤ 1 → W p l e (rmk 7 280) s m ([.ref (E.2.1 + 1076), .int (nI na1)] : List Value).toArray below meth c H locs 0 0 (MQ below (cV E (fun ρ1 => RI r Bt M L (fun x => X x ∧ x ≠ (na1, 20)) ρ1)) ([.ref (E.2.1 + 1076), .int (nI na1)] : List Value).toArray s 0 0 (hA E)) (F0 m 57 ls [.int 0, .int x57_s2, .int (nI j57_s1), .ref (E.2.1 + 1078)]) := by
    intro ls ρ H locs j57_3 j57_s1 x57_s2 hl hP hS hI lj57_3 uj57_3 lj57_s1 uj57_s1 hx57_s2 f_M_na1_ tlna1 tuna1
    refine lv_iadd hx hb dX7_casts_57 ?_
    refine astn (n := 695) (j := j57_s1) B hP hS (show hk 1078 = 8 by decide +kernel) (show hlen 1078 = 695 by decide +kernel) rfl (by omega) (by decide) dX7_casts_58 (fun H locs hP hS => ?_)
    obtain ⟨ρ452, e453⟩ : ∃ z, z = up ρ 1078 j57_s1 (x57_s2 + 0) := ⟨_, rfl⟩
    rw [← e453] at hP
    have hI : RI r Bt M L X ρ452 := by rw [e453]; exact RI_up hI (ok_head (by omega) (by omega) (by omega))
    refine lv_iconst (v := 0) hx hb dX7_casts_59 (by decide) ?_
    refine lv_istore (lv' := [(4, .int 0), (0, .ref (E.2.1 + 1076)), (1, .int (nI na1)), (2, .int (nI (42 + 326 * na1))), (3, .int (nI j57_3))]) hx hb dX7_casts_60 hl (by decide) rfl (fun ls hl => ?_)
    exact b62_0 ls ρ452 _ _ _ j57_3 0 (lv_sub hl [1, 2, 3, 4, 0] rfl) hP hS hI (Nat.lt_succ_self _) (by omega) (by omega) (by omega) (by omega) (iR_w f_M_na1_ (by decide) (by decide)) (by omega) (by omega)
  have b57_1 : ∀ (ls : Array Slot) (ρ : Nat → Nat → Int32) (H : Heap) (locs : List Loc) (j57_3 : Nat) (j57_s1 : Nat) (x57_s2 : Int32), lv_has ls 6 [(0, .ref (E.2.1 + 1076)), (1, .int (nI na1)), (2, .int (nI (42 + 326 * na1))), (3, .int (nI j57_3))] → WP E ρ H → va_S (hA E) s.heap H locs → RI r Bt M L X ρ → 1 ≤ j57_3 → j57_3 ≤ 3 → 13 ≤ j57_s1 → j57_s1 ≤ 15 → iR x57_s2 (-2147483648) (2147483647) → iR (M na1) (0) (5) → 0 ≤ na1 → na1 ≤ 1 → W p l e (rmk 7 280) s m ([.ref (E.2.1 + 1076), .int (nI na1)] : List Value).toArray below meth c H locs 0 0 (MQ below (cV E (fun ρ1 => RI r Bt M L (fun x => X x ∧ x ≠ (na1, 20)) ρ1)) ([.ref (E.2.1 + 1076), .int (nI na1)] : List Value).toArray s 0 0 (hA E)) (F0 m 57 ls [.int 1, .int x57_s2, .int (nI j57_s1), .ref (E.2.1 + 1078)]) := by
    intro ls ρ H locs j57_3 j57_s1 x57_s2 hl hP hS hI lj57_3 uj57_3 lj57_s1 uj57_s1 hx57_s2 f_M_na1_ tlna1 tuna1
    refine lv_iadd hx hb dX7_casts_57 ?_
    refine astn (n := 695) (j := j57_s1) B hP hS (show hk 1078 = 8 by decide +kernel) (show hlen 1078 = 695 by decide +kernel) rfl (by omega) (by decide) dX7_casts_58 (fun H locs hP hS => ?_)
    obtain ⟨ρ454, e455⟩ : ∃ z, z = up ρ 1078 j57_s1 (x57_s2 + 1) := ⟨_, rfl⟩
    rw [← e455] at hP
    have hI : RI r Bt M L X ρ454 := by rw [e455]; exact RI_up hI (ok_head (by omega) (by omega) (by omega))
    refine lv_iconst (v := 0) hx hb dX7_casts_59 (by decide) ?_
    refine lv_istore (lv' := [(4, .int 0), (0, .ref (E.2.1 + 1076)), (1, .int (nI na1)), (2, .int (nI (42 + 326 * na1))), (3, .int (nI j57_3))]) hx hb dX7_casts_60 hl (by decide) rfl (fun ls hl => ?_)
    exact b62_0 ls ρ454 _ _ _ j57_3 0 (lv_sub hl [1, 2, 3, 4, 0] rfl) hP hS hI (Nat.lt_succ_self _) (by omega) (by omega) (by omega) (by omega) (iR_w f_M_na1_ (by decide) (by decide)) (by omega) (by omega)
  have b45_0 : ∀ (ls : Array Slot) (ρ : Nat → Nat → Int32) (H : Heap) (locs : List Loc) (j45_3 : Nat) (j45_s1 : Nat), lv_has ls 6 [(0, .ref (E.2.1 + 1076)), (1, .int (nI na1)), (2, .int (nI (42 + 326 * na1))), (3, .int (nI j45_3))] → WP E ρ H → va_S (hA E) s.heap H locs → RI r Bt M L X ρ → 0 ≤ j45_3 → j45_3 ≤ 0 → 13 ≤ j45_s1 → j45_s1 ≤ 13 → iR (M na1) (0) (5) → 0 ≤ na1 → na1 ≤ 1 → W p l e (rmk 7 280) s m ([.ref (E.2.1 + 1076), .int (nI na1)] : List Value).toArray below meth c H locs 0 0 (MQ below (cV E (fun ρ1 => RI r Bt M L (fun x => X x ∧ x ≠ (na1, 20)) ρ1)) ([.ref (E.2.1 + 1076), .int (nI na1)] : List Value).toArray s 0 0 (hA E)) (F0 m 45 ls [.int 0, .int (nI j45_s1), .ref (E.2.1 + 1078)]) := by
    intro ls ρ H locs j45_3 j45_s1 hl hP hS hI lj45_3 uj45_3 lj45_s1 uj45_s1 f_M_na1_ tlna1 tuna1
    refine lv_isub hx hb dX7_casts_45 ?_
    refine lv_topi (fun z456 ez456 => ?_)
    obtain rfl : z456 = (nI j45_s1) := ez456.trans (nI_subE (a := j45_s1) (b := 0) (q := j45_s1) (by omega))
    refine lv_dup2_11 hx hb dX7_casts_46 rfl rfl ?_
    refine aldn (n := 695) (j := j45_s1) B hP (show hk 1078 = 8 by decide +kernel) (show hlen 1078 = 695 by decide +kernel) rfl (by omega) (by decide) dX7_casts_47 ?_
    refine lv_iload_n hx hb dX7_casts_48 rfl (lv_at hl 3 rfl) ?_
    refine lv_if_ne (tgt := 56) hx hb dX7_casts_49 (by decide) (fun c457 => ?_) (fun c457 => ?_)
    · skip
      have n458 := mt (nI_eq (a := j45_3) (b := 0) (by omega) (by omega)).mpr (show ¬ (nI j45_3 = nI 0) from c457)
      refine lv_iconst (v := 1) hx hb dX7_casts_56 (by decide) ?_
      exact b57_1 ls ρ _ _ j45_3 j45_s1 ((ρ 1078 j45_s1) : Int32) (lv_sub hl [0, 1, 2, 3] rfl) hP hS hI (by omega) (by omega) (by omega) (by omega) (iR_w (iR_any (ρ 1078 j45_s1)) (by decide) (by decide)) (iR_w f_M_na1_ (by decide) (by decide)) (by omega) (by omega)
    · skip
      have n459 := (nI_eq (a := j45_3) (b := 0) (by omega) (by omega)).mp (show (nI j45_3 = nI 0) from c457)
      refine lv_iconst (v := 0) hx hb dX7_casts_52 (by decide) ?_
      refine lv_goto (tgt := 57) hx hb dX7_casts_53 (by decide) ?_
      exact b57_0 ls ρ _ _ j45_3 j45_s1 ((ρ 1078 j45_s1) : Int32) (lv_sub hl [0, 1, 2, 3] rfl) hP hS hI (by omega) (by omega) (by omega) (by omega) (iR_w (iR_any (ρ 1078 j45_s1)) (by decide) (by decide)) (iR_w f_M_na1_ (by decide) (by decide)) (by omega) (by omega)
  have b45_1 : ∀ (ls : Array Slot) (ρ : Nat → Nat → Int32) (H : Heap) (locs : List Loc) (j45_3 : Nat) (j45_s1 : Nat), lv_has ls 6 [(0, .ref (E.2.1 + 1076)), (1, .int (nI na1)), (2, .int (nI (42 + 326 * na1))), (3, .int (nI j45_3))] → WP E ρ H → va_S (hA E) s.heap H locs → RI r Bt M L X ρ → 1 ≤ j45_3 → j45_3 ≤ 3 → 14 ≤ j45_s1 → j45_s1 ≤ 16 → iR (M na1) (0) (5) → 0 ≤ na1 → na1 ≤ 1 → W p l e (rmk 7 280) s m ([.ref (E.2.1 + 1076), .int (nI na1)] : List Value).toArray below meth c H locs 0 0 (MQ below (cV E (fun ρ1 => RI r Bt M L (fun x => X x ∧ x ≠ (na1, 20)) ρ1)) ([.ref (E.2.1 + 1076), .int (nI na1)] : List Value).toArray s 0 0 (hA E)) (F0 m 45 ls [.int 1, .int (nI j45_s1), .ref (E.2.1 + 1078)]) := by
    intro ls ρ H locs j45_3 j45_s1 hl hP hS hI lj45_3 uj45_3 lj45_s1 uj45_s1 f_M_na1_ tlna1 tuna1
    refine lv_isub hx hb dX7_casts_45 ?_
    obtain ⟨j460, hj460⟩ : ∃ q, j45_s1 = q + 1 := ⟨j45_s1 - 1, by omega⟩
    refine lv_topi (fun z461 ez461 => ?_)
    obtain rfl : z461 = (nI j460) := ez461.trans (nI_subE (a := j45_s1) (b := 1) hj460)
    refine lv_dup2_11 hx hb dX7_casts_46 rfl rfl ?_
    refine aldn (n := 695) (j := j460) B hP (show hk 1078 = 8 by decide +kernel) (show hlen 1078 = 695 by decide +kernel) rfl (by omega) (by decide) dX7_casts_47 ?_
    refine lv_iload_n hx hb dX7_casts_48 rfl (lv_at hl 3 rfl) ?_
    refine lv_if_ne (tgt := 56) hx hb dX7_casts_49 (by decide) (fun _ => ?_) (fun c462 => absurd c462 (iR_ne (nI_iR (j := j45_3) (a := 1) (b := 3) (by omega) (by omega) (by omega)) (show iR 0 (0) (0) from ⟨by decide, by decide⟩) (by decide)))
    refine lv_iconst (v := 1) hx hb dX7_casts_56 (by decide) ?_
    exact b57_1 ls ρ _ _ j45_3 j460 ((ρ 1078 j460) : Int32) (lv_sub hl [0, 1, 2, 3] rfl) hP hS hI (by omega) (by omega) (by omega) (by omega) (iR_w (iR_any (ρ 1078 j460)) (by decide) (by decide)) (iR_w f_M_na1_ (by decide) (by decide)) (by omega) (by omega)
  refine lv_iload_n hx hb dX7_casts_0 rfl (lv_at hl 1 rfl) ?_
  refine call_i (cS (av := [.int (nI na1)]) (rest := []) B hP hS (d_X7_netAt l E ρ r Bt hBt M L X na1 (by omega) (by omega) hI) lk_RX7_75 rfl rfl hl.1 (Nat.le_of_ble_eq_true rfl) ⟨Nat.le_of_ble_eq_true rfl, Nat.le_of_ble_eq_true rfl⟩ ⟨Nat.le_of_ble_eq_true rfl, Nat.le_of_ble_eq_true rfl⟩ dX7_casts_1) hS (fun r463 ρ464 H locs q465 hP hS => ?_)
  obtain ⟨rfl, hI, q465⟩ := q465
  obtain rfl : r463 = nI (42 + 326 * na1) := q465.trans (congrArg nI (by omega))
  refine lv_istore_n (lv' := [(2, .int (nI (42 + 326 * na1))), (0, .ref (E.2.1 + 1076)), (1, .int (nI na1))]) hx hb dX7_casts_4 rfl hl (by decide) rfl (fun ls hl => ?_)
  refine lv_aload_n hx hb dX7_casts_5 rfl (lv_at hl 1 rfl) ?_
  refine get7 B hP (show hk 1076 = 7 by decide +kernel) 3 (by decide) mw_1030 rfl dX7_casts_6 ?_
  refine lv_bipush (v := 18) hx hb dX7_casts_9 (by decide) ?_
  refine lv_dup2_11 hx hb dX7_casts_11 rfl rfl ?_
  refine aldn (n := 695) (j := 18) B hP (show hk 1078 = 8 by decide +kernel) (show hlen 1078 = 695 by decide +kernel) rfl (by omega) (by decide) dX7_casts_12 ?_
  refine lv_iconst (v := 1) hx hb dX7_casts_13 (by decide) ?_
  refine lv_iadd hx hb dX7_casts_14 ?_
  refine astn (n := 695) (j := 18) B hP hS (show hk 1078 = 8 by decide +kernel) (show hlen 1078 = 695 by decide +kernel) rfl (by omega) (by decide) dX7_casts_15 (fun H locs hP hS => ?_)
  obtain ⟨ρ466, e467⟩ : ∃ z, z = up ρ 1078 18 ((ρ 1078 18) + 1) := ⟨_, rfl⟩
  rw [← e467] at hP
  have hI : RI r Bt M L X ρ466 := by rw [e467]; exact RI_up hI (ok_head (by omega) (by omega) (by omega))
  refine lv_aload_n hx hb dX7_casts_16 rfl (lv_at hl 1 rfl) ?_
  refine lv_iload_n hx hb dX7_casts_17 rfl (lv_at hl 2 rfl) ?_
  refine lv_aload_n hx hb dX7_casts_18 rfl (lv_at hl 1 rfl) ?_
  refine get7 B hP (show hk 1076 = 7 by decide +kernel) 11 (by decide) mw_1038 rfl dX7_casts_19 ?_
  refine lv_iload_n hx hb dX7_casts_22 rfl (lv_at hl 2 rfl) ?_
  refine aldf (n := 2) (j := na1) (v := (r 1085 na1)) B hP (show hk 1085 = 8 by decide +kernel) (show hlen 1085 = 2 by decide +kernel) rfl (by omega) (by decide) (congrFun (hI.1 1085 (by decide) (by decide)) _) dX7_casts_23 ?_
  have i468 : iR (r 1085 na1) (-2) (22) := hc na1 (by omega)
  refine call_i (cVt (k := 1076) (av := [.int (nI na1), .int (r 1085 na1)]) (rest := []) B hP hS (d_X7_whyNot l E ρ466 r Bt hBt M L X na1 (by omega) (by omega) (r 1085 na1) hI hc) lk_RX7_202 (hrecv (ci := 7) B hP (hk_lt (c := 7) (show hk 1076 = 7 by decide +kernel) (by decide)) (hcc7 _ _ (show hk 1076 = 7 by decide +kernel)) rfl) rfl rfl hl.1 (Nat.le_of_ble_eq_true rfl) ⟨Nat.le_of_ble_eq_true rfl, Nat.le_of_ble_eq_true rfl⟩ ⟨Nat.le_of_ble_eq_true rfl, Nat.le_of_ble_eq_true rfl⟩ dX7_casts_24) hS (fun r469 ρ470 H locs q471 hP hS => ?_)
  obtain ⟨hI, q471⟩ := q471
  obtain ⟨j472, lj472, uj472, ej472⟩ := iR_nat (a := 0) (b := 3) q471
  refine lv_topi (fun z473 ez473 => ?_)
  obtain rfl : z473 = nI j472 := ez473.trans ej472
  refine lv_istore_n (lv' := [(3, .int (nI j472)), (2, .int (nI (42 + 326 * na1))), (0, .ref (E.2.1 + 1076)), (1, .int (nI na1))]) hx hb dX7_casts_27 rfl hl (by decide) rfl (fun ls hl => ?_)
  refine lv_aload_n hx hb dX7_casts_28 rfl (lv_at hl 2 rfl) ?_
  refine get7 B hP (show hk 1076 = 7 by decide +kernel) 3 (by decide) mw_1030 rfl dX7_casts_29 ?_
  refine lv_bipush (v := 13) hx hb dX7_casts_32 (by decide) ?_
  refine lv_iload_n hx hb dX7_casts_34 rfl (lv_at hl 0 rfl) ?_
  refine lv_iadd hx hb dX7_casts_35 ?_
  refine lv_topi (fun z474 ez474 => ?_)
  obtain rfl : z474 = (nI (13 + j472)) := ez474.trans (by rw [show 13 = nI 13 from rfl, show (nI j472) = nI j472 from rfl, nI_add] <;> exact congrArg nI (by omega))
  refine lv_iload_n hx hb dX7_casts_36 rfl (lv_at hl 0 rfl) ?_
  refine lv_if_ne (tgt := 44) hx hb dX7_casts_37 (by decide) (fun c475 => ?_) (fun c475 => ?_)
  · skip
    have n476 := mt (nI_eq (a := j472) (b := 0) (by omega) (by omega)).mpr (show ¬ (nI j472 = nI 0) from c475)
    refine lv_iconst (v := 1) hx hb dX7_casts_44 (by decide) ?_
    exact b45_1 ls ρ470 _ _ j472 (13 + j472) (lv_sub hl [2, 3, 1, 0] rfl) hP hS hI (by omega) (by omega) (by omega) (by omega) (iR_w hm (by decide) (by decide)) (by omega) (by omega)
  · skip
    have n477 := (nI_eq (a := j472) (b := 0) (by omega) (by omega)).mp (show (nI j472 = nI 0) from c475)
    refine lv_iconst (v := 0) hx hb dX7_casts_40 (by decide) ?_
    refine lv_goto (tgt := 45) hx hb dX7_casts_41 (by decide) ?_
    exact b45_0 ls ρ470 _ _ j472 (13 + j472) (lv_sub hl [2, 3, 1, 0] rfl) hP hS hI (by omega) (by omega) (by omega) (by omega) (iR_w hm (by decide) (by decide)) (by omega) (by omega)

theorem lk_RX7_209 : LkV RX7 209 RX7 yX7_hears cX7_hears 6 none 4 := ⟨⟨mw_1316, mw_1318, mw_36, mw_59, mw_1319⟩, by decide +kernel⟩
theorem lk_RX7_212 : LkV RX7 212 RX7 yX7_goes cX7_goes 8 none 3 := ⟨⟨mw_1324, mw_1326, mw_38, mw_59, mw_1327⟩, by decide +kernel⟩
set_option maxHeartbeats 4000000 in
set_option maxRecDepth 100000 in
theorem d_X7_memberHears (l : Launch) (E : hE) (ρ r : Nat → Nat → Int32) (Bt : Nat) (hBt : Bt ≤ 1000000) (M : Nat → Int32) (L : Nat → Nat) (X : Nat × Nat → Prop) (gn : Nat) (ugn : gn ≤ 1) (gl : Nat) (ugl : gl ≤ 3) (hI : RI r Bt M L X ρ) (hm : iR (M gn) 0 5) (hlt : gl + 1 ≤ L gn) (hb7 : iR (r 1087 gn) 0 1) (hb8 : iR (r 1088 gn) 0 1) (hnx : ¬ X (gn, gl)) : Met l yX7_memberHears (.code yX7_memberHears cX7_memberHears 4 none :: gw_all) (rmk 5 200) (cPre E ρ [.ref (E.2.1 + 1076), .int (nI gn), .int (nI (104 + 326 * gn + 66 * gl))]) (cV E (fun ρ1 => RI r Bt M L X ρ1)) 0 0 (hA E) := by
  refine ent (own := RX7) (by decide) rfl (Nat.le_of_ble_eq_true rfl) ?_
  intro p e s m below meth c ls B hr hlk hl hP hS
  have hx := B.1.1
  have hb := B.1.2.1
  have hown := B.1.2.2.2.1
  have hts := B.1.2.2.2.2
  have hl : lv_has ls 4 [(0, .ref (E.2.1 + 1076)), (1, .int (nI gn)), (2, .int (nI (104 + 326 * gn + 66 * gl)))] := hl
  have b137_0 : ∀ (ls : Array Slot) (ρ : Nat → Nat → Int32) (H : Heap) (locs : List Loc) , lv_has ls 4 [(0, .ref (E.2.1 + 1076)), (2, .int (nI (104 + 326 * gn + 66 * gl)))] → WP E ρ H → va_S (hA E) s.heap H locs → RI r Bt M L X ρ → iR (M gn) (0) (5) → 0 ≤ gl → gl ≤ 3 → 0 ≤ gn → gn ≤ 1 → gl + 1 ≤ L gn → W p l e (rmk 5 200) s m ([.ref (E.2.1 + 1076), .int (nI gn), .int (nI (104 + 326 * gn + 66 * gl))] : List Value).toArray below meth c H locs 0 0 (MQ below (cV E (fun ρ1 => RI r Bt M L X ρ1)) ([.ref (E.2.1 + 1076), .int (nI gn), .int (nI (104 + 326 * gn + 66 * gl))] : List Value).toArray s 0 0 (hA E)) (F0 m 137 ls []) := by
    intro ls ρ H locs  hl hP hS hI f_M_gn_ tlgl tugl tlgn tugn hr137_0
    refine lv_aload_n hx hb dX7_memberHears_137 rfl (lv_at hl 0 rfl) ?_
    refine get7 B hP (show hk 1076 = 7 by decide +kernel) 3 (by decide) mw_1030 rfl dX7_memberHears_138 ?_
    refine lv_iload_n hx hb dX7_memberHears_141 rfl (lv_at hl 1 rfl) ?_
    refine lv_bipush (v := 39) hx hb dX7_memberHears_142 (by decide) ?_
    refine lv_iadd hx hb dX7_memberHears_144 ?_
    refine lv_topi (fun z64 ez64 => ?_)
    obtain rfl : z64 = (nI (143 + 326 * gn + 66 * gl)) := ez64.trans (by rw [show (nI (104 + 326 * gn + 66 * gl)) = nI (104 + 326 * gn + 66 * gl) from rfl, show 39 = nI 39 from rfl, nI_add] <;> exact congrArg nI (by omega))
    refine aldn (n := 695) (j := (143 + 326 * gn + 66 * gl)) B hP (show hk 1078 = 8 by decide +kernel) (show hlen 1078 = 695 by decide +kernel) rfl (by omega) (by decide) dX7_memberHears_145 ?_
    refine lv_iconst (v := 1) hx hb dX7_memberHears_146 (by decide) ?_
    refine lv_icmp_ne (tgt := 169) hx hb dX7_memberHears_147 (by decide) (fun c65 => ?_) (fun c65 => ?_)
    · skip
      exact ret_v B hr hlk hP hS dX7_memberHears_169 (hI)
    · skip
      have i66 : iR (ρ 1078 (143 + 326 * gn + 66 * gl)) (1) (1) := (by rw [c65]; exact ⟨by decide, by decide⟩)
      refine lv_aload_n hx hb dX7_memberHears_150 rfl (lv_at hl 0 rfl) ?_
      refine lv_iload_n hx hb dX7_memberHears_151 rfl (lv_at hl 1 rfl) ?_
      refine lv_bipush (v := 14) hx hb dX7_memberHears_152 (by decide) ?_
      refine lv_bipush (v := 25) hx hb dX7_memberHears_154 (by decide) ?_
      refine call_v (cVt (k := 1076) (av := [.int (nI (104 + 326 * gn + 66 * gl)), .int 14, .int 25]) (rest := []) B hP hS (d_X7_goes14 l E ρ r Bt hBt M L (fun x => X x ∨ x = (gn, gl)) gn (by omega) gl (by omega) (RI_pT (by omega) hI) (g_taken (n0 := gn) (l0 := gl) hI (by omega) (by omega) hnx (by rw [show 143 + 326 * gn + 66 * gl = (143 + 326 * gn + 66 * gl) by omega]; exact iR_is i66 rfl) (by omega)) (Or.inr rfl)) lk_RX7_212 (hrecv (ci := 7) B hP (hk_lt (c := 7) (show hk 1076 = 7 by decide +kernel) (by decide)) (hcc7 _ _ (show hk 1076 = 7 by decide +kernel)) rfl) rfl rfl hl.1 (Nat.le_of_ble_eq_true rfl) ⟨Nat.le_of_ble_eq_true rfl, Nat.le_of_ble_eq_true rfl⟩ ⟨Nat.le_of_ble_eq_true rfl, Nat.le_of_ble_eq_true rfl⟩ dX7_memberHears_156) hS (fun ρ68 H locs q69 hP hS => ?_)
      have hI := q69
      refine lv_aload_n hx hb dX7_memberHears_159 rfl (lv_at hl 0 rfl) ?_
      refine get7 B hP (show hk 1076 = 7 by decide +kernel) 3 (by decide) mw_1030 rfl dX7_memberHears_160 ?_
      refine lv_iload_n hx hb dX7_memberHears_163 rfl (lv_at hl 1 rfl) ?_
      refine lv_bipush (v := 39) hx hb dX7_memberHears_164 (by decide) ?_
      refine lv_iadd hx hb dX7_memberHears_166 ?_
      refine lv_topi (fun z70 ez70 => ?_)
      obtain rfl : z70 = (nI (143 + 326 * gn + 66 * gl)) := ez70.trans (by rw [show (nI (104 + 326 * gn + 66 * gl)) = nI (104 + 326 * gn + 66 * gl) from rfl, show 39 = nI 39 from rfl, nI_add] <;> exact congrArg nI (by omega))
      refine lv_iconst (v := 0) hx hb dX7_memberHears_167 (by decide) ?_
      refine astn (n := 695) (j := (143 + 326 * gn + 66 * gl)) B hP hS (show hk 1078 = 8 by decide +kernel) (show hlen 1078 = 695 by decide +kernel) rfl (by omega) (by decide) dX7_memberHears_168 (fun H locs hP hS => ?_)
      obtain ⟨ρ71, e72⟩ : ∃ z, z = up ρ68 1078 (143 + 326 * gn + 66 * gl) 0 := ⟨_, rfl⟩
      rw [← e72] at hP
      have hI : RI r Bt M L (fun x => X x ∨ x = (gn, gl)) ρ71 := by rw [e72]; exact RI_up hI (ok_taken0 (n0 := gn) (l0 := gl) (j := (143 + 326 * gn + 66 * gl)) (by omega) (by omega) (by decide) (by omega))
      exact ret_v B hr hlk hP hS dX7_memberHears_169 ((RI_dT hI (by rw [show 143 + 326 * gn + 66 * gl = (143 + 326 * gn + 66 * gl) by omega, show ρ71 1078 (143 + 326 * gn + 66 * gl) = 0 from (by rw [e72]; exact up_get_at)]; decide)))
  have b94_0 : ∀ (ls : Array Slot) (ρ : Nat → Nat → Int32) (H : Heap) (locs : List Loc) , lv_has ls 4 [(0, .ref (E.2.1 + 1076)), (1, .int (nI gn)), (2, .int (nI (104 + 326 * gn + 66 * gl))), (3, .int (nI (42 + 326 * gn)))] → WP E ρ H → va_S (hA E) s.heap H locs → RI r Bt M L X ρ → iR (M gn) (0) (5) → 0 ≤ gl → gl ≤ 3 → 0 ≤ gn → gn ≤ 1 → gl + 1 ≤ L gn → W p l e (rmk 5 200) s m ([.ref (E.2.1 + 1076), .int (nI gn), .int (nI (104 + 326 * gn + 66 * gl))] : List Value).toArray below meth c H locs 0 0 (MQ below (cV E (fun ρ1 => RI r Bt M L X ρ1)) ([.ref (E.2.1 + 1076), .int (nI gn), .int (nI (104 + 326 * gn + 66 * gl))] : List Value).toArray s 0 0 (hA E)) (F0 m 94 ls []) := by
    intro ls ρ H locs  hl hP hS hI f_M_gn_ tlgl tugl tlgn tugn hr94_0
    refine lv_aload_n hx hb dX7_memberHears_94 rfl (lv_at hl 0 rfl) ?_
    refine get7 B hP (show hk 1076 = 7 by decide +kernel) 14 (by decide) mw_1041 rfl dX7_memberHears_95 ?_
    refine lv_iload_n hx hb dX7_memberHears_98 rfl (lv_at hl 1 rfl) ?_
    refine zldf (n := 2) (j := gn) (v := (r 1088 gn)) B hP (show hk 1088 = 9 by decide +kernel) (show hlen 1088 = 2 by decide +kernel) rfl (by omega) (by decide) (congrFun (hI.1 1088 (by decide) (by decide)) _) dX7_memberHears_99 ?_
    have i73 : iR (r 1088 gn) (0) (1) := hb8
    obtain ⟨j74, lj74, uj74, ej74⟩ := iR_nat (a := 0) (b := 1) i73
    refine lv_topi (fun z75 ez75 => ?_)
    obtain rfl : z75 = nI j74 := ez75.trans ej74
    refine lv_if_eq (tgt := 137) hx hb dX7_memberHears_100 (by decide) (fun c76 => ?_) (fun c76 => ?_)
    · skip
      have n77 := (nI_eq (a := j74) (b := 0) (by omega) (by omega)).mp (show (nI j74 = nI 0) from c76)
      exact b137_0 ls ρ _ _  (lv_sub hl [0, 2] rfl) hP hS hI (iR_w f_M_gn_ (by decide) (by decide)) (by omega) (by omega) (by omega) (by omega) (by omega)
    · skip
      have n78 := mt (nI_eq (a := j74) (b := 0) (by omega) (by omega)).mpr (show ¬ (nI j74 = nI 0) from c76)
      refine lv_aload_n hx hb dX7_memberHears_103 rfl (lv_at hl 0 rfl) ?_
      refine get7 B hP (show hk 1076 = 7 by decide +kernel) 3 (by decide) mw_1030 rfl dX7_memberHears_104 ?_
      refine lv_iload_n hx hb dX7_memberHears_107 rfl (lv_at hl 2 rfl) ?_
      refine lv_iconst (v := 1) hx hb dX7_memberHears_108 (by decide) ?_
      refine lv_iadd hx hb dX7_memberHears_109 ?_
      refine lv_topi (fun z79 ez79 => ?_)
      obtain rfl : z79 = (nI (105 + 326 * gn + 66 * gl)) := ez79.trans (by rw [show (nI (104 + 326 * gn + 66 * gl)) = nI (104 + 326 * gn + 66 * gl) from rfl, show 1 = nI 1 from rfl, nI_add] <;> exact congrArg nI (by omega))
      refine lv_aload_n hx hb dX7_memberHears_110 rfl (lv_at hl 0 rfl) ?_
      refine get7 B hP (show hk 1076 = 7 by decide +kernel) 3 (by decide) mw_1030 rfl dX7_memberHears_111 ?_
      refine lv_iload_n hx hb dX7_memberHears_114 rfl (lv_at hl 3 rfl) ?_
      refine lv_iconst (v := 2) hx hb dX7_memberHears_115 (by decide) ?_
      refine lv_iadd hx hb dX7_memberHears_116 ?_
      refine lv_topi (fun z80 ez80 => ?_)
      obtain rfl : z80 = (nI (44 + 326 * gn)) := ez80.trans (by rw [show (nI (42 + 326 * gn)) = nI (42 + 326 * gn) from rfl, show 2 = nI 2 from rfl, nI_add] <;> exact congrArg nI (by omega))
      refine aldn (n := 695) (j := (44 + 326 * gn)) B hP (show hk 1078 = 8 by decide +kernel) (show hlen 1078 = 695 by decide +kernel) rfl (by omega) (by decide) dX7_memberHears_117 ?_
      have i81 : iR (ρ 1078 (44 + 326 * gn)) (1) (8388607) := g_map (n0 := gn) (j := (44 + 326 * gn)) hI (by omega) f_M_gn_ (by omega)
      obtain ⟨j82, lj82, uj82, ej82⟩ := iR_nat (a := 1) (b := 8388607) i81
      refine lv_topi (fun z83 ez83 => ?_)
      obtain rfl : z83 = nI j82 := ez83.trans ej82
      refine astn (n := 695) (j := (105 + 326 * gn + 66 * gl)) B hP hS (show hk 1078 = 8 by decide +kernel) (show hlen 1078 = 695 by decide +kernel) rfl (by omega) (by decide) dX7_memberHears_118 (fun H locs hP hS => ?_)
      obtain ⟨ρ84, e85⟩ : ∃ z, z = up ρ 1078 (105 + 326 * gn + 66 * gl) (nI j82) := ⟨_, rfl⟩
      rw [← e85] at hP
      have hI : RI r Bt M L X ρ84 := by rw [e85]; exact RI_up hI (ok_itsmap (n0 := gn) (l0 := gl) (j := (105 + 326 * gn + 66 * gl)) (by omega) (by omega) (iR_w (a := 1) (b := 8388607) (nI_iR (j := j82) (a := 1) (b := 8388607) (by omega) (by omega) (by omega)) (by decide) (by decide)) (by omega))
      refine lv_aload_n hx hb dX7_memberHears_119 rfl (lv_at hl 0 rfl) ?_
      refine get7 B hP (show hk 1076 = 7 by decide +kernel) 3 (by decide) mw_1030 rfl dX7_memberHears_120 ?_
      refine lv_iload_n hx hb dX7_memberHears_123 rfl (lv_at hl 2 rfl) ?_
      refine lv_iconst (v := 2) hx hb dX7_memberHears_124 (by decide) ?_
      refine lv_iadd hx hb dX7_memberHears_125 ?_
      refine lv_topi (fun z86 ez86 => ?_)
      obtain rfl : z86 = (nI (106 + 326 * gn + 66 * gl)) := ez86.trans (by rw [show (nI (104 + 326 * gn + 66 * gl)) = nI (104 + 326 * gn + 66 * gl) from rfl, show 2 = nI 2 from rfl, nI_add] <;> exact congrArg nI (by omega))
      refine lv_iconst (v := 0) hx hb dX7_memberHears_126 (by decide) ?_
      refine astn (n := 695) (j := (106 + 326 * gn + 66 * gl)) B hP hS (show hk 1078 = 8 by decide +kernel) (show hlen 1078 = 695 by decide +kernel) rfl (by omega) (by decide) dX7_memberHears_127 (fun H locs hP hS => ?_)
      obtain ⟨ρ87, e88⟩ : ∃ z, z = up ρ84 1078 (106 + 326 * gn + 66 * gl) 0 := ⟨_, rfl⟩
      rw [← e88] at hP
      have hI : RI r Bt M L X ρ87 := by rw [e88]; exact RI_up hI (ok_itsnext (n0 := gn) (l0 := gl) (j := (106 + 326 * gn + 66 * gl)) (by omega) (by omega) (iR_w (a := 0) (b := 0) (show iR 0 (0) (0) from ⟨by decide, by decide⟩) (by decide) (by decide)) (by omega))
      refine lv_aload_n hx hb dX7_memberHears_128 rfl (lv_at hl 0 rfl) ?_
      refine get7 B hP (show hk 1076 = 7 by decide +kernel) 3 (by decide) mw_1030 rfl dX7_memberHears_129 ?_
      refine lv_iload_n hx hb dX7_memberHears_132 rfl (lv_at hl 2 rfl) ?_
      refine lv_iconst (v := 3) hx hb dX7_memberHears_133 (by decide) ?_
      refine lv_iadd hx hb dX7_memberHears_134 ?_
      refine lv_topi (fun z89 ez89 => ?_)
      obtain rfl : z89 = (nI (107 + 326 * gn + 66 * gl)) := ez89.trans (by rw [show (nI (104 + 326 * gn + 66 * gl)) = nI (104 + 326 * gn + 66 * gl) from rfl, show 3 = nI 3 from rfl, nI_add] <;> exact congrArg nI (by omega))
      refine lv_iconst (v := 0) hx hb dX7_memberHears_135 (by decide) ?_
      refine astn (n := 695) (j := (107 + 326 * gn + 66 * gl)) B hP hS (show hk 1078 = 8 by decide +kernel) (show hlen 1078 = 695 by decide +kernel) rfl (by omega) (by decide) dX7_memberHears_136 (fun H locs hP hS => ?_)
      obtain ⟨ρ90, e91⟩ : ∃ z, z = up ρ87 1078 (107 + 326 * gn + 66 * gl) 0 := ⟨_, rfl⟩
      rw [← e91] at hP
      have hI : RI r Bt M L X ρ90 := by rw [e91]; exact RI_up hI (ok_link (n0 := gn) (l0 := gl) (j := (107 + 326 * gn + 66 * gl)) 3 (by omega) (by omega) (by omega) (by omega))
      exact b137_0 ls ρ90 _ _  (lv_sub hl [0, 2] rfl) hP hS hI (iR_w f_M_gn_ (by decide) (by decide)) (by omega) (by omega) (by omega) (by omega) (by omega)
  have b39_0 : ∀ (ls : Array Slot) (ρ : Nat → Nat → Int32) (H : Heap) (locs : List Loc) , lv_has ls 4 [(0, .ref (E.2.1 + 1076)), (1, .int (nI gn)), (2, .int (nI (104 + 326 * gn + 66 * gl))), (3, .int (nI (42 + 326 * gn)))] → WP E ρ H → va_S (hA E) s.heap H locs → RI r Bt M L X ρ → iR (M gn) (0) (5) → 0 ≤ gl → gl ≤ 3 → 0 ≤ gn → gn ≤ 1 → gl + 1 ≤ L gn → W p l e (rmk 5 200) s m ([.ref (E.2.1 + 1076), .int (nI gn), .int (nI (104 + 326 * gn + 66 * gl))] : List Value).toArray below meth c H locs 0 0 (MQ below (cV E (fun ρ1 => RI r Bt M L X ρ1)) ([.ref (E.2.1 + 1076), .int (nI gn), .int (nI (104 + 326 * gn + 66 * gl))] : List Value).toArray s 0 0 (hA E)) (F0 m 39 ls []) := by
    intro ls ρ H locs  hl hP hS hI f_M_gn_ tlgl tugl tlgn tugn hr39_0
    refine lv_aload_n hx hb dX7_memberHears_39 rfl (lv_at hl 0 rfl) ?_
    refine get7 B hP (show hk 1076 = 7 by decide +kernel) 14 (by decide) mw_1041 rfl dX7_memberHears_40 ?_
    refine lv_iload_n hx hb dX7_memberHears_43 rfl (lv_at hl 1 rfl) ?_
    refine zldf (n := 2) (j := gn) (v := (r 1088 gn)) B hP (show hk 1088 = 9 by decide +kernel) (show hlen 1088 = 2 by decide +kernel) rfl (by omega) (by decide) (congrFun (hI.1 1088 (by decide) (by decide)) _) dX7_memberHears_44 ?_
    have i92 : iR (r 1088 gn) (0) (1) := hb8
    obtain ⟨j93, lj93, uj93, ej93⟩ := iR_nat (a := 0) (b := 1) i92
    refine lv_topi (fun z94 ez94 => ?_)
    obtain rfl : z94 = nI j93 := ez94.trans ej93
    refine lv_if_eq (tgt := 94) hx hb dX7_memberHears_45 (by decide) (fun c95 => ?_) (fun c95 => ?_)
    · skip
      have n96 := (nI_eq (a := j93) (b := 0) (by omega) (by omega)).mp (show (nI j93 = nI 0) from c95)
      exact b94_0 ls ρ _ _  (lv_sub hl [0, 1, 2, 3] rfl) hP hS hI (iR_w f_M_gn_ (by decide) (by decide)) (by omega) (by omega) (by omega) (by omega) (by omega)
    · skip
      have n97 := mt (nI_eq (a := j93) (b := 0) (by omega) (by omega)).mpr (show ¬ (nI j93 = nI 0) from c95)
      refine lv_aload_n hx hb dX7_memberHears_48 rfl (lv_at hl 0 rfl) ?_
      refine get7 B hP (show hk 1076 = 7 by decide +kernel) 3 (by decide) mw_1030 rfl dX7_memberHears_49 ?_
      refine lv_iload_n hx hb dX7_memberHears_52 rfl (lv_at hl 3 rfl) ?_
      refine lv_iconst (v := 3) hx hb dX7_memberHears_53 (by decide) ?_
      refine lv_iadd hx hb dX7_memberHears_54 ?_
      refine lv_topi (fun z98 ez98 => ?_)
      obtain rfl : z98 = (nI (45 + 326 * gn)) := ez98.trans (by rw [show (nI (42 + 326 * gn)) = nI (42 + 326 * gn) from rfl, show 3 = nI 3 from rfl, nI_add] <;> exact congrArg nI (by omega))
      refine aldn (n := 695) (j := (45 + 326 * gn)) B hP (show hk 1078 = 8 by decide +kernel) (show hlen 1078 = 695 by decide +kernel) rfl (by omega) (by decide) dX7_memberHears_55 ?_
      have i99 : iR (ρ 1078 (45 + 326 * gn)) (0) (8388607) := g_next (n0 := gn) (j := (45 + 326 * gn)) hI (by omega) (by omega)
      obtain ⟨j100, lj100, uj100, ej100⟩ := iR_nat (a := 0) (b := 8388607) i99
      refine lv_topi (fun z101 ez101 => ?_)
      obtain rfl : z101 = nI j100 := ez101.trans ej100
      refine lv_if_eq (tgt := 94) hx hb dX7_memberHears_56 (by decide) (fun c102 => ?_) (fun c102 => ?_)
      · skip
        have n103 := (nI_eq (a := j100) (b := 0) (by omega) (by omega)).mp (show (nI j100 = nI 0) from c102)
        exact b94_0 ls ρ _ _  (lv_sub hl [0, 1, 2, 3] rfl) hP hS hI (iR_w f_M_gn_ (by decide) (by decide)) (by omega) (by omega) (by omega) (by omega) (by omega)
      · skip
        have n104 := mt (nI_eq (a := j100) (b := 0) (by omega) (by omega)).mpr (show ¬ (nI j100 = nI 0) from c102)
        refine lv_aload_n hx hb dX7_memberHears_59 rfl (lv_at hl 0 rfl) ?_
        refine get7 B hP (show hk 1076 = 7 by decide +kernel) 3 (by decide) mw_1030 rfl dX7_memberHears_60 ?_
        refine lv_iload_n hx hb dX7_memberHears_63 rfl (lv_at hl 2 rfl) ?_
        refine lv_iconst (v := 2) hx hb dX7_memberHears_64 (by decide) ?_
        refine lv_iadd hx hb dX7_memberHears_65 ?_
        refine lv_topi (fun z105 ez105 => ?_)
        obtain rfl : z105 = (nI (106 + 326 * gn + 66 * gl)) := ez105.trans (by rw [show (nI (104 + 326 * gn + 66 * gl)) = nI (104 + 326 * gn + 66 * gl) from rfl, show 2 = nI 2 from rfl, nI_add] <;> exact congrArg nI (by omega))
        refine lv_aload_n hx hb dX7_memberHears_66 rfl (lv_at hl 0 rfl) ?_
        refine get7 B hP (show hk 1076 = 7 by decide +kernel) 3 (by decide) mw_1030 rfl dX7_memberHears_67 ?_
        refine lv_iload_n hx hb dX7_memberHears_70 rfl (lv_at hl 3 rfl) ?_
        refine lv_iconst (v := 3) hx hb dX7_memberHears_71 (by decide) ?_
        refine lv_iadd hx hb dX7_memberHears_72 ?_
        refine lv_topi (fun z106 ez106 => ?_)
        obtain rfl : z106 = (nI (45 + 326 * gn)) := ez106.trans (by rw [show (nI (42 + 326 * gn)) = nI (42 + 326 * gn) from rfl, show 3 = nI 3 from rfl, nI_add] <;> exact congrArg nI (by omega))
        refine aldf (n := 695) (j := (45 + 326 * gn)) (v := (nI j100)) B hP (show hk 1078 = 8 by decide +kernel) (show hlen 1078 = 695 by decide +kernel) rfl (by omega) (by decide) ej100 dX7_memberHears_73 ?_
        refine astn (n := 695) (j := (106 + 326 * gn + 66 * gl)) B hP hS (show hk 1078 = 8 by decide +kernel) (show hlen 1078 = 695 by decide +kernel) rfl (by omega) (by decide) dX7_memberHears_74 (fun H locs hP hS => ?_)
        obtain ⟨ρ107, e108⟩ : ∃ z, z = up ρ 1078 (106 + 326 * gn + 66 * gl) (nI j100) := ⟨_, rfl⟩
        rw [← e108] at hP
        have hI : RI r Bt M L X ρ107 := by rw [e108]; exact RI_up hI (ok_itsnext (n0 := gn) (l0 := gl) (j := (106 + 326 * gn + 66 * gl)) (by omega) (by omega) (iR_w (a := 1) (b := 8388607) (nI_iR (j := j100) (a := 1) (b := 8388607) (by omega) (by omega) (by omega)) (by decide) (by decide)) (by omega))
        refine lv_aload_n hx hb dX7_memberHears_75 rfl (lv_at hl 0 rfl) ?_
        refine get7 B hP (show hk 1076 = 7 by decide +kernel) 3 (by decide) mw_1030 rfl dX7_memberHears_76 ?_
        refine lv_iload_n hx hb dX7_memberHears_79 rfl (lv_at hl 2 rfl) ?_
        refine lv_iconst (v := 3) hx hb dX7_memberHears_80 (by decide) ?_
        refine lv_iadd hx hb dX7_memberHears_81 ?_
        refine lv_topi (fun z109 ez109 => ?_)
        obtain rfl : z109 = (nI (107 + 326 * gn + 66 * gl)) := ez109.trans (by rw [show (nI (104 + 326 * gn + 66 * gl)) = nI (104 + 326 * gn + 66 * gl) from rfl, show 3 = nI 3 from rfl, nI_add] <;> exact congrArg nI (by omega))
        refine lv_aload_n hx hb dX7_memberHears_82 rfl (lv_at hl 0 rfl) ?_
        refine get7 B hP (show hk 1076 = 7 by decide +kernel) 3 (by decide) mw_1030 rfl dX7_memberHears_83 ?_
        refine lv_iload_n hx hb dX7_memberHears_86 rfl (lv_at hl 3 rfl) ?_
        refine lv_iconst (v := 4) hx hb dX7_memberHears_87 (by decide) ?_
        refine lv_iadd hx hb dX7_memberHears_88 ?_
        refine lv_topi (fun z110 ez110 => ?_)
        obtain rfl : z110 = (nI (46 + 326 * gn)) := ez110.trans (by rw [show (nI (42 + 326 * gn)) = nI (42 + 326 * gn) from rfl, show 4 = nI 4 from rfl, nI_add] <;> exact congrArg nI (by omega))
        refine aldn (n := 695) (j := (46 + 326 * gn)) B hP (show hk 1078 = 8 by decide +kernel) (show hlen 1078 = 695 by decide +kernel) rfl (by omega) (by decide) dX7_memberHears_89 ?_
        refine astn (n := 695) (j := (107 + 326 * gn + 66 * gl)) B hP hS (show hk 1078 = 8 by decide +kernel) (show hlen 1078 = 695 by decide +kernel) rfl (by omega) (by decide) dX7_memberHears_90 (fun H locs hP hS => ?_)
        obtain ⟨ρ111, e112⟩ : ∃ z, z = up ρ107 1078 (107 + 326 * gn + 66 * gl) (ρ107 1078 (46 + 326 * gn)) := ⟨_, rfl⟩
        rw [← e112] at hP
        have hI : RI r Bt M L X ρ111 := by rw [e112]; exact RI_up hI (ok_link (n0 := gn) (l0 := gl) (j := (107 + 326 * gn + 66 * gl)) 3 (by omega) (by omega) (by omega) (by omega))
        refine lv_goto (tgt := 137) hx hb dX7_memberHears_91 (by decide) ?_
        exact b137_0 ls ρ111 _ _  (lv_sub hl [0, 2] rfl) hP hS hI (iR_w f_M_gn_ (by decide) (by decide)) (by omega) (by omega) (by omega) (by omega) (by omega)
  refine lv_iload_n hx hb dX7_memberHears_0 rfl (lv_at hl 1 rfl) ?_
  refine call_i (cS (av := [.int (nI gn)]) (rest := []) B hP hS (d_X7_netAt l E ρ r Bt hBt M L X gn (by omega) (by omega) hI) lk_RX7_75 rfl rfl hl.1 (Nat.le_of_ble_eq_true rfl) ⟨Nat.le_of_ble_eq_true rfl, Nat.le_of_ble_eq_true rfl⟩ ⟨Nat.le_of_ble_eq_true rfl, Nat.le_of_ble_eq_true rfl⟩ dX7_memberHears_1) hS (fun r113 ρ114 H locs q115 hP hS => ?_)
  obtain ⟨rfl, hI, q115⟩ := q115
  obtain rfl : r113 = nI (42 + 326 * gn) := q115.trans (congrArg nI (by omega))
  refine lv_istore_n (lv' := [(3, .int (nI (42 + 326 * gn))), (0, .ref (E.2.1 + 1076)), (1, .int (nI gn)), (2, .int (nI (104 + 326 * gn + 66 * gl)))]) hx hb dX7_memberHears_4 rfl hl (by decide) rfl (fun ls hl => ?_)
  refine lv_aload_n hx hb dX7_memberHears_5 rfl (lv_at hl 1 rfl) ?_
  refine get7 B hP (show hk 1076 = 7 by decide +kernel) 13 (by decide) mw_1040 rfl dX7_memberHears_6 ?_
  refine lv_iload_n hx hb dX7_memberHears_9 rfl (lv_at hl 2 rfl) ?_
  refine zldf (n := 2) (j := gn) (v := (r 1087 gn)) B hP (show hk 1087 = 9 by decide +kernel) (show hlen 1087 = 2 by decide +kernel) rfl (by omega) (by decide) (congrFun (hI.1 1087 (by decide) (by decide)) _) dX7_memberHears_10 ?_
  have i116 : iR (r 1087 gn) (0) (1) := hb7
  obtain ⟨j117, lj117, uj117, ej117⟩ := iR_nat (a := 0) (b := 1) i116
  refine lv_topi (fun z118 ez118 => ?_)
  obtain rfl : z118 = nI j117 := ez118.trans ej117
  refine lv_if_eq (tgt := 39) hx hb dX7_memberHears_11 (by decide) (fun c119 => ?_) (fun c119 => ?_)
  · skip
    have n120 := (nI_eq (a := j117) (b := 0) (by omega) (by omega)).mp (show (nI j117 = nI 0) from c119)
    exact b39_0 ls ρ _ _  (lv_sub hl [1, 2, 3, 0] rfl) hP hS hI (iR_w hm (by decide) (by decide)) (by omega) (by omega) (by omega) (by omega) (by omega)
  · skip
    have n121 := mt (nI_eq (a := j117) (b := 0) (by omega) (by omega)).mpr (show ¬ (nI j117 = nI 0) from c119)
    refine lv_aload_n hx hb dX7_memberHears_14 rfl (lv_at hl 1 rfl) ?_
    refine lv_iload_n hx hb dX7_memberHears_15 rfl (lv_at hl 3 rfl) ?_
    refine lv_aload_n hx hb dX7_memberHears_16 rfl (lv_at hl 1 rfl) ?_
    refine get7 B hP (show hk 1076 = 7 by decide +kernel) 3 (by decide) mw_1030 rfl dX7_memberHears_17 ?_
    refine lv_iload_n hx hb dX7_memberHears_20 rfl (lv_at hl 3 rfl) ?_
    refine lv_bipush (v := 6) hx hb dX7_memberHears_21 (by decide) ?_
    refine lv_iadd hx hb dX7_memberHears_23 ?_
    refine lv_topi (fun z122 ez122 => ?_)
    obtain rfl : z122 = (nI (110 + 326 * gn + 66 * gl)) := ez122.trans (by rw [show (nI (104 + 326 * gn + 66 * gl)) = nI (104 + 326 * gn + 66 * gl) from rfl, show 6 = nI 6 from rfl, nI_add] <;> exact congrArg nI (by omega))
    refine aldn (n := 695) (j := (110 + 326 * gn + 66 * gl)) B hP (show hk 1078 = 8 by decide +kernel) (show hlen 1078 = 695 by decide +kernel) rfl (by omega) (by decide) dX7_memberHears_24 ?_
    refine lv_aload_n hx hb dX7_memberHears_25 rfl (lv_at hl 1 rfl) ?_
    refine get7 B hP (show hk 1076 = 7 by decide +kernel) 3 (by decide) mw_1030 rfl dX7_memberHears_26 ?_
    refine lv_iload_n hx hb dX7_memberHears_29 rfl (lv_at hl 3 rfl) ?_
    refine lv_bipush (v := 23) hx hb dX7_memberHears_30 (by decide) ?_
    refine lv_iadd hx hb dX7_memberHears_32 ?_
    refine lv_topi (fun z123 ez123 => ?_)
    obtain rfl : z123 = (nI (127 + 326 * gn + 66 * gl)) := ez123.trans (by rw [show (nI (104 + 326 * gn + 66 * gl)) = nI (104 + 326 * gn + 66 * gl) from rfl, show 23 = nI 23 from rfl, nI_add] <;> exact congrArg nI (by omega))
    refine aldn (n := 695) (j := (127 + 326 * gn + 66 * gl)) B hP (show hk 1078 = 8 by decide +kernel) (show hlen 1078 = 695 by decide +kernel) rfl (by omega) (by decide) dX7_memberHears_33 ?_
    refine lv_bipush (v := 24) hx hb dX7_memberHears_34 (by decide) ?_
    refine call_v (cVt (k := 1076) (av := [.int (nI (104 + 326 * gn + 66 * gl)), .int (ρ 1078 (110 + 326 * gn + 66 * gl)), .int (ρ 1078 (127 + 326 * gn + 66 * gl)), .int 24]) (rest := []) B hP hS (d_X7_hears24 l E ρ r Bt hBt M L X gn (by omega) gl (by omega) (ρ 1078 (110 + 326 * gn + 66 * gl)) (ρ 1078 (127 + 326 * gn + 66 * gl)) hI) lk_RX7_209 (hrecv (ci := 7) B hP (hk_lt (c := 7) (show hk 1076 = 7 by decide +kernel) (by decide)) (hcc7 _ _ (show hk 1076 = 7 by decide +kernel)) rfl) rfl rfl hl.1 (Nat.le_of_ble_eq_true rfl) ⟨Nat.le_of_ble_eq_true rfl, Nat.le_of_ble_eq_true rfl⟩ ⟨Nat.le_of_ble_eq_true rfl, Nat.le_of_ble_eq_true rfl⟩ dX7_memberHears_36) hS (fun ρ125 H locs q126 hP hS => ?_)
    have hI := q126
    exact b39_0 ls ρ125 _ _  (lv_sub hl [1, 2, 3, 0] rfl) hP hS hI (iR_w hm (by decide) (by decide)) (by omega) (by omega) (by omega) (by omega) (by omega)

set_option maxHeartbeats 4000000 in
set_option maxRecDepth 100000 in
theorem d_X7_masterHears (l : Launch) (E : hE) (ρ r : Nat → Nat → Int32) (Bt : Nat) (hBt : Bt ≤ 1000000) (M : Nat → Int32) (L : Nat → Nat) (X : Nat × Nat → Prop) (gn : Nat) (ugn : gn ≤ 1) (gl : Nat) (ugl : gl ≤ 3) (hI : RI r Bt M L X ρ) (hc1 : iR (r 1086 gn) (-2) 22) (hb7 : iR (r 1087 gn) 0 1) (hb8 : iR (r 1088 gn) 0 1) (hd : r 1087 gn = 1 → X (gn, 10 + gl)) : Met l yX7_masterHears (.code yX7_masterHears cX7_masterHears 3 none :: gw_all) (rmk 5 200) (cPre E ρ [.ref (E.2.1 + 1076), .int (nI gn), .int (nI (104 + 326 * gn + 66 * gl))]) (cV E (fun ρ1 => RI r Bt M L (fun x => X x ∧ x ≠ (gn, 10 + gl)) ρ1)) 0 0 (hA E) := by
  refine ent (own := RX7) (by decide) rfl (Nat.le_of_ble_eq_true rfl) ?_
  intro p e s m below meth c ls B hr hlk hl hP hS
  have hx := B.1.1
  have hb := B.1.2.1
  have hown := B.1.2.2.2.1
  have hts := B.1.2.2.2.2
  have hl : lv_has ls 3 [(0, .ref (E.2.1 + 1076)), (1, .int (nI gn)), (2, .int (nI (104 + 326 * gn + 66 * gl)))] := hl
  have b138_0 : ∀ (ls : Array Slot) (ρ : Nat → Nat → Int32) (H : Heap) (locs : List Loc) , lv_has ls 3 [(0, .ref (E.2.1 + 1076)), (1, .int (nI gn)), (2, .int (nI (104 + 326 * gn + 66 * gl)))] → WP E ρ H → va_S (hA E) s.heap H locs → RI r Bt M L (fun x => X x ∧ x ≠ (gn, 10 + gl)) ρ → 0 ≤ gl → gl ≤ 3 → 0 ≤ gn → gn ≤ 1 → W p l e (rmk 5 200) s m ([.ref (E.2.1 + 1076), .int (nI gn), .int (nI (104 + 326 * gn + 66 * gl))] : List Value).toArray below meth c H locs 0 0 (MQ below (cV E (fun ρ1 => RI r Bt M L (fun x => X x ∧ x ≠ (gn, 10 + gl)) ρ1)) ([.ref (E.2.1 + 1076), .int (nI gn), .int (nI (104 + 326 * gn + 66 * gl))] : List Value).toArray s 0 0 (hA E)) (F0 m 138 ls []) := by
    intro ls ρ H locs  hl hP hS hI tlgl tugl tlgn tugn
    refine lv_aload_n hx hb dX7_masterHears_138 rfl (lv_at hl 0 rfl) ?_
    refine get7 B hP (show hk 1076 = 7 by decide +kernel) 3 (by decide) mw_1030 rfl dX7_masterHears_139 ?_
    refine lv_iload_n hx hb dX7_masterHears_142 rfl (lv_at hl 2 rfl) ?_
    refine lv_iconst (v := 4) hx hb dX7_masterHears_143 (by decide) ?_
    refine lv_iadd hx hb dX7_masterHears_144 ?_
    refine lv_topi (fun z62 ez62 => ?_)
    obtain rfl : z62 = (nI (108 + 326 * gn + 66 * gl)) := ez62.trans (by rw [show (nI (104 + 326 * gn + 66 * gl)) = nI (104 + 326 * gn + 66 * gl) from rfl, show 4 = nI 4 from rfl, nI_add] <;> exact congrArg nI (by omega))
    refine lv_aload_n hx hb dX7_masterHears_145 rfl (lv_at hl 0 rfl) ?_
    refine get7 B hP (show hk 1076 = 7 by decide +kernel) 14 (by decide) mw_1041 rfl dX7_masterHears_146 ?_
    refine lv_iload_n hx hb dX7_masterHears_149 rfl (lv_at hl 1 rfl) ?_
    refine zldf (n := 2) (j := gn) (v := (r 1088 gn)) B hP (show hk 1088 = 9 by decide +kernel) (show hlen 1088 = 2 by decide +kernel) rfl (by omega) (by decide) (congrFun (hI.1 1088 (by decide) (by decide)) _) dX7_masterHears_150 ?_
    have i63 : iR (r 1088 gn) (0) (1) := hb8
    obtain ⟨j64, lj64, uj64, ej64⟩ := iR_nat (a := 0) (b := 1) i63
    refine lv_topi (fun z65 ez65 => ?_)
    obtain rfl : z65 = nI j64 := ez65.trans ej64
    refine lv_if_eq (tgt := 158) hx hb dX7_masterHears_151 (by decide) (fun c66 => ?_) (fun c66 => ?_)
    · skip
      have n67 := (nI_eq (a := j64) (b := 0) (by omega) (by omega)).mp (show (nI j64 = nI 0) from c66)
      refine lv_aload_n hx hb dX7_masterHears_158 rfl (lv_at hl 0 rfl) ?_
      refine get7 B hP (show hk 1076 = 7 by decide +kernel) 3 (by decide) mw_1030 rfl dX7_masterHears_159 ?_
      refine lv_iload_n hx hb dX7_masterHears_162 rfl (lv_at hl 2 rfl) ?_
      refine lv_iconst (v := 4) hx hb dX7_masterHears_163 (by decide) ?_
      refine lv_iadd hx hb dX7_masterHears_164 ?_
      refine lv_topi (fun z68 ez68 => ?_)
      obtain rfl : z68 = (nI (108 + 326 * gn + 66 * gl)) := ez68.trans (by rw [show (nI (104 + 326 * gn + 66 * gl)) = nI (104 + 326 * gn + 66 * gl) from rfl, show 4 = nI 4 from rfl, nI_add] <;> exact congrArg nI (by omega))
      refine aldn (n := 695) (j := (108 + 326 * gn + 66 * gl)) B hP (show hk 1078 = 8 by decide +kernel) (show hlen 1078 = 695 by decide +kernel) rfl (by omega) (by decide) dX7_masterHears_165 ?_
      refine astn (n := 695) (j := (108 + 326 * gn + 66 * gl)) B hP hS (show hk 1078 = 8 by decide +kernel) (show hlen 1078 = 695 by decide +kernel) rfl (by omega) (by decide) dX7_masterHears_166 (fun H locs hP hS => ?_)
      obtain ⟨ρ69, e70⟩ : ∃ z, z = up ρ 1078 (108 + 326 * gn + 66 * gl) (ρ 1078 (108 + 326 * gn + 66 * gl)) := ⟨_, rfl⟩
      rw [← e70] at hP
      have hI : RI r Bt M L (fun x => X x ∧ x ≠ (gn, 10 + gl)) ρ69 := by rw [e70]; exact RI_up hI (ok_link (n0 := gn) (l0 := gl) (j := (108 + 326 * gn + 66 * gl)) 4 (by omega) (by omega) (by omega) (by omega))
      exact ret_v B hr hlk hP hS dX7_masterHears_167 (hI)
    · skip
      have n71 := mt (nI_eq (a := j64) (b := 0) (by omega) (by omega)).mpr (show ¬ (nI j64 = nI 0) from c66)
      refine lv_iconst (v := 1) hx hb dX7_masterHears_154 (by decide) ?_
      refine lv_goto (tgt := 166) hx hb dX7_masterHears_155 (by decide) ?_
      refine astn (n := 695) (j := (108 + 326 * gn + 66 * gl)) B hP hS (show hk 1078 = 8 by decide +kernel) (show hlen 1078 = 695 by decide +kernel) rfl (by omega) (by decide) dX7_masterHears_166 (fun H locs hP hS => ?_)
      obtain ⟨ρ72, e73⟩ : ∃ z, z = up ρ 1078 (108 + 326 * gn + 66 * gl) 1 := ⟨_, rfl⟩
      rw [← e73] at hP
      have hI : RI r Bt M L (fun x => X x ∧ x ≠ (gn, 10 + gl)) ρ72 := by rw [e73]; exact RI_up hI (ok_link (n0 := gn) (l0 := gl) (j := (108 + 326 * gn + 66 * gl)) 4 (by omega) (by omega) (by omega) (by omega))
      exact ret_v B hr hlk hP hS dX7_masterHears_167 (hI)
  have b103_0 : ∀ (ls : Array Slot) (ρ : Nat → Nat → Int32) (H : Heap) (locs : List Loc) , lv_has ls 3 [(0, .ref (E.2.1 + 1076)), (1, .int (nI gn)), (2, .int (nI (104 + 326 * gn + 66 * gl)))] → WP E ρ H → va_S (hA E) s.heap H locs → RI r Bt M L (fun x => X x ∧ x ≠ (gn, 10 + gl)) ρ → 0 ≤ gl → gl ≤ 3 → 0 ≤ gn → gn ≤ 1 → W p l e (rmk 5 200) s m ([.ref (E.2.1 + 1076), .int (nI gn), .int (nI (104 + 326 * gn + 66 * gl))] : List Value).toArray below meth c H locs 0 0 (MQ below (cV E (fun ρ1 => RI r Bt M L (fun x => X x ∧ x ≠ (gn, 10 + gl)) ρ1)) ([.ref (E.2.1 + 1076), .int (nI gn), .int (nI (104 + 326 * gn + 66 * gl))] : List Value).toArray s 0 0 (hA E)) (F0 m 103 ls []) := by
    intro ls ρ H locs  hl hP hS hI tlgl tugl tlgn tugn
    refine lv_aload_n hx hb dX7_masterHears_103 rfl (lv_at hl 0 rfl) ?_
    refine get7 B hP (show hk 1076 = 7 by decide +kernel) 3 (by decide) mw_1030 rfl dX7_masterHears_104 ?_
    refine lv_iload_n hx hb dX7_masterHears_107 rfl (lv_at hl 2 rfl) ?_
    refine lv_bipush (v := 36) hx hb dX7_masterHears_108 (by decide) ?_
    refine lv_iadd hx hb dX7_masterHears_110 ?_
    refine lv_topi (fun z74 ez74 => ?_)
    obtain rfl : z74 = (nI (140 + 326 * gn + 66 * gl)) := ez74.trans (by rw [show (nI (104 + 326 * gn + 66 * gl)) = nI (104 + 326 * gn + 66 * gl) from rfl, show 36 = nI 36 from rfl, nI_add] <;> exact congrArg nI (by omega))
    refine aldn (n := 695) (j := (140 + 326 * gn + 66 * gl)) B hP (show hk 1078 = 8 by decide +kernel) (show hlen 1078 = 695 by decide +kernel) rfl (by omega) (by decide) dX7_masterHears_111 ?_
    refine lv_if_le (tgt := 138) hx hb dX7_masterHears_112 (by decide) (fun c75 => ?_) (fun c75 => ?_)
    · skip
      have i76 : iR (ρ 1078 (140 + 326 * gn + 66 * gl)) (-2147483648) (0) := (iR_geR (show iR 0 (0) (0) from ⟨by decide, by decide⟩) (iR_any (ρ 1078 (140 + 326 * gn + 66 * gl))) (Int32.not_lt.mpr c75) (by decide))
      exact b138_0 ls ρ _ _  (lv_sub hl [0, 1, 2] rfl) hP hS hI (by omega) (by omega) (by omega) (by omega)
    · skip
      have i77 : iR (ρ 1078 (140 + 326 * gn + 66 * gl)) (1) (2147483647) := (iR_ltR (show iR 0 (0) (0) from ⟨by decide, by decide⟩) (iR_any (ρ 1078 (140 + 326 * gn + 66 * gl))) (Int32.not_le.mp c75) (by decide))
      refine lv_aload_n hx hb dX7_masterHears_115 rfl (lv_at hl 0 rfl) ?_
      refine get7 B hP (show hk 1076 = 7 by decide +kernel) 3 (by decide) mw_1030 rfl dX7_masterHears_116 ?_
      refine lv_iload_n hx hb dX7_masterHears_119 rfl (lv_at hl 2 rfl) ?_
      refine lv_bipush (v := 36) hx hb dX7_masterHears_120 (by decide) ?_
      refine lv_iadd hx hb dX7_masterHears_122 ?_
      refine lv_topi (fun z78 ez78 => ?_)
      obtain rfl : z78 = (nI (140 + 326 * gn + 66 * gl)) := ez78.trans (by rw [show (nI (104 + 326 * gn + 66 * gl)) = nI (104 + 326 * gn + 66 * gl) from rfl, show 36 = nI 36 from rfl, nI_add] <;> exact congrArg nI (by omega))
      refine lv_iconst (v := 0) hx hb dX7_masterHears_123 (by decide) ?_
      refine astn (n := 695) (j := (140 + 326 * gn + 66 * gl)) B hP hS (show hk 1078 = 8 by decide +kernel) (show hlen 1078 = 695 by decide +kernel) rfl (by omega) (by decide) dX7_masterHears_124 (fun H locs hP hS => ?_)
      obtain ⟨ρ79, e80⟩ : ∃ z, z = up ρ 1078 (140 + 326 * gn + 66 * gl) 0 := ⟨_, rfl⟩
      rw [← e80] at hP
      have hI : RI r Bt M L (fun x => X x ∧ x ≠ (gn, 10 + gl)) ρ79 := by rw [e80]; exact RI_up hI (ok_link (n0 := gn) (l0 := gl) (j := (140 + 326 * gn + 66 * gl)) 36 (by omega) (by omega) (by omega) (by omega))
      refine lv_aload_n hx hb dX7_masterHears_125 rfl (lv_at hl 0 rfl) ?_
      refine get7 B hP (show hk 1076 = 7 by decide +kernel) 3 (by decide) mw_1030 rfl dX7_masterHears_126 ?_
      refine lv_iload_n hx hb dX7_masterHears_129 rfl (lv_at hl 2 rfl) ?_
      refine lv_bipush (v := 34) hx hb dX7_masterHears_130 (by decide) ?_
      refine lv_iadd hx hb dX7_masterHears_132 ?_
      refine lv_topi (fun z81 ez81 => ?_)
      obtain rfl : z81 = (nI (138 + 326 * gn + 66 * gl)) := ez81.trans (by rw [show (nI (104 + 326 * gn + 66 * gl)) = nI (104 + 326 * gn + 66 * gl) from rfl, show 34 = nI 34 from rfl, nI_add] <;> exact congrArg nI (by omega))
      refine lv_dup2_11 hx hb dX7_masterHears_133 rfl rfl ?_
      refine aldn (n := 695) (j := (138 + 326 * gn + 66 * gl)) B hP (show hk 1078 = 8 by decide +kernel) (show hlen 1078 = 695 by decide +kernel) rfl (by omega) (by decide) dX7_masterHears_134 ?_
      refine lv_iconst (v := 1) hx hb dX7_masterHears_135 (by decide) ?_
      refine lv_iadd hx hb dX7_masterHears_136 ?_
      refine astn (n := 695) (j := (138 + 326 * gn + 66 * gl)) B hP hS (show hk 1078 = 8 by decide +kernel) (show hlen 1078 = 695 by decide +kernel) rfl (by omega) (by decide) dX7_masterHears_137 (fun H locs hP hS => ?_)
      obtain ⟨ρ82, e83⟩ : ∃ z, z = up ρ79 1078 (138 + 326 * gn + 66 * gl) ((ρ79 1078 (138 + 326 * gn + 66 * gl)) + 1) := ⟨_, rfl⟩
      rw [← e83] at hP
      have hI : RI r Bt M L (fun x => X x ∧ x ≠ (gn, 10 + gl)) ρ82 := by rw [e83]; exact RI_up hI (ok_link (n0 := gn) (l0 := gl) (j := (138 + 326 * gn + 66 * gl)) 34 (by omega) (by omega) (by omega) (by omega))
      exact b138_0 ls ρ82 _ _  (lv_sub hl [0, 1, 2] rfl) hP hS hI (by omega) (by omega) (by omega) (by omega)
  have b56_0 : ∀ (ls : Array Slot) (ρ : Nat → Nat → Int32) (H : Heap) (locs : List Loc) , lv_has ls 3 [(0, .ref (E.2.1 + 1076)), (1, .int (nI gn)), (2, .int (nI (104 + 326 * gn + 66 * gl)))] → WP E ρ H → va_S (hA E) s.heap H locs → RI r Bt M L (fun x => X x ∧ x ≠ (gn, 10 + gl)) ρ → 0 ≤ gl → gl ≤ 3 → 0 ≤ gn → gn ≤ 1 → W p l e (rmk 5 200) s m ([.ref (E.2.1 + 1076), .int (nI gn), .int (nI (104 + 326 * gn + 66 * gl))] : List Value).toArray below meth c H locs 0 0 (MQ below (cV E (fun ρ1 => RI r Bt M L (fun x => X x ∧ x ≠ (gn, 10 + gl)) ρ1)) ([.ref (E.2.1 + 1076), .int (nI gn), .int (nI (104 + 326 * gn + 66 * gl))] : List Value).toArray s 0 0 (hA E)) (F0 m 56 ls []) := by
    intro ls ρ H locs  hl hP hS hI tlgl tugl tlgn tugn
    refine lv_aload_n hx hb dX7_masterHears_56 rfl (lv_at hl 0 rfl) ?_
    refine get7 B hP (show hk 1076 = 7 by decide +kernel) 3 (by decide) mw_1030 rfl dX7_masterHears_57 ?_
    refine lv_iload_n hx hb dX7_masterHears_60 rfl (lv_at hl 2 rfl) ?_
    refine lv_bipush (v := 14) hx hb dX7_masterHears_61 (by decide) ?_
    refine lv_iadd hx hb dX7_masterHears_63 ?_
    refine lv_topi (fun z84 ez84 => ?_)
    obtain rfl : z84 = (nI (118 + 326 * gn + 66 * gl)) := ez84.trans (by rw [show (nI (104 + 326 * gn + 66 * gl)) = nI (104 + 326 * gn + 66 * gl) from rfl, show 14 = nI 14 from rfl, nI_add] <;> exact congrArg nI (by omega))
    refine aldn (n := 695) (j := (118 + 326 * gn + 66 * gl)) B hP (show hk 1078 = 8 by decide +kernel) (show hlen 1078 = 695 by decide +kernel) rfl (by omega) (by decide) dX7_masterHears_64 ?_
    have i85 : iR (ρ 1078 (118 + 326 * gn + 66 * gl)) (0) (8) := g_nup (n0 := gn) (l0 := gl) (j := (118 + 326 * gn + 66 * gl)) hI (by omega) (by omega) (by omega)
    obtain ⟨j86, lj86, uj86, ej86⟩ := iR_nat (a := 0) (b := 8) i85
    refine lv_topi (fun z87 ez87 => ?_)
    obtain rfl : z87 = nI j86 := ez87.trans ej86
    refine lv_if_le (tgt := 103) hx hb dX7_masterHears_65 (by decide) (fun c88 => ?_) (fun c88 => ?_)
    · skip
      have n89 := mt (nx_lt (a := 0) (b := j86) (by omega) (by omega)).mpr (show ¬ (nI 0 < nI j86) from (Int32.not_lt.mpr c88))
      exact b103_0 ls ρ _ _  (lv_sub hl [0, 1, 2] rfl) hP hS hI (by omega) (by omega) (by omega) (by omega)
    · skip
      have n90 := (nx_lt (a := 0) (b := j86) (by omega) (by omega)).mp (show (nI 0 < nI j86) from (Int32.not_le.mp c88))
      refine lv_aload_n hx hb dX7_masterHears_68 rfl (lv_at hl 0 rfl) ?_
      refine lv_iload_n hx hb dX7_masterHears_69 rfl (lv_at hl 2 rfl) ?_
      refine lv_aload_n hx hb dX7_masterHears_70 rfl (lv_at hl 0 rfl) ?_
      refine get7 B hP (show hk 1076 = 7 by decide +kernel) 3 (by decide) mw_1030 rfl dX7_masterHears_71 ?_
      refine lv_iload_n hx hb dX7_masterHears_74 rfl (lv_at hl 2 rfl) ?_
      refine lv_bipush (v := 15) hx hb dX7_masterHears_75 (by decide) ?_
      refine lv_iadd hx hb dX7_masterHears_77 ?_
      refine lv_topi (fun z91 ez91 => ?_)
      obtain rfl : z91 = (nI (119 + 326 * gn + 66 * gl)) := ez91.trans (by rw [show (nI (104 + 326 * gn + 66 * gl)) = nI (104 + 326 * gn + 66 * gl) from rfl, show 15 = nI 15 from rfl, nI_add] <;> exact congrArg nI (by omega))
      refine aldn (n := 695) (j := (119 + 326 * gn + 66 * gl)) B hP (show hk 1078 = 8 by decide +kernel) (show hlen 1078 = 695 by decide +kernel) rfl (by omega) (by decide) dX7_masterHears_78 ?_
      refine lv_aload_n hx hb dX7_masterHears_79 rfl (lv_at hl 0 rfl) ?_
      refine get7 B hP (show hk 1076 = 7 by decide +kernel) 3 (by decide) mw_1030 rfl dX7_masterHears_80 ?_
      refine lv_iload_n hx hb dX7_masterHears_83 rfl (lv_at hl 2 rfl) ?_
      refine lv_bipush (v := 25) hx hb dX7_masterHears_84 (by decide) ?_
      refine lv_iadd hx hb dX7_masterHears_86 ?_
      refine lv_topi (fun z92 ez92 => ?_)
      obtain rfl : z92 = (nI (129 + 326 * gn + 66 * gl)) := ez92.trans (by rw [show (nI (104 + 326 * gn + 66 * gl)) = nI (104 + 326 * gn + 66 * gl) from rfl, show 25 = nI 25 from rfl, nI_add] <;> exact congrArg nI (by omega))
      refine aldn (n := 695) (j := (129 + 326 * gn + 66 * gl)) B hP (show hk 1078 = 8 by decide +kernel) (show hlen 1078 = 695 by decide +kernel) rfl (by omega) (by decide) dX7_masterHears_87 ?_
      refine lv_bipush (v := 26) hx hb dX7_masterHears_88 (by decide) ?_
      refine call_v (cVt (k := 1076) (av := [.int (nI (104 + 326 * gn + 66 * gl)), .int (ρ 1078 (119 + 326 * gn + 66 * gl)), .int (ρ 1078 (129 + 326 * gn + 66 * gl)), .int 26]) (rest := []) B hP hS (d_X7_hears26 l E ρ r Bt hBt M L (fun x => X x ∧ x ≠ (gn, 10 + gl)) gn (by omega) gl (by omega) (ρ 1078 (119 + 326 * gn + 66 * gl)) (ρ 1078 (129 + 326 * gn + 66 * gl)) hI) lk_RX7_209 (hrecv (ci := 7) B hP (hk_lt (c := 7) (show hk 1076 = 7 by decide +kernel) (by decide)) (hcc7 _ _ (show hk 1076 = 7 by decide +kernel)) rfl) rfl rfl hl.1 (Nat.le_of_ble_eq_true rfl) ⟨Nat.le_of_ble_eq_true rfl, Nat.le_of_ble_eq_true rfl⟩ ⟨Nat.le_of_ble_eq_true rfl, Nat.le_of_ble_eq_true rfl⟩ dX7_masterHears_90) hS (fun ρ94 H locs q95 hP hS => ?_)
      obtain ⟨hI, q95⟩ := q95
      refine lv_aload_n hx hb dX7_masterHears_93 rfl (lv_at hl 0 rfl) ?_
      refine get7 B hP (show hk 1076 = 7 by decide +kernel) 3 (by decide) mw_1030 rfl dX7_masterHears_94 ?_
      refine lv_iload_n hx hb dX7_masterHears_97 rfl (lv_at hl 2 rfl) ?_
      refine lv_bipush (v := 39) hx hb dX7_masterHears_98 (by decide) ?_
      refine lv_iadd hx hb dX7_masterHears_100 ?_
      refine lv_topi (fun z96 ez96 => ?_)
      obtain rfl : z96 = (nI (143 + 326 * gn + 66 * gl)) := ez96.trans (by rw [show (nI (104 + 326 * gn + 66 * gl)) = nI (104 + 326 * gn + 66 * gl) from rfl, show 39 = nI 39 from rfl, nI_add] <;> exact congrArg nI (by omega))
      refine lv_iconst (v := 1) hx hb dX7_masterHears_101 (by decide) ?_
      refine astn (n := 695) (j := (143 + 326 * gn + 66 * gl)) B hP hS (show hk 1078 = 8 by decide +kernel) (show hlen 1078 = 695 by decide +kernel) rfl (by omega) (by decide) dX7_masterHears_102 (fun H locs hP hS => ?_)
      obtain ⟨ρ97, e98⟩ : ∃ z, z = up ρ94 1078 (143 + 326 * gn + 66 * gl) 1 := ⟨_, rfl⟩
      rw [← e98] at hP
      have hI : RI r Bt M L (fun x => X x ∧ x ≠ (gn, 10 + gl)) ρ97 := by rw [e98]; exact RI_up hI (ok_taken1 (n0 := gn) (l0 := gl) (j := (143 + 326 * gn + 66 * gl)) (by omega) (by omega) (by rw [show 118 + 326 * gn + 66 * gl = (118 + 326 * gn + 66 * gl) by omega, show ρ94 1078 (118 + 326 * gn + 66 * gl) = (nI j86) from (show ρ94 1078 (118 + 326 * gn + 66 * gl) = (nI j86) from (by rw [show (118 + 326 * gn + 66 * gl) = 118 + 326 * gn + 66 * gl by omega]; exact q95 : ρ94 1078 (118 + 326 * gn + 66 * gl) = ρ 1078 (118 + 326 * gn + 66 * gl)).trans ej86)]; exact iR_w (nI_iR (j := j86) (a := 1) (b := 8) (by omega) (by omega) (by omega)) (by decide) (by decide)) (by omega))
      exact b103_0 ls ρ97 _ _  (lv_sub hl [0, 1, 2] rfl) hP hS hI (by omega) (by omega) (by omega) (by omega)
  refine lv_aload_n hx hb dX7_masterHears_0 rfl (lv_at hl 0 rfl) ?_
  refine get7 B hP (show hk 1076 = 7 by decide +kernel) 3 (by decide) mw_1030 rfl dX7_masterHears_1 ?_
  refine lv_iload_n hx hb dX7_masterHears_4 rfl (lv_at hl 1 rfl) ?_
  refine call_i (cS (av := [.int (nI gn)]) (rest := [.ref (E.2.1 + 1078)]) B hP hS (d_X7_netAt l E ρ r Bt hBt M L X gn (by omega) (by omega) hI) lk_RX7_75 rfl rfl hl.1 (Nat.le_of_ble_eq_true rfl) ⟨Nat.le_of_ble_eq_true rfl, Nat.le_of_ble_eq_true rfl⟩ ⟨Nat.le_of_ble_eq_true rfl, Nat.le_of_ble_eq_true rfl⟩ dX7_masterHears_5) hS (fun r99 ρ100 H locs q101 hP hS => ?_)
  obtain ⟨rfl, hI, q101⟩ := q101
  obtain rfl : r99 = nI (42 + 326 * gn) := q101.trans (congrArg nI (by omega))
  refine lv_bipush (v := 39) hx hb dX7_masterHears_8 (by decide) ?_
  refine lv_iadd hx hb dX7_masterHears_10 ?_
  refine lv_topi (fun z102 ez102 => ?_)
  obtain rfl : z102 = (nI (81 + 326 * gn)) := ez102.trans (by rw [show (nI (42 + 326 * gn)) = nI (42 + 326 * gn) from rfl, show 39 = nI 39 from rfl, nI_add] <;> exact congrArg nI (by omega))
  refine lv_aload_n hx hb dX7_masterHears_11 rfl (lv_at hl 0 rfl) ?_
  refine get7 B hP (show hk 1076 = 7 by decide +kernel) 12 (by decide) mw_1039 rfl dX7_masterHears_12 ?_
  refine lv_iload_n hx hb dX7_masterHears_15 rfl (lv_at hl 1 rfl) ?_
  refine aldf (n := 2) (j := gn) (v := (r 1086 gn)) B hP (show hk 1086 = 8 by decide +kernel) (show hlen 1086 = 2 by decide +kernel) rfl (by omega) (by decide) (congrFun (hI.1 1086 (by decide) (by decide)) _) dX7_masterHears_16 ?_
  have i103 : iR (r 1086 gn) (-2) (22) := hc1
  refine lv_iadd hx hb dX7_masterHears_17 ?_
  obtain ⟨j104, uj104, fj104⟩ := nI_addneg (y := (r 1086 gn)) (k := 2) (m := 24) (iR_w i103 (by decide) (by decide))
  refine lv_topi (fun z105 ez105 => ?_)
  obtain rfl : z105 = (nI (79 + 326 * gn + j104)) := ez105.trans ((fj104 (81 + 326 * gn) (by omega)).trans (congrArg nI (by omega)))
  refine lv_dup2_11 hx hb dX7_masterHears_18 rfl rfl ?_
  refine aldn (n := 695) (j := (79 + 326 * gn + j104)) B hP (show hk 1078 = 8 by decide +kernel) (show hlen 1078 = 695 by decide +kernel) rfl (by omega) (by decide) dX7_masterHears_19 ?_
  refine lv_iconst (v := 1) hx hb dX7_masterHears_20 (by decide) ?_
  refine lv_iadd hx hb dX7_masterHears_21 ?_
  refine astn (n := 695) (j := (79 + 326 * gn + j104)) B hP hS (show hk 1078 = 8 by decide +kernel) (show hlen 1078 = 695 by decide +kernel) rfl (by omega) (by decide) dX7_masterHears_22 (fun H locs hP hS => ?_)
  obtain ⟨ρ106, e107⟩ : ∃ z, z = up ρ 1078 (79 + 326 * gn + j104) ((ρ 1078 (79 + 326 * gn + j104)) + 1) := ⟨_, rfl⟩
  rw [← e107] at hP
  have hI : RI r Bt M L X ρ106 := by rw [e107]; exact RI_up hI (ok_net (n0 := gn) (j := (79 + 326 * gn + j104)) (37 + j104) (by omega) (by omega) (by omega))
  refine lv_aload_n hx hb dX7_masterHears_23 rfl (lv_at hl 0 rfl) ?_
  refine get7 B hP (show hk 1076 = 7 by decide +kernel) 3 (by decide) mw_1030 rfl dX7_masterHears_24 ?_
  refine lv_iload_n hx hb dX7_masterHears_27 rfl (lv_at hl 2 rfl) ?_
  refine lv_bipush (v := 49) hx hb dX7_masterHears_28 (by decide) ?_
  refine lv_iadd hx hb dX7_masterHears_30 ?_
  refine lv_topi (fun z108 ez108 => ?_)
  obtain rfl : z108 = (nI (153 + 326 * gn + 66 * gl)) := ez108.trans (by rw [show (nI (104 + 326 * gn + 66 * gl)) = nI (104 + 326 * gn + 66 * gl) from rfl, show 49 = nI 49 from rfl, nI_add] <;> exact congrArg nI (by omega))
  refine lv_aload_n hx hb dX7_masterHears_31 rfl (lv_at hl 0 rfl) ?_
  refine get7 B hP (show hk 1076 = 7 by decide +kernel) 3 (by decide) mw_1030 rfl dX7_masterHears_32 ?_
  refine lv_bipush (v := 7) hx hb dX7_masterHears_35 (by decide) ?_
  refine aldn (n := 695) (j := 7) B hP (show hk 1078 = 8 by decide +kernel) (show hlen 1078 = 695 by decide +kernel) rfl (by omega) (by decide) dX7_masterHears_37 ?_
  have i109 : iR (ρ106 1078 7) (0) (1000000) := (iR_w (g_time hI) (by omega) (by omega))
  obtain ⟨j110, lj110, uj110, ej110⟩ := iR_nat (a := 0) (b := 1000000) i109
  refine lv_topi (fun z111 ez111 => ?_)
  obtain rfl : z111 = nI j110 := ez111.trans ej110
  refine astn (n := 695) (j := (153 + 326 * gn + 66 * gl)) B hP hS (show hk 1078 = 8 by decide +kernel) (show hlen 1078 = 695 by decide +kernel) rfl (by omega) (by decide) dX7_masterHears_38 (fun H locs hP hS => ?_)
  obtain ⟨ρ112, e113⟩ : ∃ z, z = up ρ106 1078 (153 + 326 * gn + 66 * gl) (nI j110) := ⟨_, rfl⟩
  rw [← e113] at hP
  have hI : RI r Bt M L X ρ112 := by rw [e113]; exact RI_up hI (ok_link (n0 := gn) (l0 := gl) (j := (153 + 326 * gn + 66 * gl)) 49 (by omega) (by omega) (by omega) (by omega))
  refine lv_aload_n hx hb dX7_masterHears_39 rfl (lv_at hl 0 rfl) ?_
  refine get7 B hP (show hk 1076 = 7 by decide +kernel) 13 (by decide) mw_1040 rfl dX7_masterHears_40 ?_
  refine lv_iload_n hx hb dX7_masterHears_43 rfl (lv_at hl 1 rfl) ?_
  refine zldf (n := 2) (j := gn) (v := (r 1087 gn)) B hP (show hk 1087 = 9 by decide +kernel) (show hlen 1087 = 2 by decide +kernel) rfl (by omega) (by decide) (congrFun (hI.1 1087 (by decide) (by decide)) _) dX7_masterHears_44 ?_
  have i114 : iR (r 1087 gn) (0) (1) := hb7
  obtain ⟨j115, lj115, uj115, ej115⟩ := iR_nat (a := 0) (b := 1) i114
  refine lv_topi (fun z116 ez116 => ?_)
  obtain rfl : z116 = nI j115 := ez116.trans ej115
  refine lv_if_eq (tgt := 56) hx hb dX7_masterHears_45 (by decide) (fun c117 => ?_) (fun c117 => ?_)
  · skip
    have n118 := (nI_eq (a := j115) (b := 0) (by omega) (by omega)).mp (show (nI j115 = nI 0) from c117)
    exact b56_0 ls ρ112 _ _  (lv_sub hl [0, 1, 2] rfl) hP hS (RI_m10 hI) (by omega) (by omega) (by omega) (by omega)
  · skip
    have n119 := mt (nI_eq (a := j115) (b := 0) (by omega) (by omega)).mpr (show ¬ (nI j115 = nI 0) from c117)
    refine lv_aload_n hx hb dX7_masterHears_48 rfl (lv_at hl 0 rfl) ?_
    refine lv_iload_n hx hb dX7_masterHears_49 rfl (lv_at hl 2 rfl) ?_
    refine lv_iconst (v := 5) hx hb dX7_masterHears_50 (by decide) ?_
    refine lv_bipush (v := 23) hx hb dX7_masterHears_51 (by decide) ?_
    refine call_v (cVt (k := 1076) (av := [.int (nI (104 + 326 * gn + 66 * gl)), .int 5, .int 23]) (rest := []) B hP hS (d_X7_goes5 l E ρ112 r Bt hBt M L (fun x => X x ∧ x ≠ (gn, 10 + gl)) gn (by omega) gl (by omega) (RI_m10 hI) (g_xdown (n0 := gn) (l0 := gl) hI (by omega) (by omega) (hd (ej115.trans (congrArg nI (show j115 = 1 by omega)))) (by omega)) (fun z => z.2 rfl)) lk_RX7_212 (hrecv (ci := 7) B hP (hk_lt (c := 7) (show hk 1076 = 7 by decide +kernel) (by decide)) (hcc7 _ _ (show hk 1076 = 7 by decide +kernel)) rfl) rfl rfl hl.1 (Nat.le_of_ble_eq_true rfl) ⟨Nat.le_of_ble_eq_true rfl, Nat.le_of_ble_eq_true rfl⟩ ⟨Nat.le_of_ble_eq_true rfl, Nat.le_of_ble_eq_true rfl⟩ dX7_masterHears_53) hS (fun ρ121 H locs q122 hP hS => ?_)
    have hI := q122
    exact b56_0 ls ρ121 _ _  (lv_sub hl [0, 1, 2] rfl) hP hS hI (by omega) (by omega) (by omega) (by omega)
