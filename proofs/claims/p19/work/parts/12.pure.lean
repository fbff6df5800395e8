def e1 (k : Nat) : Int32 := ([0, 1, 0, 2, 1, 0, 3, 1, 0] : List Int32).getD k 0
def e2 (k : Nat) : Int32 := ([3, 2, 1, 4, 4, 2, 4, 3, 4] : List Int32).getD k 0
def q1 (k : Nat) : Int32 := ([0, 3, 1, 2, 0, 1, 2, 4, 1, 4, 0, 2, 3, 4, 1, 3, 0, 4] : List Int32).getD (2 * k) 0
def q2 (k : Nat) : Int32 := ([0, 3, 1, 2, 0, 1, 2, 4, 1, 4, 0, 2, 3, 4, 1, 3, 0, 4] : List Int32).getD (2 * k + 1) 0
def stC (p : Int32) (k : Nat) (z : Int32) : Int32 := if (((z >>> (e1 k &&& 31)) ^^^ (z >>> (e2 k &&& 31))) &&& 1) = 1 ∧ ((p >>> (nI k &&& 31)) &&& 1) = 1 then (z ^^^ ((1 <<< (e1 k &&& 31)) ||| (1 <<< (e2 k &&& 31)))) else z
def stM (p : Int32) (k : Nat) (z : Int32) : Int32 := if ¬ (((z >>> (q1 k &&& 31)) &&& 1) = ((z >>> (q2 k &&& 31)) &&& 1)) ∧ ((p >>> (nI k &&& 31)) &&& 1) = 1 then (z ^^^ ((1 <<< (q1 k &&& 31)) ||| (1 <<< (q2 k &&& 31)))) else z
def hzC (p : Int32) : Nat → Int32 → Int32
  | 0, z => z
  | k + 1, z => stC p k (hzC p k z)
def hzM (p : Int32) : Nat → Int32 → Int32
  | 0, z => z
  | k + 1, z => stM p k (hzM p k z)
def kP (a c : Int32) : Int32 := ((a >>> ((10 : Int32) &&& 31)) &&& 511) ^^^ ((c >>> ((5 : Int32) &&& 31)) &&& 511)
def kZ (a c : Int32) : Int32 := ((((a &&& 31) + (c &&& 31)) - ((a &&& 31) + (c &&& 31)) / 32 * 32) ^^^ ((a >>> ((5 : Int32) &&& 31)) &&& 31)) ^^^ ((c >>> ((7 : Int32) &&& 31)) &&& 31)
def kZM (a c : Int32) : Int32 := (((a &&& 31) + (c &&& 31)) &&& 31) ^^^ (((a >>> ((5 : Int32) &&& 31)) &&& 31) ^^^ ((c >>> ((7 : Int32) &&& 31)) &&& 31))
def rem23 (x : Int32) : Int32 := x - x / 23 * 23
def HOP (a c : Int32) : Int32 := rem23 ((hzC (kP a c) 9 (kZ a c) + ((a >>> ((19 : Int32) &&& 31)) &&& 31)) + (if (c &&& 1) = 1 then 13 else 0))
def KER (a c : Int32) : Int32 := rem23 ((hzM (kP a c) 9 (kZM a c) + ((a >>> ((19 : Int32) &&& 31)) &&& 31)) + 13 * (c &&& 1))
def stT (k y : Nat) : Bool := (decide ((((nI y >>> (e1 k &&& 31)) ^^^ (nI y >>> (e2 k &&& 31))) &&& 1) = 1) == !decide (((nI y >>> (q1 k &&& 31)) &&& 1) = ((nI y >>> (q2 k &&& 31)) &&& 1))) && (decide (e1 k = q1 k) && (decide (e2 k = q2 k) && (decide ((nI y ^^^ ((1 <<< (e1 k &&& 31)) ||| (1 <<< (e2 k &&& 31)))).toNatClampNeg < 32) && decide (nI y ^^^ ((1 <<< (e1 k &&& 31)) ||| (1 <<< (e2 k &&& 31))) = nI (nI y ^^^ ((1 <<< (e1 k &&& 31)) ||| (1 <<< (e2 k &&& 31)))).toNatClampNeg))))
theorem stT_all : (List.range 9).all (fun k => (List.range 32).all (fun y => stT k y)) = true := by decide +kernel
theorem st_eq {p : Int32} {k y : Nat} (hk : k < 9) (hy : y < 32) : stC p k (nI y) = stM p k (nI y) ∧ ∃ y', y' < 32 ∧ stC p k (nI y) = nI y' := by
  have t := List.all_eq_true.mp (List.all_eq_true.mp stT_all k (List.mem_range.mpr hk)) y (List.mem_range.mpr hy)
  unfold stT at t
  simp only [Bool.and_eq_true, decide_eq_true_eq, beq_iff_eq] at t
  obtain ⟨t1, t2, t3, t4, t5⟩ := t
  unfold stC stM
  rw [t2, t3] at t1 t4 t5 ⊢
  by_cases hb : ((p >>> (nI k &&& 31)) &&& 1) = 1
  · by_cases hq : ((nI y >>> (q1 k &&& 31)) &&& 1) = ((nI y >>> (q2 k &&& 31)) &&& 1)
    · have hC : ¬ ((((nI y >>> (q1 k &&& 31)) ^^^ (nI y >>> (q2 k &&& 31))) &&& 1) = 1) := by
        intro z
        rw [decide_eq_true z, decide_eq_true hq] at t1
        cases t1
      rw [if_neg (fun z => hC z.1), if_neg (fun z => z.1 hq)]
      exact ⟨rfl, y, hy, rfl⟩
    · have hC : ((((nI y >>> (q1 k &&& 31)) ^^^ (nI y >>> (q2 k &&& 31))) &&& 1) = 1) := by
        rw [decide_eq_false hq] at t1
        exact of_decide_eq_true t1
      rw [if_pos ⟨hC, hb⟩, if_pos ⟨hq, hb⟩]
      exact ⟨rfl, _, t4, t5⟩
  · rw [if_neg (fun z => hb z.2), if_neg (fun z => hb z.2)]
    exact ⟨rfl, y, hy, rfl⟩
theorem hz_eq {p : Int32} : ∀ (k : Nat), k ≤ 9 → ∀ y, y < 32 → hzC p k (nI y) = hzM p k (nI y) ∧ ∃ y', y' < 32 ∧ hzC p k (nI y) = nI y'
  | 0, _, y, hy => ⟨rfl, y, hy, rfl⟩
  | k + 1, hk, y, hy => by
    obtain ⟨h1, y', h2, h3⟩ := hz_eq k (by omega) y hy
    obtain ⟨g1, y2, g2, g3⟩ := st_eq (p := p) (k := k) (y := y') (by omega) h2
    show stC p k (hzC p k (nI y)) = stM p k (hzM p k (nI y)) ∧ ∃ y', y' < 32 ∧ stC p k (hzC p k (nI y)) = nI y'
    rw [← h1, h3]
    exact ⟨g1, y2, g2, g3⟩
theorem xorT : (List.range 32).all (fun x => (List.range 32).all (fun y => decide (nI x ^^^ nI y = nI (x ^^^ y)))) = true := by decide +kernel
theorem xor_nI {x y : Nat} (hx : x < 32) (hy : y < 32) : nI x ^^^ nI y = nI (x ^^^ y) := of_decide_eq_true (List.all_eq_true.mp (List.all_eq_true.mp xorT x (List.mem_range.mpr hx)) y (List.mem_range.mpr hy))
theorem kZ_eq (a c : Int32) : kZ a c = kZM a c ∧ ∃ y, y < 32 ∧ kZ a c = nI y := by
  obtain ⟨x, hx, ex⟩ := pk_andE a (m := 31) 5 rfl
  obtain ⟨y, hy, ey⟩ := pk_andE c (m := 31) 5 rfl
  obtain ⟨u, hu, eu⟩ := pk_andE (a >>> ((5 : Int32) &&& 31)) (m := 31) 5 rfl
  obtain ⟨v, hv, ev⟩ := pk_andE (c >>> ((7 : Int32) &&& 31)) (m := 31) 5 rfl
  unfold kZ kZM
  rw [ex, ey, eu, ev, nI_add, pk_andN (by omega) 5 rfl, show (32 : Int32) = nI 32 from rfl, pk_rem (by omega) (by omega) (by omega), Int32.xor_assoc]
  refine ⟨rfl, ((x + y) % 32) ^^^ (u ^^^ v), ?_, ?_⟩
  · exact Nat.xor_lt_two_pow (n := 5) (Nat.mod_lt _ (by decide)) (Nat.xor_lt_two_pow (n := 5) hu hv)
  · rw [xor_nI hu hv, xor_nI (Nat.mod_lt _ (by decide)) (Nat.xor_lt_two_pow (n := 5) hu hv)]
theorem HOP_KER (a c : Int32) : HOP a c = KER a c := by
  obtain ⟨h1, y, h2, h3⟩ := kZ_eq a c
  obtain ⟨g1, -⟩ := hz_eq (p := kP a c) 9 (Nat.le_refl _) y h2
  obtain ⟨j, hj, ej⟩ := pk_andE c (m := 1) 1 rfl
  unfold HOP KER
  rw [← h1, h3, g1, ej]
  rcases (show j = 0 ∨ j = 1 by omega) with rfl | rfl
  · rw [if_neg (by decide)]; rfl
  · rw [if_pos (by decide)]; rfl
/-! counting ones -/
def pc8 (b : Nat) : Nat := b % 2 + b / 2 % 2 + b / 4 % 2 + b / 8 % 2 + b / 16 % 2 + b / 32 % 2 + b / 64 % 2 + b / 128 % 2
def pc16 (y : Nat) : Nat := pc8 (y % 256) + pc8 (y / 256)
def pcc (x : Nat) : Nat := pc8 (x % 256) + pc16 (x / 256)
theorem and_split {a b c d : Nat} (ha : a < 256) (hc : c < 256) : (a + 256 * b) &&& (c + 256 * d) = (a &&& c) + 256 * (b &&& d) := by
  have h1 : ((a + 256 * b) &&& (c + 256 * d)) % 2 ^ 8 = a &&& c := by
    rw [Nat.and_mod_two_pow, show (a + 256 * b) % 2 ^ 8 = a by omega, show (c + 256 * d) % 2 ^ 8 = c by omega]
  have h2 : ((a + 256 * b) &&& (c + 256 * d)) / 2 ^ 8 = b &&& d := by
    rw [Nat.and_div_two_pow, show (a + 256 * b) / 2 ^ 8 = b by omega, show (c + 256 * d) / 2 ^ 8 = d by omega]
  omega
theorem and_low {t m n : Nat} (hm : m < 2 ^ n) : t &&& m = (t % 2 ^ n) &&& m := by
  have h := Nat.and_mod_two_pow (a := t) (b := m) (n := n)
  rw [Nat.mod_eq_of_lt (Nat.and_lt_two_pow t hm), Nat.mod_eq_of_lt hm] at h
  exact h
theorem and_cut {t m m' n : Nat} (ht : t < 2 ^ n) (hm : m % 2 ^ n = m') : t &&& m = t &&& m' := by
  have h := Nat.and_mod_two_pow (a := t) (b := m) (n := n)
  rw [Nat.mod_eq_of_lt ht, hm, Nat.and_comm t m, Nat.mod_eq_of_lt (Nat.and_lt_two_pow m ht), Nat.and_comm m t] at h
  exact h
theorem kbT : (List.range 256).all (fun b => b == 0 || (decide ((b &&& (b - 1)) < b) && decide (pc8 (b &&& (b - 1)) + 1 = pc8 b))) = true := by decide +kernel
theorem kb {b : Nat} (h0 : 0 < b) (h : b < 256) : (b &&& (b - 1)) < b ∧ pc8 (b &&& (b - 1)) + 1 = pc8 b := by
  have t := List.all_eq_true.mp kbT b (List.mem_range.mpr h)
  simp only [Bool.or_eq_true, Bool.and_eq_true, decide_eq_true_eq, beq_iff_eq] at t
  rcases t with t | t
  · omega
  · exact t
theorem pc8_0 : pc8 0 = 0 := rfl
theorem k16 {y : Nat} (h0 : 0 < y) (h : y < 65536) : (y &&& (y - 1)) < y ∧ pc16 (y &&& (y - 1)) + 1 = pc16 y := by
  by_cases hb : y % 256 = 0
  · have e1 : y = 0 + 256 * (y / 256) := by omega
    have e2 : y - 1 = 255 + 256 * (y / 256 - 1) := by omega
    have e : y &&& (y - 1) = 256 * (y / 256 &&& (y / 256 - 1)) := by
      rw [e2]
      conv => lhs; lhs; rw [e1]
      rw [and_split (by omega) (by omega)]
      simp
    obtain ⟨g1, g2⟩ := kb (b := y / 256) (by omega) (by omega)
    rw [e]
    unfold pc16
    rw [show 256 * (y / 256 &&& (y / 256 - 1)) % 256 = 0 by omega, show 256 * (y / 256 &&& (y / 256 - 1)) / 256 = (y / 256 &&& (y / 256 - 1)) by omega, hb]
    omega
  · have e1 : y = y % 256 + 256 * (y / 256) := by omega
    have e2 : y - 1 = (y % 256 - 1) + 256 * (y / 256) := by omega
    have e : y &&& (y - 1) = (y % 256 &&& (y % 256 - 1)) + 256 * (y / 256) := by
      rw [e2]
      conv => lhs; lhs; rw [e1]
      rw [and_split (by omega) (by omega), Nat.and_self]
    obtain ⟨g1, g2⟩ := kb (b := y % 256) (by omega) (by omega)
    rw [e]
    unfold pc16
    rw [show ((y % 256 &&& (y % 256 - 1)) + 256 * (y / 256)) % 256 = (y % 256 &&& (y % 256 - 1)) by omega, show ((y % 256 &&& (y % 256 - 1)) + 256 * (y / 256)) / 256 = y / 256 by omega]
    omega
theorem kpc {x : Nat} (h0 : 0 < x) (h : x < 8388608) : (x &&& (x - 1)) < x ∧ pcc (x &&& (x - 1)) + 1 = pcc x := by
  by_cases hb : x % 256 = 0
  · have e1 : x = 0 + 256 * (x / 256) := by omega
    have e2 : x - 1 = 255 + 256 * (x / 256 - 1) := by omega
    have e : x &&& (x - 1) = 256 * (x / 256 &&& (x / 256 - 1)) := by
      rw [e2]
      conv => lhs; lhs; rw [e1]
      rw [and_split (by omega) (by omega)]
      simp
    obtain ⟨g1, g2⟩ := k16 (y := x / 256) (by omega) (by omega)
    rw [e]
    unfold pcc
    rw [show 256 * (x / 256 &&& (x / 256 - 1)) % 256 = 0 by omega, show 256 * (x / 256 &&& (x / 256 - 1)) / 256 = (x / 256 &&& (x / 256 - 1)) by omega, hb]
    omega
  · have e1 : x = x % 256 + 256 * (x / 256) := by omega
    have e2 : x - 1 = (x % 256 - 1) + 256 * (x / 256) := by omega
    have e : x &&& (x - 1) = (x % 256 &&& (x % 256 - 1)) + 256 * (x / 256) := by
      rw [e2]
      conv => lhs; lhs; rw [e1]
      rw [and_split (by omega) (by omega), Nat.and_self]
    obtain ⟨g1, g2⟩ := kb (b := x % 256) (by omega) (by omega)
    rw [e]
    unfold pcc
    rw [show ((x % 256 &&& (x % 256 - 1)) + 256 * (x / 256)) % 256 = (x % 256 &&& (x % 256 - 1)) by omega, show ((x % 256 &&& (x % 256 - 1)) + 256 * (x / 256)) / 256 = x / 256 by omega]
    omega
theorem pc8_le (b : Nat) : pc8 b ≤ 8 := by unfold pc8; omega
theorem pcc_le (x : Nat) : pcc x ≤ 24 := by have := pc8_le (x % 256); have := pc8_le (x / 256 % 256); have := pc8_le (x / 256 / 256); unfold pcc pc16; omega
theorem pcc_0 : pcc 0 = 0 := rfl
/-! the machine's bitCount -/
def w1 (x : Nat) : Nat := x - ((x / 2) &&& 1431655765)
def w2 (v : Nat) : Nat := (v &&& 858993459) + ((v / 4) &&& 858993459)
def w3 (v : Nat) : Nat := (v + v / 16) &&& 252645135
theorem and_le_left' (a b : Nat) : a &&& b ≤ a := Nat.and_le_left
theorem w1_split {a y : Nat} (ha : a < 256) (hy : y < 16777216) : w1 (a + 256 * y) = w1 a + 256 * w1 y := by
  unfold w1
  have h1 : (a + 256 * y) / 2 = (a / 2 + 128 * (y % 2)) + 256 * (y / 2) := by omega
  have h2 : (a / 2 + 128 * (y % 2)) &&& 85 = (a / 2) &&& 85 := by
    rw [and_low (t := a / 2 + 128 * (y % 2)) (n := 7) (by decide), and_low (t := a / 2) (n := 7) (by decide), show (a / 2 + 128 * (y % 2)) % 2 ^ 7 = a / 2 % 2 ^ 7 by omega]
  rw [h1, show (1431655765 : Nat) = 85 + 256 * 5592405 from rfl, and_split (by omega) (by omega), h2]
  have h3 : (y / 2) &&& (85 + 256 * 5592405) = (y / 2) &&& 5592405 := and_cut (n := 24) (by omega) (by decide)
  have h4 : (a / 2) &&& (85 + 256 * 5592405) = (a / 2) &&& 85 := and_cut (n := 8) (by omega) (by decide)
  rw [h3, h4]
  have := and_le_left' (a / 2) 85
  have := and_le_left' (y / 2) 5592405
  omega
theorem w2_split {a y : Nat} (ha : a < 256) (hy : y < 16777216) : w2 (a + 256 * y) = w2 a + 256 * w2 y := by
  unfold w2
  have h1 : (a + 256 * y) / 4 = (a / 4 + 64 * (y % 4)) + 256 * (y / 4) := by omega
  have h2 : (a / 4 + 64 * (y % 4)) &&& 51 = (a / 4) &&& 51 := by
    rw [and_low (t := a / 4 + 64 * (y % 4)) (n := 6) (by decide), and_low (t := a / 4) (n := 6) (by decide), show (a / 4 + 64 * (y % 4)) % 2 ^ 6 = a / 4 % 2 ^ 6 by omega]
  rw [h1, show (858993459 : Nat) = 51 + 256 * 3355443 from rfl, and_split ha (by omega), and_split (a := a / 4 + 64 * (y % 4)) (by omega) (by omega), h2]
  have h3 : (y / 4) &&& (51 + 256 * 3355443) = (y / 4) &&& 3355443 := and_cut (n := 24) (by omega) (by decide)
  have h4 : (a / 4) &&& (51 + 256 * 3355443) = (a / 4) &&& 51 := and_cut (n := 8) (by omega) (by decide)
  have h5 : y &&& (51 + 256 * 3355443) = y &&& 3355443 := and_cut (n := 24) (by omega) (by decide)
  have h6 : a &&& (51 + 256 * 3355443) = a &&& 51 := and_cut (n := 8) (by omega) (by decide)
  rw [h3, h4, h5, h6]
  omega
theorem w3_split {a y : Nat} (ha : a < 90) (hm : y % 16 < 8) (hy : y < 8388608) : w3 (a + 256 * y) = w3 a + 256 * w3 y := by
  unfold w3
  have h1 : (a + 256 * y) + (a + 256 * y) / 16 = (a + a / 16 + 16 * (y % 16)) + 256 * (y + y / 16) := by omega
  have h2 : (a + a / 16 + 16 * (y % 16)) &&& 15 = (a + a / 16) &&& 15 := by
    rw [and_low (t := a + a / 16 + 16 * (y % 16)) (n := 4) (by decide), and_low (t := a + a / 16) (n := 4) (by decide), show (a + a / 16 + 16 * (y % 16)) % 2 ^ 4 = (a + a / 16) % 2 ^ 4 by omega]
  rw [h1, show (252645135 : Nat) = 15 + 256 * 986895 from rfl, and_split (by omega) (by omega), h2]
  have h3 : (y + y / 16) &&& (15 + 256 * 986895) = (y + y / 16) &&& 986895 := and_cut (n := 24) (by omega) (by decide)
  have h4 : (a + a / 16) &&& (15 + 256 * 986895) = (a + a / 16) &&& 15 := and_cut (n := 8) (by omega) (by decide)
  rw [h3, h4]
theorem wbT : (List.range 256).all (fun b => decide (w1 b < 256) && (decide (w2 (w1 b) < 90) && (decide (w2 (w1 b) % 16 < 8) && decide (w3 (w2 (w1 b)) = pc8 b)))) = true := by decide +kernel
theorem wb {b : Nat} (h : b < 256) : w1 b < 256 ∧ w2 (w1 b) < 90 ∧ w2 (w1 b) % 16 < 8 ∧ w3 (w2 (w1 b)) = pc8 b := by
  have t := List.all_eq_true.mp wbT b (List.mem_range.mpr h)
  simpa only [Bool.and_eq_true, decide_eq_true_eq] using t
theorem w_all {x : Nat} (h : x < 8388608) : w3 (w2 (w1 x)) = pc8 (x % 256) + 256 * (pc8 (x / 256 % 256) + 256 * pc8 (x / 256 / 256)) ∧ w1 x < 16777216 ∧ w2 (w1 x) < 16777216 := by
  obtain ⟨a1, a2, a3, a4⟩ := wb (b := x % 256) (by omega)
  obtain ⟨b1, b2, b3, b4⟩ := wb (b := x / 256 % 256) (by omega)
  obtain ⟨c1, c2, c3, c4⟩ := wb (b := x / 256 / 256) (by omega)
  have hx : x = x % 256 + 256 * (x / 256 % 256 + 256 * (x / 256 / 256)) := by omega
  have u1 : w1 x = w1 (x % 256) + 256 * (w1 (x / 256 % 256) + 256 * w1 (x / 256 / 256)) := by
    conv => lhs; rw [hx]
    rw [w1_split (by omega) (by omega), w1_split (by omega) (by omega)]
  have u2 : w2 (w1 x) = w2 (w1 (x % 256)) + 256 * (w2 (w1 (x / 256 % 256)) + 256 * w2 (w1 (x / 256 / 256))) := by
    rw [u1, w2_split a1 (by omega), w2_split b1 (by omega)]
  refine ⟨?_, by omega, by omega⟩
  rw [u2, w3_split a2 (by omega) (by omega), w3_split b2 (by omega) (by omega), a4, b4, c4]
theorem nI_and {a b : Nat} : nI a &&& nI b = nI (a &&& b) := by
  apply Int32.toBitVec_inj.mp
  rw [Int32.toBitVec_and]
  exact BitVec.ofNat_and.symm
theorem bc1 {x : Nat} (h : x < 8388608) : nI x - (((nI x).toUInt32 >>> ((1 : Int32).toUInt32 &&& Int32.toUInt32 31)).toInt32 &&& 1431655765) = nI (w1 x) := by
  rw [pk_ushrN (by omega) 1 1 (by decide), show (1431655765 : Int32) = nI 1431655765 from rfl, nI_and, pk_sub (Nat.le_trans Nat.and_le_left (by omega))]
  rfl
theorem bc2 {v : Nat} (h : v < 16777216) : (nI v &&& 858993459) + (((nI v).toUInt32 >>> ((2 : Int32).toUInt32 &&& Int32.toUInt32 31)).toInt32 &&& 858993459) = nI (w2 v) := by
  rw [pk_ushrN (by omega) 2 2 (by decide), show (858993459 : Int32) = nI 858993459 from rfl, nI_and, nI_and, nI_add]
  rfl
theorem bc3 {v : Nat} (h : v < 16777216) : (nI v + ((nI v).toUInt32 >>> ((4 : Int32).toUInt32 &&& Int32.toUInt32 31)).toInt32) &&& 252645135 = nI (w3 v) := by
  rw [pk_ushrN (by omega) 4 4 (by decide), show (252645135 : Int32) = nI 252645135 from rfl, nI_add, nI_and]
  rfl
theorem bc4 {v : Nat} (h : v < 2 ^ 31) : nI v + ((nI v).toUInt32 >>> ((8 : Int32).toUInt32 &&& Int32.toUInt32 31)).toInt32 = nI (v + v / 256) := by
  rw [pk_ushrN (by omega) 8 8 (by decide), nI_add]
theorem bc5 {v : Nat} (h : v < 2 ^ 31) : nI v + ((nI v).toUInt32 >>> ((16 : Int32).toUInt32 &&& Int32.toUInt32 31)).toInt32 = nI (v + v / 65536) := by
  rw [pk_ushrN (by omega) 16 16 (by decide), nI_add]
theorem bc6 {v : Nat} (h : v < 2 ^ 31) : nI v &&& 63 = nI (v % 64) := pk_andN (by omega) 6 rfl
theorem bc_end {x : Nat} (h : x < 8388608) : ((w3 (w2 (w1 x)) + w3 (w2 (w1 x)) / 256) + (w3 (w2 (w1 x)) + w3 (w2 (w1 x)) / 256) / 65536) % 64 = pcc x := by
  obtain ⟨e, -, -⟩ := w_all h
  have := pc8_le (x % 256)
  have := pc8_le (x / 256 % 256)
  have := pc8_le (x / 256 / 256)
  rw [e]
  unfold pcc pc16
  generalize pc8 (x % 256) = b at *
  generalize pc8 (x / 256 % 256) = c at *
  generalize pc8 (x / 256 / 256) = d at *
  have f1 : (b + 256 * (c + 256 * d)) / 256 = c + 256 * d := by omega
  rw [f1]
  have f2 : (b + 256 * (c + 256 * d) + (c + 256 * d)) / 65536 = d := by omega
  rw [f2]
  omega
theorem bc_lt {x : Nat} (h : x < 8388608) : w3 (w2 (w1 x)) < 2 ^ 30 := by
  obtain ⟨e, -, -⟩ := w_all h
  have := pc8_le (x % 256)
  have := pc8_le (x / 256 % 256)
  have := pc8_le (x / 256 / 256)
  omega
/-- a map: channels alone, eight at least -/
def mp (m : Int32) : Prop := ∃ X : Nat, X < 8388608 ∧ m = nI X ∧ 8 ≤ pcc X
theorem mp_iff {X : Nat} (h : X < 8388608) : mp (nI X) ↔ 8 ≤ pcc X := by
  constructor
  · rintro ⟨Y, hY, e, g⟩
    rw [(nI_eq (by omega) (by omega)).mp e]
    exact g
  · exact fun g => ⟨X, h, rfl, g⟩
theorem mp_iR {m : Int32} (h : mp m) : iR m 0 8388607 := by
  obtain ⟨X, hX, rfl, -⟩ := h
  unfold iR
  rw [nI_toInt (by omega)]
  omega
theorem mask_nat {m : Int32} (h : m &&& (-8388608) = 0) : ∃ X : Nat, X < 8388608 ∧ m = nI X := by
  have h1 : (m &&& (-8388608)).toBitVec.toNat = 0 := by rw [h]; rfl
  rw [Int32.toBitVec_and, BitVec.toNat_and] at h1
  have e : (-8388608 : Int32).toBitVec.toNat = 4286578688 := by decide
  rw [e] at h1
  have h2 : (m.toBitVec.toNat &&& 4286578688) / 2 ^ 23 = 0 := by rw [h1]
  have hlt : m.toBitVec.toNat < 2 ^ 32 := m.toBitVec.isLt
  rw [Nat.and_div_two_pow, show 4286578688 / 2 ^ 23 = 2 ^ 9 - 1 by decide, Nat.and_two_pow_sub_one_of_lt_two_pow (by omega)] at h2
  refine ⟨m.toBitVec.toNat, by omega, ?_⟩
  apply Int32.toBitVec_inj.mp
  show m.toBitVec = BitVec.ofNat 32 m.toBitVec.toNat
  simp
theorem mask_no {m : Int32} (h : ¬ m &&& (-8388608) = 0) : ¬ mp m := by
  rintro ⟨X, hX, rfl, -⟩
  apply h
  apply Int32.toBitVec_inj.mp
  apply BitVec.eq_of_toNat_eq
  rw [Int32.toBitVec_and, BitVec.toNat_and, pk_tn (by omega)]
  have e : (-8388608 : Int32).toBitVec.toNat = 4286578688 := by decide
  rw [e]
  show X &&& 4286578688 = 0
  rw [and_cut (n := 23) (m' := 0) (by omega) (by decide), Nat.and_zero]
theorem kz_and {S : Nat} (h0 : 0 < S) : nI S &&& (nI S - 1) = nI (S &&& (S - 1)) := by
  rw [show (1 : Int32) = nI 1 from rfl, pk_sub (by omega), nI_and]
