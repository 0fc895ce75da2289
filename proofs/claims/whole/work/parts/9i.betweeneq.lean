/-! between: class = reference -/
theorem i64_mulA {a b : Int64} (h : (a.toInt * b.toInt).natAbs < 2 ^ 63) : (a * b).toInt = a.toInt * b.toInt := by rw [Int64.toInt_mul, Int.bmod_eq_of_le (by omega) (by omega)]
theorem i64_addA {a b : Int64} (h : (a.toInt + b.toInt).natAbs < 2 ^ 63) : (a + b).toInt = a.toInt + b.toInt := by rw [Int64.toInt_add, Int.bmod_eq_of_le (by omega) (by omega)]
theorem i64_subA {a b : Int64} (h : (a.toInt - b.toInt).natAbs < 2 ^ 63) : (a - b).toInt = a.toInt - b.toInt := by rw [Int64.toInt_sub, Int.bmod_eq_of_le (by omega) (by omega)]
theorem nc_T : ∀ k, k < 40 → (Ml_n (nI k)).toInt = (((ax_tab 0 (Int32.toNatClampNeg (nI k))) * (ax_tab 0 (Int32.toNatClampNeg (nI k)))) + ((ax_tab 1 (Int32.toNatClampNeg (nI k))) * (ax_tab 1 (Int32.toNatClampNeg (nI k))))).toInt ∧ (Ml_c (nI k)).toInt = (((ax_tab 1 (Int32.toNatClampNeg (nI k))) * (ax_tab 1 (Int32.toNatClampNeg (nI k)))) - ((ax_tab 0 (Int32.toNatClampNeg (nI k))) * (ax_tab 0 (Int32.toNatClampNeg (nI k))))).toInt ∧ (Ml_n (nI k)).toInt.natAbs ≤ 50 ∧ (Ml_c (nI k)).toInt.natAbs ≤ 50 := by decide +kernel
theorem nx_T : ∀ k, k < 40 → Mn_next (nI k) = Tn_next (nI k) ∧ ∃ j, j < 40 ∧ Tn_next (nI k) = nI j := by
  have h : ∀ k, k < 40 → Mn_next (nI k) = Tn_next (nI k) ∧ Tn_next (nI k) = nI (if k = 39 then 0 else k + 1) := by decide +kernel
  intro k hk
  exact ⟨(h k hk).1, _, by split <;> omega, (h k hk).2⟩
def D3 (g a x : Int32) (k : Nat) : Int := x.toInt * (Ml_n (nI k)).toInt - (Lk_unit g a).toInt * (Ml_c (nI k)).toInt
theorem sd_T {g a x : Int32} {k : Nat} (hg : b18 g.toInt) (ha : b18 a.toInt) (hx : x.toInt.natAbs ≤ 2000) (hk : k < 40) : Lk_side g a x (nI k) = (if D3 g a x k < 0 then -1 else if D3 g a x k = 0 then 0 else 1) := by
  obtain ⟨n1, c1, n2, c2⟩ := nc_T k hk
  have hu := unit_T hg ha
  have p1 := am hx n2
  have p2 := am (show (Lk_unit g a).toInt.natAbs ≤ 648 by omega) c2
  unfold Lk_side Cmp3 D3
  have e1 := i32_mul (a := x) (b := (((ax_tab 0 (Int32.toNatClampNeg (nI k))) * (ax_tab 0 (Int32.toNatClampNeg (nI k)))) + ((ax_tab 1 (Int32.toNatClampNeg (nI k))) * (ax_tab 1 (Int32.toNatClampNeg (nI k)))))) (by rw [← n1]; omega)
  have e2 := i32_mul (a := Lk_unit g a) (b := (((ax_tab 1 (Int32.toNatClampNeg (nI k))) * (ax_tab 1 (Int32.toNatClampNeg (nI k)))) - ((ax_tab 0 (Int32.toNatClampNeg (nI k))) * (ax_tab 0 (Int32.toNatClampNeg (nI k)))))) (by rw [← c1]; omega)
  rw [← n1] at e1
  rw [← c1] at e2
  simp only [Int32.le_iff_toInt_le, ← Int32.toInt_inj, e1, e2]
  split <;> split <;> (try split) <;> (try split) <;> first | rfl | omega
theorem mb_T {q : Nat → Int32} {l x : Int32} {k : Nat} (hB : okB q l) (hx : x.toInt.natAbs ≤ 2000) (hk : k < 40) : (mbF q l x (nI k)).toInt = D3 (Bg q l) (Ba q l) x k := by
  obtain ⟨n1, c1, n2, c2⟩ := nc_T k hk
  have hu := unit_T hB.1 hB.2.1
  have p1 := am hx n2
  have p2 := am c2 (show (Lk_unit (Bg q l) (Ba q l)).toInt.natAbs ≤ 648 by omega)
  unfold mbF D3
  rw [e_unit]
  have e1 : (Int32.toInt64 x * Ml_n (nI k)).toInt = x.toInt * (Ml_n (nI k)).toInt := by
    rw [i64_mulA (by rw [Int32.toInt_toInt64]; omega), Int32.toInt_toInt64]
  have e2 : (Ml_c (nI k) * Int32.toInt64 (Lk_unit (Bg q l) (Ba q l))).toInt = (Ml_c (nI k)).toInt * (Lk_unit (Bg q l) (Ba q l)).toInt := by
    rw [i64_mulA (by rw [Int32.toInt_toInt64]; omega), Int32.toInt_toInt64]
  rw [i64_subA (by rw [e1, e2]; omega), e1, e2, Int.mul_comm (Ml_c (nI k)).toInt]
theorem sg_neg {a b : Int} : ((if a < 0 then (-1 : Int32) else if a = 0 then 0 else 1) * (if b < 0 then (-1 : Int32) else if b = 0 then 0 else 1) < 0) ↔ ((a < 0 ∧ 0 < b) ∨ (0 < a ∧ b < 0)) := by
  split <;> split <;> (try split) <;> (try split) <;> simp <;> omega
theorem mb_betw {q : Nat → Int32} {l x : Int32} {k j : Nat} (hB : okB q l) (hx : x.toInt.natAbs ≤ 2000) (hk : k < 40) (hj : j < 40) : Mb q l x (nI k) (nI j) ↔ ((-Lk_unit (Bg q l) (Ba q l) ≤ x ∧ x ≤ Lk_unit (Bg q l) (Ba q l)) ∧ Lk_side (Bg q l) (Ba q l) x (nI k) * Lk_side (Bg q l) (Ba q l) x (nI j) < 0) := by
  have hu := unit_T hB.1 hB.2.1
  unfold Mb
  rw [sd_T hB.1 hB.2.1 hx hk, sd_T hB.1 hB.2.1 hx hj, sg_neg, e_unit, ab_le (show (Lk_unit (Bg q l) (Ba q l)).toInt.natAbs < 2 ^ 31 by omega)]
  have z : (0 : Int64).toInt = 0 := rfl
  rw [Int64.lt_iff_toInt_lt, Int64.lt_iff_toInt_lt, Int64.lt_iff_toInt_lt, Int64.lt_iff_toInt_lt, mb_T hB hx hk, mb_T hB hx hj, z]
theorem e_betw {q : Nat → Int32} {l a : Int32} (hB : okB q l) (ha : 0 ≤ a ∧ a < 40) : Lk_betw (Bg q l) (Ba q l) (Bb q l) (Bc q l) a = (if Mb q l (Mk_far q l) a (Mn_next a) then (if Mb q l (Mk_near q l) a (Mn_next a) then 2 else 1) else (if Mb q l (Mk_near q l) a (Mn_next a) then 1 else 0)) := by
  obtain ⟨k, hk, rfl⟩ := nI_in2 (c := 40) (by decide) ha.1 ha.2
  obtain ⟨h1, j, hj, h2⟩ := nx_T k hk
  have hf := far_T hB.1 hB.2.1 hB.2.2.1 hB.2.2.2
  rw [h1, h2]
  unfold Lk_betw
  rw [h2, e_far, e_near]
  simp only [mb_betw hB hf.1 hk hj, mb_betw hB hf.2 hk hj]

/-! circuits, swing -/
theorem far_E {g a b c : Int32} (hg : b18 g.toInt) (ha : b18 a.toInt) (hb : b18 b.toInt) (hc : b18 c.toInt) : (Lk_far g a b c).toInt = g.toInt * g.toInt + a.toInt * a.toInt - (b.toInt + c.toInt) * (b.toInt + c.toInt) ∧ (Lk_near g a b c).toInt = g.toInt * g.toInt + a.toInt * a.toInt - (b.toInt - c.toInt) * (b.toInt - c.toInt) := by
  have g2 := am (b18a hg) (b18a hg)
  have a2 := am (b18a ha) (b18a ha)
  have hgb := b18a hg; have hab := b18a ha; have hbb := b18a hb; have hcb := b18a hc
  have eg : (g * g).toInt = g.toInt * g.toInt := i32_mul (by omega)
  have ea : (a * a).toInt = a.toInt * a.toInt := i32_mul (by omega)
  have es : (g * g + a * a).toInt = g.toInt * g.toInt + a.toInt * a.toInt := by rw [i32_add (by rw [eg, ea]; omega), eg, ea]
  have ep : (b + c).toInt = b.toInt + c.toInt := i32_add (by omega)
  have em : (b - c).toInt = b.toInt - c.toInt := i32_sub (by omega)
  have p1 : (b.toInt + c.toInt).natAbs ≤ 36 := by omega
  have p2 : (b.toInt - c.toInt).natAbs ≤ 36 := by omega
  have q1 := am p1 p1
  have q2 := am p2 p2
  have eq1 : ((b + c) * (b + c)).toInt = (b.toInt + c.toInt) * (b.toInt + c.toInt) := by rw [i32_mul (by rw [ep]; omega), ep]
  have eq2 : ((b - c) * (b - c)).toInt = (b.toInt - c.toInt) * (b.toInt - c.toInt) := by rw [i32_mul (by rw [em]; omega), em]
  unfold Lk_far Lk_near
  rw [i32_sub (by rw [es, eq1]; omega), i32_sub (by rw [es, eq2]; omega), es, eq1, eq2]
  exact ⟨rfl, rfl⟩
theorem k_fac (g a b c : Int) (k : Nat) : iK g a b c k = -((iS g a k - (b + c) * (b + c) * iN k) * (iS g a k - (b - c) * (b - c) * iN k)) := by
  unfold iK iE
  generalize iS g a k = S
  generalize iN k = N
  grind
theorem law_mid {g a b c : Int} {k : Nat} (hb : 1 ≤ b) (hc : 1 ≤ c) (hk : k < 40) (h : 0 ≤ iK g a b c k) : (b - c) * (b - c) * iN k ≤ iS g a k ∧ iS g a k ≤ (b + c) * (b + c) * iN k := by
  rw [k_fac] at h
  have hN := (tab_ncd k hk).1
  have hbc : 0 ≤ b * c := Int.mul_nonneg (by omega) (by omega)
  have e : (b + c) * (b + c) * iN k = (b - c) * (b - c) * iN k + 4 * ((b * c) * iN k) := by grind
  have hp : 0 ≤ b * c * iN k := Int.mul_nonneg hbc (by omega)
  generalize (b + c) * (b + c) * iN k = X at *
  generalize (b - c) * (b - c) * iN k = Y at *
  generalize iS g a k = S at *
  constructor
  · refine Int.not_lt.mp fun z => ?_
    have := Int.mul_pos_of_neg_of_neg (show S - X < 0 by omega) (show S - Y < 0 by omega)
    omega
  · refine Int.not_lt.mp fun z => ?_
    have := Int.mul_pos (show 0 < S - X by omega) (show 0 < S - Y by omega)
    omega
theorem law_built {q : Nat → Int32} {l : Int32} {k : Nat} (hB : okB q l) (hk : k < 40) (h : lawP q l k) : Lk_least (Bg q l) (Ba q l) (Bb q l) (Bc q l) ≤ Lk_most (Bg q l) (Ba q l) (Bb q l) (Bc q l) := by
  have hm := law_mid hB.2.2.1.1 hB.2.2.2.1 hk ((law_i hB hk).mp h).2
  have hf := far_E hB.1 hB.2.1 hB.2.2.1 hB.2.2.2
  have hu := unit_T hB.1 hB.2.1
  have hN := tab_ncd k hk
  have hn : (-(Lk_unit (Bg q l) (Ba q l))).toInt = -(Lk_unit (Bg q l) (Ba q l)).toInt := i32_neg (by omega)
  obtain ⟨hf1, hf2⟩ := hf
  unfold iS at hm
  rw [Int32.le_iff_toInt_le]
  unfold Lk_least Lk_most
  simp only [Int32.lt_iff_toInt_lt]
  generalize (Bg q l).toInt * (Bg q l).toInt + (Ba q l).toInt * (Ba q l).toInt = G at *
  have eu : 2 * (Bg q l).toInt * (Ba q l).toInt = (Lk_unit (Bg q l) (Ba q l)).toInt := by rw [hu.1, Int.mul_assoc]
  rw [eu] at hm
  generalize hUe : (Lk_unit (Bg q l) (Ba q l)).toInt = U at *
  generalize ((Bb q l).toInt + (Bc q l).toInt) * ((Bb q l).toInt + (Bc q l).toInt) = X at *
  generalize ((Bb q l).toInt - (Bc q l).toInt) * ((Bb q l).toInt - (Bc q l).toInt) = Y at *
  generalize iN k = N at *
  generalize iC k = C at *
  have hU : 0 < U := by omega
  have c1 : U * C ≤ U * N := Int.mul_le_mul_of_nonneg_left (by omega) (by omega)
  have c2 : U * (-N) ≤ U * C := Int.mul_le_mul_of_nonneg_left (by omega) (by omega)
  rw [Int.mul_neg] at c2
  have k1 : (G - X) * N ≤ U * C := by rw [Int.sub_mul]; omega
  have k2 : U * C ≤ (G - Y) * N := by rw [Int.sub_mul]; omega
  have hNp : 0 < N := by omega
  have d1 : G - X ≤ G - Y := Int.le_of_mul_le_mul_right (Int.le_trans k1 k2) hNp
  have d2 : G - X ≤ U := Int.le_of_mul_le_mul_right (Int.le_trans k1 c1) hNp
  have d3 : -U ≤ G - Y := Int.le_of_mul_le_mul_right (a := N) (by rw [Int.neg_mul]; omega) hNp
  split <;> split <;> omega
theorem e_circ {q : Nat → Int32} {l : Int32} (h : okB q l) : Lk_circ (Bg q l) (Ba q l) (Bb q l) (Bc q l) = (if Mk_lc q l ≤ Mk_mc q l then (if Mk_rnd q l 0 ∧ Mk_ends q l = 0 then 2 else Mk_arcs q l) else 0) := by
  unfold Lk_circ
  rw [e_arcs, e_lc, e_mc, e_ends h]
  simp only [e_rnd h (j := 0) ⟨by decide, by decide⟩]
  unfold Lk_arcs
  by_cases c : Lk_least (Bg q l) (Ba q l) (Bb q l) (Bc q l) ≤ Lk_most (Bg q l) (Ba q l) (Bb q l) (Bc q l)
  · simp only [c, true_and, if_true]
  · simp only [c, false_and, if_false]
theorem e_swd {q : Nat → Int32} {l : Int32} (h : okB q l) : Int32.toInt64 (Lk_swd (Bb q l) (Bc q l)) = (2 * (Int32.toInt64 (Bb q l))) * (Int32.toInt64 (Bc q l)) := by
  have h1 := am (b18a h.2.2.1) (b18a h.2.2.2)
  have hb := b18a h.2.2.1
  have z2 : (2 : Int32).toInt = 2 := rfl
  have z3 : (2 : Int64).toInt = 2 := rfl
  have e1 : ((2 : Int32) * Bb q l).toInt = 2 * (Bb q l).toInt := by rw [i32_mul (by rw [z2]; omega), z2]
  have e2 : (Lk_swd (Bb q l) (Bc q l)).toInt = 2 * ((Bb q l).toInt * (Bc q l).toInt) := by
    unfold Lk_swd
    rw [i32_mul (by rw [e1, Int.mul_assoc]; omega), e1, Int.mul_assoc]
  have e3 : ((2 : Int64) * (Bb q l).toInt64).toInt = 2 * (Bb q l).toInt := by rw [i64_mulA (by rw [z3, Int32.toInt_toInt64]; omega), z3, Int32.toInt_toInt64]
  refine Int64.toInt_inj.mp ?_
  rw [Int32.toInt_toInt64, e2, i64_mulA (by rw [e3, Int32.toInt_toInt64, Int.mul_assoc]; omega), e3, Int32.toInt_toInt64, Int.mul_assoc]
