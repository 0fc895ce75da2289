theorem i32_mul {a b : Int32} (h : (a.toInt * b.toInt).natAbs < 2 ^ 31) : (a * b).toInt = a.toInt * b.toInt := by rw [Int32.toInt_mul, Int.bmod_eq_of_le (by omega) (by omega)]
theorem i32_add {a b : Int32} (h : (a.toInt + b.toInt).natAbs < 2 ^ 31) : (a + b).toInt = a.toInt + b.toInt := by rw [Int32.toInt_add, Int.bmod_eq_of_le (by omega) (by omega)]
theorem i32_sub {a b : Int32} (h : (a.toInt - b.toInt).natAbs < 2 ^ 31) : (a - b).toInt = a.toInt - b.toInt := by rw [Int32.toInt_sub, Int.bmod_eq_of_le (by omega) (by omega)]
theorem i32_neg {a : Int32} (h : a.toInt.natAbs < 2 ^ 31) : (-a).toInt = -a.toInt := by rw [Int32.toInt_neg, Int.bmod_eq_of_le (by omega) (by omega)]
theorem unit_T {g a : Int32} (hg : b18 g.toInt) (ha : b18 a.toInt) : (Lk_unit g a).toInt = 2 * (g.toInt * a.toInt) ∧ 1 ≤ g.toInt * a.toInt ∧ g.toInt * a.toInt ≤ 324 := by
  have h1 := am (b18a hg) (b18a ha)
  have h2 : 1 * 1 ≤ g.toInt * a.toInt := Int.mul_le_mul hg.1 ha.1 (by decide) (by omega)
  have e2 : (2 : Int32).toInt = 2 := rfl
  have hgb := b18a hg
  have e3 : ((2 : Int32) * g).toInt = 2 * g.toInt := by rw [i32_mul (by rw [e2]; omega), e2]
  refine ⟨?_, by omega, by omega⟩
  unfold Lk_unit
  rw [i32_mul (by rw [e3, Int.mul_assoc]; omega), e3, Int.mul_assoc]
theorem far_T {g a b c : Int32} (hg : b18 g.toInt) (ha : b18 a.toInt) (hb : b18 b.toInt) (hc : b18 c.toInt) : (Lk_far g a b c).toInt.natAbs ≤ 2000 ∧ (Lk_near g a b c).toInt.natAbs ≤ 2000 := by
  have g2 := am (b18a hg) (b18a hg)
  have a2 := am (b18a ha) (b18a ha)
  have hgb := b18a hg; have hab := b18a ha; have hbb := b18a hb; have hcb := b18a hc
  have eg : (g * g).toInt = g.toInt * g.toInt := i32_mul (by omega)
  have ea : (a * a).toInt = a.toInt * a.toInt := i32_mul (by omega)
  have es : (g * g + a * a).toInt = g.toInt * g.toInt + a.toInt * a.toInt := by rw [i32_add (by rw [eg, ea]; omega), eg, ea]
  have ep : (b + c).toInt = b.toInt + c.toInt := i32_add (by omega)
  have em : (b - c).toInt = b.toInt - c.toInt := i32_sub (by omega)
  have p1 : (b.toInt + c.toInt).natAbs ≤ 36 := by omega
  have p2 : (b.toInt - c.toInt).natAbs ≤ 36 := by omega
  have q1 := am p1 p1
  have q2 := am p2 p2
  have eq1 : ((b + c) * (b + c)).toInt = (b.toInt + c.toInt) * (b.toInt + c.toInt) := by rw [i32_mul (by rw [ep]; omega), ep]
  have eq2 : ((b - c) * (b - c)).toInt = (b.toInt - c.toInt) * (b.toInt - c.toInt) := by rw [i32_mul (by rw [em]; omega), em]
  unfold Lk_far Lk_near
  rw [i32_sub (by rw [es, eq1]; omega), i32_sub (by rw [es, eq2]; omega), es, eq1, eq2]
  omega
theorem ab_T (x : Int32) : (Ab64 x.toInt64).toInt = (x.toInt.natAbs : Int) := by
  have h1 := x.le_toInt
  have h2 := x.toInt_lt
  have e : x.toInt64.toInt = x.toInt := Int32.toInt_toInt64 x
  unfold Ab64
  by_cases c : 0 ≤ x.toInt64
  · rw [if_pos c, e]
    have : 0 ≤ x.toInt64.toInt := (i64_zle _).mp c
    omega
  · rw [if_neg c, i64_neg (by rw [e]; omega), e]
    have : ¬ 0 ≤ x.toInt64.toInt := fun z => c ((i64_zle _).mpr z)
    omega
theorem ab_le {x y : Int32} (hy : y.toInt.natAbs < 2 ^ 31) : Ab64 x.toInt64 ≤ y.toInt64 ↔ (-y ≤ x ∧ x ≤ y) := by
  rw [Int64.le_iff_toInt_le, ab_T, Int32.toInt_toInt64, Int32.le_iff_toInt_le, Int32.le_iff_toInt_le, i32_neg hy]
  omega
theorem e_ends {q : Nat → Int32} {l : Int32} (h : okB q l) : Mk_ends q l = Lk_ends (Bg q l) (Ba q l) (Bb q l) (Bc q l) := by
  have hu := unit_T h.1 h.2.1
  unfold Mk_ends Lk_ends
  rw [e_unit, e_far, e_near]
  simp only [ab_le (show (Lk_unit (Bg q l) (Ba q l)).toInt.natAbs < 2 ^ 31 by omega)]
theorem ab32 {x : Int32} (hx : x.toInt.natAbs ≤ 40) : (if 0 ≤ x then x else 0 - x).toInt = (x.toInt.natAbs : Int) := by
  have z : (0 : Int32).toInt = 0 := rfl
  by_cases c : 0 ≤ x
  · rw [if_pos c]; have := Int32.le_iff_toInt_le.mp c; rw [z] at this; omega
  · rw [if_neg c, i32_sub (by rw [z]; omega), z]
    have : ¬ (0 : Int32).toInt ≤ x.toInt := fun y => c (Int32.le_iff_toInt_le.mpr y)
    rw [z] at this; omega
theorem tf_i {o w s t : Int32} (ho : b18 o.toInt) (hw : b18 w.toInt) (hs : b18 s.toInt) (ht : b18 t.toInt) : TF o w s t ↔ ((s.toInt - t.toInt).natAbs ≤ (o.toInt - w.toInt).natAbs ∧ o.toInt + w.toInt ≤ s.toInt + t.toInt) := by
  have e1 : (s - t).toInt = s.toInt - t.toInt := i32_sub (by omega)
  have e2 : (o - w).toInt = o.toInt - w.toInt := i32_sub (by omega)
  have e4 : (o + w).toInt = o.toInt + w.toInt := i32_add (by omega)
  have e6 : (s + t).toInt = s.toInt + t.toInt := i32_add (by omega)
  have a1 := ab32 (x := s - t) (by rw [e1]; omega)
  have a2 := ab32 (x := o - w) (by rw [e2]; omega)
  constructor
  · rintro ⟨h1, h2⟩
    have h1 := Int32.le_iff_toInt_le.mp h1
    have h2 := Int32.le_iff_toInt_le.mp h2
    rw [a1, a2, e1, e2] at h1
    rw [e4, e6] at h2
    omega
  · rintro ⟨h1, h2⟩
    refine ⟨Int32.le_iff_toInt_le.mpr ?_, Int32.le_iff_toInt_le.mpr ?_⟩
    · rw [a1, a2, e1, e2]; omega
    · rw [e4, e6]; exact h2
theorem mtf_i {o w s t : Int32} (ho : b18 o.toInt) (hw : b18 w.toInt) (hs : b18 s.toInt) (ht : b18 t.toInt) : MTF o w s t ↔ ((s.toInt - t.toInt).natAbs ≤ (o.toInt - w.toInt).natAbs ∧ o.toInt + w.toInt ≤ s.toInt + t.toInt) := by
  have e1 : (s - t).toInt = s.toInt - t.toInt := i32_sub (by omega)
  have e2 : (o - w).toInt = o.toInt - w.toInt := i32_sub (by omega)
  have e4 : (o + w).toInt = o.toInt + w.toInt := i32_add (by omega)
  have e6 : (s + t).toInt = s.toInt + t.toInt := i32_add (by omega)
  unfold MTF
  rw [Int64.le_iff_toInt_le, ab_T, ab_T, Int32.le_iff_toInt_le, e1, e2, e4, e6]
  omega
theorem e_rnd {q : Nat → Int32} {l j : Int32} (h : okB q l) (hj : 0 ≤ j ∧ j < 4) : Mk_rnd q l j ↔ Lk_rnd (Bg q l) (Ba q l) (Bb q l) (Bc q l) j := by
  obtain ⟨h1, h2, h3, h4⟩ := h
  unfold Mk_rnd Lk_rnd
  rw [mtf_i h1 h2 h3 h4, mtf_i h2 h3 h4 h1, mtf_i h3 h4 h1 h2, mtf_i h4 h1 h2 h3, tf_i h2 h1 h3 h4, tf_i h3 h2 h1 h4, tf_i h4 h3 h1 h2, tf_i h1 h4 h2 h3]
  have hj2 : j = 0 ∨ j = 1 ∨ j = 2 ∨ j = 3 := by grind
  rcases hj2 with rfl | rfl | rfl | rfl <;> simp <;> omega
