/-! EQUALITIES: the class's formulas and the reference's -/
abbrev In18 (x : Int32) : Prop := 1 ≤ x ∧ x ≤ 18
abbrev Bn (q : Nat → Int32) (l : Int32) : Prop := In18 (Bg q l) ∧ In18 (Ba q l) ∧ In18 (Bb q l) ∧ In18 (Bc q l)
theorem in18_i {x : Int32} : In18 x ↔ b18 x.toInt := by
  unfold In18 b18
  rw [Int32.le_iff_toInt_le, Int32.le_iff_toInt_le]
  rfl
theorem okB_n {q : Nat → Int32} {l : Int32} : okB q l ↔ Bn q l := by
  unfold okB Bn
  rw [in18_i, in18_i, in18_i, in18_i]
theorem e_max {q : Nat → Int32} {l : Int32} (h : Bn q l) : Mk_max q l = Lk_max (Bg q l) (Ba q l) (Bb q l) (Bc q l) := by
  obtain ⟨h1, h2, h3, h4⟩ := h
  unfold Mk_max Lk_max
  grind
theorem e_all {q : Nat → Int32} {l : Int32} : Mk_all q l = Lk_all (Bg q l) (Ba q l) (Bb q l) (Bc q l) := rfl
theorem e_lw {q : Nat → Int32} {l : Int32} : q (0 + Int32.toNatClampNeg l * 4 + Int32.toNatClampNeg (Mk_least q l)) = Lk_min (Bg q l) (Ba q l) (Bb q l) (Bc q l) := by
  have k0 : Int32.toNatClampNeg 0 = 0 := rfl
  have k1 : Int32.toNatClampNeg 1 = 1 := rfl
  have k2 : Int32.toNatClampNeg 2 = 2 := rfl
  have k3 : Int32.toNatClampNeg 3 = 3 := rfl
  have e0 : q (0 + Int32.toNatClampNeg l * 4 + 0) = Bg q l := rfl
  have e1 : q (0 + Int32.toNatClampNeg l * 4 + 1) = Ba q l := rfl
  have e2 : q (0 + Int32.toNatClampNeg l * 4 + 2) = Bb q l := rfl
  have e3 : q (0 + Int32.toNatClampNeg l * 4 + 3) = Bc q l := rfl
  unfold Mk_least
  repeat' split
  all_goals (first | rw [k0, e0] | rw [k1, e1] | rw [k2, e2] | rw [k3, e3])
  all_goals (unfold Lk_min; grind)
theorem e_sums {q : Nat → Int32} {l : Int32} (h : Bn q l) : Mk_sums q l = Lk_sums (Bg q l) (Ba q l) (Bb q l) (Bc q l) := by
  unfold Mk_sums Lk_sums
  rw [e_max h, e_all, e_lw (q := q) (l := l)]
  grind
theorem e_unit {q : Nat → Int32} {l : Int32} : Mk_unit q l = Lk_unit (Bg q l) (Ba q l) := rfl
theorem e_far {q : Nat → Int32} {l : Int32} : Mk_far q l = Lk_far (Bg q l) (Ba q l) (Bb q l) (Bc q l) := rfl
theorem e_near {q : Nat → Int32} {l : Int32} : Mk_near q l = Lk_near (Bg q l) (Ba q l) (Bb q l) (Bc q l) := rfl
theorem e_lc {q : Nat → Int32} {l : Int32} : Mk_lc q l = Lk_least (Bg q l) (Ba q l) (Bb q l) (Bc q l) := by
  unfold Mk_lc Lk_least
  rw [e_unit, e_far]
  grind
theorem e_mc {q : Nat → Int32} {l : Int32} : Mk_mc q l = Lk_most (Bg q l) (Ba q l) (Bb q l) (Bc q l) := by
  unfold Mk_mc Lk_most
  rw [e_unit, e_near]
  grind
theorem e_arcs {q : Nat → Int32} {l : Int32} : Mk_arcs q l = Lk_arcs (Bg q l) (Ba q l) (Bb q l) (Bc q l) := by
  unfold Mk_arcs Lk_arcs
  rw [e_lc, e_mc, e_unit]
theorem e_w1 {q : Nat → Int32} {l : Int32} : (Ba q l = Lk_min (Bg q l) (Ba q l) (Bb q l) (Bc q l) ∧ Mk_least q l = 1) ∨ True := Or.inr trivial
/-- kinds: the sums of a grashof linkage are above nothing, so that the least is alone or told by the first of its like; the class asks the crank first -/
theorem e_least0 {q : Nat → Int32} {l : Int32} : Mk_least q l = 0 ↔ (Bg q l ≤ Ba q l ∧ Bg q l ≤ Bb q l ∧ Bg q l ≤ Bc q l) := by unfold Mk_least; grind
theorem e_least1 {q : Nat → Int32} {l : Int32} : Mk_least q l = 1 ↔ (Ba q l < Bg q l ∧ Ba q l ≤ Bb q l ∧ Ba q l ≤ Bc q l) := by unfold Mk_least; grind
theorem e_least2 {q : Nat → Int32} {l : Int32} : Mk_least q l = 2 ↔ (Bb q l < Bg q l ∧ Bb q l < Ba q l ∧ Bb q l ≤ Bc q l) := by unfold Mk_least; grind
/-! the laid numbers -/
theorem m_n : ∀ k, k < 40 → Ml_n (nI k) = Ps_n (nI k) := by decide +kernel
theorem m_c : ∀ k, k < 40 → Ml_c (nI k) = Ps_c (nI k) := by decide +kernel
theorem m_d : ∀ k, k < 40 → Ml_d (nI k) = Ps_d (nI k) := by decide +kernel
theorem m_s {q : Nat → Int32} {l : Int32} {k : Nat} (h : k < 40) : Ml_s q l (nI k) = Ps_s (Bg q l) (Ba q l) (nI k) := by unfold Ml_s Ps_s; rw [m_n k h, m_c k h]
theorem m_e {q : Nat → Int32} {l : Int32} {k : Nat} (h : k < 40) : Ml_e q l (nI k) = Ps_e (Bg q l) (Ba q l) (Bb q l) (Bc q l) (nI k) := by unfold Ml_e Ps_e; rw [m_s h, m_n k h]
theorem m_k {q : Nat → Int32} {l : Int32} {k : Nat} (h : k < 40) : Ml_k q l (nI k) = Ps_k (Bg q l) (Ba q l) (Bb q l) (Bc q l) (nI k) := by unfold Ml_k Ps_k; rw [m_s h, m_n k h, m_e h]
theorem m_x {q : Nat → Int32} {l : Int32} {k : Nat} (h : k < 40) : Ml_x q l (nI k) = Ps_x (Bg q l) (Ba q l) (nI k) := by unfold Ml_x Ps_x; rw [m_n k h, m_c k h]
theorem m_y {q : Nat → Int32} {l : Int32} {k : Nat} (h : k < 40) : Ml_y q l (nI k) = Ps_y (Ba q l) (nI k) := by unfold Ml_y Ps_y; rw [m_d k h]
theorem law_mp {q : Nat → Int32} {l : Int32} {k : Nat} (h : k < 40) : lawM q l k ↔ lawP q l k := by unfold lawM lawP; rw [m_s h, m_k h]
/-! fractions -/
theorem i64_negdiv {a g : Int64} (ha : a.toInt ≠ -2 ^ 63) (hg : 0 < g.toInt) : (-a) / g = -(a / g) := by
  have h1 := a.le_toInt
  have h2 := a.toInt_lt
  have e : (a / g).toInt = a.toInt.tdiv g.toInt := i64_div hg
  have hb : (a.toInt.tdiv g.toInt).natAbs ≤ a.toInt.natAbs := by
    rw [Int.natAbs_tdiv]; exact Nat.div_le_self _ _
  rw [← Int64.toInt_inj, i64_div hg, i64_neg ha, Int.neg_tdiv, i64_neg (by rw [e]; omega), e]
theorem lN_pos {n : Nat} (h0 : 0 < n) (h : n < 2 ^ 63) : 0 < (lN n).toInt := by rw [pk_lT h]; omega
theorem rd_mp {a b : Int64} {c : Int32} (ha : a.toInt ≠ -2 ^ 63) (hb : b.toInt ≠ -2 ^ 63) (h0 : ¬ b = 0) : Rd a b c = Mp a b c := by
  have hg := gcd_ne ha hb h0
  have hl := gcd_lt ha hb
  have hp : 0 < Nat.gcd a.toInt.natAbs b.toInt.natAbs := Nat.pos_of_ne_zero (fun z => hg (by rw [z]; rfl))
  have hG := lN_pos hp hl
  unfold Rd Mp Ab64
  rw [if_neg hg]
  by_cases c0 : c = 0
  · rw [if_pos c0, if_pos c0]
    by_cases p : 0 ≤ b
    · rw [if_pos p, if_pos p]
    · rw [if_neg p, if_neg p, i64_negdiv ha hG]
  · rw [if_neg c0, if_neg c0]
    by_cases p : 0 ≤ b
    · rw [if_pos p, if_pos p]
    · rw [if_neg p, if_neg p, i64_negdiv hb hG]
theorem e_kind0 {q : Nat → Int32} {l : Int32} (h : Bn q l) (hs : 0 < Lk_sums (Bg q l) (Ba q l) (Bb q l) (Bc q l)) : (if Ba q l = Lk_min (Bg q l) (Ba q l) (Bb q l) (Bc q l) then (0 : Int32) else (if Bg q l = Lk_min (Bg q l) (Ba q l) (Bb q l) (Bc q l) then 1 else (if Bb q l = Lk_min (Bg q l) (Ba q l) (Bb q l) (Bc q l) then 2 else 3))) = if Mk_least q l = 1 then 0 else if Mk_least q l = 0 then 1 else if Mk_least q l = 2 then 2 else 3 := by
  obtain ⟨h1, h2, h3, h4⟩ := h
  unfold Lk_sums Lk_all Lk_max Lk_min at *
  unfold Mk_least
  grind
