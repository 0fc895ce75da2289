/-! BOUNDS: whole numbers in place of longs -/
theorem i64_of32 (x : Int32) : x.toInt64 = Int64.ofInt x.toInt := by
  apply Int64.toInt_inj.mp
  rw [Int32.toInt_toInt64, Int64.toInt_ofInt_of_le (by have := x.le_toInt; omega) (by have := x.toInt_lt; omega)]
theorem ofI_T {x : Int} (h1 : -2 ^ 63 ≤ x) (h2 : x < 2 ^ 63) : (Int64.ofInt x).toInt = x := Int64.toInt_ofInt_of_le h1 h2
theorem ofI_A {x : Int} {b : Nat} (h : x.natAbs ≤ b) (hb : b < 2 ^ 63) : (Int64.ofInt x).toInt = x := ofI_T (by omega) (by omega)
theorem am {x y : Int} {a b : Nat} (hx : x.natAbs ≤ a) (hy : y.natAbs ≤ b) : (x * y).natAbs ≤ a * b := by
  rw [Int.natAbs_mul]; exact Nat.mul_le_mul hx hy
theorem sq_le {a b : Nat} (h : a * a ≤ b * b) : a ≤ b := by
  rcases Nat.lt_or_ge b a with q | q
  · exact absurd (Nat.mul_lt_mul_of_lt_of_lt q q) (by omega)
  · exact q
theorem sq_nn (x : Int) : 0 ≤ x * x := by
  rw [← Int.natAbs_mul_self]; omega
def iP (k : Nat) : Int := (ax_tab 0 k).toInt
def iQ (k : Nat) : Int := (ax_tab 1 k).toInt
def iN (k : Nat) : Int := iP k * iP k + iQ k * iQ k
def iC (k : Nat) : Int := iQ k * iQ k - iP k * iP k
def iD (k : Nat) : Int := 2 * iP k * iQ k
def iS (g a : Int) (k : Nat) : Int := (g * g + a * a) * iN k - 2 * g * a * iC k
def iE (g a b c : Int) (k : Nat) : Int := iS g a k + (b * b - c * c) * iN k
def iK (g a b c : Int) (k : Nat) : Int := 4 * b * b * iS g a k * iN k - iE g a b c k * iE g a b c k
def iX (g a : Int) (k : Nat) : Int := g * iN k - a * iC k
def iY (a : Int) (k : Nat) : Int := -a * iD k
theorem ps_n : ∀ k, k < 40 → Ps_n (nI k) = Int64.ofInt (iN k) := by decide +kernel
theorem ps_c : ∀ k, k < 40 → Ps_c (nI k) = Int64.ofInt (iC k) := by decide +kernel
theorem ps_d : ∀ k, k < 40 → Ps_d (nI k) = Int64.ofInt (iD k) := by decide +kernel
theorem tab_ncd : ∀ k, k < 40 → 1 ≤ iN k ∧ iN k ≤ 41 ∧ (iN k).natAbs ≤ 41 ∧ (iC k).natAbs ≤ 41 ∧ (iC k).natAbs ≤ (iN k).natAbs ∧ (iD k).natAbs ≤ 41 ∧ (iD k).natAbs ≤ (iN k).natAbs ∧ iC k * iC k + iD k * iD k = iN k * iN k := by decide +kernel
theorem lq2 : (2 : Int64) = Int64.ofInt 2 := rfl
theorem lq4 : (4 : Int64) = Int64.ofInt 4 := rfl
theorem lq20 : (20 : Int64) = Int64.ofInt 20 := rfl
theorem ps_s (g a : Int32) {k : Nat} (h : k < 40) : Ps_s g a (nI k) = Int64.ofInt (iS g.toInt a.toInt k) := by
  unfold Ps_s iS
  rw [ps_n k h, ps_c k h, i64_of32, i64_of32, lq2]
  simp only [Int64.ofInt_add, Int64.ofInt_sub, Int64.ofInt_mul]
theorem ps_e (g a b c : Int32) {k : Nat} (h : k < 40) : Ps_e g a b c (nI k) = Int64.ofInt (iE g.toInt a.toInt b.toInt c.toInt k) := by
  unfold Ps_e iE
  rw [ps_s g a h, ps_n k h, i64_of32, i64_of32]
  simp only [Int64.ofInt_add, Int64.ofInt_sub, Int64.ofInt_mul]
theorem ps_k (g a b c : Int32) {k : Nat} (h : k < 40) : Ps_k g a b c (nI k) = Int64.ofInt (iK g.toInt a.toInt b.toInt c.toInt k) := by
  unfold Ps_k iK
  rw [ps_s g a h, ps_n k h, ps_e g a b c h, i64_of32, lq4]
  simp only [Int64.ofInt_add, Int64.ofInt_sub, Int64.ofInt_mul]
theorem ps_x (g a : Int32) {k : Nat} (h : k < 40) : Ps_x g a (nI k) = Int64.ofInt (iX g.toInt a.toInt k) := by
  unfold Ps_x iX
  rw [ps_n k h, ps_c k h, i64_of32, i64_of32]
  simp only [Int64.ofInt_add, Int64.ofInt_sub, Int64.ofInt_mul]
theorem ps_y (a : Int32) {k : Nat} (h : k < 40) : Ps_y a (nI k) = Int64.ofInt (iY a.toInt k) := by
  unfold Ps_y iY
  rw [ps_d k h, i64_of32]
  simp only [Int64.ofInt_neg, Int64.ofInt_mul]
/-- a bar's length -/
abbrev b18 (x : Int) : Prop := 1 ≤ x ∧ x ≤ 18
theorem b18a {x : Int} (h : b18 x) : x.natAbs ≤ 18 := by have := h.1; have := h.2; omega
theorem xy_sn {g a : Int} {k : Nat} (h : k < 40) : iX g a k * iX g a k + iY a k * iY a k = iS g a k * iN k := by
  have e := (tab_ncd k h).2.2.2.2.2.2.2
  unfold iX iY iS
  grind
theorem s_le {g a : Int} {k : Nat} (hg : b18 g) (ha : b18 a) (h : k < 40) : (iS g a k).natAbs ≤ 53136 := by
  obtain ⟨n1, n2, n3, n4, n5, n6, n7, n8⟩ := tab_ncd k h
  have h1 := am (b18a hg) (b18a hg)
  have h2 := am (b18a ha) (b18a ha)
  have h3 : (g * g + a * a).natAbs ≤ 648 := by omega
  have h4 := am h3 n3
  have h5 := am (am (show (2 : Int).natAbs ≤ 2 by decide) (b18a hg)) (b18a ha)
  have h6 := am h5 n4
  unfold iS
  omega
theorem s_nn {g a : Int} {k : Nat} (h : k < 40) : 0 ≤ iS g a k := by
  have e := xy_sn (g := g) (a := a) h
  have n1 := (tab_ncd k h).1
  have h1 := sq_nn (iX g a k)
  have h2 := sq_nn (iY a k)
  rcases Int.lt_or_le (iS g a k) 0 with q | q
  · have := Int.mul_neg_of_neg_of_pos q (show 0 < iN k by omega)
    omega
  · exact q
theorem x_le {g a : Int} {k : Nat} (hg : b18 g) (ha : b18 a) (h : k < 40) : (iX g a k).natAbs ≤ 1476 ∧ (iY a k).natAbs ≤ 738 := by
  obtain ⟨n1, n2, n3, n4, n5, n6, n7, n8⟩ := tab_ncd k h
  have h1 := am (b18a hg) n3
  have h2 := am (b18a ha) n4
  have h3 := am (show (-a).natAbs ≤ 18 by have := b18a ha; omega) n6
  unfold iX iY
  omega
theorem e_le {g a b c : Int} {k : Nat} (hg : b18 g) (ha : b18 a) (hb : b18 b) (hc : b18 c) (h : k < 40) : (iE g a b c k).natAbs ≤ 79704 := by
  obtain ⟨n1, n2, n3, n4, n5, n6, n7, n8⟩ := tab_ncd k h
  have h0 := s_le hg ha h
  have h1 := am (b18a hb) (b18a hb)
  have h2 := am (b18a hc) (b18a hc)
  have h3 : (b * b - c * c).natAbs ≤ 648 := by omega
  have h4 := am h3 n3
  unfold iE
  omega
theorem k_le {g a b c : Int} {k : Nat} (hb : b18 b) (hc : b18 c) (h : k < 40) : iK g a b c k ≤ 705858624 := by
  obtain ⟨n1, n2, n3, n4, n5, n6, n7, n8⟩ := tab_ncd k h
  have h0 := s_nn (g := g) (a := a) h
  have h1 := am (b18a hb) (b18a hb)
  have h2 := am (b18a hc) (b18a hc)
  have h3 := am (show (2 * iN k).natAbs ≤ 82 by omega) (show (b * b + c * c).natAbs ≤ 648 by omega)
  have h4 : iS g a k * (2 * iN k * (b * b + c * c)) ≤ iS g a k * 53136 := Int.mul_le_mul_of_nonneg_left (by omega) h0
  have h5 := sq_nn (iS g a k - 26568)
  have h6 := sq_nn ((b * b - c * c) * iN k)
  have e1 : iK g a b c k = iS g a k * (2 * iN k * (b * b + c * c)) - iS g a k * iS g a k - (b * b - c * c) * iN k * ((b * b - c * c) * iN k) := by unfold iK iE; grind
  have e2 : (iS g a k - 26568) * (iS g a k - 26568) = iS g a k * iS g a k - iS g a k * 53136 + 705858624 := by grind
  omega
theorem k_ge {g a b c : Int} {k : Nat} (hg : b18 g) (ha : b18 a) (hb : b18 b) (hc : b18 c) (h : k < 40) : (iK g a b c k).natAbs ≤ 10000000000 := by
  obtain ⟨n1, n2, n3, n4, n5, n6, n7, n8⟩ := tab_ncd k h
  have h1 := am (e_le hg ha hb hc h) (e_le hg ha hb hc h)
  have h2 := am (am (am (am (show (4 : Int).natAbs ≤ 4 by decide) (b18a hb)) (b18a hb)) (s_le hg ha h)) n3
  unfold iK
  omega
theorem s_or {g a : Int} {k : Nat} (hg : b18 g) (ha : b18 a) (h : k < 40) : (Int64.ofInt (iS g a k)).toInt = iS g a k := ofI_A (s_le hg ha h) (by decide)
theorem k_or {g a b c : Int} {k : Nat} (hg : b18 g) (ha : b18 a) (hb : b18 b) (hc : b18 c) (h : k < 40) : (Int64.ofInt (iK g a b c k)).toInt = iK g a b c k := ofI_A (k_ge hg ha hb hc h) (by decide)
/-- a linkage's bars are lengths -/
abbrev okB (q : Nat → Int32) (l : Int32) : Prop := b18 (Bg q l).toInt ∧ b18 (Ba q l).toInt ∧ b18 (Bb q l).toInt ∧ b18 (Bc q l).toInt
abbrev lawP (q : Nat → Int32) (l : Int32) (k : Nat) : Prop := 0 < Ps_s (Bg q l) (Ba q l) (nI k) ∧ 0 ≤ Ps_k (Bg q l) (Ba q l) (Bb q l) (Bc q l) (nI k)
theorem law_i {q : Nat → Int32} {l : Int32} {k : Nat} (hB : okB q l) (h : k < 40) : lawP q l k ↔ 0 < iS (Bg q l).toInt (Ba q l).toInt k ∧ 0 ≤ iK (Bg q l).toInt (Ba q l).toInt (Bb q l).toInt (Bc q l).toInt k := by
  obtain ⟨hg, ha, hb, hc⟩ := hB
  unfold lawP
  rw [ps_s _ _ h, ps_k _ _ _ _ h, Int64.lt_iff_toInt_lt, Int64.le_iff_toInt_le, s_or hg ha h, k_or hg ha hb hc h]
  exact Iff.rfl
/-- floors -/
theorem i64_div {a b : Int64} (hb : 0 < b.toInt) : (a / b).toInt = a.toInt.tdiv b.toInt := by
  have h1 := a.le_toInt
  have h2 := a.toInt_lt
  rw [Int64.toInt_div]
  have h3 : (a.toInt.tdiv b.toInt).natAbs ≤ a.toInt.natAbs := by
    rw [Int.natAbs_tdiv]; exact Nat.div_le_self _ _
  have h4 : a.toInt.tdiv b.toInt < 2 ^ 63 := by
    rcases Int.lt_or_le a.toInt 0 with q | q
    · have : a.toInt.tdiv b.toInt ≤ 0 := by
        have := Int.tdiv_nonneg (a := -a.toInt) (b := b.toInt) (by omega) (by omega)
        rw [Int.neg_tdiv] at this
        omega
      omega
    · omega
  exact Int.bmod_eq_of_le (by omega) (by omega)
theorem tdiv_fl {a b : Int} (hb : 0 < b) : a / b = if b * a.tdiv b = a ∨ 0 ≤ a then a.tdiv b else a.tdiv b - 1 := by
  have h1 := Int.mul_tdiv_add_tmod a b
  have h2 := Int.mul_ediv_add_emod a b
  have h3 := Int.emod_nonneg a (show b ≠ 0 by omega)
  have h4 := Int.emod_lt_of_pos a hb
  rcases Int.lt_or_le a 0 with q | q
  · have h5 : -b < a.tmod b := by have := Int.lt_tmod_of_pos a hb; omega
    have h6 : a.tmod b ≤ 0 := by
      have := Int.tmod_nonneg b (show 0 ≤ -a by omega)
      rw [Int.neg_tmod] at this
      omega
    by_cases e : b * a.tdiv b = a
    · rw [if_pos (Or.inl e)]
      have h7 : a.tdiv b * b = a := by rw [Int.mul_comm]; exact e
      conv => lhs; rw [← h7]
      exact Int.mul_ediv_cancel _ (by omega)
    · rw [if_neg (by omega)]
      have h8 : a = (a.tmod b + b) + b * (a.tdiv b - 1) := by rw [Int.mul_sub]; omega
      conv => lhs; rw [h8]
      rw [Int.add_mul_ediv_left _ _ (by omega), Int.ediv_eq_zero_of_lt (by omega) (by omega)]
      omega
  · rw [if_pos (Or.inr q), Int.tdiv_eq_ediv_of_nonneg q]
theorem nn_msb (a : Int64) : 0 ≤ a ↔ a.toBitVec.msb = false := by
  rw [Int64.le_iff_toInt_le, BitVec.msb_eq_toInt]
  show (0 : Int) ≤ a.toBitVec.toInt ↔ _
  simp
theorem xor_sg {a b : Int64} (hb : 0 < b.toInt) : 0 ≤ (a ^^^ b) ↔ 0 ≤ a := by
  have h1 : 0 ≤ b := Int64.le_iff_toInt_le.mpr (by simpa using (Int.le_of_lt hb))
  rw [nn_msb] at h1
  rw [nn_msb, nn_msb, Int64.toBitVec_xor, BitVec.msb_xor, h1]
  simp
theorem i64_zle (a : Int64) : 0 ≤ a ↔ 0 ≤ a.toInt := Int64.le_iff_toInt_le
theorem i64_zlt (a : Int64) : a < 0 ↔ a.toInt < 0 := Int64.lt_iff_toInt_lt
theorem i64_sub1 {a : Int64} (h : -2 ^ 63 < a.toInt) : (a - 1).toInt = a.toInt - 1 := by
  have h2 := a.toInt_lt
  rw [Int64.toInt_sub]
  have e : (1 : Int64).toInt = 1 := rfl
  rw [e]
  exact Int.bmod_eq_of_le (by omega) (by omega)
theorem i64_mul {a b : Int64} (h1 : -2 ^ 63 ≤ a.toInt * b.toInt) (h2 : a.toInt * b.toInt < 2 ^ 63) : (a * b).toInt = a.toInt * b.toInt := by
  rw [Int64.toInt_mul]
  exact Int.bmod_eq_of_le (by omega) (by omega)
theorem tdiv_mul_abs (a b : Int) : (a.tdiv b * b).natAbs ≤ a.natAbs := by
  rw [Int.natAbs_mul, Int.natAbs_tdiv]
  exact Nat.div_mul_le_self _ _
theorem fdv_fl {a b : Int64} (hb : 0 < b.toInt) (ha : -2 ^ 62 ≤ a.toInt) (ha2 : a.toInt < 2 ^ 62) : (Fdv a b).toInt = a.toInt / b.toInt := by
  have hd := i64_div (a := a) hb
  have h3 := tdiv_mul_abs a.toInt b.toInt
  have h4 : (a.toInt.tdiv b.toInt).natAbs ≤ a.toInt.natAbs := by
    rw [Int.natAbs_tdiv]; exact Nat.div_le_self _ _
  have hm : (a / b * b).toInt = a.toInt.tdiv b.toInt * b.toInt := by
    rw [i64_mul (by rw [hd]; omega) (by rw [hd]; omega), hd]
  have e1 : (a / b * b = a) ↔ b.toInt * a.toInt.tdiv b.toInt = a.toInt := by
    rw [← Int64.toInt_inj, hm, Int.mul_comm]
  rw [tdiv_fl hb]
  unfold Fdv
  by_cases h0 : 0 ≤ a.toInt
  · rw [if_pos ((xor_sg hb).mpr ((i64_zle a).mpr h0)), if_pos (Or.inr h0), hd]
  · rw [if_neg (fun z => h0 ((i64_zle a).mp ((xor_sg hb).mp z)))]
    by_cases h1 : b.toInt * a.toInt.tdiv b.toInt = a.toInt
    · rw [if_pos (e1.mpr h1), if_pos (Or.inl h1), hd]
    · rw [if_neg (fun z => h1 (e1.mp z)), if_neg (by omega), i64_sub1 (by rw [hd]; omega), hd]
theorem ceil_fl {a b : Int} (hb : 0 < b) : -((-a + b - 1) / b) = a / b := by
  have h2 := Int.mul_ediv_add_emod a b
  have h3 := Int.emod_nonneg a (show b ≠ 0 by omega)
  have h4 := Int.emod_lt_of_pos a hb
  have h5 : -a + b - 1 = (b - 1 - a % b) + b * (-(a / b)) := by rw [Int.mul_neg]; omega
  rw [h5, Int.add_mul_ediv_left _ _ (by omega), Int.ediv_eq_zero_of_lt (by omega) (by omega)]
  omega
theorem mfl_fl {a b : Int64} (hb : 0 < b.toInt) (hb2 : b.toInt < 2 ^ 62) (ha : -2 ^ 62 ≤ a.toInt) (ha2 : a.toInt < 2 ^ 62) : (Mfl a b).toInt = a.toInt / b.toInt := by
  unfold Mfl
  by_cases h0 : a.toInt < 0
  · rw [if_pos ((i64_zlt a).mpr h0)]
    have n1 : (-a).toInt = -a.toInt := i64_neg (by omega)
    have n2 : (-a + b).toInt = -a.toInt + b.toInt := by
      rw [Int64.toInt_add, n1]; exact Int.bmod_eq_of_le (by omega) (by omega)
    have n3 : (-a + b - 1).toInt = -a.toInt + b.toInt - 1 := by rw [i64_sub1 (by rw [n2]; omega), n2]
    have n4 := i64_div (a := -a + b - 1) hb
    rw [n3, Int.tdiv_eq_ediv_of_nonneg (by omega)] at n4
    have n5 : 0 ≤ (-a.toInt + b.toInt - 1) / b.toInt := Int.ediv_nonneg (by omega) (by omega)
    rw [i64_neg (by rw [n4]; omega), n4, ceil_fl hb]
  · rw [if_neg (fun z => h0 ((i64_zlt a).mp z)), i64_div hb, Int.tdiv_eq_ediv_of_nonneg (by omega)]
/-- both floors with a root are one -/
theorem lN_sqT {n : Nat} (h : n < 2 ^ 62) : (lN (rt n) * lN (rt n)) = lN (rt n * rt n) ∧ rt n * rt n ≤ n ∧ rt n < 2 ^ 31 := ⟨lN_mul _ _, (rt_spec (by omega)).1, rt_lt h⟩
theorem flo_eq {u v w : Int64} {N : Nat} (hN : N < 2 ^ 62) (hw : 0 < w.toInt) (hw2 : w.toInt < 2 ^ 62) (hu : -2 ^ 61 ≤ u.toInt) (hu2 : u.toInt < 2 ^ 61) :
    FlC u v w N = FlM u v w N ∧ ∃ d : Int, (d = (rt N : Int) ∨ d = -(rt N : Int) ∨ d = -(rt N : Int) - 1) ∧ (FlC u v w N).toInt = (u.toInt + d) / w.toInt := by
  obtain ⟨q1, q2, q3⟩ := lN_sqT hN
  have r1 : (lN (rt N)).toInt = (rt N : Int) := pk_lT (by omega)
  have a1 : (u + lN (rt N)).toInt = u.toInt + rt N := by
    rw [Int64.toInt_add, r1]; exact Int.bmod_eq_of_le (by omega) (by omega)
  have a2 : (u - lN (rt N)).toInt = u.toInt - rt N := by
    rw [Int64.toInt_sub, r1]; exact Int.bmod_eq_of_le (by omega) (by omega)
  have a3 : (u - lN (rt N) - 1).toInt = u.toInt - rt N - 1 := by rw [i64_sub1 (by rw [a2]; omega), a2]
  have z0 : u - lN (rt N) - 0 = u - lN (rt N) := Int64.sub_zero _
  unfold FlC FlM
  by_cases h0 : 0 ≤ v
  · rw [if_pos h0, if_neg (Int64.not_lt.mpr h0)]
    refine ⟨Int64.toInt_inj.mp ?_, rt N, Or.inl rfl, ?_⟩
    · rw [fdv_fl hw (by rw [a1]; omega) (by rw [a1]; omega), mfl_fl hw hw2 (by rw [a1]; omega) (by rw [a1]; omega)]
    · rw [fdv_fl hw (by rw [a1]; omega) (by rw [a1]; omega), a1]
  · rw [if_neg h0, if_pos (Int64.not_le.mp h0)]
    by_cases h1 : rt N * rt N = N
    · rw [if_pos (by rw [q1, h1]), if_pos (by rw [q1, h1]; exact Int64.le_refl _), z0]
      refine ⟨Int64.toInt_inj.mp ?_, -(rt N : Int), Or.inr (Or.inl rfl), ?_⟩
      · rw [fdv_fl hw (by rw [a2]; omega) (by rw [a2]; omega), mfl_fl hw hw2 (by rw [a2]; omega) (by rw [a2]; omega)]
      · rw [fdv_fl hw (by rw [a2]; omega) (by rw [a2]; omega), a2]; rfl
    · rw [if_neg (by rw [q1]; exact fun z => h1 ((pk_lEQ (by omega) (by omega)).mp z)), if_neg (by rw [q1]; exact fun z => h1 (by have := (pk_lLE (by omega) (by omega)).mp z; omega))]
      refine ⟨Int64.toInt_inj.mp ?_, -(rt N : Int) - 1, Or.inr (Or.inr rfl), ?_⟩
      · rw [fdv_fl hw (by rw [a3]; omega) (by rw [a3]; omega), mfl_fl hw hw2 (by rw [a3]; omega) (by rw [a3]; omega)]
      · rw [fdv_fl hw (by rw [a3]; omega) (by rw [a3]; omega), a3]; congr 1; omega
