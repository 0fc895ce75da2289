/-! numbers with a root, by their common divisor -/
abbrev G3 (u v w : Int64) : Int64 := lN (Nat.gcd (lN (Nat.gcd u.toInt.natAbs v.toInt.natAbs)).toInt.natAbs w.toInt.natAbs)
theorem g3_n {u v w : Int64} (hu : u.toInt ≠ -2 ^ 63) (hv : v.toInt ≠ -2 ^ 63) : G3 u v w = lN (Nat.gcd (Nat.gcd u.toInt.natAbs v.toInt.natAbs) w.toInt.natAbs) := by
  unfold G3
  rw [lN_abs (gcd_lt hu hv)]
theorem g3_p {u v w : Int64} (hw : w.toInt ≠ -2 ^ 63) (h0 : ¬ w = 0) : 0 < Nat.gcd (Nat.gcd u.toInt.natAbs v.toInt.natAbs) w.toInt.natAbs ∧ Nat.gcd (Nat.gcd u.toInt.natAbs v.toInt.natAbs) w.toInt.natAbs < 2 ^ 63 := by
  have h1 : 0 < w.toInt.natAbs := by
    rcases Nat.eq_zero_or_pos w.toInt.natAbs with z | z
    · exact absurd (by rw [← Int64.toInt_inj]; show w.toInt = 0; omega) h0
    · exact z
  have h2 := abs_lt hw
  refine ⟨Nat.gcd_pos_of_pos_right _ h1, Nat.lt_of_le_of_lt (Nat.gcd_le_right _ h1) h2⟩
theorem g3_ne {u v w : Int64} (hu : u.toInt ≠ -2 ^ 63) (hv : v.toInt ≠ -2 ^ 63) (hw : w.toInt ≠ -2 ^ 63) (h0 : ¬ w = 0) : ¬ G3 u v w = 0 := by
  have h := g3_p (u := u) (v := v) hw h0
  rw [g3_n hu hv]
  intro z
  have e := congrArg Int64.toInt z
  rw [pk_lT h.2] at e
  have : (0 : Int64).toInt = 0 := rfl
  rw [this] at e; omega
theorem rd3_0 {u v w : Int64} (h : ¬ G3 u v w = 0) : Rd3 u v w 0 = u / G3 u v w := by unfold Rd3; rw [if_neg h, if_neg (by decide), if_pos rfl]
theorem rd3_1 {u v w : Int64} (h : ¬ G3 u v w = 0) : Rd3 u v w 1 = v / G3 u v w := by unfold Rd3; rw [if_neg h, if_neg (by decide), if_neg (by decide)]
theorem rd3_2 {u v w : Int64} (h : ¬ G3 u v w = 0) : Rd3 u v w 2 = w / G3 u v w := by unfold Rd3; rw [if_neg h, if_pos rfl]
/-- all of them times t -/
theorem sc_G {u v w u' v' w' : Int64} {t : Nat} (ht : 0 < t) (eu : u'.toInt = t * u.toInt) (ev : v'.toInt = t * v.toInt) (ew : w'.toInt = t * w.toInt) (h0 : ¬ w = 0) (hu : u.toInt ≠ -2 ^ 63) (hv : v.toInt ≠ -2 ^ 63) (hw : w.toInt ≠ -2 ^ 63) (hu' : u'.toInt ≠ -2 ^ 63) (hv' : v'.toInt ≠ -2 ^ 63) (hw' : w'.toInt ≠ -2 ^ 63) (x x' : Int64) (ex : x'.toInt = t * x.toInt) : x' / G3 u' v' w' = x / G3 u v w := by
  have h0' : ¬ w' = 0 := by
    intro z
    rw [z] at ew
    have e0 : (0 : Int64).toInt = 0 := rfl
    rw [e0] at ew
    rcases Int.mul_eq_zero.mp ew.symm with y | y
    · omega
    · exact h0 (by rw [← Int64.toInt_inj]; exact y)
  have p := g3_p (u := u) (v := v) hw h0
  have p' := g3_p (u := u') (v := v') hw' h0'
  have na : ∀ z : Int, (t * z : Int).natAbs = t * z.natAbs := fun z => by rw [Int.natAbs_mul]; rfl
  have eg : Nat.gcd (Nat.gcd u'.toInt.natAbs v'.toInt.natAbs) w'.toInt.natAbs = t * Nat.gcd (Nat.gcd u.toInt.natAbs v.toInt.natAbs) w.toInt.natAbs := by
    rw [eu, ev, ew, na, na, na, Nat.gcd_mul_left, Nat.gcd_mul_left]
  rw [g3_n hu hv, g3_n hu' hv', ← Int64.toInt_inj, i64_div (lN_pos p.1 p.2), i64_div (lN_pos p'.1 p'.2), pk_lT p.2, pk_lT p'.2, eg, ex]
  rw [show ((t * Nat.gcd (Nat.gcd u.toInt.natAbs v.toInt.natAbs) w.toInt.natAbs : Nat) : Int) = (t : Int) * (Nat.gcd (Nat.gcd u.toInt.natAbs v.toInt.natAbs) w.toInt.natAbs : Nat) from Int.natCast_mul _ _]
  exact Int.mul_tdiv_mul_of_pos _ _ (by omega)
/-! exact -/
theorem x_u0 {q : Nat → Int32} {l : Int32} {k : Nat} (h : k < 40) : Mj_u0 (Ml_c (nI k)) (Ml_s q l (nI k)) (Ml_e q l (nI k)) (Ml_x q l (nI k)) (Int32.toInt64 (Ba q l)) = 2 * Int32.toInt64 (Ba q l) * Ps_c (nI k) * Ps_s (Bg q l) (Ba q l) (nI k) + Ps_e (Bg q l) (Ba q l) (Bb q l) (Bc q l) (nI k) * Ps_x (Bg q l) (Ba q l) (nI k) := by
  unfold Mj_u0; rw [m_c k h, m_s h, m_e h, m_x h]
theorem x_u1 {q : Nat → Int32} {l : Int32} {k : Nat} (h : k < 40) : Mj_u1 (Ml_d (nI k)) (Ml_s q l (nI k)) (Ml_e q l (nI k)) (Ml_y q l (nI k)) (Int32.toInt64 (Ba q l)) = 2 * Int32.toInt64 (Ba q l) * Ps_d (nI k) * Ps_s (Bg q l) (Ba q l) (nI k) + Ps_e (Bg q l) (Ba q l) (Bb q l) (Bc q l) (nI k) * Ps_y (Ba q l) (nI k) := by
  unfold Mj_u1; rw [m_d k h, m_s h, m_e h, m_y h]
theorem x_v0 {q : Nat → Int32} {l b : Int32} {k : Nat} (h : k < 40) : Mj_v0 (Ml_y q l (nI k)) b = -(Ps_y (Ba q l) (nI k)) * Sgn b := by unfold Mj_v0; rw [tnd_s, m_y h]
theorem x_v1 {q : Nat → Int32} {l b : Int32} {k : Nat} (h : k < 40) : Mj_v1 (Ml_x q l (nI k)) b = Ps_x (Bg q l) (Ba q l) (nI k) * Sgn b := by unfold Mj_v1; rw [tnd_s, m_x h]
/-! rate: the reference's is the class's times 2 N -/
theorem cd_n : ∀ k, k < 40 → Ps_c (nI k) * Ps_c (nI k) + Ps_d (nI k) * Ps_d (nI k) = Ps_n (nI k) * Ps_n (nI k) := by decide +kernel
theorem sg_1 (b : Int32) : Sgn b * Sgn b = 1 := by unfold Sgn; split <;> rfl
theorem r_u' (a g C D N K s : Int64) (e1 : C * C + D * D = N * N) (e2 : s * s = 1) : (-2 * s) * a * (C * ((g * N - a * C) * s) - D * (-(-a * D) * s)) * K = 2 * N * (a * (a * N - g * C) * K) := by
  have h1 : (-2 * s) * a * (C * ((g * N - a * C) * s) - D * (-(-a * D) * s)) * K = (-2 * a * K) * (s * s) * (g * N * C - a * (C * C + D * D)) := by grind
  rw [h1, e1, e2]
  clear h1 e1 e2
  grind
theorem r_u {q : Nat → Int32} {l b : Int32} {k : Nat} (h : k < 40) : (-2 * Sgn b) * Int32.toInt64 (Ba q l) * (Ml_c (nI k) * Mj_v1 (Ml_x q l (nI k)) b - Ml_d (nI k) * Mj_v0 (Ml_y q l (nI k)) b) * Ml_k q l (nI k) = 2 * Ps_n (nI k) * (Int32.toInt64 (Ba q l) * (Int32.toInt64 (Ba q l) * Ps_n (nI k) - Int32.toInt64 (Bg q l) * Ps_c (nI k)) * Ps_k (Bg q l) (Ba q l) (Bb q l) (Bc q l) (nI k)) := by
  rw [x_v1 h, x_v0 h, m_c k h, m_d k h, m_k h]
  exact r_u' _ _ _ _ _ _ _ (cd_n k h) (sg_1 b)
theorem r_v {q : Nat → Int32} {l b : Int32} {k : Nat} (h : k < 40) : (-2 * Sgn b) * Int32.toInt64 (Ba q l) * (Ml_c (nI k) * Mj_u1 (Ml_d (nI k)) (Ml_s q l (nI k)) (Ml_e q l (nI k)) (Ml_y q l (nI k)) (Int32.toInt64 (Ba q l)) - Ml_d (nI k) * Mj_u0 (Ml_c (nI k)) (Ml_s q l (nI k)) (Ml_e q l (nI k)) (Ml_x q l (nI k)) (Int32.toInt64 (Ba q l))) = 2 * Ps_n (nI k) * (Int32.toInt64 (Ba q l) * Int32.toInt64 (Bg q l) * Ps_d (nI k) * Ps_e (Bg q l) (Ba q l) (Bb q l) (Bc q l) (nI k) * Sgn b) := by
  rw [x_u1 h, x_u0 h, m_c k h, m_d k h]
  unfold Ps_x Ps_y
  generalize Ps_e (Bg q l) (Ba q l) (Bb q l) (Bc q l) (nI k) = E
  generalize Ps_s (Bg q l) (Ba q l) (nI k) = S
  grind
theorem r_w {q : Nat → Int32} {l : Int32} {k : Nat} (h : k < 40) : 2 * Ml_s q l (nI k) * Ml_n (nI k) * Ml_k q l (nI k) = 2 * Ps_n (nI k) * (Ps_s (Bg q l) (Ba q l) (nI k) * Ps_k (Bg q l) (Ba q l) (Bb q l) (Bc q l) (nI k)) := by
  rw [m_s h, m_n k h, m_k h]
  grind
