/-! runs -/
theorem df_T {a b : Int32} (ha : Bx a) (hb : Bx b) : (a - b).toInt = a.toInt - b.toInt ∧ (a - b).toInt.natAbs ≤ 2400 := by
  have e := i32_sub (a := a) (b := b) (by omega)
  exact ⟨e, by rw [e]; omega⟩
theorem sqs_T {d e : Int32} (hd : d.toInt.natAbs ≤ 2400) (he : e.toInt.natAbs ≤ 2400) : Int32.toInt64 (d * d + e * e) = Int32.toInt64 d * Int32.toInt64 d + Int32.toInt64 e * Int32.toInt64 e ∧ (d * d + e * e).toInt = d.toInt * d.toInt + e.toInt * e.toInt := by
  have h1 := am hd hd
  have h2 := am he he
  have n1 := sq_nn d.toInt
  have n2 := sq_nn e.toInt
  have e1 : (d * d).toInt = d.toInt * d.toInt := i32_mul (by omega)
  have e2 : (e * e).toInt = e.toInt * e.toInt := i32_mul (by omega)
  have e3 : (d * d + e * e).toInt = d.toInt * d.toInt + e.toInt * e.toInt := by rw [i32_add (by rw [e1, e2]; omega), e1, e2]
  refine ⟨?_, e3⟩
  rw [i64_of32, e3, i64_of32 d, i64_of32 e, ← Int64.ofInt_mul, ← Int64.ofInt_mul, ← Int64.ofInt_add]
theorem sq_ap {x y : Nat → Int32} {j o : Nat} (h1 : Bx (x j)) (h2 : Bx (x o)) (h3 : Bx (y j)) (h4 : Bx (y o)) : Int32.toInt64 (Cv_sq x y (x o) (y o) j) = ApM x y j o ∧ 0 ≤ (ApM x y j o).toInt ∧ (ApM x y j o).toInt ≤ 11520000 := by
  have a := df_T h1 h2
  have b := df_T h3 h4
  have s := sqs_T a.2 b.2
  have n1 := sq_nn (x j - x o).toInt
  have n2 := sq_nn (y j - y o).toInt
  have m1 := am a.2 a.2
  have m2 := am b.2 b.2
  have e : Int32.toInt64 (Cv_sq x y (x o) (y o) j) = ApM x y j o := s.1
  refine ⟨e, ?_⟩
  rw [← e]
  have e5 : (Int32.toInt64 (Cv_sq x y (x o) (y o) j)).toInt = (x j - x o).toInt * (x j - x o).toInt + (y j - y o).toInt * (y j - y o).toInt := (Int32.toInt_toInt64 _).trans s.2
  rw [e5]; omega
theorem sq_z {x y : Nat → Int32} {j o : Nat} (h1 : Bx (x j)) (h2 : Bx (x o)) (h3 : Bx (y j)) (h4 : Bx (y o)) : Int32.toInt64 (Cv_sq x y (x o) (y o) j) = 0 ↔ (x j = x o ∧ y j = y o) := by
  have a := df_T h1 h2
  have b := df_T h3 h4
  have s := sqs_T a.2 b.2
  have e5 : (Int32.toInt64 (Cv_sq x y (x o) (y o) j)).toInt = (x j - x o).toInt * (x j - x o).toInt + (y j - y o).toInt * (y j - y o).toInt := (Int32.toInt_toInt64 _).trans s.2
  have n1 := sq_nn (x j - x o).toInt
  have n2 := sq_nn (y j - y o).toInt
  rw [← Int64.toInt_inj, e5]
  have e0 : (0 : Int64).toInt = 0 := rfl
  rw [e0]
  constructor
  · intro h
    have z1 : (x j - x o).toInt * (x j - x o).toInt = 0 := by omega
    have z2 : (y j - y o).toInt * (y j - y o).toInt = 0 := by omega
    have y1 : (x j - x o).toInt = 0 := (Int.mul_eq_zero.mp z1).elim id id
    have y2 : (y j - y o).toInt = 0 := (Int.mul_eq_zero.mp z2).elim id id
    exact ⟨by rw [← Int32.toInt_inj]; omega, by rw [← Int32.toInt_inj]; omega⟩
  · rintro ⟨e1, e2⟩
    rw [e1] at a; rw [e2] at b
    have y1 : (x j - x o).toInt = 0 := by rw [e1, a.1]; omega
    have y2 : (y j - y o).toInt = 0 := by rw [e2, b.1]; omega
    rw [y1, y2]; rfl
theorem bend_0 {x y : Nat → Int32} {f t : Nat} : Cv_bend x y f t f = 0 ∧ Cv_bend x y f t t = 0 := by
  unfold Cv_bend
  constructor
  · rw [Int32.sub_self, Int32.sub_self, show Int32.toInt64 0 = 0 from rfl]; grind
  · grind
theorem hh_nn {h : Int32} (hh : 0 ≤ h ∧ h ≤ 100) : (Int32.toInt64 h * Int32.toInt64 h).toInt = h.toInt * h.toInt ∧ 0 ≤ h.toInt * h.toInt ∧ h.toInt * h.toInt ≤ 10000 := by
  have a := Int32.le_iff_toInt_le.mp hh.1
  have b := Int32.le_iff_toInt_le.mp hh.2
  have z : (0 : Int32).toInt = 0 := rfl
  have z1 : (100 : Int32).toInt = 100 := rfl
  rw [z] at a; rw [z1] at b
  have m := am (x := h.toInt) (y := h.toInt) (a := 100) (b := 100) (by omega) (by omega)
  have n := sq_nn h.toInt
  have e : h.toInt64.toInt = h.toInt := Int32.toInt_toInt64 h
  refine ⟨?_, n, by omega⟩
  rw [i64_mul (by rw [e]; omega) (by rw [e]; omega), e]
theorem far_e {x y : Nat → Int32} {h : Int32} {f t i : Nat} (xf : Bx (x f)) (xt : Bx (x t)) (xi : Bx (x i)) (yf : Bx (y f)) (yt : Bx (y t)) (yi : Bx (y i)) : farC x y h f t i ↔ farM x y h f t i := by
  unfold farC farM
  have e1 := sq_z xf xt yf yt
  have e2 := (sq_ap xi xf yi yf).1
  have e3 := (sq_ap xf xt yf yt).1
  by_cases c : x f = x t ∧ y f = y t
  · rw [if_pos (e1.mpr c), if_pos c, e2, Int64.mul_one]
  · rw [if_neg (fun z => c (e1.mp z)), if_neg c, e3]
theorem far_ends {x y : Nat → Int32} {h : Int32} {f t : Nat} (hh : 0 ≤ h ∧ h ≤ 100) (xf : Bx (x f)) (xt : Bx (x t)) (yf : Bx (y f)) (yt : Bx (y t)) : ¬ farM x y h f t f ∧ ¬ farM x y h f t t := by
  obtain ⟨b1, b2⟩ := bend_0 (x := x) (y := y) (f := f) (t := t)
  obtain ⟨h1, h2, h3⟩ := hh_nn hh
  have a0 : ∀ j, ApM x y j j = 0 := fun j => by unfold ApM; rw [Int32.sub_self, Int32.sub_self]; rfl
  have z : (0 : Int64).toInt = 0 := rfl
  have nz : ¬ Int32.toInt64 h * Int32.toInt64 h * 1 < 0 := by
    rw [Int64.mul_one, Int64.lt_iff_toInt_lt, h1, z]; omega
  have ap := sq_ap xf xt yf yt
  have mb : h.toInt * h.toInt * (ApM x y f t).toInt ≤ 10000 * 11520000 := Int.mul_le_mul h3 ap.2.2 ap.2.1 (by decide)
  have mn : 0 ≤ h.toInt * h.toInt * (ApM x y f t).toInt := Int.mul_nonneg h2 ap.2.1
  have nz2 : ¬ Int32.toInt64 h * Int32.toInt64 h * ApM x y f t < 0 * 0 := by
    rw [Int64.lt_iff_toInt_lt, i64_mul (by rw [h1]; omega) (by rw [h1]; omega), h1]
    have : ((0 : Int64) * 0).toInt = 0 := rfl
    rw [this]; omega
  unfold farM
  by_cases c : x f = x t ∧ y f = y t
  · rw [if_pos c, if_pos c, a0]
    have e : ApM x y t f = 0 := by unfold ApM; rw [c.1, c.2, Int32.sub_self, Int32.sub_self]; rfl
    rw [e]
    exact ⟨nz, nz⟩
  · rw [if_neg c, if_neg c, b1, b2]
    exact ⟨nz2, nz2⟩
theorem run_e {x y : Nat → Int32} {h : Int32} {c f t : Nat} (hh : 0 ≤ h ∧ h ≤ 100) (hx : ∀ j, j < c → Bx (x j)) (hy : ∀ j, j < c → Bx (y j)) (hf : f ≤ t) (ht : t < c) : isRn x y h f t ↔ isRm x y h f t := by
  have fe := far_ends (x := x) (y := y) hh (hx f (by omega)) (hx t ht) (hy f (by omega)) (hy t ht)
  constructor
  · intro z i h1 h2
    by_cases a : i = f
    · rw [a]; exact fe.1
    by_cases b : i = t
    · rw [b]; exact fe.2
    intro y9
    exact z i (by omega) (by omega) ((far_e (hx f (by omega)) (hx t ht) (hx i (by omega)) (hy f (by omega)) (hy t ht) (hy i (by omega))).mpr y9)
  · intro z i h1 h2 y9
    exact z i (by omega) (by omega) ((far_e (hx f (by omega)) (hx t ht) (hx i (by omega)) (hy f (by omega)) (hy t ht) (hy i (by omega))).mp y9)
theorem runOf_u {R S : Nat → Nat → Prop} {c F L F' L' : Nat} (he : ∀ F L, 0 < L → F + L ≤ c → (R F L ↔ S F L)) (h1 : RunOf R c F L) (h2 : RunOf S c F' L') : F = F' ∧ L = L' := by
  obtain ⟨a1, a2, a3, a4, a5⟩ := h1
  obtain ⟨b1, b2, b3, b4, b5⟩ := h2
  have eL : L = L' := by
    rcases Nat.lt_trichotomy L L' with z | z | z
    · exact absurd ((he F' L' b1 b2).mpr b3) (a4 L' F' z b2)
    · exact z
    · exact absurd ((he F L a1 a2).mp a3) (b4 L F z a2)
  subst eL
  refine ⟨?_, rfl⟩
  rcases Nat.lt_trichotomy F F' with z | z | z
  · exact absurd ((he F L a1 a2).mp a3) (b5 F z)
  · exact z
  · exact absurd ((he F' L b1 b2).mpr b3) (a5 F' z)
