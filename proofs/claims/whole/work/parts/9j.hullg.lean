/-! THE HULL, geometry: ways to the right, by their slopes -/
def Cr (ux uy vx vy : Int) : Int := ux * vy - uy * vx
def Lp (ux uy : Int) : Prop := 0 < ux ∨ (ux = 0 ∧ 0 < uy)
theorem lp_x {ux uy : Int} (h : Lp ux uy) : 0 ≤ ux := by rcases h with h | h <;> omega
theorem lp_y {ux uy : Int} (h : Lp ux uy) (z : ux = 0) : 0 < uy := by rcases h with h | h <;> omega
theorem cr_id (ux uy vx vy wx wy : Int) : Cr ux uy wx wy * vx = Cr vx vy wx wy * ux + Cr ux uy vx vy * wx := by
  unfold Cr
  grind
theorem cr_tr {ux uy vx vy wx wy : Int} (hu : Lp ux uy) (hv : Lp vx vy) (hw : Lp wx wy) (h1 : 0 ≤ Cr ux uy vx vy) (h2 : 0 ≤ Cr vx vy wx wy) : 0 ≤ Cr ux uy wx wy ∧ ((0 < Cr ux uy vx vy ∨ 0 < Cr vx vy wx wy) → 0 < Cr ux uy wx wy) := by
  have u0 := lp_x hu
  have w0 := lp_x hw
  rcases hv with hv | ⟨hv0, hv1⟩
  · have ide := cr_id ux uy vx vy wx wy
    have t1 := Int.mul_nonneg h2 u0
    have t2 := Int.mul_nonneg h1 w0
    constructor
    · refine Int.not_lt.mp fun z => ?_
      have := Int.mul_neg_of_neg_of_pos z hv
      omega
    · intro s
      refine Int.not_le.mp fun z => ?_
      have t3 := Int.mul_nonpos_of_nonpos_of_nonneg z (Int.le_of_lt hv)
      have e1 : Cr vx vy wx wy * ux = 0 := by omega
      have e2 : Cr ux uy vx vy * wx = 0 := by omega
      have nux : ¬ ux = 0 := by
        intro zz
        have t4 := Int.mul_pos (lp_y hu zz) hv
        unfold Cr at h1
        rw [zz] at h1
        omega
      have c1 : Cr vx vy wx wy = 0 := (Int.mul_eq_zero.mp e1).resolve_right nux
      have c2 : 0 < Cr ux uy vx vy := by rcases s with q | q <;> omega
      have w00 : wx = 0 := (Int.mul_eq_zero.mp e2).resolve_left (by omega)
      have t5 := Int.mul_pos hv (lp_y hw w00)
      unfold Cr at c1
      rw [w00] at c1
      omega
  · have w00 : wx = 0 := by
      rcases Int.lt_or_eq_of_le w0 with q | q
      · have := Int.mul_pos hv1 q
        unfold Cr at h2
        rw [hv0] at h2
        omega
      · exact q.symm
    have wy0 := lp_y hw w00
    unfold Cr at *
    subst hv0 w00
    constructor
    · have := Int.mul_nonneg u0 (Int.le_of_lt wy0); omega
    · intro s
      have ux0 : 0 < ux := by
        rcases Int.lt_or_eq_of_le u0 with q | q
        · exact q
        · rw [← q] at s; omega
      have := Int.mul_pos ux0 wy0
      omega
/-! points -/
def hB (X Y : Nat → Int) (a b c : Nat) : Int := (X b - X a) * (Y c - Y a) - (Y b - Y a) * (X c - X a)
def hL (X Y : Nat → Int) (a b : Nat) : Prop := X a < X b ∨ (X a = X b ∧ Y a < Y b)
theorem hL_p {X Y : Nat → Int} {a b : Nat} (h : hL X Y a b) : Lp (X b - X a) (Y b - Y a) := by
  rcases h with h | h
  · exact Or.inl (by omega)
  · exact Or.inr ⟨by omega, by omega⟩
theorem hL_tr {X Y : Nat → Int} {a b c : Nat} (h1 : hL X Y a b) (h2 : hL X Y b c) : hL X Y a c := by
  unfold hL at *
  omega
theorem hL_ne {X Y : Nat → Int} {a b : Nat} (h : hL X Y a b) : ¬ (X a = X b ∧ Y a = Y b) := by
  unfold hL at h
  omega
theorem hL_neg {X Y : Nat → Int} {a b : Nat} : hL (fun j => -X j) (fun j => -Y j) a b ↔ hL X Y b a := by
  unfold hL
  simp only
  omega
theorem hB_neg {X Y : Nat → Int} {a b c : Nat} : hB (fun j => -X j) (fun j => -Y j) a b c = hB X Y a b c := by
  unfold hB
  simp only
  grind
theorem hB_0 {X Y : Nat → Int} {a b : Nat} : hB X Y a b a = 0 ∧ hB X Y a b b = 0 := by
  unfold hB
  constructor
  · rw [Int.sub_self, Int.sub_self]; omega
  · grind
theorem k_1 {X Y : Nat → Int} {a b c : Nat} : Cr (X b - X a) (Y b - Y a) (X c - X b) (Y c - Y b) = hB X Y a b c := by unfold Cr hB; grind
theorem k_2 {X Y : Nat → Int} {a b m : Nat} : Cr (X b - X m) (Y b - Y m) (X b - X a) (Y b - Y a) = hB X Y a b m := by unfold Cr hB; grind
theorem k_3 {X Y : Nat → Int} {b c m : Nat} : Cr (X b - X m) (Y b - Y m) (X c - X b) (Y c - Y b) = hB X Y b c m := by unfold Cr hB; grind
theorem k_4 {X Y : Nat → Int} {a b p : Nat} : Cr (X p - X a) (Y p - Y a) (X b - X a) (Y b - Y a) = -hB X Y a b p := by unfold Cr hB; grind
theorem k_5 {X Y : Nat → Int} {a b p : Nat} : Cr (X p - X b) (Y p - Y b) (X p - X a) (Y p - Y a) = -hB X Y a b p := by unfold Cr hB; grind
theorem hG {X Y : Nat → Int} {a b c m : Nat} (h1 : hL X Y a b) (h2 : hL X Y b c) (h3 : hL X Y b m) (h4 : 0 < hB X Y a b c) (h5 : 0 ≤ hB X Y b c m) : 0 < hB X Y a b m := by
  have t := cr_tr (hL_p h1) (hL_p h2) (hL_p h3) (by rw [k_1]; omega) h5
  rw [k_1, k_1] at t
  exact t.2 (Or.inl h4)
theorem hG' {X Y : Nat → Int} {a b c m : Nat} (h1 : hL X Y a b) (h2 : hL X Y b c) (h3 : hL X Y m b) (h4 : 0 < hB X Y a b c) (h5 : 0 ≤ hB X Y a b m) : 0 < hB X Y b c m := by
  have t := cr_tr (hL_p h3) (hL_p h1) (hL_p h2) (by rw [k_2]; omega) (by rw [k_1]; omega)
  have r := t.2 (Or.inr (by rw [k_1]; exact h4))
  rw [k_3] at r
  exact r
theorem hP1 {X Y : Nat → Int} {a b m p : Nat} (h1 : hL X Y a b) (h2 : hL X Y b p) (h3 : hL X Y a m) (h4 : 0 ≤ hB X Y a b m) (h5 : hB X Y a b p ≤ 0) : 0 ≤ hB X Y a p m := by
  have t := cr_tr (hL_p (hL_tr h1 h2)) (hL_p h1) (hL_p h3) (by rw [k_4]; omega) h4
  exact t.1
theorem hP2 {X Y : Nat → Int} {a b m p : Nat} (h1 : hL X Y a b) (h2 : hL X Y b p) (h3 : m = p ∨ hL X Y m p) (h4 : 0 ≤ hB X Y b p m) (h5 : hB X Y a b p ≤ 0) : 0 ≤ hB X Y a p m := by
  rcases h3 with rfl | h3
  · rw [hB_0.2]; omega
  · have t := cr_tr (hL_p h3) (hL_p h2) (hL_p (hL_tr h1 h2)) (by rw [k_2]; exact h4) (by rw [k_5]; omega)
    rw [k_2, k_2] at t
    exact t.1
/-! a row of points to the right, and the corners that are kept of it -/
def hC (X Y : Nat → Int) (e : Nat → Nat) (q K : Nat) (ch : Nat → Nat) (m : Nat) : Prop :=
  e m = ch q ∨ ∃ j, q ≤ j ∧ j + 1 < K ∧ hL X Y (ch j) (e m) ∧ (e m = ch (j + 1) ∨ hL X Y (e m) (ch (j + 1))) ∧ 0 ≤ hB X Y (ch j) (ch (j + 1)) (e m)
def hV (X Y : Nat → Int) (e : Nat → Nat) (q K : Nat) (ch : Nat → Nat) (p m : Nat) : Prop :=
  hC X Y e q K ch m ∨ (hL X Y (ch (K - 1)) (e m) ∧ (e m = p ∨ hL X Y (e m) p) ∧ 0 ≤ hB X Y (ch (K - 1)) p (e m))
def hI (X Y : Nat → Int) (e : Nat → Nat) (q i K : Nat) (ch : Nat → Nat) : Prop :=
  q < K ∧ ch q = e 0 ∧ (∀ j, q ≤ j → j + 1 < K → hL X Y (ch j) (ch (j + 1))) ∧ (∀ j, q ≤ j → j + 2 < K → 0 < hB X Y (ch j) (ch (j + 1)) (ch (j + 2))) ∧ ∀ j, q ≤ j → j < K → ∃ m, m ≤ i ∧ ch j = e m
theorem hu_pop {X Y : Nat → Int} {e ch : Nat → Nat} {q i K p : Nat} (hp : ∀ m, m ≤ i → hL X Y (e m) p) (hK : q + 2 ≤ K) (hi : hI X Y e q i K ch) (hv : ∀ m, m ≤ i → hV X Y e q K ch p m) (hb : hB X Y (ch (K - 2)) (ch (K - 1)) p ≤ 0) : hI X Y e q i (K - 1) ch ∧ ∀ m, m ≤ i → hV X Y e q (K - 1) ch p m := by
  obtain ⟨h1, h2, h3, h4, h5⟩ := hi
  have eK : K - 2 + 1 = K - 1 := by omega
  have e2 : K - 1 - 1 = K - 2 := by omega
  have l1 : hL X Y (ch (K - 2)) (ch (K - 1)) := by
    have := h3 (K - 2) (by omega) (by omega)
    rw [eK] at this; exact this
  have l2 : hL X Y (ch (K - 1)) p := by
    obtain ⟨m, a, b⟩ := h5 (K - 1) (by omega) (by omega)
    rw [b]; exact hp m a
  refine ⟨⟨by omega, h2, fun j a b => h3 j a (by omega), fun j a b => h4 j a (by omega), fun j a b => h5 j a (by omega)⟩, fun m hm => ?_⟩
  unfold hV
  rw [e2]
  rcases hv m hm with (z | ⟨j, a, b, c, d, f⟩) | ⟨a, b, c⟩
  · exact Or.inl (Or.inl z)
  · by_cases hj : j + 1 < K - 1
    · exact Or.inl (Or.inr ⟨j, a, hj, c, d, f⟩)
    · have ej : j = K - 2 := by omega
      subst ej
      rw [eK] at d f
      refine Or.inr ⟨c, ?_, hP1 l1 l2 c f hb⟩
      rcases d with d | d
      · rw [d]; exact Or.inr l2
      · exact Or.inr (hL_tr d l2)
  · exact Or.inr ⟨hL_tr l1 a, b, hP2 l1 l2 b c hb⟩
theorem hu_dn {X Y : Nat → Int} {x y : Nat → Int32} {e ch : Nat → Nat} {q i p c : Nat} (hbr : ∀ i j k, i < c → j < c → k < c → (Cv_bend x y i j k ≤ 0 ↔ hB X Y i j k ≤ 0)) (hec : ∀ m, m ≤ i → e m < c) (hpc : p < c) (hp : ∀ m, m ≤ i → hL X Y (e m) p) : ∀ K, hI X Y e q i K ch → (∀ m, m ≤ i → hV X Y e q K ch p m) → hI X Y e q i (dnw (pcP x y p q ch) K) ch ∧ (∀ m, m ≤ i → hV X Y e q (dnw (pcP x y p q ch) K) ch p m) ∧ (dnw (pcP x y p q ch) K = q + 1 ∨ 0 < hB X Y (ch (dnw (pcP x y p q ch) K - 2)) (ch (dnw (pcP x y p q ch) K - 1)) p)
  | 0, hi, _ => absurd hi.1 (by omega)
  | a + 1, hi, hv => by
    by_cases c1 : pcP x y p q ch a = true
    · rw [dnw_t c1]
      have c2 : q + 2 ≤ a + 1 ∧ Cv_bend x y (ch (a + 1 - 2)) (ch (a + 1 - 1)) p ≤ 0 := of_decide_eq_true c1
      obtain ⟨m1, a1, b1⟩ := hi.2.2.2.2 (a + 1 - 2) (by omega) (by omega)
      obtain ⟨m2, a2, b2⟩ := hi.2.2.2.2 (a + 1 - 1) (by omega) (by omega)
      have r := hu_pop hp c2.1 hi hv ((hbr _ _ _ (by rw [b1]; exact hec m1 a1) (by rw [b2]; exact hec m2 a2) hpc).mp c2.2)
      exact hu_dn hbr hec hpc hp a r.1 r.2
    · rw [dnw_f c1]
      refine ⟨hi, hv, ?_⟩
      by_cases c3 : a + 1 = q + 1
      · exact Or.inl c3
      · refine Or.inr ?_
        have hq := hi.1
        obtain ⟨m1, a1, b1⟩ := hi.2.2.2.2 (a + 1 - 2) (by omega) (by omega)
        obtain ⟨m2, a2, b2⟩ := hi.2.2.2.2 (a + 1 - 1) (by omega) (by omega)
        refine Int.not_le.mp fun z => c1 (pcP_t (by omega) ((hbr _ _ _ (by rw [b1]; exact hec m1 a1) (by rw [b2]; exact hec m2 a2) hpc).mpr z))
theorem uN_ne {f : Nat → Nat} {k x j : Nat} (h : ¬ j = k) : updN f k x j = f j := by unfold updN; rw [if_neg h]
theorem uN_eq {f : Nat → Nat} {k x : Nat} : updN f k x k = x := by unfold updN; rw [if_pos rfl]
def hS (X Y : Nat → Int) (e : Nat → Nat) (q i : Nat) (s : Nat × (Nat → Nat)) : Prop := hI X Y e q i s.1 s.2 ∧ s.2 (s.1 - 1) = e i ∧ ∀ m, m ≤ i → hC X Y e q s.1 s.2 m
theorem hu_put {X Y : Nat → Int} {x y : Nat → Int32} {e : Nat → Nat} {q i c : Nat} {s : Nat × (Nat → Nat)} (hbr : ∀ i j k, i < c → j < c → k < c → (Cv_bend x y i j k ≤ 0 ↔ hB X Y i j k ≤ 0)) (hec : ∀ m, m ≤ i + 1 → e m < c) (hp : ∀ m, m ≤ i → hL X Y (e m) (e (i + 1))) (h : hS X Y e q i s) : hS X Y e q (i + 1) (pcS x y (e (i + 1)) q s) ∧ ∀ j, j ≤ q → (pcS x y (e (i + 1)) q s).2 j = s.2 j := by
  obtain ⟨K, ch⟩ := s
  obtain ⟨h1, h2, h3⟩ := h
  obtain ⟨⟨g1, g2, g3, g4, g5⟩, gv, gb⟩ := hu_dn (x := x) (y := y) (e := e) (ch := ch) (q := q) (i := i) (p := e (i + 1)) hbr (fun m hm => hec m (by omega)) (hec (i + 1) (Nat.le_refl _)) hp K h1 (fun m hm => Or.inl (h3 m hm))
  unfold pcS
  simp only
  generalize dnw (pcP x y (e (i + 1)) q ch) K = D at *
  have lt : hL X Y (ch (D - 1)) (e (i + 1)) := by
    obtain ⟨m, a, b⟩ := g5 (D - 1) (by omega) (by omega)
    rw [b]; exact hp m a
  have u1 : ∀ j, j < D → updN ch D (e (i + 1)) j = ch j := fun j hj => uN_ne (by omega)
  refine ⟨⟨⟨by simp only; omega, ?_, ?_, ?_, ?_⟩, ?_, ?_⟩, fun j hj => u1 j (by omega)⟩
  · simp only; rw [u1 q g1]; exact g2
  · intro j a b
    simp only at b ⊢
    rw [u1 j (by omega)]
    by_cases cj : j + 1 < D
    · rw [u1 (j + 1) cj]; exact g3 j a cj
    · have ej : j + 1 = D := by omega
      rw [ej, uN_eq, show j = D - 1 by omega]; exact lt
  · intro j a b
    simp only at b ⊢
    rw [u1 j (by omega), u1 (j + 1) (by omega)]
    by_cases cj : j + 2 < D
    · rw [u1 (j + 2) cj]; exact g4 j a cj
    · have ej : j + 2 = D := by omega
      rw [ej, uN_eq]
      have := gb.resolve_left (by omega)
      rw [show D - 2 = j by omega, show D - 1 = j + 1 by omega] at this
      exact this
  · intro j a b
    simp only at b ⊢
    by_cases cj : j < D
    · rw [u1 j cj]
      obtain ⟨m, a, b⟩ := g5 j a cj
      exact ⟨m, by omega, b⟩
    · rw [show j = D by omega, uN_eq]
      exact ⟨i + 1, Nat.le_refl _, rfl⟩
  · simp only
    rw [Nat.add_sub_cancel, uN_eq]
  · intro m hm
    simp only
    unfold hC
    rw [u1 q g1]
    have edge : hL X Y (ch (D - 1)) (e m) → (e m = e (i + 1) ∨ hL X Y (e m) (e (i + 1))) → 0 ≤ hB X Y (ch (D - 1)) (e (i + 1)) (e m) → ∃ j, q ≤ j ∧ j + 1 < D + 1 ∧ hL X Y (updN ch D (e (i + 1)) j) (e m) ∧ (e m = updN ch D (e (i + 1)) (j + 1) ∨ hL X Y (e m) (updN ch D (e (i + 1)) (j + 1))) ∧ 0 ≤ hB X Y (updN ch D (e (i + 1)) j) (updN ch D (e (i + 1)) (j + 1)) (e m) := by
      intro a b d
      refine ⟨D - 1, by omega, by omega, ?_⟩
      rw [show D - 1 + 1 = D by omega, uN_eq, u1 (D - 1) (by omega)]
      exact ⟨a, b, d⟩
    by_cases cm : m = i + 1
    · subst cm
      exact Or.inr (edge lt (Or.inl rfl) (by rw [hB_0.2]; omega))
    · rcases gv m (by omega) with (z | ⟨j, a, b, d, f, g⟩) | ⟨a, b, d⟩
      · exact Or.inl z
      · refine Or.inr ⟨j, a, by omega, ?_⟩
        rw [u1 j (by omega), u1 (j + 1) (by omega)]
        exact ⟨d, f, g⟩
      · exact Or.inr (edge a b d)
/-! all points are left of a way between two corners, or between them -/
section HULLG
variable {X Y : Nat → Int} {ch : Nat → Nat} {q K v : Nat}
theorem hu_up (h3 : ∀ j, q ≤ j → j + 1 < K → hL X Y (ch j) (ch (j + 1))) (h4 : ∀ j, q ≤ j → j + 2 < K → 0 < hB X Y (ch j) (ch (j + 1)) (ch (j + 2))) {l : Nat} (hl : q ≤ l) (a : hL X Y v (ch (l + 1))) (b : 0 ≤ hB X Y (ch l) (ch (l + 1)) v) : ∀ d, l + d + 2 < K → hL X Y v (ch (l + d + 1)) ∧ 0 < hB X Y (ch (l + d + 1)) (ch (l + d + 2)) v
  | 0, hd => ⟨a, hG' (h3 l hl (by omega)) (h3 (l + 1) (by omega) (by omega)) a (h4 l hl (by omega)) b⟩
  | d + 1, hd => by
    obtain ⟨i1, i2⟩ := hu_up h3 h4 hl a b d (by omega)
    have i3 := hL_tr i1 (h3 (l + d + 1) (by omega) (by omega))
    have e1 : l + (d + 1) + 1 = l + d + 1 + 1 := by omega
    have e2 : l + (d + 1) + 2 = l + d + 1 + 2 := by omega
    rw [e1, e2]
    exact ⟨i3, hG' (h3 (l + d + 1) (by omega) (by omega)) (h3 (l + d + 1 + 1) (by omega) (by omega)) i3 (h4 (l + d + 1) (by omega) (by omega)) (Int.le_of_lt i2)⟩
theorem hu_do (h3 : ∀ j, q ≤ j → j + 1 < K → hL X Y (ch j) (ch (j + 1))) (h4 : ∀ j, q ≤ j → j + 2 < K → 0 < hB X Y (ch j) (ch (j + 1)) (ch (j + 2))) {l : Nat} (hl : l + 1 < K) (a : hL X Y (ch l) v) (b : 0 ≤ hB X Y (ch l) (ch (l + 1)) v) : ∀ d, q + d + 1 ≤ l → hL X Y (ch (l - d)) v ∧ 0 < hB X Y (ch (l - d - 1)) (ch (l - d)) v
  | 0, hd => by
    have t := h4 (l - 1) (by omega) (by omega)
    have t3 := h3 (l - 1) (by omega) (by omega)
    rw [show l - 1 + 1 = l by omega] at t t3
    rw [show l - 1 + 2 = l + 1 by omega] at t
    rw [Nat.sub_zero]
    exact ⟨a, hG t3 (h3 l (by omega) hl) a t b⟩
  | d + 1, hd => by
    obtain ⟨i1, i2⟩ := hu_do h3 h4 hl a b d (by omega)
    have t := h4 (l - (d + 1) - 1) (by omega) (by omega)
    have t3 := h3 (l - (d + 1) - 1) (by omega) (by omega)
    have t5 := h3 (l - (d + 1)) (by omega) (by omega)
    rw [show l - (d + 1) - 1 + 1 = l - (d + 1) by omega] at t t3
    rw [show l - (d + 1) - 1 + 2 = l - d by omega] at t
    rw [show l - (d + 1) + 1 = l - d by omega] at t5
    rw [show l - d - 1 = l - (d + 1) by omega] at i2
    have i3 := hL_tr t5 i1
    exact ⟨i3, hG t3 t5 i3 t (Int.le_of_lt i2)⟩
theorem hu_all {e : Nat → Nat} {i m j : Nat} (hi : hI X Y e q i K ch) (hc : hC X Y e q K ch m) (hj : q ≤ j) (hjK : j + 1 < K) : e m = ch j ∨ 0 < hB X Y (ch j) (ch (j + 1)) (e m) ∨ (hB X Y (ch j) (ch (j + 1)) (e m) = 0 ∧ hL X Y (ch j) (e m) ∧ (e m = ch (j + 1) ∨ hL X Y (e m) (ch (j + 1)))) := by
  obtain ⟨h1, h2, h3, h4, h5⟩ := hi
  have up : ∀ l, q ≤ l → l < j → hL X Y (e m) (ch (l + 1)) → 0 ≤ hB X Y (ch l) (ch (l + 1)) (e m) → 0 < hB X Y (ch j) (ch (j + 1)) (e m) := by
    intro l a b c d
    have := (hu_up h3 h4 a c d (j - l - 1) (by omega)).2
    rw [show l + (j - l - 1) + 1 = j by omega, show l + (j - l - 1) + 2 = j + 1 by omega] at this
    exact this
  have own : ∀ l, q ≤ l → l < j → e m = ch l → 0 < hB X Y (ch j) (ch (j + 1)) (e m) := fun l a b z => up l a b (by rw [z]; exact h3 l a (by omega)) (by rw [z, hB_0.1]; omega)
  rcases hc with z | ⟨l, a, b, c, d, f⟩
  · by_cases cq : j = q
    · exact Or.inl (by rw [cq]; exact z)
    · exact Or.inr (Or.inl (own q (Nat.le_refl q) (by omega) z))
  · rcases Nat.lt_trichotomy l j with t | t | t
    · rcases d with d | d
      · by_cases cj : l + 1 = j
        · exact Or.inl (by rw [← cj]; exact d)
        · exact Or.inr (Or.inl (own (l + 1) (by omega) (by omega) d))
      · exact Or.inr (Or.inl (up l a t d f))
    · subst t
      rcases Int.lt_or_eq_of_le f with g | g
      · exact Or.inr (Or.inl g)
      · exact Or.inr (Or.inr ⟨g.symm, c, d⟩)
    · refine Or.inr (Or.inl ?_)
      have := (hu_do h3 h4 b c f (l - j - 1) (by omega)).2
      rw [show l - (l - j - 1) - 1 = j by omega, show l - (l - j - 1) = j + 1 by omega] at this
      exact this
/-- corners of a row are apart -/
theorem hu_inc (h3 : ∀ j, q ≤ j → j + 1 < K → hL X Y (ch j) (ch (j + 1))) {i : Nat} (hi : q ≤ i) : ∀ d, i + d + 1 < K → hL X Y (ch i) (ch (i + d + 1))
  | 0, h => h3 i hi h
  | d + 1, h => hL_tr (hu_inc h3 hi d (by omega)) (h3 (i + d + 1) (by omega) (by omega))
end HULLG
/-- a corner of the lower row isn't one of the upper row -/
theorem hu_two {X Y : Nat → Int} {v a b a' b' : Nat} (h1 : hL X Y a v) (h2 : hL X Y v b) (h3 : hL X Y v a') (h4 : hL X Y b' v) (l : 0 < hB X Y a v b) (u : 0 < hB X Y a' v b') (s1 : 0 ≤ hB X Y v b' a) (s2 : 0 ≤ hB X Y a' v b) : False := by
  have e2 : Cr (X b - X v) (Y b - Y v) (X a' - X v) (Y a' - Y v) = hB X Y a' v b := by unfold Cr hB; grind
  have e3 : Cr (X a' - X v) (Y a' - Y v) (X v - X b') (Y v - Y b') = hB X Y a' v b' := by unfold Cr hB; grind
  have e4 : Cr (X v - X b') (Y v - Y b') (X v - X a) (Y v - Y a) = hB X Y v b' a := by unfold Cr hB; grind
  have t1 := (cr_tr (hL_p h1) (hL_p h2) (hL_p h3) (by rw [k_1]; omega) (by rw [e2]; exact s2)).2 (Or.inl (by rw [k_1]; exact l))
  have t2 := (cr_tr (hL_p h1) (hL_p h3) (hL_p h4) (by omega) (by rw [e3]; omega)).2 (Or.inl t1)
  have t3 := (cr_tr (hL_p h1) (hL_p h4) (hL_p h1) (by omega) (by rw [e4]; exact s1)).2 (Or.inl t2)
  unfold Cr at t3
  have : (X v - X a) * (Y v - Y a) = (Y v - Y a) * (X v - X a) := Int.mul_comm _ _
  omega
