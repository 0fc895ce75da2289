/-! PAIRS: their numbers, by whole ones -/
theorem oI_le {a b : Int} (ha : a.natAbs < 2 ^ 62) (hb : b.natAbs < 2 ^ 62) : Int64.ofInt a ≤ Int64.ofInt b ↔ a ≤ b := by
  rw [Int64.le_iff_toInt_le, ofI_T (by omega) (by omega), ofI_T (by omega) (by omega)]
theorem oI_lt {a b : Int} (ha : a.natAbs < 2 ^ 62) (hb : b.natAbs < 2 ^ 62) : Int64.ofInt a < Int64.ofInt b ↔ a < b := by
  rw [Int64.lt_iff_toInt_lt, ofI_T (by omega) (by omega), ofI_T (by omega) (by omega)]
theorem nc5 {p q : Int32} (hp : p.toInt.natAbs ≤ 5) (hq : q.toInt.natAbs ≤ 5) (h0 : ¬ (p.toInt = 0 ∧ q.toInt = 0)) : ∃ n c s : Int, (p * p + q * q).toInt = n ∧ (q * q - p * p).toInt = c ∧ (2 * p * q).toInt = s ∧ 1 ≤ n ∧ n ≤ 50 ∧ c.natAbs ≤ n.natAbs ∧ s.natAbs ≤ n.natAbs := by
  have pp := am hp hp
  have qq := am hq hq
  have pq := am hp hq
  have p0 := sq_nn p.toInt
  have q0 := sq_nn q.toInt
  have e1 : (p * p).toInt = p.toInt * p.toInt := i32_mul (by omega)
  have e2 : (q * q).toInt = q.toInt * q.toInt := i32_mul (by omega)
  have t2 : (2 : Int32).toInt = 2 := rfl
  have e3 : (2 * p).toInt = 2 * p.toInt := by rw [i32_mul (by rw [t2]; omega), t2]
  have e4 : (2 * p * q).toInt = 2 * (p.toInt * q.toInt) := by rw [i32_mul (by rw [e3, Int.mul_assoc]; omega), e3, Int.mul_assoc]
  have d1 : (p.toInt - q.toInt) * (p.toInt - q.toInt) = p.toInt * p.toInt - 2 * (p.toInt * q.toInt) + q.toInt * q.toInt := by grind
  have d2 : (p.toInt + q.toInt) * (p.toInt + q.toInt) = p.toInt * p.toInt + 2 * (p.toInt * q.toInt) + q.toInt * q.toInt := by grind
  have s1 := sq_nn (p.toInt - q.toInt)
  have s2 := sq_nn (p.toInt + q.toInt)
  have n1 : 1 ≤ p.toInt * p.toInt + q.toInt * q.toInt := by
    refine Int.not_lt.mp fun z => h0 ⟨?_, ?_⟩
    · exact (Int.mul_eq_zero.mp (show p.toInt * p.toInt = 0 by omega)).elim id id
    · exact (Int.mul_eq_zero.mp (show q.toInt * q.toInt = 0 by omega)).elim id id
  refine ⟨_, _, _, i32_add (by rw [e1, e2]; omega), i32_sub (by rw [e1, e2]; omega), e4, ?_⟩
  rw [e1, e2]
  omega
abbrev okP (q : Nat → Int32) (a : Int32) : Prop := ((q (0 + Int32.toNatClampNeg a * 4 + 0)).toInt.natAbs ≤ 5 ∧ (q (0 + Int32.toNatClampNeg a * 4 + 1)).toInt.natAbs ≤ 5 ∧ ¬ ((q (0 + Int32.toNatClampNeg a * 4 + 0)).toInt = 0 ∧ (q (0 + Int32.toNatClampNeg a * 4 + 1)).toInt = 0)) ∧ (q (0 + Int32.toNatClampNeg a * 4 + 2)).toInt.natAbs ≤ 5 ∧ (q (0 + Int32.toNatClampNeg a * 4 + 3)).toInt.natAbs ≤ 5 ∧ ¬ ((q (0 + Int32.toNatClampNeg a * 4 + 2)).toInt = 0 ∧ (q (0 + Int32.toNatClampNeg a * 4 + 3)).toInt = 0)
def zA (q : Nat → Int32) (k : Nat) : Int := (Mq_by q (nI k)).toInt
def z19 (q : Nat → Int32) (k : Nat) : Int := (Mq_c0 q (nI k) * Mq_n2 q (nI k)).toInt
def z20 (q : Nat → Int32) (k : Nat) : Int := (Mq_c2 q (nI k) * Mq_n0 q (nI k)).toInt
def z21 (q : Nat → Int32) (k : Nat) : Int := (Mq_b q (nI k)).toInt
theorem pq_T {q : Nat → Int32} {k : Nat} (h : okP q (nI k)) : 1 ≤ zA q k ∧ zA q k ≤ 2500 ∧ (z19 q k).natAbs ≤ (zA q k).natAbs ∧ (z20 q k).natAbs ≤ (zA q k).natAbs ∧ (z21 q k).natAbs ≤ 2 * (zA q k).natAbs ∧ (Mq_c0 q (nI k)).toInt * (Mq_n2 q (nI k)).toInt = z19 q k ∧ (Mq_c2 q (nI k)).toInt * (Mq_n0 q (nI k)).toInt = z20 q k ∧ (-(Mq_c0 q (nI k)) * Mq_n2 q (nI k)).toInt = -z19 q k := by
  obtain ⟨⟨h1, h2, h3⟩, h4, h5, h6⟩ := h
  obtain ⟨n0, c0, s0, a1, a2, a3, a4, a5, a6, a7⟩ := nc5 h1 h2 h3
  obtain ⟨n2, c2, s2, b1, b2, b3, b4, b5, b6, b7⟩ := nc5 h4 h5 h6
  have en0 : (Mq_n0 q (nI k)).toInt = n0 := a1
  have ec0 : (Mq_c0 q (nI k)).toInt = c0 := a2
  have es0 : (Mq_s0 q (nI k)).toInt = s0 := a3
  have en2 : (Mq_n2 q (nI k)).toInt = n2 := b1
  have ec2 : (Mq_c2 q (nI k)).toInt = c2 := b2
  have es2 : (Mq_s2 q (nI k)).toInt = s2 := b3
  have m1 := am (x := n0) (y := n2) (a := 50) (b := 50) (by omega) (by omega)
  have m2 : (c0 * n2).natAbs ≤ (n0 * n2).natAbs := by rw [Int.natAbs_mul, Int.natAbs_mul]; exact Nat.mul_le_mul a6 (Nat.le_refl _)
  have m3 : (c2 * n0).natAbs ≤ (n0 * n2).natAbs := by rw [Int.natAbs_mul, Int.natAbs_mul, Nat.mul_comm]; exact Nat.mul_le_mul (Nat.le_refl _) b6
  have m4 : (c0 * c2).natAbs ≤ (n0 * n2).natAbs := by rw [Int.natAbs_mul, Int.natAbs_mul]; exact Nat.mul_le_mul a6 b6
  have m5 : (s0 * s2).natAbs ≤ (n0 * n2).natAbs := by rw [Int.natAbs_mul, Int.natAbs_mul]; exact Nat.mul_le_mul a7 b7
  have m6 : 1 * 1 ≤ n0 * n2 := Int.mul_le_mul a4 b4 (by decide) (by omega)
  have r1 : zA q k = n0 * n2 := by unfold zA Mq_by; rw [i32_mul (by rw [en0, en2]; omega), en0, en2]
  have r2 : z19 q k = c0 * n2 := by unfold z19; rw [i32_mul (by rw [ec0, en2]; omega), ec0, en2]
  have r3 : z20 q k = c2 * n0 := by unfold z20; rw [i32_mul (by rw [ec2, en0]; omega), ec2, en0]
  have r4 : (Mq_c0 q (nI k) * Mq_c2 q (nI k)).toInt = c0 * c2 := by rw [i32_mul (by rw [ec0, ec2]; omega), ec0, ec2]
  have r5 : (Mq_s0 q (nI k) * Mq_s2 q (nI k)).toInt = s0 * s2 := by rw [i32_mul (by rw [es0, es2]; omega), es0, es2]
  have r6 : z21 q k = c0 * c2 + s0 * s2 := by unfold z21 Mq_b; rw [i32_add (by rw [r4, r5]; omega), r4, r5]
  have r7 : (-(Mq_c0 q (nI k))).toInt = -c0 := by rw [i32_neg (by rw [ec0]; omega), ec0]
  have r8 : (-(Mq_c0 q (nI k)) * Mq_n2 q (nI k)).toInt = -(c0 * n2) := by rw [i32_mul (by rw [r7, en2, Int.neg_mul]; omega), r7, en2, Int.neg_mul]
  rw [r1, r2, r3, r6, ec0, en2, ec2, en0, r8]
  refine ⟨by omega, by omega, m2, m3, by omega, rfl, rfl, rfl⟩
def zW (q : Nat → Int32) (k : Nat) (g a c : Int) : Int := (((g * g + a * a) + c * c) * zA q k - 2 * g * a * z19 q k) + 2 * g * c * z20 q k - 2 * a * c * z21 q k
def zC (q : Nat → Int32) (k : Nat) (g a b c : Int) : Int := zW q k g a c - b * b * zA q k
theorem w_le {A s t u g a c : Int} (hA : 1 ≤ A) (hs : s.natAbs ≤ A.natAbs) (ht : t.natAbs ≤ A.natAbs) (hu : u.natAbs ≤ 2 * A.natAbs) (hg : b18 g) (ha : b18 a) (hc : b18 c) : ((((g * g + a * a) + c * c) * A - 2 * g * a * s) + 2 * g * c * t - 2 * a * c * u).natAbs ≤ 3564 * A.natAbs := by
  have g1 := b18a hg; have a1 := b18a ha; have c1 := b18a hc
  have gg := am g1 g1; have aa := am a1 a1; have cc := am c1 c1
  have ga := am g1 a1; have gc := am g1 c1; have ac := am a1 c1
  have x1 := am (x := (g * g + a * a) + c * c) (y := A) (a := 972) (b := A.natAbs) (by omega) (Nat.le_refl _)
  have x2 := am (x := 2 * g * a) (y := s) (a := 648) (b := A.natAbs) (by rw [Int.mul_assoc]; omega) hs
  have x3 := am (x := 2 * g * c) (y := t) (a := 648) (b := A.natAbs) (by rw [Int.mul_assoc]; omega) ht
  have x4 := am (x := 2 * a * c) (y := u) (a := 648) (b := 2 * A.natAbs) (by rw [Int.mul_assoc]; omega) hu
  omega
theorem zW_le {q : Nat → Int32} {k : Nat} {g a c : Int} (h : okP q (nI k)) (hg : b18 g) (ha : b18 a) (hc : b18 c) : (zW q k g a c).natAbs ≤ 3564 * (zA q k).natAbs := by
  obtain ⟨p1, p2, p3, p4, p5, -⟩ := pq_T h
  exact w_le p1 p3 p4 p5 hg ha hc
theorem zC_le {q : Nat → Int32} {k : Nat} {g a b c : Int} (h : okP q (nI k)) (hg : b18 g) (ha : b18 a) (hb : b18 b) (hc : b18 c) : (zC q k g a b c).natAbs ≤ 3888 * (zA q k).natAbs := by
  have w := zW_le h hg ha hc
  have bb := am (b18a hb) (b18a hb)
  have x := am (x := b * b) (y := zA q k) (a := 324) (b := (zA q k).natAbs) (by omega) (Nat.le_refl _)
  unfold zC
  omega
/-- the class's rows of pairs -/
def prR (q7 : Nat → Int32) (nr : Nat) (r19 r20 r21 r22 : Nat → Int64) : Prop := ∀ k, k < nr → r19 k = Int32.toInt64 (Mq_c0 q7 (nI k) * Mq_n2 q7 (nI k)) ∧ r20 k = Int32.toInt64 (Mq_c2 q7 (nI k) * Mq_n0 q7 (nI k)) ∧ r21 k = Int32.toInt64 (Mq_b q7 (nI k)) ∧ r22 k = Int32.toInt64 (Mq_by q7 (nI k))
theorem pw_I {q7 : Nat → Int32} {nr k : Nat} {r19 r20 r21 r22 : Nat → Int64} {g a c : Int32} (h : prR q7 nr r19 r20 r21 r22) (hk : k < nr) : Pw r19 r20 r21 r22 (Int32.toInt64 g) (Int32.toInt64 a) (Int32.toInt64 c) k = Int64.ofInt (zW q7 k g.toInt a.toInt c.toInt) := by
  obtain ⟨h1, h2, h3, h4⟩ := h k hk
  unfold Pw
  rw [h1, h2, h3, h4]
  simp only [i64_of32, lq2, ← Int64.ofInt_mul, ← Int64.ofInt_add, ← Int64.ofInt_sub]
  rfl
theorem cl_I {q7 : Nat → Int32} {k : Nat} {g a b c : Int32} (h : okP q7 (nI k)) (hg : b18 g.toInt) (ha : b18 a.toInt) (hb : b18 b.toInt) (hc : b18 c.toInt) : Mq_cl q7 (nI k) g a b c = Int64.ofInt (zC q7 k g.toInt a.toInt b.toInt c.toInt) := by
  obtain ⟨-, -, -, -, -, p6, p7, -⟩ := pq_T h
  have gg := am (b18a hg) (b18a hg); have aa := am (b18a ha) (b18a ha); have bb := am (b18a hb) (b18a hb); have cc := am (b18a hc) (b18a hc)
  have e1 : (g * g).toInt = g.toInt * g.toInt := i32_mul (by omega)
  have e2 : (a * a).toInt = a.toInt * a.toInt := i32_mul (by omega)
  have e3 : (c * c).toInt = c.toInt * c.toInt := i32_mul (by omega)
  have e4 : (b * b).toInt = b.toInt * b.toInt := i32_mul (by omega)
  have e5 : (g * g + a * a).toInt = g.toInt * g.toInt + a.toInt * a.toInt := by rw [i32_add (by rw [e1, e2]; omega), e1, e2]
  have e6 : (g * g + a * a + c * c).toInt = g.toInt * g.toInt + a.toInt * a.toInt + c.toInt * c.toInt := by rw [i32_add (by rw [e5, e3]; omega), e5, e3]
  have e7 : (g * g + a * a + c * c - b * b).toInt = g.toInt * g.toInt + a.toInt * a.toInt + c.toInt * c.toInt - b.toInt * b.toInt := by rw [i32_sub (by rw [e6, e4]; omega), e6, e4]
  unfold Mq_cl
  simp only [i64_of32, lq2, ← Int64.ofInt_mul, ← Int64.ofInt_add, ← Int64.ofInt_sub, e7]
  congr 1
  unfold zC zW
  rw [← p6, ← p7]
  show _ = _
  unfold zA z21
  generalize (Mq_by q7 (nI k)).toInt = A
  generalize (Mq_c0 q7 (nI k)).toInt = c0
  generalize (Mq_n2 q7 (nI k)).toInt = n2
  generalize (Mq_c2 q7 (nI k)).toInt = c2
  generalize (Mq_n0 q7 (nI k)).toInt = n0
  generalize (Mq_b q7 (nI k)).toInt = b0
  grind
/-! closing -/
theorem e_clos {q7 : Nat → Int32} {nr k : Nat} {r19 r20 r21 r22 : Nat → Int64} {g a b c : Int32} {lo : Int32} (h : prR q7 nr r19 r20 r21 r22) (hk : k < nr) (hP : okP q7 (nI k)) (hg : b18 g.toInt) (ha : b18 a.toInt) (hb : b18 b.toInt) (hc : b18 c.toInt) : (Pw r19 r20 r21 r22 (Int32.toInt64 g) (Int32.toInt64 a) (Int32.toInt64 c) k - Int32.toInt64 b * Int32.toInt64 b * r22 k).toInt ≠ -2 ^ 63 ∧ (r22 k).toInt ≠ -2 ^ 63 ∧ (Mq_cl q7 (nI k) g a b c).toInt ≠ -2 ^ 63 ∧ (Int32.toInt64 (Mq_by q7 (nI k))).toInt ≠ -2 ^ 63 ∧ ¬ Int32.toInt64 (Mq_by q7 (nI k)) = 0 ∧ Rd (Pw r19 r20 r21 r22 (Int32.toInt64 g) (Int32.toInt64 a) (Int32.toInt64 c) k - Int32.toInt64 b * Int32.toInt64 b * r22 k) (r22 k) lo = Mp (Mq_cl q7 (nI k) g a b c) (Int32.toInt64 (Mq_by q7 (nI k))) lo := by
  obtain ⟨p1, p2, -⟩ := pq_T hP
  have cl := zC_le hP hg ha hb hc
  have e1 : Pw r19 r20 r21 r22 (Int32.toInt64 g) (Int32.toInt64 a) (Int32.toInt64 c) k - Int32.toInt64 b * Int32.toInt64 b * r22 k = Mq_cl q7 (nI k) g a b c := by
    rw [pw_I h hk, cl_I hP hg ha hb hc, (h k hk).2.2.2]
    simp only [i64_of32, ← Int64.ofInt_mul, ← Int64.ofInt_sub]
    rfl
  have e2 : (Mq_cl q7 (nI k) g a b c).toInt ≠ -2 ^ 63 := by
    rw [cl_I hP hg ha hb hc, ofI_T (by omega) (by omega)]
    omega
  have e3 : (Int32.toInt64 (Mq_by q7 (nI k))).toInt = zA q7 k := Int32.toInt_toInt64 _
  have e4 : ¬ Int32.toInt64 (Mq_by q7 (nI k)) = 0 := by rw [i64_z, e3]; omega
  rw [e1, (h k hk).2.2.2]
  exact ⟨e2, by rw [e3]; omega, e2, by rw [e3]; omega, e4, rd_mp e2 (by rw [e3]; omega) e4⟩
