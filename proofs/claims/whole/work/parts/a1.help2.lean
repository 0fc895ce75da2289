/-! pairs, fit, three, walks: for the pairs of calls -/
theorem nz_zero {n : Nat} (h : n ≤ 40) : nI n = 0 ↔ ¬ 0 < nI n := by
  constructor
  · intro z; rw [z]; decide
  · intro z
    rcases Nat.eq_zero_or_pos n with y | y
    · rw [y]; rfl
    · exact absurd (nI_lt (a := 0) y (by omega)) z
theorem nz_pos {n : Nat} (h : n ≤ 40) : (¬ nI n = 0) ↔ 0 < nI n := by rw [nz_zero h, Classical.not_not]
theorem nz_le {n : Nat} (h : n ≤ 40) : nI n = 0 ↔ nI n ≤ 0 := by rw [nz_zero h, Int32.not_lt]
theorem nz_nat {n : Nat} (h : n ≤ 40) : 0 < nI n ↔ 0 < n := by
  rw [← nz_pos h]
  constructor
  · intro z
    rcases Nat.eq_zero_or_pos n with y | y
    · exact absurd (by rw [y]; rfl) z
    · exact y
  · exact fun z => nI_nz z h
theorem n3_nat {n : Nat} (h : n ≤ 40) : ¬ nI n < 3 ↔ 3 ≤ n := by
  have e : (3 : Int32) = nI 3 := rfl
  rw [e, Int32.not_lt]
  exact nI_leI (by omega) (by omega)
section THREE
variable {q7 : Nat → Int32} {nr : Nat} {r19 r20 r21 r22 q17 : Nat → Int64}
theorem rows_k (hr : prR q7 nr r19 r20 r21 r22) {k : Nat} (hk : k < nr) (hP : okP q7 (nI k)) : Int32.toInt64 (Mq_c2 q7 (nI k) * Mq_n0 q7 (nI k)) = r20 k ∧ Int32.toInt64 (-(Mq_c0 q7 (nI k)) * Mq_n2 q7 (nI k)) = -(r19 k) ∧ Int32.toInt64 (Mq_by q7 (nI k)) = r22 k ∧ Int32.toInt64 (Mq_b q7 (nI k)) = r21 k ∧ (∃ z, r20 k = Int64.ofInt z ∧ z.natAbs ≤ 5000) ∧ (∃ z, -(r19 k) = Int64.ofInt z ∧ z.natAbs ≤ 5000) ∧ (∃ z, r22 k = Int64.ofInt z ∧ z.natAbs ≤ 5000) ∧ ∃ z, r21 k = Int64.ofInt z ∧ z.natAbs ≤ 5000 := by
  obtain ⟨h1, h2, h3, h4⟩ := hr k hk
  obtain ⟨p1, p2, p3, p4, p5, p6, p7, p8⟩ := pq_T hP
  have e1 : Int32.toInt64 (-(Mq_c0 q7 (nI k)) * Mq_n2 q7 (nI k)) = -(r19 k) := by
    rw [h1, i64_of32, i64_of32, p8, ← Int64.ofInt_neg]; rfl
  refine ⟨h2.symm, e1, h4.symm, h3.symm, ⟨z20 q7 k, by rw [h2, i64_of32]; rfl, by omega⟩, ⟨-z19 q7 k, by rw [← e1, i64_of32, p8], by omega⟩, ⟨zA q7 k, by rw [h4, i64_of32]; rfl, by omega⟩, ⟨z21 q7 k, by rw [h3, i64_of32]; rfl, by omega⟩⟩
theorem rows_e (hr : prR q7 nr r19 r20 r21 r22) (h3 : 3 ≤ nr) (hP : ∀ i, i < nr → okP q7 (nI i)) : (rowsM q7 q17 0 = r20 0 ∧ rowsM q7 q17 1 = -(r19 0) ∧ rowsM q7 q17 2 = r22 0 ∧ rowsM q7 q17 3 = r21 0) ∧ (rowsM q7 q17 4 = r20 1 ∧ rowsM q7 q17 5 = -(r19 1) ∧ rowsM q7 q17 6 = r22 1 ∧ rowsM q7 q17 7 = r21 1) ∧ (rowsM q7 q17 8 = r20 2 ∧ rowsM q7 q17 9 = -(r19 2) ∧ rowsM q7 q17 10 = r22 2 ∧ rowsM q7 q17 11 = r21 2) := by
  have k0 := rows_k hr (k := 0) (by omega) (hP 0 (by omega))
  have k1 := rows_k hr (k := 1) (by omega) (hP 1 (by omega))
  have k2 := rows_k hr (k := 2) (by omega) (hP 2 (by omega))
  unfold rowsM
  exact ⟨⟨k0.1, k0.2.1, k0.2.2.1, k0.2.2.2.1⟩, ⟨k1.1, k1.2.1, k1.2.2.1, k1.2.2.2.1⟩, ⟨k2.1, k2.2.1, k2.2.2.1, k2.2.2.2.1⟩⟩
theorem d3_ne {x0 x1 x2 x3 x4 x5 x6 x7 x8 : Int64} (h0 : ∃ z, x0 = Int64.ofInt z ∧ z.natAbs ≤ 5000) (h1 : ∃ z, x1 = Int64.ofInt z ∧ z.natAbs ≤ 5000) (h2 : ∃ z, x2 = Int64.ofInt z ∧ z.natAbs ≤ 5000) (h3 : ∃ z, x3 = Int64.ofInt z ∧ z.natAbs ≤ 5000) (h4 : ∃ z, x4 = Int64.ofInt z ∧ z.natAbs ≤ 5000) (h5 : ∃ z, x5 = Int64.ofInt z ∧ z.natAbs ≤ 5000) (h6 : ∃ z, x6 = Int64.ofInt z ∧ z.natAbs ≤ 5000) (h7 : ∃ z, x7 = Int64.ofInt z ∧ z.natAbs ≤ 5000) (h8 : ∃ z, x8 = Int64.ofInt z ∧ z.natAbs ≤ 5000) : ((x0 * (x4 * x8 - x5 * x7)) - (x1 * (x3 * x8 - x5 * x6)) + (x2 * (x3 * x7 - x4 * x6))).toInt ≠ -2 ^ 63 := by
  obtain ⟨z0, rfl, b0⟩ := h0; obtain ⟨z1, rfl, b1⟩ := h1; obtain ⟨z2, rfl, b2⟩ := h2
  obtain ⟨z3, rfl, b3⟩ := h3; obtain ⟨z4, rfl, b4⟩ := h4; obtain ⟨z5, rfl, b5⟩ := h5
  obtain ⟨z6, rfl, b6⟩ := h6; obtain ⟨z7, rfl, b7⟩ := h7; obtain ⟨z8, rfl, b8⟩ := h8
  simp only [← Int64.ofInt_mul, ← Int64.ofInt_sub, ← Int64.ofInt_add]
  have m : (z0 * (z4 * z8 - z5 * z7) - z1 * (z3 * z8 - z5 * z6) + z2 * (z3 * z7 - z4 * z6)).natAbs ≤ 1000000000000 := na_add (na_sub (am b0 (na_sub (am b4 b8) (am b5 b7) (Nat.le_refl _))) (am b1 (na_sub (am b3 b8) (am b5 b6) (Nat.le_refl _))) (Nat.le_refl _)) (am b2 (na_sub (am b3 b7) (am b4 b6) (Nat.le_refl _))) (by decide)
  rw [ofI_A m (by decide)]
  generalize z0 * (z4 * z8 - z5 * z7) - z1 * (z3 * z8 - z5 * z6) + z2 * (z3 * z7 - z4 * z6) = Z at *
  omega
theorem det_e (hr : prR q7 nr r19 r20 r21 r22) (h3 : 3 ≤ nr) (hP : ∀ i, i < nr → okP q7 (nI i)) : Mq_m012 (rowsM q7 q17) = Dt_m r19 r20 r22 ∧ Mq_m312 (rowsM q7 q17) = Dt_0 r19 r21 r22 ∧ Mq_m032 (rowsM q7 q17) = Dt_1 r20 r21 r22 ∧ Mq_m013 (rowsM q7 q17) = Dt_2 r19 r20 r21 := by
  obtain ⟨⟨a0, a1, a2, a3⟩, ⟨a4, a5, a6, a7⟩, a8, a9, a10, a11⟩ := rows_e (q17 := q17) hr h3 hP
  unfold Mq_m012 Mq_m312 Mq_m032 Mq_m013
  rw [a0, a1, a2, a3, a4, a5, a6, a7, a8, a9, a10, a11]
  exact ⟨rfl, rfl, rfl, rfl⟩
theorem det_ne (hr : prR q7 nr r19 r20 r21 r22) (h3 : 3 ≤ nr) (hP : ∀ i, i < nr → okP q7 (nI i)) : (Dt_m r19 r20 r22).toInt ≠ -2 ^ 63 ∧ (Dt_0 r19 r21 r22).toInt ≠ -2 ^ 63 ∧ (Dt_1 r20 r21 r22).toInt ≠ -2 ^ 63 ∧ (Dt_2 r19 r20 r21).toInt ≠ -2 ^ 63 := by
  obtain ⟨-, -, -, -, a0, a1, a2, a3⟩ := rows_k hr (k := 0) (by omega) (hP 0 (by omega))
  obtain ⟨-, -, -, -, c0, c1, c2, c3⟩ := rows_k hr (k := 1) (by omega) (hP 1 (by omega))
  obtain ⟨-, -, -, -, e0, e1, e2, e3⟩ := rows_k hr (k := 2) (by omega) (hP 2 (by omega))
  exact ⟨d3_ne a0 a1 a2 c0 c1 c2 e0 e1 e2, d3_ne a3 a1 a2 c3 c1 c2 e3 e1 e2, d3_ne a0 a3 a2 c0 c3 c2 e0 e3 e2, d3_ne a0 a1 a3 c0 c1 c3 e0 e1 e3⟩
end THREE
theorem fit_use {nl nt np nr : Nat} {r5 r6 q4 q5 q6 q7 : Nat → Int32} {r19 r20 r21 r22 : Nat → Int64} {un : Int64} (hD : DkR nl nt np nr r5 r6 q4 q5 q6 q7) (h0 : 0 < nl) (hn : 0 < nr) (hr : prR q7 nr r19 r20 r21 r22) (hu : un = Int64.ofInt (zU q7 nr)) (x y : Nat → Int64) (c1 c2 c3 : Int32) (fu fd : Int64) (q16 : Nat → Int32) {s : Int32 × Int32 × Int32 × Int64} (hs : s = (FB r19 r20 r21 r22 x y nr un (r5 (0 + 0 * 4 + 0)) c1 c2 c3).2.2) :
    (s.1 = (Fi q4 q7 nr fu fd q16).2.2.2 0 ∧ s.2.1 = (Fi q4 q7 nr fu fd q16).2.2.2 1 ∧ s.2.2.1 = (Fi q4 q7 nr fu fd q16).2.2.2 2) ∧ (s.2.2.2.toInt ≠ -2 ^ 63 ∧ un.toInt ≠ -2 ^ 63 ∧ (Fi q4 q7 nr fu fd q16).2.1.toInt ≠ -2 ^ 63 ∧ (Fi q4 q7 nr fu fd q16).2.2.1.toInt ≠ -2 ^ 63 ∧ ¬ (Fi q4 q7 nr fu fd q16).2.2.1 = 0) ∧ ∀ lo, Rd s.2.2.2 un lo = Mp (Fi q4 q7 nr fu fd q16).2.1 (Fi q4 q7 nr fu fd q16).2.2.1 lo := by
  have b0 := hD.2.2.1 0 0 h0 (by decide)
  have ub := zU_b hD.2.1.2.2.2 hD.2.2.2.2.2.2
  have rel := fit_rel (q4 := q4) x y c1 c2 c3 fu fd q16 hD.2.1.2.2.2 hn hD.2.2.2.2.2.2 hr hu b0.2
  have z := fi_0 (q4 := q4) (q := q7) (n := nr) fu fd q16
  have e0 : r5 (0 + 0 * 4 + 0) = q4 (0 + 0 * 4 + 0) := b0.1
  rw [← e0, ← hs] at rel
  rcases rel with ⟨-, a⟩ | ⟨-, a2, a3, a4, G, X, d, a5, a6, a7, g0, g1, y0, y1, w0, w1, ey⟩
  · rw [z] at a; exact absurd a (by decide)
  · refine ⟨⟨a2, a3, a4⟩, ?_, fun lo => ?_⟩
    · rw [a5, a6, a7, hu, i64_z, ofI_T (by omega) (by omega), ofI_T (by omega) (by omega), ofI_T (by omega) (by omega), ofI_T (by omega) (by omega)]
      omega
    · rw [a5, a6, a7, hu]
      exact mp_frac ⟨g0, by omega⟩ ⟨ub.1, by omega⟩ ⟨y0, by omega⟩ ⟨w0, by omega⟩ ey
/-! walks -/
theorem goF_cong {ok ok' : Nat → Bool} {f : Nat → Nat} (hf : ∀ a, a < 40 → f a < 40) (h : ∀ k, k < 40 → ok k = ok' k) : ∀ n a, a < 40 → goF ok f n a = goF ok' f n a
  | 0, a, _ => rfl
  | n + 1, a, ha => by
    have e := h (f a) (hf a ha)
    by_cases q : ok (f a) = true
    · rw [goF_t q, goF_t (e ▸ q), goF_cong hf h n (f a) (hf a ha)]
    · rw [goF_f q, goF_f (e ▸ q)]
theorem st0 {s k : Int64} : Ps_state s k = 0 ↔ ¬ (0 < s ∧ 0 ≤ k) := by
  unfold Ps_state
  by_cases c : 0 < s ∧ 0 ≤ k
  · rw [if_pos c]
    by_cases d : k = 0
    · rw [if_pos d]; exact ⟨fun z => absurd z (by decide), fun z => absurd c z⟩
    · rw [if_neg d]; exact ⟨fun z => absurd z (by decide), fun z => absurd c z⟩
  · rw [if_neg c]; exact ⟨fun _ => c, fun _ => rfl⟩
theorem st2 {s k : Int64} : Ps_state s k = 2 ↔ ((0 < s ∧ 0 ≤ k) ∧ k = 0) := by
  unfold Ps_state
  by_cases c : 0 < s ∧ 0 ≤ k
  · rw [if_pos c]
    by_cases d : k = 0
    · rw [if_pos d]; exact ⟨fun _ => ⟨c, d⟩, fun _ => rfl⟩
    · rw [if_neg d]; exact ⟨fun z => absurd z (by decide), fun z => absurd z.2 d⟩
  · rw [if_neg c]; exact ⟨fun z => absurd z (by decide), fun z => absurd z.1 c⟩
section WALKS
variable {nl nt np nr wa wb : Nat} {r5 r6 q4 q5 q6 q7 r26 : Nat → Int32} {wl : Int32}
theorem wk_0 (hD : DkR nl nt np nr r5 r6 q4 q5 q6 q7) (hK : WkR nl wa wb wl r5 r26) (on : ¬ wl = -1) {k : Nat} (hk : k < 40) : (¬ r26 k = 0) ↔ lawM q4 wl k := by
  obtain ⟨h1, h2⟩ := hK.2.2 on
  rw [h2 k hk, st_e hD h1, law_mp hk]
  unfold stA
  rw [st0, Classical.not_not]
theorem wk_2 (hD : DkR nl nt np nr r5 r6 q4 q5 q6 q7) (hK : WkR nl wa wb wl r5 r26) (on : ¬ wl = -1) {k : Nat} (hk : k < 40) : r26 k = 2 ↔ (lawM q4 wl k ∧ Ml_k q4 wl (nI k) = 0) := by
  obtain ⟨h1, h2⟩ := hK.2.2 on
  rw [h2 k hk, st_e hD h1, law_mp hk, m_k hk]
  unfold stA
  rw [st2]
theorem wk_go (hD : DkR nl nt np nr r5 r6 q4 q5 q6 q7) (hK : WkR nl wa wb wl r5 r26) (on : ¬ wl = -1) {f : Nat → Nat} (hf : ∀ a, a < 40 → f a < 40) (n : Nat) : goF (fun j => !decide (r26 j = 0)) f n wa = goF (fun j => decide (0 < Ml_s q4 wl (nI j) ∧ 0 ≤ Ml_k q4 wl (nI j))) f n wa := by
  refine goF_cong hf (fun k hk => ?_) n wa hK.1
  have w := wk_0 hD hK on hk
  by_cases c : r26 k = 0
  · have : ¬ lawM q4 wl k := fun z => w.mpr z c
    simp [c, this]
  · have := w.mp c
    simp [c, this]
end WALKS
theorem dk_l4 {nl nt np nr : Nat} {r5 r6 q4 q5 q6 q7 : Nat → Int32} (h : DkR nl nt np nr r5 r6 q4 q5 q6 q7) : nl ≤ 40 := Nat.le_trans h.2.1.1 (by decide)
theorem dk_t4 {nl nt np nr : Nat} {r5 r6 q4 q5 q6 q7 : Nat → Int32} (h : DkR nl nt np nr r5 r6 q4 q5 q6 q7) : nt ≤ 40 := Nat.le_trans h.2.1.2.1 (by decide)
theorem dk_p8 {nl nt np nr : Nat} {r5 r6 q4 q5 q6 q7 : Nat → Int32} (h : DkR nl nt np nr r5 r6 q4 q5 q6 q7) : np ≤ 40 := Nat.le_trans h.2.1.2.2.1 (by decide)
theorem dk_r4 {nl nt np nr : Nat} {r5 r6 q4 q5 q6 q7 : Nat → Int32} (h : DkR nl nt np nr r5 r6 q4 q5 q6 q7) : nr ≤ 40 := Nat.le_trans h.2.1.2.2.2 (by decide)
theorem prb_0 {a b c : Int32} : Pr_bar a b c 0 = a := by unfold Pr_bar; rw [if_pos rfl]
theorem prb_1 {a b c : Int32} : Pr_bar a b c 1 = b := by unfold Pr_bar; rw [if_neg (by decide), if_pos rfl]
theorem prb_2 {a b c : Int32} : Pr_bar a b c 2 = c := by unfold Pr_bar; rw [if_neg (by decide), if_neg (by decide)]
theorem clamp_0 : Int32.toNatClampNeg 0 = 0 := rfl
theorem clamp_1 : Int32.toNatClampNeg 1 = 1 := rfl
theorem clamp_2 : Int32.toNatClampNeg 2 = 2 := rfl
theorem eta4 {A B C D : Type} (s : A × B × C × D) : (s.1, s.2.1, s.2.2.1, s.2.2.2) = s := rfl
