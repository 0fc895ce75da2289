/-! FIT: the least of the greatest -/
def zU (q : Nat → Int32) : Nat → Int
  | 0 => 1
  | n + 1 => zU q n * zA q n
theorem zU_le {q : Nat → Int32} : ∀ n, (∀ k, k < n → 1 ≤ zA q k ∧ zA q k ≤ 2500) → 1 ≤ zU q n ∧ zU q n ≤ 2500 ^ n
  | 0, _ => ⟨by show (1 : Int) ≤ 1; omega, by show (1 : Int) ≤ 2500 ^ 0; decide⟩
  | n + 1, h => by
    obtain ⟨a, b⟩ := zU_le n (fun k hk => h k (by omega))
    obtain ⟨c, d⟩ := h n (by omega)
    have h1 : 1 * 1 ≤ zU q n * zA q n := Int.mul_le_mul a c (by decide) (by omega)
    have h2 : zU q n * zA q n ≤ 2500 ^ n * 2500 := Int.mul_le_mul b d (by omega) (by omega)
    refine ⟨by show 1 ≤ zU q n * zA q n; omega, ?_⟩
    show zU q n * zA q n ≤ 2500 ^ (n + 1)
    rw [Int.pow_succ]; exact h2
theorem zU_b {q : Nat → Int32} {n : Nat} (hn : n ≤ 4) (h : ∀ k, k < n → okP q (nI k)) : 1 ≤ zU q n ∧ zU q n ≤ 39062500000000 := by
  obtain ⟨a, b⟩ := zU_le (q := q) n (fun k hk => ⟨(pq_T (h k hk)).1, (pq_T (h k hk)).2.1⟩)
  refine ⟨a, Int.le_trans b ?_⟩
  have : n = 0 ∨ n = 1 ∨ n = 2 ∨ n = 3 ∨ n = 4 := by omega
  rcases this with rfl | rfl | rfl | rfl | rfl <;> decide
theorem zU_dv {q : Nat → Int32} : ∀ n k, k < n → ∃ T, zU q n = zA q k * T
  | 0, k, h => absurd h (by omega)
  | n + 1, k, h => by
    by_cases e : k = n
    · rw [e]; exact ⟨zU q n, Int.mul_comm _ _⟩
    · obtain ⟨T, hT⟩ := zU_dv n k (by omega)
      refine ⟨T * zA q n, ?_⟩
      show zU q n * zA q n = _
      rw [hT, Int.mul_assoc]
/-- U by A -/
def zT (q : Nat → Int32) (n k : Nat) : Int := zU q n / zA q k
theorem zT_ok {q : Nat → Int32} {n k : Nat} (hn : n ≤ 4) (h : ∀ k, k < n → okP q (nI k)) (hk : k < n) : zU q n = zA q k * zT q n k ∧ 1 ≤ zT q n k ∧ (zU q n).tdiv (zA q k) = zT q n k := by
  obtain ⟨T, hT⟩ := zU_dv (q := q) n k hk
  have u := zU_b hn h
  have a := (pq_T (h k hk)).1
  have e1 : zT q n k = T := by unfold zT; rw [hT]; exact Int.mul_ediv_cancel_left T (by omega)
  have e2 : (zU q n).tdiv (zA q k) = T := by rw [hT]; exact Int.mul_tdiv_cancel_left T (by omega)
  rw [e1, e2]
  refine ⟨hT, ?_, rfl⟩
  refine Int.not_lt.mp fun z => ?_
  have := Int.mul_nonpos_of_nonneg_of_nonpos (a := zA q k) (b := T) (by omega) (by omega)
  omega
def zV (q : Nat → Int32) (n k : Nat) (g a c : Int) : Int := zW q k g a c * zT q n k
theorem zV_le {q : Nat → Int32} {n k : Nat} {g a c : Int} (hn : n ≤ 4) (h : ∀ k, k < n → okP q (nI k)) (hk : k < n) (hg : b18 g) (ha : b18 a) (hc : b18 c) : (zV q n k g a c).natAbs ≤ 3564 * (zU q n).natAbs := by
  obtain ⟨t1, t2, -⟩ := zT_ok hn h hk
  have w := zW_le (h k hk) hg ha hc
  have x := Nat.mul_le_mul w (Nat.le_refl (zT q n k).natAbs)
  unfold zV
  rw [Int.natAbs_mul, t1, Int.natAbs_mul, ← Nat.mul_assoc]
  exact x
theorem v_I {q : Nat → Int32} {n k : Nat} {r19 r20 r21 r22 : Nat → Int64} {g a c : Int32} {u : Int64} (hn : n ≤ 4) (h : ∀ k, k < n → okP q (nI k)) (hk : k < n) (hr : prR q n r19 r20 r21 r22) (hu : u = Int64.ofInt (zU q n)) : ¬ r22 k ≤ 0 ∧ Pw r19 r20 r21 r22 (Int32.toInt64 g) (Int32.toInt64 a) (Int32.toInt64 c) k * (u / r22 k) = Int64.ofInt (zV q n k g.toInt a.toInt c.toInt) := by
  obtain ⟨t1, t2, t3⟩ := zT_ok hn h hk
  have ub := zU_b hn h
  obtain ⟨p1, p2, -⟩ := pq_T (h k hk)
  have e1 : (r22 k).toInt = zA q k := by rw [(hr k hk).2.2.2]; exact Int32.toInt_toInt64 _
  have tb : zT q n k ≤ zU q n := by
    have : 1 * zT q n k ≤ zA q k * zT q n k := Int.mul_le_mul_of_nonneg_right p1 (by omega)
    omega
  have e2 : u / r22 k = Int64.ofInt (zT q n k) := by
    rw [← Int64.toInt_inj, i64_div (by rw [e1]; omega), e1, hu, ofI_T (by omega) (by omega), t3, ofI_T (by omega) (by omega)]
  refine ⟨?_, ?_⟩
  · rw [Int64.le_iff_toInt_le, e1]
    have z : (0 : Int64).toInt = 0 := rfl
    rw [z]; omega
  · rw [pw_I hr hk, e2, ← Int64.ofInt_mul]
    rfl
/-! least and greatest of a row -/
def isMn (f : Nat → Int) (n : Nat) (m : Int) : Prop := (∃ i, i < n ∧ m = f i) ∧ ∀ i, i < n → m ≤ f i
def isMx (f : Nat → Int) (n : Nat) (m : Int) : Prop := (∃ i, i < n ∧ m = f i) ∧ ∀ i, i < n → f i ≤ m
theorem mn_0 {f : Nat → Int} : isMn f 1 (f 0) ∧ isMx f 1 (f 0) := ⟨⟨⟨0, by omega, rfl⟩, fun i hi => by rw [show i = 0 by omega]; omega⟩, ⟨0, by omega, rfl⟩, fun i hi => by rw [show i = 0 by omega]; omega⟩
theorem mn_s {f : Nat → Int} {n : Nat} {m : Int} (h : isMn f n m) : isMn f (n + 1) (if f n < m then f n else m) := by
  obtain ⟨⟨i, h1, h2⟩, h3⟩ := h
  by_cases c : f n < m
  · rw [if_pos c]
    refine ⟨⟨n, by omega, rfl⟩, fun j hj => ?_⟩
    by_cases e : j = n
    · rw [e]; omega
    · have := h3 j (by omega); omega
  · rw [if_neg c]
    refine ⟨⟨i, by omega, h2⟩, fun j hj => ?_⟩
    by_cases e : j = n
    · rw [e]; omega
    · exact h3 j (by omega)
theorem mx_s {f : Nat → Int} {n : Nat} {m : Int} (h : isMx f n m) : isMx f (n + 1) (if f n < m then m else f n) := by
  obtain ⟨⟨i, h1, h2⟩, h3⟩ := h
  by_cases c : f n < m
  · rw [if_pos c]
    refine ⟨⟨i, by omega, h2⟩, fun j hj => ?_⟩
    by_cases e : j = n
    · rw [e]; omega
    · exact h3 j (by omega)
  · rw [if_neg c]
    refine ⟨⟨n, by omega, rfl⟩, fun j hj => ?_⟩
    by_cases e : j = n
    · rw [e]; omega
    · have := h3 j (by omega); omega
theorem vu_eq {f : Nat → Int64} {k : Nat} {x : Int64} : vp_updL f k x k = x := by unfold vp_updL; rw [if_pos rfl]
theorem vu_ne {f : Nat → Int64} {k j : Nat} {x : Int64} (h : ¬ j = k) : vp_updL f k x j = f j := by unfold vp_updL; rw [if_neg h]
theorem vu_vu {f : Nat → Int64} {k : Nat} {x z : Int64} : vp_updL (vp_updL f k x) k z = vp_updL f k z := by
  funext j
  unfold vp_updL
  split <;> rfl
section FITS
variable {q : Nat → Int32} {n : Nat} {r19 r20 r21 r22 : Nat → Int64} {u : Int64} {g a : Int32}
theorem fbI_ok {j : Nat} (lo hi : Nat → Int64) (hn : n ≤ 4) (h0 : 0 < n) (h : ∀ k, k < n → okP q (nI k)) (hr : prR q n r19 r20 r21 r22) (hu : u = Int64.ofInt (zU q n)) (hg : b18 g.toInt) (ha : b18 a.toInt) (hj : b18 (nI j).toInt) : ∃ m M : Int, itr (fun k s => lp_fbI_st u r19 r20 r21 r22 a g j k s.1 s.2) n 0 (lo, hi) = (vp_updL lo j (Int64.ofInt m), vp_updL hi j (Int64.ofInt M)) ∧ isMn (fun k => zV q n k g.toInt a.toInt (nI j).toInt) n m ∧ isMx (fun k => zV q n k g.toInt a.toInt (nI j).toInt) n M := by
  have ub := zU_b hn h
  have key := itr_inv' (fun k (s : (Nat → Int64) × (Nat → Int64)) => (k = 0 ∧ s = (lo, hi)) ∨ (0 < k ∧ ∃ m M : Int, s = (vp_updL lo j (Int64.ofInt m), vp_updL hi j (Int64.ofInt M)) ∧ isMn (fun k => zV q n k g.toInt a.toInt (nI j).toInt) k m ∧ isMx (fun k => zV q n k g.toInt a.toInt (nI j).toInt) k M)) (fun k s => lp_fbI_st u r19 r20 r21 r22 a g j k s.1 s.2) n 0 (lo, hi) (Or.inl ⟨rfl, rfl⟩) (fun k s h1 h2 hs => by
    refine Or.inr ⟨by omega, ?_⟩
    have hk : k < n := by omega
    obtain ⟨v1, v2⟩ := v_I (g := g) (a := a) (c := nI j) hn h hk hr hu
    have vb := zV_le hn h hk hg ha hj
    unfold lp_fbI_st
    rw [if_neg v1, v2]
    rcases hs with ⟨rfl, rfl⟩ | ⟨k0, m, M, rfl, hm, hM⟩
    · rw [if_pos (show nI 0 = 0 from rfl)]
      exact ⟨_, _, rfl, mn_0.1, mn_0.2⟩
    · have nk : ¬ nI k = 0 := fun z => by have := (nI_eq (a := k) (b := 0) (by omega) (by omega)).mp z; omega
      rw [if_neg nk]
      simp only
      rw [vu_eq, vu_eq, vu_vu, vu_vu]
      have mb : m.natAbs ≤ 3564 * (zU q n).natAbs := by
        obtain ⟨i, a1, a2⟩ := hm.1
        rw [a2]; exact zV_le hn h (by omega) hg ha hj
      have Mb : M.natAbs ≤ 3564 * (zU q n).natAbs := by
        obtain ⟨i, a1, a2⟩ := hM.1
        rw [a2]; exact zV_le hn h (by omega) hg ha hj
      refine ⟨_, _, ?_, mn_s hm, mx_s hM⟩
      congr 2
      · by_cases c : zV q n k g.toInt a.toInt (nI j).toInt < m
        · rw [if_pos c, if_pos ((oI_lt (by omega) (by omega)).mpr c)]
        · rw [if_neg c, if_neg (fun z => c ((oI_lt (by omega) (by omega)).mp z))]
      · by_cases c : zV q n k g.toInt a.toInt (nI j).toInt < M
        · rw [if_pos c, if_pos ((oI_lt (by omega) (by omega)).mpr c)]
        · rw [if_neg c, if_neg (fun z => c ((oI_lt (by omega) (by omega)).mp z))])
  rw [Nat.zero_add] at key
  rcases key with z | z
  · omega
  · exact z.2
theorem n18 : ∀ j, j < 19 → 1 ≤ j → b18 (nI j).toInt ∧ (nI j).toInt = j ∧ (nI j * nI j).toInt = j * j := by decide +kernel
theorem bd_ok (lo hi : Nat → Int64) (hn : n ≤ 4) (h0 : 0 < n) (h : ∀ k, k < n → okP q (nI k)) (hr : prR q n r19 r20 r21 r22) (hu : u = Int64.ofInt (zU q n)) (hg : b18 g.toInt) (ha : b18 a.toInt) (j : Nat) (h1 : 1 ≤ j) (h2 : j < 19) : ∃ m M : Int, (Bd u r19 r20 r21 r22 lo hi g a n).1 j = Int64.ofInt m ∧ (Bd u r19 r20 r21 r22 lo hi g a n).2 j = Int64.ofInt M ∧ isMn (fun k => zV q n k g.toInt a.toInt (nI j).toInt) n m ∧ isMx (fun k => zV q n k g.toInt a.toInt (nI j).toInt) n M := by
  have key := itr_inv' (fun k (s : (Nat → Int64) × (Nat → Int64)) => ∀ j, 1 ≤ j → j < k → ∃ m M : Int, s.1 j = Int64.ofInt m ∧ s.2 j = Int64.ofInt M ∧ isMn (fun k => zV q n k g.toInt a.toInt (nI j).toInt) n m ∧ isMx (fun k => zV q n k g.toInt a.toInt (nI j).toInt) n M) (fun j s => lp_fbO_st u r19 r20 r21 r22 a g n j s.1 s.2) 18 1 (lo, hi) (fun j h1 h2 => absurd h2 (by omega)) (fun k s h1 h2 hs j h3 h4 => by
    obtain ⟨m, M, e, e1, e2⟩ := fbI_ok (j := k) s.1 s.2 hn h0 h hr hu hg ha (n18 k (by omega) h1).1
    unfold lp_fbO_st
    rw [e]
    simp only
    by_cases c : j = k
    · subst c
      rw [vu_eq, vu_eq]
      exact ⟨m, M, rfl, rfl, e1, e2⟩
    · rw [vu_ne c, vu_ne c]
      exact hs j h3 (by omega))
  exact key j h1 (by omega)
end FITS
/-- by how much the worst pair is missed, times U -/
def isG (q : Nat → Int32) (n : Nat) (g a b c : Int) (G : Int) : Prop := isMx (fun k => ((zC q k g a b c).natAbs : Int) * zT q n k) n G
theorem g_of {q : Nat → Int32} {n : Nat} {g a b c m M : Int} (hn : n ≤ 4) (h : ∀ k, k < n → okP q (nI k)) (hm : isMn (fun k => zV q n k g a c) n m) (hM : isMx (fun k => zV q n k g a c) n M) : isG q n g a b c (if b * b * zU q n - m < M - b * b * zU q n then M - b * b * zU q n else b * b * zU q n - m) := by
  have e : ∀ k, k < n → zV q n k g a c - b * b * zU q n = zC q k g a b c * zT q n k := by
    intro k hk
    unfold zV zC
    rw [(zT_ok hn h hk).1, Int.sub_mul, Int.mul_assoc (b * b)]
  have t : ∀ k, k < n → ((zC q k g a b c).natAbs : Int) * zT q n k = ((zV q n k g a c - b * b * zU q n).natAbs : Int) := by
    intro k hk
    rw [e k hk, Int.natAbs_mul, Int.natCast_mul]
    have := (zT_ok hn h hk).2.1
    rw [Int.natAbs_of_nonneg (a := zT q n k) (by omega)]
  obtain ⟨⟨i, i1, i2⟩, i3⟩ := hm
  obtain ⟨⟨j, j1, j2⟩, j3⟩ := hM
  simp only at i2 i3 j2 j3
  have a1 := i3 j j1
  have a2 := j3 i i1
  refine ⟨?_, fun k hk => ?_⟩
  · by_cases cc : b * b * zU q n - m < M - b * b * zU q n
    · rw [if_pos cc]
      refine ⟨j, j1, ?_⟩
      show _ = ((zC q j g a b c).natAbs : Int) * zT q n j
      rw [t j j1, ← j2]; omega
    · rw [if_neg cc]
      refine ⟨i, i1, ?_⟩
      show _ = ((zC q i g a b c).natAbs : Int) * zT q n i
      rw [t i i1, ← i2]; omega
  · show ((zC q k g a b c).natAbs : Int) * zT q n k ≤ _
    rw [t k hk]
    have b1 := i3 k hk
    have b2 := j3 k hk
    split <;> omega
/-- the reference's worst of three bars -/
theorem wo_ok {q4 q : Nat → Int32} {n : Nat} {a b c : Int32} (hn : n ≤ 4) (h : ∀ k, k < n → okP q (nI k)) (hg : b18 (q4 (0 + 0 * 4 + 0)).toInt) (ha : b18 a.toInt) (hb : b18 b.toInt) (hc : b18 c.toInt) {G : Int} (h0 : 0 < n) (hG : isG q n (q4 (0 + 0 * 4 + 0)).toInt a.toInt b.toInt c.toInt G) : ∃ x d : Int, Wo q4 q n a b c = (Int64.ofInt x, Int64.ofInt d) ∧ 0 ≤ x ∧ x ≤ 9720000 ∧ 1 ≤ d ∧ d ≤ 2500 ∧ x * zU q n = G * d := by
  have bd : ∀ k, k < n → 1 ≤ zA q k ∧ zA q k ≤ 2500 ∧ (zC q k (q4 (0 + 0 * 4 + 0)).toInt a.toInt b.toInt c.toInt).natAbs ≤ 9720000 := by
    intro k hk
    have p := pq_T (h k hk)
    have cl := zC_le (h k hk) hg ha hb hc
    exact ⟨p.1, p.2.1, by have := p.1; have := p.2.1; omega⟩
  have key := itr_inv' (fun k (s : Int64 × Int64) => ∃ x d : Int, s = (Int64.ofInt x, Int64.ofInt d) ∧ 0 ≤ x ∧ x ≤ 9720000 ∧ 1 ≤ d ∧ d ≤ 2500 ∧ (x = 0 ∨ ∃ i, i < k ∧ x = ((zC q i (q4 (0 + 0 * 4 + 0)).toInt a.toInt b.toInt c.toInt).natAbs : Int) ∧ d = zA q i) ∧ ∀ i, i < k → ((zC q i (q4 (0 + 0 * 4 + 0)).toInt a.toInt b.toInt c.toInt).natAbs : Int) * d ≤ x * zA q i) (fun k s => lp_mwo_st q4 q c b a k s.1 s.2) n 0 (0, 1) ⟨0, 1, rfl, by omega, by omega, by omega, by omega, Or.inl rfl, fun i hi => absurd hi (by omega)⟩ (fun k s h1 h2 hs => by
    obtain ⟨x, d, rfl, x0, x1, d0, d1, o, f⟩ := hs
    have hk : k < n := by omega
    obtain ⟨b1, b2, b3⟩ := bd k hk
    have eC : (Ab64 (Mq_cl q (nI k) (q4 (0 + 0 * 4 + 0)) a b c)) = Int64.ofInt ((zC q k (q4 (0 + 0 * 4 + 0)).toInt a.toInt b.toInt c.toInt).natAbs : Int) := by
      rw [← Int64.toInt_inj, cl_I (h k hk) hg ha hb hc, ab64_T (by rw [ofI_T (by omega) (by omega)]; omega), ofI_T (by omega) (by omega), ofI_T (by omega) (by omega)]
    have eA : Int32.toInt64 (Mq_by q (nI k)) = Int64.ofInt (zA q k) := i64_of32 _
    have m1 := am (x := ((zC q k (q4 (0 + 0 * 4 + 0)).toInt a.toInt b.toInt c.toInt).natAbs : Int)) (y := d) (a := 9720000) (b := 2500) (by omega) (by omega)
    have m2 := am (x := x) (y := zA q k) (a := 9720000) (b := 2500) (by omega) (by omega)
    unfold lp_mwo_st
    simp only
    rw [eC, eA, ← Int64.ofInt_mul, ← Int64.ofInt_mul]
    by_cases cc : ((zC q k (q4 (0 + 0 * 4 + 0)).toInt a.toInt b.toInt c.toInt).natAbs : Int) * d ≤ x * zA q k
    · rw [if_pos ((oI_le (by omega) (by omega)).mpr cc)]
      refine ⟨x, d, rfl, x0, x1, d0, d1, o.imp id (fun ⟨i, a1, a2⟩ => ⟨i, by omega, a2⟩), fun i hi => ?_⟩
      by_cases e : i = k
      · rw [e]; exact cc
      · exact f i (by omega)
    · rw [if_neg (fun z => cc ((oI_le (by omega) (by omega)).mp z))]
      refine ⟨_, _, rfl, by omega, by omega, b1, b2, Or.inr ⟨k, by omega, rfl, rfl⟩, fun i hi => ?_⟩
      by_cases e : i = k
      · rw [e]; omega
      · have f1 := f i (by omega)
        obtain ⟨c1, c2, c3⟩ := bd i (by omega)
        generalize ((zC q i (q4 (0 + 0 * 4 + 0)).toInt a.toInt b.toInt c.toInt).natAbs : Int) = ci at *
        generalize ((zC q k (q4 (0 + 0 * 4 + 0)).toInt a.toInt b.toInt c.toInt).natAbs : Int) = ck at *
        have g1 : ci * d * zA q k ≤ x * zA q i * zA q k := Int.mul_le_mul_of_nonneg_right f1 (by omega)
        have g2 : x * zA q k * zA q i ≤ ck * d * zA q i := Int.mul_le_mul_of_nonneg_right (by omega) (by omega)
        have g3 : x * zA q i * zA q k = x * zA q k * zA q i := by grind
        have g4 : ci * d * zA q k = d * (ci * zA q k) := by grind
        have g5 : ck * d * zA q i = d * (ck * zA q i) := by grind
        have g6 : d * (ci * zA q k) ≤ d * (ck * zA q i) := by omega
        exact Int.le_of_mul_le_mul_left g6 (by omega))
  rw [Nat.zero_add] at key
  obtain ⟨x, d, e, x0, x1, d0, d1, o, f⟩ := key
  refine ⟨x, d, e, x0, x1, d0, d1, ?_⟩
  obtain ⟨⟨i, i1, i2⟩, i3⟩ := hG
  simp only at i2 i3
  have t := zT_ok hn h i1
  refine Int.le_antisymm ?_ ?_
  · rcases o with o | ⟨j, j1, j2, j3⟩
    · rw [o, Int.zero_mul, i2]
      exact Int.mul_nonneg (Int.mul_nonneg (by omega) (by omega)) (by omega)
    · have tj := zT_ok hn h j1
      have k1 := i3 j j1
      have k2 := Int.mul_le_mul_of_nonneg_right k1 (show 0 ≤ d by omega)
      rw [j2, tj.1, ← j3]
      rw [show ((zC q j (q4 (0 + 0 * 4 + 0)).toInt a.toInt b.toInt c.toInt).natAbs : Int) * (d * zT q n j) = ((zC q j (q4 (0 + 0 * 4 + 0)).toInt a.toInt b.toInt c.toInt).natAbs : Int) * zT q n j * d by grind]
      exact k2
  · have f1 := f i i1
    have f2 := Int.mul_le_mul_of_nonneg_right f1 (show 0 ≤ zT q n i by omega)
    rw [i2, t.1]
    generalize ((zC q i (q4 (0 + 0 * 4 + 0)).toInt a.toInt b.toInt c.toInt).natAbs : Int) = ci at *
    rw [show ci * zT q n i * d = ci * d * zT q n i by grind, show x * (zA q i * zT q n i) = x * zA q i * zT q n i by grind]
    exact f2
