/-! FIT: class = reference -/
theorem itr_ab {σ τ : Type} {f : Nat → σ → σ} {g : Nat → τ → τ} (P : Nat → σ → τ → Prop) (a b : Nat) : ∀ (n j : Nat) (s : σ) (t : τ), P j s t → (∀ i s t, j ≤ i → i < j + n → P i s t → P (i + 1) (f (a + i) s) (g (b + i) t)) → P (j + n) (itr f n (a + j) s) (itr g n (b + j) t)
  | 0, j, s, t, h, _ => by rw [itr_0, itr_0]; exact h
  | n + 1, j, s, t, h, hs => by
    rw [itr_s, itr_s, show j + (n + 1) = (j + 1) + n by omega, show a + j + 1 = a + (j + 1) by omega, show b + j + 1 = b + (j + 1) by omega]
    exact itr_ab P a b n (j + 1) _ _ (hs j s t (Nat.le_refl j) (by omega) h) (fun i s t h1 h2 => hs i s t (by omega) (by omega))
theorem itr_split {σ : Type} (f : Nat → σ → σ) : ∀ (n m k : Nat) (s : σ), itr f (n + m) k s = itr f m (k + n) (itr f n k s)
  | 0, m, k, s => by rw [itr_0, Nat.zero_add, Nat.add_zero]
  | n + 1, m, k, s => by
    rw [show n + 1 + m = (n + m) + 1 by omega, itr_s, itr_s, itr_split f n m (k + 1) (f k s), show k + 1 + n = k + (n + 1) by omega]
theorem itr_nest {σ : Type} (f : Nat → σ → σ) (m k : Nat) : ∀ (n i : Nat) (s : σ), itr f (n * m) (k + i * m) s = itr (fun i s => itr f m (k + i * m) s) n i s
  | 0, i, s => by rw [Nat.zero_mul, itr_0, itr_0]
  | n + 1, i, s => by
    rw [show (n + 1) * m = m + n * m by rw [Nat.add_mul]; omega, itr_split, itr_s, show k + i * m + m = k + (i + 1) * m by rw [Nat.add_mul]; omega]
    exact itr_nest f m k n (i + 1) _
def fR (U : Int) (s : Int32 × Int32 × Int32 × Int64) (t : Int32 × Int64 × Int64 × (Nat → Int32)) : Prop :=
  (s.2.2.2 = -9223372036854775808 ∧ t.1 = 1) ∨ (t.1 = 0 ∧ s.1 = t.2.2.2 0 ∧ s.2.1 = t.2.2.2 1 ∧ s.2.2.1 = t.2.2.2 2 ∧ ∃ G x d : Int, s.2.2.2 = Int64.ofInt G ∧ t.2.1 = Int64.ofInt x ∧ t.2.2.1 = Int64.ofInt d ∧ 0 ≤ G ∧ G ≤ 3888 * U ∧ 0 ≤ x ∧ x ≤ 9720000 ∧ 1 ≤ d ∧ d ≤ 2500 ∧ x * U = G * d)
theorem isG_le {q : Nat → Int32} {n : Nat} {g a b c G : Int} (hn : n ≤ 4) (h : ∀ k, k < n → okP q (nI k)) (hg : b18 g) (ha : b18 a) (hb : b18 b) (hc : b18 c) (hG : isG q n g a b c G) : 0 ≤ G ∧ G ≤ 3888 * zU q n := by
  obtain ⟨⟨i, i1, i2⟩, -⟩ := hG
  simp only at i2
  have t := zT_ok hn h i1
  have cl := zC_le (h i i1) hg ha hb hc
  have p := (pq_T (h i i1)).1
  have m : ((zC q i g a b c).natAbs : Int) * zT q n i ≤ 3888 * zA q i * zT q n i := Int.mul_le_mul_of_nonneg_right (by omega) (by omega)
  rw [i2]
  refine ⟨Int.mul_nonneg (by omega) (by omega), ?_⟩
  rw [t.1, ← Int.mul_assoc]; exact m
theorem cross_le {G x d G' x' d' U : Int} (hU : 1 ≤ U) (h1 : 1 ≤ d) (h2 : 1 ≤ d') (e : x * U = G * d) (e' : x' * U = G' * d') : G ≤ G' ↔ x * d' ≤ x' * d := by
  have p1 : 0 < d * d' := Int.mul_pos (by omega) (by omega)
  have i1 : (d * d') * G = U * (x * d') := by
    have : (d * d') * G = G * d * d' := by grind
    rw [this, ← e]; grind
  have i2 : (d * d') * G' = U * (x' * d) := by
    have : (d * d') * G' = G' * d' * d := by grind
    rw [this, ← e']; grind
  constructor
  · intro z
    have z2 := Int.mul_le_mul_of_nonneg_left z (Int.le_of_lt p1)
    rw [i1, i2] at z2
    exact Int.le_of_mul_le_mul_left z2 (by omega)
  · intro z
    have z2 := Int.mul_le_mul_of_nonneg_left z (show 0 ≤ U by omega)
    rw [← i1, ← i2] at z2
    exact Int.le_of_mul_le_mul_left z2 p1
theorem low_ne {G : Int} (h0 : 0 ≤ G) (h1 : G < 2 ^ 62) : ¬ Int64.ofInt G = -9223372036854775808 := by
  intro z
  have e := congrArg Int64.toInt z
  rw [ofI_T (by omega) (by omega)] at e
  have e2 : (-9223372036854775808 : Int64).toInt = -9223372036854775808 := by decide
  rw [e2] at e
  omega
theorem frO_eta {u : Int64} {r23 r24 : Nat → Int64} {a1 : Int32} {j : Nat} {fc fr fa : Int32} {fe : Int64} : lp_frO_st u r23 r24 a1 j fc fr fa fe = itr (fun k s => lp_frI_st r23 r24 ((Int32.toInt64 ((nI j) * (nI j))) * u) a1 j k s.1 s.2.1 s.2.2.1 s.2.2.2) 18 1 (fc, fr, fa, fe) := by
  unfold lp_frO_st
  generalize itr (fun k s => lp_frI_st r23 r24 ((Int32.toInt64 ((nI j) * (nI j))) * u) a1 j k s.1 s.2.1 s.2.2.1 s.2.2.2) 18 1 (fc, fr, fa, fe) = z
  rfl
theorem fB_eta {a1 : Int32} {u : Int64} {r19 r20 r21 r22 lo hi : Nat → Int64} {nr j : Nat} {fc fr fa : Int32} {fe : Int64} : (lp_fB_st a1 u r19 r20 r21 r22 nr j lo hi fc fr fa fe).2.2 = Ra fc fr fa u fe (Bd u r19 r20 r21 r22 lo hi a1 (nI j) nr).1 (Bd u r19 r20 r21 r22 lo hi a1 (nI j) nr).2 (nI j) := by
  unfold lp_fB_st
  simp only
section FITR
variable {q4 q : Nat → Int32} {n : Nat} {r19 r20 r21 r22 : Nat → Int64} {u : Int64}
theorem fr_step {lo hi : Nat → Int64} {j r k N : Nat} {m M : Int} {s : Int32 × Int32 × Int32 × Int64} {t : Int32 × Int64 × Int64 × (Nat → Int32)} (hn : n ≤ 4) (h0 : 0 < n) (h : ∀ k, k < n → okP q (nI k)) (hu : u = Int64.ofInt (zU q n)) (hg : b18 (q4 (0 + 0 * 4 + 0)).toInt) (hj : 1 ≤ j ∧ j < 19) (hr : 1 ≤ r ∧ r < 19) (hk : 1 ≤ k ∧ k < 19) (e1 : N / 324 + 1 = j) (e2 : N / 18 % 18 + 1 = r) (e3 : N % 18 + 1 = k) (hlo : lo k = Int64.ofInt m) (hhi : hi k = Int64.ofInt M) (hm : isMn (fun i => zV q n i (q4 (0 + 0 * 4 + 0)).toInt (nI j).toInt (nI k).toInt) n m) (hM : isMx (fun i => zV q n i (q4 (0 + 0 * 4 + 0)).toInt (nI j).toInt (nI k).toInt) n M) (hs : fR (zU q n) s t) :
    fR (zU q n) (lp_frI_st lo hi (Int32.toInt64 (nI r * nI r) * u) (nI j) r k s.1 s.2.1 s.2.2.1 s.2.2.2) (lp_mfi_st q4 q n N t.1 t.2.1 t.2.2.1 t.2.2.2) := by
  have ub := zU_b hn h
  obtain ⟨bj, tj, -⟩ := n18 j hj.2 hj.1
  obtain ⟨br, tr, trr⟩ := n18 r hr.2 hr.1
  obtain ⟨bk, tk, -⟩ := n18 k hk.2 hk.1
  have hG := g_of (b := (nI r).toInt) hn h hm hM
  have gb := isG_le hn h hg bj br bk hG
  obtain ⟨x', d', ew, x0, x1, d0, d1, ex⟩ := wo_ok (q4 := q4) (a := nI j) (b := nI r) (c := nI k) hn h hg bj br bk h0 hG
  have mb : m.natAbs ≤ 3564 * (zU q n).natAbs := by
    obtain ⟨i, a1, a2⟩ := hm.1
    rw [a2]; exact zV_le hn h a1 hg bj bk
  have Mb : M.natAbs ≤ 3564 * (zU q n).natAbs := by
    obtain ⟨i, a1, a2⟩ := hM.1
    rw [a2]; exact zV_le hn h a1 hg bj bk
  have rr := am (b18a br) (b18a br)
  have rU := am (x := (nI r).toInt * (nI r).toInt) (y := zU q n) (a := 324) (b := (zU q n).natAbs) (by omega) (Nat.le_refl _)
  have et : Int32.toInt64 (nI r * nI r) * u = Int64.ofInt ((nI r).toInt * (nI r).toInt * zU q n) := by
    rw [i64_of32, hu, ← Int64.ofInt_mul, trr, tr]
  have egv : (if (Int32.toInt64 (nI r * nI r) * u - lo k) < (hi k - Int32.toInt64 (nI r * nI r) * u) then (hi k - Int32.toInt64 (nI r * nI r) * u) else (Int32.toInt64 (nI r * nI r) * u - lo k)) = Int64.ofInt (if (nI r).toInt * (nI r).toInt * zU q n - m < M - (nI r).toInt * (nI r).toInt * zU q n then M - (nI r).toInt * (nI r).toInt * zU q n else (nI r).toInt * (nI r).toInt * zU q n - m) := by
    rw [et, hlo, hhi, ← Int64.ofInt_sub, ← Int64.ofInt_sub]
    by_cases c : (nI r).toInt * (nI r).toInt * zU q n - m < M - (nI r).toInt * (nI r).toInt * zU q n
    · rw [if_pos c, if_pos ((oI_lt (by omega) (by omega)).mpr c)]
    · rw [if_neg c, if_neg (fun z => c ((oI_lt (by omega) (by omega)).mp z))]
  generalize (if (nI r).toInt * (nI r).toInt * zU q n - m < M - (nI r).toInt * (nI r).toInt * zU q n then M - (nI r).toInt * (nI r).toInt * zU q n else (nI r).toInt * (nI r).toInt * zU q n - m) = Gv at *
  unfold lp_frI_st lp_mfi_st
  rw [egv, e1, e2, e3, ew]
  simp only
  have take : ∀ ft : Nat → Int32, fR (zU q n) (nI j, nI r, nI k, Int64.ofInt Gv) (0, Int64.ofInt x', Int64.ofInt d', upd (upd (upd ft 0 (nI j)) 1 (nI r)) 2 (nI k)) := fun ft => Or.inr ⟨rfl, by unfold upd; simp, by unfold upd; simp, by unfold upd; simp, Gv, x', d', rfl, rfl, rfl, gb.1, gb.2, x0, x1, d0, d1, ex⟩
  rcases hs with ⟨a1, a2⟩ | ⟨a1, a2, a3, a4, G, x, d, a5, a6, a7, g0, g1, y0, y1, b0, b1, ey⟩
  · rw [if_pos a1, a2, if_neg (by decide)]
    exact take _
  · rw [a5, if_neg (low_ne g0 (by omega)), a1, if_pos rfl, a6, a7, ← Int64.ofInt_mul, ← Int64.ofInt_mul]
    have m1 := am (x := x) (y := d') (a := 9720000) (b := 2500) (by omega) (by omega)
    have m2 := am (x := x') (y := d) (a := 9720000) (b := 2500) (by omega) (by omega)
    have cr := cross_le ub.1 b0 d0 ey ex
    by_cases c : G ≤ Gv
    · rw [if_pos ((oI_le (by omega) (by omega)).mpr c), if_pos ((oI_le (by omega) (by omega)).mpr (cr.mp c))]
      exact Or.inr ⟨rfl, a2, a3, a4, G, x, d, rfl, rfl, rfl, g0, g1, y0, y1, b0, b1, ey⟩
    · rw [if_neg (fun z => c ((oI_le (by omega) (by omega)).mp z)), if_neg (fun z => c (cr.mpr ((oI_le (by omega) (by omega)).mp z)))]
      exact take _
theorem fr_row {lo hi : Nat → Int64} {j r b : Nat} (hn : n ≤ 4) (h0 : 0 < n) (h : ∀ k, k < n → okP q (nI k)) (hu : u = Int64.ofInt (zU q n)) (hg : b18 (q4 (0 + 0 * 4 + 0)).toInt) (hj : 1 ≤ j ∧ j < 19) (hr : 1 ≤ r ∧ r < 19) (hb : b = (j - 1) * 324 + (r - 1) * 18) (hB : ∀ k, 1 ≤ k → k < 19 → ∃ m M : Int, lo k = Int64.ofInt m ∧ hi k = Int64.ofInt M ∧ isMn (fun i => zV q n i (q4 (0 + 0 * 4 + 0)).toInt (nI j).toInt (nI k).toInt) n m ∧ isMx (fun i => zV q n i (q4 (0 + 0 * 4 + 0)).toInt (nI j).toInt (nI k).toInt) n M) (F : Nat → Int32 × Int64 × Int64 × (Nat → Int32) → Int32 × Int64 × Int64 × (Nat → Int32)) (hF : ∀ k s, F k s = lp_mfi_st q4 q n k s.1 s.2.1 s.2.2.1 s.2.2.2) (s : Int32 × Int32 × Int32 × Int64) (t : Int32 × Int64 × Int64 × (Nat → Int32)) (hst : fR (zU q n) s t) : fR (zU q n) (lp_frO_st u lo hi (nI j) r s.1 s.2.1 s.2.2.1 s.2.2.2) (itr F 18 b t) := by
  rw [frO_eta]
  have y := itr_ab (f := fun k s => lp_frI_st lo hi ((Int32.toInt64 ((nI r) * (nI r))) * u) (nI j) r k s.1 s.2.1 s.2.2.1 s.2.2.2) (g := F) (fun _ s t => fR (zU q n) s t) 1 b 18 0 (s.1, s.2.1, s.2.2.1, s.2.2.2) t hst (fun k s t h3 h4 hst => by
    obtain ⟨m, M, b1, b2, b3, b4⟩ := hB (1 + k) (by omega) (by omega)
    rw [hF]
    exact fr_step hn h0 h hu hg hj hr ⟨by omega, by omega⟩ (by omega) (by omega) (by omega) b1 b2 b3 b4 hst)
  rw [Nat.add_zero, Nat.add_zero] at y
  exact y
theorem fr_col {lo hi : Nat → Int64} {j b : Nat} (hn : n ≤ 4) (h0 : 0 < n) (h : ∀ k, k < n → okP q (nI k)) (hu : u = Int64.ofInt (zU q n)) (hg : b18 (q4 (0 + 0 * 4 + 0)).toInt) (hj : 1 ≤ j ∧ j < 19) (hb : b = (j - 1) * 324) (hB : ∀ k, 1 ≤ k → k < 19 → ∃ m M : Int, lo k = Int64.ofInt m ∧ hi k = Int64.ofInt M ∧ isMn (fun i => zV q n i (q4 (0 + 0 * 4 + 0)).toInt (nI j).toInt (nI k).toInt) n m ∧ isMx (fun i => zV q n i (q4 (0 + 0 * 4 + 0)).toInt (nI j).toInt (nI k).toInt) n M) (F : Nat → Int32 × Int64 × Int64 × (Nat → Int32) → Int32 × Int64 × Int64 × (Nat → Int32)) (hF : ∀ k s, F k s = lp_mfi_st q4 q n k s.1 s.2.1 s.2.2.1 s.2.2.2) (s : Int32 × Int32 × Int32 × Int64) (t : Int32 × Int64 × Int64 × (Nat → Int32)) (hst : fR (zU q n) s t) : fR (zU q n) (Ra s.1 s.2.1 s.2.2.1 u s.2.2.2 lo hi (nI j)) (itr F (18 * 18) b t) := by
  have z := itr_nest F 18 b 18 0 t
  rw [Nat.zero_mul, Nat.add_zero] at z
  rw [z]
  unfold Ra
  have y := itr_ab (f := fun r s => lp_frO_st u lo hi (nI j) r s.1 s.2.1 s.2.2.1 s.2.2.2) (g := fun r s => itr F 18 (b + r * 18) s) (fun _ s t => fR (zU q n) s t) 1 0 18 0 (s.1, s.2.1, s.2.2.1, s.2.2.2) t hst (fun r s t h3 h4 hst => fr_row hn h0 h hu hg hj ⟨by omega, by omega⟩ (by omega) hB F hF s t hst)
  rw [Nat.add_zero, Nat.add_zero] at y
  exact y
theorem fit_rel (r23 r24 : Nat → Int64) (fc fr fa : Int32) (fu fd : Int64) (q16 : Nat → Int32) (hn : n ≤ 4) (h0 : 0 < n) (h : ∀ k, k < n → okP q (nI k)) (hr : prR q n r19 r20 r21 r22) (hu : u = Int64.ofInt (zU q n)) (hg : b18 (q4 (0 + 0 * 4 + 0)).toInt) : fR (zU q n) (FB r19 r20 r21 r22 r23 r24 n u (q4 (0 + 0 * 4 + 0)) fc fr fa).2.2 (Fi q4 q n fu fd q16) := by
  unfold FB Fi
  have hF : ∀ (k : Nat) (s : Int32 × Int64 × Int64 × (Nat → Int32)), (fun k (s : Int32 × Int64 × Int64 × (Nat → Int32)) => lp_mfi_st q4 q n k s.1 s.2.1 s.2.2.1 s.2.2.2) k s = lp_mfi_st q4 q n k s.1 s.2.1 s.2.2.1 s.2.2.2 := fun _ _ => rfl
  generalize (fun k (s : Int32 × Int64 × Int64 × (Nat → Int32)) => lp_mfi_st q4 q n k s.1 s.2.1 s.2.2.1 s.2.2.2) = F at *
  have e5 : (5832 : Nat) = 18 * (18 * 18) := by decide
  have e0 := itr_nest F (18 * 18) 0 18 0 (1, fu, fd, q16)
  rw [Nat.zero_mul, Nat.add_zero, ← e5] at e0
  rw [e0]
  have y := itr_ab (f := fun j s => lp_fB_st (q4 (0 + 0 * 4 + 0)) u r19 r20 r21 r22 n j s.1 s.2.1 s.2.2.1 s.2.2.2.1 s.2.2.2.2.1 s.2.2.2.2.2) (g := fun i s => itr F (18 * 18) (0 + i * (18 * 18)) s) (fun _ (s : (Nat → Int64) × (Nat → Int64) × Int32 × Int32 × Int32 × Int64) t => fR (zU q n) s.2.2 t) 1 0 18 0 (r23, r24, fc, fr, fa, -9223372036854775808) (1, fu, fd, q16) (Or.inl ⟨rfl, rfl⟩) (fun i s t h1 h2 hst => by
    rw [fB_eta]
    exact fr_col hn h0 h hu hg ⟨by omega, by omega⟩ (by omega) (bd_ok s.1 s.2.1 hn h0 h hr hu hg (n18 (1 + i) (by omega) (by omega)).1) F hF s.2.2 t hst)
  rw [Nat.add_zero, Nat.add_zero] at y
  exact y
theorem fi_0 (fu fd : Int64) (q16 : Nat → Int32) : (Fi q4 q n fu fd q16).1 = 0 := by
  unfold Fi
  have key := itr_inv' (fun k (s : Int32 × Int64 × Int64 × (Nat → Int32)) => 0 < k → s.1 = 0) (fun k s => lp_mfi_st q4 q n k s.1 s.2.1 s.2.2.1 s.2.2.2) 5832 0 (1, fu, fd, q16) (fun z => absurd z (by omega)) (fun j s h1 h2 hs _ => by
    unfold lp_mfi_st
    by_cases c : s.1 = 0
    · rw [if_pos c]
      split
      · exact c
      · rfl
    · rw [if_neg c])
  exact key (by omega)
end FITR
/-! a fraction in lowest terms is told by its value -/
theorem frac {a b c d : Nat} (hb : 0 < b) (hd : 0 < d) (h : a * d = c * b) : a / Nat.gcd a b = c / Nat.gcd c d ∧ b / Nat.gcd a b = d / Nat.gcd c d := by
  have g0 : 0 < Nat.gcd a b := Nat.gcd_pos_of_pos_right _ hb
  have k0 : 0 < Nat.gcd c d := Nat.gcd_pos_of_pos_right _ hd
  have e1 : Nat.gcd a b * d = Nat.gcd c d * b := by
    rw [← Nat.gcd_mul_right, ← Nat.gcd_mul_right, h, Nat.mul_comm d b]
  obtain ⟨a', ha⟩ := Nat.gcd_dvd_left a b
  obtain ⟨b', hb'⟩ := Nat.gcd_dvd_right a b
  obtain ⟨c', hc⟩ := Nat.gcd_dvd_left c d
  obtain ⟨d', hd'⟩ := Nat.gcd_dvd_right c d
  generalize Nat.gcd a b = g at *
  generalize Nat.gcd c d = k at *
  have x1 : a / g = a' := by rw [ha]; exact Nat.mul_div_cancel_left a' g0
  have x2 : b / g = b' := by rw [hb']; exact Nat.mul_div_cancel_left b' g0
  have x3 : c / k = c' := by rw [hc]; exact Nat.mul_div_cancel_left c' k0
  have x4 : d / k = d' := by rw [hd']; exact Nat.mul_div_cancel_left d' k0
  rw [x1, x2, x3, x4]
  constructor
  · have y : (g * d) * a' = (g * d) * c' := by
      have y1 : (g * d) * a' = a * d := by rw [ha]; grind
      have y2 : (g * d) * c' = c * b := by rw [e1, hc]; grind
      rw [y1, y2, h]
    exact Nat.eq_of_mul_eq_mul_left (Nat.mul_pos g0 hd) y
  · have y : (g * k) * b' = (g * k) * d' := by
      have y1 : (g * k) * b' = k * b := by rw [hb']; grind
      have y2 : (g * k) * d' = g * d := by rw [hd']; grind
      rw [y1, y2, e1]
    exact Nat.eq_of_mul_eq_mul_left (Nat.mul_pos g0 k0) y
theorem mp_frac {G U x d : Int} {lo : Int32} (h1 : 0 ≤ G ∧ G < 2 ^ 62) (h2 : 1 ≤ U ∧ U < 2 ^ 62) (h3 : 0 ≤ x ∧ x < 2 ^ 62) (h4 : 1 ≤ d ∧ d < 2 ^ 62) (h : x * U = G * d) : Rd (Int64.ofInt G) (Int64.ofInt U) lo = Mp (Int64.ofInt x) (Int64.ofInt d) lo := by
  have tG : (Int64.ofInt G).toInt = G := ofI_T (by omega) (by omega)
  have tU : (Int64.ofInt U).toInt = U := ofI_T (by omega) (by omega)
  have tx : (Int64.ofInt x).toInt = x := ofI_T (by omega) (by omega)
  have td : (Int64.ofInt d).toInt = d := ofI_T (by omega) (by omega)
  have hn : G.natAbs * d.natAbs = x.natAbs * U.natAbs := by
    rw [← Int.natAbs_mul, ← Int.natAbs_mul, h]
  obtain ⟨f1, f2⟩ := frac (a := G.natAbs) (b := U.natAbs) (c := x.natAbs) (d := d.natAbs) (by omega) (by omega) hn
  rw [rd_mp (by rw [tG]; omega) (by rw [tU]; omega) (by rw [i64_z, tU]; omega)]
  unfold Mp
  have pU : 0 ≤ Int64.ofInt U := (i64_zle _).mpr (by rw [tU]; omega)
  have pd : 0 ≤ Int64.ofInt d := (i64_zle _).mpr (by rw [td]; omega)
  have gp : 0 < Nat.gcd G.natAbs U.natAbs := Nat.gcd_pos_of_pos_right _ (by omega)
  have kp : 0 < Nat.gcd x.natAbs d.natAbs := Nat.gcd_pos_of_pos_right _ (by omega)
  have gl : Nat.gcd G.natAbs U.natAbs ≤ U.natAbs := Nat.gcd_le_right _ (by omega)
  have kl : Nat.gcd x.natAbs d.natAbs ≤ d.natAbs := Nat.gcd_le_right _ (by omega)
  have aU : Ab64 (Int64.ofInt U) = Int64.ofInt U := by unfold Ab64; rw [if_pos pU]
  have ad : Ab64 (Int64.ofInt d) = Int64.ofInt d := by unfold Ab64; rw [if_pos pd]
  have dv : ∀ (z : Int) (g : Nat), 0 ≤ z → z < 2 ^ 62 → 0 < g → g < 2 ^ 62 → (Int64.ofInt z / lN g).toInt = ((z.natAbs / g : Nat) : Int) := by
    intro z g z0 z1 g0 g1
    rw [i64_div (lN_pos g0 (by omega)), pk_lT (by omega), ofI_T (by omega) (by omega), Int.tdiv_eq_ediv_of_nonneg z0]
    obtain ⟨w, rfl⟩ : ∃ w : Nat, z = w := ⟨z.natAbs, by omega⟩
    rw [Int.natAbs_natCast]; exact (Int.natCast_ediv w g).symm
  rw [tG, tU, tx, td]
  by_cases c : lo = 0
  · rw [if_pos c, if_pos c, if_pos pU, if_pos pd, ← Int64.toInt_inj, dv G _ h1.1 h1.2 gp (by omega), dv x _ h3.1 h3.2 kp (by omega), f1]
  · rw [if_neg c, if_neg c, aU, ad, ← Int64.toInt_inj, dv U _ (by omega) h2.2 gp (by omega), dv d _ (by omega) h4.2 kp (by omega), f2]
