/-! met: class = reference -/
theorem na_add {a b : Int} {x y N : Nat} (ha : a.natAbs ≤ x) (hb : b.natAbs ≤ y) (h : x + y ≤ N) : (a + b).natAbs ≤ N := by omega
theorem na_sub {a b : Int} {x y N : Nat} (ha : a.natAbs ≤ x) (hb : b.natAbs ≤ y) (h : x + y ≤ N) : (a - b).natAbs ≤ N := by omega
theorem na_neg {a : Int} {x : Nat} (ha : a.natAbs ≤ x) : (-a).natAbs ≤ x := by omega
theorem t20a {m : Int32} (h : t20 m) : m.toInt.natAbs ≤ 20 := by have := h.1; have := h.2; omega
theorem tr_h {q : Nat → Int32} {l m n : Int32} {k : Nat} (hB : okB q l) (hk : k < 40) (hm : t20 m) (hn : t20 n) : (cH0 q l m n k).natAbs ≤ 44280 ∧ (cH1 q l m n k).natAbs ≤ 44280 := by
  have bX := x_le hB.1 hB.2.1 hk
  unfold cH0 cH1
  exact ⟨na_sub (am (t20a hm) bX.1) (am (t20a hn) bX.2) (by decide), na_add (am (t20a hm) bX.2) (am (t20a hn) bX.1) (by decide)⟩
theorem tr_u0 {q : Nat → Int32} {l m n : Int32} {k : Nat} (hk : k < 40) : cU0 q l m n k = Int64.ofInt (20 * (Ba q l).toInt * iC k * iS (Bg q l).toInt (Ba q l).toInt k + iE (Bg q l).toInt (Ba q l).toInt (Bb q l).toInt (Bc q l).toInt k * cH0 q l m n k) := by
  unfold cU0 Tr_ux pS pE pX pY cH0
  rw [ps_s _ _ hk, ps_e _ _ _ _ hk, ps_x _ _ hk, ps_y _ hk, ps_c k hk, i64_of32, i64_of32, i64_of32, lq20]
  simp only [Int64.ofInt_add, Int64.ofInt_sub, Int64.ofInt_mul]
theorem tr_u1 {q : Nat → Int32} {l m n : Int32} {k : Nat} (hk : k < 40) : cU1 q l m n k = Int64.ofInt (20 * (Ba q l).toInt * iD k * iS (Bg q l).toInt (Ba q l).toInt k + iE (Bg q l).toInt (Ba q l).toInt (Bb q l).toInt (Bc q l).toInt k * cH1 q l m n k) := by
  unfold cU1 Tr_uy pS pE pX pY cH1
  rw [ps_s _ _ hk, ps_e _ _ _ _ hk, ps_x _ _ hk, ps_y _ hk, ps_d k hk, i64_of32, i64_of32, i64_of32, lq20]
  simp only [Int64.ofInt_add, Int64.ofInt_sub, Int64.ofInt_mul]
theorem tr_v0 {q : Nat → Int32} {l m n b : Int32} {k : Nat} (hk : k < 40) : cV0 q l m n b k = Int64.ofInt (-(cH1 q l m n k) * (if b = 0 then 1 else -1)) := by
  unfold cV0 Tr_vx pX pY cH1
  rw [ps_x _ _ hk, ps_y _ hk, sgn_sq, i64_of32, i64_of32]
  simp only [Int64.ofInt_add, Int64.ofInt_mul, Int64.ofInt_neg]
theorem tr_v1 {q : Nat → Int32} {l m n b : Int32} {k : Nat} (hk : k < 40) : cV1 q l m n b k = Int64.ofInt (cH0 q l m n k * (if b = 0 then 1 else -1)) := by
  unfold cV1 Tr_vy pX pY cH0
  rw [ps_x _ _ hk, ps_y _ hk, sgn_sq, i64_of32, i64_of32]
  simp only [Int64.ofInt_sub, Int64.ofInt_mul]
theorem tr_w {q : Nat → Int32} {l : Int32} {k : Nat} (hk : k < 40) : cW q l k = Int64.ofInt (2 * iS (Bg q l).toInt (Ba q l).toInt k * iN k) := by
  unfold cW pS
  rw [ps_s _ _ hk, ps_n k hk, lq2]
  simp only [Int64.ofInt_mul]
theorem one_b (b : Int32) : ((if b = 0 then 1 else -1 : Int)).natAbs ≤ 1 := by split <;> decide
theorem tr_T {q : Nat → Int32} {l m n b : Int32} {k : Nat} (hB : okB q l) (hk : k < 40) (hL : lawP q l k) (hm : t20 m) (hn : t20 n) : ∃ U0 U1 V0 V1 K W : Int, cU0 q l m n k = Int64.ofInt U0 ∧ cU1 q l m n k = Int64.ofInt U1 ∧ cV0 q l m n b k = Int64.ofInt V0 ∧ cV1 q l m n b k = Int64.ofInt V1 ∧ pK q l k = Int64.ofInt K ∧ cW q l k = Int64.ofInt W ∧ U0.natAbs ≤ 4400000000 ∧ U1.natAbs ≤ 4400000000 ∧ V0.natAbs ≤ 44280 ∧ V1.natAbs ≤ 44280 ∧ 0 ≤ K ∧ K ≤ 705858624 ∧ W.natAbs ≤ 4357152 := by
  have hi := (law_i hB hk).mp hL
  obtain ⟨hh0, hh1⟩ := tr_h (q := q) (l := l) hB hk hm hn
  obtain ⟨h1, h2, h3, h4⟩ := hB
  have t := tab_ncd k hk
  have bS := s_le h1 h2 hk
  have bE := e_le h1 h2 h3 h4 hk
  have ba := am (show (20 : Int).natAbs ≤ 20 by decide) (b18a h2)
  refine ⟨_, _, _, _, _, _, tr_u0 hk, tr_u1 hk, tr_v0 hk, tr_v1 hk, ps_k _ _ _ _ hk, tr_w hk, ?_, ?_, ?_, ?_, hi.2, k_le h3 h4 hk, ?_⟩
  · exact na_add (am (am ba t.2.2.2.1) bS) (am bE hh0) (by decide)
  · exact na_add (am (am ba t.2.2.2.2.2.1) bS) (am bE hh1) (by decide)
  · exact am (na_neg hh1) (one_b b)
  · exact am hh0 (one_b b)
  · exact am (am (show (2 : Int).natAbs ≤ 2 by decide) bS) t.2.2.1
theorem jw {u v k w t : Int64} {U V K W : Int} (eu : u = Int64.ofInt U) (ev : v = Int64.ofInt V) (ek : k = Int64.ofInt K) (ew : w = Int64.ofInt W) (hs : okS v k) (bu : U.natAbs ≤ 4400000000) (bv : V.natAbs ≤ 44280) (k0 : 0 ≤ K) (k1 : K ≤ 705858624) (bw : W.natAbs ≤ 4357152) (bt : t.toInt.natAbs ≤ 1200) : IsW u v k (w * t) ↔ IsJ u v w t k := by
  have tu : u.toInt = U := by rw [eu]; exact ofI_T (by omega) (by omega)
  have tv : v.toInt = V := by rw [ev]; exact ofI_T (by omega) (by omega)
  have tk : k.toInt = K := by rw [ek]; exact ofI_T (by omega) (by omega)
  have tw : w.toInt = W := by rw [ew]; exact ofI_T (by omega) (by omega)
  have vv := am bv bv
  have vk := am (x := V * V) (y := K) (a := 1960718400) (b := 705858624) (by omega) (by omega)
  have wt := am bw bt
  have tw2 := am bt bw
  have m1 : (t * w).toInt = t.toInt * w.toInt := i64_mulA (by rw [tw]; omega)
  refine isw_isj hs ?_ (by omega) ?_ (i64_mulA (by rw [tw]; omega)) (by omega) (by rw [tw]; omega)
  · have m2 : (v * v).toInt = v.toInt * v.toInt := i64_mulA (by rw [tv]; omega)
    rw [i64_mulA (by rw [m2, tv, tk]; omega), m2]
  · rw [i64_subA (by rw [m1, tw, tu]; omega), m1]
theorem met_e {nl nt np nr : Nat} {r5 r6 q4 q5 q6 q7 : Nat → Int32} (h : DkR nl nt np nr r5 r6 q4 q5 q6 q7) {l i a : Int32} (b : Int32) (hl : 0 ≤ l ∧ l < nI nl) (hi : 0 ≤ i ∧ i < nI nt) (ha : 0 ≤ a ∧ a < nI np) : itx (lp_mmet_st q4 q5 q6 a b i l) 40 0 () = itx (lp_met_st r5 b i l a) 40 0 () := by
  refine itx_cong _ _ _ (fun k s h1 h2 => ?_)
  have hk : k < 40 := by omega
  obtain ⟨b1, b2, b3, b4, b5⟩ := dk_bars h hl
  obtain ⟨c1, c2, c3, c4⟩ := dk_tr h hi
  obtain ⟨d1, d2, d3, d4⟩ := dk_px h ha
  unfold lp_mmet_st lp_met_st
  rw [b1, b2, b3, b4, c1, c2, d1, d2]
  by_cases hL : 0 < Ps_s (Bg q4 l) (Ba q4 l) (nI k) ∧ 0 ≤ Ps_k (Bg q4 l) (Ba q4 l) (Bb q4 l) (Bc q4 l) (nI k)
  · rw [if_pos hL, if_pos ((law_mp hk).mpr hL)]
    obtain ⟨U0, U1, V0, V1, K, W, e1, e2, e3, e4, e5, e6, u0, u1, v0, v1, k0, k1, w0⟩ := tr_T (b := b) b5 hk hL c3 c4
    have x := cX_ok b b5 hk hL c3 c4
    have y := cY_ok b b5 hk hL c3 c4
    have f0 := e_u0 (q := q4) (t := q5) (l := l) (i := i) hk
    have f1 := e_u1 (q := q4) (t := q5) (l := l) (i := i) hk
    have f2 := e_v0 (q := q4) (t := q5) (l := l) (i := i) (b := b) hk
    have f3 := e_v1 (q := q4) (t := q5) (l := l) (i := i) (b := b) hk
    have f4 := e_wd (q := q4) (l := l) hk
    unfold mU0 at f0
    unfold mU1 at f1
    unfold mV0 at f2
    unfold mV1 at f3
    unfold mWd at f4
    rw [f0, f1, f2, f3, f4, m_k hk]
    have j0 := jw (t := Int32.toInt64 (Px r5 a)) e1 e3 e5 e6 x.1 u0 v0 k0 k1 w0 (by rw [Int32.toInt_toInt64]; exact d3)
    have j1 := jw (t := Int32.toInt64 (Py r5 a)) e2 e4 e5 e6 y.1 u1 v1 k0 k1 w0 (by rw [Int32.toInt_toInt64]; exact d4)
    by_cases p0 : IsJ (cU0 q4 l (Tm q5 i) (Tn q5 i) k) (cV0 q4 l (Tm q5 i) (Tn q5 i) b k) (cW q4 l k) (Int32.toInt64 (Px r5 a)) (pK q4 l k)
    · rw [if_pos p0]
      by_cases p1 : IsJ (cU1 q4 l (Tm q5 i) (Tn q5 i) k) (cV1 q4 l (Tm q5 i) (Tn q5 i) b k) (cW q4 l k) (Int32.toInt64 (Py r5 a)) (pK q4 l k)
      · rw [if_pos p1, if_pos ⟨j0.mpr p0, j1.mpr p1⟩]
      · rw [if_neg p1, if_neg (fun z => p1 (j1.mp z.2))]
    · rw [if_neg p0, if_neg (fun z => p0 (j0.mp z.1))]
  · rw [if_neg hL, if_neg (fun z => hL ((law_mp hk).mp z))]
/-! best: class = reference -/
theorem itx_rel {σ τ ρ : Type} (P : Nat → σ → τ → Prop) {g : Nat → σ → σ} {f : Nat → τ → τ ⊕ ρ} : ∀ (n k : Nat) (s : σ) (t : τ), P k s t → (∀ j s t, k ≤ j → j < k + n → P j s t → ∃ t', f j t = .inl t' ∧ P (j + 1) (g j s) t') → ∃ t', itx f n k t = .inl t' ∧ P (k + n) (itr g n k s) t'
  | 0, k, s, t, h, _ => ⟨t, by rw [itx_0], by rw [itr_0]; exact h⟩
  | n + 1, k, s, t, h, hs => by
    obtain ⟨t1, e1, p1⟩ := hs k s t (Nat.le_refl k) (by omega) h
    rw [itx_l e1, itr_s, show k + (n + 1) = (k + 1) + n by omega]
    exact itx_rel P n (k + 1) _ _ p1 (fun j s t h1 h2 => hs j s t (by omega) (by omega))
section BEST
variable {nl nt np nr : Nat} {r5 r6 q4 q5 q6 q7 : Nat → Int32}
theorem ms_e (h : DkR nl nt np nr r5 r6 q4 q5 q6 q7) {l i : Int32} (b : Int32) (hl : 0 ≤ l ∧ l < nI nl) (hi : 0 ≤ i ∧ i < nI nt) (hc : 0 < Cn (pC r5 l) 40) : itr (lp_mbI_st q6 (pM q4 l) (XM q4 q5 l i b) (YM q4 q5 l i b)) np 0 0 = Int32.toInt64 (itr (lp_ms_st r5 (pC r5 l) (XC r5 l i b) (YC r5 l i b)) np 0 0) ∧ 0 ≤ (itr (lp_ms_st r5 (pC r5 l) (XC r5 l i b) (YC r5 l i b)) np 0 0).toInt ∧ (itr (lp_ms_st r5 (pC r5 l) (XC r5 l i b) (YC r5 l i b)) np 0 0).toInt ≤ 92160000 := by
  have hnp := h.2.1.2.2.1
  have key := itr_rel (fun j (s : Int32) (t : Int64) => t = Int32.toInt64 s ∧ 0 ≤ s.toInt ∧ s.toInt ≤ j * 11520000) (f := lp_ms_st r5 (pC r5 l) (XC r5 l i b) (YC r5 l i b)) (g := lp_mbI_st q6 (pM q4 l) (XM q4 q5 l i b) (YM q4 q5 l i b)) np 0 0 0 ⟨rfl, by decide, by decide⟩ (fun j s t h1 h2 hst => by
    obtain ⟨e, p0, p1⟩ := hst
    have hj : 0 ≤ nI j ∧ nI j < nI np := ⟨nI_pos' (by omega), nI_lt (by omega) (by omega)⟩
    obtain ⟨d1, d2, d3, d4⟩ := dk_px h hj
    have em := e_miss hc (cv_x h b hl hi z0 z0) (cv_y h b hl hi z0 z0) (bx_x h b hl hi z0) (bx_y h b hl hi z0) d3 d4 d1 d2
    unfold lp_ms_st lp_mbI_st
    have el : lmM (pM q4 l) (XM q4 q5 l i b) (YM q4 q5 l i b) q6 (nI j) = lmC (pC r5 l) (XC r5 l i b) (YC r5 l i b) (Px r5 (nI j)) (Py r5 (nI j)) := by
      unfold lmM lmC
      rw [cn_e h hl]; exact em.1.symm
    have bl : 0 ≤ (lmC (pC r5 l) (XC r5 l i b) (YC r5 l i b) (Px r5 (nI j)) (Py r5 (nI j))).toInt ∧ (lmC (pC r5 l) (XC r5 l i b) (YC r5 l i b) (Px r5 (nI j)) (Py r5 (nI j))).toInt ≤ 11520000 := em.2
    rw [el, e]
    generalize lmC (pC r5 l) (XC r5 l i b) (YC r5 l i b) (Px r5 (nI j)) (Py r5 (nI j)) = d at *
    have ea : (s + d).toInt = s.toInt + d.toInt := i32_add (by omega)
    refine ⟨?_, by omega, by rw [ea]; omega⟩
    rw [i64_of32, i64_of32 d, i64_of32 (s + d), ea, ← Int64.ofInt_add])
  obtain ⟨k1, k2, k3⟩ := key
  exact ⟨k1, k2, by omega⟩
theorem best_e (h : DkR nl nt np nr r5 r6 q4 q5 q6 q7) {l : Int32} (b : Int32) (hl : 0 ≤ l ∧ l < nI nl) (hn : 0 < nt) (hp : 0 < np) (hc : 0 < Cn (pC r5 l) 40) : ∃ w : Int64, itx (fun k (s : Int32 × Int64) => lp_mbO_st q6 np (pM q4 l) (fun i => XM q4 q5 l i b) (fun i => YM q4 q5 l i b) k s.1 s.2) nt 0 (-1, 0) = .inl ((itr (fun k (s : Int32 × Int32) => lp_best_st r5 (pC r5 l) (fun i => XC r5 l i b) (fun i => YC r5 l i b) np k s.1 s.2) (nt - 1) 1 (0, (itr (lp_ms_st r5 (pC r5 l) (XC r5 l 0 b) (YC r5 l 0 b)) np 0 0))).1, w) ∧ ¬ (itr (fun k (s : Int32 × Int32) => lp_best_st r5 (pC r5 l) (fun i => XC r5 l i b) (fun i => YC r5 l i b) np k s.1 s.2) (nt - 1) 1 (0, (itr (lp_ms_st r5 (pC r5 l) (XC r5 l 0 b) (YC r5 l 0 b)) np 0 0))).1 = -1 := by
  have hnt := h.2.1.2.1
  have hnp := h.2.1.2.2.1
  have nc : ¬ nI (Cn (pM q4 l) 40) = 0 := by rw [cn_e h hl]; exact nI_nz hc (cn_le _ 40)
  have nn : ¬ nI np = 0 := nI_nz hp (by omega)
  have M : ∀ k, k < nt → _ := fun k hk => ms_e h (i := nI k) b hl ⟨nI_pos' (by omega), nI_lt hk (by omega)⟩ hc
  obtain ⟨n, rfl⟩ : ∃ n, nt = n + 1 := ⟨nt - 1, by omega⟩
  have M0 := M 0 (by omega)
  have f0 : (fun k (s : Int32 × Int64) => lp_mbO_st q6 np (pM q4 l) (fun i => XM q4 q5 l i b) (fun i => YM q4 q5 l i b) k s.1 s.2) 0 (-1, 0) = .inl (nI 0, Int32.toInt64 (itr (lp_ms_st r5 (pC r5 l) (XC r5 l 0 b) (YC r5 l 0 b)) np 0 0)) := by
    show lp_mbO_st q6 np (pM q4 l) (fun i => XM q4 q5 l i b) (fun i => YM q4 q5 l i b) 0 (-1) 0 = _
    unfold lp_mbO_st
    rw [if_neg nc, if_neg nn, if_pos rfl, M0.1]
    rfl
  rw [itx_l f0, Nat.add_sub_cancel]
  obtain ⟨t', e', p'⟩ := itx_rel (fun j (s : Int32 × Int32) (t : Int32 × Int64) => t = (s.1, Int32.toInt64 s.2) ∧ ∃ i, i < j ∧ s.1 = nI i) (g := fun k (s : Int32 × Int32) => lp_best_st r5 (pC r5 l) (fun i => XC r5 l i b) (fun i => YC r5 l i b) np k s.1 s.2) (f := fun k (s : Int32 × Int64) => lp_mbO_st q6 np (pM q4 l) (fun i => XM q4 q5 l i b) (fun i => YM q4 q5 l i b) k s.1 s.2) n 1 (0, (itr (lp_ms_st r5 (pC r5 l) (XC r5 l 0 b) (YC r5 l 0 b)) np 0 0)) (nI 0, Int32.toInt64 (itr (lp_ms_st r5 (pC r5 l) (XC r5 l 0 b) (YC r5 l 0 b)) np 0 0)) ⟨rfl, 0, by omega, rfl⟩ (fun j s t h1 h2 hst => by
    obtain ⟨s1, s2⟩ := s
    obtain ⟨et, i, hi, ei⟩ := hst
    have Mj := M j (by omega)
    subst et
    simp only at ei ⊢
    have n1 : ¬ s1 = -1 := by rw [ei]; exact nI_nm1 (by omega)
    unfold lp_mbO_st lp_best_st
    rw [if_neg nc, if_neg nn, if_neg n1, Mj.1]
    have cmp : Int32.toInt64 s2 ≤ Int32.toInt64 (itr (lp_ms_st r5 (pC r5 l) (XC r5 l (nI j) b) (YC r5 l (nI j) b)) np 0 0) ↔ s2 ≤ itr (lp_ms_st r5 (pC r5 l) (XC r5 l (nI j) b) (YC r5 l (nI j) b)) np 0 0 := by
      rw [Int64.le_iff_toInt_le, Int32.toInt_toInt64, Int32.toInt_toInt64, Int32.le_iff_toInt_le]
    by_cases c : s2 ≤ itr (lp_ms_st r5 (pC r5 l) (XC r5 l (nI j) b) (YC r5 l (nI j) b)) np 0 0
    · rw [if_pos c, if_pos (cmp.mpr c)]
      exact ⟨_, rfl, rfl, i, by omega, ei⟩
    · rw [if_neg c, if_neg (fun z => c (cmp.mp z))]
      exact ⟨_, rfl, rfl, j, by omega, rfl⟩)
  obtain ⟨et, i, hi, ei⟩ := p'
  refine ⟨_, by rw [e', et], ?_⟩
  rw [ei]; exact nI_nm1 (by omega)
theorem best_0 {l b : Int32} (hp : np = 0 ∨ Cn (pM q4 l) 40 = 0) (hn : 0 < nt) : itx (fun k (s : Int32 × Int64) => lp_mbO_st q6 np (pM q4 l) (fun i => XM q4 q5 l i b) (fun i => YM q4 q5 l i b) k s.1 s.2) nt 0 (-1, 0) = .inr (-1) := by
  obtain ⟨n, rfl⟩ : ∃ n, nt = n + 1 := ⟨nt - 1, by omega⟩
  refine itx_r ?_
  unfold lp_mbO_st
  by_cases c : nI (Cn (pM q4 l) 40) = 0
  · rw [if_pos c]
  · rw [if_neg c]
    rcases hp with hp | hp
    · rw [if_pos (by rw [hp]; rfl)]
    · exact absurd (by rw [hp]; rfl) c
end BEST
