/-! COORDINATES: what a tracer traces, by the class -/
def cH0 (q : Nat → Int32) (l m n : Int32) (k : Nat) : Int := m.toInt * iX (Bg q l).toInt (Ba q l).toInt k - n.toInt * iY (Ba q l).toInt k
def cH1 (q : Nat → Int32) (l m n : Int32) (k : Nat) : Int := m.toInt * iY (Ba q l).toInt k + n.toInt * iX (Bg q l).toInt (Ba q l).toInt k
abbrev pS (q : Nat → Int32) (l : Int32) (k : Nat) : Int64 := Ps_s (Bg q l) (Ba q l) (nI k)
abbrev pE (q : Nat → Int32) (l : Int32) (k : Nat) : Int64 := Ps_e (Bg q l) (Ba q l) (Bb q l) (Bc q l) (nI k)
abbrev pK (q : Nat → Int32) (l : Int32) (k : Nat) : Int64 := Ps_k (Bg q l) (Ba q l) (Bb q l) (Bc q l) (nI k)
abbrev pX (q : Nat → Int32) (l : Int32) (k : Nat) : Int64 := Ps_x (Bg q l) (Ba q l) (nI k)
abbrev pY (q : Nat → Int32) (l : Int32) (k : Nat) : Int64 := Ps_y (Ba q l) (nI k)
abbrev cU0 (q : Nat → Int32) (l m n : Int32) (k : Nat) : Int64 := Tr_ux (pS q l k) (Int32.toInt64 (Ba q l)) (Ps_c (nI k)) (pE q l k) (pX q l k) (pY q l k) m n
abbrev cV0 (q : Nat → Int32) (l m n b : Int32) (k : Nat) : Int64 := Tr_vx (pX q l k) (pY q l k) m n b
abbrev cU1 (q : Nat → Int32) (l m n : Int32) (k : Nat) : Int64 := Tr_uy (Ps_d (nI k)) (pS q l k) (Int32.toInt64 (Ba q l)) (pE q l k) (pX q l k) (pY q l k) m n
abbrev cV1 (q : Nat → Int32) (l m n b : Int32) (k : Nat) : Int64 := Tr_vy (pX q l k) (pY q l k) m n b
abbrev cW (q : Nat → Int32) (l : Int32) (k : Nat) : Int64 := 2 * pS q l k * Ps_n (nI k)
def cX (q : Nat → Int32) (l m n b : Int32) (k : Nat) : Int32 := Int64.toInt32 (FlC (cU0 q l m n k) (cV0 q l m n b k) (cW q l k) (sqN (cV0 q l m n b k) (pK q l k)))
def cY (q : Nat → Int32) (l m n b : Int32) (k : Nat) : Int32 := Int64.toInt32 (FlC (cU1 q l m n k) (cV1 q l m n b k) (cW q l k) (sqN (cV1 q l m n b k) (pK q l k)))
theorem gen_le {T E H K Z : Int} (hT : 0 < T) (hE : E * E ≤ 1296 * T) (hH : H * H ≤ 800 * T) (hK0 : 0 ≤ K) (hK : K ≤ 1296 * T) (hZ : Z.natAbs ≤ 360 * T.natAbs) :
    (Z + E * H).natAbs ≤ 1379 * T.natAbs ∧ 0 ≤ H * H * K ∧ H * H * K ≤ 1036800 * (T * T) := by
  have e1 : (E * H) * (E * H) = (E * E) * (H * H) := by grind
  have h1 : (E * E) * (H * H) ≤ (1296 * T) * (800 * T) := Int.mul_le_mul hE hH (sq_nn H) (by omega)
  have e2 : (1296 * T) * (800 * T) = 1036800 * (T * T) := by grind
  have e3 : (1019 * T) * (1019 * T) = 1038361 * (T * T) := by grind
  have hTT := sq_nn T
  have h2 : (E * H).natAbs ≤ (1019 * T).natAbs := by
    apply sq_le
    have a1 := Int.natAbs_mul_self (a := E * H)
    have a2 := Int.natAbs_mul_self (a := 1019 * T)
    omega
  have h3 : H * H * K ≤ (800 * T) * (1296 * T) := Int.mul_le_mul hH hK hK0 (by omega)
  have e4 : (800 * T) * (1296 * T) = 1036800 * (T * T) := by grind
  refine ⟨by omega, Int.mul_nonneg (sq_nn H) hK0, by omega⟩
theorem fl_le {U d T : Int} (hT : 0 < T) (hU : U.natAbs ≤ 1379 * T.natAbs) (hd : d.natAbs ≤ 1019 * T.natAbs + 1) : ((U + d) / (2 * T)).natAbs ≤ 1200 := by
  have h1 : (U + d) / (2 * T) < 1201 := Int.ediv_lt_of_lt_mul (by omega) (by omega)
  have h2 : -1200 ≤ (U + d) / (2 * T) := Int.le_ediv_of_mul_le (by omega) (by omega)
  omega
theorem rt_le {n b : Nat} (h : n < 2 ^ 63) (h2 : n ≤ b * b) : rt n ≤ b := sq_le (by have := (rt_spec h).1; omega)
abbrev t20 (x : Int32) : Prop := -20 ≤ x.toInt ∧ x.toInt ≤ 20
/-- the whole numbers of a lawful position -/
theorem law_T {q : Nat → Int32} {l : Int32} {k : Nat} (hB : okB q l) (h : k < 40) (hL : lawP q l k) :
    0 < iS (Bg q l).toInt (Ba q l).toInt k * iN k ∧ iS (Bg q l).toInt (Ba q l).toInt k * iN k ≤ 2178576 ∧
    iE (Bg q l).toInt (Ba q l).toInt (Bb q l).toInt (Bc q l).toInt k * iE (Bg q l).toInt (Ba q l).toInt (Bb q l).toInt (Bc q l).toInt k ≤ 1296 * (iS (Bg q l).toInt (Ba q l).toInt k * iN k) ∧
    0 ≤ iK (Bg q l).toInt (Ba q l).toInt (Bb q l).toInt (Bc q l).toInt k ∧ iK (Bg q l).toInt (Ba q l).toInt (Bb q l).toInt (Bc q l).toInt k ≤ 1296 * (iS (Bg q l).toInt (Ba q l).toInt k * iN k) := by
  obtain ⟨hs, hk⟩ := (law_i hB h).mp hL
  obtain ⟨hg, ha, hb, hc⟩ := hB
  obtain ⟨n1, n2, n3, n4, n5, n6, n7, n8⟩ := tab_ncd k h
  have h0 : 0 < iS (Bg q l).toInt (Ba q l).toInt k * iN k := Int.mul_pos hs (by omega)
  have h1 := am (s_le hg ha h) n3
  have h2 : (Bb q l).toInt * (Bb q l).toInt ≤ 18 * 18 := Int.mul_le_mul hb.2 hb.2 (by have := hb.1; omega) (by omega)
  have h3 := Int.mul_le_mul_of_nonneg_right h2 (Int.le_of_lt h0)
  have e1 : iK (Bg q l).toInt (Ba q l).toInt (Bb q l).toInt (Bc q l).toInt k = 4 * ((Bb q l).toInt * (Bb q l).toInt * (iS (Bg q l).toInt (Ba q l).toInt k * iN k)) - iE (Bg q l).toInt (Ba q l).toInt (Bb q l).toInt (Bc q l).toInt k * iE (Bg q l).toInt (Ba q l).toInt (Bb q l).toInt (Bc q l).toInt k := by unfold iK; grind
  have h4 := sq_nn (iE (Bg q l).toInt (Ba q l).toInt (Bb q l).toInt (Bc q l).toInt k)
  refine ⟨h0, by omega, by omega, hk, by omega⟩
theorem h_sum {q : Nat → Int32} {l m n : Int32} {k : Nat} (h : k < 40) (hm : t20 m) (hn : t20 n) :
    cH0 q l m n k * cH0 q l m n k ≤ 800 * (iS (Bg q l).toInt (Ba q l).toInt k * iN k) ∧ cH1 q l m n k * cH1 q l m n k ≤ 800 * (iS (Bg q l).toInt (Ba q l).toInt k * iN k) := by
  have e := xy_sn (g := (Bg q l).toInt) (a := (Ba q l).toInt) h
  have e1 : cH0 q l m n k * cH0 q l m n k + cH1 q l m n k * cH1 q l m n k = (m.toInt * m.toInt + n.toInt * n.toInt) * (iX (Bg q l).toInt (Ba q l).toInt k * iX (Bg q l).toInt (Ba q l).toInt k + iY (Ba q l).toInt k * iY (Ba q l).toInt k) := by unfold cH0 cH1; grind
  rw [e] at e1
  have h1 := am (show m.toInt.natAbs ≤ 20 by have := hm.1; have := hm.2; omega) (show m.toInt.natAbs ≤ 20 by have := hm.1; have := hm.2; omega)
  have h2 := am (show n.toInt.natAbs ≤ 20 by have := hn.1; have := hn.2; omega) (show n.toInt.natAbs ≤ 20 by have := hn.1; have := hn.2; omega)
  have h3 : 0 ≤ iS (Bg q l).toInt (Ba q l).toInt k * iN k := by rw [← e]; have := sq_nn (iX (Bg q l).toInt (Ba q l).toInt k); have := sq_nn (iY (Ba q l).toInt k); omega
  have h4 : (m.toInt * m.toInt + n.toInt * n.toInt) * (iS (Bg q l).toInt (Ba q l).toInt k * iN k) ≤ 800 * (iS (Bg q l).toInt (Ba q l).toInt k * iN k) := Int.mul_le_mul_of_nonneg_right (by omega) h3
  have h5 := sq_nn (cH0 q l m n k)
  have h6 := sq_nn (cH1 q l m n k)
  omega
/-- one coordinate -/
theorem coord {T U V K : Int} {u v w k : Int64} (hT : 0 < T) (hT2 : T ≤ 2178576) (hU : U.natAbs ≤ 1379 * T.natAbs) (hu : u = Int64.ofInt U) (hv : v * v * k = Int64.ofInt (V * V * K)) (hw : w = Int64.ofInt (2 * T)) (hV0 : 0 ≤ V * V * K) (hV : V * V * K ≤ 1036800 * (T * T)) (hV2 : V * V * K < 2 ^ 62) :
    okS v k ∧ 0 < w ∧ FlC u v w (sqN v k) = FlM u v w (sqN v k) ∧ (Int64.toInt32 (FlC u v w (sqN v k))).toInt.natAbs ≤ 1200 ∧ (Int64.toInt32 (FlC u v w (sqN v k))).toInt = (FlC u v w (sqN v k)).toInt := by
  have t1 : (v * v * k).toInt = V * V * K := by rw [hv]; exact ofI_T (by omega) (by omega)
  have ok : okS v k := ⟨by rw [t1]; exact hV0, by rw [t1]; exact hV2⟩
  have t2 : w.toInt = 2 * T := by rw [hw]; exact ofI_T (by omega) (by omega)
  have t3 : u.toInt = U := by rw [hu]; exact ofI_T (by omega) (by omega)
  obtain ⟨h1, d, hd, h2⟩ := flo_eq (v := v) (okS_lt ok) (w := w) (by rw [t2]; omega) (by rw [t2]; omega) (u := u) (by rw [t3]; omega) (by rw [t3]; omega)
  have hn : sqN v k = (V * V * K).toNat := by unfold sqN; rw [t1]
  have e3 : (1019 * T.natAbs) * (1019 * T.natAbs) = 1038361 * (T.natAbs * T.natAbs) := by grind
  have e4 := Int.natAbs_mul_self (a := T)
  have hr : rt (sqN v k) ≤ 1019 * T.natAbs := rt_le (by have := okS_lt ok; omega) (by rw [hn, e3]; omega)
  have h3 := fl_le (d := d) hT hU (by rcases hd with z | z | z <;> omega)
  rw [t2, t3] at h2
  have h4 : (Int64.toInt32 (FlC u v w (sqN v k))).toInt = (FlC u v w (sqN v k)).toInt := by
    rw [Int64.toInt_toInt32]
    exact Int.bmod_eq_of_le (by rw [h2]; omega) (by rw [h2]; omega)
  refine ⟨ok, Int64.lt_iff_toInt_lt.mpr (by rw [t2]; show (0 : Int) < _; omega), h1, by rw [h4, h2]; exact h3, h4⟩
theorem sgn_sq (b : Int32) : Sgn b = Int64.ofInt (if b = 0 then 1 else -1) := by
  unfold Sgn
  by_cases h : b = 0
  · rw [if_pos h, if_pos h]; rfl
  · rw [if_neg h, if_neg h]; rfl
theorem sg2 (b : Int32) (x : Int) : (x * (if b = 0 then 1 else -1)) * (x * (if b = 0 then 1 else -1)) = x * x := by
  by_cases h : b = 0
  · rw [if_pos h]; grind
  · rw [if_neg h]; grind
abbrev Bx (x : Int32) : Prop := x.toInt.natAbs ≤ 1200
theorem cX_ok {q : Nat → Int32} {l m n : Int32} (b : Int32) {k : Nat} (hB : okB q l) (h : k < 40) (hL : lawP q l k) (hm : t20 m) (hn : t20 n) :
    okS (cV0 q l m n b k) (pK q l k) ∧ 0 < cW q l k ∧ FlC (cU0 q l m n k) (cV0 q l m n b k) (cW q l k) (sqN (cV0 q l m n b k) (pK q l k)) = FlM (cU0 q l m n k) (cV0 q l m n b k) (cW q l k) (sqN (cV0 q l m n b k) (pK q l k)) ∧ Bx (cX q l m n b k) := by
  obtain ⟨hT, hT2, hE, hK0, hK⟩ := law_T hB h hL
  obtain ⟨hH0, hH1⟩ := h_sum (q := q) (l := l) h hm hn
  have n5 := (tab_ncd k h).2.2.2.2.1
  have hZ : (20 * (Ba q l).toInt * iC k * iS (Bg q l).toInt (Ba q l).toInt k).natAbs ≤ 360 * (iS (Bg q l).toInt (Ba q l).toInt k * iN k).natAbs := by
    have h1 := am (am (am (show (20 : Int).natAbs ≤ 20 by decide) (b18a hB.2.1)) n5) (Nat.le_refl (iS (Bg q l).toInt (Ba q l).toInt k).natAbs)
    rw [Int.natAbs_mul (iS (Bg q l).toInt (Ba q l).toInt k)]
    have e : 20 * 18 * (iN k).natAbs * (iS (Bg q l).toInt (Ba q l).toInt k).natAbs = 360 * ((iS (Bg q l).toInt (Ba q l).toInt k).natAbs * (iN k).natAbs) := by grind
    omega
  have g1 := (gen_le hT hE hH0 hK0 hK hZ).1
  obtain ⟨_, g2, g3⟩ := gen_le hT hE hH1 hK0 hK hZ
  have kb := k_le (g := (Bg q l).toInt) (a := (Ba q l).toInt) hB.2.2.1 hB.2.2.2 h
  have hv2 : cH1 q l m n k * cH1 q l m n k * iK (Bg q l).toInt (Ba q l).toInt (Bb q l).toInt (Bc q l).toInt k ≤ 1742860800 * 705858624 := Int.mul_le_mul (by omega) kb hK0 (by omega)
  have eV : cV0 q l m n b k = Int64.ofInt (-(cH1 q l m n k) * (if b = 0 then 1 else -1)) := by
    unfold cV0 Tr_vx pX pY cH1
    rw [ps_x _ _ h, ps_y _ h, sgn_sq, i64_of32, i64_of32]
    simp only [Int64.ofInt_add, Int64.ofInt_mul, Int64.ofInt_neg]
  have hv : cV0 q l m n b k * cV0 q l m n b k * pK q l k = Int64.ofInt (cH1 q l m n k * cH1 q l m n k * iK (Bg q l).toInt (Ba q l).toInt (Bb q l).toInt (Bc q l).toInt k) := by
    rw [eV, show pK q l k = _ from ps_k _ _ _ _ h, ← Int64.ofInt_mul, ← Int64.ofInt_mul, sg2]
    congr 1
    grind
  obtain ⟨a1, a2, a3, a4, a5⟩ := coord (u := cU0 q l m n k) (v := cV0 q l m n b k) (w := cW q l k) hT hT2 g1 (by
      unfold cU0 Tr_ux pS pE pX pY cH0
      rw [ps_s _ _ h, ps_e _ _ _ _ h, ps_x _ _ h, ps_y _ h, ps_c k h, i64_of32, i64_of32, i64_of32, lq20]
      simp only [Int64.ofInt_add, Int64.ofInt_sub, Int64.ofInt_mul]) hv (by
      unfold cW pS
      rw [ps_s _ _ h, ps_n k h, lq2]
      simp only [Int64.ofInt_mul]
      grind) g2 g3 (by omega)
  exact ⟨a1, a2, a3, a4⟩
theorem cY_ok {q : Nat → Int32} {l m n : Int32} (b : Int32) {k : Nat} (hB : okB q l) (h : k < 40) (hL : lawP q l k) (hm : t20 m) (hn : t20 n) :
    okS (cV1 q l m n b k) (pK q l k) ∧ 0 < cW q l k ∧ FlC (cU1 q l m n k) (cV1 q l m n b k) (cW q l k) (sqN (cV1 q l m n b k) (pK q l k)) = FlM (cU1 q l m n k) (cV1 q l m n b k) (cW q l k) (sqN (cV1 q l m n b k) (pK q l k)) ∧ Bx (cY q l m n b k) := by
  obtain ⟨hT, hT2, hE, hK0, hK⟩ := law_T hB h hL
  obtain ⟨hH0, hH1⟩ := h_sum (q := q) (l := l) h hm hn
  have n5 := (tab_ncd k h).2.2.2.2.2.2.1
  have hZ : (20 * (Ba q l).toInt * iD k * iS (Bg q l).toInt (Ba q l).toInt k).natAbs ≤ 360 * (iS (Bg q l).toInt (Ba q l).toInt k * iN k).natAbs := by
    have h1 := am (am (am (show (20 : Int).natAbs ≤ 20 by decide) (b18a hB.2.1)) n5) (Nat.le_refl (iS (Bg q l).toInt (Ba q l).toInt k).natAbs)
    rw [Int.natAbs_mul (iS (Bg q l).toInt (Ba q l).toInt k)]
    have e : 20 * 18 * (iN k).natAbs * (iS (Bg q l).toInt (Ba q l).toInt k).natAbs = 360 * ((iS (Bg q l).toInt (Ba q l).toInt k).natAbs * (iN k).natAbs) := by grind
    omega
  have g1 := (gen_le hT hE hH1 hK0 hK hZ).1
  obtain ⟨_, g2, g3⟩ := gen_le hT hE hH0 hK0 hK hZ
  have kb := k_le (g := (Bg q l).toInt) (a := (Ba q l).toInt) hB.2.2.1 hB.2.2.2 h
  have hv2 : cH0 q l m n k * cH0 q l m n k * iK (Bg q l).toInt (Ba q l).toInt (Bb q l).toInt (Bc q l).toInt k ≤ 1742860800 * 705858624 := Int.mul_le_mul (by omega) kb hK0 (by omega)
  have eV : cV1 q l m n b k = Int64.ofInt (cH0 q l m n k * (if b = 0 then 1 else -1)) := by
    unfold cV1 Tr_vy pX pY cH0
    rw [ps_x _ _ h, ps_y _ h, sgn_sq, i64_of32, i64_of32]
    simp only [Int64.ofInt_sub, Int64.ofInt_mul]
  have hv : cV1 q l m n b k * cV1 q l m n b k * pK q l k = Int64.ofInt (cH0 q l m n k * cH0 q l m n k * iK (Bg q l).toInt (Ba q l).toInt (Bb q l).toInt (Bc q l).toInt k) := by
    rw [eV, show pK q l k = _ from ps_k _ _ _ _ h, ← Int64.ofInt_mul, ← Int64.ofInt_mul, sg2]
  obtain ⟨a1, a2, a3, a4, a5⟩ := coord (u := cU1 q l m n k) (v := cV1 q l m n b k) (w := cW q l k) hT hT2 g1 (by
      unfold cU1 Tr_uy pS pE pX pY cH1
      rw [ps_s _ _ h, ps_e _ _ _ _ h, ps_x _ _ h, ps_y _ h, ps_d k h, i64_of32, i64_of32, i64_of32, lq20]
      simp only [Int64.ofInt_add, Int64.ofInt_sub, Int64.ofInt_mul]) hv (by
      unfold cW pS
      rw [ps_s _ _ h, ps_n k h, lq2]
      simp only [Int64.ofInt_mul]
      grind) g2 g3 (by omega)
  exact ⟨a1, a2, a3, a4⟩
