/-! CURVES of both sides -/
abbrev pC (r5 : Nat → Int32) (l : Int32) : Nat → Bool := fun k => decide (lawP r5 l k)
abbrev pM (q4 : Nat → Int32) (l : Int32) : Nat → Bool := fun k => decide (lawM q4 l k)
abbrev XC (r5 : Nat → Int32) (l i b : Int32) : Nat → Int32 := fun k => cX r5 l (Cm r5 i) (Cq r5 i) b k
abbrev YC (r5 : Nat → Int32) (l i b : Int32) : Nat → Int32 := fun k => cY r5 l (Cm r5 i) (Cq r5 i) b k
abbrev XM (q4 q5 : Nat → Int32) (l i b : Int32) : Nat → Int32 := fun k => mX q4 q5 l i b k
abbrev YM (q4 q5 : Nat → Int32) (l i b : Int32) : Nat → Int32 := fun k => mY q4 q5 l i b k
theorem cXq {q q' : Nat → Int32} {l m n b : Int32} {k : Nat} (h1 : Bg q l = Bg q' l) (h2 : Ba q l = Ba q' l) (h3 : Bb q l = Bb q' l) (h4 : Bc q l = Bc q' l) : cX q l m n b k = cX q' l m n b k ∧ cY q l m n b k = cY q' l m n b k := by
  unfold cX cY
  simp only [cU0, cV0, cU1, cV1, cW, pS, pE, pK, pX, pY, h1, h2, h3, h4]
  exact ⟨trivial, trivial⟩
section CURV
variable {nl nt np nr : Nat} {r5 r6 q4 q5 q6 q7 : Nat → Int32}
theorem cC_e (h : DkR nl nt np nr r5 r6 q4 q5 q6 q7) {l i : Int32} (b : Int32) (hl : 0 ≤ l ∧ l < nI nl) (hi : 0 ≤ i ∧ i < nI nt) {k : Nat} (hk : k < 40) (hL : lawP r5 l k) : XC r5 l i b k = XM q4 q5 l i b k ∧ YC r5 l i b k = YM q4 q5 l i b k ∧ Bx (XC r5 l i b k) ∧ Bx (YC r5 l i b k) := by
  obtain ⟨b1, b2, b3, b4, b5⟩ := dk_bars h hl
  obtain ⟨c1, c2, c3, c4⟩ := dk_tr h hi
  have hP := (lawP_e h hl k).mp hL
  unfold XC YC XM YM
  rw [c1, c2, (cXq b1 b2 b3 b4).1, (cXq b1 b2 b3 b4).2, mx_cx b5 hk hP c3 c4, my_cy b5 hk hP c3 c4]
  exact ⟨rfl, rfl, (cX_ok b b5 hk hP c3 c4).2.2.2, (cY_ok b b5 hk hP c3 c4).2.2.2⟩
theorem pp_e (h : DkR nl nt np nr r5 r6 q4 q5 q6 q7) {l : Int32} (hl : 0 ≤ l ∧ l < nI nl) {k : Nat} (hk : k < 40) : pC r5 l k = pM q4 l k := decide_eq_decide.mpr ((lawP_e h hl k).trans (law_mp hk).symm)
theorem cn_e (h : DkR nl nt np nr r5 r6 q4 q5 q6 q7) {l : Int32} (hl : 0 ≤ l ∧ l < nI nl) : Cn (pM q4 l) 40 = Cn (pC r5 l) 40 := (cn_cong 40 (fun k hk => pp_e h hl hk)).symm
theorem cv_n (h : DkR nl nt np nr r5 r6 q4 q5 q6 q7) {l : Int32} (hl : 0 ≤ l ∧ l < nI nl) (r r' : Nat → Int32) : ∀ j, j < Cn (pC r5 l) 40 → crv (pC r5 l) nI r 40 j = crv (pM q4 l) nI r' 40 j := fun j hj =>
  (crv_un _ _ r r' 40 j hj).trans (congrFun (crv_cong (p := pC r5 l) (p' := pM q4 l) (f := nI) (f' := nI) r' 40 (fun i hi => pp_e h hl hi) (fun i hi _ => rfl)).2 j)
theorem cv_x (h : DkR nl nt np nr r5 r6 q4 q5 q6 q7) {l i : Int32} (b : Int32) (hl : 0 ≤ l ∧ l < nI nl) (hi : 0 ≤ i ∧ i < nI nt) (r r' : Nat → Int32) : ∀ j, j < Cn (pC r5 l) 40 → crv (pC r5 l) (XC r5 l i b) r 40 j = crv (pM q4 l) (XM q4 q5 l i b) r' 40 j := fun j hj =>
  (crv_un _ _ r r' 40 j hj).trans (congrFun (crv_cong (p := pC r5 l) (p' := pM q4 l) (f := XC r5 l i b) (f' := XM q4 q5 l i b) r' 40 (fun i hi => pp_e h hl hi) (fun k hk hp => (cC_e h b hl hi hk (of_decide_eq_true hp)).1)).2 j)
theorem cv_y (h : DkR nl nt np nr r5 r6 q4 q5 q6 q7) {l i : Int32} (b : Int32) (hl : 0 ≤ l ∧ l < nI nl) (hi : 0 ≤ i ∧ i < nI nt) (r r' : Nat → Int32) : ∀ j, j < Cn (pC r5 l) 40 → crv (pC r5 l) (YC r5 l i b) r 40 j = crv (pM q4 l) (YM q4 q5 l i b) r' 40 j := fun j hj =>
  (crv_un _ _ r r' 40 j hj).trans (congrFun (crv_cong (p := pC r5 l) (p' := pM q4 l) (f := YC r5 l i b) (f' := YM q4 q5 l i b) r' 40 (fun i hi => pp_e h hl hi) (fun k hk hp => (cC_e h b hl hi hk (of_decide_eq_true hp)).2.1)).2 j)
theorem bx_x (h : DkR nl nt np nr r5 r6 q4 q5 q6 q7) {l i : Int32} (b : Int32) (hl : 0 ≤ l ∧ l < nI nl) (hi : 0 ≤ i ∧ i < nI nt) (r : Nat → Int32) : ∀ j, j < Cn (pC r5 l) 40 → Bx (crv (pC r5 l) (XC r5 l i b) r 40 j) := fun j hj => crv_all (P := Bx) _ _ r 40 j (fun k hk hp => (cC_e h b hl hi hk (of_decide_eq_true hp)).2.2.1) hj
theorem bx_y (h : DkR nl nt np nr r5 r6 q4 q5 q6 q7) {l i : Int32} (b : Int32) (hl : 0 ≤ l ∧ l < nI nl) (hi : 0 ≤ i ∧ i < nI nt) (r : Nat → Int32) : ∀ j, j < Cn (pC r5 l) 40 → Bx (crv (pC r5 l) (YC r5 l i b) r 40 j) := fun j hj => crv_all (P := Bx) _ _ r 40 j (fun k hk hp => (cC_e h b hl hi hk (of_decide_eq_true hp)).2.2.2) hj
theorem okC (h : DkR nl nt np nr r5 r6 q4 q5 q6 q7) {l i : Int32} (b : Int32) (hl : 0 ≤ l ∧ l < nI nl) (hi : 0 ≤ i ∧ i < nI nt) (k : Nat) (hk : k < 40) (hL : lawP r5 l k) : okS (cV0 r5 l (Cm r5 i) (Cq r5 i) b k) (pK r5 l k) ∧ okS (cV1 r5 l (Cm r5 i) (Cq r5 i) b k) (pK r5 l k) ∧ 0 < cW r5 l k := by
  have t := dk_t20 h hi
  have x := cX_ok b (dk_okB h hl) hk hL t.1 t.2
  have y := cY_ok b (dk_okB h hl) hk hL t.1 t.2
  exact ⟨x.1, y.1, x.2.1⟩
theorem okM (h : DkR nl nt np nr r5 r6 q4 q5 q6 q7) {l i : Int32} (b : Int32) (hl : 0 ≤ l ∧ l < nI nl) (hi : 0 ≤ i ∧ i < nI nt) (k : Nat) (hk : k < 40) (hL : lawM q4 l k) : okS (mV0 q4 q5 l i b k) (Ml_k q4 l (nI k)) ∧ okS (mV1 q4 q5 l i b k) (Ml_k q4 l (nI k)) ∧ 0 < mWd q4 l k := by
  obtain ⟨c1, c2, c3, c4⟩ := dk_tr h hi
  exact m_okS (dk_bars h hl).2.2.2.2 hk ((law_mp hk).mp hL) c3 c4
end CURV
/-! rows that agree -/
theorem nxc_lt' {c j : Nat} (h : j < c) : nxc c j < c := by unfold nxc; split <;> omega
theorem bend_cong {x y x' y' : Nat → Int32} {c : Nat} (hx : ∀ j, j < c → x j = x' j) (hy : ∀ j, j < c → y j = y' j) {i j k : Nat} (hi : i < c) (hj : j < c) (hk : k < c) : Cv_bend x y i j k = Cv_bend x' y' i j k := by
  unfold Cv_bend
  rw [hx i hi, hx j hj, hx k hk, hy i hi, hy j hj, hy k hk]
theorem ap_cong {x y x' y' : Nat → Int32} {c : Nat} (hx : ∀ j, j < c → x j = x' j) (hy : ∀ j, j < c → y j = y' j) {i j : Nat} (hi : i < c) (hj : j < c) : ApM x y i j = ApM x' y' i j := by
  unfold ApM
  rw [hx i hi, hx j hj, hy i hi, hy j hj]
theorem mcr_cong {x y x' y' : Nat → Int32} {c : Nat} (hx : ∀ j, j < c → x j = x' j) (hy : ∀ j, j < c → y j = y' j) : itr (lp_mcrO_st x' y' c) c 0 0 = itr (lp_mcrO_st x y c) c 0 0 := by
  refine itr_cong _ _ _ (fun j s h1 h2 => ?_)
  unfold lp_mcrO_st
  refine itr_cong _ _ _ (fun o s h3 h4 => ?_)
  have hj : j < c := by omega
  have ho : o < c := by omega
  have nj := nxc_lt' hj
  have no := nxc_lt' ho
  unfold lp_mcrI_st XcM
  rw [← bend_cong hx hy hj nj ho, ← bend_cong hx hy hj nj no, ← bend_cong hx hy ho no hj, ← bend_cong hx hy ho no nj]
theorem rm_cong {x y x' y' : Nat → Int32} {h : Int32} {c f t : Nat} (hx : ∀ j, j < c → x j = x' j) (hy : ∀ j, j < c → y j = y' j) (hf : f ≤ t) (ht : t < c) : isRm x y h f t ↔ isRm x' y' h f t := by
  have one : ∀ i, f ≤ i → i ≤ t → (farM x y h f t i ↔ farM x' y' h f t i) := by
    intro i h1 h2
    unfold farM
    rw [hx f (by omega), hx t ht, hy f (by omega), hy t ht, ap_cong hx hy (show i < c by omega) (show f < c by omega), ap_cong hx hy (show f < c by omega) ht, bend_cong hx hy (show f < c by omega) ht (show i < c by omega)]
  exact ⟨fun z i h1 h2 w => z i h1 h2 ((one i h1 h2).mpr w), fun z i h1 h2 w => z i h1 h2 ((one i h1 h2).mp w)⟩
theorem rn_rm {x y x' y' : Nat → Int32} {h : Int32} {c : Nat} (hh : 0 ≤ h ∧ h ≤ 100) (hx : ∀ j, j < c → x j = x' j) (hy : ∀ j, j < c → y j = y' j) (bx : ∀ j, j < c → Bx (x j)) (by_ : ∀ j, j < c → Bx (y j)) : ∀ F L, 0 < L → F + L ≤ c → (isRn x y h F (F + L - 1) ↔ isRm x' y' h F (F + L - 1)) := fun F L h1 h2 => (run_e hh bx by_ (by omega) (by omega)).trans (rm_cong hx hy (by omega) (by omega))
/-- one point alone is straight -/
theorem rn_1 {x y : Nat → Int32} {h : Int32} {F : Nat} : isRn x y h F (F + 1 - 1) := fun i h1 h2 => absurd h2 (by omega)
theorem cb_cong {x y x' y' : Nat → Int32} {c f : Nat} (hx : ∀ j, j < c → x j = x' j) (hy : ∀ j, j < c → y j = y' j) (hf : f < c) : cbM x' y' c f = cbM x y c f := by
  unfold cbM
  refine itr_cong' (fun _ s => s < c) _ _ _ hf (fun k s h1 h2 hs => ⟨?_, cb_st_lt (by omega) hs⟩)
  have hk : k < c := by omega
  unfold lp_cb_st
  rw [← hx k hk, ← hx f hf, ← hy k hk, ← hy f hf, ← bend_cong hx hy hf hs hk, ← ap_cong hx hy hk hf, ← ap_cong hx hy hs hf]
theorem wf_cong {x y x' y' : Nat → Int32} {c : Nat} (hx : ∀ j, j < c → x j = x' j) (hy : ∀ j, j < c → y j = y' j) (h0 : 0 < c) : itr (lp_wf_st x' y') (c - 1) 1 0 = itr (lp_wf_st x y) (c - 1) 1 0 ∧ itr (lp_wf_st x y) (c - 1) 1 0 < c := by
  constructor
  · refine itr_cong' (fun _ s => s < c) _ _ _ h0 (fun k s h1 h2 hs => ⟨?_, wf_st_lt (by omega) hs⟩)
    have hk : k < c := by omega
    unfold lp_wf_st
    rw [← hx k hk, ← hx s hs, ← hy k hk, ← hy s hs]
  · exact itr_inv' (fun _ s => s < c) _ (c - 1) 1 0 h0 (fun k s h1 h2 hs => wf_st_lt (by omega) hs)
theorem mar_cong {x y x' y' : Nat → Int32} {c t : Nat} (hx : ∀ j, j < c → x j = x' j) (hy : ∀ j, j < c → y j = y' j) (ht : t < c) : ∀ i, marA x' y' c t i = marA x y c t i ∧ marA x y c t i < c
  | 0 => ⟨rfl, ht⟩
  | i + 1 => by
    obtain ⟨e, l⟩ := mar_cong hx hy ht i
    show cbM x' y' c (marA x' y' c t i) = cbM x y c (marA x y c t i) ∧ cbM x y c (marA x y c t i) < c
    rw [e, cb_cong hx hy l]
    exact ⟨rfl, cbM_lt l⟩
theorem hl_ref {x y x' y' : Nat → Int32} {c : Nat} (so ch : Nat → Nat) (hc : c ≤ 40) (h0 : 0 < c) (hx : ∀ j, j < c → x j = x' j) (hy : ∀ j, j < c → y j = y' j) (bx : ∀ j, j < c → Bx (x j)) (by_ : ∀ j, j < c → Bx (y j)) :
    (1 ≤ hlN x y c so ch ∧ hlN x y c so ch ≤ 40 ∧ (x' (marA x' y' c (itr (lp_wf_st x' y') (c - 1) 1 0) (hlN x y c so ch)) = x' (marA x' y' c (itr (lp_wf_st x' y') (c - 1) 1 0) 0) ∧ y' (marA x' y' c (itr (lp_wf_st x' y') (c - 1) 1 0) (hlN x y c so ch)) = y' (marA x' y' c (itr (lp_wf_st x' y') (c - 1) 1 0) 0)) ∧ ∀ i, 0 < i → i < hlN x y c so ch → ¬ (x' (marA x' y' c (itr (lp_wf_st x' y') (c - 1) 1 0) i) = x' (marA x' y' c (itr (lp_wf_st x' y') (c - 1) 1 0) 0) ∧ y' (marA x' y' c (itr (lp_wf_st x' y') (c - 1) 1 0) i) = y' (marA x' y' c (itr (lp_wf_st x' y') (c - 1) 1 0) 0))) ∧ ∀ i, i < hlN x y c so ch → marA x' y' c (itr (lp_wf_st x' y') (c - 1) 1 0) i = (hlS x y c so ch).2 i ∧ (hlS x y c so ch).2 i < c := by
  obtain ⟨w1, w2⟩ := wf_cong hx hy h0
  obtain ⟨h1, h2, h3, h4, h5, h6, h7⟩ := hull_e so ch hc h0 bx by_
  obtain ⟨m1, m2⟩ := mar_e so ch hc h0 bx by_
  rw [w1]
  have A := mar_cong hx hy w2
  have a0 : marA x' y' c (itr (lp_wf_st x y) (c - 1) 1 0) 0 = (hlS x y c so ch).2 0 := (A 0).1.trans (m1 0 (by omega))
  have am : marA x' y' c (itr (lp_wf_st x y) (c - 1) 1 0) (hlN x y c so ch) = (hlS x y c so ch).2 0 := (A _).1.trans m2
  have ai : ∀ i, i < hlN x y c so ch → marA x' y' c (itr (lp_wf_st x y) (c - 1) 1 0) i = (hlS x y c so ch).2 i := fun i hi => (A i).1.trans (m1 i hi)
  refine ⟨⟨h2, h3, ?_, fun i hi hm => ?_⟩, fun i hi => ⟨ai i hi, h4 i hi⟩⟩
  · rw [a0, am]; exact ⟨rfl, rfl⟩
  · rw [a0, ai i hm, ← hx _ (h4 i hm), ← hx _ (h4 0 (by omega)), ← hy _ (h4 i hm), ← hy _ (h4 0 (by omega))]
    exact h7 i hi hm
theorem ha_e {x y x' y' : Nat → Int32} {c m : Nat} {A ch : Nat → Nat} (hm : m ≤ 40) (hx : ∀ j, j < c → x j = x' j) (hy : ∀ j, j < c → y j = y' j) (hA : ∀ i, i < m → A i = ch i ∧ ch i < c) : itr (lp_mha_st x' y' m A) m 0 0 = itr (lp_wt_st x y m ch) m 0 0 := by
  refine itr_cong _ _ _ (fun k s h1 h2 => ?_)
  have hk : k < m := by omega
  have nk := nxc_lt' hk
  obtain ⟨a1, a2⟩ := hA k hk
  obtain ⟨b1, b2⟩ := hA _ nk
  unfold lp_mha_st lp_wt_st
  rw [a1, b1, ← hx _ a2, ← hy _ a2, ← hx _ b2, ← hy _ b2]
  by_cases c1 : k + 1 < m
  · have e : nxc m k = k + 1 := by unfold nxc; rw [if_pos c1]
    rw [e, if_neg (fun z => by have := (nI_leI (by omega) (by omega)).mp z; omega)]
    unfold Cv_cr
    grind
  · have e : nxc m k = 0 := by unfold nxc; rw [if_neg c1]
    rw [e, if_pos ((nI_leI (by omega) (by omega)).mpr (by omega))]
    unfold Cv_cr
    grind
theorem c4 (P : Prop) (n : Nat) : (P ∧ n = 0) ∨ (P ∧ 0 < n) ∨ (¬ P ∧ n = 0) ∨ (¬ P ∧ 0 < n) := by
  rcases Nat.eq_zero_or_pos n with h | h
  · by_cases c : P
    · exact Or.inl ⟨c, h⟩
    · exact Or.inr (Or.inr (Or.inl ⟨c, h⟩))
  · by_cases c : P
    · exact Or.inr (Or.inl ⟨c, h⟩)
    · exact Or.inr (Or.inr (Or.inr ⟨c, h⟩))
theorem dk_px {nl nt np nr : Nat} {r5 r6 q4 q5 q6 q7 : Nat → Int32} (h : DkR nl nt np nr r5 r6 q4 q5 q6 q7) {i : Int32} (hi : 0 ≤ i ∧ i < nI np) : Tm q6 i = Px r5 i ∧ Tn q6 i = Py r5 i ∧ Bx (Px r5 i) ∧ Bx (Py r5 i) := by
  obtain ⟨c1, c2, c3, c4⟩ := dk_pt h hi
  have e1 : Px r5 i = Tm q6 i := c1
  have e2 : Py r5 i = Tn q6 i := c2
  rw [e1, e2]; exact ⟨rfl, rfl, c3, c4⟩
