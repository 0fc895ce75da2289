/-! boxes, areas, misses -/
theorem itr_1 {σ : Type} (f : Nat → σ → σ) {c : Nat} (h : 0 < c) (s : σ) : itr f c 0 s = itr f (c - 1) 1 (f 0 s) := by
  obtain ⟨n, rfl⟩ : ∃ n, c = n + 1 := ⟨c - 1, by omega⟩
  rw [itr_s, Nat.zero_add]; rfl
theorem e_box0 {x x' : Nat → Int32} {c : Nat} (h0 : 0 < c) (hc : c ≤ 40) (he : ∀ j, j < c → x j = x' j) : itr (lp_ext0_st x) (c - 1) 1 (x 0) = itr (lp_mbox0_st x') c 0 0 := by
  rw [itr_1 _ h0, show lp_mbox0_st x' 0 0 = x 0 from (if_pos rfl).trans (he 0 h0).symm]
  refine itr_cong _ _ _ (fun j s h1 h2 => ?_)
  unfold lp_ext0_st lp_mbox0_st
  rw [if_neg (nI_ne0 (by omega) (by omega)), he j (by omega)]
  grind
theorem e_box1 {x x' : Nat → Int32} {c : Nat} (h0 : 0 < c) (hc : c ≤ 40) (he : ∀ j, j < c → x j = x' j) : itr (lp_ext1_st x) (c - 1) 1 (x 0) = itr (lp_mbox1_st x') c 0 0 := by
  rw [itr_1 _ h0, show lp_mbox1_st x' 0 0 = x 0 from (if_pos rfl).trans (he 0 h0).symm]
  refine itr_cong _ _ _ (fun j s h1 h2 => ?_)
  unfold lp_ext1_st lp_mbox1_st
  rw [if_neg (nI_ne0 (by omega) (by omega)), he j (by omega)]
  grind
theorem e_box2 {x x' : Nat → Int32} {c : Nat} (h0 : 0 < c) (hc : c ≤ 40) (he : ∀ j, j < c → x j = x' j) : itr (lp_ext2_st x) (c - 1) 1 (x 0) = itr (lp_mbox2_st x') c 0 0 := e_box0 h0 hc he
theorem e_box3 {x x' : Nat → Int32} {c : Nat} (h0 : 0 < c) (hc : c ≤ 40) (he : ∀ j, j < c → x j = x' j) : itr (lp_ext3_st x) (c - 1) 1 (x 0) = itr (lp_mbox3_st x') c 0 0 := e_box1 h0 hc he
theorem cr_T {a b c d : Int32} (ha : Bx a) (hb : Bx b) (hc : Bx c) (hd : Bx d) : Int32.toInt64 (a * b - c * d) = Int32.toInt64 a * Int32.toInt64 b - Int32.toInt64 c * Int32.toInt64 d := by
  have h1 := am ha hb
  have h2 := am hc hd
  have e1 : (a * b).toInt = a.toInt * b.toInt := i32_mul (by omega)
  have e2 : (c * d).toInt = c.toInt * d.toInt := i32_mul (by omega)
  have e3 : (a * b - c * d).toInt = a.toInt * b.toInt - c.toInt * d.toInt := by rw [i32_sub (by rw [e1, e2]; omega), e1, e2]
  rw [i64_of32, e3, i64_of32 a, i64_of32 b, i64_of32 c, i64_of32 d, ← Int64.ofInt_mul, ← Int64.ofInt_mul, ← Int64.ofInt_sub]
theorem e_area {x x' y y' : Nat → Int32} {c : Nat} (hx : ∀ j, j < c → x j = x' j) (hy : ∀ j, j < c → y j = y' j) (bx : ∀ j, j < c → Bx (x j)) (by_ : ∀ j, j < c → Bx (y j)) : itr (lp_edge_st x y c) c 0 0 = itr (lp_marea_st x' y' c) c 0 0 := by
  refine itr_cong _ _ _ (fun j s h1 h2 => ?_)
  have hj : j < c := by omega
  have hn := nxc_lt hj
  unfold lp_edge_st lp_marea_st Cv_cr
  rw [← hx j hj, ← hy j hj, ← hx _ hn, ← hy _ hn, cr_T (bx j hj) (by_ _ hn) (bx _ hn) (by_ j hj)]
theorem sqp_T {d e : Int32} (hd : d.toInt.natAbs ≤ 2400) (he : e.toInt.natAbs ≤ 2400) : 0 ≤ (d * d + e * e).toInt ∧ (d * d + e * e).toInt ≤ 11520000 := by
  have s := (sqs_T hd he).2
  have h1 := am hd hd
  have h2 := am he he
  have n1 := sq_nn d.toInt
  have n2 := sq_nn e.toInt
  rw [s]; omega
theorem sq_nn2 {x y : Nat → Int32} {a b : Int32} {j : Nat} (h1 : Bx (x j)) (h2 : Bx (y j)) (ha : Bx a) (hb : Bx b) : 0 ≤ (Cv_sq x y a b j).toInt ∧ (Cv_sq x y a b j).toInt ≤ 11520000 := sqp_T (df_T h1 ha).2 (df_T h2 hb).2
theorem nm1 {z : Int32} (h : 0 ≤ z.toInt) : ¬ z = -1 := by
  intro e
  rw [e] at h
  exact absurd h (by decide)
theorem e_miss {x x' y y' q : Nat → Int32} {a b i : Int32} {c : Nat} (h0 : 0 < c) (hx : ∀ j, j < c → x j = x' j) (hy : ∀ j, j < c → y j = y' j) (bx : ∀ j, j < c → Bx (x j)) (by_ : ∀ j, j < c → Bx (y j)) (ha : Bx a) (hb : Bx b) (ea : Tm q i = a) (eb : Tn q i = b) : itr (lp_lm_st x y b a) (c - 1) 1 (Cv_sq x y a b 0) = itr (lp_mlm_st q x' y' i) c 0 (-1) ∧ 0 ≤ (itr (lp_lm_st x y b a) (c - 1) 1 (Cv_sq x y a b 0)).toInt ∧ (itr (lp_lm_st x y b a) (c - 1) 1 (Cv_sq x y a b 0)).toInt ≤ 11520000 := by
  have es : ∀ j, j < c → Cv_sq x' y' (Tm q i) (Tn q i) j = Cv_sq x y a b j := fun j hj => by unfold Cv_sq; rw [← hx j hj, ← hy j hj, ea, eb]
  have hb2 : ∀ j, j < c → 0 ≤ (Cv_sq x y a b j).toInt ∧ (Cv_sq x y a b j).toInt ≤ 11520000 := fun j hj => sq_nn2 (bx j hj) (by_ j hj) ha hb
  constructor
  · rw [itr_1 _ h0, show lp_mlm_st q x' y' i 0 (-1) = Cv_sq x y a b 0 from (if_pos rfl).trans (es 0 h0)]
    refine itr_cong' (fun _ s => 0 ≤ s.toInt) _ _ _ (hb2 0 h0).1 (fun j s h1 h2 h3 => ⟨?_, ?_⟩)
    · unfold lp_lm_st lp_mlm_st
      rw [if_neg (nm1 h3), es j (by omega)]
      grind
    · unfold lp_lm_st
      split
      · exact (hb2 j (by omega)).1
      · exact h3
  · exact itr_inv' (fun _ (s : Int32) => 0 ≤ s.toInt ∧ s.toInt ≤ 11520000) _ _ _ _ (hb2 0 h0) (fun j s h1 h2 h3 => by
      unfold lp_lm_st
      split
      · exact hb2 j (by omega)
      · exact h3)
