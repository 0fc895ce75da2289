/-! THE HULL: numbers of the machine -/
def tI (x : Nat → Int32) : Nat → Int := fun j => (x j).toInt
abbrev sP (x y : Nat → Int32) (a b : Nat) : Prop := x a = x b ∧ y a = y b
theorem bend_T {x y : Nat → Int32} {i j k : Nat} (xi : Bx (x i)) (xj : Bx (x j)) (xk : Bx (x k)) (yi : Bx (y i)) (yj : Bx (y j)) (yk : Bx (y k)) : (Cv_bend x y i j k).toInt = hB (tI x) (tI y) i j k := by
  have a := df_T xj xi
  have b := df_T yk yi
  have c := df_T yj yi
  have d := df_T xk xi
  have m1 := am a.2 b.2
  have m2 := am c.2 d.2
  have e1 : (Int32.toInt64 (x j - x i) * Int32.toInt64 (y k - y i)).toInt = (x j - x i).toInt * (y k - y i).toInt := by
    rw [i64_mulA (by rw [Int32.toInt_toInt64, Int32.toInt_toInt64]; omega), Int32.toInt_toInt64, Int32.toInt_toInt64]
  have e2 : (Int32.toInt64 (y j - y i) * Int32.toInt64 (x k - x i)).toInt = (y j - y i).toInt * (x k - x i).toInt := by
    rw [i64_mulA (by rw [Int32.toInt_toInt64, Int32.toInt_toInt64]; omega), Int32.toInt_toInt64, Int32.toInt_toInt64]
  have e3 : (Cv_bend x y i j k).toInt = (x j - x i).toInt * (y k - y i).toInt - (y j - y i).toInt * (x k - x i).toInt := by
    unfold Cv_bend
    rw [i64_subA (by rw [e1, e2]; omega), e1, e2]
  rw [e3, a.1, b.1, c.1, d.1]
  rfl
theorem ap_T {x y : Nat → Int32} {j o : Nat} (h1 : Bx (x j)) (h2 : Bx (x o)) (h3 : Bx (y j)) (h4 : Bx (y o)) : (ApM x y j o).toInt = (tI x j - tI x o) * (tI x j - tI x o) + (tI y j - tI y o) * (tI y j - tI y o) := by
  have a := df_T h1 h2
  have b := df_T h3 h4
  have s := sqs_T a.2 b.2
  rw [← (sq_ap h1 h2 h3 h4).1]
  have e5 : (Int32.toInt64 (Cv_sq x y (x o) (y o) j)).toInt = (x j - x o).toInt * (x j - x o).toInt + (y j - y o).toInt * (y j - y o).toInt := (Int32.toInt_toInt64 _).trans s.2
  rw [e5, a.1, b.1]
  rfl
theorem ls_hL {x y : Nat → Int32} {a b : Nat} : lsC x y a b ↔ hL (tI x) (tI y) a b := by
  unfold lsC hL tI
  rw [Int32.lt_iff_toInt_lt, Int32.lt_iff_toInt_lt, ← Int32.toInt_inj]
theorem ls_tr {x y : Nat → Int32} {a b c : Nat} (h1 : lsC x y a b) (h2 : lsC x y b c) : lsC x y a c := ls_hL.mpr (hL_tr (ls_hL.mp h1) (ls_hL.mp h2))
theorem ls_ne {x y : Nat → Int32} {a b : Nat} (h : lsC x y a b) : ¬ sP x y a b := fun z => hL_ne (ls_hL.mp h) ⟨congrArg Int32.toInt z.1, congrArg Int32.toInt z.2⟩
theorem ls_or {x y : Nat → Int32} {a b : Nat} (h1 : ¬ lsC x y a b) (h2 : ¬ lsC x y b a) : sP x y a b := by
  rw [ls_hL] at h1 h2
  unfold hL tI at h1 h2
  exact ⟨by rw [← Int32.toInt_inj]; omega, by rw [← Int32.toInt_inj]; omega⟩
/-! sorted places -/
theorem dnw_ge {p : Nat → Bool} : ∀ P a, dnw p P ≤ a → a < P → p a = true
  | 0, a, _, h => absurd h (by omega)
  | P + 1, a, h1, h2 => by
    by_cases c : p P = true
    · rw [dnw_t c] at h1
      by_cases e : a = P
      · rw [e]; exact c
      · exact dnw_ge P a h1 (by omega)
    · rw [dnw_f c] at h1; omega
theorem dnw_at {p : Nat → Bool} : ∀ P, 0 < dnw p P → ¬ p (dnw p P - 1) = true
  | 0, h => by rw [dnw_0] at h; omega
  | P + 1, h => by
    by_cases c : p P = true
    · rw [dnw_t c] at h ⊢; exact dnw_at P h
    · rw [dnw_f c, Nat.add_sub_cancel]; exact c
theorem ins_a {so : Nat → Nat} {i P D j : Nat} (h : j < D) : updN (va_cpy so so D (D + 1) (P - D)) D i j = so j := by
  unfold updN va_cpy
  rw [if_neg (by omega), if_neg (by omega)]
theorem ins_b {so : Nat → Nat} {i P D : Nat} : updN (va_cpy so so D (D + 1) (P - D)) D i D = i := by
  unfold updN
  rw [if_pos rfl]
theorem ins_c {so : Nat → Nat} {i P D j : Nat} (h : D < j) (h2 : j < P + 1) : updN (va_cpy so so D (D + 1) (P - D)) D i j = so (j - 1) := by
  unfold updN va_cpy
  rw [if_neg (by omega), if_pos (by omega), show D + (j - (D + 1)) = j - 1 by omega]
def srI (x y : Nat → Int32) (i : Nat) (s : (Nat → Nat) × Nat) : Prop := s.2 ≤ i ∧ (∀ a b, a < b → b < s.2 → lsC x y (s.1 a) (s.1 b)) ∧ (∀ a, a < s.2 → s.1 a < i ∧ ∀ j, j < s.1 a → ¬ sP x y j (s.1 a)) ∧ ∀ j, j < i → ∃ a, a < s.2 ∧ sP x y (s.1 a) j
theorem sr_ins {x y : Nat → Int32} {i P D : Nat} {so : Nat → Nat} (h : srI x y i (so, P)) (hD : D ≤ P) (h1 : ∀ a, a < D → lsC x y (so a) i) (h2 : ∀ a, D ≤ a → a < P → lsC x y i (so a)) : srI x y (i + 1) (updN (va_cpy so so D (D + 1) (P - D)) D i, P + 1) := by
  obtain ⟨g1, g2, g3, g4⟩ := h
  simp only at g1 g2 g3 g4
  unfold srI
  simp only
  have fst : ∀ j, j < i → ¬ sP x y j i := by
    intro j hj z
    obtain ⟨a, b, c⟩ := g4 j hj
    have c2 : sP x y (so a) i := ⟨c.1.trans z.1, c.2.trans z.2⟩
    by_cases q : a < D
    · exact ls_ne (h1 a q) c2
    · exact ls_ne (h2 a (by omega) b) ⟨c2.1.symm, c2.2.symm⟩
  refine ⟨by omega, fun a b hab hb => ?_, fun a ha => ?_, fun j hj => ?_⟩
  · rcases Nat.lt_trichotomy b D with q | q | q
    · rw [ins_a (by omega), ins_a q]; exact g2 a b hab (by omega)
    · rw [ins_a (by omega), q, ins_b]; exact h1 a (by omega)
    · rw [ins_c q hb]
      rcases Nat.lt_trichotomy a D with r | r | r
      · rw [ins_a r]; exact g2 a (b - 1) (by omega) (by omega)
      · rw [r, ins_b]; exact h2 (b - 1) (by omega) (by omega)
      · rw [ins_c r (by omega)]; exact g2 (a - 1) (b - 1) (by omega) (by omega)
  · rcases Nat.lt_trichotomy a D with r | r | r
    · rw [ins_a r]; have := g3 a (by omega); exact ⟨by omega, this.2⟩
    · rw [r, ins_b]; exact ⟨by omega, fst⟩
    · rw [ins_c r ha]; have := g3 (a - 1) (by omega); exact ⟨by omega, this.2⟩
  · by_cases e : j = i
    · exact ⟨D, by omega, by rw [ins_b, e]; exact ⟨rfl, rfl⟩⟩
    · obtain ⟨a, b, c⟩ := g4 j (by omega)
      by_cases q : a < D
      · exact ⟨a, by omega, by rw [ins_a q]; exact c⟩
      · exact ⟨a + 1, by omega, by rw [ins_c (by omega) (by omega), Nat.add_sub_cancel]; exact c⟩
theorem sr_step {x y : Nat → Int32} {i : Nat} {s : (Nat → Nat) × Nat} (hi : i < 40) (h : srI x y i s) : srI x y (i + 1) (sFs x y i s) := by
  obtain ⟨so, P⟩ := s
  show srI x y (i + 1) (lp_sort_st x y i so P)
  unfold lp_sort_st
  have d1 := dnw_le (fun a => decide (lsC x y i (so a))) P
  have d2 := dnw_ge (p := fun a => decide (lsC x y i (so a))) P
  have d3 := dnw_at (p := fun a => decide (lsC x y i (so a))) P
  generalize dnw (fun a => decide (lsC x y i (so a))) P = D at *
  have hP : P ≤ i := h.1
  have r2 : ∀ a, D ≤ a → a < P → lsC x y i (so a) := fun a p q => of_decide_eq_true (d2 a p q)
  by_cases c1 : nI D = 0
  · rw [if_pos c1]
    have c2 : D = 0 := (nI_eq (a := D) (b := 0) (by omega) (by omega)).mp c1
    exact sr_ins h d1 (fun a q => absurd q (by omega)) r2
  · rw [if_neg c1]
    have c2 : 0 < D := Nat.pos_of_ne_zero (fun z => c1 (by rw [z]; rfl))
    by_cases c3 : x (so (D - 1)) < x i ∨ (x (so (D - 1)) = x i ∧ y (so (D - 1)) < y i)
    · rw [if_pos c3]
      refine sr_ins h d1 (fun a q => ?_) r2
      by_cases e : a = D - 1
      · rw [e]; exact c3
      · exact ls_tr (h.2.1 a (D - 1) (by omega) (show D - 1 < P by omega)) c3
    · rw [if_neg c3]
      have c4 : ¬ lsC x y i (so (D - 1)) := fun z => d3 c2 (decide_eq_true z)
      have c5 : sP x y (so (D - 1)) i := ls_or c3 c4
      obtain ⟨g1, g2, g3, g4⟩ := h
      refine ⟨by simp only; omega, g2, fun a ha => ?_, fun j hj => ?_⟩
      · have := g3 a ha; exact ⟨by omega, this.2⟩
      · by_cases e : j = i
        · exact ⟨D - 1, show D - 1 < P by omega, by rw [e]; exact c5⟩
        · exact g4 j (by omega)
theorem sr_ok {x y : Nat → Int32} {c : Nat} (so : Nat → Nat) (hc : c ≤ 40) : srI x y c (srtS x y c so) := by
  have h := itr_inv' (fun i s => srI x y i s) (sFs x y) c 0 (so, 0) ⟨Nat.le_refl 0, fun a b _ hb => absurd hb (Nat.not_lt_zero b), fun a ha => absurd ha (Nat.not_lt_zero a), fun j hj => absurd hj (Nat.not_lt_zero j)⟩ (fun j s _ h2 h => sr_step (by omega) h)
  rw [Nat.zero_add] at h
  exact h
/-! the reference's first corner, and the corner behind one -/
theorem wf_spec {x y : Nat → Int32} {c t : Nat} (ht : t < c) (fi : ∀ j, j < t → ¬ sP x y j t) (mn : ∀ j, j < c → sP x y t j ∨ lsC x y t j) : itr (lp_wf_st x y) (c - 1) 1 0 = t := by
  have key := itr_inv' (fun k s => (t < k → s = t) ∧ (k ≤ t → s < k)) (lp_wf_st x y) (c - 1) 1 0 ⟨fun z => by omega, fun z => by omega⟩ (fun k s h1 h2 hs => by
    have hk : k < c := by omega
    unfold lp_wf_st
    rcases Nat.lt_trichotomy k t with z | z | z
    · refine ⟨fun w => absurd w (by omega), fun _ => ?_⟩
      have := hs.2 (by omega)
      split
      · omega
      · split
        · split <;> omega
        · omega
    · refine ⟨fun _ => ?_, fun w => absurd w (by omega)⟩
      have e1 := hs.2 (by omega)
      have e2 := (mn s (by omega)).resolve_left (fun w => fi s (by omega) ⟨w.1.symm, w.2.symm⟩)
      rw [z]
      rcases e2 with q | q
      · rw [if_pos q]
      · rw [if_neg (by rw [q.1]; exact Int32.lt_irrefl), if_pos q.1, if_neg (Int32.not_le.mpr q.2)]
    · refine ⟨fun _ => ?_, fun w => absurd w (by omega)⟩
      rw [hs.1 z]
      rcases mn k hk with q | q | q
      · rw [if_neg (by rw [q.1]; exact Int32.lt_irrefl), if_pos q.1.symm, if_pos (by rw [q.2]; exact Int32.le_refl _)]
      · rw [if_neg (Int32.not_lt.mpr (Int32.le_of_lt q)), if_neg (fun w => by rw [w] at q; exact absurd q Int32.lt_irrefl)]
      · rw [if_neg (by rw [q.1]; exact Int32.lt_irrefl), if_pos q.1.symm, if_pos (Int32.le_of_lt q.2)])
  exact key.1 (by omega)
theorem cb_same {x y : Nat → Int32} {c f : Nat} (h : ∀ j, j < c → sP x y j f) : cbM x y c f = f := by
  unfold cbM
  exact itr_inv' (fun _ s => s = f) (lp_cb_st x y f) c 0 f rfl (fun k s h1 h2 hs => by
    unfold lp_cb_st
    rw [if_pos (h k (by omega))]; exact hs)
theorem cb_spec {x y : Nat → Int32} {c f t : Nat} (hc : c ≤ 40) (hf : f < c) (ht : t < c) (n1 : ¬ sP x y t f) (fi : ∀ j, j < t → ¬ sP x y j t) (h : ∀ j, j < c → sP x y j f ∨ sP x y j t ∨ (0 < Cv_bend x y f t j ∧ Cv_bend x y f j t < 0) ∨ (Cv_bend x y f t j = 0 ∧ Cv_bend x y f j t = 0 ∧ ApM x y j f < ApM x y t f)) : cbM x y c f = t := by
  unfold cbM
  have key := itr_inv' (fun k s => (t < k → s = t) ∧ (k ≤ t → s = f ∨ (s < k ∧ ¬ sP x y s f))) (lp_cb_st x y f) c 0 f ⟨fun z => absurd z (by omega), fun _ => Or.inl rfl⟩ (fun k s h1 h2 hs => by
    have hk : k < c := by omega
    unfold lp_cb_st
    by_cases c1 : x k = x f ∧ y k = y f
    · rw [if_pos c1]
      have nt : ¬ k = t := fun z => n1 (by rw [← z]; exact c1)
      exact ⟨fun z => hs.1 (by omega), fun z => (hs.2 (by omega)).imp id (fun w => ⟨by omega, w.2⟩)⟩
    · rw [if_neg c1]
      rcases Nat.lt_trichotomy k t with z | z | z
      · have two : ∀ r, (r = s ∨ r = k) → (t < k + 1 → r = t) ∧ (k + 1 ≤ t → r = f ∨ (r < k + 1 ∧ ¬ sP x y r f)) := by
          rintro r (e | e)
          · rw [e]; exact ⟨fun w => absurd w (by omega), fun _ => (hs.2 (by omega)).imp id (fun w => ⟨by omega, w.2⟩)⟩
          · rw [e]; exact ⟨fun w => absurd w (by omega), fun _ => Or.inr ⟨by omega, c1⟩⟩
        apply two
        split
        · exact Or.inr rfl
        · split
          · exact Or.inr rfl
          · split
            · split
              · exact Or.inl rfl
              · exact Or.inr rfl
            · exact Or.inl rfl
      · refine ⟨fun _ => ?_, fun w => absurd w (by omega)⟩
        rw [z] at hs ⊢
        rcases hs.2 (Nat.le_refl _) with e | ⟨e1, e2⟩
        · rw [if_pos (by rw [e])]
        · by_cases e3 : nI s = nI f
          · rw [if_pos e3]
          · rw [if_neg e3]
            rcases h s (by omega) with q | q | q | q
            · exact absurd q e2
            · exact absurd q (fi s e1)
            · rw [if_pos q.2]
            · rw [if_neg (by rw [q.2.1]; decide), if_pos q.2.1, if_neg (Int64.not_le.mpr q.2.2)]
      · refine ⟨fun _ => ?_, fun w => absurd w (by omega)⟩
        rw [hs.1 z]
        have tf : ¬ nI t = nI f := fun w => n1 (by rw [(nI_eq (by omega) (by omega)).mp w]; exact ⟨rfl, rfl⟩)
        rw [if_neg tf]
        rcases h k hk with q | q | q | q
        · exact absurd q c1
        · have b0 : Cv_bend x y f t k = 0 := by
            have b1 := (bend_0 (x := x) (y := y) (f := f) (t := t)).2
            unfold Cv_bend at b1 ⊢
            rw [q.1, q.2]; exact b1
          have a0 : ApM x y k f = ApM x y t f := by unfold ApM; rw [q.1, q.2]
          rw [if_neg (by rw [b0]; decide), if_pos b0, if_pos (by rw [a0]; exact Int64.le_refl _)]
        · rw [if_neg (Int64.not_lt.mpr (Int64.le_of_lt q.1)), if_neg (fun w => by rw [w] at q; exact absurd q.1 (by decide))]
        · rw [if_neg (by rw [q.1]; decide), if_pos q.1, if_pos (Int64.le_of_lt q.2.2)])
  rw [Nat.zero_add] at key
  exact key.1 ht
/-! between two corners on their line: nearer than the second -/
theorem dot_nn {dx dy ex ey : Int} (hd : Lp dx dy) (he : Lp ex ey) (h : Cr dx dy ex ey = 0) : 0 ≤ dx * ex + dy * ey := by
  unfold Cr at h
  rcases hd with hd | ⟨hd0, hd1⟩
  · have e : dx * (dx * ex + dy * ey) = (dx * dx + dy * dy) * ex := by
      have e1 : dx * ey = dy * ex := by omega
      have e2 : dx * (dx * ex + dy * ey) = dx * dx * ex + dy * (dx * ey) := by grind
      rw [e2, e1]; grind
    have n := Int.mul_nonneg (Int.add_nonneg (sq_nn dx) (sq_nn dy)) (lp_x he)
    refine Int.not_lt.mp fun z => ?_
    have := Int.mul_neg_of_pos_of_neg hd z
    omega
  · subst hd0
    have z : dy * ex = 0 := by omega
    have ex0 : ex = 0 := (Int.mul_eq_zero.mp z).resolve_left (by omega)
    have := Int.mul_pos hd1 (lp_y he ex0)
    omega
theorem seg_lt {X Y : Nat → Int} {f j t : Nat} (h1 : hL X Y f j) (h2 : hL X Y j t) (h3 : hB X Y f t j = 0) : (X j - X f) * (X j - X f) + (Y j - Y f) * (Y j - Y f) < (X t - X f) * (X t - X f) + (Y t - Y f) * (Y t - Y f) := by
  have e0 : hB X Y f j t = 0 := by
    have : hB X Y f j t = -hB X Y f t j := by unfold hB; grind
    omega
  have d := dot_nn (hL_p h1) (hL_p h2) (k_1.trans e0)
  have p := hL_p h2
  have e : (X t - X f) * (X t - X f) + (Y t - Y f) * (Y t - Y f) = ((X j - X f) * (X j - X f) + (Y j - Y f) * (Y j - Y f)) + 2 * ((X j - X f) * (X t - X j) + (Y j - Y f) * (Y t - Y j)) + ((X t - X j) * (X t - X j) + (Y t - Y j) * (Y t - Y j)) := by grind
  have n : 0 < (X t - X j) * (X t - X j) + (Y t - Y j) * (Y t - Y j) := by
    have s1 := sq_nn (X t - X j)
    have s2 := sq_nn (Y t - Y j)
    rcases p with p | p
    · have := Int.mul_pos p p; omega
    · have := Int.mul_pos p.2 p.2; omega
  omega
def sgn2 (x y : Nat → Int32) (X Y : Nat → Int) : Prop := (X = tI x ∧ Y = tI y) ∨ (X = (fun j => -tI x j) ∧ Y = (fun j => -tI y j))
theorem s2_B {x y : Nat → Int32} {X Y : Nat → Int} (h : sgn2 x y X Y) (a b c : Nat) : hB X Y a b c = hB (tI x) (tI y) a b c := by
  rcases h with ⟨rfl, rfl⟩ | ⟨rfl, rfl⟩
  · rfl
  · exact hB_neg
theorem s2_D {x y : Nat → Int32} {X Y : Nat → Int} (h : sgn2 x y X Y) (j f : Nat) : (X j - X f) * (X j - X f) + (Y j - Y f) * (Y j - Y f) = (tI x j - tI x f) * (tI x j - tI x f) + (tI y j - tI y f) * (tI y j - tI y f) := by
  rcases h with ⟨rfl, rfl⟩ | ⟨rfl, rfl⟩
  · rfl
  · simp only; grind
theorem s2_ne {x y : Nat → Int32} {X Y : Nat → Int} (h : sgn2 x y X Y) {a b : Nat} (l : hL X Y a b) : ¬ sP x y a b := by
  rintro ⟨e1, e2⟩
  rcases h with ⟨rfl, rfl⟩ | ⟨rfl, rfl⟩
  · exact hL_ne l ⟨congrArg Int32.toInt e1, congrArg Int32.toInt e2⟩
  · exact hL_ne (hL_neg.mp l) ⟨congrArg Int32.toInt e1.symm, congrArg Int32.toInt e2.symm⟩
theorem edge_ok {x y : Nat → Int32} {X Y : Nat → Int} {c f t j a : Nat} (hs : sgn2 x y X Y) (bx : ∀ j, j < c → Bx (x j)) (by_ : ∀ j, j < c → Bx (y j)) (hf : f < c) (ht : t < c) (ha : a < c) (hj : sP x y a j) (r : a = f ∨ 0 < hB X Y f t a ∨ (hB X Y f t a = 0 ∧ hL X Y f a ∧ (a = t ∨ hL X Y a t))) : sP x y j f ∨ sP x y j t ∨ (0 < Cv_bend x y f t j ∧ Cv_bend x y f j t < 0) ∨ (Cv_bend x y f t j = 0 ∧ Cv_bend x y f j t = 0 ∧ ApM x y j f < ApM x y t f) := by
  have e1 : Cv_bend x y f t j = Cv_bend x y f t a := by unfold Cv_bend; rw [hj.1, hj.2]
  have e2 : Cv_bend x y f j t = Cv_bend x y f a t := by unfold Cv_bend; rw [hj.1, hj.2]
  have e3 : ApM x y j f = ApM x y a f := by unfold ApM; rw [hj.1, hj.2]
  have t1 := bend_T (bx f hf) (bx t ht) (bx a ha) (by_ f hf) (by_ t ht) (by_ a ha)
  have t2 := bend_T (bx f hf) (bx a ha) (bx t ht) (by_ f hf) (by_ a ha) (by_ t ht)
  have t3 : hB (tI x) (tI y) f a t = -hB (tI x) (tI y) f t a := by unfold hB; grind
  have z : (0 : Int64).toInt = 0 := rfl
  rw [s2_B hs] at r
  rw [e1, e2, e3]
  rcases r with r | r | ⟨r, r2, r3⟩
  · rw [r] at hj; exact Or.inl ⟨hj.1.symm, hj.2.symm⟩
  · refine Or.inr (Or.inr (Or.inl ⟨?_, ?_⟩))
    · rw [Int64.lt_iff_toInt_lt, t1, z]; exact r
    · rw [Int64.lt_iff_toInt_lt, t2, z]; omega
  · rcases r3 with r3 | r3
    · rw [r3] at hj; exact Or.inr (Or.inl ⟨hj.1.symm, hj.2.symm⟩)
    · refine Or.inr (Or.inr (Or.inr ⟨?_, ?_, ?_⟩))
      · rw [← Int64.toInt_inj, t1, z]; exact r
      · rw [← Int64.toInt_inj, t2, z]; omega
      · have := seg_lt r2 r3 (by rw [s2_B hs]; exact r)
        rw [s2_D hs, s2_D hs] at this
        rw [Int64.lt_iff_toInt_lt, ap_T (bx a ha) (bx f hf) (by_ a ha) (by_ f hf), ap_T (bx t ht) (bx f hf) (by_ t ht) (by_ f hf)]
        exact this
/-! both rows of corners -/
theorem low_ok {x y : Nat → Int32} {X Y : Nat → Int} {e ch : Nat → Nat} {c P : Nat} (hbr : ∀ i j k, i < c → j < c → k < c → (Cv_bend x y i j k ≤ 0 ↔ hB X Y i j k ≤ 0)) (hec : ∀ m, m < P → e m < c) (hso : ∀ a b, a < b → b < P → hL X Y (e a) (e b)) (hP : 0 < P) : hS X Y e 0 (P - 1) (w1S x y e P ch) := by
  have key := itr_inv' (fun k (s : Nat × (Nat → Nat)) => (k = 0 → s.1 = 0) ∧ (0 < k → hS X Y e 0 (k - 1) s)) (fun i s => pcS x y (e i) 0 s) P 0 (0, ch) ⟨fun _ => rfl, fun z => absurd z (by omega)⟩ (fun j s h1 h2 h => by
    refine ⟨fun z => absurd z (by omega), fun _ => ?_⟩
    rw [Nat.add_sub_cancel]
    by_cases cj : j = 0
    · subst cj
      obtain ⟨K, c0⟩ := s
      have e0 : K = 0 := h.1 rfl
      subst e0
      unfold pcS
      simp only
      rw [dnw_0]
      have z1 : updN c0 0 (e 0) 0 = e 0 := uN_eq
      refine ⟨⟨Nat.zero_lt_one, z1, fun j a b => absurd b (by simp only; omega), fun j a b => absurd b (by simp only; omega), fun j a b => ⟨0, Nat.le_refl 0, ?_⟩⟩, ?_, fun m hm => Or.inl ?_⟩
      · simp only at b ⊢
        rw [show j = 0 by omega, uN_eq]
      · show updN c0 0 (e 0) 0 = e 0
        exact uN_eq
      · rw [show m = 0 by omega]; simp only; rw [uN_eq]
    · have hj := h.2 (by omega)
      have ej : j - 1 + 1 = j := by omega
      have r := (hu_put (x := x) (y := y) hbr (fun m hm => hec m (by omega)) (fun m hm => hso m (j - 1 + 1) (by omega) (by omega)) hj).1
      rw [ej] at r
      exact r)
  rw [Nat.zero_add] at key
  exact key.2 hP
theorem upp_ok {x y : Nat → Int32} {X Y : Nat → Int} {so e : Nat → Nat} {c P q : Nat} (hbr : ∀ i j k, i < c → j < c → k < c → (Cv_bend x y i j k ≤ 0 ↔ hB X Y i j k ≤ 0)) (he : ∀ t, t < P → e t = so (P - 1 - t)) (hec : ∀ m, m < P → e m < c) (hso : ∀ a b, a < b → b < P → hL X Y (e a) (e b)) : ∀ (m : Nat) (s : Nat × (Nat → Nat)), m < P → hS X Y e q (P - 1 - m) s → hS X Y e q (P - 1) (w2S x y so q m s) ∧ ∀ j, j ≤ q → (w2S x y so q m s).2 j = s.2 j
  | 0, s, _, h => by
    unfold w2S
    rw [itd_0]
    exact ⟨h, fun _ _ => rfl⟩
  | m + 1, s, hm, h => by
    have e1 : P - 1 - (m + 1) + 1 = P - 1 - m := by omega
    have e2 : e (P - 1 - m) = so m := by rw [he _ (by omega), show P - 1 - (P - 1 - m) = m by omega]
    have r := hu_put (x := x) (y := y) hbr (fun k hk => hec k (by omega)) (fun k hk => hso k (P - 1 - (m + 1) + 1) (by omega) (by omega)) h
    rw [e1, e2] at r
    have i := upp_ok hbr he hec hso m (pcS x y (so m) q s) (by omega) r.1
    unfold w2S at i ⊢
    rw [itd_s]
    exact ⟨i.1, fun j hj => (i.2 j hj).trans (r.2 j hj)⟩
