/-! easiest -/
theorem itr_rel {σ τ : Type} (P : Nat → σ → τ → Prop) {f : Nat → σ → σ} {g : Nat → τ → τ} : ∀ (n k : Nat) (s : σ) (t : τ), P k s t → (∀ j s t, k ≤ j → j < k + n → P j s t → P (j + 1) (f j s) (g j t)) → P (k + n) (itr f n k s) (itr g n k t)
  | 0, k, s, t, h, _ => by rw [itr_0, itr_0]; exact h
  | n + 1, k, s, t, h, hs => by
    rw [itr_s, itr_s, show k + (n + 1) = (k + 1) + n by omega]
    exact itr_rel P n (k + 1) _ _ (hs k s t (Nat.le_refl k) (by omega) h) (fun j s t h1 h2 => hs j s t (by omega) (by omega))
theorem fo_T {b c : Int32} {g a : Int32} {k : Nat} (hg : b18 g.toInt) (ha : b18 a.toInt) (hb : b18 b.toInt) (hc : b18 c.toInt) (h : k < 40) : (Fo_u (Ps_n (nI k)) (Ps_s g a (nI k)) b.toInt64 c.toInt64).toInt.natAbs ≤ 100000 ∧ (Fo_l (Ps_n (nI k)) b.toInt64 c.toInt64).toInt = 2 * (b.toInt * c.toInt) * iN k ∧ 1 ≤ b.toInt * c.toInt ∧ b.toInt * c.toInt ≤ 324 ∧ (Ps_n (nI k)).toInt = iN k ∧ 1 ≤ iN k ∧ iN k ≤ 41 := by
  have t := tab_ncd k h
  have b2 := am (b18a hb) (b18a hb)
  have c2 := am (b18a hc) (b18a hc)
  have bc := am (b18a hb) (b18a hc)
  have bc1 : 1 * 1 ≤ b.toInt * c.toInt := Int.mul_le_mul hb.1 hc.1 (by decide) (by omega)
  have s := s_le hg ha h
  have hn : (b.toInt * b.toInt + c.toInt * c.toInt).natAbs ≤ 648 := by omega
  have m := am hn t.2.2.1
  have m2 := am (x := 2 * (b.toInt * c.toInt)) (y := iN k) (a := 648) (b := 41) (by omega) t.2.2.1
  refine ⟨?_, ?_, by omega, by omega, ?_, t.1, t.2.1⟩
  · unfold Fo_u
    rw [ps_n k h, ps_s g a h, i64_of32, i64_of32, ← Int64.ofInt_mul, ← Int64.ofInt_mul, ← Int64.ofInt_add, ← Int64.ofInt_mul, ← Int64.ofInt_sub, ofI_T (by omega) (by omega)]
    omega
  · unfold Fo_l
    rw [ps_n k h, i64_of32, i64_of32, lq2, ← Int64.ofInt_mul, ← Int64.ofInt_mul, ← Int64.ofInt_mul, Int.mul_assoc 2, ofI_T (by omega) (by omega)]
  · rw [ps_n k h, ofI_T (by omega) (by omega)]
theorem ab_eq (x : Int64) : (if 0 < x then x else -x) = Ab64 x := by
  unfold Ab64
  by_cases c : 0 < x
  · rw [if_pos c, if_pos (Int64.le_of_lt c)]
  · rw [if_neg c]
    by_cases d : 0 ≤ x
    · have e : x = 0 := by
        rw [i64_z]
        have := (i64_zle x).mp d
        have : ¬ 0 < x.toInt := fun z => c (i64_pos.mpr z)
        omega
      rw [if_pos d, e]; rfl
    · rw [if_neg d]
theorem scale_le {up A dn dm L N D : Int64} {d : Int} (hd : 1 ≤ d) (hd2 : d ≤ 648) (hL : L.toInt = d * N.toInt) (hdn : dn.toInt = d * dm.toInt) (h1 : up.toInt.natAbs ≤ 100000) (h2 : A.toInt.natAbs ≤ 100000) (h3 : 1 ≤ N.toInt) (h4 : N.toInt ≤ 41) (h5 : 1 ≤ dm.toInt) (h6 : dm.toInt ≤ 41) : up * L ≤ A * dn ↔ up * N ≤ A * dm := by
  have dN := am (x := d) (y := N.toInt) (a := 648) (b := 41) (by omega) (by omega)
  have dM := am (x := d) (y := dm.toInt) (a := 648) (b := 41) (by omega) (by omega)
  have m1 := am h1 dN
  have m2 := am h2 dM
  have m3 := am (y := N.toInt) (b := 41) h1 (by omega)
  have m4 := am (y := dm.toInt) (b := 41) h2 (by omega)
  rw [Int64.le_iff_toInt_le, Int64.le_iff_toInt_le, i64_mul (by rw [hL]; omega) (by rw [hL]; omega), i64_mul (by rw [hdn]; omega) (by rw [hdn]; omega), i64_mul (by omega) (by omega), i64_mul (by omega) (by omega), hL, hdn]
  rw [show up.toInt * (d * N.toInt) = d * (up.toInt * N.toInt) by grind, show A.toInt * (d * dm.toInt) = d * (A.toInt * dm.toInt) by grind]
  constructor
  · intro z; exact Int.le_of_mul_le_mul_left z (by omega)
  · intro z; exact Int.mul_le_mul_of_nonneg_left z (by omega)
abbrev eaA (q : Nat → Int32) (l : Int32) (k : Nat) : Int64 := Ab64 (Fo_u (Ps_n (nI k)) (Ps_s (Bg q l) (Ba q l) (nI k)) (Int32.toInt64 (Bb q l)) (Int32.toInt64 (Bc q l)))
abbrev eaL (q : Nat → Int32) (l : Int32) (k : Nat) : Int64 := Fo_l (Ps_n (nI k)) (Int32.toInt64 (Bb q l)) (Int32.toInt64 (Bc q l))
theorem ea_c {q : Nat → Int32} {l : Int32} {k : Nat} {fo : Int32} {up dn : Int64} : lp_ea_st q l k fo up dn = if lawP q l k then (if fo = -2 then (nI k, eaA q l k, eaL q l k) else if up * eaL q l k ≤ eaA q l k * dn then (fo, up, dn) else (nI k, eaA q l k, eaL q l k)) else (fo, up, dn) := by
  unfold lp_ea_st
  rw [ab_eq]
  by_cases c1 : lawP q l k
  · rw [if_pos c1]
    by_cases c2 : fo = -2
    · rw [if_pos c2, if_pos c2, if_pos c1]
    · rw [if_neg c2, if_neg c2]
      by_cases c3 : up * eaL q l k ≤ eaA q l k * dn
      · rw [if_pos c3, if_pos c3, if_pos c1]
      · rw [if_neg c3, if_neg c3, if_pos c1]
  · by_cases c2 : fo = -2
    · rw [if_pos c2]
      repeat rw [if_neg c1]
    · rw [if_neg c2]
      by_cases c3 : up * eaL q l k ≤ eaA q l k * dn
      · rw [if_pos c3]
        repeat rw [if_neg c1]
      · rw [if_neg c3]
        repeat rw [if_neg c1]
theorem mea_c {q : Nat → Int32} {l : Int32} {k : Nat} {fo : Int32} {up dn : Int64} (h : k < 40) : lp_mea_st q l k fo up dn = if lawP q l k then (if fo = -2 then (nI k, eaA q l k, Ps_n (nI k)) else if up * Ps_n (nI k) ≤ eaA q l k * dn then (fo, up, dn) else (nI k, eaA q l k, Ps_n (nI k))) else (fo, up, dn) := by
  have e := f_u (q := q) (l := l) h
  unfold lp_mea_st
  rw [e, m_n k h]
  by_cases c1 : lawP q l k
  · rw [if_pos c1, if_pos ((law_mp h).mpr c1)]
  · rw [if_neg c1, if_neg (fun z => c1 ((law_mp h).mp z))]
abbrev eaR (q : Nat → Int32) (l : Int32) (s t : Int32 × Int64 × Int64) : Prop := s.1 = t.1 ∧ s.2.1 = t.2.1 ∧ s.2.1.toInt.natAbs ≤ 100000 ∧ (s.1 = -2 ∨ (s.2.2.toInt = (2 * ((Bb q l).toInt * (Bc q l).toInt)) * t.2.2.toInt ∧ 1 ≤ t.2.2.toInt ∧ t.2.2.toInt ≤ 41))
theorem ea_rel {q : Nat → Int32} {l : Int32} (hB : okB q l) {j : Nat} (hj : j < 40) {s1 : Int32} {s2 s3 t3 : Int64} (h : eaR q l (s1, s2, s3) (s1, s2, t3)) : eaR q l (lp_ea_st q l j s1 s2 s3) (lp_mea_st q l j s1 s2 t3) := by
  obtain ⟨b1, b2, b3, b4⟩ := hB
  obtain ⟨f1, f2, f3, f4, f5, f6, f7⟩ := fo_T (b := Bb q l) (c := Bc q l) b1 b2 b3 b4 hj
  obtain ⟨-, -, h5, h6⟩ := h
  have fA : (eaA q l j).toInt.natAbs ≤ 100000 := by unfold eaA; rw [ab64_T (by omega)]; omega
  rw [ea_c, mea_c hj]
  by_cases c1 : lawP q l j
  · rw [if_pos c1, if_pos c1]
    by_cases c2 : s1 = -2
    · rw [if_pos c2, if_pos c2]
      exact ⟨rfl, rfl, fA, Or.inr ⟨by show (eaL q l j).toInt = _ * (Ps_n (nI j)).toInt; rw [f2, f5], by show 1 ≤ (Ps_n (nI j)).toInt; rw [f5]; exact f6, by show (Ps_n (nI j)).toInt ≤ 41; rw [f5]; exact f7⟩⟩
    · rw [if_neg c2, if_neg c2]
      obtain ⟨d1, d2, d3⟩ := h6.resolve_left c2
      have sl := scale_le (up := s2) (A := eaA q l j) (dn := s3) (dm := t3) (L := eaL q l j) (N := Ps_n (nI j)) (D := 0) (d := 2 * ((Bb q l).toInt * (Bc q l).toInt)) (by omega) (by omega) (by rw [f2, f5]) d1 h5 fA (by rw [f5]; exact f6) (by rw [f5]; exact f7) d2 d3
      by_cases c3 : s2 * Ps_n (nI j) ≤ eaA q l j * t3
      · rw [if_pos (sl.mpr c3), if_pos c3]
        exact ⟨rfl, rfl, h5, Or.inr ⟨d1, d2, d3⟩⟩
      · rw [if_neg (fun z => c3 (sl.mp z)), if_neg c3]
        exact ⟨rfl, rfl, fA, Or.inr ⟨by show (eaL q l j).toInt = _ * (Ps_n (nI j)).toInt; rw [f2, f5], by show 1 ≤ (Ps_n (nI j)).toInt; rw [f5]; exact f6, by show (Ps_n (nI j)).toInt ≤ 41; rw [f5]; exact f7⟩⟩
  · rw [if_neg c1, if_neg c1]
    exact ⟨rfl, rfl, h5, h6⟩
theorem e_eas {q : Nat → Int32} {l : Int32} (hB : okB q l) : (itr (fun k s => lp_ea_st q l k s.1 s.2.1 s.2.2) 40 0 ((-2 : Int32), (0 : Int64), (1 : Int64))).1 = (itr (fun k s => lp_mea_st q l k s.1 s.2.1 s.2.2) 40 0 ((-2 : Int32), (0 : Int64), (1 : Int64))).1 := by
  have key := itr_rel (fun _ s t => eaR q l s t) (f := fun k s => lp_ea_st q l k s.1 s.2.1 s.2.2) (g := fun k s => lp_mea_st q l k s.1 s.2.1 s.2.2) 40 0 ((-2 : Int32), (0 : Int64), (1 : Int64)) ((-2 : Int32), (0 : Int64), (1 : Int64)) ⟨rfl, rfl, by decide, Or.inl rfl⟩ (fun j s t h1 h2 h => by
    obtain ⟨s1, s2, s3⟩ := s
    obtain ⟨t1, t2, t3⟩ := t
    have h3 : s1 = t1 := h.1
    have h4 : s2 = t2 := h.2.1
    subst h3 h4
    exact ea_rel hB (by omega) h)
  exact key.1
