/-! for the pairs of calls -/
section HELP
variable {nl nt np nr : Nat} {r5 r6 q4 q5 q6 q7 : Nat → Int32}
theorem dkl (h : DkR nl nt np nr r5 r6 q4 q5 q6 q7) {l : Int32} (z : 0 ≤ l ∧ l < r6 0) : 0 ≤ l ∧ l < nI nl := by rw [← h.1.1]; exact z
theorem dkt (h : DkR nl nt np nr r5 r6 q4 q5 q6 q7) {l : Int32} (z : 0 ≤ l ∧ l < r6 1) : 0 ≤ l ∧ l < nI nt := by rw [← h.1.2.1]; exact z
theorem dkp (h : DkR nl nt np nr r5 r6 q4 q5 q6 q7) {l : Int32} (z : 0 ≤ l ∧ l < r6 2) : 0 ≤ l ∧ l < nI np := by rw [← h.1.2.2.1]; exact z
theorem unit_ne {q : Nat → Int32} {l : Int32} (h : okB q l) : ¬ Int32.toInt64 (Lk_unit (Bg q l) (Ba q l)) = 0 := by
  have := unit_T h.1 h.2.1
  rw [i64_z, Int32.toInt_toInt64]; omega
theorem swd_ne {q : Nat → Int32} {l : Int32} (h : okB q l) : ¬ Int32.toInt64 (Lk_swd (Bb q l) (Bc q l)) = 0 := by
  have := unit_T h.2.2.1 h.2.2.2
  rw [i64_z, Int32.toInt_toInt64]
  have e : Lk_swd (Bb q l) (Bc q l) = Lk_unit (Bb q l) (Bc q l) := rfl
  rw [e]; omega
theorem e_kind {q : Nat → Int32} {l : Int32} (h : okB q l) : Lk_kind (Bg q l) (Ba q l) (Bb q l) (Bc q l) = (if 2 * Mk_max q l ≤ Mk_all q l then (if 0 < Mk_sums q l then (if Mk_least q l = 1 then 0 else if Mk_least q l = 0 then 1 else if Mk_least q l = 2 then 2 else 3) else (if Mk_sums q l = 0 then 4 else 6)) else 5) := by
  have h' := okB_n.mp h
  unfold Lk_kind
  rw [e_max h', e_all, e_sums h']
  by_cases c1 : 2 * Lk_max (Bg q l) (Ba q l) (Bb q l) (Bc q l) ≤ Lk_all (Bg q l) (Ba q l) (Bb q l) (Bc q l)
  · rw [if_pos c1, if_pos c1]
    by_cases c2 : 0 < Lk_sums (Bg q l) (Ba q l) (Bb q l) (Bc q l)
    · rw [if_pos c2, if_pos c2]; exact e_kind0 h' c2
    · rw [if_neg c2, if_neg c2]
  · rw [if_neg c1, if_neg c1]
theorem sn_ne {q : Nat → Int32} {l a : Int32} (h : okB q l) (ha : 0 ≤ a ∧ a < 40) : (Ps_s (Bg q l) (Ba q l) a).toInt ≠ -2 ^ 63 ∧ (Ps_n a).toInt ≠ -2 ^ 63 ∧ ¬ Ps_n a = 0 := by
  obtain ⟨k, hk, rfl⟩ := nI_in2 (c := 40) (by decide) ha.1 ha.2
  have t := tab_ncd k hk
  have s := s_le h.1 h.2.1 hk
  rw [i64_z, ps_s _ _ hk, ps_n k hk, ofI_T (by omega) (by omega), ofI_T (by omega) (by omega)]
  omega
theorem fo_ne {q : Nat → Int32} {l a : Int32} (h : okB q l) (ha : 0 ≤ a ∧ a < 40) : (Fo_u (Ps_n a) (Ps_s (Bg q l) (Ba q l) a) (Int32.toInt64 (Bb q l)) (Int32.toInt64 (Bc q l))).toInt ≠ -2 ^ 63 ∧ (Fo_l (Ps_n a) (Int32.toInt64 (Bb q l)) (Int32.toInt64 (Bc q l))).toInt ≠ -2 ^ 63 ∧ ¬ Fo_l (Ps_n a) (Int32.toInt64 (Bb q l)) (Int32.toInt64 (Bc q l)) = 0 := by
  obtain ⟨k, hk, rfl⟩ := nI_in2 (c := 40) (by decide) ha.1 ha.2
  obtain ⟨f1, f2, f3, f4, -, f6, f7⟩ := fo_T (b := Bb q l) (c := Bc q l) h.1 h.2.1 h.2.2.1 h.2.2.2 hk
  have p : 1 * 1 ≤ 2 * ((Bb q l).toInt * (Bc q l).toInt) * iN k := Int.mul_le_mul (by omega) f6 (by decide) (by omega)
  have m := am (x := 2 * ((Bb q l).toInt * (Bc q l).toInt)) (y := iN k) (a := 648) (b := 41) (by omega) (by omega)
  rw [i64_z, f2]
  omega
theorem force_e (h : DkR nl nt np nr r5 r6 q4 q5 q6 q7) {l a : Int32} (hl : 0 ≤ l ∧ l < nI nl) (ha : 0 ≤ a ∧ a < 40) : Mf_u (Ml_n a) (Ml_s q4 l a) q4 l = Fo_u (Ps_n a) (Ps_s (Bg r5 l) (Ba r5 l) a) (Int32.toInt64 (Bb r5 l)) (Int32.toInt64 (Bc r5 l)) ∧ (2 * (Int32.toInt64 (Bb q4 l))) * (Int32.toInt64 (Bc q4 l)) * Ml_n a = Fo_l (Ps_n a) (Int32.toInt64 (Bb r5 l)) (Int32.toInt64 (Bc r5 l)) := by
  obtain ⟨k, hk, rfl⟩ := nI_in2 (c := 40) (by decide) ha.1 ha.2
  obtain ⟨b1, b2, b3, b4, b5⟩ := dk_bars h hl
  rw [b1, b2, b3, b4]
  exact ⟨f_u hk, f_l hk⟩
theorem ea_cong (h : DkR nl nt np nr r5 r6 q4 q5 q6 q7) {l : Int32} (hl : 0 ≤ l ∧ l < nI nl) : lp_ea_st r5 l = lp_ea_st q4 l := by
  obtain ⟨b1, b2, b3, b4, b5⟩ := dk_bars h hl
  funext k fo up dn
  rw [ea_c, ea_c]
  simp only [lawP, eaA, eaL, b1, b2, b3, b4]
theorem circ_iff (h : DkR nl nt np nr r5 r6 q4 q5 q6 q7) {l a : Int32} (hl : 0 ≤ l ∧ l < nI nl) (ha : 0 ≤ a ∧ a < 40) (hL : 0 < (Ps_s (Bg r5 l) (Ba r5 l) a) ∧ 0 ≤ (Ps_k (Bg r5 l) (Ba r5 l) (Bb r5 l) (Bc r5 l) a)) : (Mk_rnd q4 l 0 ∧ Mk_ends q4 l = 0) ↔ (Lk_least (Bg r5 l) (Ba r5 l) (Bb r5 l) (Bc r5 l) ≤ Lk_most (Bg r5 l) (Ba r5 l) (Bb r5 l) (Bc r5 l) ∧ Lk_rnd (Bg r5 l) (Ba r5 l) (Bb r5 l) (Bc r5 l) 0 ∧ Lk_ends (Bg r5 l) (Ba r5 l) (Bb r5 l) (Bc r5 l) = 0) := by
  obtain ⟨k, hk, rfl⟩ := nI_in2 (c := 40) (by decide) ha.1 ha.2
  obtain ⟨b1, b2, b3, b4, b5⟩ := dk_bars h hl
  rw [b1, b2, b3, b4] at hL ⊢
  rw [e_rnd b5 (by decide), e_ends b5]
  exact ⟨fun z => ⟨law_built b5 hk hL, z⟩, fun z => z.2⟩
theorem t20_10 : t20 10 ∧ t20 0 := by decide
theorem jt_ok {q : Nat → Int32} {l a : Int32} (b : Int32) (hB : okB q l) (ha : 0 ≤ a ∧ a < 40) (hL : 0 < (Ps_s (Bg q l) (Ba q l) a) ∧ 0 ≤ (Ps_k (Bg q l) (Ba q l) (Bb q l) (Bc q l) a)) {m n : Int32} (hm : t20 m) (hn : t20 n) : okS (Tr_vx (Ps_x (Bg q l) (Ba q l) a) (Ps_y (Ba q l) a) m n b) (Ps_k (Bg q l) (Ba q l) (Bb q l) (Bc q l) a) ∧ okS (Tr_vy (Ps_x (Bg q l) (Ba q l) a) (Ps_y (Ba q l) a) m n b) (Ps_k (Bg q l) (Ba q l) (Bb q l) (Bc q l) a) ∧ 0 < 2 * (Ps_s (Bg q l) (Ba q l) a) * (Ps_n a) := by
  obtain ⟨k, hk, rfl⟩ := nI_in2 (c := 40) (by decide) ha.1 ha.2
  have x := cX_ok b hB hk hL hm hn
  have y := cY_ok b hB hk hL hm hn
  exact ⟨x.1, y.1, x.2.1⟩
theorem mj_ok {q : Nat → Int32} {l a : Int32} (b : Int32) (hB : okB q l) (ha : 0 ≤ a ∧ a < 40) (hL : 0 < Ml_s q l a ∧ 0 ≤ Ml_k q l a) : okS (10 * (Mj_v0 (Ml_y q l a) b)) (Ml_k q l a) ∧ okS (10 * (Mj_v1 (Ml_x q l a) b)) (Ml_k q l a) ∧ 0 < ((2 * (Ml_s q l a)) * (Ml_n a)) := by
  obtain ⟨k, hk, rfl⟩ := nI_in2 (c := 40) (by decide) ha.1 ha.2
  have hP := (law_mp hk).mp hL
  have x := cX_ok b hB hk hP t20_10.1 t20_10.2
  have y := cY_ok b hB hk hP t20_10.1 t20_10.2
  rw [j_v0 hk, j_v1 hk, m_k hk, m_s hk, m_n k hk]
  exact ⟨x.1, y.1, x.2.1⟩
theorem joint_e (h : DkR nl nt np nr r5 r6 q4 q5 q6 q7) {l a : Int32} (b : Int32) (hl : 0 ≤ l ∧ l < nI nl) (ha : 0 ≤ a ∧ a < 40) (hL : 0 < (Ps_s (Bg r5 l) (Ba r5 l) a) ∧ 0 ≤ (Ps_k (Bg r5 l) (Ba r5 l) (Bb r5 l) (Bc r5 l) a)) :
    FlM (10 * (Mj_u0 (Ml_c a) (Ml_s q4 l a) (Ml_e q4 l a) (Ml_x q4 l a) (Int32.toInt64 (Ba q4 l)))) (10 * (Mj_v0 (Ml_y q4 l a) b)) ((2 * (Ml_s q4 l a)) * (Ml_n a)) (sqN (10 * (Mj_v0 (Ml_y q4 l a) b)) (Ml_k q4 l a)) = FlC (Tr_ux (Ps_s (Bg r5 l) (Ba r5 l) a) (Int32.toInt64 (Ba r5 l)) (Ps_c a) (Ps_e (Bg r5 l) (Ba r5 l) (Bb r5 l) (Bc r5 l) a) (Ps_x (Bg r5 l) (Ba r5 l) a) (Ps_y (Ba r5 l) a) 10 0) (Tr_vx (Ps_x (Bg r5 l) (Ba r5 l) a) (Ps_y (Ba r5 l) a) 10 0 b) ((2 * (Ps_s (Bg r5 l) (Ba r5 l) a)) * (Ps_n a)) (sqN (Tr_vx (Ps_x (Bg r5 l) (Ba r5 l) a) (Ps_y (Ba r5 l) a) 10 0 b) (Ps_k (Bg r5 l) (Ba r5 l) (Bb r5 l) (Bc r5 l) a)) ∧
    FlM (10 * (Mj_u1 (Ml_d a) (Ml_s q4 l a) (Ml_e q4 l a) (Ml_y q4 l a) (Int32.toInt64 (Ba q4 l)))) (10 * (Mj_v1 (Ml_x q4 l a) b)) ((2 * (Ml_s q4 l a)) * (Ml_n a)) (sqN (10 * (Mj_v1 (Ml_x q4 l a) b)) (Ml_k q4 l a)) = FlC (Tr_uy (Ps_d a) (Ps_s (Bg r5 l) (Ba r5 l) a) (Int32.toInt64 (Ba r5 l)) (Ps_e (Bg r5 l) (Ba r5 l) (Bb r5 l) (Bc r5 l) a) (Ps_x (Bg r5 l) (Ba r5 l) a) (Ps_y (Ba r5 l) a) 10 0) (Tr_vy (Ps_x (Bg r5 l) (Ba r5 l) a) (Ps_y (Ba r5 l) a) 10 0 b) ((2 * (Ps_s (Bg r5 l) (Ba r5 l) a)) * (Ps_n a)) (sqN (Tr_vy (Ps_x (Bg r5 l) (Ba r5 l) a) (Ps_y (Ba r5 l) a) 10 0 b) (Ps_k (Bg r5 l) (Ba r5 l) (Bb r5 l) (Bc r5 l) a)) := by
  obtain ⟨k, hk, rfl⟩ := nI_in2 (c := 40) (by decide) ha.1 ha.2
  obtain ⟨b1, b2, b3, b4, b5⟩ := dk_bars h hl
  rw [b1, b2, b3, b4] at hL ⊢
  rw [j_u0 hk, j_v0 hk, j_u1 hk, j_v1 hk, m_k hk, m_s hk, m_n k hk]
  exact ⟨(cX_ok b b5 hk hL t20_10.1 t20_10.2).2.2.1.symm, (cY_ok b b5 hk hL t20_10.1 t20_10.2).2.2.1.symm⟩
theorem trac_e (h : DkR nl nt np nr r5 r6 q4 q5 q6 q7) {l i a : Int32} (b : Int32) (hl : 0 ≤ l ∧ l < nI nl) (hi : 0 ≤ i ∧ i < nI nt) (ha : 0 ≤ a ∧ a < 40) (hL : 0 < (Ps_s (Bg r5 l) (Ba r5 l) a) ∧ 0 ≤ (Ps_k (Bg r5 l) (Ba r5 l) (Bb r5 l) (Bc r5 l) a)) :
    FlM (Mt_u0 (Ml_c a) (Ml_s q4 l a) (Ml_e q4 l a) (Ml_x q4 l a) (Ml_y q4 l a) (Int32.toInt64 (Ba q4 l)) q5 i) (Mt_v0 (Ml_x q4 l a) (Ml_y q4 l a) q5 i b) ((2 * (Ml_s q4 l a)) * (Ml_n a)) (sqN (Mt_v0 (Ml_x q4 l a) (Ml_y q4 l a) q5 i b) (Ml_k q4 l a)) = FlC (Tr_ux (Ps_s (Bg r5 l) (Ba r5 l) a) (Int32.toInt64 (Ba r5 l)) (Ps_c a) (Ps_e (Bg r5 l) (Ba r5 l) (Bb r5 l) (Bc r5 l) a) (Ps_x (Bg r5 l) (Ba r5 l) a) (Ps_y (Ba r5 l) a) (Cm r5 i) (Cq r5 i)) (Tr_vx (Ps_x (Bg r5 l) (Ba r5 l) a) (Ps_y (Ba r5 l) a) (Cm r5 i) (Cq r5 i) b) ((2 * (Ps_s (Bg r5 l) (Ba r5 l) a)) * (Ps_n a)) (sqN (Tr_vx (Ps_x (Bg r5 l) (Ba r5 l) a) (Ps_y (Ba r5 l) a) (Cm r5 i) (Cq r5 i) b) (Ps_k (Bg r5 l) (Ba r5 l) (Bb r5 l) (Bc r5 l) a)) ∧
    FlM (Mt_u1 (Ml_d a) (Ml_s q4 l a) (Ml_e q4 l a) (Ml_x q4 l a) (Ml_y q4 l a) (Int32.toInt64 (Ba q4 l)) q5 i) (Mt_v1 (Ml_x q4 l a) (Ml_y q4 l a) q5 i b) ((2 * (Ml_s q4 l a)) * (Ml_n a)) (sqN (Mt_v1 (Ml_x q4 l a) (Ml_y q4 l a) q5 i b) (Ml_k q4 l a)) = FlC (Tr_uy (Ps_d a) (Ps_s (Bg r5 l) (Ba r5 l) a) (Int32.toInt64 (Ba r5 l)) (Ps_e (Bg r5 l) (Ba r5 l) (Bb r5 l) (Bc r5 l) a) (Ps_x (Bg r5 l) (Ba r5 l) a) (Ps_y (Ba r5 l) a) (Cm r5 i) (Cq r5 i)) (Tr_vy (Ps_x (Bg r5 l) (Ba r5 l) a) (Ps_y (Ba r5 l) a) (Cm r5 i) (Cq r5 i) b) ((2 * (Ps_s (Bg r5 l) (Ba r5 l) a)) * (Ps_n a)) (sqN (Tr_vy (Ps_x (Bg r5 l) (Ba r5 l) a) (Ps_y (Ba r5 l) a) (Cm r5 i) (Cq r5 i) b) (Ps_k (Bg r5 l) (Ba r5 l) (Bb r5 l) (Bc r5 l) a)) := by
  obtain ⟨k, hk, rfl⟩ := nI_in2 (c := 40) (by decide) ha.1 ha.2
  obtain ⟨b1, b2, b3, b4, b5⟩ := dk_bars h hl
  obtain ⟨c1, c2, c3, c4⟩ := dk_tr h hi
  rw [b1, b2, b3, b4] at hL ⊢
  rw [c1, c2]
  have e0 := e_u0 (q := q4) (t := q5) (l := l) (i := i) hk
  have e1 := e_u1 (q := q4) (t := q5) (l := l) (i := i) hk
  have e2 := e_v0 (q := q4) (t := q5) (l := l) (i := i) (b := b) hk
  have e3 := e_v1 (q := q4) (t := q5) (l := l) (i := i) (b := b) hk
  have e4 := e_wd (q := q4) (l := l) hk
  unfold mU0 at e0
  unfold mU1 at e1
  unfold mV0 at e2
  unfold mV1 at e3
  unfold mWd at e4
  rw [e0, e1, e2, e3, e4, m_k hk]
  exact ⟨(cX_ok b b5 hk hL c3 c4).2.2.1.symm, (cY_ok b b5 hk hL c3 c4).2.2.1.symm⟩
theorem mt_ok (h : DkR nl nt np nr r5 r6 q4 q5 q6 q7) {l i a : Int32} (b : Int32) (hl : 0 ≤ l ∧ l < nI nl) (hi : 0 ≤ i ∧ i < nI nt) (ha : 0 ≤ a ∧ a < 40) (hL : 0 < Ml_s q4 l a ∧ 0 ≤ Ml_k q4 l a) : okS (Mt_v0 (Ml_x q4 l a) (Ml_y q4 l a) q5 i b) (Ml_k q4 l a) ∧ okS (Mt_v1 (Ml_x q4 l a) (Ml_y q4 l a) q5 i b) (Ml_k q4 l a) ∧ 0 < ((2 * (Ml_s q4 l a)) * (Ml_n a)) := by
  obtain ⟨k, hk, rfl⟩ := nI_in2 (c := 40) (by decide) ha.1 ha.2
  obtain ⟨b1, b2, b3, b4, b5⟩ := dk_bars h hl
  obtain ⟨c1, c2, c3, c4⟩ := dk_tr h hi
  exact m_okS b5 hk ((law_mp hk).mp hL) c3 c4
end HELP
