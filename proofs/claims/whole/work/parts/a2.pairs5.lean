set_option maxRecDepth 100000 in
theorem pr_met {w : ax_W} (hI : INV w) (a1 a2 a3 a4 : Int32) : PrI M_X10_met M_X11_met [.int a1, .int a2, .int a3, .int a4] w := by
  refine hI (fun w => PrI M_X10_met M_X11_met [.int a1, .int a2, .int a3, .int a4] w) ?_
  intro tr fl pl wl wd f1_3 f1_4 f10_0 f10_1 f10_2 f10_3 f12_5 f12_6 f12_7 f12_8 f12_9 f18_7 f18_8 f18_9 f18_10 f25_3 m_thrown m_where m_readLinks m_readTracers m_readPoints m_readPairs m_textLong m_at m_spot m_token m_whole m_readFault m_readPlace m_value m_curveMany m_cornerMany m_straightAt m_lined f11_0 f11_1 f11_2 f11_3 f11_4 f11_5 f11_6 f11_7 f11_8 f11_9 f11_10 f11_11 f11_12 f11_13 f11_14 f11_15 f18_11 f18_12 m_n m_c m_d m_s m_e m_k m_x m_y m_g m_a m_fitUp m_fitDown m_worstUp m_worstDown r2 r3 r5 r6 r8 r9 r13 r14 r15 r26 r27 r28 r30 r31 r32 q3 q4 q5 q6 q7 q8 q9 q10 q11 q12 q13 q14 q15 q16 q18 q19 q20 r19 r20 r21 r22 r23 r24 q17 L nl nt np nr wa wb f n so ch hW hT hD hP hK hA
  refine ⟨_, c_X10_met (h_c0 := (dk_c0 hD)) (h_c1 := (dk_c1 hD)) (h_c2 := (dk_c2 hD)) (h_ok := (fun z k hk hL => okC hD a3 (dkl hD z.1) (dkt hD z.2.1) k hk hL)), ?_⟩
  rintro r w' (⟨x0_0, f1, f2, f3, rfl, rfl⟩ | ⟨x1_0, x1_1, f1, f2, f3, rfl, rfl⟩ | ⟨f1, f2, rfl, rfl⟩ | ⟨f1, rfl, rfl⟩)
  · rw [hD.1.1] at f1
    rw [hD.1.2.1] at f1
    rw [hD.1.2.2.1] at f2
    obtain ⟨b1, b2, b3, b4, b5⟩ := dk_bars hD f1.1
    refine ⟨rfl, rfl, ⟨_, rfl⟩, _, c_X11_met (h_l := (dk_m0 hD)) (h_t := (dk_m1 hD)) (h_pp := (dk_m2 hD)), ?_⟩
    rintro r2 w2 (⟨y0_0, g1, g2, g3, rfl, rfl⟩ | ⟨y1_0, y1_1, g1, g2, g3, rfl, rfl⟩ | ⟨g1, g2, rfl, rfl⟩ | ⟨g1, rfl, rfl⟩)
    · exact ⟨rfl, ⟨_, rfl⟩, inv_mk (fun z => absurd z (by decide)) hT hD hP hK hA⟩
    · rw [met_e hD a3 f1.1 f1.2.1 f2, f3] at g3
      cases g3
    · exact absurd f2 g2
    · exact absurd f1 g1
  · rw [hD.1.1] at f1
    rw [hD.1.2.1] at f1
    rw [hD.1.2.2.1] at f2
    obtain ⟨b1, b2, b3, b4, b5⟩ := dk_bars hD f1.1
    refine ⟨rfl, rfl, ⟨_, rfl⟩, _, c_X11_met (h_l := (dk_m0 hD)) (h_t := (dk_m1 hD)) (h_pp := (dk_m2 hD)), ?_⟩
    rintro r2 w2 (⟨y0_0, g1, g2, g3, rfl, rfl⟩ | ⟨y1_0, y1_1, g1, g2, g3, rfl, rfl⟩ | ⟨g1, g2, rfl, rfl⟩ | ⟨g1, rfl, rfl⟩)
    · rw [met_e hD a3 f1.1 f1.2.1 f2, f3] at g3
      cases g3
    · rw [met_e hD a3 f1.1 f1.2.1 f2, f3] at g3
      have ei := Sum.inr.inj g3
      exact ⟨by rw [ei], ⟨_, rfl⟩, inv_mk (fun z => absurd z (by decide)) hT hD hP hK hA⟩
    · exact absurd f2 g2
    · exact absurd f1 g1
  · rw [hD.1.1] at f1
    rw [hD.1.2.1] at f1
    rw [hD.1.2.2.1] at f2
    obtain ⟨b1, b2, b3, b4, b5⟩ := dk_bars hD f1.1
    refine ⟨rfl, rfl, ⟨_, rfl⟩, _, c_X11_met (h_l := (dk_m0 hD)) (h_t := (dk_m1 hD)) (h_pp := (dk_m2 hD)), ?_⟩
    rintro r2 w2 (⟨y0_0, g1, g2, g3, rfl, rfl⟩ | ⟨y1_0, y1_1, g1, g2, g3, rfl, rfl⟩ | ⟨g1, g2, rfl, rfl⟩ | ⟨g1, rfl, rfl⟩)
    · exact absurd g2 f2
    · exact absurd g2 f2
    · exact ⟨rfl, ⟨_, rfl⟩, inv_mk (fun z => absurd z (by decide)) hT hD hP hK hA⟩
    · exact absurd f1 g1
  · rw [hD.1.1] at f1
    rw [hD.1.2.1] at f1
    refine ⟨rfl, rfl, ⟨_, rfl⟩, _, c_X11_met (h_l := (dk_m0 hD)) (h_t := (dk_m1 hD)) (h_pp := (dk_m2 hD)), ?_⟩
    rintro r2 w2 (⟨y0_0, g1, g2, g3, rfl, rfl⟩ | ⟨y1_0, y1_1, g1, g2, g3, rfl, rfl⟩ | ⟨g1, g2, rfl, rfl⟩ | ⟨g1, rfl, rfl⟩)
    · exact absurd g1 f1
    · exact absurd g1 f1
    · exact absurd g1 f1
    · exact ⟨rfl, ⟨_, rfl⟩, inv_mk (fun z => absurd z (by decide)) hT hD hP hK hA⟩
set_option maxRecDepth 100000 in
theorem pr_best {w : ax_W} (hI : INV w) (a1 a2 : Int32) : PrI M_X10_best M_X11_best [.int a1, .int a2] w := by
  refine hI (fun w => PrI M_X10_best M_X11_best [.int a1, .int a2] w) ?_
  intro tr fl pl wl wd f1_3 f1_4 f10_0 f10_1 f10_2 f10_3 f12_5 f12_6 f12_7 f12_8 f12_9 f18_7 f18_8 f18_9 f18_10 f25_3 m_thrown m_where m_readLinks m_readTracers m_readPoints m_readPairs m_textLong m_at m_spot m_token m_whole m_readFault m_readPlace m_value m_curveMany m_cornerMany m_straightAt m_lined f11_0 f11_1 f11_2 f11_3 f11_4 f11_5 f11_6 f11_7 f11_8 f11_9 f11_10 f11_11 f11_12 f11_13 f11_14 f11_15 f18_11 f18_12 m_n m_c m_d m_s m_e m_k m_x m_y m_g m_a m_fitUp m_fitDown m_worstUp m_worstDown r2 r3 r5 r6 r8 r9 r13 r14 r15 r26 r27 r28 r30 r31 r32 q3 q4 q5 q6 q7 q8 q9 q10 q11 q12 q13 q14 q15 q16 q18 q19 q20 r19 r20 r21 r22 r23 r24 q17 L nl nt np nr wa wb f n so ch hW hT hD hP hK hA
  refine ⟨_, c_X10_best (h_c0 := (dk_c0 hD)) (h_nt := hD.1.2.1) (h_nt4 := hD.2.1.2.1) (h_np := hD.1.2.2.1) (h_np8 := hD.2.1.2.2.1) (h_p := (fun k => decide_eq_true_iff)) (h_X := (fun _ _ _ _ => rfl)) (h_Y := (fun _ _ _ _ => rfl)) (h_ok := (fun z i hi k hk hL => okC hD a2 (dkl hD z.1) (dkt hD hi) k hk hL)) (p := (pC r5 a1)) (XX := (fun i => XC r5 a1 i a2)) (YY := (fun i => YC r5 a1 i a2)) (np := np) (nt := nt), ?_⟩
  rintro r w' (⟨f1, f2, f3, rfl, rfl⟩ | ⟨f1, f2, f3, f4, rfl, rfl⟩ | ⟨x2_0, f1, f2, f3, f4, f5, rfl, rfl⟩ | ⟨x3_0, x3_1, x3_2, x3_3, x3_4, x3_5, x3_6, f1, f2, f3, f4, f5, rfl, rfl⟩ | ⟨f1, f2, rfl, rfl⟩ | ⟨f1, rfl, rfl⟩)
  · rw [hD.1.1] at f1
    obtain ⟨b1, b2, b3, b4, b5⟩ := dk_bars hD f1
    refine ⟨rfl, rfl, ⟨_, rfl⟩, _, c_X11_best (h_l := (dk_m0 hD)) (h_nt4 := hD.2.1.2.1) (h_np8 := hD.2.1.2.2.1) (h_p := (fun k => decide_eq_true_iff)) (h_X := (fun _ _ _ _ => rfl)) (h_Y := (fun _ _ _ _ => rfl)) (h_ok := (fun z i hi k hk hL => okM hD a2 z.1 hi k hk hL)) (p := (pM q4 a1)) (XX := (fun i => XM q4 q5 a1 i a2)) (YY := (fun i => YM q4 q5 a1 i a2)) (np := np) (nt := nt), ?_⟩
    rintro r2 w2 (⟨y0_0, y0_1, y0_2, y0_3, y0_4, y0_5, y0_6, g1, g2, g3, g4, rfl, rfl⟩ | ⟨y1_0, y1_1, y1_2, y1_3, y1_4, y1_5, y1_6, g1, g2, g3, g4, rfl, rfl⟩ | ⟨y2_0, y2_1, y2_2, y2_3, y2_4, y2_5, g1, g2, g3, rfl, rfl⟩ | ⟨g1, g2, rfl, rfl⟩ | ⟨g1, rfl, rfl⟩)
    · rw [le1] at g2
      have z0 : nt = 0 := by rcases Nat.eq_zero_or_pos nt with y | y; exact y; exact absurd f3 (Int32.not_le.mpr ((nz_nat (dk_t4 hD)).mpr y))
      subst z0
      rw [itx_0] at g3
      have ei := Sum.inl.inj g3
      exact absurd (congrArg Prod.fst ei).symm g4
    · rw [le1] at g2
      exact ⟨rfl, ⟨_, rfl⟩, inv_mk (fun z => absurd z (by decide)) hT hD hP hK hA⟩
    · rw [le1] at g2
      have z0 : nt = 0 := by rcases Nat.eq_zero_or_pos nt with y | y; exact y; exact absurd f3 (Int32.not_le.mpr ((nz_nat (dk_t4 hD)).mpr y))
      subst z0
      rw [itx_0] at g3
      cases g3
    · rw [le1] at g2
      exact absurd f2 g2
    · exact absurd f1 g1
  · rw [hD.1.1] at f1
    obtain ⟨b1, b2, b3, b4, b5⟩ := dk_bars hD f1
    refine ⟨rfl, rfl, ⟨_, rfl⟩, _, c_X11_best (h_l := (dk_m0 hD)) (h_nt4 := hD.2.1.2.1) (h_np8 := hD.2.1.2.2.1) (h_p := (fun k => decide_eq_true_iff)) (h_X := (fun _ _ _ _ => rfl)) (h_Y := (fun _ _ _ _ => rfl)) (h_ok := (fun z i hi k hk hL => okM hD a2 z.1 hi k hk hL)) (p := (pM q4 a1)) (XX := (fun i => XM q4 q5 a1 i a2)) (YY := (fun i => YM q4 q5 a1 i a2)) (np := np) (nt := nt), ?_⟩
    rintro r2 w2 (⟨y0_0, y0_1, y0_2, y0_3, y0_4, y0_5, y0_6, g1, g2, g3, g4, rfl, rfl⟩ | ⟨y1_0, y1_1, y1_2, y1_3, y1_4, y1_5, y1_6, g1, g2, g3, g4, rfl, rfl⟩ | ⟨y2_0, y2_1, y2_2, y2_3, y2_4, y2_5, g1, g2, g3, rfl, rfl⟩ | ⟨g1, g2, rfl, rfl⟩ | ⟨g1, rfl, rfl⟩)
    · rw [le1] at g2
      have t0 : 0 < nt := (nz_nat (dk_t4 hD)).mp (Int32.not_le.mp f3)
      have bz := best_0 (l := a1) (np := np) (q4 := q4) (q5 := q5) (q6 := q6) (b := a2) (Or.inl (show np = 0 by rcases Nat.eq_zero_or_pos np with y | y; exact y; exact absurd f4 (Int32.not_le.mpr ((nz_nat (dk_p8 hD)).mpr y)))) t0
      rw [bz] at g3
      cases g3
    · rw [le1] at g2
      have t0 : 0 < nt := (nz_nat (dk_t4 hD)).mp (Int32.not_le.mp f3)
      have bz := best_0 (l := a1) (np := np) (q4 := q4) (q5 := q5) (q6 := q6) (b := a2) (Or.inl (show np = 0 by rcases Nat.eq_zero_or_pos np with y | y; exact y; exact absurd f4 (Int32.not_le.mpr ((nz_nat (dk_p8 hD)).mpr y)))) t0
      rw [bz] at g3
      cases g3
    · rw [le1] at g2
      have t0 : 0 < nt := (nz_nat (dk_t4 hD)).mp (Int32.not_le.mp f3)
      have bz := best_0 (l := a1) (np := np) (q4 := q4) (q5 := q5) (q6 := q6) (b := a2) (Or.inl (show np = 0 by rcases Nat.eq_zero_or_pos np with y | y; exact y; exact absurd f4 (Int32.not_le.mpr ((nz_nat (dk_p8 hD)).mpr y)))) t0
      rw [bz] at g3
      have ei := Sum.inr.inj g3
      exact ⟨by rw [← ei], ⟨_, rfl⟩, inv_mk (fun z => absurd z (by decide)) hT hD hP hK hA⟩
    · rw [le1] at g2
      exact absurd f2 g2
    · exact absurd f1 g1
  · rw [hD.1.1] at f1
    obtain ⟨b1, b2, b3, b4, b5⟩ := dk_bars hD f1
    refine ⟨rfl, rfl, ⟨_, rfl⟩, _, c_X11_best (h_l := (dk_m0 hD)) (h_nt4 := hD.2.1.2.1) (h_np8 := hD.2.1.2.2.1) (h_p := (fun k => decide_eq_true_iff)) (h_X := (fun _ _ _ _ => rfl)) (h_Y := (fun _ _ _ _ => rfl)) (h_ok := (fun z i hi k hk hL => okM hD a2 z.1 hi k hk hL)) (p := (pM q4 a1)) (XX := (fun i => XM q4 q5 a1 i a2)) (YY := (fun i => YM q4 q5 a1 i a2)) (np := np) (nt := nt), ?_⟩
    rintro r2 w2 (⟨y0_0, y0_1, y0_2, y0_3, y0_4, y0_5, y0_6, g1, g2, g3, g4, rfl, rfl⟩ | ⟨y1_0, y1_1, y1_2, y1_3, y1_4, y1_5, y1_6, g1, g2, g3, g4, rfl, rfl⟩ | ⟨y2_0, y2_1, y2_2, y2_3, y2_4, y2_5, g1, g2, g3, rfl, rfl⟩ | ⟨g1, g2, rfl, rfl⟩ | ⟨g1, rfl, rfl⟩)
    · rw [le1] at g2
      have t0 : 0 < nt := (nz_nat (dk_t4 hD)).mp (Int32.not_le.mp f3)
      have bz := best_0 (l := a1) (np := np) (q4 := q4) (q5 := q5) (q6 := q6) (b := a2) (Or.inr (show Cn (pM q4 a1) 40 = 0 by rw [cn_e hD f1]; exact (nI_eq (a := Cn (pC r5 a1) 40) (b := 0) (by have := cn_le (pC r5 a1) 40; omega) (by omega)).mp f5)) t0
      rw [bz] at g3
      cases g3
    · rw [le1] at g2
      have t0 : 0 < nt := (nz_nat (dk_t4 hD)).mp (Int32.not_le.mp f3)
      have bz := best_0 (l := a1) (np := np) (q4 := q4) (q5 := q5) (q6 := q6) (b := a2) (Or.inr (show Cn (pM q4 a1) 40 = 0 by rw [cn_e hD f1]; exact (nI_eq (a := Cn (pC r5 a1) 40) (b := 0) (by have := cn_le (pC r5 a1) 40; omega) (by omega)).mp f5)) t0
      rw [bz] at g3
      cases g3
    · rw [le1] at g2
      have t0 : 0 < nt := (nz_nat (dk_t4 hD)).mp (Int32.not_le.mp f3)
      have bz := best_0 (l := a1) (np := np) (q4 := q4) (q5 := q5) (q6 := q6) (b := a2) (Or.inr (show Cn (pM q4 a1) 40 = 0 by rw [cn_e hD f1]; exact (nI_eq (a := Cn (pC r5 a1) 40) (b := 0) (by have := cn_le (pC r5 a1) 40; omega) (by omega)).mp f5)) t0
      rw [bz] at g3
      have ei := Sum.inr.inj g3
      exact ⟨by rw [← ei], ⟨_, rfl⟩, inv_mk (fun z => absurd z (by decide)) hT hD hP hK hA⟩
    · rw [le1] at g2
      exact absurd f2 g2
    · exact absurd f1 g1
  · rw [hD.1.1] at f1
    obtain ⟨b1, b2, b3, b4, b5⟩ := dk_bars hD f1
    refine ⟨rfl, rfl, ⟨_, rfl⟩, _, c_X11_best (h_l := (dk_m0 hD)) (h_nt4 := hD.2.1.2.1) (h_np8 := hD.2.1.2.2.1) (h_p := (fun k => decide_eq_true_iff)) (h_X := (fun _ _ _ _ => rfl)) (h_Y := (fun _ _ _ _ => rfl)) (h_ok := (fun z i hi k hk hL => okM hD a2 z.1 hi k hk hL)) (p := (pM q4 a1)) (XX := (fun i => XM q4 q5 a1 i a2)) (YY := (fun i => YM q4 q5 a1 i a2)) (np := np) (nt := nt), ?_⟩
    rintro r2 w2 (⟨y0_0, y0_1, y0_2, y0_3, y0_4, y0_5, y0_6, g1, g2, g3, g4, rfl, rfl⟩ | ⟨y1_0, y1_1, y1_2, y1_3, y1_4, y1_5, y1_6, g1, g2, g3, g4, rfl, rfl⟩ | ⟨y2_0, y2_1, y2_2, y2_3, y2_4, y2_5, g1, g2, g3, rfl, rfl⟩ | ⟨g1, g2, rfl, rfl⟩ | ⟨g1, rfl, rfl⟩)
    · rw [le1] at g2
      have t0 : 0 < nt := (nz_nat (dk_t4 hD)).mp (Int32.not_le.mp f3)
      have p0 : 0 < np := (nz_nat (dk_p8 hD)).mp (Int32.not_le.mp f4)
      obtain ⟨bw, be, bn⟩ := best_e hD a2 f1 t0 p0 (cn_pos _ f5)
      rw [be] at g3
      have ei := Sum.inl.inj g3
      exact ⟨congrArg (fun v => some (Value.int v)) (congrArg Prod.fst ei).symm, ⟨_, rfl⟩, inv_mk (fun z => absurd z (by decide)) hT hD hP hK hA⟩
    · rw [le1] at g2
      have t0 : 0 < nt := (nz_nat (dk_t4 hD)).mp (Int32.not_le.mp f3)
      have p0 : 0 < np := (nz_nat (dk_p8 hD)).mp (Int32.not_le.mp f4)
      obtain ⟨bw, be, bn⟩ := best_e hD a2 f1 t0 p0 (cn_pos _ f5)
      rw [be] at g3
      have ei := Sum.inl.inj g3
      exact absurd ((congrArg Prod.fst ei).trans g4) bn
    · rw [le1] at g2
      have t0 : 0 < nt := (nz_nat (dk_t4 hD)).mp (Int32.not_le.mp f3)
      have p0 : 0 < np := (nz_nat (dk_p8 hD)).mp (Int32.not_le.mp f4)
      obtain ⟨bw, be, bn⟩ := best_e hD a2 f1 t0 p0 (cn_pos _ f5)
      rw [be] at g3
      cases g3
    · rw [le1] at g2
      exact absurd f2 g2
    · exact absurd f1 g1
  · rw [hD.1.1] at f1
    obtain ⟨b1, b2, b3, b4, b5⟩ := dk_bars hD f1
    refine ⟨rfl, rfl, ⟨_, rfl⟩, _, c_X11_best (h_l := (dk_m0 hD)) (h_nt4 := hD.2.1.2.1) (h_np8 := hD.2.1.2.2.1) (h_p := (fun k => decide_eq_true_iff)) (h_X := (fun _ _ _ _ => rfl)) (h_Y := (fun _ _ _ _ => rfl)) (h_ok := (fun z i hi k hk hL => okM hD a2 z.1 hi k hk hL)) (p := (pM q4 a1)) (XX := (fun i => XM q4 q5 a1 i a2)) (YY := (fun i => YM q4 q5 a1 i a2)) (np := np) (nt := nt), ?_⟩
    rintro r2 w2 (⟨y0_0, y0_1, y0_2, y0_3, y0_4, y0_5, y0_6, g1, g2, g3, g4, rfl, rfl⟩ | ⟨y1_0, y1_1, y1_2, y1_3, y1_4, y1_5, y1_6, g1, g2, g3, g4, rfl, rfl⟩ | ⟨y2_0, y2_1, y2_2, y2_3, y2_4, y2_5, g1, g2, g3, rfl, rfl⟩ | ⟨g1, g2, rfl, rfl⟩ | ⟨g1, rfl, rfl⟩)
    · rw [le1] at g2
      exact absurd g2 f2
    · rw [le1] at g2
      exact absurd g2 f2
    · rw [le1] at g2
      exact absurd g2 f2
    · rw [le1] at g2
      exact ⟨rfl, ⟨_, rfl⟩, inv_mk (fun z => absurd z (by decide)) hT hD hP hK hA⟩
    · exact absurd f1 g1
  · rw [hD.1.1] at f1
    refine ⟨rfl, rfl, ⟨_, rfl⟩, _, c_X11_best (h_l := (dk_m0 hD)) (h_nt4 := hD.2.1.2.1) (h_np8 := hD.2.1.2.2.1) (h_p := (fun k => decide_eq_true_iff)) (h_X := (fun _ _ _ _ => rfl)) (h_Y := (fun _ _ _ _ => rfl)) (h_ok := (fun z i hi k hk hL => okM hD a2 z.1 hi k hk hL)) (p := (pM q4 a1)) (XX := (fun i => XM q4 q5 a1 i a2)) (YY := (fun i => YM q4 q5 a1 i a2)) (np := np) (nt := nt), ?_⟩
    rintro r2 w2 (⟨y0_0, y0_1, y0_2, y0_3, y0_4, y0_5, y0_6, g1, g2, g3, g4, rfl, rfl⟩ | ⟨y1_0, y1_1, y1_2, y1_3, y1_4, y1_5, y1_6, g1, g2, g3, g4, rfl, rfl⟩ | ⟨y2_0, y2_1, y2_2, y2_3, y2_4, y2_5, g1, g2, g3, rfl, rfl⟩ | ⟨g1, g2, rfl, rfl⟩ | ⟨g1, rfl, rfl⟩)
    · exact absurd g1 f1
    · exact absurd g1 f1
    · exact absurd g1 f1
    · exact absurd g1 f1
    · exact ⟨rfl, ⟨_, rfl⟩, inv_mk (fun z => absurd z (by decide)) hT hD hP hK hA⟩
set_option maxRecDepth 100000 in
theorem pr_closing {w : ax_W} (hI : INV w) (a1 a2 a3 : Int32) : PrL M_X10_closing M_X11_closing [.int a1, .int a2, .int a3] w := by
  refine hI (fun w => PrL M_X10_closing M_X11_closing [.int a1, .int a2, .int a3] w) ?_
  intro tr fl pl wl wd f1_3 f1_4 f10_0 f10_1 f10_2 f10_3 f12_5 f12_6 f12_7 f12_8 f12_9 f18_7 f18_8 f18_9 f18_10 f25_3 m_thrown m_where m_readLinks m_readTracers m_readPoints m_readPairs m_textLong m_at m_spot m_token m_whole m_readFault m_readPlace m_value m_curveMany m_cornerMany m_straightAt m_lined f11_0 f11_1 f11_2 f11_3 f11_4 f11_5 f11_6 f11_7 f11_8 f11_9 f11_10 f11_11 f11_12 f11_13 f11_14 f11_15 f18_11 f18_12 m_n m_c m_d m_s m_e m_k m_x m_y m_g m_a m_fitUp m_fitDown m_worstUp m_worstDown r2 r3 r5 r6 r8 r9 r13 r14 r15 r26 r27 r28 r30 r31 r32 q3 q4 q5 q6 q7 q8 q9 q10 q11 q12 q13 q14 q15 q16 q18 q19 q20 r19 r20 r21 r22 r23 r24 q17 L nl nt np nr wa wb f n so ch hW hT hD hP hK hA
  by_cases rr : 0 ≤ a2 ∧ a2 < nI nr
  · obtain ⟨k, hk, rfl⟩ := nI_in2 (by have := hD.2.1.2.2.2; omega) rr.1 rr.2
    refine ⟨_, c_X10_closing_i (h_c0 := (dk_c0 hD)) (h_nr := hD.2.1.2.2.2) (hk := hk) (h_k := (by rw [hD.1.2.2.2]; exact rr)) (h_q4 := (fun z => (e_clos (lo := a3) hP.1 hk (hD.2.2.2.2.2.2 _ hk) (dk_okB hD (dkl hD z)).1 (dk_okB hD (dkl hD z)).2.1 (dk_okB hD (dkl hD z)).2.2.1 (dk_okB hD (dkl hD z)).2.2.2).1)) (h_q5 := (fun z => (e_clos (lo := a3) hP.1 hk (hD.2.2.2.2.2.2 _ hk) (dk_okB hD (dkl hD z)).1 (dk_okB hD (dkl hD z)).2.1 (dk_okB hD (dkl hD z)).2.2.1 (dk_okB hD (dkl hD z)).2.2.2).2.1)) (nr := nr) (k := k), ?_⟩
    rintro r w' (⟨f1, rfl, rfl⟩ | ⟨f1, rfl, rfl⟩)
    · rw [hD.1.1] at f1
      obtain ⟨b1, b2, b3, b4, b5⟩ := dk_bars hD f1
      refine ⟨rfl, rfl, ⟨_, rfl⟩, _, c_X11_closing (h_l := (dk_m0 hD)) (h_r := (dk_m3 hD)) (h_q2 := (fun z _ => (e_clos (lo := a3) hP.1 hk (hD.2.2.2.2.2.2 _ hk) (dk_bars hD z).2.2.2.2.1 (dk_bars hD z).2.2.2.2.2.1 (dk_bars hD z).2.2.2.2.2.2.1 (dk_bars hD z).2.2.2.2.2.2.2).2.2.1)) (h_q3 := (fun z _ => (e_clos (lo := a3) hP.1 hk (hD.2.2.2.2.2.2 _ hk) (dk_bars hD z).2.2.2.2.1 (dk_bars hD z).2.2.2.2.2.1 (dk_bars hD z).2.2.2.2.2.2.1 (dk_bars hD z).2.2.2.2.2.2.2).2.2.2.1)) (h_q4 := (fun z _ => (e_clos (lo := a3) hP.1 hk (hD.2.2.2.2.2.2 _ hk) (dk_bars hD z).2.2.2.2.1 (dk_bars hD z).2.2.2.2.2.1 (dk_bars hD z).2.2.2.2.2.2.1 (dk_bars hD z).2.2.2.2.2.2.2).2.2.2.2.1)), ?_⟩
      rintro r2 w2 (⟨g1, g2, rfl, rfl⟩ | ⟨g1, g2, rfl, rfl⟩ | ⟨g1, rfl, rfl⟩)
      · exact ⟨by rw [b1, b2, b3, b4]; exact congrArg (fun v => some (Value.long v)) (e_clos (lo := a3) hP.1 hk (hD.2.2.2.2.2.2 _ hk) b5.1 b5.2.1 b5.2.2.1 b5.2.2.2).2.2.2.2.2.symm, ⟨_, rfl⟩, inv_mk (fun z => absurd z (by decide)) hT hD hP hK hA⟩
      · exact absurd rr g2
      · exact absurd f1 g1
    · rw [hD.1.1] at f1
      refine ⟨rfl, rfl, ⟨_, rfl⟩, _, c_X11_closing (h_l := (dk_m0 hD)) (h_r := (dk_m3 hD)) (h_q2 := (fun z _ => (e_clos (lo := a3) hP.1 hk (hD.2.2.2.2.2.2 _ hk) (dk_bars hD z).2.2.2.2.1 (dk_bars hD z).2.2.2.2.2.1 (dk_bars hD z).2.2.2.2.2.2.1 (dk_bars hD z).2.2.2.2.2.2.2).2.2.1)) (h_q3 := (fun z _ => (e_clos (lo := a3) hP.1 hk (hD.2.2.2.2.2.2 _ hk) (dk_bars hD z).2.2.2.2.1 (dk_bars hD z).2.2.2.2.2.1 (dk_bars hD z).2.2.2.2.2.2.1 (dk_bars hD z).2.2.2.2.2.2.2).2.2.2.1)) (h_q4 := (fun z _ => (e_clos (lo := a3) hP.1 hk (hD.2.2.2.2.2.2 _ hk) (dk_bars hD z).2.2.2.2.1 (dk_bars hD z).2.2.2.2.2.1 (dk_bars hD z).2.2.2.2.2.2.1 (dk_bars hD z).2.2.2.2.2.2.2).2.2.2.2.1)), ?_⟩
      rintro r2 w2 (⟨g1, g2, rfl, rfl⟩ | ⟨g1, g2, rfl, rfl⟩ | ⟨g1, rfl, rfl⟩)
      · exact absurd g1 f1
      · exact absurd g1 f1
      · exact ⟨rfl, ⟨_, rfl⟩, inv_mk (fun z => absurd z (by decide)) hT hD hP hK hA⟩
  refine ⟨_, c_X10_closing_o (h_o := (by rw [hD.1.2.2.2]; exact rr)), ?_⟩
  rintro r w' (⟨f1, rfl, rfl⟩ | ⟨f1, rfl, rfl⟩)
  · rw [hD.1.1] at f1
    obtain ⟨b1, b2, b3, b4, b5⟩ := dk_bars hD f1
    refine ⟨rfl, rfl, ⟨_, rfl⟩, _, c_X11_closing (h_l := (dk_m0 hD)) (h_r := (dk_m3 hD)) (h_q2 := (fun _ z => absurd z rr)) (h_q3 := (fun _ z => absurd z rr)) (h_q4 := (fun _ z => absurd z rr)), ?_⟩
    rintro r2 w2 (⟨g1, g2, rfl, rfl⟩ | ⟨g1, g2, rfl, rfl⟩ | ⟨g1, rfl, rfl⟩)
    · exact absurd g2 rr
    · exact ⟨rfl, ⟨_, rfl⟩, inv_mk (fun z => absurd z (by decide)) hT hD hP hK hA⟩
    · exact absurd f1 g1
  · rw [hD.1.1] at f1
    refine ⟨rfl, rfl, ⟨_, rfl⟩, _, c_X11_closing (h_l := (dk_m0 hD)) (h_r := (dk_m3 hD)) (h_q2 := (fun _ z => absurd z rr)) (h_q3 := (fun _ z => absurd z rr)) (h_q4 := (fun _ z => absurd z rr)), ?_⟩
    rintro r2 w2 (⟨g1, g2, rfl, rfl⟩ | ⟨g1, g2, rfl, rfl⟩ | ⟨g1, rfl, rfl⟩)
    · exact absurd g1 f1
    · exact absurd g1 f1
    · exact ⟨rfl, ⟨_, rfl⟩, inv_mk (fun z => absurd z (by decide)) hT hD hP hK hA⟩
set_option maxRecDepth 100000 in
theorem pr_fit {w : ax_W} (hI : INV w) (a1 : Int32) : PrI M_X10_fit M_X11_fit [.int a1] w := by
  refine hI (fun w => PrI M_X10_fit M_X11_fit [.int a1] w) ?_
  intro tr fl pl wl wd f1_3 f1_4 f10_0 f10_1 f10_2 f10_3 f12_5 f12_6 f12_7 f12_8 f12_9 f18_7 f18_8 f18_9 f18_10 f25_3 m_thrown m_where m_readLinks m_readTracers m_readPoints m_readPairs m_textLong m_at m_spot m_token m_whole m_readFault m_readPlace m_value m_curveMany m_cornerMany m_straightAt m_lined f11_0 f11_1 f11_2 f11_3 f11_4 f11_5 f11_6 f11_7 f11_8 f11_9 f11_10 f11_11 f11_12 f11_13 f11_14 f11_15 f18_11 f18_12 m_n m_c m_d m_s m_e m_k m_x m_y m_g m_a m_fitUp m_fitDown m_worstUp m_worstDown r2 r3 r5 r6 r8 r9 r13 r14 r15 r26 r27 r28 r30 r31 r32 q3 q4 q5 q6 q7 q8 q9 q10 q11 q12 q13 q14 q15 q16 q18 q19 q20 r19 r20 r21 r22 r23 r24 q17 L nl nt np nr wa wb f n so ch hW hT hD hP hK hA
  by_cases e0 : a1 = 0
  · subst e0
    refine ⟨_, c_X10_fit_0 (h_n3 := hD.1.2.2.2) (h_nr := hD.2.1.2.2.2) (h_c0 := (dk_c0 hD)) (nr := nr), ?_⟩
    rintro r w' (⟨f1, f2, rfl, rfl⟩ | ⟨f1, f2, f3, rfl, rfl⟩ | ⟨f1, f2, f3, rfl, rfl⟩ | ⟨f1, rfl, rfl⟩)
    · rw [hD.1.1] at f1
      rw [hD.1.2.2.2] at f2
      refine ⟨rfl, rfl, ⟨_, rfl⟩, _, c_X11_fit (h_l := (dk_m0 hD)) (h_nr := hD.2.1.2.2.2) (nr := nr), ?_⟩
      rintro r2 w2 (⟨g1, rfl, rfl⟩ | ⟨y1_0, y1_1, g1, g2, g3, rfl, rfl⟩ | ⟨g1, g2, g3, rfl, rfl⟩ | ⟨g1, g2, rfl, rfl⟩)
      · rw [nz_zero (dk_l4 hD)] at g1
        exact absurd f1 g1
      · rw [nz_le (dk_r4 hD)] at g3
        exact absurd f2 g3
      · rw [nz_pos (dk_l4 hD)] at g1
        rw [le2] at g2
        rw [nz_le (dk_r4 hD)] at g3
        exact ⟨rfl, ⟨_, rfl⟩, inv_mk (fun z => absurd z (by decide)) hT hD hP hK hA⟩
      · rw [le2] at g2
        exact absurd g2 (by decide)
    · rw [hD.1.1] at f1
      rw [hD.1.2.2.2] at f2
      refine ⟨rfl, rfl, ⟨_, rfl⟩, _, c_X11_fit (h_l := (dk_m0 hD)) (h_nr := hD.2.1.2.2.2) (nr := nr), ?_⟩
      rintro r2 w2 (⟨g1, rfl, rfl⟩ | ⟨y1_0, y1_1, g1, g2, g3, rfl, rfl⟩ | ⟨g1, g2, g3, rfl, rfl⟩ | ⟨g1, g2, rfl, rfl⟩)
      · rw [nz_zero (dk_l4 hD)] at g1
        exact absurd f1 g1
      · rw [nz_pos (dk_l4 hD)] at g1
        rw [le2] at g2
        rw [nz_le (dk_r4 hD)] at g3
        have h0 := (nz_nat (dk_l4 hD)).mp f1
        have hn := (nz_nat (dk_r4 hD)).mp (Int32.not_le.mp f2)
        have fu := fit_use hD h0 hn hP.1 hP.2.1 r23 r24 f18_8 f18_9 f18_10 m_fitUp m_fitDown q16 rfl
        exact ⟨by rw [clamp_0, prb_0]; exact congrArg (fun v => some (Value.int v)) fu.1.1.symm, ⟨_, rfl⟩, inv_mk (fun z => absurd z (by decide)) hT hD ⟨hP.1, hP.2.1, Or.inr ⟨r23, r24, f18_8, f18_9, f18_10, eta4 _⟩⟩ hK hA⟩
      · rw [nz_le (dk_r4 hD)] at g3
        exact absurd g3 f2
      · rw [le2] at g2
        exact absurd g2 (by decide)
    · rw [hD.1.1] at f1
      rw [hD.1.2.2.2] at f2
      refine ⟨rfl, rfl, ⟨_, rfl⟩, _, c_X11_fit (h_l := (dk_m0 hD)) (h_nr := hD.2.1.2.2.2) (nr := nr), ?_⟩
      rintro r2 w2 (⟨g1, rfl, rfl⟩ | ⟨y1_0, y1_1, g1, g2, g3, rfl, rfl⟩ | ⟨g1, g2, g3, rfl, rfl⟩ | ⟨g1, g2, rfl, rfl⟩)
      · rw [nz_zero (dk_l4 hD)] at g1
        exact absurd f1 g1
      · rw [nz_pos (dk_l4 hD)] at g1
        rw [le2] at g2
        rw [nz_le (dk_r4 hD)] at g3
        have h0 := (nz_nat (dk_l4 hD)).mp f1
        have hn := (nz_nat (dk_r4 hD)).mp (Int32.not_le.mp f2)
        have g0 : ¬ f18_7 = 0 := by
          have b0 := hD.2.2.1 0 0 h0 (by decide)
          rw [← f3, b0.1]; intro z; have := b0.2.1; rw [z] at this; exact absurd this (by decide)
        obtain ⟨x9, y9, c1, c2, c3, hs⟩ := hP.2.2.resolve_left g0
        rw [← f3] at hs
        have fu := fit_use hD h0 hn hP.1 hP.2.1 x9 y9 c1 c2 c3 m_fitUp m_fitDown q16 hs
        exact ⟨by rw [clamp_0, prb_0]; exact congrArg (fun v => some (Value.int v)) fu.1.1.symm, ⟨_, rfl⟩, inv_mk (fun z => absurd z (by decide)) hT hD hP hK hA⟩
      · rw [nz_le (dk_r4 hD)] at g3
        exact absurd g3 f2
      · rw [le2] at g2
        exact absurd g2 (by decide)
    · rw [hD.1.1] at f1
      refine ⟨rfl, rfl, ⟨_, rfl⟩, _, c_X11_fit (h_l := (dk_m0 hD)) (h_nr := hD.2.1.2.2.2) (nr := nr), ?_⟩
      rintro r2 w2 (⟨g1, rfl, rfl⟩ | ⟨y1_0, y1_1, g1, g2, g3, rfl, rfl⟩ | ⟨g1, g2, g3, rfl, rfl⟩ | ⟨g1, g2, rfl, rfl⟩)
      · rw [nz_zero (dk_l4 hD)] at g1
        exact ⟨rfl, ⟨_, rfl⟩, inv_mk (fun z => absurd z (by decide)) hT hD hP hK hA⟩
      · rw [nz_pos (dk_l4 hD)] at g1
        exact absurd g1 f1
      · rw [nz_pos (dk_l4 hD)] at g1
        exact absurd g1 f1
      · rw [le2] at g2
        exact absurd g2 (by decide)
  by_cases e1 : a1 = 1
  · subst e1
    refine ⟨_, c_X10_fit_1 (h_n3 := hD.1.2.2.2) (h_nr := hD.2.1.2.2.2) (h_c0 := (dk_c0 hD)) (nr := nr), ?_⟩
    rintro r w' (⟨f1, f2, rfl, rfl⟩ | ⟨f1, f2, f3, rfl, rfl⟩ | ⟨f1, f2, f3, rfl, rfl⟩ | ⟨f1, rfl, rfl⟩)
    · rw [hD.1.1] at f1
      rw [hD.1.2.2.2] at f2
      refine ⟨rfl, rfl, ⟨_, rfl⟩, _, c_X11_fit (h_l := (dk_m0 hD)) (h_nr := hD.2.1.2.2.2) (nr := nr), ?_⟩
      rintro r2 w2 (⟨g1, rfl, rfl⟩ | ⟨y1_0, y1_1, g1, g2, g3, rfl, rfl⟩ | ⟨g1, g2, g3, rfl, rfl⟩ | ⟨g1, g2, rfl, rfl⟩)
      · rw [nz_zero (dk_l4 hD)] at g1
        exact absurd f1 g1
      · rw [nz_le (dk_r4 hD)] at g3
        exact absurd f2 g3
      · rw [nz_pos (dk_l4 hD)] at g1
        rw [le2] at g2
        rw [nz_le (dk_r4 hD)] at g3
        exact ⟨rfl, ⟨_, rfl⟩, inv_mk (fun z => absurd z (by decide)) hT hD hP hK hA⟩
      · rw [le2] at g2
        exact absurd g2 (by decide)
    · rw [hD.1.1] at f1
      rw [hD.1.2.2.2] at f2
      refine ⟨rfl, rfl, ⟨_, rfl⟩, _, c_X11_fit (h_l := (dk_m0 hD)) (h_nr := hD.2.1.2.2.2) (nr := nr), ?_⟩
      rintro r2 w2 (⟨g1, rfl, rfl⟩ | ⟨y1_0, y1_1, g1, g2, g3, rfl, rfl⟩ | ⟨g1, g2, g3, rfl, rfl⟩ | ⟨g1, g2, rfl, rfl⟩)
      · rw [nz_zero (dk_l4 hD)] at g1
        exact absurd f1 g1
      · rw [nz_pos (dk_l4 hD)] at g1
        rw [le2] at g2
        rw [nz_le (dk_r4 hD)] at g3
        have h0 := (nz_nat (dk_l4 hD)).mp f1
        have hn := (nz_nat (dk_r4 hD)).mp (Int32.not_le.mp f2)
        have fu := fit_use hD h0 hn hP.1 hP.2.1 r23 r24 f18_8 f18_9 f18_10 m_fitUp m_fitDown q16 rfl
        exact ⟨by rw [clamp_1, prb_1]; exact congrArg (fun v => some (Value.int v)) fu.1.2.1.symm, ⟨_, rfl⟩, inv_mk (fun z => absurd z (by decide)) hT hD ⟨hP.1, hP.2.1, Or.inr ⟨r23, r24, f18_8, f18_9, f18_10, eta4 _⟩⟩ hK hA⟩
      · rw [nz_le (dk_r4 hD)] at g3
        exact absurd g3 f2
      · rw [le2] at g2
        exact absurd g2 (by decide)
    · rw [hD.1.1] at f1
      rw [hD.1.2.2.2] at f2
      refine ⟨rfl, rfl, ⟨_, rfl⟩, _, c_X11_fit (h_l := (dk_m0 hD)) (h_nr := hD.2.1.2.2.2) (nr := nr), ?_⟩
      rintro r2 w2 (⟨g1, rfl, rfl⟩ | ⟨y1_0, y1_1, g1, g2, g3, rfl, rfl⟩ | ⟨g1, g2, g3, rfl, rfl⟩ | ⟨g1, g2, rfl, rfl⟩)
      · rw [nz_zero (dk_l4 hD)] at g1
        exact absurd f1 g1
      · rw [nz_pos (dk_l4 hD)] at g1
        rw [le2] at g2
        rw [nz_le (dk_r4 hD)] at g3
        have h0 := (nz_nat (dk_l4 hD)).mp f1
        have hn := (nz_nat (dk_r4 hD)).mp (Int32.not_le.mp f2)
        have g0 : ¬ f18_7 = 0 := by
          have b0 := hD.2.2.1 0 0 h0 (by decide)
          rw [← f3, b0.1]; intro z; have := b0.2.1; rw [z] at this; exact absurd this (by decide)
        obtain ⟨x9, y9, c1, c2, c3, hs⟩ := hP.2.2.resolve_left g0
        rw [← f3] at hs
        have fu := fit_use hD h0 hn hP.1 hP.2.1 x9 y9 c1 c2 c3 m_fitUp m_fitDown q16 hs
        exact ⟨by rw [clamp_1, prb_1]; exact congrArg (fun v => some (Value.int v)) fu.1.2.1.symm, ⟨_, rfl⟩, inv_mk (fun z => absurd z (by decide)) hT hD hP hK hA⟩
      · rw [nz_le (dk_r4 hD)] at g3
        exact absurd g3 f2
      · rw [le2] at g2
        exact absurd g2 (by decide)
    · rw [hD.1.1] at f1
      refine ⟨rfl, rfl, ⟨_, rfl⟩, _, c_X11_fit (h_l := (dk_m0 hD)) (h_nr := hD.2.1.2.2.2) (nr := nr), ?_⟩
      rintro r2 w2 (⟨g1, rfl, rfl⟩ | ⟨y1_0, y1_1, g1, g2, g3, rfl, rfl⟩ | ⟨g1, g2, g3, rfl, rfl⟩ | ⟨g1, g2, rfl, rfl⟩)
      · rw [nz_zero (dk_l4 hD)] at g1
        exact ⟨rfl, ⟨_, rfl⟩, inv_mk (fun z => absurd z (by decide)) hT hD hP hK hA⟩
      · rw [nz_pos (dk_l4 hD)] at g1
        exact absurd g1 f1
      · rw [nz_pos (dk_l4 hD)] at g1
        exact absurd g1 f1
      · rw [le2] at g2
        exact absurd g2 (by decide)
  by_cases e2 : a1 = 2
  · subst e2
    refine ⟨_, c_X10_fit_2 (h_n3 := hD.1.2.2.2) (h_nr := hD.2.1.2.2.2) (h_c0 := (dk_c0 hD)) (nr := nr), ?_⟩
    rintro r w' (⟨f1, f2, rfl, rfl⟩ | ⟨f1, f2, f3, rfl, rfl⟩ | ⟨f1, f2, f3, rfl, rfl⟩ | ⟨f1, rfl, rfl⟩)
    · rw [hD.1.1] at f1
      rw [hD.1.2.2.2] at f2
      refine ⟨rfl, rfl, ⟨_, rfl⟩, _, c_X11_fit (h_l := (dk_m0 hD)) (h_nr := hD.2.1.2.2.2) (nr := nr), ?_⟩
      rintro r2 w2 (⟨g1, rfl, rfl⟩ | ⟨y1_0, y1_1, g1, g2, g3, rfl, rfl⟩ | ⟨g1, g2, g3, rfl, rfl⟩ | ⟨g1, g2, rfl, rfl⟩)
      · rw [nz_zero (dk_l4 hD)] at g1
        exact absurd f1 g1
      · rw [nz_le (dk_r4 hD)] at g3
        exact absurd f2 g3
      · rw [nz_pos (dk_l4 hD)] at g1
        rw [le2] at g2
        rw [nz_le (dk_r4 hD)] at g3
        exact ⟨rfl, ⟨_, rfl⟩, inv_mk (fun z => absurd z (by decide)) hT hD hP hK hA⟩
      · rw [le2] at g2
        exact absurd g2 (by decide)
    · rw [hD.1.1] at f1
      rw [hD.1.2.2.2] at f2
      refine ⟨rfl, rfl, ⟨_, rfl⟩, _, c_X11_fit (h_l := (dk_m0 hD)) (h_nr := hD.2.1.2.2.2) (nr := nr), ?_⟩
      rintro r2 w2 (⟨g1, rfl, rfl⟩ | ⟨y1_0, y1_1, g1, g2, g3, rfl, rfl⟩ | ⟨g1, g2, g3, rfl, rfl⟩ | ⟨g1, g2, rfl, rfl⟩)
      · rw [nz_zero (dk_l4 hD)] at g1
        exact absurd f1 g1
      · rw [nz_pos (dk_l4 hD)] at g1
        rw [le2] at g2
        rw [nz_le (dk_r4 hD)] at g3
        have h0 := (nz_nat (dk_l4 hD)).mp f1
        have hn := (nz_nat (dk_r4 hD)).mp (Int32.not_le.mp f2)
        have fu := fit_use hD h0 hn hP.1 hP.2.1 r23 r24 f18_8 f18_9 f18_10 m_fitUp m_fitDown q16 rfl
        exact ⟨by rw [clamp_2, prb_2]; exact congrArg (fun v => some (Value.int v)) fu.1.2.2.symm, ⟨_, rfl⟩, inv_mk (fun z => absurd z (by decide)) hT hD ⟨hP.1, hP.2.1, Or.inr ⟨r23, r24, f18_8, f18_9, f18_10, eta4 _⟩⟩ hK hA⟩
      · rw [nz_le (dk_r4 hD)] at g3
        exact absurd g3 f2
      · rw [le2] at g2
        exact absurd g2 (by decide)
    · rw [hD.1.1] at f1
      rw [hD.1.2.2.2] at f2
      refine ⟨rfl, rfl, ⟨_, rfl⟩, _, c_X11_fit (h_l := (dk_m0 hD)) (h_nr := hD.2.1.2.2.2) (nr := nr), ?_⟩
      rintro r2 w2 (⟨g1, rfl, rfl⟩ | ⟨y1_0, y1_1, g1, g2, g3, rfl, rfl⟩ | ⟨g1, g2, g3, rfl, rfl⟩ | ⟨g1, g2, rfl, rfl⟩)
      · rw [nz_zero (dk_l4 hD)] at g1
        exact absurd f1 g1
      · rw [nz_pos (dk_l4 hD)] at g1
        rw [le2] at g2
        rw [nz_le (dk_r4 hD)] at g3
        have h0 := (nz_nat (dk_l4 hD)).mp f1
        have hn := (nz_nat (dk_r4 hD)).mp (Int32.not_le.mp f2)
        have g0 : ¬ f18_7 = 0 := by
          have b0 := hD.2.2.1 0 0 h0 (by decide)
          rw [← f3, b0.1]; intro z; have := b0.2.1; rw [z] at this; exact absurd this (by decide)
        obtain ⟨x9, y9, c1, c2, c3, hs⟩ := hP.2.2.resolve_left g0
        rw [← f3] at hs
        have fu := fit_use hD h0 hn hP.1 hP.2.1 x9 y9 c1 c2 c3 m_fitUp m_fitDown q16 hs
        exact ⟨by rw [clamp_2, prb_2]; exact congrArg (fun v => some (Value.int v)) fu.1.2.2.symm, ⟨_, rfl⟩, inv_mk (fun z => absurd z (by decide)) hT hD hP hK hA⟩
      · rw [nz_le (dk_r4 hD)] at g3
        exact absurd g3 f2
      · rw [le2] at g2
        exact absurd g2 (by decide)
    · rw [hD.1.1] at f1
      refine ⟨rfl, rfl, ⟨_, rfl⟩, _, c_X11_fit (h_l := (dk_m0 hD)) (h_nr := hD.2.1.2.2.2) (nr := nr), ?_⟩
      rintro r2 w2 (⟨g1, rfl, rfl⟩ | ⟨y1_0, y1_1, g1, g2, g3, rfl, rfl⟩ | ⟨g1, g2, g3, rfl, rfl⟩ | ⟨g1, g2, rfl, rfl⟩)
      · rw [nz_zero (dk_l4 hD)] at g1
        exact ⟨rfl, ⟨_, rfl⟩, inv_mk (fun z => absurd z (by decide)) hT hD hP hK hA⟩
      · rw [nz_pos (dk_l4 hD)] at g1
        exact absurd g1 f1
      · rw [nz_pos (dk_l4 hD)] at g1
        exact absurd g1 f1
      · rw [le2] at g2
        exact absurd g2 (by decide)
  have qo := n02 e0 e1 e2
  refine ⟨_, c_X10_fit_o (h_n3 := hD.1.2.2.2) (h_nr := hD.2.1.2.2.2) (h_c0 := (dk_c0 hD)) (h_o := qo.2) (nr := nr), ?_⟩
  rintro r w' (⟨f1, rfl, rfl⟩ | ⟨f1, rfl, rfl⟩)
  · rw [hD.1.1] at f1
    refine ⟨rfl, rfl, ⟨_, rfl⟩, _, c_X11_fit (h_l := (dk_m0 hD)) (h_nr := hD.2.1.2.2.2) (nr := nr), ?_⟩
    rintro r2 w2 (⟨g1, rfl, rfl⟩ | ⟨y1_0, y1_1, g1, g2, g3, rfl, rfl⟩ | ⟨g1, g2, g3, rfl, rfl⟩ | ⟨g1, g2, rfl, rfl⟩)
    · rw [nz_zero (dk_l4 hD)] at g1
      exact absurd f1 g1
    · rw [le2] at g2
      exact absurd g2 qo.2
    · rw [le2] at g2
      exact absurd g2 qo.2
    · rw [nz_pos (dk_l4 hD)] at g1
      rw [le2] at g2
      exact ⟨rfl, ⟨_, rfl⟩, inv_mk (fun z => absurd z (by decide)) hT hD hP hK hA⟩
  · rw [hD.1.1] at f1
    refine ⟨rfl, rfl, ⟨_, rfl⟩, _, c_X11_fit (h_l := (dk_m0 hD)) (h_nr := hD.2.1.2.2.2) (nr := nr), ?_⟩
    rintro r2 w2 (⟨g1, rfl, rfl⟩ | ⟨y1_0, y1_1, g1, g2, g3, rfl, rfl⟩ | ⟨g1, g2, g3, rfl, rfl⟩ | ⟨g1, g2, rfl, rfl⟩)
    · rw [nz_zero (dk_l4 hD)] at g1
      exact ⟨rfl, ⟨_, rfl⟩, inv_mk (fun z => absurd z (by decide)) hT hD hP hK hA⟩
    · rw [nz_pos (dk_l4 hD)] at g1
      exact absurd g1 f1
    · rw [nz_pos (dk_l4 hD)] at g1
      exact absurd g1 f1
    · rw [nz_pos (dk_l4 hD)] at g1
      exact absurd g1 f1
set_option maxRecDepth 100000 in
theorem pr_fitMiss {w : ax_W} (hI : INV w) (a1 : Int32) : PrL M_X10_fitMiss M_X11_fitMiss [.int a1] w := by
  refine hI (fun w => PrL M_X10_fitMiss M_X11_fitMiss [.int a1] w) ?_
  intro tr fl pl wl wd f1_3 f1_4 f10_0 f10_1 f10_2 f10_3 f12_5 f12_6 f12_7 f12_8 f12_9 f18_7 f18_8 f18_9 f18_10 f25_3 m_thrown m_where m_readLinks m_readTracers m_readPoints m_readPairs m_textLong m_at m_spot m_token m_whole m_readFault m_readPlace m_value m_curveMany m_cornerMany m_straightAt m_lined f11_0 f11_1 f11_2 f11_3 f11_4 f11_5 f11_6 f11_7 f11_8 f11_9 f11_10 f11_11 f11_12 f11_13 f11_14 f11_15 f18_11 f18_12 m_n m_c m_d m_s m_e m_k m_x m_y m_g m_a m_fitUp m_fitDown m_worstUp m_worstDown r2 r3 r5 r6 r8 r9 r13 r14 r15 r26 r27 r28 r30 r31 r32 q3 q4 q5 q6 q7 q8 q9 q10 q11 q12 q13 q14 q15 q16 q18 q19 q20 r19 r20 r21 r22 r23 r24 q17 L nl nt np nr wa wb f n so ch hW hT hD hP hK hA
  refine ⟨_, c_X10_fitMiss (h_n3 := hD.1.2.2.2) (h_nr := hD.2.1.2.2.2) (h_c0 := (dk_c0 hD)) (h_q3 := (fun z1 z2 z3 => (fit_use hD ((nz_nat (dk_l4 hD)).mp (by rw [← hD.1.1]; exact z1)) ((nz_nat (dk_r4 hD)).mp (Int32.not_le.mp (by rw [← hD.1.2.2.2]; exact z2))) hP.1 hP.2.1 r23 r24 f18_8 f18_9 f18_10 m_fitUp m_fitDown q16 rfl).2.1.1)) (h_q4 := (fun z1 z2 z3 => (fit_use hD ((nz_nat (dk_l4 hD)).mp (by rw [← hD.1.1]; exact z1)) ((nz_nat (dk_r4 hD)).mp (Int32.not_le.mp (by rw [← hD.1.2.2.2]; exact z2))) hP.1 hP.2.1 r23 r24 f18_8 f18_9 f18_10 m_fitUp m_fitDown q16 rfl).2.1.2.1)) (h_q5 := (fun z1 z2 z3 => by
      have h0 := (nz_nat (dk_l4 hD)).mp (by rw [← hD.1.1]; exact z1)
      have hn := (nz_nat (dk_r4 hD)).mp (Int32.not_le.mp (by rw [← hD.1.2.2.2]; exact z2))
      have g0 : ¬ f18_7 = 0 := by
        have b0 := hD.2.2.1 0 0 h0 (by decide)
        rw [← z3, b0.1]; intro z; have := b0.2.1; rw [z] at this; exact absurd this (by decide)
      obtain ⟨x9, y9, c1, c2, c3, hs⟩ := hP.2.2.resolve_left g0
      rw [← z3] at hs
      exact (fit_use hD h0 hn hP.1 hP.2.1 x9 y9 c1 c2 c3 m_fitUp m_fitDown q16 hs).2.1.1)) (h_q6 := (fun z1 z2 z3 => by
      have h0 := (nz_nat (dk_l4 hD)).mp (by rw [← hD.1.1]; exact z1)
      have hn := (nz_nat (dk_r4 hD)).mp (Int32.not_le.mp (by rw [← hD.1.2.2.2]; exact z2))
      have g0 : ¬ f18_7 = 0 := by
        have b0 := hD.2.2.1 0 0 h0 (by decide)
        rw [← z3, b0.1]; intro z; have := b0.2.1; rw [z] at this; exact absurd this (by decide)
      obtain ⟨x9, y9, c1, c2, c3, hs⟩ := hP.2.2.resolve_left g0
      rw [← z3] at hs
      exact (fit_use hD h0 hn hP.1 hP.2.1 x9 y9 c1 c2 c3 m_fitUp m_fitDown q16 hs).2.1.2.1)) (nr := nr), ?_⟩
  rintro r w' (⟨f1, f2, rfl, rfl⟩ | ⟨f1, f2, f3, rfl, rfl⟩ | ⟨f1, f2, f3, rfl, rfl⟩ | ⟨f1, rfl, rfl⟩)
  · rw [hD.1.1] at f1
    rw [hD.1.2.2.2] at f2
    refine ⟨rfl, rfl, ⟨_, rfl⟩, _, c_X11_fitMiss (h_l := (dk_m0 hD)) (h_nr := hD.2.1.2.2.2) (h_q2 := (fun z1 z2 => (fit_use hD ((nz_nat (dk_l4 hD)).mp ((nz_pos (dk_l4 hD)).mp z1)) ((nz_nat (dk_r4 hD)).mp ((nz_pos (dk_r4 hD)).mp z2)) hP.1 hP.2.1 r23 r24 f18_8 f18_9 f18_10 m_fitUp m_fitDown q16 rfl).2.1.2.2.1)) (h_q3 := (fun z1 z2 => (fit_use hD ((nz_nat (dk_l4 hD)).mp ((nz_pos (dk_l4 hD)).mp z1)) ((nz_nat (dk_r4 hD)).mp ((nz_pos (dk_r4 hD)).mp z2)) hP.1 hP.2.1 r23 r24 f18_8 f18_9 f18_10 m_fitUp m_fitDown q16 rfl).2.1.2.2.2.1)) (h_q4 := (fun z1 z2 => (fit_use hD ((nz_nat (dk_l4 hD)).mp ((nz_pos (dk_l4 hD)).mp z1)) ((nz_nat (dk_r4 hD)).mp ((nz_pos (dk_r4 hD)).mp z2)) hP.1 hP.2.1 r23 r24 f18_8 f18_9 f18_10 m_fitUp m_fitDown q16 rfl).2.1.2.2.2.2)) (nr := nr), ?_⟩
    rintro r2 w2 (⟨y0_0, y0_1, g1, g2, rfl, rfl⟩ | ⟨g1, g2, rfl, rfl⟩ | ⟨g1, rfl, rfl⟩)
    · rw [nz_le (dk_r4 hD)] at g2
      exact absurd f2 g2
    · rw [nz_pos (dk_l4 hD)] at g1
      rw [nz_le (dk_r4 hD)] at g2
      exact ⟨rfl, ⟨_, rfl⟩, inv_mk (fun z => absurd z (by decide)) hT hD hP hK hA⟩
    · rw [nz_zero (dk_l4 hD)] at g1
      exact absurd f1 g1
  · rw [hD.1.1] at f1
    rw [hD.1.2.2.2] at f2
    refine ⟨rfl, rfl, ⟨_, rfl⟩, _, c_X11_fitMiss (h_l := (dk_m0 hD)) (h_nr := hD.2.1.2.2.2) (h_q2 := (fun z1 z2 => (fit_use hD ((nz_nat (dk_l4 hD)).mp ((nz_pos (dk_l4 hD)).mp z1)) ((nz_nat (dk_r4 hD)).mp ((nz_pos (dk_r4 hD)).mp z2)) hP.1 hP.2.1 r23 r24 f18_8 f18_9 f18_10 m_fitUp m_fitDown q16 rfl).2.1.2.2.1)) (h_q3 := (fun z1 z2 => (fit_use hD ((nz_nat (dk_l4 hD)).mp ((nz_pos (dk_l4 hD)).mp z1)) ((nz_nat (dk_r4 hD)).mp ((nz_pos (dk_r4 hD)).mp z2)) hP.1 hP.2.1 r23 r24 f18_8 f18_9 f18_10 m_fitUp m_fitDown q16 rfl).2.1.2.2.2.1)) (h_q4 := (fun z1 z2 => (fit_use hD ((nz_nat (dk_l4 hD)).mp ((nz_pos (dk_l4 hD)).mp z1)) ((nz_nat (dk_r4 hD)).mp ((nz_pos (dk_r4 hD)).mp z2)) hP.1 hP.2.1 r23 r24 f18_8 f18_9 f18_10 m_fitUp m_fitDown q16 rfl).2.1.2.2.2.2)) (nr := nr), ?_⟩
    rintro r2 w2 (⟨y0_0, y0_1, g1, g2, rfl, rfl⟩ | ⟨g1, g2, rfl, rfl⟩ | ⟨g1, rfl, rfl⟩)
    · rw [nz_pos (dk_l4 hD)] at g1
      rw [nz_le (dk_r4 hD)] at g2
      have h0 := (nz_nat (dk_l4 hD)).mp f1
      have hn := (nz_nat (dk_r4 hD)).mp (Int32.not_le.mp f2)
      have fu := fit_use hD h0 hn hP.1 hP.2.1 r23 r24 f18_8 f18_9 f18_10 m_fitUp m_fitDown q16 rfl
      exact ⟨congrArg (fun v => some (Value.long v)) (fu.2.2 a1).symm, ⟨_, rfl⟩, inv_mk (fun z => absurd z (by decide)) hT hD ⟨hP.1, hP.2.1, Or.inr ⟨r23, r24, f18_8, f18_9, f18_10, eta4 _⟩⟩ hK hA⟩
    · rw [nz_le (dk_r4 hD)] at g2
      exact absurd g2 f2
    · rw [nz_zero (dk_l4 hD)] at g1
      exact absurd f1 g1
  · rw [hD.1.1] at f1
    rw [hD.1.2.2.2] at f2
    refine ⟨rfl, rfl, ⟨_, rfl⟩, _, c_X11_fitMiss (h_l := (dk_m0 hD)) (h_nr := hD.2.1.2.2.2) (h_q2 := (fun z1 z2 => (fit_use hD ((nz_nat (dk_l4 hD)).mp ((nz_pos (dk_l4 hD)).mp z1)) ((nz_nat (dk_r4 hD)).mp ((nz_pos (dk_r4 hD)).mp z2)) hP.1 hP.2.1 r23 r24 f18_8 f18_9 f18_10 m_fitUp m_fitDown q16 rfl).2.1.2.2.1)) (h_q3 := (fun z1 z2 => (fit_use hD ((nz_nat (dk_l4 hD)).mp ((nz_pos (dk_l4 hD)).mp z1)) ((nz_nat (dk_r4 hD)).mp ((nz_pos (dk_r4 hD)).mp z2)) hP.1 hP.2.1 r23 r24 f18_8 f18_9 f18_10 m_fitUp m_fitDown q16 rfl).2.1.2.2.2.1)) (h_q4 := (fun z1 z2 => (fit_use hD ((nz_nat (dk_l4 hD)).mp ((nz_pos (dk_l4 hD)).mp z1)) ((nz_nat (dk_r4 hD)).mp ((nz_pos (dk_r4 hD)).mp z2)) hP.1 hP.2.1 r23 r24 f18_8 f18_9 f18_10 m_fitUp m_fitDown q16 rfl).2.1.2.2.2.2)) (nr := nr), ?_⟩
    rintro r2 w2 (⟨y0_0, y0_1, g1, g2, rfl, rfl⟩ | ⟨g1, g2, rfl, rfl⟩ | ⟨g1, rfl, rfl⟩)
    · rw [nz_pos (dk_l4 hD)] at g1
      rw [nz_le (dk_r4 hD)] at g2
      have h0 := (nz_nat (dk_l4 hD)).mp f1
      have hn := (nz_nat (dk_r4 hD)).mp (Int32.not_le.mp f2)
      have g0 : ¬ f18_7 = 0 := by
        have b0 := hD.2.2.1 0 0 h0 (by decide)
        rw [← f3, b0.1]; intro z; have := b0.2.1; rw [z] at this; exact absurd this (by decide)
      obtain ⟨x9, y9, c1, c2, c3, hs⟩ := hP.2.2.resolve_left g0
      rw [← f3] at hs
      have fu := fit_use hD h0 hn hP.1 hP.2.1 x9 y9 c1 c2 c3 m_fitUp m_fitDown q16 hs
      exact ⟨congrArg (fun v => some (Value.long v)) (fu.2.2 a1).symm, ⟨_, rfl⟩, inv_mk (fun z => absurd z (by decide)) hT hD hP hK hA⟩
    · rw [nz_le (dk_r4 hD)] at g2
      exact absurd g2 f2
    · rw [nz_zero (dk_l4 hD)] at g1
      exact absurd f1 g1
  · rw [hD.1.1] at f1
    refine ⟨rfl, rfl, ⟨_, rfl⟩, _, c_X11_fitMiss (h_l := (dk_m0 hD)) (h_nr := hD.2.1.2.2.2) (h_q2 := (fun z1 z2 => (fit_use hD ((nz_nat (dk_l4 hD)).mp ((nz_pos (dk_l4 hD)).mp z1)) ((nz_nat (dk_r4 hD)).mp ((nz_pos (dk_r4 hD)).mp z2)) hP.1 hP.2.1 r23 r24 f18_8 f18_9 f18_10 m_fitUp m_fitDown q16 rfl).2.1.2.2.1)) (h_q3 := (fun z1 z2 => (fit_use hD ((nz_nat (dk_l4 hD)).mp ((nz_pos (dk_l4 hD)).mp z1)) ((nz_nat (dk_r4 hD)).mp ((nz_pos (dk_r4 hD)).mp z2)) hP.1 hP.2.1 r23 r24 f18_8 f18_9 f18_10 m_fitUp m_fitDown q16 rfl).2.1.2.2.2.1)) (h_q4 := (fun z1 z2 => (fit_use hD ((nz_nat (dk_l4 hD)).mp ((nz_pos (dk_l4 hD)).mp z1)) ((nz_nat (dk_r4 hD)).mp ((nz_pos (dk_r4 hD)).mp z2)) hP.1 hP.2.1 r23 r24 f18_8 f18_9 f18_10 m_fitUp m_fitDown q16 rfl).2.1.2.2.2.2)) (nr := nr), ?_⟩
    rintro r2 w2 (⟨y0_0, y0_1, g1, g2, rfl, rfl⟩ | ⟨g1, g2, rfl, rfl⟩ | ⟨g1, rfl, rfl⟩)
    · rw [nz_pos (dk_l4 hD)] at g1
      exact absurd g1 f1
    · rw [nz_pos (dk_l4 hD)] at g1
      exact absurd g1 f1
    · rw [nz_zero (dk_l4 hD)] at g1
      exact ⟨rfl, ⟨_, rfl⟩, inv_mk (fun z => absurd z (by decide)) hT hD hP hK hA⟩
set_option maxRecDepth 100000 in
theorem pr_three {w : ax_W} (hI : INV w) (a1 a2 : Int32) : PrL M_X10_three M_X11_three [.int a1, .int a2] w := by
  refine hI (fun w => PrL M_X10_three M_X11_three [.int a1, .int a2] w) ?_
  intro tr fl pl wl wd f1_3 f1_4 f10_0 f10_1 f10_2 f10_3 f12_5 f12_6 f12_7 f12_8 f12_9 f18_7 f18_8 f18_9 f18_10 f25_3 m_thrown m_where m_readLinks m_readTracers m_readPoints m_readPairs m_textLong m_at m_spot m_token m_whole m_readFault m_readPlace m_value m_curveMany m_cornerMany m_straightAt m_lined f11_0 f11_1 f11_2 f11_3 f11_4 f11_5 f11_6 f11_7 f11_8 f11_9 f11_10 f11_11 f11_12 f11_13 f11_14 f11_15 f18_11 f18_12 m_n m_c m_d m_s m_e m_k m_x m_y m_g m_a m_fitUp m_fitDown m_worstUp m_worstDown r2 r3 r5 r6 r8 r9 r13 r14 r15 r26 r27 r28 r30 r31 r32 q3 q4 q5 q6 q7 q8 q9 q10 q11 q12 q13 q14 q15 q16 q18 q19 q20 r19 r20 r21 r22 r23 r24 q17 L nl nt np nr wa wb f n so ch hW hT hD hP hK hA
  by_cases e0 : a1 = 0
  · subst e0
    refine ⟨_, c_X10_three_0 (h_q0 := (fun z1 z2 z3 => (det_ne hP.1 ((n3_nat (dk_r4 hD)).mp (by rw [← hD.1.2.2.2]; exact z2)) hD.2.2.2.2.2.2).2.1)) (h_q1 := (fun z1 z2 z3 => (det_ne hP.1 ((n3_nat (dk_r4 hD)).mp (by rw [← hD.1.2.2.2]; exact z2)) hD.2.2.2.2.2.2).1)), ?_⟩
    rintro r w' (⟨f1, f2, rfl, rfl⟩ | ⟨f1, f2, f3, rfl, rfl⟩ | ⟨f1, f2, f3, rfl, rfl⟩ | ⟨f1, rfl, rfl⟩)
    · rw [hD.1.1] at f1
      rw [hD.1.2.2.2] at f2
      refine ⟨rfl, rfl, ⟨_, rfl⟩, _, c_X11_three_0 (h_l := (dk_m0 hD)) (h_r := (dk_m3 hD)) (h_q2 := (fun z1 z2 z3 => by rw [(det_e (q17 := q17) hP.1 ((n3_nat (dk_r4 hD)).mp (Int32.not_lt.mpr z2)) hD.2.2.2.2.2.2).2.1]; exact (det_ne hP.1 ((n3_nat (dk_r4 hD)).mp (Int32.not_lt.mpr z2)) hD.2.2.2.2.2.2).2.1)) (h_q3 := (fun z1 z2 z3 => by rw [(det_e (q17 := q17) hP.1 ((n3_nat (dk_r4 hD)).mp (Int32.not_lt.mpr z2)) hD.2.2.2.2.2.2).1]; exact (det_ne hP.1 ((n3_nat (dk_r4 hD)).mp (Int32.not_lt.mpr z2)) hD.2.2.2.2.2.2).1)), ?_⟩
      rintro r2 w2 (⟨g1, rfl, rfl⟩ | ⟨g1, g2, g3, rfl, rfl⟩ | ⟨g1, g2, g3, rfl, rfl⟩ | ⟨g1, g2, rfl, rfl⟩)
      · rw [nz_zero (dk_l4 hD)] at g1
        exact absurd f1 g1
      · rw [← Int32.not_lt] at g2
        exact absurd f2 g2
      · rw [← Int32.not_lt] at g2
        exact absurd f2 g2
      · rw [nz_pos (dk_l4 hD)] at g1
        rw [Int32.not_le] at g2
        exact ⟨rfl, ⟨_, rfl⟩, inv_mk (fun z => absurd z (by decide)) hT hD hP hK hA⟩
    · rw [hD.1.1] at f1
      rw [hD.1.2.2.2] at f2
      refine ⟨rfl, rfl, ⟨_, rfl⟩, _, c_X11_three_0 (h_l := (dk_m0 hD)) (h_r := (dk_m3 hD)) (h_q2 := (fun z1 z2 z3 => by rw [(det_e (q17 := q17) hP.1 ((n3_nat (dk_r4 hD)).mp (Int32.not_lt.mpr z2)) hD.2.2.2.2.2.2).2.1]; exact (det_ne hP.1 ((n3_nat (dk_r4 hD)).mp (Int32.not_lt.mpr z2)) hD.2.2.2.2.2.2).2.1)) (h_q3 := (fun z1 z2 z3 => by rw [(det_e (q17 := q17) hP.1 ((n3_nat (dk_r4 hD)).mp (Int32.not_lt.mpr z2)) hD.2.2.2.2.2.2).1]; exact (det_ne hP.1 ((n3_nat (dk_r4 hD)).mp (Int32.not_lt.mpr z2)) hD.2.2.2.2.2.2).1)), ?_⟩
      rintro r2 w2 (⟨g1, rfl, rfl⟩ | ⟨g1, g2, g3, rfl, rfl⟩ | ⟨g1, g2, g3, rfl, rfl⟩ | ⟨g1, g2, rfl, rfl⟩)
      · rw [nz_zero (dk_l4 hD)] at g1
        exact absurd f1 g1
      · rw [(det_e (q17 := q17) hP.1 ((n3_nat (dk_r4 hD)).mp f2) hD.2.2.2.2.2.2).1] at g3
        exact absurd f3 g3
      · rw [nz_pos (dk_l4 hD)] at g1
        rw [← Int32.not_lt] at g2
        rw [(det_e (q17 := q17) hP.1 ((n3_nat (dk_r4 hD)).mp f2) hD.2.2.2.2.2.2).1] at g3
        exact ⟨rfl, ⟨_, rfl⟩, inv_mk (fun z => absurd z (by decide)) hT hD hP hK hA⟩
      · rw [Int32.not_le] at g2
        exact absurd g2 f2
    · rw [hD.1.1] at f1
      rw [hD.1.2.2.2] at f2
      refine ⟨rfl, rfl, ⟨_, rfl⟩, _, c_X11_three_0 (h_l := (dk_m0 hD)) (h_r := (dk_m3 hD)) (h_q2 := (fun z1 z2 z3 => by rw [(det_e (q17 := q17) hP.1 ((n3_nat (dk_r4 hD)).mp (Int32.not_lt.mpr z2)) hD.2.2.2.2.2.2).2.1]; exact (det_ne hP.1 ((n3_nat (dk_r4 hD)).mp (Int32.not_lt.mpr z2)) hD.2.2.2.2.2.2).2.1)) (h_q3 := (fun z1 z2 z3 => by rw [(det_e (q17 := q17) hP.1 ((n3_nat (dk_r4 hD)).mp (Int32.not_lt.mpr z2)) hD.2.2.2.2.2.2).1]; exact (det_ne hP.1 ((n3_nat (dk_r4 hD)).mp (Int32.not_lt.mpr z2)) hD.2.2.2.2.2.2).1)), ?_⟩
      rintro r2 w2 (⟨g1, rfl, rfl⟩ | ⟨g1, g2, g3, rfl, rfl⟩ | ⟨g1, g2, g3, rfl, rfl⟩ | ⟨g1, g2, rfl, rfl⟩)
      · rw [nz_zero (dk_l4 hD)] at g1
        exact absurd f1 g1
      · rw [nz_pos (dk_l4 hD)] at g1
        rw [← Int32.not_lt] at g2
        rw [(det_e (q17 := q17) hP.1 ((n3_nat (dk_r4 hD)).mp f2) hD.2.2.2.2.2.2).1] at g3
        have de := (det_e (q17 := q17) hP.1 ((n3_nat (dk_r4 hD)).mp f2) hD.2.2.2.2.2.2)
        have dn := (det_ne hP.1 ((n3_nat (dk_r4 hD)).mp f2) hD.2.2.2.2.2.2)
        exact ⟨by rw [de.1, de.2.1, rd_mp dn.2.1 dn.1 f3], ⟨_, rfl⟩, inv_mk (fun z => absurd z (by decide)) hT hD hP hK hA⟩
      · rw [(det_e (q17 := q17) hP.1 ((n3_nat (dk_r4 hD)).mp f2) hD.2.2.2.2.2.2).1] at g3
        exact absurd g3 f3
      · rw [Int32.not_le] at g2
        exact absurd g2 f2
    · rw [hD.1.1] at f1
      refine ⟨rfl, rfl, ⟨_, rfl⟩, _, c_X11_three_0 (h_l := (dk_m0 hD)) (h_r := (dk_m3 hD)) (h_q2 := (fun z1 z2 z3 => by rw [(det_e (q17 := q17) hP.1 ((n3_nat (dk_r4 hD)).mp (Int32.not_lt.mpr z2)) hD.2.2.2.2.2.2).2.1]; exact (det_ne hP.1 ((n3_nat (dk_r4 hD)).mp (Int32.not_lt.mpr z2)) hD.2.2.2.2.2.2).2.1)) (h_q3 := (fun z1 z2 z3 => by rw [(det_e (q17 := q17) hP.1 ((n3_nat (dk_r4 hD)).mp (Int32.not_lt.mpr z2)) hD.2.2.2.2.2.2).1]; exact (det_ne hP.1 ((n3_nat (dk_r4 hD)).mp (Int32.not_lt.mpr z2)) hD.2.2.2.2.2.2).1)), ?_⟩
      rintro r2 w2 (⟨g1, rfl, rfl⟩ | ⟨g1, g2, g3, rfl, rfl⟩ | ⟨g1, g2, g3, rfl, rfl⟩ | ⟨g1, g2, rfl, rfl⟩)
      · rw [nz_zero (dk_l4 hD)] at g1
        exact ⟨rfl, ⟨_, rfl⟩, inv_mk (fun z => absurd z (by decide)) hT hD hP hK hA⟩
      · rw [nz_pos (dk_l4 hD)] at g1
        exact absurd g1 f1
      · rw [nz_pos (dk_l4 hD)] at g1
        exact absurd g1 f1
      · rw [nz_pos (dk_l4 hD)] at g1
        exact absurd g1 f1
  by_cases e1 : a1 = 1
  · subst e1
    refine ⟨_, c_X10_three_1 (h_q0 := (fun z1 z2 z3 => (det_ne hP.1 ((n3_nat (dk_r4 hD)).mp (by rw [← hD.1.2.2.2]; exact z2)) hD.2.2.2.2.2.2).2.2.1)) (h_q1 := (fun z1 z2 z3 => (det_ne hP.1 ((n3_nat (dk_r4 hD)).mp (by rw [← hD.1.2.2.2]; exact z2)) hD.2.2.2.2.2.2).1)), ?_⟩
    rintro r w' (⟨f1, f2, rfl, rfl⟩ | ⟨f1, f2, f3, rfl, rfl⟩ | ⟨f1, f2, f3, rfl, rfl⟩ | ⟨f1, rfl, rfl⟩)
    · rw [hD.1.1] at f1
      rw [hD.1.2.2.2] at f2
      refine ⟨rfl, rfl, ⟨_, rfl⟩, _, c_X11_three_1 (h_l := (dk_m0 hD)) (h_r := (dk_m3 hD)) (h_q2 := (fun z1 z2 z3 => by rw [(det_e (q17 := q17) hP.1 ((n3_nat (dk_r4 hD)).mp (Int32.not_lt.mpr z2)) hD.2.2.2.2.2.2).2.2.1]; exact (det_ne hP.1 ((n3_nat (dk_r4 hD)).mp (Int32.not_lt.mpr z2)) hD.2.2.2.2.2.2).2.2.1)) (h_q3 := (fun z1 z2 z3 => by rw [(det_e (q17 := q17) hP.1 ((n3_nat (dk_r4 hD)).mp (Int32.not_lt.mpr z2)) hD.2.2.2.2.2.2).1]; exact (det_ne hP.1 ((n3_nat (dk_r4 hD)).mp (Int32.not_lt.mpr z2)) hD.2.2.2.2.2.2).1)), ?_⟩
      rintro r2 w2 (⟨g1, rfl, rfl⟩ | ⟨g1, g2, g3, rfl, rfl⟩ | ⟨g1, g2, g3, rfl, rfl⟩ | ⟨g1, g2, rfl, rfl⟩)
      · rw [nz_zero (dk_l4 hD)] at g1
        exact absurd f1 g1
      · rw [← Int32.not_lt] at g2
        exact absurd f2 g2
      · rw [← Int32.not_lt] at g2
        exact absurd f2 g2
      · rw [nz_pos (dk_l4 hD)] at g1
        rw [Int32.not_le] at g2
        exact ⟨rfl, ⟨_, rfl⟩, inv_mk (fun z => absurd z (by decide)) hT hD hP hK hA⟩
    · rw [hD.1.1] at f1
      rw [hD.1.2.2.2] at f2
      refine ⟨rfl, rfl, ⟨_, rfl⟩, _, c_X11_three_1 (h_l := (dk_m0 hD)) (h_r := (dk_m3 hD)) (h_q2 := (fun z1 z2 z3 => by rw [(det_e (q17 := q17) hP.1 ((n3_nat (dk_r4 hD)).mp (Int32.not_lt.mpr z2)) hD.2.2.2.2.2.2).2.2.1]; exact (det_ne hP.1 ((n3_nat (dk_r4 hD)).mp (Int32.not_lt.mpr z2)) hD.2.2.2.2.2.2).2.2.1)) (h_q3 := (fun z1 z2 z3 => by rw [(det_e (q17 := q17) hP.1 ((n3_nat (dk_r4 hD)).mp (Int32.not_lt.mpr z2)) hD.2.2.2.2.2.2).1]; exact (det_ne hP.1 ((n3_nat (dk_r4 hD)).mp (Int32.not_lt.mpr z2)) hD.2.2.2.2.2.2).1)), ?_⟩
      rintro r2 w2 (⟨g1, rfl, rfl⟩ | ⟨g1, g2, g3, rfl, rfl⟩ | ⟨g1, g2, g3, rfl, rfl⟩ | ⟨g1, g2, rfl, rfl⟩)
      · rw [nz_zero (dk_l4 hD)] at g1
        exact absurd f1 g1
      · rw [(det_e (q17 := q17) hP.1 ((n3_nat (dk_r4 hD)).mp f2) hD.2.2.2.2.2.2).1] at g3
        exact absurd f3 g3
      · rw [nz_pos (dk_l4 hD)] at g1
        rw [← Int32.not_lt] at g2
        rw [(det_e (q17 := q17) hP.1 ((n3_nat (dk_r4 hD)).mp f2) hD.2.2.2.2.2.2).1] at g3
        exact ⟨rfl, ⟨_, rfl⟩, inv_mk (fun z => absurd z (by decide)) hT hD hP hK hA⟩
      · rw [Int32.not_le] at g2
        exact absurd g2 f2
    · rw [hD.1.1] at f1
      rw [hD.1.2.2.2] at f2
      refine ⟨rfl, rfl, ⟨_, rfl⟩, _, c_X11_three_1 (h_l := (dk_m0 hD)) (h_r := (dk_m3 hD)) (h_q2 := (fun z1 z2 z3 => by rw [(det_e (q17 := q17) hP.1 ((n3_nat (dk_r4 hD)).mp (Int32.not_lt.mpr z2)) hD.2.2.2.2.2.2).2.2.1]; exact (det_ne hP.1 ((n3_nat (dk_r4 hD)).mp (Int32.not_lt.mpr z2)) hD.2.2.2.2.2.2).2.2.1)) (h_q3 := (fun z1 z2 z3 => by rw [(det_e (q17 := q17) hP.1 ((n3_nat (dk_r4 hD)).mp (Int32.not_lt.mpr z2)) hD.2.2.2.2.2.2).1]; exact (det_ne hP.1 ((n3_nat (dk_r4 hD)).mp (Int32.not_lt.mpr z2)) hD.2.2.2.2.2.2).1)), ?_⟩
      rintro r2 w2 (⟨g1, rfl, rfl⟩ | ⟨g1, g2, g3, rfl, rfl⟩ | ⟨g1, g2, g3, rfl, rfl⟩ | ⟨g1, g2, rfl, rfl⟩)
      · rw [nz_zero (dk_l4 hD)] at g1
        exact absurd f1 g1
      · rw [nz_pos (dk_l4 hD)] at g1
        rw [← Int32.not_lt] at g2
        rw [(det_e (q17 := q17) hP.1 ((n3_nat (dk_r4 hD)).mp f2) hD.2.2.2.2.2.2).1] at g3
        have de := (det_e (q17 := q17) hP.1 ((n3_nat (dk_r4 hD)).mp f2) hD.2.2.2.2.2.2)
        have dn := (det_ne hP.1 ((n3_nat (dk_r4 hD)).mp f2) hD.2.2.2.2.2.2)
        exact ⟨by rw [de.1, de.2.2.1, rd_mp dn.2.2.1 dn.1 f3], ⟨_, rfl⟩, inv_mk (fun z => absurd z (by decide)) hT hD hP hK hA⟩
      · rw [(det_e (q17 := q17) hP.1 ((n3_nat (dk_r4 hD)).mp f2) hD.2.2.2.2.2.2).1] at g3
        exact absurd g3 f3
      · rw [Int32.not_le] at g2
        exact absurd g2 f2
    · rw [hD.1.1] at f1
      refine ⟨rfl, rfl, ⟨_, rfl⟩, _, c_X11_three_1 (h_l := (dk_m0 hD)) (h_r := (dk_m3 hD)) (h_q2 := (fun z1 z2 z3 => by rw [(det_e (q17 := q17) hP.1 ((n3_nat (dk_r4 hD)).mp (Int32.not_lt.mpr z2)) hD.2.2.2.2.2.2).2.2.1]; exact (det_ne hP.1 ((n3_nat (dk_r4 hD)).mp (Int32.not_lt.mpr z2)) hD.2.2.2.2.2.2).2.2.1)) (h_q3 := (fun z1 z2 z3 => by rw [(det_e (q17 := q17) hP.1 ((n3_nat (dk_r4 hD)).mp (Int32.not_lt.mpr z2)) hD.2.2.2.2.2.2).1]; exact (det_ne hP.1 ((n3_nat (dk_r4 hD)).mp (Int32.not_lt.mpr z2)) hD.2.2.2.2.2.2).1)), ?_⟩
      rintro r2 w2 (⟨g1, rfl, rfl⟩ | ⟨g1, g2, g3, rfl, rfl⟩ | ⟨g1, g2, g3, rfl, rfl⟩ | ⟨g1, g2, rfl, rfl⟩)
      · rw [nz_zero (dk_l4 hD)] at g1
        exact ⟨rfl, ⟨_, rfl⟩, inv_mk (fun z => absurd z (by decide)) hT hD hP hK hA⟩
      · rw [nz_pos (dk_l4 hD)] at g1
        exact absurd g1 f1
      · rw [nz_pos (dk_l4 hD)] at g1
        exact absurd g1 f1
      · rw [nz_pos (dk_l4 hD)] at g1
        exact absurd g1 f1
  by_cases e2 : a1 = 2
  · subst e2
    refine ⟨_, c_X10_three_2 (h_q0 := (fun z1 z2 z3 => (det_ne hP.1 ((n3_nat (dk_r4 hD)).mp (by rw [← hD.1.2.2.2]; exact z2)) hD.2.2.2.2.2.2).2.2.2)) (h_q1 := (fun z1 z2 z3 => (det_ne hP.1 ((n3_nat (dk_r4 hD)).mp (by rw [← hD.1.2.2.2]; exact z2)) hD.2.2.2.2.2.2).1)), ?_⟩
    rintro r w' (⟨f1, f2, rfl, rfl⟩ | ⟨f1, f2, f3, rfl, rfl⟩ | ⟨f1, f2, f3, rfl, rfl⟩ | ⟨f1, rfl, rfl⟩)
    · rw [hD.1.1] at f1
      rw [hD.1.2.2.2] at f2
      refine ⟨rfl, rfl, ⟨_, rfl⟩, _, c_X11_three_2 (h_l := (dk_m0 hD)) (h_r := (dk_m3 hD)) (h_q2 := (fun z1 z2 z3 => by rw [(det_e (q17 := q17) hP.1 ((n3_nat (dk_r4 hD)).mp (Int32.not_lt.mpr z2)) hD.2.2.2.2.2.2).2.2.2]; exact (det_ne hP.1 ((n3_nat (dk_r4 hD)).mp (Int32.not_lt.mpr z2)) hD.2.2.2.2.2.2).2.2.2)) (h_q3 := (fun z1 z2 z3 => by rw [(det_e (q17 := q17) hP.1 ((n3_nat (dk_r4 hD)).mp (Int32.not_lt.mpr z2)) hD.2.2.2.2.2.2).1]; exact (det_ne hP.1 ((n3_nat (dk_r4 hD)).mp (Int32.not_lt.mpr z2)) hD.2.2.2.2.2.2).1)), ?_⟩
      rintro r2 w2 (⟨g1, rfl, rfl⟩ | ⟨g1, g2, g3, rfl, rfl⟩ | ⟨g1, g2, g3, rfl, rfl⟩ | ⟨g1, g2, rfl, rfl⟩)
      · rw [nz_zero (dk_l4 hD)] at g1
        exact absurd f1 g1
      · rw [← Int32.not_lt] at g2
        exact absurd f2 g2
      · rw [← Int32.not_lt] at g2
        exact absurd f2 g2
      · rw [nz_pos (dk_l4 hD)] at g1
        rw [Int32.not_le] at g2
        exact ⟨rfl, ⟨_, rfl⟩, inv_mk (fun z => absurd z (by decide)) hT hD hP hK hA⟩
    · rw [hD.1.1] at f1
      rw [hD.1.2.2.2] at f2
      refine ⟨rfl, rfl, ⟨_, rfl⟩, _, c_X11_three_2 (h_l := (dk_m0 hD)) (h_r := (dk_m3 hD)) (h_q2 := (fun z1 z2 z3 => by rw [(det_e (q17 := q17) hP.1 ((n3_nat (dk_r4 hD)).mp (Int32.not_lt.mpr z2)) hD.2.2.2.2.2.2).2.2.2]; exact (det_ne hP.1 ((n3_nat (dk_r4 hD)).mp (Int32.not_lt.mpr z2)) hD.2.2.2.2.2.2).2.2.2)) (h_q3 := (fun z1 z2 z3 => by rw [(det_e (q17 := q17) hP.1 ((n3_nat (dk_r4 hD)).mp (Int32.not_lt.mpr z2)) hD.2.2.2.2.2.2).1]; exact (det_ne hP.1 ((n3_nat (dk_r4 hD)).mp (Int32.not_lt.mpr z2)) hD.2.2.2.2.2.2).1)), ?_⟩
      rintro r2 w2 (⟨g1, rfl, rfl⟩ | ⟨g1, g2, g3, rfl, rfl⟩ | ⟨g1, g2, g3, rfl, rfl⟩ | ⟨g1, g2, rfl, rfl⟩)
      · rw [nz_zero (dk_l4 hD)] at g1
        exact absurd f1 g1
      · rw [(det_e (q17 := q17) hP.1 ((n3_nat (dk_r4 hD)).mp f2) hD.2.2.2.2.2.2).1] at g3
        exact absurd f3 g3
      · rw [nz_pos (dk_l4 hD)] at g1
        rw [← Int32.not_lt] at g2
        rw [(det_e (q17 := q17) hP.1 ((n3_nat (dk_r4 hD)).mp f2) hD.2.2.2.2.2.2).1] at g3
        exact ⟨rfl, ⟨_, rfl⟩, inv_mk (fun z => absurd z (by decide)) hT hD hP hK hA⟩
      · rw [Int32.not_le] at g2
        exact absurd g2 f2
    · rw [hD.1.1] at f1
      rw [hD.1.2.2.2] at f2
      refine ⟨rfl, rfl, ⟨_, rfl⟩, _, c_X11_three_2 (h_l := (dk_m0 hD)) (h_r := (dk_m3 hD)) (h_q2 := (fun z1 z2 z3 => by rw [(det_e (q17 := q17) hP.1 ((n3_nat (dk_r4 hD)).mp (Int32.not_lt.mpr z2)) hD.2.2.2.2.2.2).2.2.2]; exact (det_ne hP.1 ((n3_nat (dk_r4 hD)).mp (Int32.not_lt.mpr z2)) hD.2.2.2.2.2.2).2.2.2)) (h_q3 := (fun z1 z2 z3 => by rw [(det_e (q17 := q17) hP.1 ((n3_nat (dk_r4 hD)).mp (Int32.not_lt.mpr z2)) hD.2.2.2.2.2.2).1]; exact (det_ne hP.1 ((n3_nat (dk_r4 hD)).mp (Int32.not_lt.mpr z2)) hD.2.2.2.2.2.2).1)), ?_⟩
      rintro r2 w2 (⟨g1, rfl, rfl⟩ | ⟨g1, g2, g3, rfl, rfl⟩ | ⟨g1, g2, g3, rfl, rfl⟩ | ⟨g1, g2, rfl, rfl⟩)
      · rw [nz_zero (dk_l4 hD)] at g1
        exact absurd f1 g1
      · rw [nz_pos (dk_l4 hD)] at g1
        rw [← Int32.not_lt] at g2
        rw [(det_e (q17 := q17) hP.1 ((n3_nat (dk_r4 hD)).mp f2) hD.2.2.2.2.2.2).1] at g3
        have de := (det_e (q17 := q17) hP.1 ((n3_nat (dk_r4 hD)).mp f2) hD.2.2.2.2.2.2)
        have dn := (det_ne hP.1 ((n3_nat (dk_r4 hD)).mp f2) hD.2.2.2.2.2.2)
        exact ⟨by rw [de.1, de.2.2.2, rd_mp dn.2.2.2 dn.1 f3], ⟨_, rfl⟩, inv_mk (fun z => absurd z (by decide)) hT hD hP hK hA⟩
      · rw [(det_e (q17 := q17) hP.1 ((n3_nat (dk_r4 hD)).mp f2) hD.2.2.2.2.2.2).1] at g3
        exact absurd g3 f3
      · rw [Int32.not_le] at g2
        exact absurd g2 f2
    · rw [hD.1.1] at f1
      refine ⟨rfl, rfl, ⟨_, rfl⟩, _, c_X11_three_2 (h_l := (dk_m0 hD)) (h_r := (dk_m3 hD)) (h_q2 := (fun z1 z2 z3 => by rw [(det_e (q17 := q17) hP.1 ((n3_nat (dk_r4 hD)).mp (Int32.not_lt.mpr z2)) hD.2.2.2.2.2.2).2.2.2]; exact (det_ne hP.1 ((n3_nat (dk_r4 hD)).mp (Int32.not_lt.mpr z2)) hD.2.2.2.2.2.2).2.2.2)) (h_q3 := (fun z1 z2 z3 => by rw [(det_e (q17 := q17) hP.1 ((n3_nat (dk_r4 hD)).mp (Int32.not_lt.mpr z2)) hD.2.2.2.2.2.2).1]; exact (det_ne hP.1 ((n3_nat (dk_r4 hD)).mp (Int32.not_lt.mpr z2)) hD.2.2.2.2.2.2).1)), ?_⟩
      rintro r2 w2 (⟨g1, rfl, rfl⟩ | ⟨g1, g2, g3, rfl, rfl⟩ | ⟨g1, g2, g3, rfl, rfl⟩ | ⟨g1, g2, rfl, rfl⟩)
      · rw [nz_zero (dk_l4 hD)] at g1
        exact ⟨rfl, ⟨_, rfl⟩, inv_mk (fun z => absurd z (by decide)) hT hD hP hK hA⟩
      · rw [nz_pos (dk_l4 hD)] at g1
        exact absurd g1 f1
      · rw [nz_pos (dk_l4 hD)] at g1
        exact absurd g1 f1
      · rw [nz_pos (dk_l4 hD)] at g1
        exact absurd g1 f1
  have qo := n02 e0 e1 e2
  refine ⟨_, c_X10_three_o (h_o := qo.2), ?_⟩
  rintro r w' (⟨f1, rfl, rfl⟩ | ⟨f1, rfl, rfl⟩)
  · rw [hD.1.1] at f1
    refine ⟨rfl, rfl, ⟨_, rfl⟩, _, c_X11_three_o (h_l := (dk_m0 hD)) (h_r := (dk_m3 hD)) (h_o := qo.1), ?_⟩
    rintro r2 w2 (⟨g1, rfl, rfl⟩ | ⟨g1, rfl, rfl⟩)
    · rw [nz_zero (dk_l4 hD)] at g1
      exact absurd f1 g1
    · rw [nz_pos (dk_l4 hD)] at g1
      exact ⟨rfl, ⟨_, rfl⟩, inv_mk (fun z => absurd z (by decide)) hT hD hP hK hA⟩
  · rw [hD.1.1] at f1
    refine ⟨rfl, rfl, ⟨_, rfl⟩, _, c_X11_three_o (h_l := (dk_m0 hD)) (h_r := (dk_m3 hD)) (h_o := qo.1), ?_⟩
    rintro r2 w2 (⟨g1, rfl, rfl⟩ | ⟨g1, rfl, rfl⟩)
    · rw [nz_zero (dk_l4 hD)] at g1
      exact ⟨rfl, ⟨_, rfl⟩, inv_mk (fun z => absurd z (by decide)) hT hD hP hK hA⟩
    · rw [nz_pos (dk_l4 hD)] at g1
      exact absurd g1 f1
set_option maxRecDepth 100000 in
theorem pr_walk {w : ax_W} (hI : INV w) (a1 : Int32) : PrI M_X10_walk M_X11_walk [.int a1] w := by
  refine hI (fun w => PrI M_X10_walk M_X11_walk [.int a1] w) ?_
  intro tr fl pl wl wd f1_3 f1_4 f10_0 f10_1 f10_2 f10_3 f12_5 f12_6 f12_7 f12_8 f12_9 f18_7 f18_8 f18_9 f18_10 f25_3 m_thrown m_where m_readLinks m_readTracers m_readPoints m_readPairs m_textLong m_at m_spot m_token m_whole m_readFault m_readPlace m_value m_curveMany m_cornerMany m_straightAt m_lined f11_0 f11_1 f11_2 f11_3 f11_4 f11_5 f11_6 f11_7 f11_8 f11_9 f11_10 f11_11 f11_12 f11_13 f11_14 f11_15 f18_11 f18_12 m_n m_c m_d m_s m_e m_k m_x m_y m_g m_a m_fitUp m_fitDown m_worstUp m_worstDown r2 r3 r5 r6 r8 r9 r13 r14 r15 r26 r27 r28 r30 r31 r32 q3 q4 q5 q6 q7 q8 q9 q10 q11 q12 q13 q14 q15 q16 q18 q19 q20 r19 r20 r21 r22 r23 r24 q17 L nl nt np nr wa wb f n so ch hW hT hD hP hK hA
  refine ⟨_, c_X10_walk, ?_⟩
  rintro r w' (⟨f1, f2, f3, rfl, rfl⟩ | ⟨f1, f2, f3, rfl, rfl⟩ | ⟨f1, f2, f3, rfl, rfl⟩ | ⟨f1, f2, f3, rfl, rfl⟩ | ⟨f1, f2, rfl, rfl⟩ | ⟨f1, rfl, rfl⟩)
  · refine ⟨rfl, rfl, ⟨_, rfl⟩, _, c_X11_walk, ?_⟩
    rintro r2 w2 (⟨g1, g2, g3, rfl, rfl⟩ | ⟨g1, g2, g3, rfl, rfl⟩ | ⟨g1, g2, g3, rfl, rfl⟩ | ⟨g1, g2, g3, rfl, rfl⟩ | ⟨g1, g2, rfl, rfl⟩ | ⟨g1, rfl, rfl⟩)
    · rw [le3] at g1
      exact ⟨rfl, ⟨_, rfl⟩, inv_mk (fun z => absurd z (by decide)) hT hD hP hK hA⟩
    · exact absurd (f3.symm.trans g3) (by decide)
    · exact absurd (f3.symm.trans g3) (by decide)
    · exact absurd f3 g3.1
    · exact absurd g2 f2
    · rw [le3] at g1
      exact absurd f1 g1
  · refine ⟨rfl, rfl, ⟨_, rfl⟩, _, c_X11_walk, ?_⟩
    rintro r2 w2 (⟨g1, g2, g3, rfl, rfl⟩ | ⟨g1, g2, g3, rfl, rfl⟩ | ⟨g1, g2, g3, rfl, rfl⟩ | ⟨g1, g2, g3, rfl, rfl⟩ | ⟨g1, g2, rfl, rfl⟩ | ⟨g1, rfl, rfl⟩)
    · exact absurd (f3.symm.trans g3) (by decide)
    · rw [le3] at g1
      exact ⟨rfl, ⟨_, rfl⟩, inv_mk (fun z => absurd z (by decide)) hT hD hP hK hA⟩
    · exact absurd (f3.symm.trans g3) (by decide)
    · exact absurd f3 g3.2.1
    · exact absurd g2 f2
    · rw [le3] at g1
      exact absurd f1 g1
  · refine ⟨rfl, rfl, ⟨_, rfl⟩, _, c_X11_walk, ?_⟩
    rintro r2 w2 (⟨g1, g2, g3, rfl, rfl⟩ | ⟨g1, g2, g3, rfl, rfl⟩ | ⟨g1, g2, g3, rfl, rfl⟩ | ⟨g1, g2, g3, rfl, rfl⟩ | ⟨g1, g2, rfl, rfl⟩ | ⟨g1, rfl, rfl⟩)
    · exact absurd (f3.symm.trans g3) (by decide)
    · exact absurd (f3.symm.trans g3) (by decide)
    · rw [le3] at g1
      exact ⟨rfl, ⟨_, rfl⟩, inv_mk (fun z => absurd z (by decide)) hT hD hP hK hA⟩
    · exact absurd f3 g3.2.2
    · exact absurd g2 f2
    · rw [le3] at g1
      exact absurd f1 g1
  · refine ⟨rfl, rfl, ⟨_, rfl⟩, _, c_X11_walk, ?_⟩
    rintro r2 w2 (⟨g1, g2, g3, rfl, rfl⟩ | ⟨g1, g2, g3, rfl, rfl⟩ | ⟨g1, g2, g3, rfl, rfl⟩ | ⟨g1, g2, g3, rfl, rfl⟩ | ⟨g1, g2, rfl, rfl⟩ | ⟨g1, rfl, rfl⟩)
    · exact absurd g3 f3.1
    · exact absurd g3 f3.2.1
    · exact absurd g3 f3.2.2
    · rw [le3] at g1
      exact ⟨rfl, ⟨_, rfl⟩, inv_mk (fun z => absurd z (by decide)) hT hD hP hK hA⟩
    · exact absurd g2 f2
    · rw [le3] at g1
      exact absurd f1 g1
  · refine ⟨rfl, rfl, ⟨_, rfl⟩, _, c_X11_walk, ?_⟩
    rintro r2 w2 (⟨g1, g2, g3, rfl, rfl⟩ | ⟨g1, g2, g3, rfl, rfl⟩ | ⟨g1, g2, g3, rfl, rfl⟩ | ⟨g1, g2, g3, rfl, rfl⟩ | ⟨g1, g2, rfl, rfl⟩ | ⟨g1, rfl, rfl⟩)
    · exact absurd g2 f2
    · exact absurd g2 f2
    · exact absurd g2 f2
    · exact absurd g2 f2
    · rw [le3] at g1
      exact ⟨rfl, ⟨_, rfl⟩, inv_mk (fun z => absurd z (by decide)) hT hD hP hK hA⟩
    · rw [le3] at g1
      exact absurd f1 g1
  · refine ⟨rfl, rfl, ⟨_, rfl⟩, _, c_X11_walk, ?_⟩
    rintro r2 w2 (⟨g1, g2, g3, rfl, rfl⟩ | ⟨g1, g2, g3, rfl, rfl⟩ | ⟨g1, g2, g3, rfl, rfl⟩ | ⟨g1, g2, g3, rfl, rfl⟩ | ⟨g1, g2, rfl, rfl⟩ | ⟨g1, rfl, rfl⟩)
    · rw [le3] at g1
      exact absurd g1 f1
    · rw [le3] at g1
      exact absurd g1 f1
    · rw [le3] at g1
      exact absurd g1 f1
    · rw [le3] at g1
      exact absurd g1 f1
    · rw [le3] at g1
      exact absurd g1 f1
    · rw [le3] at g1
      exact ⟨rfl, ⟨_, rfl⟩, inv_mk (fun z => absurd z (by decide)) hT hD hP hK hA⟩
