set_option maxRecDepth 100000 in
theorem pr_kind {w : ax_W} (hI : INV w) (a1 : Int32) : PrI M_X10_kind M_X11_kind [.int a1] w := by
  refine hI (fun w => PrI M_X10_kind M_X11_kind [.int a1] w) ?_
  intro tr fl pl wl wd f1_3 f1_4 f10_0 f10_1 f10_2 f10_3 f12_5 f12_6 f12_7 f12_8 f12_9 f18_7 f18_8 f18_9 f18_10 f25_3 m_thrown m_where m_readLinks m_readTracers m_readPoints m_readPairs m_textLong m_at m_spot m_token m_whole m_readFault m_readPlace m_value m_curveMany m_cornerMany m_straightAt m_lined f11_0 f11_1 f11_2 f11_3 f11_4 f11_5 f11_6 f11_7 f11_8 f11_9 f11_10 f11_11 f11_12 f11_13 f11_14 f11_15 f18_11 f18_12 m_n m_c m_d m_s m_e m_k m_x m_y m_g m_a m_fitUp m_fitDown m_worstUp m_worstDown r2 r3 r5 r6 r8 r9 r13 r14 r15 r26 r27 r28 r30 r31 r32 q3 q4 q5 q6 q7 q8 q9 q10 q11 q12 q13 q14 q15 q16 q18 q19 q20 r19 r20 r21 r22 r23 r24 q17 L nl nt np nr wa wb f n so ch hW hT hD hP hK hA
  refine ⟨_, c_X10_kind (h_c := (dk_c0 hD)), ?_⟩
  rintro r w' (⟨f1, rfl, rfl⟩ | ⟨f1, rfl, rfl⟩)
  · rw [hD.1.1] at f1
    obtain ⟨b1, b2, b3, b4, b5⟩ := dk_bars hD f1
    refine ⟨rfl, rfl, ⟨_, rfl⟩, _, c_X11_kind (h_l := (dk_m0 hD)), ?_⟩
    rintro r2 w2 (⟨g1, g2, g3, g4, rfl, rfl⟩ | ⟨g1, g2, g3, g4, rfl, rfl⟩ | ⟨g1, g2, g3, g4, rfl, rfl⟩ | ⟨g1, g2, g3, g4, rfl, rfl⟩ | ⟨g1, g2, g3, g4, rfl, rfl⟩ | ⟨g1, g2, g3, g4, rfl, rfl⟩ | ⟨g1, g2, rfl, rfl⟩ | ⟨g1, rfl, rfl⟩)
    · exact ⟨by rw [b1, b2, b3, b4, e_kind b5]; simp [g2, g3, g4], ⟨_, rfl⟩, inv_mk (fun z => absurd z (by decide)) hT hD hP hK hA⟩
    · exact ⟨by rw [b1, b2, b3, b4, e_kind b5]; simp [g2, g3, g4], ⟨_, rfl⟩, inv_mk (fun z => absurd z (by decide)) hT hD hP hK hA⟩
    · exact ⟨by rw [b1, b2, b3, b4, e_kind b5]; simp [g2, g3, g4], ⟨_, rfl⟩, inv_mk (fun z => absurd z (by decide)) hT hD hP hK hA⟩
    · exact ⟨by rw [b1, b2, b3, b4, e_kind b5]; simp [g2, g3, g4.1, g4.2.1, g4.2.2], ⟨_, rfl⟩, inv_mk (fun z => absurd z (by decide)) hT hD hP hK hA⟩
    · exact ⟨by rw [b1, b2, b3, b4, e_kind b5]; simp [g2, g3, g4], ⟨_, rfl⟩, inv_mk (fun z => absurd z (by decide)) hT hD hP hK hA⟩
    · exact ⟨by rw [b1, b2, b3, b4, e_kind b5]; simp [g2, g3, g4], ⟨_, rfl⟩, inv_mk (fun z => absurd z (by decide)) hT hD hP hK hA⟩
    · exact ⟨by rw [b1, b2, b3, b4, e_kind b5]; simp [g2], ⟨_, rfl⟩, inv_mk (fun z => absurd z (by decide)) hT hD hP hK hA⟩
    · exact absurd f1 g1
  · rw [hD.1.1] at f1
    refine ⟨rfl, rfl, ⟨_, rfl⟩, _, c_X11_kind (h_l := (dk_m0 hD)), ?_⟩
    rintro r2 w2 (⟨g1, g2, g3, g4, rfl, rfl⟩ | ⟨g1, g2, g3, g4, rfl, rfl⟩ | ⟨g1, g2, g3, g4, rfl, rfl⟩ | ⟨g1, g2, g3, g4, rfl, rfl⟩ | ⟨g1, g2, g3, g4, rfl, rfl⟩ | ⟨g1, g2, g3, g4, rfl, rfl⟩ | ⟨g1, g2, rfl, rfl⟩ | ⟨g1, rfl, rfl⟩)
    · exact absurd g1 f1
    · exact absurd g1 f1
    · exact absurd g1 f1
    · exact absurd g1 f1
    · exact absurd g1 f1
    · exact absurd g1 f1
    · exact absurd g1 f1
    · exact ⟨rfl, ⟨_, rfl⟩, inv_mk (fun z => absurd z (by decide)) hT hD hP hK hA⟩
set_option maxRecDepth 100000 in
theorem pr_least {w : ax_W} (hI : INV w) (a1 a2 : Int32) : PrL M_X10_least M_X11_least [.int a1, .int a2] w := by
  refine hI (fun w => PrL M_X10_least M_X11_least [.int a1, .int a2] w) ?_
  intro tr fl pl wl wd f1_3 f1_4 f10_0 f10_1 f10_2 f10_3 f12_5 f12_6 f12_7 f12_8 f12_9 f18_7 f18_8 f18_9 f18_10 f25_3 m_thrown m_where m_readLinks m_readTracers m_readPoints m_readPairs m_textLong m_at m_spot m_token m_whole m_readFault m_readPlace m_value m_curveMany m_cornerMany m_straightAt m_lined f11_0 f11_1 f11_2 f11_3 f11_4 f11_5 f11_6 f11_7 f11_8 f11_9 f11_10 f11_11 f11_12 f11_13 f11_14 f11_15 f18_11 f18_12 m_n m_c m_d m_s m_e m_k m_x m_y m_g m_a m_fitUp m_fitDown m_worstUp m_worstDown r2 r3 r5 r6 r8 r9 r13 r14 r15 r26 r27 r28 r30 r31 r32 q3 q4 q5 q6 q7 q8 q9 q10 q11 q12 q13 q14 q15 q16 q18 q19 q20 r19 r20 r21 r22 r23 r24 q17 L nl nt np nr wa wb f n so ch hW hT hD hP hK hA
  refine ⟨_, c_X10_least (h_c0 := (dk_c0 hD)), ?_⟩
  rintro r w' (⟨f1, f2, rfl, rfl⟩ | ⟨f1, f2, rfl, rfl⟩ | ⟨f1, rfl, rfl⟩)
  · rw [hD.1.1] at f1
    obtain ⟨b1, b2, b3, b4, b5⟩ := dk_bars hD f1
    refine ⟨rfl, rfl, ⟨_, rfl⟩, _, c_X11_least (h_l := (dk_m0 hD)) (h_q1 := (fun z _ => by rw [e_unit]; exact unit_ne (dk_bars hD z).2.2.2.2)), ?_⟩
    rintro r2 w2 (⟨g1, g2, rfl, rfl⟩ | ⟨g1, g2, rfl, rfl⟩ | ⟨g1, rfl, rfl⟩)
    · rw [e_lc, e_mc, ← b1, ← b2, ← b3, ← b4] at g2
      exact ⟨by rw [b1, b2, b3, b4, rd_mp (i32_ne _) (i32_ne _) (unit_ne b5), e_lc, e_unit], ⟨_, rfl⟩, inv_mk (fun z => absurd z (by decide)) hT hD hP hK hA⟩
    · rw [e_lc, e_mc, ← b1, ← b2, ← b3, ← b4] at g2
      exact absurd f2 g2
    · exact absurd f1 g1
  · rw [hD.1.1] at f1
    obtain ⟨b1, b2, b3, b4, b5⟩ := dk_bars hD f1
    refine ⟨rfl, rfl, ⟨_, rfl⟩, _, c_X11_least (h_l := (dk_m0 hD)) (h_q1 := (fun z _ => by rw [e_unit]; exact unit_ne (dk_bars hD z).2.2.2.2)), ?_⟩
    rintro r2 w2 (⟨g1, g2, rfl, rfl⟩ | ⟨g1, g2, rfl, rfl⟩ | ⟨g1, rfl, rfl⟩)
    · rw [e_lc, e_mc, ← b1, ← b2, ← b3, ← b4] at g2
      exact absurd g2 f2
    · rw [e_lc, e_mc, ← b1, ← b2, ← b3, ← b4] at g2
      exact ⟨rfl, ⟨_, rfl⟩, inv_mk (fun z => absurd z (by decide)) hT hD hP hK hA⟩
    · exact absurd f1 g1
  · rw [hD.1.1] at f1
    refine ⟨rfl, rfl, ⟨_, rfl⟩, _, c_X11_least (h_l := (dk_m0 hD)) (h_q1 := (fun z _ => by rw [e_unit]; exact unit_ne (dk_bars hD z).2.2.2.2)), ?_⟩
    rintro r2 w2 (⟨g1, g2, rfl, rfl⟩ | ⟨g1, g2, rfl, rfl⟩ | ⟨g1, rfl, rfl⟩)
    · exact absurd g1 f1
    · exact absurd g1 f1
    · exact ⟨rfl, ⟨_, rfl⟩, inv_mk (fun z => absurd z (by decide)) hT hD hP hK hA⟩
set_option maxRecDepth 100000 in
theorem pr_most {w : ax_W} (hI : INV w) (a1 a2 : Int32) : PrL M_X10_most M_X11_most [.int a1, .int a2] w := by
  refine hI (fun w => PrL M_X10_most M_X11_most [.int a1, .int a2] w) ?_
  intro tr fl pl wl wd f1_3 f1_4 f10_0 f10_1 f10_2 f10_3 f12_5 f12_6 f12_7 f12_8 f12_9 f18_7 f18_8 f18_9 f18_10 f25_3 m_thrown m_where m_readLinks m_readTracers m_readPoints m_readPairs m_textLong m_at m_spot m_token m_whole m_readFault m_readPlace m_value m_curveMany m_cornerMany m_straightAt m_lined f11_0 f11_1 f11_2 f11_3 f11_4 f11_5 f11_6 f11_7 f11_8 f11_9 f11_10 f11_11 f11_12 f11_13 f11_14 f11_15 f18_11 f18_12 m_n m_c m_d m_s m_e m_k m_x m_y m_g m_a m_fitUp m_fitDown m_worstUp m_worstDown r2 r3 r5 r6 r8 r9 r13 r14 r15 r26 r27 r28 r30 r31 r32 q3 q4 q5 q6 q7 q8 q9 q10 q11 q12 q13 q14 q15 q16 q18 q19 q20 r19 r20 r21 r22 r23 r24 q17 L nl nt np nr wa wb f n so ch hW hT hD hP hK hA
  refine ⟨_, c_X10_most (h_c0 := (dk_c0 hD)), ?_⟩
  rintro r w' (⟨f1, f2, rfl, rfl⟩ | ⟨f1, f2, rfl, rfl⟩ | ⟨f1, rfl, rfl⟩)
  · rw [hD.1.1] at f1
    obtain ⟨b1, b2, b3, b4, b5⟩ := dk_bars hD f1
    refine ⟨rfl, rfl, ⟨_, rfl⟩, _, c_X11_most (h_l := (dk_m0 hD)) (h_q1 := (fun z _ => by rw [e_unit]; exact unit_ne (dk_bars hD z).2.2.2.2)), ?_⟩
    rintro r2 w2 (⟨g1, g2, rfl, rfl⟩ | ⟨g1, g2, rfl, rfl⟩ | ⟨g1, rfl, rfl⟩)
    · rw [e_lc, e_mc, ← b1, ← b2, ← b3, ← b4] at g2
      exact ⟨by rw [b1, b2, b3, b4, rd_mp (i32_ne _) (i32_ne _) (unit_ne b5), e_mc, e_unit], ⟨_, rfl⟩, inv_mk (fun z => absurd z (by decide)) hT hD hP hK hA⟩
    · rw [e_lc, e_mc, ← b1, ← b2, ← b3, ← b4] at g2
      exact absurd f2 g2
    · exact absurd f1 g1
  · rw [hD.1.1] at f1
    obtain ⟨b1, b2, b3, b4, b5⟩ := dk_bars hD f1
    refine ⟨rfl, rfl, ⟨_, rfl⟩, _, c_X11_most (h_l := (dk_m0 hD)) (h_q1 := (fun z _ => by rw [e_unit]; exact unit_ne (dk_bars hD z).2.2.2.2)), ?_⟩
    rintro r2 w2 (⟨g1, g2, rfl, rfl⟩ | ⟨g1, g2, rfl, rfl⟩ | ⟨g1, rfl, rfl⟩)
    · rw [e_lc, e_mc, ← b1, ← b2, ← b3, ← b4] at g2
      exact absurd g2 f2
    · rw [e_lc, e_mc, ← b1, ← b2, ← b3, ← b4] at g2
      exact ⟨rfl, ⟨_, rfl⟩, inv_mk (fun z => absurd z (by decide)) hT hD hP hK hA⟩
    · exact absurd f1 g1
  · rw [hD.1.1] at f1
    refine ⟨rfl, rfl, ⟨_, rfl⟩, _, c_X11_most (h_l := (dk_m0 hD)) (h_q1 := (fun z _ => by rw [e_unit]; exact unit_ne (dk_bars hD z).2.2.2.2)), ?_⟩
    rintro r2 w2 (⟨g1, g2, rfl, rfl⟩ | ⟨g1, g2, rfl, rfl⟩ | ⟨g1, rfl, rfl⟩)
    · exact absurd g1 f1
    · exact absurd g1 f1
    · exact ⟨rfl, ⟨_, rfl⟩, inv_mk (fun z => absurd z (by decide)) hT hD hP hK hA⟩
set_option maxRecDepth 100000 in
theorem pr_swing {w : ax_W} (hI : INV w) (a1 a2 a3 : Int32) : PrL M_X10_swing M_X11_swing [.int a1, .int a2, .int a3] w := by
  refine hI (fun w => PrL M_X10_swing M_X11_swing [.int a1, .int a2, .int a3] w) ?_
  intro tr fl pl wl wd f1_3 f1_4 f10_0 f10_1 f10_2 f10_3 f12_5 f12_6 f12_7 f12_8 f12_9 f18_7 f18_8 f18_9 f18_10 f25_3 m_thrown m_where m_readLinks m_readTracers m_readPoints m_readPairs m_textLong m_at m_spot m_token m_whole m_readFault m_readPlace m_value m_curveMany m_cornerMany m_straightAt m_lined f11_0 f11_1 f11_2 f11_3 f11_4 f11_5 f11_6 f11_7 f11_8 f11_9 f11_10 f11_11 f11_12 f11_13 f11_14 f11_15 f18_11 f18_12 m_n m_c m_d m_s m_e m_k m_x m_y m_g m_a m_fitUp m_fitDown m_worstUp m_worstDown r2 r3 r5 r6 r8 r9 r13 r14 r15 r26 r27 r28 r30 r31 r32 q3 q4 q5 q6 q7 q8 q9 q10 q11 q12 q13 q14 q15 q16 q18 q19 q20 r19 r20 r21 r22 r23 r24 q17 L nl nt np nr wa wb f n so ch hW hT hD hP hK hA
  refine ⟨_, c_X10_swing (h_c0 := (dk_c0 hD)), ?_⟩
  rintro r w' (⟨f1, f2, f3, rfl, rfl⟩ | ⟨f1, f2, f3, rfl, rfl⟩ | ⟨f1, f2, rfl, rfl⟩ | ⟨f1, rfl, rfl⟩)
  · rw [hD.1.1] at f1
    obtain ⟨b1, b2, b3, b4, b5⟩ := dk_bars hD f1
    refine ⟨rfl, rfl, ⟨_, rfl⟩, _, c_X11_swing (h_l := (dk_m0 hD)) (h_q1 := (fun z _ _ => by rw [← e_swd (dk_bars hD z).2.2.2.2]; exact i32_ne _)) (h_q2 := (fun z _ _ => by rw [← e_swd (dk_bars hD z).2.2.2.2]; exact swd_ne (dk_bars hD z).2.2.2.2)) (h_q3 := (fun z _ _ => by rw [← e_swd (dk_bars hD z).2.2.2.2]; exact i32_ne _)) (h_q4 := (fun z _ _ => by rw [← e_swd (dk_bars hD z).2.2.2.2]; exact swd_ne (dk_bars hD z).2.2.2.2)), ?_⟩
    rintro r2 w2 (⟨g1, g2, g3, rfl, rfl⟩ | ⟨g1, g2, g3, rfl, rfl⟩ | ⟨g1, g2, rfl, rfl⟩ | ⟨g1, rfl, rfl⟩)
    · rw [e_lc, e_mc, ← b1, ← b2, ← b3, ← b4] at g2
      exact ⟨by rw [b1, b2, b3, b4, rd_mp (i32_ne _) (i32_ne _) (swd_ne b5), e_lc, e_swd b5]; rfl, ⟨_, rfl⟩, inv_mk (fun z => absurd z (by decide)) hT hD hP hK hA⟩
    · exact absurd f3 g3
    · rw [e_lc, e_mc, ← b1, ← b2, ← b3, ← b4] at g2
      exact absurd f2 g2
    · exact absurd f1 g1
  · rw [hD.1.1] at f1
    obtain ⟨b1, b2, b3, b4, b5⟩ := dk_bars hD f1
    refine ⟨rfl, rfl, ⟨_, rfl⟩, _, c_X11_swing (h_l := (dk_m0 hD)) (h_q1 := (fun z _ _ => by rw [← e_swd (dk_bars hD z).2.2.2.2]; exact i32_ne _)) (h_q2 := (fun z _ _ => by rw [← e_swd (dk_bars hD z).2.2.2.2]; exact swd_ne (dk_bars hD z).2.2.2.2)) (h_q3 := (fun z _ _ => by rw [← e_swd (dk_bars hD z).2.2.2.2]; exact i32_ne _)) (h_q4 := (fun z _ _ => by rw [← e_swd (dk_bars hD z).2.2.2.2]; exact swd_ne (dk_bars hD z).2.2.2.2)), ?_⟩
    rintro r2 w2 (⟨g1, g2, g3, rfl, rfl⟩ | ⟨g1, g2, g3, rfl, rfl⟩ | ⟨g1, g2, rfl, rfl⟩ | ⟨g1, rfl, rfl⟩)
    · exact absurd g3 f3
    · rw [e_lc, e_mc, ← b1, ← b2, ← b3, ← b4] at g2
      exact ⟨by rw [b1, b2, b3, b4, rd_mp (i32_ne _) (i32_ne _) (swd_ne b5), e_mc, e_swd b5]; rfl, ⟨_, rfl⟩, inv_mk (fun z => absurd z (by decide)) hT hD hP hK hA⟩
    · rw [e_lc, e_mc, ← b1, ← b2, ← b3, ← b4] at g2
      exact absurd f2 g2
    · exact absurd f1 g1
  · rw [hD.1.1] at f1
    obtain ⟨b1, b2, b3, b4, b5⟩ := dk_bars hD f1
    refine ⟨rfl, rfl, ⟨_, rfl⟩, _, c_X11_swing (h_l := (dk_m0 hD)) (h_q1 := (fun z _ _ => by rw [← e_swd (dk_bars hD z).2.2.2.2]; exact i32_ne _)) (h_q2 := (fun z _ _ => by rw [← e_swd (dk_bars hD z).2.2.2.2]; exact swd_ne (dk_bars hD z).2.2.2.2)) (h_q3 := (fun z _ _ => by rw [← e_swd (dk_bars hD z).2.2.2.2]; exact i32_ne _)) (h_q4 := (fun z _ _ => by rw [← e_swd (dk_bars hD z).2.2.2.2]; exact swd_ne (dk_bars hD z).2.2.2.2)), ?_⟩
    rintro r2 w2 (⟨g1, g2, g3, rfl, rfl⟩ | ⟨g1, g2, g3, rfl, rfl⟩ | ⟨g1, g2, rfl, rfl⟩ | ⟨g1, rfl, rfl⟩)
    · rw [e_lc, e_mc, ← b1, ← b2, ← b3, ← b4] at g2
      exact absurd g2 f2
    · rw [e_lc, e_mc, ← b1, ← b2, ← b3, ← b4] at g2
      exact absurd g2 f2
    · rw [e_lc, e_mc, ← b1, ← b2, ← b3, ← b4] at g2
      exact ⟨rfl, ⟨_, rfl⟩, inv_mk (fun z => absurd z (by decide)) hT hD hP hK hA⟩
    · exact absurd f1 g1
  · rw [hD.1.1] at f1
    refine ⟨rfl, rfl, ⟨_, rfl⟩, _, c_X11_swing (h_l := (dk_m0 hD)) (h_q1 := (fun z _ _ => by rw [← e_swd (dk_bars hD z).2.2.2.2]; exact i32_ne _)) (h_q2 := (fun z _ _ => by rw [← e_swd (dk_bars hD z).2.2.2.2]; exact swd_ne (dk_bars hD z).2.2.2.2)) (h_q3 := (fun z _ _ => by rw [← e_swd (dk_bars hD z).2.2.2.2]; exact i32_ne _)) (h_q4 := (fun z _ _ => by rw [← e_swd (dk_bars hD z).2.2.2.2]; exact swd_ne (dk_bars hD z).2.2.2.2)), ?_⟩
    rintro r2 w2 (⟨g1, g2, g3, rfl, rfl⟩ | ⟨g1, g2, g3, rfl, rfl⟩ | ⟨g1, g2, rfl, rfl⟩ | ⟨g1, rfl, rfl⟩)
    · exact absurd g1 f1
    · exact absurd g1 f1
    · exact absurd g1 f1
    · exact ⟨rfl, ⟨_, rfl⟩, inv_mk (fun z => absurd z (by decide)) hT hD hP hK hA⟩
set_option maxRecDepth 100000 in
theorem pr_circuits {w : ax_W} (hI : INV w) (a1 : Int32) : PrI M_X10_circuits M_X11_circuits [.int a1] w := by
  refine hI (fun w => PrI M_X10_circuits M_X11_circuits [.int a1] w) ?_
  intro tr fl pl wl wd f1_3 f1_4 f10_0 f10_1 f10_2 f10_3 f12_5 f12_6 f12_7 f12_8 f12_9 f18_7 f18_8 f18_9 f18_10 f25_3 m_thrown m_where m_readLinks m_readTracers m_readPoints m_readPairs m_textLong m_at m_spot m_token m_whole m_readFault m_readPlace m_value m_curveMany m_cornerMany m_straightAt m_lined f11_0 f11_1 f11_2 f11_3 f11_4 f11_5 f11_6 f11_7 f11_8 f11_9 f11_10 f11_11 f11_12 f11_13 f11_14 f11_15 f18_11 f18_12 m_n m_c m_d m_s m_e m_k m_x m_y m_g m_a m_fitUp m_fitDown m_worstUp m_worstDown r2 r3 r5 r6 r8 r9 r13 r14 r15 r26 r27 r28 r30 r31 r32 q3 q4 q5 q6 q7 q8 q9 q10 q11 q12 q13 q14 q15 q16 q18 q19 q20 r19 r20 r21 r22 r23 r24 q17 L nl nt np nr wa wb f n so ch hW hT hD hP hK hA
  refine ⟨_, c_X10_circuits (h_c := (dk_c0 hD)), ?_⟩
  rintro r w' (⟨f1, rfl, rfl⟩ | ⟨f1, rfl, rfl⟩)
  · rw [hD.1.1] at f1
    obtain ⟨b1, b2, b3, b4, b5⟩ := dk_bars hD f1
    refine ⟨rfl, rfl, ⟨_, rfl⟩, _, c_X11_circuits (h_l := (dk_m0 hD)), ?_⟩
    rintro r2 w2 (⟨g1, g2, g3, rfl, rfl⟩ | ⟨g1, g2, g3, rfl, rfl⟩ | ⟨g1, g2, rfl, rfl⟩ | ⟨g1, rfl, rfl⟩)
    · exact ⟨by rw [b1, b2, b3, b4, e_circ b5, if_pos g2, if_pos g3], ⟨_, rfl⟩, inv_mk (fun z => absurd z (by decide)) hT hD hP hK hA⟩
    · exact ⟨by rw [b1, b2, b3, b4, e_circ b5, if_pos g2, if_neg g3], ⟨_, rfl⟩, inv_mk (fun z => absurd z (by decide)) hT hD hP hK hA⟩
    · exact ⟨by rw [b1, b2, b3, b4, e_circ b5, if_neg g2], ⟨_, rfl⟩, inv_mk (fun z => absurd z (by decide)) hT hD hP hK hA⟩
    · exact absurd f1 g1
  · rw [hD.1.1] at f1
    refine ⟨rfl, rfl, ⟨_, rfl⟩, _, c_X11_circuits (h_l := (dk_m0 hD)), ?_⟩
    rintro r2 w2 (⟨g1, g2, g3, rfl, rfl⟩ | ⟨g1, g2, g3, rfl, rfl⟩ | ⟨g1, g2, rfl, rfl⟩ | ⟨g1, rfl, rfl⟩)
    · exact absurd g1 f1
    · exact absurd g1 f1
    · exact absurd g1 f1
    · exact ⟨rfl, ⟨_, rfl⟩, inv_mk (fun z => absurd z (by decide)) hT hD hP hK hA⟩
set_option maxRecDepth 100000 in
theorem pr_lawful {w : ax_W} (hI : INV w) (a1 a2 : Int32) : PrI M_X10_lawful M_X11_lawful [.int a1, .int a2] w := by
  refine hI (fun w => PrI M_X10_lawful M_X11_lawful [.int a1, .int a2] w) ?_
  intro tr fl pl wl wd f1_3 f1_4 f10_0 f10_1 f10_2 f10_3 f12_5 f12_6 f12_7 f12_8 f12_9 f18_7 f18_8 f18_9 f18_10 f25_3 m_thrown m_where m_readLinks m_readTracers m_readPoints m_readPairs m_textLong m_at m_spot m_token m_whole m_readFault m_readPlace m_value m_curveMany m_cornerMany m_straightAt m_lined f11_0 f11_1 f11_2 f11_3 f11_4 f11_5 f11_6 f11_7 f11_8 f11_9 f11_10 f11_11 f11_12 f11_13 f11_14 f11_15 f18_11 f18_12 m_n m_c m_d m_s m_e m_k m_x m_y m_g m_a m_fitUp m_fitDown m_worstUp m_worstDown r2 r3 r5 r6 r8 r9 r13 r14 r15 r26 r27 r28 r30 r31 r32 q3 q4 q5 q6 q7 q8 q9 q10 q11 q12 q13 q14 q15 q16 q18 q19 q20 r19 r20 r21 r22 r23 r24 q17 L nl nt np nr wa wb f n so ch hW hT hD hP hK hA
  refine ⟨_, c_X10_lawful (h_c0 := (dk_c0 hD)), ?_⟩
  rintro r w' (⟨f1, f2, rfl, rfl⟩ | ⟨f1, f2, rfl, rfl⟩ | ⟨f1, rfl, rfl⟩)
  · rw [hD.1.1] at f1
    obtain ⟨b1, b2, b3, b4, b5⟩ := dk_bars hD f1
    refine ⟨rfl, rfl, ⟨_, rfl⟩, _, c_X11_lawful (h_l := (dk_m0 hD)), ?_⟩
    rintro r2 w2 (⟨g1, g2, g3, g4, rfl, rfl⟩ | ⟨g1, g2, g3, g4, rfl, rfl⟩ | ⟨g1, g2, g3, rfl, rfl⟩ | ⟨g1, g2, rfl, rfl⟩ | ⟨g1, rfl, rfl⟩)
    · rw [law_e hD f1 f2] at g3
      rw [(kk_e hD f1 f2).1] at g4
      exact ⟨by unfold Ps_state; rw [if_pos g3, if_neg g4], ⟨_, rfl⟩, inv_mk (fun z => absurd z (by decide)) hT hD hP hK hA⟩
    · rw [law_e hD f1 f2] at g3
      rw [(kk_e hD f1 f2).1] at g4
      exact ⟨by unfold Ps_state; rw [if_pos g3, if_pos g4], ⟨_, rfl⟩, inv_mk (fun z => absurd z (by decide)) hT hD hP hK hA⟩
    · rw [law_e hD f1 f2] at g3
      exact ⟨by unfold Ps_state; rw [if_neg g3], ⟨_, rfl⟩, inv_mk (fun z => absurd z (by decide)) hT hD hP hK hA⟩
    · exact absurd f2 g2
    · exact absurd f1 g1
  · rw [hD.1.1] at f1
    obtain ⟨b1, b2, b3, b4, b5⟩ := dk_bars hD f1
    refine ⟨rfl, rfl, ⟨_, rfl⟩, _, c_X11_lawful (h_l := (dk_m0 hD)), ?_⟩
    rintro r2 w2 (⟨g1, g2, g3, g4, rfl, rfl⟩ | ⟨g1, g2, g3, g4, rfl, rfl⟩ | ⟨g1, g2, g3, rfl, rfl⟩ | ⟨g1, g2, rfl, rfl⟩ | ⟨g1, rfl, rfl⟩)
    · exact absurd g2 f2
    · exact absurd g2 f2
    · exact absurd g2 f2
    · exact ⟨rfl, ⟨_, rfl⟩, inv_mk (fun z => absurd z (by decide)) hT hD hP hK hA⟩
    · exact absurd f1 g1
  · rw [hD.1.1] at f1
    refine ⟨rfl, rfl, ⟨_, rfl⟩, _, c_X11_lawful (h_l := (dk_m0 hD)), ?_⟩
    rintro r2 w2 (⟨g1, g2, g3, g4, rfl, rfl⟩ | ⟨g1, g2, g3, g4, rfl, rfl⟩ | ⟨g1, g2, g3, rfl, rfl⟩ | ⟨g1, g2, rfl, rfl⟩ | ⟨g1, rfl, rfl⟩)
    · exact absurd g1 f1
    · exact absurd g1 f1
    · exact absurd g1 f1
    · exact absurd g1 f1
    · exact ⟨rfl, ⟨_, rfl⟩, inv_mk (fun z => absurd z (by decide)) hT hD hP hK hA⟩
set_option maxRecDepth 100000 in
theorem pr_between {w : ax_W} (hI : INV w) (a1 a2 : Int32) : PrI M_X10_between M_X11_between [.int a1, .int a2] w := by
  refine hI (fun w => PrI M_X10_between M_X11_between [.int a1, .int a2] w) ?_
  intro tr fl pl wl wd f1_3 f1_4 f10_0 f10_1 f10_2 f10_3 f12_5 f12_6 f12_7 f12_8 f12_9 f18_7 f18_8 f18_9 f18_10 f25_3 m_thrown m_where m_readLinks m_readTracers m_readPoints m_readPairs m_textLong m_at m_spot m_token m_whole m_readFault m_readPlace m_value m_curveMany m_cornerMany m_straightAt m_lined f11_0 f11_1 f11_2 f11_3 f11_4 f11_5 f11_6 f11_7 f11_8 f11_9 f11_10 f11_11 f11_12 f11_13 f11_14 f11_15 f18_11 f18_12 m_n m_c m_d m_s m_e m_k m_x m_y m_g m_a m_fitUp m_fitDown m_worstUp m_worstDown r2 r3 r5 r6 r8 r9 r13 r14 r15 r26 r27 r28 r30 r31 r32 q3 q4 q5 q6 q7 q8 q9 q10 q11 q12 q13 q14 q15 q16 q18 q19 q20 r19 r20 r21 r22 r23 r24 q17 L nl nt np nr wa wb f n so ch hW hT hD hP hK hA
  refine ⟨_, c_X10_between (h_c0 := (dk_c0 hD)), ?_⟩
  rintro r w' (⟨f1, f2, rfl, rfl⟩ | ⟨f1, f2, rfl, rfl⟩ | ⟨f1, rfl, rfl⟩)
  · rw [hD.1.1] at f1
    obtain ⟨b1, b2, b3, b4, b5⟩ := dk_bars hD f1
    refine ⟨rfl, rfl, ⟨_, rfl⟩, _, c_X11_between_t (h_l := (dk_m0 hD)), ?_⟩
    rintro r2 w2 (⟨g1, g2, g3, g4, rfl, rfl⟩ | ⟨g1, g2, g3, g4, rfl, rfl⟩ | ⟨g1, g2, g3, g4, rfl, rfl⟩ | ⟨g1, g2, g3, g4, rfl, rfl⟩ | ⟨g1, g2, rfl, rfl⟩ | ⟨g1, rfl, rfl⟩)
    · exact ⟨by rw [b1, b2, b3, b4, e_betw b5 f2, if_pos g3, if_pos g4], ⟨_, rfl⟩, inv_mk (fun z => absurd z (by decide)) hT hD hP hK hA⟩
    · exact ⟨by rw [b1, b2, b3, b4, e_betw b5 f2, if_pos g3, if_neg g4], ⟨_, rfl⟩, inv_mk (fun z => absurd z (by decide)) hT hD hP hK hA⟩
    · exact ⟨by rw [b1, b2, b3, b4, e_betw b5 f2, if_neg g3, if_pos g4], ⟨_, rfl⟩, inv_mk (fun z => absurd z (by decide)) hT hD hP hK hA⟩
    · exact ⟨by rw [b1, b2, b3, b4, e_betw b5 f2, if_neg g3, if_neg g4], ⟨_, rfl⟩, inv_mk (fun z => absurd z (by decide)) hT hD hP hK hA⟩
    · exact absurd f2 g2
    · exact absurd f1 g1
  · rw [hD.1.1] at f1
    obtain ⟨b1, b2, b3, b4, b5⟩ := dk_bars hD f1
    refine ⟨rfl, rfl, ⟨_, rfl⟩, _, c_X11_between_t (h_l := (dk_m0 hD)), ?_⟩
    rintro r2 w2 (⟨g1, g2, g3, g4, rfl, rfl⟩ | ⟨g1, g2, g3, g4, rfl, rfl⟩ | ⟨g1, g2, g3, g4, rfl, rfl⟩ | ⟨g1, g2, g3, g4, rfl, rfl⟩ | ⟨g1, g2, rfl, rfl⟩ | ⟨g1, rfl, rfl⟩)
    · exact absurd g2 f2
    · exact absurd g2 f2
    · exact absurd g2 f2
    · exact absurd g2 f2
    · exact ⟨rfl, ⟨_, rfl⟩, inv_mk (fun z => absurd z (by decide)) hT hD hP hK hA⟩
    · exact absurd f1 g1
  · rw [hD.1.1] at f1
    refine ⟨rfl, rfl, ⟨_, rfl⟩, _, c_X11_between_t (h_l := (dk_m0 hD)), ?_⟩
    rintro r2 w2 (⟨g1, g2, g3, g4, rfl, rfl⟩ | ⟨g1, g2, g3, g4, rfl, rfl⟩ | ⟨g1, g2, g3, g4, rfl, rfl⟩ | ⟨g1, g2, g3, g4, rfl, rfl⟩ | ⟨g1, g2, rfl, rfl⟩ | ⟨g1, rfl, rfl⟩)
    · exact absurd g1 f1
    · exact absurd g1 f1
    · exact absurd g1 f1
    · exact absurd g1 f1
    · exact absurd g1 f1
    · exact ⟨rfl, ⟨_, rfl⟩, inv_mk (fun z => absurd z (by decide)) hT hD hP hK hA⟩
set_option maxRecDepth 100000 in
theorem pr_span {w : ax_W} (hI : INV w) (a1 a2 a3 : Int32) : PrL M_X10_span M_X11_span [.int a1, .int a2, .int a3] w := by
  refine hI (fun w => PrL M_X10_span M_X11_span [.int a1, .int a2, .int a3] w) ?_
  intro tr fl pl wl wd f1_3 f1_4 f10_0 f10_1 f10_2 f10_3 f12_5 f12_6 f12_7 f12_8 f12_9 f18_7 f18_8 f18_9 f18_10 f25_3 m_thrown m_where m_readLinks m_readTracers m_readPoints m_readPairs m_textLong m_at m_spot m_token m_whole m_readFault m_readPlace m_value m_curveMany m_cornerMany m_straightAt m_lined f11_0 f11_1 f11_2 f11_3 f11_4 f11_5 f11_6 f11_7 f11_8 f11_9 f11_10 f11_11 f11_12 f11_13 f11_14 f11_15 f18_11 f18_12 m_n m_c m_d m_s m_e m_k m_x m_y m_g m_a m_fitUp m_fitDown m_worstUp m_worstDown r2 r3 r5 r6 r8 r9 r13 r14 r15 r26 r27 r28 r30 r31 r32 q3 q4 q5 q6 q7 q8 q9 q10 q11 q12 q13 q14 q15 q16 q18 q19 q20 r19 r20 r21 r22 r23 r24 q17 L nl nt np nr wa wb f n so ch hW hT hD hP hK hA
  refine ⟨_, c_X10_span2 (h_c0 := (dk_c0 hD)) (h_q1 := (fun z1 z2 => (sn_ne (dk_okB hD (dkl hD z1)) z2).1)) (h_q2 := (fun z1 z2 => (sn_ne (dk_okB hD (dkl hD z1)) z2).2.1)), ?_⟩
  rintro r w' (⟨f1, f2, rfl, rfl⟩ | ⟨f1, f2, rfl, rfl⟩ | ⟨f1, rfl, rfl⟩)
  · rw [hD.1.1] at f1
    obtain ⟨b1, b2, b3, b4, b5⟩ := dk_bars hD f1
    refine ⟨rfl, rfl, ⟨_, rfl⟩, _, c_X11_span (h_l := (dk_m0 hD)) (h_q1 := (fun z1 z2 => by rw [(kk_e hD z1 z2).2.1]; exact (sn_ne (dk_okB hD z1) z2).1)) (h_q2 := (fun z1 z2 => by rw [(kk_e hD z1 z2).2.2.1]; exact (sn_ne (dk_okB hD z1) z2).2.1)) (h_q3 := (fun z1 z2 => by rw [(kk_e hD z1 z2).2.2.1]; exact (sn_ne (dk_okB hD z1) z2).2.2)), ?_⟩
    rintro r2 w2 (⟨g1, g2, rfl, rfl⟩ | ⟨g1, g2, rfl, rfl⟩ | ⟨g1, rfl, rfl⟩)
    · have sn := sn_ne (dk_okB hD f1) f2
      exact ⟨by rw [(kk_e hD f1 f2).2.1, (kk_e hD f1 f2).2.2.1, rd_mp sn.1 sn.2.1 sn.2.2], ⟨_, rfl⟩, inv_mk (fun z => absurd z (by decide)) hT hD hP hK hA⟩
    · exact absurd f2 g2
    · exact absurd f1 g1
  · rw [hD.1.1] at f1
    obtain ⟨b1, b2, b3, b4, b5⟩ := dk_bars hD f1
    refine ⟨rfl, rfl, ⟨_, rfl⟩, _, c_X11_span (h_l := (dk_m0 hD)) (h_q1 := (fun z1 z2 => by rw [(kk_e hD z1 z2).2.1]; exact (sn_ne (dk_okB hD z1) z2).1)) (h_q2 := (fun z1 z2 => by rw [(kk_e hD z1 z2).2.2.1]; exact (sn_ne (dk_okB hD z1) z2).2.1)) (h_q3 := (fun z1 z2 => by rw [(kk_e hD z1 z2).2.2.1]; exact (sn_ne (dk_okB hD z1) z2).2.2)), ?_⟩
    rintro r2 w2 (⟨g1, g2, rfl, rfl⟩ | ⟨g1, g2, rfl, rfl⟩ | ⟨g1, rfl, rfl⟩)
    · exact absurd g2 f2
    · exact ⟨rfl, ⟨_, rfl⟩, inv_mk (fun z => absurd z (by decide)) hT hD hP hK hA⟩
    · exact absurd f1 g1
  · rw [hD.1.1] at f1
    refine ⟨rfl, rfl, ⟨_, rfl⟩, _, c_X11_span (h_l := (dk_m0 hD)) (h_q1 := (fun z1 z2 => by rw [(kk_e hD z1 z2).2.1]; exact (sn_ne (dk_okB hD z1) z2).1)) (h_q2 := (fun z1 z2 => by rw [(kk_e hD z1 z2).2.2.1]; exact (sn_ne (dk_okB hD z1) z2).2.1)) (h_q3 := (fun z1 z2 => by rw [(kk_e hD z1 z2).2.2.1]; exact (sn_ne (dk_okB hD z1) z2).2.2)), ?_⟩
    rintro r2 w2 (⟨g1, g2, rfl, rfl⟩ | ⟨g1, g2, rfl, rfl⟩ | ⟨g1, rfl, rfl⟩)
    · exact absurd g1 f1
    · exact absurd g1 f1
    · exact ⟨rfl, ⟨_, rfl⟩, inv_mk (fun z => absurd z (by decide)) hT hD hP hK hA⟩
set_option maxRecDepth 100000 in
theorem pr_force {w : ax_W} (hI : INV w) (a1 a2 a3 : Int32) : PrL M_X10_force M_X11_force [.int a1, .int a2, .int a3] w := by
  refine hI (fun w => PrL M_X10_force M_X11_force [.int a1, .int a2, .int a3] w) ?_
  intro tr fl pl wl wd f1_3 f1_4 f10_0 f10_1 f10_2 f10_3 f12_5 f12_6 f12_7 f12_8 f12_9 f18_7 f18_8 f18_9 f18_10 f25_3 m_thrown m_where m_readLinks m_readTracers m_readPoints m_readPairs m_textLong m_at m_spot m_token m_whole m_readFault m_readPlace m_value m_curveMany m_cornerMany m_straightAt m_lined f11_0 f11_1 f11_2 f11_3 f11_4 f11_5 f11_6 f11_7 f11_8 f11_9 f11_10 f11_11 f11_12 f11_13 f11_14 f11_15 f18_11 f18_12 m_n m_c m_d m_s m_e m_k m_x m_y m_g m_a m_fitUp m_fitDown m_worstUp m_worstDown r2 r3 r5 r6 r8 r9 r13 r14 r15 r26 r27 r28 r30 r31 r32 q3 q4 q5 q6 q7 q8 q9 q10 q11 q12 q13 q14 q15 q16 q18 q19 q20 r19 r20 r21 r22 r23 r24 q17 L nl nt np nr wa wb f n so ch hW hT hD hP hK hA
  refine ⟨_, c_X10_force2 (h_c0 := (dk_c0 hD)) (h_q1 := (fun z1 z2 _ => (fo_ne (dk_okB hD (dkl hD z1)) z2).1)) (h_q2 := (fun z1 z2 _ => (fo_ne (dk_okB hD (dkl hD z1)) z2).2.1)), ?_⟩
  rintro r w' (⟨f1, f2, f3, rfl, rfl⟩ | ⟨f1, f2, f3, rfl, rfl⟩ | ⟨f1, f2, rfl, rfl⟩ | ⟨f1, rfl, rfl⟩)
  · rw [hD.1.1] at f1
    obtain ⟨b1, b2, b3, b4, b5⟩ := dk_bars hD f1
    refine ⟨rfl, rfl, ⟨_, rfl⟩, _, c_X11_force (h_l := (dk_m0 hD)) (h_q1 := (fun z1 z2 _ => by rw [(force_e hD z1 z2).1]; exact (fo_ne (dk_okB hD z1) z2).1)) (h_q2 := (fun z1 z2 _ => by rw [(force_e hD z1 z2).2]; exact (fo_ne (dk_okB hD z1) z2).2.1)) (h_q3 := (fun z1 z2 _ => by rw [(force_e hD z1 z2).2]; exact (fo_ne (dk_okB hD z1) z2).2.2)), ?_⟩
    rintro r2 w2 (⟨g1, g2, g3, rfl, rfl⟩ | ⟨g1, g2, g3, rfl, rfl⟩ | ⟨g1, g2, rfl, rfl⟩ | ⟨g1, rfl, rfl⟩)
    · rw [law_e hD f1 f2] at g3
      have sn := fo_ne (dk_okB hD f1) f2
      exact ⟨by rw [(force_e hD f1 f2).1, (force_e hD f1 f2).2, rd_mp sn.1 sn.2.1 sn.2.2], ⟨_, rfl⟩, inv_mk (fun z => absurd z (by decide)) hT hD hP hK hA⟩
    · rw [law_e hD f1 f2] at g3
      exact absurd f3 g3
    · exact absurd f2 g2
    · exact absurd f1 g1
  · rw [hD.1.1] at f1
    obtain ⟨b1, b2, b3, b4, b5⟩ := dk_bars hD f1
    refine ⟨rfl, rfl, ⟨_, rfl⟩, _, c_X11_force (h_l := (dk_m0 hD)) (h_q1 := (fun z1 z2 _ => by rw [(force_e hD z1 z2).1]; exact (fo_ne (dk_okB hD z1) z2).1)) (h_q2 := (fun z1 z2 _ => by rw [(force_e hD z1 z2).2]; exact (fo_ne (dk_okB hD z1) z2).2.1)) (h_q3 := (fun z1 z2 _ => by rw [(force_e hD z1 z2).2]; exact (fo_ne (dk_okB hD z1) z2).2.2)), ?_⟩
    rintro r2 w2 (⟨g1, g2, g3, rfl, rfl⟩ | ⟨g1, g2, g3, rfl, rfl⟩ | ⟨g1, g2, rfl, rfl⟩ | ⟨g1, rfl, rfl⟩)
    · rw [law_e hD f1 f2] at g3
      exact absurd g3 f3
    · rw [law_e hD f1 f2] at g3
      exact ⟨rfl, ⟨_, rfl⟩, inv_mk (fun z => absurd z (by decide)) hT hD hP hK hA⟩
    · exact absurd f2 g2
    · exact absurd f1 g1
  · rw [hD.1.1] at f1
    obtain ⟨b1, b2, b3, b4, b5⟩ := dk_bars hD f1
    refine ⟨rfl, rfl, ⟨_, rfl⟩, _, c_X11_force (h_l := (dk_m0 hD)) (h_q1 := (fun z1 z2 _ => by rw [(force_e hD z1 z2).1]; exact (fo_ne (dk_okB hD z1) z2).1)) (h_q2 := (fun z1 z2 _ => by rw [(force_e hD z1 z2).2]; exact (fo_ne (dk_okB hD z1) z2).2.1)) (h_q3 := (fun z1 z2 _ => by rw [(force_e hD z1 z2).2]; exact (fo_ne (dk_okB hD z1) z2).2.2)), ?_⟩
    rintro r2 w2 (⟨g1, g2, g3, rfl, rfl⟩ | ⟨g1, g2, g3, rfl, rfl⟩ | ⟨g1, g2, rfl, rfl⟩ | ⟨g1, rfl, rfl⟩)
    · exact absurd g2 f2
    · exact absurd g2 f2
    · exact ⟨rfl, ⟨_, rfl⟩, inv_mk (fun z => absurd z (by decide)) hT hD hP hK hA⟩
    · exact absurd f1 g1
  · rw [hD.1.1] at f1
    refine ⟨rfl, rfl, ⟨_, rfl⟩, _, c_X11_force (h_l := (dk_m0 hD)) (h_q1 := (fun z1 z2 _ => by rw [(force_e hD z1 z2).1]; exact (fo_ne (dk_okB hD z1) z2).1)) (h_q2 := (fun z1 z2 _ => by rw [(force_e hD z1 z2).2]; exact (fo_ne (dk_okB hD z1) z2).2.1)) (h_q3 := (fun z1 z2 _ => by rw [(force_e hD z1 z2).2]; exact (fo_ne (dk_okB hD z1) z2).2.2)), ?_⟩
    rintro r2 w2 (⟨g1, g2, g3, rfl, rfl⟩ | ⟨g1, g2, g3, rfl, rfl⟩ | ⟨g1, g2, rfl, rfl⟩ | ⟨g1, rfl, rfl⟩)
    · exact absurd g1 f1
    · exact absurd g1 f1
    · exact absurd g1 f1
    · exact ⟨rfl, ⟨_, rfl⟩, inv_mk (fun z => absurd z (by decide)) hT hD hP hK hA⟩
set_option maxRecDepth 100000 in
theorem pr_easiest {w : ax_W} (hI : INV w) (a1 : Int32) : PrI M_X10_easiest M_X11_easiest [.int a1] w := by
  refine hI (fun w => PrI M_X10_easiest M_X11_easiest [.int a1] w) ?_
  intro tr fl pl wl wd f1_3 f1_4 f10_0 f10_1 f10_2 f10_3 f12_5 f12_6 f12_7 f12_8 f12_9 f18_7 f18_8 f18_9 f18_10 f25_3 m_thrown m_where m_readLinks m_readTracers m_readPoints m_readPairs m_textLong m_at m_spot m_token m_whole m_readFault m_readPlace m_value m_curveMany m_cornerMany m_straightAt m_lined f11_0 f11_1 f11_2 f11_3 f11_4 f11_5 f11_6 f11_7 f11_8 f11_9 f11_10 f11_11 f11_12 f11_13 f11_14 f11_15 f18_11 f18_12 m_n m_c m_d m_s m_e m_k m_x m_y m_g m_a m_fitUp m_fitDown m_worstUp m_worstDown r2 r3 r5 r6 r8 r9 r13 r14 r15 r26 r27 r28 r30 r31 r32 q3 q4 q5 q6 q7 q8 q9 q10 q11 q12 q13 q14 q15 q16 q18 q19 q20 r19 r20 r21 r22 r23 r24 q17 L nl nt np nr wa wb f n so ch hW hT hD hP hK hA
  refine ⟨_, c_X10_easiest (h_c := (dk_c0 hD)), ?_⟩
  rintro r w' (⟨x0_0, f1, rfl, rfl⟩ | ⟨f1, rfl, rfl⟩)
  · rw [hD.1.1] at f1
    obtain ⟨b1, b2, b3, b4, b5⟩ := dk_bars hD f1
    refine ⟨rfl, rfl, ⟨_, rfl⟩, _, c_X11_easiest (h_l := (dk_m0 hD)), ?_⟩
    rintro r2 w2 (⟨y0_0, g1, rfl, rfl⟩ | ⟨g1, rfl, rfl⟩)
    · exact ⟨by rw [ea_cong hD f1, e_eas b5], ⟨_, rfl⟩, inv_mk (fun z => absurd z (by decide)) hT hD hP hK hA⟩
    · exact absurd f1 g1
  · rw [hD.1.1] at f1
    refine ⟨rfl, rfl, ⟨_, rfl⟩, _, c_X11_easiest (h_l := (dk_m0 hD)), ?_⟩
    rintro r2 w2 (⟨y0_0, g1, rfl, rfl⟩ | ⟨g1, rfl, rfl⟩)
    · exact absurd g1 f1
    · exact ⟨rfl, ⟨_, rfl⟩, inv_mk (fun z => absurd z (by decide)) hT hD hP hK hA⟩
set_option maxRecDepth 100000 in
theorem pr_circuit {w : ax_W} (hI : INV w) (a1 a2 a3 : Int32) : PrI M_X10_circuit M_X11_circuit [.int a1, .int a2, .int a3] w := by
  refine hI (fun w => PrI M_X10_circuit M_X11_circuit [.int a1, .int a2, .int a3] w) ?_
  intro tr fl pl wl wd f1_3 f1_4 f10_0 f10_1 f10_2 f10_3 f12_5 f12_6 f12_7 f12_8 f12_9 f18_7 f18_8 f18_9 f18_10 f25_3 m_thrown m_where m_readLinks m_readTracers m_readPoints m_readPairs m_textLong m_at m_spot m_token m_whole m_readFault m_readPlace m_value m_curveMany m_cornerMany m_straightAt m_lined f11_0 f11_1 f11_2 f11_3 f11_4 f11_5 f11_6 f11_7 f11_8 f11_9 f11_10 f11_11 f11_12 f11_13 f11_14 f11_15 f18_11 f18_12 m_n m_c m_d m_s m_e m_k m_x m_y m_g m_a m_fitUp m_fitDown m_worstUp m_worstDown r2 r3 r5 r6 r8 r9 r13 r14 r15 r26 r27 r28 r30 r31 r32 q3 q4 q5 q6 q7 q8 q9 q10 q11 q12 q13 q14 q15 q16 q18 q19 q20 r19 r20 r21 r22 r23 r24 q17 L nl nt np nr wa wb f n so ch hW hT hD hP hK hA
  refine ⟨_, c_X10_circuit (h_c0 := (dk_c0 hD)), ?_⟩
  rintro r w' (⟨f1, f2, f3, rfl, rfl⟩ | ⟨f1, f2, f3, f4, rfl, rfl⟩ | ⟨f1, f2, f3, f4, f5, rfl, rfl⟩ | ⟨f1, f2, f3, f4, f5, rfl, rfl⟩ | ⟨f1, f2, rfl, rfl⟩ | ⟨f1, rfl, rfl⟩)
  · rw [hD.1.1] at f1
    obtain ⟨b1, b2, b3, b4, b5⟩ := dk_bars hD f1.1
    refine ⟨rfl, rfl, ⟨_, rfl⟩, _, c_X11_circuit (h_l := (dk_m0 hD)), ?_⟩
    rintro r2 w2 (⟨g1, g2, g3, rfl, rfl⟩ | ⟨g1, g2, g3, g4, rfl, rfl⟩ | ⟨g1, g2, g3, g4, g5, rfl, rfl⟩ | ⟨g1, g2, g3, g4, g5, rfl, rfl⟩ | ⟨g1, g2, rfl, rfl⟩ | ⟨g1, rfl, rfl⟩)
    · rw [law_e hD f1.1 f1.2.1] at g2
      rw [circ_iff hD f1.1 f1.2.1 f2] at g3
      exact ⟨rfl, ⟨_, rfl⟩, inv_mk (fun z => absurd z (by decide)) hT hD hP hK hA⟩
    · rw [circ_iff hD f1.1 f1.2.1 f2] at g3
      exact absurd f3 g3
    · rw [circ_iff hD f1.1 f1.2.1 f2] at g3
      exact absurd f3 g3
    · rw [circ_iff hD f1.1 f1.2.1 f2] at g3
      exact absurd f3 g3
    · rw [law_e hD f1.1 f1.2.1] at g2
      exact absurd f2 g2
    · exact absurd f1 g1
  · rw [hD.1.1] at f1
    obtain ⟨b1, b2, b3, b4, b5⟩ := dk_bars hD f1.1
    refine ⟨rfl, rfl, ⟨_, rfl⟩, _, c_X11_circuit (h_l := (dk_m0 hD)), ?_⟩
    rintro r2 w2 (⟨g1, g2, g3, rfl, rfl⟩ | ⟨g1, g2, g3, g4, rfl, rfl⟩ | ⟨g1, g2, g3, g4, g5, rfl, rfl⟩ | ⟨g1, g2, g3, g4, g5, rfl, rfl⟩ | ⟨g1, g2, rfl, rfl⟩ | ⟨g1, rfl, rfl⟩)
    · rw [circ_iff hD f1.1 f1.2.1 f2] at g3
      exact absurd g3 f3
    · rw [law_e hD f1.1 f1.2.1] at g2
      rw [circ_iff hD f1.1 f1.2.1 f2] at g3
      rw [e_arcs, ← b1, ← b2, ← b3, ← b4] at g4
      exact ⟨rfl, ⟨_, rfl⟩, inv_mk (fun z => absurd z (by decide)) hT hD hP hK hA⟩
    · rw [e_arcs, ← b1, ← b2, ← b3, ← b4] at g4
      exact absurd g4 f4
    · rw [e_arcs, ← b1, ← b2, ← b3, ← b4] at g4
      exact absurd g4 f4
    · rw [law_e hD f1.1 f1.2.1] at g2
      exact absurd f2 g2
    · exact absurd f1 g1
  · rw [hD.1.1] at f1
    obtain ⟨b1, b2, b3, b4, b5⟩ := dk_bars hD f1.1
    refine ⟨rfl, rfl, ⟨_, rfl⟩, _, c_X11_circuit (h_l := (dk_m0 hD)), ?_⟩
    rintro r2 w2 (⟨g1, g2, g3, rfl, rfl⟩ | ⟨g1, g2, g3, g4, rfl, rfl⟩ | ⟨g1, g2, g3, g4, g5, rfl, rfl⟩ | ⟨g1, g2, g3, g4, g5, rfl, rfl⟩ | ⟨g1, g2, rfl, rfl⟩ | ⟨g1, rfl, rfl⟩)
    · rw [circ_iff hD f1.1 f1.2.1 f2] at g3
      exact absurd g3 f3
    · rw [e_arcs, ← b1, ← b2, ← b3, ← b4] at g4
      exact absurd f4 g4
    · rw [law_e hD f1.1 f1.2.1] at g2
      rw [circ_iff hD f1.1 f1.2.1 f2] at g3
      rw [e_arcs, ← b1, ← b2, ← b3, ← b4] at g4
      rw [(kk_e hD f1.1 f1.2.1).2.2.2.2.1] at g5
      exact ⟨rfl, ⟨_, rfl⟩, inv_mk (fun z => absurd z (by decide)) hT hD hP hK hA⟩
    · rw [(kk_e hD f1.1 f1.2.1).2.2.2.2.1] at g5
      exact absurd f5 g5
    · rw [law_e hD f1.1 f1.2.1] at g2
      exact absurd f2 g2
    · exact absurd f1 g1
  · rw [hD.1.1] at f1
    obtain ⟨b1, b2, b3, b4, b5⟩ := dk_bars hD f1.1
    refine ⟨rfl, rfl, ⟨_, rfl⟩, _, c_X11_circuit (h_l := (dk_m0 hD)), ?_⟩
    rintro r2 w2 (⟨g1, g2, g3, rfl, rfl⟩ | ⟨g1, g2, g3, g4, rfl, rfl⟩ | ⟨g1, g2, g3, g4, g5, rfl, rfl⟩ | ⟨g1, g2, g3, g4, g5, rfl, rfl⟩ | ⟨g1, g2, rfl, rfl⟩ | ⟨g1, rfl, rfl⟩)
    · rw [circ_iff hD f1.1 f1.2.1 f2] at g3
      exact absurd g3 f3
    · rw [e_arcs, ← b1, ← b2, ← b3, ← b4] at g4
      exact absurd f4 g4
    · rw [(kk_e hD f1.1 f1.2.1).2.2.2.2.1] at g5
      exact absurd g5 f5
    · rw [law_e hD f1.1 f1.2.1] at g2
      rw [circ_iff hD f1.1 f1.2.1 f2] at g3
      rw [e_arcs, ← b1, ← b2, ← b3, ← b4] at g4
      rw [(kk_e hD f1.1 f1.2.1).2.2.2.2.1] at g5
      exact ⟨rfl, ⟨_, rfl⟩, inv_mk (fun z => absurd z (by decide)) hT hD hP hK hA⟩
    · rw [law_e hD f1.1 f1.2.1] at g2
      exact absurd f2 g2
    · exact absurd f1 g1
  · rw [hD.1.1] at f1
    obtain ⟨b1, b2, b3, b4, b5⟩ := dk_bars hD f1.1
    refine ⟨rfl, rfl, ⟨_, rfl⟩, _, c_X11_circuit (h_l := (dk_m0 hD)), ?_⟩
    rintro r2 w2 (⟨g1, g2, g3, rfl, rfl⟩ | ⟨g1, g2, g3, g4, rfl, rfl⟩ | ⟨g1, g2, g3, g4, g5, rfl, rfl⟩ | ⟨g1, g2, g3, g4, g5, rfl, rfl⟩ | ⟨g1, g2, rfl, rfl⟩ | ⟨g1, rfl, rfl⟩)
    · rw [law_e hD f1.1 f1.2.1] at g2
      exact absurd g2 f2
    · rw [law_e hD f1.1 f1.2.1] at g2
      exact absurd g2 f2
    · rw [law_e hD f1.1 f1.2.1] at g2
      exact absurd g2 f2
    · rw [law_e hD f1.1 f1.2.1] at g2
      exact absurd g2 f2
    · rw [law_e hD f1.1 f1.2.1] at g2
      exact ⟨rfl, ⟨_, rfl⟩, inv_mk (fun z => absurd z (by decide)) hT hD hP hK hA⟩
    · exact absurd f1 g1
  · rw [hD.1.1] at f1
    refine ⟨rfl, rfl, ⟨_, rfl⟩, _, c_X11_circuit (h_l := (dk_m0 hD)), ?_⟩
    rintro r2 w2 (⟨g1, g2, g3, rfl, rfl⟩ | ⟨g1, g2, g3, g4, rfl, rfl⟩ | ⟨g1, g2, g3, g4, g5, rfl, rfl⟩ | ⟨g1, g2, g3, g4, g5, rfl, rfl⟩ | ⟨g1, g2, rfl, rfl⟩ | ⟨g1, rfl, rfl⟩)
    · exact absurd g1 f1
    · exact absurd g1 f1
    · exact absurd g1 f1
    · exact absurd g1 f1
    · exact absurd g1 f1
    · exact ⟨rfl, ⟨_, rfl⟩, inv_mk (fun z => absurd z (by decide)) hT hD hP hK hA⟩
