set_option maxRecDepth 100000 in
theorem pr_which {w : ax_W} (hI : INV w) (a1 a2 : Int32) : PrI M_X10_which M_X11_which [.int a1, .int a2] w := by
  refine hI (fun w => PrI M_X10_which M_X11_which [.int a1, .int a2] w) ?_
  intro tr fl pl wl wd f1_3 f1_4 f10_0 f10_1 f10_2 f10_3 f12_5 f12_6 f12_7 f12_8 f12_9 f18_7 f18_8 f18_9 f18_10 f25_3 m_thrown m_where m_readLinks m_readTracers m_readPoints m_readPairs m_textLong m_at m_spot m_token m_whole m_readFault m_readPlace m_value m_curveMany m_cornerMany m_straightAt m_lined f11_0 f11_1 f11_2 f11_3 f11_4 f11_5 f11_6 f11_7 f11_8 f11_9 f11_10 f11_11 f11_12 f11_13 f11_14 f11_15 f18_11 f18_12 m_n m_c m_d m_s m_e m_k m_x m_y m_g m_a m_fitUp m_fitDown m_worstUp m_worstDown r2 r3 r5 r6 r8 r9 r13 r14 r15 r26 r27 r28 r30 r31 r32 q3 q4 q5 q6 q7 q8 q9 q10 q11 q12 q13 q14 q15 q16 q18 q19 q20 r19 r20 r21 r22 r23 r24 q17 L nl nt np nr wa wb f n so ch hW hT hD hP hK hA
  refine ⟨_, c_X10_which, ?_⟩
  rintro r w' (⟨f1, rfl, rfl⟩ | ⟨f1, f2, rfl, rfl⟩ | ⟨f1, f2, f3, rfl, rfl⟩ | ⟨f1, f2, f3, f4, rfl, rfl⟩ | ⟨f1, f2, f3, f4, f5, rfl, rfl⟩ | ⟨f1, f2, f3, f4, f5, f6, rfl, rfl⟩ | ⟨f1, f2, f3, f4, f5, f6, rfl, rfl⟩)
  · refine ⟨rfl, rfl, ⟨_, rfl⟩, _, c_X11_which, ?_⟩
    rintro r2 w2 (⟨g1, g2, g3, rfl, rfl⟩ | ⟨g1, g2, g3, g4, rfl, rfl⟩ | ⟨g1, g2, g3, g4, rfl, rfl⟩ | ⟨g1, g2, rfl, rfl⟩ | ⟨g1, rfl, rfl⟩)
    · exfalso
      clear hW hT hD hP hK hA
      grind
    · exfalso
      clear hW hT hD hP hK hA
      grind
    · exact ⟨rfl, ⟨_, rfl⟩, inv_mk (fun z => absurd z (by decide)) hT hD hP hK hA⟩
    · exact ⟨rfl, ⟨_, rfl⟩, inv_mk (fun z => absurd z (by decide)) hT hD hP hK hA⟩
    · exact ⟨rfl, ⟨_, rfl⟩, inv_mk (fun z => absurd z (by decide)) hT hD hP hK hA⟩
  · refine ⟨rfl, rfl, ⟨_, rfl⟩, _, c_X11_which, ?_⟩
    rintro r2 w2 (⟨g1, g2, g3, rfl, rfl⟩ | ⟨g1, g2, g3, g4, rfl, rfl⟩ | ⟨g1, g2, g3, g4, rfl, rfl⟩ | ⟨g1, g2, rfl, rfl⟩ | ⟨g1, rfl, rfl⟩)
    · exfalso
      clear hW hT hD hP hK hA
      grind
    · exfalso
      clear hW hT hD hP hK hA
      grind
    · exact ⟨rfl, ⟨_, rfl⟩, inv_mk (fun z => absurd z (by decide)) hT hD hP hK hA⟩
    · exact ⟨rfl, ⟨_, rfl⟩, inv_mk (fun z => absurd z (by decide)) hT hD hP hK hA⟩
    · exact ⟨rfl, ⟨_, rfl⟩, inv_mk (fun z => absurd z (by decide)) hT hD hP hK hA⟩
  · refine ⟨rfl, rfl, ⟨_, rfl⟩, _, c_X11_which, ?_⟩
    rintro r2 w2 (⟨g1, g2, g3, rfl, rfl⟩ | ⟨g1, g2, g3, g4, rfl, rfl⟩ | ⟨g1, g2, g3, g4, rfl, rfl⟩ | ⟨g1, g2, rfl, rfl⟩ | ⟨g1, rfl, rfl⟩)
    · exfalso
      clear hW hT hD hP hK hA
      grind
    · exfalso
      clear hW hT hD hP hK hA
      grind
    · exact ⟨rfl, ⟨_, rfl⟩, inv_mk (fun z => absurd z (by decide)) hT hD hP hK hA⟩
    · exact ⟨rfl, ⟨_, rfl⟩, inv_mk (fun z => absurd z (by decide)) hT hD hP hK hA⟩
    · exact ⟨rfl, ⟨_, rfl⟩, inv_mk (fun z => absurd z (by decide)) hT hD hP hK hA⟩
  · refine ⟨rfl, rfl, ⟨_, rfl⟩, _, c_X11_which, ?_⟩
    rintro r2 w2 (⟨g1, g2, g3, rfl, rfl⟩ | ⟨g1, g2, g3, g4, rfl, rfl⟩ | ⟨g1, g2, g3, g4, rfl, rfl⟩ | ⟨g1, g2, rfl, rfl⟩ | ⟨g1, rfl, rfl⟩)
    · exfalso
      clear hW hT hD hP hK hA
      grind
    · exfalso
      clear hW hT hD hP hK hA
      grind
    · exact ⟨rfl, ⟨_, rfl⟩, inv_mk (fun z => absurd z (by decide)) hT hD hP hK hA⟩
    · exact ⟨rfl, ⟨_, rfl⟩, inv_mk (fun z => absurd z (by decide)) hT hD hP hK hA⟩
    · exact ⟨rfl, ⟨_, rfl⟩, inv_mk (fun z => absurd z (by decide)) hT hD hP hK hA⟩
  · refine ⟨rfl, rfl, ⟨_, rfl⟩, _, c_X11_which, ?_⟩
    rintro r2 w2 (⟨g1, g2, g3, rfl, rfl⟩ | ⟨g1, g2, g3, g4, rfl, rfl⟩ | ⟨g1, g2, g3, g4, rfl, rfl⟩ | ⟨g1, g2, rfl, rfl⟩ | ⟨g1, rfl, rfl⟩)
    · exact ⟨rfl, ⟨_, rfl⟩, inv_mk (fun z => absurd z (by decide)) hT hD hP hK hA⟩
    · exact absurd g3 f5
    · exact absurd g3 f5
    · exfalso
      clear hW hT hD hP hK hA
      grind
    · exfalso
      clear hW hT hD hP hK hA
      grind
  · refine ⟨rfl, rfl, ⟨_, rfl⟩, _, c_X11_which, ?_⟩
    rintro r2 w2 (⟨g1, g2, g3, rfl, rfl⟩ | ⟨g1, g2, g3, g4, rfl, rfl⟩ | ⟨g1, g2, g3, g4, rfl, rfl⟩ | ⟨g1, g2, rfl, rfl⟩ | ⟨g1, rfl, rfl⟩)
    · exact absurd f5 g3
    · exact absurd f6 g4
    · exact ⟨rfl, ⟨_, rfl⟩, inv_mk (fun z => absurd z (by decide)) hT hD hP hK hA⟩
    · exact ⟨rfl, ⟨_, rfl⟩, inv_mk (fun z => absurd z (by decide)) hT hD hP hK hA⟩
    · exact ⟨rfl, ⟨_, rfl⟩, inv_mk (fun z => absurd z (by decide)) hT hD hP hK hA⟩
  · refine ⟨rfl, rfl, ⟨_, rfl⟩, _, c_X11_which, ?_⟩
    rintro r2 w2 (⟨g1, g2, g3, rfl, rfl⟩ | ⟨g1, g2, g3, g4, rfl, rfl⟩ | ⟨g1, g2, g3, g4, rfl, rfl⟩ | ⟨g1, g2, rfl, rfl⟩ | ⟨g1, rfl, rfl⟩)
    · exact absurd f5 g3
    · exact ⟨rfl, ⟨_, rfl⟩, inv_mk (fun z => absurd z (by decide)) hT hD hP hK hA⟩
    · exact absurd g4 f6
    · exfalso
      clear hW hT hD hP hK hA
      grind
    · exfalso
      clear hW hT hD hP hK hA
      grind
set_option maxRecDepth 100000 in
theorem pr_joint {w : ax_W} (hI : INV w) (a1 a2 a3 a4 : Int32) : PrI M_X10_joint M_X11_joint [.int a1, .int a2, .int a3, .int a4] w := by
  refine hI (fun w => PrI M_X10_joint M_X11_joint [.int a1, .int a2, .int a3, .int a4] w) ?_
  intro tr fl pl wl wd f1_3 f1_4 f10_0 f10_1 f10_2 f10_3 f12_5 f12_6 f12_7 f12_8 f12_9 f18_7 f18_8 f18_9 f18_10 f25_3 m_thrown m_where m_readLinks m_readTracers m_readPoints m_readPairs m_textLong m_at m_spot m_token m_whole m_readFault m_readPlace m_value m_curveMany m_cornerMany m_straightAt m_lined f11_0 f11_1 f11_2 f11_3 f11_4 f11_5 f11_6 f11_7 f11_8 f11_9 f11_10 f11_11 f11_12 f11_13 f11_14 f11_15 f18_11 f18_12 m_n m_c m_d m_s m_e m_k m_x m_y m_g m_a m_fitUp m_fitDown m_worstUp m_worstDown r2 r3 r5 r6 r8 r9 r13 r14 r15 r26 r27 r28 r30 r31 r32 q3 q4 q5 q6 q7 q8 q9 q10 q11 q12 q13 q14 q15 q16 q18 q19 q20 r19 r20 r21 r22 r23 r24 q17 L nl nt np nr wa wb f n so ch hW hT hD hP hK hA
  by_cases e0 : a4 = 0
  · subst e0
    refine ⟨_, c_X10_joint (h_c0 := (dk_c0 hD)) (h_q1 := (fun z1 z2 z3 z4 => (jt_ok a3 (dk_okB hD (dkl hD z1.1)) z1.2.1 z3 t20_10.1 t20_10.2).2.1)) (h_q2 := (fun z1 z2 z3 z4 => (jt_ok a3 (dk_okB hD (dkl hD z1.1)) z1.2.1 z3 t20_10.1 t20_10.2).2.2)) (h_q3 := (fun z1 z2 z3 z4 => (jt_ok a3 (dk_okB hD (dkl hD z1.1)) z1.2.1 z3 t20_10.1 t20_10.2).1)) (h_q4 := (fun z1 z2 z3 z4 => (jt_ok a3 (dk_okB hD (dkl hD z1.1)) z1.2.1 z3 t20_10.1 t20_10.2).2.2)), ?_⟩
    rintro r w' (⟨f1, f2, f3, f4, rfl, rfl⟩ | ⟨f1, f2, f3, f4, rfl, rfl⟩ | ⟨f1, f2, f3, rfl, rfl⟩ | ⟨f1, f2, rfl, rfl⟩ | ⟨f1, rfl, rfl⟩)
    · rw [hD.1.1] at f1
      obtain ⟨b1, b2, b3, b4, b5⟩ := dk_bars hD f1.1
      refine ⟨rfl, rfl, ⟨_, rfl⟩, _, c_X11_joint_0 (h_l := (dk_m0 hD)) (h_q1 := (fun z1 z2 => (mj_ok a3 (dk_bars hD z1.1).2.2.2.2 z1.2.1 z2).1)) (h_q2 := (fun z1 z2 => (mj_ok a3 (dk_bars hD z1.1).2.2.2.2 z1.2.1 z2).2.2)), ?_⟩
      rintro r2 w2 (⟨g1, g2, rfl, rfl⟩ | ⟨g1, g2, rfl, rfl⟩ | ⟨g1, rfl, rfl⟩)
      · exact absurd f4 (by decide)
      · exact absurd f4 (by decide)
      · exact absurd f4 (by decide)
    · rw [hD.1.1] at f1
      obtain ⟨b1, b2, b3, b4, b5⟩ := dk_bars hD f1.1
      refine ⟨rfl, rfl, ⟨_, rfl⟩, _, c_X11_joint_0 (h_l := (dk_m0 hD)) (h_q1 := (fun z1 z2 => (mj_ok a3 (dk_bars hD z1.1).2.2.2.2 z1.2.1 z2).1)) (h_q2 := (fun z1 z2 => (mj_ok a3 (dk_bars hD z1.1).2.2.2.2 z1.2.1 z2).2.2)), ?_⟩
      rintro r2 w2 (⟨g1, g2, rfl, rfl⟩ | ⟨g1, g2, rfl, rfl⟩ | ⟨g1, rfl, rfl⟩)
      · rw [law_e hD f1.1 f1.2.1] at g2
        exact ⟨by rw [(joint_e hD a3 f1.1 f1.2.1 f3).1], ⟨_, rfl⟩, inv_mk (fun z => absurd z (by decide)) hT hD hP hK hA⟩
      · rw [law_e hD f1.1 f1.2.1] at g2
        exact absurd f3 g2
      · exact absurd f1 g1
    · rw [hD.1.1] at f1
      obtain ⟨b1, b2, b3, b4, b5⟩ := dk_bars hD f1.1
      refine ⟨rfl, rfl, ⟨_, rfl⟩, _, c_X11_joint_0 (h_l := (dk_m0 hD)) (h_q1 := (fun z1 z2 => (mj_ok a3 (dk_bars hD z1.1).2.2.2.2 z1.2.1 z2).1)) (h_q2 := (fun z1 z2 => (mj_ok a3 (dk_bars hD z1.1).2.2.2.2 z1.2.1 z2).2.2)), ?_⟩
      rintro r2 w2 (⟨g1, g2, rfl, rfl⟩ | ⟨g1, g2, rfl, rfl⟩ | ⟨g1, rfl, rfl⟩)
      · rw [law_e hD f1.1 f1.2.1] at g2
        exact absurd g2 f3
      · rw [law_e hD f1.1 f1.2.1] at g2
        exact ⟨rfl, ⟨_, rfl⟩, inv_mk (fun z => absurd z (by decide)) hT hD hP hK hA⟩
      · exact absurd f1 g1
    · rw [hD.1.1] at f1
      obtain ⟨b1, b2, b3, b4, b5⟩ := dk_bars hD f1.1
      refine ⟨rfl, rfl, ⟨_, rfl⟩, _, c_X11_joint_0 (h_l := (dk_m0 hD)) (h_q1 := (fun z1 z2 => (mj_ok a3 (dk_bars hD z1.1).2.2.2.2 z1.2.1 z2).1)) (h_q2 := (fun z1 z2 => (mj_ok a3 (dk_bars hD z1.1).2.2.2.2 z1.2.1 z2).2.2)), ?_⟩
      rintro r2 w2 (⟨g1, g2, rfl, rfl⟩ | ⟨g1, g2, rfl, rfl⟩ | ⟨g1, rfl, rfl⟩)
      · exact absurd f2 (by decide)
      · exact absurd f2 (by decide)
      · exact absurd f2 (by decide)
    · rw [hD.1.1] at f1
      refine ⟨rfl, rfl, ⟨_, rfl⟩, _, c_X11_joint_0 (h_l := (dk_m0 hD)) (h_q1 := (fun z1 z2 => (mj_ok a3 (dk_bars hD z1.1).2.2.2.2 z1.2.1 z2).1)) (h_q2 := (fun z1 z2 => (mj_ok a3 (dk_bars hD z1.1).2.2.2.2 z1.2.1 z2).2.2)), ?_⟩
      rintro r2 w2 (⟨g1, g2, rfl, rfl⟩ | ⟨g1, g2, rfl, rfl⟩ | ⟨g1, rfl, rfl⟩)
      · exact absurd g1 f1
      · exact absurd g1 f1
      · exact ⟨rfl, ⟨_, rfl⟩, inv_mk (fun z => absurd z (by decide)) hT hD hP hK hA⟩
  by_cases e1 : a4 = 1
  · subst e1
    refine ⟨_, c_X10_joint (h_c0 := (dk_c0 hD)) (h_q1 := (fun z1 z2 z3 z4 => (jt_ok a3 (dk_okB hD (dkl hD z1.1)) z1.2.1 z3 t20_10.1 t20_10.2).2.1)) (h_q2 := (fun z1 z2 z3 z4 => (jt_ok a3 (dk_okB hD (dkl hD z1.1)) z1.2.1 z3 t20_10.1 t20_10.2).2.2)) (h_q3 := (fun z1 z2 z3 z4 => (jt_ok a3 (dk_okB hD (dkl hD z1.1)) z1.2.1 z3 t20_10.1 t20_10.2).1)) (h_q4 := (fun z1 z2 z3 z4 => (jt_ok a3 (dk_okB hD (dkl hD z1.1)) z1.2.1 z3 t20_10.1 t20_10.2).2.2)), ?_⟩
    rintro r w' (⟨f1, f2, f3, f4, rfl, rfl⟩ | ⟨f1, f2, f3, f4, rfl, rfl⟩ | ⟨f1, f2, f3, rfl, rfl⟩ | ⟨f1, f2, rfl, rfl⟩ | ⟨f1, rfl, rfl⟩)
    · rw [hD.1.1] at f1
      obtain ⟨b1, b2, b3, b4, b5⟩ := dk_bars hD f1.1
      refine ⟨rfl, rfl, ⟨_, rfl⟩, _, c_X11_joint_1 (h_l := (dk_m0 hD)) (h_q1 := (fun z1 z2 => (mj_ok a3 (dk_bars hD z1.1).2.2.2.2 z1.2.1 z2).2.1)) (h_q2 := (fun z1 z2 => (mj_ok a3 (dk_bars hD z1.1).2.2.2.2 z1.2.1 z2).2.2)), ?_⟩
      rintro r2 w2 (⟨g1, g2, rfl, rfl⟩ | ⟨g1, g2, rfl, rfl⟩ | ⟨g1, rfl, rfl⟩)
      · rw [law_e hD f1.1 f1.2.1] at g2
        exact ⟨by rw [(joint_e hD a3 f1.1 f1.2.1 f3).2], ⟨_, rfl⟩, inv_mk (fun z => absurd z (by decide)) hT hD hP hK hA⟩
      · rw [law_e hD f1.1 f1.2.1] at g2
        exact absurd f3 g2
      · exact absurd f1 g1
    · rw [hD.1.1] at f1
      obtain ⟨b1, b2, b3, b4, b5⟩ := dk_bars hD f1.1
      refine ⟨rfl, rfl, ⟨_, rfl⟩, _, c_X11_joint_1 (h_l := (dk_m0 hD)) (h_q1 := (fun z1 z2 => (mj_ok a3 (dk_bars hD z1.1).2.2.2.2 z1.2.1 z2).2.1)) (h_q2 := (fun z1 z2 => (mj_ok a3 (dk_bars hD z1.1).2.2.2.2 z1.2.1 z2).2.2)), ?_⟩
      rintro r2 w2 (⟨g1, g2, rfl, rfl⟩ | ⟨g1, g2, rfl, rfl⟩ | ⟨g1, rfl, rfl⟩)
      · exact absurd f4 (by decide)
      · exact absurd f4 (by decide)
      · exact absurd f4 (by decide)
    · rw [hD.1.1] at f1
      obtain ⟨b1, b2, b3, b4, b5⟩ := dk_bars hD f1.1
      refine ⟨rfl, rfl, ⟨_, rfl⟩, _, c_X11_joint_1 (h_l := (dk_m0 hD)) (h_q1 := (fun z1 z2 => (mj_ok a3 (dk_bars hD z1.1).2.2.2.2 z1.2.1 z2).2.1)) (h_q2 := (fun z1 z2 => (mj_ok a3 (dk_bars hD z1.1).2.2.2.2 z1.2.1 z2).2.2)), ?_⟩
      rintro r2 w2 (⟨g1, g2, rfl, rfl⟩ | ⟨g1, g2, rfl, rfl⟩ | ⟨g1, rfl, rfl⟩)
      · rw [law_e hD f1.1 f1.2.1] at g2
        exact absurd g2 f3
      · rw [law_e hD f1.1 f1.2.1] at g2
        exact ⟨rfl, ⟨_, rfl⟩, inv_mk (fun z => absurd z (by decide)) hT hD hP hK hA⟩
      · exact absurd f1 g1
    · rw [hD.1.1] at f1
      obtain ⟨b1, b2, b3, b4, b5⟩ := dk_bars hD f1.1
      refine ⟨rfl, rfl, ⟨_, rfl⟩, _, c_X11_joint_1 (h_l := (dk_m0 hD)) (h_q1 := (fun z1 z2 => (mj_ok a3 (dk_bars hD z1.1).2.2.2.2 z1.2.1 z2).2.1)) (h_q2 := (fun z1 z2 => (mj_ok a3 (dk_bars hD z1.1).2.2.2.2 z1.2.1 z2).2.2)), ?_⟩
      rintro r2 w2 (⟨g1, g2, rfl, rfl⟩ | ⟨g1, g2, rfl, rfl⟩ | ⟨g1, rfl, rfl⟩)
      · exact absurd f2 (by decide)
      · exact absurd f2 (by decide)
      · exact absurd f2 (by decide)
    · rw [hD.1.1] at f1
      refine ⟨rfl, rfl, ⟨_, rfl⟩, _, c_X11_joint_1 (h_l := (dk_m0 hD)) (h_q1 := (fun z1 z2 => (mj_ok a3 (dk_bars hD z1.1).2.2.2.2 z1.2.1 z2).2.1)) (h_q2 := (fun z1 z2 => (mj_ok a3 (dk_bars hD z1.1).2.2.2.2 z1.2.1 z2).2.2)), ?_⟩
      rintro r2 w2 (⟨g1, g2, rfl, rfl⟩ | ⟨g1, g2, rfl, rfl⟩ | ⟨g1, rfl, rfl⟩)
      · exact absurd g1 f1
      · exact absurd g1 f1
      · exact ⟨rfl, ⟨_, rfl⟩, inv_mk (fun z => absurd z (by decide)) hT hD hP hK hA⟩
  have qo := n01 e0 e1
  refine ⟨_, c_X10_joint (h_c0 := (dk_c0 hD)) (h_q1 := (fun z1 z2 z3 z4 => (jt_ok a3 (dk_okB hD (dkl hD z1.1)) z1.2.1 z3 t20_10.1 t20_10.2).2.1)) (h_q2 := (fun z1 z2 z3 z4 => (jt_ok a3 (dk_okB hD (dkl hD z1.1)) z1.2.1 z3 t20_10.1 t20_10.2).2.2)) (h_q3 := (fun z1 z2 z3 z4 => (jt_ok a3 (dk_okB hD (dkl hD z1.1)) z1.2.1 z3 t20_10.1 t20_10.2).1)) (h_q4 := (fun z1 z2 z3 z4 => (jt_ok a3 (dk_okB hD (dkl hD z1.1)) z1.2.1 z3 t20_10.1 t20_10.2).2.2)), ?_⟩
  rintro r w' (⟨f1, f2, f3, f4, rfl, rfl⟩ | ⟨f1, f2, f3, f4, rfl, rfl⟩ | ⟨f1, f2, f3, rfl, rfl⟩ | ⟨f1, f2, rfl, rfl⟩ | ⟨f1, rfl, rfl⟩)
  · rw [hD.1.1] at f1
    obtain ⟨b1, b2, b3, b4, b5⟩ := dk_bars hD f1.1
    refine ⟨rfl, rfl, ⟨_, rfl⟩, _, c_X11_joint_o (h_l := (dk_m0 hD)) (h_o := qo.1), ?_⟩
    rintro r2 w2 (⟨g1, rfl, rfl⟩ | ⟨g1, rfl, rfl⟩)
    · exact absurd f2 qo.2
    · exact absurd f2 qo.2
  · rw [hD.1.1] at f1
    obtain ⟨b1, b2, b3, b4, b5⟩ := dk_bars hD f1.1
    refine ⟨rfl, rfl, ⟨_, rfl⟩, _, c_X11_joint_o (h_l := (dk_m0 hD)) (h_o := qo.1), ?_⟩
    rintro r2 w2 (⟨g1, rfl, rfl⟩ | ⟨g1, rfl, rfl⟩)
    · exact absurd f2 qo.2
    · exact absurd f2 qo.2
  · rw [hD.1.1] at f1
    obtain ⟨b1, b2, b3, b4, b5⟩ := dk_bars hD f1.1
    refine ⟨rfl, rfl, ⟨_, rfl⟩, _, c_X11_joint_o (h_l := (dk_m0 hD)) (h_o := qo.1), ?_⟩
    rintro r2 w2 (⟨g1, rfl, rfl⟩ | ⟨g1, rfl, rfl⟩)
    · exact absurd f2 qo.2
    · exact absurd f2 qo.2
  · rw [hD.1.1] at f1
    obtain ⟨b1, b2, b3, b4, b5⟩ := dk_bars hD f1.1
    refine ⟨rfl, rfl, ⟨_, rfl⟩, _, c_X11_joint_o (h_l := (dk_m0 hD)) (h_o := qo.1), ?_⟩
    rintro r2 w2 (⟨g1, rfl, rfl⟩ | ⟨g1, rfl, rfl⟩)
    · exact ⟨rfl, ⟨_, rfl⟩, inv_mk (fun z => absurd z (by decide)) hT hD hP hK hA⟩
    · exact absurd f1 g1
  · rw [hD.1.1] at f1
    refine ⟨rfl, rfl, ⟨_, rfl⟩, _, c_X11_joint_o (h_l := (dk_m0 hD)) (h_o := qo.1), ?_⟩
    rintro r2 w2 (⟨g1, rfl, rfl⟩ | ⟨g1, rfl, rfl⟩)
    · exact absurd g1 f1
    · exact ⟨rfl, ⟨_, rfl⟩, inv_mk (fun z => absurd z (by decide)) hT hD hP hK hA⟩
set_option maxRecDepth 100000 in
theorem pr_traced {w : ax_W} (hI : INV w) (a1 a2 a3 a4 a5 : Int32) : PrI M_X10_traced M_X11_traced [.int a1, .int a2, .int a3, .int a4, .int a5] w := by
  refine hI (fun w => PrI M_X10_traced M_X11_traced [.int a1, .int a2, .int a3, .int a4, .int a5] w) ?_
  intro tr fl pl wl wd f1_3 f1_4 f10_0 f10_1 f10_2 f10_3 f12_5 f12_6 f12_7 f12_8 f12_9 f18_7 f18_8 f18_9 f18_10 f25_3 m_thrown m_where m_readLinks m_readTracers m_readPoints m_readPairs m_textLong m_at m_spot m_token m_whole m_readFault m_readPlace m_value m_curveMany m_cornerMany m_straightAt m_lined f11_0 f11_1 f11_2 f11_3 f11_4 f11_5 f11_6 f11_7 f11_8 f11_9 f11_10 f11_11 f11_12 f11_13 f11_14 f11_15 f18_11 f18_12 m_n m_c m_d m_s m_e m_k m_x m_y m_g m_a m_fitUp m_fitDown m_worstUp m_worstDown r2 r3 r5 r6 r8 r9 r13 r14 r15 r26 r27 r28 r30 r31 r32 q3 q4 q5 q6 q7 q8 q9 q10 q11 q12 q13 q14 q15 q16 q18 q19 q20 r19 r20 r21 r22 r23 r24 q17 L nl nt np nr wa wb f n so ch hW hT hD hP hK hA
  by_cases e0 : a5 = 0
  · subst e0
    refine ⟨_, c_X10_traced (h_c0 := (dk_c0 hD)) (h_c1 := (dk_c1 hD)) (h_q2 := (fun z1 z2 z3 z4 z5 => (jt_ok a4 (dk_okB hD (dkl hD z1.1)) z2 z4 (dk_t20 hD (dkt hD z1.2.1)).1 (dk_t20 hD (dkt hD z1.2.1)).2).2.1)) (h_q3 := (fun z1 z2 z3 z4 z5 => (jt_ok a4 (dk_okB hD (dkl hD z1.1)) z2 z4 (dk_t20 hD (dkt hD z1.2.1)).1 (dk_t20 hD (dkt hD z1.2.1)).2).2.2)) (h_q4 := (fun z1 z2 z3 z4 z5 => (jt_ok a4 (dk_okB hD (dkl hD z1.1)) z2 z4 (dk_t20 hD (dkt hD z1.2.1)).1 (dk_t20 hD (dkt hD z1.2.1)).2).1)) (h_q5 := (fun z1 z2 z3 z4 z5 => (jt_ok a4 (dk_okB hD (dkl hD z1.1)) z2 z4 (dk_t20 hD (dkt hD z1.2.1)).1 (dk_t20 hD (dkt hD z1.2.1)).2).2.2)), ?_⟩
    rintro r w' (⟨f1, f2, f3, f4, f5, rfl, rfl⟩ | ⟨f1, f2, f3, f4, f5, rfl, rfl⟩ | ⟨f1, f2, f3, f4, rfl, rfl⟩ | ⟨f1, f2, f3, rfl, rfl⟩ | ⟨f1, f2, rfl, rfl⟩ | ⟨f1, rfl, rfl⟩)
    · rw [hD.1.1] at f1
      rw [hD.1.2.1] at f1
      obtain ⟨b1, b2, b3, b4, b5⟩ := dk_bars hD f1.1
      refine ⟨rfl, rfl, ⟨_, rfl⟩, _, c_X11_traced_0 (h_l := (dk_m0 hD)) (h_t := (dk_m1 hD)) (h_q2 := (fun z1 z2 z3 => (mt_ok hD a4 z1.1 z1.2.1 z2 z3).1)) (h_q3 := (fun z1 z2 z3 => (mt_ok hD a4 z1.1 z1.2.1 z2 z3).2.2)), ?_⟩
      rintro r2 w2 (⟨g1, g2, g3, rfl, rfl⟩ | ⟨g1, g2, g3, rfl, rfl⟩ | ⟨g1, g2, rfl, rfl⟩ | ⟨g1, rfl, rfl⟩)
      · exact absurd f5 (by decide)
      · exact absurd f5 (by decide)
      · exact absurd f5 (by decide)
      · exact absurd f5 (by decide)
    · rw [hD.1.1] at f1
      rw [hD.1.2.1] at f1
      obtain ⟨b1, b2, b3, b4, b5⟩ := dk_bars hD f1.1
      refine ⟨rfl, rfl, ⟨_, rfl⟩, _, c_X11_traced_0 (h_l := (dk_m0 hD)) (h_t := (dk_m1 hD)) (h_q2 := (fun z1 z2 z3 => (mt_ok hD a4 z1.1 z1.2.1 z2 z3).1)) (h_q3 := (fun z1 z2 z3 => (mt_ok hD a4 z1.1 z1.2.1 z2 z3).2.2)), ?_⟩
      rintro r2 w2 (⟨g1, g2, g3, rfl, rfl⟩ | ⟨g1, g2, g3, rfl, rfl⟩ | ⟨g1, g2, rfl, rfl⟩ | ⟨g1, rfl, rfl⟩)
      · rw [law_e hD f1.1 f2] at g3
        exact ⟨by rw [(trac_e hD a4 f1.1 f1.2.1 f2 f4).1]; rfl, ⟨_, rfl⟩, inv_mk (fun z => absurd z (by decide)) hT hD hP hK hA⟩
      · rw [law_e hD f1.1 f2] at g3
        exact absurd f4 g3
      · exact absurd f2 g2
      · exact absurd f1 g1
    · rw [hD.1.1] at f1
      rw [hD.1.2.1] at f1
      obtain ⟨b1, b2, b3, b4, b5⟩ := dk_bars hD f1.1
      refine ⟨rfl, rfl, ⟨_, rfl⟩, _, c_X11_traced_0 (h_l := (dk_m0 hD)) (h_t := (dk_m1 hD)) (h_q2 := (fun z1 z2 z3 => (mt_ok hD a4 z1.1 z1.2.1 z2 z3).1)) (h_q3 := (fun z1 z2 z3 => (mt_ok hD a4 z1.1 z1.2.1 z2 z3).2.2)), ?_⟩
      rintro r2 w2 (⟨g1, g2, g3, rfl, rfl⟩ | ⟨g1, g2, g3, rfl, rfl⟩ | ⟨g1, g2, rfl, rfl⟩ | ⟨g1, rfl, rfl⟩)
      · rw [law_e hD f1.1 f2] at g3
        exact absurd g3 f4
      · rw [law_e hD f1.1 f2] at g3
        exact ⟨rfl, ⟨_, rfl⟩, inv_mk (fun z => absurd z (by decide)) hT hD hP hK hA⟩
      · exact absurd f2 g2
      · exact absurd f1 g1
    · rw [hD.1.1] at f1
      rw [hD.1.2.1] at f1
      obtain ⟨b1, b2, b3, b4, b5⟩ := dk_bars hD f1.1
      refine ⟨rfl, rfl, ⟨_, rfl⟩, _, c_X11_traced_0 (h_l := (dk_m0 hD)) (h_t := (dk_m1 hD)) (h_q2 := (fun z1 z2 z3 => (mt_ok hD a4 z1.1 z1.2.1 z2 z3).1)) (h_q3 := (fun z1 z2 z3 => (mt_ok hD a4 z1.1 z1.2.1 z2 z3).2.2)), ?_⟩
      rintro r2 w2 (⟨g1, g2, g3, rfl, rfl⟩ | ⟨g1, g2, g3, rfl, rfl⟩ | ⟨g1, g2, rfl, rfl⟩ | ⟨g1, rfl, rfl⟩)
      · exact absurd f3 (by decide)
      · exact absurd f3 (by decide)
      · exact absurd f3 (by decide)
      · exact absurd f3 (by decide)
    · rw [hD.1.1] at f1
      rw [hD.1.2.1] at f1
      obtain ⟨b1, b2, b3, b4, b5⟩ := dk_bars hD f1.1
      refine ⟨rfl, rfl, ⟨_, rfl⟩, _, c_X11_traced_0 (h_l := (dk_m0 hD)) (h_t := (dk_m1 hD)) (h_q2 := (fun z1 z2 z3 => (mt_ok hD a4 z1.1 z1.2.1 z2 z3).1)) (h_q3 := (fun z1 z2 z3 => (mt_ok hD a4 z1.1 z1.2.1 z2 z3).2.2)), ?_⟩
      rintro r2 w2 (⟨g1, g2, g3, rfl, rfl⟩ | ⟨g1, g2, g3, rfl, rfl⟩ | ⟨g1, g2, rfl, rfl⟩ | ⟨g1, rfl, rfl⟩)
      · exact absurd g2 f2
      · exact absurd g2 f2
      · exact ⟨rfl, ⟨_, rfl⟩, inv_mk (fun z => absurd z (by decide)) hT hD hP hK hA⟩
      · exact absurd f1 g1
    · rw [hD.1.1] at f1
      rw [hD.1.2.1] at f1
      refine ⟨rfl, rfl, ⟨_, rfl⟩, _, c_X11_traced_0 (h_l := (dk_m0 hD)) (h_t := (dk_m1 hD)) (h_q2 := (fun z1 z2 z3 => (mt_ok hD a4 z1.1 z1.2.1 z2 z3).1)) (h_q3 := (fun z1 z2 z3 => (mt_ok hD a4 z1.1 z1.2.1 z2 z3).2.2)), ?_⟩
      rintro r2 w2 (⟨g1, g2, g3, rfl, rfl⟩ | ⟨g1, g2, g3, rfl, rfl⟩ | ⟨g1, g2, rfl, rfl⟩ | ⟨g1, rfl, rfl⟩)
      · exact absurd g1 f1
      · exact absurd g1 f1
      · exact absurd g1 f1
      · exact ⟨rfl, ⟨_, rfl⟩, inv_mk (fun z => absurd z (by decide)) hT hD hP hK hA⟩
  by_cases e1 : a5 = 1
  · subst e1
    refine ⟨_, c_X10_traced (h_c0 := (dk_c0 hD)) (h_c1 := (dk_c1 hD)) (h_q2 := (fun z1 z2 z3 z4 z5 => (jt_ok a4 (dk_okB hD (dkl hD z1.1)) z2 z4 (dk_t20 hD (dkt hD z1.2.1)).1 (dk_t20 hD (dkt hD z1.2.1)).2).2.1)) (h_q3 := (fun z1 z2 z3 z4 z5 => (jt_ok a4 (dk_okB hD (dkl hD z1.1)) z2 z4 (dk_t20 hD (dkt hD z1.2.1)).1 (dk_t20 hD (dkt hD z1.2.1)).2).2.2)) (h_q4 := (fun z1 z2 z3 z4 z5 => (jt_ok a4 (dk_okB hD (dkl hD z1.1)) z2 z4 (dk_t20 hD (dkt hD z1.2.1)).1 (dk_t20 hD (dkt hD z1.2.1)).2).1)) (h_q5 := (fun z1 z2 z3 z4 z5 => (jt_ok a4 (dk_okB hD (dkl hD z1.1)) z2 z4 (dk_t20 hD (dkt hD z1.2.1)).1 (dk_t20 hD (dkt hD z1.2.1)).2).2.2)), ?_⟩
    rintro r w' (⟨f1, f2, f3, f4, f5, rfl, rfl⟩ | ⟨f1, f2, f3, f4, f5, rfl, rfl⟩ | ⟨f1, f2, f3, f4, rfl, rfl⟩ | ⟨f1, f2, f3, rfl, rfl⟩ | ⟨f1, f2, rfl, rfl⟩ | ⟨f1, rfl, rfl⟩)
    · rw [hD.1.1] at f1
      rw [hD.1.2.1] at f1
      obtain ⟨b1, b2, b3, b4, b5⟩ := dk_bars hD f1.1
      refine ⟨rfl, rfl, ⟨_, rfl⟩, _, c_X11_traced_1 (h_l := (dk_m0 hD)) (h_t := (dk_m1 hD)) (h_q2 := (fun z1 z2 z3 => (mt_ok hD a4 z1.1 z1.2.1 z2 z3).2.1)) (h_q3 := (fun z1 z2 z3 => (mt_ok hD a4 z1.1 z1.2.1 z2 z3).2.2)), ?_⟩
      rintro r2 w2 (⟨g1, g2, g3, rfl, rfl⟩ | ⟨g1, g2, g3, rfl, rfl⟩ | ⟨g1, g2, rfl, rfl⟩ | ⟨g1, rfl, rfl⟩)
      · rw [law_e hD f1.1 f2] at g3
        exact ⟨by rw [(trac_e hD a4 f1.1 f1.2.1 f2 f4).2]; rfl, ⟨_, rfl⟩, inv_mk (fun z => absurd z (by decide)) hT hD hP hK hA⟩
      · rw [law_e hD f1.1 f2] at g3
        exact absurd f4 g3
      · exact absurd f2 g2
      · exact absurd f1 g1
    · rw [hD.1.1] at f1
      rw [hD.1.2.1] at f1
      obtain ⟨b1, b2, b3, b4, b5⟩ := dk_bars hD f1.1
      refine ⟨rfl, rfl, ⟨_, rfl⟩, _, c_X11_traced_1 (h_l := (dk_m0 hD)) (h_t := (dk_m1 hD)) (h_q2 := (fun z1 z2 z3 => (mt_ok hD a4 z1.1 z1.2.1 z2 z3).2.1)) (h_q3 := (fun z1 z2 z3 => (mt_ok hD a4 z1.1 z1.2.1 z2 z3).2.2)), ?_⟩
      rintro r2 w2 (⟨g1, g2, g3, rfl, rfl⟩ | ⟨g1, g2, g3, rfl, rfl⟩ | ⟨g1, g2, rfl, rfl⟩ | ⟨g1, rfl, rfl⟩)
      · exact absurd f5 (by decide)
      · exact absurd f5 (by decide)
      · exact absurd f5 (by decide)
      · exact absurd f5 (by decide)
    · rw [hD.1.1] at f1
      rw [hD.1.2.1] at f1
      obtain ⟨b1, b2, b3, b4, b5⟩ := dk_bars hD f1.1
      refine ⟨rfl, rfl, ⟨_, rfl⟩, _, c_X11_traced_1 (h_l := (dk_m0 hD)) (h_t := (dk_m1 hD)) (h_q2 := (fun z1 z2 z3 => (mt_ok hD a4 z1.1 z1.2.1 z2 z3).2.1)) (h_q3 := (fun z1 z2 z3 => (mt_ok hD a4 z1.1 z1.2.1 z2 z3).2.2)), ?_⟩
      rintro r2 w2 (⟨g1, g2, g3, rfl, rfl⟩ | ⟨g1, g2, g3, rfl, rfl⟩ | ⟨g1, g2, rfl, rfl⟩ | ⟨g1, rfl, rfl⟩)
      · rw [law_e hD f1.1 f2] at g3
        exact absurd g3 f4
      · rw [law_e hD f1.1 f2] at g3
        exact ⟨rfl, ⟨_, rfl⟩, inv_mk (fun z => absurd z (by decide)) hT hD hP hK hA⟩
      · exact absurd f2 g2
      · exact absurd f1 g1
    · rw [hD.1.1] at f1
      rw [hD.1.2.1] at f1
      obtain ⟨b1, b2, b3, b4, b5⟩ := dk_bars hD f1.1
      refine ⟨rfl, rfl, ⟨_, rfl⟩, _, c_X11_traced_1 (h_l := (dk_m0 hD)) (h_t := (dk_m1 hD)) (h_q2 := (fun z1 z2 z3 => (mt_ok hD a4 z1.1 z1.2.1 z2 z3).2.1)) (h_q3 := (fun z1 z2 z3 => (mt_ok hD a4 z1.1 z1.2.1 z2 z3).2.2)), ?_⟩
      rintro r2 w2 (⟨g1, g2, g3, rfl, rfl⟩ | ⟨g1, g2, g3, rfl, rfl⟩ | ⟨g1, g2, rfl, rfl⟩ | ⟨g1, rfl, rfl⟩)
      · exact absurd f3 (by decide)
      · exact absurd f3 (by decide)
      · exact absurd f3 (by decide)
      · exact absurd f3 (by decide)
    · rw [hD.1.1] at f1
      rw [hD.1.2.1] at f1
      obtain ⟨b1, b2, b3, b4, b5⟩ := dk_bars hD f1.1
      refine ⟨rfl, rfl, ⟨_, rfl⟩, _, c_X11_traced_1 (h_l := (dk_m0 hD)) (h_t := (dk_m1 hD)) (h_q2 := (fun z1 z2 z3 => (mt_ok hD a4 z1.1 z1.2.1 z2 z3).2.1)) (h_q3 := (fun z1 z2 z3 => (mt_ok hD a4 z1.1 z1.2.1 z2 z3).2.2)), ?_⟩
      rintro r2 w2 (⟨g1, g2, g3, rfl, rfl⟩ | ⟨g1, g2, g3, rfl, rfl⟩ | ⟨g1, g2, rfl, rfl⟩ | ⟨g1, rfl, rfl⟩)
      · exact absurd g2 f2
      · exact absurd g2 f2
      · exact ⟨rfl, ⟨_, rfl⟩, inv_mk (fun z => absurd z (by decide)) hT hD hP hK hA⟩
      · exact absurd f1 g1
    · rw [hD.1.1] at f1
      rw [hD.1.2.1] at f1
      refine ⟨rfl, rfl, ⟨_, rfl⟩, _, c_X11_traced_1 (h_l := (dk_m0 hD)) (h_t := (dk_m1 hD)) (h_q2 := (fun z1 z2 z3 => (mt_ok hD a4 z1.1 z1.2.1 z2 z3).2.1)) (h_q3 := (fun z1 z2 z3 => (mt_ok hD a4 z1.1 z1.2.1 z2 z3).2.2)), ?_⟩
      rintro r2 w2 (⟨g1, g2, g3, rfl, rfl⟩ | ⟨g1, g2, g3, rfl, rfl⟩ | ⟨g1, g2, rfl, rfl⟩ | ⟨g1, rfl, rfl⟩)
      · exact absurd g1 f1
      · exact absurd g1 f1
      · exact absurd g1 f1
      · exact ⟨rfl, ⟨_, rfl⟩, inv_mk (fun z => absurd z (by decide)) hT hD hP hK hA⟩
  have qo := n01 e0 e1
  refine ⟨_, c_X10_traced (h_c0 := (dk_c0 hD)) (h_c1 := (dk_c1 hD)) (h_q2 := (fun z1 z2 z3 z4 z5 => (jt_ok a4 (dk_okB hD (dkl hD z1.1)) z2 z4 (dk_t20 hD (dkt hD z1.2.1)).1 (dk_t20 hD (dkt hD z1.2.1)).2).2.1)) (h_q3 := (fun z1 z2 z3 z4 z5 => (jt_ok a4 (dk_okB hD (dkl hD z1.1)) z2 z4 (dk_t20 hD (dkt hD z1.2.1)).1 (dk_t20 hD (dkt hD z1.2.1)).2).2.2)) (h_q4 := (fun z1 z2 z3 z4 z5 => (jt_ok a4 (dk_okB hD (dkl hD z1.1)) z2 z4 (dk_t20 hD (dkt hD z1.2.1)).1 (dk_t20 hD (dkt hD z1.2.1)).2).1)) (h_q5 := (fun z1 z2 z3 z4 z5 => (jt_ok a4 (dk_okB hD (dkl hD z1.1)) z2 z4 (dk_t20 hD (dkt hD z1.2.1)).1 (dk_t20 hD (dkt hD z1.2.1)).2).2.2)), ?_⟩
  rintro r w' (⟨f1, f2, f3, f4, f5, rfl, rfl⟩ | ⟨f1, f2, f3, f4, f5, rfl, rfl⟩ | ⟨f1, f2, f3, f4, rfl, rfl⟩ | ⟨f1, f2, f3, rfl, rfl⟩ | ⟨f1, f2, rfl, rfl⟩ | ⟨f1, rfl, rfl⟩)
  · rw [hD.1.1] at f1
    rw [hD.1.2.1] at f1
    obtain ⟨b1, b2, b3, b4, b5⟩ := dk_bars hD f1.1
    refine ⟨rfl, rfl, ⟨_, rfl⟩, _, c_X11_traced_o (h_l := (dk_m0 hD)) (h_t := (dk_m1 hD)) (h_o := qo.1), ?_⟩
    rintro r2 w2 (⟨g1, g2, rfl, rfl⟩ | ⟨g1, g2, rfl, rfl⟩ | ⟨g1, rfl, rfl⟩)
    · exact absurd f3 qo.2
    · exact absurd f3 qo.2
    · exact absurd f3 qo.2
  · rw [hD.1.1] at f1
    rw [hD.1.2.1] at f1
    obtain ⟨b1, b2, b3, b4, b5⟩ := dk_bars hD f1.1
    refine ⟨rfl, rfl, ⟨_, rfl⟩, _, c_X11_traced_o (h_l := (dk_m0 hD)) (h_t := (dk_m1 hD)) (h_o := qo.1), ?_⟩
    rintro r2 w2 (⟨g1, g2, rfl, rfl⟩ | ⟨g1, g2, rfl, rfl⟩ | ⟨g1, rfl, rfl⟩)
    · exact absurd f3 qo.2
    · exact absurd f3 qo.2
    · exact absurd f3 qo.2
  · rw [hD.1.1] at f1
    rw [hD.1.2.1] at f1
    obtain ⟨b1, b2, b3, b4, b5⟩ := dk_bars hD f1.1
    refine ⟨rfl, rfl, ⟨_, rfl⟩, _, c_X11_traced_o (h_l := (dk_m0 hD)) (h_t := (dk_m1 hD)) (h_o := qo.1), ?_⟩
    rintro r2 w2 (⟨g1, g2, rfl, rfl⟩ | ⟨g1, g2, rfl, rfl⟩ | ⟨g1, rfl, rfl⟩)
    · exact absurd f3 qo.2
    · exact absurd f3 qo.2
    · exact absurd f3 qo.2
  · rw [hD.1.1] at f1
    rw [hD.1.2.1] at f1
    obtain ⟨b1, b2, b3, b4, b5⟩ := dk_bars hD f1.1
    refine ⟨rfl, rfl, ⟨_, rfl⟩, _, c_X11_traced_o (h_l := (dk_m0 hD)) (h_t := (dk_m1 hD)) (h_o := qo.1), ?_⟩
    rintro r2 w2 (⟨g1, g2, rfl, rfl⟩ | ⟨g1, g2, rfl, rfl⟩ | ⟨g1, rfl, rfl⟩)
    · exact ⟨rfl, ⟨_, rfl⟩, inv_mk (fun z => absurd z (by decide)) hT hD hP hK hA⟩
    · exact absurd f2 g2
    · exact absurd f1 g1
  · rw [hD.1.1] at f1
    rw [hD.1.2.1] at f1
    obtain ⟨b1, b2, b3, b4, b5⟩ := dk_bars hD f1.1
    refine ⟨rfl, rfl, ⟨_, rfl⟩, _, c_X11_traced_o (h_l := (dk_m0 hD)) (h_t := (dk_m1 hD)) (h_o := qo.1), ?_⟩
    rintro r2 w2 (⟨g1, g2, rfl, rfl⟩ | ⟨g1, g2, rfl, rfl⟩ | ⟨g1, rfl, rfl⟩)
    · exact absurd g2 f2
    · exact ⟨rfl, ⟨_, rfl⟩, inv_mk (fun z => absurd z (by decide)) hT hD hP hK hA⟩
    · exact absurd f1 g1
  · rw [hD.1.1] at f1
    rw [hD.1.2.1] at f1
    refine ⟨rfl, rfl, ⟨_, rfl⟩, _, c_X11_traced_o (h_l := (dk_m0 hD)) (h_t := (dk_m1 hD)) (h_o := qo.1), ?_⟩
    rintro r2 w2 (⟨g1, g2, rfl, rfl⟩ | ⟨g1, g2, rfl, rfl⟩ | ⟨g1, rfl, rfl⟩)
    · exact absurd g1 f1
    · exact absurd g1 f1
    · exact ⟨rfl, ⟨_, rfl⟩, inv_mk (fun z => absurd z (by decide)) hT hD hP hK hA⟩
set_option maxRecDepth 100000 in
theorem pr_exact {w : ax_W} (hI : INV w) (a1 a2 a3 a4 : Int32) : PrL M_X10_exact M_X11_exact [.int a1, .int a2, .int a3, .int a4] w := by
  refine hI (fun w => PrL M_X10_exact M_X11_exact [.int a1, .int a2, .int a3, .int a4] w) ?_
  intro tr fl pl wl wd f1_3 f1_4 f10_0 f10_1 f10_2 f10_3 f12_5 f12_6 f12_7 f12_8 f12_9 f18_7 f18_8 f18_9 f18_10 f25_3 m_thrown m_where m_readLinks m_readTracers m_readPoints m_readPairs m_textLong m_at m_spot m_token m_whole m_readFault m_readPlace m_value m_curveMany m_cornerMany m_straightAt m_lined f11_0 f11_1 f11_2 f11_3 f11_4 f11_5 f11_6 f11_7 f11_8 f11_9 f11_10 f11_11 f11_12 f11_13 f11_14 f11_15 f18_11 f18_12 m_n m_c m_d m_s m_e m_k m_x m_y m_g m_a m_fitUp m_fitDown m_worstUp m_worstDown r2 r3 r5 r6 r8 r9 r13 r14 r15 r26 r27 r28 r30 r31 r32 q3 q4 q5 q6 q7 q8 q9 q10 q11 q12 q13 q14 q15 q16 q18 q19 q20 r19 r20 r21 r22 r23 r24 q17 L nl nt np nr wa wb f n so ch hW hT hD hP hK hA
  by_cases e0 : a4 = 0
  · subst e0
    refine ⟨_, c_X10_exact (h_c0 := (dk_c0 hD)) (h_q1 := (fun z1 z2 z3 z4 => (ex_ne a3 (dk_okB hD (dkl hD z1.1)) z1.2.1).2.1)) (h_q2 := (fun z1 z2 z3 z4 => (ex_ne a3 (dk_okB hD (dkl hD z1.1)) z1.2.1).2.2.2.1)) (h_q3 := (fun z1 z2 z3 z4 => (ex_ne a3 (dk_okB hD (dkl hD z1.1)) z1.2.1).2.2.2.2)) (h_q4 := (fun z1 z2 z3 z4 => (ex_ne a3 (dk_okB hD (dkl hD z1.1)) z1.2.1).1)) (h_q5 := (fun z1 z2 z3 z4 => (ex_ne a3 (dk_okB hD (dkl hD z1.1)) z1.2.1).2.2.1)) (h_q6 := (fun z1 z2 z3 z4 => (ex_ne a3 (dk_okB hD (dkl hD z1.1)) z1.2.1).2.2.2.2)), ?_⟩
    rintro r w' (⟨f1, f2, f3, f4, rfl, rfl⟩ | ⟨f1, f2, f3, f4, rfl, rfl⟩ | ⟨f1, f2, f3, rfl, rfl⟩ | ⟨f1, f2, rfl, rfl⟩ | ⟨f1, rfl, rfl⟩)
    · rw [hD.1.1] at f1
      obtain ⟨b1, b2, b3, b4, b5⟩ := dk_bars hD f1.1
      refine ⟨rfl, rfl, ⟨_, rfl⟩, _, c_X11_exact_0 (h_l := (dk_m0 hD)) (h_q1 := (fun z1 z2 => (mex hD a3 z1.1 z1.2.1).1)) (h_q2 := (fun z1 z2 => (mex hD a3 z1.1 z1.2.1).2.2.1)) (h_q3 := (fun z1 z2 => g2_ne (mex hD a3 z1.1 z1.2.1).1 (mex hD a3 z1.1 z1.2.1).2.2.1)) (h_q4 := (fun z1 z2 => (mex hD a3 z1.1 z1.2.1).2.2.2.2)) (h_q5 := (fun z1 z2 => g3_ne (mex hD a3 z1.1 z1.2.1).1 (mex hD a3 z1.1 z1.2.1).2.2.1 (mex hD a3 z1.1 z1.2.1).2.2.2.2 (posw_ne (mj_ok a3 (dk_bars hD z1.1).2.2.2.2 z1.2.1 z2).2.2))), ?_⟩
      rintro r2 w2 (⟨g1, g2, rfl, rfl⟩ | ⟨g1, g2, rfl, rfl⟩ | ⟨g1, rfl, rfl⟩)
      · exact absurd f4 (by decide)
      · exact absurd f4 (by decide)
      · exact absurd f4 (by decide)
    · rw [hD.1.1] at f1
      obtain ⟨b1, b2, b3, b4, b5⟩ := dk_bars hD f1.1
      refine ⟨rfl, rfl, ⟨_, rfl⟩, _, c_X11_exact_0 (h_l := (dk_m0 hD)) (h_q1 := (fun z1 z2 => (mex hD a3 z1.1 z1.2.1).1)) (h_q2 := (fun z1 z2 => (mex hD a3 z1.1 z1.2.1).2.2.1)) (h_q3 := (fun z1 z2 => g2_ne (mex hD a3 z1.1 z1.2.1).1 (mex hD a3 z1.1 z1.2.1).2.2.1)) (h_q4 := (fun z1 z2 => (mex hD a3 z1.1 z1.2.1).2.2.2.2)) (h_q5 := (fun z1 z2 => g3_ne (mex hD a3 z1.1 z1.2.1).1 (mex hD a3 z1.1 z1.2.1).2.2.1 (mex hD a3 z1.1 z1.2.1).2.2.2.2 (posw_ne (mj_ok a3 (dk_bars hD z1.1).2.2.2.2 z1.2.1 z2).2.2))), ?_⟩
      rintro r2 w2 (⟨g1, g2, rfl, rfl⟩ | ⟨g1, g2, rfl, rfl⟩ | ⟨g1, rfl, rfl⟩)
      · rw [law_e hD f1.1 f1.2.1] at g2
        have ee := ex_e hD a3 f1.1 f1.2.1
        have nn := ex_ne a3 (dk_okB hD f1.1) f1.2.1
        have gg := g3_ne nn.1 nn.2.2.1 nn.2.2.2.2 (posw_ne (jt_ok a3 (dk_okB hD f1.1) f1.2.1 f3 t20_10.1 t20_10.2).2.2)
        exact ⟨by rw [rd3_0 gg, ee.1, ee.2.2.1, ee.2.2.2.2], ⟨_, rfl⟩, inv_mk (fun z => absurd z (by decide)) hT hD hP hK hA⟩
      · rw [law_e hD f1.1 f1.2.1] at g2
        exact absurd f3 g2
      · exact absurd f1 g1
    · rw [hD.1.1] at f1
      obtain ⟨b1, b2, b3, b4, b5⟩ := dk_bars hD f1.1
      refine ⟨rfl, rfl, ⟨_, rfl⟩, _, c_X11_exact_0 (h_l := (dk_m0 hD)) (h_q1 := (fun z1 z2 => (mex hD a3 z1.1 z1.2.1).1)) (h_q2 := (fun z1 z2 => (mex hD a3 z1.1 z1.2.1).2.2.1)) (h_q3 := (fun z1 z2 => g2_ne (mex hD a3 z1.1 z1.2.1).1 (mex hD a3 z1.1 z1.2.1).2.2.1)) (h_q4 := (fun z1 z2 => (mex hD a3 z1.1 z1.2.1).2.2.2.2)) (h_q5 := (fun z1 z2 => g3_ne (mex hD a3 z1.1 z1.2.1).1 (mex hD a3 z1.1 z1.2.1).2.2.1 (mex hD a3 z1.1 z1.2.1).2.2.2.2 (posw_ne (mj_ok a3 (dk_bars hD z1.1).2.2.2.2 z1.2.1 z2).2.2))), ?_⟩
      rintro r2 w2 (⟨g1, g2, rfl, rfl⟩ | ⟨g1, g2, rfl, rfl⟩ | ⟨g1, rfl, rfl⟩)
      · rw [law_e hD f1.1 f1.2.1] at g2
        exact absurd g2 f3
      · rw [law_e hD f1.1 f1.2.1] at g2
        exact ⟨rfl, ⟨_, rfl⟩, inv_mk (fun z => absurd z (by decide)) hT hD hP hK hA⟩
      · exact absurd f1 g1
    · rw [hD.1.1] at f1
      obtain ⟨b1, b2, b3, b4, b5⟩ := dk_bars hD f1.1
      refine ⟨rfl, rfl, ⟨_, rfl⟩, _, c_X11_exact_0 (h_l := (dk_m0 hD)) (h_q1 := (fun z1 z2 => (mex hD a3 z1.1 z1.2.1).1)) (h_q2 := (fun z1 z2 => (mex hD a3 z1.1 z1.2.1).2.2.1)) (h_q3 := (fun z1 z2 => g2_ne (mex hD a3 z1.1 z1.2.1).1 (mex hD a3 z1.1 z1.2.1).2.2.1)) (h_q4 := (fun z1 z2 => (mex hD a3 z1.1 z1.2.1).2.2.2.2)) (h_q5 := (fun z1 z2 => g3_ne (mex hD a3 z1.1 z1.2.1).1 (mex hD a3 z1.1 z1.2.1).2.2.1 (mex hD a3 z1.1 z1.2.1).2.2.2.2 (posw_ne (mj_ok a3 (dk_bars hD z1.1).2.2.2.2 z1.2.1 z2).2.2))), ?_⟩
      rintro r2 w2 (⟨g1, g2, rfl, rfl⟩ | ⟨g1, g2, rfl, rfl⟩ | ⟨g1, rfl, rfl⟩)
      · exact absurd f2 (by decide)
      · exact absurd f2 (by decide)
      · exact absurd f2 (by decide)
    · rw [hD.1.1] at f1
      refine ⟨rfl, rfl, ⟨_, rfl⟩, _, c_X11_exact_0 (h_l := (dk_m0 hD)) (h_q1 := (fun z1 z2 => (mex hD a3 z1.1 z1.2.1).1)) (h_q2 := (fun z1 z2 => (mex hD a3 z1.1 z1.2.1).2.2.1)) (h_q3 := (fun z1 z2 => g2_ne (mex hD a3 z1.1 z1.2.1).1 (mex hD a3 z1.1 z1.2.1).2.2.1)) (h_q4 := (fun z1 z2 => (mex hD a3 z1.1 z1.2.1).2.2.2.2)) (h_q5 := (fun z1 z2 => g3_ne (mex hD a3 z1.1 z1.2.1).1 (mex hD a3 z1.1 z1.2.1).2.2.1 (mex hD a3 z1.1 z1.2.1).2.2.2.2 (posw_ne (mj_ok a3 (dk_bars hD z1.1).2.2.2.2 z1.2.1 z2).2.2))), ?_⟩
      rintro r2 w2 (⟨g1, g2, rfl, rfl⟩ | ⟨g1, g2, rfl, rfl⟩ | ⟨g1, rfl, rfl⟩)
      · exact absurd g1 f1
      · exact absurd g1 f1
      · exact ⟨rfl, ⟨_, rfl⟩, inv_mk (fun z => absurd z (by decide)) hT hD hP hK hA⟩
  by_cases e1 : a4 = 1
  · subst e1
    refine ⟨_, c_X10_exact (h_c0 := (dk_c0 hD)) (h_q1 := (fun z1 z2 z3 z4 => (ex_ne a3 (dk_okB hD (dkl hD z1.1)) z1.2.1).2.1)) (h_q2 := (fun z1 z2 z3 z4 => (ex_ne a3 (dk_okB hD (dkl hD z1.1)) z1.2.1).2.2.2.1)) (h_q3 := (fun z1 z2 z3 z4 => (ex_ne a3 (dk_okB hD (dkl hD z1.1)) z1.2.1).2.2.2.2)) (h_q4 := (fun z1 z2 z3 z4 => (ex_ne a3 (dk_okB hD (dkl hD z1.1)) z1.2.1).1)) (h_q5 := (fun z1 z2 z3 z4 => (ex_ne a3 (dk_okB hD (dkl hD z1.1)) z1.2.1).2.2.1)) (h_q6 := (fun z1 z2 z3 z4 => (ex_ne a3 (dk_okB hD (dkl hD z1.1)) z1.2.1).2.2.2.2)), ?_⟩
    rintro r w' (⟨f1, f2, f3, f4, rfl, rfl⟩ | ⟨f1, f2, f3, f4, rfl, rfl⟩ | ⟨f1, f2, f3, rfl, rfl⟩ | ⟨f1, f2, rfl, rfl⟩ | ⟨f1, rfl, rfl⟩)
    · rw [hD.1.1] at f1
      obtain ⟨b1, b2, b3, b4, b5⟩ := dk_bars hD f1.1
      refine ⟨rfl, rfl, ⟨_, rfl⟩, _, c_X11_exact_1 (h_l := (dk_m0 hD)) (h_q1 := (fun z1 z2 => (mex hD a3 z1.1 z1.2.1).1)) (h_q2 := (fun z1 z2 => (mex hD a3 z1.1 z1.2.1).2.2.1)) (h_q3 := (fun z1 z2 => g2_ne (mex hD a3 z1.1 z1.2.1).1 (mex hD a3 z1.1 z1.2.1).2.2.1)) (h_q4 := (fun z1 z2 => (mex hD a3 z1.1 z1.2.1).2.2.2.2)) (h_q5 := (fun z1 z2 => g3_ne (mex hD a3 z1.1 z1.2.1).1 (mex hD a3 z1.1 z1.2.1).2.2.1 (mex hD a3 z1.1 z1.2.1).2.2.2.2 (posw_ne (mj_ok a3 (dk_bars hD z1.1).2.2.2.2 z1.2.1 z2).2.2))), ?_⟩
      rintro r2 w2 (⟨g1, g2, rfl, rfl⟩ | ⟨g1, g2, rfl, rfl⟩ | ⟨g1, rfl, rfl⟩)
      · exact absurd f4 (by decide)
      · exact absurd f4 (by decide)
      · exact absurd f4 (by decide)
    · rw [hD.1.1] at f1
      obtain ⟨b1, b2, b3, b4, b5⟩ := dk_bars hD f1.1
      refine ⟨rfl, rfl, ⟨_, rfl⟩, _, c_X11_exact_1 (h_l := (dk_m0 hD)) (h_q1 := (fun z1 z2 => (mex hD a3 z1.1 z1.2.1).1)) (h_q2 := (fun z1 z2 => (mex hD a3 z1.1 z1.2.1).2.2.1)) (h_q3 := (fun z1 z2 => g2_ne (mex hD a3 z1.1 z1.2.1).1 (mex hD a3 z1.1 z1.2.1).2.2.1)) (h_q4 := (fun z1 z2 => (mex hD a3 z1.1 z1.2.1).2.2.2.2)) (h_q5 := (fun z1 z2 => g3_ne (mex hD a3 z1.1 z1.2.1).1 (mex hD a3 z1.1 z1.2.1).2.2.1 (mex hD a3 z1.1 z1.2.1).2.2.2.2 (posw_ne (mj_ok a3 (dk_bars hD z1.1).2.2.2.2 z1.2.1 z2).2.2))), ?_⟩
      rintro r2 w2 (⟨g1, g2, rfl, rfl⟩ | ⟨g1, g2, rfl, rfl⟩ | ⟨g1, rfl, rfl⟩)
      · rw [law_e hD f1.1 f1.2.1] at g2
        have ee := ex_e hD a3 f1.1 f1.2.1
        have nn := ex_ne a3 (dk_okB hD f1.1) f1.2.1
        have gg := g3_ne nn.1 nn.2.2.1 nn.2.2.2.2 (posw_ne (jt_ok a3 (dk_okB hD f1.1) f1.2.1 f3 t20_10.1 t20_10.2).2.2)
        exact ⟨by rw [rd3_1 gg, ee.1, ee.2.2.1, ee.2.2.2.2], ⟨_, rfl⟩, inv_mk (fun z => absurd z (by decide)) hT hD hP hK hA⟩
      · rw [law_e hD f1.1 f1.2.1] at g2
        exact absurd f3 g2
      · exact absurd f1 g1
    · rw [hD.1.1] at f1
      obtain ⟨b1, b2, b3, b4, b5⟩ := dk_bars hD f1.1
      refine ⟨rfl, rfl, ⟨_, rfl⟩, _, c_X11_exact_1 (h_l := (dk_m0 hD)) (h_q1 := (fun z1 z2 => (mex hD a3 z1.1 z1.2.1).1)) (h_q2 := (fun z1 z2 => (mex hD a3 z1.1 z1.2.1).2.2.1)) (h_q3 := (fun z1 z2 => g2_ne (mex hD a3 z1.1 z1.2.1).1 (mex hD a3 z1.1 z1.2.1).2.2.1)) (h_q4 := (fun z1 z2 => (mex hD a3 z1.1 z1.2.1).2.2.2.2)) (h_q5 := (fun z1 z2 => g3_ne (mex hD a3 z1.1 z1.2.1).1 (mex hD a3 z1.1 z1.2.1).2.2.1 (mex hD a3 z1.1 z1.2.1).2.2.2.2 (posw_ne (mj_ok a3 (dk_bars hD z1.1).2.2.2.2 z1.2.1 z2).2.2))), ?_⟩
      rintro r2 w2 (⟨g1, g2, rfl, rfl⟩ | ⟨g1, g2, rfl, rfl⟩ | ⟨g1, rfl, rfl⟩)
      · rw [law_e hD f1.1 f1.2.1] at g2
        exact absurd g2 f3
      · rw [law_e hD f1.1 f1.2.1] at g2
        exact ⟨rfl, ⟨_, rfl⟩, inv_mk (fun z => absurd z (by decide)) hT hD hP hK hA⟩
      · exact absurd f1 g1
    · rw [hD.1.1] at f1
      obtain ⟨b1, b2, b3, b4, b5⟩ := dk_bars hD f1.1
      refine ⟨rfl, rfl, ⟨_, rfl⟩, _, c_X11_exact_1 (h_l := (dk_m0 hD)) (h_q1 := (fun z1 z2 => (mex hD a3 z1.1 z1.2.1).1)) (h_q2 := (fun z1 z2 => (mex hD a3 z1.1 z1.2.1).2.2.1)) (h_q3 := (fun z1 z2 => g2_ne (mex hD a3 z1.1 z1.2.1).1 (mex hD a3 z1.1 z1.2.1).2.2.1)) (h_q4 := (fun z1 z2 => (mex hD a3 z1.1 z1.2.1).2.2.2.2)) (h_q5 := (fun z1 z2 => g3_ne (mex hD a3 z1.1 z1.2.1).1 (mex hD a3 z1.1 z1.2.1).2.2.1 (mex hD a3 z1.1 z1.2.1).2.2.2.2 (posw_ne (mj_ok a3 (dk_bars hD z1.1).2.2.2.2 z1.2.1 z2).2.2))), ?_⟩
      rintro r2 w2 (⟨g1, g2, rfl, rfl⟩ | ⟨g1, g2, rfl, rfl⟩ | ⟨g1, rfl, rfl⟩)
      · exact absurd f2 (by decide)
      · exact absurd f2 (by decide)
      · exact absurd f2 (by decide)
    · rw [hD.1.1] at f1
      refine ⟨rfl, rfl, ⟨_, rfl⟩, _, c_X11_exact_1 (h_l := (dk_m0 hD)) (h_q1 := (fun z1 z2 => (mex hD a3 z1.1 z1.2.1).1)) (h_q2 := (fun z1 z2 => (mex hD a3 z1.1 z1.2.1).2.2.1)) (h_q3 := (fun z1 z2 => g2_ne (mex hD a3 z1.1 z1.2.1).1 (mex hD a3 z1.1 z1.2.1).2.2.1)) (h_q4 := (fun z1 z2 => (mex hD a3 z1.1 z1.2.1).2.2.2.2)) (h_q5 := (fun z1 z2 => g3_ne (mex hD a3 z1.1 z1.2.1).1 (mex hD a3 z1.1 z1.2.1).2.2.1 (mex hD a3 z1.1 z1.2.1).2.2.2.2 (posw_ne (mj_ok a3 (dk_bars hD z1.1).2.2.2.2 z1.2.1 z2).2.2))), ?_⟩
      rintro r2 w2 (⟨g1, g2, rfl, rfl⟩ | ⟨g1, g2, rfl, rfl⟩ | ⟨g1, rfl, rfl⟩)
      · exact absurd g1 f1
      · exact absurd g1 f1
      · exact ⟨rfl, ⟨_, rfl⟩, inv_mk (fun z => absurd z (by decide)) hT hD hP hK hA⟩
  by_cases e2 : a4 = 2
  · subst e2
    refine ⟨_, c_X10_exact (h_c0 := (dk_c0 hD)) (h_q1 := (fun z1 z2 z3 z4 => (ex_ne a3 (dk_okB hD (dkl hD z1.1)) z1.2.1).2.1)) (h_q2 := (fun z1 z2 z3 z4 => (ex_ne a3 (dk_okB hD (dkl hD z1.1)) z1.2.1).2.2.2.1)) (h_q3 := (fun z1 z2 z3 z4 => (ex_ne a3 (dk_okB hD (dkl hD z1.1)) z1.2.1).2.2.2.2)) (h_q4 := (fun z1 z2 z3 z4 => (ex_ne a3 (dk_okB hD (dkl hD z1.1)) z1.2.1).1)) (h_q5 := (fun z1 z2 z3 z4 => (ex_ne a3 (dk_okB hD (dkl hD z1.1)) z1.2.1).2.2.1)) (h_q6 := (fun z1 z2 z3 z4 => (ex_ne a3 (dk_okB hD (dkl hD z1.1)) z1.2.1).2.2.2.2)), ?_⟩
    rintro r w' (⟨f1, f2, f3, f4, rfl, rfl⟩ | ⟨f1, f2, f3, f4, rfl, rfl⟩ | ⟨f1, f2, f3, rfl, rfl⟩ | ⟨f1, f2, rfl, rfl⟩ | ⟨f1, rfl, rfl⟩)
    · rw [hD.1.1] at f1
      obtain ⟨b1, b2, b3, b4, b5⟩ := dk_bars hD f1.1
      refine ⟨rfl, rfl, ⟨_, rfl⟩, _, c_X11_exact_2 (h_l := (dk_m0 hD)) (h_q1 := (fun z1 z2 => (mex hD a3 z1.1 z1.2.1).1)) (h_q2 := (fun z1 z2 => (mex hD a3 z1.1 z1.2.1).2.2.1)) (h_q3 := (fun z1 z2 => g2_ne (mex hD a3 z1.1 z1.2.1).1 (mex hD a3 z1.1 z1.2.1).2.2.1)) (h_q4 := (fun z1 z2 => (mex hD a3 z1.1 z1.2.1).2.2.2.2)) (h_q5 := (fun z1 z2 => g3_ne (mex hD a3 z1.1 z1.2.1).1 (mex hD a3 z1.1 z1.2.1).2.2.1 (mex hD a3 z1.1 z1.2.1).2.2.2.2 (posw_ne (mj_ok a3 (dk_bars hD z1.1).2.2.2.2 z1.2.1 z2).2.2))), ?_⟩
      rintro r2 w2 (⟨g1, g2, rfl, rfl⟩ | ⟨g1, g2, rfl, rfl⟩ | ⟨g1, rfl, rfl⟩)
      · exact absurd f4 (by decide)
      · exact absurd f4 (by decide)
      · exact absurd f4 (by decide)
    · rw [hD.1.1] at f1
      obtain ⟨b1, b2, b3, b4, b5⟩ := dk_bars hD f1.1
      refine ⟨rfl, rfl, ⟨_, rfl⟩, _, c_X11_exact_2 (h_l := (dk_m0 hD)) (h_q1 := (fun z1 z2 => (mex hD a3 z1.1 z1.2.1).1)) (h_q2 := (fun z1 z2 => (mex hD a3 z1.1 z1.2.1).2.2.1)) (h_q3 := (fun z1 z2 => g2_ne (mex hD a3 z1.1 z1.2.1).1 (mex hD a3 z1.1 z1.2.1).2.2.1)) (h_q4 := (fun z1 z2 => (mex hD a3 z1.1 z1.2.1).2.2.2.2)) (h_q5 := (fun z1 z2 => g3_ne (mex hD a3 z1.1 z1.2.1).1 (mex hD a3 z1.1 z1.2.1).2.2.1 (mex hD a3 z1.1 z1.2.1).2.2.2.2 (posw_ne (mj_ok a3 (dk_bars hD z1.1).2.2.2.2 z1.2.1 z2).2.2))), ?_⟩
      rintro r2 w2 (⟨g1, g2, rfl, rfl⟩ | ⟨g1, g2, rfl, rfl⟩ | ⟨g1, rfl, rfl⟩)
      · rw [law_e hD f1.1 f1.2.1] at g2
        have ee := ex_e hD a3 f1.1 f1.2.1
        have nn := ex_ne a3 (dk_okB hD f1.1) f1.2.1
        have gg := g3_ne nn.1 nn.2.2.1 nn.2.2.2.2 (posw_ne (jt_ok a3 (dk_okB hD f1.1) f1.2.1 f3 t20_10.1 t20_10.2).2.2)
        exact ⟨by rw [rd3_2 gg, ee.1, ee.2.2.1, ee.2.2.2.2], ⟨_, rfl⟩, inv_mk (fun z => absurd z (by decide)) hT hD hP hK hA⟩
      · rw [law_e hD f1.1 f1.2.1] at g2
        exact absurd f3 g2
      · exact absurd f1 g1
    · rw [hD.1.1] at f1
      obtain ⟨b1, b2, b3, b4, b5⟩ := dk_bars hD f1.1
      refine ⟨rfl, rfl, ⟨_, rfl⟩, _, c_X11_exact_2 (h_l := (dk_m0 hD)) (h_q1 := (fun z1 z2 => (mex hD a3 z1.1 z1.2.1).1)) (h_q2 := (fun z1 z2 => (mex hD a3 z1.1 z1.2.1).2.2.1)) (h_q3 := (fun z1 z2 => g2_ne (mex hD a3 z1.1 z1.2.1).1 (mex hD a3 z1.1 z1.2.1).2.2.1)) (h_q4 := (fun z1 z2 => (mex hD a3 z1.1 z1.2.1).2.2.2.2)) (h_q5 := (fun z1 z2 => g3_ne (mex hD a3 z1.1 z1.2.1).1 (mex hD a3 z1.1 z1.2.1).2.2.1 (mex hD a3 z1.1 z1.2.1).2.2.2.2 (posw_ne (mj_ok a3 (dk_bars hD z1.1).2.2.2.2 z1.2.1 z2).2.2))), ?_⟩
      rintro r2 w2 (⟨g1, g2, rfl, rfl⟩ | ⟨g1, g2, rfl, rfl⟩ | ⟨g1, rfl, rfl⟩)
      · rw [law_e hD f1.1 f1.2.1] at g2
        exact absurd g2 f3
      · rw [law_e hD f1.1 f1.2.1] at g2
        exact ⟨rfl, ⟨_, rfl⟩, inv_mk (fun z => absurd z (by decide)) hT hD hP hK hA⟩
      · exact absurd f1 g1
    · rw [hD.1.1] at f1
      obtain ⟨b1, b2, b3, b4, b5⟩ := dk_bars hD f1.1
      refine ⟨rfl, rfl, ⟨_, rfl⟩, _, c_X11_exact_2 (h_l := (dk_m0 hD)) (h_q1 := (fun z1 z2 => (mex hD a3 z1.1 z1.2.1).1)) (h_q2 := (fun z1 z2 => (mex hD a3 z1.1 z1.2.1).2.2.1)) (h_q3 := (fun z1 z2 => g2_ne (mex hD a3 z1.1 z1.2.1).1 (mex hD a3 z1.1 z1.2.1).2.2.1)) (h_q4 := (fun z1 z2 => (mex hD a3 z1.1 z1.2.1).2.2.2.2)) (h_q5 := (fun z1 z2 => g3_ne (mex hD a3 z1.1 z1.2.1).1 (mex hD a3 z1.1 z1.2.1).2.2.1 (mex hD a3 z1.1 z1.2.1).2.2.2.2 (posw_ne (mj_ok a3 (dk_bars hD z1.1).2.2.2.2 z1.2.1 z2).2.2))), ?_⟩
      rintro r2 w2 (⟨g1, g2, rfl, rfl⟩ | ⟨g1, g2, rfl, rfl⟩ | ⟨g1, rfl, rfl⟩)
      · exact absurd f2 (by decide)
      · exact absurd f2 (by decide)
      · exact absurd f2 (by decide)
    · rw [hD.1.1] at f1
      refine ⟨rfl, rfl, ⟨_, rfl⟩, _, c_X11_exact_2 (h_l := (dk_m0 hD)) (h_q1 := (fun z1 z2 => (mex hD a3 z1.1 z1.2.1).1)) (h_q2 := (fun z1 z2 => (mex hD a3 z1.1 z1.2.1).2.2.1)) (h_q3 := (fun z1 z2 => g2_ne (mex hD a3 z1.1 z1.2.1).1 (mex hD a3 z1.1 z1.2.1).2.2.1)) (h_q4 := (fun z1 z2 => (mex hD a3 z1.1 z1.2.1).2.2.2.2)) (h_q5 := (fun z1 z2 => g3_ne (mex hD a3 z1.1 z1.2.1).1 (mex hD a3 z1.1 z1.2.1).2.2.1 (mex hD a3 z1.1 z1.2.1).2.2.2.2 (posw_ne (mj_ok a3 (dk_bars hD z1.1).2.2.2.2 z1.2.1 z2).2.2))), ?_⟩
      rintro r2 w2 (⟨g1, g2, rfl, rfl⟩ | ⟨g1, g2, rfl, rfl⟩ | ⟨g1, rfl, rfl⟩)
      · exact absurd g1 f1
      · exact absurd g1 f1
      · exact ⟨rfl, ⟨_, rfl⟩, inv_mk (fun z => absurd z (by decide)) hT hD hP hK hA⟩
  by_cases e3 : a4 = 3
  · subst e3
    refine ⟨_, c_X10_exact (h_c0 := (dk_c0 hD)) (h_q1 := (fun z1 z2 z3 z4 => (ex_ne a3 (dk_okB hD (dkl hD z1.1)) z1.2.1).2.1)) (h_q2 := (fun z1 z2 z3 z4 => (ex_ne a3 (dk_okB hD (dkl hD z1.1)) z1.2.1).2.2.2.1)) (h_q3 := (fun z1 z2 z3 z4 => (ex_ne a3 (dk_okB hD (dkl hD z1.1)) z1.2.1).2.2.2.2)) (h_q4 := (fun z1 z2 z3 z4 => (ex_ne a3 (dk_okB hD (dkl hD z1.1)) z1.2.1).1)) (h_q5 := (fun z1 z2 z3 z4 => (ex_ne a3 (dk_okB hD (dkl hD z1.1)) z1.2.1).2.2.1)) (h_q6 := (fun z1 z2 z3 z4 => (ex_ne a3 (dk_okB hD (dkl hD z1.1)) z1.2.1).2.2.2.2)), ?_⟩
    rintro r w' (⟨f1, f2, f3, f4, rfl, rfl⟩ | ⟨f1, f2, f3, f4, rfl, rfl⟩ | ⟨f1, f2, f3, rfl, rfl⟩ | ⟨f1, f2, rfl, rfl⟩ | ⟨f1, rfl, rfl⟩)
    · rw [hD.1.1] at f1
      obtain ⟨b1, b2, b3, b4, b5⟩ := dk_bars hD f1.1
      refine ⟨rfl, rfl, ⟨_, rfl⟩, _, c_X11_exact_3 (h_l := (dk_m0 hD)) (h_q1 := (fun z1 z2 => (mex hD a3 z1.1 z1.2.1).2.1)) (h_q2 := (fun z1 z2 => (mex hD a3 z1.1 z1.2.1).2.2.2.1)) (h_q3 := (fun z1 z2 => g2_ne (mex hD a3 z1.1 z1.2.1).2.1 (mex hD a3 z1.1 z1.2.1).2.2.2.1)) (h_q4 := (fun z1 z2 => (mex hD a3 z1.1 z1.2.1).2.2.2.2)) (h_q5 := (fun z1 z2 => g3_ne (mex hD a3 z1.1 z1.2.1).2.1 (mex hD a3 z1.1 z1.2.1).2.2.2.1 (mex hD a3 z1.1 z1.2.1).2.2.2.2 (posw_ne (mj_ok a3 (dk_bars hD z1.1).2.2.2.2 z1.2.1 z2).2.2))), ?_⟩
      rintro r2 w2 (⟨g1, g2, rfl, rfl⟩ | ⟨g1, g2, rfl, rfl⟩ | ⟨g1, rfl, rfl⟩)
      · rw [law_e hD f1.1 f1.2.1] at g2
        have ee := ex_e hD a3 f1.1 f1.2.1
        have nn := ex_ne a3 (dk_okB hD f1.1) f1.2.1
        have gg := g3_ne nn.2.1 nn.2.2.2.1 nn.2.2.2.2 (posw_ne (jt_ok a3 (dk_okB hD f1.1) f1.2.1 f3 t20_10.1 t20_10.2).2.2)
        exact ⟨by rw [show (3 : Int32) - 3 = 0 from rfl, rd3_0 gg, ee.2.1, ee.2.2.2.1, ee.2.2.2.2], ⟨_, rfl⟩, inv_mk (fun z => absurd z (by decide)) hT hD hP hK hA⟩
      · rw [law_e hD f1.1 f1.2.1] at g2
        exact absurd f3 g2
      · exact absurd f1 g1
    · rw [hD.1.1] at f1
      obtain ⟨b1, b2, b3, b4, b5⟩ := dk_bars hD f1.1
      refine ⟨rfl, rfl, ⟨_, rfl⟩, _, c_X11_exact_3 (h_l := (dk_m0 hD)) (h_q1 := (fun z1 z2 => (mex hD a3 z1.1 z1.2.1).2.1)) (h_q2 := (fun z1 z2 => (mex hD a3 z1.1 z1.2.1).2.2.2.1)) (h_q3 := (fun z1 z2 => g2_ne (mex hD a3 z1.1 z1.2.1).2.1 (mex hD a3 z1.1 z1.2.1).2.2.2.1)) (h_q4 := (fun z1 z2 => (mex hD a3 z1.1 z1.2.1).2.2.2.2)) (h_q5 := (fun z1 z2 => g3_ne (mex hD a3 z1.1 z1.2.1).2.1 (mex hD a3 z1.1 z1.2.1).2.2.2.1 (mex hD a3 z1.1 z1.2.1).2.2.2.2 (posw_ne (mj_ok a3 (dk_bars hD z1.1).2.2.2.2 z1.2.1 z2).2.2))), ?_⟩
      rintro r2 w2 (⟨g1, g2, rfl, rfl⟩ | ⟨g1, g2, rfl, rfl⟩ | ⟨g1, rfl, rfl⟩)
      · exact absurd f4 (by decide)
      · exact absurd f4 (by decide)
      · exact absurd f4 (by decide)
    · rw [hD.1.1] at f1
      obtain ⟨b1, b2, b3, b4, b5⟩ := dk_bars hD f1.1
      refine ⟨rfl, rfl, ⟨_, rfl⟩, _, c_X11_exact_3 (h_l := (dk_m0 hD)) (h_q1 := (fun z1 z2 => (mex hD a3 z1.1 z1.2.1).2.1)) (h_q2 := (fun z1 z2 => (mex hD a3 z1.1 z1.2.1).2.2.2.1)) (h_q3 := (fun z1 z2 => g2_ne (mex hD a3 z1.1 z1.2.1).2.1 (mex hD a3 z1.1 z1.2.1).2.2.2.1)) (h_q4 := (fun z1 z2 => (mex hD a3 z1.1 z1.2.1).2.2.2.2)) (h_q5 := (fun z1 z2 => g3_ne (mex hD a3 z1.1 z1.2.1).2.1 (mex hD a3 z1.1 z1.2.1).2.2.2.1 (mex hD a3 z1.1 z1.2.1).2.2.2.2 (posw_ne (mj_ok a3 (dk_bars hD z1.1).2.2.2.2 z1.2.1 z2).2.2))), ?_⟩
      rintro r2 w2 (⟨g1, g2, rfl, rfl⟩ | ⟨g1, g2, rfl, rfl⟩ | ⟨g1, rfl, rfl⟩)
      · rw [law_e hD f1.1 f1.2.1] at g2
        exact absurd g2 f3
      · rw [law_e hD f1.1 f1.2.1] at g2
        exact ⟨rfl, ⟨_, rfl⟩, inv_mk (fun z => absurd z (by decide)) hT hD hP hK hA⟩
      · exact absurd f1 g1
    · rw [hD.1.1] at f1
      obtain ⟨b1, b2, b3, b4, b5⟩ := dk_bars hD f1.1
      refine ⟨rfl, rfl, ⟨_, rfl⟩, _, c_X11_exact_3 (h_l := (dk_m0 hD)) (h_q1 := (fun z1 z2 => (mex hD a3 z1.1 z1.2.1).2.1)) (h_q2 := (fun z1 z2 => (mex hD a3 z1.1 z1.2.1).2.2.2.1)) (h_q3 := (fun z1 z2 => g2_ne (mex hD a3 z1.1 z1.2.1).2.1 (mex hD a3 z1.1 z1.2.1).2.2.2.1)) (h_q4 := (fun z1 z2 => (mex hD a3 z1.1 z1.2.1).2.2.2.2)) (h_q5 := (fun z1 z2 => g3_ne (mex hD a3 z1.1 z1.2.1).2.1 (mex hD a3 z1.1 z1.2.1).2.2.2.1 (mex hD a3 z1.1 z1.2.1).2.2.2.2 (posw_ne (mj_ok a3 (dk_bars hD z1.1).2.2.2.2 z1.2.1 z2).2.2))), ?_⟩
      rintro r2 w2 (⟨g1, g2, rfl, rfl⟩ | ⟨g1, g2, rfl, rfl⟩ | ⟨g1, rfl, rfl⟩)
      · exact absurd f2 (by decide)
      · exact absurd f2 (by decide)
      · exact absurd f2 (by decide)
    · rw [hD.1.1] at f1
      refine ⟨rfl, rfl, ⟨_, rfl⟩, _, c_X11_exact_3 (h_l := (dk_m0 hD)) (h_q1 := (fun z1 z2 => (mex hD a3 z1.1 z1.2.1).2.1)) (h_q2 := (fun z1 z2 => (mex hD a3 z1.1 z1.2.1).2.2.2.1)) (h_q3 := (fun z1 z2 => g2_ne (mex hD a3 z1.1 z1.2.1).2.1 (mex hD a3 z1.1 z1.2.1).2.2.2.1)) (h_q4 := (fun z1 z2 => (mex hD a3 z1.1 z1.2.1).2.2.2.2)) (h_q5 := (fun z1 z2 => g3_ne (mex hD a3 z1.1 z1.2.1).2.1 (mex hD a3 z1.1 z1.2.1).2.2.2.1 (mex hD a3 z1.1 z1.2.1).2.2.2.2 (posw_ne (mj_ok a3 (dk_bars hD z1.1).2.2.2.2 z1.2.1 z2).2.2))), ?_⟩
      rintro r2 w2 (⟨g1, g2, rfl, rfl⟩ | ⟨g1, g2, rfl, rfl⟩ | ⟨g1, rfl, rfl⟩)
      · exact absurd g1 f1
      · exact absurd g1 f1
      · exact ⟨rfl, ⟨_, rfl⟩, inv_mk (fun z => absurd z (by decide)) hT hD hP hK hA⟩
  by_cases e4 : a4 = 4
  · subst e4
    refine ⟨_, c_X10_exact (h_c0 := (dk_c0 hD)) (h_q1 := (fun z1 z2 z3 z4 => (ex_ne a3 (dk_okB hD (dkl hD z1.1)) z1.2.1).2.1)) (h_q2 := (fun z1 z2 z3 z4 => (ex_ne a3 (dk_okB hD (dkl hD z1.1)) z1.2.1).2.2.2.1)) (h_q3 := (fun z1 z2 z3 z4 => (ex_ne a3 (dk_okB hD (dkl hD z1.1)) z1.2.1).2.2.2.2)) (h_q4 := (fun z1 z2 z3 z4 => (ex_ne a3 (dk_okB hD (dkl hD z1.1)) z1.2.1).1)) (h_q5 := (fun z1 z2 z3 z4 => (ex_ne a3 (dk_okB hD (dkl hD z1.1)) z1.2.1).2.2.1)) (h_q6 := (fun z1 z2 z3 z4 => (ex_ne a3 (dk_okB hD (dkl hD z1.1)) z1.2.1).2.2.2.2)), ?_⟩
    rintro r w' (⟨f1, f2, f3, f4, rfl, rfl⟩ | ⟨f1, f2, f3, f4, rfl, rfl⟩ | ⟨f1, f2, f3, rfl, rfl⟩ | ⟨f1, f2, rfl, rfl⟩ | ⟨f1, rfl, rfl⟩)
    · rw [hD.1.1] at f1
      obtain ⟨b1, b2, b3, b4, b5⟩ := dk_bars hD f1.1
      refine ⟨rfl, rfl, ⟨_, rfl⟩, _, c_X11_exact_4 (h_l := (dk_m0 hD)) (h_q1 := (fun z1 z2 => (mex hD a3 z1.1 z1.2.1).2.1)) (h_q2 := (fun z1 z2 => (mex hD a3 z1.1 z1.2.1).2.2.2.1)) (h_q3 := (fun z1 z2 => g2_ne (mex hD a3 z1.1 z1.2.1).2.1 (mex hD a3 z1.1 z1.2.1).2.2.2.1)) (h_q4 := (fun z1 z2 => (mex hD a3 z1.1 z1.2.1).2.2.2.2)) (h_q5 := (fun z1 z2 => g3_ne (mex hD a3 z1.1 z1.2.1).2.1 (mex hD a3 z1.1 z1.2.1).2.2.2.1 (mex hD a3 z1.1 z1.2.1).2.2.2.2 (posw_ne (mj_ok a3 (dk_bars hD z1.1).2.2.2.2 z1.2.1 z2).2.2))), ?_⟩
      rintro r2 w2 (⟨g1, g2, rfl, rfl⟩ | ⟨g1, g2, rfl, rfl⟩ | ⟨g1, rfl, rfl⟩)
      · rw [law_e hD f1.1 f1.2.1] at g2
        have ee := ex_e hD a3 f1.1 f1.2.1
        have nn := ex_ne a3 (dk_okB hD f1.1) f1.2.1
        have gg := g3_ne nn.2.1 nn.2.2.2.1 nn.2.2.2.2 (posw_ne (jt_ok a3 (dk_okB hD f1.1) f1.2.1 f3 t20_10.1 t20_10.2).2.2)
        exact ⟨by rw [show (4 : Int32) - 3 = 1 from rfl, rd3_1 gg, ee.2.1, ee.2.2.2.1, ee.2.2.2.2], ⟨_, rfl⟩, inv_mk (fun z => absurd z (by decide)) hT hD hP hK hA⟩
      · rw [law_e hD f1.1 f1.2.1] at g2
        exact absurd f3 g2
      · exact absurd f1 g1
    · rw [hD.1.1] at f1
      obtain ⟨b1, b2, b3, b4, b5⟩ := dk_bars hD f1.1
      refine ⟨rfl, rfl, ⟨_, rfl⟩, _, c_X11_exact_4 (h_l := (dk_m0 hD)) (h_q1 := (fun z1 z2 => (mex hD a3 z1.1 z1.2.1).2.1)) (h_q2 := (fun z1 z2 => (mex hD a3 z1.1 z1.2.1).2.2.2.1)) (h_q3 := (fun z1 z2 => g2_ne (mex hD a3 z1.1 z1.2.1).2.1 (mex hD a3 z1.1 z1.2.1).2.2.2.1)) (h_q4 := (fun z1 z2 => (mex hD a3 z1.1 z1.2.1).2.2.2.2)) (h_q5 := (fun z1 z2 => g3_ne (mex hD a3 z1.1 z1.2.1).2.1 (mex hD a3 z1.1 z1.2.1).2.2.2.1 (mex hD a3 z1.1 z1.2.1).2.2.2.2 (posw_ne (mj_ok a3 (dk_bars hD z1.1).2.2.2.2 z1.2.1 z2).2.2))), ?_⟩
      rintro r2 w2 (⟨g1, g2, rfl, rfl⟩ | ⟨g1, g2, rfl, rfl⟩ | ⟨g1, rfl, rfl⟩)
      · exact absurd f4 (by decide)
      · exact absurd f4 (by decide)
      · exact absurd f4 (by decide)
    · rw [hD.1.1] at f1
      obtain ⟨b1, b2, b3, b4, b5⟩ := dk_bars hD f1.1
      refine ⟨rfl, rfl, ⟨_, rfl⟩, _, c_X11_exact_4 (h_l := (dk_m0 hD)) (h_q1 := (fun z1 z2 => (mex hD a3 z1.1 z1.2.1).2.1)) (h_q2 := (fun z1 z2 => (mex hD a3 z1.1 z1.2.1).2.2.2.1)) (h_q3 := (fun z1 z2 => g2_ne (mex hD a3 z1.1 z1.2.1).2.1 (mex hD a3 z1.1 z1.2.1).2.2.2.1)) (h_q4 := (fun z1 z2 => (mex hD a3 z1.1 z1.2.1).2.2.2.2)) (h_q5 := (fun z1 z2 => g3_ne (mex hD a3 z1.1 z1.2.1).2.1 (mex hD a3 z1.1 z1.2.1).2.2.2.1 (mex hD a3 z1.1 z1.2.1).2.2.2.2 (posw_ne (mj_ok a3 (dk_bars hD z1.1).2.2.2.2 z1.2.1 z2).2.2))), ?_⟩
      rintro r2 w2 (⟨g1, g2, rfl, rfl⟩ | ⟨g1, g2, rfl, rfl⟩ | ⟨g1, rfl, rfl⟩)
      · rw [law_e hD f1.1 f1.2.1] at g2
        exact absurd g2 f3
      · rw [law_e hD f1.1 f1.2.1] at g2
        exact ⟨rfl, ⟨_, rfl⟩, inv_mk (fun z => absurd z (by decide)) hT hD hP hK hA⟩
      · exact absurd f1 g1
    · rw [hD.1.1] at f1
      obtain ⟨b1, b2, b3, b4, b5⟩ := dk_bars hD f1.1
      refine ⟨rfl, rfl, ⟨_, rfl⟩, _, c_X11_exact_4 (h_l := (dk_m0 hD)) (h_q1 := (fun z1 z2 => (mex hD a3 z1.1 z1.2.1).2.1)) (h_q2 := (fun z1 z2 => (mex hD a3 z1.1 z1.2.1).2.2.2.1)) (h_q3 := (fun z1 z2 => g2_ne (mex hD a3 z1.1 z1.2.1).2.1 (mex hD a3 z1.1 z1.2.1).2.2.2.1)) (h_q4 := (fun z1 z2 => (mex hD a3 z1.1 z1.2.1).2.2.2.2)) (h_q5 := (fun z1 z2 => g3_ne (mex hD a3 z1.1 z1.2.1).2.1 (mex hD a3 z1.1 z1.2.1).2.2.2.1 (mex hD a3 z1.1 z1.2.1).2.2.2.2 (posw_ne (mj_ok a3 (dk_bars hD z1.1).2.2.2.2 z1.2.1 z2).2.2))), ?_⟩
      rintro r2 w2 (⟨g1, g2, rfl, rfl⟩ | ⟨g1, g2, rfl, rfl⟩ | ⟨g1, rfl, rfl⟩)
      · exact absurd f2 (by decide)
      · exact absurd f2 (by decide)
      · exact absurd f2 (by decide)
    · rw [hD.1.1] at f1
      refine ⟨rfl, rfl, ⟨_, rfl⟩, _, c_X11_exact_4 (h_l := (dk_m0 hD)) (h_q1 := (fun z1 z2 => (mex hD a3 z1.1 z1.2.1).2.1)) (h_q2 := (fun z1 z2 => (mex hD a3 z1.1 z1.2.1).2.2.2.1)) (h_q3 := (fun z1 z2 => g2_ne (mex hD a3 z1.1 z1.2.1).2.1 (mex hD a3 z1.1 z1.2.1).2.2.2.1)) (h_q4 := (fun z1 z2 => (mex hD a3 z1.1 z1.2.1).2.2.2.2)) (h_q5 := (fun z1 z2 => g3_ne (mex hD a3 z1.1 z1.2.1).2.1 (mex hD a3 z1.1 z1.2.1).2.2.2.1 (mex hD a3 z1.1 z1.2.1).2.2.2.2 (posw_ne (mj_ok a3 (dk_bars hD z1.1).2.2.2.2 z1.2.1 z2).2.2))), ?_⟩
      rintro r2 w2 (⟨g1, g2, rfl, rfl⟩ | ⟨g1, g2, rfl, rfl⟩ | ⟨g1, rfl, rfl⟩)
      · exact absurd g1 f1
      · exact absurd g1 f1
      · exact ⟨rfl, ⟨_, rfl⟩, inv_mk (fun z => absurd z (by decide)) hT hD hP hK hA⟩
  by_cases e5 : a4 = 5
  · subst e5
    refine ⟨_, c_X10_exact (h_c0 := (dk_c0 hD)) (h_q1 := (fun z1 z2 z3 z4 => (ex_ne a3 (dk_okB hD (dkl hD z1.1)) z1.2.1).2.1)) (h_q2 := (fun z1 z2 z3 z4 => (ex_ne a3 (dk_okB hD (dkl hD z1.1)) z1.2.1).2.2.2.1)) (h_q3 := (fun z1 z2 z3 z4 => (ex_ne a3 (dk_okB hD (dkl hD z1.1)) z1.2.1).2.2.2.2)) (h_q4 := (fun z1 z2 z3 z4 => (ex_ne a3 (dk_okB hD (dkl hD z1.1)) z1.2.1).1)) (h_q5 := (fun z1 z2 z3 z4 => (ex_ne a3 (dk_okB hD (dkl hD z1.1)) z1.2.1).2.2.1)) (h_q6 := (fun z1 z2 z3 z4 => (ex_ne a3 (dk_okB hD (dkl hD z1.1)) z1.2.1).2.2.2.2)), ?_⟩
    rintro r w' (⟨f1, f2, f3, f4, rfl, rfl⟩ | ⟨f1, f2, f3, f4, rfl, rfl⟩ | ⟨f1, f2, f3, rfl, rfl⟩ | ⟨f1, f2, rfl, rfl⟩ | ⟨f1, rfl, rfl⟩)
    · rw [hD.1.1] at f1
      obtain ⟨b1, b2, b3, b4, b5⟩ := dk_bars hD f1.1
      refine ⟨rfl, rfl, ⟨_, rfl⟩, _, c_X11_exact_5 (h_l := (dk_m0 hD)) (h_q1 := (fun z1 z2 => (mex hD a3 z1.1 z1.2.1).2.1)) (h_q2 := (fun z1 z2 => (mex hD a3 z1.1 z1.2.1).2.2.2.1)) (h_q3 := (fun z1 z2 => g2_ne (mex hD a3 z1.1 z1.2.1).2.1 (mex hD a3 z1.1 z1.2.1).2.2.2.1)) (h_q4 := (fun z1 z2 => (mex hD a3 z1.1 z1.2.1).2.2.2.2)) (h_q5 := (fun z1 z2 => g3_ne (mex hD a3 z1.1 z1.2.1).2.1 (mex hD a3 z1.1 z1.2.1).2.2.2.1 (mex hD a3 z1.1 z1.2.1).2.2.2.2 (posw_ne (mj_ok a3 (dk_bars hD z1.1).2.2.2.2 z1.2.1 z2).2.2))), ?_⟩
      rintro r2 w2 (⟨g1, g2, rfl, rfl⟩ | ⟨g1, g2, rfl, rfl⟩ | ⟨g1, rfl, rfl⟩)
      · rw [law_e hD f1.1 f1.2.1] at g2
        have ee := ex_e hD a3 f1.1 f1.2.1
        have nn := ex_ne a3 (dk_okB hD f1.1) f1.2.1
        have gg := g3_ne nn.2.1 nn.2.2.2.1 nn.2.2.2.2 (posw_ne (jt_ok a3 (dk_okB hD f1.1) f1.2.1 f3 t20_10.1 t20_10.2).2.2)
        exact ⟨by rw [show (5 : Int32) - 3 = 2 from rfl, rd3_2 gg, ee.2.1, ee.2.2.2.1, ee.2.2.2.2], ⟨_, rfl⟩, inv_mk (fun z => absurd z (by decide)) hT hD hP hK hA⟩
      · rw [law_e hD f1.1 f1.2.1] at g2
        exact absurd f3 g2
      · exact absurd f1 g1
    · rw [hD.1.1] at f1
      obtain ⟨b1, b2, b3, b4, b5⟩ := dk_bars hD f1.1
      refine ⟨rfl, rfl, ⟨_, rfl⟩, _, c_X11_exact_5 (h_l := (dk_m0 hD)) (h_q1 := (fun z1 z2 => (mex hD a3 z1.1 z1.2.1).2.1)) (h_q2 := (fun z1 z2 => (mex hD a3 z1.1 z1.2.1).2.2.2.1)) (h_q3 := (fun z1 z2 => g2_ne (mex hD a3 z1.1 z1.2.1).2.1 (mex hD a3 z1.1 z1.2.1).2.2.2.1)) (h_q4 := (fun z1 z2 => (mex hD a3 z1.1 z1.2.1).2.2.2.2)) (h_q5 := (fun z1 z2 => g3_ne (mex hD a3 z1.1 z1.2.1).2.1 (mex hD a3 z1.1 z1.2.1).2.2.2.1 (mex hD a3 z1.1 z1.2.1).2.2.2.2 (posw_ne (mj_ok a3 (dk_bars hD z1.1).2.2.2.2 z1.2.1 z2).2.2))), ?_⟩
      rintro r2 w2 (⟨g1, g2, rfl, rfl⟩ | ⟨g1, g2, rfl, rfl⟩ | ⟨g1, rfl, rfl⟩)
      · exact absurd f4 (by decide)
      · exact absurd f4 (by decide)
      · exact absurd f4 (by decide)
    · rw [hD.1.1] at f1
      obtain ⟨b1, b2, b3, b4, b5⟩ := dk_bars hD f1.1
      refine ⟨rfl, rfl, ⟨_, rfl⟩, _, c_X11_exact_5 (h_l := (dk_m0 hD)) (h_q1 := (fun z1 z2 => (mex hD a3 z1.1 z1.2.1).2.1)) (h_q2 := (fun z1 z2 => (mex hD a3 z1.1 z1.2.1).2.2.2.1)) (h_q3 := (fun z1 z2 => g2_ne (mex hD a3 z1.1 z1.2.1).2.1 (mex hD a3 z1.1 z1.2.1).2.2.2.1)) (h_q4 := (fun z1 z2 => (mex hD a3 z1.1 z1.2.1).2.2.2.2)) (h_q5 := (fun z1 z2 => g3_ne (mex hD a3 z1.1 z1.2.1).2.1 (mex hD a3 z1.1 z1.2.1).2.2.2.1 (mex hD a3 z1.1 z1.2.1).2.2.2.2 (posw_ne (mj_ok a3 (dk_bars hD z1.1).2.2.2.2 z1.2.1 z2).2.2))), ?_⟩
      rintro r2 w2 (⟨g1, g2, rfl, rfl⟩ | ⟨g1, g2, rfl, rfl⟩ | ⟨g1, rfl, rfl⟩)
      · rw [law_e hD f1.1 f1.2.1] at g2
        exact absurd g2 f3
      · rw [law_e hD f1.1 f1.2.1] at g2
        exact ⟨rfl, ⟨_, rfl⟩, inv_mk (fun z => absurd z (by decide)) hT hD hP hK hA⟩
      · exact absurd f1 g1
    · rw [hD.1.1] at f1
      obtain ⟨b1, b2, b3, b4, b5⟩ := dk_bars hD f1.1
      refine ⟨rfl, rfl, ⟨_, rfl⟩, _, c_X11_exact_5 (h_l := (dk_m0 hD)) (h_q1 := (fun z1 z2 => (mex hD a3 z1.1 z1.2.1).2.1)) (h_q2 := (fun z1 z2 => (mex hD a3 z1.1 z1.2.1).2.2.2.1)) (h_q3 := (fun z1 z2 => g2_ne (mex hD a3 z1.1 z1.2.1).2.1 (mex hD a3 z1.1 z1.2.1).2.2.2.1)) (h_q4 := (fun z1 z2 => (mex hD a3 z1.1 z1.2.1).2.2.2.2)) (h_q5 := (fun z1 z2 => g3_ne (mex hD a3 z1.1 z1.2.1).2.1 (mex hD a3 z1.1 z1.2.1).2.2.2.1 (mex hD a3 z1.1 z1.2.1).2.2.2.2 (posw_ne (mj_ok a3 (dk_bars hD z1.1).2.2.2.2 z1.2.1 z2).2.2))), ?_⟩
      rintro r2 w2 (⟨g1, g2, rfl, rfl⟩ | ⟨g1, g2, rfl, rfl⟩ | ⟨g1, rfl, rfl⟩)
      · exact absurd f2 (by decide)
      · exact absurd f2 (by decide)
      · exact absurd f2 (by decide)
    · rw [hD.1.1] at f1
      refine ⟨rfl, rfl, ⟨_, rfl⟩, _, c_X11_exact_5 (h_l := (dk_m0 hD)) (h_q1 := (fun z1 z2 => (mex hD a3 z1.1 z1.2.1).2.1)) (h_q2 := (fun z1 z2 => (mex hD a3 z1.1 z1.2.1).2.2.2.1)) (h_q3 := (fun z1 z2 => g2_ne (mex hD a3 z1.1 z1.2.1).2.1 (mex hD a3 z1.1 z1.2.1).2.2.2.1)) (h_q4 := (fun z1 z2 => (mex hD a3 z1.1 z1.2.1).2.2.2.2)) (h_q5 := (fun z1 z2 => g3_ne (mex hD a3 z1.1 z1.2.1).2.1 (mex hD a3 z1.1 z1.2.1).2.2.2.1 (mex hD a3 z1.1 z1.2.1).2.2.2.2 (posw_ne (mj_ok a3 (dk_bars hD z1.1).2.2.2.2 z1.2.1 z2).2.2))), ?_⟩
      rintro r2 w2 (⟨g1, g2, rfl, rfl⟩ | ⟨g1, g2, rfl, rfl⟩ | ⟨g1, rfl, rfl⟩)
      · exact absurd g1 f1
      · exact absurd g1 f1
      · exact ⟨rfl, ⟨_, rfl⟩, inv_mk (fun z => absurd z (by decide)) hT hD hP hK hA⟩
  have qo := n05 e0 e1 e2 e3 e4 e5
  refine ⟨_, c_X10_exact (h_c0 := (dk_c0 hD)) (h_q1 := (fun z1 z2 z3 z4 => (ex_ne a3 (dk_okB hD (dkl hD z1.1)) z1.2.1).2.1)) (h_q2 := (fun z1 z2 z3 z4 => (ex_ne a3 (dk_okB hD (dkl hD z1.1)) z1.2.1).2.2.2.1)) (h_q3 := (fun z1 z2 z3 z4 => (ex_ne a3 (dk_okB hD (dkl hD z1.1)) z1.2.1).2.2.2.2)) (h_q4 := (fun z1 z2 z3 z4 => (ex_ne a3 (dk_okB hD (dkl hD z1.1)) z1.2.1).1)) (h_q5 := (fun z1 z2 z3 z4 => (ex_ne a3 (dk_okB hD (dkl hD z1.1)) z1.2.1).2.2.1)) (h_q6 := (fun z1 z2 z3 z4 => (ex_ne a3 (dk_okB hD (dkl hD z1.1)) z1.2.1).2.2.2.2)), ?_⟩
  rintro r w' (⟨f1, f2, f3, f4, rfl, rfl⟩ | ⟨f1, f2, f3, f4, rfl, rfl⟩ | ⟨f1, f2, f3, rfl, rfl⟩ | ⟨f1, f2, rfl, rfl⟩ | ⟨f1, rfl, rfl⟩)
  · rw [hD.1.1] at f1
    obtain ⟨b1, b2, b3, b4, b5⟩ := dk_bars hD f1.1
    refine ⟨rfl, rfl, ⟨_, rfl⟩, _, c_X11_exact_o (h_l := (dk_m0 hD)) (h_o := qo.1), ?_⟩
    rintro r2 w2 (⟨g1, rfl, rfl⟩ | ⟨g1, rfl, rfl⟩)
    · exact absurd f2 qo.2
    · exact absurd f2 qo.2
  · rw [hD.1.1] at f1
    obtain ⟨b1, b2, b3, b4, b5⟩ := dk_bars hD f1.1
    refine ⟨rfl, rfl, ⟨_, rfl⟩, _, c_X11_exact_o (h_l := (dk_m0 hD)) (h_o := qo.1), ?_⟩
    rintro r2 w2 (⟨g1, rfl, rfl⟩ | ⟨g1, rfl, rfl⟩)
    · exact absurd f2 qo.2
    · exact absurd f2 qo.2
  · rw [hD.1.1] at f1
    obtain ⟨b1, b2, b3, b4, b5⟩ := dk_bars hD f1.1
    refine ⟨rfl, rfl, ⟨_, rfl⟩, _, c_X11_exact_o (h_l := (dk_m0 hD)) (h_o := qo.1), ?_⟩
    rintro r2 w2 (⟨g1, rfl, rfl⟩ | ⟨g1, rfl, rfl⟩)
    · exact absurd f2 qo.2
    · exact absurd f2 qo.2
  · rw [hD.1.1] at f1
    obtain ⟨b1, b2, b3, b4, b5⟩ := dk_bars hD f1.1
    refine ⟨rfl, rfl, ⟨_, rfl⟩, _, c_X11_exact_o (h_l := (dk_m0 hD)) (h_o := qo.1), ?_⟩
    rintro r2 w2 (⟨g1, rfl, rfl⟩ | ⟨g1, rfl, rfl⟩)
    · exact ⟨rfl, ⟨_, rfl⟩, inv_mk (fun z => absurd z (by decide)) hT hD hP hK hA⟩
    · exact absurd f1 g1
  · rw [hD.1.1] at f1
    refine ⟨rfl, rfl, ⟨_, rfl⟩, _, c_X11_exact_o (h_l := (dk_m0 hD)) (h_o := qo.1), ?_⟩
    rintro r2 w2 (⟨g1, rfl, rfl⟩ | ⟨g1, rfl, rfl⟩)
    · exact absurd g1 f1
    · exact ⟨rfl, ⟨_, rfl⟩, inv_mk (fun z => absurd z (by decide)) hT hD hP hK hA⟩
set_option maxRecDepth 100000 in
theorem pr_rate {w : ax_W} (hI : INV w) (a1 a2 a3 a4 : Int32) : PrL M_X10_rate M_X11_rate [.int a1, .int a2, .int a3, .int a4] w := by
  refine hI (fun w => PrL M_X10_rate M_X11_rate [.int a1, .int a2, .int a3, .int a4] w) ?_
  intro tr fl pl wl wd f1_3 f1_4 f10_0 f10_1 f10_2 f10_3 f12_5 f12_6 f12_7 f12_8 f12_9 f18_7 f18_8 f18_9 f18_10 f25_3 m_thrown m_where m_readLinks m_readTracers m_readPoints m_readPairs m_textLong m_at m_spot m_token m_whole m_readFault m_readPlace m_value m_curveMany m_cornerMany m_straightAt m_lined f11_0 f11_1 f11_2 f11_3 f11_4 f11_5 f11_6 f11_7 f11_8 f11_9 f11_10 f11_11 f11_12 f11_13 f11_14 f11_15 f18_11 f18_12 m_n m_c m_d m_s m_e m_k m_x m_y m_g m_a m_fitUp m_fitDown m_worstUp m_worstDown r2 r3 r5 r6 r8 r9 r13 r14 r15 r26 r27 r28 r30 r31 r32 q3 q4 q5 q6 q7 q8 q9 q10 q11 q12 q13 q14 q15 q16 q18 q19 q20 r19 r20 r21 r22 r23 r24 q17 L nl nt np nr wa wb f n so ch hW hT hD hP hK hA
  by_cases e0 : a4 = 0
  · subst e0
    refine ⟨_, c_X10_rate (h_c0 := (dk_c0 hD)) (h_q1 := (fun z1 z2 z3 => (kr_ne a3 (dk_okB hD (dkl hD z1.1)) z1.2.1).1)) (h_q2 := (fun z1 z2 z3 => (kr_ne a3 (dk_okB hD (dkl hD z1.1)) z1.2.1).2.1)) (h_q3 := (fun z1 z2 z3 => (kr_ne a3 (dk_okB hD (dkl hD z1.1)) z1.2.1).2.2)), ?_⟩
    rintro r w' (⟨f1, f2, f3, rfl, rfl⟩ | ⟨f1, f2, f3, rfl, rfl⟩ | ⟨f1, f2, rfl, rfl⟩ | ⟨f1, rfl, rfl⟩)
    · rw [hD.1.1] at f1
      obtain ⟨b1, b2, b3, b4, b5⟩ := dk_bars hD f1.1
      refine ⟨rfl, rfl, ⟨_, rfl⟩, _, c_X11_rate_0 (h_l := (dk_m0 hD)) (h_q1 := (fun z1 z2 z3 z4 => (rate_m a3 (sg_n z4) (dk_bars hD z1.1).2.2.2.2 z1.2.1 z2 z3).1.1)) (h_q2 := (fun z1 z2 z3 z4 => (rate_m a3 (sg_n z4) (dk_bars hD z1.1).2.2.2.2 z1.2.1 z2 z3).1.2.1)) (h_q3 := (fun z1 z2 z3 z4 => g2_ne (rate_m a3 (sg_n z4) (dk_bars hD z1.1).2.2.2.2 z1.2.1 z2 z3).1.1 (rate_m a3 (sg_n z4) (dk_bars hD z1.1).2.2.2.2 z1.2.1 z2 z3).1.2.1)) (h_q4 := (fun z1 z2 z3 z4 => (rate_m a3 (sg_n z4) (dk_bars hD z1.1).2.2.2.2 z1.2.1 z2 z3).1.2.2.1)) (h_q5 := (fun z1 z2 z3 z4 => (rate_m a3 (sg_n z4) (dk_bars hD z1.1).2.2.2.2 z1.2.1 z2 z3).1.2.2.2)) (h_q6 := (fun z1 z2 z3 z4 => (rate_m a3 (show (-2 : Int64) = -2 * Sgn a3 from by rw [z4]; exact sg_0) (dk_bars hD z1.1).2.2.2.2 z1.2.1 z2 z3).1.1)) (h_q7 := (fun z1 z2 z3 z4 => (rate_m a3 (show (-2 : Int64) = -2 * Sgn a3 from by rw [z4]; exact sg_0) (dk_bars hD z1.1).2.2.2.2 z1.2.1 z2 z3).1.2.1)) (h_q8 := (fun z1 z2 z3 z4 => g2_ne (rate_m a3 (show (-2 : Int64) = -2 * Sgn a3 from by rw [z4]; exact sg_0) (dk_bars hD z1.1).2.2.2.2 z1.2.1 z2 z3).1.1 (rate_m a3 (show (-2 : Int64) = -2 * Sgn a3 from by rw [z4]; exact sg_0) (dk_bars hD z1.1).2.2.2.2 z1.2.1 z2 z3).1.2.1)) (h_q9 := (fun z1 z2 z3 z4 => (rate_m a3 (show (-2 : Int64) = -2 * Sgn a3 from by rw [z4]; exact sg_0) (dk_bars hD z1.1).2.2.2.2 z1.2.1 z2 z3).1.2.2.1)) (h_q10 := (fun z1 z2 z3 z4 => (rate_m a3 (show (-2 : Int64) = -2 * Sgn a3 from by rw [z4]; exact sg_0) (dk_bars hD z1.1).2.2.2.2 z1.2.1 z2 z3).1.2.2.2)), ?_⟩
      rintro r2 w2 (⟨g1, g2, g3, g4, rfl, rfl⟩ | ⟨g1, g2, g3, g4, rfl, rfl⟩ | ⟨g1, g2, g3, rfl, rfl⟩ | ⟨g1, g2, rfl, rfl⟩ | ⟨g1, rfl, rfl⟩)
      · rw [law_e hD f1.1 f1.2.1] at g2
        exact absurd ⟨g2, by rw [← (kk_e hD f1.1 f1.2.1).1]; exact g3⟩ (fun z => f3 (st1.mpr z))
      · rw [law_e hD f1.1 f1.2.1] at g2
        exact absurd ⟨g2, by rw [← (kk_e hD f1.1 f1.2.1).1]; exact g3⟩ (fun z => f3 (st1.mpr z))
      · rw [law_e hD f1.1 f1.2.1] at g2
        exact ⟨rfl, ⟨_, rfl⟩, inv_mk (fun z => absurd z (by decide)) hT hD hP hK hA⟩
      · rw [law_e hD f1.1 f1.2.1] at g2
        exact ⟨rfl, ⟨_, rfl⟩, inv_mk (fun z => absurd z (by decide)) hT hD hP hK hA⟩
      · exact absurd f1 g1
    · rw [hD.1.1] at f1
      obtain ⟨b1, b2, b3, b4, b5⟩ := dk_bars hD f1.1
      refine ⟨rfl, rfl, ⟨_, rfl⟩, _, c_X11_rate_0 (h_l := (dk_m0 hD)) (h_q1 := (fun z1 z2 z3 z4 => (rate_m a3 (sg_n z4) (dk_bars hD z1.1).2.2.2.2 z1.2.1 z2 z3).1.1)) (h_q2 := (fun z1 z2 z3 z4 => (rate_m a3 (sg_n z4) (dk_bars hD z1.1).2.2.2.2 z1.2.1 z2 z3).1.2.1)) (h_q3 := (fun z1 z2 z3 z4 => g2_ne (rate_m a3 (sg_n z4) (dk_bars hD z1.1).2.2.2.2 z1.2.1 z2 z3).1.1 (rate_m a3 (sg_n z4) (dk_bars hD z1.1).2.2.2.2 z1.2.1 z2 z3).1.2.1)) (h_q4 := (fun z1 z2 z3 z4 => (rate_m a3 (sg_n z4) (dk_bars hD z1.1).2.2.2.2 z1.2.1 z2 z3).1.2.2.1)) (h_q5 := (fun z1 z2 z3 z4 => (rate_m a3 (sg_n z4) (dk_bars hD z1.1).2.2.2.2 z1.2.1 z2 z3).1.2.2.2)) (h_q6 := (fun z1 z2 z3 z4 => (rate_m a3 (show (-2 : Int64) = -2 * Sgn a3 from by rw [z4]; exact sg_0) (dk_bars hD z1.1).2.2.2.2 z1.2.1 z2 z3).1.1)) (h_q7 := (fun z1 z2 z3 z4 => (rate_m a3 (show (-2 : Int64) = -2 * Sgn a3 from by rw [z4]; exact sg_0) (dk_bars hD z1.1).2.2.2.2 z1.2.1 z2 z3).1.2.1)) (h_q8 := (fun z1 z2 z3 z4 => g2_ne (rate_m a3 (show (-2 : Int64) = -2 * Sgn a3 from by rw [z4]; exact sg_0) (dk_bars hD z1.1).2.2.2.2 z1.2.1 z2 z3).1.1 (rate_m a3 (show (-2 : Int64) = -2 * Sgn a3 from by rw [z4]; exact sg_0) (dk_bars hD z1.1).2.2.2.2 z1.2.1 z2 z3).1.2.1)) (h_q9 := (fun z1 z2 z3 z4 => (rate_m a3 (show (-2 : Int64) = -2 * Sgn a3 from by rw [z4]; exact sg_0) (dk_bars hD z1.1).2.2.2.2 z1.2.1 z2 z3).1.2.2.1)) (h_q10 := (fun z1 z2 z3 z4 => (rate_m a3 (show (-2 : Int64) = -2 * Sgn a3 from by rw [z4]; exact sg_0) (dk_bars hD z1.1).2.2.2.2 z1.2.1 z2 z3).1.2.2.2)), ?_⟩
      rintro r2 w2 (⟨g1, g2, g3, g4, rfl, rfl⟩ | ⟨g1, g2, g3, g4, rfl, rfl⟩ | ⟨g1, g2, g3, rfl, rfl⟩ | ⟨g1, g2, rfl, rfl⟩ | ⟨g1, rfl, rfl⟩)
      · rw [law_e hD f1.1 f1.2.1] at g2
        exact ⟨by rw [b1, b2, b3, b4]; exact congrArg (fun v => some (Value.long v)) (rate_m a3 (sg_n g4) b5 f1.2.1 ((law_e hD f1.1 f1.2.1).mpr g2) g3).2.1, ⟨_, rfl⟩, inv_mk (fun z => absurd z (by decide)) hT hD hP hK hA⟩
      · rw [law_e hD f1.1 f1.2.1] at g2
        exact ⟨by rw [b1, b2, b3, b4]; exact congrArg (fun v => some (Value.long v)) (rate_m a3 (show (-2 : Int64) = -2 * Sgn a3 from by rw [g4]; exact sg_0) b5 f1.2.1 ((law_e hD f1.1 f1.2.1).mpr g2) g3).2.1, ⟨_, rfl⟩, inv_mk (fun z => absurd z (by decide)) hT hD hP hK hA⟩
      · rw [law_e hD f1.1 f1.2.1] at g2
        exact absurd ((kk_e hD f1.1 f1.2.1).1.symm.trans g3) (st1.mp f3).2
      · rw [law_e hD f1.1 f1.2.1] at g2
        exact absurd (st1.mp f3).1 g2
      · exact absurd f1 g1
    · rw [hD.1.1] at f1
      obtain ⟨b1, b2, b3, b4, b5⟩ := dk_bars hD f1.1
      refine ⟨rfl, rfl, ⟨_, rfl⟩, _, c_X11_rate_0 (h_l := (dk_m0 hD)) (h_q1 := (fun z1 z2 z3 z4 => (rate_m a3 (sg_n z4) (dk_bars hD z1.1).2.2.2.2 z1.2.1 z2 z3).1.1)) (h_q2 := (fun z1 z2 z3 z4 => (rate_m a3 (sg_n z4) (dk_bars hD z1.1).2.2.2.2 z1.2.1 z2 z3).1.2.1)) (h_q3 := (fun z1 z2 z3 z4 => g2_ne (rate_m a3 (sg_n z4) (dk_bars hD z1.1).2.2.2.2 z1.2.1 z2 z3).1.1 (rate_m a3 (sg_n z4) (dk_bars hD z1.1).2.2.2.2 z1.2.1 z2 z3).1.2.1)) (h_q4 := (fun z1 z2 z3 z4 => (rate_m a3 (sg_n z4) (dk_bars hD z1.1).2.2.2.2 z1.2.1 z2 z3).1.2.2.1)) (h_q5 := (fun z1 z2 z3 z4 => (rate_m a3 (sg_n z4) (dk_bars hD z1.1).2.2.2.2 z1.2.1 z2 z3).1.2.2.2)) (h_q6 := (fun z1 z2 z3 z4 => (rate_m a3 (show (-2 : Int64) = -2 * Sgn a3 from by rw [z4]; exact sg_0) (dk_bars hD z1.1).2.2.2.2 z1.2.1 z2 z3).1.1)) (h_q7 := (fun z1 z2 z3 z4 => (rate_m a3 (show (-2 : Int64) = -2 * Sgn a3 from by rw [z4]; exact sg_0) (dk_bars hD z1.1).2.2.2.2 z1.2.1 z2 z3).1.2.1)) (h_q8 := (fun z1 z2 z3 z4 => g2_ne (rate_m a3 (show (-2 : Int64) = -2 * Sgn a3 from by rw [z4]; exact sg_0) (dk_bars hD z1.1).2.2.2.2 z1.2.1 z2 z3).1.1 (rate_m a3 (show (-2 : Int64) = -2 * Sgn a3 from by rw [z4]; exact sg_0) (dk_bars hD z1.1).2.2.2.2 z1.2.1 z2 z3).1.2.1)) (h_q9 := (fun z1 z2 z3 z4 => (rate_m a3 (show (-2 : Int64) = -2 * Sgn a3 from by rw [z4]; exact sg_0) (dk_bars hD z1.1).2.2.2.2 z1.2.1 z2 z3).1.2.2.1)) (h_q10 := (fun z1 z2 z3 z4 => (rate_m a3 (show (-2 : Int64) = -2 * Sgn a3 from by rw [z4]; exact sg_0) (dk_bars hD z1.1).2.2.2.2 z1.2.1 z2 z3).1.2.2.2)), ?_⟩
      rintro r2 w2 (⟨g1, g2, g3, g4, rfl, rfl⟩ | ⟨g1, g2, g3, g4, rfl, rfl⟩ | ⟨g1, g2, g3, rfl, rfl⟩ | ⟨g1, g2, rfl, rfl⟩ | ⟨g1, rfl, rfl⟩)
      · exact absurd f2 (by decide)
      · exact absurd f2 (by decide)
      · exact absurd f2 (by decide)
      · exact absurd f2 (by decide)
      · exact absurd f2 (by decide)
    · rw [hD.1.1] at f1
      refine ⟨rfl, rfl, ⟨_, rfl⟩, _, c_X11_rate_0 (h_l := (dk_m0 hD)) (h_q1 := (fun z1 z2 z3 z4 => (rate_m a3 (sg_n z4) (dk_bars hD z1.1).2.2.2.2 z1.2.1 z2 z3).1.1)) (h_q2 := (fun z1 z2 z3 z4 => (rate_m a3 (sg_n z4) (dk_bars hD z1.1).2.2.2.2 z1.2.1 z2 z3).1.2.1)) (h_q3 := (fun z1 z2 z3 z4 => g2_ne (rate_m a3 (sg_n z4) (dk_bars hD z1.1).2.2.2.2 z1.2.1 z2 z3).1.1 (rate_m a3 (sg_n z4) (dk_bars hD z1.1).2.2.2.2 z1.2.1 z2 z3).1.2.1)) (h_q4 := (fun z1 z2 z3 z4 => (rate_m a3 (sg_n z4) (dk_bars hD z1.1).2.2.2.2 z1.2.1 z2 z3).1.2.2.1)) (h_q5 := (fun z1 z2 z3 z4 => (rate_m a3 (sg_n z4) (dk_bars hD z1.1).2.2.2.2 z1.2.1 z2 z3).1.2.2.2)) (h_q6 := (fun z1 z2 z3 z4 => (rate_m a3 (show (-2 : Int64) = -2 * Sgn a3 from by rw [z4]; exact sg_0) (dk_bars hD z1.1).2.2.2.2 z1.2.1 z2 z3).1.1)) (h_q7 := (fun z1 z2 z3 z4 => (rate_m a3 (show (-2 : Int64) = -2 * Sgn a3 from by rw [z4]; exact sg_0) (dk_bars hD z1.1).2.2.2.2 z1.2.1 z2 z3).1.2.1)) (h_q8 := (fun z1 z2 z3 z4 => g2_ne (rate_m a3 (show (-2 : Int64) = -2 * Sgn a3 from by rw [z4]; exact sg_0) (dk_bars hD z1.1).2.2.2.2 z1.2.1 z2 z3).1.1 (rate_m a3 (show (-2 : Int64) = -2 * Sgn a3 from by rw [z4]; exact sg_0) (dk_bars hD z1.1).2.2.2.2 z1.2.1 z2 z3).1.2.1)) (h_q9 := (fun z1 z2 z3 z4 => (rate_m a3 (show (-2 : Int64) = -2 * Sgn a3 from by rw [z4]; exact sg_0) (dk_bars hD z1.1).2.2.2.2 z1.2.1 z2 z3).1.2.2.1)) (h_q10 := (fun z1 z2 z3 z4 => (rate_m a3 (show (-2 : Int64) = -2 * Sgn a3 from by rw [z4]; exact sg_0) (dk_bars hD z1.1).2.2.2.2 z1.2.1 z2 z3).1.2.2.2)), ?_⟩
      rintro r2 w2 (⟨g1, g2, g3, g4, rfl, rfl⟩ | ⟨g1, g2, g3, g4, rfl, rfl⟩ | ⟨g1, g2, g3, rfl, rfl⟩ | ⟨g1, g2, rfl, rfl⟩ | ⟨g1, rfl, rfl⟩)
      · exact absurd g1 f1
      · exact absurd g1 f1
      · exact absurd g1 f1
      · exact absurd g1 f1
      · exact ⟨rfl, ⟨_, rfl⟩, inv_mk (fun z => absurd z (by decide)) hT hD hP hK hA⟩
  by_cases e1 : a4 = 1
  · subst e1
    refine ⟨_, c_X10_rate (h_c0 := (dk_c0 hD)) (h_q1 := (fun z1 z2 z3 => (kr_ne a3 (dk_okB hD (dkl hD z1.1)) z1.2.1).1)) (h_q2 := (fun z1 z2 z3 => (kr_ne a3 (dk_okB hD (dkl hD z1.1)) z1.2.1).2.1)) (h_q3 := (fun z1 z2 z3 => (kr_ne a3 (dk_okB hD (dkl hD z1.1)) z1.2.1).2.2)), ?_⟩
    rintro r w' (⟨f1, f2, f3, rfl, rfl⟩ | ⟨f1, f2, f3, rfl, rfl⟩ | ⟨f1, f2, rfl, rfl⟩ | ⟨f1, rfl, rfl⟩)
    · rw [hD.1.1] at f1
      obtain ⟨b1, b2, b3, b4, b5⟩ := dk_bars hD f1.1
      refine ⟨rfl, rfl, ⟨_, rfl⟩, _, c_X11_rate_1 (h_l := (dk_m0 hD)) (h_q1 := (fun z1 z2 z3 z4 => (rate_m a3 (sg_n z4) (dk_bars hD z1.1).2.2.2.2 z1.2.1 z2 z3).1.1)) (h_q2 := (fun z1 z2 z3 z4 => (rate_m a3 (sg_n z4) (dk_bars hD z1.1).2.2.2.2 z1.2.1 z2 z3).1.2.1)) (h_q3 := (fun z1 z2 z3 z4 => g2_ne (rate_m a3 (sg_n z4) (dk_bars hD z1.1).2.2.2.2 z1.2.1 z2 z3).1.1 (rate_m a3 (sg_n z4) (dk_bars hD z1.1).2.2.2.2 z1.2.1 z2 z3).1.2.1)) (h_q4 := (fun z1 z2 z3 z4 => (rate_m a3 (sg_n z4) (dk_bars hD z1.1).2.2.2.2 z1.2.1 z2 z3).1.2.2.1)) (h_q5 := (fun z1 z2 z3 z4 => (rate_m a3 (sg_n z4) (dk_bars hD z1.1).2.2.2.2 z1.2.1 z2 z3).1.2.2.2)) (h_q6 := (fun z1 z2 z3 z4 => (rate_m a3 (show (-2 : Int64) = -2 * Sgn a3 from by rw [z4]; exact sg_0) (dk_bars hD z1.1).2.2.2.2 z1.2.1 z2 z3).1.1)) (h_q7 := (fun z1 z2 z3 z4 => (rate_m a3 (show (-2 : Int64) = -2 * Sgn a3 from by rw [z4]; exact sg_0) (dk_bars hD z1.1).2.2.2.2 z1.2.1 z2 z3).1.2.1)) (h_q8 := (fun z1 z2 z3 z4 => g2_ne (rate_m a3 (show (-2 : Int64) = -2 * Sgn a3 from by rw [z4]; exact sg_0) (dk_bars hD z1.1).2.2.2.2 z1.2.1 z2 z3).1.1 (rate_m a3 (show (-2 : Int64) = -2 * Sgn a3 from by rw [z4]; exact sg_0) (dk_bars hD z1.1).2.2.2.2 z1.2.1 z2 z3).1.2.1)) (h_q9 := (fun z1 z2 z3 z4 => (rate_m a3 (show (-2 : Int64) = -2 * Sgn a3 from by rw [z4]; exact sg_0) (dk_bars hD z1.1).2.2.2.2 z1.2.1 z2 z3).1.2.2.1)) (h_q10 := (fun z1 z2 z3 z4 => (rate_m a3 (show (-2 : Int64) = -2 * Sgn a3 from by rw [z4]; exact sg_0) (dk_bars hD z1.1).2.2.2.2 z1.2.1 z2 z3).1.2.2.2)), ?_⟩
      rintro r2 w2 (⟨g1, g2, g3, g4, rfl, rfl⟩ | ⟨g1, g2, g3, g4, rfl, rfl⟩ | ⟨g1, g2, g3, rfl, rfl⟩ | ⟨g1, g2, rfl, rfl⟩ | ⟨g1, rfl, rfl⟩)
      · rw [law_e hD f1.1 f1.2.1] at g2
        exact absurd ⟨g2, by rw [← (kk_e hD f1.1 f1.2.1).1]; exact g3⟩ (fun z => f3 (st1.mpr z))
      · rw [law_e hD f1.1 f1.2.1] at g2
        exact absurd ⟨g2, by rw [← (kk_e hD f1.1 f1.2.1).1]; exact g3⟩ (fun z => f3 (st1.mpr z))
      · rw [law_e hD f1.1 f1.2.1] at g2
        exact ⟨rfl, ⟨_, rfl⟩, inv_mk (fun z => absurd z (by decide)) hT hD hP hK hA⟩
      · rw [law_e hD f1.1 f1.2.1] at g2
        exact ⟨rfl, ⟨_, rfl⟩, inv_mk (fun z => absurd z (by decide)) hT hD hP hK hA⟩
      · exact absurd f1 g1
    · rw [hD.1.1] at f1
      obtain ⟨b1, b2, b3, b4, b5⟩ := dk_bars hD f1.1
      refine ⟨rfl, rfl, ⟨_, rfl⟩, _, c_X11_rate_1 (h_l := (dk_m0 hD)) (h_q1 := (fun z1 z2 z3 z4 => (rate_m a3 (sg_n z4) (dk_bars hD z1.1).2.2.2.2 z1.2.1 z2 z3).1.1)) (h_q2 := (fun z1 z2 z3 z4 => (rate_m a3 (sg_n z4) (dk_bars hD z1.1).2.2.2.2 z1.2.1 z2 z3).1.2.1)) (h_q3 := (fun z1 z2 z3 z4 => g2_ne (rate_m a3 (sg_n z4) (dk_bars hD z1.1).2.2.2.2 z1.2.1 z2 z3).1.1 (rate_m a3 (sg_n z4) (dk_bars hD z1.1).2.2.2.2 z1.2.1 z2 z3).1.2.1)) (h_q4 := (fun z1 z2 z3 z4 => (rate_m a3 (sg_n z4) (dk_bars hD z1.1).2.2.2.2 z1.2.1 z2 z3).1.2.2.1)) (h_q5 := (fun z1 z2 z3 z4 => (rate_m a3 (sg_n z4) (dk_bars hD z1.1).2.2.2.2 z1.2.1 z2 z3).1.2.2.2)) (h_q6 := (fun z1 z2 z3 z4 => (rate_m a3 (show (-2 : Int64) = -2 * Sgn a3 from by rw [z4]; exact sg_0) (dk_bars hD z1.1).2.2.2.2 z1.2.1 z2 z3).1.1)) (h_q7 := (fun z1 z2 z3 z4 => (rate_m a3 (show (-2 : Int64) = -2 * Sgn a3 from by rw [z4]; exact sg_0) (dk_bars hD z1.1).2.2.2.2 z1.2.1 z2 z3).1.2.1)) (h_q8 := (fun z1 z2 z3 z4 => g2_ne (rate_m a3 (show (-2 : Int64) = -2 * Sgn a3 from by rw [z4]; exact sg_0) (dk_bars hD z1.1).2.2.2.2 z1.2.1 z2 z3).1.1 (rate_m a3 (show (-2 : Int64) = -2 * Sgn a3 from by rw [z4]; exact sg_0) (dk_bars hD z1.1).2.2.2.2 z1.2.1 z2 z3).1.2.1)) (h_q9 := (fun z1 z2 z3 z4 => (rate_m a3 (show (-2 : Int64) = -2 * Sgn a3 from by rw [z4]; exact sg_0) (dk_bars hD z1.1).2.2.2.2 z1.2.1 z2 z3).1.2.2.1)) (h_q10 := (fun z1 z2 z3 z4 => (rate_m a3 (show (-2 : Int64) = -2 * Sgn a3 from by rw [z4]; exact sg_0) (dk_bars hD z1.1).2.2.2.2 z1.2.1 z2 z3).1.2.2.2)), ?_⟩
      rintro r2 w2 (⟨g1, g2, g3, g4, rfl, rfl⟩ | ⟨g1, g2, g3, g4, rfl, rfl⟩ | ⟨g1, g2, g3, rfl, rfl⟩ | ⟨g1, g2, rfl, rfl⟩ | ⟨g1, rfl, rfl⟩)
      · rw [law_e hD f1.1 f1.2.1] at g2
        exact ⟨by rw [b1, b2, b3, b4]; exact congrArg (fun v => some (Value.long v)) (rate_m a3 (sg_n g4) b5 f1.2.1 ((law_e hD f1.1 f1.2.1).mpr g2) g3).2.2.1, ⟨_, rfl⟩, inv_mk (fun z => absurd z (by decide)) hT hD hP hK hA⟩
      · rw [law_e hD f1.1 f1.2.1] at g2
        exact ⟨by rw [b1, b2, b3, b4]; exact congrArg (fun v => some (Value.long v)) (rate_m a3 (show (-2 : Int64) = -2 * Sgn a3 from by rw [g4]; exact sg_0) b5 f1.2.1 ((law_e hD f1.1 f1.2.1).mpr g2) g3).2.2.1, ⟨_, rfl⟩, inv_mk (fun z => absurd z (by decide)) hT hD hP hK hA⟩
      · rw [law_e hD f1.1 f1.2.1] at g2
        exact absurd ((kk_e hD f1.1 f1.2.1).1.symm.trans g3) (st1.mp f3).2
      · rw [law_e hD f1.1 f1.2.1] at g2
        exact absurd (st1.mp f3).1 g2
      · exact absurd f1 g1
    · rw [hD.1.1] at f1
      obtain ⟨b1, b2, b3, b4, b5⟩ := dk_bars hD f1.1
      refine ⟨rfl, rfl, ⟨_, rfl⟩, _, c_X11_rate_1 (h_l := (dk_m0 hD)) (h_q1 := (fun z1 z2 z3 z4 => (rate_m a3 (sg_n z4) (dk_bars hD z1.1).2.2.2.2 z1.2.1 z2 z3).1.1)) (h_q2 := (fun z1 z2 z3 z4 => (rate_m a3 (sg_n z4) (dk_bars hD z1.1).2.2.2.2 z1.2.1 z2 z3).1.2.1)) (h_q3 := (fun z1 z2 z3 z4 => g2_ne (rate_m a3 (sg_n z4) (dk_bars hD z1.1).2.2.2.2 z1.2.1 z2 z3).1.1 (rate_m a3 (sg_n z4) (dk_bars hD z1.1).2.2.2.2 z1.2.1 z2 z3).1.2.1)) (h_q4 := (fun z1 z2 z3 z4 => (rate_m a3 (sg_n z4) (dk_bars hD z1.1).2.2.2.2 z1.2.1 z2 z3).1.2.2.1)) (h_q5 := (fun z1 z2 z3 z4 => (rate_m a3 (sg_n z4) (dk_bars hD z1.1).2.2.2.2 z1.2.1 z2 z3).1.2.2.2)) (h_q6 := (fun z1 z2 z3 z4 => (rate_m a3 (show (-2 : Int64) = -2 * Sgn a3 from by rw [z4]; exact sg_0) (dk_bars hD z1.1).2.2.2.2 z1.2.1 z2 z3).1.1)) (h_q7 := (fun z1 z2 z3 z4 => (rate_m a3 (show (-2 : Int64) = -2 * Sgn a3 from by rw [z4]; exact sg_0) (dk_bars hD z1.1).2.2.2.2 z1.2.1 z2 z3).1.2.1)) (h_q8 := (fun z1 z2 z3 z4 => g2_ne (rate_m a3 (show (-2 : Int64) = -2 * Sgn a3 from by rw [z4]; exact sg_0) (dk_bars hD z1.1).2.2.2.2 z1.2.1 z2 z3).1.1 (rate_m a3 (show (-2 : Int64) = -2 * Sgn a3 from by rw [z4]; exact sg_0) (dk_bars hD z1.1).2.2.2.2 z1.2.1 z2 z3).1.2.1)) (h_q9 := (fun z1 z2 z3 z4 => (rate_m a3 (show (-2 : Int64) = -2 * Sgn a3 from by rw [z4]; exact sg_0) (dk_bars hD z1.1).2.2.2.2 z1.2.1 z2 z3).1.2.2.1)) (h_q10 := (fun z1 z2 z3 z4 => (rate_m a3 (show (-2 : Int64) = -2 * Sgn a3 from by rw [z4]; exact sg_0) (dk_bars hD z1.1).2.2.2.2 z1.2.1 z2 z3).1.2.2.2)), ?_⟩
      rintro r2 w2 (⟨g1, g2, g3, g4, rfl, rfl⟩ | ⟨g1, g2, g3, g4, rfl, rfl⟩ | ⟨g1, g2, g3, rfl, rfl⟩ | ⟨g1, g2, rfl, rfl⟩ | ⟨g1, rfl, rfl⟩)
      · exact absurd f2 (by decide)
      · exact absurd f2 (by decide)
      · exact absurd f2 (by decide)
      · exact absurd f2 (by decide)
      · exact absurd f2 (by decide)
    · rw [hD.1.1] at f1
      refine ⟨rfl, rfl, ⟨_, rfl⟩, _, c_X11_rate_1 (h_l := (dk_m0 hD)) (h_q1 := (fun z1 z2 z3 z4 => (rate_m a3 (sg_n z4) (dk_bars hD z1.1).2.2.2.2 z1.2.1 z2 z3).1.1)) (h_q2 := (fun z1 z2 z3 z4 => (rate_m a3 (sg_n z4) (dk_bars hD z1.1).2.2.2.2 z1.2.1 z2 z3).1.2.1)) (h_q3 := (fun z1 z2 z3 z4 => g2_ne (rate_m a3 (sg_n z4) (dk_bars hD z1.1).2.2.2.2 z1.2.1 z2 z3).1.1 (rate_m a3 (sg_n z4) (dk_bars hD z1.1).2.2.2.2 z1.2.1 z2 z3).1.2.1)) (h_q4 := (fun z1 z2 z3 z4 => (rate_m a3 (sg_n z4) (dk_bars hD z1.1).2.2.2.2 z1.2.1 z2 z3).1.2.2.1)) (h_q5 := (fun z1 z2 z3 z4 => (rate_m a3 (sg_n z4) (dk_bars hD z1.1).2.2.2.2 z1.2.1 z2 z3).1.2.2.2)) (h_q6 := (fun z1 z2 z3 z4 => (rate_m a3 (show (-2 : Int64) = -2 * Sgn a3 from by rw [z4]; exact sg_0) (dk_bars hD z1.1).2.2.2.2 z1.2.1 z2 z3).1.1)) (h_q7 := (fun z1 z2 z3 z4 => (rate_m a3 (show (-2 : Int64) = -2 * Sgn a3 from by rw [z4]; exact sg_0) (dk_bars hD z1.1).2.2.2.2 z1.2.1 z2 z3).1.2.1)) (h_q8 := (fun z1 z2 z3 z4 => g2_ne (rate_m a3 (show (-2 : Int64) = -2 * Sgn a3 from by rw [z4]; exact sg_0) (dk_bars hD z1.1).2.2.2.2 z1.2.1 z2 z3).1.1 (rate_m a3 (show (-2 : Int64) = -2 * Sgn a3 from by rw [z4]; exact sg_0) (dk_bars hD z1.1).2.2.2.2 z1.2.1 z2 z3).1.2.1)) (h_q9 := (fun z1 z2 z3 z4 => (rate_m a3 (show (-2 : Int64) = -2 * Sgn a3 from by rw [z4]; exact sg_0) (dk_bars hD z1.1).2.2.2.2 z1.2.1 z2 z3).1.2.2.1)) (h_q10 := (fun z1 z2 z3 z4 => (rate_m a3 (show (-2 : Int64) = -2 * Sgn a3 from by rw [z4]; exact sg_0) (dk_bars hD z1.1).2.2.2.2 z1.2.1 z2 z3).1.2.2.2)), ?_⟩
      rintro r2 w2 (⟨g1, g2, g3, g4, rfl, rfl⟩ | ⟨g1, g2, g3, g4, rfl, rfl⟩ | ⟨g1, g2, g3, rfl, rfl⟩ | ⟨g1, g2, rfl, rfl⟩ | ⟨g1, rfl, rfl⟩)
      · exact absurd g1 f1
      · exact absurd g1 f1
      · exact absurd g1 f1
      · exact absurd g1 f1
      · exact ⟨rfl, ⟨_, rfl⟩, inv_mk (fun z => absurd z (by decide)) hT hD hP hK hA⟩
  by_cases e2 : a4 = 2
  · subst e2
    refine ⟨_, c_X10_rate (h_c0 := (dk_c0 hD)) (h_q1 := (fun z1 z2 z3 => (kr_ne a3 (dk_okB hD (dkl hD z1.1)) z1.2.1).1)) (h_q2 := (fun z1 z2 z3 => (kr_ne a3 (dk_okB hD (dkl hD z1.1)) z1.2.1).2.1)) (h_q3 := (fun z1 z2 z3 => (kr_ne a3 (dk_okB hD (dkl hD z1.1)) z1.2.1).2.2)), ?_⟩
    rintro r w' (⟨f1, f2, f3, rfl, rfl⟩ | ⟨f1, f2, f3, rfl, rfl⟩ | ⟨f1, f2, rfl, rfl⟩ | ⟨f1, rfl, rfl⟩)
    · rw [hD.1.1] at f1
      obtain ⟨b1, b2, b3, b4, b5⟩ := dk_bars hD f1.1
      refine ⟨rfl, rfl, ⟨_, rfl⟩, _, c_X11_rate_2 (h_l := (dk_m0 hD)) (h_q1 := (fun z1 z2 z3 z4 => (rate_m a3 (sg_n z4) (dk_bars hD z1.1).2.2.2.2 z1.2.1 z2 z3).1.1)) (h_q2 := (fun z1 z2 z3 z4 => (rate_m a3 (sg_n z4) (dk_bars hD z1.1).2.2.2.2 z1.2.1 z2 z3).1.2.1)) (h_q3 := (fun z1 z2 z3 z4 => g2_ne (rate_m a3 (sg_n z4) (dk_bars hD z1.1).2.2.2.2 z1.2.1 z2 z3).1.1 (rate_m a3 (sg_n z4) (dk_bars hD z1.1).2.2.2.2 z1.2.1 z2 z3).1.2.1)) (h_q4 := (fun z1 z2 z3 z4 => (rate_m a3 (sg_n z4) (dk_bars hD z1.1).2.2.2.2 z1.2.1 z2 z3).1.2.2.1)) (h_q5 := (fun z1 z2 z3 z4 => (rate_m a3 (sg_n z4) (dk_bars hD z1.1).2.2.2.2 z1.2.1 z2 z3).1.2.2.2)) (h_q6 := (fun z1 z2 z3 z4 => (rate_m a3 (show (-2 : Int64) = -2 * Sgn a3 from by rw [z4]; exact sg_0) (dk_bars hD z1.1).2.2.2.2 z1.2.1 z2 z3).1.1)) (h_q7 := (fun z1 z2 z3 z4 => (rate_m a3 (show (-2 : Int64) = -2 * Sgn a3 from by rw [z4]; exact sg_0) (dk_bars hD z1.1).2.2.2.2 z1.2.1 z2 z3).1.2.1)) (h_q8 := (fun z1 z2 z3 z4 => g2_ne (rate_m a3 (show (-2 : Int64) = -2 * Sgn a3 from by rw [z4]; exact sg_0) (dk_bars hD z1.1).2.2.2.2 z1.2.1 z2 z3).1.1 (rate_m a3 (show (-2 : Int64) = -2 * Sgn a3 from by rw [z4]; exact sg_0) (dk_bars hD z1.1).2.2.2.2 z1.2.1 z2 z3).1.2.1)) (h_q9 := (fun z1 z2 z3 z4 => (rate_m a3 (show (-2 : Int64) = -2 * Sgn a3 from by rw [z4]; exact sg_0) (dk_bars hD z1.1).2.2.2.2 z1.2.1 z2 z3).1.2.2.1)) (h_q10 := (fun z1 z2 z3 z4 => (rate_m a3 (show (-2 : Int64) = -2 * Sgn a3 from by rw [z4]; exact sg_0) (dk_bars hD z1.1).2.2.2.2 z1.2.1 z2 z3).1.2.2.2)), ?_⟩
      rintro r2 w2 (⟨g1, g2, g3, g4, rfl, rfl⟩ | ⟨g1, g2, g3, g4, rfl, rfl⟩ | ⟨g1, g2, g3, rfl, rfl⟩ | ⟨g1, g2, rfl, rfl⟩ | ⟨g1, rfl, rfl⟩)
      · rw [law_e hD f1.1 f1.2.1] at g2
        exact absurd ⟨g2, by rw [← (kk_e hD f1.1 f1.2.1).1]; exact g3⟩ (fun z => f3 (st1.mpr z))
      · rw [law_e hD f1.1 f1.2.1] at g2
        exact absurd ⟨g2, by rw [← (kk_e hD f1.1 f1.2.1).1]; exact g3⟩ (fun z => f3 (st1.mpr z))
      · rw [law_e hD f1.1 f1.2.1] at g2
        exact ⟨rfl, ⟨_, rfl⟩, inv_mk (fun z => absurd z (by decide)) hT hD hP hK hA⟩
      · rw [law_e hD f1.1 f1.2.1] at g2
        exact ⟨rfl, ⟨_, rfl⟩, inv_mk (fun z => absurd z (by decide)) hT hD hP hK hA⟩
      · exact absurd f1 g1
    · rw [hD.1.1] at f1
      obtain ⟨b1, b2, b3, b4, b5⟩ := dk_bars hD f1.1
      refine ⟨rfl, rfl, ⟨_, rfl⟩, _, c_X11_rate_2 (h_l := (dk_m0 hD)) (h_q1 := (fun z1 z2 z3 z4 => (rate_m a3 (sg_n z4) (dk_bars hD z1.1).2.2.2.2 z1.2.1 z2 z3).1.1)) (h_q2 := (fun z1 z2 z3 z4 => (rate_m a3 (sg_n z4) (dk_bars hD z1.1).2.2.2.2 z1.2.1 z2 z3).1.2.1)) (h_q3 := (fun z1 z2 z3 z4 => g2_ne (rate_m a3 (sg_n z4) (dk_bars hD z1.1).2.2.2.2 z1.2.1 z2 z3).1.1 (rate_m a3 (sg_n z4) (dk_bars hD z1.1).2.2.2.2 z1.2.1 z2 z3).1.2.1)) (h_q4 := (fun z1 z2 z3 z4 => (rate_m a3 (sg_n z4) (dk_bars hD z1.1).2.2.2.2 z1.2.1 z2 z3).1.2.2.1)) (h_q5 := (fun z1 z2 z3 z4 => (rate_m a3 (sg_n z4) (dk_bars hD z1.1).2.2.2.2 z1.2.1 z2 z3).1.2.2.2)) (h_q6 := (fun z1 z2 z3 z4 => (rate_m a3 (show (-2 : Int64) = -2 * Sgn a3 from by rw [z4]; exact sg_0) (dk_bars hD z1.1).2.2.2.2 z1.2.1 z2 z3).1.1)) (h_q7 := (fun z1 z2 z3 z4 => (rate_m a3 (show (-2 : Int64) = -2 * Sgn a3 from by rw [z4]; exact sg_0) (dk_bars hD z1.1).2.2.2.2 z1.2.1 z2 z3).1.2.1)) (h_q8 := (fun z1 z2 z3 z4 => g2_ne (rate_m a3 (show (-2 : Int64) = -2 * Sgn a3 from by rw [z4]; exact sg_0) (dk_bars hD z1.1).2.2.2.2 z1.2.1 z2 z3).1.1 (rate_m a3 (show (-2 : Int64) = -2 * Sgn a3 from by rw [z4]; exact sg_0) (dk_bars hD z1.1).2.2.2.2 z1.2.1 z2 z3).1.2.1)) (h_q9 := (fun z1 z2 z3 z4 => (rate_m a3 (show (-2 : Int64) = -2 * Sgn a3 from by rw [z4]; exact sg_0) (dk_bars hD z1.1).2.2.2.2 z1.2.1 z2 z3).1.2.2.1)) (h_q10 := (fun z1 z2 z3 z4 => (rate_m a3 (show (-2 : Int64) = -2 * Sgn a3 from by rw [z4]; exact sg_0) (dk_bars hD z1.1).2.2.2.2 z1.2.1 z2 z3).1.2.2.2)), ?_⟩
      rintro r2 w2 (⟨g1, g2, g3, g4, rfl, rfl⟩ | ⟨g1, g2, g3, g4, rfl, rfl⟩ | ⟨g1, g2, g3, rfl, rfl⟩ | ⟨g1, g2, rfl, rfl⟩ | ⟨g1, rfl, rfl⟩)
      · rw [law_e hD f1.1 f1.2.1] at g2
        exact ⟨by rw [b1, b2, b3, b4]; exact congrArg (fun v => some (Value.long v)) (rate_m a3 (sg_n g4) b5 f1.2.1 ((law_e hD f1.1 f1.2.1).mpr g2) g3).2.2.2, ⟨_, rfl⟩, inv_mk (fun z => absurd z (by decide)) hT hD hP hK hA⟩
      · rw [law_e hD f1.1 f1.2.1] at g2
        exact ⟨by rw [b1, b2, b3, b4]; exact congrArg (fun v => some (Value.long v)) (rate_m a3 (show (-2 : Int64) = -2 * Sgn a3 from by rw [g4]; exact sg_0) b5 f1.2.1 ((law_e hD f1.1 f1.2.1).mpr g2) g3).2.2.2, ⟨_, rfl⟩, inv_mk (fun z => absurd z (by decide)) hT hD hP hK hA⟩
      · rw [law_e hD f1.1 f1.2.1] at g2
        exact absurd ((kk_e hD f1.1 f1.2.1).1.symm.trans g3) (st1.mp f3).2
      · rw [law_e hD f1.1 f1.2.1] at g2
        exact absurd (st1.mp f3).1 g2
      · exact absurd f1 g1
    · rw [hD.1.1] at f1
      obtain ⟨b1, b2, b3, b4, b5⟩ := dk_bars hD f1.1
      refine ⟨rfl, rfl, ⟨_, rfl⟩, _, c_X11_rate_2 (h_l := (dk_m0 hD)) (h_q1 := (fun z1 z2 z3 z4 => (rate_m a3 (sg_n z4) (dk_bars hD z1.1).2.2.2.2 z1.2.1 z2 z3).1.1)) (h_q2 := (fun z1 z2 z3 z4 => (rate_m a3 (sg_n z4) (dk_bars hD z1.1).2.2.2.2 z1.2.1 z2 z3).1.2.1)) (h_q3 := (fun z1 z2 z3 z4 => g2_ne (rate_m a3 (sg_n z4) (dk_bars hD z1.1).2.2.2.2 z1.2.1 z2 z3).1.1 (rate_m a3 (sg_n z4) (dk_bars hD z1.1).2.2.2.2 z1.2.1 z2 z3).1.2.1)) (h_q4 := (fun z1 z2 z3 z4 => (rate_m a3 (sg_n z4) (dk_bars hD z1.1).2.2.2.2 z1.2.1 z2 z3).1.2.2.1)) (h_q5 := (fun z1 z2 z3 z4 => (rate_m a3 (sg_n z4) (dk_bars hD z1.1).2.2.2.2 z1.2.1 z2 z3).1.2.2.2)) (h_q6 := (fun z1 z2 z3 z4 => (rate_m a3 (show (-2 : Int64) = -2 * Sgn a3 from by rw [z4]; exact sg_0) (dk_bars hD z1.1).2.2.2.2 z1.2.1 z2 z3).1.1)) (h_q7 := (fun z1 z2 z3 z4 => (rate_m a3 (show (-2 : Int64) = -2 * Sgn a3 from by rw [z4]; exact sg_0) (dk_bars hD z1.1).2.2.2.2 z1.2.1 z2 z3).1.2.1)) (h_q8 := (fun z1 z2 z3 z4 => g2_ne (rate_m a3 (show (-2 : Int64) = -2 * Sgn a3 from by rw [z4]; exact sg_0) (dk_bars hD z1.1).2.2.2.2 z1.2.1 z2 z3).1.1 (rate_m a3 (show (-2 : Int64) = -2 * Sgn a3 from by rw [z4]; exact sg_0) (dk_bars hD z1.1).2.2.2.2 z1.2.1 z2 z3).1.2.1)) (h_q9 := (fun z1 z2 z3 z4 => (rate_m a3 (show (-2 : Int64) = -2 * Sgn a3 from by rw [z4]; exact sg_0) (dk_bars hD z1.1).2.2.2.2 z1.2.1 z2 z3).1.2.2.1)) (h_q10 := (fun z1 z2 z3 z4 => (rate_m a3 (show (-2 : Int64) = -2 * Sgn a3 from by rw [z4]; exact sg_0) (dk_bars hD z1.1).2.2.2.2 z1.2.1 z2 z3).1.2.2.2)), ?_⟩
      rintro r2 w2 (⟨g1, g2, g3, g4, rfl, rfl⟩ | ⟨g1, g2, g3, g4, rfl, rfl⟩ | ⟨g1, g2, g3, rfl, rfl⟩ | ⟨g1, g2, rfl, rfl⟩ | ⟨g1, rfl, rfl⟩)
      · exact absurd f2 (by decide)
      · exact absurd f2 (by decide)
      · exact absurd f2 (by decide)
      · exact absurd f2 (by decide)
      · exact absurd f2 (by decide)
    · rw [hD.1.1] at f1
      refine ⟨rfl, rfl, ⟨_, rfl⟩, _, c_X11_rate_2 (h_l := (dk_m0 hD)) (h_q1 := (fun z1 z2 z3 z4 => (rate_m a3 (sg_n z4) (dk_bars hD z1.1).2.2.2.2 z1.2.1 z2 z3).1.1)) (h_q2 := (fun z1 z2 z3 z4 => (rate_m a3 (sg_n z4) (dk_bars hD z1.1).2.2.2.2 z1.2.1 z2 z3).1.2.1)) (h_q3 := (fun z1 z2 z3 z4 => g2_ne (rate_m a3 (sg_n z4) (dk_bars hD z1.1).2.2.2.2 z1.2.1 z2 z3).1.1 (rate_m a3 (sg_n z4) (dk_bars hD z1.1).2.2.2.2 z1.2.1 z2 z3).1.2.1)) (h_q4 := (fun z1 z2 z3 z4 => (rate_m a3 (sg_n z4) (dk_bars hD z1.1).2.2.2.2 z1.2.1 z2 z3).1.2.2.1)) (h_q5 := (fun z1 z2 z3 z4 => (rate_m a3 (sg_n z4) (dk_bars hD z1.1).2.2.2.2 z1.2.1 z2 z3).1.2.2.2)) (h_q6 := (fun z1 z2 z3 z4 => (rate_m a3 (show (-2 : Int64) = -2 * Sgn a3 from by rw [z4]; exact sg_0) (dk_bars hD z1.1).2.2.2.2 z1.2.1 z2 z3).1.1)) (h_q7 := (fun z1 z2 z3 z4 => (rate_m a3 (show (-2 : Int64) = -2 * Sgn a3 from by rw [z4]; exact sg_0) (dk_bars hD z1.1).2.2.2.2 z1.2.1 z2 z3).1.2.1)) (h_q8 := (fun z1 z2 z3 z4 => g2_ne (rate_m a3 (show (-2 : Int64) = -2 * Sgn a3 from by rw [z4]; exact sg_0) (dk_bars hD z1.1).2.2.2.2 z1.2.1 z2 z3).1.1 (rate_m a3 (show (-2 : Int64) = -2 * Sgn a3 from by rw [z4]; exact sg_0) (dk_bars hD z1.1).2.2.2.2 z1.2.1 z2 z3).1.2.1)) (h_q9 := (fun z1 z2 z3 z4 => (rate_m a3 (show (-2 : Int64) = -2 * Sgn a3 from by rw [z4]; exact sg_0) (dk_bars hD z1.1).2.2.2.2 z1.2.1 z2 z3).1.2.2.1)) (h_q10 := (fun z1 z2 z3 z4 => (rate_m a3 (show (-2 : Int64) = -2 * Sgn a3 from by rw [z4]; exact sg_0) (dk_bars hD z1.1).2.2.2.2 z1.2.1 z2 z3).1.2.2.2)), ?_⟩
      rintro r2 w2 (⟨g1, g2, g3, g4, rfl, rfl⟩ | ⟨g1, g2, g3, g4, rfl, rfl⟩ | ⟨g1, g2, g3, rfl, rfl⟩ | ⟨g1, g2, rfl, rfl⟩ | ⟨g1, rfl, rfl⟩)
      · exact absurd g1 f1
      · exact absurd g1 f1
      · exact absurd g1 f1
      · exact absurd g1 f1
      · exact ⟨rfl, ⟨_, rfl⟩, inv_mk (fun z => absurd z (by decide)) hT hD hP hK hA⟩
  have qo := n02 e0 e1 e2
  refine ⟨_, c_X10_rate (h_c0 := (dk_c0 hD)) (h_q1 := (fun z1 z2 z3 => (kr_ne a3 (dk_okB hD (dkl hD z1.1)) z1.2.1).1)) (h_q2 := (fun z1 z2 z3 => (kr_ne a3 (dk_okB hD (dkl hD z1.1)) z1.2.1).2.1)) (h_q3 := (fun z1 z2 z3 => (kr_ne a3 (dk_okB hD (dkl hD z1.1)) z1.2.1).2.2)), ?_⟩
  rintro r w' (⟨f1, f2, f3, rfl, rfl⟩ | ⟨f1, f2, f3, rfl, rfl⟩ | ⟨f1, f2, rfl, rfl⟩ | ⟨f1, rfl, rfl⟩)
  · rw [hD.1.1] at f1
    obtain ⟨b1, b2, b3, b4, b5⟩ := dk_bars hD f1.1
    refine ⟨rfl, rfl, ⟨_, rfl⟩, _, c_X11_rate_o (h_l := (dk_m0 hD)) (h_o := qo.1), ?_⟩
    rintro r2 w2 (⟨g1, rfl, rfl⟩ | ⟨g1, rfl, rfl⟩)
    · exact absurd f2 qo.2
    · exact absurd f2 qo.2
  · rw [hD.1.1] at f1
    obtain ⟨b1, b2, b3, b4, b5⟩ := dk_bars hD f1.1
    refine ⟨rfl, rfl, ⟨_, rfl⟩, _, c_X11_rate_o (h_l := (dk_m0 hD)) (h_o := qo.1), ?_⟩
    rintro r2 w2 (⟨g1, rfl, rfl⟩ | ⟨g1, rfl, rfl⟩)
    · exact absurd f2 qo.2
    · exact absurd f2 qo.2
  · rw [hD.1.1] at f1
    obtain ⟨b1, b2, b3, b4, b5⟩ := dk_bars hD f1.1
    refine ⟨rfl, rfl, ⟨_, rfl⟩, _, c_X11_rate_o (h_l := (dk_m0 hD)) (h_o := qo.1), ?_⟩
    rintro r2 w2 (⟨g1, rfl, rfl⟩ | ⟨g1, rfl, rfl⟩)
    · exact ⟨rfl, ⟨_, rfl⟩, inv_mk (fun z => absurd z (by decide)) hT hD hP hK hA⟩
    · exact absurd f1 g1
  · rw [hD.1.1] at f1
    refine ⟨rfl, rfl, ⟨_, rfl⟩, _, c_X11_rate_o (h_l := (dk_m0 hD)) (h_o := qo.1), ?_⟩
    rintro r2 w2 (⟨g1, rfl, rfl⟩ | ⟨g1, rfl, rfl⟩)
    · exact absurd g1 f1
    · exact ⟨rfl, ⟨_, rfl⟩, inv_mk (fun z => absurd z (by decide)) hT hD hP hK hA⟩
