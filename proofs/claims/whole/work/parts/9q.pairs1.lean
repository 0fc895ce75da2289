set_option maxRecDepth 100000 in
theorem pr_fault {w : ax_W} (hI : INV w) : PrI M_X10_fault M_X11_fault [] w := by
  refine hI (fun w => PrI M_X10_fault M_X11_fault [] w) ?_
  intro tr fl pl wl wd f1_3 f1_4 f10_0 f10_1 f10_2 f10_3 f12_5 f12_6 f12_7 f12_8 f12_9 f18_7 f18_8 f18_9 f18_10 f25_3 m_thrown m_where m_readLinks m_readTracers m_readPoints m_readPairs m_textLong m_at m_spot m_token m_whole m_readFault m_readPlace m_value m_curveMany m_cornerMany m_straightAt m_lined f11_0 f11_1 f11_2 f11_3 f11_4 f11_5 f11_6 f11_7 f11_8 f11_9 f11_10 f11_11 f11_12 f11_13 f11_14 f11_15 f18_11 f18_12 m_n m_c m_d m_s m_e m_k m_x m_y m_g m_a m_fitUp m_fitDown m_worstUp m_worstDown r2 r3 r5 r6 r8 r9 r13 r14 r15 r26 r27 r28 r30 r31 r32 q3 q4 q5 q6 q7 q8 q9 q10 q11 q12 q13 q14 q15 q16 q18 q19 q20 r19 r20 r21 r22 r23 r24 q17 L nl nt np nr wa wb f n so ch hW hT hD hP hK hA
  refine ⟨_, c_X10_fault, ?_⟩
  rintro r w' ⟨rfl, rfl⟩
  refine ⟨rfl, rfl, ⟨_, rfl⟩, _, c_X11_fault, ?_⟩
  rintro r2 w2 ⟨rfl, rfl⟩
  exact ⟨rfl, ⟨_, rfl⟩, inv_mk hW hT hD hP hK hA⟩
set_option maxRecDepth 100000 in
theorem pr_trouble {w : ax_W} (hI : INV w) : PrI M_X10_trouble M_X11_trouble [] w := by
  refine hI (fun w => PrI M_X10_trouble M_X11_trouble [] w) ?_
  intro tr fl pl wl wd f1_3 f1_4 f10_0 f10_1 f10_2 f10_3 f12_5 f12_6 f12_7 f12_8 f12_9 f18_7 f18_8 f18_9 f18_10 f25_3 m_thrown m_where m_readLinks m_readTracers m_readPoints m_readPairs m_textLong m_at m_spot m_token m_whole m_readFault m_readPlace m_value m_curveMany m_cornerMany m_straightAt m_lined f11_0 f11_1 f11_2 f11_3 f11_4 f11_5 f11_6 f11_7 f11_8 f11_9 f11_10 f11_11 f11_12 f11_13 f11_14 f11_15 f18_11 f18_12 m_n m_c m_d m_s m_e m_k m_x m_y m_g m_a m_fitUp m_fitDown m_worstUp m_worstDown r2 r3 r5 r6 r8 r9 r13 r14 r15 r26 r27 r28 r30 r31 r32 q3 q4 q5 q6 q7 q8 q9 q10 q11 q12 q13 q14 q15 q16 q18 q19 q20 r19 r20 r21 r22 r23 r24 q17 L nl nt np nr wa wb f n so ch hW hT hD hP hK hA
  refine ⟨_, c_X10_trouble, ?_⟩
  rintro r w' ⟨rfl, rfl⟩
  refine ⟨rfl, rfl, ⟨_, rfl⟩, _, c_X11_trouble, ?_⟩
  rintro r2 w2 ⟨rfl, rfl⟩
  exact ⟨rfl, ⟨_, rfl⟩, inv_mk hW hT hD hP hK hA⟩
set_option maxRecDepth 100000 in
theorem pr_angles {w : ax_W} (hI : INV w) : PrI M_X10_angles M_X11_angles [] w := by
  refine hI (fun w => PrI M_X10_angles M_X11_angles [] w) ?_
  intro tr fl pl wl wd f1_3 f1_4 f10_0 f10_1 f10_2 f10_3 f12_5 f12_6 f12_7 f12_8 f12_9 f18_7 f18_8 f18_9 f18_10 f25_3 m_thrown m_where m_readLinks m_readTracers m_readPoints m_readPairs m_textLong m_at m_spot m_token m_whole m_readFault m_readPlace m_value m_curveMany m_cornerMany m_straightAt m_lined f11_0 f11_1 f11_2 f11_3 f11_4 f11_5 f11_6 f11_7 f11_8 f11_9 f11_10 f11_11 f11_12 f11_13 f11_14 f11_15 f18_11 f18_12 m_n m_c m_d m_s m_e m_k m_x m_y m_g m_a m_fitUp m_fitDown m_worstUp m_worstDown r2 r3 r5 r6 r8 r9 r13 r14 r15 r26 r27 r28 r30 r31 r32 q3 q4 q5 q6 q7 q8 q9 q10 q11 q12 q13 q14 q15 q16 q18 q19 q20 r19 r20 r21 r22 r23 r24 q17 L nl nt np nr wa wb f n so ch hW hT hD hP hK hA
  refine ⟨_, c_X10_angles, ?_⟩
  rintro r w' ⟨rfl, rfl⟩
  refine ⟨rfl, rfl, ⟨_, rfl⟩, _, c_X11_angles, ?_⟩
  rintro r2 w2 ⟨rfl, rfl⟩
  exact ⟨rfl, ⟨_, rfl⟩, inv_mk hW hT hD hP hK hA⟩
set_option maxRecDepth 100000 in
theorem pr_where {w : ax_W} (hI : INV w) : PrI M_X10_where M_X11_where [] w := by
  refine hI (fun w => PrI M_X10_where M_X11_where [] w) ?_
  intro tr fl pl wl wd f1_3 f1_4 f10_0 f10_1 f10_2 f10_3 f12_5 f12_6 f12_7 f12_8 f12_9 f18_7 f18_8 f18_9 f18_10 f25_3 m_thrown m_where m_readLinks m_readTracers m_readPoints m_readPairs m_textLong m_at m_spot m_token m_whole m_readFault m_readPlace m_value m_curveMany m_cornerMany m_straightAt m_lined f11_0 f11_1 f11_2 f11_3 f11_4 f11_5 f11_6 f11_7 f11_8 f11_9 f11_10 f11_11 f11_12 f11_13 f11_14 f11_15 f18_11 f18_12 m_n m_c m_d m_s m_e m_k m_x m_y m_g m_a m_fitUp m_fitDown m_worstUp m_worstDown r2 r3 r5 r6 r8 r9 r13 r14 r15 r26 r27 r28 r30 r31 r32 q3 q4 q5 q6 q7 q8 q9 q10 q11 q12 q13 q14 q15 q16 q18 q19 q20 r19 r20 r21 r22 r23 r24 q17 L nl nt np nr wa wb f n so ch hW hT hD hP hK hA
  refine ⟨_, c_X10_where, ?_⟩
  rintro r w' (⟨f1, rfl, rfl⟩ | ⟨f1, rfl, rfl⟩)
  · refine ⟨rfl, rfl, ⟨_, rfl⟩, _, c_X11_where, ?_⟩
    rintro r2 w2 (⟨g1, rfl, rfl⟩ | ⟨g1, rfl, rfl⟩)
    · exact ⟨rfl, ⟨_, rfl⟩, inv_mk hW hT hD hP hK hA⟩
    · exact absurd g1 f1
  · refine ⟨rfl, rfl, ⟨_, rfl⟩, _, c_X11_where, ?_⟩
    rintro r2 w2 (⟨g1, rfl, rfl⟩ | ⟨g1, rfl, rfl⟩)
    · exact absurd f1 g1
    · exact ⟨by rw [hW f1], ⟨_, rfl⟩, inv_mk hW hT hD hP hK hA⟩
set_option maxRecDepth 100000 in
theorem pr_angle {w : ax_W} (hI : INV w) (a1 a2 : Int32) : PrI M_X10_angle M_X11_angle [.int a1, .int a2] w := by
  refine hI (fun w => PrI M_X10_angle M_X11_angle [.int a1, .int a2] w) ?_
  intro tr fl pl wl wd f1_3 f1_4 f10_0 f10_1 f10_2 f10_3 f12_5 f12_6 f12_7 f12_8 f12_9 f18_7 f18_8 f18_9 f18_10 f25_3 m_thrown m_where m_readLinks m_readTracers m_readPoints m_readPairs m_textLong m_at m_spot m_token m_whole m_readFault m_readPlace m_value m_curveMany m_cornerMany m_straightAt m_lined f11_0 f11_1 f11_2 f11_3 f11_4 f11_5 f11_6 f11_7 f11_8 f11_9 f11_10 f11_11 f11_12 f11_13 f11_14 f11_15 f18_11 f18_12 m_n m_c m_d m_s m_e m_k m_x m_y m_g m_a m_fitUp m_fitDown m_worstUp m_worstDown r2 r3 r5 r6 r8 r9 r13 r14 r15 r26 r27 r28 r30 r31 r32 q3 q4 q5 q6 q7 q8 q9 q10 q11 q12 q13 q14 q15 q16 q18 q19 q20 r19 r20 r21 r22 r23 r24 q17 L nl nt np nr wa wb f n so ch hW hT hD hP hK hA
  refine ⟨_, c_X10_angle, ?_⟩
  rintro r w' (⟨f1, f2, f3, rfl, rfl⟩ | ⟨f1, f2, f3, rfl, rfl⟩ | ⟨f1, f2, rfl, rfl⟩ | ⟨f1, rfl, rfl⟩)
  · refine ⟨rfl, rfl, ⟨_, rfl⟩, _, c_X11_angle, ?_⟩
    rintro r2 w2 (⟨g1, g2, g3, rfl, rfl⟩ | ⟨g1, g2, g3, rfl, rfl⟩ | ⟨g1, g2, rfl, rfl⟩ | ⟨g1, rfl, rfl⟩)
    · rw [le39] at g1
      rw [le1] at g2
      exact ⟨rfl, ⟨_, rfl⟩, inv_mk (fun z => absurd z (by decide)) hT hD hP hK hA⟩
    · exact absurd g3 f3
    · rw [le1] at g2
      exact absurd f2 g2
    · rw [le39] at g1
      exact absurd f1 g1
  · refine ⟨rfl, rfl, ⟨_, rfl⟩, _, c_X11_angle, ?_⟩
    rintro r2 w2 (⟨g1, g2, g3, rfl, rfl⟩ | ⟨g1, g2, g3, rfl, rfl⟩ | ⟨g1, g2, rfl, rfl⟩ | ⟨g1, rfl, rfl⟩)
    · exact absurd f3 g3
    · rw [le39] at g1
      rw [le1] at g2
      exact ⟨rfl, ⟨_, rfl⟩, inv_mk (fun z => absurd z (by decide)) hT hD hP hK hA⟩
    · rw [le1] at g2
      exact absurd f2 g2
    · rw [le39] at g1
      exact absurd f1 g1
  · refine ⟨rfl, rfl, ⟨_, rfl⟩, _, c_X11_angle, ?_⟩
    rintro r2 w2 (⟨g1, g2, g3, rfl, rfl⟩ | ⟨g1, g2, g3, rfl, rfl⟩ | ⟨g1, g2, rfl, rfl⟩ | ⟨g1, rfl, rfl⟩)
    · rw [le1] at g2
      exact absurd g2 f2
    · rw [le1] at g2
      exact absurd g2 f2
    · rw [le39] at g1
      rw [le1] at g2
      exact ⟨rfl, ⟨_, rfl⟩, inv_mk (fun z => absurd z (by decide)) hT hD hP hK hA⟩
    · rw [le39] at g1
      exact absurd f1 g1
  · refine ⟨rfl, rfl, ⟨_, rfl⟩, _, c_X11_angle, ?_⟩
    rintro r2 w2 (⟨g1, g2, g3, rfl, rfl⟩ | ⟨g1, g2, g3, rfl, rfl⟩ | ⟨g1, g2, rfl, rfl⟩ | ⟨g1, rfl, rfl⟩)
    · rw [le39] at g1
      exact absurd g1 f1
    · rw [le39] at g1
      exact absurd g1 f1
    · rw [le39] at g1
      exact absurd g1 f1
    · rw [le39] at g1
      exact ⟨rfl, ⟨_, rfl⟩, inv_mk (fun z => absurd z (by decide)) hT hD hP hK hA⟩
set_option maxRecDepth 100000 in
theorem pr_bar {w : ax_W} (hI : INV w) (a1 a2 : Int32) : PrI M_X10_bar M_X11_bar [.int a1, .int a2] w := by
  refine hI (fun w => PrI M_X10_bar M_X11_bar [.int a1, .int a2] w) ?_
  intro tr fl pl wl wd f1_3 f1_4 f10_0 f10_1 f10_2 f10_3 f12_5 f12_6 f12_7 f12_8 f12_9 f18_7 f18_8 f18_9 f18_10 f25_3 m_thrown m_where m_readLinks m_readTracers m_readPoints m_readPairs m_textLong m_at m_spot m_token m_whole m_readFault m_readPlace m_value m_curveMany m_cornerMany m_straightAt m_lined f11_0 f11_1 f11_2 f11_3 f11_4 f11_5 f11_6 f11_7 f11_8 f11_9 f11_10 f11_11 f11_12 f11_13 f11_14 f11_15 f18_11 f18_12 m_n m_c m_d m_s m_e m_k m_x m_y m_g m_a m_fitUp m_fitDown m_worstUp m_worstDown r2 r3 r5 r6 r8 r9 r13 r14 r15 r26 r27 r28 r30 r31 r32 q3 q4 q5 q6 q7 q8 q9 q10 q11 q12 q13 q14 q15 q16 q18 q19 q20 r19 r20 r21 r22 r23 r24 q17 L nl nt np nr wa wb f n so ch hW hT hD hP hK hA
  refine ⟨_, c_X10_bar (h_c0 := (dk_c0 hD)), ?_⟩
  rintro r w' (⟨f1, f2, rfl, rfl⟩ | ⟨f1, f2, rfl, rfl⟩ | ⟨f1, rfl, rfl⟩)
  · rw [hD.1.1] at f1
    obtain ⟨b1, b2, b3, b4, b5⟩ := dk_bars hD f1
    refine ⟨rfl, rfl, ⟨_, rfl⟩, _, c_X11_bar (h_l := (dk_m0 hD)), ?_⟩
    rintro r2 w2 (⟨g1, g2, rfl, rfl⟩ | ⟨g1, g2, rfl, rfl⟩ | ⟨g1, rfl, rfl⟩)
    · rw [le3] at g2
      exact ⟨by rw [dk_bar hD f1 f2], ⟨_, rfl⟩, inv_mk (fun z => absurd z (by decide)) hT hD hP hK hA⟩
    · rw [le3] at g2
      exact absurd f2 g2
    · exact absurd f1 g1
  · rw [hD.1.1] at f1
    obtain ⟨b1, b2, b3, b4, b5⟩ := dk_bars hD f1
    refine ⟨rfl, rfl, ⟨_, rfl⟩, _, c_X11_bar (h_l := (dk_m0 hD)), ?_⟩
    rintro r2 w2 (⟨g1, g2, rfl, rfl⟩ | ⟨g1, g2, rfl, rfl⟩ | ⟨g1, rfl, rfl⟩)
    · rw [le3] at g2
      exact absurd g2 f2
    · rw [le3] at g2
      exact ⟨rfl, ⟨_, rfl⟩, inv_mk (fun z => absurd z (by decide)) hT hD hP hK hA⟩
    · exact absurd f1 g1
  · rw [hD.1.1] at f1
    refine ⟨rfl, rfl, ⟨_, rfl⟩, _, c_X11_bar (h_l := (dk_m0 hD)), ?_⟩
    rintro r2 w2 (⟨g1, g2, rfl, rfl⟩ | ⟨g1, g2, rfl, rfl⟩ | ⟨g1, rfl, rfl⟩)
    · exact absurd g1 f1
    · exact absurd g1 f1
    · exact ⟨rfl, ⟨_, rfl⟩, inv_mk (fun z => absurd z (by decide)) hT hD hP hK hA⟩
set_option maxRecDepth 100000 in
theorem pr_sums {w : ax_W} (hI : INV w) (a1 : Int32) : PrI M_X10_sums M_X11_sums [.int a1] w := by
  refine hI (fun w => PrI M_X10_sums M_X11_sums [.int a1] w) ?_
  intro tr fl pl wl wd f1_3 f1_4 f10_0 f10_1 f10_2 f10_3 f12_5 f12_6 f12_7 f12_8 f12_9 f18_7 f18_8 f18_9 f18_10 f25_3 m_thrown m_where m_readLinks m_readTracers m_readPoints m_readPairs m_textLong m_at m_spot m_token m_whole m_readFault m_readPlace m_value m_curveMany m_cornerMany m_straightAt m_lined f11_0 f11_1 f11_2 f11_3 f11_4 f11_5 f11_6 f11_7 f11_8 f11_9 f11_10 f11_11 f11_12 f11_13 f11_14 f11_15 f18_11 f18_12 m_n m_c m_d m_s m_e m_k m_x m_y m_g m_a m_fitUp m_fitDown m_worstUp m_worstDown r2 r3 r5 r6 r8 r9 r13 r14 r15 r26 r27 r28 r30 r31 r32 q3 q4 q5 q6 q7 q8 q9 q10 q11 q12 q13 q14 q15 q16 q18 q19 q20 r19 r20 r21 r22 r23 r24 q17 L nl nt np nr wa wb f n so ch hW hT hD hP hK hA
  refine ⟨_, c_X10_sums (h_c := (dk_c0 hD)), ?_⟩
  rintro r w' (⟨f1, rfl, rfl⟩ | ⟨f1, rfl, rfl⟩)
  · rw [hD.1.1] at f1
    obtain ⟨b1, b2, b3, b4, b5⟩ := dk_bars hD f1
    refine ⟨rfl, rfl, ⟨_, rfl⟩, _, c_X11_sums (h_l := (dk_m0 hD)), ?_⟩
    rintro r2 w2 (⟨g1, rfl, rfl⟩ | ⟨g1, rfl, rfl⟩)
    · exact ⟨by rw [b1, b2, b3, b4, e_sums (okB_n.mp b5)], ⟨_, rfl⟩, inv_mk (fun z => absurd z (by decide)) hT hD hP hK hA⟩
    · exact absurd f1 g1
  · rw [hD.1.1] at f1
    refine ⟨rfl, rfl, ⟨_, rfl⟩, _, c_X11_sums (h_l := (dk_m0 hD)), ?_⟩
    rintro r2 w2 (⟨g1, rfl, rfl⟩ | ⟨g1, rfl, rfl⟩)
    · exact absurd g1 f1
    · exact ⟨rfl, ⟨_, rfl⟩, inv_mk (fun z => absurd z (by decide)) hT hD hP hK hA⟩
set_option maxRecDepth 100000 in
theorem pr_ends {w : ax_W} (hI : INV w) (a1 : Int32) : PrI M_X10_ends M_X11_ends [.int a1] w := by
  refine hI (fun w => PrI M_X10_ends M_X11_ends [.int a1] w) ?_
  intro tr fl pl wl wd f1_3 f1_4 f10_0 f10_1 f10_2 f10_3 f12_5 f12_6 f12_7 f12_8 f12_9 f18_7 f18_8 f18_9 f18_10 f25_3 m_thrown m_where m_readLinks m_readTracers m_readPoints m_readPairs m_textLong m_at m_spot m_token m_whole m_readFault m_readPlace m_value m_curveMany m_cornerMany m_straightAt m_lined f11_0 f11_1 f11_2 f11_3 f11_4 f11_5 f11_6 f11_7 f11_8 f11_9 f11_10 f11_11 f11_12 f11_13 f11_14 f11_15 f18_11 f18_12 m_n m_c m_d m_s m_e m_k m_x m_y m_g m_a m_fitUp m_fitDown m_worstUp m_worstDown r2 r3 r5 r6 r8 r9 r13 r14 r15 r26 r27 r28 r30 r31 r32 q3 q4 q5 q6 q7 q8 q9 q10 q11 q12 q13 q14 q15 q16 q18 q19 q20 r19 r20 r21 r22 r23 r24 q17 L nl nt np nr wa wb f n so ch hW hT hD hP hK hA
  refine ⟨_, c_X10_ends (h_c := (dk_c0 hD)), ?_⟩
  rintro r w' (⟨f1, rfl, rfl⟩ | ⟨f1, rfl, rfl⟩)
  · rw [hD.1.1] at f1
    obtain ⟨b1, b2, b3, b4, b5⟩ := dk_bars hD f1
    refine ⟨rfl, rfl, ⟨_, rfl⟩, _, c_X11_ends (h_l := (dk_m0 hD)), ?_⟩
    rintro r2 w2 (⟨g1, rfl, rfl⟩ | ⟨g1, rfl, rfl⟩)
    · exact ⟨by rw [b1, b2, b3, b4, e_ends b5], ⟨_, rfl⟩, inv_mk (fun z => absurd z (by decide)) hT hD hP hK hA⟩
    · exact absurd f1 g1
  · rw [hD.1.1] at f1
    refine ⟨rfl, rfl, ⟨_, rfl⟩, _, c_X11_ends (h_l := (dk_m0 hD)), ?_⟩
    rintro r2 w2 (⟨g1, rfl, rfl⟩ | ⟨g1, rfl, rfl⟩)
    · exact absurd g1 f1
    · exact ⟨rfl, ⟨_, rfl⟩, inv_mk (fun z => absurd z (by decide)) hT hD hP hK hA⟩
set_option maxRecDepth 100000 in
theorem pr_arcs {w : ax_W} (hI : INV w) (a1 : Int32) : PrI M_X10_arcs M_X11_arcs [.int a1] w := by
  refine hI (fun w => PrI M_X10_arcs M_X11_arcs [.int a1] w) ?_
  intro tr fl pl wl wd f1_3 f1_4 f10_0 f10_1 f10_2 f10_3 f12_5 f12_6 f12_7 f12_8 f12_9 f18_7 f18_8 f18_9 f18_10 f25_3 m_thrown m_where m_readLinks m_readTracers m_readPoints m_readPairs m_textLong m_at m_spot m_token m_whole m_readFault m_readPlace m_value m_curveMany m_cornerMany m_straightAt m_lined f11_0 f11_1 f11_2 f11_3 f11_4 f11_5 f11_6 f11_7 f11_8 f11_9 f11_10 f11_11 f11_12 f11_13 f11_14 f11_15 f18_11 f18_12 m_n m_c m_d m_s m_e m_k m_x m_y m_g m_a m_fitUp m_fitDown m_worstUp m_worstDown r2 r3 r5 r6 r8 r9 r13 r14 r15 r26 r27 r28 r30 r31 r32 q3 q4 q5 q6 q7 q8 q9 q10 q11 q12 q13 q14 q15 q16 q18 q19 q20 r19 r20 r21 r22 r23 r24 q17 L nl nt np nr wa wb f n so ch hW hT hD hP hK hA
  refine ⟨_, c_X10_arcs (h_c := (dk_c0 hD)), ?_⟩
  rintro r w' (⟨f1, rfl, rfl⟩ | ⟨f1, rfl, rfl⟩)
  · rw [hD.1.1] at f1
    obtain ⟨b1, b2, b3, b4, b5⟩ := dk_bars hD f1
    refine ⟨rfl, rfl, ⟨_, rfl⟩, _, c_X11_arcs (h_l := (dk_m0 hD)), ?_⟩
    rintro r2 w2 (⟨g1, rfl, rfl⟩ | ⟨g1, rfl, rfl⟩)
    · exact ⟨by rw [b1, b2, b3, b4, e_arcs], ⟨_, rfl⟩, inv_mk (fun z => absurd z (by decide)) hT hD hP hK hA⟩
    · exact absurd f1 g1
  · rw [hD.1.1] at f1
    refine ⟨rfl, rfl, ⟨_, rfl⟩, _, c_X11_arcs (h_l := (dk_m0 hD)), ?_⟩
    rintro r2 w2 (⟨g1, rfl, rfl⟩ | ⟨g1, rfl, rfl⟩)
    · exact absurd g1 f1
    · exact ⟨rfl, ⟨_, rfl⟩, inv_mk (fun z => absurd z (by decide)) hT hD hP hK hA⟩
set_option maxRecDepth 100000 in
theorem pr_round {w : ax_W} (hI : INV w) (a1 a2 : Int32) : PrI M_X10_round M_X11_round [.int a1, .int a2] w := by
  refine hI (fun w => PrI M_X10_round M_X11_round [.int a1, .int a2] w) ?_
  intro tr fl pl wl wd f1_3 f1_4 f10_0 f10_1 f10_2 f10_3 f12_5 f12_6 f12_7 f12_8 f12_9 f18_7 f18_8 f18_9 f18_10 f25_3 m_thrown m_where m_readLinks m_readTracers m_readPoints m_readPairs m_textLong m_at m_spot m_token m_whole m_readFault m_readPlace m_value m_curveMany m_cornerMany m_straightAt m_lined f11_0 f11_1 f11_2 f11_3 f11_4 f11_5 f11_6 f11_7 f11_8 f11_9 f11_10 f11_11 f11_12 f11_13 f11_14 f11_15 f18_11 f18_12 m_n m_c m_d m_s m_e m_k m_x m_y m_g m_a m_fitUp m_fitDown m_worstUp m_worstDown r2 r3 r5 r6 r8 r9 r13 r14 r15 r26 r27 r28 r30 r31 r32 q3 q4 q5 q6 q7 q8 q9 q10 q11 q12 q13 q14 q15 q16 q18 q19 q20 r19 r20 r21 r22 r23 r24 q17 L nl nt np nr wa wb f n so ch hW hT hD hP hK hA
  refine ⟨_, c_X10_round (h_c := (dk_c0 hD)), ?_⟩
  rintro r w' (⟨f1, f2, f3, rfl, rfl⟩ | ⟨f1, f2, f3, rfl, rfl⟩ | ⟨f1, f2, rfl, rfl⟩ | ⟨f1, rfl, rfl⟩)
  · rw [hD.1.1] at f1
    obtain ⟨b1, b2, b3, b4, b5⟩ := dk_bars hD f1
    refine ⟨rfl, rfl, ⟨_, rfl⟩, _, c_X11_round (h_l := (dk_m0 hD)), ?_⟩
    rintro r2 w2 (⟨g1, g2, g3, rfl, rfl⟩ | ⟨g1, g2, g3, rfl, rfl⟩ | ⟨g1, g2, rfl, rfl⟩ | ⟨g1, rfl, rfl⟩)
    · rw [le3] at g2
      rw [e_rnd b5 f2, ← b1, ← b2, ← b3, ← b4] at g3
      exact ⟨rfl, ⟨_, rfl⟩, inv_mk (fun z => absurd z (by decide)) hT hD hP hK hA⟩
    · rw [e_rnd b5 f2, ← b1, ← b2, ← b3, ← b4] at g3
      exact absurd f3 g3
    · rw [le3] at g2
      exact absurd f2 g2
    · exact absurd f1 g1
  · rw [hD.1.1] at f1
    obtain ⟨b1, b2, b3, b4, b5⟩ := dk_bars hD f1
    refine ⟨rfl, rfl, ⟨_, rfl⟩, _, c_X11_round (h_l := (dk_m0 hD)), ?_⟩
    rintro r2 w2 (⟨g1, g2, g3, rfl, rfl⟩ | ⟨g1, g2, g3, rfl, rfl⟩ | ⟨g1, g2, rfl, rfl⟩ | ⟨g1, rfl, rfl⟩)
    · rw [e_rnd b5 f2, ← b1, ← b2, ← b3, ← b4] at g3
      exact absurd g3 f3
    · rw [le3] at g2
      rw [e_rnd b5 f2, ← b1, ← b2, ← b3, ← b4] at g3
      exact ⟨rfl, ⟨_, rfl⟩, inv_mk (fun z => absurd z (by decide)) hT hD hP hK hA⟩
    · rw [le3] at g2
      exact absurd f2 g2
    · exact absurd f1 g1
  · rw [hD.1.1] at f1
    obtain ⟨b1, b2, b3, b4, b5⟩ := dk_bars hD f1
    refine ⟨rfl, rfl, ⟨_, rfl⟩, _, c_X11_round (h_l := (dk_m0 hD)), ?_⟩
    rintro r2 w2 (⟨g1, g2, g3, rfl, rfl⟩ | ⟨g1, g2, g3, rfl, rfl⟩ | ⟨g1, g2, rfl, rfl⟩ | ⟨g1, rfl, rfl⟩)
    · rw [le3] at g2
      exact absurd g2 f2
    · rw [le3] at g2
      exact absurd g2 f2
    · rw [le3] at g2
      exact ⟨rfl, ⟨_, rfl⟩, inv_mk (fun z => absurd z (by decide)) hT hD hP hK hA⟩
    · exact absurd f1 g1
  · rw [hD.1.1] at f1
    refine ⟨rfl, rfl, ⟨_, rfl⟩, _, c_X11_round (h_l := (dk_m0 hD)), ?_⟩
    rintro r2 w2 (⟨g1, g2, g3, rfl, rfl⟩ | ⟨g1, g2, g3, rfl, rfl⟩ | ⟨g1, g2, rfl, rfl⟩ | ⟨g1, rfl, rfl⟩)
    · exact absurd g1 f1
    · exact absurd g1 f1
    · exact absurd g1 f1
    · exact ⟨rfl, ⟨_, rfl⟩, inv_mk (fun z => absurd z (by decide)) hT hD hP hK hA⟩
set_option maxRecDepth 100000 in
theorem pr_tracer {w : ax_W} (hI : INV w) (a1 a2 : Int32) : PrI M_X10_tracer M_X11_tracer [.int a1, .int a2] w := by
  refine hI (fun w => PrI M_X10_tracer M_X11_tracer [.int a1, .int a2] w) ?_
  intro tr fl pl wl wd f1_3 f1_4 f10_0 f10_1 f10_2 f10_3 f12_5 f12_6 f12_7 f12_8 f12_9 f18_7 f18_8 f18_9 f18_10 f25_3 m_thrown m_where m_readLinks m_readTracers m_readPoints m_readPairs m_textLong m_at m_spot m_token m_whole m_readFault m_readPlace m_value m_curveMany m_cornerMany m_straightAt m_lined f11_0 f11_1 f11_2 f11_3 f11_4 f11_5 f11_6 f11_7 f11_8 f11_9 f11_10 f11_11 f11_12 f11_13 f11_14 f11_15 f18_11 f18_12 m_n m_c m_d m_s m_e m_k m_x m_y m_g m_a m_fitUp m_fitDown m_worstUp m_worstDown r2 r3 r5 r6 r8 r9 r13 r14 r15 r26 r27 r28 r30 r31 r32 q3 q4 q5 q6 q7 q8 q9 q10 q11 q12 q13 q14 q15 q16 q18 q19 q20 r19 r20 r21 r22 r23 r24 q17 L nl nt np nr wa wb f n so ch hW hT hD hP hK hA
  refine ⟨_, c_X10_tracer (h_c1 := (dk_c1 hD)), ?_⟩
  rintro r w' (⟨f1, f2, rfl, rfl⟩ | ⟨f1, f2, rfl, rfl⟩ | ⟨f1, rfl, rfl⟩)
  · rw [hD.1.2.1] at f1
    refine ⟨rfl, rfl, ⟨_, rfl⟩, _, c_X11_tracer (h_t := (dk_m1 hD)), ?_⟩
    rintro r2 w2 (⟨g1, g2, rfl, rfl⟩ | ⟨g1, g2, rfl, rfl⟩ | ⟨g1, rfl, rfl⟩)
    · rw [le1] at g2
      exact ⟨by rw [dk_trc hD f1 f2], ⟨_, rfl⟩, inv_mk (fun z => absurd z (by decide)) hT hD hP hK hA⟩
    · rw [le1] at g2
      exact absurd f2 g2
    · exact absurd f1 g1
  · rw [hD.1.2.1] at f1
    refine ⟨rfl, rfl, ⟨_, rfl⟩, _, c_X11_tracer (h_t := (dk_m1 hD)), ?_⟩
    rintro r2 w2 (⟨g1, g2, rfl, rfl⟩ | ⟨g1, g2, rfl, rfl⟩ | ⟨g1, rfl, rfl⟩)
    · rw [le1] at g2
      exact absurd g2 f2
    · rw [le1] at g2
      exact ⟨rfl, ⟨_, rfl⟩, inv_mk (fun z => absurd z (by decide)) hT hD hP hK hA⟩
    · exact absurd f1 g1
  · rw [hD.1.2.1] at f1
    refine ⟨rfl, rfl, ⟨_, rfl⟩, _, c_X11_tracer (h_t := (dk_m1 hD)), ?_⟩
    rintro r2 w2 (⟨g1, g2, rfl, rfl⟩ | ⟨g1, g2, rfl, rfl⟩ | ⟨g1, rfl, rfl⟩)
    · exact absurd g1 f1
    · exact absurd g1 f1
    · exact ⟨rfl, ⟨_, rfl⟩, inv_mk (fun z => absurd z (by decide)) hT hD hP hK hA⟩
set_option maxRecDepth 100000 in
theorem pr_point {w : ax_W} (hI : INV w) (a1 a2 : Int32) : PrI M_X10_point M_X11_point [.int a1, .int a2] w := by
  refine hI (fun w => PrI M_X10_point M_X11_point [.int a1, .int a2] w) ?_
  intro tr fl pl wl wd f1_3 f1_4 f10_0 f10_1 f10_2 f10_3 f12_5 f12_6 f12_7 f12_8 f12_9 f18_7 f18_8 f18_9 f18_10 f25_3 m_thrown m_where m_readLinks m_readTracers m_readPoints m_readPairs m_textLong m_at m_spot m_token m_whole m_readFault m_readPlace m_value m_curveMany m_cornerMany m_straightAt m_lined f11_0 f11_1 f11_2 f11_3 f11_4 f11_5 f11_6 f11_7 f11_8 f11_9 f11_10 f11_11 f11_12 f11_13 f11_14 f11_15 f18_11 f18_12 m_n m_c m_d m_s m_e m_k m_x m_y m_g m_a m_fitUp m_fitDown m_worstUp m_worstDown r2 r3 r5 r6 r8 r9 r13 r14 r15 r26 r27 r28 r30 r31 r32 q3 q4 q5 q6 q7 q8 q9 q10 q11 q12 q13 q14 q15 q16 q18 q19 q20 r19 r20 r21 r22 r23 r24 q17 L nl nt np nr wa wb f n so ch hW hT hD hP hK hA
  refine ⟨_, c_X10_point (h_c2 := (dk_c2 hD)), ?_⟩
  rintro r w' (⟨f1, f2, rfl, rfl⟩ | ⟨f1, f2, rfl, rfl⟩ | ⟨f1, rfl, rfl⟩)
  · rw [hD.1.2.2.1] at f1
    refine ⟨rfl, rfl, ⟨_, rfl⟩, _, c_X11_point (h_p := (dk_m2 hD)), ?_⟩
    rintro r2 w2 (⟨g1, g2, rfl, rfl⟩ | ⟨g1, g2, rfl, rfl⟩ | ⟨g1, rfl, rfl⟩)
    · rw [le1] at g2
      exact ⟨by rw [dk_ptc hD f1 f2], ⟨_, rfl⟩, inv_mk (fun z => absurd z (by decide)) hT hD hP hK hA⟩
    · rw [le1] at g2
      exact absurd f2 g2
    · exact absurd f1 g1
  · rw [hD.1.2.2.1] at f1
    refine ⟨rfl, rfl, ⟨_, rfl⟩, _, c_X11_point (h_p := (dk_m2 hD)), ?_⟩
    rintro r2 w2 (⟨g1, g2, rfl, rfl⟩ | ⟨g1, g2, rfl, rfl⟩ | ⟨g1, rfl, rfl⟩)
    · rw [le1] at g2
      exact absurd g2 f2
    · rw [le1] at g2
      exact ⟨rfl, ⟨_, rfl⟩, inv_mk (fun z => absurd z (by decide)) hT hD hP hK hA⟩
    · exact absurd f1 g1
  · rw [hD.1.2.2.1] at f1
    refine ⟨rfl, rfl, ⟨_, rfl⟩, _, c_X11_point (h_p := (dk_m2 hD)), ?_⟩
    rintro r2 w2 (⟨g1, g2, rfl, rfl⟩ | ⟨g1, g2, rfl, rfl⟩ | ⟨g1, rfl, rfl⟩)
    · exact absurd g1 f1
    · exact absurd g1 f1
    · exact ⟨rfl, ⟨_, rfl⟩, inv_mk (fun z => absurd z (by decide)) hT hD hP hK hA⟩
set_option maxRecDepth 100000 in
theorem pr_pair {w : ax_W} (hI : INV w) (a1 a2 : Int32) : PrI M_X10_pair M_X11_pair [.int a1, .int a2] w := by
  refine hI (fun w => PrI M_X10_pair M_X11_pair [.int a1, .int a2] w) ?_
  intro tr fl pl wl wd f1_3 f1_4 f10_0 f10_1 f10_2 f10_3 f12_5 f12_6 f12_7 f12_8 f12_9 f18_7 f18_8 f18_9 f18_10 f25_3 m_thrown m_where m_readLinks m_readTracers m_readPoints m_readPairs m_textLong m_at m_spot m_token m_whole m_readFault m_readPlace m_value m_curveMany m_cornerMany m_straightAt m_lined f11_0 f11_1 f11_2 f11_3 f11_4 f11_5 f11_6 f11_7 f11_8 f11_9 f11_10 f11_11 f11_12 f11_13 f11_14 f11_15 f18_11 f18_12 m_n m_c m_d m_s m_e m_k m_x m_y m_g m_a m_fitUp m_fitDown m_worstUp m_worstDown r2 r3 r5 r6 r8 r9 r13 r14 r15 r26 r27 r28 r30 r31 r32 q3 q4 q5 q6 q7 q8 q9 q10 q11 q12 q13 q14 q15 q16 q18 q19 q20 r19 r20 r21 r22 r23 r24 q17 L nl nt np nr wa wb f n so ch hW hT hD hP hK hA
  refine ⟨_, c_X10_pair (h_c3 := (dk_c3 hD)), ?_⟩
  rintro r w' (⟨f1, f2, rfl, rfl⟩ | ⟨f1, f2, rfl, rfl⟩ | ⟨f1, rfl, rfl⟩)
  · rw [hD.1.2.2.2] at f1
    refine ⟨rfl, rfl, ⟨_, rfl⟩, _, c_X11_pair (h_r := (dk_m3 hD)), ?_⟩
    rintro r2 w2 (⟨g1, g2, rfl, rfl⟩ | ⟨g1, g2, rfl, rfl⟩ | ⟨g1, rfl, rfl⟩)
    · rw [le3] at g2
      exact ⟨by rw [dk_prc hD f1 f2], ⟨_, rfl⟩, inv_mk (fun z => absurd z (by decide)) hT hD hP hK hA⟩
    · rw [le3] at g2
      exact absurd f2 g2
    · exact absurd f1 g1
  · rw [hD.1.2.2.2] at f1
    refine ⟨rfl, rfl, ⟨_, rfl⟩, _, c_X11_pair (h_r := (dk_m3 hD)), ?_⟩
    rintro r2 w2 (⟨g1, g2, rfl, rfl⟩ | ⟨g1, g2, rfl, rfl⟩ | ⟨g1, rfl, rfl⟩)
    · rw [le3] at g2
      exact absurd g2 f2
    · rw [le3] at g2
      exact ⟨rfl, ⟨_, rfl⟩, inv_mk (fun z => absurd z (by decide)) hT hD hP hK hA⟩
    · exact absurd f1 g1
  · rw [hD.1.2.2.2] at f1
    refine ⟨rfl, rfl, ⟨_, rfl⟩, _, c_X11_pair (h_r := (dk_m3 hD)), ?_⟩
    rintro r2 w2 (⟨g1, g2, rfl, rfl⟩ | ⟨g1, g2, rfl, rfl⟩ | ⟨g1, rfl, rfl⟩)
    · exact absurd g1 f1
    · exact absurd g1 f1
    · exact ⟨rfl, ⟨_, rfl⟩, inv_mk (fun z => absurd z (by decide)) hT hD hP hK hA⟩
set_option maxRecDepth 100000 in
theorem pr_lawfuls {w : ax_W} (hI : INV w) (a1 : Int32) : PrI M_X10_lawfuls M_X11_lawfuls [.int a1] w := by
  refine hI (fun w => PrI M_X10_lawfuls M_X11_lawfuls [.int a1] w) ?_
  intro tr fl pl wl wd f1_3 f1_4 f10_0 f10_1 f10_2 f10_3 f12_5 f12_6 f12_7 f12_8 f12_9 f18_7 f18_8 f18_9 f18_10 f25_3 m_thrown m_where m_readLinks m_readTracers m_readPoints m_readPairs m_textLong m_at m_spot m_token m_whole m_readFault m_readPlace m_value m_curveMany m_cornerMany m_straightAt m_lined f11_0 f11_1 f11_2 f11_3 f11_4 f11_5 f11_6 f11_7 f11_8 f11_9 f11_10 f11_11 f11_12 f11_13 f11_14 f11_15 f18_11 f18_12 m_n m_c m_d m_s m_e m_k m_x m_y m_g m_a m_fitUp m_fitDown m_worstUp m_worstDown r2 r3 r5 r6 r8 r9 r13 r14 r15 r26 r27 r28 r30 r31 r32 q3 q4 q5 q6 q7 q8 q9 q10 q11 q12 q13 q14 q15 q16 q18 q19 q20 r19 r20 r21 r22 r23 r24 q17 L nl nt np nr wa wb f n so ch hW hT hD hP hK hA
  refine ⟨_, c_X10_lawfuls (h_c0 := (dk_c0 hD)), ?_⟩
  rintro r w' (⟨x0_0, f1, rfl, rfl⟩ | ⟨f1, rfl, rfl⟩)
  · rw [hD.1.1] at f1
    obtain ⟨b1, b2, b3, b4, b5⟩ := dk_bars hD f1
    refine ⟨rfl, rfl, ⟨_, rfl⟩, _, c_X11_lawfuls (h_l := (dk_m0 hD)), ?_⟩
    rintro r2 w2 (⟨y0_0, g1, rfl, rfl⟩ | ⟨g1, rfl, rfl⟩)
    · exact ⟨by rw [← e_lawfuls]; simp only [st_e hD f1], ⟨_, rfl⟩, inv_mk (fun z => absurd z (by decide)) hT hD hP hK hA⟩
    · exact absurd f1 g1
  · rw [hD.1.1] at f1
    refine ⟨rfl, rfl, ⟨_, rfl⟩, _, c_X11_lawfuls (h_l := (dk_m0 hD)), ?_⟩
    rintro r2 w2 (⟨y0_0, g1, rfl, rfl⟩ | ⟨g1, rfl, rfl⟩)
    · exact absurd g1 f1
    · exact ⟨rfl, ⟨_, rfl⟩, inv_mk (fun z => absurd z (by decide)) hT hD hP hK hA⟩
set_option maxRecDepth 100000 in
theorem pr_deads {w : ax_W} (hI : INV w) (a1 : Int32) : PrI M_X10_deads M_X11_deads [.int a1] w := by
  refine hI (fun w => PrI M_X10_deads M_X11_deads [.int a1] w) ?_
  intro tr fl pl wl wd f1_3 f1_4 f10_0 f10_1 f10_2 f10_3 f12_5 f12_6 f12_7 f12_8 f12_9 f18_7 f18_8 f18_9 f18_10 f25_3 m_thrown m_where m_readLinks m_readTracers m_readPoints m_readPairs m_textLong m_at m_spot m_token m_whole m_readFault m_readPlace m_value m_curveMany m_cornerMany m_straightAt m_lined f11_0 f11_1 f11_2 f11_3 f11_4 f11_5 f11_6 f11_7 f11_8 f11_9 f11_10 f11_11 f11_12 f11_13 f11_14 f11_15 f18_11 f18_12 m_n m_c m_d m_s m_e m_k m_x m_y m_g m_a m_fitUp m_fitDown m_worstUp m_worstDown r2 r3 r5 r6 r8 r9 r13 r14 r15 r26 r27 r28 r30 r31 r32 q3 q4 q5 q6 q7 q8 q9 q10 q11 q12 q13 q14 q15 q16 q18 q19 q20 r19 r20 r21 r22 r23 r24 q17 L nl nt np nr wa wb f n so ch hW hT hD hP hK hA
  refine ⟨_, c_X10_deads (h_c0 := (dk_c0 hD)), ?_⟩
  rintro r w' (⟨x0_0, f1, rfl, rfl⟩ | ⟨f1, rfl, rfl⟩)
  · rw [hD.1.1] at f1
    obtain ⟨b1, b2, b3, b4, b5⟩ := dk_bars hD f1
    refine ⟨rfl, rfl, ⟨_, rfl⟩, _, c_X11_deads (h_l := (dk_m0 hD)), ?_⟩
    rintro r2 w2 (⟨y0_0, g1, rfl, rfl⟩ | ⟨g1, rfl, rfl⟩)
    · exact ⟨by rw [← e_deads]; simp only [st_e hD f1], ⟨_, rfl⟩, inv_mk (fun z => absurd z (by decide)) hT hD hP hK hA⟩
    · exact absurd f1 g1
  · rw [hD.1.1] at f1
    refine ⟨rfl, rfl, ⟨_, rfl⟩, _, c_X11_deads (h_l := (dk_m0 hD)), ?_⟩
    rintro r2 w2 (⟨y0_0, g1, rfl, rfl⟩ | ⟨g1, rfl, rfl⟩)
    · exact absurd g1 f1
    · exact ⟨rfl, ⟨_, rfl⟩, inv_mk (fun z => absurd z (by decide)) hT hD hP hK hA⟩
set_option maxRecDepth 100000 in
theorem pr_under {w : ax_W} (hI : INV w) (a1 a2 : Int32) : PrL M_X10_under M_X11_under [.int a1, .int a2] w := by
  refine hI (fun w => PrL M_X10_under M_X11_under [.int a1, .int a2] w) ?_
  intro tr fl pl wl wd f1_3 f1_4 f10_0 f10_1 f10_2 f10_3 f12_5 f12_6 f12_7 f12_8 f12_9 f18_7 f18_8 f18_9 f18_10 f25_3 m_thrown m_where m_readLinks m_readTracers m_readPoints m_readPairs m_textLong m_at m_spot m_token m_whole m_readFault m_readPlace m_value m_curveMany m_cornerMany m_straightAt m_lined f11_0 f11_1 f11_2 f11_3 f11_4 f11_5 f11_6 f11_7 f11_8 f11_9 f11_10 f11_11 f11_12 f11_13 f11_14 f11_15 f18_11 f18_12 m_n m_c m_d m_s m_e m_k m_x m_y m_g m_a m_fitUp m_fitDown m_worstUp m_worstDown r2 r3 r5 r6 r8 r9 r13 r14 r15 r26 r27 r28 r30 r31 r32 q3 q4 q5 q6 q7 q8 q9 q10 q11 q12 q13 q14 q15 q16 q18 q19 q20 r19 r20 r21 r22 r23 r24 q17 L nl nt np nr wa wb f n so ch hW hT hD hP hK hA
  refine ⟨_, c_X10_under (h_c0 := (dk_c0 hD)), ?_⟩
  rintro r w' (⟨f1, f2, rfl, rfl⟩ | ⟨f1, f2, rfl, rfl⟩ | ⟨f1, rfl, rfl⟩)
  · rw [hD.1.1] at f1
    obtain ⟨b1, b2, b3, b4, b5⟩ := dk_bars hD f1
    refine ⟨rfl, rfl, ⟨_, rfl⟩, _, c_X11_under (h_l := (dk_m0 hD)), ?_⟩
    rintro r2 w2 (⟨g1, g2, rfl, rfl⟩ | ⟨g1, g2, rfl, rfl⟩ | ⟨g1, rfl, rfl⟩)
    · exact ⟨by rw [(kk_e hD f1 f2).1], ⟨_, rfl⟩, inv_mk (fun z => absurd z (by decide)) hT hD hP hK hA⟩
    · exact absurd f2 g2
    · exact absurd f1 g1
  · rw [hD.1.1] at f1
    obtain ⟨b1, b2, b3, b4, b5⟩ := dk_bars hD f1
    refine ⟨rfl, rfl, ⟨_, rfl⟩, _, c_X11_under (h_l := (dk_m0 hD)), ?_⟩
    rintro r2 w2 (⟨g1, g2, rfl, rfl⟩ | ⟨g1, g2, rfl, rfl⟩ | ⟨g1, rfl, rfl⟩)
    · exact absurd g2 f2
    · exact ⟨rfl, ⟨_, rfl⟩, inv_mk (fun z => absurd z (by decide)) hT hD hP hK hA⟩
    · exact absurd f1 g1
  · rw [hD.1.1] at f1
    refine ⟨rfl, rfl, ⟨_, rfl⟩, _, c_X11_under (h_l := (dk_m0 hD)), ?_⟩
    rintro r2 w2 (⟨g1, g2, rfl, rfl⟩ | ⟨g1, g2, rfl, rfl⟩ | ⟨g1, rfl, rfl⟩)
    · exact absurd g1 f1
    · exact absurd g1 f1
    · exact ⟨rfl, ⟨_, rfl⟩, inv_mk (fun z => absurd z (by decide)) hT hD hP hK hA⟩
