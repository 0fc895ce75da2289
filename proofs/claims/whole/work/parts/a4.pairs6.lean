set_option maxRecDepth 100000 in
theorem pr_size {w : ax_W} (hI : INV w) (a1 : Int32) : PrI M_X10_size M_X11_size [.int a1] w := by
  refine hI (fun w => PrI M_X10_size M_X11_size [.int a1] w) ?_
  intro tr fl pl wl wd f1_3 f1_4 f10_0 f10_1 f10_2 f10_3 f12_5 f12_6 f12_7 f12_8 f12_9 f18_7 f18_8 f18_9 f18_10 f25_3 m_thrown m_where m_readLinks m_readTracers m_readPoints m_readPairs m_textLong m_at m_spot m_token m_whole m_readFault m_readPlace m_value m_curveMany m_cornerMany m_straightAt m_lined f11_0 f11_1 f11_2 f11_3 f11_4 f11_5 f11_6 f11_7 f11_8 f11_9 f11_10 f11_11 f11_12 f11_13 f11_14 f11_15 f18_11 f18_12 m_n m_c m_d m_s m_e m_k m_x m_y m_g m_a m_fitUp m_fitDown m_worstUp m_worstDown r2 r3 r5 r6 r8 r9 r13 r14 r15 r26 r27 r28 r30 r31 r32 q3 q4 q5 q6 q7 q8 q9 q10 q11 q12 q13 q14 q15 q16 q18 q19 q20 r19 r20 r21 r22 r23 r24 q17 L nl nt np nr wa wb f n so ch hW hT hD hP hK hA
  by_cases e0 : a1 = 0
  · subst e0
    refine ⟨_, c_X10_size, ?_⟩
    rintro r w' (⟨f1, rfl, rfl⟩ | ⟨f1, f2, f3, rfl, rfl⟩ | ⟨f1, f2, f3, rfl, rfl⟩ | ⟨f1, f2, rfl, rfl⟩)
    · refine ⟨rfl, rfl, ⟨_, rfl⟩, _, c_X11_size, ?_⟩
      rintro r2 w2 (⟨g1, rfl, rfl⟩ | ⟨g1, rfl, rfl⟩ | ⟨g1, rfl, rfl⟩ | ⟨g1, rfl, rfl⟩ | ⟨g1, rfl, rfl⟩ | ⟨g1, rfl, rfl⟩ | ⟨g1, rfl, rfl⟩)
      · exact ⟨by rw [show Int32.toNatClampNeg 0 = 0 from rfl, hD.1.1], ⟨_, rfl⟩, inv_mk hW hT hD hP hK hA⟩
      · exact absurd g1 (by decide)
      · exact absurd g1 (by decide)
      · exact absurd g1 (by decide)
      · exact absurd g1 (by decide)
      · exact absurd g1 (by decide)
      · exact absurd g1 (by decide)
    · refine ⟨rfl, rfl, ⟨_, rfl⟩, _, c_X11_size, ?_⟩
      rintro r2 w2 (⟨g1, rfl, rfl⟩ | ⟨g1, rfl, rfl⟩ | ⟨g1, rfl, rfl⟩ | ⟨g1, rfl, rfl⟩ | ⟨g1, rfl, rfl⟩ | ⟨g1, rfl, rfl⟩ | ⟨g1, rfl, rfl⟩)
      · exact absurd f1 (by decide)
      · exact absurd f1 (by decide)
      · exact absurd f1 (by decide)
      · exact absurd f1 (by decide)
      · exact absurd f1 (by decide)
      · exact absurd f1 (by decide)
      · exact absurd f1 (by decide)
    · refine ⟨rfl, rfl, ⟨_, rfl⟩, _, c_X11_size, ?_⟩
      rintro r2 w2 (⟨g1, rfl, rfl⟩ | ⟨g1, rfl, rfl⟩ | ⟨g1, rfl, rfl⟩ | ⟨g1, rfl, rfl⟩ | ⟨g1, rfl, rfl⟩ | ⟨g1, rfl, rfl⟩ | ⟨g1, rfl, rfl⟩)
      · exact absurd f1 (by decide)
      · exact absurd f1 (by decide)
      · exact absurd f1 (by decide)
      · exact absurd f1 (by decide)
      · exact absurd f1 (by decide)
      · exact absurd f1 (by decide)
      · exact absurd f1 (by decide)
    · refine ⟨rfl, rfl, ⟨_, rfl⟩, _, c_X11_size, ?_⟩
      rintro r2 w2 (⟨g1, rfl, rfl⟩ | ⟨g1, rfl, rfl⟩ | ⟨g1, rfl, rfl⟩ | ⟨g1, rfl, rfl⟩ | ⟨g1, rfl, rfl⟩ | ⟨g1, rfl, rfl⟩ | ⟨g1, rfl, rfl⟩)
      · exact absurd f1 (by decide)
      · exact absurd f1 (by decide)
      · exact absurd f1 (by decide)
      · exact absurd f1 (by decide)
      · exact absurd f1 (by decide)
      · exact absurd f1 (by decide)
      · exact absurd f1 (by decide)
  by_cases e1 : a1 = 1
  · subst e1
    refine ⟨_, c_X10_size, ?_⟩
    rintro r w' (⟨f1, rfl, rfl⟩ | ⟨f1, f2, f3, rfl, rfl⟩ | ⟨f1, f2, f3, rfl, rfl⟩ | ⟨f1, f2, rfl, rfl⟩)
    · refine ⟨rfl, rfl, ⟨_, rfl⟩, _, c_X11_size, ?_⟩
      rintro r2 w2 (⟨g1, rfl, rfl⟩ | ⟨g1, rfl, rfl⟩ | ⟨g1, rfl, rfl⟩ | ⟨g1, rfl, rfl⟩ | ⟨g1, rfl, rfl⟩ | ⟨g1, rfl, rfl⟩ | ⟨g1, rfl, rfl⟩)
      · exact absurd g1 (by decide)
      · exact ⟨by rw [show Int32.toNatClampNeg 1 = 1 from rfl, hD.1.2.1], ⟨_, rfl⟩, inv_mk hW hT hD hP hK hA⟩
      · exact absurd g1 (by decide)
      · exact absurd g1 (by decide)
      · exact absurd g1 (by decide)
      · exact absurd g1 (by decide)
      · exact absurd g1 (by decide)
    · refine ⟨rfl, rfl, ⟨_, rfl⟩, _, c_X11_size, ?_⟩
      rintro r2 w2 (⟨g1, rfl, rfl⟩ | ⟨g1, rfl, rfl⟩ | ⟨g1, rfl, rfl⟩ | ⟨g1, rfl, rfl⟩ | ⟨g1, rfl, rfl⟩ | ⟨g1, rfl, rfl⟩ | ⟨g1, rfl, rfl⟩)
      · exact absurd f1 (by decide)
      · exact absurd f1 (by decide)
      · exact absurd f1 (by decide)
      · exact absurd f1 (by decide)
      · exact absurd f1 (by decide)
      · exact absurd f1 (by decide)
      · exact absurd f1 (by decide)
    · refine ⟨rfl, rfl, ⟨_, rfl⟩, _, c_X11_size, ?_⟩
      rintro r2 w2 (⟨g1, rfl, rfl⟩ | ⟨g1, rfl, rfl⟩ | ⟨g1, rfl, rfl⟩ | ⟨g1, rfl, rfl⟩ | ⟨g1, rfl, rfl⟩ | ⟨g1, rfl, rfl⟩ | ⟨g1, rfl, rfl⟩)
      · exact absurd f1 (by decide)
      · exact absurd f1 (by decide)
      · exact absurd f1 (by decide)
      · exact absurd f1 (by decide)
      · exact absurd f1 (by decide)
      · exact absurd f1 (by decide)
      · exact absurd f1 (by decide)
    · refine ⟨rfl, rfl, ⟨_, rfl⟩, _, c_X11_size, ?_⟩
      rintro r2 w2 (⟨g1, rfl, rfl⟩ | ⟨g1, rfl, rfl⟩ | ⟨g1, rfl, rfl⟩ | ⟨g1, rfl, rfl⟩ | ⟨g1, rfl, rfl⟩ | ⟨g1, rfl, rfl⟩ | ⟨g1, rfl, rfl⟩)
      · exact absurd f1 (by decide)
      · exact absurd f1 (by decide)
      · exact absurd f1 (by decide)
      · exact absurd f1 (by decide)
      · exact absurd f1 (by decide)
      · exact absurd f1 (by decide)
      · exact absurd f1 (by decide)
  by_cases e2 : a1 = 2
  · subst e2
    refine ⟨_, c_X10_size, ?_⟩
    rintro r w' (⟨f1, rfl, rfl⟩ | ⟨f1, f2, f3, rfl, rfl⟩ | ⟨f1, f2, f3, rfl, rfl⟩ | ⟨f1, f2, rfl, rfl⟩)
    · refine ⟨rfl, rfl, ⟨_, rfl⟩, _, c_X11_size, ?_⟩
      rintro r2 w2 (⟨g1, rfl, rfl⟩ | ⟨g1, rfl, rfl⟩ | ⟨g1, rfl, rfl⟩ | ⟨g1, rfl, rfl⟩ | ⟨g1, rfl, rfl⟩ | ⟨g1, rfl, rfl⟩ | ⟨g1, rfl, rfl⟩)
      · exact absurd g1 (by decide)
      · exact absurd g1 (by decide)
      · exact ⟨by rw [show Int32.toNatClampNeg 2 = 2 from rfl, hD.1.2.2.1], ⟨_, rfl⟩, inv_mk hW hT hD hP hK hA⟩
      · exact absurd g1 (by decide)
      · exact absurd g1 (by decide)
      · exact absurd g1 (by decide)
      · exact absurd g1 (by decide)
    · refine ⟨rfl, rfl, ⟨_, rfl⟩, _, c_X11_size, ?_⟩
      rintro r2 w2 (⟨g1, rfl, rfl⟩ | ⟨g1, rfl, rfl⟩ | ⟨g1, rfl, rfl⟩ | ⟨g1, rfl, rfl⟩ | ⟨g1, rfl, rfl⟩ | ⟨g1, rfl, rfl⟩ | ⟨g1, rfl, rfl⟩)
      · exact absurd f1 (by decide)
      · exact absurd f1 (by decide)
      · exact absurd f1 (by decide)
      · exact absurd f1 (by decide)
      · exact absurd f1 (by decide)
      · exact absurd f1 (by decide)
      · exact absurd f1 (by decide)
    · refine ⟨rfl, rfl, ⟨_, rfl⟩, _, c_X11_size, ?_⟩
      rintro r2 w2 (⟨g1, rfl, rfl⟩ | ⟨g1, rfl, rfl⟩ | ⟨g1, rfl, rfl⟩ | ⟨g1, rfl, rfl⟩ | ⟨g1, rfl, rfl⟩ | ⟨g1, rfl, rfl⟩ | ⟨g1, rfl, rfl⟩)
      · exact absurd f1 (by decide)
      · exact absurd f1 (by decide)
      · exact absurd f1 (by decide)
      · exact absurd f1 (by decide)
      · exact absurd f1 (by decide)
      · exact absurd f1 (by decide)
      · exact absurd f1 (by decide)
    · refine ⟨rfl, rfl, ⟨_, rfl⟩, _, c_X11_size, ?_⟩
      rintro r2 w2 (⟨g1, rfl, rfl⟩ | ⟨g1, rfl, rfl⟩ | ⟨g1, rfl, rfl⟩ | ⟨g1, rfl, rfl⟩ | ⟨g1, rfl, rfl⟩ | ⟨g1, rfl, rfl⟩ | ⟨g1, rfl, rfl⟩)
      · exact absurd f1 (by decide)
      · exact absurd f1 (by decide)
      · exact absurd f1 (by decide)
      · exact absurd f1 (by decide)
      · exact absurd f1 (by decide)
      · exact absurd f1 (by decide)
      · exact absurd f1 (by decide)
  by_cases e3 : a1 = 3
  · subst e3
    refine ⟨_, c_X10_size, ?_⟩
    rintro r w' (⟨f1, rfl, rfl⟩ | ⟨f1, f2, f3, rfl, rfl⟩ | ⟨f1, f2, f3, rfl, rfl⟩ | ⟨f1, f2, rfl, rfl⟩)
    · refine ⟨rfl, rfl, ⟨_, rfl⟩, _, c_X11_size, ?_⟩
      rintro r2 w2 (⟨g1, rfl, rfl⟩ | ⟨g1, rfl, rfl⟩ | ⟨g1, rfl, rfl⟩ | ⟨g1, rfl, rfl⟩ | ⟨g1, rfl, rfl⟩ | ⟨g1, rfl, rfl⟩ | ⟨g1, rfl, rfl⟩)
      · exact absurd g1 (by decide)
      · exact absurd g1 (by decide)
      · exact absurd g1 (by decide)
      · exact ⟨by rw [show Int32.toNatClampNeg 3 = 3 from rfl, hD.1.2.2.2], ⟨_, rfl⟩, inv_mk hW hT hD hP hK hA⟩
      · exact absurd g1 (by decide)
      · exact absurd g1 (by decide)
      · exact absurd g1 (by decide)
    · refine ⟨rfl, rfl, ⟨_, rfl⟩, _, c_X11_size, ?_⟩
      rintro r2 w2 (⟨g1, rfl, rfl⟩ | ⟨g1, rfl, rfl⟩ | ⟨g1, rfl, rfl⟩ | ⟨g1, rfl, rfl⟩ | ⟨g1, rfl, rfl⟩ | ⟨g1, rfl, rfl⟩ | ⟨g1, rfl, rfl⟩)
      · exact absurd f1 (by decide)
      · exact absurd f1 (by decide)
      · exact absurd f1 (by decide)
      · exact absurd f1 (by decide)
      · exact absurd f1 (by decide)
      · exact absurd f1 (by decide)
      · exact absurd f1 (by decide)
    · refine ⟨rfl, rfl, ⟨_, rfl⟩, _, c_X11_size, ?_⟩
      rintro r2 w2 (⟨g1, rfl, rfl⟩ | ⟨g1, rfl, rfl⟩ | ⟨g1, rfl, rfl⟩ | ⟨g1, rfl, rfl⟩ | ⟨g1, rfl, rfl⟩ | ⟨g1, rfl, rfl⟩ | ⟨g1, rfl, rfl⟩)
      · exact absurd f1 (by decide)
      · exact absurd f1 (by decide)
      · exact absurd f1 (by decide)
      · exact absurd f1 (by decide)
      · exact absurd f1 (by decide)
      · exact absurd f1 (by decide)
      · exact absurd f1 (by decide)
    · refine ⟨rfl, rfl, ⟨_, rfl⟩, _, c_X11_size, ?_⟩
      rintro r2 w2 (⟨g1, rfl, rfl⟩ | ⟨g1, rfl, rfl⟩ | ⟨g1, rfl, rfl⟩ | ⟨g1, rfl, rfl⟩ | ⟨g1, rfl, rfl⟩ | ⟨g1, rfl, rfl⟩ | ⟨g1, rfl, rfl⟩)
      · exact absurd f1 (by decide)
      · exact absurd f1 (by decide)
      · exact absurd f1 (by decide)
      · exact absurd f1 (by decide)
      · exact absurd f1 (by decide)
      · exact absurd f1 (by decide)
      · exact absurd f1 (by decide)
  by_cases e4 : a1 = 4
  · subst e4
    refine ⟨_, c_X10_size, ?_⟩
    rintro r w' (⟨f1, rfl, rfl⟩ | ⟨f1, f2, f3, rfl, rfl⟩ | ⟨f1, f2, f3, rfl, rfl⟩ | ⟨f1, f2, rfl, rfl⟩)
    · refine ⟨rfl, rfl, ⟨_, rfl⟩, _, c_X11_size, ?_⟩
      rintro r2 w2 (⟨g1, rfl, rfl⟩ | ⟨g1, rfl, rfl⟩ | ⟨g1, rfl, rfl⟩ | ⟨g1, rfl, rfl⟩ | ⟨g1, rfl, rfl⟩ | ⟨g1, rfl, rfl⟩ | ⟨g1, rfl, rfl⟩)
      · exact absurd f1 (by decide)
      · exact absurd f1 (by decide)
      · exact absurd f1 (by decide)
      · exact absurd f1 (by decide)
      · exact absurd f1 (by decide)
      · exact absurd f1 (by decide)
      · exact absurd f1 (by decide)
    · refine ⟨rfl, rfl, ⟨_, rfl⟩, _, c_X11_size, ?_⟩
      rintro r2 w2 (⟨g1, rfl, rfl⟩ | ⟨g1, rfl, rfl⟩ | ⟨g1, rfl, rfl⟩ | ⟨g1, rfl, rfl⟩ | ⟨g1, rfl, rfl⟩ | ⟨g1, rfl, rfl⟩ | ⟨g1, rfl, rfl⟩)
      · exact absurd f2 (by decide)
      · exact absurd f2 (by decide)
      · exact absurd f2 (by decide)
      · exact absurd f2 (by decide)
      · exact absurd f2 (by decide)
      · exact absurd f2 (by decide)
      · exact absurd f2 (by decide)
    · refine ⟨rfl, rfl, ⟨_, rfl⟩, _, c_X11_size, ?_⟩
      rintro r2 w2 (⟨g1, rfl, rfl⟩ | ⟨g1, rfl, rfl⟩ | ⟨g1, rfl, rfl⟩ | ⟨g1, rfl, rfl⟩ | ⟨g1, rfl, rfl⟩ | ⟨g1, rfl, rfl⟩ | ⟨g1, rfl, rfl⟩)
      · exact absurd f2 (by decide)
      · exact absurd f2 (by decide)
      · exact absurd f2 (by decide)
      · exact absurd f2 (by decide)
      · exact absurd f2 (by decide)
      · exact absurd f2 (by decide)
      · exact absurd f2 (by decide)
    · refine ⟨rfl, rfl, ⟨_, rfl⟩, _, c_X11_size, ?_⟩
      rintro r2 w2 (⟨g1, rfl, rfl⟩ | ⟨g1, rfl, rfl⟩ | ⟨g1, rfl, rfl⟩ | ⟨g1, rfl, rfl⟩ | ⟨g1, rfl, rfl⟩ | ⟨g1, rfl, rfl⟩ | ⟨g1, rfl, rfl⟩)
      · exact absurd g1 (by decide)
      · exact absurd g1 (by decide)
      · exact absurd g1 (by decide)
      · exact absurd g1 (by decide)
      · exact ⟨rfl, ⟨_, rfl⟩, inv_mk hW hT hD hP hK hA⟩
      · exact absurd g1 (by decide)
      · exact absurd g1 (by decide)
  by_cases e5 : a1 = 5
  · subst e5
    refine ⟨_, c_X10_size, ?_⟩
    rintro r w' (⟨f1, rfl, rfl⟩ | ⟨f1, f2, f3, rfl, rfl⟩ | ⟨f1, f2, f3, rfl, rfl⟩ | ⟨f1, f2, rfl, rfl⟩)
    · refine ⟨rfl, rfl, ⟨_, rfl⟩, _, c_X11_size, ?_⟩
      rintro r2 w2 (⟨g1, rfl, rfl⟩ | ⟨g1, rfl, rfl⟩ | ⟨g1, rfl, rfl⟩ | ⟨g1, rfl, rfl⟩ | ⟨g1, rfl, rfl⟩ | ⟨g1, rfl, rfl⟩ | ⟨g1, rfl, rfl⟩)
      · exact absurd f1 (by decide)
      · exact absurd f1 (by decide)
      · exact absurd f1 (by decide)
      · exact absurd f1 (by decide)
      · exact absurd f1 (by decide)
      · exact absurd f1 (by decide)
      · exact absurd f1 (by decide)
    · refine ⟨rfl, rfl, ⟨_, rfl⟩, _, c_X11_size, ?_⟩
      rintro r2 w2 (⟨g1, rfl, rfl⟩ | ⟨g1, rfl, rfl⟩ | ⟨g1, rfl, rfl⟩ | ⟨g1, rfl, rfl⟩ | ⟨g1, rfl, rfl⟩ | ⟨g1, rfl, rfl⟩ | ⟨g1, rfl, rfl⟩)
      · exact absurd f3 (by decide)
      · exact absurd f3 (by decide)
      · exact absurd f3 (by decide)
      · exact absurd f3 (by decide)
      · exact absurd f3 (by decide)
      · exact absurd f3 (by decide)
      · exact absurd f3 (by decide)
    · refine ⟨rfl, rfl, ⟨_, rfl⟩, _, c_X11_size, ?_⟩
      rintro r2 w2 (⟨g1, rfl, rfl⟩ | ⟨g1, rfl, rfl⟩ | ⟨g1, rfl, rfl⟩ | ⟨g1, rfl, rfl⟩ | ⟨g1, rfl, rfl⟩ | ⟨g1, rfl, rfl⟩ | ⟨g1, rfl, rfl⟩)
      · exact absurd g1 (by decide)
      · exact absurd g1 (by decide)
      · exact absurd g1 (by decide)
      · exact absurd g1 (by decide)
      · exact absurd g1 (by decide)
      · exact ⟨rfl, ⟨_, rfl⟩, inv_mk hW hT hD hP hK hA⟩
      · exact absurd g1 (by decide)
    · refine ⟨rfl, rfl, ⟨_, rfl⟩, _, c_X11_size, ?_⟩
      rintro r2 w2 (⟨g1, rfl, rfl⟩ | ⟨g1, rfl, rfl⟩ | ⟨g1, rfl, rfl⟩ | ⟨g1, rfl, rfl⟩ | ⟨g1, rfl, rfl⟩ | ⟨g1, rfl, rfl⟩ | ⟨g1, rfl, rfl⟩)
      · exact absurd f2 (by decide)
      · exact absurd f2 (by decide)
      · exact absurd f2 (by decide)
      · exact absurd f2 (by decide)
      · exact absurd f2 (by decide)
      · exact absurd f2 (by decide)
      · exact absurd f2 (by decide)
  have qo := n03 e0 e1 e2 e3
  refine ⟨_, c_X10_size, ?_⟩
  rintro r w' (⟨f1, rfl, rfl⟩ | ⟨f1, f2, f3, rfl, rfl⟩ | ⟨f1, f2, f3, rfl, rfl⟩ | ⟨f1, f2, rfl, rfl⟩)
  · refine ⟨rfl, rfl, ⟨_, rfl⟩, _, c_X11_size, ?_⟩
    rintro r2 w2 (⟨g1, rfl, rfl⟩ | ⟨g1, rfl, rfl⟩ | ⟨g1, rfl, rfl⟩ | ⟨g1, rfl, rfl⟩ | ⟨g1, rfl, rfl⟩ | ⟨g1, rfl, rfl⟩ | ⟨g1, rfl, rfl⟩)
    · exact absurd f1 qo.2
    · exact absurd f1 qo.2
    · exact absurd f1 qo.2
    · exact absurd f1 qo.2
    · exact absurd f1 qo.2
    · exact absurd f1 qo.2
    · exact absurd f1 qo.2
  · refine ⟨rfl, rfl, ⟨_, rfl⟩, _, c_X11_size, ?_⟩
    rintro r2 w2 (⟨g1, rfl, rfl⟩ | ⟨g1, rfl, rfl⟩ | ⟨g1, rfl, rfl⟩ | ⟨g1, rfl, rfl⟩ | ⟨g1, rfl, rfl⟩ | ⟨g1, rfl, rfl⟩ | ⟨g1, rfl, rfl⟩)
    · exact absurd g1 e0
    · exact absurd g1 e1
    · exact absurd g1 e2
    · exact absurd g1 e3
    · exact absurd g1 f2
    · exact absurd g1 f3
    · exact ⟨rfl, ⟨_, rfl⟩, inv_mk hW hT hD hP hK hA⟩
  · refine ⟨rfl, rfl, ⟨_, rfl⟩, _, c_X11_size, ?_⟩
    rintro r2 w2 (⟨g1, rfl, rfl⟩ | ⟨g1, rfl, rfl⟩ | ⟨g1, rfl, rfl⟩ | ⟨g1, rfl, rfl⟩ | ⟨g1, rfl, rfl⟩ | ⟨g1, rfl, rfl⟩ | ⟨g1, rfl, rfl⟩)
    · exact absurd (f3.symm.trans g1) (by decide)
    · exact absurd (f3.symm.trans g1) (by decide)
    · exact absurd (f3.symm.trans g1) (by decide)
    · exact absurd (f3.symm.trans g1) (by decide)
    · exact absurd (f3.symm.trans g1) (by decide)
    · exact absurd f3 e5
    · exact absurd f3 e5
  · refine ⟨rfl, rfl, ⟨_, rfl⟩, _, c_X11_size, ?_⟩
    rintro r2 w2 (⟨g1, rfl, rfl⟩ | ⟨g1, rfl, rfl⟩ | ⟨g1, rfl, rfl⟩ | ⟨g1, rfl, rfl⟩ | ⟨g1, rfl, rfl⟩ | ⟨g1, rfl, rfl⟩ | ⟨g1, rfl, rfl⟩)
    · exact absurd (f2.symm.trans g1) (by decide)
    · exact absurd (f2.symm.trans g1) (by decide)
    · exact absurd (f2.symm.trans g1) (by decide)
    · exact absurd (f2.symm.trans g1) (by decide)
    · exact absurd f2 e4
    · exact absurd (f2.symm.trans g1) (by decide)
    · exact absurd f2 e4
set_option maxRecDepth 100000 in
theorem pr_begin {w : ax_W} (hI : INV w) (a1 a2 a3 : Int32) : PrI M_X10_begin M_X11_begin [.int a1, .int a2, .int a3] w := by
  refine hI (fun w => PrI M_X10_begin M_X11_begin [.int a1, .int a2, .int a3] w) ?_
  intro tr fl pl wl wd f1_3 f1_4 f10_0 f10_1 f10_2 f10_3 f12_5 f12_6 f12_7 f12_8 f12_9 f18_7 f18_8 f18_9 f18_10 f25_3 m_thrown m_where m_readLinks m_readTracers m_readPoints m_readPairs m_textLong m_at m_spot m_token m_whole m_readFault m_readPlace m_value m_curveMany m_cornerMany m_straightAt m_lined f11_0 f11_1 f11_2 f11_3 f11_4 f11_5 f11_6 f11_7 f11_8 f11_9 f11_10 f11_11 f11_12 f11_13 f11_14 f11_15 f18_11 f18_12 m_n m_c m_d m_s m_e m_k m_x m_y m_g m_a m_fitUp m_fitDown m_worstUp m_worstDown r2 r3 r5 r6 r8 r9 r13 r14 r15 r26 r27 r28 r30 r31 r32 q3 q4 q5 q6 q7 q8 q9 q10 q11 q12 q13 q14 q15 q16 q18 q19 q20 r19 r20 r21 r22 r23 r24 q17 L nl nt np nr wa wb f n so ch hW hT hD hP hK hA
  refine ⟨_, c_X10_begin (h_c := (dk_c0 hD)), ?_⟩
  rintro r w' (⟨x0_0, f1, f2, rfl, rfl⟩ | ⟨f1, f2, rfl, rfl⟩ | ⟨f1, rfl, rfl⟩)
  · rw [hD.1.1] at f1
    obtain ⟨b1, b2, b3, b4, b5⟩ := dk_bars hD f1.1
    refine ⟨rfl, rfl, ⟨_, rfl⟩, _, c_X11_begin (h_l := (dk_m0 hD)), ?_⟩
    rintro r2 w2 (⟨g1, g2, rfl, rfl⟩ | ⟨g1, g2, rfl, rfl⟩ | ⟨g1, rfl, rfl⟩)
    · rw [law_e hD f1.1 f1.2.1] at g2
      have fA := f1.2.1
      have fB := f1.2.2
      obtain ⟨k, hk, rfl⟩ := nI_in2 (c := 40) (by decide) fA.1 fA.2
      obtain ⟨b, hb, rfl⟩ := nI_in2 (c := 2) (by decide) fB.1 fB.2
      rw [(br_e hb).1]
      exact ⟨rfl, ⟨_, rfl⟩, inv_mk (fun z => absurd z (by decide)) hT hD hP ⟨hk, hb, fun _ => ⟨f1.1, fun k hk => if_pos hk⟩⟩ hA⟩
    · rw [law_e hD f1.1 f1.2.1] at g2
      exact absurd f2 g2
    · exact absurd f1 g1
  · rw [hD.1.1] at f1
    obtain ⟨b1, b2, b3, b4, b5⟩ := dk_bars hD f1.1
    refine ⟨rfl, rfl, ⟨_, rfl⟩, _, c_X11_begin (h_l := (dk_m0 hD)), ?_⟩
    rintro r2 w2 (⟨g1, g2, rfl, rfl⟩ | ⟨g1, g2, rfl, rfl⟩ | ⟨g1, rfl, rfl⟩)
    · rw [law_e hD f1.1 f1.2.1] at g2
      exact absurd g2 f2
    · rw [law_e hD f1.1 f1.2.1] at g2
      exact ⟨rfl, ⟨_, rfl⟩, inv_mk (fun z => absurd z (by decide)) hT hD hP hK hA⟩
    · exact absurd f1 g1
  · rw [hD.1.1] at f1
    refine ⟨rfl, rfl, ⟨_, rfl⟩, _, c_X11_begin (h_l := (dk_m0 hD)), ?_⟩
    rintro r2 w2 (⟨g1, g2, rfl, rfl⟩ | ⟨g1, g2, rfl, rfl⟩ | ⟨g1, rfl, rfl⟩)
    · exact absurd g1 f1
    · exact absurd g1 f1
    · exact ⟨rfl, ⟨_, rfl⟩, inv_mk (fun z => absurd z (by decide)) hT hD hP hK hA⟩
set_option maxRecDepth 100000 in
theorem pr_steps {w : ax_W} (hI : INV w) (a1 : Int32) : PrI M_X10_steps M_X11_steps [.int a1] w := by
  refine hI (fun w => PrI M_X10_steps M_X11_steps [.int a1] w) ?_
  intro tr fl pl wl wd f1_3 f1_4 f10_0 f10_1 f10_2 f10_3 f12_5 f12_6 f12_7 f12_8 f12_9 f18_7 f18_8 f18_9 f18_10 f25_3 m_thrown m_where m_readLinks m_readTracers m_readPoints m_readPairs m_textLong m_at m_spot m_token m_whole m_readFault m_readPlace m_value m_curveMany m_cornerMany m_straightAt m_lined f11_0 f11_1 f11_2 f11_3 f11_4 f11_5 f11_6 f11_7 f11_8 f11_9 f11_10 f11_11 f11_12 f11_13 f11_14 f11_15 f18_11 f18_12 m_n m_c m_d m_s m_e m_k m_x m_y m_g m_a m_fitUp m_fitDown m_worstUp m_worstDown r2 r3 r5 r6 r8 r9 r13 r14 r15 r26 r27 r28 r30 r31 r32 q3 q4 q5 q6 q7 q8 q9 q10 q11 q12 q13 q14 q15 q16 q18 q19 q20 r19 r20 r21 r22 r23 r24 q17 L nl nt np nr wa wb f n so ch hW hT hD hP hK hA
  rcases st_split a1 with ⟨m, hm, rfl⟩ | ⟨m, hm, rfl⟩ | ⟨ho, hp⟩
  · skip
    refine ⟨_, c_X10_steps_p (h_m := hm) (h_a := hK.1) (m := m) (a := wa), ?_⟩
    rintro r w' (⟨f1, rfl, rfl⟩ | ⟨f1, rfl, rfl⟩)
    · refine ⟨rfl, rfl, ⟨_, rfl⟩, _, c_X11_steps_p (h_l := (dk_m0 hD)) (h_w := (fun z => (hK.2.2 z).1)) (h_m := hm) (h_a := hK.1) (m := m) (a := wa), ?_⟩
      rintro r2 w2 (⟨y0_0, g1, rfl, rfl⟩ | ⟨g1, rfl, rfl⟩)
      · rw [← wk_go hD hK f1 (f := nx) (fun a h => nx_lt h) m, Nat.zero_add]
        exact ⟨rfl, ⟨_, rfl⟩, inv_mk (fun z => absurd z (by decide)) hT hD hP ⟨goF_lt (fun a h => nx_lt h) m wa hK.1, hK.2.1, hK.2.2⟩ hA⟩
      · exact absurd g1 f1
    · refine ⟨rfl, rfl, ⟨_, rfl⟩, _, c_X11_steps_p (h_l := (dk_m0 hD)) (h_w := (fun z => (hK.2.2 z).1)) (h_m := hm) (h_a := hK.1) (m := m) (a := wa), ?_⟩
      rintro r2 w2 (⟨y0_0, g1, rfl, rfl⟩ | ⟨g1, rfl, rfl⟩)
      · exact absurd g1 f1
      · exact ⟨rfl, ⟨_, rfl⟩, inv_mk (fun z => absurd z (by decide)) hT hD hP hK hA⟩
  · skip
    refine ⟨_, c_X10_steps_n (h_m := hm.2) (h_a := hK.1) (h_0 := hm.1) (m := m) (a := wa), ?_⟩
    rintro r w' (⟨f1, rfl, rfl⟩ | ⟨f1, rfl, rfl⟩)
    · refine ⟨rfl, rfl, ⟨_, rfl⟩, _, c_X11_steps_n (h_l := (dk_m0 hD)) (h_w := (fun z => (hK.2.2 z).1)) (h_m := hm.2) (h_a := hK.1) (h_0 := hm.1) (m := m) (a := wa), ?_⟩
      rintro r2 w2 (⟨y0_0, g1, rfl, rfl⟩ | ⟨g1, rfl, rfl⟩)
      · rw [← wk_go hD hK f1 (f := pv) (fun a h => pv_lt h) m, Nat.zero_add]
        exact ⟨rfl, ⟨_, rfl⟩, inv_mk (fun z => absurd z (by decide)) hT hD hP ⟨goF_lt (fun a h => pv_lt h) m wa hK.1, hK.2.1, hK.2.2⟩ hA⟩
      · exact absurd g1 f1
    · refine ⟨rfl, rfl, ⟨_, rfl⟩, _, c_X11_steps_n (h_l := (dk_m0 hD)) (h_w := (fun z => (hK.2.2 z).1)) (h_m := hm.2) (h_a := hK.1) (h_0 := hm.1) (m := m) (a := wa), ?_⟩
      rintro r2 w2 (⟨y0_0, g1, rfl, rfl⟩ | ⟨g1, rfl, rfl⟩)
      · exact absurd g1 f1
      · exact ⟨rfl, ⟨_, rfl⟩, inv_mk (fun z => absurd z (by decide)) hT hD hP hK hA⟩
  · skip
    refine ⟨_, c_X10_steps_o (h_o := ho), ?_⟩
    rintro r w' (⟨f1, f2, rfl, rfl⟩ | ⟨f1, f2, rfl, rfl⟩ | ⟨f1, rfl, rfl⟩)
    · refine ⟨rfl, rfl, ⟨_, rfl⟩, _, c_X11_steps_o (h_o := hp), ?_⟩
      rintro r2 w2 (⟨g1, rfl, rfl⟩ | ⟨g1, rfl, rfl⟩)
      · exact ⟨rfl, ⟨_, rfl⟩, inv_mk (fun z => absurd z (by decide)) hT hD hP hK hA⟩
      · exact absurd g1 f1
    · refine ⟨rfl, rfl, ⟨_, rfl⟩, _, c_X11_steps_o (h_o := hp), ?_⟩
      rintro r2 w2 (⟨g1, rfl, rfl⟩ | ⟨g1, rfl, rfl⟩)
      · exact ⟨rfl, ⟨_, rfl⟩, inv_mk (fun z => absurd z (by decide)) hT hD hP hK hA⟩
      · exact absurd g1 f1
    · refine ⟨rfl, rfl, ⟨_, rfl⟩, _, c_X11_steps_o (h_o := hp), ?_⟩
      rintro r2 w2 (⟨g1, rfl, rfl⟩ | ⟨g1, rfl, rfl⟩)
      · exact absurd g1 f1
      · exact ⟨rfl, ⟨_, rfl⟩, inv_mk (fun z => absurd z (by decide)) hT hD hP hK hA⟩
set_option maxRecDepth 100000 in
theorem pr_flip {w : ax_W} (hI : INV w) : PrI M_X10_flip M_X11_flip [] w := by
  refine hI (fun w => PrI M_X10_flip M_X11_flip [] w) ?_
  intro tr fl pl wl wd f1_3 f1_4 f10_0 f10_1 f10_2 f10_3 f12_5 f12_6 f12_7 f12_8 f12_9 f18_7 f18_8 f18_9 f18_10 f25_3 m_thrown m_where m_readLinks m_readTracers m_readPoints m_readPairs m_textLong m_at m_spot m_token m_whole m_readFault m_readPlace m_value m_curveMany m_cornerMany m_straightAt m_lined f11_0 f11_1 f11_2 f11_3 f11_4 f11_5 f11_6 f11_7 f11_8 f11_9 f11_10 f11_11 f11_12 f11_13 f11_14 f11_15 f18_11 f18_12 m_n m_c m_d m_s m_e m_k m_x m_y m_g m_a m_fitUp m_fitDown m_worstUp m_worstDown r2 r3 r5 r6 r8 r9 r13 r14 r15 r26 r27 r28 r30 r31 r32 q3 q4 q5 q6 q7 q8 q9 q10 q11 q12 q13 q14 q15 q16 q18 q19 q20 r19 r20 r21 r22 r23 r24 q17 L nl nt np nr wa wb f n so ch hW hT hD hP hK hA
  refine ⟨_, c_X10_flip (h_a := hK.1) (a := wa), ?_⟩
  rintro r w' (⟨f1, f2, rfl, rfl⟩ | ⟨f1, f2, rfl, rfl⟩ | ⟨f1, rfl, rfl⟩)
  · refine ⟨rfl, rfl, ⟨_, rfl⟩, _, c_X11_flip (h_l := (dk_m0 hD)) (h_w := (fun z => (hK.2.2 z).1)) (h_a := hK.1) (a := wa), ?_⟩
    rintro r2 w2 (⟨g1, rfl, rfl⟩ | ⟨g1, g2, g3, rfl, rfl⟩ | ⟨g1, g2, g3, rfl, rfl⟩ | ⟨g1, g2, rfl, rfl⟩)
    · exact absurd g1 f1
    · exact absurd ((wk_2 hD hK f1 hK.1).mp f2).2 g3
    · rw [(br_e hK.2.1).2]
      exact ⟨rfl, ⟨_, rfl⟩, inv_mk (fun z => absurd z (by decide)) hT hD hP ⟨hK.1, by omega, hK.2.2⟩ hA⟩
    · exact absurd ((wk_2 hD hK f1 hK.1).mp f2).1 g2
  · refine ⟨rfl, rfl, ⟨_, rfl⟩, _, c_X11_flip (h_l := (dk_m0 hD)) (h_w := (fun z => (hK.2.2 z).1)) (h_a := hK.1) (a := wa), ?_⟩
    rintro r2 w2 (⟨g1, rfl, rfl⟩ | ⟨g1, g2, g3, rfl, rfl⟩ | ⟨g1, g2, g3, rfl, rfl⟩ | ⟨g1, g2, rfl, rfl⟩)
    · exact absurd g1 f1
    · exact ⟨rfl, ⟨_, rfl⟩, inv_mk (fun z => absurd z (by decide)) hT hD hP hK hA⟩
    · exact absurd ((wk_2 hD hK f1 hK.1).mpr ⟨g2, g3⟩) f2
    · exact ⟨rfl, ⟨_, rfl⟩, inv_mk (fun z => absurd z (by decide)) hT hD hP hK hA⟩
  · refine ⟨rfl, rfl, ⟨_, rfl⟩, _, c_X11_flip (h_l := (dk_m0 hD)) (h_w := (fun z => (hK.2.2 z).1)) (h_a := hK.1) (a := wa), ?_⟩
    rintro r2 w2 (⟨g1, rfl, rfl⟩ | ⟨g1, g2, g3, rfl, rfl⟩ | ⟨g1, g2, g3, rfl, rfl⟩ | ⟨g1, g2, rfl, rfl⟩)
    · exact ⟨rfl, ⟨_, rfl⟩, inv_mk (fun z => absurd z (by decide)) hT hD hP hK hA⟩
    · exact absurd g1 f1
    · exact absurd g1 f1
    · exact absurd g1 f1
set_option maxRecDepth 100000 in
theorem pr_away {w : ax_W} (hI : INV w) (a1 a2 : Int32) : PrI M_X10_away M_X11_away [.int a1, .int a2] w := by
  refine hI (fun w => PrI M_X10_away M_X11_away [.int a1, .int a2] w) ?_
  intro tr fl pl wl wd f1_3 f1_4 f10_0 f10_1 f10_2 f10_3 f12_5 f12_6 f12_7 f12_8 f12_9 f18_7 f18_8 f18_9 f18_10 f25_3 m_thrown m_where m_readLinks m_readTracers m_readPoints m_readPairs m_textLong m_at m_spot m_token m_whole m_readFault m_readPlace m_value m_curveMany m_cornerMany m_straightAt m_lined f11_0 f11_1 f11_2 f11_3 f11_4 f11_5 f11_6 f11_7 f11_8 f11_9 f11_10 f11_11 f11_12 f11_13 f11_14 f11_15 f18_11 f18_12 m_n m_c m_d m_s m_e m_k m_x m_y m_g m_a m_fitUp m_fitDown m_worstUp m_worstDown r2 r3 r5 r6 r8 r9 r13 r14 r15 r26 r27 r28 r30 r31 r32 q3 q4 q5 q6 q7 q8 q9 q10 q11 q12 q13 q14 q15 q16 q18 q19 q20 r19 r20 r21 r22 r23 r24 q17 L nl nt np nr wa wb f n so ch hW hT hD hP hK hA
  rcases aw_split a1 a2 (wl = -1) with ⟨j, hj, on, rfl, rfl⟩ | ⟨j, hj, on, rfl, rfl⟩ | ⟨j, hj, on, rfl, rfl⟩ | ⟨j, hj, on, rfl, rfl⟩ | ro | ⟨ra, ro, rp⟩
  · skip
    refine ⟨_, c_X10_away_0 (h_p := (fun k hk => decide_eq_true_iff.trans (wk_0 hD hK on hk).symm)) (h_d := (fun k hk => decide_eq_true_iff.trans (wk_2 hD hK on hk).symm)) (ha := hK.1) (hb := hK.2.1) (hj := hj) (h_j := ⟨nI_pos' (by omega), nI_lt (b := 40) hj (by decide)⟩) (a := wa) (b := wb) (p := (fun k => decide (lawM q4 wl k))) (d := (fun k => decide (lawM q4 wl k ∧ Ml_k q4 wl (nI k) = 0))) (j := j), ?_⟩
    rintro r w' (⟨f1, rfl, rfl⟩ | ⟨f1, rfl, rfl⟩)
    · refine ⟨rfl, rfl, ⟨_, rfl⟩, _, c_X11_away_i (h_l := (dk_m0 hD)) (h_w := (fun z => (hK.2.2 z).1)) (h_p := (fun k => decide_eq_true_iff)) (h_d := (fun k => decide_eq_true_iff)) (ha := hK.1) (hb := hK.2.1) (hj := hj) (he := (by decide)) (h_j := ⟨nI_pos' (by omega), nI_lt (b := 40) hj (by decide)⟩) (h_e := (by decide)) (a := wa) (b := wb) (p := (fun k => decide (lawM q4 wl k))) (d := (fun k => decide (lawM q4 wl k ∧ Ml_k q4 wl (nI k) = 0))) (j := j) (e := 0), ?_⟩
      rintro r2 w2 (⟨y0_0, y0_1, g1, rfl, rfl⟩ | ⟨g1, rfl, rfl⟩)
      · exact ⟨rfl, ⟨_, rfl⟩, inv_mk (fun z => absurd z (by decide)) hT hD hP hK hA⟩
      · exact absurd g1 f1
    · refine ⟨rfl, rfl, ⟨_, rfl⟩, _, c_X11_away_i (h_l := (dk_m0 hD)) (h_w := (fun z => (hK.2.2 z).1)) (h_p := (fun k => decide_eq_true_iff)) (h_d := (fun k => decide_eq_true_iff)) (ha := hK.1) (hb := hK.2.1) (hj := hj) (he := (by decide)) (h_j := ⟨nI_pos' (by omega), nI_lt (b := 40) hj (by decide)⟩) (h_e := (by decide)) (a := wa) (b := wb) (p := (fun k => decide (lawM q4 wl k))) (d := (fun k => decide (lawM q4 wl k ∧ Ml_k q4 wl (nI k) = 0))) (j := j) (e := 0), ?_⟩
      rintro r2 w2 (⟨y0_0, y0_1, g1, rfl, rfl⟩ | ⟨g1, rfl, rfl⟩)
      · exact absurd on f1
      · exact absurd on f1
  · skip
    refine ⟨_, c_X10_away_1 (h_p := (fun k hk => decide_eq_true_iff.trans (wk_0 hD hK on hk).symm)) (h_d := (fun k hk => decide_eq_true_iff.trans (wk_2 hD hK on hk).symm)) (ha := hK.1) (hb := hK.2.1) (hj := hj) (h_j := ⟨nI_pos' (by omega), nI_lt (b := 40) hj (by decide)⟩) (a := wa) (b := wb) (p := (fun k => decide (lawM q4 wl k))) (d := (fun k => decide (lawM q4 wl k ∧ Ml_k q4 wl (nI k) = 0))) (j := j), ?_⟩
    rintro r w' (⟨f1, rfl, rfl⟩ | ⟨f1, rfl, rfl⟩)
    · refine ⟨rfl, rfl, ⟨_, rfl⟩, _, c_X11_away_i (h_l := (dk_m0 hD)) (h_w := (fun z => (hK.2.2 z).1)) (h_p := (fun k => decide_eq_true_iff)) (h_d := (fun k => decide_eq_true_iff)) (ha := hK.1) (hb := hK.2.1) (hj := hj) (he := (by decide)) (h_j := ⟨nI_pos' (by omega), nI_lt (b := 40) hj (by decide)⟩) (h_e := (by decide)) (a := wa) (b := wb) (p := (fun k => decide (lawM q4 wl k))) (d := (fun k => decide (lawM q4 wl k ∧ Ml_k q4 wl (nI k) = 0))) (j := j) (e := 1), ?_⟩
      rintro r2 w2 (⟨y0_0, y0_1, g1, rfl, rfl⟩ | ⟨g1, rfl, rfl⟩)
      · exact ⟨rfl, ⟨_, rfl⟩, inv_mk (fun z => absurd z (by decide)) hT hD hP hK hA⟩
      · exact absurd g1 f1
    · refine ⟨rfl, rfl, ⟨_, rfl⟩, _, c_X11_away_i (h_l := (dk_m0 hD)) (h_w := (fun z => (hK.2.2 z).1)) (h_p := (fun k => decide_eq_true_iff)) (h_d := (fun k => decide_eq_true_iff)) (ha := hK.1) (hb := hK.2.1) (hj := hj) (he := (by decide)) (h_j := ⟨nI_pos' (by omega), nI_lt (b := 40) hj (by decide)⟩) (h_e := (by decide)) (a := wa) (b := wb) (p := (fun k => decide (lawM q4 wl k))) (d := (fun k => decide (lawM q4 wl k ∧ Ml_k q4 wl (nI k) = 0))) (j := j) (e := 1), ?_⟩
      rintro r2 w2 (⟨y0_0, y0_1, g1, rfl, rfl⟩ | ⟨g1, rfl, rfl⟩)
      · exact absurd on f1
      · exact absurd on f1
  · skip
    refine ⟨_, c_X10_away_0 (h_p := (fun k hk => decide_eq_true_iff)) (h_d := (fun k hk => decide_eq_true_iff)) (ha := hK.1) (hb := hK.2.1) (hj := hj) (h_j := ⟨nI_pos' (by omega), nI_lt (b := 40) hj (by decide)⟩) (a := wa) (b := wb) (p := (fun k => decide (¬ r26 k = 0))) (d := (fun k => decide (r26 k = 2))) (j := j), ?_⟩
    rintro r w' (⟨f1, rfl, rfl⟩ | ⟨f1, rfl, rfl⟩)
    · refine ⟨rfl, rfl, ⟨_, rfl⟩, _, c_X11_away_i (h_l := (dk_m0 hD)) (h_w := (fun z => (hK.2.2 z).1)) (h_p := (fun k => decide_eq_true_iff)) (h_d := (fun k => decide_eq_true_iff)) (ha := hK.1) (hb := hK.2.1) (hj := hj) (he := (by decide)) (h_j := ⟨nI_pos' (by omega), nI_lt (b := 40) hj (by decide)⟩) (h_e := (by decide)) (a := wa) (b := wb) (p := (fun k => decide (lawM q4 wl k))) (d := (fun k => decide (lawM q4 wl k ∧ Ml_k q4 wl (nI k) = 0))) (j := j) (e := 0), ?_⟩
      rintro r2 w2 (⟨y0_0, y0_1, g1, rfl, rfl⟩ | ⟨g1, rfl, rfl⟩)
      · exact absurd on f1
      · exact absurd on f1
    · refine ⟨rfl, rfl, ⟨_, rfl⟩, _, c_X11_away_i (h_l := (dk_m0 hD)) (h_w := (fun z => (hK.2.2 z).1)) (h_p := (fun k => decide_eq_true_iff)) (h_d := (fun k => decide_eq_true_iff)) (ha := hK.1) (hb := hK.2.1) (hj := hj) (he := (by decide)) (h_j := ⟨nI_pos' (by omega), nI_lt (b := 40) hj (by decide)⟩) (h_e := (by decide)) (a := wa) (b := wb) (p := (fun k => decide (lawM q4 wl k))) (d := (fun k => decide (lawM q4 wl k ∧ Ml_k q4 wl (nI k) = 0))) (j := j) (e := 0), ?_⟩
      rintro r2 w2 (⟨y0_0, y0_1, g1, rfl, rfl⟩ | ⟨g1, rfl, rfl⟩)
      · exact absurd g1 f1
      · exact ⟨rfl, ⟨_, rfl⟩, inv_mk (fun z => absurd z (by decide)) hT hD hP hK hA⟩
  · skip
    refine ⟨_, c_X10_away_1 (h_p := (fun k hk => decide_eq_true_iff)) (h_d := (fun k hk => decide_eq_true_iff)) (ha := hK.1) (hb := hK.2.1) (hj := hj) (h_j := ⟨nI_pos' (by omega), nI_lt (b := 40) hj (by decide)⟩) (a := wa) (b := wb) (p := (fun k => decide (¬ r26 k = 0))) (d := (fun k => decide (r26 k = 2))) (j := j), ?_⟩
    rintro r w' (⟨f1, rfl, rfl⟩ | ⟨f1, rfl, rfl⟩)
    · refine ⟨rfl, rfl, ⟨_, rfl⟩, _, c_X11_away_i (h_l := (dk_m0 hD)) (h_w := (fun z => (hK.2.2 z).1)) (h_p := (fun k => decide_eq_true_iff)) (h_d := (fun k => decide_eq_true_iff)) (ha := hK.1) (hb := hK.2.1) (hj := hj) (he := (by decide)) (h_j := ⟨nI_pos' (by omega), nI_lt (b := 40) hj (by decide)⟩) (h_e := (by decide)) (a := wa) (b := wb) (p := (fun k => decide (lawM q4 wl k))) (d := (fun k => decide (lawM q4 wl k ∧ Ml_k q4 wl (nI k) = 0))) (j := j) (e := 1), ?_⟩
      rintro r2 w2 (⟨y0_0, y0_1, g1, rfl, rfl⟩ | ⟨g1, rfl, rfl⟩)
      · exact absurd on f1
      · exact absurd on f1
    · refine ⟨rfl, rfl, ⟨_, rfl⟩, _, c_X11_away_i (h_l := (dk_m0 hD)) (h_w := (fun z => (hK.2.2 z).1)) (h_p := (fun k => decide_eq_true_iff)) (h_d := (fun k => decide_eq_true_iff)) (ha := hK.1) (hb := hK.2.1) (hj := hj) (he := (by decide)) (h_j := ⟨nI_pos' (by omega), nI_lt (b := 40) hj (by decide)⟩) (h_e := (by decide)) (a := wa) (b := wb) (p := (fun k => decide (lawM q4 wl k))) (d := (fun k => decide (lawM q4 wl k ∧ Ml_k q4 wl (nI k) = 0))) (j := j) (e := 1), ?_⟩
      rintro r2 w2 (⟨y0_0, y0_1, g1, rfl, rfl⟩ | ⟨g1, rfl, rfl⟩)
      · exact absurd g1 f1
      · exact ⟨rfl, ⟨_, rfl⟩, inv_mk (fun z => absurd z (by decide)) hT hD hP hK hA⟩
  · skip
    refine ⟨_, c_X10_away_a (h_o := ro), ?_⟩
    rintro r w' (⟨f1, rfl, rfl⟩ | ⟨f1, rfl, rfl⟩)
    · refine ⟨rfl, rfl, ⟨_, rfl⟩, _, c_X11_away_a (h_o := ro), ?_⟩
      rintro r2 w2 (⟨g1, rfl, rfl⟩ | ⟨g1, rfl, rfl⟩)
      · exact ⟨rfl, ⟨_, rfl⟩, inv_mk (fun z => absurd z (by decide)) hT hD hP hK hA⟩
      · exact absurd g1 f1
    · refine ⟨rfl, rfl, ⟨_, rfl⟩, _, c_X11_away_a (h_o := ro), ?_⟩
      rintro r2 w2 (⟨g1, rfl, rfl⟩ | ⟨g1, rfl, rfl⟩)
      · exact absurd g1 f1
      · exact ⟨rfl, ⟨_, rfl⟩, inv_mk (fun z => absurd z (by decide)) hT hD hP hK hA⟩
  · skip
    refine ⟨_, c_X10_away_b (h_o := ro), ?_⟩
    rintro r w' (⟨f1, f2, rfl, rfl⟩ | ⟨f1, f2, rfl, rfl⟩ | ⟨f1, rfl, rfl⟩)
    · refine ⟨rfl, rfl, ⟨_, rfl⟩, _, c_X11_away_b (h_o := rp), ?_⟩
      rintro r2 w2 (⟨g1, g2, rfl, rfl⟩ | ⟨g1, g2, rfl, rfl⟩ | ⟨g1, rfl, rfl⟩)
      · exact ⟨rfl, ⟨_, rfl⟩, inv_mk (fun z => absurd z (by decide)) hT hD hP hK hA⟩
      · exact absurd f2 g2
      · exact absurd g1 f1
    · refine ⟨rfl, rfl, ⟨_, rfl⟩, _, c_X11_away_b (h_o := rp), ?_⟩
      rintro r2 w2 (⟨g1, g2, rfl, rfl⟩ | ⟨g1, g2, rfl, rfl⟩ | ⟨g1, rfl, rfl⟩)
      · exact absurd ra f2
      · exact absurd ra f2
      · exact absurd g1 f1
    · refine ⟨rfl, rfl, ⟨_, rfl⟩, _, c_X11_away_b (h_o := rp), ?_⟩
      rintro r2 w2 (⟨g1, g2, rfl, rfl⟩ | ⟨g1, g2, rfl, rfl⟩ | ⟨g1, rfl, rfl⟩)
      · exact absurd g1 f1
      · exact absurd g1 f1
      · exact ⟨rfl, ⟨_, rfl⟩, inv_mk (fun z => absurd z (by decide)) hT hD hP hK hA⟩
set_option maxRecDepth 100000 in
theorem pr_reshape {w : ax_W} (hI : INV w) (a1 a2 a3 : Int32) : PrI M_X10_reshape M_X11_reshape [.int a1, .int a2, .int a3] w := by
  refine hI (fun w => PrI M_X10_reshape M_X11_reshape [.int a1, .int a2, .int a3] w) ?_
  intro tr fl pl wl wd f1_3 f1_4 f10_0 f10_1 f10_2 f10_3 f12_5 f12_6 f12_7 f12_8 f12_9 f18_7 f18_8 f18_9 f18_10 f25_3 m_thrown m_where m_readLinks m_readTracers m_readPoints m_readPairs m_textLong m_at m_spot m_token m_whole m_readFault m_readPlace m_value m_curveMany m_cornerMany m_straightAt m_lined f11_0 f11_1 f11_2 f11_3 f11_4 f11_5 f11_6 f11_7 f11_8 f11_9 f11_10 f11_11 f11_12 f11_13 f11_14 f11_15 f18_11 f18_12 m_n m_c m_d m_s m_e m_k m_x m_y m_g m_a m_fitUp m_fitDown m_worstUp m_worstDown r2 r3 r5 r6 r8 r9 r13 r14 r15 r26 r27 r28 r30 r31 r32 q3 q4 q5 q6 q7 q8 q9 q10 q11 q12 q13 q14 q15 q16 q18 q19 q20 r19 r20 r21 r22 r23 r24 q17 L nl nt np nr wa wb f n so ch hW hT hD hP hK hA
  by_cases en : n = 10
  · subst en
    refine ⟨_, c_X10_reshape (h_f := hA.1) (h_n := hA.2.1) (h_c := (dk_c0 hD)) (f := f) (n := 10), ?_⟩
    rintro r w' (⟨f1, f2, f3, rfl, rfl⟩ | ⟨f1, f2, f3, f4, rfl, rfl⟩ | ⟨f1, f2, f3, f4, f5, rfl, rfl⟩ | ⟨f1, f2, f3, f4, f5, rfl, rfl⟩ | ⟨f1, f2, rfl, rfl⟩ | ⟨f1, rfl, rfl⟩)
    · rw [hD.1.1] at f1
      obtain ⟨b1, b2, b3, b4, b5⟩ := dk_bars hD f1
      refine ⟨rfl, rfl, ⟨_, rfl⟩, _, c_X11_reshape_f (h_l := (dk_m0 hD)), ?_⟩
      rintro r2 w2 (⟨g1, g2, g3, rfl, rfl⟩ | ⟨g1, g2, g3, rfl, rfl⟩ | ⟨g1, g2, rfl, rfl⟩ | ⟨g1, rfl, rfl⟩)
      · rw [le3] at g2
        exact absurd g3.1 (Int32.not_le.mpr f3)
      · rw [le3] at g2
        exact ⟨rfl, ⟨_, rfl⟩, inv_mk (fun z => absurd z (by decide)) hT hD hP hK hA⟩
      · rw [le3] at g2
        exact absurd f2 g2
      · exact absurd f1 g1
    · rw [hD.1.1] at f1
      obtain ⟨b1, b2, b3, b4, b5⟩ := dk_bars hD f1
      refine ⟨rfl, rfl, ⟨_, rfl⟩, _, c_X11_reshape_f (h_l := (dk_m0 hD)), ?_⟩
      rintro r2 w2 (⟨g1, g2, g3, rfl, rfl⟩ | ⟨g1, g2, g3, rfl, rfl⟩ | ⟨g1, g2, rfl, rfl⟩ | ⟨g1, rfl, rfl⟩)
      · rw [le3] at g2
        exact absurd g3.2 (Int32.not_le.mpr f4)
      · rw [le3] at g2
        exact ⟨rfl, ⟨_, rfl⟩, inv_mk (fun z => absurd z (by decide)) hT hD hP hK hA⟩
      · rw [le3] at g2
        exact absurd f2 g2
      · exact absurd f1 g1
    · rw [hD.1.1] at f1
      obtain ⟨b1, b2, b3, b4, b5⟩ := dk_bars hD f1
      refine ⟨rfl, rfl, ⟨_, rfl⟩, _, c_X11_reshape_f (h_l := (dk_m0 hD)), ?_⟩
      rintro r2 w2 (⟨g1, g2, g3, rfl, rfl⟩ | ⟨g1, g2, g3, rfl, rfl⟩ | ⟨g1, g2, rfl, rfl⟩ | ⟨g1, rfl, rfl⟩)
      · rw [le3] at g2
        rw [(dk_bar hD f1 f2)]
        have o18 := (hD.2.2.1 _ _ (cl_lt (dk_l4 hD) f1) (cl_lt (c := 4) (by decide) f2)).2
        exact ⟨rfl, ⟨_, rfl⟩, inv_mk (fun z => absurd z (by decide)) hT (dk_upd hD f1 f2 (show b18 a3.toInt from by have q1 := Int32.le_iff_toInt_le.mp g3.1; have q2 := Int32.le_iff_toInt_le.mp g3.2; exact ⟨q1, q2⟩)) hP ⟨hK.1, hK.2.1, fun z => absurd rfl z⟩ (ac_full hA f1 f2 o18)⟩
      · rw [le3] at g2
        exact absurd ⟨Int32.not_lt.mp f3, Int32.not_lt.mp f4⟩ g3
      · rw [le3] at g2
        exact absurd f2 g2
      · exact absurd f1 g1
    · rw [hD.1.1] at f1
      obtain ⟨b1, b2, b3, b4, b5⟩ := dk_bars hD f1
      refine ⟨rfl, rfl, ⟨_, rfl⟩, _, c_X11_reshape_f (h_l := (dk_m0 hD)), ?_⟩
      rintro r2 w2 (⟨g1, g2, g3, rfl, rfl⟩ | ⟨g1, g2, g3, rfl, rfl⟩ | ⟨g1, g2, rfl, rfl⟩ | ⟨g1, rfl, rfl⟩)
      · rw [le3] at g2
        exact absurd (by decide) f5
      · rw [le3] at g2
        exact absurd ⟨Int32.not_lt.mp f3, Int32.not_lt.mp f4⟩ g3
      · rw [le3] at g2
        exact absurd f2 g2
      · exact absurd f1 g1
    · rw [hD.1.1] at f1
      obtain ⟨b1, b2, b3, b4, b5⟩ := dk_bars hD f1
      refine ⟨rfl, rfl, ⟨_, rfl⟩, _, c_X11_reshape_f (h_l := (dk_m0 hD)), ?_⟩
      rintro r2 w2 (⟨g1, g2, g3, rfl, rfl⟩ | ⟨g1, g2, g3, rfl, rfl⟩ | ⟨g1, g2, rfl, rfl⟩ | ⟨g1, rfl, rfl⟩)
      · rw [le3] at g2
        exact absurd g2 f2
      · rw [le3] at g2
        exact absurd g2 f2
      · rw [le3] at g2
        exact ⟨rfl, ⟨_, rfl⟩, inv_mk (fun z => absurd z (by decide)) hT hD hP hK hA⟩
      · exact absurd f1 g1
    · rw [hD.1.1] at f1
      refine ⟨rfl, rfl, ⟨_, rfl⟩, _, c_X11_reshape_f (h_l := (dk_m0 hD)), ?_⟩
      rintro r2 w2 (⟨g1, g2, g3, rfl, rfl⟩ | ⟨g1, g2, g3, rfl, rfl⟩ | ⟨g1, g2, rfl, rfl⟩ | ⟨g1, rfl, rfl⟩)
      · exact absurd g1 f1
      · exact absurd g1 f1
      · exact absurd g1 f1
      · exact ⟨rfl, ⟨_, rfl⟩, inv_mk (fun z => absurd z (by decide)) hT hD hP hK hA⟩
  have hn : n < 10 := by have := hA.2.1; omega
  refine ⟨_, c_X10_reshape (h_f := hA.1) (h_n := hA.2.1) (h_c := (dk_c0 hD)), ?_⟩
  rintro r w' (⟨f1, f2, f3, rfl, rfl⟩ | ⟨f1, f2, f3, f4, rfl, rfl⟩ | ⟨f1, f2, f3, f4, f5, rfl, rfl⟩ | ⟨f1, f2, f3, f4, f5, rfl, rfl⟩ | ⟨f1, f2, rfl, rfl⟩ | ⟨f1, rfl, rfl⟩)
  · rw [hD.1.1] at f1
    obtain ⟨b1, b2, b3, b4, b5⟩ := dk_bars hD f1
    refine ⟨rfl, rfl, ⟨_, rfl⟩, _, c_X11_reshape_n (h_l := (dk_m0 hD)) (h_n := hn), ?_⟩
    rintro r2 w2 (⟨g1, g2, g3, rfl, rfl⟩ | ⟨g1, g2, g3, rfl, rfl⟩ | ⟨g1, g2, rfl, rfl⟩ | ⟨g1, rfl, rfl⟩)
    · rw [le3] at g2
      exact absurd g3.1 (Int32.not_le.mpr f3)
    · rw [le3] at g2
      exact ⟨rfl, ⟨_, rfl⟩, inv_mk (fun z => absurd z (by decide)) hT hD hP hK hA⟩
    · rw [le3] at g2
      exact absurd f2 g2
    · exact absurd f1 g1
  · rw [hD.1.1] at f1
    obtain ⟨b1, b2, b3, b4, b5⟩ := dk_bars hD f1
    refine ⟨rfl, rfl, ⟨_, rfl⟩, _, c_X11_reshape_n (h_l := (dk_m0 hD)) (h_n := hn), ?_⟩
    rintro r2 w2 (⟨g1, g2, g3, rfl, rfl⟩ | ⟨g1, g2, g3, rfl, rfl⟩ | ⟨g1, g2, rfl, rfl⟩ | ⟨g1, rfl, rfl⟩)
    · rw [le3] at g2
      exact absurd g3.2 (Int32.not_le.mpr f4)
    · rw [le3] at g2
      exact ⟨rfl, ⟨_, rfl⟩, inv_mk (fun z => absurd z (by decide)) hT hD hP hK hA⟩
    · rw [le3] at g2
      exact absurd f2 g2
    · exact absurd f1 g1
  · rw [hD.1.1] at f1
    obtain ⟨b1, b2, b3, b4, b5⟩ := dk_bars hD f1
    refine ⟨rfl, rfl, ⟨_, rfl⟩, _, c_X11_reshape_n (h_l := (dk_m0 hD)) (h_n := hn), ?_⟩
    rintro r2 w2 (⟨g1, g2, g3, rfl, rfl⟩ | ⟨g1, g2, g3, rfl, rfl⟩ | ⟨g1, g2, rfl, rfl⟩ | ⟨g1, rfl, rfl⟩)
    · rw [le3] at g2
      exact absurd f5 (Int32.not_le.mpr (nI_lt (b := 10) hn (by decide)))
    · rw [le3] at g2
      exact absurd ⟨Int32.not_lt.mp f3, Int32.not_lt.mp f4⟩ g3
    · rw [le3] at g2
      exact absurd f2 g2
    · exact absurd f1 g1
  · rw [hD.1.1] at f1
    obtain ⟨b1, b2, b3, b4, b5⟩ := dk_bars hD f1
    refine ⟨rfl, rfl, ⟨_, rfl⟩, _, c_X11_reshape_n (h_l := (dk_m0 hD)) (h_n := hn), ?_⟩
    rintro r2 w2 (⟨g1, g2, g3, rfl, rfl⟩ | ⟨g1, g2, g3, rfl, rfl⟩ | ⟨g1, g2, rfl, rfl⟩ | ⟨g1, rfl, rfl⟩)
    · rw [le3] at g2
      rw [(dk_bar hD f1 f2)]
      have o18 := (hD.2.2.1 _ _ (cl_lt (dk_l4 hD) f1) (cl_lt (c := 4) (by decide) f2)).2
      exact ⟨rfl, ⟨_, rfl⟩, inv_mk (fun z => absurd z (by decide)) hT (dk_upd hD f1 f2 (show b18 a3.toInt from by have q1 := Int32.le_iff_toInt_le.mp g3.1; have q2 := Int32.le_iff_toInt_le.mp g3.2; exact ⟨q1, q2⟩)) hP ⟨hK.1, hK.2.1, fun z => absurd rfl z⟩ (ac_push hA hn f1 f2 o18)⟩
    · rw [le3] at g2
      exact absurd ⟨Int32.not_lt.mp f3, Int32.not_lt.mp f4⟩ g3
    · rw [le3] at g2
      exact absurd f2 g2
    · exact absurd f1 g1
  · rw [hD.1.1] at f1
    obtain ⟨b1, b2, b3, b4, b5⟩ := dk_bars hD f1
    refine ⟨rfl, rfl, ⟨_, rfl⟩, _, c_X11_reshape_n (h_l := (dk_m0 hD)) (h_n := hn), ?_⟩
    rintro r2 w2 (⟨g1, g2, g3, rfl, rfl⟩ | ⟨g1, g2, g3, rfl, rfl⟩ | ⟨g1, g2, rfl, rfl⟩ | ⟨g1, rfl, rfl⟩)
    · rw [le3] at g2
      exact absurd g2 f2
    · rw [le3] at g2
      exact absurd g2 f2
    · rw [le3] at g2
      exact ⟨rfl, ⟨_, rfl⟩, inv_mk (fun z => absurd z (by decide)) hT hD hP hK hA⟩
    · exact absurd f1 g1
  · rw [hD.1.1] at f1
    refine ⟨rfl, rfl, ⟨_, rfl⟩, _, c_X11_reshape_n (h_l := (dk_m0 hD)) (h_n := hn), ?_⟩
    rintro r2 w2 (⟨g1, g2, g3, rfl, rfl⟩ | ⟨g1, g2, g3, rfl, rfl⟩ | ⟨g1, g2, rfl, rfl⟩ | ⟨g1, rfl, rfl⟩)
    · exact absurd g1 f1
    · exact absurd g1 f1
    · exact absurd g1 f1
    · exact ⟨rfl, ⟨_, rfl⟩, inv_mk (fun z => absurd z (by decide)) hT hD hP hK hA⟩
set_option maxRecDepth 100000 in
theorem pr_undo {w : ax_W} (hI : INV w) : PrI M_X10_undo M_X11_undo [] w := by
  refine hI (fun w => PrI M_X10_undo M_X11_undo [] w) ?_
  intro tr fl pl wl wd f1_3 f1_4 f10_0 f10_1 f10_2 f10_3 f12_5 f12_6 f12_7 f12_8 f12_9 f18_7 f18_8 f18_9 f18_10 f25_3 m_thrown m_where m_readLinks m_readTracers m_readPoints m_readPairs m_textLong m_at m_spot m_token m_whole m_readFault m_readPlace m_value m_curveMany m_cornerMany m_straightAt m_lined f11_0 f11_1 f11_2 f11_3 f11_4 f11_5 f11_6 f11_7 f11_8 f11_9 f11_10 f11_11 f11_12 f11_13 f11_14 f11_15 f18_11 f18_12 m_n m_c m_d m_s m_e m_k m_x m_y m_g m_a m_fitUp m_fitDown m_worstUp m_worstDown r2 r3 r5 r6 r8 r9 r13 r14 r15 r26 r27 r28 r30 r31 r32 q3 q4 q5 q6 q7 q8 q9 q10 q11 q12 q13 q14 q15 q16 q18 q19 q20 r19 r20 r21 r22 r23 r24 q17 L nl nt np nr wa wb f n so ch hW hT hD hP hK hA
  by_cases en : n = 0
  · subst en
    refine ⟨_, c_X10_undo (h_f := hA.1) (h_n := hA.2.1) (h_v1 := (fun z => absurd z (by omega))) (h_v2 := (fun z => absurd z (by omega))) (h_c := (dk_c0 hD)) (f := f) (n := 0), ?_⟩
    rintro r w' (⟨f1, rfl, rfl⟩ | ⟨f1, rfl, rfl⟩)
    · refine ⟨rfl, rfl, ⟨_, rfl⟩, _, c_X11_undo_0, ?_⟩
      rintro r2 w2 ⟨rfl, rfl⟩
      exact ⟨rfl, ⟨_, rfl⟩, inv_mk (fun z => absurd z (by decide)) hT hD hP hK hA⟩
    · refine ⟨rfl, rfl, ⟨_, rfl⟩, _, c_X11_undo_0, ?_⟩
      rintro r2 w2 ⟨rfl, rfl⟩
      exact absurd (by decide) f1
  have hn : 0 < n := Nat.pos_of_ne_zero en
  have ha := hA.2.2 (n - 1) (by omega)
  refine ⟨_, c_X10_undo (h_f := hA.1) (h_n := hA.2.1) (h_v1 := (fun z => by rw [((hA.2.2 (n - 1) (by omega)).1).1, hD.1.1]; exact (hA.2.2 (n - 1) (by omega)).2.1)) (h_v2 := (fun z => by rw [((hA.2.2 (n - 1) (by omega)).1).2.1]; exact (hA.2.2 (n - 1) (by omega)).2.2.1)) (h_c := (dk_c0 hD)), ?_⟩
  rintro r w' (⟨f1, rfl, rfl⟩ | ⟨f1, rfl, rfl⟩)
  · refine ⟨rfl, rfl, ⟨_, rfl⟩, _, c_X11_undo_n (h_l := (dk_m0 hD)) (h_n := hA.2.1) (h_0 := hn) (h_v1 := ha.2.1) (h_v2 := ha.2.2.1), ?_⟩
    rintro r2 w2 ⟨rfl, rfl⟩
    exact absurd f1 (Int32.not_le.mpr (nI_lt (a := 0) hn (by have := hA.2.1; omega)))
  · refine ⟨rfl, rfl, ⟨_, rfl⟩, _, c_X11_undo_n (h_l := (dk_m0 hD)) (h_n := hA.2.1) (h_0 := hn) (h_v1 := ha.2.1) (h_v2 := ha.2.2.1), ?_⟩
    rintro r2 w2 ⟨rfl, rfl⟩
    rw [ha.1.1, ha.1.2.1, ha.1.2.2]
    exact ⟨rfl, ⟨_, rfl⟩, inv_mk (fun z => absurd z (by decide)) hT (dk_upd hD ha.2.1 ha.2.2.1 ha.2.2.2) hP ⟨hK.1, hK.2.1, fun z => absurd rfl z⟩ (ac_pop hA)⟩
set_option maxRecDepth 100000 in
theorem pr_feed {w : ax_W} (hI : INV w) (a1 a2 a3 a4 a5 : Int32) : PrI M_X10_feed M_X11_feed [.int a1, .int a2, .int a3, .int a4, .int a5] w := by
  refine hI (fun w => PrI M_X10_feed M_X11_feed [.int a1, .int a2, .int a3, .int a4, .int a5] w) ?_
  intro tr fl pl wl wd f1_3 f1_4 f10_0 f10_1 f10_2 f10_3 f12_5 f12_6 f12_7 f12_8 f12_9 f18_7 f18_8 f18_9 f18_10 f25_3 m_thrown m_where m_readLinks m_readTracers m_readPoints m_readPairs m_textLong m_at m_spot m_token m_whole m_readFault m_readPlace m_value m_curveMany m_cornerMany m_straightAt m_lined f11_0 f11_1 f11_2 f11_3 f11_4 f11_5 f11_6 f11_7 f11_8 f11_9 f11_10 f11_11 f11_12 f11_13 f11_14 f11_15 f18_11 f18_12 m_n m_c m_d m_s m_e m_k m_x m_y m_g m_a m_fitUp m_fitDown m_worstUp m_worstDown r2 r3 r5 r6 r8 r9 r13 r14 r15 r26 r27 r28 r30 r31 r32 q3 q4 q5 q6 q7 q8 q9 q10 q11 q12 q13 q14 q15 q16 q18 q19 q20 r19 r20 r21 r22 r23 r24 q17 L nl nt np nr wa wb f n so ch hW hT hD hP hK hA
  refine ⟨_, c_X10_feed (h_L := hT.1), ?_⟩
  rintro r w' (⟨f1, rfl, rfl⟩ | ⟨f1, rfl, rfl⟩)
  · refine ⟨rfl, rfl, ⟨_, rfl⟩, _, c_X11_feed (h_L := hT.1), ?_⟩
    rintro r2 w2 (⟨g1, rfl, rfl⟩ | ⟨g1, rfl, rfl⟩)
    · have rm := room_mp hT.1 f1
      have ht := (tp_put (tp_put (tp_put (tp_put (tp_put (tp_put (tp_put (tp_put (tp_put (tp_put (tp_put (tp_put (tp_put (tp_put (tp_put (tp_put (tp_put (tp_put (tp_put (tp_put hT (by omega) (a1 >>> (24 &&& 31))) (by omega) (a1 >>> (16 &&& 31))) (by omega) (a1 >>> (8 &&& 31))) (by omega) (a1 >>> (0 &&& 31))) (by omega) (a2 >>> (24 &&& 31))) (by omega) (a2 >>> (16 &&& 31))) (by omega) (a2 >>> (8 &&& 31))) (by omega) (a2 >>> (0 &&& 31))) (by omega) (a3 >>> (24 &&& 31))) (by omega) (a3 >>> (16 &&& 31))) (by omega) (a3 >>> (8 &&& 31))) (by omega) (a3 >>> (0 &&& 31))) (by omega) (a4 >>> (24 &&& 31))) (by omega) (a4 >>> (16 &&& 31))) (by omega) (a4 >>> (8 &&& 31))) (by omega) (a4 >>> (0 &&& 31))) (by omega) (a5 >>> (24 &&& 31))) (by omega) (a5 >>> (16 &&& 31))) (by omega) (a5 >>> (8 &&& 31))) (by omega) (a5 >>> (0 &&& 31)))
      simp only [Nat.add_assoc, Nat.reduceAdd] at ht ⊢
      exact ⟨trivial, ⟨_, rfl⟩, inv_mk hW ht hD hP hK hA⟩
    · exact absurd (show nI L ≤ nI 680 from (nI_leI (by have := hT.1; omega) (by decide)).mpr (by have := room_mp hT.1 f1; omega)) g1
  · refine ⟨rfl, rfl, ⟨_, rfl⟩, _, c_X11_feed (h_L := hT.1), ?_⟩
    rintro r2 w2 (⟨g1, rfl, rfl⟩ | ⟨g1, rfl, rfl⟩)
    · exact absurd ((nI_leI (b := 680) (by have := hT.1; omega) (by decide)).mp g1) (by have := room_mpr hT.1 f1; omega)
    · exact ⟨rfl, ⟨_, rfl⟩, inv_mk hW hT hD hP hK hA⟩
