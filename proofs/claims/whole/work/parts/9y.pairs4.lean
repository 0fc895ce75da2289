set_option maxRecDepth 100000 in
theorem pr_box {w : ax_W} (hI : INV w) (a1 a2 a3 a4 : Int32) : PrI M_X10_box M_X11_box [.int a1, .int a2, .int a3, .int a4] w := by
  refine hI (fun w => PrI M_X10_box M_X11_box [.int a1, .int a2, .int a3, .int a4] w) ?_
  intro tr fl pl wl wd f1_3 f1_4 f10_0 f10_1 f10_2 f10_3 f12_5 f12_6 f12_7 f12_8 f12_9 f18_7 f18_8 f18_9 f18_10 f25_3 m_thrown m_where m_readLinks m_readTracers m_readPoints m_readPairs m_textLong m_at m_spot m_token m_whole m_readFault m_readPlace m_value m_curveMany m_cornerMany m_straightAt m_lined f11_0 f11_1 f11_2 f11_3 f11_4 f11_5 f11_6 f11_7 f11_8 f11_9 f11_10 f11_11 f11_12 f11_13 f11_14 f11_15 f18_11 f18_12 m_n m_c m_d m_s m_e m_k m_x m_y m_g m_a m_fitUp m_fitDown m_worstUp m_worstDown r2 r3 r5 r6 r8 r9 r13 r14 r15 r26 r27 r28 r30 r31 r32 q3 q4 q5 q6 q7 q8 q9 q10 q11 q12 q13 q14 q15 q16 q18 q19 q20 r19 r20 r21 r22 r23 r24 q17 L nl nt np nr wa wb f n so ch hW hT hD hP hK hA
  by_cases e0 : a4 = 0
  · subst e0
    refine ⟨_, c_X10_box_0 (h_c0 := (dk_c0 hD)) (h_c1 := (dk_c1 hD)) (h_p := (fun k => decide_eq_true_iff)) (h_X := (fun _ _ _ => rfl)) (h_Y := (fun _ _ _ => rfl)) (h_ok := (fun z k hk hL => okC hD a3 (dkl hD z.1) (dkt hD z.2.1) k hk hL)) (p := (pC r5 a1)) (X := (XC r5 a1 a2 a3)) (Y := (YC r5 a1 a2 a3)), ?_⟩
    rintro r w' (⟨x0_0, f1, f2, rfl, rfl⟩ | ⟨x1_0, f1, f2, rfl, rfl⟩ | ⟨f1, rfl, rfl⟩)
    · rw [hD.1.1] at f1
      rw [hD.1.2.1] at f1
      obtain ⟨b1, b2, b3, b4, b5⟩ := dk_bars hD f1.1
      refine ⟨rfl, rfl, ⟨_, rfl⟩, _, c_X11_box_0 (h_l := (dk_m0 hD)) (h_t := (dk_m1 hD)) (h_p := (fun k => decide_eq_true_iff)) (h_X := (fun _ _ _ => rfl)) (h_Y := (fun _ _ _ => rfl)) (h_ok := (fun z k hk hL => okM hD a3 z.1 z.2.1 k hk hL)) (p := (pM q4 a1)) (X := (XM q4 q5 a1 a2 a3)) (Y := (YM q4 q5 a1 a2 a3)), ?_⟩
      rintro r2 w2 (⟨y0_0, y0_1, g1, g2, rfl, rfl⟩ | ⟨y1_0, g1, g2, rfl, rfl⟩ | ⟨g1, rfl, rfl⟩)
      · rw [cn_e hD f1.1] at g2
        exact absurd f2 g2
      · rw [cn_e hD f1.1] at g2
        exact ⟨rfl, ⟨_, rfl⟩, inv_mk (fun z => absurd z (by decide)) hT hD hP hK hA⟩
      · exact absurd f1 g1
    · rw [hD.1.1] at f1
      rw [hD.1.2.1] at f1
      obtain ⟨b1, b2, b3, b4, b5⟩ := dk_bars hD f1.1
      refine ⟨rfl, rfl, ⟨_, rfl⟩, _, c_X11_box_0 (h_l := (dk_m0 hD)) (h_t := (dk_m1 hD)) (h_p := (fun k => decide_eq_true_iff)) (h_X := (fun _ _ _ => rfl)) (h_Y := (fun _ _ _ => rfl)) (h_ok := (fun z k hk hL => okM hD a3 z.1 z.2.1 k hk hL)) (p := (pM q4 a1)) (X := (XM q4 q5 a1 a2 a3)) (Y := (YM q4 q5 a1 a2 a3)), ?_⟩
      rintro r2 w2 (⟨y0_0, y0_1, g1, g2, rfl, rfl⟩ | ⟨y1_0, g1, g2, rfl, rfl⟩ | ⟨g1, rfl, rfl⟩)
      · rw [cn_e hD f1.1] at g2
        exact ⟨by rw [cn_e hD f1.1]; exact congrArg (fun v => some (Value.int v)) (e_box0 (cn_pos _ f2) (cn_le _ 40) (cv_x hD a3 f1.1 f1.2.1 r13 q12)).symm, ⟨_, rfl⟩, inv_mk (fun z => absurd z (by decide)) hT hD hP hK hA⟩
      · rw [cn_e hD f1.1] at g2
        exact absurd g2 f2
      · exact absurd f1 g1
    · rw [hD.1.1] at f1
      rw [hD.1.2.1] at f1
      refine ⟨rfl, rfl, ⟨_, rfl⟩, _, c_X11_box_0 (h_l := (dk_m0 hD)) (h_t := (dk_m1 hD)) (h_p := (fun k => decide_eq_true_iff)) (h_X := (fun _ _ _ => rfl)) (h_Y := (fun _ _ _ => rfl)) (h_ok := (fun z k hk hL => okM hD a3 z.1 z.2.1 k hk hL)) (p := (pM q4 a1)) (X := (XM q4 q5 a1 a2 a3)) (Y := (YM q4 q5 a1 a2 a3)), ?_⟩
      rintro r2 w2 (⟨y0_0, y0_1, g1, g2, rfl, rfl⟩ | ⟨y1_0, g1, g2, rfl, rfl⟩ | ⟨g1, rfl, rfl⟩)
      · exact absurd g1 f1
      · exact absurd g1 f1
      · exact ⟨rfl, ⟨_, rfl⟩, inv_mk (fun z => absurd z (by decide)) hT hD hP hK hA⟩
  by_cases e1 : a4 = 1
  · subst e1
    refine ⟨_, c_X10_box_1 (h_c0 := (dk_c0 hD)) (h_c1 := (dk_c1 hD)) (h_p := (fun k => decide_eq_true_iff)) (h_X := (fun _ _ _ => rfl)) (h_Y := (fun _ _ _ => rfl)) (h_ok := (fun z k hk hL => okC hD a3 (dkl hD z.1) (dkt hD z.2.1) k hk hL)) (p := (pC r5 a1)) (X := (XC r5 a1 a2 a3)) (Y := (YC r5 a1 a2 a3)), ?_⟩
    rintro r w' (⟨x0_0, f1, f2, rfl, rfl⟩ | ⟨x1_0, f1, f2, rfl, rfl⟩ | ⟨f1, rfl, rfl⟩)
    · rw [hD.1.1] at f1
      rw [hD.1.2.1] at f1
      obtain ⟨b1, b2, b3, b4, b5⟩ := dk_bars hD f1.1
      refine ⟨rfl, rfl, ⟨_, rfl⟩, _, c_X11_box_1 (h_l := (dk_m0 hD)) (h_t := (dk_m1 hD)) (h_p := (fun k => decide_eq_true_iff)) (h_X := (fun _ _ _ => rfl)) (h_Y := (fun _ _ _ => rfl)) (h_ok := (fun z k hk hL => okM hD a3 z.1 z.2.1 k hk hL)) (p := (pM q4 a1)) (X := (XM q4 q5 a1 a2 a3)) (Y := (YM q4 q5 a1 a2 a3)), ?_⟩
      rintro r2 w2 (⟨y0_0, y0_1, g1, g2, rfl, rfl⟩ | ⟨y1_0, g1, g2, rfl, rfl⟩ | ⟨g1, rfl, rfl⟩)
      · rw [cn_e hD f1.1] at g2
        exact absurd f2 g2
      · rw [cn_e hD f1.1] at g2
        exact ⟨rfl, ⟨_, rfl⟩, inv_mk (fun z => absurd z (by decide)) hT hD hP hK hA⟩
      · exact absurd f1 g1
    · rw [hD.1.1] at f1
      rw [hD.1.2.1] at f1
      obtain ⟨b1, b2, b3, b4, b5⟩ := dk_bars hD f1.1
      refine ⟨rfl, rfl, ⟨_, rfl⟩, _, c_X11_box_1 (h_l := (dk_m0 hD)) (h_t := (dk_m1 hD)) (h_p := (fun k => decide_eq_true_iff)) (h_X := (fun _ _ _ => rfl)) (h_Y := (fun _ _ _ => rfl)) (h_ok := (fun z k hk hL => okM hD a3 z.1 z.2.1 k hk hL)) (p := (pM q4 a1)) (X := (XM q4 q5 a1 a2 a3)) (Y := (YM q4 q5 a1 a2 a3)), ?_⟩
      rintro r2 w2 (⟨y0_0, y0_1, g1, g2, rfl, rfl⟩ | ⟨y1_0, g1, g2, rfl, rfl⟩ | ⟨g1, rfl, rfl⟩)
      · rw [cn_e hD f1.1] at g2
        exact ⟨by rw [cn_e hD f1.1]; exact congrArg (fun v => some (Value.int v)) (e_box1 (cn_pos _ f2) (cn_le _ 40) (cv_x hD a3 f1.1 f1.2.1 r13 q12)).symm, ⟨_, rfl⟩, inv_mk (fun z => absurd z (by decide)) hT hD hP hK hA⟩
      · rw [cn_e hD f1.1] at g2
        exact absurd g2 f2
      · exact absurd f1 g1
    · rw [hD.1.1] at f1
      rw [hD.1.2.1] at f1
      refine ⟨rfl, rfl, ⟨_, rfl⟩, _, c_X11_box_1 (h_l := (dk_m0 hD)) (h_t := (dk_m1 hD)) (h_p := (fun k => decide_eq_true_iff)) (h_X := (fun _ _ _ => rfl)) (h_Y := (fun _ _ _ => rfl)) (h_ok := (fun z k hk hL => okM hD a3 z.1 z.2.1 k hk hL)) (p := (pM q4 a1)) (X := (XM q4 q5 a1 a2 a3)) (Y := (YM q4 q5 a1 a2 a3)), ?_⟩
      rintro r2 w2 (⟨y0_0, y0_1, g1, g2, rfl, rfl⟩ | ⟨y1_0, g1, g2, rfl, rfl⟩ | ⟨g1, rfl, rfl⟩)
      · exact absurd g1 f1
      · exact absurd g1 f1
      · exact ⟨rfl, ⟨_, rfl⟩, inv_mk (fun z => absurd z (by decide)) hT hD hP hK hA⟩
  by_cases e2 : a4 = 2
  · subst e2
    refine ⟨_, c_X10_box_2 (h_c0 := (dk_c0 hD)) (h_c1 := (dk_c1 hD)) (h_p := (fun k => decide_eq_true_iff)) (h_X := (fun _ _ _ => rfl)) (h_Y := (fun _ _ _ => rfl)) (h_ok := (fun z k hk hL => okC hD a3 (dkl hD z.1) (dkt hD z.2.1) k hk hL)) (p := (pC r5 a1)) (X := (XC r5 a1 a2 a3)) (Y := (YC r5 a1 a2 a3)), ?_⟩
    rintro r w' (⟨x0_0, f1, f2, rfl, rfl⟩ | ⟨x1_0, f1, f2, rfl, rfl⟩ | ⟨f1, rfl, rfl⟩)
    · rw [hD.1.1] at f1
      rw [hD.1.2.1] at f1
      obtain ⟨b1, b2, b3, b4, b5⟩ := dk_bars hD f1.1
      refine ⟨rfl, rfl, ⟨_, rfl⟩, _, c_X11_box_2 (h_l := (dk_m0 hD)) (h_t := (dk_m1 hD)) (h_p := (fun k => decide_eq_true_iff)) (h_X := (fun _ _ _ => rfl)) (h_Y := (fun _ _ _ => rfl)) (h_ok := (fun z k hk hL => okM hD a3 z.1 z.2.1 k hk hL)) (p := (pM q4 a1)) (X := (XM q4 q5 a1 a2 a3)) (Y := (YM q4 q5 a1 a2 a3)), ?_⟩
      rintro r2 w2 (⟨y0_0, y0_1, g1, g2, rfl, rfl⟩ | ⟨y1_0, g1, g2, rfl, rfl⟩ | ⟨g1, rfl, rfl⟩)
      · rw [cn_e hD f1.1] at g2
        exact absurd f2 g2
      · rw [cn_e hD f1.1] at g2
        exact ⟨rfl, ⟨_, rfl⟩, inv_mk (fun z => absurd z (by decide)) hT hD hP hK hA⟩
      · exact absurd f1 g1
    · rw [hD.1.1] at f1
      rw [hD.1.2.1] at f1
      obtain ⟨b1, b2, b3, b4, b5⟩ := dk_bars hD f1.1
      refine ⟨rfl, rfl, ⟨_, rfl⟩, _, c_X11_box_2 (h_l := (dk_m0 hD)) (h_t := (dk_m1 hD)) (h_p := (fun k => decide_eq_true_iff)) (h_X := (fun _ _ _ => rfl)) (h_Y := (fun _ _ _ => rfl)) (h_ok := (fun z k hk hL => okM hD a3 z.1 z.2.1 k hk hL)) (p := (pM q4 a1)) (X := (XM q4 q5 a1 a2 a3)) (Y := (YM q4 q5 a1 a2 a3)), ?_⟩
      rintro r2 w2 (⟨y0_0, y0_1, g1, g2, rfl, rfl⟩ | ⟨y1_0, g1, g2, rfl, rfl⟩ | ⟨g1, rfl, rfl⟩)
      · rw [cn_e hD f1.1] at g2
        exact ⟨by rw [cn_e hD f1.1]; exact congrArg (fun v => some (Value.int v)) (e_box2 (cn_pos _ f2) (cn_le _ 40) (cv_y hD a3 f1.1 f1.2.1 r14 q13)).symm, ⟨_, rfl⟩, inv_mk (fun z => absurd z (by decide)) hT hD hP hK hA⟩
      · rw [cn_e hD f1.1] at g2
        exact absurd g2 f2
      · exact absurd f1 g1
    · rw [hD.1.1] at f1
      rw [hD.1.2.1] at f1
      refine ⟨rfl, rfl, ⟨_, rfl⟩, _, c_X11_box_2 (h_l := (dk_m0 hD)) (h_t := (dk_m1 hD)) (h_p := (fun k => decide_eq_true_iff)) (h_X := (fun _ _ _ => rfl)) (h_Y := (fun _ _ _ => rfl)) (h_ok := (fun z k hk hL => okM hD a3 z.1 z.2.1 k hk hL)) (p := (pM q4 a1)) (X := (XM q4 q5 a1 a2 a3)) (Y := (YM q4 q5 a1 a2 a3)), ?_⟩
      rintro r2 w2 (⟨y0_0, y0_1, g1, g2, rfl, rfl⟩ | ⟨y1_0, g1, g2, rfl, rfl⟩ | ⟨g1, rfl, rfl⟩)
      · exact absurd g1 f1
      · exact absurd g1 f1
      · exact ⟨rfl, ⟨_, rfl⟩, inv_mk (fun z => absurd z (by decide)) hT hD hP hK hA⟩
  by_cases e3 : a4 = 3
  · subst e3
    refine ⟨_, c_X10_box_3 (h_c0 := (dk_c0 hD)) (h_c1 := (dk_c1 hD)) (h_p := (fun k => decide_eq_true_iff)) (h_X := (fun _ _ _ => rfl)) (h_Y := (fun _ _ _ => rfl)) (h_ok := (fun z k hk hL => okC hD a3 (dkl hD z.1) (dkt hD z.2.1) k hk hL)) (p := (pC r5 a1)) (X := (XC r5 a1 a2 a3)) (Y := (YC r5 a1 a2 a3)), ?_⟩
    rintro r w' (⟨x0_0, f1, f2, rfl, rfl⟩ | ⟨x1_0, f1, f2, rfl, rfl⟩ | ⟨f1, rfl, rfl⟩)
    · rw [hD.1.1] at f1
      rw [hD.1.2.1] at f1
      obtain ⟨b1, b2, b3, b4, b5⟩ := dk_bars hD f1.1
      refine ⟨rfl, rfl, ⟨_, rfl⟩, _, c_X11_box_3 (h_l := (dk_m0 hD)) (h_t := (dk_m1 hD)) (h_p := (fun k => decide_eq_true_iff)) (h_X := (fun _ _ _ => rfl)) (h_Y := (fun _ _ _ => rfl)) (h_ok := (fun z k hk hL => okM hD a3 z.1 z.2.1 k hk hL)) (p := (pM q4 a1)) (X := (XM q4 q5 a1 a2 a3)) (Y := (YM q4 q5 a1 a2 a3)), ?_⟩
      rintro r2 w2 (⟨y0_0, y0_1, g1, g2, rfl, rfl⟩ | ⟨y1_0, g1, g2, rfl, rfl⟩ | ⟨g1, rfl, rfl⟩)
      · rw [cn_e hD f1.1] at g2
        exact absurd f2 g2
      · rw [cn_e hD f1.1] at g2
        exact ⟨rfl, ⟨_, rfl⟩, inv_mk (fun z => absurd z (by decide)) hT hD hP hK hA⟩
      · exact absurd f1 g1
    · rw [hD.1.1] at f1
      rw [hD.1.2.1] at f1
      obtain ⟨b1, b2, b3, b4, b5⟩ := dk_bars hD f1.1
      refine ⟨rfl, rfl, ⟨_, rfl⟩, _, c_X11_box_3 (h_l := (dk_m0 hD)) (h_t := (dk_m1 hD)) (h_p := (fun k => decide_eq_true_iff)) (h_X := (fun _ _ _ => rfl)) (h_Y := (fun _ _ _ => rfl)) (h_ok := (fun z k hk hL => okM hD a3 z.1 z.2.1 k hk hL)) (p := (pM q4 a1)) (X := (XM q4 q5 a1 a2 a3)) (Y := (YM q4 q5 a1 a2 a3)), ?_⟩
      rintro r2 w2 (⟨y0_0, y0_1, g1, g2, rfl, rfl⟩ | ⟨y1_0, g1, g2, rfl, rfl⟩ | ⟨g1, rfl, rfl⟩)
      · rw [cn_e hD f1.1] at g2
        exact ⟨by rw [cn_e hD f1.1]; exact congrArg (fun v => some (Value.int v)) (e_box3 (cn_pos _ f2) (cn_le _ 40) (cv_y hD a3 f1.1 f1.2.1 r14 q13)).symm, ⟨_, rfl⟩, inv_mk (fun z => absurd z (by decide)) hT hD hP hK hA⟩
      · rw [cn_e hD f1.1] at g2
        exact absurd g2 f2
      · exact absurd f1 g1
    · rw [hD.1.1] at f1
      rw [hD.1.2.1] at f1
      refine ⟨rfl, rfl, ⟨_, rfl⟩, _, c_X11_box_3 (h_l := (dk_m0 hD)) (h_t := (dk_m1 hD)) (h_p := (fun k => decide_eq_true_iff)) (h_X := (fun _ _ _ => rfl)) (h_Y := (fun _ _ _ => rfl)) (h_ok := (fun z k hk hL => okM hD a3 z.1 z.2.1 k hk hL)) (p := (pM q4 a1)) (X := (XM q4 q5 a1 a2 a3)) (Y := (YM q4 q5 a1 a2 a3)), ?_⟩
      rintro r2 w2 (⟨y0_0, y0_1, g1, g2, rfl, rfl⟩ | ⟨y1_0, g1, g2, rfl, rfl⟩ | ⟨g1, rfl, rfl⟩)
      · exact absurd g1 f1
      · exact absurd g1 f1
      · exact ⟨rfl, ⟨_, rfl⟩, inv_mk (fun z => absurd z (by decide)) hT hD hP hK hA⟩
  have qo := n03 e0 e1 e2 e3
  refine ⟨_, c_X10_box_o (h_o := qo.2), ?_⟩
  rintro r w' (⟨f1, rfl, rfl⟩ | ⟨f1, rfl, rfl⟩)
  · rw [hD.1.1] at f1
    rw [hD.1.2.1] at f1
    obtain ⟨b1, b2, b3, b4, b5⟩ := dk_bars hD f1.1
    refine ⟨rfl, rfl, ⟨_, rfl⟩, _, c_X11_box_o (h_l := (dk_m0 hD)) (h_t := (dk_m1 hD)) (h_o := qo.1), ?_⟩
    rintro r2 w2 (⟨g1, rfl, rfl⟩ | ⟨g1, rfl, rfl⟩)
    · exact ⟨rfl, ⟨_, rfl⟩, inv_mk (fun z => absurd z (by decide)) hT hD hP hK hA⟩
    · exact absurd f1 g1
  · rw [hD.1.1] at f1
    rw [hD.1.2.1] at f1
    refine ⟨rfl, rfl, ⟨_, rfl⟩, _, c_X11_box_o (h_l := (dk_m0 hD)) (h_t := (dk_m1 hD)) (h_o := qo.1), ?_⟩
    rintro r2 w2 (⟨g1, rfl, rfl⟩ | ⟨g1, rfl, rfl⟩)
    · exact absurd g1 f1
    · exact ⟨rfl, ⟨_, rfl⟩, inv_mk (fun z => absurd z (by decide)) hT hD hP hK hA⟩
set_option maxRecDepth 100000 in
theorem pr_area {w : ax_W} (hI : INV w) (a1 a2 a3 : Int32) : PrL M_X10_area M_X11_area [.int a1, .int a2, .int a3] w := by
  refine hI (fun w => PrL M_X10_area M_X11_area [.int a1, .int a2, .int a3] w) ?_
  intro tr fl pl wl wd f1_3 f1_4 f10_0 f10_1 f10_2 f10_3 f12_5 f12_6 f12_7 f12_8 f12_9 f18_7 f18_8 f18_9 f18_10 f25_3 m_thrown m_where m_readLinks m_readTracers m_readPoints m_readPairs m_textLong m_at m_spot m_token m_whole m_readFault m_readPlace m_value m_curveMany m_cornerMany m_straightAt m_lined f11_0 f11_1 f11_2 f11_3 f11_4 f11_5 f11_6 f11_7 f11_8 f11_9 f11_10 f11_11 f11_12 f11_13 f11_14 f11_15 f18_11 f18_12 m_n m_c m_d m_s m_e m_k m_x m_y m_g m_a m_fitUp m_fitDown m_worstUp m_worstDown r2 r3 r5 r6 r8 r9 r13 r14 r15 r26 r27 r28 r30 r31 r32 q3 q4 q5 q6 q7 q8 q9 q10 q11 q12 q13 q14 q15 q16 q18 q19 q20 r19 r20 r21 r22 r23 r24 q17 L nl nt np nr wa wb f n so ch hW hT hD hP hK hA
  refine ⟨_, c_X10_area (h_c0 := (dk_c0 hD)) (h_c1 := (dk_c1 hD)) (h_p := (fun k => decide_eq_true_iff)) (h_X := (fun _ _ _ => rfl)) (h_Y := (fun _ _ _ => rfl)) (h_ok := (fun z k hk hL => okC hD a3 (dkl hD z.1) (dkt hD z.2.1) k hk hL)) (p := (pC r5 a1)) (X := (XC r5 a1 a2 a3)) (Y := (YC r5 a1 a2 a3)), ?_⟩
  rintro r w' (⟨x0_0, f1, rfl, rfl⟩ | ⟨f1, rfl, rfl⟩)
  · rw [hD.1.1] at f1
    rw [hD.1.2.1] at f1
    obtain ⟨b1, b2, b3, b4, b5⟩ := dk_bars hD f1.1
    refine ⟨rfl, rfl, ⟨_, rfl⟩, _, c_X11_area (h_l := (dk_m0 hD)) (h_t := (dk_m1 hD)) (h_p := (fun k => decide_eq_true_iff)) (h_X := (fun _ _ _ => rfl)) (h_Y := (fun _ _ _ => rfl)) (h_ok := (fun z k hk hL => okM hD a3 z.1 z.2.1 k hk hL)) (p := (pM q4 a1)) (X := (XM q4 q5 a1 a2 a3)) (Y := (YM q4 q5 a1 a2 a3)), ?_⟩
    rintro r2 w2 (⟨y0_0, y0_1, g1, rfl, rfl⟩ | ⟨g1, rfl, rfl⟩)
    · exact ⟨by rw [cn_e hD f1.1]; exact congrArg (fun v => some (Value.long v)) (e_area (cv_x hD a3 f1.1 f1.2.1 r13 q12) (cv_y hD a3 f1.1 f1.2.1 r14 q13) (bx_x hD a3 f1.1 f1.2.1 r13) (bx_y hD a3 f1.1 f1.2.1 r14)).symm, ⟨_, rfl⟩, inv_mk (fun z => absurd z (by decide)) hT hD hP hK hA⟩
    · exact absurd f1 g1
  · rw [hD.1.1] at f1
    rw [hD.1.2.1] at f1
    refine ⟨rfl, rfl, ⟨_, rfl⟩, _, c_X11_area (h_l := (dk_m0 hD)) (h_t := (dk_m1 hD)) (h_p := (fun k => decide_eq_true_iff)) (h_X := (fun _ _ _ => rfl)) (h_Y := (fun _ _ _ => rfl)) (h_ok := (fun z k hk hL => okM hD a3 z.1 z.2.1 k hk hL)) (p := (pM q4 a1)) (X := (XM q4 q5 a1 a2 a3)) (Y := (YM q4 q5 a1 a2 a3)), ?_⟩
    rintro r2 w2 (⟨y0_0, y0_1, g1, rfl, rfl⟩ | ⟨g1, rfl, rfl⟩)
    · exact absurd g1 f1
    · exact ⟨rfl, ⟨_, rfl⟩, inv_mk (fun z => absurd z (by decide)) hT hD hP hK hA⟩
set_option maxRecDepth 100000 in
theorem pr_crossings {w : ax_W} (hI : INV w) (a1 a2 a3 : Int32) : PrI M_X10_crossings M_X11_crossings [.int a1, .int a2, .int a3] w := by
  refine hI (fun w => PrI M_X10_crossings M_X11_crossings [.int a1, .int a2, .int a3] w) ?_
  intro tr fl pl wl wd f1_3 f1_4 f10_0 f10_1 f10_2 f10_3 f12_5 f12_6 f12_7 f12_8 f12_9 f18_7 f18_8 f18_9 f18_10 f25_3 m_thrown m_where m_readLinks m_readTracers m_readPoints m_readPairs m_textLong m_at m_spot m_token m_whole m_readFault m_readPlace m_value m_curveMany m_cornerMany m_straightAt m_lined f11_0 f11_1 f11_2 f11_3 f11_4 f11_5 f11_6 f11_7 f11_8 f11_9 f11_10 f11_11 f11_12 f11_13 f11_14 f11_15 f18_11 f18_12 m_n m_c m_d m_s m_e m_k m_x m_y m_g m_a m_fitUp m_fitDown m_worstUp m_worstDown r2 r3 r5 r6 r8 r9 r13 r14 r15 r26 r27 r28 r30 r31 r32 q3 q4 q5 q6 q7 q8 q9 q10 q11 q12 q13 q14 q15 q16 q18 q19 q20 r19 r20 r21 r22 r23 r24 q17 L nl nt np nr wa wb f n so ch hW hT hD hP hK hA
  refine ⟨_, c_X10_crossings (h_c0 := (dk_c0 hD)) (h_c1 := (dk_c1 hD)) (h_p := (fun k => decide_eq_true_iff)) (h_X := (fun _ _ _ => rfl)) (h_Y := (fun _ _ _ => rfl)) (h_ok := (fun z k hk hL => okC hD a3 (dkl hD z.1) (dkt hD z.2.1) k hk hL)) (p := (pC r5 a1)) (X := (XC r5 a1 a2 a3)) (Y := (YC r5 a1 a2 a3)), ?_⟩
  rintro r w' (⟨x0_0, f1, rfl, rfl⟩ | ⟨f1, rfl, rfl⟩)
  · rw [hD.1.1] at f1
    rw [hD.1.2.1] at f1
    obtain ⟨b1, b2, b3, b4, b5⟩ := dk_bars hD f1.1
    refine ⟨rfl, rfl, ⟨_, rfl⟩, _, c_X11_crossings (h_l := (dk_m0 hD)) (h_t := (dk_m1 hD)) (h_p := (fun k => decide_eq_true_iff)) (h_X := (fun _ _ _ => rfl)) (h_Y := (fun _ _ _ => rfl)) (h_ok := (fun z k hk hL => okM hD a3 z.1 z.2.1 k hk hL)) (p := (pM q4 a1)) (X := (XM q4 q5 a1 a2 a3)) (Y := (YM q4 q5 a1 a2 a3)), ?_⟩
    rintro r2 w2 (⟨y0_0, y0_1, g1, rfl, rfl⟩ | ⟨g1, rfl, rfl⟩)
    · exact ⟨by rw [cn_e hD f1.1, mcr_cong (cv_x hD a3 f1.1 f1.2.1 r13 q12) (cv_y hD a3 f1.1 f1.2.1 r14 q13), e_cross (cn_le _ 40)], ⟨_, rfl⟩, inv_mk (fun z => absurd z (by decide)) hT hD hP hK hA⟩
    · exact absurd f1 g1
  · rw [hD.1.1] at f1
    rw [hD.1.2.1] at f1
    refine ⟨rfl, rfl, ⟨_, rfl⟩, _, c_X11_crossings (h_l := (dk_m0 hD)) (h_t := (dk_m1 hD)) (h_p := (fun k => decide_eq_true_iff)) (h_X := (fun _ _ _ => rfl)) (h_Y := (fun _ _ _ => rfl)) (h_ok := (fun z k hk hL => okM hD a3 z.1 z.2.1 k hk hL)) (p := (pM q4 a1)) (X := (XM q4 q5 a1 a2 a3)) (Y := (YM q4 q5 a1 a2 a3)), ?_⟩
    rintro r2 w2 (⟨y0_0, y0_1, g1, rfl, rfl⟩ | ⟨g1, rfl, rfl⟩)
    · exact absurd g1 f1
    · exact ⟨rfl, ⟨_, rfl⟩, inv_mk (fun z => absurd z (by decide)) hT hD hP hK hA⟩
set_option maxRecDepth 100000 in
theorem pr_hull {w : ax_W} (hI : INV w) (a1 a2 a3 : Int32) : PrI M_X10_hull M_X11_hull [.int a1, .int a2, .int a3] w := by
  refine hI (fun w => PrI M_X10_hull M_X11_hull [.int a1, .int a2, .int a3] w) ?_
  intro tr fl pl wl wd f1_3 f1_4 f10_0 f10_1 f10_2 f10_3 f12_5 f12_6 f12_7 f12_8 f12_9 f18_7 f18_8 f18_9 f18_10 f25_3 m_thrown m_where m_readLinks m_readTracers m_readPoints m_readPairs m_textLong m_at m_spot m_token m_whole m_readFault m_readPlace m_value m_curveMany m_cornerMany m_straightAt m_lined f11_0 f11_1 f11_2 f11_3 f11_4 f11_5 f11_6 f11_7 f11_8 f11_9 f11_10 f11_11 f11_12 f11_13 f11_14 f11_15 f18_11 f18_12 m_n m_c m_d m_s m_e m_k m_x m_y m_g m_a m_fitUp m_fitDown m_worstUp m_worstDown r2 r3 r5 r6 r8 r9 r13 r14 r15 r26 r27 r28 r30 r31 r32 q3 q4 q5 q6 q7 q8 q9 q10 q11 q12 q13 q14 q15 q16 q18 q19 q20 r19 r20 r21 r22 r23 r24 q17 L nl nt np nr wa wb f n so ch hW hT hD hP hK hA
  rcases c4 ((0 ≤ a1 ∧ a1 < (nI nl)) ∧ (0 ≤ a2 ∧ a2 < (nI nt)) ∧ (0 ≤ a3 ∧ a3 < 2)) (Cn (pC r5 a1) 40) with ⟨hC, h0⟩ | ⟨hC, h0⟩ | ⟨hC, h0⟩ | ⟨hC, h0⟩
  · have h0n : nI (Cn (pC r5 a1) 40) = 0 := by rw [h0]; rfl
    refine ⟨_, c_X10_hull_z (h_c0 := (dk_c0 hD)) (h_c1 := (dk_c1 hD)) (h_p := (fun k => decide_eq_true_iff)) (h_X := (fun _ _ _ => rfl)) (h_Y := (fun _ _ _ => rfl)) (h_ok := (fun z k hk hL => okC hD a3 (dkl hD z.1) (dkt hD z.2.1) k hk hL)) (h_z := h0) (p := (pC r5 a1)) (X := (XC r5 a1 a2 a3)) (Y := (YC r5 a1 a2 a3)) (so := so) (ch := ch), ?_⟩
    rintro r w' (⟨x0_0, f1, rfl, rfl⟩ | ⟨f1, rfl, rfl⟩)
    · rw [hD.1.1] at f1
      rw [hD.1.2.1] at f1
      obtain ⟨b1, b2, b3, b4, b5⟩ := dk_bars hD f1.1
      refine ⟨rfl, rfl, ⟨_, rfl⟩, _, c_X11_hull (h_l := (dk_m0 hD)) (h_t := (dk_m1 hD)) (h_p := (fun k => decide_eq_true_iff)) (h_X := (fun _ _ _ => rfl)) (h_Y := (fun _ _ _ => rfl)) (h_ok := (fun z k hk hL => okM hD a3 z.1 z.2.1 k hk hL)) (h_A0 := (fun _ => by unfold wfM; rw [cn_e hD hC.1]; rfl)) (h_As := (fun i => by rw [cn_e hD hC.1]; rfl)) (h_m := (fun z => absurd z (by rw [cn_e hD hC.1, h0]; omega))) (p := (pM q4 a1)) (X := (XM q4 q5 a1 a2 a3)) (Y := (YM q4 q5 a1 a2 a3)) (A := (marA (crv (pM q4 a1) (XM q4 q5 a1 a2 a3) z0 40) (crv (pM q4 a1) (YM q4 q5 a1 a2 a3) z0 40) (Cn (pC r5 a1) 40) (itr (lp_wf_st (crv (pM q4 a1) (XM q4 q5 a1 a2 a3) z0 40) (crv (pM q4 a1) (YM q4 q5 a1 a2 a3) z0 40)) ((Cn (pC r5 a1) 40) - 1) 1 0))) (m := 0), ?_⟩
      rintro r2 w2 (⟨y0_0, y0_1, g1, g2, rfl, rfl⟩ | ⟨y1_0, g1, g2, rfl, rfl⟩ | ⟨g1, rfl, rfl⟩)
      · rw [cn_e hD f1.1] at g2
        exact absurd h0n g2
      · rw [cn_e hD f1.1] at g2
        exact ⟨rfl, ⟨_, rfl⟩, inv_mk (fun z => absurd z (by decide)) hT hD hP hK hA⟩
      · exact absurd f1 g1
    · rw [hD.1.1] at f1
      rw [hD.1.2.1] at f1
      obtain ⟨b1, b2, b3, b4, b5⟩ := dk_bars hD hC.1
      refine ⟨rfl, rfl, ⟨_, rfl⟩, _, c_X11_hull (h_l := (dk_m0 hD)) (h_t := (dk_m1 hD)) (h_p := (fun k => decide_eq_true_iff)) (h_X := (fun _ _ _ => rfl)) (h_Y := (fun _ _ _ => rfl)) (h_ok := (fun z k hk hL => okM hD a3 z.1 z.2.1 k hk hL)) (h_A0 := (fun _ => by unfold wfM; rw [cn_e hD hC.1]; rfl)) (h_As := (fun i => by rw [cn_e hD hC.1]; rfl)) (h_m := (fun z => absurd z (by rw [cn_e hD hC.1, h0]; omega))) (p := (pM q4 a1)) (X := (XM q4 q5 a1 a2 a3)) (Y := (YM q4 q5 a1 a2 a3)) (A := (marA (crv (pM q4 a1) (XM q4 q5 a1 a2 a3) z0 40) (crv (pM q4 a1) (YM q4 q5 a1 a2 a3) z0 40) (Cn (pC r5 a1) 40) (itr (lp_wf_st (crv (pM q4 a1) (XM q4 q5 a1 a2 a3) z0 40) (crv (pM q4 a1) (YM q4 q5 a1 a2 a3) z0 40)) ((Cn (pC r5 a1) 40) - 1) 1 0))) (m := 0), ?_⟩
      rintro r2 w2 (⟨y0_0, y0_1, g1, g2, rfl, rfl⟩ | ⟨y1_0, g1, g2, rfl, rfl⟩ | ⟨g1, rfl, rfl⟩)
      · exact absurd hC f1
      · exact absurd hC f1
      · exact absurd hC f1
  · have HL := hl_ref so ch (cn_le (pC r5 a1) 40) h0 (cv_x hD a3 hC.1 hC.2.1 r13 z0) (cv_y hD a3 hC.1 hC.2.1 r14 z0) (bx_x hD a3 hC.1 hC.2.1 r13) (bx_y hD a3 hC.1 hC.2.1 r14)
    have h0n := nI_nz h0 (cn_le (pC r5 a1) 40)
    refine ⟨_, c_X10_hull_p (h_c0 := (dk_c0 hD)) (h_c1 := (dk_c1 hD)) (h_p := (fun k => decide_eq_true_iff)) (h_X := (fun _ _ _ => rfl)) (h_Y := (fun _ _ _ => rfl)) (h_ok := (fun z k hk hL => okC hD a3 (dkl hD z.1) (dkt hD z.2.1) k hk hL)) (h_1 := h0) (p := (pC r5 a1)) (X := (XC r5 a1 a2 a3)) (Y := (YC r5 a1 a2 a3)) (so := so) (ch := ch), ?_⟩
    rintro r w' (⟨x0_0, f1, rfl, rfl⟩ | ⟨f1, rfl, rfl⟩)
    · rw [hD.1.1] at f1
      rw [hD.1.2.1] at f1
      obtain ⟨b1, b2, b3, b4, b5⟩ := dk_bars hD f1.1
      refine ⟨rfl, rfl, ⟨_, rfl⟩, _, c_X11_hull (h_l := (dk_m0 hD)) (h_t := (dk_m1 hD)) (h_p := (fun k => decide_eq_true_iff)) (h_X := (fun _ _ _ => rfl)) (h_Y := (fun _ _ _ => rfl)) (h_ok := (fun z k hk hL => okM hD a3 z.1 z.2.1 k hk hL)) (h_A0 := (fun _ => by unfold wfM; rw [cn_e hD hC.1]; rfl)) (h_As := (fun i => by rw [cn_e hD hC.1]; rfl)) (h_m := (fun _ => HL.1)) (p := (pM q4 a1)) (X := (XM q4 q5 a1 a2 a3)) (Y := (YM q4 q5 a1 a2 a3)) (A := (marA (crv (pM q4 a1) (XM q4 q5 a1 a2 a3) z0 40) (crv (pM q4 a1) (YM q4 q5 a1 a2 a3) z0 40) (Cn (pC r5 a1) 40) (itr (lp_wf_st (crv (pM q4 a1) (XM q4 q5 a1 a2 a3) z0 40) (crv (pM q4 a1) (YM q4 q5 a1 a2 a3) z0 40)) ((Cn (pC r5 a1) 40) - 1) 1 0))) (m := (hlN (crv (pC r5 a1) (XC r5 a1 a2 a3) r13 40) (crv (pC r5 a1) (YC r5 a1 a2 a3) r14 40) (Cn (pC r5 a1) 40) so ch)), ?_⟩
      rintro r2 w2 (⟨y0_0, y0_1, g1, g2, rfl, rfl⟩ | ⟨y1_0, g1, g2, rfl, rfl⟩ | ⟨g1, rfl, rfl⟩)
      · rw [cn_e hD f1.1] at g2
        exact ⟨rfl, ⟨_, rfl⟩, inv_mk (fun z => absurd z (by decide)) hT hD hP hK hA⟩
      · rw [cn_e hD f1.1] at g2
        exact absurd g2 h0n
      · exact absurd f1 g1
    · rw [hD.1.1] at f1
      rw [hD.1.2.1] at f1
      obtain ⟨b1, b2, b3, b4, b5⟩ := dk_bars hD hC.1
      refine ⟨rfl, rfl, ⟨_, rfl⟩, _, c_X11_hull (h_l := (dk_m0 hD)) (h_t := (dk_m1 hD)) (h_p := (fun k => decide_eq_true_iff)) (h_X := (fun _ _ _ => rfl)) (h_Y := (fun _ _ _ => rfl)) (h_ok := (fun z k hk hL => okM hD a3 z.1 z.2.1 k hk hL)) (h_A0 := (fun _ => by unfold wfM; rw [cn_e hD hC.1]; rfl)) (h_As := (fun i => by rw [cn_e hD hC.1]; rfl)) (h_m := (fun _ => HL.1)) (p := (pM q4 a1)) (X := (XM q4 q5 a1 a2 a3)) (Y := (YM q4 q5 a1 a2 a3)) (A := (marA (crv (pM q4 a1) (XM q4 q5 a1 a2 a3) z0 40) (crv (pM q4 a1) (YM q4 q5 a1 a2 a3) z0 40) (Cn (pC r5 a1) 40) (itr (lp_wf_st (crv (pM q4 a1) (XM q4 q5 a1 a2 a3) z0 40) (crv (pM q4 a1) (YM q4 q5 a1 a2 a3) z0 40)) ((Cn (pC r5 a1) 40) - 1) 1 0))) (m := (hlN (crv (pC r5 a1) (XC r5 a1 a2 a3) r13 40) (crv (pC r5 a1) (YC r5 a1 a2 a3) r14 40) (Cn (pC r5 a1) 40) so ch)), ?_⟩
      rintro r2 w2 (⟨y0_0, y0_1, g1, g2, rfl, rfl⟩ | ⟨y1_0, g1, g2, rfl, rfl⟩ | ⟨g1, rfl, rfl⟩)
      · exact absurd hC f1
      · exact absurd hC f1
      · exact absurd hC f1
  · skip
    refine ⟨_, c_X10_hull_z (h_c0 := (dk_c0 hD)) (h_c1 := (dk_c1 hD)) (h_p := (fun k => decide_eq_true_iff)) (h_X := (fun _ _ _ => rfl)) (h_Y := (fun _ _ _ => rfl)) (h_ok := (fun z k hk hL => okC hD a3 (dkl hD z.1) (dkt hD z.2.1) k hk hL)) (h_z := h0) (p := (pC r5 a1)) (X := (XC r5 a1 a2 a3)) (Y := (YC r5 a1 a2 a3)) (so := so) (ch := ch), ?_⟩
    rintro r w' (⟨x0_0, f1, rfl, rfl⟩ | ⟨f1, rfl, rfl⟩)
    · rw [hD.1.1] at f1
      rw [hD.1.2.1] at f1
      obtain ⟨b1, b2, b3, b4, b5⟩ := dk_bars hD f1.1
      refine ⟨rfl, rfl, ⟨_, rfl⟩, _, c_X11_hull_o (h_l := (dk_m0 hD)) (h_t := (dk_m1 hD)) (h_o := hC), ?_⟩
      rintro r2 w2 ⟨rfl, rfl⟩
      exact absurd f1 hC
    · rw [hD.1.1] at f1
      rw [hD.1.2.1] at f1
      refine ⟨rfl, rfl, ⟨_, rfl⟩, _, c_X11_hull_o (h_l := (dk_m0 hD)) (h_t := (dk_m1 hD)) (h_o := hC), ?_⟩
      rintro r2 w2 ⟨rfl, rfl⟩
      exact ⟨rfl, ⟨_, rfl⟩, inv_mk (fun z => absurd z (by decide)) hT hD hP hK hA⟩
  · skip
    refine ⟨_, c_X10_hull_p (h_c0 := (dk_c0 hD)) (h_c1 := (dk_c1 hD)) (h_p := (fun k => decide_eq_true_iff)) (h_X := (fun _ _ _ => rfl)) (h_Y := (fun _ _ _ => rfl)) (h_ok := (fun z k hk hL => okC hD a3 (dkl hD z.1) (dkt hD z.2.1) k hk hL)) (h_1 := h0) (p := (pC r5 a1)) (X := (XC r5 a1 a2 a3)) (Y := (YC r5 a1 a2 a3)) (so := so) (ch := ch), ?_⟩
    rintro r w' (⟨x0_0, f1, rfl, rfl⟩ | ⟨f1, rfl, rfl⟩)
    · rw [hD.1.1] at f1
      rw [hD.1.2.1] at f1
      obtain ⟨b1, b2, b3, b4, b5⟩ := dk_bars hD f1.1
      refine ⟨rfl, rfl, ⟨_, rfl⟩, _, c_X11_hull_o (h_l := (dk_m0 hD)) (h_t := (dk_m1 hD)) (h_o := hC), ?_⟩
      rintro r2 w2 ⟨rfl, rfl⟩
      exact absurd f1 hC
    · rw [hD.1.1] at f1
      rw [hD.1.2.1] at f1
      refine ⟨rfl, rfl, ⟨_, rfl⟩, _, c_X11_hull_o (h_l := (dk_m0 hD)) (h_t := (dk_m1 hD)) (h_o := hC), ?_⟩
      rintro r2 w2 ⟨rfl, rfl⟩
      exact ⟨rfl, ⟨_, rfl⟩, inv_mk (fun z => absurd z (by decide)) hT hD hP hK hA⟩
set_option maxRecDepth 100000 in
theorem pr_corner {w : ax_W} (hI : INV w) (a1 a2 a3 a4 : Int32) : PrI M_X10_corner M_X11_corner [.int a1, .int a2, .int a3, .int a4] w := by
  refine hI (fun w => PrI M_X10_corner M_X11_corner [.int a1, .int a2, .int a3, .int a4] w) ?_
  intro tr fl pl wl wd f1_3 f1_4 f10_0 f10_1 f10_2 f10_3 f12_5 f12_6 f12_7 f12_8 f12_9 f18_7 f18_8 f18_9 f18_10 f25_3 m_thrown m_where m_readLinks m_readTracers m_readPoints m_readPairs m_textLong m_at m_spot m_token m_whole m_readFault m_readPlace m_value m_curveMany m_cornerMany m_straightAt m_lined f11_0 f11_1 f11_2 f11_3 f11_4 f11_5 f11_6 f11_7 f11_8 f11_9 f11_10 f11_11 f11_12 f11_13 f11_14 f11_15 f18_11 f18_12 m_n m_c m_d m_s m_e m_k m_x m_y m_g m_a m_fitUp m_fitDown m_worstUp m_worstDown r2 r3 r5 r6 r8 r9 r13 r14 r15 r26 r27 r28 r30 r31 r32 q3 q4 q5 q6 q7 q8 q9 q10 q11 q12 q13 q14 q15 q16 q18 q19 q20 r19 r20 r21 r22 r23 r24 q17 L nl nt np nr wa wb f n so ch hW hT hD hP hK hA
  rcases c4 ((0 ≤ a1 ∧ a1 < (nI nl)) ∧ (0 ≤ a2 ∧ a2 < (nI nt)) ∧ (0 ≤ a3 ∧ a3 < 2)) (Cn (pC r5 a1) 40) with ⟨hC, h0⟩ | ⟨hC, h0⟩ | ⟨hC, h0⟩ | ⟨hC, h0⟩
  · have h0n : nI (Cn (pC r5 a1) 40) = 0 := by rw [h0]; rfl
    refine ⟨_, c_X10_corner_z (h_c0 := (dk_c0 hD)) (h_c1 := (dk_c1 hD)) (h_p := (fun k => decide_eq_true_iff)) (h_X := (fun _ _ _ => rfl)) (h_Y := (fun _ _ _ => rfl)) (h_ok := (fun z k hk hL => okC hD a3 (dkl hD z.1) (dkt hD z.2.1) k hk hL)) (h_z := h0) (p := (pC r5 a1)) (X := (XC r5 a1 a2 a3)) (Y := (YC r5 a1 a2 a3)) (so := so) (ch := ch), ?_⟩
    rintro r w' (⟨x0_0, f1, f2, rfl, rfl⟩ | ⟨f1, rfl, rfl⟩)
    · rw [hD.1.1] at f1
      rw [hD.1.2.1] at f1
      obtain ⟨b1, b2, b3, b4, b5⟩ := dk_bars hD f1.1
      refine ⟨rfl, rfl, ⟨_, rfl⟩, _, c_X11_corner (h_l := (dk_m0 hD)) (h_t := (dk_m1 hD)) (h_p := (fun k => decide_eq_true_iff)) (h_X := (fun _ _ _ => rfl)) (h_Y := (fun _ _ _ => rfl)) (h_ok := (fun z k hk hL => okM hD a3 z.1 z.2.1 k hk hL)) (h_A0 := (fun _ => by unfold wfM; rw [cn_e hD hC.1]; rfl)) (h_As := (fun i => by rw [cn_e hD hC.1]; rfl)) (h_m := (fun z => absurd z (by rw [cn_e hD hC.1, h0]; omega))) (p := (pM q4 a1)) (X := (XM q4 q5 a1 a2 a3)) (Y := (YM q4 q5 a1 a2 a3)) (A := (marA (crv (pM q4 a1) (XM q4 q5 a1 a2 a3) z0 40) (crv (pM q4 a1) (YM q4 q5 a1 a2 a3) z0 40) (Cn (pC r5 a1) 40) (itr (lp_wf_st (crv (pM q4 a1) (XM q4 q5 a1 a2 a3) z0 40) (crv (pM q4 a1) (YM q4 q5 a1 a2 a3) z0 40)) ((Cn (pC r5 a1) 40) - 1) 1 0))) (m := 0), ?_⟩
      rintro r2 w2 (⟨y0_0, y0_1, g1, g2, g3, rfl, rfl⟩ | ⟨y1_0, y1_1, g1, g2, g3, rfl, rfl⟩ | ⟨y2_0, g1, g2, g3, rfl, rfl⟩ | ⟨g1, rfl, rfl⟩)
      · rw [cn_e hD f1.1] at g2
        exact absurd h0n g2
      · rw [cn_e hD f1.1] at g2
        exact absurd h0n g2
      · rw [cn_e hD f1.1] at g2
        exact ⟨rfl, ⟨_, rfl⟩, inv_mk (fun z => absurd z (by decide)) hT hD hP hK hA⟩
      · exact absurd f1 g1
    · rw [hD.1.1] at f1
      rw [hD.1.2.1] at f1
      obtain ⟨b1, b2, b3, b4, b5⟩ := dk_bars hD hC.1
      refine ⟨rfl, rfl, ⟨_, rfl⟩, _, c_X11_corner (h_l := (dk_m0 hD)) (h_t := (dk_m1 hD)) (h_p := (fun k => decide_eq_true_iff)) (h_X := (fun _ _ _ => rfl)) (h_Y := (fun _ _ _ => rfl)) (h_ok := (fun z k hk hL => okM hD a3 z.1 z.2.1 k hk hL)) (h_A0 := (fun _ => by unfold wfM; rw [cn_e hD hC.1]; rfl)) (h_As := (fun i => by rw [cn_e hD hC.1]; rfl)) (h_m := (fun z => absurd z (by rw [cn_e hD hC.1, h0]; omega))) (p := (pM q4 a1)) (X := (XM q4 q5 a1 a2 a3)) (Y := (YM q4 q5 a1 a2 a3)) (A := (marA (crv (pM q4 a1) (XM q4 q5 a1 a2 a3) z0 40) (crv (pM q4 a1) (YM q4 q5 a1 a2 a3) z0 40) (Cn (pC r5 a1) 40) (itr (lp_wf_st (crv (pM q4 a1) (XM q4 q5 a1 a2 a3) z0 40) (crv (pM q4 a1) (YM q4 q5 a1 a2 a3) z0 40)) ((Cn (pC r5 a1) 40) - 1) 1 0))) (m := 0), ?_⟩
      rintro r2 w2 (⟨y0_0, y0_1, g1, g2, g3, rfl, rfl⟩ | ⟨y1_0, y1_1, g1, g2, g3, rfl, rfl⟩ | ⟨y2_0, g1, g2, g3, rfl, rfl⟩ | ⟨g1, rfl, rfl⟩)
      · exact absurd hC f1
      · exact absurd hC f1
      · exact absurd hC f1
      · exact absurd hC f1
  · have HL := hl_ref so ch (cn_le (pC r5 a1) 40) h0 (cv_x hD a3 hC.1 hC.2.1 r13 z0) (cv_y hD a3 hC.1 hC.2.1 r14 z0) (bx_x hD a3 hC.1 hC.2.1 r13) (bx_y hD a3 hC.1 hC.2.1 r14)
    have h0n := nI_nz h0 (cn_le (pC r5 a1) 40)
    refine ⟨_, c_X10_corner_p (h_c0 := (dk_c0 hD)) (h_c1 := (dk_c1 hD)) (h_p := (fun k => decide_eq_true_iff)) (h_X := (fun _ _ _ => rfl)) (h_Y := (fun _ _ _ => rfl)) (h_ok := (fun z k hk hL => okC hD a3 (dkl hD z.1) (dkt hD z.2.1) k hk hL)) (h_1 := h0) (p := (pC r5 a1)) (X := (XC r5 a1 a2 a3)) (Y := (YC r5 a1 a2 a3)) (so := so) (ch := ch), ?_⟩
    rintro r w' (⟨x0_0, f1, f2, rfl, rfl⟩ | ⟨x1_0, f1, f2, rfl, rfl⟩ | ⟨f1, rfl, rfl⟩)
    · rw [hD.1.1] at f1
      rw [hD.1.2.1] at f1
      obtain ⟨b1, b2, b3, b4, b5⟩ := dk_bars hD f1.1
      refine ⟨rfl, rfl, ⟨_, rfl⟩, _, c_X11_corner (h_l := (dk_m0 hD)) (h_t := (dk_m1 hD)) (h_p := (fun k => decide_eq_true_iff)) (h_X := (fun _ _ _ => rfl)) (h_Y := (fun _ _ _ => rfl)) (h_ok := (fun z k hk hL => okM hD a3 z.1 z.2.1 k hk hL)) (h_A0 := (fun _ => by unfold wfM; rw [cn_e hD hC.1]; rfl)) (h_As := (fun i => by rw [cn_e hD hC.1]; rfl)) (h_m := (fun _ => HL.1)) (p := (pM q4 a1)) (X := (XM q4 q5 a1 a2 a3)) (Y := (YM q4 q5 a1 a2 a3)) (A := (marA (crv (pM q4 a1) (XM q4 q5 a1 a2 a3) z0 40) (crv (pM q4 a1) (YM q4 q5 a1 a2 a3) z0 40) (Cn (pC r5 a1) 40) (itr (lp_wf_st (crv (pM q4 a1) (XM q4 q5 a1 a2 a3) z0 40) (crv (pM q4 a1) (YM q4 q5 a1 a2 a3) z0 40)) ((Cn (pC r5 a1) 40) - 1) 1 0))) (m := (hlN (crv (pC r5 a1) (XC r5 a1 a2 a3) r13 40) (crv (pC r5 a1) (YC r5 a1 a2 a3) r14 40) (Cn (pC r5 a1) 40) so ch)), ?_⟩
      rintro r2 w2 (⟨y0_0, y0_1, g1, g2, g3, rfl, rfl⟩ | ⟨y1_0, y1_1, g1, g2, g3, rfl, rfl⟩ | ⟨y2_0, g1, g2, g3, rfl, rfl⟩ | ⟨g1, rfl, rfl⟩)
      · rw [cn_e hD f1.1] at g2
        rw [le_pred (nI_pos' (by have := HL.1.2.1; omega))] at g3
        have hk := HL.2 _ (cl_lt HL.1.2.1 f2)
        exact ⟨by rw [hk.1, cv_n hD f1.1 r15 q14 _ hk.2], ⟨_, rfl⟩, inv_mk (fun z => absurd z (by decide)) hT hD hP hK hA⟩
      · rw [le_pred (nI_pos' (by have := HL.1.2.1; omega))] at g3
        exact absurd f2 g3
      · rw [cn_e hD f1.1] at g2
        exact absurd g2 h0n
      · exact absurd f1 g1
    · rw [hD.1.1] at f1
      rw [hD.1.2.1] at f1
      obtain ⟨b1, b2, b3, b4, b5⟩ := dk_bars hD f1.1
      refine ⟨rfl, rfl, ⟨_, rfl⟩, _, c_X11_corner (h_l := (dk_m0 hD)) (h_t := (dk_m1 hD)) (h_p := (fun k => decide_eq_true_iff)) (h_X := (fun _ _ _ => rfl)) (h_Y := (fun _ _ _ => rfl)) (h_ok := (fun z k hk hL => okM hD a3 z.1 z.2.1 k hk hL)) (h_A0 := (fun _ => by unfold wfM; rw [cn_e hD hC.1]; rfl)) (h_As := (fun i => by rw [cn_e hD hC.1]; rfl)) (h_m := (fun _ => HL.1)) (p := (pM q4 a1)) (X := (XM q4 q5 a1 a2 a3)) (Y := (YM q4 q5 a1 a2 a3)) (A := (marA (crv (pM q4 a1) (XM q4 q5 a1 a2 a3) z0 40) (crv (pM q4 a1) (YM q4 q5 a1 a2 a3) z0 40) (Cn (pC r5 a1) 40) (itr (lp_wf_st (crv (pM q4 a1) (XM q4 q5 a1 a2 a3) z0 40) (crv (pM q4 a1) (YM q4 q5 a1 a2 a3) z0 40)) ((Cn (pC r5 a1) 40) - 1) 1 0))) (m := (hlN (crv (pC r5 a1) (XC r5 a1 a2 a3) r13 40) (crv (pC r5 a1) (YC r5 a1 a2 a3) r14 40) (Cn (pC r5 a1) 40) so ch)), ?_⟩
      rintro r2 w2 (⟨y0_0, y0_1, g1, g2, g3, rfl, rfl⟩ | ⟨y1_0, y1_1, g1, g2, g3, rfl, rfl⟩ | ⟨y2_0, g1, g2, g3, rfl, rfl⟩ | ⟨g1, rfl, rfl⟩)
      · rw [le_pred (nI_pos' (by have := HL.1.2.1; omega))] at g3
        exact absurd g3 f2
      · rw [cn_e hD f1.1] at g2
        rw [le_pred (nI_pos' (by have := HL.1.2.1; omega))] at g3
        exact ⟨rfl, ⟨_, rfl⟩, inv_mk (fun z => absurd z (by decide)) hT hD hP hK hA⟩
      · rw [cn_e hD f1.1] at g2
        exact absurd g2 h0n
      · exact absurd f1 g1
    · rw [hD.1.1] at f1
      rw [hD.1.2.1] at f1
      obtain ⟨b1, b2, b3, b4, b5⟩ := dk_bars hD hC.1
      refine ⟨rfl, rfl, ⟨_, rfl⟩, _, c_X11_corner (h_l := (dk_m0 hD)) (h_t := (dk_m1 hD)) (h_p := (fun k => decide_eq_true_iff)) (h_X := (fun _ _ _ => rfl)) (h_Y := (fun _ _ _ => rfl)) (h_ok := (fun z k hk hL => okM hD a3 z.1 z.2.1 k hk hL)) (h_A0 := (fun _ => by unfold wfM; rw [cn_e hD hC.1]; rfl)) (h_As := (fun i => by rw [cn_e hD hC.1]; rfl)) (h_m := (fun _ => HL.1)) (p := (pM q4 a1)) (X := (XM q4 q5 a1 a2 a3)) (Y := (YM q4 q5 a1 a2 a3)) (A := (marA (crv (pM q4 a1) (XM q4 q5 a1 a2 a3) z0 40) (crv (pM q4 a1) (YM q4 q5 a1 a2 a3) z0 40) (Cn (pC r5 a1) 40) (itr (lp_wf_st (crv (pM q4 a1) (XM q4 q5 a1 a2 a3) z0 40) (crv (pM q4 a1) (YM q4 q5 a1 a2 a3) z0 40)) ((Cn (pC r5 a1) 40) - 1) 1 0))) (m := (hlN (crv (pC r5 a1) (XC r5 a1 a2 a3) r13 40) (crv (pC r5 a1) (YC r5 a1 a2 a3) r14 40) (Cn (pC r5 a1) 40) so ch)), ?_⟩
      rintro r2 w2 (⟨y0_0, y0_1, g1, g2, g3, rfl, rfl⟩ | ⟨y1_0, y1_1, g1, g2, g3, rfl, rfl⟩ | ⟨y2_0, g1, g2, g3, rfl, rfl⟩ | ⟨g1, rfl, rfl⟩)
      · exact absurd hC f1
      · exact absurd hC f1
      · exact absurd hC f1
      · exact absurd hC f1
  · skip
    refine ⟨_, c_X10_corner_z (h_c0 := (dk_c0 hD)) (h_c1 := (dk_c1 hD)) (h_p := (fun k => decide_eq_true_iff)) (h_X := (fun _ _ _ => rfl)) (h_Y := (fun _ _ _ => rfl)) (h_ok := (fun z k hk hL => okC hD a3 (dkl hD z.1) (dkt hD z.2.1) k hk hL)) (h_z := h0) (p := (pC r5 a1)) (X := (XC r5 a1 a2 a3)) (Y := (YC r5 a1 a2 a3)) (so := so) (ch := ch), ?_⟩
    rintro r w' (⟨x0_0, f1, f2, rfl, rfl⟩ | ⟨f1, rfl, rfl⟩)
    · rw [hD.1.1] at f1
      rw [hD.1.2.1] at f1
      obtain ⟨b1, b2, b3, b4, b5⟩ := dk_bars hD f1.1
      refine ⟨rfl, rfl, ⟨_, rfl⟩, _, c_X11_corner_o (h_l := (dk_m0 hD)) (h_t := (dk_m1 hD)) (h_o := hC), ?_⟩
      rintro r2 w2 ⟨rfl, rfl⟩
      exact absurd f1 hC
    · rw [hD.1.1] at f1
      rw [hD.1.2.1] at f1
      refine ⟨rfl, rfl, ⟨_, rfl⟩, _, c_X11_corner_o (h_l := (dk_m0 hD)) (h_t := (dk_m1 hD)) (h_o := hC), ?_⟩
      rintro r2 w2 ⟨rfl, rfl⟩
      exact ⟨rfl, ⟨_, rfl⟩, inv_mk (fun z => absurd z (by decide)) hT hD hP hK hA⟩
  · skip
    refine ⟨_, c_X10_corner_p (h_c0 := (dk_c0 hD)) (h_c1 := (dk_c1 hD)) (h_p := (fun k => decide_eq_true_iff)) (h_X := (fun _ _ _ => rfl)) (h_Y := (fun _ _ _ => rfl)) (h_ok := (fun z k hk hL => okC hD a3 (dkl hD z.1) (dkt hD z.2.1) k hk hL)) (h_1 := h0) (p := (pC r5 a1)) (X := (XC r5 a1 a2 a3)) (Y := (YC r5 a1 a2 a3)) (so := so) (ch := ch), ?_⟩
    rintro r w' (⟨x0_0, f1, f2, rfl, rfl⟩ | ⟨x1_0, f1, f2, rfl, rfl⟩ | ⟨f1, rfl, rfl⟩)
    · rw [hD.1.1] at f1
      rw [hD.1.2.1] at f1
      obtain ⟨b1, b2, b3, b4, b5⟩ := dk_bars hD f1.1
      refine ⟨rfl, rfl, ⟨_, rfl⟩, _, c_X11_corner_o (h_l := (dk_m0 hD)) (h_t := (dk_m1 hD)) (h_o := hC), ?_⟩
      rintro r2 w2 ⟨rfl, rfl⟩
      exact absurd f1 hC
    · rw [hD.1.1] at f1
      rw [hD.1.2.1] at f1
      obtain ⟨b1, b2, b3, b4, b5⟩ := dk_bars hD f1.1
      refine ⟨rfl, rfl, ⟨_, rfl⟩, _, c_X11_corner_o (h_l := (dk_m0 hD)) (h_t := (dk_m1 hD)) (h_o := hC), ?_⟩
      rintro r2 w2 ⟨rfl, rfl⟩
      exact absurd f1 hC
    · rw [hD.1.1] at f1
      rw [hD.1.2.1] at f1
      refine ⟨rfl, rfl, ⟨_, rfl⟩, _, c_X11_corner_o (h_l := (dk_m0 hD)) (h_t := (dk_m1 hD)) (h_o := hC), ?_⟩
      rintro r2 w2 ⟨rfl, rfl⟩
      exact ⟨rfl, ⟨_, rfl⟩, inv_mk (fun z => absurd z (by decide)) hT hD hP hK hA⟩
set_option maxRecDepth 100000 in
theorem pr_hullArea {w : ax_W} (hI : INV w) (a1 a2 a3 : Int32) : PrL M_X10_hullArea M_X11_hullArea [.int a1, .int a2, .int a3] w := by
  refine hI (fun w => PrL M_X10_hullArea M_X11_hullArea [.int a1, .int a2, .int a3] w) ?_
  intro tr fl pl wl wd f1_3 f1_4 f10_0 f10_1 f10_2 f10_3 f12_5 f12_6 f12_7 f12_8 f12_9 f18_7 f18_8 f18_9 f18_10 f25_3 m_thrown m_where m_readLinks m_readTracers m_readPoints m_readPairs m_textLong m_at m_spot m_token m_whole m_readFault m_readPlace m_value m_curveMany m_cornerMany m_straightAt m_lined f11_0 f11_1 f11_2 f11_3 f11_4 f11_5 f11_6 f11_7 f11_8 f11_9 f11_10 f11_11 f11_12 f11_13 f11_14 f11_15 f18_11 f18_12 m_n m_c m_d m_s m_e m_k m_x m_y m_g m_a m_fitUp m_fitDown m_worstUp m_worstDown r2 r3 r5 r6 r8 r9 r13 r14 r15 r26 r27 r28 r30 r31 r32 q3 q4 q5 q6 q7 q8 q9 q10 q11 q12 q13 q14 q15 q16 q18 q19 q20 r19 r20 r21 r22 r23 r24 q17 L nl nt np nr wa wb f n so ch hW hT hD hP hK hA
  rcases c4 ((0 ≤ a1 ∧ a1 < (nI nl)) ∧ (0 ≤ a2 ∧ a2 < (nI nt)) ∧ (0 ≤ a3 ∧ a3 < 2)) (Cn (pC r5 a1) 40) with ⟨hC, h0⟩ | ⟨hC, h0⟩ | ⟨hC, h0⟩ | ⟨hC, h0⟩
  · have h0n : nI (Cn (pC r5 a1) 40) = 0 := by rw [h0]; rfl
    refine ⟨_, c_X10_hullArea_z (h_c0 := (dk_c0 hD)) (h_c1 := (dk_c1 hD)) (h_p := (fun k => decide_eq_true_iff)) (h_X := (fun _ _ _ => rfl)) (h_Y := (fun _ _ _ => rfl)) (h_ok := (fun z k hk hL => okC hD a3 (dkl hD z.1) (dkt hD z.2.1) k hk hL)) (h_z := h0) (p := (pC r5 a1)) (X := (XC r5 a1 a2 a3)) (Y := (YC r5 a1 a2 a3)) (so := so) (ch := ch), ?_⟩
    rintro r w' (⟨x0_0, f1, rfl, rfl⟩ | ⟨f1, rfl, rfl⟩)
    · rw [hD.1.1] at f1
      rw [hD.1.2.1] at f1
      obtain ⟨b1, b2, b3, b4, b5⟩ := dk_bars hD f1.1
      refine ⟨rfl, rfl, ⟨_, rfl⟩, _, c_X11_hullArea (h_l := (dk_m0 hD)) (h_t := (dk_m1 hD)) (h_p := (fun k => decide_eq_true_iff)) (h_X := (fun _ _ _ => rfl)) (h_Y := (fun _ _ _ => rfl)) (h_ok := (fun z k hk hL => okM hD a3 z.1 z.2.1 k hk hL)) (h_A0 := (fun _ => by unfold wfM; rw [cn_e hD hC.1]; rfl)) (h_As := (fun i => by rw [cn_e hD hC.1]; rfl)) (h_m := (fun z => absurd z (by rw [cn_e hD hC.1, h0]; omega))) (p := (pM q4 a1)) (X := (XM q4 q5 a1 a2 a3)) (Y := (YM q4 q5 a1 a2 a3)) (A := (marA (crv (pM q4 a1) (XM q4 q5 a1 a2 a3) z0 40) (crv (pM q4 a1) (YM q4 q5 a1 a2 a3) z0 40) (Cn (pC r5 a1) 40) (itr (lp_wf_st (crv (pM q4 a1) (XM q4 q5 a1 a2 a3) z0 40) (crv (pM q4 a1) (YM q4 q5 a1 a2 a3) z0 40)) ((Cn (pC r5 a1) 40) - 1) 1 0))) (m := 0), ?_⟩
      rintro r2 w2 (⟨y0_0, y0_1, y0_2, g1, g2, rfl, rfl⟩ | ⟨y1_0, g1, g2, rfl, rfl⟩ | ⟨g1, rfl, rfl⟩)
      · rw [cn_e hD f1.1] at g2
        exact absurd h0n g2
      · rw [cn_e hD f1.1] at g2
        exact ⟨by rw [itr_0], ⟨_, rfl⟩, inv_mk (fun z => absurd z (by decide)) hT hD hP hK hA⟩
      · exact absurd f1 g1
    · rw [hD.1.1] at f1
      rw [hD.1.2.1] at f1
      obtain ⟨b1, b2, b3, b4, b5⟩ := dk_bars hD hC.1
      refine ⟨rfl, rfl, ⟨_, rfl⟩, _, c_X11_hullArea (h_l := (dk_m0 hD)) (h_t := (dk_m1 hD)) (h_p := (fun k => decide_eq_true_iff)) (h_X := (fun _ _ _ => rfl)) (h_Y := (fun _ _ _ => rfl)) (h_ok := (fun z k hk hL => okM hD a3 z.1 z.2.1 k hk hL)) (h_A0 := (fun _ => by unfold wfM; rw [cn_e hD hC.1]; rfl)) (h_As := (fun i => by rw [cn_e hD hC.1]; rfl)) (h_m := (fun z => absurd z (by rw [cn_e hD hC.1, h0]; omega))) (p := (pM q4 a1)) (X := (XM q4 q5 a1 a2 a3)) (Y := (YM q4 q5 a1 a2 a3)) (A := (marA (crv (pM q4 a1) (XM q4 q5 a1 a2 a3) z0 40) (crv (pM q4 a1) (YM q4 q5 a1 a2 a3) z0 40) (Cn (pC r5 a1) 40) (itr (lp_wf_st (crv (pM q4 a1) (XM q4 q5 a1 a2 a3) z0 40) (crv (pM q4 a1) (YM q4 q5 a1 a2 a3) z0 40)) ((Cn (pC r5 a1) 40) - 1) 1 0))) (m := 0), ?_⟩
      rintro r2 w2 (⟨y0_0, y0_1, y0_2, g1, g2, rfl, rfl⟩ | ⟨y1_0, g1, g2, rfl, rfl⟩ | ⟨g1, rfl, rfl⟩)
      · exact absurd hC f1
      · exact absurd hC f1
      · exact absurd hC f1
  · have HL := hl_ref so ch (cn_le (pC r5 a1) 40) h0 (cv_x hD a3 hC.1 hC.2.1 r13 z0) (cv_y hD a3 hC.1 hC.2.1 r14 z0) (bx_x hD a3 hC.1 hC.2.1 r13) (bx_y hD a3 hC.1 hC.2.1 r14)
    have h0n := nI_nz h0 (cn_le (pC r5 a1) 40)
    refine ⟨_, c_X10_hullArea_p (h_c0 := (dk_c0 hD)) (h_c1 := (dk_c1 hD)) (h_p := (fun k => decide_eq_true_iff)) (h_X := (fun _ _ _ => rfl)) (h_Y := (fun _ _ _ => rfl)) (h_ok := (fun z k hk hL => okC hD a3 (dkl hD z.1) (dkt hD z.2.1) k hk hL)) (h_1 := h0) (p := (pC r5 a1)) (X := (XC r5 a1 a2 a3)) (Y := (YC r5 a1 a2 a3)) (so := so) (ch := ch), ?_⟩
    rintro r w' (⟨x0_0, f1, rfl, rfl⟩ | ⟨f1, rfl, rfl⟩)
    · rw [hD.1.1] at f1
      rw [hD.1.2.1] at f1
      obtain ⟨b1, b2, b3, b4, b5⟩ := dk_bars hD f1.1
      refine ⟨rfl, rfl, ⟨_, rfl⟩, _, c_X11_hullArea (h_l := (dk_m0 hD)) (h_t := (dk_m1 hD)) (h_p := (fun k => decide_eq_true_iff)) (h_X := (fun _ _ _ => rfl)) (h_Y := (fun _ _ _ => rfl)) (h_ok := (fun z k hk hL => okM hD a3 z.1 z.2.1 k hk hL)) (h_A0 := (fun _ => by unfold wfM; rw [cn_e hD hC.1]; rfl)) (h_As := (fun i => by rw [cn_e hD hC.1]; rfl)) (h_m := (fun _ => HL.1)) (p := (pM q4 a1)) (X := (XM q4 q5 a1 a2 a3)) (Y := (YM q4 q5 a1 a2 a3)) (A := (marA (crv (pM q4 a1) (XM q4 q5 a1 a2 a3) z0 40) (crv (pM q4 a1) (YM q4 q5 a1 a2 a3) z0 40) (Cn (pC r5 a1) 40) (itr (lp_wf_st (crv (pM q4 a1) (XM q4 q5 a1 a2 a3) z0 40) (crv (pM q4 a1) (YM q4 q5 a1 a2 a3) z0 40)) ((Cn (pC r5 a1) 40) - 1) 1 0))) (m := (hlN (crv (pC r5 a1) (XC r5 a1 a2 a3) r13 40) (crv (pC r5 a1) (YC r5 a1 a2 a3) r14 40) (Cn (pC r5 a1) 40) so ch)), ?_⟩
      rintro r2 w2 (⟨y0_0, y0_1, y0_2, g1, g2, rfl, rfl⟩ | ⟨y1_0, g1, g2, rfl, rfl⟩ | ⟨g1, rfl, rfl⟩)
      · rw [cn_e hD f1.1] at g2
        exact ⟨congrArg (fun v => some (Value.long v)) (ha_e HL.1.2.1 (cv_x hD a3 f1.1 f1.2.1 r13 q12) (cv_y hD a3 f1.1 f1.2.1 r14 q13) HL.2), ⟨_, rfl⟩, inv_mk (fun z => absurd z (by decide)) hT hD hP hK hA⟩
      · rw [cn_e hD f1.1] at g2
        exact absurd g2 h0n
      · exact absurd f1 g1
    · rw [hD.1.1] at f1
      rw [hD.1.2.1] at f1
      obtain ⟨b1, b2, b3, b4, b5⟩ := dk_bars hD hC.1
      refine ⟨rfl, rfl, ⟨_, rfl⟩, _, c_X11_hullArea (h_l := (dk_m0 hD)) (h_t := (dk_m1 hD)) (h_p := (fun k => decide_eq_true_iff)) (h_X := (fun _ _ _ => rfl)) (h_Y := (fun _ _ _ => rfl)) (h_ok := (fun z k hk hL => okM hD a3 z.1 z.2.1 k hk hL)) (h_A0 := (fun _ => by unfold wfM; rw [cn_e hD hC.1]; rfl)) (h_As := (fun i => by rw [cn_e hD hC.1]; rfl)) (h_m := (fun _ => HL.1)) (p := (pM q4 a1)) (X := (XM q4 q5 a1 a2 a3)) (Y := (YM q4 q5 a1 a2 a3)) (A := (marA (crv (pM q4 a1) (XM q4 q5 a1 a2 a3) z0 40) (crv (pM q4 a1) (YM q4 q5 a1 a2 a3) z0 40) (Cn (pC r5 a1) 40) (itr (lp_wf_st (crv (pM q4 a1) (XM q4 q5 a1 a2 a3) z0 40) (crv (pM q4 a1) (YM q4 q5 a1 a2 a3) z0 40)) ((Cn (pC r5 a1) 40) - 1) 1 0))) (m := (hlN (crv (pC r5 a1) (XC r5 a1 a2 a3) r13 40) (crv (pC r5 a1) (YC r5 a1 a2 a3) r14 40) (Cn (pC r5 a1) 40) so ch)), ?_⟩
      rintro r2 w2 (⟨y0_0, y0_1, y0_2, g1, g2, rfl, rfl⟩ | ⟨y1_0, g1, g2, rfl, rfl⟩ | ⟨g1, rfl, rfl⟩)
      · exact absurd hC f1
      · exact absurd hC f1
      · exact absurd hC f1
  · skip
    refine ⟨_, c_X10_hullArea_z (h_c0 := (dk_c0 hD)) (h_c1 := (dk_c1 hD)) (h_p := (fun k => decide_eq_true_iff)) (h_X := (fun _ _ _ => rfl)) (h_Y := (fun _ _ _ => rfl)) (h_ok := (fun z k hk hL => okC hD a3 (dkl hD z.1) (dkt hD z.2.1) k hk hL)) (h_z := h0) (p := (pC r5 a1)) (X := (XC r5 a1 a2 a3)) (Y := (YC r5 a1 a2 a3)) (so := so) (ch := ch), ?_⟩
    rintro r w' (⟨x0_0, f1, rfl, rfl⟩ | ⟨f1, rfl, rfl⟩)
    · rw [hD.1.1] at f1
      rw [hD.1.2.1] at f1
      obtain ⟨b1, b2, b3, b4, b5⟩ := dk_bars hD f1.1
      refine ⟨rfl, rfl, ⟨_, rfl⟩, _, c_X11_hullArea_o (h_l := (dk_m0 hD)) (h_t := (dk_m1 hD)) (h_o := hC), ?_⟩
      rintro r2 w2 ⟨rfl, rfl⟩
      exact absurd f1 hC
    · rw [hD.1.1] at f1
      rw [hD.1.2.1] at f1
      refine ⟨rfl, rfl, ⟨_, rfl⟩, _, c_X11_hullArea_o (h_l := (dk_m0 hD)) (h_t := (dk_m1 hD)) (h_o := hC), ?_⟩
      rintro r2 w2 ⟨rfl, rfl⟩
      exact ⟨rfl, ⟨_, rfl⟩, inv_mk (fun z => absurd z (by decide)) hT hD hP hK hA⟩
  · skip
    refine ⟨_, c_X10_hullArea_p (h_c0 := (dk_c0 hD)) (h_c1 := (dk_c1 hD)) (h_p := (fun k => decide_eq_true_iff)) (h_X := (fun _ _ _ => rfl)) (h_Y := (fun _ _ _ => rfl)) (h_ok := (fun z k hk hL => okC hD a3 (dkl hD z.1) (dkt hD z.2.1) k hk hL)) (h_1 := h0) (p := (pC r5 a1)) (X := (XC r5 a1 a2 a3)) (Y := (YC r5 a1 a2 a3)) (so := so) (ch := ch), ?_⟩
    rintro r w' (⟨x0_0, f1, rfl, rfl⟩ | ⟨f1, rfl, rfl⟩)
    · rw [hD.1.1] at f1
      rw [hD.1.2.1] at f1
      obtain ⟨b1, b2, b3, b4, b5⟩ := dk_bars hD f1.1
      refine ⟨rfl, rfl, ⟨_, rfl⟩, _, c_X11_hullArea_o (h_l := (dk_m0 hD)) (h_t := (dk_m1 hD)) (h_o := hC), ?_⟩
      rintro r2 w2 ⟨rfl, rfl⟩
      exact absurd f1 hC
    · rw [hD.1.1] at f1
      rw [hD.1.2.1] at f1
      refine ⟨rfl, rfl, ⟨_, rfl⟩, _, c_X11_hullArea_o (h_l := (dk_m0 hD)) (h_t := (dk_m1 hD)) (h_o := hC), ?_⟩
      rintro r2 w2 ⟨rfl, rfl⟩
      exact ⟨rfl, ⟨_, rfl⟩, inv_mk (fun z => absurd z (by decide)) hT hD hP hK hA⟩
set_option maxRecDepth 100000 in
theorem pr_straight {w : ax_W} (hI : INV w) (a1 a2 a3 a4 : Int32) : PrI M_X10_straight M_X11_straight [.int a1, .int a2, .int a3, .int a4] w := by
  refine hI (fun w => PrI M_X10_straight M_X11_straight [.int a1, .int a2, .int a3, .int a4] w) ?_
  intro tr fl pl wl wd f1_3 f1_4 f10_0 f10_1 f10_2 f10_3 f12_5 f12_6 f12_7 f12_8 f12_9 f18_7 f18_8 f18_9 f18_10 f25_3 m_thrown m_where m_readLinks m_readTracers m_readPoints m_readPairs m_textLong m_at m_spot m_token m_whole m_readFault m_readPlace m_value m_curveMany m_cornerMany m_straightAt m_lined f11_0 f11_1 f11_2 f11_3 f11_4 f11_5 f11_6 f11_7 f11_8 f11_9 f11_10 f11_11 f11_12 f11_13 f11_14 f11_15 f18_11 f18_12 m_n m_c m_d m_s m_e m_k m_x m_y m_g m_a m_fitUp m_fitDown m_worstUp m_worstDown r2 r3 r5 r6 r8 r9 r13 r14 r15 r26 r27 r28 r30 r31 r32 q3 q4 q5 q6 q7 q8 q9 q10 q11 q12 q13 q14 q15 q16 q18 q19 q20 r19 r20 r21 r22 r23 r24 q17 L nl nt np nr wa wb f n so ch hW hT hD hP hK hA
  refine ⟨_, c_X10_straight (h_c0 := (dk_c0 hD)) (h_c1 := (dk_c1 hD)) (h_p := (fun k => decide_eq_true_iff)) (h_X := (fun _ _ _ => rfl)) (h_Y := (fun _ _ _ => rfl)) (h_ok := (fun z k hk hL => okC hD a3 (dkl hD z.1) (dkt hD z.2.1) k hk hL)) (p := (pC r5 a1)) (X := (XC r5 a1 a2 a3)) (Y := (YC r5 a1 a2 a3)), ?_⟩
  rintro r w' (⟨f1, f2, rfl, rfl⟩ | ⟨f1, f2, f3, rfl, rfl⟩ | ⟨x2_0, x2_1, x2_2, f1, f2, f3, f4, rfl, rfl⟩ | ⟨x3_0, f1, f2, f3, f4, rfl, rfl⟩ | ⟨f1, rfl, rfl⟩)
  · rw [hD.1.1] at f1
    rw [hD.1.2.1] at f1
    obtain ⟨b1, b2, b3, b4, b5⟩ := dk_bars hD f1.1
    refine ⟨rfl, rfl, ⟨_, rfl⟩, _, c_X11_straight (h_l := (dk_m0 hD)) (h_t := (dk_m1 hD)) (h_p := (fun k => decide_eq_true_iff)) (h_X := (fun _ _ _ => rfl)) (h_Y := (fun _ _ _ => rfl)) (h_ok := (fun z k hk hL => okM hD a3 z.1 z.2.1 k hk hL)) (p := (pM q4 a1)) (X := (XM q4 q5 a1 a2 a3)) (Y := (YM q4 q5 a1 a2 a3)), ?_⟩
    rintro r2 w2 (⟨y0_0, y0_1, y0_2, g1, g2, g3, rfl, rfl⟩ | ⟨y1_0, g1, g2, g3, rfl, rfl⟩ | ⟨g1, g2, rfl, rfl⟩ | ⟨g1, rfl, rfl⟩)
    · exact absurd g2.1 (Int32.not_le.mpr f2)
    · exact absurd g2.1 (Int32.not_le.mpr f2)
    · exact ⟨rfl, ⟨_, rfl⟩, inv_mk (fun z => absurd z (by decide)) hT hD hP hK hA⟩
    · exact absurd f1 g1
  · rw [hD.1.1] at f1
    rw [hD.1.2.1] at f1
    obtain ⟨b1, b2, b3, b4, b5⟩ := dk_bars hD f1.1
    refine ⟨rfl, rfl, ⟨_, rfl⟩, _, c_X11_straight (h_l := (dk_m0 hD)) (h_t := (dk_m1 hD)) (h_p := (fun k => decide_eq_true_iff)) (h_X := (fun _ _ _ => rfl)) (h_Y := (fun _ _ _ => rfl)) (h_ok := (fun z k hk hL => okM hD a3 z.1 z.2.1 k hk hL)) (p := (pM q4 a1)) (X := (XM q4 q5 a1 a2 a3)) (Y := (YM q4 q5 a1 a2 a3)), ?_⟩
    rintro r2 w2 (⟨y0_0, y0_1, y0_2, g1, g2, g3, rfl, rfl⟩ | ⟨y1_0, g1, g2, g3, rfl, rfl⟩ | ⟨g1, g2, rfl, rfl⟩ | ⟨g1, rfl, rfl⟩)
    · exact absurd g2.2 (Int32.not_le.mpr f3)
    · exact absurd g2.2 (Int32.not_le.mpr f3)
    · exact ⟨rfl, ⟨_, rfl⟩, inv_mk (fun z => absurd z (by decide)) hT hD hP hK hA⟩
    · exact absurd f1 g1
  · rw [hD.1.1] at f1
    rw [hD.1.2.1] at f1
    obtain ⟨b1, b2, b3, b4, b5⟩ := dk_bars hD f1.1
    refine ⟨rfl, rfl, ⟨_, rfl⟩, _, c_X11_straight (h_l := (dk_m0 hD)) (h_t := (dk_m1 hD)) (h_p := (fun k => decide_eq_true_iff)) (h_X := (fun _ _ _ => rfl)) (h_Y := (fun _ _ _ => rfl)) (h_ok := (fun z k hk hL => okM hD a3 z.1 z.2.1 k hk hL)) (p := (pM q4 a1)) (X := (XM q4 q5 a1 a2 a3)) (Y := (YM q4 q5 a1 a2 a3)), ?_⟩
    rintro r2 w2 (⟨y0_0, y0_1, y0_2, g1, g2, g3, rfl, rfl⟩ | ⟨y1_0, g1, g2, g3, rfl, rfl⟩ | ⟨g1, g2, rfl, rfl⟩ | ⟨g1, rfl, rfl⟩)
    · rw [cn_e hD f1.1] at g3
      have ru := runOf_u (rn_rm g2 (cv_x hD a3 f1.1 f1.2.1 r13 q12) (cv_y hD a3 f1.1 f1.2.1 r14 q13) (bx_x hD a3 f1.1 f1.2.1 r13) (bx_y hD a3 f1.1 f1.2.1 r14)) f4 g3
      exact ⟨by rw [ru.2], ⟨_, rfl⟩, inv_mk (fun z => absurd z (by decide)) hT hD hP hK hA⟩
    · rw [cn_e hD f1.1] at g3
      exact absurd ((rn_rm g2 (cv_x hD a3 f1.1 f1.2.1 r13 q12) (cv_y hD a3 f1.1 f1.2.1 r14 q13) (bx_x hD a3 f1.1 f1.2.1 r13) (bx_y hD a3 f1.1 f1.2.1 r14) _ _ f4.1 f4.2.1).mp f4.2.2.1) (g3 _ _ f4.1 f4.2.1)
    · exact absurd ⟨Int32.not_lt.mp f2, Int32.not_lt.mp f3⟩ g2
    · exact absurd f1 g1
  · rw [hD.1.1] at f1
    rw [hD.1.2.1] at f1
    obtain ⟨b1, b2, b3, b4, b5⟩ := dk_bars hD f1.1
    refine ⟨rfl, rfl, ⟨_, rfl⟩, _, c_X11_straight (h_l := (dk_m0 hD)) (h_t := (dk_m1 hD)) (h_p := (fun k => decide_eq_true_iff)) (h_X := (fun _ _ _ => rfl)) (h_Y := (fun _ _ _ => rfl)) (h_ok := (fun z k hk hL => okM hD a3 z.1 z.2.1 k hk hL)) (p := (pM q4 a1)) (X := (XM q4 q5 a1 a2 a3)) (Y := (YM q4 q5 a1 a2 a3)), ?_⟩
    rintro r2 w2 (⟨y0_0, y0_1, y0_2, g1, g2, g3, rfl, rfl⟩ | ⟨y1_0, g1, g2, g3, rfl, rfl⟩ | ⟨g1, g2, rfl, rfl⟩ | ⟨g1, rfl, rfl⟩)
    · rw [cn_e hD f1.1, f4] at g3
      have q1 := g3.1
      have q2 := g3.2.1
      omega
    · exact ⟨rfl, ⟨_, rfl⟩, inv_mk (fun z => absurd z (by decide)) hT hD hP hK hA⟩
    · exact absurd ⟨Int32.not_lt.mp f2, Int32.not_lt.mp f3⟩ g2
    · exact absurd f1 g1
  · rw [hD.1.1] at f1
    rw [hD.1.2.1] at f1
    refine ⟨rfl, rfl, ⟨_, rfl⟩, _, c_X11_straight (h_l := (dk_m0 hD)) (h_t := (dk_m1 hD)) (h_p := (fun k => decide_eq_true_iff)) (h_X := (fun _ _ _ => rfl)) (h_Y := (fun _ _ _ => rfl)) (h_ok := (fun z k hk hL => okM hD a3 z.1 z.2.1 k hk hL)) (p := (pM q4 a1)) (X := (XM q4 q5 a1 a2 a3)) (Y := (YM q4 q5 a1 a2 a3)), ?_⟩
    rintro r2 w2 (⟨y0_0, y0_1, y0_2, g1, g2, g3, rfl, rfl⟩ | ⟨y1_0, g1, g2, g3, rfl, rfl⟩ | ⟨g1, g2, rfl, rfl⟩ | ⟨g1, rfl, rfl⟩)
    · exact absurd g1 f1
    · exact absurd g1 f1
    · exact absurd g1 f1
    · exact ⟨rfl, ⟨_, rfl⟩, inv_mk (fun z => absurd z (by decide)) hT hD hP hK hA⟩
set_option maxRecDepth 100000 in
theorem pr_straightFrom {w : ax_W} (hI : INV w) (a1 a2 a3 a4 : Int32) : PrI M_X10_straightFrom M_X11_straightFrom [.int a1, .int a2, .int a3, .int a4] w := by
  refine hI (fun w => PrI M_X10_straightFrom M_X11_straightFrom [.int a1, .int a2, .int a3, .int a4] w) ?_
  intro tr fl pl wl wd f1_3 f1_4 f10_0 f10_1 f10_2 f10_3 f12_5 f12_6 f12_7 f12_8 f12_9 f18_7 f18_8 f18_9 f18_10 f25_3 m_thrown m_where m_readLinks m_readTracers m_readPoints m_readPairs m_textLong m_at m_spot m_token m_whole m_readFault m_readPlace m_value m_curveMany m_cornerMany m_straightAt m_lined f11_0 f11_1 f11_2 f11_3 f11_4 f11_5 f11_6 f11_7 f11_8 f11_9 f11_10 f11_11 f11_12 f11_13 f11_14 f11_15 f18_11 f18_12 m_n m_c m_d m_s m_e m_k m_x m_y m_g m_a m_fitUp m_fitDown m_worstUp m_worstDown r2 r3 r5 r6 r8 r9 r13 r14 r15 r26 r27 r28 r30 r31 r32 q3 q4 q5 q6 q7 q8 q9 q10 q11 q12 q13 q14 q15 q16 q18 q19 q20 r19 r20 r21 r22 r23 r24 q17 L nl nt np nr wa wb f n so ch hW hT hD hP hK hA
  refine ⟨_, c_X10_straightFrom (h_c0 := (dk_c0 hD)) (h_c1 := (dk_c1 hD)) (h_p := (fun k => decide_eq_true_iff)) (h_X := (fun _ _ _ => rfl)) (h_Y := (fun _ _ _ => rfl)) (h_ok := (fun z k hk hL => okC hD a3 (dkl hD z.1) (dkt hD z.2.1) k hk hL)) (p := (pC r5 a1)) (X := (XC r5 a1 a2 a3)) (Y := (YC r5 a1 a2 a3)), ?_⟩
  rintro r w' (⟨f1, f2, rfl, rfl⟩ | ⟨f1, f2, f3, rfl, rfl⟩ | ⟨x2_0, x2_1, x2_2, f1, f2, f3, f4, rfl, rfl⟩ | ⟨x3_0, f1, f2, f3, f4, rfl, rfl⟩ | ⟨f1, rfl, rfl⟩)
  · rw [hD.1.1] at f1
    rw [hD.1.2.1] at f1
    obtain ⟨b1, b2, b3, b4, b5⟩ := dk_bars hD f1.1
    refine ⟨rfl, rfl, ⟨_, rfl⟩, _, c_X11_straightFrom (h_l := (dk_m0 hD)) (h_t := (dk_m1 hD)) (h_p := (fun k => decide_eq_true_iff)) (h_X := (fun _ _ _ => rfl)) (h_Y := (fun _ _ _ => rfl)) (h_ok := (fun z k hk hL => okM hD a3 z.1 z.2.1 k hk hL)) (p := (pM q4 a1)) (X := (XM q4 q5 a1 a2 a3)) (Y := (YM q4 q5 a1 a2 a3)), ?_⟩
    rintro r2 w2 (⟨y0_0, y0_1, y0_2, g1, g2, g3, rfl, rfl⟩ | ⟨y1_0, g1, g2, g3, rfl, rfl⟩ | ⟨g1, g2, rfl, rfl⟩ | ⟨g1, rfl, rfl⟩)
    · exact absurd g2.1 (Int32.not_le.mpr f2)
    · exact absurd g2.1 (Int32.not_le.mpr f2)
    · exact ⟨rfl, ⟨_, rfl⟩, inv_mk (fun z => absurd z (by decide)) hT hD hP hK hA⟩
    · exact absurd f1 g1
  · rw [hD.1.1] at f1
    rw [hD.1.2.1] at f1
    obtain ⟨b1, b2, b3, b4, b5⟩ := dk_bars hD f1.1
    refine ⟨rfl, rfl, ⟨_, rfl⟩, _, c_X11_straightFrom (h_l := (dk_m0 hD)) (h_t := (dk_m1 hD)) (h_p := (fun k => decide_eq_true_iff)) (h_X := (fun _ _ _ => rfl)) (h_Y := (fun _ _ _ => rfl)) (h_ok := (fun z k hk hL => okM hD a3 z.1 z.2.1 k hk hL)) (p := (pM q4 a1)) (X := (XM q4 q5 a1 a2 a3)) (Y := (YM q4 q5 a1 a2 a3)), ?_⟩
    rintro r2 w2 (⟨y0_0, y0_1, y0_2, g1, g2, g3, rfl, rfl⟩ | ⟨y1_0, g1, g2, g3, rfl, rfl⟩ | ⟨g1, g2, rfl, rfl⟩ | ⟨g1, rfl, rfl⟩)
    · exact absurd g2.2 (Int32.not_le.mpr f3)
    · exact absurd g2.2 (Int32.not_le.mpr f3)
    · exact ⟨rfl, ⟨_, rfl⟩, inv_mk (fun z => absurd z (by decide)) hT hD hP hK hA⟩
    · exact absurd f1 g1
  · rw [hD.1.1] at f1
    rw [hD.1.2.1] at f1
    obtain ⟨b1, b2, b3, b4, b5⟩ := dk_bars hD f1.1
    refine ⟨rfl, rfl, ⟨_, rfl⟩, _, c_X11_straightFrom (h_l := (dk_m0 hD)) (h_t := (dk_m1 hD)) (h_p := (fun k => decide_eq_true_iff)) (h_X := (fun _ _ _ => rfl)) (h_Y := (fun _ _ _ => rfl)) (h_ok := (fun z k hk hL => okM hD a3 z.1 z.2.1 k hk hL)) (p := (pM q4 a1)) (X := (XM q4 q5 a1 a2 a3)) (Y := (YM q4 q5 a1 a2 a3)), ?_⟩
    rintro r2 w2 (⟨y0_0, y0_1, y0_2, g1, g2, g3, rfl, rfl⟩ | ⟨y1_0, g1, g2, g3, rfl, rfl⟩ | ⟨g1, g2, rfl, rfl⟩ | ⟨g1, rfl, rfl⟩)
    · rw [cn_e hD f1.1] at g3
      have ru := runOf_u (rn_rm g2 (cv_x hD a3 f1.1 f1.2.1 r13 q12) (cv_y hD a3 f1.1 f1.2.1 r14 q13) (bx_x hD a3 f1.1 f1.2.1 r13) (bx_y hD a3 f1.1 f1.2.1 r14)) f4 g3
      have q1 := f4.1
      have q2 := f4.2.1
      exact ⟨by rw [← ru.1, cv_n hD f1.1 r15 q14 _ (by omega)], ⟨_, rfl⟩, inv_mk (fun z => absurd z (by decide)) hT hD hP hK hA⟩
    · rw [cn_e hD f1.1] at g3
      exact absurd ((rn_rm g2 (cv_x hD a3 f1.1 f1.2.1 r13 q12) (cv_y hD a3 f1.1 f1.2.1 r14 q13) (bx_x hD a3 f1.1 f1.2.1 r13) (bx_y hD a3 f1.1 f1.2.1 r14) _ _ f4.1 f4.2.1).mp f4.2.2.1) (g3 _ _ f4.1 f4.2.1)
    · exact absurd ⟨Int32.not_lt.mp f2, Int32.not_lt.mp f3⟩ g2
    · exact absurd f1 g1
  · rw [hD.1.1] at f1
    rw [hD.1.2.1] at f1
    obtain ⟨b1, b2, b3, b4, b5⟩ := dk_bars hD f1.1
    refine ⟨rfl, rfl, ⟨_, rfl⟩, _, c_X11_straightFrom (h_l := (dk_m0 hD)) (h_t := (dk_m1 hD)) (h_p := (fun k => decide_eq_true_iff)) (h_X := (fun _ _ _ => rfl)) (h_Y := (fun _ _ _ => rfl)) (h_ok := (fun z k hk hL => okM hD a3 z.1 z.2.1 k hk hL)) (p := (pM q4 a1)) (X := (XM q4 q5 a1 a2 a3)) (Y := (YM q4 q5 a1 a2 a3)), ?_⟩
    rintro r2 w2 (⟨y0_0, y0_1, y0_2, g1, g2, g3, rfl, rfl⟩ | ⟨y1_0, g1, g2, g3, rfl, rfl⟩ | ⟨g1, g2, rfl, rfl⟩ | ⟨g1, rfl, rfl⟩)
    · rw [cn_e hD f1.1, f4] at g3
      have q1 := g3.1
      have q2 := g3.2.1
      omega
    · exact ⟨rfl, ⟨_, rfl⟩, inv_mk (fun z => absurd z (by decide)) hT hD hP hK hA⟩
    · exact absurd ⟨Int32.not_lt.mp f2, Int32.not_lt.mp f3⟩ g2
    · exact absurd f1 g1
  · rw [hD.1.1] at f1
    rw [hD.1.2.1] at f1
    refine ⟨rfl, rfl, ⟨_, rfl⟩, _, c_X11_straightFrom (h_l := (dk_m0 hD)) (h_t := (dk_m1 hD)) (h_p := (fun k => decide_eq_true_iff)) (h_X := (fun _ _ _ => rfl)) (h_Y := (fun _ _ _ => rfl)) (h_ok := (fun z k hk hL => okM hD a3 z.1 z.2.1 k hk hL)) (p := (pM q4 a1)) (X := (XM q4 q5 a1 a2 a3)) (Y := (YM q4 q5 a1 a2 a3)), ?_⟩
    rintro r2 w2 (⟨y0_0, y0_1, y0_2, g1, g2, g3, rfl, rfl⟩ | ⟨y1_0, g1, g2, g3, rfl, rfl⟩ | ⟨g1, g2, rfl, rfl⟩ | ⟨g1, rfl, rfl⟩)
    · exact absurd g1 f1
    · exact absurd g1 f1
    · exact absurd g1 f1
    · exact ⟨rfl, ⟨_, rfl⟩, inv_mk (fun z => absurd z (by decide)) hT hD hP hK hA⟩
set_option maxRecDepth 100000 in
theorem pr_near {w : ax_W} (hI : INV w) (a1 a2 a3 a4 a5 : Int32) : PrI M_X10_near M_X11_near [.int a1, .int a2, .int a3, .int a4, .int a5] w := by
  refine hI (fun w => PrI M_X10_near M_X11_near [.int a1, .int a2, .int a3, .int a4, .int a5] w) ?_
  intro tr fl pl wl wd f1_3 f1_4 f10_0 f10_1 f10_2 f10_3 f12_5 f12_6 f12_7 f12_8 f12_9 f18_7 f18_8 f18_9 f18_10 f25_3 m_thrown m_where m_readLinks m_readTracers m_readPoints m_readPairs m_textLong m_at m_spot m_token m_whole m_readFault m_readPlace m_value m_curveMany m_cornerMany m_straightAt m_lined f11_0 f11_1 f11_2 f11_3 f11_4 f11_5 f11_6 f11_7 f11_8 f11_9 f11_10 f11_11 f11_12 f11_13 f11_14 f11_15 f18_11 f18_12 m_n m_c m_d m_s m_e m_k m_x m_y m_g m_a m_fitUp m_fitDown m_worstUp m_worstDown r2 r3 r5 r6 r8 r9 r13 r14 r15 r26 r27 r28 r30 r31 r32 q3 q4 q5 q6 q7 q8 q9 q10 q11 q12 q13 q14 q15 q16 q18 q19 q20 r19 r20 r21 r22 r23 r24 q17 L nl nt np nr wa wb f n so ch hW hT hD hP hK hA
  refine ⟨_, c_X10_near (h_c0 := (dk_c0 hD)) (h_c1 := (dk_c1 hD)) (h_p := (fun k => decide_eq_true_iff)) (h_X := (fun _ _ _ => rfl)) (h_Y := (fun _ _ _ => rfl)) (h_ok := (fun z k hk hL => okC hD a3 (dkl hD z.1) (dkt hD z.2.1) k hk hL)) (h_c2 := (dk_c2 hD)) (p := (pC r5 a1)) (X := (XC r5 a1 a2 a3)) (Y := (YC r5 a1 a2 a3)), ?_⟩
  rintro r w' (⟨x0_0, f1, f2, f3, f4, rfl, rfl⟩ | ⟨x1_0, x1_1, f1, f2, f3, f4, rfl, rfl⟩ | ⟨x2_0, f1, f2, f3, rfl, rfl⟩ | ⟨f1, f2, rfl, rfl⟩ | ⟨f1, rfl, rfl⟩)
  · rw [hD.1.1] at f1
    rw [hD.1.2.1] at f1
    rw [hD.1.2.2.1] at f2
    obtain ⟨b1, b2, b3, b4, b5⟩ := dk_bars hD f1.1
    refine ⟨rfl, rfl, ⟨_, rfl⟩, _, c_X11_near (h_l := (dk_m0 hD)) (h_t := (dk_m1 hD)) (h_p := (fun k => decide_eq_true_iff)) (h_X := (fun _ _ _ => rfl)) (h_Y := (fun _ _ _ => rfl)) (h_ok := (fun z k hk hL => okM hD a3 z.1 z.2.1 k hk hL)) (h_pp := (dk_m2 hD)) (p := (pM q4 a1)) (X := (XM q4 q5 a1 a2 a3)) (Y := (YM q4 q5 a1 a2 a3)), ?_⟩
    rintro r2 w2 (⟨y0_0, y0_1, g1, g2, g3, rfl, rfl⟩ | ⟨y1_0, y1_1, y1_2, g1, g2, g3, rfl, rfl⟩ | ⟨g1, g2, rfl, rfl⟩ | ⟨g1, rfl, rfl⟩)
    · obtain ⟨rr, hr⟩ := near_in (x := (crv (pC r5 a1) (XC r5 a1 a2 a3) r13 40)) (y := (crv (pC r5 a1) (YC r5 a1 a2 a3) r14 40)) (nn := crv (pC r5 a1) nI r15 40) (a := Px r5 a4) (b := Py r5 a4) (cn_le (pC r5 a1) 40) f3
      rw [f4] at hr
      cases hr
    · obtain ⟨rr, hr⟩ := near_in (x := (crv (pC r5 a1) (XC r5 a1 a2 a3) r13 40)) (y := (crv (pC r5 a1) (YC r5 a1 a2 a3) r14 40)) (nn := crv (pC r5 a1) nI r15 40) (a := Px r5 a4) (b := Py r5 a4) (cn_le (pC r5 a1) 40) f3
      rw [f4] at hr
      cases hr
    · exact absurd f2 g2
    · exact absurd f1 g1
  · rw [hD.1.1] at f1
    rw [hD.1.2.1] at f1
    rw [hD.1.2.2.1] at f2
    obtain ⟨b1, b2, b3, b4, b5⟩ := dk_bars hD f1.1
    refine ⟨rfl, rfl, ⟨_, rfl⟩, _, c_X11_near (h_l := (dk_m0 hD)) (h_t := (dk_m1 hD)) (h_p := (fun k => decide_eq_true_iff)) (h_X := (fun _ _ _ => rfl)) (h_Y := (fun _ _ _ => rfl)) (h_ok := (fun z k hk hL => okM hD a3 z.1 z.2.1 k hk hL)) (h_pp := (dk_m2 hD)) (p := (pM q4 a1)) (X := (XM q4 q5 a1 a2 a3)) (Y := (YM q4 q5 a1 a2 a3)), ?_⟩
    rintro r2 w2 (⟨y0_0, y0_1, g1, g2, g3, rfl, rfl⟩ | ⟨y1_0, y1_1, y1_2, g1, g2, g3, rfl, rfl⟩ | ⟨g1, g2, rfl, rfl⟩ | ⟨g1, rfl, rfl⟩)
    · rw [cn_e hD f1.1] at g3
      have en := e_nearA (pl := a5) (cv_x hD a3 f1.1 f1.2.1 r13 q12) (cv_y hD a3 f1.1 f1.2.1 r14 q13) (cv_n hD f1.1 r15 q14) (dk_px hD f2).1 (dk_px hD f2).2.1
      rw [en, f4] at g3
      cases g3
    · rw [cn_e hD f1.1] at g3
      have en := e_nearA (pl := a5) (cv_x hD a3 f1.1 f1.2.1 r13 q12) (cv_y hD a3 f1.1 f1.2.1 r14 q13) (cv_n hD f1.1 r15 q14) (dk_px hD f2).1 (dk_px hD f2).2.1
      rw [en, f4] at g3
      have ei := Sum.inr.inj g3
      exact ⟨by rw [ei], ⟨_, rfl⟩, inv_mk (fun z => absurd z (by decide)) hT hD hP hK hA⟩
    · exact absurd f2 g2
    · exact absurd f1 g1
  · rw [hD.1.1] at f1
    rw [hD.1.2.1] at f1
    rw [hD.1.2.2.1] at f2
    obtain ⟨b1, b2, b3, b4, b5⟩ := dk_bars hD f1.1
    refine ⟨rfl, rfl, ⟨_, rfl⟩, _, c_X11_near (h_l := (dk_m0 hD)) (h_t := (dk_m1 hD)) (h_p := (fun k => decide_eq_true_iff)) (h_X := (fun _ _ _ => rfl)) (h_Y := (fun _ _ _ => rfl)) (h_ok := (fun z k hk hL => okM hD a3 z.1 z.2.1 k hk hL)) (h_pp := (dk_m2 hD)) (p := (pM q4 a1)) (X := (XM q4 q5 a1 a2 a3)) (Y := (YM q4 q5 a1 a2 a3)), ?_⟩
    rintro r2 w2 (⟨y0_0, y0_1, g1, g2, g3, rfl, rfl⟩ | ⟨y1_0, y1_1, y1_2, g1, g2, g3, rfl, rfl⟩ | ⟨g1, g2, rfl, rfl⟩ | ⟨g1, rfl, rfl⟩)
    · exact ⟨rfl, ⟨_, rfl⟩, inv_mk (fun z => absurd z (by decide)) hT hD hP hK hA⟩
    · rw [cn_e hD f1.1] at g3
      have en := e_nearA (pl := a5) (cv_x hD a3 f1.1 f1.2.1 r13 q12) (cv_y hD a3 f1.1 f1.2.1 r14 q13) (cv_n hD f1.1 r15 q14) (dk_px hD f2).1 (dk_px hD f2).2.1
      rw [en, near_out (x := (crv (pC r5 a1) (XC r5 a1 a2 a3) r13 40)) (y := (crv (pC r5 a1) (YC r5 a1 a2 a3) r14 40)) (nn := crv (pC r5 a1) nI r15 40) (a := Px r5 a4) (b := Py r5 a4) (cn_le (pC r5 a1) 40) f3] at g3
      cases g3
    · exact absurd f2 g2
    · exact absurd f1 g1
  · rw [hD.1.1] at f1
    rw [hD.1.2.1] at f1
    rw [hD.1.2.2.1] at f2
    obtain ⟨b1, b2, b3, b4, b5⟩ := dk_bars hD f1.1
    refine ⟨rfl, rfl, ⟨_, rfl⟩, _, c_X11_near (h_l := (dk_m0 hD)) (h_t := (dk_m1 hD)) (h_p := (fun k => decide_eq_true_iff)) (h_X := (fun _ _ _ => rfl)) (h_Y := (fun _ _ _ => rfl)) (h_ok := (fun z k hk hL => okM hD a3 z.1 z.2.1 k hk hL)) (h_pp := (dk_m2 hD)) (p := (pM q4 a1)) (X := (XM q4 q5 a1 a2 a3)) (Y := (YM q4 q5 a1 a2 a3)), ?_⟩
    rintro r2 w2 (⟨y0_0, y0_1, g1, g2, g3, rfl, rfl⟩ | ⟨y1_0, y1_1, y1_2, g1, g2, g3, rfl, rfl⟩ | ⟨g1, g2, rfl, rfl⟩ | ⟨g1, rfl, rfl⟩)
    · exact absurd g2 f2
    · exact absurd g2 f2
    · exact ⟨rfl, ⟨_, rfl⟩, inv_mk (fun z => absurd z (by decide)) hT hD hP hK hA⟩
    · exact absurd f1 g1
  · rw [hD.1.1] at f1
    rw [hD.1.2.1] at f1
    refine ⟨rfl, rfl, ⟨_, rfl⟩, _, c_X11_near (h_l := (dk_m0 hD)) (h_t := (dk_m1 hD)) (h_p := (fun k => decide_eq_true_iff)) (h_X := (fun _ _ _ => rfl)) (h_Y := (fun _ _ _ => rfl)) (h_ok := (fun z k hk hL => okM hD a3 z.1 z.2.1 k hk hL)) (h_pp := (dk_m2 hD)) (p := (pM q4 a1)) (X := (XM q4 q5 a1 a2 a3)) (Y := (YM q4 q5 a1 a2 a3)), ?_⟩
    rintro r2 w2 (⟨y0_0, y0_1, g1, g2, g3, rfl, rfl⟩ | ⟨y1_0, y1_1, y1_2, g1, g2, g3, rfl, rfl⟩ | ⟨g1, g2, rfl, rfl⟩ | ⟨g1, rfl, rfl⟩)
    · exact absurd g1 f1
    · exact absurd g1 f1
    · exact absurd g1 f1
    · exact ⟨rfl, ⟨_, rfl⟩, inv_mk (fun z => absurd z (by decide)) hT hD hP hK hA⟩
set_option maxRecDepth 100000 in
theorem pr_miss {w : ax_W} (hI : INV w) (a1 a2 a3 a4 : Int32) : PrI M_X10_miss M_X11_miss [.int a1, .int a2, .int a3, .int a4] w := by
  refine hI (fun w => PrI M_X10_miss M_X11_miss [.int a1, .int a2, .int a3, .int a4] w) ?_
  intro tr fl pl wl wd f1_3 f1_4 f10_0 f10_1 f10_2 f10_3 f12_5 f12_6 f12_7 f12_8 f12_9 f18_7 f18_8 f18_9 f18_10 f25_3 m_thrown m_where m_readLinks m_readTracers m_readPoints m_readPairs m_textLong m_at m_spot m_token m_whole m_readFault m_readPlace m_value m_curveMany m_cornerMany m_straightAt m_lined f11_0 f11_1 f11_2 f11_3 f11_4 f11_5 f11_6 f11_7 f11_8 f11_9 f11_10 f11_11 f11_12 f11_13 f11_14 f11_15 f18_11 f18_12 m_n m_c m_d m_s m_e m_k m_x m_y m_g m_a m_fitUp m_fitDown m_worstUp m_worstDown r2 r3 r5 r6 r8 r9 r13 r14 r15 r26 r27 r28 r30 r31 r32 q3 q4 q5 q6 q7 q8 q9 q10 q11 q12 q13 q14 q15 q16 q18 q19 q20 r19 r20 r21 r22 r23 r24 q17 L nl nt np nr wa wb f n so ch hW hT hD hP hK hA
  refine ⟨_, c_X10_miss (h_c0 := (dk_c0 hD)) (h_c1 := (dk_c1 hD)) (h_p := (fun k => decide_eq_true_iff)) (h_X := (fun _ _ _ => rfl)) (h_Y := (fun _ _ _ => rfl)) (h_ok := (fun z k hk hL => okC hD a3 (dkl hD z.1) (dkt hD z.2.1) k hk hL)) (h_c2 := (dk_c2 hD)) (p := (pC r5 a1)) (X := (XC r5 a1 a2 a3)) (Y := (YC r5 a1 a2 a3)), ?_⟩
  rintro r w' (⟨x0_0, f1, f2, f3, rfl, rfl⟩ | ⟨x1_0, f1, f2, f3, rfl, rfl⟩ | ⟨f1, f2, rfl, rfl⟩ | ⟨f1, rfl, rfl⟩)
  · rw [hD.1.1] at f1
    rw [hD.1.2.1] at f1
    rw [hD.1.2.2.1] at f2
    obtain ⟨b1, b2, b3, b4, b5⟩ := dk_bars hD f1.1
    refine ⟨rfl, rfl, ⟨_, rfl⟩, _, c_X11_miss (h_l := (dk_m0 hD)) (h_t := (dk_m1 hD)) (h_p := (fun k => decide_eq_true_iff)) (h_X := (fun _ _ _ => rfl)) (h_Y := (fun _ _ _ => rfl)) (h_ok := (fun z k hk hL => okM hD a3 z.1 z.2.1 k hk hL)) (h_pp := (dk_m2 hD)) (p := (pM q4 a1)) (X := (XM q4 q5 a1 a2 a3)) (Y := (YM q4 q5 a1 a2 a3)), ?_⟩
    rintro r2 w2 (⟨y0_0, g1, g2, g3, rfl, rfl⟩ | ⟨y1_0, g1, g2, g3, rfl, rfl⟩ | ⟨g1, g2, rfl, rfl⟩ | ⟨g1, rfl, rfl⟩)
    · rw [cn_e hD f1.1] at g3
      exact absurd f3 g3
    · rw [cn_e hD f1.1] at g3
      exact ⟨rfl, ⟨_, rfl⟩, inv_mk (fun z => absurd z (by decide)) hT hD hP hK hA⟩
    · exact absurd f2 g2
    · exact absurd f1 g1
  · rw [hD.1.1] at f1
    rw [hD.1.2.1] at f1
    rw [hD.1.2.2.1] at f2
    obtain ⟨b1, b2, b3, b4, b5⟩ := dk_bars hD f1.1
    refine ⟨rfl, rfl, ⟨_, rfl⟩, _, c_X11_miss (h_l := (dk_m0 hD)) (h_t := (dk_m1 hD)) (h_p := (fun k => decide_eq_true_iff)) (h_X := (fun _ _ _ => rfl)) (h_Y := (fun _ _ _ => rfl)) (h_ok := (fun z k hk hL => okM hD a3 z.1 z.2.1 k hk hL)) (h_pp := (dk_m2 hD)) (p := (pM q4 a1)) (X := (XM q4 q5 a1 a2 a3)) (Y := (YM q4 q5 a1 a2 a3)), ?_⟩
    rintro r2 w2 (⟨y0_0, g1, g2, g3, rfl, rfl⟩ | ⟨y1_0, g1, g2, g3, rfl, rfl⟩ | ⟨g1, g2, rfl, rfl⟩ | ⟨g1, rfl, rfl⟩)
    · rw [cn_e hD f1.1] at g3
      have dp := dk_px hD f2
      exact ⟨by rw [cn_e hD f1.1]; exact congrArg (fun v => some (Value.int v)) (e_miss (cn_pos _ f3) (cv_x hD a3 f1.1 f1.2.1 r13 q12) (cv_y hD a3 f1.1 f1.2.1 r14 q13) (bx_x hD a3 f1.1 f1.2.1 r13) (bx_y hD a3 f1.1 f1.2.1 r14) dp.2.2.1 dp.2.2.2 dp.1 dp.2.1).1.symm, ⟨_, rfl⟩, inv_mk (fun z => absurd z (by decide)) hT hD hP hK hA⟩
    · rw [cn_e hD f1.1] at g3
      exact absurd g3 f3
    · exact absurd f2 g2
    · exact absurd f1 g1
  · rw [hD.1.1] at f1
    rw [hD.1.2.1] at f1
    rw [hD.1.2.2.1] at f2
    obtain ⟨b1, b2, b3, b4, b5⟩ := dk_bars hD f1.1
    refine ⟨rfl, rfl, ⟨_, rfl⟩, _, c_X11_miss (h_l := (dk_m0 hD)) (h_t := (dk_m1 hD)) (h_p := (fun k => decide_eq_true_iff)) (h_X := (fun _ _ _ => rfl)) (h_Y := (fun _ _ _ => rfl)) (h_ok := (fun z k hk hL => okM hD a3 z.1 z.2.1 k hk hL)) (h_pp := (dk_m2 hD)) (p := (pM q4 a1)) (X := (XM q4 q5 a1 a2 a3)) (Y := (YM q4 q5 a1 a2 a3)), ?_⟩
    rintro r2 w2 (⟨y0_0, g1, g2, g3, rfl, rfl⟩ | ⟨y1_0, g1, g2, g3, rfl, rfl⟩ | ⟨g1, g2, rfl, rfl⟩ | ⟨g1, rfl, rfl⟩)
    · exact absurd g2 f2
    · exact absurd g2 f2
    · exact ⟨rfl, ⟨_, rfl⟩, inv_mk (fun z => absurd z (by decide)) hT hD hP hK hA⟩
    · exact absurd f1 g1
  · rw [hD.1.1] at f1
    rw [hD.1.2.1] at f1
    refine ⟨rfl, rfl, ⟨_, rfl⟩, _, c_X11_miss (h_l := (dk_m0 hD)) (h_t := (dk_m1 hD)) (h_p := (fun k => decide_eq_true_iff)) (h_X := (fun _ _ _ => rfl)) (h_Y := (fun _ _ _ => rfl)) (h_ok := (fun z k hk hL => okM hD a3 z.1 z.2.1 k hk hL)) (h_pp := (dk_m2 hD)) (p := (pM q4 a1)) (X := (XM q4 q5 a1 a2 a3)) (Y := (YM q4 q5 a1 a2 a3)), ?_⟩
    rintro r2 w2 (⟨y0_0, g1, g2, g3, rfl, rfl⟩ | ⟨y1_0, g1, g2, g3, rfl, rfl⟩ | ⟨g1, g2, rfl, rfl⟩ | ⟨g1, rfl, rfl⟩)
    · exact absurd g1 f1
    · exact absurd g1 f1
    · exact absurd g1 f1
    · exact ⟨rfl, ⟨_, rfl⟩, inv_mk (fun z => absurd z (by decide)) hT hD hP hK hA⟩
