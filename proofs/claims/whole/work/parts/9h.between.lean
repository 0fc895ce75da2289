/-! between, by one proposition -/
abbrev mbF (q : Nat → Int32) (l x k : Int32) : Int64 := Int32.toInt64 x * Ml_n k - Ml_c k * Int32.toInt64 (Mk_unit q l)
abbrev Mb (q : Nat → Int32) (l x one two : Int32) : Prop := Ab64 (Int32.toInt64 x) ≤ Int32.toInt64 (Mk_unit q l) ∧ ((mbF q l x one < 0 ∧ 0 < mbF q l x two) ∨ (0 < mbF q l x one ∧ mbF q l x two < 0))
theorem c_X11_isBetween_b {wc : List ax_E} {m_thrown m_trouble m_fault m_where m_taped m_linkMany m_tracerMany m_pointMany m_pairMany m_readLinks m_readTracers m_readPoints m_readPairs m_textLong m_at m_spot m_token m_whole m_readFault m_readPlace m_value m_curveMany m_cornerMany m_straightAt m_walkLink m_walkAngle m_walkBranch m_walkMany m_lined m_actMany a1 a2 a3 a4 : Int32} {m_n m_c m_d m_s m_e m_k m_x m_y m_g m_a m_fitUp m_fitDown m_worstUp m_worstDown : Int64} {z3 z5 z6 z7 z8 z9 z10 z11 z12 z13 z14 z15 z16 z17 z18 z19 z20 : ax_E} {q4 : Nat → Int32} (h_i : 0 ≤ a1 ∧ a1 < m_linkMany) (h_l : 0 ≤ m_linkMany ∧ m_linkMany ≤ nI 4) (h_k : 0 ≤ a3 ∧ a3 < 40) (h_k2 : 0 ≤ a4 ∧ a4 < 40) : Ct M_X11_isBetween [.ref 1000, .int a1, .int a2, .int a3, .int a4] (wc, [ob 9 [.int m_thrown, .int m_trouble, .int m_fault, .int m_where, .ref 1001, .ref 1002, .int 40, .ref 1003, .int m_taped, .int m_linkMany, .int m_tracerMany, .int m_pointMany, .int m_pairMany, .ref 1004, .ref 1005, .ref 1006, .ref 1007, .int m_readLinks, .int m_readTracers, .int m_readPoints, .int m_readPairs, .ref 1008, .ref 1009, .ref 1010, .ref 1011, .int m_textLong, .int m_at, .int m_spot, .int m_token, .int m_whole, .int m_readFault, .int m_readPlace, .int m_value, .long m_n, .long m_c, .long m_d, .long m_s, .long m_e, .long m_k, .long m_x, .long m_y, .long m_g, .long m_a, .ref 1012, .ref 1013, .ref 1014, .int m_curveMany, .ref 1015, .int m_cornerMany, .int m_straightAt, .ref 1016, .long m_fitUp, .long m_fitDown, .long m_worstUp, .long m_worstDown, .ref 1017, .int m_walkLink, .int m_walkAngle, .int m_walkBranch, .int m_walkMany, .ref 1018, .ref 1019, .int m_lined, .ref 1020, .int m_actMany], ia 64 (ax_tab 0), ia 64 (ax_tab 1), z3, ia 16 q4, z5, z6, z7, z8, z9, z10, z11, z12, z13, z14, z15, z16, z17, z18, z19, z20]) (fun r w' => ((Mb q4 a1 a2 a3 a4) ∧ r = some (.int 1) ∧ w' = (wc, [ob 9 [.int m_thrown, .int m_trouble, .int m_fault, .int m_where, .ref 1001, .ref 1002, .int 40, .ref 1003, .int m_taped, .int m_linkMany, .int m_tracerMany, .int m_pointMany, .int m_pairMany, .ref 1004, .ref 1005, .ref 1006, .ref 1007, .int m_readLinks, .int m_readTracers, .int m_readPoints, .int m_readPairs, .ref 1008, .ref 1009, .ref 1010, .ref 1011, .int m_textLong, .int m_at, .int m_spot, .int m_token, .int m_whole, .int m_readFault, .int m_readPlace, .int m_value, .long (Ml_n a4), .long (Ml_c a4), .long (Ml_d a4), .long (Ml_s q4 a1 a4), .long (Ml_e q4 a1 a4), .long (Ml_k q4 a1 a4), .long (Ml_x q4 a1 a4), .long (Ml_y q4 a1 a4), .long (Int32.toInt64 (Bg q4 a1)), .long (Int32.toInt64 (Ba q4 a1)), .ref 1012, .ref 1013, .ref 1014, .int m_curveMany, .ref 1015, .int m_cornerMany, .int m_straightAt, .ref 1016, .long m_fitUp, .long m_fitDown, .long m_worstUp, .long m_worstDown, .ref 1017, .int m_walkLink, .int m_walkAngle, .int m_walkBranch, .int m_walkMany, .ref 1018, .ref 1019, .int m_lined, .ref 1020, .int m_actMany], ia 64 (ax_tab 0), ia 64 (ax_tab 1), z3, ia 16 q4, z5, z6, z7, z8, z9, z10, z11, z12, z13, z14, z15, z16, z17, z18, z19, z20])) ∨ ((¬ (Mb q4 a1 a2 a3 a4)) ∧ r = some (.int 0) ∧ w' = (wc, [ob 9 [.int m_thrown, .int m_trouble, .int m_fault, .int m_where, .ref 1001, .ref 1002, .int 40, .ref 1003, .int m_taped, .int m_linkMany, .int m_tracerMany, .int m_pointMany, .int m_pairMany, .ref 1004, .ref 1005, .ref 1006, .ref 1007, .int m_readLinks, .int m_readTracers, .int m_readPoints, .int m_readPairs, .ref 1008, .ref 1009, .ref 1010, .ref 1011, .int m_textLong, .int m_at, .int m_spot, .int m_token, .int m_whole, .int m_readFault, .int m_readPlace, .int m_value, .long (Ml_n a4), .long (Ml_c a4), .long (Ml_d a4), .long (Ml_s q4 a1 a4), .long (Ml_e q4 a1 a4), .long (Ml_k q4 a1 a4), .long (Ml_x q4 a1 a4), .long (Ml_y q4 a1 a4), .long (Int32.toInt64 (Bg q4 a1)), .long (Int32.toInt64 (Ba q4 a1)), .ref 1012, .ref 1013, .ref 1014, .int m_curveMany, .ref 1015, .int m_cornerMany, .int m_straightAt, .ref 1016, .long m_fitUp, .long m_fitDown, .long m_worstUp, .long m_worstDown, .ref 1017, .int m_walkLink, .int m_walkAngle, .int m_walkBranch, .int m_walkMany, .ref 1018, .ref 1019, .int m_lined, .ref 1020, .int m_actMany], ia 64 (ax_tab 0), ia 64 (ax_tab 1), z3, ia 16 q4, z5, z6, z7, z8, z9, z10, z11, z12, z13, z14, z15, z16, z17, z18, z19, z20]))) := by
  refine ct_of ⟨by decide, rfl⟩ (Nat.le_of_ble_eq_true rfl) ?_
  refine ab_aload_n dX11_isBetween_0 rfl ?_
  refine ab_iload_n dX11_isBetween_1 rfl ?_
  refine ab_iload_n dX11_isBetween_2 rfl ?_
  refine ab_callV (As := [.int a1, .int a3]) (rest := []) dX11_isBetween_3 mv_X11_lays ml_X11_325 ⟨by decide, by decide, rfl, rfl, rfl⟩ (by decide) rfl rfl (Nat.le_of_ble_eq_true rfl) rfl (c_X11_lays h_i h_l h_k) ?_
  rintro r w' ⟨rfl, rfl⟩
  refine ab_iload_n dX11_isBetween_6 rfl ?_
  refine ab_i2l dX11_isBetween_7 ?_
  refine ab_aload_n dX11_isBetween_8 rfl ?_
  refine ab_getf dX11_isBetween_9 fl_X11_328 rfl rfl ?_
  refine ab_lmul dX11_isBetween_12 ?_
  refine ab_aload_n dX11_isBetween_13 rfl ?_
  refine ab_getf dX11_isBetween_14 fl_X11_331 rfl rfl ?_
  refine ab_aload_n dX11_isBetween_17 rfl ?_
  refine ab_iload_n dX11_isBetween_18 rfl ?_
  refine ab_callV (As := [.int a1]) (rest := [.long (Ml_c a3), .long ((Int32.toInt64 a2) * (Ml_n a3))]) dX11_isBetween_19 mv_X11_cosineBy ml_X11_283 ⟨by decide, by decide, rfl, rfl, rfl⟩ (by decide) rfl rfl (Nat.le_of_ble_eq_true rfl) rfl (c_X11_cosineBy h_i h_l) ?_
  rintro r w' ⟨rfl, rfl⟩
  refine ab_i2l dX11_isBetween_22 ?_
  refine ab_lmul dX11_isBetween_23 ?_
  refine ab_lsub dX11_isBetween_24 ?_
  refine ab_lstore (la' := [(5, .long (((Int32.toInt64 a2) * (Ml_n a3)) - ((Ml_c a3) * (Int32.toInt64 (Mk_unit q4 a1))))), (0, .ref 1000), (1, .int a1), (2, .int a2), (3, .int a3), (4, .int a4)]) dX11_isBetween_25 (by decide) rfl ?_
  refine ab_aload_n dX11_isBetween_27 rfl ?_
  refine ab_iload_n dX11_isBetween_28 rfl ?_
  refine ab_iload dX11_isBetween_29 rfl ?_
  refine ab_callV (As := [.int a1, .int a4]) (rest := []) dX11_isBetween_31 mv_X11_lays ml_X11_325 ⟨by decide, by decide, rfl, rfl, rfl⟩ (by decide) rfl rfl (Nat.le_of_ble_eq_true rfl) rfl (c_X11_lays h_i h_l h_k2) ?_
  rintro r w' ⟨rfl, rfl⟩
  refine ab_iload_n dX11_isBetween_34 rfl ?_
  refine ab_i2l dX11_isBetween_35 ?_
  refine ab_aload_n dX11_isBetween_36 rfl ?_
  refine ab_getf dX11_isBetween_37 fl_X11_328 rfl rfl ?_
  refine ab_lmul dX11_isBetween_40 ?_
  refine ab_aload_n dX11_isBetween_41 rfl ?_
  refine ab_getf dX11_isBetween_42 fl_X11_331 rfl rfl ?_
  refine ab_aload_n dX11_isBetween_45 rfl ?_
  refine ab_iload_n dX11_isBetween_46 rfl ?_
  refine ab_callV (As := [.int a1]) (rest := [.long (Ml_c a4), .long ((Int32.toInt64 a2) * (Ml_n a4))]) dX11_isBetween_47 mv_X11_cosineBy ml_X11_283 ⟨by decide, by decide, rfl, rfl, rfl⟩ (by decide) rfl rfl (Nat.le_of_ble_eq_true rfl) rfl (c_X11_cosineBy h_i h_l) ?_
  rintro r w' ⟨rfl, rfl⟩
  refine ab_i2l dX11_isBetween_50 ?_
  refine ab_lmul dX11_isBetween_51 ?_
  refine ab_lsub dX11_isBetween_52 ?_
  refine ab_lstore (la' := [(7, .long (((Int32.toInt64 a2) * (Ml_n a4)) - ((Ml_c a4) * (Int32.toInt64 (Mk_unit q4 a1))))), (5, .long (((Int32.toInt64 a2) * (Ml_n a3)) - ((Ml_c a3) * (Int32.toInt64 (Mk_unit q4 a1))))), (0, .ref 1000), (1, .int a1), (2, .int a2), (3, .int a3), (4, .int a4)]) dX11_isBetween_53 (by decide) rfl ?_
  refine ab_aload_n dX11_isBetween_55 rfl ?_
  refine ab_iload_n dX11_isBetween_56 rfl ?_
  refine ab_iload_n dX11_isBetween_57 rfl ?_
  refine ab_callV (As := [.int a1, .int a2]) (rest := []) dX11_isBetween_58 mv_X11_isEnd ml_X11_295 ⟨by decide, by decide, rfl, rfl, rfl⟩ (by decide) rfl rfl (Nat.le_of_ble_eq_true rfl) rfl (c_X11_isEnd h_i h_l) ?_
  rintro r w' (⟨c_1, rfl, rfl⟩ | ⟨c_2, rfl, rfl⟩)
  · refine ab_ifeq 96 dX11_isBetween_61 (by decide) (fun h_3 => absurd h_3 (by decide)) (fun h_3 => ?_)
    refine ab_lload dX11_isBetween_64 rfl ?_
    refine ab_lconst (v := 0) dX11_isBetween_66 (by decide) ?_
    refine ab_lcmpge 78 dX11_isBetween_67 dX11_isBetween_68 (by decide) (fun h_4 => ?_) (fun h_4 => ?_)
    · refine ab_lload dX11_isBetween_78 rfl ?_
      refine ab_lconst (v := 0) dX11_isBetween_80 (by decide) ?_
      refine ab_lcmple 96 dX11_isBetween_81 dX11_isBetween_82 (by decide) (fun h_5 => ?_) (fun h_5 => ?_)
      · refine ab_iconst (v := 0) dX11_isBetween_96 (by decide) ?_
        exact ab_zret dX11_isBetween_97 rfl rfl (by decide) (Or.inr (⟨(by unfold Mb mbF; grind), rfl, rfl⟩))
      · refine ab_lload dX11_isBetween_85 rfl ?_
        refine ab_lconst (v := 0) dX11_isBetween_87 (by decide) ?_
        refine ab_lcmpge 96 dX11_isBetween_88 dX11_isBetween_89 (by decide) (fun h_6 => ?_) (fun h_6 => ?_)
        · refine ab_iconst (v := 0) dX11_isBetween_96 (by decide) ?_
          exact ab_zret dX11_isBetween_97 rfl rfl (by decide) (Or.inr (⟨(by unfold Mb mbF; grind), rfl, rfl⟩))
        · refine ab_iconst (v := 1) dX11_isBetween_92 (by decide) ?_
          refine ab_goto 97 dX11_isBetween_93 (by decide) ?_
          exact ab_zret dX11_isBetween_97 rfl rfl (by decide) (Or.inl (⟨(by unfold Mb mbF; grind), rfl, rfl⟩))
    · refine ab_lload dX11_isBetween_71 rfl ?_
      refine ab_lconst (v := 0) dX11_isBetween_73 (by decide) ?_
      refine ab_lcmpgt 92 dX11_isBetween_74 dX11_isBetween_75 (by decide) (fun h_7 => ?_) (fun h_7 => ?_)
      · refine ab_iconst (v := 1) dX11_isBetween_92 (by decide) ?_
        refine ab_goto 97 dX11_isBetween_93 (by decide) ?_
        exact ab_zret dX11_isBetween_97 rfl rfl (by decide) (Or.inl (⟨(by unfold Mb mbF; grind), rfl, rfl⟩))
      · refine ab_lload dX11_isBetween_78 rfl ?_
        refine ab_lconst (v := 0) dX11_isBetween_80 (by decide) ?_
        refine ab_lcmple 96 dX11_isBetween_81 dX11_isBetween_82 (by decide) (fun h_8 => ?_) (fun h_8 => ?_)
        · refine ab_iconst (v := 0) dX11_isBetween_96 (by decide) ?_
          exact ab_zret dX11_isBetween_97 rfl rfl (by decide) (Or.inr (⟨(by unfold Mb mbF; grind), rfl, rfl⟩))
        · refine ab_lload dX11_isBetween_85 rfl ?_
          refine ab_lconst (v := 0) dX11_isBetween_87 (by decide) ?_
          refine ab_lcmpge 96 dX11_isBetween_88 dX11_isBetween_89 (by decide) (fun h_9 => ?_) (fun h_9 => ?_)
          · refine ab_iconst (v := 0) dX11_isBetween_96 (by decide) ?_
            exact ab_zret dX11_isBetween_97 rfl rfl (by decide) (Or.inr (⟨(by unfold Mb mbF; grind), rfl, rfl⟩))
          · refine ab_iconst (v := 1) dX11_isBetween_92 (by decide) ?_
            refine ab_goto 97 dX11_isBetween_93 (by decide) ?_
            exact ab_zret dX11_isBetween_97 rfl rfl (by decide) (Or.inl (⟨(by unfold Mb mbF; grind), rfl, rfl⟩))
  · refine ab_ifeq 96 dX11_isBetween_61 (by decide) (fun h_10 => ?_) (fun h_10 => absurd (by decide) h_10)
    refine ab_iconst (v := 0) dX11_isBetween_96 (by decide) ?_
    exact ab_zret dX11_isBetween_97 rfl rfl (by decide) (Or.inr (⟨(by unfold Mb mbF; grind), rfl, rfl⟩))
theorem c_X11_between_t {wc : List ax_E} {m_thrown m_trouble m_fault m_where m_taped m_linkMany m_tracerMany m_pointMany m_pairMany m_readLinks m_readTracers m_readPoints m_readPairs m_textLong m_at m_spot m_token m_whole m_readFault m_readPlace m_value m_curveMany m_cornerMany m_straightAt m_walkLink m_walkAngle m_walkBranch m_walkMany m_lined m_actMany a1 a2 : Int32} {m_n m_c m_d m_s m_e m_k m_x m_y m_g m_a m_fitUp m_fitDown m_worstUp m_worstDown : Int64} {z3 z5 z6 z7 z8 z9 z10 z11 z12 z13 z14 z15 z16 z17 z18 z19 z20 : ax_E} {q4 : Nat → Int32} (h_l : 0 ≤ m_linkMany ∧ m_linkMany ≤ nI 4) : Ct M_X11_between [.ref 1000, .int a1, .int a2] (wc, [ob 9 [.int m_thrown, .int m_trouble, .int m_fault, .int m_where, .ref 1001, .ref 1002, .int 40, .ref 1003, .int m_taped, .int m_linkMany, .int m_tracerMany, .int m_pointMany, .int m_pairMany, .ref 1004, .ref 1005, .ref 1006, .ref 1007, .int m_readLinks, .int m_readTracers, .int m_readPoints, .int m_readPairs, .ref 1008, .ref 1009, .ref 1010, .ref 1011, .int m_textLong, .int m_at, .int m_spot, .int m_token, .int m_whole, .int m_readFault, .int m_readPlace, .int m_value, .long m_n, .long m_c, .long m_d, .long m_s, .long m_e, .long m_k, .long m_x, .long m_y, .long m_g, .long m_a, .ref 1012, .ref 1013, .ref 1014, .int m_curveMany, .ref 1015, .int m_cornerMany, .int m_straightAt, .ref 1016, .long m_fitUp, .long m_fitDown, .long m_worstUp, .long m_worstDown, .ref 1017, .int m_walkLink, .int m_walkAngle, .int m_walkBranch, .int m_walkMany, .ref 1018, .ref 1019, .int m_lined, .ref 1020, .int m_actMany], ia 64 (ax_tab 0), ia 64 (ax_tab 1), z3, ia 16 q4, z5, z6, z7, z8, z9, z10, z11, z12, z13, z14, z15, z16, z17, z18, z19, z20]) (fun r w' => ((0 ≤ a1 ∧ a1 < m_linkMany) ∧ (0 ≤ a2 ∧ a2 < 40) ∧ (Mb q4 a1 (Mk_far q4 a1) a2 (Mn_next a2)) ∧ (Mb q4 a1 (Mk_near q4 a1) a2 (Mn_next a2)) ∧ r = some (.int 2) ∧ w' = (wc, [ob 9 [.int 0, .int 0, .int m_fault, .int (-1), .ref 1001, .ref 1002, .int 40, .ref 1003, .int m_taped, .int m_linkMany, .int m_tracerMany, .int m_pointMany, .int m_pairMany, .ref 1004, .ref 1005, .ref 1006, .ref 1007, .int m_readLinks, .int m_readTracers, .int m_readPoints, .int m_readPairs, .ref 1008, .ref 1009, .ref 1010, .ref 1011, .int m_textLong, .int m_at, .int m_spot, .int m_token, .int m_whole, .int m_readFault, .int m_readPlace, .int m_value, .long (Ml_n (Mn_next a2)), .long (Ml_c (Mn_next a2)), .long (Ml_d (Mn_next a2)), .long (Ml_s q4 a1 (Mn_next a2)), .long (Ml_e q4 a1 (Mn_next a2)), .long (Ml_k q4 a1 (Mn_next a2)), .long (Ml_x q4 a1 (Mn_next a2)), .long (Ml_y q4 a1 (Mn_next a2)), .long (Int32.toInt64 (Bg q4 a1)), .long (Int32.toInt64 (Ba q4 a1)), .ref 1012, .ref 1013, .ref 1014, .int m_curveMany, .ref 1015, .int m_cornerMany, .int m_straightAt, .ref 1016, .long m_fitUp, .long m_fitDown, .long m_worstUp, .long m_worstDown, .ref 1017, .int m_walkLink, .int m_walkAngle, .int m_walkBranch, .int m_walkMany, .ref 1018, .ref 1019, .int m_lined, .ref 1020, .int m_actMany], ia 64 (ax_tab 0), ia 64 (ax_tab 1), z3, ia 16 q4, z5, z6, z7, z8, z9, z10, z11, z12, z13, z14, z15, z16, z17, z18, z19, z20])) ∨ ((0 ≤ a1 ∧ a1 < m_linkMany) ∧ (0 ≤ a2 ∧ a2 < 40) ∧ (Mb q4 a1 (Mk_far q4 a1) a2 (Mn_next a2)) ∧ (¬ (Mb q4 a1 (Mk_near q4 a1) a2 (Mn_next a2))) ∧ r = some (.int 1) ∧ w' = (wc, [ob 9 [.int 0, .int 0, .int m_fault, .int (-1), .ref 1001, .ref 1002, .int 40, .ref 1003, .int m_taped, .int m_linkMany, .int m_tracerMany, .int m_pointMany, .int m_pairMany, .ref 1004, .ref 1005, .ref 1006, .ref 1007, .int m_readLinks, .int m_readTracers, .int m_readPoints, .int m_readPairs, .ref 1008, .ref 1009, .ref 1010, .ref 1011, .int m_textLong, .int m_at, .int m_spot, .int m_token, .int m_whole, .int m_readFault, .int m_readPlace, .int m_value, .long (Ml_n (Mn_next a2)), .long (Ml_c (Mn_next a2)), .long (Ml_d (Mn_next a2)), .long (Ml_s q4 a1 (Mn_next a2)), .long (Ml_e q4 a1 (Mn_next a2)), .long (Ml_k q4 a1 (Mn_next a2)), .long (Ml_x q4 a1 (Mn_next a2)), .long (Ml_y q4 a1 (Mn_next a2)), .long (Int32.toInt64 (Bg q4 a1)), .long (Int32.toInt64 (Ba q4 a1)), .ref 1012, .ref 1013, .ref 1014, .int m_curveMany, .ref 1015, .int m_cornerMany, .int m_straightAt, .ref 1016, .long m_fitUp, .long m_fitDown, .long m_worstUp, .long m_worstDown, .ref 1017, .int m_walkLink, .int m_walkAngle, .int m_walkBranch, .int m_walkMany, .ref 1018, .ref 1019, .int m_lined, .ref 1020, .int m_actMany], ia 64 (ax_tab 0), ia 64 (ax_tab 1), z3, ia 16 q4, z5, z6, z7, z8, z9, z10, z11, z12, z13, z14, z15, z16, z17, z18, z19, z20])) ∨ ((0 ≤ a1 ∧ a1 < m_linkMany) ∧ (0 ≤ a2 ∧ a2 < 40) ∧ (¬ (Mb q4 a1 (Mk_far q4 a1) a2 (Mn_next a2))) ∧ (Mb q4 a1 (Mk_near q4 a1) a2 (Mn_next a2)) ∧ r = some (.int 1) ∧ w' = (wc, [ob 9 [.int 0, .int 0, .int m_fault, .int (-1), .ref 1001, .ref 1002, .int 40, .ref 1003, .int m_taped, .int m_linkMany, .int m_tracerMany, .int m_pointMany, .int m_pairMany, .ref 1004, .ref 1005, .ref 1006, .ref 1007, .int m_readLinks, .int m_readTracers, .int m_readPoints, .int m_readPairs, .ref 1008, .ref 1009, .ref 1010, .ref 1011, .int m_textLong, .int m_at, .int m_spot, .int m_token, .int m_whole, .int m_readFault, .int m_readPlace, .int m_value, .long (Ml_n (Mn_next a2)), .long (Ml_c (Mn_next a2)), .long (Ml_d (Mn_next a2)), .long (Ml_s q4 a1 (Mn_next a2)), .long (Ml_e q4 a1 (Mn_next a2)), .long (Ml_k q4 a1 (Mn_next a2)), .long (Ml_x q4 a1 (Mn_next a2)), .long (Ml_y q4 a1 (Mn_next a2)), .long (Int32.toInt64 (Bg q4 a1)), .long (Int32.toInt64 (Ba q4 a1)), .ref 1012, .ref 1013, .ref 1014, .int m_curveMany, .ref 1015, .int m_cornerMany, .int m_straightAt, .ref 1016, .long m_fitUp, .long m_fitDown, .long m_worstUp, .long m_worstDown, .ref 1017, .int m_walkLink, .int m_walkAngle, .int m_walkBranch, .int m_walkMany, .ref 1018, .ref 1019, .int m_lined, .ref 1020, .int m_actMany], ia 64 (ax_tab 0), ia 64 (ax_tab 1), z3, ia 16 q4, z5, z6, z7, z8, z9, z10, z11, z12, z13, z14, z15, z16, z17, z18, z19, z20])) ∨ ((0 ≤ a1 ∧ a1 < m_linkMany) ∧ (0 ≤ a2 ∧ a2 < 40) ∧ (¬ (Mb q4 a1 (Mk_far q4 a1) a2 (Mn_next a2))) ∧ (¬ (Mb q4 a1 (Mk_near q4 a1) a2 (Mn_next a2))) ∧ r = some (.int 0) ∧ w' = (wc, [ob 9 [.int 0, .int 0, .int m_fault, .int (-1), .ref 1001, .ref 1002, .int 40, .ref 1003, .int m_taped, .int m_linkMany, .int m_tracerMany, .int m_pointMany, .int m_pairMany, .ref 1004, .ref 1005, .ref 1006, .ref 1007, .int m_readLinks, .int m_readTracers, .int m_readPoints, .int m_readPairs, .ref 1008, .ref 1009, .ref 1010, .ref 1011, .int m_textLong, .int m_at, .int m_spot, .int m_token, .int m_whole, .int m_readFault, .int m_readPlace, .int m_value, .long (Ml_n (Mn_next a2)), .long (Ml_c (Mn_next a2)), .long (Ml_d (Mn_next a2)), .long (Ml_s q4 a1 (Mn_next a2)), .long (Ml_e q4 a1 (Mn_next a2)), .long (Ml_k q4 a1 (Mn_next a2)), .long (Ml_x q4 a1 (Mn_next a2)), .long (Ml_y q4 a1 (Mn_next a2)), .long (Int32.toInt64 (Bg q4 a1)), .long (Int32.toInt64 (Ba q4 a1)), .ref 1012, .ref 1013, .ref 1014, .int m_curveMany, .ref 1015, .int m_cornerMany, .int m_straightAt, .ref 1016, .long m_fitUp, .long m_fitDown, .long m_worstUp, .long m_worstDown, .ref 1017, .int m_walkLink, .int m_walkAngle, .int m_walkBranch, .int m_walkMany, .ref 1018, .ref 1019, .int m_lined, .ref 1020, .int m_actMany], ia 64 (ax_tab 0), ia 64 (ax_tab 1), z3, ia 16 q4, z5, z6, z7, z8, z9, z10, z11, z12, z13, z14, z15, z16, z17, z18, z19, z20])) ∨ ((0 ≤ a1 ∧ a1 < m_linkMany) ∧ (¬ (0 ≤ a2 ∧ a2 < 40)) ∧ r = some (.int (-1)) ∧ w' = (wc, [ob 9 [.int 0, .int 1, .int m_fault, .int (-1), .ref 1001, .ref 1002, .int 40, .ref 1003, .int m_taped, .int m_linkMany, .int m_tracerMany, .int m_pointMany, .int m_pairMany, .ref 1004, .ref 1005, .ref 1006, .ref 1007, .int m_readLinks, .int m_readTracers, .int m_readPoints, .int m_readPairs, .ref 1008, .ref 1009, .ref 1010, .ref 1011, .int m_textLong, .int m_at, .int m_spot, .int m_token, .int m_whole, .int m_readFault, .int m_readPlace, .int m_value, .long m_n, .long m_c, .long m_d, .long m_s, .long m_e, .long m_k, .long m_x, .long m_y, .long m_g, .long m_a, .ref 1012, .ref 1013, .ref 1014, .int m_curveMany, .ref 1015, .int m_cornerMany, .int m_straightAt, .ref 1016, .long m_fitUp, .long m_fitDown, .long m_worstUp, .long m_worstDown, .ref 1017, .int m_walkLink, .int m_walkAngle, .int m_walkBranch, .int m_walkMany, .ref 1018, .ref 1019, .int m_lined, .ref 1020, .int m_actMany], ia 64 (ax_tab 0), ia 64 (ax_tab 1), z3, ia 16 q4, z5, z6, z7, z8, z9, z10, z11, z12, z13, z14, z15, z16, z17, z18, z19, z20])) ∨ ((¬ (0 ≤ a1 ∧ a1 < m_linkMany)) ∧ r = some (.int (-1)) ∧ w' = (wc, [ob 9 [.int 0, .int 1, .int m_fault, .int (-1), .ref 1001, .ref 1002, .int 40, .ref 1003, .int m_taped, .int m_linkMany, .int m_tracerMany, .int m_pointMany, .int m_pairMany, .ref 1004, .ref 1005, .ref 1006, .ref 1007, .int m_readLinks, .int m_readTracers, .int m_readPoints, .int m_readPairs, .ref 1008, .ref 1009, .ref 1010, .ref 1011, .int m_textLong, .int m_at, .int m_spot, .int m_token, .int m_whole, .int m_readFault, .int m_readPlace, .int m_value, .long m_n, .long m_c, .long m_d, .long m_s, .long m_e, .long m_k, .long m_x, .long m_y, .long m_g, .long m_a, .ref 1012, .ref 1013, .ref 1014, .int m_curveMany, .ref 1015, .int m_cornerMany, .int m_straightAt, .ref 1016, .long m_fitUp, .long m_fitDown, .long m_worstUp, .long m_worstDown, .ref 1017, .int m_walkLink, .int m_walkAngle, .int m_walkBranch, .int m_walkMany, .ref 1018, .ref 1019, .int m_lined, .ref 1020, .int m_actMany], ia 64 (ax_tab 0), ia 64 (ax_tab 1), z3, ia 16 q4, z5, z6, z7, z8, z9, z10, z11, z12, z13, z14, z15, z16, z17, z18, z19, z20]))) := by
  refine ct_of ⟨by decide, rfl⟩ (Nat.le_of_ble_eq_true rfl) ?_
  refine ab_aload_n dX11_between_0 rfl ?_
  refine ab_callV (As := []) (rest := []) dX11_between_1 mv_X11_anew ml_X11_104 ⟨by decide, by decide, rfl, rfl, rfl⟩ (by decide) rfl rfl (Nat.le_of_ble_eq_true rfl) rfl c_X11_anew ?_
  rintro r w' ⟨rfl, rfl⟩
  refine ab_aload_n dX11_between_4 rfl ?_
  refine ab_iload_n dX11_between_5 rfl ?_
  refine ab_callV (As := [.int a1]) (rest := []) dX11_between_6 mv_X11_isLink ml_X11_265 ⟨by decide, by decide, rfl, rfl, rfl⟩ (by decide) rfl rfl (Nat.le_of_ble_eq_true rfl) rfl (c_X11_isLink h_l) ?_
  rintro r w' (⟨c_1, rfl, rfl⟩ | ⟨c_2, rfl, rfl⟩)
  · refine ab_ifeq 20 dX11_between_9 (by decide) (fun h_3 => absurd h_3 (by decide)) (fun h_3 => ?_)
    refine ab_aload_n dX11_between_12 rfl ?_
    refine ab_iload_n dX11_between_13 rfl ?_
    refine ab_callV (As := [.int a2]) (rest := []) dX11_between_14 mv_X11_isAngle ml_X11_334 ⟨by decide, by decide, rfl, rfl, rfl⟩ (by decide) rfl rfl (Nat.le_of_ble_eq_true rfl) rfl c_X11_isAngle ?_
    rintro r w' (⟨c_4, rfl, rfl⟩ | ⟨c_5, rfl, rfl⟩)
    · refine ab_ifne 26 dX11_between_17 (by decide) (fun h_6 => ?_) (fun h_6 => absurd h_6 (by decide))
      refine ab_aload_n dX11_between_26 rfl ?_
      refine ab_iload_n dX11_between_27 rfl ?_
      refine ab_iconst (v := 1) dX11_between_28 (by decide) ?_
      refine ab_callV (As := [.int a2, .int 1]) (rest := []) dX11_between_29 mv_X11_nextAngle ml_X11_337 ⟨by decide, by decide, rfl, rfl, rfl⟩ (by decide) rfl rfl (Nat.le_of_ble_eq_true rfl) rfl c_X11_nextAngle_p ?_
      rintro r w' ⟨rfl, rfl⟩
      refine ab_istore_n (la' := [(3, .int (Mn_next a2)), (0, .ref 1000), (1, .int a1), (2, .int a2)]) dX11_between_32 (by decide) rfl ?_
      refine ab_aload_n dX11_between_33 rfl ?_
      refine ab_iload_n dX11_between_34 rfl ?_
      refine ab_aload_n dX11_between_35 rfl ?_
      refine ab_iload_n dX11_between_36 rfl ?_
      refine ab_callV (As := [.int a1]) (rest := [.int a1, .ref 1000]) dX11_between_37 mv_X11_farCosine ml_X11_280 ⟨by decide, by decide, rfl, rfl, rfl⟩ (by decide) rfl rfl (Nat.le_of_ble_eq_true rfl) rfl (c_X11_farCosine c_1 h_l) ?_
      rintro r w' ⟨rfl, rfl⟩
      refine ab_iload_n dX11_between_40 rfl ?_
      refine ab_iload_n dX11_between_41 rfl ?_
      refine ab_callV (As := [.int a1, .int (Mk_far q4 a1), .int a2, .int (Mn_next a2)]) (rest := []) dX11_between_42 mv_X11_isBetween ml_X11_340 ⟨by decide, by decide, rfl, rfl, rfl⟩ (by decide) rfl rfl (Nat.le_of_ble_eq_true rfl) rfl (c_X11_isBetween_b c_1 h_l c_4 (mn_next_in c_4)) ?_
      rintro r w' (⟨c_7, rfl, rfl⟩ | ⟨c_8, rfl, rfl⟩)
      · refine ab_ifeq 52 dX11_between_45 (by decide) (fun h_9 => absurd h_9 (by decide)) (fun h_9 => ?_)
        refine ab_iconst (v := 1) dX11_between_48 (by decide) ?_
        refine ab_goto 53 dX11_between_49 (by decide) ?_
        refine ab_aload_n dX11_between_53 rfl ?_
        refine ab_iload_n dX11_between_54 rfl ?_
        refine ab_aload_n dX11_between_55 rfl ?_
        refine ab_iload_n dX11_between_56 rfl ?_
        refine ab_callV (As := [.int a1]) (rest := [.int a1, .ref 1000, .int 1]) dX11_between_57 mv_X11_nearCosine ml_X11_286 ⟨by decide, by decide, rfl, rfl, rfl⟩ (by decide) rfl rfl (Nat.le_of_ble_eq_true rfl) rfl (c_X11_nearCosine c_1 h_l) ?_
        rintro r w' ⟨rfl, rfl⟩
        refine ab_iload_n dX11_between_60 rfl ?_
        refine ab_iload_n dX11_between_61 rfl ?_
        refine ab_callV (As := [.int a1, .int (Mk_near q4 a1), .int a2, .int (Mn_next a2)]) (rest := [.int 1]) dX11_between_62 mv_X11_isBetween ml_X11_340 ⟨by decide, by decide, rfl, rfl, rfl⟩ (by decide) rfl rfl (Nat.le_of_ble_eq_true rfl) rfl (c_X11_isBetween_b c_1 h_l c_4 (mn_next_in c_4)) ?_
        rintro r w' (⟨c_10, rfl, rfl⟩ | ⟨c_11, rfl, rfl⟩)
        · refine ab_ifeq 72 dX11_between_65 (by decide) (fun h_12 => absurd h_12 (by decide)) (fun h_12 => ?_)
          refine ab_iconst (v := 1) dX11_between_68 (by decide) ?_
          refine ab_goto 73 dX11_between_69 (by decide) ?_
          refine ab_iadd dX11_between_73 ?_
          refine ab_topi (v := 2) (by decide) ?_
          exact ab_iret dX11_between_74 rfl (by decide) (Or.inl ⟨c_1, c_4, c_7, c_10, rfl, rfl⟩)
        · refine ab_ifeq 72 dX11_between_65 (by decide) (fun h_13 => ?_) (fun h_13 => absurd (by decide) h_13)
          refine ab_iconst (v := 0) dX11_between_72 (by decide) ?_
          refine ab_iadd dX11_between_73 ?_
          refine ab_topi (v := 1) (by decide) ?_
          exact ab_iret dX11_between_74 rfl (by decide) (Or.inr (Or.inl ⟨c_1, c_4, c_7, c_11, rfl, rfl⟩))
      · refine ab_ifeq 52 dX11_between_45 (by decide) (fun h_14 => ?_) (fun h_14 => absurd (by decide) h_14)
        refine ab_iconst (v := 0) dX11_between_52 (by decide) ?_
        refine ab_aload_n dX11_between_53 rfl ?_
        refine ab_iload_n dX11_between_54 rfl ?_
        refine ab_aload_n dX11_between_55 rfl ?_
        refine ab_iload_n dX11_between_56 rfl ?_
        refine ab_callV (As := [.int a1]) (rest := [.int a1, .ref 1000, .int 0]) dX11_between_57 mv_X11_nearCosine ml_X11_286 ⟨by decide, by decide, rfl, rfl, rfl⟩ (by decide) rfl rfl (Nat.le_of_ble_eq_true rfl) rfl (c_X11_nearCosine c_1 h_l) ?_
        rintro r w' ⟨rfl, rfl⟩
        refine ab_iload_n dX11_between_60 rfl ?_
        refine ab_iload_n dX11_between_61 rfl ?_
        refine ab_callV (As := [.int a1, .int (Mk_near q4 a1), .int a2, .int (Mn_next a2)]) (rest := [.int 0]) dX11_between_62 mv_X11_isBetween ml_X11_340 ⟨by decide, by decide, rfl, rfl, rfl⟩ (by decide) rfl rfl (Nat.le_of_ble_eq_true rfl) rfl (c_X11_isBetween_b c_1 h_l c_4 (mn_next_in c_4)) ?_
        rintro r w' (⟨c_15, rfl, rfl⟩ | ⟨c_16, rfl, rfl⟩)
        · refine ab_ifeq 72 dX11_between_65 (by decide) (fun h_17 => absurd h_17 (by decide)) (fun h_17 => ?_)
          refine ab_iconst (v := 1) dX11_between_68 (by decide) ?_
          refine ab_goto 73 dX11_between_69 (by decide) ?_
          refine ab_iadd dX11_between_73 ?_
          refine ab_topi (v := 1) (by decide) ?_
          exact ab_iret dX11_between_74 rfl (by decide) (Or.inr (Or.inr (Or.inl ⟨c_1, c_4, c_8, c_15, rfl, rfl⟩)))
        · refine ab_ifeq 72 dX11_between_65 (by decide) (fun h_18 => ?_) (fun h_18 => absurd (by decide) h_18)
          refine ab_iconst (v := 0) dX11_between_72 (by decide) ?_
          refine ab_iadd dX11_between_73 ?_
          refine ab_topi (v := 0) (by decide) ?_
          exact ab_iret dX11_between_74 rfl (by decide) (Or.inr (Or.inr (Or.inr (Or.inl ⟨c_1, c_4, c_8, c_16, rfl, rfl⟩))))
    · refine ab_ifne 26 dX11_between_17 (by decide) (fun h_19 => absurd (by decide) h_19) (fun h_19 => ?_)
      refine ab_aload_n dX11_between_20 rfl ?_
      refine ab_iconst (v := 1) dX11_between_21 (by decide) ?_
      refine ab_callV (As := [.int 1]) (rest := []) dX11_between_22 mv_X11_no ml_X11_115 ⟨by decide, by decide, rfl, rfl, rfl⟩ (by decide) rfl rfl (Nat.le_of_ble_eq_true rfl) rfl c_X11_no ?_
      rintro r w' ⟨rfl, rfl⟩
      exact ab_iret dX11_between_25 rfl (by decide) (Or.inr (Or.inr (Or.inr (Or.inr (Or.inl ⟨c_1, c_5, rfl, rfl⟩)))))
  · refine ab_ifeq 20 dX11_between_9 (by decide) (fun h_20 => ?_) (fun h_20 => absurd (by decide) h_20)
    refine ab_aload_n dX11_between_20 rfl ?_
    refine ab_iconst (v := 1) dX11_between_21 (by decide) ?_
    refine ab_callV (As := [.int 1]) (rest := []) dX11_between_22 mv_X11_no ml_X11_115 ⟨by decide, by decide, rfl, rfl, rfl⟩ (by decide) rfl rfl (Nat.le_of_ble_eq_true rfl) rfl c_X11_no ?_
    rintro r w' ⟨rfl, rfl⟩
    exact ab_iret dX11_between_25 rfl (by decide) (Or.inr (Or.inr (Or.inr (Or.inr (Or.inr (⟨c_2, rfl, rfl⟩))))))
