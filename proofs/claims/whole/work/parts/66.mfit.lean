theorem pos_ne {x : Int32} (h : 0 ≤ x) (hn : ¬ x = 0) : 0 < x := Int32.lt_of_le_of_ne h (fun z => hn z.symm)
theorem ge3 {x : Int32} (h : 3 ≤ x) (i : Int32) (hi : 0 ≤ i ∧ i < 3) : 0 ≤ i ∧ i < x := ⟨hi.1, Int32.lt_of_lt_of_le hi.2 h⟩
theorem c_X11_fits {wc : List ax_E} {m_thrown m_trouble m_fault m_where m_taped m_linkMany m_tracerMany m_pointMany m_readLinks m_readTracers m_readPoints m_readPairs m_textLong m_at m_spot m_token m_whole m_readFault m_readPlace m_value m_curveMany m_cornerMany m_straightAt m_walkLink m_walkAngle m_walkBranch m_walkMany m_lined m_actMany : Int32} {m_n m_c m_d m_s m_e m_k m_x m_y m_g m_a m_fitUp m_fitDown m_worstUp m_worstDown : Int64} {z1 z2 z3 z5 z6 z8 z9 z10 z11 z12 z13 z14 z15 z17 z18 z19 z20 : ax_E} {q4 q7 q16 : Nat → Int32} {nr : Nat} (h_l0 : 0 ≤ (0 : Int32) ∧ 0 < m_linkMany) (h_l : 0 ≤ m_linkMany ∧ m_linkMany ≤ nI 4) (h_nr : nr ≤ 4) : Ct M_X11_fits [.ref 1000] (wc, [ob 9 [.int m_thrown, .int m_trouble, .int m_fault, .int m_where, .ref 1001, .ref 1002, .int 40, .ref 1003, .int m_taped, .int m_linkMany, .int m_tracerMany, .int m_pointMany, .int (nI nr), .ref 1004, .ref 1005, .ref 1006, .ref 1007, .int m_readLinks, .int m_readTracers, .int m_readPoints, .int m_readPairs, .ref 1008, .ref 1009, .ref 1010, .ref 1011, .int m_textLong, .int m_at, .int m_spot, .int m_token, .int m_whole, .int m_readFault, .int m_readPlace, .int m_value, .long m_n, .long m_c, .long m_d, .long m_s, .long m_e, .long m_k, .long m_x, .long m_y, .long m_g, .long m_a, .ref 1012, .ref 1013, .ref 1014, .int m_curveMany, .ref 1015, .int m_cornerMany, .int m_straightAt, .ref 1016, .long m_fitUp, .long m_fitDown, .long m_worstUp, .long m_worstDown, .ref 1017, .int m_walkLink, .int m_walkAngle, .int m_walkBranch, .int m_walkMany, .ref 1018, .ref 1019, .int m_lined, .ref 1020, .int m_actMany], z1, z2, z3, ia 16 q4, z5, z6, ia 16 q7, z8, z9, z10, z11, z12, z13, z14, z15, ia 3 q16, z17, z18, z19, z20]) (fun r w' => ∃ wu_1 : Int64, ∃ wd_2 : Int64, r = none ∧ w' = (wc, [ob 9 [.int m_thrown, .int m_trouble, .int m_fault, .int m_where, .ref 1001, .ref 1002, .int 40, .ref 1003, .int m_taped, .int m_linkMany, .int m_tracerMany, .int m_pointMany, .int (nI nr), .ref 1004, .ref 1005, .ref 1006, .ref 1007, .int m_readLinks, .int m_readTracers, .int m_readPoints, .int m_readPairs, .ref 1008, .ref 1009, .ref 1010, .ref 1011, .int m_textLong, .int m_at, .int m_spot, .int m_token, .int m_whole, .int m_readFault, .int m_readPlace, .int m_value, .long m_n, .long m_c, .long m_d, .long m_s, .long m_e, .long m_k, .long m_x, .long m_y, .long m_g, .long m_a, .ref 1012, .ref 1013, .ref 1014, .int m_curveMany, .ref 1015, .int m_cornerMany, .int m_straightAt, .ref 1016, .long ((itr (fun k s => lp_mfi_st q4 q7 nr k s.1 s.2.1 s.2.2.1 s.2.2.2) 5832 0 (1, m_fitUp, m_fitDown, q16)).2.1), .long ((itr (fun k s => lp_mfi_st q4 q7 nr k s.1 s.2.1 s.2.2.1 s.2.2.2) 5832 0 (1, m_fitUp, m_fitDown, q16)).2.2.1), .long wu_1, .long wd_2, .ref 1017, .int m_walkLink, .int m_walkAngle, .int m_walkBranch, .int m_walkMany, .ref 1018, .ref 1019, .int m_lined, .ref 1020, .int m_actMany], z1, z2, z3, ia 16 q4, z5, z6, ia 16 q7, z8, z9, z10, z11, z12, z13, z14, z15, ia 3 ((itr (fun k s => lp_mfi_st q4 q7 nr k s.1 s.2.1 s.2.2.1 s.2.2.2) 5832 0 (1, m_fitUp, m_fitDown, q16)).2.2.2), z17, z18, z19, z20])) := by
  refine ct_of ⟨by decide, rfl⟩ (Nat.le_of_ble_eq_true rfl) ?_
  refine ab_iconst (v := 1) dX11_fits_0 (by decide) ?_
  refine ab_istore_n (la' := [(1, .int 1), (0, .ref 1000)]) dX11_fits_1 (by decide) rfl ?_
  refine ab_iconst (v := 0) dX11_fits_2 (by decide) ?_
  refine ab_istore_n (la' := [(2, .int 0), (1, .int 1), (0, .ref 1000)]) dX11_fits_3 (by decide) rfl ?_
  refine ab_pick [0, 1, 2] rfl ?_
  refine lp_mfi (B := 5832) rfl h_l0 h_l h_nr 5832 0 1 m_fitUp m_fitDown q16 m_worstUp m_worstDown (by omega) ?_
  intro wu_1 wd_2
  exact ab_vret dX11_fits_120 rfl (by decide) (⟨wu_1, wd_2, rfl, rfl⟩)
/-- what fits best, from what lay there -/
def Fi (q4 q7 : Nat → Int32) (nr : Nat) (m_fitUp m_fitDown : Int64) (q16 : Nat → Int32) : Int32 × Int64 × Int64 × (Nat → Int32) := (itr (fun k s => lp_mfi_st q4 q7 nr k s.1 s.2.1 s.2.2.1 s.2.2.2) 5832 0 (1, m_fitUp, m_fitDown, q16))
theorem c_X11_fits_d {wc : List ax_E} {m_thrown m_trouble m_fault m_where m_taped m_linkMany m_tracerMany m_pointMany m_readLinks m_readTracers m_readPoints m_readPairs m_textLong m_at m_spot m_token m_whole m_readFault m_readPlace m_value m_curveMany m_cornerMany m_straightAt m_walkLink m_walkAngle m_walkBranch m_walkMany m_lined m_actMany : Int32} {m_n m_c m_d m_s m_e m_k m_x m_y m_g m_a m_fitUp m_fitDown m_worstUp m_worstDown : Int64} {z1 z2 z3 z5 z6 z8 z9 z10 z11 z12 z13 z14 z15 z17 z18 z19 z20 : ax_E} {q4 q7 q16 : Nat → Int32} {nr : Nat} (h_l0 : 0 ≤ (0 : Int32) ∧ 0 < m_linkMany) (h_l : 0 ≤ m_linkMany ∧ m_linkMany ≤ nI 4) (h_nr : nr ≤ 4) : Ct M_X11_fits [.ref 1000] (wc, [ob 9 [.int m_thrown, .int m_trouble, .int m_fault, .int m_where, .ref 1001, .ref 1002, .int 40, .ref 1003, .int m_taped, .int m_linkMany, .int m_tracerMany, .int m_pointMany, .int (nI nr), .ref 1004, .ref 1005, .ref 1006, .ref 1007, .int m_readLinks, .int m_readTracers, .int m_readPoints, .int m_readPairs, .ref 1008, .ref 1009, .ref 1010, .ref 1011, .int m_textLong, .int m_at, .int m_spot, .int m_token, .int m_whole, .int m_readFault, .int m_readPlace, .int m_value, .long m_n, .long m_c, .long m_d, .long m_s, .long m_e, .long m_k, .long m_x, .long m_y, .long m_g, .long m_a, .ref 1012, .ref 1013, .ref 1014, .int m_curveMany, .ref 1015, .int m_cornerMany, .int m_straightAt, .ref 1016, .long m_fitUp, .long m_fitDown, .long m_worstUp, .long m_worstDown, .ref 1017, .int m_walkLink, .int m_walkAngle, .int m_walkBranch, .int m_walkMany, .ref 1018, .ref 1019, .int m_lined, .ref 1020, .int m_actMany], z1, z2, z3, ia 16 q4, z5, z6, ia 16 q7, z8, z9, z10, z11, z12, z13, z14, z15, ia 3 q16, z17, z18, z19, z20]) (fun r w' => ∃ wu_1 : Int64, ∃ wd_2 : Int64, r = none ∧ w' = (wc, [ob 9 [.int m_thrown, .int m_trouble, .int m_fault, .int m_where, .ref 1001, .ref 1002, .int 40, .ref 1003, .int m_taped, .int m_linkMany, .int m_tracerMany, .int m_pointMany, .int (nI nr), .ref 1004, .ref 1005, .ref 1006, .ref 1007, .int m_readLinks, .int m_readTracers, .int m_readPoints, .int m_readPairs, .ref 1008, .ref 1009, .ref 1010, .ref 1011, .int m_textLong, .int m_at, .int m_spot, .int m_token, .int m_whole, .int m_readFault, .int m_readPlace, .int m_value, .long m_n, .long m_c, .long m_d, .long m_s, .long m_e, .long m_k, .long m_x, .long m_y, .long m_g, .long m_a, .ref 1012, .ref 1013, .ref 1014, .int m_curveMany, .ref 1015, .int m_cornerMany, .int m_straightAt, .ref 1016, .long ((Fi q4 q7 nr m_fitUp m_fitDown q16).2.1), .long ((Fi q4 q7 nr m_fitUp m_fitDown q16).2.2.1), .long wu_1, .long wd_2, .ref 1017, .int m_walkLink, .int m_walkAngle, .int m_walkBranch, .int m_walkMany, .ref 1018, .ref 1019, .int m_lined, .ref 1020, .int m_actMany], z1, z2, z3, ia 16 q4, z5, z6, ia 16 q7, z8, z9, z10, z11, z12, z13, z14, z15, ia 3 ((Fi q4 q7 nr m_fitUp m_fitDown q16).2.2.2), z17, z18, z19, z20])) := c_X11_fits h_l0 h_l h_nr
theorem c_X11_fit {wc : List ax_E} {m_thrown m_trouble m_fault m_where m_taped m_linkMany m_tracerMany m_pointMany m_readLinks m_readTracers m_readPoints m_readPairs m_textLong m_at m_spot m_token m_whole m_readFault m_readPlace m_value m_curveMany m_cornerMany m_straightAt m_walkLink m_walkAngle m_walkBranch m_walkMany m_lined m_actMany a1 : Int32} {m_n m_c m_d m_s m_e m_k m_x m_y m_g m_a m_fitUp m_fitDown m_worstUp m_worstDown : Int64} {z1 z2 z3 z5 z6 z8 z9 z10 z11 z12 z13 z14 z15 z17 z18 z19 z20 : ax_E} {q4 q7 q16 : Nat → Int32} {nr : Nat} (h_l : 0 ≤ m_linkMany ∧ m_linkMany ≤ nI 4) (h_nr : nr ≤ 4) : Ct M_X11_fit [.ref 1000, .int a1] (wc, [ob 9 [.int m_thrown, .int m_trouble, .int m_fault, .int m_where, .ref 1001, .ref 1002, .int 40, .ref 1003, .int m_taped, .int m_linkMany, .int m_tracerMany, .int m_pointMany, .int (nI nr), .ref 1004, .ref 1005, .ref 1006, .ref 1007, .int m_readLinks, .int m_readTracers, .int m_readPoints, .int m_readPairs, .ref 1008, .ref 1009, .ref 1010, .ref 1011, .int m_textLong, .int m_at, .int m_spot, .int m_token, .int m_whole, .int m_readFault, .int m_readPlace, .int m_value, .long m_n, .long m_c, .long m_d, .long m_s, .long m_e, .long m_k, .long m_x, .long m_y, .long m_g, .long m_a, .ref 1012, .ref 1013, .ref 1014, .int m_curveMany, .ref 1015, .int m_cornerMany, .int m_straightAt, .ref 1016, .long m_fitUp, .long m_fitDown, .long m_worstUp, .long m_worstDown, .ref 1017, .int m_walkLink, .int m_walkAngle, .int m_walkBranch, .int m_walkMany, .ref 1018, .ref 1019, .int m_lined, .ref 1020, .int m_actMany], z1, z2, z3, ia 16 q4, z5, z6, ia 16 q7, z8, z9, z10, z11, z12, z13, z14, z15, ia 3 q16, z17, z18, z19, z20]) (fun r w' => ((m_linkMany = 0) ∧ r = some (.int (-1)) ∧ w' = (wc, [ob 9 [.int 0, .int 1, .int m_fault, .int (-1), .ref 1001, .ref 1002, .int 40, .ref 1003, .int m_taped, .int m_linkMany, .int m_tracerMany, .int m_pointMany, .int (nI nr), .ref 1004, .ref 1005, .ref 1006, .ref 1007, .int m_readLinks, .int m_readTracers, .int m_readPoints, .int m_readPairs, .ref 1008, .ref 1009, .ref 1010, .ref 1011, .int m_textLong, .int m_at, .int m_spot, .int m_token, .int m_whole, .int m_readFault, .int m_readPlace, .int m_value, .long m_n, .long m_c, .long m_d, .long m_s, .long m_e, .long m_k, .long m_x, .long m_y, .long m_g, .long m_a, .ref 1012, .ref 1013, .ref 1014, .int m_curveMany, .ref 1015, .int m_cornerMany, .int m_straightAt, .ref 1016, .long m_fitUp, .long m_fitDown, .long m_worstUp, .long m_worstDown, .ref 1017, .int m_walkLink, .int m_walkAngle, .int m_walkBranch, .int m_walkMany, .ref 1018, .ref 1019, .int m_lined, .ref 1020, .int m_actMany], z1, z2, z3, ia 16 q4, z5, z6, ia 16 q7, z8, z9, z10, z11, z12, z13, z14, z15, ia 3 q16, z17, z18, z19, z20])) ∨ (∃ wu_1_6 : Int64, ∃ wd_2_7 : Int64, (¬ m_linkMany = 0) ∧ (0 ≤ a1 ∧ a1 ≤ 2) ∧ (¬ (nI nr) = 0) ∧ r = some (.int (((Fi q4 q7 nr m_fitUp m_fitDown q16).2.2.2) (Int32.toNatClampNeg a1))) ∧ w' = (wc, [ob 9 [.int 0, .int 0, .int m_fault, .int (-1), .ref 1001, .ref 1002, .int 40, .ref 1003, .int m_taped, .int m_linkMany, .int m_tracerMany, .int m_pointMany, .int (nI nr), .ref 1004, .ref 1005, .ref 1006, .ref 1007, .int m_readLinks, .int m_readTracers, .int m_readPoints, .int m_readPairs, .ref 1008, .ref 1009, .ref 1010, .ref 1011, .int m_textLong, .int m_at, .int m_spot, .int m_token, .int m_whole, .int m_readFault, .int m_readPlace, .int m_value, .long m_n, .long m_c, .long m_d, .long m_s, .long m_e, .long m_k, .long m_x, .long m_y, .long m_g, .long m_a, .ref 1012, .ref 1013, .ref 1014, .int m_curveMany, .ref 1015, .int m_cornerMany, .int m_straightAt, .ref 1016, .long ((Fi q4 q7 nr m_fitUp m_fitDown q16).2.1), .long ((Fi q4 q7 nr m_fitUp m_fitDown q16).2.2.1), .long wu_1_6, .long wd_2_7, .ref 1017, .int m_walkLink, .int m_walkAngle, .int m_walkBranch, .int m_walkMany, .ref 1018, .ref 1019, .int m_lined, .ref 1020, .int m_actMany], z1, z2, z3, ia 16 q4, z5, z6, ia 16 q7, z8, z9, z10, z11, z12, z13, z14, z15, ia 3 ((Fi q4 q7 nr m_fitUp m_fitDown q16).2.2.2), z17, z18, z19, z20])) ∨ ((¬ m_linkMany = 0) ∧ (0 ≤ a1 ∧ a1 ≤ 2) ∧ ((nI nr) = 0) ∧ r = some (.int (-1)) ∧ w' = (wc, [ob 9 [.int 0, .int 5, .int m_fault, .int (-1), .ref 1001, .ref 1002, .int 40, .ref 1003, .int m_taped, .int m_linkMany, .int m_tracerMany, .int m_pointMany, .int (nI nr), .ref 1004, .ref 1005, .ref 1006, .ref 1007, .int m_readLinks, .int m_readTracers, .int m_readPoints, .int m_readPairs, .ref 1008, .ref 1009, .ref 1010, .ref 1011, .int m_textLong, .int m_at, .int m_spot, .int m_token, .int m_whole, .int m_readFault, .int m_readPlace, .int m_value, .long m_n, .long m_c, .long m_d, .long m_s, .long m_e, .long m_k, .long m_x, .long m_y, .long m_g, .long m_a, .ref 1012, .ref 1013, .ref 1014, .int m_curveMany, .ref 1015, .int m_cornerMany, .int m_straightAt, .ref 1016, .long m_fitUp, .long m_fitDown, .long m_worstUp, .long m_worstDown, .ref 1017, .int m_walkLink, .int m_walkAngle, .int m_walkBranch, .int m_walkMany, .ref 1018, .ref 1019, .int m_lined, .ref 1020, .int m_actMany], z1, z2, z3, ia 16 q4, z5, z6, ia 16 q7, z8, z9, z10, z11, z12, z13, z14, z15, ia 3 q16, z17, z18, z19, z20])) ∨ ((¬ m_linkMany = 0) ∧ (¬ (0 ≤ a1 ∧ a1 ≤ 2)) ∧ r = some (.int (-1)) ∧ w' = (wc, [ob 9 [.int 0, .int 1, .int m_fault, .int (-1), .ref 1001, .ref 1002, .int 40, .ref 1003, .int m_taped, .int m_linkMany, .int m_tracerMany, .int m_pointMany, .int (nI nr), .ref 1004, .ref 1005, .ref 1006, .ref 1007, .int m_readLinks, .int m_readTracers, .int m_readPoints, .int m_readPairs, .ref 1008, .ref 1009, .ref 1010, .ref 1011, .int m_textLong, .int m_at, .int m_spot, .int m_token, .int m_whole, .int m_readFault, .int m_readPlace, .int m_value, .long m_n, .long m_c, .long m_d, .long m_s, .long m_e, .long m_k, .long m_x, .long m_y, .long m_g, .long m_a, .ref 1012, .ref 1013, .ref 1014, .int m_curveMany, .ref 1015, .int m_cornerMany, .int m_straightAt, .ref 1016, .long m_fitUp, .long m_fitDown, .long m_worstUp, .long m_worstDown, .ref 1017, .int m_walkLink, .int m_walkAngle, .int m_walkBranch, .int m_walkMany, .ref 1018, .ref 1019, .int m_lined, .ref 1020, .int m_actMany], z1, z2, z3, ia 16 q4, z5, z6, ia 16 q7, z8, z9, z10, z11, z12, z13, z14, z15, ia 3 q16, z17, z18, z19, z20]))) := by
  refine ct_of ⟨by decide, rfl⟩ (Nat.le_of_ble_eq_true rfl) ?_
  refine ab_aload_n dX11_fit_0 rfl ?_
  refine ab_callV (As := []) (rest := []) dX11_fit_1 mv_X11_anew ml_X11_104 ⟨by decide, by decide, rfl, rfl, rfl⟩ (by decide) rfl rfl (Nat.le_of_ble_eq_true rfl) rfl c_X11_anew ?_
  rintro r w' ⟨rfl, rfl⟩
  refine ab_aload_n dX11_fit_4 rfl ?_
  refine ab_getf dX11_fit_5 fl_X11_233 rfl rfl ?_
  refine ab_ifeq 20 dX11_fit_8 (by decide) (fun h_1 => ?_) (fun h_1 => ?_)
  · refine ab_aload_n dX11_fit_20 rfl ?_
    refine ab_iconst (v := 1) dX11_fit_21 (by decide) ?_
    refine ab_callV (As := [.int 1]) (rest := []) dX11_fit_22 mv_X11_no ml_X11_115 ⟨by decide, by decide, rfl, rfl, rfl⟩ (by decide) rfl rfl (Nat.le_of_ble_eq_true rfl) rfl c_X11_no ?_
    rintro r w' ⟨rfl, rfl⟩
    exact ab_iret dX11_fit_25 rfl (by decide) (Or.inl ⟨h_1, rfl, rfl⟩)
  · refine ab_iload_n dX11_fit_11 rfl ?_
    refine ab_iconst (v := 0) dX11_fit_12 (by decide) ?_
    refine ab_iconst (v := 2) dX11_fit_13 (by decide) ?_
    refine ab_callS (As := [.int a1, .int 0, .int 2]) (rest := []) dX11_fit_14 ms_X11_in ml_X11_107 ⟨by decide, by decide, rfl, rfl, rfl⟩ (by decide) rfl rfl (Nat.le_of_ble_eq_true rfl) c_X11_in ?_
    rintro r w' (⟨c_2, rfl, rfl⟩ | ⟨c_3, rfl, rfl⟩)
    · refine ab_ifne 26 dX11_fit_17 (by decide) (fun h_4 => ?_) (fun h_4 => absurd h_4 (by decide))
      refine ab_aload_n dX11_fit_26 rfl ?_
      refine ab_getf dX11_fit_27 fl_X11_242 rfl rfl ?_
      refine ab_ifne 39 dX11_fit_30 (by decide) (fun h_5 => ?_) (fun h_5 => ?_)
      · refine ab_aload_n dX11_fit_39 rfl ?_
        refine ab_callV (As := []) (rest := []) dX11_fit_40 mv_X11_fits ml_X11_526 ⟨by decide, by decide, rfl, rfl, rfl⟩ (by decide) rfl rfl (Nat.le_of_ble_eq_true rfl) rfl (c_X11_fits_d (nr := nr) (⟨by decide, pos_ne h_l.1 h_1⟩) h_l h_nr) ?_
        rintro r w' ⟨wu_1_6, wd_2_7, rfl, rfl⟩
        refine ab_aload_n dX11_fit_43 rfl ?_
        refine ab_getf dX11_fit_44 fl_X11_78 rfl rfl ?_
        refine ab_iload_n dX11_fit_47 rfl ?_
        refine ab_iald (j := (Int32.toNatClampNeg a1)) dX11_fit_48 rfl (ix_r (in_lt (d := 3) c_2 (by decide)) (by decide)) ?_
        exact ab_iret dX11_fit_49 rfl (by decide) (Or.inr (Or.inl ⟨wu_1_6, wd_2_7, h_1, c_2, h_5, rfl, rfl⟩))
      · refine ab_aload_n dX11_fit_33 rfl ?_
        refine ab_iconst (v := 5) dX11_fit_34 (by decide) ?_
        refine ab_callV (As := [.int 5]) (rest := []) dX11_fit_35 mv_X11_no ml_X11_115 ⟨by decide, by decide, rfl, rfl, rfl⟩ (by decide) rfl rfl (Nat.le_of_ble_eq_true rfl) rfl c_X11_no ?_
        rintro r w' ⟨rfl, rfl⟩
        exact ab_iret dX11_fit_38 rfl (by decide) (Or.inr (Or.inr (Or.inl ⟨h_1, c_2, h_5, rfl, rfl⟩)))
    · refine ab_ifne 26 dX11_fit_17 (by decide) (fun h_8 => absurd (by decide) h_8) (fun h_8 => ?_)
      refine ab_aload_n dX11_fit_20 rfl ?_
      refine ab_iconst (v := 1) dX11_fit_21 (by decide) ?_
      refine ab_callV (As := [.int 1]) (rest := []) dX11_fit_22 mv_X11_no ml_X11_115 ⟨by decide, by decide, rfl, rfl, rfl⟩ (by decide) rfl rfl (Nat.le_of_ble_eq_true rfl) rfl c_X11_no ?_
      rintro r w' ⟨rfl, rfl⟩
      exact ab_iret dX11_fit_25 rfl (by decide) (Or.inr (Or.inr (Or.inr (⟨h_1, c_3, rfl, rfl⟩))))
theorem c_X11_fitMiss {wc : List ax_E} {m_thrown m_trouble m_fault m_where m_taped m_linkMany m_tracerMany m_pointMany m_readLinks m_readTracers m_readPoints m_readPairs m_textLong m_at m_spot m_token m_whole m_readFault m_readPlace m_value m_curveMany m_cornerMany m_straightAt m_walkLink m_walkAngle m_walkBranch m_walkMany m_lined m_actMany a1 : Int32} {m_n m_c m_d m_s m_e m_k m_x m_y m_g m_a m_fitUp m_fitDown m_worstUp m_worstDown : Int64} {z1 z2 z3 z5 z6 z8 z9 z10 z11 z12 z13 z14 z15 z17 z18 z19 z20 : ax_E} {q4 q7 q16 : Nat → Int32} {nr : Nat} (h_l : 0 ≤ m_linkMany ∧ m_linkMany ≤ nI 4) (h_nr : nr ≤ 4) (h_q2 : (¬ m_linkMany = 0) → (¬ (nI nr) = 0) → ((Fi q4 q7 nr m_fitUp m_fitDown q16).2.1).toInt ≠ -2 ^ 63) (h_q3 : (¬ m_linkMany = 0) → (¬ (nI nr) = 0) → ((Fi q4 q7 nr m_fitUp m_fitDown q16).2.2.1).toInt ≠ -2 ^ 63) (h_q4 : (¬ m_linkMany = 0) → (¬ (nI nr) = 0) → ¬ ((Fi q4 q7 nr m_fitUp m_fitDown q16).2.2.1) = 0) : Ct M_X11_fitMiss [.ref 1000, .int a1] (wc, [ob 9 [.int m_thrown, .int m_trouble, .int m_fault, .int m_where, .ref 1001, .ref 1002, .int 40, .ref 1003, .int m_taped, .int m_linkMany, .int m_tracerMany, .int m_pointMany, .int (nI nr), .ref 1004, .ref 1005, .ref 1006, .ref 1007, .int m_readLinks, .int m_readTracers, .int m_readPoints, .int m_readPairs, .ref 1008, .ref 1009, .ref 1010, .ref 1011, .int m_textLong, .int m_at, .int m_spot, .int m_token, .int m_whole, .int m_readFault, .int m_readPlace, .int m_value, .long m_n, .long m_c, .long m_d, .long m_s, .long m_e, .long m_k, .long m_x, .long m_y, .long m_g, .long m_a, .ref 1012, .ref 1013, .ref 1014, .int m_curveMany, .ref 1015, .int m_cornerMany, .int m_straightAt, .ref 1016, .long m_fitUp, .long m_fitDown, .long m_worstUp, .long m_worstDown, .ref 1017, .int m_walkLink, .int m_walkAngle, .int m_walkBranch, .int m_walkMany, .ref 1018, .ref 1019, .int m_lined, .ref 1020, .int m_actMany], z1, z2, z3, ia 16 q4, z5, z6, ia 16 q7, z8, z9, z10, z11, z12, z13, z14, z15, ia 3 q16, z17, z18, z19, z20]) (fun r w' => (∃ wu_1_3 : Int64, ∃ wd_2_4 : Int64, (¬ m_linkMany = 0) ∧ (¬ (nI nr) = 0) ∧ r = some (.long (Mp ((Fi q4 q7 nr m_fitUp m_fitDown q16).2.1) ((Fi q4 q7 nr m_fitUp m_fitDown q16).2.2.1) a1)) ∧ w' = (wc, [ob 9 [.int 0, .int 0, .int m_fault, .int (-1), .ref 1001, .ref 1002, .int 40, .ref 1003, .int m_taped, .int m_linkMany, .int m_tracerMany, .int m_pointMany, .int (nI nr), .ref 1004, .ref 1005, .ref 1006, .ref 1007, .int m_readLinks, .int m_readTracers, .int m_readPoints, .int m_readPairs, .ref 1008, .ref 1009, .ref 1010, .ref 1011, .int m_textLong, .int m_at, .int m_spot, .int m_token, .int m_whole, .int m_readFault, .int m_readPlace, .int m_value, .long m_n, .long m_c, .long m_d, .long m_s, .long m_e, .long m_k, .long m_x, .long m_y, .long m_g, .long m_a, .ref 1012, .ref 1013, .ref 1014, .int m_curveMany, .ref 1015, .int m_cornerMany, .int m_straightAt, .ref 1016, .long ((Fi q4 q7 nr m_fitUp m_fitDown q16).2.1), .long ((Fi q4 q7 nr m_fitUp m_fitDown q16).2.2.1), .long wu_1_3, .long wd_2_4, .ref 1017, .int m_walkLink, .int m_walkAngle, .int m_walkBranch, .int m_walkMany, .ref 1018, .ref 1019, .int m_lined, .ref 1020, .int m_actMany], z1, z2, z3, ia 16 q4, z5, z6, ia 16 q7, z8, z9, z10, z11, z12, z13, z14, z15, ia 3 ((Fi q4 q7 nr m_fitUp m_fitDown q16).2.2.2), z17, z18, z19, z20])) ∨ ((¬ m_linkMany = 0) ∧ ((nI nr) = 0) ∧ r = some (.long (Int32.toInt64 (-1))) ∧ w' = (wc, [ob 9 [.int 0, .int 5, .int m_fault, .int (-1), .ref 1001, .ref 1002, .int 40, .ref 1003, .int m_taped, .int m_linkMany, .int m_tracerMany, .int m_pointMany, .int (nI nr), .ref 1004, .ref 1005, .ref 1006, .ref 1007, .int m_readLinks, .int m_readTracers, .int m_readPoints, .int m_readPairs, .ref 1008, .ref 1009, .ref 1010, .ref 1011, .int m_textLong, .int m_at, .int m_spot, .int m_token, .int m_whole, .int m_readFault, .int m_readPlace, .int m_value, .long m_n, .long m_c, .long m_d, .long m_s, .long m_e, .long m_k, .long m_x, .long m_y, .long m_g, .long m_a, .ref 1012, .ref 1013, .ref 1014, .int m_curveMany, .ref 1015, .int m_cornerMany, .int m_straightAt, .ref 1016, .long m_fitUp, .long m_fitDown, .long m_worstUp, .long m_worstDown, .ref 1017, .int m_walkLink, .int m_walkAngle, .int m_walkBranch, .int m_walkMany, .ref 1018, .ref 1019, .int m_lined, .ref 1020, .int m_actMany], z1, z2, z3, ia 16 q4, z5, z6, ia 16 q7, z8, z9, z10, z11, z12, z13, z14, z15, ia 3 q16, z17, z18, z19, z20])) ∨ ((m_linkMany = 0) ∧ r = some (.long (Int32.toInt64 (-1))) ∧ w' = (wc, [ob 9 [.int 0, .int 1, .int m_fault, .int (-1), .ref 1001, .ref 1002, .int 40, .ref 1003, .int m_taped, .int m_linkMany, .int m_tracerMany, .int m_pointMany, .int (nI nr), .ref 1004, .ref 1005, .ref 1006, .ref 1007, .int m_readLinks, .int m_readTracers, .int m_readPoints, .int m_readPairs, .ref 1008, .ref 1009, .ref 1010, .ref 1011, .int m_textLong, .int m_at, .int m_spot, .int m_token, .int m_whole, .int m_readFault, .int m_readPlace, .int m_value, .long m_n, .long m_c, .long m_d, .long m_s, .long m_e, .long m_k, .long m_x, .long m_y, .long m_g, .long m_a, .ref 1012, .ref 1013, .ref 1014, .int m_curveMany, .ref 1015, .int m_cornerMany, .int m_straightAt, .ref 1016, .long m_fitUp, .long m_fitDown, .long m_worstUp, .long m_worstDown, .ref 1017, .int m_walkLink, .int m_walkAngle, .int m_walkBranch, .int m_walkMany, .ref 1018, .ref 1019, .int m_lined, .ref 1020, .int m_actMany], z1, z2, z3, ia 16 q4, z5, z6, ia 16 q7, z8, z9, z10, z11, z12, z13, z14, z15, ia 3 q16, z17, z18, z19, z20]))) := by
  refine ct_of ⟨by decide, rfl⟩ (Nat.le_of_ble_eq_true rfl) ?_
  refine ab_aload_n dX11_fitMiss_0 rfl ?_
  refine ab_callV (As := []) (rest := []) dX11_fitMiss_1 mv_X11_anew ml_X11_104 ⟨by decide, by decide, rfl, rfl, rfl⟩ (by decide) rfl rfl (Nat.le_of_ble_eq_true rfl) rfl c_X11_anew ?_
  rintro r w' ⟨rfl, rfl⟩
  refine ab_aload_n dX11_fitMiss_4 rfl ?_
  refine ab_getf dX11_fitMiss_5 fl_X11_233 rfl rfl ?_
  refine ab_ifne 18 dX11_fitMiss_8 (by decide) (fun h_1 => ?_) (fun h_1 => ?_)
  · refine ab_aload_n dX11_fitMiss_18 rfl ?_
    refine ab_getf dX11_fitMiss_19 fl_X11_242 rfl rfl ?_
    refine ab_ifne 32 dX11_fitMiss_22 (by decide) (fun h_2 => ?_) (fun h_2 => ?_)
    · refine ab_aload_n dX11_fitMiss_32 rfl ?_
      refine ab_callV (As := []) (rest := []) dX11_fitMiss_33 mv_X11_fits ml_X11_526 ⟨by decide, by decide, rfl, rfl, rfl⟩ (by decide) rfl rfl (Nat.le_of_ble_eq_true rfl) rfl (c_X11_fits_d (nr := nr) (⟨by decide, pos_ne h_l.1 h_1⟩) h_l h_nr) ?_
      rintro r w' ⟨wu_1_3, wd_2_4, rfl, rfl⟩
      refine ab_aload_n dX11_fitMiss_36 rfl ?_
      refine ab_aload_n dX11_fitMiss_37 rfl ?_
      refine ab_getf dX11_fitMiss_38 fl_X11_523 rfl rfl ?_
      refine ab_aload_n dX11_fitMiss_41 rfl ?_
      refine ab_getf dX11_fitMiss_42 fl_X11_520 rfl rfl ?_
      refine ab_iload_n dX11_fitMiss_45 rfl ?_
      refine ab_callV (As := [.long ((Fi q4 q7 nr m_fitUp m_fitDown q16).2.1), .long ((Fi q4 q7 nr m_fitUp m_fitDown q16).2.2.1), .int a1]) (rest := []) dX11_fitMiss_46 mv_X11_part ml_X11_308 ⟨by decide, by decide, rfl, rfl, rfl⟩ (by decide) rfl rfl (Nat.le_of_ble_eq_true rfl) rfl (c_X11_part (h_q2 h_1 h_2) (h_q3 h_1 h_2) (h_q4 h_1 h_2)) ?_
      rintro r w' ⟨rfl, rfl⟩
      exact ab_lret dX11_fitMiss_49 rfl (by decide) (Or.inl ⟨wu_1_3, wd_2_4, h_1, h_2, rfl, rfl⟩)
    · refine ab_aload_n dX11_fitMiss_25 rfl ?_
      refine ab_iconst (v := 5) dX11_fitMiss_26 (by decide) ?_
      refine ab_callV (As := [.int 5]) (rest := []) dX11_fitMiss_27 mv_X11_no ml_X11_115 ⟨by decide, by decide, rfl, rfl, rfl⟩ (by decide) rfl rfl (Nat.le_of_ble_eq_true rfl) rfl c_X11_no ?_
      rintro r w' ⟨rfl, rfl⟩
      refine ab_i2l dX11_fitMiss_30 ?_
      exact ab_lret dX11_fitMiss_31 rfl (by decide) (Or.inr (Or.inl ⟨h_1, h_2, rfl, rfl⟩))
  · refine ab_aload_n dX11_fitMiss_11 rfl ?_
    refine ab_iconst (v := 1) dX11_fitMiss_12 (by decide) ?_
    refine ab_callV (As := [.int 1]) (rest := []) dX11_fitMiss_13 mv_X11_no ml_X11_115 ⟨by decide, by decide, rfl, rfl, rfl⟩ (by decide) rfl rfl (Nat.le_of_ble_eq_true rfl) rfl c_X11_no ?_
    rintro r w' ⟨rfl, rfl⟩
    refine ab_i2l dX11_fitMiss_16 ?_
    exact ab_lret dX11_fitMiss_17 rfl (by decide) (Or.inr (Or.inr (⟨h_1, rfl, rfl⟩)))
def Mq_m012 (q17 : Nat → Int64) : Int64 := ((((q17 0) * (((q17 5) * (q17 10)) - ((q17 6) * (q17 9)))) - ((q17 1) * (((q17 4) * (q17 10)) - ((q17 6) * (q17 8))))) + ((q17 2) * (((q17 4) * (q17 9)) - ((q17 5) * (q17 8)))))
theorem c_X11_minor_012 {wc : List ax_E} {m_thrown m_trouble m_fault m_where m_taped m_linkMany m_tracerMany m_pointMany m_pairMany m_readLinks m_readTracers m_readPoints m_readPairs m_textLong m_at m_spot m_token m_whole m_readFault m_readPlace m_value m_curveMany m_cornerMany m_straightAt m_walkLink m_walkAngle m_walkBranch m_walkMany m_lined m_actMany : Int32} {m_n m_c m_d m_s m_e m_k m_x m_y m_g m_a m_fitUp m_fitDown m_worstUp m_worstDown : Int64} {z1 z2 z3 z4 z5 z6 z7 z8 z9 z10 z11 z12 z13 z14 z15 z16 z18 z19 z20 : ax_E} {q17 : Nat → Int64}  : Ct M_X11_minor [.ref 1000, .int 0, .int 1, .int 2] (wc, [ob 9 [.int m_thrown, .int m_trouble, .int m_fault, .int m_where, .ref 1001, .ref 1002, .int 40, .ref 1003, .int m_taped, .int m_linkMany, .int m_tracerMany, .int m_pointMany, .int m_pairMany, .ref 1004, .ref 1005, .ref 1006, .ref 1007, .int m_readLinks, .int m_readTracers, .int m_readPoints, .int m_readPairs, .ref 1008, .ref 1009, .ref 1010, .ref 1011, .int m_textLong, .int m_at, .int m_spot, .int m_token, .int m_whole, .int m_readFault, .int m_readPlace, .int m_value, .long m_n, .long m_c, .long m_d, .long m_s, .long m_e, .long m_k, .long m_x, .long m_y, .long m_g, .long m_a, .ref 1012, .ref 1013, .ref 1014, .int m_curveMany, .ref 1015, .int m_cornerMany, .int m_straightAt, .ref 1016, .long m_fitUp, .long m_fitDown, .long m_worstUp, .long m_worstDown, .ref 1017, .int m_walkLink, .int m_walkAngle, .int m_walkBranch, .int m_walkMany, .ref 1018, .ref 1019, .int m_lined, .ref 1020, .int m_actMany], z1, z2, z3, z4, z5, z6, z7, z8, z9, z10, z11, z12, z13, z14, z15, z16, ja 12 q17, z18, z19, z20]) (fun r w' => r = some (.long (Mq_m012 q17)) ∧ w' = (wc, [ob 9 [.int m_thrown, .int m_trouble, .int m_fault, .int m_where, .ref 1001, .ref 1002, .int 40, .ref 1003, .int m_taped, .int m_linkMany, .int m_tracerMany, .int m_pointMany, .int m_pairMany, .ref 1004, .ref 1005, .ref 1006, .ref 1007, .int m_readLinks, .int m_readTracers, .int m_readPoints, .int m_readPairs, .ref 1008, .ref 1009, .ref 1010, .ref 1011, .int m_textLong, .int m_at, .int m_spot, .int m_token, .int m_whole, .int m_readFault, .int m_readPlace, .int m_value, .long m_n, .long m_c, .long m_d, .long m_s, .long m_e, .long m_k, .long m_x, .long m_y, .long m_g, .long m_a, .ref 1012, .ref 1013, .ref 1014, .int m_curveMany, .ref 1015, .int m_cornerMany, .int m_straightAt, .ref 1016, .long m_fitUp, .long m_fitDown, .long m_worstUp, .long m_worstDown, .ref 1017, .int m_walkLink, .int m_walkAngle, .int m_walkBranch, .int m_walkMany, .ref 1018, .ref 1019, .int m_lined, .ref 1020, .int m_actMany], z1, z2, z3, z4, z5, z6, z7, z8, z9, z10, z11, z12, z13, z14, z15, z16, ja 12 q17, z18, z19, z20])) := by
  refine ct_of ⟨by decide, rfl⟩ (Nat.le_of_ble_eq_true rfl) ?_
  refine ab_aload_n dX11_minor_0 rfl ?_
  refine ab_getf dX11_minor_1 fl_X11_81 rfl rfl ?_
  refine ab_iload_n dX11_minor_4 rfl ?_
  refine ab_lald (j := 0) dX11_minor_5 rfl (ix_c (by decide)) ?_
  refine ab_aload_n dX11_minor_6 rfl ?_
  refine ab_getf dX11_minor_7 fl_X11_81 rfl rfl ?_
  refine ab_iconst (v := 4) dX11_minor_10 (by decide) ?_
  refine ab_iload_n dX11_minor_11 rfl ?_
  refine ab_iadd dX11_minor_12 ?_
  refine ab_topi (v := 5) (by decide) ?_
  refine ab_lald (j := 5) dX11_minor_13 rfl (ix_c (by decide)) ?_
  refine ab_aload_n dX11_minor_14 rfl ?_
  refine ab_getf dX11_minor_15 fl_X11_81 rfl rfl ?_
  refine ab_bipush (v := 8) dX11_minor_18 (by decide) ?_
  refine ab_iload_n dX11_minor_20 rfl ?_
  refine ab_iadd dX11_minor_21 ?_
  refine ab_topi (v := 10) (by decide) ?_
  refine ab_lald (j := 10) dX11_minor_22 rfl (ix_c (by decide)) ?_
  refine ab_lmul dX11_minor_23 ?_
  refine ab_aload_n dX11_minor_24 rfl ?_
  refine ab_getf dX11_minor_25 fl_X11_81 rfl rfl ?_
  refine ab_iconst (v := 4) dX11_minor_28 (by decide) ?_
  refine ab_iload_n dX11_minor_29 rfl ?_
  refine ab_iadd dX11_minor_30 ?_
  refine ab_topi (v := 6) (by decide) ?_
  refine ab_lald (j := 6) dX11_minor_31 rfl (ix_c (by decide)) ?_
  refine ab_aload_n dX11_minor_32 rfl ?_
  refine ab_getf dX11_minor_33 fl_X11_81 rfl rfl ?_
  refine ab_bipush (v := 8) dX11_minor_36 (by decide) ?_
  refine ab_iload_n dX11_minor_38 rfl ?_
  refine ab_iadd dX11_minor_39 ?_
  refine ab_topi (v := 9) (by decide) ?_
  refine ab_lald (j := 9) dX11_minor_40 rfl (ix_c (by decide)) ?_
  refine ab_lmul dX11_minor_41 ?_
  refine ab_lsub dX11_minor_42 ?_
  refine ab_lmul dX11_minor_43 ?_
  refine ab_aload_n dX11_minor_44 rfl ?_
  refine ab_getf dX11_minor_45 fl_X11_81 rfl rfl ?_
  refine ab_iload_n dX11_minor_48 rfl ?_
  refine ab_lald (j := 1) dX11_minor_49 rfl (ix_c (by decide)) ?_
  refine ab_aload_n dX11_minor_50 rfl ?_
  refine ab_getf dX11_minor_51 fl_X11_81 rfl rfl ?_
  refine ab_iconst (v := 4) dX11_minor_54 (by decide) ?_
  refine ab_iload_n dX11_minor_55 rfl ?_
  refine ab_iadd dX11_minor_56 ?_
  refine ab_topi (v := 4) (by decide) ?_
  refine ab_lald (j := 4) dX11_minor_57 rfl (ix_c (by decide)) ?_
  refine ab_aload_n dX11_minor_58 rfl ?_
  refine ab_getf dX11_minor_59 fl_X11_81 rfl rfl ?_
  refine ab_bipush (v := 8) dX11_minor_62 (by decide) ?_
  refine ab_iload_n dX11_minor_64 rfl ?_
  refine ab_iadd dX11_minor_65 ?_
  refine ab_topi (v := 10) (by decide) ?_
  refine ab_lald (j := 10) dX11_minor_66 rfl (ix_c (by decide)) ?_
  refine ab_lmul dX11_minor_67 ?_
  refine ab_aload_n dX11_minor_68 rfl ?_
  refine ab_getf dX11_minor_69 fl_X11_81 rfl rfl ?_
  refine ab_iconst (v := 4) dX11_minor_72 (by decide) ?_
  refine ab_iload_n dX11_minor_73 rfl ?_
  refine ab_iadd dX11_minor_74 ?_
  refine ab_topi (v := 6) (by decide) ?_
  refine ab_lald (j := 6) dX11_minor_75 rfl (ix_c (by decide)) ?_
  refine ab_aload_n dX11_minor_76 rfl ?_
  refine ab_getf dX11_minor_77 fl_X11_81 rfl rfl ?_
  refine ab_bipush (v := 8) dX11_minor_80 (by decide) ?_
  refine ab_iload_n dX11_minor_82 rfl ?_
  refine ab_iadd dX11_minor_83 ?_
  refine ab_topi (v := 8) (by decide) ?_
  refine ab_lald (j := 8) dX11_minor_84 rfl (ix_c (by decide)) ?_
  refine ab_lmul dX11_minor_85 ?_
  refine ab_lsub dX11_minor_86 ?_
  refine ab_lmul dX11_minor_87 ?_
  refine ab_lsub dX11_minor_88 ?_
  refine ab_aload_n dX11_minor_89 rfl ?_
  refine ab_getf dX11_minor_90 fl_X11_81 rfl rfl ?_
  refine ab_iload_n dX11_minor_93 rfl ?_
  refine ab_lald (j := 2) dX11_minor_94 rfl (ix_c (by decide)) ?_
  refine ab_aload_n dX11_minor_95 rfl ?_
  refine ab_getf dX11_minor_96 fl_X11_81 rfl rfl ?_
  refine ab_iconst (v := 4) dX11_minor_99 (by decide) ?_
  refine ab_iload_n dX11_minor_100 rfl ?_
  refine ab_iadd dX11_minor_101 ?_
  refine ab_topi (v := 4) (by decide) ?_
  refine ab_lald (j := 4) dX11_minor_102 rfl (ix_c (by decide)) ?_
  refine ab_aload_n dX11_minor_103 rfl ?_
  refine ab_getf dX11_minor_104 fl_X11_81 rfl rfl ?_
  refine ab_bipush (v := 8) dX11_minor_107 (by decide) ?_
  refine ab_iload_n dX11_minor_109 rfl ?_
  refine ab_iadd dX11_minor_110 ?_
  refine ab_topi (v := 9) (by decide) ?_
  refine ab_lald (j := 9) dX11_minor_111 rfl (ix_c (by decide)) ?_
  refine ab_lmul dX11_minor_112 ?_
  refine ab_aload_n dX11_minor_113 rfl ?_
  refine ab_getf dX11_minor_114 fl_X11_81 rfl rfl ?_
  refine ab_iconst (v := 4) dX11_minor_117 (by decide) ?_
  refine ab_iload_n dX11_minor_118 rfl ?_
  refine ab_iadd dX11_minor_119 ?_
  refine ab_topi (v := 5) (by decide) ?_
  refine ab_lald (j := 5) dX11_minor_120 rfl (ix_c (by decide)) ?_
  refine ab_aload_n dX11_minor_121 rfl ?_
  refine ab_getf dX11_minor_122 fl_X11_81 rfl rfl ?_
  refine ab_bipush (v := 8) dX11_minor_125 (by decide) ?_
  refine ab_iload_n dX11_minor_127 rfl ?_
  refine ab_iadd dX11_minor_128 ?_
  refine ab_topi (v := 8) (by decide) ?_
  refine ab_lald (j := 8) dX11_minor_129 rfl (ix_c (by decide)) ?_
  refine ab_lmul dX11_minor_130 ?_
  refine ab_lsub dX11_minor_131 ?_
  refine ab_lmul dX11_minor_132 ?_
  refine ab_ladd dX11_minor_133 ?_
  exact ab_lret dX11_minor_134 rfl (by decide) (⟨rfl, rfl⟩)
def Mq_m312 (q17 : Nat → Int64) : Int64 := ((((q17 3) * (((q17 5) * (q17 10)) - ((q17 6) * (q17 9)))) - ((q17 1) * (((q17 7) * (q17 10)) - ((q17 6) * (q17 11))))) + ((q17 2) * (((q17 7) * (q17 9)) - ((q17 5) * (q17 11)))))
theorem c_X11_minor_312 {wc : List ax_E} {m_thrown m_trouble m_fault m_where m_taped m_linkMany m_tracerMany m_pointMany m_pairMany m_readLinks m_readTracers m_readPoints m_readPairs m_textLong m_at m_spot m_token m_whole m_readFault m_readPlace m_value m_curveMany m_cornerMany m_straightAt m_walkLink m_walkAngle m_walkBranch m_walkMany m_lined m_actMany : Int32} {m_n m_c m_d m_s m_e m_k m_x m_y m_g m_a m_fitUp m_fitDown m_worstUp m_worstDown : Int64} {z1 z2 z3 z4 z5 z6 z7 z8 z9 z10 z11 z12 z13 z14 z15 z16 z18 z19 z20 : ax_E} {q17 : Nat → Int64}  : Ct M_X11_minor [.ref 1000, .int 3, .int 1, .int 2] (wc, [ob 9 [.int m_thrown, .int m_trouble, .int m_fault, .int m_where, .ref 1001, .ref 1002, .int 40, .ref 1003, .int m_taped, .int m_linkMany, .int m_tracerMany, .int m_pointMany, .int m_pairMany, .ref 1004, .ref 1005, .ref 1006, .ref 1007, .int m_readLinks, .int m_readTracers, .int m_readPoints, .int m_readPairs, .ref 1008, .ref 1009, .ref 1010, .ref 1011, .int m_textLong, .int m_at, .int m_spot, .int m_token, .int m_whole, .int m_readFault, .int m_readPlace, .int m_value, .long m_n, .long m_c, .long m_d, .long m_s, .long m_e, .long m_k, .long m_x, .long m_y, .long m_g, .long m_a, .ref 1012, .ref 1013, .ref 1014, .int m_curveMany, .ref 1015, .int m_cornerMany, .int m_straightAt, .ref 1016, .long m_fitUp, .long m_fitDown, .long m_worstUp, .long m_worstDown, .ref 1017, .int m_walkLink, .int m_walkAngle, .int m_walkBranch, .int m_walkMany, .ref 1018, .ref 1019, .int m_lined, .ref 1020, .int m_actMany], z1, z2, z3, z4, z5, z6, z7, z8, z9, z10, z11, z12, z13, z14, z15, z16, ja 12 q17, z18, z19, z20]) (fun r w' => r = some (.long (Mq_m312 q17)) ∧ w' = (wc, [ob 9 [.int m_thrown, .int m_trouble, .int m_fault, .int m_where, .ref 1001, .ref 1002, .int 40, .ref 1003, .int m_taped, .int m_linkMany, .int m_tracerMany, .int m_pointMany, .int m_pairMany, .ref 1004, .ref 1005, .ref 1006, .ref 1007, .int m_readLinks, .int m_readTracers, .int m_readPoints, .int m_readPairs, .ref 1008, .ref 1009, .ref 1010, .ref 1011, .int m_textLong, .int m_at, .int m_spot, .int m_token, .int m_whole, .int m_readFault, .int m_readPlace, .int m_value, .long m_n, .long m_c, .long m_d, .long m_s, .long m_e, .long m_k, .long m_x, .long m_y, .long m_g, .long m_a, .ref 1012, .ref 1013, .ref 1014, .int m_curveMany, .ref 1015, .int m_cornerMany, .int m_straightAt, .ref 1016, .long m_fitUp, .long m_fitDown, .long m_worstUp, .long m_worstDown, .ref 1017, .int m_walkLink, .int m_walkAngle, .int m_walkBranch, .int m_walkMany, .ref 1018, .ref 1019, .int m_lined, .ref 1020, .int m_actMany], z1, z2, z3, z4, z5, z6, z7, z8, z9, z10, z11, z12, z13, z14, z15, z16, ja 12 q17, z18, z19, z20])) := by
  refine ct_of ⟨by decide, rfl⟩ (Nat.le_of_ble_eq_true rfl) ?_
  refine ab_aload_n dX11_minor_0 rfl ?_
  refine ab_getf dX11_minor_1 fl_X11_81 rfl rfl ?_
  refine ab_iload_n dX11_minor_4 rfl ?_
  refine ab_lald (j := 3) dX11_minor_5 rfl (ix_c (by decide)) ?_
  refine ab_aload_n dX11_minor_6 rfl ?_
  refine ab_getf dX11_minor_7 fl_X11_81 rfl rfl ?_
  refine ab_iconst (v := 4) dX11_minor_10 (by decide) ?_
  refine ab_iload_n dX11_minor_11 rfl ?_
  refine ab_iadd dX11_minor_12 ?_
  refine ab_topi (v := 5) (by decide) ?_
  refine ab_lald (j := 5) dX11_minor_13 rfl (ix_c (by decide)) ?_
  refine ab_aload_n dX11_minor_14 rfl ?_
  refine ab_getf dX11_minor_15 fl_X11_81 rfl rfl ?_
  refine ab_bipush (v := 8) dX11_minor_18 (by decide) ?_
  refine ab_iload_n dX11_minor_20 rfl ?_
  refine ab_iadd dX11_minor_21 ?_
  refine ab_topi (v := 10) (by decide) ?_
  refine ab_lald (j := 10) dX11_minor_22 rfl (ix_c (by decide)) ?_
  refine ab_lmul dX11_minor_23 ?_
  refine ab_aload_n dX11_minor_24 rfl ?_
  refine ab_getf dX11_minor_25 fl_X11_81 rfl rfl ?_
  refine ab_iconst (v := 4) dX11_minor_28 (by decide) ?_
  refine ab_iload_n dX11_minor_29 rfl ?_
  refine ab_iadd dX11_minor_30 ?_
  refine ab_topi (v := 6) (by decide) ?_
  refine ab_lald (j := 6) dX11_minor_31 rfl (ix_c (by decide)) ?_
  refine ab_aload_n dX11_minor_32 rfl ?_
  refine ab_getf dX11_minor_33 fl_X11_81 rfl rfl ?_
  refine ab_bipush (v := 8) dX11_minor_36 (by decide) ?_
  refine ab_iload_n dX11_minor_38 rfl ?_
  refine ab_iadd dX11_minor_39 ?_
  refine ab_topi (v := 9) (by decide) ?_
  refine ab_lald (j := 9) dX11_minor_40 rfl (ix_c (by decide)) ?_
  refine ab_lmul dX11_minor_41 ?_
  refine ab_lsub dX11_minor_42 ?_
  refine ab_lmul dX11_minor_43 ?_
  refine ab_aload_n dX11_minor_44 rfl ?_
  refine ab_getf dX11_minor_45 fl_X11_81 rfl rfl ?_
  refine ab_iload_n dX11_minor_48 rfl ?_
  refine ab_lald (j := 1) dX11_minor_49 rfl (ix_c (by decide)) ?_
  refine ab_aload_n dX11_minor_50 rfl ?_
  refine ab_getf dX11_minor_51 fl_X11_81 rfl rfl ?_
  refine ab_iconst (v := 4) dX11_minor_54 (by decide) ?_
  refine ab_iload_n dX11_minor_55 rfl ?_
  refine ab_iadd dX11_minor_56 ?_
  refine ab_topi (v := 7) (by decide) ?_
  refine ab_lald (j := 7) dX11_minor_57 rfl (ix_c (by decide)) ?_
  refine ab_aload_n dX11_minor_58 rfl ?_
  refine ab_getf dX11_minor_59 fl_X11_81 rfl rfl ?_
  refine ab_bipush (v := 8) dX11_minor_62 (by decide) ?_
  refine ab_iload_n dX11_minor_64 rfl ?_
  refine ab_iadd dX11_minor_65 ?_
  refine ab_topi (v := 10) (by decide) ?_
  refine ab_lald (j := 10) dX11_minor_66 rfl (ix_c (by decide)) ?_
  refine ab_lmul dX11_minor_67 ?_
  refine ab_aload_n dX11_minor_68 rfl ?_
  refine ab_getf dX11_minor_69 fl_X11_81 rfl rfl ?_
  refine ab_iconst (v := 4) dX11_minor_72 (by decide) ?_
  refine ab_iload_n dX11_minor_73 rfl ?_
  refine ab_iadd dX11_minor_74 ?_
  refine ab_topi (v := 6) (by decide) ?_
  refine ab_lald (j := 6) dX11_minor_75 rfl (ix_c (by decide)) ?_
  refine ab_aload_n dX11_minor_76 rfl ?_
  refine ab_getf dX11_minor_77 fl_X11_81 rfl rfl ?_
  refine ab_bipush (v := 8) dX11_minor_80 (by decide) ?_
  refine ab_iload_n dX11_minor_82 rfl ?_
  refine ab_iadd dX11_minor_83 ?_
  refine ab_topi (v := 11) (by decide) ?_
  refine ab_lald (j := 11) dX11_minor_84 rfl (ix_c (by decide)) ?_
  refine ab_lmul dX11_minor_85 ?_
  refine ab_lsub dX11_minor_86 ?_
  refine ab_lmul dX11_minor_87 ?_
  refine ab_lsub dX11_minor_88 ?_
  refine ab_aload_n dX11_minor_89 rfl ?_
  refine ab_getf dX11_minor_90 fl_X11_81 rfl rfl ?_
  refine ab_iload_n dX11_minor_93 rfl ?_
  refine ab_lald (j := 2) dX11_minor_94 rfl (ix_c (by decide)) ?_
  refine ab_aload_n dX11_minor_95 rfl ?_
  refine ab_getf dX11_minor_96 fl_X11_81 rfl rfl ?_
  refine ab_iconst (v := 4) dX11_minor_99 (by decide) ?_
  refine ab_iload_n dX11_minor_100 rfl ?_
  refine ab_iadd dX11_minor_101 ?_
  refine ab_topi (v := 7) (by decide) ?_
  refine ab_lald (j := 7) dX11_minor_102 rfl (ix_c (by decide)) ?_
  refine ab_aload_n dX11_minor_103 rfl ?_
  refine ab_getf dX11_minor_104 fl_X11_81 rfl rfl ?_
  refine ab_bipush (v := 8) dX11_minor_107 (by decide) ?_
  refine ab_iload_n dX11_minor_109 rfl ?_
  refine ab_iadd dX11_minor_110 ?_
  refine ab_topi (v := 9) (by decide) ?_
  refine ab_lald (j := 9) dX11_minor_111 rfl (ix_c (by decide)) ?_
  refine ab_lmul dX11_minor_112 ?_
  refine ab_aload_n dX11_minor_113 rfl ?_
  refine ab_getf dX11_minor_114 fl_X11_81 rfl rfl ?_
  refine ab_iconst (v := 4) dX11_minor_117 (by decide) ?_
  refine ab_iload_n dX11_minor_118 rfl ?_
  refine ab_iadd dX11_minor_119 ?_
  refine ab_topi (v := 5) (by decide) ?_
  refine ab_lald (j := 5) dX11_minor_120 rfl (ix_c (by decide)) ?_
  refine ab_aload_n dX11_minor_121 rfl ?_
  refine ab_getf dX11_minor_122 fl_X11_81 rfl rfl ?_
  refine ab_bipush (v := 8) dX11_minor_125 (by decide) ?_
  refine ab_iload_n dX11_minor_127 rfl ?_
  refine ab_iadd dX11_minor_128 ?_
  refine ab_topi (v := 11) (by decide) ?_
  refine ab_lald (j := 11) dX11_minor_129 rfl (ix_c (by decide)) ?_
  refine ab_lmul dX11_minor_130 ?_
  refine ab_lsub dX11_minor_131 ?_
  refine ab_lmul dX11_minor_132 ?_
  refine ab_ladd dX11_minor_133 ?_
  exact ab_lret dX11_minor_134 rfl (by decide) (⟨rfl, rfl⟩)
def Mq_m032 (q17 : Nat → Int64) : Int64 := ((((q17 0) * (((q17 7) * (q17 10)) - ((q17 6) * (q17 11)))) - ((q17 3) * (((q17 4) * (q17 10)) - ((q17 6) * (q17 8))))) + ((q17 2) * (((q17 4) * (q17 11)) - ((q17 7) * (q17 8)))))
theorem c_X11_minor_032 {wc : List ax_E} {m_thrown m_trouble m_fault m_where m_taped m_linkMany m_tracerMany m_pointMany m_pairMany m_readLinks m_readTracers m_readPoints m_readPairs m_textLong m_at m_spot m_token m_whole m_readFault m_readPlace m_value m_curveMany m_cornerMany m_straightAt m_walkLink m_walkAngle m_walkBranch m_walkMany m_lined m_actMany : Int32} {m_n m_c m_d m_s m_e m_k m_x m_y m_g m_a m_fitUp m_fitDown m_worstUp m_worstDown : Int64} {z1 z2 z3 z4 z5 z6 z7 z8 z9 z10 z11 z12 z13 z14 z15 z16 z18 z19 z20 : ax_E} {q17 : Nat → Int64}  : Ct M_X11_minor [.ref 1000, .int 0, .int 3, .int 2] (wc, [ob 9 [.int m_thrown, .int m_trouble, .int m_fault, .int m_where, .ref 1001, .ref 1002, .int 40, .ref 1003, .int m_taped, .int m_linkMany, .int m_tracerMany, .int m_pointMany, .int m_pairMany, .ref 1004, .ref 1005, .ref 1006, .ref 1007, .int m_readLinks, .int m_readTracers, .int m_readPoints, .int m_readPairs, .ref 1008, .ref 1009, .ref 1010, .ref 1011, .int m_textLong, .int m_at, .int m_spot, .int m_token, .int m_whole, .int m_readFault, .int m_readPlace, .int m_value, .long m_n, .long m_c, .long m_d, .long m_s, .long m_e, .long m_k, .long m_x, .long m_y, .long m_g, .long m_a, .ref 1012, .ref 1013, .ref 1014, .int m_curveMany, .ref 1015, .int m_cornerMany, .int m_straightAt, .ref 1016, .long m_fitUp, .long m_fitDown, .long m_worstUp, .long m_worstDown, .ref 1017, .int m_walkLink, .int m_walkAngle, .int m_walkBranch, .int m_walkMany, .ref 1018, .ref 1019, .int m_lined, .ref 1020, .int m_actMany], z1, z2, z3, z4, z5, z6, z7, z8, z9, z10, z11, z12, z13, z14, z15, z16, ja 12 q17, z18, z19, z20]) (fun r w' => r = some (.long (Mq_m032 q17)) ∧ w' = (wc, [ob 9 [.int m_thrown, .int m_trouble, .int m_fault, .int m_where, .ref 1001, .ref 1002, .int 40, .ref 1003, .int m_taped, .int m_linkMany, .int m_tracerMany, .int m_pointMany, .int m_pairMany, .ref 1004, .ref 1005, .ref 1006, .ref 1007, .int m_readLinks, .int m_readTracers, .int m_readPoints, .int m_readPairs, .ref 1008, .ref 1009, .ref 1010, .ref 1011, .int m_textLong, .int m_at, .int m_spot, .int m_token, .int m_whole, .int m_readFault, .int m_readPlace, .int m_value, .long m_n, .long m_c, .long m_d, .long m_s, .long m_e, .long m_k, .long m_x, .long m_y, .long m_g, .long m_a, .ref 1012, .ref 1013, .ref 1014, .int m_curveMany, .ref 1015, .int m_cornerMany, .int m_straightAt, .ref 1016, .long m_fitUp, .long m_fitDown, .long m_worstUp, .long m_worstDown, .ref 1017, .int m_walkLink, .int m_walkAngle, .int m_walkBranch, .int m_walkMany, .ref 1018, .ref 1019, .int m_lined, .ref 1020, .int m_actMany], z1, z2, z3, z4, z5, z6, z7, z8, z9, z10, z11, z12, z13, z14, z15, z16, ja 12 q17, z18, z19, z20])) := by
  refine ct_of ⟨by decide, rfl⟩ (Nat.le_of_ble_eq_true rfl) ?_
  refine ab_aload_n dX11_minor_0 rfl ?_
  refine ab_getf dX11_minor_1 fl_X11_81 rfl rfl ?_
  refine ab_iload_n dX11_minor_4 rfl ?_
  refine ab_lald (j := 0) dX11_minor_5 rfl (ix_c (by decide)) ?_
  refine ab_aload_n dX11_minor_6 rfl ?_
  refine ab_getf dX11_minor_7 fl_X11_81 rfl rfl ?_
  refine ab_iconst (v := 4) dX11_minor_10 (by decide) ?_
  refine ab_iload_n dX11_minor_11 rfl ?_
  refine ab_iadd dX11_minor_12 ?_
  refine ab_topi (v := 7) (by decide) ?_
  refine ab_lald (j := 7) dX11_minor_13 rfl (ix_c (by decide)) ?_
  refine ab_aload_n dX11_minor_14 rfl ?_
  refine ab_getf dX11_minor_15 fl_X11_81 rfl rfl ?_
  refine ab_bipush (v := 8) dX11_minor_18 (by decide) ?_
  refine ab_iload_n dX11_minor_20 rfl ?_
  refine ab_iadd dX11_minor_21 ?_
  refine ab_topi (v := 10) (by decide) ?_
  refine ab_lald (j := 10) dX11_minor_22 rfl (ix_c (by decide)) ?_
  refine ab_lmul dX11_minor_23 ?_
  refine ab_aload_n dX11_minor_24 rfl ?_
  refine ab_getf dX11_minor_25 fl_X11_81 rfl rfl ?_
  refine ab_iconst (v := 4) dX11_minor_28 (by decide) ?_
  refine ab_iload_n dX11_minor_29 rfl ?_
  refine ab_iadd dX11_minor_30 ?_
  refine ab_topi (v := 6) (by decide) ?_
  refine ab_lald (j := 6) dX11_minor_31 rfl (ix_c (by decide)) ?_
  refine ab_aload_n dX11_minor_32 rfl ?_
  refine ab_getf dX11_minor_33 fl_X11_81 rfl rfl ?_
  refine ab_bipush (v := 8) dX11_minor_36 (by decide) ?_
  refine ab_iload_n dX11_minor_38 rfl ?_
  refine ab_iadd dX11_minor_39 ?_
  refine ab_topi (v := 11) (by decide) ?_
  refine ab_lald (j := 11) dX11_minor_40 rfl (ix_c (by decide)) ?_
  refine ab_lmul dX11_minor_41 ?_
  refine ab_lsub dX11_minor_42 ?_
  refine ab_lmul dX11_minor_43 ?_
  refine ab_aload_n dX11_minor_44 rfl ?_
  refine ab_getf dX11_minor_45 fl_X11_81 rfl rfl ?_
  refine ab_iload_n dX11_minor_48 rfl ?_
  refine ab_lald (j := 3) dX11_minor_49 rfl (ix_c (by decide)) ?_
  refine ab_aload_n dX11_minor_50 rfl ?_
  refine ab_getf dX11_minor_51 fl_X11_81 rfl rfl ?_
  refine ab_iconst (v := 4) dX11_minor_54 (by decide) ?_
  refine ab_iload_n dX11_minor_55 rfl ?_
  refine ab_iadd dX11_minor_56 ?_
  refine ab_topi (v := 4) (by decide) ?_
  refine ab_lald (j := 4) dX11_minor_57 rfl (ix_c (by decide)) ?_
  refine ab_aload_n dX11_minor_58 rfl ?_
  refine ab_getf dX11_minor_59 fl_X11_81 rfl rfl ?_
  refine ab_bipush (v := 8) dX11_minor_62 (by decide) ?_
  refine ab_iload_n dX11_minor_64 rfl ?_
  refine ab_iadd dX11_minor_65 ?_
  refine ab_topi (v := 10) (by decide) ?_
  refine ab_lald (j := 10) dX11_minor_66 rfl (ix_c (by decide)) ?_
  refine ab_lmul dX11_minor_67 ?_
  refine ab_aload_n dX11_minor_68 rfl ?_
  refine ab_getf dX11_minor_69 fl_X11_81 rfl rfl ?_
  refine ab_iconst (v := 4) dX11_minor_72 (by decide) ?_
  refine ab_iload_n dX11_minor_73 rfl ?_
  refine ab_iadd dX11_minor_74 ?_
  refine ab_topi (v := 6) (by decide) ?_
  refine ab_lald (j := 6) dX11_minor_75 rfl (ix_c (by decide)) ?_
  refine ab_aload_n dX11_minor_76 rfl ?_
  refine ab_getf dX11_minor_77 fl_X11_81 rfl rfl ?_
  refine ab_bipush (v := 8) dX11_minor_80 (by decide) ?_
  refine ab_iload_n dX11_minor_82 rfl ?_
  refine ab_iadd dX11_minor_83 ?_
  refine ab_topi (v := 8) (by decide) ?_
  refine ab_lald (j := 8) dX11_minor_84 rfl (ix_c (by decide)) ?_
  refine ab_lmul dX11_minor_85 ?_
  refine ab_lsub dX11_minor_86 ?_
  refine ab_lmul dX11_minor_87 ?_
  refine ab_lsub dX11_minor_88 ?_
  refine ab_aload_n dX11_minor_89 rfl ?_
  refine ab_getf dX11_minor_90 fl_X11_81 rfl rfl ?_
  refine ab_iload_n dX11_minor_93 rfl ?_
  refine ab_lald (j := 2) dX11_minor_94 rfl (ix_c (by decide)) ?_
  refine ab_aload_n dX11_minor_95 rfl ?_
  refine ab_getf dX11_minor_96 fl_X11_81 rfl rfl ?_
  refine ab_iconst (v := 4) dX11_minor_99 (by decide) ?_
  refine ab_iload_n dX11_minor_100 rfl ?_
  refine ab_iadd dX11_minor_101 ?_
  refine ab_topi (v := 4) (by decide) ?_
  refine ab_lald (j := 4) dX11_minor_102 rfl (ix_c (by decide)) ?_
  refine ab_aload_n dX11_minor_103 rfl ?_
  refine ab_getf dX11_minor_104 fl_X11_81 rfl rfl ?_
  refine ab_bipush (v := 8) dX11_minor_107 (by decide) ?_
  refine ab_iload_n dX11_minor_109 rfl ?_
  refine ab_iadd dX11_minor_110 ?_
  refine ab_topi (v := 11) (by decide) ?_
  refine ab_lald (j := 11) dX11_minor_111 rfl (ix_c (by decide)) ?_
  refine ab_lmul dX11_minor_112 ?_
  refine ab_aload_n dX11_minor_113 rfl ?_
  refine ab_getf dX11_minor_114 fl_X11_81 rfl rfl ?_
  refine ab_iconst (v := 4) dX11_minor_117 (by decide) ?_
  refine ab_iload_n dX11_minor_118 rfl ?_
  refine ab_iadd dX11_minor_119 ?_
  refine ab_topi (v := 7) (by decide) ?_
  refine ab_lald (j := 7) dX11_minor_120 rfl (ix_c (by decide)) ?_
  refine ab_aload_n dX11_minor_121 rfl ?_
  refine ab_getf dX11_minor_122 fl_X11_81 rfl rfl ?_
  refine ab_bipush (v := 8) dX11_minor_125 (by decide) ?_
  refine ab_iload_n dX11_minor_127 rfl ?_
  refine ab_iadd dX11_minor_128 ?_
  refine ab_topi (v := 8) (by decide) ?_
  refine ab_lald (j := 8) dX11_minor_129 rfl (ix_c (by decide)) ?_
  refine ab_lmul dX11_minor_130 ?_
  refine ab_lsub dX11_minor_131 ?_
  refine ab_lmul dX11_minor_132 ?_
  refine ab_ladd dX11_minor_133 ?_
  exact ab_lret dX11_minor_134 rfl (by decide) (⟨rfl, rfl⟩)
def Mq_m013 (q17 : Nat → Int64) : Int64 := ((((q17 0) * (((q17 5) * (q17 11)) - ((q17 7) * (q17 9)))) - ((q17 1) * (((q17 4) * (q17 11)) - ((q17 7) * (q17 8))))) + ((q17 3) * (((q17 4) * (q17 9)) - ((q17 5) * (q17 8)))))
theorem c_X11_minor_013 {wc : List ax_E} {m_thrown m_trouble m_fault m_where m_taped m_linkMany m_tracerMany m_pointMany m_pairMany m_readLinks m_readTracers m_readPoints m_readPairs m_textLong m_at m_spot m_token m_whole m_readFault m_readPlace m_value m_curveMany m_cornerMany m_straightAt m_walkLink m_walkAngle m_walkBranch m_walkMany m_lined m_actMany : Int32} {m_n m_c m_d m_s m_e m_k m_x m_y m_g m_a m_fitUp m_fitDown m_worstUp m_worstDown : Int64} {z1 z2 z3 z4 z5 z6 z7 z8 z9 z10 z11 z12 z13 z14 z15 z16 z18 z19 z20 : ax_E} {q17 : Nat → Int64}  : Ct M_X11_minor [.ref 1000, .int 0, .int 1, .int 3] (wc, [ob 9 [.int m_thrown, .int m_trouble, .int m_fault, .int m_where, .ref 1001, .ref 1002, .int 40, .ref 1003, .int m_taped, .int m_linkMany, .int m_tracerMany, .int m_pointMany, .int m_pairMany, .ref 1004, .ref 1005, .ref 1006, .ref 1007, .int m_readLinks, .int m_readTracers, .int m_readPoints, .int m_readPairs, .ref 1008, .ref 1009, .ref 1010, .ref 1011, .int m_textLong, .int m_at, .int m_spot, .int m_token, .int m_whole, .int m_readFault, .int m_readPlace, .int m_value, .long m_n, .long m_c, .long m_d, .long m_s, .long m_e, .long m_k, .long m_x, .long m_y, .long m_g, .long m_a, .ref 1012, .ref 1013, .ref 1014, .int m_curveMany, .ref 1015, .int m_cornerMany, .int m_straightAt, .ref 1016, .long m_fitUp, .long m_fitDown, .long m_worstUp, .long m_worstDown, .ref 1017, .int m_walkLink, .int m_walkAngle, .int m_walkBranch, .int m_walkMany, .ref 1018, .ref 1019, .int m_lined, .ref 1020, .int m_actMany], z1, z2, z3, z4, z5, z6, z7, z8, z9, z10, z11, z12, z13, z14, z15, z16, ja 12 q17, z18, z19, z20]) (fun r w' => r = some (.long (Mq_m013 q17)) ∧ w' = (wc, [ob 9 [.int m_thrown, .int m_trouble, .int m_fault, .int m_where, .ref 1001, .ref 1002, .int 40, .ref 1003, .int m_taped, .int m_linkMany, .int m_tracerMany, .int m_pointMany, .int m_pairMany, .ref 1004, .ref 1005, .ref 1006, .ref 1007, .int m_readLinks, .int m_readTracers, .int m_readPoints, .int m_readPairs, .ref 1008, .ref 1009, .ref 1010, .ref 1011, .int m_textLong, .int m_at, .int m_spot, .int m_token, .int m_whole, .int m_readFault, .int m_readPlace, .int m_value, .long m_n, .long m_c, .long m_d, .long m_s, .long m_e, .long m_k, .long m_x, .long m_y, .long m_g, .long m_a, .ref 1012, .ref 1013, .ref 1014, .int m_curveMany, .ref 1015, .int m_cornerMany, .int m_straightAt, .ref 1016, .long m_fitUp, .long m_fitDown, .long m_worstUp, .long m_worstDown, .ref 1017, .int m_walkLink, .int m_walkAngle, .int m_walkBranch, .int m_walkMany, .ref 1018, .ref 1019, .int m_lined, .ref 1020, .int m_actMany], z1, z2, z3, z4, z5, z6, z7, z8, z9, z10, z11, z12, z13, z14, z15, z16, ja 12 q17, z18, z19, z20])) := by
  refine ct_of ⟨by decide, rfl⟩ (Nat.le_of_ble_eq_true rfl) ?_
  refine ab_aload_n dX11_minor_0 rfl ?_
  refine ab_getf dX11_minor_1 fl_X11_81 rfl rfl ?_
  refine ab_iload_n dX11_minor_4 rfl ?_
  refine ab_lald (j := 0) dX11_minor_5 rfl (ix_c (by decide)) ?_
  refine ab_aload_n dX11_minor_6 rfl ?_
  refine ab_getf dX11_minor_7 fl_X11_81 rfl rfl ?_
  refine ab_iconst (v := 4) dX11_minor_10 (by decide) ?_
  refine ab_iload_n dX11_minor_11 rfl ?_
  refine ab_iadd dX11_minor_12 ?_
  refine ab_topi (v := 5) (by decide) ?_
  refine ab_lald (j := 5) dX11_minor_13 rfl (ix_c (by decide)) ?_
  refine ab_aload_n dX11_minor_14 rfl ?_
  refine ab_getf dX11_minor_15 fl_X11_81 rfl rfl ?_
  refine ab_bipush (v := 8) dX11_minor_18 (by decide) ?_
  refine ab_iload_n dX11_minor_20 rfl ?_
  refine ab_iadd dX11_minor_21 ?_
  refine ab_topi (v := 11) (by decide) ?_
  refine ab_lald (j := 11) dX11_minor_22 rfl (ix_c (by decide)) ?_
  refine ab_lmul dX11_minor_23 ?_
  refine ab_aload_n dX11_minor_24 rfl ?_
  refine ab_getf dX11_minor_25 fl_X11_81 rfl rfl ?_
  refine ab_iconst (v := 4) dX11_minor_28 (by decide) ?_
  refine ab_iload_n dX11_minor_29 rfl ?_
  refine ab_iadd dX11_minor_30 ?_
  refine ab_topi (v := 7) (by decide) ?_
  refine ab_lald (j := 7) dX11_minor_31 rfl (ix_c (by decide)) ?_
  refine ab_aload_n dX11_minor_32 rfl ?_
  refine ab_getf dX11_minor_33 fl_X11_81 rfl rfl ?_
  refine ab_bipush (v := 8) dX11_minor_36 (by decide) ?_
  refine ab_iload_n dX11_minor_38 rfl ?_
  refine ab_iadd dX11_minor_39 ?_
  refine ab_topi (v := 9) (by decide) ?_
  refine ab_lald (j := 9) dX11_minor_40 rfl (ix_c (by decide)) ?_
  refine ab_lmul dX11_minor_41 ?_
  refine ab_lsub dX11_minor_42 ?_
  refine ab_lmul dX11_minor_43 ?_
  refine ab_aload_n dX11_minor_44 rfl ?_
  refine ab_getf dX11_minor_45 fl_X11_81 rfl rfl ?_
  refine ab_iload_n dX11_minor_48 rfl ?_
  refine ab_lald (j := 1) dX11_minor_49 rfl (ix_c (by decide)) ?_
  refine ab_aload_n dX11_minor_50 rfl ?_
  refine ab_getf dX11_minor_51 fl_X11_81 rfl rfl ?_
  refine ab_iconst (v := 4) dX11_minor_54 (by decide) ?_
  refine ab_iload_n dX11_minor_55 rfl ?_
  refine ab_iadd dX11_minor_56 ?_
  refine ab_topi (v := 4) (by decide) ?_
  refine ab_lald (j := 4) dX11_minor_57 rfl (ix_c (by decide)) ?_
  refine ab_aload_n dX11_minor_58 rfl ?_
  refine ab_getf dX11_minor_59 fl_X11_81 rfl rfl ?_
  refine ab_bipush (v := 8) dX11_minor_62 (by decide) ?_
  refine ab_iload_n dX11_minor_64 rfl ?_
  refine ab_iadd dX11_minor_65 ?_
  refine ab_topi (v := 11) (by decide) ?_
  refine ab_lald (j := 11) dX11_minor_66 rfl (ix_c (by decide)) ?_
  refine ab_lmul dX11_minor_67 ?_
  refine ab_aload_n dX11_minor_68 rfl ?_
  refine ab_getf dX11_minor_69 fl_X11_81 rfl rfl ?_
  refine ab_iconst (v := 4) dX11_minor_72 (by decide) ?_
  refine ab_iload_n dX11_minor_73 rfl ?_
  refine ab_iadd dX11_minor_74 ?_
  refine ab_topi (v := 7) (by decide) ?_
  refine ab_lald (j := 7) dX11_minor_75 rfl (ix_c (by decide)) ?_
  refine ab_aload_n dX11_minor_76 rfl ?_
  refine ab_getf dX11_minor_77 fl_X11_81 rfl rfl ?_
  refine ab_bipush (v := 8) dX11_minor_80 (by decide) ?_
  refine ab_iload_n dX11_minor_82 rfl ?_
  refine ab_iadd dX11_minor_83 ?_
  refine ab_topi (v := 8) (by decide) ?_
  refine ab_lald (j := 8) dX11_minor_84 rfl (ix_c (by decide)) ?_
  refine ab_lmul dX11_minor_85 ?_
  refine ab_lsub dX11_minor_86 ?_
  refine ab_lmul dX11_minor_87 ?_
  refine ab_lsub dX11_minor_88 ?_
  refine ab_aload_n dX11_minor_89 rfl ?_
  refine ab_getf dX11_minor_90 fl_X11_81 rfl rfl ?_
  refine ab_iload_n dX11_minor_93 rfl ?_
  refine ab_lald (j := 3) dX11_minor_94 rfl (ix_c (by decide)) ?_
  refine ab_aload_n dX11_minor_95 rfl ?_
  refine ab_getf dX11_minor_96 fl_X11_81 rfl rfl ?_
  refine ab_iconst (v := 4) dX11_minor_99 (by decide) ?_
  refine ab_iload_n dX11_minor_100 rfl ?_
  refine ab_iadd dX11_minor_101 ?_
  refine ab_topi (v := 4) (by decide) ?_
  refine ab_lald (j := 4) dX11_minor_102 rfl (ix_c (by decide)) ?_
  refine ab_aload_n dX11_minor_103 rfl ?_
  refine ab_getf dX11_minor_104 fl_X11_81 rfl rfl ?_
  refine ab_bipush (v := 8) dX11_minor_107 (by decide) ?_
  refine ab_iload_n dX11_minor_109 rfl ?_
  refine ab_iadd dX11_minor_110 ?_
  refine ab_topi (v := 9) (by decide) ?_
  refine ab_lald (j := 9) dX11_minor_111 rfl (ix_c (by decide)) ?_
  refine ab_lmul dX11_minor_112 ?_
  refine ab_aload_n dX11_minor_113 rfl ?_
  refine ab_getf dX11_minor_114 fl_X11_81 rfl rfl ?_
  refine ab_iconst (v := 4) dX11_minor_117 (by decide) ?_
  refine ab_iload_n dX11_minor_118 rfl ?_
  refine ab_iadd dX11_minor_119 ?_
  refine ab_topi (v := 5) (by decide) ?_
  refine ab_lald (j := 5) dX11_minor_120 rfl (ix_c (by decide)) ?_
  refine ab_aload_n dX11_minor_121 rfl ?_
  refine ab_getf dX11_minor_122 fl_X11_81 rfl rfl ?_
  refine ab_bipush (v := 8) dX11_minor_125 (by decide) ?_
  refine ab_iload_n dX11_minor_127 rfl ?_
  refine ab_iadd dX11_minor_128 ?_
  refine ab_topi (v := 8) (by decide) ?_
  refine ab_lald (j := 8) dX11_minor_129 rfl (ix_c (by decide)) ?_
  refine ab_lmul dX11_minor_130 ?_
  refine ab_lsub dX11_minor_131 ?_
  refine ab_lmul dX11_minor_132 ?_
  refine ab_ladd dX11_minor_133 ?_
  exact ab_lret dX11_minor_134 rfl (by decide) (⟨rfl, rfl⟩)
/-- the rows of three pairs, over what lay there -/
def rowsM (q7 : Nat → Int32) (q17 : Nat → Int64) : Nat → Int64 := (vp_updL (vp_updL (vp_updL (vp_updL (vp_updL (vp_updL (vp_updL (vp_updL (vp_updL (vp_updL (vp_updL (vp_updL q17 0 (Int32.toInt64 ((Mq_c2 q7 0) * (Mq_n0 q7 0)))) 1 (Int32.toInt64 ((-(Mq_c0 q7 0)) * (Mq_n2 q7 0)))) 2 (Int32.toInt64 (Mq_by q7 0))) 3 (Int32.toInt64 (Mq_b q7 0))) 4 (Int32.toInt64 ((Mq_c2 q7 1) * (Mq_n0 q7 1)))) 5 (Int32.toInt64 ((-(Mq_c0 q7 1)) * (Mq_n2 q7 1)))) 6 (Int32.toInt64 (Mq_by q7 1))) 7 (Int32.toInt64 (Mq_b q7 1))) 8 (Int32.toInt64 ((Mq_c2 q7 2) * (Mq_n0 q7 2)))) 9 (Int32.toInt64 ((-(Mq_c0 q7 2)) * (Mq_n2 q7 2)))) 10 (Int32.toInt64 (Mq_by q7 2))) 11 (Int32.toInt64 (Mq_b q7 2)))
theorem c_X11_three_0 {wc : List ax_E} {m_thrown m_trouble m_fault m_where m_taped m_linkMany m_tracerMany m_pointMany m_pairMany m_readLinks m_readTracers m_readPoints m_readPairs m_textLong m_at m_spot m_token m_whole m_readFault m_readPlace m_value m_curveMany m_cornerMany m_straightAt m_walkLink m_walkAngle m_walkBranch m_walkMany m_lined m_actMany a2 : Int32} {m_n m_c m_d m_s m_e m_k m_x m_y m_g m_a m_fitUp m_fitDown m_worstUp m_worstDown : Int64} {z1 z2 z3 z4 z5 z6 z8 z9 z10 z11 z12 z13 z14 z15 z16 z18 z19 z20 : ax_E} {q7 : Nat → Int32} {q17 : Nat → Int64} (h_l : 0 ≤ m_linkMany ∧ m_linkMany ≤ nI 4) (h_r : 0 ≤ m_pairMany ∧ m_pairMany ≤ nI 4) (h_q2 : (¬ m_linkMany = 0) → (3 ≤ m_pairMany) → (¬ (Mq_m012 (rowsM q7 q17)) = 0) → (Mq_m312 (rowsM q7 q17)).toInt ≠ -2 ^ 63) (h_q3 : (¬ m_linkMany = 0) → (3 ≤ m_pairMany) → (¬ (Mq_m012 (rowsM q7 q17)) = 0) → (Mq_m012 (rowsM q7 q17)).toInt ≠ -2 ^ 63) : Ct M_X11_three [.ref 1000, .int 0, .int a2] (wc, [ob 9 [.int m_thrown, .int m_trouble, .int m_fault, .int m_where, .ref 1001, .ref 1002, .int 40, .ref 1003, .int m_taped, .int m_linkMany, .int m_tracerMany, .int m_pointMany, .int m_pairMany, .ref 1004, .ref 1005, .ref 1006, .ref 1007, .int m_readLinks, .int m_readTracers, .int m_readPoints, .int m_readPairs, .ref 1008, .ref 1009, .ref 1010, .ref 1011, .int m_textLong, .int m_at, .int m_spot, .int m_token, .int m_whole, .int m_readFault, .int m_readPlace, .int m_value, .long m_n, .long m_c, .long m_d, .long m_s, .long m_e, .long m_k, .long m_x, .long m_y, .long m_g, .long m_a, .ref 1012, .ref 1013, .ref 1014, .int m_curveMany, .ref 1015, .int m_cornerMany, .int m_straightAt, .ref 1016, .long m_fitUp, .long m_fitDown, .long m_worstUp, .long m_worstDown, .ref 1017, .int m_walkLink, .int m_walkAngle, .int m_walkBranch, .int m_walkMany, .ref 1018, .ref 1019, .int m_lined, .ref 1020, .int m_actMany], z1, z2, z3, z4, z5, z6, ia 16 q7, z8, z9, z10, z11, z12, z13, z14, z15, z16, ja 12 q17, z18, z19, z20]) (fun r w' => ((m_linkMany = 0) ∧ r = some (.long (-9223372036854775808)) ∧ w' = (wc, [ob 9 [.int 0, .int 1, .int m_fault, .int (-1), .ref 1001, .ref 1002, .int 40, .ref 1003, .int m_taped, .int m_linkMany, .int m_tracerMany, .int m_pointMany, .int m_pairMany, .ref 1004, .ref 1005, .ref 1006, .ref 1007, .int m_readLinks, .int m_readTracers, .int m_readPoints, .int m_readPairs, .ref 1008, .ref 1009, .ref 1010, .ref 1011, .int m_textLong, .int m_at, .int m_spot, .int m_token, .int m_whole, .int m_readFault, .int m_readPlace, .int m_value, .long m_n, .long m_c, .long m_d, .long m_s, .long m_e, .long m_k, .long m_x, .long m_y, .long m_g, .long m_a, .ref 1012, .ref 1013, .ref 1014, .int m_curveMany, .ref 1015, .int m_cornerMany, .int m_straightAt, .ref 1016, .long m_fitUp, .long m_fitDown, .long m_worstUp, .long m_worstDown, .ref 1017, .int m_walkLink, .int m_walkAngle, .int m_walkBranch, .int m_walkMany, .ref 1018, .ref 1019, .int m_lined, .ref 1020, .int m_actMany], z1, z2, z3, z4, z5, z6, ia 16 q7, z8, z9, z10, z11, z12, z13, z14, z15, z16, ja 12 q17, z18, z19, z20])) ∨ ((¬ m_linkMany = 0) ∧ (3 ≤ m_pairMany) ∧ (¬ (Mq_m012 (rowsM q7 q17)) = 0) ∧ r = some (.long (Mp (Mq_m312 (rowsM q7 q17)) (Mq_m012 (rowsM q7 q17)) a2)) ∧ w' = (wc, [ob 9 [.int 0, .int 0, .int m_fault, .int (-1), .ref 1001, .ref 1002, .int 40, .ref 1003, .int m_taped, .int m_linkMany, .int m_tracerMany, .int m_pointMany, .int m_pairMany, .ref 1004, .ref 1005, .ref 1006, .ref 1007, .int m_readLinks, .int m_readTracers, .int m_readPoints, .int m_readPairs, .ref 1008, .ref 1009, .ref 1010, .ref 1011, .int m_textLong, .int m_at, .int m_spot, .int m_token, .int m_whole, .int m_readFault, .int m_readPlace, .int m_value, .long m_n, .long m_c, .long m_d, .long m_s, .long m_e, .long m_k, .long m_x, .long m_y, .long m_g, .long m_a, .ref 1012, .ref 1013, .ref 1014, .int m_curveMany, .ref 1015, .int m_cornerMany, .int m_straightAt, .ref 1016, .long m_fitUp, .long m_fitDown, .long m_worstUp, .long m_worstDown, .ref 1017, .int m_walkLink, .int m_walkAngle, .int m_walkBranch, .int m_walkMany, .ref 1018, .ref 1019, .int m_lined, .ref 1020, .int m_actMany], z1, z2, z3, z4, z5, z6, ia 16 q7, z8, z9, z10, z11, z12, z13, z14, z15, z16, ja 12 (rowsM q7 q17), z18, z19, z20])) ∨ ((¬ m_linkMany = 0) ∧ (3 ≤ m_pairMany) ∧ ((Mq_m012 (rowsM q7 q17)) = 0) ∧ r = some (.long (-9223372036854775808)) ∧ w' = (wc, [ob 9 [.int 0, .int 5, .int m_fault, .int (-1), .ref 1001, .ref 1002, .int 40, .ref 1003, .int m_taped, .int m_linkMany, .int m_tracerMany, .int m_pointMany, .int m_pairMany, .ref 1004, .ref 1005, .ref 1006, .ref 1007, .int m_readLinks, .int m_readTracers, .int m_readPoints, .int m_readPairs, .ref 1008, .ref 1009, .ref 1010, .ref 1011, .int m_textLong, .int m_at, .int m_spot, .int m_token, .int m_whole, .int m_readFault, .int m_readPlace, .int m_value, .long m_n, .long m_c, .long m_d, .long m_s, .long m_e, .long m_k, .long m_x, .long m_y, .long m_g, .long m_a, .ref 1012, .ref 1013, .ref 1014, .int m_curveMany, .ref 1015, .int m_cornerMany, .int m_straightAt, .ref 1016, .long m_fitUp, .long m_fitDown, .long m_worstUp, .long m_worstDown, .ref 1017, .int m_walkLink, .int m_walkAngle, .int m_walkBranch, .int m_walkMany, .ref 1018, .ref 1019, .int m_lined, .ref 1020, .int m_actMany], z1, z2, z3, z4, z5, z6, ia 16 q7, z8, z9, z10, z11, z12, z13, z14, z15, z16, ja 12 (rowsM q7 q17), z18, z19, z20])) ∨ ((¬ m_linkMany = 0) ∧ (¬ 3 ≤ m_pairMany) ∧ r = some (.long (-9223372036854775808)) ∧ w' = (wc, [ob 9 [.int 0, .int 5, .int m_fault, .int (-1), .ref 1001, .ref 1002, .int 40, .ref 1003, .int m_taped, .int m_linkMany, .int m_tracerMany, .int m_pointMany, .int m_pairMany, .ref 1004, .ref 1005, .ref 1006, .ref 1007, .int m_readLinks, .int m_readTracers, .int m_readPoints, .int m_readPairs, .ref 1008, .ref 1009, .ref 1010, .ref 1011, .int m_textLong, .int m_at, .int m_spot, .int m_token, .int m_whole, .int m_readFault, .int m_readPlace, .int m_value, .long m_n, .long m_c, .long m_d, .long m_s, .long m_e, .long m_k, .long m_x, .long m_y, .long m_g, .long m_a, .ref 1012, .ref 1013, .ref 1014, .int m_curveMany, .ref 1015, .int m_cornerMany, .int m_straightAt, .ref 1016, .long m_fitUp, .long m_fitDown, .long m_worstUp, .long m_worstDown, .ref 1017, .int m_walkLink, .int m_walkAngle, .int m_walkBranch, .int m_walkMany, .ref 1018, .ref 1019, .int m_lined, .ref 1020, .int m_actMany], z1, z2, z3, z4, z5, z6, ia 16 q7, z8, z9, z10, z11, z12, z13, z14, z15, z16, ja 12 q17, z18, z19, z20]))) := by
  refine ct_of ⟨by decide, rfl⟩ (Nat.le_of_ble_eq_true rfl) ?_
  refine ab_aload_n dX11_three_0 rfl ?_
  refine ab_callV (As := []) (rest := []) dX11_three_1 mv_X11_anew ml_X11_104 ⟨by decide, by decide, rfl, rfl, rfl⟩ (by decide) rfl rfl (Nat.le_of_ble_eq_true rfl) rfl c_X11_anew ?_
  rintro r w' ⟨rfl, rfl⟩
  refine ab_aload_n dX11_three_4 rfl ?_
  refine ab_getf dX11_three_5 fl_X11_233 rfl rfl ?_
  refine ab_ifeq 20 dX11_three_8 (by decide) (fun h_1 => ?_) (fun h_1 => ?_)
  · refine ab_aload_n dX11_three_20 rfl ?_
    refine ab_iconst (v := 1) dX11_three_21 (by decide) ?_
    refine ab_callV (As := [.int 1]) (rest := []) dX11_three_22 mv_X11_lowest ml_X11_304 ⟨by decide, by decide, rfl, rfl, rfl⟩ (by decide) rfl rfl (Nat.le_of_ble_eq_true rfl) rfl c_X11_lowest ?_
    rintro r w' ⟨rfl, rfl⟩
    exact ab_lret dX11_three_25 rfl (by decide) (Or.inl ⟨h_1, rfl, rfl⟩)
  · refine ab_iload_n dX11_three_11 rfl ?_
    refine ab_iconst (v := 0) dX11_three_12 (by decide) ?_
    refine ab_iconst (v := 2) dX11_three_13 (by decide) ?_
    refine ab_callS (As := [.int 0, .int 0, .int 2]) (rest := []) dX11_three_14 ms_X11_in ml_X11_107 ⟨by decide, by decide, rfl, rfl, rfl⟩ (by decide) rfl rfl (Nat.le_of_ble_eq_true rfl) c_X11_in ?_
    rintro r w' (⟨c_2, rfl, rfl⟩ | ⟨c_3, rfl, rfl⟩)
    · refine ab_ifne 26 dX11_three_17 (by decide) (fun h_4 => ?_) (fun h_4 => absurd h_4 (by decide))
      refine ab_aload_n dX11_three_26 rfl ?_
      refine ab_getf dX11_three_27 fl_X11_242 rfl rfl ?_
      refine ab_iconst (v := 3) dX11_three_30 (by decide) ?_
      refine ab_icmpge 40 dX11_three_31 (by decide) (fun h_5 => ?_) (fun h_5 => ?_)
      · refine ab_iconst (v := 0) dX11_three_40 (by decide) ?_
        refine ab_istore_n (la' := [(3, .int 0), (0, .ref 1000), (1, .int 0), (2, .int a2)]) dX11_three_41 (by decide) rfl ?_
        refine ab_iload_n dX11_three_42 rfl ?_
        refine ab_iconst (v := 3) dX11_three_43 (by decide) ?_
        refine ab_icmpge 132 dX11_three_44 (by decide) (fun h_6 => absurd h_6 (by decide)) (fun h_6 => ?_)
        refine ab_aload_n dX11_three_47 rfl ?_
        refine ab_getf dX11_three_48 fl_X11_81 rfl rfl ?_
        refine ab_iconst (v := 4) dX11_three_51 (by decide) ?_
        refine ab_iload_n dX11_three_52 rfl ?_
        refine ab_imul dX11_three_53 ?_
        refine ab_topi (v := 0) (by decide) ?_
        refine ab_aload_n dX11_three_54 rfl ?_
        refine ab_iload_n dX11_three_55 rfl ?_
        refine ab_iconst (v := 2) dX11_three_56 (by decide) ?_
        refine ab_callV (As := [.int 0, .int 2]) (rest := [.int 0, .ref 1017]) dX11_three_57 mv_X11_cosOf ml_X11_492 ⟨by decide, by decide, rfl, rfl, rfl⟩ (by decide) rfl rfl (Nat.le_of_ble_eq_true rfl) rfl (c_X11_cosOf_2 (ge3 h_5 0 (by decide)) h_r) ?_
        rintro r w' ⟨rfl, rfl⟩
        refine ab_aload_n dX11_three_60 rfl ?_
        refine ab_iload_n dX11_three_61 rfl ?_
        refine ab_iconst (v := 0) dX11_three_62 (by decide) ?_
        refine ab_callV (As := [.int 0, .int 0]) (rest := [.int (Mq_c2 q7 0), .int 0, .ref 1017]) dX11_three_63 mv_X11_normOf ml_X11_498 ⟨by decide, by decide, rfl, rfl, rfl⟩ (by decide) rfl rfl (Nat.le_of_ble_eq_true rfl) rfl (c_X11_normOf_0 (ge3 h_5 0 (by decide)) h_r) ?_
        rintro r w' ⟨rfl, rfl⟩
        refine ab_imul dX11_three_66 ?_
        refine ab_i2l dX11_three_67 ?_
        refine ab_last (w1 := (wc, [ob 9 [.int 0, .int 0, .int m_fault, .int (-1), .ref 1001, .ref 1002, .int 40, .ref 1003, .int m_taped, .int m_linkMany, .int m_tracerMany, .int m_pointMany, .int m_pairMany, .ref 1004, .ref 1005, .ref 1006, .ref 1007, .int m_readLinks, .int m_readTracers, .int m_readPoints, .int m_readPairs, .ref 1008, .ref 1009, .ref 1010, .ref 1011, .int m_textLong, .int m_at, .int m_spot, .int m_token, .int m_whole, .int m_readFault, .int m_readPlace, .int m_value, .long m_n, .long m_c, .long m_d, .long m_s, .long m_e, .long m_k, .long m_x, .long m_y, .long m_g, .long m_a, .ref 1012, .ref 1013, .ref 1014, .int m_curveMany, .ref 1015, .int m_cornerMany, .int m_straightAt, .ref 1016, .long m_fitUp, .long m_fitDown, .long m_worstUp, .long m_worstDown, .ref 1017, .int m_walkLink, .int m_walkAngle, .int m_walkBranch, .int m_walkMany, .ref 1018, .ref 1019, .int m_lined, .ref 1020, .int m_actMany], z1, z2, z3, z4, z5, z6, ia 16 q7, z8, z9, z10, z11, z12, z13, z14, z15, z16, ja 12 (vp_updL q17 0 (Int32.toInt64 ((Mq_c2 q7 0) * (Mq_n0 q7 0)))), z18, z19, z20])) dX11_three_68 rfl (ix_c (by decide)) rfl ?_
        refine ab_aload_n dX11_three_69 rfl ?_
        refine ab_getf dX11_three_70 fl_X11_81 rfl rfl ?_
        refine ab_iconst (v := 4) dX11_three_73 (by decide) ?_
        refine ab_iload_n dX11_three_74 rfl ?_
        refine ab_imul dX11_three_75 ?_
        refine ab_topi (v := 0) (by decide) ?_
        refine ab_iconst (v := 1) dX11_three_76 (by decide) ?_
        refine ab_iadd dX11_three_77 ?_
        refine ab_topi (v := 1) (by decide) ?_
        refine ab_aload_n dX11_three_78 rfl ?_
        refine ab_iload_n dX11_three_79 rfl ?_
        refine ab_iconst (v := 0) dX11_three_80 (by decide) ?_
        refine ab_callV (As := [.int 0, .int 0]) (rest := [.int 1, .ref 1017]) dX11_three_81 mv_X11_cosOf ml_X11_492 ⟨by decide, by decide, rfl, rfl, rfl⟩ (by decide) rfl rfl (Nat.le_of_ble_eq_true rfl) rfl (c_X11_cosOf_0 (ge3 h_5 0 (by decide)) h_r) ?_
        rintro r w' ⟨rfl, rfl⟩
        refine ab_ineg dX11_three_84 ?_
        refine ab_aload_n dX11_three_85 rfl ?_
        refine ab_iload_n dX11_three_86 rfl ?_
        refine ab_iconst (v := 2) dX11_three_87 (by decide) ?_
        refine ab_callV (As := [.int 0, .int 2]) (rest := [.int (-(Mq_c0 q7 0)), .int 1, .ref 1017]) dX11_three_88 mv_X11_normOf ml_X11_498 ⟨by decide, by decide, rfl, rfl, rfl⟩ (by decide) rfl rfl (Nat.le_of_ble_eq_true rfl) rfl (c_X11_normOf_2 (ge3 h_5 0 (by decide)) h_r) ?_
        rintro r w' ⟨rfl, rfl⟩
        refine ab_imul dX11_three_91 ?_
        refine ab_i2l dX11_three_92 ?_
        refine ab_last (w1 := (wc, [ob 9 [.int 0, .int 0, .int m_fault, .int (-1), .ref 1001, .ref 1002, .int 40, .ref 1003, .int m_taped, .int m_linkMany, .int m_tracerMany, .int m_pointMany, .int m_pairMany, .ref 1004, .ref 1005, .ref 1006, .ref 1007, .int m_readLinks, .int m_readTracers, .int m_readPoints, .int m_readPairs, .ref 1008, .ref 1009, .ref 1010, .ref 1011, .int m_textLong, .int m_at, .int m_spot, .int m_token, .int m_whole, .int m_readFault, .int m_readPlace, .int m_value, .long m_n, .long m_c, .long m_d, .long m_s, .long m_e, .long m_k, .long m_x, .long m_y, .long m_g, .long m_a, .ref 1012, .ref 1013, .ref 1014, .int m_curveMany, .ref 1015, .int m_cornerMany, .int m_straightAt, .ref 1016, .long m_fitUp, .long m_fitDown, .long m_worstUp, .long m_worstDown, .ref 1017, .int m_walkLink, .int m_walkAngle, .int m_walkBranch, .int m_walkMany, .ref 1018, .ref 1019, .int m_lined, .ref 1020, .int m_actMany], z1, z2, z3, z4, z5, z6, ia 16 q7, z8, z9, z10, z11, z12, z13, z14, z15, z16, ja 12 (vp_updL (vp_updL q17 0 (Int32.toInt64 ((Mq_c2 q7 0) * (Mq_n0 q7 0)))) 1 (Int32.toInt64 ((-(Mq_c0 q7 0)) * (Mq_n2 q7 0)))), z18, z19, z20])) dX11_three_93 rfl (ix_c (by decide)) rfl ?_
        refine ab_aload_n dX11_three_94 rfl ?_
        refine ab_getf dX11_three_95 fl_X11_81 rfl rfl ?_
        refine ab_iconst (v := 4) dX11_three_98 (by decide) ?_
        refine ab_iload_n dX11_three_99 rfl ?_
        refine ab_imul dX11_three_100 ?_
        refine ab_topi (v := 0) (by decide) ?_
        refine ab_iconst (v := 2) dX11_three_101 (by decide) ?_
        refine ab_iadd dX11_three_102 ?_
        refine ab_topi (v := 2) (by decide) ?_
        refine ab_aload_n dX11_three_103 rfl ?_
        refine ab_iload_n dX11_three_104 rfl ?_
        refine ab_callV (As := [.int 0]) (rest := [.int 2, .ref 1017]) dX11_three_105 mv_X11_byOf ml_X11_501 ⟨by decide, by decide, rfl, rfl, rfl⟩ (by decide) rfl rfl (Nat.le_of_ble_eq_true rfl) rfl (c_X11_byOf (ge3 h_5 0 (by decide)) h_r) ?_
        rintro r w' ⟨rfl, rfl⟩
        refine ab_i2l dX11_three_108 ?_
        refine ab_last (w1 := (wc, [ob 9 [.int 0, .int 0, .int m_fault, .int (-1), .ref 1001, .ref 1002, .int 40, .ref 1003, .int m_taped, .int m_linkMany, .int m_tracerMany, .int m_pointMany, .int m_pairMany, .ref 1004, .ref 1005, .ref 1006, .ref 1007, .int m_readLinks, .int m_readTracers, .int m_readPoints, .int m_readPairs, .ref 1008, .ref 1009, .ref 1010, .ref 1011, .int m_textLong, .int m_at, .int m_spot, .int m_token, .int m_whole, .int m_readFault, .int m_readPlace, .int m_value, .long m_n, .long m_c, .long m_d, .long m_s, .long m_e, .long m_k, .long m_x, .long m_y, .long m_g, .long m_a, .ref 1012, .ref 1013, .ref 1014, .int m_curveMany, .ref 1015, .int m_cornerMany, .int m_straightAt, .ref 1016, .long m_fitUp, .long m_fitDown, .long m_worstUp, .long m_worstDown, .ref 1017, .int m_walkLink, .int m_walkAngle, .int m_walkBranch, .int m_walkMany, .ref 1018, .ref 1019, .int m_lined, .ref 1020, .int m_actMany], z1, z2, z3, z4, z5, z6, ia 16 q7, z8, z9, z10, z11, z12, z13, z14, z15, z16, ja 12 (vp_updL (vp_updL (vp_updL q17 0 (Int32.toInt64 ((Mq_c2 q7 0) * (Mq_n0 q7 0)))) 1 (Int32.toInt64 ((-(Mq_c0 q7 0)) * (Mq_n2 q7 0)))) 2 (Int32.toInt64 (Mq_by q7 0))), z18, z19, z20])) dX11_three_109 rfl (ix_c (by decide)) rfl ?_
        refine ab_aload_n dX11_three_110 rfl ?_
        refine ab_getf dX11_three_111 fl_X11_81 rfl rfl ?_
        refine ab_iconst (v := 4) dX11_three_114 (by decide) ?_
        refine ab_iload_n dX11_three_115 rfl ?_
        refine ab_imul dX11_three_116 ?_
        refine ab_topi (v := 0) (by decide) ?_
        refine ab_iconst (v := 3) dX11_three_117 (by decide) ?_
        refine ab_iadd dX11_three_118 ?_
        refine ab_topi (v := 3) (by decide) ?_
        refine ab_aload_n dX11_three_119 rfl ?_
        refine ab_iload_n dX11_three_120 rfl ?_
        refine ab_callV (As := [.int 0]) (rest := [.int 3, .ref 1017]) dX11_three_121 mv_X11_bothOf ml_X11_504 ⟨by decide, by decide, rfl, rfl, rfl⟩ (by decide) rfl rfl (Nat.le_of_ble_eq_true rfl) rfl (c_X11_bothOf (ge3 h_5 0 (by decide)) h_r) ?_
        rintro r w' ⟨rfl, rfl⟩
        refine ab_i2l dX11_three_124 ?_
        refine ab_last (w1 := (wc, [ob 9 [.int 0, .int 0, .int m_fault, .int (-1), .ref 1001, .ref 1002, .int 40, .ref 1003, .int m_taped, .int m_linkMany, .int m_tracerMany, .int m_pointMany, .int m_pairMany, .ref 1004, .ref 1005, .ref 1006, .ref 1007, .int m_readLinks, .int m_readTracers, .int m_readPoints, .int m_readPairs, .ref 1008, .ref 1009, .ref 1010, .ref 1011, .int m_textLong, .int m_at, .int m_spot, .int m_token, .int m_whole, .int m_readFault, .int m_readPlace, .int m_value, .long m_n, .long m_c, .long m_d, .long m_s, .long m_e, .long m_k, .long m_x, .long m_y, .long m_g, .long m_a, .ref 1012, .ref 1013, .ref 1014, .int m_curveMany, .ref 1015, .int m_cornerMany, .int m_straightAt, .ref 1016, .long m_fitUp, .long m_fitDown, .long m_worstUp, .long m_worstDown, .ref 1017, .int m_walkLink, .int m_walkAngle, .int m_walkBranch, .int m_walkMany, .ref 1018, .ref 1019, .int m_lined, .ref 1020, .int m_actMany], z1, z2, z3, z4, z5, z6, ia 16 q7, z8, z9, z10, z11, z12, z13, z14, z15, z16, ja 12 (vp_updL (vp_updL (vp_updL (vp_updL q17 0 (Int32.toInt64 ((Mq_c2 q7 0) * (Mq_n0 q7 0)))) 1 (Int32.toInt64 ((-(Mq_c0 q7 0)) * (Mq_n2 q7 0)))) 2 (Int32.toInt64 (Mq_by q7 0))) 3 (Int32.toInt64 (Mq_b q7 0))), z18, z19, z20])) dX11_three_125 rfl (ix_c (by decide)) rfl ?_
        refine ab_iinc (v := 1) (la' := [(3, .int 1), (0, .ref 1000), (1, .int 0), (2, .int a2)]) dX11_three_126 rfl (by decide) (by decide) rfl ?_
        refine ab_goto 42 dX11_three_129 (by decide) ?_
        refine ab_iload_n dX11_three_42 rfl ?_
        refine ab_iconst (v := 3) dX11_three_43 (by decide) ?_
        refine ab_icmpge 132 dX11_three_44 (by decide) (fun h_7 => absurd h_7 (by decide)) (fun h_7 => ?_)
        refine ab_aload_n dX11_three_47 rfl ?_
        refine ab_getf dX11_three_48 fl_X11_81 rfl rfl ?_
        refine ab_iconst (v := 4) dX11_three_51 (by decide) ?_
        refine ab_iload_n dX11_three_52 rfl ?_
        refine ab_imul dX11_three_53 ?_
        refine ab_topi (v := 4) (by decide) ?_
        refine ab_aload_n dX11_three_54 rfl ?_
        refine ab_iload_n dX11_three_55 rfl ?_
        refine ab_iconst (v := 2) dX11_three_56 (by decide) ?_
        refine ab_callV (As := [.int 1, .int 2]) (rest := [.int 4, .ref 1017]) dX11_three_57 mv_X11_cosOf ml_X11_492 ⟨by decide, by decide, rfl, rfl, rfl⟩ (by decide) rfl rfl (Nat.le_of_ble_eq_true rfl) rfl (c_X11_cosOf_2 (ge3 h_5 1 (by decide)) h_r) ?_
        rintro r w' ⟨rfl, rfl⟩
        refine ab_aload_n dX11_three_60 rfl ?_
        refine ab_iload_n dX11_three_61 rfl ?_
        refine ab_iconst (v := 0) dX11_three_62 (by decide) ?_
        refine ab_callV (As := [.int 1, .int 0]) (rest := [.int (Mq_c2 q7 1), .int 4, .ref 1017]) dX11_three_63 mv_X11_normOf ml_X11_498 ⟨by decide, by decide, rfl, rfl, rfl⟩ (by decide) rfl rfl (Nat.le_of_ble_eq_true rfl) rfl (c_X11_normOf_0 (ge3 h_5 1 (by decide)) h_r) ?_
        rintro r w' ⟨rfl, rfl⟩
        refine ab_imul dX11_three_66 ?_
        refine ab_i2l dX11_three_67 ?_
        refine ab_last (w1 := (wc, [ob 9 [.int 0, .int 0, .int m_fault, .int (-1), .ref 1001, .ref 1002, .int 40, .ref 1003, .int m_taped, .int m_linkMany, .int m_tracerMany, .int m_pointMany, .int m_pairMany, .ref 1004, .ref 1005, .ref 1006, .ref 1007, .int m_readLinks, .int m_readTracers, .int m_readPoints, .int m_readPairs, .ref 1008, .ref 1009, .ref 1010, .ref 1011, .int m_textLong, .int m_at, .int m_spot, .int m_token, .int m_whole, .int m_readFault, .int m_readPlace, .int m_value, .long m_n, .long m_c, .long m_d, .long m_s, .long m_e, .long m_k, .long m_x, .long m_y, .long m_g, .long m_a, .ref 1012, .ref 1013, .ref 1014, .int m_curveMany, .ref 1015, .int m_cornerMany, .int m_straightAt, .ref 1016, .long m_fitUp, .long m_fitDown, .long m_worstUp, .long m_worstDown, .ref 1017, .int m_walkLink, .int m_walkAngle, .int m_walkBranch, .int m_walkMany, .ref 1018, .ref 1019, .int m_lined, .ref 1020, .int m_actMany], z1, z2, z3, z4, z5, z6, ia 16 q7, z8, z9, z10, z11, z12, z13, z14, z15, z16, ja 12 (vp_updL (vp_updL (vp_updL (vp_updL (vp_updL q17 0 (Int32.toInt64 ((Mq_c2 q7 0) * (Mq_n0 q7 0)))) 1 (Int32.toInt64 ((-(Mq_c0 q7 0)) * (Mq_n2 q7 0)))) 2 (Int32.toInt64 (Mq_by q7 0))) 3 (Int32.toInt64 (Mq_b q7 0))) 4 (Int32.toInt64 ((Mq_c2 q7 1) * (Mq_n0 q7 1)))), z18, z19, z20])) dX11_three_68 rfl (ix_c (by decide)) rfl ?_
        refine ab_aload_n dX11_three_69 rfl ?_
        refine ab_getf dX11_three_70 fl_X11_81 rfl rfl ?_
        refine ab_iconst (v := 4) dX11_three_73 (by decide) ?_
        refine ab_iload_n dX11_three_74 rfl ?_
        refine ab_imul dX11_three_75 ?_
        refine ab_topi (v := 4) (by decide) ?_
        refine ab_iconst (v := 1) dX11_three_76 (by decide) ?_
        refine ab_iadd dX11_three_77 ?_
        refine ab_topi (v := 5) (by decide) ?_
        refine ab_aload_n dX11_three_78 rfl ?_
        refine ab_iload_n dX11_three_79 rfl ?_
        refine ab_iconst (v := 0) dX11_three_80 (by decide) ?_
        refine ab_callV (As := [.int 1, .int 0]) (rest := [.int 5, .ref 1017]) dX11_three_81 mv_X11_cosOf ml_X11_492 ⟨by decide, by decide, rfl, rfl, rfl⟩ (by decide) rfl rfl (Nat.le_of_ble_eq_true rfl) rfl (c_X11_cosOf_0 (ge3 h_5 1 (by decide)) h_r) ?_
        rintro r w' ⟨rfl, rfl⟩
        refine ab_ineg dX11_three_84 ?_
        refine ab_aload_n dX11_three_85 rfl ?_
        refine ab_iload_n dX11_three_86 rfl ?_
        refine ab_iconst (v := 2) dX11_three_87 (by decide) ?_
        refine ab_callV (As := [.int 1, .int 2]) (rest := [.int (-(Mq_c0 q7 1)), .int 5, .ref 1017]) dX11_three_88 mv_X11_normOf ml_X11_498 ⟨by decide, by decide, rfl, rfl, rfl⟩ (by decide) rfl rfl (Nat.le_of_ble_eq_true rfl) rfl (c_X11_normOf_2 (ge3 h_5 1 (by decide)) h_r) ?_
        rintro r w' ⟨rfl, rfl⟩
        refine ab_imul dX11_three_91 ?_
        refine ab_i2l dX11_three_92 ?_
        refine ab_last (w1 := (wc, [ob 9 [.int 0, .int 0, .int m_fault, .int (-1), .ref 1001, .ref 1002, .int 40, .ref 1003, .int m_taped, .int m_linkMany, .int m_tracerMany, .int m_pointMany, .int m_pairMany, .ref 1004, .ref 1005, .ref 1006, .ref 1007, .int m_readLinks, .int m_readTracers, .int m_readPoints, .int m_readPairs, .ref 1008, .ref 1009, .ref 1010, .ref 1011, .int m_textLong, .int m_at, .int m_spot, .int m_token, .int m_whole, .int m_readFault, .int m_readPlace, .int m_value, .long m_n, .long m_c, .long m_d, .long m_s, .long m_e, .long m_k, .long m_x, .long m_y, .long m_g, .long m_a, .ref 1012, .ref 1013, .ref 1014, .int m_curveMany, .ref 1015, .int m_cornerMany, .int m_straightAt, .ref 1016, .long m_fitUp, .long m_fitDown, .long m_worstUp, .long m_worstDown, .ref 1017, .int m_walkLink, .int m_walkAngle, .int m_walkBranch, .int m_walkMany, .ref 1018, .ref 1019, .int m_lined, .ref 1020, .int m_actMany], z1, z2, z3, z4, z5, z6, ia 16 q7, z8, z9, z10, z11, z12, z13, z14, z15, z16, ja 12 (vp_updL (vp_updL (vp_updL (vp_updL (vp_updL (vp_updL q17 0 (Int32.toInt64 ((Mq_c2 q7 0) * (Mq_n0 q7 0)))) 1 (Int32.toInt64 ((-(Mq_c0 q7 0)) * (Mq_n2 q7 0)))) 2 (Int32.toInt64 (Mq_by q7 0))) 3 (Int32.toInt64 (Mq_b q7 0))) 4 (Int32.toInt64 ((Mq_c2 q7 1) * (Mq_n0 q7 1)))) 5 (Int32.toInt64 ((-(Mq_c0 q7 1)) * (Mq_n2 q7 1)))), z18, z19, z20])) dX11_three_93 rfl (ix_c (by decide)) rfl ?_
        refine ab_aload_n dX11_three_94 rfl ?_
        refine ab_getf dX11_three_95 fl_X11_81 rfl rfl ?_
        refine ab_iconst (v := 4) dX11_three_98 (by decide) ?_
        refine ab_iload_n dX11_three_99 rfl ?_
        refine ab_imul dX11_three_100 ?_
        refine ab_topi (v := 4) (by decide) ?_
        refine ab_iconst (v := 2) dX11_three_101 (by decide) ?_
        refine ab_iadd dX11_three_102 ?_
        refine ab_topi (v := 6) (by decide) ?_
        refine ab_aload_n dX11_three_103 rfl ?_
        refine ab_iload_n dX11_three_104 rfl ?_
        refine ab_callV (As := [.int 1]) (rest := [.int 6, .ref 1017]) dX11_three_105 mv_X11_byOf ml_X11_501 ⟨by decide, by decide, rfl, rfl, rfl⟩ (by decide) rfl rfl (Nat.le_of_ble_eq_true rfl) rfl (c_X11_byOf (ge3 h_5 1 (by decide)) h_r) ?_
        rintro r w' ⟨rfl, rfl⟩
        refine ab_i2l dX11_three_108 ?_
        refine ab_last (w1 := (wc, [ob 9 [.int 0, .int 0, .int m_fault, .int (-1), .ref 1001, .ref 1002, .int 40, .ref 1003, .int m_taped, .int m_linkMany, .int m_tracerMany, .int m_pointMany, .int m_pairMany, .ref 1004, .ref 1005, .ref 1006, .ref 1007, .int m_readLinks, .int m_readTracers, .int m_readPoints, .int m_readPairs, .ref 1008, .ref 1009, .ref 1010, .ref 1011, .int m_textLong, .int m_at, .int m_spot, .int m_token, .int m_whole, .int m_readFault, .int m_readPlace, .int m_value, .long m_n, .long m_c, .long m_d, .long m_s, .long m_e, .long m_k, .long m_x, .long m_y, .long m_g, .long m_a, .ref 1012, .ref 1013, .ref 1014, .int m_curveMany, .ref 1015, .int m_cornerMany, .int m_straightAt, .ref 1016, .long m_fitUp, .long m_fitDown, .long m_worstUp, .long m_worstDown, .ref 1017, .int m_walkLink, .int m_walkAngle, .int m_walkBranch, .int m_walkMany, .ref 1018, .ref 1019, .int m_lined, .ref 1020, .int m_actMany], z1, z2, z3, z4, z5, z6, ia 16 q7, z8, z9, z10, z11, z12, z13, z14, z15, z16, ja 12 (vp_updL (vp_updL (vp_updL (vp_updL (vp_updL (vp_updL (vp_updL q17 0 (Int32.toInt64 ((Mq_c2 q7 0) * (Mq_n0 q7 0)))) 1 (Int32.toInt64 ((-(Mq_c0 q7 0)) * (Mq_n2 q7 0)))) 2 (Int32.toInt64 (Mq_by q7 0))) 3 (Int32.toInt64 (Mq_b q7 0))) 4 (Int32.toInt64 ((Mq_c2 q7 1) * (Mq_n0 q7 1)))) 5 (Int32.toInt64 ((-(Mq_c0 q7 1)) * (Mq_n2 q7 1)))) 6 (Int32.toInt64 (Mq_by q7 1))), z18, z19, z20])) dX11_three_109 rfl (ix_c (by decide)) rfl ?_
        refine ab_aload_n dX11_three_110 rfl ?_
        refine ab_getf dX11_three_111 fl_X11_81 rfl rfl ?_
        refine ab_iconst (v := 4) dX11_three_114 (by decide) ?_
        refine ab_iload_n dX11_three_115 rfl ?_
        refine ab_imul dX11_three_116 ?_
        refine ab_topi (v := 4) (by decide) ?_
        refine ab_iconst (v := 3) dX11_three_117 (by decide) ?_
        refine ab_iadd dX11_three_118 ?_
        refine ab_topi (v := 7) (by decide) ?_
        refine ab_aload_n dX11_three_119 rfl ?_
        refine ab_iload_n dX11_three_120 rfl ?_
        refine ab_callV (As := [.int 1]) (rest := [.int 7, .ref 1017]) dX11_three_121 mv_X11_bothOf ml_X11_504 ⟨by decide, by decide, rfl, rfl, rfl⟩ (by decide) rfl rfl (Nat.le_of_ble_eq_true rfl) rfl (c_X11_bothOf (ge3 h_5 1 (by decide)) h_r) ?_
        rintro r w' ⟨rfl, rfl⟩
        refine ab_i2l dX11_three_124 ?_
        refine ab_last (w1 := (wc, [ob 9 [.int 0, .int 0, .int m_fault, .int (-1), .ref 1001, .ref 1002, .int 40, .ref 1003, .int m_taped, .int m_linkMany, .int m_tracerMany, .int m_pointMany, .int m_pairMany, .ref 1004, .ref 1005, .ref 1006, .ref 1007, .int m_readLinks, .int m_readTracers, .int m_readPoints, .int m_readPairs, .ref 1008, .ref 1009, .ref 1010, .ref 1011, .int m_textLong, .int m_at, .int m_spot, .int m_token, .int m_whole, .int m_readFault, .int m_readPlace, .int m_value, .long m_n, .long m_c, .long m_d, .long m_s, .long m_e, .long m_k, .long m_x, .long m_y, .long m_g, .long m_a, .ref 1012, .ref 1013, .ref 1014, .int m_curveMany, .ref 1015, .int m_cornerMany, .int m_straightAt, .ref 1016, .long m_fitUp, .long m_fitDown, .long m_worstUp, .long m_worstDown, .ref 1017, .int m_walkLink, .int m_walkAngle, .int m_walkBranch, .int m_walkMany, .ref 1018, .ref 1019, .int m_lined, .ref 1020, .int m_actMany], z1, z2, z3, z4, z5, z6, ia 16 q7, z8, z9, z10, z11, z12, z13, z14, z15, z16, ja 12 (vp_updL (vp_updL (vp_updL (vp_updL (vp_updL (vp_updL (vp_updL (vp_updL q17 0 (Int32.toInt64 ((Mq_c2 q7 0) * (Mq_n0 q7 0)))) 1 (Int32.toInt64 ((-(Mq_c0 q7 0)) * (Mq_n2 q7 0)))) 2 (Int32.toInt64 (Mq_by q7 0))) 3 (Int32.toInt64 (Mq_b q7 0))) 4 (Int32.toInt64 ((Mq_c2 q7 1) * (Mq_n0 q7 1)))) 5 (Int32.toInt64 ((-(Mq_c0 q7 1)) * (Mq_n2 q7 1)))) 6 (Int32.toInt64 (Mq_by q7 1))) 7 (Int32.toInt64 (Mq_b q7 1))), z18, z19, z20])) dX11_three_125 rfl (ix_c (by decide)) rfl ?_
        refine ab_iinc (v := 2) (la' := [(3, .int 2), (0, .ref 1000), (1, .int 0), (2, .int a2)]) dX11_three_126 rfl (by decide) (by decide) rfl ?_
        refine ab_goto 42 dX11_three_129 (by decide) ?_
        refine ab_iload_n dX11_three_42 rfl ?_
        refine ab_iconst (v := 3) dX11_three_43 (by decide) ?_
        refine ab_icmpge 132 dX11_three_44 (by decide) (fun h_8 => absurd h_8 (by decide)) (fun h_8 => ?_)
        refine ab_aload_n dX11_three_47 rfl ?_
        refine ab_getf dX11_three_48 fl_X11_81 rfl rfl ?_
        refine ab_iconst (v := 4) dX11_three_51 (by decide) ?_
        refine ab_iload_n dX11_three_52 rfl ?_
        refine ab_imul dX11_three_53 ?_
        refine ab_topi (v := 8) (by decide) ?_
        refine ab_aload_n dX11_three_54 rfl ?_
        refine ab_iload_n dX11_three_55 rfl ?_
        refine ab_iconst (v := 2) dX11_three_56 (by decide) ?_
        refine ab_callV (As := [.int 2, .int 2]) (rest := [.int 8, .ref 1017]) dX11_three_57 mv_X11_cosOf ml_X11_492 ⟨by decide, by decide, rfl, rfl, rfl⟩ (by decide) rfl rfl (Nat.le_of_ble_eq_true rfl) rfl (c_X11_cosOf_2 (ge3 h_5 2 (by decide)) h_r) ?_
        rintro r w' ⟨rfl, rfl⟩
        refine ab_aload_n dX11_three_60 rfl ?_
        refine ab_iload_n dX11_three_61 rfl ?_
        refine ab_iconst (v := 0) dX11_three_62 (by decide) ?_
        refine ab_callV (As := [.int 2, .int 0]) (rest := [.int (Mq_c2 q7 2), .int 8, .ref 1017]) dX11_three_63 mv_X11_normOf ml_X11_498 ⟨by decide, by decide, rfl, rfl, rfl⟩ (by decide) rfl rfl (Nat.le_of_ble_eq_true rfl) rfl (c_X11_normOf_0 (ge3 h_5 2 (by decide)) h_r) ?_
        rintro r w' ⟨rfl, rfl⟩
        refine ab_imul dX11_three_66 ?_
        refine ab_i2l dX11_three_67 ?_
        refine ab_last (w1 := (wc, [ob 9 [.int 0, .int 0, .int m_fault, .int (-1), .ref 1001, .ref 1002, .int 40, .ref 1003, .int m_taped, .int m_linkMany, .int m_tracerMany, .int m_pointMany, .int m_pairMany, .ref 1004, .ref 1005, .ref 1006, .ref 1007, .int m_readLinks, .int m_readTracers, .int m_readPoints, .int m_readPairs, .ref 1008, .ref 1009, .ref 1010, .ref 1011, .int m_textLong, .int m_at, .int m_spot, .int m_token, .int m_whole, .int m_readFault, .int m_readPlace, .int m_value, .long m_n, .long m_c, .long m_d, .long m_s, .long m_e, .long m_k, .long m_x, .long m_y, .long m_g, .long m_a, .ref 1012, .ref 1013, .ref 1014, .int m_curveMany, .ref 1015, .int m_cornerMany, .int m_straightAt, .ref 1016, .long m_fitUp, .long m_fitDown, .long m_worstUp, .long m_worstDown, .ref 1017, .int m_walkLink, .int m_walkAngle, .int m_walkBranch, .int m_walkMany, .ref 1018, .ref 1019, .int m_lined, .ref 1020, .int m_actMany], z1, z2, z3, z4, z5, z6, ia 16 q7, z8, z9, z10, z11, z12, z13, z14, z15, z16, ja 12 (vp_updL (vp_updL (vp_updL (vp_updL (vp_updL (vp_updL (vp_updL (vp_updL (vp_updL q17 0 (Int32.toInt64 ((Mq_c2 q7 0) * (Mq_n0 q7 0)))) 1 (Int32.toInt64 ((-(Mq_c0 q7 0)) * (Mq_n2 q7 0)))) 2 (Int32.toInt64 (Mq_by q7 0))) 3 (Int32.toInt64 (Mq_b q7 0))) 4 (Int32.toInt64 ((Mq_c2 q7 1) * (Mq_n0 q7 1)))) 5 (Int32.toInt64 ((-(Mq_c0 q7 1)) * (Mq_n2 q7 1)))) 6 (Int32.toInt64 (Mq_by q7 1))) 7 (Int32.toInt64 (Mq_b q7 1))) 8 (Int32.toInt64 ((Mq_c2 q7 2) * (Mq_n0 q7 2)))), z18, z19, z20])) dX11_three_68 rfl (ix_c (by decide)) rfl ?_
        refine ab_aload_n dX11_three_69 rfl ?_
        refine ab_getf dX11_three_70 fl_X11_81 rfl rfl ?_
        refine ab_iconst (v := 4) dX11_three_73 (by decide) ?_
        refine ab_iload_n dX11_three_74 rfl ?_
        refine ab_imul dX11_three_75 ?_
        refine ab_topi (v := 8) (by decide) ?_
        refine ab_iconst (v := 1) dX11_three_76 (by decide) ?_
        refine ab_iadd dX11_three_77 ?_
        refine ab_topi (v := 9) (by decide) ?_
        refine ab_aload_n dX11_three_78 rfl ?_
        refine ab_iload_n dX11_three_79 rfl ?_
        refine ab_iconst (v := 0) dX11_three_80 (by decide) ?_
        refine ab_callV (As := [.int 2, .int 0]) (rest := [.int 9, .ref 1017]) dX11_three_81 mv_X11_cosOf ml_X11_492 ⟨by decide, by decide, rfl, rfl, rfl⟩ (by decide) rfl rfl (Nat.le_of_ble_eq_true rfl) rfl (c_X11_cosOf_0 (ge3 h_5 2 (by decide)) h_r) ?_
        rintro r w' ⟨rfl, rfl⟩
        refine ab_ineg dX11_three_84 ?_
        refine ab_aload_n dX11_three_85 rfl ?_
        refine ab_iload_n dX11_three_86 rfl ?_
        refine ab_iconst (v := 2) dX11_three_87 (by decide) ?_
        refine ab_callV (As := [.int 2, .int 2]) (rest := [.int (-(Mq_c0 q7 2)), .int 9, .ref 1017]) dX11_three_88 mv_X11_normOf ml_X11_498 ⟨by decide, by decide, rfl, rfl, rfl⟩ (by decide) rfl rfl (Nat.le_of_ble_eq_true rfl) rfl (c_X11_normOf_2 (ge3 h_5 2 (by decide)) h_r) ?_
        rintro r w' ⟨rfl, rfl⟩
        refine ab_imul dX11_three_91 ?_
        refine ab_i2l dX11_three_92 ?_
        refine ab_last (w1 := (wc, [ob 9 [.int 0, .int 0, .int m_fault, .int (-1), .ref 1001, .ref 1002, .int 40, .ref 1003, .int m_taped, .int m_linkMany, .int m_tracerMany, .int m_pointMany, .int m_pairMany, .ref 1004, .ref 1005, .ref 1006, .ref 1007, .int m_readLinks, .int m_readTracers, .int m_readPoints, .int m_readPairs, .ref 1008, .ref 1009, .ref 1010, .ref 1011, .int m_textLong, .int m_at, .int m_spot, .int m_token, .int m_whole, .int m_readFault, .int m_readPlace, .int m_value, .long m_n, .long m_c, .long m_d, .long m_s, .long m_e, .long m_k, .long m_x, .long m_y, .long m_g, .long m_a, .ref 1012, .ref 1013, .ref 1014, .int m_curveMany, .ref 1015, .int m_cornerMany, .int m_straightAt, .ref 1016, .long m_fitUp, .long m_fitDown, .long m_worstUp, .long m_worstDown, .ref 1017, .int m_walkLink, .int m_walkAngle, .int m_walkBranch, .int m_walkMany, .ref 1018, .ref 1019, .int m_lined, .ref 1020, .int m_actMany], z1, z2, z3, z4, z5, z6, ia 16 q7, z8, z9, z10, z11, z12, z13, z14, z15, z16, ja 12 (vp_updL (vp_updL (vp_updL (vp_updL (vp_updL (vp_updL (vp_updL (vp_updL (vp_updL (vp_updL q17 0 (Int32.toInt64 ((Mq_c2 q7 0) * (Mq_n0 q7 0)))) 1 (Int32.toInt64 ((-(Mq_c0 q7 0)) * (Mq_n2 q7 0)))) 2 (Int32.toInt64 (Mq_by q7 0))) 3 (Int32.toInt64 (Mq_b q7 0))) 4 (Int32.toInt64 ((Mq_c2 q7 1) * (Mq_n0 q7 1)))) 5 (Int32.toInt64 ((-(Mq_c0 q7 1)) * (Mq_n2 q7 1)))) 6 (Int32.toInt64 (Mq_by q7 1))) 7 (Int32.toInt64 (Mq_b q7 1))) 8 (Int32.toInt64 ((Mq_c2 q7 2) * (Mq_n0 q7 2)))) 9 (Int32.toInt64 ((-(Mq_c0 q7 2)) * (Mq_n2 q7 2)))), z18, z19, z20])) dX11_three_93 rfl (ix_c (by decide)) rfl ?_
        refine ab_aload_n dX11_three_94 rfl ?_
        refine ab_getf dX11_three_95 fl_X11_81 rfl rfl ?_
        refine ab_iconst (v := 4) dX11_three_98 (by decide) ?_
        refine ab_iload_n dX11_three_99 rfl ?_
        refine ab_imul dX11_three_100 ?_
        refine ab_topi (v := 8) (by decide) ?_
        refine ab_iconst (v := 2) dX11_three_101 (by decide) ?_
        refine ab_iadd dX11_three_102 ?_
        refine ab_topi (v := 10) (by decide) ?_
        refine ab_aload_n dX11_three_103 rfl ?_
        refine ab_iload_n dX11_three_104 rfl ?_
        refine ab_callV (As := [.int 2]) (rest := [.int 10, .ref 1017]) dX11_three_105 mv_X11_byOf ml_X11_501 ⟨by decide, by decide, rfl, rfl, rfl⟩ (by decide) rfl rfl (Nat.le_of_ble_eq_true rfl) rfl (c_X11_byOf (ge3 h_5 2 (by decide)) h_r) ?_
        rintro r w' ⟨rfl, rfl⟩
        refine ab_i2l dX11_three_108 ?_
        refine ab_last (w1 := (wc, [ob 9 [.int 0, .int 0, .int m_fault, .int (-1), .ref 1001, .ref 1002, .int 40, .ref 1003, .int m_taped, .int m_linkMany, .int m_tracerMany, .int m_pointMany, .int m_pairMany, .ref 1004, .ref 1005, .ref 1006, .ref 1007, .int m_readLinks, .int m_readTracers, .int m_readPoints, .int m_readPairs, .ref 1008, .ref 1009, .ref 1010, .ref 1011, .int m_textLong, .int m_at, .int m_spot, .int m_token, .int m_whole, .int m_readFault, .int m_readPlace, .int m_value, .long m_n, .long m_c, .long m_d, .long m_s, .long m_e, .long m_k, .long m_x, .long m_y, .long m_g, .long m_a, .ref 1012, .ref 1013, .ref 1014, .int m_curveMany, .ref 1015, .int m_cornerMany, .int m_straightAt, .ref 1016, .long m_fitUp, .long m_fitDown, .long m_worstUp, .long m_worstDown, .ref 1017, .int m_walkLink, .int m_walkAngle, .int m_walkBranch, .int m_walkMany, .ref 1018, .ref 1019, .int m_lined, .ref 1020, .int m_actMany], z1, z2, z3, z4, z5, z6, ia 16 q7, z8, z9, z10, z11, z12, z13, z14, z15, z16, ja 12 (vp_updL (vp_updL (vp_updL (vp_updL (vp_updL (vp_updL (vp_updL (vp_updL (vp_updL (vp_updL (vp_updL q17 0 (Int32.toInt64 ((Mq_c2 q7 0) * (Mq_n0 q7 0)))) 1 (Int32.toInt64 ((-(Mq_c0 q7 0)) * (Mq_n2 q7 0)))) 2 (Int32.toInt64 (Mq_by q7 0))) 3 (Int32.toInt64 (Mq_b q7 0))) 4 (Int32.toInt64 ((Mq_c2 q7 1) * (Mq_n0 q7 1)))) 5 (Int32.toInt64 ((-(Mq_c0 q7 1)) * (Mq_n2 q7 1)))) 6 (Int32.toInt64 (Mq_by q7 1))) 7 (Int32.toInt64 (Mq_b q7 1))) 8 (Int32.toInt64 ((Mq_c2 q7 2) * (Mq_n0 q7 2)))) 9 (Int32.toInt64 ((-(Mq_c0 q7 2)) * (Mq_n2 q7 2)))) 10 (Int32.toInt64 (Mq_by q7 2))), z18, z19, z20])) dX11_three_109 rfl (ix_c (by decide)) rfl ?_
        refine ab_aload_n dX11_three_110 rfl ?_
        refine ab_getf dX11_three_111 fl_X11_81 rfl rfl ?_
        refine ab_iconst (v := 4) dX11_three_114 (by decide) ?_
        refine ab_iload_n dX11_three_115 rfl ?_
        refine ab_imul dX11_three_116 ?_
        refine ab_topi (v := 8) (by decide) ?_
        refine ab_iconst (v := 3) dX11_three_117 (by decide) ?_
        refine ab_iadd dX11_three_118 ?_
        refine ab_topi (v := 11) (by decide) ?_
        refine ab_aload_n dX11_three_119 rfl ?_
        refine ab_iload_n dX11_three_120 rfl ?_
        refine ab_callV (As := [.int 2]) (rest := [.int 11, .ref 1017]) dX11_three_121 mv_X11_bothOf ml_X11_504 ⟨by decide, by decide, rfl, rfl, rfl⟩ (by decide) rfl rfl (Nat.le_of_ble_eq_true rfl) rfl (c_X11_bothOf (ge3 h_5 2 (by decide)) h_r) ?_
        rintro r w' ⟨rfl, rfl⟩
        refine ab_i2l dX11_three_124 ?_
        refine ab_last (w1 := (wc, [ob 9 [.int 0, .int 0, .int m_fault, .int (-1), .ref 1001, .ref 1002, .int 40, .ref 1003, .int m_taped, .int m_linkMany, .int m_tracerMany, .int m_pointMany, .int m_pairMany, .ref 1004, .ref 1005, .ref 1006, .ref 1007, .int m_readLinks, .int m_readTracers, .int m_readPoints, .int m_readPairs, .ref 1008, .ref 1009, .ref 1010, .ref 1011, .int m_textLong, .int m_at, .int m_spot, .int m_token, .int m_whole, .int m_readFault, .int m_readPlace, .int m_value, .long m_n, .long m_c, .long m_d, .long m_s, .long m_e, .long m_k, .long m_x, .long m_y, .long m_g, .long m_a, .ref 1012, .ref 1013, .ref 1014, .int m_curveMany, .ref 1015, .int m_cornerMany, .int m_straightAt, .ref 1016, .long m_fitUp, .long m_fitDown, .long m_worstUp, .long m_worstDown, .ref 1017, .int m_walkLink, .int m_walkAngle, .int m_walkBranch, .int m_walkMany, .ref 1018, .ref 1019, .int m_lined, .ref 1020, .int m_actMany], z1, z2, z3, z4, z5, z6, ia 16 q7, z8, z9, z10, z11, z12, z13, z14, z15, z16, ja 12 (vp_updL (vp_updL (vp_updL (vp_updL (vp_updL (vp_updL (vp_updL (vp_updL (vp_updL (vp_updL (vp_updL (vp_updL q17 0 (Int32.toInt64 ((Mq_c2 q7 0) * (Mq_n0 q7 0)))) 1 (Int32.toInt64 ((-(Mq_c0 q7 0)) * (Mq_n2 q7 0)))) 2 (Int32.toInt64 (Mq_by q7 0))) 3 (Int32.toInt64 (Mq_b q7 0))) 4 (Int32.toInt64 ((Mq_c2 q7 1) * (Mq_n0 q7 1)))) 5 (Int32.toInt64 ((-(Mq_c0 q7 1)) * (Mq_n2 q7 1)))) 6 (Int32.toInt64 (Mq_by q7 1))) 7 (Int32.toInt64 (Mq_b q7 1))) 8 (Int32.toInt64 ((Mq_c2 q7 2) * (Mq_n0 q7 2)))) 9 (Int32.toInt64 ((-(Mq_c0 q7 2)) * (Mq_n2 q7 2)))) 10 (Int32.toInt64 (Mq_by q7 2))) 11 (Int32.toInt64 (Mq_b q7 2))), z18, z19, z20])) dX11_three_125 rfl (ix_c (by decide)) rfl ?_
        refine ab_iinc (v := 3) (la' := [(3, .int 3), (0, .ref 1000), (1, .int 0), (2, .int a2)]) dX11_three_126 rfl (by decide) (by decide) rfl ?_
        refine ab_goto 42 dX11_three_129 (by decide) ?_
        refine ab_iload_n dX11_three_42 rfl ?_
        refine ab_iconst (v := 3) dX11_three_43 (by decide) ?_
        refine ab_icmpge 132 dX11_three_44 (by decide) (fun h_9 => ?_) (fun h_9 => absurd (by decide) h_9)
        refine ab_world (wc, [ob 9 [.int 0, .int 0, .int m_fault, .int (-1), .ref 1001, .ref 1002, .int 40, .ref 1003, .int m_taped, .int m_linkMany, .int m_tracerMany, .int m_pointMany, .int m_pairMany, .ref 1004, .ref 1005, .ref 1006, .ref 1007, .int m_readLinks, .int m_readTracers, .int m_readPoints, .int m_readPairs, .ref 1008, .ref 1009, .ref 1010, .ref 1011, .int m_textLong, .int m_at, .int m_spot, .int m_token, .int m_whole, .int m_readFault, .int m_readPlace, .int m_value, .long m_n, .long m_c, .long m_d, .long m_s, .long m_e, .long m_k, .long m_x, .long m_y, .long m_g, .long m_a, .ref 1012, .ref 1013, .ref 1014, .int m_curveMany, .ref 1015, .int m_cornerMany, .int m_straightAt, .ref 1016, .long m_fitUp, .long m_fitDown, .long m_worstUp, .long m_worstDown, .ref 1017, .int m_walkLink, .int m_walkAngle, .int m_walkBranch, .int m_walkMany, .ref 1018, .ref 1019, .int m_lined, .ref 1020, .int m_actMany], z1, z2, z3, z4, z5, z6, ia 16 q7, z8, z9, z10, z11, z12, z13, z14, z15, z16, ja 12 (rowsM q7 q17), z18, z19, z20]) rfl ?_
        refine ab_aload_n dX11_three_132 rfl ?_
        refine ab_iconst (v := 0) dX11_three_133 (by decide) ?_
        refine ab_iconst (v := 1) dX11_three_134 (by decide) ?_
        refine ab_iconst (v := 2) dX11_three_135 (by decide) ?_
        refine ab_callV (As := [.int 0, .int 1, .int 2]) (rest := []) dX11_three_136 mv_X11_minor ml_X11_529 ⟨by decide, by decide, rfl, rfl, rfl⟩ (by decide) rfl rfl (Nat.le_of_ble_eq_true rfl) rfl c_X11_minor_012 ?_
        rintro r w' ⟨rfl, rfl⟩
        refine ab_lstore_n (la' := [(3, .long (Mq_m012 (rowsM q7 q17))), (0, .ref 1000), (1, .int 0), (2, .int a2)]) dX11_three_139 (by decide) rfl ?_
        refine ab_lload_n dX11_three_140 rfl ?_
        refine ab_lconst (v := 0) dX11_three_141 (by decide) ?_
        refine ab_lcmpne 152 dX11_three_142 dX11_three_143 (by decide) (fun h_10 => ?_) (fun h_10 => ?_)
        · refine ab_aload_n dX11_three_152 rfl ?_
          refine ab_aload_n dX11_three_153 rfl ?_
          refine ab_iload_n dX11_three_154 rfl ?_
          refine ab_ifne 162 dX11_three_155 (by decide) (fun h_11 => absurd (by decide) h_11) (fun h_11 => ?_)
          refine ab_iconst (v := 3) dX11_three_158 (by decide) ?_
          refine ab_goto 163 dX11_three_159 (by decide) ?_
          refine ab_iload_n dX11_three_163 rfl ?_
          refine ab_iconst (v := 1) dX11_three_164 (by decide) ?_
          refine ab_icmpne 172 dX11_three_165 (by decide) (fun h_12 => ?_) (fun h_12 => absurd h_12 (by decide))
          refine ab_iconst (v := 1) dX11_three_172 (by decide) ?_
          refine ab_iload_n dX11_three_173 rfl ?_
          refine ab_iconst (v := 2) dX11_three_174 (by decide) ?_
          refine ab_icmpne 182 dX11_three_175 (by decide) (fun h_13 => ?_) (fun h_13 => absurd h_13 (by decide))
          refine ab_iconst (v := 2) dX11_three_182 (by decide) ?_
          refine ab_callV (As := [.int 3, .int 1, .int 2]) (rest := [.ref 1000]) dX11_three_183 mv_X11_minor ml_X11_529 ⟨by decide, by decide, rfl, rfl, rfl⟩ (by decide) rfl rfl (Nat.le_of_ble_eq_true rfl) rfl c_X11_minor_312 ?_
          rintro r w' ⟨rfl, rfl⟩
          refine ab_lload_n dX11_three_186 rfl ?_
          refine ab_iload_n dX11_three_187 rfl ?_
          refine ab_callV (As := [.long (Mq_m312 (rowsM q7 q17)), .long (Mq_m012 (rowsM q7 q17)), .int a2]) (rest := []) dX11_three_188 mv_X11_part ml_X11_308 ⟨by decide, by decide, rfl, rfl, rfl⟩ (by decide) rfl rfl (Nat.le_of_ble_eq_true rfl) rfl (c_X11_part (h_q2 h_1 h_5 h_10) (h_q3 h_1 h_5 h_10) h_10) ?_
          rintro r w' ⟨rfl, rfl⟩
          exact ab_lret dX11_three_191 rfl (by decide) (Or.inr (Or.inl ⟨h_1, h_5, h_10, rfl, rfl⟩))
        · refine ab_aload_n dX11_three_146 rfl ?_
          refine ab_iconst (v := 5) dX11_three_147 (by decide) ?_
          refine ab_callV (As := [.int 5]) (rest := []) dX11_three_148 mv_X11_lowest ml_X11_304 ⟨by decide, by decide, rfl, rfl, rfl⟩ (by decide) rfl rfl (Nat.le_of_ble_eq_true rfl) rfl c_X11_lowest ?_
          rintro r w' ⟨rfl, rfl⟩
          exact ab_lret dX11_three_151 rfl (by decide) (Or.inr (Or.inr (Or.inl ⟨h_1, h_5, h_10, rfl, rfl⟩)))
      · refine ab_aload_n dX11_three_34 rfl ?_
        refine ab_iconst (v := 5) dX11_three_35 (by decide) ?_
        refine ab_callV (As := [.int 5]) (rest := []) dX11_three_36 mv_X11_lowest ml_X11_304 ⟨by decide, by decide, rfl, rfl, rfl⟩ (by decide) rfl rfl (Nat.le_of_ble_eq_true rfl) rfl c_X11_lowest ?_
        rintro r w' ⟨rfl, rfl⟩
        exact ab_lret dX11_three_39 rfl (by decide) (Or.inr (Or.inr (Or.inr (⟨h_1, h_5, rfl, rfl⟩))))
    · exact absurd (by decide) c_3
theorem c_X11_three_1 {wc : List ax_E} {m_thrown m_trouble m_fault m_where m_taped m_linkMany m_tracerMany m_pointMany m_pairMany m_readLinks m_readTracers m_readPoints m_readPairs m_textLong m_at m_spot m_token m_whole m_readFault m_readPlace m_value m_curveMany m_cornerMany m_straightAt m_walkLink m_walkAngle m_walkBranch m_walkMany m_lined m_actMany a2 : Int32} {m_n m_c m_d m_s m_e m_k m_x m_y m_g m_a m_fitUp m_fitDown m_worstUp m_worstDown : Int64} {z1 z2 z3 z4 z5 z6 z8 z9 z10 z11 z12 z13 z14 z15 z16 z18 z19 z20 : ax_E} {q7 : Nat → Int32} {q17 : Nat → Int64} (h_l : 0 ≤ m_linkMany ∧ m_linkMany ≤ nI 4) (h_r : 0 ≤ m_pairMany ∧ m_pairMany ≤ nI 4) (h_q2 : (¬ m_linkMany = 0) → (3 ≤ m_pairMany) → (¬ (Mq_m012 (rowsM q7 q17)) = 0) → (Mq_m032 (rowsM q7 q17)).toInt ≠ -2 ^ 63) (h_q3 : (¬ m_linkMany = 0) → (3 ≤ m_pairMany) → (¬ (Mq_m012 (rowsM q7 q17)) = 0) → (Mq_m012 (rowsM q7 q17)).toInt ≠ -2 ^ 63) : Ct M_X11_three [.ref 1000, .int 1, .int a2] (wc, [ob 9 [.int m_thrown, .int m_trouble, .int m_fault, .int m_where, .ref 1001, .ref 1002, .int 40, .ref 1003, .int m_taped, .int m_linkMany, .int m_tracerMany, .int m_pointMany, .int m_pairMany, .ref 1004, .ref 1005, .ref 1006, .ref 1007, .int m_readLinks, .int m_readTracers, .int m_readPoints, .int m_readPairs, .ref 1008, .ref 1009, .ref 1010, .ref 1011, .int m_textLong, .int m_at, .int m_spot, .int m_token, .int m_whole, .int m_readFault, .int m_readPlace, .int m_value, .long m_n, .long m_c, .long m_d, .long m_s, .long m_e, .long m_k, .long m_x, .long m_y, .long m_g, .long m_a, .ref 1012, .ref 1013, .ref 1014, .int m_curveMany, .ref 1015, .int m_cornerMany, .int m_straightAt, .ref 1016, .long m_fitUp, .long m_fitDown, .long m_worstUp, .long m_worstDown, .ref 1017, .int m_walkLink, .int m_walkAngle, .int m_walkBranch, .int m_walkMany, .ref 1018, .ref 1019, .int m_lined, .ref 1020, .int m_actMany], z1, z2, z3, z4, z5, z6, ia 16 q7, z8, z9, z10, z11, z12, z13, z14, z15, z16, ja 12 q17, z18, z19, z20]) (fun r w' => ((m_linkMany = 0) ∧ r = some (.long (-9223372036854775808)) ∧ w' = (wc, [ob 9 [.int 0, .int 1, .int m_fault, .int (-1), .ref 1001, .ref 1002, .int 40, .ref 1003, .int m_taped, .int m_linkMany, .int m_tracerMany, .int m_pointMany, .int m_pairMany, .ref 1004, .ref 1005, .ref 1006, .ref 1007, .int m_readLinks, .int m_readTracers, .int m_readPoints, .int m_readPairs, .ref 1008, .ref 1009, .ref 1010, .ref 1011, .int m_textLong, .int m_at, .int m_spot, .int m_token, .int m_whole, .int m_readFault, .int m_readPlace, .int m_value, .long m_n, .long m_c, .long m_d, .long m_s, .long m_e, .long m_k, .long m_x, .long m_y, .long m_g, .long m_a, .ref 1012, .ref 1013, .ref 1014, .int m_curveMany, .ref 1015, .int m_cornerMany, .int m_straightAt, .ref 1016, .long m_fitUp, .long m_fitDown, .long m_worstUp, .long m_worstDown, .ref 1017, .int m_walkLink, .int m_walkAngle, .int m_walkBranch, .int m_walkMany, .ref 1018, .ref 1019, .int m_lined, .ref 1020, .int m_actMany], z1, z2, z3, z4, z5, z6, ia 16 q7, z8, z9, z10, z11, z12, z13, z14, z15, z16, ja 12 q17, z18, z19, z20])) ∨ ((¬ m_linkMany = 0) ∧ (3 ≤ m_pairMany) ∧ (¬ (Mq_m012 (rowsM q7 q17)) = 0) ∧ r = some (.long (Mp (Mq_m032 (rowsM q7 q17)) (Mq_m012 (rowsM q7 q17)) a2)) ∧ w' = (wc, [ob 9 [.int 0, .int 0, .int m_fault, .int (-1), .ref 1001, .ref 1002, .int 40, .ref 1003, .int m_taped, .int m_linkMany, .int m_tracerMany, .int m_pointMany, .int m_pairMany, .ref 1004, .ref 1005, .ref 1006, .ref 1007, .int m_readLinks, .int m_readTracers, .int m_readPoints, .int m_readPairs, .ref 1008, .ref 1009, .ref 1010, .ref 1011, .int m_textLong, .int m_at, .int m_spot, .int m_token, .int m_whole, .int m_readFault, .int m_readPlace, .int m_value, .long m_n, .long m_c, .long m_d, .long m_s, .long m_e, .long m_k, .long m_x, .long m_y, .long m_g, .long m_a, .ref 1012, .ref 1013, .ref 1014, .int m_curveMany, .ref 1015, .int m_cornerMany, .int m_straightAt, .ref 1016, .long m_fitUp, .long m_fitDown, .long m_worstUp, .long m_worstDown, .ref 1017, .int m_walkLink, .int m_walkAngle, .int m_walkBranch, .int m_walkMany, .ref 1018, .ref 1019, .int m_lined, .ref 1020, .int m_actMany], z1, z2, z3, z4, z5, z6, ia 16 q7, z8, z9, z10, z11, z12, z13, z14, z15, z16, ja 12 (rowsM q7 q17), z18, z19, z20])) ∨ ((¬ m_linkMany = 0) ∧ (3 ≤ m_pairMany) ∧ ((Mq_m012 (rowsM q7 q17)) = 0) ∧ r = some (.long (-9223372036854775808)) ∧ w' = (wc, [ob 9 [.int 0, .int 5, .int m_fault, .int (-1), .ref 1001, .ref 1002, .int 40, .ref 1003, .int m_taped, .int m_linkMany, .int m_tracerMany, .int m_pointMany, .int m_pairMany, .ref 1004, .ref 1005, .ref 1006, .ref 1007, .int m_readLinks, .int m_readTracers, .int m_readPoints, .int m_readPairs, .ref 1008, .ref 1009, .ref 1010, .ref 1011, .int m_textLong, .int m_at, .int m_spot, .int m_token, .int m_whole, .int m_readFault, .int m_readPlace, .int m_value, .long m_n, .long m_c, .long m_d, .long m_s, .long m_e, .long m_k, .long m_x, .long m_y, .long m_g, .long m_a, .ref 1012, .ref 1013, .ref 1014, .int m_curveMany, .ref 1015, .int m_cornerMany, .int m_straightAt, .ref 1016, .long m_fitUp, .long m_fitDown, .long m_worstUp, .long m_worstDown, .ref 1017, .int m_walkLink, .int m_walkAngle, .int m_walkBranch, .int m_walkMany, .ref 1018, .ref 1019, .int m_lined, .ref 1020, .int m_actMany], z1, z2, z3, z4, z5, z6, ia 16 q7, z8, z9, z10, z11, z12, z13, z14, z15, z16, ja 12 (rowsM q7 q17), z18, z19, z20])) ∨ ((¬ m_linkMany = 0) ∧ (¬ 3 ≤ m_pairMany) ∧ r = some (.long (-9223372036854775808)) ∧ w' = (wc, [ob 9 [.int 0, .int 5, .int m_fault, .int (-1), .ref 1001, .ref 1002, .int 40, .ref 1003, .int m_taped, .int m_linkMany, .int m_tracerMany, .int m_pointMany, .int m_pairMany, .ref 1004, .ref 1005, .ref 1006, .ref 1007, .int m_readLinks, .int m_readTracers, .int m_readPoints, .int m_readPairs, .ref 1008, .ref 1009, .ref 1010, .ref 1011, .int m_textLong, .int m_at, .int m_spot, .int m_token, .int m_whole, .int m_readFault, .int m_readPlace, .int m_value, .long m_n, .long m_c, .long m_d, .long m_s, .long m_e, .long m_k, .long m_x, .long m_y, .long m_g, .long m_a, .ref 1012, .ref 1013, .ref 1014, .int m_curveMany, .ref 1015, .int m_cornerMany, .int m_straightAt, .ref 1016, .long m_fitUp, .long m_fitDown, .long m_worstUp, .long m_worstDown, .ref 1017, .int m_walkLink, .int m_walkAngle, .int m_walkBranch, .int m_walkMany, .ref 1018, .ref 1019, .int m_lined, .ref 1020, .int m_actMany], z1, z2, z3, z4, z5, z6, ia 16 q7, z8, z9, z10, z11, z12, z13, z14, z15, z16, ja 12 q17, z18, z19, z20]))) := by
  refine ct_of ⟨by decide, rfl⟩ (Nat.le_of_ble_eq_true rfl) ?_
  refine ab_aload_n dX11_three_0 rfl ?_
  refine ab_callV (As := []) (rest := []) dX11_three_1 mv_X11_anew ml_X11_104 ⟨by decide, by decide, rfl, rfl, rfl⟩ (by decide) rfl rfl (Nat.le_of_ble_eq_true rfl) rfl c_X11_anew ?_
  rintro r w' ⟨rfl, rfl⟩
  refine ab_aload_n dX11_three_4 rfl ?_
  refine ab_getf dX11_three_5 fl_X11_233 rfl rfl ?_
  refine ab_ifeq 20 dX11_three_8 (by decide) (fun h_1 => ?_) (fun h_1 => ?_)
  · refine ab_aload_n dX11_three_20 rfl ?_
    refine ab_iconst (v := 1) dX11_three_21 (by decide) ?_
    refine ab_callV (As := [.int 1]) (rest := []) dX11_three_22 mv_X11_lowest ml_X11_304 ⟨by decide, by decide, rfl, rfl, rfl⟩ (by decide) rfl rfl (Nat.le_of_ble_eq_true rfl) rfl c_X11_lowest ?_
    rintro r w' ⟨rfl, rfl⟩
    exact ab_lret dX11_three_25 rfl (by decide) (Or.inl ⟨h_1, rfl, rfl⟩)
  · refine ab_iload_n dX11_three_11 rfl ?_
    refine ab_iconst (v := 0) dX11_three_12 (by decide) ?_
    refine ab_iconst (v := 2) dX11_three_13 (by decide) ?_
    refine ab_callS (As := [.int 1, .int 0, .int 2]) (rest := []) dX11_three_14 ms_X11_in ml_X11_107 ⟨by decide, by decide, rfl, rfl, rfl⟩ (by decide) rfl rfl (Nat.le_of_ble_eq_true rfl) c_X11_in ?_
    rintro r w' (⟨c_2, rfl, rfl⟩ | ⟨c_3, rfl, rfl⟩)
    · refine ab_ifne 26 dX11_three_17 (by decide) (fun h_4 => ?_) (fun h_4 => absurd h_4 (by decide))
      refine ab_aload_n dX11_three_26 rfl ?_
      refine ab_getf dX11_three_27 fl_X11_242 rfl rfl ?_
      refine ab_iconst (v := 3) dX11_three_30 (by decide) ?_
      refine ab_icmpge 40 dX11_three_31 (by decide) (fun h_5 => ?_) (fun h_5 => ?_)
      · refine ab_iconst (v := 0) dX11_three_40 (by decide) ?_
        refine ab_istore_n (la' := [(3, .int 0), (0, .ref 1000), (1, .int 1), (2, .int a2)]) dX11_three_41 (by decide) rfl ?_
        refine ab_iload_n dX11_three_42 rfl ?_
        refine ab_iconst (v := 3) dX11_three_43 (by decide) ?_
        refine ab_icmpge 132 dX11_three_44 (by decide) (fun h_6 => absurd h_6 (by decide)) (fun h_6 => ?_)
        refine ab_aload_n dX11_three_47 rfl ?_
        refine ab_getf dX11_three_48 fl_X11_81 rfl rfl ?_
        refine ab_iconst (v := 4) dX11_three_51 (by decide) ?_
        refine ab_iload_n dX11_three_52 rfl ?_
        refine ab_imul dX11_three_53 ?_
        refine ab_topi (v := 0) (by decide) ?_
        refine ab_aload_n dX11_three_54 rfl ?_
        refine ab_iload_n dX11_three_55 rfl ?_
        refine ab_iconst (v := 2) dX11_three_56 (by decide) ?_
        refine ab_callV (As := [.int 0, .int 2]) (rest := [.int 0, .ref 1017]) dX11_three_57 mv_X11_cosOf ml_X11_492 ⟨by decide, by decide, rfl, rfl, rfl⟩ (by decide) rfl rfl (Nat.le_of_ble_eq_true rfl) rfl (c_X11_cosOf_2 (ge3 h_5 0 (by decide)) h_r) ?_
        rintro r w' ⟨rfl, rfl⟩
        refine ab_aload_n dX11_three_60 rfl ?_
        refine ab_iload_n dX11_three_61 rfl ?_
        refine ab_iconst (v := 0) dX11_three_62 (by decide) ?_
        refine ab_callV (As := [.int 0, .int 0]) (rest := [.int (Mq_c2 q7 0), .int 0, .ref 1017]) dX11_three_63 mv_X11_normOf ml_X11_498 ⟨by decide, by decide, rfl, rfl, rfl⟩ (by decide) rfl rfl (Nat.le_of_ble_eq_true rfl) rfl (c_X11_normOf_0 (ge3 h_5 0 (by decide)) h_r) ?_
        rintro r w' ⟨rfl, rfl⟩
        refine ab_imul dX11_three_66 ?_
        refine ab_i2l dX11_three_67 ?_
        refine ab_last (w1 := (wc, [ob 9 [.int 0, .int 0, .int m_fault, .int (-1), .ref 1001, .ref 1002, .int 40, .ref 1003, .int m_taped, .int m_linkMany, .int m_tracerMany, .int m_pointMany, .int m_pairMany, .ref 1004, .ref 1005, .ref 1006, .ref 1007, .int m_readLinks, .int m_readTracers, .int m_readPoints, .int m_readPairs, .ref 1008, .ref 1009, .ref 1010, .ref 1011, .int m_textLong, .int m_at, .int m_spot, .int m_token, .int m_whole, .int m_readFault, .int m_readPlace, .int m_value, .long m_n, .long m_c, .long m_d, .long m_s, .long m_e, .long m_k, .long m_x, .long m_y, .long m_g, .long m_a, .ref 1012, .ref 1013, .ref 1014, .int m_curveMany, .ref 1015, .int m_cornerMany, .int m_straightAt, .ref 1016, .long m_fitUp, .long m_fitDown, .long m_worstUp, .long m_worstDown, .ref 1017, .int m_walkLink, .int m_walkAngle, .int m_walkBranch, .int m_walkMany, .ref 1018, .ref 1019, .int m_lined, .ref 1020, .int m_actMany], z1, z2, z3, z4, z5, z6, ia 16 q7, z8, z9, z10, z11, z12, z13, z14, z15, z16, ja 12 (vp_updL q17 0 (Int32.toInt64 ((Mq_c2 q7 0) * (Mq_n0 q7 0)))), z18, z19, z20])) dX11_three_68 rfl (ix_c (by decide)) rfl ?_
        refine ab_aload_n dX11_three_69 rfl ?_
        refine ab_getf dX11_three_70 fl_X11_81 rfl rfl ?_
        refine ab_iconst (v := 4) dX11_three_73 (by decide) ?_
        refine ab_iload_n dX11_three_74 rfl ?_
        refine ab_imul dX11_three_75 ?_
        refine ab_topi (v := 0) (by decide) ?_
        refine ab_iconst (v := 1) dX11_three_76 (by decide) ?_
        refine ab_iadd dX11_three_77 ?_
        refine ab_topi (v := 1) (by decide) ?_
        refine ab_aload_n dX11_three_78 rfl ?_
        refine ab_iload_n dX11_three_79 rfl ?_
        refine ab_iconst (v := 0) dX11_three_80 (by decide) ?_
        refine ab_callV (As := [.int 0, .int 0]) (rest := [.int 1, .ref 1017]) dX11_three_81 mv_X11_cosOf ml_X11_492 ⟨by decide, by decide, rfl, rfl, rfl⟩ (by decide) rfl rfl (Nat.le_of_ble_eq_true rfl) rfl (c_X11_cosOf_0 (ge3 h_5 0 (by decide)) h_r) ?_
        rintro r w' ⟨rfl, rfl⟩
        refine ab_ineg dX11_three_84 ?_
        refine ab_aload_n dX11_three_85 rfl ?_
        refine ab_iload_n dX11_three_86 rfl ?_
        refine ab_iconst (v := 2) dX11_three_87 (by decide) ?_
        refine ab_callV (As := [.int 0, .int 2]) (rest := [.int (-(Mq_c0 q7 0)), .int 1, .ref 1017]) dX11_three_88 mv_X11_normOf ml_X11_498 ⟨by decide, by decide, rfl, rfl, rfl⟩ (by decide) rfl rfl (Nat.le_of_ble_eq_true rfl) rfl (c_X11_normOf_2 (ge3 h_5 0 (by decide)) h_r) ?_
        rintro r w' ⟨rfl, rfl⟩
        refine ab_imul dX11_three_91 ?_
        refine ab_i2l dX11_three_92 ?_
        refine ab_last (w1 := (wc, [ob 9 [.int 0, .int 0, .int m_fault, .int (-1), .ref 1001, .ref 1002, .int 40, .ref 1003, .int m_taped, .int m_linkMany, .int m_tracerMany, .int m_pointMany, .int m_pairMany, .ref 1004, .ref 1005, .ref 1006, .ref 1007, .int m_readLinks, .int m_readTracers, .int m_readPoints, .int m_readPairs, .ref 1008, .ref 1009, .ref 1010, .ref 1011, .int m_textLong, .int m_at, .int m_spot, .int m_token, .int m_whole, .int m_readFault, .int m_readPlace, .int m_value, .long m_n, .long m_c, .long m_d, .long m_s, .long m_e, .long m_k, .long m_x, .long m_y, .long m_g, .long m_a, .ref 1012, .ref 1013, .ref 1014, .int m_curveMany, .ref 1015, .int m_cornerMany, .int m_straightAt, .ref 1016, .long m_fitUp, .long m_fitDown, .long m_worstUp, .long m_worstDown, .ref 1017, .int m_walkLink, .int m_walkAngle, .int m_walkBranch, .int m_walkMany, .ref 1018, .ref 1019, .int m_lined, .ref 1020, .int m_actMany], z1, z2, z3, z4, z5, z6, ia 16 q7, z8, z9, z10, z11, z12, z13, z14, z15, z16, ja 12 (vp_updL (vp_updL q17 0 (Int32.toInt64 ((Mq_c2 q7 0) * (Mq_n0 q7 0)))) 1 (Int32.toInt64 ((-(Mq_c0 q7 0)) * (Mq_n2 q7 0)))), z18, z19, z20])) dX11_three_93 rfl (ix_c (by decide)) rfl ?_
        refine ab_aload_n dX11_three_94 rfl ?_
        refine ab_getf dX11_three_95 fl_X11_81 rfl rfl ?_
        refine ab_iconst (v := 4) dX11_three_98 (by decide) ?_
        refine ab_iload_n dX11_three_99 rfl ?_
        refine ab_imul dX11_three_100 ?_
        refine ab_topi (v := 0) (by decide) ?_
        refine ab_iconst (v := 2) dX11_three_101 (by decide) ?_
        refine ab_iadd dX11_three_102 ?_
        refine ab_topi (v := 2) (by decide) ?_
        refine ab_aload_n dX11_three_103 rfl ?_
        refine ab_iload_n dX11_three_104 rfl ?_
        refine ab_callV (As := [.int 0]) (rest := [.int 2, .ref 1017]) dX11_three_105 mv_X11_byOf ml_X11_501 ⟨by decide, by decide, rfl, rfl, rfl⟩ (by decide) rfl rfl (Nat.le_of_ble_eq_true rfl) rfl (c_X11_byOf (ge3 h_5 0 (by decide)) h_r) ?_
        rintro r w' ⟨rfl, rfl⟩
        refine ab_i2l dX11_three_108 ?_
        refine ab_last (w1 := (wc, [ob 9 [.int 0, .int 0, .int m_fault, .int (-1), .ref 1001, .ref 1002, .int 40, .ref 1003, .int m_taped, .int m_linkMany, .int m_tracerMany, .int m_pointMany, .int m_pairMany, .ref 1004, .ref 1005, .ref 1006, .ref 1007, .int m_readLinks, .int m_readTracers, .int m_readPoints, .int m_readPairs, .ref 1008, .ref 1009, .ref 1010, .ref 1011, .int m_textLong, .int m_at, .int m_spot, .int m_token, .int m_whole, .int m_readFault, .int m_readPlace, .int m_value, .long m_n, .long m_c, .long m_d, .long m_s, .long m_e, .long m_k, .long m_x, .long m_y, .long m_g, .long m_a, .ref 1012, .ref 1013, .ref 1014, .int m_curveMany, .ref 1015, .int m_cornerMany, .int m_straightAt, .ref 1016, .long m_fitUp, .long m_fitDown, .long m_worstUp, .long m_worstDown, .ref 1017, .int m_walkLink, .int m_walkAngle, .int m_walkBranch, .int m_walkMany, .ref 1018, .ref 1019, .int m_lined, .ref 1020, .int m_actMany], z1, z2, z3, z4, z5, z6, ia 16 q7, z8, z9, z10, z11, z12, z13, z14, z15, z16, ja 12 (vp_updL (vp_updL (vp_updL q17 0 (Int32.toInt64 ((Mq_c2 q7 0) * (Mq_n0 q7 0)))) 1 (Int32.toInt64 ((-(Mq_c0 q7 0)) * (Mq_n2 q7 0)))) 2 (Int32.toInt64 (Mq_by q7 0))), z18, z19, z20])) dX11_three_109 rfl (ix_c (by decide)) rfl ?_
        refine ab_aload_n dX11_three_110 rfl ?_
        refine ab_getf dX11_three_111 fl_X11_81 rfl rfl ?_
        refine ab_iconst (v := 4) dX11_three_114 (by decide) ?_
        refine ab_iload_n dX11_three_115 rfl ?_
        refine ab_imul dX11_three_116 ?_
        refine ab_topi (v := 0) (by decide) ?_
        refine ab_iconst (v := 3) dX11_three_117 (by decide) ?_
        refine ab_iadd dX11_three_118 ?_
        refine ab_topi (v := 3) (by decide) ?_
        refine ab_aload_n dX11_three_119 rfl ?_
        refine ab_iload_n dX11_three_120 rfl ?_
        refine ab_callV (As := [.int 0]) (rest := [.int 3, .ref 1017]) dX11_three_121 mv_X11_bothOf ml_X11_504 ⟨by decide, by decide, rfl, rfl, rfl⟩ (by decide) rfl rfl (Nat.le_of_ble_eq_true rfl) rfl (c_X11_bothOf (ge3 h_5 0 (by decide)) h_r) ?_
        rintro r w' ⟨rfl, rfl⟩
        refine ab_i2l dX11_three_124 ?_
        refine ab_last (w1 := (wc, [ob 9 [.int 0, .int 0, .int m_fault, .int (-1), .ref 1001, .ref 1002, .int 40, .ref 1003, .int m_taped, .int m_linkMany, .int m_tracerMany, .int m_pointMany, .int m_pairMany, .ref 1004, .ref 1005, .ref 1006, .ref 1007, .int m_readLinks, .int m_readTracers, .int m_readPoints, .int m_readPairs, .ref 1008, .ref 1009, .ref 1010, .ref 1011, .int m_textLong, .int m_at, .int m_spot, .int m_token, .int m_whole, .int m_readFault, .int m_readPlace, .int m_value, .long m_n, .long m_c, .long m_d, .long m_s, .long m_e, .long m_k, .long m_x, .long m_y, .long m_g, .long m_a, .ref 1012, .ref 1013, .ref 1014, .int m_curveMany, .ref 1015, .int m_cornerMany, .int m_straightAt, .ref 1016, .long m_fitUp, .long m_fitDown, .long m_worstUp, .long m_worstDown, .ref 1017, .int m_walkLink, .int m_walkAngle, .int m_walkBranch, .int m_walkMany, .ref 1018, .ref 1019, .int m_lined, .ref 1020, .int m_actMany], z1, z2, z3, z4, z5, z6, ia 16 q7, z8, z9, z10, z11, z12, z13, z14, z15, z16, ja 12 (vp_updL (vp_updL (vp_updL (vp_updL q17 0 (Int32.toInt64 ((Mq_c2 q7 0) * (Mq_n0 q7 0)))) 1 (Int32.toInt64 ((-(Mq_c0 q7 0)) * (Mq_n2 q7 0)))) 2 (Int32.toInt64 (Mq_by q7 0))) 3 (Int32.toInt64 (Mq_b q7 0))), z18, z19, z20])) dX11_three_125 rfl (ix_c (by decide)) rfl ?_
        refine ab_iinc (v := 1) (la' := [(3, .int 1), (0, .ref 1000), (1, .int 1), (2, .int a2)]) dX11_three_126 rfl (by decide) (by decide) rfl ?_
        refine ab_goto 42 dX11_three_129 (by decide) ?_
        refine ab_iload_n dX11_three_42 rfl ?_
        refine ab_iconst (v := 3) dX11_three_43 (by decide) ?_
        refine ab_icmpge 132 dX11_three_44 (by decide) (fun h_7 => absurd h_7 (by decide)) (fun h_7 => ?_)
        refine ab_aload_n dX11_three_47 rfl ?_
        refine ab_getf dX11_three_48 fl_X11_81 rfl rfl ?_
        refine ab_iconst (v := 4) dX11_three_51 (by decide) ?_
        refine ab_iload_n dX11_three_52 rfl ?_
        refine ab_imul dX11_three_53 ?_
        refine ab_topi (v := 4) (by decide) ?_
        refine ab_aload_n dX11_three_54 rfl ?_
        refine ab_iload_n dX11_three_55 rfl ?_
        refine ab_iconst (v := 2) dX11_three_56 (by decide) ?_
        refine ab_callV (As := [.int 1, .int 2]) (rest := [.int 4, .ref 1017]) dX11_three_57 mv_X11_cosOf ml_X11_492 ⟨by decide, by decide, rfl, rfl, rfl⟩ (by decide) rfl rfl (Nat.le_of_ble_eq_true rfl) rfl (c_X11_cosOf_2 (ge3 h_5 1 (by decide)) h_r) ?_
        rintro r w' ⟨rfl, rfl⟩
        refine ab_aload_n dX11_three_60 rfl ?_
        refine ab_iload_n dX11_three_61 rfl ?_
        refine ab_iconst (v := 0) dX11_three_62 (by decide) ?_
        refine ab_callV (As := [.int 1, .int 0]) (rest := [.int (Mq_c2 q7 1), .int 4, .ref 1017]) dX11_three_63 mv_X11_normOf ml_X11_498 ⟨by decide, by decide, rfl, rfl, rfl⟩ (by decide) rfl rfl (Nat.le_of_ble_eq_true rfl) rfl (c_X11_normOf_0 (ge3 h_5 1 (by decide)) h_r) ?_
        rintro r w' ⟨rfl, rfl⟩
        refine ab_imul dX11_three_66 ?_
        refine ab_i2l dX11_three_67 ?_
        refine ab_last (w1 := (wc, [ob 9 [.int 0, .int 0, .int m_fault, .int (-1), .ref 1001, .ref 1002, .int 40, .ref 1003, .int m_taped, .int m_linkMany, .int m_tracerMany, .int m_pointMany, .int m_pairMany, .ref 1004, .ref 1005, .ref 1006, .ref 1007, .int m_readLinks, .int m_readTracers, .int m_readPoints, .int m_readPairs, .ref 1008, .ref 1009, .ref 1010, .ref 1011, .int m_textLong, .int m_at, .int m_spot, .int m_token, .int m_whole, .int m_readFault, .int m_readPlace, .int m_value, .long m_n, .long m_c, .long m_d, .long m_s, .long m_e, .long m_k, .long m_x, .long m_y, .long m_g, .long m_a, .ref 1012, .ref 1013, .ref 1014, .int m_curveMany, .ref 1015, .int m_cornerMany, .int m_straightAt, .ref 1016, .long m_fitUp, .long m_fitDown, .long m_worstUp, .long m_worstDown, .ref 1017, .int m_walkLink, .int m_walkAngle, .int m_walkBranch, .int m_walkMany, .ref 1018, .ref 1019, .int m_lined, .ref 1020, .int m_actMany], z1, z2, z3, z4, z5, z6, ia 16 q7, z8, z9, z10, z11, z12, z13, z14, z15, z16, ja 12 (vp_updL (vp_updL (vp_updL (vp_updL (vp_updL q17 0 (Int32.toInt64 ((Mq_c2 q7 0) * (Mq_n0 q7 0)))) 1 (Int32.toInt64 ((-(Mq_c0 q7 0)) * (Mq_n2 q7 0)))) 2 (Int32.toInt64 (Mq_by q7 0))) 3 (Int32.toInt64 (Mq_b q7 0))) 4 (Int32.toInt64 ((Mq_c2 q7 1) * (Mq_n0 q7 1)))), z18, z19, z20])) dX11_three_68 rfl (ix_c (by decide)) rfl ?_
        refine ab_aload_n dX11_three_69 rfl ?_
        refine ab_getf dX11_three_70 fl_X11_81 rfl rfl ?_
        refine ab_iconst (v := 4) dX11_three_73 (by decide) ?_
        refine ab_iload_n dX11_three_74 rfl ?_
        refine ab_imul dX11_three_75 ?_
        refine ab_topi (v := 4) (by decide) ?_
        refine ab_iconst (v := 1) dX11_three_76 (by decide) ?_
        refine ab_iadd dX11_three_77 ?_
        refine ab_topi (v := 5) (by decide) ?_
        refine ab_aload_n dX11_three_78 rfl ?_
        refine ab_iload_n dX11_three_79 rfl ?_
        refine ab_iconst (v := 0) dX11_three_80 (by decide) ?_
        refine ab_callV (As := [.int 1, .int 0]) (rest := [.int 5, .ref 1017]) dX11_three_81 mv_X11_cosOf ml_X11_492 ⟨by decide, by decide, rfl, rfl, rfl⟩ (by decide) rfl rfl (Nat.le_of_ble_eq_true rfl) rfl (c_X11_cosOf_0 (ge3 h_5 1 (by decide)) h_r) ?_
        rintro r w' ⟨rfl, rfl⟩
        refine ab_ineg dX11_three_84 ?_
        refine ab_aload_n dX11_three_85 rfl ?_
        refine ab_iload_n dX11_three_86 rfl ?_
        refine ab_iconst (v := 2) dX11_three_87 (by decide) ?_
        refine ab_callV (As := [.int 1, .int 2]) (rest := [.int (-(Mq_c0 q7 1)), .int 5, .ref 1017]) dX11_three_88 mv_X11_normOf ml_X11_498 ⟨by decide, by decide, rfl, rfl, rfl⟩ (by decide) rfl rfl (Nat.le_of_ble_eq_true rfl) rfl (c_X11_normOf_2 (ge3 h_5 1 (by decide)) h_r) ?_
        rintro r w' ⟨rfl, rfl⟩
        refine ab_imul dX11_three_91 ?_
        refine ab_i2l dX11_three_92 ?_
        refine ab_last (w1 := (wc, [ob 9 [.int 0, .int 0, .int m_fault, .int (-1), .ref 1001, .ref 1002, .int 40, .ref 1003, .int m_taped, .int m_linkMany, .int m_tracerMany, .int m_pointMany, .int m_pairMany, .ref 1004, .ref 1005, .ref 1006, .ref 1007, .int m_readLinks, .int m_readTracers, .int m_readPoints, .int m_readPairs, .ref 1008, .ref 1009, .ref 1010, .ref 1011, .int m_textLong, .int m_at, .int m_spot, .int m_token, .int m_whole, .int m_readFault, .int m_readPlace, .int m_value, .long m_n, .long m_c, .long m_d, .long m_s, .long m_e, .long m_k, .long m_x, .long m_y, .long m_g, .long m_a, .ref 1012, .ref 1013, .ref 1014, .int m_curveMany, .ref 1015, .int m_cornerMany, .int m_straightAt, .ref 1016, .long m_fitUp, .long m_fitDown, .long m_worstUp, .long m_worstDown, .ref 1017, .int m_walkLink, .int m_walkAngle, .int m_walkBranch, .int m_walkMany, .ref 1018, .ref 1019, .int m_lined, .ref 1020, .int m_actMany], z1, z2, z3, z4, z5, z6, ia 16 q7, z8, z9, z10, z11, z12, z13, z14, z15, z16, ja 12 (vp_updL (vp_updL (vp_updL (vp_updL (vp_updL (vp_updL q17 0 (Int32.toInt64 ((Mq_c2 q7 0) * (Mq_n0 q7 0)))) 1 (Int32.toInt64 ((-(Mq_c0 q7 0)) * (Mq_n2 q7 0)))) 2 (Int32.toInt64 (Mq_by q7 0))) 3 (Int32.toInt64 (Mq_b q7 0))) 4 (Int32.toInt64 ((Mq_c2 q7 1) * (Mq_n0 q7 1)))) 5 (Int32.toInt64 ((-(Mq_c0 q7 1)) * (Mq_n2 q7 1)))), z18, z19, z20])) dX11_three_93 rfl (ix_c (by decide)) rfl ?_
        refine ab_aload_n dX11_three_94 rfl ?_
        refine ab_getf dX11_three_95 fl_X11_81 rfl rfl ?_
        refine ab_iconst (v := 4) dX11_three_98 (by decide) ?_
        refine ab_iload_n dX11_three_99 rfl ?_
        refine ab_imul dX11_three_100 ?_
        refine ab_topi (v := 4) (by decide) ?_
        refine ab_iconst (v := 2) dX11_three_101 (by decide) ?_
        refine ab_iadd dX11_three_102 ?_
        refine ab_topi (v := 6) (by decide) ?_
        refine ab_aload_n dX11_three_103 rfl ?_
        refine ab_iload_n dX11_three_104 rfl ?_
        refine ab_callV (As := [.int 1]) (rest := [.int 6, .ref 1017]) dX11_three_105 mv_X11_byOf ml_X11_501 ⟨by decide, by decide, rfl, rfl, rfl⟩ (by decide) rfl rfl (Nat.le_of_ble_eq_true rfl) rfl (c_X11_byOf (ge3 h_5 1 (by decide)) h_r) ?_
        rintro r w' ⟨rfl, rfl⟩
        refine ab_i2l dX11_three_108 ?_
        refine ab_last (w1 := (wc, [ob 9 [.int 0, .int 0, .int m_fault, .int (-1), .ref 1001, .ref 1002, .int 40, .ref 1003, .int m_taped, .int m_linkMany, .int m_tracerMany, .int m_pointMany, .int m_pairMany, .ref 1004, .ref 1005, .ref 1006, .ref 1007, .int m_readLinks, .int m_readTracers, .int m_readPoints, .int m_readPairs, .ref 1008, .ref 1009, .ref 1010, .ref 1011, .int m_textLong, .int m_at, .int m_spot, .int m_token, .int m_whole, .int m_readFault, .int m_readPlace, .int m_value, .long m_n, .long m_c, .long m_d, .long m_s, .long m_e, .long m_k, .long m_x, .long m_y, .long m_g, .long m_a, .ref 1012, .ref 1013, .ref 1014, .int m_curveMany, .ref 1015, .int m_cornerMany, .int m_straightAt, .ref 1016, .long m_fitUp, .long m_fitDown, .long m_worstUp, .long m_worstDown, .ref 1017, .int m_walkLink, .int m_walkAngle, .int m_walkBranch, .int m_walkMany, .ref 1018, .ref 1019, .int m_lined, .ref 1020, .int m_actMany], z1, z2, z3, z4, z5, z6, ia 16 q7, z8, z9, z10, z11, z12, z13, z14, z15, z16, ja 12 (vp_updL (vp_updL (vp_updL (vp_updL (vp_updL (vp_updL (vp_updL q17 0 (Int32.toInt64 ((Mq_c2 q7 0) * (Mq_n0 q7 0)))) 1 (Int32.toInt64 ((-(Mq_c0 q7 0)) * (Mq_n2 q7 0)))) 2 (Int32.toInt64 (Mq_by q7 0))) 3 (Int32.toInt64 (Mq_b q7 0))) 4 (Int32.toInt64 ((Mq_c2 q7 1) * (Mq_n0 q7 1)))) 5 (Int32.toInt64 ((-(Mq_c0 q7 1)) * (Mq_n2 q7 1)))) 6 (Int32.toInt64 (Mq_by q7 1))), z18, z19, z20])) dX11_three_109 rfl (ix_c (by decide)) rfl ?_
        refine ab_aload_n dX11_three_110 rfl ?_
        refine ab_getf dX11_three_111 fl_X11_81 rfl rfl ?_
        refine ab_iconst (v := 4) dX11_three_114 (by decide) ?_
        refine ab_iload_n dX11_three_115 rfl ?_
        refine ab_imul dX11_three_116 ?_
        refine ab_topi (v := 4) (by decide) ?_
        refine ab_iconst (v := 3) dX11_three_117 (by decide) ?_
        refine ab_iadd dX11_three_118 ?_
        refine ab_topi (v := 7) (by decide) ?_
        refine ab_aload_n dX11_three_119 rfl ?_
        refine ab_iload_n dX11_three_120 rfl ?_
        refine ab_callV (As := [.int 1]) (rest := [.int 7, .ref 1017]) dX11_three_121 mv_X11_bothOf ml_X11_504 ⟨by decide, by decide, rfl, rfl, rfl⟩ (by decide) rfl rfl (Nat.le_of_ble_eq_true rfl) rfl (c_X11_bothOf (ge3 h_5 1 (by decide)) h_r) ?_
        rintro r w' ⟨rfl, rfl⟩
        refine ab_i2l dX11_three_124 ?_
        refine ab_last (w1 := (wc, [ob 9 [.int 0, .int 0, .int m_fault, .int (-1), .ref 1001, .ref 1002, .int 40, .ref 1003, .int m_taped, .int m_linkMany, .int m_tracerMany, .int m_pointMany, .int m_pairMany, .ref 1004, .ref 1005, .ref 1006, .ref 1007, .int m_readLinks, .int m_readTracers, .int m_readPoints, .int m_readPairs, .ref 1008, .ref 1009, .ref 1010, .ref 1011, .int m_textLong, .int m_at, .int m_spot, .int m_token, .int m_whole, .int m_readFault, .int m_readPlace, .int m_value, .long m_n, .long m_c, .long m_d, .long m_s, .long m_e, .long m_k, .long m_x, .long m_y, .long m_g, .long m_a, .ref 1012, .ref 1013, .ref 1014, .int m_curveMany, .ref 1015, .int m_cornerMany, .int m_straightAt, .ref 1016, .long m_fitUp, .long m_fitDown, .long m_worstUp, .long m_worstDown, .ref 1017, .int m_walkLink, .int m_walkAngle, .int m_walkBranch, .int m_walkMany, .ref 1018, .ref 1019, .int m_lined, .ref 1020, .int m_actMany], z1, z2, z3, z4, z5, z6, ia 16 q7, z8, z9, z10, z11, z12, z13, z14, z15, z16, ja 12 (vp_updL (vp_updL (vp_updL (vp_updL (vp_updL (vp_updL (vp_updL (vp_updL q17 0 (Int32.toInt64 ((Mq_c2 q7 0) * (Mq_n0 q7 0)))) 1 (Int32.toInt64 ((-(Mq_c0 q7 0)) * (Mq_n2 q7 0)))) 2 (Int32.toInt64 (Mq_by q7 0))) 3 (Int32.toInt64 (Mq_b q7 0))) 4 (Int32.toInt64 ((Mq_c2 q7 1) * (Mq_n0 q7 1)))) 5 (Int32.toInt64 ((-(Mq_c0 q7 1)) * (Mq_n2 q7 1)))) 6 (Int32.toInt64 (Mq_by q7 1))) 7 (Int32.toInt64 (Mq_b q7 1))), z18, z19, z20])) dX11_three_125 rfl (ix_c (by decide)) rfl ?_
        refine ab_iinc (v := 2) (la' := [(3, .int 2), (0, .ref 1000), (1, .int 1), (2, .int a2)]) dX11_three_126 rfl (by decide) (by decide) rfl ?_
        refine ab_goto 42 dX11_three_129 (by decide) ?_
        refine ab_iload_n dX11_three_42 rfl ?_
        refine ab_iconst (v := 3) dX11_three_43 (by decide) ?_
        refine ab_icmpge 132 dX11_three_44 (by decide) (fun h_8 => absurd h_8 (by decide)) (fun h_8 => ?_)
        refine ab_aload_n dX11_three_47 rfl ?_
        refine ab_getf dX11_three_48 fl_X11_81 rfl rfl ?_
        refine ab_iconst (v := 4) dX11_three_51 (by decide) ?_
        refine ab_iload_n dX11_three_52 rfl ?_
        refine ab_imul dX11_three_53 ?_
        refine ab_topi (v := 8) (by decide) ?_
        refine ab_aload_n dX11_three_54 rfl ?_
        refine ab_iload_n dX11_three_55 rfl ?_
        refine ab_iconst (v := 2) dX11_three_56 (by decide) ?_
        refine ab_callV (As := [.int 2, .int 2]) (rest := [.int 8, .ref 1017]) dX11_three_57 mv_X11_cosOf ml_X11_492 ⟨by decide, by decide, rfl, rfl, rfl⟩ (by decide) rfl rfl (Nat.le_of_ble_eq_true rfl) rfl (c_X11_cosOf_2 (ge3 h_5 2 (by decide)) h_r) ?_
        rintro r w' ⟨rfl, rfl⟩
        refine ab_aload_n dX11_three_60 rfl ?_
        refine ab_iload_n dX11_three_61 rfl ?_
        refine ab_iconst (v := 0) dX11_three_62 (by decide) ?_
        refine ab_callV (As := [.int 2, .int 0]) (rest := [.int (Mq_c2 q7 2), .int 8, .ref 1017]) dX11_three_63 mv_X11_normOf ml_X11_498 ⟨by decide, by decide, rfl, rfl, rfl⟩ (by decide) rfl rfl (Nat.le_of_ble_eq_true rfl) rfl (c_X11_normOf_0 (ge3 h_5 2 (by decide)) h_r) ?_
        rintro r w' ⟨rfl, rfl⟩
        refine ab_imul dX11_three_66 ?_
        refine ab_i2l dX11_three_67 ?_
        refine ab_last (w1 := (wc, [ob 9 [.int 0, .int 0, .int m_fault, .int (-1), .ref 1001, .ref 1002, .int 40, .ref 1003, .int m_taped, .int m_linkMany, .int m_tracerMany, .int m_pointMany, .int m_pairMany, .ref 1004, .ref 1005, .ref 1006, .ref 1007, .int m_readLinks, .int m_readTracers, .int m_readPoints, .int m_readPairs, .ref 1008, .ref 1009, .ref 1010, .ref 1011, .int m_textLong, .int m_at, .int m_spot, .int m_token, .int m_whole, .int m_readFault, .int m_readPlace, .int m_value, .long m_n, .long m_c, .long m_d, .long m_s, .long m_e, .long m_k, .long m_x, .long m_y, .long m_g, .long m_a, .ref 1012, .ref 1013, .ref 1014, .int m_curveMany, .ref 1015, .int m_cornerMany, .int m_straightAt, .ref 1016, .long m_fitUp, .long m_fitDown, .long m_worstUp, .long m_worstDown, .ref 1017, .int m_walkLink, .int m_walkAngle, .int m_walkBranch, .int m_walkMany, .ref 1018, .ref 1019, .int m_lined, .ref 1020, .int m_actMany], z1, z2, z3, z4, z5, z6, ia 16 q7, z8, z9, z10, z11, z12, z13, z14, z15, z16, ja 12 (vp_updL (vp_updL (vp_updL (vp_updL (vp_updL (vp_updL (vp_updL (vp_updL (vp_updL q17 0 (Int32.toInt64 ((Mq_c2 q7 0) * (Mq_n0 q7 0)))) 1 (Int32.toInt64 ((-(Mq_c0 q7 0)) * (Mq_n2 q7 0)))) 2 (Int32.toInt64 (Mq_by q7 0))) 3 (Int32.toInt64 (Mq_b q7 0))) 4 (Int32.toInt64 ((Mq_c2 q7 1) * (Mq_n0 q7 1)))) 5 (Int32.toInt64 ((-(Mq_c0 q7 1)) * (Mq_n2 q7 1)))) 6 (Int32.toInt64 (Mq_by q7 1))) 7 (Int32.toInt64 (Mq_b q7 1))) 8 (Int32.toInt64 ((Mq_c2 q7 2) * (Mq_n0 q7 2)))), z18, z19, z20])) dX11_three_68 rfl (ix_c (by decide)) rfl ?_
        refine ab_aload_n dX11_three_69 rfl ?_
        refine ab_getf dX11_three_70 fl_X11_81 rfl rfl ?_
        refine ab_iconst (v := 4) dX11_three_73 (by decide) ?_
        refine ab_iload_n dX11_three_74 rfl ?_
        refine ab_imul dX11_three_75 ?_
        refine ab_topi (v := 8) (by decide) ?_
        refine ab_iconst (v := 1) dX11_three_76 (by decide) ?_
        refine ab_iadd dX11_three_77 ?_
        refine ab_topi (v := 9) (by decide) ?_
        refine ab_aload_n dX11_three_78 rfl ?_
        refine ab_iload_n dX11_three_79 rfl ?_
        refine ab_iconst (v := 0) dX11_three_80 (by decide) ?_
        refine ab_callV (As := [.int 2, .int 0]) (rest := [.int 9, .ref 1017]) dX11_three_81 mv_X11_cosOf ml_X11_492 ⟨by decide, by decide, rfl, rfl, rfl⟩ (by decide) rfl rfl (Nat.le_of_ble_eq_true rfl) rfl (c_X11_cosOf_0 (ge3 h_5 2 (by decide)) h_r) ?_
        rintro r w' ⟨rfl, rfl⟩
        refine ab_ineg dX11_three_84 ?_
        refine ab_aload_n dX11_three_85 rfl ?_
        refine ab_iload_n dX11_three_86 rfl ?_
        refine ab_iconst (v := 2) dX11_three_87 (by decide) ?_
        refine ab_callV (As := [.int 2, .int 2]) (rest := [.int (-(Mq_c0 q7 2)), .int 9, .ref 1017]) dX11_three_88 mv_X11_normOf ml_X11_498 ⟨by decide, by decide, rfl, rfl, rfl⟩ (by decide) rfl rfl (Nat.le_of_ble_eq_true rfl) rfl (c_X11_normOf_2 (ge3 h_5 2 (by decide)) h_r) ?_
        rintro r w' ⟨rfl, rfl⟩
        refine ab_imul dX11_three_91 ?_
        refine ab_i2l dX11_three_92 ?_
        refine ab_last (w1 := (wc, [ob 9 [.int 0, .int 0, .int m_fault, .int (-1), .ref 1001, .ref 1002, .int 40, .ref 1003, .int m_taped, .int m_linkMany, .int m_tracerMany, .int m_pointMany, .int m_pairMany, .ref 1004, .ref 1005, .ref 1006, .ref 1007, .int m_readLinks, .int m_readTracers, .int m_readPoints, .int m_readPairs, .ref 1008, .ref 1009, .ref 1010, .ref 1011, .int m_textLong, .int m_at, .int m_spot, .int m_token, .int m_whole, .int m_readFault, .int m_readPlace, .int m_value, .long m_n, .long m_c, .long m_d, .long m_s, .long m_e, .long m_k, .long m_x, .long m_y, .long m_g, .long m_a, .ref 1012, .ref 1013, .ref 1014, .int m_curveMany, .ref 1015, .int m_cornerMany, .int m_straightAt, .ref 1016, .long m_fitUp, .long m_fitDown, .long m_worstUp, .long m_worstDown, .ref 1017, .int m_walkLink, .int m_walkAngle, .int m_walkBranch, .int m_walkMany, .ref 1018, .ref 1019, .int m_lined, .ref 1020, .int m_actMany], z1, z2, z3, z4, z5, z6, ia 16 q7, z8, z9, z10, z11, z12, z13, z14, z15, z16, ja 12 (vp_updL (vp_updL (vp_updL (vp_updL (vp_updL (vp_updL (vp_updL (vp_updL (vp_updL (vp_updL q17 0 (Int32.toInt64 ((Mq_c2 q7 0) * (Mq_n0 q7 0)))) 1 (Int32.toInt64 ((-(Mq_c0 q7 0)) * (Mq_n2 q7 0)))) 2 (Int32.toInt64 (Mq_by q7 0))) 3 (Int32.toInt64 (Mq_b q7 0))) 4 (Int32.toInt64 ((Mq_c2 q7 1) * (Mq_n0 q7 1)))) 5 (Int32.toInt64 ((-(Mq_c0 q7 1)) * (Mq_n2 q7 1)))) 6 (Int32.toInt64 (Mq_by q7 1))) 7 (Int32.toInt64 (Mq_b q7 1))) 8 (Int32.toInt64 ((Mq_c2 q7 2) * (Mq_n0 q7 2)))) 9 (Int32.toInt64 ((-(Mq_c0 q7 2)) * (Mq_n2 q7 2)))), z18, z19, z20])) dX11_three_93 rfl (ix_c (by decide)) rfl ?_
        refine ab_aload_n dX11_three_94 rfl ?_
        refine ab_getf dX11_three_95 fl_X11_81 rfl rfl ?_
        refine ab_iconst (v := 4) dX11_three_98 (by decide) ?_
        refine ab_iload_n dX11_three_99 rfl ?_
        refine ab_imul dX11_three_100 ?_
        refine ab_topi (v := 8) (by decide) ?_
        refine ab_iconst (v := 2) dX11_three_101 (by decide) ?_
        refine ab_iadd dX11_three_102 ?_
        refine ab_topi (v := 10) (by decide) ?_
        refine ab_aload_n dX11_three_103 rfl ?_
        refine ab_iload_n dX11_three_104 rfl ?_
        refine ab_callV (As := [.int 2]) (rest := [.int 10, .ref 1017]) dX11_three_105 mv_X11_byOf ml_X11_501 ⟨by decide, by decide, rfl, rfl, rfl⟩ (by decide) rfl rfl (Nat.le_of_ble_eq_true rfl) rfl (c_X11_byOf (ge3 h_5 2 (by decide)) h_r) ?_
        rintro r w' ⟨rfl, rfl⟩
        refine ab_i2l dX11_three_108 ?_
        refine ab_last (w1 := (wc, [ob 9 [.int 0, .int 0, .int m_fault, .int (-1), .ref 1001, .ref 1002, .int 40, .ref 1003, .int m_taped, .int m_linkMany, .int m_tracerMany, .int m_pointMany, .int m_pairMany, .ref 1004, .ref 1005, .ref 1006, .ref 1007, .int m_readLinks, .int m_readTracers, .int m_readPoints, .int m_readPairs, .ref 1008, .ref 1009, .ref 1010, .ref 1011, .int m_textLong, .int m_at, .int m_spot, .int m_token, .int m_whole, .int m_readFault, .int m_readPlace, .int m_value, .long m_n, .long m_c, .long m_d, .long m_s, .long m_e, .long m_k, .long m_x, .long m_y, .long m_g, .long m_a, .ref 1012, .ref 1013, .ref 1014, .int m_curveMany, .ref 1015, .int m_cornerMany, .int m_straightAt, .ref 1016, .long m_fitUp, .long m_fitDown, .long m_worstUp, .long m_worstDown, .ref 1017, .int m_walkLink, .int m_walkAngle, .int m_walkBranch, .int m_walkMany, .ref 1018, .ref 1019, .int m_lined, .ref 1020, .int m_actMany], z1, z2, z3, z4, z5, z6, ia 16 q7, z8, z9, z10, z11, z12, z13, z14, z15, z16, ja 12 (vp_updL (vp_updL (vp_updL (vp_updL (vp_updL (vp_updL (vp_updL (vp_updL (vp_updL (vp_updL (vp_updL q17 0 (Int32.toInt64 ((Mq_c2 q7 0) * (Mq_n0 q7 0)))) 1 (Int32.toInt64 ((-(Mq_c0 q7 0)) * (Mq_n2 q7 0)))) 2 (Int32.toInt64 (Mq_by q7 0))) 3 (Int32.toInt64 (Mq_b q7 0))) 4 (Int32.toInt64 ((Mq_c2 q7 1) * (Mq_n0 q7 1)))) 5 (Int32.toInt64 ((-(Mq_c0 q7 1)) * (Mq_n2 q7 1)))) 6 (Int32.toInt64 (Mq_by q7 1))) 7 (Int32.toInt64 (Mq_b q7 1))) 8 (Int32.toInt64 ((Mq_c2 q7 2) * (Mq_n0 q7 2)))) 9 (Int32.toInt64 ((-(Mq_c0 q7 2)) * (Mq_n2 q7 2)))) 10 (Int32.toInt64 (Mq_by q7 2))), z18, z19, z20])) dX11_three_109 rfl (ix_c (by decide)) rfl ?_
        refine ab_aload_n dX11_three_110 rfl ?_
        refine ab_getf dX11_three_111 fl_X11_81 rfl rfl ?_
        refine ab_iconst (v := 4) dX11_three_114 (by decide) ?_
        refine ab_iload_n dX11_three_115 rfl ?_
        refine ab_imul dX11_three_116 ?_
        refine ab_topi (v := 8) (by decide) ?_
        refine ab_iconst (v := 3) dX11_three_117 (by decide) ?_
        refine ab_iadd dX11_three_118 ?_
        refine ab_topi (v := 11) (by decide) ?_
        refine ab_aload_n dX11_three_119 rfl ?_
        refine ab_iload_n dX11_three_120 rfl ?_
        refine ab_callV (As := [.int 2]) (rest := [.int 11, .ref 1017]) dX11_three_121 mv_X11_bothOf ml_X11_504 ⟨by decide, by decide, rfl, rfl, rfl⟩ (by decide) rfl rfl (Nat.le_of_ble_eq_true rfl) rfl (c_X11_bothOf (ge3 h_5 2 (by decide)) h_r) ?_
        rintro r w' ⟨rfl, rfl⟩
        refine ab_i2l dX11_three_124 ?_
        refine ab_last (w1 := (wc, [ob 9 [.int 0, .int 0, .int m_fault, .int (-1), .ref 1001, .ref 1002, .int 40, .ref 1003, .int m_taped, .int m_linkMany, .int m_tracerMany, .int m_pointMany, .int m_pairMany, .ref 1004, .ref 1005, .ref 1006, .ref 1007, .int m_readLinks, .int m_readTracers, .int m_readPoints, .int m_readPairs, .ref 1008, .ref 1009, .ref 1010, .ref 1011, .int m_textLong, .int m_at, .int m_spot, .int m_token, .int m_whole, .int m_readFault, .int m_readPlace, .int m_value, .long m_n, .long m_c, .long m_d, .long m_s, .long m_e, .long m_k, .long m_x, .long m_y, .long m_g, .long m_a, .ref 1012, .ref 1013, .ref 1014, .int m_curveMany, .ref 1015, .int m_cornerMany, .int m_straightAt, .ref 1016, .long m_fitUp, .long m_fitDown, .long m_worstUp, .long m_worstDown, .ref 1017, .int m_walkLink, .int m_walkAngle, .int m_walkBranch, .int m_walkMany, .ref 1018, .ref 1019, .int m_lined, .ref 1020, .int m_actMany], z1, z2, z3, z4, z5, z6, ia 16 q7, z8, z9, z10, z11, z12, z13, z14, z15, z16, ja 12 (vp_updL (vp_updL (vp_updL (vp_updL (vp_updL (vp_updL (vp_updL (vp_updL (vp_updL (vp_updL (vp_updL (vp_updL q17 0 (Int32.toInt64 ((Mq_c2 q7 0) * (Mq_n0 q7 0)))) 1 (Int32.toInt64 ((-(Mq_c0 q7 0)) * (Mq_n2 q7 0)))) 2 (Int32.toInt64 (Mq_by q7 0))) 3 (Int32.toInt64 (Mq_b q7 0))) 4 (Int32.toInt64 ((Mq_c2 q7 1) * (Mq_n0 q7 1)))) 5 (Int32.toInt64 ((-(Mq_c0 q7 1)) * (Mq_n2 q7 1)))) 6 (Int32.toInt64 (Mq_by q7 1))) 7 (Int32.toInt64 (Mq_b q7 1))) 8 (Int32.toInt64 ((Mq_c2 q7 2) * (Mq_n0 q7 2)))) 9 (Int32.toInt64 ((-(Mq_c0 q7 2)) * (Mq_n2 q7 2)))) 10 (Int32.toInt64 (Mq_by q7 2))) 11 (Int32.toInt64 (Mq_b q7 2))), z18, z19, z20])) dX11_three_125 rfl (ix_c (by decide)) rfl ?_
        refine ab_iinc (v := 3) (la' := [(3, .int 3), (0, .ref 1000), (1, .int 1), (2, .int a2)]) dX11_three_126 rfl (by decide) (by decide) rfl ?_
        refine ab_goto 42 dX11_three_129 (by decide) ?_
        refine ab_iload_n dX11_three_42 rfl ?_
        refine ab_iconst (v := 3) dX11_three_43 (by decide) ?_
        refine ab_icmpge 132 dX11_three_44 (by decide) (fun h_9 => ?_) (fun h_9 => absurd (by decide) h_9)
        refine ab_world (wc, [ob 9 [.int 0, .int 0, .int m_fault, .int (-1), .ref 1001, .ref 1002, .int 40, .ref 1003, .int m_taped, .int m_linkMany, .int m_tracerMany, .int m_pointMany, .int m_pairMany, .ref 1004, .ref 1005, .ref 1006, .ref 1007, .int m_readLinks, .int m_readTracers, .int m_readPoints, .int m_readPairs, .ref 1008, .ref 1009, .ref 1010, .ref 1011, .int m_textLong, .int m_at, .int m_spot, .int m_token, .int m_whole, .int m_readFault, .int m_readPlace, .int m_value, .long m_n, .long m_c, .long m_d, .long m_s, .long m_e, .long m_k, .long m_x, .long m_y, .long m_g, .long m_a, .ref 1012, .ref 1013, .ref 1014, .int m_curveMany, .ref 1015, .int m_cornerMany, .int m_straightAt, .ref 1016, .long m_fitUp, .long m_fitDown, .long m_worstUp, .long m_worstDown, .ref 1017, .int m_walkLink, .int m_walkAngle, .int m_walkBranch, .int m_walkMany, .ref 1018, .ref 1019, .int m_lined, .ref 1020, .int m_actMany], z1, z2, z3, z4, z5, z6, ia 16 q7, z8, z9, z10, z11, z12, z13, z14, z15, z16, ja 12 (rowsM q7 q17), z18, z19, z20]) rfl ?_
        refine ab_aload_n dX11_three_132 rfl ?_
        refine ab_iconst (v := 0) dX11_three_133 (by decide) ?_
        refine ab_iconst (v := 1) dX11_three_134 (by decide) ?_
        refine ab_iconst (v := 2) dX11_three_135 (by decide) ?_
        refine ab_callV (As := [.int 0, .int 1, .int 2]) (rest := []) dX11_three_136 mv_X11_minor ml_X11_529 ⟨by decide, by decide, rfl, rfl, rfl⟩ (by decide) rfl rfl (Nat.le_of_ble_eq_true rfl) rfl c_X11_minor_012 ?_
        rintro r w' ⟨rfl, rfl⟩
        refine ab_lstore_n (la' := [(3, .long (Mq_m012 (rowsM q7 q17))), (0, .ref 1000), (1, .int 1), (2, .int a2)]) dX11_three_139 (by decide) rfl ?_
        refine ab_lload_n dX11_three_140 rfl ?_
        refine ab_lconst (v := 0) dX11_three_141 (by decide) ?_
        refine ab_lcmpne 152 dX11_three_142 dX11_three_143 (by decide) (fun h_10 => ?_) (fun h_10 => ?_)
        · refine ab_aload_n dX11_three_152 rfl ?_
          refine ab_aload_n dX11_three_153 rfl ?_
          refine ab_iload_n dX11_three_154 rfl ?_
          refine ab_ifne 162 dX11_three_155 (by decide) (fun h_11 => ?_) (fun h_11 => absurd h_11 (by decide))
          refine ab_iconst (v := 0) dX11_three_162 (by decide) ?_
          refine ab_iload_n dX11_three_163 rfl ?_
          refine ab_iconst (v := 1) dX11_three_164 (by decide) ?_
          refine ab_icmpne 172 dX11_three_165 (by decide) (fun h_12 => absurd (by decide) h_12) (fun h_12 => ?_)
          refine ab_iconst (v := 3) dX11_three_168 (by decide) ?_
          refine ab_goto 173 dX11_three_169 (by decide) ?_
          refine ab_iload_n dX11_three_173 rfl ?_
          refine ab_iconst (v := 2) dX11_three_174 (by decide) ?_
          refine ab_icmpne 182 dX11_three_175 (by decide) (fun h_13 => ?_) (fun h_13 => absurd h_13 (by decide))
          refine ab_iconst (v := 2) dX11_three_182 (by decide) ?_
          refine ab_callV (As := [.int 0, .int 3, .int 2]) (rest := [.ref 1000]) dX11_three_183 mv_X11_minor ml_X11_529 ⟨by decide, by decide, rfl, rfl, rfl⟩ (by decide) rfl rfl (Nat.le_of_ble_eq_true rfl) rfl c_X11_minor_032 ?_
          rintro r w' ⟨rfl, rfl⟩
          refine ab_lload_n dX11_three_186 rfl ?_
          refine ab_iload_n dX11_three_187 rfl ?_
          refine ab_callV (As := [.long (Mq_m032 (rowsM q7 q17)), .long (Mq_m012 (rowsM q7 q17)), .int a2]) (rest := []) dX11_three_188 mv_X11_part ml_X11_308 ⟨by decide, by decide, rfl, rfl, rfl⟩ (by decide) rfl rfl (Nat.le_of_ble_eq_true rfl) rfl (c_X11_part (h_q2 h_1 h_5 h_10) (h_q3 h_1 h_5 h_10) h_10) ?_
          rintro r w' ⟨rfl, rfl⟩
          exact ab_lret dX11_three_191 rfl (by decide) (Or.inr (Or.inl ⟨h_1, h_5, h_10, rfl, rfl⟩))
        · refine ab_aload_n dX11_three_146 rfl ?_
          refine ab_iconst (v := 5) dX11_three_147 (by decide) ?_
          refine ab_callV (As := [.int 5]) (rest := []) dX11_three_148 mv_X11_lowest ml_X11_304 ⟨by decide, by decide, rfl, rfl, rfl⟩ (by decide) rfl rfl (Nat.le_of_ble_eq_true rfl) rfl c_X11_lowest ?_
          rintro r w' ⟨rfl, rfl⟩
          exact ab_lret dX11_three_151 rfl (by decide) (Or.inr (Or.inr (Or.inl ⟨h_1, h_5, h_10, rfl, rfl⟩)))
      · refine ab_aload_n dX11_three_34 rfl ?_
        refine ab_iconst (v := 5) dX11_three_35 (by decide) ?_
        refine ab_callV (As := [.int 5]) (rest := []) dX11_three_36 mv_X11_lowest ml_X11_304 ⟨by decide, by decide, rfl, rfl, rfl⟩ (by decide) rfl rfl (Nat.le_of_ble_eq_true rfl) rfl c_X11_lowest ?_
        rintro r w' ⟨rfl, rfl⟩
        exact ab_lret dX11_three_39 rfl (by decide) (Or.inr (Or.inr (Or.inr (⟨h_1, h_5, rfl, rfl⟩))))
    · exact absurd (by decide) c_3
theorem c_X11_three_2 {wc : List ax_E} {m_thrown m_trouble m_fault m_where m_taped m_linkMany m_tracerMany m_pointMany m_pairMany m_readLinks m_readTracers m_readPoints m_readPairs m_textLong m_at m_spot m_token m_whole m_readFault m_readPlace m_value m_curveMany m_cornerMany m_straightAt m_walkLink m_walkAngle m_walkBranch m_walkMany m_lined m_actMany a2 : Int32} {m_n m_c m_d m_s m_e m_k m_x m_y m_g m_a m_fitUp m_fitDown m_worstUp m_worstDown : Int64} {z1 z2 z3 z4 z5 z6 z8 z9 z10 z11 z12 z13 z14 z15 z16 z18 z19 z20 : ax_E} {q7 : Nat → Int32} {q17 : Nat → Int64} (h_l : 0 ≤ m_linkMany ∧ m_linkMany ≤ nI 4) (h_r : 0 ≤ m_pairMany ∧ m_pairMany ≤ nI 4) (h_q2 : (¬ m_linkMany = 0) → (3 ≤ m_pairMany) → (¬ (Mq_m012 (rowsM q7 q17)) = 0) → (Mq_m013 (rowsM q7 q17)).toInt ≠ -2 ^ 63) (h_q3 : (¬ m_linkMany = 0) → (3 ≤ m_pairMany) → (¬ (Mq_m012 (rowsM q7 q17)) = 0) → (Mq_m012 (rowsM q7 q17)).toInt ≠ -2 ^ 63) : Ct M_X11_three [.ref 1000, .int 2, .int a2] (wc, [ob 9 [.int m_thrown, .int m_trouble, .int m_fault, .int m_where, .ref 1001, .ref 1002, .int 40, .ref 1003, .int m_taped, .int m_linkMany, .int m_tracerMany, .int m_pointMany, .int m_pairMany, .ref 1004, .ref 1005, .ref 1006, .ref 1007, .int m_readLinks, .int m_readTracers, .int m_readPoints, .int m_readPairs, .ref 1008, .ref 1009, .ref 1010, .ref 1011, .int m_textLong, .int m_at, .int m_spot, .int m_token, .int m_whole, .int m_readFault, .int m_readPlace, .int m_value, .long m_n, .long m_c, .long m_d, .long m_s, .long m_e, .long m_k, .long m_x, .long m_y, .long m_g, .long m_a, .ref 1012, .ref 1013, .ref 1014, .int m_curveMany, .ref 1015, .int m_cornerMany, .int m_straightAt, .ref 1016, .long m_fitUp, .long m_fitDown, .long m_worstUp, .long m_worstDown, .ref 1017, .int m_walkLink, .int m_walkAngle, .int m_walkBranch, .int m_walkMany, .ref 1018, .ref 1019, .int m_lined, .ref 1020, .int m_actMany], z1, z2, z3, z4, z5, z6, ia 16 q7, z8, z9, z10, z11, z12, z13, z14, z15, z16, ja 12 q17, z18, z19, z20]) (fun r w' => ((m_linkMany = 0) ∧ r = some (.long (-9223372036854775808)) ∧ w' = (wc, [ob 9 [.int 0, .int 1, .int m_fault, .int (-1), .ref 1001, .ref 1002, .int 40, .ref 1003, .int m_taped, .int m_linkMany, .int m_tracerMany, .int m_pointMany, .int m_pairMany, .ref 1004, .ref 1005, .ref 1006, .ref 1007, .int m_readLinks, .int m_readTracers, .int m_readPoints, .int m_readPairs, .ref 1008, .ref 1009, .ref 1010, .ref 1011, .int m_textLong, .int m_at, .int m_spot, .int m_token, .int m_whole, .int m_readFault, .int m_readPlace, .int m_value, .long m_n, .long m_c, .long m_d, .long m_s, .long m_e, .long m_k, .long m_x, .long m_y, .long m_g, .long m_a, .ref 1012, .ref 1013, .ref 1014, .int m_curveMany, .ref 1015, .int m_cornerMany, .int m_straightAt, .ref 1016, .long m_fitUp, .long m_fitDown, .long m_worstUp, .long m_worstDown, .ref 1017, .int m_walkLink, .int m_walkAngle, .int m_walkBranch, .int m_walkMany, .ref 1018, .ref 1019, .int m_lined, .ref 1020, .int m_actMany], z1, z2, z3, z4, z5, z6, ia 16 q7, z8, z9, z10, z11, z12, z13, z14, z15, z16, ja 12 q17, z18, z19, z20])) ∨ ((¬ m_linkMany = 0) ∧ (3 ≤ m_pairMany) ∧ (¬ (Mq_m012 (rowsM q7 q17)) = 0) ∧ r = some (.long (Mp (Mq_m013 (rowsM q7 q17)) (Mq_m012 (rowsM q7 q17)) a2)) ∧ w' = (wc, [ob 9 [.int 0, .int 0, .int m_fault, .int (-1), .ref 1001, .ref 1002, .int 40, .ref 1003, .int m_taped, .int m_linkMany, .int m_tracerMany, .int m_pointMany, .int m_pairMany, .ref 1004, .ref 1005, .ref 1006, .ref 1007, .int m_readLinks, .int m_readTracers, .int m_readPoints, .int m_readPairs, .ref 1008, .ref 1009, .ref 1010, .ref 1011, .int m_textLong, .int m_at, .int m_spot, .int m_token, .int m_whole, .int m_readFault, .int m_readPlace, .int m_value, .long m_n, .long m_c, .long m_d, .long m_s, .long m_e, .long m_k, .long m_x, .long m_y, .long m_g, .long m_a, .ref 1012, .ref 1013, .ref 1014, .int m_curveMany, .ref 1015, .int m_cornerMany, .int m_straightAt, .ref 1016, .long m_fitUp, .long m_fitDown, .long m_worstUp, .long m_worstDown, .ref 1017, .int m_walkLink, .int m_walkAngle, .int m_walkBranch, .int m_walkMany, .ref 1018, .ref 1019, .int m_lined, .ref 1020, .int m_actMany], z1, z2, z3, z4, z5, z6, ia 16 q7, z8, z9, z10, z11, z12, z13, z14, z15, z16, ja 12 (rowsM q7 q17), z18, z19, z20])) ∨ ((¬ m_linkMany = 0) ∧ (3 ≤ m_pairMany) ∧ ((Mq_m012 (rowsM q7 q17)) = 0) ∧ r = some (.long (-9223372036854775808)) ∧ w' = (wc, [ob 9 [.int 0, .int 5, .int m_fault, .int (-1), .ref 1001, .ref 1002, .int 40, .ref 1003, .int m_taped, .int m_linkMany, .int m_tracerMany, .int m_pointMany, .int m_pairMany, .ref 1004, .ref 1005, .ref 1006, .ref 1007, .int m_readLinks, .int m_readTracers, .int m_readPoints, .int m_readPairs, .ref 1008, .ref 1009, .ref 1010, .ref 1011, .int m_textLong, .int m_at, .int m_spot, .int m_token, .int m_whole, .int m_readFault, .int m_readPlace, .int m_value, .long m_n, .long m_c, .long m_d, .long m_s, .long m_e, .long m_k, .long m_x, .long m_y, .long m_g, .long m_a, .ref 1012, .ref 1013, .ref 1014, .int m_curveMany, .ref 1015, .int m_cornerMany, .int m_straightAt, .ref 1016, .long m_fitUp, .long m_fitDown, .long m_worstUp, .long m_worstDown, .ref 1017, .int m_walkLink, .int m_walkAngle, .int m_walkBranch, .int m_walkMany, .ref 1018, .ref 1019, .int m_lined, .ref 1020, .int m_actMany], z1, z2, z3, z4, z5, z6, ia 16 q7, z8, z9, z10, z11, z12, z13, z14, z15, z16, ja 12 (rowsM q7 q17), z18, z19, z20])) ∨ ((¬ m_linkMany = 0) ∧ (¬ 3 ≤ m_pairMany) ∧ r = some (.long (-9223372036854775808)) ∧ w' = (wc, [ob 9 [.int 0, .int 5, .int m_fault, .int (-1), .ref 1001, .ref 1002, .int 40, .ref 1003, .int m_taped, .int m_linkMany, .int m_tracerMany, .int m_pointMany, .int m_pairMany, .ref 1004, .ref 1005, .ref 1006, .ref 1007, .int m_readLinks, .int m_readTracers, .int m_readPoints, .int m_readPairs, .ref 1008, .ref 1009, .ref 1010, .ref 1011, .int m_textLong, .int m_at, .int m_spot, .int m_token, .int m_whole, .int m_readFault, .int m_readPlace, .int m_value, .long m_n, .long m_c, .long m_d, .long m_s, .long m_e, .long m_k, .long m_x, .long m_y, .long m_g, .long m_a, .ref 1012, .ref 1013, .ref 1014, .int m_curveMany, .ref 1015, .int m_cornerMany, .int m_straightAt, .ref 1016, .long m_fitUp, .long m_fitDown, .long m_worstUp, .long m_worstDown, .ref 1017, .int m_walkLink, .int m_walkAngle, .int m_walkBranch, .int m_walkMany, .ref 1018, .ref 1019, .int m_lined, .ref 1020, .int m_actMany], z1, z2, z3, z4, z5, z6, ia 16 q7, z8, z9, z10, z11, z12, z13, z14, z15, z16, ja 12 q17, z18, z19, z20]))) := by
  refine ct_of ⟨by decide, rfl⟩ (Nat.le_of_ble_eq_true rfl) ?_
  refine ab_aload_n dX11_three_0 rfl ?_
  refine ab_callV (As := []) (rest := []) dX11_three_1 mv_X11_anew ml_X11_104 ⟨by decide, by decide, rfl, rfl, rfl⟩ (by decide) rfl rfl (Nat.le_of_ble_eq_true rfl) rfl c_X11_anew ?_
  rintro r w' ⟨rfl, rfl⟩
  refine ab_aload_n dX11_three_4 rfl ?_
  refine ab_getf dX11_three_5 fl_X11_233 rfl rfl ?_
  refine ab_ifeq 20 dX11_three_8 (by decide) (fun h_1 => ?_) (fun h_1 => ?_)
  · refine ab_aload_n dX11_three_20 rfl ?_
    refine ab_iconst (v := 1) dX11_three_21 (by decide) ?_
    refine ab_callV (As := [.int 1]) (rest := []) dX11_three_22 mv_X11_lowest ml_X11_304 ⟨by decide, by decide, rfl, rfl, rfl⟩ (by decide) rfl rfl (Nat.le_of_ble_eq_true rfl) rfl c_X11_lowest ?_
    rintro r w' ⟨rfl, rfl⟩
    exact ab_lret dX11_three_25 rfl (by decide) (Or.inl ⟨h_1, rfl, rfl⟩)
  · refine ab_iload_n dX11_three_11 rfl ?_
    refine ab_iconst (v := 0) dX11_three_12 (by decide) ?_
    refine ab_iconst (v := 2) dX11_three_13 (by decide) ?_
    refine ab_callS (As := [.int 2, .int 0, .int 2]) (rest := []) dX11_three_14 ms_X11_in ml_X11_107 ⟨by decide, by decide, rfl, rfl, rfl⟩ (by decide) rfl rfl (Nat.le_of_ble_eq_true rfl) c_X11_in ?_
    rintro r w' (⟨c_2, rfl, rfl⟩ | ⟨c_3, rfl, rfl⟩)
    · refine ab_ifne 26 dX11_three_17 (by decide) (fun h_4 => ?_) (fun h_4 => absurd h_4 (by decide))
      refine ab_aload_n dX11_three_26 rfl ?_
      refine ab_getf dX11_three_27 fl_X11_242 rfl rfl ?_
      refine ab_iconst (v := 3) dX11_three_30 (by decide) ?_
      refine ab_icmpge 40 dX11_three_31 (by decide) (fun h_5 => ?_) (fun h_5 => ?_)
      · refine ab_iconst (v := 0) dX11_three_40 (by decide) ?_
        refine ab_istore_n (la' := [(3, .int 0), (0, .ref 1000), (1, .int 2), (2, .int a2)]) dX11_three_41 (by decide) rfl ?_
        refine ab_iload_n dX11_three_42 rfl ?_
        refine ab_iconst (v := 3) dX11_three_43 (by decide) ?_
        refine ab_icmpge 132 dX11_three_44 (by decide) (fun h_6 => absurd h_6 (by decide)) (fun h_6 => ?_)
        refine ab_aload_n dX11_three_47 rfl ?_
        refine ab_getf dX11_three_48 fl_X11_81 rfl rfl ?_
        refine ab_iconst (v := 4) dX11_three_51 (by decide) ?_
        refine ab_iload_n dX11_three_52 rfl ?_
        refine ab_imul dX11_three_53 ?_
        refine ab_topi (v := 0) (by decide) ?_
        refine ab_aload_n dX11_three_54 rfl ?_
        refine ab_iload_n dX11_three_55 rfl ?_
        refine ab_iconst (v := 2) dX11_three_56 (by decide) ?_
        refine ab_callV (As := [.int 0, .int 2]) (rest := [.int 0, .ref 1017]) dX11_three_57 mv_X11_cosOf ml_X11_492 ⟨by decide, by decide, rfl, rfl, rfl⟩ (by decide) rfl rfl (Nat.le_of_ble_eq_true rfl) rfl (c_X11_cosOf_2 (ge3 h_5 0 (by decide)) h_r) ?_
        rintro r w' ⟨rfl, rfl⟩
        refine ab_aload_n dX11_three_60 rfl ?_
        refine ab_iload_n dX11_three_61 rfl ?_
        refine ab_iconst (v := 0) dX11_three_62 (by decide) ?_
        refine ab_callV (As := [.int 0, .int 0]) (rest := [.int (Mq_c2 q7 0), .int 0, .ref 1017]) dX11_three_63 mv_X11_normOf ml_X11_498 ⟨by decide, by decide, rfl, rfl, rfl⟩ (by decide) rfl rfl (Nat.le_of_ble_eq_true rfl) rfl (c_X11_normOf_0 (ge3 h_5 0 (by decide)) h_r) ?_
        rintro r w' ⟨rfl, rfl⟩
        refine ab_imul dX11_three_66 ?_
        refine ab_i2l dX11_three_67 ?_
        refine ab_last (w1 := (wc, [ob 9 [.int 0, .int 0, .int m_fault, .int (-1), .ref 1001, .ref 1002, .int 40, .ref 1003, .int m_taped, .int m_linkMany, .int m_tracerMany, .int m_pointMany, .int m_pairMany, .ref 1004, .ref 1005, .ref 1006, .ref 1007, .int m_readLinks, .int m_readTracers, .int m_readPoints, .int m_readPairs, .ref 1008, .ref 1009, .ref 1010, .ref 1011, .int m_textLong, .int m_at, .int m_spot, .int m_token, .int m_whole, .int m_readFault, .int m_readPlace, .int m_value, .long m_n, .long m_c, .long m_d, .long m_s, .long m_e, .long m_k, .long m_x, .long m_y, .long m_g, .long m_a, .ref 1012, .ref 1013, .ref 1014, .int m_curveMany, .ref 1015, .int m_cornerMany, .int m_straightAt, .ref 1016, .long m_fitUp, .long m_fitDown, .long m_worstUp, .long m_worstDown, .ref 1017, .int m_walkLink, .int m_walkAngle, .int m_walkBranch, .int m_walkMany, .ref 1018, .ref 1019, .int m_lined, .ref 1020, .int m_actMany], z1, z2, z3, z4, z5, z6, ia 16 q7, z8, z9, z10, z11, z12, z13, z14, z15, z16, ja 12 (vp_updL q17 0 (Int32.toInt64 ((Mq_c2 q7 0) * (Mq_n0 q7 0)))), z18, z19, z20])) dX11_three_68 rfl (ix_c (by decide)) rfl ?_
        refine ab_aload_n dX11_three_69 rfl ?_
        refine ab_getf dX11_three_70 fl_X11_81 rfl rfl ?_
        refine ab_iconst (v := 4) dX11_three_73 (by decide) ?_
        refine ab_iload_n dX11_three_74 rfl ?_
        refine ab_imul dX11_three_75 ?_
        refine ab_topi (v := 0) (by decide) ?_
        refine ab_iconst (v := 1) dX11_three_76 (by decide) ?_
        refine ab_iadd dX11_three_77 ?_
        refine ab_topi (v := 1) (by decide) ?_
        refine ab_aload_n dX11_three_78 rfl ?_
        refine ab_iload_n dX11_three_79 rfl ?_
        refine ab_iconst (v := 0) dX11_three_80 (by decide) ?_
        refine ab_callV (As := [.int 0, .int 0]) (rest := [.int 1, .ref 1017]) dX11_three_81 mv_X11_cosOf ml_X11_492 ⟨by decide, by decide, rfl, rfl, rfl⟩ (by decide) rfl rfl (Nat.le_of_ble_eq_true rfl) rfl (c_X11_cosOf_0 (ge3 h_5 0 (by decide)) h_r) ?_
        rintro r w' ⟨rfl, rfl⟩
        refine ab_ineg dX11_three_84 ?_
        refine ab_aload_n dX11_three_85 rfl ?_
        refine ab_iload_n dX11_three_86 rfl ?_
        refine ab_iconst (v := 2) dX11_three_87 (by decide) ?_
        refine ab_callV (As := [.int 0, .int 2]) (rest := [.int (-(Mq_c0 q7 0)), .int 1, .ref 1017]) dX11_three_88 mv_X11_normOf ml_X11_498 ⟨by decide, by decide, rfl, rfl, rfl⟩ (by decide) rfl rfl (Nat.le_of_ble_eq_true rfl) rfl (c_X11_normOf_2 (ge3 h_5 0 (by decide)) h_r) ?_
        rintro r w' ⟨rfl, rfl⟩
        refine ab_imul dX11_three_91 ?_
        refine ab_i2l dX11_three_92 ?_
        refine ab_last (w1 := (wc, [ob 9 [.int 0, .int 0, .int m_fault, .int (-1), .ref 1001, .ref 1002, .int 40, .ref 1003, .int m_taped, .int m_linkMany, .int m_tracerMany, .int m_pointMany, .int m_pairMany, .ref 1004, .ref 1005, .ref 1006, .ref 1007, .int m_readLinks, .int m_readTracers, .int m_readPoints, .int m_readPairs, .ref 1008, .ref 1009, .ref 1010, .ref 1011, .int m_textLong, .int m_at, .int m_spot, .int m_token, .int m_whole, .int m_readFault, .int m_readPlace, .int m_value, .long m_n, .long m_c, .long m_d, .long m_s, .long m_e, .long m_k, .long m_x, .long m_y, .long m_g, .long m_a, .ref 1012, .ref 1013, .ref 1014, .int m_curveMany, .ref 1015, .int m_cornerMany, .int m_straightAt, .ref 1016, .long m_fitUp, .long m_fitDown, .long m_worstUp, .long m_worstDown, .ref 1017, .int m_walkLink, .int m_walkAngle, .int m_walkBranch, .int m_walkMany, .ref 1018, .ref 1019, .int m_lined, .ref 1020, .int m_actMany], z1, z2, z3, z4, z5, z6, ia 16 q7, z8, z9, z10, z11, z12, z13, z14, z15, z16, ja 12 (vp_updL (vp_updL q17 0 (Int32.toInt64 ((Mq_c2 q7 0) * (Mq_n0 q7 0)))) 1 (Int32.toInt64 ((-(Mq_c0 q7 0)) * (Mq_n2 q7 0)))), z18, z19, z20])) dX11_three_93 rfl (ix_c (by decide)) rfl ?_
        refine ab_aload_n dX11_three_94 rfl ?_
        refine ab_getf dX11_three_95 fl_X11_81 rfl rfl ?_
        refine ab_iconst (v := 4) dX11_three_98 (by decide) ?_
        refine ab_iload_n dX11_three_99 rfl ?_
        refine ab_imul dX11_three_100 ?_
        refine ab_topi (v := 0) (by decide) ?_
        refine ab_iconst (v := 2) dX11_three_101 (by decide) ?_
        refine ab_iadd dX11_three_102 ?_
        refine ab_topi (v := 2) (by decide) ?_
        refine ab_aload_n dX11_three_103 rfl ?_
        refine ab_iload_n dX11_three_104 rfl ?_
        refine ab_callV (As := [.int 0]) (rest := [.int 2, .ref 1017]) dX11_three_105 mv_X11_byOf ml_X11_501 ⟨by decide, by decide, rfl, rfl, rfl⟩ (by decide) rfl rfl (Nat.le_of_ble_eq_true rfl) rfl (c_X11_byOf (ge3 h_5 0 (by decide)) h_r) ?_
        rintro r w' ⟨rfl, rfl⟩
        refine ab_i2l dX11_three_108 ?_
        refine ab_last (w1 := (wc, [ob 9 [.int 0, .int 0, .int m_fault, .int (-1), .ref 1001, .ref 1002, .int 40, .ref 1003, .int m_taped, .int m_linkMany, .int m_tracerMany, .int m_pointMany, .int m_pairMany, .ref 1004, .ref 1005, .ref 1006, .ref 1007, .int m_readLinks, .int m_readTracers, .int m_readPoints, .int m_readPairs, .ref 1008, .ref 1009, .ref 1010, .ref 1011, .int m_textLong, .int m_at, .int m_spot, .int m_token, .int m_whole, .int m_readFault, .int m_readPlace, .int m_value, .long m_n, .long m_c, .long m_d, .long m_s, .long m_e, .long m_k, .long m_x, .long m_y, .long m_g, .long m_a, .ref 1012, .ref 1013, .ref 1014, .int m_curveMany, .ref 1015, .int m_cornerMany, .int m_straightAt, .ref 1016, .long m_fitUp, .long m_fitDown, .long m_worstUp, .long m_worstDown, .ref 1017, .int m_walkLink, .int m_walkAngle, .int m_walkBranch, .int m_walkMany, .ref 1018, .ref 1019, .int m_lined, .ref 1020, .int m_actMany], z1, z2, z3, z4, z5, z6, ia 16 q7, z8, z9, z10, z11, z12, z13, z14, z15, z16, ja 12 (vp_updL (vp_updL (vp_updL q17 0 (Int32.toInt64 ((Mq_c2 q7 0) * (Mq_n0 q7 0)))) 1 (Int32.toInt64 ((-(Mq_c0 q7 0)) * (Mq_n2 q7 0)))) 2 (Int32.toInt64 (Mq_by q7 0))), z18, z19, z20])) dX11_three_109 rfl (ix_c (by decide)) rfl ?_
        refine ab_aload_n dX11_three_110 rfl ?_
        refine ab_getf dX11_three_111 fl_X11_81 rfl rfl ?_
        refine ab_iconst (v := 4) dX11_three_114 (by decide) ?_
        refine ab_iload_n dX11_three_115 rfl ?_
        refine ab_imul dX11_three_116 ?_
        refine ab_topi (v := 0) (by decide) ?_
        refine ab_iconst (v := 3) dX11_three_117 (by decide) ?_
        refine ab_iadd dX11_three_118 ?_
        refine ab_topi (v := 3) (by decide) ?_
        refine ab_aload_n dX11_three_119 rfl ?_
        refine ab_iload_n dX11_three_120 rfl ?_
        refine ab_callV (As := [.int 0]) (rest := [.int 3, .ref 1017]) dX11_three_121 mv_X11_bothOf ml_X11_504 ⟨by decide, by decide, rfl, rfl, rfl⟩ (by decide) rfl rfl (Nat.le_of_ble_eq_true rfl) rfl (c_X11_bothOf (ge3 h_5 0 (by decide)) h_r) ?_
        rintro r w' ⟨rfl, rfl⟩
        refine ab_i2l dX11_three_124 ?_
        refine ab_last (w1 := (wc, [ob 9 [.int 0, .int 0, .int m_fault, .int (-1), .ref 1001, .ref 1002, .int 40, .ref 1003, .int m_taped, .int m_linkMany, .int m_tracerMany, .int m_pointMany, .int m_pairMany, .ref 1004, .ref 1005, .ref 1006, .ref 1007, .int m_readLinks, .int m_readTracers, .int m_readPoints, .int m_readPairs, .ref 1008, .ref 1009, .ref 1010, .ref 1011, .int m_textLong, .int m_at, .int m_spot, .int m_token, .int m_whole, .int m_readFault, .int m_readPlace, .int m_value, .long m_n, .long m_c, .long m_d, .long m_s, .long m_e, .long m_k, .long m_x, .long m_y, .long m_g, .long m_a, .ref 1012, .ref 1013, .ref 1014, .int m_curveMany, .ref 1015, .int m_cornerMany, .int m_straightAt, .ref 1016, .long m_fitUp, .long m_fitDown, .long m_worstUp, .long m_worstDown, .ref 1017, .int m_walkLink, .int m_walkAngle, .int m_walkBranch, .int m_walkMany, .ref 1018, .ref 1019, .int m_lined, .ref 1020, .int m_actMany], z1, z2, z3, z4, z5, z6, ia 16 q7, z8, z9, z10, z11, z12, z13, z14, z15, z16, ja 12 (vp_updL (vp_updL (vp_updL (vp_updL q17 0 (Int32.toInt64 ((Mq_c2 q7 0) * (Mq_n0 q7 0)))) 1 (Int32.toInt64 ((-(Mq_c0 q7 0)) * (Mq_n2 q7 0)))) 2 (Int32.toInt64 (Mq_by q7 0))) 3 (Int32.toInt64 (Mq_b q7 0))), z18, z19, z20])) dX11_three_125 rfl (ix_c (by decide)) rfl ?_
        refine ab_iinc (v := 1) (la' := [(3, .int 1), (0, .ref 1000), (1, .int 2), (2, .int a2)]) dX11_three_126 rfl (by decide) (by decide) rfl ?_
        refine ab_goto 42 dX11_three_129 (by decide) ?_
        refine ab_iload_n dX11_three_42 rfl ?_
        refine ab_iconst (v := 3) dX11_three_43 (by decide) ?_
        refine ab_icmpge 132 dX11_three_44 (by decide) (fun h_7 => absurd h_7 (by decide)) (fun h_7 => ?_)
        refine ab_aload_n dX11_three_47 rfl ?_
        refine ab_getf dX11_three_48 fl_X11_81 rfl rfl ?_
        refine ab_iconst (v := 4) dX11_three_51 (by decide) ?_
        refine ab_iload_n dX11_three_52 rfl ?_
        refine ab_imul dX11_three_53 ?_
        refine ab_topi (v := 4) (by decide) ?_
        refine ab_aload_n dX11_three_54 rfl ?_
        refine ab_iload_n dX11_three_55 rfl ?_
        refine ab_iconst (v := 2) dX11_three_56 (by decide) ?_
        refine ab_callV (As := [.int 1, .int 2]) (rest := [.int 4, .ref 1017]) dX11_three_57 mv_X11_cosOf ml_X11_492 ⟨by decide, by decide, rfl, rfl, rfl⟩ (by decide) rfl rfl (Nat.le_of_ble_eq_true rfl) rfl (c_X11_cosOf_2 (ge3 h_5 1 (by decide)) h_r) ?_
        rintro r w' ⟨rfl, rfl⟩
        refine ab_aload_n dX11_three_60 rfl ?_
        refine ab_iload_n dX11_three_61 rfl ?_
        refine ab_iconst (v := 0) dX11_three_62 (by decide) ?_
        refine ab_callV (As := [.int 1, .int 0]) (rest := [.int (Mq_c2 q7 1), .int 4, .ref 1017]) dX11_three_63 mv_X11_normOf ml_X11_498 ⟨by decide, by decide, rfl, rfl, rfl⟩ (by decide) rfl rfl (Nat.le_of_ble_eq_true rfl) rfl (c_X11_normOf_0 (ge3 h_5 1 (by decide)) h_r) ?_
        rintro r w' ⟨rfl, rfl⟩
        refine ab_imul dX11_three_66 ?_
        refine ab_i2l dX11_three_67 ?_
        refine ab_last (w1 := (wc, [ob 9 [.int 0, .int 0, .int m_fault, .int (-1), .ref 1001, .ref 1002, .int 40, .ref 1003, .int m_taped, .int m_linkMany, .int m_tracerMany, .int m_pointMany, .int m_pairMany, .ref 1004, .ref 1005, .ref 1006, .ref 1007, .int m_readLinks, .int m_readTracers, .int m_readPoints, .int m_readPairs, .ref 1008, .ref 1009, .ref 1010, .ref 1011, .int m_textLong, .int m_at, .int m_spot, .int m_token, .int m_whole, .int m_readFault, .int m_readPlace, .int m_value, .long m_n, .long m_c, .long m_d, .long m_s, .long m_e, .long m_k, .long m_x, .long m_y, .long m_g, .long m_a, .ref 1012, .ref 1013, .ref 1014, .int m_curveMany, .ref 1015, .int m_cornerMany, .int m_straightAt, .ref 1016, .long m_fitUp, .long m_fitDown, .long m_worstUp, .long m_worstDown, .ref 1017, .int m_walkLink, .int m_walkAngle, .int m_walkBranch, .int m_walkMany, .ref 1018, .ref 1019, .int m_lined, .ref 1020, .int m_actMany], z1, z2, z3, z4, z5, z6, ia 16 q7, z8, z9, z10, z11, z12, z13, z14, z15, z16, ja 12 (vp_updL (vp_updL (vp_updL (vp_updL (vp_updL q17 0 (Int32.toInt64 ((Mq_c2 q7 0) * (Mq_n0 q7 0)))) 1 (Int32.toInt64 ((-(Mq_c0 q7 0)) * (Mq_n2 q7 0)))) 2 (Int32.toInt64 (Mq_by q7 0))) 3 (Int32.toInt64 (Mq_b q7 0))) 4 (Int32.toInt64 ((Mq_c2 q7 1) * (Mq_n0 q7 1)))), z18, z19, z20])) dX11_three_68 rfl (ix_c (by decide)) rfl ?_
        refine ab_aload_n dX11_three_69 rfl ?_
        refine ab_getf dX11_three_70 fl_X11_81 rfl rfl ?_
        refine ab_iconst (v := 4) dX11_three_73 (by decide) ?_
        refine ab_iload_n dX11_three_74 rfl ?_
        refine ab_imul dX11_three_75 ?_
        refine ab_topi (v := 4) (by decide) ?_
        refine ab_iconst (v := 1) dX11_three_76 (by decide) ?_
        refine ab_iadd dX11_three_77 ?_
        refine ab_topi (v := 5) (by decide) ?_
        refine ab_aload_n dX11_three_78 rfl ?_
        refine ab_iload_n dX11_three_79 rfl ?_
        refine ab_iconst (v := 0) dX11_three_80 (by decide) ?_
        refine ab_callV (As := [.int 1, .int 0]) (rest := [.int 5, .ref 1017]) dX11_three_81 mv_X11_cosOf ml_X11_492 ⟨by decide, by decide, rfl, rfl, rfl⟩ (by decide) rfl rfl (Nat.le_of_ble_eq_true rfl) rfl (c_X11_cosOf_0 (ge3 h_5 1 (by decide)) h_r) ?_
        rintro r w' ⟨rfl, rfl⟩
        refine ab_ineg dX11_three_84 ?_
        refine ab_aload_n dX11_three_85 rfl ?_
        refine ab_iload_n dX11_three_86 rfl ?_
        refine ab_iconst (v := 2) dX11_three_87 (by decide) ?_
        refine ab_callV (As := [.int 1, .int 2]) (rest := [.int (-(Mq_c0 q7 1)), .int 5, .ref 1017]) dX11_three_88 mv_X11_normOf ml_X11_498 ⟨by decide, by decide, rfl, rfl, rfl⟩ (by decide) rfl rfl (Nat.le_of_ble_eq_true rfl) rfl (c_X11_normOf_2 (ge3 h_5 1 (by decide)) h_r) ?_
        rintro r w' ⟨rfl, rfl⟩
        refine ab_imul dX11_three_91 ?_
        refine ab_i2l dX11_three_92 ?_
        refine ab_last (w1 := (wc, [ob 9 [.int 0, .int 0, .int m_fault, .int (-1), .ref 1001, .ref 1002, .int 40, .ref 1003, .int m_taped, .int m_linkMany, .int m_tracerMany, .int m_pointMany, .int m_pairMany, .ref 1004, .ref 1005, .ref 1006, .ref 1007, .int m_readLinks, .int m_readTracers, .int m_readPoints, .int m_readPairs, .ref 1008, .ref 1009, .ref 1010, .ref 1011, .int m_textLong, .int m_at, .int m_spot, .int m_token, .int m_whole, .int m_readFault, .int m_readPlace, .int m_value, .long m_n, .long m_c, .long m_d, .long m_s, .long m_e, .long m_k, .long m_x, .long m_y, .long m_g, .long m_a, .ref 1012, .ref 1013, .ref 1014, .int m_curveMany, .ref 1015, .int m_cornerMany, .int m_straightAt, .ref 1016, .long m_fitUp, .long m_fitDown, .long m_worstUp, .long m_worstDown, .ref 1017, .int m_walkLink, .int m_walkAngle, .int m_walkBranch, .int m_walkMany, .ref 1018, .ref 1019, .int m_lined, .ref 1020, .int m_actMany], z1, z2, z3, z4, z5, z6, ia 16 q7, z8, z9, z10, z11, z12, z13, z14, z15, z16, ja 12 (vp_updL (vp_updL (vp_updL (vp_updL (vp_updL (vp_updL q17 0 (Int32.toInt64 ((Mq_c2 q7 0) * (Mq_n0 q7 0)))) 1 (Int32.toInt64 ((-(Mq_c0 q7 0)) * (Mq_n2 q7 0)))) 2 (Int32.toInt64 (Mq_by q7 0))) 3 (Int32.toInt64 (Mq_b q7 0))) 4 (Int32.toInt64 ((Mq_c2 q7 1) * (Mq_n0 q7 1)))) 5 (Int32.toInt64 ((-(Mq_c0 q7 1)) * (Mq_n2 q7 1)))), z18, z19, z20])) dX11_three_93 rfl (ix_c (by decide)) rfl ?_
        refine ab_aload_n dX11_three_94 rfl ?_
        refine ab_getf dX11_three_95 fl_X11_81 rfl rfl ?_
        refine ab_iconst (v := 4) dX11_three_98 (by decide) ?_
        refine ab_iload_n dX11_three_99 rfl ?_
        refine ab_imul dX11_three_100 ?_
        refine ab_topi (v := 4) (by decide) ?_
        refine ab_iconst (v := 2) dX11_three_101 (by decide) ?_
        refine ab_iadd dX11_three_102 ?_
        refine ab_topi (v := 6) (by decide) ?_
        refine ab_aload_n dX11_three_103 rfl ?_
        refine ab_iload_n dX11_three_104 rfl ?_
        refine ab_callV (As := [.int 1]) (rest := [.int 6, .ref 1017]) dX11_three_105 mv_X11_byOf ml_X11_501 ⟨by decide, by decide, rfl, rfl, rfl⟩ (by decide) rfl rfl (Nat.le_of_ble_eq_true rfl) rfl (c_X11_byOf (ge3 h_5 1 (by decide)) h_r) ?_
        rintro r w' ⟨rfl, rfl⟩
        refine ab_i2l dX11_three_108 ?_
        refine ab_last (w1 := (wc, [ob 9 [.int 0, .int 0, .int m_fault, .int (-1), .ref 1001, .ref 1002, .int 40, .ref 1003, .int m_taped, .int m_linkMany, .int m_tracerMany, .int m_pointMany, .int m_pairMany, .ref 1004, .ref 1005, .ref 1006, .ref 1007, .int m_readLinks, .int m_readTracers, .int m_readPoints, .int m_readPairs, .ref 1008, .ref 1009, .ref 1010, .ref 1011, .int m_textLong, .int m_at, .int m_spot, .int m_token, .int m_whole, .int m_readFault, .int m_readPlace, .int m_value, .long m_n, .long m_c, .long m_d, .long m_s, .long m_e, .long m_k, .long m_x, .long m_y, .long m_g, .long m_a, .ref 1012, .ref 1013, .ref 1014, .int m_curveMany, .ref 1015, .int m_cornerMany, .int m_straightAt, .ref 1016, .long m_fitUp, .long m_fitDown, .long m_worstUp, .long m_worstDown, .ref 1017, .int m_walkLink, .int m_walkAngle, .int m_walkBranch, .int m_walkMany, .ref 1018, .ref 1019, .int m_lined, .ref 1020, .int m_actMany], z1, z2, z3, z4, z5, z6, ia 16 q7, z8, z9, z10, z11, z12, z13, z14, z15, z16, ja 12 (vp_updL (vp_updL (vp_updL (vp_updL (vp_updL (vp_updL (vp_updL q17 0 (Int32.toInt64 ((Mq_c2 q7 0) * (Mq_n0 q7 0)))) 1 (Int32.toInt64 ((-(Mq_c0 q7 0)) * (Mq_n2 q7 0)))) 2 (Int32.toInt64 (Mq_by q7 0))) 3 (Int32.toInt64 (Mq_b q7 0))) 4 (Int32.toInt64 ((Mq_c2 q7 1) * (Mq_n0 q7 1)))) 5 (Int32.toInt64 ((-(Mq_c0 q7 1)) * (Mq_n2 q7 1)))) 6 (Int32.toInt64 (Mq_by q7 1))), z18, z19, z20])) dX11_three_109 rfl (ix_c (by decide)) rfl ?_
        refine ab_aload_n dX11_three_110 rfl ?_
        refine ab_getf dX11_three_111 fl_X11_81 rfl rfl ?_
        refine ab_iconst (v := 4) dX11_three_114 (by decide) ?_
        refine ab_iload_n dX11_three_115 rfl ?_
        refine ab_imul dX11_three_116 ?_
        refine ab_topi (v := 4) (by decide) ?_
        refine ab_iconst (v := 3) dX11_three_117 (by decide) ?_
        refine ab_iadd dX11_three_118 ?_
        refine ab_topi (v := 7) (by decide) ?_
        refine ab_aload_n dX11_three_119 rfl ?_
        refine ab_iload_n dX11_three_120 rfl ?_
        refine ab_callV (As := [.int 1]) (rest := [.int 7, .ref 1017]) dX11_three_121 mv_X11_bothOf ml_X11_504 ⟨by decide, by decide, rfl, rfl, rfl⟩ (by decide) rfl rfl (Nat.le_of_ble_eq_true rfl) rfl (c_X11_bothOf (ge3 h_5 1 (by decide)) h_r) ?_
        rintro r w' ⟨rfl, rfl⟩
        refine ab_i2l dX11_three_124 ?_
        refine ab_last (w1 := (wc, [ob 9 [.int 0, .int 0, .int m_fault, .int (-1), .ref 1001, .ref 1002, .int 40, .ref 1003, .int m_taped, .int m_linkMany, .int m_tracerMany, .int m_pointMany, .int m_pairMany, .ref 1004, .ref 1005, .ref 1006, .ref 1007, .int m_readLinks, .int m_readTracers, .int m_readPoints, .int m_readPairs, .ref 1008, .ref 1009, .ref 1010, .ref 1011, .int m_textLong, .int m_at, .int m_spot, .int m_token, .int m_whole, .int m_readFault, .int m_readPlace, .int m_value, .long m_n, .long m_c, .long m_d, .long m_s, .long m_e, .long m_k, .long m_x, .long m_y, .long m_g, .long m_a, .ref 1012, .ref 1013, .ref 1014, .int m_curveMany, .ref 1015, .int m_cornerMany, .int m_straightAt, .ref 1016, .long m_fitUp, .long m_fitDown, .long m_worstUp, .long m_worstDown, .ref 1017, .int m_walkLink, .int m_walkAngle, .int m_walkBranch, .int m_walkMany, .ref 1018, .ref 1019, .int m_lined, .ref 1020, .int m_actMany], z1, z2, z3, z4, z5, z6, ia 16 q7, z8, z9, z10, z11, z12, z13, z14, z15, z16, ja 12 (vp_updL (vp_updL (vp_updL (vp_updL (vp_updL (vp_updL (vp_updL (vp_updL q17 0 (Int32.toInt64 ((Mq_c2 q7 0) * (Mq_n0 q7 0)))) 1 (Int32.toInt64 ((-(Mq_c0 q7 0)) * (Mq_n2 q7 0)))) 2 (Int32.toInt64 (Mq_by q7 0))) 3 (Int32.toInt64 (Mq_b q7 0))) 4 (Int32.toInt64 ((Mq_c2 q7 1) * (Mq_n0 q7 1)))) 5 (Int32.toInt64 ((-(Mq_c0 q7 1)) * (Mq_n2 q7 1)))) 6 (Int32.toInt64 (Mq_by q7 1))) 7 (Int32.toInt64 (Mq_b q7 1))), z18, z19, z20])) dX11_three_125 rfl (ix_c (by decide)) rfl ?_
        refine ab_iinc (v := 2) (la' := [(3, .int 2), (0, .ref 1000), (1, .int 2), (2, .int a2)]) dX11_three_126 rfl (by decide) (by decide) rfl ?_
        refine ab_goto 42 dX11_three_129 (by decide) ?_
        refine ab_iload_n dX11_three_42 rfl ?_
        refine ab_iconst (v := 3) dX11_three_43 (by decide) ?_
        refine ab_icmpge 132 dX11_three_44 (by decide) (fun h_8 => absurd h_8 (by decide)) (fun h_8 => ?_)
        refine ab_aload_n dX11_three_47 rfl ?_
        refine ab_getf dX11_three_48 fl_X11_81 rfl rfl ?_
        refine ab_iconst (v := 4) dX11_three_51 (by decide) ?_
        refine ab_iload_n dX11_three_52 rfl ?_
        refine ab_imul dX11_three_53 ?_
        refine ab_topi (v := 8) (by decide) ?_
        refine ab_aload_n dX11_three_54 rfl ?_
        refine ab_iload_n dX11_three_55 rfl ?_
        refine ab_iconst (v := 2) dX11_three_56 (by decide) ?_
        refine ab_callV (As := [.int 2, .int 2]) (rest := [.int 8, .ref 1017]) dX11_three_57 mv_X11_cosOf ml_X11_492 ⟨by decide, by decide, rfl, rfl, rfl⟩ (by decide) rfl rfl (Nat.le_of_ble_eq_true rfl) rfl (c_X11_cosOf_2 (ge3 h_5 2 (by decide)) h_r) ?_
        rintro r w' ⟨rfl, rfl⟩
        refine ab_aload_n dX11_three_60 rfl ?_
        refine ab_iload_n dX11_three_61 rfl ?_
        refine ab_iconst (v := 0) dX11_three_62 (by decide) ?_
        refine ab_callV (As := [.int 2, .int 0]) (rest := [.int (Mq_c2 q7 2), .int 8, .ref 1017]) dX11_three_63 mv_X11_normOf ml_X11_498 ⟨by decide, by decide, rfl, rfl, rfl⟩ (by decide) rfl rfl (Nat.le_of_ble_eq_true rfl) rfl (c_X11_normOf_0 (ge3 h_5 2 (by decide)) h_r) ?_
        rintro r w' ⟨rfl, rfl⟩
        refine ab_imul dX11_three_66 ?_
        refine ab_i2l dX11_three_67 ?_
        refine ab_last (w1 := (wc, [ob 9 [.int 0, .int 0, .int m_fault, .int (-1), .ref 1001, .ref 1002, .int 40, .ref 1003, .int m_taped, .int m_linkMany, .int m_tracerMany, .int m_pointMany, .int m_pairMany, .ref 1004, .ref 1005, .ref 1006, .ref 1007, .int m_readLinks, .int m_readTracers, .int m_readPoints, .int m_readPairs, .ref 1008, .ref 1009, .ref 1010, .ref 1011, .int m_textLong, .int m_at, .int m_spot, .int m_token, .int m_whole, .int m_readFault, .int m_readPlace, .int m_value, .long m_n, .long m_c, .long m_d, .long m_s, .long m_e, .long m_k, .long m_x, .long m_y, .long m_g, .long m_a, .ref 1012, .ref 1013, .ref 1014, .int m_curveMany, .ref 1015, .int m_cornerMany, .int m_straightAt, .ref 1016, .long m_fitUp, .long m_fitDown, .long m_worstUp, .long m_worstDown, .ref 1017, .int m_walkLink, .int m_walkAngle, .int m_walkBranch, .int m_walkMany, .ref 1018, .ref 1019, .int m_lined, .ref 1020, .int m_actMany], z1, z2, z3, z4, z5, z6, ia 16 q7, z8, z9, z10, z11, z12, z13, z14, z15, z16, ja 12 (vp_updL (vp_updL (vp_updL (vp_updL (vp_updL (vp_updL (vp_updL (vp_updL (vp_updL q17 0 (Int32.toInt64 ((Mq_c2 q7 0) * (Mq_n0 q7 0)))) 1 (Int32.toInt64 ((-(Mq_c0 q7 0)) * (Mq_n2 q7 0)))) 2 (Int32.toInt64 (Mq_by q7 0))) 3 (Int32.toInt64 (Mq_b q7 0))) 4 (Int32.toInt64 ((Mq_c2 q7 1) * (Mq_n0 q7 1)))) 5 (Int32.toInt64 ((-(Mq_c0 q7 1)) * (Mq_n2 q7 1)))) 6 (Int32.toInt64 (Mq_by q7 1))) 7 (Int32.toInt64 (Mq_b q7 1))) 8 (Int32.toInt64 ((Mq_c2 q7 2) * (Mq_n0 q7 2)))), z18, z19, z20])) dX11_three_68 rfl (ix_c (by decide)) rfl ?_
        refine ab_aload_n dX11_three_69 rfl ?_
        refine ab_getf dX11_three_70 fl_X11_81 rfl rfl ?_
        refine ab_iconst (v := 4) dX11_three_73 (by decide) ?_
        refine ab_iload_n dX11_three_74 rfl ?_
        refine ab_imul dX11_three_75 ?_
        refine ab_topi (v := 8) (by decide) ?_
        refine ab_iconst (v := 1) dX11_three_76 (by decide) ?_
        refine ab_iadd dX11_three_77 ?_
        refine ab_topi (v := 9) (by decide) ?_
        refine ab_aload_n dX11_three_78 rfl ?_
        refine ab_iload_n dX11_three_79 rfl ?_
        refine ab_iconst (v := 0) dX11_three_80 (by decide) ?_
        refine ab_callV (As := [.int 2, .int 0]) (rest := [.int 9, .ref 1017]) dX11_three_81 mv_X11_cosOf ml_X11_492 ⟨by decide, by decide, rfl, rfl, rfl⟩ (by decide) rfl rfl (Nat.le_of_ble_eq_true rfl) rfl (c_X11_cosOf_0 (ge3 h_5 2 (by decide)) h_r) ?_
        rintro r w' ⟨rfl, rfl⟩
        refine ab_ineg dX11_three_84 ?_
        refine ab_aload_n dX11_three_85 rfl ?_
        refine ab_iload_n dX11_three_86 rfl ?_
        refine ab_iconst (v := 2) dX11_three_87 (by decide) ?_
        refine ab_callV (As := [.int 2, .int 2]) (rest := [.int (-(Mq_c0 q7 2)), .int 9, .ref 1017]) dX11_three_88 mv_X11_normOf ml_X11_498 ⟨by decide, by decide, rfl, rfl, rfl⟩ (by decide) rfl rfl (Nat.le_of_ble_eq_true rfl) rfl (c_X11_normOf_2 (ge3 h_5 2 (by decide)) h_r) ?_
        rintro r w' ⟨rfl, rfl⟩
        refine ab_imul dX11_three_91 ?_
        refine ab_i2l dX11_three_92 ?_
        refine ab_last (w1 := (wc, [ob 9 [.int 0, .int 0, .int m_fault, .int (-1), .ref 1001, .ref 1002, .int 40, .ref 1003, .int m_taped, .int m_linkMany, .int m_tracerMany, .int m_pointMany, .int m_pairMany, .ref 1004, .ref 1005, .ref 1006, .ref 1007, .int m_readLinks, .int m_readTracers, .int m_readPoints, .int m_readPairs, .ref 1008, .ref 1009, .ref 1010, .ref 1011, .int m_textLong, .int m_at, .int m_spot, .int m_token, .int m_whole, .int m_readFault, .int m_readPlace, .int m_value, .long m_n, .long m_c, .long m_d, .long m_s, .long m_e, .long m_k, .long m_x, .long m_y, .long m_g, .long m_a, .ref 1012, .ref 1013, .ref 1014, .int m_curveMany, .ref 1015, .int m_cornerMany, .int m_straightAt, .ref 1016, .long m_fitUp, .long m_fitDown, .long m_worstUp, .long m_worstDown, .ref 1017, .int m_walkLink, .int m_walkAngle, .int m_walkBranch, .int m_walkMany, .ref 1018, .ref 1019, .int m_lined, .ref 1020, .int m_actMany], z1, z2, z3, z4, z5, z6, ia 16 q7, z8, z9, z10, z11, z12, z13, z14, z15, z16, ja 12 (vp_updL (vp_updL (vp_updL (vp_updL (vp_updL (vp_updL (vp_updL (vp_updL (vp_updL (vp_updL q17 0 (Int32.toInt64 ((Mq_c2 q7 0) * (Mq_n0 q7 0)))) 1 (Int32.toInt64 ((-(Mq_c0 q7 0)) * (Mq_n2 q7 0)))) 2 (Int32.toInt64 (Mq_by q7 0))) 3 (Int32.toInt64 (Mq_b q7 0))) 4 (Int32.toInt64 ((Mq_c2 q7 1) * (Mq_n0 q7 1)))) 5 (Int32.toInt64 ((-(Mq_c0 q7 1)) * (Mq_n2 q7 1)))) 6 (Int32.toInt64 (Mq_by q7 1))) 7 (Int32.toInt64 (Mq_b q7 1))) 8 (Int32.toInt64 ((Mq_c2 q7 2) * (Mq_n0 q7 2)))) 9 (Int32.toInt64 ((-(Mq_c0 q7 2)) * (Mq_n2 q7 2)))), z18, z19, z20])) dX11_three_93 rfl (ix_c (by decide)) rfl ?_
        refine ab_aload_n dX11_three_94 rfl ?_
        refine ab_getf dX11_three_95 fl_X11_81 rfl rfl ?_
        refine ab_iconst (v := 4) dX11_three_98 (by decide) ?_
        refine ab_iload_n dX11_three_99 rfl ?_
        refine ab_imul dX11_three_100 ?_
        refine ab_topi (v := 8) (by decide) ?_
        refine ab_iconst (v := 2) dX11_three_101 (by decide) ?_
        refine ab_iadd dX11_three_102 ?_
        refine ab_topi (v := 10) (by decide) ?_
        refine ab_aload_n dX11_three_103 rfl ?_
        refine ab_iload_n dX11_three_104 rfl ?_
        refine ab_callV (As := [.int 2]) (rest := [.int 10, .ref 1017]) dX11_three_105 mv_X11_byOf ml_X11_501 ⟨by decide, by decide, rfl, rfl, rfl⟩ (by decide) rfl rfl (Nat.le_of_ble_eq_true rfl) rfl (c_X11_byOf (ge3 h_5 2 (by decide)) h_r) ?_
        rintro r w' ⟨rfl, rfl⟩
        refine ab_i2l dX11_three_108 ?_
        refine ab_last (w1 := (wc, [ob 9 [.int 0, .int 0, .int m_fault, .int (-1), .ref 1001, .ref 1002, .int 40, .ref 1003, .int m_taped, .int m_linkMany, .int m_tracerMany, .int m_pointMany, .int m_pairMany, .ref 1004, .ref 1005, .ref 1006, .ref 1007, .int m_readLinks, .int m_readTracers, .int m_readPoints, .int m_readPairs, .ref 1008, .ref 1009, .ref 1010, .ref 1011, .int m_textLong, .int m_at, .int m_spot, .int m_token, .int m_whole, .int m_readFault, .int m_readPlace, .int m_value, .long m_n, .long m_c, .long m_d, .long m_s, .long m_e, .long m_k, .long m_x, .long m_y, .long m_g, .long m_a, .ref 1012, .ref 1013, .ref 1014, .int m_curveMany, .ref 1015, .int m_cornerMany, .int m_straightAt, .ref 1016, .long m_fitUp, .long m_fitDown, .long m_worstUp, .long m_worstDown, .ref 1017, .int m_walkLink, .int m_walkAngle, .int m_walkBranch, .int m_walkMany, .ref 1018, .ref 1019, .int m_lined, .ref 1020, .int m_actMany], z1, z2, z3, z4, z5, z6, ia 16 q7, z8, z9, z10, z11, z12, z13, z14, z15, z16, ja 12 (vp_updL (vp_updL (vp_updL (vp_updL (vp_updL (vp_updL (vp_updL (vp_updL (vp_updL (vp_updL (vp_updL q17 0 (Int32.toInt64 ((Mq_c2 q7 0) * (Mq_n0 q7 0)))) 1 (Int32.toInt64 ((-(Mq_c0 q7 0)) * (Mq_n2 q7 0)))) 2 (Int32.toInt64 (Mq_by q7 0))) 3 (Int32.toInt64 (Mq_b q7 0))) 4 (Int32.toInt64 ((Mq_c2 q7 1) * (Mq_n0 q7 1)))) 5 (Int32.toInt64 ((-(Mq_c0 q7 1)) * (Mq_n2 q7 1)))) 6 (Int32.toInt64 (Mq_by q7 1))) 7 (Int32.toInt64 (Mq_b q7 1))) 8 (Int32.toInt64 ((Mq_c2 q7 2) * (Mq_n0 q7 2)))) 9 (Int32.toInt64 ((-(Mq_c0 q7 2)) * (Mq_n2 q7 2)))) 10 (Int32.toInt64 (Mq_by q7 2))), z18, z19, z20])) dX11_three_109 rfl (ix_c (by decide)) rfl ?_
        refine ab_aload_n dX11_three_110 rfl ?_
        refine ab_getf dX11_three_111 fl_X11_81 rfl rfl ?_
        refine ab_iconst (v := 4) dX11_three_114 (by decide) ?_
        refine ab_iload_n dX11_three_115 rfl ?_
        refine ab_imul dX11_three_116 ?_
        refine ab_topi (v := 8) (by decide) ?_
        refine ab_iconst (v := 3) dX11_three_117 (by decide) ?_
        refine ab_iadd dX11_three_118 ?_
        refine ab_topi (v := 11) (by decide) ?_
        refine ab_aload_n dX11_three_119 rfl ?_
        refine ab_iload_n dX11_three_120 rfl ?_
        refine ab_callV (As := [.int 2]) (rest := [.int 11, .ref 1017]) dX11_three_121 mv_X11_bothOf ml_X11_504 ⟨by decide, by decide, rfl, rfl, rfl⟩ (by decide) rfl rfl (Nat.le_of_ble_eq_true rfl) rfl (c_X11_bothOf (ge3 h_5 2 (by decide)) h_r) ?_
        rintro r w' ⟨rfl, rfl⟩
        refine ab_i2l dX11_three_124 ?_
        refine ab_last (w1 := (wc, [ob 9 [.int 0, .int 0, .int m_fault, .int (-1), .ref 1001, .ref 1002, .int 40, .ref 1003, .int m_taped, .int m_linkMany, .int m_tracerMany, .int m_pointMany, .int m_pairMany, .ref 1004, .ref 1005, .ref 1006, .ref 1007, .int m_readLinks, .int m_readTracers, .int m_readPoints, .int m_readPairs, .ref 1008, .ref 1009, .ref 1010, .ref 1011, .int m_textLong, .int m_at, .int m_spot, .int m_token, .int m_whole, .int m_readFault, .int m_readPlace, .int m_value, .long m_n, .long m_c, .long m_d, .long m_s, .long m_e, .long m_k, .long m_x, .long m_y, .long m_g, .long m_a, .ref 1012, .ref 1013, .ref 1014, .int m_curveMany, .ref 1015, .int m_cornerMany, .int m_straightAt, .ref 1016, .long m_fitUp, .long m_fitDown, .long m_worstUp, .long m_worstDown, .ref 1017, .int m_walkLink, .int m_walkAngle, .int m_walkBranch, .int m_walkMany, .ref 1018, .ref 1019, .int m_lined, .ref 1020, .int m_actMany], z1, z2, z3, z4, z5, z6, ia 16 q7, z8, z9, z10, z11, z12, z13, z14, z15, z16, ja 12 (vp_updL (vp_updL (vp_updL (vp_updL (vp_updL (vp_updL (vp_updL (vp_updL (vp_updL (vp_updL (vp_updL (vp_updL q17 0 (Int32.toInt64 ((Mq_c2 q7 0) * (Mq_n0 q7 0)))) 1 (Int32.toInt64 ((-(Mq_c0 q7 0)) * (Mq_n2 q7 0)))) 2 (Int32.toInt64 (Mq_by q7 0))) 3 (Int32.toInt64 (Mq_b q7 0))) 4 (Int32.toInt64 ((Mq_c2 q7 1) * (Mq_n0 q7 1)))) 5 (Int32.toInt64 ((-(Mq_c0 q7 1)) * (Mq_n2 q7 1)))) 6 (Int32.toInt64 (Mq_by q7 1))) 7 (Int32.toInt64 (Mq_b q7 1))) 8 (Int32.toInt64 ((Mq_c2 q7 2) * (Mq_n0 q7 2)))) 9 (Int32.toInt64 ((-(Mq_c0 q7 2)) * (Mq_n2 q7 2)))) 10 (Int32.toInt64 (Mq_by q7 2))) 11 (Int32.toInt64 (Mq_b q7 2))), z18, z19, z20])) dX11_three_125 rfl (ix_c (by decide)) rfl ?_
        refine ab_iinc (v := 3) (la' := [(3, .int 3), (0, .ref 1000), (1, .int 2), (2, .int a2)]) dX11_three_126 rfl (by decide) (by decide) rfl ?_
        refine ab_goto 42 dX11_three_129 (by decide) ?_
        refine ab_iload_n dX11_three_42 rfl ?_
        refine ab_iconst (v := 3) dX11_three_43 (by decide) ?_
        refine ab_icmpge 132 dX11_three_44 (by decide) (fun h_9 => ?_) (fun h_9 => absurd (by decide) h_9)
        refine ab_world (wc, [ob 9 [.int 0, .int 0, .int m_fault, .int (-1), .ref 1001, .ref 1002, .int 40, .ref 1003, .int m_taped, .int m_linkMany, .int m_tracerMany, .int m_pointMany, .int m_pairMany, .ref 1004, .ref 1005, .ref 1006, .ref 1007, .int m_readLinks, .int m_readTracers, .int m_readPoints, .int m_readPairs, .ref 1008, .ref 1009, .ref 1010, .ref 1011, .int m_textLong, .int m_at, .int m_spot, .int m_token, .int m_whole, .int m_readFault, .int m_readPlace, .int m_value, .long m_n, .long m_c, .long m_d, .long m_s, .long m_e, .long m_k, .long m_x, .long m_y, .long m_g, .long m_a, .ref 1012, .ref 1013, .ref 1014, .int m_curveMany, .ref 1015, .int m_cornerMany, .int m_straightAt, .ref 1016, .long m_fitUp, .long m_fitDown, .long m_worstUp, .long m_worstDown, .ref 1017, .int m_walkLink, .int m_walkAngle, .int m_walkBranch, .int m_walkMany, .ref 1018, .ref 1019, .int m_lined, .ref 1020, .int m_actMany], z1, z2, z3, z4, z5, z6, ia 16 q7, z8, z9, z10, z11, z12, z13, z14, z15, z16, ja 12 (rowsM q7 q17), z18, z19, z20]) rfl ?_
        refine ab_aload_n dX11_three_132 rfl ?_
        refine ab_iconst (v := 0) dX11_three_133 (by decide) ?_
        refine ab_iconst (v := 1) dX11_three_134 (by decide) ?_
        refine ab_iconst (v := 2) dX11_three_135 (by decide) ?_
        refine ab_callV (As := [.int 0, .int 1, .int 2]) (rest := []) dX11_three_136 mv_X11_minor ml_X11_529 ⟨by decide, by decide, rfl, rfl, rfl⟩ (by decide) rfl rfl (Nat.le_of_ble_eq_true rfl) rfl c_X11_minor_012 ?_
        rintro r w' ⟨rfl, rfl⟩
        refine ab_lstore_n (la' := [(3, .long (Mq_m012 (rowsM q7 q17))), (0, .ref 1000), (1, .int 2), (2, .int a2)]) dX11_three_139 (by decide) rfl ?_
        refine ab_lload_n dX11_three_140 rfl ?_
        refine ab_lconst (v := 0) dX11_three_141 (by decide) ?_
        refine ab_lcmpne 152 dX11_three_142 dX11_three_143 (by decide) (fun h_10 => ?_) (fun h_10 => ?_)
        · refine ab_aload_n dX11_three_152 rfl ?_
          refine ab_aload_n dX11_three_153 rfl ?_
          refine ab_iload_n dX11_three_154 rfl ?_
          refine ab_ifne 162 dX11_three_155 (by decide) (fun h_11 => ?_) (fun h_11 => absurd h_11 (by decide))
          refine ab_iconst (v := 0) dX11_three_162 (by decide) ?_
          refine ab_iload_n dX11_three_163 rfl ?_
          refine ab_iconst (v := 1) dX11_three_164 (by decide) ?_
          refine ab_icmpne 172 dX11_three_165 (by decide) (fun h_12 => ?_) (fun h_12 => absurd h_12 (by decide))
          refine ab_iconst (v := 1) dX11_three_172 (by decide) ?_
          refine ab_iload_n dX11_three_173 rfl ?_
          refine ab_iconst (v := 2) dX11_three_174 (by decide) ?_
          refine ab_icmpne 182 dX11_three_175 (by decide) (fun h_13 => absurd (by decide) h_13) (fun h_13 => ?_)
          refine ab_iconst (v := 3) dX11_three_178 (by decide) ?_
          refine ab_goto 183 dX11_three_179 (by decide) ?_
          refine ab_callV (As := [.int 0, .int 1, .int 3]) (rest := [.ref 1000]) dX11_three_183 mv_X11_minor ml_X11_529 ⟨by decide, by decide, rfl, rfl, rfl⟩ (by decide) rfl rfl (Nat.le_of_ble_eq_true rfl) rfl c_X11_minor_013 ?_
          rintro r w' ⟨rfl, rfl⟩
          refine ab_lload_n dX11_three_186 rfl ?_
          refine ab_iload_n dX11_three_187 rfl ?_
          refine ab_callV (As := [.long (Mq_m013 (rowsM q7 q17)), .long (Mq_m012 (rowsM q7 q17)), .int a2]) (rest := []) dX11_three_188 mv_X11_part ml_X11_308 ⟨by decide, by decide, rfl, rfl, rfl⟩ (by decide) rfl rfl (Nat.le_of_ble_eq_true rfl) rfl (c_X11_part (h_q2 h_1 h_5 h_10) (h_q3 h_1 h_5 h_10) h_10) ?_
          rintro r w' ⟨rfl, rfl⟩
          exact ab_lret dX11_three_191 rfl (by decide) (Or.inr (Or.inl ⟨h_1, h_5, h_10, rfl, rfl⟩))
        · refine ab_aload_n dX11_three_146 rfl ?_
          refine ab_iconst (v := 5) dX11_three_147 (by decide) ?_
          refine ab_callV (As := [.int 5]) (rest := []) dX11_three_148 mv_X11_lowest ml_X11_304 ⟨by decide, by decide, rfl, rfl, rfl⟩ (by decide) rfl rfl (Nat.le_of_ble_eq_true rfl) rfl c_X11_lowest ?_
          rintro r w' ⟨rfl, rfl⟩
          exact ab_lret dX11_three_151 rfl (by decide) (Or.inr (Or.inr (Or.inl ⟨h_1, h_5, h_10, rfl, rfl⟩)))
      · refine ab_aload_n dX11_three_34 rfl ?_
        refine ab_iconst (v := 5) dX11_three_35 (by decide) ?_
        refine ab_callV (As := [.int 5]) (rest := []) dX11_three_36 mv_X11_lowest ml_X11_304 ⟨by decide, by decide, rfl, rfl, rfl⟩ (by decide) rfl rfl (Nat.le_of_ble_eq_true rfl) rfl c_X11_lowest ?_
        rintro r w' ⟨rfl, rfl⟩
        exact ab_lret dX11_three_39 rfl (by decide) (Or.inr (Or.inr (Or.inr (⟨h_1, h_5, rfl, rfl⟩))))
    · exact absurd (by decide) c_3
theorem c_X11_three_o {wc : List ax_E} {m_thrown m_trouble m_fault m_where m_taped m_linkMany m_tracerMany m_pointMany m_pairMany m_readLinks m_readTracers m_readPoints m_readPairs m_textLong m_at m_spot m_token m_whole m_readFault m_readPlace m_value m_curveMany m_cornerMany m_straightAt m_walkLink m_walkAngle m_walkBranch m_walkMany m_lined m_actMany a1 a2 : Int32} {m_n m_c m_d m_s m_e m_k m_x m_y m_g m_a m_fitUp m_fitDown m_worstUp m_worstDown : Int64} {z1 z2 z3 z4 z5 z6 z7 z8 z9 z10 z11 z12 z13 z14 z15 z16 z17 z18 z19 z20 : ax_E} (h_l : 0 ≤ m_linkMany ∧ m_linkMany ≤ nI 4) (h_r : 0 ≤ m_pairMany ∧ m_pairMany ≤ nI 4) (h_o : ¬ (0 ≤ a1 ∧ a1 ≤ 2)) : Ct M_X11_three [.ref 1000, .int a1, .int a2] (wc, [ob 9 [.int m_thrown, .int m_trouble, .int m_fault, .int m_where, .ref 1001, .ref 1002, .int 40, .ref 1003, .int m_taped, .int m_linkMany, .int m_tracerMany, .int m_pointMany, .int m_pairMany, .ref 1004, .ref 1005, .ref 1006, .ref 1007, .int m_readLinks, .int m_readTracers, .int m_readPoints, .int m_readPairs, .ref 1008, .ref 1009, .ref 1010, .ref 1011, .int m_textLong, .int m_at, .int m_spot, .int m_token, .int m_whole, .int m_readFault, .int m_readPlace, .int m_value, .long m_n, .long m_c, .long m_d, .long m_s, .long m_e, .long m_k, .long m_x, .long m_y, .long m_g, .long m_a, .ref 1012, .ref 1013, .ref 1014, .int m_curveMany, .ref 1015, .int m_cornerMany, .int m_straightAt, .ref 1016, .long m_fitUp, .long m_fitDown, .long m_worstUp, .long m_worstDown, .ref 1017, .int m_walkLink, .int m_walkAngle, .int m_walkBranch, .int m_walkMany, .ref 1018, .ref 1019, .int m_lined, .ref 1020, .int m_actMany], z1, z2, z3, z4, z5, z6, z7, z8, z9, z10, z11, z12, z13, z14, z15, z16, z17, z18, z19, z20]) (fun r w' => ((m_linkMany = 0) ∧ r = some (.long (-9223372036854775808)) ∧ w' = (wc, [ob 9 [.int 0, .int 1, .int m_fault, .int (-1), .ref 1001, .ref 1002, .int 40, .ref 1003, .int m_taped, .int m_linkMany, .int m_tracerMany, .int m_pointMany, .int m_pairMany, .ref 1004, .ref 1005, .ref 1006, .ref 1007, .int m_readLinks, .int m_readTracers, .int m_readPoints, .int m_readPairs, .ref 1008, .ref 1009, .ref 1010, .ref 1011, .int m_textLong, .int m_at, .int m_spot, .int m_token, .int m_whole, .int m_readFault, .int m_readPlace, .int m_value, .long m_n, .long m_c, .long m_d, .long m_s, .long m_e, .long m_k, .long m_x, .long m_y, .long m_g, .long m_a, .ref 1012, .ref 1013, .ref 1014, .int m_curveMany, .ref 1015, .int m_cornerMany, .int m_straightAt, .ref 1016, .long m_fitUp, .long m_fitDown, .long m_worstUp, .long m_worstDown, .ref 1017, .int m_walkLink, .int m_walkAngle, .int m_walkBranch, .int m_walkMany, .ref 1018, .ref 1019, .int m_lined, .ref 1020, .int m_actMany], z1, z2, z3, z4, z5, z6, z7, z8, z9, z10, z11, z12, z13, z14, z15, z16, z17, z18, z19, z20])) ∨ ((¬ m_linkMany = 0) ∧ r = some (.long (-9223372036854775808)) ∧ w' = (wc, [ob 9 [.int 0, .int 1, .int m_fault, .int (-1), .ref 1001, .ref 1002, .int 40, .ref 1003, .int m_taped, .int m_linkMany, .int m_tracerMany, .int m_pointMany, .int m_pairMany, .ref 1004, .ref 1005, .ref 1006, .ref 1007, .int m_readLinks, .int m_readTracers, .int m_readPoints, .int m_readPairs, .ref 1008, .ref 1009, .ref 1010, .ref 1011, .int m_textLong, .int m_at, .int m_spot, .int m_token, .int m_whole, .int m_readFault, .int m_readPlace, .int m_value, .long m_n, .long m_c, .long m_d, .long m_s, .long m_e, .long m_k, .long m_x, .long m_y, .long m_g, .long m_a, .ref 1012, .ref 1013, .ref 1014, .int m_curveMany, .ref 1015, .int m_cornerMany, .int m_straightAt, .ref 1016, .long m_fitUp, .long m_fitDown, .long m_worstUp, .long m_worstDown, .ref 1017, .int m_walkLink, .int m_walkAngle, .int m_walkBranch, .int m_walkMany, .ref 1018, .ref 1019, .int m_lined, .ref 1020, .int m_actMany], z1, z2, z3, z4, z5, z6, z7, z8, z9, z10, z11, z12, z13, z14, z15, z16, z17, z18, z19, z20]))) := by
  refine ct_of ⟨by decide, rfl⟩ (Nat.le_of_ble_eq_true rfl) ?_
  refine ab_aload_n dX11_three_0 rfl ?_
  refine ab_callV (As := []) (rest := []) dX11_three_1 mv_X11_anew ml_X11_104 ⟨by decide, by decide, rfl, rfl, rfl⟩ (by decide) rfl rfl (Nat.le_of_ble_eq_true rfl) rfl c_X11_anew ?_
  rintro r w' ⟨rfl, rfl⟩
  refine ab_aload_n dX11_three_4 rfl ?_
  refine ab_getf dX11_three_5 fl_X11_233 rfl rfl ?_
  refine ab_ifeq 20 dX11_three_8 (by decide) (fun h_1 => ?_) (fun h_1 => ?_)
  · refine ab_aload_n dX11_three_20 rfl ?_
    refine ab_iconst (v := 1) dX11_three_21 (by decide) ?_
    refine ab_callV (As := [.int 1]) (rest := []) dX11_three_22 mv_X11_lowest ml_X11_304 ⟨by decide, by decide, rfl, rfl, rfl⟩ (by decide) rfl rfl (Nat.le_of_ble_eq_true rfl) rfl c_X11_lowest ?_
    rintro r w' ⟨rfl, rfl⟩
    exact ab_lret dX11_three_25 rfl (by decide) (Or.inl ⟨h_1, rfl, rfl⟩)
  · refine ab_iload_n dX11_three_11 rfl ?_
    refine ab_iconst (v := 0) dX11_three_12 (by decide) ?_
    refine ab_iconst (v := 2) dX11_three_13 (by decide) ?_
    refine ab_callS (As := [.int a1, .int 0, .int 2]) (rest := []) dX11_three_14 ms_X11_in ml_X11_107 ⟨by decide, by decide, rfl, rfl, rfl⟩ (by decide) rfl rfl (Nat.le_of_ble_eq_true rfl) c_X11_in ?_
    rintro r w' (⟨c_2, rfl, rfl⟩ | ⟨c_3, rfl, rfl⟩)
    · exact absurd c_2 h_o
    · refine ab_ifne 26 dX11_three_17 (by decide) (fun h_4 => absurd (by decide) h_4) (fun h_4 => ?_)
      refine ab_aload_n dX11_three_20 rfl ?_
      refine ab_iconst (v := 1) dX11_three_21 (by decide) ?_
      refine ab_callV (As := [.int 1]) (rest := []) dX11_three_22 mv_X11_lowest ml_X11_304 ⟨by decide, by decide, rfl, rfl, rfl⟩ (by decide) rfl rfl (Nat.le_of_ble_eq_true rfl) rfl c_X11_lowest ?_
      rintro r w' ⟨rfl, rfl⟩
      exact ab_lret dX11_three_25 rfl (by decide) (Or.inr (⟨h_1, rfl, rfl⟩))
