theorem mk_least_in (q : Nat → Int32) (l : Int32) : 0 ≤ Mk_least q l ∧ Mk_least q l < nI 4 := by
  unfold Mk_least
  repeat' split
  all_goals decide
theorem c_X11_isBuilt {wc : List ax_E} {m_thrown m_trouble m_fault m_where m_taped m_linkMany m_tracerMany m_pointMany m_pairMany m_readLinks m_readTracers m_readPoints m_readPairs m_textLong m_at m_spot m_token m_whole m_readFault m_readPlace m_value m_curveMany m_cornerMany m_straightAt m_walkLink m_walkAngle m_walkBranch m_walkMany m_lined m_actMany a1 : Int32} {m_n m_c m_d m_s m_e m_k m_x m_y m_g m_a m_fitUp m_fitDown m_worstUp m_worstDown : Int64} {z1 z2 z3 z5 z6 z7 z8 z9 z10 z11 z12 z13 z14 z15 z16 z17 z18 z19 z20 : ax_E} {q4 : Nat → Int32} (h_i : 0 ≤ a1 ∧ a1 < m_linkMany) (h_l : 0 ≤ m_linkMany ∧ m_linkMany ≤ nI 4) : Ct M_X11_isBuilt [.ref 1000, .int a1] (wc, [ob 9 [.int m_thrown, .int m_trouble, .int m_fault, .int m_where, .ref 1001, .ref 1002, .int 40, .ref 1003, .int m_taped, .int m_linkMany, .int m_tracerMany, .int m_pointMany, .int m_pairMany, .ref 1004, .ref 1005, .ref 1006, .ref 1007, .int m_readLinks, .int m_readTracers, .int m_readPoints, .int m_readPairs, .ref 1008, .ref 1009, .ref 1010, .ref 1011, .int m_textLong, .int m_at, .int m_spot, .int m_token, .int m_whole, .int m_readFault, .int m_readPlace, .int m_value, .long m_n, .long m_c, .long m_d, .long m_s, .long m_e, .long m_k, .long m_x, .long m_y, .long m_g, .long m_a, .ref 1012, .ref 1013, .ref 1014, .int m_curveMany, .ref 1015, .int m_cornerMany, .int m_straightAt, .ref 1016, .long m_fitUp, .long m_fitDown, .long m_worstUp, .long m_worstDown, .ref 1017, .int m_walkLink, .int m_walkAngle, .int m_walkBranch, .int m_walkMany, .ref 1018, .ref 1019, .int m_lined, .ref 1020, .int m_actMany], z1, z2, z3, ia 16 q4, z5, z6, z7, z8, z9, z10, z11, z12, z13, z14, z15, z16, z17, z18, z19, z20]) (fun r w' => ((2 * Mk_max q4 a1 ≤ Mk_all q4 a1) ∧ r = some (.int 1) ∧ w' = (wc, [ob 9 [.int m_thrown, .int m_trouble, .int m_fault, .int m_where, .ref 1001, .ref 1002, .int 40, .ref 1003, .int m_taped, .int m_linkMany, .int m_tracerMany, .int m_pointMany, .int m_pairMany, .ref 1004, .ref 1005, .ref 1006, .ref 1007, .int m_readLinks, .int m_readTracers, .int m_readPoints, .int m_readPairs, .ref 1008, .ref 1009, .ref 1010, .ref 1011, .int m_textLong, .int m_at, .int m_spot, .int m_token, .int m_whole, .int m_readFault, .int m_readPlace, .int m_value, .long m_n, .long m_c, .long m_d, .long m_s, .long m_e, .long m_k, .long m_x, .long m_y, .long m_g, .long m_a, .ref 1012, .ref 1013, .ref 1014, .int m_curveMany, .ref 1015, .int m_cornerMany, .int m_straightAt, .ref 1016, .long m_fitUp, .long m_fitDown, .long m_worstUp, .long m_worstDown, .ref 1017, .int m_walkLink, .int m_walkAngle, .int m_walkBranch, .int m_walkMany, .ref 1018, .ref 1019, .int m_lined, .ref 1020, .int m_actMany], z1, z2, z3, ia 16 q4, z5, z6, z7, z8, z9, z10, z11, z12, z13, z14, z15, z16, z17, z18, z19, z20])) ∨ ((¬ (2 * Mk_max q4 a1 ≤ Mk_all q4 a1)) ∧ r = some (.int 0) ∧ w' = (wc, [ob 9 [.int m_thrown, .int m_trouble, .int m_fault, .int m_where, .ref 1001, .ref 1002, .int 40, .ref 1003, .int m_taped, .int m_linkMany, .int m_tracerMany, .int m_pointMany, .int m_pairMany, .ref 1004, .ref 1005, .ref 1006, .ref 1007, .int m_readLinks, .int m_readTracers, .int m_readPoints, .int m_readPairs, .ref 1008, .ref 1009, .ref 1010, .ref 1011, .int m_textLong, .int m_at, .int m_spot, .int m_token, .int m_whole, .int m_readFault, .int m_readPlace, .int m_value, .long m_n, .long m_c, .long m_d, .long m_s, .long m_e, .long m_k, .long m_x, .long m_y, .long m_g, .long m_a, .ref 1012, .ref 1013, .ref 1014, .int m_curveMany, .ref 1015, .int m_cornerMany, .int m_straightAt, .ref 1016, .long m_fitUp, .long m_fitDown, .long m_worstUp, .long m_worstDown, .ref 1017, .int m_walkLink, .int m_walkAngle, .int m_walkBranch, .int m_walkMany, .ref 1018, .ref 1019, .int m_lined, .ref 1020, .int m_actMany], z1, z2, z3, ia 16 q4, z5, z6, z7, z8, z9, z10, z11, z12, z13, z14, z15, z16, z17, z18, z19, z20]))) := by
  refine ct_of ⟨by decide, rfl⟩ (Nat.le_of_ble_eq_true rfl) ?_
  refine ab_iconst (v := 2) dX11_isBuilt_0 (by decide) ?_
  refine ab_aload_n dX11_isBuilt_1 rfl ?_
  refine ab_iload_n dX11_isBuilt_2 rfl ?_
  refine ab_callV (As := [.int a1]) (rest := [.int 2]) dX11_isBuilt_3 mv_X11_greatestOf ml_X11_256 ⟨by decide, by decide, rfl, rfl, rfl⟩ (by decide) rfl rfl (Nat.le_of_ble_eq_true rfl) rfl (c_X11_greatestOf h_i h_l) ?_
  rintro r w' ⟨rfl, rfl⟩
  refine ab_imul dX11_isBuilt_6 ?_
  refine ab_aload_n dX11_isBuilt_7 rfl ?_
  refine ab_iload_n dX11_isBuilt_8 rfl ?_
  refine ab_callV (As := [.int a1]) (rest := [.int (2 * (Mk_max q4 a1))]) dX11_isBuilt_9 mv_X11_all ml_X11_259 ⟨by decide, by decide, rfl, rfl, rfl⟩ (by decide) rfl rfl (Nat.le_of_ble_eq_true rfl) rfl (c_X11_all h_i h_l) ?_
  rintro r w' ⟨rfl, rfl⟩
  refine ab_icmpgt 19 dX11_isBuilt_12 (by decide) (fun h_1 => ?_) (fun h_1 => ?_)
  · refine ab_iconst (v := 0) dX11_isBuilt_19 (by decide) ?_
    exact ab_zret dX11_isBuilt_20 rfl rfl (by decide) (Or.inr (⟨(by grind), rfl, rfl⟩))
  · refine ab_iconst (v := 1) dX11_isBuilt_15 (by decide) ?_
    refine ab_goto 20 dX11_isBuilt_16 (by decide) ?_
    exact ab_zret dX11_isBuilt_20 rfl rfl (by decide) (Or.inl (⟨(by grind), rfl, rfl⟩))
def Mk_sums (q4 : Nat → Int32) (a1 : Int32) : Int32 := (((Mk_all q4 a1) - (2 * (Mk_max q4 a1))) - (2 * (q4 (0 + Int32.toNatClampNeg a1 * 4 + Int32.toNatClampNeg (Mk_least q4 a1)))))
theorem c_X11_sumsOf {wc : List ax_E} {m_thrown m_trouble m_fault m_where m_taped m_linkMany m_tracerMany m_pointMany m_pairMany m_readLinks m_readTracers m_readPoints m_readPairs m_textLong m_at m_spot m_token m_whole m_readFault m_readPlace m_value m_curveMany m_cornerMany m_straightAt m_walkLink m_walkAngle m_walkBranch m_walkMany m_lined m_actMany a1 : Int32} {m_n m_c m_d m_s m_e m_k m_x m_y m_g m_a m_fitUp m_fitDown m_worstUp m_worstDown : Int64} {z1 z2 z3 z5 z6 z7 z8 z9 z10 z11 z12 z13 z14 z15 z16 z17 z18 z19 z20 : ax_E} {q4 : Nat → Int32} (h_i : 0 ≤ a1 ∧ a1 < m_linkMany) (h_l : 0 ≤ m_linkMany ∧ m_linkMany ≤ nI 4) : Ct M_X11_sumsOf [.ref 1000, .int a1] (wc, [ob 9 [.int m_thrown, .int m_trouble, .int m_fault, .int m_where, .ref 1001, .ref 1002, .int 40, .ref 1003, .int m_taped, .int m_linkMany, .int m_tracerMany, .int m_pointMany, .int m_pairMany, .ref 1004, .ref 1005, .ref 1006, .ref 1007, .int m_readLinks, .int m_readTracers, .int m_readPoints, .int m_readPairs, .ref 1008, .ref 1009, .ref 1010, .ref 1011, .int m_textLong, .int m_at, .int m_spot, .int m_token, .int m_whole, .int m_readFault, .int m_readPlace, .int m_value, .long m_n, .long m_c, .long m_d, .long m_s, .long m_e, .long m_k, .long m_x, .long m_y, .long m_g, .long m_a, .ref 1012, .ref 1013, .ref 1014, .int m_curveMany, .ref 1015, .int m_cornerMany, .int m_straightAt, .ref 1016, .long m_fitUp, .long m_fitDown, .long m_worstUp, .long m_worstDown, .ref 1017, .int m_walkLink, .int m_walkAngle, .int m_walkBranch, .int m_walkMany, .ref 1018, .ref 1019, .int m_lined, .ref 1020, .int m_actMany], z1, z2, z3, ia 16 q4, z5, z6, z7, z8, z9, z10, z11, z12, z13, z14, z15, z16, z17, z18, z19, z20]) (fun r w' => r = some (.int (Mk_sums q4 a1)) ∧ w' = (wc, [ob 9 [.int m_thrown, .int m_trouble, .int m_fault, .int m_where, .ref 1001, .ref 1002, .int 40, .ref 1003, .int m_taped, .int m_linkMany, .int m_tracerMany, .int m_pointMany, .int m_pairMany, .ref 1004, .ref 1005, .ref 1006, .ref 1007, .int m_readLinks, .int m_readTracers, .int m_readPoints, .int m_readPairs, .ref 1008, .ref 1009, .ref 1010, .ref 1011, .int m_textLong, .int m_at, .int m_spot, .int m_token, .int m_whole, .int m_readFault, .int m_readPlace, .int m_value, .long m_n, .long m_c, .long m_d, .long m_s, .long m_e, .long m_k, .long m_x, .long m_y, .long m_g, .long m_a, .ref 1012, .ref 1013, .ref 1014, .int m_curveMany, .ref 1015, .int m_cornerMany, .int m_straightAt, .ref 1016, .long m_fitUp, .long m_fitDown, .long m_worstUp, .long m_worstDown, .ref 1017, .int m_walkLink, .int m_walkAngle, .int m_walkBranch, .int m_walkMany, .ref 1018, .ref 1019, .int m_lined, .ref 1020, .int m_actMany], z1, z2, z3, ia 16 q4, z5, z6, z7, z8, z9, z10, z11, z12, z13, z14, z15, z16, z17, z18, z19, z20])) := by
  refine ct_of ⟨by decide, rfl⟩ (Nat.le_of_ble_eq_true rfl) ?_
  refine ab_aload_n dX11_sumsOf_0 rfl ?_
  refine ab_iload_n dX11_sumsOf_1 rfl ?_
  refine ab_callV (As := [.int a1]) (rest := []) dX11_sumsOf_2 mv_X11_all ml_X11_259 ⟨by decide, by decide, rfl, rfl, rfl⟩ (by decide) rfl rfl (Nat.le_of_ble_eq_true rfl) rfl (c_X11_all h_i h_l) ?_
  rintro r w' ⟨rfl, rfl⟩
  refine ab_iconst (v := 2) dX11_sumsOf_5 (by decide) ?_
  refine ab_aload_n dX11_sumsOf_6 rfl ?_
  refine ab_iload_n dX11_sumsOf_7 rfl ?_
  refine ab_callV (As := [.int a1]) (rest := [.int 2, .int (Mk_all q4 a1)]) dX11_sumsOf_8 mv_X11_greatestOf ml_X11_256 ⟨by decide, by decide, rfl, rfl, rfl⟩ (by decide) rfl rfl (Nat.le_of_ble_eq_true rfl) rfl (c_X11_greatestOf h_i h_l) ?_
  rintro r w' ⟨rfl, rfl⟩
  refine ab_imul dX11_sumsOf_11 ?_
  refine ab_isub dX11_sumsOf_12 ?_
  refine ab_iconst (v := 2) dX11_sumsOf_13 (by decide) ?_
  refine ab_aload_n dX11_sumsOf_14 rfl ?_
  refine ab_iload_n dX11_sumsOf_15 rfl ?_
  refine ab_aload_n dX11_sumsOf_16 rfl ?_
  refine ab_iload_n dX11_sumsOf_17 rfl ?_
  refine ab_callV (As := [.int a1]) (rest := [.int a1, .ref 1000, .int 2, .int ((Mk_all q4 a1) - (2 * (Mk_max q4 a1)))]) dX11_sumsOf_18 mv_X11_leastOf ml_X11_262 ⟨by decide, by decide, rfl, rfl, rfl⟩ (by decide) rfl rfl (Nat.le_of_ble_eq_true rfl) rfl (c_X11_leastOf h_i h_l) ?_
  rintro r w' ⟨rfl, rfl⟩
  refine ab_callV (As := [.int a1, .int (Mk_least q4 a1)]) (rest := [.int 2, .int ((Mk_all q4 a1) - (2 * (Mk_max q4 a1)))]) dX11_sumsOf_21 mv_X11_barOf ml_X11_252 ⟨by decide, by decide, rfl, rfl, rfl⟩ (by decide) rfl rfl (Nat.le_of_ble_eq_true rfl) rfl (c_X11_barOf h_i h_l (mk_least_in q4 a1)) ?_
  rintro r w' ⟨rfl, rfl⟩
  refine ab_imul dX11_sumsOf_24 ?_
  refine ab_isub dX11_sumsOf_25 ?_
  exact ab_iret dX11_sumsOf_26 rfl (by decide) (⟨rfl, rfl⟩)
def Mk_unit (q4 : Nat → Int32) (a1 : Int32) : Int32 := ((2 * (Bg q4 a1)) * (Ba q4 a1))
theorem c_X11_cosineBy {wc : List ax_E} {m_thrown m_trouble m_fault m_where m_taped m_linkMany m_tracerMany m_pointMany m_pairMany m_readLinks m_readTracers m_readPoints m_readPairs m_textLong m_at m_spot m_token m_whole m_readFault m_readPlace m_value m_curveMany m_cornerMany m_straightAt m_walkLink m_walkAngle m_walkBranch m_walkMany m_lined m_actMany a1 : Int32} {m_n m_c m_d m_s m_e m_k m_x m_y m_g m_a m_fitUp m_fitDown m_worstUp m_worstDown : Int64} {z1 z2 z3 z5 z6 z7 z8 z9 z10 z11 z12 z13 z14 z15 z16 z17 z18 z19 z20 : ax_E} {q4 : Nat → Int32} (h_i : 0 ≤ a1 ∧ a1 < m_linkMany) (h_l : 0 ≤ m_linkMany ∧ m_linkMany ≤ nI 4) : Ct M_X11_cosineBy [.ref 1000, .int a1] (wc, [ob 9 [.int m_thrown, .int m_trouble, .int m_fault, .int m_where, .ref 1001, .ref 1002, .int 40, .ref 1003, .int m_taped, .int m_linkMany, .int m_tracerMany, .int m_pointMany, .int m_pairMany, .ref 1004, .ref 1005, .ref 1006, .ref 1007, .int m_readLinks, .int m_readTracers, .int m_readPoints, .int m_readPairs, .ref 1008, .ref 1009, .ref 1010, .ref 1011, .int m_textLong, .int m_at, .int m_spot, .int m_token, .int m_whole, .int m_readFault, .int m_readPlace, .int m_value, .long m_n, .long m_c, .long m_d, .long m_s, .long m_e, .long m_k, .long m_x, .long m_y, .long m_g, .long m_a, .ref 1012, .ref 1013, .ref 1014, .int m_curveMany, .ref 1015, .int m_cornerMany, .int m_straightAt, .ref 1016, .long m_fitUp, .long m_fitDown, .long m_worstUp, .long m_worstDown, .ref 1017, .int m_walkLink, .int m_walkAngle, .int m_walkBranch, .int m_walkMany, .ref 1018, .ref 1019, .int m_lined, .ref 1020, .int m_actMany], z1, z2, z3, ia 16 q4, z5, z6, z7, z8, z9, z10, z11, z12, z13, z14, z15, z16, z17, z18, z19, z20]) (fun r w' => r = some (.int (Mk_unit q4 a1)) ∧ w' = (wc, [ob 9 [.int m_thrown, .int m_trouble, .int m_fault, .int m_where, .ref 1001, .ref 1002, .int 40, .ref 1003, .int m_taped, .int m_linkMany, .int m_tracerMany, .int m_pointMany, .int m_pairMany, .ref 1004, .ref 1005, .ref 1006, .ref 1007, .int m_readLinks, .int m_readTracers, .int m_readPoints, .int m_readPairs, .ref 1008, .ref 1009, .ref 1010, .ref 1011, .int m_textLong, .int m_at, .int m_spot, .int m_token, .int m_whole, .int m_readFault, .int m_readPlace, .int m_value, .long m_n, .long m_c, .long m_d, .long m_s, .long m_e, .long m_k, .long m_x, .long m_y, .long m_g, .long m_a, .ref 1012, .ref 1013, .ref 1014, .int m_curveMany, .ref 1015, .int m_cornerMany, .int m_straightAt, .ref 1016, .long m_fitUp, .long m_fitDown, .long m_worstUp, .long m_worstDown, .ref 1017, .int m_walkLink, .int m_walkAngle, .int m_walkBranch, .int m_walkMany, .ref 1018, .ref 1019, .int m_lined, .ref 1020, .int m_actMany], z1, z2, z3, ia 16 q4, z5, z6, z7, z8, z9, z10, z11, z12, z13, z14, z15, z16, z17, z18, z19, z20])) := by
  refine ct_of ⟨by decide, rfl⟩ (Nat.le_of_ble_eq_true rfl) ?_
  refine ab_iconst (v := 2) dX11_cosineBy_0 (by decide) ?_
  refine ab_aload_n dX11_cosineBy_1 rfl ?_
  refine ab_iload_n dX11_cosineBy_2 rfl ?_
  refine ab_iconst (v := 0) dX11_cosineBy_3 (by decide) ?_
  refine ab_callV (As := [.int a1, .int 0]) (rest := [.int 2]) dX11_cosineBy_4 mv_X11_barOf ml_X11_252 ⟨by decide, by decide, rfl, rfl, rfl⟩ (by decide) rfl rfl (Nat.le_of_ble_eq_true rfl) rfl (c_X11_barOf h_i h_l (by decide)) ?_
  rintro r w' ⟨rfl, rfl⟩
  refine ab_imul dX11_cosineBy_7 ?_
  refine ab_aload_n dX11_cosineBy_8 rfl ?_
  refine ab_iload_n dX11_cosineBy_9 rfl ?_
  refine ab_iconst (v := 1) dX11_cosineBy_10 (by decide) ?_
  refine ab_callV (As := [.int a1, .int 1]) (rest := [.int (2 * (Bg q4 a1))]) dX11_cosineBy_11 mv_X11_barOf ml_X11_252 ⟨by decide, by decide, rfl, rfl, rfl⟩ (by decide) rfl rfl (Nat.le_of_ble_eq_true rfl) rfl (c_X11_barOf h_i h_l (by decide)) ?_
  rintro r w' ⟨rfl, rfl⟩
  refine ab_imul dX11_cosineBy_14 ?_
  exact ab_iret dX11_cosineBy_15 rfl (by decide) (⟨rfl, rfl⟩)
def Mk_cos (q4 : Nat → Int32) (a1 : Int32) (a2 : Int32) : Int32 := ((((Bg q4 a1) * (Bg q4 a1)) + ((Ba q4 a1) * (Ba q4 a1))) - (a2 * a2))
theorem c_X11_cosineOf {wc : List ax_E} {m_thrown m_trouble m_fault m_where m_taped m_linkMany m_tracerMany m_pointMany m_pairMany m_readLinks m_readTracers m_readPoints m_readPairs m_textLong m_at m_spot m_token m_whole m_readFault m_readPlace m_value m_curveMany m_cornerMany m_straightAt m_walkLink m_walkAngle m_walkBranch m_walkMany m_lined m_actMany a1 a2 : Int32} {m_n m_c m_d m_s m_e m_k m_x m_y m_g m_a m_fitUp m_fitDown m_worstUp m_worstDown : Int64} {z1 z2 z3 z5 z6 z7 z8 z9 z10 z11 z12 z13 z14 z15 z16 z17 z18 z19 z20 : ax_E} {q4 : Nat → Int32} (h_i : 0 ≤ a1 ∧ a1 < m_linkMany) (h_l : 0 ≤ m_linkMany ∧ m_linkMany ≤ nI 4) : Ct M_X11_cosineOf [.ref 1000, .int a1, .int a2] (wc, [ob 9 [.int m_thrown, .int m_trouble, .int m_fault, .int m_where, .ref 1001, .ref 1002, .int 40, .ref 1003, .int m_taped, .int m_linkMany, .int m_tracerMany, .int m_pointMany, .int m_pairMany, .ref 1004, .ref 1005, .ref 1006, .ref 1007, .int m_readLinks, .int m_readTracers, .int m_readPoints, .int m_readPairs, .ref 1008, .ref 1009, .ref 1010, .ref 1011, .int m_textLong, .int m_at, .int m_spot, .int m_token, .int m_whole, .int m_readFault, .int m_readPlace, .int m_value, .long m_n, .long m_c, .long m_d, .long m_s, .long m_e, .long m_k, .long m_x, .long m_y, .long m_g, .long m_a, .ref 1012, .ref 1013, .ref 1014, .int m_curveMany, .ref 1015, .int m_cornerMany, .int m_straightAt, .ref 1016, .long m_fitUp, .long m_fitDown, .long m_worstUp, .long m_worstDown, .ref 1017, .int m_walkLink, .int m_walkAngle, .int m_walkBranch, .int m_walkMany, .ref 1018, .ref 1019, .int m_lined, .ref 1020, .int m_actMany], z1, z2, z3, ia 16 q4, z5, z6, z7, z8, z9, z10, z11, z12, z13, z14, z15, z16, z17, z18, z19, z20]) (fun r w' => r = some (.int (Mk_cos q4 a1 a2)) ∧ w' = (wc, [ob 9 [.int m_thrown, .int m_trouble, .int m_fault, .int m_where, .ref 1001, .ref 1002, .int 40, .ref 1003, .int m_taped, .int m_linkMany, .int m_tracerMany, .int m_pointMany, .int m_pairMany, .ref 1004, .ref 1005, .ref 1006, .ref 1007, .int m_readLinks, .int m_readTracers, .int m_readPoints, .int m_readPairs, .ref 1008, .ref 1009, .ref 1010, .ref 1011, .int m_textLong, .int m_at, .int m_spot, .int m_token, .int m_whole, .int m_readFault, .int m_readPlace, .int m_value, .long m_n, .long m_c, .long m_d, .long m_s, .long m_e, .long m_k, .long m_x, .long m_y, .long m_g, .long m_a, .ref 1012, .ref 1013, .ref 1014, .int m_curveMany, .ref 1015, .int m_cornerMany, .int m_straightAt, .ref 1016, .long m_fitUp, .long m_fitDown, .long m_worstUp, .long m_worstDown, .ref 1017, .int m_walkLink, .int m_walkAngle, .int m_walkBranch, .int m_walkMany, .ref 1018, .ref 1019, .int m_lined, .ref 1020, .int m_actMany], z1, z2, z3, ia 16 q4, z5, z6, z7, z8, z9, z10, z11, z12, z13, z14, z15, z16, z17, z18, z19, z20])) := by
  refine ct_of ⟨by decide, rfl⟩ (Nat.le_of_ble_eq_true rfl) ?_
  refine ab_aload_n dX11_cosineOf_0 rfl ?_
  refine ab_iload_n dX11_cosineOf_1 rfl ?_
  refine ab_iconst (v := 0) dX11_cosineOf_2 (by decide) ?_
  refine ab_callV (As := [.int a1, .int 0]) (rest := []) dX11_cosineOf_3 mv_X11_barOf ml_X11_252 ⟨by decide, by decide, rfl, rfl, rfl⟩ (by decide) rfl rfl (Nat.le_of_ble_eq_true rfl) rfl (c_X11_barOf h_i h_l (by decide)) ?_
  rintro r w' ⟨rfl, rfl⟩
  refine ab_aload_n dX11_cosineOf_6 rfl ?_
  refine ab_iload_n dX11_cosineOf_7 rfl ?_
  refine ab_iconst (v := 0) dX11_cosineOf_8 (by decide) ?_
  refine ab_callV (As := [.int a1, .int 0]) (rest := [.int (Bg q4 a1)]) dX11_cosineOf_9 mv_X11_barOf ml_X11_252 ⟨by decide, by decide, rfl, rfl, rfl⟩ (by decide) rfl rfl (Nat.le_of_ble_eq_true rfl) rfl (c_X11_barOf h_i h_l (by decide)) ?_
  rintro r w' ⟨rfl, rfl⟩
  refine ab_imul dX11_cosineOf_12 ?_
  refine ab_aload_n dX11_cosineOf_13 rfl ?_
  refine ab_iload_n dX11_cosineOf_14 rfl ?_
  refine ab_iconst (v := 1) dX11_cosineOf_15 (by decide) ?_
  refine ab_callV (As := [.int a1, .int 1]) (rest := [.int ((Bg q4 a1) * (Bg q4 a1))]) dX11_cosineOf_16 mv_X11_barOf ml_X11_252 ⟨by decide, by decide, rfl, rfl, rfl⟩ (by decide) rfl rfl (Nat.le_of_ble_eq_true rfl) rfl (c_X11_barOf h_i h_l (by decide)) ?_
  rintro r w' ⟨rfl, rfl⟩
  refine ab_aload_n dX11_cosineOf_19 rfl ?_
  refine ab_iload_n dX11_cosineOf_20 rfl ?_
  refine ab_iconst (v := 1) dX11_cosineOf_21 (by decide) ?_
  refine ab_callV (As := [.int a1, .int 1]) (rest := [.int (Ba q4 a1), .int ((Bg q4 a1) * (Bg q4 a1))]) dX11_cosineOf_22 mv_X11_barOf ml_X11_252 ⟨by decide, by decide, rfl, rfl, rfl⟩ (by decide) rfl rfl (Nat.le_of_ble_eq_true rfl) rfl (c_X11_barOf h_i h_l (by decide)) ?_
  rintro r w' ⟨rfl, rfl⟩
  refine ab_imul dX11_cosineOf_25 ?_
  refine ab_iadd dX11_cosineOf_26 ?_
  refine ab_iload_n dX11_cosineOf_27 rfl ?_
  refine ab_iload_n dX11_cosineOf_28 rfl ?_
  refine ab_imul dX11_cosineOf_29 ?_
  refine ab_isub dX11_cosineOf_30 ?_
  exact ab_iret dX11_cosineOf_31 rfl (by decide) (⟨rfl, rfl⟩)
def Mk_far (q4 : Nat → Int32) (a1 : Int32) : Int32 := (Mk_cos q4 a1 ((Bb q4 a1) + (Bc q4 a1)))
theorem c_X11_farCosine {wc : List ax_E} {m_thrown m_trouble m_fault m_where m_taped m_linkMany m_tracerMany m_pointMany m_pairMany m_readLinks m_readTracers m_readPoints m_readPairs m_textLong m_at m_spot m_token m_whole m_readFault m_readPlace m_value m_curveMany m_cornerMany m_straightAt m_walkLink m_walkAngle m_walkBranch m_walkMany m_lined m_actMany a1 : Int32} {m_n m_c m_d m_s m_e m_k m_x m_y m_g m_a m_fitUp m_fitDown m_worstUp m_worstDown : Int64} {z1 z2 z3 z5 z6 z7 z8 z9 z10 z11 z12 z13 z14 z15 z16 z17 z18 z19 z20 : ax_E} {q4 : Nat → Int32} (h_i : 0 ≤ a1 ∧ a1 < m_linkMany) (h_l : 0 ≤ m_linkMany ∧ m_linkMany ≤ nI 4) : Ct M_X11_farCosine [.ref 1000, .int a1] (wc, [ob 9 [.int m_thrown, .int m_trouble, .int m_fault, .int m_where, .ref 1001, .ref 1002, .int 40, .ref 1003, .int m_taped, .int m_linkMany, .int m_tracerMany, .int m_pointMany, .int m_pairMany, .ref 1004, .ref 1005, .ref 1006, .ref 1007, .int m_readLinks, .int m_readTracers, .int m_readPoints, .int m_readPairs, .ref 1008, .ref 1009, .ref 1010, .ref 1011, .int m_textLong, .int m_at, .int m_spot, .int m_token, .int m_whole, .int m_readFault, .int m_readPlace, .int m_value, .long m_n, .long m_c, .long m_d, .long m_s, .long m_e, .long m_k, .long m_x, .long m_y, .long m_g, .long m_a, .ref 1012, .ref 1013, .ref 1014, .int m_curveMany, .ref 1015, .int m_cornerMany, .int m_straightAt, .ref 1016, .long m_fitUp, .long m_fitDown, .long m_worstUp, .long m_worstDown, .ref 1017, .int m_walkLink, .int m_walkAngle, .int m_walkBranch, .int m_walkMany, .ref 1018, .ref 1019, .int m_lined, .ref 1020, .int m_actMany], z1, z2, z3, ia 16 q4, z5, z6, z7, z8, z9, z10, z11, z12, z13, z14, z15, z16, z17, z18, z19, z20]) (fun r w' => r = some (.int (Mk_far q4 a1)) ∧ w' = (wc, [ob 9 [.int m_thrown, .int m_trouble, .int m_fault, .int m_where, .ref 1001, .ref 1002, .int 40, .ref 1003, .int m_taped, .int m_linkMany, .int m_tracerMany, .int m_pointMany, .int m_pairMany, .ref 1004, .ref 1005, .ref 1006, .ref 1007, .int m_readLinks, .int m_readTracers, .int m_readPoints, .int m_readPairs, .ref 1008, .ref 1009, .ref 1010, .ref 1011, .int m_textLong, .int m_at, .int m_spot, .int m_token, .int m_whole, .int m_readFault, .int m_readPlace, .int m_value, .long m_n, .long m_c, .long m_d, .long m_s, .long m_e, .long m_k, .long m_x, .long m_y, .long m_g, .long m_a, .ref 1012, .ref 1013, .ref 1014, .int m_curveMany, .ref 1015, .int m_cornerMany, .int m_straightAt, .ref 1016, .long m_fitUp, .long m_fitDown, .long m_worstUp, .long m_worstDown, .ref 1017, .int m_walkLink, .int m_walkAngle, .int m_walkBranch, .int m_walkMany, .ref 1018, .ref 1019, .int m_lined, .ref 1020, .int m_actMany], z1, z2, z3, ia 16 q4, z5, z6, z7, z8, z9, z10, z11, z12, z13, z14, z15, z16, z17, z18, z19, z20])) := by
  refine ct_of ⟨by decide, rfl⟩ (Nat.le_of_ble_eq_true rfl) ?_
  refine ab_aload_n dX11_farCosine_0 rfl ?_
  refine ab_iload_n dX11_farCosine_1 rfl ?_
  refine ab_aload_n dX11_farCosine_2 rfl ?_
  refine ab_iload_n dX11_farCosine_3 rfl ?_
  refine ab_iconst (v := 2) dX11_farCosine_4 (by decide) ?_
  refine ab_callV (As := [.int a1, .int 2]) (rest := [.int a1, .ref 1000]) dX11_farCosine_5 mv_X11_barOf ml_X11_252 ⟨by decide, by decide, rfl, rfl, rfl⟩ (by decide) rfl rfl (Nat.le_of_ble_eq_true rfl) rfl (c_X11_barOf h_i h_l (by decide)) ?_
  rintro r w' ⟨rfl, rfl⟩
  refine ab_aload_n dX11_farCosine_8 rfl ?_
  refine ab_iload_n dX11_farCosine_9 rfl ?_
  refine ab_iconst (v := 3) dX11_farCosine_10 (by decide) ?_
  refine ab_callV (As := [.int a1, .int 3]) (rest := [.int (Bb q4 a1), .int a1, .ref 1000]) dX11_farCosine_11 mv_X11_barOf ml_X11_252 ⟨by decide, by decide, rfl, rfl, rfl⟩ (by decide) rfl rfl (Nat.le_of_ble_eq_true rfl) rfl (c_X11_barOf h_i h_l (by decide)) ?_
  rintro r w' ⟨rfl, rfl⟩
  refine ab_iadd dX11_farCosine_14 ?_
  refine ab_callV (As := [.int a1, .int ((Bb q4 a1) + (Bc q4 a1))]) (rest := []) dX11_farCosine_15 mv_X11_cosineOf ml_X11_277 ⟨by decide, by decide, rfl, rfl, rfl⟩ (by decide) rfl rfl (Nat.le_of_ble_eq_true rfl) rfl (c_X11_cosineOf h_i h_l) ?_
  rintro r w' ⟨rfl, rfl⟩
  exact ab_iret dX11_farCosine_18 rfl (by decide) (⟨rfl, rfl⟩)
def Mk_near (q4 : Nat → Int32) (a1 : Int32) : Int32 := (Mk_cos q4 a1 ((Bb q4 a1) - (Bc q4 a1)))
theorem c_X11_nearCosine {wc : List ax_E} {m_thrown m_trouble m_fault m_where m_taped m_linkMany m_tracerMany m_pointMany m_pairMany m_readLinks m_readTracers m_readPoints m_readPairs m_textLong m_at m_spot m_token m_whole m_readFault m_readPlace m_value m_curveMany m_cornerMany m_straightAt m_walkLink m_walkAngle m_walkBranch m_walkMany m_lined m_actMany a1 : Int32} {m_n m_c m_d m_s m_e m_k m_x m_y m_g m_a m_fitUp m_fitDown m_worstUp m_worstDown : Int64} {z1 z2 z3 z5 z6 z7 z8 z9 z10 z11 z12 z13 z14 z15 z16 z17 z18 z19 z20 : ax_E} {q4 : Nat → Int32} (h_i : 0 ≤ a1 ∧ a1 < m_linkMany) (h_l : 0 ≤ m_linkMany ∧ m_linkMany ≤ nI 4) : Ct M_X11_nearCosine [.ref 1000, .int a1] (wc, [ob 9 [.int m_thrown, .int m_trouble, .int m_fault, .int m_where, .ref 1001, .ref 1002, .int 40, .ref 1003, .int m_taped, .int m_linkMany, .int m_tracerMany, .int m_pointMany, .int m_pairMany, .ref 1004, .ref 1005, .ref 1006, .ref 1007, .int m_readLinks, .int m_readTracers, .int m_readPoints, .int m_readPairs, .ref 1008, .ref 1009, .ref 1010, .ref 1011, .int m_textLong, .int m_at, .int m_spot, .int m_token, .int m_whole, .int m_readFault, .int m_readPlace, .int m_value, .long m_n, .long m_c, .long m_d, .long m_s, .long m_e, .long m_k, .long m_x, .long m_y, .long m_g, .long m_a, .ref 1012, .ref 1013, .ref 1014, .int m_curveMany, .ref 1015, .int m_cornerMany, .int m_straightAt, .ref 1016, .long m_fitUp, .long m_fitDown, .long m_worstUp, .long m_worstDown, .ref 1017, .int m_walkLink, .int m_walkAngle, .int m_walkBranch, .int m_walkMany, .ref 1018, .ref 1019, .int m_lined, .ref 1020, .int m_actMany], z1, z2, z3, ia 16 q4, z5, z6, z7, z8, z9, z10, z11, z12, z13, z14, z15, z16, z17, z18, z19, z20]) (fun r w' => r = some (.int (Mk_near q4 a1)) ∧ w' = (wc, [ob 9 [.int m_thrown, .int m_trouble, .int m_fault, .int m_where, .ref 1001, .ref 1002, .int 40, .ref 1003, .int m_taped, .int m_linkMany, .int m_tracerMany, .int m_pointMany, .int m_pairMany, .ref 1004, .ref 1005, .ref 1006, .ref 1007, .int m_readLinks, .int m_readTracers, .int m_readPoints, .int m_readPairs, .ref 1008, .ref 1009, .ref 1010, .ref 1011, .int m_textLong, .int m_at, .int m_spot, .int m_token, .int m_whole, .int m_readFault, .int m_readPlace, .int m_value, .long m_n, .long m_c, .long m_d, .long m_s, .long m_e, .long m_k, .long m_x, .long m_y, .long m_g, .long m_a, .ref 1012, .ref 1013, .ref 1014, .int m_curveMany, .ref 1015, .int m_cornerMany, .int m_straightAt, .ref 1016, .long m_fitUp, .long m_fitDown, .long m_worstUp, .long m_worstDown, .ref 1017, .int m_walkLink, .int m_walkAngle, .int m_walkBranch, .int m_walkMany, .ref 1018, .ref 1019, .int m_lined, .ref 1020, .int m_actMany], z1, z2, z3, ia 16 q4, z5, z6, z7, z8, z9, z10, z11, z12, z13, z14, z15, z16, z17, z18, z19, z20])) := by
  refine ct_of ⟨by decide, rfl⟩ (Nat.le_of_ble_eq_true rfl) ?_
  refine ab_aload_n dX11_nearCosine_0 rfl ?_
  refine ab_iload_n dX11_nearCosine_1 rfl ?_
  refine ab_aload_n dX11_nearCosine_2 rfl ?_
  refine ab_iload_n dX11_nearCosine_3 rfl ?_
  refine ab_iconst (v := 2) dX11_nearCosine_4 (by decide) ?_
  refine ab_callV (As := [.int a1, .int 2]) (rest := [.int a1, .ref 1000]) dX11_nearCosine_5 mv_X11_barOf ml_X11_252 ⟨by decide, by decide, rfl, rfl, rfl⟩ (by decide) rfl rfl (Nat.le_of_ble_eq_true rfl) rfl (c_X11_barOf h_i h_l (by decide)) ?_
  rintro r w' ⟨rfl, rfl⟩
  refine ab_aload_n dX11_nearCosine_8 rfl ?_
  refine ab_iload_n dX11_nearCosine_9 rfl ?_
  refine ab_iconst (v := 3) dX11_nearCosine_10 (by decide) ?_
  refine ab_callV (As := [.int a1, .int 3]) (rest := [.int (Bb q4 a1), .int a1, .ref 1000]) dX11_nearCosine_11 mv_X11_barOf ml_X11_252 ⟨by decide, by decide, rfl, rfl, rfl⟩ (by decide) rfl rfl (Nat.le_of_ble_eq_true rfl) rfl (c_X11_barOf h_i h_l (by decide)) ?_
  rintro r w' ⟨rfl, rfl⟩
  refine ab_isub dX11_nearCosine_14 ?_
  refine ab_callV (As := [.int a1, .int ((Bb q4 a1) - (Bc q4 a1))]) (rest := []) dX11_nearCosine_15 mv_X11_cosineOf ml_X11_277 ⟨by decide, by decide, rfl, rfl, rfl⟩ (by decide) rfl rfl (Nat.le_of_ble_eq_true rfl) rfl (c_X11_cosineOf h_i h_l) ?_
  rintro r w' ⟨rfl, rfl⟩
  exact ab_iret dX11_nearCosine_18 rfl (by decide) (⟨rfl, rfl⟩)
def Mk_lc (q4 : Nat → Int32) (a1 : Int32) : Int32 := (if (-(Mk_unit q4 a1)) ≤ (Mk_far q4 a1) then (Mk_far q4 a1) else (-(Mk_unit q4 a1)))
theorem c_X11_leastCosine {wc : List ax_E} {m_thrown m_trouble m_fault m_where m_taped m_linkMany m_tracerMany m_pointMany m_pairMany m_readLinks m_readTracers m_readPoints m_readPairs m_textLong m_at m_spot m_token m_whole m_readFault m_readPlace m_value m_curveMany m_cornerMany m_straightAt m_walkLink m_walkAngle m_walkBranch m_walkMany m_lined m_actMany a1 : Int32} {m_n m_c m_d m_s m_e m_k m_x m_y m_g m_a m_fitUp m_fitDown m_worstUp m_worstDown : Int64} {z1 z2 z3 z5 z6 z7 z8 z9 z10 z11 z12 z13 z14 z15 z16 z17 z18 z19 z20 : ax_E} {q4 : Nat → Int32} (h_i : 0 ≤ a1 ∧ a1 < m_linkMany) (h_l : 0 ≤ m_linkMany ∧ m_linkMany ≤ nI 4) : Ct M_X11_leastCosine [.ref 1000, .int a1] (wc, [ob 9 [.int m_thrown, .int m_trouble, .int m_fault, .int m_where, .ref 1001, .ref 1002, .int 40, .ref 1003, .int m_taped, .int m_linkMany, .int m_tracerMany, .int m_pointMany, .int m_pairMany, .ref 1004, .ref 1005, .ref 1006, .ref 1007, .int m_readLinks, .int m_readTracers, .int m_readPoints, .int m_readPairs, .ref 1008, .ref 1009, .ref 1010, .ref 1011, .int m_textLong, .int m_at, .int m_spot, .int m_token, .int m_whole, .int m_readFault, .int m_readPlace, .int m_value, .long m_n, .long m_c, .long m_d, .long m_s, .long m_e, .long m_k, .long m_x, .long m_y, .long m_g, .long m_a, .ref 1012, .ref 1013, .ref 1014, .int m_curveMany, .ref 1015, .int m_cornerMany, .int m_straightAt, .ref 1016, .long m_fitUp, .long m_fitDown, .long m_worstUp, .long m_worstDown, .ref 1017, .int m_walkLink, .int m_walkAngle, .int m_walkBranch, .int m_walkMany, .ref 1018, .ref 1019, .int m_lined, .ref 1020, .int m_actMany], z1, z2, z3, ia 16 q4, z5, z6, z7, z8, z9, z10, z11, z12, z13, z14, z15, z16, z17, z18, z19, z20]) (fun r w' => r = some (.int (Mk_lc q4 a1)) ∧ w' = (wc, [ob 9 [.int m_thrown, .int m_trouble, .int m_fault, .int m_where, .ref 1001, .ref 1002, .int 40, .ref 1003, .int m_taped, .int m_linkMany, .int m_tracerMany, .int m_pointMany, .int m_pairMany, .ref 1004, .ref 1005, .ref 1006, .ref 1007, .int m_readLinks, .int m_readTracers, .int m_readPoints, .int m_readPairs, .ref 1008, .ref 1009, .ref 1010, .ref 1011, .int m_textLong, .int m_at, .int m_spot, .int m_token, .int m_whole, .int m_readFault, .int m_readPlace, .int m_value, .long m_n, .long m_c, .long m_d, .long m_s, .long m_e, .long m_k, .long m_x, .long m_y, .long m_g, .long m_a, .ref 1012, .ref 1013, .ref 1014, .int m_curveMany, .ref 1015, .int m_cornerMany, .int m_straightAt, .ref 1016, .long m_fitUp, .long m_fitDown, .long m_worstUp, .long m_worstDown, .ref 1017, .int m_walkLink, .int m_walkAngle, .int m_walkBranch, .int m_walkMany, .ref 1018, .ref 1019, .int m_lined, .ref 1020, .int m_actMany], z1, z2, z3, ia 16 q4, z5, z6, z7, z8, z9, z10, z11, z12, z13, z14, z15, z16, z17, z18, z19, z20])) := by
  refine ct_of ⟨by decide, rfl⟩ (Nat.le_of_ble_eq_true rfl) ?_
  refine ab_aload_n dX11_leastCosine_0 rfl ?_
  refine ab_iload_n dX11_leastCosine_1 rfl ?_
  refine ab_callV (As := [.int a1]) (rest := []) dX11_leastCosine_2 mv_X11_farCosine ml_X11_280 ⟨by decide, by decide, rfl, rfl, rfl⟩ (by decide) rfl rfl (Nat.le_of_ble_eq_true rfl) rfl (c_X11_farCosine h_i h_l) ?_
  rintro r w' ⟨rfl, rfl⟩
  refine ab_aload_n dX11_leastCosine_5 rfl ?_
  refine ab_iload_n dX11_leastCosine_6 rfl ?_
  refine ab_callV (As := [.int a1]) (rest := [.int (Mk_far q4 a1)]) dX11_leastCosine_7 mv_X11_cosineBy ml_X11_283 ⟨by decide, by decide, rfl, rfl, rfl⟩ (by decide) rfl rfl (Nat.le_of_ble_eq_true rfl) rfl (c_X11_cosineBy h_i h_l) ?_
  rintro r w' ⟨rfl, rfl⟩
  refine ab_ineg dX11_leastCosine_10 ?_
  refine ab_icmpge 23 dX11_leastCosine_11 (by decide) (fun h_1 => ?_) (fun h_1 => ?_)
  · refine ab_aload_n dX11_leastCosine_23 rfl ?_
    refine ab_iload_n dX11_leastCosine_24 rfl ?_
    refine ab_callV (As := [.int a1]) (rest := []) dX11_leastCosine_25 mv_X11_farCosine ml_X11_280 ⟨by decide, by decide, rfl, rfl, rfl⟩ (by decide) rfl rfl (Nat.le_of_ble_eq_true rfl) rfl (c_X11_farCosine h_i h_l) ?_
    rintro r w' ⟨rfl, rfl⟩
    exact ab_iret dX11_leastCosine_28 rfl (by decide) (⟨by rw [Mk_lc, if_pos (show (-(Mk_unit q4 a1)) ≤ (Mk_far q4 a1) from h_1)], rfl⟩)
  · refine ab_aload_n dX11_leastCosine_14 rfl ?_
    refine ab_iload_n dX11_leastCosine_15 rfl ?_
    refine ab_callV (As := [.int a1]) (rest := []) dX11_leastCosine_16 mv_X11_cosineBy ml_X11_283 ⟨by decide, by decide, rfl, rfl, rfl⟩ (by decide) rfl rfl (Nat.le_of_ble_eq_true rfl) rfl (c_X11_cosineBy h_i h_l) ?_
    rintro r w' ⟨rfl, rfl⟩
    refine ab_ineg dX11_leastCosine_19 ?_
    refine ab_goto 28 dX11_leastCosine_20 (by decide) ?_
    exact ab_iret dX11_leastCosine_28 rfl (by decide) (⟨by rw [Mk_lc, if_neg (show ¬ (-(Mk_unit q4 a1)) ≤ (Mk_far q4 a1) from h_1)], rfl⟩)
def Mk_mc (q4 : Nat → Int32) (a1 : Int32) : Int32 := (if (Mk_near q4 a1) ≤ (Mk_unit q4 a1) then (Mk_near q4 a1) else (Mk_unit q4 a1))
theorem c_X11_mostCosine {wc : List ax_E} {m_thrown m_trouble m_fault m_where m_taped m_linkMany m_tracerMany m_pointMany m_pairMany m_readLinks m_readTracers m_readPoints m_readPairs m_textLong m_at m_spot m_token m_whole m_readFault m_readPlace m_value m_curveMany m_cornerMany m_straightAt m_walkLink m_walkAngle m_walkBranch m_walkMany m_lined m_actMany a1 : Int32} {m_n m_c m_d m_s m_e m_k m_x m_y m_g m_a m_fitUp m_fitDown m_worstUp m_worstDown : Int64} {z1 z2 z3 z5 z6 z7 z8 z9 z10 z11 z12 z13 z14 z15 z16 z17 z18 z19 z20 : ax_E} {q4 : Nat → Int32} (h_i : 0 ≤ a1 ∧ a1 < m_linkMany) (h_l : 0 ≤ m_linkMany ∧ m_linkMany ≤ nI 4) : Ct M_X11_mostCosine [.ref 1000, .int a1] (wc, [ob 9 [.int m_thrown, .int m_trouble, .int m_fault, .int m_where, .ref 1001, .ref 1002, .int 40, .ref 1003, .int m_taped, .int m_linkMany, .int m_tracerMany, .int m_pointMany, .int m_pairMany, .ref 1004, .ref 1005, .ref 1006, .ref 1007, .int m_readLinks, .int m_readTracers, .int m_readPoints, .int m_readPairs, .ref 1008, .ref 1009, .ref 1010, .ref 1011, .int m_textLong, .int m_at, .int m_spot, .int m_token, .int m_whole, .int m_readFault, .int m_readPlace, .int m_value, .long m_n, .long m_c, .long m_d, .long m_s, .long m_e, .long m_k, .long m_x, .long m_y, .long m_g, .long m_a, .ref 1012, .ref 1013, .ref 1014, .int m_curveMany, .ref 1015, .int m_cornerMany, .int m_straightAt, .ref 1016, .long m_fitUp, .long m_fitDown, .long m_worstUp, .long m_worstDown, .ref 1017, .int m_walkLink, .int m_walkAngle, .int m_walkBranch, .int m_walkMany, .ref 1018, .ref 1019, .int m_lined, .ref 1020, .int m_actMany], z1, z2, z3, ia 16 q4, z5, z6, z7, z8, z9, z10, z11, z12, z13, z14, z15, z16, z17, z18, z19, z20]) (fun r w' => r = some (.int (Mk_mc q4 a1)) ∧ w' = (wc, [ob 9 [.int m_thrown, .int m_trouble, .int m_fault, .int m_where, .ref 1001, .ref 1002, .int 40, .ref 1003, .int m_taped, .int m_linkMany, .int m_tracerMany, .int m_pointMany, .int m_pairMany, .ref 1004, .ref 1005, .ref 1006, .ref 1007, .int m_readLinks, .int m_readTracers, .int m_readPoints, .int m_readPairs, .ref 1008, .ref 1009, .ref 1010, .ref 1011, .int m_textLong, .int m_at, .int m_spot, .int m_token, .int m_whole, .int m_readFault, .int m_readPlace, .int m_value, .long m_n, .long m_c, .long m_d, .long m_s, .long m_e, .long m_k, .long m_x, .long m_y, .long m_g, .long m_a, .ref 1012, .ref 1013, .ref 1014, .int m_curveMany, .ref 1015, .int m_cornerMany, .int m_straightAt, .ref 1016, .long m_fitUp, .long m_fitDown, .long m_worstUp, .long m_worstDown, .ref 1017, .int m_walkLink, .int m_walkAngle, .int m_walkBranch, .int m_walkMany, .ref 1018, .ref 1019, .int m_lined, .ref 1020, .int m_actMany], z1, z2, z3, ia 16 q4, z5, z6, z7, z8, z9, z10, z11, z12, z13, z14, z15, z16, z17, z18, z19, z20])) := by
  refine ct_of ⟨by decide, rfl⟩ (Nat.le_of_ble_eq_true rfl) ?_
  refine ab_aload_n dX11_mostCosine_0 rfl ?_
  refine ab_iload_n dX11_mostCosine_1 rfl ?_
  refine ab_callV (As := [.int a1]) (rest := []) dX11_mostCosine_2 mv_X11_nearCosine ml_X11_286 ⟨by decide, by decide, rfl, rfl, rfl⟩ (by decide) rfl rfl (Nat.le_of_ble_eq_true rfl) rfl (c_X11_nearCosine h_i h_l) ?_
  rintro r w' ⟨rfl, rfl⟩
  refine ab_aload_n dX11_mostCosine_5 rfl ?_
  refine ab_iload_n dX11_mostCosine_6 rfl ?_
  refine ab_callV (As := [.int a1]) (rest := [.int (Mk_near q4 a1)]) dX11_mostCosine_7 mv_X11_cosineBy ml_X11_283 ⟨by decide, by decide, rfl, rfl, rfl⟩ (by decide) rfl rfl (Nat.le_of_ble_eq_true rfl) rfl (c_X11_cosineBy h_i h_l) ?_
  rintro r w' ⟨rfl, rfl⟩
  refine ab_icmple 21 dX11_mostCosine_10 (by decide) (fun h_1 => ?_) (fun h_1 => ?_)
  · refine ab_aload_n dX11_mostCosine_21 rfl ?_
    refine ab_iload_n dX11_mostCosine_22 rfl ?_
    refine ab_callV (As := [.int a1]) (rest := []) dX11_mostCosine_23 mv_X11_nearCosine ml_X11_286 ⟨by decide, by decide, rfl, rfl, rfl⟩ (by decide) rfl rfl (Nat.le_of_ble_eq_true rfl) rfl (c_X11_nearCosine h_i h_l) ?_
    rintro r w' ⟨rfl, rfl⟩
    exact ab_iret dX11_mostCosine_26 rfl (by decide) (⟨by rw [Mk_mc, if_pos (show (Mk_near q4 a1) ≤ (Mk_unit q4 a1) from h_1)], rfl⟩)
  · refine ab_aload_n dX11_mostCosine_13 rfl ?_
    refine ab_iload_n dX11_mostCosine_14 rfl ?_
    refine ab_callV (As := [.int a1]) (rest := []) dX11_mostCosine_15 mv_X11_cosineBy ml_X11_283 ⟨by decide, by decide, rfl, rfl, rfl⟩ (by decide) rfl rfl (Nat.le_of_ble_eq_true rfl) rfl (c_X11_cosineBy h_i h_l) ?_
    rintro r w' ⟨rfl, rfl⟩
    refine ab_goto 26 dX11_mostCosine_18 (by decide) ?_
    exact ab_iret dX11_mostCosine_26 rfl (by decide) (⟨by rw [Mk_mc, if_neg (show ¬ (Mk_near q4 a1) ≤ (Mk_unit q4 a1) from h_1)], rfl⟩)
theorem c_X11_hasCosines {wc : List ax_E} {m_thrown m_trouble m_fault m_where m_taped m_linkMany m_tracerMany m_pointMany m_pairMany m_readLinks m_readTracers m_readPoints m_readPairs m_textLong m_at m_spot m_token m_whole m_readFault m_readPlace m_value m_curveMany m_cornerMany m_straightAt m_walkLink m_walkAngle m_walkBranch m_walkMany m_lined m_actMany a1 : Int32} {m_n m_c m_d m_s m_e m_k m_x m_y m_g m_a m_fitUp m_fitDown m_worstUp m_worstDown : Int64} {z1 z2 z3 z5 z6 z7 z8 z9 z10 z11 z12 z13 z14 z15 z16 z17 z18 z19 z20 : ax_E} {q4 : Nat → Int32} (h_i : 0 ≤ a1 ∧ a1 < m_linkMany) (h_l : 0 ≤ m_linkMany ∧ m_linkMany ≤ nI 4) : Ct M_X11_hasCosines [.ref 1000, .int a1] (wc, [ob 9 [.int m_thrown, .int m_trouble, .int m_fault, .int m_where, .ref 1001, .ref 1002, .int 40, .ref 1003, .int m_taped, .int m_linkMany, .int m_tracerMany, .int m_pointMany, .int m_pairMany, .ref 1004, .ref 1005, .ref 1006, .ref 1007, .int m_readLinks, .int m_readTracers, .int m_readPoints, .int m_readPairs, .ref 1008, .ref 1009, .ref 1010, .ref 1011, .int m_textLong, .int m_at, .int m_spot, .int m_token, .int m_whole, .int m_readFault, .int m_readPlace, .int m_value, .long m_n, .long m_c, .long m_d, .long m_s, .long m_e, .long m_k, .long m_x, .long m_y, .long m_g, .long m_a, .ref 1012, .ref 1013, .ref 1014, .int m_curveMany, .ref 1015, .int m_cornerMany, .int m_straightAt, .ref 1016, .long m_fitUp, .long m_fitDown, .long m_worstUp, .long m_worstDown, .ref 1017, .int m_walkLink, .int m_walkAngle, .int m_walkBranch, .int m_walkMany, .ref 1018, .ref 1019, .int m_lined, .ref 1020, .int m_actMany], z1, z2, z3, ia 16 q4, z5, z6, z7, z8, z9, z10, z11, z12, z13, z14, z15, z16, z17, z18, z19, z20]) (fun r w' => ((Mk_lc q4 a1 ≤ Mk_mc q4 a1) ∧ r = some (.int 1) ∧ w' = (wc, [ob 9 [.int m_thrown, .int m_trouble, .int m_fault, .int m_where, .ref 1001, .ref 1002, .int 40, .ref 1003, .int m_taped, .int m_linkMany, .int m_tracerMany, .int m_pointMany, .int m_pairMany, .ref 1004, .ref 1005, .ref 1006, .ref 1007, .int m_readLinks, .int m_readTracers, .int m_readPoints, .int m_readPairs, .ref 1008, .ref 1009, .ref 1010, .ref 1011, .int m_textLong, .int m_at, .int m_spot, .int m_token, .int m_whole, .int m_readFault, .int m_readPlace, .int m_value, .long m_n, .long m_c, .long m_d, .long m_s, .long m_e, .long m_k, .long m_x, .long m_y, .long m_g, .long m_a, .ref 1012, .ref 1013, .ref 1014, .int m_curveMany, .ref 1015, .int m_cornerMany, .int m_straightAt, .ref 1016, .long m_fitUp, .long m_fitDown, .long m_worstUp, .long m_worstDown, .ref 1017, .int m_walkLink, .int m_walkAngle, .int m_walkBranch, .int m_walkMany, .ref 1018, .ref 1019, .int m_lined, .ref 1020, .int m_actMany], z1, z2, z3, ia 16 q4, z5, z6, z7, z8, z9, z10, z11, z12, z13, z14, z15, z16, z17, z18, z19, z20])) ∨ ((¬ (Mk_lc q4 a1 ≤ Mk_mc q4 a1)) ∧ r = some (.int 0) ∧ w' = (wc, [ob 9 [.int m_thrown, .int m_trouble, .int m_fault, .int m_where, .ref 1001, .ref 1002, .int 40, .ref 1003, .int m_taped, .int m_linkMany, .int m_tracerMany, .int m_pointMany, .int m_pairMany, .ref 1004, .ref 1005, .ref 1006, .ref 1007, .int m_readLinks, .int m_readTracers, .int m_readPoints, .int m_readPairs, .ref 1008, .ref 1009, .ref 1010, .ref 1011, .int m_textLong, .int m_at, .int m_spot, .int m_token, .int m_whole, .int m_readFault, .int m_readPlace, .int m_value, .long m_n, .long m_c, .long m_d, .long m_s, .long m_e, .long m_k, .long m_x, .long m_y, .long m_g, .long m_a, .ref 1012, .ref 1013, .ref 1014, .int m_curveMany, .ref 1015, .int m_cornerMany, .int m_straightAt, .ref 1016, .long m_fitUp, .long m_fitDown, .long m_worstUp, .long m_worstDown, .ref 1017, .int m_walkLink, .int m_walkAngle, .int m_walkBranch, .int m_walkMany, .ref 1018, .ref 1019, .int m_lined, .ref 1020, .int m_actMany], z1, z2, z3, ia 16 q4, z5, z6, z7, z8, z9, z10, z11, z12, z13, z14, z15, z16, z17, z18, z19, z20]))) := by
  refine ct_of ⟨by decide, rfl⟩ (Nat.le_of_ble_eq_true rfl) ?_
  refine ab_aload_n dX11_hasCosines_0 rfl ?_
  refine ab_iload_n dX11_hasCosines_1 rfl ?_
  refine ab_callV (As := [.int a1]) (rest := []) dX11_hasCosines_2 mv_X11_leastCosine ml_X11_289 ⟨by decide, by decide, rfl, rfl, rfl⟩ (by decide) rfl rfl (Nat.le_of_ble_eq_true rfl) rfl (c_X11_leastCosine h_i h_l) ?_
  rintro r w' ⟨rfl, rfl⟩
  refine ab_aload_n dX11_hasCosines_5 rfl ?_
  refine ab_iload_n dX11_hasCosines_6 rfl ?_
  refine ab_callV (As := [.int a1]) (rest := [.int (Mk_lc q4 a1)]) dX11_hasCosines_7 mv_X11_mostCosine ml_X11_292 ⟨by decide, by decide, rfl, rfl, rfl⟩ (by decide) rfl rfl (Nat.le_of_ble_eq_true rfl) rfl (c_X11_mostCosine h_i h_l) ?_
  rintro r w' ⟨rfl, rfl⟩
  refine ab_icmpgt 17 dX11_hasCosines_10 (by decide) (fun h_1 => ?_) (fun h_1 => ?_)
  · refine ab_iconst (v := 0) dX11_hasCosines_17 (by decide) ?_
    exact ab_zret dX11_hasCosines_18 rfl rfl (by decide) (Or.inr (⟨(by grind), rfl, rfl⟩))
  · refine ab_iconst (v := 1) dX11_hasCosines_13 (by decide) ?_
    refine ab_goto 18 dX11_hasCosines_14 (by decide) ?_
    exact ab_zret dX11_hasCosines_18 rfl rfl (by decide) (Or.inl (⟨(by grind), rfl, rfl⟩))
theorem c_X11_isEnd {wc : List ax_E} {m_thrown m_trouble m_fault m_where m_taped m_linkMany m_tracerMany m_pointMany m_pairMany m_readLinks m_readTracers m_readPoints m_readPairs m_textLong m_at m_spot m_token m_whole m_readFault m_readPlace m_value m_curveMany m_cornerMany m_straightAt m_walkLink m_walkAngle m_walkBranch m_walkMany m_lined m_actMany a1 a2 : Int32} {m_n m_c m_d m_s m_e m_k m_x m_y m_g m_a m_fitUp m_fitDown m_worstUp m_worstDown : Int64} {z1 z2 z3 z5 z6 z7 z8 z9 z10 z11 z12 z13 z14 z15 z16 z17 z18 z19 z20 : ax_E} {q4 : Nat → Int32} (h_i : 0 ≤ a1 ∧ a1 < m_linkMany) (h_l : 0 ≤ m_linkMany ∧ m_linkMany ≤ nI 4) : Ct M_X11_isEnd [.ref 1000, .int a1, .int a2] (wc, [ob 9 [.int m_thrown, .int m_trouble, .int m_fault, .int m_where, .ref 1001, .ref 1002, .int 40, .ref 1003, .int m_taped, .int m_linkMany, .int m_tracerMany, .int m_pointMany, .int m_pairMany, .ref 1004, .ref 1005, .ref 1006, .ref 1007, .int m_readLinks, .int m_readTracers, .int m_readPoints, .int m_readPairs, .ref 1008, .ref 1009, .ref 1010, .ref 1011, .int m_textLong, .int m_at, .int m_spot, .int m_token, .int m_whole, .int m_readFault, .int m_readPlace, .int m_value, .long m_n, .long m_c, .long m_d, .long m_s, .long m_e, .long m_k, .long m_x, .long m_y, .long m_g, .long m_a, .ref 1012, .ref 1013, .ref 1014, .int m_curveMany, .ref 1015, .int m_cornerMany, .int m_straightAt, .ref 1016, .long m_fitUp, .long m_fitDown, .long m_worstUp, .long m_worstDown, .ref 1017, .int m_walkLink, .int m_walkAngle, .int m_walkBranch, .int m_walkMany, .ref 1018, .ref 1019, .int m_lined, .ref 1020, .int m_actMany], z1, z2, z3, ia 16 q4, z5, z6, z7, z8, z9, z10, z11, z12, z13, z14, z15, z16, z17, z18, z19, z20]) (fun r w' => ((Ab64 (Int32.toInt64 a2) ≤ Int32.toInt64 (Mk_unit q4 a1)) ∧ r = some (.int 1) ∧ w' = (wc, [ob 9 [.int m_thrown, .int m_trouble, .int m_fault, .int m_where, .ref 1001, .ref 1002, .int 40, .ref 1003, .int m_taped, .int m_linkMany, .int m_tracerMany, .int m_pointMany, .int m_pairMany, .ref 1004, .ref 1005, .ref 1006, .ref 1007, .int m_readLinks, .int m_readTracers, .int m_readPoints, .int m_readPairs, .ref 1008, .ref 1009, .ref 1010, .ref 1011, .int m_textLong, .int m_at, .int m_spot, .int m_token, .int m_whole, .int m_readFault, .int m_readPlace, .int m_value, .long m_n, .long m_c, .long m_d, .long m_s, .long m_e, .long m_k, .long m_x, .long m_y, .long m_g, .long m_a, .ref 1012, .ref 1013, .ref 1014, .int m_curveMany, .ref 1015, .int m_cornerMany, .int m_straightAt, .ref 1016, .long m_fitUp, .long m_fitDown, .long m_worstUp, .long m_worstDown, .ref 1017, .int m_walkLink, .int m_walkAngle, .int m_walkBranch, .int m_walkMany, .ref 1018, .ref 1019, .int m_lined, .ref 1020, .int m_actMany], z1, z2, z3, ia 16 q4, z5, z6, z7, z8, z9, z10, z11, z12, z13, z14, z15, z16, z17, z18, z19, z20])) ∨ ((¬ (Ab64 (Int32.toInt64 a2) ≤ Int32.toInt64 (Mk_unit q4 a1))) ∧ r = some (.int 0) ∧ w' = (wc, [ob 9 [.int m_thrown, .int m_trouble, .int m_fault, .int m_where, .ref 1001, .ref 1002, .int 40, .ref 1003, .int m_taped, .int m_linkMany, .int m_tracerMany, .int m_pointMany, .int m_pairMany, .ref 1004, .ref 1005, .ref 1006, .ref 1007, .int m_readLinks, .int m_readTracers, .int m_readPoints, .int m_readPairs, .ref 1008, .ref 1009, .ref 1010, .ref 1011, .int m_textLong, .int m_at, .int m_spot, .int m_token, .int m_whole, .int m_readFault, .int m_readPlace, .int m_value, .long m_n, .long m_c, .long m_d, .long m_s, .long m_e, .long m_k, .long m_x, .long m_y, .long m_g, .long m_a, .ref 1012, .ref 1013, .ref 1014, .int m_curveMany, .ref 1015, .int m_cornerMany, .int m_straightAt, .ref 1016, .long m_fitUp, .long m_fitDown, .long m_worstUp, .long m_worstDown, .ref 1017, .int m_walkLink, .int m_walkAngle, .int m_walkBranch, .int m_walkMany, .ref 1018, .ref 1019, .int m_lined, .ref 1020, .int m_actMany], z1, z2, z3, ia 16 q4, z5, z6, z7, z8, z9, z10, z11, z12, z13, z14, z15, z16, z17, z18, z19, z20]))) := by
  refine ct_of ⟨by decide, rfl⟩ (Nat.le_of_ble_eq_true rfl) ?_
  refine ab_iload_n dX11_isEnd_0 rfl ?_
  refine ab_i2l dX11_isEnd_1 ?_
  refine ab_callS (As := [.long (Int32.toInt64 a2)]) (rest := []) dX11_isEnd_2 ms_X11_plain ml_X11_7 ⟨by decide, by decide, rfl, rfl, rfl⟩ (by decide) rfl rfl (Nat.le_of_ble_eq_true rfl) c_X11_plain_t ?_
  rintro r w' ⟨rfl, rfl⟩
  refine ab_aload_n dX11_isEnd_5 rfl ?_
  refine ab_iload_n dX11_isEnd_6 rfl ?_
  refine ab_callV (As := [.int a1]) (rest := [.long (Ab64 (Int32.toInt64 a2))]) dX11_isEnd_7 mv_X11_cosineBy ml_X11_283 ⟨by decide, by decide, rfl, rfl, rfl⟩ (by decide) rfl rfl (Nat.le_of_ble_eq_true rfl) rfl (c_X11_cosineBy h_i h_l) ?_
  rintro r w' ⟨rfl, rfl⟩
  refine ab_i2l dX11_isEnd_10 ?_
  refine ab_lcmpgt 19 dX11_isEnd_11 dX11_isEnd_12 (by decide) (fun h_1 => ?_) (fun h_1 => ?_)
  · refine ab_iconst (v := 0) dX11_isEnd_19 (by decide) ?_
    exact ab_zret dX11_isEnd_20 rfl rfl (by decide) (Or.inr (⟨(by grind), rfl, rfl⟩))
  · refine ab_iconst (v := 1) dX11_isEnd_15 (by decide) ?_
    refine ab_goto 20 dX11_isEnd_16 (by decide) ?_
    exact ab_zret dX11_isEnd_20 rfl rfl (by decide) (Or.inl (⟨(by grind), rfl, rfl⟩))
def Mk_ends (q4 : Nat → Int32) (a1 : Int32) : Int32 := (if Ab64 (Int32.toInt64 (Mk_far q4 a1)) ≤ Int32.toInt64 (Mk_unit q4 a1) then (if Ab64 (Int32.toInt64 (Mk_near q4 a1)) ≤ Int32.toInt64 (Mk_unit q4 a1) then 2 else 1) else (if Ab64 (Int32.toInt64 (Mk_near q4 a1)) ≤ Int32.toInt64 (Mk_unit q4 a1) then 1 else 0))
theorem c_X11_endsOf {wc : List ax_E} {m_thrown m_trouble m_fault m_where m_taped m_linkMany m_tracerMany m_pointMany m_pairMany m_readLinks m_readTracers m_readPoints m_readPairs m_textLong m_at m_spot m_token m_whole m_readFault m_readPlace m_value m_curveMany m_cornerMany m_straightAt m_walkLink m_walkAngle m_walkBranch m_walkMany m_lined m_actMany a1 : Int32} {m_n m_c m_d m_s m_e m_k m_x m_y m_g m_a m_fitUp m_fitDown m_worstUp m_worstDown : Int64} {z1 z2 z3 z5 z6 z7 z8 z9 z10 z11 z12 z13 z14 z15 z16 z17 z18 z19 z20 : ax_E} {q4 : Nat → Int32} (h_i : 0 ≤ a1 ∧ a1 < m_linkMany) (h_l : 0 ≤ m_linkMany ∧ m_linkMany ≤ nI 4) : Ct M_X11_endsOf [.ref 1000, .int a1] (wc, [ob 9 [.int m_thrown, .int m_trouble, .int m_fault, .int m_where, .ref 1001, .ref 1002, .int 40, .ref 1003, .int m_taped, .int m_linkMany, .int m_tracerMany, .int m_pointMany, .int m_pairMany, .ref 1004, .ref 1005, .ref 1006, .ref 1007, .int m_readLinks, .int m_readTracers, .int m_readPoints, .int m_readPairs, .ref 1008, .ref 1009, .ref 1010, .ref 1011, .int m_textLong, .int m_at, .int m_spot, .int m_token, .int m_whole, .int m_readFault, .int m_readPlace, .int m_value, .long m_n, .long m_c, .long m_d, .long m_s, .long m_e, .long m_k, .long m_x, .long m_y, .long m_g, .long m_a, .ref 1012, .ref 1013, .ref 1014, .int m_curveMany, .ref 1015, .int m_cornerMany, .int m_straightAt, .ref 1016, .long m_fitUp, .long m_fitDown, .long m_worstUp, .long m_worstDown, .ref 1017, .int m_walkLink, .int m_walkAngle, .int m_walkBranch, .int m_walkMany, .ref 1018, .ref 1019, .int m_lined, .ref 1020, .int m_actMany], z1, z2, z3, ia 16 q4, z5, z6, z7, z8, z9, z10, z11, z12, z13, z14, z15, z16, z17, z18, z19, z20]) (fun r w' => r = some (.int (Mk_ends q4 a1)) ∧ w' = (wc, [ob 9 [.int m_thrown, .int m_trouble, .int m_fault, .int m_where, .ref 1001, .ref 1002, .int 40, .ref 1003, .int m_taped, .int m_linkMany, .int m_tracerMany, .int m_pointMany, .int m_pairMany, .ref 1004, .ref 1005, .ref 1006, .ref 1007, .int m_readLinks, .int m_readTracers, .int m_readPoints, .int m_readPairs, .ref 1008, .ref 1009, .ref 1010, .ref 1011, .int m_textLong, .int m_at, .int m_spot, .int m_token, .int m_whole, .int m_readFault, .int m_readPlace, .int m_value, .long m_n, .long m_c, .long m_d, .long m_s, .long m_e, .long m_k, .long m_x, .long m_y, .long m_g, .long m_a, .ref 1012, .ref 1013, .ref 1014, .int m_curveMany, .ref 1015, .int m_cornerMany, .int m_straightAt, .ref 1016, .long m_fitUp, .long m_fitDown, .long m_worstUp, .long m_worstDown, .ref 1017, .int m_walkLink, .int m_walkAngle, .int m_walkBranch, .int m_walkMany, .ref 1018, .ref 1019, .int m_lined, .ref 1020, .int m_actMany], z1, z2, z3, ia 16 q4, z5, z6, z7, z8, z9, z10, z11, z12, z13, z14, z15, z16, z17, z18, z19, z20])) := by
  refine ct_of ⟨by decide, rfl⟩ (Nat.le_of_ble_eq_true rfl) ?_
  refine ab_aload_n dX11_endsOf_0 rfl ?_
  refine ab_iload_n dX11_endsOf_1 rfl ?_
  refine ab_aload_n dX11_endsOf_2 rfl ?_
  refine ab_iload_n dX11_endsOf_3 rfl ?_
  refine ab_callV (As := [.int a1]) (rest := [.int a1, .ref 1000]) dX11_endsOf_4 mv_X11_farCosine ml_X11_280 ⟨by decide, by decide, rfl, rfl, rfl⟩ (by decide) rfl rfl (Nat.le_of_ble_eq_true rfl) rfl (c_X11_farCosine h_i h_l) ?_
  rintro r w' ⟨rfl, rfl⟩
  refine ab_callV (As := [.int a1, .int (Mk_far q4 a1)]) (rest := []) dX11_endsOf_7 mv_X11_isEnd ml_X11_295 ⟨by decide, by decide, rfl, rfl, rfl⟩ (by decide) rfl rfl (Nat.le_of_ble_eq_true rfl) rfl (c_X11_isEnd h_i h_l) ?_
  rintro r w' (⟨c_1, rfl, rfl⟩ | ⟨c_2, rfl, rfl⟩)
  · refine ab_ifeq 17 dX11_endsOf_10 (by decide) (fun h_3 => absurd h_3 (by decide)) (fun h_3 => ?_)
    refine ab_iconst (v := 1) dX11_endsOf_13 (by decide) ?_
    refine ab_goto 18 dX11_endsOf_14 (by decide) ?_
    refine ab_aload_n dX11_endsOf_18 rfl ?_
    refine ab_iload_n dX11_endsOf_19 rfl ?_
    refine ab_aload_n dX11_endsOf_20 rfl ?_
    refine ab_iload_n dX11_endsOf_21 rfl ?_
    refine ab_callV (As := [.int a1]) (rest := [.int a1, .ref 1000, .int 1]) dX11_endsOf_22 mv_X11_nearCosine ml_X11_286 ⟨by decide, by decide, rfl, rfl, rfl⟩ (by decide) rfl rfl (Nat.le_of_ble_eq_true rfl) rfl (c_X11_nearCosine h_i h_l) ?_
    rintro r w' ⟨rfl, rfl⟩
    refine ab_callV (As := [.int a1, .int (Mk_near q4 a1)]) (rest := [.int 1]) dX11_endsOf_25 mv_X11_isEnd ml_X11_295 ⟨by decide, by decide, rfl, rfl, rfl⟩ (by decide) rfl rfl (Nat.le_of_ble_eq_true rfl) rfl (c_X11_isEnd h_i h_l) ?_
    rintro r w' (⟨c_4, rfl, rfl⟩ | ⟨c_5, rfl, rfl⟩)
    · refine ab_ifeq 35 dX11_endsOf_28 (by decide) (fun h_6 => absurd h_6 (by decide)) (fun h_6 => ?_)
      refine ab_iconst (v := 1) dX11_endsOf_31 (by decide) ?_
      refine ab_goto 36 dX11_endsOf_32 (by decide) ?_
      refine ab_iadd dX11_endsOf_36 ?_
      refine ab_topi (v := 2) (by decide) ?_
      exact ab_iret dX11_endsOf_37 rfl (by decide) (⟨by rw [Mk_ends, if_pos (show Ab64 (Int32.toInt64 (Mk_far q4 a1)) ≤ Int32.toInt64 (Mk_unit q4 a1) from c_1), if_pos (show Ab64 (Int32.toInt64 (Mk_near q4 a1)) ≤ Int32.toInt64 (Mk_unit q4 a1) from c_4)], rfl⟩)
    · refine ab_ifeq 35 dX11_endsOf_28 (by decide) (fun h_7 => ?_) (fun h_7 => absurd (by decide) h_7)
      refine ab_iconst (v := 0) dX11_endsOf_35 (by decide) ?_
      refine ab_iadd dX11_endsOf_36 ?_
      refine ab_topi (v := 1) (by decide) ?_
      exact ab_iret dX11_endsOf_37 rfl (by decide) (⟨by rw [Mk_ends, if_pos (show Ab64 (Int32.toInt64 (Mk_far q4 a1)) ≤ Int32.toInt64 (Mk_unit q4 a1) from c_1), if_neg (show ¬ (Ab64 (Int32.toInt64 (Mk_near q4 a1)) ≤ Int32.toInt64 (Mk_unit q4 a1)) from c_5)], rfl⟩)
  · refine ab_ifeq 17 dX11_endsOf_10 (by decide) (fun h_8 => ?_) (fun h_8 => absurd (by decide) h_8)
    refine ab_iconst (v := 0) dX11_endsOf_17 (by decide) ?_
    refine ab_aload_n dX11_endsOf_18 rfl ?_
    refine ab_iload_n dX11_endsOf_19 rfl ?_
    refine ab_aload_n dX11_endsOf_20 rfl ?_
    refine ab_iload_n dX11_endsOf_21 rfl ?_
    refine ab_callV (As := [.int a1]) (rest := [.int a1, .ref 1000, .int 0]) dX11_endsOf_22 mv_X11_nearCosine ml_X11_286 ⟨by decide, by decide, rfl, rfl, rfl⟩ (by decide) rfl rfl (Nat.le_of_ble_eq_true rfl) rfl (c_X11_nearCosine h_i h_l) ?_
    rintro r w' ⟨rfl, rfl⟩
    refine ab_callV (As := [.int a1, .int (Mk_near q4 a1)]) (rest := [.int 0]) dX11_endsOf_25 mv_X11_isEnd ml_X11_295 ⟨by decide, by decide, rfl, rfl, rfl⟩ (by decide) rfl rfl (Nat.le_of_ble_eq_true rfl) rfl (c_X11_isEnd h_i h_l) ?_
    rintro r w' (⟨c_9, rfl, rfl⟩ | ⟨c_10, rfl, rfl⟩)
    · refine ab_ifeq 35 dX11_endsOf_28 (by decide) (fun h_11 => absurd h_11 (by decide)) (fun h_11 => ?_)
      refine ab_iconst (v := 1) dX11_endsOf_31 (by decide) ?_
      refine ab_goto 36 dX11_endsOf_32 (by decide) ?_
      refine ab_iadd dX11_endsOf_36 ?_
      refine ab_topi (v := 1) (by decide) ?_
      exact ab_iret dX11_endsOf_37 rfl (by decide) (⟨by rw [Mk_ends, if_neg (show ¬ (Ab64 (Int32.toInt64 (Mk_far q4 a1)) ≤ Int32.toInt64 (Mk_unit q4 a1)) from c_2), if_pos (show Ab64 (Int32.toInt64 (Mk_near q4 a1)) ≤ Int32.toInt64 (Mk_unit q4 a1) from c_9)], rfl⟩)
    · refine ab_ifeq 35 dX11_endsOf_28 (by decide) (fun h_12 => ?_) (fun h_12 => absurd (by decide) h_12)
      refine ab_iconst (v := 0) dX11_endsOf_35 (by decide) ?_
      refine ab_iadd dX11_endsOf_36 ?_
      refine ab_topi (v := 0) (by decide) ?_
      exact ab_iret dX11_endsOf_37 rfl (by decide) (⟨by rw [Mk_ends, if_neg (show ¬ (Ab64 (Int32.toInt64 (Mk_far q4 a1)) ≤ Int32.toInt64 (Mk_unit q4 a1)) from c_2), if_neg (show ¬ (Ab64 (Int32.toInt64 (Mk_near q4 a1)) ≤ Int32.toInt64 (Mk_unit q4 a1)) from c_10)], rfl⟩)
def Mk_arcs (q4 : Nat → Int32) (a1 : Int32) : Int32 := (if Mk_lc q4 a1 ≤ Mk_mc q4 a1 then (if (Mk_lc q4 a1) = (-(Mk_unit q4 a1)) then 1 else (if (Mk_mc q4 a1) = (Mk_unit q4 a1) then 1 else 2)) else 0)
theorem c_X11_arcsOf {wc : List ax_E} {m_thrown m_trouble m_fault m_where m_taped m_linkMany m_tracerMany m_pointMany m_pairMany m_readLinks m_readTracers m_readPoints m_readPairs m_textLong m_at m_spot m_token m_whole m_readFault m_readPlace m_value m_curveMany m_cornerMany m_straightAt m_walkLink m_walkAngle m_walkBranch m_walkMany m_lined m_actMany a1 : Int32} {m_n m_c m_d m_s m_e m_k m_x m_y m_g m_a m_fitUp m_fitDown m_worstUp m_worstDown : Int64} {z1 z2 z3 z5 z6 z7 z8 z9 z10 z11 z12 z13 z14 z15 z16 z17 z18 z19 z20 : ax_E} {q4 : Nat → Int32} (h_i : 0 ≤ a1 ∧ a1 < m_linkMany) (h_l : 0 ≤ m_linkMany ∧ m_linkMany ≤ nI 4) : Ct M_X11_arcsOf [.ref 1000, .int a1] (wc, [ob 9 [.int m_thrown, .int m_trouble, .int m_fault, .int m_where, .ref 1001, .ref 1002, .int 40, .ref 1003, .int m_taped, .int m_linkMany, .int m_tracerMany, .int m_pointMany, .int m_pairMany, .ref 1004, .ref 1005, .ref 1006, .ref 1007, .int m_readLinks, .int m_readTracers, .int m_readPoints, .int m_readPairs, .ref 1008, .ref 1009, .ref 1010, .ref 1011, .int m_textLong, .int m_at, .int m_spot, .int m_token, .int m_whole, .int m_readFault, .int m_readPlace, .int m_value, .long m_n, .long m_c, .long m_d, .long m_s, .long m_e, .long m_k, .long m_x, .long m_y, .long m_g, .long m_a, .ref 1012, .ref 1013, .ref 1014, .int m_curveMany, .ref 1015, .int m_cornerMany, .int m_straightAt, .ref 1016, .long m_fitUp, .long m_fitDown, .long m_worstUp, .long m_worstDown, .ref 1017, .int m_walkLink, .int m_walkAngle, .int m_walkBranch, .int m_walkMany, .ref 1018, .ref 1019, .int m_lined, .ref 1020, .int m_actMany], z1, z2, z3, ia 16 q4, z5, z6, z7, z8, z9, z10, z11, z12, z13, z14, z15, z16, z17, z18, z19, z20]) (fun r w' => r = some (.int (Mk_arcs q4 a1)) ∧ w' = (wc, [ob 9 [.int m_thrown, .int m_trouble, .int m_fault, .int m_where, .ref 1001, .ref 1002, .int 40, .ref 1003, .int m_taped, .int m_linkMany, .int m_tracerMany, .int m_pointMany, .int m_pairMany, .ref 1004, .ref 1005, .ref 1006, .ref 1007, .int m_readLinks, .int m_readTracers, .int m_readPoints, .int m_readPairs, .ref 1008, .ref 1009, .ref 1010, .ref 1011, .int m_textLong, .int m_at, .int m_spot, .int m_token, .int m_whole, .int m_readFault, .int m_readPlace, .int m_value, .long m_n, .long m_c, .long m_d, .long m_s, .long m_e, .long m_k, .long m_x, .long m_y, .long m_g, .long m_a, .ref 1012, .ref 1013, .ref 1014, .int m_curveMany, .ref 1015, .int m_cornerMany, .int m_straightAt, .ref 1016, .long m_fitUp, .long m_fitDown, .long m_worstUp, .long m_worstDown, .ref 1017, .int m_walkLink, .int m_walkAngle, .int m_walkBranch, .int m_walkMany, .ref 1018, .ref 1019, .int m_lined, .ref 1020, .int m_actMany], z1, z2, z3, ia 16 q4, z5, z6, z7, z8, z9, z10, z11, z12, z13, z14, z15, z16, z17, z18, z19, z20])) := by
  refine ct_of ⟨by decide, rfl⟩ (Nat.le_of_ble_eq_true rfl) ?_
  refine ab_aload_n dX11_arcsOf_0 rfl ?_
  refine ab_iload_n dX11_arcsOf_1 rfl ?_
  refine ab_callV (As := [.int a1]) (rest := []) dX11_arcsOf_2 mv_X11_hasCosines ml_X11_298 ⟨by decide, by decide, rfl, rfl, rfl⟩ (by decide) rfl rfl (Nat.le_of_ble_eq_true rfl) rfl (c_X11_hasCosines h_i h_l) ?_
  rintro r w' (⟨c_1, rfl, rfl⟩ | ⟨c_2, rfl, rfl⟩)
  · refine ab_ifne 10 dX11_arcsOf_5 (by decide) (fun h_3 => ?_) (fun h_3 => absurd h_3 (by decide))
    refine ab_aload_n dX11_arcsOf_10 rfl ?_
    refine ab_iload_n dX11_arcsOf_11 rfl ?_
    refine ab_callV (As := [.int a1]) (rest := []) dX11_arcsOf_12 mv_X11_leastCosine ml_X11_289 ⟨by decide, by decide, rfl, rfl, rfl⟩ (by decide) rfl rfl (Nat.le_of_ble_eq_true rfl) rfl (c_X11_leastCosine h_i h_l) ?_
    rintro r w' ⟨rfl, rfl⟩
    refine ab_aload_n dX11_arcsOf_15 rfl ?_
    refine ab_iload_n dX11_arcsOf_16 rfl ?_
    refine ab_callV (As := [.int a1]) (rest := [.int (Mk_lc q4 a1)]) dX11_arcsOf_17 mv_X11_cosineBy ml_X11_283 ⟨by decide, by decide, rfl, rfl, rfl⟩ (by decide) rfl rfl (Nat.le_of_ble_eq_true rfl) rfl (c_X11_cosineBy h_i h_l) ?_
    rintro r w' ⟨rfl, rfl⟩
    refine ab_ineg dX11_arcsOf_20 ?_
    refine ab_icmpeq 37 dX11_arcsOf_21 (by decide) (fun h_4 => ?_) (fun h_4 => ?_)
    · refine ab_iconst (v := 1) dX11_arcsOf_37 (by decide) ?_
      refine ab_goto 42 dX11_arcsOf_38 (by decide) ?_
      exact ab_iret dX11_arcsOf_42 rfl (by decide) (⟨by rw [Mk_arcs, if_pos (show Mk_lc q4 a1 ≤ Mk_mc q4 a1 from c_1), if_pos (show (Mk_lc q4 a1) = (-(Mk_unit q4 a1)) from h_4)], rfl⟩)
    · refine ab_aload_n dX11_arcsOf_24 rfl ?_
      refine ab_iload_n dX11_arcsOf_25 rfl ?_
      refine ab_callV (As := [.int a1]) (rest := []) dX11_arcsOf_26 mv_X11_mostCosine ml_X11_292 ⟨by decide, by decide, rfl, rfl, rfl⟩ (by decide) rfl rfl (Nat.le_of_ble_eq_true rfl) rfl (c_X11_mostCosine h_i h_l) ?_
      rintro r w' ⟨rfl, rfl⟩
      refine ab_aload_n dX11_arcsOf_29 rfl ?_
      refine ab_iload_n dX11_arcsOf_30 rfl ?_
      refine ab_callV (As := [.int a1]) (rest := [.int (Mk_mc q4 a1)]) dX11_arcsOf_31 mv_X11_cosineBy ml_X11_283 ⟨by decide, by decide, rfl, rfl, rfl⟩ (by decide) rfl rfl (Nat.le_of_ble_eq_true rfl) rfl (c_X11_cosineBy h_i h_l) ?_
      rintro r w' ⟨rfl, rfl⟩
      refine ab_icmpne 41 dX11_arcsOf_34 (by decide) (fun h_5 => ?_) (fun h_5 => ?_)
      · refine ab_iconst (v := 2) dX11_arcsOf_41 (by decide) ?_
        exact ab_iret dX11_arcsOf_42 rfl (by decide) (⟨by rw [Mk_arcs, if_pos (show Mk_lc q4 a1 ≤ Mk_mc q4 a1 from c_1), if_neg (show ¬ (Mk_lc q4 a1) = (-(Mk_unit q4 a1)) from h_4), if_neg (show ¬ (Mk_mc q4 a1) = (Mk_unit q4 a1) from h_5)], rfl⟩)
      · refine ab_iconst (v := 1) dX11_arcsOf_37 (by decide) ?_
        refine ab_goto 42 dX11_arcsOf_38 (by decide) ?_
        exact ab_iret dX11_arcsOf_42 rfl (by decide) (⟨by rw [Mk_arcs, if_pos (show Mk_lc q4 a1 ≤ Mk_mc q4 a1 from c_1), if_neg (show ¬ (Mk_lc q4 a1) = (-(Mk_unit q4 a1)) from h_4), if_pos (show (Mk_mc q4 a1) = (Mk_unit q4 a1) from h_5)], rfl⟩)
  · refine ab_ifne 10 dX11_arcsOf_5 (by decide) (fun h_6 => absurd (by decide) h_6) (fun h_6 => ?_)
    refine ab_iconst (v := 0) dX11_arcsOf_8 (by decide) ?_
    exact ab_iret dX11_arcsOf_9 rfl (by decide) (⟨by rw [Mk_arcs, if_neg (show ¬ (Mk_lc q4 a1 ≤ Mk_mc q4 a1) from c_2)], rfl⟩)
abbrev MTF (o w s t : Int32) : Prop := Ab64 (Int32.toInt64 (s - t)) ≤ Ab64 (Int32.toInt64 (o - w)) ∧ o + w ≤ s + t
abbrev Mk_rnd (q : Nat → Int32) (l j : Int32) : Prop := (j = 0 ∧ MTF (Bg q l) (Ba q l) (Bb q l) (Bc q l)) ∨ (j = 1 ∧ MTF (Ba q l) (Bb q l) (Bc q l) (Bg q l)) ∨ (j = 2 ∧ MTF (Bb q l) (Bc q l) (Bg q l) (Ba q l)) ∨ (j = 3 ∧ MTF (Bc q l) (Bg q l) (Ba q l) (Bb q l))
theorem mk_rnd_not0 {q : Nat → Int32} {l : Int32} (h : ¬ MTF (Bg q l) (Ba q l) (Bb q l) (Bc q l)) : ¬ (Mk_rnd q l 0) := by
  rintro (⟨z, y⟩ | ⟨z, y⟩ | ⟨z, y⟩ | ⟨z, y⟩)
  all_goals first | exact h y | exact absurd z (by decide)
theorem mk_rnd_not1 {q : Nat → Int32} {l : Int32} (h : ¬ MTF (Ba q l) (Bb q l) (Bc q l) (Bg q l)) : ¬ (Mk_rnd q l 1) := by
  rintro (⟨z, y⟩ | ⟨z, y⟩ | ⟨z, y⟩ | ⟨z, y⟩)
  all_goals first | exact h y | exact absurd z (by decide)
theorem mk_rnd_not2 {q : Nat → Int32} {l : Int32} (h : ¬ MTF (Bb q l) (Bc q l) (Bg q l) (Ba q l)) : ¬ (Mk_rnd q l 2) := by
  rintro (⟨z, y⟩ | ⟨z, y⟩ | ⟨z, y⟩ | ⟨z, y⟩)
  all_goals first | exact h y | exact absurd z (by decide)
theorem mk_rnd_not3 {q : Nat → Int32} {l : Int32} (h : ¬ MTF (Bc q l) (Bg q l) (Ba q l) (Bb q l)) : ¬ (Mk_rnd q l 3) := by
  rintro (⟨z, y⟩ | ⟨z, y⟩ | ⟨z, y⟩ | ⟨z, y⟩)
  all_goals first | exact h y | exact absurd z (by decide)
theorem c_X11_goesRound {wc : List ax_E} {m_thrown m_trouble m_fault m_where m_taped m_linkMany m_tracerMany m_pointMany m_pairMany m_readLinks m_readTracers m_readPoints m_readPairs m_textLong m_at m_spot m_token m_whole m_readFault m_readPlace m_value m_curveMany m_cornerMany m_straightAt m_walkLink m_walkAngle m_walkBranch m_walkMany m_lined m_actMany a1 a2 : Int32} {m_n m_c m_d m_s m_e m_k m_x m_y m_g m_a m_fitUp m_fitDown m_worstUp m_worstDown : Int64} {z1 z2 z3 z5 z6 z7 z8 z9 z10 z11 z12 z13 z14 z15 z16 z17 z18 z19 z20 : ax_E} {q4 : Nat → Int32} (h_i : 0 ≤ a1 ∧ a1 < m_linkMany) (h_l : 0 ≤ m_linkMany ∧ m_linkMany ≤ nI 4) (h_w : 0 ≤ a2 ∧ a2 < 4) : Ct M_X11_goesRound [.ref 1000, .int a1, .int a2] (wc, [ob 9 [.int m_thrown, .int m_trouble, .int m_fault, .int m_where, .ref 1001, .ref 1002, .int 40, .ref 1003, .int m_taped, .int m_linkMany, .int m_tracerMany, .int m_pointMany, .int m_pairMany, .ref 1004, .ref 1005, .ref 1006, .ref 1007, .int m_readLinks, .int m_readTracers, .int m_readPoints, .int m_readPairs, .ref 1008, .ref 1009, .ref 1010, .ref 1011, .int m_textLong, .int m_at, .int m_spot, .int m_token, .int m_whole, .int m_readFault, .int m_readPlace, .int m_value, .long m_n, .long m_c, .long m_d, .long m_s, .long m_e, .long m_k, .long m_x, .long m_y, .long m_g, .long m_a, .ref 1012, .ref 1013, .ref 1014, .int m_curveMany, .ref 1015, .int m_cornerMany, .int m_straightAt, .ref 1016, .long m_fitUp, .long m_fitDown, .long m_worstUp, .long m_worstDown, .ref 1017, .int m_walkLink, .int m_walkAngle, .int m_walkBranch, .int m_walkMany, .ref 1018, .ref 1019, .int m_lined, .ref 1020, .int m_actMany], z1, z2, z3, ia 16 q4, z5, z6, z7, z8, z9, z10, z11, z12, z13, z14, z15, z16, z17, z18, z19, z20]) (fun r w' => ((Mk_rnd q4 a1 a2) ∧ r = some (.int 1) ∧ w' = (wc, [ob 9 [.int m_thrown, .int m_trouble, .int m_fault, .int m_where, .ref 1001, .ref 1002, .int 40, .ref 1003, .int m_taped, .int m_linkMany, .int m_tracerMany, .int m_pointMany, .int m_pairMany, .ref 1004, .ref 1005, .ref 1006, .ref 1007, .int m_readLinks, .int m_readTracers, .int m_readPoints, .int m_readPairs, .ref 1008, .ref 1009, .ref 1010, .ref 1011, .int m_textLong, .int m_at, .int m_spot, .int m_token, .int m_whole, .int m_readFault, .int m_readPlace, .int m_value, .long m_n, .long m_c, .long m_d, .long m_s, .long m_e, .long m_k, .long m_x, .long m_y, .long m_g, .long m_a, .ref 1012, .ref 1013, .ref 1014, .int m_curveMany, .ref 1015, .int m_cornerMany, .int m_straightAt, .ref 1016, .long m_fitUp, .long m_fitDown, .long m_worstUp, .long m_worstDown, .ref 1017, .int m_walkLink, .int m_walkAngle, .int m_walkBranch, .int m_walkMany, .ref 1018, .ref 1019, .int m_lined, .ref 1020, .int m_actMany], z1, z2, z3, ia 16 q4, z5, z6, z7, z8, z9, z10, z11, z12, z13, z14, z15, z16, z17, z18, z19, z20])) ∨ ((¬ (Mk_rnd q4 a1 a2)) ∧ r = some (.int 0) ∧ w' = (wc, [ob 9 [.int m_thrown, .int m_trouble, .int m_fault, .int m_where, .ref 1001, .ref 1002, .int 40, .ref 1003, .int m_taped, .int m_linkMany, .int m_tracerMany, .int m_pointMany, .int m_pairMany, .ref 1004, .ref 1005, .ref 1006, .ref 1007, .int m_readLinks, .int m_readTracers, .int m_readPoints, .int m_readPairs, .ref 1008, .ref 1009, .ref 1010, .ref 1011, .int m_textLong, .int m_at, .int m_spot, .int m_token, .int m_whole, .int m_readFault, .int m_readPlace, .int m_value, .long m_n, .long m_c, .long m_d, .long m_s, .long m_e, .long m_k, .long m_x, .long m_y, .long m_g, .long m_a, .ref 1012, .ref 1013, .ref 1014, .int m_curveMany, .ref 1015, .int m_cornerMany, .int m_straightAt, .ref 1016, .long m_fitUp, .long m_fitDown, .long m_worstUp, .long m_worstDown, .ref 1017, .int m_walkLink, .int m_walkAngle, .int m_walkBranch, .int m_walkMany, .ref 1018, .ref 1019, .int m_lined, .ref 1020, .int m_actMany], z1, z2, z3, ia 16 q4, z5, z6, z7, z8, z9, z10, z11, z12, z13, z14, z15, z16, z17, z18, z19, z20]))) := by
  refine ct_of ⟨by decide, rfl⟩ (Nat.le_of_ble_eq_true rfl) ?_
  rcases in4 h_w with rfl | rfl | rfl | rfl
  · refine ab_aload_n dX11_goesRound_0 rfl ?_
    refine ab_iload_n dX11_goesRound_1 rfl ?_
    refine ab_iload_n dX11_goesRound_2 rfl ?_
    refine ab_callV (As := [.int a1, .int 0]) (rest := []) dX11_goesRound_3 mv_X11_barOf ml_X11_252 ⟨by decide, by decide, rfl, rfl, rfl⟩ (by decide) rfl rfl (Nat.le_of_ble_eq_true rfl) rfl (c_X11_barOf h_i h_l (by decide)) ?_
    rintro r w' ⟨rfl, rfl⟩
    refine ab_istore_n (la' := [(3, .int (Bg q4 a1)), (0, .ref 1000), (1, .int a1), (2, .int 0)]) dX11_goesRound_6 (by decide) rfl ?_
    refine ab_aload_n dX11_goesRound_7 rfl ?_
    refine ab_iload_n dX11_goesRound_8 rfl ?_
    refine ab_iload_n dX11_goesRound_9 rfl ?_
    refine ab_iconst (v := 1) dX11_goesRound_10 (by decide) ?_
    refine ab_iadd dX11_goesRound_11 ?_
    refine ab_topi (v := 1) (by decide) ?_
    refine ab_iconst (v := 4) dX11_goesRound_12 (by decide) ?_
    refine ab_irem dX11_goesRound_13 (by decide) ?_
    refine ab_topi (v := 1) (by decide) ?_
    refine ab_callV (As := [.int a1, .int 1]) (rest := []) dX11_goesRound_14 mv_X11_barOf ml_X11_252 ⟨by decide, by decide, rfl, rfl, rfl⟩ (by decide) rfl rfl (Nat.le_of_ble_eq_true rfl) rfl (c_X11_barOf h_i h_l (by decide)) ?_
    rintro r w' ⟨rfl, rfl⟩
    refine ab_istore (la' := [(4, .int (Ba q4 a1)), (3, .int (Bg q4 a1)), (0, .ref 1000), (1, .int a1), (2, .int 0)]) dX11_goesRound_17 (by decide) rfl ?_
    refine ab_aload_n dX11_goesRound_19 rfl ?_
    refine ab_iload_n dX11_goesRound_20 rfl ?_
    refine ab_iload_n dX11_goesRound_21 rfl ?_
    refine ab_iconst (v := 2) dX11_goesRound_22 (by decide) ?_
    refine ab_iadd dX11_goesRound_23 ?_
    refine ab_topi (v := 2) (by decide) ?_
    refine ab_iconst (v := 4) dX11_goesRound_24 (by decide) ?_
    refine ab_irem dX11_goesRound_25 (by decide) ?_
    refine ab_topi (v := 2) (by decide) ?_
    refine ab_callV (As := [.int a1, .int 2]) (rest := []) dX11_goesRound_26 mv_X11_barOf ml_X11_252 ⟨by decide, by decide, rfl, rfl, rfl⟩ (by decide) rfl rfl (Nat.le_of_ble_eq_true rfl) rfl (c_X11_barOf h_i h_l (by decide)) ?_
    rintro r w' ⟨rfl, rfl⟩
    refine ab_istore (la' := [(5, .int (Bb q4 a1)), (4, .int (Ba q4 a1)), (3, .int (Bg q4 a1)), (0, .ref 1000), (1, .int a1), (2, .int 0)]) dX11_goesRound_29 (by decide) rfl ?_
    refine ab_aload_n dX11_goesRound_31 rfl ?_
    refine ab_iload_n dX11_goesRound_32 rfl ?_
    refine ab_iload_n dX11_goesRound_33 rfl ?_
    refine ab_iconst (v := 3) dX11_goesRound_34 (by decide) ?_
    refine ab_iadd dX11_goesRound_35 ?_
    refine ab_topi (v := 3) (by decide) ?_
    refine ab_iconst (v := 4) dX11_goesRound_36 (by decide) ?_
    refine ab_irem dX11_goesRound_37 (by decide) ?_
    refine ab_topi (v := 3) (by decide) ?_
    refine ab_callV (As := [.int a1, .int 3]) (rest := []) dX11_goesRound_38 mv_X11_barOf ml_X11_252 ⟨by decide, by decide, rfl, rfl, rfl⟩ (by decide) rfl rfl (Nat.le_of_ble_eq_true rfl) rfl (c_X11_barOf h_i h_l (by decide)) ?_
    rintro r w' ⟨rfl, rfl⟩
    refine ab_istore (la' := [(6, .int (Bc q4 a1)), (5, .int (Bb q4 a1)), (4, .int (Ba q4 a1)), (3, .int (Bg q4 a1)), (0, .ref 1000), (1, .int a1), (2, .int 0)]) dX11_goesRound_41 (by decide) rfl ?_
    refine ab_iload dX11_goesRound_43 rfl ?_
    refine ab_iload dX11_goesRound_45 rfl ?_
    refine ab_isub dX11_goesRound_47 ?_
    refine ab_i2l dX11_goesRound_48 ?_
    refine ab_callS (As := [.long (Int32.toInt64 ((Bb q4 a1) - (Bc q4 a1)))]) (rest := []) dX11_goesRound_49 ms_X11_plain ml_X11_7 ⟨by decide, by decide, rfl, rfl, rfl⟩ (by decide) rfl rfl (Nat.le_of_ble_eq_true rfl) c_X11_plain_t ?_
    rintro r w' ⟨rfl, rfl⟩
    refine ab_iload_n dX11_goesRound_52 rfl ?_
    refine ab_iload dX11_goesRound_53 rfl ?_
    refine ab_isub dX11_goesRound_55 ?_
    refine ab_i2l dX11_goesRound_56 ?_
    refine ab_callS (As := [.long (Int32.toInt64 ((Bg q4 a1) - (Ba q4 a1)))]) (rest := [.long (Ab64 (Int32.toInt64 ((Bb q4 a1) - (Bc q4 a1))))]) dX11_goesRound_57 ms_X11_plain ml_X11_7 ⟨by decide, by decide, rfl, rfl, rfl⟩ (by decide) rfl rfl (Nat.le_of_ble_eq_true rfl) c_X11_plain_t ?_
    rintro r w' ⟨rfl, rfl⟩
    refine ab_lcmpgt 80 dX11_goesRound_60 dX11_goesRound_61 (by decide) (fun h_1 => ?_) (fun h_1 => ?_)
    · refine ab_iconst (v := 0) dX11_goesRound_80 (by decide) ?_
      exact ab_zret dX11_goesRound_81 rfl rfl (by decide) (Or.inr ⟨mk_rnd_not0 (show ¬ MTF (Bg q4 a1) (Ba q4 a1) (Bb q4 a1) (Bc q4 a1) from fun z => absurd z.1 (Int64.not_le.mpr h_1)), rfl, rfl⟩)
    · refine ab_iload_n dX11_goesRound_64 rfl ?_
      refine ab_iload dX11_goesRound_65 rfl ?_
      refine ab_iadd dX11_goesRound_67 ?_
      refine ab_iload dX11_goesRound_68 rfl ?_
      refine ab_iload dX11_goesRound_70 rfl ?_
      refine ab_iadd dX11_goesRound_72 ?_
      refine ab_icmpgt 80 dX11_goesRound_73 (by decide) (fun h_2 => ?_) (fun h_2 => ?_)
      · refine ab_iconst (v := 0) dX11_goesRound_80 (by decide) ?_
        exact ab_zret dX11_goesRound_81 rfl rfl (by decide) (Or.inr ⟨mk_rnd_not0 (show ¬ MTF (Bg q4 a1) (Ba q4 a1) (Bb q4 a1) (Bc q4 a1) from fun z => absurd z.2 (Int32.not_le.mpr h_2)), rfl, rfl⟩)
      · refine ab_iconst (v := 1) dX11_goesRound_76 (by decide) ?_
        refine ab_goto 81 dX11_goesRound_77 (by decide) ?_
        exact ab_zret dX11_goesRound_81 rfl rfl (by decide) (Or.inl ⟨Or.inl ⟨rfl, ⟨Int64.not_lt.mp h_1, Int32.not_lt.mp h_2⟩⟩, rfl, rfl⟩)
  · refine ab_aload_n dX11_goesRound_0 rfl ?_
    refine ab_iload_n dX11_goesRound_1 rfl ?_
    refine ab_iload_n dX11_goesRound_2 rfl ?_
    refine ab_callV (As := [.int a1, .int 1]) (rest := []) dX11_goesRound_3 mv_X11_barOf ml_X11_252 ⟨by decide, by decide, rfl, rfl, rfl⟩ (by decide) rfl rfl (Nat.le_of_ble_eq_true rfl) rfl (c_X11_barOf h_i h_l (by decide)) ?_
    rintro r w' ⟨rfl, rfl⟩
    refine ab_istore_n (la' := [(3, .int (Ba q4 a1)), (0, .ref 1000), (1, .int a1), (2, .int 1)]) dX11_goesRound_6 (by decide) rfl ?_
    refine ab_aload_n dX11_goesRound_7 rfl ?_
    refine ab_iload_n dX11_goesRound_8 rfl ?_
    refine ab_iload_n dX11_goesRound_9 rfl ?_
    refine ab_iconst (v := 1) dX11_goesRound_10 (by decide) ?_
    refine ab_iadd dX11_goesRound_11 ?_
    refine ab_topi (v := 2) (by decide) ?_
    refine ab_iconst (v := 4) dX11_goesRound_12 (by decide) ?_
    refine ab_irem dX11_goesRound_13 (by decide) ?_
    refine ab_topi (v := 2) (by decide) ?_
    refine ab_callV (As := [.int a1, .int 2]) (rest := []) dX11_goesRound_14 mv_X11_barOf ml_X11_252 ⟨by decide, by decide, rfl, rfl, rfl⟩ (by decide) rfl rfl (Nat.le_of_ble_eq_true rfl) rfl (c_X11_barOf h_i h_l (by decide)) ?_
    rintro r w' ⟨rfl, rfl⟩
    refine ab_istore (la' := [(4, .int (Bb q4 a1)), (3, .int (Ba q4 a1)), (0, .ref 1000), (1, .int a1), (2, .int 1)]) dX11_goesRound_17 (by decide) rfl ?_
    refine ab_aload_n dX11_goesRound_19 rfl ?_
    refine ab_iload_n dX11_goesRound_20 rfl ?_
    refine ab_iload_n dX11_goesRound_21 rfl ?_
    refine ab_iconst (v := 2) dX11_goesRound_22 (by decide) ?_
    refine ab_iadd dX11_goesRound_23 ?_
    refine ab_topi (v := 3) (by decide) ?_
    refine ab_iconst (v := 4) dX11_goesRound_24 (by decide) ?_
    refine ab_irem dX11_goesRound_25 (by decide) ?_
    refine ab_topi (v := 3) (by decide) ?_
    refine ab_callV (As := [.int a1, .int 3]) (rest := []) dX11_goesRound_26 mv_X11_barOf ml_X11_252 ⟨by decide, by decide, rfl, rfl, rfl⟩ (by decide) rfl rfl (Nat.le_of_ble_eq_true rfl) rfl (c_X11_barOf h_i h_l (by decide)) ?_
    rintro r w' ⟨rfl, rfl⟩
    refine ab_istore (la' := [(5, .int (Bc q4 a1)), (4, .int (Bb q4 a1)), (3, .int (Ba q4 a1)), (0, .ref 1000), (1, .int a1), (2, .int 1)]) dX11_goesRound_29 (by decide) rfl ?_
    refine ab_aload_n dX11_goesRound_31 rfl ?_
    refine ab_iload_n dX11_goesRound_32 rfl ?_
    refine ab_iload_n dX11_goesRound_33 rfl ?_
    refine ab_iconst (v := 3) dX11_goesRound_34 (by decide) ?_
    refine ab_iadd dX11_goesRound_35 ?_
    refine ab_topi (v := 4) (by decide) ?_
    refine ab_iconst (v := 4) dX11_goesRound_36 (by decide) ?_
    refine ab_irem dX11_goesRound_37 (by decide) ?_
    refine ab_topi (v := 0) (by decide) ?_
    refine ab_callV (As := [.int a1, .int 0]) (rest := []) dX11_goesRound_38 mv_X11_barOf ml_X11_252 ⟨by decide, by decide, rfl, rfl, rfl⟩ (by decide) rfl rfl (Nat.le_of_ble_eq_true rfl) rfl (c_X11_barOf h_i h_l (by decide)) ?_
    rintro r w' ⟨rfl, rfl⟩
    refine ab_istore (la' := [(6, .int (Bg q4 a1)), (5, .int (Bc q4 a1)), (4, .int (Bb q4 a1)), (3, .int (Ba q4 a1)), (0, .ref 1000), (1, .int a1), (2, .int 1)]) dX11_goesRound_41 (by decide) rfl ?_
    refine ab_iload dX11_goesRound_43 rfl ?_
    refine ab_iload dX11_goesRound_45 rfl ?_
    refine ab_isub dX11_goesRound_47 ?_
    refine ab_i2l dX11_goesRound_48 ?_
    refine ab_callS (As := [.long (Int32.toInt64 ((Bc q4 a1) - (Bg q4 a1)))]) (rest := []) dX11_goesRound_49 ms_X11_plain ml_X11_7 ⟨by decide, by decide, rfl, rfl, rfl⟩ (by decide) rfl rfl (Nat.le_of_ble_eq_true rfl) c_X11_plain_t ?_
    rintro r w' ⟨rfl, rfl⟩
    refine ab_iload_n dX11_goesRound_52 rfl ?_
    refine ab_iload dX11_goesRound_53 rfl ?_
    refine ab_isub dX11_goesRound_55 ?_
    refine ab_i2l dX11_goesRound_56 ?_
    refine ab_callS (As := [.long (Int32.toInt64 ((Ba q4 a1) - (Bb q4 a1)))]) (rest := [.long (Ab64 (Int32.toInt64 ((Bc q4 a1) - (Bg q4 a1))))]) dX11_goesRound_57 ms_X11_plain ml_X11_7 ⟨by decide, by decide, rfl, rfl, rfl⟩ (by decide) rfl rfl (Nat.le_of_ble_eq_true rfl) c_X11_plain_t ?_
    rintro r w' ⟨rfl, rfl⟩
    refine ab_lcmpgt 80 dX11_goesRound_60 dX11_goesRound_61 (by decide) (fun h_1 => ?_) (fun h_1 => ?_)
    · refine ab_iconst (v := 0) dX11_goesRound_80 (by decide) ?_
      exact ab_zret dX11_goesRound_81 rfl rfl (by decide) (Or.inr ⟨mk_rnd_not1 (show ¬ MTF (Ba q4 a1) (Bb q4 a1) (Bc q4 a1) (Bg q4 a1) from fun z => absurd z.1 (Int64.not_le.mpr h_1)), rfl, rfl⟩)
    · refine ab_iload_n dX11_goesRound_64 rfl ?_
      refine ab_iload dX11_goesRound_65 rfl ?_
      refine ab_iadd dX11_goesRound_67 ?_
      refine ab_iload dX11_goesRound_68 rfl ?_
      refine ab_iload dX11_goesRound_70 rfl ?_
      refine ab_iadd dX11_goesRound_72 ?_
      refine ab_icmpgt 80 dX11_goesRound_73 (by decide) (fun h_2 => ?_) (fun h_2 => ?_)
      · refine ab_iconst (v := 0) dX11_goesRound_80 (by decide) ?_
        exact ab_zret dX11_goesRound_81 rfl rfl (by decide) (Or.inr ⟨mk_rnd_not1 (show ¬ MTF (Ba q4 a1) (Bb q4 a1) (Bc q4 a1) (Bg q4 a1) from fun z => absurd z.2 (Int32.not_le.mpr h_2)), rfl, rfl⟩)
      · refine ab_iconst (v := 1) dX11_goesRound_76 (by decide) ?_
        refine ab_goto 81 dX11_goesRound_77 (by decide) ?_
        exact ab_zret dX11_goesRound_81 rfl rfl (by decide) (Or.inl ⟨Or.inr (Or.inl ⟨rfl, ⟨Int64.not_lt.mp h_1, Int32.not_lt.mp h_2⟩⟩), rfl, rfl⟩)
  · refine ab_aload_n dX11_goesRound_0 rfl ?_
    refine ab_iload_n dX11_goesRound_1 rfl ?_
    refine ab_iload_n dX11_goesRound_2 rfl ?_
    refine ab_callV (As := [.int a1, .int 2]) (rest := []) dX11_goesRound_3 mv_X11_barOf ml_X11_252 ⟨by decide, by decide, rfl, rfl, rfl⟩ (by decide) rfl rfl (Nat.le_of_ble_eq_true rfl) rfl (c_X11_barOf h_i h_l (by decide)) ?_
    rintro r w' ⟨rfl, rfl⟩
    refine ab_istore_n (la' := [(3, .int (Bb q4 a1)), (0, .ref 1000), (1, .int a1), (2, .int 2)]) dX11_goesRound_6 (by decide) rfl ?_
    refine ab_aload_n dX11_goesRound_7 rfl ?_
    refine ab_iload_n dX11_goesRound_8 rfl ?_
    refine ab_iload_n dX11_goesRound_9 rfl ?_
    refine ab_iconst (v := 1) dX11_goesRound_10 (by decide) ?_
    refine ab_iadd dX11_goesRound_11 ?_
    refine ab_topi (v := 3) (by decide) ?_
    refine ab_iconst (v := 4) dX11_goesRound_12 (by decide) ?_
    refine ab_irem dX11_goesRound_13 (by decide) ?_
    refine ab_topi (v := 3) (by decide) ?_
    refine ab_callV (As := [.int a1, .int 3]) (rest := []) dX11_goesRound_14 mv_X11_barOf ml_X11_252 ⟨by decide, by decide, rfl, rfl, rfl⟩ (by decide) rfl rfl (Nat.le_of_ble_eq_true rfl) rfl (c_X11_barOf h_i h_l (by decide)) ?_
    rintro r w' ⟨rfl, rfl⟩
    refine ab_istore (la' := [(4, .int (Bc q4 a1)), (3, .int (Bb q4 a1)), (0, .ref 1000), (1, .int a1), (2, .int 2)]) dX11_goesRound_17 (by decide) rfl ?_
    refine ab_aload_n dX11_goesRound_19 rfl ?_
    refine ab_iload_n dX11_goesRound_20 rfl ?_
    refine ab_iload_n dX11_goesRound_21 rfl ?_
    refine ab_iconst (v := 2) dX11_goesRound_22 (by decide) ?_
    refine ab_iadd dX11_goesRound_23 ?_
    refine ab_topi (v := 4) (by decide) ?_
    refine ab_iconst (v := 4) dX11_goesRound_24 (by decide) ?_
    refine ab_irem dX11_goesRound_25 (by decide) ?_
    refine ab_topi (v := 0) (by decide) ?_
    refine ab_callV (As := [.int a1, .int 0]) (rest := []) dX11_goesRound_26 mv_X11_barOf ml_X11_252 ⟨by decide, by decide, rfl, rfl, rfl⟩ (by decide) rfl rfl (Nat.le_of_ble_eq_true rfl) rfl (c_X11_barOf h_i h_l (by decide)) ?_
    rintro r w' ⟨rfl, rfl⟩
    refine ab_istore (la' := [(5, .int (Bg q4 a1)), (4, .int (Bc q4 a1)), (3, .int (Bb q4 a1)), (0, .ref 1000), (1, .int a1), (2, .int 2)]) dX11_goesRound_29 (by decide) rfl ?_
    refine ab_aload_n dX11_goesRound_31 rfl ?_
    refine ab_iload_n dX11_goesRound_32 rfl ?_
    refine ab_iload_n dX11_goesRound_33 rfl ?_
    refine ab_iconst (v := 3) dX11_goesRound_34 (by decide) ?_
    refine ab_iadd dX11_goesRound_35 ?_
    refine ab_topi (v := 5) (by decide) ?_
    refine ab_iconst (v := 4) dX11_goesRound_36 (by decide) ?_
    refine ab_irem dX11_goesRound_37 (by decide) ?_
    refine ab_topi (v := 1) (by decide) ?_
    refine ab_callV (As := [.int a1, .int 1]) (rest := []) dX11_goesRound_38 mv_X11_barOf ml_X11_252 ⟨by decide, by decide, rfl, rfl, rfl⟩ (by decide) rfl rfl (Nat.le_of_ble_eq_true rfl) rfl (c_X11_barOf h_i h_l (by decide)) ?_
    rintro r w' ⟨rfl, rfl⟩
    refine ab_istore (la' := [(6, .int (Ba q4 a1)), (5, .int (Bg q4 a1)), (4, .int (Bc q4 a1)), (3, .int (Bb q4 a1)), (0, .ref 1000), (1, .int a1), (2, .int 2)]) dX11_goesRound_41 (by decide) rfl ?_
    refine ab_iload dX11_goesRound_43 rfl ?_
    refine ab_iload dX11_goesRound_45 rfl ?_
    refine ab_isub dX11_goesRound_47 ?_
    refine ab_i2l dX11_goesRound_48 ?_
    refine ab_callS (As := [.long (Int32.toInt64 ((Bg q4 a1) - (Ba q4 a1)))]) (rest := []) dX11_goesRound_49 ms_X11_plain ml_X11_7 ⟨by decide, by decide, rfl, rfl, rfl⟩ (by decide) rfl rfl (Nat.le_of_ble_eq_true rfl) c_X11_plain_t ?_
    rintro r w' ⟨rfl, rfl⟩
    refine ab_iload_n dX11_goesRound_52 rfl ?_
    refine ab_iload dX11_goesRound_53 rfl ?_
    refine ab_isub dX11_goesRound_55 ?_
    refine ab_i2l dX11_goesRound_56 ?_
    refine ab_callS (As := [.long (Int32.toInt64 ((Bb q4 a1) - (Bc q4 a1)))]) (rest := [.long (Ab64 (Int32.toInt64 ((Bg q4 a1) - (Ba q4 a1))))]) dX11_goesRound_57 ms_X11_plain ml_X11_7 ⟨by decide, by decide, rfl, rfl, rfl⟩ (by decide) rfl rfl (Nat.le_of_ble_eq_true rfl) c_X11_plain_t ?_
    rintro r w' ⟨rfl, rfl⟩
    refine ab_lcmpgt 80 dX11_goesRound_60 dX11_goesRound_61 (by decide) (fun h_1 => ?_) (fun h_1 => ?_)
    · refine ab_iconst (v := 0) dX11_goesRound_80 (by decide) ?_
      exact ab_zret dX11_goesRound_81 rfl rfl (by decide) (Or.inr ⟨mk_rnd_not2 (show ¬ MTF (Bb q4 a1) (Bc q4 a1) (Bg q4 a1) (Ba q4 a1) from fun z => absurd z.1 (Int64.not_le.mpr h_1)), rfl, rfl⟩)
    · refine ab_iload_n dX11_goesRound_64 rfl ?_
      refine ab_iload dX11_goesRound_65 rfl ?_
      refine ab_iadd dX11_goesRound_67 ?_
      refine ab_iload dX11_goesRound_68 rfl ?_
      refine ab_iload dX11_goesRound_70 rfl ?_
      refine ab_iadd dX11_goesRound_72 ?_
      refine ab_icmpgt 80 dX11_goesRound_73 (by decide) (fun h_2 => ?_) (fun h_2 => ?_)
      · refine ab_iconst (v := 0) dX11_goesRound_80 (by decide) ?_
        exact ab_zret dX11_goesRound_81 rfl rfl (by decide) (Or.inr ⟨mk_rnd_not2 (show ¬ MTF (Bb q4 a1) (Bc q4 a1) (Bg q4 a1) (Ba q4 a1) from fun z => absurd z.2 (Int32.not_le.mpr h_2)), rfl, rfl⟩)
      · refine ab_iconst (v := 1) dX11_goesRound_76 (by decide) ?_
        refine ab_goto 81 dX11_goesRound_77 (by decide) ?_
        exact ab_zret dX11_goesRound_81 rfl rfl (by decide) (Or.inl ⟨Or.inr (Or.inr (Or.inl ⟨rfl, ⟨Int64.not_lt.mp h_1, Int32.not_lt.mp h_2⟩⟩)), rfl, rfl⟩)
  · refine ab_aload_n dX11_goesRound_0 rfl ?_
    refine ab_iload_n dX11_goesRound_1 rfl ?_
    refine ab_iload_n dX11_goesRound_2 rfl ?_
    refine ab_callV (As := [.int a1, .int 3]) (rest := []) dX11_goesRound_3 mv_X11_barOf ml_X11_252 ⟨by decide, by decide, rfl, rfl, rfl⟩ (by decide) rfl rfl (Nat.le_of_ble_eq_true rfl) rfl (c_X11_barOf h_i h_l (by decide)) ?_
    rintro r w' ⟨rfl, rfl⟩
    refine ab_istore_n (la' := [(3, .int (Bc q4 a1)), (0, .ref 1000), (1, .int a1), (2, .int 3)]) dX11_goesRound_6 (by decide) rfl ?_
    refine ab_aload_n dX11_goesRound_7 rfl ?_
    refine ab_iload_n dX11_goesRound_8 rfl ?_
    refine ab_iload_n dX11_goesRound_9 rfl ?_
    refine ab_iconst (v := 1) dX11_goesRound_10 (by decide) ?_
    refine ab_iadd dX11_goesRound_11 ?_
    refine ab_topi (v := 4) (by decide) ?_
    refine ab_iconst (v := 4) dX11_goesRound_12 (by decide) ?_
    refine ab_irem dX11_goesRound_13 (by decide) ?_
    refine ab_topi (v := 0) (by decide) ?_
    refine ab_callV (As := [.int a1, .int 0]) (rest := []) dX11_goesRound_14 mv_X11_barOf ml_X11_252 ⟨by decide, by decide, rfl, rfl, rfl⟩ (by decide) rfl rfl (Nat.le_of_ble_eq_true rfl) rfl (c_X11_barOf h_i h_l (by decide)) ?_
    rintro r w' ⟨rfl, rfl⟩
    refine ab_istore (la' := [(4, .int (Bg q4 a1)), (3, .int (Bc q4 a1)), (0, .ref 1000), (1, .int a1), (2, .int 3)]) dX11_goesRound_17 (by decide) rfl ?_
    refine ab_aload_n dX11_goesRound_19 rfl ?_
    refine ab_iload_n dX11_goesRound_20 rfl ?_
    refine ab_iload_n dX11_goesRound_21 rfl ?_
    refine ab_iconst (v := 2) dX11_goesRound_22 (by decide) ?_
    refine ab_iadd dX11_goesRound_23 ?_
    refine ab_topi (v := 5) (by decide) ?_
    refine ab_iconst (v := 4) dX11_goesRound_24 (by decide) ?_
    refine ab_irem dX11_goesRound_25 (by decide) ?_
    refine ab_topi (v := 1) (by decide) ?_
    refine ab_callV (As := [.int a1, .int 1]) (rest := []) dX11_goesRound_26 mv_X11_barOf ml_X11_252 ⟨by decide, by decide, rfl, rfl, rfl⟩ (by decide) rfl rfl (Nat.le_of_ble_eq_true rfl) rfl (c_X11_barOf h_i h_l (by decide)) ?_
    rintro r w' ⟨rfl, rfl⟩
    refine ab_istore (la' := [(5, .int (Ba q4 a1)), (4, .int (Bg q4 a1)), (3, .int (Bc q4 a1)), (0, .ref 1000), (1, .int a1), (2, .int 3)]) dX11_goesRound_29 (by decide) rfl ?_
    refine ab_aload_n dX11_goesRound_31 rfl ?_
    refine ab_iload_n dX11_goesRound_32 rfl ?_
    refine ab_iload_n dX11_goesRound_33 rfl ?_
    refine ab_iconst (v := 3) dX11_goesRound_34 (by decide) ?_
    refine ab_iadd dX11_goesRound_35 ?_
    refine ab_topi (v := 6) (by decide) ?_
    refine ab_iconst (v := 4) dX11_goesRound_36 (by decide) ?_
    refine ab_irem dX11_goesRound_37 (by decide) ?_
    refine ab_topi (v := 2) (by decide) ?_
    refine ab_callV (As := [.int a1, .int 2]) (rest := []) dX11_goesRound_38 mv_X11_barOf ml_X11_252 ⟨by decide, by decide, rfl, rfl, rfl⟩ (by decide) rfl rfl (Nat.le_of_ble_eq_true rfl) rfl (c_X11_barOf h_i h_l (by decide)) ?_
    rintro r w' ⟨rfl, rfl⟩
    refine ab_istore (la' := [(6, .int (Bb q4 a1)), (5, .int (Ba q4 a1)), (4, .int (Bg q4 a1)), (3, .int (Bc q4 a1)), (0, .ref 1000), (1, .int a1), (2, .int 3)]) dX11_goesRound_41 (by decide) rfl ?_
    refine ab_iload dX11_goesRound_43 rfl ?_
    refine ab_iload dX11_goesRound_45 rfl ?_
    refine ab_isub dX11_goesRound_47 ?_
    refine ab_i2l dX11_goesRound_48 ?_
    refine ab_callS (As := [.long (Int32.toInt64 ((Ba q4 a1) - (Bb q4 a1)))]) (rest := []) dX11_goesRound_49 ms_X11_plain ml_X11_7 ⟨by decide, by decide, rfl, rfl, rfl⟩ (by decide) rfl rfl (Nat.le_of_ble_eq_true rfl) c_X11_plain_t ?_
    rintro r w' ⟨rfl, rfl⟩
    refine ab_iload_n dX11_goesRound_52 rfl ?_
    refine ab_iload dX11_goesRound_53 rfl ?_
    refine ab_isub dX11_goesRound_55 ?_
    refine ab_i2l dX11_goesRound_56 ?_
    refine ab_callS (As := [.long (Int32.toInt64 ((Bc q4 a1) - (Bg q4 a1)))]) (rest := [.long (Ab64 (Int32.toInt64 ((Ba q4 a1) - (Bb q4 a1))))]) dX11_goesRound_57 ms_X11_plain ml_X11_7 ⟨by decide, by decide, rfl, rfl, rfl⟩ (by decide) rfl rfl (Nat.le_of_ble_eq_true rfl) c_X11_plain_t ?_
    rintro r w' ⟨rfl, rfl⟩
    refine ab_lcmpgt 80 dX11_goesRound_60 dX11_goesRound_61 (by decide) (fun h_1 => ?_) (fun h_1 => ?_)
    · refine ab_iconst (v := 0) dX11_goesRound_80 (by decide) ?_
      exact ab_zret dX11_goesRound_81 rfl rfl (by decide) (Or.inr ⟨mk_rnd_not3 (show ¬ MTF (Bc q4 a1) (Bg q4 a1) (Ba q4 a1) (Bb q4 a1) from fun z => absurd z.1 (Int64.not_le.mpr h_1)), rfl, rfl⟩)
    · refine ab_iload_n dX11_goesRound_64 rfl ?_
      refine ab_iload dX11_goesRound_65 rfl ?_
      refine ab_iadd dX11_goesRound_67 ?_
      refine ab_iload dX11_goesRound_68 rfl ?_
      refine ab_iload dX11_goesRound_70 rfl ?_
      refine ab_iadd dX11_goesRound_72 ?_
      refine ab_icmpgt 80 dX11_goesRound_73 (by decide) (fun h_2 => ?_) (fun h_2 => ?_)
      · refine ab_iconst (v := 0) dX11_goesRound_80 (by decide) ?_
        exact ab_zret dX11_goesRound_81 rfl rfl (by decide) (Or.inr ⟨mk_rnd_not3 (show ¬ MTF (Bc q4 a1) (Bg q4 a1) (Ba q4 a1) (Bb q4 a1) from fun z => absurd z.2 (Int32.not_le.mpr h_2)), rfl, rfl⟩)
      · refine ab_iconst (v := 1) dX11_goesRound_76 (by decide) ?_
        refine ab_goto 81 dX11_goesRound_77 (by decide) ?_
        exact ab_zret dX11_goesRound_81 rfl rfl (by decide) (Or.inl ⟨Or.inr (Or.inr (Or.inr (⟨rfl, ⟨Int64.not_lt.mp h_1, Int32.not_lt.mp h_2⟩⟩))), rfl, rfl⟩)
theorem c_X11_hasTwoRounds {wc : List ax_E} {m_thrown m_trouble m_fault m_where m_taped m_linkMany m_tracerMany m_pointMany m_pairMany m_readLinks m_readTracers m_readPoints m_readPairs m_textLong m_at m_spot m_token m_whole m_readFault m_readPlace m_value m_curveMany m_cornerMany m_straightAt m_walkLink m_walkAngle m_walkBranch m_walkMany m_lined m_actMany a1 : Int32} {m_n m_c m_d m_s m_e m_k m_x m_y m_g m_a m_fitUp m_fitDown m_worstUp m_worstDown : Int64} {z1 z2 z3 z5 z6 z7 z8 z9 z10 z11 z12 z13 z14 z15 z16 z17 z18 z19 z20 : ax_E} {q4 : Nat → Int32} (h_i : 0 ≤ a1 ∧ a1 < m_linkMany) (h_l : 0 ≤ m_linkMany ∧ m_linkMany ≤ nI 4) : Ct M_X11_hasTwoRounds [.ref 1000, .int a1] (wc, [ob 9 [.int m_thrown, .int m_trouble, .int m_fault, .int m_where, .ref 1001, .ref 1002, .int 40, .ref 1003, .int m_taped, .int m_linkMany, .int m_tracerMany, .int m_pointMany, .int m_pairMany, .ref 1004, .ref 1005, .ref 1006, .ref 1007, .int m_readLinks, .int m_readTracers, .int m_readPoints, .int m_readPairs, .ref 1008, .ref 1009, .ref 1010, .ref 1011, .int m_textLong, .int m_at, .int m_spot, .int m_token, .int m_whole, .int m_readFault, .int m_readPlace, .int m_value, .long m_n, .long m_c, .long m_d, .long m_s, .long m_e, .long m_k, .long m_x, .long m_y, .long m_g, .long m_a, .ref 1012, .ref 1013, .ref 1014, .int m_curveMany, .ref 1015, .int m_cornerMany, .int m_straightAt, .ref 1016, .long m_fitUp, .long m_fitDown, .long m_worstUp, .long m_worstDown, .ref 1017, .int m_walkLink, .int m_walkAngle, .int m_walkBranch, .int m_walkMany, .ref 1018, .ref 1019, .int m_lined, .ref 1020, .int m_actMany], z1, z2, z3, ia 16 q4, z5, z6, z7, z8, z9, z10, z11, z12, z13, z14, z15, z16, z17, z18, z19, z20]) (fun r w' => ((Mk_rnd q4 a1 0 ∧ Mk_ends q4 a1 = 0) ∧ r = some (.int 1) ∧ w' = (wc, [ob 9 [.int m_thrown, .int m_trouble, .int m_fault, .int m_where, .ref 1001, .ref 1002, .int 40, .ref 1003, .int m_taped, .int m_linkMany, .int m_tracerMany, .int m_pointMany, .int m_pairMany, .ref 1004, .ref 1005, .ref 1006, .ref 1007, .int m_readLinks, .int m_readTracers, .int m_readPoints, .int m_readPairs, .ref 1008, .ref 1009, .ref 1010, .ref 1011, .int m_textLong, .int m_at, .int m_spot, .int m_token, .int m_whole, .int m_readFault, .int m_readPlace, .int m_value, .long m_n, .long m_c, .long m_d, .long m_s, .long m_e, .long m_k, .long m_x, .long m_y, .long m_g, .long m_a, .ref 1012, .ref 1013, .ref 1014, .int m_curveMany, .ref 1015, .int m_cornerMany, .int m_straightAt, .ref 1016, .long m_fitUp, .long m_fitDown, .long m_worstUp, .long m_worstDown, .ref 1017, .int m_walkLink, .int m_walkAngle, .int m_walkBranch, .int m_walkMany, .ref 1018, .ref 1019, .int m_lined, .ref 1020, .int m_actMany], z1, z2, z3, ia 16 q4, z5, z6, z7, z8, z9, z10, z11, z12, z13, z14, z15, z16, z17, z18, z19, z20])) ∨ ((¬ (Mk_rnd q4 a1 0 ∧ Mk_ends q4 a1 = 0)) ∧ r = some (.int 0) ∧ w' = (wc, [ob 9 [.int m_thrown, .int m_trouble, .int m_fault, .int m_where, .ref 1001, .ref 1002, .int 40, .ref 1003, .int m_taped, .int m_linkMany, .int m_tracerMany, .int m_pointMany, .int m_pairMany, .ref 1004, .ref 1005, .ref 1006, .ref 1007, .int m_readLinks, .int m_readTracers, .int m_readPoints, .int m_readPairs, .ref 1008, .ref 1009, .ref 1010, .ref 1011, .int m_textLong, .int m_at, .int m_spot, .int m_token, .int m_whole, .int m_readFault, .int m_readPlace, .int m_value, .long m_n, .long m_c, .long m_d, .long m_s, .long m_e, .long m_k, .long m_x, .long m_y, .long m_g, .long m_a, .ref 1012, .ref 1013, .ref 1014, .int m_curveMany, .ref 1015, .int m_cornerMany, .int m_straightAt, .ref 1016, .long m_fitUp, .long m_fitDown, .long m_worstUp, .long m_worstDown, .ref 1017, .int m_walkLink, .int m_walkAngle, .int m_walkBranch, .int m_walkMany, .ref 1018, .ref 1019, .int m_lined, .ref 1020, .int m_actMany], z1, z2, z3, ia 16 q4, z5, z6, z7, z8, z9, z10, z11, z12, z13, z14, z15, z16, z17, z18, z19, z20]))) := by
  refine ct_of ⟨by decide, rfl⟩ (Nat.le_of_ble_eq_true rfl) ?_
  refine ab_aload_n dX11_hasTwoRounds_0 rfl ?_
  refine ab_iload_n dX11_hasTwoRounds_1 rfl ?_
  refine ab_iconst (v := 0) dX11_hasTwoRounds_2 (by decide) ?_
  refine ab_callV (As := [.int a1, .int 0]) (rest := []) dX11_hasTwoRounds_3 mv_X11_goesRound ml_X11_274 ⟨by decide, by decide, rfl, rfl, rfl⟩ (by decide) rfl rfl (Nat.le_of_ble_eq_true rfl) rfl (c_X11_goesRound h_i h_l (by decide)) ?_
  rintro r w' (⟨c_1, rfl, rfl⟩ | ⟨c_2, rfl, rfl⟩)
  · refine ab_ifeq 21 dX11_hasTwoRounds_6 (by decide) (fun h_3 => absurd h_3 (by decide)) (fun h_3 => ?_)
    refine ab_aload_n dX11_hasTwoRounds_9 rfl ?_
    refine ab_iload_n dX11_hasTwoRounds_10 rfl ?_
    refine ab_callV (As := [.int a1]) (rest := []) dX11_hasTwoRounds_11 mv_X11_endsOf ml_X11_301 ⟨by decide, by decide, rfl, rfl, rfl⟩ (by decide) rfl rfl (Nat.le_of_ble_eq_true rfl) rfl (c_X11_endsOf h_i h_l) ?_
    rintro r w' ⟨rfl, rfl⟩
    refine ab_ifne 21 dX11_hasTwoRounds_14 (by decide) (fun h_4 => ?_) (fun h_4 => ?_)
    · refine ab_iconst (v := 0) dX11_hasTwoRounds_21 (by decide) ?_
      exact ab_zret dX11_hasTwoRounds_22 rfl rfl (by decide) (Or.inr (⟨(by grind), rfl, rfl⟩))
    · refine ab_iconst (v := 1) dX11_hasTwoRounds_17 (by decide) ?_
      refine ab_goto 22 dX11_hasTwoRounds_18 (by decide) ?_
      exact ab_zret dX11_hasTwoRounds_22 rfl rfl (by decide) (Or.inl (⟨(by grind), rfl, rfl⟩))
  · refine ab_ifeq 21 dX11_hasTwoRounds_6 (by decide) (fun h_5 => ?_) (fun h_5 => absurd (by decide) h_5)
    refine ab_iconst (v := 0) dX11_hasTwoRounds_21 (by decide) ?_
    exact ab_zret dX11_hasTwoRounds_22 rfl rfl (by decide) (Or.inr (⟨(by grind), rfl, rfl⟩))
