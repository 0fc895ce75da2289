theorem ix_mp {i m x y : Int32} {j : Nat} (hi : 0 ≤ i ∧ i < m) (hm : m ≤ nI 4) (e : x + 1 = y) (hy : 0 ≤ y ∧ y < nI 4) (hj : y.toNatClampNeg = j) : ax_ix (4 * i + x + 1) 16 (0 + i.toNatClampNeg * 4 + j) := by
  rw [Int32.add_assoc, e, ← hj]
  exact ix_ml (W := 4) (c := 4) hi hm hy (by decide) (by decide) (by decide) (by decide)
def Mq_n0 (q7 : Nat → Int32) (a1 : Int32) : Int32 := (((q7 (0 + Int32.toNatClampNeg a1 * 4 + 0)) * (q7 (0 + Int32.toNatClampNeg a1 * 4 + 0))) + ((q7 (0 + Int32.toNatClampNeg a1 * 4 + 1)) * (q7 (0 + Int32.toNatClampNeg a1 * 4 + 1))))
theorem c_X11_normOf_0 {wc : List ax_E} {m_thrown m_trouble m_fault m_where m_taped m_linkMany m_tracerMany m_pointMany m_pairMany m_readLinks m_readTracers m_readPoints m_readPairs m_textLong m_at m_spot m_token m_whole m_readFault m_readPlace m_value m_curveMany m_cornerMany m_straightAt m_walkLink m_walkAngle m_walkBranch m_walkMany m_lined m_actMany a1 : Int32} {m_n m_c m_d m_s m_e m_k m_x m_y m_g m_a m_fitUp m_fitDown m_worstUp m_worstDown : Int64} {z1 z2 z3 z4 z5 z6 z8 z9 z10 z11 z12 z13 z14 z15 z16 z17 z18 z19 z20 : ax_E} {q7 : Nat → Int32} (h_i : 0 ≤ a1 ∧ a1 < m_pairMany) (h_r : 0 ≤ m_pairMany ∧ m_pairMany ≤ nI 4) : Ct M_X11_normOf [.ref 1000, .int a1, .int 0] (wc, [ob 9 [.int m_thrown, .int m_trouble, .int m_fault, .int m_where, .ref 1001, .ref 1002, .int 40, .ref 1003, .int m_taped, .int m_linkMany, .int m_tracerMany, .int m_pointMany, .int m_pairMany, .ref 1004, .ref 1005, .ref 1006, .ref 1007, .int m_readLinks, .int m_readTracers, .int m_readPoints, .int m_readPairs, .ref 1008, .ref 1009, .ref 1010, .ref 1011, .int m_textLong, .int m_at, .int m_spot, .int m_token, .int m_whole, .int m_readFault, .int m_readPlace, .int m_value, .long m_n, .long m_c, .long m_d, .long m_s, .long m_e, .long m_k, .long m_x, .long m_y, .long m_g, .long m_a, .ref 1012, .ref 1013, .ref 1014, .int m_curveMany, .ref 1015, .int m_cornerMany, .int m_straightAt, .ref 1016, .long m_fitUp, .long m_fitDown, .long m_worstUp, .long m_worstDown, .ref 1017, .int m_walkLink, .int m_walkAngle, .int m_walkBranch, .int m_walkMany, .ref 1018, .ref 1019, .int m_lined, .ref 1020, .int m_actMany], z1, z2, z3, z4, z5, z6, ia 16 q7, z8, z9, z10, z11, z12, z13, z14, z15, z16, z17, z18, z19, z20]) (fun r w' => r = some (.int (Mq_n0 q7 a1)) ∧ w' = (wc, [ob 9 [.int m_thrown, .int m_trouble, .int m_fault, .int m_where, .ref 1001, .ref 1002, .int 40, .ref 1003, .int m_taped, .int m_linkMany, .int m_tracerMany, .int m_pointMany, .int m_pairMany, .ref 1004, .ref 1005, .ref 1006, .ref 1007, .int m_readLinks, .int m_readTracers, .int m_readPoints, .int m_readPairs, .ref 1008, .ref 1009, .ref 1010, .ref 1011, .int m_textLong, .int m_at, .int m_spot, .int m_token, .int m_whole, .int m_readFault, .int m_readPlace, .int m_value, .long m_n, .long m_c, .long m_d, .long m_s, .long m_e, .long m_k, .long m_x, .long m_y, .long m_g, .long m_a, .ref 1012, .ref 1013, .ref 1014, .int m_curveMany, .ref 1015, .int m_cornerMany, .int m_straightAt, .ref 1016, .long m_fitUp, .long m_fitDown, .long m_worstUp, .long m_worstDown, .ref 1017, .int m_walkLink, .int m_walkAngle, .int m_walkBranch, .int m_walkMany, .ref 1018, .ref 1019, .int m_lined, .ref 1020, .int m_actMany], z1, z2, z3, z4, z5, z6, ia 16 q7, z8, z9, z10, z11, z12, z13, z14, z15, z16, z17, z18, z19, z20])) := by
  refine ct_of ⟨by decide, rfl⟩ (Nat.le_of_ble_eq_true rfl) ?_
  refine ab_aload_n dX11_normOf_0 rfl ?_
  refine ab_getf dX11_normOf_1 fl_X11_51 rfl rfl ?_
  refine ab_iconst (v := 4) dX11_normOf_4 (by decide) ?_
  refine ab_iload_n dX11_normOf_5 rfl ?_
  refine ab_imul dX11_normOf_6 ?_
  refine ab_iload_n dX11_normOf_7 rfl ?_
  refine ab_iadd dX11_normOf_8 ?_
  refine ab_iald (j := (0 + Int32.toNatClampNeg a1 * 4 + 0)) dX11_normOf_9 rfl (ix_ml (W := 4) (c := 4) h_i h_r.2 (show 0 ≤ (0 : Int32) ∧ (0 : Int32) < nI 4 by decide) (by decide) (by decide) (by decide) (by decide)) ?_
  refine ab_aload_n dX11_normOf_10 rfl ?_
  refine ab_getf dX11_normOf_11 fl_X11_51 rfl rfl ?_
  refine ab_iconst (v := 4) dX11_normOf_14 (by decide) ?_
  refine ab_iload_n dX11_normOf_15 rfl ?_
  refine ab_imul dX11_normOf_16 ?_
  refine ab_iload_n dX11_normOf_17 rfl ?_
  refine ab_iadd dX11_normOf_18 ?_
  refine ab_iald (j := (0 + Int32.toNatClampNeg a1 * 4 + 0)) dX11_normOf_19 rfl (ix_ml (W := 4) (c := 4) h_i h_r.2 (show 0 ≤ (0 : Int32) ∧ (0 : Int32) < nI 4 by decide) (by decide) (by decide) (by decide) (by decide)) ?_
  refine ab_imul dX11_normOf_20 ?_
  refine ab_aload_n dX11_normOf_21 rfl ?_
  refine ab_getf dX11_normOf_22 fl_X11_51 rfl rfl ?_
  refine ab_iconst (v := 4) dX11_normOf_25 (by decide) ?_
  refine ab_iload_n dX11_normOf_26 rfl ?_
  refine ab_imul dX11_normOf_27 ?_
  refine ab_iload_n dX11_normOf_28 rfl ?_
  refine ab_iadd dX11_normOf_29 ?_
  refine ab_iconst (v := 1) dX11_normOf_30 (by decide) ?_
  refine ab_iadd dX11_normOf_31 ?_
  refine ab_iald (j := (0 + Int32.toNatClampNeg a1 * 4 + 1)) dX11_normOf_32 rfl (ix_mp (y := 1) h_i h_r.2 (by decide) (by decide) (by decide)) ?_
  refine ab_aload_n dX11_normOf_33 rfl ?_
  refine ab_getf dX11_normOf_34 fl_X11_51 rfl rfl ?_
  refine ab_iconst (v := 4) dX11_normOf_37 (by decide) ?_
  refine ab_iload_n dX11_normOf_38 rfl ?_
  refine ab_imul dX11_normOf_39 ?_
  refine ab_iload_n dX11_normOf_40 rfl ?_
  refine ab_iadd dX11_normOf_41 ?_
  refine ab_iconst (v := 1) dX11_normOf_42 (by decide) ?_
  refine ab_iadd dX11_normOf_43 ?_
  refine ab_iald (j := (0 + Int32.toNatClampNeg a1 * 4 + 1)) dX11_normOf_44 rfl (ix_mp (y := 1) h_i h_r.2 (by decide) (by decide) (by decide)) ?_
  refine ab_imul dX11_normOf_45 ?_
  refine ab_iadd dX11_normOf_46 ?_
  exact ab_iret dX11_normOf_47 rfl (by decide) (⟨rfl, rfl⟩)
def Mq_n2 (q7 : Nat → Int32) (a1 : Int32) : Int32 := (((q7 (0 + Int32.toNatClampNeg a1 * 4 + 2)) * (q7 (0 + Int32.toNatClampNeg a1 * 4 + 2))) + ((q7 (0 + Int32.toNatClampNeg a1 * 4 + 3)) * (q7 (0 + Int32.toNatClampNeg a1 * 4 + 3))))
theorem c_X11_normOf_2 {wc : List ax_E} {m_thrown m_trouble m_fault m_where m_taped m_linkMany m_tracerMany m_pointMany m_pairMany m_readLinks m_readTracers m_readPoints m_readPairs m_textLong m_at m_spot m_token m_whole m_readFault m_readPlace m_value m_curveMany m_cornerMany m_straightAt m_walkLink m_walkAngle m_walkBranch m_walkMany m_lined m_actMany a1 : Int32} {m_n m_c m_d m_s m_e m_k m_x m_y m_g m_a m_fitUp m_fitDown m_worstUp m_worstDown : Int64} {z1 z2 z3 z4 z5 z6 z8 z9 z10 z11 z12 z13 z14 z15 z16 z17 z18 z19 z20 : ax_E} {q7 : Nat → Int32} (h_i : 0 ≤ a1 ∧ a1 < m_pairMany) (h_r : 0 ≤ m_pairMany ∧ m_pairMany ≤ nI 4) : Ct M_X11_normOf [.ref 1000, .int a1, .int 2] (wc, [ob 9 [.int m_thrown, .int m_trouble, .int m_fault, .int m_where, .ref 1001, .ref 1002, .int 40, .ref 1003, .int m_taped, .int m_linkMany, .int m_tracerMany, .int m_pointMany, .int m_pairMany, .ref 1004, .ref 1005, .ref 1006, .ref 1007, .int m_readLinks, .int m_readTracers, .int m_readPoints, .int m_readPairs, .ref 1008, .ref 1009, .ref 1010, .ref 1011, .int m_textLong, .int m_at, .int m_spot, .int m_token, .int m_whole, .int m_readFault, .int m_readPlace, .int m_value, .long m_n, .long m_c, .long m_d, .long m_s, .long m_e, .long m_k, .long m_x, .long m_y, .long m_g, .long m_a, .ref 1012, .ref 1013, .ref 1014, .int m_curveMany, .ref 1015, .int m_cornerMany, .int m_straightAt, .ref 1016, .long m_fitUp, .long m_fitDown, .long m_worstUp, .long m_worstDown, .ref 1017, .int m_walkLink, .int m_walkAngle, .int m_walkBranch, .int m_walkMany, .ref 1018, .ref 1019, .int m_lined, .ref 1020, .int m_actMany], z1, z2, z3, z4, z5, z6, ia 16 q7, z8, z9, z10, z11, z12, z13, z14, z15, z16, z17, z18, z19, z20]) (fun r w' => r = some (.int (Mq_n2 q7 a1)) ∧ w' = (wc, [ob 9 [.int m_thrown, .int m_trouble, .int m_fault, .int m_where, .ref 1001, .ref 1002, .int 40, .ref 1003, .int m_taped, .int m_linkMany, .int m_tracerMany, .int m_pointMany, .int m_pairMany, .ref 1004, .ref 1005, .ref 1006, .ref 1007, .int m_readLinks, .int m_readTracers, .int m_readPoints, .int m_readPairs, .ref 1008, .ref 1009, .ref 1010, .ref 1011, .int m_textLong, .int m_at, .int m_spot, .int m_token, .int m_whole, .int m_readFault, .int m_readPlace, .int m_value, .long m_n, .long m_c, .long m_d, .long m_s, .long m_e, .long m_k, .long m_x, .long m_y, .long m_g, .long m_a, .ref 1012, .ref 1013, .ref 1014, .int m_curveMany, .ref 1015, .int m_cornerMany, .int m_straightAt, .ref 1016, .long m_fitUp, .long m_fitDown, .long m_worstUp, .long m_worstDown, .ref 1017, .int m_walkLink, .int m_walkAngle, .int m_walkBranch, .int m_walkMany, .ref 1018, .ref 1019, .int m_lined, .ref 1020, .int m_actMany], z1, z2, z3, z4, z5, z6, ia 16 q7, z8, z9, z10, z11, z12, z13, z14, z15, z16, z17, z18, z19, z20])) := by
  refine ct_of ⟨by decide, rfl⟩ (Nat.le_of_ble_eq_true rfl) ?_
  refine ab_aload_n dX11_normOf_0 rfl ?_
  refine ab_getf dX11_normOf_1 fl_X11_51 rfl rfl ?_
  refine ab_iconst (v := 4) dX11_normOf_4 (by decide) ?_
  refine ab_iload_n dX11_normOf_5 rfl ?_
  refine ab_imul dX11_normOf_6 ?_
  refine ab_iload_n dX11_normOf_7 rfl ?_
  refine ab_iadd dX11_normOf_8 ?_
  refine ab_iald (j := (0 + Int32.toNatClampNeg a1 * 4 + 2)) dX11_normOf_9 rfl (ix_ml (W := 4) (c := 4) h_i h_r.2 (show 0 ≤ (2 : Int32) ∧ (2 : Int32) < nI 4 by decide) (by decide) (by decide) (by decide) (by decide)) ?_
  refine ab_aload_n dX11_normOf_10 rfl ?_
  refine ab_getf dX11_normOf_11 fl_X11_51 rfl rfl ?_
  refine ab_iconst (v := 4) dX11_normOf_14 (by decide) ?_
  refine ab_iload_n dX11_normOf_15 rfl ?_
  refine ab_imul dX11_normOf_16 ?_
  refine ab_iload_n dX11_normOf_17 rfl ?_
  refine ab_iadd dX11_normOf_18 ?_
  refine ab_iald (j := (0 + Int32.toNatClampNeg a1 * 4 + 2)) dX11_normOf_19 rfl (ix_ml (W := 4) (c := 4) h_i h_r.2 (show 0 ≤ (2 : Int32) ∧ (2 : Int32) < nI 4 by decide) (by decide) (by decide) (by decide) (by decide)) ?_
  refine ab_imul dX11_normOf_20 ?_
  refine ab_aload_n dX11_normOf_21 rfl ?_
  refine ab_getf dX11_normOf_22 fl_X11_51 rfl rfl ?_
  refine ab_iconst (v := 4) dX11_normOf_25 (by decide) ?_
  refine ab_iload_n dX11_normOf_26 rfl ?_
  refine ab_imul dX11_normOf_27 ?_
  refine ab_iload_n dX11_normOf_28 rfl ?_
  refine ab_iadd dX11_normOf_29 ?_
  refine ab_iconst (v := 1) dX11_normOf_30 (by decide) ?_
  refine ab_iadd dX11_normOf_31 ?_
  refine ab_iald (j := (0 + Int32.toNatClampNeg a1 * 4 + 3)) dX11_normOf_32 rfl (ix_mp (y := 3) h_i h_r.2 (by decide) (by decide) (by decide)) ?_
  refine ab_aload_n dX11_normOf_33 rfl ?_
  refine ab_getf dX11_normOf_34 fl_X11_51 rfl rfl ?_
  refine ab_iconst (v := 4) dX11_normOf_37 (by decide) ?_
  refine ab_iload_n dX11_normOf_38 rfl ?_
  refine ab_imul dX11_normOf_39 ?_
  refine ab_iload_n dX11_normOf_40 rfl ?_
  refine ab_iadd dX11_normOf_41 ?_
  refine ab_iconst (v := 1) dX11_normOf_42 (by decide) ?_
  refine ab_iadd dX11_normOf_43 ?_
  refine ab_iald (j := (0 + Int32.toNatClampNeg a1 * 4 + 3)) dX11_normOf_44 rfl (ix_mp (y := 3) h_i h_r.2 (by decide) (by decide) (by decide)) ?_
  refine ab_imul dX11_normOf_45 ?_
  refine ab_iadd dX11_normOf_46 ?_
  exact ab_iret dX11_normOf_47 rfl (by decide) (⟨rfl, rfl⟩)
def Mq_c0 (q7 : Nat → Int32) (a1 : Int32) : Int32 := (((q7 (0 + Int32.toNatClampNeg a1 * 4 + 1)) * (q7 (0 + Int32.toNatClampNeg a1 * 4 + 1))) - ((q7 (0 + Int32.toNatClampNeg a1 * 4 + 0)) * (q7 (0 + Int32.toNatClampNeg a1 * 4 + 0))))
theorem c_X11_cosOf_0 {wc : List ax_E} {m_thrown m_trouble m_fault m_where m_taped m_linkMany m_tracerMany m_pointMany m_pairMany m_readLinks m_readTracers m_readPoints m_readPairs m_textLong m_at m_spot m_token m_whole m_readFault m_readPlace m_value m_curveMany m_cornerMany m_straightAt m_walkLink m_walkAngle m_walkBranch m_walkMany m_lined m_actMany a1 : Int32} {m_n m_c m_d m_s m_e m_k m_x m_y m_g m_a m_fitUp m_fitDown m_worstUp m_worstDown : Int64} {z1 z2 z3 z4 z5 z6 z8 z9 z10 z11 z12 z13 z14 z15 z16 z17 z18 z19 z20 : ax_E} {q7 : Nat → Int32} (h_i : 0 ≤ a1 ∧ a1 < m_pairMany) (h_r : 0 ≤ m_pairMany ∧ m_pairMany ≤ nI 4) : Ct M_X11_cosOf [.ref 1000, .int a1, .int 0] (wc, [ob 9 [.int m_thrown, .int m_trouble, .int m_fault, .int m_where, .ref 1001, .ref 1002, .int 40, .ref 1003, .int m_taped, .int m_linkMany, .int m_tracerMany, .int m_pointMany, .int m_pairMany, .ref 1004, .ref 1005, .ref 1006, .ref 1007, .int m_readLinks, .int m_readTracers, .int m_readPoints, .int m_readPairs, .ref 1008, .ref 1009, .ref 1010, .ref 1011, .int m_textLong, .int m_at, .int m_spot, .int m_token, .int m_whole, .int m_readFault, .int m_readPlace, .int m_value, .long m_n, .long m_c, .long m_d, .long m_s, .long m_e, .long m_k, .long m_x, .long m_y, .long m_g, .long m_a, .ref 1012, .ref 1013, .ref 1014, .int m_curveMany, .ref 1015, .int m_cornerMany, .int m_straightAt, .ref 1016, .long m_fitUp, .long m_fitDown, .long m_worstUp, .long m_worstDown, .ref 1017, .int m_walkLink, .int m_walkAngle, .int m_walkBranch, .int m_walkMany, .ref 1018, .ref 1019, .int m_lined, .ref 1020, .int m_actMany], z1, z2, z3, z4, z5, z6, ia 16 q7, z8, z9, z10, z11, z12, z13, z14, z15, z16, z17, z18, z19, z20]) (fun r w' => r = some (.int (Mq_c0 q7 a1)) ∧ w' = (wc, [ob 9 [.int m_thrown, .int m_trouble, .int m_fault, .int m_where, .ref 1001, .ref 1002, .int 40, .ref 1003, .int m_taped, .int m_linkMany, .int m_tracerMany, .int m_pointMany, .int m_pairMany, .ref 1004, .ref 1005, .ref 1006, .ref 1007, .int m_readLinks, .int m_readTracers, .int m_readPoints, .int m_readPairs, .ref 1008, .ref 1009, .ref 1010, .ref 1011, .int m_textLong, .int m_at, .int m_spot, .int m_token, .int m_whole, .int m_readFault, .int m_readPlace, .int m_value, .long m_n, .long m_c, .long m_d, .long m_s, .long m_e, .long m_k, .long m_x, .long m_y, .long m_g, .long m_a, .ref 1012, .ref 1013, .ref 1014, .int m_curveMany, .ref 1015, .int m_cornerMany, .int m_straightAt, .ref 1016, .long m_fitUp, .long m_fitDown, .long m_worstUp, .long m_worstDown, .ref 1017, .int m_walkLink, .int m_walkAngle, .int m_walkBranch, .int m_walkMany, .ref 1018, .ref 1019, .int m_lined, .ref 1020, .int m_actMany], z1, z2, z3, z4, z5, z6, ia 16 q7, z8, z9, z10, z11, z12, z13, z14, z15, z16, z17, z18, z19, z20])) := by
  refine ct_of ⟨by decide, rfl⟩ (Nat.le_of_ble_eq_true rfl) ?_
  refine ab_aload_n dX11_cosOf_0 rfl ?_
  refine ab_getf dX11_cosOf_1 fl_X11_51 rfl rfl ?_
  refine ab_iconst (v := 4) dX11_cosOf_4 (by decide) ?_
  refine ab_iload_n dX11_cosOf_5 rfl ?_
  refine ab_imul dX11_cosOf_6 ?_
  refine ab_iload_n dX11_cosOf_7 rfl ?_
  refine ab_iadd dX11_cosOf_8 ?_
  refine ab_iconst (v := 1) dX11_cosOf_9 (by decide) ?_
  refine ab_iadd dX11_cosOf_10 ?_
  refine ab_iald (j := (0 + Int32.toNatClampNeg a1 * 4 + 1)) dX11_cosOf_11 rfl (ix_mp (y := 1) h_i h_r.2 (by decide) (by decide) (by decide)) ?_
  refine ab_aload_n dX11_cosOf_12 rfl ?_
  refine ab_getf dX11_cosOf_13 fl_X11_51 rfl rfl ?_
  refine ab_iconst (v := 4) dX11_cosOf_16 (by decide) ?_
  refine ab_iload_n dX11_cosOf_17 rfl ?_
  refine ab_imul dX11_cosOf_18 ?_
  refine ab_iload_n dX11_cosOf_19 rfl ?_
  refine ab_iadd dX11_cosOf_20 ?_
  refine ab_iconst (v := 1) dX11_cosOf_21 (by decide) ?_
  refine ab_iadd dX11_cosOf_22 ?_
  refine ab_iald (j := (0 + Int32.toNatClampNeg a1 * 4 + 1)) dX11_cosOf_23 rfl (ix_mp (y := 1) h_i h_r.2 (by decide) (by decide) (by decide)) ?_
  refine ab_imul dX11_cosOf_24 ?_
  refine ab_aload_n dX11_cosOf_25 rfl ?_
  refine ab_getf dX11_cosOf_26 fl_X11_51 rfl rfl ?_
  refine ab_iconst (v := 4) dX11_cosOf_29 (by decide) ?_
  refine ab_iload_n dX11_cosOf_30 rfl ?_
  refine ab_imul dX11_cosOf_31 ?_
  refine ab_iload_n dX11_cosOf_32 rfl ?_
  refine ab_iadd dX11_cosOf_33 ?_
  refine ab_iald (j := (0 + Int32.toNatClampNeg a1 * 4 + 0)) dX11_cosOf_34 rfl (ix_ml (W := 4) (c := 4) h_i h_r.2 (show 0 ≤ (0 : Int32) ∧ (0 : Int32) < nI 4 by decide) (by decide) (by decide) (by decide) (by decide)) ?_
  refine ab_aload_n dX11_cosOf_35 rfl ?_
  refine ab_getf dX11_cosOf_36 fl_X11_51 rfl rfl ?_
  refine ab_iconst (v := 4) dX11_cosOf_39 (by decide) ?_
  refine ab_iload_n dX11_cosOf_40 rfl ?_
  refine ab_imul dX11_cosOf_41 ?_
  refine ab_iload_n dX11_cosOf_42 rfl ?_
  refine ab_iadd dX11_cosOf_43 ?_
  refine ab_iald (j := (0 + Int32.toNatClampNeg a1 * 4 + 0)) dX11_cosOf_44 rfl (ix_ml (W := 4) (c := 4) h_i h_r.2 (show 0 ≤ (0 : Int32) ∧ (0 : Int32) < nI 4 by decide) (by decide) (by decide) (by decide) (by decide)) ?_
  refine ab_imul dX11_cosOf_45 ?_
  refine ab_isub dX11_cosOf_46 ?_
  exact ab_iret dX11_cosOf_47 rfl (by decide) (⟨rfl, rfl⟩)
def Mq_c2 (q7 : Nat → Int32) (a1 : Int32) : Int32 := (((q7 (0 + Int32.toNatClampNeg a1 * 4 + 3)) * (q7 (0 + Int32.toNatClampNeg a1 * 4 + 3))) - ((q7 (0 + Int32.toNatClampNeg a1 * 4 + 2)) * (q7 (0 + Int32.toNatClampNeg a1 * 4 + 2))))
theorem c_X11_cosOf_2 {wc : List ax_E} {m_thrown m_trouble m_fault m_where m_taped m_linkMany m_tracerMany m_pointMany m_pairMany m_readLinks m_readTracers m_readPoints m_readPairs m_textLong m_at m_spot m_token m_whole m_readFault m_readPlace m_value m_curveMany m_cornerMany m_straightAt m_walkLink m_walkAngle m_walkBranch m_walkMany m_lined m_actMany a1 : Int32} {m_n m_c m_d m_s m_e m_k m_x m_y m_g m_a m_fitUp m_fitDown m_worstUp m_worstDown : Int64} {z1 z2 z3 z4 z5 z6 z8 z9 z10 z11 z12 z13 z14 z15 z16 z17 z18 z19 z20 : ax_E} {q7 : Nat → Int32} (h_i : 0 ≤ a1 ∧ a1 < m_pairMany) (h_r : 0 ≤ m_pairMany ∧ m_pairMany ≤ nI 4) : Ct M_X11_cosOf [.ref 1000, .int a1, .int 2] (wc, [ob 9 [.int m_thrown, .int m_trouble, .int m_fault, .int m_where, .ref 1001, .ref 1002, .int 40, .ref 1003, .int m_taped, .int m_linkMany, .int m_tracerMany, .int m_pointMany, .int m_pairMany, .ref 1004, .ref 1005, .ref 1006, .ref 1007, .int m_readLinks, .int m_readTracers, .int m_readPoints, .int m_readPairs, .ref 1008, .ref 1009, .ref 1010, .ref 1011, .int m_textLong, .int m_at, .int m_spot, .int m_token, .int m_whole, .int m_readFault, .int m_readPlace, .int m_value, .long m_n, .long m_c, .long m_d, .long m_s, .long m_e, .long m_k, .long m_x, .long m_y, .long m_g, .long m_a, .ref 1012, .ref 1013, .ref 1014, .int m_curveMany, .ref 1015, .int m_cornerMany, .int m_straightAt, .ref 1016, .long m_fitUp, .long m_fitDown, .long m_worstUp, .long m_worstDown, .ref 1017, .int m_walkLink, .int m_walkAngle, .int m_walkBranch, .int m_walkMany, .ref 1018, .ref 1019, .int m_lined, .ref 1020, .int m_actMany], z1, z2, z3, z4, z5, z6, ia 16 q7, z8, z9, z10, z11, z12, z13, z14, z15, z16, z17, z18, z19, z20]) (fun r w' => r = some (.int (Mq_c2 q7 a1)) ∧ w' = (wc, [ob 9 [.int m_thrown, .int m_trouble, .int m_fault, .int m_where, .ref 1001, .ref 1002, .int 40, .ref 1003, .int m_taped, .int m_linkMany, .int m_tracerMany, .int m_pointMany, .int m_pairMany, .ref 1004, .ref 1005, .ref 1006, .ref 1007, .int m_readLinks, .int m_readTracers, .int m_readPoints, .int m_readPairs, .ref 1008, .ref 1009, .ref 1010, .ref 1011, .int m_textLong, .int m_at, .int m_spot, .int m_token, .int m_whole, .int m_readFault, .int m_readPlace, .int m_value, .long m_n, .long m_c, .long m_d, .long m_s, .long m_e, .long m_k, .long m_x, .long m_y, .long m_g, .long m_a, .ref 1012, .ref 1013, .ref 1014, .int m_curveMany, .ref 1015, .int m_cornerMany, .int m_straightAt, .ref 1016, .long m_fitUp, .long m_fitDown, .long m_worstUp, .long m_worstDown, .ref 1017, .int m_walkLink, .int m_walkAngle, .int m_walkBranch, .int m_walkMany, .ref 1018, .ref 1019, .int m_lined, .ref 1020, .int m_actMany], z1, z2, z3, z4, z5, z6, ia 16 q7, z8, z9, z10, z11, z12, z13, z14, z15, z16, z17, z18, z19, z20])) := by
  refine ct_of ⟨by decide, rfl⟩ (Nat.le_of_ble_eq_true rfl) ?_
  refine ab_aload_n dX11_cosOf_0 rfl ?_
  refine ab_getf dX11_cosOf_1 fl_X11_51 rfl rfl ?_
  refine ab_iconst (v := 4) dX11_cosOf_4 (by decide) ?_
  refine ab_iload_n dX11_cosOf_5 rfl ?_
  refine ab_imul dX11_cosOf_6 ?_
  refine ab_iload_n dX11_cosOf_7 rfl ?_
  refine ab_iadd dX11_cosOf_8 ?_
  refine ab_iconst (v := 1) dX11_cosOf_9 (by decide) ?_
  refine ab_iadd dX11_cosOf_10 ?_
  refine ab_iald (j := (0 + Int32.toNatClampNeg a1 * 4 + 3)) dX11_cosOf_11 rfl (ix_mp (y := 3) h_i h_r.2 (by decide) (by decide) (by decide)) ?_
  refine ab_aload_n dX11_cosOf_12 rfl ?_
  refine ab_getf dX11_cosOf_13 fl_X11_51 rfl rfl ?_
  refine ab_iconst (v := 4) dX11_cosOf_16 (by decide) ?_
  refine ab_iload_n dX11_cosOf_17 rfl ?_
  refine ab_imul dX11_cosOf_18 ?_
  refine ab_iload_n dX11_cosOf_19 rfl ?_
  refine ab_iadd dX11_cosOf_20 ?_
  refine ab_iconst (v := 1) dX11_cosOf_21 (by decide) ?_
  refine ab_iadd dX11_cosOf_22 ?_
  refine ab_iald (j := (0 + Int32.toNatClampNeg a1 * 4 + 3)) dX11_cosOf_23 rfl (ix_mp (y := 3) h_i h_r.2 (by decide) (by decide) (by decide)) ?_
  refine ab_imul dX11_cosOf_24 ?_
  refine ab_aload_n dX11_cosOf_25 rfl ?_
  refine ab_getf dX11_cosOf_26 fl_X11_51 rfl rfl ?_
  refine ab_iconst (v := 4) dX11_cosOf_29 (by decide) ?_
  refine ab_iload_n dX11_cosOf_30 rfl ?_
  refine ab_imul dX11_cosOf_31 ?_
  refine ab_iload_n dX11_cosOf_32 rfl ?_
  refine ab_iadd dX11_cosOf_33 ?_
  refine ab_iald (j := (0 + Int32.toNatClampNeg a1 * 4 + 2)) dX11_cosOf_34 rfl (ix_ml (W := 4) (c := 4) h_i h_r.2 (show 0 ≤ (2 : Int32) ∧ (2 : Int32) < nI 4 by decide) (by decide) (by decide) (by decide) (by decide)) ?_
  refine ab_aload_n dX11_cosOf_35 rfl ?_
  refine ab_getf dX11_cosOf_36 fl_X11_51 rfl rfl ?_
  refine ab_iconst (v := 4) dX11_cosOf_39 (by decide) ?_
  refine ab_iload_n dX11_cosOf_40 rfl ?_
  refine ab_imul dX11_cosOf_41 ?_
  refine ab_iload_n dX11_cosOf_42 rfl ?_
  refine ab_iadd dX11_cosOf_43 ?_
  refine ab_iald (j := (0 + Int32.toNatClampNeg a1 * 4 + 2)) dX11_cosOf_44 rfl (ix_ml (W := 4) (c := 4) h_i h_r.2 (show 0 ≤ (2 : Int32) ∧ (2 : Int32) < nI 4 by decide) (by decide) (by decide) (by decide) (by decide)) ?_
  refine ab_imul dX11_cosOf_45 ?_
  refine ab_isub dX11_cosOf_46 ?_
  exact ab_iret dX11_cosOf_47 rfl (by decide) (⟨rfl, rfl⟩)
def Mq_s0 (q7 : Nat → Int32) (a1 : Int32) : Int32 := ((2 * (q7 (0 + Int32.toNatClampNeg a1 * 4 + 0))) * (q7 (0 + Int32.toNatClampNeg a1 * 4 + 1)))
theorem c_X11_sinOf_0 {wc : List ax_E} {m_thrown m_trouble m_fault m_where m_taped m_linkMany m_tracerMany m_pointMany m_pairMany m_readLinks m_readTracers m_readPoints m_readPairs m_textLong m_at m_spot m_token m_whole m_readFault m_readPlace m_value m_curveMany m_cornerMany m_straightAt m_walkLink m_walkAngle m_walkBranch m_walkMany m_lined m_actMany a1 : Int32} {m_n m_c m_d m_s m_e m_k m_x m_y m_g m_a m_fitUp m_fitDown m_worstUp m_worstDown : Int64} {z1 z2 z3 z4 z5 z6 z8 z9 z10 z11 z12 z13 z14 z15 z16 z17 z18 z19 z20 : ax_E} {q7 : Nat → Int32} (h_i : 0 ≤ a1 ∧ a1 < m_pairMany) (h_r : 0 ≤ m_pairMany ∧ m_pairMany ≤ nI 4) : Ct M_X11_sinOf [.ref 1000, .int a1, .int 0] (wc, [ob 9 [.int m_thrown, .int m_trouble, .int m_fault, .int m_where, .ref 1001, .ref 1002, .int 40, .ref 1003, .int m_taped, .int m_linkMany, .int m_tracerMany, .int m_pointMany, .int m_pairMany, .ref 1004, .ref 1005, .ref 1006, .ref 1007, .int m_readLinks, .int m_readTracers, .int m_readPoints, .int m_readPairs, .ref 1008, .ref 1009, .ref 1010, .ref 1011, .int m_textLong, .int m_at, .int m_spot, .int m_token, .int m_whole, .int m_readFault, .int m_readPlace, .int m_value, .long m_n, .long m_c, .long m_d, .long m_s, .long m_e, .long m_k, .long m_x, .long m_y, .long m_g, .long m_a, .ref 1012, .ref 1013, .ref 1014, .int m_curveMany, .ref 1015, .int m_cornerMany, .int m_straightAt, .ref 1016, .long m_fitUp, .long m_fitDown, .long m_worstUp, .long m_worstDown, .ref 1017, .int m_walkLink, .int m_walkAngle, .int m_walkBranch, .int m_walkMany, .ref 1018, .ref 1019, .int m_lined, .ref 1020, .int m_actMany], z1, z2, z3, z4, z5, z6, ia 16 q7, z8, z9, z10, z11, z12, z13, z14, z15, z16, z17, z18, z19, z20]) (fun r w' => r = some (.int (Mq_s0 q7 a1)) ∧ w' = (wc, [ob 9 [.int m_thrown, .int m_trouble, .int m_fault, .int m_where, .ref 1001, .ref 1002, .int 40, .ref 1003, .int m_taped, .int m_linkMany, .int m_tracerMany, .int m_pointMany, .int m_pairMany, .ref 1004, .ref 1005, .ref 1006, .ref 1007, .int m_readLinks, .int m_readTracers, .int m_readPoints, .int m_readPairs, .ref 1008, .ref 1009, .ref 1010, .ref 1011, .int m_textLong, .int m_at, .int m_spot, .int m_token, .int m_whole, .int m_readFault, .int m_readPlace, .int m_value, .long m_n, .long m_c, .long m_d, .long m_s, .long m_e, .long m_k, .long m_x, .long m_y, .long m_g, .long m_a, .ref 1012, .ref 1013, .ref 1014, .int m_curveMany, .ref 1015, .int m_cornerMany, .int m_straightAt, .ref 1016, .long m_fitUp, .long m_fitDown, .long m_worstUp, .long m_worstDown, .ref 1017, .int m_walkLink, .int m_walkAngle, .int m_walkBranch, .int m_walkMany, .ref 1018, .ref 1019, .int m_lined, .ref 1020, .int m_actMany], z1, z2, z3, z4, z5, z6, ia 16 q7, z8, z9, z10, z11, z12, z13, z14, z15, z16, z17, z18, z19, z20])) := by
  refine ct_of ⟨by decide, rfl⟩ (Nat.le_of_ble_eq_true rfl) ?_
  refine ab_iconst (v := 2) dX11_sinOf_0 (by decide) ?_
  refine ab_aload_n dX11_sinOf_1 rfl ?_
  refine ab_getf dX11_sinOf_2 fl_X11_51 rfl rfl ?_
  refine ab_iconst (v := 4) dX11_sinOf_5 (by decide) ?_
  refine ab_iload_n dX11_sinOf_6 rfl ?_
  refine ab_imul dX11_sinOf_7 ?_
  refine ab_iload_n dX11_sinOf_8 rfl ?_
  refine ab_iadd dX11_sinOf_9 ?_
  refine ab_iald (j := (0 + Int32.toNatClampNeg a1 * 4 + 0)) dX11_sinOf_10 rfl (ix_ml (W := 4) (c := 4) h_i h_r.2 (show 0 ≤ (0 : Int32) ∧ (0 : Int32) < nI 4 by decide) (by decide) (by decide) (by decide) (by decide)) ?_
  refine ab_imul dX11_sinOf_11 ?_
  refine ab_aload_n dX11_sinOf_12 rfl ?_
  refine ab_getf dX11_sinOf_13 fl_X11_51 rfl rfl ?_
  refine ab_iconst (v := 4) dX11_sinOf_16 (by decide) ?_
  refine ab_iload_n dX11_sinOf_17 rfl ?_
  refine ab_imul dX11_sinOf_18 ?_
  refine ab_iload_n dX11_sinOf_19 rfl ?_
  refine ab_iadd dX11_sinOf_20 ?_
  refine ab_iconst (v := 1) dX11_sinOf_21 (by decide) ?_
  refine ab_iadd dX11_sinOf_22 ?_
  refine ab_iald (j := (0 + Int32.toNatClampNeg a1 * 4 + 1)) dX11_sinOf_23 rfl (ix_mp (y := 1) h_i h_r.2 (by decide) (by decide) (by decide)) ?_
  refine ab_imul dX11_sinOf_24 ?_
  exact ab_iret dX11_sinOf_25 rfl (by decide) (⟨rfl, rfl⟩)
def Mq_s2 (q7 : Nat → Int32) (a1 : Int32) : Int32 := ((2 * (q7 (0 + Int32.toNatClampNeg a1 * 4 + 2))) * (q7 (0 + Int32.toNatClampNeg a1 * 4 + 3)))
theorem c_X11_sinOf_2 {wc : List ax_E} {m_thrown m_trouble m_fault m_where m_taped m_linkMany m_tracerMany m_pointMany m_pairMany m_readLinks m_readTracers m_readPoints m_readPairs m_textLong m_at m_spot m_token m_whole m_readFault m_readPlace m_value m_curveMany m_cornerMany m_straightAt m_walkLink m_walkAngle m_walkBranch m_walkMany m_lined m_actMany a1 : Int32} {m_n m_c m_d m_s m_e m_k m_x m_y m_g m_a m_fitUp m_fitDown m_worstUp m_worstDown : Int64} {z1 z2 z3 z4 z5 z6 z8 z9 z10 z11 z12 z13 z14 z15 z16 z17 z18 z19 z20 : ax_E} {q7 : Nat → Int32} (h_i : 0 ≤ a1 ∧ a1 < m_pairMany) (h_r : 0 ≤ m_pairMany ∧ m_pairMany ≤ nI 4) : Ct M_X11_sinOf [.ref 1000, .int a1, .int 2] (wc, [ob 9 [.int m_thrown, .int m_trouble, .int m_fault, .int m_where, .ref 1001, .ref 1002, .int 40, .ref 1003, .int m_taped, .int m_linkMany, .int m_tracerMany, .int m_pointMany, .int m_pairMany, .ref 1004, .ref 1005, .ref 1006, .ref 1007, .int m_readLinks, .int m_readTracers, .int m_readPoints, .int m_readPairs, .ref 1008, .ref 1009, .ref 1010, .ref 1011, .int m_textLong, .int m_at, .int m_spot, .int m_token, .int m_whole, .int m_readFault, .int m_readPlace, .int m_value, .long m_n, .long m_c, .long m_d, .long m_s, .long m_e, .long m_k, .long m_x, .long m_y, .long m_g, .long m_a, .ref 1012, .ref 1013, .ref 1014, .int m_curveMany, .ref 1015, .int m_cornerMany, .int m_straightAt, .ref 1016, .long m_fitUp, .long m_fitDown, .long m_worstUp, .long m_worstDown, .ref 1017, .int m_walkLink, .int m_walkAngle, .int m_walkBranch, .int m_walkMany, .ref 1018, .ref 1019, .int m_lined, .ref 1020, .int m_actMany], z1, z2, z3, z4, z5, z6, ia 16 q7, z8, z9, z10, z11, z12, z13, z14, z15, z16, z17, z18, z19, z20]) (fun r w' => r = some (.int (Mq_s2 q7 a1)) ∧ w' = (wc, [ob 9 [.int m_thrown, .int m_trouble, .int m_fault, .int m_where, .ref 1001, .ref 1002, .int 40, .ref 1003, .int m_taped, .int m_linkMany, .int m_tracerMany, .int m_pointMany, .int m_pairMany, .ref 1004, .ref 1005, .ref 1006, .ref 1007, .int m_readLinks, .int m_readTracers, .int m_readPoints, .int m_readPairs, .ref 1008, .ref 1009, .ref 1010, .ref 1011, .int m_textLong, .int m_at, .int m_spot, .int m_token, .int m_whole, .int m_readFault, .int m_readPlace, .int m_value, .long m_n, .long m_c, .long m_d, .long m_s, .long m_e, .long m_k, .long m_x, .long m_y, .long m_g, .long m_a, .ref 1012, .ref 1013, .ref 1014, .int m_curveMany, .ref 1015, .int m_cornerMany, .int m_straightAt, .ref 1016, .long m_fitUp, .long m_fitDown, .long m_worstUp, .long m_worstDown, .ref 1017, .int m_walkLink, .int m_walkAngle, .int m_walkBranch, .int m_walkMany, .ref 1018, .ref 1019, .int m_lined, .ref 1020, .int m_actMany], z1, z2, z3, z4, z5, z6, ia 16 q7, z8, z9, z10, z11, z12, z13, z14, z15, z16, z17, z18, z19, z20])) := by
  refine ct_of ⟨by decide, rfl⟩ (Nat.le_of_ble_eq_true rfl) ?_
  refine ab_iconst (v := 2) dX11_sinOf_0 (by decide) ?_
  refine ab_aload_n dX11_sinOf_1 rfl ?_
  refine ab_getf dX11_sinOf_2 fl_X11_51 rfl rfl ?_
  refine ab_iconst (v := 4) dX11_sinOf_5 (by decide) ?_
  refine ab_iload_n dX11_sinOf_6 rfl ?_
  refine ab_imul dX11_sinOf_7 ?_
  refine ab_iload_n dX11_sinOf_8 rfl ?_
  refine ab_iadd dX11_sinOf_9 ?_
  refine ab_iald (j := (0 + Int32.toNatClampNeg a1 * 4 + 2)) dX11_sinOf_10 rfl (ix_ml (W := 4) (c := 4) h_i h_r.2 (show 0 ≤ (2 : Int32) ∧ (2 : Int32) < nI 4 by decide) (by decide) (by decide) (by decide) (by decide)) ?_
  refine ab_imul dX11_sinOf_11 ?_
  refine ab_aload_n dX11_sinOf_12 rfl ?_
  refine ab_getf dX11_sinOf_13 fl_X11_51 rfl rfl ?_
  refine ab_iconst (v := 4) dX11_sinOf_16 (by decide) ?_
  refine ab_iload_n dX11_sinOf_17 rfl ?_
  refine ab_imul dX11_sinOf_18 ?_
  refine ab_iload_n dX11_sinOf_19 rfl ?_
  refine ab_iadd dX11_sinOf_20 ?_
  refine ab_iconst (v := 1) dX11_sinOf_21 (by decide) ?_
  refine ab_iadd dX11_sinOf_22 ?_
  refine ab_iald (j := (0 + Int32.toNatClampNeg a1 * 4 + 3)) dX11_sinOf_23 rfl (ix_mp (y := 3) h_i h_r.2 (by decide) (by decide) (by decide)) ?_
  refine ab_imul dX11_sinOf_24 ?_
  exact ab_iret dX11_sinOf_25 rfl (by decide) (⟨rfl, rfl⟩)
def Mq_b (q7 : Nat → Int32) (a1 : Int32) : Int32 := (((Mq_c0 q7 a1) * (Mq_c2 q7 a1)) + ((Mq_s0 q7 a1) * (Mq_s2 q7 a1)))
theorem c_X11_bothOf {wc : List ax_E} {m_thrown m_trouble m_fault m_where m_taped m_linkMany m_tracerMany m_pointMany m_pairMany m_readLinks m_readTracers m_readPoints m_readPairs m_textLong m_at m_spot m_token m_whole m_readFault m_readPlace m_value m_curveMany m_cornerMany m_straightAt m_walkLink m_walkAngle m_walkBranch m_walkMany m_lined m_actMany a1 : Int32} {m_n m_c m_d m_s m_e m_k m_x m_y m_g m_a m_fitUp m_fitDown m_worstUp m_worstDown : Int64} {z1 z2 z3 z4 z5 z6 z8 z9 z10 z11 z12 z13 z14 z15 z16 z17 z18 z19 z20 : ax_E} {q7 : Nat → Int32} (h_i : 0 ≤ a1 ∧ a1 < m_pairMany) (h_r : 0 ≤ m_pairMany ∧ m_pairMany ≤ nI 4) : Ct M_X11_bothOf [.ref 1000, .int a1] (wc, [ob 9 [.int m_thrown, .int m_trouble, .int m_fault, .int m_where, .ref 1001, .ref 1002, .int 40, .ref 1003, .int m_taped, .int m_linkMany, .int m_tracerMany, .int m_pointMany, .int m_pairMany, .ref 1004, .ref 1005, .ref 1006, .ref 1007, .int m_readLinks, .int m_readTracers, .int m_readPoints, .int m_readPairs, .ref 1008, .ref 1009, .ref 1010, .ref 1011, .int m_textLong, .int m_at, .int m_spot, .int m_token, .int m_whole, .int m_readFault, .int m_readPlace, .int m_value, .long m_n, .long m_c, .long m_d, .long m_s, .long m_e, .long m_k, .long m_x, .long m_y, .long m_g, .long m_a, .ref 1012, .ref 1013, .ref 1014, .int m_curveMany, .ref 1015, .int m_cornerMany, .int m_straightAt, .ref 1016, .long m_fitUp, .long m_fitDown, .long m_worstUp, .long m_worstDown, .ref 1017, .int m_walkLink, .int m_walkAngle, .int m_walkBranch, .int m_walkMany, .ref 1018, .ref 1019, .int m_lined, .ref 1020, .int m_actMany], z1, z2, z3, z4, z5, z6, ia 16 q7, z8, z9, z10, z11, z12, z13, z14, z15, z16, z17, z18, z19, z20]) (fun r w' => r = some (.int (Mq_b q7 a1)) ∧ w' = (wc, [ob 9 [.int m_thrown, .int m_trouble, .int m_fault, .int m_where, .ref 1001, .ref 1002, .int 40, .ref 1003, .int m_taped, .int m_linkMany, .int m_tracerMany, .int m_pointMany, .int m_pairMany, .ref 1004, .ref 1005, .ref 1006, .ref 1007, .int m_readLinks, .int m_readTracers, .int m_readPoints, .int m_readPairs, .ref 1008, .ref 1009, .ref 1010, .ref 1011, .int m_textLong, .int m_at, .int m_spot, .int m_token, .int m_whole, .int m_readFault, .int m_readPlace, .int m_value, .long m_n, .long m_c, .long m_d, .long m_s, .long m_e, .long m_k, .long m_x, .long m_y, .long m_g, .long m_a, .ref 1012, .ref 1013, .ref 1014, .int m_curveMany, .ref 1015, .int m_cornerMany, .int m_straightAt, .ref 1016, .long m_fitUp, .long m_fitDown, .long m_worstUp, .long m_worstDown, .ref 1017, .int m_walkLink, .int m_walkAngle, .int m_walkBranch, .int m_walkMany, .ref 1018, .ref 1019, .int m_lined, .ref 1020, .int m_actMany], z1, z2, z3, z4, z5, z6, ia 16 q7, z8, z9, z10, z11, z12, z13, z14, z15, z16, z17, z18, z19, z20])) := by
  refine ct_of ⟨by decide, rfl⟩ (Nat.le_of_ble_eq_true rfl) ?_
  refine ab_aload_n dX11_bothOf_0 rfl ?_
  refine ab_iload_n dX11_bothOf_1 rfl ?_
  refine ab_iconst (v := 0) dX11_bothOf_2 (by decide) ?_
  refine ab_callV (As := [.int a1, .int 0]) (rest := []) dX11_bothOf_3 mv_X11_cosOf ml_X11_492 ⟨by decide, by decide, rfl, rfl, rfl⟩ (by decide) rfl rfl (Nat.le_of_ble_eq_true rfl) rfl (c_X11_cosOf_0 h_i h_r) ?_
  rintro r w' ⟨rfl, rfl⟩
  refine ab_aload_n dX11_bothOf_6 rfl ?_
  refine ab_iload_n dX11_bothOf_7 rfl ?_
  refine ab_iconst (v := 2) dX11_bothOf_8 (by decide) ?_
  refine ab_callV (As := [.int a1, .int 2]) (rest := [.int (Mq_c0 q7 a1)]) dX11_bothOf_9 mv_X11_cosOf ml_X11_492 ⟨by decide, by decide, rfl, rfl, rfl⟩ (by decide) rfl rfl (Nat.le_of_ble_eq_true rfl) rfl (c_X11_cosOf_2 h_i h_r) ?_
  rintro r w' ⟨rfl, rfl⟩
  refine ab_imul dX11_bothOf_12 ?_
  refine ab_aload_n dX11_bothOf_13 rfl ?_
  refine ab_iload_n dX11_bothOf_14 rfl ?_
  refine ab_iconst (v := 0) dX11_bothOf_15 (by decide) ?_
  refine ab_callV (As := [.int a1, .int 0]) (rest := [.int ((Mq_c0 q7 a1) * (Mq_c2 q7 a1))]) dX11_bothOf_16 mv_X11_sinOf ml_X11_495 ⟨by decide, by decide, rfl, rfl, rfl⟩ (by decide) rfl rfl (Nat.le_of_ble_eq_true rfl) rfl (c_X11_sinOf_0 h_i h_r) ?_
  rintro r w' ⟨rfl, rfl⟩
  refine ab_aload_n dX11_bothOf_19 rfl ?_
  refine ab_iload_n dX11_bothOf_20 rfl ?_
  refine ab_iconst (v := 2) dX11_bothOf_21 (by decide) ?_
  refine ab_callV (As := [.int a1, .int 2]) (rest := [.int (Mq_s0 q7 a1), .int ((Mq_c0 q7 a1) * (Mq_c2 q7 a1))]) dX11_bothOf_22 mv_X11_sinOf ml_X11_495 ⟨by decide, by decide, rfl, rfl, rfl⟩ (by decide) rfl rfl (Nat.le_of_ble_eq_true rfl) rfl (c_X11_sinOf_2 h_i h_r) ?_
  rintro r w' ⟨rfl, rfl⟩
  refine ab_imul dX11_bothOf_25 ?_
  refine ab_iadd dX11_bothOf_26 ?_
  exact ab_iret dX11_bothOf_27 rfl (by decide) (⟨rfl, rfl⟩)
def Mq_by (q7 : Nat → Int32) (a1 : Int32) : Int32 := ((Mq_n0 q7 a1) * (Mq_n2 q7 a1))
theorem c_X11_byOf {wc : List ax_E} {m_thrown m_trouble m_fault m_where m_taped m_linkMany m_tracerMany m_pointMany m_pairMany m_readLinks m_readTracers m_readPoints m_readPairs m_textLong m_at m_spot m_token m_whole m_readFault m_readPlace m_value m_curveMany m_cornerMany m_straightAt m_walkLink m_walkAngle m_walkBranch m_walkMany m_lined m_actMany a1 : Int32} {m_n m_c m_d m_s m_e m_k m_x m_y m_g m_a m_fitUp m_fitDown m_worstUp m_worstDown : Int64} {z1 z2 z3 z4 z5 z6 z8 z9 z10 z11 z12 z13 z14 z15 z16 z17 z18 z19 z20 : ax_E} {q7 : Nat → Int32} (h_i : 0 ≤ a1 ∧ a1 < m_pairMany) (h_r : 0 ≤ m_pairMany ∧ m_pairMany ≤ nI 4) : Ct M_X11_byOf [.ref 1000, .int a1] (wc, [ob 9 [.int m_thrown, .int m_trouble, .int m_fault, .int m_where, .ref 1001, .ref 1002, .int 40, .ref 1003, .int m_taped, .int m_linkMany, .int m_tracerMany, .int m_pointMany, .int m_pairMany, .ref 1004, .ref 1005, .ref 1006, .ref 1007, .int m_readLinks, .int m_readTracers, .int m_readPoints, .int m_readPairs, .ref 1008, .ref 1009, .ref 1010, .ref 1011, .int m_textLong, .int m_at, .int m_spot, .int m_token, .int m_whole, .int m_readFault, .int m_readPlace, .int m_value, .long m_n, .long m_c, .long m_d, .long m_s, .long m_e, .long m_k, .long m_x, .long m_y, .long m_g, .long m_a, .ref 1012, .ref 1013, .ref 1014, .int m_curveMany, .ref 1015, .int m_cornerMany, .int m_straightAt, .ref 1016, .long m_fitUp, .long m_fitDown, .long m_worstUp, .long m_worstDown, .ref 1017, .int m_walkLink, .int m_walkAngle, .int m_walkBranch, .int m_walkMany, .ref 1018, .ref 1019, .int m_lined, .ref 1020, .int m_actMany], z1, z2, z3, z4, z5, z6, ia 16 q7, z8, z9, z10, z11, z12, z13, z14, z15, z16, z17, z18, z19, z20]) (fun r w' => r = some (.int (Mq_by q7 a1)) ∧ w' = (wc, [ob 9 [.int m_thrown, .int m_trouble, .int m_fault, .int m_where, .ref 1001, .ref 1002, .int 40, .ref 1003, .int m_taped, .int m_linkMany, .int m_tracerMany, .int m_pointMany, .int m_pairMany, .ref 1004, .ref 1005, .ref 1006, .ref 1007, .int m_readLinks, .int m_readTracers, .int m_readPoints, .int m_readPairs, .ref 1008, .ref 1009, .ref 1010, .ref 1011, .int m_textLong, .int m_at, .int m_spot, .int m_token, .int m_whole, .int m_readFault, .int m_readPlace, .int m_value, .long m_n, .long m_c, .long m_d, .long m_s, .long m_e, .long m_k, .long m_x, .long m_y, .long m_g, .long m_a, .ref 1012, .ref 1013, .ref 1014, .int m_curveMany, .ref 1015, .int m_cornerMany, .int m_straightAt, .ref 1016, .long m_fitUp, .long m_fitDown, .long m_worstUp, .long m_worstDown, .ref 1017, .int m_walkLink, .int m_walkAngle, .int m_walkBranch, .int m_walkMany, .ref 1018, .ref 1019, .int m_lined, .ref 1020, .int m_actMany], z1, z2, z3, z4, z5, z6, ia 16 q7, z8, z9, z10, z11, z12, z13, z14, z15, z16, z17, z18, z19, z20])) := by
  refine ct_of ⟨by decide, rfl⟩ (Nat.le_of_ble_eq_true rfl) ?_
  refine ab_aload_n dX11_byOf_0 rfl ?_
  refine ab_iload_n dX11_byOf_1 rfl ?_
  refine ab_iconst (v := 0) dX11_byOf_2 (by decide) ?_
  refine ab_callV (As := [.int a1, .int 0]) (rest := []) dX11_byOf_3 mv_X11_normOf ml_X11_498 ⟨by decide, by decide, rfl, rfl, rfl⟩ (by decide) rfl rfl (Nat.le_of_ble_eq_true rfl) rfl (c_X11_normOf_0 h_i h_r) ?_
  rintro r w' ⟨rfl, rfl⟩
  refine ab_aload_n dX11_byOf_6 rfl ?_
  refine ab_iload_n dX11_byOf_7 rfl ?_
  refine ab_iconst (v := 2) dX11_byOf_8 (by decide) ?_
  refine ab_callV (As := [.int a1, .int 2]) (rest := [.int (Mq_n0 q7 a1)]) dX11_byOf_9 mv_X11_normOf ml_X11_498 ⟨by decide, by decide, rfl, rfl, rfl⟩ (by decide) rfl rfl (Nat.le_of_ble_eq_true rfl) rfl (c_X11_normOf_2 h_i h_r) ?_
  rintro r w' ⟨rfl, rfl⟩
  refine ab_imul dX11_byOf_12 ?_
  exact ab_iret dX11_byOf_13 rfl (by decide) (⟨rfl, rfl⟩)
def Mq_cl (q7 : Nat → Int32) (a1 : Int32) (a2 : Int32) (a3 : Int32) (a4 : Int32) (a5 : Int32) : Int64 := (((((Int32.toInt64 ((((a2 * a2) + (a3 * a3)) + (a5 * a5)) - (a4 * a4))) * (Int32.toInt64 (Mq_by q7 a1))) - ((((2 * (Int32.toInt64 a2)) * (Int32.toInt64 a3)) * (Int32.toInt64 (Mq_c0 q7 a1))) * (Int32.toInt64 (Mq_n2 q7 a1)))) + ((((2 * (Int32.toInt64 a2)) * (Int32.toInt64 a5)) * (Int32.toInt64 (Mq_c2 q7 a1))) * (Int32.toInt64 (Mq_n0 q7 a1)))) - (((2 * (Int32.toInt64 a3)) * (Int32.toInt64 a5)) * (Int32.toInt64 (Mq_b q7 a1))))
theorem c_X11_closes {wc : List ax_E} {m_thrown m_trouble m_fault m_where m_taped m_linkMany m_tracerMany m_pointMany m_pairMany m_readLinks m_readTracers m_readPoints m_readPairs m_textLong m_at m_spot m_token m_whole m_readFault m_readPlace m_value m_curveMany m_cornerMany m_straightAt m_walkLink m_walkAngle m_walkBranch m_walkMany m_lined m_actMany a1 a2 a3 a4 a5 : Int32} {m_n m_c m_d m_s m_e m_k m_x m_y m_g m_a m_fitUp m_fitDown m_worstUp m_worstDown : Int64} {z1 z2 z3 z4 z5 z6 z8 z9 z10 z11 z12 z13 z14 z15 z16 z17 z18 z19 z20 : ax_E} {q7 : Nat → Int32} (h_i : 0 ≤ a1 ∧ a1 < m_pairMany) (h_r : 0 ≤ m_pairMany ∧ m_pairMany ≤ nI 4) : Ct M_X11_closes [.ref 1000, .int a1, .int a2, .int a3, .int a4, .int a5] (wc, [ob 9 [.int m_thrown, .int m_trouble, .int m_fault, .int m_where, .ref 1001, .ref 1002, .int 40, .ref 1003, .int m_taped, .int m_linkMany, .int m_tracerMany, .int m_pointMany, .int m_pairMany, .ref 1004, .ref 1005, .ref 1006, .ref 1007, .int m_readLinks, .int m_readTracers, .int m_readPoints, .int m_readPairs, .ref 1008, .ref 1009, .ref 1010, .ref 1011, .int m_textLong, .int m_at, .int m_spot, .int m_token, .int m_whole, .int m_readFault, .int m_readPlace, .int m_value, .long m_n, .long m_c, .long m_d, .long m_s, .long m_e, .long m_k, .long m_x, .long m_y, .long m_g, .long m_a, .ref 1012, .ref 1013, .ref 1014, .int m_curveMany, .ref 1015, .int m_cornerMany, .int m_straightAt, .ref 1016, .long m_fitUp, .long m_fitDown, .long m_worstUp, .long m_worstDown, .ref 1017, .int m_walkLink, .int m_walkAngle, .int m_walkBranch, .int m_walkMany, .ref 1018, .ref 1019, .int m_lined, .ref 1020, .int m_actMany], z1, z2, z3, z4, z5, z6, ia 16 q7, z8, z9, z10, z11, z12, z13, z14, z15, z16, z17, z18, z19, z20]) (fun r w' => r = some (.long (Mq_cl q7 a1 a2 a3 a4 a5)) ∧ w' = (wc, [ob 9 [.int m_thrown, .int m_trouble, .int m_fault, .int m_where, .ref 1001, .ref 1002, .int 40, .ref 1003, .int m_taped, .int m_linkMany, .int m_tracerMany, .int m_pointMany, .int m_pairMany, .ref 1004, .ref 1005, .ref 1006, .ref 1007, .int m_readLinks, .int m_readTracers, .int m_readPoints, .int m_readPairs, .ref 1008, .ref 1009, .ref 1010, .ref 1011, .int m_textLong, .int m_at, .int m_spot, .int m_token, .int m_whole, .int m_readFault, .int m_readPlace, .int m_value, .long m_n, .long m_c, .long m_d, .long m_s, .long m_e, .long m_k, .long m_x, .long m_y, .long m_g, .long m_a, .ref 1012, .ref 1013, .ref 1014, .int m_curveMany, .ref 1015, .int m_cornerMany, .int m_straightAt, .ref 1016, .long m_fitUp, .long m_fitDown, .long m_worstUp, .long m_worstDown, .ref 1017, .int m_walkLink, .int m_walkAngle, .int m_walkBranch, .int m_walkMany, .ref 1018, .ref 1019, .int m_lined, .ref 1020, .int m_actMany], z1, z2, z3, z4, z5, z6, ia 16 q7, z8, z9, z10, z11, z12, z13, z14, z15, z16, z17, z18, z19, z20])) := by
  refine ct_of ⟨by decide, rfl⟩ (Nat.le_of_ble_eq_true rfl) ?_
  refine ab_iload_n dX11_closes_0 rfl ?_
  refine ab_iload_n dX11_closes_1 rfl ?_
  refine ab_imul dX11_closes_2 ?_
  refine ab_iload_n dX11_closes_3 rfl ?_
  refine ab_iload_n dX11_closes_4 rfl ?_
  refine ab_imul dX11_closes_5 ?_
  refine ab_iadd dX11_closes_6 ?_
  refine ab_iload dX11_closes_7 rfl ?_
  refine ab_iload dX11_closes_9 rfl ?_
  refine ab_imul dX11_closes_11 ?_
  refine ab_iadd dX11_closes_12 ?_
  refine ab_iload dX11_closes_13 rfl ?_
  refine ab_iload dX11_closes_15 rfl ?_
  refine ab_imul dX11_closes_17 ?_
  refine ab_isub dX11_closes_18 ?_
  refine ab_i2l dX11_closes_19 ?_
  refine ab_lstore (la' := [(6, .long (Int32.toInt64 ((((a2 * a2) + (a3 * a3)) + (a5 * a5)) - (a4 * a4)))), (0, .ref 1000), (1, .int a1), (2, .int a2), (3, .int a3), (4, .int a4), (5, .int a5)]) dX11_closes_20 (by decide) rfl ?_
  refine ab_lload dX11_closes_22 rfl ?_
  refine ab_aload_n dX11_closes_24 rfl ?_
  refine ab_iload_n dX11_closes_25 rfl ?_
  refine ab_callV (As := [.int a1]) (rest := [.long (Int32.toInt64 ((((a2 * a2) + (a3 * a3)) + (a5 * a5)) - (a4 * a4)))]) dX11_closes_26 mv_X11_byOf ml_X11_501 ⟨by decide, by decide, rfl, rfl, rfl⟩ (by decide) rfl rfl (Nat.le_of_ble_eq_true rfl) rfl (c_X11_byOf h_i h_r) ?_
  rintro r w' ⟨rfl, rfl⟩
  refine ab_i2l dX11_closes_29 ?_
  refine ab_lmul dX11_closes_30 ?_
  refine ab_ldc2 dX11_closes_31 kl_X11_344 ?_
  refine ab_iload_n dX11_closes_34 rfl ?_
  refine ab_i2l dX11_closes_35 ?_
  refine ab_lmul dX11_closes_36 ?_
  refine ab_iload_n dX11_closes_37 rfl ?_
  refine ab_i2l dX11_closes_38 ?_
  refine ab_lmul dX11_closes_39 ?_
  refine ab_aload_n dX11_closes_40 rfl ?_
  refine ab_iload_n dX11_closes_41 rfl ?_
  refine ab_iconst (v := 0) dX11_closes_42 (by decide) ?_
  refine ab_callV (As := [.int a1, .int 0]) (rest := [.long ((2 * (Int32.toInt64 a2)) * (Int32.toInt64 a3)), .long ((Int32.toInt64 ((((a2 * a2) + (a3 * a3)) + (a5 * a5)) - (a4 * a4))) * (Int32.toInt64 (Mq_by q7 a1)))]) dX11_closes_43 mv_X11_cosOf ml_X11_492 ⟨by decide, by decide, rfl, rfl, rfl⟩ (by decide) rfl rfl (Nat.le_of_ble_eq_true rfl) rfl (c_X11_cosOf_0 h_i h_r) ?_
  rintro r w' ⟨rfl, rfl⟩
  refine ab_i2l dX11_closes_46 ?_
  refine ab_lmul dX11_closes_47 ?_
  refine ab_aload_n dX11_closes_48 rfl ?_
  refine ab_iload_n dX11_closes_49 rfl ?_
  refine ab_iconst (v := 2) dX11_closes_50 (by decide) ?_
  refine ab_callV (As := [.int a1, .int 2]) (rest := [.long (((2 * (Int32.toInt64 a2)) * (Int32.toInt64 a3)) * (Int32.toInt64 (Mq_c0 q7 a1))), .long ((Int32.toInt64 ((((a2 * a2) + (a3 * a3)) + (a5 * a5)) - (a4 * a4))) * (Int32.toInt64 (Mq_by q7 a1)))]) dX11_closes_51 mv_X11_normOf ml_X11_498 ⟨by decide, by decide, rfl, rfl, rfl⟩ (by decide) rfl rfl (Nat.le_of_ble_eq_true rfl) rfl (c_X11_normOf_2 h_i h_r) ?_
  rintro r w' ⟨rfl, rfl⟩
  refine ab_i2l dX11_closes_54 ?_
  refine ab_lmul dX11_closes_55 ?_
  refine ab_lsub dX11_closes_56 ?_
  refine ab_ldc2 dX11_closes_57 kl_X11_344 ?_
  refine ab_iload_n dX11_closes_60 rfl ?_
  refine ab_i2l dX11_closes_61 ?_
  refine ab_lmul dX11_closes_62 ?_
  refine ab_iload dX11_closes_63 rfl ?_
  refine ab_i2l dX11_closes_65 ?_
  refine ab_lmul dX11_closes_66 ?_
  refine ab_aload_n dX11_closes_67 rfl ?_
  refine ab_iload_n dX11_closes_68 rfl ?_
  refine ab_iconst (v := 2) dX11_closes_69 (by decide) ?_
  refine ab_callV (As := [.int a1, .int 2]) (rest := [.long ((2 * (Int32.toInt64 a2)) * (Int32.toInt64 a5)), .long (((Int32.toInt64 ((((a2 * a2) + (a3 * a3)) + (a5 * a5)) - (a4 * a4))) * (Int32.toInt64 (Mq_by q7 a1))) - ((((2 * (Int32.toInt64 a2)) * (Int32.toInt64 a3)) * (Int32.toInt64 (Mq_c0 q7 a1))) * (Int32.toInt64 (Mq_n2 q7 a1))))]) dX11_closes_70 mv_X11_cosOf ml_X11_492 ⟨by decide, by decide, rfl, rfl, rfl⟩ (by decide) rfl rfl (Nat.le_of_ble_eq_true rfl) rfl (c_X11_cosOf_2 h_i h_r) ?_
  rintro r w' ⟨rfl, rfl⟩
  refine ab_i2l dX11_closes_73 ?_
  refine ab_lmul dX11_closes_74 ?_
  refine ab_aload_n dX11_closes_75 rfl ?_
  refine ab_iload_n dX11_closes_76 rfl ?_
  refine ab_iconst (v := 0) dX11_closes_77 (by decide) ?_
  refine ab_callV (As := [.int a1, .int 0]) (rest := [.long (((2 * (Int32.toInt64 a2)) * (Int32.toInt64 a5)) * (Int32.toInt64 (Mq_c2 q7 a1))), .long (((Int32.toInt64 ((((a2 * a2) + (a3 * a3)) + (a5 * a5)) - (a4 * a4))) * (Int32.toInt64 (Mq_by q7 a1))) - ((((2 * (Int32.toInt64 a2)) * (Int32.toInt64 a3)) * (Int32.toInt64 (Mq_c0 q7 a1))) * (Int32.toInt64 (Mq_n2 q7 a1))))]) dX11_closes_78 mv_X11_normOf ml_X11_498 ⟨by decide, by decide, rfl, rfl, rfl⟩ (by decide) rfl rfl (Nat.le_of_ble_eq_true rfl) rfl (c_X11_normOf_0 h_i h_r) ?_
  rintro r w' ⟨rfl, rfl⟩
  refine ab_i2l dX11_closes_81 ?_
  refine ab_lmul dX11_closes_82 ?_
  refine ab_ladd dX11_closes_83 ?_
  refine ab_ldc2 dX11_closes_84 kl_X11_344 ?_
  refine ab_iload_n dX11_closes_87 rfl ?_
  refine ab_i2l dX11_closes_88 ?_
  refine ab_lmul dX11_closes_89 ?_
  refine ab_iload dX11_closes_90 rfl ?_
  refine ab_i2l dX11_closes_92 ?_
  refine ab_lmul dX11_closes_93 ?_
  refine ab_aload_n dX11_closes_94 rfl ?_
  refine ab_iload_n dX11_closes_95 rfl ?_
  refine ab_callV (As := [.int a1]) (rest := [.long ((2 * (Int32.toInt64 a3)) * (Int32.toInt64 a5)), .long ((((Int32.toInt64 ((((a2 * a2) + (a3 * a3)) + (a5 * a5)) - (a4 * a4))) * (Int32.toInt64 (Mq_by q7 a1))) - ((((2 * (Int32.toInt64 a2)) * (Int32.toInt64 a3)) * (Int32.toInt64 (Mq_c0 q7 a1))) * (Int32.toInt64 (Mq_n2 q7 a1)))) + ((((2 * (Int32.toInt64 a2)) * (Int32.toInt64 a5)) * (Int32.toInt64 (Mq_c2 q7 a1))) * (Int32.toInt64 (Mq_n0 q7 a1))))]) dX11_closes_96 mv_X11_bothOf ml_X11_504 ⟨by decide, by decide, rfl, rfl, rfl⟩ (by decide) rfl rfl (Nat.le_of_ble_eq_true rfl) rfl (c_X11_bothOf h_i h_r) ?_
  rintro r w' ⟨rfl, rfl⟩
  refine ab_i2l dX11_closes_99 ?_
  refine ab_lmul dX11_closes_100 ?_
  refine ab_lsub dX11_closes_101 ?_
  exact ab_lret dX11_closes_102 rfl (by decide) (⟨rfl, rfl⟩)
theorem c_X11_closing {wc : List ax_E} {m_thrown m_trouble m_fault m_where m_taped m_linkMany m_tracerMany m_pointMany m_pairMany m_readLinks m_readTracers m_readPoints m_readPairs m_textLong m_at m_spot m_token m_whole m_readFault m_readPlace m_value m_curveMany m_cornerMany m_straightAt m_walkLink m_walkAngle m_walkBranch m_walkMany m_lined m_actMany a1 a2 a3 : Int32} {m_n m_c m_d m_s m_e m_k m_x m_y m_g m_a m_fitUp m_fitDown m_worstUp m_worstDown : Int64} {z1 z2 z3 z5 z6 z8 z9 z10 z11 z12 z13 z14 z15 z16 z17 z18 z19 z20 : ax_E} {q4 q7 : Nat → Int32} (h_l : 0 ≤ m_linkMany ∧ m_linkMany ≤ nI 4) (h_r : 0 ≤ m_pairMany ∧ m_pairMany ≤ nI 4) (h_q2 : (0 ≤ a1 ∧ a1 < m_linkMany) → (0 ≤ a2 ∧ a2 < m_pairMany) → (Mq_cl q7 a2 (Bg q4 a1) (Ba q4 a1) (Bb q4 a1) (Bc q4 a1)).toInt ≠ -2 ^ 63) (h_q3 : (0 ≤ a1 ∧ a1 < m_linkMany) → (0 ≤ a2 ∧ a2 < m_pairMany) → (Int32.toInt64 (Mq_by q7 a2)).toInt ≠ -2 ^ 63) (h_q4 : (0 ≤ a1 ∧ a1 < m_linkMany) → (0 ≤ a2 ∧ a2 < m_pairMany) → ¬ (Int32.toInt64 (Mq_by q7 a2)) = 0) : Ct M_X11_closing [.ref 1000, .int a1, .int a2, .int a3] (wc, [ob 9 [.int m_thrown, .int m_trouble, .int m_fault, .int m_where, .ref 1001, .ref 1002, .int 40, .ref 1003, .int m_taped, .int m_linkMany, .int m_tracerMany, .int m_pointMany, .int m_pairMany, .ref 1004, .ref 1005, .ref 1006, .ref 1007, .int m_readLinks, .int m_readTracers, .int m_readPoints, .int m_readPairs, .ref 1008, .ref 1009, .ref 1010, .ref 1011, .int m_textLong, .int m_at, .int m_spot, .int m_token, .int m_whole, .int m_readFault, .int m_readPlace, .int m_value, .long m_n, .long m_c, .long m_d, .long m_s, .long m_e, .long m_k, .long m_x, .long m_y, .long m_g, .long m_a, .ref 1012, .ref 1013, .ref 1014, .int m_curveMany, .ref 1015, .int m_cornerMany, .int m_straightAt, .ref 1016, .long m_fitUp, .long m_fitDown, .long m_worstUp, .long m_worstDown, .ref 1017, .int m_walkLink, .int m_walkAngle, .int m_walkBranch, .int m_walkMany, .ref 1018, .ref 1019, .int m_lined, .ref 1020, .int m_actMany], z1, z2, z3, ia 16 q4, z5, z6, ia 16 q7, z8, z9, z10, z11, z12, z13, z14, z15, z16, z17, z18, z19, z20]) (fun r w' => ((0 ≤ a1 ∧ a1 < m_linkMany) ∧ (0 ≤ a2 ∧ a2 < m_pairMany) ∧ r = some (.long (Mp (Mq_cl q7 a2 (Bg q4 a1) (Ba q4 a1) (Bb q4 a1) (Bc q4 a1)) (Int32.toInt64 (Mq_by q7 a2)) a3)) ∧ w' = (wc, [ob 9 [.int 0, .int 0, .int m_fault, .int (-1), .ref 1001, .ref 1002, .int 40, .ref 1003, .int m_taped, .int m_linkMany, .int m_tracerMany, .int m_pointMany, .int m_pairMany, .ref 1004, .ref 1005, .ref 1006, .ref 1007, .int m_readLinks, .int m_readTracers, .int m_readPoints, .int m_readPairs, .ref 1008, .ref 1009, .ref 1010, .ref 1011, .int m_textLong, .int m_at, .int m_spot, .int m_token, .int m_whole, .int m_readFault, .int m_readPlace, .int m_value, .long m_n, .long m_c, .long m_d, .long m_s, .long m_e, .long m_k, .long m_x, .long m_y, .long m_g, .long m_a, .ref 1012, .ref 1013, .ref 1014, .int m_curveMany, .ref 1015, .int m_cornerMany, .int m_straightAt, .ref 1016, .long m_fitUp, .long m_fitDown, .long m_worstUp, .long m_worstDown, .ref 1017, .int m_walkLink, .int m_walkAngle, .int m_walkBranch, .int m_walkMany, .ref 1018, .ref 1019, .int m_lined, .ref 1020, .int m_actMany], z1, z2, z3, ia 16 q4, z5, z6, ia 16 q7, z8, z9, z10, z11, z12, z13, z14, z15, z16, z17, z18, z19, z20])) ∨ ((0 ≤ a1 ∧ a1 < m_linkMany) ∧ (¬ (0 ≤ a2 ∧ a2 < m_pairMany)) ∧ r = some (.long (-9223372036854775808)) ∧ w' = (wc, [ob 9 [.int 0, .int 1, .int m_fault, .int (-1), .ref 1001, .ref 1002, .int 40, .ref 1003, .int m_taped, .int m_linkMany, .int m_tracerMany, .int m_pointMany, .int m_pairMany, .ref 1004, .ref 1005, .ref 1006, .ref 1007, .int m_readLinks, .int m_readTracers, .int m_readPoints, .int m_readPairs, .ref 1008, .ref 1009, .ref 1010, .ref 1011, .int m_textLong, .int m_at, .int m_spot, .int m_token, .int m_whole, .int m_readFault, .int m_readPlace, .int m_value, .long m_n, .long m_c, .long m_d, .long m_s, .long m_e, .long m_k, .long m_x, .long m_y, .long m_g, .long m_a, .ref 1012, .ref 1013, .ref 1014, .int m_curveMany, .ref 1015, .int m_cornerMany, .int m_straightAt, .ref 1016, .long m_fitUp, .long m_fitDown, .long m_worstUp, .long m_worstDown, .ref 1017, .int m_walkLink, .int m_walkAngle, .int m_walkBranch, .int m_walkMany, .ref 1018, .ref 1019, .int m_lined, .ref 1020, .int m_actMany], z1, z2, z3, ia 16 q4, z5, z6, ia 16 q7, z8, z9, z10, z11, z12, z13, z14, z15, z16, z17, z18, z19, z20])) ∨ ((¬ (0 ≤ a1 ∧ a1 < m_linkMany)) ∧ r = some (.long (-9223372036854775808)) ∧ w' = (wc, [ob 9 [.int 0, .int 1, .int m_fault, .int (-1), .ref 1001, .ref 1002, .int 40, .ref 1003, .int m_taped, .int m_linkMany, .int m_tracerMany, .int m_pointMany, .int m_pairMany, .ref 1004, .ref 1005, .ref 1006, .ref 1007, .int m_readLinks, .int m_readTracers, .int m_readPoints, .int m_readPairs, .ref 1008, .ref 1009, .ref 1010, .ref 1011, .int m_textLong, .int m_at, .int m_spot, .int m_token, .int m_whole, .int m_readFault, .int m_readPlace, .int m_value, .long m_n, .long m_c, .long m_d, .long m_s, .long m_e, .long m_k, .long m_x, .long m_y, .long m_g, .long m_a, .ref 1012, .ref 1013, .ref 1014, .int m_curveMany, .ref 1015, .int m_cornerMany, .int m_straightAt, .ref 1016, .long m_fitUp, .long m_fitDown, .long m_worstUp, .long m_worstDown, .ref 1017, .int m_walkLink, .int m_walkAngle, .int m_walkBranch, .int m_walkMany, .ref 1018, .ref 1019, .int m_lined, .ref 1020, .int m_actMany], z1, z2, z3, ia 16 q4, z5, z6, ia 16 q7, z8, z9, z10, z11, z12, z13, z14, z15, z16, z17, z18, z19, z20]))) := by
  refine ct_of ⟨by decide, rfl⟩ (Nat.le_of_ble_eq_true rfl) ?_
  refine ab_aload_n dX11_closing_0 rfl ?_
  refine ab_callV (As := []) (rest := []) dX11_closing_1 mv_X11_anew ml_X11_104 ⟨by decide, by decide, rfl, rfl, rfl⟩ (by decide) rfl rfl (Nat.le_of_ble_eq_true rfl) rfl c_X11_anew ?_
  rintro r w' ⟨rfl, rfl⟩
  refine ab_aload_n dX11_closing_4 rfl ?_
  refine ab_iload_n dX11_closing_5 rfl ?_
  refine ab_callV (As := [.int a1]) (rest := []) dX11_closing_6 mv_X11_isLink ml_X11_265 ⟨by decide, by decide, rfl, rfl, rfl⟩ (by decide) rfl rfl (Nat.le_of_ble_eq_true rfl) rfl (c_X11_isLink h_l) ?_
  rintro r w' (⟨c_1, rfl, rfl⟩ | ⟨c_2, rfl, rfl⟩)
  · refine ab_ifeq 20 dX11_closing_9 (by decide) (fun h_3 => absurd h_3 (by decide)) (fun h_3 => ?_)
    refine ab_aload_n dX11_closing_12 rfl ?_
    refine ab_iload_n dX11_closing_13 rfl ?_
    refine ab_callV (As := [.int a2]) (rest := []) dX11_closing_14 mv_X11_isPair ml_X11_489 ⟨by decide, by decide, rfl, rfl, rfl⟩ (by decide) rfl rfl (Nat.le_of_ble_eq_true rfl) rfl (c_X11_isPair h_r) ?_
    rintro r w' (⟨c_4, rfl, rfl⟩ | ⟨c_5, rfl, rfl⟩)
    · refine ab_ifne 26 dX11_closing_17 (by decide) (fun h_6 => ?_) (fun h_6 => absurd h_6 (by decide))
      refine ab_aload_n dX11_closing_26 rfl ?_
      refine ab_aload_n dX11_closing_27 rfl ?_
      refine ab_iload_n dX11_closing_28 rfl ?_
      refine ab_aload_n dX11_closing_29 rfl ?_
      refine ab_iload_n dX11_closing_30 rfl ?_
      refine ab_iconst (v := 0) dX11_closing_31 (by decide) ?_
      refine ab_callV (As := [.int a1, .int 0]) (rest := [.int a2, .ref 1000, .ref 1000]) dX11_closing_32 mv_X11_barOf ml_X11_252 ⟨by decide, by decide, rfl, rfl, rfl⟩ (by decide) rfl rfl (Nat.le_of_ble_eq_true rfl) rfl (c_X11_barOf c_1 h_l (by decide)) ?_
      rintro r w' ⟨rfl, rfl⟩
      refine ab_aload_n dX11_closing_35 rfl ?_
      refine ab_iload_n dX11_closing_36 rfl ?_
      refine ab_iconst (v := 1) dX11_closing_37 (by decide) ?_
      refine ab_callV (As := [.int a1, .int 1]) (rest := [.int (Bg q4 a1), .int a2, .ref 1000, .ref 1000]) dX11_closing_38 mv_X11_barOf ml_X11_252 ⟨by decide, by decide, rfl, rfl, rfl⟩ (by decide) rfl rfl (Nat.le_of_ble_eq_true rfl) rfl (c_X11_barOf c_1 h_l (by decide)) ?_
      rintro r w' ⟨rfl, rfl⟩
      refine ab_aload_n dX11_closing_41 rfl ?_
      refine ab_iload_n dX11_closing_42 rfl ?_
      refine ab_iconst (v := 2) dX11_closing_43 (by decide) ?_
      refine ab_callV (As := [.int a1, .int 2]) (rest := [.int (Ba q4 a1), .int (Bg q4 a1), .int a2, .ref 1000, .ref 1000]) dX11_closing_44 mv_X11_barOf ml_X11_252 ⟨by decide, by decide, rfl, rfl, rfl⟩ (by decide) rfl rfl (Nat.le_of_ble_eq_true rfl) rfl (c_X11_barOf c_1 h_l (by decide)) ?_
      rintro r w' ⟨rfl, rfl⟩
      refine ab_aload_n dX11_closing_47 rfl ?_
      refine ab_iload_n dX11_closing_48 rfl ?_
      refine ab_iconst (v := 3) dX11_closing_49 (by decide) ?_
      refine ab_callV (As := [.int a1, .int 3]) (rest := [.int (Bb q4 a1), .int (Ba q4 a1), .int (Bg q4 a1), .int a2, .ref 1000, .ref 1000]) dX11_closing_50 mv_X11_barOf ml_X11_252 ⟨by decide, by decide, rfl, rfl, rfl⟩ (by decide) rfl rfl (Nat.le_of_ble_eq_true rfl) rfl (c_X11_barOf c_1 h_l (by decide)) ?_
      rintro r w' ⟨rfl, rfl⟩
      refine ab_callV (As := [.int a2, .int (Bg q4 a1), .int (Ba q4 a1), .int (Bb q4 a1), .int (Bc q4 a1)]) (rest := [.ref 1000]) dX11_closing_53 mv_X11_closes ml_X11_507 ⟨by decide, by decide, rfl, rfl, rfl⟩ (by decide) rfl rfl (Nat.le_of_ble_eq_true rfl) rfl (c_X11_closes c_4 h_r) ?_
      rintro r w' ⟨rfl, rfl⟩
      refine ab_aload_n dX11_closing_56 rfl ?_
      refine ab_iload_n dX11_closing_57 rfl ?_
      refine ab_callV (As := [.int a2]) (rest := [.long (Mq_cl q7 a2 (Bg q4 a1) (Ba q4 a1) (Bb q4 a1) (Bc q4 a1)), .ref 1000]) dX11_closing_58 mv_X11_byOf ml_X11_501 ⟨by decide, by decide, rfl, rfl, rfl⟩ (by decide) rfl rfl (Nat.le_of_ble_eq_true rfl) rfl (c_X11_byOf c_4 h_r) ?_
      rintro r w' ⟨rfl, rfl⟩
      refine ab_i2l dX11_closing_61 ?_
      refine ab_iload_n dX11_closing_62 rfl ?_
      refine ab_callV (As := [.long (Mq_cl q7 a2 (Bg q4 a1) (Ba q4 a1) (Bb q4 a1) (Bc q4 a1)), .long (Int32.toInt64 (Mq_by q7 a2)), .int a3]) (rest := []) dX11_closing_63 mv_X11_part ml_X11_308 ⟨by decide, by decide, rfl, rfl, rfl⟩ (by decide) rfl rfl (Nat.le_of_ble_eq_true rfl) rfl (c_X11_part (h_q2 c_1 c_4) (h_q3 c_1 c_4) (h_q4 c_1 c_4)) ?_
      rintro r w' ⟨rfl, rfl⟩
      exact ab_lret dX11_closing_66 rfl (by decide) (Or.inl ⟨c_1, c_4, rfl, rfl⟩)
    · refine ab_ifne 26 dX11_closing_17 (by decide) (fun h_7 => absurd (by decide) h_7) (fun h_7 => ?_)
      refine ab_aload_n dX11_closing_20 rfl ?_
      refine ab_iconst (v := 1) dX11_closing_21 (by decide) ?_
      refine ab_callV (As := [.int 1]) (rest := []) dX11_closing_22 mv_X11_lowest ml_X11_304 ⟨by decide, by decide, rfl, rfl, rfl⟩ (by decide) rfl rfl (Nat.le_of_ble_eq_true rfl) rfl c_X11_lowest ?_
      rintro r w' ⟨rfl, rfl⟩
      exact ab_lret dX11_closing_25 rfl (by decide) (Or.inr (Or.inl ⟨c_1, c_5, rfl, rfl⟩))
  · refine ab_ifeq 20 dX11_closing_9 (by decide) (fun h_8 => ?_) (fun h_8 => absurd (by decide) h_8)
    refine ab_aload_n dX11_closing_20 rfl ?_
    refine ab_iconst (v := 1) dX11_closing_21 (by decide) ?_
    refine ab_callV (As := [.int 1]) (rest := []) dX11_closing_22 mv_X11_lowest ml_X11_304 ⟨by decide, by decide, rfl, rfl, rfl⟩ (by decide) rfl rfl (Nat.le_of_ble_eq_true rfl) rfl c_X11_lowest ?_
    rintro r w' ⟨rfl, rfl⟩
    exact ab_lret dX11_closing_25 rfl (by decide) (Or.inr (Or.inr (⟨c_2, rfl, rfl⟩)))
def lp_mwo_st (q4 : Nat → Int32) (q7 : Nat → Int32) (a3 : Int32) (a2 : Int32) (a1 : Int32) (k : Nat) (u : Int64) (v : Int64) : Int64 × Int64 := (if ((Ab64 (Mq_cl q7 (nI k) (q4 (0 + 0 * 4 + 0)) a1 a2 a3)) * v) ≤ (u * (Int32.toInt64 (Mq_by q7 (nI k)))) then (u, v) else ((Ab64 (Mq_cl q7 (nI k) (q4 (0 + 0 * 4 + 0)) a1 a2 a3)), (Int32.toInt64 (Mq_by q7 (nI k)))))
set_option maxHeartbeats 400000 in
theorem lp_mwo {wc : List ax_E} {m_thrown m_trouble m_fault m_where m_taped m_linkMany m_tracerMany m_pointMany m_readLinks m_readTracers m_readPoints m_readPairs m_textLong m_at m_spot m_token m_whole m_readFault m_readPlace m_value m_curveMany m_cornerMany m_straightAt m_walkLink m_walkAngle m_walkBranch m_walkMany m_lined m_actMany a3 a2 a1 : Int32} {m_n m_c m_d m_s m_e m_k m_x m_y m_g m_a m_fitUp m_fitDown : Int64} {z1 z2 z3 z5 z6 z8 z9 z10 z11 z12 z13 z14 z15 z16 z17 z18 z19 z20 : ax_E} {q4 q7 : Nat → Int32} {nr : Nat} {Q : Option Value → ax_W → Prop} (h_l0 : 0 ≤ (0 : Int32) ∧ 0 < m_linkMany) (h_l : 0 ≤ m_linkMany ∧ m_linkMany ≤ nI 4) (h_nr : nr ≤ 4) : ∀ (n k : Nat) (u : Int64) (v : Int64) , k + n = nr → Ab M_X11_worst Q (0, 0) 88 [(4, .int (nI nr)), (3, .int a3), (2, .int a2), (1, .int a1), (0, .ref 1000)] [] (wc, [ob 9 [.int m_thrown, .int m_trouble, .int m_fault, .int m_where, .ref 1001, .ref 1002, .int 40, .ref 1003, .int m_taped, .int m_linkMany, .int m_tracerMany, .int m_pointMany, .int (nI nr), .ref 1004, .ref 1005, .ref 1006, .ref 1007, .int m_readLinks, .int m_readTracers, .int m_readPoints, .int m_readPairs, .ref 1008, .ref 1009, .ref 1010, .ref 1011, .int m_textLong, .int m_at, .int m_spot, .int m_token, .int m_whole, .int m_readFault, .int m_readPlace, .int m_value, .long m_n, .long m_c, .long m_d, .long m_s, .long m_e, .long m_k, .long m_x, .long m_y, .long m_g, .long m_a, .ref 1012, .ref 1013, .ref 1014, .int m_curveMany, .ref 1015, .int m_cornerMany, .int m_straightAt, .ref 1016, .long m_fitUp, .long m_fitDown, .long ((itr (fun k s => lp_mwo_st q4 q7 a3 a2 a1 k s.1 s.2) n k (u, v)).1), .long ((itr (fun k s => lp_mwo_st q4 q7 a3 a2 a1 k s.1 s.2) n k (u, v)).2), .ref 1017, .int m_walkLink, .int m_walkAngle, .int m_walkBranch, .int m_walkMany, .ref 1018, .ref 1019, .int m_lined, .ref 1020, .int m_actMany], z1, z2, z3, ia 16 q4, z5, z6, ia 16 q7, z8, z9, z10, z11, z12, z13, z14, z15, z16, z17, z18, z19, z20]) → Ab M_X11_worst Q (0, 0) 13 [(4, .int (nI k)), (3, .int a3), (2, .int a2), (1, .int a1), (0, .ref 1000)] [] (wc, [ob 9 [.int m_thrown, .int m_trouble, .int m_fault, .int m_where, .ref 1001, .ref 1002, .int 40, .ref 1003, .int m_taped, .int m_linkMany, .int m_tracerMany, .int m_pointMany, .int (nI nr), .ref 1004, .ref 1005, .ref 1006, .ref 1007, .int m_readLinks, .int m_readTracers, .int m_readPoints, .int m_readPairs, .ref 1008, .ref 1009, .ref 1010, .ref 1011, .int m_textLong, .int m_at, .int m_spot, .int m_token, .int m_whole, .int m_readFault, .int m_readPlace, .int m_value, .long m_n, .long m_c, .long m_d, .long m_s, .long m_e, .long m_k, .long m_x, .long m_y, .long m_g, .long m_a, .ref 1012, .ref 1013, .ref 1014, .int m_curveMany, .ref 1015, .int m_cornerMany, .int m_straightAt, .ref 1016, .long m_fitUp, .long m_fitDown, .long u, .long v, .ref 1017, .int m_walkLink, .int m_walkAngle, .int m_walkBranch, .int m_walkMany, .ref 1018, .ref 1019, .int m_lined, .ref 1020, .int m_actMany], z1, z2, z3, ia 16 q4, z5, z6, ia 16 q7, z8, z9, z10, z11, z12, z13, z14, z15, z16, z17, z18, z19, z20]) := by
  intro n
  induction n with
  | zero =>
    intro k u v  hk hx
    rw [itr_0] at hx
    rw [show k = nr by omega]
    refine ab_iload dX11_worst_13 rfl ?_
    refine ab_aload_n dX11_worst_15 rfl ?_
    refine ab_getf dX11_worst_16 fl_X11_242 rfl rfl ?_
    refine ab_icmpge 88 dX11_worst_19 (by decide) (fun h_1 => ?_) (fun h_1 => absurd (nI_le (b := nr) (Nat.le_refl _) (by omega)) h_1)
    refine ab_pick [0, 1, 2, 3, 4] rfl ?_
    exact hx 
  | succ n ih =>
    intro k u v  hk hx
    refine ab_iload dX11_worst_13 rfl ?_
    refine ab_aload_n dX11_worst_15 rfl ?_
    refine ab_getf dX11_worst_16 fl_X11_242 rfl rfl ?_
    refine ab_icmpge 88 dX11_worst_19 (by decide) (fun h_1 => absurd h_1 (nI_ge (a := k) (b := nr) (by omega) (by omega))) (fun h_1 => ?_)
    refine ab_aload_n dX11_worst_22 rfl ?_
    refine ab_iload dX11_worst_23 rfl ?_
    refine ab_aload_n dX11_worst_25 rfl ?_
    refine ab_iconst (v := 0) dX11_worst_26 (by decide) ?_
    refine ab_iconst (v := 0) dX11_worst_27 (by decide) ?_
    refine ab_callV (As := [.int 0, .int 0]) (rest := [.int (nI k), .ref 1000]) dX11_worst_28 mv_X11_barOf ml_X11_252 ⟨by decide, by decide, rfl, rfl, rfl⟩ (by decide) rfl rfl (Nat.le_of_ble_eq_true rfl) rfl (c_X11_barOf h_l0 h_l (by decide)) ?_
    rintro r w' ⟨rfl, rfl⟩
    refine ab_iload_n dX11_worst_31 rfl ?_
    refine ab_iload_n dX11_worst_32 rfl ?_
    refine ab_iload_n dX11_worst_33 rfl ?_
    refine ab_callV (As := [.int (nI k), .int (q4 (0 + 0 * 4 + 0)), .int a1, .int a2, .int a3]) (rest := []) dX11_worst_34 mv_X11_closes ml_X11_507 ⟨by decide, by decide, rfl, rfl, rfl⟩ (by decide) rfl rfl (Nat.le_of_ble_eq_true rfl) rfl (c_X11_closes (⟨nI_pos' (by omega), nI_lt (by omega) (by omega)⟩) (nI_bd h_nr (by decide))) ?_
    rintro r w' ⟨rfl, rfl⟩
    refine ab_callS (As := [.long (Mq_cl q7 (nI k) (q4 (0 + 0 * 4 + 0)) a1 a2 a3)]) (rest := []) dX11_worst_37 ms_X11_plain ml_X11_7 ⟨by decide, by decide, rfl, rfl, rfl⟩ (by decide) rfl rfl (Nat.le_of_ble_eq_true rfl) c_X11_plain_t ?_
    rintro r w' ⟨rfl, rfl⟩
    refine ab_lstore (la' := [(5, .long (Ab64 (Mq_cl q7 (nI k) (q4 (0 + 0 * 4 + 0)) a1 a2 a3))), (4, .int (nI k)), (3, .int a3), (2, .int a2), (1, .int a1), (0, .ref 1000)]) dX11_worst_40 (by decide) rfl ?_
    refine ab_lload dX11_worst_42 rfl ?_
    refine ab_aload_n dX11_worst_44 rfl ?_
    refine ab_getf dX11_worst_45 fl_X11_514 rfl rfl ?_
    refine ab_lmul dX11_worst_48 ?_
    refine ab_aload_n dX11_worst_49 rfl ?_
    refine ab_getf dX11_worst_50 fl_X11_511 rfl rfl ?_
    refine ab_aload_n dX11_worst_53 rfl ?_
    refine ab_iload dX11_worst_54 rfl ?_
    refine ab_callV (As := [.int (nI k)]) (rest := [.long u, .long ((Ab64 (Mq_cl q7 (nI k) (q4 (0 + 0 * 4 + 0)) a1 a2 a3)) * v)]) dX11_worst_56 mv_X11_byOf ml_X11_501 ⟨by decide, by decide, rfl, rfl, rfl⟩ (by decide) rfl rfl (Nat.le_of_ble_eq_true rfl) rfl (c_X11_byOf (⟨nI_pos' (by omega), nI_lt (by omega) (by omega)⟩) (nI_bd h_nr (by decide))) ?_
    rintro r w' ⟨rfl, rfl⟩
    refine ab_i2l dX11_worst_59 ?_
    refine ab_lmul dX11_worst_60 ?_
    refine ab_lcmple 82 dX11_worst_61 dX11_worst_62 (by decide) (fun h_2 => ?_) (fun h_2 => ?_)
    · refine ab_iinc (v := (nI (k + 1))) (la' := [(4, .int (nI (k + 1))), (5, .long (Ab64 (Mq_cl q7 (nI k) (q4 (0 + 0 * 4 + 0)) a1 a2 a3))), (3, .int a3), (2, .int a2), (1, .int a1), (0, .ref 1000)]) dX11_worst_82 rfl (nI_1 _) (by decide) rfl ?_
      refine ab_goto 13 dX11_worst_85 (by decide) ?_
      refine ab_pick [0, 2, 3, 4, 5] rfl ?_
      rw [(itr_s (fun k s => lp_mwo_st q4 q7 a3 a2 a1 k s.1 s.2) n k (u, v)).trans (congrArg (itr (fun k s => lp_mwo_st q4 q7 a3 a2 a1 k s.1 s.2) n (k + 1)) (show lp_mwo_st q4 q7 a3 a2 a1 k u v = (u, v) from by rw [lp_mwo_st, if_pos (show ((Ab64 (Mq_cl q7 (nI k) (q4 (0 + 0 * 4 + 0)) a1 a2 a3)) * v) ≤ (u * (Int32.toInt64 (Mq_by q7 (nI k)))) from h_2)]))] at hx
      exact ih (k + 1) u v  (by omega) hx
    · refine ab_aload_n dX11_worst_65 rfl ?_
      refine ab_lload dX11_worst_66 rfl ?_
      refine ab_putf (w1 := (wc, [ob 9 [.int m_thrown, .int m_trouble, .int m_fault, .int m_where, .ref 1001, .ref 1002, .int 40, .ref 1003, .int m_taped, .int m_linkMany, .int m_tracerMany, .int m_pointMany, .int (nI nr), .ref 1004, .ref 1005, .ref 1006, .ref 1007, .int m_readLinks, .int m_readTracers, .int m_readPoints, .int m_readPairs, .ref 1008, .ref 1009, .ref 1010, .ref 1011, .int m_textLong, .int m_at, .int m_spot, .int m_token, .int m_whole, .int m_readFault, .int m_readPlace, .int m_value, .long m_n, .long m_c, .long m_d, .long m_s, .long m_e, .long m_k, .long m_x, .long m_y, .long m_g, .long m_a, .ref 1012, .ref 1013, .ref 1014, .int m_curveMany, .ref 1015, .int m_cornerMany, .int m_straightAt, .ref 1016, .long m_fitUp, .long m_fitDown, .long (Ab64 (Mq_cl q7 (nI k) (q4 (0 + 0 * 4 + 0)) a1 a2 a3)), .long v, .ref 1017, .int m_walkLink, .int m_walkAngle, .int m_walkBranch, .int m_walkMany, .ref 1018, .ref 1019, .int m_lined, .ref 1020, .int m_actMany], z1, z2, z3, ia 16 q4, z5, z6, ia 16 q7, z8, z9, z10, z11, z12, z13, z14, z15, z16, z17, z18, z19, z20])) dX11_worst_68 fl_X11_511 rfl (Nat.le_of_ble_eq_true rfl) (fun _ => ⟨rfl, rfl⟩) rfl ?_
      refine ab_aload_n dX11_worst_71 rfl ?_
      refine ab_aload_n dX11_worst_72 rfl ?_
      refine ab_iload dX11_worst_73 rfl ?_
      refine ab_callV (As := [.int (nI k)]) (rest := [.ref 1000]) dX11_worst_75 mv_X11_byOf ml_X11_501 ⟨by decide, by decide, rfl, rfl, rfl⟩ (by decide) rfl rfl (Nat.le_of_ble_eq_true rfl) rfl (c_X11_byOf (⟨nI_pos' (by omega), nI_lt (by omega) (by omega)⟩) (nI_bd h_nr (by decide))) ?_
      rintro r w' ⟨rfl, rfl⟩
      refine ab_i2l dX11_worst_78 ?_
      refine ab_putf (w1 := (wc, [ob 9 [.int m_thrown, .int m_trouble, .int m_fault, .int m_where, .ref 1001, .ref 1002, .int 40, .ref 1003, .int m_taped, .int m_linkMany, .int m_tracerMany, .int m_pointMany, .int (nI nr), .ref 1004, .ref 1005, .ref 1006, .ref 1007, .int m_readLinks, .int m_readTracers, .int m_readPoints, .int m_readPairs, .ref 1008, .ref 1009, .ref 1010, .ref 1011, .int m_textLong, .int m_at, .int m_spot, .int m_token, .int m_whole, .int m_readFault, .int m_readPlace, .int m_value, .long m_n, .long m_c, .long m_d, .long m_s, .long m_e, .long m_k, .long m_x, .long m_y, .long m_g, .long m_a, .ref 1012, .ref 1013, .ref 1014, .int m_curveMany, .ref 1015, .int m_cornerMany, .int m_straightAt, .ref 1016, .long m_fitUp, .long m_fitDown, .long (Ab64 (Mq_cl q7 (nI k) (q4 (0 + 0 * 4 + 0)) a1 a2 a3)), .long (Int32.toInt64 (Mq_by q7 (nI k))), .ref 1017, .int m_walkLink, .int m_walkAngle, .int m_walkBranch, .int m_walkMany, .ref 1018, .ref 1019, .int m_lined, .ref 1020, .int m_actMany], z1, z2, z3, ia 16 q4, z5, z6, ia 16 q7, z8, z9, z10, z11, z12, z13, z14, z15, z16, z17, z18, z19, z20])) dX11_worst_79 fl_X11_514 rfl (Nat.le_of_ble_eq_true rfl) (fun _ => ⟨rfl, rfl⟩) rfl ?_
      refine ab_iinc (v := (nI (k + 1))) (la' := [(4, .int (nI (k + 1))), (5, .long (Ab64 (Mq_cl q7 (nI k) (q4 (0 + 0 * 4 + 0)) a1 a2 a3))), (3, .int a3), (2, .int a2), (1, .int a1), (0, .ref 1000)]) dX11_worst_82 rfl (nI_1 _) (by decide) rfl ?_
      refine ab_goto 13 dX11_worst_85 (by decide) ?_
      refine ab_pick [0, 2, 3, 4, 5] rfl ?_
      rw [(itr_s (fun k s => lp_mwo_st q4 q7 a3 a2 a1 k s.1 s.2) n k (u, v)).trans (congrArg (itr (fun k s => lp_mwo_st q4 q7 a3 a2 a1 k s.1 s.2) n (k + 1)) (show lp_mwo_st q4 q7 a3 a2 a1 k u v = ((Ab64 (Mq_cl q7 (nI k) (q4 (0 + 0 * 4 + 0)) a1 a2 a3)), (Int32.toInt64 (Mq_by q7 (nI k)))) from by rw [lp_mwo_st, if_neg (show ¬ ((Ab64 (Mq_cl q7 (nI k) (q4 (0 + 0 * 4 + 0)) a1 a2 a3)) * v) ≤ (u * (Int32.toInt64 (Mq_by q7 (nI k)))) from h_2)]))] at hx
      exact ih (k + 1) (Ab64 (Mq_cl q7 (nI k) (q4 (0 + 0 * 4 + 0)) a1 a2 a3)) (Int32.toInt64 (Mq_by q7 (nI k)))  (by omega) hx
theorem c_X11_worst {wc : List ax_E} {m_thrown m_trouble m_fault m_where m_taped m_linkMany m_tracerMany m_pointMany m_readLinks m_readTracers m_readPoints m_readPairs m_textLong m_at m_spot m_token m_whole m_readFault m_readPlace m_value m_curveMany m_cornerMany m_straightAt m_walkLink m_walkAngle m_walkBranch m_walkMany m_lined m_actMany a1 a2 a3 : Int32} {m_n m_c m_d m_s m_e m_k m_x m_y m_g m_a m_fitUp m_fitDown m_worstUp m_worstDown : Int64} {z1 z2 z3 z5 z6 z8 z9 z10 z11 z12 z13 z14 z15 z16 z17 z18 z19 z20 : ax_E} {q4 q7 : Nat → Int32} {nr : Nat} (h_l0 : 0 ≤ (0 : Int32) ∧ 0 < m_linkMany) (h_l : 0 ≤ m_linkMany ∧ m_linkMany ≤ nI 4) (h_nr : nr ≤ 4) : Ct M_X11_worst [.ref 1000, .int a1, .int a2, .int a3] (wc, [ob 9 [.int m_thrown, .int m_trouble, .int m_fault, .int m_where, .ref 1001, .ref 1002, .int 40, .ref 1003, .int m_taped, .int m_linkMany, .int m_tracerMany, .int m_pointMany, .int (nI nr), .ref 1004, .ref 1005, .ref 1006, .ref 1007, .int m_readLinks, .int m_readTracers, .int m_readPoints, .int m_readPairs, .ref 1008, .ref 1009, .ref 1010, .ref 1011, .int m_textLong, .int m_at, .int m_spot, .int m_token, .int m_whole, .int m_readFault, .int m_readPlace, .int m_value, .long m_n, .long m_c, .long m_d, .long m_s, .long m_e, .long m_k, .long m_x, .long m_y, .long m_g, .long m_a, .ref 1012, .ref 1013, .ref 1014, .int m_curveMany, .ref 1015, .int m_cornerMany, .int m_straightAt, .ref 1016, .long m_fitUp, .long m_fitDown, .long m_worstUp, .long m_worstDown, .ref 1017, .int m_walkLink, .int m_walkAngle, .int m_walkBranch, .int m_walkMany, .ref 1018, .ref 1019, .int m_lined, .ref 1020, .int m_actMany], z1, z2, z3, ia 16 q4, z5, z6, ia 16 q7, z8, z9, z10, z11, z12, z13, z14, z15, z16, z17, z18, z19, z20]) (fun r w' => r = none ∧ w' = (wc, [ob 9 [.int m_thrown, .int m_trouble, .int m_fault, .int m_where, .ref 1001, .ref 1002, .int 40, .ref 1003, .int m_taped, .int m_linkMany, .int m_tracerMany, .int m_pointMany, .int (nI nr), .ref 1004, .ref 1005, .ref 1006, .ref 1007, .int m_readLinks, .int m_readTracers, .int m_readPoints, .int m_readPairs, .ref 1008, .ref 1009, .ref 1010, .ref 1011, .int m_textLong, .int m_at, .int m_spot, .int m_token, .int m_whole, .int m_readFault, .int m_readPlace, .int m_value, .long m_n, .long m_c, .long m_d, .long m_s, .long m_e, .long m_k, .long m_x, .long m_y, .long m_g, .long m_a, .ref 1012, .ref 1013, .ref 1014, .int m_curveMany, .ref 1015, .int m_cornerMany, .int m_straightAt, .ref 1016, .long m_fitUp, .long m_fitDown, .long ((itr (fun k s => lp_mwo_st q4 q7 a3 a2 a1 k s.1 s.2) nr 0 (0, 1)).1), .long ((itr (fun k s => lp_mwo_st q4 q7 a3 a2 a1 k s.1 s.2) nr 0 (0, 1)).2), .ref 1017, .int m_walkLink, .int m_walkAngle, .int m_walkBranch, .int m_walkMany, .ref 1018, .ref 1019, .int m_lined, .ref 1020, .int m_actMany], z1, z2, z3, ia 16 q4, z5, z6, ia 16 q7, z8, z9, z10, z11, z12, z13, z14, z15, z16, z17, z18, z19, z20])) := by
  refine ct_of ⟨by decide, rfl⟩ (Nat.le_of_ble_eq_true rfl) ?_
  refine ab_aload_n dX11_worst_0 rfl ?_
  refine ab_lconst (v := 0) dX11_worst_1 (by decide) ?_
  refine ab_putf (w1 := (wc, [ob 9 [.int m_thrown, .int m_trouble, .int m_fault, .int m_where, .ref 1001, .ref 1002, .int 40, .ref 1003, .int m_taped, .int m_linkMany, .int m_tracerMany, .int m_pointMany, .int (nI nr), .ref 1004, .ref 1005, .ref 1006, .ref 1007, .int m_readLinks, .int m_readTracers, .int m_readPoints, .int m_readPairs, .ref 1008, .ref 1009, .ref 1010, .ref 1011, .int m_textLong, .int m_at, .int m_spot, .int m_token, .int m_whole, .int m_readFault, .int m_readPlace, .int m_value, .long m_n, .long m_c, .long m_d, .long m_s, .long m_e, .long m_k, .long m_x, .long m_y, .long m_g, .long m_a, .ref 1012, .ref 1013, .ref 1014, .int m_curveMany, .ref 1015, .int m_cornerMany, .int m_straightAt, .ref 1016, .long m_fitUp, .long m_fitDown, .long 0, .long m_worstDown, .ref 1017, .int m_walkLink, .int m_walkAngle, .int m_walkBranch, .int m_walkMany, .ref 1018, .ref 1019, .int m_lined, .ref 1020, .int m_actMany], z1, z2, z3, ia 16 q4, z5, z6, ia 16 q7, z8, z9, z10, z11, z12, z13, z14, z15, z16, z17, z18, z19, z20])) dX11_worst_2 fl_X11_511 rfl (Nat.le_of_ble_eq_true rfl) (fun _ => ⟨rfl, rfl⟩) rfl ?_
  refine ab_aload_n dX11_worst_5 rfl ?_
  refine ab_lconst (v := 1) dX11_worst_6 (by decide) ?_
  refine ab_putf (w1 := (wc, [ob 9 [.int m_thrown, .int m_trouble, .int m_fault, .int m_where, .ref 1001, .ref 1002, .int 40, .ref 1003, .int m_taped, .int m_linkMany, .int m_tracerMany, .int m_pointMany, .int (nI nr), .ref 1004, .ref 1005, .ref 1006, .ref 1007, .int m_readLinks, .int m_readTracers, .int m_readPoints, .int m_readPairs, .ref 1008, .ref 1009, .ref 1010, .ref 1011, .int m_textLong, .int m_at, .int m_spot, .int m_token, .int m_whole, .int m_readFault, .int m_readPlace, .int m_value, .long m_n, .long m_c, .long m_d, .long m_s, .long m_e, .long m_k, .long m_x, .long m_y, .long m_g, .long m_a, .ref 1012, .ref 1013, .ref 1014, .int m_curveMany, .ref 1015, .int m_cornerMany, .int m_straightAt, .ref 1016, .long m_fitUp, .long m_fitDown, .long 0, .long 1, .ref 1017, .int m_walkLink, .int m_walkAngle, .int m_walkBranch, .int m_walkMany, .ref 1018, .ref 1019, .int m_lined, .ref 1020, .int m_actMany], z1, z2, z3, ia 16 q4, z5, z6, ia 16 q7, z8, z9, z10, z11, z12, z13, z14, z15, z16, z17, z18, z19, z20])) dX11_worst_7 fl_X11_514 rfl (Nat.le_of_ble_eq_true rfl) (fun _ => ⟨rfl, rfl⟩) rfl ?_
  refine ab_iconst (v := 0) dX11_worst_10 (by decide) ?_
  refine ab_istore (la' := [(4, .int 0), (0, .ref 1000), (1, .int a1), (2, .int a2), (3, .int a3)]) dX11_worst_11 (by decide) rfl ?_
  refine ab_pick [0, 4, 3, 2, 1] rfl ?_
  refine lp_mwo h_l0 h_l h_nr nr 0 0 1 (by omega) ?_
  exact ab_vret dX11_worst_88 rfl (by decide) (⟨rfl, rfl⟩)
def Wo (q4 q7 : Nat → Int32) (nr : Nat) (a1 a2 a3 : Int32) : Int64 × Int64 := (itr (fun k s => lp_mwo_st q4 q7 a3 a2 a1 k s.1 s.2) nr 0 (0, 1))
theorem c_X11_worst_d {wc : List ax_E} {m_thrown m_trouble m_fault m_where m_taped m_linkMany m_tracerMany m_pointMany m_readLinks m_readTracers m_readPoints m_readPairs m_textLong m_at m_spot m_token m_whole m_readFault m_readPlace m_value m_curveMany m_cornerMany m_straightAt m_walkLink m_walkAngle m_walkBranch m_walkMany m_lined m_actMany a1 a2 a3 : Int32} {m_n m_c m_d m_s m_e m_k m_x m_y m_g m_a m_fitUp m_fitDown m_worstUp m_worstDown : Int64} {z1 z2 z3 z5 z6 z8 z9 z10 z11 z12 z13 z14 z15 z16 z17 z18 z19 z20 : ax_E} {q4 q7 : Nat → Int32} {nr : Nat} (h_l0 : 0 ≤ (0 : Int32) ∧ 0 < m_linkMany) (h_l : 0 ≤ m_linkMany ∧ m_linkMany ≤ nI 4) (h_nr : nr ≤ 4) : Ct M_X11_worst [.ref 1000, .int a1, .int a2, .int a3] (wc, [ob 9 [.int m_thrown, .int m_trouble, .int m_fault, .int m_where, .ref 1001, .ref 1002, .int 40, .ref 1003, .int m_taped, .int m_linkMany, .int m_tracerMany, .int m_pointMany, .int (nI nr), .ref 1004, .ref 1005, .ref 1006, .ref 1007, .int m_readLinks, .int m_readTracers, .int m_readPoints, .int m_readPairs, .ref 1008, .ref 1009, .ref 1010, .ref 1011, .int m_textLong, .int m_at, .int m_spot, .int m_token, .int m_whole, .int m_readFault, .int m_readPlace, .int m_value, .long m_n, .long m_c, .long m_d, .long m_s, .long m_e, .long m_k, .long m_x, .long m_y, .long m_g, .long m_a, .ref 1012, .ref 1013, .ref 1014, .int m_curveMany, .ref 1015, .int m_cornerMany, .int m_straightAt, .ref 1016, .long m_fitUp, .long m_fitDown, .long m_worstUp, .long m_worstDown, .ref 1017, .int m_walkLink, .int m_walkAngle, .int m_walkBranch, .int m_walkMany, .ref 1018, .ref 1019, .int m_lined, .ref 1020, .int m_actMany], z1, z2, z3, ia 16 q4, z5, z6, ia 16 q7, z8, z9, z10, z11, z12, z13, z14, z15, z16, z17, z18, z19, z20]) (fun r w' => r = none ∧ w' = (wc, [ob 9 [.int m_thrown, .int m_trouble, .int m_fault, .int m_where, .ref 1001, .ref 1002, .int 40, .ref 1003, .int m_taped, .int m_linkMany, .int m_tracerMany, .int m_pointMany, .int (nI nr), .ref 1004, .ref 1005, .ref 1006, .ref 1007, .int m_readLinks, .int m_readTracers, .int m_readPoints, .int m_readPairs, .ref 1008, .ref 1009, .ref 1010, .ref 1011, .int m_textLong, .int m_at, .int m_spot, .int m_token, .int m_whole, .int m_readFault, .int m_readPlace, .int m_value, .long m_n, .long m_c, .long m_d, .long m_s, .long m_e, .long m_k, .long m_x, .long m_y, .long m_g, .long m_a, .ref 1012, .ref 1013, .ref 1014, .int m_curveMany, .ref 1015, .int m_cornerMany, .int m_straightAt, .ref 1016, .long m_fitUp, .long m_fitDown, .long ((Wo q4 q7 nr a1 a2 a3).1), .long ((Wo q4 q7 nr a1 a2 a3).2), .ref 1017, .int m_walkLink, .int m_walkAngle, .int m_walkBranch, .int m_walkMany, .ref 1018, .ref 1019, .int m_lined, .ref 1020, .int m_actMany], z1, z2, z3, ia 16 q4, z5, z6, ia 16 q7, z8, z9, z10, z11, z12, z13, z14, z15, z16, z17, z18, z19, z20])) := c_X11_worst h_l0 h_l h_nr
def lp_mfi_st (q4 : Nat → Int32) (q7 : Nat → Int32) (nr : Nat) (k : Nat) (fi : Int32) (fu : Int64) (fd : Int64) (ft : Nat → Int32) : Int32 × Int64 × Int64 × (Nat → Int32) := (if fi = 0 then (if (fu * (Wo q4 q7 nr (nI ((k / 324) + 1)) (nI (((k / 18) % 18) + 1)) (nI ((k % 18) + 1))).2) ≤ ((Wo q4 q7 nr (nI ((k / 324) + 1)) (nI (((k / 18) % 18) + 1)) (nI ((k % 18) + 1))).1 * fd) then (fi, fu, fd, ft) else (0, ((Wo q4 q7 nr (nI ((k / 324) + 1)) (nI (((k / 18) % 18) + 1)) (nI ((k % 18) + 1))).1), ((Wo q4 q7 nr (nI ((k / 324) + 1)) (nI (((k / 18) % 18) + 1)) (nI ((k % 18) + 1))).2), (upd (upd (upd ft 0 (nI ((k / 324) + 1))) 1 (nI (((k / 18) % 18) + 1))) 2 (nI ((k % 18) + 1))))) else (0, ((Wo q4 q7 nr (nI ((k / 324) + 1)) (nI (((k / 18) % 18) + 1)) (nI ((k % 18) + 1))).1), ((Wo q4 q7 nr (nI ((k / 324) + 1)) (nI (((k / 18) % 18) + 1)) (nI ((k % 18) + 1))).2), (upd (upd (upd ft 0 (nI ((k / 324) + 1))) 1 (nI (((k / 18) % 18) + 1))) 2 (nI ((k % 18) + 1)))))
set_option maxHeartbeats 400000 in
theorem lp_mfi {wc : List ax_E} {m_thrown m_trouble m_fault m_where m_taped m_linkMany m_tracerMany m_pointMany m_readLinks m_readTracers m_readPoints m_readPairs m_textLong m_at m_spot m_token m_whole m_readFault m_readPlace m_value m_curveMany m_cornerMany m_straightAt m_walkLink m_walkAngle m_walkBranch m_walkMany m_lined m_actMany : Int32} {m_n m_c m_d m_s m_e m_k m_x m_y m_g m_a : Int64} {z1 z2 z3 z5 z6 z8 z9 z10 z11 z12 z13 z14 z15 z17 z18 z19 z20 : ax_E} {q4 q7 : Nat → Int32} {nr : Nat} {Q : Option Value → ax_W → Prop} {B : Nat} (hB : B = 5832) (h_l0 : 0 ≤ (0 : Int32) ∧ 0 < m_linkMany) (h_l : 0 ≤ m_linkMany ∧ m_linkMany ≤ nI 4) (h_nr : nr ≤ 4) : ∀ (n k : Nat) (fi : Int32) (fu : Int64) (fd : Int64) (ft : Nat → Int32) (wu : Int64) (wd : Int64), k + n = B → (∀ (wu : Int64) (wd : Int64), Ab M_X11_fits Q (0, 0) 120 [(2, .int (nI B)), (1, .int ((itr (fun k s => lp_mfi_st q4 q7 nr k s.1 s.2.1 s.2.2.1 s.2.2.2) n k (fi, fu, fd, ft)).1)), (0, .ref 1000)] [] (wc, [ob 9 [.int m_thrown, .int m_trouble, .int m_fault, .int m_where, .ref 1001, .ref 1002, .int 40, .ref 1003, .int m_taped, .int m_linkMany, .int m_tracerMany, .int m_pointMany, .int (nI nr), .ref 1004, .ref 1005, .ref 1006, .ref 1007, .int m_readLinks, .int m_readTracers, .int m_readPoints, .int m_readPairs, .ref 1008, .ref 1009, .ref 1010, .ref 1011, .int m_textLong, .int m_at, .int m_spot, .int m_token, .int m_whole, .int m_readFault, .int m_readPlace, .int m_value, .long m_n, .long m_c, .long m_d, .long m_s, .long m_e, .long m_k, .long m_x, .long m_y, .long m_g, .long m_a, .ref 1012, .ref 1013, .ref 1014, .int m_curveMany, .ref 1015, .int m_cornerMany, .int m_straightAt, .ref 1016, .long ((itr (fun k s => lp_mfi_st q4 q7 nr k s.1 s.2.1 s.2.2.1 s.2.2.2) n k (fi, fu, fd, ft)).2.1), .long ((itr (fun k s => lp_mfi_st q4 q7 nr k s.1 s.2.1 s.2.2.1 s.2.2.2) n k (fi, fu, fd, ft)).2.2.1), .long wu, .long wd, .ref 1017, .int m_walkLink, .int m_walkAngle, .int m_walkBranch, .int m_walkMany, .ref 1018, .ref 1019, .int m_lined, .ref 1020, .int m_actMany], z1, z2, z3, ia 16 q4, z5, z6, ia 16 q7, z8, z9, z10, z11, z12, z13, z14, z15, ia 3 ((itr (fun k s => lp_mfi_st q4 q7 nr k s.1 s.2.1 s.2.2.1 s.2.2.2) n k (fi, fu, fd, ft)).2.2.2), z17, z18, z19, z20])) → Ab M_X11_fits Q (0, 0) 4 [(2, .int (nI k)), (1, .int fi), (0, .ref 1000)] [] (wc, [ob 9 [.int m_thrown, .int m_trouble, .int m_fault, .int m_where, .ref 1001, .ref 1002, .int 40, .ref 1003, .int m_taped, .int m_linkMany, .int m_tracerMany, .int m_pointMany, .int (nI nr), .ref 1004, .ref 1005, .ref 1006, .ref 1007, .int m_readLinks, .int m_readTracers, .int m_readPoints, .int m_readPairs, .ref 1008, .ref 1009, .ref 1010, .ref 1011, .int m_textLong, .int m_at, .int m_spot, .int m_token, .int m_whole, .int m_readFault, .int m_readPlace, .int m_value, .long m_n, .long m_c, .long m_d, .long m_s, .long m_e, .long m_k, .long m_x, .long m_y, .long m_g, .long m_a, .ref 1012, .ref 1013, .ref 1014, .int m_curveMany, .ref 1015, .int m_cornerMany, .int m_straightAt, .ref 1016, .long fu, .long fd, .long wu, .long wd, .ref 1017, .int m_walkLink, .int m_walkAngle, .int m_walkBranch, .int m_walkMany, .ref 1018, .ref 1019, .int m_lined, .ref 1020, .int m_actMany], z1, z2, z3, ia 16 q4, z5, z6, ia 16 q7, z8, z9, z10, z11, z12, z13, z14, z15, ia 3 ft, z17, z18, z19, z20]) := by
  intro n
  induction n with
  | zero =>
    intro k fi fu fd ft wu wd hk hx
    rw [itr_0] at hx
    rw [show k = B by omega]
    refine ab_iload_n dX11_fits_4 rfl ?_
    refine ab_sipush (v := 5832) dX11_fits_5 (by decide) ?_
    refine ab_icmpge 120 dX11_fits_8 (by decide) (fun h_1 => ?_) (fun h_1 => absurd (nI_le (a := 5832) (by omega) (by omega)) h_1)
    refine ab_pick [0, 1, 2] rfl ?_
    exact hx wu wd
  | succ n ih =>
    intro k fi fu fd ft wu wd hk hx
    refine ab_iload_n dX11_fits_4 rfl ?_
    refine ab_sipush (v := 5832) dX11_fits_5 (by decide) ?_
    refine ab_icmpge 120 dX11_fits_8 (by decide) (fun h_1 => absurd h_1 (nI_ge (a := k) (b := 5832) (by omega) (by omega))) (fun h_1 => ?_)
    refine ab_iload_n dX11_fits_11 rfl ?_
    refine ab_sipush (v := 324) dX11_fits_12 (by decide) ?_
    refine ab_idiv dX11_fits_15 (by decide) ?_
    refine ab_topi (v := (nI (k / 324))) (pk_div (d := 324) (by omega) (by decide) (by decide)) ?_
    refine ab_iconst (v := 1) dX11_fits_16 (by decide) ?_
    refine ab_iadd dX11_fits_17 ?_
    refine ab_topi (v := (nI ((k / 324) + 1))) (nI_1 _) ?_
    refine ab_istore_n (la' := [(3, .int (nI ((k / 324) + 1))), (2, .int (nI k)), (1, .int fi), (0, .ref 1000)]) dX11_fits_18 (by decide) rfl ?_
    refine ab_iload_n dX11_fits_19 rfl ?_
    refine ab_bipush (v := 18) dX11_fits_20 (by decide) ?_
    refine ab_idiv dX11_fits_22 (by decide) ?_
    refine ab_topi (v := (nI (k / 18))) (pk_div (d := 18) (by omega) (by decide) (by decide)) ?_
    refine ab_bipush (v := 18) dX11_fits_23 (by decide) ?_
    refine ab_irem dX11_fits_25 (by decide) ?_
    refine ab_topi (v := (nI ((k / 18) % 18))) (pk_rem (d := 18) (by omega) (by decide) (by decide)) ?_
    refine ab_iconst (v := 1) dX11_fits_26 (by decide) ?_
    refine ab_iadd dX11_fits_27 ?_
    refine ab_topi (v := (nI (((k / 18) % 18) + 1))) (nI_1 _) ?_
    refine ab_istore (la' := [(4, .int (nI (((k / 18) % 18) + 1))), (3, .int (nI ((k / 324) + 1))), (2, .int (nI k)), (1, .int fi), (0, .ref 1000)]) dX11_fits_28 (by decide) rfl ?_
    refine ab_iload_n dX11_fits_30 rfl ?_
    refine ab_bipush (v := 18) dX11_fits_31 (by decide) ?_
    refine ab_irem dX11_fits_33 (by decide) ?_
    refine ab_topi (v := (nI (k % 18))) (pk_rem (d := 18) (by omega) (by decide) (by decide)) ?_
    refine ab_iconst (v := 1) dX11_fits_34 (by decide) ?_
    refine ab_iadd dX11_fits_35 ?_
    refine ab_topi (v := (nI ((k % 18) + 1))) (nI_1 _) ?_
    refine ab_istore (la' := [(5, .int (nI ((k % 18) + 1))), (4, .int (nI (((k / 18) % 18) + 1))), (3, .int (nI ((k / 324) + 1))), (2, .int (nI k)), (1, .int fi), (0, .ref 1000)]) dX11_fits_36 (by decide) rfl ?_
    refine ab_aload_n dX11_fits_38 rfl ?_
    refine ab_iload_n dX11_fits_39 rfl ?_
    refine ab_iload dX11_fits_40 rfl ?_
    refine ab_iload dX11_fits_42 rfl ?_
    refine ab_callV (As := [.int (nI ((k / 324) + 1)), .int (nI (((k / 18) % 18) + 1)), .int (nI ((k % 18) + 1))]) (rest := []) dX11_fits_44 mv_X11_worst ml_X11_517 ⟨by decide, by decide, rfl, rfl, rfl⟩ (by decide) rfl rfl (Nat.le_of_ble_eq_true rfl) rfl (c_X11_worst_d (nr := nr) h_l0 h_l h_nr) ?_
    rintro r w' ⟨rfl, rfl⟩
    refine ab_iload_n dX11_fits_47 rfl ?_
    refine ab_ifne 73 dX11_fits_48 (by decide) (fun h_2 => ?_) (fun h_2 => ?_)
    · refine ab_iconst (v := 0) dX11_fits_73 (by decide) ?_
      refine ab_istore_n (la' := [(1, .int 0), (5, .int (nI ((k % 18) + 1))), (4, .int (nI (((k / 18) % 18) + 1))), (3, .int (nI ((k / 324) + 1))), (2, .int (nI k)), (0, .ref 1000)]) dX11_fits_74 (by decide) rfl ?_
      refine ab_aload_n dX11_fits_75 rfl ?_
      refine ab_aload_n dX11_fits_76 rfl ?_
      refine ab_getf dX11_fits_77 fl_X11_511 rfl rfl ?_
      refine ab_putf (w1 := (wc, [ob 9 [.int m_thrown, .int m_trouble, .int m_fault, .int m_where, .ref 1001, .ref 1002, .int 40, .ref 1003, .int m_taped, .int m_linkMany, .int m_tracerMany, .int m_pointMany, .int (nI nr), .ref 1004, .ref 1005, .ref 1006, .ref 1007, .int m_readLinks, .int m_readTracers, .int m_readPoints, .int m_readPairs, .ref 1008, .ref 1009, .ref 1010, .ref 1011, .int m_textLong, .int m_at, .int m_spot, .int m_token, .int m_whole, .int m_readFault, .int m_readPlace, .int m_value, .long m_n, .long m_c, .long m_d, .long m_s, .long m_e, .long m_k, .long m_x, .long m_y, .long m_g, .long m_a, .ref 1012, .ref 1013, .ref 1014, .int m_curveMany, .ref 1015, .int m_cornerMany, .int m_straightAt, .ref 1016, .long ((Wo q4 q7 nr (nI ((k / 324) + 1)) (nI (((k / 18) % 18) + 1)) (nI ((k % 18) + 1))).1), .long fd, .long ((Wo q4 q7 nr (nI ((k / 324) + 1)) (nI (((k / 18) % 18) + 1)) (nI ((k % 18) + 1))).1), .long ((Wo q4 q7 nr (nI ((k / 324) + 1)) (nI (((k / 18) % 18) + 1)) (nI ((k % 18) + 1))).2), .ref 1017, .int m_walkLink, .int m_walkAngle, .int m_walkBranch, .int m_walkMany, .ref 1018, .ref 1019, .int m_lined, .ref 1020, .int m_actMany], z1, z2, z3, ia 16 q4, z5, z6, ia 16 q7, z8, z9, z10, z11, z12, z13, z14, z15, ia 3 ft, z17, z18, z19, z20])) dX11_fits_80 fl_X11_523 rfl (Nat.le_of_ble_eq_true rfl) (fun _ => ⟨rfl, rfl⟩) rfl ?_
      refine ab_aload_n dX11_fits_83 rfl ?_
      refine ab_aload_n dX11_fits_84 rfl ?_
      refine ab_getf dX11_fits_85 fl_X11_514 rfl rfl ?_
      refine ab_putf (w1 := (wc, [ob 9 [.int m_thrown, .int m_trouble, .int m_fault, .int m_where, .ref 1001, .ref 1002, .int 40, .ref 1003, .int m_taped, .int m_linkMany, .int m_tracerMany, .int m_pointMany, .int (nI nr), .ref 1004, .ref 1005, .ref 1006, .ref 1007, .int m_readLinks, .int m_readTracers, .int m_readPoints, .int m_readPairs, .ref 1008, .ref 1009, .ref 1010, .ref 1011, .int m_textLong, .int m_at, .int m_spot, .int m_token, .int m_whole, .int m_readFault, .int m_readPlace, .int m_value, .long m_n, .long m_c, .long m_d, .long m_s, .long m_e, .long m_k, .long m_x, .long m_y, .long m_g, .long m_a, .ref 1012, .ref 1013, .ref 1014, .int m_curveMany, .ref 1015, .int m_cornerMany, .int m_straightAt, .ref 1016, .long ((Wo q4 q7 nr (nI ((k / 324) + 1)) (nI (((k / 18) % 18) + 1)) (nI ((k % 18) + 1))).1), .long ((Wo q4 q7 nr (nI ((k / 324) + 1)) (nI (((k / 18) % 18) + 1)) (nI ((k % 18) + 1))).2), .long ((Wo q4 q7 nr (nI ((k / 324) + 1)) (nI (((k / 18) % 18) + 1)) (nI ((k % 18) + 1))).1), .long ((Wo q4 q7 nr (nI ((k / 324) + 1)) (nI (((k / 18) % 18) + 1)) (nI ((k % 18) + 1))).2), .ref 1017, .int m_walkLink, .int m_walkAngle, .int m_walkBranch, .int m_walkMany, .ref 1018, .ref 1019, .int m_lined, .ref 1020, .int m_actMany], z1, z2, z3, ia 16 q4, z5, z6, ia 16 q7, z8, z9, z10, z11, z12, z13, z14, z15, ia 3 ft, z17, z18, z19, z20])) dX11_fits_88 fl_X11_520 rfl (Nat.le_of_ble_eq_true rfl) (fun _ => ⟨rfl, rfl⟩) rfl ?_
      refine ab_aload_n dX11_fits_91 rfl ?_
      refine ab_getf dX11_fits_92 fl_X11_78 rfl rfl ?_
      refine ab_iconst (v := 0) dX11_fits_95 (by decide) ?_
      refine ab_iload_n dX11_fits_96 rfl ?_
      refine ab_iast (w1 := (wc, [ob 9 [.int m_thrown, .int m_trouble, .int m_fault, .int m_where, .ref 1001, .ref 1002, .int 40, .ref 1003, .int m_taped, .int m_linkMany, .int m_tracerMany, .int m_pointMany, .int (nI nr), .ref 1004, .ref 1005, .ref 1006, .ref 1007, .int m_readLinks, .int m_readTracers, .int m_readPoints, .int m_readPairs, .ref 1008, .ref 1009, .ref 1010, .ref 1011, .int m_textLong, .int m_at, .int m_spot, .int m_token, .int m_whole, .int m_readFault, .int m_readPlace, .int m_value, .long m_n, .long m_c, .long m_d, .long m_s, .long m_e, .long m_k, .long m_x, .long m_y, .long m_g, .long m_a, .ref 1012, .ref 1013, .ref 1014, .int m_curveMany, .ref 1015, .int m_cornerMany, .int m_straightAt, .ref 1016, .long ((Wo q4 q7 nr (nI ((k / 324) + 1)) (nI (((k / 18) % 18) + 1)) (nI ((k % 18) + 1))).1), .long ((Wo q4 q7 nr (nI ((k / 324) + 1)) (nI (((k / 18) % 18) + 1)) (nI ((k % 18) + 1))).2), .long ((Wo q4 q7 nr (nI ((k / 324) + 1)) (nI (((k / 18) % 18) + 1)) (nI ((k % 18) + 1))).1), .long ((Wo q4 q7 nr (nI ((k / 324) + 1)) (nI (((k / 18) % 18) + 1)) (nI ((k % 18) + 1))).2), .ref 1017, .int m_walkLink, .int m_walkAngle, .int m_walkBranch, .int m_walkMany, .ref 1018, .ref 1019, .int m_lined, .ref 1020, .int m_actMany], z1, z2, z3, ia 16 q4, z5, z6, ia 16 q7, z8, z9, z10, z11, z12, z13, z14, z15, ia 3 (upd ft 0 (nI ((k / 324) + 1))), z17, z18, z19, z20])) dX11_fits_97 rfl (ix_c (by decide)) rfl ?_
      refine ab_aload_n dX11_fits_98 rfl ?_
      refine ab_getf dX11_fits_99 fl_X11_78 rfl rfl ?_
      refine ab_iconst (v := 1) dX11_fits_102 (by decide) ?_
      refine ab_iload dX11_fits_103 rfl ?_
      refine ab_iast (w1 := (wc, [ob 9 [.int m_thrown, .int m_trouble, .int m_fault, .int m_where, .ref 1001, .ref 1002, .int 40, .ref 1003, .int m_taped, .int m_linkMany, .int m_tracerMany, .int m_pointMany, .int (nI nr), .ref 1004, .ref 1005, .ref 1006, .ref 1007, .int m_readLinks, .int m_readTracers, .int m_readPoints, .int m_readPairs, .ref 1008, .ref 1009, .ref 1010, .ref 1011, .int m_textLong, .int m_at, .int m_spot, .int m_token, .int m_whole, .int m_readFault, .int m_readPlace, .int m_value, .long m_n, .long m_c, .long m_d, .long m_s, .long m_e, .long m_k, .long m_x, .long m_y, .long m_g, .long m_a, .ref 1012, .ref 1013, .ref 1014, .int m_curveMany, .ref 1015, .int m_cornerMany, .int m_straightAt, .ref 1016, .long ((Wo q4 q7 nr (nI ((k / 324) + 1)) (nI (((k / 18) % 18) + 1)) (nI ((k % 18) + 1))).1), .long ((Wo q4 q7 nr (nI ((k / 324) + 1)) (nI (((k / 18) % 18) + 1)) (nI ((k % 18) + 1))).2), .long ((Wo q4 q7 nr (nI ((k / 324) + 1)) (nI (((k / 18) % 18) + 1)) (nI ((k % 18) + 1))).1), .long ((Wo q4 q7 nr (nI ((k / 324) + 1)) (nI (((k / 18) % 18) + 1)) (nI ((k % 18) + 1))).2), .ref 1017, .int m_walkLink, .int m_walkAngle, .int m_walkBranch, .int m_walkMany, .ref 1018, .ref 1019, .int m_lined, .ref 1020, .int m_actMany], z1, z2, z3, ia 16 q4, z5, z6, ia 16 q7, z8, z9, z10, z11, z12, z13, z14, z15, ia 3 (upd (upd ft 0 (nI ((k / 324) + 1))) 1 (nI (((k / 18) % 18) + 1))), z17, z18, z19, z20])) dX11_fits_105 rfl (ix_c (by decide)) rfl ?_
      refine ab_aload_n dX11_fits_106 rfl ?_
      refine ab_getf dX11_fits_107 fl_X11_78 rfl rfl ?_
      refine ab_iconst (v := 2) dX11_fits_110 (by decide) ?_
      refine ab_iload dX11_fits_111 rfl ?_
      refine ab_iast (w1 := (wc, [ob 9 [.int m_thrown, .int m_trouble, .int m_fault, .int m_where, .ref 1001, .ref 1002, .int 40, .ref 1003, .int m_taped, .int m_linkMany, .int m_tracerMany, .int m_pointMany, .int (nI nr), .ref 1004, .ref 1005, .ref 1006, .ref 1007, .int m_readLinks, .int m_readTracers, .int m_readPoints, .int m_readPairs, .ref 1008, .ref 1009, .ref 1010, .ref 1011, .int m_textLong, .int m_at, .int m_spot, .int m_token, .int m_whole, .int m_readFault, .int m_readPlace, .int m_value, .long m_n, .long m_c, .long m_d, .long m_s, .long m_e, .long m_k, .long m_x, .long m_y, .long m_g, .long m_a, .ref 1012, .ref 1013, .ref 1014, .int m_curveMany, .ref 1015, .int m_cornerMany, .int m_straightAt, .ref 1016, .long ((Wo q4 q7 nr (nI ((k / 324) + 1)) (nI (((k / 18) % 18) + 1)) (nI ((k % 18) + 1))).1), .long ((Wo q4 q7 nr (nI ((k / 324) + 1)) (nI (((k / 18) % 18) + 1)) (nI ((k % 18) + 1))).2), .long ((Wo q4 q7 nr (nI ((k / 324) + 1)) (nI (((k / 18) % 18) + 1)) (nI ((k % 18) + 1))).1), .long ((Wo q4 q7 nr (nI ((k / 324) + 1)) (nI (((k / 18) % 18) + 1)) (nI ((k % 18) + 1))).2), .ref 1017, .int m_walkLink, .int m_walkAngle, .int m_walkBranch, .int m_walkMany, .ref 1018, .ref 1019, .int m_lined, .ref 1020, .int m_actMany], z1, z2, z3, ia 16 q4, z5, z6, ia 16 q7, z8, z9, z10, z11, z12, z13, z14, z15, ia 3 (upd (upd (upd ft 0 (nI ((k / 324) + 1))) 1 (nI (((k / 18) % 18) + 1))) 2 (nI ((k % 18) + 1))), z17, z18, z19, z20])) dX11_fits_113 rfl (ix_c (by decide)) rfl ?_
      refine ab_iinc (v := (nI (k + 1))) (la' := [(2, .int (nI (k + 1))), (1, .int 0), (5, .int (nI ((k % 18) + 1))), (4, .int (nI (((k / 18) % 18) + 1))), (3, .int (nI ((k / 324) + 1))), (0, .ref 1000)]) dX11_fits_114 rfl (nI_1 _) (by decide) rfl ?_
      refine ab_goto 4 dX11_fits_117 (by decide) ?_
      refine ab_pick [0, 1, 5] rfl ?_
      rw [(itr_s (fun k s => lp_mfi_st q4 q7 nr k s.1 s.2.1 s.2.2.1 s.2.2.2) n k (fi, fu, fd, ft)).trans (congrArg (itr (fun k s => lp_mfi_st q4 q7 nr k s.1 s.2.1 s.2.2.1 s.2.2.2) n (k + 1)) (show lp_mfi_st q4 q7 nr k fi fu fd ft = (0, ((Wo q4 q7 nr (nI ((k / 324) + 1)) (nI (((k / 18) % 18) + 1)) (nI ((k % 18) + 1))).1), ((Wo q4 q7 nr (nI ((k / 324) + 1)) (nI (((k / 18) % 18) + 1)) (nI ((k % 18) + 1))).2), (upd (upd (upd ft 0 (nI ((k / 324) + 1))) 1 (nI (((k / 18) % 18) + 1))) 2 (nI ((k % 18) + 1)))) from by rw [lp_mfi_st, if_neg (show ¬ fi = 0 from h_2)]))] at hx
      exact ih (k + 1) 0 ((Wo q4 q7 nr (nI ((k / 324) + 1)) (nI (((k / 18) % 18) + 1)) (nI ((k % 18) + 1))).1) ((Wo q4 q7 nr (nI ((k / 324) + 1)) (nI (((k / 18) % 18) + 1)) (nI ((k % 18) + 1))).2) (upd (upd (upd ft 0 (nI ((k / 324) + 1))) 1 (nI (((k / 18) % 18) + 1))) 2 (nI ((k % 18) + 1))) ((Wo q4 q7 nr (nI ((k / 324) + 1)) (nI (((k / 18) % 18) + 1)) (nI ((k % 18) + 1))).1) ((Wo q4 q7 nr (nI ((k / 324) + 1)) (nI (((k / 18) % 18) + 1)) (nI ((k % 18) + 1))).2) (by omega) hx
    · refine ab_aload_n dX11_fits_51 rfl ?_
      refine ab_getf dX11_fits_52 fl_X11_511 rfl rfl ?_
      refine ab_aload_n dX11_fits_55 rfl ?_
      refine ab_getf dX11_fits_56 fl_X11_520 rfl rfl ?_
      refine ab_lmul dX11_fits_59 ?_
      refine ab_aload_n dX11_fits_60 rfl ?_
      refine ab_getf dX11_fits_61 fl_X11_523 rfl rfl ?_
      refine ab_aload_n dX11_fits_64 rfl ?_
      refine ab_getf dX11_fits_65 fl_X11_514 rfl rfl ?_
      refine ab_lmul dX11_fits_68 ?_
      refine ab_lcmpge 114 dX11_fits_69 dX11_fits_70 (by decide) (fun h_3 => ?_) (fun h_3 => ?_)
      · refine ab_iinc (v := (nI (k + 1))) (la' := [(2, .int (nI (k + 1))), (5, .int (nI ((k % 18) + 1))), (4, .int (nI (((k / 18) % 18) + 1))), (3, .int (nI ((k / 324) + 1))), (1, .int fi), (0, .ref 1000)]) dX11_fits_114 rfl (nI_1 _) (by decide) rfl ?_
        refine ab_goto 4 dX11_fits_117 (by decide) ?_
        refine ab_pick [0, 4, 5] rfl ?_
        rw [(itr_s (fun k s => lp_mfi_st q4 q7 nr k s.1 s.2.1 s.2.2.1 s.2.2.2) n k (fi, fu, fd, ft)).trans (congrArg (itr (fun k s => lp_mfi_st q4 q7 nr k s.1 s.2.1 s.2.2.1 s.2.2.2) n (k + 1)) (show lp_mfi_st q4 q7 nr k fi fu fd ft = (fi, fu, fd, ft) from by rw [lp_mfi_st, if_pos (show fi = 0 from h_2), if_pos (show (fu * (Wo q4 q7 nr (nI ((k / 324) + 1)) (nI (((k / 18) % 18) + 1)) (nI ((k % 18) + 1))).2) ≤ ((Wo q4 q7 nr (nI ((k / 324) + 1)) (nI (((k / 18) % 18) + 1)) (nI ((k % 18) + 1))).1 * fd) from h_3)]))] at hx
        exact ih (k + 1) fi fu fd ft ((Wo q4 q7 nr (nI ((k / 324) + 1)) (nI (((k / 18) % 18) + 1)) (nI ((k % 18) + 1))).1) ((Wo q4 q7 nr (nI ((k / 324) + 1)) (nI (((k / 18) % 18) + 1)) (nI ((k % 18) + 1))).2) (by omega) hx
      · refine ab_iconst (v := 0) dX11_fits_73 (by decide) ?_
        refine ab_istore_n (la' := [(1, .int 0), (5, .int (nI ((k % 18) + 1))), (4, .int (nI (((k / 18) % 18) + 1))), (3, .int (nI ((k / 324) + 1))), (2, .int (nI k)), (0, .ref 1000)]) dX11_fits_74 (by decide) rfl ?_
        refine ab_aload_n dX11_fits_75 rfl ?_
        refine ab_aload_n dX11_fits_76 rfl ?_
        refine ab_getf dX11_fits_77 fl_X11_511 rfl rfl ?_
        refine ab_putf (w1 := (wc, [ob 9 [.int m_thrown, .int m_trouble, .int m_fault, .int m_where, .ref 1001, .ref 1002, .int 40, .ref 1003, .int m_taped, .int m_linkMany, .int m_tracerMany, .int m_pointMany, .int (nI nr), .ref 1004, .ref 1005, .ref 1006, .ref 1007, .int m_readLinks, .int m_readTracers, .int m_readPoints, .int m_readPairs, .ref 1008, .ref 1009, .ref 1010, .ref 1011, .int m_textLong, .int m_at, .int m_spot, .int m_token, .int m_whole, .int m_readFault, .int m_readPlace, .int m_value, .long m_n, .long m_c, .long m_d, .long m_s, .long m_e, .long m_k, .long m_x, .long m_y, .long m_g, .long m_a, .ref 1012, .ref 1013, .ref 1014, .int m_curveMany, .ref 1015, .int m_cornerMany, .int m_straightAt, .ref 1016, .long ((Wo q4 q7 nr (nI ((k / 324) + 1)) (nI (((k / 18) % 18) + 1)) (nI ((k % 18) + 1))).1), .long fd, .long ((Wo q4 q7 nr (nI ((k / 324) + 1)) (nI (((k / 18) % 18) + 1)) (nI ((k % 18) + 1))).1), .long ((Wo q4 q7 nr (nI ((k / 324) + 1)) (nI (((k / 18) % 18) + 1)) (nI ((k % 18) + 1))).2), .ref 1017, .int m_walkLink, .int m_walkAngle, .int m_walkBranch, .int m_walkMany, .ref 1018, .ref 1019, .int m_lined, .ref 1020, .int m_actMany], z1, z2, z3, ia 16 q4, z5, z6, ia 16 q7, z8, z9, z10, z11, z12, z13, z14, z15, ia 3 ft, z17, z18, z19, z20])) dX11_fits_80 fl_X11_523 rfl (Nat.le_of_ble_eq_true rfl) (fun _ => ⟨rfl, rfl⟩) rfl ?_
        refine ab_aload_n dX11_fits_83 rfl ?_
        refine ab_aload_n dX11_fits_84 rfl ?_
        refine ab_getf dX11_fits_85 fl_X11_514 rfl rfl ?_
        refine ab_putf (w1 := (wc, [ob 9 [.int m_thrown, .int m_trouble, .int m_fault, .int m_where, .ref 1001, .ref 1002, .int 40, .ref 1003, .int m_taped, .int m_linkMany, .int m_tracerMany, .int m_pointMany, .int (nI nr), .ref 1004, .ref 1005, .ref 1006, .ref 1007, .int m_readLinks, .int m_readTracers, .int m_readPoints, .int m_readPairs, .ref 1008, .ref 1009, .ref 1010, .ref 1011, .int m_textLong, .int m_at, .int m_spot, .int m_token, .int m_whole, .int m_readFault, .int m_readPlace, .int m_value, .long m_n, .long m_c, .long m_d, .long m_s, .long m_e, .long m_k, .long m_x, .long m_y, .long m_g, .long m_a, .ref 1012, .ref 1013, .ref 1014, .int m_curveMany, .ref 1015, .int m_cornerMany, .int m_straightAt, .ref 1016, .long ((Wo q4 q7 nr (nI ((k / 324) + 1)) (nI (((k / 18) % 18) + 1)) (nI ((k % 18) + 1))).1), .long ((Wo q4 q7 nr (nI ((k / 324) + 1)) (nI (((k / 18) % 18) + 1)) (nI ((k % 18) + 1))).2), .long ((Wo q4 q7 nr (nI ((k / 324) + 1)) (nI (((k / 18) % 18) + 1)) (nI ((k % 18) + 1))).1), .long ((Wo q4 q7 nr (nI ((k / 324) + 1)) (nI (((k / 18) % 18) + 1)) (nI ((k % 18) + 1))).2), .ref 1017, .int m_walkLink, .int m_walkAngle, .int m_walkBranch, .int m_walkMany, .ref 1018, .ref 1019, .int m_lined, .ref 1020, .int m_actMany], z1, z2, z3, ia 16 q4, z5, z6, ia 16 q7, z8, z9, z10, z11, z12, z13, z14, z15, ia 3 ft, z17, z18, z19, z20])) dX11_fits_88 fl_X11_520 rfl (Nat.le_of_ble_eq_true rfl) (fun _ => ⟨rfl, rfl⟩) rfl ?_
        refine ab_aload_n dX11_fits_91 rfl ?_
        refine ab_getf dX11_fits_92 fl_X11_78 rfl rfl ?_
        refine ab_iconst (v := 0) dX11_fits_95 (by decide) ?_
        refine ab_iload_n dX11_fits_96 rfl ?_
        refine ab_iast (w1 := (wc, [ob 9 [.int m_thrown, .int m_trouble, .int m_fault, .int m_where, .ref 1001, .ref 1002, .int 40, .ref 1003, .int m_taped, .int m_linkMany, .int m_tracerMany, .int m_pointMany, .int (nI nr), .ref 1004, .ref 1005, .ref 1006, .ref 1007, .int m_readLinks, .int m_readTracers, .int m_readPoints, .int m_readPairs, .ref 1008, .ref 1009, .ref 1010, .ref 1011, .int m_textLong, .int m_at, .int m_spot, .int m_token, .int m_whole, .int m_readFault, .int m_readPlace, .int m_value, .long m_n, .long m_c, .long m_d, .long m_s, .long m_e, .long m_k, .long m_x, .long m_y, .long m_g, .long m_a, .ref 1012, .ref 1013, .ref 1014, .int m_curveMany, .ref 1015, .int m_cornerMany, .int m_straightAt, .ref 1016, .long ((Wo q4 q7 nr (nI ((k / 324) + 1)) (nI (((k / 18) % 18) + 1)) (nI ((k % 18) + 1))).1), .long ((Wo q4 q7 nr (nI ((k / 324) + 1)) (nI (((k / 18) % 18) + 1)) (nI ((k % 18) + 1))).2), .long ((Wo q4 q7 nr (nI ((k / 324) + 1)) (nI (((k / 18) % 18) + 1)) (nI ((k % 18) + 1))).1), .long ((Wo q4 q7 nr (nI ((k / 324) + 1)) (nI (((k / 18) % 18) + 1)) (nI ((k % 18) + 1))).2), .ref 1017, .int m_walkLink, .int m_walkAngle, .int m_walkBranch, .int m_walkMany, .ref 1018, .ref 1019, .int m_lined, .ref 1020, .int m_actMany], z1, z2, z3, ia 16 q4, z5, z6, ia 16 q7, z8, z9, z10, z11, z12, z13, z14, z15, ia 3 (upd ft 0 (nI ((k / 324) + 1))), z17, z18, z19, z20])) dX11_fits_97 rfl (ix_c (by decide)) rfl ?_
        refine ab_aload_n dX11_fits_98 rfl ?_
        refine ab_getf dX11_fits_99 fl_X11_78 rfl rfl ?_
        refine ab_iconst (v := 1) dX11_fits_102 (by decide) ?_
        refine ab_iload dX11_fits_103 rfl ?_
        refine ab_iast (w1 := (wc, [ob 9 [.int m_thrown, .int m_trouble, .int m_fault, .int m_where, .ref 1001, .ref 1002, .int 40, .ref 1003, .int m_taped, .int m_linkMany, .int m_tracerMany, .int m_pointMany, .int (nI nr), .ref 1004, .ref 1005, .ref 1006, .ref 1007, .int m_readLinks, .int m_readTracers, .int m_readPoints, .int m_readPairs, .ref 1008, .ref 1009, .ref 1010, .ref 1011, .int m_textLong, .int m_at, .int m_spot, .int m_token, .int m_whole, .int m_readFault, .int m_readPlace, .int m_value, .long m_n, .long m_c, .long m_d, .long m_s, .long m_e, .long m_k, .long m_x, .long m_y, .long m_g, .long m_a, .ref 1012, .ref 1013, .ref 1014, .int m_curveMany, .ref 1015, .int m_cornerMany, .int m_straightAt, .ref 1016, .long ((Wo q4 q7 nr (nI ((k / 324) + 1)) (nI (((k / 18) % 18) + 1)) (nI ((k % 18) + 1))).1), .long ((Wo q4 q7 nr (nI ((k / 324) + 1)) (nI (((k / 18) % 18) + 1)) (nI ((k % 18) + 1))).2), .long ((Wo q4 q7 nr (nI ((k / 324) + 1)) (nI (((k / 18) % 18) + 1)) (nI ((k % 18) + 1))).1), .long ((Wo q4 q7 nr (nI ((k / 324) + 1)) (nI (((k / 18) % 18) + 1)) (nI ((k % 18) + 1))).2), .ref 1017, .int m_walkLink, .int m_walkAngle, .int m_walkBranch, .int m_walkMany, .ref 1018, .ref 1019, .int m_lined, .ref 1020, .int m_actMany], z1, z2, z3, ia 16 q4, z5, z6, ia 16 q7, z8, z9, z10, z11, z12, z13, z14, z15, ia 3 (upd (upd ft 0 (nI ((k / 324) + 1))) 1 (nI (((k / 18) % 18) + 1))), z17, z18, z19, z20])) dX11_fits_105 rfl (ix_c (by decide)) rfl ?_
        refine ab_aload_n dX11_fits_106 rfl ?_
        refine ab_getf dX11_fits_107 fl_X11_78 rfl rfl ?_
        refine ab_iconst (v := 2) dX11_fits_110 (by decide) ?_
        refine ab_iload dX11_fits_111 rfl ?_
        refine ab_iast (w1 := (wc, [ob 9 [.int m_thrown, .int m_trouble, .int m_fault, .int m_where, .ref 1001, .ref 1002, .int 40, .ref 1003, .int m_taped, .int m_linkMany, .int m_tracerMany, .int m_pointMany, .int (nI nr), .ref 1004, .ref 1005, .ref 1006, .ref 1007, .int m_readLinks, .int m_readTracers, .int m_readPoints, .int m_readPairs, .ref 1008, .ref 1009, .ref 1010, .ref 1011, .int m_textLong, .int m_at, .int m_spot, .int m_token, .int m_whole, .int m_readFault, .int m_readPlace, .int m_value, .long m_n, .long m_c, .long m_d, .long m_s, .long m_e, .long m_k, .long m_x, .long m_y, .long m_g, .long m_a, .ref 1012, .ref 1013, .ref 1014, .int m_curveMany, .ref 1015, .int m_cornerMany, .int m_straightAt, .ref 1016, .long ((Wo q4 q7 nr (nI ((k / 324) + 1)) (nI (((k / 18) % 18) + 1)) (nI ((k % 18) + 1))).1), .long ((Wo q4 q7 nr (nI ((k / 324) + 1)) (nI (((k / 18) % 18) + 1)) (nI ((k % 18) + 1))).2), .long ((Wo q4 q7 nr (nI ((k / 324) + 1)) (nI (((k / 18) % 18) + 1)) (nI ((k % 18) + 1))).1), .long ((Wo q4 q7 nr (nI ((k / 324) + 1)) (nI (((k / 18) % 18) + 1)) (nI ((k % 18) + 1))).2), .ref 1017, .int m_walkLink, .int m_walkAngle, .int m_walkBranch, .int m_walkMany, .ref 1018, .ref 1019, .int m_lined, .ref 1020, .int m_actMany], z1, z2, z3, ia 16 q4, z5, z6, ia 16 q7, z8, z9, z10, z11, z12, z13, z14, z15, ia 3 (upd (upd (upd ft 0 (nI ((k / 324) + 1))) 1 (nI (((k / 18) % 18) + 1))) 2 (nI ((k % 18) + 1))), z17, z18, z19, z20])) dX11_fits_113 rfl (ix_c (by decide)) rfl ?_
        refine ab_iinc (v := (nI (k + 1))) (la' := [(2, .int (nI (k + 1))), (1, .int 0), (5, .int (nI ((k % 18) + 1))), (4, .int (nI (((k / 18) % 18) + 1))), (3, .int (nI ((k / 324) + 1))), (0, .ref 1000)]) dX11_fits_114 rfl (nI_1 _) (by decide) rfl ?_
        refine ab_goto 4 dX11_fits_117 (by decide) ?_
        refine ab_pick [0, 1, 5] rfl ?_
        rw [(itr_s (fun k s => lp_mfi_st q4 q7 nr k s.1 s.2.1 s.2.2.1 s.2.2.2) n k (fi, fu, fd, ft)).trans (congrArg (itr (fun k s => lp_mfi_st q4 q7 nr k s.1 s.2.1 s.2.2.1 s.2.2.2) n (k + 1)) (show lp_mfi_st q4 q7 nr k fi fu fd ft = (0, ((Wo q4 q7 nr (nI ((k / 324) + 1)) (nI (((k / 18) % 18) + 1)) (nI ((k % 18) + 1))).1), ((Wo q4 q7 nr (nI ((k / 324) + 1)) (nI (((k / 18) % 18) + 1)) (nI ((k % 18) + 1))).2), (upd (upd (upd ft 0 (nI ((k / 324) + 1))) 1 (nI (((k / 18) % 18) + 1))) 2 (nI ((k % 18) + 1)))) from by rw [lp_mfi_st, if_pos (show fi = 0 from h_2), if_neg (show ¬ (fu * (Wo q4 q7 nr (nI ((k / 324) + 1)) (nI (((k / 18) % 18) + 1)) (nI ((k % 18) + 1))).2) ≤ ((Wo q4 q7 nr (nI ((k / 324) + 1)) (nI (((k / 18) % 18) + 1)) (nI ((k % 18) + 1))).1 * fd) from h_3)]))] at hx
        exact ih (k + 1) 0 ((Wo q4 q7 nr (nI ((k / 324) + 1)) (nI (((k / 18) % 18) + 1)) (nI ((k % 18) + 1))).1) ((Wo q4 q7 nr (nI ((k / 324) + 1)) (nI (((k / 18) % 18) + 1)) (nI ((k % 18) + 1))).2) (upd (upd (upd ft 0 (nI ((k / 324) + 1))) 1 (nI (((k / 18) % 18) + 1))) 2 (nI ((k % 18) + 1))) ((Wo q4 q7 nr (nI ((k / 324) + 1)) (nI (((k / 18) % 18) + 1)) (nI ((k % 18) + 1))).1) ((Wo q4 q7 nr (nI ((k / 324) + 1)) (nI (((k / 18) % 18) + 1)) (nI ((k % 18) + 1))).2) (by omega) hx
