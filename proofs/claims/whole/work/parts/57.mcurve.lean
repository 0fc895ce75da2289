theorem aft_nI {c j : Nat} (h : j < c) (hc : c ≤ 40) : nI (j + 1) - nI (j + 1) / nI c * nI c = nI (nxc c j) := by
  rw [pk_rem (by omega) (by omega) (by omega)]
  unfold nxc
  by_cases q : j + 1 < c
  · rw [if_pos q, Nat.mod_eq_of_lt q]
  · rw [if_neg q, show j + 1 = c by omega, Nat.mod_self]
theorem nI_nz {c : Nat} (h : 0 < c) (hc : c ≤ 40) : ¬ nI c = 0 := nI_ne0 h (by omega)
theorem ix_m0 {i m : Int32} {W c N : Nat} (hi : 0 ≤ i ∧ i < m) (hm : m ≤ nI c) (hW0 : 0 < W) (hN : 0 + c * W ≤ N) (hs : N < 2 ^ 31) (hc : c < 2 ^ 31) (hW : W < 2 ^ 31) : ax_ix (nI W * i) N (0 + i.toNatClampNeg * W + 0) := by
  have h := ix_ml (W := W) (c := c) (N := N) hi hm (show 0 ≤ (0 : Int32) ∧ (0 : Int32) < nI W from ⟨by decide, nI_lt (a := 0) hW0 hW⟩) hN hs hc hW
  rw [Int32.add_zero] at h
  exact h
/-- how far two points are apart, squared -/
def ApM (x y : Nat → Int32) (j o : Nat) : Int64 := Int32.toInt64 (x j - x o) * Int32.toInt64 (x j - x o) + Int32.toInt64 (y j - y o) * Int32.toInt64 (y j - y o)
def Sg3 (v : Int64) : Int32 := if 0 ≤ v then (if v ≤ 0 then 0 else 1) else -1
theorem c_X11_after {wc : List ax_E} {m_thrown m_trouble m_fault m_where m_taped m_linkMany m_tracerMany m_pointMany m_pairMany m_readLinks m_readTracers m_readPoints m_readPairs m_textLong m_at m_spot m_token m_whole m_readFault m_readPlace m_value m_cornerMany m_straightAt m_walkLink m_walkAngle m_walkBranch m_walkMany m_lined m_actMany : Int32} {m_n m_c m_d m_s m_e m_k m_x m_y m_g m_a m_fitUp m_fitDown m_worstUp m_worstDown : Int64} {z1 z2 z3 z4 z5 z6 z7 z8 z9 z10 z11 z12 z13 z14 z15 z16 z17 z18 z19 z20 : ax_E} {c j : Nat} (hc : c ≤ 40) (hj : j < c) : Ct M_X11_after [.ref 1000, .int (nI j)] (wc, [ob 9 [.int m_thrown, .int m_trouble, .int m_fault, .int m_where, .ref 1001, .ref 1002, .int 40, .ref 1003, .int m_taped, .int m_linkMany, .int m_tracerMany, .int m_pointMany, .int m_pairMany, .ref 1004, .ref 1005, .ref 1006, .ref 1007, .int m_readLinks, .int m_readTracers, .int m_readPoints, .int m_readPairs, .ref 1008, .ref 1009, .ref 1010, .ref 1011, .int m_textLong, .int m_at, .int m_spot, .int m_token, .int m_whole, .int m_readFault, .int m_readPlace, .int m_value, .long m_n, .long m_c, .long m_d, .long m_s, .long m_e, .long m_k, .long m_x, .long m_y, .long m_g, .long m_a, .ref 1012, .ref 1013, .ref 1014, .int (nI c), .ref 1015, .int m_cornerMany, .int m_straightAt, .ref 1016, .long m_fitUp, .long m_fitDown, .long m_worstUp, .long m_worstDown, .ref 1017, .int m_walkLink, .int m_walkAngle, .int m_walkBranch, .int m_walkMany, .ref 1018, .ref 1019, .int m_lined, .ref 1020, .int m_actMany], z1, z2, z3, z4, z5, z6, z7, z8, z9, z10, z11, z12, z13, z14, z15, z16, z17, z18, z19, z20]) (fun r w' => r = some (.int (nI (nxc c j))) ∧ w' = (wc, [ob 9 [.int m_thrown, .int m_trouble, .int m_fault, .int m_where, .ref 1001, .ref 1002, .int 40, .ref 1003, .int m_taped, .int m_linkMany, .int m_tracerMany, .int m_pointMany, .int m_pairMany, .ref 1004, .ref 1005, .ref 1006, .ref 1007, .int m_readLinks, .int m_readTracers, .int m_readPoints, .int m_readPairs, .ref 1008, .ref 1009, .ref 1010, .ref 1011, .int m_textLong, .int m_at, .int m_spot, .int m_token, .int m_whole, .int m_readFault, .int m_readPlace, .int m_value, .long m_n, .long m_c, .long m_d, .long m_s, .long m_e, .long m_k, .long m_x, .long m_y, .long m_g, .long m_a, .ref 1012, .ref 1013, .ref 1014, .int (nI c), .ref 1015, .int m_cornerMany, .int m_straightAt, .ref 1016, .long m_fitUp, .long m_fitDown, .long m_worstUp, .long m_worstDown, .ref 1017, .int m_walkLink, .int m_walkAngle, .int m_walkBranch, .int m_walkMany, .ref 1018, .ref 1019, .int m_lined, .ref 1020, .int m_actMany], z1, z2, z3, z4, z5, z6, z7, z8, z9, z10, z11, z12, z13, z14, z15, z16, z17, z18, z19, z20])) := by
  refine ct_of ⟨by decide, rfl⟩ (Nat.le_of_ble_eq_true rfl) ?_
  refine ab_iload_n dX11_after_0 rfl ?_
  refine ab_iconst (v := 1) dX11_after_1 (by decide) ?_
  refine ab_iadd dX11_after_2 ?_
  refine ab_topi (v := (nI (j + 1))) (nI_1 _) ?_
  refine ab_aload_n dX11_after_3 rfl ?_
  refine ab_getf dX11_after_4 fl_X11_424 rfl rfl ?_
  refine ab_irem dX11_after_7 (nI_nz (by omega) hc) ?_
  refine ab_topi (v := (nI (nxc c j))) (aft_nI (by omega) hc) ?_
  exact ab_iret dX11_after_8 rfl (by decide) (⟨rfl, rfl⟩)
theorem c_X11_missAt {wc : List ax_E} {m_thrown m_trouble m_fault m_where m_taped m_linkMany m_tracerMany m_pointMany m_pairMany m_readLinks m_readTracers m_readPoints m_readPairs m_textLong m_at m_spot m_token m_whole m_readFault m_readPlace m_value m_cornerMany m_straightAt m_walkLink m_walkAngle m_walkBranch m_walkMany m_lined m_actMany a2 : Int32} {m_n m_c m_d m_s m_e m_k m_x m_y m_g m_a m_fitUp m_fitDown m_worstUp m_worstDown : Int64} {z1 z2 z3 z4 z5 z7 z8 z9 z10 z11 z14 z15 z16 z17 z18 z19 z20 : ax_E} {q6 q12 q13 : Nat → Int32} {c j : Nat} (hc : c ≤ 40) (hj : j < c) (h_pt : 0 ≤ a2 ∧ a2 < m_pointMany) (h_p : 0 ≤ m_pointMany ∧ m_pointMany ≤ nI 8) : Ct M_X11_missAt [.ref 1000, .int (nI j), .int a2] (wc, [ob 9 [.int m_thrown, .int m_trouble, .int m_fault, .int m_where, .ref 1001, .ref 1002, .int 40, .ref 1003, .int m_taped, .int m_linkMany, .int m_tracerMany, .int m_pointMany, .int m_pairMany, .ref 1004, .ref 1005, .ref 1006, .ref 1007, .int m_readLinks, .int m_readTracers, .int m_readPoints, .int m_readPairs, .ref 1008, .ref 1009, .ref 1010, .ref 1011, .int m_textLong, .int m_at, .int m_spot, .int m_token, .int m_whole, .int m_readFault, .int m_readPlace, .int m_value, .long m_n, .long m_c, .long m_d, .long m_s, .long m_e, .long m_k, .long m_x, .long m_y, .long m_g, .long m_a, .ref 1012, .ref 1013, .ref 1014, .int (nI c), .ref 1015, .int m_cornerMany, .int m_straightAt, .ref 1016, .long m_fitUp, .long m_fitDown, .long m_worstUp, .long m_worstDown, .ref 1017, .int m_walkLink, .int m_walkAngle, .int m_walkBranch, .int m_walkMany, .ref 1018, .ref 1019, .int m_lined, .ref 1020, .int m_actMany], z1, z2, z3, z4, z5, ia 16 q6, z7, z8, z9, z10, z11, ia 64 q12, ia 64 q13, z14, z15, z16, z17, z18, z19, z20]) (fun r w' => r = some (.int (Cv_sq q12 q13 (Tm q6 a2) (Tn q6 a2) j)) ∧ w' = (wc, [ob 9 [.int m_thrown, .int m_trouble, .int m_fault, .int m_where, .ref 1001, .ref 1002, .int 40, .ref 1003, .int m_taped, .int m_linkMany, .int m_tracerMany, .int m_pointMany, .int m_pairMany, .ref 1004, .ref 1005, .ref 1006, .ref 1007, .int m_readLinks, .int m_readTracers, .int m_readPoints, .int m_readPairs, .ref 1008, .ref 1009, .ref 1010, .ref 1011, .int m_textLong, .int m_at, .int m_spot, .int m_token, .int m_whole, .int m_readFault, .int m_readPlace, .int m_value, .long m_n, .long m_c, .long m_d, .long m_s, .long m_e, .long m_k, .long m_x, .long m_y, .long m_g, .long m_a, .ref 1012, .ref 1013, .ref 1014, .int (nI c), .ref 1015, .int m_cornerMany, .int m_straightAt, .ref 1016, .long m_fitUp, .long m_fitDown, .long m_worstUp, .long m_worstDown, .ref 1017, .int m_walkLink, .int m_walkAngle, .int m_walkBranch, .int m_walkMany, .ref 1018, .ref 1019, .int m_lined, .ref 1020, .int m_actMany], z1, z2, z3, z4, z5, ia 16 q6, z7, z8, z9, z10, z11, ia 64 q12, ia 64 q13, z14, z15, z16, z17, z18, z19, z20])) := by
  refine ct_of ⟨by decide, rfl⟩ (Nat.le_of_ble_eq_true rfl) ?_
  refine ab_aload_n dX11_missAt_0 rfl ?_
  refine ab_getf dX11_missAt_1 fl_X11_66 rfl rfl ?_
  refine ab_iload_n dX11_missAt_4 rfl ?_
  refine ab_iald (j := j) dX11_missAt_5 rfl (ix_nI (by omega) (by decide)) ?_
  refine ab_aload_n dX11_missAt_6 rfl ?_
  refine ab_getf dX11_missAt_7 fl_X11_48 rfl rfl ?_
  refine ab_iconst (v := 2) dX11_missAt_10 (by decide) ?_
  refine ab_iload_n dX11_missAt_11 rfl ?_
  refine ab_imul dX11_missAt_12 ?_
  refine ab_iald (j := (0 + Int32.toNatClampNeg a2 * 2 + 0)) dX11_missAt_13 rfl (ix_m0 (W := 2) (c := 8) h_pt h_p.2 (by decide) (by decide) (by decide) (by decide) (by decide)) ?_
  refine ab_isub dX11_missAt_14 ?_
  refine ab_istore_n (la' := [(3, .int ((q12 j) - (q6 (0 + Int32.toNatClampNeg a2 * 2 + 0)))), (0, .ref 1000), (1, .int (nI j)), (2, .int a2)]) dX11_missAt_15 (by decide) rfl ?_
  refine ab_aload_n dX11_missAt_16 rfl ?_
  refine ab_getf dX11_missAt_17 fl_X11_69 rfl rfl ?_
  refine ab_iload_n dX11_missAt_20 rfl ?_
  refine ab_iald (j := j) dX11_missAt_21 rfl (ix_nI (by omega) (by decide)) ?_
  refine ab_aload_n dX11_missAt_22 rfl ?_
  refine ab_getf dX11_missAt_23 fl_X11_48 rfl rfl ?_
  refine ab_iconst (v := 2) dX11_missAt_26 (by decide) ?_
  refine ab_iload_n dX11_missAt_27 rfl ?_
  refine ab_imul dX11_missAt_28 ?_
  refine ab_iconst (v := 1) dX11_missAt_29 (by decide) ?_
  refine ab_iadd dX11_missAt_30 ?_
  refine ab_iald (j := (0 + Int32.toNatClampNeg a2 * 2 + 1)) dX11_missAt_31 rfl (ix_ml (W := 2) (c := 8) h_pt h_p.2 (show 0 ≤ (1 : Int32) ∧ (1 : Int32) < nI 2 by decide) (by decide) (by decide) (by decide) (by decide)) ?_
  refine ab_isub dX11_missAt_32 ?_
  refine ab_istore (la' := [(4, .int ((q13 j) - (q6 (0 + Int32.toNatClampNeg a2 * 2 + 1)))), (3, .int ((q12 j) - (q6 (0 + Int32.toNatClampNeg a2 * 2 + 0)))), (0, .ref 1000), (1, .int (nI j)), (2, .int a2)]) dX11_missAt_33 (by decide) rfl ?_
  refine ab_iload_n dX11_missAt_35 rfl ?_
  refine ab_iload_n dX11_missAt_36 rfl ?_
  refine ab_imul dX11_missAt_37 ?_
  refine ab_iload dX11_missAt_38 rfl ?_
  refine ab_iload dX11_missAt_40 rfl ?_
  refine ab_imul dX11_missAt_42 ?_
  refine ab_iadd dX11_missAt_43 ?_
  exact ab_iret dX11_missAt_44 rfl (by decide) (⟨rfl, rfl⟩)
theorem c_X11_turnOf {wc : List ax_E} {m_thrown m_trouble m_fault m_where m_taped m_linkMany m_tracerMany m_pointMany m_pairMany m_readLinks m_readTracers m_readPoints m_readPairs m_textLong m_at m_spot m_token m_whole m_readFault m_readPlace m_value m_cornerMany m_straightAt m_walkLink m_walkAngle m_walkBranch m_walkMany m_lined m_actMany : Int32} {m_n m_c m_d m_s m_e m_k m_x m_y m_g m_a m_fitUp m_fitDown m_worstUp m_worstDown : Int64} {z1 z2 z3 z4 z5 z6 z7 z8 z9 z10 z11 z14 z15 z16 z17 z18 z19 z20 : ax_E} {q12 q13 : Nat → Int32} {c f t j : Nat} (hc : c ≤ 40) (hf : f < c) (ht : t < c) (hj : j < c) : Ct M_X11_turnOf [.ref 1000, .int (nI f), .int (nI t), .int (nI j)] (wc, [ob 9 [.int m_thrown, .int m_trouble, .int m_fault, .int m_where, .ref 1001, .ref 1002, .int 40, .ref 1003, .int m_taped, .int m_linkMany, .int m_tracerMany, .int m_pointMany, .int m_pairMany, .ref 1004, .ref 1005, .ref 1006, .ref 1007, .int m_readLinks, .int m_readTracers, .int m_readPoints, .int m_readPairs, .ref 1008, .ref 1009, .ref 1010, .ref 1011, .int m_textLong, .int m_at, .int m_spot, .int m_token, .int m_whole, .int m_readFault, .int m_readPlace, .int m_value, .long m_n, .long m_c, .long m_d, .long m_s, .long m_e, .long m_k, .long m_x, .long m_y, .long m_g, .long m_a, .ref 1012, .ref 1013, .ref 1014, .int (nI c), .ref 1015, .int m_cornerMany, .int m_straightAt, .ref 1016, .long m_fitUp, .long m_fitDown, .long m_worstUp, .long m_worstDown, .ref 1017, .int m_walkLink, .int m_walkAngle, .int m_walkBranch, .int m_walkMany, .ref 1018, .ref 1019, .int m_lined, .ref 1020, .int m_actMany], z1, z2, z3, z4, z5, z6, z7, z8, z9, z10, z11, ia 64 q12, ia 64 q13, z14, z15, z16, z17, z18, z19, z20]) (fun r w' => r = some (.long (Cv_bend q12 q13 f t j)) ∧ w' = (wc, [ob 9 [.int m_thrown, .int m_trouble, .int m_fault, .int m_where, .ref 1001, .ref 1002, .int 40, .ref 1003, .int m_taped, .int m_linkMany, .int m_tracerMany, .int m_pointMany, .int m_pairMany, .ref 1004, .ref 1005, .ref 1006, .ref 1007, .int m_readLinks, .int m_readTracers, .int m_readPoints, .int m_readPairs, .ref 1008, .ref 1009, .ref 1010, .ref 1011, .int m_textLong, .int m_at, .int m_spot, .int m_token, .int m_whole, .int m_readFault, .int m_readPlace, .int m_value, .long m_n, .long m_c, .long m_d, .long m_s, .long m_e, .long m_k, .long m_x, .long m_y, .long m_g, .long m_a, .ref 1012, .ref 1013, .ref 1014, .int (nI c), .ref 1015, .int m_cornerMany, .int m_straightAt, .ref 1016, .long m_fitUp, .long m_fitDown, .long m_worstUp, .long m_worstDown, .ref 1017, .int m_walkLink, .int m_walkAngle, .int m_walkBranch, .int m_walkMany, .ref 1018, .ref 1019, .int m_lined, .ref 1020, .int m_actMany], z1, z2, z3, z4, z5, z6, z7, z8, z9, z10, z11, ia 64 q12, ia 64 q13, z14, z15, z16, z17, z18, z19, z20])) := by
  refine ct_of ⟨by decide, rfl⟩ (Nat.le_of_ble_eq_true rfl) ?_
  refine ab_aload_n dX11_turnOf_0 rfl ?_
  refine ab_getf dX11_turnOf_1 fl_X11_66 rfl rfl ?_
  refine ab_iload_n dX11_turnOf_4 rfl ?_
  refine ab_iald (j := t) dX11_turnOf_5 rfl (ix_nI (by omega) (by decide)) ?_
  refine ab_aload_n dX11_turnOf_6 rfl ?_
  refine ab_getf dX11_turnOf_7 fl_X11_66 rfl rfl ?_
  refine ab_iload_n dX11_turnOf_10 rfl ?_
  refine ab_iald (j := f) dX11_turnOf_11 rfl (ix_nI (by omega) (by decide)) ?_
  refine ab_isub dX11_turnOf_12 ?_
  refine ab_i2l dX11_turnOf_13 ?_
  refine ab_aload_n dX11_turnOf_14 rfl ?_
  refine ab_getf dX11_turnOf_15 fl_X11_69 rfl rfl ?_
  refine ab_iload_n dX11_turnOf_18 rfl ?_
  refine ab_iald (j := t) dX11_turnOf_19 rfl (ix_nI (by omega) (by decide)) ?_
  refine ab_aload_n dX11_turnOf_20 rfl ?_
  refine ab_getf dX11_turnOf_21 fl_X11_69 rfl rfl ?_
  refine ab_iload_n dX11_turnOf_24 rfl ?_
  refine ab_iald (j := f) dX11_turnOf_25 rfl (ix_nI (by omega) (by decide)) ?_
  refine ab_isub dX11_turnOf_26 ?_
  refine ab_i2l dX11_turnOf_27 ?_
  refine ab_aload_n dX11_turnOf_28 rfl ?_
  refine ab_getf dX11_turnOf_29 fl_X11_66 rfl rfl ?_
  refine ab_iload_n dX11_turnOf_32 rfl ?_
  refine ab_iald (j := j) dX11_turnOf_33 rfl (ix_nI (by omega) (by decide)) ?_
  refine ab_aload_n dX11_turnOf_34 rfl ?_
  refine ab_getf dX11_turnOf_35 fl_X11_66 rfl rfl ?_
  refine ab_iload_n dX11_turnOf_38 rfl ?_
  refine ab_iald (j := f) dX11_turnOf_39 rfl (ix_nI (by omega) (by decide)) ?_
  refine ab_isub dX11_turnOf_40 ?_
  refine ab_i2l dX11_turnOf_41 ?_
  refine ab_aload_n dX11_turnOf_42 rfl ?_
  refine ab_getf dX11_turnOf_43 fl_X11_69 rfl rfl ?_
  refine ab_iload_n dX11_turnOf_46 rfl ?_
  refine ab_iald (j := j) dX11_turnOf_47 rfl (ix_nI (by omega) (by decide)) ?_
  refine ab_aload_n dX11_turnOf_48 rfl ?_
  refine ab_getf dX11_turnOf_49 fl_X11_69 rfl rfl ?_
  refine ab_iload_n dX11_turnOf_52 rfl ?_
  refine ab_iald (j := f) dX11_turnOf_53 rfl (ix_nI (by omega) (by decide)) ?_
  refine ab_isub dX11_turnOf_54 ?_
  refine ab_i2l dX11_turnOf_55 ?_
  refine ab_callS (As := [.long (Int32.toInt64 ((q12 t) - (q12 f))), .long (Int32.toInt64 ((q13 t) - (q13 f))), .long (Int32.toInt64 ((q12 j) - (q12 f))), .long (Int32.toInt64 ((q13 j) - (q13 f)))]) (rest := []) dX11_turnOf_56 ms_X11_crossOf ml_X11_440 ⟨by decide, by decide, rfl, rfl, rfl⟩ (by decide) rfl rfl (Nat.le_of_ble_eq_true rfl) c_X11_crossOf ?_
  rintro r w' ⟨rfl, rfl⟩
  exact ab_lret dX11_turnOf_59 rfl (by decide) (⟨rfl, rfl⟩)
theorem c_X11_apartOf {wc : List ax_E} {m_thrown m_trouble m_fault m_where m_taped m_linkMany m_tracerMany m_pointMany m_pairMany m_readLinks m_readTracers m_readPoints m_readPairs m_textLong m_at m_spot m_token m_whole m_readFault m_readPlace m_value m_cornerMany m_straightAt m_walkLink m_walkAngle m_walkBranch m_walkMany m_lined m_actMany : Int32} {m_n m_c m_d m_s m_e m_k m_x m_y m_g m_a m_fitUp m_fitDown m_worstUp m_worstDown : Int64} {z1 z2 z3 z4 z5 z6 z7 z8 z9 z10 z11 z14 z15 z16 z17 z18 z19 z20 : ax_E} {q12 q13 : Nat → Int32} {c j o : Nat} (hc : c ≤ 40) (hj : j < c) (ho : o < c) : Ct M_X11_apartOf [.ref 1000, .int (nI j), .int (nI o)] (wc, [ob 9 [.int m_thrown, .int m_trouble, .int m_fault, .int m_where, .ref 1001, .ref 1002, .int 40, .ref 1003, .int m_taped, .int m_linkMany, .int m_tracerMany, .int m_pointMany, .int m_pairMany, .ref 1004, .ref 1005, .ref 1006, .ref 1007, .int m_readLinks, .int m_readTracers, .int m_readPoints, .int m_readPairs, .ref 1008, .ref 1009, .ref 1010, .ref 1011, .int m_textLong, .int m_at, .int m_spot, .int m_token, .int m_whole, .int m_readFault, .int m_readPlace, .int m_value, .long m_n, .long m_c, .long m_d, .long m_s, .long m_e, .long m_k, .long m_x, .long m_y, .long m_g, .long m_a, .ref 1012, .ref 1013, .ref 1014, .int (nI c), .ref 1015, .int m_cornerMany, .int m_straightAt, .ref 1016, .long m_fitUp, .long m_fitDown, .long m_worstUp, .long m_worstDown, .ref 1017, .int m_walkLink, .int m_walkAngle, .int m_walkBranch, .int m_walkMany, .ref 1018, .ref 1019, .int m_lined, .ref 1020, .int m_actMany], z1, z2, z3, z4, z5, z6, z7, z8, z9, z10, z11, ia 64 q12, ia 64 q13, z14, z15, z16, z17, z18, z19, z20]) (fun r w' => r = some (.long (ApM q12 q13 j o)) ∧ w' = (wc, [ob 9 [.int m_thrown, .int m_trouble, .int m_fault, .int m_where, .ref 1001, .ref 1002, .int 40, .ref 1003, .int m_taped, .int m_linkMany, .int m_tracerMany, .int m_pointMany, .int m_pairMany, .ref 1004, .ref 1005, .ref 1006, .ref 1007, .int m_readLinks, .int m_readTracers, .int m_readPoints, .int m_readPairs, .ref 1008, .ref 1009, .ref 1010, .ref 1011, .int m_textLong, .int m_at, .int m_spot, .int m_token, .int m_whole, .int m_readFault, .int m_readPlace, .int m_value, .long m_n, .long m_c, .long m_d, .long m_s, .long m_e, .long m_k, .long m_x, .long m_y, .long m_g, .long m_a, .ref 1012, .ref 1013, .ref 1014, .int (nI c), .ref 1015, .int m_cornerMany, .int m_straightAt, .ref 1016, .long m_fitUp, .long m_fitDown, .long m_worstUp, .long m_worstDown, .ref 1017, .int m_walkLink, .int m_walkAngle, .int m_walkBranch, .int m_walkMany, .ref 1018, .ref 1019, .int m_lined, .ref 1020, .int m_actMany], z1, z2, z3, z4, z5, z6, z7, z8, z9, z10, z11, ia 64 q12, ia 64 q13, z14, z15, z16, z17, z18, z19, z20])) := by
  refine ct_of ⟨by decide, rfl⟩ (Nat.le_of_ble_eq_true rfl) ?_
  refine ab_aload_n dX11_apartOf_0 rfl ?_
  refine ab_getf dX11_apartOf_1 fl_X11_66 rfl rfl ?_
  refine ab_iload_n dX11_apartOf_4 rfl ?_
  refine ab_iald (j := j) dX11_apartOf_5 rfl (ix_nI (by omega) (by decide)) ?_
  refine ab_aload_n dX11_apartOf_6 rfl ?_
  refine ab_getf dX11_apartOf_7 fl_X11_66 rfl rfl ?_
  refine ab_iload_n dX11_apartOf_10 rfl ?_
  refine ab_iald (j := o) dX11_apartOf_11 rfl (ix_nI (by omega) (by decide)) ?_
  refine ab_isub dX11_apartOf_12 ?_
  refine ab_i2l dX11_apartOf_13 ?_
  refine ab_lstore_n (la' := [(3, .long (Int32.toInt64 ((q12 j) - (q12 o)))), (0, .ref 1000), (1, .int (nI j)), (2, .int (nI o))]) dX11_apartOf_14 (by decide) rfl ?_
  refine ab_aload_n dX11_apartOf_15 rfl ?_
  refine ab_getf dX11_apartOf_16 fl_X11_69 rfl rfl ?_
  refine ab_iload_n dX11_apartOf_19 rfl ?_
  refine ab_iald (j := j) dX11_apartOf_20 rfl (ix_nI (by omega) (by decide)) ?_
  refine ab_aload_n dX11_apartOf_21 rfl ?_
  refine ab_getf dX11_apartOf_22 fl_X11_69 rfl rfl ?_
  refine ab_iload_n dX11_apartOf_25 rfl ?_
  refine ab_iald (j := o) dX11_apartOf_26 rfl (ix_nI (by omega) (by decide)) ?_
  refine ab_isub dX11_apartOf_27 ?_
  refine ab_i2l dX11_apartOf_28 ?_
  refine ab_lstore (la' := [(5, .long (Int32.toInt64 ((q13 j) - (q13 o)))), (3, .long (Int32.toInt64 ((q12 j) - (q12 o)))), (0, .ref 1000), (1, .int (nI j)), (2, .int (nI o))]) dX11_apartOf_29 (by decide) rfl ?_
  refine ab_lload_n dX11_apartOf_31 rfl ?_
  refine ab_lload_n dX11_apartOf_32 rfl ?_
  refine ab_lmul dX11_apartOf_33 ?_
  refine ab_lload dX11_apartOf_34 rfl ?_
  refine ab_lload dX11_apartOf_36 rfl ?_
  refine ab_lmul dX11_apartOf_38 ?_
  refine ab_ladd dX11_apartOf_39 ?_
  exact ab_lret dX11_apartOf_40 rfl (by decide) (⟨rfl, rfl⟩)
theorem c_X11_isSamePlace {wc : List ax_E} {m_thrown m_trouble m_fault m_where m_taped m_linkMany m_tracerMany m_pointMany m_pairMany m_readLinks m_readTracers m_readPoints m_readPairs m_textLong m_at m_spot m_token m_whole m_readFault m_readPlace m_value m_cornerMany m_straightAt m_walkLink m_walkAngle m_walkBranch m_walkMany m_lined m_actMany : Int32} {m_n m_c m_d m_s m_e m_k m_x m_y m_g m_a m_fitUp m_fitDown m_worstUp m_worstDown : Int64} {z1 z2 z3 z4 z5 z6 z7 z8 z9 z10 z11 z14 z15 z16 z17 z18 z19 z20 : ax_E} {q12 q13 : Nat → Int32} {c j o : Nat} (hc : c ≤ 40) (hj : j < c) (ho : o < c) : Ct M_X11_isSamePlace [.ref 1000, .int (nI j), .int (nI o)] (wc, [ob 9 [.int m_thrown, .int m_trouble, .int m_fault, .int m_where, .ref 1001, .ref 1002, .int 40, .ref 1003, .int m_taped, .int m_linkMany, .int m_tracerMany, .int m_pointMany, .int m_pairMany, .ref 1004, .ref 1005, .ref 1006, .ref 1007, .int m_readLinks, .int m_readTracers, .int m_readPoints, .int m_readPairs, .ref 1008, .ref 1009, .ref 1010, .ref 1011, .int m_textLong, .int m_at, .int m_spot, .int m_token, .int m_whole, .int m_readFault, .int m_readPlace, .int m_value, .long m_n, .long m_c, .long m_d, .long m_s, .long m_e, .long m_k, .long m_x, .long m_y, .long m_g, .long m_a, .ref 1012, .ref 1013, .ref 1014, .int (nI c), .ref 1015, .int m_cornerMany, .int m_straightAt, .ref 1016, .long m_fitUp, .long m_fitDown, .long m_worstUp, .long m_worstDown, .ref 1017, .int m_walkLink, .int m_walkAngle, .int m_walkBranch, .int m_walkMany, .ref 1018, .ref 1019, .int m_lined, .ref 1020, .int m_actMany], z1, z2, z3, z4, z5, z6, z7, z8, z9, z10, z11, ia 64 q12, ia 64 q13, z14, z15, z16, z17, z18, z19, z20]) (fun r w' => ((q12 j = q12 o ∧ q13 j = q13 o) ∧ r = some (.int 1) ∧ w' = (wc, [ob 9 [.int m_thrown, .int m_trouble, .int m_fault, .int m_where, .ref 1001, .ref 1002, .int 40, .ref 1003, .int m_taped, .int m_linkMany, .int m_tracerMany, .int m_pointMany, .int m_pairMany, .ref 1004, .ref 1005, .ref 1006, .ref 1007, .int m_readLinks, .int m_readTracers, .int m_readPoints, .int m_readPairs, .ref 1008, .ref 1009, .ref 1010, .ref 1011, .int m_textLong, .int m_at, .int m_spot, .int m_token, .int m_whole, .int m_readFault, .int m_readPlace, .int m_value, .long m_n, .long m_c, .long m_d, .long m_s, .long m_e, .long m_k, .long m_x, .long m_y, .long m_g, .long m_a, .ref 1012, .ref 1013, .ref 1014, .int (nI c), .ref 1015, .int m_cornerMany, .int m_straightAt, .ref 1016, .long m_fitUp, .long m_fitDown, .long m_worstUp, .long m_worstDown, .ref 1017, .int m_walkLink, .int m_walkAngle, .int m_walkBranch, .int m_walkMany, .ref 1018, .ref 1019, .int m_lined, .ref 1020, .int m_actMany], z1, z2, z3, z4, z5, z6, z7, z8, z9, z10, z11, ia 64 q12, ia 64 q13, z14, z15, z16, z17, z18, z19, z20])) ∨ ((¬ (q12 j = q12 o ∧ q13 j = q13 o)) ∧ r = some (.int 0) ∧ w' = (wc, [ob 9 [.int m_thrown, .int m_trouble, .int m_fault, .int m_where, .ref 1001, .ref 1002, .int 40, .ref 1003, .int m_taped, .int m_linkMany, .int m_tracerMany, .int m_pointMany, .int m_pairMany, .ref 1004, .ref 1005, .ref 1006, .ref 1007, .int m_readLinks, .int m_readTracers, .int m_readPoints, .int m_readPairs, .ref 1008, .ref 1009, .ref 1010, .ref 1011, .int m_textLong, .int m_at, .int m_spot, .int m_token, .int m_whole, .int m_readFault, .int m_readPlace, .int m_value, .long m_n, .long m_c, .long m_d, .long m_s, .long m_e, .long m_k, .long m_x, .long m_y, .long m_g, .long m_a, .ref 1012, .ref 1013, .ref 1014, .int (nI c), .ref 1015, .int m_cornerMany, .int m_straightAt, .ref 1016, .long m_fitUp, .long m_fitDown, .long m_worstUp, .long m_worstDown, .ref 1017, .int m_walkLink, .int m_walkAngle, .int m_walkBranch, .int m_walkMany, .ref 1018, .ref 1019, .int m_lined, .ref 1020, .int m_actMany], z1, z2, z3, z4, z5, z6, z7, z8, z9, z10, z11, ia 64 q12, ia 64 q13, z14, z15, z16, z17, z18, z19, z20]))) := by
  refine ct_of ⟨by decide, rfl⟩ (Nat.le_of_ble_eq_true rfl) ?_
  refine ab_aload_n dX11_isSamePlace_0 rfl ?_
  refine ab_getf dX11_isSamePlace_1 fl_X11_66 rfl rfl ?_
  refine ab_iload_n dX11_isSamePlace_4 rfl ?_
  refine ab_iald (j := j) dX11_isSamePlace_5 rfl (ix_nI (by omega) (by decide)) ?_
  refine ab_aload_n dX11_isSamePlace_6 rfl ?_
  refine ab_getf dX11_isSamePlace_7 fl_X11_66 rfl rfl ?_
  refine ab_iload_n dX11_isSamePlace_10 rfl ?_
  refine ab_iald (j := o) dX11_isSamePlace_11 rfl (ix_nI (by omega) (by decide)) ?_
  refine ab_icmpne 34 dX11_isSamePlace_12 (by decide) (fun h_1 => ?_) (fun h_1 => ?_)
  · refine ab_iconst (v := 0) dX11_isSamePlace_34 (by decide) ?_
    exact ab_zret dX11_isSamePlace_35 rfl rfl (by decide) (Or.inr (⟨(by grind), rfl, rfl⟩))
  · refine ab_aload_n dX11_isSamePlace_15 rfl ?_
    refine ab_getf dX11_isSamePlace_16 fl_X11_69 rfl rfl ?_
    refine ab_iload_n dX11_isSamePlace_19 rfl ?_
    refine ab_iald (j := j) dX11_isSamePlace_20 rfl (ix_nI (by omega) (by decide)) ?_
    refine ab_aload_n dX11_isSamePlace_21 rfl ?_
    refine ab_getf dX11_isSamePlace_22 fl_X11_69 rfl rfl ?_
    refine ab_iload_n dX11_isSamePlace_25 rfl ?_
    refine ab_iald (j := o) dX11_isSamePlace_26 rfl (ix_nI (by omega) (by decide)) ?_
    refine ab_icmpne 34 dX11_isSamePlace_27 (by decide) (fun h_2 => ?_) (fun h_2 => ?_)
    · refine ab_iconst (v := 0) dX11_isSamePlace_34 (by decide) ?_
      exact ab_zret dX11_isSamePlace_35 rfl rfl (by decide) (Or.inr (⟨(by grind), rfl, rfl⟩))
    · refine ab_iconst (v := 1) dX11_isSamePlace_30 (by decide) ?_
      refine ab_goto 35 dX11_isSamePlace_31 (by decide) ?_
      exact ab_zret dX11_isSamePlace_35 rfl rfl (by decide) (Or.inl (⟨(by grind), rfl, rfl⟩))
theorem c_X11_side {wc : List ax_E} {m_thrown m_trouble m_fault m_where m_taped m_linkMany m_tracerMany m_pointMany m_pairMany m_readLinks m_readTracers m_readPoints m_readPairs m_textLong m_at m_spot m_token m_whole m_readFault m_readPlace m_value m_cornerMany m_straightAt m_walkLink m_walkAngle m_walkBranch m_walkMany m_lined m_actMany : Int32} {m_n m_c m_d m_s m_e m_k m_x m_y m_g m_a m_fitUp m_fitDown m_worstUp m_worstDown : Int64} {z1 z2 z3 z4 z5 z6 z7 z8 z9 z10 z11 z14 z15 z16 z17 z18 z19 z20 : ax_E} {q12 q13 : Nat → Int32} {c e j : Nat} (hc : c ≤ 40) (he : e < c) (hj : j < c) : Ct M_X11_side [.ref 1000, .int (nI e), .int (nI j)] (wc, [ob 9 [.int m_thrown, .int m_trouble, .int m_fault, .int m_where, .ref 1001, .ref 1002, .int 40, .ref 1003, .int m_taped, .int m_linkMany, .int m_tracerMany, .int m_pointMany, .int m_pairMany, .ref 1004, .ref 1005, .ref 1006, .ref 1007, .int m_readLinks, .int m_readTracers, .int m_readPoints, .int m_readPairs, .ref 1008, .ref 1009, .ref 1010, .ref 1011, .int m_textLong, .int m_at, .int m_spot, .int m_token, .int m_whole, .int m_readFault, .int m_readPlace, .int m_value, .long m_n, .long m_c, .long m_d, .long m_s, .long m_e, .long m_k, .long m_x, .long m_y, .long m_g, .long m_a, .ref 1012, .ref 1013, .ref 1014, .int (nI c), .ref 1015, .int m_cornerMany, .int m_straightAt, .ref 1016, .long m_fitUp, .long m_fitDown, .long m_worstUp, .long m_worstDown, .ref 1017, .int m_walkLink, .int m_walkAngle, .int m_walkBranch, .int m_walkMany, .ref 1018, .ref 1019, .int m_lined, .ref 1020, .int m_actMany], z1, z2, z3, z4, z5, z6, z7, z8, z9, z10, z11, ia 64 q12, ia 64 q13, z14, z15, z16, z17, z18, z19, z20]) (fun r w' => r = some (.int (Sg3 (Cv_bend q12 q13 e (nxc c e) j))) ∧ w' = (wc, [ob 9 [.int m_thrown, .int m_trouble, .int m_fault, .int m_where, .ref 1001, .ref 1002, .int 40, .ref 1003, .int m_taped, .int m_linkMany, .int m_tracerMany, .int m_pointMany, .int m_pairMany, .ref 1004, .ref 1005, .ref 1006, .ref 1007, .int m_readLinks, .int m_readTracers, .int m_readPoints, .int m_readPairs, .ref 1008, .ref 1009, .ref 1010, .ref 1011, .int m_textLong, .int m_at, .int m_spot, .int m_token, .int m_whole, .int m_readFault, .int m_readPlace, .int m_value, .long m_n, .long m_c, .long m_d, .long m_s, .long m_e, .long m_k, .long m_x, .long m_y, .long m_g, .long m_a, .ref 1012, .ref 1013, .ref 1014, .int (nI c), .ref 1015, .int m_cornerMany, .int m_straightAt, .ref 1016, .long m_fitUp, .long m_fitDown, .long m_worstUp, .long m_worstDown, .ref 1017, .int m_walkLink, .int m_walkAngle, .int m_walkBranch, .int m_walkMany, .ref 1018, .ref 1019, .int m_lined, .ref 1020, .int m_actMany], z1, z2, z3, z4, z5, z6, z7, z8, z9, z10, z11, ia 64 q12, ia 64 q13, z14, z15, z16, z17, z18, z19, z20])) := by
  refine ct_of ⟨by decide, rfl⟩ (Nat.le_of_ble_eq_true rfl) ?_
  refine ab_aload_n dX11_side_0 rfl ?_
  refine ab_iload_n dX11_side_1 rfl ?_
  refine ab_callV (As := [.int (nI e)]) (rest := []) dX11_side_2 mv_X11_after ml_X11_431 ⟨by decide, by decide, rfl, rfl, rfl⟩ (by decide) rfl rfl (Nat.le_of_ble_eq_true rfl) rfl (c_X11_after (c := c) (j := e) hc he) ?_
  rintro r w' ⟨rfl, rfl⟩
  refine ab_istore_n (la' := [(3, .int (nI (nxc c e))), (0, .ref 1000), (1, .int (nI e)), (2, .int (nI j))]) dX11_side_5 (by decide) rfl ?_
  refine ab_aload_n dX11_side_6 rfl ?_
  refine ab_getf dX11_side_7 fl_X11_66 rfl rfl ?_
  refine ab_iload_n dX11_side_10 rfl ?_
  refine ab_iald (j := (nxc c e)) dX11_side_11 rfl (ix_nI (by have := nxc_lt (c := c) (i := e) (by omega); omega) (by decide)) ?_
  refine ab_aload_n dX11_side_12 rfl ?_
  refine ab_getf dX11_side_13 fl_X11_66 rfl rfl ?_
  refine ab_iload_n dX11_side_16 rfl ?_
  refine ab_iald (j := e) dX11_side_17 rfl (ix_nI (by omega) (by decide)) ?_
  refine ab_isub dX11_side_18 ?_
  refine ab_i2l dX11_side_19 ?_
  refine ab_aload_n dX11_side_20 rfl ?_
  refine ab_getf dX11_side_21 fl_X11_69 rfl rfl ?_
  refine ab_iload_n dX11_side_24 rfl ?_
  refine ab_iald (j := j) dX11_side_25 rfl (ix_nI (by omega) (by decide)) ?_
  refine ab_aload_n dX11_side_26 rfl ?_
  refine ab_getf dX11_side_27 fl_X11_69 rfl rfl ?_
  refine ab_iload_n dX11_side_30 rfl ?_
  refine ab_iald (j := e) dX11_side_31 rfl (ix_nI (by omega) (by decide)) ?_
  refine ab_isub dX11_side_32 ?_
  refine ab_i2l dX11_side_33 ?_
  refine ab_lmul dX11_side_34 ?_
  refine ab_aload_n dX11_side_35 rfl ?_
  refine ab_getf dX11_side_36 fl_X11_69 rfl rfl ?_
  refine ab_iload_n dX11_side_39 rfl ?_
  refine ab_iald (j := (nxc c e)) dX11_side_40 rfl (ix_nI (by have := nxc_lt (c := c) (i := e) (by omega); omega) (by decide)) ?_
  refine ab_aload_n dX11_side_41 rfl ?_
  refine ab_getf dX11_side_42 fl_X11_69 rfl rfl ?_
  refine ab_iload_n dX11_side_45 rfl ?_
  refine ab_iald (j := e) dX11_side_46 rfl (ix_nI (by omega) (by decide)) ?_
  refine ab_isub dX11_side_47 ?_
  refine ab_i2l dX11_side_48 ?_
  refine ab_aload_n dX11_side_49 rfl ?_
  refine ab_getf dX11_side_50 fl_X11_66 rfl rfl ?_
  refine ab_iload_n dX11_side_53 rfl ?_
  refine ab_iald (j := j) dX11_side_54 rfl (ix_nI (by omega) (by decide)) ?_
  refine ab_aload_n dX11_side_55 rfl ?_
  refine ab_getf dX11_side_56 fl_X11_66 rfl rfl ?_
  refine ab_iload_n dX11_side_59 rfl ?_
  refine ab_iald (j := e) dX11_side_60 rfl (ix_nI (by omega) (by decide)) ?_
  refine ab_isub dX11_side_61 ?_
  refine ab_i2l dX11_side_62 ?_
  refine ab_lmul dX11_side_63 ?_
  refine ab_lsub dX11_side_64 ?_
  refine ab_lstore (la' := [(4, .long (((Int32.toInt64 ((q12 (nxc c e)) - (q12 e))) * (Int32.toInt64 ((q13 j) - (q13 e)))) - ((Int32.toInt64 ((q13 (nxc c e)) - (q13 e))) * (Int32.toInt64 ((q12 j) - (q12 e)))))), (3, .int (nI (nxc c e))), (0, .ref 1000), (1, .int (nI e)), (2, .int (nI j))]) dX11_side_65 (by decide) rfl ?_
  refine ab_lload dX11_side_67 rfl ?_
  refine ab_lconst (v := 0) dX11_side_69 (by decide) ?_
  refine ab_lcmpge 78 dX11_side_70 dX11_side_71 (by decide) (fun h_1 => ?_) (fun h_1 => ?_)
  · refine ab_lload dX11_side_78 rfl ?_
    refine ab_lconst (v := 0) dX11_side_80 (by decide) ?_
    refine ab_lcmple 89 dX11_side_81 dX11_side_82 (by decide) (fun h_2 => ?_) (fun h_2 => ?_)
    · refine ab_iconst (v := 0) dX11_side_89 (by decide) ?_
      exact ab_iret dX11_side_90 rfl (by decide) (⟨by unfold Sg3 Cv_bend; rw [if_pos (show 0 ≤ (((Int32.toInt64 ((q12 (nxc c e)) - (q12 e))) * (Int32.toInt64 ((q13 j) - (q13 e)))) - ((Int32.toInt64 ((q13 (nxc c e)) - (q13 e))) * (Int32.toInt64 ((q12 j) - (q12 e))))) from h_1), if_pos (show (((Int32.toInt64 ((q12 (nxc c e)) - (q12 e))) * (Int32.toInt64 ((q13 j) - (q13 e)))) - ((Int32.toInt64 ((q13 (nxc c e)) - (q13 e))) * (Int32.toInt64 ((q12 j) - (q12 e))))) ≤ 0 from h_2)], rfl⟩)
    · refine ab_iconst (v := 1) dX11_side_85 (by decide) ?_
      refine ab_goto 90 dX11_side_86 (by decide) ?_
      exact ab_iret dX11_side_90 rfl (by decide) (⟨by unfold Sg3 Cv_bend; rw [if_pos (show 0 ≤ (((Int32.toInt64 ((q12 (nxc c e)) - (q12 e))) * (Int32.toInt64 ((q13 j) - (q13 e)))) - ((Int32.toInt64 ((q13 (nxc c e)) - (q13 e))) * (Int32.toInt64 ((q12 j) - (q12 e))))) from h_1), if_neg (show ¬ (((Int32.toInt64 ((q12 (nxc c e)) - (q12 e))) * (Int32.toInt64 ((q13 j) - (q13 e)))) - ((Int32.toInt64 ((q13 (nxc c e)) - (q13 e))) * (Int32.toInt64 ((q12 j) - (q12 e))))) ≤ 0 from h_2)], rfl⟩)
  · refine ab_iconst (v := -1) dX11_side_74 (by decide) ?_
    refine ab_goto 90 dX11_side_75 (by decide) ?_
    exact ab_iret dX11_side_90 rfl (by decide) (⟨by unfold Sg3 Cv_bend; rw [if_neg (show ¬ 0 ≤ (((Int32.toInt64 ((q12 (nxc c e)) - (q12 e))) * (Int32.toInt64 ((q13 j) - (q13 e)))) - ((Int32.toInt64 ((q13 (nxc c e)) - (q13 e))) * (Int32.toInt64 ((q12 j) - (q12 e))))) from h_1)], rfl⟩)
theorem c_X11_isCrossing {wc : List ax_E} {m_thrown m_trouble m_fault m_where m_taped m_linkMany m_tracerMany m_pointMany m_pairMany m_readLinks m_readTracers m_readPoints m_readPairs m_textLong m_at m_spot m_token m_whole m_readFault m_readPlace m_value m_cornerMany m_straightAt m_walkLink m_walkAngle m_walkBranch m_walkMany m_lined m_actMany : Int32} {m_n m_c m_d m_s m_e m_k m_x m_y m_g m_a m_fitUp m_fitDown m_worstUp m_worstDown : Int64} {z1 z2 z3 z4 z5 z6 z7 z8 z9 z10 z11 z14 z15 z16 z17 z18 z19 z20 : ax_E} {q12 q13 : Nat → Int32} {c one other : Nat} (hc : c ≤ 40) (h1 : one < c) (h2 : other < c) : Ct M_X11_isCrossing [.ref 1000, .int (nI one), .int (nI other)] (wc, [ob 9 [.int m_thrown, .int m_trouble, .int m_fault, .int m_where, .ref 1001, .ref 1002, .int 40, .ref 1003, .int m_taped, .int m_linkMany, .int m_tracerMany, .int m_pointMany, .int m_pairMany, .ref 1004, .ref 1005, .ref 1006, .ref 1007, .int m_readLinks, .int m_readTracers, .int m_readPoints, .int m_readPairs, .ref 1008, .ref 1009, .ref 1010, .ref 1011, .int m_textLong, .int m_at, .int m_spot, .int m_token, .int m_whole, .int m_readFault, .int m_readPlace, .int m_value, .long m_n, .long m_c, .long m_d, .long m_s, .long m_e, .long m_k, .long m_x, .long m_y, .long m_g, .long m_a, .ref 1012, .ref 1013, .ref 1014, .int (nI c), .ref 1015, .int m_cornerMany, .int m_straightAt, .ref 1016, .long m_fitUp, .long m_fitDown, .long m_worstUp, .long m_worstDown, .ref 1017, .int m_walkLink, .int m_walkAngle, .int m_walkBranch, .int m_walkMany, .ref 1018, .ref 1019, .int m_lined, .ref 1020, .int m_actMany], z1, z2, z3, z4, z5, z6, z7, z8, z9, z10, z11, ia 64 q12, ia 64 q13, z14, z15, z16, z17, z18, z19, z20]) (fun r w' => ((¬ one = other ∧ ¬ one = nxc c other ∧ ¬ nxc c one = other ∧ ¬ nxc c one = nxc c other ∧ Sg3 (Cv_bend q12 q13 one (nxc c one) other) * Sg3 (Cv_bend q12 q13 one (nxc c one) (nxc c other)) < 0 ∧ Sg3 (Cv_bend q12 q13 other (nxc c other) one) * Sg3 (Cv_bend q12 q13 other (nxc c other) (nxc c one)) < 0) ∧ r = some (.int 1) ∧ w' = (wc, [ob 9 [.int m_thrown, .int m_trouble, .int m_fault, .int m_where, .ref 1001, .ref 1002, .int 40, .ref 1003, .int m_taped, .int m_linkMany, .int m_tracerMany, .int m_pointMany, .int m_pairMany, .ref 1004, .ref 1005, .ref 1006, .ref 1007, .int m_readLinks, .int m_readTracers, .int m_readPoints, .int m_readPairs, .ref 1008, .ref 1009, .ref 1010, .ref 1011, .int m_textLong, .int m_at, .int m_spot, .int m_token, .int m_whole, .int m_readFault, .int m_readPlace, .int m_value, .long m_n, .long m_c, .long m_d, .long m_s, .long m_e, .long m_k, .long m_x, .long m_y, .long m_g, .long m_a, .ref 1012, .ref 1013, .ref 1014, .int (nI c), .ref 1015, .int m_cornerMany, .int m_straightAt, .ref 1016, .long m_fitUp, .long m_fitDown, .long m_worstUp, .long m_worstDown, .ref 1017, .int m_walkLink, .int m_walkAngle, .int m_walkBranch, .int m_walkMany, .ref 1018, .ref 1019, .int m_lined, .ref 1020, .int m_actMany], z1, z2, z3, z4, z5, z6, z7, z8, z9, z10, z11, ia 64 q12, ia 64 q13, z14, z15, z16, z17, z18, z19, z20])) ∨ ((¬ (¬ one = other ∧ ¬ one = nxc c other ∧ ¬ nxc c one = other ∧ ¬ nxc c one = nxc c other ∧ Sg3 (Cv_bend q12 q13 one (nxc c one) other) * Sg3 (Cv_bend q12 q13 one (nxc c one) (nxc c other)) < 0 ∧ Sg3 (Cv_bend q12 q13 other (nxc c other) one) * Sg3 (Cv_bend q12 q13 other (nxc c other) (nxc c one)) < 0)) ∧ r = some (.int 0) ∧ w' = (wc, [ob 9 [.int m_thrown, .int m_trouble, .int m_fault, .int m_where, .ref 1001, .ref 1002, .int 40, .ref 1003, .int m_taped, .int m_linkMany, .int m_tracerMany, .int m_pointMany, .int m_pairMany, .ref 1004, .ref 1005, .ref 1006, .ref 1007, .int m_readLinks, .int m_readTracers, .int m_readPoints, .int m_readPairs, .ref 1008, .ref 1009, .ref 1010, .ref 1011, .int m_textLong, .int m_at, .int m_spot, .int m_token, .int m_whole, .int m_readFault, .int m_readPlace, .int m_value, .long m_n, .long m_c, .long m_d, .long m_s, .long m_e, .long m_k, .long m_x, .long m_y, .long m_g, .long m_a, .ref 1012, .ref 1013, .ref 1014, .int (nI c), .ref 1015, .int m_cornerMany, .int m_straightAt, .ref 1016, .long m_fitUp, .long m_fitDown, .long m_worstUp, .long m_worstDown, .ref 1017, .int m_walkLink, .int m_walkAngle, .int m_walkBranch, .int m_walkMany, .ref 1018, .ref 1019, .int m_lined, .ref 1020, .int m_actMany], z1, z2, z3, z4, z5, z6, z7, z8, z9, z10, z11, ia 64 q12, ia 64 q13, z14, z15, z16, z17, z18, z19, z20]))) := by
  refine ct_of ⟨by decide, rfl⟩ (Nat.le_of_ble_eq_true rfl) ?_
  refine ab_iload_n dX11_isCrossing_0 rfl ?_
  refine ab_iload_n dX11_isCrossing_1 rfl ?_
  refine ab_icmpeq 40 dX11_isCrossing_2 (by decide) (fun h_1 => ?_) (fun h_1 => ?_)
  · refine ab_iconst (v := 0) dX11_isCrossing_40 (by decide) ?_
    refine ab_istore_n (la' := [(3, .int 0), (0, .ref 1000), (1, .int (nI one)), (2, .int (nI other))]) dX11_isCrossing_41 (by decide) rfl ?_
    refine ab_iload_n dX11_isCrossing_42 rfl ?_
    refine ab_ifeq 90 dX11_isCrossing_43 (by decide) (fun h_2 => ?_) (fun h_2 => absurd (by decide) h_2)
    refine ab_iconst (v := 0) dX11_isCrossing_90 (by decide) ?_
    exact ab_zret dX11_isCrossing_91 rfl rfl (by decide) (Or.inr (⟨(by have n1 := nxc_lt (c := c) (i := one) (by omega); have n2 := nxc_lt (c := c) (i := other) (by omega); have e1 := nI_eq (a := one) (b := other) (by omega) (by omega); have e2 := nI_eq (a := one) (b := nxc c other) (by omega) (by omega); have e3 := nI_eq (a := nxc c one) (b := other) (by omega) (by omega); have e4 := nI_eq (a := nxc c one) (b := nxc c other) (by omega) (by omega); clear n1 n2; grind), rfl, rfl⟩))
  · refine ab_iload_n dX11_isCrossing_5 rfl ?_
    refine ab_aload_n dX11_isCrossing_6 rfl ?_
    refine ab_iload_n dX11_isCrossing_7 rfl ?_
    refine ab_callV (As := [.int (nI other)]) (rest := [.int (nI one)]) dX11_isCrossing_8 mv_X11_after ml_X11_431 ⟨by decide, by decide, rfl, rfl, rfl⟩ (by decide) rfl rfl (Nat.le_of_ble_eq_true rfl) rfl (c_X11_after (c := c) (j := other) hc (by omega)) ?_
    rintro r w' ⟨rfl, rfl⟩
    refine ab_icmpeq 40 dX11_isCrossing_11 (by decide) (fun h_3 => ?_) (fun h_3 => ?_)
    · refine ab_iconst (v := 0) dX11_isCrossing_40 (by decide) ?_
      refine ab_istore_n (la' := [(3, .int 0), (0, .ref 1000), (1, .int (nI one)), (2, .int (nI other))]) dX11_isCrossing_41 (by decide) rfl ?_
      refine ab_iload_n dX11_isCrossing_42 rfl ?_
      refine ab_ifeq 90 dX11_isCrossing_43 (by decide) (fun h_4 => ?_) (fun h_4 => absurd (by decide) h_4)
      refine ab_iconst (v := 0) dX11_isCrossing_90 (by decide) ?_
      exact ab_zret dX11_isCrossing_91 rfl rfl (by decide) (Or.inr (⟨(by have n1 := nxc_lt (c := c) (i := one) (by omega); have n2 := nxc_lt (c := c) (i := other) (by omega); have e1 := nI_eq (a := one) (b := other) (by omega) (by omega); have e2 := nI_eq (a := one) (b := nxc c other) (by omega) (by omega); have e3 := nI_eq (a := nxc c one) (b := other) (by omega) (by omega); have e4 := nI_eq (a := nxc c one) (b := nxc c other) (by omega) (by omega); clear n1 n2; grind), rfl, rfl⟩))
    · refine ab_aload_n dX11_isCrossing_14 rfl ?_
      refine ab_iload_n dX11_isCrossing_15 rfl ?_
      refine ab_callV (As := [.int (nI one)]) (rest := []) dX11_isCrossing_16 mv_X11_after ml_X11_431 ⟨by decide, by decide, rfl, rfl, rfl⟩ (by decide) rfl rfl (Nat.le_of_ble_eq_true rfl) rfl (c_X11_after (c := c) (j := one) hc (by omega)) ?_
      rintro r w' ⟨rfl, rfl⟩
      refine ab_iload_n dX11_isCrossing_19 rfl ?_
      refine ab_icmpeq 40 dX11_isCrossing_20 (by decide) (fun h_5 => ?_) (fun h_5 => ?_)
      · refine ab_iconst (v := 0) dX11_isCrossing_40 (by decide) ?_
        refine ab_istore_n (la' := [(3, .int 0), (0, .ref 1000), (1, .int (nI one)), (2, .int (nI other))]) dX11_isCrossing_41 (by decide) rfl ?_
        refine ab_iload_n dX11_isCrossing_42 rfl ?_
        refine ab_ifeq 90 dX11_isCrossing_43 (by decide) (fun h_6 => ?_) (fun h_6 => absurd (by decide) h_6)
        refine ab_iconst (v := 0) dX11_isCrossing_90 (by decide) ?_
        exact ab_zret dX11_isCrossing_91 rfl rfl (by decide) (Or.inr (⟨(by have n1 := nxc_lt (c := c) (i := one) (by omega); have n2 := nxc_lt (c := c) (i := other) (by omega); have e1 := nI_eq (a := one) (b := other) (by omega) (by omega); have e2 := nI_eq (a := one) (b := nxc c other) (by omega) (by omega); have e3 := nI_eq (a := nxc c one) (b := other) (by omega) (by omega); have e4 := nI_eq (a := nxc c one) (b := nxc c other) (by omega) (by omega); clear n1 n2; grind), rfl, rfl⟩))
      · refine ab_aload_n dX11_isCrossing_23 rfl ?_
        refine ab_iload_n dX11_isCrossing_24 rfl ?_
        refine ab_callV (As := [.int (nI one)]) (rest := []) dX11_isCrossing_25 mv_X11_after ml_X11_431 ⟨by decide, by decide, rfl, rfl, rfl⟩ (by decide) rfl rfl (Nat.le_of_ble_eq_true rfl) rfl (c_X11_after (c := c) (j := one) hc (by omega)) ?_
        rintro r w' ⟨rfl, rfl⟩
        refine ab_aload_n dX11_isCrossing_28 rfl ?_
        refine ab_iload_n dX11_isCrossing_29 rfl ?_
        refine ab_callV (As := [.int (nI other)]) (rest := [.int (nI (nxc c one))]) dX11_isCrossing_30 mv_X11_after ml_X11_431 ⟨by decide, by decide, rfl, rfl, rfl⟩ (by decide) rfl rfl (Nat.le_of_ble_eq_true rfl) rfl (c_X11_after (c := c) (j := other) hc (by omega)) ?_
        rintro r w' ⟨rfl, rfl⟩
        refine ab_icmpeq 40 dX11_isCrossing_33 (by decide) (fun h_7 => ?_) (fun h_7 => ?_)
        · refine ab_iconst (v := 0) dX11_isCrossing_40 (by decide) ?_
          refine ab_istore_n (la' := [(3, .int 0), (0, .ref 1000), (1, .int (nI one)), (2, .int (nI other))]) dX11_isCrossing_41 (by decide) rfl ?_
          refine ab_iload_n dX11_isCrossing_42 rfl ?_
          refine ab_ifeq 90 dX11_isCrossing_43 (by decide) (fun h_8 => ?_) (fun h_8 => absurd (by decide) h_8)
          refine ab_iconst (v := 0) dX11_isCrossing_90 (by decide) ?_
          exact ab_zret dX11_isCrossing_91 rfl rfl (by decide) (Or.inr (⟨(by have n1 := nxc_lt (c := c) (i := one) (by omega); have n2 := nxc_lt (c := c) (i := other) (by omega); have e1 := nI_eq (a := one) (b := other) (by omega) (by omega); have e2 := nI_eq (a := one) (b := nxc c other) (by omega) (by omega); have e3 := nI_eq (a := nxc c one) (b := other) (by omega) (by omega); have e4 := nI_eq (a := nxc c one) (b := nxc c other) (by omega) (by omega); clear n1 n2; grind), rfl, rfl⟩))
        · refine ab_iconst (v := 1) dX11_isCrossing_36 (by decide) ?_
          refine ab_goto 41 dX11_isCrossing_37 (by decide) ?_
          refine ab_istore_n (la' := [(3, .int 1), (0, .ref 1000), (1, .int (nI one)), (2, .int (nI other))]) dX11_isCrossing_41 (by decide) rfl ?_
          refine ab_iload_n dX11_isCrossing_42 rfl ?_
          refine ab_ifeq 90 dX11_isCrossing_43 (by decide) (fun h_9 => absurd h_9 (by decide)) (fun h_9 => ?_)
          refine ab_aload_n dX11_isCrossing_46 rfl ?_
          refine ab_iload_n dX11_isCrossing_47 rfl ?_
          refine ab_iload_n dX11_isCrossing_48 rfl ?_
          refine ab_callV (As := [.int (nI one), .int (nI other)]) (rest := []) dX11_isCrossing_49 mv_X11_side ml_X11_434 ⟨by decide, by decide, rfl, rfl, rfl⟩ (by decide) rfl rfl (Nat.le_of_ble_eq_true rfl) rfl (c_X11_side (c := c) (e := one) (j := other) hc (by omega) (by omega)) ?_
          rintro r w' ⟨rfl, rfl⟩
          refine ab_aload_n dX11_isCrossing_52 rfl ?_
          refine ab_iload_n dX11_isCrossing_53 rfl ?_
          refine ab_aload_n dX11_isCrossing_54 rfl ?_
          refine ab_iload_n dX11_isCrossing_55 rfl ?_
          refine ab_callV (As := [.int (nI other)]) (rest := [.int (nI one), .ref 1000, .int (Sg3 (Cv_bend q12 q13 one (nxc c one) other))]) dX11_isCrossing_56 mv_X11_after ml_X11_431 ⟨by decide, by decide, rfl, rfl, rfl⟩ (by decide) rfl rfl (Nat.le_of_ble_eq_true rfl) rfl (c_X11_after (c := c) (j := other) hc (by omega)) ?_
          rintro r w' ⟨rfl, rfl⟩
          refine ab_callV (As := [.int (nI one), .int (nI (nxc c other))]) (rest := [.int (Sg3 (Cv_bend q12 q13 one (nxc c one) other))]) dX11_isCrossing_59 mv_X11_side ml_X11_434 ⟨by decide, by decide, rfl, rfl, rfl⟩ (by decide) rfl rfl (Nat.le_of_ble_eq_true rfl) rfl (c_X11_side (c := c) (e := one) (j := (nxc c other)) hc (by omega) (nxc_lt (by omega))) ?_
          rintro r w' ⟨rfl, rfl⟩
          refine ab_imul dX11_isCrossing_62 ?_
          refine ab_ifge 90 dX11_isCrossing_63 (by decide) (fun h_10 => ?_) (fun h_10 => ?_)
          · refine ab_iconst (v := 0) dX11_isCrossing_90 (by decide) ?_
            exact ab_zret dX11_isCrossing_91 rfl rfl (by decide) (Or.inr (⟨(by have n1 := nxc_lt (c := c) (i := one) (by omega); have n2 := nxc_lt (c := c) (i := other) (by omega); have e1 := nI_eq (a := one) (b := other) (by omega) (by omega); have e2 := nI_eq (a := one) (b := nxc c other) (by omega) (by omega); have e3 := nI_eq (a := nxc c one) (b := other) (by omega) (by omega); have e4 := nI_eq (a := nxc c one) (b := nxc c other) (by omega) (by omega); clear n1 n2; grind), rfl, rfl⟩))
          · refine ab_aload_n dX11_isCrossing_66 rfl ?_
            refine ab_iload_n dX11_isCrossing_67 rfl ?_
            refine ab_iload_n dX11_isCrossing_68 rfl ?_
            refine ab_callV (As := [.int (nI other), .int (nI one)]) (rest := []) dX11_isCrossing_69 mv_X11_side ml_X11_434 ⟨by decide, by decide, rfl, rfl, rfl⟩ (by decide) rfl rfl (Nat.le_of_ble_eq_true rfl) rfl (c_X11_side (c := c) (e := other) (j := one) hc (by omega) (by omega)) ?_
            rintro r w' ⟨rfl, rfl⟩
            refine ab_aload_n dX11_isCrossing_72 rfl ?_
            refine ab_iload_n dX11_isCrossing_73 rfl ?_
            refine ab_aload_n dX11_isCrossing_74 rfl ?_
            refine ab_iload_n dX11_isCrossing_75 rfl ?_
            refine ab_callV (As := [.int (nI one)]) (rest := [.int (nI other), .ref 1000, .int (Sg3 (Cv_bend q12 q13 other (nxc c other) one))]) dX11_isCrossing_76 mv_X11_after ml_X11_431 ⟨by decide, by decide, rfl, rfl, rfl⟩ (by decide) rfl rfl (Nat.le_of_ble_eq_true rfl) rfl (c_X11_after (c := c) (j := one) hc (by omega)) ?_
            rintro r w' ⟨rfl, rfl⟩
            refine ab_callV (As := [.int (nI other), .int (nI (nxc c one))]) (rest := [.int (Sg3 (Cv_bend q12 q13 other (nxc c other) one))]) dX11_isCrossing_79 mv_X11_side ml_X11_434 ⟨by decide, by decide, rfl, rfl, rfl⟩ (by decide) rfl rfl (Nat.le_of_ble_eq_true rfl) rfl (c_X11_side (c := c) (e := other) (j := (nxc c one)) hc (by omega) (nxc_lt (by omega))) ?_
            rintro r w' ⟨rfl, rfl⟩
            refine ab_imul dX11_isCrossing_82 ?_
            refine ab_ifge 90 dX11_isCrossing_83 (by decide) (fun h_11 => ?_) (fun h_11 => ?_)
            · refine ab_iconst (v := 0) dX11_isCrossing_90 (by decide) ?_
              exact ab_zret dX11_isCrossing_91 rfl rfl (by decide) (Or.inr (⟨(by have n1 := nxc_lt (c := c) (i := one) (by omega); have n2 := nxc_lt (c := c) (i := other) (by omega); have e1 := nI_eq (a := one) (b := other) (by omega) (by omega); have e2 := nI_eq (a := one) (b := nxc c other) (by omega) (by omega); have e3 := nI_eq (a := nxc c one) (b := other) (by omega) (by omega); have e4 := nI_eq (a := nxc c one) (b := nxc c other) (by omega) (by omega); clear n1 n2; grind), rfl, rfl⟩))
            · refine ab_iconst (v := 1) dX11_isCrossing_86 (by decide) ?_
              refine ab_goto 91 dX11_isCrossing_87 (by decide) ?_
              exact ab_zret dX11_isCrossing_91 rfl rfl (by decide) (Or.inl (⟨(by have n1 := nxc_lt (c := c) (i := one) (by omega); have n2 := nxc_lt (c := c) (i := other) (by omega); have e1 := nI_eq (a := one) (b := other) (by omega) (by omega); have e2 := nI_eq (a := one) (b := nxc c other) (by omega) (by omega); have e3 := nI_eq (a := nxc c one) (b := other) (by omega) (by omega); have e4 := nI_eq (a := nxc c one) (b := nxc c other) (by omega) (by omega); clear n1 n2; grind), rfl, rfl⟩))
