theorem in4 {x : Int32} (h : 0 ≤ x ∧ x < 4) : x = 0 ∨ x = 1 ∨ x = 2 ∨ x = 3 := by
  obtain ⟨j, hj, rfl⟩ := nI_in2 (c := 4) (by decide) h.1 h.2
  have : ∀ j, j < 4 → nI j = 0 ∨ nI j = 1 ∨ nI j = 2 ∨ nI j = 3 := by decide +kernel
  exact this j hj
theorem ix_ml {i x m : Int32} {W c N : Nat} (hi : 0 ≤ i ∧ i < m) (hm : m ≤ nI c) (hx : 0 ≤ x ∧ x < nI W) (hN : 0 + c * W ≤ N) (hs : N < 2 ^ 31) (hc : c < 2 ^ 31) (hW : W < 2 ^ 31) : ax_ix (nI W * i + x) N (0 + i.toNatClampNeg * W + x.toNatClampNeg) := by
  have h := ix_tl (S := 0) hi hm hx hN hs hc hW
  rw [show nI 0 + i * nI W + x = nI W * i + x by rw [nI_0]; grind] at h
  exact h
theorem le_pred {a m : Int32} (h : 0 ≤ m) : a ≤ m - 1 ↔ a < m := by
  rw [Int32.le_iff_toInt_le, Int32.lt_iff_toInt_lt, Int32.toInt_sub]
  have h0 : 0 ≤ m.toInt := by simpa using Int32.le_iff_toInt_le.mp h
  have h1 := m.toInt_lt
  have h2 : (1 : Int32).toInt = 1 := rfl
  rw [h2, Int.bmod_eq_of_le (by omega) (by omega)]
  omega
theorem le_39 {a : Int32} : a ≤ 39 ↔ a < 40 := le_pred (m := 40) (by decide)
theorem le_c {a : Int32} (c d : Int32) (h : 0 ≤ d) (hd : d - 1 = c) : a ≤ c ↔ a < d := by rw [← hd]; exact le_pred h
theorem c_X11_anew {wc : List ax_E} {m_thrown m_trouble m_fault m_where m_taped m_linkMany m_tracerMany m_pointMany m_pairMany m_readLinks m_readTracers m_readPoints m_readPairs m_textLong m_at m_spot m_token m_whole m_readFault m_readPlace m_value m_curveMany m_cornerMany m_straightAt m_walkLink m_walkAngle m_walkBranch m_walkMany m_lined m_actMany : Int32} {m_n m_c m_d m_s m_e m_k m_x m_y m_g m_a m_fitUp m_fitDown m_worstUp m_worstDown : Int64} {z1 z2 z3 z4 z5 z6 z7 z8 z9 z10 z11 z12 z13 z14 z15 z16 z17 z18 z19 z20 : ax_E}  : Ct M_X11_anew [.ref 1000] (wc, [ob 9 [.int m_thrown, .int m_trouble, .int m_fault, .int m_where, .ref 1001, .ref 1002, .int 40, .ref 1003, .int m_taped, .int m_linkMany, .int m_tracerMany, .int m_pointMany, .int m_pairMany, .ref 1004, .ref 1005, .ref 1006, .ref 1007, .int m_readLinks, .int m_readTracers, .int m_readPoints, .int m_readPairs, .ref 1008, .ref 1009, .ref 1010, .ref 1011, .int m_textLong, .int m_at, .int m_spot, .int m_token, .int m_whole, .int m_readFault, .int m_readPlace, .int m_value, .long m_n, .long m_c, .long m_d, .long m_s, .long m_e, .long m_k, .long m_x, .long m_y, .long m_g, .long m_a, .ref 1012, .ref 1013, .ref 1014, .int m_curveMany, .ref 1015, .int m_cornerMany, .int m_straightAt, .ref 1016, .long m_fitUp, .long m_fitDown, .long m_worstUp, .long m_worstDown, .ref 1017, .int m_walkLink, .int m_walkAngle, .int m_walkBranch, .int m_walkMany, .ref 1018, .ref 1019, .int m_lined, .ref 1020, .int m_actMany], z1, z2, z3, z4, z5, z6, z7, z8, z9, z10, z11, z12, z13, z14, z15, z16, z17, z18, z19, z20]) (fun r w' => r = none ∧ w' = (wc, [ob 9 [.int 0, .int 0, .int m_fault, .int (-1), .ref 1001, .ref 1002, .int 40, .ref 1003, .int m_taped, .int m_linkMany, .int m_tracerMany, .int m_pointMany, .int m_pairMany, .ref 1004, .ref 1005, .ref 1006, .ref 1007, .int m_readLinks, .int m_readTracers, .int m_readPoints, .int m_readPairs, .ref 1008, .ref 1009, .ref 1010, .ref 1011, .int m_textLong, .int m_at, .int m_spot, .int m_token, .int m_whole, .int m_readFault, .int m_readPlace, .int m_value, .long m_n, .long m_c, .long m_d, .long m_s, .long m_e, .long m_k, .long m_x, .long m_y, .long m_g, .long m_a, .ref 1012, .ref 1013, .ref 1014, .int m_curveMany, .ref 1015, .int m_cornerMany, .int m_straightAt, .ref 1016, .long m_fitUp, .long m_fitDown, .long m_worstUp, .long m_worstDown, .ref 1017, .int m_walkLink, .int m_walkAngle, .int m_walkBranch, .int m_walkMany, .ref 1018, .ref 1019, .int m_lined, .ref 1020, .int m_actMany], z1, z2, z3, z4, z5, z6, z7, z8, z9, z10, z11, z12, z13, z14, z15, z16, z17, z18, z19, z20])) := by
  refine ct_of ⟨by decide, rfl⟩ (Nat.le_of_ble_eq_true rfl) ?_
  refine ab_aload_n dX11_anew_0 rfl ?_
  refine ab_iconst (v := 0) dX11_anew_1 (by decide) ?_
  refine ab_putf (w1 := (wc, [ob 9 [.int 0, .int m_trouble, .int m_fault, .int m_where, .ref 1001, .ref 1002, .int 40, .ref 1003, .int m_taped, .int m_linkMany, .int m_tracerMany, .int m_pointMany, .int m_pairMany, .ref 1004, .ref 1005, .ref 1006, .ref 1007, .int m_readLinks, .int m_readTracers, .int m_readPoints, .int m_readPairs, .ref 1008, .ref 1009, .ref 1010, .ref 1011, .int m_textLong, .int m_at, .int m_spot, .int m_token, .int m_whole, .int m_readFault, .int m_readPlace, .int m_value, .long m_n, .long m_c, .long m_d, .long m_s, .long m_e, .long m_k, .long m_x, .long m_y, .long m_g, .long m_a, .ref 1012, .ref 1013, .ref 1014, .int m_curveMany, .ref 1015, .int m_cornerMany, .int m_straightAt, .ref 1016, .long m_fitUp, .long m_fitDown, .long m_worstUp, .long m_worstDown, .ref 1017, .int m_walkLink, .int m_walkAngle, .int m_walkBranch, .int m_walkMany, .ref 1018, .ref 1019, .int m_lined, .ref 1020, .int m_actMany], z1, z2, z3, z4, z5, z6, z7, z8, z9, z10, z11, z12, z13, z14, z15, z16, z17, z18, z19, z20])) dX11_anew_2 fl_X11_1 rfl (Nat.le_of_ble_eq_true rfl) (fun _ => ⟨rfl, rfl⟩) rfl ?_
  refine ab_aload_n dX11_anew_5 rfl ?_
  refine ab_iconst (v := 0) dX11_anew_6 (by decide) ?_
  refine ab_putf (w1 := (wc, [ob 9 [.int 0, .int 0, .int m_fault, .int m_where, .ref 1001, .ref 1002, .int 40, .ref 1003, .int m_taped, .int m_linkMany, .int m_tracerMany, .int m_pointMany, .int m_pairMany, .ref 1004, .ref 1005, .ref 1006, .ref 1007, .int m_readLinks, .int m_readTracers, .int m_readPoints, .int m_readPairs, .ref 1008, .ref 1009, .ref 1010, .ref 1011, .int m_textLong, .int m_at, .int m_spot, .int m_token, .int m_whole, .int m_readFault, .int m_readPlace, .int m_value, .long m_n, .long m_c, .long m_d, .long m_s, .long m_e, .long m_k, .long m_x, .long m_y, .long m_g, .long m_a, .ref 1012, .ref 1013, .ref 1014, .int m_curveMany, .ref 1015, .int m_cornerMany, .int m_straightAt, .ref 1016, .long m_fitUp, .long m_fitDown, .long m_worstUp, .long m_worstDown, .ref 1017, .int m_walkLink, .int m_walkAngle, .int m_walkBranch, .int m_walkMany, .ref 1018, .ref 1019, .int m_lined, .ref 1020, .int m_actMany], z1, z2, z3, z4, z5, z6, z7, z8, z9, z10, z11, z12, z13, z14, z15, z16, z17, z18, z19, z20])) dX11_anew_7 fl_X11_11 rfl (Nat.le_of_ble_eq_true rfl) (fun _ => ⟨rfl, rfl⟩) rfl ?_
  refine ab_aload_n dX11_anew_10 rfl ?_
  refine ab_iconst (v := -1) dX11_anew_11 (by decide) ?_
  refine ab_putf (w1 := (wc, [ob 9 [.int 0, .int 0, .int m_fault, .int (-1), .ref 1001, .ref 1002, .int 40, .ref 1003, .int m_taped, .int m_linkMany, .int m_tracerMany, .int m_pointMany, .int m_pairMany, .ref 1004, .ref 1005, .ref 1006, .ref 1007, .int m_readLinks, .int m_readTracers, .int m_readPoints, .int m_readPairs, .ref 1008, .ref 1009, .ref 1010, .ref 1011, .int m_textLong, .int m_at, .int m_spot, .int m_token, .int m_whole, .int m_readFault, .int m_readPlace, .int m_value, .long m_n, .long m_c, .long m_d, .long m_s, .long m_e, .long m_k, .long m_x, .long m_y, .long m_g, .long m_a, .ref 1012, .ref 1013, .ref 1014, .int m_curveMany, .ref 1015, .int m_cornerMany, .int m_straightAt, .ref 1016, .long m_fitUp, .long m_fitDown, .long m_worstUp, .long m_worstDown, .ref 1017, .int m_walkLink, .int m_walkAngle, .int m_walkBranch, .int m_walkMany, .ref 1018, .ref 1019, .int m_lined, .ref 1020, .int m_actMany], z1, z2, z3, z4, z5, z6, z7, z8, z9, z10, z11, z12, z13, z14, z15, z16, z17, z18, z19, z20])) dX11_anew_12 fl_X11_14 rfl (Nat.le_of_ble_eq_true rfl) (fun _ => ⟨rfl, rfl⟩) rfl ?_
  exact ab_vret dX11_anew_15 rfl (by decide) (⟨rfl, rfl⟩)
theorem c_X11_no {wc : List ax_E} {m_thrown m_trouble m_fault m_where m_taped m_linkMany m_tracerMany m_pointMany m_pairMany m_readLinks m_readTracers m_readPoints m_readPairs m_textLong m_at m_spot m_token m_whole m_readFault m_readPlace m_value m_curveMany m_cornerMany m_straightAt m_walkLink m_walkAngle m_walkBranch m_walkMany m_lined m_actMany a1 : Int32} {m_n m_c m_d m_s m_e m_k m_x m_y m_g m_a m_fitUp m_fitDown m_worstUp m_worstDown : Int64} {z1 z2 z3 z4 z5 z6 z7 z8 z9 z10 z11 z12 z13 z14 z15 z16 z17 z18 z19 z20 : ax_E}  : Ct M_X11_no [.ref 1000, .int a1] (wc, [ob 9 [.int m_thrown, .int m_trouble, .int m_fault, .int m_where, .ref 1001, .ref 1002, .int 40, .ref 1003, .int m_taped, .int m_linkMany, .int m_tracerMany, .int m_pointMany, .int m_pairMany, .ref 1004, .ref 1005, .ref 1006, .ref 1007, .int m_readLinks, .int m_readTracers, .int m_readPoints, .int m_readPairs, .ref 1008, .ref 1009, .ref 1010, .ref 1011, .int m_textLong, .int m_at, .int m_spot, .int m_token, .int m_whole, .int m_readFault, .int m_readPlace, .int m_value, .long m_n, .long m_c, .long m_d, .long m_s, .long m_e, .long m_k, .long m_x, .long m_y, .long m_g, .long m_a, .ref 1012, .ref 1013, .ref 1014, .int m_curveMany, .ref 1015, .int m_cornerMany, .int m_straightAt, .ref 1016, .long m_fitUp, .long m_fitDown, .long m_worstUp, .long m_worstDown, .ref 1017, .int m_walkLink, .int m_walkAngle, .int m_walkBranch, .int m_walkMany, .ref 1018, .ref 1019, .int m_lined, .ref 1020, .int m_actMany], z1, z2, z3, z4, z5, z6, z7, z8, z9, z10, z11, z12, z13, z14, z15, z16, z17, z18, z19, z20]) (fun r w' => r = some (.int (-1)) ∧ w' = (wc, [ob 9 [.int m_thrown, .int a1, .int m_fault, .int m_where, .ref 1001, .ref 1002, .int 40, .ref 1003, .int m_taped, .int m_linkMany, .int m_tracerMany, .int m_pointMany, .int m_pairMany, .ref 1004, .ref 1005, .ref 1006, .ref 1007, .int m_readLinks, .int m_readTracers, .int m_readPoints, .int m_readPairs, .ref 1008, .ref 1009, .ref 1010, .ref 1011, .int m_textLong, .int m_at, .int m_spot, .int m_token, .int m_whole, .int m_readFault, .int m_readPlace, .int m_value, .long m_n, .long m_c, .long m_d, .long m_s, .long m_e, .long m_k, .long m_x, .long m_y, .long m_g, .long m_a, .ref 1012, .ref 1013, .ref 1014, .int m_curveMany, .ref 1015, .int m_cornerMany, .int m_straightAt, .ref 1016, .long m_fitUp, .long m_fitDown, .long m_worstUp, .long m_worstDown, .ref 1017, .int m_walkLink, .int m_walkAngle, .int m_walkBranch, .int m_walkMany, .ref 1018, .ref 1019, .int m_lined, .ref 1020, .int m_actMany], z1, z2, z3, z4, z5, z6, z7, z8, z9, z10, z11, z12, z13, z14, z15, z16, z17, z18, z19, z20])) := by
  refine ct_of ⟨by decide, rfl⟩ (Nat.le_of_ble_eq_true rfl) ?_
  refine ab_aload_n dX11_no_0 rfl ?_
  refine ab_iload_n dX11_no_1 rfl ?_
  refine ab_putf (w1 := (wc, [ob 9 [.int m_thrown, .int a1, .int m_fault, .int m_where, .ref 1001, .ref 1002, .int 40, .ref 1003, .int m_taped, .int m_linkMany, .int m_tracerMany, .int m_pointMany, .int m_pairMany, .ref 1004, .ref 1005, .ref 1006, .ref 1007, .int m_readLinks, .int m_readTracers, .int m_readPoints, .int m_readPairs, .ref 1008, .ref 1009, .ref 1010, .ref 1011, .int m_textLong, .int m_at, .int m_spot, .int m_token, .int m_whole, .int m_readFault, .int m_readPlace, .int m_value, .long m_n, .long m_c, .long m_d, .long m_s, .long m_e, .long m_k, .long m_x, .long m_y, .long m_g, .long m_a, .ref 1012, .ref 1013, .ref 1014, .int m_curveMany, .ref 1015, .int m_cornerMany, .int m_straightAt, .ref 1016, .long m_fitUp, .long m_fitDown, .long m_worstUp, .long m_worstDown, .ref 1017, .int m_walkLink, .int m_walkAngle, .int m_walkBranch, .int m_walkMany, .ref 1018, .ref 1019, .int m_lined, .ref 1020, .int m_actMany], z1, z2, z3, z4, z5, z6, z7, z8, z9, z10, z11, z12, z13, z14, z15, z16, z17, z18, z19, z20])) dX11_no_2 fl_X11_11 rfl (Nat.le_of_ble_eq_true rfl) (fun _ => ⟨rfl, rfl⟩) rfl ?_
  refine ab_iconst (v := -1) dX11_no_5 (by decide) ?_
  exact ab_iret dX11_no_6 rfl (by decide) (⟨rfl, rfl⟩)
theorem c_X11_nothing {wc : List ax_E} {m_thrown m_trouble m_fault m_where m_taped m_linkMany m_tracerMany m_pointMany m_pairMany m_readLinks m_readTracers m_readPoints m_readPairs m_textLong m_at m_spot m_token m_whole m_readFault m_readPlace m_value m_curveMany m_cornerMany m_straightAt m_walkLink m_walkAngle m_walkBranch m_walkMany m_lined m_actMany a1 : Int32} {m_n m_c m_d m_s m_e m_k m_x m_y m_g m_a m_fitUp m_fitDown m_worstUp m_worstDown : Int64} {z1 z2 z3 z4 z5 z6 z7 z8 z9 z10 z11 z12 z13 z14 z15 z16 z17 z18 z19 z20 : ax_E}  : Ct M_X11_nothing [.ref 1000, .int a1] (wc, [ob 9 [.int m_thrown, .int m_trouble, .int m_fault, .int m_where, .ref 1001, .ref 1002, .int 40, .ref 1003, .int m_taped, .int m_linkMany, .int m_tracerMany, .int m_pointMany, .int m_pairMany, .ref 1004, .ref 1005, .ref 1006, .ref 1007, .int m_readLinks, .int m_readTracers, .int m_readPoints, .int m_readPairs, .ref 1008, .ref 1009, .ref 1010, .ref 1011, .int m_textLong, .int m_at, .int m_spot, .int m_token, .int m_whole, .int m_readFault, .int m_readPlace, .int m_value, .long m_n, .long m_c, .long m_d, .long m_s, .long m_e, .long m_k, .long m_x, .long m_y, .long m_g, .long m_a, .ref 1012, .ref 1013, .ref 1014, .int m_curveMany, .ref 1015, .int m_cornerMany, .int m_straightAt, .ref 1016, .long m_fitUp, .long m_fitDown, .long m_worstUp, .long m_worstDown, .ref 1017, .int m_walkLink, .int m_walkAngle, .int m_walkBranch, .int m_walkMany, .ref 1018, .ref 1019, .int m_lined, .ref 1020, .int m_actMany], z1, z2, z3, z4, z5, z6, z7, z8, z9, z10, z11, z12, z13, z14, z15, z16, z17, z18, z19, z20]) (fun r w' => r = some (.int (-1000000000)) ∧ w' = (wc, [ob 9 [.int m_thrown, .int a1, .int m_fault, .int m_where, .ref 1001, .ref 1002, .int 40, .ref 1003, .int m_taped, .int m_linkMany, .int m_tracerMany, .int m_pointMany, .int m_pairMany, .ref 1004, .ref 1005, .ref 1006, .ref 1007, .int m_readLinks, .int m_readTracers, .int m_readPoints, .int m_readPairs, .ref 1008, .ref 1009, .ref 1010, .ref 1011, .int m_textLong, .int m_at, .int m_spot, .int m_token, .int m_whole, .int m_readFault, .int m_readPlace, .int m_value, .long m_n, .long m_c, .long m_d, .long m_s, .long m_e, .long m_k, .long m_x, .long m_y, .long m_g, .long m_a, .ref 1012, .ref 1013, .ref 1014, .int m_curveMany, .ref 1015, .int m_cornerMany, .int m_straightAt, .ref 1016, .long m_fitUp, .long m_fitDown, .long m_worstUp, .long m_worstDown, .ref 1017, .int m_walkLink, .int m_walkAngle, .int m_walkBranch, .int m_walkMany, .ref 1018, .ref 1019, .int m_lined, .ref 1020, .int m_actMany], z1, z2, z3, z4, z5, z6, z7, z8, z9, z10, z11, z12, z13, z14, z15, z16, z17, z18, z19, z20])) := by
  refine ct_of ⟨by decide, rfl⟩ (Nat.le_of_ble_eq_true rfl) ?_
  refine ab_aload_n dX11_nothing_0 rfl ?_
  refine ab_iload_n dX11_nothing_1 rfl ?_
  refine ab_putf (w1 := (wc, [ob 9 [.int m_thrown, .int a1, .int m_fault, .int m_where, .ref 1001, .ref 1002, .int 40, .ref 1003, .int m_taped, .int m_linkMany, .int m_tracerMany, .int m_pointMany, .int m_pairMany, .ref 1004, .ref 1005, .ref 1006, .ref 1007, .int m_readLinks, .int m_readTracers, .int m_readPoints, .int m_readPairs, .ref 1008, .ref 1009, .ref 1010, .ref 1011, .int m_textLong, .int m_at, .int m_spot, .int m_token, .int m_whole, .int m_readFault, .int m_readPlace, .int m_value, .long m_n, .long m_c, .long m_d, .long m_s, .long m_e, .long m_k, .long m_x, .long m_y, .long m_g, .long m_a, .ref 1012, .ref 1013, .ref 1014, .int m_curveMany, .ref 1015, .int m_cornerMany, .int m_straightAt, .ref 1016, .long m_fitUp, .long m_fitDown, .long m_worstUp, .long m_worstDown, .ref 1017, .int m_walkLink, .int m_walkAngle, .int m_walkBranch, .int m_walkMany, .ref 1018, .ref 1019, .int m_lined, .ref 1020, .int m_actMany], z1, z2, z3, z4, z5, z6, z7, z8, z9, z10, z11, z12, z13, z14, z15, z16, z17, z18, z19, z20])) dX11_nothing_2 fl_X11_11 rfl (Nat.le_of_ble_eq_true rfl) (fun _ => ⟨rfl, rfl⟩) rfl ?_
  refine ab_ldc dX11_nothing_5 kc_X11_17 ?_
  exact ab_iret dX11_nothing_7 rfl (by decide) (⟨rfl, rfl⟩)
theorem c_X11_lowest {wc : List ax_E} {m_thrown m_trouble m_fault m_where m_taped m_linkMany m_tracerMany m_pointMany m_pairMany m_readLinks m_readTracers m_readPoints m_readPairs m_textLong m_at m_spot m_token m_whole m_readFault m_readPlace m_value m_curveMany m_cornerMany m_straightAt m_walkLink m_walkAngle m_walkBranch m_walkMany m_lined m_actMany a1 : Int32} {m_n m_c m_d m_s m_e m_k m_x m_y m_g m_a m_fitUp m_fitDown m_worstUp m_worstDown : Int64} {z1 z2 z3 z4 z5 z6 z7 z8 z9 z10 z11 z12 z13 z14 z15 z16 z17 z18 z19 z20 : ax_E}  : Ct M_X11_lowest [.ref 1000, .int a1] (wc, [ob 9 [.int m_thrown, .int m_trouble, .int m_fault, .int m_where, .ref 1001, .ref 1002, .int 40, .ref 1003, .int m_taped, .int m_linkMany, .int m_tracerMany, .int m_pointMany, .int m_pairMany, .ref 1004, .ref 1005, .ref 1006, .ref 1007, .int m_readLinks, .int m_readTracers, .int m_readPoints, .int m_readPairs, .ref 1008, .ref 1009, .ref 1010, .ref 1011, .int m_textLong, .int m_at, .int m_spot, .int m_token, .int m_whole, .int m_readFault, .int m_readPlace, .int m_value, .long m_n, .long m_c, .long m_d, .long m_s, .long m_e, .long m_k, .long m_x, .long m_y, .long m_g, .long m_a, .ref 1012, .ref 1013, .ref 1014, .int m_curveMany, .ref 1015, .int m_cornerMany, .int m_straightAt, .ref 1016, .long m_fitUp, .long m_fitDown, .long m_worstUp, .long m_worstDown, .ref 1017, .int m_walkLink, .int m_walkAngle, .int m_walkBranch, .int m_walkMany, .ref 1018, .ref 1019, .int m_lined, .ref 1020, .int m_actMany], z1, z2, z3, z4, z5, z6, z7, z8, z9, z10, z11, z12, z13, z14, z15, z16, z17, z18, z19, z20]) (fun r w' => r = some (.long (-9223372036854775808)) ∧ w' = (wc, [ob 9 [.int m_thrown, .int a1, .int m_fault, .int m_where, .ref 1001, .ref 1002, .int 40, .ref 1003, .int m_taped, .int m_linkMany, .int m_tracerMany, .int m_pointMany, .int m_pairMany, .ref 1004, .ref 1005, .ref 1006, .ref 1007, .int m_readLinks, .int m_readTracers, .int m_readPoints, .int m_readPairs, .ref 1008, .ref 1009, .ref 1010, .ref 1011, .int m_textLong, .int m_at, .int m_spot, .int m_token, .int m_whole, .int m_readFault, .int m_readPlace, .int m_value, .long m_n, .long m_c, .long m_d, .long m_s, .long m_e, .long m_k, .long m_x, .long m_y, .long m_g, .long m_a, .ref 1012, .ref 1013, .ref 1014, .int m_curveMany, .ref 1015, .int m_cornerMany, .int m_straightAt, .ref 1016, .long m_fitUp, .long m_fitDown, .long m_worstUp, .long m_worstDown, .ref 1017, .int m_walkLink, .int m_walkAngle, .int m_walkBranch, .int m_walkMany, .ref 1018, .ref 1019, .int m_lined, .ref 1020, .int m_actMany], z1, z2, z3, z4, z5, z6, z7, z8, z9, z10, z11, z12, z13, z14, z15, z16, z17, z18, z19, z20])) := by
  refine ct_of ⟨by decide, rfl⟩ (Nat.le_of_ble_eq_true rfl) ?_
  refine ab_aload_n dX11_lowest_0 rfl ?_
  refine ab_iload_n dX11_lowest_1 rfl ?_
  refine ab_putf (w1 := (wc, [ob 9 [.int m_thrown, .int a1, .int m_fault, .int m_where, .ref 1001, .ref 1002, .int 40, .ref 1003, .int m_taped, .int m_linkMany, .int m_tracerMany, .int m_pointMany, .int m_pairMany, .ref 1004, .ref 1005, .ref 1006, .ref 1007, .int m_readLinks, .int m_readTracers, .int m_readPoints, .int m_readPairs, .ref 1008, .ref 1009, .ref 1010, .ref 1011, .int m_textLong, .int m_at, .int m_spot, .int m_token, .int m_whole, .int m_readFault, .int m_readPlace, .int m_value, .long m_n, .long m_c, .long m_d, .long m_s, .long m_e, .long m_k, .long m_x, .long m_y, .long m_g, .long m_a, .ref 1012, .ref 1013, .ref 1014, .int m_curveMany, .ref 1015, .int m_cornerMany, .int m_straightAt, .ref 1016, .long m_fitUp, .long m_fitDown, .long m_worstUp, .long m_worstDown, .ref 1017, .int m_walkLink, .int m_walkAngle, .int m_walkBranch, .int m_walkMany, .ref 1018, .ref 1019, .int m_lined, .ref 1020, .int m_actMany], z1, z2, z3, z4, z5, z6, z7, z8, z9, z10, z11, z12, z13, z14, z15, z16, z17, z18, z19, z20])) dX11_lowest_2 fl_X11_11 rfl (Nat.le_of_ble_eq_true rfl) (fun _ => ⟨rfl, rfl⟩) rfl ?_
  refine ab_ldc2 dX11_lowest_5 kl_X11_20 ?_
  exact ab_lret dX11_lowest_8 rfl (by decide) (⟨rfl, rfl⟩)
theorem c_X11_isLink {wc : List ax_E} {m_thrown m_trouble m_fault m_where m_taped m_linkMany m_tracerMany m_pointMany m_pairMany m_readLinks m_readTracers m_readPoints m_readPairs m_textLong m_at m_spot m_token m_whole m_readFault m_readPlace m_value m_curveMany m_cornerMany m_straightAt m_walkLink m_walkAngle m_walkBranch m_walkMany m_lined m_actMany a1 : Int32} {m_n m_c m_d m_s m_e m_k m_x m_y m_g m_a m_fitUp m_fitDown m_worstUp m_worstDown : Int64} {z1 z2 z3 z4 z5 z6 z7 z8 z9 z10 z11 z12 z13 z14 z15 z16 z17 z18 z19 z20 : ax_E} (h_l : 0 ≤ m_linkMany ∧ m_linkMany ≤ nI 4) : Ct M_X11_isLink [.ref 1000, .int a1] (wc, [ob 9 [.int m_thrown, .int m_trouble, .int m_fault, .int m_where, .ref 1001, .ref 1002, .int 40, .ref 1003, .int m_taped, .int m_linkMany, .int m_tracerMany, .int m_pointMany, .int m_pairMany, .ref 1004, .ref 1005, .ref 1006, .ref 1007, .int m_readLinks, .int m_readTracers, .int m_readPoints, .int m_readPairs, .ref 1008, .ref 1009, .ref 1010, .ref 1011, .int m_textLong, .int m_at, .int m_spot, .int m_token, .int m_whole, .int m_readFault, .int m_readPlace, .int m_value, .long m_n, .long m_c, .long m_d, .long m_s, .long m_e, .long m_k, .long m_x, .long m_y, .long m_g, .long m_a, .ref 1012, .ref 1013, .ref 1014, .int m_curveMany, .ref 1015, .int m_cornerMany, .int m_straightAt, .ref 1016, .long m_fitUp, .long m_fitDown, .long m_worstUp, .long m_worstDown, .ref 1017, .int m_walkLink, .int m_walkAngle, .int m_walkBranch, .int m_walkMany, .ref 1018, .ref 1019, .int m_lined, .ref 1020, .int m_actMany], z1, z2, z3, z4, z5, z6, z7, z8, z9, z10, z11, z12, z13, z14, z15, z16, z17, z18, z19, z20]) (fun r w' => ((0 ≤ a1 ∧ a1 < m_linkMany) ∧ r = some (.int 1) ∧ w' = (wc, [ob 9 [.int m_thrown, .int m_trouble, .int m_fault, .int m_where, .ref 1001, .ref 1002, .int 40, .ref 1003, .int m_taped, .int m_linkMany, .int m_tracerMany, .int m_pointMany, .int m_pairMany, .ref 1004, .ref 1005, .ref 1006, .ref 1007, .int m_readLinks, .int m_readTracers, .int m_readPoints, .int m_readPairs, .ref 1008, .ref 1009, .ref 1010, .ref 1011, .int m_textLong, .int m_at, .int m_spot, .int m_token, .int m_whole, .int m_readFault, .int m_readPlace, .int m_value, .long m_n, .long m_c, .long m_d, .long m_s, .long m_e, .long m_k, .long m_x, .long m_y, .long m_g, .long m_a, .ref 1012, .ref 1013, .ref 1014, .int m_curveMany, .ref 1015, .int m_cornerMany, .int m_straightAt, .ref 1016, .long m_fitUp, .long m_fitDown, .long m_worstUp, .long m_worstDown, .ref 1017, .int m_walkLink, .int m_walkAngle, .int m_walkBranch, .int m_walkMany, .ref 1018, .ref 1019, .int m_lined, .ref 1020, .int m_actMany], z1, z2, z3, z4, z5, z6, z7, z8, z9, z10, z11, z12, z13, z14, z15, z16, z17, z18, z19, z20])) ∨ ((¬ (0 ≤ a1 ∧ a1 < m_linkMany)) ∧ r = some (.int 0) ∧ w' = (wc, [ob 9 [.int m_thrown, .int m_trouble, .int m_fault, .int m_where, .ref 1001, .ref 1002, .int 40, .ref 1003, .int m_taped, .int m_linkMany, .int m_tracerMany, .int m_pointMany, .int m_pairMany, .ref 1004, .ref 1005, .ref 1006, .ref 1007, .int m_readLinks, .int m_readTracers, .int m_readPoints, .int m_readPairs, .ref 1008, .ref 1009, .ref 1010, .ref 1011, .int m_textLong, .int m_at, .int m_spot, .int m_token, .int m_whole, .int m_readFault, .int m_readPlace, .int m_value, .long m_n, .long m_c, .long m_d, .long m_s, .long m_e, .long m_k, .long m_x, .long m_y, .long m_g, .long m_a, .ref 1012, .ref 1013, .ref 1014, .int m_curveMany, .ref 1015, .int m_cornerMany, .int m_straightAt, .ref 1016, .long m_fitUp, .long m_fitDown, .long m_worstUp, .long m_worstDown, .ref 1017, .int m_walkLink, .int m_walkAngle, .int m_walkBranch, .int m_walkMany, .ref 1018, .ref 1019, .int m_lined, .ref 1020, .int m_actMany], z1, z2, z3, z4, z5, z6, z7, z8, z9, z10, z11, z12, z13, z14, z15, z16, z17, z18, z19, z20]))) := by
  refine ct_of ⟨by decide, rfl⟩ (Nat.le_of_ble_eq_true rfl) ?_
  refine ab_iload_n dX11_isLink_0 rfl ?_
  refine ab_iconst (v := 0) dX11_isLink_1 (by decide) ?_
  refine ab_aload_n dX11_isLink_2 rfl ?_
  refine ab_getf dX11_isLink_3 fl_X11_233 rfl rfl ?_
  refine ab_iconst (v := 1) dX11_isLink_6 (by decide) ?_
  refine ab_isub dX11_isLink_7 ?_
  refine ab_callS (As := [.int a1, .int 0, .int (m_linkMany - 1)]) (rest := []) dX11_isLink_8 ms_X11_in ml_X11_107 ⟨by decide, by decide, rfl, rfl, rfl⟩ (by decide) rfl rfl (Nat.le_of_ble_eq_true rfl) c_X11_in ?_
  rintro r w' (⟨c_1, rfl, rfl⟩ | ⟨c_2, rfl, rfl⟩)
  · exact ab_zret dX11_isLink_11 rfl rfl (by decide) (Or.inl (⟨(by have := le_pred (a := a1) h_l.1; grind), rfl, rfl⟩))
  · exact ab_zret dX11_isLink_11 rfl rfl (by decide) (Or.inr (⟨(by have := le_pred (a := a1) h_l.1; grind), rfl, rfl⟩))
theorem c_X11_isTracer {wc : List ax_E} {m_thrown m_trouble m_fault m_where m_taped m_linkMany m_tracerMany m_pointMany m_pairMany m_readLinks m_readTracers m_readPoints m_readPairs m_textLong m_at m_spot m_token m_whole m_readFault m_readPlace m_value m_curveMany m_cornerMany m_straightAt m_walkLink m_walkAngle m_walkBranch m_walkMany m_lined m_actMany a1 : Int32} {m_n m_c m_d m_s m_e m_k m_x m_y m_g m_a m_fitUp m_fitDown m_worstUp m_worstDown : Int64} {z1 z2 z3 z4 z5 z6 z7 z8 z9 z10 z11 z12 z13 z14 z15 z16 z17 z18 z19 z20 : ax_E} (h_t : 0 ≤ m_tracerMany ∧ m_tracerMany ≤ nI 4) : Ct M_X11_isTracer [.ref 1000, .int a1] (wc, [ob 9 [.int m_thrown, .int m_trouble, .int m_fault, .int m_where, .ref 1001, .ref 1002, .int 40, .ref 1003, .int m_taped, .int m_linkMany, .int m_tracerMany, .int m_pointMany, .int m_pairMany, .ref 1004, .ref 1005, .ref 1006, .ref 1007, .int m_readLinks, .int m_readTracers, .int m_readPoints, .int m_readPairs, .ref 1008, .ref 1009, .ref 1010, .ref 1011, .int m_textLong, .int m_at, .int m_spot, .int m_token, .int m_whole, .int m_readFault, .int m_readPlace, .int m_value, .long m_n, .long m_c, .long m_d, .long m_s, .long m_e, .long m_k, .long m_x, .long m_y, .long m_g, .long m_a, .ref 1012, .ref 1013, .ref 1014, .int m_curveMany, .ref 1015, .int m_cornerMany, .int m_straightAt, .ref 1016, .long m_fitUp, .long m_fitDown, .long m_worstUp, .long m_worstDown, .ref 1017, .int m_walkLink, .int m_walkAngle, .int m_walkBranch, .int m_walkMany, .ref 1018, .ref 1019, .int m_lined, .ref 1020, .int m_actMany], z1, z2, z3, z4, z5, z6, z7, z8, z9, z10, z11, z12, z13, z14, z15, z16, z17, z18, z19, z20]) (fun r w' => ((0 ≤ a1 ∧ a1 < m_tracerMany) ∧ r = some (.int 1) ∧ w' = (wc, [ob 9 [.int m_thrown, .int m_trouble, .int m_fault, .int m_where, .ref 1001, .ref 1002, .int 40, .ref 1003, .int m_taped, .int m_linkMany, .int m_tracerMany, .int m_pointMany, .int m_pairMany, .ref 1004, .ref 1005, .ref 1006, .ref 1007, .int m_readLinks, .int m_readTracers, .int m_readPoints, .int m_readPairs, .ref 1008, .ref 1009, .ref 1010, .ref 1011, .int m_textLong, .int m_at, .int m_spot, .int m_token, .int m_whole, .int m_readFault, .int m_readPlace, .int m_value, .long m_n, .long m_c, .long m_d, .long m_s, .long m_e, .long m_k, .long m_x, .long m_y, .long m_g, .long m_a, .ref 1012, .ref 1013, .ref 1014, .int m_curveMany, .ref 1015, .int m_cornerMany, .int m_straightAt, .ref 1016, .long m_fitUp, .long m_fitDown, .long m_worstUp, .long m_worstDown, .ref 1017, .int m_walkLink, .int m_walkAngle, .int m_walkBranch, .int m_walkMany, .ref 1018, .ref 1019, .int m_lined, .ref 1020, .int m_actMany], z1, z2, z3, z4, z5, z6, z7, z8, z9, z10, z11, z12, z13, z14, z15, z16, z17, z18, z19, z20])) ∨ ((¬ (0 ≤ a1 ∧ a1 < m_tracerMany)) ∧ r = some (.int 0) ∧ w' = (wc, [ob 9 [.int m_thrown, .int m_trouble, .int m_fault, .int m_where, .ref 1001, .ref 1002, .int 40, .ref 1003, .int m_taped, .int m_linkMany, .int m_tracerMany, .int m_pointMany, .int m_pairMany, .ref 1004, .ref 1005, .ref 1006, .ref 1007, .int m_readLinks, .int m_readTracers, .int m_readPoints, .int m_readPairs, .ref 1008, .ref 1009, .ref 1010, .ref 1011, .int m_textLong, .int m_at, .int m_spot, .int m_token, .int m_whole, .int m_readFault, .int m_readPlace, .int m_value, .long m_n, .long m_c, .long m_d, .long m_s, .long m_e, .long m_k, .long m_x, .long m_y, .long m_g, .long m_a, .ref 1012, .ref 1013, .ref 1014, .int m_curveMany, .ref 1015, .int m_cornerMany, .int m_straightAt, .ref 1016, .long m_fitUp, .long m_fitDown, .long m_worstUp, .long m_worstDown, .ref 1017, .int m_walkLink, .int m_walkAngle, .int m_walkBranch, .int m_walkMany, .ref 1018, .ref 1019, .int m_lined, .ref 1020, .int m_actMany], z1, z2, z3, z4, z5, z6, z7, z8, z9, z10, z11, z12, z13, z14, z15, z16, z17, z18, z19, z20]))) := by
  refine ct_of ⟨by decide, rfl⟩ (Nat.le_of_ble_eq_true rfl) ?_
  refine ab_iload_n dX11_isTracer_0 rfl ?_
  refine ab_iconst (v := 0) dX11_isTracer_1 (by decide) ?_
  refine ab_aload_n dX11_isTracer_2 rfl ?_
  refine ab_getf dX11_isTracer_3 fl_X11_236 rfl rfl ?_
  refine ab_iconst (v := 1) dX11_isTracer_6 (by decide) ?_
  refine ab_isub dX11_isTracer_7 ?_
  refine ab_callS (As := [.int a1, .int 0, .int (m_tracerMany - 1)]) (rest := []) dX11_isTracer_8 ms_X11_in ml_X11_107 ⟨by decide, by decide, rfl, rfl, rfl⟩ (by decide) rfl rfl (Nat.le_of_ble_eq_true rfl) c_X11_in ?_
  rintro r w' (⟨c_1, rfl, rfl⟩ | ⟨c_2, rfl, rfl⟩)
  · exact ab_zret dX11_isTracer_11 rfl rfl (by decide) (Or.inl (⟨(by have := le_pred (a := a1) h_t.1; grind), rfl, rfl⟩))
  · exact ab_zret dX11_isTracer_11 rfl rfl (by decide) (Or.inr (⟨(by have := le_pred (a := a1) h_t.1; grind), rfl, rfl⟩))
theorem c_X11_isPoint {wc : List ax_E} {m_thrown m_trouble m_fault m_where m_taped m_linkMany m_tracerMany m_pointMany m_pairMany m_readLinks m_readTracers m_readPoints m_readPairs m_textLong m_at m_spot m_token m_whole m_readFault m_readPlace m_value m_curveMany m_cornerMany m_straightAt m_walkLink m_walkAngle m_walkBranch m_walkMany m_lined m_actMany a1 : Int32} {m_n m_c m_d m_s m_e m_k m_x m_y m_g m_a m_fitUp m_fitDown m_worstUp m_worstDown : Int64} {z1 z2 z3 z4 z5 z6 z7 z8 z9 z10 z11 z12 z13 z14 z15 z16 z17 z18 z19 z20 : ax_E} (h_p : 0 ≤ m_pointMany ∧ m_pointMany ≤ nI 8) : Ct M_X11_isPoint [.ref 1000, .int a1] (wc, [ob 9 [.int m_thrown, .int m_trouble, .int m_fault, .int m_where, .ref 1001, .ref 1002, .int 40, .ref 1003, .int m_taped, .int m_linkMany, .int m_tracerMany, .int m_pointMany, .int m_pairMany, .ref 1004, .ref 1005, .ref 1006, .ref 1007, .int m_readLinks, .int m_readTracers, .int m_readPoints, .int m_readPairs, .ref 1008, .ref 1009, .ref 1010, .ref 1011, .int m_textLong, .int m_at, .int m_spot, .int m_token, .int m_whole, .int m_readFault, .int m_readPlace, .int m_value, .long m_n, .long m_c, .long m_d, .long m_s, .long m_e, .long m_k, .long m_x, .long m_y, .long m_g, .long m_a, .ref 1012, .ref 1013, .ref 1014, .int m_curveMany, .ref 1015, .int m_cornerMany, .int m_straightAt, .ref 1016, .long m_fitUp, .long m_fitDown, .long m_worstUp, .long m_worstDown, .ref 1017, .int m_walkLink, .int m_walkAngle, .int m_walkBranch, .int m_walkMany, .ref 1018, .ref 1019, .int m_lined, .ref 1020, .int m_actMany], z1, z2, z3, z4, z5, z6, z7, z8, z9, z10, z11, z12, z13, z14, z15, z16, z17, z18, z19, z20]) (fun r w' => ((0 ≤ a1 ∧ a1 < m_pointMany) ∧ r = some (.int 1) ∧ w' = (wc, [ob 9 [.int m_thrown, .int m_trouble, .int m_fault, .int m_where, .ref 1001, .ref 1002, .int 40, .ref 1003, .int m_taped, .int m_linkMany, .int m_tracerMany, .int m_pointMany, .int m_pairMany, .ref 1004, .ref 1005, .ref 1006, .ref 1007, .int m_readLinks, .int m_readTracers, .int m_readPoints, .int m_readPairs, .ref 1008, .ref 1009, .ref 1010, .ref 1011, .int m_textLong, .int m_at, .int m_spot, .int m_token, .int m_whole, .int m_readFault, .int m_readPlace, .int m_value, .long m_n, .long m_c, .long m_d, .long m_s, .long m_e, .long m_k, .long m_x, .long m_y, .long m_g, .long m_a, .ref 1012, .ref 1013, .ref 1014, .int m_curveMany, .ref 1015, .int m_cornerMany, .int m_straightAt, .ref 1016, .long m_fitUp, .long m_fitDown, .long m_worstUp, .long m_worstDown, .ref 1017, .int m_walkLink, .int m_walkAngle, .int m_walkBranch, .int m_walkMany, .ref 1018, .ref 1019, .int m_lined, .ref 1020, .int m_actMany], z1, z2, z3, z4, z5, z6, z7, z8, z9, z10, z11, z12, z13, z14, z15, z16, z17, z18, z19, z20])) ∨ ((¬ (0 ≤ a1 ∧ a1 < m_pointMany)) ∧ r = some (.int 0) ∧ w' = (wc, [ob 9 [.int m_thrown, .int m_trouble, .int m_fault, .int m_where, .ref 1001, .ref 1002, .int 40, .ref 1003, .int m_taped, .int m_linkMany, .int m_tracerMany, .int m_pointMany, .int m_pairMany, .ref 1004, .ref 1005, .ref 1006, .ref 1007, .int m_readLinks, .int m_readTracers, .int m_readPoints, .int m_readPairs, .ref 1008, .ref 1009, .ref 1010, .ref 1011, .int m_textLong, .int m_at, .int m_spot, .int m_token, .int m_whole, .int m_readFault, .int m_readPlace, .int m_value, .long m_n, .long m_c, .long m_d, .long m_s, .long m_e, .long m_k, .long m_x, .long m_y, .long m_g, .long m_a, .ref 1012, .ref 1013, .ref 1014, .int m_curveMany, .ref 1015, .int m_cornerMany, .int m_straightAt, .ref 1016, .long m_fitUp, .long m_fitDown, .long m_worstUp, .long m_worstDown, .ref 1017, .int m_walkLink, .int m_walkAngle, .int m_walkBranch, .int m_walkMany, .ref 1018, .ref 1019, .int m_lined, .ref 1020, .int m_actMany], z1, z2, z3, z4, z5, z6, z7, z8, z9, z10, z11, z12, z13, z14, z15, z16, z17, z18, z19, z20]))) := by
  refine ct_of ⟨by decide, rfl⟩ (Nat.le_of_ble_eq_true rfl) ?_
  refine ab_iload_n dX11_isPoint_0 rfl ?_
  refine ab_iconst (v := 0) dX11_isPoint_1 (by decide) ?_
  refine ab_aload_n dX11_isPoint_2 rfl ?_
  refine ab_getf dX11_isPoint_3 fl_X11_239 rfl rfl ?_
  refine ab_iconst (v := 1) dX11_isPoint_6 (by decide) ?_
  refine ab_isub dX11_isPoint_7 ?_
  refine ab_callS (As := [.int a1, .int 0, .int (m_pointMany - 1)]) (rest := []) dX11_isPoint_8 ms_X11_in ml_X11_107 ⟨by decide, by decide, rfl, rfl, rfl⟩ (by decide) rfl rfl (Nat.le_of_ble_eq_true rfl) c_X11_in ?_
  rintro r w' (⟨c_1, rfl, rfl⟩ | ⟨c_2, rfl, rfl⟩)
  · exact ab_zret dX11_isPoint_11 rfl rfl (by decide) (Or.inl (⟨(by have := le_pred (a := a1) h_p.1; grind), rfl, rfl⟩))
  · exact ab_zret dX11_isPoint_11 rfl rfl (by decide) (Or.inr (⟨(by have := le_pred (a := a1) h_p.1; grind), rfl, rfl⟩))
theorem c_X11_isPair {wc : List ax_E} {m_thrown m_trouble m_fault m_where m_taped m_linkMany m_tracerMany m_pointMany m_pairMany m_readLinks m_readTracers m_readPoints m_readPairs m_textLong m_at m_spot m_token m_whole m_readFault m_readPlace m_value m_curveMany m_cornerMany m_straightAt m_walkLink m_walkAngle m_walkBranch m_walkMany m_lined m_actMany a1 : Int32} {m_n m_c m_d m_s m_e m_k m_x m_y m_g m_a m_fitUp m_fitDown m_worstUp m_worstDown : Int64} {z1 z2 z3 z4 z5 z6 z7 z8 z9 z10 z11 z12 z13 z14 z15 z16 z17 z18 z19 z20 : ax_E} (h_r : 0 ≤ m_pairMany ∧ m_pairMany ≤ nI 4) : Ct M_X11_isPair [.ref 1000, .int a1] (wc, [ob 9 [.int m_thrown, .int m_trouble, .int m_fault, .int m_where, .ref 1001, .ref 1002, .int 40, .ref 1003, .int m_taped, .int m_linkMany, .int m_tracerMany, .int m_pointMany, .int m_pairMany, .ref 1004, .ref 1005, .ref 1006, .ref 1007, .int m_readLinks, .int m_readTracers, .int m_readPoints, .int m_readPairs, .ref 1008, .ref 1009, .ref 1010, .ref 1011, .int m_textLong, .int m_at, .int m_spot, .int m_token, .int m_whole, .int m_readFault, .int m_readPlace, .int m_value, .long m_n, .long m_c, .long m_d, .long m_s, .long m_e, .long m_k, .long m_x, .long m_y, .long m_g, .long m_a, .ref 1012, .ref 1013, .ref 1014, .int m_curveMany, .ref 1015, .int m_cornerMany, .int m_straightAt, .ref 1016, .long m_fitUp, .long m_fitDown, .long m_worstUp, .long m_worstDown, .ref 1017, .int m_walkLink, .int m_walkAngle, .int m_walkBranch, .int m_walkMany, .ref 1018, .ref 1019, .int m_lined, .ref 1020, .int m_actMany], z1, z2, z3, z4, z5, z6, z7, z8, z9, z10, z11, z12, z13, z14, z15, z16, z17, z18, z19, z20]) (fun r w' => ((0 ≤ a1 ∧ a1 < m_pairMany) ∧ r = some (.int 1) ∧ w' = (wc, [ob 9 [.int m_thrown, .int m_trouble, .int m_fault, .int m_where, .ref 1001, .ref 1002, .int 40, .ref 1003, .int m_taped, .int m_linkMany, .int m_tracerMany, .int m_pointMany, .int m_pairMany, .ref 1004, .ref 1005, .ref 1006, .ref 1007, .int m_readLinks, .int m_readTracers, .int m_readPoints, .int m_readPairs, .ref 1008, .ref 1009, .ref 1010, .ref 1011, .int m_textLong, .int m_at, .int m_spot, .int m_token, .int m_whole, .int m_readFault, .int m_readPlace, .int m_value, .long m_n, .long m_c, .long m_d, .long m_s, .long m_e, .long m_k, .long m_x, .long m_y, .long m_g, .long m_a, .ref 1012, .ref 1013, .ref 1014, .int m_curveMany, .ref 1015, .int m_cornerMany, .int m_straightAt, .ref 1016, .long m_fitUp, .long m_fitDown, .long m_worstUp, .long m_worstDown, .ref 1017, .int m_walkLink, .int m_walkAngle, .int m_walkBranch, .int m_walkMany, .ref 1018, .ref 1019, .int m_lined, .ref 1020, .int m_actMany], z1, z2, z3, z4, z5, z6, z7, z8, z9, z10, z11, z12, z13, z14, z15, z16, z17, z18, z19, z20])) ∨ ((¬ (0 ≤ a1 ∧ a1 < m_pairMany)) ∧ r = some (.int 0) ∧ w' = (wc, [ob 9 [.int m_thrown, .int m_trouble, .int m_fault, .int m_where, .ref 1001, .ref 1002, .int 40, .ref 1003, .int m_taped, .int m_linkMany, .int m_tracerMany, .int m_pointMany, .int m_pairMany, .ref 1004, .ref 1005, .ref 1006, .ref 1007, .int m_readLinks, .int m_readTracers, .int m_readPoints, .int m_readPairs, .ref 1008, .ref 1009, .ref 1010, .ref 1011, .int m_textLong, .int m_at, .int m_spot, .int m_token, .int m_whole, .int m_readFault, .int m_readPlace, .int m_value, .long m_n, .long m_c, .long m_d, .long m_s, .long m_e, .long m_k, .long m_x, .long m_y, .long m_g, .long m_a, .ref 1012, .ref 1013, .ref 1014, .int m_curveMany, .ref 1015, .int m_cornerMany, .int m_straightAt, .ref 1016, .long m_fitUp, .long m_fitDown, .long m_worstUp, .long m_worstDown, .ref 1017, .int m_walkLink, .int m_walkAngle, .int m_walkBranch, .int m_walkMany, .ref 1018, .ref 1019, .int m_lined, .ref 1020, .int m_actMany], z1, z2, z3, z4, z5, z6, z7, z8, z9, z10, z11, z12, z13, z14, z15, z16, z17, z18, z19, z20]))) := by
  refine ct_of ⟨by decide, rfl⟩ (Nat.le_of_ble_eq_true rfl) ?_
  refine ab_iload_n dX11_isPair_0 rfl ?_
  refine ab_iconst (v := 0) dX11_isPair_1 (by decide) ?_
  refine ab_aload_n dX11_isPair_2 rfl ?_
  refine ab_getf dX11_isPair_3 fl_X11_242 rfl rfl ?_
  refine ab_iconst (v := 1) dX11_isPair_6 (by decide) ?_
  refine ab_isub dX11_isPair_7 ?_
  refine ab_callS (As := [.int a1, .int 0, .int (m_pairMany - 1)]) (rest := []) dX11_isPair_8 ms_X11_in ml_X11_107 ⟨by decide, by decide, rfl, rfl, rfl⟩ (by decide) rfl rfl (Nat.le_of_ble_eq_true rfl) c_X11_in ?_
  rintro r w' (⟨c_1, rfl, rfl⟩ | ⟨c_2, rfl, rfl⟩)
  · exact ab_zret dX11_isPair_11 rfl rfl (by decide) (Or.inl (⟨(by have := le_pred (a := a1) h_r.1; grind), rfl, rfl⟩))
  · exact ab_zret dX11_isPair_11 rfl rfl (by decide) (Or.inr (⟨(by have := le_pred (a := a1) h_r.1; grind), rfl, rfl⟩))
theorem c_X11_isAngle {wc : List ax_E} {m_thrown m_trouble m_fault m_where m_taped m_linkMany m_tracerMany m_pointMany m_pairMany m_readLinks m_readTracers m_readPoints m_readPairs m_textLong m_at m_spot m_token m_whole m_readFault m_readPlace m_value m_curveMany m_cornerMany m_straightAt m_walkLink m_walkAngle m_walkBranch m_walkMany m_lined m_actMany a1 : Int32} {m_n m_c m_d m_s m_e m_k m_x m_y m_g m_a m_fitUp m_fitDown m_worstUp m_worstDown : Int64} {z1 z2 z3 z4 z5 z6 z7 z8 z9 z10 z11 z12 z13 z14 z15 z16 z17 z18 z19 z20 : ax_E}  : Ct M_X11_isAngle [.ref 1000, .int a1] (wc, [ob 9 [.int m_thrown, .int m_trouble, .int m_fault, .int m_where, .ref 1001, .ref 1002, .int 40, .ref 1003, .int m_taped, .int m_linkMany, .int m_tracerMany, .int m_pointMany, .int m_pairMany, .ref 1004, .ref 1005, .ref 1006, .ref 1007, .int m_readLinks, .int m_readTracers, .int m_readPoints, .int m_readPairs, .ref 1008, .ref 1009, .ref 1010, .ref 1011, .int m_textLong, .int m_at, .int m_spot, .int m_token, .int m_whole, .int m_readFault, .int m_readPlace, .int m_value, .long m_n, .long m_c, .long m_d, .long m_s, .long m_e, .long m_k, .long m_x, .long m_y, .long m_g, .long m_a, .ref 1012, .ref 1013, .ref 1014, .int m_curveMany, .ref 1015, .int m_cornerMany, .int m_straightAt, .ref 1016, .long m_fitUp, .long m_fitDown, .long m_worstUp, .long m_worstDown, .ref 1017, .int m_walkLink, .int m_walkAngle, .int m_walkBranch, .int m_walkMany, .ref 1018, .ref 1019, .int m_lined, .ref 1020, .int m_actMany], z1, z2, z3, z4, z5, z6, z7, z8, z9, z10, z11, z12, z13, z14, z15, z16, z17, z18, z19, z20]) (fun r w' => ((0 ≤ a1 ∧ a1 < 40) ∧ r = some (.int 1) ∧ w' = (wc, [ob 9 [.int m_thrown, .int m_trouble, .int m_fault, .int m_where, .ref 1001, .ref 1002, .int 40, .ref 1003, .int m_taped, .int m_linkMany, .int m_tracerMany, .int m_pointMany, .int m_pairMany, .ref 1004, .ref 1005, .ref 1006, .ref 1007, .int m_readLinks, .int m_readTracers, .int m_readPoints, .int m_readPairs, .ref 1008, .ref 1009, .ref 1010, .ref 1011, .int m_textLong, .int m_at, .int m_spot, .int m_token, .int m_whole, .int m_readFault, .int m_readPlace, .int m_value, .long m_n, .long m_c, .long m_d, .long m_s, .long m_e, .long m_k, .long m_x, .long m_y, .long m_g, .long m_a, .ref 1012, .ref 1013, .ref 1014, .int m_curveMany, .ref 1015, .int m_cornerMany, .int m_straightAt, .ref 1016, .long m_fitUp, .long m_fitDown, .long m_worstUp, .long m_worstDown, .ref 1017, .int m_walkLink, .int m_walkAngle, .int m_walkBranch, .int m_walkMany, .ref 1018, .ref 1019, .int m_lined, .ref 1020, .int m_actMany], z1, z2, z3, z4, z5, z6, z7, z8, z9, z10, z11, z12, z13, z14, z15, z16, z17, z18, z19, z20])) ∨ ((¬ (0 ≤ a1 ∧ a1 < 40)) ∧ r = some (.int 0) ∧ w' = (wc, [ob 9 [.int m_thrown, .int m_trouble, .int m_fault, .int m_where, .ref 1001, .ref 1002, .int 40, .ref 1003, .int m_taped, .int m_linkMany, .int m_tracerMany, .int m_pointMany, .int m_pairMany, .ref 1004, .ref 1005, .ref 1006, .ref 1007, .int m_readLinks, .int m_readTracers, .int m_readPoints, .int m_readPairs, .ref 1008, .ref 1009, .ref 1010, .ref 1011, .int m_textLong, .int m_at, .int m_spot, .int m_token, .int m_whole, .int m_readFault, .int m_readPlace, .int m_value, .long m_n, .long m_c, .long m_d, .long m_s, .long m_e, .long m_k, .long m_x, .long m_y, .long m_g, .long m_a, .ref 1012, .ref 1013, .ref 1014, .int m_curveMany, .ref 1015, .int m_cornerMany, .int m_straightAt, .ref 1016, .long m_fitUp, .long m_fitDown, .long m_worstUp, .long m_worstDown, .ref 1017, .int m_walkLink, .int m_walkAngle, .int m_walkBranch, .int m_walkMany, .ref 1018, .ref 1019, .int m_lined, .ref 1020, .int m_actMany], z1, z2, z3, z4, z5, z6, z7, z8, z9, z10, z11, z12, z13, z14, z15, z16, z17, z18, z19, z20]))) := by
  refine ct_of ⟨by decide, rfl⟩ (Nat.le_of_ble_eq_true rfl) ?_
  refine ab_iload_n dX11_isAngle_0 rfl ?_
  refine ab_iconst (v := 0) dX11_isAngle_1 (by decide) ?_
  refine ab_aload_n dX11_isAngle_2 rfl ?_
  refine ab_getf dX11_isAngle_3 fl_X11_101 rfl rfl ?_
  refine ab_iconst (v := 1) dX11_isAngle_6 (by decide) ?_
  refine ab_isub dX11_isAngle_7 ?_
  refine ab_topi (v := 39) (by decide) ?_
  refine ab_callS (As := [.int a1, .int 0, .int 39]) (rest := []) dX11_isAngle_8 ms_X11_in ml_X11_107 ⟨by decide, by decide, rfl, rfl, rfl⟩ (by decide) rfl rfl (Nat.le_of_ble_eq_true rfl) c_X11_in ?_
  rintro r w' (⟨c_1, rfl, rfl⟩ | ⟨c_2, rfl, rfl⟩)
  · exact ab_zret dX11_isAngle_11 rfl rfl (by decide) (Or.inl (⟨(by have := le_39 (a := a1); grind), rfl, rfl⟩))
  · exact ab_zret dX11_isAngle_11 rfl rfl (by decide) (Or.inr (⟨(by have := le_39 (a := a1); grind), rfl, rfl⟩))
theorem c_X11_isPosition {wc : List ax_E} {m_thrown m_trouble m_fault m_where m_taped m_linkMany m_tracerMany m_pointMany m_pairMany m_readLinks m_readTracers m_readPoints m_readPairs m_textLong m_at m_spot m_token m_whole m_readFault m_readPlace m_value m_curveMany m_cornerMany m_straightAt m_walkLink m_walkAngle m_walkBranch m_walkMany m_lined m_actMany a1 a2 a3 : Int32} {m_n m_c m_d m_s m_e m_k m_x m_y m_g m_a m_fitUp m_fitDown m_worstUp m_worstDown : Int64} {z1 z2 z3 z4 z5 z6 z7 z8 z9 z10 z11 z12 z13 z14 z15 z16 z17 z18 z19 z20 : ax_E} (h_l : 0 ≤ m_linkMany ∧ m_linkMany ≤ nI 4) : Ct M_X11_isPosition [.ref 1000, .int a1, .int a2, .int a3] (wc, [ob 9 [.int m_thrown, .int m_trouble, .int m_fault, .int m_where, .ref 1001, .ref 1002, .int 40, .ref 1003, .int m_taped, .int m_linkMany, .int m_tracerMany, .int m_pointMany, .int m_pairMany, .ref 1004, .ref 1005, .ref 1006, .ref 1007, .int m_readLinks, .int m_readTracers, .int m_readPoints, .int m_readPairs, .ref 1008, .ref 1009, .ref 1010, .ref 1011, .int m_textLong, .int m_at, .int m_spot, .int m_token, .int m_whole, .int m_readFault, .int m_readPlace, .int m_value, .long m_n, .long m_c, .long m_d, .long m_s, .long m_e, .long m_k, .long m_x, .long m_y, .long m_g, .long m_a, .ref 1012, .ref 1013, .ref 1014, .int m_curveMany, .ref 1015, .int m_cornerMany, .int m_straightAt, .ref 1016, .long m_fitUp, .long m_fitDown, .long m_worstUp, .long m_worstDown, .ref 1017, .int m_walkLink, .int m_walkAngle, .int m_walkBranch, .int m_walkMany, .ref 1018, .ref 1019, .int m_lined, .ref 1020, .int m_actMany], z1, z2, z3, z4, z5, z6, z7, z8, z9, z10, z11, z12, z13, z14, z15, z16, z17, z18, z19, z20]) (fun r w' => (((0 ≤ a1 ∧ a1 < m_linkMany) ∧ (0 ≤ a2 ∧ a2 < 40) ∧ (0 ≤ a3 ∧ a3 < 2)) ∧ r = some (.int 1) ∧ w' = (wc, [ob 9 [.int m_thrown, .int m_trouble, .int m_fault, .int m_where, .ref 1001, .ref 1002, .int 40, .ref 1003, .int m_taped, .int m_linkMany, .int m_tracerMany, .int m_pointMany, .int m_pairMany, .ref 1004, .ref 1005, .ref 1006, .ref 1007, .int m_readLinks, .int m_readTracers, .int m_readPoints, .int m_readPairs, .ref 1008, .ref 1009, .ref 1010, .ref 1011, .int m_textLong, .int m_at, .int m_spot, .int m_token, .int m_whole, .int m_readFault, .int m_readPlace, .int m_value, .long m_n, .long m_c, .long m_d, .long m_s, .long m_e, .long m_k, .long m_x, .long m_y, .long m_g, .long m_a, .ref 1012, .ref 1013, .ref 1014, .int m_curveMany, .ref 1015, .int m_cornerMany, .int m_straightAt, .ref 1016, .long m_fitUp, .long m_fitDown, .long m_worstUp, .long m_worstDown, .ref 1017, .int m_walkLink, .int m_walkAngle, .int m_walkBranch, .int m_walkMany, .ref 1018, .ref 1019, .int m_lined, .ref 1020, .int m_actMany], z1, z2, z3, z4, z5, z6, z7, z8, z9, z10, z11, z12, z13, z14, z15, z16, z17, z18, z19, z20])) ∨ ((¬ ((0 ≤ a1 ∧ a1 < m_linkMany) ∧ (0 ≤ a2 ∧ a2 < 40) ∧ (0 ≤ a3 ∧ a3 < 2))) ∧ r = some (.int 0) ∧ w' = (wc, [ob 9 [.int m_thrown, .int m_trouble, .int m_fault, .int m_where, .ref 1001, .ref 1002, .int 40, .ref 1003, .int m_taped, .int m_linkMany, .int m_tracerMany, .int m_pointMany, .int m_pairMany, .ref 1004, .ref 1005, .ref 1006, .ref 1007, .int m_readLinks, .int m_readTracers, .int m_readPoints, .int m_readPairs, .ref 1008, .ref 1009, .ref 1010, .ref 1011, .int m_textLong, .int m_at, .int m_spot, .int m_token, .int m_whole, .int m_readFault, .int m_readPlace, .int m_value, .long m_n, .long m_c, .long m_d, .long m_s, .long m_e, .long m_k, .long m_x, .long m_y, .long m_g, .long m_a, .ref 1012, .ref 1013, .ref 1014, .int m_curveMany, .ref 1015, .int m_cornerMany, .int m_straightAt, .ref 1016, .long m_fitUp, .long m_fitDown, .long m_worstUp, .long m_worstDown, .ref 1017, .int m_walkLink, .int m_walkAngle, .int m_walkBranch, .int m_walkMany, .ref 1018, .ref 1019, .int m_lined, .ref 1020, .int m_actMany], z1, z2, z3, z4, z5, z6, z7, z8, z9, z10, z11, z12, z13, z14, z15, z16, z17, z18, z19, z20]))) := by
  refine ct_of ⟨by decide, rfl⟩ (Nat.le_of_ble_eq_true rfl) ?_
  refine ab_aload_n dX11_isPosition_0 rfl ?_
  refine ab_iload_n dX11_isPosition_1 rfl ?_
  refine ab_callV (As := [.int a1]) (rest := []) dX11_isPosition_2 mv_X11_isLink ml_X11_265 ⟨by decide, by decide, rfl, rfl, rfl⟩ (by decide) rfl rfl (Nat.le_of_ble_eq_true rfl) rfl (c_X11_isLink h_l) ?_
  rintro r w' (⟨c_1, rfl, rfl⟩ | ⟨c_2, rfl, rfl⟩)
  · refine ab_ifeq 29 dX11_isPosition_5 (by decide) (fun h_3 => absurd h_3 (by decide)) (fun h_3 => ?_)
    refine ab_aload_n dX11_isPosition_8 rfl ?_
    refine ab_iload_n dX11_isPosition_9 rfl ?_
    refine ab_callV (As := [.int a2]) (rest := []) dX11_isPosition_10 mv_X11_isAngle ml_X11_334 ⟨by decide, by decide, rfl, rfl, rfl⟩ (by decide) rfl rfl (Nat.le_of_ble_eq_true rfl) rfl c_X11_isAngle ?_
    rintro r w' (⟨c_4, rfl, rfl⟩ | ⟨c_5, rfl, rfl⟩)
    · refine ab_ifeq 29 dX11_isPosition_13 (by decide) (fun h_6 => absurd h_6 (by decide)) (fun h_6 => ?_)
      refine ab_iload_n dX11_isPosition_16 rfl ?_
      refine ab_iconst (v := 0) dX11_isPosition_17 (by decide) ?_
      refine ab_iconst (v := 1) dX11_isPosition_18 (by decide) ?_
      refine ab_callS (As := [.int a3, .int 0, .int 1]) (rest := []) dX11_isPosition_19 ms_X11_in ml_X11_107 ⟨by decide, by decide, rfl, rfl, rfl⟩ (by decide) rfl rfl (Nat.le_of_ble_eq_true rfl) c_X11_in ?_
      rintro r w' (⟨c_7, rfl, rfl⟩ | ⟨c_8, rfl, rfl⟩)
      · refine ab_ifeq 29 dX11_isPosition_22 (by decide) (fun h_9 => absurd h_9 (by decide)) (fun h_9 => ?_)
        refine ab_iconst (v := 1) dX11_isPosition_25 (by decide) ?_
        refine ab_goto 30 dX11_isPosition_26 (by decide) ?_
        exact ab_zret dX11_isPosition_30 rfl rfl (by decide) (Or.inl (⟨(by have := le_c (a := a3) 1 2 (by decide) (by decide); grind), rfl, rfl⟩))
      · refine ab_ifeq 29 dX11_isPosition_22 (by decide) (fun h_10 => ?_) (fun h_10 => absurd (by decide) h_10)
        refine ab_iconst (v := 0) dX11_isPosition_29 (by decide) ?_
        exact ab_zret dX11_isPosition_30 rfl rfl (by decide) (Or.inr (⟨(by have := le_c (a := a3) 1 2 (by decide) (by decide); grind), rfl, rfl⟩))
    · refine ab_ifeq 29 dX11_isPosition_13 (by decide) (fun h_11 => ?_) (fun h_11 => absurd (by decide) h_11)
      refine ab_iconst (v := 0) dX11_isPosition_29 (by decide) ?_
      exact ab_zret dX11_isPosition_30 rfl rfl (by decide) (Or.inr (⟨(by have := le_c (a := a3) 1 2 (by decide) (by decide); grind), rfl, rfl⟩))
  · refine ab_ifeq 29 dX11_isPosition_5 (by decide) (fun h_12 => ?_) (fun h_12 => absurd (by decide) h_12)
    refine ab_iconst (v := 0) dX11_isPosition_29 (by decide) ?_
    exact ab_zret dX11_isPosition_30 rfl rfl (by decide) (Or.inr (⟨(by have := le_c (a := a3) 1 2 (by decide) (by decide); grind), rfl, rfl⟩))
theorem c_X11_isCurve {wc : List ax_E} {m_thrown m_trouble m_fault m_where m_taped m_linkMany m_tracerMany m_pointMany m_pairMany m_readLinks m_readTracers m_readPoints m_readPairs m_textLong m_at m_spot m_token m_whole m_readFault m_readPlace m_value m_curveMany m_cornerMany m_straightAt m_walkLink m_walkAngle m_walkBranch m_walkMany m_lined m_actMany a1 a2 a3 : Int32} {m_n m_c m_d m_s m_e m_k m_x m_y m_g m_a m_fitUp m_fitDown m_worstUp m_worstDown : Int64} {z1 z2 z3 z4 z5 z6 z7 z8 z9 z10 z11 z12 z13 z14 z15 z16 z17 z18 z19 z20 : ax_E} (h_l : 0 ≤ m_linkMany ∧ m_linkMany ≤ nI 4) (h_t : 0 ≤ m_tracerMany ∧ m_tracerMany ≤ nI 4) : Ct M_X11_isCurve [.ref 1000, .int a1, .int a2, .int a3] (wc, [ob 9 [.int m_thrown, .int m_trouble, .int m_fault, .int m_where, .ref 1001, .ref 1002, .int 40, .ref 1003, .int m_taped, .int m_linkMany, .int m_tracerMany, .int m_pointMany, .int m_pairMany, .ref 1004, .ref 1005, .ref 1006, .ref 1007, .int m_readLinks, .int m_readTracers, .int m_readPoints, .int m_readPairs, .ref 1008, .ref 1009, .ref 1010, .ref 1011, .int m_textLong, .int m_at, .int m_spot, .int m_token, .int m_whole, .int m_readFault, .int m_readPlace, .int m_value, .long m_n, .long m_c, .long m_d, .long m_s, .long m_e, .long m_k, .long m_x, .long m_y, .long m_g, .long m_a, .ref 1012, .ref 1013, .ref 1014, .int m_curveMany, .ref 1015, .int m_cornerMany, .int m_straightAt, .ref 1016, .long m_fitUp, .long m_fitDown, .long m_worstUp, .long m_worstDown, .ref 1017, .int m_walkLink, .int m_walkAngle, .int m_walkBranch, .int m_walkMany, .ref 1018, .ref 1019, .int m_lined, .ref 1020, .int m_actMany], z1, z2, z3, z4, z5, z6, z7, z8, z9, z10, z11, z12, z13, z14, z15, z16, z17, z18, z19, z20]) (fun r w' => (((0 ≤ a1 ∧ a1 < m_linkMany) ∧ (0 ≤ a2 ∧ a2 < m_tracerMany) ∧ (0 ≤ a3 ∧ a3 < 2)) ∧ r = some (.int 1) ∧ w' = (wc, [ob 9 [.int m_thrown, .int m_trouble, .int m_fault, .int m_where, .ref 1001, .ref 1002, .int 40, .ref 1003, .int m_taped, .int m_linkMany, .int m_tracerMany, .int m_pointMany, .int m_pairMany, .ref 1004, .ref 1005, .ref 1006, .ref 1007, .int m_readLinks, .int m_readTracers, .int m_readPoints, .int m_readPairs, .ref 1008, .ref 1009, .ref 1010, .ref 1011, .int m_textLong, .int m_at, .int m_spot, .int m_token, .int m_whole, .int m_readFault, .int m_readPlace, .int m_value, .long m_n, .long m_c, .long m_d, .long m_s, .long m_e, .long m_k, .long m_x, .long m_y, .long m_g, .long m_a, .ref 1012, .ref 1013, .ref 1014, .int m_curveMany, .ref 1015, .int m_cornerMany, .int m_straightAt, .ref 1016, .long m_fitUp, .long m_fitDown, .long m_worstUp, .long m_worstDown, .ref 1017, .int m_walkLink, .int m_walkAngle, .int m_walkBranch, .int m_walkMany, .ref 1018, .ref 1019, .int m_lined, .ref 1020, .int m_actMany], z1, z2, z3, z4, z5, z6, z7, z8, z9, z10, z11, z12, z13, z14, z15, z16, z17, z18, z19, z20])) ∨ ((¬ ((0 ≤ a1 ∧ a1 < m_linkMany) ∧ (0 ≤ a2 ∧ a2 < m_tracerMany) ∧ (0 ≤ a3 ∧ a3 < 2))) ∧ r = some (.int 0) ∧ w' = (wc, [ob 9 [.int m_thrown, .int m_trouble, .int m_fault, .int m_where, .ref 1001, .ref 1002, .int 40, .ref 1003, .int m_taped, .int m_linkMany, .int m_tracerMany, .int m_pointMany, .int m_pairMany, .ref 1004, .ref 1005, .ref 1006, .ref 1007, .int m_readLinks, .int m_readTracers, .int m_readPoints, .int m_readPairs, .ref 1008, .ref 1009, .ref 1010, .ref 1011, .int m_textLong, .int m_at, .int m_spot, .int m_token, .int m_whole, .int m_readFault, .int m_readPlace, .int m_value, .long m_n, .long m_c, .long m_d, .long m_s, .long m_e, .long m_k, .long m_x, .long m_y, .long m_g, .long m_a, .ref 1012, .ref 1013, .ref 1014, .int m_curveMany, .ref 1015, .int m_cornerMany, .int m_straightAt, .ref 1016, .long m_fitUp, .long m_fitDown, .long m_worstUp, .long m_worstDown, .ref 1017, .int m_walkLink, .int m_walkAngle, .int m_walkBranch, .int m_walkMany, .ref 1018, .ref 1019, .int m_lined, .ref 1020, .int m_actMany], z1, z2, z3, z4, z5, z6, z7, z8, z9, z10, z11, z12, z13, z14, z15, z16, z17, z18, z19, z20]))) := by
  refine ct_of ⟨by decide, rfl⟩ (Nat.le_of_ble_eq_true rfl) ?_
  refine ab_aload_n dX11_isCurve_0 rfl ?_
  refine ab_iload_n dX11_isCurve_1 rfl ?_
  refine ab_callV (As := [.int a1]) (rest := []) dX11_isCurve_2 mv_X11_isLink ml_X11_265 ⟨by decide, by decide, rfl, rfl, rfl⟩ (by decide) rfl rfl (Nat.le_of_ble_eq_true rfl) rfl (c_X11_isLink h_l) ?_
  rintro r w' (⟨c_1, rfl, rfl⟩ | ⟨c_2, rfl, rfl⟩)
  · refine ab_ifeq 29 dX11_isCurve_5 (by decide) (fun h_3 => absurd h_3 (by decide)) (fun h_3 => ?_)
    refine ab_aload_n dX11_isCurve_8 rfl ?_
    refine ab_iload_n dX11_isCurve_9 rfl ?_
    refine ab_callV (As := [.int a2]) (rest := []) dX11_isCurve_10 mv_X11_isTracer ml_X11_402 ⟨by decide, by decide, rfl, rfl, rfl⟩ (by decide) rfl rfl (Nat.le_of_ble_eq_true rfl) rfl (c_X11_isTracer h_t) ?_
    rintro r w' (⟨c_4, rfl, rfl⟩ | ⟨c_5, rfl, rfl⟩)
    · refine ab_ifeq 29 dX11_isCurve_13 (by decide) (fun h_6 => absurd h_6 (by decide)) (fun h_6 => ?_)
      refine ab_iload_n dX11_isCurve_16 rfl ?_
      refine ab_iconst (v := 0) dX11_isCurve_17 (by decide) ?_
      refine ab_iconst (v := 1) dX11_isCurve_18 (by decide) ?_
      refine ab_callS (As := [.int a3, .int 0, .int 1]) (rest := []) dX11_isCurve_19 ms_X11_in ml_X11_107 ⟨by decide, by decide, rfl, rfl, rfl⟩ (by decide) rfl rfl (Nat.le_of_ble_eq_true rfl) c_X11_in ?_
      rintro r w' (⟨c_7, rfl, rfl⟩ | ⟨c_8, rfl, rfl⟩)
      · refine ab_ifeq 29 dX11_isCurve_22 (by decide) (fun h_9 => absurd h_9 (by decide)) (fun h_9 => ?_)
        refine ab_iconst (v := 1) dX11_isCurve_25 (by decide) ?_
        refine ab_goto 30 dX11_isCurve_26 (by decide) ?_
        exact ab_zret dX11_isCurve_30 rfl rfl (by decide) (Or.inl (⟨(by have := le_c (a := a3) 1 2 (by decide) (by decide); grind), rfl, rfl⟩))
      · refine ab_ifeq 29 dX11_isCurve_22 (by decide) (fun h_10 => ?_) (fun h_10 => absurd (by decide) h_10)
        refine ab_iconst (v := 0) dX11_isCurve_29 (by decide) ?_
        exact ab_zret dX11_isCurve_30 rfl rfl (by decide) (Or.inr (⟨(by have := le_c (a := a3) 1 2 (by decide) (by decide); grind), rfl, rfl⟩))
    · refine ab_ifeq 29 dX11_isCurve_13 (by decide) (fun h_11 => ?_) (fun h_11 => absurd (by decide) h_11)
      refine ab_iconst (v := 0) dX11_isCurve_29 (by decide) ?_
      exact ab_zret dX11_isCurve_30 rfl rfl (by decide) (Or.inr (⟨(by have := le_c (a := a3) 1 2 (by decide) (by decide); grind), rfl, rfl⟩))
  · refine ab_ifeq 29 dX11_isCurve_5 (by decide) (fun h_12 => ?_) (fun h_12 => absurd (by decide) h_12)
    refine ab_iconst (v := 0) dX11_isCurve_29 (by decide) ?_
    exact ab_zret dX11_isCurve_30 rfl rfl (by decide) (Or.inr (⟨(by have := le_c (a := a3) 1 2 (by decide) (by decide); grind), rfl, rfl⟩))
theorem c_X11_barOf {wc : List ax_E} {m_thrown m_trouble m_fault m_where m_taped m_linkMany m_tracerMany m_pointMany m_pairMany m_readLinks m_readTracers m_readPoints m_readPairs m_textLong m_at m_spot m_token m_whole m_readFault m_readPlace m_value m_curveMany m_cornerMany m_straightAt m_walkLink m_walkAngle m_walkBranch m_walkMany m_lined m_actMany a1 a2 : Int32} {m_n m_c m_d m_s m_e m_k m_x m_y m_g m_a m_fitUp m_fitDown m_worstUp m_worstDown : Int64} {z1 z2 z3 z5 z6 z7 z8 z9 z10 z11 z12 z13 z14 z15 z16 z17 z18 z19 z20 : ax_E} {q4 : Nat → Int32} (h_i : 0 ≤ a1 ∧ a1 < m_linkMany) (h_l : 0 ≤ m_linkMany ∧ m_linkMany ≤ nI 4) (h_w : 0 ≤ a2 ∧ a2 < nI 4) : Ct M_X11_barOf [.ref 1000, .int a1, .int a2] (wc, [ob 9 [.int m_thrown, .int m_trouble, .int m_fault, .int m_where, .ref 1001, .ref 1002, .int 40, .ref 1003, .int m_taped, .int m_linkMany, .int m_tracerMany, .int m_pointMany, .int m_pairMany, .ref 1004, .ref 1005, .ref 1006, .ref 1007, .int m_readLinks, .int m_readTracers, .int m_readPoints, .int m_readPairs, .ref 1008, .ref 1009, .ref 1010, .ref 1011, .int m_textLong, .int m_at, .int m_spot, .int m_token, .int m_whole, .int m_readFault, .int m_readPlace, .int m_value, .long m_n, .long m_c, .long m_d, .long m_s, .long m_e, .long m_k, .long m_x, .long m_y, .long m_g, .long m_a, .ref 1012, .ref 1013, .ref 1014, .int m_curveMany, .ref 1015, .int m_cornerMany, .int m_straightAt, .ref 1016, .long m_fitUp, .long m_fitDown, .long m_worstUp, .long m_worstDown, .ref 1017, .int m_walkLink, .int m_walkAngle, .int m_walkBranch, .int m_walkMany, .ref 1018, .ref 1019, .int m_lined, .ref 1020, .int m_actMany], z1, z2, z3, ia 16 q4, z5, z6, z7, z8, z9, z10, z11, z12, z13, z14, z15, z16, z17, z18, z19, z20]) (fun r w' => r = some (.int (q4 (0 + Int32.toNatClampNeg a1 * 4 + Int32.toNatClampNeg a2))) ∧ w' = (wc, [ob 9 [.int m_thrown, .int m_trouble, .int m_fault, .int m_where, .ref 1001, .ref 1002, .int 40, .ref 1003, .int m_taped, .int m_linkMany, .int m_tracerMany, .int m_pointMany, .int m_pairMany, .ref 1004, .ref 1005, .ref 1006, .ref 1007, .int m_readLinks, .int m_readTracers, .int m_readPoints, .int m_readPairs, .ref 1008, .ref 1009, .ref 1010, .ref 1011, .int m_textLong, .int m_at, .int m_spot, .int m_token, .int m_whole, .int m_readFault, .int m_readPlace, .int m_value, .long m_n, .long m_c, .long m_d, .long m_s, .long m_e, .long m_k, .long m_x, .long m_y, .long m_g, .long m_a, .ref 1012, .ref 1013, .ref 1014, .int m_curveMany, .ref 1015, .int m_cornerMany, .int m_straightAt, .ref 1016, .long m_fitUp, .long m_fitDown, .long m_worstUp, .long m_worstDown, .ref 1017, .int m_walkLink, .int m_walkAngle, .int m_walkBranch, .int m_walkMany, .ref 1018, .ref 1019, .int m_lined, .ref 1020, .int m_actMany], z1, z2, z3, ia 16 q4, z5, z6, z7, z8, z9, z10, z11, z12, z13, z14, z15, z16, z17, z18, z19, z20])) := by
  refine ct_of ⟨by decide, rfl⟩ (Nat.le_of_ble_eq_true rfl) ?_
  refine ab_aload_n dX11_barOf_0 rfl ?_
  refine ab_getf dX11_barOf_1 fl_X11_42 rfl rfl ?_
  refine ab_iconst (v := 4) dX11_barOf_4 (by decide) ?_
  refine ab_iload_n dX11_barOf_5 rfl ?_
  refine ab_imul dX11_barOf_6 ?_
  refine ab_iload_n dX11_barOf_7 rfl ?_
  refine ab_iadd dX11_barOf_8 ?_
  refine ab_iald (j := (0 + Int32.toNatClampNeg a1 * 4 + Int32.toNatClampNeg a2)) dX11_barOf_9 rfl (ix_ml (W := 4) (c := 4) h_i h_l.2 h_w (by decide) (by decide) (by decide) (by decide)) ?_
  exact ab_iret dX11_barOf_10 rfl (by decide) (⟨rfl, rfl⟩)
def Mk_least (q4 : Nat → Int32) (a1 : Int32) : Int32 := (if (Bg q4 a1) ≤ (Ba q4 a1) then (if (Bg q4 a1) ≤ (Bb q4 a1) then (if (Bg q4 a1) ≤ (Bc q4 a1) then 0 else 3) else (if (Bb q4 a1) ≤ (Bc q4 a1) then 2 else 3)) else (if (Ba q4 a1) ≤ (Bb q4 a1) then (if (Ba q4 a1) ≤ (Bc q4 a1) then 1 else 3) else (if (Bb q4 a1) ≤ (Bc q4 a1) then 2 else 3)))
theorem c_X11_leastOf {wc : List ax_E} {m_thrown m_trouble m_fault m_where m_taped m_linkMany m_tracerMany m_pointMany m_pairMany m_readLinks m_readTracers m_readPoints m_readPairs m_textLong m_at m_spot m_token m_whole m_readFault m_readPlace m_value m_curveMany m_cornerMany m_straightAt m_walkLink m_walkAngle m_walkBranch m_walkMany m_lined m_actMany a1 : Int32} {m_n m_c m_d m_s m_e m_k m_x m_y m_g m_a m_fitUp m_fitDown m_worstUp m_worstDown : Int64} {z1 z2 z3 z5 z6 z7 z8 z9 z10 z11 z12 z13 z14 z15 z16 z17 z18 z19 z20 : ax_E} {q4 : Nat → Int32} (h_i : 0 ≤ a1 ∧ a1 < m_linkMany) (h_l : 0 ≤ m_linkMany ∧ m_linkMany ≤ nI 4) : Ct M_X11_leastOf [.ref 1000, .int a1] (wc, [ob 9 [.int m_thrown, .int m_trouble, .int m_fault, .int m_where, .ref 1001, .ref 1002, .int 40, .ref 1003, .int m_taped, .int m_linkMany, .int m_tracerMany, .int m_pointMany, .int m_pairMany, .ref 1004, .ref 1005, .ref 1006, .ref 1007, .int m_readLinks, .int m_readTracers, .int m_readPoints, .int m_readPairs, .ref 1008, .ref 1009, .ref 1010, .ref 1011, .int m_textLong, .int m_at, .int m_spot, .int m_token, .int m_whole, .int m_readFault, .int m_readPlace, .int m_value, .long m_n, .long m_c, .long m_d, .long m_s, .long m_e, .long m_k, .long m_x, .long m_y, .long m_g, .long m_a, .ref 1012, .ref 1013, .ref 1014, .int m_curveMany, .ref 1015, .int m_cornerMany, .int m_straightAt, .ref 1016, .long m_fitUp, .long m_fitDown, .long m_worstUp, .long m_worstDown, .ref 1017, .int m_walkLink, .int m_walkAngle, .int m_walkBranch, .int m_walkMany, .ref 1018, .ref 1019, .int m_lined, .ref 1020, .int m_actMany], z1, z2, z3, ia 16 q4, z5, z6, z7, z8, z9, z10, z11, z12, z13, z14, z15, z16, z17, z18, z19, z20]) (fun r w' => r = some (.int (Mk_least q4 a1)) ∧ w' = (wc, [ob 9 [.int m_thrown, .int m_trouble, .int m_fault, .int m_where, .ref 1001, .ref 1002, .int 40, .ref 1003, .int m_taped, .int m_linkMany, .int m_tracerMany, .int m_pointMany, .int m_pairMany, .ref 1004, .ref 1005, .ref 1006, .ref 1007, .int m_readLinks, .int m_readTracers, .int m_readPoints, .int m_readPairs, .ref 1008, .ref 1009, .ref 1010, .ref 1011, .int m_textLong, .int m_at, .int m_spot, .int m_token, .int m_whole, .int m_readFault, .int m_readPlace, .int m_value, .long m_n, .long m_c, .long m_d, .long m_s, .long m_e, .long m_k, .long m_x, .long m_y, .long m_g, .long m_a, .ref 1012, .ref 1013, .ref 1014, .int m_curveMany, .ref 1015, .int m_cornerMany, .int m_straightAt, .ref 1016, .long m_fitUp, .long m_fitDown, .long m_worstUp, .long m_worstDown, .ref 1017, .int m_walkLink, .int m_walkAngle, .int m_walkBranch, .int m_walkMany, .ref 1018, .ref 1019, .int m_lined, .ref 1020, .int m_actMany], z1, z2, z3, ia 16 q4, z5, z6, z7, z8, z9, z10, z11, z12, z13, z14, z15, z16, z17, z18, z19, z20])) := by
  refine ct_of ⟨by decide, rfl⟩ (Nat.le_of_ble_eq_true rfl) ?_
  refine ab_iconst (v := 0) dX11_leastOf_0 (by decide) ?_
  refine ab_istore_n (la' := [(2, .int 0), (0, .ref 1000), (1, .int a1)]) dX11_leastOf_1 (by decide) rfl ?_
  refine ab_iconst (v := 1) dX11_leastOf_2 (by decide) ?_
  refine ab_istore_n (la' := [(3, .int 1), (2, .int 0), (0, .ref 1000), (1, .int a1)]) dX11_leastOf_3 (by decide) rfl ?_
  refine ab_iload_n dX11_leastOf_4 rfl ?_
  refine ab_iconst (v := 4) dX11_leastOf_5 (by decide) ?_
  refine ab_icmpge 36 dX11_leastOf_6 (by decide) (fun h_1 => absurd h_1 (by decide)) (fun h_1 => ?_)
  refine ab_aload_n dX11_leastOf_9 rfl ?_
  refine ab_iload_n dX11_leastOf_10 rfl ?_
  refine ab_iload_n dX11_leastOf_11 rfl ?_
  refine ab_callV (As := [.int a1, .int 1]) (rest := []) dX11_leastOf_12 mv_X11_barOf ml_X11_252 ⟨by decide, by decide, rfl, rfl, rfl⟩ (by decide) rfl rfl (Nat.le_of_ble_eq_true rfl) rfl (c_X11_barOf h_i h_l (by decide)) ?_
  rintro r w' ⟨rfl, rfl⟩
  refine ab_aload_n dX11_leastOf_15 rfl ?_
  refine ab_iload_n dX11_leastOf_16 rfl ?_
  refine ab_iload_n dX11_leastOf_17 rfl ?_
  refine ab_callV (As := [.int a1, .int 0]) (rest := [.int (Ba q4 a1)]) dX11_leastOf_18 mv_X11_barOf ml_X11_252 ⟨by decide, by decide, rfl, rfl, rfl⟩ (by decide) rfl rfl (Nat.le_of_ble_eq_true rfl) rfl (c_X11_barOf h_i h_l (by decide)) ?_
  rintro r w' ⟨rfl, rfl⟩
  refine ab_icmpge 28 dX11_leastOf_21 (by decide) (fun h_2 => ?_) (fun h_2 => ?_)
  · refine ab_iload_n dX11_leastOf_28 rfl ?_
    refine ab_istore_n (la' := [(2, .int 0), (3, .int 1), (0, .ref 1000), (1, .int a1)]) dX11_leastOf_29 (by decide) rfl ?_
    refine ab_iinc (v := 2) (la' := [(3, .int 2), (2, .int 0), (0, .ref 1000), (1, .int a1)]) dX11_leastOf_30 rfl (by decide) (by decide) rfl ?_
    refine ab_goto 4 dX11_leastOf_33 (by decide) ?_
    refine ab_iload_n dX11_leastOf_4 rfl ?_
    refine ab_iconst (v := 4) dX11_leastOf_5 (by decide) ?_
    refine ab_icmpge 36 dX11_leastOf_6 (by decide) (fun h_3 => absurd h_3 (by decide)) (fun h_3 => ?_)
    refine ab_aload_n dX11_leastOf_9 rfl ?_
    refine ab_iload_n dX11_leastOf_10 rfl ?_
    refine ab_iload_n dX11_leastOf_11 rfl ?_
    refine ab_callV (As := [.int a1, .int 2]) (rest := []) dX11_leastOf_12 mv_X11_barOf ml_X11_252 ⟨by decide, by decide, rfl, rfl, rfl⟩ (by decide) rfl rfl (Nat.le_of_ble_eq_true rfl) rfl (c_X11_barOf h_i h_l (by decide)) ?_
    rintro r w' ⟨rfl, rfl⟩
    refine ab_aload_n dX11_leastOf_15 rfl ?_
    refine ab_iload_n dX11_leastOf_16 rfl ?_
    refine ab_iload_n dX11_leastOf_17 rfl ?_
    refine ab_callV (As := [.int a1, .int 0]) (rest := [.int (Bb q4 a1)]) dX11_leastOf_18 mv_X11_barOf ml_X11_252 ⟨by decide, by decide, rfl, rfl, rfl⟩ (by decide) rfl rfl (Nat.le_of_ble_eq_true rfl) rfl (c_X11_barOf h_i h_l (by decide)) ?_
    rintro r w' ⟨rfl, rfl⟩
    refine ab_icmpge 28 dX11_leastOf_21 (by decide) (fun h_4 => ?_) (fun h_4 => ?_)
    · refine ab_iload_n dX11_leastOf_28 rfl ?_
      refine ab_istore_n (la' := [(2, .int 0), (3, .int 2), (0, .ref 1000), (1, .int a1)]) dX11_leastOf_29 (by decide) rfl ?_
      refine ab_iinc (v := 3) (la' := [(3, .int 3), (2, .int 0), (0, .ref 1000), (1, .int a1)]) dX11_leastOf_30 rfl (by decide) (by decide) rfl ?_
      refine ab_goto 4 dX11_leastOf_33 (by decide) ?_
      refine ab_iload_n dX11_leastOf_4 rfl ?_
      refine ab_iconst (v := 4) dX11_leastOf_5 (by decide) ?_
      refine ab_icmpge 36 dX11_leastOf_6 (by decide) (fun h_5 => absurd h_5 (by decide)) (fun h_5 => ?_)
      refine ab_aload_n dX11_leastOf_9 rfl ?_
      refine ab_iload_n dX11_leastOf_10 rfl ?_
      refine ab_iload_n dX11_leastOf_11 rfl ?_
      refine ab_callV (As := [.int a1, .int 3]) (rest := []) dX11_leastOf_12 mv_X11_barOf ml_X11_252 ⟨by decide, by decide, rfl, rfl, rfl⟩ (by decide) rfl rfl (Nat.le_of_ble_eq_true rfl) rfl (c_X11_barOf h_i h_l (by decide)) ?_
      rintro r w' ⟨rfl, rfl⟩
      refine ab_aload_n dX11_leastOf_15 rfl ?_
      refine ab_iload_n dX11_leastOf_16 rfl ?_
      refine ab_iload_n dX11_leastOf_17 rfl ?_
      refine ab_callV (As := [.int a1, .int 0]) (rest := [.int (Bc q4 a1)]) dX11_leastOf_18 mv_X11_barOf ml_X11_252 ⟨by decide, by decide, rfl, rfl, rfl⟩ (by decide) rfl rfl (Nat.le_of_ble_eq_true rfl) rfl (c_X11_barOf h_i h_l (by decide)) ?_
      rintro r w' ⟨rfl, rfl⟩
      refine ab_icmpge 28 dX11_leastOf_21 (by decide) (fun h_6 => ?_) (fun h_6 => ?_)
      · refine ab_iload_n dX11_leastOf_28 rfl ?_
        refine ab_istore_n (la' := [(2, .int 0), (3, .int 3), (0, .ref 1000), (1, .int a1)]) dX11_leastOf_29 (by decide) rfl ?_
        refine ab_iinc (v := 4) (la' := [(3, .int 4), (2, .int 0), (0, .ref 1000), (1, .int a1)]) dX11_leastOf_30 rfl (by decide) (by decide) rfl ?_
        refine ab_goto 4 dX11_leastOf_33 (by decide) ?_
        refine ab_iload_n dX11_leastOf_4 rfl ?_
        refine ab_iconst (v := 4) dX11_leastOf_5 (by decide) ?_
        refine ab_icmpge 36 dX11_leastOf_6 (by decide) (fun h_7 => ?_) (fun h_7 => absurd (by decide) h_7)
        refine ab_iload_n dX11_leastOf_36 rfl ?_
        exact ab_iret dX11_leastOf_37 rfl (by decide) (⟨by rw [Mk_least, if_pos (show (Bg q4 a1) ≤ (Ba q4 a1) from h_2), if_pos (show (Bg q4 a1) ≤ (Bb q4 a1) from h_4), if_pos (show (Bg q4 a1) ≤ (Bc q4 a1) from h_6)], rfl⟩)
      · refine ab_iload_n dX11_leastOf_24 rfl ?_
        refine ab_goto 29 dX11_leastOf_25 (by decide) ?_
        refine ab_istore_n (la' := [(2, .int 3), (3, .int 3), (0, .ref 1000), (1, .int a1)]) dX11_leastOf_29 (by decide) rfl ?_
        refine ab_iinc (v := 4) (la' := [(3, .int 4), (2, .int 3), (0, .ref 1000), (1, .int a1)]) dX11_leastOf_30 rfl (by decide) (by decide) rfl ?_
        refine ab_goto 4 dX11_leastOf_33 (by decide) ?_
        refine ab_iload_n dX11_leastOf_4 rfl ?_
        refine ab_iconst (v := 4) dX11_leastOf_5 (by decide) ?_
        refine ab_icmpge 36 dX11_leastOf_6 (by decide) (fun h_8 => ?_) (fun h_8 => absurd (by decide) h_8)
        refine ab_iload_n dX11_leastOf_36 rfl ?_
        exact ab_iret dX11_leastOf_37 rfl (by decide) (⟨by rw [Mk_least, if_pos (show (Bg q4 a1) ≤ (Ba q4 a1) from h_2), if_pos (show (Bg q4 a1) ≤ (Bb q4 a1) from h_4), if_neg (show ¬ (Bg q4 a1) ≤ (Bc q4 a1) from h_6)], rfl⟩)
    · refine ab_iload_n dX11_leastOf_24 rfl ?_
      refine ab_goto 29 dX11_leastOf_25 (by decide) ?_
      refine ab_istore_n (la' := [(2, .int 2), (3, .int 2), (0, .ref 1000), (1, .int a1)]) dX11_leastOf_29 (by decide) rfl ?_
      refine ab_iinc (v := 3) (la' := [(3, .int 3), (2, .int 2), (0, .ref 1000), (1, .int a1)]) dX11_leastOf_30 rfl (by decide) (by decide) rfl ?_
      refine ab_goto 4 dX11_leastOf_33 (by decide) ?_
      refine ab_iload_n dX11_leastOf_4 rfl ?_
      refine ab_iconst (v := 4) dX11_leastOf_5 (by decide) ?_
      refine ab_icmpge 36 dX11_leastOf_6 (by decide) (fun h_9 => absurd h_9 (by decide)) (fun h_9 => ?_)
      refine ab_aload_n dX11_leastOf_9 rfl ?_
      refine ab_iload_n dX11_leastOf_10 rfl ?_
      refine ab_iload_n dX11_leastOf_11 rfl ?_
      refine ab_callV (As := [.int a1, .int 3]) (rest := []) dX11_leastOf_12 mv_X11_barOf ml_X11_252 ⟨by decide, by decide, rfl, rfl, rfl⟩ (by decide) rfl rfl (Nat.le_of_ble_eq_true rfl) rfl (c_X11_barOf h_i h_l (by decide)) ?_
      rintro r w' ⟨rfl, rfl⟩
      refine ab_aload_n dX11_leastOf_15 rfl ?_
      refine ab_iload_n dX11_leastOf_16 rfl ?_
      refine ab_iload_n dX11_leastOf_17 rfl ?_
      refine ab_callV (As := [.int a1, .int 2]) (rest := [.int (Bc q4 a1)]) dX11_leastOf_18 mv_X11_barOf ml_X11_252 ⟨by decide, by decide, rfl, rfl, rfl⟩ (by decide) rfl rfl (Nat.le_of_ble_eq_true rfl) rfl (c_X11_barOf h_i h_l (by decide)) ?_
      rintro r w' ⟨rfl, rfl⟩
      refine ab_icmpge 28 dX11_leastOf_21 (by decide) (fun h_10 => ?_) (fun h_10 => ?_)
      · refine ab_iload_n dX11_leastOf_28 rfl ?_
        refine ab_istore_n (la' := [(2, .int 2), (3, .int 3), (0, .ref 1000), (1, .int a1)]) dX11_leastOf_29 (by decide) rfl ?_
        refine ab_iinc (v := 4) (la' := [(3, .int 4), (2, .int 2), (0, .ref 1000), (1, .int a1)]) dX11_leastOf_30 rfl (by decide) (by decide) rfl ?_
        refine ab_goto 4 dX11_leastOf_33 (by decide) ?_
        refine ab_iload_n dX11_leastOf_4 rfl ?_
        refine ab_iconst (v := 4) dX11_leastOf_5 (by decide) ?_
        refine ab_icmpge 36 dX11_leastOf_6 (by decide) (fun h_11 => ?_) (fun h_11 => absurd (by decide) h_11)
        refine ab_iload_n dX11_leastOf_36 rfl ?_
        exact ab_iret dX11_leastOf_37 rfl (by decide) (⟨by rw [Mk_least, if_pos (show (Bg q4 a1) ≤ (Ba q4 a1) from h_2), if_neg (show ¬ (Bg q4 a1) ≤ (Bb q4 a1) from h_4), if_pos (show (Bb q4 a1) ≤ (Bc q4 a1) from h_10)], rfl⟩)
      · refine ab_iload_n dX11_leastOf_24 rfl ?_
        refine ab_goto 29 dX11_leastOf_25 (by decide) ?_
        refine ab_istore_n (la' := [(2, .int 3), (3, .int 3), (0, .ref 1000), (1, .int a1)]) dX11_leastOf_29 (by decide) rfl ?_
        refine ab_iinc (v := 4) (la' := [(3, .int 4), (2, .int 3), (0, .ref 1000), (1, .int a1)]) dX11_leastOf_30 rfl (by decide) (by decide) rfl ?_
        refine ab_goto 4 dX11_leastOf_33 (by decide) ?_
        refine ab_iload_n dX11_leastOf_4 rfl ?_
        refine ab_iconst (v := 4) dX11_leastOf_5 (by decide) ?_
        refine ab_icmpge 36 dX11_leastOf_6 (by decide) (fun h_12 => ?_) (fun h_12 => absurd (by decide) h_12)
        refine ab_iload_n dX11_leastOf_36 rfl ?_
        exact ab_iret dX11_leastOf_37 rfl (by decide) (⟨by rw [Mk_least, if_pos (show (Bg q4 a1) ≤ (Ba q4 a1) from h_2), if_neg (show ¬ (Bg q4 a1) ≤ (Bb q4 a1) from h_4), if_neg (show ¬ (Bb q4 a1) ≤ (Bc q4 a1) from h_10)], rfl⟩)
  · refine ab_iload_n dX11_leastOf_24 rfl ?_
    refine ab_goto 29 dX11_leastOf_25 (by decide) ?_
    refine ab_istore_n (la' := [(2, .int 1), (3, .int 1), (0, .ref 1000), (1, .int a1)]) dX11_leastOf_29 (by decide) rfl ?_
    refine ab_iinc (v := 2) (la' := [(3, .int 2), (2, .int 1), (0, .ref 1000), (1, .int a1)]) dX11_leastOf_30 rfl (by decide) (by decide) rfl ?_
    refine ab_goto 4 dX11_leastOf_33 (by decide) ?_
    refine ab_iload_n dX11_leastOf_4 rfl ?_
    refine ab_iconst (v := 4) dX11_leastOf_5 (by decide) ?_
    refine ab_icmpge 36 dX11_leastOf_6 (by decide) (fun h_13 => absurd h_13 (by decide)) (fun h_13 => ?_)
    refine ab_aload_n dX11_leastOf_9 rfl ?_
    refine ab_iload_n dX11_leastOf_10 rfl ?_
    refine ab_iload_n dX11_leastOf_11 rfl ?_
    refine ab_callV (As := [.int a1, .int 2]) (rest := []) dX11_leastOf_12 mv_X11_barOf ml_X11_252 ⟨by decide, by decide, rfl, rfl, rfl⟩ (by decide) rfl rfl (Nat.le_of_ble_eq_true rfl) rfl (c_X11_barOf h_i h_l (by decide)) ?_
    rintro r w' ⟨rfl, rfl⟩
    refine ab_aload_n dX11_leastOf_15 rfl ?_
    refine ab_iload_n dX11_leastOf_16 rfl ?_
    refine ab_iload_n dX11_leastOf_17 rfl ?_
    refine ab_callV (As := [.int a1, .int 1]) (rest := [.int (Bb q4 a1)]) dX11_leastOf_18 mv_X11_barOf ml_X11_252 ⟨by decide, by decide, rfl, rfl, rfl⟩ (by decide) rfl rfl (Nat.le_of_ble_eq_true rfl) rfl (c_X11_barOf h_i h_l (by decide)) ?_
    rintro r w' ⟨rfl, rfl⟩
    refine ab_icmpge 28 dX11_leastOf_21 (by decide) (fun h_14 => ?_) (fun h_14 => ?_)
    · refine ab_iload_n dX11_leastOf_28 rfl ?_
      refine ab_istore_n (la' := [(2, .int 1), (3, .int 2), (0, .ref 1000), (1, .int a1)]) dX11_leastOf_29 (by decide) rfl ?_
      refine ab_iinc (v := 3) (la' := [(3, .int 3), (2, .int 1), (0, .ref 1000), (1, .int a1)]) dX11_leastOf_30 rfl (by decide) (by decide) rfl ?_
      refine ab_goto 4 dX11_leastOf_33 (by decide) ?_
      refine ab_iload_n dX11_leastOf_4 rfl ?_
      refine ab_iconst (v := 4) dX11_leastOf_5 (by decide) ?_
      refine ab_icmpge 36 dX11_leastOf_6 (by decide) (fun h_15 => absurd h_15 (by decide)) (fun h_15 => ?_)
      refine ab_aload_n dX11_leastOf_9 rfl ?_
      refine ab_iload_n dX11_leastOf_10 rfl ?_
      refine ab_iload_n dX11_leastOf_11 rfl ?_
      refine ab_callV (As := [.int a1, .int 3]) (rest := []) dX11_leastOf_12 mv_X11_barOf ml_X11_252 ⟨by decide, by decide, rfl, rfl, rfl⟩ (by decide) rfl rfl (Nat.le_of_ble_eq_true rfl) rfl (c_X11_barOf h_i h_l (by decide)) ?_
      rintro r w' ⟨rfl, rfl⟩
      refine ab_aload_n dX11_leastOf_15 rfl ?_
      refine ab_iload_n dX11_leastOf_16 rfl ?_
      refine ab_iload_n dX11_leastOf_17 rfl ?_
      refine ab_callV (As := [.int a1, .int 1]) (rest := [.int (Bc q4 a1)]) dX11_leastOf_18 mv_X11_barOf ml_X11_252 ⟨by decide, by decide, rfl, rfl, rfl⟩ (by decide) rfl rfl (Nat.le_of_ble_eq_true rfl) rfl (c_X11_barOf h_i h_l (by decide)) ?_
      rintro r w' ⟨rfl, rfl⟩
      refine ab_icmpge 28 dX11_leastOf_21 (by decide) (fun h_16 => ?_) (fun h_16 => ?_)
      · refine ab_iload_n dX11_leastOf_28 rfl ?_
        refine ab_istore_n (la' := [(2, .int 1), (3, .int 3), (0, .ref 1000), (1, .int a1)]) dX11_leastOf_29 (by decide) rfl ?_
        refine ab_iinc (v := 4) (la' := [(3, .int 4), (2, .int 1), (0, .ref 1000), (1, .int a1)]) dX11_leastOf_30 rfl (by decide) (by decide) rfl ?_
        refine ab_goto 4 dX11_leastOf_33 (by decide) ?_
        refine ab_iload_n dX11_leastOf_4 rfl ?_
        refine ab_iconst (v := 4) dX11_leastOf_5 (by decide) ?_
        refine ab_icmpge 36 dX11_leastOf_6 (by decide) (fun h_17 => ?_) (fun h_17 => absurd (by decide) h_17)
        refine ab_iload_n dX11_leastOf_36 rfl ?_
        exact ab_iret dX11_leastOf_37 rfl (by decide) (⟨by rw [Mk_least, if_neg (show ¬ (Bg q4 a1) ≤ (Ba q4 a1) from h_2), if_pos (show (Ba q4 a1) ≤ (Bb q4 a1) from h_14), if_pos (show (Ba q4 a1) ≤ (Bc q4 a1) from h_16)], rfl⟩)
      · refine ab_iload_n dX11_leastOf_24 rfl ?_
        refine ab_goto 29 dX11_leastOf_25 (by decide) ?_
        refine ab_istore_n (la' := [(2, .int 3), (3, .int 3), (0, .ref 1000), (1, .int a1)]) dX11_leastOf_29 (by decide) rfl ?_
        refine ab_iinc (v := 4) (la' := [(3, .int 4), (2, .int 3), (0, .ref 1000), (1, .int a1)]) dX11_leastOf_30 rfl (by decide) (by decide) rfl ?_
        refine ab_goto 4 dX11_leastOf_33 (by decide) ?_
        refine ab_iload_n dX11_leastOf_4 rfl ?_
        refine ab_iconst (v := 4) dX11_leastOf_5 (by decide) ?_
        refine ab_icmpge 36 dX11_leastOf_6 (by decide) (fun h_18 => ?_) (fun h_18 => absurd (by decide) h_18)
        refine ab_iload_n dX11_leastOf_36 rfl ?_
        exact ab_iret dX11_leastOf_37 rfl (by decide) (⟨by rw [Mk_least, if_neg (show ¬ (Bg q4 a1) ≤ (Ba q4 a1) from h_2), if_pos (show (Ba q4 a1) ≤ (Bb q4 a1) from h_14), if_neg (show ¬ (Ba q4 a1) ≤ (Bc q4 a1) from h_16)], rfl⟩)
    · refine ab_iload_n dX11_leastOf_24 rfl ?_
      refine ab_goto 29 dX11_leastOf_25 (by decide) ?_
      refine ab_istore_n (la' := [(2, .int 2), (3, .int 2), (0, .ref 1000), (1, .int a1)]) dX11_leastOf_29 (by decide) rfl ?_
      refine ab_iinc (v := 3) (la' := [(3, .int 3), (2, .int 2), (0, .ref 1000), (1, .int a1)]) dX11_leastOf_30 rfl (by decide) (by decide) rfl ?_
      refine ab_goto 4 dX11_leastOf_33 (by decide) ?_
      refine ab_iload_n dX11_leastOf_4 rfl ?_
      refine ab_iconst (v := 4) dX11_leastOf_5 (by decide) ?_
      refine ab_icmpge 36 dX11_leastOf_6 (by decide) (fun h_19 => absurd h_19 (by decide)) (fun h_19 => ?_)
      refine ab_aload_n dX11_leastOf_9 rfl ?_
      refine ab_iload_n dX11_leastOf_10 rfl ?_
      refine ab_iload_n dX11_leastOf_11 rfl ?_
      refine ab_callV (As := [.int a1, .int 3]) (rest := []) dX11_leastOf_12 mv_X11_barOf ml_X11_252 ⟨by decide, by decide, rfl, rfl, rfl⟩ (by decide) rfl rfl (Nat.le_of_ble_eq_true rfl) rfl (c_X11_barOf h_i h_l (by decide)) ?_
      rintro r w' ⟨rfl, rfl⟩
      refine ab_aload_n dX11_leastOf_15 rfl ?_
      refine ab_iload_n dX11_leastOf_16 rfl ?_
      refine ab_iload_n dX11_leastOf_17 rfl ?_
      refine ab_callV (As := [.int a1, .int 2]) (rest := [.int (Bc q4 a1)]) dX11_leastOf_18 mv_X11_barOf ml_X11_252 ⟨by decide, by decide, rfl, rfl, rfl⟩ (by decide) rfl rfl (Nat.le_of_ble_eq_true rfl) rfl (c_X11_barOf h_i h_l (by decide)) ?_
      rintro r w' ⟨rfl, rfl⟩
      refine ab_icmpge 28 dX11_leastOf_21 (by decide) (fun h_20 => ?_) (fun h_20 => ?_)
      · refine ab_iload_n dX11_leastOf_28 rfl ?_
        refine ab_istore_n (la' := [(2, .int 2), (3, .int 3), (0, .ref 1000), (1, .int a1)]) dX11_leastOf_29 (by decide) rfl ?_
        refine ab_iinc (v := 4) (la' := [(3, .int 4), (2, .int 2), (0, .ref 1000), (1, .int a1)]) dX11_leastOf_30 rfl (by decide) (by decide) rfl ?_
        refine ab_goto 4 dX11_leastOf_33 (by decide) ?_
        refine ab_iload_n dX11_leastOf_4 rfl ?_
        refine ab_iconst (v := 4) dX11_leastOf_5 (by decide) ?_
        refine ab_icmpge 36 dX11_leastOf_6 (by decide) (fun h_21 => ?_) (fun h_21 => absurd (by decide) h_21)
        refine ab_iload_n dX11_leastOf_36 rfl ?_
        exact ab_iret dX11_leastOf_37 rfl (by decide) (⟨by rw [Mk_least, if_neg (show ¬ (Bg q4 a1) ≤ (Ba q4 a1) from h_2), if_neg (show ¬ (Ba q4 a1) ≤ (Bb q4 a1) from h_14), if_pos (show (Bb q4 a1) ≤ (Bc q4 a1) from h_20)], rfl⟩)
      · refine ab_iload_n dX11_leastOf_24 rfl ?_
        refine ab_goto 29 dX11_leastOf_25 (by decide) ?_
        refine ab_istore_n (la' := [(2, .int 3), (3, .int 3), (0, .ref 1000), (1, .int a1)]) dX11_leastOf_29 (by decide) rfl ?_
        refine ab_iinc (v := 4) (la' := [(3, .int 4), (2, .int 3), (0, .ref 1000), (1, .int a1)]) dX11_leastOf_30 rfl (by decide) (by decide) rfl ?_
        refine ab_goto 4 dX11_leastOf_33 (by decide) ?_
        refine ab_iload_n dX11_leastOf_4 rfl ?_
        refine ab_iconst (v := 4) dX11_leastOf_5 (by decide) ?_
        refine ab_icmpge 36 dX11_leastOf_6 (by decide) (fun h_22 => ?_) (fun h_22 => absurd (by decide) h_22)
        refine ab_iload_n dX11_leastOf_36 rfl ?_
        exact ab_iret dX11_leastOf_37 rfl (by decide) (⟨by rw [Mk_least, if_neg (show ¬ (Bg q4 a1) ≤ (Ba q4 a1) from h_2), if_neg (show ¬ (Ba q4 a1) ≤ (Bb q4 a1) from h_14), if_neg (show ¬ (Bb q4 a1) ≤ (Bc q4 a1) from h_20)], rfl⟩)
def Mk_max (q4 : Nat → Int32) (a1 : Int32) : Int32 := (if (Bg q4 a1) ≤ 0 then (if (Ba q4 a1) ≤ 0 then (if (Bb q4 a1) ≤ 0 then (if (Bc q4 a1) ≤ 0 then 0 else (Bc q4 a1)) else (if (Bc q4 a1) ≤ (Bb q4 a1) then (Bb q4 a1) else (Bc q4 a1))) else (if (Bb q4 a1) ≤ (Ba q4 a1) then (if (Bc q4 a1) ≤ (Ba q4 a1) then (Ba q4 a1) else (Bc q4 a1)) else (if (Bc q4 a1) ≤ (Bb q4 a1) then (Bb q4 a1) else (Bc q4 a1)))) else (if (Ba q4 a1) ≤ (Bg q4 a1) then (if (Bb q4 a1) ≤ (Bg q4 a1) then (if (Bc q4 a1) ≤ (Bg q4 a1) then (Bg q4 a1) else (Bc q4 a1)) else (if (Bc q4 a1) ≤ (Bb q4 a1) then (Bb q4 a1) else (Bc q4 a1))) else (if (Bb q4 a1) ≤ (Ba q4 a1) then (if (Bc q4 a1) ≤ (Ba q4 a1) then (Ba q4 a1) else (Bc q4 a1)) else (if (Bc q4 a1) ≤ (Bb q4 a1) then (Bb q4 a1) else (Bc q4 a1)))))
theorem c_X11_greatestOf {wc : List ax_E} {m_thrown m_trouble m_fault m_where m_taped m_linkMany m_tracerMany m_pointMany m_pairMany m_readLinks m_readTracers m_readPoints m_readPairs m_textLong m_at m_spot m_token m_whole m_readFault m_readPlace m_value m_curveMany m_cornerMany m_straightAt m_walkLink m_walkAngle m_walkBranch m_walkMany m_lined m_actMany a1 : Int32} {m_n m_c m_d m_s m_e m_k m_x m_y m_g m_a m_fitUp m_fitDown m_worstUp m_worstDown : Int64} {z1 z2 z3 z5 z6 z7 z8 z9 z10 z11 z12 z13 z14 z15 z16 z17 z18 z19 z20 : ax_E} {q4 : Nat → Int32} (h_i : 0 ≤ a1 ∧ a1 < m_linkMany) (h_l : 0 ≤ m_linkMany ∧ m_linkMany ≤ nI 4) : Ct M_X11_greatestOf [.ref 1000, .int a1] (wc, [ob 9 [.int m_thrown, .int m_trouble, .int m_fault, .int m_where, .ref 1001, .ref 1002, .int 40, .ref 1003, .int m_taped, .int m_linkMany, .int m_tracerMany, .int m_pointMany, .int m_pairMany, .ref 1004, .ref 1005, .ref 1006, .ref 1007, .int m_readLinks, .int m_readTracers, .int m_readPoints, .int m_readPairs, .ref 1008, .ref 1009, .ref 1010, .ref 1011, .int m_textLong, .int m_at, .int m_spot, .int m_token, .int m_whole, .int m_readFault, .int m_readPlace, .int m_value, .long m_n, .long m_c, .long m_d, .long m_s, .long m_e, .long m_k, .long m_x, .long m_y, .long m_g, .long m_a, .ref 1012, .ref 1013, .ref 1014, .int m_curveMany, .ref 1015, .int m_cornerMany, .int m_straightAt, .ref 1016, .long m_fitUp, .long m_fitDown, .long m_worstUp, .long m_worstDown, .ref 1017, .int m_walkLink, .int m_walkAngle, .int m_walkBranch, .int m_walkMany, .ref 1018, .ref 1019, .int m_lined, .ref 1020, .int m_actMany], z1, z2, z3, ia 16 q4, z5, z6, z7, z8, z9, z10, z11, z12, z13, z14, z15, z16, z17, z18, z19, z20]) (fun r w' => r = some (.int (Mk_max q4 a1)) ∧ w' = (wc, [ob 9 [.int m_thrown, .int m_trouble, .int m_fault, .int m_where, .ref 1001, .ref 1002, .int 40, .ref 1003, .int m_taped, .int m_linkMany, .int m_tracerMany, .int m_pointMany, .int m_pairMany, .ref 1004, .ref 1005, .ref 1006, .ref 1007, .int m_readLinks, .int m_readTracers, .int m_readPoints, .int m_readPairs, .ref 1008, .ref 1009, .ref 1010, .ref 1011, .int m_textLong, .int m_at, .int m_spot, .int m_token, .int m_whole, .int m_readFault, .int m_readPlace, .int m_value, .long m_n, .long m_c, .long m_d, .long m_s, .long m_e, .long m_k, .long m_x, .long m_y, .long m_g, .long m_a, .ref 1012, .ref 1013, .ref 1014, .int m_curveMany, .ref 1015, .int m_cornerMany, .int m_straightAt, .ref 1016, .long m_fitUp, .long m_fitDown, .long m_worstUp, .long m_worstDown, .ref 1017, .int m_walkLink, .int m_walkAngle, .int m_walkBranch, .int m_walkMany, .ref 1018, .ref 1019, .int m_lined, .ref 1020, .int m_actMany], z1, z2, z3, ia 16 q4, z5, z6, z7, z8, z9, z10, z11, z12, z13, z14, z15, z16, z17, z18, z19, z20])) := by
  refine ct_of ⟨by decide, rfl⟩ (Nat.le_of_ble_eq_true rfl) ?_
  refine ab_iconst (v := 0) dX11_greatestOf_0 (by decide) ?_
  refine ab_istore_n (la' := [(2, .int 0), (0, .ref 1000), (1, .int a1)]) dX11_greatestOf_1 (by decide) rfl ?_
  refine ab_iconst (v := 0) dX11_greatestOf_2 (by decide) ?_
  refine ab_istore_n (la' := [(3, .int 0), (2, .int 0), (0, .ref 1000), (1, .int a1)]) dX11_greatestOf_3 (by decide) rfl ?_
  refine ab_iload_n dX11_greatestOf_4 rfl ?_
  refine ab_iconst (v := 4) dX11_greatestOf_5 (by decide) ?_
  refine ab_icmpge 36 dX11_greatestOf_6 (by decide) (fun h_1 => absurd h_1 (by decide)) (fun h_1 => ?_)
  refine ab_aload_n dX11_greatestOf_9 rfl ?_
  refine ab_iload_n dX11_greatestOf_10 rfl ?_
  refine ab_iload_n dX11_greatestOf_11 rfl ?_
  refine ab_callV (As := [.int a1, .int 0]) (rest := []) dX11_greatestOf_12 mv_X11_barOf ml_X11_252 ⟨by decide, by decide, rfl, rfl, rfl⟩ (by decide) rfl rfl (Nat.le_of_ble_eq_true rfl) rfl (c_X11_barOf h_i h_l (by decide)) ?_
  rintro r w' ⟨rfl, rfl⟩
  refine ab_iload_n dX11_greatestOf_15 rfl ?_
  refine ab_icmple 28 dX11_greatestOf_16 (by decide) (fun h_2 => ?_) (fun h_2 => ?_)
  · refine ab_iload_n dX11_greatestOf_28 rfl ?_
    refine ab_istore_n (la' := [(2, .int 0), (3, .int 0), (0, .ref 1000), (1, .int a1)]) dX11_greatestOf_29 (by decide) rfl ?_
    refine ab_iinc (v := 1) (la' := [(3, .int 1), (2, .int 0), (0, .ref 1000), (1, .int a1)]) dX11_greatestOf_30 rfl (by decide) (by decide) rfl ?_
    refine ab_goto 4 dX11_greatestOf_33 (by decide) ?_
    refine ab_iload_n dX11_greatestOf_4 rfl ?_
    refine ab_iconst (v := 4) dX11_greatestOf_5 (by decide) ?_
    refine ab_icmpge 36 dX11_greatestOf_6 (by decide) (fun h_3 => absurd h_3 (by decide)) (fun h_3 => ?_)
    refine ab_aload_n dX11_greatestOf_9 rfl ?_
    refine ab_iload_n dX11_greatestOf_10 rfl ?_
    refine ab_iload_n dX11_greatestOf_11 rfl ?_
    refine ab_callV (As := [.int a1, .int 1]) (rest := []) dX11_greatestOf_12 mv_X11_barOf ml_X11_252 ⟨by decide, by decide, rfl, rfl, rfl⟩ (by decide) rfl rfl (Nat.le_of_ble_eq_true rfl) rfl (c_X11_barOf h_i h_l (by decide)) ?_
    rintro r w' ⟨rfl, rfl⟩
    refine ab_iload_n dX11_greatestOf_15 rfl ?_
    refine ab_icmple 28 dX11_greatestOf_16 (by decide) (fun h_4 => ?_) (fun h_4 => ?_)
    · refine ab_iload_n dX11_greatestOf_28 rfl ?_
      refine ab_istore_n (la' := [(2, .int 0), (3, .int 1), (0, .ref 1000), (1, .int a1)]) dX11_greatestOf_29 (by decide) rfl ?_
      refine ab_iinc (v := 2) (la' := [(3, .int 2), (2, .int 0), (0, .ref 1000), (1, .int a1)]) dX11_greatestOf_30 rfl (by decide) (by decide) rfl ?_
      refine ab_goto 4 dX11_greatestOf_33 (by decide) ?_
      refine ab_iload_n dX11_greatestOf_4 rfl ?_
      refine ab_iconst (v := 4) dX11_greatestOf_5 (by decide) ?_
      refine ab_icmpge 36 dX11_greatestOf_6 (by decide) (fun h_5 => absurd h_5 (by decide)) (fun h_5 => ?_)
      refine ab_aload_n dX11_greatestOf_9 rfl ?_
      refine ab_iload_n dX11_greatestOf_10 rfl ?_
      refine ab_iload_n dX11_greatestOf_11 rfl ?_
      refine ab_callV (As := [.int a1, .int 2]) (rest := []) dX11_greatestOf_12 mv_X11_barOf ml_X11_252 ⟨by decide, by decide, rfl, rfl, rfl⟩ (by decide) rfl rfl (Nat.le_of_ble_eq_true rfl) rfl (c_X11_barOf h_i h_l (by decide)) ?_
      rintro r w' ⟨rfl, rfl⟩
      refine ab_iload_n dX11_greatestOf_15 rfl ?_
      refine ab_icmple 28 dX11_greatestOf_16 (by decide) (fun h_6 => ?_) (fun h_6 => ?_)
      · refine ab_iload_n dX11_greatestOf_28 rfl ?_
        refine ab_istore_n (la' := [(2, .int 0), (3, .int 2), (0, .ref 1000), (1, .int a1)]) dX11_greatestOf_29 (by decide) rfl ?_
        refine ab_iinc (v := 3) (la' := [(3, .int 3), (2, .int 0), (0, .ref 1000), (1, .int a1)]) dX11_greatestOf_30 rfl (by decide) (by decide) rfl ?_
        refine ab_goto 4 dX11_greatestOf_33 (by decide) ?_
        refine ab_iload_n dX11_greatestOf_4 rfl ?_
        refine ab_iconst (v := 4) dX11_greatestOf_5 (by decide) ?_
        refine ab_icmpge 36 dX11_greatestOf_6 (by decide) (fun h_7 => absurd h_7 (by decide)) (fun h_7 => ?_)
        refine ab_aload_n dX11_greatestOf_9 rfl ?_
        refine ab_iload_n dX11_greatestOf_10 rfl ?_
        refine ab_iload_n dX11_greatestOf_11 rfl ?_
        refine ab_callV (As := [.int a1, .int 3]) (rest := []) dX11_greatestOf_12 mv_X11_barOf ml_X11_252 ⟨by decide, by decide, rfl, rfl, rfl⟩ (by decide) rfl rfl (Nat.le_of_ble_eq_true rfl) rfl (c_X11_barOf h_i h_l (by decide)) ?_
        rintro r w' ⟨rfl, rfl⟩
        refine ab_iload_n dX11_greatestOf_15 rfl ?_
        refine ab_icmple 28 dX11_greatestOf_16 (by decide) (fun h_8 => ?_) (fun h_8 => ?_)
        · refine ab_iload_n dX11_greatestOf_28 rfl ?_
          refine ab_istore_n (la' := [(2, .int 0), (3, .int 3), (0, .ref 1000), (1, .int a1)]) dX11_greatestOf_29 (by decide) rfl ?_
          refine ab_iinc (v := 4) (la' := [(3, .int 4), (2, .int 0), (0, .ref 1000), (1, .int a1)]) dX11_greatestOf_30 rfl (by decide) (by decide) rfl ?_
          refine ab_goto 4 dX11_greatestOf_33 (by decide) ?_
          refine ab_iload_n dX11_greatestOf_4 rfl ?_
          refine ab_iconst (v := 4) dX11_greatestOf_5 (by decide) ?_
          refine ab_icmpge 36 dX11_greatestOf_6 (by decide) (fun h_9 => ?_) (fun h_9 => absurd (by decide) h_9)
          refine ab_iload_n dX11_greatestOf_36 rfl ?_
          exact ab_iret dX11_greatestOf_37 rfl (by decide) (⟨by rw [Mk_max, if_pos (show (Bg q4 a1) ≤ 0 from h_2), if_pos (show (Ba q4 a1) ≤ 0 from h_4), if_pos (show (Bb q4 a1) ≤ 0 from h_6), if_pos (show (Bc q4 a1) ≤ 0 from h_8)], rfl⟩)
        · refine ab_aload_n dX11_greatestOf_19 rfl ?_
          refine ab_iload_n dX11_greatestOf_20 rfl ?_
          refine ab_iload_n dX11_greatestOf_21 rfl ?_
          refine ab_callV (As := [.int a1, .int 3]) (rest := []) dX11_greatestOf_22 mv_X11_barOf ml_X11_252 ⟨by decide, by decide, rfl, rfl, rfl⟩ (by decide) rfl rfl (Nat.le_of_ble_eq_true rfl) rfl (c_X11_barOf h_i h_l (by decide)) ?_
          rintro r w' ⟨rfl, rfl⟩
          refine ab_goto 29 dX11_greatestOf_25 (by decide) ?_
          refine ab_istore_n (la' := [(2, .int (Bc q4 a1)), (3, .int 3), (0, .ref 1000), (1, .int a1)]) dX11_greatestOf_29 (by decide) rfl ?_
          refine ab_iinc (v := 4) (la' := [(3, .int 4), (2, .int (Bc q4 a1)), (0, .ref 1000), (1, .int a1)]) dX11_greatestOf_30 rfl (by decide) (by decide) rfl ?_
          refine ab_goto 4 dX11_greatestOf_33 (by decide) ?_
          refine ab_iload_n dX11_greatestOf_4 rfl ?_
          refine ab_iconst (v := 4) dX11_greatestOf_5 (by decide) ?_
          refine ab_icmpge 36 dX11_greatestOf_6 (by decide) (fun h_10 => ?_) (fun h_10 => absurd (by decide) h_10)
          refine ab_iload_n dX11_greatestOf_36 rfl ?_
          exact ab_iret dX11_greatestOf_37 rfl (by decide) (⟨by rw [Mk_max, if_pos (show (Bg q4 a1) ≤ 0 from h_2), if_pos (show (Ba q4 a1) ≤ 0 from h_4), if_pos (show (Bb q4 a1) ≤ 0 from h_6), if_neg (show ¬ (Bc q4 a1) ≤ 0 from h_8)], rfl⟩)
      · refine ab_aload_n dX11_greatestOf_19 rfl ?_
        refine ab_iload_n dX11_greatestOf_20 rfl ?_
        refine ab_iload_n dX11_greatestOf_21 rfl ?_
        refine ab_callV (As := [.int a1, .int 2]) (rest := []) dX11_greatestOf_22 mv_X11_barOf ml_X11_252 ⟨by decide, by decide, rfl, rfl, rfl⟩ (by decide) rfl rfl (Nat.le_of_ble_eq_true rfl) rfl (c_X11_barOf h_i h_l (by decide)) ?_
        rintro r w' ⟨rfl, rfl⟩
        refine ab_goto 29 dX11_greatestOf_25 (by decide) ?_
        refine ab_istore_n (la' := [(2, .int (Bb q4 a1)), (3, .int 2), (0, .ref 1000), (1, .int a1)]) dX11_greatestOf_29 (by decide) rfl ?_
        refine ab_iinc (v := 3) (la' := [(3, .int 3), (2, .int (Bb q4 a1)), (0, .ref 1000), (1, .int a1)]) dX11_greatestOf_30 rfl (by decide) (by decide) rfl ?_
        refine ab_goto 4 dX11_greatestOf_33 (by decide) ?_
        refine ab_iload_n dX11_greatestOf_4 rfl ?_
        refine ab_iconst (v := 4) dX11_greatestOf_5 (by decide) ?_
        refine ab_icmpge 36 dX11_greatestOf_6 (by decide) (fun h_11 => absurd h_11 (by decide)) (fun h_11 => ?_)
        refine ab_aload_n dX11_greatestOf_9 rfl ?_
        refine ab_iload_n dX11_greatestOf_10 rfl ?_
        refine ab_iload_n dX11_greatestOf_11 rfl ?_
        refine ab_callV (As := [.int a1, .int 3]) (rest := []) dX11_greatestOf_12 mv_X11_barOf ml_X11_252 ⟨by decide, by decide, rfl, rfl, rfl⟩ (by decide) rfl rfl (Nat.le_of_ble_eq_true rfl) rfl (c_X11_barOf h_i h_l (by decide)) ?_
        rintro r w' ⟨rfl, rfl⟩
        refine ab_iload_n dX11_greatestOf_15 rfl ?_
        refine ab_icmple 28 dX11_greatestOf_16 (by decide) (fun h_12 => ?_) (fun h_12 => ?_)
        · refine ab_iload_n dX11_greatestOf_28 rfl ?_
          refine ab_istore_n (la' := [(2, .int (Bb q4 a1)), (3, .int 3), (0, .ref 1000), (1, .int a1)]) dX11_greatestOf_29 (by decide) rfl ?_
          refine ab_iinc (v := 4) (la' := [(3, .int 4), (2, .int (Bb q4 a1)), (0, .ref 1000), (1, .int a1)]) dX11_greatestOf_30 rfl (by decide) (by decide) rfl ?_
          refine ab_goto 4 dX11_greatestOf_33 (by decide) ?_
          refine ab_iload_n dX11_greatestOf_4 rfl ?_
          refine ab_iconst (v := 4) dX11_greatestOf_5 (by decide) ?_
          refine ab_icmpge 36 dX11_greatestOf_6 (by decide) (fun h_13 => ?_) (fun h_13 => absurd (by decide) h_13)
          refine ab_iload_n dX11_greatestOf_36 rfl ?_
          exact ab_iret dX11_greatestOf_37 rfl (by decide) (⟨by rw [Mk_max, if_pos (show (Bg q4 a1) ≤ 0 from h_2), if_pos (show (Ba q4 a1) ≤ 0 from h_4), if_neg (show ¬ (Bb q4 a1) ≤ 0 from h_6), if_pos (show (Bc q4 a1) ≤ (Bb q4 a1) from h_12)], rfl⟩)
        · refine ab_aload_n dX11_greatestOf_19 rfl ?_
          refine ab_iload_n dX11_greatestOf_20 rfl ?_
          refine ab_iload_n dX11_greatestOf_21 rfl ?_
          refine ab_callV (As := [.int a1, .int 3]) (rest := []) dX11_greatestOf_22 mv_X11_barOf ml_X11_252 ⟨by decide, by decide, rfl, rfl, rfl⟩ (by decide) rfl rfl (Nat.le_of_ble_eq_true rfl) rfl (c_X11_barOf h_i h_l (by decide)) ?_
          rintro r w' ⟨rfl, rfl⟩
          refine ab_goto 29 dX11_greatestOf_25 (by decide) ?_
          refine ab_istore_n (la' := [(2, .int (Bc q4 a1)), (3, .int 3), (0, .ref 1000), (1, .int a1)]) dX11_greatestOf_29 (by decide) rfl ?_
          refine ab_iinc (v := 4) (la' := [(3, .int 4), (2, .int (Bc q4 a1)), (0, .ref 1000), (1, .int a1)]) dX11_greatestOf_30 rfl (by decide) (by decide) rfl ?_
          refine ab_goto 4 dX11_greatestOf_33 (by decide) ?_
          refine ab_iload_n dX11_greatestOf_4 rfl ?_
          refine ab_iconst (v := 4) dX11_greatestOf_5 (by decide) ?_
          refine ab_icmpge 36 dX11_greatestOf_6 (by decide) (fun h_14 => ?_) (fun h_14 => absurd (by decide) h_14)
          refine ab_iload_n dX11_greatestOf_36 rfl ?_
          exact ab_iret dX11_greatestOf_37 rfl (by decide) (⟨by rw [Mk_max, if_pos (show (Bg q4 a1) ≤ 0 from h_2), if_pos (show (Ba q4 a1) ≤ 0 from h_4), if_neg (show ¬ (Bb q4 a1) ≤ 0 from h_6), if_neg (show ¬ (Bc q4 a1) ≤ (Bb q4 a1) from h_12)], rfl⟩)
    · refine ab_aload_n dX11_greatestOf_19 rfl ?_
      refine ab_iload_n dX11_greatestOf_20 rfl ?_
      refine ab_iload_n dX11_greatestOf_21 rfl ?_
      refine ab_callV (As := [.int a1, .int 1]) (rest := []) dX11_greatestOf_22 mv_X11_barOf ml_X11_252 ⟨by decide, by decide, rfl, rfl, rfl⟩ (by decide) rfl rfl (Nat.le_of_ble_eq_true rfl) rfl (c_X11_barOf h_i h_l (by decide)) ?_
      rintro r w' ⟨rfl, rfl⟩
      refine ab_goto 29 dX11_greatestOf_25 (by decide) ?_
      refine ab_istore_n (la' := [(2, .int (Ba q4 a1)), (3, .int 1), (0, .ref 1000), (1, .int a1)]) dX11_greatestOf_29 (by decide) rfl ?_
      refine ab_iinc (v := 2) (la' := [(3, .int 2), (2, .int (Ba q4 a1)), (0, .ref 1000), (1, .int a1)]) dX11_greatestOf_30 rfl (by decide) (by decide) rfl ?_
      refine ab_goto 4 dX11_greatestOf_33 (by decide) ?_
      refine ab_iload_n dX11_greatestOf_4 rfl ?_
      refine ab_iconst (v := 4) dX11_greatestOf_5 (by decide) ?_
      refine ab_icmpge 36 dX11_greatestOf_6 (by decide) (fun h_15 => absurd h_15 (by decide)) (fun h_15 => ?_)
      refine ab_aload_n dX11_greatestOf_9 rfl ?_
      refine ab_iload_n dX11_greatestOf_10 rfl ?_
      refine ab_iload_n dX11_greatestOf_11 rfl ?_
      refine ab_callV (As := [.int a1, .int 2]) (rest := []) dX11_greatestOf_12 mv_X11_barOf ml_X11_252 ⟨by decide, by decide, rfl, rfl, rfl⟩ (by decide) rfl rfl (Nat.le_of_ble_eq_true rfl) rfl (c_X11_barOf h_i h_l (by decide)) ?_
      rintro r w' ⟨rfl, rfl⟩
      refine ab_iload_n dX11_greatestOf_15 rfl ?_
      refine ab_icmple 28 dX11_greatestOf_16 (by decide) (fun h_16 => ?_) (fun h_16 => ?_)
      · refine ab_iload_n dX11_greatestOf_28 rfl ?_
        refine ab_istore_n (la' := [(2, .int (Ba q4 a1)), (3, .int 2), (0, .ref 1000), (1, .int a1)]) dX11_greatestOf_29 (by decide) rfl ?_
        refine ab_iinc (v := 3) (la' := [(3, .int 3), (2, .int (Ba q4 a1)), (0, .ref 1000), (1, .int a1)]) dX11_greatestOf_30 rfl (by decide) (by decide) rfl ?_
        refine ab_goto 4 dX11_greatestOf_33 (by decide) ?_
        refine ab_iload_n dX11_greatestOf_4 rfl ?_
        refine ab_iconst (v := 4) dX11_greatestOf_5 (by decide) ?_
        refine ab_icmpge 36 dX11_greatestOf_6 (by decide) (fun h_17 => absurd h_17 (by decide)) (fun h_17 => ?_)
        refine ab_aload_n dX11_greatestOf_9 rfl ?_
        refine ab_iload_n dX11_greatestOf_10 rfl ?_
        refine ab_iload_n dX11_greatestOf_11 rfl ?_
        refine ab_callV (As := [.int a1, .int 3]) (rest := []) dX11_greatestOf_12 mv_X11_barOf ml_X11_252 ⟨by decide, by decide, rfl, rfl, rfl⟩ (by decide) rfl rfl (Nat.le_of_ble_eq_true rfl) rfl (c_X11_barOf h_i h_l (by decide)) ?_
        rintro r w' ⟨rfl, rfl⟩
        refine ab_iload_n dX11_greatestOf_15 rfl ?_
        refine ab_icmple 28 dX11_greatestOf_16 (by decide) (fun h_18 => ?_) (fun h_18 => ?_)
        · refine ab_iload_n dX11_greatestOf_28 rfl ?_
          refine ab_istore_n (la' := [(2, .int (Ba q4 a1)), (3, .int 3), (0, .ref 1000), (1, .int a1)]) dX11_greatestOf_29 (by decide) rfl ?_
          refine ab_iinc (v := 4) (la' := [(3, .int 4), (2, .int (Ba q4 a1)), (0, .ref 1000), (1, .int a1)]) dX11_greatestOf_30 rfl (by decide) (by decide) rfl ?_
          refine ab_goto 4 dX11_greatestOf_33 (by decide) ?_
          refine ab_iload_n dX11_greatestOf_4 rfl ?_
          refine ab_iconst (v := 4) dX11_greatestOf_5 (by decide) ?_
          refine ab_icmpge 36 dX11_greatestOf_6 (by decide) (fun h_19 => ?_) (fun h_19 => absurd (by decide) h_19)
          refine ab_iload_n dX11_greatestOf_36 rfl ?_
          exact ab_iret dX11_greatestOf_37 rfl (by decide) (⟨by rw [Mk_max, if_pos (show (Bg q4 a1) ≤ 0 from h_2), if_neg (show ¬ (Ba q4 a1) ≤ 0 from h_4), if_pos (show (Bb q4 a1) ≤ (Ba q4 a1) from h_16), if_pos (show (Bc q4 a1) ≤ (Ba q4 a1) from h_18)], rfl⟩)
        · refine ab_aload_n dX11_greatestOf_19 rfl ?_
          refine ab_iload_n dX11_greatestOf_20 rfl ?_
          refine ab_iload_n dX11_greatestOf_21 rfl ?_
          refine ab_callV (As := [.int a1, .int 3]) (rest := []) dX11_greatestOf_22 mv_X11_barOf ml_X11_252 ⟨by decide, by decide, rfl, rfl, rfl⟩ (by decide) rfl rfl (Nat.le_of_ble_eq_true rfl) rfl (c_X11_barOf h_i h_l (by decide)) ?_
          rintro r w' ⟨rfl, rfl⟩
          refine ab_goto 29 dX11_greatestOf_25 (by decide) ?_
          refine ab_istore_n (la' := [(2, .int (Bc q4 a1)), (3, .int 3), (0, .ref 1000), (1, .int a1)]) dX11_greatestOf_29 (by decide) rfl ?_
          refine ab_iinc (v := 4) (la' := [(3, .int 4), (2, .int (Bc q4 a1)), (0, .ref 1000), (1, .int a1)]) dX11_greatestOf_30 rfl (by decide) (by decide) rfl ?_
          refine ab_goto 4 dX11_greatestOf_33 (by decide) ?_
          refine ab_iload_n dX11_greatestOf_4 rfl ?_
          refine ab_iconst (v := 4) dX11_greatestOf_5 (by decide) ?_
          refine ab_icmpge 36 dX11_greatestOf_6 (by decide) (fun h_20 => ?_) (fun h_20 => absurd (by decide) h_20)
          refine ab_iload_n dX11_greatestOf_36 rfl ?_
          exact ab_iret dX11_greatestOf_37 rfl (by decide) (⟨by rw [Mk_max, if_pos (show (Bg q4 a1) ≤ 0 from h_2), if_neg (show ¬ (Ba q4 a1) ≤ 0 from h_4), if_pos (show (Bb q4 a1) ≤ (Ba q4 a1) from h_16), if_neg (show ¬ (Bc q4 a1) ≤ (Ba q4 a1) from h_18)], rfl⟩)
      · refine ab_aload_n dX11_greatestOf_19 rfl ?_
        refine ab_iload_n dX11_greatestOf_20 rfl ?_
        refine ab_iload_n dX11_greatestOf_21 rfl ?_
        refine ab_callV (As := [.int a1, .int 2]) (rest := []) dX11_greatestOf_22 mv_X11_barOf ml_X11_252 ⟨by decide, by decide, rfl, rfl, rfl⟩ (by decide) rfl rfl (Nat.le_of_ble_eq_true rfl) rfl (c_X11_barOf h_i h_l (by decide)) ?_
        rintro r w' ⟨rfl, rfl⟩
        refine ab_goto 29 dX11_greatestOf_25 (by decide) ?_
        refine ab_istore_n (la' := [(2, .int (Bb q4 a1)), (3, .int 2), (0, .ref 1000), (1, .int a1)]) dX11_greatestOf_29 (by decide) rfl ?_
        refine ab_iinc (v := 3) (la' := [(3, .int 3), (2, .int (Bb q4 a1)), (0, .ref 1000), (1, .int a1)]) dX11_greatestOf_30 rfl (by decide) (by decide) rfl ?_
        refine ab_goto 4 dX11_greatestOf_33 (by decide) ?_
        refine ab_iload_n dX11_greatestOf_4 rfl ?_
        refine ab_iconst (v := 4) dX11_greatestOf_5 (by decide) ?_
        refine ab_icmpge 36 dX11_greatestOf_6 (by decide) (fun h_21 => absurd h_21 (by decide)) (fun h_21 => ?_)
        refine ab_aload_n dX11_greatestOf_9 rfl ?_
        refine ab_iload_n dX11_greatestOf_10 rfl ?_
        refine ab_iload_n dX11_greatestOf_11 rfl ?_
        refine ab_callV (As := [.int a1, .int 3]) (rest := []) dX11_greatestOf_12 mv_X11_barOf ml_X11_252 ⟨by decide, by decide, rfl, rfl, rfl⟩ (by decide) rfl rfl (Nat.le_of_ble_eq_true rfl) rfl (c_X11_barOf h_i h_l (by decide)) ?_
        rintro r w' ⟨rfl, rfl⟩
        refine ab_iload_n dX11_greatestOf_15 rfl ?_
        refine ab_icmple 28 dX11_greatestOf_16 (by decide) (fun h_22 => ?_) (fun h_22 => ?_)
        · refine ab_iload_n dX11_greatestOf_28 rfl ?_
          refine ab_istore_n (la' := [(2, .int (Bb q4 a1)), (3, .int 3), (0, .ref 1000), (1, .int a1)]) dX11_greatestOf_29 (by decide) rfl ?_
          refine ab_iinc (v := 4) (la' := [(3, .int 4), (2, .int (Bb q4 a1)), (0, .ref 1000), (1, .int a1)]) dX11_greatestOf_30 rfl (by decide) (by decide) rfl ?_
          refine ab_goto 4 dX11_greatestOf_33 (by decide) ?_
          refine ab_iload_n dX11_greatestOf_4 rfl ?_
          refine ab_iconst (v := 4) dX11_greatestOf_5 (by decide) ?_
          refine ab_icmpge 36 dX11_greatestOf_6 (by decide) (fun h_23 => ?_) (fun h_23 => absurd (by decide) h_23)
          refine ab_iload_n dX11_greatestOf_36 rfl ?_
          exact ab_iret dX11_greatestOf_37 rfl (by decide) (⟨by rw [Mk_max, if_pos (show (Bg q4 a1) ≤ 0 from h_2), if_neg (show ¬ (Ba q4 a1) ≤ 0 from h_4), if_neg (show ¬ (Bb q4 a1) ≤ (Ba q4 a1) from h_16), if_pos (show (Bc q4 a1) ≤ (Bb q4 a1) from h_22)], rfl⟩)
        · refine ab_aload_n dX11_greatestOf_19 rfl ?_
          refine ab_iload_n dX11_greatestOf_20 rfl ?_
          refine ab_iload_n dX11_greatestOf_21 rfl ?_
          refine ab_callV (As := [.int a1, .int 3]) (rest := []) dX11_greatestOf_22 mv_X11_barOf ml_X11_252 ⟨by decide, by decide, rfl, rfl, rfl⟩ (by decide) rfl rfl (Nat.le_of_ble_eq_true rfl) rfl (c_X11_barOf h_i h_l (by decide)) ?_
          rintro r w' ⟨rfl, rfl⟩
          refine ab_goto 29 dX11_greatestOf_25 (by decide) ?_
          refine ab_istore_n (la' := [(2, .int (Bc q4 a1)), (3, .int 3), (0, .ref 1000), (1, .int a1)]) dX11_greatestOf_29 (by decide) rfl ?_
          refine ab_iinc (v := 4) (la' := [(3, .int 4), (2, .int (Bc q4 a1)), (0, .ref 1000), (1, .int a1)]) dX11_greatestOf_30 rfl (by decide) (by decide) rfl ?_
          refine ab_goto 4 dX11_greatestOf_33 (by decide) ?_
          refine ab_iload_n dX11_greatestOf_4 rfl ?_
          refine ab_iconst (v := 4) dX11_greatestOf_5 (by decide) ?_
          refine ab_icmpge 36 dX11_greatestOf_6 (by decide) (fun h_24 => ?_) (fun h_24 => absurd (by decide) h_24)
          refine ab_iload_n dX11_greatestOf_36 rfl ?_
          exact ab_iret dX11_greatestOf_37 rfl (by decide) (⟨by rw [Mk_max, if_pos (show (Bg q4 a1) ≤ 0 from h_2), if_neg (show ¬ (Ba q4 a1) ≤ 0 from h_4), if_neg (show ¬ (Bb q4 a1) ≤ (Ba q4 a1) from h_16), if_neg (show ¬ (Bc q4 a1) ≤ (Bb q4 a1) from h_22)], rfl⟩)
  · refine ab_aload_n dX11_greatestOf_19 rfl ?_
    refine ab_iload_n dX11_greatestOf_20 rfl ?_
    refine ab_iload_n dX11_greatestOf_21 rfl ?_
    refine ab_callV (As := [.int a1, .int 0]) (rest := []) dX11_greatestOf_22 mv_X11_barOf ml_X11_252 ⟨by decide, by decide, rfl, rfl, rfl⟩ (by decide) rfl rfl (Nat.le_of_ble_eq_true rfl) rfl (c_X11_barOf h_i h_l (by decide)) ?_
    rintro r w' ⟨rfl, rfl⟩
    refine ab_goto 29 dX11_greatestOf_25 (by decide) ?_
    refine ab_istore_n (la' := [(2, .int (Bg q4 a1)), (3, .int 0), (0, .ref 1000), (1, .int a1)]) dX11_greatestOf_29 (by decide) rfl ?_
    refine ab_iinc (v := 1) (la' := [(3, .int 1), (2, .int (Bg q4 a1)), (0, .ref 1000), (1, .int a1)]) dX11_greatestOf_30 rfl (by decide) (by decide) rfl ?_
    refine ab_goto 4 dX11_greatestOf_33 (by decide) ?_
    refine ab_iload_n dX11_greatestOf_4 rfl ?_
    refine ab_iconst (v := 4) dX11_greatestOf_5 (by decide) ?_
    refine ab_icmpge 36 dX11_greatestOf_6 (by decide) (fun h_25 => absurd h_25 (by decide)) (fun h_25 => ?_)
    refine ab_aload_n dX11_greatestOf_9 rfl ?_
    refine ab_iload_n dX11_greatestOf_10 rfl ?_
    refine ab_iload_n dX11_greatestOf_11 rfl ?_
    refine ab_callV (As := [.int a1, .int 1]) (rest := []) dX11_greatestOf_12 mv_X11_barOf ml_X11_252 ⟨by decide, by decide, rfl, rfl, rfl⟩ (by decide) rfl rfl (Nat.le_of_ble_eq_true rfl) rfl (c_X11_barOf h_i h_l (by decide)) ?_
    rintro r w' ⟨rfl, rfl⟩
    refine ab_iload_n dX11_greatestOf_15 rfl ?_
    refine ab_icmple 28 dX11_greatestOf_16 (by decide) (fun h_26 => ?_) (fun h_26 => ?_)
    · refine ab_iload_n dX11_greatestOf_28 rfl ?_
      refine ab_istore_n (la' := [(2, .int (Bg q4 a1)), (3, .int 1), (0, .ref 1000), (1, .int a1)]) dX11_greatestOf_29 (by decide) rfl ?_
      refine ab_iinc (v := 2) (la' := [(3, .int 2), (2, .int (Bg q4 a1)), (0, .ref 1000), (1, .int a1)]) dX11_greatestOf_30 rfl (by decide) (by decide) rfl ?_
      refine ab_goto 4 dX11_greatestOf_33 (by decide) ?_
      refine ab_iload_n dX11_greatestOf_4 rfl ?_
      refine ab_iconst (v := 4) dX11_greatestOf_5 (by decide) ?_
      refine ab_icmpge 36 dX11_greatestOf_6 (by decide) (fun h_27 => absurd h_27 (by decide)) (fun h_27 => ?_)
      refine ab_aload_n dX11_greatestOf_9 rfl ?_
      refine ab_iload_n dX11_greatestOf_10 rfl ?_
      refine ab_iload_n dX11_greatestOf_11 rfl ?_
      refine ab_callV (As := [.int a1, .int 2]) (rest := []) dX11_greatestOf_12 mv_X11_barOf ml_X11_252 ⟨by decide, by decide, rfl, rfl, rfl⟩ (by decide) rfl rfl (Nat.le_of_ble_eq_true rfl) rfl (c_X11_barOf h_i h_l (by decide)) ?_
      rintro r w' ⟨rfl, rfl⟩
      refine ab_iload_n dX11_greatestOf_15 rfl ?_
      refine ab_icmple 28 dX11_greatestOf_16 (by decide) (fun h_28 => ?_) (fun h_28 => ?_)
      · refine ab_iload_n dX11_greatestOf_28 rfl ?_
        refine ab_istore_n (la' := [(2, .int (Bg q4 a1)), (3, .int 2), (0, .ref 1000), (1, .int a1)]) dX11_greatestOf_29 (by decide) rfl ?_
        refine ab_iinc (v := 3) (la' := [(3, .int 3), (2, .int (Bg q4 a1)), (0, .ref 1000), (1, .int a1)]) dX11_greatestOf_30 rfl (by decide) (by decide) rfl ?_
        refine ab_goto 4 dX11_greatestOf_33 (by decide) ?_
        refine ab_iload_n dX11_greatestOf_4 rfl ?_
        refine ab_iconst (v := 4) dX11_greatestOf_5 (by decide) ?_
        refine ab_icmpge 36 dX11_greatestOf_6 (by decide) (fun h_29 => absurd h_29 (by decide)) (fun h_29 => ?_)
        refine ab_aload_n dX11_greatestOf_9 rfl ?_
        refine ab_iload_n dX11_greatestOf_10 rfl ?_
        refine ab_iload_n dX11_greatestOf_11 rfl ?_
        refine ab_callV (As := [.int a1, .int 3]) (rest := []) dX11_greatestOf_12 mv_X11_barOf ml_X11_252 ⟨by decide, by decide, rfl, rfl, rfl⟩ (by decide) rfl rfl (Nat.le_of_ble_eq_true rfl) rfl (c_X11_barOf h_i h_l (by decide)) ?_
        rintro r w' ⟨rfl, rfl⟩
        refine ab_iload_n dX11_greatestOf_15 rfl ?_
        refine ab_icmple 28 dX11_greatestOf_16 (by decide) (fun h_30 => ?_) (fun h_30 => ?_)
        · refine ab_iload_n dX11_greatestOf_28 rfl ?_
          refine ab_istore_n (la' := [(2, .int (Bg q4 a1)), (3, .int 3), (0, .ref 1000), (1, .int a1)]) dX11_greatestOf_29 (by decide) rfl ?_
          refine ab_iinc (v := 4) (la' := [(3, .int 4), (2, .int (Bg q4 a1)), (0, .ref 1000), (1, .int a1)]) dX11_greatestOf_30 rfl (by decide) (by decide) rfl ?_
          refine ab_goto 4 dX11_greatestOf_33 (by decide) ?_
          refine ab_iload_n dX11_greatestOf_4 rfl ?_
          refine ab_iconst (v := 4) dX11_greatestOf_5 (by decide) ?_
          refine ab_icmpge 36 dX11_greatestOf_6 (by decide) (fun h_31 => ?_) (fun h_31 => absurd (by decide) h_31)
          refine ab_iload_n dX11_greatestOf_36 rfl ?_
          exact ab_iret dX11_greatestOf_37 rfl (by decide) (⟨by rw [Mk_max, if_neg (show ¬ (Bg q4 a1) ≤ 0 from h_2), if_pos (show (Ba q4 a1) ≤ (Bg q4 a1) from h_26), if_pos (show (Bb q4 a1) ≤ (Bg q4 a1) from h_28), if_pos (show (Bc q4 a1) ≤ (Bg q4 a1) from h_30)], rfl⟩)
        · refine ab_aload_n dX11_greatestOf_19 rfl ?_
          refine ab_iload_n dX11_greatestOf_20 rfl ?_
          refine ab_iload_n dX11_greatestOf_21 rfl ?_
          refine ab_callV (As := [.int a1, .int 3]) (rest := []) dX11_greatestOf_22 mv_X11_barOf ml_X11_252 ⟨by decide, by decide, rfl, rfl, rfl⟩ (by decide) rfl rfl (Nat.le_of_ble_eq_true rfl) rfl (c_X11_barOf h_i h_l (by decide)) ?_
          rintro r w' ⟨rfl, rfl⟩
          refine ab_goto 29 dX11_greatestOf_25 (by decide) ?_
          refine ab_istore_n (la' := [(2, .int (Bc q4 a1)), (3, .int 3), (0, .ref 1000), (1, .int a1)]) dX11_greatestOf_29 (by decide) rfl ?_
          refine ab_iinc (v := 4) (la' := [(3, .int 4), (2, .int (Bc q4 a1)), (0, .ref 1000), (1, .int a1)]) dX11_greatestOf_30 rfl (by decide) (by decide) rfl ?_
          refine ab_goto 4 dX11_greatestOf_33 (by decide) ?_
          refine ab_iload_n dX11_greatestOf_4 rfl ?_
          refine ab_iconst (v := 4) dX11_greatestOf_5 (by decide) ?_
          refine ab_icmpge 36 dX11_greatestOf_6 (by decide) (fun h_32 => ?_) (fun h_32 => absurd (by decide) h_32)
          refine ab_iload_n dX11_greatestOf_36 rfl ?_
          exact ab_iret dX11_greatestOf_37 rfl (by decide) (⟨by rw [Mk_max, if_neg (show ¬ (Bg q4 a1) ≤ 0 from h_2), if_pos (show (Ba q4 a1) ≤ (Bg q4 a1) from h_26), if_pos (show (Bb q4 a1) ≤ (Bg q4 a1) from h_28), if_neg (show ¬ (Bc q4 a1) ≤ (Bg q4 a1) from h_30)], rfl⟩)
      · refine ab_aload_n dX11_greatestOf_19 rfl ?_
        refine ab_iload_n dX11_greatestOf_20 rfl ?_
        refine ab_iload_n dX11_greatestOf_21 rfl ?_
        refine ab_callV (As := [.int a1, .int 2]) (rest := []) dX11_greatestOf_22 mv_X11_barOf ml_X11_252 ⟨by decide, by decide, rfl, rfl, rfl⟩ (by decide) rfl rfl (Nat.le_of_ble_eq_true rfl) rfl (c_X11_barOf h_i h_l (by decide)) ?_
        rintro r w' ⟨rfl, rfl⟩
        refine ab_goto 29 dX11_greatestOf_25 (by decide) ?_
        refine ab_istore_n (la' := [(2, .int (Bb q4 a1)), (3, .int 2), (0, .ref 1000), (1, .int a1)]) dX11_greatestOf_29 (by decide) rfl ?_
        refine ab_iinc (v := 3) (la' := [(3, .int 3), (2, .int (Bb q4 a1)), (0, .ref 1000), (1, .int a1)]) dX11_greatestOf_30 rfl (by decide) (by decide) rfl ?_
        refine ab_goto 4 dX11_greatestOf_33 (by decide) ?_
        refine ab_iload_n dX11_greatestOf_4 rfl ?_
        refine ab_iconst (v := 4) dX11_greatestOf_5 (by decide) ?_
        refine ab_icmpge 36 dX11_greatestOf_6 (by decide) (fun h_33 => absurd h_33 (by decide)) (fun h_33 => ?_)
        refine ab_aload_n dX11_greatestOf_9 rfl ?_
        refine ab_iload_n dX11_greatestOf_10 rfl ?_
        refine ab_iload_n dX11_greatestOf_11 rfl ?_
        refine ab_callV (As := [.int a1, .int 3]) (rest := []) dX11_greatestOf_12 mv_X11_barOf ml_X11_252 ⟨by decide, by decide, rfl, rfl, rfl⟩ (by decide) rfl rfl (Nat.le_of_ble_eq_true rfl) rfl (c_X11_barOf h_i h_l (by decide)) ?_
        rintro r w' ⟨rfl, rfl⟩
        refine ab_iload_n dX11_greatestOf_15 rfl ?_
        refine ab_icmple 28 dX11_greatestOf_16 (by decide) (fun h_34 => ?_) (fun h_34 => ?_)
        · refine ab_iload_n dX11_greatestOf_28 rfl ?_
          refine ab_istore_n (la' := [(2, .int (Bb q4 a1)), (3, .int 3), (0, .ref 1000), (1, .int a1)]) dX11_greatestOf_29 (by decide) rfl ?_
          refine ab_iinc (v := 4) (la' := [(3, .int 4), (2, .int (Bb q4 a1)), (0, .ref 1000), (1, .int a1)]) dX11_greatestOf_30 rfl (by decide) (by decide) rfl ?_
          refine ab_goto 4 dX11_greatestOf_33 (by decide) ?_
          refine ab_iload_n dX11_greatestOf_4 rfl ?_
          refine ab_iconst (v := 4) dX11_greatestOf_5 (by decide) ?_
          refine ab_icmpge 36 dX11_greatestOf_6 (by decide) (fun h_35 => ?_) (fun h_35 => absurd (by decide) h_35)
          refine ab_iload_n dX11_greatestOf_36 rfl ?_
          exact ab_iret dX11_greatestOf_37 rfl (by decide) (⟨by rw [Mk_max, if_neg (show ¬ (Bg q4 a1) ≤ 0 from h_2), if_pos (show (Ba q4 a1) ≤ (Bg q4 a1) from h_26), if_neg (show ¬ (Bb q4 a1) ≤ (Bg q4 a1) from h_28), if_pos (show (Bc q4 a1) ≤ (Bb q4 a1) from h_34)], rfl⟩)
        · refine ab_aload_n dX11_greatestOf_19 rfl ?_
          refine ab_iload_n dX11_greatestOf_20 rfl ?_
          refine ab_iload_n dX11_greatestOf_21 rfl ?_
          refine ab_callV (As := [.int a1, .int 3]) (rest := []) dX11_greatestOf_22 mv_X11_barOf ml_X11_252 ⟨by decide, by decide, rfl, rfl, rfl⟩ (by decide) rfl rfl (Nat.le_of_ble_eq_true rfl) rfl (c_X11_barOf h_i h_l (by decide)) ?_
          rintro r w' ⟨rfl, rfl⟩
          refine ab_goto 29 dX11_greatestOf_25 (by decide) ?_
          refine ab_istore_n (la' := [(2, .int (Bc q4 a1)), (3, .int 3), (0, .ref 1000), (1, .int a1)]) dX11_greatestOf_29 (by decide) rfl ?_
          refine ab_iinc (v := 4) (la' := [(3, .int 4), (2, .int (Bc q4 a1)), (0, .ref 1000), (1, .int a1)]) dX11_greatestOf_30 rfl (by decide) (by decide) rfl ?_
          refine ab_goto 4 dX11_greatestOf_33 (by decide) ?_
          refine ab_iload_n dX11_greatestOf_4 rfl ?_
          refine ab_iconst (v := 4) dX11_greatestOf_5 (by decide) ?_
          refine ab_icmpge 36 dX11_greatestOf_6 (by decide) (fun h_36 => ?_) (fun h_36 => absurd (by decide) h_36)
          refine ab_iload_n dX11_greatestOf_36 rfl ?_
          exact ab_iret dX11_greatestOf_37 rfl (by decide) (⟨by rw [Mk_max, if_neg (show ¬ (Bg q4 a1) ≤ 0 from h_2), if_pos (show (Ba q4 a1) ≤ (Bg q4 a1) from h_26), if_neg (show ¬ (Bb q4 a1) ≤ (Bg q4 a1) from h_28), if_neg (show ¬ (Bc q4 a1) ≤ (Bb q4 a1) from h_34)], rfl⟩)
    · refine ab_aload_n dX11_greatestOf_19 rfl ?_
      refine ab_iload_n dX11_greatestOf_20 rfl ?_
      refine ab_iload_n dX11_greatestOf_21 rfl ?_
      refine ab_callV (As := [.int a1, .int 1]) (rest := []) dX11_greatestOf_22 mv_X11_barOf ml_X11_252 ⟨by decide, by decide, rfl, rfl, rfl⟩ (by decide) rfl rfl (Nat.le_of_ble_eq_true rfl) rfl (c_X11_barOf h_i h_l (by decide)) ?_
      rintro r w' ⟨rfl, rfl⟩
      refine ab_goto 29 dX11_greatestOf_25 (by decide) ?_
      refine ab_istore_n (la' := [(2, .int (Ba q4 a1)), (3, .int 1), (0, .ref 1000), (1, .int a1)]) dX11_greatestOf_29 (by decide) rfl ?_
      refine ab_iinc (v := 2) (la' := [(3, .int 2), (2, .int (Ba q4 a1)), (0, .ref 1000), (1, .int a1)]) dX11_greatestOf_30 rfl (by decide) (by decide) rfl ?_
      refine ab_goto 4 dX11_greatestOf_33 (by decide) ?_
      refine ab_iload_n dX11_greatestOf_4 rfl ?_
      refine ab_iconst (v := 4) dX11_greatestOf_5 (by decide) ?_
      refine ab_icmpge 36 dX11_greatestOf_6 (by decide) (fun h_37 => absurd h_37 (by decide)) (fun h_37 => ?_)
      refine ab_aload_n dX11_greatestOf_9 rfl ?_
      refine ab_iload_n dX11_greatestOf_10 rfl ?_
      refine ab_iload_n dX11_greatestOf_11 rfl ?_
      refine ab_callV (As := [.int a1, .int 2]) (rest := []) dX11_greatestOf_12 mv_X11_barOf ml_X11_252 ⟨by decide, by decide, rfl, rfl, rfl⟩ (by decide) rfl rfl (Nat.le_of_ble_eq_true rfl) rfl (c_X11_barOf h_i h_l (by decide)) ?_
      rintro r w' ⟨rfl, rfl⟩
      refine ab_iload_n dX11_greatestOf_15 rfl ?_
      refine ab_icmple 28 dX11_greatestOf_16 (by decide) (fun h_38 => ?_) (fun h_38 => ?_)
      · refine ab_iload_n dX11_greatestOf_28 rfl ?_
        refine ab_istore_n (la' := [(2, .int (Ba q4 a1)), (3, .int 2), (0, .ref 1000), (1, .int a1)]) dX11_greatestOf_29 (by decide) rfl ?_
        refine ab_iinc (v := 3) (la' := [(3, .int 3), (2, .int (Ba q4 a1)), (0, .ref 1000), (1, .int a1)]) dX11_greatestOf_30 rfl (by decide) (by decide) rfl ?_
        refine ab_goto 4 dX11_greatestOf_33 (by decide) ?_
        refine ab_iload_n dX11_greatestOf_4 rfl ?_
        refine ab_iconst (v := 4) dX11_greatestOf_5 (by decide) ?_
        refine ab_icmpge 36 dX11_greatestOf_6 (by decide) (fun h_39 => absurd h_39 (by decide)) (fun h_39 => ?_)
        refine ab_aload_n dX11_greatestOf_9 rfl ?_
        refine ab_iload_n dX11_greatestOf_10 rfl ?_
        refine ab_iload_n dX11_greatestOf_11 rfl ?_
        refine ab_callV (As := [.int a1, .int 3]) (rest := []) dX11_greatestOf_12 mv_X11_barOf ml_X11_252 ⟨by decide, by decide, rfl, rfl, rfl⟩ (by decide) rfl rfl (Nat.le_of_ble_eq_true rfl) rfl (c_X11_barOf h_i h_l (by decide)) ?_
        rintro r w' ⟨rfl, rfl⟩
        refine ab_iload_n dX11_greatestOf_15 rfl ?_
        refine ab_icmple 28 dX11_greatestOf_16 (by decide) (fun h_40 => ?_) (fun h_40 => ?_)
        · refine ab_iload_n dX11_greatestOf_28 rfl ?_
          refine ab_istore_n (la' := [(2, .int (Ba q4 a1)), (3, .int 3), (0, .ref 1000), (1, .int a1)]) dX11_greatestOf_29 (by decide) rfl ?_
          refine ab_iinc (v := 4) (la' := [(3, .int 4), (2, .int (Ba q4 a1)), (0, .ref 1000), (1, .int a1)]) dX11_greatestOf_30 rfl (by decide) (by decide) rfl ?_
          refine ab_goto 4 dX11_greatestOf_33 (by decide) ?_
          refine ab_iload_n dX11_greatestOf_4 rfl ?_
          refine ab_iconst (v := 4) dX11_greatestOf_5 (by decide) ?_
          refine ab_icmpge 36 dX11_greatestOf_6 (by decide) (fun h_41 => ?_) (fun h_41 => absurd (by decide) h_41)
          refine ab_iload_n dX11_greatestOf_36 rfl ?_
          exact ab_iret dX11_greatestOf_37 rfl (by decide) (⟨by rw [Mk_max, if_neg (show ¬ (Bg q4 a1) ≤ 0 from h_2), if_neg (show ¬ (Ba q4 a1) ≤ (Bg q4 a1) from h_26), if_pos (show (Bb q4 a1) ≤ (Ba q4 a1) from h_38), if_pos (show (Bc q4 a1) ≤ (Ba q4 a1) from h_40)], rfl⟩)
        · refine ab_aload_n dX11_greatestOf_19 rfl ?_
          refine ab_iload_n dX11_greatestOf_20 rfl ?_
          refine ab_iload_n dX11_greatestOf_21 rfl ?_
          refine ab_callV (As := [.int a1, .int 3]) (rest := []) dX11_greatestOf_22 mv_X11_barOf ml_X11_252 ⟨by decide, by decide, rfl, rfl, rfl⟩ (by decide) rfl rfl (Nat.le_of_ble_eq_true rfl) rfl (c_X11_barOf h_i h_l (by decide)) ?_
          rintro r w' ⟨rfl, rfl⟩
          refine ab_goto 29 dX11_greatestOf_25 (by decide) ?_
          refine ab_istore_n (la' := [(2, .int (Bc q4 a1)), (3, .int 3), (0, .ref 1000), (1, .int a1)]) dX11_greatestOf_29 (by decide) rfl ?_
          refine ab_iinc (v := 4) (la' := [(3, .int 4), (2, .int (Bc q4 a1)), (0, .ref 1000), (1, .int a1)]) dX11_greatestOf_30 rfl (by decide) (by decide) rfl ?_
          refine ab_goto 4 dX11_greatestOf_33 (by decide) ?_
          refine ab_iload_n dX11_greatestOf_4 rfl ?_
          refine ab_iconst (v := 4) dX11_greatestOf_5 (by decide) ?_
          refine ab_icmpge 36 dX11_greatestOf_6 (by decide) (fun h_42 => ?_) (fun h_42 => absurd (by decide) h_42)
          refine ab_iload_n dX11_greatestOf_36 rfl ?_
          exact ab_iret dX11_greatestOf_37 rfl (by decide) (⟨by rw [Mk_max, if_neg (show ¬ (Bg q4 a1) ≤ 0 from h_2), if_neg (show ¬ (Ba q4 a1) ≤ (Bg q4 a1) from h_26), if_pos (show (Bb q4 a1) ≤ (Ba q4 a1) from h_38), if_neg (show ¬ (Bc q4 a1) ≤ (Ba q4 a1) from h_40)], rfl⟩)
      · refine ab_aload_n dX11_greatestOf_19 rfl ?_
        refine ab_iload_n dX11_greatestOf_20 rfl ?_
        refine ab_iload_n dX11_greatestOf_21 rfl ?_
        refine ab_callV (As := [.int a1, .int 2]) (rest := []) dX11_greatestOf_22 mv_X11_barOf ml_X11_252 ⟨by decide, by decide, rfl, rfl, rfl⟩ (by decide) rfl rfl (Nat.le_of_ble_eq_true rfl) rfl (c_X11_barOf h_i h_l (by decide)) ?_
        rintro r w' ⟨rfl, rfl⟩
        refine ab_goto 29 dX11_greatestOf_25 (by decide) ?_
        refine ab_istore_n (la' := [(2, .int (Bb q4 a1)), (3, .int 2), (0, .ref 1000), (1, .int a1)]) dX11_greatestOf_29 (by decide) rfl ?_
        refine ab_iinc (v := 3) (la' := [(3, .int 3), (2, .int (Bb q4 a1)), (0, .ref 1000), (1, .int a1)]) dX11_greatestOf_30 rfl (by decide) (by decide) rfl ?_
        refine ab_goto 4 dX11_greatestOf_33 (by decide) ?_
        refine ab_iload_n dX11_greatestOf_4 rfl ?_
        refine ab_iconst (v := 4) dX11_greatestOf_5 (by decide) ?_
        refine ab_icmpge 36 dX11_greatestOf_6 (by decide) (fun h_43 => absurd h_43 (by decide)) (fun h_43 => ?_)
        refine ab_aload_n dX11_greatestOf_9 rfl ?_
        refine ab_iload_n dX11_greatestOf_10 rfl ?_
        refine ab_iload_n dX11_greatestOf_11 rfl ?_
        refine ab_callV (As := [.int a1, .int 3]) (rest := []) dX11_greatestOf_12 mv_X11_barOf ml_X11_252 ⟨by decide, by decide, rfl, rfl, rfl⟩ (by decide) rfl rfl (Nat.le_of_ble_eq_true rfl) rfl (c_X11_barOf h_i h_l (by decide)) ?_
        rintro r w' ⟨rfl, rfl⟩
        refine ab_iload_n dX11_greatestOf_15 rfl ?_
        refine ab_icmple 28 dX11_greatestOf_16 (by decide) (fun h_44 => ?_) (fun h_44 => ?_)
        · refine ab_iload_n dX11_greatestOf_28 rfl ?_
          refine ab_istore_n (la' := [(2, .int (Bb q4 a1)), (3, .int 3), (0, .ref 1000), (1, .int a1)]) dX11_greatestOf_29 (by decide) rfl ?_
          refine ab_iinc (v := 4) (la' := [(3, .int 4), (2, .int (Bb q4 a1)), (0, .ref 1000), (1, .int a1)]) dX11_greatestOf_30 rfl (by decide) (by decide) rfl ?_
          refine ab_goto 4 dX11_greatestOf_33 (by decide) ?_
          refine ab_iload_n dX11_greatestOf_4 rfl ?_
          refine ab_iconst (v := 4) dX11_greatestOf_5 (by decide) ?_
          refine ab_icmpge 36 dX11_greatestOf_6 (by decide) (fun h_45 => ?_) (fun h_45 => absurd (by decide) h_45)
          refine ab_iload_n dX11_greatestOf_36 rfl ?_
          exact ab_iret dX11_greatestOf_37 rfl (by decide) (⟨by rw [Mk_max, if_neg (show ¬ (Bg q4 a1) ≤ 0 from h_2), if_neg (show ¬ (Ba q4 a1) ≤ (Bg q4 a1) from h_26), if_neg (show ¬ (Bb q4 a1) ≤ (Ba q4 a1) from h_38), if_pos (show (Bc q4 a1) ≤ (Bb q4 a1) from h_44)], rfl⟩)
        · refine ab_aload_n dX11_greatestOf_19 rfl ?_
          refine ab_iload_n dX11_greatestOf_20 rfl ?_
          refine ab_iload_n dX11_greatestOf_21 rfl ?_
          refine ab_callV (As := [.int a1, .int 3]) (rest := []) dX11_greatestOf_22 mv_X11_barOf ml_X11_252 ⟨by decide, by decide, rfl, rfl, rfl⟩ (by decide) rfl rfl (Nat.le_of_ble_eq_true rfl) rfl (c_X11_barOf h_i h_l (by decide)) ?_
          rintro r w' ⟨rfl, rfl⟩
          refine ab_goto 29 dX11_greatestOf_25 (by decide) ?_
          refine ab_istore_n (la' := [(2, .int (Bc q4 a1)), (3, .int 3), (0, .ref 1000), (1, .int a1)]) dX11_greatestOf_29 (by decide) rfl ?_
          refine ab_iinc (v := 4) (la' := [(3, .int 4), (2, .int (Bc q4 a1)), (0, .ref 1000), (1, .int a1)]) dX11_greatestOf_30 rfl (by decide) (by decide) rfl ?_
          refine ab_goto 4 dX11_greatestOf_33 (by decide) ?_
          refine ab_iload_n dX11_greatestOf_4 rfl ?_
          refine ab_iconst (v := 4) dX11_greatestOf_5 (by decide) ?_
          refine ab_icmpge 36 dX11_greatestOf_6 (by decide) (fun h_46 => ?_) (fun h_46 => absurd (by decide) h_46)
          refine ab_iload_n dX11_greatestOf_36 rfl ?_
          exact ab_iret dX11_greatestOf_37 rfl (by decide) (⟨by rw [Mk_max, if_neg (show ¬ (Bg q4 a1) ≤ 0 from h_2), if_neg (show ¬ (Ba q4 a1) ≤ (Bg q4 a1) from h_26), if_neg (show ¬ (Bb q4 a1) ≤ (Ba q4 a1) from h_38), if_neg (show ¬ (Bc q4 a1) ≤ (Bb q4 a1) from h_44)], rfl⟩)
def Mk_all (q4 : Nat → Int32) (a1 : Int32) : Int32 := ((((Bg q4 a1) + (Ba q4 a1)) + (Bb q4 a1)) + (Bc q4 a1))
theorem c_X11_all {wc : List ax_E} {m_thrown m_trouble m_fault m_where m_taped m_linkMany m_tracerMany m_pointMany m_pairMany m_readLinks m_readTracers m_readPoints m_readPairs m_textLong m_at m_spot m_token m_whole m_readFault m_readPlace m_value m_curveMany m_cornerMany m_straightAt m_walkLink m_walkAngle m_walkBranch m_walkMany m_lined m_actMany a1 : Int32} {m_n m_c m_d m_s m_e m_k m_x m_y m_g m_a m_fitUp m_fitDown m_worstUp m_worstDown : Int64} {z1 z2 z3 z5 z6 z7 z8 z9 z10 z11 z12 z13 z14 z15 z16 z17 z18 z19 z20 : ax_E} {q4 : Nat → Int32} (h_i : 0 ≤ a1 ∧ a1 < m_linkMany) (h_l : 0 ≤ m_linkMany ∧ m_linkMany ≤ nI 4) : Ct M_X11_all [.ref 1000, .int a1] (wc, [ob 9 [.int m_thrown, .int m_trouble, .int m_fault, .int m_where, .ref 1001, .ref 1002, .int 40, .ref 1003, .int m_taped, .int m_linkMany, .int m_tracerMany, .int m_pointMany, .int m_pairMany, .ref 1004, .ref 1005, .ref 1006, .ref 1007, .int m_readLinks, .int m_readTracers, .int m_readPoints, .int m_readPairs, .ref 1008, .ref 1009, .ref 1010, .ref 1011, .int m_textLong, .int m_at, .int m_spot, .int m_token, .int m_whole, .int m_readFault, .int m_readPlace, .int m_value, .long m_n, .long m_c, .long m_d, .long m_s, .long m_e, .long m_k, .long m_x, .long m_y, .long m_g, .long m_a, .ref 1012, .ref 1013, .ref 1014, .int m_curveMany, .ref 1015, .int m_cornerMany, .int m_straightAt, .ref 1016, .long m_fitUp, .long m_fitDown, .long m_worstUp, .long m_worstDown, .ref 1017, .int m_walkLink, .int m_walkAngle, .int m_walkBranch, .int m_walkMany, .ref 1018, .ref 1019, .int m_lined, .ref 1020, .int m_actMany], z1, z2, z3, ia 16 q4, z5, z6, z7, z8, z9, z10, z11, z12, z13, z14, z15, z16, z17, z18, z19, z20]) (fun r w' => r = some (.int (Mk_all q4 a1)) ∧ w' = (wc, [ob 9 [.int m_thrown, .int m_trouble, .int m_fault, .int m_where, .ref 1001, .ref 1002, .int 40, .ref 1003, .int m_taped, .int m_linkMany, .int m_tracerMany, .int m_pointMany, .int m_pairMany, .ref 1004, .ref 1005, .ref 1006, .ref 1007, .int m_readLinks, .int m_readTracers, .int m_readPoints, .int m_readPairs, .ref 1008, .ref 1009, .ref 1010, .ref 1011, .int m_textLong, .int m_at, .int m_spot, .int m_token, .int m_whole, .int m_readFault, .int m_readPlace, .int m_value, .long m_n, .long m_c, .long m_d, .long m_s, .long m_e, .long m_k, .long m_x, .long m_y, .long m_g, .long m_a, .ref 1012, .ref 1013, .ref 1014, .int m_curveMany, .ref 1015, .int m_cornerMany, .int m_straightAt, .ref 1016, .long m_fitUp, .long m_fitDown, .long m_worstUp, .long m_worstDown, .ref 1017, .int m_walkLink, .int m_walkAngle, .int m_walkBranch, .int m_walkMany, .ref 1018, .ref 1019, .int m_lined, .ref 1020, .int m_actMany], z1, z2, z3, ia 16 q4, z5, z6, z7, z8, z9, z10, z11, z12, z13, z14, z15, z16, z17, z18, z19, z20])) := by
  refine ct_of ⟨by decide, rfl⟩ (Nat.le_of_ble_eq_true rfl) ?_
  refine ab_aload_n dX11_all_0 rfl ?_
  refine ab_iload_n dX11_all_1 rfl ?_
  refine ab_iconst (v := 0) dX11_all_2 (by decide) ?_
  refine ab_callV (As := [.int a1, .int 0]) (rest := []) dX11_all_3 mv_X11_barOf ml_X11_252 ⟨by decide, by decide, rfl, rfl, rfl⟩ (by decide) rfl rfl (Nat.le_of_ble_eq_true rfl) rfl (c_X11_barOf h_i h_l (by decide)) ?_
  rintro r w' ⟨rfl, rfl⟩
  refine ab_aload_n dX11_all_6 rfl ?_
  refine ab_iload_n dX11_all_7 rfl ?_
  refine ab_iconst (v := 1) dX11_all_8 (by decide) ?_
  refine ab_callV (As := [.int a1, .int 1]) (rest := [.int (Bg q4 a1)]) dX11_all_9 mv_X11_barOf ml_X11_252 ⟨by decide, by decide, rfl, rfl, rfl⟩ (by decide) rfl rfl (Nat.le_of_ble_eq_true rfl) rfl (c_X11_barOf h_i h_l (by decide)) ?_
  rintro r w' ⟨rfl, rfl⟩
  refine ab_iadd dX11_all_12 ?_
  refine ab_aload_n dX11_all_13 rfl ?_
  refine ab_iload_n dX11_all_14 rfl ?_
  refine ab_iconst (v := 2) dX11_all_15 (by decide) ?_
  refine ab_callV (As := [.int a1, .int 2]) (rest := [.int ((Bg q4 a1) + (Ba q4 a1))]) dX11_all_16 mv_X11_barOf ml_X11_252 ⟨by decide, by decide, rfl, rfl, rfl⟩ (by decide) rfl rfl (Nat.le_of_ble_eq_true rfl) rfl (c_X11_barOf h_i h_l (by decide)) ?_
  rintro r w' ⟨rfl, rfl⟩
  refine ab_iadd dX11_all_19 ?_
  refine ab_aload_n dX11_all_20 rfl ?_
  refine ab_iload_n dX11_all_21 rfl ?_
  refine ab_iconst (v := 3) dX11_all_22 (by decide) ?_
  refine ab_callV (As := [.int a1, .int 3]) (rest := [.int (((Bg q4 a1) + (Ba q4 a1)) + (Bb q4 a1))]) dX11_all_23 mv_X11_barOf ml_X11_252 ⟨by decide, by decide, rfl, rfl, rfl⟩ (by decide) rfl rfl (Nat.le_of_ble_eq_true rfl) rfl (c_X11_barOf h_i h_l (by decide)) ?_
  rintro r w' ⟨rfl, rfl⟩
  refine ab_iadd dX11_all_26 ?_
  exact ab_iret dX11_all_27 rfl (by decide) (⟨rfl, rfl⟩)
