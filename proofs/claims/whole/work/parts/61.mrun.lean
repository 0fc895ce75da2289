abbrev XcM (q12 q13 : Nat → Int32) (c one other : Nat) : Prop := ¬ one = other ∧ ¬ one = nxc c other ∧ ¬ nxc c one = other ∧ ¬ nxc c one = nxc c other ∧ Sg3 (Cv_bend q12 q13 one (nxc c one) other) * Sg3 (Cv_bend q12 q13 one (nxc c one) (nxc c other)) < 0 ∧ Sg3 (Cv_bend q12 q13 other (nxc c other) one) * Sg3 (Cv_bend q12 q13 other (nxc c other) (nxc c one)) < 0
theorem c_X11_isCrossing_b {wc : List ax_E} {m_thrown m_trouble m_fault m_where m_taped m_linkMany m_tracerMany m_pointMany m_pairMany m_readLinks m_readTracers m_readPoints m_readPairs m_textLong m_at m_spot m_token m_whole m_readFault m_readPlace m_value m_cornerMany m_straightAt m_walkLink m_walkAngle m_walkBranch m_walkMany m_lined m_actMany : Int32} {m_n m_c m_d m_s m_e m_k m_x m_y m_g m_a m_fitUp m_fitDown m_worstUp m_worstDown : Int64} {z1 z2 z3 z4 z5 z6 z7 z8 z9 z10 z11 z14 z15 z16 z17 z18 z19 z20 : ax_E} {q12 q13 : Nat → Int32} {c one other : Nat} (hc : c ≤ 40) (h1 : one < c) (h2 : other < c) : Ct M_X11_isCrossing [.ref 1000, .int (nI one), .int (nI other)] (wc, [ob 9 [.int m_thrown, .int m_trouble, .int m_fault, .int m_where, .ref 1001, .ref 1002, .int 40, .ref 1003, .int m_taped, .int m_linkMany, .int m_tracerMany, .int m_pointMany, .int m_pairMany, .ref 1004, .ref 1005, .ref 1006, .ref 1007, .int m_readLinks, .int m_readTracers, .int m_readPoints, .int m_readPairs, .ref 1008, .ref 1009, .ref 1010, .ref 1011, .int m_textLong, .int m_at, .int m_spot, .int m_token, .int m_whole, .int m_readFault, .int m_readPlace, .int m_value, .long m_n, .long m_c, .long m_d, .long m_s, .long m_e, .long m_k, .long m_x, .long m_y, .long m_g, .long m_a, .ref 1012, .ref 1013, .ref 1014, .int (nI c), .ref 1015, .int m_cornerMany, .int m_straightAt, .ref 1016, .long m_fitUp, .long m_fitDown, .long m_worstUp, .long m_worstDown, .ref 1017, .int m_walkLink, .int m_walkAngle, .int m_walkBranch, .int m_walkMany, .ref 1018, .ref 1019, .int m_lined, .ref 1020, .int m_actMany], z1, z2, z3, z4, z5, z6, z7, z8, z9, z10, z11, ia 64 q12, ia 64 q13, z14, z15, z16, z17, z18, z19, z20]) (fun r w' => ((XcM q12 q13 c one other) ∧ r = some (.int 1) ∧ w' = (wc, [ob 9 [.int m_thrown, .int m_trouble, .int m_fault, .int m_where, .ref 1001, .ref 1002, .int 40, .ref 1003, .int m_taped, .int m_linkMany, .int m_tracerMany, .int m_pointMany, .int m_pairMany, .ref 1004, .ref 1005, .ref 1006, .ref 1007, .int m_readLinks, .int m_readTracers, .int m_readPoints, .int m_readPairs, .ref 1008, .ref 1009, .ref 1010, .ref 1011, .int m_textLong, .int m_at, .int m_spot, .int m_token, .int m_whole, .int m_readFault, .int m_readPlace, .int m_value, .long m_n, .long m_c, .long m_d, .long m_s, .long m_e, .long m_k, .long m_x, .long m_y, .long m_g, .long m_a, .ref 1012, .ref 1013, .ref 1014, .int (nI c), .ref 1015, .int m_cornerMany, .int m_straightAt, .ref 1016, .long m_fitUp, .long m_fitDown, .long m_worstUp, .long m_worstDown, .ref 1017, .int m_walkLink, .int m_walkAngle, .int m_walkBranch, .int m_walkMany, .ref 1018, .ref 1019, .int m_lined, .ref 1020, .int m_actMany], z1, z2, z3, z4, z5, z6, z7, z8, z9, z10, z11, ia 64 q12, ia 64 q13, z14, z15, z16, z17, z18, z19, z20])) ∨ ((¬ (XcM q12 q13 c one other)) ∧ r = some (.int 0) ∧ w' = (wc, [ob 9 [.int m_thrown, .int m_trouble, .int m_fault, .int m_where, .ref 1001, .ref 1002, .int 40, .ref 1003, .int m_taped, .int m_linkMany, .int m_tracerMany, .int m_pointMany, .int m_pairMany, .ref 1004, .ref 1005, .ref 1006, .ref 1007, .int m_readLinks, .int m_readTracers, .int m_readPoints, .int m_readPairs, .ref 1008, .ref 1009, .ref 1010, .ref 1011, .int m_textLong, .int m_at, .int m_spot, .int m_token, .int m_whole, .int m_readFault, .int m_readPlace, .int m_value, .long m_n, .long m_c, .long m_d, .long m_s, .long m_e, .long m_k, .long m_x, .long m_y, .long m_g, .long m_a, .ref 1012, .ref 1013, .ref 1014, .int (nI c), .ref 1015, .int m_cornerMany, .int m_straightAt, .ref 1016, .long m_fitUp, .long m_fitDown, .long m_worstUp, .long m_worstDown, .ref 1017, .int m_walkLink, .int m_walkAngle, .int m_walkBranch, .int m_walkMany, .ref 1018, .ref 1019, .int m_lined, .ref 1020, .int m_actMany], z1, z2, z3, z4, z5, z6, z7, z8, z9, z10, z11, ia 64 q12, ia 64 q13, z14, z15, z16, z17, z18, z19, z20]))) := c_X11_isCrossing hc h1 h2
def lp_mcrI_st (q12 : Nat → Int32) (q13 : Nat → Int32) (c : Nat) (j : Nat) (k : Nat) (s : Int32) : Int32 := (if XcM q12 q13 c j k then (s + 1) else (s + 0))
set_option maxHeartbeats 400000 in
theorem lp_mcrI {wc : List ax_E} {m_thrown m_trouble m_fault m_where m_taped m_linkMany m_tracerMany m_pointMany m_pairMany m_readLinks m_readTracers m_readPoints m_readPairs m_textLong m_at m_spot m_token m_whole m_readFault m_readPlace m_value m_cornerMany m_straightAt m_walkLink m_walkAngle m_walkBranch m_walkMany m_lined m_actMany a3 a2 a1 : Int32} {m_fitUp m_fitDown m_worstUp m_worstDown : Int64} {z3 z6 z7 z8 z9 z10 z11 z15 z16 z17 z18 z19 z20 : ax_E} {q4 q5 q12 q13 q14 : Nat → Int32} {c j : Nat} {Q : Option Value → ax_W → Prop} (hc : c ≤ 40) (hj : j < c) : ∀ (n k : Nat) (s : Int32) (gm : Nat → Int64), k + n = j → (∀ (gm : Nat → Int64), Ab M_X11_crossings Q (0, 0) 79 [(6, .int (nI j)), (5, .int (nI j)), (4, .int (itr (lp_mcrI_st q12 q13 c j) n k s)), (3, .int a3), (2, .int a2), (1, .int a1), (0, .ref 1000)] [] (wc, [ob 9 [.int m_thrown, .int m_trouble, .int m_fault, .int m_where, .ref 1001, .ref 1002, .int 40, .ref 1003, .int m_taped, .int m_linkMany, .int m_tracerMany, .int m_pointMany, .int m_pairMany, .ref 1004, .ref 1005, .ref 1006, .ref 1007, .int m_readLinks, .int m_readTracers, .int m_readPoints, .int m_readPairs, .ref 1008, .ref 1009, .ref 1010, .ref 1011, .int m_textLong, .int m_at, .int m_spot, .int m_token, .int m_whole, .int m_readFault, .int m_readPlace, .int m_value, .long (gm 33), .long (gm 34), .long (gm 35), .long (gm 36), .long (gm 37), .long (gm 38), .long (gm 39), .long (gm 40), .long (gm 41), .long (gm 42), .ref 1012, .ref 1013, .ref 1014, .int (nI c), .ref 1015, .int m_cornerMany, .int m_straightAt, .ref 1016, .long m_fitUp, .long m_fitDown, .long m_worstUp, .long m_worstDown, .ref 1017, .int m_walkLink, .int m_walkAngle, .int m_walkBranch, .int m_walkMany, .ref 1018, .ref 1019, .int m_lined, .ref 1020, .int m_actMany], ia 64 (ax_tab 0), ia 64 (ax_tab 1), z3, ia 16 q4, ia 8 q5, z6, z7, z8, z9, z10, z11, ia 64 q12, ia 64 q13, ia 64 q14, z15, z16, z17, z18, z19, z20])) → Ab M_X11_crossings Q (0, 0) 45 [(6, .int (nI k)), (5, .int (nI j)), (4, .int s), (3, .int a3), (2, .int a2), (1, .int a1), (0, .ref 1000)] [] (wc, [ob 9 [.int m_thrown, .int m_trouble, .int m_fault, .int m_where, .ref 1001, .ref 1002, .int 40, .ref 1003, .int m_taped, .int m_linkMany, .int m_tracerMany, .int m_pointMany, .int m_pairMany, .ref 1004, .ref 1005, .ref 1006, .ref 1007, .int m_readLinks, .int m_readTracers, .int m_readPoints, .int m_readPairs, .ref 1008, .ref 1009, .ref 1010, .ref 1011, .int m_textLong, .int m_at, .int m_spot, .int m_token, .int m_whole, .int m_readFault, .int m_readPlace, .int m_value, .long (gm 33), .long (gm 34), .long (gm 35), .long (gm 36), .long (gm 37), .long (gm 38), .long (gm 39), .long (gm 40), .long (gm 41), .long (gm 42), .ref 1012, .ref 1013, .ref 1014, .int (nI c), .ref 1015, .int m_cornerMany, .int m_straightAt, .ref 1016, .long m_fitUp, .long m_fitDown, .long m_worstUp, .long m_worstDown, .ref 1017, .int m_walkLink, .int m_walkAngle, .int m_walkBranch, .int m_walkMany, .ref 1018, .ref 1019, .int m_lined, .ref 1020, .int m_actMany], ia 64 (ax_tab 0), ia 64 (ax_tab 1), z3, ia 16 q4, ia 8 q5, z6, z7, z8, z9, z10, z11, ia 64 q12, ia 64 q13, ia 64 q14, z15, z16, z17, z18, z19, z20]) := by
  intro n
  induction n with
  | zero =>
    intro k s gm hk hx
    rw [itr_0] at hx
    rw [show k = j by omega]
    refine ab_iload dX11_crossings_45 rfl ?_
    refine ab_iload dX11_crossings_47 rfl ?_
    refine ab_icmpge 79 dX11_crossings_49 (by decide) (fun h_1 => ?_) (fun h_1 => absurd (nI_le (b := j) (Nat.le_refl _) (by omega)) h_1)
    refine ab_pick [0, 1, 2, 3, 4, 5, 6] rfl ?_
    exact hx gm
  | succ n ih =>
    intro k s gm hk hx
    refine ab_iload dX11_crossings_45 rfl ?_
    refine ab_iload dX11_crossings_47 rfl ?_
    refine ab_icmpge 79 dX11_crossings_49 (by decide) (fun h_1 => absurd h_1 (nI_ge (a := k) (b := j) (by omega) (by omega))) (fun h_1 => ?_)
    refine ab_iload dX11_crossings_52 rfl ?_
    refine ab_aload_n dX11_crossings_54 rfl ?_
    refine ab_iload dX11_crossings_55 rfl ?_
    refine ab_iload dX11_crossings_57 rfl ?_
    refine ab_callV (As := [.int (nI j), .int (nI k)]) (rest := [.int s]) dX11_crossings_59 mv_X11_isCrossing ml_X11_437 ⟨by decide, by decide, rfl, rfl, rfl⟩ (by decide) rfl rfl (Nat.le_of_ble_eq_true rfl) rfl (c_X11_isCrossing_b (c := c) (one := j) (other := k) hc (by omega) (by omega)) ?_
    rintro r w' (⟨c_2, rfl, rfl⟩ | ⟨c_3, rfl, rfl⟩)
    · refine ab_ifeq 69 dX11_crossings_62 (by decide) (fun h_4 => absurd h_4 (by decide)) (fun h_4 => ?_)
      refine ab_iconst (v := 1) dX11_crossings_65 (by decide) ?_
      refine ab_goto 70 dX11_crossings_66 (by decide) ?_
      refine ab_iadd dX11_crossings_70 ?_
      refine ab_istore (la' := [(4, .int (s + 1)), (6, .int (nI k)), (5, .int (nI j)), (3, .int a3), (2, .int a2), (1, .int a1), (0, .ref 1000)]) dX11_crossings_71 (by decide) rfl ?_
      refine ab_iinc (v := (nI (k + 1))) (la' := [(6, .int (nI (k + 1))), (4, .int (s + 1)), (5, .int (nI j)), (3, .int a3), (2, .int a2), (1, .int a1), (0, .ref 1000)]) dX11_crossings_73 rfl (nI_1 _) (by decide) rfl ?_
      refine ab_goto 45 dX11_crossings_76 (by decide) ?_
      refine ab_pick [0, 2, 1, 3, 4, 5, 6] rfl ?_
      rw [(itr_s (lp_mcrI_st q12 q13 c j) n k s).trans (congrArg (itr (lp_mcrI_st q12 q13 c j) n (k + 1)) (show lp_mcrI_st q12 q13 c j k s = (s + 1) from by rw [lp_mcrI_st, if_pos (show XcM q12 q13 c j k from c_2)]))] at hx
      exact ih (k + 1) (s + 1) (fun i => [(gm 33), (gm 34), (gm 35), (gm 36), (gm 37), (gm 38), (gm 39), (gm 40), (gm 41), (gm 42)].getD (i - 33) 0) (by omega) hx
    · refine ab_ifeq 69 dX11_crossings_62 (by decide) (fun h_5 => ?_) (fun h_5 => absurd (by decide) h_5)
      refine ab_iconst (v := 0) dX11_crossings_69 (by decide) ?_
      refine ab_iadd dX11_crossings_70 ?_
      refine ab_istore (la' := [(4, .int (s + 0)), (6, .int (nI k)), (5, .int (nI j)), (3, .int a3), (2, .int a2), (1, .int a1), (0, .ref 1000)]) dX11_crossings_71 (by decide) rfl ?_
      refine ab_iinc (v := (nI (k + 1))) (la' := [(6, .int (nI (k + 1))), (4, .int (s + 0)), (5, .int (nI j)), (3, .int a3), (2, .int a2), (1, .int a1), (0, .ref 1000)]) dX11_crossings_73 rfl (nI_1 _) (by decide) rfl ?_
      refine ab_goto 45 dX11_crossings_76 (by decide) ?_
      refine ab_pick [0, 2, 1, 3, 4, 5, 6] rfl ?_
      rw [(itr_s (lp_mcrI_st q12 q13 c j) n k s).trans (congrArg (itr (lp_mcrI_st q12 q13 c j) n (k + 1)) (show lp_mcrI_st q12 q13 c j k s = (s + 0) from by rw [lp_mcrI_st, if_neg (show ¬ (XcM q12 q13 c j k) from c_3)]))] at hx
      exact ih (k + 1) (s + 0) (fun i => [(gm 33), (gm 34), (gm 35), (gm 36), (gm 37), (gm 38), (gm 39), (gm 40), (gm 41), (gm 42)].getD (i - 33) 0) (by omega) hx
def lp_mcrO_st (q12 : Nat → Int32) (q13 : Nat → Int32) (c : Nat) (j : Nat) (s : Int32) : Int32 := (itr (lp_mcrI_st q12 q13 c j) j 0 s)
set_option maxHeartbeats 400000 in
theorem lp_mcrO {wc : List ax_E} {m_thrown m_trouble m_fault m_where m_taped m_linkMany m_tracerMany m_pointMany m_pairMany m_readLinks m_readTracers m_readPoints m_readPairs m_textLong m_at m_spot m_token m_whole m_readFault m_readPlace m_value m_cornerMany m_straightAt m_walkLink m_walkAngle m_walkBranch m_walkMany m_lined m_actMany a3 a2 a1 : Int32} {m_fitUp m_fitDown m_worstUp m_worstDown : Int64} {z3 z6 z7 z8 z9 z10 z11 z15 z16 z17 z18 z19 z20 : ax_E} {q4 q5 q12 q13 q14 : Nat → Int32} {c : Nat} {Q : Option Value → ax_W → Prop} (hc : c ≤ 40) : ∀ (n j : Nat) (s : Int32) (gm : Nat → Int64), j + n = c → (∀ (gm : Nat → Int64), Ab M_X11_crossings Q (0, 0) 85 [(5, .int (nI c)), (4, .int (itr (lp_mcrO_st q12 q13 c) n j s)), (3, .int a3), (2, .int a2), (1, .int a1), (0, .ref 1000)] [] (wc, [ob 9 [.int m_thrown, .int m_trouble, .int m_fault, .int m_where, .ref 1001, .ref 1002, .int 40, .ref 1003, .int m_taped, .int m_linkMany, .int m_tracerMany, .int m_pointMany, .int m_pairMany, .ref 1004, .ref 1005, .ref 1006, .ref 1007, .int m_readLinks, .int m_readTracers, .int m_readPoints, .int m_readPairs, .ref 1008, .ref 1009, .ref 1010, .ref 1011, .int m_textLong, .int m_at, .int m_spot, .int m_token, .int m_whole, .int m_readFault, .int m_readPlace, .int m_value, .long (gm 33), .long (gm 34), .long (gm 35), .long (gm 36), .long (gm 37), .long (gm 38), .long (gm 39), .long (gm 40), .long (gm 41), .long (gm 42), .ref 1012, .ref 1013, .ref 1014, .int (nI c), .ref 1015, .int m_cornerMany, .int m_straightAt, .ref 1016, .long m_fitUp, .long m_fitDown, .long m_worstUp, .long m_worstDown, .ref 1017, .int m_walkLink, .int m_walkAngle, .int m_walkBranch, .int m_walkMany, .ref 1018, .ref 1019, .int m_lined, .ref 1020, .int m_actMany], ia 64 (ax_tab 0), ia 64 (ax_tab 1), z3, ia 16 q4, ia 8 q5, z6, z7, z8, z9, z10, z11, ia 64 q12, ia 64 q13, ia 64 q14, z15, z16, z17, z18, z19, z20])) → Ab M_X11_crossings Q (0, 0) 33 [(5, .int (nI j)), (4, .int s), (3, .int a3), (2, .int a2), (1, .int a1), (0, .ref 1000)] [] (wc, [ob 9 [.int m_thrown, .int m_trouble, .int m_fault, .int m_where, .ref 1001, .ref 1002, .int 40, .ref 1003, .int m_taped, .int m_linkMany, .int m_tracerMany, .int m_pointMany, .int m_pairMany, .ref 1004, .ref 1005, .ref 1006, .ref 1007, .int m_readLinks, .int m_readTracers, .int m_readPoints, .int m_readPairs, .ref 1008, .ref 1009, .ref 1010, .ref 1011, .int m_textLong, .int m_at, .int m_spot, .int m_token, .int m_whole, .int m_readFault, .int m_readPlace, .int m_value, .long (gm 33), .long (gm 34), .long (gm 35), .long (gm 36), .long (gm 37), .long (gm 38), .long (gm 39), .long (gm 40), .long (gm 41), .long (gm 42), .ref 1012, .ref 1013, .ref 1014, .int (nI c), .ref 1015, .int m_cornerMany, .int m_straightAt, .ref 1016, .long m_fitUp, .long m_fitDown, .long m_worstUp, .long m_worstDown, .ref 1017, .int m_walkLink, .int m_walkAngle, .int m_walkBranch, .int m_walkMany, .ref 1018, .ref 1019, .int m_lined, .ref 1020, .int m_actMany], ia 64 (ax_tab 0), ia 64 (ax_tab 1), z3, ia 16 q4, ia 8 q5, z6, z7, z8, z9, z10, z11, ia 64 q12, ia 64 q13, ia 64 q14, z15, z16, z17, z18, z19, z20]) := by
  intro n
  induction n with
  | zero =>
    intro j s gm hk hx
    rw [itr_0] at hx
    rw [show j = c by omega]
    refine ab_iload dX11_crossings_33 rfl ?_
    refine ab_aload_n dX11_crossings_35 rfl ?_
    refine ab_getf dX11_crossings_36 fl_X11_424 rfl rfl ?_
    refine ab_icmpge 85 dX11_crossings_39 (by decide) (fun h_1 => ?_) (fun h_1 => absurd (nI_le (b := c) (Nat.le_refl _) (by omega)) h_1)
    refine ab_pick [0, 1, 2, 3, 4, 5] rfl ?_
    exact hx gm
  | succ n ih =>
    intro j s gm hk hx
    refine ab_iload dX11_crossings_33 rfl ?_
    refine ab_aload_n dX11_crossings_35 rfl ?_
    refine ab_getf dX11_crossings_36 fl_X11_424 rfl rfl ?_
    refine ab_icmpge 85 dX11_crossings_39 (by decide) (fun h_1 => absurd h_1 (nI_ge (a := j) (b := c) (by omega) (by omega))) (fun h_1 => ?_)
    refine ab_iconst (v := 0) dX11_crossings_42 (by decide) ?_
    refine ab_istore (la' := [(6, .int 0), (5, .int (nI j)), (4, .int s), (3, .int a3), (2, .int a2), (1, .int a1), (0, .ref 1000)]) dX11_crossings_43 (by decide) rfl ?_
    refine ab_pick [0, 1, 2, 3, 4, 5, 6] rfl ?_
    refine lp_mcrI hc (by omega) j 0 s (fun i => [(gm 33), (gm 34), (gm 35), (gm 36), (gm 37), (gm 38), (gm 39), (gm 40), (gm 41), (gm 42)].getD (i - 33) 0) (by omega) ?_
    intro gm_2
    refine ab_iinc (v := (nI (j + 1))) (la' := [(5, .int (nI (j + 1))), (6, .int (nI j)), (4, .int (itr (lp_mcrI_st q12 q13 c j) j 0 s)), (3, .int a3), (2, .int a2), (1, .int a1), (0, .ref 1000)]) dX11_crossings_79 rfl (nI_1 _) (by decide) rfl ?_
    refine ab_goto 33 dX11_crossings_82 (by decide) ?_
    refine ab_pick [0, 2, 3, 4, 5, 6] rfl ?_
    rw [(itr_s (lp_mcrO_st q12 q13 c) n j s).trans (congrArg (itr (lp_mcrO_st q12 q13 c) n (j + 1)) (show lp_mcrO_st q12 q13 c j s = (itr (lp_mcrI_st q12 q13 c j) j 0 s) from rfl))] at hx
    exact ih (j + 1) (itr (lp_mcrI_st q12 q13 c j) j 0 s) (fun i => [(gm_2 33), (gm_2 34), (gm_2 35), (gm_2 36), (gm_2 37), (gm_2 38), (gm_2 39), (gm_2 40), (gm_2 41), (gm_2 42)].getD (i - 33) 0) (by omega) hx
theorem c_X11_crossings {wc : List ax_E} {m_thrown m_trouble m_fault m_where m_taped m_linkMany m_tracerMany m_pointMany m_pairMany m_readLinks m_readTracers m_readPoints m_readPairs m_textLong m_at m_spot m_token m_whole m_readFault m_readPlace m_value m_curveMany m_cornerMany m_straightAt m_walkLink m_walkAngle m_walkBranch m_walkMany m_lined m_actMany a1 a2 a3 : Int32} {m_n m_c m_d m_s m_e m_k m_x m_y m_g m_a m_fitUp m_fitDown m_worstUp m_worstDown : Int64} {z3 z6 z7 z8 z9 z10 z11 z15 z16 z17 z18 z19 z20 : ax_E} {q4 q5 q12 q13 q14 X Y : Nat → Int32} {p : Nat → Bool} (h_l : 0 ≤ m_linkMany ∧ m_linkMany ≤ nI 4) (h_t : 0 ≤ m_tracerMany ∧ m_tracerMany ≤ nI 4) (h_p : ∀ k, p k = true ↔ lawM q4 a1 k) (h_X : ∀ k, k < 40 → lawM q4 a1 k → X k = mX q4 q5 a1 a2 a3 k) (h_Y : ∀ k, k < 40 → lawM q4 a1 k → Y k = mY q4 q5 a1 a2 a3 k) (h_ok : ((0 ≤ a1 ∧ a1 < m_linkMany) ∧ (0 ≤ a2 ∧ a2 < m_tracerMany) ∧ (0 ≤ a3 ∧ a3 < 2)) → ∀ k, k < 40 → lawM q4 a1 k → okS (mV0 q4 q5 a1 a2 a3 k) (Ml_k q4 a1 (nI k)) ∧ okS (mV1 q4 q5 a1 a2 a3 k) (Ml_k q4 a1 (nI k)) ∧ 0 < mWd q4 a1 k) : Ct M_X11_crossings [.ref 1000, .int a1, .int a2, .int a3] (wc, [ob 9 [.int m_thrown, .int m_trouble, .int m_fault, .int m_where, .ref 1001, .ref 1002, .int 40, .ref 1003, .int m_taped, .int m_linkMany, .int m_tracerMany, .int m_pointMany, .int m_pairMany, .ref 1004, .ref 1005, .ref 1006, .ref 1007, .int m_readLinks, .int m_readTracers, .int m_readPoints, .int m_readPairs, .ref 1008, .ref 1009, .ref 1010, .ref 1011, .int m_textLong, .int m_at, .int m_spot, .int m_token, .int m_whole, .int m_readFault, .int m_readPlace, .int m_value, .long m_n, .long m_c, .long m_d, .long m_s, .long m_e, .long m_k, .long m_x, .long m_y, .long m_g, .long m_a, .ref 1012, .ref 1013, .ref 1014, .int m_curveMany, .ref 1015, .int m_cornerMany, .int m_straightAt, .ref 1016, .long m_fitUp, .long m_fitDown, .long m_worstUp, .long m_worstDown, .ref 1017, .int m_walkLink, .int m_walkAngle, .int m_walkBranch, .int m_walkMany, .ref 1018, .ref 1019, .int m_lined, .ref 1020, .int m_actMany], ia 64 (ax_tab 0), ia 64 (ax_tab 1), z3, ia 16 q4, ia 8 q5, z6, z7, z8, z9, z10, z11, ia 64 q12, ia 64 q13, ia 64 q14, z15, z16, z17, z18, z19, z20]) (fun r w' => (∃ gm_4 : Nat → Int64, ∃ gm_5 : Nat → Int64, ((0 ≤ a1 ∧ a1 < m_linkMany) ∧ (0 ≤ a2 ∧ a2 < m_tracerMany) ∧ (0 ≤ a3 ∧ a3 < 2)) ∧ r = some (.int (itr (lp_mcrO_st (crv p X q12 40) (crv p Y q13 40) (Cn p 40)) (Cn p 40) 0 0)) ∧ w' = (wc, [ob 9 [.int 0, .int 0, .int m_fault, .int (-1), .ref 1001, .ref 1002, .int 40, .ref 1003, .int m_taped, .int m_linkMany, .int m_tracerMany, .int m_pointMany, .int m_pairMany, .ref 1004, .ref 1005, .ref 1006, .ref 1007, .int m_readLinks, .int m_readTracers, .int m_readPoints, .int m_readPairs, .ref 1008, .ref 1009, .ref 1010, .ref 1011, .int m_textLong, .int m_at, .int m_spot, .int m_token, .int m_whole, .int m_readFault, .int m_readPlace, .int m_value, .long (gm_5 33), .long (gm_5 34), .long (gm_5 35), .long (gm_5 36), .long (gm_5 37), .long (gm_5 38), .long (gm_5 39), .long (gm_5 40), .long (gm_5 41), .long (gm_5 42), .ref 1012, .ref 1013, .ref 1014, .int (nI (Cn p 40)), .ref 1015, .int m_cornerMany, .int m_straightAt, .ref 1016, .long m_fitUp, .long m_fitDown, .long m_worstUp, .long m_worstDown, .ref 1017, .int m_walkLink, .int m_walkAngle, .int m_walkBranch, .int m_walkMany, .ref 1018, .ref 1019, .int m_lined, .ref 1020, .int m_actMany], ia 64 (ax_tab 0), ia 64 (ax_tab 1), z3, ia 16 q4, ia 8 q5, z6, z7, z8, z9, z10, z11, ia 64 (crv p X q12 40), ia 64 (crv p Y q13 40), ia 64 (crv p nI q14 40), z15, z16, z17, z18, z19, z20])) ∨ ((¬ ((0 ≤ a1 ∧ a1 < m_linkMany) ∧ (0 ≤ a2 ∧ a2 < m_tracerMany) ∧ (0 ≤ a3 ∧ a3 < 2))) ∧ r = some (.int (-1)) ∧ w' = (wc, [ob 9 [.int 0, .int 1, .int m_fault, .int (-1), .ref 1001, .ref 1002, .int 40, .ref 1003, .int m_taped, .int m_linkMany, .int m_tracerMany, .int m_pointMany, .int m_pairMany, .ref 1004, .ref 1005, .ref 1006, .ref 1007, .int m_readLinks, .int m_readTracers, .int m_readPoints, .int m_readPairs, .ref 1008, .ref 1009, .ref 1010, .ref 1011, .int m_textLong, .int m_at, .int m_spot, .int m_token, .int m_whole, .int m_readFault, .int m_readPlace, .int m_value, .long m_n, .long m_c, .long m_d, .long m_s, .long m_e, .long m_k, .long m_x, .long m_y, .long m_g, .long m_a, .ref 1012, .ref 1013, .ref 1014, .int m_curveMany, .ref 1015, .int m_cornerMany, .int m_straightAt, .ref 1016, .long m_fitUp, .long m_fitDown, .long m_worstUp, .long m_worstDown, .ref 1017, .int m_walkLink, .int m_walkAngle, .int m_walkBranch, .int m_walkMany, .ref 1018, .ref 1019, .int m_lined, .ref 1020, .int m_actMany], ia 64 (ax_tab 0), ia 64 (ax_tab 1), z3, ia 16 q4, ia 8 q5, z6, z7, z8, z9, z10, z11, ia 64 q12, ia 64 q13, ia 64 q14, z15, z16, z17, z18, z19, z20]))) := by
  refine ct_of ⟨by decide, rfl⟩ (Nat.le_of_ble_eq_true rfl) ?_
  refine ab_aload_n dX11_crossings_0 rfl ?_
  refine ab_callV (As := []) (rest := []) dX11_crossings_1 mv_X11_anew ml_X11_104 ⟨by decide, by decide, rfl, rfl, rfl⟩ (by decide) rfl rfl (Nat.le_of_ble_eq_true rfl) rfl c_X11_anew ?_
  rintro r w' ⟨rfl, rfl⟩
  refine ab_aload_n dX11_crossings_4 rfl ?_
  refine ab_iload_n dX11_crossings_5 rfl ?_
  refine ab_iload_n dX11_crossings_6 rfl ?_
  refine ab_iload_n dX11_crossings_7 rfl ?_
  refine ab_callV (As := [.int a1, .int a2, .int a3]) (rest := []) dX11_crossings_8 mv_X11_isCurve ml_X11_417 ⟨by decide, by decide, rfl, rfl, rfl⟩ (by decide) rfl rfl (Nat.le_of_ble_eq_true rfl) rfl (c_X11_isCurve h_l h_t) ?_
  rintro r w' (⟨c_1, rfl, rfl⟩ | ⟨c_2, rfl, rfl⟩)
  · refine ab_ifne 20 dX11_crossings_11 (by decide) (fun h_3 => ?_) (fun h_3 => absurd h_3 (by decide))
    refine ab_aload_n dX11_crossings_20 rfl ?_
    refine ab_iload_n dX11_crossings_21 rfl ?_
    refine ab_iload_n dX11_crossings_22 rfl ?_
    refine ab_iload_n dX11_crossings_23 rfl ?_
    refine ab_callV (As := [.int a1, .int a2, .int a3]) (rest := []) dX11_crossings_24 mv_X11_traces ml_X11_427 ⟨by decide, by decide, rfl, rfl, rfl⟩ (by decide) rfl rfl (Nat.le_of_ble_eq_true rfl) rfl (c_X11_traces (p := p) (X := X) (Y := Y) c_1.1 h_l c_1.2.1 h_t h_p h_X h_Y (h_ok c_1)) ?_
    rintro r w' ⟨gm_4, rfl, rfl⟩
    refine ab_iconst (v := 0) dX11_crossings_27 (by decide) ?_
    refine ab_istore (la' := [(4, .int 0), (0, .ref 1000), (1, .int a1), (2, .int a2), (3, .int a3)]) dX11_crossings_28 (by decide) rfl ?_
    refine ab_iconst (v := 0) dX11_crossings_30 (by decide) ?_
    refine ab_istore (la' := [(5, .int 0), (4, .int 0), (0, .ref 1000), (1, .int a1), (2, .int a2), (3, .int a3)]) dX11_crossings_31 (by decide) rfl ?_
    refine ab_pick [0, 1, 5, 4, 3, 2] rfl ?_
    refine lp_mcrO (cn_le p 40) (Cn p 40) 0 0 (fun i => [(gm_4 33), (gm_4 34), (gm_4 35), (gm_4 36), (gm_4 37), (gm_4 38), (gm_4 39), (gm_4 40), (gm_4 41), (gm_4 42)].getD (i - 33) 0) (by omega) ?_
    intro gm_5
    refine ab_iload dX11_crossings_85 rfl ?_
    exact ab_iret dX11_crossings_87 rfl (by decide) (Or.inl ⟨gm_4, gm_5, c_1, rfl, rfl⟩)
  · refine ab_ifne 20 dX11_crossings_11 (by decide) (fun h_6 => absurd (by decide) h_6) (fun h_6 => ?_)
    refine ab_aload_n dX11_crossings_14 rfl ?_
    refine ab_iconst (v := 1) dX11_crossings_15 (by decide) ?_
    refine ab_callV (As := [.int 1]) (rest := []) dX11_crossings_16 mv_X11_no ml_X11_115 ⟨by decide, by decide, rfl, rfl, rfl⟩ (by decide) rfl rfl (Nat.le_of_ble_eq_true rfl) rfl c_X11_no ?_
    rintro r w' ⟨rfl, rfl⟩
    exact ab_iret dX11_crossings_19 rfl (by decide) (Or.inr (⟨c_2, rfl, rfl⟩))
/-- a point too far from the line: the reference -/
abbrev farM (x y : Nat → Int32) (h : Int32) (f t i : Nat) : Prop := if x f = x t ∧ y f = y t then Int32.toInt64 h * Int32.toInt64 h * 1 < ApM x y i f else Int32.toInt64 h * Int32.toInt64 h * ApM x y f t < Cv_bend x y f t i * Cv_bend x y f t i
abbrev isRm (x y : Nat → Int32) (h : Int32) (f t : Nat) : Prop := ∀ i, f ≤ i → i ≤ t → ¬ farM x y h f t i
theorem lp_isStr {wc : List ax_E} {m_thrown m_trouble m_fault m_where m_taped m_linkMany m_tracerMany m_pointMany m_pairMany m_readLinks m_readTracers m_readPoints m_readPairs m_textLong m_at m_spot m_token m_whole m_readFault m_readPlace m_value m_cornerMany m_straightAt m_walkLink m_walkAngle m_walkBranch m_walkMany m_lined m_actMany a3 : Int32} {m_n m_c m_d m_s m_e m_k m_x m_y m_g m_a m_fitUp m_fitDown m_worstUp m_worstDown : Int64} {z1 z2 z3 z4 z5 z6 z7 z8 z9 z10 z11 z14 z15 z16 z17 z18 z19 z20 : ax_E} {q12 q13 : Nat → Int32} {c f t : Nat} (hc : c ≤ 40) (hf : f < c) (ht : t < c) : ∀ (n k : Nat), k + n = t + 1 → f ≤ k → (∀ i, f ≤ i → i < k → ¬ farM q12 q13 a3 f t i) → Ab M_X11_isStraight (fun r w' => (isRm q12 q13 a3 f t ∧ r = some (.int 1) ∧ w' = (wc, [ob 9 [.int m_thrown, .int m_trouble, .int m_fault, .int m_where, .ref 1001, .ref 1002, .int 40, .ref 1003, .int m_taped, .int m_linkMany, .int m_tracerMany, .int m_pointMany, .int m_pairMany, .ref 1004, .ref 1005, .ref 1006, .ref 1007, .int m_readLinks, .int m_readTracers, .int m_readPoints, .int m_readPairs, .ref 1008, .ref 1009, .ref 1010, .ref 1011, .int m_textLong, .int m_at, .int m_spot, .int m_token, .int m_whole, .int m_readFault, .int m_readPlace, .int m_value, .long m_n, .long m_c, .long m_d, .long m_s, .long m_e, .long m_k, .long m_x, .long m_y, .long m_g, .long m_a, .ref 1012, .ref 1013, .ref 1014, .int (nI c), .ref 1015, .int m_cornerMany, .int m_straightAt, .ref 1016, .long m_fitUp, .long m_fitDown, .long m_worstUp, .long m_worstDown, .ref 1017, .int m_walkLink, .int m_walkAngle, .int m_walkBranch, .int m_walkMany, .ref 1018, .ref 1019, .int m_lined, .ref 1020, .int m_actMany], z1, z2, z3, z4, z5, z6, z7, z8, z9, z10, z11, ia 64 q12, ia 64 q13, z14, z15, z16, z17, z18, z19, z20])) ∨ (¬ isRm q12 q13 a3 f t ∧ r = some (.int 0) ∧ w' = (wc, [ob 9 [.int m_thrown, .int m_trouble, .int m_fault, .int m_where, .ref 1001, .ref 1002, .int 40, .ref 1003, .int m_taped, .int m_linkMany, .int m_tracerMany, .int m_pointMany, .int m_pairMany, .ref 1004, .ref 1005, .ref 1006, .ref 1007, .int m_readLinks, .int m_readTracers, .int m_readPoints, .int m_readPairs, .ref 1008, .ref 1009, .ref 1010, .ref 1011, .int m_textLong, .int m_at, .int m_spot, .int m_token, .int m_whole, .int m_readFault, .int m_readPlace, .int m_value, .long m_n, .long m_c, .long m_d, .long m_s, .long m_e, .long m_k, .long m_x, .long m_y, .long m_g, .long m_a, .ref 1012, .ref 1013, .ref 1014, .int (nI c), .ref 1015, .int m_cornerMany, .int m_straightAt, .ref 1016, .long m_fitUp, .long m_fitDown, .long m_worstUp, .long m_worstDown, .ref 1017, .int m_walkLink, .int m_walkAngle, .int m_walkBranch, .int m_walkMany, .ref 1018, .ref 1019, .int m_lined, .ref 1020, .int m_actMany], z1, z2, z3, z4, z5, z6, z7, z8, z9, z10, z11, ia 64 q12, ia 64 q13, z14, z15, z16, z17, z18, z19, z20]))) (0, 0) 3 [(4, .int (nI k)), (3, .int a3), (2, .int (nI t)), (1, .int (nI f)), (0, .ref 1000)] [] (wc, [ob 9 [.int m_thrown, .int m_trouble, .int m_fault, .int m_where, .ref 1001, .ref 1002, .int 40, .ref 1003, .int m_taped, .int m_linkMany, .int m_tracerMany, .int m_pointMany, .int m_pairMany, .ref 1004, .ref 1005, .ref 1006, .ref 1007, .int m_readLinks, .int m_readTracers, .int m_readPoints, .int m_readPairs, .ref 1008, .ref 1009, .ref 1010, .ref 1011, .int m_textLong, .int m_at, .int m_spot, .int m_token, .int m_whole, .int m_readFault, .int m_readPlace, .int m_value, .long m_n, .long m_c, .long m_d, .long m_s, .long m_e, .long m_k, .long m_x, .long m_y, .long m_g, .long m_a, .ref 1012, .ref 1013, .ref 1014, .int (nI c), .ref 1015, .int m_cornerMany, .int m_straightAt, .ref 1016, .long m_fitUp, .long m_fitDown, .long m_worstUp, .long m_worstDown, .ref 1017, .int m_walkLink, .int m_walkAngle, .int m_walkBranch, .int m_walkMany, .ref 1018, .ref 1019, .int m_lined, .ref 1020, .int m_actMany], z1, z2, z3, z4, z5, z6, z7, z8, z9, z10, z11, ia 64 q12, ia 64 q13, z14, z15, z16, z17, z18, z19, z20]) := by
  intro n
  induction n with
  | zero =>
    intro k hk hfk hp
    refine ab_iload dX11_isStraight_3 rfl ?_
    refine ab_iload_n dX11_isStraight_5 rfl ?_
    refine ab_icmpgt 86 dX11_isStraight_6 (by decide) (fun h_1 => ?_) (fun h_1 => absurd (nI_lt (by omega) (by omega)) h_1)
    refine ab_iconst (v := 1) dX11_isStraight_86 (by decide) ?_
    exact ab_zret dX11_isStraight_87 rfl rfl (by decide) (Or.inl ⟨fun i h1 h2 => hp i h1 (by omega), rfl, rfl⟩)
  | succ n ih =>
    intro k hk hfk hp
    refine ab_iload dX11_isStraight_3 rfl ?_
    refine ab_iload_n dX11_isStraight_5 rfl ?_
    refine ab_icmpgt 86 dX11_isStraight_6 (by decide) (fun h_1 => absurd h_1 (nI_nlt (by omega) (by omega))) (fun h_1 => ?_)
    refine ab_aload_n dX11_isStraight_9 rfl ?_
    refine ab_iload_n dX11_isStraight_10 rfl ?_
    refine ab_iload_n dX11_isStraight_11 rfl ?_
    refine ab_callV (As := [.int (nI f), .int (nI t)]) (rest := []) dX11_isStraight_12 mv_X11_isSamePlace ml_X11_444 ⟨by decide, by decide, rfl, rfl, rfl⟩ (by decide) rfl rfl (Nat.le_of_ble_eq_true rfl) rfl (c_X11_isSamePlace (c := c) (j := f) (o := t) (by assumption) (by omega) (by omega)) ?_
    rintro r w' (⟨c_2, rfl, rfl⟩ | ⟨c_3, rfl, rfl⟩)
    · refine ab_istore (la' := [(5, .int 1), (4, .int (nI k)), (3, .int a3), (2, .int (nI t)), (1, .int (nI f)), (0, .ref 1000)]) dX11_isStraight_15 (by decide) rfl ?_
      refine ab_iload dX11_isStraight_17 rfl ?_
      refine ab_ifeq 32 dX11_isStraight_19 (by decide) (fun h_4 => absurd h_4 (by decide)) (fun h_4 => ?_)
      refine ab_aload_n dX11_isStraight_22 rfl ?_
      refine ab_iload dX11_isStraight_23 rfl ?_
      refine ab_iload_n dX11_isStraight_25 rfl ?_
      refine ab_callV (As := [.int (nI k), .int (nI f)]) (rest := []) dX11_isStraight_26 mv_X11_apartOf ml_X11_452 ⟨by decide, by decide, rfl, rfl, rfl⟩ (by decide) rfl rfl (Nat.le_of_ble_eq_true rfl) rfl (c_X11_apartOf (c := c) (j := k) (o := f) (by assumption) (by omega) (by omega)) ?_
      rintro r w' ⟨rfl, rfl⟩
      refine ab_goto 49 dX11_isStraight_29 (by decide) ?_
      refine ab_lstore (la' := [(6, .long (ApM q12 q13 k f)), (5, .int 1), (4, .int (nI k)), (3, .int a3), (2, .int (nI t)), (1, .int (nI f)), (0, .ref 1000)]) dX11_isStraight_49 (by decide) rfl ?_
      refine ab_lload dX11_isStraight_51 rfl ?_
      refine ab_iload_n dX11_isStraight_53 rfl ?_
      refine ab_i2l dX11_isStraight_54 ?_
      refine ab_iload_n dX11_isStraight_55 rfl ?_
      refine ab_i2l dX11_isStraight_56 ?_
      refine ab_lmul dX11_isStraight_57 ?_
      refine ab_iload dX11_isStraight_58 rfl ?_
      refine ab_ifeq 67 dX11_isStraight_60 (by decide) (fun h_5 => absurd h_5 (by decide)) (fun h_5 => ?_)
      refine ab_lconst (v := 1) dX11_isStraight_63 (by decide) ?_
      refine ab_goto 73 dX11_isStraight_64 (by decide) ?_
      refine ab_lmul dX11_isStraight_73 ?_
      refine ab_lcmple 80 dX11_isStraight_74 dX11_isStraight_75 (by decide) (fun h_6 => ?_) (fun h_6 => ?_)
      · refine ab_iinc (v := (nI (k + 1))) (la' := [(4, .int (nI (k + 1))), (6, .long (ApM q12 q13 k f)), (5, .int 1), (3, .int a3), (2, .int (nI t)), (1, .int (nI f)), (0, .ref 1000)]) dX11_isStraight_80 rfl (nI_1 _) (by decide) rfl ?_
        refine ab_goto 3 dX11_isStraight_83 (by decide) ?_
        refine ab_pick [0, 3, 4, 5, 6] rfl ?_
        refine ih (k + 1) (by omega) (by omega) (fun i h1 h2 => ?_)
        rcases Nat.lt_or_ge i k with q | q
        · exact hp i h1 q
        · obtain rfl : i = k := by omega
          unfold farM; rw [if_pos c_2]; exact Int64.not_lt.mpr h_6
      · refine ab_iconst (v := 0) dX11_isStraight_78 (by decide) ?_
        exact ab_zret dX11_isStraight_79 rfl rfl (by decide) (Or.inr ⟨fun z => z k (by omega) (by omega) (by unfold farM; rw [if_pos c_2]; exact Int64.not_le.mp h_6), rfl, rfl⟩)
    · refine ab_istore (la' := [(5, .int 0), (4, .int (nI k)), (3, .int a3), (2, .int (nI t)), (1, .int (nI f)), (0, .ref 1000)]) dX11_isStraight_15 (by decide) rfl ?_
      refine ab_iload dX11_isStraight_17 rfl ?_
      refine ab_ifeq 32 dX11_isStraight_19 (by decide) (fun h_7 => ?_) (fun h_7 => absurd (by decide) h_7)
      refine ab_aload_n dX11_isStraight_32 rfl ?_
      refine ab_iload_n dX11_isStraight_33 rfl ?_
      refine ab_iload_n dX11_isStraight_34 rfl ?_
      refine ab_iload dX11_isStraight_35 rfl ?_
      refine ab_callV (As := [.int (nI f), .int (nI t), .int (nI k)]) (rest := []) dX11_isStraight_37 mv_X11_turnOf ml_X11_449 ⟨by decide, by decide, rfl, rfl, rfl⟩ (by decide) rfl rfl (Nat.le_of_ble_eq_true rfl) rfl (c_X11_turnOf (c := c) (f := f) (t := t) (j := k) (by assumption) (by omega) (by omega) (by omega)) ?_
      rintro r w' ⟨rfl, rfl⟩
      refine ab_aload_n dX11_isStraight_40 rfl ?_
      refine ab_iload_n dX11_isStraight_41 rfl ?_
      refine ab_iload_n dX11_isStraight_42 rfl ?_
      refine ab_iload dX11_isStraight_43 rfl ?_
      refine ab_callV (As := [.int (nI f), .int (nI t), .int (nI k)]) (rest := [.long (Cv_bend q12 q13 f t k)]) dX11_isStraight_45 mv_X11_turnOf ml_X11_449 ⟨by decide, by decide, rfl, rfl, rfl⟩ (by decide) rfl rfl (Nat.le_of_ble_eq_true rfl) rfl (c_X11_turnOf (c := c) (f := f) (t := t) (j := k) (by assumption) (by omega) (by omega) (by omega)) ?_
      rintro r w' ⟨rfl, rfl⟩
      refine ab_lmul dX11_isStraight_48 ?_
      refine ab_lstore (la' := [(6, .long ((Cv_bend q12 q13 f t k) * (Cv_bend q12 q13 f t k))), (5, .int 0), (4, .int (nI k)), (3, .int a3), (2, .int (nI t)), (1, .int (nI f)), (0, .ref 1000)]) dX11_isStraight_49 (by decide) rfl ?_
      refine ab_lload dX11_isStraight_51 rfl ?_
      refine ab_iload_n dX11_isStraight_53 rfl ?_
      refine ab_i2l dX11_isStraight_54 ?_
      refine ab_iload_n dX11_isStraight_55 rfl ?_
      refine ab_i2l dX11_isStraight_56 ?_
      refine ab_lmul dX11_isStraight_57 ?_
      refine ab_iload dX11_isStraight_58 rfl ?_
      refine ab_ifeq 67 dX11_isStraight_60 (by decide) (fun h_8 => ?_) (fun h_8 => absurd (by decide) h_8)
      refine ab_aload_n dX11_isStraight_67 rfl ?_
      refine ab_iload_n dX11_isStraight_68 rfl ?_
      refine ab_iload_n dX11_isStraight_69 rfl ?_
      refine ab_callV (As := [.int (nI f), .int (nI t)]) (rest := [.long ((Int32.toInt64 a3) * (Int32.toInt64 a3)), .long ((Cv_bend q12 q13 f t k) * (Cv_bend q12 q13 f t k))]) dX11_isStraight_70 mv_X11_apartOf ml_X11_452 ⟨by decide, by decide, rfl, rfl, rfl⟩ (by decide) rfl rfl (Nat.le_of_ble_eq_true rfl) rfl (c_X11_apartOf (c := c) (j := f) (o := t) (by assumption) (by omega) (by omega)) ?_
      rintro r w' ⟨rfl, rfl⟩
      refine ab_lmul dX11_isStraight_73 ?_
      refine ab_lcmple 80 dX11_isStraight_74 dX11_isStraight_75 (by decide) (fun h_9 => ?_) (fun h_9 => ?_)
      · refine ab_iinc (v := (nI (k + 1))) (la' := [(4, .int (nI (k + 1))), (6, .long ((Cv_bend q12 q13 f t k) * (Cv_bend q12 q13 f t k))), (5, .int 0), (3, .int a3), (2, .int (nI t)), (1, .int (nI f)), (0, .ref 1000)]) dX11_isStraight_80 rfl (nI_1 _) (by decide) rfl ?_
        refine ab_goto 3 dX11_isStraight_83 (by decide) ?_
        refine ab_pick [0, 3, 4, 5, 6] rfl ?_
        refine ih (k + 1) (by omega) (by omega) (fun i h1 h2 => ?_)
        rcases Nat.lt_or_ge i k with q | q
        · exact hp i h1 q
        · obtain rfl : i = k := by omega
          unfold farM; rw [if_neg c_3]; exact Int64.not_lt.mpr h_9
      · refine ab_iconst (v := 0) dX11_isStraight_78 (by decide) ?_
        exact ab_zret dX11_isStraight_79 rfl rfl (by decide) (Or.inr ⟨fun z => z k (by omega) (by omega) (by unfold farM; rw [if_neg c_3]; exact Int64.not_le.mp h_9), rfl, rfl⟩)
theorem c_X11_isStraight {wc : List ax_E} {m_thrown m_trouble m_fault m_where m_taped m_linkMany m_tracerMany m_pointMany m_pairMany m_readLinks m_readTracers m_readPoints m_readPairs m_textLong m_at m_spot m_token m_whole m_readFault m_readPlace m_value m_cornerMany m_straightAt m_walkLink m_walkAngle m_walkBranch m_walkMany m_lined m_actMany a3 : Int32} {m_n m_c m_d m_s m_e m_k m_x m_y m_g m_a m_fitUp m_fitDown m_worstUp m_worstDown : Int64} {z1 z2 z3 z4 z5 z6 z7 z8 z9 z10 z11 z14 z15 z16 z17 z18 z19 z20 : ax_E} {q12 q13 : Nat → Int32} {c f t : Nat} (hc : c ≤ 40) (hft : f ≤ t) (ht : t < c) : Ct M_X11_isStraight [.ref 1000, .int (nI f), .int (nI t), .int a3] (wc, [ob 9 [.int m_thrown, .int m_trouble, .int m_fault, .int m_where, .ref 1001, .ref 1002, .int 40, .ref 1003, .int m_taped, .int m_linkMany, .int m_tracerMany, .int m_pointMany, .int m_pairMany, .ref 1004, .ref 1005, .ref 1006, .ref 1007, .int m_readLinks, .int m_readTracers, .int m_readPoints, .int m_readPairs, .ref 1008, .ref 1009, .ref 1010, .ref 1011, .int m_textLong, .int m_at, .int m_spot, .int m_token, .int m_whole, .int m_readFault, .int m_readPlace, .int m_value, .long m_n, .long m_c, .long m_d, .long m_s, .long m_e, .long m_k, .long m_x, .long m_y, .long m_g, .long m_a, .ref 1012, .ref 1013, .ref 1014, .int (nI c), .ref 1015, .int m_cornerMany, .int m_straightAt, .ref 1016, .long m_fitUp, .long m_fitDown, .long m_worstUp, .long m_worstDown, .ref 1017, .int m_walkLink, .int m_walkAngle, .int m_walkBranch, .int m_walkMany, .ref 1018, .ref 1019, .int m_lined, .ref 1020, .int m_actMany], z1, z2, z3, z4, z5, z6, z7, z8, z9, z10, z11, ia 64 q12, ia 64 q13, z14, z15, z16, z17, z18, z19, z20]) (fun r w' => ((isRm q12 q13 a3 f t) ∧ r = some (.int 1) ∧ w' = (wc, [ob 9 [.int m_thrown, .int m_trouble, .int m_fault, .int m_where, .ref 1001, .ref 1002, .int 40, .ref 1003, .int m_taped, .int m_linkMany, .int m_tracerMany, .int m_pointMany, .int m_pairMany, .ref 1004, .ref 1005, .ref 1006, .ref 1007, .int m_readLinks, .int m_readTracers, .int m_readPoints, .int m_readPairs, .ref 1008, .ref 1009, .ref 1010, .ref 1011, .int m_textLong, .int m_at, .int m_spot, .int m_token, .int m_whole, .int m_readFault, .int m_readPlace, .int m_value, .long m_n, .long m_c, .long m_d, .long m_s, .long m_e, .long m_k, .long m_x, .long m_y, .long m_g, .long m_a, .ref 1012, .ref 1013, .ref 1014, .int (nI c), .ref 1015, .int m_cornerMany, .int m_straightAt, .ref 1016, .long m_fitUp, .long m_fitDown, .long m_worstUp, .long m_worstDown, .ref 1017, .int m_walkLink, .int m_walkAngle, .int m_walkBranch, .int m_walkMany, .ref 1018, .ref 1019, .int m_lined, .ref 1020, .int m_actMany], z1, z2, z3, z4, z5, z6, z7, z8, z9, z10, z11, ia 64 q12, ia 64 q13, z14, z15, z16, z17, z18, z19, z20])) ∨ ((¬ (isRm q12 q13 a3 f t)) ∧ r = some (.int 0) ∧ w' = (wc, [ob 9 [.int m_thrown, .int m_trouble, .int m_fault, .int m_where, .ref 1001, .ref 1002, .int 40, .ref 1003, .int m_taped, .int m_linkMany, .int m_tracerMany, .int m_pointMany, .int m_pairMany, .ref 1004, .ref 1005, .ref 1006, .ref 1007, .int m_readLinks, .int m_readTracers, .int m_readPoints, .int m_readPairs, .ref 1008, .ref 1009, .ref 1010, .ref 1011, .int m_textLong, .int m_at, .int m_spot, .int m_token, .int m_whole, .int m_readFault, .int m_readPlace, .int m_value, .long m_n, .long m_c, .long m_d, .long m_s, .long m_e, .long m_k, .long m_x, .long m_y, .long m_g, .long m_a, .ref 1012, .ref 1013, .ref 1014, .int (nI c), .ref 1015, .int m_cornerMany, .int m_straightAt, .ref 1016, .long m_fitUp, .long m_fitDown, .long m_worstUp, .long m_worstDown, .ref 1017, .int m_walkLink, .int m_walkAngle, .int m_walkBranch, .int m_walkMany, .ref 1018, .ref 1019, .int m_lined, .ref 1020, .int m_actMany], z1, z2, z3, z4, z5, z6, z7, z8, z9, z10, z11, ia 64 q12, ia 64 q13, z14, z15, z16, z17, z18, z19, z20]))) := by
  refine ct_of ⟨by decide, rfl⟩ (Nat.le_of_ble_eq_true rfl) ?_
  refine ab_iload_n dX11_isStraight_0 rfl ?_
  refine ab_istore (la' := [(4, .int (nI f)), (0, .ref 1000), (1, .int (nI f)), (2, .int (nI t)), (3, .int a3)]) dX11_isStraight_1 (by decide) rfl ?_
  refine ab_pick [0, 4, 3, 2, 1] rfl ?_
  exact lp_isStr hc (by omega) ht (t + 1 - f) f (by omega) (by omega) (fun i h1 h2 => absurd h2 (by omega))
/-- what the reference knows of the straightest run, behind starts below j and, of j, ends below k -/
def SmI (R : Nat → Nat → Prop) (c j k L F : Nat) (at0 at1 : Int32) : Prop := (L = 0 → at1 = at0) ∧ (0 < L → at1 = nI F ∧ F ≤ j ∧ F + L ≤ c ∧ R F L ∧ ∀ F', F' < F → ¬ R F' L) ∧ (∀ F' L', F' < j → L < L' → F' + L' ≤ c → ¬ R F' L') ∧ (∀ L', L < L' → j + L' ≤ k → ¬ R j L') ∧ j + L ≤ k
theorem smI_0 {R : Nat → Nat → Prop} {c : Nat} {at0 : Int32} : SmI R c 0 (0 + 0) 0 0 at0 at0 := ⟨fun _ => rfl, fun h => absurd h (by omega), fun F' L' h => absurd h (by omega), fun L' h1 h2 => absurd h2 (by omega), by omega⟩
theorem smI_hit {R : Nat → Nat → Prop} {c j k L F : Nat} {at0 at1 : Int32} (h : SmI R c j k L F at0 at1) (hk : k < c) (hr : R j (k - j + 1)) : SmI R c j (k + 1) (k - j + 1) j at0 (nI j) := by
  obtain ⟨h1, h2, h3, h4, h5⟩ := h
  refine ⟨fun z => absurd z (by omega), fun _ => ⟨rfl, by omega, by omega, hr, fun F' hF => h3 F' _ hF (by omega) (by omega)⟩, fun F' L' hF hL hc => h3 F' L' hF (by omega) hc, fun L' hL hk2 => absurd hk2 (by omega), by omega⟩
theorem smI_no {R : Nat → Nat → Prop} {c j k L F : Nat} {at0 at1 : Int32} (h : SmI R c j k L F at0 at1) (hr : ¬ R j (k - j + 1)) : SmI R c j (k + 1) L F at0 at1 := by
  obtain ⟨h1, h2, h3, h4, h5⟩ := h
  refine ⟨h1, h2, h3, fun L' hL hk2 => ?_, by omega⟩
  rcases Nat.lt_or_ge (j + L') (k + 1) with q | q
  · exact h4 L' hL (by omega)
  · obtain rfl : L' = k - j + 1 := by omega
    exact hr
theorem smI_next {R : Nat → Nat → Prop} {c j k L F : Nat} {at0 at1 : Int32} (h : SmI R c j k L F at0 at1) (hk : c ≤ k) : SmI R c (j + 1) (j + 1 + L) L F at0 at1 := by
  obtain ⟨h1, h2, h3, h4, h5⟩ := h
  refine ⟨h1, fun z => ?_, fun F' L' hF hL hc => ?_, fun L' hL hk2 => absurd hk2 (by omega), by omega⟩
  · obtain ⟨a, b, d⟩ := h2 z; exact ⟨a, by omega, d⟩
  · rcases Nat.lt_or_ge F' j with q | q
    · exact h3 F' L' q hL hc
    · obtain rfl : F' = j := by omega
      exact h4 L' hL (by omega)
theorem smI_end {R : Nat → Nat → Prop} {c j k L F : Nat} {at0 at1 : Int32} (h : SmI R c j k L F at0 at1) (hj : j = c) : (RunOf R c F L ∧ at1 = nI F) ∨ (L = 0 ∧ at1 = at0 ∧ ∀ F' L', 0 < L' → F' + L' ≤ c → ¬ R F' L') := by
  obtain ⟨h1, h2, h3, h4, h5⟩ := h
  have all : ∀ L' F', L < L' → F' + L' ≤ c → ¬ R F' L' := fun L' F' hL hF => by
    rcases Nat.lt_or_ge F' j with q | q
    · exact h3 F' L' q hL hF
    · exact absurd hF (by omega)
  rcases Nat.eq_zero_or_pos L with z | z
  · subst z
    exact Or.inr ⟨rfl, h1 rfl, fun F' L' a b => all L' F' a b⟩
  · obtain ⟨a, b, d, e, f⟩ := h2 z
    exact Or.inl ⟨⟨z, d, e, all, f⟩, a⟩
set_option maxHeartbeats 400000 in
theorem lp_smI {wc : List ax_E} {m_thrown m_trouble m_fault m_where m_taped m_linkMany m_tracerMany m_pointMany m_pairMany m_readLinks m_readTracers m_readPoints m_readPairs m_textLong m_at m_spot m_token m_whole m_readFault m_readPlace m_value m_cornerMany m_walkLink m_walkAngle m_walkBranch m_walkMany m_lined m_actMany a1 a2 a3 a4 at0 : Int32} {m_fitUp m_fitDown m_worstUp m_worstDown : Int64} {z3 z6 z7 z8 z9 z10 z11 z15 z16 z17 z18 z19 z20 : ax_E} {q4 q5 q12 q13 q14 : Nat → Int32} {c : Nat} {gm : Nat → Int64} {Q : Option Value → ax_W → Prop} {j : Nat} (hc : c ≤ 40) (hj : j < c) (hx : (∀ (k L F : Nat) (at1 : Int32), c ≤ k → SmI (fun F L => isRm q12 q13 a4 F (F + L - 1)) c j k L F at0 at1 → Ab M_X11_straightMany Q (0, 0) 72 [(6, .int (nI j)), (5, .int (nI L)), (4, .int a4), (3, .int a3), (2, .int a2), (1, .int a1), (0, .ref 1000)] [] (wc, [ob 9 [.int m_thrown, .int m_trouble, .int m_fault, .int m_where, .ref 1001, .ref 1002, .int 40, .ref 1003, .int m_taped, .int m_linkMany, .int m_tracerMany, .int m_pointMany, .int m_pairMany, .ref 1004, .ref 1005, .ref 1006, .ref 1007, .int m_readLinks, .int m_readTracers, .int m_readPoints, .int m_readPairs, .ref 1008, .ref 1009, .ref 1010, .ref 1011, .int m_textLong, .int m_at, .int m_spot, .int m_token, .int m_whole, .int m_readFault, .int m_readPlace, .int m_value, .long (gm 33), .long (gm 34), .long (gm 35), .long (gm 36), .long (gm 37), .long (gm 38), .long (gm 39), .long (gm 40), .long (gm 41), .long (gm 42), .ref 1012, .ref 1013, .ref 1014, .int (nI c), .ref 1015, .int m_cornerMany, .int at1, .ref 1016, .long m_fitUp, .long m_fitDown, .long m_worstUp, .long m_worstDown, .ref 1017, .int m_walkLink, .int m_walkAngle, .int m_walkBranch, .int m_walkMany, .ref 1018, .ref 1019, .int m_lined, .ref 1020, .int m_actMany], ia 64 (ax_tab 0), ia 64 (ax_tab 1), z3, ia 16 q4, ia 8 q5, z6, z7, z8, z9, z10, z11, ia 64 q12, ia 64 q13, ia 64 q14, z15, z16, z17, z18, z19, z20]))) : ∀ (n k L F : Nat) (at1 : Int32), n = c - k → SmI (fun F L => isRm q12 q13 a4 F (F + L - 1)) c j k L F at0 at1 → k < 100 → Ab M_X11_straightMany Q (0, 0) 29 [(7, .int (nI k)), (6, .int (nI j)), (5, .int (nI L)), (4, .int a4), (3, .int a3), (2, .int a2), (1, .int a1), (0, .ref 1000)] [] (wc, [ob 9 [.int m_thrown, .int m_trouble, .int m_fault, .int m_where, .ref 1001, .ref 1002, .int 40, .ref 1003, .int m_taped, .int m_linkMany, .int m_tracerMany, .int m_pointMany, .int m_pairMany, .ref 1004, .ref 1005, .ref 1006, .ref 1007, .int m_readLinks, .int m_readTracers, .int m_readPoints, .int m_readPairs, .ref 1008, .ref 1009, .ref 1010, .ref 1011, .int m_textLong, .int m_at, .int m_spot, .int m_token, .int m_whole, .int m_readFault, .int m_readPlace, .int m_value, .long (gm 33), .long (gm 34), .long (gm 35), .long (gm 36), .long (gm 37), .long (gm 38), .long (gm 39), .long (gm 40), .long (gm 41), .long (gm 42), .ref 1012, .ref 1013, .ref 1014, .int (nI c), .ref 1015, .int m_cornerMany, .int at1, .ref 1016, .long m_fitUp, .long m_fitDown, .long m_worstUp, .long m_worstDown, .ref 1017, .int m_walkLink, .int m_walkAngle, .int m_walkBranch, .int m_walkMany, .ref 1018, .ref 1019, .int m_lined, .ref 1020, .int m_actMany], ia 64 (ax_tab 0), ia 64 (ax_tab 1), z3, ia 16 q4, ia 8 q5, z6, z7, z8, z9, z10, z11, ia 64 q12, ia 64 q13, ia 64 q14, z15, z16, z17, z18, z19, z20]) := by
  intro n
  induction n with
  | zero =>
    intro k L F at1 hk hi hk9
    refine ab_iload dX11_straightMany_29 rfl ?_
    refine ab_aload_n dX11_straightMany_31 rfl ?_
    refine ab_getf dX11_straightMany_32 fl_X11_424 rfl rfl ?_
    refine ab_icmpge 72 dX11_straightMany_35 (by decide) (fun h_1 => ?_) (fun h_1 => absurd (nI_le (by omega) (by omega)) h_1)
    refine ab_pick [1, 2, 3, 4, 5, 6, 7] rfl ?_
    exact hx k L F at1 (by omega) hi
  | succ n ih =>
    intro k L F at1 hk hi hk9
    have hkc : k < c := by omega
    have hi5 := hi.2.2.2.2
    refine ab_iload dX11_straightMany_29 rfl ?_
    refine ab_aload_n dX11_straightMany_31 rfl ?_
    refine ab_getf dX11_straightMany_32 fl_X11_424 rfl rfl ?_
    refine ab_icmpge 72 dX11_straightMany_35 (by decide) (fun h_1 => absurd h_1 (nI_ge (by omega) (by omega))) (fun h_1 => ?_)
    refine ab_aload_n dX11_straightMany_38 rfl ?_
    refine ab_iload dX11_straightMany_39 rfl ?_
    refine ab_iload dX11_straightMany_41 rfl ?_
    refine ab_iload dX11_straightMany_43 rfl ?_
    refine ab_callV (As := [.int (nI j), .int (nI k), .int a4]) (rest := []) dX11_straightMany_45 mv_X11_isStraight ml_X11_464 ⟨by decide, by decide, rfl, rfl, rfl⟩ (by decide) rfl rfl (Nat.le_of_ble_eq_true rfl) rfl (c_X11_isStraight (c := c) (f := j) (t := k) (by omega) (by omega) (by omega)) ?_
    rintro r w' (⟨c_2, rfl, rfl⟩ | ⟨c_3, rfl, rfl⟩)
    · refine ab_ifeq 66 dX11_straightMany_48 (by decide) (fun h_4 => absurd h_4 (by decide)) (fun h_4 => ?_)
      refine ab_iload dX11_straightMany_51 rfl ?_
      refine ab_iload dX11_straightMany_53 rfl ?_
      refine ab_isub dX11_straightMany_55 ?_
      refine ab_topi (v := (nI (k - j))) (pk_sub (by omega)) ?_
      refine ab_iconst (v := 1) dX11_straightMany_56 (by decide) ?_
      refine ab_iadd dX11_straightMany_57 ?_
      refine ab_topi (v := (nI ((k - j) + 1))) (nI_1 _) ?_
      refine ab_istore (la' := [(5, .int (nI ((k - j) + 1))), (7, .int (nI k)), (6, .int (nI j)), (4, .int a4), (3, .int a3), (2, .int a2), (1, .int a1), (0, .ref 1000)]) dX11_straightMany_58 (by decide) rfl ?_
      refine ab_aload_n dX11_straightMany_60 rfl ?_
      refine ab_iload dX11_straightMany_61 rfl ?_
      refine ab_putf (w1 := (wc, [ob 9 [.int m_thrown, .int m_trouble, .int m_fault, .int m_where, .ref 1001, .ref 1002, .int 40, .ref 1003, .int m_taped, .int m_linkMany, .int m_tracerMany, .int m_pointMany, .int m_pairMany, .ref 1004, .ref 1005, .ref 1006, .ref 1007, .int m_readLinks, .int m_readTracers, .int m_readPoints, .int m_readPairs, .ref 1008, .ref 1009, .ref 1010, .ref 1011, .int m_textLong, .int m_at, .int m_spot, .int m_token, .int m_whole, .int m_readFault, .int m_readPlace, .int m_value, .long (gm 33), .long (gm 34), .long (gm 35), .long (gm 36), .long (gm 37), .long (gm 38), .long (gm 39), .long (gm 40), .long (gm 41), .long (gm 42), .ref 1012, .ref 1013, .ref 1014, .int (nI c), .ref 1015, .int m_cornerMany, .int (nI j), .ref 1016, .long m_fitUp, .long m_fitDown, .long m_worstUp, .long m_worstDown, .ref 1017, .int m_walkLink, .int m_walkAngle, .int m_walkBranch, .int m_walkMany, .ref 1018, .ref 1019, .int m_lined, .ref 1020, .int m_actMany], ia 64 (ax_tab 0), ia 64 (ax_tab 1), z3, ia 16 q4, ia 8 q5, z6, z7, z8, z9, z10, z11, ia 64 q12, ia 64 q13, ia 64 q14, z15, z16, z17, z18, z19, z20])) dX11_straightMany_63 fl_X11_467 rfl (Nat.le_of_ble_eq_true rfl) (fun _ => ⟨rfl, rfl⟩) rfl ?_
      refine ab_iinc (v := (nI (k + 1))) (la' := [(7, .int (nI (k + 1))), (5, .int (nI ((k - j) + 1))), (6, .int (nI j)), (4, .int a4), (3, .int a3), (2, .int a2), (1, .int a1), (0, .ref 1000)]) dX11_straightMany_66 rfl (nI_1 _) (by decide) rfl ?_
      refine ab_goto 29 dX11_straightMany_69 (by decide) ?_
      refine ab_pick [0, 2, 1, 3, 4, 5, 6, 7] rfl ?_
      exact ih (k + 1) (k - j + 1) j (nI j) (by omega) (smI_hit hi hkc ((show k = j + (k - j + 1) - 1 by omega) ▸ c_2)) (by omega)
    · refine ab_ifeq 66 dX11_straightMany_48 (by decide) (fun h_5 => ?_) (fun h_5 => absurd (by decide) h_5)
      refine ab_iinc (v := (nI (k + 1))) (la' := [(7, .int (nI (k + 1))), (6, .int (nI j)), (5, .int (nI L)), (4, .int a4), (3, .int a3), (2, .int a2), (1, .int a1), (0, .ref 1000)]) dX11_straightMany_66 rfl (nI_1 _) (by decide) rfl ?_
      refine ab_goto 29 dX11_straightMany_69 (by decide) ?_
      refine ab_pick [0, 1, 2, 3, 4, 5, 6, 7] rfl ?_
      exact ih (k + 1) L F at1 (by omega) (smI_no hi (fun z => c_3 ((show k = j + (k - j + 1) - 1 by omega).symm ▸ z))) (by omega)
theorem smI_L {R : Nat → Nat → Prop} {c j k L F : Nat} {at0 at1 : Int32} (h : SmI R c j k L F at0 at1) (hc : c ≤ 40) : L ≤ 40 := by
  obtain ⟨h1, h2, h3, h4, h5⟩ := h
  rcases Nat.eq_zero_or_pos L with z | z
  · omega
  · obtain ⟨a, b, d, e⟩ := h2 z; omega
set_option maxHeartbeats 400000 in
theorem lp_smO {wc : List ax_E} {m_thrown m_trouble m_fault m_where m_taped m_linkMany m_tracerMany m_pointMany m_pairMany m_readLinks m_readTracers m_readPoints m_readPairs m_textLong m_at m_spot m_token m_whole m_readFault m_readPlace m_value m_cornerMany m_walkLink m_walkAngle m_walkBranch m_walkMany m_lined m_actMany a1 a2 a3 a4 at0 : Int32} {m_fitUp m_fitDown m_worstUp m_worstDown : Int64} {z3 z6 z7 z8 z9 z10 z11 z15 z16 z17 z18 z19 z20 : ax_E} {q4 q5 q12 q13 q14 : Nat → Int32} {c : Nat} {gm : Nat → Int64} {Q : Option Value → ax_W → Prop} (hc : c ≤ 40) (hx : (∀ (L F : Nat) (at1 : Int32), (RunOf (fun F L => isRm q12 q13 a4 F (F + L - 1)) c F L ∧ at1 = nI F) ∨ (L = 0 ∧ at1 = at0 ∧ ∀ F' L', 0 < L' → F' + L' ≤ c → ¬ (fun F L => isRm q12 q13 a4 F (F + L - 1)) F' L') → Ab M_X11_straightMany Q (0, 0) 78 [(5, .int (nI L)), (4, .int a4), (3, .int a3), (2, .int a2), (1, .int a1), (0, .ref 1000)] [] (wc, [ob 9 [.int m_thrown, .int m_trouble, .int m_fault, .int m_where, .ref 1001, .ref 1002, .int 40, .ref 1003, .int m_taped, .int m_linkMany, .int m_tracerMany, .int m_pointMany, .int m_pairMany, .ref 1004, .ref 1005, .ref 1006, .ref 1007, .int m_readLinks, .int m_readTracers, .int m_readPoints, .int m_readPairs, .ref 1008, .ref 1009, .ref 1010, .ref 1011, .int m_textLong, .int m_at, .int m_spot, .int m_token, .int m_whole, .int m_readFault, .int m_readPlace, .int m_value, .long (gm 33), .long (gm 34), .long (gm 35), .long (gm 36), .long (gm 37), .long (gm 38), .long (gm 39), .long (gm 40), .long (gm 41), .long (gm 42), .ref 1012, .ref 1013, .ref 1014, .int (nI c), .ref 1015, .int m_cornerMany, .int at1, .ref 1016, .long m_fitUp, .long m_fitDown, .long m_worstUp, .long m_worstDown, .ref 1017, .int m_walkLink, .int m_walkAngle, .int m_walkBranch, .int m_walkMany, .ref 1018, .ref 1019, .int m_lined, .ref 1020, .int m_actMany], ia 64 (ax_tab 0), ia 64 (ax_tab 1), z3, ia 16 q4, ia 8 q5, z6, z7, z8, z9, z10, z11, ia 64 q12, ia 64 q13, ia 64 q14, z15, z16, z17, z18, z19, z20]))) : ∀ (n j L F : Nat) (at1 : Int32), j + n = c → SmI (fun F L => isRm q12 q13 a4 F (F + L - 1)) c j (j + L) L F at0 at1 → L ≤ 40 → Ab M_X11_straightMany Q (0, 0) 13 [(6, .int (nI j)), (5, .int (nI L)), (4, .int a4), (3, .int a3), (2, .int a2), (1, .int a1), (0, .ref 1000)] [] (wc, [ob 9 [.int m_thrown, .int m_trouble, .int m_fault, .int m_where, .ref 1001, .ref 1002, .int 40, .ref 1003, .int m_taped, .int m_linkMany, .int m_tracerMany, .int m_pointMany, .int m_pairMany, .ref 1004, .ref 1005, .ref 1006, .ref 1007, .int m_readLinks, .int m_readTracers, .int m_readPoints, .int m_readPairs, .ref 1008, .ref 1009, .ref 1010, .ref 1011, .int m_textLong, .int m_at, .int m_spot, .int m_token, .int m_whole, .int m_readFault, .int m_readPlace, .int m_value, .long (gm 33), .long (gm 34), .long (gm 35), .long (gm 36), .long (gm 37), .long (gm 38), .long (gm 39), .long (gm 40), .long (gm 41), .long (gm 42), .ref 1012, .ref 1013, .ref 1014, .int (nI c), .ref 1015, .int m_cornerMany, .int at1, .ref 1016, .long m_fitUp, .long m_fitDown, .long m_worstUp, .long m_worstDown, .ref 1017, .int m_walkLink, .int m_walkAngle, .int m_walkBranch, .int m_walkMany, .ref 1018, .ref 1019, .int m_lined, .ref 1020, .int m_actMany], ia 64 (ax_tab 0), ia 64 (ax_tab 1), z3, ia 16 q4, ia 8 q5, z6, z7, z8, z9, z10, z11, ia 64 q12, ia 64 q13, ia 64 q14, z15, z16, z17, z18, z19, z20]) := by
  intro n
  induction n with
  | zero =>
    intro j L F at1 hj hi hL
    refine ab_iload dX11_straightMany_13 rfl ?_
    refine ab_aload_n dX11_straightMany_15 rfl ?_
    refine ab_getf dX11_straightMany_16 fl_X11_424 rfl rfl ?_
    refine ab_icmpge 78 dX11_straightMany_19 (by decide) (fun h_1 => ?_) (fun h_1 => absurd (nI_le (by omega) (by omega)) h_1)
    refine ab_pick [1, 2, 3, 4, 5, 6] rfl ?_
    exact hx L F at1 (smI_end hi (by omega))
  | succ n ih =>
    intro j L F at1 hj hi hL
    refine ab_iload dX11_straightMany_13 rfl ?_
    refine ab_aload_n dX11_straightMany_15 rfl ?_
    refine ab_getf dX11_straightMany_16 fl_X11_424 rfl rfl ?_
    refine ab_icmpge 78 dX11_straightMany_19 (by decide) (fun h_1 => absurd h_1 (nI_ge (by omega) (by omega))) (fun h_1 => ?_)
    refine ab_iload dX11_straightMany_22 rfl ?_
    refine ab_iload dX11_straightMany_24 rfl ?_
    refine ab_iadd dX11_straightMany_26 ?_
    refine ab_topi (v := (nI (j + L))) (nI_add _ _) ?_
    refine ab_istore (la' := [(7, .int (nI (j + L))), (6, .int (nI j)), (5, .int (nI L)), (4, .int a4), (3, .int a3), (2, .int a2), (1, .int a1), (0, .ref 1000)]) dX11_straightMany_27 (by decide) rfl ?_
    refine ab_pick [0, 1, 2, 3, 4, 5, 6, 7] rfl ?_
    refine lp_smI hc (by omega) (fun k L F at1 hk hi => ?_) (c - (j + L)) (j + L) L F at1 rfl hi (by omega)
    skip
    refine ab_iinc (v := (nI (j + 1))) (la' := [(6, .int (nI (j + 1))), (5, .int (nI L)), (4, .int a4), (3, .int a3), (2, .int a2), (1, .int a1), (0, .ref 1000)]) dX11_straightMany_72 rfl (nI_1 _) (by decide) rfl ?_
    refine ab_goto 13 dX11_straightMany_75 (by decide) ?_
    refine ab_pick [0, 1, 2, 3, 4, 5, 6] rfl ?_
    exact ih (j + 1) L F at1 (by omega) (smI_next hi hk) (smI_L (smI_next hi hk) hc)
