def lp_mnear_st (q6 : Nat → Int32) (q12 : Nat → Int32) (q13 : Nat → Int32) (q14 : Nat → Int32) (a5 : Int32) (a4 : Int32) (c : Nat) (k : Nat)  (_ : Unit) : (Unit) ⊕ Int32 := (if (itr (lp_mah_st q6 q12 q13 a4 k) c 0 0) = a5 then (.inr (q14 k)) else (.inl ()))
set_option maxHeartbeats 400000 in
theorem lp_mnear {wc : List ax_E} {m_thrown m_trouble m_fault m_where m_taped m_linkMany m_tracerMany m_pointMany m_pairMany m_readLinks m_readTracers m_readPoints m_readPairs m_textLong m_at m_spot m_token m_whole m_readFault m_readPlace m_value m_cornerMany m_straightAt m_walkLink m_walkAngle m_walkBranch m_walkMany m_lined m_actMany a5 a4 a3 a2 a1 : Int32} {m_fitUp m_fitDown m_worstUp m_worstDown : Int64} {z3 z7 z8 z9 z10 z11 z15 z16 z17 z18 z19 z20 : ax_E} {q4 q5 q6 q12 q13 q14 : Nat → Int32} {c : Nat} {Q : Option Value → ax_W → Prop} (hc : c ≤ 40) (h_pt : 0 ≤ a4 ∧ a4 < m_pointMany) (h_pp : 0 ≤ m_pointMany ∧ m_pointMany ≤ nI 8) : ∀ (n k : Nat)  (gm : Nat → Int64), k + n = c → (∀ (_ : (itx (lp_mnear_st q6 q12 q13 q14 a5 a4 c) n k ()) = .inl ()) (gm : Nat → Int64), Ab M_X11_near Q (0, 0) 75 [(6, .int (nI c)), (5, .int a5), (4, .int a4), (3, .int a3), (2, .int a2), (1, .int a1), (0, .ref 1000)] [] (wc, [ob 9 [.int m_thrown, .int m_trouble, .int m_fault, .int m_where, .ref 1001, .ref 1002, .int 40, .ref 1003, .int m_taped, .int m_linkMany, .int m_tracerMany, .int m_pointMany, .int m_pairMany, .ref 1004, .ref 1005, .ref 1006, .ref 1007, .int m_readLinks, .int m_readTracers, .int m_readPoints, .int m_readPairs, .ref 1008, .ref 1009, .ref 1010, .ref 1011, .int m_textLong, .int m_at, .int m_spot, .int m_token, .int m_whole, .int m_readFault, .int m_readPlace, .int m_value, .long (gm 33), .long (gm 34), .long (gm 35), .long (gm 36), .long (gm 37), .long (gm 38), .long (gm 39), .long (gm 40), .long (gm 41), .long (gm 42), .ref 1012, .ref 1013, .ref 1014, .int (nI c), .ref 1015, .int m_cornerMany, .int m_straightAt, .ref 1016, .long m_fitUp, .long m_fitDown, .long m_worstUp, .long m_worstDown, .ref 1017, .int m_walkLink, .int m_walkAngle, .int m_walkBranch, .int m_walkMany, .ref 1018, .ref 1019, .int m_lined, .ref 1020, .int m_actMany], ia 64 (ax_tab 0), ia 64 (ax_tab 1), z3, ia 16 q4, ia 8 q5, ia 16 q6, z7, z8, z9, z10, z11, ia 64 q12, ia 64 q13, ia 64 q14, z15, z16, z17, z18, z19, z20])) → (∀ r : Int32, (itx (lp_mnear_st q6 q12 q13 q14 a5 a4 c) n k ()) = .inr r → ∀ (gm : Nat → Int64), Q (some (.int r)) (wc, [ob 9 [.int m_thrown, .int m_trouble, .int m_fault, .int m_where, .ref 1001, .ref 1002, .int 40, .ref 1003, .int m_taped, .int m_linkMany, .int m_tracerMany, .int m_pointMany, .int m_pairMany, .ref 1004, .ref 1005, .ref 1006, .ref 1007, .int m_readLinks, .int m_readTracers, .int m_readPoints, .int m_readPairs, .ref 1008, .ref 1009, .ref 1010, .ref 1011, .int m_textLong, .int m_at, .int m_spot, .int m_token, .int m_whole, .int m_readFault, .int m_readPlace, .int m_value, .long (gm 33), .long (gm 34), .long (gm 35), .long (gm 36), .long (gm 37), .long (gm 38), .long (gm 39), .long (gm 40), .long (gm 41), .long (gm 42), .ref 1012, .ref 1013, .ref 1014, .int (nI c), .ref 1015, .int m_cornerMany, .int m_straightAt, .ref 1016, .long m_fitUp, .long m_fitDown, .long m_worstUp, .long m_worstDown, .ref 1017, .int m_walkLink, .int m_walkAngle, .int m_walkBranch, .int m_walkMany, .ref 1018, .ref 1019, .int m_lined, .ref 1020, .int m_actMany], ia 64 (ax_tab 0), ia 64 (ax_tab 1), z3, ia 16 q4, ia 8 q5, ia 16 q6, z7, z8, z9, z10, z11, ia 64 q12, ia 64 q13, ia 64 q14, z15, z16, z17, z18, z19, z20])) → Ab M_X11_near Q (0, 0) 39 [(6, .int (nI k)), (5, .int a5), (4, .int a4), (3, .int a3), (2, .int a2), (1, .int a1), (0, .ref 1000)] [] (wc, [ob 9 [.int m_thrown, .int m_trouble, .int m_fault, .int m_where, .ref 1001, .ref 1002, .int 40, .ref 1003, .int m_taped, .int m_linkMany, .int m_tracerMany, .int m_pointMany, .int m_pairMany, .ref 1004, .ref 1005, .ref 1006, .ref 1007, .int m_readLinks, .int m_readTracers, .int m_readPoints, .int m_readPairs, .ref 1008, .ref 1009, .ref 1010, .ref 1011, .int m_textLong, .int m_at, .int m_spot, .int m_token, .int m_whole, .int m_readFault, .int m_readPlace, .int m_value, .long (gm 33), .long (gm 34), .long (gm 35), .long (gm 36), .long (gm 37), .long (gm 38), .long (gm 39), .long (gm 40), .long (gm 41), .long (gm 42), .ref 1012, .ref 1013, .ref 1014, .int (nI c), .ref 1015, .int m_cornerMany, .int m_straightAt, .ref 1016, .long m_fitUp, .long m_fitDown, .long m_worstUp, .long m_worstDown, .ref 1017, .int m_walkLink, .int m_walkAngle, .int m_walkBranch, .int m_walkMany, .ref 1018, .ref 1019, .int m_lined, .ref 1020, .int m_actMany], ia 64 (ax_tab 0), ia 64 (ax_tab 1), z3, ia 16 q4, ia 8 q5, ia 16 q6, z7, z8, z9, z10, z11, ia 64 q12, ia 64 q13, ia 64 q14, z15, z16, z17, z18, z19, z20]) := by
  intro n
  induction n with
  | zero =>
    intro k  gm hk hx hr
    have hE0 := itx_0 (lp_mnear_st q6 q12 q13 q14 a5 a4 c) k ()
    rw [show k = c by omega]
    refine ab_iload dX11_near_39 rfl ?_
    refine ab_aload_n dX11_near_41 rfl ?_
    refine ab_getf dX11_near_42 fl_X11_424 rfl rfl ?_
    refine ab_icmpge 75 dX11_near_45 (by decide) (fun h_1 => ?_) (fun h_1 => absurd (nI_le (b := c) (Nat.le_refl _) (by omega)) h_1)
    refine ab_pick [0, 1, 2, 3, 4, 5, 6] rfl ?_
    exact hx  hE0 gm
  | succ n ih =>
    intro k  gm hk hx hr
    refine ab_iload dX11_near_39 rfl ?_
    refine ab_aload_n dX11_near_41 rfl ?_
    refine ab_getf dX11_near_42 fl_X11_424 rfl rfl ?_
    refine ab_icmpge 75 dX11_near_45 (by decide) (fun h_1 => absurd h_1 (nI_ge (a := k) (b := c) (by omega) (by omega))) (fun h_1 => ?_)
    refine ab_aload_n dX11_near_48 rfl ?_
    refine ab_iload dX11_near_49 rfl ?_
    refine ab_iload dX11_near_51 rfl ?_
    refine ab_callV (As := [.int (nI k), .int a4]) (rest := []) dX11_near_53 mv_X11_aheadOf ml_X11_477 ⟨by decide, by decide, rfl, rfl, rfl⟩ (by decide) rfl rfl (Nat.le_of_ble_eq_true rfl) rfl (c_X11_aheadOf (c := c) (i := k) hc (by omega) h_pt h_pp) ?_
    rintro r w' ⟨rfl, rfl⟩
    refine ab_iload dX11_near_56 rfl ?_
    refine ab_icmpne 69 dX11_near_58 (by decide) (fun h_2 => ?_) (fun h_2 => ?_)
    · refine ab_iinc (v := (nI (k + 1))) (la' := [(6, .int (nI (k + 1))), (5, .int a5), (4, .int a4), (3, .int a3), (2, .int a2), (1, .int a1), (0, .ref 1000)]) dX11_near_69 rfl (nI_1 _) (by decide) rfl ?_
      refine ab_goto 39 dX11_near_72 (by decide) ?_
      refine ab_pick [0, 1, 2, 3, 4, 5, 6] rfl ?_
      rw [itx_l (f := (lp_mnear_st q6 q12 q13 q14 a5 a4 c)) (n := n) (k := k) (s := ()) (show lp_mnear_st q6 q12 q13 q14 a5 a4 c k  () = .inl () from by rw [lp_mnear_st, if_neg (show ¬ (itr (lp_mah_st q6 q12 q13 a4 k) c 0 0) = a5 from h_2)])] at hx hr
      exact ih (k + 1)  (fun i => [(gm 33), (gm 34), (gm 35), (gm 36), (gm 37), (gm 38), (gm 39), (gm 40), (gm 41), (gm 42)].getD (i - 33) 0) (by omega) hx hr
    · refine ab_aload_n dX11_near_61 rfl ?_
      refine ab_getf dX11_near_62 fl_X11_72 rfl rfl ?_
      refine ab_iload dX11_near_65 rfl ?_
      refine ab_iald (j := k) dX11_near_67 rfl (ix_nI (by omega) (by decide)) ?_
      exact ab_iret dX11_near_68 rfl (by decide) (hr (q14 k) (itx_r (show lp_mnear_st q6 q12 q13 q14 a5 a4 c k  () = .inr (q14 k) from by rw [lp_mnear_st, if_pos (show (itr (lp_mah_st q6 q12 q13 a4 k) c 0 0) = a5 from h_2)])) (fun i => [(gm 33), (gm 34), (gm 35), (gm 36), (gm 37), (gm 38), (gm 39), (gm 40), (gm 41), (gm 42)].getD (i - 33) 0))
theorem c_X11_near {wc : List ax_E} {m_thrown m_trouble m_fault m_where m_taped m_linkMany m_tracerMany m_pointMany m_pairMany m_readLinks m_readTracers m_readPoints m_readPairs m_textLong m_at m_spot m_token m_whole m_readFault m_readPlace m_value m_curveMany m_cornerMany m_straightAt m_walkLink m_walkAngle m_walkBranch m_walkMany m_lined m_actMany a1 a2 a3 a4 a5 : Int32} {m_n m_c m_d m_s m_e m_k m_x m_y m_g m_a m_fitUp m_fitDown m_worstUp m_worstDown : Int64} {z3 z7 z8 z9 z10 z11 z15 z16 z17 z18 z19 z20 : ax_E} {q4 q5 q6 q12 q13 q14 X Y : Nat → Int32} {p : Nat → Bool} (h_l : 0 ≤ m_linkMany ∧ m_linkMany ≤ nI 4) (h_t : 0 ≤ m_tracerMany ∧ m_tracerMany ≤ nI 4) (h_p : ∀ k, p k = true ↔ lawM q4 a1 k) (h_X : ∀ k, k < 40 → lawM q4 a1 k → X k = mX q4 q5 a1 a2 a3 k) (h_Y : ∀ k, k < 40 → lawM q4 a1 k → Y k = mY q4 q5 a1 a2 a3 k) (h_ok : ((0 ≤ a1 ∧ a1 < m_linkMany) ∧ (0 ≤ a2 ∧ a2 < m_tracerMany) ∧ (0 ≤ a3 ∧ a3 < 2)) → ∀ k, k < 40 → lawM q4 a1 k → okS (mV0 q4 q5 a1 a2 a3 k) (Ml_k q4 a1 (nI k)) ∧ okS (mV1 q4 q5 a1 a2 a3 k) (Ml_k q4 a1 (nI k)) ∧ 0 < mWd q4 a1 k) (h_pp : 0 ≤ m_pointMany ∧ m_pointMany ≤ nI 8) : Ct M_X11_near [.ref 1000, .int a1, .int a2, .int a3, .int a4, .int a5] (wc, [ob 9 [.int m_thrown, .int m_trouble, .int m_fault, .int m_where, .ref 1001, .ref 1002, .int 40, .ref 1003, .int m_taped, .int m_linkMany, .int m_tracerMany, .int m_pointMany, .int m_pairMany, .ref 1004, .ref 1005, .ref 1006, .ref 1007, .int m_readLinks, .int m_readTracers, .int m_readPoints, .int m_readPairs, .ref 1008, .ref 1009, .ref 1010, .ref 1011, .int m_textLong, .int m_at, .int m_spot, .int m_token, .int m_whole, .int m_readFault, .int m_readPlace, .int m_value, .long m_n, .long m_c, .long m_d, .long m_s, .long m_e, .long m_k, .long m_x, .long m_y, .long m_g, .long m_a, .ref 1012, .ref 1013, .ref 1014, .int m_curveMany, .ref 1015, .int m_cornerMany, .int m_straightAt, .ref 1016, .long m_fitUp, .long m_fitDown, .long m_worstUp, .long m_worstDown, .ref 1017, .int m_walkLink, .int m_walkAngle, .int m_walkBranch, .int m_walkMany, .ref 1018, .ref 1019, .int m_lined, .ref 1020, .int m_actMany], ia 64 (ax_tab 0), ia 64 (ax_tab 1), z3, ia 16 q4, ia 8 q5, ia 16 q6, z7, z8, z9, z10, z11, ia 64 q12, ia 64 q13, ia 64 q14, z15, z16, z17, z18, z19, z20]) (fun r w' => (∃ gm_7 : Nat → Int64, ∃ gm_8 : Nat → Int64, ((0 ≤ a1 ∧ a1 < m_linkMany) ∧ (0 ≤ a2 ∧ a2 < m_tracerMany) ∧ (0 ≤ a3 ∧ a3 < 2)) ∧ (0 ≤ a4 ∧ a4 < m_pointMany) ∧ ((itx (lp_mnear_st q6 (crv p X q12 40) (crv p Y q13 40) (crv p nI q14 40) a5 a4 (Cn p 40)) (Cn p 40) 0 ()) = .inl ()) ∧ r = some (.int (-1)) ∧ w' = (wc, [ob 9 [.int 0, .int 1, .int m_fault, .int (-1), .ref 1001, .ref 1002, .int 40, .ref 1003, .int m_taped, .int m_linkMany, .int m_tracerMany, .int m_pointMany, .int m_pairMany, .ref 1004, .ref 1005, .ref 1006, .ref 1007, .int m_readLinks, .int m_readTracers, .int m_readPoints, .int m_readPairs, .ref 1008, .ref 1009, .ref 1010, .ref 1011, .int m_textLong, .int m_at, .int m_spot, .int m_token, .int m_whole, .int m_readFault, .int m_readPlace, .int m_value, .long (gm_8 33), .long (gm_8 34), .long (gm_8 35), .long (gm_8 36), .long (gm_8 37), .long (gm_8 38), .long (gm_8 39), .long (gm_8 40), .long (gm_8 41), .long (gm_8 42), .ref 1012, .ref 1013, .ref 1014, .int (nI (Cn p 40)), .ref 1015, .int m_cornerMany, .int m_straightAt, .ref 1016, .long m_fitUp, .long m_fitDown, .long m_worstUp, .long m_worstDown, .ref 1017, .int m_walkLink, .int m_walkAngle, .int m_walkBranch, .int m_walkMany, .ref 1018, .ref 1019, .int m_lined, .ref 1020, .int m_actMany], ia 64 (ax_tab 0), ia 64 (ax_tab 1), z3, ia 16 q4, ia 8 q5, ia 16 q6, z7, z8, z9, z10, z11, ia 64 (crv p X q12 40), ia 64 (crv p Y q13 40), ia 64 (crv p nI q14 40), z15, z16, z17, z18, z19, z20])) ∨ (∃ gm_7 : Nat → Int64, ∃ r_10 : Int32, ∃ gm_12 : Nat → Int64, ((0 ≤ a1 ∧ a1 < m_linkMany) ∧ (0 ≤ a2 ∧ a2 < m_tracerMany) ∧ (0 ≤ a3 ∧ a3 < 2)) ∧ (0 ≤ a4 ∧ a4 < m_pointMany) ∧ ((itx (lp_mnear_st q6 (crv p X q12 40) (crv p Y q13 40) (crv p nI q14 40) a5 a4 (Cn p 40)) (Cn p 40) 0 ()) = .inr r_10) ∧ r = some (.int r_10) ∧ w' = (wc, [ob 9 [.int 0, .int 0, .int m_fault, .int (-1), .ref 1001, .ref 1002, .int 40, .ref 1003, .int m_taped, .int m_linkMany, .int m_tracerMany, .int m_pointMany, .int m_pairMany, .ref 1004, .ref 1005, .ref 1006, .ref 1007, .int m_readLinks, .int m_readTracers, .int m_readPoints, .int m_readPairs, .ref 1008, .ref 1009, .ref 1010, .ref 1011, .int m_textLong, .int m_at, .int m_spot, .int m_token, .int m_whole, .int m_readFault, .int m_readPlace, .int m_value, .long (gm_12 33), .long (gm_12 34), .long (gm_12 35), .long (gm_12 36), .long (gm_12 37), .long (gm_12 38), .long (gm_12 39), .long (gm_12 40), .long (gm_12 41), .long (gm_12 42), .ref 1012, .ref 1013, .ref 1014, .int (nI (Cn p 40)), .ref 1015, .int m_cornerMany, .int m_straightAt, .ref 1016, .long m_fitUp, .long m_fitDown, .long m_worstUp, .long m_worstDown, .ref 1017, .int m_walkLink, .int m_walkAngle, .int m_walkBranch, .int m_walkMany, .ref 1018, .ref 1019, .int m_lined, .ref 1020, .int m_actMany], ia 64 (ax_tab 0), ia 64 (ax_tab 1), z3, ia 16 q4, ia 8 q5, ia 16 q6, z7, z8, z9, z10, z11, ia 64 (crv p X q12 40), ia 64 (crv p Y q13 40), ia 64 (crv p nI q14 40), z15, z16, z17, z18, z19, z20])) ∨ (((0 ≤ a1 ∧ a1 < m_linkMany) ∧ (0 ≤ a2 ∧ a2 < m_tracerMany) ∧ (0 ≤ a3 ∧ a3 < 2)) ∧ (¬ (0 ≤ a4 ∧ a4 < m_pointMany)) ∧ r = some (.int (-1)) ∧ w' = (wc, [ob 9 [.int 0, .int 1, .int m_fault, .int (-1), .ref 1001, .ref 1002, .int 40, .ref 1003, .int m_taped, .int m_linkMany, .int m_tracerMany, .int m_pointMany, .int m_pairMany, .ref 1004, .ref 1005, .ref 1006, .ref 1007, .int m_readLinks, .int m_readTracers, .int m_readPoints, .int m_readPairs, .ref 1008, .ref 1009, .ref 1010, .ref 1011, .int m_textLong, .int m_at, .int m_spot, .int m_token, .int m_whole, .int m_readFault, .int m_readPlace, .int m_value, .long m_n, .long m_c, .long m_d, .long m_s, .long m_e, .long m_k, .long m_x, .long m_y, .long m_g, .long m_a, .ref 1012, .ref 1013, .ref 1014, .int m_curveMany, .ref 1015, .int m_cornerMany, .int m_straightAt, .ref 1016, .long m_fitUp, .long m_fitDown, .long m_worstUp, .long m_worstDown, .ref 1017, .int m_walkLink, .int m_walkAngle, .int m_walkBranch, .int m_walkMany, .ref 1018, .ref 1019, .int m_lined, .ref 1020, .int m_actMany], ia 64 (ax_tab 0), ia 64 (ax_tab 1), z3, ia 16 q4, ia 8 q5, ia 16 q6, z7, z8, z9, z10, z11, ia 64 q12, ia 64 q13, ia 64 q14, z15, z16, z17, z18, z19, z20])) ∨ ((¬ ((0 ≤ a1 ∧ a1 < m_linkMany) ∧ (0 ≤ a2 ∧ a2 < m_tracerMany) ∧ (0 ≤ a3 ∧ a3 < 2))) ∧ r = some (.int (-1)) ∧ w' = (wc, [ob 9 [.int 0, .int 1, .int m_fault, .int (-1), .ref 1001, .ref 1002, .int 40, .ref 1003, .int m_taped, .int m_linkMany, .int m_tracerMany, .int m_pointMany, .int m_pairMany, .ref 1004, .ref 1005, .ref 1006, .ref 1007, .int m_readLinks, .int m_readTracers, .int m_readPoints, .int m_readPairs, .ref 1008, .ref 1009, .ref 1010, .ref 1011, .int m_textLong, .int m_at, .int m_spot, .int m_token, .int m_whole, .int m_readFault, .int m_readPlace, .int m_value, .long m_n, .long m_c, .long m_d, .long m_s, .long m_e, .long m_k, .long m_x, .long m_y, .long m_g, .long m_a, .ref 1012, .ref 1013, .ref 1014, .int m_curveMany, .ref 1015, .int m_cornerMany, .int m_straightAt, .ref 1016, .long m_fitUp, .long m_fitDown, .long m_worstUp, .long m_worstDown, .ref 1017, .int m_walkLink, .int m_walkAngle, .int m_walkBranch, .int m_walkMany, .ref 1018, .ref 1019, .int m_lined, .ref 1020, .int m_actMany], ia 64 (ax_tab 0), ia 64 (ax_tab 1), z3, ia 16 q4, ia 8 q5, ia 16 q6, z7, z8, z9, z10, z11, ia 64 q12, ia 64 q13, ia 64 q14, z15, z16, z17, z18, z19, z20]))) := by
  refine ct_of ⟨by decide, rfl⟩ (Nat.le_of_ble_eq_true rfl) ?_
  refine ab_aload_n dX11_near_0 rfl ?_
  refine ab_callV (As := []) (rest := []) dX11_near_1 mv_X11_anew ml_X11_104 ⟨by decide, by decide, rfl, rfl, rfl⟩ (by decide) rfl rfl (Nat.le_of_ble_eq_true rfl) rfl c_X11_anew ?_
  rintro r w' ⟨rfl, rfl⟩
  refine ab_aload_n dX11_near_4 rfl ?_
  refine ab_iload_n dX11_near_5 rfl ?_
  refine ab_iload_n dX11_near_6 rfl ?_
  refine ab_iload_n dX11_near_7 rfl ?_
  refine ab_callV (As := [.int a1, .int a2, .int a3]) (rest := []) dX11_near_8 mv_X11_isCurve ml_X11_417 ⟨by decide, by decide, rfl, rfl, rfl⟩ (by decide) rfl rfl (Nat.le_of_ble_eq_true rfl) rfl (c_X11_isCurve h_l h_t) ?_
  rintro r w' (⟨c_1, rfl, rfl⟩ | ⟨c_2, rfl, rfl⟩)
  · refine ab_ifeq 23 dX11_near_11 (by decide) (fun h_3 => absurd h_3 (by decide)) (fun h_3 => ?_)
    refine ab_aload_n dX11_near_14 rfl ?_
    refine ab_iload dX11_near_15 rfl ?_
    refine ab_callV (As := [.int a4]) (rest := []) dX11_near_17 mv_X11_isPoint ml_X11_405 ⟨by decide, by decide, rfl, rfl, rfl⟩ (by decide) rfl rfl (Nat.le_of_ble_eq_true rfl) rfl (c_X11_isPoint h_pp) ?_
    rintro r w' (⟨c_4, rfl, rfl⟩ | ⟨c_5, rfl, rfl⟩)
    · refine ab_ifne 29 dX11_near_20 (by decide) (fun h_6 => ?_) (fun h_6 => absurd h_6 (by decide))
      refine ab_aload_n dX11_near_29 rfl ?_
      refine ab_iload_n dX11_near_30 rfl ?_
      refine ab_iload_n dX11_near_31 rfl ?_
      refine ab_iload_n dX11_near_32 rfl ?_
      refine ab_callV (As := [.int a1, .int a2, .int a3]) (rest := []) dX11_near_33 mv_X11_traces ml_X11_427 ⟨by decide, by decide, rfl, rfl, rfl⟩ (by decide) rfl rfl (Nat.le_of_ble_eq_true rfl) rfl (c_X11_traces (p := p) (X := X) (Y := Y) c_1.1 h_l c_1.2.1 h_t h_p h_X h_Y (h_ok c_1)) ?_
      rintro r w' ⟨gm_7, rfl, rfl⟩
      refine ab_iconst (v := 0) dX11_near_36 (by decide) ?_
      refine ab_istore (la' := [(6, .int 0), (0, .ref 1000), (1, .int a1), (2, .int a2), (3, .int a3), (4, .int a4), (5, .int a5)]) dX11_near_37 (by decide) rfl ?_
      refine ab_pick [0, 6, 5, 4, 3, 2, 1] rfl ?_
      refine lp_mnear (cn_le p 40) c_4 h_pp (Cn p 40) 0 (fun i => [(gm_7 33), (gm_7 34), (gm_7 35), (gm_7 36), (gm_7 37), (gm_7 38), (gm_7 39), (gm_7 40), (gm_7 41), (gm_7 42)].getD (i - 33) 0) (by omega) ?_ ?_
      · intro hE_9 gm_8
        refine ab_aload_n dX11_near_75 rfl ?_
        refine ab_iconst (v := 1) dX11_near_76 (by decide) ?_
        refine ab_callV (As := [.int 1]) (rest := []) dX11_near_77 mv_X11_no ml_X11_115 ⟨by decide, by decide, rfl, rfl, rfl⟩ (by decide) rfl rfl (Nat.le_of_ble_eq_true rfl) rfl c_X11_no ?_
        rintro r w' ⟨rfl, rfl⟩
        exact ab_iret dX11_near_80 rfl (by decide) (Or.inl ⟨gm_7, gm_8, c_1, c_4, hE_9, rfl, rfl⟩)
      · intro r_10 hR_11 gm_12
        exact (Or.inr (Or.inl ⟨gm_7, r_10, gm_12, c_1, c_4, hR_11, rfl, rfl⟩))
    · refine ab_ifne 29 dX11_near_20 (by decide) (fun h_13 => absurd (by decide) h_13) (fun h_13 => ?_)
      refine ab_aload_n dX11_near_23 rfl ?_
      refine ab_iconst (v := 1) dX11_near_24 (by decide) ?_
      refine ab_callV (As := [.int 1]) (rest := []) dX11_near_25 mv_X11_no ml_X11_115 ⟨by decide, by decide, rfl, rfl, rfl⟩ (by decide) rfl rfl (Nat.le_of_ble_eq_true rfl) rfl c_X11_no ?_
      rintro r w' ⟨rfl, rfl⟩
      exact ab_iret dX11_near_28 rfl (by decide) (Or.inr (Or.inr (Or.inl ⟨c_1, c_5, rfl, rfl⟩)))
  · refine ab_ifeq 23 dX11_near_11 (by decide) (fun h_14 => ?_) (fun h_14 => absurd (by decide) h_14)
    refine ab_aload_n dX11_near_23 rfl ?_
    refine ab_iconst (v := 1) dX11_near_24 (by decide) ?_
    refine ab_callV (As := [.int 1]) (rest := []) dX11_near_25 mv_X11_no ml_X11_115 ⟨by decide, by decide, rfl, rfl, rfl⟩ (by decide) rfl rfl (Nat.le_of_ble_eq_true rfl) rfl c_X11_no ?_
    rintro r w' ⟨rfl, rfl⟩
    exact ab_iret dX11_near_28 rfl (by decide) (Or.inr (Or.inr (Or.inr (⟨c_2, rfl, rfl⟩))))
theorem c_X11_miss {wc : List ax_E} {m_thrown m_trouble m_fault m_where m_taped m_linkMany m_tracerMany m_pointMany m_pairMany m_readLinks m_readTracers m_readPoints m_readPairs m_textLong m_at m_spot m_token m_whole m_readFault m_readPlace m_value m_curveMany m_cornerMany m_straightAt m_walkLink m_walkAngle m_walkBranch m_walkMany m_lined m_actMany a1 a2 a3 a4 : Int32} {m_n m_c m_d m_s m_e m_k m_x m_y m_g m_a m_fitUp m_fitDown m_worstUp m_worstDown : Int64} {z3 z7 z8 z9 z10 z11 z15 z16 z17 z18 z19 z20 : ax_E} {q4 q5 q6 q12 q13 q14 X Y : Nat → Int32} {p : Nat → Bool} (h_l : 0 ≤ m_linkMany ∧ m_linkMany ≤ nI 4) (h_t : 0 ≤ m_tracerMany ∧ m_tracerMany ≤ nI 4) (h_p : ∀ k, p k = true ↔ lawM q4 a1 k) (h_X : ∀ k, k < 40 → lawM q4 a1 k → X k = mX q4 q5 a1 a2 a3 k) (h_Y : ∀ k, k < 40 → lawM q4 a1 k → Y k = mY q4 q5 a1 a2 a3 k) (h_ok : ((0 ≤ a1 ∧ a1 < m_linkMany) ∧ (0 ≤ a2 ∧ a2 < m_tracerMany) ∧ (0 ≤ a3 ∧ a3 < 2)) → ∀ k, k < 40 → lawM q4 a1 k → okS (mV0 q4 q5 a1 a2 a3 k) (Ml_k q4 a1 (nI k)) ∧ okS (mV1 q4 q5 a1 a2 a3 k) (Ml_k q4 a1 (nI k)) ∧ 0 < mWd q4 a1 k) (h_pp : 0 ≤ m_pointMany ∧ m_pointMany ≤ nI 8) : Ct M_X11_miss [.ref 1000, .int a1, .int a2, .int a3, .int a4] (wc, [ob 9 [.int m_thrown, .int m_trouble, .int m_fault, .int m_where, .ref 1001, .ref 1002, .int 40, .ref 1003, .int m_taped, .int m_linkMany, .int m_tracerMany, .int m_pointMany, .int m_pairMany, .ref 1004, .ref 1005, .ref 1006, .ref 1007, .int m_readLinks, .int m_readTracers, .int m_readPoints, .int m_readPairs, .ref 1008, .ref 1009, .ref 1010, .ref 1011, .int m_textLong, .int m_at, .int m_spot, .int m_token, .int m_whole, .int m_readFault, .int m_readPlace, .int m_value, .long m_n, .long m_c, .long m_d, .long m_s, .long m_e, .long m_k, .long m_x, .long m_y, .long m_g, .long m_a, .ref 1012, .ref 1013, .ref 1014, .int m_curveMany, .ref 1015, .int m_cornerMany, .int m_straightAt, .ref 1016, .long m_fitUp, .long m_fitDown, .long m_worstUp, .long m_worstDown, .ref 1017, .int m_walkLink, .int m_walkAngle, .int m_walkBranch, .int m_walkMany, .ref 1018, .ref 1019, .int m_lined, .ref 1020, .int m_actMany], ia 64 (ax_tab 0), ia 64 (ax_tab 1), z3, ia 16 q4, ia 8 q5, ia 16 q6, z7, z8, z9, z10, z11, ia 64 q12, ia 64 q13, ia 64 q14, z15, z16, z17, z18, z19, z20]) (fun r w' => (∃ gm_7 : Nat → Int64, ((0 ≤ a1 ∧ a1 < m_linkMany) ∧ (0 ≤ a2 ∧ a2 < m_tracerMany) ∧ (0 ≤ a3 ∧ a3 < 2)) ∧ (0 ≤ a4 ∧ a4 < m_pointMany) ∧ (¬ (nI (Cn p 40)) = 0) ∧ r = some (.int (itr (lp_mlm_st q6 (crv p X q12 40) (crv p Y q13 40) a4) (Cn p 40) 0 (-1))) ∧ w' = (wc, [ob 9 [.int 0, .int 0, .int m_fault, .int (-1), .ref 1001, .ref 1002, .int 40, .ref 1003, .int m_taped, .int m_linkMany, .int m_tracerMany, .int m_pointMany, .int m_pairMany, .ref 1004, .ref 1005, .ref 1006, .ref 1007, .int m_readLinks, .int m_readTracers, .int m_readPoints, .int m_readPairs, .ref 1008, .ref 1009, .ref 1010, .ref 1011, .int m_textLong, .int m_at, .int m_spot, .int m_token, .int m_whole, .int m_readFault, .int m_readPlace, .int m_value, .long (gm_7 33), .long (gm_7 34), .long (gm_7 35), .long (gm_7 36), .long (gm_7 37), .long (gm_7 38), .long (gm_7 39), .long (gm_7 40), .long (gm_7 41), .long (gm_7 42), .ref 1012, .ref 1013, .ref 1014, .int (nI (Cn p 40)), .ref 1015, .int m_cornerMany, .int m_straightAt, .ref 1016, .long m_fitUp, .long m_fitDown, .long m_worstUp, .long m_worstDown, .ref 1017, .int m_walkLink, .int m_walkAngle, .int m_walkBranch, .int m_walkMany, .ref 1018, .ref 1019, .int m_lined, .ref 1020, .int m_actMany], ia 64 (ax_tab 0), ia 64 (ax_tab 1), z3, ia 16 q4, ia 8 q5, ia 16 q6, z7, z8, z9, z10, z11, ia 64 (crv p X q12 40), ia 64 (crv p Y q13 40), ia 64 (crv p nI q14 40), z15, z16, z17, z18, z19, z20])) ∨ (∃ gm_7 : Nat → Int64, ((0 ≤ a1 ∧ a1 < m_linkMany) ∧ (0 ≤ a2 ∧ a2 < m_tracerMany) ∧ (0 ≤ a3 ∧ a3 < 2)) ∧ (0 ≤ a4 ∧ a4 < m_pointMany) ∧ ((nI (Cn p 40)) = 0) ∧ r = some (.int (-1)) ∧ w' = (wc, [ob 9 [.int 0, .int 5, .int m_fault, .int (-1), .ref 1001, .ref 1002, .int 40, .ref 1003, .int m_taped, .int m_linkMany, .int m_tracerMany, .int m_pointMany, .int m_pairMany, .ref 1004, .ref 1005, .ref 1006, .ref 1007, .int m_readLinks, .int m_readTracers, .int m_readPoints, .int m_readPairs, .ref 1008, .ref 1009, .ref 1010, .ref 1011, .int m_textLong, .int m_at, .int m_spot, .int m_token, .int m_whole, .int m_readFault, .int m_readPlace, .int m_value, .long (gm_7 33), .long (gm_7 34), .long (gm_7 35), .long (gm_7 36), .long (gm_7 37), .long (gm_7 38), .long (gm_7 39), .long (gm_7 40), .long (gm_7 41), .long (gm_7 42), .ref 1012, .ref 1013, .ref 1014, .int (nI (Cn p 40)), .ref 1015, .int m_cornerMany, .int m_straightAt, .ref 1016, .long m_fitUp, .long m_fitDown, .long m_worstUp, .long m_worstDown, .ref 1017, .int m_walkLink, .int m_walkAngle, .int m_walkBranch, .int m_walkMany, .ref 1018, .ref 1019, .int m_lined, .ref 1020, .int m_actMany], ia 64 (ax_tab 0), ia 64 (ax_tab 1), z3, ia 16 q4, ia 8 q5, ia 16 q6, z7, z8, z9, z10, z11, ia 64 (crv p X q12 40), ia 64 (crv p Y q13 40), ia 64 (crv p nI q14 40), z15, z16, z17, z18, z19, z20])) ∨ (((0 ≤ a1 ∧ a1 < m_linkMany) ∧ (0 ≤ a2 ∧ a2 < m_tracerMany) ∧ (0 ≤ a3 ∧ a3 < 2)) ∧ (¬ (0 ≤ a4 ∧ a4 < m_pointMany)) ∧ r = some (.int (-1)) ∧ w' = (wc, [ob 9 [.int 0, .int 1, .int m_fault, .int (-1), .ref 1001, .ref 1002, .int 40, .ref 1003, .int m_taped, .int m_linkMany, .int m_tracerMany, .int m_pointMany, .int m_pairMany, .ref 1004, .ref 1005, .ref 1006, .ref 1007, .int m_readLinks, .int m_readTracers, .int m_readPoints, .int m_readPairs, .ref 1008, .ref 1009, .ref 1010, .ref 1011, .int m_textLong, .int m_at, .int m_spot, .int m_token, .int m_whole, .int m_readFault, .int m_readPlace, .int m_value, .long m_n, .long m_c, .long m_d, .long m_s, .long m_e, .long m_k, .long m_x, .long m_y, .long m_g, .long m_a, .ref 1012, .ref 1013, .ref 1014, .int m_curveMany, .ref 1015, .int m_cornerMany, .int m_straightAt, .ref 1016, .long m_fitUp, .long m_fitDown, .long m_worstUp, .long m_worstDown, .ref 1017, .int m_walkLink, .int m_walkAngle, .int m_walkBranch, .int m_walkMany, .ref 1018, .ref 1019, .int m_lined, .ref 1020, .int m_actMany], ia 64 (ax_tab 0), ia 64 (ax_tab 1), z3, ia 16 q4, ia 8 q5, ia 16 q6, z7, z8, z9, z10, z11, ia 64 q12, ia 64 q13, ia 64 q14, z15, z16, z17, z18, z19, z20])) ∨ ((¬ ((0 ≤ a1 ∧ a1 < m_linkMany) ∧ (0 ≤ a2 ∧ a2 < m_tracerMany) ∧ (0 ≤ a3 ∧ a3 < 2))) ∧ r = some (.int (-1)) ∧ w' = (wc, [ob 9 [.int 0, .int 1, .int m_fault, .int (-1), .ref 1001, .ref 1002, .int 40, .ref 1003, .int m_taped, .int m_linkMany, .int m_tracerMany, .int m_pointMany, .int m_pairMany, .ref 1004, .ref 1005, .ref 1006, .ref 1007, .int m_readLinks, .int m_readTracers, .int m_readPoints, .int m_readPairs, .ref 1008, .ref 1009, .ref 1010, .ref 1011, .int m_textLong, .int m_at, .int m_spot, .int m_token, .int m_whole, .int m_readFault, .int m_readPlace, .int m_value, .long m_n, .long m_c, .long m_d, .long m_s, .long m_e, .long m_k, .long m_x, .long m_y, .long m_g, .long m_a, .ref 1012, .ref 1013, .ref 1014, .int m_curveMany, .ref 1015, .int m_cornerMany, .int m_straightAt, .ref 1016, .long m_fitUp, .long m_fitDown, .long m_worstUp, .long m_worstDown, .ref 1017, .int m_walkLink, .int m_walkAngle, .int m_walkBranch, .int m_walkMany, .ref 1018, .ref 1019, .int m_lined, .ref 1020, .int m_actMany], ia 64 (ax_tab 0), ia 64 (ax_tab 1), z3, ia 16 q4, ia 8 q5, ia 16 q6, z7, z8, z9, z10, z11, ia 64 q12, ia 64 q13, ia 64 q14, z15, z16, z17, z18, z19, z20]))) := by
  refine ct_of ⟨by decide, rfl⟩ (Nat.le_of_ble_eq_true rfl) ?_
  refine ab_aload_n dX11_miss_0 rfl ?_
  refine ab_callV (As := []) (rest := []) dX11_miss_1 mv_X11_anew ml_X11_104 ⟨by decide, by decide, rfl, rfl, rfl⟩ (by decide) rfl rfl (Nat.le_of_ble_eq_true rfl) rfl c_X11_anew ?_
  rintro r w' ⟨rfl, rfl⟩
  refine ab_aload_n dX11_miss_4 rfl ?_
  refine ab_iload_n dX11_miss_5 rfl ?_
  refine ab_iload_n dX11_miss_6 rfl ?_
  refine ab_iload_n dX11_miss_7 rfl ?_
  refine ab_callV (As := [.int a1, .int a2, .int a3]) (rest := []) dX11_miss_8 mv_X11_isCurve ml_X11_417 ⟨by decide, by decide, rfl, rfl, rfl⟩ (by decide) rfl rfl (Nat.le_of_ble_eq_true rfl) rfl (c_X11_isCurve h_l h_t) ?_
  rintro r w' (⟨c_1, rfl, rfl⟩ | ⟨c_2, rfl, rfl⟩)
  · refine ab_ifeq 23 dX11_miss_11 (by decide) (fun h_3 => absurd h_3 (by decide)) (fun h_3 => ?_)
    refine ab_aload_n dX11_miss_14 rfl ?_
    refine ab_iload dX11_miss_15 rfl ?_
    refine ab_callV (As := [.int a4]) (rest := []) dX11_miss_17 mv_X11_isPoint ml_X11_405 ⟨by decide, by decide, rfl, rfl, rfl⟩ (by decide) rfl rfl (Nat.le_of_ble_eq_true rfl) rfl (c_X11_isPoint h_pp) ?_
    rintro r w' (⟨c_4, rfl, rfl⟩ | ⟨c_5, rfl, rfl⟩)
    · refine ab_ifne 29 dX11_miss_20 (by decide) (fun h_6 => ?_) (fun h_6 => absurd h_6 (by decide))
      refine ab_aload_n dX11_miss_29 rfl ?_
      refine ab_iload_n dX11_miss_30 rfl ?_
      refine ab_iload_n dX11_miss_31 rfl ?_
      refine ab_iload_n dX11_miss_32 rfl ?_
      refine ab_callV (As := [.int a1, .int a2, .int a3]) (rest := []) dX11_miss_33 mv_X11_traces ml_X11_427 ⟨by decide, by decide, rfl, rfl, rfl⟩ (by decide) rfl rfl (Nat.le_of_ble_eq_true rfl) rfl (c_X11_traces (p := p) (X := X) (Y := Y) c_1.1 h_l c_1.2.1 h_t h_p h_X h_Y (h_ok c_1)) ?_
      rintro r w' ⟨gm_7, rfl, rfl⟩
      refine ab_aload_n dX11_miss_36 rfl ?_
      refine ab_getf dX11_miss_37 fl_X11_424 rfl rfl ?_
      refine ab_ifne 51 dX11_miss_40 (by decide) (fun h_8 => ?_) (fun h_8 => ?_)
      · refine ab_aload_n dX11_miss_51 rfl ?_
        refine ab_iload dX11_miss_52 rfl ?_
        refine ab_callV (As := [.int a4]) (rest := []) dX11_miss_54 mv_X11_leastMiss ml_X11_480 ⟨by decide, by decide, rfl, rfl, rfl⟩ (by decide) rfl rfl (Nat.le_of_ble_eq_true rfl) rfl (c_X11_leastMiss (c := (Cn p 40)) (cn_le p 40) c_4 h_pp) ?_
        rintro r w' ⟨rfl, rfl⟩
        exact ab_iret dX11_miss_57 rfl (by decide) (Or.inl ⟨gm_7, c_1, c_4, h_8, rfl, rfl⟩)
      · refine ab_aload_n dX11_miss_43 rfl ?_
        refine ab_iconst (v := 5) dX11_miss_44 (by decide) ?_
        refine ab_callV (As := [.int 5]) (rest := []) dX11_miss_45 mv_X11_no ml_X11_115 ⟨by decide, by decide, rfl, rfl, rfl⟩ (by decide) rfl rfl (Nat.le_of_ble_eq_true rfl) rfl c_X11_no ?_
        rintro r w' ⟨rfl, rfl⟩
        refine ab_goto 57 dX11_miss_48 (by decide) ?_
        exact ab_iret dX11_miss_57 rfl (by decide) (Or.inr (Or.inl ⟨gm_7, c_1, c_4, h_8, rfl, rfl⟩))
    · refine ab_ifne 29 dX11_miss_20 (by decide) (fun h_9 => absurd (by decide) h_9) (fun h_9 => ?_)
      refine ab_aload_n dX11_miss_23 rfl ?_
      refine ab_iconst (v := 1) dX11_miss_24 (by decide) ?_
      refine ab_callV (As := [.int 1]) (rest := []) dX11_miss_25 mv_X11_no ml_X11_115 ⟨by decide, by decide, rfl, rfl, rfl⟩ (by decide) rfl rfl (Nat.le_of_ble_eq_true rfl) rfl c_X11_no ?_
      rintro r w' ⟨rfl, rfl⟩
      exact ab_iret dX11_miss_28 rfl (by decide) (Or.inr (Or.inr (Or.inl ⟨c_1, c_5, rfl, rfl⟩)))
  · refine ab_ifeq 23 dX11_miss_11 (by decide) (fun h_10 => ?_) (fun h_10 => absurd (by decide) h_10)
    refine ab_aload_n dX11_miss_23 rfl ?_
    refine ab_iconst (v := 1) dX11_miss_24 (by decide) ?_
    refine ab_callV (As := [.int 1]) (rest := []) dX11_miss_25 mv_X11_no ml_X11_115 ⟨by decide, by decide, rfl, rfl, rfl⟩ (by decide) rfl rfl (Nat.le_of_ble_eq_true rfl) rfl c_X11_no ?_
    rintro r w' ⟨rfl, rfl⟩
    exact ab_iret dX11_miss_28 rfl (by decide) (Or.inr (Or.inr (Or.inr (⟨c_2, rfl, rfl⟩))))
def lp_mea_st (q4 : Nat → Int32) (a1 : Int32) (k : Nat) (fo : Int32) (up : Int64) (dn : Int64) : Int32 × Int64 × Int64 := (if 0 < Ml_s q4 a1 (nI k) ∧ 0 ≤ Ml_k q4 a1 (nI k) then (if fo = (-2) then ((nI k), (Ab64 (Mf_u (Ml_n (nI k)) (Ml_s q4 a1 (nI k)) q4 a1)), (Ml_n (nI k))) else (if (up * (Ml_n (nI k))) ≤ ((Ab64 (Mf_u (Ml_n (nI k)) (Ml_s q4 a1 (nI k)) q4 a1)) * dn) then (fo, up, dn) else ((nI k), (Ab64 (Mf_u (Ml_n (nI k)) (Ml_s q4 a1 (nI k)) q4 a1)), (Ml_n (nI k))))) else (fo, up, dn))
set_option maxHeartbeats 400000 in
theorem lp_mea {wc : List ax_E} {m_thrown m_trouble m_fault m_where m_taped m_linkMany m_tracerMany m_pointMany m_pairMany m_readLinks m_readTracers m_readPoints m_readPairs m_textLong m_at m_spot m_token m_whole m_readFault m_readPlace m_value m_curveMany m_cornerMany m_straightAt m_walkLink m_walkAngle m_walkBranch m_walkMany m_lined m_actMany a1 : Int32} {m_fitUp m_fitDown m_worstUp m_worstDown : Int64} {z3 z5 z6 z7 z8 z9 z10 z11 z12 z13 z14 z15 z16 z17 z18 z19 z20 : ax_E} {q4 : Nat → Int32} {Q : Option Value → ax_W → Prop} {B : Nat} (hB : B = 40) (h_i : 0 ≤ a1 ∧ a1 < m_linkMany) (h_l : 0 ≤ m_linkMany ∧ m_linkMany ≤ nI 4) : ∀ (n k : Nat) (fo : Int32) (up : Int64) (dn : Int64) (gm : Nat → Int64), k + n = B → (∀ (gm : Nat → Int64), Ab M_X11_easiest Q (0, 0) 99 [(7, .int (nI B)), (5, .long ((itr (fun k s => lp_mea_st q4 a1 k s.1 s.2.1 s.2.2) n k (fo, up, dn)).2.2)), (3, .long ((itr (fun k s => lp_mea_st q4 a1 k s.1 s.2.1 s.2.2) n k (fo, up, dn)).2.1)), (2, .int ((itr (fun k s => lp_mea_st q4 a1 k s.1 s.2.1 s.2.2) n k (fo, up, dn)).1)), (1, .int a1), (0, .ref 1000)] [] (wc, [ob 9 [.int m_thrown, .int m_trouble, .int m_fault, .int m_where, .ref 1001, .ref 1002, .int 40, .ref 1003, .int m_taped, .int m_linkMany, .int m_tracerMany, .int m_pointMany, .int m_pairMany, .ref 1004, .ref 1005, .ref 1006, .ref 1007, .int m_readLinks, .int m_readTracers, .int m_readPoints, .int m_readPairs, .ref 1008, .ref 1009, .ref 1010, .ref 1011, .int m_textLong, .int m_at, .int m_spot, .int m_token, .int m_whole, .int m_readFault, .int m_readPlace, .int m_value, .long (gm 33), .long (gm 34), .long (gm 35), .long (gm 36), .long (gm 37), .long (gm 38), .long (gm 39), .long (gm 40), .long (gm 41), .long (gm 42), .ref 1012, .ref 1013, .ref 1014, .int m_curveMany, .ref 1015, .int m_cornerMany, .int m_straightAt, .ref 1016, .long m_fitUp, .long m_fitDown, .long m_worstUp, .long m_worstDown, .ref 1017, .int m_walkLink, .int m_walkAngle, .int m_walkBranch, .int m_walkMany, .ref 1018, .ref 1019, .int m_lined, .ref 1020, .int m_actMany], ia 64 (ax_tab 0), ia 64 (ax_tab 1), z3, ia 16 q4, z5, z6, z7, z8, z9, z10, z11, z12, z13, z14, z15, z16, z17, z18, z19, z20])) → Ab M_X11_easiest Q (0, 0) 29 [(7, .int (nI k)), (5, .long dn), (3, .long up), (2, .int fo), (1, .int a1), (0, .ref 1000)] [] (wc, [ob 9 [.int m_thrown, .int m_trouble, .int m_fault, .int m_where, .ref 1001, .ref 1002, .int 40, .ref 1003, .int m_taped, .int m_linkMany, .int m_tracerMany, .int m_pointMany, .int m_pairMany, .ref 1004, .ref 1005, .ref 1006, .ref 1007, .int m_readLinks, .int m_readTracers, .int m_readPoints, .int m_readPairs, .ref 1008, .ref 1009, .ref 1010, .ref 1011, .int m_textLong, .int m_at, .int m_spot, .int m_token, .int m_whole, .int m_readFault, .int m_readPlace, .int m_value, .long (gm 33), .long (gm 34), .long (gm 35), .long (gm 36), .long (gm 37), .long (gm 38), .long (gm 39), .long (gm 40), .long (gm 41), .long (gm 42), .ref 1012, .ref 1013, .ref 1014, .int m_curveMany, .ref 1015, .int m_cornerMany, .int m_straightAt, .ref 1016, .long m_fitUp, .long m_fitDown, .long m_worstUp, .long m_worstDown, .ref 1017, .int m_walkLink, .int m_walkAngle, .int m_walkBranch, .int m_walkMany, .ref 1018, .ref 1019, .int m_lined, .ref 1020, .int m_actMany], ia 64 (ax_tab 0), ia 64 (ax_tab 1), z3, ia 16 q4, z5, z6, z7, z8, z9, z10, z11, z12, z13, z14, z15, z16, z17, z18, z19, z20]) := by
  intro n
  induction n with
  | zero =>
    intro k fo up dn gm hk hx
    rw [itr_0] at hx
    rw [show k = B by omega]
    refine ab_iload dX11_easiest_29 rfl ?_
    refine ab_aload_n dX11_easiest_31 rfl ?_
    refine ab_getf dX11_easiest_32 fl_X11_101 rfl rfl ?_
    refine ab_icmpge 99 dX11_easiest_35 (by decide) (fun h_1 => ?_) (fun h_1 => absurd (nI_le (a := 40) (by omega) (by omega)) h_1)
    refine ab_pick [0, 1, 2, 3, 4, 5] rfl ?_
    exact hx gm
  | succ n ih =>
    intro k fo up dn gm hk hx
    have hkk : 0 ≤ nI k ∧ nI k < 40 := ⟨nI_pos' (by omega), nI_lt (b := 40) (by omega) (by decide)⟩
    refine ab_iload dX11_easiest_29 rfl ?_
    refine ab_aload_n dX11_easiest_31 rfl ?_
    refine ab_getf dX11_easiest_32 fl_X11_101 rfl rfl ?_
    refine ab_icmpge 99 dX11_easiest_35 (by decide) (fun h_1 => absurd h_1 (nI_ge (a := k) (b := 40) (by omega) (by omega))) (fun h_1 => ?_)
    refine ab_aload_n dX11_easiest_38 rfl ?_
    refine ab_iload_n dX11_easiest_39 rfl ?_
    refine ab_iload dX11_easiest_40 rfl ?_
    refine ab_callV (As := [.int a1, .int (nI k)]) (rest := []) dX11_easiest_42 mv_X11_isLawful ml_X11_318 ⟨by decide, by decide, rfl, rfl, rfl⟩ (by decide) rfl rfl (Nat.le_of_ble_eq_true rfl) rfl (c_X11_isLawful h_i h_l hkk) ?_
    rintro r w' (⟨c_2, rfl, rfl⟩ | ⟨c_3, rfl, rfl⟩)
    · refine ab_ifeq 93 dX11_easiest_45 (by decide) (fun h_4 => absurd h_4 (by decide)) (fun h_4 => ?_)
      refine ab_iload_n dX11_easiest_48 rfl ?_
      refine ab_bipush (v := -2) dX11_easiest_49 (by decide) ?_
      refine ab_icmpeq 75 dX11_easiest_51 (by decide) (fun h_5 => ?_) (fun h_5 => ?_)
      · refine ab_iload dX11_easiest_75 rfl ?_
        refine ab_istore_n (la' := [(2, .int (nI k)), (7, .int (nI k)), (5, .long dn), (3, .long up), (1, .int a1), (0, .ref 1000)]) dX11_easiest_77 (by decide) rfl ?_
        refine ab_aload_n dX11_easiest_78 rfl ?_
        refine ab_iload_n dX11_easiest_79 rfl ?_
        refine ab_callV (As := [.int a1]) (rest := []) dX11_easiest_80 mv_X11_forceUp ml_X11_399 ⟨by decide, by decide, rfl, rfl, rfl⟩ (by decide) rfl rfl (Nat.le_of_ble_eq_true rfl) rfl (c_X11_forceUp h_i h_l) ?_
        rintro r w' ⟨rfl, rfl⟩
        refine ab_callS (As := [.long (Mf_u (Ml_n (nI k)) (Ml_s q4 a1 (nI k)) q4 a1)]) (rest := []) dX11_easiest_83 ms_X11_plain ml_X11_7 ⟨by decide, by decide, rfl, rfl, rfl⟩ (by decide) rfl rfl (Nat.le_of_ble_eq_true rfl) c_X11_plain_t ?_
        rintro r w' ⟨rfl, rfl⟩
        refine ab_lstore_n (la' := [(3, .long (Ab64 (Mf_u (Ml_n (nI k)) (Ml_s q4 a1 (nI k)) q4 a1))), (2, .int (nI k)), (7, .int (nI k)), (5, .long dn), (1, .int a1), (0, .ref 1000)]) dX11_easiest_86 (by decide) rfl ?_
        refine ab_aload_n dX11_easiest_87 rfl ?_
        refine ab_getf dX11_easiest_88 fl_X11_328 rfl rfl ?_
        refine ab_lstore (la' := [(5, .long (Ml_n (nI k))), (3, .long (Ab64 (Mf_u (Ml_n (nI k)) (Ml_s q4 a1 (nI k)) q4 a1))), (2, .int (nI k)), (7, .int (nI k)), (1, .int a1), (0, .ref 1000)]) dX11_easiest_91 (by decide) rfl ?_
        refine ab_iinc (v := (nI (k + 1))) (la' := [(7, .int (nI (k + 1))), (5, .long (Ml_n (nI k))), (3, .long (Ab64 (Mf_u (Ml_n (nI k)) (Ml_s q4 a1 (nI k)) q4 a1))), (2, .int (nI k)), (1, .int a1), (0, .ref 1000)]) dX11_easiest_93 rfl (nI_1 _) (by decide) rfl ?_
        refine ab_goto 29 dX11_easiest_96 (by decide) ?_
        refine ab_pick [0, 1, 2, 3, 4, 5] rfl ?_
        rw [(itr_s (fun k s => lp_mea_st q4 a1 k s.1 s.2.1 s.2.2) n k (fo, up, dn)).trans (congrArg (itr (fun k s => lp_mea_st q4 a1 k s.1 s.2.1 s.2.2) n (k + 1)) (show lp_mea_st q4 a1 k fo up dn = ((nI k), (Ab64 (Mf_u (Ml_n (nI k)) (Ml_s q4 a1 (nI k)) q4 a1)), (Ml_n (nI k))) from by rw [lp_mea_st, if_pos (show 0 < Ml_s q4 a1 (nI k) ∧ 0 ≤ Ml_k q4 a1 (nI k) from c_2), if_pos (show fo = (-2) from h_5)]))] at hx
        exact ih (k + 1) (nI k) (Ab64 (Mf_u (Ml_n (nI k)) (Ml_s q4 a1 (nI k)) q4 a1)) (Ml_n (nI k)) (fun i => [(Ml_n (nI k)), (Ml_c (nI k)), (Ml_d (nI k)), (Ml_s q4 a1 (nI k)), (Ml_e q4 a1 (nI k)), (Ml_k q4 a1 (nI k)), (Ml_x q4 a1 (nI k)), (Ml_y q4 a1 (nI k)), (Int32.toInt64 (Bg q4 a1)), (Int32.toInt64 (Ba q4 a1))].getD (i - 33) 0) (by omega) hx
      · refine ab_aload_n dX11_easiest_54 rfl ?_
        refine ab_iload_n dX11_easiest_55 rfl ?_
        refine ab_callV (As := [.int a1]) (rest := []) dX11_easiest_56 mv_X11_forceUp ml_X11_399 ⟨by decide, by decide, rfl, rfl, rfl⟩ (by decide) rfl rfl (Nat.le_of_ble_eq_true rfl) rfl (c_X11_forceUp h_i h_l) ?_
        rintro r w' ⟨rfl, rfl⟩
        refine ab_callS (As := [.long (Mf_u (Ml_n (nI k)) (Ml_s q4 a1 (nI k)) q4 a1)]) (rest := []) dX11_easiest_59 ms_X11_plain ml_X11_7 ⟨by decide, by decide, rfl, rfl, rfl⟩ (by decide) rfl rfl (Nat.le_of_ble_eq_true rfl) c_X11_plain_t ?_
        rintro r w' ⟨rfl, rfl⟩
        refine ab_lload dX11_easiest_62 rfl ?_
        refine ab_lmul dX11_easiest_64 ?_
        refine ab_lload_n dX11_easiest_65 rfl ?_
        refine ab_aload_n dX11_easiest_66 rfl ?_
        refine ab_getf dX11_easiest_67 fl_X11_328 rfl rfl ?_
        refine ab_lmul dX11_easiest_70 ?_
        refine ab_lcmpge 93 dX11_easiest_71 dX11_easiest_72 (by decide) (fun h_6 => ?_) (fun h_6 => ?_)
        · refine ab_iinc (v := (nI (k + 1))) (la' := [(7, .int (nI (k + 1))), (5, .long dn), (3, .long up), (2, .int fo), (1, .int a1), (0, .ref 1000)]) dX11_easiest_93 rfl (nI_1 _) (by decide) rfl ?_
          refine ab_goto 29 dX11_easiest_96 (by decide) ?_
          refine ab_pick [0, 1, 2, 3, 4, 5] rfl ?_
          rw [(itr_s (fun k s => lp_mea_st q4 a1 k s.1 s.2.1 s.2.2) n k (fo, up, dn)).trans (congrArg (itr (fun k s => lp_mea_st q4 a1 k s.1 s.2.1 s.2.2) n (k + 1)) (show lp_mea_st q4 a1 k fo up dn = (fo, up, dn) from by rw [lp_mea_st, if_pos (show 0 < Ml_s q4 a1 (nI k) ∧ 0 ≤ Ml_k q4 a1 (nI k) from c_2), if_neg (show ¬ fo = (-2) from h_5), if_pos (show (up * (Ml_n (nI k))) ≤ ((Ab64 (Mf_u (Ml_n (nI k)) (Ml_s q4 a1 (nI k)) q4 a1)) * dn) from h_6)]))] at hx
          exact ih (k + 1) fo up dn (fun i => [(Ml_n (nI k)), (Ml_c (nI k)), (Ml_d (nI k)), (Ml_s q4 a1 (nI k)), (Ml_e q4 a1 (nI k)), (Ml_k q4 a1 (nI k)), (Ml_x q4 a1 (nI k)), (Ml_y q4 a1 (nI k)), (Int32.toInt64 (Bg q4 a1)), (Int32.toInt64 (Ba q4 a1))].getD (i - 33) 0) (by omega) hx
        · refine ab_iload dX11_easiest_75 rfl ?_
          refine ab_istore_n (la' := [(2, .int (nI k)), (7, .int (nI k)), (5, .long dn), (3, .long up), (1, .int a1), (0, .ref 1000)]) dX11_easiest_77 (by decide) rfl ?_
          refine ab_aload_n dX11_easiest_78 rfl ?_
          refine ab_iload_n dX11_easiest_79 rfl ?_
          refine ab_callV (As := [.int a1]) (rest := []) dX11_easiest_80 mv_X11_forceUp ml_X11_399 ⟨by decide, by decide, rfl, rfl, rfl⟩ (by decide) rfl rfl (Nat.le_of_ble_eq_true rfl) rfl (c_X11_forceUp h_i h_l) ?_
          rintro r w' ⟨rfl, rfl⟩
          refine ab_callS (As := [.long (Mf_u (Ml_n (nI k)) (Ml_s q4 a1 (nI k)) q4 a1)]) (rest := []) dX11_easiest_83 ms_X11_plain ml_X11_7 ⟨by decide, by decide, rfl, rfl, rfl⟩ (by decide) rfl rfl (Nat.le_of_ble_eq_true rfl) c_X11_plain_t ?_
          rintro r w' ⟨rfl, rfl⟩
          refine ab_lstore_n (la' := [(3, .long (Ab64 (Mf_u (Ml_n (nI k)) (Ml_s q4 a1 (nI k)) q4 a1))), (2, .int (nI k)), (7, .int (nI k)), (5, .long dn), (1, .int a1), (0, .ref 1000)]) dX11_easiest_86 (by decide) rfl ?_
          refine ab_aload_n dX11_easiest_87 rfl ?_
          refine ab_getf dX11_easiest_88 fl_X11_328 rfl rfl ?_
          refine ab_lstore (la' := [(5, .long (Ml_n (nI k))), (3, .long (Ab64 (Mf_u (Ml_n (nI k)) (Ml_s q4 a1 (nI k)) q4 a1))), (2, .int (nI k)), (7, .int (nI k)), (1, .int a1), (0, .ref 1000)]) dX11_easiest_91 (by decide) rfl ?_
          refine ab_iinc (v := (nI (k + 1))) (la' := [(7, .int (nI (k + 1))), (5, .long (Ml_n (nI k))), (3, .long (Ab64 (Mf_u (Ml_n (nI k)) (Ml_s q4 a1 (nI k)) q4 a1))), (2, .int (nI k)), (1, .int a1), (0, .ref 1000)]) dX11_easiest_93 rfl (nI_1 _) (by decide) rfl ?_
          refine ab_goto 29 dX11_easiest_96 (by decide) ?_
          refine ab_pick [0, 1, 2, 3, 4, 5] rfl ?_
          rw [(itr_s (fun k s => lp_mea_st q4 a1 k s.1 s.2.1 s.2.2) n k (fo, up, dn)).trans (congrArg (itr (fun k s => lp_mea_st q4 a1 k s.1 s.2.1 s.2.2) n (k + 1)) (show lp_mea_st q4 a1 k fo up dn = ((nI k), (Ab64 (Mf_u (Ml_n (nI k)) (Ml_s q4 a1 (nI k)) q4 a1)), (Ml_n (nI k))) from by rw [lp_mea_st, if_pos (show 0 < Ml_s q4 a1 (nI k) ∧ 0 ≤ Ml_k q4 a1 (nI k) from c_2), if_neg (show ¬ fo = (-2) from h_5), if_neg (show ¬ (up * (Ml_n (nI k))) ≤ ((Ab64 (Mf_u (Ml_n (nI k)) (Ml_s q4 a1 (nI k)) q4 a1)) * dn) from h_6)]))] at hx
          exact ih (k + 1) (nI k) (Ab64 (Mf_u (Ml_n (nI k)) (Ml_s q4 a1 (nI k)) q4 a1)) (Ml_n (nI k)) (fun i => [(Ml_n (nI k)), (Ml_c (nI k)), (Ml_d (nI k)), (Ml_s q4 a1 (nI k)), (Ml_e q4 a1 (nI k)), (Ml_k q4 a1 (nI k)), (Ml_x q4 a1 (nI k)), (Ml_y q4 a1 (nI k)), (Int32.toInt64 (Bg q4 a1)), (Int32.toInt64 (Ba q4 a1))].getD (i - 33) 0) (by omega) hx
    · refine ab_ifeq 93 dX11_easiest_45 (by decide) (fun h_7 => ?_) (fun h_7 => absurd (by decide) h_7)
      refine ab_iinc (v := (nI (k + 1))) (la' := [(7, .int (nI (k + 1))), (5, .long dn), (3, .long up), (2, .int fo), (1, .int a1), (0, .ref 1000)]) dX11_easiest_93 rfl (nI_1 _) (by decide) rfl ?_
      refine ab_goto 29 dX11_easiest_96 (by decide) ?_
      refine ab_pick [0, 1, 2, 3, 4, 5] rfl ?_
      rw [(itr_s (fun k s => lp_mea_st q4 a1 k s.1 s.2.1 s.2.2) n k (fo, up, dn)).trans (congrArg (itr (fun k s => lp_mea_st q4 a1 k s.1 s.2.1 s.2.2) n (k + 1)) (show lp_mea_st q4 a1 k fo up dn = (fo, up, dn) from by rw [lp_mea_st, if_neg (show ¬ (0 < Ml_s q4 a1 (nI k) ∧ 0 ≤ Ml_k q4 a1 (nI k)) from c_3)]))] at hx
      exact ih (k + 1) fo up dn (fun i => [(Ml_n (nI k)), (Ml_c (nI k)), (Ml_d (nI k)), (Ml_s q4 a1 (nI k)), (Ml_e q4 a1 (nI k)), (Ml_k q4 a1 (nI k)), (Ml_x q4 a1 (nI k)), (Ml_y q4 a1 (nI k)), (Int32.toInt64 (Bg q4 a1)), (Int32.toInt64 (Ba q4 a1))].getD (i - 33) 0) (by omega) hx
theorem c_X11_easiest {wc : List ax_E} {m_thrown m_trouble m_fault m_where m_taped m_linkMany m_tracerMany m_pointMany m_pairMany m_readLinks m_readTracers m_readPoints m_readPairs m_textLong m_at m_spot m_token m_whole m_readFault m_readPlace m_value m_curveMany m_cornerMany m_straightAt m_walkLink m_walkAngle m_walkBranch m_walkMany m_lined m_actMany a1 : Int32} {m_n m_c m_d m_s m_e m_k m_x m_y m_g m_a m_fitUp m_fitDown m_worstUp m_worstDown : Int64} {z3 z5 z6 z7 z8 z9 z10 z11 z12 z13 z14 z15 z16 z17 z18 z19 z20 : ax_E} {q4 : Nat → Int32} (h_l : 0 ≤ m_linkMany ∧ m_linkMany ≤ nI 4) : Ct M_X11_easiest [.ref 1000, .int a1] (wc, [ob 9 [.int m_thrown, .int m_trouble, .int m_fault, .int m_where, .ref 1001, .ref 1002, .int 40, .ref 1003, .int m_taped, .int m_linkMany, .int m_tracerMany, .int m_pointMany, .int m_pairMany, .ref 1004, .ref 1005, .ref 1006, .ref 1007, .int m_readLinks, .int m_readTracers, .int m_readPoints, .int m_readPairs, .ref 1008, .ref 1009, .ref 1010, .ref 1011, .int m_textLong, .int m_at, .int m_spot, .int m_token, .int m_whole, .int m_readFault, .int m_readPlace, .int m_value, .long m_n, .long m_c, .long m_d, .long m_s, .long m_e, .long m_k, .long m_x, .long m_y, .long m_g, .long m_a, .ref 1012, .ref 1013, .ref 1014, .int m_curveMany, .ref 1015, .int m_cornerMany, .int m_straightAt, .ref 1016, .long m_fitUp, .long m_fitDown, .long m_worstUp, .long m_worstDown, .ref 1017, .int m_walkLink, .int m_walkAngle, .int m_walkBranch, .int m_walkMany, .ref 1018, .ref 1019, .int m_lined, .ref 1020, .int m_actMany], ia 64 (ax_tab 0), ia 64 (ax_tab 1), z3, ia 16 q4, z5, z6, z7, z8, z9, z10, z11, z12, z13, z14, z15, z16, z17, z18, z19, z20]) (fun r w' => (∃ gm_4 : Nat → Int64, (0 ≤ a1 ∧ a1 < m_linkMany) ∧ r = some (.int ((itr (fun k s => lp_mea_st q4 a1 k s.1 s.2.1 s.2.2) 40 0 ((-2), 0, 1)).1)) ∧ w' = (wc, [ob 9 [.int 0, .int 0, .int m_fault, .int (-1), .ref 1001, .ref 1002, .int 40, .ref 1003, .int m_taped, .int m_linkMany, .int m_tracerMany, .int m_pointMany, .int m_pairMany, .ref 1004, .ref 1005, .ref 1006, .ref 1007, .int m_readLinks, .int m_readTracers, .int m_readPoints, .int m_readPairs, .ref 1008, .ref 1009, .ref 1010, .ref 1011, .int m_textLong, .int m_at, .int m_spot, .int m_token, .int m_whole, .int m_readFault, .int m_readPlace, .int m_value, .long (gm_4 33), .long (gm_4 34), .long (gm_4 35), .long (gm_4 36), .long (gm_4 37), .long (gm_4 38), .long (gm_4 39), .long (gm_4 40), .long (gm_4 41), .long (gm_4 42), .ref 1012, .ref 1013, .ref 1014, .int m_curveMany, .ref 1015, .int m_cornerMany, .int m_straightAt, .ref 1016, .long m_fitUp, .long m_fitDown, .long m_worstUp, .long m_worstDown, .ref 1017, .int m_walkLink, .int m_walkAngle, .int m_walkBranch, .int m_walkMany, .ref 1018, .ref 1019, .int m_lined, .ref 1020, .int m_actMany], ia 64 (ax_tab 0), ia 64 (ax_tab 1), z3, ia 16 q4, z5, z6, z7, z8, z9, z10, z11, z12, z13, z14, z15, z16, z17, z18, z19, z20])) ∨ ((¬ (0 ≤ a1 ∧ a1 < m_linkMany)) ∧ r = some (.int (-1)) ∧ w' = (wc, [ob 9 [.int 0, .int 1, .int m_fault, .int (-1), .ref 1001, .ref 1002, .int 40, .ref 1003, .int m_taped, .int m_linkMany, .int m_tracerMany, .int m_pointMany, .int m_pairMany, .ref 1004, .ref 1005, .ref 1006, .ref 1007, .int m_readLinks, .int m_readTracers, .int m_readPoints, .int m_readPairs, .ref 1008, .ref 1009, .ref 1010, .ref 1011, .int m_textLong, .int m_at, .int m_spot, .int m_token, .int m_whole, .int m_readFault, .int m_readPlace, .int m_value, .long m_n, .long m_c, .long m_d, .long m_s, .long m_e, .long m_k, .long m_x, .long m_y, .long m_g, .long m_a, .ref 1012, .ref 1013, .ref 1014, .int m_curveMany, .ref 1015, .int m_cornerMany, .int m_straightAt, .ref 1016, .long m_fitUp, .long m_fitDown, .long m_worstUp, .long m_worstDown, .ref 1017, .int m_walkLink, .int m_walkAngle, .int m_walkBranch, .int m_walkMany, .ref 1018, .ref 1019, .int m_lined, .ref 1020, .int m_actMany], ia 64 (ax_tab 0), ia 64 (ax_tab 1), z3, ia 16 q4, z5, z6, z7, z8, z9, z10, z11, z12, z13, z14, z15, z16, z17, z18, z19, z20]))) := by
  refine ct_of ⟨by decide, rfl⟩ (Nat.le_of_ble_eq_true rfl) ?_
  refine ab_aload_n dX11_easiest_0 rfl ?_
  refine ab_callV (As := []) (rest := []) dX11_easiest_1 mv_X11_anew ml_X11_104 ⟨by decide, by decide, rfl, rfl, rfl⟩ (by decide) rfl rfl (Nat.le_of_ble_eq_true rfl) rfl c_X11_anew ?_
  rintro r w' ⟨rfl, rfl⟩
  refine ab_aload_n dX11_easiest_4 rfl ?_
  refine ab_iload_n dX11_easiest_5 rfl ?_
  refine ab_callV (As := [.int a1]) (rest := []) dX11_easiest_6 mv_X11_isLink ml_X11_265 ⟨by decide, by decide, rfl, rfl, rfl⟩ (by decide) rfl rfl (Nat.le_of_ble_eq_true rfl) rfl (c_X11_isLink h_l) ?_
  rintro r w' (⟨c_1, rfl, rfl⟩ | ⟨c_2, rfl, rfl⟩)
  · refine ab_ifne 18 dX11_easiest_9 (by decide) (fun h_3 => ?_) (fun h_3 => absurd h_3 (by decide))
    refine ab_bipush (v := -2) dX11_easiest_18 (by decide) ?_
    refine ab_istore_n (la' := [(2, .int (-2)), (0, .ref 1000), (1, .int a1)]) dX11_easiest_20 (by decide) rfl ?_
    refine ab_lconst (v := 0) dX11_easiest_21 (by decide) ?_
    refine ab_lstore_n (la' := [(3, .long 0), (2, .int (-2)), (0, .ref 1000), (1, .int a1)]) dX11_easiest_22 (by decide) rfl ?_
    refine ab_lconst (v := 1) dX11_easiest_23 (by decide) ?_
    refine ab_lstore (la' := [(5, .long 1), (3, .long 0), (2, .int (-2)), (0, .ref 1000), (1, .int a1)]) dX11_easiest_24 (by decide) rfl ?_
    refine ab_iconst (v := 0) dX11_easiest_26 (by decide) ?_
    refine ab_istore (la' := [(7, .int 0), (5, .long 1), (3, .long 0), (2, .int (-2)), (0, .ref 1000), (1, .int a1)]) dX11_easiest_27 (by decide) rfl ?_
    refine ab_pick [0, 1, 2, 3, 5, 4] rfl ?_
    refine lp_mea (B := 40) rfl c_1 h_l 40 0 (-2) 0 1 (fun i => [m_n, m_c, m_d, m_s, m_e, m_k, m_x, m_y, m_g, m_a].getD (i - 33) 0) (by omega) ?_
    intro gm_4
    refine ab_iload_n dX11_easiest_99 rfl ?_
    exact ab_iret dX11_easiest_100 rfl (by decide) (Or.inl ⟨gm_4, c_1, rfl, rfl⟩)
  · refine ab_ifne 18 dX11_easiest_9 (by decide) (fun h_5 => absurd (by decide) h_5) (fun h_5 => ?_)
    refine ab_aload_n dX11_easiest_12 rfl ?_
    refine ab_iconst (v := 1) dX11_easiest_13 (by decide) ?_
    refine ab_callV (As := [.int 1]) (rest := []) dX11_easiest_14 mv_X11_no ml_X11_115 ⟨by decide, by decide, rfl, rfl, rfl⟩ (by decide) rfl rfl (Nat.le_of_ble_eq_true rfl) rfl c_X11_no ?_
    rintro r w' ⟨rfl, rfl⟩
    exact ab_iret dX11_easiest_17 rfl (by decide) (Or.inr (⟨c_2, rfl, rfl⟩))
abbrev IsJ (u v w t k : Int64) : Prop := ((t * w - u = 0 ∨ v = 0 ∨ k = 0) ∧ t * w - u = 0 ∧ (v = 0 ∨ k = 0)) ∨ (¬ (t * w - u = 0 ∨ v = 0 ∨ k = 0) ∧ (0 < t * w - u ↔ 0 < v) ∧ Ab64 (t * w - u) < 3000000000 ∧ (t * w - u) * (t * w - u) = v * v * k)
theorem c_X11_isJust_b {wc : List ax_E} {m_thrown m_trouble m_fault m_where m_taped m_linkMany m_tracerMany m_pointMany m_pairMany m_readLinks m_readTracers m_readPoints m_readPairs m_textLong m_at m_spot m_token m_whole m_readFault m_readPlace m_value m_curveMany m_cornerMany m_straightAt m_walkLink m_walkAngle m_walkBranch m_walkMany m_lined m_actMany : Int32} {m_n m_c m_d m_s m_e m_k m_x m_y m_g m_a m_fitUp m_fitDown m_worstUp m_worstDown a1 a2 a3 a4 : Int64} {z1 z2 z3 z4 z5 z6 z7 z8 z9 z10 z11 z12 z13 z14 z15 z16 z17 z18 z19 z20 : ax_E}  : Ct M_X11_isJust [.ref 1000, .long a1, .long a2, .long a3, .long a4] (wc, [ob 9 [.int m_thrown, .int m_trouble, .int m_fault, .int m_where, .ref 1001, .ref 1002, .int 40, .ref 1003, .int m_taped, .int m_linkMany, .int m_tracerMany, .int m_pointMany, .int m_pairMany, .ref 1004, .ref 1005, .ref 1006, .ref 1007, .int m_readLinks, .int m_readTracers, .int m_readPoints, .int m_readPairs, .ref 1008, .ref 1009, .ref 1010, .ref 1011, .int m_textLong, .int m_at, .int m_spot, .int m_token, .int m_whole, .int m_readFault, .int m_readPlace, .int m_value, .long m_n, .long m_c, .long m_d, .long m_s, .long m_e, .long m_k, .long m_x, .long m_y, .long m_g, .long m_a, .ref 1012, .ref 1013, .ref 1014, .int m_curveMany, .ref 1015, .int m_cornerMany, .int m_straightAt, .ref 1016, .long m_fitUp, .long m_fitDown, .long m_worstUp, .long m_worstDown, .ref 1017, .int m_walkLink, .int m_walkAngle, .int m_walkBranch, .int m_walkMany, .ref 1018, .ref 1019, .int m_lined, .ref 1020, .int m_actMany], z1, z2, z3, z4, z5, z6, z7, z8, z9, z10, z11, z12, z13, z14, z15, z16, z17, z18, z19, z20]) (fun r w' => ((IsJ a1 a2 a3 a4 m_k) ∧ r = some (.int 1) ∧ w' = (wc, [ob 9 [.int m_thrown, .int m_trouble, .int m_fault, .int m_where, .ref 1001, .ref 1002, .int 40, .ref 1003, .int m_taped, .int m_linkMany, .int m_tracerMany, .int m_pointMany, .int m_pairMany, .ref 1004, .ref 1005, .ref 1006, .ref 1007, .int m_readLinks, .int m_readTracers, .int m_readPoints, .int m_readPairs, .ref 1008, .ref 1009, .ref 1010, .ref 1011, .int m_textLong, .int m_at, .int m_spot, .int m_token, .int m_whole, .int m_readFault, .int m_readPlace, .int m_value, .long m_n, .long m_c, .long m_d, .long m_s, .long m_e, .long m_k, .long m_x, .long m_y, .long m_g, .long m_a, .ref 1012, .ref 1013, .ref 1014, .int m_curveMany, .ref 1015, .int m_cornerMany, .int m_straightAt, .ref 1016, .long m_fitUp, .long m_fitDown, .long m_worstUp, .long m_worstDown, .ref 1017, .int m_walkLink, .int m_walkAngle, .int m_walkBranch, .int m_walkMany, .ref 1018, .ref 1019, .int m_lined, .ref 1020, .int m_actMany], z1, z2, z3, z4, z5, z6, z7, z8, z9, z10, z11, z12, z13, z14, z15, z16, z17, z18, z19, z20])) ∨ ((¬ (IsJ a1 a2 a3 a4 m_k)) ∧ r = some (.int 0) ∧ w' = (wc, [ob 9 [.int m_thrown, .int m_trouble, .int m_fault, .int m_where, .ref 1001, .ref 1002, .int 40, .ref 1003, .int m_taped, .int m_linkMany, .int m_tracerMany, .int m_pointMany, .int m_pairMany, .ref 1004, .ref 1005, .ref 1006, .ref 1007, .int m_readLinks, .int m_readTracers, .int m_readPoints, .int m_readPairs, .ref 1008, .ref 1009, .ref 1010, .ref 1011, .int m_textLong, .int m_at, .int m_spot, .int m_token, .int m_whole, .int m_readFault, .int m_readPlace, .int m_value, .long m_n, .long m_c, .long m_d, .long m_s, .long m_e, .long m_k, .long m_x, .long m_y, .long m_g, .long m_a, .ref 1012, .ref 1013, .ref 1014, .int m_curveMany, .ref 1015, .int m_cornerMany, .int m_straightAt, .ref 1016, .long m_fitUp, .long m_fitDown, .long m_worstUp, .long m_worstDown, .ref 1017, .int m_walkLink, .int m_walkAngle, .int m_walkBranch, .int m_walkMany, .ref 1018, .ref 1019, .int m_lined, .ref 1020, .int m_actMany], z1, z2, z3, z4, z5, z6, z7, z8, z9, z10, z11, z12, z13, z14, z15, z16, z17, z18, z19, z20]))) := by
  refine ct_of ⟨by decide, rfl⟩ (Nat.le_of_ble_eq_true rfl) ?_
  refine ab_lload dX11_isJust_0 rfl ?_
  refine ab_lload dX11_isJust_2 rfl ?_
  refine ab_lmul dX11_isJust_4 ?_
  refine ab_lload_n dX11_isJust_5 rfl ?_
  refine ab_lsub dX11_isJust_6 ?_
  refine ab_lstore (la' := [(9, .long ((a4 * a3) - a1)), (0, .ref 1000), (1, .long a1), (3, .long a2), (5, .long a3), (7, .long a4)]) dX11_isJust_7 (by decide) rfl ?_
  refine ab_lload dX11_isJust_9 rfl ?_
  refine ab_lconst (v := 0) dX11_isJust_11 (by decide) ?_
  refine ab_lcmpeq 31 dX11_isJust_12 dX11_isJust_13 (by decide) (fun h_1 => ?_) (fun h_1 => ?_)
  · refine ab_lload dX11_isJust_31 rfl ?_
    refine ab_lconst (v := 0) dX11_isJust_33 (by decide) ?_
    refine ab_lcmpne 57 dX11_isJust_34 dX11_isJust_35 (by decide) (fun h_2 => absurd h_1 h_2) (fun h_2 => ?_)
    refine ab_lload_n dX11_isJust_38 rfl ?_
    refine ab_lconst (v := 0) dX11_isJust_39 (by decide) ?_
    refine ab_lcmpeq 53 dX11_isJust_40 dX11_isJust_41 (by decide) (fun h_3 => ?_) (fun h_3 => ?_)
    · refine ab_iconst (v := 1) dX11_isJust_53 (by decide) ?_
      refine ab_goto 58 dX11_isJust_54 (by decide) ?_
      exact ab_zret dX11_isJust_58 rfl rfl (by decide) (Or.inl (⟨(by grind), rfl, rfl⟩))
    · refine ab_aload_n dX11_isJust_44 rfl ?_
      refine ab_getf dX11_isJust_45 fl_X11_321 rfl rfl ?_
      refine ab_lconst (v := 0) dX11_isJust_48 (by decide) ?_
      refine ab_lcmpne 57 dX11_isJust_49 dX11_isJust_50 (by decide) (fun h_4 => ?_) (fun h_4 => ?_)
      · refine ab_iconst (v := 0) dX11_isJust_57 (by decide) ?_
        exact ab_zret dX11_isJust_58 rfl rfl (by decide) (Or.inr (⟨(by grind), rfl, rfl⟩))
      · refine ab_iconst (v := 1) dX11_isJust_53 (by decide) ?_
        refine ab_goto 58 dX11_isJust_54 (by decide) ?_
        exact ab_zret dX11_isJust_58 rfl rfl (by decide) (Or.inl (⟨(by grind), rfl, rfl⟩))
  · refine ab_lload_n dX11_isJust_16 rfl ?_
    refine ab_lconst (v := 0) dX11_isJust_17 (by decide) ?_
    refine ab_lcmpeq 31 dX11_isJust_18 dX11_isJust_19 (by decide) (fun h_5 => ?_) (fun h_5 => ?_)
    · refine ab_lload dX11_isJust_31 rfl ?_
      refine ab_lconst (v := 0) dX11_isJust_33 (by decide) ?_
      refine ab_lcmpne 57 dX11_isJust_34 dX11_isJust_35 (by decide) (fun h_6 => ?_) (fun h_6 => absurd h_6 h_1)
      refine ab_iconst (v := 0) dX11_isJust_57 (by decide) ?_
      exact ab_zret dX11_isJust_58 rfl rfl (by decide) (Or.inr (⟨(by grind), rfl, rfl⟩))
    · refine ab_aload_n dX11_isJust_22 rfl ?_
      refine ab_getf dX11_isJust_23 fl_X11_321 rfl rfl ?_
      refine ab_lconst (v := 0) dX11_isJust_26 (by decide) ?_
      refine ab_lcmpne 59 dX11_isJust_27 dX11_isJust_28 (by decide) (fun h_7 => ?_) (fun h_7 => ?_)
      · refine ab_lload dX11_isJust_59 rfl ?_
        refine ab_lconst (v := 0) dX11_isJust_61 (by decide) ?_
        refine ab_lcmple 70 dX11_isJust_62 dX11_isJust_63 (by decide) (fun h_8 => ?_) (fun h_8 => ?_)
        · refine ab_iconst (v := 0) dX11_isJust_70 (by decide) ?_
          refine ab_lload_n dX11_isJust_71 rfl ?_
          refine ab_lconst (v := 0) dX11_isJust_72 (by decide) ?_
          refine ab_lcmple 81 dX11_isJust_73 dX11_isJust_74 (by decide) (fun h_9 => ?_) (fun h_9 => ?_)
          · refine ab_iconst (v := 0) dX11_isJust_81 (by decide) ?_
            refine ab_icmpne 118 dX11_isJust_82 (by decide) (fun h_10 => absurd (by decide) h_10) (fun h_10 => ?_)
            refine ab_lload dX11_isJust_85 rfl ?_
            refine ab_callS (As := [.long ((a4 * a3) - a1)]) (rest := []) dX11_isJust_87 ms_X11_plain ml_X11_7 ⟨by decide, by decide, rfl, rfl, rfl⟩ (by decide) rfl rfl (Nat.le_of_ble_eq_true rfl) c_X11_plain_t ?_
            rintro r w' ⟨rfl, rfl⟩
            refine ab_ldc2 dX11_isJust_90 kl_X11_483 ?_
            refine ab_lcmpge 118 dX11_isJust_93 dX11_isJust_94 (by decide) (fun h_11 => ?_) (fun h_11 => ?_)
            · refine ab_iconst (v := 0) dX11_isJust_118 (by decide) ?_
              exact ab_zret dX11_isJust_119 rfl rfl (by decide) (Or.inr (⟨(by grind), rfl, rfl⟩))
            · refine ab_lload dX11_isJust_97 rfl ?_
              refine ab_lload dX11_isJust_99 rfl ?_
              refine ab_lmul dX11_isJust_101 ?_
              refine ab_lload_n dX11_isJust_102 rfl ?_
              refine ab_lload_n dX11_isJust_103 rfl ?_
              refine ab_lmul dX11_isJust_104 ?_
              refine ab_aload_n dX11_isJust_105 rfl ?_
              refine ab_getf dX11_isJust_106 fl_X11_321 rfl rfl ?_
              refine ab_lmul dX11_isJust_109 ?_
              refine ab_lcmpne 118 dX11_isJust_110 dX11_isJust_111 (by decide) (fun h_12 => ?_) (fun h_12 => ?_)
              · refine ab_iconst (v := 0) dX11_isJust_118 (by decide) ?_
                exact ab_zret dX11_isJust_119 rfl rfl (by decide) (Or.inr (⟨(by grind), rfl, rfl⟩))
              · refine ab_iconst (v := 1) dX11_isJust_114 (by decide) ?_
                refine ab_goto 119 dX11_isJust_115 (by decide) ?_
                exact ab_zret dX11_isJust_119 rfl rfl (by decide) (Or.inl (⟨(by grind), rfl, rfl⟩))
          · refine ab_iconst (v := 1) dX11_isJust_77 (by decide) ?_
            refine ab_goto 82 dX11_isJust_78 (by decide) ?_
            refine ab_icmpne 118 dX11_isJust_82 (by decide) (fun h_13 => ?_) (fun h_13 => absurd h_13 (by decide))
            refine ab_iconst (v := 0) dX11_isJust_118 (by decide) ?_
            exact ab_zret dX11_isJust_119 rfl rfl (by decide) (Or.inr (⟨(by grind), rfl, rfl⟩))
        · refine ab_iconst (v := 1) dX11_isJust_66 (by decide) ?_
          refine ab_goto 71 dX11_isJust_67 (by decide) ?_
          refine ab_lload_n dX11_isJust_71 rfl ?_
          refine ab_lconst (v := 0) dX11_isJust_72 (by decide) ?_
          refine ab_lcmple 81 dX11_isJust_73 dX11_isJust_74 (by decide) (fun h_14 => ?_) (fun h_14 => ?_)
          · refine ab_iconst (v := 0) dX11_isJust_81 (by decide) ?_
            refine ab_icmpne 118 dX11_isJust_82 (by decide) (fun h_15 => ?_) (fun h_15 => absurd h_15 (by decide))
            refine ab_iconst (v := 0) dX11_isJust_118 (by decide) ?_
            exact ab_zret dX11_isJust_119 rfl rfl (by decide) (Or.inr (⟨(by grind), rfl, rfl⟩))
          · refine ab_iconst (v := 1) dX11_isJust_77 (by decide) ?_
            refine ab_goto 82 dX11_isJust_78 (by decide) ?_
            refine ab_icmpne 118 dX11_isJust_82 (by decide) (fun h_16 => absurd (by decide) h_16) (fun h_16 => ?_)
            refine ab_lload dX11_isJust_85 rfl ?_
            refine ab_callS (As := [.long ((a4 * a3) - a1)]) (rest := []) dX11_isJust_87 ms_X11_plain ml_X11_7 ⟨by decide, by decide, rfl, rfl, rfl⟩ (by decide) rfl rfl (Nat.le_of_ble_eq_true rfl) c_X11_plain_t ?_
            rintro r w' ⟨rfl, rfl⟩
            refine ab_ldc2 dX11_isJust_90 kl_X11_483 ?_
            refine ab_lcmpge 118 dX11_isJust_93 dX11_isJust_94 (by decide) (fun h_17 => ?_) (fun h_17 => ?_)
            · refine ab_iconst (v := 0) dX11_isJust_118 (by decide) ?_
              exact ab_zret dX11_isJust_119 rfl rfl (by decide) (Or.inr (⟨(by grind), rfl, rfl⟩))
            · refine ab_lload dX11_isJust_97 rfl ?_
              refine ab_lload dX11_isJust_99 rfl ?_
              refine ab_lmul dX11_isJust_101 ?_
              refine ab_lload_n dX11_isJust_102 rfl ?_
              refine ab_lload_n dX11_isJust_103 rfl ?_
              refine ab_lmul dX11_isJust_104 ?_
              refine ab_aload_n dX11_isJust_105 rfl ?_
              refine ab_getf dX11_isJust_106 fl_X11_321 rfl rfl ?_
              refine ab_lmul dX11_isJust_109 ?_
              refine ab_lcmpne 118 dX11_isJust_110 dX11_isJust_111 (by decide) (fun h_18 => ?_) (fun h_18 => ?_)
              · refine ab_iconst (v := 0) dX11_isJust_118 (by decide) ?_
                exact ab_zret dX11_isJust_119 rfl rfl (by decide) (Or.inr (⟨(by grind), rfl, rfl⟩))
              · refine ab_iconst (v := 1) dX11_isJust_114 (by decide) ?_
                refine ab_goto 119 dX11_isJust_115 (by decide) ?_
                exact ab_zret dX11_isJust_119 rfl rfl (by decide) (Or.inl (⟨(by grind), rfl, rfl⟩))
      · refine ab_lload dX11_isJust_31 rfl ?_
        refine ab_lconst (v := 0) dX11_isJust_33 (by decide) ?_
        refine ab_lcmpne 57 dX11_isJust_34 dX11_isJust_35 (by decide) (fun h_19 => ?_) (fun h_19 => absurd h_19 h_1)
        refine ab_iconst (v := 0) dX11_isJust_57 (by decide) ?_
        exact ab_zret dX11_isJust_58 rfl rfl (by decide) (Or.inr (⟨(by grind), rfl, rfl⟩))
def lp_mmet_st (q4 : Nat → Int32) (q5 : Nat → Int32) (q6 : Nat → Int32) (a4 : Int32) (a3 : Int32) (a2 : Int32) (a1 : Int32) (k : Nat)  (_ : Unit) : (Unit) ⊕ Int32 := (if 0 < Ml_s q4 a1 (nI k) ∧ 0 ≤ Ml_k q4 a1 (nI k) then (if IsJ (Mt_u0 (Ml_c (nI k)) (Ml_s q4 a1 (nI k)) (Ml_e q4 a1 (nI k)) (Ml_x q4 a1 (nI k)) (Ml_y q4 a1 (nI k)) (Int32.toInt64 (Ba q4 a1)) q5 a2) (Mt_v0 (Ml_x q4 a1 (nI k)) (Ml_y q4 a1 (nI k)) q5 a2 a3) ((2 * (Ml_s q4 a1 (nI k))) * (Ml_n (nI k))) (Int32.toInt64 (Tm q6 a4)) (Ml_k q4 a1 (nI k)) then (if IsJ (Mt_u1 (Ml_d (nI k)) (Ml_s q4 a1 (nI k)) (Ml_e q4 a1 (nI k)) (Ml_x q4 a1 (nI k)) (Ml_y q4 a1 (nI k)) (Int32.toInt64 (Ba q4 a1)) q5 a2) (Mt_v1 (Ml_x q4 a1 (nI k)) (Ml_y q4 a1 (nI k)) q5 a2 a3) ((2 * (Ml_s q4 a1 (nI k))) * (Ml_n (nI k))) (Int32.toInt64 (Tn q6 a4)) (Ml_k q4 a1 (nI k)) then (.inr (nI k)) else (.inl ())) else (.inl ())) else (.inl ()))
set_option maxHeartbeats 400000 in
theorem lp_mmet {wc : List ax_E} {m_thrown m_trouble m_fault m_where m_taped m_linkMany m_tracerMany m_pointMany m_pairMany m_readLinks m_readTracers m_readPoints m_readPairs m_textLong m_at m_spot m_token m_whole m_readFault m_readPlace m_value m_curveMany m_cornerMany m_straightAt m_walkLink m_walkAngle m_walkBranch m_walkMany m_lined m_actMany a4 a3 a2 a1 : Int32} {m_fitUp m_fitDown m_worstUp m_worstDown : Int64} {z3 z7 z8 z9 z10 z11 z12 z13 z14 z15 z16 z17 z18 z19 z20 : ax_E} {q4 q5 q6 : Nat → Int32} {Q : Option Value → ax_W → Prop} {B : Nat} (hB : B = 40) (h_i : 0 ≤ a1 ∧ a1 < m_linkMany) (h_l : 0 ≤ m_linkMany ∧ m_linkMany ≤ nI 4) (h_i2 : 0 ≤ a2 ∧ a2 < m_tracerMany) (h_t : 0 ≤ m_tracerMany ∧ m_tracerMany ≤ nI 4) (h_pt : 0 ≤ a4 ∧ a4 < m_pointMany) (h_pp : 0 ≤ m_pointMany ∧ m_pointMany ≤ nI 8) : ∀ (n k : Nat)  (gm : Nat → Int64), k + n = B → (∀ (_ : (itx (lp_mmet_st q4 q5 q6 a4 a3 a2 a1) n k ()) = .inl ()) (gm : Nat → Int64), Ab M_X11_met Q (0, 0) 146 [(5, .int (nI B)), (4, .int a4), (3, .int a3), (2, .int a2), (1, .int a1), (0, .ref 1000)] [] (wc, [ob 9 [.int m_thrown, .int m_trouble, .int m_fault, .int m_where, .ref 1001, .ref 1002, .int 40, .ref 1003, .int m_taped, .int m_linkMany, .int m_tracerMany, .int m_pointMany, .int m_pairMany, .ref 1004, .ref 1005, .ref 1006, .ref 1007, .int m_readLinks, .int m_readTracers, .int m_readPoints, .int m_readPairs, .ref 1008, .ref 1009, .ref 1010, .ref 1011, .int m_textLong, .int m_at, .int m_spot, .int m_token, .int m_whole, .int m_readFault, .int m_readPlace, .int m_value, .long (gm 33), .long (gm 34), .long (gm 35), .long (gm 36), .long (gm 37), .long (gm 38), .long (gm 39), .long (gm 40), .long (gm 41), .long (gm 42), .ref 1012, .ref 1013, .ref 1014, .int m_curveMany, .ref 1015, .int m_cornerMany, .int m_straightAt, .ref 1016, .long m_fitUp, .long m_fitDown, .long m_worstUp, .long m_worstDown, .ref 1017, .int m_walkLink, .int m_walkAngle, .int m_walkBranch, .int m_walkMany, .ref 1018, .ref 1019, .int m_lined, .ref 1020, .int m_actMany], ia 64 (ax_tab 0), ia 64 (ax_tab 1), z3, ia 16 q4, ia 8 q5, ia 16 q6, z7, z8, z9, z10, z11, z12, z13, z14, z15, z16, z17, z18, z19, z20])) → (∀ r : Int32, (itx (lp_mmet_st q4 q5 q6 a4 a3 a2 a1) n k ()) = .inr r → ∀ (gm : Nat → Int64), Q (some (.int r)) (wc, [ob 9 [.int m_thrown, .int m_trouble, .int m_fault, .int m_where, .ref 1001, .ref 1002, .int 40, .ref 1003, .int m_taped, .int m_linkMany, .int m_tracerMany, .int m_pointMany, .int m_pairMany, .ref 1004, .ref 1005, .ref 1006, .ref 1007, .int m_readLinks, .int m_readTracers, .int m_readPoints, .int m_readPairs, .ref 1008, .ref 1009, .ref 1010, .ref 1011, .int m_textLong, .int m_at, .int m_spot, .int m_token, .int m_whole, .int m_readFault, .int m_readPlace, .int m_value, .long (gm 33), .long (gm 34), .long (gm 35), .long (gm 36), .long (gm 37), .long (gm 38), .long (gm 39), .long (gm 40), .long (gm 41), .long (gm 42), .ref 1012, .ref 1013, .ref 1014, .int m_curveMany, .ref 1015, .int m_cornerMany, .int m_straightAt, .ref 1016, .long m_fitUp, .long m_fitDown, .long m_worstUp, .long m_worstDown, .ref 1017, .int m_walkLink, .int m_walkAngle, .int m_walkBranch, .int m_walkMany, .ref 1018, .ref 1019, .int m_lined, .ref 1020, .int m_actMany], ia 64 (ax_tab 0), ia 64 (ax_tab 1), z3, ia 16 q4, ia 8 q5, ia 16 q6, z7, z8, z9, z10, z11, z12, z13, z14, z15, z16, z17, z18, z19, z20])) → Ab M_X11_met Q (0, 0) 32 [(5, .int (nI k)), (4, .int a4), (3, .int a3), (2, .int a2), (1, .int a1), (0, .ref 1000)] [] (wc, [ob 9 [.int m_thrown, .int m_trouble, .int m_fault, .int m_where, .ref 1001, .ref 1002, .int 40, .ref 1003, .int m_taped, .int m_linkMany, .int m_tracerMany, .int m_pointMany, .int m_pairMany, .ref 1004, .ref 1005, .ref 1006, .ref 1007, .int m_readLinks, .int m_readTracers, .int m_readPoints, .int m_readPairs, .ref 1008, .ref 1009, .ref 1010, .ref 1011, .int m_textLong, .int m_at, .int m_spot, .int m_token, .int m_whole, .int m_readFault, .int m_readPlace, .int m_value, .long (gm 33), .long (gm 34), .long (gm 35), .long (gm 36), .long (gm 37), .long (gm 38), .long (gm 39), .long (gm 40), .long (gm 41), .long (gm 42), .ref 1012, .ref 1013, .ref 1014, .int m_curveMany, .ref 1015, .int m_cornerMany, .int m_straightAt, .ref 1016, .long m_fitUp, .long m_fitDown, .long m_worstUp, .long m_worstDown, .ref 1017, .int m_walkLink, .int m_walkAngle, .int m_walkBranch, .int m_walkMany, .ref 1018, .ref 1019, .int m_lined, .ref 1020, .int m_actMany], ia 64 (ax_tab 0), ia 64 (ax_tab 1), z3, ia 16 q4, ia 8 q5, ia 16 q6, z7, z8, z9, z10, z11, z12, z13, z14, z15, z16, z17, z18, z19, z20]) := by
  intro n
  induction n with
  | zero =>
    intro k  gm hk hx hr
    have hE0 := itx_0 (lp_mmet_st q4 q5 q6 a4 a3 a2 a1) k ()
    rw [show k = B by omega]
    refine ab_iload dX11_met_32 rfl ?_
    refine ab_aload_n dX11_met_34 rfl ?_
    refine ab_getf dX11_met_35 fl_X11_101 rfl rfl ?_
    refine ab_icmpge 146 dX11_met_38 (by decide) (fun h_1 => ?_) (fun h_1 => absurd (nI_le (a := 40) (by omega) (by omega)) h_1)
    refine ab_pick [0, 1, 2, 3, 4, 5] rfl ?_
    exact hx  hE0 gm
  | succ n ih =>
    intro k  gm hk hx hr
    have hkk : 0 ≤ nI k ∧ nI k < 40 := ⟨nI_pos' (by omega), nI_lt (b := 40) (by omega) (by decide)⟩
    refine ab_iload dX11_met_32 rfl ?_
    refine ab_aload_n dX11_met_34 rfl ?_
    refine ab_getf dX11_met_35 fl_X11_101 rfl rfl ?_
    refine ab_icmpge 146 dX11_met_38 (by decide) (fun h_1 => absurd h_1 (nI_ge (a := k) (b := 40) (by omega) (by omega))) (fun h_1 => ?_)
    refine ab_aload_n dX11_met_41 rfl ?_
    refine ab_iload_n dX11_met_42 rfl ?_
    refine ab_iload dX11_met_43 rfl ?_
    refine ab_callV (As := [.int a1, .int (nI k)]) (rest := []) dX11_met_45 mv_X11_isLawful ml_X11_318 ⟨by decide, by decide, rfl, rfl, rfl⟩ (by decide) rfl rfl (Nat.le_of_ble_eq_true rfl) rfl (c_X11_isLawful h_i h_l hkk) ?_
    rintro r w' (⟨c_2, rfl, rfl⟩ | ⟨c_3, rfl, rfl⟩)
    · refine ab_ifne 54 dX11_met_48 (by decide) (fun h_4 => ?_) (fun h_4 => absurd h_4 (by decide))
      refine ab_iconst (v := 1) dX11_met_54 (by decide) ?_
      refine ab_istore (la' := [(6, .int 1), (5, .int (nI k)), (4, .int a4), (3, .int a3), (2, .int a2), (1, .int a1), (0, .ref 1000)]) dX11_met_55 (by decide) rfl ?_
      refine ab_iconst (v := 0) dX11_met_57 (by decide) ?_
      refine ab_istore (la' := [(7, .int 0), (6, .int 1), (5, .int (nI k)), (4, .int a4), (3, .int a3), (2, .int a2), (1, .int a1), (0, .ref 1000)]) dX11_met_58 (by decide) rfl ?_
      refine ab_iload dX11_met_60 rfl ?_
      refine ab_iconst (v := 2) dX11_met_62 (by decide) ?_
      refine ab_icmpge 132 dX11_met_63 (by decide) (fun h_5 => absurd h_5 (by decide)) (fun h_5 => ?_)
      refine ab_iload dX11_met_66 rfl ?_
      refine ab_ifeq 123 dX11_met_68 (by decide) (fun h_6 => absurd h_6 (by decide)) (fun h_6 => ?_)
      refine ab_aload_n dX11_met_71 rfl ?_
      refine ab_aload_n dX11_met_72 rfl ?_
      refine ab_iload_n dX11_met_73 rfl ?_
      refine ab_iload dX11_met_74 rfl ?_
      refine ab_callV (As := [.int a2, .int 0]) (rest := [.ref 1000]) dX11_met_76 mv_X11_tracedU ml_X11_410 ⟨by decide, by decide, rfl, rfl, rfl⟩ (by decide) rfl rfl (Nat.le_of_ble_eq_true rfl) rfl (c_X11_tracedU_0 h_i2 h_t) ?_
      rintro r w' ⟨rfl, rfl⟩
      refine ab_aload_n dX11_met_79 rfl ?_
      refine ab_iload_n dX11_met_80 rfl ?_
      refine ab_iload_n dX11_met_81 rfl ?_
      refine ab_iload dX11_met_82 rfl ?_
      refine ab_callV (As := [.int a2, .int a3, .int 0]) (rest := [.long (Mt_u0 (Ml_c (nI k)) (Ml_s q4 a1 (nI k)) (Ml_e q4 a1 (nI k)) (Ml_x q4 a1 (nI k)) (Ml_y q4 a1 (nI k)) (Int32.toInt64 (Ba q4 a1)) q5 a2), .ref 1000]) dX11_met_84 mv_X11_tracedV ml_X11_413 ⟨by decide, by decide, rfl, rfl, rfl⟩ (by decide) rfl rfl (Nat.le_of_ble_eq_true rfl) rfl (c_X11_tracedV_0 h_i2 h_t) ?_
      rintro r w' ⟨rfl, rfl⟩
      refine ab_ldc2 dX11_met_87 kl_X11_344 ?_
      refine ab_aload_n dX11_met_90 rfl ?_
      refine ab_getf dX11_met_91 fl_X11_355 rfl rfl ?_
      refine ab_lmul dX11_met_94 ?_
      refine ab_aload_n dX11_met_95 rfl ?_
      refine ab_getf dX11_met_96 fl_X11_328 rfl rfl ?_
      refine ab_lmul dX11_met_99 ?_
      refine ab_aload_n dX11_met_100 rfl ?_
      refine ab_getf dX11_met_101 fl_X11_48 rfl rfl ?_
      refine ab_iconst (v := 2) dX11_met_104 (by decide) ?_
      refine ab_iload dX11_met_105 rfl ?_
      refine ab_imul dX11_met_107 ?_
      refine ab_iload dX11_met_108 rfl ?_
      refine ab_iadd dX11_met_110 ?_
      refine ab_iald (j := (0 + Int32.toNatClampNeg a4 * 2 + 0)) dX11_met_111 rfl (ix_ml (W := 2) (c := 8) h_pt h_pp.2 (show 0 ≤ (0 : Int32) ∧ (0 : Int32) < nI 2 by decide) (by decide) (by decide) (by decide) (by decide)) ?_
      refine ab_i2l dX11_met_112 ?_
      refine ab_callV (As := [.long (Mt_u0 (Ml_c (nI k)) (Ml_s q4 a1 (nI k)) (Ml_e q4 a1 (nI k)) (Ml_x q4 a1 (nI k)) (Ml_y q4 a1 (nI k)) (Int32.toInt64 (Ba q4 a1)) q5 a2), .long (Mt_v0 (Ml_x q4 a1 (nI k)) (Ml_y q4 a1 (nI k)) q5 a2 a3), .long ((2 * (Ml_s q4 a1 (nI k))) * (Ml_n (nI k))), .long (Int32.toInt64 (q6 (0 + Int32.toNatClampNeg a4 * 2 + 0)))]) (rest := []) dX11_met_113 mv_X11_isJust ml_X11_485 ⟨by decide, by decide, rfl, rfl, rfl⟩ (by decide) rfl rfl (Nat.le_of_ble_eq_true rfl) rfl c_X11_isJust_b ?_
      rintro r w' (⟨c_7, rfl, rfl⟩ | ⟨c_8, rfl, rfl⟩)
      · refine ab_ifeq 123 dX11_met_116 (by decide) (fun h_9 => absurd h_9 (by decide)) (fun h_9 => ?_)
        refine ab_iconst (v := 1) dX11_met_119 (by decide) ?_
        refine ab_goto 124 dX11_met_120 (by decide) ?_
        refine ab_istore (la' := [(6, .int 1), (7, .int 0), (5, .int (nI k)), (4, .int a4), (3, .int a3), (2, .int a2), (1, .int a1), (0, .ref 1000)]) dX11_met_124 (by decide) rfl ?_
        refine ab_iinc (v := 1) (la' := [(7, .int 1), (6, .int 1), (5, .int (nI k)), (4, .int a4), (3, .int a3), (2, .int a2), (1, .int a1), (0, .ref 1000)]) dX11_met_126 rfl (by decide) (by decide) rfl ?_
        refine ab_goto 60 dX11_met_129 (by decide) ?_
        refine ab_iload dX11_met_60 rfl ?_
        refine ab_iconst (v := 2) dX11_met_62 (by decide) ?_
        refine ab_icmpge 132 dX11_met_63 (by decide) (fun h_10 => absurd h_10 (by decide)) (fun h_10 => ?_)
        refine ab_iload dX11_met_66 rfl ?_
        refine ab_ifeq 123 dX11_met_68 (by decide) (fun h_11 => absurd h_11 (by decide)) (fun h_11 => ?_)
        refine ab_aload_n dX11_met_71 rfl ?_
        refine ab_aload_n dX11_met_72 rfl ?_
        refine ab_iload_n dX11_met_73 rfl ?_
        refine ab_iload dX11_met_74 rfl ?_
        refine ab_callV (As := [.int a2, .int 1]) (rest := [.ref 1000]) dX11_met_76 mv_X11_tracedU ml_X11_410 ⟨by decide, by decide, rfl, rfl, rfl⟩ (by decide) rfl rfl (Nat.le_of_ble_eq_true rfl) rfl (c_X11_tracedU_1 h_i2 h_t) ?_
        rintro r w' ⟨rfl, rfl⟩
        refine ab_aload_n dX11_met_79 rfl ?_
        refine ab_iload_n dX11_met_80 rfl ?_
        refine ab_iload_n dX11_met_81 rfl ?_
        refine ab_iload dX11_met_82 rfl ?_
        refine ab_callV (As := [.int a2, .int a3, .int 1]) (rest := [.long (Mt_u1 (Ml_d (nI k)) (Ml_s q4 a1 (nI k)) (Ml_e q4 a1 (nI k)) (Ml_x q4 a1 (nI k)) (Ml_y q4 a1 (nI k)) (Int32.toInt64 (Ba q4 a1)) q5 a2), .ref 1000]) dX11_met_84 mv_X11_tracedV ml_X11_413 ⟨by decide, by decide, rfl, rfl, rfl⟩ (by decide) rfl rfl (Nat.le_of_ble_eq_true rfl) rfl (c_X11_tracedV_1 h_i2 h_t) ?_
        rintro r w' ⟨rfl, rfl⟩
        refine ab_ldc2 dX11_met_87 kl_X11_344 ?_
        refine ab_aload_n dX11_met_90 rfl ?_
        refine ab_getf dX11_met_91 fl_X11_355 rfl rfl ?_
        refine ab_lmul dX11_met_94 ?_
        refine ab_aload_n dX11_met_95 rfl ?_
        refine ab_getf dX11_met_96 fl_X11_328 rfl rfl ?_
        refine ab_lmul dX11_met_99 ?_
        refine ab_aload_n dX11_met_100 rfl ?_
        refine ab_getf dX11_met_101 fl_X11_48 rfl rfl ?_
        refine ab_iconst (v := 2) dX11_met_104 (by decide) ?_
        refine ab_iload dX11_met_105 rfl ?_
        refine ab_imul dX11_met_107 ?_
        refine ab_iload dX11_met_108 rfl ?_
        refine ab_iadd dX11_met_110 ?_
        refine ab_iald (j := (0 + Int32.toNatClampNeg a4 * 2 + 1)) dX11_met_111 rfl (ix_ml (W := 2) (c := 8) h_pt h_pp.2 (show 0 ≤ (1 : Int32) ∧ (1 : Int32) < nI 2 by decide) (by decide) (by decide) (by decide) (by decide)) ?_
        refine ab_i2l dX11_met_112 ?_
        refine ab_callV (As := [.long (Mt_u1 (Ml_d (nI k)) (Ml_s q4 a1 (nI k)) (Ml_e q4 a1 (nI k)) (Ml_x q4 a1 (nI k)) (Ml_y q4 a1 (nI k)) (Int32.toInt64 (Ba q4 a1)) q5 a2), .long (Mt_v1 (Ml_x q4 a1 (nI k)) (Ml_y q4 a1 (nI k)) q5 a2 a3), .long ((2 * (Ml_s q4 a1 (nI k))) * (Ml_n (nI k))), .long (Int32.toInt64 (q6 (0 + Int32.toNatClampNeg a4 * 2 + 1)))]) (rest := []) dX11_met_113 mv_X11_isJust ml_X11_485 ⟨by decide, by decide, rfl, rfl, rfl⟩ (by decide) rfl rfl (Nat.le_of_ble_eq_true rfl) rfl c_X11_isJust_b ?_
        rintro r w' (⟨c_12, rfl, rfl⟩ | ⟨c_13, rfl, rfl⟩)
        · refine ab_ifeq 123 dX11_met_116 (by decide) (fun h_14 => absurd h_14 (by decide)) (fun h_14 => ?_)
          refine ab_iconst (v := 1) dX11_met_119 (by decide) ?_
          refine ab_goto 124 dX11_met_120 (by decide) ?_
          refine ab_istore (la' := [(6, .int 1), (7, .int 1), (5, .int (nI k)), (4, .int a4), (3, .int a3), (2, .int a2), (1, .int a1), (0, .ref 1000)]) dX11_met_124 (by decide) rfl ?_
          refine ab_iinc (v := 2) (la' := [(7, .int 2), (6, .int 1), (5, .int (nI k)), (4, .int a4), (3, .int a3), (2, .int a2), (1, .int a1), (0, .ref 1000)]) dX11_met_126 rfl (by decide) (by decide) rfl ?_
          refine ab_goto 60 dX11_met_129 (by decide) ?_
          refine ab_iload dX11_met_60 rfl ?_
          refine ab_iconst (v := 2) dX11_met_62 (by decide) ?_
          refine ab_icmpge 132 dX11_met_63 (by decide) (fun h_15 => ?_) (fun h_15 => absurd (by decide) h_15)
          refine ab_iload dX11_met_132 rfl ?_
          refine ab_ifeq 140 dX11_met_134 (by decide) (fun h_16 => absurd h_16 (by decide)) (fun h_16 => ?_)
          refine ab_iload dX11_met_137 rfl ?_
          exact ab_iret dX11_met_139 rfl (by decide) (hr (nI k) (itx_r (show lp_mmet_st q4 q5 q6 a4 a3 a2 a1 k  () = .inr (nI k) from by rw [lp_mmet_st, if_pos (show 0 < Ml_s q4 a1 (nI k) ∧ 0 ≤ Ml_k q4 a1 (nI k) from c_2), if_pos (show IsJ (Mt_u0 (Ml_c (nI k)) (Ml_s q4 a1 (nI k)) (Ml_e q4 a1 (nI k)) (Ml_x q4 a1 (nI k)) (Ml_y q4 a1 (nI k)) (Int32.toInt64 (Ba q4 a1)) q5 a2) (Mt_v0 (Ml_x q4 a1 (nI k)) (Ml_y q4 a1 (nI k)) q5 a2 a3) ((2 * (Ml_s q4 a1 (nI k))) * (Ml_n (nI k))) (Int32.toInt64 (Tm q6 a4)) (Ml_k q4 a1 (nI k)) from c_7), if_pos (show IsJ (Mt_u1 (Ml_d (nI k)) (Ml_s q4 a1 (nI k)) (Ml_e q4 a1 (nI k)) (Ml_x q4 a1 (nI k)) (Ml_y q4 a1 (nI k)) (Int32.toInt64 (Ba q4 a1)) q5 a2) (Mt_v1 (Ml_x q4 a1 (nI k)) (Ml_y q4 a1 (nI k)) q5 a2 a3) ((2 * (Ml_s q4 a1 (nI k))) * (Ml_n (nI k))) (Int32.toInt64 (Tn q6 a4)) (Ml_k q4 a1 (nI k)) from c_12)])) (fun i => [(Ml_n (nI k)), (Ml_c (nI k)), (Ml_d (nI k)), (Ml_s q4 a1 (nI k)), (Ml_e q4 a1 (nI k)), (Ml_k q4 a1 (nI k)), (Ml_x q4 a1 (nI k)), (Ml_y q4 a1 (nI k)), (Int32.toInt64 (Bg q4 a1)), (Int32.toInt64 (Ba q4 a1))].getD (i - 33) 0))
        · refine ab_ifeq 123 dX11_met_116 (by decide) (fun h_17 => ?_) (fun h_17 => absurd (by decide) h_17)
          refine ab_iconst (v := 0) dX11_met_123 (by decide) ?_
          refine ab_istore (la' := [(6, .int 0), (7, .int 1), (5, .int (nI k)), (4, .int a4), (3, .int a3), (2, .int a2), (1, .int a1), (0, .ref 1000)]) dX11_met_124 (by decide) rfl ?_
          refine ab_iinc (v := 2) (la' := [(7, .int 2), (6, .int 0), (5, .int (nI k)), (4, .int a4), (3, .int a3), (2, .int a2), (1, .int a1), (0, .ref 1000)]) dX11_met_126 rfl (by decide) (by decide) rfl ?_
          refine ab_goto 60 dX11_met_129 (by decide) ?_
          refine ab_iload dX11_met_60 rfl ?_
          refine ab_iconst (v := 2) dX11_met_62 (by decide) ?_
          refine ab_icmpge 132 dX11_met_63 (by decide) (fun h_18 => ?_) (fun h_18 => absurd (by decide) h_18)
          refine ab_iload dX11_met_132 rfl ?_
          refine ab_ifeq 140 dX11_met_134 (by decide) (fun h_19 => ?_) (fun h_19 => absurd (by decide) h_19)
          refine ab_iinc (v := (nI (k + 1))) (la' := [(5, .int (nI (k + 1))), (7, .int 2), (6, .int 0), (4, .int a4), (3, .int a3), (2, .int a2), (1, .int a1), (0, .ref 1000)]) dX11_met_140 rfl (nI_1 _) (by decide) rfl ?_
          refine ab_goto 32 dX11_met_143 (by decide) ?_
          refine ab_pick [0, 3, 4, 5, 6, 7] rfl ?_
          rw [itx_l (f := (lp_mmet_st q4 q5 q6 a4 a3 a2 a1)) (n := n) (k := k) (s := ()) (show lp_mmet_st q4 q5 q6 a4 a3 a2 a1 k  () = .inl () from by rw [lp_mmet_st, if_pos (show 0 < Ml_s q4 a1 (nI k) ∧ 0 ≤ Ml_k q4 a1 (nI k) from c_2), if_pos (show IsJ (Mt_u0 (Ml_c (nI k)) (Ml_s q4 a1 (nI k)) (Ml_e q4 a1 (nI k)) (Ml_x q4 a1 (nI k)) (Ml_y q4 a1 (nI k)) (Int32.toInt64 (Ba q4 a1)) q5 a2) (Mt_v0 (Ml_x q4 a1 (nI k)) (Ml_y q4 a1 (nI k)) q5 a2 a3) ((2 * (Ml_s q4 a1 (nI k))) * (Ml_n (nI k))) (Int32.toInt64 (Tm q6 a4)) (Ml_k q4 a1 (nI k)) from c_7), if_neg (show ¬ (IsJ (Mt_u1 (Ml_d (nI k)) (Ml_s q4 a1 (nI k)) (Ml_e q4 a1 (nI k)) (Ml_x q4 a1 (nI k)) (Ml_y q4 a1 (nI k)) (Int32.toInt64 (Ba q4 a1)) q5 a2) (Mt_v1 (Ml_x q4 a1 (nI k)) (Ml_y q4 a1 (nI k)) q5 a2 a3) ((2 * (Ml_s q4 a1 (nI k))) * (Ml_n (nI k))) (Int32.toInt64 (Tn q6 a4)) (Ml_k q4 a1 (nI k))) from c_13)])] at hx hr
          exact ih (k + 1)  (fun i => [(Ml_n (nI k)), (Ml_c (nI k)), (Ml_d (nI k)), (Ml_s q4 a1 (nI k)), (Ml_e q4 a1 (nI k)), (Ml_k q4 a1 (nI k)), (Ml_x q4 a1 (nI k)), (Ml_y q4 a1 (nI k)), (Int32.toInt64 (Bg q4 a1)), (Int32.toInt64 (Ba q4 a1))].getD (i - 33) 0) (by omega) hx hr
      · refine ab_ifeq 123 dX11_met_116 (by decide) (fun h_20 => ?_) (fun h_20 => absurd (by decide) h_20)
        refine ab_iconst (v := 0) dX11_met_123 (by decide) ?_
        refine ab_istore (la' := [(6, .int 0), (7, .int 0), (5, .int (nI k)), (4, .int a4), (3, .int a3), (2, .int a2), (1, .int a1), (0, .ref 1000)]) dX11_met_124 (by decide) rfl ?_
        refine ab_iinc (v := 1) (la' := [(7, .int 1), (6, .int 0), (5, .int (nI k)), (4, .int a4), (3, .int a3), (2, .int a2), (1, .int a1), (0, .ref 1000)]) dX11_met_126 rfl (by decide) (by decide) rfl ?_
        refine ab_goto 60 dX11_met_129 (by decide) ?_
        refine ab_iload dX11_met_60 rfl ?_
        refine ab_iconst (v := 2) dX11_met_62 (by decide) ?_
        refine ab_icmpge 132 dX11_met_63 (by decide) (fun h_21 => absurd h_21 (by decide)) (fun h_21 => ?_)
        refine ab_iload dX11_met_66 rfl ?_
        refine ab_ifeq 123 dX11_met_68 (by decide) (fun h_22 => ?_) (fun h_22 => absurd (by decide) h_22)
        refine ab_iconst (v := 0) dX11_met_123 (by decide) ?_
        refine ab_istore (la' := [(6, .int 0), (7, .int 1), (5, .int (nI k)), (4, .int a4), (3, .int a3), (2, .int a2), (1, .int a1), (0, .ref 1000)]) dX11_met_124 (by decide) rfl ?_
        refine ab_iinc (v := 2) (la' := [(7, .int 2), (6, .int 0), (5, .int (nI k)), (4, .int a4), (3, .int a3), (2, .int a2), (1, .int a1), (0, .ref 1000)]) dX11_met_126 rfl (by decide) (by decide) rfl ?_
        refine ab_goto 60 dX11_met_129 (by decide) ?_
        refine ab_iload dX11_met_60 rfl ?_
        refine ab_iconst (v := 2) dX11_met_62 (by decide) ?_
        refine ab_icmpge 132 dX11_met_63 (by decide) (fun h_23 => ?_) (fun h_23 => absurd (by decide) h_23)
        refine ab_iload dX11_met_132 rfl ?_
        refine ab_ifeq 140 dX11_met_134 (by decide) (fun h_24 => ?_) (fun h_24 => absurd (by decide) h_24)
        refine ab_iinc (v := (nI (k + 1))) (la' := [(5, .int (nI (k + 1))), (7, .int 2), (6, .int 0), (4, .int a4), (3, .int a3), (2, .int a2), (1, .int a1), (0, .ref 1000)]) dX11_met_140 rfl (nI_1 _) (by decide) rfl ?_
        refine ab_goto 32 dX11_met_143 (by decide) ?_
        refine ab_pick [0, 3, 4, 5, 6, 7] rfl ?_
        rw [itx_l (f := (lp_mmet_st q4 q5 q6 a4 a3 a2 a1)) (n := n) (k := k) (s := ()) (show lp_mmet_st q4 q5 q6 a4 a3 a2 a1 k  () = .inl () from by rw [lp_mmet_st, if_pos (show 0 < Ml_s q4 a1 (nI k) ∧ 0 ≤ Ml_k q4 a1 (nI k) from c_2), if_neg (show ¬ (IsJ (Mt_u0 (Ml_c (nI k)) (Ml_s q4 a1 (nI k)) (Ml_e q4 a1 (nI k)) (Ml_x q4 a1 (nI k)) (Ml_y q4 a1 (nI k)) (Int32.toInt64 (Ba q4 a1)) q5 a2) (Mt_v0 (Ml_x q4 a1 (nI k)) (Ml_y q4 a1 (nI k)) q5 a2 a3) ((2 * (Ml_s q4 a1 (nI k))) * (Ml_n (nI k))) (Int32.toInt64 (Tm q6 a4)) (Ml_k q4 a1 (nI k))) from c_8)])] at hx hr
        exact ih (k + 1)  (fun i => [(Ml_n (nI k)), (Ml_c (nI k)), (Ml_d (nI k)), (Ml_s q4 a1 (nI k)), (Ml_e q4 a1 (nI k)), (Ml_k q4 a1 (nI k)), (Ml_x q4 a1 (nI k)), (Ml_y q4 a1 (nI k)), (Int32.toInt64 (Bg q4 a1)), (Int32.toInt64 (Ba q4 a1))].getD (i - 33) 0) (by omega) hx hr
    · refine ab_ifne 54 dX11_met_48 (by decide) (fun h_25 => absurd (by decide) h_25) (fun h_25 => ?_)
      refine ab_goto 140 dX11_met_51 (by decide) ?_
      refine ab_iinc (v := (nI (k + 1))) (la' := [(5, .int (nI (k + 1))), (4, .int a4), (3, .int a3), (2, .int a2), (1, .int a1), (0, .ref 1000)]) dX11_met_140 rfl (nI_1 _) (by decide) rfl ?_
      refine ab_goto 32 dX11_met_143 (by decide) ?_
      refine ab_pick [0, 1, 2, 3, 4, 5] rfl ?_
      rw [itx_l (f := (lp_mmet_st q4 q5 q6 a4 a3 a2 a1)) (n := n) (k := k) (s := ()) (show lp_mmet_st q4 q5 q6 a4 a3 a2 a1 k  () = .inl () from by rw [lp_mmet_st, if_neg (show ¬ (0 < Ml_s q4 a1 (nI k) ∧ 0 ≤ Ml_k q4 a1 (nI k)) from c_3)])] at hx hr
      exact ih (k + 1)  (fun i => [(Ml_n (nI k)), (Ml_c (nI k)), (Ml_d (nI k)), (Ml_s q4 a1 (nI k)), (Ml_e q4 a1 (nI k)), (Ml_k q4 a1 (nI k)), (Ml_x q4 a1 (nI k)), (Ml_y q4 a1 (nI k)), (Int32.toInt64 (Bg q4 a1)), (Int32.toInt64 (Ba q4 a1))].getD (i - 33) 0) (by omega) hx hr
theorem c_X11_met {wc : List ax_E} {m_thrown m_trouble m_fault m_where m_taped m_linkMany m_tracerMany m_pointMany m_pairMany m_readLinks m_readTracers m_readPoints m_readPairs m_textLong m_at m_spot m_token m_whole m_readFault m_readPlace m_value m_curveMany m_cornerMany m_straightAt m_walkLink m_walkAngle m_walkBranch m_walkMany m_lined m_actMany a1 a2 a3 a4 : Int32} {m_n m_c m_d m_s m_e m_k m_x m_y m_g m_a m_fitUp m_fitDown m_worstUp m_worstDown : Int64} {z3 z7 z8 z9 z10 z11 z12 z13 z14 z15 z16 z17 z18 z19 z20 : ax_E} {q4 q5 q6 : Nat → Int32} (h_l : 0 ≤ m_linkMany ∧ m_linkMany ≤ nI 4) (h_t : 0 ≤ m_tracerMany ∧ m_tracerMany ≤ nI 4) (h_pp : 0 ≤ m_pointMany ∧ m_pointMany ≤ nI 8) : Ct M_X11_met [.ref 1000, .int a1, .int a2, .int a3, .int a4] (wc, [ob 9 [.int m_thrown, .int m_trouble, .int m_fault, .int m_where, .ref 1001, .ref 1002, .int 40, .ref 1003, .int m_taped, .int m_linkMany, .int m_tracerMany, .int m_pointMany, .int m_pairMany, .ref 1004, .ref 1005, .ref 1006, .ref 1007, .int m_readLinks, .int m_readTracers, .int m_readPoints, .int m_readPairs, .ref 1008, .ref 1009, .ref 1010, .ref 1011, .int m_textLong, .int m_at, .int m_spot, .int m_token, .int m_whole, .int m_readFault, .int m_readPlace, .int m_value, .long m_n, .long m_c, .long m_d, .long m_s, .long m_e, .long m_k, .long m_x, .long m_y, .long m_g, .long m_a, .ref 1012, .ref 1013, .ref 1014, .int m_curveMany, .ref 1015, .int m_cornerMany, .int m_straightAt, .ref 1016, .long m_fitUp, .long m_fitDown, .long m_worstUp, .long m_worstDown, .ref 1017, .int m_walkLink, .int m_walkAngle, .int m_walkBranch, .int m_walkMany, .ref 1018, .ref 1019, .int m_lined, .ref 1020, .int m_actMany], ia 64 (ax_tab 0), ia 64 (ax_tab 1), z3, ia 16 q4, ia 8 q5, ia 16 q6, z7, z8, z9, z10, z11, z12, z13, z14, z15, z16, z17, z18, z19, z20]) (fun r w' => (∃ gm_7 : Nat → Int64, ((0 ≤ a1 ∧ a1 < m_linkMany) ∧ (0 ≤ a2 ∧ a2 < m_tracerMany) ∧ (0 ≤ a3 ∧ a3 < 2)) ∧ (0 ≤ a4 ∧ a4 < m_pointMany) ∧ ((itx (lp_mmet_st q4 q5 q6 a4 a3 a2 a1) 40 0 ()) = .inl ()) ∧ r = some (.int (-2)) ∧ w' = (wc, [ob 9 [.int 0, .int 0, .int m_fault, .int (-1), .ref 1001, .ref 1002, .int 40, .ref 1003, .int m_taped, .int m_linkMany, .int m_tracerMany, .int m_pointMany, .int m_pairMany, .ref 1004, .ref 1005, .ref 1006, .ref 1007, .int m_readLinks, .int m_readTracers, .int m_readPoints, .int m_readPairs, .ref 1008, .ref 1009, .ref 1010, .ref 1011, .int m_textLong, .int m_at, .int m_spot, .int m_token, .int m_whole, .int m_readFault, .int m_readPlace, .int m_value, .long (gm_7 33), .long (gm_7 34), .long (gm_7 35), .long (gm_7 36), .long (gm_7 37), .long (gm_7 38), .long (gm_7 39), .long (gm_7 40), .long (gm_7 41), .long (gm_7 42), .ref 1012, .ref 1013, .ref 1014, .int m_curveMany, .ref 1015, .int m_cornerMany, .int m_straightAt, .ref 1016, .long m_fitUp, .long m_fitDown, .long m_worstUp, .long m_worstDown, .ref 1017, .int m_walkLink, .int m_walkAngle, .int m_walkBranch, .int m_walkMany, .ref 1018, .ref 1019, .int m_lined, .ref 1020, .int m_actMany], ia 64 (ax_tab 0), ia 64 (ax_tab 1), z3, ia 16 q4, ia 8 q5, ia 16 q6, z7, z8, z9, z10, z11, z12, z13, z14, z15, z16, z17, z18, z19, z20])) ∨ (∃ r_9 : Int32, ∃ gm_11 : Nat → Int64, ((0 ≤ a1 ∧ a1 < m_linkMany) ∧ (0 ≤ a2 ∧ a2 < m_tracerMany) ∧ (0 ≤ a3 ∧ a3 < 2)) ∧ (0 ≤ a4 ∧ a4 < m_pointMany) ∧ ((itx (lp_mmet_st q4 q5 q6 a4 a3 a2 a1) 40 0 ()) = .inr r_9) ∧ r = some (.int r_9) ∧ w' = (wc, [ob 9 [.int 0, .int 0, .int m_fault, .int (-1), .ref 1001, .ref 1002, .int 40, .ref 1003, .int m_taped, .int m_linkMany, .int m_tracerMany, .int m_pointMany, .int m_pairMany, .ref 1004, .ref 1005, .ref 1006, .ref 1007, .int m_readLinks, .int m_readTracers, .int m_readPoints, .int m_readPairs, .ref 1008, .ref 1009, .ref 1010, .ref 1011, .int m_textLong, .int m_at, .int m_spot, .int m_token, .int m_whole, .int m_readFault, .int m_readPlace, .int m_value, .long (gm_11 33), .long (gm_11 34), .long (gm_11 35), .long (gm_11 36), .long (gm_11 37), .long (gm_11 38), .long (gm_11 39), .long (gm_11 40), .long (gm_11 41), .long (gm_11 42), .ref 1012, .ref 1013, .ref 1014, .int m_curveMany, .ref 1015, .int m_cornerMany, .int m_straightAt, .ref 1016, .long m_fitUp, .long m_fitDown, .long m_worstUp, .long m_worstDown, .ref 1017, .int m_walkLink, .int m_walkAngle, .int m_walkBranch, .int m_walkMany, .ref 1018, .ref 1019, .int m_lined, .ref 1020, .int m_actMany], ia 64 (ax_tab 0), ia 64 (ax_tab 1), z3, ia 16 q4, ia 8 q5, ia 16 q6, z7, z8, z9, z10, z11, z12, z13, z14, z15, z16, z17, z18, z19, z20])) ∨ (((0 ≤ a1 ∧ a1 < m_linkMany) ∧ (0 ≤ a2 ∧ a2 < m_tracerMany) ∧ (0 ≤ a3 ∧ a3 < 2)) ∧ (¬ (0 ≤ a4 ∧ a4 < m_pointMany)) ∧ r = some (.int (-1)) ∧ w' = (wc, [ob 9 [.int 0, .int 1, .int m_fault, .int (-1), .ref 1001, .ref 1002, .int 40, .ref 1003, .int m_taped, .int m_linkMany, .int m_tracerMany, .int m_pointMany, .int m_pairMany, .ref 1004, .ref 1005, .ref 1006, .ref 1007, .int m_readLinks, .int m_readTracers, .int m_readPoints, .int m_readPairs, .ref 1008, .ref 1009, .ref 1010, .ref 1011, .int m_textLong, .int m_at, .int m_spot, .int m_token, .int m_whole, .int m_readFault, .int m_readPlace, .int m_value, .long m_n, .long m_c, .long m_d, .long m_s, .long m_e, .long m_k, .long m_x, .long m_y, .long m_g, .long m_a, .ref 1012, .ref 1013, .ref 1014, .int m_curveMany, .ref 1015, .int m_cornerMany, .int m_straightAt, .ref 1016, .long m_fitUp, .long m_fitDown, .long m_worstUp, .long m_worstDown, .ref 1017, .int m_walkLink, .int m_walkAngle, .int m_walkBranch, .int m_walkMany, .ref 1018, .ref 1019, .int m_lined, .ref 1020, .int m_actMany], ia 64 (ax_tab 0), ia 64 (ax_tab 1), z3, ia 16 q4, ia 8 q5, ia 16 q6, z7, z8, z9, z10, z11, z12, z13, z14, z15, z16, z17, z18, z19, z20])) ∨ ((¬ ((0 ≤ a1 ∧ a1 < m_linkMany) ∧ (0 ≤ a2 ∧ a2 < m_tracerMany) ∧ (0 ≤ a3 ∧ a3 < 2))) ∧ r = some (.int (-1)) ∧ w' = (wc, [ob 9 [.int 0, .int 1, .int m_fault, .int (-1), .ref 1001, .ref 1002, .int 40, .ref 1003, .int m_taped, .int m_linkMany, .int m_tracerMany, .int m_pointMany, .int m_pairMany, .ref 1004, .ref 1005, .ref 1006, .ref 1007, .int m_readLinks, .int m_readTracers, .int m_readPoints, .int m_readPairs, .ref 1008, .ref 1009, .ref 1010, .ref 1011, .int m_textLong, .int m_at, .int m_spot, .int m_token, .int m_whole, .int m_readFault, .int m_readPlace, .int m_value, .long m_n, .long m_c, .long m_d, .long m_s, .long m_e, .long m_k, .long m_x, .long m_y, .long m_g, .long m_a, .ref 1012, .ref 1013, .ref 1014, .int m_curveMany, .ref 1015, .int m_cornerMany, .int m_straightAt, .ref 1016, .long m_fitUp, .long m_fitDown, .long m_worstUp, .long m_worstDown, .ref 1017, .int m_walkLink, .int m_walkAngle, .int m_walkBranch, .int m_walkMany, .ref 1018, .ref 1019, .int m_lined, .ref 1020, .int m_actMany], ia 64 (ax_tab 0), ia 64 (ax_tab 1), z3, ia 16 q4, ia 8 q5, ia 16 q6, z7, z8, z9, z10, z11, z12, z13, z14, z15, z16, z17, z18, z19, z20]))) := by
  refine ct_of ⟨by decide, rfl⟩ (Nat.le_of_ble_eq_true rfl) ?_
  refine ab_aload_n dX11_met_0 rfl ?_
  refine ab_callV (As := []) (rest := []) dX11_met_1 mv_X11_anew ml_X11_104 ⟨by decide, by decide, rfl, rfl, rfl⟩ (by decide) rfl rfl (Nat.le_of_ble_eq_true rfl) rfl c_X11_anew ?_
  rintro r w' ⟨rfl, rfl⟩
  refine ab_aload_n dX11_met_4 rfl ?_
  refine ab_iload_n dX11_met_5 rfl ?_
  refine ab_iload_n dX11_met_6 rfl ?_
  refine ab_iload_n dX11_met_7 rfl ?_
  refine ab_callV (As := [.int a1, .int a2, .int a3]) (rest := []) dX11_met_8 mv_X11_isCurve ml_X11_417 ⟨by decide, by decide, rfl, rfl, rfl⟩ (by decide) rfl rfl (Nat.le_of_ble_eq_true rfl) rfl (c_X11_isCurve h_l h_t) ?_
  rintro r w' (⟨c_1, rfl, rfl⟩ | ⟨c_2, rfl, rfl⟩)
  · refine ab_ifeq 23 dX11_met_11 (by decide) (fun h_3 => absurd h_3 (by decide)) (fun h_3 => ?_)
    refine ab_aload_n dX11_met_14 rfl ?_
    refine ab_iload dX11_met_15 rfl ?_
    refine ab_callV (As := [.int a4]) (rest := []) dX11_met_17 mv_X11_isPoint ml_X11_405 ⟨by decide, by decide, rfl, rfl, rfl⟩ (by decide) rfl rfl (Nat.le_of_ble_eq_true rfl) rfl (c_X11_isPoint h_pp) ?_
    rintro r w' (⟨c_4, rfl, rfl⟩ | ⟨c_5, rfl, rfl⟩)
    · refine ab_ifne 29 dX11_met_20 (by decide) (fun h_6 => ?_) (fun h_6 => absurd h_6 (by decide))
      refine ab_iconst (v := 0) dX11_met_29 (by decide) ?_
      refine ab_istore (la' := [(5, .int 0), (0, .ref 1000), (1, .int a1), (2, .int a2), (3, .int a3), (4, .int a4)]) dX11_met_30 (by decide) rfl ?_
      refine ab_pick [0, 5, 4, 3, 2, 1] rfl ?_
      refine lp_mmet (B := 40) rfl c_1.1 h_l c_1.2.1 h_t c_4 h_pp 40 0 (fun i => [m_n, m_c, m_d, m_s, m_e, m_k, m_x, m_y, m_g, m_a].getD (i - 33) 0) (by omega) ?_ ?_
      · intro hE_8 gm_7
        refine ab_bipush (v := -2) dX11_met_146 (by decide) ?_
        exact ab_iret dX11_met_148 rfl (by decide) (Or.inl ⟨gm_7, c_1, c_4, hE_8, rfl, rfl⟩)
      · intro r_9 hR_10 gm_11
        exact (Or.inr (Or.inl ⟨r_9, gm_11, c_1, c_4, hR_10, rfl, rfl⟩))
    · refine ab_ifne 29 dX11_met_20 (by decide) (fun h_12 => absurd (by decide) h_12) (fun h_12 => ?_)
      refine ab_aload_n dX11_met_23 rfl ?_
      refine ab_iconst (v := 1) dX11_met_24 (by decide) ?_
      refine ab_callV (As := [.int 1]) (rest := []) dX11_met_25 mv_X11_no ml_X11_115 ⟨by decide, by decide, rfl, rfl, rfl⟩ (by decide) rfl rfl (Nat.le_of_ble_eq_true rfl) rfl c_X11_no ?_
      rintro r w' ⟨rfl, rfl⟩
      exact ab_iret dX11_met_28 rfl (by decide) (Or.inr (Or.inr (Or.inl ⟨c_1, c_5, rfl, rfl⟩)))
  · refine ab_ifeq 23 dX11_met_11 (by decide) (fun h_13 => ?_) (fun h_13 => absurd (by decide) h_13)
    refine ab_aload_n dX11_met_23 rfl ?_
    refine ab_iconst (v := 1) dX11_met_24 (by decide) ?_
    refine ab_callV (As := [.int 1]) (rest := []) dX11_met_25 mv_X11_no ml_X11_115 ⟨by decide, by decide, rfl, rfl, rfl⟩ (by decide) rfl rfl (Nat.le_of_ble_eq_true rfl) rfl c_X11_no ?_
    rintro r w' ⟨rfl, rfl⟩
    exact ab_iret dX11_met_28 rfl (by decide) (Or.inr (Or.inr (Or.inr (⟨c_2, rfl, rfl⟩))))
