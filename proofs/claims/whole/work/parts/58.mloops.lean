def lp_mbox0_st (q12 : Nat → Int32) (k : Nat) (s : Int32) : Int32 := (if (nI k) = 0 then (q12 k) else (if s ≤ (q12 k) then s else (q12 k)))
set_option maxHeartbeats 400000 in
theorem lp_mbox0 {wc : List ax_E} {m_thrown m_trouble m_fault m_where m_taped m_linkMany m_tracerMany m_pointMany m_pairMany m_readLinks m_readTracers m_readPoints m_readPairs m_textLong m_at m_spot m_token m_whole m_readFault m_readPlace m_value m_cornerMany m_straightAt m_walkLink m_walkAngle m_walkBranch m_walkMany m_lined m_actMany a3 a2 a1 : Int32} {m_fitUp m_fitDown m_worstUp m_worstDown : Int64} {z3 z6 z7 z8 z9 z10 z11 z15 z16 z17 z18 z19 z20 : ax_E} {q4 q5 q12 q13 q14 : Nat → Int32} {c : Nat} {Q : Option Value → ax_W → Prop} (hc : c ≤ 40) : ∀ (n k : Nat) (s : Int32) (gm : Nat → Int64), k + n = c → (∀ (gm : Nat → Int64), Ab M_X11_box Q (0, 0) 134 [(6, .int (nI c)), (5, .int (itr (lp_mbox0_st q12) n k s)), (4, .int 0), (3, .int a3), (2, .int a2), (1, .int a1), (0, .ref 1000)] [] (wc, [ob 9 [.int m_thrown, .int m_trouble, .int m_fault, .int m_where, .ref 1001, .ref 1002, .int 40, .ref 1003, .int m_taped, .int m_linkMany, .int m_tracerMany, .int m_pointMany, .int m_pairMany, .ref 1004, .ref 1005, .ref 1006, .ref 1007, .int m_readLinks, .int m_readTracers, .int m_readPoints, .int m_readPairs, .ref 1008, .ref 1009, .ref 1010, .ref 1011, .int m_textLong, .int m_at, .int m_spot, .int m_token, .int m_whole, .int m_readFault, .int m_readPlace, .int m_value, .long (gm 33), .long (gm 34), .long (gm 35), .long (gm 36), .long (gm 37), .long (gm 38), .long (gm 39), .long (gm 40), .long (gm 41), .long (gm 42), .ref 1012, .ref 1013, .ref 1014, .int (nI c), .ref 1015, .int m_cornerMany, .int m_straightAt, .ref 1016, .long m_fitUp, .long m_fitDown, .long m_worstUp, .long m_worstDown, .ref 1017, .int m_walkLink, .int m_walkAngle, .int m_walkBranch, .int m_walkMany, .ref 1018, .ref 1019, .int m_lined, .ref 1020, .int m_actMany], ia 64 (ax_tab 0), ia 64 (ax_tab 1), z3, ia 16 q4, ia 8 q5, z6, z7, z8, z9, z10, z11, ia 64 q12, ia 64 q13, ia 64 q14, z15, z16, z17, z18, z19, z20])) → Ab M_X11_box Q (0, 0) 56 [(6, .int (nI k)), (5, .int s), (4, .int 0), (3, .int a3), (2, .int a2), (1, .int a1), (0, .ref 1000)] [] (wc, [ob 9 [.int m_thrown, .int m_trouble, .int m_fault, .int m_where, .ref 1001, .ref 1002, .int 40, .ref 1003, .int m_taped, .int m_linkMany, .int m_tracerMany, .int m_pointMany, .int m_pairMany, .ref 1004, .ref 1005, .ref 1006, .ref 1007, .int m_readLinks, .int m_readTracers, .int m_readPoints, .int m_readPairs, .ref 1008, .ref 1009, .ref 1010, .ref 1011, .int m_textLong, .int m_at, .int m_spot, .int m_token, .int m_whole, .int m_readFault, .int m_readPlace, .int m_value, .long (gm 33), .long (gm 34), .long (gm 35), .long (gm 36), .long (gm 37), .long (gm 38), .long (gm 39), .long (gm 40), .long (gm 41), .long (gm 42), .ref 1012, .ref 1013, .ref 1014, .int (nI c), .ref 1015, .int m_cornerMany, .int m_straightAt, .ref 1016, .long m_fitUp, .long m_fitDown, .long m_worstUp, .long m_worstDown, .ref 1017, .int m_walkLink, .int m_walkAngle, .int m_walkBranch, .int m_walkMany, .ref 1018, .ref 1019, .int m_lined, .ref 1020, .int m_actMany], ia 64 (ax_tab 0), ia 64 (ax_tab 1), z3, ia 16 q4, ia 8 q5, z6, z7, z8, z9, z10, z11, ia 64 q12, ia 64 q13, ia 64 q14, z15, z16, z17, z18, z19, z20]) := by
  intro n
  induction n with
  | zero =>
    intro k s gm hk hx
    rw [itr_0] at hx
    rw [show k = c by omega]
    refine ab_iload dX11_box_56 rfl ?_
    refine ab_aload_n dX11_box_58 rfl ?_
    refine ab_getf dX11_box_59 fl_X11_424 rfl rfl ?_
    refine ab_icmpge 134 dX11_box_62 (by decide) (fun h_1 => ?_) (fun h_1 => absurd (nI_le (b := c) (Nat.le_refl _) (by omega)) h_1)
    refine ab_pick [0, 1, 2, 3, 4, 5, 6] rfl ?_
    exact hx gm
  | succ n ih =>
    intro k s gm hk hx
    refine ab_iload dX11_box_56 rfl ?_
    refine ab_aload_n dX11_box_58 rfl ?_
    refine ab_getf dX11_box_59 fl_X11_424 rfl rfl ?_
    refine ab_icmpge 134 dX11_box_62 (by decide) (fun h_1 => absurd h_1 (nI_ge (a := k) (b := c) (by omega) (by omega))) (fun h_1 => ?_)
    refine ab_iload dX11_box_65 rfl ?_
    refine ab_iconst (v := 2) dX11_box_67 (by decide) ?_
    refine ab_icmpge 81 dX11_box_68 (by decide) (fun h_2 => absurd h_2 (by decide)) (fun h_2 => ?_)
    refine ab_aload_n dX11_box_71 rfl ?_
    refine ab_getf dX11_box_72 fl_X11_66 rfl rfl ?_
    refine ab_iload dX11_box_75 rfl ?_
    refine ab_iald (j := k) dX11_box_77 rfl (ix_nI (by omega) (by decide)) ?_
    refine ab_goto 88 dX11_box_78 (by decide) ?_
    refine ab_istore (la' := [(7, .int (q12 k)), (6, .int (nI k)), (5, .int s), (4, .int 0), (3, .int a3), (2, .int a2), (1, .int a1), (0, .ref 1000)]) dX11_box_88 (by decide) rfl ?_
    refine ab_iload dX11_box_90 rfl ?_
    refine ab_ifeq 119 dX11_box_92 (by decide) (fun h_3 => ?_) (fun h_3 => ?_)
    · have h_3n := (nI_eq (a := k) (b := 0) (by omega) (by omega)).mp h_3
      refine ab_iload dX11_box_119 rfl ?_
      refine ab_goto 126 dX11_box_121 (by decide) ?_
      refine ab_istore (la' := [(5, .int (q12 k)), (7, .int (q12 k)), (6, .int (nI k)), (4, .int 0), (3, .int a3), (2, .int a2), (1, .int a1), (0, .ref 1000)]) dX11_box_126 (by decide) rfl ?_
      refine ab_iinc (v := (nI (k + 1))) (la' := [(6, .int (nI (k + 1))), (5, .int (q12 k)), (7, .int (q12 k)), (4, .int 0), (3, .int a3), (2, .int a2), (1, .int a1), (0, .ref 1000)]) dX11_box_128 rfl (nI_1 _) (by decide) rfl ?_
      refine ab_goto 56 dX11_box_131 (by decide) ?_
      refine ab_pick [0, 1, 3, 4, 5, 6, 7] rfl ?_
      rw [(itr_s (lp_mbox0_st q12) n k s).trans (congrArg (itr (lp_mbox0_st q12) n (k + 1)) (show lp_mbox0_st q12 k s = (q12 k) from by rw [lp_mbox0_st, if_pos (show (nI k) = 0 from h_3)]))] at hx
      exact ih (k + 1) (q12 k) (fun i => [(gm 33), (gm 34), (gm 35), (gm 36), (gm 37), (gm 38), (gm 39), (gm 40), (gm 41), (gm 42)].getD (i - 33) 0) (by omega) hx
    · have h_3n : ¬ _ := fun z => h_3 ((nI_eq (a := k) (b := 0) (by omega) (by omega)).mpr z)
      refine ab_iload dX11_box_95 rfl ?_
      refine ab_iconst (v := 2) dX11_box_97 (by decide) ?_
      refine ab_irem dX11_box_98 (by decide) ?_
      refine ab_topi (v := 0) (by decide) ?_
      refine ab_ifne 112 dX11_box_99 (by decide) (fun h_4 => absurd (by decide) h_4) (fun h_4 => ?_)
      refine ab_iload dX11_box_102 rfl ?_
      refine ab_iload dX11_box_104 rfl ?_
      refine ab_icmpge 124 dX11_box_106 (by decide) (fun h_5 => ?_) (fun h_5 => ?_)
      · refine ab_iload dX11_box_124 rfl ?_
        refine ab_istore (la' := [(5, .int s), (7, .int (q12 k)), (6, .int (nI k)), (4, .int 0), (3, .int a3), (2, .int a2), (1, .int a1), (0, .ref 1000)]) dX11_box_126 (by decide) rfl ?_
        refine ab_iinc (v := (nI (k + 1))) (la' := [(6, .int (nI (k + 1))), (5, .int s), (7, .int (q12 k)), (4, .int 0), (3, .int a3), (2, .int a2), (1, .int a1), (0, .ref 1000)]) dX11_box_128 rfl (nI_1 _) (by decide) rfl ?_
        refine ab_goto 56 dX11_box_131 (by decide) ?_
        refine ab_pick [0, 1, 3, 4, 5, 6, 7] rfl ?_
        rw [(itr_s (lp_mbox0_st q12) n k s).trans (congrArg (itr (lp_mbox0_st q12) n (k + 1)) (show lp_mbox0_st q12 k s = s from by rw [lp_mbox0_st, if_neg (show ¬ (nI k) = 0 from h_3), if_pos (show s ≤ (q12 k) from h_5)]))] at hx
        exact ih (k + 1) s (fun i => [(gm 33), (gm 34), (gm 35), (gm 36), (gm 37), (gm 38), (gm 39), (gm 40), (gm 41), (gm 42)].getD (i - 33) 0) (by omega) hx
      · refine ab_goto 119 dX11_box_109 (by decide) ?_
        refine ab_iload dX11_box_119 rfl ?_
        refine ab_goto 126 dX11_box_121 (by decide) ?_
        refine ab_istore (la' := [(5, .int (q12 k)), (7, .int (q12 k)), (6, .int (nI k)), (4, .int 0), (3, .int a3), (2, .int a2), (1, .int a1), (0, .ref 1000)]) dX11_box_126 (by decide) rfl ?_
        refine ab_iinc (v := (nI (k + 1))) (la' := [(6, .int (nI (k + 1))), (5, .int (q12 k)), (7, .int (q12 k)), (4, .int 0), (3, .int a3), (2, .int a2), (1, .int a1), (0, .ref 1000)]) dX11_box_128 rfl (nI_1 _) (by decide) rfl ?_
        refine ab_goto 56 dX11_box_131 (by decide) ?_
        refine ab_pick [0, 1, 3, 4, 5, 6, 7] rfl ?_
        rw [(itr_s (lp_mbox0_st q12) n k s).trans (congrArg (itr (lp_mbox0_st q12) n (k + 1)) (show lp_mbox0_st q12 k s = (q12 k) from by rw [lp_mbox0_st, if_neg (show ¬ (nI k) = 0 from h_3), if_neg (show ¬ s ≤ (q12 k) from h_5)]))] at hx
        exact ih (k + 1) (q12 k) (fun i => [(gm 33), (gm 34), (gm 35), (gm 36), (gm 37), (gm 38), (gm 39), (gm 40), (gm 41), (gm 42)].getD (i - 33) 0) (by omega) hx
theorem c_X11_box_0 {wc : List ax_E} {m_thrown m_trouble m_fault m_where m_taped m_linkMany m_tracerMany m_pointMany m_pairMany m_readLinks m_readTracers m_readPoints m_readPairs m_textLong m_at m_spot m_token m_whole m_readFault m_readPlace m_value m_curveMany m_cornerMany m_straightAt m_walkLink m_walkAngle m_walkBranch m_walkMany m_lined m_actMany a1 a2 a3 : Int32} {m_n m_c m_d m_s m_e m_k m_x m_y m_g m_a m_fitUp m_fitDown m_worstUp m_worstDown : Int64} {z3 z6 z7 z8 z9 z10 z11 z15 z16 z17 z18 z19 z20 : ax_E} {q4 q5 q12 q13 q14 X Y : Nat → Int32} {p : Nat → Bool} (h_l : 0 ≤ m_linkMany ∧ m_linkMany ≤ nI 4) (h_t : 0 ≤ m_tracerMany ∧ m_tracerMany ≤ nI 4) (h_p : ∀ k, p k = true ↔ lawM q4 a1 k) (h_X : ∀ k, k < 40 → lawM q4 a1 k → X k = mX q4 q5 a1 a2 a3 k) (h_Y : ∀ k, k < 40 → lawM q4 a1 k → Y k = mY q4 q5 a1 a2 a3 k) (h_ok : ((0 ≤ a1 ∧ a1 < m_linkMany) ∧ (0 ≤ a2 ∧ a2 < m_tracerMany) ∧ (0 ≤ a3 ∧ a3 < 2)) → ∀ k, k < 40 → lawM q4 a1 k → okS (mV0 q4 q5 a1 a2 a3 k) (Ml_k q4 a1 (nI k)) ∧ okS (mV1 q4 q5 a1 a2 a3 k) (Ml_k q4 a1 (nI k)) ∧ 0 < mWd q4 a1 k) : Ct M_X11_box [.ref 1000, .int a1, .int a2, .int a3, .int 0] (wc, [ob 9 [.int m_thrown, .int m_trouble, .int m_fault, .int m_where, .ref 1001, .ref 1002, .int 40, .ref 1003, .int m_taped, .int m_linkMany, .int m_tracerMany, .int m_pointMany, .int m_pairMany, .ref 1004, .ref 1005, .ref 1006, .ref 1007, .int m_readLinks, .int m_readTracers, .int m_readPoints, .int m_readPairs, .ref 1008, .ref 1009, .ref 1010, .ref 1011, .int m_textLong, .int m_at, .int m_spot, .int m_token, .int m_whole, .int m_readFault, .int m_readPlace, .int m_value, .long m_n, .long m_c, .long m_d, .long m_s, .long m_e, .long m_k, .long m_x, .long m_y, .long m_g, .long m_a, .ref 1012, .ref 1013, .ref 1014, .int m_curveMany, .ref 1015, .int m_cornerMany, .int m_straightAt, .ref 1016, .long m_fitUp, .long m_fitDown, .long m_worstUp, .long m_worstDown, .ref 1017, .int m_walkLink, .int m_walkAngle, .int m_walkBranch, .int m_walkMany, .ref 1018, .ref 1019, .int m_lined, .ref 1020, .int m_actMany], ia 64 (ax_tab 0), ia 64 (ax_tab 1), z3, ia 16 q4, ia 8 q5, z6, z7, z8, z9, z10, z11, ia 64 q12, ia 64 q13, ia 64 q14, z15, z16, z17, z18, z19, z20]) (fun r w' => (∃ gm_7 : Nat → Int64, ∃ gm_9 : Nat → Int64, ((0 ≤ a1 ∧ a1 < m_linkMany) ∧ (0 ≤ a2 ∧ a2 < m_tracerMany) ∧ (0 ≤ a3 ∧ a3 < 2)) ∧ (¬ (nI (Cn p 40)) = 0) ∧ r = some (.int (itr (lp_mbox0_st (crv p X q12 40)) (Cn p 40) 0 0)) ∧ w' = (wc, [ob 9 [.int 0, .int 0, .int m_fault, .int (-1), .ref 1001, .ref 1002, .int 40, .ref 1003, .int m_taped, .int m_linkMany, .int m_tracerMany, .int m_pointMany, .int m_pairMany, .ref 1004, .ref 1005, .ref 1006, .ref 1007, .int m_readLinks, .int m_readTracers, .int m_readPoints, .int m_readPairs, .ref 1008, .ref 1009, .ref 1010, .ref 1011, .int m_textLong, .int m_at, .int m_spot, .int m_token, .int m_whole, .int m_readFault, .int m_readPlace, .int m_value, .long (gm_9 33), .long (gm_9 34), .long (gm_9 35), .long (gm_9 36), .long (gm_9 37), .long (gm_9 38), .long (gm_9 39), .long (gm_9 40), .long (gm_9 41), .long (gm_9 42), .ref 1012, .ref 1013, .ref 1014, .int (nI (Cn p 40)), .ref 1015, .int m_cornerMany, .int m_straightAt, .ref 1016, .long m_fitUp, .long m_fitDown, .long m_worstUp, .long m_worstDown, .ref 1017, .int m_walkLink, .int m_walkAngle, .int m_walkBranch, .int m_walkMany, .ref 1018, .ref 1019, .int m_lined, .ref 1020, .int m_actMany], ia 64 (ax_tab 0), ia 64 (ax_tab 1), z3, ia 16 q4, ia 8 q5, z6, z7, z8, z9, z10, z11, ia 64 (crv p X q12 40), ia 64 (crv p Y q13 40), ia 64 (crv p nI q14 40), z15, z16, z17, z18, z19, z20])) ∨ (∃ gm_7 : Nat → Int64, ((0 ≤ a1 ∧ a1 < m_linkMany) ∧ (0 ≤ a2 ∧ a2 < m_tracerMany) ∧ (0 ≤ a3 ∧ a3 < 2)) ∧ ((nI (Cn p 40)) = 0) ∧ r = some (.int (-1000000000)) ∧ w' = (wc, [ob 9 [.int 0, .int 5, .int m_fault, .int (-1), .ref 1001, .ref 1002, .int 40, .ref 1003, .int m_taped, .int m_linkMany, .int m_tracerMany, .int m_pointMany, .int m_pairMany, .ref 1004, .ref 1005, .ref 1006, .ref 1007, .int m_readLinks, .int m_readTracers, .int m_readPoints, .int m_readPairs, .ref 1008, .ref 1009, .ref 1010, .ref 1011, .int m_textLong, .int m_at, .int m_spot, .int m_token, .int m_whole, .int m_readFault, .int m_readPlace, .int m_value, .long (gm_7 33), .long (gm_7 34), .long (gm_7 35), .long (gm_7 36), .long (gm_7 37), .long (gm_7 38), .long (gm_7 39), .long (gm_7 40), .long (gm_7 41), .long (gm_7 42), .ref 1012, .ref 1013, .ref 1014, .int (nI (Cn p 40)), .ref 1015, .int m_cornerMany, .int m_straightAt, .ref 1016, .long m_fitUp, .long m_fitDown, .long m_worstUp, .long m_worstDown, .ref 1017, .int m_walkLink, .int m_walkAngle, .int m_walkBranch, .int m_walkMany, .ref 1018, .ref 1019, .int m_lined, .ref 1020, .int m_actMany], ia 64 (ax_tab 0), ia 64 (ax_tab 1), z3, ia 16 q4, ia 8 q5, z6, z7, z8, z9, z10, z11, ia 64 (crv p X q12 40), ia 64 (crv p Y q13 40), ia 64 (crv p nI q14 40), z15, z16, z17, z18, z19, z20])) ∨ ((¬ ((0 ≤ a1 ∧ a1 < m_linkMany) ∧ (0 ≤ a2 ∧ a2 < m_tracerMany) ∧ (0 ≤ a3 ∧ a3 < 2))) ∧ r = some (.int (-1000000000)) ∧ w' = (wc, [ob 9 [.int 0, .int 1, .int m_fault, .int (-1), .ref 1001, .ref 1002, .int 40, .ref 1003, .int m_taped, .int m_linkMany, .int m_tracerMany, .int m_pointMany, .int m_pairMany, .ref 1004, .ref 1005, .ref 1006, .ref 1007, .int m_readLinks, .int m_readTracers, .int m_readPoints, .int m_readPairs, .ref 1008, .ref 1009, .ref 1010, .ref 1011, .int m_textLong, .int m_at, .int m_spot, .int m_token, .int m_whole, .int m_readFault, .int m_readPlace, .int m_value, .long m_n, .long m_c, .long m_d, .long m_s, .long m_e, .long m_k, .long m_x, .long m_y, .long m_g, .long m_a, .ref 1012, .ref 1013, .ref 1014, .int m_curveMany, .ref 1015, .int m_cornerMany, .int m_straightAt, .ref 1016, .long m_fitUp, .long m_fitDown, .long m_worstUp, .long m_worstDown, .ref 1017, .int m_walkLink, .int m_walkAngle, .int m_walkBranch, .int m_walkMany, .ref 1018, .ref 1019, .int m_lined, .ref 1020, .int m_actMany], ia 64 (ax_tab 0), ia 64 (ax_tab 1), z3, ia 16 q4, ia 8 q5, z6, z7, z8, z9, z10, z11, ia 64 q12, ia 64 q13, ia 64 q14, z15, z16, z17, z18, z19, z20]))) := by
  refine ct_of ⟨by decide, rfl⟩ (Nat.le_of_ble_eq_true rfl) ?_
  refine ab_aload_n dX11_box_0 rfl ?_
  refine ab_callV (As := []) (rest := []) dX11_box_1 mv_X11_anew ml_X11_104 ⟨by decide, by decide, rfl, rfl, rfl⟩ (by decide) rfl rfl (Nat.le_of_ble_eq_true rfl) rfl c_X11_anew ?_
  rintro r w' ⟨rfl, rfl⟩
  refine ab_aload_n dX11_box_4 rfl ?_
  refine ab_iload_n dX11_box_5 rfl ?_
  refine ab_iload_n dX11_box_6 rfl ?_
  refine ab_iload_n dX11_box_7 rfl ?_
  refine ab_callV (As := [.int a1, .int a2, .int a3]) (rest := []) dX11_box_8 mv_X11_isCurve ml_X11_417 ⟨by decide, by decide, rfl, rfl, rfl⟩ (by decide) rfl rfl (Nat.le_of_ble_eq_true rfl) rfl (c_X11_isCurve h_l h_t) ?_
  rintro r w' (⟨c_1, rfl, rfl⟩ | ⟨c_2, rfl, rfl⟩)
  · refine ab_ifeq 24 dX11_box_11 (by decide) (fun h_3 => absurd h_3 (by decide)) (fun h_3 => ?_)
    refine ab_iload dX11_box_14 rfl ?_
    refine ab_iconst (v := 0) dX11_box_16 (by decide) ?_
    refine ab_iconst (v := 3) dX11_box_17 (by decide) ?_
    refine ab_callS (As := [.int 0, .int 0, .int 3]) (rest := []) dX11_box_18 ms_X11_in ml_X11_107 ⟨by decide, by decide, rfl, rfl, rfl⟩ (by decide) rfl rfl (Nat.le_of_ble_eq_true rfl) c_X11_in ?_
    rintro r w' (⟨c_4, rfl, rfl⟩ | ⟨c_5, rfl, rfl⟩)
    · refine ab_ifne 30 dX11_box_21 (by decide) (fun h_6 => ?_) (fun h_6 => absurd h_6 (by decide))
      refine ab_aload_n dX11_box_30 rfl ?_
      refine ab_iload_n dX11_box_31 rfl ?_
      refine ab_iload_n dX11_box_32 rfl ?_
      refine ab_iload_n dX11_box_33 rfl ?_
      refine ab_callV (As := [.int a1, .int a2, .int a3]) (rest := []) dX11_box_34 mv_X11_traces ml_X11_427 ⟨by decide, by decide, rfl, rfl, rfl⟩ (by decide) rfl rfl (Nat.le_of_ble_eq_true rfl) rfl (c_X11_traces (p := p) (X := X) (Y := Y) c_1.1 h_l c_1.2.1 h_t h_p h_X h_Y (h_ok c_1)) ?_
      rintro r w' ⟨gm_7, rfl, rfl⟩
      refine ab_aload_n dX11_box_37 rfl ?_
      refine ab_getf dX11_box_38 fl_X11_424 rfl rfl ?_
      refine ab_ifne 50 dX11_box_41 (by decide) (fun h_8 => ?_) (fun h_8 => ?_)
      · refine ab_iconst (v := 0) dX11_box_50 (by decide) ?_
        refine ab_istore (la' := [(5, .int 0), (0, .ref 1000), (1, .int a1), (2, .int a2), (3, .int a3), (4, .int 0)]) dX11_box_51 (by decide) rfl ?_
        refine ab_iconst (v := 0) dX11_box_53 (by decide) ?_
        refine ab_istore (la' := [(6, .int 0), (5, .int 0), (0, .ref 1000), (1, .int a1), (2, .int a2), (3, .int a3), (4, .int 0)]) dX11_box_54 (by decide) rfl ?_
        refine ab_pick [0, 1, 6, 5, 4, 3, 2] rfl ?_
        refine lp_mbox0 (cn_le p 40) (Cn p 40) 0 0 (fun i => [(gm_7 33), (gm_7 34), (gm_7 35), (gm_7 36), (gm_7 37), (gm_7 38), (gm_7 39), (gm_7 40), (gm_7 41), (gm_7 42)].getD (i - 33) 0) (by omega) ?_
        intro gm_9
        refine ab_iload dX11_box_134 rfl ?_
        exact ab_iret dX11_box_136 rfl (by decide) (Or.inl ⟨gm_7, gm_9, c_1, h_8, rfl, rfl⟩)
      · refine ab_aload_n dX11_box_44 rfl ?_
        refine ab_iconst (v := 5) dX11_box_45 (by decide) ?_
        refine ab_callV (As := [.int 5]) (rest := []) dX11_box_46 mv_X11_nothing ml_X11_111 ⟨by decide, by decide, rfl, rfl, rfl⟩ (by decide) rfl rfl (Nat.le_of_ble_eq_true rfl) rfl c_X11_nothing ?_
        rintro r w' ⟨rfl, rfl⟩
        exact ab_iret dX11_box_49 rfl (by decide) (Or.inr (Or.inl ⟨gm_7, c_1, h_8, rfl, rfl⟩))
    · exact absurd (by decide) c_5
  · refine ab_ifeq 24 dX11_box_11 (by decide) (fun h_10 => ?_) (fun h_10 => absurd (by decide) h_10)
    refine ab_aload_n dX11_box_24 rfl ?_
    refine ab_iconst (v := 1) dX11_box_25 (by decide) ?_
    refine ab_callV (As := [.int 1]) (rest := []) dX11_box_26 mv_X11_nothing ml_X11_111 ⟨by decide, by decide, rfl, rfl, rfl⟩ (by decide) rfl rfl (Nat.le_of_ble_eq_true rfl) rfl c_X11_nothing ?_
    rintro r w' ⟨rfl, rfl⟩
    exact ab_iret dX11_box_29 rfl (by decide) (Or.inr (Or.inr (⟨c_2, rfl, rfl⟩)))
def lp_mbox1_st (q12 : Nat → Int32) (k : Nat) (s : Int32) : Int32 := (if (nI k) = 0 then (q12 k) else (if (q12 k) ≤ s then s else (q12 k)))
set_option maxHeartbeats 400000 in
theorem lp_mbox1 {wc : List ax_E} {m_thrown m_trouble m_fault m_where m_taped m_linkMany m_tracerMany m_pointMany m_pairMany m_readLinks m_readTracers m_readPoints m_readPairs m_textLong m_at m_spot m_token m_whole m_readFault m_readPlace m_value m_cornerMany m_straightAt m_walkLink m_walkAngle m_walkBranch m_walkMany m_lined m_actMany a3 a2 a1 : Int32} {m_fitUp m_fitDown m_worstUp m_worstDown : Int64} {z3 z6 z7 z8 z9 z10 z11 z15 z16 z17 z18 z19 z20 : ax_E} {q4 q5 q12 q13 q14 : Nat → Int32} {c : Nat} {Q : Option Value → ax_W → Prop} (hc : c ≤ 40) : ∀ (n k : Nat) (s : Int32) (gm : Nat → Int64), k + n = c → (∀ (gm : Nat → Int64), Ab M_X11_box Q (0, 0) 134 [(6, .int (nI c)), (5, .int (itr (lp_mbox1_st q12) n k s)), (4, .int 1), (3, .int a3), (2, .int a2), (1, .int a1), (0, .ref 1000)] [] (wc, [ob 9 [.int m_thrown, .int m_trouble, .int m_fault, .int m_where, .ref 1001, .ref 1002, .int 40, .ref 1003, .int m_taped, .int m_linkMany, .int m_tracerMany, .int m_pointMany, .int m_pairMany, .ref 1004, .ref 1005, .ref 1006, .ref 1007, .int m_readLinks, .int m_readTracers, .int m_readPoints, .int m_readPairs, .ref 1008, .ref 1009, .ref 1010, .ref 1011, .int m_textLong, .int m_at, .int m_spot, .int m_token, .int m_whole, .int m_readFault, .int m_readPlace, .int m_value, .long (gm 33), .long (gm 34), .long (gm 35), .long (gm 36), .long (gm 37), .long (gm 38), .long (gm 39), .long (gm 40), .long (gm 41), .long (gm 42), .ref 1012, .ref 1013, .ref 1014, .int (nI c), .ref 1015, .int m_cornerMany, .int m_straightAt, .ref 1016, .long m_fitUp, .long m_fitDown, .long m_worstUp, .long m_worstDown, .ref 1017, .int m_walkLink, .int m_walkAngle, .int m_walkBranch, .int m_walkMany, .ref 1018, .ref 1019, .int m_lined, .ref 1020, .int m_actMany], ia 64 (ax_tab 0), ia 64 (ax_tab 1), z3, ia 16 q4, ia 8 q5, z6, z7, z8, z9, z10, z11, ia 64 q12, ia 64 q13, ia 64 q14, z15, z16, z17, z18, z19, z20])) → Ab M_X11_box Q (0, 0) 56 [(6, .int (nI k)), (5, .int s), (4, .int 1), (3, .int a3), (2, .int a2), (1, .int a1), (0, .ref 1000)] [] (wc, [ob 9 [.int m_thrown, .int m_trouble, .int m_fault, .int m_where, .ref 1001, .ref 1002, .int 40, .ref 1003, .int m_taped, .int m_linkMany, .int m_tracerMany, .int m_pointMany, .int m_pairMany, .ref 1004, .ref 1005, .ref 1006, .ref 1007, .int m_readLinks, .int m_readTracers, .int m_readPoints, .int m_readPairs, .ref 1008, .ref 1009, .ref 1010, .ref 1011, .int m_textLong, .int m_at, .int m_spot, .int m_token, .int m_whole, .int m_readFault, .int m_readPlace, .int m_value, .long (gm 33), .long (gm 34), .long (gm 35), .long (gm 36), .long (gm 37), .long (gm 38), .long (gm 39), .long (gm 40), .long (gm 41), .long (gm 42), .ref 1012, .ref 1013, .ref 1014, .int (nI c), .ref 1015, .int m_cornerMany, .int m_straightAt, .ref 1016, .long m_fitUp, .long m_fitDown, .long m_worstUp, .long m_worstDown, .ref 1017, .int m_walkLink, .int m_walkAngle, .int m_walkBranch, .int m_walkMany, .ref 1018, .ref 1019, .int m_lined, .ref 1020, .int m_actMany], ia 64 (ax_tab 0), ia 64 (ax_tab 1), z3, ia 16 q4, ia 8 q5, z6, z7, z8, z9, z10, z11, ia 64 q12, ia 64 q13, ia 64 q14, z15, z16, z17, z18, z19, z20]) := by
  intro n
  induction n with
  | zero =>
    intro k s gm hk hx
    rw [itr_0] at hx
    rw [show k = c by omega]
    refine ab_iload dX11_box_56 rfl ?_
    refine ab_aload_n dX11_box_58 rfl ?_
    refine ab_getf dX11_box_59 fl_X11_424 rfl rfl ?_
    refine ab_icmpge 134 dX11_box_62 (by decide) (fun h_1 => ?_) (fun h_1 => absurd (nI_le (b := c) (Nat.le_refl _) (by omega)) h_1)
    refine ab_pick [0, 1, 2, 3, 4, 5, 6] rfl ?_
    exact hx gm
  | succ n ih =>
    intro k s gm hk hx
    refine ab_iload dX11_box_56 rfl ?_
    refine ab_aload_n dX11_box_58 rfl ?_
    refine ab_getf dX11_box_59 fl_X11_424 rfl rfl ?_
    refine ab_icmpge 134 dX11_box_62 (by decide) (fun h_1 => absurd h_1 (nI_ge (a := k) (b := c) (by omega) (by omega))) (fun h_1 => ?_)
    refine ab_iload dX11_box_65 rfl ?_
    refine ab_iconst (v := 2) dX11_box_67 (by decide) ?_
    refine ab_icmpge 81 dX11_box_68 (by decide) (fun h_2 => absurd h_2 (by decide)) (fun h_2 => ?_)
    refine ab_aload_n dX11_box_71 rfl ?_
    refine ab_getf dX11_box_72 fl_X11_66 rfl rfl ?_
    refine ab_iload dX11_box_75 rfl ?_
    refine ab_iald (j := k) dX11_box_77 rfl (ix_nI (by omega) (by decide)) ?_
    refine ab_goto 88 dX11_box_78 (by decide) ?_
    refine ab_istore (la' := [(7, .int (q12 k)), (6, .int (nI k)), (5, .int s), (4, .int 1), (3, .int a3), (2, .int a2), (1, .int a1), (0, .ref 1000)]) dX11_box_88 (by decide) rfl ?_
    refine ab_iload dX11_box_90 rfl ?_
    refine ab_ifeq 119 dX11_box_92 (by decide) (fun h_3 => ?_) (fun h_3 => ?_)
    · have h_3n := (nI_eq (a := k) (b := 0) (by omega) (by omega)).mp h_3
      refine ab_iload dX11_box_119 rfl ?_
      refine ab_goto 126 dX11_box_121 (by decide) ?_
      refine ab_istore (la' := [(5, .int (q12 k)), (7, .int (q12 k)), (6, .int (nI k)), (4, .int 1), (3, .int a3), (2, .int a2), (1, .int a1), (0, .ref 1000)]) dX11_box_126 (by decide) rfl ?_
      refine ab_iinc (v := (nI (k + 1))) (la' := [(6, .int (nI (k + 1))), (5, .int (q12 k)), (7, .int (q12 k)), (4, .int 1), (3, .int a3), (2, .int a2), (1, .int a1), (0, .ref 1000)]) dX11_box_128 rfl (nI_1 _) (by decide) rfl ?_
      refine ab_goto 56 dX11_box_131 (by decide) ?_
      refine ab_pick [0, 1, 3, 4, 5, 6, 7] rfl ?_
      rw [(itr_s (lp_mbox1_st q12) n k s).trans (congrArg (itr (lp_mbox1_st q12) n (k + 1)) (show lp_mbox1_st q12 k s = (q12 k) from by rw [lp_mbox1_st, if_pos (show (nI k) = 0 from h_3)]))] at hx
      exact ih (k + 1) (q12 k) (fun i => [(gm 33), (gm 34), (gm 35), (gm 36), (gm 37), (gm 38), (gm 39), (gm 40), (gm 41), (gm 42)].getD (i - 33) 0) (by omega) hx
    · have h_3n : ¬ _ := fun z => h_3 ((nI_eq (a := k) (b := 0) (by omega) (by omega)).mpr z)
      refine ab_iload dX11_box_95 rfl ?_
      refine ab_iconst (v := 2) dX11_box_97 (by decide) ?_
      refine ab_irem dX11_box_98 (by decide) ?_
      refine ab_topi (v := 1) (by decide) ?_
      refine ab_ifne 112 dX11_box_99 (by decide) (fun h_4 => ?_) (fun h_4 => absurd h_4 (by decide))
      refine ab_iload dX11_box_112 rfl ?_
      refine ab_iload dX11_box_114 rfl ?_
      refine ab_icmple 124 dX11_box_116 (by decide) (fun h_5 => ?_) (fun h_5 => ?_)
      · refine ab_iload dX11_box_124 rfl ?_
        refine ab_istore (la' := [(5, .int s), (7, .int (q12 k)), (6, .int (nI k)), (4, .int 1), (3, .int a3), (2, .int a2), (1, .int a1), (0, .ref 1000)]) dX11_box_126 (by decide) rfl ?_
        refine ab_iinc (v := (nI (k + 1))) (la' := [(6, .int (nI (k + 1))), (5, .int s), (7, .int (q12 k)), (4, .int 1), (3, .int a3), (2, .int a2), (1, .int a1), (0, .ref 1000)]) dX11_box_128 rfl (nI_1 _) (by decide) rfl ?_
        refine ab_goto 56 dX11_box_131 (by decide) ?_
        refine ab_pick [0, 1, 3, 4, 5, 6, 7] rfl ?_
        rw [(itr_s (lp_mbox1_st q12) n k s).trans (congrArg (itr (lp_mbox1_st q12) n (k + 1)) (show lp_mbox1_st q12 k s = s from by rw [lp_mbox1_st, if_neg (show ¬ (nI k) = 0 from h_3), if_pos (show (q12 k) ≤ s from h_5)]))] at hx
        exact ih (k + 1) s (fun i => [(gm 33), (gm 34), (gm 35), (gm 36), (gm 37), (gm 38), (gm 39), (gm 40), (gm 41), (gm 42)].getD (i - 33) 0) (by omega) hx
      · refine ab_iload dX11_box_119 rfl ?_
        refine ab_goto 126 dX11_box_121 (by decide) ?_
        refine ab_istore (la' := [(5, .int (q12 k)), (7, .int (q12 k)), (6, .int (nI k)), (4, .int 1), (3, .int a3), (2, .int a2), (1, .int a1), (0, .ref 1000)]) dX11_box_126 (by decide) rfl ?_
        refine ab_iinc (v := (nI (k + 1))) (la' := [(6, .int (nI (k + 1))), (5, .int (q12 k)), (7, .int (q12 k)), (4, .int 1), (3, .int a3), (2, .int a2), (1, .int a1), (0, .ref 1000)]) dX11_box_128 rfl (nI_1 _) (by decide) rfl ?_
        refine ab_goto 56 dX11_box_131 (by decide) ?_
        refine ab_pick [0, 1, 3, 4, 5, 6, 7] rfl ?_
        rw [(itr_s (lp_mbox1_st q12) n k s).trans (congrArg (itr (lp_mbox1_st q12) n (k + 1)) (show lp_mbox1_st q12 k s = (q12 k) from by rw [lp_mbox1_st, if_neg (show ¬ (nI k) = 0 from h_3), if_neg (show ¬ (q12 k) ≤ s from h_5)]))] at hx
        exact ih (k + 1) (q12 k) (fun i => [(gm 33), (gm 34), (gm 35), (gm 36), (gm 37), (gm 38), (gm 39), (gm 40), (gm 41), (gm 42)].getD (i - 33) 0) (by omega) hx
theorem c_X11_box_1 {wc : List ax_E} {m_thrown m_trouble m_fault m_where m_taped m_linkMany m_tracerMany m_pointMany m_pairMany m_readLinks m_readTracers m_readPoints m_readPairs m_textLong m_at m_spot m_token m_whole m_readFault m_readPlace m_value m_curveMany m_cornerMany m_straightAt m_walkLink m_walkAngle m_walkBranch m_walkMany m_lined m_actMany a1 a2 a3 : Int32} {m_n m_c m_d m_s m_e m_k m_x m_y m_g m_a m_fitUp m_fitDown m_worstUp m_worstDown : Int64} {z3 z6 z7 z8 z9 z10 z11 z15 z16 z17 z18 z19 z20 : ax_E} {q4 q5 q12 q13 q14 X Y : Nat → Int32} {p : Nat → Bool} (h_l : 0 ≤ m_linkMany ∧ m_linkMany ≤ nI 4) (h_t : 0 ≤ m_tracerMany ∧ m_tracerMany ≤ nI 4) (h_p : ∀ k, p k = true ↔ lawM q4 a1 k) (h_X : ∀ k, k < 40 → lawM q4 a1 k → X k = mX q4 q5 a1 a2 a3 k) (h_Y : ∀ k, k < 40 → lawM q4 a1 k → Y k = mY q4 q5 a1 a2 a3 k) (h_ok : ((0 ≤ a1 ∧ a1 < m_linkMany) ∧ (0 ≤ a2 ∧ a2 < m_tracerMany) ∧ (0 ≤ a3 ∧ a3 < 2)) → ∀ k, k < 40 → lawM q4 a1 k → okS (mV0 q4 q5 a1 a2 a3 k) (Ml_k q4 a1 (nI k)) ∧ okS (mV1 q4 q5 a1 a2 a3 k) (Ml_k q4 a1 (nI k)) ∧ 0 < mWd q4 a1 k) : Ct M_X11_box [.ref 1000, .int a1, .int a2, .int a3, .int 1] (wc, [ob 9 [.int m_thrown, .int m_trouble, .int m_fault, .int m_where, .ref 1001, .ref 1002, .int 40, .ref 1003, .int m_taped, .int m_linkMany, .int m_tracerMany, .int m_pointMany, .int m_pairMany, .ref 1004, .ref 1005, .ref 1006, .ref 1007, .int m_readLinks, .int m_readTracers, .int m_readPoints, .int m_readPairs, .ref 1008, .ref 1009, .ref 1010, .ref 1011, .int m_textLong, .int m_at, .int m_spot, .int m_token, .int m_whole, .int m_readFault, .int m_readPlace, .int m_value, .long m_n, .long m_c, .long m_d, .long m_s, .long m_e, .long m_k, .long m_x, .long m_y, .long m_g, .long m_a, .ref 1012, .ref 1013, .ref 1014, .int m_curveMany, .ref 1015, .int m_cornerMany, .int m_straightAt, .ref 1016, .long m_fitUp, .long m_fitDown, .long m_worstUp, .long m_worstDown, .ref 1017, .int m_walkLink, .int m_walkAngle, .int m_walkBranch, .int m_walkMany, .ref 1018, .ref 1019, .int m_lined, .ref 1020, .int m_actMany], ia 64 (ax_tab 0), ia 64 (ax_tab 1), z3, ia 16 q4, ia 8 q5, z6, z7, z8, z9, z10, z11, ia 64 q12, ia 64 q13, ia 64 q14, z15, z16, z17, z18, z19, z20]) (fun r w' => (∃ gm_7 : Nat → Int64, ∃ gm_9 : Nat → Int64, ((0 ≤ a1 ∧ a1 < m_linkMany) ∧ (0 ≤ a2 ∧ a2 < m_tracerMany) ∧ (0 ≤ a3 ∧ a3 < 2)) ∧ (¬ (nI (Cn p 40)) = 0) ∧ r = some (.int (itr (lp_mbox1_st (crv p X q12 40)) (Cn p 40) 0 0)) ∧ w' = (wc, [ob 9 [.int 0, .int 0, .int m_fault, .int (-1), .ref 1001, .ref 1002, .int 40, .ref 1003, .int m_taped, .int m_linkMany, .int m_tracerMany, .int m_pointMany, .int m_pairMany, .ref 1004, .ref 1005, .ref 1006, .ref 1007, .int m_readLinks, .int m_readTracers, .int m_readPoints, .int m_readPairs, .ref 1008, .ref 1009, .ref 1010, .ref 1011, .int m_textLong, .int m_at, .int m_spot, .int m_token, .int m_whole, .int m_readFault, .int m_readPlace, .int m_value, .long (gm_9 33), .long (gm_9 34), .long (gm_9 35), .long (gm_9 36), .long (gm_9 37), .long (gm_9 38), .long (gm_9 39), .long (gm_9 40), .long (gm_9 41), .long (gm_9 42), .ref 1012, .ref 1013, .ref 1014, .int (nI (Cn p 40)), .ref 1015, .int m_cornerMany, .int m_straightAt, .ref 1016, .long m_fitUp, .long m_fitDown, .long m_worstUp, .long m_worstDown, .ref 1017, .int m_walkLink, .int m_walkAngle, .int m_walkBranch, .int m_walkMany, .ref 1018, .ref 1019, .int m_lined, .ref 1020, .int m_actMany], ia 64 (ax_tab 0), ia 64 (ax_tab 1), z3, ia 16 q4, ia 8 q5, z6, z7, z8, z9, z10, z11, ia 64 (crv p X q12 40), ia 64 (crv p Y q13 40), ia 64 (crv p nI q14 40), z15, z16, z17, z18, z19, z20])) ∨ (∃ gm_7 : Nat → Int64, ((0 ≤ a1 ∧ a1 < m_linkMany) ∧ (0 ≤ a2 ∧ a2 < m_tracerMany) ∧ (0 ≤ a3 ∧ a3 < 2)) ∧ ((nI (Cn p 40)) = 0) ∧ r = some (.int (-1000000000)) ∧ w' = (wc, [ob 9 [.int 0, .int 5, .int m_fault, .int (-1), .ref 1001, .ref 1002, .int 40, .ref 1003, .int m_taped, .int m_linkMany, .int m_tracerMany, .int m_pointMany, .int m_pairMany, .ref 1004, .ref 1005, .ref 1006, .ref 1007, .int m_readLinks, .int m_readTracers, .int m_readPoints, .int m_readPairs, .ref 1008, .ref 1009, .ref 1010, .ref 1011, .int m_textLong, .int m_at, .int m_spot, .int m_token, .int m_whole, .int m_readFault, .int m_readPlace, .int m_value, .long (gm_7 33), .long (gm_7 34), .long (gm_7 35), .long (gm_7 36), .long (gm_7 37), .long (gm_7 38), .long (gm_7 39), .long (gm_7 40), .long (gm_7 41), .long (gm_7 42), .ref 1012, .ref 1013, .ref 1014, .int (nI (Cn p 40)), .ref 1015, .int m_cornerMany, .int m_straightAt, .ref 1016, .long m_fitUp, .long m_fitDown, .long m_worstUp, .long m_worstDown, .ref 1017, .int m_walkLink, .int m_walkAngle, .int m_walkBranch, .int m_walkMany, .ref 1018, .ref 1019, .int m_lined, .ref 1020, .int m_actMany], ia 64 (ax_tab 0), ia 64 (ax_tab 1), z3, ia 16 q4, ia 8 q5, z6, z7, z8, z9, z10, z11, ia 64 (crv p X q12 40), ia 64 (crv p Y q13 40), ia 64 (crv p nI q14 40), z15, z16, z17, z18, z19, z20])) ∨ ((¬ ((0 ≤ a1 ∧ a1 < m_linkMany) ∧ (0 ≤ a2 ∧ a2 < m_tracerMany) ∧ (0 ≤ a3 ∧ a3 < 2))) ∧ r = some (.int (-1000000000)) ∧ w' = (wc, [ob 9 [.int 0, .int 1, .int m_fault, .int (-1), .ref 1001, .ref 1002, .int 40, .ref 1003, .int m_taped, .int m_linkMany, .int m_tracerMany, .int m_pointMany, .int m_pairMany, .ref 1004, .ref 1005, .ref 1006, .ref 1007, .int m_readLinks, .int m_readTracers, .int m_readPoints, .int m_readPairs, .ref 1008, .ref 1009, .ref 1010, .ref 1011, .int m_textLong, .int m_at, .int m_spot, .int m_token, .int m_whole, .int m_readFault, .int m_readPlace, .int m_value, .long m_n, .long m_c, .long m_d, .long m_s, .long m_e, .long m_k, .long m_x, .long m_y, .long m_g, .long m_a, .ref 1012, .ref 1013, .ref 1014, .int m_curveMany, .ref 1015, .int m_cornerMany, .int m_straightAt, .ref 1016, .long m_fitUp, .long m_fitDown, .long m_worstUp, .long m_worstDown, .ref 1017, .int m_walkLink, .int m_walkAngle, .int m_walkBranch, .int m_walkMany, .ref 1018, .ref 1019, .int m_lined, .ref 1020, .int m_actMany], ia 64 (ax_tab 0), ia 64 (ax_tab 1), z3, ia 16 q4, ia 8 q5, z6, z7, z8, z9, z10, z11, ia 64 q12, ia 64 q13, ia 64 q14, z15, z16, z17, z18, z19, z20]))) := by
  refine ct_of ⟨by decide, rfl⟩ (Nat.le_of_ble_eq_true rfl) ?_
  refine ab_aload_n dX11_box_0 rfl ?_
  refine ab_callV (As := []) (rest := []) dX11_box_1 mv_X11_anew ml_X11_104 ⟨by decide, by decide, rfl, rfl, rfl⟩ (by decide) rfl rfl (Nat.le_of_ble_eq_true rfl) rfl c_X11_anew ?_
  rintro r w' ⟨rfl, rfl⟩
  refine ab_aload_n dX11_box_4 rfl ?_
  refine ab_iload_n dX11_box_5 rfl ?_
  refine ab_iload_n dX11_box_6 rfl ?_
  refine ab_iload_n dX11_box_7 rfl ?_
  refine ab_callV (As := [.int a1, .int a2, .int a3]) (rest := []) dX11_box_8 mv_X11_isCurve ml_X11_417 ⟨by decide, by decide, rfl, rfl, rfl⟩ (by decide) rfl rfl (Nat.le_of_ble_eq_true rfl) rfl (c_X11_isCurve h_l h_t) ?_
  rintro r w' (⟨c_1, rfl, rfl⟩ | ⟨c_2, rfl, rfl⟩)
  · refine ab_ifeq 24 dX11_box_11 (by decide) (fun h_3 => absurd h_3 (by decide)) (fun h_3 => ?_)
    refine ab_iload dX11_box_14 rfl ?_
    refine ab_iconst (v := 0) dX11_box_16 (by decide) ?_
    refine ab_iconst (v := 3) dX11_box_17 (by decide) ?_
    refine ab_callS (As := [.int 1, .int 0, .int 3]) (rest := []) dX11_box_18 ms_X11_in ml_X11_107 ⟨by decide, by decide, rfl, rfl, rfl⟩ (by decide) rfl rfl (Nat.le_of_ble_eq_true rfl) c_X11_in ?_
    rintro r w' (⟨c_4, rfl, rfl⟩ | ⟨c_5, rfl, rfl⟩)
    · refine ab_ifne 30 dX11_box_21 (by decide) (fun h_6 => ?_) (fun h_6 => absurd h_6 (by decide))
      refine ab_aload_n dX11_box_30 rfl ?_
      refine ab_iload_n dX11_box_31 rfl ?_
      refine ab_iload_n dX11_box_32 rfl ?_
      refine ab_iload_n dX11_box_33 rfl ?_
      refine ab_callV (As := [.int a1, .int a2, .int a3]) (rest := []) dX11_box_34 mv_X11_traces ml_X11_427 ⟨by decide, by decide, rfl, rfl, rfl⟩ (by decide) rfl rfl (Nat.le_of_ble_eq_true rfl) rfl (c_X11_traces (p := p) (X := X) (Y := Y) c_1.1 h_l c_1.2.1 h_t h_p h_X h_Y (h_ok c_1)) ?_
      rintro r w' ⟨gm_7, rfl, rfl⟩
      refine ab_aload_n dX11_box_37 rfl ?_
      refine ab_getf dX11_box_38 fl_X11_424 rfl rfl ?_
      refine ab_ifne 50 dX11_box_41 (by decide) (fun h_8 => ?_) (fun h_8 => ?_)
      · refine ab_iconst (v := 0) dX11_box_50 (by decide) ?_
        refine ab_istore (la' := [(5, .int 0), (0, .ref 1000), (1, .int a1), (2, .int a2), (3, .int a3), (4, .int 1)]) dX11_box_51 (by decide) rfl ?_
        refine ab_iconst (v := 0) dX11_box_53 (by decide) ?_
        refine ab_istore (la' := [(6, .int 0), (5, .int 0), (0, .ref 1000), (1, .int a1), (2, .int a2), (3, .int a3), (4, .int 1)]) dX11_box_54 (by decide) rfl ?_
        refine ab_pick [0, 1, 6, 5, 4, 3, 2] rfl ?_
        refine lp_mbox1 (cn_le p 40) (Cn p 40) 0 0 (fun i => [(gm_7 33), (gm_7 34), (gm_7 35), (gm_7 36), (gm_7 37), (gm_7 38), (gm_7 39), (gm_7 40), (gm_7 41), (gm_7 42)].getD (i - 33) 0) (by omega) ?_
        intro gm_9
        refine ab_iload dX11_box_134 rfl ?_
        exact ab_iret dX11_box_136 rfl (by decide) (Or.inl ⟨gm_7, gm_9, c_1, h_8, rfl, rfl⟩)
      · refine ab_aload_n dX11_box_44 rfl ?_
        refine ab_iconst (v := 5) dX11_box_45 (by decide) ?_
        refine ab_callV (As := [.int 5]) (rest := []) dX11_box_46 mv_X11_nothing ml_X11_111 ⟨by decide, by decide, rfl, rfl, rfl⟩ (by decide) rfl rfl (Nat.le_of_ble_eq_true rfl) rfl c_X11_nothing ?_
        rintro r w' ⟨rfl, rfl⟩
        exact ab_iret dX11_box_49 rfl (by decide) (Or.inr (Or.inl ⟨gm_7, c_1, h_8, rfl, rfl⟩))
    · exact absurd (by decide) c_5
  · refine ab_ifeq 24 dX11_box_11 (by decide) (fun h_10 => ?_) (fun h_10 => absurd (by decide) h_10)
    refine ab_aload_n dX11_box_24 rfl ?_
    refine ab_iconst (v := 1) dX11_box_25 (by decide) ?_
    refine ab_callV (As := [.int 1]) (rest := []) dX11_box_26 mv_X11_nothing ml_X11_111 ⟨by decide, by decide, rfl, rfl, rfl⟩ (by decide) rfl rfl (Nat.le_of_ble_eq_true rfl) rfl c_X11_nothing ?_
    rintro r w' ⟨rfl, rfl⟩
    exact ab_iret dX11_box_29 rfl (by decide) (Or.inr (Or.inr (⟨c_2, rfl, rfl⟩)))
def lp_mbox2_st (q13 : Nat → Int32) (k : Nat) (s : Int32) : Int32 := (if (nI k) = 0 then (q13 k) else (if s ≤ (q13 k) then s else (q13 k)))
set_option maxHeartbeats 400000 in
theorem lp_mbox2 {wc : List ax_E} {m_thrown m_trouble m_fault m_where m_taped m_linkMany m_tracerMany m_pointMany m_pairMany m_readLinks m_readTracers m_readPoints m_readPairs m_textLong m_at m_spot m_token m_whole m_readFault m_readPlace m_value m_cornerMany m_straightAt m_walkLink m_walkAngle m_walkBranch m_walkMany m_lined m_actMany a3 a2 a1 : Int32} {m_fitUp m_fitDown m_worstUp m_worstDown : Int64} {z3 z6 z7 z8 z9 z10 z11 z15 z16 z17 z18 z19 z20 : ax_E} {q4 q5 q12 q13 q14 : Nat → Int32} {c : Nat} {Q : Option Value → ax_W → Prop} (hc : c ≤ 40) : ∀ (n k : Nat) (s : Int32) (gm : Nat → Int64), k + n = c → (∀ (gm : Nat → Int64), Ab M_X11_box Q (0, 0) 134 [(6, .int (nI c)), (5, .int (itr (lp_mbox2_st q13) n k s)), (4, .int 2), (3, .int a3), (2, .int a2), (1, .int a1), (0, .ref 1000)] [] (wc, [ob 9 [.int m_thrown, .int m_trouble, .int m_fault, .int m_where, .ref 1001, .ref 1002, .int 40, .ref 1003, .int m_taped, .int m_linkMany, .int m_tracerMany, .int m_pointMany, .int m_pairMany, .ref 1004, .ref 1005, .ref 1006, .ref 1007, .int m_readLinks, .int m_readTracers, .int m_readPoints, .int m_readPairs, .ref 1008, .ref 1009, .ref 1010, .ref 1011, .int m_textLong, .int m_at, .int m_spot, .int m_token, .int m_whole, .int m_readFault, .int m_readPlace, .int m_value, .long (gm 33), .long (gm 34), .long (gm 35), .long (gm 36), .long (gm 37), .long (gm 38), .long (gm 39), .long (gm 40), .long (gm 41), .long (gm 42), .ref 1012, .ref 1013, .ref 1014, .int (nI c), .ref 1015, .int m_cornerMany, .int m_straightAt, .ref 1016, .long m_fitUp, .long m_fitDown, .long m_worstUp, .long m_worstDown, .ref 1017, .int m_walkLink, .int m_walkAngle, .int m_walkBranch, .int m_walkMany, .ref 1018, .ref 1019, .int m_lined, .ref 1020, .int m_actMany], ia 64 (ax_tab 0), ia 64 (ax_tab 1), z3, ia 16 q4, ia 8 q5, z6, z7, z8, z9, z10, z11, ia 64 q12, ia 64 q13, ia 64 q14, z15, z16, z17, z18, z19, z20])) → Ab M_X11_box Q (0, 0) 56 [(6, .int (nI k)), (5, .int s), (4, .int 2), (3, .int a3), (2, .int a2), (1, .int a1), (0, .ref 1000)] [] (wc, [ob 9 [.int m_thrown, .int m_trouble, .int m_fault, .int m_where, .ref 1001, .ref 1002, .int 40, .ref 1003, .int m_taped, .int m_linkMany, .int m_tracerMany, .int m_pointMany, .int m_pairMany, .ref 1004, .ref 1005, .ref 1006, .ref 1007, .int m_readLinks, .int m_readTracers, .int m_readPoints, .int m_readPairs, .ref 1008, .ref 1009, .ref 1010, .ref 1011, .int m_textLong, .int m_at, .int m_spot, .int m_token, .int m_whole, .int m_readFault, .int m_readPlace, .int m_value, .long (gm 33), .long (gm 34), .long (gm 35), .long (gm 36), .long (gm 37), .long (gm 38), .long (gm 39), .long (gm 40), .long (gm 41), .long (gm 42), .ref 1012, .ref 1013, .ref 1014, .int (nI c), .ref 1015, .int m_cornerMany, .int m_straightAt, .ref 1016, .long m_fitUp, .long m_fitDown, .long m_worstUp, .long m_worstDown, .ref 1017, .int m_walkLink, .int m_walkAngle, .int m_walkBranch, .int m_walkMany, .ref 1018, .ref 1019, .int m_lined, .ref 1020, .int m_actMany], ia 64 (ax_tab 0), ia 64 (ax_tab 1), z3, ia 16 q4, ia 8 q5, z6, z7, z8, z9, z10, z11, ia 64 q12, ia 64 q13, ia 64 q14, z15, z16, z17, z18, z19, z20]) := by
  intro n
  induction n with
  | zero =>
    intro k s gm hk hx
    rw [itr_0] at hx
    rw [show k = c by omega]
    refine ab_iload dX11_box_56 rfl ?_
    refine ab_aload_n dX11_box_58 rfl ?_
    refine ab_getf dX11_box_59 fl_X11_424 rfl rfl ?_
    refine ab_icmpge 134 dX11_box_62 (by decide) (fun h_1 => ?_) (fun h_1 => absurd (nI_le (b := c) (Nat.le_refl _) (by omega)) h_1)
    refine ab_pick [0, 1, 2, 3, 4, 5, 6] rfl ?_
    exact hx gm
  | succ n ih =>
    intro k s gm hk hx
    refine ab_iload dX11_box_56 rfl ?_
    refine ab_aload_n dX11_box_58 rfl ?_
    refine ab_getf dX11_box_59 fl_X11_424 rfl rfl ?_
    refine ab_icmpge 134 dX11_box_62 (by decide) (fun h_1 => absurd h_1 (nI_ge (a := k) (b := c) (by omega) (by omega))) (fun h_1 => ?_)
    refine ab_iload dX11_box_65 rfl ?_
    refine ab_iconst (v := 2) dX11_box_67 (by decide) ?_
    refine ab_icmpge 81 dX11_box_68 (by decide) (fun h_2 => ?_) (fun h_2 => absurd (by decide) h_2)
    refine ab_aload_n dX11_box_81 rfl ?_
    refine ab_getf dX11_box_82 fl_X11_69 rfl rfl ?_
    refine ab_iload dX11_box_85 rfl ?_
    refine ab_iald (j := k) dX11_box_87 rfl (ix_nI (by omega) (by decide)) ?_
    refine ab_istore (la' := [(7, .int (q13 k)), (6, .int (nI k)), (5, .int s), (4, .int 2), (3, .int a3), (2, .int a2), (1, .int a1), (0, .ref 1000)]) dX11_box_88 (by decide) rfl ?_
    refine ab_iload dX11_box_90 rfl ?_
    refine ab_ifeq 119 dX11_box_92 (by decide) (fun h_3 => ?_) (fun h_3 => ?_)
    · have h_3n := (nI_eq (a := k) (b := 0) (by omega) (by omega)).mp h_3
      refine ab_iload dX11_box_119 rfl ?_
      refine ab_goto 126 dX11_box_121 (by decide) ?_
      refine ab_istore (la' := [(5, .int (q13 k)), (7, .int (q13 k)), (6, .int (nI k)), (4, .int 2), (3, .int a3), (2, .int a2), (1, .int a1), (0, .ref 1000)]) dX11_box_126 (by decide) rfl ?_
      refine ab_iinc (v := (nI (k + 1))) (la' := [(6, .int (nI (k + 1))), (5, .int (q13 k)), (7, .int (q13 k)), (4, .int 2), (3, .int a3), (2, .int a2), (1, .int a1), (0, .ref 1000)]) dX11_box_128 rfl (nI_1 _) (by decide) rfl ?_
      refine ab_goto 56 dX11_box_131 (by decide) ?_
      refine ab_pick [0, 1, 3, 4, 5, 6, 7] rfl ?_
      rw [(itr_s (lp_mbox2_st q13) n k s).trans (congrArg (itr (lp_mbox2_st q13) n (k + 1)) (show lp_mbox2_st q13 k s = (q13 k) from by rw [lp_mbox2_st, if_pos (show (nI k) = 0 from h_3)]))] at hx
      exact ih (k + 1) (q13 k) (fun i => [(gm 33), (gm 34), (gm 35), (gm 36), (gm 37), (gm 38), (gm 39), (gm 40), (gm 41), (gm 42)].getD (i - 33) 0) (by omega) hx
    · have h_3n : ¬ _ := fun z => h_3 ((nI_eq (a := k) (b := 0) (by omega) (by omega)).mpr z)
      refine ab_iload dX11_box_95 rfl ?_
      refine ab_iconst (v := 2) dX11_box_97 (by decide) ?_
      refine ab_irem dX11_box_98 (by decide) ?_
      refine ab_topi (v := 0) (by decide) ?_
      refine ab_ifne 112 dX11_box_99 (by decide) (fun h_4 => absurd (by decide) h_4) (fun h_4 => ?_)
      refine ab_iload dX11_box_102 rfl ?_
      refine ab_iload dX11_box_104 rfl ?_
      refine ab_icmpge 124 dX11_box_106 (by decide) (fun h_5 => ?_) (fun h_5 => ?_)
      · refine ab_iload dX11_box_124 rfl ?_
        refine ab_istore (la' := [(5, .int s), (7, .int (q13 k)), (6, .int (nI k)), (4, .int 2), (3, .int a3), (2, .int a2), (1, .int a1), (0, .ref 1000)]) dX11_box_126 (by decide) rfl ?_
        refine ab_iinc (v := (nI (k + 1))) (la' := [(6, .int (nI (k + 1))), (5, .int s), (7, .int (q13 k)), (4, .int 2), (3, .int a3), (2, .int a2), (1, .int a1), (0, .ref 1000)]) dX11_box_128 rfl (nI_1 _) (by decide) rfl ?_
        refine ab_goto 56 dX11_box_131 (by decide) ?_
        refine ab_pick [0, 1, 3, 4, 5, 6, 7] rfl ?_
        rw [(itr_s (lp_mbox2_st q13) n k s).trans (congrArg (itr (lp_mbox2_st q13) n (k + 1)) (show lp_mbox2_st q13 k s = s from by rw [lp_mbox2_st, if_neg (show ¬ (nI k) = 0 from h_3), if_pos (show s ≤ (q13 k) from h_5)]))] at hx
        exact ih (k + 1) s (fun i => [(gm 33), (gm 34), (gm 35), (gm 36), (gm 37), (gm 38), (gm 39), (gm 40), (gm 41), (gm 42)].getD (i - 33) 0) (by omega) hx
      · refine ab_goto 119 dX11_box_109 (by decide) ?_
        refine ab_iload dX11_box_119 rfl ?_
        refine ab_goto 126 dX11_box_121 (by decide) ?_
        refine ab_istore (la' := [(5, .int (q13 k)), (7, .int (q13 k)), (6, .int (nI k)), (4, .int 2), (3, .int a3), (2, .int a2), (1, .int a1), (0, .ref 1000)]) dX11_box_126 (by decide) rfl ?_
        refine ab_iinc (v := (nI (k + 1))) (la' := [(6, .int (nI (k + 1))), (5, .int (q13 k)), (7, .int (q13 k)), (4, .int 2), (3, .int a3), (2, .int a2), (1, .int a1), (0, .ref 1000)]) dX11_box_128 rfl (nI_1 _) (by decide) rfl ?_
        refine ab_goto 56 dX11_box_131 (by decide) ?_
        refine ab_pick [0, 1, 3, 4, 5, 6, 7] rfl ?_
        rw [(itr_s (lp_mbox2_st q13) n k s).trans (congrArg (itr (lp_mbox2_st q13) n (k + 1)) (show lp_mbox2_st q13 k s = (q13 k) from by rw [lp_mbox2_st, if_neg (show ¬ (nI k) = 0 from h_3), if_neg (show ¬ s ≤ (q13 k) from h_5)]))] at hx
        exact ih (k + 1) (q13 k) (fun i => [(gm 33), (gm 34), (gm 35), (gm 36), (gm 37), (gm 38), (gm 39), (gm 40), (gm 41), (gm 42)].getD (i - 33) 0) (by omega) hx
theorem c_X11_box_2 {wc : List ax_E} {m_thrown m_trouble m_fault m_where m_taped m_linkMany m_tracerMany m_pointMany m_pairMany m_readLinks m_readTracers m_readPoints m_readPairs m_textLong m_at m_spot m_token m_whole m_readFault m_readPlace m_value m_curveMany m_cornerMany m_straightAt m_walkLink m_walkAngle m_walkBranch m_walkMany m_lined m_actMany a1 a2 a3 : Int32} {m_n m_c m_d m_s m_e m_k m_x m_y m_g m_a m_fitUp m_fitDown m_worstUp m_worstDown : Int64} {z3 z6 z7 z8 z9 z10 z11 z15 z16 z17 z18 z19 z20 : ax_E} {q4 q5 q12 q13 q14 X Y : Nat → Int32} {p : Nat → Bool} (h_l : 0 ≤ m_linkMany ∧ m_linkMany ≤ nI 4) (h_t : 0 ≤ m_tracerMany ∧ m_tracerMany ≤ nI 4) (h_p : ∀ k, p k = true ↔ lawM q4 a1 k) (h_X : ∀ k, k < 40 → lawM q4 a1 k → X k = mX q4 q5 a1 a2 a3 k) (h_Y : ∀ k, k < 40 → lawM q4 a1 k → Y k = mY q4 q5 a1 a2 a3 k) (h_ok : ((0 ≤ a1 ∧ a1 < m_linkMany) ∧ (0 ≤ a2 ∧ a2 < m_tracerMany) ∧ (0 ≤ a3 ∧ a3 < 2)) → ∀ k, k < 40 → lawM q4 a1 k → okS (mV0 q4 q5 a1 a2 a3 k) (Ml_k q4 a1 (nI k)) ∧ okS (mV1 q4 q5 a1 a2 a3 k) (Ml_k q4 a1 (nI k)) ∧ 0 < mWd q4 a1 k) : Ct M_X11_box [.ref 1000, .int a1, .int a2, .int a3, .int 2] (wc, [ob 9 [.int m_thrown, .int m_trouble, .int m_fault, .int m_where, .ref 1001, .ref 1002, .int 40, .ref 1003, .int m_taped, .int m_linkMany, .int m_tracerMany, .int m_pointMany, .int m_pairMany, .ref 1004, .ref 1005, .ref 1006, .ref 1007, .int m_readLinks, .int m_readTracers, .int m_readPoints, .int m_readPairs, .ref 1008, .ref 1009, .ref 1010, .ref 1011, .int m_textLong, .int m_at, .int m_spot, .int m_token, .int m_whole, .int m_readFault, .int m_readPlace, .int m_value, .long m_n, .long m_c, .long m_d, .long m_s, .long m_e, .long m_k, .long m_x, .long m_y, .long m_g, .long m_a, .ref 1012, .ref 1013, .ref 1014, .int m_curveMany, .ref 1015, .int m_cornerMany, .int m_straightAt, .ref 1016, .long m_fitUp, .long m_fitDown, .long m_worstUp, .long m_worstDown, .ref 1017, .int m_walkLink, .int m_walkAngle, .int m_walkBranch, .int m_walkMany, .ref 1018, .ref 1019, .int m_lined, .ref 1020, .int m_actMany], ia 64 (ax_tab 0), ia 64 (ax_tab 1), z3, ia 16 q4, ia 8 q5, z6, z7, z8, z9, z10, z11, ia 64 q12, ia 64 q13, ia 64 q14, z15, z16, z17, z18, z19, z20]) (fun r w' => (∃ gm_7 : Nat → Int64, ∃ gm_9 : Nat → Int64, ((0 ≤ a1 ∧ a1 < m_linkMany) ∧ (0 ≤ a2 ∧ a2 < m_tracerMany) ∧ (0 ≤ a3 ∧ a3 < 2)) ∧ (¬ (nI (Cn p 40)) = 0) ∧ r = some (.int (itr (lp_mbox2_st (crv p Y q13 40)) (Cn p 40) 0 0)) ∧ w' = (wc, [ob 9 [.int 0, .int 0, .int m_fault, .int (-1), .ref 1001, .ref 1002, .int 40, .ref 1003, .int m_taped, .int m_linkMany, .int m_tracerMany, .int m_pointMany, .int m_pairMany, .ref 1004, .ref 1005, .ref 1006, .ref 1007, .int m_readLinks, .int m_readTracers, .int m_readPoints, .int m_readPairs, .ref 1008, .ref 1009, .ref 1010, .ref 1011, .int m_textLong, .int m_at, .int m_spot, .int m_token, .int m_whole, .int m_readFault, .int m_readPlace, .int m_value, .long (gm_9 33), .long (gm_9 34), .long (gm_9 35), .long (gm_9 36), .long (gm_9 37), .long (gm_9 38), .long (gm_9 39), .long (gm_9 40), .long (gm_9 41), .long (gm_9 42), .ref 1012, .ref 1013, .ref 1014, .int (nI (Cn p 40)), .ref 1015, .int m_cornerMany, .int m_straightAt, .ref 1016, .long m_fitUp, .long m_fitDown, .long m_worstUp, .long m_worstDown, .ref 1017, .int m_walkLink, .int m_walkAngle, .int m_walkBranch, .int m_walkMany, .ref 1018, .ref 1019, .int m_lined, .ref 1020, .int m_actMany], ia 64 (ax_tab 0), ia 64 (ax_tab 1), z3, ia 16 q4, ia 8 q5, z6, z7, z8, z9, z10, z11, ia 64 (crv p X q12 40), ia 64 (crv p Y q13 40), ia 64 (crv p nI q14 40), z15, z16, z17, z18, z19, z20])) ∨ (∃ gm_7 : Nat → Int64, ((0 ≤ a1 ∧ a1 < m_linkMany) ∧ (0 ≤ a2 ∧ a2 < m_tracerMany) ∧ (0 ≤ a3 ∧ a3 < 2)) ∧ ((nI (Cn p 40)) = 0) ∧ r = some (.int (-1000000000)) ∧ w' = (wc, [ob 9 [.int 0, .int 5, .int m_fault, .int (-1), .ref 1001, .ref 1002, .int 40, .ref 1003, .int m_taped, .int m_linkMany, .int m_tracerMany, .int m_pointMany, .int m_pairMany, .ref 1004, .ref 1005, .ref 1006, .ref 1007, .int m_readLinks, .int m_readTracers, .int m_readPoints, .int m_readPairs, .ref 1008, .ref 1009, .ref 1010, .ref 1011, .int m_textLong, .int m_at, .int m_spot, .int m_token, .int m_whole, .int m_readFault, .int m_readPlace, .int m_value, .long (gm_7 33), .long (gm_7 34), .long (gm_7 35), .long (gm_7 36), .long (gm_7 37), .long (gm_7 38), .long (gm_7 39), .long (gm_7 40), .long (gm_7 41), .long (gm_7 42), .ref 1012, .ref 1013, .ref 1014, .int (nI (Cn p 40)), .ref 1015, .int m_cornerMany, .int m_straightAt, .ref 1016, .long m_fitUp, .long m_fitDown, .long m_worstUp, .long m_worstDown, .ref 1017, .int m_walkLink, .int m_walkAngle, .int m_walkBranch, .int m_walkMany, .ref 1018, .ref 1019, .int m_lined, .ref 1020, .int m_actMany], ia 64 (ax_tab 0), ia 64 (ax_tab 1), z3, ia 16 q4, ia 8 q5, z6, z7, z8, z9, z10, z11, ia 64 (crv p X q12 40), ia 64 (crv p Y q13 40), ia 64 (crv p nI q14 40), z15, z16, z17, z18, z19, z20])) ∨ ((¬ ((0 ≤ a1 ∧ a1 < m_linkMany) ∧ (0 ≤ a2 ∧ a2 < m_tracerMany) ∧ (0 ≤ a3 ∧ a3 < 2))) ∧ r = some (.int (-1000000000)) ∧ w' = (wc, [ob 9 [.int 0, .int 1, .int m_fault, .int (-1), .ref 1001, .ref 1002, .int 40, .ref 1003, .int m_taped, .int m_linkMany, .int m_tracerMany, .int m_pointMany, .int m_pairMany, .ref 1004, .ref 1005, .ref 1006, .ref 1007, .int m_readLinks, .int m_readTracers, .int m_readPoints, .int m_readPairs, .ref 1008, .ref 1009, .ref 1010, .ref 1011, .int m_textLong, .int m_at, .int m_spot, .int m_token, .int m_whole, .int m_readFault, .int m_readPlace, .int m_value, .long m_n, .long m_c, .long m_d, .long m_s, .long m_e, .long m_k, .long m_x, .long m_y, .long m_g, .long m_a, .ref 1012, .ref 1013, .ref 1014, .int m_curveMany, .ref 1015, .int m_cornerMany, .int m_straightAt, .ref 1016, .long m_fitUp, .long m_fitDown, .long m_worstUp, .long m_worstDown, .ref 1017, .int m_walkLink, .int m_walkAngle, .int m_walkBranch, .int m_walkMany, .ref 1018, .ref 1019, .int m_lined, .ref 1020, .int m_actMany], ia 64 (ax_tab 0), ia 64 (ax_tab 1), z3, ia 16 q4, ia 8 q5, z6, z7, z8, z9, z10, z11, ia 64 q12, ia 64 q13, ia 64 q14, z15, z16, z17, z18, z19, z20]))) := by
  refine ct_of ⟨by decide, rfl⟩ (Nat.le_of_ble_eq_true rfl) ?_
  refine ab_aload_n dX11_box_0 rfl ?_
  refine ab_callV (As := []) (rest := []) dX11_box_1 mv_X11_anew ml_X11_104 ⟨by decide, by decide, rfl, rfl, rfl⟩ (by decide) rfl rfl (Nat.le_of_ble_eq_true rfl) rfl c_X11_anew ?_
  rintro r w' ⟨rfl, rfl⟩
  refine ab_aload_n dX11_box_4 rfl ?_
  refine ab_iload_n dX11_box_5 rfl ?_
  refine ab_iload_n dX11_box_6 rfl ?_
  refine ab_iload_n dX11_box_7 rfl ?_
  refine ab_callV (As := [.int a1, .int a2, .int a3]) (rest := []) dX11_box_8 mv_X11_isCurve ml_X11_417 ⟨by decide, by decide, rfl, rfl, rfl⟩ (by decide) rfl rfl (Nat.le_of_ble_eq_true rfl) rfl (c_X11_isCurve h_l h_t) ?_
  rintro r w' (⟨c_1, rfl, rfl⟩ | ⟨c_2, rfl, rfl⟩)
  · refine ab_ifeq 24 dX11_box_11 (by decide) (fun h_3 => absurd h_3 (by decide)) (fun h_3 => ?_)
    refine ab_iload dX11_box_14 rfl ?_
    refine ab_iconst (v := 0) dX11_box_16 (by decide) ?_
    refine ab_iconst (v := 3) dX11_box_17 (by decide) ?_
    refine ab_callS (As := [.int 2, .int 0, .int 3]) (rest := []) dX11_box_18 ms_X11_in ml_X11_107 ⟨by decide, by decide, rfl, rfl, rfl⟩ (by decide) rfl rfl (Nat.le_of_ble_eq_true rfl) c_X11_in ?_
    rintro r w' (⟨c_4, rfl, rfl⟩ | ⟨c_5, rfl, rfl⟩)
    · refine ab_ifne 30 dX11_box_21 (by decide) (fun h_6 => ?_) (fun h_6 => absurd h_6 (by decide))
      refine ab_aload_n dX11_box_30 rfl ?_
      refine ab_iload_n dX11_box_31 rfl ?_
      refine ab_iload_n dX11_box_32 rfl ?_
      refine ab_iload_n dX11_box_33 rfl ?_
      refine ab_callV (As := [.int a1, .int a2, .int a3]) (rest := []) dX11_box_34 mv_X11_traces ml_X11_427 ⟨by decide, by decide, rfl, rfl, rfl⟩ (by decide) rfl rfl (Nat.le_of_ble_eq_true rfl) rfl (c_X11_traces (p := p) (X := X) (Y := Y) c_1.1 h_l c_1.2.1 h_t h_p h_X h_Y (h_ok c_1)) ?_
      rintro r w' ⟨gm_7, rfl, rfl⟩
      refine ab_aload_n dX11_box_37 rfl ?_
      refine ab_getf dX11_box_38 fl_X11_424 rfl rfl ?_
      refine ab_ifne 50 dX11_box_41 (by decide) (fun h_8 => ?_) (fun h_8 => ?_)
      · refine ab_iconst (v := 0) dX11_box_50 (by decide) ?_
        refine ab_istore (la' := [(5, .int 0), (0, .ref 1000), (1, .int a1), (2, .int a2), (3, .int a3), (4, .int 2)]) dX11_box_51 (by decide) rfl ?_
        refine ab_iconst (v := 0) dX11_box_53 (by decide) ?_
        refine ab_istore (la' := [(6, .int 0), (5, .int 0), (0, .ref 1000), (1, .int a1), (2, .int a2), (3, .int a3), (4, .int 2)]) dX11_box_54 (by decide) rfl ?_
        refine ab_pick [0, 1, 6, 5, 4, 3, 2] rfl ?_
        refine lp_mbox2 (cn_le p 40) (Cn p 40) 0 0 (fun i => [(gm_7 33), (gm_7 34), (gm_7 35), (gm_7 36), (gm_7 37), (gm_7 38), (gm_7 39), (gm_7 40), (gm_7 41), (gm_7 42)].getD (i - 33) 0) (by omega) ?_
        intro gm_9
        refine ab_iload dX11_box_134 rfl ?_
        exact ab_iret dX11_box_136 rfl (by decide) (Or.inl ⟨gm_7, gm_9, c_1, h_8, rfl, rfl⟩)
      · refine ab_aload_n dX11_box_44 rfl ?_
        refine ab_iconst (v := 5) dX11_box_45 (by decide) ?_
        refine ab_callV (As := [.int 5]) (rest := []) dX11_box_46 mv_X11_nothing ml_X11_111 ⟨by decide, by decide, rfl, rfl, rfl⟩ (by decide) rfl rfl (Nat.le_of_ble_eq_true rfl) rfl c_X11_nothing ?_
        rintro r w' ⟨rfl, rfl⟩
        exact ab_iret dX11_box_49 rfl (by decide) (Or.inr (Or.inl ⟨gm_7, c_1, h_8, rfl, rfl⟩))
    · exact absurd (by decide) c_5
  · refine ab_ifeq 24 dX11_box_11 (by decide) (fun h_10 => ?_) (fun h_10 => absurd (by decide) h_10)
    refine ab_aload_n dX11_box_24 rfl ?_
    refine ab_iconst (v := 1) dX11_box_25 (by decide) ?_
    refine ab_callV (As := [.int 1]) (rest := []) dX11_box_26 mv_X11_nothing ml_X11_111 ⟨by decide, by decide, rfl, rfl, rfl⟩ (by decide) rfl rfl (Nat.le_of_ble_eq_true rfl) rfl c_X11_nothing ?_
    rintro r w' ⟨rfl, rfl⟩
    exact ab_iret dX11_box_29 rfl (by decide) (Or.inr (Or.inr (⟨c_2, rfl, rfl⟩)))
def lp_mbox3_st (q13 : Nat → Int32) (k : Nat) (s : Int32) : Int32 := (if (nI k) = 0 then (q13 k) else (if (q13 k) ≤ s then s else (q13 k)))
set_option maxHeartbeats 400000 in
theorem lp_mbox3 {wc : List ax_E} {m_thrown m_trouble m_fault m_where m_taped m_linkMany m_tracerMany m_pointMany m_pairMany m_readLinks m_readTracers m_readPoints m_readPairs m_textLong m_at m_spot m_token m_whole m_readFault m_readPlace m_value m_cornerMany m_straightAt m_walkLink m_walkAngle m_walkBranch m_walkMany m_lined m_actMany a3 a2 a1 : Int32} {m_fitUp m_fitDown m_worstUp m_worstDown : Int64} {z3 z6 z7 z8 z9 z10 z11 z15 z16 z17 z18 z19 z20 : ax_E} {q4 q5 q12 q13 q14 : Nat → Int32} {c : Nat} {Q : Option Value → ax_W → Prop} (hc : c ≤ 40) : ∀ (n k : Nat) (s : Int32) (gm : Nat → Int64), k + n = c → (∀ (gm : Nat → Int64), Ab M_X11_box Q (0, 0) 134 [(6, .int (nI c)), (5, .int (itr (lp_mbox3_st q13) n k s)), (4, .int 3), (3, .int a3), (2, .int a2), (1, .int a1), (0, .ref 1000)] [] (wc, [ob 9 [.int m_thrown, .int m_trouble, .int m_fault, .int m_where, .ref 1001, .ref 1002, .int 40, .ref 1003, .int m_taped, .int m_linkMany, .int m_tracerMany, .int m_pointMany, .int m_pairMany, .ref 1004, .ref 1005, .ref 1006, .ref 1007, .int m_readLinks, .int m_readTracers, .int m_readPoints, .int m_readPairs, .ref 1008, .ref 1009, .ref 1010, .ref 1011, .int m_textLong, .int m_at, .int m_spot, .int m_token, .int m_whole, .int m_readFault, .int m_readPlace, .int m_value, .long (gm 33), .long (gm 34), .long (gm 35), .long (gm 36), .long (gm 37), .long (gm 38), .long (gm 39), .long (gm 40), .long (gm 41), .long (gm 42), .ref 1012, .ref 1013, .ref 1014, .int (nI c), .ref 1015, .int m_cornerMany, .int m_straightAt, .ref 1016, .long m_fitUp, .long m_fitDown, .long m_worstUp, .long m_worstDown, .ref 1017, .int m_walkLink, .int m_walkAngle, .int m_walkBranch, .int m_walkMany, .ref 1018, .ref 1019, .int m_lined, .ref 1020, .int m_actMany], ia 64 (ax_tab 0), ia 64 (ax_tab 1), z3, ia 16 q4, ia 8 q5, z6, z7, z8, z9, z10, z11, ia 64 q12, ia 64 q13, ia 64 q14, z15, z16, z17, z18, z19, z20])) → Ab M_X11_box Q (0, 0) 56 [(6, .int (nI k)), (5, .int s), (4, .int 3), (3, .int a3), (2, .int a2), (1, .int a1), (0, .ref 1000)] [] (wc, [ob 9 [.int m_thrown, .int m_trouble, .int m_fault, .int m_where, .ref 1001, .ref 1002, .int 40, .ref 1003, .int m_taped, .int m_linkMany, .int m_tracerMany, .int m_pointMany, .int m_pairMany, .ref 1004, .ref 1005, .ref 1006, .ref 1007, .int m_readLinks, .int m_readTracers, .int m_readPoints, .int m_readPairs, .ref 1008, .ref 1009, .ref 1010, .ref 1011, .int m_textLong, .int m_at, .int m_spot, .int m_token, .int m_whole, .int m_readFault, .int m_readPlace, .int m_value, .long (gm 33), .long (gm 34), .long (gm 35), .long (gm 36), .long (gm 37), .long (gm 38), .long (gm 39), .long (gm 40), .long (gm 41), .long (gm 42), .ref 1012, .ref 1013, .ref 1014, .int (nI c), .ref 1015, .int m_cornerMany, .int m_straightAt, .ref 1016, .long m_fitUp, .long m_fitDown, .long m_worstUp, .long m_worstDown, .ref 1017, .int m_walkLink, .int m_walkAngle, .int m_walkBranch, .int m_walkMany, .ref 1018, .ref 1019, .int m_lined, .ref 1020, .int m_actMany], ia 64 (ax_tab 0), ia 64 (ax_tab 1), z3, ia 16 q4, ia 8 q5, z6, z7, z8, z9, z10, z11, ia 64 q12, ia 64 q13, ia 64 q14, z15, z16, z17, z18, z19, z20]) := by
  intro n
  induction n with
  | zero =>
    intro k s gm hk hx
    rw [itr_0] at hx
    rw [show k = c by omega]
    refine ab_iload dX11_box_56 rfl ?_
    refine ab_aload_n dX11_box_58 rfl ?_
    refine ab_getf dX11_box_59 fl_X11_424 rfl rfl ?_
    refine ab_icmpge 134 dX11_box_62 (by decide) (fun h_1 => ?_) (fun h_1 => absurd (nI_le (b := c) (Nat.le_refl _) (by omega)) h_1)
    refine ab_pick [0, 1, 2, 3, 4, 5, 6] rfl ?_
    exact hx gm
  | succ n ih =>
    intro k s gm hk hx
    refine ab_iload dX11_box_56 rfl ?_
    refine ab_aload_n dX11_box_58 rfl ?_
    refine ab_getf dX11_box_59 fl_X11_424 rfl rfl ?_
    refine ab_icmpge 134 dX11_box_62 (by decide) (fun h_1 => absurd h_1 (nI_ge (a := k) (b := c) (by omega) (by omega))) (fun h_1 => ?_)
    refine ab_iload dX11_box_65 rfl ?_
    refine ab_iconst (v := 2) dX11_box_67 (by decide) ?_
    refine ab_icmpge 81 dX11_box_68 (by decide) (fun h_2 => ?_) (fun h_2 => absurd (by decide) h_2)
    refine ab_aload_n dX11_box_81 rfl ?_
    refine ab_getf dX11_box_82 fl_X11_69 rfl rfl ?_
    refine ab_iload dX11_box_85 rfl ?_
    refine ab_iald (j := k) dX11_box_87 rfl (ix_nI (by omega) (by decide)) ?_
    refine ab_istore (la' := [(7, .int (q13 k)), (6, .int (nI k)), (5, .int s), (4, .int 3), (3, .int a3), (2, .int a2), (1, .int a1), (0, .ref 1000)]) dX11_box_88 (by decide) rfl ?_
    refine ab_iload dX11_box_90 rfl ?_
    refine ab_ifeq 119 dX11_box_92 (by decide) (fun h_3 => ?_) (fun h_3 => ?_)
    · have h_3n := (nI_eq (a := k) (b := 0) (by omega) (by omega)).mp h_3
      refine ab_iload dX11_box_119 rfl ?_
      refine ab_goto 126 dX11_box_121 (by decide) ?_
      refine ab_istore (la' := [(5, .int (q13 k)), (7, .int (q13 k)), (6, .int (nI k)), (4, .int 3), (3, .int a3), (2, .int a2), (1, .int a1), (0, .ref 1000)]) dX11_box_126 (by decide) rfl ?_
      refine ab_iinc (v := (nI (k + 1))) (la' := [(6, .int (nI (k + 1))), (5, .int (q13 k)), (7, .int (q13 k)), (4, .int 3), (3, .int a3), (2, .int a2), (1, .int a1), (0, .ref 1000)]) dX11_box_128 rfl (nI_1 _) (by decide) rfl ?_
      refine ab_goto 56 dX11_box_131 (by decide) ?_
      refine ab_pick [0, 1, 3, 4, 5, 6, 7] rfl ?_
      rw [(itr_s (lp_mbox3_st q13) n k s).trans (congrArg (itr (lp_mbox3_st q13) n (k + 1)) (show lp_mbox3_st q13 k s = (q13 k) from by rw [lp_mbox3_st, if_pos (show (nI k) = 0 from h_3)]))] at hx
      exact ih (k + 1) (q13 k) (fun i => [(gm 33), (gm 34), (gm 35), (gm 36), (gm 37), (gm 38), (gm 39), (gm 40), (gm 41), (gm 42)].getD (i - 33) 0) (by omega) hx
    · have h_3n : ¬ _ := fun z => h_3 ((nI_eq (a := k) (b := 0) (by omega) (by omega)).mpr z)
      refine ab_iload dX11_box_95 rfl ?_
      refine ab_iconst (v := 2) dX11_box_97 (by decide) ?_
      refine ab_irem dX11_box_98 (by decide) ?_
      refine ab_topi (v := 1) (by decide) ?_
      refine ab_ifne 112 dX11_box_99 (by decide) (fun h_4 => ?_) (fun h_4 => absurd h_4 (by decide))
      refine ab_iload dX11_box_112 rfl ?_
      refine ab_iload dX11_box_114 rfl ?_
      refine ab_icmple 124 dX11_box_116 (by decide) (fun h_5 => ?_) (fun h_5 => ?_)
      · refine ab_iload dX11_box_124 rfl ?_
        refine ab_istore (la' := [(5, .int s), (7, .int (q13 k)), (6, .int (nI k)), (4, .int 3), (3, .int a3), (2, .int a2), (1, .int a1), (0, .ref 1000)]) dX11_box_126 (by decide) rfl ?_
        refine ab_iinc (v := (nI (k + 1))) (la' := [(6, .int (nI (k + 1))), (5, .int s), (7, .int (q13 k)), (4, .int 3), (3, .int a3), (2, .int a2), (1, .int a1), (0, .ref 1000)]) dX11_box_128 rfl (nI_1 _) (by decide) rfl ?_
        refine ab_goto 56 dX11_box_131 (by decide) ?_
        refine ab_pick [0, 1, 3, 4, 5, 6, 7] rfl ?_
        rw [(itr_s (lp_mbox3_st q13) n k s).trans (congrArg (itr (lp_mbox3_st q13) n (k + 1)) (show lp_mbox3_st q13 k s = s from by rw [lp_mbox3_st, if_neg (show ¬ (nI k) = 0 from h_3), if_pos (show (q13 k) ≤ s from h_5)]))] at hx
        exact ih (k + 1) s (fun i => [(gm 33), (gm 34), (gm 35), (gm 36), (gm 37), (gm 38), (gm 39), (gm 40), (gm 41), (gm 42)].getD (i - 33) 0) (by omega) hx
      · refine ab_iload dX11_box_119 rfl ?_
        refine ab_goto 126 dX11_box_121 (by decide) ?_
        refine ab_istore (la' := [(5, .int (q13 k)), (7, .int (q13 k)), (6, .int (nI k)), (4, .int 3), (3, .int a3), (2, .int a2), (1, .int a1), (0, .ref 1000)]) dX11_box_126 (by decide) rfl ?_
        refine ab_iinc (v := (nI (k + 1))) (la' := [(6, .int (nI (k + 1))), (5, .int (q13 k)), (7, .int (q13 k)), (4, .int 3), (3, .int a3), (2, .int a2), (1, .int a1), (0, .ref 1000)]) dX11_box_128 rfl (nI_1 _) (by decide) rfl ?_
        refine ab_goto 56 dX11_box_131 (by decide) ?_
        refine ab_pick [0, 1, 3, 4, 5, 6, 7] rfl ?_
        rw [(itr_s (lp_mbox3_st q13) n k s).trans (congrArg (itr (lp_mbox3_st q13) n (k + 1)) (show lp_mbox3_st q13 k s = (q13 k) from by rw [lp_mbox3_st, if_neg (show ¬ (nI k) = 0 from h_3), if_neg (show ¬ (q13 k) ≤ s from h_5)]))] at hx
        exact ih (k + 1) (q13 k) (fun i => [(gm 33), (gm 34), (gm 35), (gm 36), (gm 37), (gm 38), (gm 39), (gm 40), (gm 41), (gm 42)].getD (i - 33) 0) (by omega) hx
theorem c_X11_box_3 {wc : List ax_E} {m_thrown m_trouble m_fault m_where m_taped m_linkMany m_tracerMany m_pointMany m_pairMany m_readLinks m_readTracers m_readPoints m_readPairs m_textLong m_at m_spot m_token m_whole m_readFault m_readPlace m_value m_curveMany m_cornerMany m_straightAt m_walkLink m_walkAngle m_walkBranch m_walkMany m_lined m_actMany a1 a2 a3 : Int32} {m_n m_c m_d m_s m_e m_k m_x m_y m_g m_a m_fitUp m_fitDown m_worstUp m_worstDown : Int64} {z3 z6 z7 z8 z9 z10 z11 z15 z16 z17 z18 z19 z20 : ax_E} {q4 q5 q12 q13 q14 X Y : Nat → Int32} {p : Nat → Bool} (h_l : 0 ≤ m_linkMany ∧ m_linkMany ≤ nI 4) (h_t : 0 ≤ m_tracerMany ∧ m_tracerMany ≤ nI 4) (h_p : ∀ k, p k = true ↔ lawM q4 a1 k) (h_X : ∀ k, k < 40 → lawM q4 a1 k → X k = mX q4 q5 a1 a2 a3 k) (h_Y : ∀ k, k < 40 → lawM q4 a1 k → Y k = mY q4 q5 a1 a2 a3 k) (h_ok : ((0 ≤ a1 ∧ a1 < m_linkMany) ∧ (0 ≤ a2 ∧ a2 < m_tracerMany) ∧ (0 ≤ a3 ∧ a3 < 2)) → ∀ k, k < 40 → lawM q4 a1 k → okS (mV0 q4 q5 a1 a2 a3 k) (Ml_k q4 a1 (nI k)) ∧ okS (mV1 q4 q5 a1 a2 a3 k) (Ml_k q4 a1 (nI k)) ∧ 0 < mWd q4 a1 k) : Ct M_X11_box [.ref 1000, .int a1, .int a2, .int a3, .int 3] (wc, [ob 9 [.int m_thrown, .int m_trouble, .int m_fault, .int m_where, .ref 1001, .ref 1002, .int 40, .ref 1003, .int m_taped, .int m_linkMany, .int m_tracerMany, .int m_pointMany, .int m_pairMany, .ref 1004, .ref 1005, .ref 1006, .ref 1007, .int m_readLinks, .int m_readTracers, .int m_readPoints, .int m_readPairs, .ref 1008, .ref 1009, .ref 1010, .ref 1011, .int m_textLong, .int m_at, .int m_spot, .int m_token, .int m_whole, .int m_readFault, .int m_readPlace, .int m_value, .long m_n, .long m_c, .long m_d, .long m_s, .long m_e, .long m_k, .long m_x, .long m_y, .long m_g, .long m_a, .ref 1012, .ref 1013, .ref 1014, .int m_curveMany, .ref 1015, .int m_cornerMany, .int m_straightAt, .ref 1016, .long m_fitUp, .long m_fitDown, .long m_worstUp, .long m_worstDown, .ref 1017, .int m_walkLink, .int m_walkAngle, .int m_walkBranch, .int m_walkMany, .ref 1018, .ref 1019, .int m_lined, .ref 1020, .int m_actMany], ia 64 (ax_tab 0), ia 64 (ax_tab 1), z3, ia 16 q4, ia 8 q5, z6, z7, z8, z9, z10, z11, ia 64 q12, ia 64 q13, ia 64 q14, z15, z16, z17, z18, z19, z20]) (fun r w' => (∃ gm_7 : Nat → Int64, ∃ gm_9 : Nat → Int64, ((0 ≤ a1 ∧ a1 < m_linkMany) ∧ (0 ≤ a2 ∧ a2 < m_tracerMany) ∧ (0 ≤ a3 ∧ a3 < 2)) ∧ (¬ (nI (Cn p 40)) = 0) ∧ r = some (.int (itr (lp_mbox3_st (crv p Y q13 40)) (Cn p 40) 0 0)) ∧ w' = (wc, [ob 9 [.int 0, .int 0, .int m_fault, .int (-1), .ref 1001, .ref 1002, .int 40, .ref 1003, .int m_taped, .int m_linkMany, .int m_tracerMany, .int m_pointMany, .int m_pairMany, .ref 1004, .ref 1005, .ref 1006, .ref 1007, .int m_readLinks, .int m_readTracers, .int m_readPoints, .int m_readPairs, .ref 1008, .ref 1009, .ref 1010, .ref 1011, .int m_textLong, .int m_at, .int m_spot, .int m_token, .int m_whole, .int m_readFault, .int m_readPlace, .int m_value, .long (gm_9 33), .long (gm_9 34), .long (gm_9 35), .long (gm_9 36), .long (gm_9 37), .long (gm_9 38), .long (gm_9 39), .long (gm_9 40), .long (gm_9 41), .long (gm_9 42), .ref 1012, .ref 1013, .ref 1014, .int (nI (Cn p 40)), .ref 1015, .int m_cornerMany, .int m_straightAt, .ref 1016, .long m_fitUp, .long m_fitDown, .long m_worstUp, .long m_worstDown, .ref 1017, .int m_walkLink, .int m_walkAngle, .int m_walkBranch, .int m_walkMany, .ref 1018, .ref 1019, .int m_lined, .ref 1020, .int m_actMany], ia 64 (ax_tab 0), ia 64 (ax_tab 1), z3, ia 16 q4, ia 8 q5, z6, z7, z8, z9, z10, z11, ia 64 (crv p X q12 40), ia 64 (crv p Y q13 40), ia 64 (crv p nI q14 40), z15, z16, z17, z18, z19, z20])) ∨ (∃ gm_7 : Nat → Int64, ((0 ≤ a1 ∧ a1 < m_linkMany) ∧ (0 ≤ a2 ∧ a2 < m_tracerMany) ∧ (0 ≤ a3 ∧ a3 < 2)) ∧ ((nI (Cn p 40)) = 0) ∧ r = some (.int (-1000000000)) ∧ w' = (wc, [ob 9 [.int 0, .int 5, .int m_fault, .int (-1), .ref 1001, .ref 1002, .int 40, .ref 1003, .int m_taped, .int m_linkMany, .int m_tracerMany, .int m_pointMany, .int m_pairMany, .ref 1004, .ref 1005, .ref 1006, .ref 1007, .int m_readLinks, .int m_readTracers, .int m_readPoints, .int m_readPairs, .ref 1008, .ref 1009, .ref 1010, .ref 1011, .int m_textLong, .int m_at, .int m_spot, .int m_token, .int m_whole, .int m_readFault, .int m_readPlace, .int m_value, .long (gm_7 33), .long (gm_7 34), .long (gm_7 35), .long (gm_7 36), .long (gm_7 37), .long (gm_7 38), .long (gm_7 39), .long (gm_7 40), .long (gm_7 41), .long (gm_7 42), .ref 1012, .ref 1013, .ref 1014, .int (nI (Cn p 40)), .ref 1015, .int m_cornerMany, .int m_straightAt, .ref 1016, .long m_fitUp, .long m_fitDown, .long m_worstUp, .long m_worstDown, .ref 1017, .int m_walkLink, .int m_walkAngle, .int m_walkBranch, .int m_walkMany, .ref 1018, .ref 1019, .int m_lined, .ref 1020, .int m_actMany], ia 64 (ax_tab 0), ia 64 (ax_tab 1), z3, ia 16 q4, ia 8 q5, z6, z7, z8, z9, z10, z11, ia 64 (crv p X q12 40), ia 64 (crv p Y q13 40), ia 64 (crv p nI q14 40), z15, z16, z17, z18, z19, z20])) ∨ ((¬ ((0 ≤ a1 ∧ a1 < m_linkMany) ∧ (0 ≤ a2 ∧ a2 < m_tracerMany) ∧ (0 ≤ a3 ∧ a3 < 2))) ∧ r = some (.int (-1000000000)) ∧ w' = (wc, [ob 9 [.int 0, .int 1, .int m_fault, .int (-1), .ref 1001, .ref 1002, .int 40, .ref 1003, .int m_taped, .int m_linkMany, .int m_tracerMany, .int m_pointMany, .int m_pairMany, .ref 1004, .ref 1005, .ref 1006, .ref 1007, .int m_readLinks, .int m_readTracers, .int m_readPoints, .int m_readPairs, .ref 1008, .ref 1009, .ref 1010, .ref 1011, .int m_textLong, .int m_at, .int m_spot, .int m_token, .int m_whole, .int m_readFault, .int m_readPlace, .int m_value, .long m_n, .long m_c, .long m_d, .long m_s, .long m_e, .long m_k, .long m_x, .long m_y, .long m_g, .long m_a, .ref 1012, .ref 1013, .ref 1014, .int m_curveMany, .ref 1015, .int m_cornerMany, .int m_straightAt, .ref 1016, .long m_fitUp, .long m_fitDown, .long m_worstUp, .long m_worstDown, .ref 1017, .int m_walkLink, .int m_walkAngle, .int m_walkBranch, .int m_walkMany, .ref 1018, .ref 1019, .int m_lined, .ref 1020, .int m_actMany], ia 64 (ax_tab 0), ia 64 (ax_tab 1), z3, ia 16 q4, ia 8 q5, z6, z7, z8, z9, z10, z11, ia 64 q12, ia 64 q13, ia 64 q14, z15, z16, z17, z18, z19, z20]))) := by
  refine ct_of ⟨by decide, rfl⟩ (Nat.le_of_ble_eq_true rfl) ?_
  refine ab_aload_n dX11_box_0 rfl ?_
  refine ab_callV (As := []) (rest := []) dX11_box_1 mv_X11_anew ml_X11_104 ⟨by decide, by decide, rfl, rfl, rfl⟩ (by decide) rfl rfl (Nat.le_of_ble_eq_true rfl) rfl c_X11_anew ?_
  rintro r w' ⟨rfl, rfl⟩
  refine ab_aload_n dX11_box_4 rfl ?_
  refine ab_iload_n dX11_box_5 rfl ?_
  refine ab_iload_n dX11_box_6 rfl ?_
  refine ab_iload_n dX11_box_7 rfl ?_
  refine ab_callV (As := [.int a1, .int a2, .int a3]) (rest := []) dX11_box_8 mv_X11_isCurve ml_X11_417 ⟨by decide, by decide, rfl, rfl, rfl⟩ (by decide) rfl rfl (Nat.le_of_ble_eq_true rfl) rfl (c_X11_isCurve h_l h_t) ?_
  rintro r w' (⟨c_1, rfl, rfl⟩ | ⟨c_2, rfl, rfl⟩)
  · refine ab_ifeq 24 dX11_box_11 (by decide) (fun h_3 => absurd h_3 (by decide)) (fun h_3 => ?_)
    refine ab_iload dX11_box_14 rfl ?_
    refine ab_iconst (v := 0) dX11_box_16 (by decide) ?_
    refine ab_iconst (v := 3) dX11_box_17 (by decide) ?_
    refine ab_callS (As := [.int 3, .int 0, .int 3]) (rest := []) dX11_box_18 ms_X11_in ml_X11_107 ⟨by decide, by decide, rfl, rfl, rfl⟩ (by decide) rfl rfl (Nat.le_of_ble_eq_true rfl) c_X11_in ?_
    rintro r w' (⟨c_4, rfl, rfl⟩ | ⟨c_5, rfl, rfl⟩)
    · refine ab_ifne 30 dX11_box_21 (by decide) (fun h_6 => ?_) (fun h_6 => absurd h_6 (by decide))
      refine ab_aload_n dX11_box_30 rfl ?_
      refine ab_iload_n dX11_box_31 rfl ?_
      refine ab_iload_n dX11_box_32 rfl ?_
      refine ab_iload_n dX11_box_33 rfl ?_
      refine ab_callV (As := [.int a1, .int a2, .int a3]) (rest := []) dX11_box_34 mv_X11_traces ml_X11_427 ⟨by decide, by decide, rfl, rfl, rfl⟩ (by decide) rfl rfl (Nat.le_of_ble_eq_true rfl) rfl (c_X11_traces (p := p) (X := X) (Y := Y) c_1.1 h_l c_1.2.1 h_t h_p h_X h_Y (h_ok c_1)) ?_
      rintro r w' ⟨gm_7, rfl, rfl⟩
      refine ab_aload_n dX11_box_37 rfl ?_
      refine ab_getf dX11_box_38 fl_X11_424 rfl rfl ?_
      refine ab_ifne 50 dX11_box_41 (by decide) (fun h_8 => ?_) (fun h_8 => ?_)
      · refine ab_iconst (v := 0) dX11_box_50 (by decide) ?_
        refine ab_istore (la' := [(5, .int 0), (0, .ref 1000), (1, .int a1), (2, .int a2), (3, .int a3), (4, .int 3)]) dX11_box_51 (by decide) rfl ?_
        refine ab_iconst (v := 0) dX11_box_53 (by decide) ?_
        refine ab_istore (la' := [(6, .int 0), (5, .int 0), (0, .ref 1000), (1, .int a1), (2, .int a2), (3, .int a3), (4, .int 3)]) dX11_box_54 (by decide) rfl ?_
        refine ab_pick [0, 1, 6, 5, 4, 3, 2] rfl ?_
        refine lp_mbox3 (cn_le p 40) (Cn p 40) 0 0 (fun i => [(gm_7 33), (gm_7 34), (gm_7 35), (gm_7 36), (gm_7 37), (gm_7 38), (gm_7 39), (gm_7 40), (gm_7 41), (gm_7 42)].getD (i - 33) 0) (by omega) ?_
        intro gm_9
        refine ab_iload dX11_box_134 rfl ?_
        exact ab_iret dX11_box_136 rfl (by decide) (Or.inl ⟨gm_7, gm_9, c_1, h_8, rfl, rfl⟩)
      · refine ab_aload_n dX11_box_44 rfl ?_
        refine ab_iconst (v := 5) dX11_box_45 (by decide) ?_
        refine ab_callV (As := [.int 5]) (rest := []) dX11_box_46 mv_X11_nothing ml_X11_111 ⟨by decide, by decide, rfl, rfl, rfl⟩ (by decide) rfl rfl (Nat.le_of_ble_eq_true rfl) rfl c_X11_nothing ?_
        rintro r w' ⟨rfl, rfl⟩
        exact ab_iret dX11_box_49 rfl (by decide) (Or.inr (Or.inl ⟨gm_7, c_1, h_8, rfl, rfl⟩))
    · exact absurd (by decide) c_5
  · refine ab_ifeq 24 dX11_box_11 (by decide) (fun h_10 => ?_) (fun h_10 => absurd (by decide) h_10)
    refine ab_aload_n dX11_box_24 rfl ?_
    refine ab_iconst (v := 1) dX11_box_25 (by decide) ?_
    refine ab_callV (As := [.int 1]) (rest := []) dX11_box_26 mv_X11_nothing ml_X11_111 ⟨by decide, by decide, rfl, rfl, rfl⟩ (by decide) rfl rfl (Nat.le_of_ble_eq_true rfl) rfl c_X11_nothing ?_
    rintro r w' ⟨rfl, rfl⟩
    exact ab_iret dX11_box_29 rfl (by decide) (Or.inr (Or.inr (⟨c_2, rfl, rfl⟩)))
theorem c_X11_box_o {wc : List ax_E} {m_thrown m_trouble m_fault m_where m_taped m_linkMany m_tracerMany m_pointMany m_pairMany m_readLinks m_readTracers m_readPoints m_readPairs m_textLong m_at m_spot m_token m_whole m_readFault m_readPlace m_value m_curveMany m_cornerMany m_straightAt m_walkLink m_walkAngle m_walkBranch m_walkMany m_lined m_actMany a1 a2 a3 a4 : Int32} {m_n m_c m_d m_s m_e m_k m_x m_y m_g m_a m_fitUp m_fitDown m_worstUp m_worstDown : Int64} {z1 z2 z3 z4 z5 z6 z7 z8 z9 z10 z11 z12 z13 z14 z15 z16 z17 z18 z19 z20 : ax_E} (h_l : 0 ≤ m_linkMany ∧ m_linkMany ≤ nI 4) (h_t : 0 ≤ m_tracerMany ∧ m_tracerMany ≤ nI 4) (h_o : ¬ (0 ≤ a4 ∧ a4 ≤ 3)) : Ct M_X11_box [.ref 1000, .int a1, .int a2, .int a3, .int a4] (wc, [ob 9 [.int m_thrown, .int m_trouble, .int m_fault, .int m_where, .ref 1001, .ref 1002, .int 40, .ref 1003, .int m_taped, .int m_linkMany, .int m_tracerMany, .int m_pointMany, .int m_pairMany, .ref 1004, .ref 1005, .ref 1006, .ref 1007, .int m_readLinks, .int m_readTracers, .int m_readPoints, .int m_readPairs, .ref 1008, .ref 1009, .ref 1010, .ref 1011, .int m_textLong, .int m_at, .int m_spot, .int m_token, .int m_whole, .int m_readFault, .int m_readPlace, .int m_value, .long m_n, .long m_c, .long m_d, .long m_s, .long m_e, .long m_k, .long m_x, .long m_y, .long m_g, .long m_a, .ref 1012, .ref 1013, .ref 1014, .int m_curveMany, .ref 1015, .int m_cornerMany, .int m_straightAt, .ref 1016, .long m_fitUp, .long m_fitDown, .long m_worstUp, .long m_worstDown, .ref 1017, .int m_walkLink, .int m_walkAngle, .int m_walkBranch, .int m_walkMany, .ref 1018, .ref 1019, .int m_lined, .ref 1020, .int m_actMany], z1, z2, z3, z4, z5, z6, z7, z8, z9, z10, z11, z12, z13, z14, z15, z16, z17, z18, z19, z20]) (fun r w' => (((0 ≤ a1 ∧ a1 < m_linkMany) ∧ (0 ≤ a2 ∧ a2 < m_tracerMany) ∧ (0 ≤ a3 ∧ a3 < 2)) ∧ r = some (.int (-1000000000)) ∧ w' = (wc, [ob 9 [.int 0, .int 1, .int m_fault, .int (-1), .ref 1001, .ref 1002, .int 40, .ref 1003, .int m_taped, .int m_linkMany, .int m_tracerMany, .int m_pointMany, .int m_pairMany, .ref 1004, .ref 1005, .ref 1006, .ref 1007, .int m_readLinks, .int m_readTracers, .int m_readPoints, .int m_readPairs, .ref 1008, .ref 1009, .ref 1010, .ref 1011, .int m_textLong, .int m_at, .int m_spot, .int m_token, .int m_whole, .int m_readFault, .int m_readPlace, .int m_value, .long m_n, .long m_c, .long m_d, .long m_s, .long m_e, .long m_k, .long m_x, .long m_y, .long m_g, .long m_a, .ref 1012, .ref 1013, .ref 1014, .int m_curveMany, .ref 1015, .int m_cornerMany, .int m_straightAt, .ref 1016, .long m_fitUp, .long m_fitDown, .long m_worstUp, .long m_worstDown, .ref 1017, .int m_walkLink, .int m_walkAngle, .int m_walkBranch, .int m_walkMany, .ref 1018, .ref 1019, .int m_lined, .ref 1020, .int m_actMany], z1, z2, z3, z4, z5, z6, z7, z8, z9, z10, z11, z12, z13, z14, z15, z16, z17, z18, z19, z20])) ∨ ((¬ ((0 ≤ a1 ∧ a1 < m_linkMany) ∧ (0 ≤ a2 ∧ a2 < m_tracerMany) ∧ (0 ≤ a3 ∧ a3 < 2))) ∧ r = some (.int (-1000000000)) ∧ w' = (wc, [ob 9 [.int 0, .int 1, .int m_fault, .int (-1), .ref 1001, .ref 1002, .int 40, .ref 1003, .int m_taped, .int m_linkMany, .int m_tracerMany, .int m_pointMany, .int m_pairMany, .ref 1004, .ref 1005, .ref 1006, .ref 1007, .int m_readLinks, .int m_readTracers, .int m_readPoints, .int m_readPairs, .ref 1008, .ref 1009, .ref 1010, .ref 1011, .int m_textLong, .int m_at, .int m_spot, .int m_token, .int m_whole, .int m_readFault, .int m_readPlace, .int m_value, .long m_n, .long m_c, .long m_d, .long m_s, .long m_e, .long m_k, .long m_x, .long m_y, .long m_g, .long m_a, .ref 1012, .ref 1013, .ref 1014, .int m_curveMany, .ref 1015, .int m_cornerMany, .int m_straightAt, .ref 1016, .long m_fitUp, .long m_fitDown, .long m_worstUp, .long m_worstDown, .ref 1017, .int m_walkLink, .int m_walkAngle, .int m_walkBranch, .int m_walkMany, .ref 1018, .ref 1019, .int m_lined, .ref 1020, .int m_actMany], z1, z2, z3, z4, z5, z6, z7, z8, z9, z10, z11, z12, z13, z14, z15, z16, z17, z18, z19, z20]))) := by
  refine ct_of ⟨by decide, rfl⟩ (Nat.le_of_ble_eq_true rfl) ?_
  refine ab_aload_n dX11_box_0 rfl ?_
  refine ab_callV (As := []) (rest := []) dX11_box_1 mv_X11_anew ml_X11_104 ⟨by decide, by decide, rfl, rfl, rfl⟩ (by decide) rfl rfl (Nat.le_of_ble_eq_true rfl) rfl c_X11_anew ?_
  rintro r w' ⟨rfl, rfl⟩
  refine ab_aload_n dX11_box_4 rfl ?_
  refine ab_iload_n dX11_box_5 rfl ?_
  refine ab_iload_n dX11_box_6 rfl ?_
  refine ab_iload_n dX11_box_7 rfl ?_
  refine ab_callV (As := [.int a1, .int a2, .int a3]) (rest := []) dX11_box_8 mv_X11_isCurve ml_X11_417 ⟨by decide, by decide, rfl, rfl, rfl⟩ (by decide) rfl rfl (Nat.le_of_ble_eq_true rfl) rfl (c_X11_isCurve h_l h_t) ?_
  rintro r w' (⟨c_1, rfl, rfl⟩ | ⟨c_2, rfl, rfl⟩)
  · refine ab_ifeq 24 dX11_box_11 (by decide) (fun h_3 => absurd h_3 (by decide)) (fun h_3 => ?_)
    refine ab_iload dX11_box_14 rfl ?_
    refine ab_iconst (v := 0) dX11_box_16 (by decide) ?_
    refine ab_iconst (v := 3) dX11_box_17 (by decide) ?_
    refine ab_callS (As := [.int a4, .int 0, .int 3]) (rest := []) dX11_box_18 ms_X11_in ml_X11_107 ⟨by decide, by decide, rfl, rfl, rfl⟩ (by decide) rfl rfl (Nat.le_of_ble_eq_true rfl) c_X11_in ?_
    rintro r w' (⟨c_4, rfl, rfl⟩ | ⟨c_5, rfl, rfl⟩)
    · exact absurd c_4 h_o
    · refine ab_ifne 30 dX11_box_21 (by decide) (fun h_6 => absurd (by decide) h_6) (fun h_6 => ?_)
      refine ab_aload_n dX11_box_24 rfl ?_
      refine ab_iconst (v := 1) dX11_box_25 (by decide) ?_
      refine ab_callV (As := [.int 1]) (rest := []) dX11_box_26 mv_X11_nothing ml_X11_111 ⟨by decide, by decide, rfl, rfl, rfl⟩ (by decide) rfl rfl (Nat.le_of_ble_eq_true rfl) rfl c_X11_nothing ?_
      rintro r w' ⟨rfl, rfl⟩
      exact ab_iret dX11_box_29 rfl (by decide) (Or.inl ⟨c_1, rfl, rfl⟩)
  · refine ab_ifeq 24 dX11_box_11 (by decide) (fun h_7 => ?_) (fun h_7 => absurd (by decide) h_7)
    refine ab_aload_n dX11_box_24 rfl ?_
    refine ab_iconst (v := 1) dX11_box_25 (by decide) ?_
    refine ab_callV (As := [.int 1]) (rest := []) dX11_box_26 mv_X11_nothing ml_X11_111 ⟨by decide, by decide, rfl, rfl, rfl⟩ (by decide) rfl rfl (Nat.le_of_ble_eq_true rfl) rfl c_X11_nothing ?_
    rintro r w' ⟨rfl, rfl⟩
    exact ab_iret dX11_box_29 rfl (by decide) (Or.inr (⟨c_2, rfl, rfl⟩))
def lp_marea_st (q12 : Nat → Int32) (q13 : Nat → Int32) (c : Nat) (k : Nat) (s : Int64) : Int64 := (s + (Int32.toInt64 (((q12 k) * (q13 (nxc c k))) - ((q12 (nxc c k)) * (q13 k)))))
set_option maxHeartbeats 400000 in
theorem lp_marea {wc : List ax_E} {m_thrown m_trouble m_fault m_where m_taped m_linkMany m_tracerMany m_pointMany m_pairMany m_readLinks m_readTracers m_readPoints m_readPairs m_textLong m_at m_spot m_token m_whole m_readFault m_readPlace m_value m_cornerMany m_straightAt m_walkLink m_walkAngle m_walkBranch m_walkMany m_lined m_actMany a3 a2 a1 : Int32} {m_fitUp m_fitDown m_worstUp m_worstDown : Int64} {z3 z6 z7 z8 z9 z10 z11 z15 z16 z17 z18 z19 z20 : ax_E} {q4 q5 q12 q13 q14 : Nat → Int32} {c : Nat} {Q : Option Value → ax_W → Prop} (hc : c ≤ 40) : ∀ (n k : Nat) (s : Int64) (gm : Nat → Int64), k + n = c → (∀ (gm : Nat → Int64), Ab M_X11_area Q (0, 0) 93 [(6, .int (nI c)), (4, .long (itr (lp_marea_st q12 q13 c) n k s)), (3, .int a3), (2, .int a2), (1, .int a1), (0, .ref 1000)] [] (wc, [ob 9 [.int m_thrown, .int m_trouble, .int m_fault, .int m_where, .ref 1001, .ref 1002, .int 40, .ref 1003, .int m_taped, .int m_linkMany, .int m_tracerMany, .int m_pointMany, .int m_pairMany, .ref 1004, .ref 1005, .ref 1006, .ref 1007, .int m_readLinks, .int m_readTracers, .int m_readPoints, .int m_readPairs, .ref 1008, .ref 1009, .ref 1010, .ref 1011, .int m_textLong, .int m_at, .int m_spot, .int m_token, .int m_whole, .int m_readFault, .int m_readPlace, .int m_value, .long (gm 33), .long (gm 34), .long (gm 35), .long (gm 36), .long (gm 37), .long (gm 38), .long (gm 39), .long (gm 40), .long (gm 41), .long (gm 42), .ref 1012, .ref 1013, .ref 1014, .int (nI c), .ref 1015, .int m_cornerMany, .int m_straightAt, .ref 1016, .long m_fitUp, .long m_fitDown, .long m_worstUp, .long m_worstDown, .ref 1017, .int m_walkLink, .int m_walkAngle, .int m_walkBranch, .int m_walkMany, .ref 1018, .ref 1019, .int m_lined, .ref 1020, .int m_actMany], ia 64 (ax_tab 0), ia 64 (ax_tab 1), z3, ia 16 q4, ia 8 q5, z6, z7, z8, z9, z10, z11, ia 64 q12, ia 64 q13, ia 64 q14, z15, z16, z17, z18, z19, z20])) → Ab M_X11_area Q (0, 0) 33 [(6, .int (nI k)), (4, .long s), (3, .int a3), (2, .int a2), (1, .int a1), (0, .ref 1000)] [] (wc, [ob 9 [.int m_thrown, .int m_trouble, .int m_fault, .int m_where, .ref 1001, .ref 1002, .int 40, .ref 1003, .int m_taped, .int m_linkMany, .int m_tracerMany, .int m_pointMany, .int m_pairMany, .ref 1004, .ref 1005, .ref 1006, .ref 1007, .int m_readLinks, .int m_readTracers, .int m_readPoints, .int m_readPairs, .ref 1008, .ref 1009, .ref 1010, .ref 1011, .int m_textLong, .int m_at, .int m_spot, .int m_token, .int m_whole, .int m_readFault, .int m_readPlace, .int m_value, .long (gm 33), .long (gm 34), .long (gm 35), .long (gm 36), .long (gm 37), .long (gm 38), .long (gm 39), .long (gm 40), .long (gm 41), .long (gm 42), .ref 1012, .ref 1013, .ref 1014, .int (nI c), .ref 1015, .int m_cornerMany, .int m_straightAt, .ref 1016, .long m_fitUp, .long m_fitDown, .long m_worstUp, .long m_worstDown, .ref 1017, .int m_walkLink, .int m_walkAngle, .int m_walkBranch, .int m_walkMany, .ref 1018, .ref 1019, .int m_lined, .ref 1020, .int m_actMany], ia 64 (ax_tab 0), ia 64 (ax_tab 1), z3, ia 16 q4, ia 8 q5, z6, z7, z8, z9, z10, z11, ia 64 q12, ia 64 q13, ia 64 q14, z15, z16, z17, z18, z19, z20]) := by
  intro n
  induction n with
  | zero =>
    intro k s gm hk hx
    rw [itr_0] at hx
    rw [show k = c by omega]
    refine ab_iload dX11_area_33 rfl ?_
    refine ab_aload_n dX11_area_35 rfl ?_
    refine ab_getf dX11_area_36 fl_X11_424 rfl rfl ?_
    refine ab_icmpge 93 dX11_area_39 (by decide) (fun h_1 => ?_) (fun h_1 => absurd (nI_le (b := c) (Nat.le_refl _) (by omega)) h_1)
    refine ab_pick [0, 1, 2, 3, 4, 5] rfl ?_
    exact hx gm
  | succ n ih =>
    intro k s gm hk hx
    refine ab_iload dX11_area_33 rfl ?_
    refine ab_aload_n dX11_area_35 rfl ?_
    refine ab_getf dX11_area_36 fl_X11_424 rfl rfl ?_
    refine ab_icmpge 93 dX11_area_39 (by decide) (fun h_1 => absurd h_1 (nI_ge (a := k) (b := c) (by omega) (by omega))) (fun h_1 => ?_)
    refine ab_lload dX11_area_42 rfl ?_
    refine ab_aload_n dX11_area_44 rfl ?_
    refine ab_getf dX11_area_45 fl_X11_66 rfl rfl ?_
    refine ab_iload dX11_area_48 rfl ?_
    refine ab_iald (j := k) dX11_area_50 rfl (ix_nI (by omega) (by decide)) ?_
    refine ab_aload_n dX11_area_51 rfl ?_
    refine ab_getf dX11_area_52 fl_X11_69 rfl rfl ?_
    refine ab_aload_n dX11_area_55 rfl ?_
    refine ab_iload dX11_area_56 rfl ?_
    refine ab_callV (As := [.int (nI k)]) (rest := [.ref 1013, .int (q12 k), .long s]) dX11_area_58 mv_X11_after ml_X11_431 ⟨by decide, by decide, rfl, rfl, rfl⟩ (by decide) rfl rfl (Nat.le_of_ble_eq_true rfl) rfl (c_X11_after (c := c) (j := k) hc (by omega)) ?_
    rintro r w' ⟨rfl, rfl⟩
    refine ab_iald (j := (nxc c k)) dX11_area_61 rfl (ix_nI (by have := nxc_lt (c := c) (i := k) (by omega); omega) (by decide)) ?_
    refine ab_imul dX11_area_62 ?_
    refine ab_aload_n dX11_area_63 rfl ?_
    refine ab_getf dX11_area_64 fl_X11_66 rfl rfl ?_
    refine ab_aload_n dX11_area_67 rfl ?_
    refine ab_iload dX11_area_68 rfl ?_
    refine ab_callV (As := [.int (nI k)]) (rest := [.ref 1012, .int ((q12 k) * (q13 (nxc c k))), .long s]) dX11_area_70 mv_X11_after ml_X11_431 ⟨by decide, by decide, rfl, rfl, rfl⟩ (by decide) rfl rfl (Nat.le_of_ble_eq_true rfl) rfl (c_X11_after (c := c) (j := k) hc (by omega)) ?_
    rintro r w' ⟨rfl, rfl⟩
    refine ab_iald (j := (nxc c k)) dX11_area_73 rfl (ix_nI (by have := nxc_lt (c := c) (i := k) (by omega); omega) (by decide)) ?_
    refine ab_aload_n dX11_area_74 rfl ?_
    refine ab_getf dX11_area_75 fl_X11_69 rfl rfl ?_
    refine ab_iload dX11_area_78 rfl ?_
    refine ab_iald (j := k) dX11_area_80 rfl (ix_nI (by omega) (by decide)) ?_
    refine ab_imul dX11_area_81 ?_
    refine ab_isub dX11_area_82 ?_
    refine ab_i2l dX11_area_83 ?_
    refine ab_ladd dX11_area_84 ?_
    refine ab_lstore (la' := [(4, .long (s + (Int32.toInt64 (((q12 k) * (q13 (nxc c k))) - ((q12 (nxc c k)) * (q13 k)))))), (6, .int (nI k)), (3, .int a3), (2, .int a2), (1, .int a1), (0, .ref 1000)]) dX11_area_85 (by decide) rfl ?_
    refine ab_iinc (v := (nI (k + 1))) (la' := [(6, .int (nI (k + 1))), (4, .long (s + (Int32.toInt64 (((q12 k) * (q13 (nxc c k))) - ((q12 (nxc c k)) * (q13 k)))))), (3, .int a3), (2, .int a2), (1, .int a1), (0, .ref 1000)]) dX11_area_87 rfl (nI_1 _) (by decide) rfl ?_
    refine ab_goto 33 dX11_area_90 (by decide) ?_
    refine ab_pick [0, 1, 2, 3, 4, 5] rfl ?_
    rw [(itr_s (lp_marea_st q12 q13 c) n k s).trans (congrArg (itr (lp_marea_st q12 q13 c) n (k + 1)) (show lp_marea_st q12 q13 c k s = (s + (Int32.toInt64 (((q12 k) * (q13 (nxc c k))) - ((q12 (nxc c k)) * (q13 k))))) from rfl))] at hx
    exact ih (k + 1) (s + (Int32.toInt64 (((q12 k) * (q13 (nxc c k))) - ((q12 (nxc c k)) * (q13 k))))) (fun i => [(gm 33), (gm 34), (gm 35), (gm 36), (gm 37), (gm 38), (gm 39), (gm 40), (gm 41), (gm 42)].getD (i - 33) 0) (by omega) hx
theorem c_X11_area {wc : List ax_E} {m_thrown m_trouble m_fault m_where m_taped m_linkMany m_tracerMany m_pointMany m_pairMany m_readLinks m_readTracers m_readPoints m_readPairs m_textLong m_at m_spot m_token m_whole m_readFault m_readPlace m_value m_curveMany m_cornerMany m_straightAt m_walkLink m_walkAngle m_walkBranch m_walkMany m_lined m_actMany a1 a2 a3 : Int32} {m_n m_c m_d m_s m_e m_k m_x m_y m_g m_a m_fitUp m_fitDown m_worstUp m_worstDown : Int64} {z3 z6 z7 z8 z9 z10 z11 z15 z16 z17 z18 z19 z20 : ax_E} {q4 q5 q12 q13 q14 X Y : Nat → Int32} {p : Nat → Bool} (h_l : 0 ≤ m_linkMany ∧ m_linkMany ≤ nI 4) (h_t : 0 ≤ m_tracerMany ∧ m_tracerMany ≤ nI 4) (h_p : ∀ k, p k = true ↔ lawM q4 a1 k) (h_X : ∀ k, k < 40 → lawM q4 a1 k → X k = mX q4 q5 a1 a2 a3 k) (h_Y : ∀ k, k < 40 → lawM q4 a1 k → Y k = mY q4 q5 a1 a2 a3 k) (h_ok : ((0 ≤ a1 ∧ a1 < m_linkMany) ∧ (0 ≤ a2 ∧ a2 < m_tracerMany) ∧ (0 ≤ a3 ∧ a3 < 2)) → ∀ k, k < 40 → lawM q4 a1 k → okS (mV0 q4 q5 a1 a2 a3 k) (Ml_k q4 a1 (nI k)) ∧ okS (mV1 q4 q5 a1 a2 a3 k) (Ml_k q4 a1 (nI k)) ∧ 0 < mWd q4 a1 k) : Ct M_X11_area [.ref 1000, .int a1, .int a2, .int a3] (wc, [ob 9 [.int m_thrown, .int m_trouble, .int m_fault, .int m_where, .ref 1001, .ref 1002, .int 40, .ref 1003, .int m_taped, .int m_linkMany, .int m_tracerMany, .int m_pointMany, .int m_pairMany, .ref 1004, .ref 1005, .ref 1006, .ref 1007, .int m_readLinks, .int m_readTracers, .int m_readPoints, .int m_readPairs, .ref 1008, .ref 1009, .ref 1010, .ref 1011, .int m_textLong, .int m_at, .int m_spot, .int m_token, .int m_whole, .int m_readFault, .int m_readPlace, .int m_value, .long m_n, .long m_c, .long m_d, .long m_s, .long m_e, .long m_k, .long m_x, .long m_y, .long m_g, .long m_a, .ref 1012, .ref 1013, .ref 1014, .int m_curveMany, .ref 1015, .int m_cornerMany, .int m_straightAt, .ref 1016, .long m_fitUp, .long m_fitDown, .long m_worstUp, .long m_worstDown, .ref 1017, .int m_walkLink, .int m_walkAngle, .int m_walkBranch, .int m_walkMany, .ref 1018, .ref 1019, .int m_lined, .ref 1020, .int m_actMany], ia 64 (ax_tab 0), ia 64 (ax_tab 1), z3, ia 16 q4, ia 8 q5, z6, z7, z8, z9, z10, z11, ia 64 q12, ia 64 q13, ia 64 q14, z15, z16, z17, z18, z19, z20]) (fun r w' => (∃ gm_4 : Nat → Int64, ∃ gm_5 : Nat → Int64, ((0 ≤ a1 ∧ a1 < m_linkMany) ∧ (0 ≤ a2 ∧ a2 < m_tracerMany) ∧ (0 ≤ a3 ∧ a3 < 2)) ∧ r = some (.long (itr (lp_marea_st (crv p X q12 40) (crv p Y q13 40) (Cn p 40)) (Cn p 40) 0 0)) ∧ w' = (wc, [ob 9 [.int 0, .int 0, .int m_fault, .int (-1), .ref 1001, .ref 1002, .int 40, .ref 1003, .int m_taped, .int m_linkMany, .int m_tracerMany, .int m_pointMany, .int m_pairMany, .ref 1004, .ref 1005, .ref 1006, .ref 1007, .int m_readLinks, .int m_readTracers, .int m_readPoints, .int m_readPairs, .ref 1008, .ref 1009, .ref 1010, .ref 1011, .int m_textLong, .int m_at, .int m_spot, .int m_token, .int m_whole, .int m_readFault, .int m_readPlace, .int m_value, .long (gm_5 33), .long (gm_5 34), .long (gm_5 35), .long (gm_5 36), .long (gm_5 37), .long (gm_5 38), .long (gm_5 39), .long (gm_5 40), .long (gm_5 41), .long (gm_5 42), .ref 1012, .ref 1013, .ref 1014, .int (nI (Cn p 40)), .ref 1015, .int m_cornerMany, .int m_straightAt, .ref 1016, .long m_fitUp, .long m_fitDown, .long m_worstUp, .long m_worstDown, .ref 1017, .int m_walkLink, .int m_walkAngle, .int m_walkBranch, .int m_walkMany, .ref 1018, .ref 1019, .int m_lined, .ref 1020, .int m_actMany], ia 64 (ax_tab 0), ia 64 (ax_tab 1), z3, ia 16 q4, ia 8 q5, z6, z7, z8, z9, z10, z11, ia 64 (crv p X q12 40), ia 64 (crv p Y q13 40), ia 64 (crv p nI q14 40), z15, z16, z17, z18, z19, z20])) ∨ ((¬ ((0 ≤ a1 ∧ a1 < m_linkMany) ∧ (0 ≤ a2 ∧ a2 < m_tracerMany) ∧ (0 ≤ a3 ∧ a3 < 2))) ∧ r = some (.long (-9223372036854775808)) ∧ w' = (wc, [ob 9 [.int 0, .int 1, .int m_fault, .int (-1), .ref 1001, .ref 1002, .int 40, .ref 1003, .int m_taped, .int m_linkMany, .int m_tracerMany, .int m_pointMany, .int m_pairMany, .ref 1004, .ref 1005, .ref 1006, .ref 1007, .int m_readLinks, .int m_readTracers, .int m_readPoints, .int m_readPairs, .ref 1008, .ref 1009, .ref 1010, .ref 1011, .int m_textLong, .int m_at, .int m_spot, .int m_token, .int m_whole, .int m_readFault, .int m_readPlace, .int m_value, .long m_n, .long m_c, .long m_d, .long m_s, .long m_e, .long m_k, .long m_x, .long m_y, .long m_g, .long m_a, .ref 1012, .ref 1013, .ref 1014, .int m_curveMany, .ref 1015, .int m_cornerMany, .int m_straightAt, .ref 1016, .long m_fitUp, .long m_fitDown, .long m_worstUp, .long m_worstDown, .ref 1017, .int m_walkLink, .int m_walkAngle, .int m_walkBranch, .int m_walkMany, .ref 1018, .ref 1019, .int m_lined, .ref 1020, .int m_actMany], ia 64 (ax_tab 0), ia 64 (ax_tab 1), z3, ia 16 q4, ia 8 q5, z6, z7, z8, z9, z10, z11, ia 64 q12, ia 64 q13, ia 64 q14, z15, z16, z17, z18, z19, z20]))) := by
  refine ct_of ⟨by decide, rfl⟩ (Nat.le_of_ble_eq_true rfl) ?_
  refine ab_aload_n dX11_area_0 rfl ?_
  refine ab_callV (As := []) (rest := []) dX11_area_1 mv_X11_anew ml_X11_104 ⟨by decide, by decide, rfl, rfl, rfl⟩ (by decide) rfl rfl (Nat.le_of_ble_eq_true rfl) rfl c_X11_anew ?_
  rintro r w' ⟨rfl, rfl⟩
  refine ab_aload_n dX11_area_4 rfl ?_
  refine ab_iload_n dX11_area_5 rfl ?_
  refine ab_iload_n dX11_area_6 rfl ?_
  refine ab_iload_n dX11_area_7 rfl ?_
  refine ab_callV (As := [.int a1, .int a2, .int a3]) (rest := []) dX11_area_8 mv_X11_isCurve ml_X11_417 ⟨by decide, by decide, rfl, rfl, rfl⟩ (by decide) rfl rfl (Nat.le_of_ble_eq_true rfl) rfl (c_X11_isCurve h_l h_t) ?_
  rintro r w' (⟨c_1, rfl, rfl⟩ | ⟨c_2, rfl, rfl⟩)
  · refine ab_ifne 20 dX11_area_11 (by decide) (fun h_3 => ?_) (fun h_3 => absurd h_3 (by decide))
    refine ab_aload_n dX11_area_20 rfl ?_
    refine ab_iload_n dX11_area_21 rfl ?_
    refine ab_iload_n dX11_area_22 rfl ?_
    refine ab_iload_n dX11_area_23 rfl ?_
    refine ab_callV (As := [.int a1, .int a2, .int a3]) (rest := []) dX11_area_24 mv_X11_traces ml_X11_427 ⟨by decide, by decide, rfl, rfl, rfl⟩ (by decide) rfl rfl (Nat.le_of_ble_eq_true rfl) rfl (c_X11_traces (p := p) (X := X) (Y := Y) c_1.1 h_l c_1.2.1 h_t h_p h_X h_Y (h_ok c_1)) ?_
    rintro r w' ⟨gm_4, rfl, rfl⟩
    refine ab_lconst (v := 0) dX11_area_27 (by decide) ?_
    refine ab_lstore (la' := [(4, .long 0), (0, .ref 1000), (1, .int a1), (2, .int a2), (3, .int a3)]) dX11_area_28 (by decide) rfl ?_
    refine ab_iconst (v := 0) dX11_area_30 (by decide) ?_
    refine ab_istore (la' := [(6, .int 0), (4, .long 0), (0, .ref 1000), (1, .int a1), (2, .int a2), (3, .int a3)]) dX11_area_31 (by decide) rfl ?_
    refine ab_pick [0, 1, 5, 4, 3, 2] rfl ?_
    refine lp_marea (cn_le p 40) (Cn p 40) 0 0 (fun i => [(gm_4 33), (gm_4 34), (gm_4 35), (gm_4 36), (gm_4 37), (gm_4 38), (gm_4 39), (gm_4 40), (gm_4 41), (gm_4 42)].getD (i - 33) 0) (by omega) ?_
    intro gm_5
    refine ab_lload dX11_area_93 rfl ?_
    exact ab_lret dX11_area_95 rfl (by decide) (Or.inl ⟨gm_4, gm_5, c_1, rfl, rfl⟩)
  · refine ab_ifne 20 dX11_area_11 (by decide) (fun h_6 => absurd (by decide) h_6) (fun h_6 => ?_)
    refine ab_aload_n dX11_area_14 rfl ?_
    refine ab_iconst (v := 1) dX11_area_15 (by decide) ?_
    refine ab_callV (As := [.int 1]) (rest := []) dX11_area_16 mv_X11_lowest ml_X11_304 ⟨by decide, by decide, rfl, rfl, rfl⟩ (by decide) rfl rfl (Nat.le_of_ble_eq_true rfl) rfl c_X11_lowest ?_
    rintro r w' ⟨rfl, rfl⟩
    exact ab_lret dX11_area_19 rfl (by decide) (Or.inr (⟨c_2, rfl, rfl⟩))
def lp_mah_st (q6 : Nat → Int32) (q12 : Nat → Int32) (q13 : Nat → Int32) (a2 : Int32) (i : Nat) (k : Nat) (s : Int32) : Int32 := (if (Cv_sq q12 q13 (Tm q6 a2) (Tn q6 a2) k) < (Cv_sq q12 q13 (Tm q6 a2) (Tn q6 a2) i) then (s + 1) else (if (Cv_sq q12 q13 (Tm q6 a2) (Tn q6 a2) k) = (Cv_sq q12 q13 (Tm q6 a2) (Tn q6 a2) i) then (if (nI i) ≤ (nI k) then (s + 0) else (s + 1)) else (s + 0)))
set_option maxHeartbeats 400000 in
theorem lp_mah {wc : List ax_E} {m_thrown m_trouble m_fault m_where m_taped m_linkMany m_tracerMany m_pointMany m_pairMany m_readLinks m_readTracers m_readPoints m_readPairs m_textLong m_at m_spot m_token m_whole m_readFault m_readPlace m_value m_cornerMany m_straightAt m_walkLink m_walkAngle m_walkBranch m_walkMany m_lined m_actMany a2 : Int32} {m_n m_c m_d m_s m_e m_k m_x m_y m_g m_a m_fitUp m_fitDown m_worstUp m_worstDown : Int64} {z1 z2 z3 z4 z5 z7 z8 z9 z10 z11 z14 z15 z16 z17 z18 z19 z20 : ax_E} {q6 q12 q13 : Nat → Int32} {c i : Nat} {Q : Option Value → ax_W → Prop} (hc : c ≤ 40) (hi : i < c) (h_pt : 0 ≤ a2 ∧ a2 < m_pointMany) (h_p : 0 ≤ m_pointMany ∧ m_pointMany ≤ nI 8) : ∀ (n k : Nat) (s : Int32) , k + n = c → Ab M_X11_aheadOf Q (0, 0) 66 [(4, .int (nI c)), (3, .int (itr (lp_mah_st q6 q12 q13 a2 i) n k s)), (2, .int a2), (1, .int (nI i)), (0, .ref 1000)] [] (wc, [ob 9 [.int m_thrown, .int m_trouble, .int m_fault, .int m_where, .ref 1001, .ref 1002, .int 40, .ref 1003, .int m_taped, .int m_linkMany, .int m_tracerMany, .int m_pointMany, .int m_pairMany, .ref 1004, .ref 1005, .ref 1006, .ref 1007, .int m_readLinks, .int m_readTracers, .int m_readPoints, .int m_readPairs, .ref 1008, .ref 1009, .ref 1010, .ref 1011, .int m_textLong, .int m_at, .int m_spot, .int m_token, .int m_whole, .int m_readFault, .int m_readPlace, .int m_value, .long m_n, .long m_c, .long m_d, .long m_s, .long m_e, .long m_k, .long m_x, .long m_y, .long m_g, .long m_a, .ref 1012, .ref 1013, .ref 1014, .int (nI c), .ref 1015, .int m_cornerMany, .int m_straightAt, .ref 1016, .long m_fitUp, .long m_fitDown, .long m_worstUp, .long m_worstDown, .ref 1017, .int m_walkLink, .int m_walkAngle, .int m_walkBranch, .int m_walkMany, .ref 1018, .ref 1019, .int m_lined, .ref 1020, .int m_actMany], z1, z2, z3, z4, z5, ia 16 q6, z7, z8, z9, z10, z11, ia 64 q12, ia 64 q13, z14, z15, z16, z17, z18, z19, z20]) → Ab M_X11_aheadOf Q (0, 0) 5 [(4, .int (nI k)), (3, .int s), (2, .int a2), (1, .int (nI i)), (0, .ref 1000)] [] (wc, [ob 9 [.int m_thrown, .int m_trouble, .int m_fault, .int m_where, .ref 1001, .ref 1002, .int 40, .ref 1003, .int m_taped, .int m_linkMany, .int m_tracerMany, .int m_pointMany, .int m_pairMany, .ref 1004, .ref 1005, .ref 1006, .ref 1007, .int m_readLinks, .int m_readTracers, .int m_readPoints, .int m_readPairs, .ref 1008, .ref 1009, .ref 1010, .ref 1011, .int m_textLong, .int m_at, .int m_spot, .int m_token, .int m_whole, .int m_readFault, .int m_readPlace, .int m_value, .long m_n, .long m_c, .long m_d, .long m_s, .long m_e, .long m_k, .long m_x, .long m_y, .long m_g, .long m_a, .ref 1012, .ref 1013, .ref 1014, .int (nI c), .ref 1015, .int m_cornerMany, .int m_straightAt, .ref 1016, .long m_fitUp, .long m_fitDown, .long m_worstUp, .long m_worstDown, .ref 1017, .int m_walkLink, .int m_walkAngle, .int m_walkBranch, .int m_walkMany, .ref 1018, .ref 1019, .int m_lined, .ref 1020, .int m_actMany], z1, z2, z3, z4, z5, ia 16 q6, z7, z8, z9, z10, z11, ia 64 q12, ia 64 q13, z14, z15, z16, z17, z18, z19, z20]) := by
  intro n
  induction n with
  | zero =>
    intro k s  hk hx
    rw [itr_0] at hx
    rw [show k = c by omega]
    refine ab_iload dX11_aheadOf_5 rfl ?_
    refine ab_aload_n dX11_aheadOf_7 rfl ?_
    refine ab_getf dX11_aheadOf_8 fl_X11_424 rfl rfl ?_
    refine ab_icmpge 66 dX11_aheadOf_11 (by decide) (fun h_1 => ?_) (fun h_1 => absurd (nI_le (b := c) (Nat.le_refl _) (by omega)) h_1)
    refine ab_pick [0, 1, 2, 3, 4] rfl ?_
    exact hx 
  | succ n ih =>
    intro k s  hk hx
    refine ab_iload dX11_aheadOf_5 rfl ?_
    refine ab_aload_n dX11_aheadOf_7 rfl ?_
    refine ab_getf dX11_aheadOf_8 fl_X11_424 rfl rfl ?_
    refine ab_icmpge 66 dX11_aheadOf_11 (by decide) (fun h_1 => absurd h_1 (nI_ge (a := k) (b := c) (by omega) (by omega))) (fun h_1 => ?_)
    refine ab_iload_n dX11_aheadOf_14 rfl ?_
    refine ab_aload_n dX11_aheadOf_15 rfl ?_
    refine ab_iload dX11_aheadOf_16 rfl ?_
    refine ab_iload_n dX11_aheadOf_18 rfl ?_
    refine ab_callV (As := [.int (nI k), .int a2]) (rest := [.int s]) dX11_aheadOf_19 mv_X11_missAt ml_X11_474 ⟨by decide, by decide, rfl, rfl, rfl⟩ (by decide) rfl rfl (Nat.le_of_ble_eq_true rfl) rfl (c_X11_missAt (c := c) (j := k) hc (by omega) h_pt h_p) ?_
    rintro r w' ⟨rfl, rfl⟩
    refine ab_aload_n dX11_aheadOf_22 rfl ?_
    refine ab_iload_n dX11_aheadOf_23 rfl ?_
    refine ab_iload_n dX11_aheadOf_24 rfl ?_
    refine ab_callV (As := [.int (nI i), .int a2]) (rest := [.int (Cv_sq q12 q13 (Tm q6 a2) (Tn q6 a2) k), .int s]) dX11_aheadOf_25 mv_X11_missAt ml_X11_474 ⟨by decide, by decide, rfl, rfl, rfl⟩ (by decide) rfl rfl (Nat.le_of_ble_eq_true rfl) rfl (c_X11_missAt (c := c) (j := i) hc (by omega) h_pt h_p) ?_
    rintro r w' ⟨rfl, rfl⟩
    refine ab_icmplt 53 dX11_aheadOf_28 (by decide) (fun h_2 => ?_) (fun h_2 => ?_)
    · refine ab_iconst (v := 1) dX11_aheadOf_53 (by decide) ?_
      refine ab_goto 58 dX11_aheadOf_54 (by decide) ?_
      refine ab_iadd dX11_aheadOf_58 ?_
      refine ab_istore_n (la' := [(3, .int (s + 1)), (4, .int (nI k)), (2, .int a2), (1, .int (nI i)), (0, .ref 1000)]) dX11_aheadOf_59 (by decide) rfl ?_
      refine ab_iinc (v := (nI (k + 1))) (la' := [(4, .int (nI (k + 1))), (3, .int (s + 1)), (2, .int a2), (1, .int (nI i)), (0, .ref 1000)]) dX11_aheadOf_60 rfl (nI_1 _) (by decide) rfl ?_
      refine ab_goto 5 dX11_aheadOf_63 (by decide) ?_
      refine ab_pick [0, 1, 2, 3, 4] rfl ?_
      rw [(itr_s (lp_mah_st q6 q12 q13 a2 i) n k s).trans (congrArg (itr (lp_mah_st q6 q12 q13 a2 i) n (k + 1)) (show lp_mah_st q6 q12 q13 a2 i k s = (s + 1) from by rw [lp_mah_st, if_pos (show (Cv_sq q12 q13 (Tm q6 a2) (Tn q6 a2) k) < (Cv_sq q12 q13 (Tm q6 a2) (Tn q6 a2) i) from h_2)]))] at hx
      exact ih (k + 1) (s + 1)  (by omega) hx
    · refine ab_aload_n dX11_aheadOf_31 rfl ?_
      refine ab_iload dX11_aheadOf_32 rfl ?_
      refine ab_iload_n dX11_aheadOf_34 rfl ?_
      refine ab_callV (As := [.int (nI k), .int a2]) (rest := [.int s]) dX11_aheadOf_35 mv_X11_missAt ml_X11_474 ⟨by decide, by decide, rfl, rfl, rfl⟩ (by decide) rfl rfl (Nat.le_of_ble_eq_true rfl) rfl (c_X11_missAt (c := c) (j := k) hc (by omega) h_pt h_p) ?_
      rintro r w' ⟨rfl, rfl⟩
      refine ab_aload_n dX11_aheadOf_38 rfl ?_
      refine ab_iload_n dX11_aheadOf_39 rfl ?_
      refine ab_iload_n dX11_aheadOf_40 rfl ?_
      refine ab_callV (As := [.int (nI i), .int a2]) (rest := [.int (Cv_sq q12 q13 (Tm q6 a2) (Tn q6 a2) k), .int s]) dX11_aheadOf_41 mv_X11_missAt ml_X11_474 ⟨by decide, by decide, rfl, rfl, rfl⟩ (by decide) rfl rfl (Nat.le_of_ble_eq_true rfl) rfl (c_X11_missAt (c := c) (j := i) hc (by omega) h_pt h_p) ?_
      rintro r w' ⟨rfl, rfl⟩
      refine ab_icmpne 57 dX11_aheadOf_44 (by decide) (fun h_3 => ?_) (fun h_3 => ?_)
      · refine ab_iconst (v := 0) dX11_aheadOf_57 (by decide) ?_
        refine ab_iadd dX11_aheadOf_58 ?_
        refine ab_istore_n (la' := [(3, .int (s + 0)), (4, .int (nI k)), (2, .int a2), (1, .int (nI i)), (0, .ref 1000)]) dX11_aheadOf_59 (by decide) rfl ?_
        refine ab_iinc (v := (nI (k + 1))) (la' := [(4, .int (nI (k + 1))), (3, .int (s + 0)), (2, .int a2), (1, .int (nI i)), (0, .ref 1000)]) dX11_aheadOf_60 rfl (nI_1 _) (by decide) rfl ?_
        refine ab_goto 5 dX11_aheadOf_63 (by decide) ?_
        refine ab_pick [0, 1, 2, 3, 4] rfl ?_
        rw [(itr_s (lp_mah_st q6 q12 q13 a2 i) n k s).trans (congrArg (itr (lp_mah_st q6 q12 q13 a2 i) n (k + 1)) (show lp_mah_st q6 q12 q13 a2 i k s = (s + 0) from by rw [lp_mah_st, if_neg (show ¬ (Cv_sq q12 q13 (Tm q6 a2) (Tn q6 a2) k) < (Cv_sq q12 q13 (Tm q6 a2) (Tn q6 a2) i) from h_2), if_neg (show ¬ (Cv_sq q12 q13 (Tm q6 a2) (Tn q6 a2) k) = (Cv_sq q12 q13 (Tm q6 a2) (Tn q6 a2) i) from h_3)]))] at hx
        exact ih (k + 1) (s + 0)  (by omega) hx
      · refine ab_iload dX11_aheadOf_47 rfl ?_
        refine ab_iload_n dX11_aheadOf_49 rfl ?_
        refine ab_icmpge 57 dX11_aheadOf_50 (by decide) (fun h_4 => ?_) (fun h_4 => ?_)
        · refine ab_iconst (v := 0) dX11_aheadOf_57 (by decide) ?_
          refine ab_iadd dX11_aheadOf_58 ?_
          refine ab_istore_n (la' := [(3, .int (s + 0)), (4, .int (nI k)), (2, .int a2), (1, .int (nI i)), (0, .ref 1000)]) dX11_aheadOf_59 (by decide) rfl ?_
          refine ab_iinc (v := (nI (k + 1))) (la' := [(4, .int (nI (k + 1))), (3, .int (s + 0)), (2, .int a2), (1, .int (nI i)), (0, .ref 1000)]) dX11_aheadOf_60 rfl (nI_1 _) (by decide) rfl ?_
          refine ab_goto 5 dX11_aheadOf_63 (by decide) ?_
          refine ab_pick [0, 1, 2, 3, 4] rfl ?_
          rw [(itr_s (lp_mah_st q6 q12 q13 a2 i) n k s).trans (congrArg (itr (lp_mah_st q6 q12 q13 a2 i) n (k + 1)) (show lp_mah_st q6 q12 q13 a2 i k s = (s + 0) from by rw [lp_mah_st, if_neg (show ¬ (Cv_sq q12 q13 (Tm q6 a2) (Tn q6 a2) k) < (Cv_sq q12 q13 (Tm q6 a2) (Tn q6 a2) i) from h_2), if_pos (show (Cv_sq q12 q13 (Tm q6 a2) (Tn q6 a2) k) = (Cv_sq q12 q13 (Tm q6 a2) (Tn q6 a2) i) from h_3), if_pos (show (nI i) ≤ (nI k) from h_4)]))] at hx
          exact ih (k + 1) (s + 0)  (by omega) hx
        · refine ab_iconst (v := 1) dX11_aheadOf_53 (by decide) ?_
          refine ab_goto 58 dX11_aheadOf_54 (by decide) ?_
          refine ab_iadd dX11_aheadOf_58 ?_
          refine ab_istore_n (la' := [(3, .int (s + 1)), (4, .int (nI k)), (2, .int a2), (1, .int (nI i)), (0, .ref 1000)]) dX11_aheadOf_59 (by decide) rfl ?_
          refine ab_iinc (v := (nI (k + 1))) (la' := [(4, .int (nI (k + 1))), (3, .int (s + 1)), (2, .int a2), (1, .int (nI i)), (0, .ref 1000)]) dX11_aheadOf_60 rfl (nI_1 _) (by decide) rfl ?_
          refine ab_goto 5 dX11_aheadOf_63 (by decide) ?_
          refine ab_pick [0, 1, 2, 3, 4] rfl ?_
          rw [(itr_s (lp_mah_st q6 q12 q13 a2 i) n k s).trans (congrArg (itr (lp_mah_st q6 q12 q13 a2 i) n (k + 1)) (show lp_mah_st q6 q12 q13 a2 i k s = (s + 1) from by rw [lp_mah_st, if_neg (show ¬ (Cv_sq q12 q13 (Tm q6 a2) (Tn q6 a2) k) < (Cv_sq q12 q13 (Tm q6 a2) (Tn q6 a2) i) from h_2), if_pos (show (Cv_sq q12 q13 (Tm q6 a2) (Tn q6 a2) k) = (Cv_sq q12 q13 (Tm q6 a2) (Tn q6 a2) i) from h_3), if_neg (show ¬ (nI i) ≤ (nI k) from h_4)]))] at hx
          exact ih (k + 1) (s + 1)  (by omega) hx
theorem c_X11_aheadOf {wc : List ax_E} {m_thrown m_trouble m_fault m_where m_taped m_linkMany m_tracerMany m_pointMany m_pairMany m_readLinks m_readTracers m_readPoints m_readPairs m_textLong m_at m_spot m_token m_whole m_readFault m_readPlace m_value m_cornerMany m_straightAt m_walkLink m_walkAngle m_walkBranch m_walkMany m_lined m_actMany a2 : Int32} {m_n m_c m_d m_s m_e m_k m_x m_y m_g m_a m_fitUp m_fitDown m_worstUp m_worstDown : Int64} {z1 z2 z3 z4 z5 z7 z8 z9 z10 z11 z14 z15 z16 z17 z18 z19 z20 : ax_E} {q6 q12 q13 : Nat → Int32} {c i : Nat} (hc : c ≤ 40) (hi : i < c) (h_pt : 0 ≤ a2 ∧ a2 < m_pointMany) (h_p : 0 ≤ m_pointMany ∧ m_pointMany ≤ nI 8) : Ct M_X11_aheadOf [.ref 1000, .int (nI i), .int a2] (wc, [ob 9 [.int m_thrown, .int m_trouble, .int m_fault, .int m_where, .ref 1001, .ref 1002, .int 40, .ref 1003, .int m_taped, .int m_linkMany, .int m_tracerMany, .int m_pointMany, .int m_pairMany, .ref 1004, .ref 1005, .ref 1006, .ref 1007, .int m_readLinks, .int m_readTracers, .int m_readPoints, .int m_readPairs, .ref 1008, .ref 1009, .ref 1010, .ref 1011, .int m_textLong, .int m_at, .int m_spot, .int m_token, .int m_whole, .int m_readFault, .int m_readPlace, .int m_value, .long m_n, .long m_c, .long m_d, .long m_s, .long m_e, .long m_k, .long m_x, .long m_y, .long m_g, .long m_a, .ref 1012, .ref 1013, .ref 1014, .int (nI c), .ref 1015, .int m_cornerMany, .int m_straightAt, .ref 1016, .long m_fitUp, .long m_fitDown, .long m_worstUp, .long m_worstDown, .ref 1017, .int m_walkLink, .int m_walkAngle, .int m_walkBranch, .int m_walkMany, .ref 1018, .ref 1019, .int m_lined, .ref 1020, .int m_actMany], z1, z2, z3, z4, z5, ia 16 q6, z7, z8, z9, z10, z11, ia 64 q12, ia 64 q13, z14, z15, z16, z17, z18, z19, z20]) (fun r w' => r = some (.int (itr (lp_mah_st q6 q12 q13 a2 i) c 0 0)) ∧ w' = (wc, [ob 9 [.int m_thrown, .int m_trouble, .int m_fault, .int m_where, .ref 1001, .ref 1002, .int 40, .ref 1003, .int m_taped, .int m_linkMany, .int m_tracerMany, .int m_pointMany, .int m_pairMany, .ref 1004, .ref 1005, .ref 1006, .ref 1007, .int m_readLinks, .int m_readTracers, .int m_readPoints, .int m_readPairs, .ref 1008, .ref 1009, .ref 1010, .ref 1011, .int m_textLong, .int m_at, .int m_spot, .int m_token, .int m_whole, .int m_readFault, .int m_readPlace, .int m_value, .long m_n, .long m_c, .long m_d, .long m_s, .long m_e, .long m_k, .long m_x, .long m_y, .long m_g, .long m_a, .ref 1012, .ref 1013, .ref 1014, .int (nI c), .ref 1015, .int m_cornerMany, .int m_straightAt, .ref 1016, .long m_fitUp, .long m_fitDown, .long m_worstUp, .long m_worstDown, .ref 1017, .int m_walkLink, .int m_walkAngle, .int m_walkBranch, .int m_walkMany, .ref 1018, .ref 1019, .int m_lined, .ref 1020, .int m_actMany], z1, z2, z3, z4, z5, ia 16 q6, z7, z8, z9, z10, z11, ia 64 q12, ia 64 q13, z14, z15, z16, z17, z18, z19, z20])) := by
  refine ct_of ⟨by decide, rfl⟩ (Nat.le_of_ble_eq_true rfl) ?_
  refine ab_iconst (v := 0) dX11_aheadOf_0 (by decide) ?_
  refine ab_istore_n (la' := [(3, .int 0), (0, .ref 1000), (1, .int (nI i)), (2, .int a2)]) dX11_aheadOf_1 (by decide) rfl ?_
  refine ab_iconst (v := 0) dX11_aheadOf_2 (by decide) ?_
  refine ab_istore (la' := [(4, .int 0), (3, .int 0), (0, .ref 1000), (1, .int (nI i)), (2, .int a2)]) dX11_aheadOf_3 (by decide) rfl ?_
  refine ab_pick [0, 1, 4, 3, 2] rfl ?_
  refine lp_mah hc hi h_pt h_p c 0 0 (by omega) ?_
  refine ab_iload_n dX11_aheadOf_66 rfl ?_
  exact ab_iret dX11_aheadOf_67 rfl (by decide) (⟨rfl, rfl⟩)
def lp_mlm_st (q6 : Nat → Int32) (q12 : Nat → Int32) (q13 : Nat → Int32) (a1 : Int32) (k : Nat) (s : Int32) : Int32 := (if s = (-1) then (Cv_sq q12 q13 (Tm q6 a1) (Tn q6 a1) k) else (if s ≤ (Cv_sq q12 q13 (Tm q6 a1) (Tn q6 a1) k) then s else (Cv_sq q12 q13 (Tm q6 a1) (Tn q6 a1) k)))
set_option maxHeartbeats 400000 in
theorem lp_mlm {wc : List ax_E} {m_thrown m_trouble m_fault m_where m_taped m_linkMany m_tracerMany m_pointMany m_pairMany m_readLinks m_readTracers m_readPoints m_readPairs m_textLong m_at m_spot m_token m_whole m_readFault m_readPlace m_value m_cornerMany m_straightAt m_walkLink m_walkAngle m_walkBranch m_walkMany m_lined m_actMany a1 : Int32} {m_n m_c m_d m_s m_e m_k m_x m_y m_g m_a m_fitUp m_fitDown m_worstUp m_worstDown : Int64} {z1 z2 z3 z4 z5 z7 z8 z9 z10 z11 z14 z15 z16 z17 z18 z19 z20 : ax_E} {q6 q12 q13 : Nat → Int32} {c : Nat} {Q : Option Value → ax_W → Prop} (hc : c ≤ 40) (h_pt : 0 ≤ a1 ∧ a1 < m_pointMany) (h_p : 0 ≤ m_pointMany ∧ m_pointMany ≤ nI 8) : ∀ (n k : Nat) (s : Int32) , k + n = c → Ab M_X11_leastMiss Q (0, 0) 44 [(3, .int (nI c)), (2, .int (itr (lp_mlm_st q6 q12 q13 a1) n k s)), (1, .int a1), (0, .ref 1000)] [] (wc, [ob 9 [.int m_thrown, .int m_trouble, .int m_fault, .int m_where, .ref 1001, .ref 1002, .int 40, .ref 1003, .int m_taped, .int m_linkMany, .int m_tracerMany, .int m_pointMany, .int m_pairMany, .ref 1004, .ref 1005, .ref 1006, .ref 1007, .int m_readLinks, .int m_readTracers, .int m_readPoints, .int m_readPairs, .ref 1008, .ref 1009, .ref 1010, .ref 1011, .int m_textLong, .int m_at, .int m_spot, .int m_token, .int m_whole, .int m_readFault, .int m_readPlace, .int m_value, .long m_n, .long m_c, .long m_d, .long m_s, .long m_e, .long m_k, .long m_x, .long m_y, .long m_g, .long m_a, .ref 1012, .ref 1013, .ref 1014, .int (nI c), .ref 1015, .int m_cornerMany, .int m_straightAt, .ref 1016, .long m_fitUp, .long m_fitDown, .long m_worstUp, .long m_worstDown, .ref 1017, .int m_walkLink, .int m_walkAngle, .int m_walkBranch, .int m_walkMany, .ref 1018, .ref 1019, .int m_lined, .ref 1020, .int m_actMany], z1, z2, z3, z4, z5, ia 16 q6, z7, z8, z9, z10, z11, ia 64 q12, ia 64 q13, z14, z15, z16, z17, z18, z19, z20]) → Ab M_X11_leastMiss Q (0, 0) 4 [(3, .int (nI k)), (2, .int s), (1, .int a1), (0, .ref 1000)] [] (wc, [ob 9 [.int m_thrown, .int m_trouble, .int m_fault, .int m_where, .ref 1001, .ref 1002, .int 40, .ref 1003, .int m_taped, .int m_linkMany, .int m_tracerMany, .int m_pointMany, .int m_pairMany, .ref 1004, .ref 1005, .ref 1006, .ref 1007, .int m_readLinks, .int m_readTracers, .int m_readPoints, .int m_readPairs, .ref 1008, .ref 1009, .ref 1010, .ref 1011, .int m_textLong, .int m_at, .int m_spot, .int m_token, .int m_whole, .int m_readFault, .int m_readPlace, .int m_value, .long m_n, .long m_c, .long m_d, .long m_s, .long m_e, .long m_k, .long m_x, .long m_y, .long m_g, .long m_a, .ref 1012, .ref 1013, .ref 1014, .int (nI c), .ref 1015, .int m_cornerMany, .int m_straightAt, .ref 1016, .long m_fitUp, .long m_fitDown, .long m_worstUp, .long m_worstDown, .ref 1017, .int m_walkLink, .int m_walkAngle, .int m_walkBranch, .int m_walkMany, .ref 1018, .ref 1019, .int m_lined, .ref 1020, .int m_actMany], z1, z2, z3, z4, z5, ia 16 q6, z7, z8, z9, z10, z11, ia 64 q12, ia 64 q13, z14, z15, z16, z17, z18, z19, z20]) := by
  intro n
  induction n with
  | zero =>
    intro k s  hk hx
    rw [itr_0] at hx
    rw [show k = c by omega]
    refine ab_iload_n dX11_leastMiss_4 rfl ?_
    refine ab_aload_n dX11_leastMiss_5 rfl ?_
    refine ab_getf dX11_leastMiss_6 fl_X11_424 rfl rfl ?_
    refine ab_icmpge 44 dX11_leastMiss_9 (by decide) (fun h_1 => ?_) (fun h_1 => absurd (nI_le (b := c) (Nat.le_refl _) (by omega)) h_1)
    refine ab_pick [0, 1, 2, 3] rfl ?_
    exact hx 
  | succ n ih =>
    intro k s  hk hx
    refine ab_iload_n dX11_leastMiss_4 rfl ?_
    refine ab_aload_n dX11_leastMiss_5 rfl ?_
    refine ab_getf dX11_leastMiss_6 fl_X11_424 rfl rfl ?_
    refine ab_icmpge 44 dX11_leastMiss_9 (by decide) (fun h_1 => absurd h_1 (nI_ge (a := k) (b := c) (by omega) (by omega))) (fun h_1 => ?_)
    refine ab_iload_n dX11_leastMiss_12 rfl ?_
    refine ab_iconst (v := -1) dX11_leastMiss_13 (by decide) ?_
    refine ab_icmpeq 27 dX11_leastMiss_14 (by decide) (fun h_2 => ?_) (fun h_2 => ?_)
    · refine ab_aload_n dX11_leastMiss_27 rfl ?_
      refine ab_iload_n dX11_leastMiss_28 rfl ?_
      refine ab_iload_n dX11_leastMiss_29 rfl ?_
      refine ab_callV (As := [.int (nI k), .int a1]) (rest := []) dX11_leastMiss_30 mv_X11_missAt ml_X11_474 ⟨by decide, by decide, rfl, rfl, rfl⟩ (by decide) rfl rfl (Nat.le_of_ble_eq_true rfl) rfl (c_X11_missAt (c := c) (j := k) hc (by omega) h_pt h_p) ?_
      rintro r w' ⟨rfl, rfl⟩
      refine ab_goto 37 dX11_leastMiss_33 (by decide) ?_
      refine ab_istore_n (la' := [(2, .int (Cv_sq q12 q13 (Tm q6 a1) (Tn q6 a1) k)), (3, .int (nI k)), (1, .int a1), (0, .ref 1000)]) dX11_leastMiss_37 (by decide) rfl ?_
      refine ab_iinc (v := (nI (k + 1))) (la' := [(3, .int (nI (k + 1))), (2, .int (Cv_sq q12 q13 (Tm q6 a1) (Tn q6 a1) k)), (1, .int a1), (0, .ref 1000)]) dX11_leastMiss_38 rfl (nI_1 _) (by decide) rfl ?_
      refine ab_goto 4 dX11_leastMiss_41 (by decide) ?_
      refine ab_pick [0, 1, 2, 3] rfl ?_
      rw [(itr_s (lp_mlm_st q6 q12 q13 a1) n k s).trans (congrArg (itr (lp_mlm_st q6 q12 q13 a1) n (k + 1)) (show lp_mlm_st q6 q12 q13 a1 k s = (Cv_sq q12 q13 (Tm q6 a1) (Tn q6 a1) k) from by rw [lp_mlm_st, if_pos (show s = (-1) from h_2)]))] at hx
      exact ih (k + 1) (Cv_sq q12 q13 (Tm q6 a1) (Tn q6 a1) k)  (by omega) hx
    · refine ab_aload_n dX11_leastMiss_17 rfl ?_
      refine ab_iload_n dX11_leastMiss_18 rfl ?_
      refine ab_iload_n dX11_leastMiss_19 rfl ?_
      refine ab_callV (As := [.int (nI k), .int a1]) (rest := []) dX11_leastMiss_20 mv_X11_missAt ml_X11_474 ⟨by decide, by decide, rfl, rfl, rfl⟩ (by decide) rfl rfl (Nat.le_of_ble_eq_true rfl) rfl (c_X11_missAt (c := c) (j := k) hc (by omega) h_pt h_p) ?_
      rintro r w' ⟨rfl, rfl⟩
      refine ab_iload_n dX11_leastMiss_23 rfl ?_
      refine ab_icmpge 36 dX11_leastMiss_24 (by decide) (fun h_3 => ?_) (fun h_3 => ?_)
      · refine ab_iload_n dX11_leastMiss_36 rfl ?_
        refine ab_istore_n (la' := [(2, .int s), (3, .int (nI k)), (1, .int a1), (0, .ref 1000)]) dX11_leastMiss_37 (by decide) rfl ?_
        refine ab_iinc (v := (nI (k + 1))) (la' := [(3, .int (nI (k + 1))), (2, .int s), (1, .int a1), (0, .ref 1000)]) dX11_leastMiss_38 rfl (nI_1 _) (by decide) rfl ?_
        refine ab_goto 4 dX11_leastMiss_41 (by decide) ?_
        refine ab_pick [0, 1, 2, 3] rfl ?_
        rw [(itr_s (lp_mlm_st q6 q12 q13 a1) n k s).trans (congrArg (itr (lp_mlm_st q6 q12 q13 a1) n (k + 1)) (show lp_mlm_st q6 q12 q13 a1 k s = s from by rw [lp_mlm_st, if_neg (show ¬ s = (-1) from h_2), if_pos (show s ≤ (Cv_sq q12 q13 (Tm q6 a1) (Tn q6 a1) k) from h_3)]))] at hx
        exact ih (k + 1) s  (by omega) hx
      · refine ab_aload_n dX11_leastMiss_27 rfl ?_
        refine ab_iload_n dX11_leastMiss_28 rfl ?_
        refine ab_iload_n dX11_leastMiss_29 rfl ?_
        refine ab_callV (As := [.int (nI k), .int a1]) (rest := []) dX11_leastMiss_30 mv_X11_missAt ml_X11_474 ⟨by decide, by decide, rfl, rfl, rfl⟩ (by decide) rfl rfl (Nat.le_of_ble_eq_true rfl) rfl (c_X11_missAt (c := c) (j := k) hc (by omega) h_pt h_p) ?_
        rintro r w' ⟨rfl, rfl⟩
        refine ab_goto 37 dX11_leastMiss_33 (by decide) ?_
        refine ab_istore_n (la' := [(2, .int (Cv_sq q12 q13 (Tm q6 a1) (Tn q6 a1) k)), (3, .int (nI k)), (1, .int a1), (0, .ref 1000)]) dX11_leastMiss_37 (by decide) rfl ?_
        refine ab_iinc (v := (nI (k + 1))) (la' := [(3, .int (nI (k + 1))), (2, .int (Cv_sq q12 q13 (Tm q6 a1) (Tn q6 a1) k)), (1, .int a1), (0, .ref 1000)]) dX11_leastMiss_38 rfl (nI_1 _) (by decide) rfl ?_
        refine ab_goto 4 dX11_leastMiss_41 (by decide) ?_
        refine ab_pick [0, 1, 2, 3] rfl ?_
        rw [(itr_s (lp_mlm_st q6 q12 q13 a1) n k s).trans (congrArg (itr (lp_mlm_st q6 q12 q13 a1) n (k + 1)) (show lp_mlm_st q6 q12 q13 a1 k s = (Cv_sq q12 q13 (Tm q6 a1) (Tn q6 a1) k) from by rw [lp_mlm_st, if_neg (show ¬ s = (-1) from h_2), if_neg (show ¬ s ≤ (Cv_sq q12 q13 (Tm q6 a1) (Tn q6 a1) k) from h_3)]))] at hx
        exact ih (k + 1) (Cv_sq q12 q13 (Tm q6 a1) (Tn q6 a1) k)  (by omega) hx
theorem c_X11_leastMiss {wc : List ax_E} {m_thrown m_trouble m_fault m_where m_taped m_linkMany m_tracerMany m_pointMany m_pairMany m_readLinks m_readTracers m_readPoints m_readPairs m_textLong m_at m_spot m_token m_whole m_readFault m_readPlace m_value m_cornerMany m_straightAt m_walkLink m_walkAngle m_walkBranch m_walkMany m_lined m_actMany a1 : Int32} {m_n m_c m_d m_s m_e m_k m_x m_y m_g m_a m_fitUp m_fitDown m_worstUp m_worstDown : Int64} {z1 z2 z3 z4 z5 z7 z8 z9 z10 z11 z14 z15 z16 z17 z18 z19 z20 : ax_E} {q6 q12 q13 : Nat → Int32} {c : Nat} (hc : c ≤ 40) (h_pt : 0 ≤ a1 ∧ a1 < m_pointMany) (h_p : 0 ≤ m_pointMany ∧ m_pointMany ≤ nI 8) : Ct M_X11_leastMiss [.ref 1000, .int a1] (wc, [ob 9 [.int m_thrown, .int m_trouble, .int m_fault, .int m_where, .ref 1001, .ref 1002, .int 40, .ref 1003, .int m_taped, .int m_linkMany, .int m_tracerMany, .int m_pointMany, .int m_pairMany, .ref 1004, .ref 1005, .ref 1006, .ref 1007, .int m_readLinks, .int m_readTracers, .int m_readPoints, .int m_readPairs, .ref 1008, .ref 1009, .ref 1010, .ref 1011, .int m_textLong, .int m_at, .int m_spot, .int m_token, .int m_whole, .int m_readFault, .int m_readPlace, .int m_value, .long m_n, .long m_c, .long m_d, .long m_s, .long m_e, .long m_k, .long m_x, .long m_y, .long m_g, .long m_a, .ref 1012, .ref 1013, .ref 1014, .int (nI c), .ref 1015, .int m_cornerMany, .int m_straightAt, .ref 1016, .long m_fitUp, .long m_fitDown, .long m_worstUp, .long m_worstDown, .ref 1017, .int m_walkLink, .int m_walkAngle, .int m_walkBranch, .int m_walkMany, .ref 1018, .ref 1019, .int m_lined, .ref 1020, .int m_actMany], z1, z2, z3, z4, z5, ia 16 q6, z7, z8, z9, z10, z11, ia 64 q12, ia 64 q13, z14, z15, z16, z17, z18, z19, z20]) (fun r w' => r = some (.int (itr (lp_mlm_st q6 q12 q13 a1) c 0 (-1))) ∧ w' = (wc, [ob 9 [.int m_thrown, .int m_trouble, .int m_fault, .int m_where, .ref 1001, .ref 1002, .int 40, .ref 1003, .int m_taped, .int m_linkMany, .int m_tracerMany, .int m_pointMany, .int m_pairMany, .ref 1004, .ref 1005, .ref 1006, .ref 1007, .int m_readLinks, .int m_readTracers, .int m_readPoints, .int m_readPairs, .ref 1008, .ref 1009, .ref 1010, .ref 1011, .int m_textLong, .int m_at, .int m_spot, .int m_token, .int m_whole, .int m_readFault, .int m_readPlace, .int m_value, .long m_n, .long m_c, .long m_d, .long m_s, .long m_e, .long m_k, .long m_x, .long m_y, .long m_g, .long m_a, .ref 1012, .ref 1013, .ref 1014, .int (nI c), .ref 1015, .int m_cornerMany, .int m_straightAt, .ref 1016, .long m_fitUp, .long m_fitDown, .long m_worstUp, .long m_worstDown, .ref 1017, .int m_walkLink, .int m_walkAngle, .int m_walkBranch, .int m_walkMany, .ref 1018, .ref 1019, .int m_lined, .ref 1020, .int m_actMany], z1, z2, z3, z4, z5, ia 16 q6, z7, z8, z9, z10, z11, ia 64 q12, ia 64 q13, z14, z15, z16, z17, z18, z19, z20])) := by
  refine ct_of ⟨by decide, rfl⟩ (Nat.le_of_ble_eq_true rfl) ?_
  refine ab_iconst (v := -1) dX11_leastMiss_0 (by decide) ?_
  refine ab_istore_n (la' := [(2, .int (-1)), (0, .ref 1000), (1, .int a1)]) dX11_leastMiss_1 (by decide) rfl ?_
  refine ab_iconst (v := 0) dX11_leastMiss_2 (by decide) ?_
  refine ab_istore_n (la' := [(3, .int 0), (2, .int (-1)), (0, .ref 1000), (1, .int a1)]) dX11_leastMiss_3 (by decide) rfl ?_
  refine ab_pick [0, 1, 3, 2] rfl ?_
  refine lp_mlm hc h_pt h_p c 0 (-1) (by omega) ?_
  refine ab_iload_n dX11_leastMiss_44 rfl ?_
  exact ab_iret dX11_leastMiss_45 rfl (by decide) (⟨rfl, rfl⟩)
