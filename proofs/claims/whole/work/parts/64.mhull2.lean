theorem in_m1 {a : Int32} {m : Nat} (h : 0 ≤ a ∧ a ≤ nI m - 1) (hm4 : m ≤ 40) : ax_ix a 64 (Int32.toNatClampNeg a) ∧ Int32.toNatClampNeg a < m := ix_k ⟨h.1, (le_pred (nI_pos' (by omega))).mp h.2⟩ (by omega) (by decide)
theorem c_X11_hull {wc : List ax_E} {m_thrown m_trouble m_fault m_where m_taped m_linkMany m_tracerMany m_pointMany m_pairMany m_readLinks m_readTracers m_readPoints m_readPairs m_textLong m_at m_spot m_token m_whole m_readFault m_readPlace m_value m_curveMany m_cornerMany m_straightAt m_walkLink m_walkAngle m_walkBranch m_walkMany m_lined m_actMany a1 a2 a3 : Int32} {m_n m_c m_d m_s m_e m_k m_x m_y m_g m_a m_fitUp m_fitDown m_worstUp m_worstDown : Int64} {z3 z6 z7 z8 z9 z10 z11 z16 z17 z18 z19 z20 : ax_E} {q4 q5 q12 q13 q14 q15 X Y : Nat → Int32} {p : Nat → Bool} {A : Nat → Nat} {m : Nat} (h_l : 0 ≤ m_linkMany ∧ m_linkMany ≤ nI 4) (h_t : 0 ≤ m_tracerMany ∧ m_tracerMany ≤ nI 4) (h_p : ∀ k, p k = true ↔ lawM q4 a1 k) (h_X : ∀ k, k < 40 → lawM q4 a1 k → X k = mX q4 q5 a1 a2 a3 k) (h_Y : ∀ k, k < 40 → lawM q4 a1 k → Y k = mY q4 q5 a1 a2 a3 k) (h_ok : ((0 ≤ a1 ∧ a1 < m_linkMany) ∧ (0 ≤ a2 ∧ a2 < m_tracerMany) ∧ (0 ≤ a3 ∧ a3 < 2)) → ∀ k, k < 40 → lawM q4 a1 k → okS (mV0 q4 q5 a1 a2 a3 k) (Ml_k q4 a1 (nI k)) ∧ okS (mV1 q4 q5 a1 a2 a3 k) (Ml_k q4 a1 (nI k)) ∧ 0 < mWd q4 a1 k) (h_A0 : 0 < Cn p 40 → A 0 = wfM p X Y) (h_As : ∀ i, A (i + 1) = cbM (crv p X z0 40) (crv p Y z0 40) (Cn p 40) (A i)) (h_m : 0 < Cn p 40 → 1 ≤ m ∧ m ≤ 40 ∧ (crv p X z0 40 (A m) = crv p X z0 40 (A 0) ∧ crv p Y z0 40 (A m) = crv p Y z0 40 (A 0)) ∧ ∀ i, 0 < i → i < m → ¬ (crv p X z0 40 (A i) = crv p X z0 40 (A 0) ∧ crv p Y z0 40 (A i) = crv p Y z0 40 (A 0))) : Ct M_X11_hull [.ref 1000, .int a1, .int a2, .int a3] (wc, [ob 9 [.int m_thrown, .int m_trouble, .int m_fault, .int m_where, .ref 1001, .ref 1002, .int 40, .ref 1003, .int m_taped, .int m_linkMany, .int m_tracerMany, .int m_pointMany, .int m_pairMany, .ref 1004, .ref 1005, .ref 1006, .ref 1007, .int m_readLinks, .int m_readTracers, .int m_readPoints, .int m_readPairs, .ref 1008, .ref 1009, .ref 1010, .ref 1011, .int m_textLong, .int m_at, .int m_spot, .int m_token, .int m_whole, .int m_readFault, .int m_readPlace, .int m_value, .long m_n, .long m_c, .long m_d, .long m_s, .long m_e, .long m_k, .long m_x, .long m_y, .long m_g, .long m_a, .ref 1012, .ref 1013, .ref 1014, .int m_curveMany, .ref 1015, .int m_cornerMany, .int m_straightAt, .ref 1016, .long m_fitUp, .long m_fitDown, .long m_worstUp, .long m_worstDown, .ref 1017, .int m_walkLink, .int m_walkAngle, .int m_walkBranch, .int m_walkMany, .ref 1018, .ref 1019, .int m_lined, .ref 1020, .int m_actMany], ia 64 (ax_tab 0), ia 64 (ax_tab 1), z3, ia 16 q4, ia 8 q5, z6, z7, z8, z9, z10, z11, ia 64 q12, ia 64 q13, ia 64 q14, ia 64 q15, z16, z17, z18, z19, z20]) (fun r w' => (∃ gm_1_4 : Nat → Int64, ∃ gm_3_5 : Nat → Int64, ((0 ≤ a1 ∧ a1 < m_linkMany) ∧ (0 ≤ a2 ∧ a2 < m_tracerMany) ∧ (0 ≤ a3 ∧ a3 < 2)) ∧ (¬ (nI (Cn p 40)) = 0) ∧ r = some (.int (nI m)) ∧ w' = (wc, [ob 9 [.int 0, .int 0, .int m_fault, .int (-1), .ref 1001, .ref 1002, .int 40, .ref 1003, .int m_taped, .int m_linkMany, .int m_tracerMany, .int m_pointMany, .int m_pairMany, .ref 1004, .ref 1005, .ref 1006, .ref 1007, .int m_readLinks, .int m_readTracers, .int m_readPoints, .int m_readPairs, .ref 1008, .ref 1009, .ref 1010, .ref 1011, .int m_textLong, .int m_at, .int m_spot, .int m_token, .int m_whole, .int m_readFault, .int m_readPlace, .int m_value, .long (gm_3_5 33), .long (gm_3_5 34), .long (gm_3_5 35), .long (gm_3_5 36), .long (gm_3_5 37), .long (gm_3_5 38), .long (gm_3_5 39), .long (gm_3_5 40), .long (gm_3_5 41), .long (gm_3_5 42), .ref 1012, .ref 1013, .ref 1014, .int (nI (Cn p 40)), .ref 1015, .int (nI m), .int m_straightAt, .ref 1016, .long m_fitUp, .long m_fitDown, .long m_worstUp, .long m_worstDown, .ref 1017, .int m_walkLink, .int m_walkAngle, .int m_walkBranch, .int m_walkMany, .ref 1018, .ref 1019, .int m_lined, .ref 1020, .int m_actMany], ia 64 (ax_tab 0), ia 64 (ax_tab 1), z3, ia 16 q4, ia 8 q5, z6, z7, z8, z9, z10, z11, ia 64 (crv p X q12 40), ia 64 (crv p Y q13 40), ia 64 (crv p nI q14 40), ia 64 (putA q15 A m), z16, z17, z18, z19, z20])) ∨ (∃ gm_1_7 : Nat → Int64, ((0 ≤ a1 ∧ a1 < m_linkMany) ∧ (0 ≤ a2 ∧ a2 < m_tracerMany) ∧ (0 ≤ a3 ∧ a3 < 2)) ∧ ((nI (Cn p 40)) = 0) ∧ r = some (.int 0) ∧ w' = (wc, [ob 9 [.int 0, .int 0, .int m_fault, .int (-1), .ref 1001, .ref 1002, .int 40, .ref 1003, .int m_taped, .int m_linkMany, .int m_tracerMany, .int m_pointMany, .int m_pairMany, .ref 1004, .ref 1005, .ref 1006, .ref 1007, .int m_readLinks, .int m_readTracers, .int m_readPoints, .int m_readPairs, .ref 1008, .ref 1009, .ref 1010, .ref 1011, .int m_textLong, .int m_at, .int m_spot, .int m_token, .int m_whole, .int m_readFault, .int m_readPlace, .int m_value, .long (gm_1_7 33), .long (gm_1_7 34), .long (gm_1_7 35), .long (gm_1_7 36), .long (gm_1_7 37), .long (gm_1_7 38), .long (gm_1_7 39), .long (gm_1_7 40), .long (gm_1_7 41), .long (gm_1_7 42), .ref 1012, .ref 1013, .ref 1014, .int (nI (Cn p 40)), .ref 1015, .int 0, .int m_straightAt, .ref 1016, .long m_fitUp, .long m_fitDown, .long m_worstUp, .long m_worstDown, .ref 1017, .int m_walkLink, .int m_walkAngle, .int m_walkBranch, .int m_walkMany, .ref 1018, .ref 1019, .int m_lined, .ref 1020, .int m_actMany], ia 64 (ax_tab 0), ia 64 (ax_tab 1), z3, ia 16 q4, ia 8 q5, z6, z7, z8, z9, z10, z11, ia 64 (crv p X q12 40), ia 64 (crv p Y q13 40), ia 64 (crv p nI q14 40), ia 64 q15, z16, z17, z18, z19, z20])) ∨ ((¬ ((0 ≤ a1 ∧ a1 < m_linkMany) ∧ (0 ≤ a2 ∧ a2 < m_tracerMany) ∧ (0 ≤ a3 ∧ a3 < 2))) ∧ r = some (.int (-1)) ∧ w' = (wc, [ob 9 [.int 0, .int 1, .int m_fault, .int (-1), .ref 1001, .ref 1002, .int 40, .ref 1003, .int m_taped, .int m_linkMany, .int m_tracerMany, .int m_pointMany, .int m_pairMany, .ref 1004, .ref 1005, .ref 1006, .ref 1007, .int m_readLinks, .int m_readTracers, .int m_readPoints, .int m_readPairs, .ref 1008, .ref 1009, .ref 1010, .ref 1011, .int m_textLong, .int m_at, .int m_spot, .int m_token, .int m_whole, .int m_readFault, .int m_readPlace, .int m_value, .long m_n, .long m_c, .long m_d, .long m_s, .long m_e, .long m_k, .long m_x, .long m_y, .long m_g, .long m_a, .ref 1012, .ref 1013, .ref 1014, .int m_curveMany, .ref 1015, .int m_cornerMany, .int m_straightAt, .ref 1016, .long m_fitUp, .long m_fitDown, .long m_worstUp, .long m_worstDown, .ref 1017, .int m_walkLink, .int m_walkAngle, .int m_walkBranch, .int m_walkMany, .ref 1018, .ref 1019, .int m_lined, .ref 1020, .int m_actMany], ia 64 (ax_tab 0), ia 64 (ax_tab 1), z3, ia 16 q4, ia 8 q5, z6, z7, z8, z9, z10, z11, ia 64 q12, ia 64 q13, ia 64 q14, ia 64 q15, z16, z17, z18, z19, z20]))) := by
  refine ct_of ⟨by decide, rfl⟩ (Nat.le_of_ble_eq_true rfl) ?_
  refine ab_aload_n dX11_hull_0 rfl ?_
  refine ab_callV (As := []) (rest := []) dX11_hull_1 mv_X11_anew ml_X11_104 ⟨by decide, by decide, rfl, rfl, rfl⟩ (by decide) rfl rfl (Nat.le_of_ble_eq_true rfl) rfl c_X11_anew ?_
  rintro r w' ⟨rfl, rfl⟩
  refine ab_aload_n dX11_hull_4 rfl ?_
  refine ab_iload_n dX11_hull_5 rfl ?_
  refine ab_iload_n dX11_hull_6 rfl ?_
  refine ab_iload_n dX11_hull_7 rfl ?_
  refine ab_callV (As := [.int a1, .int a2, .int a3]) (rest := []) dX11_hull_8 mv_X11_isCurve ml_X11_417 ⟨by decide, by decide, rfl, rfl, rfl⟩ (by decide) rfl rfl (Nat.le_of_ble_eq_true rfl) rfl (c_X11_isCurve h_l h_t) ?_
  rintro r w' (⟨c_1, rfl, rfl⟩ | ⟨c_2, rfl, rfl⟩)
  · refine ab_ifne 20 dX11_hull_11 (by decide) (fun h_3 => ?_) (fun h_3 => absurd h_3 (by decide))
    refine ab_aload_n dX11_hull_20 rfl ?_
    refine ab_iload_n dX11_hull_21 rfl ?_
    refine ab_iload_n dX11_hull_22 rfl ?_
    refine ab_iload_n dX11_hull_23 rfl ?_
    refine ab_callV (As := [.int a1, .int a2, .int a3]) (rest := []) dX11_hull_24 mv_X11_wraps ml_X11_461 ⟨by decide, by decide, rfl, rfl, rfl⟩ (by decide) rfl rfl (Nat.le_of_ble_eq_true rfl) rfl (c_X11_wraps (p := p) (X := X) (Y := Y) (A := A) (m := m) c_1.1 h_l c_1.2.1 h_t h_p h_X h_Y (h_ok c_1) h_A0 h_As h_m) ?_
    rintro r w' (⟨gm_1_4, gm_3_5, c_6, rfl, rfl⟩ | ⟨gm_1_7, c_8, rfl, rfl⟩)
    · refine ab_aload_n dX11_hull_27 rfl ?_
      refine ab_getf dX11_hull_28 fl_X11_455 rfl rfl ?_
      exact ab_iret dX11_hull_31 rfl (by decide) (Or.inl ⟨gm_1_4, gm_3_5, c_1, c_6, rfl, rfl⟩)
    · refine ab_aload_n dX11_hull_27 rfl ?_
      refine ab_getf dX11_hull_28 fl_X11_455 rfl rfl ?_
      exact ab_iret dX11_hull_31 rfl (by decide) (Or.inr (Or.inl ⟨gm_1_7, c_1, c_8, rfl, rfl⟩))
  · refine ab_ifne 20 dX11_hull_11 (by decide) (fun h_9 => absurd (by decide) h_9) (fun h_9 => ?_)
    refine ab_aload_n dX11_hull_14 rfl ?_
    refine ab_iconst (v := 1) dX11_hull_15 (by decide) ?_
    refine ab_callV (As := [.int 1]) (rest := []) dX11_hull_16 mv_X11_no ml_X11_115 ⟨by decide, by decide, rfl, rfl, rfl⟩ (by decide) rfl rfl (Nat.le_of_ble_eq_true rfl) rfl c_X11_no ?_
    rintro r w' ⟨rfl, rfl⟩
    exact ab_iret dX11_hull_19 rfl (by decide) (Or.inr (Or.inr (⟨c_2, rfl, rfl⟩)))
theorem c_X11_corner {wc : List ax_E} {m_thrown m_trouble m_fault m_where m_taped m_linkMany m_tracerMany m_pointMany m_pairMany m_readLinks m_readTracers m_readPoints m_readPairs m_textLong m_at m_spot m_token m_whole m_readFault m_readPlace m_value m_curveMany m_cornerMany m_straightAt m_walkLink m_walkAngle m_walkBranch m_walkMany m_lined m_actMany a1 a2 a3 a4 : Int32} {m_n m_c m_d m_s m_e m_k m_x m_y m_g m_a m_fitUp m_fitDown m_worstUp m_worstDown : Int64} {z3 z6 z7 z8 z9 z10 z11 z16 z17 z18 z19 z20 : ax_E} {q4 q5 q12 q13 q14 q15 X Y : Nat → Int32} {p : Nat → Bool} {A : Nat → Nat} {m : Nat} (h_l : 0 ≤ m_linkMany ∧ m_linkMany ≤ nI 4) (h_t : 0 ≤ m_tracerMany ∧ m_tracerMany ≤ nI 4) (h_p : ∀ k, p k = true ↔ lawM q4 a1 k) (h_X : ∀ k, k < 40 → lawM q4 a1 k → X k = mX q4 q5 a1 a2 a3 k) (h_Y : ∀ k, k < 40 → lawM q4 a1 k → Y k = mY q4 q5 a1 a2 a3 k) (h_ok : ((0 ≤ a1 ∧ a1 < m_linkMany) ∧ (0 ≤ a2 ∧ a2 < m_tracerMany) ∧ (0 ≤ a3 ∧ a3 < 2)) → ∀ k, k < 40 → lawM q4 a1 k → okS (mV0 q4 q5 a1 a2 a3 k) (Ml_k q4 a1 (nI k)) ∧ okS (mV1 q4 q5 a1 a2 a3 k) (Ml_k q4 a1 (nI k)) ∧ 0 < mWd q4 a1 k) (h_A0 : 0 < Cn p 40 → A 0 = wfM p X Y) (h_As : ∀ i, A (i + 1) = cbM (crv p X z0 40) (crv p Y z0 40) (Cn p 40) (A i)) (h_m : 0 < Cn p 40 → 1 ≤ m ∧ m ≤ 40 ∧ (crv p X z0 40 (A m) = crv p X z0 40 (A 0) ∧ crv p Y z0 40 (A m) = crv p Y z0 40 (A 0)) ∧ ∀ i, 0 < i → i < m → ¬ (crv p X z0 40 (A i) = crv p X z0 40 (A 0) ∧ crv p Y z0 40 (A i) = crv p Y z0 40 (A 0))) : Ct M_X11_corner [.ref 1000, .int a1, .int a2, .int a3, .int a4] (wc, [ob 9 [.int m_thrown, .int m_trouble, .int m_fault, .int m_where, .ref 1001, .ref 1002, .int 40, .ref 1003, .int m_taped, .int m_linkMany, .int m_tracerMany, .int m_pointMany, .int m_pairMany, .ref 1004, .ref 1005, .ref 1006, .ref 1007, .int m_readLinks, .int m_readTracers, .int m_readPoints, .int m_readPairs, .ref 1008, .ref 1009, .ref 1010, .ref 1011, .int m_textLong, .int m_at, .int m_spot, .int m_token, .int m_whole, .int m_readFault, .int m_readPlace, .int m_value, .long m_n, .long m_c, .long m_d, .long m_s, .long m_e, .long m_k, .long m_x, .long m_y, .long m_g, .long m_a, .ref 1012, .ref 1013, .ref 1014, .int m_curveMany, .ref 1015, .int m_cornerMany, .int m_straightAt, .ref 1016, .long m_fitUp, .long m_fitDown, .long m_worstUp, .long m_worstDown, .ref 1017, .int m_walkLink, .int m_walkAngle, .int m_walkBranch, .int m_walkMany, .ref 1018, .ref 1019, .int m_lined, .ref 1020, .int m_actMany], ia 64 (ax_tab 0), ia 64 (ax_tab 1), z3, ia 16 q4, ia 8 q5, z6, z7, z8, z9, z10, z11, ia 64 q12, ia 64 q13, ia 64 q14, ia 64 q15, z16, z17, z18, z19, z20]) (fun r w' => (∃ gm_1_4 : Nat → Int64, ∃ gm_3_5 : Nat → Int64, ((0 ≤ a1 ∧ a1 < m_linkMany) ∧ (0 ≤ a2 ∧ a2 < m_tracerMany) ∧ (0 ≤ a3 ∧ a3 < 2)) ∧ (¬ (nI (Cn p 40)) = 0) ∧ (0 ≤ a4 ∧ a4 ≤ ((nI m) - 1)) ∧ r = some (.int ((crv p nI q14 40) (A (Int32.toNatClampNeg a4)))) ∧ w' = (wc, [ob 9 [.int 0, .int 0, .int m_fault, .int (-1), .ref 1001, .ref 1002, .int 40, .ref 1003, .int m_taped, .int m_linkMany, .int m_tracerMany, .int m_pointMany, .int m_pairMany, .ref 1004, .ref 1005, .ref 1006, .ref 1007, .int m_readLinks, .int m_readTracers, .int m_readPoints, .int m_readPairs, .ref 1008, .ref 1009, .ref 1010, .ref 1011, .int m_textLong, .int m_at, .int m_spot, .int m_token, .int m_whole, .int m_readFault, .int m_readPlace, .int m_value, .long (gm_3_5 33), .long (gm_3_5 34), .long (gm_3_5 35), .long (gm_3_5 36), .long (gm_3_5 37), .long (gm_3_5 38), .long (gm_3_5 39), .long (gm_3_5 40), .long (gm_3_5 41), .long (gm_3_5 42), .ref 1012, .ref 1013, .ref 1014, .int (nI (Cn p 40)), .ref 1015, .int (nI m), .int m_straightAt, .ref 1016, .long m_fitUp, .long m_fitDown, .long m_worstUp, .long m_worstDown, .ref 1017, .int m_walkLink, .int m_walkAngle, .int m_walkBranch, .int m_walkMany, .ref 1018, .ref 1019, .int m_lined, .ref 1020, .int m_actMany], ia 64 (ax_tab 0), ia 64 (ax_tab 1), z3, ia 16 q4, ia 8 q5, z6, z7, z8, z9, z10, z11, ia 64 (crv p X q12 40), ia 64 (crv p Y q13 40), ia 64 (crv p nI q14 40), ia 64 (putA q15 A m), z16, z17, z18, z19, z20])) ∨ (∃ gm_1_4 : Nat → Int64, ∃ gm_3_5 : Nat → Int64, ((0 ≤ a1 ∧ a1 < m_linkMany) ∧ (0 ≤ a2 ∧ a2 < m_tracerMany) ∧ (0 ≤ a3 ∧ a3 < 2)) ∧ (¬ (nI (Cn p 40)) = 0) ∧ (¬ (0 ≤ a4 ∧ a4 ≤ ((nI m) - 1))) ∧ r = some (.int (-1)) ∧ w' = (wc, [ob 9 [.int 0, .int 1, .int m_fault, .int (-1), .ref 1001, .ref 1002, .int 40, .ref 1003, .int m_taped, .int m_linkMany, .int m_tracerMany, .int m_pointMany, .int m_pairMany, .ref 1004, .ref 1005, .ref 1006, .ref 1007, .int m_readLinks, .int m_readTracers, .int m_readPoints, .int m_readPairs, .ref 1008, .ref 1009, .ref 1010, .ref 1011, .int m_textLong, .int m_at, .int m_spot, .int m_token, .int m_whole, .int m_readFault, .int m_readPlace, .int m_value, .long (gm_3_5 33), .long (gm_3_5 34), .long (gm_3_5 35), .long (gm_3_5 36), .long (gm_3_5 37), .long (gm_3_5 38), .long (gm_3_5 39), .long (gm_3_5 40), .long (gm_3_5 41), .long (gm_3_5 42), .ref 1012, .ref 1013, .ref 1014, .int (nI (Cn p 40)), .ref 1015, .int (nI m), .int m_straightAt, .ref 1016, .long m_fitUp, .long m_fitDown, .long m_worstUp, .long m_worstDown, .ref 1017, .int m_walkLink, .int m_walkAngle, .int m_walkBranch, .int m_walkMany, .ref 1018, .ref 1019, .int m_lined, .ref 1020, .int m_actMany], ia 64 (ax_tab 0), ia 64 (ax_tab 1), z3, ia 16 q4, ia 8 q5, z6, z7, z8, z9, z10, z11, ia 64 (crv p X q12 40), ia 64 (crv p Y q13 40), ia 64 (crv p nI q14 40), ia 64 (putA q15 A m), z16, z17, z18, z19, z20])) ∨ (∃ gm_1_7 : Nat → Int64, ((0 ≤ a1 ∧ a1 < m_linkMany) ∧ (0 ≤ a2 ∧ a2 < m_tracerMany) ∧ (0 ≤ a3 ∧ a3 < 2)) ∧ ((nI (Cn p 40)) = 0) ∧ (¬ (0 ≤ a4 ∧ a4 ≤ (-1))) ∧ r = some (.int (-1)) ∧ w' = (wc, [ob 9 [.int 0, .int 1, .int m_fault, .int (-1), .ref 1001, .ref 1002, .int 40, .ref 1003, .int m_taped, .int m_linkMany, .int m_tracerMany, .int m_pointMany, .int m_pairMany, .ref 1004, .ref 1005, .ref 1006, .ref 1007, .int m_readLinks, .int m_readTracers, .int m_readPoints, .int m_readPairs, .ref 1008, .ref 1009, .ref 1010, .ref 1011, .int m_textLong, .int m_at, .int m_spot, .int m_token, .int m_whole, .int m_readFault, .int m_readPlace, .int m_value, .long (gm_1_7 33), .long (gm_1_7 34), .long (gm_1_7 35), .long (gm_1_7 36), .long (gm_1_7 37), .long (gm_1_7 38), .long (gm_1_7 39), .long (gm_1_7 40), .long (gm_1_7 41), .long (gm_1_7 42), .ref 1012, .ref 1013, .ref 1014, .int (nI (Cn p 40)), .ref 1015, .int 0, .int m_straightAt, .ref 1016, .long m_fitUp, .long m_fitDown, .long m_worstUp, .long m_worstDown, .ref 1017, .int m_walkLink, .int m_walkAngle, .int m_walkBranch, .int m_walkMany, .ref 1018, .ref 1019, .int m_lined, .ref 1020, .int m_actMany], ia 64 (ax_tab 0), ia 64 (ax_tab 1), z3, ia 16 q4, ia 8 q5, z6, z7, z8, z9, z10, z11, ia 64 (crv p X q12 40), ia 64 (crv p Y q13 40), ia 64 (crv p nI q14 40), ia 64 q15, z16, z17, z18, z19, z20])) ∨ ((¬ ((0 ≤ a1 ∧ a1 < m_linkMany) ∧ (0 ≤ a2 ∧ a2 < m_tracerMany) ∧ (0 ≤ a3 ∧ a3 < 2))) ∧ r = some (.int (-1)) ∧ w' = (wc, [ob 9 [.int 0, .int 1, .int m_fault, .int (-1), .ref 1001, .ref 1002, .int 40, .ref 1003, .int m_taped, .int m_linkMany, .int m_tracerMany, .int m_pointMany, .int m_pairMany, .ref 1004, .ref 1005, .ref 1006, .ref 1007, .int m_readLinks, .int m_readTracers, .int m_readPoints, .int m_readPairs, .ref 1008, .ref 1009, .ref 1010, .ref 1011, .int m_textLong, .int m_at, .int m_spot, .int m_token, .int m_whole, .int m_readFault, .int m_readPlace, .int m_value, .long m_n, .long m_c, .long m_d, .long m_s, .long m_e, .long m_k, .long m_x, .long m_y, .long m_g, .long m_a, .ref 1012, .ref 1013, .ref 1014, .int m_curveMany, .ref 1015, .int m_cornerMany, .int m_straightAt, .ref 1016, .long m_fitUp, .long m_fitDown, .long m_worstUp, .long m_worstDown, .ref 1017, .int m_walkLink, .int m_walkAngle, .int m_walkBranch, .int m_walkMany, .ref 1018, .ref 1019, .int m_lined, .ref 1020, .int m_actMany], ia 64 (ax_tab 0), ia 64 (ax_tab 1), z3, ia 16 q4, ia 8 q5, z6, z7, z8, z9, z10, z11, ia 64 q12, ia 64 q13, ia 64 q14, ia 64 q15, z16, z17, z18, z19, z20]))) := by
  refine ct_of ⟨by decide, rfl⟩ (Nat.le_of_ble_eq_true rfl) ?_
  refine ab_aload_n dX11_corner_0 rfl ?_
  refine ab_callV (As := []) (rest := []) dX11_corner_1 mv_X11_anew ml_X11_104 ⟨by decide, by decide, rfl, rfl, rfl⟩ (by decide) rfl rfl (Nat.le_of_ble_eq_true rfl) rfl c_X11_anew ?_
  rintro r w' ⟨rfl, rfl⟩
  refine ab_aload_n dX11_corner_4 rfl ?_
  refine ab_iload_n dX11_corner_5 rfl ?_
  refine ab_iload_n dX11_corner_6 rfl ?_
  refine ab_iload_n dX11_corner_7 rfl ?_
  refine ab_callV (As := [.int a1, .int a2, .int a3]) (rest := []) dX11_corner_8 mv_X11_isCurve ml_X11_417 ⟨by decide, by decide, rfl, rfl, rfl⟩ (by decide) rfl rfl (Nat.le_of_ble_eq_true rfl) rfl (c_X11_isCurve h_l h_t) ?_
  rintro r w' (⟨c_1, rfl, rfl⟩ | ⟨c_2, rfl, rfl⟩)
  · refine ab_ifne 20 dX11_corner_11 (by decide) (fun h_3 => ?_) (fun h_3 => absurd h_3 (by decide))
    refine ab_aload_n dX11_corner_20 rfl ?_
    refine ab_iload_n dX11_corner_21 rfl ?_
    refine ab_iload_n dX11_corner_22 rfl ?_
    refine ab_iload_n dX11_corner_23 rfl ?_
    refine ab_callV (As := [.int a1, .int a2, .int a3]) (rest := []) dX11_corner_24 mv_X11_wraps ml_X11_461 ⟨by decide, by decide, rfl, rfl, rfl⟩ (by decide) rfl rfl (Nat.le_of_ble_eq_true rfl) rfl (c_X11_wraps (p := p) (X := X) (Y := Y) (A := A) (m := m) c_1.1 h_l c_1.2.1 h_t h_p h_X h_Y (h_ok c_1) h_A0 h_As h_m) ?_
    rintro r w' (⟨gm_1_4, gm_3_5, c_6, rfl, rfl⟩ | ⟨gm_1_7, c_8, rfl, rfl⟩)
    · refine ab_iload dX11_corner_27 rfl ?_
      refine ab_iconst (v := 0) dX11_corner_29 (by decide) ?_
      refine ab_aload_n dX11_corner_30 rfl ?_
      refine ab_getf dX11_corner_31 fl_X11_455 rfl rfl ?_
      refine ab_iconst (v := 1) dX11_corner_34 (by decide) ?_
      refine ab_isub dX11_corner_35 ?_
      refine ab_callS (As := [.int a4, .int 0, .int ((nI m) - 1)]) (rest := []) dX11_corner_36 ms_X11_in ml_X11_107 ⟨by decide, by decide, rfl, rfl, rfl⟩ (by decide) rfl rfl (Nat.le_of_ble_eq_true rfl) c_X11_in ?_
      rintro r w' (⟨c_9, rfl, rfl⟩ | ⟨c_10, rfl, rfl⟩)
      · refine ab_ifeq 57 dX11_corner_39 (by decide) (fun h_11 => absurd h_11 (by decide)) (fun h_11 => ?_)
        refine ab_aload_n dX11_corner_42 rfl ?_
        refine ab_getf dX11_corner_43 fl_X11_72 rfl rfl ?_
        refine ab_aload_n dX11_corner_46 rfl ?_
        refine ab_getf dX11_corner_47 fl_X11_75 rfl rfl ?_
        refine ab_iload dX11_corner_50 rfl ?_
        refine ab_iald (j := (Int32.toNatClampNeg a4)) dX11_corner_52 rfl (in_m1 c_9 (h_m (cn_pos p c_6)).2.1).1 ?_
        refine ab_topi (v := (nI (A (Int32.toNatClampNeg a4)))) (putA_lt (in_m1 c_9 (h_m (cn_pos p c_6)).2.1).2) ?_
        refine ab_iald (j := (A (Int32.toNatClampNeg a4))) dX11_corner_53 rfl (ix_nI (by have := mar_lt (cn_pos p c_6) h_A0 h_As (Int32.toNatClampNeg a4); have := cn_le p 40; omega) (by decide)) ?_
        refine ab_goto 62 dX11_corner_54 (by decide) ?_
        exact ab_iret dX11_corner_62 rfl (by decide) (Or.inl ⟨gm_1_4, gm_3_5, c_1, c_6, c_9, rfl, rfl⟩)
      · refine ab_ifeq 57 dX11_corner_39 (by decide) (fun h_12 => ?_) (fun h_12 => absurd (by decide) h_12)
        refine ab_aload_n dX11_corner_57 rfl ?_
        refine ab_iconst (v := 1) dX11_corner_58 (by decide) ?_
        refine ab_callV (As := [.int 1]) (rest := []) dX11_corner_59 mv_X11_no ml_X11_115 ⟨by decide, by decide, rfl, rfl, rfl⟩ (by decide) rfl rfl (Nat.le_of_ble_eq_true rfl) rfl c_X11_no ?_
        rintro r w' ⟨rfl, rfl⟩
        exact ab_iret dX11_corner_62 rfl (by decide) (Or.inr (Or.inl ⟨gm_1_4, gm_3_5, c_1, c_6, c_10, rfl, rfl⟩))
    · refine ab_iload dX11_corner_27 rfl ?_
      refine ab_iconst (v := 0) dX11_corner_29 (by decide) ?_
      refine ab_aload_n dX11_corner_30 rfl ?_
      refine ab_getf dX11_corner_31 fl_X11_455 rfl rfl ?_
      refine ab_iconst (v := 1) dX11_corner_34 (by decide) ?_
      refine ab_isub dX11_corner_35 ?_
      refine ab_topi (v := -1) (by decide) ?_
      refine ab_callS (As := [.int a4, .int 0, .int (-1)]) (rest := []) dX11_corner_36 ms_X11_in ml_X11_107 ⟨by decide, by decide, rfl, rfl, rfl⟩ (by decide) rfl rfl (Nat.le_of_ble_eq_true rfl) c_X11_in ?_
      rintro r w' (⟨c_13, rfl, rfl⟩ | ⟨c_14, rfl, rfl⟩)
      · exact absurd (Int32.le_trans c_13.1 c_13.2) (by decide)
      · refine ab_ifeq 57 dX11_corner_39 (by decide) (fun h_15 => ?_) (fun h_15 => absurd (by decide) h_15)
        refine ab_aload_n dX11_corner_57 rfl ?_
        refine ab_iconst (v := 1) dX11_corner_58 (by decide) ?_
        refine ab_callV (As := [.int 1]) (rest := []) dX11_corner_59 mv_X11_no ml_X11_115 ⟨by decide, by decide, rfl, rfl, rfl⟩ (by decide) rfl rfl (Nat.le_of_ble_eq_true rfl) rfl c_X11_no ?_
        rintro r w' ⟨rfl, rfl⟩
        exact ab_iret dX11_corner_62 rfl (by decide) (Or.inr (Or.inr (Or.inl ⟨gm_1_7, c_1, c_8, c_14, rfl, rfl⟩)))
  · refine ab_ifne 20 dX11_corner_11 (by decide) (fun h_16 => absurd (by decide) h_16) (fun h_16 => ?_)
    refine ab_aload_n dX11_corner_14 rfl ?_
    refine ab_iconst (v := 1) dX11_corner_15 (by decide) ?_
    refine ab_callV (As := [.int 1]) (rest := []) dX11_corner_16 mv_X11_no ml_X11_115 ⟨by decide, by decide, rfl, rfl, rfl⟩ (by decide) rfl rfl (Nat.le_of_ble_eq_true rfl) rfl c_X11_no ?_
    rintro r w' ⟨rfl, rfl⟩
    exact ab_iret dX11_corner_19 rfl (by decide) (Or.inr (Or.inr (Or.inr (⟨c_2, rfl, rfl⟩))))
def lp_mha_st (q12 : Nat → Int32) (q13 : Nat → Int32) (m : Nat) (A : Nat → Nat) (k : Nat) (s : Int64) : Int64 := (s + (((Int32.toInt64 (q12 (A k))) * (Int32.toInt64 (q13 (A (nxc m k))))) - ((Int32.toInt64 (q13 (A k))) * (Int32.toInt64 (q12 (A (nxc m k)))))))
set_option maxHeartbeats 400000 in
theorem lp_mha {wc : List ax_E} {m_thrown m_trouble m_fault m_where m_taped m_linkMany m_tracerMany m_pointMany m_pairMany m_readLinks m_readTracers m_readPoints m_readPairs m_textLong m_at m_spot m_token m_whole m_readFault m_readPlace m_value m_straightAt m_walkLink m_walkAngle m_walkBranch m_walkMany m_lined m_actMany a3 a2 a1 : Int32} {m_fitUp m_fitDown m_worstUp m_worstDown : Int64} {z3 z6 z7 z8 z9 z10 z11 z16 z17 z18 z19 z20 : ax_E} {q4 q5 q12 q13 q14 q15 : Nat → Int32} {c m : Nat} {A : Nat → Nat} {Q : Option Value → ax_W → Prop} (hc : c ≤ 40) (hm : m ≤ 40) (hA : ∀ i, A i < c) : ∀ (n k : Nat) (s : Int64) (gm : Nat → Int64), k + n = m → (∀ (gm : Nat → Int64), Ab M_X11_hullArea Q (0, 0) 114 [(6, .int (nI m)), (4, .long (itr (lp_mha_st q12 q13 m A) n k s)), (3, .int a3), (2, .int a2), (1, .int a1), (0, .ref 1000)] [] (wc, [ob 9 [.int m_thrown, .int m_trouble, .int m_fault, .int m_where, .ref 1001, .ref 1002, .int 40, .ref 1003, .int m_taped, .int m_linkMany, .int m_tracerMany, .int m_pointMany, .int m_pairMany, .ref 1004, .ref 1005, .ref 1006, .ref 1007, .int m_readLinks, .int m_readTracers, .int m_readPoints, .int m_readPairs, .ref 1008, .ref 1009, .ref 1010, .ref 1011, .int m_textLong, .int m_at, .int m_spot, .int m_token, .int m_whole, .int m_readFault, .int m_readPlace, .int m_value, .long (gm 33), .long (gm 34), .long (gm 35), .long (gm 36), .long (gm 37), .long (gm 38), .long (gm 39), .long (gm 40), .long (gm 41), .long (gm 42), .ref 1012, .ref 1013, .ref 1014, .int (nI c), .ref 1015, .int (nI m), .int m_straightAt, .ref 1016, .long m_fitUp, .long m_fitDown, .long m_worstUp, .long m_worstDown, .ref 1017, .int m_walkLink, .int m_walkAngle, .int m_walkBranch, .int m_walkMany, .ref 1018, .ref 1019, .int m_lined, .ref 1020, .int m_actMany], ia 64 (ax_tab 0), ia 64 (ax_tab 1), z3, ia 16 q4, ia 8 q5, z6, z7, z8, z9, z10, z11, ia 64 q12, ia 64 q13, ia 64 q14, ia 64 (putA q15 A m), z16, z17, z18, z19, z20])) → Ab M_X11_hullArea Q (0, 0) 34 [(6, .int (nI k)), (4, .long s), (3, .int a3), (2, .int a2), (1, .int a1), (0, .ref 1000)] [] (wc, [ob 9 [.int m_thrown, .int m_trouble, .int m_fault, .int m_where, .ref 1001, .ref 1002, .int 40, .ref 1003, .int m_taped, .int m_linkMany, .int m_tracerMany, .int m_pointMany, .int m_pairMany, .ref 1004, .ref 1005, .ref 1006, .ref 1007, .int m_readLinks, .int m_readTracers, .int m_readPoints, .int m_readPairs, .ref 1008, .ref 1009, .ref 1010, .ref 1011, .int m_textLong, .int m_at, .int m_spot, .int m_token, .int m_whole, .int m_readFault, .int m_readPlace, .int m_value, .long (gm 33), .long (gm 34), .long (gm 35), .long (gm 36), .long (gm 37), .long (gm 38), .long (gm 39), .long (gm 40), .long (gm 41), .long (gm 42), .ref 1012, .ref 1013, .ref 1014, .int (nI c), .ref 1015, .int (nI m), .int m_straightAt, .ref 1016, .long m_fitUp, .long m_fitDown, .long m_worstUp, .long m_worstDown, .ref 1017, .int m_walkLink, .int m_walkAngle, .int m_walkBranch, .int m_walkMany, .ref 1018, .ref 1019, .int m_lined, .ref 1020, .int m_actMany], ia 64 (ax_tab 0), ia 64 (ax_tab 1), z3, ia 16 q4, ia 8 q5, z6, z7, z8, z9, z10, z11, ia 64 q12, ia 64 q13, ia 64 q14, ia 64 (putA q15 A m), z16, z17, z18, z19, z20]) := by
  intro n
  induction n with
  | zero =>
    intro k s gm hk hx
    rw [itr_0] at hx
    rw [show k = m by omega]
    refine ab_iload dX11_hullArea_34 rfl ?_
    refine ab_aload_n dX11_hullArea_36 rfl ?_
    refine ab_getf dX11_hullArea_37 fl_X11_455 rfl rfl ?_
    refine ab_icmpge 114 dX11_hullArea_40 (by decide) (fun h_1 => ?_) (fun h_1 => absurd (nI_le (b := m) (Nat.le_refl _) (by omega)) h_1)
    refine ab_pick [0, 1, 2, 3, 4, 5] rfl ?_
    exact hx gm
  | succ n ih =>
    intro k s gm hk hx
    refine ab_iload dX11_hullArea_34 rfl ?_
    refine ab_aload_n dX11_hullArea_36 rfl ?_
    refine ab_getf dX11_hullArea_37 fl_X11_455 rfl rfl ?_
    refine ab_icmpge 114 dX11_hullArea_40 (by decide) (fun h_1 => absurd h_1 (nI_ge (a := k) (b := m) (by omega) (by omega))) (fun h_1 => ?_)
    refine ab_aload_n dX11_hullArea_43 rfl ?_
    refine ab_getf dX11_hullArea_44 fl_X11_75 rfl rfl ?_
    refine ab_iload dX11_hullArea_47 rfl ?_
    refine ab_iald (j := k) dX11_hullArea_49 rfl (ix_nI (by omega) (by decide)) ?_
    refine ab_topi (v := (nI (A k))) (putA_lt (by omega)) ?_
    refine ab_istore (la' := [(7, .int (nI (A k))), (6, .int (nI k)), (4, .long s), (3, .int a3), (2, .int a2), (1, .int a1), (0, .ref 1000)]) dX11_hullArea_50 (by decide) rfl ?_
    refine ab_aload_n dX11_hullArea_52 rfl ?_
    refine ab_getf dX11_hullArea_53 fl_X11_75 rfl rfl ?_
    refine ab_iload dX11_hullArea_56 rfl ?_
    refine ab_iconst (v := 1) dX11_hullArea_58 (by decide) ?_
    refine ab_iadd dX11_hullArea_59 ?_
    refine ab_topi (v := (nI (k + 1))) (nI_1 _) ?_
    refine ab_aload_n dX11_hullArea_60 rfl ?_
    refine ab_getf dX11_hullArea_61 fl_X11_455 rfl rfl ?_
    refine ab_irem dX11_hullArea_64 (nI_nz (by omega) hm) ?_
    refine ab_topi (v := (nI (nxc m k))) (aft_nI (by omega) hm) ?_
    refine ab_iald (j := (nxc m k)) dX11_hullArea_65 rfl (ix_nI (by have := nxc_lt (c := m) (i := k) (by omega); omega) (by decide)) ?_
    refine ab_topi (v := (nI (A (nxc m k)))) (putA_lt (nxc_lt (by omega))) ?_
    refine ab_istore (la' := [(8, .int (nI (A (nxc m k)))), (7, .int (nI (A k))), (6, .int (nI k)), (4, .long s), (3, .int a3), (2, .int a2), (1, .int a1), (0, .ref 1000)]) dX11_hullArea_66 (by decide) rfl ?_
    refine ab_lload dX11_hullArea_68 rfl ?_
    refine ab_aload_n dX11_hullArea_70 rfl ?_
    refine ab_getf dX11_hullArea_71 fl_X11_66 rfl rfl ?_
    refine ab_iload dX11_hullArea_74 rfl ?_
    refine ab_iald (j := (A k)) dX11_hullArea_76 rfl (ix_nI (by have := hA k; omega) (by decide)) ?_
    refine ab_i2l dX11_hullArea_77 ?_
    refine ab_aload_n dX11_hullArea_78 rfl ?_
    refine ab_getf dX11_hullArea_79 fl_X11_69 rfl rfl ?_
    refine ab_iload dX11_hullArea_82 rfl ?_
    refine ab_iald (j := (A k)) dX11_hullArea_84 rfl (ix_nI (by have := hA k; omega) (by decide)) ?_
    refine ab_i2l dX11_hullArea_85 ?_
    refine ab_aload_n dX11_hullArea_86 rfl ?_
    refine ab_getf dX11_hullArea_87 fl_X11_66 rfl rfl ?_
    refine ab_iload dX11_hullArea_90 rfl ?_
    refine ab_iald (j := (A (nxc m k))) dX11_hullArea_92 rfl (ix_nI (by have := hA (nxc m k); omega) (by decide)) ?_
    refine ab_i2l dX11_hullArea_93 ?_
    refine ab_aload_n dX11_hullArea_94 rfl ?_
    refine ab_getf dX11_hullArea_95 fl_X11_69 rfl rfl ?_
    refine ab_iload dX11_hullArea_98 rfl ?_
    refine ab_iald (j := (A (nxc m k))) dX11_hullArea_100 rfl (ix_nI (by have := hA (nxc m k); omega) (by decide)) ?_
    refine ab_i2l dX11_hullArea_101 ?_
    refine ab_callS (As := [.long (Int32.toInt64 (q12 (A k))), .long (Int32.toInt64 (q13 (A k))), .long (Int32.toInt64 (q12 (A (nxc m k)))), .long (Int32.toInt64 (q13 (A (nxc m k))))]) (rest := [.long s]) dX11_hullArea_102 ms_X11_crossOf ml_X11_440 ⟨by decide, by decide, rfl, rfl, rfl⟩ (by decide) rfl rfl (Nat.le_of_ble_eq_true rfl) c_X11_crossOf ?_
    rintro r w' ⟨rfl, rfl⟩
    refine ab_ladd dX11_hullArea_105 ?_
    refine ab_lstore (la' := [(4, .long (s + (((Int32.toInt64 (q12 (A k))) * (Int32.toInt64 (q13 (A (nxc m k))))) - ((Int32.toInt64 (q13 (A k))) * (Int32.toInt64 (q12 (A (nxc m k)))))))), (8, .int (nI (A (nxc m k)))), (7, .int (nI (A k))), (6, .int (nI k)), (3, .int a3), (2, .int a2), (1, .int a1), (0, .ref 1000)]) dX11_hullArea_106 (by decide) rfl ?_
    refine ab_iinc (v := (nI (k + 1))) (la' := [(6, .int (nI (k + 1))), (4, .long (s + (((Int32.toInt64 (q12 (A k))) * (Int32.toInt64 (q13 (A (nxc m k))))) - ((Int32.toInt64 (q13 (A k))) * (Int32.toInt64 (q12 (A (nxc m k)))))))), (8, .int (nI (A (nxc m k)))), (7, .int (nI (A k))), (3, .int a3), (2, .int a2), (1, .int a1), (0, .ref 1000)]) dX11_hullArea_108 rfl (nI_1 _) (by decide) rfl ?_
    refine ab_goto 34 dX11_hullArea_111 (by decide) ?_
    refine ab_pick [0, 1, 4, 5, 6, 7] rfl ?_
    rw [(itr_s (lp_mha_st q12 q13 m A) n k s).trans (congrArg (itr (lp_mha_st q12 q13 m A) n (k + 1)) (show lp_mha_st q12 q13 m A k s = (s + (((Int32.toInt64 (q12 (A k))) * (Int32.toInt64 (q13 (A (nxc m k))))) - ((Int32.toInt64 (q13 (A k))) * (Int32.toInt64 (q12 (A (nxc m k))))))) from rfl))] at hx
    exact ih (k + 1) (s + (((Int32.toInt64 (q12 (A k))) * (Int32.toInt64 (q13 (A (nxc m k))))) - ((Int32.toInt64 (q13 (A k))) * (Int32.toInt64 (q12 (A (nxc m k))))))) (fun i => [(gm 33), (gm 34), (gm 35), (gm 36), (gm 37), (gm 38), (gm 39), (gm 40), (gm 41), (gm 42)].getD (i - 33) 0) (by omega) hx
theorem c_X11_hullArea {wc : List ax_E} {m_thrown m_trouble m_fault m_where m_taped m_linkMany m_tracerMany m_pointMany m_pairMany m_readLinks m_readTracers m_readPoints m_readPairs m_textLong m_at m_spot m_token m_whole m_readFault m_readPlace m_value m_curveMany m_cornerMany m_straightAt m_walkLink m_walkAngle m_walkBranch m_walkMany m_lined m_actMany a1 a2 a3 : Int32} {m_n m_c m_d m_s m_e m_k m_x m_y m_g m_a m_fitUp m_fitDown m_worstUp m_worstDown : Int64} {z3 z6 z7 z8 z9 z10 z11 z16 z17 z18 z19 z20 : ax_E} {q4 q5 q12 q13 q14 q15 X Y : Nat → Int32} {p : Nat → Bool} {A : Nat → Nat} {m : Nat} (h_l : 0 ≤ m_linkMany ∧ m_linkMany ≤ nI 4) (h_t : 0 ≤ m_tracerMany ∧ m_tracerMany ≤ nI 4) (h_p : ∀ k, p k = true ↔ lawM q4 a1 k) (h_X : ∀ k, k < 40 → lawM q4 a1 k → X k = mX q4 q5 a1 a2 a3 k) (h_Y : ∀ k, k < 40 → lawM q4 a1 k → Y k = mY q4 q5 a1 a2 a3 k) (h_ok : ((0 ≤ a1 ∧ a1 < m_linkMany) ∧ (0 ≤ a2 ∧ a2 < m_tracerMany) ∧ (0 ≤ a3 ∧ a3 < 2)) → ∀ k, k < 40 → lawM q4 a1 k → okS (mV0 q4 q5 a1 a2 a3 k) (Ml_k q4 a1 (nI k)) ∧ okS (mV1 q4 q5 a1 a2 a3 k) (Ml_k q4 a1 (nI k)) ∧ 0 < mWd q4 a1 k) (h_A0 : 0 < Cn p 40 → A 0 = wfM p X Y) (h_As : ∀ i, A (i + 1) = cbM (crv p X z0 40) (crv p Y z0 40) (Cn p 40) (A i)) (h_m : 0 < Cn p 40 → 1 ≤ m ∧ m ≤ 40 ∧ (crv p X z0 40 (A m) = crv p X z0 40 (A 0) ∧ crv p Y z0 40 (A m) = crv p Y z0 40 (A 0)) ∧ ∀ i, 0 < i → i < m → ¬ (crv p X z0 40 (A i) = crv p X z0 40 (A 0) ∧ crv p Y z0 40 (A i) = crv p Y z0 40 (A 0))) : Ct M_X11_hullArea [.ref 1000, .int a1, .int a2, .int a3] (wc, [ob 9 [.int m_thrown, .int m_trouble, .int m_fault, .int m_where, .ref 1001, .ref 1002, .int 40, .ref 1003, .int m_taped, .int m_linkMany, .int m_tracerMany, .int m_pointMany, .int m_pairMany, .ref 1004, .ref 1005, .ref 1006, .ref 1007, .int m_readLinks, .int m_readTracers, .int m_readPoints, .int m_readPairs, .ref 1008, .ref 1009, .ref 1010, .ref 1011, .int m_textLong, .int m_at, .int m_spot, .int m_token, .int m_whole, .int m_readFault, .int m_readPlace, .int m_value, .long m_n, .long m_c, .long m_d, .long m_s, .long m_e, .long m_k, .long m_x, .long m_y, .long m_g, .long m_a, .ref 1012, .ref 1013, .ref 1014, .int m_curveMany, .ref 1015, .int m_cornerMany, .int m_straightAt, .ref 1016, .long m_fitUp, .long m_fitDown, .long m_worstUp, .long m_worstDown, .ref 1017, .int m_walkLink, .int m_walkAngle, .int m_walkBranch, .int m_walkMany, .ref 1018, .ref 1019, .int m_lined, .ref 1020, .int m_actMany], ia 64 (ax_tab 0), ia 64 (ax_tab 1), z3, ia 16 q4, ia 8 q5, z6, z7, z8, z9, z10, z11, ia 64 q12, ia 64 q13, ia 64 q14, ia 64 q15, z16, z17, z18, z19, z20]) (fun r w' => (∃ gm_1_4 : Nat → Int64, ∃ gm_3_5 : Nat → Int64, ∃ gm_9 : Nat → Int64, ((0 ≤ a1 ∧ a1 < m_linkMany) ∧ (0 ≤ a2 ∧ a2 < m_tracerMany) ∧ (0 ≤ a3 ∧ a3 < 2)) ∧ (¬ (nI (Cn p 40)) = 0) ∧ r = some (.long (itr (lp_mha_st (crv p X q12 40) (crv p Y q13 40) m A) m 0 0)) ∧ w' = (wc, [ob 9 [.int 0, .int 0, .int m_fault, .int (-1), .ref 1001, .ref 1002, .int 40, .ref 1003, .int m_taped, .int m_linkMany, .int m_tracerMany, .int m_pointMany, .int m_pairMany, .ref 1004, .ref 1005, .ref 1006, .ref 1007, .int m_readLinks, .int m_readTracers, .int m_readPoints, .int m_readPairs, .ref 1008, .ref 1009, .ref 1010, .ref 1011, .int m_textLong, .int m_at, .int m_spot, .int m_token, .int m_whole, .int m_readFault, .int m_readPlace, .int m_value, .long (gm_9 33), .long (gm_9 34), .long (gm_9 35), .long (gm_9 36), .long (gm_9 37), .long (gm_9 38), .long (gm_9 39), .long (gm_9 40), .long (gm_9 41), .long (gm_9 42), .ref 1012, .ref 1013, .ref 1014, .int (nI (Cn p 40)), .ref 1015, .int (nI m), .int m_straightAt, .ref 1016, .long m_fitUp, .long m_fitDown, .long m_worstUp, .long m_worstDown, .ref 1017, .int m_walkLink, .int m_walkAngle, .int m_walkBranch, .int m_walkMany, .ref 1018, .ref 1019, .int m_lined, .ref 1020, .int m_actMany], ia 64 (ax_tab 0), ia 64 (ax_tab 1), z3, ia 16 q4, ia 8 q5, z6, z7, z8, z9, z10, z11, ia 64 (crv p X q12 40), ia 64 (crv p Y q13 40), ia 64 (crv p nI q14 40), ia 64 (putA q15 A m), z16, z17, z18, z19, z20])) ∨ (∃ gm_1_7 : Nat → Int64, ((0 ≤ a1 ∧ a1 < m_linkMany) ∧ (0 ≤ a2 ∧ a2 < m_tracerMany) ∧ (0 ≤ a3 ∧ a3 < 2)) ∧ ((nI (Cn p 40)) = 0) ∧ r = some (.long 0) ∧ w' = (wc, [ob 9 [.int 0, .int 0, .int m_fault, .int (-1), .ref 1001, .ref 1002, .int 40, .ref 1003, .int m_taped, .int m_linkMany, .int m_tracerMany, .int m_pointMany, .int m_pairMany, .ref 1004, .ref 1005, .ref 1006, .ref 1007, .int m_readLinks, .int m_readTracers, .int m_readPoints, .int m_readPairs, .ref 1008, .ref 1009, .ref 1010, .ref 1011, .int m_textLong, .int m_at, .int m_spot, .int m_token, .int m_whole, .int m_readFault, .int m_readPlace, .int m_value, .long (gm_1_7 33), .long (gm_1_7 34), .long (gm_1_7 35), .long (gm_1_7 36), .long (gm_1_7 37), .long (gm_1_7 38), .long (gm_1_7 39), .long (gm_1_7 40), .long (gm_1_7 41), .long (gm_1_7 42), .ref 1012, .ref 1013, .ref 1014, .int (nI (Cn p 40)), .ref 1015, .int 0, .int m_straightAt, .ref 1016, .long m_fitUp, .long m_fitDown, .long m_worstUp, .long m_worstDown, .ref 1017, .int m_walkLink, .int m_walkAngle, .int m_walkBranch, .int m_walkMany, .ref 1018, .ref 1019, .int m_lined, .ref 1020, .int m_actMany], ia 64 (ax_tab 0), ia 64 (ax_tab 1), z3, ia 16 q4, ia 8 q5, z6, z7, z8, z9, z10, z11, ia 64 (crv p X q12 40), ia 64 (crv p Y q13 40), ia 64 (crv p nI q14 40), ia 64 q15, z16, z17, z18, z19, z20])) ∨ ((¬ ((0 ≤ a1 ∧ a1 < m_linkMany) ∧ (0 ≤ a2 ∧ a2 < m_tracerMany) ∧ (0 ≤ a3 ∧ a3 < 2))) ∧ r = some (.long (Int32.toInt64 (-1))) ∧ w' = (wc, [ob 9 [.int 0, .int 1, .int m_fault, .int (-1), .ref 1001, .ref 1002, .int 40, .ref 1003, .int m_taped, .int m_linkMany, .int m_tracerMany, .int m_pointMany, .int m_pairMany, .ref 1004, .ref 1005, .ref 1006, .ref 1007, .int m_readLinks, .int m_readTracers, .int m_readPoints, .int m_readPairs, .ref 1008, .ref 1009, .ref 1010, .ref 1011, .int m_textLong, .int m_at, .int m_spot, .int m_token, .int m_whole, .int m_readFault, .int m_readPlace, .int m_value, .long m_n, .long m_c, .long m_d, .long m_s, .long m_e, .long m_k, .long m_x, .long m_y, .long m_g, .long m_a, .ref 1012, .ref 1013, .ref 1014, .int m_curveMany, .ref 1015, .int m_cornerMany, .int m_straightAt, .ref 1016, .long m_fitUp, .long m_fitDown, .long m_worstUp, .long m_worstDown, .ref 1017, .int m_walkLink, .int m_walkAngle, .int m_walkBranch, .int m_walkMany, .ref 1018, .ref 1019, .int m_lined, .ref 1020, .int m_actMany], ia 64 (ax_tab 0), ia 64 (ax_tab 1), z3, ia 16 q4, ia 8 q5, z6, z7, z8, z9, z10, z11, ia 64 q12, ia 64 q13, ia 64 q14, ia 64 q15, z16, z17, z18, z19, z20]))) := by
  refine ct_of ⟨by decide, rfl⟩ (Nat.le_of_ble_eq_true rfl) ?_
  refine ab_aload_n dX11_hullArea_0 rfl ?_
  refine ab_callV (As := []) (rest := []) dX11_hullArea_1 mv_X11_anew ml_X11_104 ⟨by decide, by decide, rfl, rfl, rfl⟩ (by decide) rfl rfl (Nat.le_of_ble_eq_true rfl) rfl c_X11_anew ?_
  rintro r w' ⟨rfl, rfl⟩
  refine ab_aload_n dX11_hullArea_4 rfl ?_
  refine ab_iload_n dX11_hullArea_5 rfl ?_
  refine ab_iload_n dX11_hullArea_6 rfl ?_
  refine ab_iload_n dX11_hullArea_7 rfl ?_
  refine ab_callV (As := [.int a1, .int a2, .int a3]) (rest := []) dX11_hullArea_8 mv_X11_isCurve ml_X11_417 ⟨by decide, by decide, rfl, rfl, rfl⟩ (by decide) rfl rfl (Nat.le_of_ble_eq_true rfl) rfl (c_X11_isCurve h_l h_t) ?_
  rintro r w' (⟨c_1, rfl, rfl⟩ | ⟨c_2, rfl, rfl⟩)
  · refine ab_ifne 21 dX11_hullArea_11 (by decide) (fun h_3 => ?_) (fun h_3 => absurd h_3 (by decide))
    refine ab_aload_n dX11_hullArea_21 rfl ?_
    refine ab_iload_n dX11_hullArea_22 rfl ?_
    refine ab_iload_n dX11_hullArea_23 rfl ?_
    refine ab_iload_n dX11_hullArea_24 rfl ?_
    refine ab_callV (As := [.int a1, .int a2, .int a3]) (rest := []) dX11_hullArea_25 mv_X11_wraps ml_X11_461 ⟨by decide, by decide, rfl, rfl, rfl⟩ (by decide) rfl rfl (Nat.le_of_ble_eq_true rfl) rfl (c_X11_wraps (p := p) (X := X) (Y := Y) (A := A) (m := m) c_1.1 h_l c_1.2.1 h_t h_p h_X h_Y (h_ok c_1) h_A0 h_As h_m) ?_
    rintro r w' (⟨gm_1_4, gm_3_5, c_6, rfl, rfl⟩ | ⟨gm_1_7, c_8, rfl, rfl⟩)
    · refine ab_lconst (v := 0) dX11_hullArea_28 (by decide) ?_
      refine ab_lstore (la' := [(4, .long 0), (0, .ref 1000), (1, .int a1), (2, .int a2), (3, .int a3)]) dX11_hullArea_29 (by decide) rfl ?_
      refine ab_iconst (v := 0) dX11_hullArea_31 (by decide) ?_
      refine ab_istore (la' := [(6, .int 0), (4, .long 0), (0, .ref 1000), (1, .int a1), (2, .int a2), (3, .int a3)]) dX11_hullArea_32 (by decide) rfl ?_
      refine ab_pick [0, 1, 5, 4, 3, 2] rfl ?_
      refine lp_mha (cn_le p 40) ((h_m (cn_pos p c_6)).2.1) (mar_lt (cn_pos p c_6) h_A0 h_As) m 0 0 (fun i => [(gm_3_5 33), (gm_3_5 34), (gm_3_5 35), (gm_3_5 36), (gm_3_5 37), (gm_3_5 38), (gm_3_5 39), (gm_3_5 40), (gm_3_5 41), (gm_3_5 42)].getD (i - 33) 0) (by omega) ?_
      intro gm_9
      refine ab_lload dX11_hullArea_114 rfl ?_
      exact ab_lret dX11_hullArea_116 rfl (by decide) (Or.inl ⟨gm_1_4, gm_3_5, gm_9, c_1, c_6, rfl, rfl⟩)
    · refine ab_lconst (v := 0) dX11_hullArea_28 (by decide) ?_
      refine ab_lstore (la' := [(4, .long 0), (0, .ref 1000), (1, .int a1), (2, .int a2), (3, .int a3)]) dX11_hullArea_29 (by decide) rfl ?_
      refine ab_iconst (v := 0) dX11_hullArea_31 (by decide) ?_
      refine ab_istore (la' := [(6, .int 0), (4, .long 0), (0, .ref 1000), (1, .int a1), (2, .int a2), (3, .int a3)]) dX11_hullArea_32 (by decide) rfl ?_
      refine ab_iload dX11_hullArea_34 rfl ?_
      refine ab_aload_n dX11_hullArea_36 rfl ?_
      refine ab_getf dX11_hullArea_37 fl_X11_455 rfl rfl ?_
      refine ab_icmpge 114 dX11_hullArea_40 (by decide) (fun h_10 => ?_) (fun h_10 => absurd (by decide) h_10)
      refine ab_lload dX11_hullArea_114 rfl ?_
      exact ab_lret dX11_hullArea_116 rfl (by decide) (Or.inr (Or.inl ⟨gm_1_7, c_1, c_8, rfl, rfl⟩))
  · refine ab_ifne 21 dX11_hullArea_11 (by decide) (fun h_11 => absurd (by decide) h_11) (fun h_11 => ?_)
    refine ab_aload_n dX11_hullArea_14 rfl ?_
    refine ab_iconst (v := 1) dX11_hullArea_15 (by decide) ?_
    refine ab_callV (As := [.int 1]) (rest := []) dX11_hullArea_16 mv_X11_no ml_X11_115 ⟨by decide, by decide, rfl, rfl, rfl⟩ (by decide) rfl rfl (Nat.le_of_ble_eq_true rfl) rfl c_X11_no ?_
    rintro r w' ⟨rfl, rfl⟩
    refine ab_i2l dX11_hullArea_19 ?_
    exact ab_lret dX11_hullArea_20 rfl (by decide) (Or.inr (Or.inr (⟨c_2, rfl, rfl⟩)))
