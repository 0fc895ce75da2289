theorem lp_msteps0 {wc : List ax_E} {m_thrown m_trouble m_fault m_where m_taped m_linkMany m_tracerMany m_pointMany m_pairMany m_readLinks m_readTracers m_readPoints m_readPairs m_textLong m_at m_spot m_token m_whole m_readFault m_readPlace m_value m_curveMany m_cornerMany m_straightAt m_walkLink m_walkBranch m_walkMany m_lined m_actMany : Int32} {m_fitUp m_fitDown m_worstUp m_worstDown : Int64} {z3 z5 z6 z7 z8 z9 z10 z11 z12 z13 z14 z15 z16 z17 z18 z19 z20 : ax_E} {q4 : Nat → Int32} {m : Nat} (h_i : 0 ≤ m_walkLink ∧ m_walkLink < m_linkMany) (h_l : 0 ≤ m_linkMany ∧ m_linkMany ≤ nI 4) (h_m : m ≤ 100) : ∀ (n i a : Nat) (gm : Nat → Int64), i + n = m → a < 40 → Ab M_X11_steps (fun r w' => ∃ gm : Nat → Int64, r = some (.int (nI (i + (goF (fun j => decide (0 < Ml_s q4 m_walkLink (nI j) ∧ 0 ≤ Ml_k q4 m_walkLink (nI j))) nx n a).1))) ∧ w' = (wc, [ob 9 [.int m_thrown, .int m_trouble, .int m_fault, .int m_where, .ref 1001, .ref 1002, .int 40, .ref 1003, .int m_taped, .int m_linkMany, .int m_tracerMany, .int m_pointMany, .int m_pairMany, .ref 1004, .ref 1005, .ref 1006, .ref 1007, .int m_readLinks, .int m_readTracers, .int m_readPoints, .int m_readPairs, .ref 1008, .ref 1009, .ref 1010, .ref 1011, .int m_textLong, .int m_at, .int m_spot, .int m_token, .int m_whole, .int m_readFault, .int m_readPlace, .int m_value, .long (gm 33), .long (gm 34), .long (gm 35), .long (gm 36), .long (gm 37), .long (gm 38), .long (gm 39), .long (gm 40), .long (gm 41), .long (gm 42), .ref 1012, .ref 1013, .ref 1014, .int m_curveMany, .ref 1015, .int m_cornerMany, .int m_straightAt, .ref 1016, .long m_fitUp, .long m_fitDown, .long m_worstUp, .long m_worstDown, .ref 1017, .int m_walkLink, .int (nI (goF (fun j => decide (0 < Ml_s q4 m_walkLink (nI j) ∧ 0 ≤ Ml_k q4 m_walkLink (nI j))) nx n a).2), .int m_walkBranch, .int (m_walkMany + (nI (i + (goF (fun j => decide (0 < Ml_s q4 m_walkLink (nI j) ∧ 0 ≤ Ml_k q4 m_walkLink (nI j))) nx n a).1))), .ref 1018, .ref 1019, .int m_lined, .ref 1020, .int m_actMany], ia 64 (ax_tab 0), ia 64 (ax_tab 1), z3, ia 16 q4, z5, z6, z7, z8, z9, z10, z11, z12, z13, z14, z15, z16, z17, z18, z19, z20])) (0, 0) 47 [(2, .int (nI i)), (3, .int 1), (1, .int (nI m)), (0, .ref 1000)] [] (wc, [ob 9 [.int m_thrown, .int m_trouble, .int m_fault, .int m_where, .ref 1001, .ref 1002, .int 40, .ref 1003, .int m_taped, .int m_linkMany, .int m_tracerMany, .int m_pointMany, .int m_pairMany, .ref 1004, .ref 1005, .ref 1006, .ref 1007, .int m_readLinks, .int m_readTracers, .int m_readPoints, .int m_readPairs, .ref 1008, .ref 1009, .ref 1010, .ref 1011, .int m_textLong, .int m_at, .int m_spot, .int m_token, .int m_whole, .int m_readFault, .int m_readPlace, .int m_value, .long (gm 33), .long (gm 34), .long (gm 35), .long (gm 36), .long (gm 37), .long (gm 38), .long (gm 39), .long (gm 40), .long (gm 41), .long (gm 42), .ref 1012, .ref 1013, .ref 1014, .int m_curveMany, .ref 1015, .int m_cornerMany, .int m_straightAt, .ref 1016, .long m_fitUp, .long m_fitDown, .long m_worstUp, .long m_worstDown, .ref 1017, .int m_walkLink, .int (nI a), .int m_walkBranch, .int m_walkMany, .ref 1018, .ref 1019, .int m_lined, .ref 1020, .int m_actMany], ia 64 (ax_tab 0), ia 64 (ax_tab 1), z3, ia 16 q4, z5, z6, z7, z8, z9, z10, z11, z12, z13, z14, z15, z16, z17, z18, z19, z20]) := by
  intro n
  induction n with
  | zero =>
    intro i a gm hi ha
    refine ab_iload_n dX11_steps_47 rfl ?_
    refine ab_iload_n dX11_steps_48 rfl ?_
    refine ab_iload_n dX11_steps_49 rfl ?_
    refine ab_imul dX11_steps_50 ?_
    refine ab_topi (v := (nI m)) (Int32.one_mul _) ?_
    refine ab_icmpge 93 dX11_steps_51 (by decide) (fun h_1 => ?_) (fun h_1 => absurd (nI_le (by omega) (by omega)) h_1)
    refine ab_aload_n dX11_steps_93 rfl ?_
    refine ab_dup rfl dX11_steps_94 ?_
    refine ab_getf dX11_steps_95 fl_X11_538 rfl rfl ?_
    refine ab_iload_n dX11_steps_98 rfl ?_
    refine ab_iadd dX11_steps_99 ?_
    refine ab_putf (w1 := (wc, [ob 9 [.int m_thrown, .int m_trouble, .int m_fault, .int m_where, .ref 1001, .ref 1002, .int 40, .ref 1003, .int m_taped, .int m_linkMany, .int m_tracerMany, .int m_pointMany, .int m_pairMany, .ref 1004, .ref 1005, .ref 1006, .ref 1007, .int m_readLinks, .int m_readTracers, .int m_readPoints, .int m_readPairs, .ref 1008, .ref 1009, .ref 1010, .ref 1011, .int m_textLong, .int m_at, .int m_spot, .int m_token, .int m_whole, .int m_readFault, .int m_readPlace, .int m_value, .long (gm 33), .long (gm 34), .long (gm 35), .long (gm 36), .long (gm 37), .long (gm 38), .long (gm 39), .long (gm 40), .long (gm 41), .long (gm 42), .ref 1012, .ref 1013, .ref 1014, .int m_curveMany, .ref 1015, .int m_cornerMany, .int m_straightAt, .ref 1016, .long m_fitUp, .long m_fitDown, .long m_worstUp, .long m_worstDown, .ref 1017, .int m_walkLink, .int (nI a), .int m_walkBranch, .int (m_walkMany + (nI i)), .ref 1018, .ref 1019, .int m_lined, .ref 1020, .int m_actMany], ia 64 (ax_tab 0), ia 64 (ax_tab 1), z3, ia 16 q4, z5, z6, z7, z8, z9, z10, z11, z12, z13, z14, z15, z16, z17, z18, z19, z20])) dX11_steps_100 fl_X11_538 rfl (Nat.le_of_ble_eq_true rfl) (fun _ => ⟨rfl, rfl⟩) rfl ?_
    refine ab_iload_n dX11_steps_103 rfl ?_
    exact ab_iret dX11_steps_104 rfl (by decide) ⟨gm, rfl, rfl⟩
  | succ n ih =>
    intro i a gm hi ha
    refine ab_iload_n dX11_steps_47 rfl ?_
    refine ab_iload_n dX11_steps_48 rfl ?_
    refine ab_iload_n dX11_steps_49 rfl ?_
    refine ab_imul dX11_steps_50 ?_
    refine ab_topi (v := (nI m)) (Int32.one_mul _) ?_
    refine ab_icmpge 93 dX11_steps_51 (by decide) (fun h_1 => absurd h_1 (nI_ge (by omega) (by omega))) (fun h_1 => ?_)
    refine ab_aload_n dX11_steps_54 rfl ?_
    refine ab_aload_n dX11_steps_55 rfl ?_
    refine ab_getf dX11_steps_56 fl_X11_85 rfl rfl ?_
    refine ab_aload_n dX11_steps_59 rfl ?_
    refine ab_aload_n dX11_steps_60 rfl ?_
    refine ab_getf dX11_steps_61 fl_X11_532 rfl rfl ?_
    refine ab_iload_n dX11_steps_64 rfl ?_
    refine ab_callV (As := [.int (nI a), .int 1]) (rest := [.int m_walkLink, .ref 1000]) dX11_steps_65 mv_X11_nextAngle ml_X11_337 ⟨by decide, by decide, rfl, rfl, rfl⟩ (by decide) rfl rfl (Nat.le_of_ble_eq_true rfl) rfl c_X11_nextAngle_p ?_
    rintro r w' ⟨rfl, rfl⟩
    refine ab_topi (v := (nI (nx a))) (mn_next_nI ha) ?_
    refine ab_callV (As := [.int m_walkLink, .int (nI (nx a))]) (rest := []) dX11_steps_68 mv_X11_isLawful ml_X11_318 ⟨by decide, by decide, rfl, rfl, rfl⟩ (by decide) rfl rfl (Nat.le_of_ble_eq_true rfl) rfl (c_X11_isLawful h_i h_l (⟨nI_pos' (by have := nx_lt ha; omega), nI_lt (b := 40) (nx_lt ha) (by decide)⟩)) ?_
    rintro r w' (⟨c_2, rfl, rfl⟩ | ⟨c_3, rfl, rfl⟩)
    · refine ab_ifeq 93 dX11_steps_71 (by decide) (fun h_4 => absurd h_4 (by decide)) (fun h_4 => ?_)
      refine ab_aload_n dX11_steps_74 rfl ?_
      refine ab_aload_n dX11_steps_75 rfl ?_
      refine ab_aload_n dX11_steps_76 rfl ?_
      refine ab_getf dX11_steps_77 fl_X11_532 rfl rfl ?_
      refine ab_iload_n dX11_steps_80 rfl ?_
      refine ab_callV (As := [.int (nI a), .int 1]) (rest := [.ref 1000]) dX11_steps_81 mv_X11_nextAngle ml_X11_337 ⟨by decide, by decide, rfl, rfl, rfl⟩ (by decide) rfl rfl (Nat.le_of_ble_eq_true rfl) rfl c_X11_nextAngle_p ?_
      rintro r w' ⟨rfl, rfl⟩
      refine ab_topi (v := (nI (nx a))) (mn_next_nI ha) ?_
      refine ab_putf (w1 := (wc, [ob 9 [.int m_thrown, .int m_trouble, .int m_fault, .int m_where, .ref 1001, .ref 1002, .int 40, .ref 1003, .int m_taped, .int m_linkMany, .int m_tracerMany, .int m_pointMany, .int m_pairMany, .ref 1004, .ref 1005, .ref 1006, .ref 1007, .int m_readLinks, .int m_readTracers, .int m_readPoints, .int m_readPairs, .ref 1008, .ref 1009, .ref 1010, .ref 1011, .int m_textLong, .int m_at, .int m_spot, .int m_token, .int m_whole, .int m_readFault, .int m_readPlace, .int m_value, .long (Ml_n (nI (nx a))), .long (Ml_c (nI (nx a))), .long (Ml_d (nI (nx a))), .long (Ml_s q4 m_walkLink (nI (nx a))), .long (Ml_e q4 m_walkLink (nI (nx a))), .long (Ml_k q4 m_walkLink (nI (nx a))), .long (Ml_x q4 m_walkLink (nI (nx a))), .long (Ml_y q4 m_walkLink (nI (nx a))), .long (Int32.toInt64 (Bg q4 m_walkLink)), .long (Int32.toInt64 (Ba q4 m_walkLink)), .ref 1012, .ref 1013, .ref 1014, .int m_curveMany, .ref 1015, .int m_cornerMany, .int m_straightAt, .ref 1016, .long m_fitUp, .long m_fitDown, .long m_worstUp, .long m_worstDown, .ref 1017, .int m_walkLink, .int (nI (nx a)), .int m_walkBranch, .int m_walkMany, .ref 1018, .ref 1019, .int m_lined, .ref 1020, .int m_actMany], ia 64 (ax_tab 0), ia 64 (ax_tab 1), z3, ia 16 q4, z5, z6, z7, z8, z9, z10, z11, z12, z13, z14, z15, z16, z17, z18, z19, z20])) dX11_steps_84 fl_X11_532 rfl (Nat.le_of_ble_eq_true rfl) (fun _ => ⟨rfl, rfl⟩) rfl ?_
      refine ab_iinc (v := (nI (i + 1))) (la' := [(2, .int (nI (i + 1))), (3, .int 1), (1, .int (nI m)), (0, .ref 1000)]) dX11_steps_87 rfl (nI_1 _) (by decide) rfl ?_
      refine ab_goto 47 dX11_steps_90 (by decide) ?_
      refine ab_pick [0, 1, 2, 3] rfl ?_
      have e1 : goF (fun j => decide (0 < Ml_s q4 m_walkLink (nI j) ∧ 0 ≤ Ml_k q4 m_walkLink (nI j))) nx (n + 1) a = _ := goF_t (decide_eq_true c_2)
      refine Ct.mono2 (ih (i + 1) (nx a) (fun i => [(Ml_n (nI (nx a))), (Ml_c (nI (nx a))), (Ml_d (nI (nx a))), (Ml_s q4 m_walkLink (nI (nx a))), (Ml_e q4 m_walkLink (nI (nx a))), (Ml_k q4 m_walkLink (nI (nx a))), (Ml_x q4 m_walkLink (nI (nx a))), (Ml_y q4 m_walkLink (nI (nx a))), (Int32.toInt64 (Bg q4 m_walkLink)), (Int32.toInt64 (Ba q4 m_walkLink))].getD (i - 33) 0) (by omega) (nx_lt ha)) ?_
      rintro r w' ⟨gm, h1, h2⟩
      rw [e1]
      have e2 : ∀ z, i + 1 + z = i + (z + 1) := fun z => by omega
      rw [e2] at h1 h2
      exact ⟨gm, h1, h2⟩
    · refine ab_ifeq 93 dX11_steps_71 (by decide) (fun h_5 => ?_) (fun h_5 => absurd (by decide) h_5)
      refine ab_aload_n dX11_steps_93 rfl ?_
      refine ab_dup rfl dX11_steps_94 ?_
      refine ab_getf dX11_steps_95 fl_X11_538 rfl rfl ?_
      refine ab_iload_n dX11_steps_98 rfl ?_
      refine ab_iadd dX11_steps_99 ?_
      refine ab_putf (w1 := (wc, [ob 9 [.int m_thrown, .int m_trouble, .int m_fault, .int m_where, .ref 1001, .ref 1002, .int 40, .ref 1003, .int m_taped, .int m_linkMany, .int m_tracerMany, .int m_pointMany, .int m_pairMany, .ref 1004, .ref 1005, .ref 1006, .ref 1007, .int m_readLinks, .int m_readTracers, .int m_readPoints, .int m_readPairs, .ref 1008, .ref 1009, .ref 1010, .ref 1011, .int m_textLong, .int m_at, .int m_spot, .int m_token, .int m_whole, .int m_readFault, .int m_readPlace, .int m_value, .long (Ml_n (nI (nx a))), .long (Ml_c (nI (nx a))), .long (Ml_d (nI (nx a))), .long (Ml_s q4 m_walkLink (nI (nx a))), .long (Ml_e q4 m_walkLink (nI (nx a))), .long (Ml_k q4 m_walkLink (nI (nx a))), .long (Ml_x q4 m_walkLink (nI (nx a))), .long (Ml_y q4 m_walkLink (nI (nx a))), .long (Int32.toInt64 (Bg q4 m_walkLink)), .long (Int32.toInt64 (Ba q4 m_walkLink)), .ref 1012, .ref 1013, .ref 1014, .int m_curveMany, .ref 1015, .int m_cornerMany, .int m_straightAt, .ref 1016, .long m_fitUp, .long m_fitDown, .long m_worstUp, .long m_worstDown, .ref 1017, .int m_walkLink, .int (nI a), .int m_walkBranch, .int (m_walkMany + (nI i)), .ref 1018, .ref 1019, .int m_lined, .ref 1020, .int m_actMany], ia 64 (ax_tab 0), ia 64 (ax_tab 1), z3, ia 16 q4, z5, z6, z7, z8, z9, z10, z11, z12, z13, z14, z15, z16, z17, z18, z19, z20])) dX11_steps_100 fl_X11_538 rfl (Nat.le_of_ble_eq_true rfl) (fun _ => ⟨rfl, rfl⟩) rfl ?_
      refine ab_iload_n dX11_steps_103 rfl ?_
      exact ab_iret dX11_steps_104 rfl (by decide) (by rw [show goF (fun j => decide (0 < Ml_s q4 m_walkLink (nI j) ∧ 0 ≤ Ml_k q4 m_walkLink (nI j))) nx (n + 1) a = (0, a) from goF_f (by simp only [decide_eq_true_eq]; exact c_3)]; exact ⟨(fun i => [(Ml_n (nI (nx a))), (Ml_c (nI (nx a))), (Ml_d (nI (nx a))), (Ml_s q4 m_walkLink (nI (nx a))), (Ml_e q4 m_walkLink (nI (nx a))), (Ml_k q4 m_walkLink (nI (nx a))), (Ml_x q4 m_walkLink (nI (nx a))), (Ml_y q4 m_walkLink (nI (nx a))), (Int32.toInt64 (Bg q4 m_walkLink)), (Int32.toInt64 (Ba q4 m_walkLink))].getD (i - 33) 0), rfl, rfl⟩)
theorem c_X11_steps_p {wc : List ax_E} {m_thrown m_trouble m_fault m_where m_taped m_linkMany m_tracerMany m_pointMany m_pairMany m_readLinks m_readTracers m_readPoints m_readPairs m_textLong m_at m_spot m_token m_whole m_readFault m_readPlace m_value m_curveMany m_cornerMany m_straightAt m_walkLink m_walkBranch m_walkMany m_lined m_actMany : Int32} {m_n m_c m_d m_s m_e m_k m_x m_y m_g m_a m_fitUp m_fitDown m_worstUp m_worstDown : Int64} {z3 z5 z6 z7 z8 z9 z10 z11 z12 z13 z14 z15 z16 z17 z18 z19 z20 : ax_E} {q4 : Nat → Int32} {m a : Nat} (h_l : 0 ≤ m_linkMany ∧ m_linkMany ≤ nI 4) (h_w : ¬ m_walkLink = -1 → (0 ≤ m_walkLink ∧ m_walkLink < m_linkMany)) (h_m : m ≤ 100) (h_a : a < 40) : Ct M_X11_steps [.ref 1000, .int (nI m)] (wc, [ob 9 [.int m_thrown, .int m_trouble, .int m_fault, .int m_where, .ref 1001, .ref 1002, .int 40, .ref 1003, .int m_taped, .int m_linkMany, .int m_tracerMany, .int m_pointMany, .int m_pairMany, .ref 1004, .ref 1005, .ref 1006, .ref 1007, .int m_readLinks, .int m_readTracers, .int m_readPoints, .int m_readPairs, .ref 1008, .ref 1009, .ref 1010, .ref 1011, .int m_textLong, .int m_at, .int m_spot, .int m_token, .int m_whole, .int m_readFault, .int m_readPlace, .int m_value, .long m_n, .long m_c, .long m_d, .long m_s, .long m_e, .long m_k, .long m_x, .long m_y, .long m_g, .long m_a, .ref 1012, .ref 1013, .ref 1014, .int m_curveMany, .ref 1015, .int m_cornerMany, .int m_straightAt, .ref 1016, .long m_fitUp, .long m_fitDown, .long m_worstUp, .long m_worstDown, .ref 1017, .int m_walkLink, .int (nI a), .int m_walkBranch, .int m_walkMany, .ref 1018, .ref 1019, .int m_lined, .ref 1020, .int m_actMany], ia 64 (ax_tab 0), ia 64 (ax_tab 1), z3, ia 16 q4, z5, z6, z7, z8, z9, z10, z11, z12, z13, z14, z15, z16, z17, z18, z19, z20]) (fun r w' => (∃ gm : Nat → Int64, (¬ m_walkLink = (-1)) ∧ r = some (.int (nI (0 + (goF (fun j => decide (0 < Ml_s q4 m_walkLink (nI j) ∧ 0 ≤ Ml_k q4 m_walkLink (nI j))) nx m a).1))) ∧ w' = (wc, [ob 9 [.int 0, .int 0, .int m_fault, .int (-1), .ref 1001, .ref 1002, .int 40, .ref 1003, .int m_taped, .int m_linkMany, .int m_tracerMany, .int m_pointMany, .int m_pairMany, .ref 1004, .ref 1005, .ref 1006, .ref 1007, .int m_readLinks, .int m_readTracers, .int m_readPoints, .int m_readPairs, .ref 1008, .ref 1009, .ref 1010, .ref 1011, .int m_textLong, .int m_at, .int m_spot, .int m_token, .int m_whole, .int m_readFault, .int m_readPlace, .int m_value, .long (gm 33), .long (gm 34), .long (gm 35), .long (gm 36), .long (gm 37), .long (gm 38), .long (gm 39), .long (gm 40), .long (gm 41), .long (gm 42), .ref 1012, .ref 1013, .ref 1014, .int m_curveMany, .ref 1015, .int m_cornerMany, .int m_straightAt, .ref 1016, .long m_fitUp, .long m_fitDown, .long m_worstUp, .long m_worstDown, .ref 1017, .int m_walkLink, .int (nI (goF (fun j => decide (0 < Ml_s q4 m_walkLink (nI j) ∧ 0 ≤ Ml_k q4 m_walkLink (nI j))) nx m a).2), .int m_walkBranch, .int (m_walkMany + (nI (0 + (goF (fun j => decide (0 < Ml_s q4 m_walkLink (nI j) ∧ 0 ≤ Ml_k q4 m_walkLink (nI j))) nx m a).1))), .ref 1018, .ref 1019, .int m_lined, .ref 1020, .int m_actMany], ia 64 (ax_tab 0), ia 64 (ax_tab 1), z3, ia 16 q4, z5, z6, z7, z8, z9, z10, z11, z12, z13, z14, z15, z16, z17, z18, z19, z20])) ∨ ((m_walkLink = (-1)) ∧ r = some (.int (-1)) ∧ w' = (wc, [ob 9 [.int 0, .int 5, .int m_fault, .int (-1), .ref 1001, .ref 1002, .int 40, .ref 1003, .int m_taped, .int m_linkMany, .int m_tracerMany, .int m_pointMany, .int m_pairMany, .ref 1004, .ref 1005, .ref 1006, .ref 1007, .int m_readLinks, .int m_readTracers, .int m_readPoints, .int m_readPairs, .ref 1008, .ref 1009, .ref 1010, .ref 1011, .int m_textLong, .int m_at, .int m_spot, .int m_token, .int m_whole, .int m_readFault, .int m_readPlace, .int m_value, .long m_n, .long m_c, .long m_d, .long m_s, .long m_e, .long m_k, .long m_x, .long m_y, .long m_g, .long m_a, .ref 1012, .ref 1013, .ref 1014, .int m_curveMany, .ref 1015, .int m_cornerMany, .int m_straightAt, .ref 1016, .long m_fitUp, .long m_fitDown, .long m_worstUp, .long m_worstDown, .ref 1017, .int m_walkLink, .int (nI a), .int m_walkBranch, .int m_walkMany, .ref 1018, .ref 1019, .int m_lined, .ref 1020, .int m_actMany], ia 64 (ax_tab 0), ia 64 (ax_tab 1), z3, ia 16 q4, z5, z6, z7, z8, z9, z10, z11, z12, z13, z14, z15, z16, z17, z18, z19, z20]))) := by
  have hin : (-100) ≤ nI m ∧ nI m ≤ 100 := ⟨Int32.le_trans (by decide) (nI_pos' (by omega)), nI_le (b := 100) h_m (by decide)⟩
  refine ct_of ⟨by decide, rfl⟩ (Nat.le_of_ble_eq_true rfl) ?_
  refine ab_aload_n dX11_steps_0 rfl ?_
  refine ab_callV (As := []) (rest := []) dX11_steps_1 mv_X11_anew ml_X11_104 ⟨by decide, by decide, rfl, rfl, rfl⟩ (by decide) rfl rfl (Nat.le_of_ble_eq_true rfl) rfl c_X11_anew ?_
  rintro r w' ⟨rfl, rfl⟩
  refine ab_aload_n dX11_steps_4 rfl ?_
  refine ab_getf dX11_steps_5 fl_X11_85 rfl rfl ?_
  refine ab_iconst (v := -1) dX11_steps_8 (by decide) ?_
  refine ab_icmpne 18 dX11_steps_9 (by decide) (fun h_1 => ?_) (fun h_1 => ?_)
  · refine ab_iload_n dX11_steps_18 rfl ?_
    refine ab_bipush (v := -100) dX11_steps_19 (by decide) ?_
    refine ab_bipush (v := 100) dX11_steps_21 (by decide) ?_
    refine ab_callS (As := [.int (nI m), .int (-100), .int 100]) (rest := []) dX11_steps_23 ms_X11_in ml_X11_107 ⟨by decide, by decide, rfl, rfl, rfl⟩ (by decide) rfl rfl (Nat.le_of_ble_eq_true rfl) c_X11_in ?_
    rintro r w' (⟨c_2, rfl, rfl⟩ | ⟨c_3, rfl, rfl⟩)
    · refine ab_ifne 35 dX11_steps_26 (by decide) (fun h_4 => ?_) (fun h_4 => absurd h_4 (by decide))
      refine ab_iconst (v := 0) dX11_steps_35 (by decide) ?_
      refine ab_istore_n (la' := [(2, .int 0), (0, .ref 1000), (1, .int (nI m))]) dX11_steps_36 (by decide) rfl ?_
      refine ab_iload_n dX11_steps_37 rfl ?_
      refine ab_ifge 45 dX11_steps_38 (by decide) (fun h_5 => ?_) (fun h_5 => absurd (nI_pos' (by omega)) h_5)
      refine ab_iconst (v := 1) dX11_steps_45 (by decide) ?_
      refine ab_istore_n (la' := [(3, .int 1), (2, .int 0), (0, .ref 1000), (1, .int (nI m))]) dX11_steps_46 (by decide) rfl ?_
      refine ab_pick [1, 0, 3, 2] rfl ?_
      refine Ct.mono2 (lp_msteps0 (h_w h_1) h_l h_m m 0 a (fun i => [m_n, m_c, m_d, m_s, m_e, m_k, m_x, m_y, m_g, m_a].getD (i - 33) 0) (by omega) h_a) ?_
      rintro r w' ⟨gm, h1, h2⟩
      exact (Or.inl ⟨gm, h_1, h1, h2⟩)
    · exact absurd hin c_3
  · refine ab_aload_n dX11_steps_12 rfl ?_
    refine ab_iconst (v := 5) dX11_steps_13 (by decide) ?_
    refine ab_callV (As := [.int 5]) (rest := []) dX11_steps_14 mv_X11_no ml_X11_115 ⟨by decide, by decide, rfl, rfl, rfl⟩ (by decide) rfl rfl (Nat.le_of_ble_eq_true rfl) rfl c_X11_no ?_
    rintro r w' ⟨rfl, rfl⟩
    exact ab_iret dX11_steps_17 rfl (by decide) (Or.inr (⟨h_1, rfl, rfl⟩))
theorem lp_msteps1 {wc : List ax_E} {m_thrown m_trouble m_fault m_where m_taped m_linkMany m_tracerMany m_pointMany m_pairMany m_readLinks m_readTracers m_readPoints m_readPairs m_textLong m_at m_spot m_token m_whole m_readFault m_readPlace m_value m_curveMany m_cornerMany m_straightAt m_walkLink m_walkBranch m_walkMany m_lined m_actMany : Int32} {m_fitUp m_fitDown m_worstUp m_worstDown : Int64} {z3 z5 z6 z7 z8 z9 z10 z11 z12 z13 z14 z15 z16 z17 z18 z19 z20 : ax_E} {q4 : Nat → Int32} {m : Nat} (h_i : 0 ≤ m_walkLink ∧ m_walkLink < m_linkMany) (h_l : 0 ≤ m_linkMany ∧ m_linkMany ≤ nI 4) (h_m : m ≤ 100) : ∀ (n i a : Nat) (gm : Nat → Int64), i + n = m → a < 40 → Ab M_X11_steps (fun r w' => ∃ gm : Nat → Int64, r = some (.int (nI (i + (goF (fun j => decide (0 < Ml_s q4 m_walkLink (nI j) ∧ 0 ≤ Ml_k q4 m_walkLink (nI j))) pv n a).1))) ∧ w' = (wc, [ob 9 [.int m_thrown, .int m_trouble, .int m_fault, .int m_where, .ref 1001, .ref 1002, .int 40, .ref 1003, .int m_taped, .int m_linkMany, .int m_tracerMany, .int m_pointMany, .int m_pairMany, .ref 1004, .ref 1005, .ref 1006, .ref 1007, .int m_readLinks, .int m_readTracers, .int m_readPoints, .int m_readPairs, .ref 1008, .ref 1009, .ref 1010, .ref 1011, .int m_textLong, .int m_at, .int m_spot, .int m_token, .int m_whole, .int m_readFault, .int m_readPlace, .int m_value, .long (gm 33), .long (gm 34), .long (gm 35), .long (gm 36), .long (gm 37), .long (gm 38), .long (gm 39), .long (gm 40), .long (gm 41), .long (gm 42), .ref 1012, .ref 1013, .ref 1014, .int m_curveMany, .ref 1015, .int m_cornerMany, .int m_straightAt, .ref 1016, .long m_fitUp, .long m_fitDown, .long m_worstUp, .long m_worstDown, .ref 1017, .int m_walkLink, .int (nI (goF (fun j => decide (0 < Ml_s q4 m_walkLink (nI j) ∧ 0 ≤ Ml_k q4 m_walkLink (nI j))) pv n a).2), .int m_walkBranch, .int (m_walkMany + (nI (i + (goF (fun j => decide (0 < Ml_s q4 m_walkLink (nI j) ∧ 0 ≤ Ml_k q4 m_walkLink (nI j))) pv n a).1))), .ref 1018, .ref 1019, .int m_lined, .ref 1020, .int m_actMany], ia 64 (ax_tab 0), ia 64 (ax_tab 1), z3, ia 16 q4, z5, z6, z7, z8, z9, z10, z11, z12, z13, z14, z15, z16, z17, z18, z19, z20])) (0, 0) 47 [(2, .int (nI i)), (3, .int (-1)), (1, .int (-(nI m))), (0, .ref 1000)] [] (wc, [ob 9 [.int m_thrown, .int m_trouble, .int m_fault, .int m_where, .ref 1001, .ref 1002, .int 40, .ref 1003, .int m_taped, .int m_linkMany, .int m_tracerMany, .int m_pointMany, .int m_pairMany, .ref 1004, .ref 1005, .ref 1006, .ref 1007, .int m_readLinks, .int m_readTracers, .int m_readPoints, .int m_readPairs, .ref 1008, .ref 1009, .ref 1010, .ref 1011, .int m_textLong, .int m_at, .int m_spot, .int m_token, .int m_whole, .int m_readFault, .int m_readPlace, .int m_value, .long (gm 33), .long (gm 34), .long (gm 35), .long (gm 36), .long (gm 37), .long (gm 38), .long (gm 39), .long (gm 40), .long (gm 41), .long (gm 42), .ref 1012, .ref 1013, .ref 1014, .int m_curveMany, .ref 1015, .int m_cornerMany, .int m_straightAt, .ref 1016, .long m_fitUp, .long m_fitDown, .long m_worstUp, .long m_worstDown, .ref 1017, .int m_walkLink, .int (nI a), .int m_walkBranch, .int m_walkMany, .ref 1018, .ref 1019, .int m_lined, .ref 1020, .int m_actMany], ia 64 (ax_tab 0), ia 64 (ax_tab 1), z3, ia 16 q4, z5, z6, z7, z8, z9, z10, z11, z12, z13, z14, z15, z16, z17, z18, z19, z20]) := by
  intro n
  induction n with
  | zero =>
    intro i a gm hi ha
    refine ab_iload_n dX11_steps_47 rfl ?_
    refine ab_iload_n dX11_steps_48 rfl ?_
    refine ab_iload_n dX11_steps_49 rfl ?_
    refine ab_imul dX11_steps_50 ?_
    refine ab_topi (v := (nI m)) (by grind) ?_
    refine ab_icmpge 93 dX11_steps_51 (by decide) (fun h_1 => ?_) (fun h_1 => absurd (nI_le (by omega) (by omega)) h_1)
    refine ab_aload_n dX11_steps_93 rfl ?_
    refine ab_dup rfl dX11_steps_94 ?_
    refine ab_getf dX11_steps_95 fl_X11_538 rfl rfl ?_
    refine ab_iload_n dX11_steps_98 rfl ?_
    refine ab_iadd dX11_steps_99 ?_
    refine ab_putf (w1 := (wc, [ob 9 [.int m_thrown, .int m_trouble, .int m_fault, .int m_where, .ref 1001, .ref 1002, .int 40, .ref 1003, .int m_taped, .int m_linkMany, .int m_tracerMany, .int m_pointMany, .int m_pairMany, .ref 1004, .ref 1005, .ref 1006, .ref 1007, .int m_readLinks, .int m_readTracers, .int m_readPoints, .int m_readPairs, .ref 1008, .ref 1009, .ref 1010, .ref 1011, .int m_textLong, .int m_at, .int m_spot, .int m_token, .int m_whole, .int m_readFault, .int m_readPlace, .int m_value, .long (gm 33), .long (gm 34), .long (gm 35), .long (gm 36), .long (gm 37), .long (gm 38), .long (gm 39), .long (gm 40), .long (gm 41), .long (gm 42), .ref 1012, .ref 1013, .ref 1014, .int m_curveMany, .ref 1015, .int m_cornerMany, .int m_straightAt, .ref 1016, .long m_fitUp, .long m_fitDown, .long m_worstUp, .long m_worstDown, .ref 1017, .int m_walkLink, .int (nI a), .int m_walkBranch, .int (m_walkMany + (nI i)), .ref 1018, .ref 1019, .int m_lined, .ref 1020, .int m_actMany], ia 64 (ax_tab 0), ia 64 (ax_tab 1), z3, ia 16 q4, z5, z6, z7, z8, z9, z10, z11, z12, z13, z14, z15, z16, z17, z18, z19, z20])) dX11_steps_100 fl_X11_538 rfl (Nat.le_of_ble_eq_true rfl) (fun _ => ⟨rfl, rfl⟩) rfl ?_
    refine ab_iload_n dX11_steps_103 rfl ?_
    exact ab_iret dX11_steps_104 rfl (by decide) ⟨gm, rfl, rfl⟩
  | succ n ih =>
    intro i a gm hi ha
    refine ab_iload_n dX11_steps_47 rfl ?_
    refine ab_iload_n dX11_steps_48 rfl ?_
    refine ab_iload_n dX11_steps_49 rfl ?_
    refine ab_imul dX11_steps_50 ?_
    refine ab_topi (v := (nI m)) (by grind) ?_
    refine ab_icmpge 93 dX11_steps_51 (by decide) (fun h_1 => absurd h_1 (nI_ge (by omega) (by omega))) (fun h_1 => ?_)
    refine ab_aload_n dX11_steps_54 rfl ?_
    refine ab_aload_n dX11_steps_55 rfl ?_
    refine ab_getf dX11_steps_56 fl_X11_85 rfl rfl ?_
    refine ab_aload_n dX11_steps_59 rfl ?_
    refine ab_aload_n dX11_steps_60 rfl ?_
    refine ab_getf dX11_steps_61 fl_X11_532 rfl rfl ?_
    refine ab_iload_n dX11_steps_64 rfl ?_
    refine ab_callV (As := [.int (nI a), .int (-1)]) (rest := [.int m_walkLink, .ref 1000]) dX11_steps_65 mv_X11_nextAngle ml_X11_337 ⟨by decide, by decide, rfl, rfl, rfl⟩ (by decide) rfl rfl (Nat.le_of_ble_eq_true rfl) rfl c_X11_nextAngle_m ?_
    rintro r w' ⟨rfl, rfl⟩
    refine ab_topi (v := (nI (pv a))) (mn_prev_nI ha) ?_
    refine ab_callV (As := [.int m_walkLink, .int (nI (pv a))]) (rest := []) dX11_steps_68 mv_X11_isLawful ml_X11_318 ⟨by decide, by decide, rfl, rfl, rfl⟩ (by decide) rfl rfl (Nat.le_of_ble_eq_true rfl) rfl (c_X11_isLawful h_i h_l (⟨nI_pos' (by have := pv_lt ha; omega), nI_lt (b := 40) (pv_lt ha) (by decide)⟩)) ?_
    rintro r w' (⟨c_2, rfl, rfl⟩ | ⟨c_3, rfl, rfl⟩)
    · refine ab_ifeq 93 dX11_steps_71 (by decide) (fun h_4 => absurd h_4 (by decide)) (fun h_4 => ?_)
      refine ab_aload_n dX11_steps_74 rfl ?_
      refine ab_aload_n dX11_steps_75 rfl ?_
      refine ab_aload_n dX11_steps_76 rfl ?_
      refine ab_getf dX11_steps_77 fl_X11_532 rfl rfl ?_
      refine ab_iload_n dX11_steps_80 rfl ?_
      refine ab_callV (As := [.int (nI a), .int (-1)]) (rest := [.ref 1000]) dX11_steps_81 mv_X11_nextAngle ml_X11_337 ⟨by decide, by decide, rfl, rfl, rfl⟩ (by decide) rfl rfl (Nat.le_of_ble_eq_true rfl) rfl c_X11_nextAngle_m ?_
      rintro r w' ⟨rfl, rfl⟩
      refine ab_topi (v := (nI (pv a))) (mn_prev_nI ha) ?_
      refine ab_putf (w1 := (wc, [ob 9 [.int m_thrown, .int m_trouble, .int m_fault, .int m_where, .ref 1001, .ref 1002, .int 40, .ref 1003, .int m_taped, .int m_linkMany, .int m_tracerMany, .int m_pointMany, .int m_pairMany, .ref 1004, .ref 1005, .ref 1006, .ref 1007, .int m_readLinks, .int m_readTracers, .int m_readPoints, .int m_readPairs, .ref 1008, .ref 1009, .ref 1010, .ref 1011, .int m_textLong, .int m_at, .int m_spot, .int m_token, .int m_whole, .int m_readFault, .int m_readPlace, .int m_value, .long (Ml_n (nI (pv a))), .long (Ml_c (nI (pv a))), .long (Ml_d (nI (pv a))), .long (Ml_s q4 m_walkLink (nI (pv a))), .long (Ml_e q4 m_walkLink (nI (pv a))), .long (Ml_k q4 m_walkLink (nI (pv a))), .long (Ml_x q4 m_walkLink (nI (pv a))), .long (Ml_y q4 m_walkLink (nI (pv a))), .long (Int32.toInt64 (Bg q4 m_walkLink)), .long (Int32.toInt64 (Ba q4 m_walkLink)), .ref 1012, .ref 1013, .ref 1014, .int m_curveMany, .ref 1015, .int m_cornerMany, .int m_straightAt, .ref 1016, .long m_fitUp, .long m_fitDown, .long m_worstUp, .long m_worstDown, .ref 1017, .int m_walkLink, .int (nI (pv a)), .int m_walkBranch, .int m_walkMany, .ref 1018, .ref 1019, .int m_lined, .ref 1020, .int m_actMany], ia 64 (ax_tab 0), ia 64 (ax_tab 1), z3, ia 16 q4, z5, z6, z7, z8, z9, z10, z11, z12, z13, z14, z15, z16, z17, z18, z19, z20])) dX11_steps_84 fl_X11_532 rfl (Nat.le_of_ble_eq_true rfl) (fun _ => ⟨rfl, rfl⟩) rfl ?_
      refine ab_iinc (v := (nI (i + 1))) (la' := [(2, .int (nI (i + 1))), (3, .int (-1)), (1, .int (-(nI m))), (0, .ref 1000)]) dX11_steps_87 rfl (nI_1 _) (by decide) rfl ?_
      refine ab_goto 47 dX11_steps_90 (by decide) ?_
      refine ab_pick [0, 1, 2, 3] rfl ?_
      have e1 : goF (fun j => decide (0 < Ml_s q4 m_walkLink (nI j) ∧ 0 ≤ Ml_k q4 m_walkLink (nI j))) pv (n + 1) a = _ := goF_t (decide_eq_true c_2)
      refine Ct.mono2 (ih (i + 1) (pv a) (fun i => [(Ml_n (nI (pv a))), (Ml_c (nI (pv a))), (Ml_d (nI (pv a))), (Ml_s q4 m_walkLink (nI (pv a))), (Ml_e q4 m_walkLink (nI (pv a))), (Ml_k q4 m_walkLink (nI (pv a))), (Ml_x q4 m_walkLink (nI (pv a))), (Ml_y q4 m_walkLink (nI (pv a))), (Int32.toInt64 (Bg q4 m_walkLink)), (Int32.toInt64 (Ba q4 m_walkLink))].getD (i - 33) 0) (by omega) (pv_lt ha)) ?_
      rintro r w' ⟨gm, h1, h2⟩
      rw [e1]
      have e2 : ∀ z, i + 1 + z = i + (z + 1) := fun z => by omega
      rw [e2] at h1 h2
      exact ⟨gm, h1, h2⟩
    · refine ab_ifeq 93 dX11_steps_71 (by decide) (fun h_5 => ?_) (fun h_5 => absurd (by decide) h_5)
      refine ab_aload_n dX11_steps_93 rfl ?_
      refine ab_dup rfl dX11_steps_94 ?_
      refine ab_getf dX11_steps_95 fl_X11_538 rfl rfl ?_
      refine ab_iload_n dX11_steps_98 rfl ?_
      refine ab_iadd dX11_steps_99 ?_
      refine ab_putf (w1 := (wc, [ob 9 [.int m_thrown, .int m_trouble, .int m_fault, .int m_where, .ref 1001, .ref 1002, .int 40, .ref 1003, .int m_taped, .int m_linkMany, .int m_tracerMany, .int m_pointMany, .int m_pairMany, .ref 1004, .ref 1005, .ref 1006, .ref 1007, .int m_readLinks, .int m_readTracers, .int m_readPoints, .int m_readPairs, .ref 1008, .ref 1009, .ref 1010, .ref 1011, .int m_textLong, .int m_at, .int m_spot, .int m_token, .int m_whole, .int m_readFault, .int m_readPlace, .int m_value, .long (Ml_n (nI (pv a))), .long (Ml_c (nI (pv a))), .long (Ml_d (nI (pv a))), .long (Ml_s q4 m_walkLink (nI (pv a))), .long (Ml_e q4 m_walkLink (nI (pv a))), .long (Ml_k q4 m_walkLink (nI (pv a))), .long (Ml_x q4 m_walkLink (nI (pv a))), .long (Ml_y q4 m_walkLink (nI (pv a))), .long (Int32.toInt64 (Bg q4 m_walkLink)), .long (Int32.toInt64 (Ba q4 m_walkLink)), .ref 1012, .ref 1013, .ref 1014, .int m_curveMany, .ref 1015, .int m_cornerMany, .int m_straightAt, .ref 1016, .long m_fitUp, .long m_fitDown, .long m_worstUp, .long m_worstDown, .ref 1017, .int m_walkLink, .int (nI a), .int m_walkBranch, .int (m_walkMany + (nI i)), .ref 1018, .ref 1019, .int m_lined, .ref 1020, .int m_actMany], ia 64 (ax_tab 0), ia 64 (ax_tab 1), z3, ia 16 q4, z5, z6, z7, z8, z9, z10, z11, z12, z13, z14, z15, z16, z17, z18, z19, z20])) dX11_steps_100 fl_X11_538 rfl (Nat.le_of_ble_eq_true rfl) (fun _ => ⟨rfl, rfl⟩) rfl ?_
      refine ab_iload_n dX11_steps_103 rfl ?_
      exact ab_iret dX11_steps_104 rfl (by decide) (by rw [show goF (fun j => decide (0 < Ml_s q4 m_walkLink (nI j) ∧ 0 ≤ Ml_k q4 m_walkLink (nI j))) pv (n + 1) a = (0, a) from goF_f (by simp only [decide_eq_true_eq]; exact c_3)]; exact ⟨(fun i => [(Ml_n (nI (pv a))), (Ml_c (nI (pv a))), (Ml_d (nI (pv a))), (Ml_s q4 m_walkLink (nI (pv a))), (Ml_e q4 m_walkLink (nI (pv a))), (Ml_k q4 m_walkLink (nI (pv a))), (Ml_x q4 m_walkLink (nI (pv a))), (Ml_y q4 m_walkLink (nI (pv a))), (Int32.toInt64 (Bg q4 m_walkLink)), (Int32.toInt64 (Ba q4 m_walkLink))].getD (i - 33) 0), rfl, rfl⟩)
theorem c_X11_steps_n {wc : List ax_E} {m_thrown m_trouble m_fault m_where m_taped m_linkMany m_tracerMany m_pointMany m_pairMany m_readLinks m_readTracers m_readPoints m_readPairs m_textLong m_at m_spot m_token m_whole m_readFault m_readPlace m_value m_curveMany m_cornerMany m_straightAt m_walkLink m_walkBranch m_walkMany m_lined m_actMany : Int32} {m_n m_c m_d m_s m_e m_k m_x m_y m_g m_a m_fitUp m_fitDown m_worstUp m_worstDown : Int64} {z3 z5 z6 z7 z8 z9 z10 z11 z12 z13 z14 z15 z16 z17 z18 z19 z20 : ax_E} {q4 : Nat → Int32} {m a : Nat} (h_l : 0 ≤ m_linkMany ∧ m_linkMany ≤ nI 4) (h_w : ¬ m_walkLink = -1 → (0 ≤ m_walkLink ∧ m_walkLink < m_linkMany)) (h_m : m ≤ 100) (h_a : a < 40) (h_0 : 0 < m) : Ct M_X11_steps [.ref 1000, .int (-(nI m))] (wc, [ob 9 [.int m_thrown, .int m_trouble, .int m_fault, .int m_where, .ref 1001, .ref 1002, .int 40, .ref 1003, .int m_taped, .int m_linkMany, .int m_tracerMany, .int m_pointMany, .int m_pairMany, .ref 1004, .ref 1005, .ref 1006, .ref 1007, .int m_readLinks, .int m_readTracers, .int m_readPoints, .int m_readPairs, .ref 1008, .ref 1009, .ref 1010, .ref 1011, .int m_textLong, .int m_at, .int m_spot, .int m_token, .int m_whole, .int m_readFault, .int m_readPlace, .int m_value, .long m_n, .long m_c, .long m_d, .long m_s, .long m_e, .long m_k, .long m_x, .long m_y, .long m_g, .long m_a, .ref 1012, .ref 1013, .ref 1014, .int m_curveMany, .ref 1015, .int m_cornerMany, .int m_straightAt, .ref 1016, .long m_fitUp, .long m_fitDown, .long m_worstUp, .long m_worstDown, .ref 1017, .int m_walkLink, .int (nI a), .int m_walkBranch, .int m_walkMany, .ref 1018, .ref 1019, .int m_lined, .ref 1020, .int m_actMany], ia 64 (ax_tab 0), ia 64 (ax_tab 1), z3, ia 16 q4, z5, z6, z7, z8, z9, z10, z11, z12, z13, z14, z15, z16, z17, z18, z19, z20]) (fun r w' => (∃ gm : Nat → Int64, (¬ m_walkLink = (-1)) ∧ r = some (.int (nI (0 + (goF (fun j => decide (0 < Ml_s q4 m_walkLink (nI j) ∧ 0 ≤ Ml_k q4 m_walkLink (nI j))) pv m a).1))) ∧ w' = (wc, [ob 9 [.int 0, .int 0, .int m_fault, .int (-1), .ref 1001, .ref 1002, .int 40, .ref 1003, .int m_taped, .int m_linkMany, .int m_tracerMany, .int m_pointMany, .int m_pairMany, .ref 1004, .ref 1005, .ref 1006, .ref 1007, .int m_readLinks, .int m_readTracers, .int m_readPoints, .int m_readPairs, .ref 1008, .ref 1009, .ref 1010, .ref 1011, .int m_textLong, .int m_at, .int m_spot, .int m_token, .int m_whole, .int m_readFault, .int m_readPlace, .int m_value, .long (gm 33), .long (gm 34), .long (gm 35), .long (gm 36), .long (gm 37), .long (gm 38), .long (gm 39), .long (gm 40), .long (gm 41), .long (gm 42), .ref 1012, .ref 1013, .ref 1014, .int m_curveMany, .ref 1015, .int m_cornerMany, .int m_straightAt, .ref 1016, .long m_fitUp, .long m_fitDown, .long m_worstUp, .long m_worstDown, .ref 1017, .int m_walkLink, .int (nI (goF (fun j => decide (0 < Ml_s q4 m_walkLink (nI j) ∧ 0 ≤ Ml_k q4 m_walkLink (nI j))) pv m a).2), .int m_walkBranch, .int (m_walkMany + (nI (0 + (goF (fun j => decide (0 < Ml_s q4 m_walkLink (nI j) ∧ 0 ≤ Ml_k q4 m_walkLink (nI j))) pv m a).1))), .ref 1018, .ref 1019, .int m_lined, .ref 1020, .int m_actMany], ia 64 (ax_tab 0), ia 64 (ax_tab 1), z3, ia 16 q4, z5, z6, z7, z8, z9, z10, z11, z12, z13, z14, z15, z16, z17, z18, z19, z20])) ∨ ((m_walkLink = (-1)) ∧ r = some (.int (-1)) ∧ w' = (wc, [ob 9 [.int 0, .int 5, .int m_fault, .int (-1), .ref 1001, .ref 1002, .int 40, .ref 1003, .int m_taped, .int m_linkMany, .int m_tracerMany, .int m_pointMany, .int m_pairMany, .ref 1004, .ref 1005, .ref 1006, .ref 1007, .int m_readLinks, .int m_readTracers, .int m_readPoints, .int m_readPairs, .ref 1008, .ref 1009, .ref 1010, .ref 1011, .int m_textLong, .int m_at, .int m_spot, .int m_token, .int m_whole, .int m_readFault, .int m_readPlace, .int m_value, .long m_n, .long m_c, .long m_d, .long m_s, .long m_e, .long m_k, .long m_x, .long m_y, .long m_g, .long m_a, .ref 1012, .ref 1013, .ref 1014, .int m_curveMany, .ref 1015, .int m_cornerMany, .int m_straightAt, .ref 1016, .long m_fitUp, .long m_fitDown, .long m_worstUp, .long m_worstDown, .ref 1017, .int m_walkLink, .int (nI a), .int m_walkBranch, .int m_walkMany, .ref 1018, .ref 1019, .int m_lined, .ref 1020, .int m_actMany], ia 64 (ax_tab 0), ia 64 (ax_tab 1), z3, ia 16 q4, z5, z6, z7, z8, z9, z10, z11, z12, z13, z14, z15, z16, z17, z18, z19, z20]))) := by
  have hin : (-100) ≤ -nI m ∧ -nI m ≤ 100 := ⟨neg_ge h_m, neg_le (c := 100) (by omega) (by decide)⟩
  refine ct_of ⟨by decide, rfl⟩ (Nat.le_of_ble_eq_true rfl) ?_
  refine ab_aload_n dX11_steps_0 rfl ?_
  refine ab_callV (As := []) (rest := []) dX11_steps_1 mv_X11_anew ml_X11_104 ⟨by decide, by decide, rfl, rfl, rfl⟩ (by decide) rfl rfl (Nat.le_of_ble_eq_true rfl) rfl c_X11_anew ?_
  rintro r w' ⟨rfl, rfl⟩
  refine ab_aload_n dX11_steps_4 rfl ?_
  refine ab_getf dX11_steps_5 fl_X11_85 rfl rfl ?_
  refine ab_iconst (v := -1) dX11_steps_8 (by decide) ?_
  refine ab_icmpne 18 dX11_steps_9 (by decide) (fun h_1 => ?_) (fun h_1 => ?_)
  · refine ab_iload_n dX11_steps_18 rfl ?_
    refine ab_bipush (v := -100) dX11_steps_19 (by decide) ?_
    refine ab_bipush (v := 100) dX11_steps_21 (by decide) ?_
    refine ab_callS (As := [.int (-(nI m)), .int (-100), .int 100]) (rest := []) dX11_steps_23 ms_X11_in ml_X11_107 ⟨by decide, by decide, rfl, rfl, rfl⟩ (by decide) rfl rfl (Nat.le_of_ble_eq_true rfl) c_X11_in ?_
    rintro r w' (⟨c_2, rfl, rfl⟩ | ⟨c_3, rfl, rfl⟩)
    · refine ab_ifne 35 dX11_steps_26 (by decide) (fun h_4 => ?_) (fun h_4 => absurd h_4 (by decide))
      refine ab_iconst (v := 0) dX11_steps_35 (by decide) ?_
      refine ab_istore_n (la' := [(2, .int 0), (0, .ref 1000), (1, .int (-(nI m)))]) dX11_steps_36 (by decide) rfl ?_
      refine ab_iload_n dX11_steps_37 rfl ?_
      refine ab_ifge 45 dX11_steps_38 (by decide) (fun h_5 => absurd h_5 (Int32.not_le.mpr (neg_lt h_0 (by omega)))) (fun h_5 => ?_)
      refine ab_iconst (v := -1) dX11_steps_41 (by decide) ?_
      refine ab_goto 46 dX11_steps_42 (by decide) ?_
      refine ab_istore_n (la' := [(3, .int (-1)), (2, .int 0), (0, .ref 1000), (1, .int (-(nI m)))]) dX11_steps_46 (by decide) rfl ?_
      refine ab_pick [1, 0, 3, 2] rfl ?_
      refine Ct.mono2 (lp_msteps1 (h_w h_1) h_l h_m m 0 a (fun i => [m_n, m_c, m_d, m_s, m_e, m_k, m_x, m_y, m_g, m_a].getD (i - 33) 0) (by omega) h_a) ?_
      rintro r w' ⟨gm, h1, h2⟩
      exact (Or.inl ⟨gm, h_1, h1, h2⟩)
    · exact absurd hin c_3
  · refine ab_aload_n dX11_steps_12 rfl ?_
    refine ab_iconst (v := 5) dX11_steps_13 (by decide) ?_
    refine ab_callV (As := [.int 5]) (rest := []) dX11_steps_14 mv_X11_no ml_X11_115 ⟨by decide, by decide, rfl, rfl, rfl⟩ (by decide) rfl rfl (Nat.le_of_ble_eq_true rfl) rfl c_X11_no ?_
    rintro r w' ⟨rfl, rfl⟩
    exact ab_iret dX11_steps_17 rfl (by decide) (Or.inr (⟨h_1, rfl, rfl⟩))
theorem c_X11_steps_o {wc : List ax_E} {m_thrown m_trouble m_fault m_where m_taped m_linkMany m_tracerMany m_pointMany m_pairMany m_readLinks m_readTracers m_readPoints m_readPairs m_textLong m_at m_spot m_token m_whole m_readFault m_readPlace m_value m_curveMany m_cornerMany m_straightAt m_walkLink m_walkAngle m_walkBranch m_walkMany m_lined m_actMany a1 : Int32} {m_n m_c m_d m_s m_e m_k m_x m_y m_g m_a m_fitUp m_fitDown m_worstUp m_worstDown : Int64} {z1 z2 z3 z4 z5 z6 z7 z8 z9 z10 z11 z12 z13 z14 z15 z16 z17 z18 z19 z20 : ax_E} (h_o : ¬ ((-100) ≤ a1 ∧ a1 ≤ 100)) : Ct M_X11_steps [.ref 1000, .int a1] (wc, [ob 9 [.int m_thrown, .int m_trouble, .int m_fault, .int m_where, .ref 1001, .ref 1002, .int 40, .ref 1003, .int m_taped, .int m_linkMany, .int m_tracerMany, .int m_pointMany, .int m_pairMany, .ref 1004, .ref 1005, .ref 1006, .ref 1007, .int m_readLinks, .int m_readTracers, .int m_readPoints, .int m_readPairs, .ref 1008, .ref 1009, .ref 1010, .ref 1011, .int m_textLong, .int m_at, .int m_spot, .int m_token, .int m_whole, .int m_readFault, .int m_readPlace, .int m_value, .long m_n, .long m_c, .long m_d, .long m_s, .long m_e, .long m_k, .long m_x, .long m_y, .long m_g, .long m_a, .ref 1012, .ref 1013, .ref 1014, .int m_curveMany, .ref 1015, .int m_cornerMany, .int m_straightAt, .ref 1016, .long m_fitUp, .long m_fitDown, .long m_worstUp, .long m_worstDown, .ref 1017, .int m_walkLink, .int m_walkAngle, .int m_walkBranch, .int m_walkMany, .ref 1018, .ref 1019, .int m_lined, .ref 1020, .int m_actMany], z1, z2, z3, z4, z5, z6, z7, z8, z9, z10, z11, z12, z13, z14, z15, z16, z17, z18, z19, z20]) (fun r w' => ((¬ m_walkLink = (-1)) ∧ r = some (.int (-1)) ∧ w' = (wc, [ob 9 [.int 0, .int 2, .int m_fault, .int (-1), .ref 1001, .ref 1002, .int 40, .ref 1003, .int m_taped, .int m_linkMany, .int m_tracerMany, .int m_pointMany, .int m_pairMany, .ref 1004, .ref 1005, .ref 1006, .ref 1007, .int m_readLinks, .int m_readTracers, .int m_readPoints, .int m_readPairs, .ref 1008, .ref 1009, .ref 1010, .ref 1011, .int m_textLong, .int m_at, .int m_spot, .int m_token, .int m_whole, .int m_readFault, .int m_readPlace, .int m_value, .long m_n, .long m_c, .long m_d, .long m_s, .long m_e, .long m_k, .long m_x, .long m_y, .long m_g, .long m_a, .ref 1012, .ref 1013, .ref 1014, .int m_curveMany, .ref 1015, .int m_cornerMany, .int m_straightAt, .ref 1016, .long m_fitUp, .long m_fitDown, .long m_worstUp, .long m_worstDown, .ref 1017, .int m_walkLink, .int m_walkAngle, .int m_walkBranch, .int m_walkMany, .ref 1018, .ref 1019, .int m_lined, .ref 1020, .int m_actMany], z1, z2, z3, z4, z5, z6, z7, z8, z9, z10, z11, z12, z13, z14, z15, z16, z17, z18, z19, z20])) ∨ ((m_walkLink = (-1)) ∧ r = some (.int (-1)) ∧ w' = (wc, [ob 9 [.int 0, .int 5, .int m_fault, .int (-1), .ref 1001, .ref 1002, .int 40, .ref 1003, .int m_taped, .int m_linkMany, .int m_tracerMany, .int m_pointMany, .int m_pairMany, .ref 1004, .ref 1005, .ref 1006, .ref 1007, .int m_readLinks, .int m_readTracers, .int m_readPoints, .int m_readPairs, .ref 1008, .ref 1009, .ref 1010, .ref 1011, .int m_textLong, .int m_at, .int m_spot, .int m_token, .int m_whole, .int m_readFault, .int m_readPlace, .int m_value, .long m_n, .long m_c, .long m_d, .long m_s, .long m_e, .long m_k, .long m_x, .long m_y, .long m_g, .long m_a, .ref 1012, .ref 1013, .ref 1014, .int m_curveMany, .ref 1015, .int m_cornerMany, .int m_straightAt, .ref 1016, .long m_fitUp, .long m_fitDown, .long m_worstUp, .long m_worstDown, .ref 1017, .int m_walkLink, .int m_walkAngle, .int m_walkBranch, .int m_walkMany, .ref 1018, .ref 1019, .int m_lined, .ref 1020, .int m_actMany], z1, z2, z3, z4, z5, z6, z7, z8, z9, z10, z11, z12, z13, z14, z15, z16, z17, z18, z19, z20]))) := by
  refine ct_of ⟨by decide, rfl⟩ (Nat.le_of_ble_eq_true rfl) ?_
  refine ab_aload_n dX11_steps_0 rfl ?_
  refine ab_callV (As := []) (rest := []) dX11_steps_1 mv_X11_anew ml_X11_104 ⟨by decide, by decide, rfl, rfl, rfl⟩ (by decide) rfl rfl (Nat.le_of_ble_eq_true rfl) rfl c_X11_anew ?_
  rintro r w' ⟨rfl, rfl⟩
  refine ab_aload_n dX11_steps_4 rfl ?_
  refine ab_getf dX11_steps_5 fl_X11_85 rfl rfl ?_
  refine ab_iconst (v := -1) dX11_steps_8 (by decide) ?_
  refine ab_icmpne 18 dX11_steps_9 (by decide) (fun h_1 => ?_) (fun h_1 => ?_)
  · refine ab_iload_n dX11_steps_18 rfl ?_
    refine ab_bipush (v := -100) dX11_steps_19 (by decide) ?_
    refine ab_bipush (v := 100) dX11_steps_21 (by decide) ?_
    refine ab_callS (As := [.int a1, .int (-100), .int 100]) (rest := []) dX11_steps_23 ms_X11_in ml_X11_107 ⟨by decide, by decide, rfl, rfl, rfl⟩ (by decide) rfl rfl (Nat.le_of_ble_eq_true rfl) c_X11_in ?_
    rintro r w' (⟨c_2, rfl, rfl⟩ | ⟨c_3, rfl, rfl⟩)
    · exact absurd c_2 h_o
    · refine ab_ifne 35 dX11_steps_26 (by decide) (fun h_4 => absurd (by decide) h_4) (fun h_4 => ?_)
      refine ab_aload_n dX11_steps_29 rfl ?_
      refine ab_iconst (v := 2) dX11_steps_30 (by decide) ?_
      refine ab_callV (As := [.int 2]) (rest := []) dX11_steps_31 mv_X11_no ml_X11_115 ⟨by decide, by decide, rfl, rfl, rfl⟩ (by decide) rfl rfl (Nat.le_of_ble_eq_true rfl) rfl c_X11_no ?_
      rintro r w' ⟨rfl, rfl⟩
      exact ab_iret dX11_steps_34 rfl (by decide) (Or.inl ⟨h_1, rfl, rfl⟩)
  · refine ab_aload_n dX11_steps_12 rfl ?_
    refine ab_iconst (v := 5) dX11_steps_13 (by decide) ?_
    refine ab_callV (As := [.int 5]) (rest := []) dX11_steps_14 mv_X11_no ml_X11_115 ⟨by decide, by decide, rfl, rfl, rfl⟩ (by decide) rfl rfl (Nat.le_of_ble_eq_true rfl) rfl c_X11_no ?_
    rintro r w' ⟨rfl, rfl⟩
    exact ab_iret dX11_steps_17 rfl (by decide) (Or.inr (⟨h_1, rfl, rfl⟩))
