theorem Ct.mono2 {Y : ax_M} {kn : Nat × Nat} {pc : Nat} {la : List (Nat × Value)} {st : List Value} {w : ax_W} {Q Q' : Option Value → ax_W → Prop} (h : Ab Y Q kn pc la st w) (hq : ∀ r w', Q r w' → Q' r w') : Ab Y Q' kn pc la st w :=
  fun p l e R s m args below meth c D ca ad A Qf H locs ls hC hP hl hE => h p l e R s m args below meth c D ca ad A Qf H locs ls hC hP hl (fun H locs ls k n ad' pc st r w hQ => hE H locs ls k n ad' pc st r w (hq r w hQ))
theorem lp_lawfuls {wc : List ax_E} {m_thrown m_trouble m_fault m_where m_taped m_linkMany m_tracerMany m_pointMany m_pairMany m_readLinks m_readTracers m_readPoints m_readPairs m_textLong m_at m_spot m_token m_whole m_readFault m_readPlace m_value m_curveMany m_cornerMany m_straightAt m_walkLink m_walkAngle m_walkBranch m_walkMany m_lined m_actMany a1 : Int32} {m_fitUp m_fitDown m_worstUp m_worstDown : Int64} {z3 z5 z6 z7 z8 z9 z10 z11 z12 z13 z14 z15 z16 z17 z18 z19 z20 : ax_E} {q4 : Nat → Int32} (h_i : 0 ≤ a1 ∧ a1 < m_linkMany) (h_l : 0 ≤ m_linkMany ∧ m_linkMany ≤ nI 4) : ∀ (n k : Nat) (gm : Nat → Int64), k + n = 40 →  Ab M_X11_lawfuls (fun r w' => ∃ gm : Nat → Int64, r = some (.int (nI (Cn (fun j => decide (0 < Ml_s q4 a1 (nI j) ∧ 0 ≤ Ml_k q4 a1 (nI j))) 40))) ∧ w' = (wc, [ob 9 [.int m_thrown, .int m_trouble, .int m_fault, .int m_where, .ref 1001, .ref 1002, .int 40, .ref 1003, .int m_taped, .int m_linkMany, .int m_tracerMany, .int m_pointMany, .int m_pairMany, .ref 1004, .ref 1005, .ref 1006, .ref 1007, .int m_readLinks, .int m_readTracers, .int m_readPoints, .int m_readPairs, .ref 1008, .ref 1009, .ref 1010, .ref 1011, .int m_textLong, .int m_at, .int m_spot, .int m_token, .int m_whole, .int m_readFault, .int m_readPlace, .int m_value, .long (gm 33), .long (gm 34), .long (gm 35), .long (gm 36), .long (gm 37), .long (gm 38), .long (gm 39), .long (gm 40), .long (gm 41), .long (gm 42), .ref 1012, .ref 1013, .ref 1014, .int m_curveMany, .ref 1015, .int m_cornerMany, .int m_straightAt, .ref 1016, .long m_fitUp, .long m_fitDown, .long m_worstUp, .long m_worstDown, .ref 1017, .int m_walkLink, .int m_walkAngle, .int m_walkBranch, .int m_walkMany, .ref 1018, .ref 1019, .int m_lined, .ref 1020, .int m_actMany], ia 64 (ax_tab 0), ia 64 (ax_tab 1), z3, ia 16 q4, z5, z6, z7, z8, z9, z10, z11, z12, z13, z14, z15, z16, z17, z18, z19, z20])) (0, 0) 22 [(3, .int (nI k)), (2, .int (nI (Cn (fun j => decide (0 < Ml_s q4 a1 (nI j) ∧ 0 ≤ Ml_k q4 a1 (nI j))) k))), (1, .int a1), (0, .ref 1000)] [] (wc, [ob 9 [.int m_thrown, .int m_trouble, .int m_fault, .int m_where, .ref 1001, .ref 1002, .int 40, .ref 1003, .int m_taped, .int m_linkMany, .int m_tracerMany, .int m_pointMany, .int m_pairMany, .ref 1004, .ref 1005, .ref 1006, .ref 1007, .int m_readLinks, .int m_readTracers, .int m_readPoints, .int m_readPairs, .ref 1008, .ref 1009, .ref 1010, .ref 1011, .int m_textLong, .int m_at, .int m_spot, .int m_token, .int m_whole, .int m_readFault, .int m_readPlace, .int m_value, .long (gm 33), .long (gm 34), .long (gm 35), .long (gm 36), .long (gm 37), .long (gm 38), .long (gm 39), .long (gm 40), .long (gm 41), .long (gm 42), .ref 1012, .ref 1013, .ref 1014, .int m_curveMany, .ref 1015, .int m_cornerMany, .int m_straightAt, .ref 1016, .long m_fitUp, .long m_fitDown, .long m_worstUp, .long m_worstDown, .ref 1017, .int m_walkLink, .int m_walkAngle, .int m_walkBranch, .int m_walkMany, .ref 1018, .ref 1019, .int m_lined, .ref 1020, .int m_actMany], ia 64 (ax_tab 0), ia 64 (ax_tab 1), z3, ia 16 q4, z5, z6, z7, z8, z9, z10, z11, z12, z13, z14, z15, z16, z17, z18, z19, z20]) := by
  intro n
  induction n with
  | zero =>
    intro k gm hk 
    refine ab_iload_n dX11_lawfuls_22 rfl ?_
    refine ab_aload_n dX11_lawfuls_23 rfl ?_
    refine ab_getf dX11_lawfuls_24 fl_X11_101 rfl rfl ?_
    refine ab_icmpge 53 dX11_lawfuls_27 (by decide) (fun h_1 => ?_) (fun h_1 => absurd (nI_le (a := 40) (by omega) (by omega)) h_1)
    refine ab_iload_n dX11_lawfuls_53 rfl ?_
    exact ab_iret dX11_lawfuls_54 rfl (by decide) ⟨gm, by rw [show k = 40 by omega], rfl⟩
  | succ n ih =>
    intro k gm hk 
    have hkk : 0 ≤ nI k ∧ nI k < 40 := ⟨nI_pos' (by omega), nI_lt (b := 40) (by omega) (by decide)⟩
    refine ab_iload_n dX11_lawfuls_22 rfl ?_
    refine ab_aload_n dX11_lawfuls_23 rfl ?_
    refine ab_getf dX11_lawfuls_24 fl_X11_101 rfl rfl ?_
    refine ab_icmpge 53 dX11_lawfuls_27 (by decide) (fun h_1 => absurd h_1 (nI_ge (b := 40) (by omega) (by decide))) (fun h_1 => ?_)
    refine ab_iload_n dX11_lawfuls_30 rfl ?_
    refine ab_aload_n dX11_lawfuls_31 rfl ?_
    refine ab_iload_n dX11_lawfuls_32 rfl ?_
    refine ab_iload_n dX11_lawfuls_33 rfl ?_
    refine ab_callV (As := [.int a1, .int (nI k)]) (rest := [.int (nI (Cn (fun j => decide (0 < Ml_s q4 a1 (nI j) ∧ 0 ≤ Ml_k q4 a1 (nI j))) k))]) dX11_lawfuls_34 mv_X11_isLawful ml_X11_318 ⟨by decide, by decide, rfl, rfl, rfl⟩ (by decide) rfl rfl (Nat.le_of_ble_eq_true rfl) rfl (c_X11_isLawful h_i h_l hkk) ?_
    rintro r w' (⟨c_2, rfl, rfl⟩ | ⟨c_3, rfl, rfl⟩)
    · refine ab_ifeq 44 dX11_lawfuls_37 (by decide) (fun h_4 => absurd h_4 (by decide)) (fun h_4 => ?_)
      refine ab_iconst (v := 1) dX11_lawfuls_40 (by decide) ?_
      refine ab_goto 45 dX11_lawfuls_41 (by decide) ?_
      refine ab_iadd dX11_lawfuls_45 ?_
      refine ab_topi (v := (nI ((Cn (fun j => decide (0 < Ml_s q4 a1 (nI j) ∧ 0 ≤ Ml_k q4 a1 (nI j))) k) + 1))) (nI_1 _) ?_
      refine ab_istore_n (la' := [(2, .int (nI ((Cn (fun j => decide (0 < Ml_s q4 a1 (nI j) ∧ 0 ≤ Ml_k q4 a1 (nI j))) k) + 1))), (3, .int (nI k)), (1, .int a1), (0, .ref 1000)]) dX11_lawfuls_46 (by decide) rfl ?_
      refine ab_iinc (v := (nI (k + 1))) (la' := [(3, .int (nI (k + 1))), (2, .int (nI ((Cn (fun j => decide (0 < Ml_s q4 a1 (nI j) ∧ 0 ≤ Ml_k q4 a1 (nI j))) k) + 1))), (1, .int a1), (0, .ref 1000)]) dX11_lawfuls_47 rfl (nI_1 _) (by decide) rfl ?_
      refine ab_goto 22 dX11_lawfuls_50 (by decide) ?_
      refine ab_pick [0, 1, 2, 3] rfl ?_
      have e1 := (cn_t (p := (fun j => decide (0 < Ml_s q4 a1 (nI j) ∧ 0 ≤ Ml_k q4 a1 (nI j)))) (k := k) (decide_eq_true c_2))
      rw [← e1]
      exact ih (k + 1) (fun i => [(Ml_n (nI k)), (Ml_c (nI k)), (Ml_d (nI k)), (Ml_s q4 a1 (nI k)), (Ml_e q4 a1 (nI k)), (Ml_k q4 a1 (nI k)), (Ml_x q4 a1 (nI k)), (Ml_y q4 a1 (nI k)), (Int32.toInt64 (Bg q4 a1)), (Int32.toInt64 (Ba q4 a1))].getD (i - 33) 0) (by omega)
    · refine ab_ifeq 44 dX11_lawfuls_37 (by decide) (fun h_5 => ?_) (fun h_5 => absurd (by decide) h_5)
      refine ab_iconst (v := 0) dX11_lawfuls_44 (by decide) ?_
      refine ab_iadd dX11_lawfuls_45 ?_
      refine ab_topi (v := (nI (Cn (fun j => decide (0 < Ml_s q4 a1 (nI j) ∧ 0 ≤ Ml_k q4 a1 (nI j))) k))) (Int32.add_zero _) ?_
      refine ab_istore_n (la' := [(2, .int (nI (Cn (fun j => decide (0 < Ml_s q4 a1 (nI j) ∧ 0 ≤ Ml_k q4 a1 (nI j))) k))), (3, .int (nI k)), (1, .int a1), (0, .ref 1000)]) dX11_lawfuls_46 (by decide) rfl ?_
      refine ab_iinc (v := (nI (k + 1))) (la' := [(3, .int (nI (k + 1))), (2, .int (nI (Cn (fun j => decide (0 < Ml_s q4 a1 (nI j) ∧ 0 ≤ Ml_k q4 a1 (nI j))) k))), (1, .int a1), (0, .ref 1000)]) dX11_lawfuls_47 rfl (nI_1 _) (by decide) rfl ?_
      refine ab_goto 22 dX11_lawfuls_50 (by decide) ?_
      refine ab_pick [0, 1, 2, 3] rfl ?_
      have e1 := (cn_f (p := (fun j => decide (0 < Ml_s q4 a1 (nI j) ∧ 0 ≤ Ml_k q4 a1 (nI j)))) (k := k) (by simp only [decide_eq_true_eq]; exact c_3))
      rw [← e1]
      exact ih (k + 1) (fun i => [(Ml_n (nI k)), (Ml_c (nI k)), (Ml_d (nI k)), (Ml_s q4 a1 (nI k)), (Ml_e q4 a1 (nI k)), (Ml_k q4 a1 (nI k)), (Ml_x q4 a1 (nI k)), (Ml_y q4 a1 (nI k)), (Int32.toInt64 (Bg q4 a1)), (Int32.toInt64 (Ba q4 a1))].getD (i - 33) 0) (by omega)
theorem c_X11_lawfuls {wc : List ax_E} {m_thrown m_trouble m_fault m_where m_taped m_linkMany m_tracerMany m_pointMany m_pairMany m_readLinks m_readTracers m_readPoints m_readPairs m_textLong m_at m_spot m_token m_whole m_readFault m_readPlace m_value m_curveMany m_cornerMany m_straightAt m_walkLink m_walkAngle m_walkBranch m_walkMany m_lined m_actMany a1 : Int32} {m_n m_c m_d m_s m_e m_k m_x m_y m_g m_a m_fitUp m_fitDown m_worstUp m_worstDown : Int64} {z3 z5 z6 z7 z8 z9 z10 z11 z12 z13 z14 z15 z16 z17 z18 z19 z20 : ax_E} {q4 : Nat → Int32} (h_l : 0 ≤ m_linkMany ∧ m_linkMany ≤ nI 4) : Ct M_X11_lawfuls [.ref 1000, .int a1] (wc, [ob 9 [.int m_thrown, .int m_trouble, .int m_fault, .int m_where, .ref 1001, .ref 1002, .int 40, .ref 1003, .int m_taped, .int m_linkMany, .int m_tracerMany, .int m_pointMany, .int m_pairMany, .ref 1004, .ref 1005, .ref 1006, .ref 1007, .int m_readLinks, .int m_readTracers, .int m_readPoints, .int m_readPairs, .ref 1008, .ref 1009, .ref 1010, .ref 1011, .int m_textLong, .int m_at, .int m_spot, .int m_token, .int m_whole, .int m_readFault, .int m_readPlace, .int m_value, .long m_n, .long m_c, .long m_d, .long m_s, .long m_e, .long m_k, .long m_x, .long m_y, .long m_g, .long m_a, .ref 1012, .ref 1013, .ref 1014, .int m_curveMany, .ref 1015, .int m_cornerMany, .int m_straightAt, .ref 1016, .long m_fitUp, .long m_fitDown, .long m_worstUp, .long m_worstDown, .ref 1017, .int m_walkLink, .int m_walkAngle, .int m_walkBranch, .int m_walkMany, .ref 1018, .ref 1019, .int m_lined, .ref 1020, .int m_actMany], ia 64 (ax_tab 0), ia 64 (ax_tab 1), z3, ia 16 q4, z5, z6, z7, z8, z9, z10, z11, z12, z13, z14, z15, z16, z17, z18, z19, z20]) (fun r w' => (∃ gm : Nat → Int64, (0 ≤ a1 ∧ a1 < m_linkMany) ∧ r = some (.int (nI (Cn (fun j => decide (0 < Ml_s q4 a1 (nI j) ∧ 0 ≤ Ml_k q4 a1 (nI j))) 40))) ∧ w' = (wc, [ob 9 [.int 0, .int 0, .int m_fault, .int (-1), .ref 1001, .ref 1002, .int 40, .ref 1003, .int m_taped, .int m_linkMany, .int m_tracerMany, .int m_pointMany, .int m_pairMany, .ref 1004, .ref 1005, .ref 1006, .ref 1007, .int m_readLinks, .int m_readTracers, .int m_readPoints, .int m_readPairs, .ref 1008, .ref 1009, .ref 1010, .ref 1011, .int m_textLong, .int m_at, .int m_spot, .int m_token, .int m_whole, .int m_readFault, .int m_readPlace, .int m_value, .long (gm 33), .long (gm 34), .long (gm 35), .long (gm 36), .long (gm 37), .long (gm 38), .long (gm 39), .long (gm 40), .long (gm 41), .long (gm 42), .ref 1012, .ref 1013, .ref 1014, .int m_curveMany, .ref 1015, .int m_cornerMany, .int m_straightAt, .ref 1016, .long m_fitUp, .long m_fitDown, .long m_worstUp, .long m_worstDown, .ref 1017, .int m_walkLink, .int m_walkAngle, .int m_walkBranch, .int m_walkMany, .ref 1018, .ref 1019, .int m_lined, .ref 1020, .int m_actMany], ia 64 (ax_tab 0), ia 64 (ax_tab 1), z3, ia 16 q4, z5, z6, z7, z8, z9, z10, z11, z12, z13, z14, z15, z16, z17, z18, z19, z20])) ∨ ((¬ (0 ≤ a1 ∧ a1 < m_linkMany)) ∧ r = some (.int (-1)) ∧ w' = (wc, [ob 9 [.int 0, .int 1, .int m_fault, .int (-1), .ref 1001, .ref 1002, .int 40, .ref 1003, .int m_taped, .int m_linkMany, .int m_tracerMany, .int m_pointMany, .int m_pairMany, .ref 1004, .ref 1005, .ref 1006, .ref 1007, .int m_readLinks, .int m_readTracers, .int m_readPoints, .int m_readPairs, .ref 1008, .ref 1009, .ref 1010, .ref 1011, .int m_textLong, .int m_at, .int m_spot, .int m_token, .int m_whole, .int m_readFault, .int m_readPlace, .int m_value, .long m_n, .long m_c, .long m_d, .long m_s, .long m_e, .long m_k, .long m_x, .long m_y, .long m_g, .long m_a, .ref 1012, .ref 1013, .ref 1014, .int m_curveMany, .ref 1015, .int m_cornerMany, .int m_straightAt, .ref 1016, .long m_fitUp, .long m_fitDown, .long m_worstUp, .long m_worstDown, .ref 1017, .int m_walkLink, .int m_walkAngle, .int m_walkBranch, .int m_walkMany, .ref 1018, .ref 1019, .int m_lined, .ref 1020, .int m_actMany], ia 64 (ax_tab 0), ia 64 (ax_tab 1), z3, ia 16 q4, z5, z6, z7, z8, z9, z10, z11, z12, z13, z14, z15, z16, z17, z18, z19, z20]))) := by
  refine ct_of ⟨by decide, rfl⟩ (Nat.le_of_ble_eq_true rfl) ?_
  refine ab_aload_n dX11_lawfuls_0 rfl ?_
  refine ab_callV (As := []) (rest := []) dX11_lawfuls_1 mv_X11_anew ml_X11_104 ⟨by decide, by decide, rfl, rfl, rfl⟩ (by decide) rfl rfl (Nat.le_of_ble_eq_true rfl) rfl c_X11_anew ?_
  rintro r w' ⟨rfl, rfl⟩
  refine ab_aload_n dX11_lawfuls_4 rfl ?_
  refine ab_iload_n dX11_lawfuls_5 rfl ?_
  refine ab_callV (As := [.int a1]) (rest := []) dX11_lawfuls_6 mv_X11_isLink ml_X11_265 ⟨by decide, by decide, rfl, rfl, rfl⟩ (by decide) rfl rfl (Nat.le_of_ble_eq_true rfl) rfl (c_X11_isLink h_l) ?_
  rintro r w' (⟨c_1, rfl, rfl⟩ | ⟨c_2, rfl, rfl⟩)
  · refine ab_ifne 18 dX11_lawfuls_9 (by decide) (fun h_3 => ?_) (fun h_3 => absurd h_3 (by decide))
    refine ab_iconst (v := 0) dX11_lawfuls_18 (by decide) ?_
    refine ab_istore_n (la' := [(2, .int 0), (0, .ref 1000), (1, .int a1)]) dX11_lawfuls_19 (by decide) rfl ?_
    refine ab_iconst (v := 0) dX11_lawfuls_20 (by decide) ?_
    refine ab_istore_n (la' := [(3, .int 0), (2, .int 0), (0, .ref 1000), (1, .int a1)]) dX11_lawfuls_21 (by decide) rfl ?_
    refine ab_pick [0, 1, 3, 2] rfl ?_
    refine Ct.mono2 (lp_lawfuls c_1 h_l 40 0 (fun i => [m_n, m_c, m_d, m_s, m_e, m_k, m_x, m_y, m_g, m_a].getD (i - 33) 0) (by omega)) ?_
    rintro r w' ⟨gm, h1, h2⟩
    exact Or.inl ⟨gm, c_1, h1, h2⟩
  · refine ab_ifne 18 dX11_lawfuls_9 (by decide) (fun h_4 => absurd (by decide) h_4) (fun h_4 => ?_)
    refine ab_aload_n dX11_lawfuls_12 rfl ?_
    refine ab_iconst (v := 1) dX11_lawfuls_13 (by decide) ?_
    refine ab_callV (As := [.int 1]) (rest := []) dX11_lawfuls_14 mv_X11_no ml_X11_115 ⟨by decide, by decide, rfl, rfl, rfl⟩ (by decide) rfl rfl (Nat.le_of_ble_eq_true rfl) rfl c_X11_no ?_
    rintro r w' ⟨rfl, rfl⟩
    exact ab_iret dX11_lawfuls_17 rfl (by decide) (Or.inr ⟨c_2, rfl, rfl⟩)
theorem lp_deads {wc : List ax_E} {m_thrown m_trouble m_fault m_where m_taped m_linkMany m_tracerMany m_pointMany m_pairMany m_readLinks m_readTracers m_readPoints m_readPairs m_textLong m_at m_spot m_token m_whole m_readFault m_readPlace m_value m_curveMany m_cornerMany m_straightAt m_walkLink m_walkAngle m_walkBranch m_walkMany m_lined m_actMany a1 : Int32} {m_fitUp m_fitDown m_worstUp m_worstDown : Int64} {z3 z5 z6 z7 z8 z9 z10 z11 z12 z13 z14 z15 z16 z17 z18 z19 z20 : ax_E} {q4 : Nat → Int32} (h_i : 0 ≤ a1 ∧ a1 < m_linkMany) (h_l : 0 ≤ m_linkMany ∧ m_linkMany ≤ nI 4) : ∀ (n k : Nat) (gm : Nat → Int64), k + n = 40 →  Ab M_X11_deads (fun r w' => ∃ gm : Nat → Int64, r = some (.int (nI (Cn (fun j => decide ((0 < Ml_s q4 a1 (nI j) ∧ 0 ≤ Ml_k q4 a1 (nI j)) ∧ Ml_k q4 a1 (nI j) = 0)) 40))) ∧ w' = (wc, [ob 9 [.int m_thrown, .int m_trouble, .int m_fault, .int m_where, .ref 1001, .ref 1002, .int 40, .ref 1003, .int m_taped, .int m_linkMany, .int m_tracerMany, .int m_pointMany, .int m_pairMany, .ref 1004, .ref 1005, .ref 1006, .ref 1007, .int m_readLinks, .int m_readTracers, .int m_readPoints, .int m_readPairs, .ref 1008, .ref 1009, .ref 1010, .ref 1011, .int m_textLong, .int m_at, .int m_spot, .int m_token, .int m_whole, .int m_readFault, .int m_readPlace, .int m_value, .long (gm 33), .long (gm 34), .long (gm 35), .long (gm 36), .long (gm 37), .long (gm 38), .long (gm 39), .long (gm 40), .long (gm 41), .long (gm 42), .ref 1012, .ref 1013, .ref 1014, .int m_curveMany, .ref 1015, .int m_cornerMany, .int m_straightAt, .ref 1016, .long m_fitUp, .long m_fitDown, .long m_worstUp, .long m_worstDown, .ref 1017, .int m_walkLink, .int m_walkAngle, .int m_walkBranch, .int m_walkMany, .ref 1018, .ref 1019, .int m_lined, .ref 1020, .int m_actMany], ia 64 (ax_tab 0), ia 64 (ax_tab 1), z3, ia 16 q4, z5, z6, z7, z8, z9, z10, z11, z12, z13, z14, z15, z16, z17, z18, z19, z20])) (0, 0) 22 [(3, .int (nI k)), (2, .int (nI (Cn (fun j => decide ((0 < Ml_s q4 a1 (nI j) ∧ 0 ≤ Ml_k q4 a1 (nI j)) ∧ Ml_k q4 a1 (nI j) = 0)) k))), (1, .int a1), (0, .ref 1000)] [] (wc, [ob 9 [.int m_thrown, .int m_trouble, .int m_fault, .int m_where, .ref 1001, .ref 1002, .int 40, .ref 1003, .int m_taped, .int m_linkMany, .int m_tracerMany, .int m_pointMany, .int m_pairMany, .ref 1004, .ref 1005, .ref 1006, .ref 1007, .int m_readLinks, .int m_readTracers, .int m_readPoints, .int m_readPairs, .ref 1008, .ref 1009, .ref 1010, .ref 1011, .int m_textLong, .int m_at, .int m_spot, .int m_token, .int m_whole, .int m_readFault, .int m_readPlace, .int m_value, .long (gm 33), .long (gm 34), .long (gm 35), .long (gm 36), .long (gm 37), .long (gm 38), .long (gm 39), .long (gm 40), .long (gm 41), .long (gm 42), .ref 1012, .ref 1013, .ref 1014, .int m_curveMany, .ref 1015, .int m_cornerMany, .int m_straightAt, .ref 1016, .long m_fitUp, .long m_fitDown, .long m_worstUp, .long m_worstDown, .ref 1017, .int m_walkLink, .int m_walkAngle, .int m_walkBranch, .int m_walkMany, .ref 1018, .ref 1019, .int m_lined, .ref 1020, .int m_actMany], ia 64 (ax_tab 0), ia 64 (ax_tab 1), z3, ia 16 q4, z5, z6, z7, z8, z9, z10, z11, z12, z13, z14, z15, z16, z17, z18, z19, z20]) := by
  intro n
  induction n with
  | zero =>
    intro k gm hk 
    refine ab_iload_n dX11_deads_22 rfl ?_
    refine ab_aload_n dX11_deads_23 rfl ?_
    refine ab_getf dX11_deads_24 fl_X11_101 rfl rfl ?_
    refine ab_icmpge 62 dX11_deads_27 (by decide) (fun h_1 => ?_) (fun h_1 => absurd (nI_le (a := 40) (by omega) (by omega)) h_1)
    refine ab_iload_n dX11_deads_62 rfl ?_
    exact ab_iret dX11_deads_63 rfl (by decide) ⟨gm, by rw [show k = 40 by omega], rfl⟩
  | succ n ih =>
    intro k gm hk 
    have hkk : 0 ≤ nI k ∧ nI k < 40 := ⟨nI_pos' (by omega), nI_lt (b := 40) (by omega) (by decide)⟩
    refine ab_iload_n dX11_deads_22 rfl ?_
    refine ab_aload_n dX11_deads_23 rfl ?_
    refine ab_getf dX11_deads_24 fl_X11_101 rfl rfl ?_
    refine ab_icmpge 62 dX11_deads_27 (by decide) (fun h_1 => absurd h_1 (nI_ge (b := 40) (by omega) (by decide))) (fun h_1 => ?_)
    refine ab_iload_n dX11_deads_30 rfl ?_
    refine ab_aload_n dX11_deads_31 rfl ?_
    refine ab_iload_n dX11_deads_32 rfl ?_
    refine ab_iload_n dX11_deads_33 rfl ?_
    refine ab_callV (As := [.int a1, .int (nI k)]) (rest := [.int (nI (Cn (fun j => decide ((0 < Ml_s q4 a1 (nI j) ∧ 0 ≤ Ml_k q4 a1 (nI j)) ∧ Ml_k q4 a1 (nI j) = 0)) k))]) dX11_deads_34 mv_X11_isLawful ml_X11_318 ⟨by decide, by decide, rfl, rfl, rfl⟩ (by decide) rfl rfl (Nat.le_of_ble_eq_true rfl) rfl (c_X11_isLawful h_i h_l hkk) ?_
    rintro r w' (⟨c_2, rfl, rfl⟩ | ⟨c_3, rfl, rfl⟩)
    · refine ab_ifeq 53 dX11_deads_37 (by decide) (fun h_4 => absurd h_4 (by decide)) (fun h_4 => ?_)
      refine ab_aload_n dX11_deads_40 rfl ?_
      refine ab_getf dX11_deads_41 fl_X11_321 rfl rfl ?_
      refine ab_lconst (v := 0) dX11_deads_44 (by decide) ?_
      refine ab_lcmpne 53 dX11_deads_45 dX11_deads_46 (by decide) (fun h_5 => ?_) (fun h_5 => ?_)
      · refine ab_iconst (v := 0) dX11_deads_53 (by decide) ?_
        refine ab_iadd dX11_deads_54 ?_
        refine ab_topi (v := (nI (Cn (fun j => decide ((0 < Ml_s q4 a1 (nI j) ∧ 0 ≤ Ml_k q4 a1 (nI j)) ∧ Ml_k q4 a1 (nI j) = 0)) k))) (Int32.add_zero _) ?_
        refine ab_istore_n (la' := [(2, .int (nI (Cn (fun j => decide ((0 < Ml_s q4 a1 (nI j) ∧ 0 ≤ Ml_k q4 a1 (nI j)) ∧ Ml_k q4 a1 (nI j) = 0)) k))), (3, .int (nI k)), (1, .int a1), (0, .ref 1000)]) dX11_deads_55 (by decide) rfl ?_
        refine ab_iinc (v := (nI (k + 1))) (la' := [(3, .int (nI (k + 1))), (2, .int (nI (Cn (fun j => decide ((0 < Ml_s q4 a1 (nI j) ∧ 0 ≤ Ml_k q4 a1 (nI j)) ∧ Ml_k q4 a1 (nI j) = 0)) k))), (1, .int a1), (0, .ref 1000)]) dX11_deads_56 rfl (nI_1 _) (by decide) rfl ?_
        refine ab_goto 22 dX11_deads_59 (by decide) ?_
        refine ab_pick [0, 1, 2, 3] rfl ?_
        have e1 := (cn_f (p := (fun j => decide ((0 < Ml_s q4 a1 (nI j) ∧ 0 ≤ Ml_k q4 a1 (nI j)) ∧ Ml_k q4 a1 (nI j) = 0))) (k := k) (by simp only [decide_eq_true_eq]; exact fun z => h_5 z.2))
        rw [← e1]
        exact ih (k + 1) (fun i => [(Ml_n (nI k)), (Ml_c (nI k)), (Ml_d (nI k)), (Ml_s q4 a1 (nI k)), (Ml_e q4 a1 (nI k)), (Ml_k q4 a1 (nI k)), (Ml_x q4 a1 (nI k)), (Ml_y q4 a1 (nI k)), (Int32.toInt64 (Bg q4 a1)), (Int32.toInt64 (Ba q4 a1))].getD (i - 33) 0) (by omega)
      · refine ab_iconst (v := 1) dX11_deads_49 (by decide) ?_
        refine ab_goto 54 dX11_deads_50 (by decide) ?_
        refine ab_iadd dX11_deads_54 ?_
        refine ab_topi (v := (nI ((Cn (fun j => decide ((0 < Ml_s q4 a1 (nI j) ∧ 0 ≤ Ml_k q4 a1 (nI j)) ∧ Ml_k q4 a1 (nI j) = 0)) k) + 1))) (nI_1 _) ?_
        refine ab_istore_n (la' := [(2, .int (nI ((Cn (fun j => decide ((0 < Ml_s q4 a1 (nI j) ∧ 0 ≤ Ml_k q4 a1 (nI j)) ∧ Ml_k q4 a1 (nI j) = 0)) k) + 1))), (3, .int (nI k)), (1, .int a1), (0, .ref 1000)]) dX11_deads_55 (by decide) rfl ?_
        refine ab_iinc (v := (nI (k + 1))) (la' := [(3, .int (nI (k + 1))), (2, .int (nI ((Cn (fun j => decide ((0 < Ml_s q4 a1 (nI j) ∧ 0 ≤ Ml_k q4 a1 (nI j)) ∧ Ml_k q4 a1 (nI j) = 0)) k) + 1))), (1, .int a1), (0, .ref 1000)]) dX11_deads_56 rfl (nI_1 _) (by decide) rfl ?_
        refine ab_goto 22 dX11_deads_59 (by decide) ?_
        refine ab_pick [0, 1, 2, 3] rfl ?_
        have e1 := (cn_t (p := (fun j => decide ((0 < Ml_s q4 a1 (nI j) ∧ 0 ≤ Ml_k q4 a1 (nI j)) ∧ Ml_k q4 a1 (nI j) = 0))) (k := k) (decide_eq_true ⟨c_2, h_5⟩))
        rw [← e1]
        exact ih (k + 1) (fun i => [(Ml_n (nI k)), (Ml_c (nI k)), (Ml_d (nI k)), (Ml_s q4 a1 (nI k)), (Ml_e q4 a1 (nI k)), (Ml_k q4 a1 (nI k)), (Ml_x q4 a1 (nI k)), (Ml_y q4 a1 (nI k)), (Int32.toInt64 (Bg q4 a1)), (Int32.toInt64 (Ba q4 a1))].getD (i - 33) 0) (by omega)
    · refine ab_ifeq 53 dX11_deads_37 (by decide) (fun h_6 => ?_) (fun h_6 => absurd (by decide) h_6)
      refine ab_iconst (v := 0) dX11_deads_53 (by decide) ?_
      refine ab_iadd dX11_deads_54 ?_
      refine ab_topi (v := (nI (Cn (fun j => decide ((0 < Ml_s q4 a1 (nI j) ∧ 0 ≤ Ml_k q4 a1 (nI j)) ∧ Ml_k q4 a1 (nI j) = 0)) k))) (Int32.add_zero _) ?_
      refine ab_istore_n (la' := [(2, .int (nI (Cn (fun j => decide ((0 < Ml_s q4 a1 (nI j) ∧ 0 ≤ Ml_k q4 a1 (nI j)) ∧ Ml_k q4 a1 (nI j) = 0)) k))), (3, .int (nI k)), (1, .int a1), (0, .ref 1000)]) dX11_deads_55 (by decide) rfl ?_
      refine ab_iinc (v := (nI (k + 1))) (la' := [(3, .int (nI (k + 1))), (2, .int (nI (Cn (fun j => decide ((0 < Ml_s q4 a1 (nI j) ∧ 0 ≤ Ml_k q4 a1 (nI j)) ∧ Ml_k q4 a1 (nI j) = 0)) k))), (1, .int a1), (0, .ref 1000)]) dX11_deads_56 rfl (nI_1 _) (by decide) rfl ?_
      refine ab_goto 22 dX11_deads_59 (by decide) ?_
      refine ab_pick [0, 1, 2, 3] rfl ?_
      have e1 := (cn_f (p := (fun j => decide ((0 < Ml_s q4 a1 (nI j) ∧ 0 ≤ Ml_k q4 a1 (nI j)) ∧ Ml_k q4 a1 (nI j) = 0))) (k := k) (by simp only [decide_eq_true_eq]; exact fun z => c_3 z.1))
      rw [← e1]
      exact ih (k + 1) (fun i => [(Ml_n (nI k)), (Ml_c (nI k)), (Ml_d (nI k)), (Ml_s q4 a1 (nI k)), (Ml_e q4 a1 (nI k)), (Ml_k q4 a1 (nI k)), (Ml_x q4 a1 (nI k)), (Ml_y q4 a1 (nI k)), (Int32.toInt64 (Bg q4 a1)), (Int32.toInt64 (Ba q4 a1))].getD (i - 33) 0) (by omega)
theorem c_X11_deads {wc : List ax_E} {m_thrown m_trouble m_fault m_where m_taped m_linkMany m_tracerMany m_pointMany m_pairMany m_readLinks m_readTracers m_readPoints m_readPairs m_textLong m_at m_spot m_token m_whole m_readFault m_readPlace m_value m_curveMany m_cornerMany m_straightAt m_walkLink m_walkAngle m_walkBranch m_walkMany m_lined m_actMany a1 : Int32} {m_n m_c m_d m_s m_e m_k m_x m_y m_g m_a m_fitUp m_fitDown m_worstUp m_worstDown : Int64} {z3 z5 z6 z7 z8 z9 z10 z11 z12 z13 z14 z15 z16 z17 z18 z19 z20 : ax_E} {q4 : Nat → Int32} (h_l : 0 ≤ m_linkMany ∧ m_linkMany ≤ nI 4) : Ct M_X11_deads [.ref 1000, .int a1] (wc, [ob 9 [.int m_thrown, .int m_trouble, .int m_fault, .int m_where, .ref 1001, .ref 1002, .int 40, .ref 1003, .int m_taped, .int m_linkMany, .int m_tracerMany, .int m_pointMany, .int m_pairMany, .ref 1004, .ref 1005, .ref 1006, .ref 1007, .int m_readLinks, .int m_readTracers, .int m_readPoints, .int m_readPairs, .ref 1008, .ref 1009, .ref 1010, .ref 1011, .int m_textLong, .int m_at, .int m_spot, .int m_token, .int m_whole, .int m_readFault, .int m_readPlace, .int m_value, .long m_n, .long m_c, .long m_d, .long m_s, .long m_e, .long m_k, .long m_x, .long m_y, .long m_g, .long m_a, .ref 1012, .ref 1013, .ref 1014, .int m_curveMany, .ref 1015, .int m_cornerMany, .int m_straightAt, .ref 1016, .long m_fitUp, .long m_fitDown, .long m_worstUp, .long m_worstDown, .ref 1017, .int m_walkLink, .int m_walkAngle, .int m_walkBranch, .int m_walkMany, .ref 1018, .ref 1019, .int m_lined, .ref 1020, .int m_actMany], ia 64 (ax_tab 0), ia 64 (ax_tab 1), z3, ia 16 q4, z5, z6, z7, z8, z9, z10, z11, z12, z13, z14, z15, z16, z17, z18, z19, z20]) (fun r w' => (∃ gm : Nat → Int64, (0 ≤ a1 ∧ a1 < m_linkMany) ∧ r = some (.int (nI (Cn (fun j => decide ((0 < Ml_s q4 a1 (nI j) ∧ 0 ≤ Ml_k q4 a1 (nI j)) ∧ Ml_k q4 a1 (nI j) = 0)) 40))) ∧ w' = (wc, [ob 9 [.int 0, .int 0, .int m_fault, .int (-1), .ref 1001, .ref 1002, .int 40, .ref 1003, .int m_taped, .int m_linkMany, .int m_tracerMany, .int m_pointMany, .int m_pairMany, .ref 1004, .ref 1005, .ref 1006, .ref 1007, .int m_readLinks, .int m_readTracers, .int m_readPoints, .int m_readPairs, .ref 1008, .ref 1009, .ref 1010, .ref 1011, .int m_textLong, .int m_at, .int m_spot, .int m_token, .int m_whole, .int m_readFault, .int m_readPlace, .int m_value, .long (gm 33), .long (gm 34), .long (gm 35), .long (gm 36), .long (gm 37), .long (gm 38), .long (gm 39), .long (gm 40), .long (gm 41), .long (gm 42), .ref 1012, .ref 1013, .ref 1014, .int m_curveMany, .ref 1015, .int m_cornerMany, .int m_straightAt, .ref 1016, .long m_fitUp, .long m_fitDown, .long m_worstUp, .long m_worstDown, .ref 1017, .int m_walkLink, .int m_walkAngle, .int m_walkBranch, .int m_walkMany, .ref 1018, .ref 1019, .int m_lined, .ref 1020, .int m_actMany], ia 64 (ax_tab 0), ia 64 (ax_tab 1), z3, ia 16 q4, z5, z6, z7, z8, z9, z10, z11, z12, z13, z14, z15, z16, z17, z18, z19, z20])) ∨ ((¬ (0 ≤ a1 ∧ a1 < m_linkMany)) ∧ r = some (.int (-1)) ∧ w' = (wc, [ob 9 [.int 0, .int 1, .int m_fault, .int (-1), .ref 1001, .ref 1002, .int 40, .ref 1003, .int m_taped, .int m_linkMany, .int m_tracerMany, .int m_pointMany, .int m_pairMany, .ref 1004, .ref 1005, .ref 1006, .ref 1007, .int m_readLinks, .int m_readTracers, .int m_readPoints, .int m_readPairs, .ref 1008, .ref 1009, .ref 1010, .ref 1011, .int m_textLong, .int m_at, .int m_spot, .int m_token, .int m_whole, .int m_readFault, .int m_readPlace, .int m_value, .long m_n, .long m_c, .long m_d, .long m_s, .long m_e, .long m_k, .long m_x, .long m_y, .long m_g, .long m_a, .ref 1012, .ref 1013, .ref 1014, .int m_curveMany, .ref 1015, .int m_cornerMany, .int m_straightAt, .ref 1016, .long m_fitUp, .long m_fitDown, .long m_worstUp, .long m_worstDown, .ref 1017, .int m_walkLink, .int m_walkAngle, .int m_walkBranch, .int m_walkMany, .ref 1018, .ref 1019, .int m_lined, .ref 1020, .int m_actMany], ia 64 (ax_tab 0), ia 64 (ax_tab 1), z3, ia 16 q4, z5, z6, z7, z8, z9, z10, z11, z12, z13, z14, z15, z16, z17, z18, z19, z20]))) := by
  refine ct_of ⟨by decide, rfl⟩ (Nat.le_of_ble_eq_true rfl) ?_
  refine ab_aload_n dX11_deads_0 rfl ?_
  refine ab_callV (As := []) (rest := []) dX11_deads_1 mv_X11_anew ml_X11_104 ⟨by decide, by decide, rfl, rfl, rfl⟩ (by decide) rfl rfl (Nat.le_of_ble_eq_true rfl) rfl c_X11_anew ?_
  rintro r w' ⟨rfl, rfl⟩
  refine ab_aload_n dX11_deads_4 rfl ?_
  refine ab_iload_n dX11_deads_5 rfl ?_
  refine ab_callV (As := [.int a1]) (rest := []) dX11_deads_6 mv_X11_isLink ml_X11_265 ⟨by decide, by decide, rfl, rfl, rfl⟩ (by decide) rfl rfl (Nat.le_of_ble_eq_true rfl) rfl (c_X11_isLink h_l) ?_
  rintro r w' (⟨c_1, rfl, rfl⟩ | ⟨c_2, rfl, rfl⟩)
  · refine ab_ifne 18 dX11_deads_9 (by decide) (fun h_3 => ?_) (fun h_3 => absurd h_3 (by decide))
    refine ab_iconst (v := 0) dX11_deads_18 (by decide) ?_
    refine ab_istore_n (la' := [(2, .int 0), (0, .ref 1000), (1, .int a1)]) dX11_deads_19 (by decide) rfl ?_
    refine ab_iconst (v := 0) dX11_deads_20 (by decide) ?_
    refine ab_istore_n (la' := [(3, .int 0), (2, .int 0), (0, .ref 1000), (1, .int a1)]) dX11_deads_21 (by decide) rfl ?_
    refine ab_pick [0, 1, 3, 2] rfl ?_
    refine Ct.mono2 (lp_deads c_1 h_l 40 0 (fun i => [m_n, m_c, m_d, m_s, m_e, m_k, m_x, m_y, m_g, m_a].getD (i - 33) 0) (by omega)) ?_
    rintro r w' ⟨gm, h1, h2⟩
    exact Or.inl ⟨gm, c_1, h1, h2⟩
  · refine ab_ifne 18 dX11_deads_9 (by decide) (fun h_4 => absurd (by decide) h_4) (fun h_4 => ?_)
    refine ab_aload_n dX11_deads_12 rfl ?_
    refine ab_iconst (v := 1) dX11_deads_13 (by decide) ?_
    refine ab_callV (As := [.int 1]) (rest := []) dX11_deads_14 mv_X11_no ml_X11_115 ⟨by decide, by decide, rfl, rfl, rfl⟩ (by decide) rfl rfl (Nat.le_of_ble_eq_true rfl) rfl c_X11_no ?_
    rintro r w' ⟨rfl, rfl⟩
    exact ab_iret dX11_deads_17 rfl (by decide) (Or.inr ⟨c_2, rfl, rfl⟩)
