theorem sb_L {α β : Type} {e : Nat × Nat} {f : α → (Nat × Nat) ⊕ β} : sb (.inl e) f = .inl e := rfl
theorem sb_R {α β : Type} {a : α} {f : α → (Nat × Nat) ⊕ β} : sb (.inr a) f = f a := rfl
theorem c_X11_readsBar_0 {wc : List ax_E} {m_thrown m_trouble m_fault m_where m_taped m_linkMany m_tracerMany m_pointMany m_pairMany m_readTracers m_readPoints m_readPairs gw m_readFault m_readPlace m_value m_curveMany m_cornerMany m_straightAt m_walkLink m_walkAngle m_walkBranch m_walkMany m_lined m_actMany : Int32} {m_n m_c m_d m_s m_e m_k m_x m_y m_g m_a m_fitUp m_fitDown m_worstUp m_worstDown : Int64} {z1 z2 z4 z5 z6 z7 z9 z10 z11 z12 z13 z14 z15 z16 z17 z18 z19 z20 : ax_E} {q3 q8 : Nat → Int32} {u : Nat → Nat} {n p rl : Nat} (h_n : n ≤ 700) (h_v : ∀ k, k < n → u k < 256 ∧ q3 k = nI (u k)) (h_p : p ≤ n) (h_t : sk u n p ≤ tE u n (sk u n p) ∧ tE u n (sk u n p) ≤ n) (h_w : tk u n (sk u n p) = 3 → gw = nI (vl u (sk u n p) (dE u n (sk u n p) - sk u n p))) (h_s : p ≤ sk u n p ∧ sk u n p ≤ n) (h_rl : rl < 4) : Ct M_X11_readsBar [.ref 1000, .ref 3004, .int 0] (wc, [ob 9 [.int m_thrown, .int m_trouble, .int m_fault, .int m_where, .ref 1001, .ref 1002, .int 40, .ref 1003, .int m_taped, .int m_linkMany, .int m_tracerMany, .int m_pointMany, .int m_pairMany, .ref 1004, .ref 1005, .ref 1006, .ref 1007, .int (nI rl), .int m_readTracers, .int m_readPoints, .int m_readPairs, .ref 1008, .ref 1009, .ref 1010, .ref 1011, .int (nI n), .int (nI (sk u n p)), .int (nI (tE u n (sk u n p))), .int (tk u n (sk u n p)), .int gw, .int m_readFault, .int m_readPlace, .int m_value, .long m_n, .long m_c, .long m_d, .long m_s, .long m_e, .long m_k, .long m_x, .long m_y, .long m_g, .long m_a, .ref 1012, .ref 1013, .ref 1014, .int m_curveMany, .ref 1015, .int m_cornerMany, .int m_straightAt, .ref 1016, .long m_fitUp, .long m_fitDown, .long m_worstUp, .long m_worstDown, .ref 1017, .int m_walkLink, .int m_walkAngle, .int m_walkBranch, .int m_walkMany, .ref 1018, .ref 1019, .int m_lined, .ref 1020, .int m_actMany], z1, z2, ia 700 q3, z4, z5, z6, z7, ia 16 q8, z9, z10, z11, z12, z13, z14, z15, z16, z17, z18, z19, z20]) (fun r w' => (∃ e : Nat × Nat, ∃ ga : Int32, ∃ gs : Int32, ∃ gt : Int32, ∃ gz : Int32, ∃ gv : Int32, ∃ g8 : Nat → Int32, (pBar_0 u n p = .inl e) ∧ r = some (.int 0) ∧ w' = (wc, [ob 9 [.int m_thrown, .int m_trouble, .int m_fault, .int m_where, .ref 1001, .ref 1002, .int 40, .ref 1003, .int m_taped, .int m_linkMany, .int m_tracerMany, .int m_pointMany, .int m_pairMany, .ref 1004, .ref 1005, .ref 1006, .ref 1007, .int (nI rl), .int m_readTracers, .int m_readPoints, .int m_readPairs, .ref 1008, .ref 1009, .ref 1010, .ref 1011, .int (nI n), .int ga, .int gs, .int gt, .int gz, .int (nI e.1), .int (nI e.2), .int gv, .long m_n, .long m_c, .long m_d, .long m_s, .long m_e, .long m_k, .long m_x, .long m_y, .long m_g, .long m_a, .ref 1012, .ref 1013, .ref 1014, .int m_curveMany, .ref 1015, .int m_cornerMany, .int m_straightAt, .ref 1016, .long m_fitUp, .long m_fitDown, .long m_worstUp, .long m_worstDown, .ref 1017, .int m_walkLink, .int m_walkAngle, .int m_walkBranch, .int m_walkMany, .ref 1018, .ref 1019, .int m_lined, .ref 1020, .int m_actMany], z1, z2, ia 700 q3, z4, z5, z6, z7, ia 16 g8, z9, z10, z11, z12, z13, z14, z15, z16, z17, z18, z19, z20])) ∨ (∃ v : Nat × Nat, ∃ gx : Int32, (pBar_0 u n p = .inr v) ∧ (p ≤ v.2 ∧ v.2 ≤ n) ∧ (tk u n (sk u n v.2) = 3 → gx = nI (vl u (sk u n v.2) (dE u n (sk u n v.2) - sk u n v.2))) ∧ r = some (.int 1) ∧ w' = (wc, [ob 9 [.int m_thrown, .int m_trouble, .int m_fault, .int m_where, .ref 1001, .ref 1002, .int 40, .ref 1003, .int m_taped, .int m_linkMany, .int m_tracerMany, .int m_pointMany, .int m_pairMany, .ref 1004, .ref 1005, .ref 1006, .ref 1007, .int (nI rl), .int m_readTracers, .int m_readPoints, .int m_readPairs, .ref 1008, .ref 1009, .ref 1010, .ref 1011, .int (nI n), .int (nI (sk u n v.2)), .int (nI (tE u n (sk u n v.2))), .int (tk u n (sk u n v.2)), .int gx, .int m_readFault, .int m_readPlace, .int (nI v.1), .long m_n, .long m_c, .long m_d, .long m_s, .long m_e, .long m_k, .long m_x, .long m_y, .long m_g, .long m_a, .ref 1012, .ref 1013, .ref 1014, .int m_curveMany, .ref 1015, .int m_cornerMany, .int m_straightAt, .ref 1016, .long m_fitUp, .long m_fitDown, .long m_worstUp, .long m_worstDown, .ref 1017, .int m_walkLink, .int m_walkAngle, .int m_walkBranch, .int m_walkMany, .ref 1018, .ref 1019, .int m_lined, .ref 1020, .int m_actMany], z1, z2, ia 700 q3, z4, z5, z6, z7, ia 16 (upd q8 (4 * rl) (nI v.1)), z9, z10, z11, z12, z13, z14, z15, z16, z17, z18, z19, z20]))) := by
  refine ct_of ⟨by decide, rfl⟩ (Nat.le_of_ble_eq_true rfl) ?_
  refine ab_aload_n dX11_readsBar_0 rfl ?_
  refine ab_aload_n dX11_readsBar_1 rfl ?_
  refine ab_callV (As := [.ref 3004]) (rest := []) dX11_readsBar_2 mv_X11_isWord ml_X11_173 ⟨by decide, by decide, rfl, rfl, rfl⟩ (by decide) rfl rfl (Nat.le_of_ble_eq_true rfl) rfl (c_X11_isWord_4 (n := n) (p := p) (gw := gw) h_n h_v (by omega) (tE_in (by omega))) ?_
  rintro r w' (⟨c_1, rfl, rfl⟩ | ⟨c_2, rfl, rfl⟩)
  · refine ab_ifne 14 dX11_readsBar_5 (by decide) (fun h_3 => ?_) (fun h_3 => absurd h_3 (by decide))
    refine ab_aload_n dX11_readsBar_14 rfl ?_
    refine ab_callV (As := []) (rest := []) dX11_readsBar_15 mv_X11_goesOn ml_X11_166 ⟨by decide, by decide, rfl, rfl, rfl⟩ (by decide) rfl rfl (Nat.le_of_ble_eq_true rfl) rfl (c_X11_goesOn (n := n) (q := (tE u n (sk u n p))) h_n h_v (by omega)) ?_
    rintro r w' ⟨gw_4, c_5, rfl, rfl⟩
    refine ab_aload_n dX11_readsBar_18 rfl ?_
    refine ab_iconst (v := 1) dX11_readsBar_19 (by decide) ?_
    refine ab_bipush (v := 18) dX11_readsBar_20 (by decide) ?_
    refine ab_callV (As := [.int 1, .int 18]) (rest := []) dX11_readsBar_22 mv_X11_reads ml_X11_169 ⟨by decide, by decide, rfl, rfl, rfl⟩ (by decide) rfl rfl (Nat.le_of_ble_eq_true rfl) rfl (c_X11_reads (n := n) (p := (tE u n (sk u n p))) (gw := gw_4) (lo := 1) (hi := 18) h_n h_v (by omega) (tE_in (by omega)) c_5 (by decide) (by decide)) ?_
    rintro r w' (⟨e_6, ga_7, gs_8, gt_9, gz_10, gv_11, c_12, rfl, rfl⟩ | ⟨v_13, gx_14, c_15, c_16, c_17, rfl, rfl⟩)
    · refine ab_istore_n (la' := [(3, .int 0), (0, .ref 1000), (1, .ref 3004), (2, .int 0)]) dX11_readsBar_25 (by decide) rfl ?_
      refine ab_aload_n dX11_readsBar_26 rfl ?_
      refine ab_getf dX11_readsBar_27 fl_X11_54 rfl rfl ?_
      refine ab_iconst (v := 4) dX11_readsBar_30 (by decide) ?_
      refine ab_aload_n dX11_readsBar_31 rfl ?_
      refine ab_getf dX11_readsBar_32 fl_X11_177 rfl rfl ?_
      refine ab_imul dX11_readsBar_35 ?_
      refine ab_topi (v := (nI (4 * rl))) (pk_mul 4 _) ?_
      refine ab_iload_n dX11_readsBar_36 rfl ?_
      refine ab_iadd dX11_readsBar_37 ?_
      refine ab_topi (v := (nI (4 * rl))) (Int32.add_zero _) ?_
      refine ab_aload_n dX11_readsBar_38 rfl ?_
      refine ab_getf dX11_readsBar_39 fl_X11_163 rfl rfl ?_
      refine ab_iast (w1 := (wc, [ob 9 [.int m_thrown, .int m_trouble, .int m_fault, .int m_where, .ref 1001, .ref 1002, .int 40, .ref 1003, .int m_taped, .int m_linkMany, .int m_tracerMany, .int m_pointMany, .int m_pairMany, .ref 1004, .ref 1005, .ref 1006, .ref 1007, .int (nI rl), .int m_readTracers, .int m_readPoints, .int m_readPairs, .ref 1008, .ref 1009, .ref 1010, .ref 1011, .int (nI n), .int ga_7, .int gs_8, .int gt_9, .int gz_10, .int (nI e_6.1), .int (nI e_6.2), .int gv_11, .long m_n, .long m_c, .long m_d, .long m_s, .long m_e, .long m_k, .long m_x, .long m_y, .long m_g, .long m_a, .ref 1012, .ref 1013, .ref 1014, .int m_curveMany, .ref 1015, .int m_cornerMany, .int m_straightAt, .ref 1016, .long m_fitUp, .long m_fitDown, .long m_worstUp, .long m_worstDown, .ref 1017, .int m_walkLink, .int m_walkAngle, .int m_walkBranch, .int m_walkMany, .ref 1018, .ref 1019, .int m_lined, .ref 1020, .int m_actMany], z1, z2, ia 700 q3, z4, z5, z6, z7, ia 16 (upd q8 (4 * rl) gv_11), z9, z10, z11, z12, z13, z14, z15, z16, z17, z18, z19, z20])) dX11_readsBar_42 rfl (ix_nI (by omega) (by decide)) rfl ?_
      refine ab_iload_n dX11_readsBar_43 rfl ?_
      exact ab_zret dX11_readsBar_44 rfl rfl (by decide) (Or.inl (⟨e_6, ga_7, gs_8, gt_9, gz_10, gv_11, (upd q8 (4 * rl) gv_11), by unfold pBar_0; rw [if_pos c_1, ← (wdm_4.mp c_1).2.1]; exact c_12, rfl, rfl⟩))
    · refine ab_istore_n (la' := [(3, .int 1), (0, .ref 1000), (1, .ref 3004), (2, .int 0)]) dX11_readsBar_25 (by decide) rfl ?_
      refine ab_aload_n dX11_readsBar_26 rfl ?_
      refine ab_getf dX11_readsBar_27 fl_X11_54 rfl rfl ?_
      refine ab_iconst (v := 4) dX11_readsBar_30 (by decide) ?_
      refine ab_aload_n dX11_readsBar_31 rfl ?_
      refine ab_getf dX11_readsBar_32 fl_X11_177 rfl rfl ?_
      refine ab_imul dX11_readsBar_35 ?_
      refine ab_topi (v := (nI (4 * rl))) (pk_mul 4 _) ?_
      refine ab_iload_n dX11_readsBar_36 rfl ?_
      refine ab_iadd dX11_readsBar_37 ?_
      refine ab_topi (v := (nI (4 * rl))) (Int32.add_zero _) ?_
      refine ab_aload_n dX11_readsBar_38 rfl ?_
      refine ab_getf dX11_readsBar_39 fl_X11_163 rfl rfl ?_
      refine ab_iast (w1 := (wc, [ob 9 [.int m_thrown, .int m_trouble, .int m_fault, .int m_where, .ref 1001, .ref 1002, .int 40, .ref 1003, .int m_taped, .int m_linkMany, .int m_tracerMany, .int m_pointMany, .int m_pairMany, .ref 1004, .ref 1005, .ref 1006, .ref 1007, .int (nI rl), .int m_readTracers, .int m_readPoints, .int m_readPairs, .ref 1008, .ref 1009, .ref 1010, .ref 1011, .int (nI n), .int (nI (sk u n v_13.2)), .int (nI (tE u n (sk u n v_13.2))), .int (tk u n (sk u n v_13.2)), .int gx_14, .int m_readFault, .int m_readPlace, .int (nI v_13.1), .long m_n, .long m_c, .long m_d, .long m_s, .long m_e, .long m_k, .long m_x, .long m_y, .long m_g, .long m_a, .ref 1012, .ref 1013, .ref 1014, .int m_curveMany, .ref 1015, .int m_cornerMany, .int m_straightAt, .ref 1016, .long m_fitUp, .long m_fitDown, .long m_worstUp, .long m_worstDown, .ref 1017, .int m_walkLink, .int m_walkAngle, .int m_walkBranch, .int m_walkMany, .ref 1018, .ref 1019, .int m_lined, .ref 1020, .int m_actMany], z1, z2, ia 700 q3, z4, z5, z6, z7, ia 16 (upd q8 (4 * rl) (nI v_13.1)), z9, z10, z11, z12, z13, z14, z15, z16, z17, z18, z19, z20])) dX11_readsBar_42 rfl (ix_nI (by omega) (by decide)) rfl ?_
      refine ab_iload_n dX11_readsBar_43 rfl ?_
      exact ab_zret dX11_readsBar_44 rfl rfl (by decide) (Or.inr (⟨v_13, gx_14, by unfold pBar_0; rw [if_pos c_1, ← (wdm_4.mp c_1).2.1]; exact c_15, ⟨by omega, by omega⟩, c_17, rfl, rfl⟩))
  · refine ab_ifne 14 dX11_readsBar_5 (by decide) (fun h_18 => absurd (by decide) h_18) (fun h_18 => ?_)
    refine ab_aload_n dX11_readsBar_8 rfl ?_
    refine ab_iconst (v := 1) dX11_readsBar_9 (by decide) ?_
    refine ab_callV (As := [.int 1]) (rest := []) dX11_readsBar_10 mv_X11_errs ml_X11_159 ⟨by decide, by decide, rfl, rfl, rfl⟩ (by decide) rfl rfl (Nat.le_of_ble_eq_true rfl) rfl c_X11_errs ?_
    rintro r w' ⟨rfl, rfl⟩
    exact ab_zret dX11_readsBar_13 rfl rfl (by decide) (Or.inl (⟨(1, sk u n p), (nI (sk u n p)), (nI (tE u n (sk u n p))), (tk u n (sk u n p)), gw, m_value, q8, by unfold pBar_0; rw [if_neg c_2], rfl, rfl⟩))
theorem c_X11_readsBar_1 {wc : List ax_E} {m_thrown m_trouble m_fault m_where m_taped m_linkMany m_tracerMany m_pointMany m_pairMany m_readTracers m_readPoints m_readPairs gw m_readFault m_readPlace m_value m_curveMany m_cornerMany m_straightAt m_walkLink m_walkAngle m_walkBranch m_walkMany m_lined m_actMany : Int32} {m_n m_c m_d m_s m_e m_k m_x m_y m_g m_a m_fitUp m_fitDown m_worstUp m_worstDown : Int64} {z1 z2 z4 z5 z6 z7 z9 z10 z11 z12 z13 z14 z15 z16 z17 z18 z19 z20 : ax_E} {q3 q8 : Nat → Int32} {u : Nat → Nat} {n p rl : Nat} (h_n : n ≤ 700) (h_v : ∀ k, k < n → u k < 256 ∧ q3 k = nI (u k)) (h_p : p ≤ n) (h_t : sk u n p ≤ tE u n (sk u n p) ∧ tE u n (sk u n p) ≤ n) (h_w : tk u n (sk u n p) = 3 → gw = nI (vl u (sk u n p) (dE u n (sk u n p) - sk u n p))) (h_s : p ≤ sk u n p ∧ sk u n p ≤ n) (h_rl : rl < 4) : Ct M_X11_readsBar [.ref 1000, .ref 3005, .int 1] (wc, [ob 9 [.int m_thrown, .int m_trouble, .int m_fault, .int m_where, .ref 1001, .ref 1002, .int 40, .ref 1003, .int m_taped, .int m_linkMany, .int m_tracerMany, .int m_pointMany, .int m_pairMany, .ref 1004, .ref 1005, .ref 1006, .ref 1007, .int (nI rl), .int m_readTracers, .int m_readPoints, .int m_readPairs, .ref 1008, .ref 1009, .ref 1010, .ref 1011, .int (nI n), .int (nI (sk u n p)), .int (nI (tE u n (sk u n p))), .int (tk u n (sk u n p)), .int gw, .int m_readFault, .int m_readPlace, .int m_value, .long m_n, .long m_c, .long m_d, .long m_s, .long m_e, .long m_k, .long m_x, .long m_y, .long m_g, .long m_a, .ref 1012, .ref 1013, .ref 1014, .int m_curveMany, .ref 1015, .int m_cornerMany, .int m_straightAt, .ref 1016, .long m_fitUp, .long m_fitDown, .long m_worstUp, .long m_worstDown, .ref 1017, .int m_walkLink, .int m_walkAngle, .int m_walkBranch, .int m_walkMany, .ref 1018, .ref 1019, .int m_lined, .ref 1020, .int m_actMany], z1, z2, ia 700 q3, z4, z5, z6, z7, ia 16 q8, z9, z10, z11, z12, z13, z14, z15, z16, z17, z18, z19, z20]) (fun r w' => (∃ e : Nat × Nat, ∃ ga : Int32, ∃ gs : Int32, ∃ gt : Int32, ∃ gz : Int32, ∃ gv : Int32, ∃ g8 : Nat → Int32, (pBar_1 u n p = .inl e) ∧ r = some (.int 0) ∧ w' = (wc, [ob 9 [.int m_thrown, .int m_trouble, .int m_fault, .int m_where, .ref 1001, .ref 1002, .int 40, .ref 1003, .int m_taped, .int m_linkMany, .int m_tracerMany, .int m_pointMany, .int m_pairMany, .ref 1004, .ref 1005, .ref 1006, .ref 1007, .int (nI rl), .int m_readTracers, .int m_readPoints, .int m_readPairs, .ref 1008, .ref 1009, .ref 1010, .ref 1011, .int (nI n), .int ga, .int gs, .int gt, .int gz, .int (nI e.1), .int (nI e.2), .int gv, .long m_n, .long m_c, .long m_d, .long m_s, .long m_e, .long m_k, .long m_x, .long m_y, .long m_g, .long m_a, .ref 1012, .ref 1013, .ref 1014, .int m_curveMany, .ref 1015, .int m_cornerMany, .int m_straightAt, .ref 1016, .long m_fitUp, .long m_fitDown, .long m_worstUp, .long m_worstDown, .ref 1017, .int m_walkLink, .int m_walkAngle, .int m_walkBranch, .int m_walkMany, .ref 1018, .ref 1019, .int m_lined, .ref 1020, .int m_actMany], z1, z2, ia 700 q3, z4, z5, z6, z7, ia 16 g8, z9, z10, z11, z12, z13, z14, z15, z16, z17, z18, z19, z20])) ∨ (∃ v : Nat × Nat, ∃ gx : Int32, (pBar_1 u n p = .inr v) ∧ (p ≤ v.2 ∧ v.2 ≤ n) ∧ (tk u n (sk u n v.2) = 3 → gx = nI (vl u (sk u n v.2) (dE u n (sk u n v.2) - sk u n v.2))) ∧ r = some (.int 1) ∧ w' = (wc, [ob 9 [.int m_thrown, .int m_trouble, .int m_fault, .int m_where, .ref 1001, .ref 1002, .int 40, .ref 1003, .int m_taped, .int m_linkMany, .int m_tracerMany, .int m_pointMany, .int m_pairMany, .ref 1004, .ref 1005, .ref 1006, .ref 1007, .int (nI rl), .int m_readTracers, .int m_readPoints, .int m_readPairs, .ref 1008, .ref 1009, .ref 1010, .ref 1011, .int (nI n), .int (nI (sk u n v.2)), .int (nI (tE u n (sk u n v.2))), .int (tk u n (sk u n v.2)), .int gx, .int m_readFault, .int m_readPlace, .int (nI v.1), .long m_n, .long m_c, .long m_d, .long m_s, .long m_e, .long m_k, .long m_x, .long m_y, .long m_g, .long m_a, .ref 1012, .ref 1013, .ref 1014, .int m_curveMany, .ref 1015, .int m_cornerMany, .int m_straightAt, .ref 1016, .long m_fitUp, .long m_fitDown, .long m_worstUp, .long m_worstDown, .ref 1017, .int m_walkLink, .int m_walkAngle, .int m_walkBranch, .int m_walkMany, .ref 1018, .ref 1019, .int m_lined, .ref 1020, .int m_actMany], z1, z2, ia 700 q3, z4, z5, z6, z7, ia 16 (upd q8 (4 * rl + 1) (nI v.1)), z9, z10, z11, z12, z13, z14, z15, z16, z17, z18, z19, z20]))) := by
  refine ct_of ⟨by decide, rfl⟩ (Nat.le_of_ble_eq_true rfl) ?_
  refine ab_aload_n dX11_readsBar_0 rfl ?_
  refine ab_aload_n dX11_readsBar_1 rfl ?_
  refine ab_callV (As := [.ref 3005]) (rest := []) dX11_readsBar_2 mv_X11_isWord ml_X11_173 ⟨by decide, by decide, rfl, rfl, rfl⟩ (by decide) rfl rfl (Nat.le_of_ble_eq_true rfl) rfl (c_X11_isWord_5 (n := n) (p := p) (gw := gw) h_n h_v (by omega) (tE_in (by omega))) ?_
  rintro r w' (⟨c_1, rfl, rfl⟩ | ⟨c_2, rfl, rfl⟩)
  · refine ab_ifne 14 dX11_readsBar_5 (by decide) (fun h_3 => ?_) (fun h_3 => absurd h_3 (by decide))
    refine ab_aload_n dX11_readsBar_14 rfl ?_
    refine ab_callV (As := []) (rest := []) dX11_readsBar_15 mv_X11_goesOn ml_X11_166 ⟨by decide, by decide, rfl, rfl, rfl⟩ (by decide) rfl rfl (Nat.le_of_ble_eq_true rfl) rfl (c_X11_goesOn (n := n) (q := (tE u n (sk u n p))) h_n h_v (by omega)) ?_
    rintro r w' ⟨gw_4, c_5, rfl, rfl⟩
    refine ab_aload_n dX11_readsBar_18 rfl ?_
    refine ab_iconst (v := 1) dX11_readsBar_19 (by decide) ?_
    refine ab_bipush (v := 18) dX11_readsBar_20 (by decide) ?_
    refine ab_callV (As := [.int 1, .int 18]) (rest := []) dX11_readsBar_22 mv_X11_reads ml_X11_169 ⟨by decide, by decide, rfl, rfl, rfl⟩ (by decide) rfl rfl (Nat.le_of_ble_eq_true rfl) rfl (c_X11_reads (n := n) (p := (tE u n (sk u n p))) (gw := gw_4) (lo := 1) (hi := 18) h_n h_v (by omega) (tE_in (by omega)) c_5 (by decide) (by decide)) ?_
    rintro r w' (⟨e_6, ga_7, gs_8, gt_9, gz_10, gv_11, c_12, rfl, rfl⟩ | ⟨v_13, gx_14, c_15, c_16, c_17, rfl, rfl⟩)
    · refine ab_istore_n (la' := [(3, .int 0), (0, .ref 1000), (1, .ref 3005), (2, .int 1)]) dX11_readsBar_25 (by decide) rfl ?_
      refine ab_aload_n dX11_readsBar_26 rfl ?_
      refine ab_getf dX11_readsBar_27 fl_X11_54 rfl rfl ?_
      refine ab_iconst (v := 4) dX11_readsBar_30 (by decide) ?_
      refine ab_aload_n dX11_readsBar_31 rfl ?_
      refine ab_getf dX11_readsBar_32 fl_X11_177 rfl rfl ?_
      refine ab_imul dX11_readsBar_35 ?_
      refine ab_topi (v := (nI (4 * rl))) (pk_mul 4 _) ?_
      refine ab_iload_n dX11_readsBar_36 rfl ?_
      refine ab_iadd dX11_readsBar_37 ?_
      refine ab_topi (v := (nI ((4 * rl) + 1))) (nI_1 _) ?_
      refine ab_aload_n dX11_readsBar_38 rfl ?_
      refine ab_getf dX11_readsBar_39 fl_X11_163 rfl rfl ?_
      refine ab_iast (w1 := (wc, [ob 9 [.int m_thrown, .int m_trouble, .int m_fault, .int m_where, .ref 1001, .ref 1002, .int 40, .ref 1003, .int m_taped, .int m_linkMany, .int m_tracerMany, .int m_pointMany, .int m_pairMany, .ref 1004, .ref 1005, .ref 1006, .ref 1007, .int (nI rl), .int m_readTracers, .int m_readPoints, .int m_readPairs, .ref 1008, .ref 1009, .ref 1010, .ref 1011, .int (nI n), .int ga_7, .int gs_8, .int gt_9, .int gz_10, .int (nI e_6.1), .int (nI e_6.2), .int gv_11, .long m_n, .long m_c, .long m_d, .long m_s, .long m_e, .long m_k, .long m_x, .long m_y, .long m_g, .long m_a, .ref 1012, .ref 1013, .ref 1014, .int m_curveMany, .ref 1015, .int m_cornerMany, .int m_straightAt, .ref 1016, .long m_fitUp, .long m_fitDown, .long m_worstUp, .long m_worstDown, .ref 1017, .int m_walkLink, .int m_walkAngle, .int m_walkBranch, .int m_walkMany, .ref 1018, .ref 1019, .int m_lined, .ref 1020, .int m_actMany], z1, z2, ia 700 q3, z4, z5, z6, z7, ia 16 (upd q8 ((4 * rl) + 1) gv_11), z9, z10, z11, z12, z13, z14, z15, z16, z17, z18, z19, z20])) dX11_readsBar_42 rfl (ix_nI (by omega) (by decide)) rfl ?_
      refine ab_iload_n dX11_readsBar_43 rfl ?_
      exact ab_zret dX11_readsBar_44 rfl rfl (by decide) (Or.inl (⟨e_6, ga_7, gs_8, gt_9, gz_10, gv_11, (upd q8 ((4 * rl) + 1) gv_11), by unfold pBar_1; rw [if_pos c_1, ← (wdm_5.mp c_1).2.1]; exact c_12, rfl, rfl⟩))
    · refine ab_istore_n (la' := [(3, .int 1), (0, .ref 1000), (1, .ref 3005), (2, .int 1)]) dX11_readsBar_25 (by decide) rfl ?_
      refine ab_aload_n dX11_readsBar_26 rfl ?_
      refine ab_getf dX11_readsBar_27 fl_X11_54 rfl rfl ?_
      refine ab_iconst (v := 4) dX11_readsBar_30 (by decide) ?_
      refine ab_aload_n dX11_readsBar_31 rfl ?_
      refine ab_getf dX11_readsBar_32 fl_X11_177 rfl rfl ?_
      refine ab_imul dX11_readsBar_35 ?_
      refine ab_topi (v := (nI (4 * rl))) (pk_mul 4 _) ?_
      refine ab_iload_n dX11_readsBar_36 rfl ?_
      refine ab_iadd dX11_readsBar_37 ?_
      refine ab_topi (v := (nI ((4 * rl) + 1))) (nI_1 _) ?_
      refine ab_aload_n dX11_readsBar_38 rfl ?_
      refine ab_getf dX11_readsBar_39 fl_X11_163 rfl rfl ?_
      refine ab_iast (w1 := (wc, [ob 9 [.int m_thrown, .int m_trouble, .int m_fault, .int m_where, .ref 1001, .ref 1002, .int 40, .ref 1003, .int m_taped, .int m_linkMany, .int m_tracerMany, .int m_pointMany, .int m_pairMany, .ref 1004, .ref 1005, .ref 1006, .ref 1007, .int (nI rl), .int m_readTracers, .int m_readPoints, .int m_readPairs, .ref 1008, .ref 1009, .ref 1010, .ref 1011, .int (nI n), .int (nI (sk u n v_13.2)), .int (nI (tE u n (sk u n v_13.2))), .int (tk u n (sk u n v_13.2)), .int gx_14, .int m_readFault, .int m_readPlace, .int (nI v_13.1), .long m_n, .long m_c, .long m_d, .long m_s, .long m_e, .long m_k, .long m_x, .long m_y, .long m_g, .long m_a, .ref 1012, .ref 1013, .ref 1014, .int m_curveMany, .ref 1015, .int m_cornerMany, .int m_straightAt, .ref 1016, .long m_fitUp, .long m_fitDown, .long m_worstUp, .long m_worstDown, .ref 1017, .int m_walkLink, .int m_walkAngle, .int m_walkBranch, .int m_walkMany, .ref 1018, .ref 1019, .int m_lined, .ref 1020, .int m_actMany], z1, z2, ia 700 q3, z4, z5, z6, z7, ia 16 (upd q8 ((4 * rl) + 1) (nI v_13.1)), z9, z10, z11, z12, z13, z14, z15, z16, z17, z18, z19, z20])) dX11_readsBar_42 rfl (ix_nI (by omega) (by decide)) rfl ?_
      refine ab_iload_n dX11_readsBar_43 rfl ?_
      exact ab_zret dX11_readsBar_44 rfl rfl (by decide) (Or.inr (⟨v_13, gx_14, by unfold pBar_1; rw [if_pos c_1, ← (wdm_5.mp c_1).2.1]; exact c_15, ⟨by omega, by omega⟩, c_17, rfl, rfl⟩))
  · refine ab_ifne 14 dX11_readsBar_5 (by decide) (fun h_18 => absurd (by decide) h_18) (fun h_18 => ?_)
    refine ab_aload_n dX11_readsBar_8 rfl ?_
    refine ab_iconst (v := 1) dX11_readsBar_9 (by decide) ?_
    refine ab_callV (As := [.int 1]) (rest := []) dX11_readsBar_10 mv_X11_errs ml_X11_159 ⟨by decide, by decide, rfl, rfl, rfl⟩ (by decide) rfl rfl (Nat.le_of_ble_eq_true rfl) rfl c_X11_errs ?_
    rintro r w' ⟨rfl, rfl⟩
    exact ab_zret dX11_readsBar_13 rfl rfl (by decide) (Or.inl (⟨(1, sk u n p), (nI (sk u n p)), (nI (tE u n (sk u n p))), (tk u n (sk u n p)), gw, m_value, q8, by unfold pBar_1; rw [if_neg c_2], rfl, rfl⟩))
theorem c_X11_readsBar_2 {wc : List ax_E} {m_thrown m_trouble m_fault m_where m_taped m_linkMany m_tracerMany m_pointMany m_pairMany m_readTracers m_readPoints m_readPairs gw m_readFault m_readPlace m_value m_curveMany m_cornerMany m_straightAt m_walkLink m_walkAngle m_walkBranch m_walkMany m_lined m_actMany : Int32} {m_n m_c m_d m_s m_e m_k m_x m_y m_g m_a m_fitUp m_fitDown m_worstUp m_worstDown : Int64} {z1 z2 z4 z5 z6 z7 z9 z10 z11 z12 z13 z14 z15 z16 z17 z18 z19 z20 : ax_E} {q3 q8 : Nat → Int32} {u : Nat → Nat} {n p rl : Nat} (h_n : n ≤ 700) (h_v : ∀ k, k < n → u k < 256 ∧ q3 k = nI (u k)) (h_p : p ≤ n) (h_t : sk u n p ≤ tE u n (sk u n p) ∧ tE u n (sk u n p) ≤ n) (h_w : tk u n (sk u n p) = 3 → gw = nI (vl u (sk u n p) (dE u n (sk u n p) - sk u n p))) (h_s : p ≤ sk u n p ∧ sk u n p ≤ n) (h_rl : rl < 4) : Ct M_X11_readsBar [.ref 1000, .ref 3006, .int 2] (wc, [ob 9 [.int m_thrown, .int m_trouble, .int m_fault, .int m_where, .ref 1001, .ref 1002, .int 40, .ref 1003, .int m_taped, .int m_linkMany, .int m_tracerMany, .int m_pointMany, .int m_pairMany, .ref 1004, .ref 1005, .ref 1006, .ref 1007, .int (nI rl), .int m_readTracers, .int m_readPoints, .int m_readPairs, .ref 1008, .ref 1009, .ref 1010, .ref 1011, .int (nI n), .int (nI (sk u n p)), .int (nI (tE u n (sk u n p))), .int (tk u n (sk u n p)), .int gw, .int m_readFault, .int m_readPlace, .int m_value, .long m_n, .long m_c, .long m_d, .long m_s, .long m_e, .long m_k, .long m_x, .long m_y, .long m_g, .long m_a, .ref 1012, .ref 1013, .ref 1014, .int m_curveMany, .ref 1015, .int m_cornerMany, .int m_straightAt, .ref 1016, .long m_fitUp, .long m_fitDown, .long m_worstUp, .long m_worstDown, .ref 1017, .int m_walkLink, .int m_walkAngle, .int m_walkBranch, .int m_walkMany, .ref 1018, .ref 1019, .int m_lined, .ref 1020, .int m_actMany], z1, z2, ia 700 q3, z4, z5, z6, z7, ia 16 q8, z9, z10, z11, z12, z13, z14, z15, z16, z17, z18, z19, z20]) (fun r w' => (∃ e : Nat × Nat, ∃ ga : Int32, ∃ gs : Int32, ∃ gt : Int32, ∃ gz : Int32, ∃ gv : Int32, ∃ g8 : Nat → Int32, (pBar_2 u n p = .inl e) ∧ r = some (.int 0) ∧ w' = (wc, [ob 9 [.int m_thrown, .int m_trouble, .int m_fault, .int m_where, .ref 1001, .ref 1002, .int 40, .ref 1003, .int m_taped, .int m_linkMany, .int m_tracerMany, .int m_pointMany, .int m_pairMany, .ref 1004, .ref 1005, .ref 1006, .ref 1007, .int (nI rl), .int m_readTracers, .int m_readPoints, .int m_readPairs, .ref 1008, .ref 1009, .ref 1010, .ref 1011, .int (nI n), .int ga, .int gs, .int gt, .int gz, .int (nI e.1), .int (nI e.2), .int gv, .long m_n, .long m_c, .long m_d, .long m_s, .long m_e, .long m_k, .long m_x, .long m_y, .long m_g, .long m_a, .ref 1012, .ref 1013, .ref 1014, .int m_curveMany, .ref 1015, .int m_cornerMany, .int m_straightAt, .ref 1016, .long m_fitUp, .long m_fitDown, .long m_worstUp, .long m_worstDown, .ref 1017, .int m_walkLink, .int m_walkAngle, .int m_walkBranch, .int m_walkMany, .ref 1018, .ref 1019, .int m_lined, .ref 1020, .int m_actMany], z1, z2, ia 700 q3, z4, z5, z6, z7, ia 16 g8, z9, z10, z11, z12, z13, z14, z15, z16, z17, z18, z19, z20])) ∨ (∃ v : Nat × Nat, ∃ gx : Int32, (pBar_2 u n p = .inr v) ∧ (p ≤ v.2 ∧ v.2 ≤ n) ∧ (tk u n (sk u n v.2) = 3 → gx = nI (vl u (sk u n v.2) (dE u n (sk u n v.2) - sk u n v.2))) ∧ r = some (.int 1) ∧ w' = (wc, [ob 9 [.int m_thrown, .int m_trouble, .int m_fault, .int m_where, .ref 1001, .ref 1002, .int 40, .ref 1003, .int m_taped, .int m_linkMany, .int m_tracerMany, .int m_pointMany, .int m_pairMany, .ref 1004, .ref 1005, .ref 1006, .ref 1007, .int (nI rl), .int m_readTracers, .int m_readPoints, .int m_readPairs, .ref 1008, .ref 1009, .ref 1010, .ref 1011, .int (nI n), .int (nI (sk u n v.2)), .int (nI (tE u n (sk u n v.2))), .int (tk u n (sk u n v.2)), .int gx, .int m_readFault, .int m_readPlace, .int (nI v.1), .long m_n, .long m_c, .long m_d, .long m_s, .long m_e, .long m_k, .long m_x, .long m_y, .long m_g, .long m_a, .ref 1012, .ref 1013, .ref 1014, .int m_curveMany, .ref 1015, .int m_cornerMany, .int m_straightAt, .ref 1016, .long m_fitUp, .long m_fitDown, .long m_worstUp, .long m_worstDown, .ref 1017, .int m_walkLink, .int m_walkAngle, .int m_walkBranch, .int m_walkMany, .ref 1018, .ref 1019, .int m_lined, .ref 1020, .int m_actMany], z1, z2, ia 700 q3, z4, z5, z6, z7, ia 16 (upd q8 (4 * rl + 2) (nI v.1)), z9, z10, z11, z12, z13, z14, z15, z16, z17, z18, z19, z20]))) := by
  refine ct_of ⟨by decide, rfl⟩ (Nat.le_of_ble_eq_true rfl) ?_
  refine ab_aload_n dX11_readsBar_0 rfl ?_
  refine ab_aload_n dX11_readsBar_1 rfl ?_
  refine ab_callV (As := [.ref 3006]) (rest := []) dX11_readsBar_2 mv_X11_isWord ml_X11_173 ⟨by decide, by decide, rfl, rfl, rfl⟩ (by decide) rfl rfl (Nat.le_of_ble_eq_true rfl) rfl (c_X11_isWord_6 (n := n) (p := p) (gw := gw) h_n h_v (by omega) (tE_in (by omega))) ?_
  rintro r w' (⟨c_1, rfl, rfl⟩ | ⟨c_2, rfl, rfl⟩)
  · refine ab_ifne 14 dX11_readsBar_5 (by decide) (fun h_3 => ?_) (fun h_3 => absurd h_3 (by decide))
    refine ab_aload_n dX11_readsBar_14 rfl ?_
    refine ab_callV (As := []) (rest := []) dX11_readsBar_15 mv_X11_goesOn ml_X11_166 ⟨by decide, by decide, rfl, rfl, rfl⟩ (by decide) rfl rfl (Nat.le_of_ble_eq_true rfl) rfl (c_X11_goesOn (n := n) (q := (tE u n (sk u n p))) h_n h_v (by omega)) ?_
    rintro r w' ⟨gw_4, c_5, rfl, rfl⟩
    refine ab_aload_n dX11_readsBar_18 rfl ?_
    refine ab_iconst (v := 1) dX11_readsBar_19 (by decide) ?_
    refine ab_bipush (v := 18) dX11_readsBar_20 (by decide) ?_
    refine ab_callV (As := [.int 1, .int 18]) (rest := []) dX11_readsBar_22 mv_X11_reads ml_X11_169 ⟨by decide, by decide, rfl, rfl, rfl⟩ (by decide) rfl rfl (Nat.le_of_ble_eq_true rfl) rfl (c_X11_reads (n := n) (p := (tE u n (sk u n p))) (gw := gw_4) (lo := 1) (hi := 18) h_n h_v (by omega) (tE_in (by omega)) c_5 (by decide) (by decide)) ?_
    rintro r w' (⟨e_6, ga_7, gs_8, gt_9, gz_10, gv_11, c_12, rfl, rfl⟩ | ⟨v_13, gx_14, c_15, c_16, c_17, rfl, rfl⟩)
    · refine ab_istore_n (la' := [(3, .int 0), (0, .ref 1000), (1, .ref 3006), (2, .int 2)]) dX11_readsBar_25 (by decide) rfl ?_
      refine ab_aload_n dX11_readsBar_26 rfl ?_
      refine ab_getf dX11_readsBar_27 fl_X11_54 rfl rfl ?_
      refine ab_iconst (v := 4) dX11_readsBar_30 (by decide) ?_
      refine ab_aload_n dX11_readsBar_31 rfl ?_
      refine ab_getf dX11_readsBar_32 fl_X11_177 rfl rfl ?_
      refine ab_imul dX11_readsBar_35 ?_
      refine ab_topi (v := (nI (4 * rl))) (pk_mul 4 _) ?_
      refine ab_iload_n dX11_readsBar_36 rfl ?_
      refine ab_iadd dX11_readsBar_37 ?_
      refine ab_topi (v := (nI ((4 * rl) + 2))) (nI_add _ 2) ?_
      refine ab_aload_n dX11_readsBar_38 rfl ?_
      refine ab_getf dX11_readsBar_39 fl_X11_163 rfl rfl ?_
      refine ab_iast (w1 := (wc, [ob 9 [.int m_thrown, .int m_trouble, .int m_fault, .int m_where, .ref 1001, .ref 1002, .int 40, .ref 1003, .int m_taped, .int m_linkMany, .int m_tracerMany, .int m_pointMany, .int m_pairMany, .ref 1004, .ref 1005, .ref 1006, .ref 1007, .int (nI rl), .int m_readTracers, .int m_readPoints, .int m_readPairs, .ref 1008, .ref 1009, .ref 1010, .ref 1011, .int (nI n), .int ga_7, .int gs_8, .int gt_9, .int gz_10, .int (nI e_6.1), .int (nI e_6.2), .int gv_11, .long m_n, .long m_c, .long m_d, .long m_s, .long m_e, .long m_k, .long m_x, .long m_y, .long m_g, .long m_a, .ref 1012, .ref 1013, .ref 1014, .int m_curveMany, .ref 1015, .int m_cornerMany, .int m_straightAt, .ref 1016, .long m_fitUp, .long m_fitDown, .long m_worstUp, .long m_worstDown, .ref 1017, .int m_walkLink, .int m_walkAngle, .int m_walkBranch, .int m_walkMany, .ref 1018, .ref 1019, .int m_lined, .ref 1020, .int m_actMany], z1, z2, ia 700 q3, z4, z5, z6, z7, ia 16 (upd q8 ((4 * rl) + 2) gv_11), z9, z10, z11, z12, z13, z14, z15, z16, z17, z18, z19, z20])) dX11_readsBar_42 rfl (ix_nI (by omega) (by decide)) rfl ?_
      refine ab_iload_n dX11_readsBar_43 rfl ?_
      exact ab_zret dX11_readsBar_44 rfl rfl (by decide) (Or.inl (⟨e_6, ga_7, gs_8, gt_9, gz_10, gv_11, (upd q8 ((4 * rl) + 2) gv_11), by unfold pBar_2; rw [if_pos c_1, ← (wdm_6.mp c_1).2.1]; exact c_12, rfl, rfl⟩))
    · refine ab_istore_n (la' := [(3, .int 1), (0, .ref 1000), (1, .ref 3006), (2, .int 2)]) dX11_readsBar_25 (by decide) rfl ?_
      refine ab_aload_n dX11_readsBar_26 rfl ?_
      refine ab_getf dX11_readsBar_27 fl_X11_54 rfl rfl ?_
      refine ab_iconst (v := 4) dX11_readsBar_30 (by decide) ?_
      refine ab_aload_n dX11_readsBar_31 rfl ?_
      refine ab_getf dX11_readsBar_32 fl_X11_177 rfl rfl ?_
      refine ab_imul dX11_readsBar_35 ?_
      refine ab_topi (v := (nI (4 * rl))) (pk_mul 4 _) ?_
      refine ab_iload_n dX11_readsBar_36 rfl ?_
      refine ab_iadd dX11_readsBar_37 ?_
      refine ab_topi (v := (nI ((4 * rl) + 2))) (nI_add _ 2) ?_
      refine ab_aload_n dX11_readsBar_38 rfl ?_
      refine ab_getf dX11_readsBar_39 fl_X11_163 rfl rfl ?_
      refine ab_iast (w1 := (wc, [ob 9 [.int m_thrown, .int m_trouble, .int m_fault, .int m_where, .ref 1001, .ref 1002, .int 40, .ref 1003, .int m_taped, .int m_linkMany, .int m_tracerMany, .int m_pointMany, .int m_pairMany, .ref 1004, .ref 1005, .ref 1006, .ref 1007, .int (nI rl), .int m_readTracers, .int m_readPoints, .int m_readPairs, .ref 1008, .ref 1009, .ref 1010, .ref 1011, .int (nI n), .int (nI (sk u n v_13.2)), .int (nI (tE u n (sk u n v_13.2))), .int (tk u n (sk u n v_13.2)), .int gx_14, .int m_readFault, .int m_readPlace, .int (nI v_13.1), .long m_n, .long m_c, .long m_d, .long m_s, .long m_e, .long m_k, .long m_x, .long m_y, .long m_g, .long m_a, .ref 1012, .ref 1013, .ref 1014, .int m_curveMany, .ref 1015, .int m_cornerMany, .int m_straightAt, .ref 1016, .long m_fitUp, .long m_fitDown, .long m_worstUp, .long m_worstDown, .ref 1017, .int m_walkLink, .int m_walkAngle, .int m_walkBranch, .int m_walkMany, .ref 1018, .ref 1019, .int m_lined, .ref 1020, .int m_actMany], z1, z2, ia 700 q3, z4, z5, z6, z7, ia 16 (upd q8 ((4 * rl) + 2) (nI v_13.1)), z9, z10, z11, z12, z13, z14, z15, z16, z17, z18, z19, z20])) dX11_readsBar_42 rfl (ix_nI (by omega) (by decide)) rfl ?_
      refine ab_iload_n dX11_readsBar_43 rfl ?_
      exact ab_zret dX11_readsBar_44 rfl rfl (by decide) (Or.inr (⟨v_13, gx_14, by unfold pBar_2; rw [if_pos c_1, ← (wdm_6.mp c_1).2.1]; exact c_15, ⟨by omega, by omega⟩, c_17, rfl, rfl⟩))
  · refine ab_ifne 14 dX11_readsBar_5 (by decide) (fun h_18 => absurd (by decide) h_18) (fun h_18 => ?_)
    refine ab_aload_n dX11_readsBar_8 rfl ?_
    refine ab_iconst (v := 1) dX11_readsBar_9 (by decide) ?_
    refine ab_callV (As := [.int 1]) (rest := []) dX11_readsBar_10 mv_X11_errs ml_X11_159 ⟨by decide, by decide, rfl, rfl, rfl⟩ (by decide) rfl rfl (Nat.le_of_ble_eq_true rfl) rfl c_X11_errs ?_
    rintro r w' ⟨rfl, rfl⟩
    exact ab_zret dX11_readsBar_13 rfl rfl (by decide) (Or.inl (⟨(1, sk u n p), (nI (sk u n p)), (nI (tE u n (sk u n p))), (tk u n (sk u n p)), gw, m_value, q8, by unfold pBar_2; rw [if_neg c_2], rfl, rfl⟩))
theorem c_X11_readsBar_3 {wc : List ax_E} {m_thrown m_trouble m_fault m_where m_taped m_linkMany m_tracerMany m_pointMany m_pairMany m_readTracers m_readPoints m_readPairs gw m_readFault m_readPlace m_value m_curveMany m_cornerMany m_straightAt m_walkLink m_walkAngle m_walkBranch m_walkMany m_lined m_actMany : Int32} {m_n m_c m_d m_s m_e m_k m_x m_y m_g m_a m_fitUp m_fitDown m_worstUp m_worstDown : Int64} {z1 z2 z4 z5 z6 z7 z9 z10 z11 z12 z13 z14 z15 z16 z17 z18 z19 z20 : ax_E} {q3 q8 : Nat → Int32} {u : Nat → Nat} {n p rl : Nat} (h_n : n ≤ 700) (h_v : ∀ k, k < n → u k < 256 ∧ q3 k = nI (u k)) (h_p : p ≤ n) (h_t : sk u n p ≤ tE u n (sk u n p) ∧ tE u n (sk u n p) ≤ n) (h_w : tk u n (sk u n p) = 3 → gw = nI (vl u (sk u n p) (dE u n (sk u n p) - sk u n p))) (h_s : p ≤ sk u n p ∧ sk u n p ≤ n) (h_rl : rl < 4) : Ct M_X11_readsBar [.ref 1000, .ref 3007, .int 3] (wc, [ob 9 [.int m_thrown, .int m_trouble, .int m_fault, .int m_where, .ref 1001, .ref 1002, .int 40, .ref 1003, .int m_taped, .int m_linkMany, .int m_tracerMany, .int m_pointMany, .int m_pairMany, .ref 1004, .ref 1005, .ref 1006, .ref 1007, .int (nI rl), .int m_readTracers, .int m_readPoints, .int m_readPairs, .ref 1008, .ref 1009, .ref 1010, .ref 1011, .int (nI n), .int (nI (sk u n p)), .int (nI (tE u n (sk u n p))), .int (tk u n (sk u n p)), .int gw, .int m_readFault, .int m_readPlace, .int m_value, .long m_n, .long m_c, .long m_d, .long m_s, .long m_e, .long m_k, .long m_x, .long m_y, .long m_g, .long m_a, .ref 1012, .ref 1013, .ref 1014, .int m_curveMany, .ref 1015, .int m_cornerMany, .int m_straightAt, .ref 1016, .long m_fitUp, .long m_fitDown, .long m_worstUp, .long m_worstDown, .ref 1017, .int m_walkLink, .int m_walkAngle, .int m_walkBranch, .int m_walkMany, .ref 1018, .ref 1019, .int m_lined, .ref 1020, .int m_actMany], z1, z2, ia 700 q3, z4, z5, z6, z7, ia 16 q8, z9, z10, z11, z12, z13, z14, z15, z16, z17, z18, z19, z20]) (fun r w' => (∃ e : Nat × Nat, ∃ ga : Int32, ∃ gs : Int32, ∃ gt : Int32, ∃ gz : Int32, ∃ gv : Int32, ∃ g8 : Nat → Int32, (pBar_3 u n p = .inl e) ∧ r = some (.int 0) ∧ w' = (wc, [ob 9 [.int m_thrown, .int m_trouble, .int m_fault, .int m_where, .ref 1001, .ref 1002, .int 40, .ref 1003, .int m_taped, .int m_linkMany, .int m_tracerMany, .int m_pointMany, .int m_pairMany, .ref 1004, .ref 1005, .ref 1006, .ref 1007, .int (nI rl), .int m_readTracers, .int m_readPoints, .int m_readPairs, .ref 1008, .ref 1009, .ref 1010, .ref 1011, .int (nI n), .int ga, .int gs, .int gt, .int gz, .int (nI e.1), .int (nI e.2), .int gv, .long m_n, .long m_c, .long m_d, .long m_s, .long m_e, .long m_k, .long m_x, .long m_y, .long m_g, .long m_a, .ref 1012, .ref 1013, .ref 1014, .int m_curveMany, .ref 1015, .int m_cornerMany, .int m_straightAt, .ref 1016, .long m_fitUp, .long m_fitDown, .long m_worstUp, .long m_worstDown, .ref 1017, .int m_walkLink, .int m_walkAngle, .int m_walkBranch, .int m_walkMany, .ref 1018, .ref 1019, .int m_lined, .ref 1020, .int m_actMany], z1, z2, ia 700 q3, z4, z5, z6, z7, ia 16 g8, z9, z10, z11, z12, z13, z14, z15, z16, z17, z18, z19, z20])) ∨ (∃ v : Nat × Nat, ∃ gx : Int32, (pBar_3 u n p = .inr v) ∧ (p ≤ v.2 ∧ v.2 ≤ n) ∧ (tk u n (sk u n v.2) = 3 → gx = nI (vl u (sk u n v.2) (dE u n (sk u n v.2) - sk u n v.2))) ∧ r = some (.int 1) ∧ w' = (wc, [ob 9 [.int m_thrown, .int m_trouble, .int m_fault, .int m_where, .ref 1001, .ref 1002, .int 40, .ref 1003, .int m_taped, .int m_linkMany, .int m_tracerMany, .int m_pointMany, .int m_pairMany, .ref 1004, .ref 1005, .ref 1006, .ref 1007, .int (nI rl), .int m_readTracers, .int m_readPoints, .int m_readPairs, .ref 1008, .ref 1009, .ref 1010, .ref 1011, .int (nI n), .int (nI (sk u n v.2)), .int (nI (tE u n (sk u n v.2))), .int (tk u n (sk u n v.2)), .int gx, .int m_readFault, .int m_readPlace, .int (nI v.1), .long m_n, .long m_c, .long m_d, .long m_s, .long m_e, .long m_k, .long m_x, .long m_y, .long m_g, .long m_a, .ref 1012, .ref 1013, .ref 1014, .int m_curveMany, .ref 1015, .int m_cornerMany, .int m_straightAt, .ref 1016, .long m_fitUp, .long m_fitDown, .long m_worstUp, .long m_worstDown, .ref 1017, .int m_walkLink, .int m_walkAngle, .int m_walkBranch, .int m_walkMany, .ref 1018, .ref 1019, .int m_lined, .ref 1020, .int m_actMany], z1, z2, ia 700 q3, z4, z5, z6, z7, ia 16 (upd q8 (4 * rl + 3) (nI v.1)), z9, z10, z11, z12, z13, z14, z15, z16, z17, z18, z19, z20]))) := by
  refine ct_of ⟨by decide, rfl⟩ (Nat.le_of_ble_eq_true rfl) ?_
  refine ab_aload_n dX11_readsBar_0 rfl ?_
  refine ab_aload_n dX11_readsBar_1 rfl ?_
  refine ab_callV (As := [.ref 3007]) (rest := []) dX11_readsBar_2 mv_X11_isWord ml_X11_173 ⟨by decide, by decide, rfl, rfl, rfl⟩ (by decide) rfl rfl (Nat.le_of_ble_eq_true rfl) rfl (c_X11_isWord_7 (n := n) (p := p) (gw := gw) h_n h_v (by omega) (tE_in (by omega))) ?_
  rintro r w' (⟨c_1, rfl, rfl⟩ | ⟨c_2, rfl, rfl⟩)
  · refine ab_ifne 14 dX11_readsBar_5 (by decide) (fun h_3 => ?_) (fun h_3 => absurd h_3 (by decide))
    refine ab_aload_n dX11_readsBar_14 rfl ?_
    refine ab_callV (As := []) (rest := []) dX11_readsBar_15 mv_X11_goesOn ml_X11_166 ⟨by decide, by decide, rfl, rfl, rfl⟩ (by decide) rfl rfl (Nat.le_of_ble_eq_true rfl) rfl (c_X11_goesOn (n := n) (q := (tE u n (sk u n p))) h_n h_v (by omega)) ?_
    rintro r w' ⟨gw_4, c_5, rfl, rfl⟩
    refine ab_aload_n dX11_readsBar_18 rfl ?_
    refine ab_iconst (v := 1) dX11_readsBar_19 (by decide) ?_
    refine ab_bipush (v := 18) dX11_readsBar_20 (by decide) ?_
    refine ab_callV (As := [.int 1, .int 18]) (rest := []) dX11_readsBar_22 mv_X11_reads ml_X11_169 ⟨by decide, by decide, rfl, rfl, rfl⟩ (by decide) rfl rfl (Nat.le_of_ble_eq_true rfl) rfl (c_X11_reads (n := n) (p := (tE u n (sk u n p))) (gw := gw_4) (lo := 1) (hi := 18) h_n h_v (by omega) (tE_in (by omega)) c_5 (by decide) (by decide)) ?_
    rintro r w' (⟨e_6, ga_7, gs_8, gt_9, gz_10, gv_11, c_12, rfl, rfl⟩ | ⟨v_13, gx_14, c_15, c_16, c_17, rfl, rfl⟩)
    · refine ab_istore_n (la' := [(3, .int 0), (0, .ref 1000), (1, .ref 3007), (2, .int 3)]) dX11_readsBar_25 (by decide) rfl ?_
      refine ab_aload_n dX11_readsBar_26 rfl ?_
      refine ab_getf dX11_readsBar_27 fl_X11_54 rfl rfl ?_
      refine ab_iconst (v := 4) dX11_readsBar_30 (by decide) ?_
      refine ab_aload_n dX11_readsBar_31 rfl ?_
      refine ab_getf dX11_readsBar_32 fl_X11_177 rfl rfl ?_
      refine ab_imul dX11_readsBar_35 ?_
      refine ab_topi (v := (nI (4 * rl))) (pk_mul 4 _) ?_
      refine ab_iload_n dX11_readsBar_36 rfl ?_
      refine ab_iadd dX11_readsBar_37 ?_
      refine ab_topi (v := (nI ((4 * rl) + 3))) (nI_add _ 3) ?_
      refine ab_aload_n dX11_readsBar_38 rfl ?_
      refine ab_getf dX11_readsBar_39 fl_X11_163 rfl rfl ?_
      refine ab_iast (w1 := (wc, [ob 9 [.int m_thrown, .int m_trouble, .int m_fault, .int m_where, .ref 1001, .ref 1002, .int 40, .ref 1003, .int m_taped, .int m_linkMany, .int m_tracerMany, .int m_pointMany, .int m_pairMany, .ref 1004, .ref 1005, .ref 1006, .ref 1007, .int (nI rl), .int m_readTracers, .int m_readPoints, .int m_readPairs, .ref 1008, .ref 1009, .ref 1010, .ref 1011, .int (nI n), .int ga_7, .int gs_8, .int gt_9, .int gz_10, .int (nI e_6.1), .int (nI e_6.2), .int gv_11, .long m_n, .long m_c, .long m_d, .long m_s, .long m_e, .long m_k, .long m_x, .long m_y, .long m_g, .long m_a, .ref 1012, .ref 1013, .ref 1014, .int m_curveMany, .ref 1015, .int m_cornerMany, .int m_straightAt, .ref 1016, .long m_fitUp, .long m_fitDown, .long m_worstUp, .long m_worstDown, .ref 1017, .int m_walkLink, .int m_walkAngle, .int m_walkBranch, .int m_walkMany, .ref 1018, .ref 1019, .int m_lined, .ref 1020, .int m_actMany], z1, z2, ia 700 q3, z4, z5, z6, z7, ia 16 (upd q8 ((4 * rl) + 3) gv_11), z9, z10, z11, z12, z13, z14, z15, z16, z17, z18, z19, z20])) dX11_readsBar_42 rfl (ix_nI (by omega) (by decide)) rfl ?_
      refine ab_iload_n dX11_readsBar_43 rfl ?_
      exact ab_zret dX11_readsBar_44 rfl rfl (by decide) (Or.inl (⟨e_6, ga_7, gs_8, gt_9, gz_10, gv_11, (upd q8 ((4 * rl) + 3) gv_11), by unfold pBar_3; rw [if_pos c_1, ← (wdm_7.mp c_1).2.1]; exact c_12, rfl, rfl⟩))
    · refine ab_istore_n (la' := [(3, .int 1), (0, .ref 1000), (1, .ref 3007), (2, .int 3)]) dX11_readsBar_25 (by decide) rfl ?_
      refine ab_aload_n dX11_readsBar_26 rfl ?_
      refine ab_getf dX11_readsBar_27 fl_X11_54 rfl rfl ?_
      refine ab_iconst (v := 4) dX11_readsBar_30 (by decide) ?_
      refine ab_aload_n dX11_readsBar_31 rfl ?_
      refine ab_getf dX11_readsBar_32 fl_X11_177 rfl rfl ?_
      refine ab_imul dX11_readsBar_35 ?_
      refine ab_topi (v := (nI (4 * rl))) (pk_mul 4 _) ?_
      refine ab_iload_n dX11_readsBar_36 rfl ?_
      refine ab_iadd dX11_readsBar_37 ?_
      refine ab_topi (v := (nI ((4 * rl) + 3))) (nI_add _ 3) ?_
      refine ab_aload_n dX11_readsBar_38 rfl ?_
      refine ab_getf dX11_readsBar_39 fl_X11_163 rfl rfl ?_
      refine ab_iast (w1 := (wc, [ob 9 [.int m_thrown, .int m_trouble, .int m_fault, .int m_where, .ref 1001, .ref 1002, .int 40, .ref 1003, .int m_taped, .int m_linkMany, .int m_tracerMany, .int m_pointMany, .int m_pairMany, .ref 1004, .ref 1005, .ref 1006, .ref 1007, .int (nI rl), .int m_readTracers, .int m_readPoints, .int m_readPairs, .ref 1008, .ref 1009, .ref 1010, .ref 1011, .int (nI n), .int (nI (sk u n v_13.2)), .int (nI (tE u n (sk u n v_13.2))), .int (tk u n (sk u n v_13.2)), .int gx_14, .int m_readFault, .int m_readPlace, .int (nI v_13.1), .long m_n, .long m_c, .long m_d, .long m_s, .long m_e, .long m_k, .long m_x, .long m_y, .long m_g, .long m_a, .ref 1012, .ref 1013, .ref 1014, .int m_curveMany, .ref 1015, .int m_cornerMany, .int m_straightAt, .ref 1016, .long m_fitUp, .long m_fitDown, .long m_worstUp, .long m_worstDown, .ref 1017, .int m_walkLink, .int m_walkAngle, .int m_walkBranch, .int m_walkMany, .ref 1018, .ref 1019, .int m_lined, .ref 1020, .int m_actMany], z1, z2, ia 700 q3, z4, z5, z6, z7, ia 16 (upd q8 ((4 * rl) + 3) (nI v_13.1)), z9, z10, z11, z12, z13, z14, z15, z16, z17, z18, z19, z20])) dX11_readsBar_42 rfl (ix_nI (by omega) (by decide)) rfl ?_
      refine ab_iload_n dX11_readsBar_43 rfl ?_
      exact ab_zret dX11_readsBar_44 rfl rfl (by decide) (Or.inr (⟨v_13, gx_14, by unfold pBar_3; rw [if_pos c_1, ← (wdm_7.mp c_1).2.1]; exact c_15, ⟨by omega, by omega⟩, c_17, rfl, rfl⟩))
  · refine ab_ifne 14 dX11_readsBar_5 (by decide) (fun h_18 => absurd (by decide) h_18) (fun h_18 => ?_)
    refine ab_aload_n dX11_readsBar_8 rfl ?_
    refine ab_iconst (v := 1) dX11_readsBar_9 (by decide) ?_
    refine ab_callV (As := [.int 1]) (rest := []) dX11_readsBar_10 mv_X11_errs ml_X11_159 ⟨by decide, by decide, rfl, rfl, rfl⟩ (by decide) rfl rfl (Nat.le_of_ble_eq_true rfl) rfl c_X11_errs ?_
    rintro r w' ⟨rfl, rfl⟩
    exact ab_zret dX11_readsBar_13 rfl rfl (by decide) (Or.inl (⟨(1, sk u n p), (nI (sk u n p)), (nI (tE u n (sk u n p))), (tk u n (sk u n p)), gw, m_value, q8, by unfold pBar_3; rw [if_neg c_2], rfl, rfl⟩))
theorem c_X11_readsBars {wc : List ax_E} {m_thrown m_trouble m_fault m_where m_taped m_linkMany m_tracerMany m_pointMany m_pairMany m_readTracers m_readPoints m_readPairs gw m_readFault m_readPlace m_value m_curveMany m_cornerMany m_straightAt m_walkLink m_walkAngle m_walkBranch m_walkMany m_lined m_actMany : Int32} {m_n m_c m_d m_s m_e m_k m_x m_y m_g m_a m_fitUp m_fitDown m_worstUp m_worstDown : Int64} {z1 z2 z4 z5 z6 z7 z9 z10 z11 z12 z13 z14 z15 z16 z17 z18 z19 z20 : ax_E} {q3 q8 : Nat → Int32} {u : Nat → Nat} {n p rl : Nat} (h_n : n ≤ 700) (h_v : ∀ k, k < n → u k < 256 ∧ q3 k = nI (u k)) (h_p : p ≤ n) (h_t : sk u n p ≤ tE u n (sk u n p) ∧ tE u n (sk u n p) ≤ n) (h_w : tk u n (sk u n p) = 3 → gw = nI (vl u (sk u n p) (dE u n (sk u n p) - sk u n p))) (h_s : p ≤ sk u n p ∧ sk u n p ≤ n) (h_rl : rl ≤ 4) (h_wd : wd_0 u n (sk u n p)) : Ct M_X11_readsBars [.ref 1000] (wc, [ob 9 [.int m_thrown, .int m_trouble, .int m_fault, .int m_where, .ref 1001, .ref 1002, .int 40, .ref 1003, .int m_taped, .int m_linkMany, .int m_tracerMany, .int m_pointMany, .int m_pairMany, .ref 1004, .ref 1005, .ref 1006, .ref 1007, .int (nI rl), .int m_readTracers, .int m_readPoints, .int m_readPairs, .ref 1008, .ref 1009, .ref 1010, .ref 1011, .int (nI n), .int (nI (sk u n p)), .int (nI (tE u n (sk u n p))), .int (tk u n (sk u n p)), .int gw, .int m_readFault, .int m_readPlace, .int m_value, .long m_n, .long m_c, .long m_d, .long m_s, .long m_e, .long m_k, .long m_x, .long m_y, .long m_g, .long m_a, .ref 1012, .ref 1013, .ref 1014, .int m_curveMany, .ref 1015, .int m_cornerMany, .int m_straightAt, .ref 1016, .long m_fitUp, .long m_fitDown, .long m_worstUp, .long m_worstDown, .ref 1017, .int m_walkLink, .int m_walkAngle, .int m_walkBranch, .int m_walkMany, .ref 1018, .ref 1019, .int m_lined, .ref 1020, .int m_actMany], z1, z2, ia 700 q3, z4, z5, z6, z7, ia 16 q8, z9, z10, z11, z12, z13, z14, z15, z16, z17, z18, z19, z20]) (fun r w' => (∃ e : Nat × Nat, ∃ ga : Int32, ∃ gs : Int32, ∃ gt : Int32, ∃ gz : Int32, ∃ gv : Int32, ∃ g8 : Nat → Int32, ∃ gr : Int32, (4 ≤ rl ∧ e = (3, sk u n p) ∨ rl < 4 ∧ pBars u n (sk u n p + 4) = .inl e) ∧ r = some (.int 0) ∧ w' = (wc, [ob 9 [.int m_thrown, .int m_trouble, .int m_fault, .int m_where, .ref 1001, .ref 1002, .int 40, .ref 1003, .int m_taped, .int m_linkMany, .int m_tracerMany, .int m_pointMany, .int m_pairMany, .ref 1004, .ref 1005, .ref 1006, .ref 1007, .int gr, .int m_readTracers, .int m_readPoints, .int m_readPairs, .ref 1008, .ref 1009, .ref 1010, .ref 1011, .int (nI n), .int ga, .int gs, .int gt, .int gz, .int (nI e.1), .int (nI e.2), .int gv, .long m_n, .long m_c, .long m_d, .long m_s, .long m_e, .long m_k, .long m_x, .long m_y, .long m_g, .long m_a, .ref 1012, .ref 1013, .ref 1014, .int m_curveMany, .ref 1015, .int m_cornerMany, .int m_straightAt, .ref 1016, .long m_fitUp, .long m_fitDown, .long m_worstUp, .long m_worstDown, .ref 1017, .int m_walkLink, .int m_walkAngle, .int m_walkBranch, .int m_walkMany, .ref 1018, .ref 1019, .int m_lined, .ref 1020, .int m_actMany], z1, z2, ia 700 q3, z4, z5, z6, z7, ia 16 g8, z9, z10, z11, z12, z13, z14, z15, z16, z17, z18, z19, z20])) ∨ (∃ v : Int32 × Int32 × Int32 × Int32 × Nat, ∃ gx : Int32, ∃ gv_ : Int32, (rl < 4 ∧ pBars u n (sk u n p + 4) = .inr v) ∧ (p ≤ v.2.2.2.2 ∧ v.2.2.2.2 ≤ n) ∧ (tk u n (sk u n v.2.2.2.2) = 3 → gx = nI (vl u (sk u n v.2.2.2.2) (dE u n (sk u n v.2.2.2.2) - sk u n v.2.2.2.2))) ∧ r = some (.int 1) ∧ w' = (wc, [ob 9 [.int m_thrown, .int m_trouble, .int m_fault, .int m_where, .ref 1001, .ref 1002, .int 40, .ref 1003, .int m_taped, .int m_linkMany, .int m_tracerMany, .int m_pointMany, .int m_pairMany, .ref 1004, .ref 1005, .ref 1006, .ref 1007, .int (nI (rl + 1)), .int m_readTracers, .int m_readPoints, .int m_readPairs, .ref 1008, .ref 1009, .ref 1010, .ref 1011, .int (nI n), .int (nI (sk u n v.2.2.2.2)), .int (nI (tE u n (sk u n v.2.2.2.2))), .int (tk u n (sk u n v.2.2.2.2)), .int gx, .int m_readFault, .int m_readPlace, .int gv_, .long m_n, .long m_c, .long m_d, .long m_s, .long m_e, .long m_k, .long m_x, .long m_y, .long m_g, .long m_a, .ref 1012, .ref 1013, .ref 1014, .int m_curveMany, .ref 1015, .int m_cornerMany, .int m_straightAt, .ref 1016, .long m_fitUp, .long m_fitDown, .long m_worstUp, .long m_worstDown, .ref 1017, .int m_walkLink, .int m_walkAngle, .int m_walkBranch, .int m_walkMany, .ref 1018, .ref 1019, .int m_lined, .ref 1020, .int m_actMany], z1, z2, ia 700 q3, z4, z5, z6, z7, ia 16 (put4 q8 (4 * rl) v.1 v.2.1 v.2.2.1 v.2.2.2.1), z9, z10, z11, z12, z13, z14, z15, z16, z17, z18, z19, z20]))) := by
  refine ct_of ⟨by decide, rfl⟩ (Nat.le_of_ble_eq_true rfl) ?_
  refine ab_aload_n dX11_readsBars_0 rfl ?_
  refine ab_getf dX11_readsBars_1 fl_X11_177 rfl rfl ?_
  refine ab_iconst (v := 4) dX11_readsBars_4 (by decide) ?_
  refine ab_icmpne 14 dX11_readsBars_5 (by decide) (fun h_1 => ?_) (fun h_1 => ?_)
  · have h_1n : ¬ _ := fun z => h_1 ((nI_eq (a := rl) (b := 4) (by omega) (by omega)).mpr z)
    refine ab_aload_n dX11_readsBars_14 rfl ?_
    refine ab_callV (As := []) (rest := []) dX11_readsBars_15 mv_X11_goesOn ml_X11_166 ⟨by decide, by decide, rfl, rfl, rfl⟩ (by decide) rfl rfl (Nat.le_of_ble_eq_true rfl) rfl (c_X11_goesOn (n := n) (q := (tE u n (sk u n p))) h_n h_v (by omega)) ?_
    rintro r w' ⟨gw_2, c_3, rfl, rfl⟩
    refine ab_aload_n dX11_readsBars_18 rfl ?_
    refine ab_ldcS (j := 13) dX11_readsBars_19 rfl ?_
    refine ab_iconst (v := 0) dX11_readsBars_21 (by decide) ?_
    refine ab_callV (As := [.ref 3004, .int 0]) (rest := []) dX11_readsBars_22 mv_X11_readsBar ml_X11_182 ⟨by decide, by decide, rfl, rfl, rfl⟩ (by decide) rfl rfl (Nat.le_of_ble_eq_true rfl) rfl (c_X11_readsBar_0 (n := n) (p := (tE u n (sk u n p))) (gw := gw_2) (rl := rl) h_n h_v (by omega) (tE_in (by omega)) c_3 (⟨sk_ge, sk_le (by omega)⟩) (by omega)) ?_
    rintro r w' (⟨e_4, ga_5, gs_6, gt_7, gz_8, gv_9, g8_10, c_11, rfl, rfl⟩ | ⟨v_12, gx_13, c_14, c_15, c_16, rfl, rfl⟩)
    · refine ab_ifeq 62 dX11_readsBars_25 (by decide) (fun h_17 => ?_) (fun h_17 => absurd (by decide) h_17)
      refine ab_iconst (v := 0) dX11_readsBars_62 (by decide) ?_
      refine ab_istore_n (la' := [(1, .int 0), (0, .ref 1000)]) dX11_readsBars_63 (by decide) rfl ?_
      refine ab_aload_n dX11_readsBars_64 rfl ?_
      refine ab_dup rfl dX11_readsBars_65 ?_
      refine ab_getf dX11_readsBars_66 fl_X11_177 rfl rfl ?_
      refine ab_iload_n dX11_readsBars_69 rfl ?_
      refine ab_ifeq 77 dX11_readsBars_70 (by decide) (fun h_18 => ?_) (fun h_18 => absurd (by decide) h_18)
      refine ab_iconst (v := 0) dX11_readsBars_77 (by decide) ?_
      refine ab_iadd dX11_readsBars_78 ?_
      refine ab_topi (v := (nI rl)) (Int32.add_zero _) ?_
      refine ab_putf (w1 := (wc, [ob 9 [.int m_thrown, .int m_trouble, .int m_fault, .int m_where, .ref 1001, .ref 1002, .int 40, .ref 1003, .int m_taped, .int m_linkMany, .int m_tracerMany, .int m_pointMany, .int m_pairMany, .ref 1004, .ref 1005, .ref 1006, .ref 1007, .int (nI rl), .int m_readTracers, .int m_readPoints, .int m_readPairs, .ref 1008, .ref 1009, .ref 1010, .ref 1011, .int (nI n), .int ga_5, .int gs_6, .int gt_7, .int gz_8, .int (nI e_4.1), .int (nI e_4.2), .int gv_9, .long m_n, .long m_c, .long m_d, .long m_s, .long m_e, .long m_k, .long m_x, .long m_y, .long m_g, .long m_a, .ref 1012, .ref 1013, .ref 1014, .int m_curveMany, .ref 1015, .int m_cornerMany, .int m_straightAt, .ref 1016, .long m_fitUp, .long m_fitDown, .long m_worstUp, .long m_worstDown, .ref 1017, .int m_walkLink, .int m_walkAngle, .int m_walkBranch, .int m_walkMany, .ref 1018, .ref 1019, .int m_lined, .ref 1020, .int m_actMany], z1, z2, ia 700 q3, z4, z5, z6, z7, ia 16 g8_10, z9, z10, z11, z12, z13, z14, z15, z16, z17, z18, z19, z20])) dX11_readsBars_79 fl_X11_177 rfl (Nat.le_of_ble_eq_true rfl) (fun _ => ⟨rfl, rfl⟩) rfl ?_
      refine ab_iload_n dX11_readsBars_82 rfl ?_
      exact ab_zret dX11_readsBars_83 rfl rfl (by decide) (Or.inl (⟨e_4, ga_5, gs_6, gt_7, gz_8, gv_9, g8_10, (nI rl), Or.inr ⟨by omega, by rw [← (wdm_0.mp h_wd).2.1]; simp only [pBars, sb_l c_11]⟩, rfl, rfl⟩))
    · refine ab_ifeq 62 dX11_readsBars_25 (by decide) (fun h_19 => absurd h_19 (by decide)) (fun h_19 => ?_)
      refine ab_aload_n dX11_readsBars_28 rfl ?_
      refine ab_ldcS (j := 14) dX11_readsBars_29 rfl ?_
      refine ab_iconst (v := 1) dX11_readsBars_31 (by decide) ?_
      refine ab_callV (As := [.ref 3005, .int 1]) (rest := []) dX11_readsBars_32 mv_X11_readsBar ml_X11_182 ⟨by decide, by decide, rfl, rfl, rfl⟩ (by decide) rfl rfl (Nat.le_of_ble_eq_true rfl) rfl (c_X11_readsBar_1 (n := n) (p := v_12.2) (gw := gx_13) (rl := rl) h_n h_v (by omega) (tE_in (by omega)) c_16 (⟨sk_ge, sk_le (by omega)⟩) (by omega)) ?_
      rintro r w' (⟨e_20, ga_21, gs_22, gt_23, gz_24, gv_25, g8_26, c_27, rfl, rfl⟩ | ⟨v_28, gx_29, c_30, c_31, c_32, rfl, rfl⟩)
      · refine ab_ifeq 62 dX11_readsBars_35 (by decide) (fun h_33 => ?_) (fun h_33 => absurd (by decide) h_33)
        refine ab_iconst (v := 0) dX11_readsBars_62 (by decide) ?_
        refine ab_istore_n (la' := [(1, .int 0), (0, .ref 1000)]) dX11_readsBars_63 (by decide) rfl ?_
        refine ab_aload_n dX11_readsBars_64 rfl ?_
        refine ab_dup rfl dX11_readsBars_65 ?_
        refine ab_getf dX11_readsBars_66 fl_X11_177 rfl rfl ?_
        refine ab_iload_n dX11_readsBars_69 rfl ?_
        refine ab_ifeq 77 dX11_readsBars_70 (by decide) (fun h_34 => ?_) (fun h_34 => absurd (by decide) h_34)
        refine ab_iconst (v := 0) dX11_readsBars_77 (by decide) ?_
        refine ab_iadd dX11_readsBars_78 ?_
        refine ab_topi (v := (nI rl)) (Int32.add_zero _) ?_
        refine ab_putf (w1 := (wc, [ob 9 [.int m_thrown, .int m_trouble, .int m_fault, .int m_where, .ref 1001, .ref 1002, .int 40, .ref 1003, .int m_taped, .int m_linkMany, .int m_tracerMany, .int m_pointMany, .int m_pairMany, .ref 1004, .ref 1005, .ref 1006, .ref 1007, .int (nI rl), .int m_readTracers, .int m_readPoints, .int m_readPairs, .ref 1008, .ref 1009, .ref 1010, .ref 1011, .int (nI n), .int ga_21, .int gs_22, .int gt_23, .int gz_24, .int (nI e_20.1), .int (nI e_20.2), .int gv_25, .long m_n, .long m_c, .long m_d, .long m_s, .long m_e, .long m_k, .long m_x, .long m_y, .long m_g, .long m_a, .ref 1012, .ref 1013, .ref 1014, .int m_curveMany, .ref 1015, .int m_cornerMany, .int m_straightAt, .ref 1016, .long m_fitUp, .long m_fitDown, .long m_worstUp, .long m_worstDown, .ref 1017, .int m_walkLink, .int m_walkAngle, .int m_walkBranch, .int m_walkMany, .ref 1018, .ref 1019, .int m_lined, .ref 1020, .int m_actMany], z1, z2, ia 700 q3, z4, z5, z6, z7, ia 16 g8_26, z9, z10, z11, z12, z13, z14, z15, z16, z17, z18, z19, z20])) dX11_readsBars_79 fl_X11_177 rfl (Nat.le_of_ble_eq_true rfl) (fun _ => ⟨rfl, rfl⟩) rfl ?_
        refine ab_iload_n dX11_readsBars_82 rfl ?_
        exact ab_zret dX11_readsBars_83 rfl rfl (by decide) (Or.inl (⟨e_20, ga_21, gs_22, gt_23, gz_24, gv_25, g8_26, (nI rl), Or.inr ⟨by omega, by rw [← (wdm_0.mp h_wd).2.1]; simp only [pBars, sb_r c_14, sb_l c_27]⟩, rfl, rfl⟩))
      · refine ab_ifeq 62 dX11_readsBars_35 (by decide) (fun h_35 => absurd h_35 (by decide)) (fun h_35 => ?_)
        refine ab_aload_n dX11_readsBars_38 rfl ?_
        refine ab_ldcS (j := 15) dX11_readsBars_39 rfl ?_
        refine ab_iconst (v := 2) dX11_readsBars_41 (by decide) ?_
        refine ab_callV (As := [.ref 3006, .int 2]) (rest := []) dX11_readsBars_42 mv_X11_readsBar ml_X11_182 ⟨by decide, by decide, rfl, rfl, rfl⟩ (by decide) rfl rfl (Nat.le_of_ble_eq_true rfl) rfl (c_X11_readsBar_2 (n := n) (p := v_28.2) (gw := gx_29) (rl := rl) h_n h_v (by omega) (tE_in (by omega)) c_32 (⟨sk_ge, sk_le (by omega)⟩) (by omega)) ?_
        rintro r w' (⟨e_36, ga_37, gs_38, gt_39, gz_40, gv_41, g8_42, c_43, rfl, rfl⟩ | ⟨v_44, gx_45, c_46, c_47, c_48, rfl, rfl⟩)
        · refine ab_ifeq 62 dX11_readsBars_45 (by decide) (fun h_49 => ?_) (fun h_49 => absurd (by decide) h_49)
          refine ab_iconst (v := 0) dX11_readsBars_62 (by decide) ?_
          refine ab_istore_n (la' := [(1, .int 0), (0, .ref 1000)]) dX11_readsBars_63 (by decide) rfl ?_
          refine ab_aload_n dX11_readsBars_64 rfl ?_
          refine ab_dup rfl dX11_readsBars_65 ?_
          refine ab_getf dX11_readsBars_66 fl_X11_177 rfl rfl ?_
          refine ab_iload_n dX11_readsBars_69 rfl ?_
          refine ab_ifeq 77 dX11_readsBars_70 (by decide) (fun h_50 => ?_) (fun h_50 => absurd (by decide) h_50)
          refine ab_iconst (v := 0) dX11_readsBars_77 (by decide) ?_
          refine ab_iadd dX11_readsBars_78 ?_
          refine ab_topi (v := (nI rl)) (Int32.add_zero _) ?_
          refine ab_putf (w1 := (wc, [ob 9 [.int m_thrown, .int m_trouble, .int m_fault, .int m_where, .ref 1001, .ref 1002, .int 40, .ref 1003, .int m_taped, .int m_linkMany, .int m_tracerMany, .int m_pointMany, .int m_pairMany, .ref 1004, .ref 1005, .ref 1006, .ref 1007, .int (nI rl), .int m_readTracers, .int m_readPoints, .int m_readPairs, .ref 1008, .ref 1009, .ref 1010, .ref 1011, .int (nI n), .int ga_37, .int gs_38, .int gt_39, .int gz_40, .int (nI e_36.1), .int (nI e_36.2), .int gv_41, .long m_n, .long m_c, .long m_d, .long m_s, .long m_e, .long m_k, .long m_x, .long m_y, .long m_g, .long m_a, .ref 1012, .ref 1013, .ref 1014, .int m_curveMany, .ref 1015, .int m_cornerMany, .int m_straightAt, .ref 1016, .long m_fitUp, .long m_fitDown, .long m_worstUp, .long m_worstDown, .ref 1017, .int m_walkLink, .int m_walkAngle, .int m_walkBranch, .int m_walkMany, .ref 1018, .ref 1019, .int m_lined, .ref 1020, .int m_actMany], z1, z2, ia 700 q3, z4, z5, z6, z7, ia 16 g8_42, z9, z10, z11, z12, z13, z14, z15, z16, z17, z18, z19, z20])) dX11_readsBars_79 fl_X11_177 rfl (Nat.le_of_ble_eq_true rfl) (fun _ => ⟨rfl, rfl⟩) rfl ?_
          refine ab_iload_n dX11_readsBars_82 rfl ?_
          exact ab_zret dX11_readsBars_83 rfl rfl (by decide) (Or.inl (⟨e_36, ga_37, gs_38, gt_39, gz_40, gv_41, g8_42, (nI rl), Or.inr ⟨by omega, by rw [← (wdm_0.mp h_wd).2.1]; simp only [pBars, sb_r c_14, sb_r c_30, sb_l c_43]⟩, rfl, rfl⟩))
        · refine ab_ifeq 62 dX11_readsBars_45 (by decide) (fun h_51 => absurd h_51 (by decide)) (fun h_51 => ?_)
          refine ab_aload_n dX11_readsBars_48 rfl ?_
          refine ab_ldcS (j := 16) dX11_readsBars_49 rfl ?_
          refine ab_iconst (v := 3) dX11_readsBars_51 (by decide) ?_
          refine ab_callV (As := [.ref 3007, .int 3]) (rest := []) dX11_readsBars_52 mv_X11_readsBar ml_X11_182 ⟨by decide, by decide, rfl, rfl, rfl⟩ (by decide) rfl rfl (Nat.le_of_ble_eq_true rfl) rfl (c_X11_readsBar_3 (n := n) (p := v_44.2) (gw := gx_45) (rl := rl) h_n h_v (by omega) (tE_in (by omega)) c_48 (⟨sk_ge, sk_le (by omega)⟩) (by omega)) ?_
          rintro r w' (⟨e_52, ga_53, gs_54, gt_55, gz_56, gv_57, g8_58, c_59, rfl, rfl⟩ | ⟨v_60, gx_61, c_62, c_63, c_64, rfl, rfl⟩)
          · refine ab_ifeq 62 dX11_readsBars_55 (by decide) (fun h_65 => ?_) (fun h_65 => absurd (by decide) h_65)
            refine ab_iconst (v := 0) dX11_readsBars_62 (by decide) ?_
            refine ab_istore_n (la' := [(1, .int 0), (0, .ref 1000)]) dX11_readsBars_63 (by decide) rfl ?_
            refine ab_aload_n dX11_readsBars_64 rfl ?_
            refine ab_dup rfl dX11_readsBars_65 ?_
            refine ab_getf dX11_readsBars_66 fl_X11_177 rfl rfl ?_
            refine ab_iload_n dX11_readsBars_69 rfl ?_
            refine ab_ifeq 77 dX11_readsBars_70 (by decide) (fun h_66 => ?_) (fun h_66 => absurd (by decide) h_66)
            refine ab_iconst (v := 0) dX11_readsBars_77 (by decide) ?_
            refine ab_iadd dX11_readsBars_78 ?_
            refine ab_topi (v := (nI rl)) (Int32.add_zero _) ?_
            refine ab_putf (w1 := (wc, [ob 9 [.int m_thrown, .int m_trouble, .int m_fault, .int m_where, .ref 1001, .ref 1002, .int 40, .ref 1003, .int m_taped, .int m_linkMany, .int m_tracerMany, .int m_pointMany, .int m_pairMany, .ref 1004, .ref 1005, .ref 1006, .ref 1007, .int (nI rl), .int m_readTracers, .int m_readPoints, .int m_readPairs, .ref 1008, .ref 1009, .ref 1010, .ref 1011, .int (nI n), .int ga_53, .int gs_54, .int gt_55, .int gz_56, .int (nI e_52.1), .int (nI e_52.2), .int gv_57, .long m_n, .long m_c, .long m_d, .long m_s, .long m_e, .long m_k, .long m_x, .long m_y, .long m_g, .long m_a, .ref 1012, .ref 1013, .ref 1014, .int m_curveMany, .ref 1015, .int m_cornerMany, .int m_straightAt, .ref 1016, .long m_fitUp, .long m_fitDown, .long m_worstUp, .long m_worstDown, .ref 1017, .int m_walkLink, .int m_walkAngle, .int m_walkBranch, .int m_walkMany, .ref 1018, .ref 1019, .int m_lined, .ref 1020, .int m_actMany], z1, z2, ia 700 q3, z4, z5, z6, z7, ia 16 g8_58, z9, z10, z11, z12, z13, z14, z15, z16, z17, z18, z19, z20])) dX11_readsBars_79 fl_X11_177 rfl (Nat.le_of_ble_eq_true rfl) (fun _ => ⟨rfl, rfl⟩) rfl ?_
            refine ab_iload_n dX11_readsBars_82 rfl ?_
            exact ab_zret dX11_readsBars_83 rfl rfl (by decide) (Or.inl (⟨e_52, ga_53, gs_54, gt_55, gz_56, gv_57, g8_58, (nI rl), Or.inr ⟨by omega, by rw [← (wdm_0.mp h_wd).2.1]; simp only [pBars, sb_r c_14, sb_r c_30, sb_r c_46, sb_l c_59]⟩, rfl, rfl⟩))
          · refine ab_ifeq 62 dX11_readsBars_55 (by decide) (fun h_67 => absurd h_67 (by decide)) (fun h_67 => ?_)
            refine ab_iconst (v := 1) dX11_readsBars_58 (by decide) ?_
            refine ab_goto 63 dX11_readsBars_59 (by decide) ?_
            refine ab_istore_n (la' := [(1, .int 1), (0, .ref 1000)]) dX11_readsBars_63 (by decide) rfl ?_
            refine ab_aload_n dX11_readsBars_64 rfl ?_
            refine ab_dup rfl dX11_readsBars_65 ?_
            refine ab_getf dX11_readsBars_66 fl_X11_177 rfl rfl ?_
            refine ab_iload_n dX11_readsBars_69 rfl ?_
            refine ab_ifeq 77 dX11_readsBars_70 (by decide) (fun h_68 => absurd h_68 (by decide)) (fun h_68 => ?_)
            refine ab_iconst (v := 1) dX11_readsBars_73 (by decide) ?_
            refine ab_goto 78 dX11_readsBars_74 (by decide) ?_
            refine ab_iadd dX11_readsBars_78 ?_
            refine ab_topi (v := (nI (rl + 1))) (nI_1 _) ?_
            refine ab_putf (w1 := (wc, [ob 9 [.int m_thrown, .int m_trouble, .int m_fault, .int m_where, .ref 1001, .ref 1002, .int 40, .ref 1003, .int m_taped, .int m_linkMany, .int m_tracerMany, .int m_pointMany, .int m_pairMany, .ref 1004, .ref 1005, .ref 1006, .ref 1007, .int (nI (rl + 1)), .int m_readTracers, .int m_readPoints, .int m_readPairs, .ref 1008, .ref 1009, .ref 1010, .ref 1011, .int (nI n), .int (nI (sk u n v_60.2)), .int (nI (tE u n (sk u n v_60.2))), .int (tk u n (sk u n v_60.2)), .int gx_61, .int m_readFault, .int m_readPlace, .int (nI v_60.1), .long m_n, .long m_c, .long m_d, .long m_s, .long m_e, .long m_k, .long m_x, .long m_y, .long m_g, .long m_a, .ref 1012, .ref 1013, .ref 1014, .int m_curveMany, .ref 1015, .int m_cornerMany, .int m_straightAt, .ref 1016, .long m_fitUp, .long m_fitDown, .long m_worstUp, .long m_worstDown, .ref 1017, .int m_walkLink, .int m_walkAngle, .int m_walkBranch, .int m_walkMany, .ref 1018, .ref 1019, .int m_lined, .ref 1020, .int m_actMany], z1, z2, ia 700 q3, z4, z5, z6, z7, ia 16 (upd (upd (upd (upd q8 (4 * rl) (nI v_12.1)) (4 * rl + 1) (nI v_28.1)) (4 * rl + 2) (nI v_44.1)) (4 * rl + 3) (nI v_60.1)), z9, z10, z11, z12, z13, z14, z15, z16, z17, z18, z19, z20])) dX11_readsBars_79 fl_X11_177 rfl (Nat.le_of_ble_eq_true rfl) (fun _ => ⟨rfl, rfl⟩) rfl ?_
            refine ab_iload_n dX11_readsBars_82 rfl ?_
            exact ab_zret dX11_readsBars_83 rfl rfl (by decide) (Or.inr (⟨(nI v_12.1, nI v_28.1, nI v_44.1, nI v_60.1, v_60.2), gx_61, (nI v_60.1), ⟨by omega, by rw [← (wdm_0.mp h_wd).2.1]; simp only [pBars, sb_r c_14, sb_r c_30, sb_r c_46, sb_r c_62]⟩, ⟨by show p ≤ v_60.2; omega, by show v_60.2 ≤ n; omega⟩, c_64, rfl, rfl⟩))
  · have h_1n := (nI_eq (a := rl) (b := 4) (by omega) (by omega)).mp h_1
    refine ab_aload_n dX11_readsBars_8 rfl ?_
    refine ab_iconst (v := 3) dX11_readsBars_9 (by decide) ?_
    refine ab_callV (As := [.int 3]) (rest := []) dX11_readsBars_10 mv_X11_errs ml_X11_159 ⟨by decide, by decide, rfl, rfl, rfl⟩ (by decide) rfl rfl (Nat.le_of_ble_eq_true rfl) rfl c_X11_errs ?_
    rintro r w' ⟨rfl, rfl⟩
    exact ab_zret dX11_readsBars_13 rfl rfl (by decide) (Or.inl (⟨(3, sk u n p), (nI (sk u n p)), (nI (tE u n (sk u n p))), (tk u n (sk u n p)), gw, m_value, q8, (nI rl), Or.inl ⟨by omega, rfl⟩, rfl, rfl⟩))
theorem c_X11_readsTracer {wc : List ax_E} {m_thrown m_trouble m_fault m_where m_taped m_linkMany m_tracerMany m_pointMany m_pairMany m_readLinks m_readPoints m_readPairs gw m_readFault m_readPlace m_value m_curveMany m_cornerMany m_straightAt m_walkLink m_walkAngle m_walkBranch m_walkMany m_lined m_actMany : Int32} {m_n m_c m_d m_s m_e m_k m_x m_y m_g m_a m_fitUp m_fitDown m_worstUp m_worstDown : Int64} {z1 z2 z4 z5 z6 z7 z8 z10 z11 z12 z13 z14 z15 z16 z17 z18 z19 z20 : ax_E} {q3 q9 : Nat → Int32} {u : Nat → Nat} {n p rl : Nat} (h_n : n ≤ 700) (h_v : ∀ k, k < n → u k < 256 ∧ q3 k = nI (u k)) (h_p : p ≤ n) (h_t : sk u n p ≤ tE u n (sk u n p) ∧ tE u n (sk u n p) ≤ n) (h_w : tk u n (sk u n p) = 3 → gw = nI (vl u (sk u n p) (dE u n (sk u n p) - sk u n p))) (h_s : p ≤ sk u n p ∧ sk u n p ≤ n) (h_rl : rl ≤ 4) (h_wd : wd_1 u n (sk u n p)) : Ct M_X11_readsTracer [.ref 1000] (wc, [ob 9 [.int m_thrown, .int m_trouble, .int m_fault, .int m_where, .ref 1001, .ref 1002, .int 40, .ref 1003, .int m_taped, .int m_linkMany, .int m_tracerMany, .int m_pointMany, .int m_pairMany, .ref 1004, .ref 1005, .ref 1006, .ref 1007, .int m_readLinks, .int (nI rl), .int m_readPoints, .int m_readPairs, .ref 1008, .ref 1009, .ref 1010, .ref 1011, .int (nI n), .int (nI (sk u n p)), .int (nI (tE u n (sk u n p))), .int (tk u n (sk u n p)), .int gw, .int m_readFault, .int m_readPlace, .int m_value, .long m_n, .long m_c, .long m_d, .long m_s, .long m_e, .long m_k, .long m_x, .long m_y, .long m_g, .long m_a, .ref 1012, .ref 1013, .ref 1014, .int m_curveMany, .ref 1015, .int m_cornerMany, .int m_straightAt, .ref 1016, .long m_fitUp, .long m_fitDown, .long m_worstUp, .long m_worstDown, .ref 1017, .int m_walkLink, .int m_walkAngle, .int m_walkBranch, .int m_walkMany, .ref 1018, .ref 1019, .int m_lined, .ref 1020, .int m_actMany], z1, z2, ia 700 q3, z4, z5, z6, z7, z8, ia 8 q9, z10, z11, z12, z13, z14, z15, z16, z17, z18, z19, z20]) (fun r w' => (∃ e : Nat × Nat, ∃ ga : Int32, ∃ gs : Int32, ∃ gt : Int32, ∃ gz : Int32, ∃ gv : Int32, ∃ g8 : Nat → Int32, ∃ gr : Int32, (4 ≤ rl ∧ e = (3, sk u n p) ∨ rl < 4 ∧ pTwo u n (sk u n p + 6) 20 = .inl e) ∧ r = some (.int 0) ∧ w' = (wc, [ob 9 [.int m_thrown, .int m_trouble, .int m_fault, .int m_where, .ref 1001, .ref 1002, .int 40, .ref 1003, .int m_taped, .int m_linkMany, .int m_tracerMany, .int m_pointMany, .int m_pairMany, .ref 1004, .ref 1005, .ref 1006, .ref 1007, .int m_readLinks, .int gr, .int m_readPoints, .int m_readPairs, .ref 1008, .ref 1009, .ref 1010, .ref 1011, .int (nI n), .int ga, .int gs, .int gt, .int gz, .int (nI e.1), .int (nI e.2), .int gv, .long m_n, .long m_c, .long m_d, .long m_s, .long m_e, .long m_k, .long m_x, .long m_y, .long m_g, .long m_a, .ref 1012, .ref 1013, .ref 1014, .int m_curveMany, .ref 1015, .int m_cornerMany, .int m_straightAt, .ref 1016, .long m_fitUp, .long m_fitDown, .long m_worstUp, .long m_worstDown, .ref 1017, .int m_walkLink, .int m_walkAngle, .int m_walkBranch, .int m_walkMany, .ref 1018, .ref 1019, .int m_lined, .ref 1020, .int m_actMany], z1, z2, ia 700 q3, z4, z5, z6, z7, z8, ia 8 g8, z10, z11, z12, z13, z14, z15, z16, z17, z18, z19, z20])) ∨ (∃ v : Int32 × Int32 × Nat, ∃ gx : Int32, ∃ gv_ : Int32, (rl < 4 ∧ pTwo u n (sk u n p + 6) 20 = .inr v) ∧ (p ≤ v.2.2 ∧ v.2.2 ≤ n) ∧ (tk u n (sk u n v.2.2) = 3 → gx = nI (vl u (sk u n v.2.2) (dE u n (sk u n v.2.2) - sk u n v.2.2))) ∧ r = some (.int 1) ∧ w' = (wc, [ob 9 [.int m_thrown, .int m_trouble, .int m_fault, .int m_where, .ref 1001, .ref 1002, .int 40, .ref 1003, .int m_taped, .int m_linkMany, .int m_tracerMany, .int m_pointMany, .int m_pairMany, .ref 1004, .ref 1005, .ref 1006, .ref 1007, .int m_readLinks, .int (nI (rl + 1)), .int m_readPoints, .int m_readPairs, .ref 1008, .ref 1009, .ref 1010, .ref 1011, .int (nI n), .int (nI (sk u n v.2.2)), .int (nI (tE u n (sk u n v.2.2))), .int (tk u n (sk u n v.2.2)), .int gx, .int m_readFault, .int m_readPlace, .int gv_, .long m_n, .long m_c, .long m_d, .long m_s, .long m_e, .long m_k, .long m_x, .long m_y, .long m_g, .long m_a, .ref 1012, .ref 1013, .ref 1014, .int m_curveMany, .ref 1015, .int m_cornerMany, .int m_straightAt, .ref 1016, .long m_fitUp, .long m_fitDown, .long m_worstUp, .long m_worstDown, .ref 1017, .int m_walkLink, .int m_walkAngle, .int m_walkBranch, .int m_walkMany, .ref 1018, .ref 1019, .int m_lined, .ref 1020, .int m_actMany], z1, z2, ia 700 q3, z4, z5, z6, z7, z8, ia 8 (put2 q9 (2 * rl) v.1 v.2.1), z10, z11, z12, z13, z14, z15, z16, z17, z18, z19, z20]))) := by
  refine ct_of ⟨by decide, rfl⟩ (Nat.le_of_ble_eq_true rfl) ?_
  refine ab_aload_n dX11_readsTracer_0 rfl ?_
  refine ab_getf dX11_readsTracer_1 fl_X11_192 rfl rfl ?_
  refine ab_iconst (v := 4) dX11_readsTracer_4 (by decide) ?_
  refine ab_icmpne 14 dX11_readsTracer_5 (by decide) (fun h_1 => ?_) (fun h_1 => ?_)
  · have h_1n : ¬ _ := fun z => h_1 ((nI_eq (a := rl) (b := 4) (by omega) (by omega)).mpr z)
    refine ab_aload_n dX11_readsTracer_14 rfl ?_
    refine ab_callV (As := []) (rest := []) dX11_readsTracer_15 mv_X11_goesOn ml_X11_166 ⟨by decide, by decide, rfl, rfl, rfl⟩ (by decide) rfl rfl (Nat.le_of_ble_eq_true rfl) rfl (c_X11_goesOn (n := n) (q := (tE u n (sk u n p))) h_n h_v (by omega)) ?_
    rintro r w' ⟨gw_2, c_3, rfl, rfl⟩
    refine ab_iconst (v := 0) dX11_readsTracer_18 (by decide) ?_
    refine ab_istore_n (la' := [(1, .int 0), (0, .ref 1000)]) dX11_readsTracer_19 (by decide) rfl ?_
    refine ab_iload_n dX11_readsTracer_20 rfl ?_
    refine ab_iconst (v := 2) dX11_readsTracer_21 (by decide) ?_
    refine ab_icmpge 59 dX11_readsTracer_22 (by decide) (fun h_4 => absurd h_4 (by decide)) (fun h_4 => ?_)
    refine ab_aload_n dX11_readsTracer_25 rfl ?_
    refine ab_bipush (v := 20) dX11_readsTracer_26 (by decide) ?_
    refine ab_callV (As := [.int 20]) (rest := []) dX11_readsTracer_28 mv_X11_readsSigned ml_X11_195 ⟨by decide, by decide, rfl, rfl, rfl⟩ (by decide) rfl rfl (Nat.le_of_ble_eq_true rfl) rfl (c_X11_readsSigned (n := n) (p := (tE u n (sk u n p))) (gw := gw_2) (hi := 20) h_n h_v (by omega) (tE_in (by omega)) c_3 (⟨sk_ge, sk_le (by omega)⟩) (by decide)) ?_
    rintro r w' (⟨e_5, ga_6, gs_7, gt_8, gz_9, gv_10, c_11, rfl, rfl⟩ | ⟨v_12, gx_13, c_14, c_15, c_16, rfl, rfl⟩)
    · refine ab_ifne 36 dX11_readsTracer_31 (by decide) (fun h_17 => absurd (by decide) h_17) (fun h_17 => ?_)
      refine ab_iconst (v := 0) dX11_readsTracer_34 (by decide) ?_
      exact ab_zret dX11_readsTracer_35 rfl rfl (by decide) (Or.inl (⟨e_5, ga_6, gs_7, gt_8, gz_9, gv_10, q9, (nI rl), Or.inr ⟨by omega, by rw [← (wdm_1.mp h_wd).2.1]; simp only [pTwo, sb_l c_11]⟩, rfl, rfl⟩))
    · refine ab_ifne 36 dX11_readsTracer_31 (by decide) (fun h_18 => ?_) (fun h_18 => absurd h_18 (by decide))
      refine ab_aload_n dX11_readsTracer_36 rfl ?_
      refine ab_getf dX11_readsTracer_37 fl_X11_57 rfl rfl ?_
      refine ab_iconst (v := 2) dX11_readsTracer_40 (by decide) ?_
      refine ab_aload_n dX11_readsTracer_41 rfl ?_
      refine ab_getf dX11_readsTracer_42 fl_X11_192 rfl rfl ?_
      refine ab_imul dX11_readsTracer_45 ?_
      refine ab_topi (v := (nI (2 * rl))) (pk_mul 2 _) ?_
      refine ab_iload_n dX11_readsTracer_46 rfl ?_
      refine ab_iadd dX11_readsTracer_47 ?_
      refine ab_topi (v := (nI (2 * rl))) (Int32.add_zero _) ?_
      refine ab_aload_n dX11_readsTracer_48 rfl ?_
      refine ab_getf dX11_readsTracer_49 fl_X11_163 rfl rfl ?_
      refine ab_iast (w1 := (wc, [ob 9 [.int m_thrown, .int m_trouble, .int m_fault, .int m_where, .ref 1001, .ref 1002, .int 40, .ref 1003, .int m_taped, .int m_linkMany, .int m_tracerMany, .int m_pointMany, .int m_pairMany, .ref 1004, .ref 1005, .ref 1006, .ref 1007, .int m_readLinks, .int (nI rl), .int m_readPoints, .int m_readPairs, .ref 1008, .ref 1009, .ref 1010, .ref 1011, .int (nI n), .int (nI (sk u n v_12.2)), .int (nI (tE u n (sk u n v_12.2))), .int (tk u n (sk u n v_12.2)), .int gx_13, .int m_readFault, .int m_readPlace, .int v_12.1, .long m_n, .long m_c, .long m_d, .long m_s, .long m_e, .long m_k, .long m_x, .long m_y, .long m_g, .long m_a, .ref 1012, .ref 1013, .ref 1014, .int m_curveMany, .ref 1015, .int m_cornerMany, .int m_straightAt, .ref 1016, .long m_fitUp, .long m_fitDown, .long m_worstUp, .long m_worstDown, .ref 1017, .int m_walkLink, .int m_walkAngle, .int m_walkBranch, .int m_walkMany, .ref 1018, .ref 1019, .int m_lined, .ref 1020, .int m_actMany], z1, z2, ia 700 q3, z4, z5, z6, z7, z8, ia 8 (upd q9 (2 * rl) v_12.1), z10, z11, z12, z13, z14, z15, z16, z17, z18, z19, z20])) dX11_readsTracer_52 rfl (ix_nI (by omega) (by decide)) rfl ?_
      refine ab_iinc (v := 1) (la' := [(1, .int 1), (0, .ref 1000)]) dX11_readsTracer_53 rfl (by decide) (by decide) rfl ?_
      refine ab_goto 20 dX11_readsTracer_56 (by decide) ?_
      refine ab_iload_n dX11_readsTracer_20 rfl ?_
      refine ab_iconst (v := 2) dX11_readsTracer_21 (by decide) ?_
      refine ab_icmpge 59 dX11_readsTracer_22 (by decide) (fun h_19 => absurd h_19 (by decide)) (fun h_19 => ?_)
      refine ab_aload_n dX11_readsTracer_25 rfl ?_
      refine ab_bipush (v := 20) dX11_readsTracer_26 (by decide) ?_
      refine ab_callV (As := [.int 20]) (rest := []) dX11_readsTracer_28 mv_X11_readsSigned ml_X11_195 ⟨by decide, by decide, rfl, rfl, rfl⟩ (by decide) rfl rfl (Nat.le_of_ble_eq_true rfl) rfl (c_X11_readsSigned (n := n) (p := v_12.2) (gw := gx_13) (hi := 20) h_n h_v (by omega) (tE_in (by omega)) c_16 (⟨sk_ge, sk_le (by omega)⟩) (by decide)) ?_
      rintro r w' (⟨e_20, ga_21, gs_22, gt_23, gz_24, gv_25, c_26, rfl, rfl⟩ | ⟨v_27, gx_28, c_29, c_30, c_31, rfl, rfl⟩)
      · refine ab_ifne 36 dX11_readsTracer_31 (by decide) (fun h_32 => absurd (by decide) h_32) (fun h_32 => ?_)
        refine ab_iconst (v := 0) dX11_readsTracer_34 (by decide) ?_
        exact ab_zret dX11_readsTracer_35 rfl rfl (by decide) (Or.inl (⟨e_20, ga_21, gs_22, gt_23, gz_24, gv_25, (upd q9 (2 * rl) v_12.1), (nI rl), Or.inr ⟨by omega, by rw [← (wdm_1.mp h_wd).2.1]; simp only [pTwo, sb_r c_14, sb_l c_26]⟩, rfl, rfl⟩))
      · refine ab_ifne 36 dX11_readsTracer_31 (by decide) (fun h_33 => ?_) (fun h_33 => absurd h_33 (by decide))
        refine ab_aload_n dX11_readsTracer_36 rfl ?_
        refine ab_getf dX11_readsTracer_37 fl_X11_57 rfl rfl ?_
        refine ab_iconst (v := 2) dX11_readsTracer_40 (by decide) ?_
        refine ab_aload_n dX11_readsTracer_41 rfl ?_
        refine ab_getf dX11_readsTracer_42 fl_X11_192 rfl rfl ?_
        refine ab_imul dX11_readsTracer_45 ?_
        refine ab_topi (v := (nI (2 * rl))) (pk_mul 2 _) ?_
        refine ab_iload_n dX11_readsTracer_46 rfl ?_
        refine ab_iadd dX11_readsTracer_47 ?_
        refine ab_topi (v := (nI ((2 * rl) + 1))) (nI_1 _) ?_
        refine ab_aload_n dX11_readsTracer_48 rfl ?_
        refine ab_getf dX11_readsTracer_49 fl_X11_163 rfl rfl ?_
        refine ab_iast (w1 := (wc, [ob 9 [.int m_thrown, .int m_trouble, .int m_fault, .int m_where, .ref 1001, .ref 1002, .int 40, .ref 1003, .int m_taped, .int m_linkMany, .int m_tracerMany, .int m_pointMany, .int m_pairMany, .ref 1004, .ref 1005, .ref 1006, .ref 1007, .int m_readLinks, .int (nI rl), .int m_readPoints, .int m_readPairs, .ref 1008, .ref 1009, .ref 1010, .ref 1011, .int (nI n), .int (nI (sk u n v_27.2)), .int (nI (tE u n (sk u n v_27.2))), .int (tk u n (sk u n v_27.2)), .int gx_28, .int m_readFault, .int m_readPlace, .int v_27.1, .long m_n, .long m_c, .long m_d, .long m_s, .long m_e, .long m_k, .long m_x, .long m_y, .long m_g, .long m_a, .ref 1012, .ref 1013, .ref 1014, .int m_curveMany, .ref 1015, .int m_cornerMany, .int m_straightAt, .ref 1016, .long m_fitUp, .long m_fitDown, .long m_worstUp, .long m_worstDown, .ref 1017, .int m_walkLink, .int m_walkAngle, .int m_walkBranch, .int m_walkMany, .ref 1018, .ref 1019, .int m_lined, .ref 1020, .int m_actMany], z1, z2, ia 700 q3, z4, z5, z6, z7, z8, ia 8 (upd (upd q9 (2 * rl) v_12.1) ((2 * rl) + 1) v_27.1), z10, z11, z12, z13, z14, z15, z16, z17, z18, z19, z20])) dX11_readsTracer_52 rfl (ix_nI (by omega) (by decide)) rfl ?_
        refine ab_iinc (v := 2) (la' := [(1, .int 2), (0, .ref 1000)]) dX11_readsTracer_53 rfl (by decide) (by decide) rfl ?_
        refine ab_goto 20 dX11_readsTracer_56 (by decide) ?_
        refine ab_iload_n dX11_readsTracer_20 rfl ?_
        refine ab_iconst (v := 2) dX11_readsTracer_21 (by decide) ?_
        refine ab_icmpge 59 dX11_readsTracer_22 (by decide) (fun h_34 => ?_) (fun h_34 => absurd (by decide) h_34)
        refine ab_aload_n dX11_readsTracer_59 rfl ?_
        refine ab_dup rfl dX11_readsTracer_60 ?_
        refine ab_getf dX11_readsTracer_61 fl_X11_192 rfl rfl ?_
        refine ab_iconst (v := 1) dX11_readsTracer_64 (by decide) ?_
        refine ab_iadd dX11_readsTracer_65 ?_
        refine ab_topi (v := (nI (rl + 1))) (nI_1 _) ?_
        refine ab_putf (w1 := (wc, [ob 9 [.int m_thrown, .int m_trouble, .int m_fault, .int m_where, .ref 1001, .ref 1002, .int 40, .ref 1003, .int m_taped, .int m_linkMany, .int m_tracerMany, .int m_pointMany, .int m_pairMany, .ref 1004, .ref 1005, .ref 1006, .ref 1007, .int m_readLinks, .int (nI (rl + 1)), .int m_readPoints, .int m_readPairs, .ref 1008, .ref 1009, .ref 1010, .ref 1011, .int (nI n), .int (nI (sk u n v_27.2)), .int (nI (tE u n (sk u n v_27.2))), .int (tk u n (sk u n v_27.2)), .int gx_28, .int m_readFault, .int m_readPlace, .int v_27.1, .long m_n, .long m_c, .long m_d, .long m_s, .long m_e, .long m_k, .long m_x, .long m_y, .long m_g, .long m_a, .ref 1012, .ref 1013, .ref 1014, .int m_curveMany, .ref 1015, .int m_cornerMany, .int m_straightAt, .ref 1016, .long m_fitUp, .long m_fitDown, .long m_worstUp, .long m_worstDown, .ref 1017, .int m_walkLink, .int m_walkAngle, .int m_walkBranch, .int m_walkMany, .ref 1018, .ref 1019, .int m_lined, .ref 1020, .int m_actMany], z1, z2, ia 700 q3, z4, z5, z6, z7, z8, ia 8 (upd (upd q9 (2 * rl) v_12.1) ((2 * rl) + 1) v_27.1), z10, z11, z12, z13, z14, z15, z16, z17, z18, z19, z20])) dX11_readsTracer_66 fl_X11_192 rfl (Nat.le_of_ble_eq_true rfl) (fun _ => ⟨rfl, rfl⟩) rfl ?_
        refine ab_iconst (v := 1) dX11_readsTracer_69 (by decide) ?_
        exact ab_zret dX11_readsTracer_70 rfl rfl (by decide) (Or.inr (⟨(v_12.1, v_27.1, v_27.2), gx_28, v_27.1, ⟨by omega, by rw [← (wdm_1.mp h_wd).2.1]; simp only [pTwo, sb_r c_14, sb_r c_29]⟩, ⟨by show p ≤ v_27.2; omega, by show v_27.2 ≤ n; omega⟩, c_31, rfl, rfl⟩))
  · have h_1n := (nI_eq (a := rl) (b := 4) (by omega) (by omega)).mp h_1
    refine ab_aload_n dX11_readsTracer_8 rfl ?_
    refine ab_iconst (v := 3) dX11_readsTracer_9 (by decide) ?_
    refine ab_callV (As := [.int 3]) (rest := []) dX11_readsTracer_10 mv_X11_errs ml_X11_159 ⟨by decide, by decide, rfl, rfl, rfl⟩ (by decide) rfl rfl (Nat.le_of_ble_eq_true rfl) rfl c_X11_errs ?_
    rintro r w' ⟨rfl, rfl⟩
    exact ab_zret dX11_readsTracer_13 rfl rfl (by decide) (Or.inl (⟨(3, sk u n p), (nI (sk u n p)), (nI (tE u n (sk u n p))), (tk u n (sk u n p)), gw, m_value, q9, (nI rl), Or.inl ⟨by omega, rfl⟩, rfl, rfl⟩))
theorem c_X11_readsPoint {wc : List ax_E} {m_thrown m_trouble m_fault m_where m_taped m_linkMany m_tracerMany m_pointMany m_pairMany m_readLinks m_readTracers m_readPairs gw m_readFault m_readPlace m_value m_curveMany m_cornerMany m_straightAt m_walkLink m_walkAngle m_walkBranch m_walkMany m_lined m_actMany : Int32} {m_n m_c m_d m_s m_e m_k m_x m_y m_g m_a m_fitUp m_fitDown m_worstUp m_worstDown : Int64} {z1 z2 z4 z5 z6 z7 z8 z9 z11 z12 z13 z14 z15 z16 z17 z18 z19 z20 : ax_E} {q3 q10 : Nat → Int32} {u : Nat → Nat} {n p rl : Nat} (h_n : n ≤ 700) (h_v : ∀ k, k < n → u k < 256 ∧ q3 k = nI (u k)) (h_p : p ≤ n) (h_t : sk u n p ≤ tE u n (sk u n p) ∧ tE u n (sk u n p) ≤ n) (h_w : tk u n (sk u n p) = 3 → gw = nI (vl u (sk u n p) (dE u n (sk u n p) - sk u n p))) (h_s : p ≤ sk u n p ∧ sk u n p ≤ n) (h_rl : rl ≤ 8) (h_wd : wd_2 u n (sk u n p)) : Ct M_X11_readsPoint [.ref 1000] (wc, [ob 9 [.int m_thrown, .int m_trouble, .int m_fault, .int m_where, .ref 1001, .ref 1002, .int 40, .ref 1003, .int m_taped, .int m_linkMany, .int m_tracerMany, .int m_pointMany, .int m_pairMany, .ref 1004, .ref 1005, .ref 1006, .ref 1007, .int m_readLinks, .int m_readTracers, .int (nI rl), .int m_readPairs, .ref 1008, .ref 1009, .ref 1010, .ref 1011, .int (nI n), .int (nI (sk u n p)), .int (nI (tE u n (sk u n p))), .int (tk u n (sk u n p)), .int gw, .int m_readFault, .int m_readPlace, .int m_value, .long m_n, .long m_c, .long m_d, .long m_s, .long m_e, .long m_k, .long m_x, .long m_y, .long m_g, .long m_a, .ref 1012, .ref 1013, .ref 1014, .int m_curveMany, .ref 1015, .int m_cornerMany, .int m_straightAt, .ref 1016, .long m_fitUp, .long m_fitDown, .long m_worstUp, .long m_worstDown, .ref 1017, .int m_walkLink, .int m_walkAngle, .int m_walkBranch, .int m_walkMany, .ref 1018, .ref 1019, .int m_lined, .ref 1020, .int m_actMany], z1, z2, ia 700 q3, z4, z5, z6, z7, z8, z9, ia 16 q10, z11, z12, z13, z14, z15, z16, z17, z18, z19, z20]) (fun r w' => (∃ e : Nat × Nat, ∃ ga : Int32, ∃ gs : Int32, ∃ gt : Int32, ∃ gz : Int32, ∃ gv : Int32, ∃ g8 : Nat → Int32, ∃ gr : Int32, (8 ≤ rl ∧ e = (3, sk u n p) ∨ rl < 8 ∧ pTwo u n (sk u n p + 5) 999 = .inl e) ∧ r = some (.int 0) ∧ w' = (wc, [ob 9 [.int m_thrown, .int m_trouble, .int m_fault, .int m_where, .ref 1001, .ref 1002, .int 40, .ref 1003, .int m_taped, .int m_linkMany, .int m_tracerMany, .int m_pointMany, .int m_pairMany, .ref 1004, .ref 1005, .ref 1006, .ref 1007, .int m_readLinks, .int m_readTracers, .int gr, .int m_readPairs, .ref 1008, .ref 1009, .ref 1010, .ref 1011, .int (nI n), .int ga, .int gs, .int gt, .int gz, .int (nI e.1), .int (nI e.2), .int gv, .long m_n, .long m_c, .long m_d, .long m_s, .long m_e, .long m_k, .long m_x, .long m_y, .long m_g, .long m_a, .ref 1012, .ref 1013, .ref 1014, .int m_curveMany, .ref 1015, .int m_cornerMany, .int m_straightAt, .ref 1016, .long m_fitUp, .long m_fitDown, .long m_worstUp, .long m_worstDown, .ref 1017, .int m_walkLink, .int m_walkAngle, .int m_walkBranch, .int m_walkMany, .ref 1018, .ref 1019, .int m_lined, .ref 1020, .int m_actMany], z1, z2, ia 700 q3, z4, z5, z6, z7, z8, z9, ia 16 g8, z11, z12, z13, z14, z15, z16, z17, z18, z19, z20])) ∨ (∃ v : Int32 × Int32 × Nat, ∃ gx : Int32, ∃ gv_ : Int32, (rl < 8 ∧ pTwo u n (sk u n p + 5) 999 = .inr v) ∧ (p ≤ v.2.2 ∧ v.2.2 ≤ n) ∧ (tk u n (sk u n v.2.2) = 3 → gx = nI (vl u (sk u n v.2.2) (dE u n (sk u n v.2.2) - sk u n v.2.2))) ∧ r = some (.int 1) ∧ w' = (wc, [ob 9 [.int m_thrown, .int m_trouble, .int m_fault, .int m_where, .ref 1001, .ref 1002, .int 40, .ref 1003, .int m_taped, .int m_linkMany, .int m_tracerMany, .int m_pointMany, .int m_pairMany, .ref 1004, .ref 1005, .ref 1006, .ref 1007, .int m_readLinks, .int m_readTracers, .int (nI (rl + 1)), .int m_readPairs, .ref 1008, .ref 1009, .ref 1010, .ref 1011, .int (nI n), .int (nI (sk u n v.2.2)), .int (nI (tE u n (sk u n v.2.2))), .int (tk u n (sk u n v.2.2)), .int gx, .int m_readFault, .int m_readPlace, .int gv_, .long m_n, .long m_c, .long m_d, .long m_s, .long m_e, .long m_k, .long m_x, .long m_y, .long m_g, .long m_a, .ref 1012, .ref 1013, .ref 1014, .int m_curveMany, .ref 1015, .int m_cornerMany, .int m_straightAt, .ref 1016, .long m_fitUp, .long m_fitDown, .long m_worstUp, .long m_worstDown, .ref 1017, .int m_walkLink, .int m_walkAngle, .int m_walkBranch, .int m_walkMany, .ref 1018, .ref 1019, .int m_lined, .ref 1020, .int m_actMany], z1, z2, ia 700 q3, z4, z5, z6, z7, z8, z9, ia 16 (put2 q10 (2 * rl) v.1 v.2.1), z11, z12, z13, z14, z15, z16, z17, z18, z19, z20]))) := by
  refine ct_of ⟨by decide, rfl⟩ (Nat.le_of_ble_eq_true rfl) ?_
  refine ab_aload_n dX11_readsPoint_0 rfl ?_
  refine ab_getf dX11_readsPoint_1 fl_X11_198 rfl rfl ?_
  refine ab_bipush (v := 8) dX11_readsPoint_4 (by decide) ?_
  refine ab_icmpne 15 dX11_readsPoint_6 (by decide) (fun h_1 => ?_) (fun h_1 => ?_)
  · have h_1n : ¬ _ := fun z => h_1 ((nI_eq (a := rl) (b := 8) (by omega) (by omega)).mpr z)
    refine ab_aload_n dX11_readsPoint_15 rfl ?_
    refine ab_callV (As := []) (rest := []) dX11_readsPoint_16 mv_X11_goesOn ml_X11_166 ⟨by decide, by decide, rfl, rfl, rfl⟩ (by decide) rfl rfl (Nat.le_of_ble_eq_true rfl) rfl (c_X11_goesOn (n := n) (q := (tE u n (sk u n p))) h_n h_v (by omega)) ?_
    rintro r w' ⟨gw_2, c_3, rfl, rfl⟩
    refine ab_iconst (v := 0) dX11_readsPoint_19 (by decide) ?_
    refine ab_istore_n (la' := [(1, .int 0), (0, .ref 1000)]) dX11_readsPoint_20 (by decide) rfl ?_
    refine ab_iload_n dX11_readsPoint_21 rfl ?_
    refine ab_iconst (v := 2) dX11_readsPoint_22 (by decide) ?_
    refine ab_icmpge 61 dX11_readsPoint_23 (by decide) (fun h_4 => absurd h_4 (by decide)) (fun h_4 => ?_)
    refine ab_aload_n dX11_readsPoint_26 rfl ?_
    refine ab_sipush (v := 999) dX11_readsPoint_27 (by decide) ?_
    refine ab_callV (As := [.int 999]) (rest := []) dX11_readsPoint_30 mv_X11_readsSigned ml_X11_195 ⟨by decide, by decide, rfl, rfl, rfl⟩ (by decide) rfl rfl (Nat.le_of_ble_eq_true rfl) rfl (c_X11_readsSigned (n := n) (p := (tE u n (sk u n p))) (gw := gw_2) (hi := 999) h_n h_v (by omega) (tE_in (by omega)) c_3 (⟨sk_ge, sk_le (by omega)⟩) (by decide)) ?_
    rintro r w' (⟨e_5, ga_6, gs_7, gt_8, gz_9, gv_10, c_11, rfl, rfl⟩ | ⟨v_12, gx_13, c_14, c_15, c_16, rfl, rfl⟩)
    · refine ab_ifne 38 dX11_readsPoint_33 (by decide) (fun h_17 => absurd (by decide) h_17) (fun h_17 => ?_)
      refine ab_iconst (v := 0) dX11_readsPoint_36 (by decide) ?_
      exact ab_zret dX11_readsPoint_37 rfl rfl (by decide) (Or.inl (⟨e_5, ga_6, gs_7, gt_8, gz_9, gv_10, q10, (nI rl), Or.inr ⟨by omega, by rw [← (wdm_2.mp h_wd).2.1]; simp only [pTwo, sb_l c_11]⟩, rfl, rfl⟩))
    · refine ab_ifne 38 dX11_readsPoint_33 (by decide) (fun h_18 => ?_) (fun h_18 => absurd h_18 (by decide))
      refine ab_aload_n dX11_readsPoint_38 rfl ?_
      refine ab_getf dX11_readsPoint_39 fl_X11_60 rfl rfl ?_
      refine ab_iconst (v := 2) dX11_readsPoint_42 (by decide) ?_
      refine ab_aload_n dX11_readsPoint_43 rfl ?_
      refine ab_getf dX11_readsPoint_44 fl_X11_198 rfl rfl ?_
      refine ab_imul dX11_readsPoint_47 ?_
      refine ab_topi (v := (nI (2 * rl))) (pk_mul 2 _) ?_
      refine ab_iload_n dX11_readsPoint_48 rfl ?_
      refine ab_iadd dX11_readsPoint_49 ?_
      refine ab_topi (v := (nI (2 * rl))) (Int32.add_zero _) ?_
      refine ab_aload_n dX11_readsPoint_50 rfl ?_
      refine ab_getf dX11_readsPoint_51 fl_X11_163 rfl rfl ?_
      refine ab_iast (w1 := (wc, [ob 9 [.int m_thrown, .int m_trouble, .int m_fault, .int m_where, .ref 1001, .ref 1002, .int 40, .ref 1003, .int m_taped, .int m_linkMany, .int m_tracerMany, .int m_pointMany, .int m_pairMany, .ref 1004, .ref 1005, .ref 1006, .ref 1007, .int m_readLinks, .int m_readTracers, .int (nI rl), .int m_readPairs, .ref 1008, .ref 1009, .ref 1010, .ref 1011, .int (nI n), .int (nI (sk u n v_12.2)), .int (nI (tE u n (sk u n v_12.2))), .int (tk u n (sk u n v_12.2)), .int gx_13, .int m_readFault, .int m_readPlace, .int v_12.1, .long m_n, .long m_c, .long m_d, .long m_s, .long m_e, .long m_k, .long m_x, .long m_y, .long m_g, .long m_a, .ref 1012, .ref 1013, .ref 1014, .int m_curveMany, .ref 1015, .int m_cornerMany, .int m_straightAt, .ref 1016, .long m_fitUp, .long m_fitDown, .long m_worstUp, .long m_worstDown, .ref 1017, .int m_walkLink, .int m_walkAngle, .int m_walkBranch, .int m_walkMany, .ref 1018, .ref 1019, .int m_lined, .ref 1020, .int m_actMany], z1, z2, ia 700 q3, z4, z5, z6, z7, z8, z9, ia 16 (upd q10 (2 * rl) v_12.1), z11, z12, z13, z14, z15, z16, z17, z18, z19, z20])) dX11_readsPoint_54 rfl (ix_nI (by omega) (by decide)) rfl ?_
      refine ab_iinc (v := 1) (la' := [(1, .int 1), (0, .ref 1000)]) dX11_readsPoint_55 rfl (by decide) (by decide) rfl ?_
      refine ab_goto 21 dX11_readsPoint_58 (by decide) ?_
      refine ab_iload_n dX11_readsPoint_21 rfl ?_
      refine ab_iconst (v := 2) dX11_readsPoint_22 (by decide) ?_
      refine ab_icmpge 61 dX11_readsPoint_23 (by decide) (fun h_19 => absurd h_19 (by decide)) (fun h_19 => ?_)
      refine ab_aload_n dX11_readsPoint_26 rfl ?_
      refine ab_sipush (v := 999) dX11_readsPoint_27 (by decide) ?_
      refine ab_callV (As := [.int 999]) (rest := []) dX11_readsPoint_30 mv_X11_readsSigned ml_X11_195 ⟨by decide, by decide, rfl, rfl, rfl⟩ (by decide) rfl rfl (Nat.le_of_ble_eq_true rfl) rfl (c_X11_readsSigned (n := n) (p := v_12.2) (gw := gx_13) (hi := 999) h_n h_v (by omega) (tE_in (by omega)) c_16 (⟨sk_ge, sk_le (by omega)⟩) (by decide)) ?_
      rintro r w' (⟨e_20, ga_21, gs_22, gt_23, gz_24, gv_25, c_26, rfl, rfl⟩ | ⟨v_27, gx_28, c_29, c_30, c_31, rfl, rfl⟩)
      · refine ab_ifne 38 dX11_readsPoint_33 (by decide) (fun h_32 => absurd (by decide) h_32) (fun h_32 => ?_)
        refine ab_iconst (v := 0) dX11_readsPoint_36 (by decide) ?_
        exact ab_zret dX11_readsPoint_37 rfl rfl (by decide) (Or.inl (⟨e_20, ga_21, gs_22, gt_23, gz_24, gv_25, (upd q10 (2 * rl) v_12.1), (nI rl), Or.inr ⟨by omega, by rw [← (wdm_2.mp h_wd).2.1]; simp only [pTwo, sb_r c_14, sb_l c_26]⟩, rfl, rfl⟩))
      · refine ab_ifne 38 dX11_readsPoint_33 (by decide) (fun h_33 => ?_) (fun h_33 => absurd h_33 (by decide))
        refine ab_aload_n dX11_readsPoint_38 rfl ?_
        refine ab_getf dX11_readsPoint_39 fl_X11_60 rfl rfl ?_
        refine ab_iconst (v := 2) dX11_readsPoint_42 (by decide) ?_
        refine ab_aload_n dX11_readsPoint_43 rfl ?_
        refine ab_getf dX11_readsPoint_44 fl_X11_198 rfl rfl ?_
        refine ab_imul dX11_readsPoint_47 ?_
        refine ab_topi (v := (nI (2 * rl))) (pk_mul 2 _) ?_
        refine ab_iload_n dX11_readsPoint_48 rfl ?_
        refine ab_iadd dX11_readsPoint_49 ?_
        refine ab_topi (v := (nI ((2 * rl) + 1))) (nI_1 _) ?_
        refine ab_aload_n dX11_readsPoint_50 rfl ?_
        refine ab_getf dX11_readsPoint_51 fl_X11_163 rfl rfl ?_
        refine ab_iast (w1 := (wc, [ob 9 [.int m_thrown, .int m_trouble, .int m_fault, .int m_where, .ref 1001, .ref 1002, .int 40, .ref 1003, .int m_taped, .int m_linkMany, .int m_tracerMany, .int m_pointMany, .int m_pairMany, .ref 1004, .ref 1005, .ref 1006, .ref 1007, .int m_readLinks, .int m_readTracers, .int (nI rl), .int m_readPairs, .ref 1008, .ref 1009, .ref 1010, .ref 1011, .int (nI n), .int (nI (sk u n v_27.2)), .int (nI (tE u n (sk u n v_27.2))), .int (tk u n (sk u n v_27.2)), .int gx_28, .int m_readFault, .int m_readPlace, .int v_27.1, .long m_n, .long m_c, .long m_d, .long m_s, .long m_e, .long m_k, .long m_x, .long m_y, .long m_g, .long m_a, .ref 1012, .ref 1013, .ref 1014, .int m_curveMany, .ref 1015, .int m_cornerMany, .int m_straightAt, .ref 1016, .long m_fitUp, .long m_fitDown, .long m_worstUp, .long m_worstDown, .ref 1017, .int m_walkLink, .int m_walkAngle, .int m_walkBranch, .int m_walkMany, .ref 1018, .ref 1019, .int m_lined, .ref 1020, .int m_actMany], z1, z2, ia 700 q3, z4, z5, z6, z7, z8, z9, ia 16 (upd (upd q10 (2 * rl) v_12.1) ((2 * rl) + 1) v_27.1), z11, z12, z13, z14, z15, z16, z17, z18, z19, z20])) dX11_readsPoint_54 rfl (ix_nI (by omega) (by decide)) rfl ?_
        refine ab_iinc (v := 2) (la' := [(1, .int 2), (0, .ref 1000)]) dX11_readsPoint_55 rfl (by decide) (by decide) rfl ?_
        refine ab_goto 21 dX11_readsPoint_58 (by decide) ?_
        refine ab_iload_n dX11_readsPoint_21 rfl ?_
        refine ab_iconst (v := 2) dX11_readsPoint_22 (by decide) ?_
        refine ab_icmpge 61 dX11_readsPoint_23 (by decide) (fun h_34 => ?_) (fun h_34 => absurd (by decide) h_34)
        refine ab_aload_n dX11_readsPoint_61 rfl ?_
        refine ab_dup rfl dX11_readsPoint_62 ?_
        refine ab_getf dX11_readsPoint_63 fl_X11_198 rfl rfl ?_
        refine ab_iconst (v := 1) dX11_readsPoint_66 (by decide) ?_
        refine ab_iadd dX11_readsPoint_67 ?_
        refine ab_topi (v := (nI (rl + 1))) (nI_1 _) ?_
        refine ab_putf (w1 := (wc, [ob 9 [.int m_thrown, .int m_trouble, .int m_fault, .int m_where, .ref 1001, .ref 1002, .int 40, .ref 1003, .int m_taped, .int m_linkMany, .int m_tracerMany, .int m_pointMany, .int m_pairMany, .ref 1004, .ref 1005, .ref 1006, .ref 1007, .int m_readLinks, .int m_readTracers, .int (nI (rl + 1)), .int m_readPairs, .ref 1008, .ref 1009, .ref 1010, .ref 1011, .int (nI n), .int (nI (sk u n v_27.2)), .int (nI (tE u n (sk u n v_27.2))), .int (tk u n (sk u n v_27.2)), .int gx_28, .int m_readFault, .int m_readPlace, .int v_27.1, .long m_n, .long m_c, .long m_d, .long m_s, .long m_e, .long m_k, .long m_x, .long m_y, .long m_g, .long m_a, .ref 1012, .ref 1013, .ref 1014, .int m_curveMany, .ref 1015, .int m_cornerMany, .int m_straightAt, .ref 1016, .long m_fitUp, .long m_fitDown, .long m_worstUp, .long m_worstDown, .ref 1017, .int m_walkLink, .int m_walkAngle, .int m_walkBranch, .int m_walkMany, .ref 1018, .ref 1019, .int m_lined, .ref 1020, .int m_actMany], z1, z2, ia 700 q3, z4, z5, z6, z7, z8, z9, ia 16 (upd (upd q10 (2 * rl) v_12.1) ((2 * rl) + 1) v_27.1), z11, z12, z13, z14, z15, z16, z17, z18, z19, z20])) dX11_readsPoint_68 fl_X11_198 rfl (Nat.le_of_ble_eq_true rfl) (fun _ => ⟨rfl, rfl⟩) rfl ?_
        refine ab_iconst (v := 1) dX11_readsPoint_71 (by decide) ?_
        exact ab_zret dX11_readsPoint_72 rfl rfl (by decide) (Or.inr (⟨(v_12.1, v_27.1, v_27.2), gx_28, v_27.1, ⟨by omega, by rw [← (wdm_2.mp h_wd).2.1]; simp only [pTwo, sb_r c_14, sb_r c_29]⟩, ⟨by show p ≤ v_27.2; omega, by show v_27.2 ≤ n; omega⟩, c_31, rfl, rfl⟩))
  · have h_1n := (nI_eq (a := rl) (b := 8) (by omega) (by omega)).mp h_1
    refine ab_aload_n dX11_readsPoint_9 rfl ?_
    refine ab_iconst (v := 3) dX11_readsPoint_10 (by decide) ?_
    refine ab_callV (As := [.int 3]) (rest := []) dX11_readsPoint_11 mv_X11_errs ml_X11_159 ⟨by decide, by decide, rfl, rfl, rfl⟩ (by decide) rfl rfl (Nat.le_of_ble_eq_true rfl) rfl c_X11_errs ?_
    rintro r w' ⟨rfl, rfl⟩
    exact ab_zret dX11_readsPoint_14 rfl rfl (by decide) (Or.inl (⟨(3, sk u n p), (nI (sk u n p)), (nI (tE u n (sk u n p))), (tk u n (sk u n p)), gw, m_value, q10, (nI rl), Or.inl ⟨by omega, rfl⟩, rfl, rfl⟩))
theorem c_X11_readsPair {wc : List ax_E} {m_thrown m_trouble m_fault m_where m_taped m_linkMany m_tracerMany m_pointMany m_pairMany m_readLinks m_readTracers m_readPoints gw m_readFault m_readPlace m_value m_curveMany m_cornerMany m_straightAt m_walkLink m_walkAngle m_walkBranch m_walkMany m_lined m_actMany : Int32} {m_n m_c m_d m_s m_e m_k m_x m_y m_g m_a m_fitUp m_fitDown m_worstUp m_worstDown : Int64} {z1 z2 z4 z5 z6 z7 z8 z9 z10 z12 z13 z14 z15 z16 z17 z18 z19 z20 : ax_E} {q3 q11 : Nat → Int32} {u : Nat → Nat} {n p rl : Nat} (h_n : n ≤ 700) (h_v : ∀ k, k < n → u k < 256 ∧ q3 k = nI (u k)) (h_p : p ≤ n) (h_t : sk u n p ≤ tE u n (sk u n p) ∧ tE u n (sk u n p) ≤ n) (h_w : tk u n (sk u n p) = 3 → gw = nI (vl u (sk u n p) (dE u n (sk u n p) - sk u n p))) (h_s : p ≤ sk u n p ∧ sk u n p ≤ n) (h_rl : rl ≤ 4) (h_wd : wd_3 u n (sk u n p)) : Ct M_X11_readsPair [.ref 1000] (wc, [ob 9 [.int m_thrown, .int m_trouble, .int m_fault, .int m_where, .ref 1001, .ref 1002, .int 40, .ref 1003, .int m_taped, .int m_linkMany, .int m_tracerMany, .int m_pointMany, .int m_pairMany, .ref 1004, .ref 1005, .ref 1006, .ref 1007, .int m_readLinks, .int m_readTracers, .int m_readPoints, .int (nI rl), .ref 1008, .ref 1009, .ref 1010, .ref 1011, .int (nI n), .int (nI (sk u n p)), .int (nI (tE u n (sk u n p))), .int (tk u n (sk u n p)), .int gw, .int m_readFault, .int m_readPlace, .int m_value, .long m_n, .long m_c, .long m_d, .long m_s, .long m_e, .long m_k, .long m_x, .long m_y, .long m_g, .long m_a, .ref 1012, .ref 1013, .ref 1014, .int m_curveMany, .ref 1015, .int m_cornerMany, .int m_straightAt, .ref 1016, .long m_fitUp, .long m_fitDown, .long m_worstUp, .long m_worstDown, .ref 1017, .int m_walkLink, .int m_walkAngle, .int m_walkBranch, .int m_walkMany, .ref 1018, .ref 1019, .int m_lined, .ref 1020, .int m_actMany], z1, z2, ia 700 q3, z4, z5, z6, z7, z8, z9, z10, ia 16 q11, z12, z13, z14, z15, z16, z17, z18, z19, z20]) (fun r w' => (∃ e : Nat × Nat, ∃ ga : Int32, ∃ gs : Int32, ∃ gt : Int32, ∃ gz : Int32, ∃ gv : Int32, ∃ g8 : Nat → Int32, ∃ gr : Int32, (4 ≤ rl ∧ e = (3, sk u n p) ∨ rl < 4 ∧ pPair u n (sk u n p + 4) = .inl e) ∧ r = some (.int 0) ∧ w' = (wc, [ob 9 [.int m_thrown, .int m_trouble, .int m_fault, .int m_where, .ref 1001, .ref 1002, .int 40, .ref 1003, .int m_taped, .int m_linkMany, .int m_tracerMany, .int m_pointMany, .int m_pairMany, .ref 1004, .ref 1005, .ref 1006, .ref 1007, .int m_readLinks, .int m_readTracers, .int m_readPoints, .int gr, .ref 1008, .ref 1009, .ref 1010, .ref 1011, .int (nI n), .int ga, .int gs, .int gt, .int gz, .int (nI e.1), .int (nI e.2), .int gv, .long m_n, .long m_c, .long m_d, .long m_s, .long m_e, .long m_k, .long m_x, .long m_y, .long m_g, .long m_a, .ref 1012, .ref 1013, .ref 1014, .int m_curveMany, .ref 1015, .int m_cornerMany, .int m_straightAt, .ref 1016, .long m_fitUp, .long m_fitDown, .long m_worstUp, .long m_worstDown, .ref 1017, .int m_walkLink, .int m_walkAngle, .int m_walkBranch, .int m_walkMany, .ref 1018, .ref 1019, .int m_lined, .ref 1020, .int m_actMany], z1, z2, ia 700 q3, z4, z5, z6, z7, z8, z9, z10, ia 16 g8, z12, z13, z14, z15, z16, z17, z18, z19, z20])) ∨ (∃ v : Int32 × Int32 × Int32 × Int32 × Nat, ∃ gx : Int32, ∃ gv_ : Int32, (rl < 4 ∧ pPair u n (sk u n p + 4) = .inr v) ∧ (p ≤ v.2.2.2.2 ∧ v.2.2.2.2 ≤ n) ∧ (tk u n (sk u n v.2.2.2.2) = 3 → gx = nI (vl u (sk u n v.2.2.2.2) (dE u n (sk u n v.2.2.2.2) - sk u n v.2.2.2.2))) ∧ r = some (.int 1) ∧ w' = (wc, [ob 9 [.int m_thrown, .int m_trouble, .int m_fault, .int m_where, .ref 1001, .ref 1002, .int 40, .ref 1003, .int m_taped, .int m_linkMany, .int m_tracerMany, .int m_pointMany, .int m_pairMany, .ref 1004, .ref 1005, .ref 1006, .ref 1007, .int m_readLinks, .int m_readTracers, .int m_readPoints, .int (nI (rl + 1)), .ref 1008, .ref 1009, .ref 1010, .ref 1011, .int (nI n), .int (nI (sk u n v.2.2.2.2)), .int (nI (tE u n (sk u n v.2.2.2.2))), .int (tk u n (sk u n v.2.2.2.2)), .int gx, .int m_readFault, .int m_readPlace, .int gv_, .long m_n, .long m_c, .long m_d, .long m_s, .long m_e, .long m_k, .long m_x, .long m_y, .long m_g, .long m_a, .ref 1012, .ref 1013, .ref 1014, .int m_curveMany, .ref 1015, .int m_cornerMany, .int m_straightAt, .ref 1016, .long m_fitUp, .long m_fitDown, .long m_worstUp, .long m_worstDown, .ref 1017, .int m_walkLink, .int m_walkAngle, .int m_walkBranch, .int m_walkMany, .ref 1018, .ref 1019, .int m_lined, .ref 1020, .int m_actMany], z1, z2, ia 700 q3, z4, z5, z6, z7, z8, z9, z10, ia 16 (put4 q11 (4 * rl) v.1 v.2.1 v.2.2.1 v.2.2.2.1), z12, z13, z14, z15, z16, z17, z18, z19, z20]))) := by
  refine ct_of ⟨by decide, rfl⟩ (Nat.le_of_ble_eq_true rfl) ?_
  refine ab_aload_n dX11_readsPair_0 rfl ?_
  refine ab_getf dX11_readsPair_1 fl_X11_201 rfl rfl ?_
  refine ab_iconst (v := 4) dX11_readsPair_4 (by decide) ?_
  refine ab_icmpne 14 dX11_readsPair_5 (by decide) (fun h_1 => ?_) (fun h_1 => ?_)
  · have h_1n : ¬ _ := fun z => h_1 ((nI_eq (a := rl) (b := 4) (by omega) (by omega)).mpr z)
    refine ab_aload_n dX11_readsPair_14 rfl ?_
    refine ab_callV (As := []) (rest := []) dX11_readsPair_15 mv_X11_goesOn ml_X11_166 ⟨by decide, by decide, rfl, rfl, rfl⟩ (by decide) rfl rfl (Nat.le_of_ble_eq_true rfl) rfl (c_X11_goesOn (n := n) (q := (tE u n (sk u n p))) h_n h_v (by omega)) ?_
    rintro r w' ⟨gw_2, c_3, rfl, rfl⟩
    refine ab_iconst (v := 0) dX11_readsPair_18 (by decide) ?_
    refine ab_istore_n (la' := [(1, .int 0), (0, .ref 1000)]) dX11_readsPair_19 (by decide) rfl ?_
    refine ab_iload_n dX11_readsPair_20 rfl ?_
    refine ab_iconst (v := 4) dX11_readsPair_21 (by decide) ?_
    refine ab_icmpge 108 dX11_readsPair_22 (by decide) (fun h_4 => absurd h_4 (by decide)) (fun h_4 => ?_)
    refine ab_aload_n dX11_readsPair_25 rfl ?_
    refine ab_iconst (v := 5) dX11_readsPair_26 (by decide) ?_
    refine ab_callV (As := [.int 5]) (rest := []) dX11_readsPair_27 mv_X11_readsSigned ml_X11_195 ⟨by decide, by decide, rfl, rfl, rfl⟩ (by decide) rfl rfl (Nat.le_of_ble_eq_true rfl) rfl (c_X11_readsSigned (n := n) (p := (tE u n (sk u n p))) (gw := gw_2) (hi := 5) h_n h_v (by omega) (tE_in (by omega)) c_3 (⟨sk_ge, sk_le (by omega)⟩) (by decide)) ?_
    rintro r w' (⟨e_5, ga_6, gs_7, gt_8, gz_9, gv_10, c_11, rfl, rfl⟩ | ⟨v_12, gx_13, c_14, c_15, c_16, rfl, rfl⟩)
    · refine ab_ifne 35 dX11_readsPair_30 (by decide) (fun h_17 => absurd (by decide) h_17) (fun h_17 => ?_)
      refine ab_iconst (v := 0) dX11_readsPair_33 (by decide) ?_
      exact ab_zret dX11_readsPair_34 rfl rfl (by decide) (Or.inl (⟨e_5, ga_6, gs_7, gt_8, gz_9, gv_10, q11, (nI rl), Or.inr ⟨by omega, by rw [← (wdm_3.mp h_wd).2.1]; simp only [pPair, pAng, sb_L, sb_R, sb_l c_11]⟩, rfl, rfl⟩))
    · refine ab_ifne 35 dX11_readsPair_30 (by decide) (fun h_18 => ?_) (fun h_18 => absurd h_18 (by decide))
      refine ab_aload_n dX11_readsPair_35 rfl ?_
      refine ab_getf dX11_readsPair_36 fl_X11_63 rfl rfl ?_
      refine ab_iconst (v := 4) dX11_readsPair_39 (by decide) ?_
      refine ab_aload_n dX11_readsPair_40 rfl ?_
      refine ab_getf dX11_readsPair_41 fl_X11_201 rfl rfl ?_
      refine ab_imul dX11_readsPair_44 ?_
      refine ab_topi (v := (nI (4 * rl))) (pk_mul 4 _) ?_
      refine ab_iload_n dX11_readsPair_45 rfl ?_
      refine ab_iadd dX11_readsPair_46 ?_
      refine ab_topi (v := (nI (4 * rl))) (Int32.add_zero _) ?_
      refine ab_aload_n dX11_readsPair_47 rfl ?_
      refine ab_getf dX11_readsPair_48 fl_X11_163 rfl rfl ?_
      refine ab_iast (w1 := (wc, [ob 9 [.int m_thrown, .int m_trouble, .int m_fault, .int m_where, .ref 1001, .ref 1002, .int 40, .ref 1003, .int m_taped, .int m_linkMany, .int m_tracerMany, .int m_pointMany, .int m_pairMany, .ref 1004, .ref 1005, .ref 1006, .ref 1007, .int m_readLinks, .int m_readTracers, .int m_readPoints, .int (nI rl), .ref 1008, .ref 1009, .ref 1010, .ref 1011, .int (nI n), .int (nI (sk u n v_12.2)), .int (nI (tE u n (sk u n v_12.2))), .int (tk u n (sk u n v_12.2)), .int gx_13, .int m_readFault, .int m_readPlace, .int v_12.1, .long m_n, .long m_c, .long m_d, .long m_s, .long m_e, .long m_k, .long m_x, .long m_y, .long m_g, .long m_a, .ref 1012, .ref 1013, .ref 1014, .int m_curveMany, .ref 1015, .int m_cornerMany, .int m_straightAt, .ref 1016, .long m_fitUp, .long m_fitDown, .long m_worstUp, .long m_worstDown, .ref 1017, .int m_walkLink, .int m_walkAngle, .int m_walkBranch, .int m_walkMany, .ref 1018, .ref 1019, .int m_lined, .ref 1020, .int m_actMany], z1, z2, ia 700 q3, z4, z5, z6, z7, z8, z9, z10, ia 16 (upd q11 (4 * rl) v_12.1), z12, z13, z14, z15, z16, z17, z18, z19, z20])) dX11_readsPair_51 rfl (ix_nI (by omega) (by decide)) rfl ?_
      refine ab_aload_n dX11_readsPair_52 rfl ?_
      refine ab_aload_n dX11_readsPair_53 rfl ?_
      refine ab_getf dX11_readsPair_54 fl_X11_63 rfl rfl ?_
      refine ab_iconst (v := 4) dX11_readsPair_57 (by decide) ?_
      refine ab_aload_n dX11_readsPair_58 rfl ?_
      refine ab_getf dX11_readsPair_59 fl_X11_201 rfl rfl ?_
      refine ab_imul dX11_readsPair_62 ?_
      refine ab_topi (v := (nI (4 * rl))) (pk_mul 4 _) ?_
      refine ab_iload_n dX11_readsPair_63 rfl ?_
      refine ab_iadd dX11_readsPair_64 ?_
      refine ab_topi (v := (nI (4 * rl))) (Int32.add_zero _) ?_
      refine ab_iald (j := (4 * rl)) dX11_readsPair_65 rfl (ix_nI (by omega) (by decide)) ?_
      refine ab_topi (v := v_12.1) upd_at ?_
      refine ab_ifne 73 dX11_readsPair_66 (by decide) (fun h_19 => ?_) (fun h_19 => ?_)
      · refine ab_iconst (v := 0) dX11_readsPair_73 (by decide) ?_
        refine ab_iconst (v := 5) dX11_readsPair_74 (by decide) ?_
        refine ab_callV (As := [.int 0, .int 5]) (rest := []) dX11_readsPair_75 mv_X11_reads ml_X11_169 ⟨by decide, by decide, rfl, rfl, rfl⟩ (by decide) rfl rfl (Nat.le_of_ble_eq_true rfl) rfl (c_X11_reads (n := n) (p := v_12.2) (gw := gx_13) (lo := 0) (hi := 5) h_n h_v (by omega) (tE_in (by omega)) c_16 (by decide) (by decide)) ?_
        rintro r w' (⟨e_20, ga_21, gs_22, gt_23, gz_24, gv_25, c_26, rfl, rfl⟩ | ⟨v_27, gx_28, c_29, c_30, c_31, rfl, rfl⟩)
        · refine ab_ifne 83 dX11_readsPair_78 (by decide) (fun h_32 => absurd (by decide) h_32) (fun h_32 => ?_)
          refine ab_iconst (v := 0) dX11_readsPair_81 (by decide) ?_
          exact ab_zret dX11_readsPair_82 rfl rfl (by decide) (Or.inl (⟨e_20, ga_21, gs_22, gt_23, gz_24, gv_25, (upd q11 (4 * rl) v_12.1), (nI rl), Or.inr ⟨by omega, by rw [← (wdm_3.mp h_wd).2.1]; simp only [pPair, pAng, sb_L, sb_R, sb_r c_14, if_neg (show ¬ v_12.1 = 0 from h_19), sb_l c_26]⟩, rfl, rfl⟩))
        · refine ab_ifne 83 dX11_readsPair_78 (by decide) (fun h_33 => ?_) (fun h_33 => absurd h_33 (by decide))
          refine ab_aload_n dX11_readsPair_83 rfl ?_
          refine ab_getf dX11_readsPair_84 fl_X11_63 rfl rfl ?_
          refine ab_iconst (v := 4) dX11_readsPair_87 (by decide) ?_
          refine ab_aload_n dX11_readsPair_88 rfl ?_
          refine ab_getf dX11_readsPair_89 fl_X11_201 rfl rfl ?_
          refine ab_imul dX11_readsPair_92 ?_
          refine ab_topi (v := (nI (4 * rl))) (pk_mul 4 _) ?_
          refine ab_iload_n dX11_readsPair_93 rfl ?_
          refine ab_iadd dX11_readsPair_94 ?_
          refine ab_topi (v := (nI (4 * rl))) (Int32.add_zero _) ?_
          refine ab_iconst (v := 1) dX11_readsPair_95 (by decide) ?_
          refine ab_iadd dX11_readsPair_96 ?_
          refine ab_topi (v := (nI ((4 * rl) + 1))) (nI_1 _) ?_
          refine ab_aload_n dX11_readsPair_97 rfl ?_
          refine ab_getf dX11_readsPair_98 fl_X11_163 rfl rfl ?_
          refine ab_iast (w1 := (wc, [ob 9 [.int m_thrown, .int m_trouble, .int m_fault, .int m_where, .ref 1001, .ref 1002, .int 40, .ref 1003, .int m_taped, .int m_linkMany, .int m_tracerMany, .int m_pointMany, .int m_pairMany, .ref 1004, .ref 1005, .ref 1006, .ref 1007, .int m_readLinks, .int m_readTracers, .int m_readPoints, .int (nI rl), .ref 1008, .ref 1009, .ref 1010, .ref 1011, .int (nI n), .int (nI (sk u n v_27.2)), .int (nI (tE u n (sk u n v_27.2))), .int (tk u n (sk u n v_27.2)), .int gx_28, .int m_readFault, .int m_readPlace, .int (nI v_27.1), .long m_n, .long m_c, .long m_d, .long m_s, .long m_e, .long m_k, .long m_x, .long m_y, .long m_g, .long m_a, .ref 1012, .ref 1013, .ref 1014, .int m_curveMany, .ref 1015, .int m_cornerMany, .int m_straightAt, .ref 1016, .long m_fitUp, .long m_fitDown, .long m_worstUp, .long m_worstDown, .ref 1017, .int m_walkLink, .int m_walkAngle, .int m_walkBranch, .int m_walkMany, .ref 1018, .ref 1019, .int m_lined, .ref 1020, .int m_actMany], z1, z2, ia 700 q3, z4, z5, z6, z7, z8, z9, z10, ia 16 (upd (upd q11 (4 * rl) v_12.1) ((4 * rl) + 1) (nI v_27.1)), z12, z13, z14, z15, z16, z17, z18, z19, z20])) dX11_readsPair_101 rfl (ix_nI (by omega) (by decide)) rfl ?_
          refine ab_iinc (v := 2) (la' := [(1, .int 2), (0, .ref 1000)]) dX11_readsPair_102 rfl (by decide) (by decide) rfl ?_
          refine ab_goto 20 dX11_readsPair_105 (by decide) ?_
          refine ab_iload_n dX11_readsPair_20 rfl ?_
          refine ab_iconst (v := 4) dX11_readsPair_21 (by decide) ?_
          refine ab_icmpge 108 dX11_readsPair_22 (by decide) (fun h_34 => absurd h_34 (by decide)) (fun h_34 => ?_)
          refine ab_aload_n dX11_readsPair_25 rfl ?_
          refine ab_iconst (v := 5) dX11_readsPair_26 (by decide) ?_
          refine ab_callV (As := [.int 5]) (rest := []) dX11_readsPair_27 mv_X11_readsSigned ml_X11_195 ⟨by decide, by decide, rfl, rfl, rfl⟩ (by decide) rfl rfl (Nat.le_of_ble_eq_true rfl) rfl (c_X11_readsSigned (n := n) (p := v_27.2) (gw := gx_28) (hi := 5) h_n h_v (by omega) (tE_in (by omega)) c_31 (⟨sk_ge, sk_le (by omega)⟩) (by decide)) ?_
          rintro r w' (⟨e_35, ga_36, gs_37, gt_38, gz_39, gv_40, c_41, rfl, rfl⟩ | ⟨v_42, gx_43, c_44, c_45, c_46, rfl, rfl⟩)
          · refine ab_ifne 35 dX11_readsPair_30 (by decide) (fun h_47 => absurd (by decide) h_47) (fun h_47 => ?_)
            refine ab_iconst (v := 0) dX11_readsPair_33 (by decide) ?_
            exact ab_zret dX11_readsPair_34 rfl rfl (by decide) (Or.inl (⟨e_35, ga_36, gs_37, gt_38, gz_39, gv_40, (upd (upd q11 (4 * rl) v_12.1) ((4 * rl) + 1) (nI v_27.1)), (nI rl), Or.inr ⟨by omega, by rw [← (wdm_3.mp h_wd).2.1]; simp only [pPair, pAng, sb_L, sb_R, sb_r c_14, if_neg (show ¬ v_12.1 = 0 from h_19), sb_r c_29, sb_l c_41]⟩, rfl, rfl⟩))
          · refine ab_ifne 35 dX11_readsPair_30 (by decide) (fun h_48 => ?_) (fun h_48 => absurd h_48 (by decide))
            refine ab_aload_n dX11_readsPair_35 rfl ?_
            refine ab_getf dX11_readsPair_36 fl_X11_63 rfl rfl ?_
            refine ab_iconst (v := 4) dX11_readsPair_39 (by decide) ?_
            refine ab_aload_n dX11_readsPair_40 rfl ?_
            refine ab_getf dX11_readsPair_41 fl_X11_201 rfl rfl ?_
            refine ab_imul dX11_readsPair_44 ?_
            refine ab_topi (v := (nI (4 * rl))) (pk_mul 4 _) ?_
            refine ab_iload_n dX11_readsPair_45 rfl ?_
            refine ab_iadd dX11_readsPair_46 ?_
            refine ab_topi (v := (nI ((4 * rl) + 2))) (nI_add _ 2) ?_
            refine ab_aload_n dX11_readsPair_47 rfl ?_
            refine ab_getf dX11_readsPair_48 fl_X11_163 rfl rfl ?_
            refine ab_iast (w1 := (wc, [ob 9 [.int m_thrown, .int m_trouble, .int m_fault, .int m_where, .ref 1001, .ref 1002, .int 40, .ref 1003, .int m_taped, .int m_linkMany, .int m_tracerMany, .int m_pointMany, .int m_pairMany, .ref 1004, .ref 1005, .ref 1006, .ref 1007, .int m_readLinks, .int m_readTracers, .int m_readPoints, .int (nI rl), .ref 1008, .ref 1009, .ref 1010, .ref 1011, .int (nI n), .int (nI (sk u n v_42.2)), .int (nI (tE u n (sk u n v_42.2))), .int (tk u n (sk u n v_42.2)), .int gx_43, .int m_readFault, .int m_readPlace, .int v_42.1, .long m_n, .long m_c, .long m_d, .long m_s, .long m_e, .long m_k, .long m_x, .long m_y, .long m_g, .long m_a, .ref 1012, .ref 1013, .ref 1014, .int m_curveMany, .ref 1015, .int m_cornerMany, .int m_straightAt, .ref 1016, .long m_fitUp, .long m_fitDown, .long m_worstUp, .long m_worstDown, .ref 1017, .int m_walkLink, .int m_walkAngle, .int m_walkBranch, .int m_walkMany, .ref 1018, .ref 1019, .int m_lined, .ref 1020, .int m_actMany], z1, z2, ia 700 q3, z4, z5, z6, z7, z8, z9, z10, ia 16 (upd (upd (upd q11 (4 * rl) v_12.1) ((4 * rl) + 1) (nI v_27.1)) ((4 * rl) + 2) v_42.1), z12, z13, z14, z15, z16, z17, z18, z19, z20])) dX11_readsPair_51 rfl (ix_nI (by omega) (by decide)) rfl ?_
            refine ab_aload_n dX11_readsPair_52 rfl ?_
            refine ab_aload_n dX11_readsPair_53 rfl ?_
            refine ab_getf dX11_readsPair_54 fl_X11_63 rfl rfl ?_
            refine ab_iconst (v := 4) dX11_readsPair_57 (by decide) ?_
            refine ab_aload_n dX11_readsPair_58 rfl ?_
            refine ab_getf dX11_readsPair_59 fl_X11_201 rfl rfl ?_
            refine ab_imul dX11_readsPair_62 ?_
            refine ab_topi (v := (nI (4 * rl))) (pk_mul 4 _) ?_
            refine ab_iload_n dX11_readsPair_63 rfl ?_
            refine ab_iadd dX11_readsPair_64 ?_
            refine ab_topi (v := (nI ((4 * rl) + 2))) (nI_add _ 2) ?_
            refine ab_iald (j := ((4 * rl) + 2)) dX11_readsPair_65 rfl (ix_nI (by omega) (by decide)) ?_
            refine ab_topi (v := v_42.1) upd_at ?_
            refine ab_ifne 73 dX11_readsPair_66 (by decide) (fun h_49 => ?_) (fun h_49 => ?_)
            · refine ab_iconst (v := 0) dX11_readsPair_73 (by decide) ?_
              refine ab_iconst (v := 5) dX11_readsPair_74 (by decide) ?_
              refine ab_callV (As := [.int 0, .int 5]) (rest := []) dX11_readsPair_75 mv_X11_reads ml_X11_169 ⟨by decide, by decide, rfl, rfl, rfl⟩ (by decide) rfl rfl (Nat.le_of_ble_eq_true rfl) rfl (c_X11_reads (n := n) (p := v_42.2) (gw := gx_43) (lo := 0) (hi := 5) h_n h_v (by omega) (tE_in (by omega)) c_46 (by decide) (by decide)) ?_
              rintro r w' (⟨e_50, ga_51, gs_52, gt_53, gz_54, gv_55, c_56, rfl, rfl⟩ | ⟨v_57, gx_58, c_59, c_60, c_61, rfl, rfl⟩)
              · refine ab_ifne 83 dX11_readsPair_78 (by decide) (fun h_62 => absurd (by decide) h_62) (fun h_62 => ?_)
                refine ab_iconst (v := 0) dX11_readsPair_81 (by decide) ?_
                exact ab_zret dX11_readsPair_82 rfl rfl (by decide) (Or.inl (⟨e_50, ga_51, gs_52, gt_53, gz_54, gv_55, (upd (upd (upd q11 (4 * rl) v_12.1) ((4 * rl) + 1) (nI v_27.1)) ((4 * rl) + 2) v_42.1), (nI rl), Or.inr ⟨by omega, by rw [← (wdm_3.mp h_wd).2.1]; simp only [pPair, pAng, sb_L, sb_R, sb_r c_14, if_neg (show ¬ v_12.1 = 0 from h_19), sb_r c_29, sb_r c_44, if_neg (show ¬ v_42.1 = 0 from h_49), sb_l c_56]⟩, rfl, rfl⟩))
              · refine ab_ifne 83 dX11_readsPair_78 (by decide) (fun h_63 => ?_) (fun h_63 => absurd h_63 (by decide))
                refine ab_aload_n dX11_readsPair_83 rfl ?_
                refine ab_getf dX11_readsPair_84 fl_X11_63 rfl rfl ?_
                refine ab_iconst (v := 4) dX11_readsPair_87 (by decide) ?_
                refine ab_aload_n dX11_readsPair_88 rfl ?_
                refine ab_getf dX11_readsPair_89 fl_X11_201 rfl rfl ?_
                refine ab_imul dX11_readsPair_92 ?_
                refine ab_topi (v := (nI (4 * rl))) (pk_mul 4 _) ?_
                refine ab_iload_n dX11_readsPair_93 rfl ?_
                refine ab_iadd dX11_readsPair_94 ?_
                refine ab_topi (v := (nI ((4 * rl) + 2))) (nI_add _ 2) ?_
                refine ab_iconst (v := 1) dX11_readsPair_95 (by decide) ?_
                refine ab_iadd dX11_readsPair_96 ?_
                refine ab_topi (v := (nI (((4 * rl) + 2) + 1))) (nI_1 _) ?_
                refine ab_aload_n dX11_readsPair_97 rfl ?_
                refine ab_getf dX11_readsPair_98 fl_X11_163 rfl rfl ?_
                refine ab_iast (w1 := (wc, [ob 9 [.int m_thrown, .int m_trouble, .int m_fault, .int m_where, .ref 1001, .ref 1002, .int 40, .ref 1003, .int m_taped, .int m_linkMany, .int m_tracerMany, .int m_pointMany, .int m_pairMany, .ref 1004, .ref 1005, .ref 1006, .ref 1007, .int m_readLinks, .int m_readTracers, .int m_readPoints, .int (nI rl), .ref 1008, .ref 1009, .ref 1010, .ref 1011, .int (nI n), .int (nI (sk u n v_57.2)), .int (nI (tE u n (sk u n v_57.2))), .int (tk u n (sk u n v_57.2)), .int gx_58, .int m_readFault, .int m_readPlace, .int (nI v_57.1), .long m_n, .long m_c, .long m_d, .long m_s, .long m_e, .long m_k, .long m_x, .long m_y, .long m_g, .long m_a, .ref 1012, .ref 1013, .ref 1014, .int m_curveMany, .ref 1015, .int m_cornerMany, .int m_straightAt, .ref 1016, .long m_fitUp, .long m_fitDown, .long m_worstUp, .long m_worstDown, .ref 1017, .int m_walkLink, .int m_walkAngle, .int m_walkBranch, .int m_walkMany, .ref 1018, .ref 1019, .int m_lined, .ref 1020, .int m_actMany], z1, z2, ia 700 q3, z4, z5, z6, z7, z8, z9, z10, ia 16 (upd (upd (upd (upd q11 (4 * rl) v_12.1) ((4 * rl) + 1) (nI v_27.1)) ((4 * rl) + 2) v_42.1) (((4 * rl) + 2) + 1) (nI v_57.1)), z12, z13, z14, z15, z16, z17, z18, z19, z20])) dX11_readsPair_101 rfl (ix_nI (by omega) (by decide)) rfl ?_
                refine ab_iinc (v := 4) (la' := [(1, .int 4), (0, .ref 1000)]) dX11_readsPair_102 rfl (by decide) (by decide) rfl ?_
                refine ab_goto 20 dX11_readsPair_105 (by decide) ?_
                refine ab_iload_n dX11_readsPair_20 rfl ?_
                refine ab_iconst (v := 4) dX11_readsPair_21 (by decide) ?_
                refine ab_icmpge 108 dX11_readsPair_22 (by decide) (fun h_64 => ?_) (fun h_64 => absurd (by decide) h_64)
                refine ab_aload_n dX11_readsPair_108 rfl ?_
                refine ab_dup rfl dX11_readsPair_109 ?_
                refine ab_getf dX11_readsPair_110 fl_X11_201 rfl rfl ?_
                refine ab_iconst (v := 1) dX11_readsPair_113 (by decide) ?_
                refine ab_iadd dX11_readsPair_114 ?_
                refine ab_topi (v := (nI (rl + 1))) (nI_1 _) ?_
                refine ab_putf (w1 := (wc, [ob 9 [.int m_thrown, .int m_trouble, .int m_fault, .int m_where, .ref 1001, .ref 1002, .int 40, .ref 1003, .int m_taped, .int m_linkMany, .int m_tracerMany, .int m_pointMany, .int m_pairMany, .ref 1004, .ref 1005, .ref 1006, .ref 1007, .int m_readLinks, .int m_readTracers, .int m_readPoints, .int (nI (rl + 1)), .ref 1008, .ref 1009, .ref 1010, .ref 1011, .int (nI n), .int (nI (sk u n v_57.2)), .int (nI (tE u n (sk u n v_57.2))), .int (tk u n (sk u n v_57.2)), .int gx_58, .int m_readFault, .int m_readPlace, .int (nI v_57.1), .long m_n, .long m_c, .long m_d, .long m_s, .long m_e, .long m_k, .long m_x, .long m_y, .long m_g, .long m_a, .ref 1012, .ref 1013, .ref 1014, .int m_curveMany, .ref 1015, .int m_cornerMany, .int m_straightAt, .ref 1016, .long m_fitUp, .long m_fitDown, .long m_worstUp, .long m_worstDown, .ref 1017, .int m_walkLink, .int m_walkAngle, .int m_walkBranch, .int m_walkMany, .ref 1018, .ref 1019, .int m_lined, .ref 1020, .int m_actMany], z1, z2, ia 700 q3, z4, z5, z6, z7, z8, z9, z10, ia 16 (upd (upd (upd (upd q11 (4 * rl) v_12.1) ((4 * rl) + 1) (nI v_27.1)) ((4 * rl) + 2) v_42.1) (((4 * rl) + 2) + 1) (nI v_57.1)), z12, z13, z14, z15, z16, z17, z18, z19, z20])) dX11_readsPair_115 fl_X11_201 rfl (Nat.le_of_ble_eq_true rfl) (fun _ => ⟨rfl, rfl⟩) rfl ?_
                refine ab_iconst (v := 1) dX11_readsPair_118 (by decide) ?_
                exact ab_zret dX11_readsPair_119 rfl rfl (by decide) (Or.inr (⟨(v_12.1, nI v_27.1, v_42.1, nI v_57.1, v_57.2), gx_58, (nI v_57.1), ⟨by omega, by rw [← (wdm_3.mp h_wd).2.1]; simp only [pPair, pAng, sb_L, sb_R, sb_r c_14, if_neg (show ¬ v_12.1 = 0 from h_19), sb_r c_29, sb_r c_44, if_neg (show ¬ v_42.1 = 0 from h_49), sb_r c_59]⟩, ⟨by show p ≤ v_57.2; omega, by show v_57.2 ≤ n; omega⟩, c_61, rfl, rfl⟩))
            · refine ab_iconst (v := 1) dX11_readsPair_69 (by decide) ?_
              refine ab_goto 74 dX11_readsPair_70 (by decide) ?_
              refine ab_iconst (v := 5) dX11_readsPair_74 (by decide) ?_
              refine ab_callV (As := [.int 1, .int 5]) (rest := []) dX11_readsPair_75 mv_X11_reads ml_X11_169 ⟨by decide, by decide, rfl, rfl, rfl⟩ (by decide) rfl rfl (Nat.le_of_ble_eq_true rfl) rfl (c_X11_reads (n := n) (p := v_42.2) (gw := gx_43) (lo := 1) (hi := 5) h_n h_v (by omega) (tE_in (by omega)) c_46 (by decide) (by decide)) ?_
              rintro r w' (⟨e_65, ga_66, gs_67, gt_68, gz_69, gv_70, c_71, rfl, rfl⟩ | ⟨v_72, gx_73, c_74, c_75, c_76, rfl, rfl⟩)
              · refine ab_ifne 83 dX11_readsPair_78 (by decide) (fun h_77 => absurd (by decide) h_77) (fun h_77 => ?_)
                refine ab_iconst (v := 0) dX11_readsPair_81 (by decide) ?_
                exact ab_zret dX11_readsPair_82 rfl rfl (by decide) (Or.inl (⟨e_65, ga_66, gs_67, gt_68, gz_69, gv_70, (upd (upd (upd q11 (4 * rl) v_12.1) ((4 * rl) + 1) (nI v_27.1)) ((4 * rl) + 2) v_42.1), (nI rl), Or.inr ⟨by omega, by rw [← (wdm_3.mp h_wd).2.1]; simp only [pPair, pAng, sb_L, sb_R, sb_r c_14, if_neg (show ¬ v_12.1 = 0 from h_19), sb_r c_29, sb_r c_44, if_pos (show v_42.1 = 0 from h_49), sb_l c_71]⟩, rfl, rfl⟩))
              · refine ab_ifne 83 dX11_readsPair_78 (by decide) (fun h_78 => ?_) (fun h_78 => absurd h_78 (by decide))
                refine ab_aload_n dX11_readsPair_83 rfl ?_
                refine ab_getf dX11_readsPair_84 fl_X11_63 rfl rfl ?_
                refine ab_iconst (v := 4) dX11_readsPair_87 (by decide) ?_
                refine ab_aload_n dX11_readsPair_88 rfl ?_
                refine ab_getf dX11_readsPair_89 fl_X11_201 rfl rfl ?_
                refine ab_imul dX11_readsPair_92 ?_
                refine ab_topi (v := (nI (4 * rl))) (pk_mul 4 _) ?_
                refine ab_iload_n dX11_readsPair_93 rfl ?_
                refine ab_iadd dX11_readsPair_94 ?_
                refine ab_topi (v := (nI ((4 * rl) + 2))) (nI_add _ 2) ?_
                refine ab_iconst (v := 1) dX11_readsPair_95 (by decide) ?_
                refine ab_iadd dX11_readsPair_96 ?_
                refine ab_topi (v := (nI (((4 * rl) + 2) + 1))) (nI_1 _) ?_
                refine ab_aload_n dX11_readsPair_97 rfl ?_
                refine ab_getf dX11_readsPair_98 fl_X11_163 rfl rfl ?_
                refine ab_iast (w1 := (wc, [ob 9 [.int m_thrown, .int m_trouble, .int m_fault, .int m_where, .ref 1001, .ref 1002, .int 40, .ref 1003, .int m_taped, .int m_linkMany, .int m_tracerMany, .int m_pointMany, .int m_pairMany, .ref 1004, .ref 1005, .ref 1006, .ref 1007, .int m_readLinks, .int m_readTracers, .int m_readPoints, .int (nI rl), .ref 1008, .ref 1009, .ref 1010, .ref 1011, .int (nI n), .int (nI (sk u n v_72.2)), .int (nI (tE u n (sk u n v_72.2))), .int (tk u n (sk u n v_72.2)), .int gx_73, .int m_readFault, .int m_readPlace, .int (nI v_72.1), .long m_n, .long m_c, .long m_d, .long m_s, .long m_e, .long m_k, .long m_x, .long m_y, .long m_g, .long m_a, .ref 1012, .ref 1013, .ref 1014, .int m_curveMany, .ref 1015, .int m_cornerMany, .int m_straightAt, .ref 1016, .long m_fitUp, .long m_fitDown, .long m_worstUp, .long m_worstDown, .ref 1017, .int m_walkLink, .int m_walkAngle, .int m_walkBranch, .int m_walkMany, .ref 1018, .ref 1019, .int m_lined, .ref 1020, .int m_actMany], z1, z2, ia 700 q3, z4, z5, z6, z7, z8, z9, z10, ia 16 (upd (upd (upd (upd q11 (4 * rl) v_12.1) ((4 * rl) + 1) (nI v_27.1)) ((4 * rl) + 2) v_42.1) (((4 * rl) + 2) + 1) (nI v_72.1)), z12, z13, z14, z15, z16, z17, z18, z19, z20])) dX11_readsPair_101 rfl (ix_nI (by omega) (by decide)) rfl ?_
                refine ab_iinc (v := 4) (la' := [(1, .int 4), (0, .ref 1000)]) dX11_readsPair_102 rfl (by decide) (by decide) rfl ?_
                refine ab_goto 20 dX11_readsPair_105 (by decide) ?_
                refine ab_iload_n dX11_readsPair_20 rfl ?_
                refine ab_iconst (v := 4) dX11_readsPair_21 (by decide) ?_
                refine ab_icmpge 108 dX11_readsPair_22 (by decide) (fun h_79 => ?_) (fun h_79 => absurd (by decide) h_79)
                refine ab_aload_n dX11_readsPair_108 rfl ?_
                refine ab_dup rfl dX11_readsPair_109 ?_
                refine ab_getf dX11_readsPair_110 fl_X11_201 rfl rfl ?_
                refine ab_iconst (v := 1) dX11_readsPair_113 (by decide) ?_
                refine ab_iadd dX11_readsPair_114 ?_
                refine ab_topi (v := (nI (rl + 1))) (nI_1 _) ?_
                refine ab_putf (w1 := (wc, [ob 9 [.int m_thrown, .int m_trouble, .int m_fault, .int m_where, .ref 1001, .ref 1002, .int 40, .ref 1003, .int m_taped, .int m_linkMany, .int m_tracerMany, .int m_pointMany, .int m_pairMany, .ref 1004, .ref 1005, .ref 1006, .ref 1007, .int m_readLinks, .int m_readTracers, .int m_readPoints, .int (nI (rl + 1)), .ref 1008, .ref 1009, .ref 1010, .ref 1011, .int (nI n), .int (nI (sk u n v_72.2)), .int (nI (tE u n (sk u n v_72.2))), .int (tk u n (sk u n v_72.2)), .int gx_73, .int m_readFault, .int m_readPlace, .int (nI v_72.1), .long m_n, .long m_c, .long m_d, .long m_s, .long m_e, .long m_k, .long m_x, .long m_y, .long m_g, .long m_a, .ref 1012, .ref 1013, .ref 1014, .int m_curveMany, .ref 1015, .int m_cornerMany, .int m_straightAt, .ref 1016, .long m_fitUp, .long m_fitDown, .long m_worstUp, .long m_worstDown, .ref 1017, .int m_walkLink, .int m_walkAngle, .int m_walkBranch, .int m_walkMany, .ref 1018, .ref 1019, .int m_lined, .ref 1020, .int m_actMany], z1, z2, ia 700 q3, z4, z5, z6, z7, z8, z9, z10, ia 16 (upd (upd (upd (upd q11 (4 * rl) v_12.1) ((4 * rl) + 1) (nI v_27.1)) ((4 * rl) + 2) v_42.1) (((4 * rl) + 2) + 1) (nI v_72.1)), z12, z13, z14, z15, z16, z17, z18, z19, z20])) dX11_readsPair_115 fl_X11_201 rfl (Nat.le_of_ble_eq_true rfl) (fun _ => ⟨rfl, rfl⟩) rfl ?_
                refine ab_iconst (v := 1) dX11_readsPair_118 (by decide) ?_
                exact ab_zret dX11_readsPair_119 rfl rfl (by decide) (Or.inr (⟨(v_12.1, nI v_27.1, v_42.1, nI v_72.1, v_72.2), gx_73, (nI v_72.1), ⟨by omega, by rw [← (wdm_3.mp h_wd).2.1]; simp only [pPair, pAng, sb_L, sb_R, sb_r c_14, if_neg (show ¬ v_12.1 = 0 from h_19), sb_r c_29, sb_r c_44, if_pos (show v_42.1 = 0 from h_49), sb_r c_74]⟩, ⟨by show p ≤ v_72.2; omega, by show v_72.2 ≤ n; omega⟩, c_76, rfl, rfl⟩))
      · refine ab_iconst (v := 1) dX11_readsPair_69 (by decide) ?_
        refine ab_goto 74 dX11_readsPair_70 (by decide) ?_
        refine ab_iconst (v := 5) dX11_readsPair_74 (by decide) ?_
        refine ab_callV (As := [.int 1, .int 5]) (rest := []) dX11_readsPair_75 mv_X11_reads ml_X11_169 ⟨by decide, by decide, rfl, rfl, rfl⟩ (by decide) rfl rfl (Nat.le_of_ble_eq_true rfl) rfl (c_X11_reads (n := n) (p := v_12.2) (gw := gx_13) (lo := 1) (hi := 5) h_n h_v (by omega) (tE_in (by omega)) c_16 (by decide) (by decide)) ?_
        rintro r w' (⟨e_80, ga_81, gs_82, gt_83, gz_84, gv_85, c_86, rfl, rfl⟩ | ⟨v_87, gx_88, c_89, c_90, c_91, rfl, rfl⟩)
        · refine ab_ifne 83 dX11_readsPair_78 (by decide) (fun h_92 => absurd (by decide) h_92) (fun h_92 => ?_)
          refine ab_iconst (v := 0) dX11_readsPair_81 (by decide) ?_
          exact ab_zret dX11_readsPair_82 rfl rfl (by decide) (Or.inl (⟨e_80, ga_81, gs_82, gt_83, gz_84, gv_85, (upd q11 (4 * rl) v_12.1), (nI rl), Or.inr ⟨by omega, by rw [← (wdm_3.mp h_wd).2.1]; simp only [pPair, pAng, sb_L, sb_R, sb_r c_14, if_pos (show v_12.1 = 0 from h_19), sb_l c_86]⟩, rfl, rfl⟩))
        · refine ab_ifne 83 dX11_readsPair_78 (by decide) (fun h_93 => ?_) (fun h_93 => absurd h_93 (by decide))
          refine ab_aload_n dX11_readsPair_83 rfl ?_
          refine ab_getf dX11_readsPair_84 fl_X11_63 rfl rfl ?_
          refine ab_iconst (v := 4) dX11_readsPair_87 (by decide) ?_
          refine ab_aload_n dX11_readsPair_88 rfl ?_
          refine ab_getf dX11_readsPair_89 fl_X11_201 rfl rfl ?_
          refine ab_imul dX11_readsPair_92 ?_
          refine ab_topi (v := (nI (4 * rl))) (pk_mul 4 _) ?_
          refine ab_iload_n dX11_readsPair_93 rfl ?_
          refine ab_iadd dX11_readsPair_94 ?_
          refine ab_topi (v := (nI (4 * rl))) (Int32.add_zero _) ?_
          refine ab_iconst (v := 1) dX11_readsPair_95 (by decide) ?_
          refine ab_iadd dX11_readsPair_96 ?_
          refine ab_topi (v := (nI ((4 * rl) + 1))) (nI_1 _) ?_
          refine ab_aload_n dX11_readsPair_97 rfl ?_
          refine ab_getf dX11_readsPair_98 fl_X11_163 rfl rfl ?_
          refine ab_iast (w1 := (wc, [ob 9 [.int m_thrown, .int m_trouble, .int m_fault, .int m_where, .ref 1001, .ref 1002, .int 40, .ref 1003, .int m_taped, .int m_linkMany, .int m_tracerMany, .int m_pointMany, .int m_pairMany, .ref 1004, .ref 1005, .ref 1006, .ref 1007, .int m_readLinks, .int m_readTracers, .int m_readPoints, .int (nI rl), .ref 1008, .ref 1009, .ref 1010, .ref 1011, .int (nI n), .int (nI (sk u n v_87.2)), .int (nI (tE u n (sk u n v_87.2))), .int (tk u n (sk u n v_87.2)), .int gx_88, .int m_readFault, .int m_readPlace, .int (nI v_87.1), .long m_n, .long m_c, .long m_d, .long m_s, .long m_e, .long m_k, .long m_x, .long m_y, .long m_g, .long m_a, .ref 1012, .ref 1013, .ref 1014, .int m_curveMany, .ref 1015, .int m_cornerMany, .int m_straightAt, .ref 1016, .long m_fitUp, .long m_fitDown, .long m_worstUp, .long m_worstDown, .ref 1017, .int m_walkLink, .int m_walkAngle, .int m_walkBranch, .int m_walkMany, .ref 1018, .ref 1019, .int m_lined, .ref 1020, .int m_actMany], z1, z2, ia 700 q3, z4, z5, z6, z7, z8, z9, z10, ia 16 (upd (upd q11 (4 * rl) v_12.1) ((4 * rl) + 1) (nI v_87.1)), z12, z13, z14, z15, z16, z17, z18, z19, z20])) dX11_readsPair_101 rfl (ix_nI (by omega) (by decide)) rfl ?_
          refine ab_iinc (v := 2) (la' := [(1, .int 2), (0, .ref 1000)]) dX11_readsPair_102 rfl (by decide) (by decide) rfl ?_
          refine ab_goto 20 dX11_readsPair_105 (by decide) ?_
          refine ab_iload_n dX11_readsPair_20 rfl ?_
          refine ab_iconst (v := 4) dX11_readsPair_21 (by decide) ?_
          refine ab_icmpge 108 dX11_readsPair_22 (by decide) (fun h_94 => absurd h_94 (by decide)) (fun h_94 => ?_)
          refine ab_aload_n dX11_readsPair_25 rfl ?_
          refine ab_iconst (v := 5) dX11_readsPair_26 (by decide) ?_
          refine ab_callV (As := [.int 5]) (rest := []) dX11_readsPair_27 mv_X11_readsSigned ml_X11_195 ⟨by decide, by decide, rfl, rfl, rfl⟩ (by decide) rfl rfl (Nat.le_of_ble_eq_true rfl) rfl (c_X11_readsSigned (n := n) (p := v_87.2) (gw := gx_88) (hi := 5) h_n h_v (by omega) (tE_in (by omega)) c_91 (⟨sk_ge, sk_le (by omega)⟩) (by decide)) ?_
          rintro r w' (⟨e_95, ga_96, gs_97, gt_98, gz_99, gv_100, c_101, rfl, rfl⟩ | ⟨v_102, gx_103, c_104, c_105, c_106, rfl, rfl⟩)
          · refine ab_ifne 35 dX11_readsPair_30 (by decide) (fun h_107 => absurd (by decide) h_107) (fun h_107 => ?_)
            refine ab_iconst (v := 0) dX11_readsPair_33 (by decide) ?_
            exact ab_zret dX11_readsPair_34 rfl rfl (by decide) (Or.inl (⟨e_95, ga_96, gs_97, gt_98, gz_99, gv_100, (upd (upd q11 (4 * rl) v_12.1) ((4 * rl) + 1) (nI v_87.1)), (nI rl), Or.inr ⟨by omega, by rw [← (wdm_3.mp h_wd).2.1]; simp only [pPair, pAng, sb_L, sb_R, sb_r c_14, if_pos (show v_12.1 = 0 from h_19), sb_r c_89, sb_l c_101]⟩, rfl, rfl⟩))
          · refine ab_ifne 35 dX11_readsPair_30 (by decide) (fun h_108 => ?_) (fun h_108 => absurd h_108 (by decide))
            refine ab_aload_n dX11_readsPair_35 rfl ?_
            refine ab_getf dX11_readsPair_36 fl_X11_63 rfl rfl ?_
            refine ab_iconst (v := 4) dX11_readsPair_39 (by decide) ?_
            refine ab_aload_n dX11_readsPair_40 rfl ?_
            refine ab_getf dX11_readsPair_41 fl_X11_201 rfl rfl ?_
            refine ab_imul dX11_readsPair_44 ?_
            refine ab_topi (v := (nI (4 * rl))) (pk_mul 4 _) ?_
            refine ab_iload_n dX11_readsPair_45 rfl ?_
            refine ab_iadd dX11_readsPair_46 ?_
            refine ab_topi (v := (nI ((4 * rl) + 2))) (nI_add _ 2) ?_
            refine ab_aload_n dX11_readsPair_47 rfl ?_
            refine ab_getf dX11_readsPair_48 fl_X11_163 rfl rfl ?_
            refine ab_iast (w1 := (wc, [ob 9 [.int m_thrown, .int m_trouble, .int m_fault, .int m_where, .ref 1001, .ref 1002, .int 40, .ref 1003, .int m_taped, .int m_linkMany, .int m_tracerMany, .int m_pointMany, .int m_pairMany, .ref 1004, .ref 1005, .ref 1006, .ref 1007, .int m_readLinks, .int m_readTracers, .int m_readPoints, .int (nI rl), .ref 1008, .ref 1009, .ref 1010, .ref 1011, .int (nI n), .int (nI (sk u n v_102.2)), .int (nI (tE u n (sk u n v_102.2))), .int (tk u n (sk u n v_102.2)), .int gx_103, .int m_readFault, .int m_readPlace, .int v_102.1, .long m_n, .long m_c, .long m_d, .long m_s, .long m_e, .long m_k, .long m_x, .long m_y, .long m_g, .long m_a, .ref 1012, .ref 1013, .ref 1014, .int m_curveMany, .ref 1015, .int m_cornerMany, .int m_straightAt, .ref 1016, .long m_fitUp, .long m_fitDown, .long m_worstUp, .long m_worstDown, .ref 1017, .int m_walkLink, .int m_walkAngle, .int m_walkBranch, .int m_walkMany, .ref 1018, .ref 1019, .int m_lined, .ref 1020, .int m_actMany], z1, z2, ia 700 q3, z4, z5, z6, z7, z8, z9, z10, ia 16 (upd (upd (upd q11 (4 * rl) v_12.1) ((4 * rl) + 1) (nI v_87.1)) ((4 * rl) + 2) v_102.1), z12, z13, z14, z15, z16, z17, z18, z19, z20])) dX11_readsPair_51 rfl (ix_nI (by omega) (by decide)) rfl ?_
            refine ab_aload_n dX11_readsPair_52 rfl ?_
            refine ab_aload_n dX11_readsPair_53 rfl ?_
            refine ab_getf dX11_readsPair_54 fl_X11_63 rfl rfl ?_
            refine ab_iconst (v := 4) dX11_readsPair_57 (by decide) ?_
            refine ab_aload_n dX11_readsPair_58 rfl ?_
            refine ab_getf dX11_readsPair_59 fl_X11_201 rfl rfl ?_
            refine ab_imul dX11_readsPair_62 ?_
            refine ab_topi (v := (nI (4 * rl))) (pk_mul 4 _) ?_
            refine ab_iload_n dX11_readsPair_63 rfl ?_
            refine ab_iadd dX11_readsPair_64 ?_
            refine ab_topi (v := (nI ((4 * rl) + 2))) (nI_add _ 2) ?_
            refine ab_iald (j := ((4 * rl) + 2)) dX11_readsPair_65 rfl (ix_nI (by omega) (by decide)) ?_
            refine ab_topi (v := v_102.1) upd_at ?_
            refine ab_ifne 73 dX11_readsPair_66 (by decide) (fun h_109 => ?_) (fun h_109 => ?_)
            · refine ab_iconst (v := 0) dX11_readsPair_73 (by decide) ?_
              refine ab_iconst (v := 5) dX11_readsPair_74 (by decide) ?_
              refine ab_callV (As := [.int 0, .int 5]) (rest := []) dX11_readsPair_75 mv_X11_reads ml_X11_169 ⟨by decide, by decide, rfl, rfl, rfl⟩ (by decide) rfl rfl (Nat.le_of_ble_eq_true rfl) rfl (c_X11_reads (n := n) (p := v_102.2) (gw := gx_103) (lo := 0) (hi := 5) h_n h_v (by omega) (tE_in (by omega)) c_106 (by decide) (by decide)) ?_
              rintro r w' (⟨e_110, ga_111, gs_112, gt_113, gz_114, gv_115, c_116, rfl, rfl⟩ | ⟨v_117, gx_118, c_119, c_120, c_121, rfl, rfl⟩)
              · refine ab_ifne 83 dX11_readsPair_78 (by decide) (fun h_122 => absurd (by decide) h_122) (fun h_122 => ?_)
                refine ab_iconst (v := 0) dX11_readsPair_81 (by decide) ?_
                exact ab_zret dX11_readsPair_82 rfl rfl (by decide) (Or.inl (⟨e_110, ga_111, gs_112, gt_113, gz_114, gv_115, (upd (upd (upd q11 (4 * rl) v_12.1) ((4 * rl) + 1) (nI v_87.1)) ((4 * rl) + 2) v_102.1), (nI rl), Or.inr ⟨by omega, by rw [← (wdm_3.mp h_wd).2.1]; simp only [pPair, pAng, sb_L, sb_R, sb_r c_14, if_pos (show v_12.1 = 0 from h_19), sb_r c_89, sb_r c_104, if_neg (show ¬ v_102.1 = 0 from h_109), sb_l c_116]⟩, rfl, rfl⟩))
              · refine ab_ifne 83 dX11_readsPair_78 (by decide) (fun h_123 => ?_) (fun h_123 => absurd h_123 (by decide))
                refine ab_aload_n dX11_readsPair_83 rfl ?_
                refine ab_getf dX11_readsPair_84 fl_X11_63 rfl rfl ?_
                refine ab_iconst (v := 4) dX11_readsPair_87 (by decide) ?_
                refine ab_aload_n dX11_readsPair_88 rfl ?_
                refine ab_getf dX11_readsPair_89 fl_X11_201 rfl rfl ?_
                refine ab_imul dX11_readsPair_92 ?_
                refine ab_topi (v := (nI (4 * rl))) (pk_mul 4 _) ?_
                refine ab_iload_n dX11_readsPair_93 rfl ?_
                refine ab_iadd dX11_readsPair_94 ?_
                refine ab_topi (v := (nI ((4 * rl) + 2))) (nI_add _ 2) ?_
                refine ab_iconst (v := 1) dX11_readsPair_95 (by decide) ?_
                refine ab_iadd dX11_readsPair_96 ?_
                refine ab_topi (v := (nI (((4 * rl) + 2) + 1))) (nI_1 _) ?_
                refine ab_aload_n dX11_readsPair_97 rfl ?_
                refine ab_getf dX11_readsPair_98 fl_X11_163 rfl rfl ?_
                refine ab_iast (w1 := (wc, [ob 9 [.int m_thrown, .int m_trouble, .int m_fault, .int m_where, .ref 1001, .ref 1002, .int 40, .ref 1003, .int m_taped, .int m_linkMany, .int m_tracerMany, .int m_pointMany, .int m_pairMany, .ref 1004, .ref 1005, .ref 1006, .ref 1007, .int m_readLinks, .int m_readTracers, .int m_readPoints, .int (nI rl), .ref 1008, .ref 1009, .ref 1010, .ref 1011, .int (nI n), .int (nI (sk u n v_117.2)), .int (nI (tE u n (sk u n v_117.2))), .int (tk u n (sk u n v_117.2)), .int gx_118, .int m_readFault, .int m_readPlace, .int (nI v_117.1), .long m_n, .long m_c, .long m_d, .long m_s, .long m_e, .long m_k, .long m_x, .long m_y, .long m_g, .long m_a, .ref 1012, .ref 1013, .ref 1014, .int m_curveMany, .ref 1015, .int m_cornerMany, .int m_straightAt, .ref 1016, .long m_fitUp, .long m_fitDown, .long m_worstUp, .long m_worstDown, .ref 1017, .int m_walkLink, .int m_walkAngle, .int m_walkBranch, .int m_walkMany, .ref 1018, .ref 1019, .int m_lined, .ref 1020, .int m_actMany], z1, z2, ia 700 q3, z4, z5, z6, z7, z8, z9, z10, ia 16 (upd (upd (upd (upd q11 (4 * rl) v_12.1) ((4 * rl) + 1) (nI v_87.1)) ((4 * rl) + 2) v_102.1) (((4 * rl) + 2) + 1) (nI v_117.1)), z12, z13, z14, z15, z16, z17, z18, z19, z20])) dX11_readsPair_101 rfl (ix_nI (by omega) (by decide)) rfl ?_
                refine ab_iinc (v := 4) (la' := [(1, .int 4), (0, .ref 1000)]) dX11_readsPair_102 rfl (by decide) (by decide) rfl ?_
                refine ab_goto 20 dX11_readsPair_105 (by decide) ?_
                refine ab_iload_n dX11_readsPair_20 rfl ?_
                refine ab_iconst (v := 4) dX11_readsPair_21 (by decide) ?_
                refine ab_icmpge 108 dX11_readsPair_22 (by decide) (fun h_124 => ?_) (fun h_124 => absurd (by decide) h_124)
                refine ab_aload_n dX11_readsPair_108 rfl ?_
                refine ab_dup rfl dX11_readsPair_109 ?_
                refine ab_getf dX11_readsPair_110 fl_X11_201 rfl rfl ?_
                refine ab_iconst (v := 1) dX11_readsPair_113 (by decide) ?_
                refine ab_iadd dX11_readsPair_114 ?_
                refine ab_topi (v := (nI (rl + 1))) (nI_1 _) ?_
                refine ab_putf (w1 := (wc, [ob 9 [.int m_thrown, .int m_trouble, .int m_fault, .int m_where, .ref 1001, .ref 1002, .int 40, .ref 1003, .int m_taped, .int m_linkMany, .int m_tracerMany, .int m_pointMany, .int m_pairMany, .ref 1004, .ref 1005, .ref 1006, .ref 1007, .int m_readLinks, .int m_readTracers, .int m_readPoints, .int (nI (rl + 1)), .ref 1008, .ref 1009, .ref 1010, .ref 1011, .int (nI n), .int (nI (sk u n v_117.2)), .int (nI (tE u n (sk u n v_117.2))), .int (tk u n (sk u n v_117.2)), .int gx_118, .int m_readFault, .int m_readPlace, .int (nI v_117.1), .long m_n, .long m_c, .long m_d, .long m_s, .long m_e, .long m_k, .long m_x, .long m_y, .long m_g, .long m_a, .ref 1012, .ref 1013, .ref 1014, .int m_curveMany, .ref 1015, .int m_cornerMany, .int m_straightAt, .ref 1016, .long m_fitUp, .long m_fitDown, .long m_worstUp, .long m_worstDown, .ref 1017, .int m_walkLink, .int m_walkAngle, .int m_walkBranch, .int m_walkMany, .ref 1018, .ref 1019, .int m_lined, .ref 1020, .int m_actMany], z1, z2, ia 700 q3, z4, z5, z6, z7, z8, z9, z10, ia 16 (upd (upd (upd (upd q11 (4 * rl) v_12.1) ((4 * rl) + 1) (nI v_87.1)) ((4 * rl) + 2) v_102.1) (((4 * rl) + 2) + 1) (nI v_117.1)), z12, z13, z14, z15, z16, z17, z18, z19, z20])) dX11_readsPair_115 fl_X11_201 rfl (Nat.le_of_ble_eq_true rfl) (fun _ => ⟨rfl, rfl⟩) rfl ?_
                refine ab_iconst (v := 1) dX11_readsPair_118 (by decide) ?_
                exact ab_zret dX11_readsPair_119 rfl rfl (by decide) (Or.inr (⟨(v_12.1, nI v_87.1, v_102.1, nI v_117.1, v_117.2), gx_118, (nI v_117.1), ⟨by omega, by rw [← (wdm_3.mp h_wd).2.1]; simp only [pPair, pAng, sb_L, sb_R, sb_r c_14, if_pos (show v_12.1 = 0 from h_19), sb_r c_89, sb_r c_104, if_neg (show ¬ v_102.1 = 0 from h_109), sb_r c_119]⟩, ⟨by show p ≤ v_117.2; omega, by show v_117.2 ≤ n; omega⟩, c_121, rfl, rfl⟩))
            · refine ab_iconst (v := 1) dX11_readsPair_69 (by decide) ?_
              refine ab_goto 74 dX11_readsPair_70 (by decide) ?_
              refine ab_iconst (v := 5) dX11_readsPair_74 (by decide) ?_
              refine ab_callV (As := [.int 1, .int 5]) (rest := []) dX11_readsPair_75 mv_X11_reads ml_X11_169 ⟨by decide, by decide, rfl, rfl, rfl⟩ (by decide) rfl rfl (Nat.le_of_ble_eq_true rfl) rfl (c_X11_reads (n := n) (p := v_102.2) (gw := gx_103) (lo := 1) (hi := 5) h_n h_v (by omega) (tE_in (by omega)) c_106 (by decide) (by decide)) ?_
              rintro r w' (⟨e_125, ga_126, gs_127, gt_128, gz_129, gv_130, c_131, rfl, rfl⟩ | ⟨v_132, gx_133, c_134, c_135, c_136, rfl, rfl⟩)
              · refine ab_ifne 83 dX11_readsPair_78 (by decide) (fun h_137 => absurd (by decide) h_137) (fun h_137 => ?_)
                refine ab_iconst (v := 0) dX11_readsPair_81 (by decide) ?_
                exact ab_zret dX11_readsPair_82 rfl rfl (by decide) (Or.inl (⟨e_125, ga_126, gs_127, gt_128, gz_129, gv_130, (upd (upd (upd q11 (4 * rl) v_12.1) ((4 * rl) + 1) (nI v_87.1)) ((4 * rl) + 2) v_102.1), (nI rl), Or.inr ⟨by omega, by rw [← (wdm_3.mp h_wd).2.1]; simp only [pPair, pAng, sb_L, sb_R, sb_r c_14, if_pos (show v_12.1 = 0 from h_19), sb_r c_89, sb_r c_104, if_pos (show v_102.1 = 0 from h_109), sb_l c_131]⟩, rfl, rfl⟩))
              · refine ab_ifne 83 dX11_readsPair_78 (by decide) (fun h_138 => ?_) (fun h_138 => absurd h_138 (by decide))
                refine ab_aload_n dX11_readsPair_83 rfl ?_
                refine ab_getf dX11_readsPair_84 fl_X11_63 rfl rfl ?_
                refine ab_iconst (v := 4) dX11_readsPair_87 (by decide) ?_
                refine ab_aload_n dX11_readsPair_88 rfl ?_
                refine ab_getf dX11_readsPair_89 fl_X11_201 rfl rfl ?_
                refine ab_imul dX11_readsPair_92 ?_
                refine ab_topi (v := (nI (4 * rl))) (pk_mul 4 _) ?_
                refine ab_iload_n dX11_readsPair_93 rfl ?_
                refine ab_iadd dX11_readsPair_94 ?_
                refine ab_topi (v := (nI ((4 * rl) + 2))) (nI_add _ 2) ?_
                refine ab_iconst (v := 1) dX11_readsPair_95 (by decide) ?_
                refine ab_iadd dX11_readsPair_96 ?_
                refine ab_topi (v := (nI (((4 * rl) + 2) + 1))) (nI_1 _) ?_
                refine ab_aload_n dX11_readsPair_97 rfl ?_
                refine ab_getf dX11_readsPair_98 fl_X11_163 rfl rfl ?_
                refine ab_iast (w1 := (wc, [ob 9 [.int m_thrown, .int m_trouble, .int m_fault, .int m_where, .ref 1001, .ref 1002, .int 40, .ref 1003, .int m_taped, .int m_linkMany, .int m_tracerMany, .int m_pointMany, .int m_pairMany, .ref 1004, .ref 1005, .ref 1006, .ref 1007, .int m_readLinks, .int m_readTracers, .int m_readPoints, .int (nI rl), .ref 1008, .ref 1009, .ref 1010, .ref 1011, .int (nI n), .int (nI (sk u n v_132.2)), .int (nI (tE u n (sk u n v_132.2))), .int (tk u n (sk u n v_132.2)), .int gx_133, .int m_readFault, .int m_readPlace, .int (nI v_132.1), .long m_n, .long m_c, .long m_d, .long m_s, .long m_e, .long m_k, .long m_x, .long m_y, .long m_g, .long m_a, .ref 1012, .ref 1013, .ref 1014, .int m_curveMany, .ref 1015, .int m_cornerMany, .int m_straightAt, .ref 1016, .long m_fitUp, .long m_fitDown, .long m_worstUp, .long m_worstDown, .ref 1017, .int m_walkLink, .int m_walkAngle, .int m_walkBranch, .int m_walkMany, .ref 1018, .ref 1019, .int m_lined, .ref 1020, .int m_actMany], z1, z2, ia 700 q3, z4, z5, z6, z7, z8, z9, z10, ia 16 (upd (upd (upd (upd q11 (4 * rl) v_12.1) ((4 * rl) + 1) (nI v_87.1)) ((4 * rl) + 2) v_102.1) (((4 * rl) + 2) + 1) (nI v_132.1)), z12, z13, z14, z15, z16, z17, z18, z19, z20])) dX11_readsPair_101 rfl (ix_nI (by omega) (by decide)) rfl ?_
                refine ab_iinc (v := 4) (la' := [(1, .int 4), (0, .ref 1000)]) dX11_readsPair_102 rfl (by decide) (by decide) rfl ?_
                refine ab_goto 20 dX11_readsPair_105 (by decide) ?_
                refine ab_iload_n dX11_readsPair_20 rfl ?_
                refine ab_iconst (v := 4) dX11_readsPair_21 (by decide) ?_
                refine ab_icmpge 108 dX11_readsPair_22 (by decide) (fun h_139 => ?_) (fun h_139 => absurd (by decide) h_139)
                refine ab_aload_n dX11_readsPair_108 rfl ?_
                refine ab_dup rfl dX11_readsPair_109 ?_
                refine ab_getf dX11_readsPair_110 fl_X11_201 rfl rfl ?_
                refine ab_iconst (v := 1) dX11_readsPair_113 (by decide) ?_
                refine ab_iadd dX11_readsPair_114 ?_
                refine ab_topi (v := (nI (rl + 1))) (nI_1 _) ?_
                refine ab_putf (w1 := (wc, [ob 9 [.int m_thrown, .int m_trouble, .int m_fault, .int m_where, .ref 1001, .ref 1002, .int 40, .ref 1003, .int m_taped, .int m_linkMany, .int m_tracerMany, .int m_pointMany, .int m_pairMany, .ref 1004, .ref 1005, .ref 1006, .ref 1007, .int m_readLinks, .int m_readTracers, .int m_readPoints, .int (nI (rl + 1)), .ref 1008, .ref 1009, .ref 1010, .ref 1011, .int (nI n), .int (nI (sk u n v_132.2)), .int (nI (tE u n (sk u n v_132.2))), .int (tk u n (sk u n v_132.2)), .int gx_133, .int m_readFault, .int m_readPlace, .int (nI v_132.1), .long m_n, .long m_c, .long m_d, .long m_s, .long m_e, .long m_k, .long m_x, .long m_y, .long m_g, .long m_a, .ref 1012, .ref 1013, .ref 1014, .int m_curveMany, .ref 1015, .int m_cornerMany, .int m_straightAt, .ref 1016, .long m_fitUp, .long m_fitDown, .long m_worstUp, .long m_worstDown, .ref 1017, .int m_walkLink, .int m_walkAngle, .int m_walkBranch, .int m_walkMany, .ref 1018, .ref 1019, .int m_lined, .ref 1020, .int m_actMany], z1, z2, ia 700 q3, z4, z5, z6, z7, z8, z9, z10, ia 16 (upd (upd (upd (upd q11 (4 * rl) v_12.1) ((4 * rl) + 1) (nI v_87.1)) ((4 * rl) + 2) v_102.1) (((4 * rl) + 2) + 1) (nI v_132.1)), z12, z13, z14, z15, z16, z17, z18, z19, z20])) dX11_readsPair_115 fl_X11_201 rfl (Nat.le_of_ble_eq_true rfl) (fun _ => ⟨rfl, rfl⟩) rfl ?_
                refine ab_iconst (v := 1) dX11_readsPair_118 (by decide) ?_
                exact ab_zret dX11_readsPair_119 rfl rfl (by decide) (Or.inr (⟨(v_12.1, nI v_87.1, v_102.1, nI v_132.1, v_132.2), gx_133, (nI v_132.1), ⟨by omega, by rw [← (wdm_3.mp h_wd).2.1]; simp only [pPair, pAng, sb_L, sb_R, sb_r c_14, if_pos (show v_12.1 = 0 from h_19), sb_r c_89, sb_r c_104, if_pos (show v_102.1 = 0 from h_109), sb_r c_134]⟩, ⟨by show p ≤ v_132.2; omega, by show v_132.2 ≤ n; omega⟩, c_136, rfl, rfl⟩))
  · have h_1n := (nI_eq (a := rl) (b := 4) (by omega) (by omega)).mp h_1
    refine ab_aload_n dX11_readsPair_8 rfl ?_
    refine ab_iconst (v := 3) dX11_readsPair_9 (by decide) ?_
    refine ab_callV (As := [.int 3]) (rest := []) dX11_readsPair_10 mv_X11_errs ml_X11_159 ⟨by decide, by decide, rfl, rfl, rfl⟩ (by decide) rfl rfl (Nat.le_of_ble_eq_true rfl) rfl c_X11_errs ?_
    rintro r w' ⟨rfl, rfl⟩
    exact ab_zret dX11_readsPair_13 rfl rfl (by decide) (Or.inl (⟨(3, sk u n p), (nI (sk u n p)), (nI (tE u n (sk u n p))), (tk u n (sk u n p)), gw, m_value, q11, (nI rl), Or.inl ⟨by omega, rfl⟩, rfl, rfl⟩))
