theorem c_X11_readsAll {wc : List ax_E} {m_thrown m_trouble m_fault m_where m_taped m_linkMany m_tracerMany m_pointMany m_pairMany m_readLinks m_readTracers m_readPoints m_readPairs m_textLong m_at m_spot m_token m_whole m_readFault m_readPlace m_value m_curveMany m_cornerMany m_straightAt m_walkLink m_walkAngle m_walkBranch m_walkMany m_lined m_actMany : Int32} {m_n m_c m_d m_s m_e m_k m_x m_y m_g m_a m_fitUp m_fitDown m_worstUp m_worstDown : Int64} {z1 z2 z4 z5 z6 z7 z12 z13 z14 z15 z16 z17 z18 z19 z20 : ax_E} {q3 q8 q9 q10 q11 : Nat → Int32} {u : Nat → Nat} {n : Nat} (h_n : n ≤ 700) (h_v : ∀ k, k < n → u k < 256 ∧ q3 k = nI (u k)) : Ct M_X11_readsAll [.ref 1000, .int (nI n)] (wc, [ob 9 [.int m_thrown, .int m_trouble, .int m_fault, .int m_where, .ref 1001, .ref 1002, .int 40, .ref 1003, .int m_taped, .int m_linkMany, .int m_tracerMany, .int m_pointMany, .int m_pairMany, .ref 1004, .ref 1005, .ref 1006, .ref 1007, .int m_readLinks, .int m_readTracers, .int m_readPoints, .int m_readPairs, .ref 1008, .ref 1009, .ref 1010, .ref 1011, .int m_textLong, .int m_at, .int m_spot, .int m_token, .int m_whole, .int m_readFault, .int m_readPlace, .int m_value, .long m_n, .long m_c, .long m_d, .long m_s, .long m_e, .long m_k, .long m_x, .long m_y, .long m_g, .long m_a, .ref 1012, .ref 1013, .ref 1014, .int m_curveMany, .ref 1015, .int m_cornerMany, .int m_straightAt, .ref 1016, .long m_fitUp, .long m_fitDown, .long m_worstUp, .long m_worstDown, .ref 1017, .int m_walkLink, .int m_walkAngle, .int m_walkBranch, .int m_walkMany, .ref 1018, .ref 1019, .int m_lined, .ref 1020, .int m_actMany], z1, z2, ia 700 q3, z4, z5, z6, z7, ia 16 q8, ia 8 q9, ia 16 q10, ia 16 q11, z12, z13, z14, z15, z16, z17, z18, z19, z20]) (fun r w' => (∃ e : Nat × Nat, ∃ ga : Int32, ∃ gs : Int32, ∃ gt : Int32, ∃ gz : Int32, ∃ gv : Int32, ∃ g8 : Nat → Int32, ∃ g9 : Nat → Int32, ∃ g10 : Nat → Int32, ∃ g11 : Nat → Int32, ∃ k0 : Int32, ∃ k1 : Int32, ∃ k2 : Int32, ∃ k3 : Int32, (pT u n = .inl e) ∧ r = some (.int 0) ∧ w' = (wc, [ob 9 [.int m_thrown, .int m_trouble, .int m_fault, .int m_where, .ref 1001, .ref 1002, .int 40, .ref 1003, .int m_taped, .int m_linkMany, .int m_tracerMany, .int m_pointMany, .int m_pairMany, .ref 1004, .ref 1005, .ref 1006, .ref 1007, .int k0, .int k1, .int k2, .int k3, .ref 1008, .ref 1009, .ref 1010, .ref 1011, .int (nI n), .int ga, .int gs, .int gt, .int gz, .int (nI e.1), .int (nI e.2), .int gv, .long m_n, .long m_c, .long m_d, .long m_s, .long m_e, .long m_k, .long m_x, .long m_y, .long m_g, .long m_a, .ref 1012, .ref 1013, .ref 1014, .int m_curveMany, .ref 1015, .int m_cornerMany, .int m_straightAt, .ref 1016, .long m_fitUp, .long m_fitDown, .long m_worstUp, .long m_worstDown, .ref 1017, .int m_walkLink, .int m_walkAngle, .int m_walkBranch, .int m_walkMany, .ref 1018, .ref 1019, .int m_lined, .ref 1020, .int m_actMany], z1, z2, ia 700 q3, z4, z5, z6, z7, ia 16 g8, ia 8 g9, ia 16 g10, ia 16 g11, z12, z13, z14, z15, z16, z17, z18, z19, z20])) ∨ (∃ s : PS, ∃ ga : Int32, ∃ gs : Int32, ∃ gt : Int32, ∃ gx : Int32, ∃ gv : Int32, ∃ g8 : Nat → Int32, ∃ g9 : Nat → Int32, ∃ g10 : Nat → Int32, ∃ g11 : Nat → Int32, (pT u n = .inr s) ∧ (Agm s.2.1 s.2.2 g8 g9 g10 g11) ∧ (Bcn s.2.1) ∧ r = some (.int 1) ∧ w' = (wc, [ob 9 [.int m_thrown, .int m_trouble, .int m_fault, .int m_where, .ref 1001, .ref 1002, .int 40, .ref 1003, .int m_taped, .int m_linkMany, .int m_tracerMany, .int m_pointMany, .int m_pairMany, .ref 1004, .ref 1005, .ref 1006, .ref 1007, .int (nI (s.2.1 0)), .int (nI (s.2.1 1)), .int (nI (s.2.1 2)), .int (nI (s.2.1 3)), .ref 1008, .ref 1009, .ref 1010, .ref 1011, .int (nI n), .int ga, .int gs, .int gt, .int gx, .int m_readFault, .int m_readPlace, .int gv, .long m_n, .long m_c, .long m_d, .long m_s, .long m_e, .long m_k, .long m_x, .long m_y, .long m_g, .long m_a, .ref 1012, .ref 1013, .ref 1014, .int m_curveMany, .ref 1015, .int m_cornerMany, .int m_straightAt, .ref 1016, .long m_fitUp, .long m_fitDown, .long m_worstUp, .long m_worstDown, .ref 1017, .int m_walkLink, .int m_walkAngle, .int m_walkBranch, .int m_walkMany, .ref 1018, .ref 1019, .int m_lined, .ref 1020, .int m_actMany], z1, z2, ia 700 q3, z4, z5, z6, z7, ia 16 g8, ia 8 g9, ia 16 g10, ia 16 g11, z12, z13, z14, z15, z16, z17, z18, z19, z20]))) := by
  refine ct_of ⟨by decide, rfl⟩ (Nat.le_of_ble_eq_true rfl) ?_
  refine ab_aload_n dX11_readsAll_0 rfl ?_
  refine ab_iload_n dX11_readsAll_1 rfl ?_
  refine ab_putf (w1 := (wc, [ob 9 [.int m_thrown, .int m_trouble, .int m_fault, .int m_where, .ref 1001, .ref 1002, .int 40, .ref 1003, .int m_taped, .int m_linkMany, .int m_tracerMany, .int m_pointMany, .int m_pairMany, .ref 1004, .ref 1005, .ref 1006, .ref 1007, .int m_readLinks, .int m_readTracers, .int m_readPoints, .int m_readPairs, .ref 1008, .ref 1009, .ref 1010, .ref 1011, .int (nI n), .int m_at, .int m_spot, .int m_token, .int m_whole, .int m_readFault, .int m_readPlace, .int m_value, .long m_n, .long m_c, .long m_d, .long m_s, .long m_e, .long m_k, .long m_x, .long m_y, .long m_g, .long m_a, .ref 1012, .ref 1013, .ref 1014, .int m_curveMany, .ref 1015, .int m_cornerMany, .int m_straightAt, .ref 1016, .long m_fitUp, .long m_fitDown, .long m_worstUp, .long m_worstDown, .ref 1017, .int m_walkLink, .int m_walkAngle, .int m_walkBranch, .int m_walkMany, .ref 1018, .ref 1019, .int m_lined, .ref 1020, .int m_actMany], z1, z2, ia 700 q3, z4, z5, z6, z7, ia 16 q8, ia 8 q9, ia 16 q10, ia 16 q11, z12, z13, z14, z15, z16, z17, z18, z19, z20])) dX11_readsAll_2 fl_X11_125 rfl (Nat.le_of_ble_eq_true rfl) (fun _ => ⟨rfl, rfl⟩) rfl ?_
  refine ab_aload_n dX11_readsAll_5 rfl ?_
  refine ab_iconst (v := 0) dX11_readsAll_6 (by decide) ?_
  refine ab_putf (w1 := (wc, [ob 9 [.int m_thrown, .int m_trouble, .int m_fault, .int m_where, .ref 1001, .ref 1002, .int 40, .ref 1003, .int m_taped, .int m_linkMany, .int m_tracerMany, .int m_pointMany, .int m_pairMany, .ref 1004, .ref 1005, .ref 1006, .ref 1007, .int m_readLinks, .int m_readTracers, .int m_readPoints, .int m_readPairs, .ref 1008, .ref 1009, .ref 1010, .ref 1011, .int (nI n), .int m_at, .int 0, .int m_token, .int m_whole, .int m_readFault, .int m_readPlace, .int m_value, .long m_n, .long m_c, .long m_d, .long m_s, .long m_e, .long m_k, .long m_x, .long m_y, .long m_g, .long m_a, .ref 1012, .ref 1013, .ref 1014, .int m_curveMany, .ref 1015, .int m_cornerMany, .int m_straightAt, .ref 1016, .long m_fitUp, .long m_fitDown, .long m_worstUp, .long m_worstDown, .ref 1017, .int m_walkLink, .int m_walkAngle, .int m_walkBranch, .int m_walkMany, .ref 1018, .ref 1019, .int m_lined, .ref 1020, .int m_actMany], z1, z2, ia 700 q3, z4, z5, z6, z7, ia 16 q8, ia 8 q9, ia 16 q10, ia 16 q11, z12, z13, z14, z15, z16, z17, z18, z19, z20])) dX11_readsAll_7 fl_X11_128 rfl (Nat.le_of_ble_eq_true rfl) (fun _ => ⟨rfl, rfl⟩) rfl ?_
  refine ab_aload_n dX11_readsAll_10 rfl ?_
  refine ab_iconst (v := 0) dX11_readsAll_11 (by decide) ?_
  refine ab_putf (w1 := (wc, [ob 9 [.int m_thrown, .int m_trouble, .int m_fault, .int m_where, .ref 1001, .ref 1002, .int 40, .ref 1003, .int m_taped, .int m_linkMany, .int m_tracerMany, .int m_pointMany, .int m_pairMany, .ref 1004, .ref 1005, .ref 1006, .ref 1007, .int 0, .int m_readTracers, .int m_readPoints, .int m_readPairs, .ref 1008, .ref 1009, .ref 1010, .ref 1011, .int (nI n), .int m_at, .int 0, .int m_token, .int m_whole, .int m_readFault, .int m_readPlace, .int m_value, .long m_n, .long m_c, .long m_d, .long m_s, .long m_e, .long m_k, .long m_x, .long m_y, .long m_g, .long m_a, .ref 1012, .ref 1013, .ref 1014, .int m_curveMany, .ref 1015, .int m_cornerMany, .int m_straightAt, .ref 1016, .long m_fitUp, .long m_fitDown, .long m_worstUp, .long m_worstDown, .ref 1017, .int m_walkLink, .int m_walkAngle, .int m_walkBranch, .int m_walkMany, .ref 1018, .ref 1019, .int m_lined, .ref 1020, .int m_actMany], z1, z2, ia 700 q3, z4, z5, z6, z7, ia 16 q8, ia 8 q9, ia 16 q10, ia 16 q11, z12, z13, z14, z15, z16, z17, z18, z19, z20])) dX11_readsAll_12 fl_X11_177 rfl (Nat.le_of_ble_eq_true rfl) (fun _ => ⟨rfl, rfl⟩) rfl ?_
  refine ab_aload_n dX11_readsAll_15 rfl ?_
  refine ab_iconst (v := 0) dX11_readsAll_16 (by decide) ?_
  refine ab_putf (w1 := (wc, [ob 9 [.int m_thrown, .int m_trouble, .int m_fault, .int m_where, .ref 1001, .ref 1002, .int 40, .ref 1003, .int m_taped, .int m_linkMany, .int m_tracerMany, .int m_pointMany, .int m_pairMany, .ref 1004, .ref 1005, .ref 1006, .ref 1007, .int 0, .int 0, .int m_readPoints, .int m_readPairs, .ref 1008, .ref 1009, .ref 1010, .ref 1011, .int (nI n), .int m_at, .int 0, .int m_token, .int m_whole, .int m_readFault, .int m_readPlace, .int m_value, .long m_n, .long m_c, .long m_d, .long m_s, .long m_e, .long m_k, .long m_x, .long m_y, .long m_g, .long m_a, .ref 1012, .ref 1013, .ref 1014, .int m_curveMany, .ref 1015, .int m_cornerMany, .int m_straightAt, .ref 1016, .long m_fitUp, .long m_fitDown, .long m_worstUp, .long m_worstDown, .ref 1017, .int m_walkLink, .int m_walkAngle, .int m_walkBranch, .int m_walkMany, .ref 1018, .ref 1019, .int m_lined, .ref 1020, .int m_actMany], z1, z2, ia 700 q3, z4, z5, z6, z7, ia 16 q8, ia 8 q9, ia 16 q10, ia 16 q11, z12, z13, z14, z15, z16, z17, z18, z19, z20])) dX11_readsAll_17 fl_X11_192 rfl (Nat.le_of_ble_eq_true rfl) (fun _ => ⟨rfl, rfl⟩) rfl ?_
  refine ab_aload_n dX11_readsAll_20 rfl ?_
  refine ab_iconst (v := 0) dX11_readsAll_21 (by decide) ?_
  refine ab_putf (w1 := (wc, [ob 9 [.int m_thrown, .int m_trouble, .int m_fault, .int m_where, .ref 1001, .ref 1002, .int 40, .ref 1003, .int m_taped, .int m_linkMany, .int m_tracerMany, .int m_pointMany, .int m_pairMany, .ref 1004, .ref 1005, .ref 1006, .ref 1007, .int 0, .int 0, .int 0, .int m_readPairs, .ref 1008, .ref 1009, .ref 1010, .ref 1011, .int (nI n), .int m_at, .int 0, .int m_token, .int m_whole, .int m_readFault, .int m_readPlace, .int m_value, .long m_n, .long m_c, .long m_d, .long m_s, .long m_e, .long m_k, .long m_x, .long m_y, .long m_g, .long m_a, .ref 1012, .ref 1013, .ref 1014, .int m_curveMany, .ref 1015, .int m_cornerMany, .int m_straightAt, .ref 1016, .long m_fitUp, .long m_fitDown, .long m_worstUp, .long m_worstDown, .ref 1017, .int m_walkLink, .int m_walkAngle, .int m_walkBranch, .int m_walkMany, .ref 1018, .ref 1019, .int m_lined, .ref 1020, .int m_actMany], z1, z2, ia 700 q3, z4, z5, z6, z7, ia 16 q8, ia 8 q9, ia 16 q10, ia 16 q11, z12, z13, z14, z15, z16, z17, z18, z19, z20])) dX11_readsAll_22 fl_X11_198 rfl (Nat.le_of_ble_eq_true rfl) (fun _ => ⟨rfl, rfl⟩) rfl ?_
  refine ab_aload_n dX11_readsAll_25 rfl ?_
  refine ab_iconst (v := 0) dX11_readsAll_26 (by decide) ?_
  refine ab_putf (w1 := (wc, [ob 9 [.int m_thrown, .int m_trouble, .int m_fault, .int m_where, .ref 1001, .ref 1002, .int 40, .ref 1003, .int m_taped, .int m_linkMany, .int m_tracerMany, .int m_pointMany, .int m_pairMany, .ref 1004, .ref 1005, .ref 1006, .ref 1007, .int 0, .int 0, .int 0, .int 0, .ref 1008, .ref 1009, .ref 1010, .ref 1011, .int (nI n), .int m_at, .int 0, .int m_token, .int m_whole, .int m_readFault, .int m_readPlace, .int m_value, .long m_n, .long m_c, .long m_d, .long m_s, .long m_e, .long m_k, .long m_x, .long m_y, .long m_g, .long m_a, .ref 1012, .ref 1013, .ref 1014, .int m_curveMany, .ref 1015, .int m_cornerMany, .int m_straightAt, .ref 1016, .long m_fitUp, .long m_fitDown, .long m_worstUp, .long m_worstDown, .ref 1017, .int m_walkLink, .int m_walkAngle, .int m_walkBranch, .int m_walkMany, .ref 1018, .ref 1019, .int m_lined, .ref 1020, .int m_actMany], z1, z2, ia 700 q3, z4, z5, z6, z7, ia 16 q8, ia 8 q9, ia 16 q10, ia 16 q11, z12, z13, z14, z15, z16, z17, z18, z19, z20])) dX11_readsAll_27 fl_X11_201 rfl (Nat.le_of_ble_eq_true rfl) (fun _ => ⟨rfl, rfl⟩) rfl ?_
  refine ab_aload_n dX11_readsAll_30 rfl ?_
  refine ab_callV (As := []) (rest := []) dX11_readsAll_31 mv_X11_goesOn ml_X11_166 ⟨by decide, by decide, rfl, rfl, rfl⟩ (by decide) rfl rfl (Nat.le_of_ble_eq_true rfl) rfl (c_X11_goesOn (n := n) (q := 0) h_n h_v (Nat.zero_le n)) ?_
  rintro r w' ⟨gw_1, c_2, rfl, rfl⟩
  refine ab_world (wc, [ob 9 [.int m_thrown, .int m_trouble, .int m_fault, .int m_where, .ref 1001, .ref 1002, .int 40, .ref 1003, .int m_taped, .int m_linkMany, .int m_tracerMany, .int m_pointMany, .int m_pairMany, .ref 1004, .ref 1005, .ref 1006, .ref 1007, .int (nI ((fun _ => 0) 0)), .int (nI ((fun _ => 0) 1)), .int (nI ((fun _ => 0) 2)), .int (nI ((fun _ => 0) 3)), .ref 1008, .ref 1009, .ref 1010, .ref 1011, .int (nI n), .int (nI (sk u n 0)), .int (nI (tE u n (sk u n 0))), .int (tk u n (sk u n 0)), .int gw_1, .int m_readFault, .int m_readPlace, .int m_value, .long m_n, .long m_c, .long m_d, .long m_s, .long m_e, .long m_k, .long m_x, .long m_y, .long m_g, .long m_a, .ref 1012, .ref 1013, .ref 1014, .int m_curveMany, .ref 1015, .int m_cornerMany, .int m_straightAt, .ref 1016, .long m_fitUp, .long m_fitDown, .long m_worstUp, .long m_worstDown, .ref 1017, .int m_walkLink, .int m_walkAngle, .int m_walkBranch, .int m_walkMany, .ref 1018, .ref 1019, .int m_lined, .ref 1020, .int m_actMany], z1, z2, ia 700 q3, z4, z5, z6, z7, ia 16 q8, ia 8 q9, ia 16 q10, ia 16 q11, z12, z13, z14, z15, z16, z17, z18, z19, z20]) rfl ?_
  refine ab_aload_n dX11_readsAll_34 rfl ?_
  refine ab_callV (As := []) (rest := []) dX11_readsAll_35 mv_X11_readsLine ml_X11_224 ⟨by decide, by decide, rfl, rfl, rfl⟩ (by decide) rfl rfl (Nat.le_of_ble_eq_true rfl) rfl (c_X11_readsLine (n := n) (p := 0) (gw := gw_1) (c := (fun _ => 0)) (m := (fun _ => 0)) h_n h_v (Nat.zero_le n) (tE_in (Nat.zero_le n)) c_2 (⟨sk_ge, sk_le (Nat.zero_le n)⟩) (⟨by decide, by decide, by decide, by decide⟩) (Agm_z _ _ _ _ _)) ?_
  rintro r w' (⟨e_3, ga_4, gs_5, gt_6, gz_7, gv_8, g8_9, g9_10, g10_11, g11_12, k0_13, k1_14, k2_15, k3_16, c_17, rfl, rfl⟩ | ⟨s_18, gx_19, gv_20, g8_21, g9_22, g10_23, g11_24, c_25, c_26, c_27, c_28, c_29, rfl, rfl⟩)
  · refine ab_ifne 43 dX11_readsAll_38 (by decide) (fun h_30 => absurd (by decide) h_30) (fun h_30 => ?_)
    refine ab_iconst (v := 0) dX11_readsAll_41 (by decide) ?_
    exact ab_zret dX11_readsAll_42 rfl rfl (by decide) (Or.inl ⟨e_3, ga_4, gs_5, gt_6, gz_7, gv_8, g8_9, g9_10, g10_11, g11_12, k0_13, k1_14, k2_15, k3_16, (pAll_Z (f := n)).trans (sb_l c_17), rfl, rfl⟩)
  · refine ab_ifne 43 dX11_readsAll_38 (by decide) (fun h_31 => ?_) (fun h_31 => absurd h_31 (by decide))
    refine ab_pick [1, 0] rfl ?_
    have heq : pT u n = pZ u n n (s_18.1, s_18.2.1, s_18.2.2) := (pAll_Z (f := n)).trans (sb_r c_25)
    exact lp_rall h_n h_v n s_18.1 s_18.2.1 s_18.2.2 gx_19 gv_20 g8_21 g9_22 g10_23 g11_24 (by omega) c_28.2 c_27 c_26 c_29 (fun e ga gs gt gz gv k0 k1 k2 k3 g8 g9 g10 g11 z => Or.inl ⟨e, ga, gs, gt, gz, gv, g8, g9, g10, g11, k0, k1, k2, k3, heq.trans z, rfl, rfl⟩) (fun s ga gs gt gx gv g8 g9 g10 g11 z ha hb => Or.inr ⟨s, ga, gs, gt, gx, gv, g8, g9, g10, g11, heq.trans z, ha, hb, rfl, rfl⟩)
def lp_cp4_st (q8 : Nat → Int32) (k : Nat) (f : Nat → Int32) : (Nat → Int32) := (upd f k (q8 k))
set_option maxHeartbeats 400000 in
theorem lp_cp4 {wc : List ax_E} {z0 z1 z2 z3 z5 z6 z7 z9 z10 z11 z12 z13 z14 z15 z16 z17 z18 z19 z20 : ax_E} {q8 : Nat → Int32} {Q : Option Value → ax_W → Prop} {B : Nat} (hB : B = 16)  : ∀ (n k : Nat) (f : Nat → Int32) , k + n = B → Ab M_X11_copies Q (0, 0) 20 [(2, .int (nI B)), (1, .ref 1004), (0, .ref 1008)] [] (wc, [z0, z1, z2, z3, ia 16 (itr (lp_cp4_st q8) n k f), z5, z6, z7, ia 16 q8, z9, z10, z11, z12, z13, z14, z15, z16, z17, z18, z19, z20]) → Ab M_X11_copies Q (0, 0) 2 [(2, .int (nI k)), (1, .ref 1004), (0, .ref 1008)] [] (wc, [z0, z1, z2, z3, ia 16 f, z5, z6, z7, ia 16 q8, z9, z10, z11, z12, z13, z14, z15, z16, z17, z18, z19, z20]) := by
  intro n
  induction n with
  | zero =>
    intro k f  hk hx
    rw [itr_0] at hx
    rw [show k = B by omega]
    refine ab_iload_n dX11_copies_2 rfl ?_
    refine ab_aload_n dX11_copies_3 rfl ?_
    refine ab_ialen (v := 16) dX11_copies_4 rfl (by decide) ?_
    refine ab_icmpge 20 dX11_copies_5 (by decide) (fun h_1 => ?_) (fun h_1 => absurd (nI_le (a := 16) (by omega) (by omega)) h_1)
    refine ab_pick [0, 1, 2] rfl ?_
    exact hx 
  | succ n ih =>
    intro k f  hk hx
    refine ab_iload_n dX11_copies_2 rfl ?_
    refine ab_aload_n dX11_copies_3 rfl ?_
    refine ab_ialen (v := 16) dX11_copies_4 rfl (by decide) ?_
    refine ab_icmpge 20 dX11_copies_5 (by decide) (fun h_1 => absurd h_1 (nI_ge (a := k) (b := 16) (by omega) (by omega))) (fun h_1 => ?_)
    refine ab_aload_n dX11_copies_8 rfl ?_
    refine ab_iload_n dX11_copies_9 rfl ?_
    refine ab_aload_n dX11_copies_10 rfl ?_
    refine ab_iload_n dX11_copies_11 rfl ?_
    refine ab_iald (j := k) dX11_copies_12 rfl (ix_nI (by omega) (by decide)) ?_
    refine ab_iast (w1 := (wc, [z0, z1, z2, z3, ia 16 (upd f k (q8 k)), z5, z6, z7, ia 16 q8, z9, z10, z11, z12, z13, z14, z15, z16, z17, z18, z19, z20])) dX11_copies_13 rfl (ix_nI (by omega) (by decide)) rfl ?_
    refine ab_iinc (v := (nI (k + 1))) (la' := [(2, .int (nI (k + 1))), (1, .ref 1004), (0, .ref 1008)]) dX11_copies_14 rfl (nI_1 _) (by decide) rfl ?_
    refine ab_goto 2 dX11_copies_17 (by decide) ?_
    refine ab_pick [0, 1, 2] rfl ?_
    rw [(itr_s (lp_cp4_st q8) n k f).trans (congrArg (itr (lp_cp4_st q8) n (k + 1)) (show lp_cp4_st q8 k f = (upd f k (q8 k)) from rfl))] at hx
    exact ih (k + 1) (upd f k (q8 k))  (by omega) hx
theorem copy_itr (g r : Nat → Int32) (st : Nat → (Nat → Int32) → Nat → Int32) (hst : ∀ k f, st k f = upd f k (g k)) : ∀ (n k : Nat) (f : Nat → Int32), (∀ i, f i = if i < k then g i else r i) → ∀ i, itr st n k f i = if i < k + n then g i else r i
  | 0, k, f, h, i => by rw [itr_0]; exact h i
  | n + 1, k, f, h, i => by
    rw [itr_s, hst, copy_itr g r st hst n (k + 1) _ (fun i => ?_) i]
    · rw [show k + 1 + n = k + (n + 1) by omega]
    · unfold upd
      by_cases e : i = k
      · rw [if_pos e, if_pos (by omega), e]
      · rw [if_neg e, h i]
        by_cases z : i < k
        · rw [if_pos z, if_pos (by omega)]
        · rw [if_neg z, if_neg (by omega)]
theorem cp4 (g r : Nat → Int32) : itr (lp_cp4_st g) 16 0 r = ovl g 16 r := by
  funext i
  rw [copy_itr g r (lp_cp4_st g) (fun _ _ => rfl) 16 0 r (fun i => by rw [if_neg (by omega)]) i, Nat.zero_add]
  rfl
theorem c_X11_copies_4 {wc : List ax_E} {z0 z1 z2 z3 z5 z6 z7 z9 z10 z11 z12 z13 z14 z15 z16 z17 z18 z19 z20 : ax_E} {q4 q8 : Nat → Int32}  : Ct M_X11_copies [.ref 1008, .ref 1004] (wc, [z0, z1, z2, z3, ia 16 q4, z5, z6, z7, ia 16 q8, z9, z10, z11, z12, z13, z14, z15, z16, z17, z18, z19, z20]) (fun r w' => r = none ∧ w' = (wc, [z0, z1, z2, z3, ia 16 (ovl q8 16 q4), z5, z6, z7, ia 16 q8, z9, z10, z11, z12, z13, z14, z15, z16, z17, z18, z19, z20])) := by
  refine ct_of ⟨by decide, rfl⟩ (Nat.le_of_ble_eq_true rfl) ?_
  refine ab_iconst (v := 0) dX11_copies_0 (by decide) ?_
  refine ab_istore_n (la' := [(2, .int 0), (0, .ref 1008), (1, .ref 1004)]) dX11_copies_1 (by decide) rfl ?_
  refine ab_pick [0, 2, 1] rfl ?_
  refine lp_cp4 (B := 16) rfl 16 0 q4 (by omega) ?_
  exact ab_vret dX11_copies_20 rfl (by decide) (⟨rfl, by rw [cp4]⟩)
def lp_cp5_st (q9 : Nat → Int32) (k : Nat) (f : Nat → Int32) : (Nat → Int32) := (upd f k (q9 k))
set_option maxHeartbeats 400000 in
theorem lp_cp5 {wc : List ax_E} {z0 z1 z2 z3 z4 z6 z7 z8 z10 z11 z12 z13 z14 z15 z16 z17 z18 z19 z20 : ax_E} {q9 : Nat → Int32} {Q : Option Value → ax_W → Prop} {B : Nat} (hB : B = 8)  : ∀ (n k : Nat) (f : Nat → Int32) , k + n = B → Ab M_X11_copies Q (0, 0) 20 [(2, .int (nI B)), (1, .ref 1005), (0, .ref 1009)] [] (wc, [z0, z1, z2, z3, z4, ia 8 (itr (lp_cp5_st q9) n k f), z6, z7, z8, ia 8 q9, z10, z11, z12, z13, z14, z15, z16, z17, z18, z19, z20]) → Ab M_X11_copies Q (0, 0) 2 [(2, .int (nI k)), (1, .ref 1005), (0, .ref 1009)] [] (wc, [z0, z1, z2, z3, z4, ia 8 f, z6, z7, z8, ia 8 q9, z10, z11, z12, z13, z14, z15, z16, z17, z18, z19, z20]) := by
  intro n
  induction n with
  | zero =>
    intro k f  hk hx
    rw [itr_0] at hx
    rw [show k = B by omega]
    refine ab_iload_n dX11_copies_2 rfl ?_
    refine ab_aload_n dX11_copies_3 rfl ?_
    refine ab_ialen (v := 8) dX11_copies_4 rfl (by decide) ?_
    refine ab_icmpge 20 dX11_copies_5 (by decide) (fun h_1 => ?_) (fun h_1 => absurd (nI_le (a := 8) (by omega) (by omega)) h_1)
    refine ab_pick [0, 1, 2] rfl ?_
    exact hx 
  | succ n ih =>
    intro k f  hk hx
    refine ab_iload_n dX11_copies_2 rfl ?_
    refine ab_aload_n dX11_copies_3 rfl ?_
    refine ab_ialen (v := 8) dX11_copies_4 rfl (by decide) ?_
    refine ab_icmpge 20 dX11_copies_5 (by decide) (fun h_1 => absurd h_1 (nI_ge (a := k) (b := 8) (by omega) (by omega))) (fun h_1 => ?_)
    refine ab_aload_n dX11_copies_8 rfl ?_
    refine ab_iload_n dX11_copies_9 rfl ?_
    refine ab_aload_n dX11_copies_10 rfl ?_
    refine ab_iload_n dX11_copies_11 rfl ?_
    refine ab_iald (j := k) dX11_copies_12 rfl (ix_nI (by omega) (by decide)) ?_
    refine ab_iast (w1 := (wc, [z0, z1, z2, z3, z4, ia 8 (upd f k (q9 k)), z6, z7, z8, ia 8 q9, z10, z11, z12, z13, z14, z15, z16, z17, z18, z19, z20])) dX11_copies_13 rfl (ix_nI (by omega) (by decide)) rfl ?_
    refine ab_iinc (v := (nI (k + 1))) (la' := [(2, .int (nI (k + 1))), (1, .ref 1005), (0, .ref 1009)]) dX11_copies_14 rfl (nI_1 _) (by decide) rfl ?_
    refine ab_goto 2 dX11_copies_17 (by decide) ?_
    refine ab_pick [0, 1, 2] rfl ?_
    rw [(itr_s (lp_cp5_st q9) n k f).trans (congrArg (itr (lp_cp5_st q9) n (k + 1)) (show lp_cp5_st q9 k f = (upd f k (q9 k)) from rfl))] at hx
    exact ih (k + 1) (upd f k (q9 k))  (by omega) hx
theorem cp5 (g r : Nat → Int32) : itr (lp_cp5_st g) 8 0 r = ovl g 8 r := by
  funext i
  rw [copy_itr g r (lp_cp5_st g) (fun _ _ => rfl) 8 0 r (fun i => by rw [if_neg (by omega)]) i, Nat.zero_add]
  rfl
theorem c_X11_copies_5 {wc : List ax_E} {z0 z1 z2 z3 z4 z6 z7 z8 z10 z11 z12 z13 z14 z15 z16 z17 z18 z19 z20 : ax_E} {q5 q9 : Nat → Int32}  : Ct M_X11_copies [.ref 1009, .ref 1005] (wc, [z0, z1, z2, z3, z4, ia 8 q5, z6, z7, z8, ia 8 q9, z10, z11, z12, z13, z14, z15, z16, z17, z18, z19, z20]) (fun r w' => r = none ∧ w' = (wc, [z0, z1, z2, z3, z4, ia 8 (ovl q9 8 q5), z6, z7, z8, ia 8 q9, z10, z11, z12, z13, z14, z15, z16, z17, z18, z19, z20])) := by
  refine ct_of ⟨by decide, rfl⟩ (Nat.le_of_ble_eq_true rfl) ?_
  refine ab_iconst (v := 0) dX11_copies_0 (by decide) ?_
  refine ab_istore_n (la' := [(2, .int 0), (0, .ref 1009), (1, .ref 1005)]) dX11_copies_1 (by decide) rfl ?_
  refine ab_pick [0, 2, 1] rfl ?_
  refine lp_cp5 (B := 8) rfl 8 0 q5 (by omega) ?_
  exact ab_vret dX11_copies_20 rfl (by decide) (⟨rfl, by rw [cp5]⟩)
def lp_cp6_st (q10 : Nat → Int32) (k : Nat) (f : Nat → Int32) : (Nat → Int32) := (upd f k (q10 k))
set_option maxHeartbeats 400000 in
theorem lp_cp6 {wc : List ax_E} {z0 z1 z2 z3 z4 z5 z7 z8 z9 z11 z12 z13 z14 z15 z16 z17 z18 z19 z20 : ax_E} {q10 : Nat → Int32} {Q : Option Value → ax_W → Prop} {B : Nat} (hB : B = 16)  : ∀ (n k : Nat) (f : Nat → Int32) , k + n = B → Ab M_X11_copies Q (0, 0) 20 [(2, .int (nI B)), (1, .ref 1006), (0, .ref 1010)] [] (wc, [z0, z1, z2, z3, z4, z5, ia 16 (itr (lp_cp6_st q10) n k f), z7, z8, z9, ia 16 q10, z11, z12, z13, z14, z15, z16, z17, z18, z19, z20]) → Ab M_X11_copies Q (0, 0) 2 [(2, .int (nI k)), (1, .ref 1006), (0, .ref 1010)] [] (wc, [z0, z1, z2, z3, z4, z5, ia 16 f, z7, z8, z9, ia 16 q10, z11, z12, z13, z14, z15, z16, z17, z18, z19, z20]) := by
  intro n
  induction n with
  | zero =>
    intro k f  hk hx
    rw [itr_0] at hx
    rw [show k = B by omega]
    refine ab_iload_n dX11_copies_2 rfl ?_
    refine ab_aload_n dX11_copies_3 rfl ?_
    refine ab_ialen (v := 16) dX11_copies_4 rfl (by decide) ?_
    refine ab_icmpge 20 dX11_copies_5 (by decide) (fun h_1 => ?_) (fun h_1 => absurd (nI_le (a := 16) (by omega) (by omega)) h_1)
    refine ab_pick [0, 1, 2] rfl ?_
    exact hx 
  | succ n ih =>
    intro k f  hk hx
    refine ab_iload_n dX11_copies_2 rfl ?_
    refine ab_aload_n dX11_copies_3 rfl ?_
    refine ab_ialen (v := 16) dX11_copies_4 rfl (by decide) ?_
    refine ab_icmpge 20 dX11_copies_5 (by decide) (fun h_1 => absurd h_1 (nI_ge (a := k) (b := 16) (by omega) (by omega))) (fun h_1 => ?_)
    refine ab_aload_n dX11_copies_8 rfl ?_
    refine ab_iload_n dX11_copies_9 rfl ?_
    refine ab_aload_n dX11_copies_10 rfl ?_
    refine ab_iload_n dX11_copies_11 rfl ?_
    refine ab_iald (j := k) dX11_copies_12 rfl (ix_nI (by omega) (by decide)) ?_
    refine ab_iast (w1 := (wc, [z0, z1, z2, z3, z4, z5, ia 16 (upd f k (q10 k)), z7, z8, z9, ia 16 q10, z11, z12, z13, z14, z15, z16, z17, z18, z19, z20])) dX11_copies_13 rfl (ix_nI (by omega) (by decide)) rfl ?_
    refine ab_iinc (v := (nI (k + 1))) (la' := [(2, .int (nI (k + 1))), (1, .ref 1006), (0, .ref 1010)]) dX11_copies_14 rfl (nI_1 _) (by decide) rfl ?_
    refine ab_goto 2 dX11_copies_17 (by decide) ?_
    refine ab_pick [0, 1, 2] rfl ?_
    rw [(itr_s (lp_cp6_st q10) n k f).trans (congrArg (itr (lp_cp6_st q10) n (k + 1)) (show lp_cp6_st q10 k f = (upd f k (q10 k)) from rfl))] at hx
    exact ih (k + 1) (upd f k (q10 k))  (by omega) hx
theorem cp6 (g r : Nat → Int32) : itr (lp_cp6_st g) 16 0 r = ovl g 16 r := by
  funext i
  rw [copy_itr g r (lp_cp6_st g) (fun _ _ => rfl) 16 0 r (fun i => by rw [if_neg (by omega)]) i, Nat.zero_add]
  rfl
theorem c_X11_copies_6 {wc : List ax_E} {z0 z1 z2 z3 z4 z5 z7 z8 z9 z11 z12 z13 z14 z15 z16 z17 z18 z19 z20 : ax_E} {q6 q10 : Nat → Int32}  : Ct M_X11_copies [.ref 1010, .ref 1006] (wc, [z0, z1, z2, z3, z4, z5, ia 16 q6, z7, z8, z9, ia 16 q10, z11, z12, z13, z14, z15, z16, z17, z18, z19, z20]) (fun r w' => r = none ∧ w' = (wc, [z0, z1, z2, z3, z4, z5, ia 16 (ovl q10 16 q6), z7, z8, z9, ia 16 q10, z11, z12, z13, z14, z15, z16, z17, z18, z19, z20])) := by
  refine ct_of ⟨by decide, rfl⟩ (Nat.le_of_ble_eq_true rfl) ?_
  refine ab_iconst (v := 0) dX11_copies_0 (by decide) ?_
  refine ab_istore_n (la' := [(2, .int 0), (0, .ref 1010), (1, .ref 1006)]) dX11_copies_1 (by decide) rfl ?_
  refine ab_pick [0, 2, 1] rfl ?_
  refine lp_cp6 (B := 16) rfl 16 0 q6 (by omega) ?_
  exact ab_vret dX11_copies_20 rfl (by decide) (⟨rfl, by rw [cp6]⟩)
def lp_cp7_st (q11 : Nat → Int32) (k : Nat) (f : Nat → Int32) : (Nat → Int32) := (upd f k (q11 k))
set_option maxHeartbeats 400000 in
theorem lp_cp7 {wc : List ax_E} {z0 z1 z2 z3 z4 z5 z6 z8 z9 z10 z12 z13 z14 z15 z16 z17 z18 z19 z20 : ax_E} {q11 : Nat → Int32} {Q : Option Value → ax_W → Prop} {B : Nat} (hB : B = 16)  : ∀ (n k : Nat) (f : Nat → Int32) , k + n = B → Ab M_X11_copies Q (0, 0) 20 [(2, .int (nI B)), (1, .ref 1007), (0, .ref 1011)] [] (wc, [z0, z1, z2, z3, z4, z5, z6, ia 16 (itr (lp_cp7_st q11) n k f), z8, z9, z10, ia 16 q11, z12, z13, z14, z15, z16, z17, z18, z19, z20]) → Ab M_X11_copies Q (0, 0) 2 [(2, .int (nI k)), (1, .ref 1007), (0, .ref 1011)] [] (wc, [z0, z1, z2, z3, z4, z5, z6, ia 16 f, z8, z9, z10, ia 16 q11, z12, z13, z14, z15, z16, z17, z18, z19, z20]) := by
  intro n
  induction n with
  | zero =>
    intro k f  hk hx
    rw [itr_0] at hx
    rw [show k = B by omega]
    refine ab_iload_n dX11_copies_2 rfl ?_
    refine ab_aload_n dX11_copies_3 rfl ?_
    refine ab_ialen (v := 16) dX11_copies_4 rfl (by decide) ?_
    refine ab_icmpge 20 dX11_copies_5 (by decide) (fun h_1 => ?_) (fun h_1 => absurd (nI_le (a := 16) (by omega) (by omega)) h_1)
    refine ab_pick [0, 1, 2] rfl ?_
    exact hx 
  | succ n ih =>
    intro k f  hk hx
    refine ab_iload_n dX11_copies_2 rfl ?_
    refine ab_aload_n dX11_copies_3 rfl ?_
    refine ab_ialen (v := 16) dX11_copies_4 rfl (by decide) ?_
    refine ab_icmpge 20 dX11_copies_5 (by decide) (fun h_1 => absurd h_1 (nI_ge (a := k) (b := 16) (by omega) (by omega))) (fun h_1 => ?_)
    refine ab_aload_n dX11_copies_8 rfl ?_
    refine ab_iload_n dX11_copies_9 rfl ?_
    refine ab_aload_n dX11_copies_10 rfl ?_
    refine ab_iload_n dX11_copies_11 rfl ?_
    refine ab_iald (j := k) dX11_copies_12 rfl (ix_nI (by omega) (by decide)) ?_
    refine ab_iast (w1 := (wc, [z0, z1, z2, z3, z4, z5, z6, ia 16 (upd f k (q11 k)), z8, z9, z10, ia 16 q11, z12, z13, z14, z15, z16, z17, z18, z19, z20])) dX11_copies_13 rfl (ix_nI (by omega) (by decide)) rfl ?_
    refine ab_iinc (v := (nI (k + 1))) (la' := [(2, .int (nI (k + 1))), (1, .ref 1007), (0, .ref 1011)]) dX11_copies_14 rfl (nI_1 _) (by decide) rfl ?_
    refine ab_goto 2 dX11_copies_17 (by decide) ?_
    refine ab_pick [0, 1, 2] rfl ?_
    rw [(itr_s (lp_cp7_st q11) n k f).trans (congrArg (itr (lp_cp7_st q11) n (k + 1)) (show lp_cp7_st q11 k f = (upd f k (q11 k)) from rfl))] at hx
    exact ih (k + 1) (upd f k (q11 k))  (by omega) hx
theorem cp7 (g r : Nat → Int32) : itr (lp_cp7_st g) 16 0 r = ovl g 16 r := by
  funext i
  rw [copy_itr g r (lp_cp7_st g) (fun _ _ => rfl) 16 0 r (fun i => by rw [if_neg (by omega)]) i, Nat.zero_add]
  rfl
theorem c_X11_copies_7 {wc : List ax_E} {z0 z1 z2 z3 z4 z5 z6 z8 z9 z10 z12 z13 z14 z15 z16 z17 z18 z19 z20 : ax_E} {q7 q11 : Nat → Int32}  : Ct M_X11_copies [.ref 1011, .ref 1007] (wc, [z0, z1, z2, z3, z4, z5, z6, ia 16 q7, z8, z9, z10, ia 16 q11, z12, z13, z14, z15, z16, z17, z18, z19, z20]) (fun r w' => r = none ∧ w' = (wc, [z0, z1, z2, z3, z4, z5, z6, ia 16 (ovl q11 16 q7), z8, z9, z10, ia 16 q11, z12, z13, z14, z15, z16, z17, z18, z19, z20])) := by
  refine ct_of ⟨by decide, rfl⟩ (Nat.le_of_ble_eq_true rfl) ?_
  refine ab_iconst (v := 0) dX11_copies_0 (by decide) ?_
  refine ab_istore_n (la' := [(2, .int 0), (0, .ref 1011), (1, .ref 1007)]) dX11_copies_1 (by decide) rfl ?_
  refine ab_pick [0, 2, 1] rfl ?_
  refine lp_cp7 (B := 16) rfl 16 0 q7 (by omega) ?_
  exact ab_vret dX11_copies_20 rfl (by decide) (⟨rfl, by rw [cp7]⟩)
