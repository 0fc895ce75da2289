/-- a row of acts moved down by three, as far as k -/
def shf (r : Nat → Int32) (k : Nat) : Nat → Int32 := fun j => if j + 3 < k then r (j + 3) else r j
theorem shf_3 (r : Nat → Int32) : shf r 3 = r := by funext j; unfold shf; rw [if_neg (by omega)]
theorem shf_k (r : Nat → Int32) (k : Nat) : shf r k k = r k := by unfold shf; rw [if_neg (by omega)]
theorem shf_s (r : Nat → Int32) {k : Nat} (h : 3 ≤ k) : upd (shf r k) (k - 3) (r k) = shf r (k + 1) := by
  funext j
  unfold upd shf
  by_cases q : j = k - 3
  · subst q
    rw [if_pos rfl, if_pos (by omega), show k - 3 + 3 = k by omega]
  · rw [if_neg q]
    by_cases q2 : j + 3 < k
    · rw [if_pos q2, if_pos (by omega)]
    · rw [if_neg q2, if_neg (by omega)]
theorem lp_shift {wc : List ax_E} {m_thrown m_trouble m_fault m_where m_taped m_linkMany m_tracerMany m_pointMany m_pairMany m_readLinks m_readTracers m_readPoints m_readPairs m_textLong m_at m_spot m_token m_whole m_readFault m_readPlace m_value m_curveMany m_cornerMany m_straightAt m_walkLink m_walkAngle m_walkBranch m_walkMany m_lined a1 a2 a3 : Int32} {m_n m_c m_d m_s m_e m_k m_x m_y m_g m_a m_fitUp m_fitDown m_worstUp m_worstDown : Int64} {z1 z2 z3 z5 z6 z7 z8 z9 z10 z11 z12 z13 z14 z15 z16 z17 z18 z19 : ax_E} {q4 q20 : Nat → Int32} (h_i : 0 ≤ a1 ∧ a1 < m_linkMany) (h_l : 0 ≤ m_linkMany ∧ m_linkMany ≤ nI 4) (h_w : 0 ≤ a2 ∧ a2 < nI 4) : ∀ (n k : Nat), k + n = 30 → 3 ≤ k → Ab M_X11_reshape (fun r w' => r = some (.int (q4 (0 + Int32.toNatClampNeg a1 * 4 + Int32.toNatClampNeg a2))) ∧ w' = (wc, [ob 9 [.int m_thrown, .int m_trouble, .int m_fault, .int m_where, .ref 1001, .ref 1002, .int 40, .ref 1003, .int m_taped, .int m_linkMany, .int m_tracerMany, .int m_pointMany, .int m_pairMany, .ref 1004, .ref 1005, .ref 1006, .ref 1007, .int m_readLinks, .int m_readTracers, .int m_readPoints, .int m_readPairs, .ref 1008, .ref 1009, .ref 1010, .ref 1011, .int m_textLong, .int m_at, .int m_spot, .int m_token, .int m_whole, .int m_readFault, .int m_readPlace, .int m_value, .long m_n, .long m_c, .long m_d, .long m_s, .long m_e, .long m_k, .long m_x, .long m_y, .long m_g, .long m_a, .ref 1012, .ref 1013, .ref 1014, .int m_curveMany, .ref 1015, .int m_cornerMany, .int m_straightAt, .ref 1016, .long m_fitUp, .long m_fitDown, .long m_worstUp, .long m_worstDown, .ref 1017, .int (-1), .int m_walkAngle, .int m_walkBranch, .int m_walkMany, .ref 1018, .ref 1019, .int m_lined, .ref 1020, .int 10], z1, z2, z3, ia 16 (upd q4 (0 + Int32.toNatClampNeg a1 * 4 + Int32.toNatClampNeg a2) a3), z5, z6, z7, z8, z9, z10, z11, z12, z13, z14, z15, z16, z17, z18, z19, ia 30 (upd (upd (upd (shf q20 30) 27 a1) 28 a2) 29 (q4 (0 + Int32.toNatClampNeg a1 * 4 + Int32.toNatClampNeg a2)))])) (0, 0) 55 [(4, .int (nI k)), (0, .ref 1000), (1, .int a1), (2, .int a2), (3, .int a3)] [] (wc, [ob 9 [.int m_thrown, .int m_trouble, .int m_fault, .int m_where, .ref 1001, .ref 1002, .int 40, .ref 1003, .int m_taped, .int m_linkMany, .int m_tracerMany, .int m_pointMany, .int m_pairMany, .ref 1004, .ref 1005, .ref 1006, .ref 1007, .int m_readLinks, .int m_readTracers, .int m_readPoints, .int m_readPairs, .ref 1008, .ref 1009, .ref 1010, .ref 1011, .int m_textLong, .int m_at, .int m_spot, .int m_token, .int m_whole, .int m_readFault, .int m_readPlace, .int m_value, .long m_n, .long m_c, .long m_d, .long m_s, .long m_e, .long m_k, .long m_x, .long m_y, .long m_g, .long m_a, .ref 1012, .ref 1013, .ref 1014, .int m_curveMany, .ref 1015, .int m_cornerMany, .int m_straightAt, .ref 1016, .long m_fitUp, .long m_fitDown, .long m_worstUp, .long m_worstDown, .ref 1017, .int m_walkLink, .int m_walkAngle, .int m_walkBranch, .int m_walkMany, .ref 1018, .ref 1019, .int m_lined, .ref 1020, .int 10], z1, z2, z3, ia 16 q4, z5, z6, z7, z8, z9, z10, z11, z12, z13, z14, z15, z16, z17, z18, z19, ia 30 (shf q20 k)]) := by
  intro n
  induction n with
  | zero =>
    intro k hk h3
    refine ab_iload dX11_reshape_55 rfl ?_
    refine ab_bipush (v := 30) dX11_reshape_57 (by decide) ?_
    refine ab_icmpge 84 dX11_reshape_59 (by decide) (fun h_1 => ?_) (fun h_1 => absurd (nI_le (a := 30) (by omega) (by omega)) h_1)
    refine ab_aload_n dX11_reshape_84 rfl ?_
    refine ab_dup rfl dX11_reshape_85 ?_
    refine ab_getf dX11_reshape_86 fl_X11_249 rfl rfl ?_
    refine ab_iconst (v := 1) dX11_reshape_89 (by decide) ?_
    refine ab_isub dX11_reshape_90 ?_
    refine ab_topi (v := 9) (by decide) ?_
    refine ab_putf (w1 := (wc, [ob 9 [.int m_thrown, .int m_trouble, .int m_fault, .int m_where, .ref 1001, .ref 1002, .int 40, .ref 1003, .int m_taped, .int m_linkMany, .int m_tracerMany, .int m_pointMany, .int m_pairMany, .ref 1004, .ref 1005, .ref 1006, .ref 1007, .int m_readLinks, .int m_readTracers, .int m_readPoints, .int m_readPairs, .ref 1008, .ref 1009, .ref 1010, .ref 1011, .int m_textLong, .int m_at, .int m_spot, .int m_token, .int m_whole, .int m_readFault, .int m_readPlace, .int m_value, .long m_n, .long m_c, .long m_d, .long m_s, .long m_e, .long m_k, .long m_x, .long m_y, .long m_g, .long m_a, .ref 1012, .ref 1013, .ref 1014, .int m_curveMany, .ref 1015, .int m_cornerMany, .int m_straightAt, .ref 1016, .long m_fitUp, .long m_fitDown, .long m_worstUp, .long m_worstDown, .ref 1017, .int m_walkLink, .int m_walkAngle, .int m_walkBranch, .int m_walkMany, .ref 1018, .ref 1019, .int m_lined, .ref 1020, .int 9], z1, z2, z3, ia 16 q4, z5, z6, z7, z8, z9, z10, z11, z12, z13, z14, z15, z16, z17, z18, z19, ia 30 (shf q20 k)])) dX11_reshape_91 fl_X11_249 rfl (Nat.le_of_ble_eq_true rfl) (fun _ => ⟨rfl, rfl⟩) rfl ?_
    refine ab_aload_n dX11_reshape_94 rfl ?_
    refine ab_iload_n dX11_reshape_95 rfl ?_
    refine ab_iload_n dX11_reshape_96 rfl ?_
    refine ab_callV (As := [.int a1, .int a2]) (rest := []) dX11_reshape_97 mv_X11_barOf ml_X11_252 ⟨by decide, by decide, rfl, rfl, rfl⟩ (by decide) rfl rfl (Nat.le_of_ble_eq_true rfl) rfl (c_X11_barOf h_i h_l h_w) ?_
    rintro r w' ⟨rfl, rfl⟩
    refine ab_istore (la' := [(4, .int (q4 (0 + Int32.toNatClampNeg a1 * 4 + Int32.toNatClampNeg a2))), (0, .ref 1000), (1, .int a1), (2, .int a2), (3, .int a3)]) dX11_reshape_100 (by decide) rfl ?_
    refine ab_aload_n dX11_reshape_102 rfl ?_
    refine ab_getf dX11_reshape_103 fl_X11_94 rfl rfl ?_
    refine ab_iconst (v := 3) dX11_reshape_106 (by decide) ?_
    refine ab_aload_n dX11_reshape_107 rfl ?_
    refine ab_getf dX11_reshape_108 fl_X11_249 rfl rfl ?_
    refine ab_imul dX11_reshape_111 ?_
    refine ab_topi (v := 27) (by decide) ?_
    refine ab_iload_n dX11_reshape_112 rfl ?_
    refine ab_iast (w1 := (wc, [ob 9 [.int m_thrown, .int m_trouble, .int m_fault, .int m_where, .ref 1001, .ref 1002, .int 40, .ref 1003, .int m_taped, .int m_linkMany, .int m_tracerMany, .int m_pointMany, .int m_pairMany, .ref 1004, .ref 1005, .ref 1006, .ref 1007, .int m_readLinks, .int m_readTracers, .int m_readPoints, .int m_readPairs, .ref 1008, .ref 1009, .ref 1010, .ref 1011, .int m_textLong, .int m_at, .int m_spot, .int m_token, .int m_whole, .int m_readFault, .int m_readPlace, .int m_value, .long m_n, .long m_c, .long m_d, .long m_s, .long m_e, .long m_k, .long m_x, .long m_y, .long m_g, .long m_a, .ref 1012, .ref 1013, .ref 1014, .int m_curveMany, .ref 1015, .int m_cornerMany, .int m_straightAt, .ref 1016, .long m_fitUp, .long m_fitDown, .long m_worstUp, .long m_worstDown, .ref 1017, .int m_walkLink, .int m_walkAngle, .int m_walkBranch, .int m_walkMany, .ref 1018, .ref 1019, .int m_lined, .ref 1020, .int 9], z1, z2, z3, ia 16 q4, z5, z6, z7, z8, z9, z10, z11, z12, z13, z14, z15, z16, z17, z18, z19, ia 30 (upd (shf q20 k) 27 a1)])) dX11_reshape_113 rfl (ix_c (by decide)) rfl ?_
    refine ab_aload_n dX11_reshape_114 rfl ?_
    refine ab_getf dX11_reshape_115 fl_X11_94 rfl rfl ?_
    refine ab_iconst (v := 3) dX11_reshape_118 (by decide) ?_
    refine ab_aload_n dX11_reshape_119 rfl ?_
    refine ab_getf dX11_reshape_120 fl_X11_249 rfl rfl ?_
    refine ab_imul dX11_reshape_123 ?_
    refine ab_topi (v := 27) (by decide) ?_
    refine ab_iconst (v := 1) dX11_reshape_124 (by decide) ?_
    refine ab_iadd dX11_reshape_125 ?_
    refine ab_topi (v := 28) (by decide) ?_
    refine ab_iload_n dX11_reshape_126 rfl ?_
    refine ab_iast (w1 := (wc, [ob 9 [.int m_thrown, .int m_trouble, .int m_fault, .int m_where, .ref 1001, .ref 1002, .int 40, .ref 1003, .int m_taped, .int m_linkMany, .int m_tracerMany, .int m_pointMany, .int m_pairMany, .ref 1004, .ref 1005, .ref 1006, .ref 1007, .int m_readLinks, .int m_readTracers, .int m_readPoints, .int m_readPairs, .ref 1008, .ref 1009, .ref 1010, .ref 1011, .int m_textLong, .int m_at, .int m_spot, .int m_token, .int m_whole, .int m_readFault, .int m_readPlace, .int m_value, .long m_n, .long m_c, .long m_d, .long m_s, .long m_e, .long m_k, .long m_x, .long m_y, .long m_g, .long m_a, .ref 1012, .ref 1013, .ref 1014, .int m_curveMany, .ref 1015, .int m_cornerMany, .int m_straightAt, .ref 1016, .long m_fitUp, .long m_fitDown, .long m_worstUp, .long m_worstDown, .ref 1017, .int m_walkLink, .int m_walkAngle, .int m_walkBranch, .int m_walkMany, .ref 1018, .ref 1019, .int m_lined, .ref 1020, .int 9], z1, z2, z3, ia 16 q4, z5, z6, z7, z8, z9, z10, z11, z12, z13, z14, z15, z16, z17, z18, z19, ia 30 (upd (upd (shf q20 k) 27 a1) 28 a2)])) dX11_reshape_127 rfl (ix_c (by decide)) rfl ?_
    refine ab_aload_n dX11_reshape_128 rfl ?_
    refine ab_getf dX11_reshape_129 fl_X11_94 rfl rfl ?_
    refine ab_iconst (v := 3) dX11_reshape_132 (by decide) ?_
    refine ab_aload_n dX11_reshape_133 rfl ?_
    refine ab_getf dX11_reshape_134 fl_X11_249 rfl rfl ?_
    refine ab_imul dX11_reshape_137 ?_
    refine ab_topi (v := 27) (by decide) ?_
    refine ab_iconst (v := 2) dX11_reshape_138 (by decide) ?_
    refine ab_iadd dX11_reshape_139 ?_
    refine ab_topi (v := 29) (by decide) ?_
    refine ab_iload dX11_reshape_140 rfl ?_
    refine ab_iast (w1 := (wc, [ob 9 [.int m_thrown, .int m_trouble, .int m_fault, .int m_where, .ref 1001, .ref 1002, .int 40, .ref 1003, .int m_taped, .int m_linkMany, .int m_tracerMany, .int m_pointMany, .int m_pairMany, .ref 1004, .ref 1005, .ref 1006, .ref 1007, .int m_readLinks, .int m_readTracers, .int m_readPoints, .int m_readPairs, .ref 1008, .ref 1009, .ref 1010, .ref 1011, .int m_textLong, .int m_at, .int m_spot, .int m_token, .int m_whole, .int m_readFault, .int m_readPlace, .int m_value, .long m_n, .long m_c, .long m_d, .long m_s, .long m_e, .long m_k, .long m_x, .long m_y, .long m_g, .long m_a, .ref 1012, .ref 1013, .ref 1014, .int m_curveMany, .ref 1015, .int m_cornerMany, .int m_straightAt, .ref 1016, .long m_fitUp, .long m_fitDown, .long m_worstUp, .long m_worstDown, .ref 1017, .int m_walkLink, .int m_walkAngle, .int m_walkBranch, .int m_walkMany, .ref 1018, .ref 1019, .int m_lined, .ref 1020, .int 9], z1, z2, z3, ia 16 q4, z5, z6, z7, z8, z9, z10, z11, z12, z13, z14, z15, z16, z17, z18, z19, ia 30 (upd (upd (upd (shf q20 k) 27 a1) 28 a2) 29 (q4 (0 + Int32.toNatClampNeg a1 * 4 + Int32.toNatClampNeg a2)))])) dX11_reshape_142 rfl (ix_c (by decide)) rfl ?_
    refine ab_aload_n dX11_reshape_143 rfl ?_
    refine ab_dup rfl dX11_reshape_144 ?_
    refine ab_getf dX11_reshape_145 fl_X11_249 rfl rfl ?_
    refine ab_iconst (v := 1) dX11_reshape_148 (by decide) ?_
    refine ab_iadd dX11_reshape_149 ?_
    refine ab_topi (v := 10) (by decide) ?_
    refine ab_putf (w1 := (wc, [ob 9 [.int m_thrown, .int m_trouble, .int m_fault, .int m_where, .ref 1001, .ref 1002, .int 40, .ref 1003, .int m_taped, .int m_linkMany, .int m_tracerMany, .int m_pointMany, .int m_pairMany, .ref 1004, .ref 1005, .ref 1006, .ref 1007, .int m_readLinks, .int m_readTracers, .int m_readPoints, .int m_readPairs, .ref 1008, .ref 1009, .ref 1010, .ref 1011, .int m_textLong, .int m_at, .int m_spot, .int m_token, .int m_whole, .int m_readFault, .int m_readPlace, .int m_value, .long m_n, .long m_c, .long m_d, .long m_s, .long m_e, .long m_k, .long m_x, .long m_y, .long m_g, .long m_a, .ref 1012, .ref 1013, .ref 1014, .int m_curveMany, .ref 1015, .int m_cornerMany, .int m_straightAt, .ref 1016, .long m_fitUp, .long m_fitDown, .long m_worstUp, .long m_worstDown, .ref 1017, .int m_walkLink, .int m_walkAngle, .int m_walkBranch, .int m_walkMany, .ref 1018, .ref 1019, .int m_lined, .ref 1020, .int 10], z1, z2, z3, ia 16 q4, z5, z6, z7, z8, z9, z10, z11, z12, z13, z14, z15, z16, z17, z18, z19, ia 30 (upd (upd (upd (shf q20 k) 27 a1) 28 a2) 29 (q4 (0 + Int32.toNatClampNeg a1 * 4 + Int32.toNatClampNeg a2)))])) dX11_reshape_150 fl_X11_249 rfl (Nat.le_of_ble_eq_true rfl) (fun _ => ⟨rfl, rfl⟩) rfl ?_
    refine ab_aload_n dX11_reshape_153 rfl ?_
    refine ab_getf dX11_reshape_154 fl_X11_42 rfl rfl ?_
    refine ab_iconst (v := 4) dX11_reshape_157 (by decide) ?_
    refine ab_iload_n dX11_reshape_158 rfl ?_
    refine ab_imul dX11_reshape_159 ?_
    refine ab_iload_n dX11_reshape_160 rfl ?_
    refine ab_iadd dX11_reshape_161 ?_
    refine ab_iload_n dX11_reshape_162 rfl ?_
    refine ab_iast (w1 := (wc, [ob 9 [.int m_thrown, .int m_trouble, .int m_fault, .int m_where, .ref 1001, .ref 1002, .int 40, .ref 1003, .int m_taped, .int m_linkMany, .int m_tracerMany, .int m_pointMany, .int m_pairMany, .ref 1004, .ref 1005, .ref 1006, .ref 1007, .int m_readLinks, .int m_readTracers, .int m_readPoints, .int m_readPairs, .ref 1008, .ref 1009, .ref 1010, .ref 1011, .int m_textLong, .int m_at, .int m_spot, .int m_token, .int m_whole, .int m_readFault, .int m_readPlace, .int m_value, .long m_n, .long m_c, .long m_d, .long m_s, .long m_e, .long m_k, .long m_x, .long m_y, .long m_g, .long m_a, .ref 1012, .ref 1013, .ref 1014, .int m_curveMany, .ref 1015, .int m_cornerMany, .int m_straightAt, .ref 1016, .long m_fitUp, .long m_fitDown, .long m_worstUp, .long m_worstDown, .ref 1017, .int m_walkLink, .int m_walkAngle, .int m_walkBranch, .int m_walkMany, .ref 1018, .ref 1019, .int m_lined, .ref 1020, .int 10], z1, z2, z3, ia 16 (upd q4 (0 + Int32.toNatClampNeg a1 * 4 + Int32.toNatClampNeg a2) a3), z5, z6, z7, z8, z9, z10, z11, z12, z13, z14, z15, z16, z17, z18, z19, ia 30 (upd (upd (upd (shf q20 k) 27 a1) 28 a2) 29 (q4 (0 + Int32.toNatClampNeg a1 * 4 + Int32.toNatClampNeg a2)))])) dX11_reshape_163 rfl (ix_ml (W := 4) (c := 4) h_i h_l.2 h_w (by decide) (by decide) (by decide) (by decide)) rfl ?_
    refine ab_aload_n dX11_reshape_164 rfl ?_
    refine ab_iconst (v := -1) dX11_reshape_165 (by decide) ?_
    refine ab_putf (w1 := (wc, [ob 9 [.int m_thrown, .int m_trouble, .int m_fault, .int m_where, .ref 1001, .ref 1002, .int 40, .ref 1003, .int m_taped, .int m_linkMany, .int m_tracerMany, .int m_pointMany, .int m_pairMany, .ref 1004, .ref 1005, .ref 1006, .ref 1007, .int m_readLinks, .int m_readTracers, .int m_readPoints, .int m_readPairs, .ref 1008, .ref 1009, .ref 1010, .ref 1011, .int m_textLong, .int m_at, .int m_spot, .int m_token, .int m_whole, .int m_readFault, .int m_readPlace, .int m_value, .long m_n, .long m_c, .long m_d, .long m_s, .long m_e, .long m_k, .long m_x, .long m_y, .long m_g, .long m_a, .ref 1012, .ref 1013, .ref 1014, .int m_curveMany, .ref 1015, .int m_cornerMany, .int m_straightAt, .ref 1016, .long m_fitUp, .long m_fitDown, .long m_worstUp, .long m_worstDown, .ref 1017, .int (-1), .int m_walkAngle, .int m_walkBranch, .int m_walkMany, .ref 1018, .ref 1019, .int m_lined, .ref 1020, .int 10], z1, z2, z3, ia 16 (upd q4 (0 + Int32.toNatClampNeg a1 * 4 + Int32.toNatClampNeg a2) a3), z5, z6, z7, z8, z9, z10, z11, z12, z13, z14, z15, z16, z17, z18, z19, ia 30 (upd (upd (upd (shf q20 k) 27 a1) 28 a2) 29 (q4 (0 + Int32.toNatClampNeg a1 * 4 + Int32.toNatClampNeg a2)))])) dX11_reshape_166 fl_X11_85 rfl (Nat.le_of_ble_eq_true rfl) (fun _ => ⟨rfl, rfl⟩) rfl ?_
    refine ab_iload dX11_reshape_169 rfl ?_
    exact ab_iret dX11_reshape_171 rfl (by decide) ⟨by rfl, by rw [show k = 30 by omega]⟩
  | succ n ih =>
    intro k hk h3
    refine ab_iload dX11_reshape_55 rfl ?_
    refine ab_bipush (v := 30) dX11_reshape_57 (by decide) ?_
    refine ab_icmpge 84 dX11_reshape_59 (by decide) (fun h_1 => absurd h_1 (nI_ge (b := 30) (by omega) (by decide))) (fun h_1 => ?_)
    refine ab_aload_n dX11_reshape_62 rfl ?_
    refine ab_getf dX11_reshape_63 fl_X11_94 rfl rfl ?_
    refine ab_iload dX11_reshape_66 rfl ?_
    refine ab_iconst (v := 3) dX11_reshape_68 (by decide) ?_
    refine ab_isub dX11_reshape_69 ?_
    refine ab_topi (v := (nI (k - 3))) (pk_sub (b := 3) (by omega)) ?_
    refine ab_aload_n dX11_reshape_70 rfl ?_
    refine ab_getf dX11_reshape_71 fl_X11_94 rfl rfl ?_
    refine ab_iload dX11_reshape_74 rfl ?_
    refine ab_iald (j := k) dX11_reshape_76 rfl (ix_nI (by omega) (by decide)) ?_
    refine ab_iast (w1 := (wc, [ob 9 [.int m_thrown, .int m_trouble, .int m_fault, .int m_where, .ref 1001, .ref 1002, .int 40, .ref 1003, .int m_taped, .int m_linkMany, .int m_tracerMany, .int m_pointMany, .int m_pairMany, .ref 1004, .ref 1005, .ref 1006, .ref 1007, .int m_readLinks, .int m_readTracers, .int m_readPoints, .int m_readPairs, .ref 1008, .ref 1009, .ref 1010, .ref 1011, .int m_textLong, .int m_at, .int m_spot, .int m_token, .int m_whole, .int m_readFault, .int m_readPlace, .int m_value, .long m_n, .long m_c, .long m_d, .long m_s, .long m_e, .long m_k, .long m_x, .long m_y, .long m_g, .long m_a, .ref 1012, .ref 1013, .ref 1014, .int m_curveMany, .ref 1015, .int m_cornerMany, .int m_straightAt, .ref 1016, .long m_fitUp, .long m_fitDown, .long m_worstUp, .long m_worstDown, .ref 1017, .int m_walkLink, .int m_walkAngle, .int m_walkBranch, .int m_walkMany, .ref 1018, .ref 1019, .int m_lined, .ref 1020, .int 10], z1, z2, z3, ia 16 q4, z5, z6, z7, z8, z9, z10, z11, z12, z13, z14, z15, z16, z17, z18, z19, ia 30 (upd (shf q20 k) (k - 3) ((shf q20 k) k))])) dX11_reshape_77 rfl (ix_nI (by omega) (by decide)) rfl ?_
    refine ab_iinc (v := (nI (k + 1))) (la' := [(4, .int (nI (k + 1))), (0, .ref 1000), (1, .int a1), (2, .int a2), (3, .int a3)]) dX11_reshape_78 rfl (nI_1 _) (by decide) rfl ?_
    refine ab_goto 55 dX11_reshape_81 (by decide) ?_
    refine ab_pick [0, 1, 2, 3, 4] rfl ?_
    rw [shf_k, shf_s q20 (by omega)]
    exact ih (k + 1) (by omega) (by omega)
theorem c_X11_reshape_f {wc : List ax_E} {m_thrown m_trouble m_fault m_where m_taped m_linkMany m_tracerMany m_pointMany m_pairMany m_readLinks m_readTracers m_readPoints m_readPairs m_textLong m_at m_spot m_token m_whole m_readFault m_readPlace m_value m_curveMany m_cornerMany m_straightAt m_walkLink m_walkAngle m_walkBranch m_walkMany m_lined a1 a2 a3 : Int32} {m_n m_c m_d m_s m_e m_k m_x m_y m_g m_a m_fitUp m_fitDown m_worstUp m_worstDown : Int64} {z1 z2 z3 z5 z6 z7 z8 z9 z10 z11 z12 z13 z14 z15 z16 z17 z18 z19 : ax_E} {q4 q20 : Nat → Int32} (h_l : 0 ≤ m_linkMany ∧ m_linkMany ≤ nI 4) : Ct M_X11_reshape [.ref 1000, .int a1, .int a2, .int a3] (wc, [ob 9 [.int m_thrown, .int m_trouble, .int m_fault, .int m_where, .ref 1001, .ref 1002, .int 40, .ref 1003, .int m_taped, .int m_linkMany, .int m_tracerMany, .int m_pointMany, .int m_pairMany, .ref 1004, .ref 1005, .ref 1006, .ref 1007, .int m_readLinks, .int m_readTracers, .int m_readPoints, .int m_readPairs, .ref 1008, .ref 1009, .ref 1010, .ref 1011, .int m_textLong, .int m_at, .int m_spot, .int m_token, .int m_whole, .int m_readFault, .int m_readPlace, .int m_value, .long m_n, .long m_c, .long m_d, .long m_s, .long m_e, .long m_k, .long m_x, .long m_y, .long m_g, .long m_a, .ref 1012, .ref 1013, .ref 1014, .int m_curveMany, .ref 1015, .int m_cornerMany, .int m_straightAt, .ref 1016, .long m_fitUp, .long m_fitDown, .long m_worstUp, .long m_worstDown, .ref 1017, .int m_walkLink, .int m_walkAngle, .int m_walkBranch, .int m_walkMany, .ref 1018, .ref 1019, .int m_lined, .ref 1020, .int 10], z1, z2, z3, ia 16 q4, z5, z6, z7, z8, z9, z10, z11, z12, z13, z14, z15, z16, z17, z18, z19, ia 30 q20]) (fun r w' => ((0 ≤ a1 ∧ a1 < m_linkMany) ∧ (0 ≤ a2 ∧ a2 ≤ 3) ∧ (1 ≤ a3 ∧ a3 ≤ 18) ∧ r = some (.int (q4 (0 + Int32.toNatClampNeg a1 * 4 + Int32.toNatClampNeg a2))) ∧ w' = (wc, [ob 9 [.int 0, .int 0, .int m_fault, .int (-1), .ref 1001, .ref 1002, .int 40, .ref 1003, .int m_taped, .int m_linkMany, .int m_tracerMany, .int m_pointMany, .int m_pairMany, .ref 1004, .ref 1005, .ref 1006, .ref 1007, .int m_readLinks, .int m_readTracers, .int m_readPoints, .int m_readPairs, .ref 1008, .ref 1009, .ref 1010, .ref 1011, .int m_textLong, .int m_at, .int m_spot, .int m_token, .int m_whole, .int m_readFault, .int m_readPlace, .int m_value, .long m_n, .long m_c, .long m_d, .long m_s, .long m_e, .long m_k, .long m_x, .long m_y, .long m_g, .long m_a, .ref 1012, .ref 1013, .ref 1014, .int m_curveMany, .ref 1015, .int m_cornerMany, .int m_straightAt, .ref 1016, .long m_fitUp, .long m_fitDown, .long m_worstUp, .long m_worstDown, .ref 1017, .int (-1), .int m_walkAngle, .int m_walkBranch, .int m_walkMany, .ref 1018, .ref 1019, .int m_lined, .ref 1020, .int 10], z1, z2, z3, ia 16 (upd q4 (0 + Int32.toNatClampNeg a1 * 4 + Int32.toNatClampNeg a2) a3), z5, z6, z7, z8, z9, z10, z11, z12, z13, z14, z15, z16, z17, z18, z19, ia 30 (upd (upd (upd (shf q20 30) 27 a1) 28 a2) 29 (q4 (0 + Int32.toNatClampNeg a1 * 4 + Int32.toNatClampNeg a2)))])) ∨ ((0 ≤ a1 ∧ a1 < m_linkMany) ∧ (0 ≤ a2 ∧ a2 ≤ 3) ∧ (¬ (1 ≤ a3 ∧ a3 ≤ 18)) ∧ r = some (.int (-1)) ∧ w' = (wc, [ob 9 [.int 0, .int 2, .int m_fault, .int (-1), .ref 1001, .ref 1002, .int 40, .ref 1003, .int m_taped, .int m_linkMany, .int m_tracerMany, .int m_pointMany, .int m_pairMany, .ref 1004, .ref 1005, .ref 1006, .ref 1007, .int m_readLinks, .int m_readTracers, .int m_readPoints, .int m_readPairs, .ref 1008, .ref 1009, .ref 1010, .ref 1011, .int m_textLong, .int m_at, .int m_spot, .int m_token, .int m_whole, .int m_readFault, .int m_readPlace, .int m_value, .long m_n, .long m_c, .long m_d, .long m_s, .long m_e, .long m_k, .long m_x, .long m_y, .long m_g, .long m_a, .ref 1012, .ref 1013, .ref 1014, .int m_curveMany, .ref 1015, .int m_cornerMany, .int m_straightAt, .ref 1016, .long m_fitUp, .long m_fitDown, .long m_worstUp, .long m_worstDown, .ref 1017, .int m_walkLink, .int m_walkAngle, .int m_walkBranch, .int m_walkMany, .ref 1018, .ref 1019, .int m_lined, .ref 1020, .int 10], z1, z2, z3, ia 16 q4, z5, z6, z7, z8, z9, z10, z11, z12, z13, z14, z15, z16, z17, z18, z19, ia 30 q20])) ∨ ((0 ≤ a1 ∧ a1 < m_linkMany) ∧ (¬ (0 ≤ a2 ∧ a2 ≤ 3)) ∧ r = some (.int (-1)) ∧ w' = (wc, [ob 9 [.int 0, .int 1, .int m_fault, .int (-1), .ref 1001, .ref 1002, .int 40, .ref 1003, .int m_taped, .int m_linkMany, .int m_tracerMany, .int m_pointMany, .int m_pairMany, .ref 1004, .ref 1005, .ref 1006, .ref 1007, .int m_readLinks, .int m_readTracers, .int m_readPoints, .int m_readPairs, .ref 1008, .ref 1009, .ref 1010, .ref 1011, .int m_textLong, .int m_at, .int m_spot, .int m_token, .int m_whole, .int m_readFault, .int m_readPlace, .int m_value, .long m_n, .long m_c, .long m_d, .long m_s, .long m_e, .long m_k, .long m_x, .long m_y, .long m_g, .long m_a, .ref 1012, .ref 1013, .ref 1014, .int m_curveMany, .ref 1015, .int m_cornerMany, .int m_straightAt, .ref 1016, .long m_fitUp, .long m_fitDown, .long m_worstUp, .long m_worstDown, .ref 1017, .int m_walkLink, .int m_walkAngle, .int m_walkBranch, .int m_walkMany, .ref 1018, .ref 1019, .int m_lined, .ref 1020, .int 10], z1, z2, z3, ia 16 q4, z5, z6, z7, z8, z9, z10, z11, z12, z13, z14, z15, z16, z17, z18, z19, ia 30 q20])) ∨ ((¬ (0 ≤ a1 ∧ a1 < m_linkMany)) ∧ r = some (.int (-1)) ∧ w' = (wc, [ob 9 [.int 0, .int 1, .int m_fault, .int (-1), .ref 1001, .ref 1002, .int 40, .ref 1003, .int m_taped, .int m_linkMany, .int m_tracerMany, .int m_pointMany, .int m_pairMany, .ref 1004, .ref 1005, .ref 1006, .ref 1007, .int m_readLinks, .int m_readTracers, .int m_readPoints, .int m_readPairs, .ref 1008, .ref 1009, .ref 1010, .ref 1011, .int m_textLong, .int m_at, .int m_spot, .int m_token, .int m_whole, .int m_readFault, .int m_readPlace, .int m_value, .long m_n, .long m_c, .long m_d, .long m_s, .long m_e, .long m_k, .long m_x, .long m_y, .long m_g, .long m_a, .ref 1012, .ref 1013, .ref 1014, .int m_curveMany, .ref 1015, .int m_cornerMany, .int m_straightAt, .ref 1016, .long m_fitUp, .long m_fitDown, .long m_worstUp, .long m_worstDown, .ref 1017, .int m_walkLink, .int m_walkAngle, .int m_walkBranch, .int m_walkMany, .ref 1018, .ref 1019, .int m_lined, .ref 1020, .int 10], z1, z2, z3, ia 16 q4, z5, z6, z7, z8, z9, z10, z11, z12, z13, z14, z15, z16, z17, z18, z19, ia 30 q20]))) := by
  refine ct_of ⟨by decide, rfl⟩ (Nat.le_of_ble_eq_true rfl) ?_
  refine ab_aload_n dX11_reshape_0 rfl ?_
  refine ab_callV (As := []) (rest := []) dX11_reshape_1 mv_X11_anew ml_X11_104 ⟨by decide, by decide, rfl, rfl, rfl⟩ (by decide) rfl rfl (Nat.le_of_ble_eq_true rfl) rfl c_X11_anew ?_
  rintro r w' ⟨rfl, rfl⟩
  refine ab_aload_n dX11_reshape_4 rfl ?_
  refine ab_iload_n dX11_reshape_5 rfl ?_
  refine ab_callV (As := [.int a1]) (rest := []) dX11_reshape_6 mv_X11_isLink ml_X11_265 ⟨by decide, by decide, rfl, rfl, rfl⟩ (by decide) rfl rfl (Nat.le_of_ble_eq_true rfl) rfl (c_X11_isLink h_l) ?_
  rintro r w' (⟨c_1, rfl, rfl⟩ | ⟨c_2, rfl, rfl⟩)
  · refine ab_ifeq 21 dX11_reshape_9 (by decide) (fun h_3 => absurd h_3 (by decide)) (fun h_3 => ?_)
    refine ab_iload_n dX11_reshape_12 rfl ?_
    refine ab_iconst (v := 0) dX11_reshape_13 (by decide) ?_
    refine ab_iconst (v := 3) dX11_reshape_14 (by decide) ?_
    refine ab_callS (As := [.int a2, .int 0, .int 3]) (rest := []) dX11_reshape_15 ms_X11_in ml_X11_107 ⟨by decide, by decide, rfl, rfl, rfl⟩ (by decide) rfl rfl (Nat.le_of_ble_eq_true rfl) c_X11_in ?_
    rintro r w' (⟨c_4, rfl, rfl⟩ | ⟨c_5, rfl, rfl⟩)
    · refine ab_ifne 27 dX11_reshape_18 (by decide) (fun h_6 => ?_) (fun h_6 => absurd h_6 (by decide))
      refine ab_iload_n dX11_reshape_27 rfl ?_
      refine ab_iconst (v := 1) dX11_reshape_28 (by decide) ?_
      refine ab_bipush (v := 18) dX11_reshape_29 (by decide) ?_
      refine ab_callS (As := [.int a3, .int 1, .int 18]) (rest := []) dX11_reshape_31 ms_X11_in ml_X11_107 ⟨by decide, by decide, rfl, rfl, rfl⟩ (by decide) rfl rfl (Nat.le_of_ble_eq_true rfl) c_X11_in ?_
      rintro r w' (⟨c_7, rfl, rfl⟩ | ⟨c_8, rfl, rfl⟩)
      · refine ab_ifne 43 dX11_reshape_34 (by decide) (fun h_9 => ?_) (fun h_9 => absurd h_9 (by decide))
        refine ab_aload_n dX11_reshape_43 rfl ?_
        refine ab_getf dX11_reshape_44 fl_X11_249 rfl rfl ?_
        refine ab_bipush (v := 10) dX11_reshape_47 (by decide) ?_
        refine ab_icmpne 94 dX11_reshape_49 (by decide) (fun h_10 => absurd (by decide) h_10) (fun h_10 => ?_)
        refine ab_iconst (v := 3) dX11_reshape_52 (by decide) ?_
        refine ab_istore (la' := [(4, .int 3), (0, .ref 1000), (1, .int a1), (2, .int a2), (3, .int a3)]) dX11_reshape_53 (by decide) rfl ?_
        refine ab_pick [0, 1, 2, 3, 4] rfl ?_
        refine ab_world (wc, [ob 9 [.int 0, .int 0, .int m_fault, .int (-1), .ref 1001, .ref 1002, .int 40, .ref 1003, .int m_taped, .int m_linkMany, .int m_tracerMany, .int m_pointMany, .int m_pairMany, .ref 1004, .ref 1005, .ref 1006, .ref 1007, .int m_readLinks, .int m_readTracers, .int m_readPoints, .int m_readPairs, .ref 1008, .ref 1009, .ref 1010, .ref 1011, .int m_textLong, .int m_at, .int m_spot, .int m_token, .int m_whole, .int m_readFault, .int m_readPlace, .int m_value, .long m_n, .long m_c, .long m_d, .long m_s, .long m_e, .long m_k, .long m_x, .long m_y, .long m_g, .long m_a, .ref 1012, .ref 1013, .ref 1014, .int m_curveMany, .ref 1015, .int m_cornerMany, .int m_straightAt, .ref 1016, .long m_fitUp, .long m_fitDown, .long m_worstUp, .long m_worstDown, .ref 1017, .int m_walkLink, .int m_walkAngle, .int m_walkBranch, .int m_walkMany, .ref 1018, .ref 1019, .int m_lined, .ref 1020, .int 10], z1, z2, z3, ia 16 q4, z5, z6, z7, z8, z9, z10, z11, z12, z13, z14, z15, z16, z17, z18, z19, ia 30 (shf q20 3)]) (by rw [shf_3]) ?_
        refine Ct.mono2 (lp_shift c_1 h_l (in_lt (d := 4) c_4 (by decide)) 27 3 (by omega) (by omega)) ?_
        rintro r w' ⟨h1, h2⟩
        exact (Or.inl ⟨c_1, c_4, c_7, h1, h2⟩)
      · refine ab_ifne 43 dX11_reshape_34 (by decide) (fun h_11 => absurd (by decide) h_11) (fun h_11 => ?_)
        refine ab_aload_n dX11_reshape_37 rfl ?_
        refine ab_iconst (v := 2) dX11_reshape_38 (by decide) ?_
        refine ab_callV (As := [.int 2]) (rest := []) dX11_reshape_39 mv_X11_no ml_X11_115 ⟨by decide, by decide, rfl, rfl, rfl⟩ (by decide) rfl rfl (Nat.le_of_ble_eq_true rfl) rfl c_X11_no ?_
        rintro r w' ⟨rfl, rfl⟩
        exact ab_iret dX11_reshape_42 rfl (by decide) (Or.inr (Or.inl ⟨c_1, c_4, c_8, rfl, rfl⟩))
    · refine ab_ifne 27 dX11_reshape_18 (by decide) (fun h_12 => absurd (by decide) h_12) (fun h_12 => ?_)
      refine ab_aload_n dX11_reshape_21 rfl ?_
      refine ab_iconst (v := 1) dX11_reshape_22 (by decide) ?_
      refine ab_callV (As := [.int 1]) (rest := []) dX11_reshape_23 mv_X11_no ml_X11_115 ⟨by decide, by decide, rfl, rfl, rfl⟩ (by decide) rfl rfl (Nat.le_of_ble_eq_true rfl) rfl c_X11_no ?_
      rintro r w' ⟨rfl, rfl⟩
      exact ab_iret dX11_reshape_26 rfl (by decide) (Or.inr (Or.inr (Or.inl ⟨c_1, c_5, rfl, rfl⟩)))
  · refine ab_ifeq 21 dX11_reshape_9 (by decide) (fun h_13 => ?_) (fun h_13 => absurd (by decide) h_13)
    refine ab_aload_n dX11_reshape_21 rfl ?_
    refine ab_iconst (v := 1) dX11_reshape_22 (by decide) ?_
    refine ab_callV (As := [.int 1]) (rest := []) dX11_reshape_23 mv_X11_no ml_X11_115 ⟨by decide, by decide, rfl, rfl, rfl⟩ (by decide) rfl rfl (Nat.le_of_ble_eq_true rfl) rfl c_X11_no ?_
    rintro r w' ⟨rfl, rfl⟩
    exact ab_iret dX11_reshape_26 rfl (by decide) (Or.inr (Or.inr (Or.inr (⟨c_2, rfl, rfl⟩))))
theorem c_X11_reshape_n {wc : List ax_E} {m_thrown m_trouble m_fault m_where m_taped m_linkMany m_tracerMany m_pointMany m_pairMany m_readLinks m_readTracers m_readPoints m_readPairs m_textLong m_at m_spot m_token m_whole m_readFault m_readPlace m_value m_curveMany m_cornerMany m_straightAt m_walkLink m_walkAngle m_walkBranch m_walkMany m_lined a1 a2 a3 : Int32} {m_n m_c m_d m_s m_e m_k m_x m_y m_g m_a m_fitUp m_fitDown m_worstUp m_worstDown : Int64} {z1 z2 z3 z5 z6 z7 z8 z9 z10 z11 z12 z13 z14 z15 z16 z17 z18 z19 : ax_E} {q4 q20 : Nat → Int32} {n : Nat} (h_l : 0 ≤ m_linkMany ∧ m_linkMany ≤ nI 4) (h_n : n < 10) : Ct M_X11_reshape [.ref 1000, .int a1, .int a2, .int a3] (wc, [ob 9 [.int m_thrown, .int m_trouble, .int m_fault, .int m_where, .ref 1001, .ref 1002, .int 40, .ref 1003, .int m_taped, .int m_linkMany, .int m_tracerMany, .int m_pointMany, .int m_pairMany, .ref 1004, .ref 1005, .ref 1006, .ref 1007, .int m_readLinks, .int m_readTracers, .int m_readPoints, .int m_readPairs, .ref 1008, .ref 1009, .ref 1010, .ref 1011, .int m_textLong, .int m_at, .int m_spot, .int m_token, .int m_whole, .int m_readFault, .int m_readPlace, .int m_value, .long m_n, .long m_c, .long m_d, .long m_s, .long m_e, .long m_k, .long m_x, .long m_y, .long m_g, .long m_a, .ref 1012, .ref 1013, .ref 1014, .int m_curveMany, .ref 1015, .int m_cornerMany, .int m_straightAt, .ref 1016, .long m_fitUp, .long m_fitDown, .long m_worstUp, .long m_worstDown, .ref 1017, .int m_walkLink, .int m_walkAngle, .int m_walkBranch, .int m_walkMany, .ref 1018, .ref 1019, .int m_lined, .ref 1020, .int (nI n)], z1, z2, z3, ia 16 q4, z5, z6, z7, z8, z9, z10, z11, z12, z13, z14, z15, z16, z17, z18, z19, ia 30 q20]) (fun r w' => ((0 ≤ a1 ∧ a1 < m_linkMany) ∧ (0 ≤ a2 ∧ a2 ≤ 3) ∧ (1 ≤ a3 ∧ a3 ≤ 18) ∧ r = some (.int (q4 (0 + Int32.toNatClampNeg a1 * 4 + Int32.toNatClampNeg a2))) ∧ w' = (wc, [ob 9 [.int 0, .int 0, .int m_fault, .int (-1), .ref 1001, .ref 1002, .int 40, .ref 1003, .int m_taped, .int m_linkMany, .int m_tracerMany, .int m_pointMany, .int m_pairMany, .ref 1004, .ref 1005, .ref 1006, .ref 1007, .int m_readLinks, .int m_readTracers, .int m_readPoints, .int m_readPairs, .ref 1008, .ref 1009, .ref 1010, .ref 1011, .int m_textLong, .int m_at, .int m_spot, .int m_token, .int m_whole, .int m_readFault, .int m_readPlace, .int m_value, .long m_n, .long m_c, .long m_d, .long m_s, .long m_e, .long m_k, .long m_x, .long m_y, .long m_g, .long m_a, .ref 1012, .ref 1013, .ref 1014, .int m_curveMany, .ref 1015, .int m_cornerMany, .int m_straightAt, .ref 1016, .long m_fitUp, .long m_fitDown, .long m_worstUp, .long m_worstDown, .ref 1017, .int (-1), .int m_walkAngle, .int m_walkBranch, .int m_walkMany, .ref 1018, .ref 1019, .int m_lined, .ref 1020, .int (nI (n + 1))], z1, z2, z3, ia 16 (upd q4 (0 + Int32.toNatClampNeg a1 * 4 + Int32.toNatClampNeg a2) a3), z5, z6, z7, z8, z9, z10, z11, z12, z13, z14, z15, z16, z17, z18, z19, ia 30 (upd (upd (upd q20 (3 * n) a1) ((3 * n) + 1) a2) ((3 * n) + 2) (q4 (0 + Int32.toNatClampNeg a1 * 4 + Int32.toNatClampNeg a2)))])) ∨ ((0 ≤ a1 ∧ a1 < m_linkMany) ∧ (0 ≤ a2 ∧ a2 ≤ 3) ∧ (¬ (1 ≤ a3 ∧ a3 ≤ 18)) ∧ r = some (.int (-1)) ∧ w' = (wc, [ob 9 [.int 0, .int 2, .int m_fault, .int (-1), .ref 1001, .ref 1002, .int 40, .ref 1003, .int m_taped, .int m_linkMany, .int m_tracerMany, .int m_pointMany, .int m_pairMany, .ref 1004, .ref 1005, .ref 1006, .ref 1007, .int m_readLinks, .int m_readTracers, .int m_readPoints, .int m_readPairs, .ref 1008, .ref 1009, .ref 1010, .ref 1011, .int m_textLong, .int m_at, .int m_spot, .int m_token, .int m_whole, .int m_readFault, .int m_readPlace, .int m_value, .long m_n, .long m_c, .long m_d, .long m_s, .long m_e, .long m_k, .long m_x, .long m_y, .long m_g, .long m_a, .ref 1012, .ref 1013, .ref 1014, .int m_curveMany, .ref 1015, .int m_cornerMany, .int m_straightAt, .ref 1016, .long m_fitUp, .long m_fitDown, .long m_worstUp, .long m_worstDown, .ref 1017, .int m_walkLink, .int m_walkAngle, .int m_walkBranch, .int m_walkMany, .ref 1018, .ref 1019, .int m_lined, .ref 1020, .int (nI n)], z1, z2, z3, ia 16 q4, z5, z6, z7, z8, z9, z10, z11, z12, z13, z14, z15, z16, z17, z18, z19, ia 30 q20])) ∨ ((0 ≤ a1 ∧ a1 < m_linkMany) ∧ (¬ (0 ≤ a2 ∧ a2 ≤ 3)) ∧ r = some (.int (-1)) ∧ w' = (wc, [ob 9 [.int 0, .int 1, .int m_fault, .int (-1), .ref 1001, .ref 1002, .int 40, .ref 1003, .int m_taped, .int m_linkMany, .int m_tracerMany, .int m_pointMany, .int m_pairMany, .ref 1004, .ref 1005, .ref 1006, .ref 1007, .int m_readLinks, .int m_readTracers, .int m_readPoints, .int m_readPairs, .ref 1008, .ref 1009, .ref 1010, .ref 1011, .int m_textLong, .int m_at, .int m_spot, .int m_token, .int m_whole, .int m_readFault, .int m_readPlace, .int m_value, .long m_n, .long m_c, .long m_d, .long m_s, .long m_e, .long m_k, .long m_x, .long m_y, .long m_g, .long m_a, .ref 1012, .ref 1013, .ref 1014, .int m_curveMany, .ref 1015, .int m_cornerMany, .int m_straightAt, .ref 1016, .long m_fitUp, .long m_fitDown, .long m_worstUp, .long m_worstDown, .ref 1017, .int m_walkLink, .int m_walkAngle, .int m_walkBranch, .int m_walkMany, .ref 1018, .ref 1019, .int m_lined, .ref 1020, .int (nI n)], z1, z2, z3, ia 16 q4, z5, z6, z7, z8, z9, z10, z11, z12, z13, z14, z15, z16, z17, z18, z19, ia 30 q20])) ∨ ((¬ (0 ≤ a1 ∧ a1 < m_linkMany)) ∧ r = some (.int (-1)) ∧ w' = (wc, [ob 9 [.int 0, .int 1, .int m_fault, .int (-1), .ref 1001, .ref 1002, .int 40, .ref 1003, .int m_taped, .int m_linkMany, .int m_tracerMany, .int m_pointMany, .int m_pairMany, .ref 1004, .ref 1005, .ref 1006, .ref 1007, .int m_readLinks, .int m_readTracers, .int m_readPoints, .int m_readPairs, .ref 1008, .ref 1009, .ref 1010, .ref 1011, .int m_textLong, .int m_at, .int m_spot, .int m_token, .int m_whole, .int m_readFault, .int m_readPlace, .int m_value, .long m_n, .long m_c, .long m_d, .long m_s, .long m_e, .long m_k, .long m_x, .long m_y, .long m_g, .long m_a, .ref 1012, .ref 1013, .ref 1014, .int m_curveMany, .ref 1015, .int m_cornerMany, .int m_straightAt, .ref 1016, .long m_fitUp, .long m_fitDown, .long m_worstUp, .long m_worstDown, .ref 1017, .int m_walkLink, .int m_walkAngle, .int m_walkBranch, .int m_walkMany, .ref 1018, .ref 1019, .int m_lined, .ref 1020, .int (nI n)], z1, z2, z3, ia 16 q4, z5, z6, z7, z8, z9, z10, z11, z12, z13, z14, z15, z16, z17, z18, z19, ia 30 q20]))) := by
  refine ct_of ⟨by decide, rfl⟩ (Nat.le_of_ble_eq_true rfl) ?_
  refine ab_aload_n dX11_reshape_0 rfl ?_
  refine ab_callV (As := []) (rest := []) dX11_reshape_1 mv_X11_anew ml_X11_104 ⟨by decide, by decide, rfl, rfl, rfl⟩ (by decide) rfl rfl (Nat.le_of_ble_eq_true rfl) rfl c_X11_anew ?_
  rintro r w' ⟨rfl, rfl⟩
  refine ab_aload_n dX11_reshape_4 rfl ?_
  refine ab_iload_n dX11_reshape_5 rfl ?_
  refine ab_callV (As := [.int a1]) (rest := []) dX11_reshape_6 mv_X11_isLink ml_X11_265 ⟨by decide, by decide, rfl, rfl, rfl⟩ (by decide) rfl rfl (Nat.le_of_ble_eq_true rfl) rfl (c_X11_isLink h_l) ?_
  rintro r w' (⟨c_1, rfl, rfl⟩ | ⟨c_2, rfl, rfl⟩)
  · refine ab_ifeq 21 dX11_reshape_9 (by decide) (fun h_3 => absurd h_3 (by decide)) (fun h_3 => ?_)
    refine ab_iload_n dX11_reshape_12 rfl ?_
    refine ab_iconst (v := 0) dX11_reshape_13 (by decide) ?_
    refine ab_iconst (v := 3) dX11_reshape_14 (by decide) ?_
    refine ab_callS (As := [.int a2, .int 0, .int 3]) (rest := []) dX11_reshape_15 ms_X11_in ml_X11_107 ⟨by decide, by decide, rfl, rfl, rfl⟩ (by decide) rfl rfl (Nat.le_of_ble_eq_true rfl) c_X11_in ?_
    rintro r w' (⟨c_4, rfl, rfl⟩ | ⟨c_5, rfl, rfl⟩)
    · refine ab_ifne 27 dX11_reshape_18 (by decide) (fun h_6 => ?_) (fun h_6 => absurd h_6 (by decide))
      refine ab_iload_n dX11_reshape_27 rfl ?_
      refine ab_iconst (v := 1) dX11_reshape_28 (by decide) ?_
      refine ab_bipush (v := 18) dX11_reshape_29 (by decide) ?_
      refine ab_callS (As := [.int a3, .int 1, .int 18]) (rest := []) dX11_reshape_31 ms_X11_in ml_X11_107 ⟨by decide, by decide, rfl, rfl, rfl⟩ (by decide) rfl rfl (Nat.le_of_ble_eq_true rfl) c_X11_in ?_
      rintro r w' (⟨c_7, rfl, rfl⟩ | ⟨c_8, rfl, rfl⟩)
      · refine ab_ifne 43 dX11_reshape_34 (by decide) (fun h_9 => ?_) (fun h_9 => absurd h_9 (by decide))
        refine ab_aload_n dX11_reshape_43 rfl ?_
        refine ab_getf dX11_reshape_44 fl_X11_249 rfl rfl ?_
        refine ab_bipush (v := 10) dX11_reshape_47 (by decide) ?_
        refine ab_icmpne 94 dX11_reshape_49 (by decide) (fun h_10 => ?_) (fun h_10 => absurd h_10 (fun z => absurd ((nI_eq (b := 10) (by omega) (by decide)).mp z) (by omega)))
        refine ab_aload_n dX11_reshape_94 rfl ?_
        refine ab_iload_n dX11_reshape_95 rfl ?_
        refine ab_iload_n dX11_reshape_96 rfl ?_
        refine ab_callV (As := [.int a1, .int a2]) (rest := []) dX11_reshape_97 mv_X11_barOf ml_X11_252 ⟨by decide, by decide, rfl, rfl, rfl⟩ (by decide) rfl rfl (Nat.le_of_ble_eq_true rfl) rfl (c_X11_barOf c_1 h_l (in_lt (d := 4) c_4 (by decide))) ?_
        rintro r w' ⟨rfl, rfl⟩
        refine ab_istore (la' := [(4, .int (q4 (0 + Int32.toNatClampNeg a1 * 4 + Int32.toNatClampNeg a2))), (0, .ref 1000), (1, .int a1), (2, .int a2), (3, .int a3)]) dX11_reshape_100 (by decide) rfl ?_
        refine ab_aload_n dX11_reshape_102 rfl ?_
        refine ab_getf dX11_reshape_103 fl_X11_94 rfl rfl ?_
        refine ab_iconst (v := 3) dX11_reshape_106 (by decide) ?_
        refine ab_aload_n dX11_reshape_107 rfl ?_
        refine ab_getf dX11_reshape_108 fl_X11_249 rfl rfl ?_
        refine ab_imul dX11_reshape_111 ?_
        refine ab_topi (v := (nI (3 * n))) (pk_mul 3 _) ?_
        refine ab_iload_n dX11_reshape_112 rfl ?_
        refine ab_iast (w1 := (wc, [ob 9 [.int 0, .int 0, .int m_fault, .int (-1), .ref 1001, .ref 1002, .int 40, .ref 1003, .int m_taped, .int m_linkMany, .int m_tracerMany, .int m_pointMany, .int m_pairMany, .ref 1004, .ref 1005, .ref 1006, .ref 1007, .int m_readLinks, .int m_readTracers, .int m_readPoints, .int m_readPairs, .ref 1008, .ref 1009, .ref 1010, .ref 1011, .int m_textLong, .int m_at, .int m_spot, .int m_token, .int m_whole, .int m_readFault, .int m_readPlace, .int m_value, .long m_n, .long m_c, .long m_d, .long m_s, .long m_e, .long m_k, .long m_x, .long m_y, .long m_g, .long m_a, .ref 1012, .ref 1013, .ref 1014, .int m_curveMany, .ref 1015, .int m_cornerMany, .int m_straightAt, .ref 1016, .long m_fitUp, .long m_fitDown, .long m_worstUp, .long m_worstDown, .ref 1017, .int m_walkLink, .int m_walkAngle, .int m_walkBranch, .int m_walkMany, .ref 1018, .ref 1019, .int m_lined, .ref 1020, .int (nI n)], z1, z2, z3, ia 16 q4, z5, z6, z7, z8, z9, z10, z11, z12, z13, z14, z15, z16, z17, z18, z19, ia 30 (upd q20 (3 * n) a1)])) dX11_reshape_113 rfl (ix_nI (by omega) (by decide)) rfl ?_
        refine ab_aload_n dX11_reshape_114 rfl ?_
        refine ab_getf dX11_reshape_115 fl_X11_94 rfl rfl ?_
        refine ab_iconst (v := 3) dX11_reshape_118 (by decide) ?_
        refine ab_aload_n dX11_reshape_119 rfl ?_
        refine ab_getf dX11_reshape_120 fl_X11_249 rfl rfl ?_
        refine ab_imul dX11_reshape_123 ?_
        refine ab_topi (v := (nI (3 * n))) (pk_mul 3 _) ?_
        refine ab_iconst (v := 1) dX11_reshape_124 (by decide) ?_
        refine ab_iadd dX11_reshape_125 ?_
        refine ab_topi (v := (nI ((3 * n) + 1))) (nI_1 _) ?_
        refine ab_iload_n dX11_reshape_126 rfl ?_
        refine ab_iast (w1 := (wc, [ob 9 [.int 0, .int 0, .int m_fault, .int (-1), .ref 1001, .ref 1002, .int 40, .ref 1003, .int m_taped, .int m_linkMany, .int m_tracerMany, .int m_pointMany, .int m_pairMany, .ref 1004, .ref 1005, .ref 1006, .ref 1007, .int m_readLinks, .int m_readTracers, .int m_readPoints, .int m_readPairs, .ref 1008, .ref 1009, .ref 1010, .ref 1011, .int m_textLong, .int m_at, .int m_spot, .int m_token, .int m_whole, .int m_readFault, .int m_readPlace, .int m_value, .long m_n, .long m_c, .long m_d, .long m_s, .long m_e, .long m_k, .long m_x, .long m_y, .long m_g, .long m_a, .ref 1012, .ref 1013, .ref 1014, .int m_curveMany, .ref 1015, .int m_cornerMany, .int m_straightAt, .ref 1016, .long m_fitUp, .long m_fitDown, .long m_worstUp, .long m_worstDown, .ref 1017, .int m_walkLink, .int m_walkAngle, .int m_walkBranch, .int m_walkMany, .ref 1018, .ref 1019, .int m_lined, .ref 1020, .int (nI n)], z1, z2, z3, ia 16 q4, z5, z6, z7, z8, z9, z10, z11, z12, z13, z14, z15, z16, z17, z18, z19, ia 30 (upd (upd q20 (3 * n) a1) ((3 * n) + 1) a2)])) dX11_reshape_127 rfl (ix_nI (by omega) (by decide)) rfl ?_
        refine ab_aload_n dX11_reshape_128 rfl ?_
        refine ab_getf dX11_reshape_129 fl_X11_94 rfl rfl ?_
        refine ab_iconst (v := 3) dX11_reshape_132 (by decide) ?_
        refine ab_aload_n dX11_reshape_133 rfl ?_
        refine ab_getf dX11_reshape_134 fl_X11_249 rfl rfl ?_
        refine ab_imul dX11_reshape_137 ?_
        refine ab_topi (v := (nI (3 * n))) (pk_mul 3 _) ?_
        refine ab_iconst (v := 2) dX11_reshape_138 (by decide) ?_
        refine ab_iadd dX11_reshape_139 ?_
        refine ab_topi (v := (nI ((3 * n) + 2))) (nI_add _ 2) ?_
        refine ab_iload dX11_reshape_140 rfl ?_
        refine ab_iast (w1 := (wc, [ob 9 [.int 0, .int 0, .int m_fault, .int (-1), .ref 1001, .ref 1002, .int 40, .ref 1003, .int m_taped, .int m_linkMany, .int m_tracerMany, .int m_pointMany, .int m_pairMany, .ref 1004, .ref 1005, .ref 1006, .ref 1007, .int m_readLinks, .int m_readTracers, .int m_readPoints, .int m_readPairs, .ref 1008, .ref 1009, .ref 1010, .ref 1011, .int m_textLong, .int m_at, .int m_spot, .int m_token, .int m_whole, .int m_readFault, .int m_readPlace, .int m_value, .long m_n, .long m_c, .long m_d, .long m_s, .long m_e, .long m_k, .long m_x, .long m_y, .long m_g, .long m_a, .ref 1012, .ref 1013, .ref 1014, .int m_curveMany, .ref 1015, .int m_cornerMany, .int m_straightAt, .ref 1016, .long m_fitUp, .long m_fitDown, .long m_worstUp, .long m_worstDown, .ref 1017, .int m_walkLink, .int m_walkAngle, .int m_walkBranch, .int m_walkMany, .ref 1018, .ref 1019, .int m_lined, .ref 1020, .int (nI n)], z1, z2, z3, ia 16 q4, z5, z6, z7, z8, z9, z10, z11, z12, z13, z14, z15, z16, z17, z18, z19, ia 30 (upd (upd (upd q20 (3 * n) a1) ((3 * n) + 1) a2) ((3 * n) + 2) (q4 (0 + Int32.toNatClampNeg a1 * 4 + Int32.toNatClampNeg a2)))])) dX11_reshape_142 rfl (ix_nI (by omega) (by decide)) rfl ?_
        refine ab_aload_n dX11_reshape_143 rfl ?_
        refine ab_dup rfl dX11_reshape_144 ?_
        refine ab_getf dX11_reshape_145 fl_X11_249 rfl rfl ?_
        refine ab_iconst (v := 1) dX11_reshape_148 (by decide) ?_
        refine ab_iadd dX11_reshape_149 ?_
        refine ab_topi (v := (nI (n + 1))) (nI_1 _) ?_
        refine ab_putf (w1 := (wc, [ob 9 [.int 0, .int 0, .int m_fault, .int (-1), .ref 1001, .ref 1002, .int 40, .ref 1003, .int m_taped, .int m_linkMany, .int m_tracerMany, .int m_pointMany, .int m_pairMany, .ref 1004, .ref 1005, .ref 1006, .ref 1007, .int m_readLinks, .int m_readTracers, .int m_readPoints, .int m_readPairs, .ref 1008, .ref 1009, .ref 1010, .ref 1011, .int m_textLong, .int m_at, .int m_spot, .int m_token, .int m_whole, .int m_readFault, .int m_readPlace, .int m_value, .long m_n, .long m_c, .long m_d, .long m_s, .long m_e, .long m_k, .long m_x, .long m_y, .long m_g, .long m_a, .ref 1012, .ref 1013, .ref 1014, .int m_curveMany, .ref 1015, .int m_cornerMany, .int m_straightAt, .ref 1016, .long m_fitUp, .long m_fitDown, .long m_worstUp, .long m_worstDown, .ref 1017, .int m_walkLink, .int m_walkAngle, .int m_walkBranch, .int m_walkMany, .ref 1018, .ref 1019, .int m_lined, .ref 1020, .int (nI (n + 1))], z1, z2, z3, ia 16 q4, z5, z6, z7, z8, z9, z10, z11, z12, z13, z14, z15, z16, z17, z18, z19, ia 30 (upd (upd (upd q20 (3 * n) a1) ((3 * n) + 1) a2) ((3 * n) + 2) (q4 (0 + Int32.toNatClampNeg a1 * 4 + Int32.toNatClampNeg a2)))])) dX11_reshape_150 fl_X11_249 rfl (Nat.le_of_ble_eq_true rfl) (fun _ => ⟨rfl, rfl⟩) rfl ?_
        refine ab_aload_n dX11_reshape_153 rfl ?_
        refine ab_getf dX11_reshape_154 fl_X11_42 rfl rfl ?_
        refine ab_iconst (v := 4) dX11_reshape_157 (by decide) ?_
        refine ab_iload_n dX11_reshape_158 rfl ?_
        refine ab_imul dX11_reshape_159 ?_
        refine ab_iload_n dX11_reshape_160 rfl ?_
        refine ab_iadd dX11_reshape_161 ?_
        refine ab_iload_n dX11_reshape_162 rfl ?_
        refine ab_iast (w1 := (wc, [ob 9 [.int 0, .int 0, .int m_fault, .int (-1), .ref 1001, .ref 1002, .int 40, .ref 1003, .int m_taped, .int m_linkMany, .int m_tracerMany, .int m_pointMany, .int m_pairMany, .ref 1004, .ref 1005, .ref 1006, .ref 1007, .int m_readLinks, .int m_readTracers, .int m_readPoints, .int m_readPairs, .ref 1008, .ref 1009, .ref 1010, .ref 1011, .int m_textLong, .int m_at, .int m_spot, .int m_token, .int m_whole, .int m_readFault, .int m_readPlace, .int m_value, .long m_n, .long m_c, .long m_d, .long m_s, .long m_e, .long m_k, .long m_x, .long m_y, .long m_g, .long m_a, .ref 1012, .ref 1013, .ref 1014, .int m_curveMany, .ref 1015, .int m_cornerMany, .int m_straightAt, .ref 1016, .long m_fitUp, .long m_fitDown, .long m_worstUp, .long m_worstDown, .ref 1017, .int m_walkLink, .int m_walkAngle, .int m_walkBranch, .int m_walkMany, .ref 1018, .ref 1019, .int m_lined, .ref 1020, .int (nI (n + 1))], z1, z2, z3, ia 16 (upd q4 (0 + Int32.toNatClampNeg a1 * 4 + Int32.toNatClampNeg a2) a3), z5, z6, z7, z8, z9, z10, z11, z12, z13, z14, z15, z16, z17, z18, z19, ia 30 (upd (upd (upd q20 (3 * n) a1) ((3 * n) + 1) a2) ((3 * n) + 2) (q4 (0 + Int32.toNatClampNeg a1 * 4 + Int32.toNatClampNeg a2)))])) dX11_reshape_163 rfl (ix_ml (W := 4) (c := 4) c_1 h_l.2 (in_lt (d := 4) c_4 (by decide)) (by decide) (by decide) (by decide) (by decide)) rfl ?_
        refine ab_aload_n dX11_reshape_164 rfl ?_
        refine ab_iconst (v := -1) dX11_reshape_165 (by decide) ?_
        refine ab_putf (w1 := (wc, [ob 9 [.int 0, .int 0, .int m_fault, .int (-1), .ref 1001, .ref 1002, .int 40, .ref 1003, .int m_taped, .int m_linkMany, .int m_tracerMany, .int m_pointMany, .int m_pairMany, .ref 1004, .ref 1005, .ref 1006, .ref 1007, .int m_readLinks, .int m_readTracers, .int m_readPoints, .int m_readPairs, .ref 1008, .ref 1009, .ref 1010, .ref 1011, .int m_textLong, .int m_at, .int m_spot, .int m_token, .int m_whole, .int m_readFault, .int m_readPlace, .int m_value, .long m_n, .long m_c, .long m_d, .long m_s, .long m_e, .long m_k, .long m_x, .long m_y, .long m_g, .long m_a, .ref 1012, .ref 1013, .ref 1014, .int m_curveMany, .ref 1015, .int m_cornerMany, .int m_straightAt, .ref 1016, .long m_fitUp, .long m_fitDown, .long m_worstUp, .long m_worstDown, .ref 1017, .int (-1), .int m_walkAngle, .int m_walkBranch, .int m_walkMany, .ref 1018, .ref 1019, .int m_lined, .ref 1020, .int (nI (n + 1))], z1, z2, z3, ia 16 (upd q4 (0 + Int32.toNatClampNeg a1 * 4 + Int32.toNatClampNeg a2) a3), z5, z6, z7, z8, z9, z10, z11, z12, z13, z14, z15, z16, z17, z18, z19, ia 30 (upd (upd (upd q20 (3 * n) a1) ((3 * n) + 1) a2) ((3 * n) + 2) (q4 (0 + Int32.toNatClampNeg a1 * 4 + Int32.toNatClampNeg a2)))])) dX11_reshape_166 fl_X11_85 rfl (Nat.le_of_ble_eq_true rfl) (fun _ => ⟨rfl, rfl⟩) rfl ?_
        refine ab_iload dX11_reshape_169 rfl ?_
        exact ab_iret dX11_reshape_171 rfl (by decide) (Or.inl ⟨c_1, c_4, c_7, rfl, rfl⟩)
      · refine ab_ifne 43 dX11_reshape_34 (by decide) (fun h_11 => absurd (by decide) h_11) (fun h_11 => ?_)
        refine ab_aload_n dX11_reshape_37 rfl ?_
        refine ab_iconst (v := 2) dX11_reshape_38 (by decide) ?_
        refine ab_callV (As := [.int 2]) (rest := []) dX11_reshape_39 mv_X11_no ml_X11_115 ⟨by decide, by decide, rfl, rfl, rfl⟩ (by decide) rfl rfl (Nat.le_of_ble_eq_true rfl) rfl c_X11_no ?_
        rintro r w' ⟨rfl, rfl⟩
        exact ab_iret dX11_reshape_42 rfl (by decide) (Or.inr (Or.inl ⟨c_1, c_4, c_8, rfl, rfl⟩))
    · refine ab_ifne 27 dX11_reshape_18 (by decide) (fun h_12 => absurd (by decide) h_12) (fun h_12 => ?_)
      refine ab_aload_n dX11_reshape_21 rfl ?_
      refine ab_iconst (v := 1) dX11_reshape_22 (by decide) ?_
      refine ab_callV (As := [.int 1]) (rest := []) dX11_reshape_23 mv_X11_no ml_X11_115 ⟨by decide, by decide, rfl, rfl, rfl⟩ (by decide) rfl rfl (Nat.le_of_ble_eq_true rfl) rfl c_X11_no ?_
      rintro r w' ⟨rfl, rfl⟩
      exact ab_iret dX11_reshape_26 rfl (by decide) (Or.inr (Or.inr (Or.inl ⟨c_1, c_5, rfl, rfl⟩)))
  · refine ab_ifeq 21 dX11_reshape_9 (by decide) (fun h_13 => ?_) (fun h_13 => absurd (by decide) h_13)
    refine ab_aload_n dX11_reshape_21 rfl ?_
    refine ab_iconst (v := 1) dX11_reshape_22 (by decide) ?_
    refine ab_callV (As := [.int 1]) (rest := []) dX11_reshape_23 mv_X11_no ml_X11_115 ⟨by decide, by decide, rfl, rfl, rfl⟩ (by decide) rfl rfl (Nat.le_of_ble_eq_true rfl) rfl c_X11_no ?_
    rintro r w' ⟨rfl, rfl⟩
    exact ab_iret dX11_reshape_26 rfl (by decide) (Or.inr (Or.inr (Or.inr (⟨c_2, rfl, rfl⟩))))
theorem c_X11_undo_n {wc : List ax_E} {m_thrown m_trouble m_fault m_where m_taped m_linkMany m_tracerMany m_pointMany m_pairMany m_readLinks m_readTracers m_readPoints m_readPairs m_textLong m_at m_spot m_token m_whole m_readFault m_readPlace m_value m_curveMany m_cornerMany m_straightAt m_walkLink m_walkAngle m_walkBranch m_walkMany m_lined : Int32} {m_n m_c m_d m_s m_e m_k m_x m_y m_g m_a m_fitUp m_fitDown m_worstUp m_worstDown : Int64} {z1 z2 z3 z5 z6 z7 z8 z9 z10 z11 z12 z13 z14 z15 z16 z17 z18 z19 : ax_E} {q4 q20 : Nat → Int32} {n : Nat} (h_l : 0 ≤ m_linkMany ∧ m_linkMany ≤ nI 4) (h_n : n ≤ 10) (h_0 : 0 < n) (h_v1 : 0 ≤ q20 (3 * (n - 1)) ∧ q20 (3 * (n - 1)) < m_linkMany) (h_v2 : 0 ≤ q20 ((3 * (n - 1)) + 1) ∧ q20 ((3 * (n - 1)) + 1) < nI 4) : Ct M_X11_undo [.ref 1000] (wc, [ob 9 [.int m_thrown, .int m_trouble, .int m_fault, .int m_where, .ref 1001, .ref 1002, .int 40, .ref 1003, .int m_taped, .int m_linkMany, .int m_tracerMany, .int m_pointMany, .int m_pairMany, .ref 1004, .ref 1005, .ref 1006, .ref 1007, .int m_readLinks, .int m_readTracers, .int m_readPoints, .int m_readPairs, .ref 1008, .ref 1009, .ref 1010, .ref 1011, .int m_textLong, .int m_at, .int m_spot, .int m_token, .int m_whole, .int m_readFault, .int m_readPlace, .int m_value, .long m_n, .long m_c, .long m_d, .long m_s, .long m_e, .long m_k, .long m_x, .long m_y, .long m_g, .long m_a, .ref 1012, .ref 1013, .ref 1014, .int m_curveMany, .ref 1015, .int m_cornerMany, .int m_straightAt, .ref 1016, .long m_fitUp, .long m_fitDown, .long m_worstUp, .long m_worstDown, .ref 1017, .int m_walkLink, .int m_walkAngle, .int m_walkBranch, .int m_walkMany, .ref 1018, .ref 1019, .int m_lined, .ref 1020, .int (nI n)], z1, z2, z3, ia 16 q4, z5, z6, z7, z8, z9, z10, z11, z12, z13, z14, z15, z16, z17, z18, z19, ia 30 q20]) (fun r w' => r = some (.int 1) ∧ w' = (wc, [ob 9 [.int 0, .int 0, .int m_fault, .int (-1), .ref 1001, .ref 1002, .int 40, .ref 1003, .int m_taped, .int m_linkMany, .int m_tracerMany, .int m_pointMany, .int m_pairMany, .ref 1004, .ref 1005, .ref 1006, .ref 1007, .int m_readLinks, .int m_readTracers, .int m_readPoints, .int m_readPairs, .ref 1008, .ref 1009, .ref 1010, .ref 1011, .int m_textLong, .int m_at, .int m_spot, .int m_token, .int m_whole, .int m_readFault, .int m_readPlace, .int m_value, .long m_n, .long m_c, .long m_d, .long m_s, .long m_e, .long m_k, .long m_x, .long m_y, .long m_g, .long m_a, .ref 1012, .ref 1013, .ref 1014, .int m_curveMany, .ref 1015, .int m_cornerMany, .int m_straightAt, .ref 1016, .long m_fitUp, .long m_fitDown, .long m_worstUp, .long m_worstDown, .ref 1017, .int (-1), .int m_walkAngle, .int m_walkBranch, .int m_walkMany, .ref 1018, .ref 1019, .int m_lined, .ref 1020, .int (nI (n - 1))], z1, z2, z3, ia 16 (upd q4 (0 + Int32.toNatClampNeg (q20 (3 * (n - 1))) * 4 + Int32.toNatClampNeg (q20 ((3 * (n - 1)) + 1))) (q20 ((3 * (n - 1)) + 2))), z5, z6, z7, z8, z9, z10, z11, z12, z13, z14, z15, z16, z17, z18, z19, ia 30 q20])) := by
  refine ct_of ⟨by decide, rfl⟩ (Nat.le_of_ble_eq_true rfl) ?_
  refine ab_aload_n dX11_undo_0 rfl ?_
  refine ab_callV (As := []) (rest := []) dX11_undo_1 mv_X11_anew ml_X11_104 ⟨by decide, by decide, rfl, rfl, rfl⟩ (by decide) rfl rfl (Nat.le_of_ble_eq_true rfl) rfl c_X11_anew ?_
  rintro r w' ⟨rfl, rfl⟩
  refine ab_aload_n dX11_undo_4 rfl ?_
  refine ab_getf dX11_undo_5 fl_X11_249 rfl rfl ?_
  refine ab_ifne 18 dX11_undo_8 (by decide) (fun h_1 => ?_) (fun h_1 => absurd h_1 (nI_ne0 h_0 (by omega)))
  refine ab_aload_n dX11_undo_18 rfl ?_
  refine ab_dup rfl dX11_undo_19 ?_
  refine ab_getf dX11_undo_20 fl_X11_249 rfl rfl ?_
  refine ab_iconst (v := 1) dX11_undo_23 (by decide) ?_
  refine ab_isub dX11_undo_24 ?_
  refine ab_topi (v := (nI (n - 1))) (pk_sub (b := 1) (by omega)) ?_
  refine ab_putf (w1 := (wc, [ob 9 [.int 0, .int 0, .int m_fault, .int (-1), .ref 1001, .ref 1002, .int 40, .ref 1003, .int m_taped, .int m_linkMany, .int m_tracerMany, .int m_pointMany, .int m_pairMany, .ref 1004, .ref 1005, .ref 1006, .ref 1007, .int m_readLinks, .int m_readTracers, .int m_readPoints, .int m_readPairs, .ref 1008, .ref 1009, .ref 1010, .ref 1011, .int m_textLong, .int m_at, .int m_spot, .int m_token, .int m_whole, .int m_readFault, .int m_readPlace, .int m_value, .long m_n, .long m_c, .long m_d, .long m_s, .long m_e, .long m_k, .long m_x, .long m_y, .long m_g, .long m_a, .ref 1012, .ref 1013, .ref 1014, .int m_curveMany, .ref 1015, .int m_cornerMany, .int m_straightAt, .ref 1016, .long m_fitUp, .long m_fitDown, .long m_worstUp, .long m_worstDown, .ref 1017, .int m_walkLink, .int m_walkAngle, .int m_walkBranch, .int m_walkMany, .ref 1018, .ref 1019, .int m_lined, .ref 1020, .int (nI (n - 1))], z1, z2, z3, ia 16 q4, z5, z6, z7, z8, z9, z10, z11, z12, z13, z14, z15, z16, z17, z18, z19, ia 30 q20])) dX11_undo_25 fl_X11_249 rfl (Nat.le_of_ble_eq_true rfl) (fun _ => ⟨rfl, rfl⟩) rfl ?_
  refine ab_aload_n dX11_undo_28 rfl ?_
  refine ab_getf dX11_undo_29 fl_X11_42 rfl rfl ?_
  refine ab_iconst (v := 4) dX11_undo_32 (by decide) ?_
  refine ab_aload_n dX11_undo_33 rfl ?_
  refine ab_getf dX11_undo_34 fl_X11_94 rfl rfl ?_
  refine ab_iconst (v := 3) dX11_undo_37 (by decide) ?_
  refine ab_aload_n dX11_undo_38 rfl ?_
  refine ab_getf dX11_undo_39 fl_X11_249 rfl rfl ?_
  refine ab_imul dX11_undo_42 ?_
  refine ab_topi (v := (nI (3 * (n - 1)))) (pk_mul 3 _) ?_
  refine ab_iald (j := (3 * (n - 1))) dX11_undo_43 rfl (ix_nI (by omega) (by decide)) ?_
  refine ab_imul dX11_undo_44 ?_
  refine ab_aload_n dX11_undo_45 rfl ?_
  refine ab_getf dX11_undo_46 fl_X11_94 rfl rfl ?_
  refine ab_iconst (v := 3) dX11_undo_49 (by decide) ?_
  refine ab_aload_n dX11_undo_50 rfl ?_
  refine ab_getf dX11_undo_51 fl_X11_249 rfl rfl ?_
  refine ab_imul dX11_undo_54 ?_
  refine ab_topi (v := (nI (3 * (n - 1)))) (pk_mul 3 _) ?_
  refine ab_iconst (v := 1) dX11_undo_55 (by decide) ?_
  refine ab_iadd dX11_undo_56 ?_
  refine ab_topi (v := (nI ((3 * (n - 1)) + 1))) (nI_1 _) ?_
  refine ab_iald (j := ((3 * (n - 1)) + 1)) dX11_undo_57 rfl (ix_nI (by omega) (by decide)) ?_
  refine ab_iadd dX11_undo_58 ?_
  refine ab_aload_n dX11_undo_59 rfl ?_
  refine ab_getf dX11_undo_60 fl_X11_94 rfl rfl ?_
  refine ab_iconst (v := 3) dX11_undo_63 (by decide) ?_
  refine ab_aload_n dX11_undo_64 rfl ?_
  refine ab_getf dX11_undo_65 fl_X11_249 rfl rfl ?_
  refine ab_imul dX11_undo_68 ?_
  refine ab_topi (v := (nI (3 * (n - 1)))) (pk_mul 3 _) ?_
  refine ab_iconst (v := 2) dX11_undo_69 (by decide) ?_
  refine ab_iadd dX11_undo_70 ?_
  refine ab_topi (v := (nI ((3 * (n - 1)) + 2))) (nI_add _ 2) ?_
  refine ab_iald (j := ((3 * (n - 1)) + 2)) dX11_undo_71 rfl (ix_nI (by omega) (by decide)) ?_
  refine ab_iast (w1 := (wc, [ob 9 [.int 0, .int 0, .int m_fault, .int (-1), .ref 1001, .ref 1002, .int 40, .ref 1003, .int m_taped, .int m_linkMany, .int m_tracerMany, .int m_pointMany, .int m_pairMany, .ref 1004, .ref 1005, .ref 1006, .ref 1007, .int m_readLinks, .int m_readTracers, .int m_readPoints, .int m_readPairs, .ref 1008, .ref 1009, .ref 1010, .ref 1011, .int m_textLong, .int m_at, .int m_spot, .int m_token, .int m_whole, .int m_readFault, .int m_readPlace, .int m_value, .long m_n, .long m_c, .long m_d, .long m_s, .long m_e, .long m_k, .long m_x, .long m_y, .long m_g, .long m_a, .ref 1012, .ref 1013, .ref 1014, .int m_curveMany, .ref 1015, .int m_cornerMany, .int m_straightAt, .ref 1016, .long m_fitUp, .long m_fitDown, .long m_worstUp, .long m_worstDown, .ref 1017, .int m_walkLink, .int m_walkAngle, .int m_walkBranch, .int m_walkMany, .ref 1018, .ref 1019, .int m_lined, .ref 1020, .int (nI (n - 1))], z1, z2, z3, ia 16 (upd q4 (0 + Int32.toNatClampNeg (q20 (3 * (n - 1))) * 4 + Int32.toNatClampNeg (q20 ((3 * (n - 1)) + 1))) (q20 ((3 * (n - 1)) + 2))), z5, z6, z7, z8, z9, z10, z11, z12, z13, z14, z15, z16, z17, z18, z19, ia 30 q20])) dX11_undo_72 rfl (ix_ml (W := 4) (c := 4) h_v1 h_l.2 h_v2 (by decide) (by decide) (by decide) (by decide)) rfl ?_
  refine ab_aload_n dX11_undo_73 rfl ?_
  refine ab_iconst (v := -1) dX11_undo_74 (by decide) ?_
  refine ab_putf (w1 := (wc, [ob 9 [.int 0, .int 0, .int m_fault, .int (-1), .ref 1001, .ref 1002, .int 40, .ref 1003, .int m_taped, .int m_linkMany, .int m_tracerMany, .int m_pointMany, .int m_pairMany, .ref 1004, .ref 1005, .ref 1006, .ref 1007, .int m_readLinks, .int m_readTracers, .int m_readPoints, .int m_readPairs, .ref 1008, .ref 1009, .ref 1010, .ref 1011, .int m_textLong, .int m_at, .int m_spot, .int m_token, .int m_whole, .int m_readFault, .int m_readPlace, .int m_value, .long m_n, .long m_c, .long m_d, .long m_s, .long m_e, .long m_k, .long m_x, .long m_y, .long m_g, .long m_a, .ref 1012, .ref 1013, .ref 1014, .int m_curveMany, .ref 1015, .int m_cornerMany, .int m_straightAt, .ref 1016, .long m_fitUp, .long m_fitDown, .long m_worstUp, .long m_worstDown, .ref 1017, .int (-1), .int m_walkAngle, .int m_walkBranch, .int m_walkMany, .ref 1018, .ref 1019, .int m_lined, .ref 1020, .int (nI (n - 1))], z1, z2, z3, ia 16 (upd q4 (0 + Int32.toNatClampNeg (q20 (3 * (n - 1))) * 4 + Int32.toNatClampNeg (q20 ((3 * (n - 1)) + 1))) (q20 ((3 * (n - 1)) + 2))), z5, z6, z7, z8, z9, z10, z11, z12, z13, z14, z15, z16, z17, z18, z19, ia 30 q20])) dX11_undo_75 fl_X11_85 rfl (Nat.le_of_ble_eq_true rfl) (fun _ => ⟨rfl, rfl⟩) rfl ?_
  refine ab_iconst (v := 1) dX11_undo_78 (by decide) ?_
  exact ab_zret dX11_undo_79 rfl rfl (by decide) (⟨rfl, rfl⟩)
theorem c_X11_undo_0 {wc : List ax_E} {m_thrown m_trouble m_fault m_where m_taped m_linkMany m_tracerMany m_pointMany m_pairMany m_readLinks m_readTracers m_readPoints m_readPairs m_textLong m_at m_spot m_token m_whole m_readFault m_readPlace m_value m_curveMany m_cornerMany m_straightAt m_walkLink m_walkAngle m_walkBranch m_walkMany m_lined : Int32} {m_n m_c m_d m_s m_e m_k m_x m_y m_g m_a m_fitUp m_fitDown m_worstUp m_worstDown : Int64} {z1 z2 z3 z5 z6 z7 z8 z9 z10 z11 z12 z13 z14 z15 z16 z17 z18 z19 : ax_E} {q4 q20 : Nat → Int32}  : Ct M_X11_undo [.ref 1000] (wc, [ob 9 [.int m_thrown, .int m_trouble, .int m_fault, .int m_where, .ref 1001, .ref 1002, .int 40, .ref 1003, .int m_taped, .int m_linkMany, .int m_tracerMany, .int m_pointMany, .int m_pairMany, .ref 1004, .ref 1005, .ref 1006, .ref 1007, .int m_readLinks, .int m_readTracers, .int m_readPoints, .int m_readPairs, .ref 1008, .ref 1009, .ref 1010, .ref 1011, .int m_textLong, .int m_at, .int m_spot, .int m_token, .int m_whole, .int m_readFault, .int m_readPlace, .int m_value, .long m_n, .long m_c, .long m_d, .long m_s, .long m_e, .long m_k, .long m_x, .long m_y, .long m_g, .long m_a, .ref 1012, .ref 1013, .ref 1014, .int m_curveMany, .ref 1015, .int m_cornerMany, .int m_straightAt, .ref 1016, .long m_fitUp, .long m_fitDown, .long m_worstUp, .long m_worstDown, .ref 1017, .int m_walkLink, .int m_walkAngle, .int m_walkBranch, .int m_walkMany, .ref 1018, .ref 1019, .int m_lined, .ref 1020, .int 0], z1, z2, z3, ia 16 q4, z5, z6, z7, z8, z9, z10, z11, z12, z13, z14, z15, z16, z17, z18, z19, ia 30 q20]) (fun r w' => r = some (.int 0) ∧ w' = (wc, [ob 9 [.int 0, .int 1, .int m_fault, .int (-1), .ref 1001, .ref 1002, .int 40, .ref 1003, .int m_taped, .int m_linkMany, .int m_tracerMany, .int m_pointMany, .int m_pairMany, .ref 1004, .ref 1005, .ref 1006, .ref 1007, .int m_readLinks, .int m_readTracers, .int m_readPoints, .int m_readPairs, .ref 1008, .ref 1009, .ref 1010, .ref 1011, .int m_textLong, .int m_at, .int m_spot, .int m_token, .int m_whole, .int m_readFault, .int m_readPlace, .int m_value, .long m_n, .long m_c, .long m_d, .long m_s, .long m_e, .long m_k, .long m_x, .long m_y, .long m_g, .long m_a, .ref 1012, .ref 1013, .ref 1014, .int m_curveMany, .ref 1015, .int m_cornerMany, .int m_straightAt, .ref 1016, .long m_fitUp, .long m_fitDown, .long m_worstUp, .long m_worstDown, .ref 1017, .int m_walkLink, .int m_walkAngle, .int m_walkBranch, .int m_walkMany, .ref 1018, .ref 1019, .int m_lined, .ref 1020, .int 0], z1, z2, z3, ia 16 q4, z5, z6, z7, z8, z9, z10, z11, z12, z13, z14, z15, z16, z17, z18, z19, ia 30 q20])) := by
  refine ct_of ⟨by decide, rfl⟩ (Nat.le_of_ble_eq_true rfl) ?_
  refine ab_aload_n dX11_undo_0 rfl ?_
  refine ab_callV (As := []) (rest := []) dX11_undo_1 mv_X11_anew ml_X11_104 ⟨by decide, by decide, rfl, rfl, rfl⟩ (by decide) rfl rfl (Nat.le_of_ble_eq_true rfl) rfl c_X11_anew ?_
  rintro r w' ⟨rfl, rfl⟩
  refine ab_aload_n dX11_undo_4 rfl ?_
  refine ab_getf dX11_undo_5 fl_X11_249 rfl rfl ?_
  refine ab_ifne 18 dX11_undo_8 (by decide) (fun h_1 => absurd (by decide) h_1) (fun h_1 => ?_)
  refine ab_aload_n dX11_undo_11 rfl ?_
  refine ab_iconst (v := 1) dX11_undo_12 (by decide) ?_
  refine ab_putf (w1 := (wc, [ob 9 [.int 0, .int 1, .int m_fault, .int (-1), .ref 1001, .ref 1002, .int 40, .ref 1003, .int m_taped, .int m_linkMany, .int m_tracerMany, .int m_pointMany, .int m_pairMany, .ref 1004, .ref 1005, .ref 1006, .ref 1007, .int m_readLinks, .int m_readTracers, .int m_readPoints, .int m_readPairs, .ref 1008, .ref 1009, .ref 1010, .ref 1011, .int m_textLong, .int m_at, .int m_spot, .int m_token, .int m_whole, .int m_readFault, .int m_readPlace, .int m_value, .long m_n, .long m_c, .long m_d, .long m_s, .long m_e, .long m_k, .long m_x, .long m_y, .long m_g, .long m_a, .ref 1012, .ref 1013, .ref 1014, .int m_curveMany, .ref 1015, .int m_cornerMany, .int m_straightAt, .ref 1016, .long m_fitUp, .long m_fitDown, .long m_worstUp, .long m_worstDown, .ref 1017, .int m_walkLink, .int m_walkAngle, .int m_walkBranch, .int m_walkMany, .ref 1018, .ref 1019, .int m_lined, .ref 1020, .int 0], z1, z2, z3, ia 16 q4, z5, z6, z7, z8, z9, z10, z11, z12, z13, z14, z15, z16, z17, z18, z19, ia 30 q20])) dX11_undo_13 fl_X11_11 rfl (Nat.le_of_ble_eq_true rfl) (fun _ => ⟨rfl, rfl⟩) rfl ?_
  refine ab_iconst (v := 0) dX11_undo_16 (by decide) ?_
  exact ab_zret dX11_undo_17 rfl rfl (by decide) (⟨rfl, rfl⟩)
