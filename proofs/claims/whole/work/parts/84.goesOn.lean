def m3 (k : Nat) : Nat := if k < 3 then k else 3
theorem m3_le {k : Nat} (h : k ≤ 3) : m3 k = k := by unfold m3; split <;> omega
theorem m3_s1 {u : Nat → Nat} {a k : Nat} (h : k < 3) (hd : 48 ≤ u (a + k)) : 10 * vl u a (m3 k) + u (a + k) - 48 = vl u a (m3 (k + 1)) := by
  rw [m3_le (by omega), m3_le (by omega)]
  show _ = vl u a k * 10 + (u (a + k) - 48)
  omega
theorem m3_s2 {k : Nat} (h : ¬ k < 3) : m3 k = m3 (k + 1) := by unfold m3; rw [if_neg h, if_neg (by omega)]
set_option maxHeartbeats 400000 in
theorem lp_goC {wc : List ax_E} {m_thrown m_trouble m_fault m_where m_taped m_linkMany m_tracerMany m_pointMany m_pairMany m_readLinks m_readTracers m_readPoints m_readPairs m_token m_readFault m_readPlace m_value m_curveMany m_cornerMany m_straightAt m_walkLink m_walkAngle m_walkBranch m_walkMany m_lined m_actMany a1 : Int32} {m_n m_c m_d m_s m_e m_k m_x m_y m_g m_a m_fitUp m_fitDown m_worstUp m_worstDown : Int64} {z1 z2 z4 z5 z6 z7 z8 z9 z10 z11 z12 z13 z14 z15 z16 z17 z18 z19 z20 : ax_E} {q3 : Nat → Int32} {u : Nat → Nat} {n a : Nat} {Q : Option Value → ax_W → Prop} (h_n : n ≤ 700) (h_v : ∀ k, k < n → u k < 256 ∧ q3 k = nI (u k)) (hx : (∀ k, dE u n a = a + k → a + k ≤ n → Ab M_X11_goesOn Q (0, 0) 210 [(1, .int a1), (0, .ref 1000)] [] (wc, [ob 9 [.int m_thrown, .int m_trouble, .int m_fault, .int m_where, .ref 1001, .ref 1002, .int 40, .ref 1003, .int m_taped, .int m_linkMany, .int m_tracerMany, .int m_pointMany, .int m_pairMany, .ref 1004, .ref 1005, .ref 1006, .ref 1007, .int m_readLinks, .int m_readTracers, .int m_readPoints, .int m_readPairs, .ref 1008, .ref 1009, .ref 1010, .ref 1011, .int (nI n), .int (nI a), .int (nI (a + k)), .int m_token, .int (nI (vl u a (m3 k))), .int m_readFault, .int m_readPlace, .int m_value, .long m_n, .long m_c, .long m_d, .long m_s, .long m_e, .long m_k, .long m_x, .long m_y, .long m_g, .long m_a, .ref 1012, .ref 1013, .ref 1014, .int m_curveMany, .ref 1015, .int m_cornerMany, .int m_straightAt, .ref 1016, .long m_fitUp, .long m_fitDown, .long m_worstUp, .long m_worstDown, .ref 1017, .int m_walkLink, .int m_walkAngle, .int m_walkBranch, .int m_walkMany, .ref 1018, .ref 1019, .int m_lined, .ref 1020, .int m_actMany], z1, z2, ia 700 q3, z4, z5, z6, z7, z8, z9, z10, z11, z12, z13, z14, z15, z16, z17, z18, z19, z20]))) : ∀ (m k : Nat), n - (a + k) = m → a + k ≤ n → dE u n a = dE u n (a + k) → Ab M_X11_goesOn Q (0, 0) 136 [(1, .int a1), (0, .ref 1000)] [] (wc, [ob 9 [.int m_thrown, .int m_trouble, .int m_fault, .int m_where, .ref 1001, .ref 1002, .int 40, .ref 1003, .int m_taped, .int m_linkMany, .int m_tracerMany, .int m_pointMany, .int m_pairMany, .ref 1004, .ref 1005, .ref 1006, .ref 1007, .int m_readLinks, .int m_readTracers, .int m_readPoints, .int m_readPairs, .ref 1008, .ref 1009, .ref 1010, .ref 1011, .int (nI n), .int (nI a), .int (nI (a + k)), .int m_token, .int (nI (vl u a (m3 k))), .int m_readFault, .int m_readPlace, .int m_value, .long m_n, .long m_c, .long m_d, .long m_s, .long m_e, .long m_k, .long m_x, .long m_y, .long m_g, .long m_a, .ref 1012, .ref 1013, .ref 1014, .int m_curveMany, .ref 1015, .int m_cornerMany, .int m_straightAt, .ref 1016, .long m_fitUp, .long m_fitDown, .long m_worstUp, .long m_worstDown, .ref 1017, .int m_walkLink, .int m_walkAngle, .int m_walkBranch, .int m_walkMany, .ref 1018, .ref 1019, .int m_lined, .ref 1020, .int m_actMany], z1, z2, ia 700 q3, z4, z5, z6, z7, z8, z9, z10, z11, z12, z13, z14, z15, z16, z17, z18, z19, z20]) := by
  intro m
  induction m with
  | zero =>
    intro k hm hak hd
    have hqn : ¬ (a + k) < n := by omega
    refine ab_aload_n dX11_goesOn_136 rfl ?_
    refine ab_aload_n dX11_goesOn_137 rfl ?_
    refine ab_getf dX11_goesOn_138 fl_X11_128 rfl rfl ?_
    refine ab_callV (As := [.int (nI (a + k))]) (rest := []) dX11_goesOn_141 mv_X11_see ml_X11_131 ⟨by decide, by decide, rfl, rfl, rfl⟩ (by decide) rfl rfl (Nat.le_of_ble_eq_true rfl) rfl (c_X11_see (n := n) (k := (a + k)) h_n (by assumption) (by omega)) ?_
    rintro r w' (⟨c_1, rfl, rfl⟩ | ⟨c_2, rfl, rfl⟩)
    · refine ab_bipush (v := 48) dX11_goesOn_144 (by decide) ?_
      refine ab_bipush (v := 57) dX11_goesOn_146 (by decide) ?_
      refine ab_callS (As := [.int (nI (u (a + k))), .int 48, .int 57]) (rest := []) dX11_goesOn_148 ms_X11_in ml_X11_107 ⟨by decide, by decide, rfl, rfl, rfl⟩ (by decide) rfl rfl (Nat.le_of_ble_eq_true rfl) c_X11_in ?_
      rintro r w' (⟨c_3, rfl, rfl⟩ | ⟨c_4, rfl, rfl⟩)
      · refine ab_ifeq 210 dX11_goesOn_151 (by decide) (fun h_5 => absurd h_5 (by decide)) (fun h_5 => ?_)
        exfalso
        omega
      · refine ab_ifeq 210 dX11_goesOn_151 (by decide) (fun h_6 => ?_) (fun h_6 => absurd (by decide) h_6)
        exact hx k (hd.trans (run_f (fun z => c_4 ((isD_m (by omega)).mpr z.2)))) hak
    · refine ab_bipush (v := 48) dX11_goesOn_144 (by decide) ?_
      refine ab_bipush (v := 57) dX11_goesOn_146 (by decide) ?_
      refine ab_callS (As := [.int (-1), .int 48, .int 57]) (rest := []) dX11_goesOn_148 ms_X11_in ml_X11_107 ⟨by decide, by decide, rfl, rfl, rfl⟩ (by decide) rfl rfl (Nat.le_of_ble_eq_true rfl) c_X11_in ?_
      rintro r w' (⟨c_7, rfl, rfl⟩ | ⟨c_8, rfl, rfl⟩)
      · exact absurd c_7 (by decide)
      · refine ab_ifeq 210 dX11_goesOn_151 (by decide) (fun h_9 => ?_) (fun h_9 => absurd (by decide) h_9)
        exact hx k (hd.trans (run_f (fun z => absurd z.1 (by omega)))) hak
  | succ m ih =>
    intro k hm hak hd
    refine ab_aload_n dX11_goesOn_136 rfl ?_
    refine ab_aload_n dX11_goesOn_137 rfl ?_
    refine ab_getf dX11_goesOn_138 fl_X11_128 rfl rfl ?_
    refine ab_callV (As := [.int (nI (a + k))]) (rest := []) dX11_goesOn_141 mv_X11_see ml_X11_131 ⟨by decide, by decide, rfl, rfl, rfl⟩ (by decide) rfl rfl (Nat.le_of_ble_eq_true rfl) rfl (c_X11_see (n := n) (k := (a + k)) h_n (by assumption) (by omega)) ?_
    rintro r w' (⟨c_1, rfl, rfl⟩ | ⟨c_2, rfl, rfl⟩)
    · refine ab_bipush (v := 48) dX11_goesOn_144 (by decide) ?_
      refine ab_bipush (v := 57) dX11_goesOn_146 (by decide) ?_
      refine ab_callS (As := [.int (nI (u (a + k))), .int 48, .int 57]) (rest := []) dX11_goesOn_148 ms_X11_in ml_X11_107 ⟨by decide, by decide, rfl, rfl, rfl⟩ (by decide) rfl rfl (Nat.le_of_ble_eq_true rfl) c_X11_in ?_
      rintro r w' (⟨c_3, rfl, rfl⟩ | ⟨c_4, rfl, rfl⟩)
      · refine ab_ifeq 210 dX11_goesOn_151 (by decide) (fun h_5 => absurd h_5 (by decide)) (fun h_5 => ?_)
        have hdg := isD_iff.mp ((isD_m (by omega)).mp c_3)
        refine ab_aload_n dX11_goesOn_154 rfl ?_
        refine ab_aload_n dX11_goesOn_155 rfl ?_
        refine ab_getf dX11_goesOn_156 fl_X11_128 rfl rfl ?_
        refine ab_aload_n dX11_goesOn_159 rfl ?_
        refine ab_getf dX11_goesOn_160 fl_X11_134 rfl rfl ?_
        refine ab_isub dX11_goesOn_163 ?_
        refine ab_topi (v := (nI ((a + k) - a))) (pk_sub (by omega)) ?_
        refine ab_iconst (v := 3) dX11_goesOn_164 (by decide) ?_
        refine ab_icmpge 190 dX11_goesOn_165 (by decide) (fun h_6 => ?_) (fun h_6 => ?_)
        · have h_6n := (nI_leI (a := 3) (b := ((a + k) - a)) (by omega) (by omega)).mp h_6
          refine ab_aload_n dX11_goesOn_190 rfl ?_
          refine ab_getf dX11_goesOn_191 fl_X11_140 rfl rfl ?_
          refine ab_putf (w1 := (wc, [ob 9 [.int m_thrown, .int m_trouble, .int m_fault, .int m_where, .ref 1001, .ref 1002, .int 40, .ref 1003, .int m_taped, .int m_linkMany, .int m_tracerMany, .int m_pointMany, .int m_pairMany, .ref 1004, .ref 1005, .ref 1006, .ref 1007, .int m_readLinks, .int m_readTracers, .int m_readPoints, .int m_readPairs, .ref 1008, .ref 1009, .ref 1010, .ref 1011, .int (nI n), .int (nI a), .int (nI (a + k)), .int m_token, .int (nI (vl u a (m3 k))), .int m_readFault, .int m_readPlace, .int m_value, .long m_n, .long m_c, .long m_d, .long m_s, .long m_e, .long m_k, .long m_x, .long m_y, .long m_g, .long m_a, .ref 1012, .ref 1013, .ref 1014, .int m_curveMany, .ref 1015, .int m_cornerMany, .int m_straightAt, .ref 1016, .long m_fitUp, .long m_fitDown, .long m_worstUp, .long m_worstDown, .ref 1017, .int m_walkLink, .int m_walkAngle, .int m_walkBranch, .int m_walkMany, .ref 1018, .ref 1019, .int m_lined, .ref 1020, .int m_actMany], z1, z2, ia 700 q3, z4, z5, z6, z7, z8, z9, z10, z11, z12, z13, z14, z15, z16, z17, z18, z19, z20])) dX11_goesOn_194 fl_X11_140 rfl (Nat.le_of_ble_eq_true rfl) (fun _ => ⟨rfl, rfl⟩) rfl ?_
          refine ab_aload_n dX11_goesOn_197 rfl ?_
          refine ab_dup rfl dX11_goesOn_198 ?_
          refine ab_getf dX11_goesOn_199 fl_X11_128 rfl rfl ?_
          refine ab_iconst (v := 1) dX11_goesOn_202 (by decide) ?_
          refine ab_iadd dX11_goesOn_203 ?_
          refine ab_topi (v := (nI ((a + k) + 1))) (nI_1 _) ?_
          refine ab_putf (w1 := (wc, [ob 9 [.int m_thrown, .int m_trouble, .int m_fault, .int m_where, .ref 1001, .ref 1002, .int 40, .ref 1003, .int m_taped, .int m_linkMany, .int m_tracerMany, .int m_pointMany, .int m_pairMany, .ref 1004, .ref 1005, .ref 1006, .ref 1007, .int m_readLinks, .int m_readTracers, .int m_readPoints, .int m_readPairs, .ref 1008, .ref 1009, .ref 1010, .ref 1011, .int (nI n), .int (nI a), .int (nI ((a + k) + 1)), .int m_token, .int (nI (vl u a (m3 k))), .int m_readFault, .int m_readPlace, .int m_value, .long m_n, .long m_c, .long m_d, .long m_s, .long m_e, .long m_k, .long m_x, .long m_y, .long m_g, .long m_a, .ref 1012, .ref 1013, .ref 1014, .int m_curveMany, .ref 1015, .int m_cornerMany, .int m_straightAt, .ref 1016, .long m_fitUp, .long m_fitDown, .long m_worstUp, .long m_worstDown, .ref 1017, .int m_walkLink, .int m_walkAngle, .int m_walkBranch, .int m_walkMany, .ref 1018, .ref 1019, .int m_lined, .ref 1020, .int m_actMany], z1, z2, ia 700 q3, z4, z5, z6, z7, z8, z9, z10, z11, z12, z13, z14, z15, z16, z17, z18, z19, z20])) dX11_goesOn_204 fl_X11_128 rfl (Nat.le_of_ble_eq_true rfl) (fun _ => ⟨rfl, rfl⟩) rfl ?_
          refine ab_goto 136 dX11_goesOn_207 (by decide) ?_
          rw [m3_s2 (by omega)]
          refine ab_pick [0, 1] rfl ?_
          exact ih (k + 1) (by omega) (by omega) (hd.trans (run_t (by omega) ((isD_m (by omega)).mp c_3)))
        · have h_6n : ¬ _ := fun z => h_6 ((nI_leI (a := 3) (b := ((a + k) - a)) (by omega) (by omega)).mpr z)
          refine ab_bipush (v := 10) dX11_goesOn_168 (by decide) ?_
          refine ab_aload_n dX11_goesOn_170 rfl ?_
          refine ab_getf dX11_goesOn_171 fl_X11_140 rfl rfl ?_
          refine ab_imul dX11_goesOn_174 ?_
          refine ab_topi (v := (nI (10 * (vl u a (m3 k))))) (pk_mul 10 _) ?_
          refine ab_aload_n dX11_goesOn_175 rfl ?_
          refine ab_aload_n dX11_goesOn_176 rfl ?_
          refine ab_getf dX11_goesOn_177 fl_X11_128 rfl rfl ?_
          refine ab_callV (As := [.int (nI (a + k))]) (rest := [.int (nI (10 * (vl u a (m3 k)))), .ref 1000]) dX11_goesOn_180 mv_X11_see ml_X11_131 ⟨by decide, by decide, rfl, rfl, rfl⟩ (by decide) rfl rfl (Nat.le_of_ble_eq_true rfl) rfl (c_X11_see (n := n) (k := (a + k)) h_n (by assumption) (by omega)) ?_
          rintro r w' (⟨c_7, rfl, rfl⟩ | ⟨c_8, rfl, rfl⟩)
          · refine ab_iadd dX11_goesOn_183 ?_
            refine ab_topi (v := (nI ((10 * (vl u a (m3 k))) + (u (a + k))))) (nI_add _ _) ?_
            refine ab_bipush (v := 48) dX11_goesOn_184 (by decide) ?_
            refine ab_isub dX11_goesOn_186 ?_
            refine ab_topi (v := (nI (((10 * (vl u a (m3 k))) + (u (a + k))) - 48))) (pk_sub (b := 48) (by omega)) ?_
            refine ab_goto 194 dX11_goesOn_187 (by decide) ?_
            refine ab_putf (w1 := (wc, [ob 9 [.int m_thrown, .int m_trouble, .int m_fault, .int m_where, .ref 1001, .ref 1002, .int 40, .ref 1003, .int m_taped, .int m_linkMany, .int m_tracerMany, .int m_pointMany, .int m_pairMany, .ref 1004, .ref 1005, .ref 1006, .ref 1007, .int m_readLinks, .int m_readTracers, .int m_readPoints, .int m_readPairs, .ref 1008, .ref 1009, .ref 1010, .ref 1011, .int (nI n), .int (nI a), .int (nI (a + k)), .int m_token, .int (nI (((10 * (vl u a (m3 k))) + (u (a + k))) - 48)), .int m_readFault, .int m_readPlace, .int m_value, .long m_n, .long m_c, .long m_d, .long m_s, .long m_e, .long m_k, .long m_x, .long m_y, .long m_g, .long m_a, .ref 1012, .ref 1013, .ref 1014, .int m_curveMany, .ref 1015, .int m_cornerMany, .int m_straightAt, .ref 1016, .long m_fitUp, .long m_fitDown, .long m_worstUp, .long m_worstDown, .ref 1017, .int m_walkLink, .int m_walkAngle, .int m_walkBranch, .int m_walkMany, .ref 1018, .ref 1019, .int m_lined, .ref 1020, .int m_actMany], z1, z2, ia 700 q3, z4, z5, z6, z7, z8, z9, z10, z11, z12, z13, z14, z15, z16, z17, z18, z19, z20])) dX11_goesOn_194 fl_X11_140 rfl (Nat.le_of_ble_eq_true rfl) (fun _ => ⟨rfl, rfl⟩) rfl ?_
            refine ab_aload_n dX11_goesOn_197 rfl ?_
            refine ab_dup rfl dX11_goesOn_198 ?_
            refine ab_getf dX11_goesOn_199 fl_X11_128 rfl rfl ?_
            refine ab_iconst (v := 1) dX11_goesOn_202 (by decide) ?_
            refine ab_iadd dX11_goesOn_203 ?_
            refine ab_topi (v := (nI ((a + k) + 1))) (nI_1 _) ?_
            refine ab_putf (w1 := (wc, [ob 9 [.int m_thrown, .int m_trouble, .int m_fault, .int m_where, .ref 1001, .ref 1002, .int 40, .ref 1003, .int m_taped, .int m_linkMany, .int m_tracerMany, .int m_pointMany, .int m_pairMany, .ref 1004, .ref 1005, .ref 1006, .ref 1007, .int m_readLinks, .int m_readTracers, .int m_readPoints, .int m_readPairs, .ref 1008, .ref 1009, .ref 1010, .ref 1011, .int (nI n), .int (nI a), .int (nI ((a + k) + 1)), .int m_token, .int (nI (((10 * (vl u a (m3 k))) + (u (a + k))) - 48)), .int m_readFault, .int m_readPlace, .int m_value, .long m_n, .long m_c, .long m_d, .long m_s, .long m_e, .long m_k, .long m_x, .long m_y, .long m_g, .long m_a, .ref 1012, .ref 1013, .ref 1014, .int m_curveMany, .ref 1015, .int m_cornerMany, .int m_straightAt, .ref 1016, .long m_fitUp, .long m_fitDown, .long m_worstUp, .long m_worstDown, .ref 1017, .int m_walkLink, .int m_walkAngle, .int m_walkBranch, .int m_walkMany, .ref 1018, .ref 1019, .int m_lined, .ref 1020, .int m_actMany], z1, z2, ia 700 q3, z4, z5, z6, z7, z8, z9, z10, z11, z12, z13, z14, z15, z16, z17, z18, z19, z20])) dX11_goesOn_204 fl_X11_128 rfl (Nat.le_of_ble_eq_true rfl) (fun _ => ⟨rfl, rfl⟩) rfl ?_
            refine ab_goto 136 dX11_goesOn_207 (by decide) ?_
            rw [m3_s1 (by omega) hdg.1]
            refine ab_pick [0, 1] rfl ?_
            exact ih (k + 1) (by omega) (by omega) (hd.trans (run_t (by omega) ((isD_m (by omega)).mp c_3)))
          · exact absurd c_1.1 c_8
      · refine ab_ifeq 210 dX11_goesOn_151 (by decide) (fun h_9 => ?_) (fun h_9 => absurd (by decide) h_9)
        exact hx k (hd.trans (run_f (fun z => c_4 ((isD_m (by omega)).mpr z.2)))) hak
    · refine ab_bipush (v := 48) dX11_goesOn_144 (by decide) ?_
      refine ab_bipush (v := 57) dX11_goesOn_146 (by decide) ?_
      refine ab_callS (As := [.int (-1), .int 48, .int 57]) (rest := []) dX11_goesOn_148 ms_X11_in ml_X11_107 ⟨by decide, by decide, rfl, rfl, rfl⟩ (by decide) rfl rfl (Nat.le_of_ble_eq_true rfl) c_X11_in ?_
      rintro r w' (⟨c_10, rfl, rfl⟩ | ⟨c_11, rfl, rfl⟩)
      · exact absurd c_10 (by decide)
      · refine ab_ifeq 210 dX11_goesOn_151 (by decide) (fun h_12 => ?_) (fun h_12 => absurd (by decide) h_12)
        exact hx k (hd.trans (run_f (fun z => absurd z.1 (by omega)))) hak
theorem c_X11_goesOn {wc : List ax_E} {m_thrown m_trouble m_fault m_where m_taped m_linkMany m_tracerMany m_pointMany m_pairMany m_readLinks m_readTracers m_readPoints m_readPairs m_at m_token m_whole m_readFault m_readPlace m_value m_curveMany m_cornerMany m_straightAt m_walkLink m_walkAngle m_walkBranch m_walkMany m_lined m_actMany : Int32} {m_n m_c m_d m_s m_e m_k m_x m_y m_g m_a m_fitUp m_fitDown m_worstUp m_worstDown : Int64} {z1 z2 z4 z5 z6 z7 z8 z9 z10 z11 z12 z13 z14 z15 z16 z17 z18 z19 z20 : ax_E} {q3 : Nat → Int32} {u : Nat → Nat} {n q : Nat} (h_n : n ≤ 700) (h_v : ∀ k, k < n → u k < 256 ∧ q3 k = nI (u k)) (h_q : q ≤ n) : Ct M_X11_goesOn [.ref 1000] (wc, [ob 9 [.int m_thrown, .int m_trouble, .int m_fault, .int m_where, .ref 1001, .ref 1002, .int 40, .ref 1003, .int m_taped, .int m_linkMany, .int m_tracerMany, .int m_pointMany, .int m_pairMany, .ref 1004, .ref 1005, .ref 1006, .ref 1007, .int m_readLinks, .int m_readTracers, .int m_readPoints, .int m_readPairs, .ref 1008, .ref 1009, .ref 1010, .ref 1011, .int (nI n), .int m_at, .int (nI q), .int m_token, .int m_whole, .int m_readFault, .int m_readPlace, .int m_value, .long m_n, .long m_c, .long m_d, .long m_s, .long m_e, .long m_k, .long m_x, .long m_y, .long m_g, .long m_a, .ref 1012, .ref 1013, .ref 1014, .int m_curveMany, .ref 1015, .int m_cornerMany, .int m_straightAt, .ref 1016, .long m_fitUp, .long m_fitDown, .long m_worstUp, .long m_worstDown, .ref 1017, .int m_walkLink, .int m_walkAngle, .int m_walkBranch, .int m_walkMany, .ref 1018, .ref 1019, .int m_lined, .ref 1020, .int m_actMany], z1, z2, ia 700 q3, z4, z5, z6, z7, z8, z9, z10, z11, z12, z13, z14, z15, z16, z17, z18, z19, z20]) (fun r w' => ∃ gw : Int32, (tk u n (sk u n q) = 3 → gw = nI (vl u (sk u n q) (dE u n (sk u n q) - sk u n q))) ∧ r = none ∧ w' = (wc, [ob 9 [.int m_thrown, .int m_trouble, .int m_fault, .int m_where, .ref 1001, .ref 1002, .int 40, .ref 1003, .int m_taped, .int m_linkMany, .int m_tracerMany, .int m_pointMany, .int m_pairMany, .ref 1004, .ref 1005, .ref 1006, .ref 1007, .int m_readLinks, .int m_readTracers, .int m_readPoints, .int m_readPairs, .ref 1008, .ref 1009, .ref 1010, .ref 1011, .int (nI n), .int (nI (sk u n q)), .int (nI (tE u n (sk u n q))), .int (tk u n (sk u n q)), .int gw, .int m_readFault, .int m_readPlace, .int m_value, .long m_n, .long m_c, .long m_d, .long m_s, .long m_e, .long m_k, .long m_x, .long m_y, .long m_g, .long m_a, .ref 1012, .ref 1013, .ref 1014, .int m_curveMany, .ref 1015, .int m_cornerMany, .int m_straightAt, .ref 1016, .long m_fitUp, .long m_fitDown, .long m_worstUp, .long m_worstDown, .ref 1017, .int m_walkLink, .int m_walkAngle, .int m_walkBranch, .int m_walkMany, .ref 1018, .ref 1019, .int m_lined, .ref 1020, .int m_actMany], z1, z2, ia 700 q3, z4, z5, z6, z7, z8, z9, z10, z11, z12, z13, z14, z15, z16, z17, z18, z19, z20])) := by
  refine ct_of ⟨by decide, rfl⟩ (Nat.le_of_ble_eq_true rfl) ?_
  have hsk := sk_le (u := u) h_q
  refine lp_goA h_n h_v (n - q) q rfl h_q ?_
  refine ab_aload_n dX11_goesOn_26 rfl ?_
  refine ab_aload_n dX11_goesOn_27 rfl ?_
  refine ab_getf dX11_goesOn_28 fl_X11_128 rfl rfl ?_
  refine ab_putf (w1 := (wc, [ob 9 [.int m_thrown, .int m_trouble, .int m_fault, .int m_where, .ref 1001, .ref 1002, .int 40, .ref 1003, .int m_taped, .int m_linkMany, .int m_tracerMany, .int m_pointMany, .int m_pairMany, .ref 1004, .ref 1005, .ref 1006, .ref 1007, .int m_readLinks, .int m_readTracers, .int m_readPoints, .int m_readPairs, .ref 1008, .ref 1009, .ref 1010, .ref 1011, .int (nI n), .int (nI (sk u n q)), .int (nI (sk u n q)), .int m_token, .int m_whole, .int m_readFault, .int m_readPlace, .int m_value, .long m_n, .long m_c, .long m_d, .long m_s, .long m_e, .long m_k, .long m_x, .long m_y, .long m_g, .long m_a, .ref 1012, .ref 1013, .ref 1014, .int m_curveMany, .ref 1015, .int m_cornerMany, .int m_straightAt, .ref 1016, .long m_fitUp, .long m_fitDown, .long m_worstUp, .long m_worstDown, .ref 1017, .int m_walkLink, .int m_walkAngle, .int m_walkBranch, .int m_walkMany, .ref 1018, .ref 1019, .int m_lined, .ref 1020, .int m_actMany], z1, z2, ia 700 q3, z4, z5, z6, z7, z8, z9, z10, z11, z12, z13, z14, z15, z16, z17, z18, z19, z20])) dX11_goesOn_31 fl_X11_134 rfl (Nat.le_of_ble_eq_true rfl) (fun _ => ⟨rfl, rfl⟩) rfl ?_
  refine ab_aload_n dX11_goesOn_34 rfl ?_
  refine ab_aload_n dX11_goesOn_35 rfl ?_
  refine ab_getf dX11_goesOn_36 fl_X11_128 rfl rfl ?_
  refine ab_callV (As := [.int (nI (sk u n q))]) (rest := []) dX11_goesOn_39 mv_X11_see ml_X11_131 ⟨by decide, by decide, rfl, rfl, rfl⟩ (by decide) rfl rfl (Nat.le_of_ble_eq_true rfl) rfl (c_X11_see (n := n) (k := (sk u n q)) h_n (by assumption) (by omega)) ?_
  rintro r w' (⟨c_1, rfl, rfl⟩ | ⟨c_2, rfl, rfl⟩)
  · refine ab_istore_n (la' := [(1, .int (nI (u (sk u n q)))), (0, .ref 1000)]) dX11_goesOn_42 (by decide) rfl ?_
    refine ab_iload_n dX11_goesOn_43 rfl ?_
    refine ab_iconst (v := -1) dX11_goesOn_44 (by decide) ?_
    refine ab_icmpne 54 dX11_goesOn_45 (by decide) (fun h_3 => ?_) (fun h_3 => absurd h_3 (nI_nm1 (by omega)))
    refine ab_iload_n dX11_goesOn_54 rfl ?_
    refine ab_bipush (v := 97) dX11_goesOn_55 (by decide) ?_
    refine ab_bipush (v := 122) dX11_goesOn_57 (by decide) ?_
    refine ab_callS (As := [.int (nI (u (sk u n q))), .int 97, .int 122]) (rest := []) dX11_goesOn_59 ms_X11_in ml_X11_107 ⟨by decide, by decide, rfl, rfl, rfl⟩ (by decide) rfl rfl (Nat.le_of_ble_eq_true rfl) c_X11_in ?_
    rintro r w' (⟨c_4, rfl, rfl⟩ | ⟨c_5, rfl, rfl⟩)
    · refine ab_ifeq 120 dX11_goesOn_62 (by decide) (fun h_6 => absurd h_6 (by decide)) (fun h_6 => ?_)
      refine ab_pick [0, 1] rfl ?_
      have hl1 := lE_ge (u := u) (n := n) (a := (sk u n q))
      have hl2 := lE_le (u := u) (n := n) (a := (sk u n q)) hsk
      refine lp_goB h_n h_v _ (sk u n q) rfl hsk ?_
      refine ab_aload_n dX11_goesOn_96 rfl ?_
      refine ab_aload_n dX11_goesOn_97 rfl ?_
      refine ab_getf dX11_goesOn_98 fl_X11_128 rfl rfl ?_
      refine ab_aload_n dX11_goesOn_101 rfl ?_
      refine ab_getf dX11_goesOn_102 fl_X11_134 rfl rfl ?_
      refine ab_isub dX11_goesOn_105 ?_
      refine ab_topi (v := (nI ((lE u n (sk u n q)) - (sk u n q)))) (pk_sub (by omega)) ?_
      refine ab_bipush (v := 7) dX11_goesOn_106 (by decide) ?_
      refine ab_icmple 115 dX11_goesOn_108 (by decide) (fun h_7 => ?_) (fun h_7 => ?_)
      · have h_7n := (nI_leI (a := ((lE u n (sk u n q)) - (sk u n q))) (b := 7) (by omega) (by omega)).mp h_7
        refine ab_iconst (v := 2) dX11_goesOn_115 (by decide) ?_
        refine ab_putf (w1 := (wc, [ob 9 [.int m_thrown, .int m_trouble, .int m_fault, .int m_where, .ref 1001, .ref 1002, .int 40, .ref 1003, .int m_taped, .int m_linkMany, .int m_tracerMany, .int m_pointMany, .int m_pairMany, .ref 1004, .ref 1005, .ref 1006, .ref 1007, .int m_readLinks, .int m_readTracers, .int m_readPoints, .int m_readPairs, .ref 1008, .ref 1009, .ref 1010, .ref 1011, .int (nI n), .int (nI (sk u n q)), .int (nI (lE u n (sk u n q))), .int 2, .int m_whole, .int m_readFault, .int m_readPlace, .int m_value, .long m_n, .long m_c, .long m_d, .long m_s, .long m_e, .long m_k, .long m_x, .long m_y, .long m_g, .long m_a, .ref 1012, .ref 1013, .ref 1014, .int m_curveMany, .ref 1015, .int m_cornerMany, .int m_straightAt, .ref 1016, .long m_fitUp, .long m_fitDown, .long m_worstUp, .long m_worstDown, .ref 1017, .int m_walkLink, .int m_walkAngle, .int m_walkBranch, .int m_walkMany, .ref 1018, .ref 1019, .int m_lined, .ref 1020, .int m_actMany], z1, z2, ia 700 q3, z4, z5, z6, z7, z8, z9, z10, z11, z12, z13, z14, z15, z16, z17, z18, z19, z20])) dX11_goesOn_116 fl_X11_137 rfl (Nat.le_of_ble_eq_true rfl) (fun _ => ⟨rfl, rfl⟩) rfl ?_
        exact ab_vret dX11_goesOn_119 rfl (by decide) (⟨m_whole, fun z => absurd ((show tk u n (sk u n q) = 2 by unfold tk; rw [if_pos (by omega), if_pos ((isL_m (by omega)).mp c_4), if_neg (by omega)]).symm.trans z) (by decide), rfl, by rw [(show tE u n (sk u n q) = lE u n (sk u n q) by unfold tE; rw [if_pos (by omega), if_pos ((isL_m (by omega)).mp c_4)]), (show tk u n (sk u n q) = 2 by unfold tk; rw [if_pos (by omega), if_pos ((isL_m (by omega)).mp c_4), if_neg (by omega)])]⟩)
      · have h_7n : ¬ _ := fun z => h_7 ((nI_leI (a := ((lE u n (sk u n q)) - (sk u n q))) (b := 7) (by omega) (by omega)).mpr z)
        refine ab_iconst (v := 1) dX11_goesOn_111 (by decide) ?_
        refine ab_goto 116 dX11_goesOn_112 (by decide) ?_
        refine ab_putf (w1 := (wc, [ob 9 [.int m_thrown, .int m_trouble, .int m_fault, .int m_where, .ref 1001, .ref 1002, .int 40, .ref 1003, .int m_taped, .int m_linkMany, .int m_tracerMany, .int m_pointMany, .int m_pairMany, .ref 1004, .ref 1005, .ref 1006, .ref 1007, .int m_readLinks, .int m_readTracers, .int m_readPoints, .int m_readPairs, .ref 1008, .ref 1009, .ref 1010, .ref 1011, .int (nI n), .int (nI (sk u n q)), .int (nI (lE u n (sk u n q))), .int 1, .int m_whole, .int m_readFault, .int m_readPlace, .int m_value, .long m_n, .long m_c, .long m_d, .long m_s, .long m_e, .long m_k, .long m_x, .long m_y, .long m_g, .long m_a, .ref 1012, .ref 1013, .ref 1014, .int m_curveMany, .ref 1015, .int m_cornerMany, .int m_straightAt, .ref 1016, .long m_fitUp, .long m_fitDown, .long m_worstUp, .long m_worstDown, .ref 1017, .int m_walkLink, .int m_walkAngle, .int m_walkBranch, .int m_walkMany, .ref 1018, .ref 1019, .int m_lined, .ref 1020, .int m_actMany], z1, z2, ia 700 q3, z4, z5, z6, z7, z8, z9, z10, z11, z12, z13, z14, z15, z16, z17, z18, z19, z20])) dX11_goesOn_116 fl_X11_137 rfl (Nat.le_of_ble_eq_true rfl) (fun _ => ⟨rfl, rfl⟩) rfl ?_
        exact ab_vret dX11_goesOn_119 rfl (by decide) (⟨m_whole, fun z => absurd ((show tk u n (sk u n q) = 1 by unfold tk; rw [if_pos (by omega), if_pos ((isL_m (by omega)).mp c_4), if_pos (by omega)]).symm.trans z) (by decide), rfl, by rw [(show tE u n (sk u n q) = lE u n (sk u n q) by unfold tE; rw [if_pos (by omega), if_pos ((isL_m (by omega)).mp c_4)]), (show tk u n (sk u n q) = 1 by unfold tk; rw [if_pos (by omega), if_pos ((isL_m (by omega)).mp c_4), if_pos (by omega)])]⟩)
    · refine ab_ifeq 120 dX11_goesOn_62 (by decide) (fun h_8 => ?_) (fun h_8 => absurd (by decide) h_8)
      refine ab_iload_n dX11_goesOn_120 rfl ?_
      refine ab_bipush (v := 48) dX11_goesOn_121 (by decide) ?_
      refine ab_bipush (v := 57) dX11_goesOn_123 (by decide) ?_
      refine ab_callS (As := [.int (nI (u (sk u n q))), .int 48, .int 57]) (rest := []) dX11_goesOn_125 ms_X11_in ml_X11_107 ⟨by decide, by decide, rfl, rfl, rfl⟩ (by decide) rfl rfl (Nat.le_of_ble_eq_true rfl) c_X11_in ?_
      rintro r w' (⟨c_9, rfl, rfl⟩ | ⟨c_10, rfl, rfl⟩)
      · refine ab_ifeq 233 dX11_goesOn_128 (by decide) (fun h_11 => absurd h_11 (by decide)) (fun h_11 => ?_)
        refine ab_aload_n dX11_goesOn_131 rfl ?_
        refine ab_iconst (v := 0) dX11_goesOn_132 (by decide) ?_
        refine ab_putf (w1 := (wc, [ob 9 [.int m_thrown, .int m_trouble, .int m_fault, .int m_where, .ref 1001, .ref 1002, .int 40, .ref 1003, .int m_taped, .int m_linkMany, .int m_tracerMany, .int m_pointMany, .int m_pairMany, .ref 1004, .ref 1005, .ref 1006, .ref 1007, .int m_readLinks, .int m_readTracers, .int m_readPoints, .int m_readPairs, .ref 1008, .ref 1009, .ref 1010, .ref 1011, .int (nI n), .int (nI (sk u n q)), .int (nI (sk u n q)), .int m_token, .int 0, .int m_readFault, .int m_readPlace, .int m_value, .long m_n, .long m_c, .long m_d, .long m_s, .long m_e, .long m_k, .long m_x, .long m_y, .long m_g, .long m_a, .ref 1012, .ref 1013, .ref 1014, .int m_curveMany, .ref 1015, .int m_cornerMany, .int m_straightAt, .ref 1016, .long m_fitUp, .long m_fitDown, .long m_worstUp, .long m_worstDown, .ref 1017, .int m_walkLink, .int m_walkAngle, .int m_walkBranch, .int m_walkMany, .ref 1018, .ref 1019, .int m_lined, .ref 1020, .int m_actMany], z1, z2, ia 700 q3, z4, z5, z6, z7, z8, z9, z10, z11, z12, z13, z14, z15, z16, z17, z18, z19, z20])) dX11_goesOn_133 fl_X11_140 rfl (Nat.le_of_ble_eq_true rfl) (fun _ => ⟨rfl, rfl⟩) rfl ?_
        refine ab_pick [0, 1] rfl ?_
        refine ab_world (wc, [ob 9 [.int m_thrown, .int m_trouble, .int m_fault, .int m_where, .ref 1001, .ref 1002, .int 40, .ref 1003, .int m_taped, .int m_linkMany, .int m_tracerMany, .int m_pointMany, .int m_pairMany, .ref 1004, .ref 1005, .ref 1006, .ref 1007, .int m_readLinks, .int m_readTracers, .int m_readPoints, .int m_readPairs, .ref 1008, .ref 1009, .ref 1010, .ref 1011, .int (nI n), .int (nI (sk u n q)), .int (nI ((sk u n q) + 0)), .int m_token, .int (nI (vl u (sk u n q) (m3 0))), .int m_readFault, .int m_readPlace, .int m_value, .long m_n, .long m_c, .long m_d, .long m_s, .long m_e, .long m_k, .long m_x, .long m_y, .long m_g, .long m_a, .ref 1012, .ref 1013, .ref 1014, .int m_curveMany, .ref 1015, .int m_cornerMany, .int m_straightAt, .ref 1016, .long m_fitUp, .long m_fitDown, .long m_worstUp, .long m_worstDown, .ref 1017, .int m_walkLink, .int m_walkAngle, .int m_walkBranch, .int m_walkMany, .ref 1018, .ref 1019, .int m_lined, .ref 1020, .int m_actMany], z1, z2, ia 700 q3, z4, z5, z6, z7, z8, z9, z10, z11, z12, z13, z14, z15, z16, z17, z18, z19, z20]) rfl ?_
        refine lp_goC (a := (sk u n q)) h_n h_v (fun k hk hak => ?_) _ 0 rfl hsk rfl
        refine ab_aload_n dX11_goesOn_210 rfl ?_
        refine ab_aload_n dX11_goesOn_211 rfl ?_
        refine ab_getf dX11_goesOn_212 fl_X11_128 rfl rfl ?_
        refine ab_aload_n dX11_goesOn_215 rfl ?_
        refine ab_getf dX11_goesOn_216 fl_X11_134 rfl rfl ?_
        refine ab_isub dX11_goesOn_219 ?_
        refine ab_topi (v := (nI (((sk u n q) + k) - (sk u n q)))) (pk_sub (by omega)) ?_
        refine ab_iconst (v := 3) dX11_goesOn_220 (by decide) ?_
        refine ab_icmple 228 dX11_goesOn_221 (by decide) (fun h_12 => ?_) (fun h_12 => ?_)
        · have h_12n := (nI_leI (a := (((sk u n q) + k) - (sk u n q))) (b := 3) (by omega) (by omega)).mp h_12
          refine ab_iconst (v := 3) dX11_goesOn_228 (by decide) ?_
          refine ab_putf (w1 := (wc, [ob 9 [.int m_thrown, .int m_trouble, .int m_fault, .int m_where, .ref 1001, .ref 1002, .int 40, .ref 1003, .int m_taped, .int m_linkMany, .int m_tracerMany, .int m_pointMany, .int m_pairMany, .ref 1004, .ref 1005, .ref 1006, .ref 1007, .int m_readLinks, .int m_readTracers, .int m_readPoints, .int m_readPairs, .ref 1008, .ref 1009, .ref 1010, .ref 1011, .int (nI n), .int (nI (sk u n q)), .int (nI ((sk u n q) + k)), .int 3, .int (nI (vl u (sk u n q) (m3 k))), .int m_readFault, .int m_readPlace, .int m_value, .long m_n, .long m_c, .long m_d, .long m_s, .long m_e, .long m_k, .long m_x, .long m_y, .long m_g, .long m_a, .ref 1012, .ref 1013, .ref 1014, .int m_curveMany, .ref 1015, .int m_cornerMany, .int m_straightAt, .ref 1016, .long m_fitUp, .long m_fitDown, .long m_worstUp, .long m_worstDown, .ref 1017, .int m_walkLink, .int m_walkAngle, .int m_walkBranch, .int m_walkMany, .ref 1018, .ref 1019, .int m_lined, .ref 1020, .int m_actMany], z1, z2, ia 700 q3, z4, z5, z6, z7, z8, z9, z10, z11, z12, z13, z14, z15, z16, z17, z18, z19, z20])) dX11_goesOn_229 fl_X11_137 rfl (Nat.le_of_ble_eq_true rfl) (fun _ => ⟨rfl, rfl⟩) rfl ?_
          exact ab_vret dX11_goesOn_232 rfl (by decide) (⟨(nI (vl u (sk u n q) (m3 k))), fun _ => by rw [hk, Nat.add_sub_cancel_left, m3_le (by omega)], rfl, by rw [(show tE u n (sk u n q) = (sk u n q) + k by unfold tE; rw [if_pos (by omega), if_neg (fun z => c_5 ((isL_m (by omega)).mpr z)), if_pos ((isD_m (by omega)).mp c_9), hk]), (show tk u n (sk u n q) = 3 by unfold tk; rw [if_pos (by omega), if_neg (fun z => c_5 ((isL_m (by omega)).mpr z)), if_pos ((isD_m (by omega)).mp c_9), hk, if_neg (by omega)])]⟩)
        · have h_12n : ¬ _ := fun z => h_12 ((nI_leI (a := (((sk u n q) + k) - (sk u n q))) (b := 3) (by omega) (by omega)).mpr z)
          refine ab_iconst (v := 1) dX11_goesOn_224 (by decide) ?_
          refine ab_goto 229 dX11_goesOn_225 (by decide) ?_
          refine ab_putf (w1 := (wc, [ob 9 [.int m_thrown, .int m_trouble, .int m_fault, .int m_where, .ref 1001, .ref 1002, .int 40, .ref 1003, .int m_taped, .int m_linkMany, .int m_tracerMany, .int m_pointMany, .int m_pairMany, .ref 1004, .ref 1005, .ref 1006, .ref 1007, .int m_readLinks, .int m_readTracers, .int m_readPoints, .int m_readPairs, .ref 1008, .ref 1009, .ref 1010, .ref 1011, .int (nI n), .int (nI (sk u n q)), .int (nI ((sk u n q) + k)), .int 1, .int (nI (vl u (sk u n q) (m3 k))), .int m_readFault, .int m_readPlace, .int m_value, .long m_n, .long m_c, .long m_d, .long m_s, .long m_e, .long m_k, .long m_x, .long m_y, .long m_g, .long m_a, .ref 1012, .ref 1013, .ref 1014, .int m_curveMany, .ref 1015, .int m_cornerMany, .int m_straightAt, .ref 1016, .long m_fitUp, .long m_fitDown, .long m_worstUp, .long m_worstDown, .ref 1017, .int m_walkLink, .int m_walkAngle, .int m_walkBranch, .int m_walkMany, .ref 1018, .ref 1019, .int m_lined, .ref 1020, .int m_actMany], z1, z2, ia 700 q3, z4, z5, z6, z7, z8, z9, z10, z11, z12, z13, z14, z15, z16, z17, z18, z19, z20])) dX11_goesOn_229 fl_X11_137 rfl (Nat.le_of_ble_eq_true rfl) (fun _ => ⟨rfl, rfl⟩) rfl ?_
          exact ab_vret dX11_goesOn_232 rfl (by decide) (⟨(nI (vl u (sk u n q) (m3 k))), fun z => absurd ((show tk u n (sk u n q) = 1 by unfold tk; rw [if_pos (by omega), if_neg (fun z => c_5 ((isL_m (by omega)).mpr z)), if_pos ((isD_m (by omega)).mp c_9), hk, if_pos (by omega)]).symm.trans z) (by decide), rfl, by rw [(show tE u n (sk u n q) = (sk u n q) + k by unfold tE; rw [if_pos (by omega), if_neg (fun z => c_5 ((isL_m (by omega)).mpr z)), if_pos ((isD_m (by omega)).mp c_9), hk]), (show tk u n (sk u n q) = 1 by unfold tk; rw [if_pos (by omega), if_neg (fun z => c_5 ((isL_m (by omega)).mpr z)), if_pos ((isD_m (by omega)).mp c_9), hk, if_pos (by omega)])]⟩)
      · refine ab_ifeq 233 dX11_goesOn_128 (by decide) (fun h_13 => ?_) (fun h_13 => absurd (by decide) h_13)
        refine ab_aload_n dX11_goesOn_233 rfl ?_
        refine ab_dup rfl dX11_goesOn_234 ?_
        refine ab_getf dX11_goesOn_235 fl_X11_128 rfl rfl ?_
        refine ab_iconst (v := 1) dX11_goesOn_238 (by decide) ?_
        refine ab_iadd dX11_goesOn_239 ?_
        refine ab_topi (v := (nI ((sk u n q) + 1))) (nI_1 _) ?_
        refine ab_putf (w1 := (wc, [ob 9 [.int m_thrown, .int m_trouble, .int m_fault, .int m_where, .ref 1001, .ref 1002, .int 40, .ref 1003, .int m_taped, .int m_linkMany, .int m_tracerMany, .int m_pointMany, .int m_pairMany, .ref 1004, .ref 1005, .ref 1006, .ref 1007, .int m_readLinks, .int m_readTracers, .int m_readPoints, .int m_readPairs, .ref 1008, .ref 1009, .ref 1010, .ref 1011, .int (nI n), .int (nI (sk u n q)), .int (nI ((sk u n q) + 1)), .int m_token, .int m_whole, .int m_readFault, .int m_readPlace, .int m_value, .long m_n, .long m_c, .long m_d, .long m_s, .long m_e, .long m_k, .long m_x, .long m_y, .long m_g, .long m_a, .ref 1012, .ref 1013, .ref 1014, .int m_curveMany, .ref 1015, .int m_cornerMany, .int m_straightAt, .ref 1016, .long m_fitUp, .long m_fitDown, .long m_worstUp, .long m_worstDown, .ref 1017, .int m_walkLink, .int m_walkAngle, .int m_walkBranch, .int m_walkMany, .ref 1018, .ref 1019, .int m_lined, .ref 1020, .int m_actMany], z1, z2, ia 700 q3, z4, z5, z6, z7, z8, z9, z10, z11, z12, z13, z14, z15, z16, z17, z18, z19, z20])) dX11_goesOn_240 fl_X11_128 rfl (Nat.le_of_ble_eq_true rfl) (fun _ => ⟨rfl, rfl⟩) rfl ?_
        refine ab_aload_n dX11_goesOn_243 rfl ?_
        refine ab_iload_n dX11_goesOn_244 rfl ?_
        refine ab_bipush (v := 59) dX11_goesOn_245 (by decide) ?_
        refine ab_icmpeq 256 dX11_goesOn_247 (by decide) (fun h_14 => ?_) (fun h_14 => ?_)
        · have h_14n := (nI_eq (a := (u (sk u n q))) (b := 59) (by omega) (by omega)).mp h_14
          refine ab_iload_n dX11_goesOn_256 rfl ?_
          refine ab_goto 261 dX11_goesOn_257 (by decide) ?_
          refine ab_putf (w1 := (wc, [ob 9 [.int m_thrown, .int m_trouble, .int m_fault, .int m_where, .ref 1001, .ref 1002, .int 40, .ref 1003, .int m_taped, .int m_linkMany, .int m_tracerMany, .int m_pointMany, .int m_pairMany, .ref 1004, .ref 1005, .ref 1006, .ref 1007, .int m_readLinks, .int m_readTracers, .int m_readPoints, .int m_readPairs, .ref 1008, .ref 1009, .ref 1010, .ref 1011, .int (nI n), .int (nI (sk u n q)), .int (nI ((sk u n q) + 1)), .int (nI (u (sk u n q))), .int m_whole, .int m_readFault, .int m_readPlace, .int m_value, .long m_n, .long m_c, .long m_d, .long m_s, .long m_e, .long m_k, .long m_x, .long m_y, .long m_g, .long m_a, .ref 1012, .ref 1013, .ref 1014, .int m_curveMany, .ref 1015, .int m_cornerMany, .int m_straightAt, .ref 1016, .long m_fitUp, .long m_fitDown, .long m_worstUp, .long m_worstDown, .ref 1017, .int m_walkLink, .int m_walkAngle, .int m_walkBranch, .int m_walkMany, .ref 1018, .ref 1019, .int m_lined, .ref 1020, .int m_actMany], z1, z2, ia 700 q3, z4, z5, z6, z7, z8, z9, z10, z11, z12, z13, z14, z15, z16, z17, z18, z19, z20])) dX11_goesOn_261 fl_X11_137 rfl (Nat.le_of_ble_eq_true rfl) (fun _ => ⟨rfl, rfl⟩) rfl ?_
          exact ab_vret dX11_goesOn_264 rfl (by decide) (⟨m_whole, fun z => absurd (h_14.symm.trans ((show tk u n (sk u n q) = (nI (u (sk u n q))) by unfold tk; rw [if_pos (by omega), if_neg (fun z => c_5 ((isL_m (by omega)).mpr z)), if_neg (fun z => c_10 ((isD_m (by omega)).mpr z)), if_pos (Or.inl ((nI_c (c := 59) (by omega) (by decide)).mp h_14))]).symm.trans z)) (by decide), rfl, by rw [(show tE u n (sk u n q) = (sk u n q) + 1 by unfold tE; rw [if_pos (by omega), if_neg (fun z => c_5 ((isL_m (by omega)).mpr z)), if_neg (fun z => c_10 ((isD_m (by omega)).mpr z))]), (show tk u n (sk u n q) = (nI (u (sk u n q))) by unfold tk; rw [if_pos (by omega), if_neg (fun z => c_5 ((isL_m (by omega)).mpr z)), if_neg (fun z => c_10 ((isD_m (by omega)).mpr z)), if_pos (Or.inl ((nI_c (c := 59) (by omega) (by decide)).mp h_14))])]⟩)
        · have h_14n : ¬ _ := fun z => h_14 ((nI_eq (a := (u (sk u n q))) (b := 59) (by omega) (by omega)).mpr z)
          refine ab_iload_n dX11_goesOn_250 rfl ?_
          refine ab_bipush (v := 45) dX11_goesOn_251 (by decide) ?_
          refine ab_icmpne 260 dX11_goesOn_253 (by decide) (fun h_15 => ?_) (fun h_15 => ?_)
          · have h_15n : ¬ _ := fun z => h_15 ((nI_eq (a := (u (sk u n q))) (b := 45) (by omega) (by omega)).mpr z)
            refine ab_iconst (v := 1) dX11_goesOn_260 (by decide) ?_
            refine ab_putf (w1 := (wc, [ob 9 [.int m_thrown, .int m_trouble, .int m_fault, .int m_where, .ref 1001, .ref 1002, .int 40, .ref 1003, .int m_taped, .int m_linkMany, .int m_tracerMany, .int m_pointMany, .int m_pairMany, .ref 1004, .ref 1005, .ref 1006, .ref 1007, .int m_readLinks, .int m_readTracers, .int m_readPoints, .int m_readPairs, .ref 1008, .ref 1009, .ref 1010, .ref 1011, .int (nI n), .int (nI (sk u n q)), .int (nI ((sk u n q) + 1)), .int 1, .int m_whole, .int m_readFault, .int m_readPlace, .int m_value, .long m_n, .long m_c, .long m_d, .long m_s, .long m_e, .long m_k, .long m_x, .long m_y, .long m_g, .long m_a, .ref 1012, .ref 1013, .ref 1014, .int m_curveMany, .ref 1015, .int m_cornerMany, .int m_straightAt, .ref 1016, .long m_fitUp, .long m_fitDown, .long m_worstUp, .long m_worstDown, .ref 1017, .int m_walkLink, .int m_walkAngle, .int m_walkBranch, .int m_walkMany, .ref 1018, .ref 1019, .int m_lined, .ref 1020, .int m_actMany], z1, z2, ia 700 q3, z4, z5, z6, z7, z8, z9, z10, z11, z12, z13, z14, z15, z16, z17, z18, z19, z20])) dX11_goesOn_261 fl_X11_137 rfl (Nat.le_of_ble_eq_true rfl) (fun _ => ⟨rfl, rfl⟩) rfl ?_
            exact ab_vret dX11_goesOn_264 rfl (by decide) (⟨m_whole, fun z => absurd ((show tk u n (sk u n q) = 1 by unfold tk; rw [if_pos (by omega), if_neg (fun z => c_5 ((isL_m (by omega)).mpr z)), if_neg (fun z => c_10 ((isD_m (by omega)).mpr z)), if_neg (fun z => z.elim (fun y => h_14 ((nI_c (c := 59) (by omega) (by decide)).mpr y)) (fun y => h_15 ((nI_c (c := 45) (by omega) (by decide)).mpr y)))]).symm.trans z) (by decide), rfl, by rw [(show tE u n (sk u n q) = (sk u n q) + 1 by unfold tE; rw [if_pos (by omega), if_neg (fun z => c_5 ((isL_m (by omega)).mpr z)), if_neg (fun z => c_10 ((isD_m (by omega)).mpr z))]), (show tk u n (sk u n q) = 1 by unfold tk; rw [if_pos (by omega), if_neg (fun z => c_5 ((isL_m (by omega)).mpr z)), if_neg (fun z => c_10 ((isD_m (by omega)).mpr z)), if_neg (fun z => z.elim (fun y => h_14 ((nI_c (c := 59) (by omega) (by decide)).mpr y)) (fun y => h_15 ((nI_c (c := 45) (by omega) (by decide)).mpr y)))])]⟩)
          · have h_15n := (nI_eq (a := (u (sk u n q))) (b := 45) (by omega) (by omega)).mp h_15
            refine ab_iload_n dX11_goesOn_256 rfl ?_
            refine ab_goto 261 dX11_goesOn_257 (by decide) ?_
            refine ab_putf (w1 := (wc, [ob 9 [.int m_thrown, .int m_trouble, .int m_fault, .int m_where, .ref 1001, .ref 1002, .int 40, .ref 1003, .int m_taped, .int m_linkMany, .int m_tracerMany, .int m_pointMany, .int m_pairMany, .ref 1004, .ref 1005, .ref 1006, .ref 1007, .int m_readLinks, .int m_readTracers, .int m_readPoints, .int m_readPairs, .ref 1008, .ref 1009, .ref 1010, .ref 1011, .int (nI n), .int (nI (sk u n q)), .int (nI ((sk u n q) + 1)), .int (nI (u (sk u n q))), .int m_whole, .int m_readFault, .int m_readPlace, .int m_value, .long m_n, .long m_c, .long m_d, .long m_s, .long m_e, .long m_k, .long m_x, .long m_y, .long m_g, .long m_a, .ref 1012, .ref 1013, .ref 1014, .int m_curveMany, .ref 1015, .int m_cornerMany, .int m_straightAt, .ref 1016, .long m_fitUp, .long m_fitDown, .long m_worstUp, .long m_worstDown, .ref 1017, .int m_walkLink, .int m_walkAngle, .int m_walkBranch, .int m_walkMany, .ref 1018, .ref 1019, .int m_lined, .ref 1020, .int m_actMany], z1, z2, ia 700 q3, z4, z5, z6, z7, z8, z9, z10, z11, z12, z13, z14, z15, z16, z17, z18, z19, z20])) dX11_goesOn_261 fl_X11_137 rfl (Nat.le_of_ble_eq_true rfl) (fun _ => ⟨rfl, rfl⟩) rfl ?_
            exact ab_vret dX11_goesOn_264 rfl (by decide) (⟨m_whole, fun z => absurd (h_15.symm.trans ((show tk u n (sk u n q) = (nI (u (sk u n q))) by unfold tk; rw [if_pos (by omega), if_neg (fun z => c_5 ((isL_m (by omega)).mpr z)), if_neg (fun z => c_10 ((isD_m (by omega)).mpr z)), if_pos (Or.inr ((nI_c (c := 45) (by omega) (by decide)).mp h_15))]).symm.trans z)) (by decide), rfl, by rw [(show tE u n (sk u n q) = (sk u n q) + 1 by unfold tE; rw [if_pos (by omega), if_neg (fun z => c_5 ((isL_m (by omega)).mpr z)), if_neg (fun z => c_10 ((isD_m (by omega)).mpr z))]), (show tk u n (sk u n q) = (nI (u (sk u n q))) by unfold tk; rw [if_pos (by omega), if_neg (fun z => c_5 ((isL_m (by omega)).mpr z)), if_neg (fun z => c_10 ((isD_m (by omega)).mpr z)), if_pos (Or.inr ((nI_c (c := 45) (by omega) (by decide)).mp h_15))])]⟩)
  · refine ab_istore_n (la' := [(1, .int (-1)), (0, .ref 1000)]) dX11_goesOn_42 (by decide) rfl ?_
    refine ab_iload_n dX11_goesOn_43 rfl ?_
    refine ab_iconst (v := -1) dX11_goesOn_44 (by decide) ?_
    refine ab_icmpne 54 dX11_goesOn_45 (by decide) (fun h_16 => absurd (by decide) h_16) (fun h_16 => ?_)
    refine ab_aload_n dX11_goesOn_48 rfl ?_
    refine ab_iconst (v := 0) dX11_goesOn_49 (by decide) ?_
    refine ab_putf (w1 := (wc, [ob 9 [.int m_thrown, .int m_trouble, .int m_fault, .int m_where, .ref 1001, .ref 1002, .int 40, .ref 1003, .int m_taped, .int m_linkMany, .int m_tracerMany, .int m_pointMany, .int m_pairMany, .ref 1004, .ref 1005, .ref 1006, .ref 1007, .int m_readLinks, .int m_readTracers, .int m_readPoints, .int m_readPairs, .ref 1008, .ref 1009, .ref 1010, .ref 1011, .int (nI n), .int (nI (sk u n q)), .int (nI (sk u n q)), .int 0, .int m_whole, .int m_readFault, .int m_readPlace, .int m_value, .long m_n, .long m_c, .long m_d, .long m_s, .long m_e, .long m_k, .long m_x, .long m_y, .long m_g, .long m_a, .ref 1012, .ref 1013, .ref 1014, .int m_curveMany, .ref 1015, .int m_cornerMany, .int m_straightAt, .ref 1016, .long m_fitUp, .long m_fitDown, .long m_worstUp, .long m_worstDown, .ref 1017, .int m_walkLink, .int m_walkAngle, .int m_walkBranch, .int m_walkMany, .ref 1018, .ref 1019, .int m_lined, .ref 1020, .int m_actMany], z1, z2, ia 700 q3, z4, z5, z6, z7, z8, z9, z10, z11, z12, z13, z14, z15, z16, z17, z18, z19, z20])) dX11_goesOn_50 fl_X11_137 rfl (Nat.le_of_ble_eq_true rfl) (fun _ => ⟨rfl, rfl⟩) rfl ?_
    exact ab_vret dX11_goesOn_53 rfl (by decide) (⟨m_whole, fun z => absurd ((show tk u n (sk u n q) = 0 by unfold tk; rw [if_neg (by omega)]).symm.trans z) (by decide), rfl, by rw [(show tE u n (sk u n q) = (sk u n q) by unfold tE; rw [if_neg (by omega)]), (show tk u n (sk u n q) = 0 by unfold tk; rw [if_neg (by omega)])]⟩)
