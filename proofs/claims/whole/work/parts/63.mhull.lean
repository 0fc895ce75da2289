def lp_cb_st (q12 : Nat → Int32) (q13 : Nat → Int32) (f : Nat) (k : Nat) (s : Nat) : Nat := (if q12 k = q12 f ∧ q13 k = q13 f then s else (if (nI s) = (nI f) then k else (if (Cv_bend q12 q13 f s k) < 0 then k else (if (Cv_bend q12 q13 f s k) = 0 then (if (ApM q12 q13 k f) ≤ (ApM q12 q13 s f) then s else k) else s))))
set_option maxHeartbeats 400000 in
theorem lp_cb {wc : List ax_E} {m_thrown m_trouble m_fault m_where m_taped m_linkMany m_tracerMany m_pointMany m_pairMany m_readLinks m_readTracers m_readPoints m_readPairs m_textLong m_at m_spot m_token m_whole m_readFault m_readPlace m_value m_cornerMany m_straightAt m_walkLink m_walkAngle m_walkBranch m_walkMany m_lined m_actMany : Int32} {m_n m_c m_d m_s m_e m_k m_x m_y m_g m_a m_fitUp m_fitDown m_worstUp m_worstDown : Int64} {z1 z2 z3 z4 z5 z6 z7 z8 z9 z10 z11 z14 z15 z16 z17 z18 z19 z20 : ax_E} {q12 q13 : Nat → Int32} {c f : Nat} {Q : Option Value → ax_W → Prop} (hc : c ≤ 40) (hf : f < c) : ∀ (n k : Nat) (s : Nat) , k + n = c → (s < c) → Ab M_X11_cornerBehind Q (0, 0) 82 [(3, .int (nI c)), (2, .int (nI (itr (lp_cb_st q12 q13 f) n k s))), (1, .int (nI f)), (0, .ref 1000)] [] (wc, [ob 9 [.int m_thrown, .int m_trouble, .int m_fault, .int m_where, .ref 1001, .ref 1002, .int 40, .ref 1003, .int m_taped, .int m_linkMany, .int m_tracerMany, .int m_pointMany, .int m_pairMany, .ref 1004, .ref 1005, .ref 1006, .ref 1007, .int m_readLinks, .int m_readTracers, .int m_readPoints, .int m_readPairs, .ref 1008, .ref 1009, .ref 1010, .ref 1011, .int m_textLong, .int m_at, .int m_spot, .int m_token, .int m_whole, .int m_readFault, .int m_readPlace, .int m_value, .long m_n, .long m_c, .long m_d, .long m_s, .long m_e, .long m_k, .long m_x, .long m_y, .long m_g, .long m_a, .ref 1012, .ref 1013, .ref 1014, .int (nI c), .ref 1015, .int m_cornerMany, .int m_straightAt, .ref 1016, .long m_fitUp, .long m_fitDown, .long m_worstUp, .long m_worstDown, .ref 1017, .int m_walkLink, .int m_walkAngle, .int m_walkBranch, .int m_walkMany, .ref 1018, .ref 1019, .int m_lined, .ref 1020, .int m_actMany], z1, z2, z3, z4, z5, z6, z7, z8, z9, z10, z11, ia 64 q12, ia 64 q13, z14, z15, z16, z17, z18, z19, z20]) → Ab M_X11_cornerBehind Q (0, 0) 4 [(3, .int (nI k)), (2, .int (nI s)), (1, .int (nI f)), (0, .ref 1000)] [] (wc, [ob 9 [.int m_thrown, .int m_trouble, .int m_fault, .int m_where, .ref 1001, .ref 1002, .int 40, .ref 1003, .int m_taped, .int m_linkMany, .int m_tracerMany, .int m_pointMany, .int m_pairMany, .ref 1004, .ref 1005, .ref 1006, .ref 1007, .int m_readLinks, .int m_readTracers, .int m_readPoints, .int m_readPairs, .ref 1008, .ref 1009, .ref 1010, .ref 1011, .int m_textLong, .int m_at, .int m_spot, .int m_token, .int m_whole, .int m_readFault, .int m_readPlace, .int m_value, .long m_n, .long m_c, .long m_d, .long m_s, .long m_e, .long m_k, .long m_x, .long m_y, .long m_g, .long m_a, .ref 1012, .ref 1013, .ref 1014, .int (nI c), .ref 1015, .int m_cornerMany, .int m_straightAt, .ref 1016, .long m_fitUp, .long m_fitDown, .long m_worstUp, .long m_worstDown, .ref 1017, .int m_walkLink, .int m_walkAngle, .int m_walkBranch, .int m_walkMany, .ref 1018, .ref 1019, .int m_lined, .ref 1020, .int m_actMany], z1, z2, z3, z4, z5, z6, z7, z8, z9, z10, z11, ia 64 q12, ia 64 q13, z14, z15, z16, z17, z18, z19, z20]) := by
  intro n
  induction n with
  | zero =>
    intro k s  hk hinv hx
    rw [itr_0] at hx
    rw [show k = c by omega]
    refine ab_iload_n dX11_cornerBehind_4 rfl ?_
    refine ab_aload_n dX11_cornerBehind_5 rfl ?_
    refine ab_getf dX11_cornerBehind_6 fl_X11_424 rfl rfl ?_
    refine ab_icmpge 82 dX11_cornerBehind_9 (by decide) (fun h_1 => ?_) (fun h_1 => absurd (nI_le (b := c) (Nat.le_refl _) (by omega)) h_1)
    refine ab_pick [0, 1, 2, 3] rfl ?_
    exact hx 
  | succ n ih =>
    intro k s  hk hinv hx
    refine ab_iload_n dX11_cornerBehind_4 rfl ?_
    refine ab_aload_n dX11_cornerBehind_5 rfl ?_
    refine ab_getf dX11_cornerBehind_6 fl_X11_424 rfl rfl ?_
    refine ab_icmpge 82 dX11_cornerBehind_9 (by decide) (fun h_1 => absurd h_1 (nI_ge (a := k) (b := c) (by omega) (by omega))) (fun h_1 => ?_)
    refine ab_aload_n dX11_cornerBehind_12 rfl ?_
    refine ab_iload_n dX11_cornerBehind_13 rfl ?_
    refine ab_iload_n dX11_cornerBehind_14 rfl ?_
    refine ab_callV (As := [.int (nI k), .int (nI f)]) (rest := []) dX11_cornerBehind_15 mv_X11_isSamePlace ml_X11_444 ⟨by decide, by decide, rfl, rfl, rfl⟩ (by decide) rfl rfl (Nat.le_of_ble_eq_true rfl) rfl (c_X11_isSamePlace (c := c) (j := k) (o := f) hc (by omega) (by omega)) ?_
    rintro r w' (⟨c_2, rfl, rfl⟩ | ⟨c_3, rfl, rfl⟩)
    · refine ab_ifeq 24 dX11_cornerBehind_18 (by decide) (fun h_4 => absurd h_4 (by decide)) (fun h_4 => ?_)
      refine ab_goto 76 dX11_cornerBehind_21 (by decide) ?_
      refine ab_iinc (v := (nI (k + 1))) (la' := [(3, .int (nI (k + 1))), (2, .int (nI s)), (1, .int (nI f)), (0, .ref 1000)]) dX11_cornerBehind_76 rfl (nI_1 _) (by decide) rfl ?_
      refine ab_goto 4 dX11_cornerBehind_79 (by decide) ?_
      refine ab_pick [0, 1, 2, 3] rfl ?_
      rw [(itr_s (lp_cb_st q12 q13 f) n k s).trans (congrArg (itr (lp_cb_st q12 q13 f) n (k + 1)) (show lp_cb_st q12 q13 f k s = s from by rw [lp_cb_st, if_pos (show q12 k = q12 f ∧ q13 k = q13 f from c_2)]))] at hx
      exact ih (k + 1) s  (by omega) (by omega) hx
    · refine ab_ifeq 24 dX11_cornerBehind_18 (by decide) (fun h_5 => ?_) (fun h_5 => absurd (by decide) h_5)
      refine ab_iload_n dX11_cornerBehind_24 rfl ?_
      refine ab_iload_n dX11_cornerBehind_25 rfl ?_
      refine ab_icmpne 35 dX11_cornerBehind_26 (by decide) (fun h_6 => ?_) (fun h_6 => ?_)
      · refine ab_aload_n dX11_cornerBehind_35 rfl ?_
        refine ab_iload_n dX11_cornerBehind_36 rfl ?_
        refine ab_iload_n dX11_cornerBehind_37 rfl ?_
        refine ab_iload_n dX11_cornerBehind_38 rfl ?_
        refine ab_callV (As := [.int (nI f), .int (nI s), .int (nI k)]) (rest := []) dX11_cornerBehind_39 mv_X11_turnOf ml_X11_449 ⟨by decide, by decide, rfl, rfl, rfl⟩ (by decide) rfl rfl (Nat.le_of_ble_eq_true rfl) rfl (c_X11_turnOf (c := c) (f := f) (t := s) (j := k) hc (by omega) (by omega) (by omega)) ?_
        rintro r w' ⟨rfl, rfl⟩
        refine ab_lstore (la' := [(4, .long (Cv_bend q12 q13 f s k)), (3, .int (nI k)), (2, .int (nI s)), (1, .int (nI f)), (0, .ref 1000)]) dX11_cornerBehind_42 (by decide) rfl ?_
        refine ab_lload dX11_cornerBehind_44 rfl ?_
        refine ab_lconst (v := 0) dX11_cornerBehind_46 (by decide) ?_
        refine ab_lcmplt 74 dX11_cornerBehind_47 dX11_cornerBehind_48 (by decide) (fun h_7 => ?_) (fun h_7 => ?_)
        · refine ab_iload_n dX11_cornerBehind_74 rfl ?_
          refine ab_istore_n (la' := [(2, .int (nI k)), (4, .long (Cv_bend q12 q13 f s k)), (3, .int (nI k)), (1, .int (nI f)), (0, .ref 1000)]) dX11_cornerBehind_75 (by decide) rfl ?_
          refine ab_iinc (v := (nI (k + 1))) (la' := [(3, .int (nI (k + 1))), (2, .int (nI k)), (4, .long (Cv_bend q12 q13 f s k)), (1, .int (nI f)), (0, .ref 1000)]) dX11_cornerBehind_76 rfl (nI_1 _) (by decide) rfl ?_
          refine ab_goto 4 dX11_cornerBehind_79 (by decide) ?_
          refine ab_pick [0, 1, 3, 4] rfl ?_
          rw [(itr_s (lp_cb_st q12 q13 f) n k s).trans (congrArg (itr (lp_cb_st q12 q13 f) n (k + 1)) (show lp_cb_st q12 q13 f k s = k from by rw [lp_cb_st, if_neg (show ¬ (q12 k = q12 f ∧ q13 k = q13 f) from c_3), if_neg (show ¬ (nI s) = (nI f) from h_6), if_pos (show (Cv_bend q12 q13 f s k) < 0 from h_7)]))] at hx
          exact ih (k + 1) k  (by omega) (by omega) hx
        · refine ab_lload dX11_cornerBehind_51 rfl ?_
          refine ab_lconst (v := 0) dX11_cornerBehind_53 (by decide) ?_
          refine ab_lcmpne 76 dX11_cornerBehind_54 dX11_cornerBehind_55 (by decide) (fun h_8 => ?_) (fun h_8 => ?_)
          · refine ab_iinc (v := (nI (k + 1))) (la' := [(3, .int (nI (k + 1))), (4, .long (Cv_bend q12 q13 f s k)), (2, .int (nI s)), (1, .int (nI f)), (0, .ref 1000)]) dX11_cornerBehind_76 rfl (nI_1 _) (by decide) rfl ?_
            refine ab_goto 4 dX11_cornerBehind_79 (by decide) ?_
            refine ab_pick [0, 2, 3, 4] rfl ?_
            rw [(itr_s (lp_cb_st q12 q13 f) n k s).trans (congrArg (itr (lp_cb_st q12 q13 f) n (k + 1)) (show lp_cb_st q12 q13 f k s = s from by rw [lp_cb_st, if_neg (show ¬ (q12 k = q12 f ∧ q13 k = q13 f) from c_3), if_neg (show ¬ (nI s) = (nI f) from h_6), if_neg (show ¬ (Cv_bend q12 q13 f s k) < 0 from h_7), if_neg (show ¬ (Cv_bend q12 q13 f s k) = 0 from h_8)]))] at hx
            exact ih (k + 1) s  (by omega) (by omega) hx
          · refine ab_aload_n dX11_cornerBehind_58 rfl ?_
            refine ab_iload_n dX11_cornerBehind_59 rfl ?_
            refine ab_iload_n dX11_cornerBehind_60 rfl ?_
            refine ab_callV (As := [.int (nI k), .int (nI f)]) (rest := []) dX11_cornerBehind_61 mv_X11_apartOf ml_X11_452 ⟨by decide, by decide, rfl, rfl, rfl⟩ (by decide) rfl rfl (Nat.le_of_ble_eq_true rfl) rfl (c_X11_apartOf (c := c) (j := k) (o := f) hc (by omega) (by omega)) ?_
            rintro r w' ⟨rfl, rfl⟩
            refine ab_aload_n dX11_cornerBehind_64 rfl ?_
            refine ab_iload_n dX11_cornerBehind_65 rfl ?_
            refine ab_iload_n dX11_cornerBehind_66 rfl ?_
            refine ab_callV (As := [.int (nI s), .int (nI f)]) (rest := [.long (ApM q12 q13 k f)]) dX11_cornerBehind_67 mv_X11_apartOf ml_X11_452 ⟨by decide, by decide, rfl, rfl, rfl⟩ (by decide) rfl rfl (Nat.le_of_ble_eq_true rfl) rfl (c_X11_apartOf (c := c) (j := s) (o := f) hc (by omega) (by omega)) ?_
            rintro r w' ⟨rfl, rfl⟩
            refine ab_lcmple 76 dX11_cornerBehind_70 dX11_cornerBehind_71 (by decide) (fun h_9 => ?_) (fun h_9 => ?_)
            · refine ab_iinc (v := (nI (k + 1))) (la' := [(3, .int (nI (k + 1))), (4, .long (Cv_bend q12 q13 f s k)), (2, .int (nI s)), (1, .int (nI f)), (0, .ref 1000)]) dX11_cornerBehind_76 rfl (nI_1 _) (by decide) rfl ?_
              refine ab_goto 4 dX11_cornerBehind_79 (by decide) ?_
              refine ab_pick [0, 2, 3, 4] rfl ?_
              rw [(itr_s (lp_cb_st q12 q13 f) n k s).trans (congrArg (itr (lp_cb_st q12 q13 f) n (k + 1)) (show lp_cb_st q12 q13 f k s = s from by rw [lp_cb_st, if_neg (show ¬ (q12 k = q12 f ∧ q13 k = q13 f) from c_3), if_neg (show ¬ (nI s) = (nI f) from h_6), if_neg (show ¬ (Cv_bend q12 q13 f s k) < 0 from h_7), if_pos (show (Cv_bend q12 q13 f s k) = 0 from h_8), if_pos (show (ApM q12 q13 k f) ≤ (ApM q12 q13 s f) from h_9)]))] at hx
              exact ih (k + 1) s  (by omega) (by omega) hx
            · refine ab_iload_n dX11_cornerBehind_74 rfl ?_
              refine ab_istore_n (la' := [(2, .int (nI k)), (4, .long (Cv_bend q12 q13 f s k)), (3, .int (nI k)), (1, .int (nI f)), (0, .ref 1000)]) dX11_cornerBehind_75 (by decide) rfl ?_
              refine ab_iinc (v := (nI (k + 1))) (la' := [(3, .int (nI (k + 1))), (2, .int (nI k)), (4, .long (Cv_bend q12 q13 f s k)), (1, .int (nI f)), (0, .ref 1000)]) dX11_cornerBehind_76 rfl (nI_1 _) (by decide) rfl ?_
              refine ab_goto 4 dX11_cornerBehind_79 (by decide) ?_
              refine ab_pick [0, 1, 3, 4] rfl ?_
              rw [(itr_s (lp_cb_st q12 q13 f) n k s).trans (congrArg (itr (lp_cb_st q12 q13 f) n (k + 1)) (show lp_cb_st q12 q13 f k s = k from by rw [lp_cb_st, if_neg (show ¬ (q12 k = q12 f ∧ q13 k = q13 f) from c_3), if_neg (show ¬ (nI s) = (nI f) from h_6), if_neg (show ¬ (Cv_bend q12 q13 f s k) < 0 from h_7), if_pos (show (Cv_bend q12 q13 f s k) = 0 from h_8), if_neg (show ¬ (ApM q12 q13 k f) ≤ (ApM q12 q13 s f) from h_9)]))] at hx
              exact ih (k + 1) k  (by omega) (by omega) hx
      · refine ab_ldc2 dX11_cornerBehind_29 kl_X11_447 ?_
        refine ab_goto 42 dX11_cornerBehind_32 (by decide) ?_
        refine ab_lstore (la' := [(4, .long (-1)), (3, .int (nI k)), (2, .int (nI s)), (1, .int (nI f)), (0, .ref 1000)]) dX11_cornerBehind_42 (by decide) rfl ?_
        refine ab_lload dX11_cornerBehind_44 rfl ?_
        refine ab_lconst (v := 0) dX11_cornerBehind_46 (by decide) ?_
        refine ab_lcmplt 74 dX11_cornerBehind_47 dX11_cornerBehind_48 (by decide) (fun h_10 => ?_) (fun h_10 => absurd (by decide) h_10)
        refine ab_iload_n dX11_cornerBehind_74 rfl ?_
        refine ab_istore_n (la' := [(2, .int (nI k)), (4, .long (-1)), (3, .int (nI k)), (1, .int (nI f)), (0, .ref 1000)]) dX11_cornerBehind_75 (by decide) rfl ?_
        refine ab_iinc (v := (nI (k + 1))) (la' := [(3, .int (nI (k + 1))), (2, .int (nI k)), (4, .long (-1)), (1, .int (nI f)), (0, .ref 1000)]) dX11_cornerBehind_76 rfl (nI_1 _) (by decide) rfl ?_
        refine ab_goto 4 dX11_cornerBehind_79 (by decide) ?_
        refine ab_pick [0, 1, 3, 4] rfl ?_
        rw [(itr_s (lp_cb_st q12 q13 f) n k s).trans (congrArg (itr (lp_cb_st q12 q13 f) n (k + 1)) (show lp_cb_st q12 q13 f k s = k from by rw [lp_cb_st, if_neg (show ¬ (q12 k = q12 f ∧ q13 k = q13 f) from c_3), if_pos (show (nI s) = (nI f) from h_6)]))] at hx
        exact ih (k + 1) k  (by omega) (by omega) hx
/-- the corner behind one -/
def cbM (x y : Nat → Int32) (c f : Nat) : Nat := itr (lp_cb_st x y f) c 0 f
theorem c_X11_cornerBehind {wc : List ax_E} {m_thrown m_trouble m_fault m_where m_taped m_linkMany m_tracerMany m_pointMany m_pairMany m_readLinks m_readTracers m_readPoints m_readPairs m_textLong m_at m_spot m_token m_whole m_readFault m_readPlace m_value m_cornerMany m_straightAt m_walkLink m_walkAngle m_walkBranch m_walkMany m_lined m_actMany : Int32} {m_n m_c m_d m_s m_e m_k m_x m_y m_g m_a m_fitUp m_fitDown m_worstUp m_worstDown : Int64} {z1 z2 z3 z4 z5 z6 z7 z8 z9 z10 z11 z14 z15 z16 z17 z18 z19 z20 : ax_E} {q12 q13 : Nat → Int32} {c f : Nat} (hc : c ≤ 40) (hf : f < c) : Ct M_X11_cornerBehind [.ref 1000, .int (nI f)] (wc, [ob 9 [.int m_thrown, .int m_trouble, .int m_fault, .int m_where, .ref 1001, .ref 1002, .int 40, .ref 1003, .int m_taped, .int m_linkMany, .int m_tracerMany, .int m_pointMany, .int m_pairMany, .ref 1004, .ref 1005, .ref 1006, .ref 1007, .int m_readLinks, .int m_readTracers, .int m_readPoints, .int m_readPairs, .ref 1008, .ref 1009, .ref 1010, .ref 1011, .int m_textLong, .int m_at, .int m_spot, .int m_token, .int m_whole, .int m_readFault, .int m_readPlace, .int m_value, .long m_n, .long m_c, .long m_d, .long m_s, .long m_e, .long m_k, .long m_x, .long m_y, .long m_g, .long m_a, .ref 1012, .ref 1013, .ref 1014, .int (nI c), .ref 1015, .int m_cornerMany, .int m_straightAt, .ref 1016, .long m_fitUp, .long m_fitDown, .long m_worstUp, .long m_worstDown, .ref 1017, .int m_walkLink, .int m_walkAngle, .int m_walkBranch, .int m_walkMany, .ref 1018, .ref 1019, .int m_lined, .ref 1020, .int m_actMany], z1, z2, z3, z4, z5, z6, z7, z8, z9, z10, z11, ia 64 q12, ia 64 q13, z14, z15, z16, z17, z18, z19, z20]) (fun r w' => r = some (.int (nI (cbM q12 q13 c f))) ∧ w' = (wc, [ob 9 [.int m_thrown, .int m_trouble, .int m_fault, .int m_where, .ref 1001, .ref 1002, .int 40, .ref 1003, .int m_taped, .int m_linkMany, .int m_tracerMany, .int m_pointMany, .int m_pairMany, .ref 1004, .ref 1005, .ref 1006, .ref 1007, .int m_readLinks, .int m_readTracers, .int m_readPoints, .int m_readPairs, .ref 1008, .ref 1009, .ref 1010, .ref 1011, .int m_textLong, .int m_at, .int m_spot, .int m_token, .int m_whole, .int m_readFault, .int m_readPlace, .int m_value, .long m_n, .long m_c, .long m_d, .long m_s, .long m_e, .long m_k, .long m_x, .long m_y, .long m_g, .long m_a, .ref 1012, .ref 1013, .ref 1014, .int (nI c), .ref 1015, .int m_cornerMany, .int m_straightAt, .ref 1016, .long m_fitUp, .long m_fitDown, .long m_worstUp, .long m_worstDown, .ref 1017, .int m_walkLink, .int m_walkAngle, .int m_walkBranch, .int m_walkMany, .ref 1018, .ref 1019, .int m_lined, .ref 1020, .int m_actMany], z1, z2, z3, z4, z5, z6, z7, z8, z9, z10, z11, ia 64 q12, ia 64 q13, z14, z15, z16, z17, z18, z19, z20])) := by
  refine ct_of ⟨by decide, rfl⟩ (Nat.le_of_ble_eq_true rfl) ?_
  refine ab_iload_n dX11_cornerBehind_0 rfl ?_
  refine ab_istore_n (la' := [(2, .int (nI f)), (0, .ref 1000), (1, .int (nI f))]) dX11_cornerBehind_1 (by decide) rfl ?_
  refine ab_iconst (v := 0) dX11_cornerBehind_2 (by decide) ?_
  refine ab_istore_n (la' := [(3, .int 0), (2, .int (nI f)), (0, .ref 1000), (1, .int (nI f))]) dX11_cornerBehind_3 (by decide) rfl ?_
  refine ab_pick [0, 1, 3, 2] rfl ?_
  refine lp_cb hc hf c 0 f (by omega) (by omega) ?_
  refine ab_iload_n dX11_cornerBehind_82 rfl ?_
  exact ab_iret dX11_cornerBehind_83 rfl (by decide) (⟨rfl, rfl⟩)
theorem itr_inv' {σ : Type} (P : Nat → σ → Prop) (f : Nat → σ → σ) : ∀ (n k : Nat) (s : σ), P k s → (∀ j s, k ≤ j → j < k + n → P j s → P (j + 1) (f j s)) → P (k + n) (itr f n k s)
  | 0, k, s, h, _ => by rw [itr_0]; exact h
  | n + 1, k, s, h, hs => by
    rw [itr_s, show k + (n + 1) = (k + 1) + n by omega]
    exact itr_inv' P f n (k + 1) _ (hs k s (Nat.le_refl k) (by omega) h) (fun j s h1 h2 => hs j s (by omega) (by omega))
theorem itr_cong' {σ : Type} (P : Nat → σ → Prop) {f g : Nat → σ → σ} : ∀ (n k : Nat) (s : σ), P k s → (∀ j s, k ≤ j → j < k + n → P j s → f j s = g j s ∧ P (j + 1) (f j s)) → itr f n k s = itr g n k s
  | 0, k, s, _, _ => by rw [itr_0, itr_0]
  | n + 1, k, s, h, hs => by
    obtain ⟨h1, h2⟩ := hs k s (Nat.le_refl k) (by omega) h
    rw [itr_s, itr_s, ← h1]
    exact itr_cong' P n (k + 1) _ h2 (fun j s h1 h2 => hs j s (by omega) (by omega))
theorem cb_st_lt {x y : Nat → Int32} {c f k s : Nat} (hk : k < c) (hs : s < c) : lp_cb_st x y f k s < c := by
  unfold lp_cb_st
  repeat' split
  all_goals omega
theorem cbM_lt {x y : Nat → Int32} {c f : Nat} (hf : f < c) : cbM x y c f < c := by
  unfold cbM
  exact itr_inv' (fun _ s => s < c) (lp_cb_st x y f) c 0 f hf (fun j s h1 h2 h3 => cb_st_lt (by omega) h3)
theorem cb_can {p : Nat → Bool} {X Y r r' : Nat → Int32} {f : Nat} (hf : f < Cn p 40) : cbM (crv p X r 40) (crv p Y r' 40) (Cn p 40) f = cbM (crv p X z0 40) (crv p Y z0 40) (Cn p 40) f := by
  unfold cbM
  refine itr_cong' (fun _ s => s < Cn p 40) _ _ _ hf (fun j s h1 h2 h3 => ⟨?_, cb_st_lt (by omega) h3⟩)
  have hj : j < Cn p 40 := by omega
  unfold lp_cb_st Cv_bend ApM
  rw [crv_un p X r z0 40 f hf, crv_un p X r z0 40 j hj, crv_un p X r z0 40 s h3, crv_un p Y r' z0 40 f hf, crv_un p Y r' z0 40 j hj, crv_un p Y r' z0 40 s h3]
def lp_wf_st (q12 : Nat → Int32) (q13 : Nat → Int32) (k : Nat) (s : Nat) : Nat := (if (q12 k) < (q12 s) then k else (if (q12 k) = (q12 s) then (if (q13 s) ≤ (q13 k) then s else k) else s))
set_option maxHeartbeats 400000 in
theorem lp_wf {wc : List ax_E} {m_thrown m_trouble m_fault m_where m_taped m_linkMany m_tracerMany m_pointMany m_pairMany m_readLinks m_readTracers m_readPoints m_readPairs m_textLong m_at m_spot m_token m_whole m_readFault m_readPlace m_value m_cornerMany m_straightAt m_walkLink m_walkAngle m_walkBranch m_walkMany m_lined m_actMany a3 a2 a1 : Int32} {m_fitUp m_fitDown m_worstUp m_worstDown : Int64} {z3 z6 z7 z8 z9 z10 z11 z15 z16 z17 z18 z19 z20 : ax_E} {q4 q5 q12 q13 q14 : Nat → Int32} {c : Nat} {Q : Option Value → ax_W → Prop} (hc : c ≤ 40) (h0 : 0 < c) : ∀ (n k : Nat) (s : Nat) (gm : Nat → Int64), k + n = c → (s < c) → (∀ (gm : Nat → Int64), Ab M_X11_wraps Q (0, 0) 96 [(5, .int (nI c)), (4, .int (nI (itr (lp_wf_st q12 q13) n k s))), (3, .int a3), (2, .int a2), (1, .int a1), (0, .ref 1000)] [] (wc, [ob 9 [.int m_thrown, .int m_trouble, .int m_fault, .int m_where, .ref 1001, .ref 1002, .int 40, .ref 1003, .int m_taped, .int m_linkMany, .int m_tracerMany, .int m_pointMany, .int m_pairMany, .ref 1004, .ref 1005, .ref 1006, .ref 1007, .int m_readLinks, .int m_readTracers, .int m_readPoints, .int m_readPairs, .ref 1008, .ref 1009, .ref 1010, .ref 1011, .int m_textLong, .int m_at, .int m_spot, .int m_token, .int m_whole, .int m_readFault, .int m_readPlace, .int m_value, .long (gm 33), .long (gm 34), .long (gm 35), .long (gm 36), .long (gm 37), .long (gm 38), .long (gm 39), .long (gm 40), .long (gm 41), .long (gm 42), .ref 1012, .ref 1013, .ref 1014, .int (nI c), .ref 1015, .int m_cornerMany, .int m_straightAt, .ref 1016, .long m_fitUp, .long m_fitDown, .long m_worstUp, .long m_worstDown, .ref 1017, .int m_walkLink, .int m_walkAngle, .int m_walkBranch, .int m_walkMany, .ref 1018, .ref 1019, .int m_lined, .ref 1020, .int m_actMany], ia 64 (ax_tab 0), ia 64 (ax_tab 1), z3, ia 16 q4, ia 8 q5, z6, z7, z8, z9, z10, z11, ia 64 q12, ia 64 q13, ia 64 q14, z15, z16, z17, z18, z19, z20])) → Ab M_X11_wraps Q (0, 0) 26 [(5, .int (nI k)), (4, .int (nI s)), (3, .int a3), (2, .int a2), (1, .int a1), (0, .ref 1000)] [] (wc, [ob 9 [.int m_thrown, .int m_trouble, .int m_fault, .int m_where, .ref 1001, .ref 1002, .int 40, .ref 1003, .int m_taped, .int m_linkMany, .int m_tracerMany, .int m_pointMany, .int m_pairMany, .ref 1004, .ref 1005, .ref 1006, .ref 1007, .int m_readLinks, .int m_readTracers, .int m_readPoints, .int m_readPairs, .ref 1008, .ref 1009, .ref 1010, .ref 1011, .int m_textLong, .int m_at, .int m_spot, .int m_token, .int m_whole, .int m_readFault, .int m_readPlace, .int m_value, .long (gm 33), .long (gm 34), .long (gm 35), .long (gm 36), .long (gm 37), .long (gm 38), .long (gm 39), .long (gm 40), .long (gm 41), .long (gm 42), .ref 1012, .ref 1013, .ref 1014, .int (nI c), .ref 1015, .int m_cornerMany, .int m_straightAt, .ref 1016, .long m_fitUp, .long m_fitDown, .long m_worstUp, .long m_worstDown, .ref 1017, .int m_walkLink, .int m_walkAngle, .int m_walkBranch, .int m_walkMany, .ref 1018, .ref 1019, .int m_lined, .ref 1020, .int m_actMany], ia 64 (ax_tab 0), ia 64 (ax_tab 1), z3, ia 16 q4, ia 8 q5, z6, z7, z8, z9, z10, z11, ia 64 q12, ia 64 q13, ia 64 q14, z15, z16, z17, z18, z19, z20]) := by
  intro n
  induction n with
  | zero =>
    intro k s gm hk hinv hx
    rw [itr_0] at hx
    rw [show k = c by omega]
    refine ab_iload dX11_wraps_26 rfl ?_
    refine ab_aload_n dX11_wraps_28 rfl ?_
    refine ab_getf dX11_wraps_29 fl_X11_424 rfl rfl ?_
    refine ab_icmpge 96 dX11_wraps_32 (by decide) (fun h_1 => ?_) (fun h_1 => absurd (nI_le (b := c) (Nat.le_refl _) (by omega)) h_1)
    refine ab_pick [0, 1, 2, 3, 4, 5] rfl ?_
    exact hx gm
  | succ n ih =>
    intro k s gm hk hinv hx
    refine ab_iload dX11_wraps_26 rfl ?_
    refine ab_aload_n dX11_wraps_28 rfl ?_
    refine ab_getf dX11_wraps_29 fl_X11_424 rfl rfl ?_
    refine ab_icmpge 96 dX11_wraps_32 (by decide) (fun h_1 => absurd h_1 (nI_ge (a := k) (b := c) (by omega) (by omega))) (fun h_1 => ?_)
    refine ab_aload_n dX11_wraps_35 rfl ?_
    refine ab_getf dX11_wraps_36 fl_X11_66 rfl rfl ?_
    refine ab_iload dX11_wraps_39 rfl ?_
    refine ab_iald (j := k) dX11_wraps_41 rfl (ix_nI (by omega) (by decide)) ?_
    refine ab_aload_n dX11_wraps_42 rfl ?_
    refine ab_getf dX11_wraps_43 fl_X11_66 rfl rfl ?_
    refine ab_iload dX11_wraps_46 rfl ?_
    refine ab_iald (j := s) dX11_wraps_48 rfl (ix_nI (by omega) (by decide)) ?_
    refine ab_icmplt 86 dX11_wraps_49 (by decide) (fun h_2 => ?_) (fun h_2 => ?_)
    · refine ab_iload dX11_wraps_86 rfl ?_
      refine ab_istore (la' := [(4, .int (nI k)), (5, .int (nI k)), (3, .int a3), (2, .int a2), (1, .int a1), (0, .ref 1000)]) dX11_wraps_88 (by decide) rfl ?_
      refine ab_iinc (v := (nI (k + 1))) (la' := [(5, .int (nI (k + 1))), (4, .int (nI k)), (3, .int a3), (2, .int a2), (1, .int a1), (0, .ref 1000)]) dX11_wraps_90 rfl (nI_1 _) (by decide) rfl ?_
      refine ab_goto 26 dX11_wraps_93 (by decide) ?_
      refine ab_pick [0, 1, 2, 3, 4, 5] rfl ?_
      rw [(itr_s (lp_wf_st q12 q13) n k s).trans (congrArg (itr (lp_wf_st q12 q13) n (k + 1)) (show lp_wf_st q12 q13 k s = k from by rw [lp_wf_st, if_pos (show (q12 k) < (q12 s) from h_2)]))] at hx
      exact ih (k + 1) k (fun i => [(gm 33), (gm 34), (gm 35), (gm 36), (gm 37), (gm 38), (gm 39), (gm 40), (gm 41), (gm 42)].getD (i - 33) 0) (by omega) (by omega) hx
    · refine ab_aload_n dX11_wraps_52 rfl ?_
      refine ab_getf dX11_wraps_53 fl_X11_66 rfl rfl ?_
      refine ab_iload dX11_wraps_56 rfl ?_
      refine ab_iald (j := k) dX11_wraps_58 rfl (ix_nI (by omega) (by decide)) ?_
      refine ab_aload_n dX11_wraps_59 rfl ?_
      refine ab_getf dX11_wraps_60 fl_X11_66 rfl rfl ?_
      refine ab_iload dX11_wraps_63 rfl ?_
      refine ab_iald (j := s) dX11_wraps_65 rfl (ix_nI (by omega) (by decide)) ?_
      refine ab_icmpne 90 dX11_wraps_66 (by decide) (fun h_3 => ?_) (fun h_3 => ?_)
      · refine ab_iinc (v := (nI (k + 1))) (la' := [(5, .int (nI (k + 1))), (4, .int (nI s)), (3, .int a3), (2, .int a2), (1, .int a1), (0, .ref 1000)]) dX11_wraps_90 rfl (nI_1 _) (by decide) rfl ?_
        refine ab_goto 26 dX11_wraps_93 (by decide) ?_
        refine ab_pick [0, 1, 2, 3, 4, 5] rfl ?_
        rw [(itr_s (lp_wf_st q12 q13) n k s).trans (congrArg (itr (lp_wf_st q12 q13) n (k + 1)) (show lp_wf_st q12 q13 k s = s from by rw [lp_wf_st, if_neg (show ¬ (q12 k) < (q12 s) from h_2), if_neg (show ¬ (q12 k) = (q12 s) from h_3)]))] at hx
        exact ih (k + 1) s (fun i => [(gm 33), (gm 34), (gm 35), (gm 36), (gm 37), (gm 38), (gm 39), (gm 40), (gm 41), (gm 42)].getD (i - 33) 0) (by omega) (by omega) hx
      · refine ab_aload_n dX11_wraps_69 rfl ?_
        refine ab_getf dX11_wraps_70 fl_X11_69 rfl rfl ?_
        refine ab_iload dX11_wraps_73 rfl ?_
        refine ab_iald (j := k) dX11_wraps_75 rfl (ix_nI (by omega) (by decide)) ?_
        refine ab_aload_n dX11_wraps_76 rfl ?_
        refine ab_getf dX11_wraps_77 fl_X11_69 rfl rfl ?_
        refine ab_iload dX11_wraps_80 rfl ?_
        refine ab_iald (j := s) dX11_wraps_82 rfl (ix_nI (by omega) (by decide)) ?_
        refine ab_icmpge 90 dX11_wraps_83 (by decide) (fun h_4 => ?_) (fun h_4 => ?_)
        · refine ab_iinc (v := (nI (k + 1))) (la' := [(5, .int (nI (k + 1))), (4, .int (nI s)), (3, .int a3), (2, .int a2), (1, .int a1), (0, .ref 1000)]) dX11_wraps_90 rfl (nI_1 _) (by decide) rfl ?_
          refine ab_goto 26 dX11_wraps_93 (by decide) ?_
          refine ab_pick [0, 1, 2, 3, 4, 5] rfl ?_
          rw [(itr_s (lp_wf_st q12 q13) n k s).trans (congrArg (itr (lp_wf_st q12 q13) n (k + 1)) (show lp_wf_st q12 q13 k s = s from by rw [lp_wf_st, if_neg (show ¬ (q12 k) < (q12 s) from h_2), if_pos (show (q12 k) = (q12 s) from h_3), if_pos (show (q13 s) ≤ (q13 k) from h_4)]))] at hx
          exact ih (k + 1) s (fun i => [(gm 33), (gm 34), (gm 35), (gm 36), (gm 37), (gm 38), (gm 39), (gm 40), (gm 41), (gm 42)].getD (i - 33) 0) (by omega) (by omega) hx
        · refine ab_iload dX11_wraps_86 rfl ?_
          refine ab_istore (la' := [(4, .int (nI k)), (5, .int (nI k)), (3, .int a3), (2, .int a2), (1, .int a1), (0, .ref 1000)]) dX11_wraps_88 (by decide) rfl ?_
          refine ab_iinc (v := (nI (k + 1))) (la' := [(5, .int (nI (k + 1))), (4, .int (nI k)), (3, .int a3), (2, .int a2), (1, .int a1), (0, .ref 1000)]) dX11_wraps_90 rfl (nI_1 _) (by decide) rfl ?_
          refine ab_goto 26 dX11_wraps_93 (by decide) ?_
          refine ab_pick [0, 1, 2, 3, 4, 5] rfl ?_
          rw [(itr_s (lp_wf_st q12 q13) n k s).trans (congrArg (itr (lp_wf_st q12 q13) n (k + 1)) (show lp_wf_st q12 q13 k s = k from by rw [lp_wf_st, if_neg (show ¬ (q12 k) < (q12 s) from h_2), if_pos (show (q12 k) = (q12 s) from h_3), if_neg (show ¬ (q13 s) ≤ (q13 k) from h_4)]))] at hx
          exact ih (k + 1) k (fun i => [(gm 33), (gm 34), (gm 35), (gm 36), (gm 37), (gm 38), (gm 39), (gm 40), (gm 41), (gm 42)].getD (i - 33) 0) (by omega) (by omega) hx
theorem cn_pos (p : Nat → Bool) (h : ¬ nI (Cn p 40) = 0) : 0 < Cn p 40 := Nat.pos_of_ne_zero (fun z => h (by rw [z]; rfl))
theorem wf_st_lt {x y : Nat → Int32} {c k s : Nat} (hk : k < c) (hs : s < c) : lp_wf_st x y k s < c := by
  unfold lp_wf_st
  repeat' split
  all_goals omega
/-- the first corner, and those behind it -/
def wfM (p : Nat → Bool) (X Y : Nat → Int32) : Nat := itr (lp_wf_st (crv p X z0 40) (crv p Y z0 40)) (Cn p 40 - 1) 1 0
theorem wf_can {p : Nat → Bool} {X Y r r' : Nat → Int32} (h : 0 < Cn p 40) : itr (lp_wf_st (crv p X r 40) (crv p Y r' 40)) (Cn p 40 - 1) 1 0 = wfM p X Y := by
  unfold wfM
  refine itr_cong' (fun _ s => s < Cn p 40) _ _ _ h (fun j s h1 h2 h3 => ⟨?_, wf_st_lt (by omega) h3⟩)
  have hj : j < Cn p 40 := by omega
  unfold lp_wf_st
  rw [crv_un p X r z0 40 j hj, crv_un p X r z0 40 s h3, crv_un p Y r' z0 40 j hj, crv_un p Y r' z0 40 s h3]
theorem wfM_lt {p : Nat → Bool} {X Y : Nat → Int32} (h : 0 < Cn p 40) : wfM p X Y < Cn p 40 := by
  unfold wfM
  exact itr_inv' (fun _ s => s < Cn p 40) _ _ 1 0 h (fun j s h1 h2 h3 => wf_st_lt (by omega) h3)
/-- the first m of a row put over r -/
def putA (r : Nat → Int32) (A : Nat → Nat) (m : Nat) : Nat → Int32 := fun i => if i < m then nI (A i) else r i
theorem putA_0 (r : Nat → Int32) (A : Nat → Nat) : putA r A 0 = r := by funext i; unfold putA; rw [if_neg (by omega)]
theorem putA_s (r : Nat → Int32) (A : Nat → Nat) (m : Nat) : upd (putA r A m) m (nI (A m)) = putA r A (m + 1) := by
  funext i
  unfold upd putA
  by_cases e : i = m
  · subst e; rw [if_pos rfl, if_pos (by omega)]
  · rw [if_neg e]
    by_cases q : i < m
    · rw [if_pos q, if_pos (by omega)]
    · rw [if_neg q, if_neg (by omega)]
theorem putA_lt {r : Nat → Int32} {A : Nat → Nat} {m i : Nat} (h : i < m) : putA r A m i = nI (A i) := by unfold putA; rw [if_pos h]
set_option maxHeartbeats 400000 in
theorem lp_wm {wc : List ax_E} {m_thrown m_trouble m_fault m_where m_taped m_linkMany m_tracerMany m_pointMany m_pairMany m_readLinks m_readTracers m_readPoints m_readPairs m_textLong m_at m_spot m_token m_whole m_readFault m_readPlace m_value m_straightAt m_walkLink m_walkAngle m_walkBranch m_walkMany m_lined m_actMany a1 a2 a3 : Int32} {m_fitUp m_fitDown m_worstUp m_worstDown : Int64} {z3 z6 z7 z8 z9 z10 z11 z16 z17 z18 z19 z20 : ax_E} {q4 q5 q12 q13 q14 q15 : Nat → Int32} {c m : Nat} {A : Nat → Nat} {gm : Nat → Int64} {Q : Option Value → ax_W → Prop} (hc : c ≤ 40) (hm : m ≤ 64) (hA : ∀ i, A i < c) (hAs : ∀ i, A (i + 1) = cbM q12 q13 c (A i)) (hend : q12 (A m) = q12 (A 0) ∧ q13 (A m) = q13 (A 0)) (hno : ∀ i, 0 < i → i < m → ¬ (q12 (A i) = q12 (A 0) ∧ q13 (A i) = q13 (A 0))) (hx : Ab M_X11_wraps Q (0, 0) 103 [(6, .int 1), (5, .int (nI (A m))), (4, .int (nI (A 0))), (3, .int a3), (2, .int a2), (1, .int a1), (0, .ref 1000)] [] (wc, [ob 9 [.int m_thrown, .int m_trouble, .int m_fault, .int m_where, .ref 1001, .ref 1002, .int 40, .ref 1003, .int m_taped, .int m_linkMany, .int m_tracerMany, .int m_pointMany, .int m_pairMany, .ref 1004, .ref 1005, .ref 1006, .ref 1007, .int m_readLinks, .int m_readTracers, .int m_readPoints, .int m_readPairs, .ref 1008, .ref 1009, .ref 1010, .ref 1011, .int m_textLong, .int m_at, .int m_spot, .int m_token, .int m_whole, .int m_readFault, .int m_readPlace, .int m_value, .long (gm 33), .long (gm 34), .long (gm 35), .long (gm 36), .long (gm 37), .long (gm 38), .long (gm 39), .long (gm 40), .long (gm 41), .long (gm 42), .ref 1012, .ref 1013, .ref 1014, .int (nI c), .ref 1015, .int (nI m), .int m_straightAt, .ref 1016, .long m_fitUp, .long m_fitDown, .long m_worstUp, .long m_worstDown, .ref 1017, .int m_walkLink, .int m_walkAngle, .int m_walkBranch, .int m_walkMany, .ref 1018, .ref 1019, .int m_lined, .ref 1020, .int m_actMany], ia 64 (ax_tab 0), ia 64 (ax_tab 1), z3, ia 16 q4, ia 8 q5, z6, z7, z8, z9, z10, z11, ia 64 q12, ia 64 q13, ia 64 q14, ia 64 (putA q15 A m), z16, z17, z18, z19, z20])) : ∀ (n i : Nat), i + n + 1 = m → Ab M_X11_wraps Q (0, 0) 103 [(6, .int 0), (5, .int (nI (A i))), (4, .int (nI (A 0))), (3, .int a3), (2, .int a2), (1, .int a1), (0, .ref 1000)] [] (wc, [ob 9 [.int m_thrown, .int m_trouble, .int m_fault, .int m_where, .ref 1001, .ref 1002, .int 40, .ref 1003, .int m_taped, .int m_linkMany, .int m_tracerMany, .int m_pointMany, .int m_pairMany, .ref 1004, .ref 1005, .ref 1006, .ref 1007, .int m_readLinks, .int m_readTracers, .int m_readPoints, .int m_readPairs, .ref 1008, .ref 1009, .ref 1010, .ref 1011, .int m_textLong, .int m_at, .int m_spot, .int m_token, .int m_whole, .int m_readFault, .int m_readPlace, .int m_value, .long (gm 33), .long (gm 34), .long (gm 35), .long (gm 36), .long (gm 37), .long (gm 38), .long (gm 39), .long (gm 40), .long (gm 41), .long (gm 42), .ref 1012, .ref 1013, .ref 1014, .int (nI c), .ref 1015, .int (nI i), .int m_straightAt, .ref 1016, .long m_fitUp, .long m_fitDown, .long m_worstUp, .long m_worstDown, .ref 1017, .int m_walkLink, .int m_walkAngle, .int m_walkBranch, .int m_walkMany, .ref 1018, .ref 1019, .int m_lined, .ref 1020, .int m_actMany], ia 64 (ax_tab 0), ia 64 (ax_tab 1), z3, ia 16 q4, ia 8 q5, z6, z7, z8, z9, z10, z11, ia 64 q12, ia 64 q13, ia 64 q14, ia 64 (putA q15 A i), z16, z17, z18, z19, z20]) := by
  intro n
  induction n with
  | zero =>
    intro i hi
    have hs : q12 (A (i + 1)) = q12 (A 0) ∧ q13 (A (i + 1)) = q13 (A 0) := by rw [show i + 1 = m by omega]; exact hend
    refine ab_iload dX11_wraps_103 rfl ?_
    refine ab_ifne 150 dX11_wraps_105 (by decide) (fun h_1 => absurd (by decide) h_1) (fun h_1 => ?_)
    refine ab_aload_n dX11_wraps_108 rfl ?_
    refine ab_getf dX11_wraps_109 fl_X11_75 rfl rfl ?_
    refine ab_aload_n dX11_wraps_112 rfl ?_
    refine ab_getf dX11_wraps_113 fl_X11_455 rfl rfl ?_
    refine ab_iload dX11_wraps_116 rfl ?_
    refine ab_iast (w1 := (wc, [ob 9 [.int m_thrown, .int m_trouble, .int m_fault, .int m_where, .ref 1001, .ref 1002, .int 40, .ref 1003, .int m_taped, .int m_linkMany, .int m_tracerMany, .int m_pointMany, .int m_pairMany, .ref 1004, .ref 1005, .ref 1006, .ref 1007, .int m_readLinks, .int m_readTracers, .int m_readPoints, .int m_readPairs, .ref 1008, .ref 1009, .ref 1010, .ref 1011, .int m_textLong, .int m_at, .int m_spot, .int m_token, .int m_whole, .int m_readFault, .int m_readPlace, .int m_value, .long (gm 33), .long (gm 34), .long (gm 35), .long (gm 36), .long (gm 37), .long (gm 38), .long (gm 39), .long (gm 40), .long (gm 41), .long (gm 42), .ref 1012, .ref 1013, .ref 1014, .int (nI c), .ref 1015, .int (nI i), .int m_straightAt, .ref 1016, .long m_fitUp, .long m_fitDown, .long m_worstUp, .long m_worstDown, .ref 1017, .int m_walkLink, .int m_walkAngle, .int m_walkBranch, .int m_walkMany, .ref 1018, .ref 1019, .int m_lined, .ref 1020, .int m_actMany], ia 64 (ax_tab 0), ia 64 (ax_tab 1), z3, ia 16 q4, ia 8 q5, z6, z7, z8, z9, z10, z11, ia 64 q12, ia 64 q13, ia 64 q14, ia 64 (upd (putA q15 A i) i (nI (A i))), z16, z17, z18, z19, z20])) dX11_wraps_118 rfl (ix_nI (by omega) (by decide)) rfl ?_
    refine ab_aload_n dX11_wraps_119 rfl ?_
    refine ab_dup rfl dX11_wraps_120 ?_
    refine ab_getf dX11_wraps_121 fl_X11_455 rfl rfl ?_
    refine ab_iconst (v := 1) dX11_wraps_124 (by decide) ?_
    refine ab_iadd dX11_wraps_125 ?_
    refine ab_topi (v := (nI (i + 1))) (nI_1 _) ?_
    refine ab_putf (w1 := (wc, [ob 9 [.int m_thrown, .int m_trouble, .int m_fault, .int m_where, .ref 1001, .ref 1002, .int 40, .ref 1003, .int m_taped, .int m_linkMany, .int m_tracerMany, .int m_pointMany, .int m_pairMany, .ref 1004, .ref 1005, .ref 1006, .ref 1007, .int m_readLinks, .int m_readTracers, .int m_readPoints, .int m_readPairs, .ref 1008, .ref 1009, .ref 1010, .ref 1011, .int m_textLong, .int m_at, .int m_spot, .int m_token, .int m_whole, .int m_readFault, .int m_readPlace, .int m_value, .long (gm 33), .long (gm 34), .long (gm 35), .long (gm 36), .long (gm 37), .long (gm 38), .long (gm 39), .long (gm 40), .long (gm 41), .long (gm 42), .ref 1012, .ref 1013, .ref 1014, .int (nI c), .ref 1015, .int (nI (i + 1)), .int m_straightAt, .ref 1016, .long m_fitUp, .long m_fitDown, .long m_worstUp, .long m_worstDown, .ref 1017, .int m_walkLink, .int m_walkAngle, .int m_walkBranch, .int m_walkMany, .ref 1018, .ref 1019, .int m_lined, .ref 1020, .int m_actMany], ia 64 (ax_tab 0), ia 64 (ax_tab 1), z3, ia 16 q4, ia 8 q5, z6, z7, z8, z9, z10, z11, ia 64 q12, ia 64 q13, ia 64 q14, ia 64 (upd (putA q15 A i) i (nI (A i))), z16, z17, z18, z19, z20])) dX11_wraps_126 fl_X11_455 rfl (Nat.le_of_ble_eq_true rfl) (fun _ => ⟨rfl, rfl⟩) rfl ?_
    refine ab_aload_n dX11_wraps_129 rfl ?_
    refine ab_iload dX11_wraps_130 rfl ?_
    refine ab_callV (As := [.int (nI (A i))]) (rest := []) dX11_wraps_132 mv_X11_cornerBehind ml_X11_458 ⟨by decide, by decide, rfl, rfl, rfl⟩ (by decide) rfl rfl (Nat.le_of_ble_eq_true rfl) rfl (c_X11_cornerBehind (c := c) (f := (A i)) (by assumption) (hA _)) ?_
    rintro r w' ⟨rfl, rfl⟩
    refine ab_topi (v := (nI (A (i + 1)))) (congrArg nI (hAs i)).symm ?_
    refine ab_istore (la' := [(5, .int (nI (A (i + 1)))), (6, .int 0), (4, .int (nI (A 0))), (3, .int a3), (2, .int a2), (1, .int a1), (0, .ref 1000)]) dX11_wraps_135 (by decide) rfl ?_
    refine ab_aload_n dX11_wraps_137 rfl ?_
    refine ab_iload dX11_wraps_138 rfl ?_
    refine ab_iload dX11_wraps_140 rfl ?_
    refine ab_callV (As := [.int (nI (A (i + 1))), .int (nI (A 0))]) (rest := []) dX11_wraps_142 mv_X11_isSamePlace ml_X11_444 ⟨by decide, by decide, rfl, rfl, rfl⟩ (by decide) rfl rfl (Nat.le_of_ble_eq_true rfl) rfl (c_X11_isSamePlace (c := c) (j := (A (i + 1))) (o := (A 0)) (by assumption) (hA _) (hA _)) ?_
    rintro r w' (⟨c_2, rfl, rfl⟩ | ⟨c_3, rfl, rfl⟩)
    · refine ab_istore (la' := [(6, .int 1), (5, .int (nI (A (i + 1)))), (4, .int (nI (A 0))), (3, .int a3), (2, .int a2), (1, .int a1), (0, .ref 1000)]) dX11_wraps_145 (by decide) rfl ?_
      refine ab_goto 103 dX11_wraps_147 (by decide) ?_
      refine ab_world (wc, [ob 9 [.int m_thrown, .int m_trouble, .int m_fault, .int m_where, .ref 1001, .ref 1002, .int 40, .ref 1003, .int m_taped, .int m_linkMany, .int m_tracerMany, .int m_pointMany, .int m_pairMany, .ref 1004, .ref 1005, .ref 1006, .ref 1007, .int m_readLinks, .int m_readTracers, .int m_readPoints, .int m_readPairs, .ref 1008, .ref 1009, .ref 1010, .ref 1011, .int m_textLong, .int m_at, .int m_spot, .int m_token, .int m_whole, .int m_readFault, .int m_readPlace, .int m_value, .long (gm 33), .long (gm 34), .long (gm 35), .long (gm 36), .long (gm 37), .long (gm 38), .long (gm 39), .long (gm 40), .long (gm 41), .long (gm 42), .ref 1012, .ref 1013, .ref 1014, .int (nI c), .ref 1015, .int (nI (i + 1)), .int m_straightAt, .ref 1016, .long m_fitUp, .long m_fitDown, .long m_worstUp, .long m_worstDown, .ref 1017, .int m_walkLink, .int m_walkAngle, .int m_walkBranch, .int m_walkMany, .ref 1018, .ref 1019, .int m_lined, .ref 1020, .int m_actMany], ia 64 (ax_tab 0), ia 64 (ax_tab 1), z3, ia 16 q4, ia 8 q5, z6, z7, z8, z9, z10, z11, ia 64 q12, ia 64 q13, ia 64 q14, ia 64 (putA q15 A (i + 1)), z16, z17, z18, z19, z20]) (by rw [putA_s]) ?_
      refine ab_pick [0, 1, 2, 3, 4, 5, 6] rfl ?_
      rw [show i + 1 = m by omega]
      exact hx
    · exact absurd hs c_3
  | succ n ih =>
    intro i hi
    have hn : ¬ (q12 (A (i + 1)) = q12 (A 0) ∧ q13 (A (i + 1)) = q13 (A 0)) := hno (i + 1) (by omega) (by omega)
    refine ab_iload dX11_wraps_103 rfl ?_
    refine ab_ifne 150 dX11_wraps_105 (by decide) (fun h_1 => absurd (by decide) h_1) (fun h_1 => ?_)
    refine ab_aload_n dX11_wraps_108 rfl ?_
    refine ab_getf dX11_wraps_109 fl_X11_75 rfl rfl ?_
    refine ab_aload_n dX11_wraps_112 rfl ?_
    refine ab_getf dX11_wraps_113 fl_X11_455 rfl rfl ?_
    refine ab_iload dX11_wraps_116 rfl ?_
    refine ab_iast (w1 := (wc, [ob 9 [.int m_thrown, .int m_trouble, .int m_fault, .int m_where, .ref 1001, .ref 1002, .int 40, .ref 1003, .int m_taped, .int m_linkMany, .int m_tracerMany, .int m_pointMany, .int m_pairMany, .ref 1004, .ref 1005, .ref 1006, .ref 1007, .int m_readLinks, .int m_readTracers, .int m_readPoints, .int m_readPairs, .ref 1008, .ref 1009, .ref 1010, .ref 1011, .int m_textLong, .int m_at, .int m_spot, .int m_token, .int m_whole, .int m_readFault, .int m_readPlace, .int m_value, .long (gm 33), .long (gm 34), .long (gm 35), .long (gm 36), .long (gm 37), .long (gm 38), .long (gm 39), .long (gm 40), .long (gm 41), .long (gm 42), .ref 1012, .ref 1013, .ref 1014, .int (nI c), .ref 1015, .int (nI i), .int m_straightAt, .ref 1016, .long m_fitUp, .long m_fitDown, .long m_worstUp, .long m_worstDown, .ref 1017, .int m_walkLink, .int m_walkAngle, .int m_walkBranch, .int m_walkMany, .ref 1018, .ref 1019, .int m_lined, .ref 1020, .int m_actMany], ia 64 (ax_tab 0), ia 64 (ax_tab 1), z3, ia 16 q4, ia 8 q5, z6, z7, z8, z9, z10, z11, ia 64 q12, ia 64 q13, ia 64 q14, ia 64 (upd (putA q15 A i) i (nI (A i))), z16, z17, z18, z19, z20])) dX11_wraps_118 rfl (ix_nI (by omega) (by decide)) rfl ?_
    refine ab_aload_n dX11_wraps_119 rfl ?_
    refine ab_dup rfl dX11_wraps_120 ?_
    refine ab_getf dX11_wraps_121 fl_X11_455 rfl rfl ?_
    refine ab_iconst (v := 1) dX11_wraps_124 (by decide) ?_
    refine ab_iadd dX11_wraps_125 ?_
    refine ab_topi (v := (nI (i + 1))) (nI_1 _) ?_
    refine ab_putf (w1 := (wc, [ob 9 [.int m_thrown, .int m_trouble, .int m_fault, .int m_where, .ref 1001, .ref 1002, .int 40, .ref 1003, .int m_taped, .int m_linkMany, .int m_tracerMany, .int m_pointMany, .int m_pairMany, .ref 1004, .ref 1005, .ref 1006, .ref 1007, .int m_readLinks, .int m_readTracers, .int m_readPoints, .int m_readPairs, .ref 1008, .ref 1009, .ref 1010, .ref 1011, .int m_textLong, .int m_at, .int m_spot, .int m_token, .int m_whole, .int m_readFault, .int m_readPlace, .int m_value, .long (gm 33), .long (gm 34), .long (gm 35), .long (gm 36), .long (gm 37), .long (gm 38), .long (gm 39), .long (gm 40), .long (gm 41), .long (gm 42), .ref 1012, .ref 1013, .ref 1014, .int (nI c), .ref 1015, .int (nI (i + 1)), .int m_straightAt, .ref 1016, .long m_fitUp, .long m_fitDown, .long m_worstUp, .long m_worstDown, .ref 1017, .int m_walkLink, .int m_walkAngle, .int m_walkBranch, .int m_walkMany, .ref 1018, .ref 1019, .int m_lined, .ref 1020, .int m_actMany], ia 64 (ax_tab 0), ia 64 (ax_tab 1), z3, ia 16 q4, ia 8 q5, z6, z7, z8, z9, z10, z11, ia 64 q12, ia 64 q13, ia 64 q14, ia 64 (upd (putA q15 A i) i (nI (A i))), z16, z17, z18, z19, z20])) dX11_wraps_126 fl_X11_455 rfl (Nat.le_of_ble_eq_true rfl) (fun _ => ⟨rfl, rfl⟩) rfl ?_
    refine ab_aload_n dX11_wraps_129 rfl ?_
    refine ab_iload dX11_wraps_130 rfl ?_
    refine ab_callV (As := [.int (nI (A i))]) (rest := []) dX11_wraps_132 mv_X11_cornerBehind ml_X11_458 ⟨by decide, by decide, rfl, rfl, rfl⟩ (by decide) rfl rfl (Nat.le_of_ble_eq_true rfl) rfl (c_X11_cornerBehind (c := c) (f := (A i)) (by assumption) (hA _)) ?_
    rintro r w' ⟨rfl, rfl⟩
    refine ab_topi (v := (nI (A (i + 1)))) (congrArg nI (hAs i)).symm ?_
    refine ab_istore (la' := [(5, .int (nI (A (i + 1)))), (6, .int 0), (4, .int (nI (A 0))), (3, .int a3), (2, .int a2), (1, .int a1), (0, .ref 1000)]) dX11_wraps_135 (by decide) rfl ?_
    refine ab_aload_n dX11_wraps_137 rfl ?_
    refine ab_iload dX11_wraps_138 rfl ?_
    refine ab_iload dX11_wraps_140 rfl ?_
    refine ab_callV (As := [.int (nI (A (i + 1))), .int (nI (A 0))]) (rest := []) dX11_wraps_142 mv_X11_isSamePlace ml_X11_444 ⟨by decide, by decide, rfl, rfl, rfl⟩ (by decide) rfl rfl (Nat.le_of_ble_eq_true rfl) rfl (c_X11_isSamePlace (c := c) (j := (A (i + 1))) (o := (A 0)) (by assumption) (hA _) (hA _)) ?_
    rintro r w' (⟨c_2, rfl, rfl⟩ | ⟨c_3, rfl, rfl⟩)
    · exact absurd c_2 hn
    · refine ab_istore (la' := [(6, .int 0), (5, .int (nI (A (i + 1)))), (4, .int (nI (A 0))), (3, .int a3), (2, .int a2), (1, .int a1), (0, .ref 1000)]) dX11_wraps_145 (by decide) rfl ?_
      refine ab_goto 103 dX11_wraps_147 (by decide) ?_
      refine ab_world (wc, [ob 9 [.int m_thrown, .int m_trouble, .int m_fault, .int m_where, .ref 1001, .ref 1002, .int 40, .ref 1003, .int m_taped, .int m_linkMany, .int m_tracerMany, .int m_pointMany, .int m_pairMany, .ref 1004, .ref 1005, .ref 1006, .ref 1007, .int m_readLinks, .int m_readTracers, .int m_readPoints, .int m_readPairs, .ref 1008, .ref 1009, .ref 1010, .ref 1011, .int m_textLong, .int m_at, .int m_spot, .int m_token, .int m_whole, .int m_readFault, .int m_readPlace, .int m_value, .long (gm 33), .long (gm 34), .long (gm 35), .long (gm 36), .long (gm 37), .long (gm 38), .long (gm 39), .long (gm 40), .long (gm 41), .long (gm 42), .ref 1012, .ref 1013, .ref 1014, .int (nI c), .ref 1015, .int (nI (i + 1)), .int m_straightAt, .ref 1016, .long m_fitUp, .long m_fitDown, .long m_worstUp, .long m_worstDown, .ref 1017, .int m_walkLink, .int m_walkAngle, .int m_walkBranch, .int m_walkMany, .ref 1018, .ref 1019, .int m_lined, .ref 1020, .int m_actMany], ia 64 (ax_tab 0), ia 64 (ax_tab 1), z3, ia 16 q4, ia 8 q5, z6, z7, z8, z9, z10, z11, ia 64 q12, ia 64 q13, ia 64 q14, ia 64 (putA q15 A (i + 1)), z16, z17, z18, z19, z20]) (by rw [putA_s]) ?_
      refine ab_pick [0, 1, 2, 3, 4, 5, 6] rfl ?_
      exact ih (i + 1) (by omega)
theorem mar_lt {p : Nat → Bool} {X Y : Nat → Int32} {A : Nat → Nat} (h0 : 0 < Cn p 40) (h_A0 : 0 < Cn p 40 → A 0 = wfM p X Y) (h_As : ∀ i, A (i + 1) = cbM (crv p X z0 40) (crv p Y z0 40) (Cn p 40) (A i)) : ∀ i, A i < Cn p 40
  | 0 => by rw [h_A0 h0]; exact wfM_lt h0
  | i + 1 => by rw [h_As]; exact cbM_lt (mar_lt h0 h_A0 h_As i)
theorem mar_s {p : Nat → Bool} {X Y r r' : Nat → Int32} {A : Nat → Nat} (h0 : 0 < Cn p 40) (h_A0 : 0 < Cn p 40 → A 0 = wfM p X Y) (h_As : ∀ i, A (i + 1) = cbM (crv p X z0 40) (crv p Y z0 40) (Cn p 40) (A i)) (i : Nat) : A (i + 1) = cbM (crv p X r 40) (crv p Y r' 40) (Cn p 40) (A i) := (h_As i).trans (cb_can (mar_lt h0 h_A0 h_As i)).symm
theorem same_can {p : Nat → Bool} {X Y r r' : Nat → Int32} {A : Nat → Nat} (hA : ∀ i, A i < Cn p 40) (i : Nat) : (crv p X r 40 (A i) = crv p X r 40 (A 0) ∧ crv p Y r' 40 (A i) = crv p Y r' 40 (A 0)) ↔ (crv p X z0 40 (A i) = crv p X z0 40 (A 0) ∧ crv p Y z0 40 (A i) = crv p Y z0 40 (A 0)) := by
  rw [crv_un p X r z0 40 _ (hA i), crv_un p X r z0 40 _ (hA 0), crv_un p Y r' z0 40 _ (hA i), crv_un p Y r' z0 40 _ (hA 0)]
theorem c_X11_wraps {wc : List ax_E} {m_thrown m_trouble m_fault m_where m_taped m_linkMany m_tracerMany m_pointMany m_pairMany m_readLinks m_readTracers m_readPoints m_readPairs m_textLong m_at m_spot m_token m_whole m_readFault m_readPlace m_value m_curveMany m_cornerMany m_straightAt m_walkLink m_walkAngle m_walkBranch m_walkMany m_lined m_actMany a1 a2 a3 : Int32} {m_n m_c m_d m_s m_e m_k m_x m_y m_g m_a m_fitUp m_fitDown m_worstUp m_worstDown : Int64} {z3 z6 z7 z8 z9 z10 z11 z16 z17 z18 z19 z20 : ax_E} {q4 q5 q12 q13 q14 q15 X Y : Nat → Int32} {p : Nat → Bool} {A : Nat → Nat} {m : Nat} (h_i : 0 ≤ a1 ∧ a1 < m_linkMany) (h_l : 0 ≤ m_linkMany ∧ m_linkMany ≤ nI 4) (h_i2 : 0 ≤ a2 ∧ a2 < m_tracerMany) (h_t : 0 ≤ m_tracerMany ∧ m_tracerMany ≤ nI 4) (h_p : ∀ k, p k = true ↔ lawM q4 a1 k) (h_X : ∀ k, k < 40 → lawM q4 a1 k → X k = mX q4 q5 a1 a2 a3 k) (h_Y : ∀ k, k < 40 → lawM q4 a1 k → Y k = mY q4 q5 a1 a2 a3 k) (h_ok : ∀ k, k < 40 → lawM q4 a1 k → okS (mV0 q4 q5 a1 a2 a3 k) (Ml_k q4 a1 (nI k)) ∧ okS (mV1 q4 q5 a1 a2 a3 k) (Ml_k q4 a1 (nI k)) ∧ 0 < mWd q4 a1 k) (h_A0 : 0 < Cn p 40 → A 0 = wfM p X Y) (h_As : ∀ i, A (i + 1) = cbM (crv p X z0 40) (crv p Y z0 40) (Cn p 40) (A i)) (h_m : 0 < Cn p 40 → 1 ≤ m ∧ m ≤ 40 ∧ (crv p X z0 40 (A m) = crv p X z0 40 (A 0) ∧ crv p Y z0 40 (A m) = crv p Y z0 40 (A 0)) ∧ ∀ i, 0 < i → i < m → ¬ (crv p X z0 40 (A i) = crv p X z0 40 (A 0) ∧ crv p Y z0 40 (A i) = crv p Y z0 40 (A 0))) : Ct M_X11_wraps [.ref 1000, .int a1, .int a2, .int a3] (wc, [ob 9 [.int m_thrown, .int m_trouble, .int m_fault, .int m_where, .ref 1001, .ref 1002, .int 40, .ref 1003, .int m_taped, .int m_linkMany, .int m_tracerMany, .int m_pointMany, .int m_pairMany, .ref 1004, .ref 1005, .ref 1006, .ref 1007, .int m_readLinks, .int m_readTracers, .int m_readPoints, .int m_readPairs, .ref 1008, .ref 1009, .ref 1010, .ref 1011, .int m_textLong, .int m_at, .int m_spot, .int m_token, .int m_whole, .int m_readFault, .int m_readPlace, .int m_value, .long m_n, .long m_c, .long m_d, .long m_s, .long m_e, .long m_k, .long m_x, .long m_y, .long m_g, .long m_a, .ref 1012, .ref 1013, .ref 1014, .int m_curveMany, .ref 1015, .int m_cornerMany, .int m_straightAt, .ref 1016, .long m_fitUp, .long m_fitDown, .long m_worstUp, .long m_worstDown, .ref 1017, .int m_walkLink, .int m_walkAngle, .int m_walkBranch, .int m_walkMany, .ref 1018, .ref 1019, .int m_lined, .ref 1020, .int m_actMany], ia 64 (ax_tab 0), ia 64 (ax_tab 1), z3, ia 16 q4, ia 8 q5, z6, z7, z8, z9, z10, z11, ia 64 q12, ia 64 q13, ia 64 q14, ia 64 q15, z16, z17, z18, z19, z20]) (fun r w' => (∃ gm_1 : Nat → Int64, ∃ gm_3 : Nat → Int64, (¬ (nI (Cn p 40)) = 0) ∧ r = none ∧ w' = (wc, [ob 9 [.int m_thrown, .int m_trouble, .int m_fault, .int m_where, .ref 1001, .ref 1002, .int 40, .ref 1003, .int m_taped, .int m_linkMany, .int m_tracerMany, .int m_pointMany, .int m_pairMany, .ref 1004, .ref 1005, .ref 1006, .ref 1007, .int m_readLinks, .int m_readTracers, .int m_readPoints, .int m_readPairs, .ref 1008, .ref 1009, .ref 1010, .ref 1011, .int m_textLong, .int m_at, .int m_spot, .int m_token, .int m_whole, .int m_readFault, .int m_readPlace, .int m_value, .long (gm_3 33), .long (gm_3 34), .long (gm_3 35), .long (gm_3 36), .long (gm_3 37), .long (gm_3 38), .long (gm_3 39), .long (gm_3 40), .long (gm_3 41), .long (gm_3 42), .ref 1012, .ref 1013, .ref 1014, .int (nI (Cn p 40)), .ref 1015, .int (nI m), .int m_straightAt, .ref 1016, .long m_fitUp, .long m_fitDown, .long m_worstUp, .long m_worstDown, .ref 1017, .int m_walkLink, .int m_walkAngle, .int m_walkBranch, .int m_walkMany, .ref 1018, .ref 1019, .int m_lined, .ref 1020, .int m_actMany], ia 64 (ax_tab 0), ia 64 (ax_tab 1), z3, ia 16 q4, ia 8 q5, z6, z7, z8, z9, z10, z11, ia 64 (crv p X q12 40), ia 64 (crv p Y q13 40), ia 64 (crv p nI q14 40), ia 64 (putA q15 A m), z16, z17, z18, z19, z20])) ∨ (∃ gm_1 : Nat → Int64, ((nI (Cn p 40)) = 0) ∧ r = none ∧ w' = (wc, [ob 9 [.int m_thrown, .int m_trouble, .int m_fault, .int m_where, .ref 1001, .ref 1002, .int 40, .ref 1003, .int m_taped, .int m_linkMany, .int m_tracerMany, .int m_pointMany, .int m_pairMany, .ref 1004, .ref 1005, .ref 1006, .ref 1007, .int m_readLinks, .int m_readTracers, .int m_readPoints, .int m_readPairs, .ref 1008, .ref 1009, .ref 1010, .ref 1011, .int m_textLong, .int m_at, .int m_spot, .int m_token, .int m_whole, .int m_readFault, .int m_readPlace, .int m_value, .long (gm_1 33), .long (gm_1 34), .long (gm_1 35), .long (gm_1 36), .long (gm_1 37), .long (gm_1 38), .long (gm_1 39), .long (gm_1 40), .long (gm_1 41), .long (gm_1 42), .ref 1012, .ref 1013, .ref 1014, .int (nI (Cn p 40)), .ref 1015, .int 0, .int m_straightAt, .ref 1016, .long m_fitUp, .long m_fitDown, .long m_worstUp, .long m_worstDown, .ref 1017, .int m_walkLink, .int m_walkAngle, .int m_walkBranch, .int m_walkMany, .ref 1018, .ref 1019, .int m_lined, .ref 1020, .int m_actMany], ia 64 (ax_tab 0), ia 64 (ax_tab 1), z3, ia 16 q4, ia 8 q5, z6, z7, z8, z9, z10, z11, ia 64 (crv p X q12 40), ia 64 (crv p Y q13 40), ia 64 (crv p nI q14 40), ia 64 q15, z16, z17, z18, z19, z20]))) := by
  refine ct_of ⟨by decide, rfl⟩ (Nat.le_of_ble_eq_true rfl) ?_
  refine ab_aload_n dX11_wraps_0 rfl ?_
  refine ab_iload_n dX11_wraps_1 rfl ?_
  refine ab_iload_n dX11_wraps_2 rfl ?_
  refine ab_iload_n dX11_wraps_3 rfl ?_
  refine ab_callV (As := [.int a1, .int a2, .int a3]) (rest := []) dX11_wraps_4 mv_X11_traces ml_X11_427 ⟨by decide, by decide, rfl, rfl, rfl⟩ (by decide) rfl rfl (Nat.le_of_ble_eq_true rfl) rfl (c_X11_traces (p := p) (X := X) (Y := Y) h_i h_l h_i2 h_t h_p h_X h_Y h_ok) ?_
  rintro r w' ⟨gm_1, rfl, rfl⟩
  refine ab_aload_n dX11_wraps_7 rfl ?_
  refine ab_iconst (v := 0) dX11_wraps_8 (by decide) ?_
  refine ab_putf (w1 := (wc, [ob 9 [.int m_thrown, .int m_trouble, .int m_fault, .int m_where, .ref 1001, .ref 1002, .int 40, .ref 1003, .int m_taped, .int m_linkMany, .int m_tracerMany, .int m_pointMany, .int m_pairMany, .ref 1004, .ref 1005, .ref 1006, .ref 1007, .int m_readLinks, .int m_readTracers, .int m_readPoints, .int m_readPairs, .ref 1008, .ref 1009, .ref 1010, .ref 1011, .int m_textLong, .int m_at, .int m_spot, .int m_token, .int m_whole, .int m_readFault, .int m_readPlace, .int m_value, .long (gm_1 33), .long (gm_1 34), .long (gm_1 35), .long (gm_1 36), .long (gm_1 37), .long (gm_1 38), .long (gm_1 39), .long (gm_1 40), .long (gm_1 41), .long (gm_1 42), .ref 1012, .ref 1013, .ref 1014, .int (nI (Cn p 40)), .ref 1015, .int 0, .int m_straightAt, .ref 1016, .long m_fitUp, .long m_fitDown, .long m_worstUp, .long m_worstDown, .ref 1017, .int m_walkLink, .int m_walkAngle, .int m_walkBranch, .int m_walkMany, .ref 1018, .ref 1019, .int m_lined, .ref 1020, .int m_actMany], ia 64 (ax_tab 0), ia 64 (ax_tab 1), z3, ia 16 q4, ia 8 q5, z6, z7, z8, z9, z10, z11, ia 64 (crv p X q12 40), ia 64 (crv p Y q13 40), ia 64 (crv p nI q14 40), ia 64 q15, z16, z17, z18, z19, z20])) dX11_wraps_9 fl_X11_455 rfl (Nat.le_of_ble_eq_true rfl) (fun _ => ⟨rfl, rfl⟩) rfl ?_
  refine ab_aload_n dX11_wraps_12 rfl ?_
  refine ab_getf dX11_wraps_13 fl_X11_424 rfl rfl ?_
  refine ab_ifne 20 dX11_wraps_16 (by decide) (fun h_2 => ?_) (fun h_2 => ?_)
  · refine ab_iconst (v := 0) dX11_wraps_20 (by decide) ?_
    refine ab_istore (la' := [(4, .int 0), (0, .ref 1000), (1, .int a1), (2, .int a2), (3, .int a3)]) dX11_wraps_21 (by decide) rfl ?_
    refine ab_iconst (v := 1) dX11_wraps_23 (by decide) ?_
    refine ab_istore (la' := [(5, .int 1), (4, .int 0), (0, .ref 1000), (1, .int a1), (2, .int a2), (3, .int a3)]) dX11_wraps_24 (by decide) rfl ?_
    have hp0 := cn_pos p h_2
    refine ab_pick [0, 1, 5, 4, 3, 2] rfl ?_
    refine lp_wf (cn_le p 40) (cn_pos p h_2) ((Cn p 40) - 1) 1 0 (fun i => [(gm_1 33), (gm_1 34), (gm_1 35), (gm_1 36), (gm_1 37), (gm_1 38), (gm_1 39), (gm_1 40), (gm_1 41), (gm_1 42)].getD (i - 33) 0) (by omega) (cn_pos p h_2) ?_
    intro gm_3
    refine ab_iload dX11_wraps_96 rfl ?_
    refine ab_istore (la' := [(5, .int (nI (itr (lp_wf_st (crv p X q12 40) (crv p Y q13 40)) ((Cn p 40) - 1) 1 0))), (4, .int (nI (itr (lp_wf_st (crv p X q12 40) (crv p Y q13 40)) ((Cn p 40) - 1) 1 0))), (3, .int a3), (2, .int a2), (1, .int a1), (0, .ref 1000)]) dX11_wraps_98 (by decide) rfl ?_
    refine ab_iconst (v := 0) dX11_wraps_100 (by decide) ?_
    refine ab_istore (la' := [(6, .int 0), (5, .int (nI (itr (lp_wf_st (crv p X q12 40) (crv p Y q13 40)) ((Cn p 40) - 1) 1 0))), (4, .int (nI (itr (lp_wf_st (crv p X q12 40) (crv p Y q13 40)) ((Cn p 40) - 1) 1 0))), (3, .int a3), (2, .int a2), (1, .int a1), (0, .ref 1000)]) dX11_wraps_101 (by decide) rfl ?_
    obtain ⟨m1, m2, m3, m4⟩ := h_m hp0
    have hA := mar_lt hp0 h_A0 h_As
    refine ab_world (wc, [ob 9 [.int m_thrown, .int m_trouble, .int m_fault, .int m_where, .ref 1001, .ref 1002, .int 40, .ref 1003, .int m_taped, .int m_linkMany, .int m_tracerMany, .int m_pointMany, .int m_pairMany, .ref 1004, .ref 1005, .ref 1006, .ref 1007, .int m_readLinks, .int m_readTracers, .int m_readPoints, .int m_readPairs, .ref 1008, .ref 1009, .ref 1010, .ref 1011, .int m_textLong, .int m_at, .int m_spot, .int m_token, .int m_whole, .int m_readFault, .int m_readPlace, .int m_value, .long (gm_3 33), .long (gm_3 34), .long (gm_3 35), .long (gm_3 36), .long (gm_3 37), .long (gm_3 38), .long (gm_3 39), .long (gm_3 40), .long (gm_3 41), .long (gm_3 42), .ref 1012, .ref 1013, .ref 1014, .int (nI (Cn p 40)), .ref 1015, .int 0, .int m_straightAt, .ref 1016, .long m_fitUp, .long m_fitDown, .long m_worstUp, .long m_worstDown, .ref 1017, .int m_walkLink, .int m_walkAngle, .int m_walkBranch, .int m_walkMany, .ref 1018, .ref 1019, .int m_lined, .ref 1020, .int m_actMany], ia 64 (ax_tab 0), ia 64 (ax_tab 1), z3, ia 16 q4, ia 8 q5, z6, z7, z8, z9, z10, z11, ia 64 (crv p X q12 40), ia 64 (crv p Y q13 40), ia 64 (crv p nI q14 40), ia 64 (putA q15 A 0), z16, z17, z18, z19, z20]) (by rw [putA_0]) ?_
    refine ab_pick [0, 1, 2, 3, 4, 5, 6] rfl ?_
    rw [wf_can hp0, ← h_A0 hp0]
    refine lp_wm (c := Cn p 40) (q12 := crv p X q12 40) (q13 := crv p Y q13 40) (q14 := crv p nI q14 40) (q15 := q15) (gm := gm_3) (A := A) (m := m) (cn_le p 40) (by omega) hA (mar_s hp0 h_A0 h_As) ((same_can hA m).mpr m3) (fun i a b z => m4 i a b ((same_can hA i).mp z)) ?_ (m - 1) 0 (by omega)
    refine ab_iload dX11_wraps_103 rfl ?_
    refine ab_ifne 150 dX11_wraps_105 (by decide) (fun h_4 => ?_) (fun h_4 => absurd h_4 (by decide))
    exact ab_vret dX11_wraps_150 rfl (by decide) (Or.inl ⟨gm_1, gm_3, h_2, rfl, rfl⟩)
  · exact ab_vret dX11_wraps_19 rfl (by decide) (Or.inr (⟨gm_1, h_2, rfl, rfl⟩))
