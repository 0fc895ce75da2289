theorem rt_0 : lN (rt 0) = 0 := by decide
theorem c_X9_rootOf_a {w : ax_W} {n : Nat} (hn : n < 2 ^ 62) : Ct M_X9_rootOf [.long (lN n)] w (fun r w' => r = some (.long (lN (rt n))) ∧ w' = w) := by
  rcases Nat.eq_zero_or_pos n with h | h
  · subst h
    rw [rt_0]
    exact c_X9_rootOf_0
  · exact c_X9_rootOf h hn
theorem ne_of_pos {w : Int64} (h : 0 < w) : ¬ w = 0 := fun z => by rw [z] at h; exact absurd h (by decide)
def FlC (a1 : Int64) (a2 : Int64) (a4 : Int64) (N : Nat) : Int64 := (if 0 ≤ a2 then (Fdv (a1 + (lN (rt N))) a4) else (if ((lN (rt N)) * (lN (rt N))) = (lN N) then (Fdv (a1 - (lN (rt N))) a4) else (Fdv ((a1 - (lN (rt N))) - 1) a4)))
theorem c_X9_floorOf {w : ax_W} {a1 a2 a3 a4 : Int64} {N : Nat} (h_sq : a2 * a2 * a3 = lN N) (h_N : N < 2 ^ 62) (h_w : 0 < a4) : Ct M_X9_floorOf [.long a1, .long a2, .long a3, .long a4] w (fun r w' => r = some (.long (FlC a1 a2 a4 N)) ∧ w' = w) := by
  refine ct_of ⟨by decide, rfl⟩ (Nat.le_of_ble_eq_true rfl) ?_
  refine ab_lload dX9_floorOf_0 rfl ?_
  refine ab_lconst (v := 0) dX9_floorOf_2 (by decide) ?_
  refine ab_lcmpgt 9 dX9_floorOf_3 dX9_floorOf_4 (by decide) (fun h_1 => ?_) (fun h_1 => absurd h_w h_1)
  refine ab_lload_n dX9_floorOf_9 rfl ?_
  refine ab_lload_n dX9_floorOf_10 rfl ?_
  refine ab_lmul dX9_floorOf_11 ?_
  refine ab_lload dX9_floorOf_12 rfl ?_
  refine ab_lmul dX9_floorOf_14 ?_
  refine ab_topl (v := (lN N)) h_sq ?_
  refine ab_lstore (la' := [(8, .long (lN N)), (0, .long a1), (2, .long a2), (4, .long a3), (6, .long a4)]) dX9_floorOf_15 (by decide) rfl ?_
  refine ab_lload dX9_floorOf_17 rfl ?_
  refine ab_callS (As := [.long (lN N)]) (rest := []) dX9_floorOf_19 ms_X9_rootOf ml_X9_27 ⟨by decide, by decide, rfl, rfl, rfl⟩ (by decide) rfl rfl (Nat.le_of_ble_eq_true rfl) (c_X9_rootOf_a (n := N) h_N) ?_
  rintro r w' ⟨rfl, rfl⟩
  refine ab_lstore (la' := [(10, .long (lN (rt N))), (8, .long (lN N)), (0, .long a1), (2, .long a2), (4, .long a3), (6, .long a4)]) dX9_floorOf_22 (by decide) rfl ?_
  refine ab_lload_n dX9_floorOf_24 rfl ?_
  refine ab_lload dX9_floorOf_25 rfl ?_
  refine ab_ladd dX9_floorOf_27 ?_
  refine ab_lstore (la' := [(12, .long (a1 + (lN (rt N)))), (10, .long (lN (rt N))), (8, .long (lN N)), (0, .long a1), (2, .long a2), (4, .long a3), (6, .long a4)]) dX9_floorOf_28 (by decide) rfl ?_
  refine ab_lload_n dX9_floorOf_30 rfl ?_
  refine ab_lconst (v := 0) dX9_floorOf_31 (by decide) ?_
  refine ab_lcmpge 62 dX9_floorOf_32 dX9_floorOf_33 (by decide) (fun h_2 => ?_) (fun h_2 => ?_)
  · refine ab_lload dX9_floorOf_62 rfl ?_
    refine ab_lload dX9_floorOf_64 rfl ?_
    refine ab_callS (As := [.long (a1 + (lN (rt N))), .long a4]) (rest := []) dX9_floorOf_66 ms_J9_floorDiv_f86c9 ml_X9_30 ⟨by decide, by decide, rfl, rfl, rfl⟩ (by decide) rfl rfl (Nat.le_of_ble_eq_true rfl) (c_J9_floorDiv_f86c9 (ne_of_pos h_w)) ?_
    rintro r w' ⟨rfl, rfl⟩
    exact ab_lret dX9_floorOf_69 rfl (by decide) (⟨by rw [FlC, if_pos (show 0 ≤ a2 from h_2)], rfl⟩)
  · refine ab_lload dX9_floorOf_36 rfl ?_
    refine ab_lload dX9_floorOf_38 rfl ?_
    refine ab_lmul dX9_floorOf_40 ?_
    refine ab_lload dX9_floorOf_41 rfl ?_
    refine ab_lcmpne 54 dX9_floorOf_43 dX9_floorOf_44 (by decide) (fun h_3 => ?_) (fun h_3 => ?_)
    · refine ab_lload_n dX9_floorOf_54 rfl ?_
      refine ab_lload dX9_floorOf_55 rfl ?_
      refine ab_lsub dX9_floorOf_57 ?_
      refine ab_lconst (v := 1) dX9_floorOf_58 (by decide) ?_
      refine ab_lsub dX9_floorOf_59 ?_
      refine ab_lstore (la' := [(12, .long ((a1 - (lN (rt N))) - 1)), (10, .long (lN (rt N))), (8, .long (lN N)), (0, .long a1), (2, .long a2), (4, .long a3), (6, .long a4)]) dX9_floorOf_60 (by decide) rfl ?_
      refine ab_lload dX9_floorOf_62 rfl ?_
      refine ab_lload dX9_floorOf_64 rfl ?_
      refine ab_callS (As := [.long ((a1 - (lN (rt N))) - 1), .long a4]) (rest := []) dX9_floorOf_66 ms_J9_floorDiv_f86c9 ml_X9_30 ⟨by decide, by decide, rfl, rfl, rfl⟩ (by decide) rfl rfl (Nat.le_of_ble_eq_true rfl) (c_J9_floorDiv_f86c9 (ne_of_pos h_w)) ?_
      rintro r w' ⟨rfl, rfl⟩
      exact ab_lret dX9_floorOf_69 rfl (by decide) (⟨by rw [FlC, if_neg (show ¬ 0 ≤ a2 from h_2), if_neg (show ¬ ((lN (rt N)) * (lN (rt N))) = (lN N) from h_3)], rfl⟩)
    · refine ab_lload_n dX9_floorOf_47 rfl ?_
      refine ab_lload dX9_floorOf_48 rfl ?_
      refine ab_lsub dX9_floorOf_50 ?_
      refine ab_goto 60 dX9_floorOf_51 (by decide) ?_
      refine ab_lstore (la' := [(12, .long (a1 - (lN (rt N)))), (10, .long (lN (rt N))), (8, .long (lN N)), (0, .long a1), (2, .long a2), (4, .long a3), (6, .long a4)]) dX9_floorOf_60 (by decide) rfl ?_
      refine ab_lload dX9_floorOf_62 rfl ?_
      refine ab_lload dX9_floorOf_64 rfl ?_
      refine ab_callS (As := [.long (a1 - (lN (rt N))), .long a4]) (rest := []) dX9_floorOf_66 ms_J9_floorDiv_f86c9 ml_X9_30 ⟨by decide, by decide, rfl, rfl, rfl⟩ (by decide) rfl rfl (Nat.le_of_ble_eq_true rfl) (c_J9_floorDiv_f86c9 (ne_of_pos h_w)) ?_
      rintro r w' ⟨rfl, rfl⟩
      exact ab_lret dX9_floorOf_69 rfl (by decide) (⟨by rw [FlC, if_neg (show ¬ 0 ≤ a2 from h_2), if_pos (show ((lN (rt N)) * (lN (rt N))) = (lN N) from h_3)], rfl⟩)
theorem c_X9_isWhole {w : ax_W} {a1 a2 a3 a4 : Int64} {N : Nat} (h_sq : a2 * a2 * a3 = lN N) (h_N : N < 2 ^ 62) : Ct M_X9_isWhole [.long a1, .long a2, .long a3, .long a4] w (fun r w' => ((lN (rt N) * lN (rt N) = lN N ∧ (if 0 ≤ a2 then a1 + lN (rt N) else a1 - lN (rt N)) = a4) ∧ r = some (.int 1) ∧ w' = w) ∨ ((¬ (lN (rt N) * lN (rt N) = lN N ∧ (if 0 ≤ a2 then a1 + lN (rt N) else a1 - lN (rt N)) = a4)) ∧ r = some (.int 0) ∧ w' = w)) := by
  refine ct_of ⟨by decide, rfl⟩ (Nat.le_of_ble_eq_true rfl) ?_
  refine ab_lload_n dX9_isWhole_0 rfl ?_
  refine ab_lload_n dX9_isWhole_1 rfl ?_
  refine ab_lmul dX9_isWhole_2 ?_
  refine ab_lload dX9_isWhole_3 rfl ?_
  refine ab_lmul dX9_isWhole_5 ?_
  refine ab_topl (v := (lN N)) h_sq ?_
  refine ab_lstore (la' := [(8, .long (lN N)), (0, .long a1), (2, .long a2), (4, .long a3), (6, .long a4)]) dX9_isWhole_6 (by decide) rfl ?_
  refine ab_lload dX9_isWhole_8 rfl ?_
  refine ab_callS (As := [.long (lN N)]) (rest := []) dX9_isWhole_10 ms_X9_rootOf ml_X9_27 ⟨by decide, by decide, rfl, rfl, rfl⟩ (by decide) rfl rfl (Nat.le_of_ble_eq_true rfl) (c_X9_rootOf_a (n := N) h_N) ?_
  rintro r w' ⟨rfl, rfl⟩
  refine ab_lstore (la' := [(10, .long (lN (rt N))), (8, .long (lN N)), (0, .long a1), (2, .long a2), (4, .long a3), (6, .long a4)]) dX9_isWhole_13 (by decide) rfl ?_
  refine ab_lload dX9_isWhole_15 rfl ?_
  refine ab_lload dX9_isWhole_17 rfl ?_
  refine ab_lmul dX9_isWhole_19 ?_
  refine ab_lload dX9_isWhole_20 rfl ?_
  refine ab_lcmpne 53 dX9_isWhole_22 dX9_isWhole_23 (by decide) (fun h_1 => ?_) (fun h_1 => ?_)
  · refine ab_iconst (v := 0) dX9_isWhole_53 (by decide) ?_
    exact ab_zret dX9_isWhole_54 rfl rfl (by decide) (Or.inr (⟨(by grind), rfl, rfl⟩))
  · refine ab_lload_n dX9_isWhole_26 rfl ?_
    refine ab_lconst (v := 0) dX9_isWhole_27 (by decide) ?_
    refine ab_lcmpge 39 dX9_isWhole_28 dX9_isWhole_29 (by decide) (fun h_2 => ?_) (fun h_2 => ?_)
    · refine ab_lload_n dX9_isWhole_39 rfl ?_
      refine ab_lload dX9_isWhole_40 rfl ?_
      refine ab_ladd dX9_isWhole_42 ?_
      refine ab_lload dX9_isWhole_43 rfl ?_
      refine ab_lcmpne 53 dX9_isWhole_45 dX9_isWhole_46 (by decide) (fun h_3 => ?_) (fun h_3 => ?_)
      · refine ab_iconst (v := 0) dX9_isWhole_53 (by decide) ?_
        exact ab_zret dX9_isWhole_54 rfl rfl (by decide) (Or.inr (⟨(by grind), rfl, rfl⟩))
      · refine ab_iconst (v := 1) dX9_isWhole_49 (by decide) ?_
        refine ab_goto 54 dX9_isWhole_50 (by decide) ?_
        exact ab_zret dX9_isWhole_54 rfl rfl (by decide) (Or.inl (⟨(by grind), rfl, rfl⟩))
    · refine ab_lload_n dX9_isWhole_32 rfl ?_
      refine ab_lload dX9_isWhole_33 rfl ?_
      refine ab_lsub dX9_isWhole_35 ?_
      refine ab_goto 43 dX9_isWhole_36 (by decide) ?_
      refine ab_lload dX9_isWhole_43 rfl ?_
      refine ab_lcmpne 53 dX9_isWhole_45 dX9_isWhole_46 (by decide) (fun h_4 => ?_) (fun h_4 => ?_)
      · refine ab_iconst (v := 0) dX9_isWhole_53 (by decide) ?_
        exact ab_zret dX9_isWhole_54 rfl rfl (by decide) (Or.inr (⟨(by grind), rfl, rfl⟩))
      · refine ab_iconst (v := 1) dX9_isWhole_49 (by decide) ?_
        refine ab_goto 54 dX9_isWhole_50 (by decide) ?_
        exact ab_zret dX9_isWhole_54 rfl rfl (by decide) (Or.inl (⟨(by grind), rfl, rfl⟩))
def Mfl (a1 : Int64) (a2 : Int64) : Int64 := (if a1 < 0 then (-((((-a1) + a2) - 1) / a2)) else (a1 / a2))
theorem c_X11_floor {w : ax_W} {a1 a2 : Int64} (h_0 : ¬ a2 = 0) : Ct M_X11_floor [.long a1, .long a2] w (fun r w' => r = some (.long (Mfl a1 a2)) ∧ w' = w) := by
  refine ct_of ⟨by decide, rfl⟩ (Nat.le_of_ble_eq_true rfl) ?_
  refine ab_lload_n dX11_floor_0 rfl ?_
  refine ab_lconst (v := 0) dX11_floor_1 (by decide) ?_
  refine ab_lcmplt 12 dX11_floor_2 dX11_floor_3 (by decide) (fun h_1 => ?_) (fun h_1 => ?_)
  · refine ab_lload_n dX11_floor_12 rfl ?_
    refine ab_lneg dX11_floor_13 ?_
    refine ab_lload_n dX11_floor_14 rfl ?_
    refine ab_ladd dX11_floor_15 ?_
    refine ab_lconst (v := 1) dX11_floor_16 (by decide) ?_
    refine ab_lsub dX11_floor_17 ?_
    refine ab_lload_n dX11_floor_18 rfl ?_
    refine ab_ldiv dX11_floor_19 h_0 ?_
    refine ab_lneg dX11_floor_20 ?_
    exact ab_lret dX11_floor_21 rfl (by decide) (⟨by rw [Mfl, if_pos (show a1 < 0 from h_1)], rfl⟩)
  · refine ab_lload_n dX11_floor_6 rfl ?_
    refine ab_lload_n dX11_floor_7 rfl ?_
    refine ab_ldiv dX11_floor_8 h_0 ?_
    refine ab_goto 21 dX11_floor_9 (by decide) ?_
    exact ab_lret dX11_floor_21 rfl (by decide) (⟨by rw [Mfl, if_neg (show ¬ a1 < 0 from h_1)], rfl⟩)
def FlM (a1 : Int64) (a2 : Int64) (a3 : Int64) (N : Nat) : Int64 := (if a2 < 0 then (if (lN N) ≤ ((lN (rt N)) * (lN (rt N))) then (Mfl ((a1 - (lN (rt N))) - 0) a3) else (Mfl ((a1 - (lN (rt N))) - 1) a3)) else (Mfl (a1 + (lN (rt N))) a3))
theorem c_X11_floorOf {wc : List ax_E} {m_thrown m_trouble m_fault m_where m_taped m_linkMany m_tracerMany m_pointMany m_pairMany m_readLinks m_readTracers m_readPoints m_readPairs m_textLong m_at m_spot m_token m_whole m_readFault m_readPlace m_value m_curveMany m_cornerMany m_straightAt m_walkLink m_walkAngle m_walkBranch m_walkMany m_lined m_actMany : Int32} {m_n m_c m_d m_s m_e m_k m_x m_y m_g m_a m_fitUp m_fitDown m_worstUp m_worstDown a1 a2 a3 : Int64} {z1 z2 z3 z4 z5 z6 z7 z8 z9 z10 z11 z12 z13 z14 z15 z16 z17 z18 z19 z20 : ax_E} {N : Nat} (h_sq : a2 * a2 * m_k = lN N) (h_N : N < 2 ^ 62) (h_w : 0 < a3) : Ct M_X11_floorOf [.ref 1000, .long a1, .long a2, .long a3] (wc, [ob 9 [.int m_thrown, .int m_trouble, .int m_fault, .int m_where, .ref 1001, .ref 1002, .int 40, .ref 1003, .int m_taped, .int m_linkMany, .int m_tracerMany, .int m_pointMany, .int m_pairMany, .ref 1004, .ref 1005, .ref 1006, .ref 1007, .int m_readLinks, .int m_readTracers, .int m_readPoints, .int m_readPairs, .ref 1008, .ref 1009, .ref 1010, .ref 1011, .int m_textLong, .int m_at, .int m_spot, .int m_token, .int m_whole, .int m_readFault, .int m_readPlace, .int m_value, .long m_n, .long m_c, .long m_d, .long m_s, .long m_e, .long m_k, .long m_x, .long m_y, .long m_g, .long m_a, .ref 1012, .ref 1013, .ref 1014, .int m_curveMany, .ref 1015, .int m_cornerMany, .int m_straightAt, .ref 1016, .long m_fitUp, .long m_fitDown, .long m_worstUp, .long m_worstDown, .ref 1017, .int m_walkLink, .int m_walkAngle, .int m_walkBranch, .int m_walkMany, .ref 1018, .ref 1019, .int m_lined, .ref 1020, .int m_actMany], z1, z2, z3, z4, z5, z6, z7, z8, z9, z10, z11, z12, z13, z14, z15, z16, z17, z18, z19, z20]) (fun r w' => r = some (.long (FlM a1 a2 a3 N)) ∧ w' = (wc, [ob 9 [.int m_thrown, .int m_trouble, .int m_fault, .int m_where, .ref 1001, .ref 1002, .int 40, .ref 1003, .int m_taped, .int m_linkMany, .int m_tracerMany, .int m_pointMany, .int m_pairMany, .ref 1004, .ref 1005, .ref 1006, .ref 1007, .int m_readLinks, .int m_readTracers, .int m_readPoints, .int m_readPairs, .ref 1008, .ref 1009, .ref 1010, .ref 1011, .int m_textLong, .int m_at, .int m_spot, .int m_token, .int m_whole, .int m_readFault, .int m_readPlace, .int m_value, .long m_n, .long m_c, .long m_d, .long m_s, .long m_e, .long m_k, .long m_x, .long m_y, .long m_g, .long m_a, .ref 1012, .ref 1013, .ref 1014, .int m_curveMany, .ref 1015, .int m_cornerMany, .int m_straightAt, .ref 1016, .long m_fitUp, .long m_fitDown, .long m_worstUp, .long m_worstDown, .ref 1017, .int m_walkLink, .int m_walkAngle, .int m_walkBranch, .int m_walkMany, .ref 1018, .ref 1019, .int m_lined, .ref 1020, .int m_actMany], z1, z2, z3, z4, z5, z6, z7, z8, z9, z10, z11, z12, z13, z14, z15, z16, z17, z18, z19, z20])) := by
  refine ct_of ⟨by decide, rfl⟩ (Nat.le_of_ble_eq_true rfl) ?_
  refine ab_lload_n dX11_floorOf_0 rfl ?_
  refine ab_lload_n dX11_floorOf_1 rfl ?_
  refine ab_lmul dX11_floorOf_2 ?_
  refine ab_aload_n dX11_floorOf_3 rfl ?_
  refine ab_getf dX11_floorOf_4 fl_X11_321 rfl rfl ?_
  refine ab_lmul dX11_floorOf_7 ?_
  refine ab_topl (v := (lN N)) h_sq ?_
  refine ab_lstore (la' := [(7, .long (lN N)), (0, .ref 1000), (1, .long a1), (3, .long a2), (5, .long a3)]) dX11_floorOf_8 (by decide) rfl ?_
  refine ab_lload dX11_floorOf_10 rfl ?_
  refine ab_callS (As := [.long (lN N)]) (rest := []) dX11_floorOf_12 ms_X11_root ml_X11_371 ⟨by decide, by decide, rfl, rfl, rfl⟩ (by decide) rfl rfl (Nat.le_of_ble_eq_true rfl) (c_X11_root (n := N) (by omega)) ?_
  rintro r w' ⟨rfl, rfl⟩
  refine ab_lstore (la' := [(9, .long (lN (rt N))), (7, .long (lN N)), (0, .ref 1000), (1, .long a1), (3, .long a2), (5, .long a3)]) dX11_floorOf_15 (by decide) rfl ?_
  refine ab_lload_n dX11_floorOf_17 rfl ?_
  refine ab_lconst (v := 0) dX11_floorOf_18 (by decide) ?_
  refine ab_lcmplt 33 dX11_floorOf_19 dX11_floorOf_20 (by decide) (fun h_1 => ?_) (fun h_1 => ?_)
  · refine ab_lload_n dX11_floorOf_33 rfl ?_
    refine ab_lload dX11_floorOf_34 rfl ?_
    refine ab_lsub dX11_floorOf_36 ?_
    refine ab_lload dX11_floorOf_37 rfl ?_
    refine ab_lload dX11_floorOf_39 rfl ?_
    refine ab_lmul dX11_floorOf_41 ?_
    refine ab_lload dX11_floorOf_42 rfl ?_
    refine ab_lcmpge 52 dX11_floorOf_44 dX11_floorOf_45 (by decide) (fun h_2 => ?_) (fun h_2 => ?_)
    · refine ab_lconst (v := 0) dX11_floorOf_52 (by decide) ?_
      refine ab_lsub dX11_floorOf_53 ?_
      refine ab_lload dX11_floorOf_54 rfl ?_
      refine ab_callS (As := [.long ((a1 - (lN (rt N))) - 0), .long a3]) (rest := []) dX11_floorOf_56 ms_X11_floor ml_X11_374 ⟨by decide, by decide, rfl, rfl, rfl⟩ (by decide) rfl rfl (Nat.le_of_ble_eq_true rfl) (c_X11_floor (ne_of_pos h_w)) ?_
      rintro r w' ⟨rfl, rfl⟩
      exact ab_lret dX11_floorOf_59 rfl (by decide) (⟨by rw [FlM, if_pos (show a2 < 0 from h_1), if_pos (show (lN N) ≤ ((lN (rt N)) * (lN (rt N))) from h_2)], rfl⟩)
    · refine ab_lconst (v := 1) dX11_floorOf_48 (by decide) ?_
      refine ab_goto 53 dX11_floorOf_49 (by decide) ?_
      refine ab_lsub dX11_floorOf_53 ?_
      refine ab_lload dX11_floorOf_54 rfl ?_
      refine ab_callS (As := [.long ((a1 - (lN (rt N))) - 1), .long a3]) (rest := []) dX11_floorOf_56 ms_X11_floor ml_X11_374 ⟨by decide, by decide, rfl, rfl, rfl⟩ (by decide) rfl rfl (Nat.le_of_ble_eq_true rfl) (c_X11_floor (ne_of_pos h_w)) ?_
      rintro r w' ⟨rfl, rfl⟩
      exact ab_lret dX11_floorOf_59 rfl (by decide) (⟨by rw [FlM, if_pos (show a2 < 0 from h_1), if_neg (show ¬ (lN N) ≤ ((lN (rt N)) * (lN (rt N))) from h_2)], rfl⟩)
  · refine ab_lload_n dX11_floorOf_23 rfl ?_
    refine ab_lload dX11_floorOf_24 rfl ?_
    refine ab_ladd dX11_floorOf_26 ?_
    refine ab_lload dX11_floorOf_27 rfl ?_
    refine ab_callS (As := [.long (a1 + (lN (rt N))), .long a3]) (rest := []) dX11_floorOf_29 ms_X11_floor ml_X11_374 ⟨by decide, by decide, rfl, rfl, rfl⟩ (by decide) rfl rfl (Nat.le_of_ble_eq_true rfl) (c_X11_floor (ne_of_pos h_w)) ?_
    rintro r w' ⟨rfl, rfl⟩
    exact ab_lret dX11_floorOf_32 rfl (by decide) (⟨by rw [FlM, if_neg (show ¬ a2 < 0 from h_1)], rfl⟩)
theorem c_X11_isJust {wc : List ax_E} {m_thrown m_trouble m_fault m_where m_taped m_linkMany m_tracerMany m_pointMany m_pairMany m_readLinks m_readTracers m_readPoints m_readPairs m_textLong m_at m_spot m_token m_whole m_readFault m_readPlace m_value m_curveMany m_cornerMany m_straightAt m_walkLink m_walkAngle m_walkBranch m_walkMany m_lined m_actMany : Int32} {m_n m_c m_d m_s m_e m_k m_x m_y m_g m_a m_fitUp m_fitDown m_worstUp m_worstDown a1 a2 a3 a4 : Int64} {z1 z2 z3 z4 z5 z6 z7 z8 z9 z10 z11 z12 z13 z14 z15 z16 z17 z18 z19 z20 : ax_E}  : Ct M_X11_isJust [.ref 1000, .long a1, .long a2, .long a3, .long a4] (wc, [ob 9 [.int m_thrown, .int m_trouble, .int m_fault, .int m_where, .ref 1001, .ref 1002, .int 40, .ref 1003, .int m_taped, .int m_linkMany, .int m_tracerMany, .int m_pointMany, .int m_pairMany, .ref 1004, .ref 1005, .ref 1006, .ref 1007, .int m_readLinks, .int m_readTracers, .int m_readPoints, .int m_readPairs, .ref 1008, .ref 1009, .ref 1010, .ref 1011, .int m_textLong, .int m_at, .int m_spot, .int m_token, .int m_whole, .int m_readFault, .int m_readPlace, .int m_value, .long m_n, .long m_c, .long m_d, .long m_s, .long m_e, .long m_k, .long m_x, .long m_y, .long m_g, .long m_a, .ref 1012, .ref 1013, .ref 1014, .int m_curveMany, .ref 1015, .int m_cornerMany, .int m_straightAt, .ref 1016, .long m_fitUp, .long m_fitDown, .long m_worstUp, .long m_worstDown, .ref 1017, .int m_walkLink, .int m_walkAngle, .int m_walkBranch, .int m_walkMany, .ref 1018, .ref 1019, .int m_lined, .ref 1020, .int m_actMany], z1, z2, z3, z4, z5, z6, z7, z8, z9, z10, z11, z12, z13, z14, z15, z16, z17, z18, z19, z20]) (fun r w' => ((((a4 * a3) - a1) = 0) ∧ (a2 = 0) ∧ r = some (.int 1) ∧ w' = (wc, [ob 9 [.int m_thrown, .int m_trouble, .int m_fault, .int m_where, .ref 1001, .ref 1002, .int 40, .ref 1003, .int m_taped, .int m_linkMany, .int m_tracerMany, .int m_pointMany, .int m_pairMany, .ref 1004, .ref 1005, .ref 1006, .ref 1007, .int m_readLinks, .int m_readTracers, .int m_readPoints, .int m_readPairs, .ref 1008, .ref 1009, .ref 1010, .ref 1011, .int m_textLong, .int m_at, .int m_spot, .int m_token, .int m_whole, .int m_readFault, .int m_readPlace, .int m_value, .long m_n, .long m_c, .long m_d, .long m_s, .long m_e, .long m_k, .long m_x, .long m_y, .long m_g, .long m_a, .ref 1012, .ref 1013, .ref 1014, .int m_curveMany, .ref 1015, .int m_cornerMany, .int m_straightAt, .ref 1016, .long m_fitUp, .long m_fitDown, .long m_worstUp, .long m_worstDown, .ref 1017, .int m_walkLink, .int m_walkAngle, .int m_walkBranch, .int m_walkMany, .ref 1018, .ref 1019, .int m_lined, .ref 1020, .int m_actMany], z1, z2, z3, z4, z5, z6, z7, z8, z9, z10, z11, z12, z13, z14, z15, z16, z17, z18, z19, z20])) ∨ ((((a4 * a3) - a1) = 0) ∧ (¬ a2 = 0) ∧ (¬ m_k = 0) ∧ r = some (.int 0) ∧ w' = (wc, [ob 9 [.int m_thrown, .int m_trouble, .int m_fault, .int m_where, .ref 1001, .ref 1002, .int 40, .ref 1003, .int m_taped, .int m_linkMany, .int m_tracerMany, .int m_pointMany, .int m_pairMany, .ref 1004, .ref 1005, .ref 1006, .ref 1007, .int m_readLinks, .int m_readTracers, .int m_readPoints, .int m_readPairs, .ref 1008, .ref 1009, .ref 1010, .ref 1011, .int m_textLong, .int m_at, .int m_spot, .int m_token, .int m_whole, .int m_readFault, .int m_readPlace, .int m_value, .long m_n, .long m_c, .long m_d, .long m_s, .long m_e, .long m_k, .long m_x, .long m_y, .long m_g, .long m_a, .ref 1012, .ref 1013, .ref 1014, .int m_curveMany, .ref 1015, .int m_cornerMany, .int m_straightAt, .ref 1016, .long m_fitUp, .long m_fitDown, .long m_worstUp, .long m_worstDown, .ref 1017, .int m_walkLink, .int m_walkAngle, .int m_walkBranch, .int m_walkMany, .ref 1018, .ref 1019, .int m_lined, .ref 1020, .int m_actMany], z1, z2, z3, z4, z5, z6, z7, z8, z9, z10, z11, z12, z13, z14, z15, z16, z17, z18, z19, z20])) ∨ ((((a4 * a3) - a1) = 0) ∧ (¬ a2 = 0) ∧ (m_k = 0) ∧ r = some (.int 1) ∧ w' = (wc, [ob 9 [.int m_thrown, .int m_trouble, .int m_fault, .int m_where, .ref 1001, .ref 1002, .int 40, .ref 1003, .int m_taped, .int m_linkMany, .int m_tracerMany, .int m_pointMany, .int m_pairMany, .ref 1004, .ref 1005, .ref 1006, .ref 1007, .int m_readLinks, .int m_readTracers, .int m_readPoints, .int m_readPairs, .ref 1008, .ref 1009, .ref 1010, .ref 1011, .int m_textLong, .int m_at, .int m_spot, .int m_token, .int m_whole, .int m_readFault, .int m_readPlace, .int m_value, .long m_n, .long m_c, .long m_d, .long m_s, .long m_e, .long m_k, .long m_x, .long m_y, .long m_g, .long m_a, .ref 1012, .ref 1013, .ref 1014, .int m_curveMany, .ref 1015, .int m_cornerMany, .int m_straightAt, .ref 1016, .long m_fitUp, .long m_fitDown, .long m_worstUp, .long m_worstDown, .ref 1017, .int m_walkLink, .int m_walkAngle, .int m_walkBranch, .int m_walkMany, .ref 1018, .ref 1019, .int m_lined, .ref 1020, .int m_actMany], z1, z2, z3, z4, z5, z6, z7, z8, z9, z10, z11, z12, z13, z14, z15, z16, z17, z18, z19, z20])) ∨ ((¬ ((a4 * a3) - a1) = 0) ∧ (a2 = 0) ∧ r = some (.int 0) ∧ w' = (wc, [ob 9 [.int m_thrown, .int m_trouble, .int m_fault, .int m_where, .ref 1001, .ref 1002, .int 40, .ref 1003, .int m_taped, .int m_linkMany, .int m_tracerMany, .int m_pointMany, .int m_pairMany, .ref 1004, .ref 1005, .ref 1006, .ref 1007, .int m_readLinks, .int m_readTracers, .int m_readPoints, .int m_readPairs, .ref 1008, .ref 1009, .ref 1010, .ref 1011, .int m_textLong, .int m_at, .int m_spot, .int m_token, .int m_whole, .int m_readFault, .int m_readPlace, .int m_value, .long m_n, .long m_c, .long m_d, .long m_s, .long m_e, .long m_k, .long m_x, .long m_y, .long m_g, .long m_a, .ref 1012, .ref 1013, .ref 1014, .int m_curveMany, .ref 1015, .int m_cornerMany, .int m_straightAt, .ref 1016, .long m_fitUp, .long m_fitDown, .long m_worstUp, .long m_worstDown, .ref 1017, .int m_walkLink, .int m_walkAngle, .int m_walkBranch, .int m_walkMany, .ref 1018, .ref 1019, .int m_lined, .ref 1020, .int m_actMany], z1, z2, z3, z4, z5, z6, z7, z8, z9, z10, z11, z12, z13, z14, z15, z16, z17, z18, z19, z20])) ∨ ((¬ ((a4 * a3) - a1) = 0) ∧ (¬ a2 = 0) ∧ (¬ m_k = 0) ∧ (((a4 * a3) - a1) ≤ 0) ∧ (a2 ≤ 0) ∧ (3000000000 ≤ (Ab64 ((a4 * a3) - a1))) ∧ r = some (.int 0) ∧ w' = (wc, [ob 9 [.int m_thrown, .int m_trouble, .int m_fault, .int m_where, .ref 1001, .ref 1002, .int 40, .ref 1003, .int m_taped, .int m_linkMany, .int m_tracerMany, .int m_pointMany, .int m_pairMany, .ref 1004, .ref 1005, .ref 1006, .ref 1007, .int m_readLinks, .int m_readTracers, .int m_readPoints, .int m_readPairs, .ref 1008, .ref 1009, .ref 1010, .ref 1011, .int m_textLong, .int m_at, .int m_spot, .int m_token, .int m_whole, .int m_readFault, .int m_readPlace, .int m_value, .long m_n, .long m_c, .long m_d, .long m_s, .long m_e, .long m_k, .long m_x, .long m_y, .long m_g, .long m_a, .ref 1012, .ref 1013, .ref 1014, .int m_curveMany, .ref 1015, .int m_cornerMany, .int m_straightAt, .ref 1016, .long m_fitUp, .long m_fitDown, .long m_worstUp, .long m_worstDown, .ref 1017, .int m_walkLink, .int m_walkAngle, .int m_walkBranch, .int m_walkMany, .ref 1018, .ref 1019, .int m_lined, .ref 1020, .int m_actMany], z1, z2, z3, z4, z5, z6, z7, z8, z9, z10, z11, z12, z13, z14, z15, z16, z17, z18, z19, z20])) ∨ ((¬ ((a4 * a3) - a1) = 0) ∧ (¬ a2 = 0) ∧ (¬ m_k = 0) ∧ (((a4 * a3) - a1) ≤ 0) ∧ (a2 ≤ 0) ∧ (¬ 3000000000 ≤ (Ab64 ((a4 * a3) - a1))) ∧ (¬ (((a4 * a3) - a1) * ((a4 * a3) - a1)) = ((a2 * a2) * m_k)) ∧ r = some (.int 0) ∧ w' = (wc, [ob 9 [.int m_thrown, .int m_trouble, .int m_fault, .int m_where, .ref 1001, .ref 1002, .int 40, .ref 1003, .int m_taped, .int m_linkMany, .int m_tracerMany, .int m_pointMany, .int m_pairMany, .ref 1004, .ref 1005, .ref 1006, .ref 1007, .int m_readLinks, .int m_readTracers, .int m_readPoints, .int m_readPairs, .ref 1008, .ref 1009, .ref 1010, .ref 1011, .int m_textLong, .int m_at, .int m_spot, .int m_token, .int m_whole, .int m_readFault, .int m_readPlace, .int m_value, .long m_n, .long m_c, .long m_d, .long m_s, .long m_e, .long m_k, .long m_x, .long m_y, .long m_g, .long m_a, .ref 1012, .ref 1013, .ref 1014, .int m_curveMany, .ref 1015, .int m_cornerMany, .int m_straightAt, .ref 1016, .long m_fitUp, .long m_fitDown, .long m_worstUp, .long m_worstDown, .ref 1017, .int m_walkLink, .int m_walkAngle, .int m_walkBranch, .int m_walkMany, .ref 1018, .ref 1019, .int m_lined, .ref 1020, .int m_actMany], z1, z2, z3, z4, z5, z6, z7, z8, z9, z10, z11, z12, z13, z14, z15, z16, z17, z18, z19, z20])) ∨ ((¬ ((a4 * a3) - a1) = 0) ∧ (¬ a2 = 0) ∧ (¬ m_k = 0) ∧ (((a4 * a3) - a1) ≤ 0) ∧ (a2 ≤ 0) ∧ (¬ 3000000000 ≤ (Ab64 ((a4 * a3) - a1))) ∧ ((((a4 * a3) - a1) * ((a4 * a3) - a1)) = ((a2 * a2) * m_k)) ∧ r = some (.int 1) ∧ w' = (wc, [ob 9 [.int m_thrown, .int m_trouble, .int m_fault, .int m_where, .ref 1001, .ref 1002, .int 40, .ref 1003, .int m_taped, .int m_linkMany, .int m_tracerMany, .int m_pointMany, .int m_pairMany, .ref 1004, .ref 1005, .ref 1006, .ref 1007, .int m_readLinks, .int m_readTracers, .int m_readPoints, .int m_readPairs, .ref 1008, .ref 1009, .ref 1010, .ref 1011, .int m_textLong, .int m_at, .int m_spot, .int m_token, .int m_whole, .int m_readFault, .int m_readPlace, .int m_value, .long m_n, .long m_c, .long m_d, .long m_s, .long m_e, .long m_k, .long m_x, .long m_y, .long m_g, .long m_a, .ref 1012, .ref 1013, .ref 1014, .int m_curveMany, .ref 1015, .int m_cornerMany, .int m_straightAt, .ref 1016, .long m_fitUp, .long m_fitDown, .long m_worstUp, .long m_worstDown, .ref 1017, .int m_walkLink, .int m_walkAngle, .int m_walkBranch, .int m_walkMany, .ref 1018, .ref 1019, .int m_lined, .ref 1020, .int m_actMany], z1, z2, z3, z4, z5, z6, z7, z8, z9, z10, z11, z12, z13, z14, z15, z16, z17, z18, z19, z20])) ∨ ((¬ ((a4 * a3) - a1) = 0) ∧ (¬ a2 = 0) ∧ (¬ m_k = 0) ∧ (((a4 * a3) - a1) ≤ 0) ∧ (¬ a2 ≤ 0) ∧ r = some (.int 0) ∧ w' = (wc, [ob 9 [.int m_thrown, .int m_trouble, .int m_fault, .int m_where, .ref 1001, .ref 1002, .int 40, .ref 1003, .int m_taped, .int m_linkMany, .int m_tracerMany, .int m_pointMany, .int m_pairMany, .ref 1004, .ref 1005, .ref 1006, .ref 1007, .int m_readLinks, .int m_readTracers, .int m_readPoints, .int m_readPairs, .ref 1008, .ref 1009, .ref 1010, .ref 1011, .int m_textLong, .int m_at, .int m_spot, .int m_token, .int m_whole, .int m_readFault, .int m_readPlace, .int m_value, .long m_n, .long m_c, .long m_d, .long m_s, .long m_e, .long m_k, .long m_x, .long m_y, .long m_g, .long m_a, .ref 1012, .ref 1013, .ref 1014, .int m_curveMany, .ref 1015, .int m_cornerMany, .int m_straightAt, .ref 1016, .long m_fitUp, .long m_fitDown, .long m_worstUp, .long m_worstDown, .ref 1017, .int m_walkLink, .int m_walkAngle, .int m_walkBranch, .int m_walkMany, .ref 1018, .ref 1019, .int m_lined, .ref 1020, .int m_actMany], z1, z2, z3, z4, z5, z6, z7, z8, z9, z10, z11, z12, z13, z14, z15, z16, z17, z18, z19, z20])) ∨ ((¬ ((a4 * a3) - a1) = 0) ∧ (¬ a2 = 0) ∧ (¬ m_k = 0) ∧ (¬ ((a4 * a3) - a1) ≤ 0) ∧ (a2 ≤ 0) ∧ r = some (.int 0) ∧ w' = (wc, [ob 9 [.int m_thrown, .int m_trouble, .int m_fault, .int m_where, .ref 1001, .ref 1002, .int 40, .ref 1003, .int m_taped, .int m_linkMany, .int m_tracerMany, .int m_pointMany, .int m_pairMany, .ref 1004, .ref 1005, .ref 1006, .ref 1007, .int m_readLinks, .int m_readTracers, .int m_readPoints, .int m_readPairs, .ref 1008, .ref 1009, .ref 1010, .ref 1011, .int m_textLong, .int m_at, .int m_spot, .int m_token, .int m_whole, .int m_readFault, .int m_readPlace, .int m_value, .long m_n, .long m_c, .long m_d, .long m_s, .long m_e, .long m_k, .long m_x, .long m_y, .long m_g, .long m_a, .ref 1012, .ref 1013, .ref 1014, .int m_curveMany, .ref 1015, .int m_cornerMany, .int m_straightAt, .ref 1016, .long m_fitUp, .long m_fitDown, .long m_worstUp, .long m_worstDown, .ref 1017, .int m_walkLink, .int m_walkAngle, .int m_walkBranch, .int m_walkMany, .ref 1018, .ref 1019, .int m_lined, .ref 1020, .int m_actMany], z1, z2, z3, z4, z5, z6, z7, z8, z9, z10, z11, z12, z13, z14, z15, z16, z17, z18, z19, z20])) ∨ ((¬ ((a4 * a3) - a1) = 0) ∧ (¬ a2 = 0) ∧ (¬ m_k = 0) ∧ (¬ ((a4 * a3) - a1) ≤ 0) ∧ (¬ a2 ≤ 0) ∧ (3000000000 ≤ (Ab64 ((a4 * a3) - a1))) ∧ r = some (.int 0) ∧ w' = (wc, [ob 9 [.int m_thrown, .int m_trouble, .int m_fault, .int m_where, .ref 1001, .ref 1002, .int 40, .ref 1003, .int m_taped, .int m_linkMany, .int m_tracerMany, .int m_pointMany, .int m_pairMany, .ref 1004, .ref 1005, .ref 1006, .ref 1007, .int m_readLinks, .int m_readTracers, .int m_readPoints, .int m_readPairs, .ref 1008, .ref 1009, .ref 1010, .ref 1011, .int m_textLong, .int m_at, .int m_spot, .int m_token, .int m_whole, .int m_readFault, .int m_readPlace, .int m_value, .long m_n, .long m_c, .long m_d, .long m_s, .long m_e, .long m_k, .long m_x, .long m_y, .long m_g, .long m_a, .ref 1012, .ref 1013, .ref 1014, .int m_curveMany, .ref 1015, .int m_cornerMany, .int m_straightAt, .ref 1016, .long m_fitUp, .long m_fitDown, .long m_worstUp, .long m_worstDown, .ref 1017, .int m_walkLink, .int m_walkAngle, .int m_walkBranch, .int m_walkMany, .ref 1018, .ref 1019, .int m_lined, .ref 1020, .int m_actMany], z1, z2, z3, z4, z5, z6, z7, z8, z9, z10, z11, z12, z13, z14, z15, z16, z17, z18, z19, z20])) ∨ ((¬ ((a4 * a3) - a1) = 0) ∧ (¬ a2 = 0) ∧ (¬ m_k = 0) ∧ (¬ ((a4 * a3) - a1) ≤ 0) ∧ (¬ a2 ≤ 0) ∧ (¬ 3000000000 ≤ (Ab64 ((a4 * a3) - a1))) ∧ (¬ (((a4 * a3) - a1) * ((a4 * a3) - a1)) = ((a2 * a2) * m_k)) ∧ r = some (.int 0) ∧ w' = (wc, [ob 9 [.int m_thrown, .int m_trouble, .int m_fault, .int m_where, .ref 1001, .ref 1002, .int 40, .ref 1003, .int m_taped, .int m_linkMany, .int m_tracerMany, .int m_pointMany, .int m_pairMany, .ref 1004, .ref 1005, .ref 1006, .ref 1007, .int m_readLinks, .int m_readTracers, .int m_readPoints, .int m_readPairs, .ref 1008, .ref 1009, .ref 1010, .ref 1011, .int m_textLong, .int m_at, .int m_spot, .int m_token, .int m_whole, .int m_readFault, .int m_readPlace, .int m_value, .long m_n, .long m_c, .long m_d, .long m_s, .long m_e, .long m_k, .long m_x, .long m_y, .long m_g, .long m_a, .ref 1012, .ref 1013, .ref 1014, .int m_curveMany, .ref 1015, .int m_cornerMany, .int m_straightAt, .ref 1016, .long m_fitUp, .long m_fitDown, .long m_worstUp, .long m_worstDown, .ref 1017, .int m_walkLink, .int m_walkAngle, .int m_walkBranch, .int m_walkMany, .ref 1018, .ref 1019, .int m_lined, .ref 1020, .int m_actMany], z1, z2, z3, z4, z5, z6, z7, z8, z9, z10, z11, z12, z13, z14, z15, z16, z17, z18, z19, z20])) ∨ ((¬ ((a4 * a3) - a1) = 0) ∧ (¬ a2 = 0) ∧ (¬ m_k = 0) ∧ (¬ ((a4 * a3) - a1) ≤ 0) ∧ (¬ a2 ≤ 0) ∧ (¬ 3000000000 ≤ (Ab64 ((a4 * a3) - a1))) ∧ ((((a4 * a3) - a1) * ((a4 * a3) - a1)) = ((a2 * a2) * m_k)) ∧ r = some (.int 1) ∧ w' = (wc, [ob 9 [.int m_thrown, .int m_trouble, .int m_fault, .int m_where, .ref 1001, .ref 1002, .int 40, .ref 1003, .int m_taped, .int m_linkMany, .int m_tracerMany, .int m_pointMany, .int m_pairMany, .ref 1004, .ref 1005, .ref 1006, .ref 1007, .int m_readLinks, .int m_readTracers, .int m_readPoints, .int m_readPairs, .ref 1008, .ref 1009, .ref 1010, .ref 1011, .int m_textLong, .int m_at, .int m_spot, .int m_token, .int m_whole, .int m_readFault, .int m_readPlace, .int m_value, .long m_n, .long m_c, .long m_d, .long m_s, .long m_e, .long m_k, .long m_x, .long m_y, .long m_g, .long m_a, .ref 1012, .ref 1013, .ref 1014, .int m_curveMany, .ref 1015, .int m_cornerMany, .int m_straightAt, .ref 1016, .long m_fitUp, .long m_fitDown, .long m_worstUp, .long m_worstDown, .ref 1017, .int m_walkLink, .int m_walkAngle, .int m_walkBranch, .int m_walkMany, .ref 1018, .ref 1019, .int m_lined, .ref 1020, .int m_actMany], z1, z2, z3, z4, z5, z6, z7, z8, z9, z10, z11, z12, z13, z14, z15, z16, z17, z18, z19, z20])) ∨ ((¬ ((a4 * a3) - a1) = 0) ∧ (¬ a2 = 0) ∧ (m_k = 0) ∧ r = some (.int 0) ∧ w' = (wc, [ob 9 [.int m_thrown, .int m_trouble, .int m_fault, .int m_where, .ref 1001, .ref 1002, .int 40, .ref 1003, .int m_taped, .int m_linkMany, .int m_tracerMany, .int m_pointMany, .int m_pairMany, .ref 1004, .ref 1005, .ref 1006, .ref 1007, .int m_readLinks, .int m_readTracers, .int m_readPoints, .int m_readPairs, .ref 1008, .ref 1009, .ref 1010, .ref 1011, .int m_textLong, .int m_at, .int m_spot, .int m_token, .int m_whole, .int m_readFault, .int m_readPlace, .int m_value, .long m_n, .long m_c, .long m_d, .long m_s, .long m_e, .long m_k, .long m_x, .long m_y, .long m_g, .long m_a, .ref 1012, .ref 1013, .ref 1014, .int m_curveMany, .ref 1015, .int m_cornerMany, .int m_straightAt, .ref 1016, .long m_fitUp, .long m_fitDown, .long m_worstUp, .long m_worstDown, .ref 1017, .int m_walkLink, .int m_walkAngle, .int m_walkBranch, .int m_walkMany, .ref 1018, .ref 1019, .int m_lined, .ref 1020, .int m_actMany], z1, z2, z3, z4, z5, z6, z7, z8, z9, z10, z11, z12, z13, z14, z15, z16, z17, z18, z19, z20]))) := by
  refine ct_of ⟨by decide, rfl⟩ (Nat.le_of_ble_eq_true rfl) ?_
  refine ab_lload dX11_isJust_0 rfl ?_
  refine ab_lload dX11_isJust_2 rfl ?_
  refine ab_lmul dX11_isJust_4 ?_
  refine ab_lload_n dX11_isJust_5 rfl ?_
  refine ab_lsub dX11_isJust_6 ?_
  refine ab_lstore (la' := [(9, .long ((a4 * a3) - a1)), (0, .ref 1000), (1, .long a1), (3, .long a2), (5, .long a3), (7, .long a4)]) dX11_isJust_7 (by decide) rfl ?_
  refine ab_lload dX11_isJust_9 rfl ?_
  refine ab_lconst (v := 0) dX11_isJust_11 (by decide) ?_
  refine ab_lcmpeq 31 dX11_isJust_12 dX11_isJust_13 (by decide) (fun h_1 => ?_) (fun h_1 => ?_)
  · refine ab_lload dX11_isJust_31 rfl ?_
    refine ab_lconst (v := 0) dX11_isJust_33 (by decide) ?_
    refine ab_lcmpne 57 dX11_isJust_34 dX11_isJust_35 (by decide) (fun h_2 => absurd h_1 h_2) (fun h_2 => ?_)
    refine ab_lload_n dX11_isJust_38 rfl ?_
    refine ab_lconst (v := 0) dX11_isJust_39 (by decide) ?_
    refine ab_lcmpeq 53 dX11_isJust_40 dX11_isJust_41 (by decide) (fun h_3 => ?_) (fun h_3 => ?_)
    · refine ab_iconst (v := 1) dX11_isJust_53 (by decide) ?_
      refine ab_goto 58 dX11_isJust_54 (by decide) ?_
      exact ab_zret dX11_isJust_58 rfl rfl (by decide) (Or.inl ⟨h_1, h_3, rfl, rfl⟩)
    · refine ab_aload_n dX11_isJust_44 rfl ?_
      refine ab_getf dX11_isJust_45 fl_X11_321 rfl rfl ?_
      refine ab_lconst (v := 0) dX11_isJust_48 (by decide) ?_
      refine ab_lcmpne 57 dX11_isJust_49 dX11_isJust_50 (by decide) (fun h_4 => ?_) (fun h_4 => ?_)
      · refine ab_iconst (v := 0) dX11_isJust_57 (by decide) ?_
        exact ab_zret dX11_isJust_58 rfl rfl (by decide) (Or.inr (Or.inl ⟨h_1, h_3, h_4, rfl, rfl⟩))
      · refine ab_iconst (v := 1) dX11_isJust_53 (by decide) ?_
        refine ab_goto 58 dX11_isJust_54 (by decide) ?_
        exact ab_zret dX11_isJust_58 rfl rfl (by decide) (Or.inr (Or.inr (Or.inl ⟨h_1, h_3, h_4, rfl, rfl⟩)))
  · refine ab_lload_n dX11_isJust_16 rfl ?_
    refine ab_lconst (v := 0) dX11_isJust_17 (by decide) ?_
    refine ab_lcmpeq 31 dX11_isJust_18 dX11_isJust_19 (by decide) (fun h_5 => ?_) (fun h_5 => ?_)
    · refine ab_lload dX11_isJust_31 rfl ?_
      refine ab_lconst (v := 0) dX11_isJust_33 (by decide) ?_
      refine ab_lcmpne 57 dX11_isJust_34 dX11_isJust_35 (by decide) (fun h_6 => ?_) (fun h_6 => absurd h_6 h_1)
      refine ab_iconst (v := 0) dX11_isJust_57 (by decide) ?_
      exact ab_zret dX11_isJust_58 rfl rfl (by decide) (Or.inr (Or.inr (Or.inr (Or.inl ⟨h_1, h_5, rfl, rfl⟩))))
    · refine ab_aload_n dX11_isJust_22 rfl ?_
      refine ab_getf dX11_isJust_23 fl_X11_321 rfl rfl ?_
      refine ab_lconst (v := 0) dX11_isJust_26 (by decide) ?_
      refine ab_lcmpne 59 dX11_isJust_27 dX11_isJust_28 (by decide) (fun h_7 => ?_) (fun h_7 => ?_)
      · refine ab_lload dX11_isJust_59 rfl ?_
        refine ab_lconst (v := 0) dX11_isJust_61 (by decide) ?_
        refine ab_lcmple 70 dX11_isJust_62 dX11_isJust_63 (by decide) (fun h_8 => ?_) (fun h_8 => ?_)
        · refine ab_iconst (v := 0) dX11_isJust_70 (by decide) ?_
          refine ab_lload_n dX11_isJust_71 rfl ?_
          refine ab_lconst (v := 0) dX11_isJust_72 (by decide) ?_
          refine ab_lcmple 81 dX11_isJust_73 dX11_isJust_74 (by decide) (fun h_9 => ?_) (fun h_9 => ?_)
          · refine ab_iconst (v := 0) dX11_isJust_81 (by decide) ?_
            refine ab_icmpne 118 dX11_isJust_82 (by decide) (fun h_10 => absurd (by decide) h_10) (fun h_10 => ?_)
            refine ab_lload dX11_isJust_85 rfl ?_
            refine ab_callS (As := [.long ((a4 * a3) - a1)]) (rest := []) dX11_isJust_87 ms_X11_plain ml_X11_7 ⟨by decide, by decide, rfl, rfl, rfl⟩ (by decide) rfl rfl (Nat.le_of_ble_eq_true rfl) c_X11_plain_t ?_
            rintro r w' ⟨rfl, rfl⟩
            refine ab_ldc2 dX11_isJust_90 kl_X11_483 ?_
            refine ab_lcmpge 118 dX11_isJust_93 dX11_isJust_94 (by decide) (fun h_11 => ?_) (fun h_11 => ?_)
            · refine ab_iconst (v := 0) dX11_isJust_118 (by decide) ?_
              exact ab_zret dX11_isJust_119 rfl rfl (by decide) (Or.inr (Or.inr (Or.inr (Or.inr (Or.inl ⟨h_1, h_5, h_7, h_8, h_9, h_11, rfl, rfl⟩)))))
            · refine ab_lload dX11_isJust_97 rfl ?_
              refine ab_lload dX11_isJust_99 rfl ?_
              refine ab_lmul dX11_isJust_101 ?_
              refine ab_lload_n dX11_isJust_102 rfl ?_
              refine ab_lload_n dX11_isJust_103 rfl ?_
              refine ab_lmul dX11_isJust_104 ?_
              refine ab_aload_n dX11_isJust_105 rfl ?_
              refine ab_getf dX11_isJust_106 fl_X11_321 rfl rfl ?_
              refine ab_lmul dX11_isJust_109 ?_
              refine ab_lcmpne 118 dX11_isJust_110 dX11_isJust_111 (by decide) (fun h_12 => ?_) (fun h_12 => ?_)
              · refine ab_iconst (v := 0) dX11_isJust_118 (by decide) ?_
                exact ab_zret dX11_isJust_119 rfl rfl (by decide) (Or.inr (Or.inr (Or.inr (Or.inr (Or.inr (Or.inl ⟨h_1, h_5, h_7, h_8, h_9, h_11, h_12, rfl, rfl⟩))))))
              · refine ab_iconst (v := 1) dX11_isJust_114 (by decide) ?_
                refine ab_goto 119 dX11_isJust_115 (by decide) ?_
                exact ab_zret dX11_isJust_119 rfl rfl (by decide) (Or.inr (Or.inr (Or.inr (Or.inr (Or.inr (Or.inr (Or.inl ⟨h_1, h_5, h_7, h_8, h_9, h_11, h_12, rfl, rfl⟩)))))))
          · refine ab_iconst (v := 1) dX11_isJust_77 (by decide) ?_
            refine ab_goto 82 dX11_isJust_78 (by decide) ?_
            refine ab_icmpne 118 dX11_isJust_82 (by decide) (fun h_13 => ?_) (fun h_13 => absurd h_13 (by decide))
            refine ab_iconst (v := 0) dX11_isJust_118 (by decide) ?_
            exact ab_zret dX11_isJust_119 rfl rfl (by decide) (Or.inr (Or.inr (Or.inr (Or.inr (Or.inr (Or.inr (Or.inr (Or.inl ⟨h_1, h_5, h_7, h_8, h_9, rfl, rfl⟩))))))))
        · refine ab_iconst (v := 1) dX11_isJust_66 (by decide) ?_
          refine ab_goto 71 dX11_isJust_67 (by decide) ?_
          refine ab_lload_n dX11_isJust_71 rfl ?_
          refine ab_lconst (v := 0) dX11_isJust_72 (by decide) ?_
          refine ab_lcmple 81 dX11_isJust_73 dX11_isJust_74 (by decide) (fun h_14 => ?_) (fun h_14 => ?_)
          · refine ab_iconst (v := 0) dX11_isJust_81 (by decide) ?_
            refine ab_icmpne 118 dX11_isJust_82 (by decide) (fun h_15 => ?_) (fun h_15 => absurd h_15 (by decide))
            refine ab_iconst (v := 0) dX11_isJust_118 (by decide) ?_
            exact ab_zret dX11_isJust_119 rfl rfl (by decide) (Or.inr (Or.inr (Or.inr (Or.inr (Or.inr (Or.inr (Or.inr (Or.inr (Or.inl ⟨h_1, h_5, h_7, h_8, h_14, rfl, rfl⟩)))))))))
          · refine ab_iconst (v := 1) dX11_isJust_77 (by decide) ?_
            refine ab_goto 82 dX11_isJust_78 (by decide) ?_
            refine ab_icmpne 118 dX11_isJust_82 (by decide) (fun h_16 => absurd (by decide) h_16) (fun h_16 => ?_)
            refine ab_lload dX11_isJust_85 rfl ?_
            refine ab_callS (As := [.long ((a4 * a3) - a1)]) (rest := []) dX11_isJust_87 ms_X11_plain ml_X11_7 ⟨by decide, by decide, rfl, rfl, rfl⟩ (by decide) rfl rfl (Nat.le_of_ble_eq_true rfl) c_X11_plain_t ?_
            rintro r w' ⟨rfl, rfl⟩
            refine ab_ldc2 dX11_isJust_90 kl_X11_483 ?_
            refine ab_lcmpge 118 dX11_isJust_93 dX11_isJust_94 (by decide) (fun h_17 => ?_) (fun h_17 => ?_)
            · refine ab_iconst (v := 0) dX11_isJust_118 (by decide) ?_
              exact ab_zret dX11_isJust_119 rfl rfl (by decide) (Or.inr (Or.inr (Or.inr (Or.inr (Or.inr (Or.inr (Or.inr (Or.inr (Or.inr (Or.inl ⟨h_1, h_5, h_7, h_8, h_14, h_17, rfl, rfl⟩))))))))))
            · refine ab_lload dX11_isJust_97 rfl ?_
              refine ab_lload dX11_isJust_99 rfl ?_
              refine ab_lmul dX11_isJust_101 ?_
              refine ab_lload_n dX11_isJust_102 rfl ?_
              refine ab_lload_n dX11_isJust_103 rfl ?_
              refine ab_lmul dX11_isJust_104 ?_
              refine ab_aload_n dX11_isJust_105 rfl ?_
              refine ab_getf dX11_isJust_106 fl_X11_321 rfl rfl ?_
              refine ab_lmul dX11_isJust_109 ?_
              refine ab_lcmpne 118 dX11_isJust_110 dX11_isJust_111 (by decide) (fun h_18 => ?_) (fun h_18 => ?_)
              · refine ab_iconst (v := 0) dX11_isJust_118 (by decide) ?_
                exact ab_zret dX11_isJust_119 rfl rfl (by decide) (Or.inr (Or.inr (Or.inr (Or.inr (Or.inr (Or.inr (Or.inr (Or.inr (Or.inr (Or.inr (Or.inl ⟨h_1, h_5, h_7, h_8, h_14, h_17, h_18, rfl, rfl⟩)))))))))))
              · refine ab_iconst (v := 1) dX11_isJust_114 (by decide) ?_
                refine ab_goto 119 dX11_isJust_115 (by decide) ?_
                exact ab_zret dX11_isJust_119 rfl rfl (by decide) (Or.inr (Or.inr (Or.inr (Or.inr (Or.inr (Or.inr (Or.inr (Or.inr (Or.inr (Or.inr (Or.inr (Or.inl ⟨h_1, h_5, h_7, h_8, h_14, h_17, h_18, rfl, rfl⟩))))))))))))
      · refine ab_lload dX11_isJust_31 rfl ?_
        refine ab_lconst (v := 0) dX11_isJust_33 (by decide) ?_
        refine ab_lcmpne 57 dX11_isJust_34 dX11_isJust_35 (by decide) (fun h_19 => ?_) (fun h_19 => absurd h_19 h_1)
        refine ab_iconst (v := 0) dX11_isJust_57 (by decide) ?_
        exact ab_zret dX11_isJust_58 rfl rfl (by decide) (Or.inr (Or.inr (Or.inr (Or.inr (Or.inr (Or.inr (Or.inr (Or.inr (Or.inr (Or.inr (Or.inr (Or.inr (⟨h_1, h_5, h_7, rfl, rfl⟩)))))))))))))
