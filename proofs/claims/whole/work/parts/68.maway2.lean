def lp_mfa_st  (k : Nat) (f : Nat → Int32) : (Nat → Int32) := (upd f k (-2))
set_option maxHeartbeats 400000 in
theorem lp_mfa {wc : List ax_E} {m_thrown m_trouble m_fault m_where m_taped m_linkMany m_tracerMany m_pointMany m_pairMany m_readLinks m_readTracers m_readPoints m_readPairs m_textLong m_at m_spot m_token m_whole m_readFault m_readPlace m_value m_curveMany m_cornerMany m_straightAt m_walkLink m_walkMany m_lined m_actMany a2 a1 : Int32} {m_n m_c m_d m_s m_e m_k m_x m_y m_g m_a m_fitUp m_fitDown m_worstUp m_worstDown : Int64} {z3 z5 z6 z7 z8 z9 z10 z11 z12 z13 z14 z15 z16 z17 z20 : ax_E} {q4 q19 : Nat → Int32} {a b : Nat} {Q : Option Value → ax_W → Prop} {B : Nat} (hB : B = 128)  : ∀ (n k : Nat) (f : Nat → Int32) , k + n = B → Ab M_X11_away Q (0, 0) 64 [(3, .int (nI B)), (2, .int a2), (1, .int a1), (0, .ref 1000)] [] (wc, [ob 9 [.int m_thrown, .int m_trouble, .int m_fault, .int m_where, .ref 1001, .ref 1002, .int 40, .ref 1003, .int m_taped, .int m_linkMany, .int m_tracerMany, .int m_pointMany, .int m_pairMany, .ref 1004, .ref 1005, .ref 1006, .ref 1007, .int m_readLinks, .int m_readTracers, .int m_readPoints, .int m_readPairs, .ref 1008, .ref 1009, .ref 1010, .ref 1011, .int m_textLong, .int m_at, .int m_spot, .int m_token, .int m_whole, .int m_readFault, .int m_readPlace, .int m_value, .long m_n, .long m_c, .long m_d, .long m_s, .long m_e, .long m_k, .long m_x, .long m_y, .long m_g, .long m_a, .ref 1012, .ref 1013, .ref 1014, .int m_curveMany, .ref 1015, .int m_cornerMany, .int m_straightAt, .ref 1016, .long m_fitUp, .long m_fitDown, .long m_worstUp, .long m_worstDown, .ref 1017, .int m_walkLink, .int (nI a), .int (nI b), .int m_walkMany, .ref 1018, .ref 1019, .int m_lined, .ref 1020, .int m_actMany], ia 64 (ax_tab 0), ia 64 (ax_tab 1), z3, ia 16 q4, z5, z6, z7, z8, z9, z10, z11, z12, z13, z14, z15, z16, z17, ia 128 (itr lp_mfa_st n k f), ia 128 q19, z20]) → Ab M_X11_away Q (0, 0) 43 [(3, .int (nI k)), (2, .int a2), (1, .int a1), (0, .ref 1000)] [] (wc, [ob 9 [.int m_thrown, .int m_trouble, .int m_fault, .int m_where, .ref 1001, .ref 1002, .int 40, .ref 1003, .int m_taped, .int m_linkMany, .int m_tracerMany, .int m_pointMany, .int m_pairMany, .ref 1004, .ref 1005, .ref 1006, .ref 1007, .int m_readLinks, .int m_readTracers, .int m_readPoints, .int m_readPairs, .ref 1008, .ref 1009, .ref 1010, .ref 1011, .int m_textLong, .int m_at, .int m_spot, .int m_token, .int m_whole, .int m_readFault, .int m_readPlace, .int m_value, .long m_n, .long m_c, .long m_d, .long m_s, .long m_e, .long m_k, .long m_x, .long m_y, .long m_g, .long m_a, .ref 1012, .ref 1013, .ref 1014, .int m_curveMany, .ref 1015, .int m_cornerMany, .int m_straightAt, .ref 1016, .long m_fitUp, .long m_fitDown, .long m_worstUp, .long m_worstDown, .ref 1017, .int m_walkLink, .int (nI a), .int (nI b), .int m_walkMany, .ref 1018, .ref 1019, .int m_lined, .ref 1020, .int m_actMany], ia 64 (ax_tab 0), ia 64 (ax_tab 1), z3, ia 16 q4, z5, z6, z7, z8, z9, z10, z11, z12, z13, z14, z15, z16, z17, ia 128 f, ia 128 q19, z20]) := by
  intro n
  induction n with
  | zero =>
    intro k f  hk hx
    rw [itr_0] at hx
    rw [show k = B by omega]
    refine ab_iload_n dX11_away_43 rfl ?_
    refine ab_sipush (v := 128) dX11_away_44 (by decide) ?_
    refine ab_icmpge 64 dX11_away_47 (by decide) (fun h_1 => ?_) (fun h_1 => absurd (nI_le (a := 128) (by omega) (by omega)) h_1)
    refine ab_pick [0, 1, 2, 3] rfl ?_
    exact hx 
  | succ n ih =>
    intro k f  hk hx
    refine ab_iload_n dX11_away_43 rfl ?_
    refine ab_sipush (v := 128) dX11_away_44 (by decide) ?_
    refine ab_icmpge 64 dX11_away_47 (by decide) (fun h_1 => absurd h_1 (nI_ge (a := k) (b := 128) (by omega) (by omega))) (fun h_1 => ?_)
    refine ab_aload_n dX11_away_50 rfl ?_
    refine ab_getf dX11_away_51 fl_X11_88 rfl rfl ?_
    refine ab_iload_n dX11_away_54 rfl ?_
    refine ab_bipush (v := -2) dX11_away_55 (by decide) ?_
    refine ab_iast (w1 := (wc, [ob 9 [.int m_thrown, .int m_trouble, .int m_fault, .int m_where, .ref 1001, .ref 1002, .int 40, .ref 1003, .int m_taped, .int m_linkMany, .int m_tracerMany, .int m_pointMany, .int m_pairMany, .ref 1004, .ref 1005, .ref 1006, .ref 1007, .int m_readLinks, .int m_readTracers, .int m_readPoints, .int m_readPairs, .ref 1008, .ref 1009, .ref 1010, .ref 1011, .int m_textLong, .int m_at, .int m_spot, .int m_token, .int m_whole, .int m_readFault, .int m_readPlace, .int m_value, .long m_n, .long m_c, .long m_d, .long m_s, .long m_e, .long m_k, .long m_x, .long m_y, .long m_g, .long m_a, .ref 1012, .ref 1013, .ref 1014, .int m_curveMany, .ref 1015, .int m_cornerMany, .int m_straightAt, .ref 1016, .long m_fitUp, .long m_fitDown, .long m_worstUp, .long m_worstDown, .ref 1017, .int m_walkLink, .int (nI a), .int (nI b), .int m_walkMany, .ref 1018, .ref 1019, .int m_lined, .ref 1020, .int m_actMany], ia 64 (ax_tab 0), ia 64 (ax_tab 1), z3, ia 16 q4, z5, z6, z7, z8, z9, z10, z11, z12, z13, z14, z15, z16, z17, ia 128 (upd f k (-2)), ia 128 q19, z20])) dX11_away_57 rfl (ix_nI (by omega) (by decide)) rfl ?_
    refine ab_iinc (v := (nI (k + 1))) (la' := [(3, .int (nI (k + 1))), (2, .int a2), (1, .int a1), (0, .ref 1000)]) dX11_away_58 rfl (nI_1 _) (by decide) rfl ?_
    refine ab_goto 43 dX11_away_61 (by decide) ?_
    refine ab_pick [0, 1, 2, 3] rfl ?_
    rw [(itr_s lp_mfa_st n k f).trans (congrArg (itr lp_mfa_st n (k + 1)) (show lp_mfa_st k f = (upd f k (-2)) from rfl))] at hx
    exact ih (k + 1) (upd f k (-2))  (by omega) hx
/-- the search's start, and its end -/
def bs0 : BS := (fun _ => -2, fun _ => 0, 0)
def bsW (p d : Nat → Bool) (a b : Nat) : BS := itr (bsS p d) 80 0 (mtS p (2 * a + b) 0 bs0)
theorem fill_itr (v : Int32) (q : Nat → Int32) (st : Nat → (Nat → Int32) → Nat → Int32) (hst : ∀ k f, st k f = upd f k v) : ∀ (n k : Nat) (f : Nat → Int32), (∀ i, f i = if i < k then v else q i) → ∀ i, itr st n k f i = if i < k + n then v else q i
  | 0, k, f, h, i => by rw [itr_0]; exact h i
  | n + 1, k, f, h, i => by
    rw [itr_s, hst, fill_itr v q st hst n (k + 1) _ (fun i => ?_) i]
    · rw [show k + 1 + n = k + (n + 1) by omega]
    · unfold upd
      by_cases e : i = k
      · rw [if_pos e, if_pos (by omega)]
      · rw [if_neg e, h i]
        by_cases z : i < k
        · rw [if_pos z, if_pos (by omega)]
        · rw [if_neg z, if_neg (by omega)]
theorem fill_m (q : Nat → Int32) : ovl bs0.1 128 q = itr lp_mfa_st 128 0 q := by
  funext i
  rw [fill_itr (-2) q lp_mfa_st (fun _ _ => rfl) 128 0 q (fun i => by rw [if_neg (by omega)]) i]
  rfl
theorem putA_b0 (q : Nat → Int32) : putA q bs0.2.1 bs0.2.2 = q := putA_0 q _
theorem c_X11_away_i {wc : List ax_E} {m_thrown m_trouble m_fault m_where m_taped m_linkMany m_tracerMany m_pointMany m_pairMany m_readLinks m_readTracers m_readPoints m_readPairs m_textLong m_at m_spot m_token m_whole m_readFault m_readPlace m_value m_curveMany m_cornerMany m_straightAt m_walkLink m_walkMany m_lined m_actMany : Int32} {m_n m_c m_d m_s m_e m_k m_x m_y m_g m_a m_fitUp m_fitDown m_worstUp m_worstDown : Int64} {z3 z5 z6 z7 z8 z9 z10 z11 z12 z13 z14 z15 z16 z17 z20 : ax_E} {q4 q18 q19 : Nat → Int32} {a b j e : Nat} {p d : Nat → Bool} (h_l : 0 ≤ m_linkMany ∧ m_linkMany ≤ nI 4) (h_w : ¬ m_walkLink = -1 → (0 ≤ m_walkLink ∧ m_walkLink < m_linkMany)) (h_p : ∀ k, p k = true ↔ lawM q4 m_walkLink k) (h_d : ∀ k, d k = true ↔ lawM q4 m_walkLink k ∧ Ml_k q4 m_walkLink (nI k) = 0) (ha : a < 40) (hb : b < 2) (hj : j < 40) (he : e < 2) (h_j : 0 ≤ (nI j) ∧ (nI j) < 40) (h_e : 0 ≤ (nI e) ∧ (nI e) ≤ 1) : Ct M_X11_away [.ref 1000, .int (nI j), .int (nI e)] (wc, [ob 9 [.int m_thrown, .int m_trouble, .int m_fault, .int m_where, .ref 1001, .ref 1002, .int 40, .ref 1003, .int m_taped, .int m_linkMany, .int m_tracerMany, .int m_pointMany, .int m_pairMany, .ref 1004, .ref 1005, .ref 1006, .ref 1007, .int m_readLinks, .int m_readTracers, .int m_readPoints, .int m_readPairs, .ref 1008, .ref 1009, .ref 1010, .ref 1011, .int m_textLong, .int m_at, .int m_spot, .int m_token, .int m_whole, .int m_readFault, .int m_readPlace, .int m_value, .long m_n, .long m_c, .long m_d, .long m_s, .long m_e, .long m_k, .long m_x, .long m_y, .long m_g, .long m_a, .ref 1012, .ref 1013, .ref 1014, .int m_curveMany, .ref 1015, .int m_cornerMany, .int m_straightAt, .ref 1016, .long m_fitUp, .long m_fitDown, .long m_worstUp, .long m_worstDown, .ref 1017, .int m_walkLink, .int (nI a), .int (nI b), .int m_walkMany, .ref 1018, .ref 1019, .int m_lined, .ref 1020, .int m_actMany], ia 64 (ax_tab 0), ia 64 (ax_tab 1), z3, ia 16 q4, z5, z6, z7, z8, z9, z10, z11, z12, z13, z14, z15, z16, z17, ia 128 q18, ia 128 q19, z20]) (fun r w' => (∃ gn_8 : Nat → Int64, ∃ gx_9 : Nat → Int64, (¬ m_walkLink = (-1)) ∧ r = some (.int ((bsW p d a b).1 (2 * j + e))) ∧ w' = (wc, [ob 9 [.int 0, .int 0, .int m_fault, .int (-1), .ref 1001, .ref 1002, .int 40, .ref 1003, .int m_taped, .int m_linkMany, .int m_tracerMany, .int m_pointMany, .int m_pairMany, .ref 1004, .ref 1005, .ref 1006, .ref 1007, .int m_readLinks, .int m_readTracers, .int m_readPoints, .int m_readPairs, .ref 1008, .ref 1009, .ref 1010, .ref 1011, .int m_textLong, .int m_at, .int m_spot, .int m_token, .int m_whole, .int m_readFault, .int m_readPlace, .int m_value, .long (gx_9 33), .long (gx_9 34), .long (gx_9 35), .long (gx_9 36), .long (gx_9 37), .long (gx_9 38), .long (gx_9 39), .long (gx_9 40), .long (gx_9 41), .long (gx_9 42), .ref 1012, .ref 1013, .ref 1014, .int m_curveMany, .ref 1015, .int m_cornerMany, .int m_straightAt, .ref 1016, .long m_fitUp, .long m_fitDown, .long m_worstUp, .long m_worstDown, .ref 1017, .int m_walkLink, .int (nI a), .int (nI b), .int m_walkMany, .ref 1018, .ref 1019, .int (nI (bsW p d a b).2.2), .ref 1020, .int m_actMany], ia 64 (ax_tab 0), ia 64 (ax_tab 1), z3, ia 16 q4, z5, z6, z7, z8, z9, z10, z11, z12, z13, z14, z15, z16, z17, ia 128 (ovl (bsW p d a b).1 128 q18), ia 128 (putA q19 (bsW p d a b).2.1 (bsW p d a b).2.2), z20])) ∨ ((m_walkLink = (-1)) ∧ r = some (.int (-1)) ∧ w' = (wc, [ob 9 [.int 0, .int 5, .int m_fault, .int (-1), .ref 1001, .ref 1002, .int 40, .ref 1003, .int m_taped, .int m_linkMany, .int m_tracerMany, .int m_pointMany, .int m_pairMany, .ref 1004, .ref 1005, .ref 1006, .ref 1007, .int m_readLinks, .int m_readTracers, .int m_readPoints, .int m_readPairs, .ref 1008, .ref 1009, .ref 1010, .ref 1011, .int m_textLong, .int m_at, .int m_spot, .int m_token, .int m_whole, .int m_readFault, .int m_readPlace, .int m_value, .long m_n, .long m_c, .long m_d, .long m_s, .long m_e, .long m_k, .long m_x, .long m_y, .long m_g, .long m_a, .ref 1012, .ref 1013, .ref 1014, .int m_curveMany, .ref 1015, .int m_cornerMany, .int m_straightAt, .ref 1016, .long m_fitUp, .long m_fitDown, .long m_worstUp, .long m_worstDown, .ref 1017, .int m_walkLink, .int (nI a), .int (nI b), .int m_walkMany, .ref 1018, .ref 1019, .int m_lined, .ref 1020, .int m_actMany], ia 64 (ax_tab 0), ia 64 (ax_tab 1), z3, ia 16 q4, z5, z6, z7, z8, z9, z10, z11, z12, z13, z14, z15, z16, z17, ia 128 q18, ia 128 q19, z20]))) := by
  refine ct_of ⟨by decide, rfl⟩ (Nat.le_of_ble_eq_true rfl) ?_
  refine ab_aload_n dX11_away_0 rfl ?_
  refine ab_callV (As := []) (rest := []) dX11_away_1 mv_X11_anew ml_X11_104 ⟨by decide, by decide, rfl, rfl, rfl⟩ (by decide) rfl rfl (Nat.le_of_ble_eq_true rfl) rfl c_X11_anew ?_
  rintro r w' ⟨rfl, rfl⟩
  refine ab_aload_n dX11_away_4 rfl ?_
  refine ab_getf dX11_away_5 fl_X11_85 rfl rfl ?_
  refine ab_iconst (v := -1) dX11_away_8 (by decide) ?_
  refine ab_icmpne 18 dX11_away_9 (by decide) (fun h_1 => ?_) (fun h_1 => ?_)
  · refine ab_aload_n dX11_away_18 rfl ?_
    refine ab_iload_n dX11_away_19 rfl ?_
    refine ab_callV (As := [.int (nI j)]) (rest := []) dX11_away_20 mv_X11_isAngle ml_X11_334 ⟨by decide, by decide, rfl, rfl, rfl⟩ (by decide) rfl rfl (Nat.le_of_ble_eq_true rfl) rfl c_X11_isAngle ?_
    rintro r w' (⟨c_2, rfl, rfl⟩ | ⟨c_3, rfl, rfl⟩)
    · refine ab_ifeq 35 dX11_away_23 (by decide) (fun h_4 => absurd h_4 (by decide)) (fun h_4 => ?_)
      refine ab_iload_n dX11_away_26 rfl ?_
      refine ab_iconst (v := 0) dX11_away_27 (by decide) ?_
      refine ab_iconst (v := 1) dX11_away_28 (by decide) ?_
      refine ab_callS (As := [.int (nI e), .int 0, .int 1]) (rest := []) dX11_away_29 ms_X11_in ml_X11_107 ⟨by decide, by decide, rfl, rfl, rfl⟩ (by decide) rfl rfl (Nat.le_of_ble_eq_true rfl) c_X11_in ?_
      rintro r w' (⟨c_5, rfl, rfl⟩ | ⟨c_6, rfl, rfl⟩)
      · refine ab_ifne 41 dX11_away_32 (by decide) (fun h_7 => ?_) (fun h_7 => absurd h_7 (by decide))
        refine ab_iconst (v := 0) dX11_away_41 (by decide) ?_
        refine ab_istore_n (la' := [(3, .int 0), (0, .ref 1000), (1, .int (nI j)), (2, .int (nI e))]) dX11_away_42 (by decide) rfl ?_
        refine ab_pick [0, 3, 2, 1] rfl ?_
        refine lp_mfa (B := 128) rfl 128 0 q18 (by omega) ?_
        refine ab_aload_n dX11_away_64 rfl ?_
        refine ab_iconst (v := 0) dX11_away_65 (by decide) ?_
        refine ab_putf (w1 := (wc, [ob 9 [.int 0, .int 0, .int m_fault, .int (-1), .ref 1001, .ref 1002, .int 40, .ref 1003, .int m_taped, .int m_linkMany, .int m_tracerMany, .int m_pointMany, .int m_pairMany, .ref 1004, .ref 1005, .ref 1006, .ref 1007, .int m_readLinks, .int m_readTracers, .int m_readPoints, .int m_readPairs, .ref 1008, .ref 1009, .ref 1010, .ref 1011, .int m_textLong, .int m_at, .int m_spot, .int m_token, .int m_whole, .int m_readFault, .int m_readPlace, .int m_value, .long m_n, .long m_c, .long m_d, .long m_s, .long m_e, .long m_k, .long m_x, .long m_y, .long m_g, .long m_a, .ref 1012, .ref 1013, .ref 1014, .int m_curveMany, .ref 1015, .int m_cornerMany, .int m_straightAt, .ref 1016, .long m_fitUp, .long m_fitDown, .long m_worstUp, .long m_worstDown, .ref 1017, .int m_walkLink, .int (nI a), .int (nI b), .int m_walkMany, .ref 1018, .ref 1019, .int 0, .ref 1020, .int m_actMany], ia 64 (ax_tab 0), ia 64 (ax_tab 1), z3, ia 16 q4, z5, z6, z7, z8, z9, z10, z11, z12, z13, z14, z15, z16, z17, ia 128 (itr lp_mfa_st 128 0 q18), ia 128 q19, z20])) dX11_away_66 fl_X11_544 rfl (Nat.le_of_ble_eq_true rfl) (fun _ => ⟨rfl, rfl⟩) rfl ?_
        refine ab_world (wc, [ob 9 [.int 0, .int 0, .int m_fault, .int (-1), .ref 1001, .ref 1002, .int 40, .ref 1003, .int m_taped, .int m_linkMany, .int m_tracerMany, .int m_pointMany, .int m_pairMany, .ref 1004, .ref 1005, .ref 1006, .ref 1007, .int m_readLinks, .int m_readTracers, .int m_readPoints, .int m_readPairs, .ref 1008, .ref 1009, .ref 1010, .ref 1011, .int m_textLong, .int m_at, .int m_spot, .int m_token, .int m_whole, .int m_readFault, .int m_readPlace, .int m_value, .long ((fun i => [m_n, m_c, m_d, m_s, m_e, m_k, m_x, m_y, m_g, m_a].getD (i - 33) 0) 33), .long ((fun i => [m_n, m_c, m_d, m_s, m_e, m_k, m_x, m_y, m_g, m_a].getD (i - 33) 0) 34), .long ((fun i => [m_n, m_c, m_d, m_s, m_e, m_k, m_x, m_y, m_g, m_a].getD (i - 33) 0) 35), .long ((fun i => [m_n, m_c, m_d, m_s, m_e, m_k, m_x, m_y, m_g, m_a].getD (i - 33) 0) 36), .long ((fun i => [m_n, m_c, m_d, m_s, m_e, m_k, m_x, m_y, m_g, m_a].getD (i - 33) 0) 37), .long ((fun i => [m_n, m_c, m_d, m_s, m_e, m_k, m_x, m_y, m_g, m_a].getD (i - 33) 0) 38), .long ((fun i => [m_n, m_c, m_d, m_s, m_e, m_k, m_x, m_y, m_g, m_a].getD (i - 33) 0) 39), .long ((fun i => [m_n, m_c, m_d, m_s, m_e, m_k, m_x, m_y, m_g, m_a].getD (i - 33) 0) 40), .long ((fun i => [m_n, m_c, m_d, m_s, m_e, m_k, m_x, m_y, m_g, m_a].getD (i - 33) 0) 41), .long ((fun i => [m_n, m_c, m_d, m_s, m_e, m_k, m_x, m_y, m_g, m_a].getD (i - 33) 0) 42), .ref 1012, .ref 1013, .ref 1014, .int m_curveMany, .ref 1015, .int m_cornerMany, .int m_straightAt, .ref 1016, .long m_fitUp, .long m_fitDown, .long m_worstUp, .long m_worstDown, .ref 1017, .int m_walkLink, .int (nI a), .int (nI b), .int m_walkMany, .ref 1018, .ref 1019, .int (nI bs0.2.2), .ref 1020, .int m_actMany], ia 64 (ax_tab 0), ia 64 (ax_tab 1), z3, ia 16 q4, z5, z6, z7, z8, z9, z10, z11, z12, z13, z14, z15, z16, z17, ia 128 (ovl bs0.1 128 q18), ia 128 (putA q19 bs0.2.1 bs0.2.2), z20]) (by rw [fill_m, putA_b0]; rfl) ?_
        refine ab_aload_n dX11_away_69 rfl ?_
        refine ab_iconst (v := 2) dX11_away_70 (by decide) ?_
        refine ab_aload_n dX11_away_71 rfl ?_
        refine ab_getf dX11_away_72 fl_X11_532 rfl rfl ?_
        refine ab_imul dX11_away_75 ?_
        refine ab_topi (v := (nI (2 * a))) (pk_mul 2 _) ?_
        refine ab_aload_n dX11_away_76 rfl ?_
        refine ab_getf dX11_away_77 fl_X11_535 rfl rfl ?_
        refine ab_iadd dX11_away_80 ?_
        refine ab_topi (v := (nI ((2 * a) + b))) (nI_add _ _) ?_
        refine ab_iconst (v := 0) dX11_away_81 (by decide) ?_
        refine ab_callV (As := [.int (nI ((2 * a) + b)), .int 0]) (rest := []) dX11_away_82 mv_X11_meets ml_X11_547 ⟨by decide, by decide, rfl, rfl, rfl⟩ (by decide) rfl rfl (Nat.le_of_ble_eq_true rfl) rfl (c_X11_meets (S := bs0) (pl := ((2 * a) + b)) (gm := (fun i => [m_n, m_c, m_d, m_s, m_e, m_k, m_x, m_y, m_g, m_a].getD (i - 33) 0)) (q18 := q18) (q19 := q19) (p := p) (h_w h_1) h_l h_p (by omega) (jS_lt jS_0 (by omega))) ?_
        rintro r w' ⟨gn_8, rfl, rfl⟩
        refine ab_iconst (v := 0) dX11_away_85 (by decide) ?_
        refine ab_istore_n (la' := [(3, .int 0), (2, .int (nI e)), (1, .int (nI j)), (0, .ref 1000)]) dX11_away_86 (by decide) rfl ?_
        refine ab_pick [0, 1, 2, 3] rfl ?_
        refine lp_aw (p := p) (d := d) (q18 := q18) (q19 := q19) (h_w h_1) h_l h_p h_d 80 0 (mtS p ((2 * a) + b) 0 bs0) gn_8 (by omega) (jS_mt jS_0 (by omega) (by decide) ⟨0, Nat.le_refl 0, rfl⟩) (fun gx_9 => ?_)
        refine ab_world (wc, [ob 9 [.int 0, .int 0, .int m_fault, .int (-1), .ref 1001, .ref 1002, .int 40, .ref 1003, .int m_taped, .int m_linkMany, .int m_tracerMany, .int m_pointMany, .int m_pairMany, .ref 1004, .ref 1005, .ref 1006, .ref 1007, .int m_readLinks, .int m_readTracers, .int m_readPoints, .int m_readPairs, .ref 1008, .ref 1009, .ref 1010, .ref 1011, .int m_textLong, .int m_at, .int m_spot, .int m_token, .int m_whole, .int m_readFault, .int m_readPlace, .int m_value, .long (gx_9 33), .long (gx_9 34), .long (gx_9 35), .long (gx_9 36), .long (gx_9 37), .long (gx_9 38), .long (gx_9 39), .long (gx_9 40), .long (gx_9 41), .long (gx_9 42), .ref 1012, .ref 1013, .ref 1014, .int m_curveMany, .ref 1015, .int m_cornerMany, .int m_straightAt, .ref 1016, .long m_fitUp, .long m_fitDown, .long m_worstUp, .long m_worstDown, .ref 1017, .int m_walkLink, .int (nI a), .int (nI b), .int m_walkMany, .ref 1018, .ref 1019, .int (nI (bsW p d a b).2.2), .ref 1020, .int m_actMany], ia 64 (ax_tab 0), ia 64 (ax_tab 1), z3, ia 16 q4, z5, z6, z7, z8, z9, z10, z11, z12, z13, z14, z15, z16, z17, ia 128 (ovl (bsW p d a b).1 128 q18), ia 128 (putA q19 (bsW p d a b).2.1 (bsW p d a b).2.2), z20]) rfl ?_
        refine ab_aload_n dX11_away_194 rfl ?_
        refine ab_getf dX11_away_195 fl_X11_88 rfl rfl ?_
        refine ab_iconst (v := 2) dX11_away_198 (by decide) ?_
        refine ab_iload_n dX11_away_199 rfl ?_
        refine ab_imul dX11_away_200 ?_
        refine ab_topi (v := (nI (2 * j))) (pk_mul 2 _) ?_
        refine ab_iload_n dX11_away_201 rfl ?_
        refine ab_iadd dX11_away_202 ?_
        refine ab_topi (v := (nI ((2 * j) + e))) (nI_add _ _) ?_
        refine ab_iald (j := ((2 * j) + e)) dX11_away_203 rfl (ix_nI (by omega) (by decide)) ?_
        refine ab_topi (v := ((bsW p d a b).1 (2 * j + e))) (ovl_lt (by omega)) ?_
        exact ab_iret dX11_away_204 rfl (by decide) (Or.inl ⟨gn_8, gx_9, h_1, rfl, rfl⟩)
      · exact absurd h_e c_6
    · exact absurd h_j c_3
  · refine ab_aload_n dX11_away_12 rfl ?_
    refine ab_iconst (v := 5) dX11_away_13 (by decide) ?_
    refine ab_callV (As := [.int 5]) (rest := []) dX11_away_14 mv_X11_no ml_X11_115 ⟨by decide, by decide, rfl, rfl, rfl⟩ (by decide) rfl rfl (Nat.le_of_ble_eq_true rfl) rfl c_X11_no ?_
    rintro r w' ⟨rfl, rfl⟩
    exact ab_iret dX11_away_17 rfl (by decide) (Or.inr (⟨h_1, rfl, rfl⟩))
theorem c_X11_away_a {wc : List ax_E} {m_thrown m_trouble m_fault m_where m_taped m_linkMany m_tracerMany m_pointMany m_pairMany m_readLinks m_readTracers m_readPoints m_readPairs m_textLong m_at m_spot m_token m_whole m_readFault m_readPlace m_value m_curveMany m_cornerMany m_straightAt m_walkLink m_walkAngle m_walkBranch m_walkMany m_lined m_actMany a1 a2 : Int32} {m_n m_c m_d m_s m_e m_k m_x m_y m_g m_a m_fitUp m_fitDown m_worstUp m_worstDown : Int64} {z1 z2 z3 z4 z5 z6 z7 z8 z9 z10 z11 z12 z13 z14 z15 z16 z17 z18 z19 z20 : ax_E} (h_o : ¬ (0 ≤ a1 ∧ a1 < 40)) : Ct M_X11_away [.ref 1000, .int a1, .int a2] (wc, [ob 9 [.int m_thrown, .int m_trouble, .int m_fault, .int m_where, .ref 1001, .ref 1002, .int 40, .ref 1003, .int m_taped, .int m_linkMany, .int m_tracerMany, .int m_pointMany, .int m_pairMany, .ref 1004, .ref 1005, .ref 1006, .ref 1007, .int m_readLinks, .int m_readTracers, .int m_readPoints, .int m_readPairs, .ref 1008, .ref 1009, .ref 1010, .ref 1011, .int m_textLong, .int m_at, .int m_spot, .int m_token, .int m_whole, .int m_readFault, .int m_readPlace, .int m_value, .long m_n, .long m_c, .long m_d, .long m_s, .long m_e, .long m_k, .long m_x, .long m_y, .long m_g, .long m_a, .ref 1012, .ref 1013, .ref 1014, .int m_curveMany, .ref 1015, .int m_cornerMany, .int m_straightAt, .ref 1016, .long m_fitUp, .long m_fitDown, .long m_worstUp, .long m_worstDown, .ref 1017, .int m_walkLink, .int m_walkAngle, .int m_walkBranch, .int m_walkMany, .ref 1018, .ref 1019, .int m_lined, .ref 1020, .int m_actMany], z1, z2, z3, z4, z5, z6, z7, z8, z9, z10, z11, z12, z13, z14, z15, z16, z17, z18, z19, z20]) (fun r w' => ((¬ m_walkLink = (-1)) ∧ r = some (.int (-1)) ∧ w' = (wc, [ob 9 [.int 0, .int 1, .int m_fault, .int (-1), .ref 1001, .ref 1002, .int 40, .ref 1003, .int m_taped, .int m_linkMany, .int m_tracerMany, .int m_pointMany, .int m_pairMany, .ref 1004, .ref 1005, .ref 1006, .ref 1007, .int m_readLinks, .int m_readTracers, .int m_readPoints, .int m_readPairs, .ref 1008, .ref 1009, .ref 1010, .ref 1011, .int m_textLong, .int m_at, .int m_spot, .int m_token, .int m_whole, .int m_readFault, .int m_readPlace, .int m_value, .long m_n, .long m_c, .long m_d, .long m_s, .long m_e, .long m_k, .long m_x, .long m_y, .long m_g, .long m_a, .ref 1012, .ref 1013, .ref 1014, .int m_curveMany, .ref 1015, .int m_cornerMany, .int m_straightAt, .ref 1016, .long m_fitUp, .long m_fitDown, .long m_worstUp, .long m_worstDown, .ref 1017, .int m_walkLink, .int m_walkAngle, .int m_walkBranch, .int m_walkMany, .ref 1018, .ref 1019, .int m_lined, .ref 1020, .int m_actMany], z1, z2, z3, z4, z5, z6, z7, z8, z9, z10, z11, z12, z13, z14, z15, z16, z17, z18, z19, z20])) ∨ ((m_walkLink = (-1)) ∧ r = some (.int (-1)) ∧ w' = (wc, [ob 9 [.int 0, .int 5, .int m_fault, .int (-1), .ref 1001, .ref 1002, .int 40, .ref 1003, .int m_taped, .int m_linkMany, .int m_tracerMany, .int m_pointMany, .int m_pairMany, .ref 1004, .ref 1005, .ref 1006, .ref 1007, .int m_readLinks, .int m_readTracers, .int m_readPoints, .int m_readPairs, .ref 1008, .ref 1009, .ref 1010, .ref 1011, .int m_textLong, .int m_at, .int m_spot, .int m_token, .int m_whole, .int m_readFault, .int m_readPlace, .int m_value, .long m_n, .long m_c, .long m_d, .long m_s, .long m_e, .long m_k, .long m_x, .long m_y, .long m_g, .long m_a, .ref 1012, .ref 1013, .ref 1014, .int m_curveMany, .ref 1015, .int m_cornerMany, .int m_straightAt, .ref 1016, .long m_fitUp, .long m_fitDown, .long m_worstUp, .long m_worstDown, .ref 1017, .int m_walkLink, .int m_walkAngle, .int m_walkBranch, .int m_walkMany, .ref 1018, .ref 1019, .int m_lined, .ref 1020, .int m_actMany], z1, z2, z3, z4, z5, z6, z7, z8, z9, z10, z11, z12, z13, z14, z15, z16, z17, z18, z19, z20]))) := by
  refine ct_of ⟨by decide, rfl⟩ (Nat.le_of_ble_eq_true rfl) ?_
  refine ab_aload_n dX11_away_0 rfl ?_
  refine ab_callV (As := []) (rest := []) dX11_away_1 mv_X11_anew ml_X11_104 ⟨by decide, by decide, rfl, rfl, rfl⟩ (by decide) rfl rfl (Nat.le_of_ble_eq_true rfl) rfl c_X11_anew ?_
  rintro r w' ⟨rfl, rfl⟩
  refine ab_aload_n dX11_away_4 rfl ?_
  refine ab_getf dX11_away_5 fl_X11_85 rfl rfl ?_
  refine ab_iconst (v := -1) dX11_away_8 (by decide) ?_
  refine ab_icmpne 18 dX11_away_9 (by decide) (fun h_1 => ?_) (fun h_1 => ?_)
  · refine ab_aload_n dX11_away_18 rfl ?_
    refine ab_iload_n dX11_away_19 rfl ?_
    refine ab_callV (As := [.int a1]) (rest := []) dX11_away_20 mv_X11_isAngle ml_X11_334 ⟨by decide, by decide, rfl, rfl, rfl⟩ (by decide) rfl rfl (Nat.le_of_ble_eq_true rfl) rfl c_X11_isAngle ?_
    rintro r w' (⟨c_2, rfl, rfl⟩ | ⟨c_3, rfl, rfl⟩)
    · exact absurd c_2 h_o
    · refine ab_ifeq 35 dX11_away_23 (by decide) (fun h_4 => ?_) (fun h_4 => absurd (by decide) h_4)
      refine ab_aload_n dX11_away_35 rfl ?_
      refine ab_iconst (v := 1) dX11_away_36 (by decide) ?_
      refine ab_callV (As := [.int 1]) (rest := []) dX11_away_37 mv_X11_no ml_X11_115 ⟨by decide, by decide, rfl, rfl, rfl⟩ (by decide) rfl rfl (Nat.le_of_ble_eq_true rfl) rfl c_X11_no ?_
      rintro r w' ⟨rfl, rfl⟩
      exact ab_iret dX11_away_40 rfl (by decide) (Or.inl ⟨h_1, rfl, rfl⟩)
  · refine ab_aload_n dX11_away_12 rfl ?_
    refine ab_iconst (v := 5) dX11_away_13 (by decide) ?_
    refine ab_callV (As := [.int 5]) (rest := []) dX11_away_14 mv_X11_no ml_X11_115 ⟨by decide, by decide, rfl, rfl, rfl⟩ (by decide) rfl rfl (Nat.le_of_ble_eq_true rfl) rfl c_X11_no ?_
    rintro r w' ⟨rfl, rfl⟩
    exact ab_iret dX11_away_17 rfl (by decide) (Or.inr (⟨h_1, rfl, rfl⟩))
theorem c_X11_away_b {wc : List ax_E} {m_thrown m_trouble m_fault m_where m_taped m_linkMany m_tracerMany m_pointMany m_pairMany m_readLinks m_readTracers m_readPoints m_readPairs m_textLong m_at m_spot m_token m_whole m_readFault m_readPlace m_value m_curveMany m_cornerMany m_straightAt m_walkLink m_walkAngle m_walkBranch m_walkMany m_lined m_actMany a1 a2 : Int32} {m_n m_c m_d m_s m_e m_k m_x m_y m_g m_a m_fitUp m_fitDown m_worstUp m_worstDown : Int64} {z1 z2 z3 z4 z5 z6 z7 z8 z9 z10 z11 z12 z13 z14 z15 z16 z17 z18 z19 z20 : ax_E} (h_o : ¬ (0 ≤ a2 ∧ a2 ≤ 1)) : Ct M_X11_away [.ref 1000, .int a1, .int a2] (wc, [ob 9 [.int m_thrown, .int m_trouble, .int m_fault, .int m_where, .ref 1001, .ref 1002, .int 40, .ref 1003, .int m_taped, .int m_linkMany, .int m_tracerMany, .int m_pointMany, .int m_pairMany, .ref 1004, .ref 1005, .ref 1006, .ref 1007, .int m_readLinks, .int m_readTracers, .int m_readPoints, .int m_readPairs, .ref 1008, .ref 1009, .ref 1010, .ref 1011, .int m_textLong, .int m_at, .int m_spot, .int m_token, .int m_whole, .int m_readFault, .int m_readPlace, .int m_value, .long m_n, .long m_c, .long m_d, .long m_s, .long m_e, .long m_k, .long m_x, .long m_y, .long m_g, .long m_a, .ref 1012, .ref 1013, .ref 1014, .int m_curveMany, .ref 1015, .int m_cornerMany, .int m_straightAt, .ref 1016, .long m_fitUp, .long m_fitDown, .long m_worstUp, .long m_worstDown, .ref 1017, .int m_walkLink, .int m_walkAngle, .int m_walkBranch, .int m_walkMany, .ref 1018, .ref 1019, .int m_lined, .ref 1020, .int m_actMany], z1, z2, z3, z4, z5, z6, z7, z8, z9, z10, z11, z12, z13, z14, z15, z16, z17, z18, z19, z20]) (fun r w' => ((¬ m_walkLink = (-1)) ∧ (0 ≤ a1 ∧ a1 < 40) ∧ r = some (.int (-1)) ∧ w' = (wc, [ob 9 [.int 0, .int 1, .int m_fault, .int (-1), .ref 1001, .ref 1002, .int 40, .ref 1003, .int m_taped, .int m_linkMany, .int m_tracerMany, .int m_pointMany, .int m_pairMany, .ref 1004, .ref 1005, .ref 1006, .ref 1007, .int m_readLinks, .int m_readTracers, .int m_readPoints, .int m_readPairs, .ref 1008, .ref 1009, .ref 1010, .ref 1011, .int m_textLong, .int m_at, .int m_spot, .int m_token, .int m_whole, .int m_readFault, .int m_readPlace, .int m_value, .long m_n, .long m_c, .long m_d, .long m_s, .long m_e, .long m_k, .long m_x, .long m_y, .long m_g, .long m_a, .ref 1012, .ref 1013, .ref 1014, .int m_curveMany, .ref 1015, .int m_cornerMany, .int m_straightAt, .ref 1016, .long m_fitUp, .long m_fitDown, .long m_worstUp, .long m_worstDown, .ref 1017, .int m_walkLink, .int m_walkAngle, .int m_walkBranch, .int m_walkMany, .ref 1018, .ref 1019, .int m_lined, .ref 1020, .int m_actMany], z1, z2, z3, z4, z5, z6, z7, z8, z9, z10, z11, z12, z13, z14, z15, z16, z17, z18, z19, z20])) ∨ ((¬ m_walkLink = (-1)) ∧ (¬ (0 ≤ a1 ∧ a1 < 40)) ∧ r = some (.int (-1)) ∧ w' = (wc, [ob 9 [.int 0, .int 1, .int m_fault, .int (-1), .ref 1001, .ref 1002, .int 40, .ref 1003, .int m_taped, .int m_linkMany, .int m_tracerMany, .int m_pointMany, .int m_pairMany, .ref 1004, .ref 1005, .ref 1006, .ref 1007, .int m_readLinks, .int m_readTracers, .int m_readPoints, .int m_readPairs, .ref 1008, .ref 1009, .ref 1010, .ref 1011, .int m_textLong, .int m_at, .int m_spot, .int m_token, .int m_whole, .int m_readFault, .int m_readPlace, .int m_value, .long m_n, .long m_c, .long m_d, .long m_s, .long m_e, .long m_k, .long m_x, .long m_y, .long m_g, .long m_a, .ref 1012, .ref 1013, .ref 1014, .int m_curveMany, .ref 1015, .int m_cornerMany, .int m_straightAt, .ref 1016, .long m_fitUp, .long m_fitDown, .long m_worstUp, .long m_worstDown, .ref 1017, .int m_walkLink, .int m_walkAngle, .int m_walkBranch, .int m_walkMany, .ref 1018, .ref 1019, .int m_lined, .ref 1020, .int m_actMany], z1, z2, z3, z4, z5, z6, z7, z8, z9, z10, z11, z12, z13, z14, z15, z16, z17, z18, z19, z20])) ∨ ((m_walkLink = (-1)) ∧ r = some (.int (-1)) ∧ w' = (wc, [ob 9 [.int 0, .int 5, .int m_fault, .int (-1), .ref 1001, .ref 1002, .int 40, .ref 1003, .int m_taped, .int m_linkMany, .int m_tracerMany, .int m_pointMany, .int m_pairMany, .ref 1004, .ref 1005, .ref 1006, .ref 1007, .int m_readLinks, .int m_readTracers, .int m_readPoints, .int m_readPairs, .ref 1008, .ref 1009, .ref 1010, .ref 1011, .int m_textLong, .int m_at, .int m_spot, .int m_token, .int m_whole, .int m_readFault, .int m_readPlace, .int m_value, .long m_n, .long m_c, .long m_d, .long m_s, .long m_e, .long m_k, .long m_x, .long m_y, .long m_g, .long m_a, .ref 1012, .ref 1013, .ref 1014, .int m_curveMany, .ref 1015, .int m_cornerMany, .int m_straightAt, .ref 1016, .long m_fitUp, .long m_fitDown, .long m_worstUp, .long m_worstDown, .ref 1017, .int m_walkLink, .int m_walkAngle, .int m_walkBranch, .int m_walkMany, .ref 1018, .ref 1019, .int m_lined, .ref 1020, .int m_actMany], z1, z2, z3, z4, z5, z6, z7, z8, z9, z10, z11, z12, z13, z14, z15, z16, z17, z18, z19, z20]))) := by
  refine ct_of ⟨by decide, rfl⟩ (Nat.le_of_ble_eq_true rfl) ?_
  refine ab_aload_n dX11_away_0 rfl ?_
  refine ab_callV (As := []) (rest := []) dX11_away_1 mv_X11_anew ml_X11_104 ⟨by decide, by decide, rfl, rfl, rfl⟩ (by decide) rfl rfl (Nat.le_of_ble_eq_true rfl) rfl c_X11_anew ?_
  rintro r w' ⟨rfl, rfl⟩
  refine ab_aload_n dX11_away_4 rfl ?_
  refine ab_getf dX11_away_5 fl_X11_85 rfl rfl ?_
  refine ab_iconst (v := -1) dX11_away_8 (by decide) ?_
  refine ab_icmpne 18 dX11_away_9 (by decide) (fun h_1 => ?_) (fun h_1 => ?_)
  · refine ab_aload_n dX11_away_18 rfl ?_
    refine ab_iload_n dX11_away_19 rfl ?_
    refine ab_callV (As := [.int a1]) (rest := []) dX11_away_20 mv_X11_isAngle ml_X11_334 ⟨by decide, by decide, rfl, rfl, rfl⟩ (by decide) rfl rfl (Nat.le_of_ble_eq_true rfl) rfl c_X11_isAngle ?_
    rintro r w' (⟨c_2, rfl, rfl⟩ | ⟨c_3, rfl, rfl⟩)
    · refine ab_ifeq 35 dX11_away_23 (by decide) (fun h_4 => absurd h_4 (by decide)) (fun h_4 => ?_)
      refine ab_iload_n dX11_away_26 rfl ?_
      refine ab_iconst (v := 0) dX11_away_27 (by decide) ?_
      refine ab_iconst (v := 1) dX11_away_28 (by decide) ?_
      refine ab_callS (As := [.int a2, .int 0, .int 1]) (rest := []) dX11_away_29 ms_X11_in ml_X11_107 ⟨by decide, by decide, rfl, rfl, rfl⟩ (by decide) rfl rfl (Nat.le_of_ble_eq_true rfl) c_X11_in ?_
      rintro r w' (⟨c_5, rfl, rfl⟩ | ⟨c_6, rfl, rfl⟩)
      · exact absurd c_5 h_o
      · refine ab_ifne 41 dX11_away_32 (by decide) (fun h_7 => absurd (by decide) h_7) (fun h_7 => ?_)
        refine ab_aload_n dX11_away_35 rfl ?_
        refine ab_iconst (v := 1) dX11_away_36 (by decide) ?_
        refine ab_callV (As := [.int 1]) (rest := []) dX11_away_37 mv_X11_no ml_X11_115 ⟨by decide, by decide, rfl, rfl, rfl⟩ (by decide) rfl rfl (Nat.le_of_ble_eq_true rfl) rfl c_X11_no ?_
        rintro r w' ⟨rfl, rfl⟩
        exact ab_iret dX11_away_40 rfl (by decide) (Or.inl ⟨h_1, c_2, rfl, rfl⟩)
    · refine ab_ifeq 35 dX11_away_23 (by decide) (fun h_8 => ?_) (fun h_8 => absurd (by decide) h_8)
      refine ab_aload_n dX11_away_35 rfl ?_
      refine ab_iconst (v := 1) dX11_away_36 (by decide) ?_
      refine ab_callV (As := [.int 1]) (rest := []) dX11_away_37 mv_X11_no ml_X11_115 ⟨by decide, by decide, rfl, rfl, rfl⟩ (by decide) rfl rfl (Nat.le_of_ble_eq_true rfl) rfl c_X11_no ?_
      rintro r w' ⟨rfl, rfl⟩
      exact ab_iret dX11_away_40 rfl (by decide) (Or.inr (Or.inl ⟨h_1, c_3, rfl, rfl⟩))
  · refine ab_aload_n dX11_away_12 rfl ?_
    refine ab_iconst (v := 5) dX11_away_13 (by decide) ?_
    refine ab_callV (As := [.int 5]) (rest := []) dX11_away_14 mv_X11_no ml_X11_115 ⟨by decide, by decide, rfl, rfl, rfl⟩ (by decide) rfl rfl (Nat.le_of_ble_eq_true rfl) rfl c_X11_no ?_
    rintro r w' ⟨rfl, rfl⟩
    exact ab_iret dX11_away_17 rfl (by decide) (Or.inr (Or.inr (⟨h_1, rfl, rfl⟩)))
def lp_mun_st (q4 : Nat → Int32) (a1 : Int32) (k : Nat) (s : Int32) : (Int32) ⊕ Int32 := (if 2 * Mk_max q4 (nI k) ≤ Mk_all q4 (nI k) then (.inl s) else (if s = a1 then (.inr (nI k)) else (.inl (s + 1))))
set_option maxHeartbeats 400000 in
theorem lp_mun {wc : List ax_E} {m_trouble m_fault m_where m_taped m_tracerMany m_pointMany m_pairMany m_readLinks m_readTracers m_readPoints m_readPairs m_textLong m_at m_spot m_token m_whole m_readFault m_readPlace m_value m_curveMany m_cornerMany m_straightAt m_walkLink m_walkAngle m_walkBranch m_walkMany m_lined m_actMany a1 : Int32} {m_n m_c m_d m_s m_e m_k m_x m_y m_g m_a m_fitUp m_fitDown m_worstUp m_worstDown : Int64} {z1 z2 z3 z5 z6 z7 z8 z9 z10 z11 z12 z13 z14 z15 z16 z17 z18 z19 z20 : ax_E} {q4 : Nat → Int32} {nl : Nat} {Q : Option Value → ax_W → Prop} (h_nl : nl ≤ 4) : ∀ (n k : Nat) (s : Int32) , k + n = nl → (∀ (sz : Int32), (itx (lp_mun_st q4 a1) n k s) = .inl sz → ∀ (_ : Unit), Ab M_X11_unbuilt Q (0, 0) 41 [(3, .int (nI nl)), (2, .int sz), (1, .int a1), (0, .ref 1000)] [] (wc, [ob 9 [.int 0, .int m_trouble, .int m_fault, .int m_where, .ref 1001, .ref 1002, .int 40, .ref 1003, .int m_taped, .int (nI nl), .int m_tracerMany, .int m_pointMany, .int m_pairMany, .ref 1004, .ref 1005, .ref 1006, .ref 1007, .int m_readLinks, .int m_readTracers, .int m_readPoints, .int m_readPairs, .ref 1008, .ref 1009, .ref 1010, .ref 1011, .int m_textLong, .int m_at, .int m_spot, .int m_token, .int m_whole, .int m_readFault, .int m_readPlace, .int m_value, .long m_n, .long m_c, .long m_d, .long m_s, .long m_e, .long m_k, .long m_x, .long m_y, .long m_g, .long m_a, .ref 1012, .ref 1013, .ref 1014, .int m_curveMany, .ref 1015, .int m_cornerMany, .int m_straightAt, .ref 1016, .long m_fitUp, .long m_fitDown, .long m_worstUp, .long m_worstDown, .ref 1017, .int m_walkLink, .int m_walkAngle, .int m_walkBranch, .int m_walkMany, .ref 1018, .ref 1019, .int m_lined, .ref 1020, .int m_actMany], z1, z2, z3, ia 16 q4, z5, z6, z7, z8, z9, z10, z11, z12, z13, z14, z15, z16, z17, z18, z19, z20])) → (∀ r : Int32, (itx (lp_mun_st q4 a1) n k s) = .inr r → ∀ (_ : Unit), Q (some (.int r)) (wc, [ob 9 [.int 0, .int m_trouble, .int m_fault, .int m_where, .ref 1001, .ref 1002, .int 40, .ref 1003, .int m_taped, .int (nI nl), .int m_tracerMany, .int m_pointMany, .int m_pairMany, .ref 1004, .ref 1005, .ref 1006, .ref 1007, .int m_readLinks, .int m_readTracers, .int m_readPoints, .int m_readPairs, .ref 1008, .ref 1009, .ref 1010, .ref 1011, .int m_textLong, .int m_at, .int m_spot, .int m_token, .int m_whole, .int m_readFault, .int m_readPlace, .int m_value, .long m_n, .long m_c, .long m_d, .long m_s, .long m_e, .long m_k, .long m_x, .long m_y, .long m_g, .long m_a, .ref 1012, .ref 1013, .ref 1014, .int m_curveMany, .ref 1015, .int m_cornerMany, .int m_straightAt, .ref 1016, .long m_fitUp, .long m_fitDown, .long m_worstUp, .long m_worstDown, .ref 1017, .int m_walkLink, .int m_walkAngle, .int m_walkBranch, .int m_walkMany, .ref 1018, .ref 1019, .int m_lined, .ref 1020, .int m_actMany], z1, z2, z3, ia 16 q4, z5, z6, z7, z8, z9, z10, z11, z12, z13, z14, z15, z16, z17, z18, z19, z20])) → Ab M_X11_unbuilt Q (0, 0) 9 [(3, .int (nI k)), (2, .int s), (1, .int a1), (0, .ref 1000)] [] (wc, [ob 9 [.int 0, .int m_trouble, .int m_fault, .int m_where, .ref 1001, .ref 1002, .int 40, .ref 1003, .int m_taped, .int (nI nl), .int m_tracerMany, .int m_pointMany, .int m_pairMany, .ref 1004, .ref 1005, .ref 1006, .ref 1007, .int m_readLinks, .int m_readTracers, .int m_readPoints, .int m_readPairs, .ref 1008, .ref 1009, .ref 1010, .ref 1011, .int m_textLong, .int m_at, .int m_spot, .int m_token, .int m_whole, .int m_readFault, .int m_readPlace, .int m_value, .long m_n, .long m_c, .long m_d, .long m_s, .long m_e, .long m_k, .long m_x, .long m_y, .long m_g, .long m_a, .ref 1012, .ref 1013, .ref 1014, .int m_curveMany, .ref 1015, .int m_cornerMany, .int m_straightAt, .ref 1016, .long m_fitUp, .long m_fitDown, .long m_worstUp, .long m_worstDown, .ref 1017, .int m_walkLink, .int m_walkAngle, .int m_walkBranch, .int m_walkMany, .ref 1018, .ref 1019, .int m_lined, .ref 1020, .int m_actMany], z1, z2, z3, ia 16 q4, z5, z6, z7, z8, z9, z10, z11, z12, z13, z14, z15, z16, z17, z18, z19, z20]) := by
  intro n
  induction n with
  | zero =>
    intro k s  hk hx hr
    have hE0 := itx_0 (lp_mun_st q4 a1) k s
    rw [show k = nl by omega]
    refine ab_iload_n dX11_unbuilt_9 rfl ?_
    refine ab_aload_n dX11_unbuilt_10 rfl ?_
    refine ab_getf dX11_unbuilt_11 fl_X11_233 rfl rfl ?_
    refine ab_icmpge 41 dX11_unbuilt_14 (by decide) (fun h_1 => ?_) (fun h_1 => absurd (nI_le (b := nl) (Nat.le_refl _) (by omega)) h_1)
    refine ab_pick [0, 1, 2, 3] rfl ?_
    exact hx s hE0 ()
  | succ n ih =>
    intro k s  hk hx hr
    refine ab_iload_n dX11_unbuilt_9 rfl ?_
    refine ab_aload_n dX11_unbuilt_10 rfl ?_
    refine ab_getf dX11_unbuilt_11 fl_X11_233 rfl rfl ?_
    refine ab_icmpge 41 dX11_unbuilt_14 (by decide) (fun h_1 => absurd h_1 (nI_ge (a := k) (b := nl) (by omega) (by omega))) (fun h_1 => ?_)
    refine ab_aload_n dX11_unbuilt_17 rfl ?_
    refine ab_iload_n dX11_unbuilt_18 rfl ?_
    refine ab_callV (As := [.int (nI k)]) (rest := []) dX11_unbuilt_19 mv_X11_isBuilt ml_X11_271 ⟨by decide, by decide, rfl, rfl, rfl⟩ (by decide) rfl rfl (Nat.le_of_ble_eq_true rfl) rfl (c_X11_isBuilt (⟨nI_pos' (by omega), nI_lt (by omega) (by omega)⟩) (nI_bd h_nl (by decide))) ?_
    rintro r w' (⟨c_2, rfl, rfl⟩ | ⟨c_3, rfl, rfl⟩)
    · refine ab_ifne 35 dX11_unbuilt_22 (by decide) (fun h_4 => ?_) (fun h_4 => absurd h_4 (by decide))
      refine ab_iinc (v := (nI (k + 1))) (la' := [(3, .int (nI (k + 1))), (2, .int s), (1, .int a1), (0, .ref 1000)]) dX11_unbuilt_35 rfl (nI_1 _) (by decide) rfl ?_
      refine ab_goto 9 dX11_unbuilt_38 (by decide) ?_
      refine ab_pick [0, 1, 2, 3] rfl ?_
      rw [itx_l (f := (lp_mun_st q4 a1)) (n := n) (k := k) (s := s) (show lp_mun_st q4 a1 k s = .inl s from by rw [lp_mun_st, if_pos (show 2 * Mk_max q4 (nI k) ≤ Mk_all q4 (nI k) from c_2)])] at hx hr
      exact ih (k + 1) s  (by omega) hx hr
    · refine ab_ifne 35 dX11_unbuilt_22 (by decide) (fun h_5 => absurd (by decide) h_5) (fun h_5 => ?_)
      refine ab_iload_n dX11_unbuilt_25 rfl ?_
      refine ab_iload_n dX11_unbuilt_26 rfl ?_
      refine ab_icmpne 32 dX11_unbuilt_27 (by decide) (fun h_6 => ?_) (fun h_6 => ?_)
      · refine ab_iinc (v := (s + 1)) (la' := [(2, .int (s + 1)), (3, .int (nI k)), (1, .int a1), (0, .ref 1000)]) dX11_unbuilt_32 rfl rfl (by decide) rfl ?_
        refine ab_iinc (v := (nI (k + 1))) (la' := [(3, .int (nI (k + 1))), (2, .int (s + 1)), (1, .int a1), (0, .ref 1000)]) dX11_unbuilt_35 rfl (nI_1 _) (by decide) rfl ?_
        refine ab_goto 9 dX11_unbuilt_38 (by decide) ?_
        refine ab_pick [0, 1, 2, 3] rfl ?_
        rw [itx_l (f := (lp_mun_st q4 a1)) (n := n) (k := k) (s := s) (show lp_mun_st q4 a1 k s = .inl (s + 1) from by rw [lp_mun_st, if_neg (show ¬ (2 * Mk_max q4 (nI k) ≤ Mk_all q4 (nI k)) from c_3), if_neg (show ¬ s = a1 from h_6)])] at hx hr
        exact ih (k + 1) (s + 1)  (by omega) hx hr
      · refine ab_iload_n dX11_unbuilt_30 rfl ?_
        exact ab_iret dX11_unbuilt_31 rfl (by decide) (hr (nI k) (itx_r (show lp_mun_st q4 a1 k s = .inr (nI k) from by rw [lp_mun_st, if_neg (show ¬ (2 * Mk_max q4 (nI k) ≤ Mk_all q4 (nI k)) from c_3), if_pos (show s = a1 from h_6)])) ())
theorem c_X11_unbuilt {wc : List ax_E} {m_thrown m_trouble m_fault m_where m_taped m_tracerMany m_pointMany m_pairMany m_readLinks m_readTracers m_readPoints m_readPairs m_textLong m_at m_spot m_token m_whole m_readFault m_readPlace m_value m_curveMany m_cornerMany m_straightAt m_walkLink m_walkAngle m_walkBranch m_walkMany m_lined m_actMany a1 : Int32} {m_n m_c m_d m_s m_e m_k m_x m_y m_g m_a m_fitUp m_fitDown m_worstUp m_worstDown : Int64} {z1 z2 z3 z5 z6 z7 z8 z9 z10 z11 z12 z13 z14 z15 z16 z17 z18 z19 z20 : ax_E} {q4 : Nat → Int32} {nl : Nat} (h_nl : nl ≤ 4) : Ct M_X11_unbuilt [.ref 1000, .int a1] (wc, [ob 9 [.int m_thrown, .int m_trouble, .int m_fault, .int m_where, .ref 1001, .ref 1002, .int 40, .ref 1003, .int m_taped, .int (nI nl), .int m_tracerMany, .int m_pointMany, .int m_pairMany, .ref 1004, .ref 1005, .ref 1006, .ref 1007, .int m_readLinks, .int m_readTracers, .int m_readPoints, .int m_readPairs, .ref 1008, .ref 1009, .ref 1010, .ref 1011, .int m_textLong, .int m_at, .int m_spot, .int m_token, .int m_whole, .int m_readFault, .int m_readPlace, .int m_value, .long m_n, .long m_c, .long m_d, .long m_s, .long m_e, .long m_k, .long m_x, .long m_y, .long m_g, .long m_a, .ref 1012, .ref 1013, .ref 1014, .int m_curveMany, .ref 1015, .int m_cornerMany, .int m_straightAt, .ref 1016, .long m_fitUp, .long m_fitDown, .long m_worstUp, .long m_worstDown, .ref 1017, .int m_walkLink, .int m_walkAngle, .int m_walkBranch, .int m_walkMany, .ref 1018, .ref 1019, .int m_lined, .ref 1020, .int m_actMany], z1, z2, z3, ia 16 q4, z5, z6, z7, z8, z9, z10, z11, z12, z13, z14, z15, z16, z17, z18, z19, z20]) (fun r w' => (∃ s_1 : Int32, ((itx (lp_mun_st q4 a1) nl 0 0) = .inl s_1) ∧ r = some (.int 0) ∧ w' = (wc, [ob 9 [.int 1, .int m_trouble, .int m_fault, .int m_where, .ref 1001, .ref 1002, .int 40, .ref 1003, .int m_taped, .int (nI nl), .int m_tracerMany, .int m_pointMany, .int m_pairMany, .ref 1004, .ref 1005, .ref 1006, .ref 1007, .int m_readLinks, .int m_readTracers, .int m_readPoints, .int m_readPairs, .ref 1008, .ref 1009, .ref 1010, .ref 1011, .int m_textLong, .int m_at, .int m_spot, .int m_token, .int m_whole, .int m_readFault, .int m_readPlace, .int m_value, .long m_n, .long m_c, .long m_d, .long m_s, .long m_e, .long m_k, .long m_x, .long m_y, .long m_g, .long m_a, .ref 1012, .ref 1013, .ref 1014, .int m_curveMany, .ref 1015, .int m_cornerMany, .int m_straightAt, .ref 1016, .long m_fitUp, .long m_fitDown, .long m_worstUp, .long m_worstDown, .ref 1017, .int m_walkLink, .int m_walkAngle, .int m_walkBranch, .int m_walkMany, .ref 1018, .ref 1019, .int m_lined, .ref 1020, .int m_actMany], z1, z2, z3, ia 16 q4, z5, z6, z7, z8, z9, z10, z11, z12, z13, z14, z15, z16, z17, z18, z19, z20])) ∨ (∃ r_3 : Int32, ((itx (lp_mun_st q4 a1) nl 0 0) = .inr r_3) ∧ r = some (.int r_3) ∧ w' = (wc, [ob 9 [.int 0, .int m_trouble, .int m_fault, .int m_where, .ref 1001, .ref 1002, .int 40, .ref 1003, .int m_taped, .int (nI nl), .int m_tracerMany, .int m_pointMany, .int m_pairMany, .ref 1004, .ref 1005, .ref 1006, .ref 1007, .int m_readLinks, .int m_readTracers, .int m_readPoints, .int m_readPairs, .ref 1008, .ref 1009, .ref 1010, .ref 1011, .int m_textLong, .int m_at, .int m_spot, .int m_token, .int m_whole, .int m_readFault, .int m_readPlace, .int m_value, .long m_n, .long m_c, .long m_d, .long m_s, .long m_e, .long m_k, .long m_x, .long m_y, .long m_g, .long m_a, .ref 1012, .ref 1013, .ref 1014, .int m_curveMany, .ref 1015, .int m_cornerMany, .int m_straightAt, .ref 1016, .long m_fitUp, .long m_fitDown, .long m_worstUp, .long m_worstDown, .ref 1017, .int m_walkLink, .int m_walkAngle, .int m_walkBranch, .int m_walkMany, .ref 1018, .ref 1019, .int m_lined, .ref 1020, .int m_actMany], z1, z2, z3, ia 16 q4, z5, z6, z7, z8, z9, z10, z11, z12, z13, z14, z15, z16, z17, z18, z19, z20]))) := by
  refine ct_of ⟨by decide, rfl⟩ (Nat.le_of_ble_eq_true rfl) ?_
  refine ab_aload_n dX11_unbuilt_0 rfl ?_
  refine ab_iconst (v := 0) dX11_unbuilt_1 (by decide) ?_
  refine ab_putf (w1 := (wc, [ob 9 [.int 0, .int m_trouble, .int m_fault, .int m_where, .ref 1001, .ref 1002, .int 40, .ref 1003, .int m_taped, .int (nI nl), .int m_tracerMany, .int m_pointMany, .int m_pairMany, .ref 1004, .ref 1005, .ref 1006, .ref 1007, .int m_readLinks, .int m_readTracers, .int m_readPoints, .int m_readPairs, .ref 1008, .ref 1009, .ref 1010, .ref 1011, .int m_textLong, .int m_at, .int m_spot, .int m_token, .int m_whole, .int m_readFault, .int m_readPlace, .int m_value, .long m_n, .long m_c, .long m_d, .long m_s, .long m_e, .long m_k, .long m_x, .long m_y, .long m_g, .long m_a, .ref 1012, .ref 1013, .ref 1014, .int m_curveMany, .ref 1015, .int m_cornerMany, .int m_straightAt, .ref 1016, .long m_fitUp, .long m_fitDown, .long m_worstUp, .long m_worstDown, .ref 1017, .int m_walkLink, .int m_walkAngle, .int m_walkBranch, .int m_walkMany, .ref 1018, .ref 1019, .int m_lined, .ref 1020, .int m_actMany], z1, z2, z3, ia 16 q4, z5, z6, z7, z8, z9, z10, z11, z12, z13, z14, z15, z16, z17, z18, z19, z20])) dX11_unbuilt_2 fl_X11_1 rfl (Nat.le_of_ble_eq_true rfl) (fun _ => ⟨rfl, rfl⟩) rfl ?_
  refine ab_iconst (v := 0) dX11_unbuilt_5 (by decide) ?_
  refine ab_istore_n (la' := [(2, .int 0), (0, .ref 1000), (1, .int a1)]) dX11_unbuilt_6 (by decide) rfl ?_
  refine ab_iconst (v := 0) dX11_unbuilt_7 (by decide) ?_
  refine ab_istore_n (la' := [(3, .int 0), (2, .int 0), (0, .ref 1000), (1, .int a1)]) dX11_unbuilt_8 (by decide) rfl ?_
  refine ab_pick [0, 1, 3, 2] rfl ?_
  refine lp_mun h_nl nl 0 0 (by omega) ?_ ?_
  · intro s_1 hE_2 _
    refine ab_aload_n dX11_unbuilt_41 rfl ?_
    refine ab_iconst (v := 1) dX11_unbuilt_42 (by decide) ?_
    refine ab_putf (w1 := (wc, [ob 9 [.int 1, .int m_trouble, .int m_fault, .int m_where, .ref 1001, .ref 1002, .int 40, .ref 1003, .int m_taped, .int (nI nl), .int m_tracerMany, .int m_pointMany, .int m_pairMany, .ref 1004, .ref 1005, .ref 1006, .ref 1007, .int m_readLinks, .int m_readTracers, .int m_readPoints, .int m_readPairs, .ref 1008, .ref 1009, .ref 1010, .ref 1011, .int m_textLong, .int m_at, .int m_spot, .int m_token, .int m_whole, .int m_readFault, .int m_readPlace, .int m_value, .long m_n, .long m_c, .long m_d, .long m_s, .long m_e, .long m_k, .long m_x, .long m_y, .long m_g, .long m_a, .ref 1012, .ref 1013, .ref 1014, .int m_curveMany, .ref 1015, .int m_cornerMany, .int m_straightAt, .ref 1016, .long m_fitUp, .long m_fitDown, .long m_worstUp, .long m_worstDown, .ref 1017, .int m_walkLink, .int m_walkAngle, .int m_walkBranch, .int m_walkMany, .ref 1018, .ref 1019, .int m_lined, .ref 1020, .int m_actMany], z1, z2, z3, ia 16 q4, z5, z6, z7, z8, z9, z10, z11, z12, z13, z14, z15, z16, z17, z18, z19, z20])) dX11_unbuilt_43 fl_X11_1 rfl (Nat.le_of_ble_eq_true rfl) (fun _ => ⟨rfl, rfl⟩) rfl ?_
    refine ab_iconst (v := 0) dX11_unbuilt_46 (by decide) ?_
    exact ab_iret dX11_unbuilt_47 rfl (by decide) (Or.inl ⟨s_1, hE_2, rfl, rfl⟩)
  · intro r_3 hR_4 _
    exact (Or.inr (⟨r_3, hR_4, rfl, rfl⟩))
