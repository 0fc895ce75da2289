/-! the reference reads by tokens: where one that begins at a ends, and what it is -/
def tE (u : Nat → Nat) (n a : Nat) : Nat := if a < n then (if isL u a = true then lE u n a else if isD u a = true then dE u n a else a + 1) else a
def tk (u : Nat → Nat) (n a : Nat) : Int32 := if a < n then (if isL u a = true then (if 7 < lE u n a - a then 1 else 2) else if isD u a = true then (if 3 < dE u n a - a then 1 else 3) else if u a = 59 ∨ u a = 45 then nI (u a) else 1) else 0
theorem tE_in {u : Nat → Nat} {n p : Nat} (h : p ≤ n) : sk u n p ≤ tE u n (sk u n p) ∧ tE u n (sk u n p) ≤ n := by
  have h1 := sk_le (u := u) h
  unfold tE
  split
  · split
    · exact ⟨lE_ge, lE_le h1⟩
    · split
      · exact ⟨dE_ge, dE_le h1⟩
      · omega
  · omega
theorem in_nI {x a b : Nat} {va vb : Int32} (h : x < 256) (ha : nI a = va ∧ a < 256) (hb : nI b = vb ∧ b < 256) : (va ≤ nI x ∧ nI x ≤ vb) ↔ (a ≤ x ∧ x ≤ b) := by
  rw [← ha.1, ← hb.1, nI_leI (by omega) (by omega), nI_leI (by omega) (by omega)]
theorem isL_m {u : Nat → Nat} {k : Nat} (h : u k < 256) : (97 ≤ nI (u k) ∧ nI (u k) ≤ 122) ↔ isL u k = true := (in_nI (a := 97) (b := 122) h (by decide) (by decide)).trans isL_iff.symm
theorem isD_m {u : Nat → Nat} {k : Nat} (h : u k < 256) : (48 ≤ nI (u k) ∧ nI (u k) ≤ 57) ↔ isD u k = true := (in_nI (a := 48) (b := 57) h (by decide) (by decide)).trans isD_iff.symm
theorem nI_nm1 {x : Nat} (h : x < 256) : ¬ nI x = -1 := by
  intro z
  have e := congrArg Int32.toInt z
  rw [nI_toInt (by omega)] at e
  have : (-1 : Int32).toInt = -1 := rfl
  rw [this] at e; omega
theorem nI_c {x c : Nat} {v : Int32} (h : x < 256) (hc : nI c = v ∧ c < 256) : nI x = v ↔ x = c := by rw [← hc.1]; exact nI_eq (by omega) (by omega)
theorem c_X11_see {wc : List ax_E} {m_thrown m_trouble m_fault m_where m_taped m_linkMany m_tracerMany m_pointMany m_pairMany m_readLinks m_readTracers m_readPoints m_readPairs m_at m_spot m_token m_whole m_readFault m_readPlace m_value m_curveMany m_cornerMany m_straightAt m_walkLink m_walkAngle m_walkBranch m_walkMany m_lined m_actMany : Int32} {m_n m_c m_d m_s m_e m_k m_x m_y m_g m_a m_fitUp m_fitDown m_worstUp m_worstDown : Int64} {z1 z2 z4 z5 z6 z7 z8 z9 z10 z11 z12 z13 z14 z15 z16 z17 z18 z19 z20 : ax_E} {q3 : Nat → Int32} {u : Nat → Nat} {n k : Nat} (h_n : n ≤ 700) (h_v : ∀ k, k < n → u k < 256 ∧ q3 k = nI (u k)) (hk : k ≤ 700) : Ct M_X11_see [.ref 1000, .int (nI k)] (wc, [ob 9 [.int m_thrown, .int m_trouble, .int m_fault, .int m_where, .ref 1001, .ref 1002, .int 40, .ref 1003, .int m_taped, .int m_linkMany, .int m_tracerMany, .int m_pointMany, .int m_pairMany, .ref 1004, .ref 1005, .ref 1006, .ref 1007, .int m_readLinks, .int m_readTracers, .int m_readPoints, .int m_readPairs, .ref 1008, .ref 1009, .ref 1010, .ref 1011, .int (nI n), .int m_at, .int m_spot, .int m_token, .int m_whole, .int m_readFault, .int m_readPlace, .int m_value, .long m_n, .long m_c, .long m_d, .long m_s, .long m_e, .long m_k, .long m_x, .long m_y, .long m_g, .long m_a, .ref 1012, .ref 1013, .ref 1014, .int m_curveMany, .ref 1015, .int m_cornerMany, .int m_straightAt, .ref 1016, .long m_fitUp, .long m_fitDown, .long m_worstUp, .long m_worstDown, .ref 1017, .int m_walkLink, .int m_walkAngle, .int m_walkBranch, .int m_walkMany, .ref 1018, .ref 1019, .int m_lined, .ref 1020, .int m_actMany], z1, z2, ia 700 q3, z4, z5, z6, z7, z8, z9, z10, z11, z12, z13, z14, z15, z16, z17, z18, z19, z20]) (fun r w' => ((k < n ∧ u k < 256) ∧ r = some (.int (nI (u k))) ∧ w' = (wc, [ob 9 [.int m_thrown, .int m_trouble, .int m_fault, .int m_where, .ref 1001, .ref 1002, .int 40, .ref 1003, .int m_taped, .int m_linkMany, .int m_tracerMany, .int m_pointMany, .int m_pairMany, .ref 1004, .ref 1005, .ref 1006, .ref 1007, .int m_readLinks, .int m_readTracers, .int m_readPoints, .int m_readPairs, .ref 1008, .ref 1009, .ref 1010, .ref 1011, .int (nI n), .int m_at, .int m_spot, .int m_token, .int m_whole, .int m_readFault, .int m_readPlace, .int m_value, .long m_n, .long m_c, .long m_d, .long m_s, .long m_e, .long m_k, .long m_x, .long m_y, .long m_g, .long m_a, .ref 1012, .ref 1013, .ref 1014, .int m_curveMany, .ref 1015, .int m_cornerMany, .int m_straightAt, .ref 1016, .long m_fitUp, .long m_fitDown, .long m_worstUp, .long m_worstDown, .ref 1017, .int m_walkLink, .int m_walkAngle, .int m_walkBranch, .int m_walkMany, .ref 1018, .ref 1019, .int m_lined, .ref 1020, .int m_actMany], z1, z2, ia 700 q3, z4, z5, z6, z7, z8, z9, z10, z11, z12, z13, z14, z15, z16, z17, z18, z19, z20])) ∨ ((¬ k < n) ∧ r = some (.int (-1)) ∧ w' = (wc, [ob 9 [.int m_thrown, .int m_trouble, .int m_fault, .int m_where, .ref 1001, .ref 1002, .int 40, .ref 1003, .int m_taped, .int m_linkMany, .int m_tracerMany, .int m_pointMany, .int m_pairMany, .ref 1004, .ref 1005, .ref 1006, .ref 1007, .int m_readLinks, .int m_readTracers, .int m_readPoints, .int m_readPairs, .ref 1008, .ref 1009, .ref 1010, .ref 1011, .int (nI n), .int m_at, .int m_spot, .int m_token, .int m_whole, .int m_readFault, .int m_readPlace, .int m_value, .long m_n, .long m_c, .long m_d, .long m_s, .long m_e, .long m_k, .long m_x, .long m_y, .long m_g, .long m_a, .ref 1012, .ref 1013, .ref 1014, .int m_curveMany, .ref 1015, .int m_cornerMany, .int m_straightAt, .ref 1016, .long m_fitUp, .long m_fitDown, .long m_worstUp, .long m_worstDown, .ref 1017, .int m_walkLink, .int m_walkAngle, .int m_walkBranch, .int m_walkMany, .ref 1018, .ref 1019, .int m_lined, .ref 1020, .int m_actMany], z1, z2, ia 700 q3, z4, z5, z6, z7, z8, z9, z10, z11, z12, z13, z14, z15, z16, z17, z18, z19, z20]))) := by
  refine ct_of ⟨by decide, rfl⟩ (Nat.le_of_ble_eq_true rfl) ?_
  refine ab_iload_n dX11_see_0 rfl ?_
  refine ab_aload_n dX11_see_1 rfl ?_
  refine ab_getf dX11_see_2 fl_X11_125 rfl rfl ?_
  refine ab_icmpge 17 dX11_see_5 (by decide) (fun h_1 => ?_) (fun h_1 => ?_)
  · have h_1n := (nI_leI (a := n) (b := k) (by omega) (by omega)).mp h_1
    refine ab_iconst (v := -1) dX11_see_17 (by decide) ?_
    exact ab_iret dX11_see_18 rfl (by decide) (Or.inr (⟨by omega, rfl, rfl⟩))
  · have h_1n : ¬ _ := fun z => h_1 ((nI_leI (a := n) (b := k) (by omega) (by omega)).mpr z)
    refine ab_aload_n dX11_see_8 rfl ?_
    refine ab_getf dX11_see_9 fl_X11_39 rfl rfl ?_
    refine ab_iload_n dX11_see_12 rfl ?_
    refine ab_iald (j := k) dX11_see_13 rfl (ix_nI (by omega) (by decide)) ?_
    refine ab_topi (v := (nI (u k))) (h_v k (by omega)).2 ?_
    refine ab_goto 18 dX11_see_14 (by decide) ?_
    exact ab_iret dX11_see_18 rfl (by decide) (Or.inl (⟨⟨by omega, (h_v k (by omega)).1⟩, rfl, rfl⟩))
theorem lp_goA {wc : List ax_E} {m_thrown m_trouble m_fault m_where m_taped m_linkMany m_tracerMany m_pointMany m_pairMany m_readLinks m_readTracers m_readPoints m_readPairs m_at m_token m_whole m_readFault m_readPlace m_value m_curveMany m_cornerMany m_straightAt m_walkLink m_walkAngle m_walkBranch m_walkMany m_lined m_actMany : Int32} {m_n m_c m_d m_s m_e m_k m_x m_y m_g m_a m_fitUp m_fitDown m_worstUp m_worstDown : Int64} {z1 z2 z4 z5 z6 z7 z8 z9 z10 z11 z12 z13 z14 z15 z16 z17 z18 z19 z20 : ax_E} {q3 : Nat → Int32} {u : Nat → Nat} {n : Nat} {Q : Option Value → ax_W → Prop} (h_n : n ≤ 700) (h_v : ∀ k, k < n → u k < 256 ∧ q3 k = nI (u k)) : ∀ (m q : Nat), n - q = m → q ≤ n → Ab M_X11_goesOn Q (0, 0) 26 [(0, .ref 1000)] [] (wc, [ob 9 [.int m_thrown, .int m_trouble, .int m_fault, .int m_where, .ref 1001, .ref 1002, .int 40, .ref 1003, .int m_taped, .int m_linkMany, .int m_tracerMany, .int m_pointMany, .int m_pairMany, .ref 1004, .ref 1005, .ref 1006, .ref 1007, .int m_readLinks, .int m_readTracers, .int m_readPoints, .int m_readPairs, .ref 1008, .ref 1009, .ref 1010, .ref 1011, .int (nI n), .int m_at, .int (nI (sk u n q)), .int m_token, .int m_whole, .int m_readFault, .int m_readPlace, .int m_value, .long m_n, .long m_c, .long m_d, .long m_s, .long m_e, .long m_k, .long m_x, .long m_y, .long m_g, .long m_a, .ref 1012, .ref 1013, .ref 1014, .int m_curveMany, .ref 1015, .int m_cornerMany, .int m_straightAt, .ref 1016, .long m_fitUp, .long m_fitDown, .long m_worstUp, .long m_worstDown, .ref 1017, .int m_walkLink, .int m_walkAngle, .int m_walkBranch, .int m_walkMany, .ref 1018, .ref 1019, .int m_lined, .ref 1020, .int m_actMany], z1, z2, ia 700 q3, z4, z5, z6, z7, z8, z9, z10, z11, z12, z13, z14, z15, z16, z17, z18, z19, z20]) → Ab M_X11_goesOn Q (0, 0) 0 [(0, .ref 1000)] [] (wc, [ob 9 [.int m_thrown, .int m_trouble, .int m_fault, .int m_where, .ref 1001, .ref 1002, .int 40, .ref 1003, .int m_taped, .int m_linkMany, .int m_tracerMany, .int m_pointMany, .int m_pairMany, .ref 1004, .ref 1005, .ref 1006, .ref 1007, .int m_readLinks, .int m_readTracers, .int m_readPoints, .int m_readPairs, .ref 1008, .ref 1009, .ref 1010, .ref 1011, .int (nI n), .int m_at, .int (nI q), .int m_token, .int m_whole, .int m_readFault, .int m_readPlace, .int m_value, .long m_n, .long m_c, .long m_d, .long m_s, .long m_e, .long m_k, .long m_x, .long m_y, .long m_g, .long m_a, .ref 1012, .ref 1013, .ref 1014, .int m_curveMany, .ref 1015, .int m_cornerMany, .int m_straightAt, .ref 1016, .long m_fitUp, .long m_fitDown, .long m_worstUp, .long m_worstDown, .ref 1017, .int m_walkLink, .int m_walkAngle, .int m_walkBranch, .int m_walkMany, .ref 1018, .ref 1019, .int m_lined, .ref 1020, .int m_actMany], z1, z2, ia 700 q3, z4, z5, z6, z7, z8, z9, z10, z11, z12, z13, z14, z15, z16, z17, z18, z19, z20]) := by
  intro m
  induction m with
  | zero =>
    intro q hm hq hx
    have hqn : ¬ q < n := by omega
    refine ab_aload_n dX11_goesOn_0 rfl ?_
    refine ab_aload_n dX11_goesOn_1 rfl ?_
    refine ab_getf dX11_goesOn_2 fl_X11_128 rfl rfl ?_
    refine ab_callV (As := [.int (nI q)]) (rest := []) dX11_goesOn_5 mv_X11_see ml_X11_131 ⟨by decide, by decide, rfl, rfl, rfl⟩ (by decide) rfl rfl (Nat.le_of_ble_eq_true rfl) rfl (c_X11_see (n := n) (k := q) h_n (by assumption) (by omega)) ?_
    rintro r w' (⟨c_1, rfl, rfl⟩ | ⟨c_2, rfl, rfl⟩)
    · refine ab_bipush (v := 32) dX11_goesOn_8 (by decide) ?_
      refine ab_icmpne 26 dX11_goesOn_10 (by decide) (fun h_3 => ?_) (fun h_3 => ?_)
      · rw [show sk u n q = q from run_f (fun z => h_3 ((nI_c (c := 32) (by omega) (by decide)).mpr (isB_iff.mp z.2)))] at hx
        exact hx
      · refine ab_aload_n dX11_goesOn_13 rfl ?_
        refine ab_dup rfl dX11_goesOn_14 ?_
        refine ab_getf dX11_goesOn_15 fl_X11_128 rfl rfl ?_
        refine ab_iconst (v := 1) dX11_goesOn_18 (by decide) ?_
        refine ab_iadd dX11_goesOn_19 ?_
        refine ab_topi (v := (nI (q + 1))) (nI_1 _) ?_
        refine ab_putf (w1 := (wc, [ob 9 [.int m_thrown, .int m_trouble, .int m_fault, .int m_where, .ref 1001, .ref 1002, .int 40, .ref 1003, .int m_taped, .int m_linkMany, .int m_tracerMany, .int m_pointMany, .int m_pairMany, .ref 1004, .ref 1005, .ref 1006, .ref 1007, .int m_readLinks, .int m_readTracers, .int m_readPoints, .int m_readPairs, .ref 1008, .ref 1009, .ref 1010, .ref 1011, .int (nI n), .int m_at, .int (nI (q + 1)), .int m_token, .int m_whole, .int m_readFault, .int m_readPlace, .int m_value, .long m_n, .long m_c, .long m_d, .long m_s, .long m_e, .long m_k, .long m_x, .long m_y, .long m_g, .long m_a, .ref 1012, .ref 1013, .ref 1014, .int m_curveMany, .ref 1015, .int m_cornerMany, .int m_straightAt, .ref 1016, .long m_fitUp, .long m_fitDown, .long m_worstUp, .long m_worstDown, .ref 1017, .int m_walkLink, .int m_walkAngle, .int m_walkBranch, .int m_walkMany, .ref 1018, .ref 1019, .int m_lined, .ref 1020, .int m_actMany], z1, z2, ia 700 q3, z4, z5, z6, z7, z8, z9, z10, z11, z12, z13, z14, z15, z16, z17, z18, z19, z20])) dX11_goesOn_20 fl_X11_128 rfl (Nat.le_of_ble_eq_true rfl) (fun _ => ⟨rfl, rfl⟩) rfl ?_
        refine ab_goto 0 dX11_goesOn_23 (by decide) ?_
        exfalso
        omega
    · refine ab_bipush (v := 32) dX11_goesOn_8 (by decide) ?_
      refine ab_icmpne 26 dX11_goesOn_10 (by decide) (fun h_4 => ?_) (fun h_4 => absurd h_4 (by decide))
      rw [show sk u n q = q from run_f (fun z => absurd z.1 (by omega))] at hx
      exact hx
  | succ m ih =>
    intro q hm hq hx
    refine ab_aload_n dX11_goesOn_0 rfl ?_
    refine ab_aload_n dX11_goesOn_1 rfl ?_
    refine ab_getf dX11_goesOn_2 fl_X11_128 rfl rfl ?_
    refine ab_callV (As := [.int (nI q)]) (rest := []) dX11_goesOn_5 mv_X11_see ml_X11_131 ⟨by decide, by decide, rfl, rfl, rfl⟩ (by decide) rfl rfl (Nat.le_of_ble_eq_true rfl) rfl (c_X11_see (n := n) (k := q) h_n (by assumption) (by omega)) ?_
    rintro r w' (⟨c_1, rfl, rfl⟩ | ⟨c_2, rfl, rfl⟩)
    · refine ab_bipush (v := 32) dX11_goesOn_8 (by decide) ?_
      refine ab_icmpne 26 dX11_goesOn_10 (by decide) (fun h_3 => ?_) (fun h_3 => ?_)
      · rw [show sk u n q = q from run_f (fun z => h_3 ((nI_c (c := 32) (by omega) (by decide)).mpr (isB_iff.mp z.2)))] at hx
        exact hx
      · refine ab_aload_n dX11_goesOn_13 rfl ?_
        refine ab_dup rfl dX11_goesOn_14 ?_
        refine ab_getf dX11_goesOn_15 fl_X11_128 rfl rfl ?_
        refine ab_iconst (v := 1) dX11_goesOn_18 (by decide) ?_
        refine ab_iadd dX11_goesOn_19 ?_
        refine ab_topi (v := (nI (q + 1))) (nI_1 _) ?_
        refine ab_putf (w1 := (wc, [ob 9 [.int m_thrown, .int m_trouble, .int m_fault, .int m_where, .ref 1001, .ref 1002, .int 40, .ref 1003, .int m_taped, .int m_linkMany, .int m_tracerMany, .int m_pointMany, .int m_pairMany, .ref 1004, .ref 1005, .ref 1006, .ref 1007, .int m_readLinks, .int m_readTracers, .int m_readPoints, .int m_readPairs, .ref 1008, .ref 1009, .ref 1010, .ref 1011, .int (nI n), .int m_at, .int (nI (q + 1)), .int m_token, .int m_whole, .int m_readFault, .int m_readPlace, .int m_value, .long m_n, .long m_c, .long m_d, .long m_s, .long m_e, .long m_k, .long m_x, .long m_y, .long m_g, .long m_a, .ref 1012, .ref 1013, .ref 1014, .int m_curveMany, .ref 1015, .int m_cornerMany, .int m_straightAt, .ref 1016, .long m_fitUp, .long m_fitDown, .long m_worstUp, .long m_worstDown, .ref 1017, .int m_walkLink, .int m_walkAngle, .int m_walkBranch, .int m_walkMany, .ref 1018, .ref 1019, .int m_lined, .ref 1020, .int m_actMany], z1, z2, ia 700 q3, z4, z5, z6, z7, z8, z9, z10, z11, z12, z13, z14, z15, z16, z17, z18, z19, z20])) dX11_goesOn_20 fl_X11_128 rfl (Nat.le_of_ble_eq_true rfl) (fun _ => ⟨rfl, rfl⟩) rfl ?_
        refine ab_goto 0 dX11_goesOn_23 (by decide) ?_
        rw [show sk u n q = sk u n (q + 1) from run_t (by omega) (isB_iff.mpr ((nI_c (c := 32) (by omega) (by decide)).mp h_3))] at hx
        exact ih (q + 1) (by omega) (by omega) hx
    · refine ab_bipush (v := 32) dX11_goesOn_8 (by decide) ?_
      refine ab_icmpne 26 dX11_goesOn_10 (by decide) (fun h_4 => ?_) (fun h_4 => absurd h_4 (by decide))
      rw [show sk u n q = q from run_f (fun z => absurd z.1 (by omega))] at hx
      exact hx
theorem lp_goB {wc : List ax_E} {m_thrown m_trouble m_fault m_where m_taped m_linkMany m_tracerMany m_pointMany m_pairMany m_readLinks m_readTracers m_readPoints m_readPairs m_at m_token m_whole m_readFault m_readPlace m_value m_curveMany m_cornerMany m_straightAt m_walkLink m_walkAngle m_walkBranch m_walkMany m_lined m_actMany a1 : Int32} {m_n m_c m_d m_s m_e m_k m_x m_y m_g m_a m_fitUp m_fitDown m_worstUp m_worstDown : Int64} {z1 z2 z4 z5 z6 z7 z8 z9 z10 z11 z12 z13 z14 z15 z16 z17 z18 z19 z20 : ax_E} {q3 : Nat → Int32} {u : Nat → Nat} {n : Nat} {Q : Option Value → ax_W → Prop} (h_n : n ≤ 700) (h_v : ∀ k, k < n → u k < 256 ∧ q3 k = nI (u k)) : ∀ (m q : Nat), n - q = m → q ≤ n → Ab M_X11_goesOn Q (0, 0) 96 [(1, .int a1), (0, .ref 1000)] [] (wc, [ob 9 [.int m_thrown, .int m_trouble, .int m_fault, .int m_where, .ref 1001, .ref 1002, .int 40, .ref 1003, .int m_taped, .int m_linkMany, .int m_tracerMany, .int m_pointMany, .int m_pairMany, .ref 1004, .ref 1005, .ref 1006, .ref 1007, .int m_readLinks, .int m_readTracers, .int m_readPoints, .int m_readPairs, .ref 1008, .ref 1009, .ref 1010, .ref 1011, .int (nI n), .int m_at, .int (nI (lE u n q)), .int m_token, .int m_whole, .int m_readFault, .int m_readPlace, .int m_value, .long m_n, .long m_c, .long m_d, .long m_s, .long m_e, .long m_k, .long m_x, .long m_y, .long m_g, .long m_a, .ref 1012, .ref 1013, .ref 1014, .int m_curveMany, .ref 1015, .int m_cornerMany, .int m_straightAt, .ref 1016, .long m_fitUp, .long m_fitDown, .long m_worstUp, .long m_worstDown, .ref 1017, .int m_walkLink, .int m_walkAngle, .int m_walkBranch, .int m_walkMany, .ref 1018, .ref 1019, .int m_lined, .ref 1020, .int m_actMany], z1, z2, ia 700 q3, z4, z5, z6, z7, z8, z9, z10, z11, z12, z13, z14, z15, z16, z17, z18, z19, z20]) → Ab M_X11_goesOn Q (0, 0) 65 [(1, .int a1), (0, .ref 1000)] [] (wc, [ob 9 [.int m_thrown, .int m_trouble, .int m_fault, .int m_where, .ref 1001, .ref 1002, .int 40, .ref 1003, .int m_taped, .int m_linkMany, .int m_tracerMany, .int m_pointMany, .int m_pairMany, .ref 1004, .ref 1005, .ref 1006, .ref 1007, .int m_readLinks, .int m_readTracers, .int m_readPoints, .int m_readPairs, .ref 1008, .ref 1009, .ref 1010, .ref 1011, .int (nI n), .int m_at, .int (nI q), .int m_token, .int m_whole, .int m_readFault, .int m_readPlace, .int m_value, .long m_n, .long m_c, .long m_d, .long m_s, .long m_e, .long m_k, .long m_x, .long m_y, .long m_g, .long m_a, .ref 1012, .ref 1013, .ref 1014, .int m_curveMany, .ref 1015, .int m_cornerMany, .int m_straightAt, .ref 1016, .long m_fitUp, .long m_fitDown, .long m_worstUp, .long m_worstDown, .ref 1017, .int m_walkLink, .int m_walkAngle, .int m_walkBranch, .int m_walkMany, .ref 1018, .ref 1019, .int m_lined, .ref 1020, .int m_actMany], z1, z2, ia 700 q3, z4, z5, z6, z7, z8, z9, z10, z11, z12, z13, z14, z15, z16, z17, z18, z19, z20]) := by
  intro m
  induction m with
  | zero =>
    intro q hm hq hx
    have hqn : ¬ q < n := by omega
    refine ab_aload_n dX11_goesOn_65 rfl ?_
    refine ab_aload_n dX11_goesOn_66 rfl ?_
    refine ab_getf dX11_goesOn_67 fl_X11_128 rfl rfl ?_
    refine ab_callV (As := [.int (nI q)]) (rest := []) dX11_goesOn_70 mv_X11_see ml_X11_131 ⟨by decide, by decide, rfl, rfl, rfl⟩ (by decide) rfl rfl (Nat.le_of_ble_eq_true rfl) rfl (c_X11_see (n := n) (k := q) h_n (by assumption) (by omega)) ?_
    rintro r w' (⟨c_1, rfl, rfl⟩ | ⟨c_2, rfl, rfl⟩)
    · refine ab_bipush (v := 97) dX11_goesOn_73 (by decide) ?_
      refine ab_bipush (v := 122) dX11_goesOn_75 (by decide) ?_
      refine ab_callS (As := [.int (nI (u q)), .int 97, .int 122]) (rest := []) dX11_goesOn_77 ms_X11_in ml_X11_107 ⟨by decide, by decide, rfl, rfl, rfl⟩ (by decide) rfl rfl (Nat.le_of_ble_eq_true rfl) c_X11_in ?_
      rintro r w' (⟨c_3, rfl, rfl⟩ | ⟨c_4, rfl, rfl⟩)
      · refine ab_ifeq 96 dX11_goesOn_80 (by decide) (fun h_5 => absurd h_5 (by decide)) (fun h_5 => ?_)
        refine ab_aload_n dX11_goesOn_83 rfl ?_
        refine ab_dup rfl dX11_goesOn_84 ?_
        refine ab_getf dX11_goesOn_85 fl_X11_128 rfl rfl ?_
        refine ab_iconst (v := 1) dX11_goesOn_88 (by decide) ?_
        refine ab_iadd dX11_goesOn_89 ?_
        refine ab_topi (v := (nI (q + 1))) (nI_1 _) ?_
        refine ab_putf (w1 := (wc, [ob 9 [.int m_thrown, .int m_trouble, .int m_fault, .int m_where, .ref 1001, .ref 1002, .int 40, .ref 1003, .int m_taped, .int m_linkMany, .int m_tracerMany, .int m_pointMany, .int m_pairMany, .ref 1004, .ref 1005, .ref 1006, .ref 1007, .int m_readLinks, .int m_readTracers, .int m_readPoints, .int m_readPairs, .ref 1008, .ref 1009, .ref 1010, .ref 1011, .int (nI n), .int m_at, .int (nI (q + 1)), .int m_token, .int m_whole, .int m_readFault, .int m_readPlace, .int m_value, .long m_n, .long m_c, .long m_d, .long m_s, .long m_e, .long m_k, .long m_x, .long m_y, .long m_g, .long m_a, .ref 1012, .ref 1013, .ref 1014, .int m_curveMany, .ref 1015, .int m_cornerMany, .int m_straightAt, .ref 1016, .long m_fitUp, .long m_fitDown, .long m_worstUp, .long m_worstDown, .ref 1017, .int m_walkLink, .int m_walkAngle, .int m_walkBranch, .int m_walkMany, .ref 1018, .ref 1019, .int m_lined, .ref 1020, .int m_actMany], z1, z2, ia 700 q3, z4, z5, z6, z7, z8, z9, z10, z11, z12, z13, z14, z15, z16, z17, z18, z19, z20])) dX11_goesOn_90 fl_X11_128 rfl (Nat.le_of_ble_eq_true rfl) (fun _ => ⟨rfl, rfl⟩) rfl ?_
        refine ab_goto 65 dX11_goesOn_93 (by decide) ?_
        exfalso
        omega
      · refine ab_ifeq 96 dX11_goesOn_80 (by decide) (fun h_6 => ?_) (fun h_6 => absurd (by decide) h_6)
        rw [show lE u n q = q from run_f (fun z => c_4 ((isL_m (by omega)).mpr z.2))] at hx
        exact hx
    · refine ab_bipush (v := 97) dX11_goesOn_73 (by decide) ?_
      refine ab_bipush (v := 122) dX11_goesOn_75 (by decide) ?_
      refine ab_callS (As := [.int (-1), .int 97, .int 122]) (rest := []) dX11_goesOn_77 ms_X11_in ml_X11_107 ⟨by decide, by decide, rfl, rfl, rfl⟩ (by decide) rfl rfl (Nat.le_of_ble_eq_true rfl) c_X11_in ?_
      rintro r w' (⟨c_7, rfl, rfl⟩ | ⟨c_8, rfl, rfl⟩)
      · exact absurd c_7 (by decide)
      · refine ab_ifeq 96 dX11_goesOn_80 (by decide) (fun h_9 => ?_) (fun h_9 => absurd (by decide) h_9)
        rw [show lE u n q = q from run_f (fun z => absurd z.1 (by omega))] at hx
        exact hx
  | succ m ih =>
    intro q hm hq hx
    refine ab_aload_n dX11_goesOn_65 rfl ?_
    refine ab_aload_n dX11_goesOn_66 rfl ?_
    refine ab_getf dX11_goesOn_67 fl_X11_128 rfl rfl ?_
    refine ab_callV (As := [.int (nI q)]) (rest := []) dX11_goesOn_70 mv_X11_see ml_X11_131 ⟨by decide, by decide, rfl, rfl, rfl⟩ (by decide) rfl rfl (Nat.le_of_ble_eq_true rfl) rfl (c_X11_see (n := n) (k := q) h_n (by assumption) (by omega)) ?_
    rintro r w' (⟨c_1, rfl, rfl⟩ | ⟨c_2, rfl, rfl⟩)
    · refine ab_bipush (v := 97) dX11_goesOn_73 (by decide) ?_
      refine ab_bipush (v := 122) dX11_goesOn_75 (by decide) ?_
      refine ab_callS (As := [.int (nI (u q)), .int 97, .int 122]) (rest := []) dX11_goesOn_77 ms_X11_in ml_X11_107 ⟨by decide, by decide, rfl, rfl, rfl⟩ (by decide) rfl rfl (Nat.le_of_ble_eq_true rfl) c_X11_in ?_
      rintro r w' (⟨c_3, rfl, rfl⟩ | ⟨c_4, rfl, rfl⟩)
      · refine ab_ifeq 96 dX11_goesOn_80 (by decide) (fun h_5 => absurd h_5 (by decide)) (fun h_5 => ?_)
        refine ab_aload_n dX11_goesOn_83 rfl ?_
        refine ab_dup rfl dX11_goesOn_84 ?_
        refine ab_getf dX11_goesOn_85 fl_X11_128 rfl rfl ?_
        refine ab_iconst (v := 1) dX11_goesOn_88 (by decide) ?_
        refine ab_iadd dX11_goesOn_89 ?_
        refine ab_topi (v := (nI (q + 1))) (nI_1 _) ?_
        refine ab_putf (w1 := (wc, [ob 9 [.int m_thrown, .int m_trouble, .int m_fault, .int m_where, .ref 1001, .ref 1002, .int 40, .ref 1003, .int m_taped, .int m_linkMany, .int m_tracerMany, .int m_pointMany, .int m_pairMany, .ref 1004, .ref 1005, .ref 1006, .ref 1007, .int m_readLinks, .int m_readTracers, .int m_readPoints, .int m_readPairs, .ref 1008, .ref 1009, .ref 1010, .ref 1011, .int (nI n), .int m_at, .int (nI (q + 1)), .int m_token, .int m_whole, .int m_readFault, .int m_readPlace, .int m_value, .long m_n, .long m_c, .long m_d, .long m_s, .long m_e, .long m_k, .long m_x, .long m_y, .long m_g, .long m_a, .ref 1012, .ref 1013, .ref 1014, .int m_curveMany, .ref 1015, .int m_cornerMany, .int m_straightAt, .ref 1016, .long m_fitUp, .long m_fitDown, .long m_worstUp, .long m_worstDown, .ref 1017, .int m_walkLink, .int m_walkAngle, .int m_walkBranch, .int m_walkMany, .ref 1018, .ref 1019, .int m_lined, .ref 1020, .int m_actMany], z1, z2, ia 700 q3, z4, z5, z6, z7, z8, z9, z10, z11, z12, z13, z14, z15, z16, z17, z18, z19, z20])) dX11_goesOn_90 fl_X11_128 rfl (Nat.le_of_ble_eq_true rfl) (fun _ => ⟨rfl, rfl⟩) rfl ?_
        refine ab_goto 65 dX11_goesOn_93 (by decide) ?_
        rw [show lE u n q = lE u n (q + 1) from run_t (by omega) ((isL_m (by omega)).mp c_3)] at hx
        exact ih (q + 1) (by omega) (by omega) hx
      · refine ab_ifeq 96 dX11_goesOn_80 (by decide) (fun h_6 => ?_) (fun h_6 => absurd (by decide) h_6)
        rw [show lE u n q = q from run_f (fun z => c_4 ((isL_m (by omega)).mpr z.2))] at hx
        exact hx
    · refine ab_bipush (v := 97) dX11_goesOn_73 (by decide) ?_
      refine ab_bipush (v := 122) dX11_goesOn_75 (by decide) ?_
      refine ab_callS (As := [.int (-1), .int 97, .int 122]) (rest := []) dX11_goesOn_77 ms_X11_in ml_X11_107 ⟨by decide, by decide, rfl, rfl, rfl⟩ (by decide) rfl rfl (Nat.le_of_ble_eq_true rfl) c_X11_in ?_
      rintro r w' (⟨c_7, rfl, rfl⟩ | ⟨c_8, rfl, rfl⟩)
      · exact absurd c_7 (by decide)
      · refine ab_ifeq 96 dX11_goesOn_80 (by decide) (fun h_9 => ?_) (fun h_9 => absurd (by decide) h_9)
        rw [show lE u n q = q from run_f (fun z => absurd z.1 (by omega))] at hx
        exact hx
