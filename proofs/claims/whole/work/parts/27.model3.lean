theorem ix_w {x m : Int32} {n : Nat} (h : 0 ≤ x ∧ x < m) (hm : m.toInt ≤ (n : Int)) : ax_ix x n x.toNatClampNeg := by
  refine ix_in ?_ ?_
  · simpa using Int32.le_iff_toInt_le.mp h.1
  · exact Int.lt_of_lt_of_le (Int32.lt_iff_toInt_lt.mp h.2) hm
theorem gcd_ne {a b : Int64} (ha : a.toInt ≠ -2 ^ 63) (hb : b.toInt ≠ -2 ^ 63) (h : ¬ b = 0) : ¬ lN (Nat.gcd a.toInt.natAbs b.toInt.natAbs) = 0 := by
  intro q
  have h1 := (pk_lEQ (gcd_lt ha hb) (by decide)).mp q
  have h2 := (Nat.gcd_eq_zero_iff.mp h1).2
  exact h (Int64.toInt_inj.mp (by have h3 : b.toInt = 0 := (by omega); exact h3))
theorem in_lt {x c d : Int32} (h : 0 ≤ x ∧ x ≤ c) (hd : d - 1 = c ∧ 0 ≤ d) : 0 ≤ x ∧ x < d := ⟨h.1, (le_pred hd.2).mp (by rw [hd.1]; exact h.2)⟩
def Mp (a1 : Int64) (a2 : Int64) (a3 : Int32) : Int64 := (if a3 = 0 then (if 0 ≤ a2 then (a1 / (lN (Nat.gcd a1.toInt.natAbs a2.toInt.natAbs))) else ((-a1) / (lN (Nat.gcd a1.toInt.natAbs a2.toInt.natAbs)))) else ((Ab64 a2) / (lN (Nat.gcd a1.toInt.natAbs a2.toInt.natAbs))))
theorem c_X11_part {wc : List ax_E} {z0 z1 z2 z3 z4 z5 z6 z7 z8 z9 z10 z11 z12 z13 z14 z15 z16 z17 z18 z19 z20 : ax_E} {a1 a2 : Int64} {a3 : Int32} (ha : a1.toInt ≠ -2 ^ 63) (hb : a2.toInt ≠ -2 ^ 63) (h_0 : ¬ a2 = 0) : Ct M_X11_part [.ref 1000, .long a1, .long a2, .int a3] (wc, [z0, z1, z2, z3, z4, z5, z6, z7, z8, z9, z10, z11, z12, z13, z14, z15, z16, z17, z18, z19, z20]) (fun r w' => r = some (.long (Mp a1 a2 a3)) ∧ w' = (wc, [z0, z1, z2, z3, z4, z5, z6, z7, z8, z9, z10, z11, z12, z13, z14, z15, z16, z17, z18, z19, z20])) := by
  refine ct_of ⟨by decide, rfl⟩ (Nat.le_of_ble_eq_true rfl) ?_
  refine ab_lload_n dX11_part_0 rfl ?_
  refine ab_lload_n dX11_part_1 rfl ?_
  refine ab_callS (As := [.long a1, .long a2]) (rest := []) dX11_part_2 ms_X11_common ml_X11_22 ⟨by decide, by decide, rfl, rfl, rfl⟩ (by decide) rfl rfl (Nat.le_of_ble_eq_true rfl) (c_X11_common ha hb) ?_
  rintro r w' ⟨rfl, rfl⟩
  refine ab_lstore (la' := [(6, .long (lN (Nat.gcd a1.toInt.natAbs a2.toInt.natAbs))), (0, .ref 1000), (1, .long a1), (3, .long a2), (5, .int a3)]) dX11_part_5 (by decide) rfl ?_
  refine ab_iload dX11_part_7 rfl ?_
  refine ab_ifeq 19 dX11_part_9 (by decide) (fun h_1 => ?_) (fun h_1 => ?_)
  · refine ab_lload_n dX11_part_19 rfl ?_
    refine ab_lconst (v := 0) dX11_part_20 (by decide) ?_
    refine ab_lcmpge 30 dX11_part_21 dX11_part_22 (by decide) (fun h_2 => ?_) (fun h_2 => ?_)
    · refine ab_lload_n dX11_part_30 rfl ?_
      refine ab_lstore (la' := [(8, .long a1), (6, .long (lN (Nat.gcd a1.toInt.natAbs a2.toInt.natAbs))), (0, .ref 1000), (1, .long a1), (3, .long a2), (5, .int a3)]) dX11_part_31 (by decide) rfl ?_
      refine ab_lload dX11_part_33 rfl ?_
      refine ab_lload dX11_part_35 rfl ?_
      refine ab_ldiv dX11_part_37 (gcd_ne ha hb h_0) ?_
      exact ab_lret dX11_part_38 rfl (by decide) (⟨by rw [Mp, if_pos (show a3 = 0 from h_1), if_pos (show 0 ≤ a2 from h_2)], rfl⟩)
    · refine ab_lload_n dX11_part_25 rfl ?_
      refine ab_lneg dX11_part_26 ?_
      refine ab_goto 31 dX11_part_27 (by decide) ?_
      refine ab_lstore (la' := [(8, .long (-a1)), (6, .long (lN (Nat.gcd a1.toInt.natAbs a2.toInt.natAbs))), (0, .ref 1000), (1, .long a1), (3, .long a2), (5, .int a3)]) dX11_part_31 (by decide) rfl ?_
      refine ab_lload dX11_part_33 rfl ?_
      refine ab_lload dX11_part_35 rfl ?_
      refine ab_ldiv dX11_part_37 (gcd_ne ha hb h_0) ?_
      exact ab_lret dX11_part_38 rfl (by decide) (⟨by rw [Mp, if_pos (show a3 = 0 from h_1), if_neg (show ¬ 0 ≤ a2 from h_2)], rfl⟩)
  · refine ab_lload_n dX11_part_12 rfl ?_
    refine ab_callS (As := [.long a2]) (rest := []) dX11_part_13 ms_X11_plain ml_X11_7 ⟨by decide, by decide, rfl, rfl, rfl⟩ (by decide) rfl rfl (Nat.le_of_ble_eq_true rfl) c_X11_plain_t ?_
    rintro r w' ⟨rfl, rfl⟩
    refine ab_goto 31 dX11_part_16 (by decide) ?_
    refine ab_lstore (la' := [(8, .long (Ab64 a2)), (6, .long (lN (Nat.gcd a1.toInt.natAbs a2.toInt.natAbs))), (0, .ref 1000), (1, .long a1), (3, .long a2), (5, .int a3)]) dX11_part_31 (by decide) rfl ?_
    refine ab_lload dX11_part_33 rfl ?_
    refine ab_lload dX11_part_35 rfl ?_
    refine ab_ldiv dX11_part_37 (gcd_ne ha hb h_0) ?_
    exact ab_lret dX11_part_38 rfl (by decide) (⟨by rw [Mp, if_neg (show ¬ a3 = 0 from h_1)], rfl⟩)
def Ml_n (a2 : Int32) : Int64 := (((Int32.toInt64 ((ax_tab 0) (Int32.toNatClampNeg a2))) * (Int32.toInt64 ((ax_tab 0) (Int32.toNatClampNeg a2)))) + ((Int32.toInt64 ((ax_tab 1) (Int32.toNatClampNeg a2))) * (Int32.toInt64 ((ax_tab 1) (Int32.toNatClampNeg a2)))))
def Ml_c (a2 : Int32) : Int64 := (((Int32.toInt64 ((ax_tab 1) (Int32.toNatClampNeg a2))) * (Int32.toInt64 ((ax_tab 1) (Int32.toNatClampNeg a2)))) - ((Int32.toInt64 ((ax_tab 0) (Int32.toNatClampNeg a2))) * (Int32.toInt64 ((ax_tab 0) (Int32.toNatClampNeg a2)))))
def Ml_d (a2 : Int32) : Int64 := ((2 * (Int32.toInt64 ((ax_tab 0) (Int32.toNatClampNeg a2)))) * (Int32.toInt64 ((ax_tab 1) (Int32.toNatClampNeg a2))))
def Ml_s (q4 : Nat → Int32) (a1 : Int32) (a2 : Int32) : Int64 := (((((Int32.toInt64 (Bg q4 a1)) * (Int32.toInt64 (Bg q4 a1))) + ((Int32.toInt64 (Ba q4 a1)) * (Int32.toInt64 (Ba q4 a1)))) * (Ml_n a2)) - (((2 * (Int32.toInt64 (Bg q4 a1))) * (Int32.toInt64 (Ba q4 a1))) * (Ml_c a2)))
def Ml_e (q4 : Nat → Int32) (a1 : Int32) (a2 : Int32) : Int64 := ((Ml_s q4 a1 a2) + ((((Int32.toInt64 (Bb q4 a1)) * (Int32.toInt64 (Bb q4 a1))) - ((Int32.toInt64 (Bc q4 a1)) * (Int32.toInt64 (Bc q4 a1)))) * (Ml_n a2)))
def Ml_k (q4 : Nat → Int32) (a1 : Int32) (a2 : Int32) : Int64 := (((((4 * (Int32.toInt64 (Bb q4 a1))) * (Int32.toInt64 (Bb q4 a1))) * (Ml_s q4 a1 a2)) * (Ml_n a2)) - ((Ml_e q4 a1 a2) * (Ml_e q4 a1 a2)))
def Ml_x (q4 : Nat → Int32) (a1 : Int32) (a2 : Int32) : Int64 := (((Int32.toInt64 (Bg q4 a1)) * (Ml_n a2)) - ((Int32.toInt64 (Ba q4 a1)) * (Ml_c a2)))
def Ml_y (q4 : Nat → Int32) (a1 : Int32) (a2 : Int32) : Int64 := ((-(Int32.toInt64 (Ba q4 a1))) * (Ml_d a2))
theorem c_X11_lays {wc : List ax_E} {m_thrown m_trouble m_fault m_where m_taped m_linkMany m_tracerMany m_pointMany m_pairMany m_readLinks m_readTracers m_readPoints m_readPairs m_textLong m_at m_spot m_token m_whole m_readFault m_readPlace m_value m_curveMany m_cornerMany m_straightAt m_walkLink m_walkAngle m_walkBranch m_walkMany m_lined m_actMany a1 a2 : Int32} {m_n m_c m_d m_s m_e m_k m_x m_y m_g m_a m_fitUp m_fitDown m_worstUp m_worstDown : Int64} {z3 z5 z6 z7 z8 z9 z10 z11 z12 z13 z14 z15 z16 z17 z18 z19 z20 : ax_E} {q4 : Nat → Int32} (h_i : 0 ≤ a1 ∧ a1 < m_linkMany) (h_l : 0 ≤ m_linkMany ∧ m_linkMany ≤ nI 4) (h_k : 0 ≤ a2 ∧ a2 < 40) : Ct M_X11_lays [.ref 1000, .int a1, .int a2] (wc, [ob 9 [.int m_thrown, .int m_trouble, .int m_fault, .int m_where, .ref 1001, .ref 1002, .int 40, .ref 1003, .int m_taped, .int m_linkMany, .int m_tracerMany, .int m_pointMany, .int m_pairMany, .ref 1004, .ref 1005, .ref 1006, .ref 1007, .int m_readLinks, .int m_readTracers, .int m_readPoints, .int m_readPairs, .ref 1008, .ref 1009, .ref 1010, .ref 1011, .int m_textLong, .int m_at, .int m_spot, .int m_token, .int m_whole, .int m_readFault, .int m_readPlace, .int m_value, .long m_n, .long m_c, .long m_d, .long m_s, .long m_e, .long m_k, .long m_x, .long m_y, .long m_g, .long m_a, .ref 1012, .ref 1013, .ref 1014, .int m_curveMany, .ref 1015, .int m_cornerMany, .int m_straightAt, .ref 1016, .long m_fitUp, .long m_fitDown, .long m_worstUp, .long m_worstDown, .ref 1017, .int m_walkLink, .int m_walkAngle, .int m_walkBranch, .int m_walkMany, .ref 1018, .ref 1019, .int m_lined, .ref 1020, .int m_actMany], ia 64 (ax_tab 0), ia 64 (ax_tab 1), z3, ia 16 q4, z5, z6, z7, z8, z9, z10, z11, z12, z13, z14, z15, z16, z17, z18, z19, z20]) (fun r w' => r = none ∧ w' = (wc, [ob 9 [.int m_thrown, .int m_trouble, .int m_fault, .int m_where, .ref 1001, .ref 1002, .int 40, .ref 1003, .int m_taped, .int m_linkMany, .int m_tracerMany, .int m_pointMany, .int m_pairMany, .ref 1004, .ref 1005, .ref 1006, .ref 1007, .int m_readLinks, .int m_readTracers, .int m_readPoints, .int m_readPairs, .ref 1008, .ref 1009, .ref 1010, .ref 1011, .int m_textLong, .int m_at, .int m_spot, .int m_token, .int m_whole, .int m_readFault, .int m_readPlace, .int m_value, .long (Ml_n a2), .long (Ml_c a2), .long (Ml_d a2), .long (Ml_s q4 a1 a2), .long (Ml_e q4 a1 a2), .long (Ml_k q4 a1 a2), .long (Ml_x q4 a1 a2), .long (Ml_y q4 a1 a2), .long (Int32.toInt64 (Bg q4 a1)), .long (Int32.toInt64 (Ba q4 a1)), .ref 1012, .ref 1013, .ref 1014, .int m_curveMany, .ref 1015, .int m_cornerMany, .int m_straightAt, .ref 1016, .long m_fitUp, .long m_fitDown, .long m_worstUp, .long m_worstDown, .ref 1017, .int m_walkLink, .int m_walkAngle, .int m_walkBranch, .int m_walkMany, .ref 1018, .ref 1019, .int m_lined, .ref 1020, .int m_actMany], ia 64 (ax_tab 0), ia 64 (ax_tab 1), z3, ia 16 q4, z5, z6, z7, z8, z9, z10, z11, z12, z13, z14, z15, z16, z17, z18, z19, z20])) := by
  refine ct_of ⟨by decide, rfl⟩ (Nat.le_of_ble_eq_true rfl) ?_
  refine ab_aload_n dX11_lays_0 rfl ?_
  refine ab_getf dX11_lays_1 fl_X11_32 rfl rfl ?_
  refine ab_iload_n dX11_lays_4 rfl ?_
  refine ab_iald (j := (Int32.toNatClampNeg a2)) dX11_lays_5 rfl (ix_w h_k (by decide)) ?_
  refine ab_i2l dX11_lays_6 ?_
  refine ab_lstore_n (la' := [(3, .long (Int32.toInt64 ((ax_tab 0) (Int32.toNatClampNeg a2)))), (0, .ref 1000), (1, .int a1), (2, .int a2)]) dX11_lays_7 (by decide) rfl ?_
  refine ab_aload_n dX11_lays_8 rfl ?_
  refine ab_getf dX11_lays_9 fl_X11_36 rfl rfl ?_
  refine ab_iload_n dX11_lays_12 rfl ?_
  refine ab_iald (j := (Int32.toNatClampNeg a2)) dX11_lays_13 rfl (ix_w h_k (by decide)) ?_
  refine ab_i2l dX11_lays_14 ?_
  refine ab_lstore (la' := [(5, .long (Int32.toInt64 ((ax_tab 1) (Int32.toNatClampNeg a2)))), (3, .long (Int32.toInt64 ((ax_tab 0) (Int32.toNatClampNeg a2)))), (0, .ref 1000), (1, .int a1), (2, .int a2)]) dX11_lays_15 (by decide) rfl ?_
  refine ab_aload_n dX11_lays_17 rfl ?_
  refine ab_iload_n dX11_lays_18 rfl ?_
  refine ab_iconst (v := 2) dX11_lays_19 (by decide) ?_
  refine ab_callV (As := [.int a1, .int 2]) (rest := []) dX11_lays_20 mv_X11_barOf ml_X11_252 ⟨by decide, by decide, rfl, rfl, rfl⟩ (by decide) rfl rfl (Nat.le_of_ble_eq_true rfl) rfl (c_X11_barOf h_i h_l (by decide)) ?_
  rintro r w' ⟨rfl, rfl⟩
  refine ab_i2l dX11_lays_23 ?_
  refine ab_lstore (la' := [(7, .long (Int32.toInt64 (Bb q4 a1))), (5, .long (Int32.toInt64 ((ax_tab 1) (Int32.toNatClampNeg a2)))), (3, .long (Int32.toInt64 ((ax_tab 0) (Int32.toNatClampNeg a2)))), (0, .ref 1000), (1, .int a1), (2, .int a2)]) dX11_lays_24 (by decide) rfl ?_
  refine ab_aload_n dX11_lays_26 rfl ?_
  refine ab_iload_n dX11_lays_27 rfl ?_
  refine ab_iconst (v := 3) dX11_lays_28 (by decide) ?_
  refine ab_callV (As := [.int a1, .int 3]) (rest := []) dX11_lays_29 mv_X11_barOf ml_X11_252 ⟨by decide, by decide, rfl, rfl, rfl⟩ (by decide) rfl rfl (Nat.le_of_ble_eq_true rfl) rfl (c_X11_barOf h_i h_l (by decide)) ?_
  rintro r w' ⟨rfl, rfl⟩
  refine ab_i2l dX11_lays_32 ?_
  refine ab_lstore (la' := [(9, .long (Int32.toInt64 (Bc q4 a1))), (7, .long (Int32.toInt64 (Bb q4 a1))), (5, .long (Int32.toInt64 ((ax_tab 1) (Int32.toNatClampNeg a2)))), (3, .long (Int32.toInt64 ((ax_tab 0) (Int32.toNatClampNeg a2)))), (0, .ref 1000), (1, .int a1), (2, .int a2)]) dX11_lays_33 (by decide) rfl ?_
  refine ab_aload_n dX11_lays_35 rfl ?_
  refine ab_aload_n dX11_lays_36 rfl ?_
  refine ab_iload_n dX11_lays_37 rfl ?_
  refine ab_iconst (v := 0) dX11_lays_38 (by decide) ?_
  refine ab_callV (As := [.int a1, .int 0]) (rest := [.ref 1000]) dX11_lays_39 mv_X11_barOf ml_X11_252 ⟨by decide, by decide, rfl, rfl, rfl⟩ (by decide) rfl rfl (Nat.le_of_ble_eq_true rfl) rfl (c_X11_barOf h_i h_l (by decide)) ?_
  rintro r w' ⟨rfl, rfl⟩
  refine ab_i2l dX11_lays_42 ?_
  refine ab_putf (w1 := (wc, [ob 9 [.int m_thrown, .int m_trouble, .int m_fault, .int m_where, .ref 1001, .ref 1002, .int 40, .ref 1003, .int m_taped, .int m_linkMany, .int m_tracerMany, .int m_pointMany, .int m_pairMany, .ref 1004, .ref 1005, .ref 1006, .ref 1007, .int m_readLinks, .int m_readTracers, .int m_readPoints, .int m_readPairs, .ref 1008, .ref 1009, .ref 1010, .ref 1011, .int m_textLong, .int m_at, .int m_spot, .int m_token, .int m_whole, .int m_readFault, .int m_readPlace, .int m_value, .long m_n, .long m_c, .long m_d, .long m_s, .long m_e, .long m_k, .long m_x, .long m_y, .long (Int32.toInt64 (Bg q4 a1)), .long m_a, .ref 1012, .ref 1013, .ref 1014, .int m_curveMany, .ref 1015, .int m_cornerMany, .int m_straightAt, .ref 1016, .long m_fitUp, .long m_fitDown, .long m_worstUp, .long m_worstDown, .ref 1017, .int m_walkLink, .int m_walkAngle, .int m_walkBranch, .int m_walkMany, .ref 1018, .ref 1019, .int m_lined, .ref 1020, .int m_actMany], ia 64 (ax_tab 0), ia 64 (ax_tab 1), z3, ia 16 q4, z5, z6, z7, z8, z9, z10, z11, z12, z13, z14, z15, z16, z17, z18, z19, z20])) dX11_lays_43 fl_X11_346 rfl (Nat.le_of_ble_eq_true rfl) (fun _ => ⟨rfl, rfl⟩) rfl ?_
  refine ab_aload_n dX11_lays_46 rfl ?_
  refine ab_aload_n dX11_lays_47 rfl ?_
  refine ab_iload_n dX11_lays_48 rfl ?_
  refine ab_iconst (v := 1) dX11_lays_49 (by decide) ?_
  refine ab_callV (As := [.int a1, .int 1]) (rest := [.ref 1000]) dX11_lays_50 mv_X11_barOf ml_X11_252 ⟨by decide, by decide, rfl, rfl, rfl⟩ (by decide) rfl rfl (Nat.le_of_ble_eq_true rfl) rfl (c_X11_barOf h_i h_l (by decide)) ?_
  rintro r w' ⟨rfl, rfl⟩
  refine ab_i2l dX11_lays_53 ?_
  refine ab_putf (w1 := (wc, [ob 9 [.int m_thrown, .int m_trouble, .int m_fault, .int m_where, .ref 1001, .ref 1002, .int 40, .ref 1003, .int m_taped, .int m_linkMany, .int m_tracerMany, .int m_pointMany, .int m_pairMany, .ref 1004, .ref 1005, .ref 1006, .ref 1007, .int m_readLinks, .int m_readTracers, .int m_readPoints, .int m_readPairs, .ref 1008, .ref 1009, .ref 1010, .ref 1011, .int m_textLong, .int m_at, .int m_spot, .int m_token, .int m_whole, .int m_readFault, .int m_readPlace, .int m_value, .long m_n, .long m_c, .long m_d, .long m_s, .long m_e, .long m_k, .long m_x, .long m_y, .long (Int32.toInt64 (Bg q4 a1)), .long (Int32.toInt64 (Ba q4 a1)), .ref 1012, .ref 1013, .ref 1014, .int m_curveMany, .ref 1015, .int m_cornerMany, .int m_straightAt, .ref 1016, .long m_fitUp, .long m_fitDown, .long m_worstUp, .long m_worstDown, .ref 1017, .int m_walkLink, .int m_walkAngle, .int m_walkBranch, .int m_walkMany, .ref 1018, .ref 1019, .int m_lined, .ref 1020, .int m_actMany], ia 64 (ax_tab 0), ia 64 (ax_tab 1), z3, ia 16 q4, z5, z6, z7, z8, z9, z10, z11, z12, z13, z14, z15, z16, z17, z18, z19, z20])) dX11_lays_54 fl_X11_349 rfl (Nat.le_of_ble_eq_true rfl) (fun _ => ⟨rfl, rfl⟩) rfl ?_
  refine ab_aload_n dX11_lays_57 rfl ?_
  refine ab_lload_n dX11_lays_58 rfl ?_
  refine ab_lload_n dX11_lays_59 rfl ?_
  refine ab_lmul dX11_lays_60 ?_
  refine ab_lload dX11_lays_61 rfl ?_
  refine ab_lload dX11_lays_63 rfl ?_
  refine ab_lmul dX11_lays_65 ?_
  refine ab_ladd dX11_lays_66 ?_
  refine ab_putf (w1 := (wc, [ob 9 [.int m_thrown, .int m_trouble, .int m_fault, .int m_where, .ref 1001, .ref 1002, .int 40, .ref 1003, .int m_taped, .int m_linkMany, .int m_tracerMany, .int m_pointMany, .int m_pairMany, .ref 1004, .ref 1005, .ref 1006, .ref 1007, .int m_readLinks, .int m_readTracers, .int m_readPoints, .int m_readPairs, .ref 1008, .ref 1009, .ref 1010, .ref 1011, .int m_textLong, .int m_at, .int m_spot, .int m_token, .int m_whole, .int m_readFault, .int m_readPlace, .int m_value, .long (Ml_n a2), .long m_c, .long m_d, .long m_s, .long m_e, .long m_k, .long m_x, .long m_y, .long (Int32.toInt64 (Bg q4 a1)), .long (Int32.toInt64 (Ba q4 a1)), .ref 1012, .ref 1013, .ref 1014, .int m_curveMany, .ref 1015, .int m_cornerMany, .int m_straightAt, .ref 1016, .long m_fitUp, .long m_fitDown, .long m_worstUp, .long m_worstDown, .ref 1017, .int m_walkLink, .int m_walkAngle, .int m_walkBranch, .int m_walkMany, .ref 1018, .ref 1019, .int m_lined, .ref 1020, .int m_actMany], ia 64 (ax_tab 0), ia 64 (ax_tab 1), z3, ia 16 q4, z5, z6, z7, z8, z9, z10, z11, z12, z13, z14, z15, z16, z17, z18, z19, z20])) dX11_lays_67 fl_X11_328 rfl (Nat.le_of_ble_eq_true rfl) (fun _ => ⟨rfl, rfl⟩) rfl ?_
  refine ab_aload_n dX11_lays_70 rfl ?_
  refine ab_lload dX11_lays_71 rfl ?_
  refine ab_lload dX11_lays_73 rfl ?_
  refine ab_lmul dX11_lays_75 ?_
  refine ab_lload_n dX11_lays_76 rfl ?_
  refine ab_lload_n dX11_lays_77 rfl ?_
  refine ab_lmul dX11_lays_78 ?_
  refine ab_lsub dX11_lays_79 ?_
  refine ab_putf (w1 := (wc, [ob 9 [.int m_thrown, .int m_trouble, .int m_fault, .int m_where, .ref 1001, .ref 1002, .int 40, .ref 1003, .int m_taped, .int m_linkMany, .int m_tracerMany, .int m_pointMany, .int m_pairMany, .ref 1004, .ref 1005, .ref 1006, .ref 1007, .int m_readLinks, .int m_readTracers, .int m_readPoints, .int m_readPairs, .ref 1008, .ref 1009, .ref 1010, .ref 1011, .int m_textLong, .int m_at, .int m_spot, .int m_token, .int m_whole, .int m_readFault, .int m_readPlace, .int m_value, .long (Ml_n a2), .long (Ml_c a2), .long m_d, .long m_s, .long m_e, .long m_k, .long m_x, .long m_y, .long (Int32.toInt64 (Bg q4 a1)), .long (Int32.toInt64 (Ba q4 a1)), .ref 1012, .ref 1013, .ref 1014, .int m_curveMany, .ref 1015, .int m_cornerMany, .int m_straightAt, .ref 1016, .long m_fitUp, .long m_fitDown, .long m_worstUp, .long m_worstDown, .ref 1017, .int m_walkLink, .int m_walkAngle, .int m_walkBranch, .int m_walkMany, .ref 1018, .ref 1019, .int m_lined, .ref 1020, .int m_actMany], ia 64 (ax_tab 0), ia 64 (ax_tab 1), z3, ia 16 q4, z5, z6, z7, z8, z9, z10, z11, z12, z13, z14, z15, z16, z17, z18, z19, z20])) dX11_lays_80 fl_X11_331 rfl (Nat.le_of_ble_eq_true rfl) (fun _ => ⟨rfl, rfl⟩) rfl ?_
  refine ab_aload_n dX11_lays_83 rfl ?_
  refine ab_ldc2 dX11_lays_84 kl_X11_344 ?_
  refine ab_lload_n dX11_lays_87 rfl ?_
  refine ab_lmul dX11_lays_88 ?_
  refine ab_lload dX11_lays_89 rfl ?_
  refine ab_lmul dX11_lays_91 ?_
  refine ab_putf (w1 := (wc, [ob 9 [.int m_thrown, .int m_trouble, .int m_fault, .int m_where, .ref 1001, .ref 1002, .int 40, .ref 1003, .int m_taped, .int m_linkMany, .int m_tracerMany, .int m_pointMany, .int m_pairMany, .ref 1004, .ref 1005, .ref 1006, .ref 1007, .int m_readLinks, .int m_readTracers, .int m_readPoints, .int m_readPairs, .ref 1008, .ref 1009, .ref 1010, .ref 1011, .int m_textLong, .int m_at, .int m_spot, .int m_token, .int m_whole, .int m_readFault, .int m_readPlace, .int m_value, .long (Ml_n a2), .long (Ml_c a2), .long (Ml_d a2), .long m_s, .long m_e, .long m_k, .long m_x, .long m_y, .long (Int32.toInt64 (Bg q4 a1)), .long (Int32.toInt64 (Ba q4 a1)), .ref 1012, .ref 1013, .ref 1014, .int m_curveMany, .ref 1015, .int m_cornerMany, .int m_straightAt, .ref 1016, .long m_fitUp, .long m_fitDown, .long m_worstUp, .long m_worstDown, .ref 1017, .int m_walkLink, .int m_walkAngle, .int m_walkBranch, .int m_walkMany, .ref 1018, .ref 1019, .int m_lined, .ref 1020, .int m_actMany], ia 64 (ax_tab 0), ia 64 (ax_tab 1), z3, ia 16 q4, z5, z6, z7, z8, z9, z10, z11, z12, z13, z14, z15, z16, z17, z18, z19, z20])) dX11_lays_92 fl_X11_352 rfl (Nat.le_of_ble_eq_true rfl) (fun _ => ⟨rfl, rfl⟩) rfl ?_
  refine ab_aload_n dX11_lays_95 rfl ?_
  refine ab_aload_n dX11_lays_96 rfl ?_
  refine ab_getf dX11_lays_97 fl_X11_346 rfl rfl ?_
  refine ab_aload_n dX11_lays_100 rfl ?_
  refine ab_getf dX11_lays_101 fl_X11_346 rfl rfl ?_
  refine ab_lmul dX11_lays_104 ?_
  refine ab_aload_n dX11_lays_105 rfl ?_
  refine ab_getf dX11_lays_106 fl_X11_349 rfl rfl ?_
  refine ab_aload_n dX11_lays_109 rfl ?_
  refine ab_getf dX11_lays_110 fl_X11_349 rfl rfl ?_
  refine ab_lmul dX11_lays_113 ?_
  refine ab_ladd dX11_lays_114 ?_
  refine ab_aload_n dX11_lays_115 rfl ?_
  refine ab_getf dX11_lays_116 fl_X11_328 rfl rfl ?_
  refine ab_lmul dX11_lays_119 ?_
  refine ab_ldc2 dX11_lays_120 kl_X11_344 ?_
  refine ab_aload_n dX11_lays_123 rfl ?_
  refine ab_getf dX11_lays_124 fl_X11_346 rfl rfl ?_
  refine ab_lmul dX11_lays_127 ?_
  refine ab_aload_n dX11_lays_128 rfl ?_
  refine ab_getf dX11_lays_129 fl_X11_349 rfl rfl ?_
  refine ab_lmul dX11_lays_132 ?_
  refine ab_aload_n dX11_lays_133 rfl ?_
  refine ab_getf dX11_lays_134 fl_X11_331 rfl rfl ?_
  refine ab_lmul dX11_lays_137 ?_
  refine ab_lsub dX11_lays_138 ?_
  refine ab_putf (w1 := (wc, [ob 9 [.int m_thrown, .int m_trouble, .int m_fault, .int m_where, .ref 1001, .ref 1002, .int 40, .ref 1003, .int m_taped, .int m_linkMany, .int m_tracerMany, .int m_pointMany, .int m_pairMany, .ref 1004, .ref 1005, .ref 1006, .ref 1007, .int m_readLinks, .int m_readTracers, .int m_readPoints, .int m_readPairs, .ref 1008, .ref 1009, .ref 1010, .ref 1011, .int m_textLong, .int m_at, .int m_spot, .int m_token, .int m_whole, .int m_readFault, .int m_readPlace, .int m_value, .long (Ml_n a2), .long (Ml_c a2), .long (Ml_d a2), .long (Ml_s q4 a1 a2), .long m_e, .long m_k, .long m_x, .long m_y, .long (Int32.toInt64 (Bg q4 a1)), .long (Int32.toInt64 (Ba q4 a1)), .ref 1012, .ref 1013, .ref 1014, .int m_curveMany, .ref 1015, .int m_cornerMany, .int m_straightAt, .ref 1016, .long m_fitUp, .long m_fitDown, .long m_worstUp, .long m_worstDown, .ref 1017, .int m_walkLink, .int m_walkAngle, .int m_walkBranch, .int m_walkMany, .ref 1018, .ref 1019, .int m_lined, .ref 1020, .int m_actMany], ia 64 (ax_tab 0), ia 64 (ax_tab 1), z3, ia 16 q4, z5, z6, z7, z8, z9, z10, z11, z12, z13, z14, z15, z16, z17, z18, z19, z20])) dX11_lays_139 fl_X11_355 rfl (Nat.le_of_ble_eq_true rfl) (fun _ => ⟨rfl, rfl⟩) rfl ?_
  refine ab_aload_n dX11_lays_142 rfl ?_
  refine ab_aload_n dX11_lays_143 rfl ?_
  refine ab_getf dX11_lays_144 fl_X11_355 rfl rfl ?_
  refine ab_lload dX11_lays_147 rfl ?_
  refine ab_lload dX11_lays_149 rfl ?_
  refine ab_lmul dX11_lays_151 ?_
  refine ab_lload dX11_lays_152 rfl ?_
  refine ab_lload dX11_lays_154 rfl ?_
  refine ab_lmul dX11_lays_156 ?_
  refine ab_lsub dX11_lays_157 ?_
  refine ab_aload_n dX11_lays_158 rfl ?_
  refine ab_getf dX11_lays_159 fl_X11_328 rfl rfl ?_
  refine ab_lmul dX11_lays_162 ?_
  refine ab_ladd dX11_lays_163 ?_
  refine ab_putf (w1 := (wc, [ob 9 [.int m_thrown, .int m_trouble, .int m_fault, .int m_where, .ref 1001, .ref 1002, .int 40, .ref 1003, .int m_taped, .int m_linkMany, .int m_tracerMany, .int m_pointMany, .int m_pairMany, .ref 1004, .ref 1005, .ref 1006, .ref 1007, .int m_readLinks, .int m_readTracers, .int m_readPoints, .int m_readPairs, .ref 1008, .ref 1009, .ref 1010, .ref 1011, .int m_textLong, .int m_at, .int m_spot, .int m_token, .int m_whole, .int m_readFault, .int m_readPlace, .int m_value, .long (Ml_n a2), .long (Ml_c a2), .long (Ml_d a2), .long (Ml_s q4 a1 a2), .long (Ml_e q4 a1 a2), .long m_k, .long m_x, .long m_y, .long (Int32.toInt64 (Bg q4 a1)), .long (Int32.toInt64 (Ba q4 a1)), .ref 1012, .ref 1013, .ref 1014, .int m_curveMany, .ref 1015, .int m_cornerMany, .int m_straightAt, .ref 1016, .long m_fitUp, .long m_fitDown, .long m_worstUp, .long m_worstDown, .ref 1017, .int m_walkLink, .int m_walkAngle, .int m_walkBranch, .int m_walkMany, .ref 1018, .ref 1019, .int m_lined, .ref 1020, .int m_actMany], ia 64 (ax_tab 0), ia 64 (ax_tab 1), z3, ia 16 q4, z5, z6, z7, z8, z9, z10, z11, z12, z13, z14, z15, z16, z17, z18, z19, z20])) dX11_lays_164 fl_X11_358 rfl (Nat.le_of_ble_eq_true rfl) (fun _ => ⟨rfl, rfl⟩) rfl ?_
  refine ab_aload_n dX11_lays_167 rfl ?_
  refine ab_ldc2 dX11_lays_168 kl_X11_361 ?_
  refine ab_lload dX11_lays_171 rfl ?_
  refine ab_lmul dX11_lays_173 ?_
  refine ab_lload dX11_lays_174 rfl ?_
  refine ab_lmul dX11_lays_176 ?_
  refine ab_aload_n dX11_lays_177 rfl ?_
  refine ab_getf dX11_lays_178 fl_X11_355 rfl rfl ?_
  refine ab_lmul dX11_lays_181 ?_
  refine ab_aload_n dX11_lays_182 rfl ?_
  refine ab_getf dX11_lays_183 fl_X11_328 rfl rfl ?_
  refine ab_lmul dX11_lays_186 ?_
  refine ab_aload_n dX11_lays_187 rfl ?_
  refine ab_getf dX11_lays_188 fl_X11_358 rfl rfl ?_
  refine ab_aload_n dX11_lays_191 rfl ?_
  refine ab_getf dX11_lays_192 fl_X11_358 rfl rfl ?_
  refine ab_lmul dX11_lays_195 ?_
  refine ab_lsub dX11_lays_196 ?_
  refine ab_putf (w1 := (wc, [ob 9 [.int m_thrown, .int m_trouble, .int m_fault, .int m_where, .ref 1001, .ref 1002, .int 40, .ref 1003, .int m_taped, .int m_linkMany, .int m_tracerMany, .int m_pointMany, .int m_pairMany, .ref 1004, .ref 1005, .ref 1006, .ref 1007, .int m_readLinks, .int m_readTracers, .int m_readPoints, .int m_readPairs, .ref 1008, .ref 1009, .ref 1010, .ref 1011, .int m_textLong, .int m_at, .int m_spot, .int m_token, .int m_whole, .int m_readFault, .int m_readPlace, .int m_value, .long (Ml_n a2), .long (Ml_c a2), .long (Ml_d a2), .long (Ml_s q4 a1 a2), .long (Ml_e q4 a1 a2), .long (Ml_k q4 a1 a2), .long m_x, .long m_y, .long (Int32.toInt64 (Bg q4 a1)), .long (Int32.toInt64 (Ba q4 a1)), .ref 1012, .ref 1013, .ref 1014, .int m_curveMany, .ref 1015, .int m_cornerMany, .int m_straightAt, .ref 1016, .long m_fitUp, .long m_fitDown, .long m_worstUp, .long m_worstDown, .ref 1017, .int m_walkLink, .int m_walkAngle, .int m_walkBranch, .int m_walkMany, .ref 1018, .ref 1019, .int m_lined, .ref 1020, .int m_actMany], ia 64 (ax_tab 0), ia 64 (ax_tab 1), z3, ia 16 q4, z5, z6, z7, z8, z9, z10, z11, z12, z13, z14, z15, z16, z17, z18, z19, z20])) dX11_lays_197 fl_X11_321 rfl (Nat.le_of_ble_eq_true rfl) (fun _ => ⟨rfl, rfl⟩) rfl ?_
  refine ab_aload_n dX11_lays_200 rfl ?_
  refine ab_aload_n dX11_lays_201 rfl ?_
  refine ab_getf dX11_lays_202 fl_X11_346 rfl rfl ?_
  refine ab_aload_n dX11_lays_205 rfl ?_
  refine ab_getf dX11_lays_206 fl_X11_328 rfl rfl ?_
  refine ab_lmul dX11_lays_209 ?_
  refine ab_aload_n dX11_lays_210 rfl ?_
  refine ab_getf dX11_lays_211 fl_X11_349 rfl rfl ?_
  refine ab_aload_n dX11_lays_214 rfl ?_
  refine ab_getf dX11_lays_215 fl_X11_331 rfl rfl ?_
  refine ab_lmul dX11_lays_218 ?_
  refine ab_lsub dX11_lays_219 ?_
  refine ab_putf (w1 := (wc, [ob 9 [.int m_thrown, .int m_trouble, .int m_fault, .int m_where, .ref 1001, .ref 1002, .int 40, .ref 1003, .int m_taped, .int m_linkMany, .int m_tracerMany, .int m_pointMany, .int m_pairMany, .ref 1004, .ref 1005, .ref 1006, .ref 1007, .int m_readLinks, .int m_readTracers, .int m_readPoints, .int m_readPairs, .ref 1008, .ref 1009, .ref 1010, .ref 1011, .int m_textLong, .int m_at, .int m_spot, .int m_token, .int m_whole, .int m_readFault, .int m_readPlace, .int m_value, .long (Ml_n a2), .long (Ml_c a2), .long (Ml_d a2), .long (Ml_s q4 a1 a2), .long (Ml_e q4 a1 a2), .long (Ml_k q4 a1 a2), .long (Ml_x q4 a1 a2), .long m_y, .long (Int32.toInt64 (Bg q4 a1)), .long (Int32.toInt64 (Ba q4 a1)), .ref 1012, .ref 1013, .ref 1014, .int m_curveMany, .ref 1015, .int m_cornerMany, .int m_straightAt, .ref 1016, .long m_fitUp, .long m_fitDown, .long m_worstUp, .long m_worstDown, .ref 1017, .int m_walkLink, .int m_walkAngle, .int m_walkBranch, .int m_walkMany, .ref 1018, .ref 1019, .int m_lined, .ref 1020, .int m_actMany], ia 64 (ax_tab 0), ia 64 (ax_tab 1), z3, ia 16 q4, z5, z6, z7, z8, z9, z10, z11, z12, z13, z14, z15, z16, z17, z18, z19, z20])) dX11_lays_220 fl_X11_363 rfl (Nat.le_of_ble_eq_true rfl) (fun _ => ⟨rfl, rfl⟩) rfl ?_
  refine ab_aload_n dX11_lays_223 rfl ?_
  refine ab_aload_n dX11_lays_224 rfl ?_
  refine ab_getf dX11_lays_225 fl_X11_349 rfl rfl ?_
  refine ab_lneg dX11_lays_228 ?_
  refine ab_aload_n dX11_lays_229 rfl ?_
  refine ab_getf dX11_lays_230 fl_X11_352 rfl rfl ?_
  refine ab_lmul dX11_lays_233 ?_
  refine ab_putf (w1 := (wc, [ob 9 [.int m_thrown, .int m_trouble, .int m_fault, .int m_where, .ref 1001, .ref 1002, .int 40, .ref 1003, .int m_taped, .int m_linkMany, .int m_tracerMany, .int m_pointMany, .int m_pairMany, .ref 1004, .ref 1005, .ref 1006, .ref 1007, .int m_readLinks, .int m_readTracers, .int m_readPoints, .int m_readPairs, .ref 1008, .ref 1009, .ref 1010, .ref 1011, .int m_textLong, .int m_at, .int m_spot, .int m_token, .int m_whole, .int m_readFault, .int m_readPlace, .int m_value, .long (Ml_n a2), .long (Ml_c a2), .long (Ml_d a2), .long (Ml_s q4 a1 a2), .long (Ml_e q4 a1 a2), .long (Ml_k q4 a1 a2), .long (Ml_x q4 a1 a2), .long (Ml_y q4 a1 a2), .long (Int32.toInt64 (Bg q4 a1)), .long (Int32.toInt64 (Ba q4 a1)), .ref 1012, .ref 1013, .ref 1014, .int m_curveMany, .ref 1015, .int m_cornerMany, .int m_straightAt, .ref 1016, .long m_fitUp, .long m_fitDown, .long m_worstUp, .long m_worstDown, .ref 1017, .int m_walkLink, .int m_walkAngle, .int m_walkBranch, .int m_walkMany, .ref 1018, .ref 1019, .int m_lined, .ref 1020, .int m_actMany], ia 64 (ax_tab 0), ia 64 (ax_tab 1), z3, ia 16 q4, z5, z6, z7, z8, z9, z10, z11, z12, z13, z14, z15, z16, z17, z18, z19, z20])) dX11_lays_234 fl_X11_366 rfl (Nat.le_of_ble_eq_true rfl) (fun _ => ⟨rfl, rfl⟩) rfl ?_
  exact ab_vret dX11_lays_237 rfl (by decide) (⟨rfl, rfl⟩)
theorem c_X11_isLawful {wc : List ax_E} {m_thrown m_trouble m_fault m_where m_taped m_linkMany m_tracerMany m_pointMany m_pairMany m_readLinks m_readTracers m_readPoints m_readPairs m_textLong m_at m_spot m_token m_whole m_readFault m_readPlace m_value m_curveMany m_cornerMany m_straightAt m_walkLink m_walkAngle m_walkBranch m_walkMany m_lined m_actMany a1 a2 : Int32} {m_n m_c m_d m_s m_e m_k m_x m_y m_g m_a m_fitUp m_fitDown m_worstUp m_worstDown : Int64} {z3 z5 z6 z7 z8 z9 z10 z11 z12 z13 z14 z15 z16 z17 z18 z19 z20 : ax_E} {q4 : Nat → Int32} (h_i : 0 ≤ a1 ∧ a1 < m_linkMany) (h_l : 0 ≤ m_linkMany ∧ m_linkMany ≤ nI 4) (h_k : 0 ≤ a2 ∧ a2 < 40) : Ct M_X11_isLawful [.ref 1000, .int a1, .int a2] (wc, [ob 9 [.int m_thrown, .int m_trouble, .int m_fault, .int m_where, .ref 1001, .ref 1002, .int 40, .ref 1003, .int m_taped, .int m_linkMany, .int m_tracerMany, .int m_pointMany, .int m_pairMany, .ref 1004, .ref 1005, .ref 1006, .ref 1007, .int m_readLinks, .int m_readTracers, .int m_readPoints, .int m_readPairs, .ref 1008, .ref 1009, .ref 1010, .ref 1011, .int m_textLong, .int m_at, .int m_spot, .int m_token, .int m_whole, .int m_readFault, .int m_readPlace, .int m_value, .long m_n, .long m_c, .long m_d, .long m_s, .long m_e, .long m_k, .long m_x, .long m_y, .long m_g, .long m_a, .ref 1012, .ref 1013, .ref 1014, .int m_curveMany, .ref 1015, .int m_cornerMany, .int m_straightAt, .ref 1016, .long m_fitUp, .long m_fitDown, .long m_worstUp, .long m_worstDown, .ref 1017, .int m_walkLink, .int m_walkAngle, .int m_walkBranch, .int m_walkMany, .ref 1018, .ref 1019, .int m_lined, .ref 1020, .int m_actMany], ia 64 (ax_tab 0), ia 64 (ax_tab 1), z3, ia 16 q4, z5, z6, z7, z8, z9, z10, z11, z12, z13, z14, z15, z16, z17, z18, z19, z20]) (fun r w' => ((0 < Ml_s q4 a1 a2 ∧ 0 ≤ Ml_k q4 a1 a2) ∧ r = some (.int 1) ∧ w' = (wc, [ob 9 [.int m_thrown, .int m_trouble, .int m_fault, .int m_where, .ref 1001, .ref 1002, .int 40, .ref 1003, .int m_taped, .int m_linkMany, .int m_tracerMany, .int m_pointMany, .int m_pairMany, .ref 1004, .ref 1005, .ref 1006, .ref 1007, .int m_readLinks, .int m_readTracers, .int m_readPoints, .int m_readPairs, .ref 1008, .ref 1009, .ref 1010, .ref 1011, .int m_textLong, .int m_at, .int m_spot, .int m_token, .int m_whole, .int m_readFault, .int m_readPlace, .int m_value, .long (Ml_n a2), .long (Ml_c a2), .long (Ml_d a2), .long (Ml_s q4 a1 a2), .long (Ml_e q4 a1 a2), .long (Ml_k q4 a1 a2), .long (Ml_x q4 a1 a2), .long (Ml_y q4 a1 a2), .long (Int32.toInt64 (Bg q4 a1)), .long (Int32.toInt64 (Ba q4 a1)), .ref 1012, .ref 1013, .ref 1014, .int m_curveMany, .ref 1015, .int m_cornerMany, .int m_straightAt, .ref 1016, .long m_fitUp, .long m_fitDown, .long m_worstUp, .long m_worstDown, .ref 1017, .int m_walkLink, .int m_walkAngle, .int m_walkBranch, .int m_walkMany, .ref 1018, .ref 1019, .int m_lined, .ref 1020, .int m_actMany], ia 64 (ax_tab 0), ia 64 (ax_tab 1), z3, ia 16 q4, z5, z6, z7, z8, z9, z10, z11, z12, z13, z14, z15, z16, z17, z18, z19, z20])) ∨ ((¬ (0 < Ml_s q4 a1 a2 ∧ 0 ≤ Ml_k q4 a1 a2)) ∧ r = some (.int 0) ∧ w' = (wc, [ob 9 [.int m_thrown, .int m_trouble, .int m_fault, .int m_where, .ref 1001, .ref 1002, .int 40, .ref 1003, .int m_taped, .int m_linkMany, .int m_tracerMany, .int m_pointMany, .int m_pairMany, .ref 1004, .ref 1005, .ref 1006, .ref 1007, .int m_readLinks, .int m_readTracers, .int m_readPoints, .int m_readPairs, .ref 1008, .ref 1009, .ref 1010, .ref 1011, .int m_textLong, .int m_at, .int m_spot, .int m_token, .int m_whole, .int m_readFault, .int m_readPlace, .int m_value, .long (Ml_n a2), .long (Ml_c a2), .long (Ml_d a2), .long (Ml_s q4 a1 a2), .long (Ml_e q4 a1 a2), .long (Ml_k q4 a1 a2), .long (Ml_x q4 a1 a2), .long (Ml_y q4 a1 a2), .long (Int32.toInt64 (Bg q4 a1)), .long (Int32.toInt64 (Ba q4 a1)), .ref 1012, .ref 1013, .ref 1014, .int m_curveMany, .ref 1015, .int m_cornerMany, .int m_straightAt, .ref 1016, .long m_fitUp, .long m_fitDown, .long m_worstUp, .long m_worstDown, .ref 1017, .int m_walkLink, .int m_walkAngle, .int m_walkBranch, .int m_walkMany, .ref 1018, .ref 1019, .int m_lined, .ref 1020, .int m_actMany], ia 64 (ax_tab 0), ia 64 (ax_tab 1), z3, ia 16 q4, z5, z6, z7, z8, z9, z10, z11, z12, z13, z14, z15, z16, z17, z18, z19, z20]))) := by
  refine ct_of ⟨by decide, rfl⟩ (Nat.le_of_ble_eq_true rfl) ?_
  refine ab_aload_n dX11_isLawful_0 rfl ?_
  refine ab_iload_n dX11_isLawful_1 rfl ?_
  refine ab_iload_n dX11_isLawful_2 rfl ?_
  refine ab_callV (As := [.int a1, .int a2]) (rest := []) dX11_isLawful_3 mv_X11_lays ml_X11_325 ⟨by decide, by decide, rfl, rfl, rfl⟩ (by decide) rfl rfl (Nat.le_of_ble_eq_true rfl) rfl (c_X11_lays h_i h_l h_k) ?_
  rintro r w' ⟨rfl, rfl⟩
  refine ab_aload_n dX11_isLawful_6 rfl ?_
  refine ab_getf dX11_isLawful_7 fl_X11_355 rfl rfl ?_
  refine ab_lconst (v := 0) dX11_isLawful_10 (by decide) ?_
  refine ab_lcmple 28 dX11_isLawful_11 dX11_isLawful_12 (by decide) (fun h_1 => ?_) (fun h_1 => ?_)
  · refine ab_iconst (v := 0) dX11_isLawful_28 (by decide) ?_
    exact ab_zret dX11_isLawful_29 rfl rfl (by decide) (Or.inr (⟨(by grind), rfl, rfl⟩))
  · refine ab_aload_n dX11_isLawful_15 rfl ?_
    refine ab_getf dX11_isLawful_16 fl_X11_321 rfl rfl ?_
    refine ab_lconst (v := 0) dX11_isLawful_19 (by decide) ?_
    refine ab_lcmplt 28 dX11_isLawful_20 dX11_isLawful_21 (by decide) (fun h_2 => ?_) (fun h_2 => ?_)
    · refine ab_iconst (v := 0) dX11_isLawful_28 (by decide) ?_
      exact ab_zret dX11_isLawful_29 rfl rfl (by decide) (Or.inr (⟨(by grind), rfl, rfl⟩))
    · refine ab_iconst (v := 1) dX11_isLawful_24 (by decide) ?_
      refine ab_goto 29 dX11_isLawful_25 (by decide) ?_
      exact ab_zret dX11_isLawful_29 rfl rfl (by decide) (Or.inl (⟨(by grind), rfl, rfl⟩))
theorem c_X11_bar {wc : List ax_E} {m_thrown m_trouble m_fault m_where m_taped m_linkMany m_tracerMany m_pointMany m_pairMany m_readLinks m_readTracers m_readPoints m_readPairs m_textLong m_at m_spot m_token m_whole m_readFault m_readPlace m_value m_curveMany m_cornerMany m_straightAt m_walkLink m_walkAngle m_walkBranch m_walkMany m_lined m_actMany a1 a2 : Int32} {m_n m_c m_d m_s m_e m_k m_x m_y m_g m_a m_fitUp m_fitDown m_worstUp m_worstDown : Int64} {z1 z2 z3 z5 z6 z7 z8 z9 z10 z11 z12 z13 z14 z15 z16 z17 z18 z19 z20 : ax_E} {q4 : Nat → Int32} (h_l : 0 ≤ m_linkMany ∧ m_linkMany ≤ nI 4) : Ct M_X11_bar [.ref 1000, .int a1, .int a2] (wc, [ob 9 [.int m_thrown, .int m_trouble, .int m_fault, .int m_where, .ref 1001, .ref 1002, .int 40, .ref 1003, .int m_taped, .int m_linkMany, .int m_tracerMany, .int m_pointMany, .int m_pairMany, .ref 1004, .ref 1005, .ref 1006, .ref 1007, .int m_readLinks, .int m_readTracers, .int m_readPoints, .int m_readPairs, .ref 1008, .ref 1009, .ref 1010, .ref 1011, .int m_textLong, .int m_at, .int m_spot, .int m_token, .int m_whole, .int m_readFault, .int m_readPlace, .int m_value, .long m_n, .long m_c, .long m_d, .long m_s, .long m_e, .long m_k, .long m_x, .long m_y, .long m_g, .long m_a, .ref 1012, .ref 1013, .ref 1014, .int m_curveMany, .ref 1015, .int m_cornerMany, .int m_straightAt, .ref 1016, .long m_fitUp, .long m_fitDown, .long m_worstUp, .long m_worstDown, .ref 1017, .int m_walkLink, .int m_walkAngle, .int m_walkBranch, .int m_walkMany, .ref 1018, .ref 1019, .int m_lined, .ref 1020, .int m_actMany], z1, z2, z3, ia 16 q4, z5, z6, z7, z8, z9, z10, z11, z12, z13, z14, z15, z16, z17, z18, z19, z20]) (fun r w' => ((0 ≤ a1 ∧ a1 < m_linkMany) ∧ (0 ≤ a2 ∧ a2 ≤ 3) ∧ r = some (.int (q4 (0 + Int32.toNatClampNeg a1 * 4 + Int32.toNatClampNeg a2))) ∧ w' = (wc, [ob 9 [.int 0, .int 0, .int m_fault, .int (-1), .ref 1001, .ref 1002, .int 40, .ref 1003, .int m_taped, .int m_linkMany, .int m_tracerMany, .int m_pointMany, .int m_pairMany, .ref 1004, .ref 1005, .ref 1006, .ref 1007, .int m_readLinks, .int m_readTracers, .int m_readPoints, .int m_readPairs, .ref 1008, .ref 1009, .ref 1010, .ref 1011, .int m_textLong, .int m_at, .int m_spot, .int m_token, .int m_whole, .int m_readFault, .int m_readPlace, .int m_value, .long m_n, .long m_c, .long m_d, .long m_s, .long m_e, .long m_k, .long m_x, .long m_y, .long m_g, .long m_a, .ref 1012, .ref 1013, .ref 1014, .int m_curveMany, .ref 1015, .int m_cornerMany, .int m_straightAt, .ref 1016, .long m_fitUp, .long m_fitDown, .long m_worstUp, .long m_worstDown, .ref 1017, .int m_walkLink, .int m_walkAngle, .int m_walkBranch, .int m_walkMany, .ref 1018, .ref 1019, .int m_lined, .ref 1020, .int m_actMany], z1, z2, z3, ia 16 q4, z5, z6, z7, z8, z9, z10, z11, z12, z13, z14, z15, z16, z17, z18, z19, z20])) ∨ ((0 ≤ a1 ∧ a1 < m_linkMany) ∧ (¬ (0 ≤ a2 ∧ a2 ≤ 3)) ∧ r = some (.int (-1)) ∧ w' = (wc, [ob 9 [.int 0, .int 1, .int m_fault, .int (-1), .ref 1001, .ref 1002, .int 40, .ref 1003, .int m_taped, .int m_linkMany, .int m_tracerMany, .int m_pointMany, .int m_pairMany, .ref 1004, .ref 1005, .ref 1006, .ref 1007, .int m_readLinks, .int m_readTracers, .int m_readPoints, .int m_readPairs, .ref 1008, .ref 1009, .ref 1010, .ref 1011, .int m_textLong, .int m_at, .int m_spot, .int m_token, .int m_whole, .int m_readFault, .int m_readPlace, .int m_value, .long m_n, .long m_c, .long m_d, .long m_s, .long m_e, .long m_k, .long m_x, .long m_y, .long m_g, .long m_a, .ref 1012, .ref 1013, .ref 1014, .int m_curveMany, .ref 1015, .int m_cornerMany, .int m_straightAt, .ref 1016, .long m_fitUp, .long m_fitDown, .long m_worstUp, .long m_worstDown, .ref 1017, .int m_walkLink, .int m_walkAngle, .int m_walkBranch, .int m_walkMany, .ref 1018, .ref 1019, .int m_lined, .ref 1020, .int m_actMany], z1, z2, z3, ia 16 q4, z5, z6, z7, z8, z9, z10, z11, z12, z13, z14, z15, z16, z17, z18, z19, z20])) ∨ ((¬ (0 ≤ a1 ∧ a1 < m_linkMany)) ∧ r = some (.int (-1)) ∧ w' = (wc, [ob 9 [.int 0, .int 1, .int m_fault, .int (-1), .ref 1001, .ref 1002, .int 40, .ref 1003, .int m_taped, .int m_linkMany, .int m_tracerMany, .int m_pointMany, .int m_pairMany, .ref 1004, .ref 1005, .ref 1006, .ref 1007, .int m_readLinks, .int m_readTracers, .int m_readPoints, .int m_readPairs, .ref 1008, .ref 1009, .ref 1010, .ref 1011, .int m_textLong, .int m_at, .int m_spot, .int m_token, .int m_whole, .int m_readFault, .int m_readPlace, .int m_value, .long m_n, .long m_c, .long m_d, .long m_s, .long m_e, .long m_k, .long m_x, .long m_y, .long m_g, .long m_a, .ref 1012, .ref 1013, .ref 1014, .int m_curveMany, .ref 1015, .int m_cornerMany, .int m_straightAt, .ref 1016, .long m_fitUp, .long m_fitDown, .long m_worstUp, .long m_worstDown, .ref 1017, .int m_walkLink, .int m_walkAngle, .int m_walkBranch, .int m_walkMany, .ref 1018, .ref 1019, .int m_lined, .ref 1020, .int m_actMany], z1, z2, z3, ia 16 q4, z5, z6, z7, z8, z9, z10, z11, z12, z13, z14, z15, z16, z17, z18, z19, z20]))) := by
  refine ct_of ⟨by decide, rfl⟩ (Nat.le_of_ble_eq_true rfl) ?_
  refine ab_aload_n dX11_bar_0 rfl ?_
  refine ab_callV (As := []) (rest := []) dX11_bar_1 mv_X11_anew ml_X11_104 ⟨by decide, by decide, rfl, rfl, rfl⟩ (by decide) rfl rfl (Nat.le_of_ble_eq_true rfl) rfl c_X11_anew ?_
  rintro r w' ⟨rfl, rfl⟩
  refine ab_aload_n dX11_bar_4 rfl ?_
  refine ab_iload_n dX11_bar_5 rfl ?_
  refine ab_callV (As := [.int a1]) (rest := []) dX11_bar_6 mv_X11_isLink ml_X11_265 ⟨by decide, by decide, rfl, rfl, rfl⟩ (by decide) rfl rfl (Nat.le_of_ble_eq_true rfl) rfl (c_X11_isLink h_l) ?_
  rintro r w' (⟨c_1, rfl, rfl⟩ | ⟨c_2, rfl, rfl⟩)
  · refine ab_ifeq 30 dX11_bar_9 (by decide) (fun h_3 => absurd h_3 (by decide)) (fun h_3 => ?_)
    refine ab_iload_n dX11_bar_12 rfl ?_
    refine ab_iconst (v := 0) dX11_bar_13 (by decide) ?_
    refine ab_iconst (v := 3) dX11_bar_14 (by decide) ?_
    refine ab_callS (As := [.int a2, .int 0, .int 3]) (rest := []) dX11_bar_15 ms_X11_in ml_X11_107 ⟨by decide, by decide, rfl, rfl, rfl⟩ (by decide) rfl rfl (Nat.le_of_ble_eq_true rfl) c_X11_in ?_
    rintro r w' (⟨c_4, rfl, rfl⟩ | ⟨c_5, rfl, rfl⟩)
    · refine ab_ifeq 30 dX11_bar_18 (by decide) (fun h_6 => absurd h_6 (by decide)) (fun h_6 => ?_)
      refine ab_aload_n dX11_bar_21 rfl ?_
      refine ab_iload_n dX11_bar_22 rfl ?_
      refine ab_iload_n dX11_bar_23 rfl ?_
      refine ab_callV (As := [.int a1, .int a2]) (rest := []) dX11_bar_24 mv_X11_barOf ml_X11_252 ⟨by decide, by decide, rfl, rfl, rfl⟩ (by decide) rfl rfl (Nat.le_of_ble_eq_true rfl) rfl (c_X11_barOf c_1 h_l (in_lt (d := 4) c_4 (by decide))) ?_
      rintro r w' ⟨rfl, rfl⟩
      refine ab_goto 35 dX11_bar_27 (by decide) ?_
      exact ab_iret dX11_bar_35 rfl (by decide) (Or.inl ⟨c_1, c_4, rfl, rfl⟩)
    · refine ab_ifeq 30 dX11_bar_18 (by decide) (fun h_7 => ?_) (fun h_7 => absurd (by decide) h_7)
      refine ab_aload_n dX11_bar_30 rfl ?_
      refine ab_iconst (v := 1) dX11_bar_31 (by decide) ?_
      refine ab_callV (As := [.int 1]) (rest := []) dX11_bar_32 mv_X11_no ml_X11_115 ⟨by decide, by decide, rfl, rfl, rfl⟩ (by decide) rfl rfl (Nat.le_of_ble_eq_true rfl) rfl c_X11_no ?_
      rintro r w' ⟨rfl, rfl⟩
      exact ab_iret dX11_bar_35 rfl (by decide) (Or.inr (Or.inl ⟨c_1, c_5, rfl, rfl⟩))
  · refine ab_ifeq 30 dX11_bar_9 (by decide) (fun h_8 => ?_) (fun h_8 => absurd (by decide) h_8)
    refine ab_aload_n dX11_bar_30 rfl ?_
    refine ab_iconst (v := 1) dX11_bar_31 (by decide) ?_
    refine ab_callV (As := [.int 1]) (rest := []) dX11_bar_32 mv_X11_no ml_X11_115 ⟨by decide, by decide, rfl, rfl, rfl⟩ (by decide) rfl rfl (Nat.le_of_ble_eq_true rfl) rfl c_X11_no ?_
    rintro r w' ⟨rfl, rfl⟩
    exact ab_iret dX11_bar_35 rfl (by decide) (Or.inr (Or.inr (⟨c_2, rfl, rfl⟩)))
theorem c_X11_sums {wc : List ax_E} {m_thrown m_trouble m_fault m_where m_taped m_linkMany m_tracerMany m_pointMany m_pairMany m_readLinks m_readTracers m_readPoints m_readPairs m_textLong m_at m_spot m_token m_whole m_readFault m_readPlace m_value m_curveMany m_cornerMany m_straightAt m_walkLink m_walkAngle m_walkBranch m_walkMany m_lined m_actMany a1 : Int32} {m_n m_c m_d m_s m_e m_k m_x m_y m_g m_a m_fitUp m_fitDown m_worstUp m_worstDown : Int64} {z1 z2 z3 z5 z6 z7 z8 z9 z10 z11 z12 z13 z14 z15 z16 z17 z18 z19 z20 : ax_E} {q4 : Nat → Int32} (h_l : 0 ≤ m_linkMany ∧ m_linkMany ≤ nI 4) : Ct M_X11_sums [.ref 1000, .int a1] (wc, [ob 9 [.int m_thrown, .int m_trouble, .int m_fault, .int m_where, .ref 1001, .ref 1002, .int 40, .ref 1003, .int m_taped, .int m_linkMany, .int m_tracerMany, .int m_pointMany, .int m_pairMany, .ref 1004, .ref 1005, .ref 1006, .ref 1007, .int m_readLinks, .int m_readTracers, .int m_readPoints, .int m_readPairs, .ref 1008, .ref 1009, .ref 1010, .ref 1011, .int m_textLong, .int m_at, .int m_spot, .int m_token, .int m_whole, .int m_readFault, .int m_readPlace, .int m_value, .long m_n, .long m_c, .long m_d, .long m_s, .long m_e, .long m_k, .long m_x, .long m_y, .long m_g, .long m_a, .ref 1012, .ref 1013, .ref 1014, .int m_curveMany, .ref 1015, .int m_cornerMany, .int m_straightAt, .ref 1016, .long m_fitUp, .long m_fitDown, .long m_worstUp, .long m_worstDown, .ref 1017, .int m_walkLink, .int m_walkAngle, .int m_walkBranch, .int m_walkMany, .ref 1018, .ref 1019, .int m_lined, .ref 1020, .int m_actMany], z1, z2, z3, ia 16 q4, z5, z6, z7, z8, z9, z10, z11, z12, z13, z14, z15, z16, z17, z18, z19, z20]) (fun r w' => ((0 ≤ a1 ∧ a1 < m_linkMany) ∧ r = some (.int (Mk_sums q4 a1)) ∧ w' = (wc, [ob 9 [.int 0, .int 0, .int m_fault, .int (-1), .ref 1001, .ref 1002, .int 40, .ref 1003, .int m_taped, .int m_linkMany, .int m_tracerMany, .int m_pointMany, .int m_pairMany, .ref 1004, .ref 1005, .ref 1006, .ref 1007, .int m_readLinks, .int m_readTracers, .int m_readPoints, .int m_readPairs, .ref 1008, .ref 1009, .ref 1010, .ref 1011, .int m_textLong, .int m_at, .int m_spot, .int m_token, .int m_whole, .int m_readFault, .int m_readPlace, .int m_value, .long m_n, .long m_c, .long m_d, .long m_s, .long m_e, .long m_k, .long m_x, .long m_y, .long m_g, .long m_a, .ref 1012, .ref 1013, .ref 1014, .int m_curveMany, .ref 1015, .int m_cornerMany, .int m_straightAt, .ref 1016, .long m_fitUp, .long m_fitDown, .long m_worstUp, .long m_worstDown, .ref 1017, .int m_walkLink, .int m_walkAngle, .int m_walkBranch, .int m_walkMany, .ref 1018, .ref 1019, .int m_lined, .ref 1020, .int m_actMany], z1, z2, z3, ia 16 q4, z5, z6, z7, z8, z9, z10, z11, z12, z13, z14, z15, z16, z17, z18, z19, z20])) ∨ ((¬ (0 ≤ a1 ∧ a1 < m_linkMany)) ∧ r = some (.int (-1000000000)) ∧ w' = (wc, [ob 9 [.int 0, .int 1, .int m_fault, .int (-1), .ref 1001, .ref 1002, .int 40, .ref 1003, .int m_taped, .int m_linkMany, .int m_tracerMany, .int m_pointMany, .int m_pairMany, .ref 1004, .ref 1005, .ref 1006, .ref 1007, .int m_readLinks, .int m_readTracers, .int m_readPoints, .int m_readPairs, .ref 1008, .ref 1009, .ref 1010, .ref 1011, .int m_textLong, .int m_at, .int m_spot, .int m_token, .int m_whole, .int m_readFault, .int m_readPlace, .int m_value, .long m_n, .long m_c, .long m_d, .long m_s, .long m_e, .long m_k, .long m_x, .long m_y, .long m_g, .long m_a, .ref 1012, .ref 1013, .ref 1014, .int m_curveMany, .ref 1015, .int m_cornerMany, .int m_straightAt, .ref 1016, .long m_fitUp, .long m_fitDown, .long m_worstUp, .long m_worstDown, .ref 1017, .int m_walkLink, .int m_walkAngle, .int m_walkBranch, .int m_walkMany, .ref 1018, .ref 1019, .int m_lined, .ref 1020, .int m_actMany], z1, z2, z3, ia 16 q4, z5, z6, z7, z8, z9, z10, z11, z12, z13, z14, z15, z16, z17, z18, z19, z20]))) := by
  refine ct_of ⟨by decide, rfl⟩ (Nat.le_of_ble_eq_true rfl) ?_
  refine ab_aload_n dX11_sums_0 rfl ?_
  refine ab_callV (As := []) (rest := []) dX11_sums_1 mv_X11_anew ml_X11_104 ⟨by decide, by decide, rfl, rfl, rfl⟩ (by decide) rfl rfl (Nat.le_of_ble_eq_true rfl) rfl c_X11_anew ?_
  rintro r w' ⟨rfl, rfl⟩
  refine ab_aload_n dX11_sums_4 rfl ?_
  refine ab_iload_n dX11_sums_5 rfl ?_
  refine ab_callV (As := [.int a1]) (rest := []) dX11_sums_6 mv_X11_isLink ml_X11_265 ⟨by decide, by decide, rfl, rfl, rfl⟩ (by decide) rfl rfl (Nat.le_of_ble_eq_true rfl) rfl (c_X11_isLink h_l) ?_
  rintro r w' (⟨c_1, rfl, rfl⟩ | ⟨c_2, rfl, rfl⟩)
  · refine ab_ifeq 20 dX11_sums_9 (by decide) (fun h_3 => absurd h_3 (by decide)) (fun h_3 => ?_)
    refine ab_aload_n dX11_sums_12 rfl ?_
    refine ab_iload_n dX11_sums_13 rfl ?_
    refine ab_callV (As := [.int a1]) (rest := []) dX11_sums_14 mv_X11_sumsOf ml_X11_268 ⟨by decide, by decide, rfl, rfl, rfl⟩ (by decide) rfl rfl (Nat.le_of_ble_eq_true rfl) rfl (c_X11_sumsOf c_1 h_l) ?_
    rintro r w' ⟨rfl, rfl⟩
    refine ab_goto 25 dX11_sums_17 (by decide) ?_
    exact ab_iret dX11_sums_25 rfl (by decide) (Or.inl ⟨c_1, rfl, rfl⟩)
  · refine ab_ifeq 20 dX11_sums_9 (by decide) (fun h_4 => ?_) (fun h_4 => absurd (by decide) h_4)
    refine ab_aload_n dX11_sums_20 rfl ?_
    refine ab_iconst (v := 1) dX11_sums_21 (by decide) ?_
    refine ab_callV (As := [.int 1]) (rest := []) dX11_sums_22 mv_X11_nothing ml_X11_111 ⟨by decide, by decide, rfl, rfl, rfl⟩ (by decide) rfl rfl (Nat.le_of_ble_eq_true rfl) rfl c_X11_nothing ?_
    rintro r w' ⟨rfl, rfl⟩
    exact ab_iret dX11_sums_25 rfl (by decide) (Or.inr (⟨c_2, rfl, rfl⟩))
theorem c_X11_kind {wc : List ax_E} {m_thrown m_trouble m_fault m_where m_taped m_linkMany m_tracerMany m_pointMany m_pairMany m_readLinks m_readTracers m_readPoints m_readPairs m_textLong m_at m_spot m_token m_whole m_readFault m_readPlace m_value m_curveMany m_cornerMany m_straightAt m_walkLink m_walkAngle m_walkBranch m_walkMany m_lined m_actMany a1 : Int32} {m_n m_c m_d m_s m_e m_k m_x m_y m_g m_a m_fitUp m_fitDown m_worstUp m_worstDown : Int64} {z1 z2 z3 z5 z6 z7 z8 z9 z10 z11 z12 z13 z14 z15 z16 z17 z18 z19 z20 : ax_E} {q4 : Nat → Int32} (h_l : 0 ≤ m_linkMany ∧ m_linkMany ≤ nI 4) : Ct M_X11_kind [.ref 1000, .int a1] (wc, [ob 9 [.int m_thrown, .int m_trouble, .int m_fault, .int m_where, .ref 1001, .ref 1002, .int 40, .ref 1003, .int m_taped, .int m_linkMany, .int m_tracerMany, .int m_pointMany, .int m_pairMany, .ref 1004, .ref 1005, .ref 1006, .ref 1007, .int m_readLinks, .int m_readTracers, .int m_readPoints, .int m_readPairs, .ref 1008, .ref 1009, .ref 1010, .ref 1011, .int m_textLong, .int m_at, .int m_spot, .int m_token, .int m_whole, .int m_readFault, .int m_readPlace, .int m_value, .long m_n, .long m_c, .long m_d, .long m_s, .long m_e, .long m_k, .long m_x, .long m_y, .long m_g, .long m_a, .ref 1012, .ref 1013, .ref 1014, .int m_curveMany, .ref 1015, .int m_cornerMany, .int m_straightAt, .ref 1016, .long m_fitUp, .long m_fitDown, .long m_worstUp, .long m_worstDown, .ref 1017, .int m_walkLink, .int m_walkAngle, .int m_walkBranch, .int m_walkMany, .ref 1018, .ref 1019, .int m_lined, .ref 1020, .int m_actMany], z1, z2, z3, ia 16 q4, z5, z6, z7, z8, z9, z10, z11, z12, z13, z14, z15, z16, z17, z18, z19, z20]) (fun r w' => ((0 ≤ a1 ∧ a1 < m_linkMany) ∧ (2 * Mk_max q4 a1 ≤ Mk_all q4 a1) ∧ (0 < (Mk_sums q4 a1)) ∧ ((Mk_least q4 a1) = 0) ∧ r = some (.int 1) ∧ w' = (wc, [ob 9 [.int 0, .int 0, .int m_fault, .int (-1), .ref 1001, .ref 1002, .int 40, .ref 1003, .int m_taped, .int m_linkMany, .int m_tracerMany, .int m_pointMany, .int m_pairMany, .ref 1004, .ref 1005, .ref 1006, .ref 1007, .int m_readLinks, .int m_readTracers, .int m_readPoints, .int m_readPairs, .ref 1008, .ref 1009, .ref 1010, .ref 1011, .int m_textLong, .int m_at, .int m_spot, .int m_token, .int m_whole, .int m_readFault, .int m_readPlace, .int m_value, .long m_n, .long m_c, .long m_d, .long m_s, .long m_e, .long m_k, .long m_x, .long m_y, .long m_g, .long m_a, .ref 1012, .ref 1013, .ref 1014, .int m_curveMany, .ref 1015, .int m_cornerMany, .int m_straightAt, .ref 1016, .long m_fitUp, .long m_fitDown, .long m_worstUp, .long m_worstDown, .ref 1017, .int m_walkLink, .int m_walkAngle, .int m_walkBranch, .int m_walkMany, .ref 1018, .ref 1019, .int m_lined, .ref 1020, .int m_actMany], z1, z2, z3, ia 16 q4, z5, z6, z7, z8, z9, z10, z11, z12, z13, z14, z15, z16, z17, z18, z19, z20])) ∨ ((0 ≤ a1 ∧ a1 < m_linkMany) ∧ (2 * Mk_max q4 a1 ≤ Mk_all q4 a1) ∧ (0 < (Mk_sums q4 a1)) ∧ ((Mk_least q4 a1) = 1) ∧ r = some (.int 0) ∧ w' = (wc, [ob 9 [.int 0, .int 0, .int m_fault, .int (-1), .ref 1001, .ref 1002, .int 40, .ref 1003, .int m_taped, .int m_linkMany, .int m_tracerMany, .int m_pointMany, .int m_pairMany, .ref 1004, .ref 1005, .ref 1006, .ref 1007, .int m_readLinks, .int m_readTracers, .int m_readPoints, .int m_readPairs, .ref 1008, .ref 1009, .ref 1010, .ref 1011, .int m_textLong, .int m_at, .int m_spot, .int m_token, .int m_whole, .int m_readFault, .int m_readPlace, .int m_value, .long m_n, .long m_c, .long m_d, .long m_s, .long m_e, .long m_k, .long m_x, .long m_y, .long m_g, .long m_a, .ref 1012, .ref 1013, .ref 1014, .int m_curveMany, .ref 1015, .int m_cornerMany, .int m_straightAt, .ref 1016, .long m_fitUp, .long m_fitDown, .long m_worstUp, .long m_worstDown, .ref 1017, .int m_walkLink, .int m_walkAngle, .int m_walkBranch, .int m_walkMany, .ref 1018, .ref 1019, .int m_lined, .ref 1020, .int m_actMany], z1, z2, z3, ia 16 q4, z5, z6, z7, z8, z9, z10, z11, z12, z13, z14, z15, z16, z17, z18, z19, z20])) ∨ ((0 ≤ a1 ∧ a1 < m_linkMany) ∧ (2 * Mk_max q4 a1 ≤ Mk_all q4 a1) ∧ (0 < (Mk_sums q4 a1)) ∧ ((Mk_least q4 a1) = 2) ∧ r = some (.int 2) ∧ w' = (wc, [ob 9 [.int 0, .int 0, .int m_fault, .int (-1), .ref 1001, .ref 1002, .int 40, .ref 1003, .int m_taped, .int m_linkMany, .int m_tracerMany, .int m_pointMany, .int m_pairMany, .ref 1004, .ref 1005, .ref 1006, .ref 1007, .int m_readLinks, .int m_readTracers, .int m_readPoints, .int m_readPairs, .ref 1008, .ref 1009, .ref 1010, .ref 1011, .int m_textLong, .int m_at, .int m_spot, .int m_token, .int m_whole, .int m_readFault, .int m_readPlace, .int m_value, .long m_n, .long m_c, .long m_d, .long m_s, .long m_e, .long m_k, .long m_x, .long m_y, .long m_g, .long m_a, .ref 1012, .ref 1013, .ref 1014, .int m_curveMany, .ref 1015, .int m_cornerMany, .int m_straightAt, .ref 1016, .long m_fitUp, .long m_fitDown, .long m_worstUp, .long m_worstDown, .ref 1017, .int m_walkLink, .int m_walkAngle, .int m_walkBranch, .int m_walkMany, .ref 1018, .ref 1019, .int m_lined, .ref 1020, .int m_actMany], z1, z2, z3, ia 16 q4, z5, z6, z7, z8, z9, z10, z11, z12, z13, z14, z15, z16, z17, z18, z19, z20])) ∨ ((0 ≤ a1 ∧ a1 < m_linkMany) ∧ (2 * Mk_max q4 a1 ≤ Mk_all q4 a1) ∧ (0 < (Mk_sums q4 a1)) ∧ (¬ (Mk_least q4 a1) = 0 ∧ ¬ (Mk_least q4 a1) = 1 ∧ ¬ (Mk_least q4 a1) = 2) ∧ r = some (.int 3) ∧ w' = (wc, [ob 9 [.int 0, .int 0, .int m_fault, .int (-1), .ref 1001, .ref 1002, .int 40, .ref 1003, .int m_taped, .int m_linkMany, .int m_tracerMany, .int m_pointMany, .int m_pairMany, .ref 1004, .ref 1005, .ref 1006, .ref 1007, .int m_readLinks, .int m_readTracers, .int m_readPoints, .int m_readPairs, .ref 1008, .ref 1009, .ref 1010, .ref 1011, .int m_textLong, .int m_at, .int m_spot, .int m_token, .int m_whole, .int m_readFault, .int m_readPlace, .int m_value, .long m_n, .long m_c, .long m_d, .long m_s, .long m_e, .long m_k, .long m_x, .long m_y, .long m_g, .long m_a, .ref 1012, .ref 1013, .ref 1014, .int m_curveMany, .ref 1015, .int m_cornerMany, .int m_straightAt, .ref 1016, .long m_fitUp, .long m_fitDown, .long m_worstUp, .long m_worstDown, .ref 1017, .int m_walkLink, .int m_walkAngle, .int m_walkBranch, .int m_walkMany, .ref 1018, .ref 1019, .int m_lined, .ref 1020, .int m_actMany], z1, z2, z3, ia 16 q4, z5, z6, z7, z8, z9, z10, z11, z12, z13, z14, z15, z16, z17, z18, z19, z20])) ∨ ((0 ≤ a1 ∧ a1 < m_linkMany) ∧ (2 * Mk_max q4 a1 ≤ Mk_all q4 a1) ∧ (¬ 0 < (Mk_sums q4 a1)) ∧ (¬ (Mk_sums q4 a1) = 0) ∧ r = some (.int 6) ∧ w' = (wc, [ob 9 [.int 0, .int 0, .int m_fault, .int (-1), .ref 1001, .ref 1002, .int 40, .ref 1003, .int m_taped, .int m_linkMany, .int m_tracerMany, .int m_pointMany, .int m_pairMany, .ref 1004, .ref 1005, .ref 1006, .ref 1007, .int m_readLinks, .int m_readTracers, .int m_readPoints, .int m_readPairs, .ref 1008, .ref 1009, .ref 1010, .ref 1011, .int m_textLong, .int m_at, .int m_spot, .int m_token, .int m_whole, .int m_readFault, .int m_readPlace, .int m_value, .long m_n, .long m_c, .long m_d, .long m_s, .long m_e, .long m_k, .long m_x, .long m_y, .long m_g, .long m_a, .ref 1012, .ref 1013, .ref 1014, .int m_curveMany, .ref 1015, .int m_cornerMany, .int m_straightAt, .ref 1016, .long m_fitUp, .long m_fitDown, .long m_worstUp, .long m_worstDown, .ref 1017, .int m_walkLink, .int m_walkAngle, .int m_walkBranch, .int m_walkMany, .ref 1018, .ref 1019, .int m_lined, .ref 1020, .int m_actMany], z1, z2, z3, ia 16 q4, z5, z6, z7, z8, z9, z10, z11, z12, z13, z14, z15, z16, z17, z18, z19, z20])) ∨ ((0 ≤ a1 ∧ a1 < m_linkMany) ∧ (2 * Mk_max q4 a1 ≤ Mk_all q4 a1) ∧ (¬ 0 < (Mk_sums q4 a1)) ∧ ((Mk_sums q4 a1) = 0) ∧ r = some (.int 4) ∧ w' = (wc, [ob 9 [.int 0, .int 0, .int m_fault, .int (-1), .ref 1001, .ref 1002, .int 40, .ref 1003, .int m_taped, .int m_linkMany, .int m_tracerMany, .int m_pointMany, .int m_pairMany, .ref 1004, .ref 1005, .ref 1006, .ref 1007, .int m_readLinks, .int m_readTracers, .int m_readPoints, .int m_readPairs, .ref 1008, .ref 1009, .ref 1010, .ref 1011, .int m_textLong, .int m_at, .int m_spot, .int m_token, .int m_whole, .int m_readFault, .int m_readPlace, .int m_value, .long m_n, .long m_c, .long m_d, .long m_s, .long m_e, .long m_k, .long m_x, .long m_y, .long m_g, .long m_a, .ref 1012, .ref 1013, .ref 1014, .int m_curveMany, .ref 1015, .int m_cornerMany, .int m_straightAt, .ref 1016, .long m_fitUp, .long m_fitDown, .long m_worstUp, .long m_worstDown, .ref 1017, .int m_walkLink, .int m_walkAngle, .int m_walkBranch, .int m_walkMany, .ref 1018, .ref 1019, .int m_lined, .ref 1020, .int m_actMany], z1, z2, z3, ia 16 q4, z5, z6, z7, z8, z9, z10, z11, z12, z13, z14, z15, z16, z17, z18, z19, z20])) ∨ ((0 ≤ a1 ∧ a1 < m_linkMany) ∧ (¬ (2 * Mk_max q4 a1 ≤ Mk_all q4 a1)) ∧ r = some (.int 5) ∧ w' = (wc, [ob 9 [.int 0, .int 0, .int m_fault, .int (-1), .ref 1001, .ref 1002, .int 40, .ref 1003, .int m_taped, .int m_linkMany, .int m_tracerMany, .int m_pointMany, .int m_pairMany, .ref 1004, .ref 1005, .ref 1006, .ref 1007, .int m_readLinks, .int m_readTracers, .int m_readPoints, .int m_readPairs, .ref 1008, .ref 1009, .ref 1010, .ref 1011, .int m_textLong, .int m_at, .int m_spot, .int m_token, .int m_whole, .int m_readFault, .int m_readPlace, .int m_value, .long m_n, .long m_c, .long m_d, .long m_s, .long m_e, .long m_k, .long m_x, .long m_y, .long m_g, .long m_a, .ref 1012, .ref 1013, .ref 1014, .int m_curveMany, .ref 1015, .int m_cornerMany, .int m_straightAt, .ref 1016, .long m_fitUp, .long m_fitDown, .long m_worstUp, .long m_worstDown, .ref 1017, .int m_walkLink, .int m_walkAngle, .int m_walkBranch, .int m_walkMany, .ref 1018, .ref 1019, .int m_lined, .ref 1020, .int m_actMany], z1, z2, z3, ia 16 q4, z5, z6, z7, z8, z9, z10, z11, z12, z13, z14, z15, z16, z17, z18, z19, z20])) ∨ ((¬ (0 ≤ a1 ∧ a1 < m_linkMany)) ∧ r = some (.int (-1)) ∧ w' = (wc, [ob 9 [.int 0, .int 1, .int m_fault, .int (-1), .ref 1001, .ref 1002, .int 40, .ref 1003, .int m_taped, .int m_linkMany, .int m_tracerMany, .int m_pointMany, .int m_pairMany, .ref 1004, .ref 1005, .ref 1006, .ref 1007, .int m_readLinks, .int m_readTracers, .int m_readPoints, .int m_readPairs, .ref 1008, .ref 1009, .ref 1010, .ref 1011, .int m_textLong, .int m_at, .int m_spot, .int m_token, .int m_whole, .int m_readFault, .int m_readPlace, .int m_value, .long m_n, .long m_c, .long m_d, .long m_s, .long m_e, .long m_k, .long m_x, .long m_y, .long m_g, .long m_a, .ref 1012, .ref 1013, .ref 1014, .int m_curveMany, .ref 1015, .int m_cornerMany, .int m_straightAt, .ref 1016, .long m_fitUp, .long m_fitDown, .long m_worstUp, .long m_worstDown, .ref 1017, .int m_walkLink, .int m_walkAngle, .int m_walkBranch, .int m_walkMany, .ref 1018, .ref 1019, .int m_lined, .ref 1020, .int m_actMany], z1, z2, z3, ia 16 q4, z5, z6, z7, z8, z9, z10, z11, z12, z13, z14, z15, z16, z17, z18, z19, z20]))) := by
  refine ct_of ⟨by decide, rfl⟩ (Nat.le_of_ble_eq_true rfl) ?_
  refine ab_aload_n dX11_kind_0 rfl ?_
  refine ab_callV (As := []) (rest := []) dX11_kind_1 mv_X11_anew ml_X11_104 ⟨by decide, by decide, rfl, rfl, rfl⟩ (by decide) rfl rfl (Nat.le_of_ble_eq_true rfl) rfl c_X11_anew ?_
  rintro r w' ⟨rfl, rfl⟩
  refine ab_aload_n dX11_kind_4 rfl ?_
  refine ab_iload_n dX11_kind_5 rfl ?_
  refine ab_callV (As := [.int a1]) (rest := []) dX11_kind_6 mv_X11_isLink ml_X11_265 ⟨by decide, by decide, rfl, rfl, rfl⟩ (by decide) rfl rfl (Nat.le_of_ble_eq_true rfl) rfl (c_X11_isLink h_l) ?_
  rintro r w' (⟨c_1, rfl, rfl⟩ | ⟨c_2, rfl, rfl⟩)
  · refine ab_ifne 18 dX11_kind_9 (by decide) (fun h_3 => ?_) (fun h_3 => absurd h_3 (by decide))
    refine ab_aload_n dX11_kind_18 rfl ?_
    refine ab_iload_n dX11_kind_19 rfl ?_
    refine ab_callV (As := [.int a1]) (rest := []) dX11_kind_20 mv_X11_isBuilt ml_X11_271 ⟨by decide, by decide, rfl, rfl, rfl⟩ (by decide) rfl rfl (Nat.le_of_ble_eq_true rfl) rfl (c_X11_isBuilt c_1 h_l) ?_
    rintro r w' (⟨c_4, rfl, rfl⟩ | ⟨c_5, rfl, rfl⟩)
    · refine ab_ifne 28 dX11_kind_23 (by decide) (fun h_6 => ?_) (fun h_6 => absurd h_6 (by decide))
      refine ab_aload_n dX11_kind_28 rfl ?_
      refine ab_iload_n dX11_kind_29 rfl ?_
      refine ab_callV (As := [.int a1]) (rest := []) dX11_kind_30 mv_X11_sumsOf ml_X11_268 ⟨by decide, by decide, rfl, rfl, rfl⟩ (by decide) rfl rfl (Nat.le_of_ble_eq_true rfl) rfl (c_X11_sumsOf c_1 h_l) ?_
      rintro r w' ⟨rfl, rfl⟩
      refine ab_ifgt 51 dX11_kind_33 (by decide) (fun h_7 => ?_) (fun h_7 => ?_)
      · refine ab_aload_n dX11_kind_51 rfl ?_
        refine ab_iload_n dX11_kind_52 rfl ?_
        refine ab_callV (As := [.int a1]) (rest := []) dX11_kind_53 mv_X11_leastOf ml_X11_262 ⟨by decide, by decide, rfl, rfl, rfl⟩ (by decide) rfl rfl (Nat.le_of_ble_eq_true rfl) rfl (c_X11_leastOf c_1 h_l) ?_
        rintro r w' ⟨rfl, rfl⟩
        rcases sw_0_2 (Mk_least q4 a1) with sw_8 | sw_8 | sw_8 | sw_8
        · refine ab_tabIn 86 dX11_kind_56 (by rw [sw_8]; decide) (by rw [sw_8]; decide) (by rw [sw_8]; rfl) (by decide) ?_
          refine ab_iconst (v := 1) dX11_kind_86 (by decide) ?_
          exact ab_iret dX11_kind_87 rfl (by decide) (Or.inl ⟨c_1, c_4, h_7, sw_8, rfl, rfl⟩)
        · refine ab_tabIn 84 dX11_kind_56 (by rw [sw_8]; decide) (by rw [sw_8]; decide) (by rw [sw_8]; rfl) (by decide) ?_
          refine ab_iconst (v := 0) dX11_kind_84 (by decide) ?_
          exact ab_iret dX11_kind_85 rfl (by decide) (Or.inr (Or.inl ⟨c_1, c_4, h_7, sw_8, rfl, rfl⟩))
        · refine ab_tabIn 88 dX11_kind_56 (by rw [sw_8]; decide) (by rw [sw_8]; decide) (by rw [sw_8]; rfl) (by decide) ?_
          refine ab_iconst (v := 2) dX11_kind_88 (by decide) ?_
          exact ab_iret dX11_kind_89 rfl (by decide) (Or.inr (Or.inr (Or.inl ⟨c_1, c_4, h_7, sw_8, rfl, rfl⟩)))
        · have sw_8n := sw_out0_2 sw_8
          refine ab_tabOut 90 dX11_kind_56 sw_8 (by decide) ?_
          refine ab_iconst (v := 3) dX11_kind_90 (by decide) ?_
          exact ab_iret dX11_kind_91 rfl (by decide) (Or.inr (Or.inr (Or.inr (Or.inl ⟨c_1, c_4, h_7, sw_8n, rfl, rfl⟩))))
      · refine ab_aload_n dX11_kind_36 rfl ?_
        refine ab_iload_n dX11_kind_37 rfl ?_
        refine ab_callV (As := [.int a1]) (rest := []) dX11_kind_38 mv_X11_sumsOf ml_X11_268 ⟨by decide, by decide, rfl, rfl, rfl⟩ (by decide) rfl rfl (Nat.le_of_ble_eq_true rfl) rfl (c_X11_sumsOf c_1 h_l) ?_
        rintro r w' ⟨rfl, rfl⟩
        refine ab_ifne 48 dX11_kind_41 (by decide) (fun h_9 => ?_) (fun h_9 => ?_)
        · refine ab_bipush (v := 6) dX11_kind_48 (by decide) ?_
          exact ab_iret dX11_kind_50 rfl (by decide) (Or.inr (Or.inr (Or.inr (Or.inr (Or.inl ⟨c_1, c_4, h_7, h_9, rfl, rfl⟩)))))
        · refine ab_iconst (v := 4) dX11_kind_44 (by decide) ?_
          refine ab_goto 50 dX11_kind_45 (by decide) ?_
          exact ab_iret dX11_kind_50 rfl (by decide) (Or.inr (Or.inr (Or.inr (Or.inr (Or.inr (Or.inl ⟨c_1, c_4, h_7, h_9, rfl, rfl⟩))))))
    · refine ab_ifne 28 dX11_kind_23 (by decide) (fun h_10 => absurd (by decide) h_10) (fun h_10 => ?_)
      refine ab_iconst (v := 5) dX11_kind_26 (by decide) ?_
      exact ab_iret dX11_kind_27 rfl (by decide) (Or.inr (Or.inr (Or.inr (Or.inr (Or.inr (Or.inr (Or.inl ⟨c_1, c_5, rfl, rfl⟩)))))))
  · refine ab_ifne 18 dX11_kind_9 (by decide) (fun h_11 => absurd (by decide) h_11) (fun h_11 => ?_)
    refine ab_aload_n dX11_kind_12 rfl ?_
    refine ab_iconst (v := 1) dX11_kind_13 (by decide) ?_
    refine ab_callV (As := [.int 1]) (rest := []) dX11_kind_14 mv_X11_no ml_X11_115 ⟨by decide, by decide, rfl, rfl, rfl⟩ (by decide) rfl rfl (Nat.le_of_ble_eq_true rfl) rfl c_X11_no ?_
    rintro r w' ⟨rfl, rfl⟩
    exact ab_iret dX11_kind_17 rfl (by decide) (Or.inr (Or.inr (Or.inr (Or.inr (Or.inr (Or.inr (Or.inr (⟨c_2, rfl, rfl⟩))))))))
