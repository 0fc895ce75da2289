/-- the square under a root, as a number; when it is one -/
def sqN (v k : Int64) : Nat := (v * v * k).toInt.toNat
abbrev okS (v k : Int64) : Prop := 0 ≤ (v * v * k).toInt ∧ (v * v * k).toInt < 2 ^ 62
theorem okS_eq {v k : Int64} (h : okS v k) : v * v * k = lN (sqN v k) := by
  apply Int64.toInt_inj.mp
  unfold sqN
  rw [pk_lT (by omega)]
  omega
theorem okS_lt {v k : Int64} (h : okS v k) : sqN v k < 2 ^ 62 := by unfold sqN; omega
theorem c_X9_floorOf2 {w : ax_W} {a1 a2 a3 a4 : Int64} (h_s : okS a2 a3) (h_w : 0 < a4) : Ct M_X9_floorOf [.long a1, .long a2, .long a3, .long a4] w (fun r w' => r = some (.long (FlC a1 a2 a4 (sqN a2 a3))) ∧ w' = w) := c_X9_floorOf (okS_eq h_s) (okS_lt h_s) h_w
/-- a number with a root is a whole one -/
abbrev IsW (a1 a2 a3 a4 : Int64) : Prop := lN (rt (sqN a2 a3)) * lN (rt (sqN a2 a3)) = lN (sqN a2 a3) ∧ (if 0 ≤ a2 then a1 + lN (rt (sqN a2 a3)) else a1 - lN (rt (sqN a2 a3))) = a4
theorem c_X9_isWhole2 {w : ax_W} {a1 a2 a3 a4 : Int64} (h_s : okS a2 a3) : Ct M_X9_isWhole [.long a1, .long a2, .long a3, .long a4] w (fun r w' => (IsW a1 a2 a3 a4 ∧ r = some (.int 1) ∧ w' = w) ∨ (¬ IsW a1 a2 a3 a4 ∧ r = some (.int 0) ∧ w' = w)) := c_X9_isWhole (okS_eq h_s) (okS_lt h_s)
theorem c_X5_tenthsX {x0 x1 x2 x3 x4 x5 x6 x7 x8 x9 x10 x12 x13 x14 x15 x16 x17 x18 x19 x20 x21 x22 x23 x24 x25 x26 x27 x28 x29 x30 x31 x32 : ax_E} {f11_0 f11_1 f11_2 f11_3 f11_4 f11_5 f11_6 f11_7 f11_8 f11_9 f11_10 f11_11 f11_12 f11_13 f11_14 f11_15 : Int64} {wm : List ax_E} (h_s : okS f11_13 f11_3) (h_w : 0 < 2 * f11_2 * f11_0) : Ct M_X5_tenthsX [.ref 11] ([x0, x1, x2, x3, x4, x5, x6, x7, x8, x9, x10, ob 5 [.long f11_0, .long f11_1, .long f11_2, .long f11_3, .long f11_4, .long f11_5, .long f11_6, .long f11_7, .long f11_8, .long f11_9, .long f11_10, .long f11_11, .long f11_12, .long f11_13, .long f11_14, .long f11_15], x12, x13, x14, x15, x16, x17, x18, x19, x20, x21, x22, x23, x24, x25, x26, x27, x28, x29, x30, x31, x32], wm) (fun r w' => r = some (.int (Int64.toInt32 (FlC f11_12 f11_13 ((2 * f11_2) * f11_0) (sqN f11_13 f11_3)))) ∧ w' = ([x0, x1, x2, x3, x4, x5, x6, x7, x8, x9, x10, ob 5 [.long f11_0, .long f11_1, .long f11_2, .long f11_3, .long f11_4, .long f11_5, .long f11_6, .long f11_7, .long f11_8, .long f11_9, .long f11_10, .long f11_11, .long f11_12, .long f11_13, .long f11_14, .long f11_15], x12, x13, x14, x15, x16, x17, x18, x19, x20, x21, x22, x23, x24, x25, x26, x27, x28, x29, x30, x31, x32], wm)) := by
  refine ct_of ⟨by decide, rfl⟩ (Nat.le_of_ble_eq_true rfl) ?_
  refine ab_aload_n dX5_tenthsX_0 rfl ?_
  refine ab_getf dX5_tenthsX_1 fl_X5_46 rfl rfl ?_
  refine ab_aload_n dX5_tenthsX_4 rfl ?_
  refine ab_getf dX5_tenthsX_5 fl_X5_49 rfl rfl ?_
  refine ab_aload_n dX5_tenthsX_8 rfl ?_
  refine ab_getf dX5_tenthsX_9 fl_X5_19 rfl rfl ?_
  refine ab_ldc2 dX5_tenthsX_12 kl_X5_87 ?_
  refine ab_aload_n dX5_tenthsX_15 rfl ?_
  refine ab_getf dX5_tenthsX_16 fl_X5_16 rfl rfl ?_
  refine ab_lmul dX5_tenthsX_19 ?_
  refine ab_aload_n dX5_tenthsX_20 rfl ?_
  refine ab_getf dX5_tenthsX_21 fl_X5_7 rfl rfl ?_
  refine ab_lmul dX5_tenthsX_24 ?_
  refine ab_callS (As := [.long f11_12, .long f11_13, .long f11_3, .long ((2 * f11_2) * f11_0)]) (rest := []) dX5_tenthsX_25 ms_X9_floorOf ml_X5_109 ⟨by decide, by decide, rfl, rfl, rfl⟩ (by decide) rfl rfl (Nat.le_of_ble_eq_true rfl) (c_X9_floorOf2 h_s (by assumption)) ?_
  rintro r w' ⟨rfl, rfl⟩
  refine ab_l2i dX5_tenthsX_28 ?_
  exact ab_iret dX5_tenthsX_29 rfl (by decide) (⟨rfl, rfl⟩)
theorem c_X5_tenthsY {x0 x1 x2 x3 x4 x5 x6 x7 x8 x9 x10 x12 x13 x14 x15 x16 x17 x18 x19 x20 x21 x22 x23 x24 x25 x26 x27 x28 x29 x30 x31 x32 : ax_E} {f11_0 f11_1 f11_2 f11_3 f11_4 f11_5 f11_6 f11_7 f11_8 f11_9 f11_10 f11_11 f11_12 f11_13 f11_14 f11_15 : Int64} {wm : List ax_E} (h_s : okS f11_15 f11_3) (h_w : 0 < 2 * f11_2 * f11_0) : Ct M_X5_tenthsY [.ref 11] ([x0, x1, x2, x3, x4, x5, x6, x7, x8, x9, x10, ob 5 [.long f11_0, .long f11_1, .long f11_2, .long f11_3, .long f11_4, .long f11_5, .long f11_6, .long f11_7, .long f11_8, .long f11_9, .long f11_10, .long f11_11, .long f11_12, .long f11_13, .long f11_14, .long f11_15], x12, x13, x14, x15, x16, x17, x18, x19, x20, x21, x22, x23, x24, x25, x26, x27, x28, x29, x30, x31, x32], wm) (fun r w' => r = some (.int (Int64.toInt32 (FlC f11_14 f11_15 ((2 * f11_2) * f11_0) (sqN f11_15 f11_3)))) ∧ w' = ([x0, x1, x2, x3, x4, x5, x6, x7, x8, x9, x10, ob 5 [.long f11_0, .long f11_1, .long f11_2, .long f11_3, .long f11_4, .long f11_5, .long f11_6, .long f11_7, .long f11_8, .long f11_9, .long f11_10, .long f11_11, .long f11_12, .long f11_13, .long f11_14, .long f11_15], x12, x13, x14, x15, x16, x17, x18, x19, x20, x21, x22, x23, x24, x25, x26, x27, x28, x29, x30, x31, x32], wm)) := by
  refine ct_of ⟨by decide, rfl⟩ (Nat.le_of_ble_eq_true rfl) ?_
  refine ab_aload_n dX5_tenthsY_0 rfl ?_
  refine ab_getf dX5_tenthsY_1 fl_X5_52 rfl rfl ?_
  refine ab_aload_n dX5_tenthsY_4 rfl ?_
  refine ab_getf dX5_tenthsY_5 fl_X5_55 rfl rfl ?_
  refine ab_aload_n dX5_tenthsY_8 rfl ?_
  refine ab_getf dX5_tenthsY_9 fl_X5_19 rfl rfl ?_
  refine ab_ldc2 dX5_tenthsY_12 kl_X5_87 ?_
  refine ab_aload_n dX5_tenthsY_15 rfl ?_
  refine ab_getf dX5_tenthsY_16 fl_X5_16 rfl rfl ?_
  refine ab_lmul dX5_tenthsY_19 ?_
  refine ab_aload_n dX5_tenthsY_20 rfl ?_
  refine ab_getf dX5_tenthsY_21 fl_X5_7 rfl rfl ?_
  refine ab_lmul dX5_tenthsY_24 ?_
  refine ab_callS (As := [.long f11_14, .long f11_15, .long f11_3, .long ((2 * f11_2) * f11_0)]) (rest := []) dX5_tenthsY_25 ms_X9_floorOf ml_X5_109 ⟨by decide, by decide, rfl, rfl, rfl⟩ (by decide) rfl rfl (Nat.le_of_ble_eq_true rfl) (c_X9_floorOf2 h_s (by assumption)) ?_
  rintro r w' ⟨rfl, rfl⟩
  refine ab_l2i dX5_tenthsY_28 ?_
  exact ab_iret dX5_tenthsY_29 rfl (by decide) (⟨rfl, rfl⟩)
theorem c_X5_isExactlyAt {x0 x1 x2 x3 x4 x5 x6 x7 x8 x9 x10 x12 x13 x14 x15 x16 x17 x18 x19 x20 x21 x22 x23 x24 x25 x26 x27 x28 x29 x30 x31 x32 : ax_E} {f11_0 f11_1 f11_2 f11_3 f11_4 f11_5 f11_6 f11_7 f11_8 f11_9 f11_10 f11_11 f11_12 f11_13 f11_14 f11_15 : Int64} {wm : List ax_E} {a1 a2 : Int32} (h_s : okS f11_13 f11_3) (h_t : okS f11_15 f11_3) : Ct M_X5_isExactlyAt [.ref 11, .int a1, .int a2] ([x0, x1, x2, x3, x4, x5, x6, x7, x8, x9, x10, ob 5 [.long f11_0, .long f11_1, .long f11_2, .long f11_3, .long f11_4, .long f11_5, .long f11_6, .long f11_7, .long f11_8, .long f11_9, .long f11_10, .long f11_11, .long f11_12, .long f11_13, .long f11_14, .long f11_15], x12, x13, x14, x15, x16, x17, x18, x19, x20, x21, x22, x23, x24, x25, x26, x27, x28, x29, x30, x31, x32], wm) (fun r w' => ((IsW f11_12 f11_13 f11_3 (2 * f11_2 * f11_0 * Int32.toInt64 a1) ∧ IsW f11_14 f11_15 f11_3 (2 * f11_2 * f11_0 * Int32.toInt64 a2)) ∧ r = some (.int 1) ∧ w' = ([x0, x1, x2, x3, x4, x5, x6, x7, x8, x9, x10, ob 5 [.long f11_0, .long f11_1, .long f11_2, .long f11_3, .long f11_4, .long f11_5, .long f11_6, .long f11_7, .long f11_8, .long f11_9, .long f11_10, .long f11_11, .long f11_12, .long f11_13, .long f11_14, .long f11_15], x12, x13, x14, x15, x16, x17, x18, x19, x20, x21, x22, x23, x24, x25, x26, x27, x28, x29, x30, x31, x32], wm)) ∨ ((¬ (IsW f11_12 f11_13 f11_3 (2 * f11_2 * f11_0 * Int32.toInt64 a1) ∧ IsW f11_14 f11_15 f11_3 (2 * f11_2 * f11_0 * Int32.toInt64 a2))) ∧ r = some (.int 0) ∧ w' = ([x0, x1, x2, x3, x4, x5, x6, x7, x8, x9, x10, ob 5 [.long f11_0, .long f11_1, .long f11_2, .long f11_3, .long f11_4, .long f11_5, .long f11_6, .long f11_7, .long f11_8, .long f11_9, .long f11_10, .long f11_11, .long f11_12, .long f11_13, .long f11_14, .long f11_15], x12, x13, x14, x15, x16, x17, x18, x19, x20, x21, x22, x23, x24, x25, x26, x27, x28, x29, x30, x31, x32], wm))) := by
  refine ct_of ⟨by decide, rfl⟩ (Nat.le_of_ble_eq_true rfl) ?_
  refine ab_ldc2 dX5_isExactlyAt_0 kl_X5_87 ?_
  refine ab_aload_n dX5_isExactlyAt_3 rfl ?_
  refine ab_getf dX5_isExactlyAt_4 fl_X5_16 rfl rfl ?_
  refine ab_lmul dX5_isExactlyAt_7 ?_
  refine ab_aload_n dX5_isExactlyAt_8 rfl ?_
  refine ab_getf dX5_isExactlyAt_9 fl_X5_7 rfl rfl ?_
  refine ab_lmul dX5_isExactlyAt_12 ?_
  refine ab_lstore_n (la' := [(3, .long ((2 * f11_2) * f11_0)), (0, .ref 11), (1, .int a1), (2, .int a2)]) dX5_isExactlyAt_13 (by decide) rfl ?_
  refine ab_aload_n dX5_isExactlyAt_14 rfl ?_
  refine ab_getf dX5_isExactlyAt_15 fl_X5_46 rfl rfl ?_
  refine ab_aload_n dX5_isExactlyAt_18 rfl ?_
  refine ab_getf dX5_isExactlyAt_19 fl_X5_49 rfl rfl ?_
  refine ab_aload_n dX5_isExactlyAt_22 rfl ?_
  refine ab_getf dX5_isExactlyAt_23 fl_X5_19 rfl rfl ?_
  refine ab_lload_n dX5_isExactlyAt_26 rfl ?_
  refine ab_iload_n dX5_isExactlyAt_27 rfl ?_
  refine ab_i2l dX5_isExactlyAt_28 ?_
  refine ab_lmul dX5_isExactlyAt_29 ?_
  refine ab_callS (As := [.long f11_12, .long f11_13, .long f11_3, .long (((2 * f11_2) * f11_0) * (Int32.toInt64 a1))]) (rest := []) dX5_isExactlyAt_30 ms_X9_isWhole ml_X5_113 ⟨by decide, by decide, rfl, rfl, rfl⟩ (by decide) rfl rfl (Nat.le_of_ble_eq_true rfl) (c_X9_isWhole2 h_s) ?_
  rintro r w' (⟨c_1, rfl, rfl⟩ | ⟨c_2, rfl, rfl⟩)
  · refine ab_ifeq 62 dX5_isExactlyAt_33 (by decide) (fun h_3 => absurd h_3 (by decide)) (fun h_3 => ?_)
    refine ab_aload_n dX5_isExactlyAt_36 rfl ?_
    refine ab_getf dX5_isExactlyAt_37 fl_X5_52 rfl rfl ?_
    refine ab_aload_n dX5_isExactlyAt_40 rfl ?_
    refine ab_getf dX5_isExactlyAt_41 fl_X5_55 rfl rfl ?_
    refine ab_aload_n dX5_isExactlyAt_44 rfl ?_
    refine ab_getf dX5_isExactlyAt_45 fl_X5_19 rfl rfl ?_
    refine ab_lload_n dX5_isExactlyAt_48 rfl ?_
    refine ab_iload_n dX5_isExactlyAt_49 rfl ?_
    refine ab_i2l dX5_isExactlyAt_50 ?_
    refine ab_lmul dX5_isExactlyAt_51 ?_
    refine ab_callS (As := [.long f11_14, .long f11_15, .long f11_3, .long (((2 * f11_2) * f11_0) * (Int32.toInt64 a2))]) (rest := []) dX5_isExactlyAt_52 ms_X9_isWhole ml_X5_113 ⟨by decide, by decide, rfl, rfl, rfl⟩ (by decide) rfl rfl (Nat.le_of_ble_eq_true rfl) (c_X9_isWhole2 h_t) ?_
    rintro r w' (⟨c_4, rfl, rfl⟩ | ⟨c_5, rfl, rfl⟩)
    · refine ab_ifeq 62 dX5_isExactlyAt_55 (by decide) (fun h_6 => absurd h_6 (by decide)) (fun h_6 => ?_)
      refine ab_iconst (v := 1) dX5_isExactlyAt_58 (by decide) ?_
      refine ab_goto 63 dX5_isExactlyAt_59 (by decide) ?_
      exact ab_zret dX5_isExactlyAt_63 rfl rfl (by decide) (Or.inl (⟨(by grind), rfl, rfl⟩))
    · refine ab_ifeq 62 dX5_isExactlyAt_55 (by decide) (fun h_7 => ?_) (fun h_7 => absurd (by decide) h_7)
      refine ab_iconst (v := 0) dX5_isExactlyAt_62 (by decide) ?_
      exact ab_zret dX5_isExactlyAt_63 rfl rfl (by decide) (Or.inr (⟨(by grind), rfl, rfl⟩))
  · refine ab_ifeq 62 dX5_isExactlyAt_33 (by decide) (fun h_8 => ?_) (fun h_8 => absurd (by decide) h_8)
    refine ab_iconst (v := 0) dX5_isExactlyAt_62 (by decide) ?_
    exact ab_zret dX5_isExactlyAt_63 rfl rfl (by decide) (Or.inr (⟨(by grind), rfl, rfl⟩))
theorem c_X11_floorOf2 {wc : List ax_E} {m_thrown m_trouble m_fault m_where m_taped m_linkMany m_tracerMany m_pointMany m_pairMany m_readLinks m_readTracers m_readPoints m_readPairs m_textLong m_at m_spot m_token m_whole m_readFault m_readPlace m_value m_curveMany m_cornerMany m_straightAt m_walkLink m_walkAngle m_walkBranch m_walkMany m_lined m_actMany : Int32} {m_n m_c m_d m_s m_e m_k m_x m_y m_g m_a m_fitUp m_fitDown m_worstUp m_worstDown a1 a2 a3 : Int64} {z1 z2 z3 z4 z5 z6 z7 z8 z9 z10 z11 z12 z13 z14 z15 z16 z17 z18 z19 z20 : ax_E} (h_s : okS a2 m_k) (h_w : 0 < a3) : Ct M_X11_floorOf [.ref 1000, .long a1, .long a2, .long a3] (wc, [ob 9 [.int m_thrown, .int m_trouble, .int m_fault, .int m_where, .ref 1001, .ref 1002, .int 40, .ref 1003, .int m_taped, .int m_linkMany, .int m_tracerMany, .int m_pointMany, .int m_pairMany, .ref 1004, .ref 1005, .ref 1006, .ref 1007, .int m_readLinks, .int m_readTracers, .int m_readPoints, .int m_readPairs, .ref 1008, .ref 1009, .ref 1010, .ref 1011, .int m_textLong, .int m_at, .int m_spot, .int m_token, .int m_whole, .int m_readFault, .int m_readPlace, .int m_value, .long m_n, .long m_c, .long m_d, .long m_s, .long m_e, .long m_k, .long m_x, .long m_y, .long m_g, .long m_a, .ref 1012, .ref 1013, .ref 1014, .int m_curveMany, .ref 1015, .int m_cornerMany, .int m_straightAt, .ref 1016, .long m_fitUp, .long m_fitDown, .long m_worstUp, .long m_worstDown, .ref 1017, .int m_walkLink, .int m_walkAngle, .int m_walkBranch, .int m_walkMany, .ref 1018, .ref 1019, .int m_lined, .ref 1020, .int m_actMany], z1, z2, z3, z4, z5, z6, z7, z8, z9, z10, z11, z12, z13, z14, z15, z16, z17, z18, z19, z20]) (fun r w' => r = some (.long (FlM a1 a2 a3 (sqN a2 m_k))) ∧ w' = (wc, [ob 9 [.int m_thrown, .int m_trouble, .int m_fault, .int m_where, .ref 1001, .ref 1002, .int 40, .ref 1003, .int m_taped, .int m_linkMany, .int m_tracerMany, .int m_pointMany, .int m_pairMany, .ref 1004, .ref 1005, .ref 1006, .ref 1007, .int m_readLinks, .int m_readTracers, .int m_readPoints, .int m_readPairs, .ref 1008, .ref 1009, .ref 1010, .ref 1011, .int m_textLong, .int m_at, .int m_spot, .int m_token, .int m_whole, .int m_readFault, .int m_readPlace, .int m_value, .long m_n, .long m_c, .long m_d, .long m_s, .long m_e, .long m_k, .long m_x, .long m_y, .long m_g, .long m_a, .ref 1012, .ref 1013, .ref 1014, .int m_curveMany, .ref 1015, .int m_cornerMany, .int m_straightAt, .ref 1016, .long m_fitUp, .long m_fitDown, .long m_worstUp, .long m_worstDown, .ref 1017, .int m_walkLink, .int m_walkAngle, .int m_walkBranch, .int m_walkMany, .ref 1018, .ref 1019, .int m_lined, .ref 1020, .int m_actMany], z1, z2, z3, z4, z5, z6, z7, z8, z9, z10, z11, z12, z13, z14, z15, z16, z17, z18, z19, z20])) := c_X11_floorOf (okS_eq h_s) (okS_lt h_s) h_w
theorem ix_t0 {i m : Int32} (hi : 0 ≤ i ∧ i < m) (hm : m ≤ nI 4) : ax_ix (2 * i) 8 (0 + i.toNatClampNeg * 2 + 0) := by
  have h := ix_ml (W := 2) (c := 4) (N := 8) hi hm (show 0 ≤ (0 : Int32) ∧ (0 : Int32) < nI 2 by decide) (by decide) (by decide) (by decide) (by decide)
  rw [Int32.add_zero] at h
  exact h
/-- a tracer's numbers out of a desk's -/
def Tm (q : Nat → Int32) (i : Int32) : Int32 := q (0 + Int32.toNatClampNeg i * 2 + 0)
def Tn (q : Nat → Int32) (i : Int32) : Int32 := q (0 + Int32.toNatClampNeg i * 2 + 1)
def Mt_u0 (m_c : Int64) (m_s : Int64) (m_e : Int64) (m_x : Int64) (m_y : Int64) (m_a : Int64) (q5 : Nat → Int32) (a1 : Int32) : Int64 := (((((20 * m_a) * m_c) * m_s) + (((Int32.toInt64 (q5 (0 + Int32.toNatClampNeg a1 * 2 + 0))) * m_e) * m_x)) - (((Int32.toInt64 (q5 (0 + Int32.toNatClampNeg a1 * 2 + 1))) * m_e) * m_y))
theorem c_X11_tracedU_0 {wc : List ax_E} {m_thrown m_trouble m_fault m_where m_taped m_linkMany m_tracerMany m_pointMany m_pairMany m_readLinks m_readTracers m_readPoints m_readPairs m_textLong m_at m_spot m_token m_whole m_readFault m_readPlace m_value m_curveMany m_cornerMany m_straightAt m_walkLink m_walkAngle m_walkBranch m_walkMany m_lined m_actMany a1 : Int32} {m_n m_c m_d m_s m_e m_k m_x m_y m_g m_a m_fitUp m_fitDown m_worstUp m_worstDown : Int64} {z1 z2 z3 z4 z6 z7 z8 z9 z10 z11 z12 z13 z14 z15 z16 z17 z18 z19 z20 : ax_E} {q5 : Nat → Int32} (h_i : 0 ≤ a1 ∧ a1 < m_tracerMany) (h_t : 0 ≤ m_tracerMany ∧ m_tracerMany ≤ nI 4) : Ct M_X11_tracedU [.ref 1000, .int a1, .int 0] (wc, [ob 9 [.int m_thrown, .int m_trouble, .int m_fault, .int m_where, .ref 1001, .ref 1002, .int 40, .ref 1003, .int m_taped, .int m_linkMany, .int m_tracerMany, .int m_pointMany, .int m_pairMany, .ref 1004, .ref 1005, .ref 1006, .ref 1007, .int m_readLinks, .int m_readTracers, .int m_readPoints, .int m_readPairs, .ref 1008, .ref 1009, .ref 1010, .ref 1011, .int m_textLong, .int m_at, .int m_spot, .int m_token, .int m_whole, .int m_readFault, .int m_readPlace, .int m_value, .long m_n, .long m_c, .long m_d, .long m_s, .long m_e, .long m_k, .long m_x, .long m_y, .long m_g, .long m_a, .ref 1012, .ref 1013, .ref 1014, .int m_curveMany, .ref 1015, .int m_cornerMany, .int m_straightAt, .ref 1016, .long m_fitUp, .long m_fitDown, .long m_worstUp, .long m_worstDown, .ref 1017, .int m_walkLink, .int m_walkAngle, .int m_walkBranch, .int m_walkMany, .ref 1018, .ref 1019, .int m_lined, .ref 1020, .int m_actMany], z1, z2, z3, z4, ia 8 q5, z6, z7, z8, z9, z10, z11, z12, z13, z14, z15, z16, z17, z18, z19, z20]) (fun r w' => r = some (.long (Mt_u0 m_c m_s m_e m_x m_y m_a q5 a1)) ∧ w' = (wc, [ob 9 [.int m_thrown, .int m_trouble, .int m_fault, .int m_where, .ref 1001, .ref 1002, .int 40, .ref 1003, .int m_taped, .int m_linkMany, .int m_tracerMany, .int m_pointMany, .int m_pairMany, .ref 1004, .ref 1005, .ref 1006, .ref 1007, .int m_readLinks, .int m_readTracers, .int m_readPoints, .int m_readPairs, .ref 1008, .ref 1009, .ref 1010, .ref 1011, .int m_textLong, .int m_at, .int m_spot, .int m_token, .int m_whole, .int m_readFault, .int m_readPlace, .int m_value, .long m_n, .long m_c, .long m_d, .long m_s, .long m_e, .long m_k, .long m_x, .long m_y, .long m_g, .long m_a, .ref 1012, .ref 1013, .ref 1014, .int m_curveMany, .ref 1015, .int m_cornerMany, .int m_straightAt, .ref 1016, .long m_fitUp, .long m_fitDown, .long m_worstUp, .long m_worstDown, .ref 1017, .int m_walkLink, .int m_walkAngle, .int m_walkBranch, .int m_walkMany, .ref 1018, .ref 1019, .int m_lined, .ref 1020, .int m_actMany], z1, z2, z3, z4, ia 8 q5, z6, z7, z8, z9, z10, z11, z12, z13, z14, z15, z16, z17, z18, z19, z20])) := by
  refine ct_of ⟨by decide, rfl⟩ (Nat.le_of_ble_eq_true rfl) ?_
  refine ab_aload_n dX11_tracedU_0 rfl ?_
  refine ab_getf dX11_tracedU_1 fl_X11_45 rfl rfl ?_
  refine ab_iconst (v := 2) dX11_tracedU_4 (by decide) ?_
  refine ab_iload_n dX11_tracedU_5 rfl ?_
  refine ab_imul dX11_tracedU_6 ?_
  refine ab_iald (j := (0 + Int32.toNatClampNeg a1 * 2 + 0)) dX11_tracedU_7 rfl (ix_t0 h_i h_t.2) ?_
  refine ab_i2l dX11_tracedU_8 ?_
  refine ab_lstore_n (la' := [(3, .long (Int32.toInt64 (q5 (0 + Int32.toNatClampNeg a1 * 2 + 0)))), (0, .ref 1000), (1, .int a1), (2, .int 0)]) dX11_tracedU_9 (by decide) rfl ?_
  refine ab_aload_n dX11_tracedU_10 rfl ?_
  refine ab_getf dX11_tracedU_11 fl_X11_45 rfl rfl ?_
  refine ab_iconst (v := 2) dX11_tracedU_14 (by decide) ?_
  refine ab_iload_n dX11_tracedU_15 rfl ?_
  refine ab_imul dX11_tracedU_16 ?_
  refine ab_iconst (v := 1) dX11_tracedU_17 (by decide) ?_
  refine ab_iadd dX11_tracedU_18 ?_
  refine ab_iald (j := (0 + Int32.toNatClampNeg a1 * 2 + 1)) dX11_tracedU_19 rfl (ix_ml (W := 2) (c := 4) h_i h_t.2 (show 0 ≤ (1 : Int32) ∧ (1 : Int32) < nI 2 by decide) (by decide) (by decide) (by decide) (by decide)) ?_
  refine ab_i2l dX11_tracedU_20 ?_
  refine ab_lstore (la' := [(5, .long (Int32.toInt64 (q5 (0 + Int32.toNatClampNeg a1 * 2 + 1)))), (3, .long (Int32.toInt64 (q5 (0 + Int32.toNatClampNeg a1 * 2 + 0)))), (0, .ref 1000), (1, .int a1), (2, .int 0)]) dX11_tracedU_21 (by decide) rfl ?_
  refine ab_iload_n dX11_tracedU_23 rfl ?_
  refine ab_ifne 73 dX11_tracedU_24 (by decide) (fun h_1 => absurd (by decide) h_1) (fun h_1 => ?_)
  refine ab_ldc2 dX11_tracedU_27 kl_X11_408 ?_
  refine ab_aload_n dX11_tracedU_30 rfl ?_
  refine ab_getf dX11_tracedU_31 fl_X11_349 rfl rfl ?_
  refine ab_lmul dX11_tracedU_34 ?_
  refine ab_aload_n dX11_tracedU_35 rfl ?_
  refine ab_getf dX11_tracedU_36 fl_X11_331 rfl rfl ?_
  refine ab_lmul dX11_tracedU_39 ?_
  refine ab_aload_n dX11_tracedU_40 rfl ?_
  refine ab_getf dX11_tracedU_41 fl_X11_355 rfl rfl ?_
  refine ab_lmul dX11_tracedU_44 ?_
  refine ab_lload_n dX11_tracedU_45 rfl ?_
  refine ab_aload_n dX11_tracedU_46 rfl ?_
  refine ab_getf dX11_tracedU_47 fl_X11_358 rfl rfl ?_
  refine ab_lmul dX11_tracedU_50 ?_
  refine ab_aload_n dX11_tracedU_51 rfl ?_
  refine ab_getf dX11_tracedU_52 fl_X11_363 rfl rfl ?_
  refine ab_lmul dX11_tracedU_55 ?_
  refine ab_ladd dX11_tracedU_56 ?_
  refine ab_lload dX11_tracedU_57 rfl ?_
  refine ab_aload_n dX11_tracedU_59 rfl ?_
  refine ab_getf dX11_tracedU_60 fl_X11_358 rfl rfl ?_
  refine ab_lmul dX11_tracedU_63 ?_
  refine ab_aload_n dX11_tracedU_64 rfl ?_
  refine ab_getf dX11_tracedU_65 fl_X11_366 rfl rfl ?_
  refine ab_lmul dX11_tracedU_68 ?_
  refine ab_lsub dX11_tracedU_69 ?_
  refine ab_goto 116 dX11_tracedU_70 (by decide) ?_
  exact ab_lret dX11_tracedU_116 rfl (by decide) (⟨rfl, rfl⟩)
def Mt_v0 (m_x : Int64) (m_y : Int64) (q5 : Nat → Int32) (a1 : Int32) (a2 : Int32) : Int64 := (Tnd (((-(Int32.toInt64 (q5 (0 + Int32.toNatClampNeg a1 * 2 + 0)))) * m_y) - ((Int32.toInt64 (q5 (0 + Int32.toNatClampNeg a1 * 2 + 1))) * m_x)) a2)
theorem c_X11_tracedV_0 {wc : List ax_E} {m_thrown m_trouble m_fault m_where m_taped m_linkMany m_tracerMany m_pointMany m_pairMany m_readLinks m_readTracers m_readPoints m_readPairs m_textLong m_at m_spot m_token m_whole m_readFault m_readPlace m_value m_curveMany m_cornerMany m_straightAt m_walkLink m_walkAngle m_walkBranch m_walkMany m_lined m_actMany a1 a2 : Int32} {m_n m_c m_d m_s m_e m_k m_x m_y m_g m_a m_fitUp m_fitDown m_worstUp m_worstDown : Int64} {z1 z2 z3 z4 z6 z7 z8 z9 z10 z11 z12 z13 z14 z15 z16 z17 z18 z19 z20 : ax_E} {q5 : Nat → Int32} (h_i : 0 ≤ a1 ∧ a1 < m_tracerMany) (h_t : 0 ≤ m_tracerMany ∧ m_tracerMany ≤ nI 4) : Ct M_X11_tracedV [.ref 1000, .int a1, .int a2, .int 0] (wc, [ob 9 [.int m_thrown, .int m_trouble, .int m_fault, .int m_where, .ref 1001, .ref 1002, .int 40, .ref 1003, .int m_taped, .int m_linkMany, .int m_tracerMany, .int m_pointMany, .int m_pairMany, .ref 1004, .ref 1005, .ref 1006, .ref 1007, .int m_readLinks, .int m_readTracers, .int m_readPoints, .int m_readPairs, .ref 1008, .ref 1009, .ref 1010, .ref 1011, .int m_textLong, .int m_at, .int m_spot, .int m_token, .int m_whole, .int m_readFault, .int m_readPlace, .int m_value, .long m_n, .long m_c, .long m_d, .long m_s, .long m_e, .long m_k, .long m_x, .long m_y, .long m_g, .long m_a, .ref 1012, .ref 1013, .ref 1014, .int m_curveMany, .ref 1015, .int m_cornerMany, .int m_straightAt, .ref 1016, .long m_fitUp, .long m_fitDown, .long m_worstUp, .long m_worstDown, .ref 1017, .int m_walkLink, .int m_walkAngle, .int m_walkBranch, .int m_walkMany, .ref 1018, .ref 1019, .int m_lined, .ref 1020, .int m_actMany], z1, z2, z3, z4, ia 8 q5, z6, z7, z8, z9, z10, z11, z12, z13, z14, z15, z16, z17, z18, z19, z20]) (fun r w' => r = some (.long (Mt_v0 m_x m_y q5 a1 a2)) ∧ w' = (wc, [ob 9 [.int m_thrown, .int m_trouble, .int m_fault, .int m_where, .ref 1001, .ref 1002, .int 40, .ref 1003, .int m_taped, .int m_linkMany, .int m_tracerMany, .int m_pointMany, .int m_pairMany, .ref 1004, .ref 1005, .ref 1006, .ref 1007, .int m_readLinks, .int m_readTracers, .int m_readPoints, .int m_readPairs, .ref 1008, .ref 1009, .ref 1010, .ref 1011, .int m_textLong, .int m_at, .int m_spot, .int m_token, .int m_whole, .int m_readFault, .int m_readPlace, .int m_value, .long m_n, .long m_c, .long m_d, .long m_s, .long m_e, .long m_k, .long m_x, .long m_y, .long m_g, .long m_a, .ref 1012, .ref 1013, .ref 1014, .int m_curveMany, .ref 1015, .int m_cornerMany, .int m_straightAt, .ref 1016, .long m_fitUp, .long m_fitDown, .long m_worstUp, .long m_worstDown, .ref 1017, .int m_walkLink, .int m_walkAngle, .int m_walkBranch, .int m_walkMany, .ref 1018, .ref 1019, .int m_lined, .ref 1020, .int m_actMany], z1, z2, z3, z4, ia 8 q5, z6, z7, z8, z9, z10, z11, z12, z13, z14, z15, z16, z17, z18, z19, z20])) := by
  refine ct_of ⟨by decide, rfl⟩ (Nat.le_of_ble_eq_true rfl) ?_
  refine ab_aload_n dX11_tracedV_0 rfl ?_
  refine ab_getf dX11_tracedV_1 fl_X11_45 rfl rfl ?_
  refine ab_iconst (v := 2) dX11_tracedV_4 (by decide) ?_
  refine ab_iload_n dX11_tracedV_5 rfl ?_
  refine ab_imul dX11_tracedV_6 ?_
  refine ab_iald (j := (0 + Int32.toNatClampNeg a1 * 2 + 0)) dX11_tracedV_7 rfl (ix_t0 h_i h_t.2) ?_
  refine ab_i2l dX11_tracedV_8 ?_
  refine ab_lstore (la' := [(4, .long (Int32.toInt64 (q5 (0 + Int32.toNatClampNeg a1 * 2 + 0)))), (0, .ref 1000), (1, .int a1), (2, .int a2), (3, .int 0)]) dX11_tracedV_9 (by decide) rfl ?_
  refine ab_aload_n dX11_tracedV_11 rfl ?_
  refine ab_getf dX11_tracedV_12 fl_X11_45 rfl rfl ?_
  refine ab_iconst (v := 2) dX11_tracedV_15 (by decide) ?_
  refine ab_iload_n dX11_tracedV_16 rfl ?_
  refine ab_imul dX11_tracedV_17 ?_
  refine ab_iconst (v := 1) dX11_tracedV_18 (by decide) ?_
  refine ab_iadd dX11_tracedV_19 ?_
  refine ab_iald (j := (0 + Int32.toNatClampNeg a1 * 2 + 1)) dX11_tracedV_20 rfl (ix_ml (W := 2) (c := 4) h_i h_t.2 (show 0 ≤ (1 : Int32) ∧ (1 : Int32) < nI 2 by decide) (by decide) (by decide) (by decide) (by decide)) ?_
  refine ab_i2l dX11_tracedV_21 ?_
  refine ab_lstore (la' := [(6, .long (Int32.toInt64 (q5 (0 + Int32.toNatClampNeg a1 * 2 + 1)))), (4, .long (Int32.toInt64 (q5 (0 + Int32.toNatClampNeg a1 * 2 + 0)))), (0, .ref 1000), (1, .int a1), (2, .int a2), (3, .int 0)]) dX11_tracedV_22 (by decide) rfl ?_
  refine ab_iload_n dX11_tracedV_24 rfl ?_
  refine ab_ifne 47 dX11_tracedV_25 (by decide) (fun h_1 => absurd (by decide) h_1) (fun h_1 => ?_)
  refine ab_lload dX11_tracedV_28 rfl ?_
  refine ab_lneg dX11_tracedV_30 ?_
  refine ab_aload_n dX11_tracedV_31 rfl ?_
  refine ab_getf dX11_tracedV_32 fl_X11_366 rfl rfl ?_
  refine ab_lmul dX11_tracedV_35 ?_
  refine ab_lload dX11_tracedV_36 rfl ?_
  refine ab_aload_n dX11_tracedV_38 rfl ?_
  refine ab_getf dX11_tracedV_39 fl_X11_363 rfl rfl ?_
  refine ab_lmul dX11_tracedV_42 ?_
  refine ab_lsub dX11_tracedV_43 ?_
  refine ab_goto 62 dX11_tracedV_44 (by decide) ?_
  refine ab_iload_n dX11_tracedV_62 rfl ?_
  refine ab_callS (As := [.long (((-(Int32.toInt64 (q5 (0 + Int32.toNatClampNeg a1 * 2 + 0)))) * m_y) - ((Int32.toInt64 (q5 (0 + Int32.toNatClampNeg a1 * 2 + 1))) * m_x)), .int a2]) (rest := []) dX11_tracedV_63 ms_X11_turned ml_X11_377 ⟨by decide, by decide, rfl, rfl, rfl⟩ (by decide) rfl rfl (Nat.le_of_ble_eq_true rfl) c_X11_turned_t ?_
  rintro r w' ⟨rfl, rfl⟩
  exact ab_lret dX11_tracedV_66 rfl (by decide) (⟨rfl, rfl⟩)
theorem c_X11_tracedAt_0 {wc : List ax_E} {m_thrown m_trouble m_fault m_where m_taped m_linkMany m_tracerMany m_pointMany m_pairMany m_readLinks m_readTracers m_readPoints m_readPairs m_textLong m_at m_spot m_token m_whole m_readFault m_readPlace m_value m_curveMany m_cornerMany m_straightAt m_walkLink m_walkAngle m_walkBranch m_walkMany m_lined m_actMany a1 a2 : Int32} {m_n m_c m_d m_s m_e m_k m_x m_y m_g m_a m_fitUp m_fitDown m_worstUp m_worstDown : Int64} {z1 z2 z3 z4 z6 z7 z8 z9 z10 z11 z12 z13 z14 z15 z16 z17 z18 z19 z20 : ax_E} {q5 : Nat → Int32} (h_i : 0 ≤ a1 ∧ a1 < m_tracerMany) (h_t : 0 ≤ m_tracerMany ∧ m_tracerMany ≤ nI 4) (h_q2 : okS (Mt_v0 m_x m_y q5 a1 a2) m_k) (h_q3 : 0 < ((2 * m_s) * m_n)) : Ct M_X11_tracedAt [.ref 1000, .int a1, .int a2, .int 0] (wc, [ob 9 [.int m_thrown, .int m_trouble, .int m_fault, .int m_where, .ref 1001, .ref 1002, .int 40, .ref 1003, .int m_taped, .int m_linkMany, .int m_tracerMany, .int m_pointMany, .int m_pairMany, .ref 1004, .ref 1005, .ref 1006, .ref 1007, .int m_readLinks, .int m_readTracers, .int m_readPoints, .int m_readPairs, .ref 1008, .ref 1009, .ref 1010, .ref 1011, .int m_textLong, .int m_at, .int m_spot, .int m_token, .int m_whole, .int m_readFault, .int m_readPlace, .int m_value, .long m_n, .long m_c, .long m_d, .long m_s, .long m_e, .long m_k, .long m_x, .long m_y, .long m_g, .long m_a, .ref 1012, .ref 1013, .ref 1014, .int m_curveMany, .ref 1015, .int m_cornerMany, .int m_straightAt, .ref 1016, .long m_fitUp, .long m_fitDown, .long m_worstUp, .long m_worstDown, .ref 1017, .int m_walkLink, .int m_walkAngle, .int m_walkBranch, .int m_walkMany, .ref 1018, .ref 1019, .int m_lined, .ref 1020, .int m_actMany], z1, z2, z3, z4, ia 8 q5, z6, z7, z8, z9, z10, z11, z12, z13, z14, z15, z16, z17, z18, z19, z20]) (fun r w' => r = some (.int (Int64.toInt32 (FlM (Mt_u0 m_c m_s m_e m_x m_y m_a q5 a1) (Mt_v0 m_x m_y q5 a1 a2) ((2 * m_s) * m_n) (sqN (Mt_v0 m_x m_y q5 a1 a2) m_k)))) ∧ w' = (wc, [ob 9 [.int m_thrown, .int m_trouble, .int m_fault, .int m_where, .ref 1001, .ref 1002, .int 40, .ref 1003, .int m_taped, .int m_linkMany, .int m_tracerMany, .int m_pointMany, .int m_pairMany, .ref 1004, .ref 1005, .ref 1006, .ref 1007, .int m_readLinks, .int m_readTracers, .int m_readPoints, .int m_readPairs, .ref 1008, .ref 1009, .ref 1010, .ref 1011, .int m_textLong, .int m_at, .int m_spot, .int m_token, .int m_whole, .int m_readFault, .int m_readPlace, .int m_value, .long m_n, .long m_c, .long m_d, .long m_s, .long m_e, .long m_k, .long m_x, .long m_y, .long m_g, .long m_a, .ref 1012, .ref 1013, .ref 1014, .int m_curveMany, .ref 1015, .int m_cornerMany, .int m_straightAt, .ref 1016, .long m_fitUp, .long m_fitDown, .long m_worstUp, .long m_worstDown, .ref 1017, .int m_walkLink, .int m_walkAngle, .int m_walkBranch, .int m_walkMany, .ref 1018, .ref 1019, .int m_lined, .ref 1020, .int m_actMany], z1, z2, z3, z4, ia 8 q5, z6, z7, z8, z9, z10, z11, z12, z13, z14, z15, z16, z17, z18, z19, z20])) := by
  refine ct_of ⟨by decide, rfl⟩ (Nat.le_of_ble_eq_true rfl) ?_
  refine ab_aload_n dX11_tracedAt_0 rfl ?_
  refine ab_aload_n dX11_tracedAt_1 rfl ?_
  refine ab_iload_n dX11_tracedAt_2 rfl ?_
  refine ab_iload_n dX11_tracedAt_3 rfl ?_
  refine ab_callV (As := [.int a1, .int 0]) (rest := [.ref 1000]) dX11_tracedAt_4 mv_X11_tracedU ml_X11_410 ⟨by decide, by decide, rfl, rfl, rfl⟩ (by decide) rfl rfl (Nat.le_of_ble_eq_true rfl) rfl (c_X11_tracedU_0 h_i h_t) ?_
  rintro r w' ⟨rfl, rfl⟩
  refine ab_aload_n dX11_tracedAt_7 rfl ?_
  refine ab_iload_n dX11_tracedAt_8 rfl ?_
  refine ab_iload_n dX11_tracedAt_9 rfl ?_
  refine ab_iload_n dX11_tracedAt_10 rfl ?_
  refine ab_callV (As := [.int a1, .int a2, .int 0]) (rest := [.long (Mt_u0 m_c m_s m_e m_x m_y m_a q5 a1), .ref 1000]) dX11_tracedAt_11 mv_X11_tracedV ml_X11_413 ⟨by decide, by decide, rfl, rfl, rfl⟩ (by decide) rfl rfl (Nat.le_of_ble_eq_true rfl) rfl (c_X11_tracedV_0 h_i h_t) ?_
  rintro r w' ⟨rfl, rfl⟩
  refine ab_ldc2 dX11_tracedAt_14 kl_X11_344 ?_
  refine ab_aload_n dX11_tracedAt_17 rfl ?_
  refine ab_getf dX11_tracedAt_18 fl_X11_355 rfl rfl ?_
  refine ab_lmul dX11_tracedAt_21 ?_
  refine ab_aload_n dX11_tracedAt_22 rfl ?_
  refine ab_getf dX11_tracedAt_23 fl_X11_328 rfl rfl ?_
  refine ab_lmul dX11_tracedAt_26 ?_
  refine ab_callV (As := [.long (Mt_u0 m_c m_s m_e m_x m_y m_a q5 a1), .long (Mt_v0 m_x m_y q5 a1 a2), .long ((2 * m_s) * m_n)]) (rest := []) dX11_tracedAt_27 mv_X11_floorOf ml_X11_393 ⟨by decide, by decide, rfl, rfl, rfl⟩ (by decide) rfl rfl (Nat.le_of_ble_eq_true rfl) rfl (c_X11_floorOf2 (h_q2) (h_q3)) ?_
  rintro r w' ⟨rfl, rfl⟩
  refine ab_l2i dX11_tracedAt_30 ?_
  exact ab_iret dX11_tracedAt_31 rfl (by decide) (⟨rfl, rfl⟩)
def Mt_u1 (m_d : Int64) (m_s : Int64) (m_e : Int64) (m_x : Int64) (m_y : Int64) (m_a : Int64) (q5 : Nat → Int32) (a1 : Int32) : Int64 := (((((20 * m_a) * m_d) * m_s) + (((Int32.toInt64 (q5 (0 + Int32.toNatClampNeg a1 * 2 + 0))) * m_e) * m_y)) + (((Int32.toInt64 (q5 (0 + Int32.toNatClampNeg a1 * 2 + 1))) * m_e) * m_x))
theorem c_X11_tracedU_1 {wc : List ax_E} {m_thrown m_trouble m_fault m_where m_taped m_linkMany m_tracerMany m_pointMany m_pairMany m_readLinks m_readTracers m_readPoints m_readPairs m_textLong m_at m_spot m_token m_whole m_readFault m_readPlace m_value m_curveMany m_cornerMany m_straightAt m_walkLink m_walkAngle m_walkBranch m_walkMany m_lined m_actMany a1 : Int32} {m_n m_c m_d m_s m_e m_k m_x m_y m_g m_a m_fitUp m_fitDown m_worstUp m_worstDown : Int64} {z1 z2 z3 z4 z6 z7 z8 z9 z10 z11 z12 z13 z14 z15 z16 z17 z18 z19 z20 : ax_E} {q5 : Nat → Int32} (h_i : 0 ≤ a1 ∧ a1 < m_tracerMany) (h_t : 0 ≤ m_tracerMany ∧ m_tracerMany ≤ nI 4) : Ct M_X11_tracedU [.ref 1000, .int a1, .int 1] (wc, [ob 9 [.int m_thrown, .int m_trouble, .int m_fault, .int m_where, .ref 1001, .ref 1002, .int 40, .ref 1003, .int m_taped, .int m_linkMany, .int m_tracerMany, .int m_pointMany, .int m_pairMany, .ref 1004, .ref 1005, .ref 1006, .ref 1007, .int m_readLinks, .int m_readTracers, .int m_readPoints, .int m_readPairs, .ref 1008, .ref 1009, .ref 1010, .ref 1011, .int m_textLong, .int m_at, .int m_spot, .int m_token, .int m_whole, .int m_readFault, .int m_readPlace, .int m_value, .long m_n, .long m_c, .long m_d, .long m_s, .long m_e, .long m_k, .long m_x, .long m_y, .long m_g, .long m_a, .ref 1012, .ref 1013, .ref 1014, .int m_curveMany, .ref 1015, .int m_cornerMany, .int m_straightAt, .ref 1016, .long m_fitUp, .long m_fitDown, .long m_worstUp, .long m_worstDown, .ref 1017, .int m_walkLink, .int m_walkAngle, .int m_walkBranch, .int m_walkMany, .ref 1018, .ref 1019, .int m_lined, .ref 1020, .int m_actMany], z1, z2, z3, z4, ia 8 q5, z6, z7, z8, z9, z10, z11, z12, z13, z14, z15, z16, z17, z18, z19, z20]) (fun r w' => r = some (.long (Mt_u1 m_d m_s m_e m_x m_y m_a q5 a1)) ∧ w' = (wc, [ob 9 [.int m_thrown, .int m_trouble, .int m_fault, .int m_where, .ref 1001, .ref 1002, .int 40, .ref 1003, .int m_taped, .int m_linkMany, .int m_tracerMany, .int m_pointMany, .int m_pairMany, .ref 1004, .ref 1005, .ref 1006, .ref 1007, .int m_readLinks, .int m_readTracers, .int m_readPoints, .int m_readPairs, .ref 1008, .ref 1009, .ref 1010, .ref 1011, .int m_textLong, .int m_at, .int m_spot, .int m_token, .int m_whole, .int m_readFault, .int m_readPlace, .int m_value, .long m_n, .long m_c, .long m_d, .long m_s, .long m_e, .long m_k, .long m_x, .long m_y, .long m_g, .long m_a, .ref 1012, .ref 1013, .ref 1014, .int m_curveMany, .ref 1015, .int m_cornerMany, .int m_straightAt, .ref 1016, .long m_fitUp, .long m_fitDown, .long m_worstUp, .long m_worstDown, .ref 1017, .int m_walkLink, .int m_walkAngle, .int m_walkBranch, .int m_walkMany, .ref 1018, .ref 1019, .int m_lined, .ref 1020, .int m_actMany], z1, z2, z3, z4, ia 8 q5, z6, z7, z8, z9, z10, z11, z12, z13, z14, z15, z16, z17, z18, z19, z20])) := by
  refine ct_of ⟨by decide, rfl⟩ (Nat.le_of_ble_eq_true rfl) ?_
  refine ab_aload_n dX11_tracedU_0 rfl ?_
  refine ab_getf dX11_tracedU_1 fl_X11_45 rfl rfl ?_
  refine ab_iconst (v := 2) dX11_tracedU_4 (by decide) ?_
  refine ab_iload_n dX11_tracedU_5 rfl ?_
  refine ab_imul dX11_tracedU_6 ?_
  refine ab_iald (j := (0 + Int32.toNatClampNeg a1 * 2 + 0)) dX11_tracedU_7 rfl (ix_t0 h_i h_t.2) ?_
  refine ab_i2l dX11_tracedU_8 ?_
  refine ab_lstore_n (la' := [(3, .long (Int32.toInt64 (q5 (0 + Int32.toNatClampNeg a1 * 2 + 0)))), (0, .ref 1000), (1, .int a1), (2, .int 1)]) dX11_tracedU_9 (by decide) rfl ?_
  refine ab_aload_n dX11_tracedU_10 rfl ?_
  refine ab_getf dX11_tracedU_11 fl_X11_45 rfl rfl ?_
  refine ab_iconst (v := 2) dX11_tracedU_14 (by decide) ?_
  refine ab_iload_n dX11_tracedU_15 rfl ?_
  refine ab_imul dX11_tracedU_16 ?_
  refine ab_iconst (v := 1) dX11_tracedU_17 (by decide) ?_
  refine ab_iadd dX11_tracedU_18 ?_
  refine ab_iald (j := (0 + Int32.toNatClampNeg a1 * 2 + 1)) dX11_tracedU_19 rfl (ix_ml (W := 2) (c := 4) h_i h_t.2 (show 0 ≤ (1 : Int32) ∧ (1 : Int32) < nI 2 by decide) (by decide) (by decide) (by decide) (by decide)) ?_
  refine ab_i2l dX11_tracedU_20 ?_
  refine ab_lstore (la' := [(5, .long (Int32.toInt64 (q5 (0 + Int32.toNatClampNeg a1 * 2 + 1)))), (3, .long (Int32.toInt64 (q5 (0 + Int32.toNatClampNeg a1 * 2 + 0)))), (0, .ref 1000), (1, .int a1), (2, .int 1)]) dX11_tracedU_21 (by decide) rfl ?_
  refine ab_iload_n dX11_tracedU_23 rfl ?_
  refine ab_ifne 73 dX11_tracedU_24 (by decide) (fun h_1 => ?_) (fun h_1 => absurd h_1 (by decide))
  refine ab_ldc2 dX11_tracedU_73 kl_X11_408 ?_
  refine ab_aload_n dX11_tracedU_76 rfl ?_
  refine ab_getf dX11_tracedU_77 fl_X11_349 rfl rfl ?_
  refine ab_lmul dX11_tracedU_80 ?_
  refine ab_aload_n dX11_tracedU_81 rfl ?_
  refine ab_getf dX11_tracedU_82 fl_X11_352 rfl rfl ?_
  refine ab_lmul dX11_tracedU_85 ?_
  refine ab_aload_n dX11_tracedU_86 rfl ?_
  refine ab_getf dX11_tracedU_87 fl_X11_355 rfl rfl ?_
  refine ab_lmul dX11_tracedU_90 ?_
  refine ab_lload_n dX11_tracedU_91 rfl ?_
  refine ab_aload_n dX11_tracedU_92 rfl ?_
  refine ab_getf dX11_tracedU_93 fl_X11_358 rfl rfl ?_
  refine ab_lmul dX11_tracedU_96 ?_
  refine ab_aload_n dX11_tracedU_97 rfl ?_
  refine ab_getf dX11_tracedU_98 fl_X11_366 rfl rfl ?_
  refine ab_lmul dX11_tracedU_101 ?_
  refine ab_ladd dX11_tracedU_102 ?_
  refine ab_lload dX11_tracedU_103 rfl ?_
  refine ab_aload_n dX11_tracedU_105 rfl ?_
  refine ab_getf dX11_tracedU_106 fl_X11_358 rfl rfl ?_
  refine ab_lmul dX11_tracedU_109 ?_
  refine ab_aload_n dX11_tracedU_110 rfl ?_
  refine ab_getf dX11_tracedU_111 fl_X11_363 rfl rfl ?_
  refine ab_lmul dX11_tracedU_114 ?_
  refine ab_ladd dX11_tracedU_115 ?_
  exact ab_lret dX11_tracedU_116 rfl (by decide) (⟨rfl, rfl⟩)
def Mt_v1 (m_x : Int64) (m_y : Int64) (q5 : Nat → Int32) (a1 : Int32) (a2 : Int32) : Int64 := (Tnd (((Int32.toInt64 (q5 (0 + Int32.toNatClampNeg a1 * 2 + 0))) * m_x) - ((Int32.toInt64 (q5 (0 + Int32.toNatClampNeg a1 * 2 + 1))) * m_y)) a2)
theorem c_X11_tracedV_1 {wc : List ax_E} {m_thrown m_trouble m_fault m_where m_taped m_linkMany m_tracerMany m_pointMany m_pairMany m_readLinks m_readTracers m_readPoints m_readPairs m_textLong m_at m_spot m_token m_whole m_readFault m_readPlace m_value m_curveMany m_cornerMany m_straightAt m_walkLink m_walkAngle m_walkBranch m_walkMany m_lined m_actMany a1 a2 : Int32} {m_n m_c m_d m_s m_e m_k m_x m_y m_g m_a m_fitUp m_fitDown m_worstUp m_worstDown : Int64} {z1 z2 z3 z4 z6 z7 z8 z9 z10 z11 z12 z13 z14 z15 z16 z17 z18 z19 z20 : ax_E} {q5 : Nat → Int32} (h_i : 0 ≤ a1 ∧ a1 < m_tracerMany) (h_t : 0 ≤ m_tracerMany ∧ m_tracerMany ≤ nI 4) : Ct M_X11_tracedV [.ref 1000, .int a1, .int a2, .int 1] (wc, [ob 9 [.int m_thrown, .int m_trouble, .int m_fault, .int m_where, .ref 1001, .ref 1002, .int 40, .ref 1003, .int m_taped, .int m_linkMany, .int m_tracerMany, .int m_pointMany, .int m_pairMany, .ref 1004, .ref 1005, .ref 1006, .ref 1007, .int m_readLinks, .int m_readTracers, .int m_readPoints, .int m_readPairs, .ref 1008, .ref 1009, .ref 1010, .ref 1011, .int m_textLong, .int m_at, .int m_spot, .int m_token, .int m_whole, .int m_readFault, .int m_readPlace, .int m_value, .long m_n, .long m_c, .long m_d, .long m_s, .long m_e, .long m_k, .long m_x, .long m_y, .long m_g, .long m_a, .ref 1012, .ref 1013, .ref 1014, .int m_curveMany, .ref 1015, .int m_cornerMany, .int m_straightAt, .ref 1016, .long m_fitUp, .long m_fitDown, .long m_worstUp, .long m_worstDown, .ref 1017, .int m_walkLink, .int m_walkAngle, .int m_walkBranch, .int m_walkMany, .ref 1018, .ref 1019, .int m_lined, .ref 1020, .int m_actMany], z1, z2, z3, z4, ia 8 q5, z6, z7, z8, z9, z10, z11, z12, z13, z14, z15, z16, z17, z18, z19, z20]) (fun r w' => r = some (.long (Mt_v1 m_x m_y q5 a1 a2)) ∧ w' = (wc, [ob 9 [.int m_thrown, .int m_trouble, .int m_fault, .int m_where, .ref 1001, .ref 1002, .int 40, .ref 1003, .int m_taped, .int m_linkMany, .int m_tracerMany, .int m_pointMany, .int m_pairMany, .ref 1004, .ref 1005, .ref 1006, .ref 1007, .int m_readLinks, .int m_readTracers, .int m_readPoints, .int m_readPairs, .ref 1008, .ref 1009, .ref 1010, .ref 1011, .int m_textLong, .int m_at, .int m_spot, .int m_token, .int m_whole, .int m_readFault, .int m_readPlace, .int m_value, .long m_n, .long m_c, .long m_d, .long m_s, .long m_e, .long m_k, .long m_x, .long m_y, .long m_g, .long m_a, .ref 1012, .ref 1013, .ref 1014, .int m_curveMany, .ref 1015, .int m_cornerMany, .int m_straightAt, .ref 1016, .long m_fitUp, .long m_fitDown, .long m_worstUp, .long m_worstDown, .ref 1017, .int m_walkLink, .int m_walkAngle, .int m_walkBranch, .int m_walkMany, .ref 1018, .ref 1019, .int m_lined, .ref 1020, .int m_actMany], z1, z2, z3, z4, ia 8 q5, z6, z7, z8, z9, z10, z11, z12, z13, z14, z15, z16, z17, z18, z19, z20])) := by
  refine ct_of ⟨by decide, rfl⟩ (Nat.le_of_ble_eq_true rfl) ?_
  refine ab_aload_n dX11_tracedV_0 rfl ?_
  refine ab_getf dX11_tracedV_1 fl_X11_45 rfl rfl ?_
  refine ab_iconst (v := 2) dX11_tracedV_4 (by decide) ?_
  refine ab_iload_n dX11_tracedV_5 rfl ?_
  refine ab_imul dX11_tracedV_6 ?_
  refine ab_iald (j := (0 + Int32.toNatClampNeg a1 * 2 + 0)) dX11_tracedV_7 rfl (ix_t0 h_i h_t.2) ?_
  refine ab_i2l dX11_tracedV_8 ?_
  refine ab_lstore (la' := [(4, .long (Int32.toInt64 (q5 (0 + Int32.toNatClampNeg a1 * 2 + 0)))), (0, .ref 1000), (1, .int a1), (2, .int a2), (3, .int 1)]) dX11_tracedV_9 (by decide) rfl ?_
  refine ab_aload_n dX11_tracedV_11 rfl ?_
  refine ab_getf dX11_tracedV_12 fl_X11_45 rfl rfl ?_
  refine ab_iconst (v := 2) dX11_tracedV_15 (by decide) ?_
  refine ab_iload_n dX11_tracedV_16 rfl ?_
  refine ab_imul dX11_tracedV_17 ?_
  refine ab_iconst (v := 1) dX11_tracedV_18 (by decide) ?_
  refine ab_iadd dX11_tracedV_19 ?_
  refine ab_iald (j := (0 + Int32.toNatClampNeg a1 * 2 + 1)) dX11_tracedV_20 rfl (ix_ml (W := 2) (c := 4) h_i h_t.2 (show 0 ≤ (1 : Int32) ∧ (1 : Int32) < nI 2 by decide) (by decide) (by decide) (by decide) (by decide)) ?_
  refine ab_i2l dX11_tracedV_21 ?_
  refine ab_lstore (la' := [(6, .long (Int32.toInt64 (q5 (0 + Int32.toNatClampNeg a1 * 2 + 1)))), (4, .long (Int32.toInt64 (q5 (0 + Int32.toNatClampNeg a1 * 2 + 0)))), (0, .ref 1000), (1, .int a1), (2, .int a2), (3, .int 1)]) dX11_tracedV_22 (by decide) rfl ?_
  refine ab_iload_n dX11_tracedV_24 rfl ?_
  refine ab_ifne 47 dX11_tracedV_25 (by decide) (fun h_1 => ?_) (fun h_1 => absurd h_1 (by decide))
  refine ab_lload dX11_tracedV_47 rfl ?_
  refine ab_aload_n dX11_tracedV_49 rfl ?_
  refine ab_getf dX11_tracedV_50 fl_X11_363 rfl rfl ?_
  refine ab_lmul dX11_tracedV_53 ?_
  refine ab_lload dX11_tracedV_54 rfl ?_
  refine ab_aload_n dX11_tracedV_56 rfl ?_
  refine ab_getf dX11_tracedV_57 fl_X11_366 rfl rfl ?_
  refine ab_lmul dX11_tracedV_60 ?_
  refine ab_lsub dX11_tracedV_61 ?_
  refine ab_iload_n dX11_tracedV_62 rfl ?_
  refine ab_callS (As := [.long (((Int32.toInt64 (q5 (0 + Int32.toNatClampNeg a1 * 2 + 0))) * m_x) - ((Int32.toInt64 (q5 (0 + Int32.toNatClampNeg a1 * 2 + 1))) * m_y)), .int a2]) (rest := []) dX11_tracedV_63 ms_X11_turned ml_X11_377 ⟨by decide, by decide, rfl, rfl, rfl⟩ (by decide) rfl rfl (Nat.le_of_ble_eq_true rfl) c_X11_turned_t ?_
  rintro r w' ⟨rfl, rfl⟩
  exact ab_lret dX11_tracedV_66 rfl (by decide) (⟨rfl, rfl⟩)
theorem c_X11_tracedAt_1 {wc : List ax_E} {m_thrown m_trouble m_fault m_where m_taped m_linkMany m_tracerMany m_pointMany m_pairMany m_readLinks m_readTracers m_readPoints m_readPairs m_textLong m_at m_spot m_token m_whole m_readFault m_readPlace m_value m_curveMany m_cornerMany m_straightAt m_walkLink m_walkAngle m_walkBranch m_walkMany m_lined m_actMany a1 a2 : Int32} {m_n m_c m_d m_s m_e m_k m_x m_y m_g m_a m_fitUp m_fitDown m_worstUp m_worstDown : Int64} {z1 z2 z3 z4 z6 z7 z8 z9 z10 z11 z12 z13 z14 z15 z16 z17 z18 z19 z20 : ax_E} {q5 : Nat → Int32} (h_i : 0 ≤ a1 ∧ a1 < m_tracerMany) (h_t : 0 ≤ m_tracerMany ∧ m_tracerMany ≤ nI 4) (h_q2 : okS (Mt_v1 m_x m_y q5 a1 a2) m_k) (h_q3 : 0 < ((2 * m_s) * m_n)) : Ct M_X11_tracedAt [.ref 1000, .int a1, .int a2, .int 1] (wc, [ob 9 [.int m_thrown, .int m_trouble, .int m_fault, .int m_where, .ref 1001, .ref 1002, .int 40, .ref 1003, .int m_taped, .int m_linkMany, .int m_tracerMany, .int m_pointMany, .int m_pairMany, .ref 1004, .ref 1005, .ref 1006, .ref 1007, .int m_readLinks, .int m_readTracers, .int m_readPoints, .int m_readPairs, .ref 1008, .ref 1009, .ref 1010, .ref 1011, .int m_textLong, .int m_at, .int m_spot, .int m_token, .int m_whole, .int m_readFault, .int m_readPlace, .int m_value, .long m_n, .long m_c, .long m_d, .long m_s, .long m_e, .long m_k, .long m_x, .long m_y, .long m_g, .long m_a, .ref 1012, .ref 1013, .ref 1014, .int m_curveMany, .ref 1015, .int m_cornerMany, .int m_straightAt, .ref 1016, .long m_fitUp, .long m_fitDown, .long m_worstUp, .long m_worstDown, .ref 1017, .int m_walkLink, .int m_walkAngle, .int m_walkBranch, .int m_walkMany, .ref 1018, .ref 1019, .int m_lined, .ref 1020, .int m_actMany], z1, z2, z3, z4, ia 8 q5, z6, z7, z8, z9, z10, z11, z12, z13, z14, z15, z16, z17, z18, z19, z20]) (fun r w' => r = some (.int (Int64.toInt32 (FlM (Mt_u1 m_d m_s m_e m_x m_y m_a q5 a1) (Mt_v1 m_x m_y q5 a1 a2) ((2 * m_s) * m_n) (sqN (Mt_v1 m_x m_y q5 a1 a2) m_k)))) ∧ w' = (wc, [ob 9 [.int m_thrown, .int m_trouble, .int m_fault, .int m_where, .ref 1001, .ref 1002, .int 40, .ref 1003, .int m_taped, .int m_linkMany, .int m_tracerMany, .int m_pointMany, .int m_pairMany, .ref 1004, .ref 1005, .ref 1006, .ref 1007, .int m_readLinks, .int m_readTracers, .int m_readPoints, .int m_readPairs, .ref 1008, .ref 1009, .ref 1010, .ref 1011, .int m_textLong, .int m_at, .int m_spot, .int m_token, .int m_whole, .int m_readFault, .int m_readPlace, .int m_value, .long m_n, .long m_c, .long m_d, .long m_s, .long m_e, .long m_k, .long m_x, .long m_y, .long m_g, .long m_a, .ref 1012, .ref 1013, .ref 1014, .int m_curveMany, .ref 1015, .int m_cornerMany, .int m_straightAt, .ref 1016, .long m_fitUp, .long m_fitDown, .long m_worstUp, .long m_worstDown, .ref 1017, .int m_walkLink, .int m_walkAngle, .int m_walkBranch, .int m_walkMany, .ref 1018, .ref 1019, .int m_lined, .ref 1020, .int m_actMany], z1, z2, z3, z4, ia 8 q5, z6, z7, z8, z9, z10, z11, z12, z13, z14, z15, z16, z17, z18, z19, z20])) := by
  refine ct_of ⟨by decide, rfl⟩ (Nat.le_of_ble_eq_true rfl) ?_
  refine ab_aload_n dX11_tracedAt_0 rfl ?_
  refine ab_aload_n dX11_tracedAt_1 rfl ?_
  refine ab_iload_n dX11_tracedAt_2 rfl ?_
  refine ab_iload_n dX11_tracedAt_3 rfl ?_
  refine ab_callV (As := [.int a1, .int 1]) (rest := [.ref 1000]) dX11_tracedAt_4 mv_X11_tracedU ml_X11_410 ⟨by decide, by decide, rfl, rfl, rfl⟩ (by decide) rfl rfl (Nat.le_of_ble_eq_true rfl) rfl (c_X11_tracedU_1 h_i h_t) ?_
  rintro r w' ⟨rfl, rfl⟩
  refine ab_aload_n dX11_tracedAt_7 rfl ?_
  refine ab_iload_n dX11_tracedAt_8 rfl ?_
  refine ab_iload_n dX11_tracedAt_9 rfl ?_
  refine ab_iload_n dX11_tracedAt_10 rfl ?_
  refine ab_callV (As := [.int a1, .int a2, .int 1]) (rest := [.long (Mt_u1 m_d m_s m_e m_x m_y m_a q5 a1), .ref 1000]) dX11_tracedAt_11 mv_X11_tracedV ml_X11_413 ⟨by decide, by decide, rfl, rfl, rfl⟩ (by decide) rfl rfl (Nat.le_of_ble_eq_true rfl) rfl (c_X11_tracedV_1 h_i h_t) ?_
  rintro r w' ⟨rfl, rfl⟩
  refine ab_ldc2 dX11_tracedAt_14 kl_X11_344 ?_
  refine ab_aload_n dX11_tracedAt_17 rfl ?_
  refine ab_getf dX11_tracedAt_18 fl_X11_355 rfl rfl ?_
  refine ab_lmul dX11_tracedAt_21 ?_
  refine ab_aload_n dX11_tracedAt_22 rfl ?_
  refine ab_getf dX11_tracedAt_23 fl_X11_328 rfl rfl ?_
  refine ab_lmul dX11_tracedAt_26 ?_
  refine ab_callV (As := [.long (Mt_u1 m_d m_s m_e m_x m_y m_a q5 a1), .long (Mt_v1 m_x m_y q5 a1 a2), .long ((2 * m_s) * m_n)]) (rest := []) dX11_tracedAt_27 mv_X11_floorOf ml_X11_393 ⟨by decide, by decide, rfl, rfl, rfl⟩ (by decide) rfl rfl (Nat.le_of_ble_eq_true rfl) rfl (c_X11_floorOf2 (h_q2) (h_q3)) ?_
  rintro r w' ⟨rfl, rfl⟩
  refine ab_l2i dX11_tracedAt_30 ?_
  exact ab_iret dX11_tracedAt_31 rfl (by decide) (⟨rfl, rfl⟩)
