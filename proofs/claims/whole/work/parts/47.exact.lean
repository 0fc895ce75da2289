theorem c_X5_jointX {x0 x1 x2 x3 x4 x5 x6 x7 x8 x9 x10 x12 x13 x14 x15 x16 x17 x18 x19 x20 x21 x22 x23 x24 x25 x26 x27 x28 x29 x30 x31 x32 : ax_E} {f11_0 f11_1 f11_2 f11_3 f11_4 f11_5 f11_6 f11_7 f11_8 f11_9 f11_10 f11_11 f11_12 f11_13 f11_14 f11_15 : Int64} {wm : List ax_E} {a1 a2 : Int32} (h_q0 : ((((2 * f11_5) * f11_8) * f11_2) + (f11_9 * f11_10)).toInt ≠ -2 ^ 63) (h_q1 : ((-f11_11) * (Sgn a1)).toInt ≠ -2 ^ 63) (h_q2 : ((2 * f11_2) * f11_0).toInt ≠ -2 ^ 63) : Ct M_X5_jointX [.ref 11, .int a1, .int a2] ([x0, x1, x2, x3, x4, x5, x6, x7, x8, x9, x10, ob 5 [.long f11_0, .long f11_1, .long f11_2, .long f11_3, .long f11_4, .long f11_5, .long f11_6, .long f11_7, .long f11_8, .long f11_9, .long f11_10, .long f11_11, .long f11_12, .long f11_13, .long f11_14, .long f11_15], x12, x13, x14, x15, x16, x17, x18, x19, x20, x21, x22, x23, x24, x25, x26, x27, x28, x29, x30, x31, x32], wm) (fun r w' => r = some (.long (Rd3 ((((2 * f11_5) * f11_8) * f11_2) + (f11_9 * f11_10)) ((-f11_11) * (Sgn a1)) ((2 * f11_2) * f11_0) a2)) ∧ w' = ([x0, x1, x2, x3, x4, x5, x6, x7, x8, x9, x10, ob 5 [.long f11_0, .long f11_1, .long f11_2, .long f11_3, .long f11_4, .long f11_5, .long f11_6, .long f11_7, .long f11_8, .long f11_9, .long f11_10, .long f11_11, .long f11_12, .long f11_13, .long f11_14, .long f11_15], x12, x13, x14, x15, x16, x17, x18, x19, x20, x21, x22, x23, x24, x25, x26, x27, x28, x29, x30, x31, x32], wm)) := by
  refine ct_of ⟨by decide, rfl⟩ (Nat.le_of_ble_eq_true rfl) ?_
  refine ab_ldc2 dX5_jointX_0 kl_X5_87 ?_
  refine ab_aload_n dX5_jointX_3 rfl ?_
  refine ab_getf dX5_jointX_4 fl_X5_25 rfl rfl ?_
  refine ab_lmul dX5_jointX_7 ?_
  refine ab_aload_n dX5_jointX_8 rfl ?_
  refine ab_getf dX5_jointX_9 fl_X5_34 rfl rfl ?_
  refine ab_lmul dX5_jointX_12 ?_
  refine ab_aload_n dX5_jointX_13 rfl ?_
  refine ab_getf dX5_jointX_14 fl_X5_16 rfl rfl ?_
  refine ab_lmul dX5_jointX_17 ?_
  refine ab_aload_n dX5_jointX_18 rfl ?_
  refine ab_getf dX5_jointX_19 fl_X5_37 rfl rfl ?_
  refine ab_aload_n dX5_jointX_22 rfl ?_
  refine ab_getf dX5_jointX_23 fl_X5_40 rfl rfl ?_
  refine ab_lmul dX5_jointX_26 ?_
  refine ab_ladd dX5_jointX_27 ?_
  refine ab_aload_n dX5_jointX_28 rfl ?_
  refine ab_getf dX5_jointX_29 fl_X5_43 rfl rfl ?_
  refine ab_lneg dX5_jointX_32 ?_
  refine ab_iload_n dX5_jointX_33 rfl ?_
  refine ab_callS (As := [.int a1]) (rest := [.long (-f11_11), .long ((((2 * f11_5) * f11_8) * f11_2) + (f11_9 * f11_10))]) dX5_jointX_34 ms_X5_signOf ml_X5_97 ⟨by decide, by decide, rfl, rfl, rfl⟩ (by decide) rfl rfl (Nat.le_of_ble_eq_true rfl) c_X5_signOf_t ?_
  rintro r w' ⟨rfl, rfl⟩
  refine ab_lmul dX5_jointX_37 ?_
  refine ab_ldc2 dX5_jointX_38 kl_X5_87 ?_
  refine ab_aload_n dX5_jointX_41 rfl ?_
  refine ab_getf dX5_jointX_42 fl_X5_16 rfl rfl ?_
  refine ab_lmul dX5_jointX_45 ?_
  refine ab_aload_n dX5_jointX_46 rfl ?_
  refine ab_getf dX5_jointX_47 fl_X5_7 rfl rfl ?_
  refine ab_lmul dX5_jointX_50 ?_
  refine ab_iload_n dX5_jointX_51 rfl ?_
  refine ab_callS (As := [.long ((((2 * f11_5) * f11_8) * f11_2) + (f11_9 * f11_10)), .long ((-f11_11) * (Sgn a1)), .long ((2 * f11_2) * f11_0), .int a2]) (rest := []) dX5_jointX_52 ms_X9_reducedOf ml_X5_101 ⟨by decide, by decide, rfl, rfl, rfl⟩ (by decide) rfl rfl (Nat.le_of_ble_eq_true rfl) (c_X9_reducedOf (h_q0) (h_q1) (h_q2)) ?_
  rintro r w' ⟨rfl, rfl⟩
  exact ab_lret dX5_jointX_55 rfl (by decide) (⟨rfl, rfl⟩)
theorem c_X5_jointY {x0 x1 x2 x3 x4 x5 x6 x7 x8 x9 x10 x12 x13 x14 x15 x16 x17 x18 x19 x20 x21 x22 x23 x24 x25 x26 x27 x28 x29 x30 x31 x32 : ax_E} {f11_0 f11_1 f11_2 f11_3 f11_4 f11_5 f11_6 f11_7 f11_8 f11_9 f11_10 f11_11 f11_12 f11_13 f11_14 f11_15 : Int64} {wm : List ax_E} {a1 a2 : Int32} (h_q0 : ((((2 * f11_5) * f11_1) * f11_2) + (f11_9 * f11_11)).toInt ≠ -2 ^ 63) (h_q1 : (f11_10 * (Sgn a1)).toInt ≠ -2 ^ 63) (h_q2 : ((2 * f11_2) * f11_0).toInt ≠ -2 ^ 63) : Ct M_X5_jointY [.ref 11, .int a1, .int a2] ([x0, x1, x2, x3, x4, x5, x6, x7, x8, x9, x10, ob 5 [.long f11_0, .long f11_1, .long f11_2, .long f11_3, .long f11_4, .long f11_5, .long f11_6, .long f11_7, .long f11_8, .long f11_9, .long f11_10, .long f11_11, .long f11_12, .long f11_13, .long f11_14, .long f11_15], x12, x13, x14, x15, x16, x17, x18, x19, x20, x21, x22, x23, x24, x25, x26, x27, x28, x29, x30, x31, x32], wm) (fun r w' => r = some (.long (Rd3 ((((2 * f11_5) * f11_1) * f11_2) + (f11_9 * f11_11)) (f11_10 * (Sgn a1)) ((2 * f11_2) * f11_0) a2)) ∧ w' = ([x0, x1, x2, x3, x4, x5, x6, x7, x8, x9, x10, ob 5 [.long f11_0, .long f11_1, .long f11_2, .long f11_3, .long f11_4, .long f11_5, .long f11_6, .long f11_7, .long f11_8, .long f11_9, .long f11_10, .long f11_11, .long f11_12, .long f11_13, .long f11_14, .long f11_15], x12, x13, x14, x15, x16, x17, x18, x19, x20, x21, x22, x23, x24, x25, x26, x27, x28, x29, x30, x31, x32], wm)) := by
  refine ct_of ⟨by decide, rfl⟩ (Nat.le_of_ble_eq_true rfl) ?_
  refine ab_ldc2 dX5_jointY_0 kl_X5_87 ?_
  refine ab_aload_n dX5_jointY_3 rfl ?_
  refine ab_getf dX5_jointY_4 fl_X5_25 rfl rfl ?_
  refine ab_lmul dX5_jointY_7 ?_
  refine ab_aload_n dX5_jointY_8 rfl ?_
  refine ab_getf dX5_jointY_9 fl_X5_13 rfl rfl ?_
  refine ab_lmul dX5_jointY_12 ?_
  refine ab_aload_n dX5_jointY_13 rfl ?_
  refine ab_getf dX5_jointY_14 fl_X5_16 rfl rfl ?_
  refine ab_lmul dX5_jointY_17 ?_
  refine ab_aload_n dX5_jointY_18 rfl ?_
  refine ab_getf dX5_jointY_19 fl_X5_37 rfl rfl ?_
  refine ab_aload_n dX5_jointY_22 rfl ?_
  refine ab_getf dX5_jointY_23 fl_X5_43 rfl rfl ?_
  refine ab_lmul dX5_jointY_26 ?_
  refine ab_ladd dX5_jointY_27 ?_
  refine ab_aload_n dX5_jointY_28 rfl ?_
  refine ab_getf dX5_jointY_29 fl_X5_40 rfl rfl ?_
  refine ab_iload_n dX5_jointY_32 rfl ?_
  refine ab_callS (As := [.int a1]) (rest := [.long f11_10, .long ((((2 * f11_5) * f11_1) * f11_2) + (f11_9 * f11_11))]) dX5_jointY_33 ms_X5_signOf ml_X5_97 ⟨by decide, by decide, rfl, rfl, rfl⟩ (by decide) rfl rfl (Nat.le_of_ble_eq_true rfl) c_X5_signOf_t ?_
  rintro r w' ⟨rfl, rfl⟩
  refine ab_lmul dX5_jointY_36 ?_
  refine ab_ldc2 dX5_jointY_37 kl_X5_87 ?_
  refine ab_aload_n dX5_jointY_40 rfl ?_
  refine ab_getf dX5_jointY_41 fl_X5_16 rfl rfl ?_
  refine ab_lmul dX5_jointY_44 ?_
  refine ab_aload_n dX5_jointY_45 rfl ?_
  refine ab_getf dX5_jointY_46 fl_X5_7 rfl rfl ?_
  refine ab_lmul dX5_jointY_49 ?_
  refine ab_iload_n dX5_jointY_50 rfl ?_
  refine ab_callS (As := [.long ((((2 * f11_5) * f11_1) * f11_2) + (f11_9 * f11_11)), .long (f11_10 * (Sgn a1)), .long ((2 * f11_2) * f11_0), .int a2]) (rest := []) dX5_jointY_51 ms_X9_reducedOf ml_X5_101 ⟨by decide, by decide, rfl, rfl, rfl⟩ (by decide) rfl rfl (Nat.le_of_ble_eq_true rfl) (c_X9_reducedOf (h_q0) (h_q1) (h_q2)) ?_
  rintro r w' ⟨rfl, rfl⟩
  exact ab_lret dX5_jointY_54 rfl (by decide) (⟨rfl, rfl⟩)
theorem c_X5_turning {x0 x1 x2 x3 x4 x5 x6 x7 x8 x9 x10 x12 x13 x14 x15 x16 x17 x18 x19 x20 x21 x22 x23 x24 x25 x26 x27 x28 x29 x30 x31 x32 : ax_E} {f11_0 f11_1 f11_2 f11_3 f11_4 f11_5 f11_6 f11_7 f11_8 f11_9 f11_10 f11_11 f11_12 f11_13 f11_14 f11_15 : Int64} {wm : List ax_E} {a1 a2 : Int32} (h_q0 : ((f11_5 * ((f11_5 * f11_0) - (f11_4 * f11_8))) * f11_3).toInt ≠ -2 ^ 63) (h_q1 : ((((f11_5 * f11_4) * f11_1) * f11_9) * (Sgn a1)).toInt ≠ -2 ^ 63) (h_q2 : (f11_2 * f11_3).toInt ≠ -2 ^ 63) : Ct M_X5_turning [.ref 11, .int a1, .int a2] ([x0, x1, x2, x3, x4, x5, x6, x7, x8, x9, x10, ob 5 [.long f11_0, .long f11_1, .long f11_2, .long f11_3, .long f11_4, .long f11_5, .long f11_6, .long f11_7, .long f11_8, .long f11_9, .long f11_10, .long f11_11, .long f11_12, .long f11_13, .long f11_14, .long f11_15], x12, x13, x14, x15, x16, x17, x18, x19, x20, x21, x22, x23, x24, x25, x26, x27, x28, x29, x30, x31, x32], wm) (fun r w' => r = some (.long (Rd3 ((f11_5 * ((f11_5 * f11_0) - (f11_4 * f11_8))) * f11_3) ((((f11_5 * f11_4) * f11_1) * f11_9) * (Sgn a1)) (f11_2 * f11_3) a2)) ∧ w' = ([x0, x1, x2, x3, x4, x5, x6, x7, x8, x9, x10, ob 5 [.long f11_0, .long f11_1, .long f11_2, .long f11_3, .long f11_4, .long f11_5, .long f11_6, .long f11_7, .long f11_8, .long f11_9, .long f11_10, .long f11_11, .long f11_12, .long f11_13, .long f11_14, .long f11_15], x12, x13, x14, x15, x16, x17, x18, x19, x20, x21, x22, x23, x24, x25, x26, x27, x28, x29, x30, x31, x32], wm)) := by
  refine ct_of ⟨by decide, rfl⟩ (Nat.le_of_ble_eq_true rfl) ?_
  refine ab_aload_n dX5_turning_0 rfl ?_
  refine ab_getf dX5_turning_1 fl_X5_25 rfl rfl ?_
  refine ab_aload_n dX5_turning_4 rfl ?_
  refine ab_getf dX5_turning_5 fl_X5_25 rfl rfl ?_
  refine ab_aload_n dX5_turning_8 rfl ?_
  refine ab_getf dX5_turning_9 fl_X5_7 rfl rfl ?_
  refine ab_lmul dX5_turning_12 ?_
  refine ab_aload_n dX5_turning_13 rfl ?_
  refine ab_getf dX5_turning_14 fl_X5_22 rfl rfl ?_
  refine ab_aload_n dX5_turning_17 rfl ?_
  refine ab_getf dX5_turning_18 fl_X5_34 rfl rfl ?_
  refine ab_lmul dX5_turning_21 ?_
  refine ab_lsub dX5_turning_22 ?_
  refine ab_lmul dX5_turning_23 ?_
  refine ab_aload_n dX5_turning_24 rfl ?_
  refine ab_getf dX5_turning_25 fl_X5_19 rfl rfl ?_
  refine ab_lmul dX5_turning_28 ?_
  refine ab_lstore_n (la' := [(3, .long ((f11_5 * ((f11_5 * f11_0) - (f11_4 * f11_8))) * f11_3)), (0, .ref 11), (1, .int a1), (2, .int a2)]) dX5_turning_29 (by decide) rfl ?_
  refine ab_aload_n dX5_turning_30 rfl ?_
  refine ab_getf dX5_turning_31 fl_X5_25 rfl rfl ?_
  refine ab_aload_n dX5_turning_34 rfl ?_
  refine ab_getf dX5_turning_35 fl_X5_22 rfl rfl ?_
  refine ab_lmul dX5_turning_38 ?_
  refine ab_aload_n dX5_turning_39 rfl ?_
  refine ab_getf dX5_turning_40 fl_X5_13 rfl rfl ?_
  refine ab_lmul dX5_turning_43 ?_
  refine ab_aload_n dX5_turning_44 rfl ?_
  refine ab_getf dX5_turning_45 fl_X5_37 rfl rfl ?_
  refine ab_lmul dX5_turning_48 ?_
  refine ab_iload_n dX5_turning_49 rfl ?_
  refine ab_callS (As := [.int a1]) (rest := [.long (((f11_5 * f11_4) * f11_1) * f11_9)]) dX5_turning_50 ms_X5_signOf ml_X5_97 ⟨by decide, by decide, rfl, rfl, rfl⟩ (by decide) rfl rfl (Nat.le_of_ble_eq_true rfl) c_X5_signOf_t ?_
  rintro r w' ⟨rfl, rfl⟩
  refine ab_lmul dX5_turning_53 ?_
  refine ab_lstore (la' := [(5, .long ((((f11_5 * f11_4) * f11_1) * f11_9) * (Sgn a1))), (3, .long ((f11_5 * ((f11_5 * f11_0) - (f11_4 * f11_8))) * f11_3)), (0, .ref 11), (1, .int a1), (2, .int a2)]) dX5_turning_54 (by decide) rfl ?_
  refine ab_lload_n dX5_turning_56 rfl ?_
  refine ab_lload dX5_turning_57 rfl ?_
  refine ab_aload_n dX5_turning_59 rfl ?_
  refine ab_getf dX5_turning_60 fl_X5_16 rfl rfl ?_
  refine ab_aload_n dX5_turning_63 rfl ?_
  refine ab_getf dX5_turning_64 fl_X5_19 rfl rfl ?_
  refine ab_lmul dX5_turning_67 ?_
  refine ab_iload_n dX5_turning_68 rfl ?_
  refine ab_callS (As := [.long ((f11_5 * ((f11_5 * f11_0) - (f11_4 * f11_8))) * f11_3), .long ((((f11_5 * f11_4) * f11_1) * f11_9) * (Sgn a1)), .long (f11_2 * f11_3), .int a2]) (rest := []) dX5_turning_69 ms_X9_reducedOf ml_X5_101 ⟨by decide, by decide, rfl, rfl, rfl⟩ (by decide) rfl rfl (Nat.le_of_ble_eq_true rfl) (c_X9_reducedOf (h_q0) (h_q1) (h_q2)) ?_
  rintro r w' ⟨rfl, rfl⟩
  exact ab_lret dX5_turning_72 rfl (by decide) (⟨rfl, rfl⟩)
theorem c_X10_joint {f0_0 f10_0 f10_1 f10_2 f10_3 a1 a2 a3 a4 : Int32} {x1 x2 x3 x7 x8 x9 x12 x13 x14 x15 x16 x17 x18 x19 x20 x21 x22 x23 x24 x25 x26 x27 x28 x29 x30 x31 x32 : ax_E} {r5 r6 : Nat → Int32} {f11_0 f11_1 f11_2 f11_3 f11_4 f11_5 f11_6 f11_7 f11_8 f11_9 f11_10 f11_11 f11_12 f11_13 f11_14 f11_15 : Int64} {wm : List ax_E} (h_c0 : r6 0 ≤ nI 4) (h_q1 : ((0 ≤ a1 ∧ a1 < r6 0) ∧ (0 ≤ a2 ∧ a2 < 40) ∧ (0 ≤ a3 ∧ a3 < 2)) → (0 ≤ a4 ∧ a4 < 2) → (0 < (Ps_s (Bg r5 a1) (Ba r5 a1) a2) ∧ 0 ≤ (Ps_k (Bg r5 a1) (Ba r5 a1) (Bb r5 a1) (Bc r5 a1) a2)) → (¬ a4 = 0) → okS (Tr_vy (Ps_x (Bg r5 a1) (Ba r5 a1) a2) (Ps_y (Ba r5 a1) a2) 10 0 a3) (Ps_k (Bg r5 a1) (Ba r5 a1) (Bb r5 a1) (Bc r5 a1) a2)) (h_q2 : ((0 ≤ a1 ∧ a1 < r6 0) ∧ (0 ≤ a2 ∧ a2 < 40) ∧ (0 ≤ a3 ∧ a3 < 2)) → (0 ≤ a4 ∧ a4 < 2) → (0 < (Ps_s (Bg r5 a1) (Ba r5 a1) a2) ∧ 0 ≤ (Ps_k (Bg r5 a1) (Ba r5 a1) (Bb r5 a1) (Bc r5 a1) a2)) → (¬ a4 = 0) → 0 < 2 * (Ps_s (Bg r5 a1) (Ba r5 a1) a2) * (Ps_n a2)) (h_q3 : ((0 ≤ a1 ∧ a1 < r6 0) ∧ (0 ≤ a2 ∧ a2 < 40) ∧ (0 ≤ a3 ∧ a3 < 2)) → (0 ≤ a4 ∧ a4 < 2) → (0 < (Ps_s (Bg r5 a1) (Ba r5 a1) a2) ∧ 0 ≤ (Ps_k (Bg r5 a1) (Ba r5 a1) (Bb r5 a1) (Bc r5 a1) a2)) → (a4 = 0) → okS (Tr_vx (Ps_x (Bg r5 a1) (Ba r5 a1) a2) (Ps_y (Ba r5 a1) a2) 10 0 a3) (Ps_k (Bg r5 a1) (Ba r5 a1) (Bb r5 a1) (Bc r5 a1) a2)) (h_q4 : ((0 ≤ a1 ∧ a1 < r6 0) ∧ (0 ≤ a2 ∧ a2 < 40) ∧ (0 ≤ a3 ∧ a3 < 2)) → (0 ≤ a4 ∧ a4 < 2) → (0 < (Ps_s (Bg r5 a1) (Ba r5 a1) a2) ∧ 0 ≤ (Ps_k (Bg r5 a1) (Ba r5 a1) (Bb r5 a1) (Bc r5 a1) a2)) → (a4 = 0) → 0 < 2 * (Ps_s (Bg r5 a1) (Ba r5 a1) a2) * (Ps_n a2)) : Ct M_X10_joint [.ref 0, .int a1, .int a2, .int a3, .int a4] ([ob 8 [.int f0_0, .ref 1, .ref 4, .ref 7, .ref 10, .ref 11, .ref 12, .ref 18, .ref 25, .ref 29], x1, x2, x3, ob 2 [.ref 5, .ref 6], ia 56 r5, ia 4 r6, x7, x8, x9, ob 3 [.int f10_0, .int f10_1, .int f10_2, .int f10_3], ob 5 [.long f11_0, .long f11_1, .long f11_2, .long f11_3, .long f11_4, .long f11_5, .long f11_6, .long f11_7, .long f11_8, .long f11_9, .long f11_10, .long f11_11, .long f11_12, .long f11_13, .long f11_14, .long f11_15], x12, x13, x14, x15, x16, x17, x18, x19, x20, x21, x22, x23, x24, x25, x26, x27, x28, x29, x30, x31, x32], wm) (fun r w' => (((0 ≤ a1 ∧ a1 < r6 0) ∧ (0 ≤ a2 ∧ a2 < 40) ∧ (0 ≤ a3 ∧ a3 < 2)) ∧ (0 ≤ a4 ∧ a4 < 2) ∧ (0 < (Ps_s (Bg r5 a1) (Ba r5 a1) a2) ∧ 0 ≤ (Ps_k (Bg r5 a1) (Ba r5 a1) (Bb r5 a1) (Bc r5 a1) a2)) ∧ (¬ a4 = 0) ∧ r = some (.int (Int64.toInt32 (FlC (Tr_uy (Ps_d a2) (Ps_s (Bg r5 a1) (Ba r5 a1) a2) (Int32.toInt64 (Ba r5 a1)) (Ps_e (Bg r5 a1) (Ba r5 a1) (Bb r5 a1) (Bc r5 a1) a2) (Ps_x (Bg r5 a1) (Ba r5 a1) a2) (Ps_y (Ba r5 a1) a2) 10 0) (Tr_vy (Ps_x (Bg r5 a1) (Ba r5 a1) a2) (Ps_y (Ba r5 a1) a2) 10 0 a3) ((2 * (Ps_s (Bg r5 a1) (Ba r5 a1) a2)) * (Ps_n a2)) (sqN (Tr_vy (Ps_x (Bg r5 a1) (Ba r5 a1) a2) (Ps_y (Ba r5 a1) a2) 10 0 a3) (Ps_k (Bg r5 a1) (Ba r5 a1) (Bb r5 a1) (Bc r5 a1) a2))))) ∧ w' = ([ob 8 [.int 0, .ref 1, .ref 4, .ref 7, .ref 10, .ref 11, .ref 12, .ref 18, .ref 25, .ref 29], x1, x2, x3, ob 2 [.ref 5, .ref 6], ia 56 r5, ia 4 r6, x7, x8, x9, ob 3 [.int (Bg r5 a1), .int (Ba r5 a1), .int (Bb r5 a1), .int (Bc r5 a1)], ob 5 [.long (Ps_n a2), .long (Ps_d a2), .long (Ps_s (Bg r5 a1) (Ba r5 a1) a2), .long (Ps_k (Bg r5 a1) (Ba r5 a1) (Bb r5 a1) (Bc r5 a1) a2), .long (Int32.toInt64 (Bg r5 a1)), .long (Int32.toInt64 (Ba r5 a1)), .long (Int32.toInt64 (Bb r5 a1)), .long (Int32.toInt64 (Bc r5 a1)), .long (Ps_c a2), .long (Ps_e (Bg r5 a1) (Ba r5 a1) (Bb r5 a1) (Bc r5 a1) a2), .long (Ps_x (Bg r5 a1) (Ba r5 a1) a2), .long (Ps_y (Ba r5 a1) a2), .long (Tr_ux (Ps_s (Bg r5 a1) (Ba r5 a1) a2) (Int32.toInt64 (Ba r5 a1)) (Ps_c a2) (Ps_e (Bg r5 a1) (Ba r5 a1) (Bb r5 a1) (Bc r5 a1) a2) (Ps_x (Bg r5 a1) (Ba r5 a1) a2) (Ps_y (Ba r5 a1) a2) 10 0), .long (Tr_vx (Ps_x (Bg r5 a1) (Ba r5 a1) a2) (Ps_y (Ba r5 a1) a2) 10 0 a3), .long (Tr_uy (Ps_d a2) (Ps_s (Bg r5 a1) (Ba r5 a1) a2) (Int32.toInt64 (Ba r5 a1)) (Ps_e (Bg r5 a1) (Ba r5 a1) (Bb r5 a1) (Bc r5 a1) a2) (Ps_x (Bg r5 a1) (Ba r5 a1) a2) (Ps_y (Ba r5 a1) a2) 10 0), .long (Tr_vy (Ps_x (Bg r5 a1) (Ba r5 a1) a2) (Ps_y (Ba r5 a1) a2) 10 0 a3)], x12, x13, x14, x15, x16, x17, x18, x19, x20, x21, x22, x23, x24, x25, x26, x27, x28, x29, x30, x31, x32], wm)) ∨ (((0 ≤ a1 ∧ a1 < r6 0) ∧ (0 ≤ a2 ∧ a2 < 40) ∧ (0 ≤ a3 ∧ a3 < 2)) ∧ (0 ≤ a4 ∧ a4 < 2) ∧ (0 < (Ps_s (Bg r5 a1) (Ba r5 a1) a2) ∧ 0 ≤ (Ps_k (Bg r5 a1) (Ba r5 a1) (Bb r5 a1) (Bc r5 a1) a2)) ∧ (a4 = 0) ∧ r = some (.int (Int64.toInt32 (FlC (Tr_ux (Ps_s (Bg r5 a1) (Ba r5 a1) a2) (Int32.toInt64 (Ba r5 a1)) (Ps_c a2) (Ps_e (Bg r5 a1) (Ba r5 a1) (Bb r5 a1) (Bc r5 a1) a2) (Ps_x (Bg r5 a1) (Ba r5 a1) a2) (Ps_y (Ba r5 a1) a2) 10 0) (Tr_vx (Ps_x (Bg r5 a1) (Ba r5 a1) a2) (Ps_y (Ba r5 a1) a2) 10 0 a3) ((2 * (Ps_s (Bg r5 a1) (Ba r5 a1) a2)) * (Ps_n a2)) (sqN (Tr_vx (Ps_x (Bg r5 a1) (Ba r5 a1) a2) (Ps_y (Ba r5 a1) a2) 10 0 a3) (Ps_k (Bg r5 a1) (Ba r5 a1) (Bb r5 a1) (Bc r5 a1) a2))))) ∧ w' = ([ob 8 [.int 0, .ref 1, .ref 4, .ref 7, .ref 10, .ref 11, .ref 12, .ref 18, .ref 25, .ref 29], x1, x2, x3, ob 2 [.ref 5, .ref 6], ia 56 r5, ia 4 r6, x7, x8, x9, ob 3 [.int (Bg r5 a1), .int (Ba r5 a1), .int (Bb r5 a1), .int (Bc r5 a1)], ob 5 [.long (Ps_n a2), .long (Ps_d a2), .long (Ps_s (Bg r5 a1) (Ba r5 a1) a2), .long (Ps_k (Bg r5 a1) (Ba r5 a1) (Bb r5 a1) (Bc r5 a1) a2), .long (Int32.toInt64 (Bg r5 a1)), .long (Int32.toInt64 (Ba r5 a1)), .long (Int32.toInt64 (Bb r5 a1)), .long (Int32.toInt64 (Bc r5 a1)), .long (Ps_c a2), .long (Ps_e (Bg r5 a1) (Ba r5 a1) (Bb r5 a1) (Bc r5 a1) a2), .long (Ps_x (Bg r5 a1) (Ba r5 a1) a2), .long (Ps_y (Ba r5 a1) a2), .long (Tr_ux (Ps_s (Bg r5 a1) (Ba r5 a1) a2) (Int32.toInt64 (Ba r5 a1)) (Ps_c a2) (Ps_e (Bg r5 a1) (Ba r5 a1) (Bb r5 a1) (Bc r5 a1) a2) (Ps_x (Bg r5 a1) (Ba r5 a1) a2) (Ps_y (Ba r5 a1) a2) 10 0), .long (Tr_vx (Ps_x (Bg r5 a1) (Ba r5 a1) a2) (Ps_y (Ba r5 a1) a2) 10 0 a3), .long (Tr_uy (Ps_d a2) (Ps_s (Bg r5 a1) (Ba r5 a1) a2) (Int32.toInt64 (Ba r5 a1)) (Ps_e (Bg r5 a1) (Ba r5 a1) (Bb r5 a1) (Bc r5 a1) a2) (Ps_x (Bg r5 a1) (Ba r5 a1) a2) (Ps_y (Ba r5 a1) a2) 10 0), .long (Tr_vy (Ps_x (Bg r5 a1) (Ba r5 a1) a2) (Ps_y (Ba r5 a1) a2) 10 0 a3)], x12, x13, x14, x15, x16, x17, x18, x19, x20, x21, x22, x23, x24, x25, x26, x27, x28, x29, x30, x31, x32], wm)) ∨ (((0 ≤ a1 ∧ a1 < r6 0) ∧ (0 ≤ a2 ∧ a2 < 40) ∧ (0 ≤ a3 ∧ a3 < 2)) ∧ (0 ≤ a4 ∧ a4 < 2) ∧ (¬ (0 < (Ps_s (Bg r5 a1) (Ba r5 a1) a2) ∧ 0 ≤ (Ps_k (Bg r5 a1) (Ba r5 a1) (Bb r5 a1) (Bc r5 a1) a2))) ∧ r = some (.int (-1000000000)) ∧ w' = ([ob 8 [.int 5, .ref 1, .ref 4, .ref 7, .ref 10, .ref 11, .ref 12, .ref 18, .ref 25, .ref 29], x1, x2, x3, ob 2 [.ref 5, .ref 6], ia 56 r5, ia 4 r6, x7, x8, x9, ob 3 [.int (Bg r5 a1), .int (Ba r5 a1), .int (Bb r5 a1), .int (Bc r5 a1)], ob 5 [.long (Ps_n a2), .long (Ps_d a2), .long (Ps_s (Bg r5 a1) (Ba r5 a1) a2), .long (Ps_k (Bg r5 a1) (Ba r5 a1) (Bb r5 a1) (Bc r5 a1) a2), .long (Int32.toInt64 (Bg r5 a1)), .long (Int32.toInt64 (Ba r5 a1)), .long (Int32.toInt64 (Bb r5 a1)), .long (Int32.toInt64 (Bc r5 a1)), .long (Ps_c a2), .long (Ps_e (Bg r5 a1) (Ba r5 a1) (Bb r5 a1) (Bc r5 a1) a2), .long (Ps_x (Bg r5 a1) (Ba r5 a1) a2), .long (Ps_y (Ba r5 a1) a2), .long f11_12, .long f11_13, .long f11_14, .long f11_15], x12, x13, x14, x15, x16, x17, x18, x19, x20, x21, x22, x23, x24, x25, x26, x27, x28, x29, x30, x31, x32], wm)) ∨ (((0 ≤ a1 ∧ a1 < r6 0) ∧ (0 ≤ a2 ∧ a2 < 40) ∧ (0 ≤ a3 ∧ a3 < 2)) ∧ (¬ (0 ≤ a4 ∧ a4 < 2)) ∧ r = some (.int (-1000000000)) ∧ w' = ([ob 8 [.int 1, .ref 1, .ref 4, .ref 7, .ref 10, .ref 11, .ref 12, .ref 18, .ref 25, .ref 29], x1, x2, x3, ob 2 [.ref 5, .ref 6], ia 56 r5, ia 4 r6, x7, x8, x9, ob 3 [.int f10_0, .int f10_1, .int f10_2, .int f10_3], ob 5 [.long f11_0, .long f11_1, .long f11_2, .long f11_3, .long f11_4, .long f11_5, .long f11_6, .long f11_7, .long f11_8, .long f11_9, .long f11_10, .long f11_11, .long f11_12, .long f11_13, .long f11_14, .long f11_15], x12, x13, x14, x15, x16, x17, x18, x19, x20, x21, x22, x23, x24, x25, x26, x27, x28, x29, x30, x31, x32], wm)) ∨ ((¬ ((0 ≤ a1 ∧ a1 < r6 0) ∧ (0 ≤ a2 ∧ a2 < 40) ∧ (0 ≤ a3 ∧ a3 < 2))) ∧ r = some (.int (-1000000000)) ∧ w' = ([ob 8 [.int 1, .ref 1, .ref 4, .ref 7, .ref 10, .ref 11, .ref 12, .ref 18, .ref 25, .ref 29], x1, x2, x3, ob 2 [.ref 5, .ref 6], ia 56 r5, ia 4 r6, x7, x8, x9, ob 3 [.int f10_0, .int f10_1, .int f10_2, .int f10_3], ob 5 [.long f11_0, .long f11_1, .long f11_2, .long f11_3, .long f11_4, .long f11_5, .long f11_6, .long f11_7, .long f11_8, .long f11_9, .long f11_10, .long f11_11, .long f11_12, .long f11_13, .long f11_14, .long f11_15], x12, x13, x14, x15, x16, x17, x18, x19, x20, x21, x22, x23, x24, x25, x26, x27, x28, x29, x30, x31, x32], wm))) := by
  refine ct_of ⟨by decide, rfl⟩ (Nat.le_of_ble_eq_true rfl) ?_
  refine ab_aload_n dX10_joint_0 rfl ?_
  refine ab_aload_n dX10_joint_1 rfl ?_
  refine ab_iload_n dX10_joint_2 rfl ?_
  refine ab_iload_n dX10_joint_3 rfl ?_
  refine ab_iload_n dX10_joint_4 rfl ?_
  refine ab_callV (As := [.int a1, .int a2, .int a3]) (rest := [.ref 0]) dX10_joint_5 mv_X10_hasPosition ml_X10_199 ⟨by decide, by decide, rfl, rfl, rfl⟩ (by decide) rfl rfl (Nat.le_of_ble_eq_true rfl) rfl c_X10_hasPosition ?_
  rintro r w' (⟨c_1, rfl, rfl⟩ | ⟨c_2, rfl, rfl⟩)
  · refine ab_ifeq 24 dX10_joint_8 (by decide) (fun h_3 => absurd h_3 (by decide)) (fun h_3 => ?_)
    refine ab_iload dX10_joint_11 rfl ?_
    refine ab_iconst (v := 2) dX10_joint_13 (by decide) ?_
    refine ab_callS (As := [.int a4, .int 2]) (rest := [.ref 0]) dX10_joint_14 ms_X10_isOf ml_X10_118 ⟨by decide, by decide, rfl, rfl, rfl⟩ (by decide) rfl rfl (Nat.le_of_ble_eq_true rfl) c_X10_isOf ?_
    rintro r w' (⟨c_4, rfl, rfl⟩ | ⟨c_5, rfl, rfl⟩)
    · refine ab_ifeq 24 dX10_joint_17 (by decide) (fun h_6 => absurd h_6 (by decide)) (fun h_6 => ?_)
      refine ab_iconst (v := 1) dX10_joint_20 (by decide) ?_
      refine ab_goto 25 dX10_joint_21 (by decide) ?_
      refine ab_iconst (v := 1) dX10_joint_25 (by decide) ?_
      refine ab_callV (As := [.int 1, .int 1]) (rest := []) dX10_joint_26 mv_X10_refused ml_X10_84 ⟨by decide, by decide, rfl, rfl, rfl⟩ (by decide) rfl rfl (Nat.le_of_ble_eq_true rfl) rfl c_X10_refused_1 ?_
      rintro r w' ⟨rfl, rfl⟩
      refine ab_ifeq 35 dX10_joint_29 (by decide) (fun h_7 => ?_) (fun h_7 => absurd (by decide) h_7)
      refine ab_aload_n dX10_joint_35 rfl ?_
      refine ab_aload_n dX10_joint_36 rfl ?_
      refine ab_iload_n dX10_joint_37 rfl ?_
      refine ab_iload_n dX10_joint_38 rfl ?_
      refine ab_callV (As := [.int a1, .int a2]) (rest := [.ref 0]) dX10_joint_39 mv_X10_positionAt ml_X10_166 ⟨by decide, by decide, rfl, rfl, rfl⟩ (by decide) rfl rfl (Nat.le_of_ble_eq_true rfl) rfl (c_X10_positionAt c_1.1 h_c0 c_1.2.1) ?_
      rintro r w' ⟨rfl, rfl⟩
      refine ab_callV (As := []) (rest := [.ref 0]) dX10_joint_42 mv_X5_isLawful ml_X10_203 ⟨by decide, by decide, rfl, rfl, rfl⟩ (by decide) rfl rfl (Nat.le_of_ble_eq_true rfl) rfl c_X5_isLawful ?_
      rintro r w' (⟨c_8, rfl, rfl⟩ | ⟨c_9, rfl, rfl⟩)
      · refine ab_iconst (v := 5) dX10_joint_45 (by decide) ?_
        refine ab_callV (As := [.int 1, .int 5]) (rest := []) dX10_joint_46 mv_X10_refused ml_X10_84 ⟨by decide, by decide, rfl, rfl, rfl⟩ (by decide) rfl rfl (Nat.le_of_ble_eq_true rfl) rfl c_X10_refused_1 ?_
        rintro r w' ⟨rfl, rfl⟩
        refine ab_ifeq 55 dX10_joint_49 (by decide) (fun h_10 => ?_) (fun h_10 => absurd (by decide) h_10)
        refine ab_aload_n dX10_joint_55 rfl ?_
        refine ab_getf dX10_joint_56 fl_X10_40 rfl rfl ?_
        refine ab_bipush (v := 10) dX10_joint_59 (by decide) ?_
        refine ab_iconst (v := 0) dX10_joint_61 (by decide) ?_
        refine ab_iload_n dX10_joint_62 rfl ?_
        refine ab_callV (As := [.int 10, .int 0, .int a3]) (rest := []) dX10_joint_63 mv_X5_trace ml_X10_206 ⟨by decide, by decide, rfl, rfl, rfl⟩ (by decide) rfl rfl (Nat.le_of_ble_eq_true rfl) rfl c_X5_trace ?_
        rintro r w' ⟨rfl, rfl⟩
        refine ab_iload dX10_joint_66 rfl ?_
        refine ab_ifne 81 dX10_joint_68 (by decide) (fun h_11 => ?_) (fun h_11 => ?_)
        · refine ab_aload_n dX10_joint_81 rfl ?_
          refine ab_getf dX10_joint_82 fl_X10_40 rfl rfl ?_
          refine ab_callV (As := []) (rest := []) dX10_joint_85 mv_X5_tenthsY ml_X10_213 ⟨by decide, by decide, rfl, rfl, rfl⟩ (by decide) rfl rfl (Nat.le_of_ble_eq_true rfl) rfl (c_X5_tenthsY (h_q1 c_1 c_4 c_8 h_11) (h_q2 c_1 c_4 c_8 h_11)) ?_
          rintro r w' ⟨rfl, rfl⟩
          exact ab_iret dX10_joint_88 rfl (by decide) (Or.inl ⟨c_1, c_4, c_8, h_11, rfl, rfl⟩)
        · refine ab_aload_n dX10_joint_71 rfl ?_
          refine ab_getf dX10_joint_72 fl_X10_40 rfl rfl ?_
          refine ab_callV (As := []) (rest := []) dX10_joint_75 mv_X5_tenthsX ml_X10_210 ⟨by decide, by decide, rfl, rfl, rfl⟩ (by decide) rfl rfl (Nat.le_of_ble_eq_true rfl) rfl (c_X5_tenthsX (h_q3 c_1 c_4 c_8 h_11) (h_q4 c_1 c_4 c_8 h_11)) ?_
          rintro r w' ⟨rfl, rfl⟩
          refine ab_goto 88 dX10_joint_78 (by decide) ?_
          exact ab_iret dX10_joint_88 rfl (by decide) (Or.inr (Or.inl ⟨c_1, c_4, c_8, h_11, rfl, rfl⟩))
      · refine ab_iconst (v := 5) dX10_joint_45 (by decide) ?_
        refine ab_callV (As := [.int 0, .int 5]) (rest := []) dX10_joint_46 mv_X10_refused ml_X10_84 ⟨by decide, by decide, rfl, rfl, rfl⟩ (by decide) rfl rfl (Nat.le_of_ble_eq_true rfl) rfl c_X10_refused_0 ?_
        rintro r w' ⟨rfl, rfl⟩
        refine ab_ifeq 55 dX10_joint_49 (by decide) (fun h_12 => absurd h_12 (by decide)) (fun h_12 => ?_)
        refine ab_ldc dX10_joint_52 kc_X10_122 ?_
        exact ab_iret dX10_joint_54 rfl (by decide) (Or.inr (Or.inr (Or.inl ⟨c_1, c_4, c_9, rfl, rfl⟩)))
    · refine ab_ifeq 24 dX10_joint_17 (by decide) (fun h_13 => ?_) (fun h_13 => absurd (by decide) h_13)
      refine ab_iconst (v := 0) dX10_joint_24 (by decide) ?_
      refine ab_iconst (v := 1) dX10_joint_25 (by decide) ?_
      refine ab_callV (As := [.int 0, .int 1]) (rest := []) dX10_joint_26 mv_X10_refused ml_X10_84 ⟨by decide, by decide, rfl, rfl, rfl⟩ (by decide) rfl rfl (Nat.le_of_ble_eq_true rfl) rfl c_X10_refused_0 ?_
      rintro r w' ⟨rfl, rfl⟩
      refine ab_ifeq 35 dX10_joint_29 (by decide) (fun h_14 => absurd h_14 (by decide)) (fun h_14 => ?_)
      refine ab_ldc dX10_joint_32 kc_X10_122 ?_
      exact ab_iret dX10_joint_34 rfl (by decide) (Or.inr (Or.inr (Or.inr (Or.inl ⟨c_1, c_5, rfl, rfl⟩))))
  · refine ab_ifeq 24 dX10_joint_8 (by decide) (fun h_15 => ?_) (fun h_15 => absurd (by decide) h_15)
    refine ab_iconst (v := 0) dX10_joint_24 (by decide) ?_
    refine ab_iconst (v := 1) dX10_joint_25 (by decide) ?_
    refine ab_callV (As := [.int 0, .int 1]) (rest := []) dX10_joint_26 mv_X10_refused ml_X10_84 ⟨by decide, by decide, rfl, rfl, rfl⟩ (by decide) rfl rfl (Nat.le_of_ble_eq_true rfl) rfl c_X10_refused_0 ?_
    rintro r w' ⟨rfl, rfl⟩
    refine ab_ifeq 35 dX10_joint_29 (by decide) (fun h_16 => absurd h_16 (by decide)) (fun h_16 => ?_)
    refine ab_ldc dX10_joint_32 kc_X10_122 ?_
    exact ab_iret dX10_joint_34 rfl (by decide) (Or.inr (Or.inr (Or.inr (Or.inr (⟨c_2, rfl, rfl⟩)))))
theorem c_X10_exact {f0_0 f10_0 f10_1 f10_2 f10_3 a1 a2 a3 a4 : Int32} {x1 x2 x3 x7 x8 x9 x12 x13 x14 x15 x16 x17 x18 x19 x20 x21 x22 x23 x24 x25 x26 x27 x28 x29 x30 x31 x32 : ax_E} {r5 r6 : Nat → Int32} {f11_0 f11_1 f11_2 f11_3 f11_4 f11_5 f11_6 f11_7 f11_8 f11_9 f11_10 f11_11 f11_12 f11_13 f11_14 f11_15 : Int64} {wm : List ax_E} (h_c0 : r6 0 ≤ nI 4) (h_q1 : ((0 ≤ a1 ∧ a1 < r6 0) ∧ (0 ≤ a2 ∧ a2 < 40) ∧ (0 ≤ a3 ∧ a3 < 2)) → (0 ≤ a4 ∧ a4 < 6) → (0 < (Ps_s (Bg r5 a1) (Ba r5 a1) a2) ∧ 0 ≤ (Ps_k (Bg r5 a1) (Ba r5 a1) (Bb r5 a1) (Bc r5 a1) a2)) → (3 ≤ a4) → ((((2 * (Int32.toInt64 (Ba r5 a1))) * (Ps_d a2)) * (Ps_s (Bg r5 a1) (Ba r5 a1) a2)) + ((Ps_e (Bg r5 a1) (Ba r5 a1) (Bb r5 a1) (Bc r5 a1) a2) * (Ps_y (Ba r5 a1) a2))).toInt ≠ -2 ^ 63) (h_q2 : ((0 ≤ a1 ∧ a1 < r6 0) ∧ (0 ≤ a2 ∧ a2 < 40) ∧ (0 ≤ a3 ∧ a3 < 2)) → (0 ≤ a4 ∧ a4 < 6) → (0 < (Ps_s (Bg r5 a1) (Ba r5 a1) a2) ∧ 0 ≤ (Ps_k (Bg r5 a1) (Ba r5 a1) (Bb r5 a1) (Bc r5 a1) a2)) → (3 ≤ a4) → ((Ps_x (Bg r5 a1) (Ba r5 a1) a2) * (Sgn a3)).toInt ≠ -2 ^ 63) (h_q3 : ((0 ≤ a1 ∧ a1 < r6 0) ∧ (0 ≤ a2 ∧ a2 < 40) ∧ (0 ≤ a3 ∧ a3 < 2)) → (0 ≤ a4 ∧ a4 < 6) → (0 < (Ps_s (Bg r5 a1) (Ba r5 a1) a2) ∧ 0 ≤ (Ps_k (Bg r5 a1) (Ba r5 a1) (Bb r5 a1) (Bc r5 a1) a2)) → (3 ≤ a4) → ((2 * (Ps_s (Bg r5 a1) (Ba r5 a1) a2)) * (Ps_n a2)).toInt ≠ -2 ^ 63) (h_q4 : ((0 ≤ a1 ∧ a1 < r6 0) ∧ (0 ≤ a2 ∧ a2 < 40) ∧ (0 ≤ a3 ∧ a3 < 2)) → (0 ≤ a4 ∧ a4 < 6) → (0 < (Ps_s (Bg r5 a1) (Ba r5 a1) a2) ∧ 0 ≤ (Ps_k (Bg r5 a1) (Ba r5 a1) (Bb r5 a1) (Bc r5 a1) a2)) → (¬ 3 ≤ a4) → ((((2 * (Int32.toInt64 (Ba r5 a1))) * (Ps_c a2)) * (Ps_s (Bg r5 a1) (Ba r5 a1) a2)) + ((Ps_e (Bg r5 a1) (Ba r5 a1) (Bb r5 a1) (Bc r5 a1) a2) * (Ps_x (Bg r5 a1) (Ba r5 a1) a2))).toInt ≠ -2 ^ 63) (h_q5 : ((0 ≤ a1 ∧ a1 < r6 0) ∧ (0 ≤ a2 ∧ a2 < 40) ∧ (0 ≤ a3 ∧ a3 < 2)) → (0 ≤ a4 ∧ a4 < 6) → (0 < (Ps_s (Bg r5 a1) (Ba r5 a1) a2) ∧ 0 ≤ (Ps_k (Bg r5 a1) (Ba r5 a1) (Bb r5 a1) (Bc r5 a1) a2)) → (¬ 3 ≤ a4) → ((-(Ps_y (Ba r5 a1) a2)) * (Sgn a3)).toInt ≠ -2 ^ 63) (h_q6 : ((0 ≤ a1 ∧ a1 < r6 0) ∧ (0 ≤ a2 ∧ a2 < 40) ∧ (0 ≤ a3 ∧ a3 < 2)) → (0 ≤ a4 ∧ a4 < 6) → (0 < (Ps_s (Bg r5 a1) (Ba r5 a1) a2) ∧ 0 ≤ (Ps_k (Bg r5 a1) (Ba r5 a1) (Bb r5 a1) (Bc r5 a1) a2)) → (¬ 3 ≤ a4) → ((2 * (Ps_s (Bg r5 a1) (Ba r5 a1) a2)) * (Ps_n a2)).toInt ≠ -2 ^ 63) : Ct M_X10_exact [.ref 0, .int a1, .int a2, .int a3, .int a4] ([ob 8 [.int f0_0, .ref 1, .ref 4, .ref 7, .ref 10, .ref 11, .ref 12, .ref 18, .ref 25, .ref 29], x1, x2, x3, ob 2 [.ref 5, .ref 6], ia 56 r5, ia 4 r6, x7, x8, x9, ob 3 [.int f10_0, .int f10_1, .int f10_2, .int f10_3], ob 5 [.long f11_0, .long f11_1, .long f11_2, .long f11_3, .long f11_4, .long f11_5, .long f11_6, .long f11_7, .long f11_8, .long f11_9, .long f11_10, .long f11_11, .long f11_12, .long f11_13, .long f11_14, .long f11_15], x12, x13, x14, x15, x16, x17, x18, x19, x20, x21, x22, x23, x24, x25, x26, x27, x28, x29, x30, x31, x32], wm) (fun r w' => (((0 ≤ a1 ∧ a1 < r6 0) ∧ (0 ≤ a2 ∧ a2 < 40) ∧ (0 ≤ a3 ∧ a3 < 2)) ∧ (0 ≤ a4 ∧ a4 < 6) ∧ (0 < (Ps_s (Bg r5 a1) (Ba r5 a1) a2) ∧ 0 ≤ (Ps_k (Bg r5 a1) (Ba r5 a1) (Bb r5 a1) (Bc r5 a1) a2)) ∧ (3 ≤ a4) ∧ r = some (.long (Rd3 ((((2 * (Int32.toInt64 (Ba r5 a1))) * (Ps_d a2)) * (Ps_s (Bg r5 a1) (Ba r5 a1) a2)) + ((Ps_e (Bg r5 a1) (Ba r5 a1) (Bb r5 a1) (Bc r5 a1) a2) * (Ps_y (Ba r5 a1) a2))) ((Ps_x (Bg r5 a1) (Ba r5 a1) a2) * (Sgn a3)) ((2 * (Ps_s (Bg r5 a1) (Ba r5 a1) a2)) * (Ps_n a2)) (a4 - 3))) ∧ w' = ([ob 8 [.int 0, .ref 1, .ref 4, .ref 7, .ref 10, .ref 11, .ref 12, .ref 18, .ref 25, .ref 29], x1, x2, x3, ob 2 [.ref 5, .ref 6], ia 56 r5, ia 4 r6, x7, x8, x9, ob 3 [.int (Bg r5 a1), .int (Ba r5 a1), .int (Bb r5 a1), .int (Bc r5 a1)], ob 5 [.long (Ps_n a2), .long (Ps_d a2), .long (Ps_s (Bg r5 a1) (Ba r5 a1) a2), .long (Ps_k (Bg r5 a1) (Ba r5 a1) (Bb r5 a1) (Bc r5 a1) a2), .long (Int32.toInt64 (Bg r5 a1)), .long (Int32.toInt64 (Ba r5 a1)), .long (Int32.toInt64 (Bb r5 a1)), .long (Int32.toInt64 (Bc r5 a1)), .long (Ps_c a2), .long (Ps_e (Bg r5 a1) (Ba r5 a1) (Bb r5 a1) (Bc r5 a1) a2), .long (Ps_x (Bg r5 a1) (Ba r5 a1) a2), .long (Ps_y (Ba r5 a1) a2), .long f11_12, .long f11_13, .long f11_14, .long f11_15], x12, x13, x14, x15, x16, x17, x18, x19, x20, x21, x22, x23, x24, x25, x26, x27, x28, x29, x30, x31, x32], wm)) ∨ (((0 ≤ a1 ∧ a1 < r6 0) ∧ (0 ≤ a2 ∧ a2 < 40) ∧ (0 ≤ a3 ∧ a3 < 2)) ∧ (0 ≤ a4 ∧ a4 < 6) ∧ (0 < (Ps_s (Bg r5 a1) (Ba r5 a1) a2) ∧ 0 ≤ (Ps_k (Bg r5 a1) (Ba r5 a1) (Bb r5 a1) (Bc r5 a1) a2)) ∧ (¬ 3 ≤ a4) ∧ r = some (.long (Rd3 ((((2 * (Int32.toInt64 (Ba r5 a1))) * (Ps_c a2)) * (Ps_s (Bg r5 a1) (Ba r5 a1) a2)) + ((Ps_e (Bg r5 a1) (Ba r5 a1) (Bb r5 a1) (Bc r5 a1) a2) * (Ps_x (Bg r5 a1) (Ba r5 a1) a2))) ((-(Ps_y (Ba r5 a1) a2)) * (Sgn a3)) ((2 * (Ps_s (Bg r5 a1) (Ba r5 a1) a2)) * (Ps_n a2)) a4)) ∧ w' = ([ob 8 [.int 0, .ref 1, .ref 4, .ref 7, .ref 10, .ref 11, .ref 12, .ref 18, .ref 25, .ref 29], x1, x2, x3, ob 2 [.ref 5, .ref 6], ia 56 r5, ia 4 r6, x7, x8, x9, ob 3 [.int (Bg r5 a1), .int (Ba r5 a1), .int (Bb r5 a1), .int (Bc r5 a1)], ob 5 [.long (Ps_n a2), .long (Ps_d a2), .long (Ps_s (Bg r5 a1) (Ba r5 a1) a2), .long (Ps_k (Bg r5 a1) (Ba r5 a1) (Bb r5 a1) (Bc r5 a1) a2), .long (Int32.toInt64 (Bg r5 a1)), .long (Int32.toInt64 (Ba r5 a1)), .long (Int32.toInt64 (Bb r5 a1)), .long (Int32.toInt64 (Bc r5 a1)), .long (Ps_c a2), .long (Ps_e (Bg r5 a1) (Ba r5 a1) (Bb r5 a1) (Bc r5 a1) a2), .long (Ps_x (Bg r5 a1) (Ba r5 a1) a2), .long (Ps_y (Ba r5 a1) a2), .long f11_12, .long f11_13, .long f11_14, .long f11_15], x12, x13, x14, x15, x16, x17, x18, x19, x20, x21, x22, x23, x24, x25, x26, x27, x28, x29, x30, x31, x32], wm)) ∨ (((0 ≤ a1 ∧ a1 < r6 0) ∧ (0 ≤ a2 ∧ a2 < 40) ∧ (0 ≤ a3 ∧ a3 < 2)) ∧ (0 ≤ a4 ∧ a4 < 6) ∧ (¬ (0 < (Ps_s (Bg r5 a1) (Ba r5 a1) a2) ∧ 0 ≤ (Ps_k (Bg r5 a1) (Ba r5 a1) (Bb r5 a1) (Bc r5 a1) a2))) ∧ r = some (.long (-9223372036854775808)) ∧ w' = ([ob 8 [.int 5, .ref 1, .ref 4, .ref 7, .ref 10, .ref 11, .ref 12, .ref 18, .ref 25, .ref 29], x1, x2, x3, ob 2 [.ref 5, .ref 6], ia 56 r5, ia 4 r6, x7, x8, x9, ob 3 [.int (Bg r5 a1), .int (Ba r5 a1), .int (Bb r5 a1), .int (Bc r5 a1)], ob 5 [.long (Ps_n a2), .long (Ps_d a2), .long (Ps_s (Bg r5 a1) (Ba r5 a1) a2), .long (Ps_k (Bg r5 a1) (Ba r5 a1) (Bb r5 a1) (Bc r5 a1) a2), .long (Int32.toInt64 (Bg r5 a1)), .long (Int32.toInt64 (Ba r5 a1)), .long (Int32.toInt64 (Bb r5 a1)), .long (Int32.toInt64 (Bc r5 a1)), .long (Ps_c a2), .long (Ps_e (Bg r5 a1) (Ba r5 a1) (Bb r5 a1) (Bc r5 a1) a2), .long (Ps_x (Bg r5 a1) (Ba r5 a1) a2), .long (Ps_y (Ba r5 a1) a2), .long f11_12, .long f11_13, .long f11_14, .long f11_15], x12, x13, x14, x15, x16, x17, x18, x19, x20, x21, x22, x23, x24, x25, x26, x27, x28, x29, x30, x31, x32], wm)) ∨ (((0 ≤ a1 ∧ a1 < r6 0) ∧ (0 ≤ a2 ∧ a2 < 40) ∧ (0 ≤ a3 ∧ a3 < 2)) ∧ (¬ (0 ≤ a4 ∧ a4 < 6)) ∧ r = some (.long (-9223372036854775808)) ∧ w' = ([ob 8 [.int 1, .ref 1, .ref 4, .ref 7, .ref 10, .ref 11, .ref 12, .ref 18, .ref 25, .ref 29], x1, x2, x3, ob 2 [.ref 5, .ref 6], ia 56 r5, ia 4 r6, x7, x8, x9, ob 3 [.int f10_0, .int f10_1, .int f10_2, .int f10_3], ob 5 [.long f11_0, .long f11_1, .long f11_2, .long f11_3, .long f11_4, .long f11_5, .long f11_6, .long f11_7, .long f11_8, .long f11_9, .long f11_10, .long f11_11, .long f11_12, .long f11_13, .long f11_14, .long f11_15], x12, x13, x14, x15, x16, x17, x18, x19, x20, x21, x22, x23, x24, x25, x26, x27, x28, x29, x30, x31, x32], wm)) ∨ ((¬ ((0 ≤ a1 ∧ a1 < r6 0) ∧ (0 ≤ a2 ∧ a2 < 40) ∧ (0 ≤ a3 ∧ a3 < 2))) ∧ r = some (.long (-9223372036854775808)) ∧ w' = ([ob 8 [.int 1, .ref 1, .ref 4, .ref 7, .ref 10, .ref 11, .ref 12, .ref 18, .ref 25, .ref 29], x1, x2, x3, ob 2 [.ref 5, .ref 6], ia 56 r5, ia 4 r6, x7, x8, x9, ob 3 [.int f10_0, .int f10_1, .int f10_2, .int f10_3], ob 5 [.long f11_0, .long f11_1, .long f11_2, .long f11_3, .long f11_4, .long f11_5, .long f11_6, .long f11_7, .long f11_8, .long f11_9, .long f11_10, .long f11_11, .long f11_12, .long f11_13, .long f11_14, .long f11_15], x12, x13, x14, x15, x16, x17, x18, x19, x20, x21, x22, x23, x24, x25, x26, x27, x28, x29, x30, x31, x32], wm))) := by
  refine ct_of ⟨by decide, rfl⟩ (Nat.le_of_ble_eq_true rfl) ?_
  refine ab_aload_n dX10_exact_0 rfl ?_
  refine ab_aload_n dX10_exact_1 rfl ?_
  refine ab_iload_n dX10_exact_2 rfl ?_
  refine ab_iload_n dX10_exact_3 rfl ?_
  refine ab_iload_n dX10_exact_4 rfl ?_
  refine ab_callV (As := [.int a1, .int a2, .int a3]) (rest := [.ref 0]) dX10_exact_5 mv_X10_hasPosition ml_X10_199 ⟨by decide, by decide, rfl, rfl, rfl⟩ (by decide) rfl rfl (Nat.le_of_ble_eq_true rfl) rfl c_X10_hasPosition ?_
  rintro r w' (⟨c_1, rfl, rfl⟩ | ⟨c_2, rfl, rfl⟩)
  · refine ab_ifeq 25 dX10_exact_8 (by decide) (fun h_3 => absurd h_3 (by decide)) (fun h_3 => ?_)
    refine ab_iload dX10_exact_11 rfl ?_
    refine ab_bipush (v := 6) dX10_exact_13 (by decide) ?_
    refine ab_callS (As := [.int a4, .int 6]) (rest := [.ref 0]) dX10_exact_15 ms_X10_isOf ml_X10_118 ⟨by decide, by decide, rfl, rfl, rfl⟩ (by decide) rfl rfl (Nat.le_of_ble_eq_true rfl) c_X10_isOf ?_
    rintro r w' (⟨c_4, rfl, rfl⟩ | ⟨c_5, rfl, rfl⟩)
    · refine ab_ifeq 25 dX10_exact_18 (by decide) (fun h_6 => absurd h_6 (by decide)) (fun h_6 => ?_)
      refine ab_iconst (v := 1) dX10_exact_21 (by decide) ?_
      refine ab_goto 26 dX10_exact_22 (by decide) ?_
      refine ab_iconst (v := 1) dX10_exact_26 (by decide) ?_
      refine ab_callV (As := [.int 1, .int 1]) (rest := []) dX10_exact_27 mv_X10_refused ml_X10_84 ⟨by decide, by decide, rfl, rfl, rfl⟩ (by decide) rfl rfl (Nat.le_of_ble_eq_true rfl) rfl c_X10_refused_1 ?_
      rintro r w' ⟨rfl, rfl⟩
      refine ab_ifeq 37 dX10_exact_30 (by decide) (fun h_7 => ?_) (fun h_7 => absurd (by decide) h_7)
      refine ab_aload_n dX10_exact_37 rfl ?_
      refine ab_aload_n dX10_exact_38 rfl ?_
      refine ab_iload_n dX10_exact_39 rfl ?_
      refine ab_iload_n dX10_exact_40 rfl ?_
      refine ab_callV (As := [.int a1, .int a2]) (rest := [.ref 0]) dX10_exact_41 mv_X10_positionAt ml_X10_166 ⟨by decide, by decide, rfl, rfl, rfl⟩ (by decide) rfl rfl (Nat.le_of_ble_eq_true rfl) rfl (c_X10_positionAt c_1.1 h_c0 c_1.2.1) ?_
      rintro r w' ⟨rfl, rfl⟩
      refine ab_callV (As := []) (rest := [.ref 0]) dX10_exact_44 mv_X5_isLawful ml_X10_203 ⟨by decide, by decide, rfl, rfl, rfl⟩ (by decide) rfl rfl (Nat.le_of_ble_eq_true rfl) rfl c_X5_isLawful ?_
      rintro r w' (⟨c_8, rfl, rfl⟩ | ⟨c_9, rfl, rfl⟩)
      · refine ab_iconst (v := 5) dX10_exact_47 (by decide) ?_
        refine ab_callV (As := [.int 1, .int 5]) (rest := []) dX10_exact_48 mv_X10_refused ml_X10_84 ⟨by decide, by decide, rfl, rfl, rfl⟩ (by decide) rfl rfl (Nat.le_of_ble_eq_true rfl) rfl c_X10_refused_1 ?_
        rintro r w' ⟨rfl, rfl⟩
        refine ab_ifeq 58 dX10_exact_51 (by decide) (fun h_10 => ?_) (fun h_10 => absurd (by decide) h_10)
        refine ab_iload dX10_exact_58 rfl ?_
        refine ab_iconst (v := 3) dX10_exact_60 (by decide) ?_
        refine ab_icmpge 77 dX10_exact_61 (by decide) (fun h_11 => ?_) (fun h_11 => ?_)
        · refine ab_aload_n dX10_exact_77 rfl ?_
          refine ab_getf dX10_exact_78 fl_X10_40 rfl rfl ?_
          refine ab_iload_n dX10_exact_81 rfl ?_
          refine ab_iload dX10_exact_82 rfl ?_
          refine ab_iconst (v := 3) dX10_exact_84 (by decide) ?_
          refine ab_isub dX10_exact_85 ?_
          refine ab_callV (As := [.int a3, .int (a4 - 3)]) (rest := []) dX10_exact_86 mv_X5_jointY ml_X10_220 ⟨by decide, by decide, rfl, rfl, rfl⟩ (by decide) rfl rfl (Nat.le_of_ble_eq_true rfl) rfl (c_X5_jointY (h_q1 c_1 c_4 c_8 h_11) (h_q2 c_1 c_4 c_8 h_11) (h_q3 c_1 c_4 c_8 h_11)) ?_
          rintro r w' ⟨rfl, rfl⟩
          exact ab_lret dX10_exact_89 rfl (by decide) (Or.inl ⟨c_1, c_4, c_8, h_11, rfl, rfl⟩)
        · refine ab_aload_n dX10_exact_64 rfl ?_
          refine ab_getf dX10_exact_65 fl_X10_40 rfl rfl ?_
          refine ab_iload_n dX10_exact_68 rfl ?_
          refine ab_iload dX10_exact_69 rfl ?_
          refine ab_callV (As := [.int a3, .int a4]) (rest := []) dX10_exact_71 mv_X5_jointX ml_X10_216 ⟨by decide, by decide, rfl, rfl, rfl⟩ (by decide) rfl rfl (Nat.le_of_ble_eq_true rfl) rfl (c_X5_jointX (h_q4 c_1 c_4 c_8 h_11) (h_q5 c_1 c_4 c_8 h_11) (h_q6 c_1 c_4 c_8 h_11)) ?_
          rintro r w' ⟨rfl, rfl⟩
          refine ab_goto 89 dX10_exact_74 (by decide) ?_
          exact ab_lret dX10_exact_89 rfl (by decide) (Or.inr (Or.inl ⟨c_1, c_4, c_8, h_11, rfl, rfl⟩))
      · refine ab_iconst (v := 5) dX10_exact_47 (by decide) ?_
        refine ab_callV (As := [.int 0, .int 5]) (rest := []) dX10_exact_48 mv_X10_refused ml_X10_84 ⟨by decide, by decide, rfl, rfl, rfl⟩ (by decide) rfl rfl (Nat.le_of_ble_eq_true rfl) rfl c_X10_refused_0 ?_
        rintro r w' ⟨rfl, rfl⟩
        refine ab_ifeq 58 dX10_exact_51 (by decide) (fun h_12 => absurd h_12 (by decide)) (fun h_12 => ?_)
        refine ab_ldc2 dX10_exact_54 kl_X10_194 ?_
        exact ab_lret dX10_exact_57 rfl (by decide) (Or.inr (Or.inr (Or.inl ⟨c_1, c_4, c_9, rfl, rfl⟩)))
    · refine ab_ifeq 25 dX10_exact_18 (by decide) (fun h_13 => ?_) (fun h_13 => absurd (by decide) h_13)
      refine ab_iconst (v := 0) dX10_exact_25 (by decide) ?_
      refine ab_iconst (v := 1) dX10_exact_26 (by decide) ?_
      refine ab_callV (As := [.int 0, .int 1]) (rest := []) dX10_exact_27 mv_X10_refused ml_X10_84 ⟨by decide, by decide, rfl, rfl, rfl⟩ (by decide) rfl rfl (Nat.le_of_ble_eq_true rfl) rfl c_X10_refused_0 ?_
      rintro r w' ⟨rfl, rfl⟩
      refine ab_ifeq 37 dX10_exact_30 (by decide) (fun h_14 => absurd h_14 (by decide)) (fun h_14 => ?_)
      refine ab_ldc2 dX10_exact_33 kl_X10_194 ?_
      exact ab_lret dX10_exact_36 rfl (by decide) (Or.inr (Or.inr (Or.inr (Or.inl ⟨c_1, c_5, rfl, rfl⟩))))
  · refine ab_ifeq 25 dX10_exact_8 (by decide) (fun h_15 => ?_) (fun h_15 => absurd (by decide) h_15)
    refine ab_iconst (v := 0) dX10_exact_25 (by decide) ?_
    refine ab_iconst (v := 1) dX10_exact_26 (by decide) ?_
    refine ab_callV (As := [.int 0, .int 1]) (rest := []) dX10_exact_27 mv_X10_refused ml_X10_84 ⟨by decide, by decide, rfl, rfl, rfl⟩ (by decide) rfl rfl (Nat.le_of_ble_eq_true rfl) rfl c_X10_refused_0 ?_
    rintro r w' ⟨rfl, rfl⟩
    refine ab_ifeq 37 dX10_exact_30 (by decide) (fun h_16 => absurd h_16 (by decide)) (fun h_16 => ?_)
    refine ab_ldc2 dX10_exact_33 kl_X10_194 ?_
    exact ab_lret dX10_exact_36 rfl (by decide) (Or.inr (Or.inr (Or.inr (Or.inr (⟨c_2, rfl, rfl⟩)))))
theorem c_X10_rate {f0_0 f10_0 f10_1 f10_2 f10_3 a1 a2 a3 a4 : Int32} {x1 x2 x3 x7 x8 x9 x12 x13 x14 x15 x16 x17 x18 x19 x20 x21 x22 x23 x24 x25 x26 x27 x28 x29 x30 x31 x32 : ax_E} {r5 r6 : Nat → Int32} {f11_0 f11_1 f11_2 f11_3 f11_4 f11_5 f11_6 f11_7 f11_8 f11_9 f11_10 f11_11 f11_12 f11_13 f11_14 f11_15 : Int64} {wm : List ax_E} (h_c0 : r6 0 ≤ nI 4) (h_q1 : ((0 ≤ a1 ∧ a1 < r6 0) ∧ (0 ≤ a2 ∧ a2 < 40) ∧ (0 ≤ a3 ∧ a3 < 2)) → (0 ≤ a4 ∧ a4 < 3) → ((Ps_state (Ps_s (Bg r5 a1) (Ba r5 a1) a2) (Ps_k (Bg r5 a1) (Ba r5 a1) (Bb r5 a1) (Bc r5 a1) a2)) = 1) → (((Int32.toInt64 (Ba r5 a1)) * (((Int32.toInt64 (Ba r5 a1)) * (Ps_n a2)) - ((Int32.toInt64 (Bg r5 a1)) * (Ps_c a2)))) * (Ps_k (Bg r5 a1) (Ba r5 a1) (Bb r5 a1) (Bc r5 a1) a2)).toInt ≠ -2 ^ 63) (h_q2 : ((0 ≤ a1 ∧ a1 < r6 0) ∧ (0 ≤ a2 ∧ a2 < 40) ∧ (0 ≤ a3 ∧ a3 < 2)) → (0 ≤ a4 ∧ a4 < 3) → ((Ps_state (Ps_s (Bg r5 a1) (Ba r5 a1) a2) (Ps_k (Bg r5 a1) (Ba r5 a1) (Bb r5 a1) (Bc r5 a1) a2)) = 1) → (((((Int32.toInt64 (Ba r5 a1)) * (Int32.toInt64 (Bg r5 a1))) * (Ps_d a2)) * (Ps_e (Bg r5 a1) (Ba r5 a1) (Bb r5 a1) (Bc r5 a1) a2)) * (Sgn a3)).toInt ≠ -2 ^ 63) (h_q3 : ((0 ≤ a1 ∧ a1 < r6 0) ∧ (0 ≤ a2 ∧ a2 < 40) ∧ (0 ≤ a3 ∧ a3 < 2)) → (0 ≤ a4 ∧ a4 < 3) → ((Ps_state (Ps_s (Bg r5 a1) (Ba r5 a1) a2) (Ps_k (Bg r5 a1) (Ba r5 a1) (Bb r5 a1) (Bc r5 a1) a2)) = 1) → ((Ps_s (Bg r5 a1) (Ba r5 a1) a2) * (Ps_k (Bg r5 a1) (Ba r5 a1) (Bb r5 a1) (Bc r5 a1) a2)).toInt ≠ -2 ^ 63) : Ct M_X10_rate [.ref 0, .int a1, .int a2, .int a3, .int a4] ([ob 8 [.int f0_0, .ref 1, .ref 4, .ref 7, .ref 10, .ref 11, .ref 12, .ref 18, .ref 25, .ref 29], x1, x2, x3, ob 2 [.ref 5, .ref 6], ia 56 r5, ia 4 r6, x7, x8, x9, ob 3 [.int f10_0, .int f10_1, .int f10_2, .int f10_3], ob 5 [.long f11_0, .long f11_1, .long f11_2, .long f11_3, .long f11_4, .long f11_5, .long f11_6, .long f11_7, .long f11_8, .long f11_9, .long f11_10, .long f11_11, .long f11_12, .long f11_13, .long f11_14, .long f11_15], x12, x13, x14, x15, x16, x17, x18, x19, x20, x21, x22, x23, x24, x25, x26, x27, x28, x29, x30, x31, x32], wm) (fun r w' => (((0 ≤ a1 ∧ a1 < r6 0) ∧ (0 ≤ a2 ∧ a2 < 40) ∧ (0 ≤ a3 ∧ a3 < 2)) ∧ (0 ≤ a4 ∧ a4 < 3) ∧ (¬ (Ps_state (Ps_s (Bg r5 a1) (Ba r5 a1) a2) (Ps_k (Bg r5 a1) (Ba r5 a1) (Bb r5 a1) (Bc r5 a1) a2)) = 1) ∧ r = some (.long (-9223372036854775808)) ∧ w' = ([ob 8 [.int 5, .ref 1, .ref 4, .ref 7, .ref 10, .ref 11, .ref 12, .ref 18, .ref 25, .ref 29], x1, x2, x3, ob 2 [.ref 5, .ref 6], ia 56 r5, ia 4 r6, x7, x8, x9, ob 3 [.int (Bg r5 a1), .int (Ba r5 a1), .int (Bb r5 a1), .int (Bc r5 a1)], ob 5 [.long (Ps_n a2), .long (Ps_d a2), .long (Ps_s (Bg r5 a1) (Ba r5 a1) a2), .long (Ps_k (Bg r5 a1) (Ba r5 a1) (Bb r5 a1) (Bc r5 a1) a2), .long (Int32.toInt64 (Bg r5 a1)), .long (Int32.toInt64 (Ba r5 a1)), .long (Int32.toInt64 (Bb r5 a1)), .long (Int32.toInt64 (Bc r5 a1)), .long (Ps_c a2), .long (Ps_e (Bg r5 a1) (Ba r5 a1) (Bb r5 a1) (Bc r5 a1) a2), .long (Ps_x (Bg r5 a1) (Ba r5 a1) a2), .long (Ps_y (Ba r5 a1) a2), .long f11_12, .long f11_13, .long f11_14, .long f11_15], x12, x13, x14, x15, x16, x17, x18, x19, x20, x21, x22, x23, x24, x25, x26, x27, x28, x29, x30, x31, x32], wm)) ∨ (((0 ≤ a1 ∧ a1 < r6 0) ∧ (0 ≤ a2 ∧ a2 < 40) ∧ (0 ≤ a3 ∧ a3 < 2)) ∧ (0 ≤ a4 ∧ a4 < 3) ∧ ((Ps_state (Ps_s (Bg r5 a1) (Ba r5 a1) a2) (Ps_k (Bg r5 a1) (Ba r5 a1) (Bb r5 a1) (Bc r5 a1) a2)) = 1) ∧ r = some (.long (Rd3 (((Int32.toInt64 (Ba r5 a1)) * (((Int32.toInt64 (Ba r5 a1)) * (Ps_n a2)) - ((Int32.toInt64 (Bg r5 a1)) * (Ps_c a2)))) * (Ps_k (Bg r5 a1) (Ba r5 a1) (Bb r5 a1) (Bc r5 a1) a2)) (((((Int32.toInt64 (Ba r5 a1)) * (Int32.toInt64 (Bg r5 a1))) * (Ps_d a2)) * (Ps_e (Bg r5 a1) (Ba r5 a1) (Bb r5 a1) (Bc r5 a1) a2)) * (Sgn a3)) ((Ps_s (Bg r5 a1) (Ba r5 a1) a2) * (Ps_k (Bg r5 a1) (Ba r5 a1) (Bb r5 a1) (Bc r5 a1) a2)) a4)) ∧ w' = ([ob 8 [.int 0, .ref 1, .ref 4, .ref 7, .ref 10, .ref 11, .ref 12, .ref 18, .ref 25, .ref 29], x1, x2, x3, ob 2 [.ref 5, .ref 6], ia 56 r5, ia 4 r6, x7, x8, x9, ob 3 [.int (Bg r5 a1), .int (Ba r5 a1), .int (Bb r5 a1), .int (Bc r5 a1)], ob 5 [.long (Ps_n a2), .long (Ps_d a2), .long (Ps_s (Bg r5 a1) (Ba r5 a1) a2), .long (Ps_k (Bg r5 a1) (Ba r5 a1) (Bb r5 a1) (Bc r5 a1) a2), .long (Int32.toInt64 (Bg r5 a1)), .long (Int32.toInt64 (Ba r5 a1)), .long (Int32.toInt64 (Bb r5 a1)), .long (Int32.toInt64 (Bc r5 a1)), .long (Ps_c a2), .long (Ps_e (Bg r5 a1) (Ba r5 a1) (Bb r5 a1) (Bc r5 a1) a2), .long (Ps_x (Bg r5 a1) (Ba r5 a1) a2), .long (Ps_y (Ba r5 a1) a2), .long f11_12, .long f11_13, .long f11_14, .long f11_15], x12, x13, x14, x15, x16, x17, x18, x19, x20, x21, x22, x23, x24, x25, x26, x27, x28, x29, x30, x31, x32], wm)) ∨ (((0 ≤ a1 ∧ a1 < r6 0) ∧ (0 ≤ a2 ∧ a2 < 40) ∧ (0 ≤ a3 ∧ a3 < 2)) ∧ (¬ (0 ≤ a4 ∧ a4 < 3)) ∧ r = some (.long (-9223372036854775808)) ∧ w' = ([ob 8 [.int 1, .ref 1, .ref 4, .ref 7, .ref 10, .ref 11, .ref 12, .ref 18, .ref 25, .ref 29], x1, x2, x3, ob 2 [.ref 5, .ref 6], ia 56 r5, ia 4 r6, x7, x8, x9, ob 3 [.int f10_0, .int f10_1, .int f10_2, .int f10_3], ob 5 [.long f11_0, .long f11_1, .long f11_2, .long f11_3, .long f11_4, .long f11_5, .long f11_6, .long f11_7, .long f11_8, .long f11_9, .long f11_10, .long f11_11, .long f11_12, .long f11_13, .long f11_14, .long f11_15], x12, x13, x14, x15, x16, x17, x18, x19, x20, x21, x22, x23, x24, x25, x26, x27, x28, x29, x30, x31, x32], wm)) ∨ ((¬ ((0 ≤ a1 ∧ a1 < r6 0) ∧ (0 ≤ a2 ∧ a2 < 40) ∧ (0 ≤ a3 ∧ a3 < 2))) ∧ r = some (.long (-9223372036854775808)) ∧ w' = ([ob 8 [.int 1, .ref 1, .ref 4, .ref 7, .ref 10, .ref 11, .ref 12, .ref 18, .ref 25, .ref 29], x1, x2, x3, ob 2 [.ref 5, .ref 6], ia 56 r5, ia 4 r6, x7, x8, x9, ob 3 [.int f10_0, .int f10_1, .int f10_2, .int f10_3], ob 5 [.long f11_0, .long f11_1, .long f11_2, .long f11_3, .long f11_4, .long f11_5, .long f11_6, .long f11_7, .long f11_8, .long f11_9, .long f11_10, .long f11_11, .long f11_12, .long f11_13, .long f11_14, .long f11_15], x12, x13, x14, x15, x16, x17, x18, x19, x20, x21, x22, x23, x24, x25, x26, x27, x28, x29, x30, x31, x32], wm))) := by
  refine ct_of ⟨by decide, rfl⟩ (Nat.le_of_ble_eq_true rfl) ?_
  refine ab_aload_n dX10_rate_0 rfl ?_
  refine ab_aload_n dX10_rate_1 rfl ?_
  refine ab_iload_n dX10_rate_2 rfl ?_
  refine ab_iload_n dX10_rate_3 rfl ?_
  refine ab_iload_n dX10_rate_4 rfl ?_
  refine ab_callV (As := [.int a1, .int a2, .int a3]) (rest := [.ref 0]) dX10_rate_5 mv_X10_hasPosition ml_X10_199 ⟨by decide, by decide, rfl, rfl, rfl⟩ (by decide) rfl rfl (Nat.le_of_ble_eq_true rfl) rfl c_X10_hasPosition ?_
  rintro r w' (⟨c_1, rfl, rfl⟩ | ⟨c_2, rfl, rfl⟩)
  · refine ab_ifeq 24 dX10_rate_8 (by decide) (fun h_3 => absurd h_3 (by decide)) (fun h_3 => ?_)
    refine ab_iload dX10_rate_11 rfl ?_
    refine ab_iconst (v := 3) dX10_rate_13 (by decide) ?_
    refine ab_callS (As := [.int a4, .int 3]) (rest := [.ref 0]) dX10_rate_14 ms_X10_isOf ml_X10_118 ⟨by decide, by decide, rfl, rfl, rfl⟩ (by decide) rfl rfl (Nat.le_of_ble_eq_true rfl) c_X10_isOf ?_
    rintro r w' (⟨c_4, rfl, rfl⟩ | ⟨c_5, rfl, rfl⟩)
    · refine ab_ifeq 24 dX10_rate_17 (by decide) (fun h_6 => absurd h_6 (by decide)) (fun h_6 => ?_)
      refine ab_iconst (v := 1) dX10_rate_20 (by decide) ?_
      refine ab_goto 25 dX10_rate_21 (by decide) ?_
      refine ab_iconst (v := 1) dX10_rate_25 (by decide) ?_
      refine ab_callV (As := [.int 1, .int 1]) (rest := []) dX10_rate_26 mv_X10_refused ml_X10_84 ⟨by decide, by decide, rfl, rfl, rfl⟩ (by decide) rfl rfl (Nat.le_of_ble_eq_true rfl) rfl c_X10_refused_1 ?_
      rintro r w' ⟨rfl, rfl⟩
      refine ab_ifeq 36 dX10_rate_29 (by decide) (fun h_7 => ?_) (fun h_7 => absurd (by decide) h_7)
      refine ab_aload_n dX10_rate_36 rfl ?_
      refine ab_aload_n dX10_rate_37 rfl ?_
      refine ab_iload_n dX10_rate_38 rfl ?_
      refine ab_iload_n dX10_rate_39 rfl ?_
      refine ab_callV (As := [.int a1, .int a2]) (rest := [.ref 0]) dX10_rate_40 mv_X10_positionAt ml_X10_166 ⟨by decide, by decide, rfl, rfl, rfl⟩ (by decide) rfl rfl (Nat.le_of_ble_eq_true rfl) rfl (c_X10_positionAt c_1.1 h_c0 c_1.2.1) ?_
      rintro r w' ⟨rfl, rfl⟩
      refine ab_callV (As := []) (rest := [.ref 0]) dX10_rate_43 mv_X5_state ml_X10_170 ⟨by decide, by decide, rfl, rfl, rfl⟩ (by decide) rfl rfl (Nat.le_of_ble_eq_true rfl) rfl c_X5_state ?_
      rintro r w' ⟨rfl, rfl⟩
      refine ab_iconst (v := 1) dX10_rate_46 (by decide) ?_
      refine ab_icmpne 54 dX10_rate_47 (by decide) (fun h_8 => ?_) (fun h_8 => ?_)
      · refine ab_iconst (v := 0) dX10_rate_54 (by decide) ?_
        refine ab_iconst (v := 5) dX10_rate_55 (by decide) ?_
        refine ab_callV (As := [.int 0, .int 5]) (rest := []) dX10_rate_56 mv_X10_refused ml_X10_84 ⟨by decide, by decide, rfl, rfl, rfl⟩ (by decide) rfl rfl (Nat.le_of_ble_eq_true rfl) rfl c_X10_refused_0 ?_
        rintro r w' ⟨rfl, rfl⟩
        refine ab_ifeq 66 dX10_rate_59 (by decide) (fun h_9 => absurd h_9 (by decide)) (fun h_9 => ?_)
        refine ab_ldc2 dX10_rate_62 kl_X10_194 ?_
        exact ab_lret dX10_rate_65 rfl (by decide) (Or.inl ⟨c_1, c_4, h_8, rfl, rfl⟩)
      · refine ab_iconst (v := 1) dX10_rate_50 (by decide) ?_
        refine ab_goto 55 dX10_rate_51 (by decide) ?_
        refine ab_iconst (v := 5) dX10_rate_55 (by decide) ?_
        refine ab_callV (As := [.int 1, .int 5]) (rest := []) dX10_rate_56 mv_X10_refused ml_X10_84 ⟨by decide, by decide, rfl, rfl, rfl⟩ (by decide) rfl rfl (Nat.le_of_ble_eq_true rfl) rfl c_X10_refused_1 ?_
        rintro r w' ⟨rfl, rfl⟩
        refine ab_ifeq 66 dX10_rate_59 (by decide) (fun h_10 => ?_) (fun h_10 => absurd (by decide) h_10)
        refine ab_aload_n dX10_rate_66 rfl ?_
        refine ab_getf dX10_rate_67 fl_X10_40 rfl rfl ?_
        refine ab_iload_n dX10_rate_70 rfl ?_
        refine ab_iload dX10_rate_71 rfl ?_
        refine ab_callV (As := [.int a3, .int a4]) (rest := []) dX10_rate_73 mv_X5_turning ml_X10_261 ⟨by decide, by decide, rfl, rfl, rfl⟩ (by decide) rfl rfl (Nat.le_of_ble_eq_true rfl) rfl (c_X5_turning (h_q1 c_1 c_4 h_8) (h_q2 c_1 c_4 h_8) (h_q3 c_1 c_4 h_8)) ?_
        rintro r w' ⟨rfl, rfl⟩
        exact ab_lret dX10_rate_76 rfl (by decide) (Or.inr (Or.inl ⟨c_1, c_4, h_8, rfl, rfl⟩))
    · refine ab_ifeq 24 dX10_rate_17 (by decide) (fun h_11 => ?_) (fun h_11 => absurd (by decide) h_11)
      refine ab_iconst (v := 0) dX10_rate_24 (by decide) ?_
      refine ab_iconst (v := 1) dX10_rate_25 (by decide) ?_
      refine ab_callV (As := [.int 0, .int 1]) (rest := []) dX10_rate_26 mv_X10_refused ml_X10_84 ⟨by decide, by decide, rfl, rfl, rfl⟩ (by decide) rfl rfl (Nat.le_of_ble_eq_true rfl) rfl c_X10_refused_0 ?_
      rintro r w' ⟨rfl, rfl⟩
      refine ab_ifeq 36 dX10_rate_29 (by decide) (fun h_12 => absurd h_12 (by decide)) (fun h_12 => ?_)
      refine ab_ldc2 dX10_rate_32 kl_X10_194 ?_
      exact ab_lret dX10_rate_35 rfl (by decide) (Or.inr (Or.inr (Or.inl ⟨c_1, c_5, rfl, rfl⟩)))
  · refine ab_ifeq 24 dX10_rate_8 (by decide) (fun h_13 => ?_) (fun h_13 => absurd (by decide) h_13)
    refine ab_iconst (v := 0) dX10_rate_24 (by decide) ?_
    refine ab_iconst (v := 1) dX10_rate_25 (by decide) ?_
    refine ab_callV (As := [.int 0, .int 1]) (rest := []) dX10_rate_26 mv_X10_refused ml_X10_84 ⟨by decide, by decide, rfl, rfl, rfl⟩ (by decide) rfl rfl (Nat.le_of_ble_eq_true rfl) rfl c_X10_refused_0 ?_
    rintro r w' ⟨rfl, rfl⟩
    refine ab_ifeq 36 dX10_rate_29 (by decide) (fun h_14 => absurd h_14 (by decide)) (fun h_14 => ?_)
    refine ab_ldc2 dX10_rate_32 kl_X10_194 ?_
    exact ab_lret dX10_rate_35 rfl (by decide) (Or.inr (Or.inr (Or.inr (⟨c_2, rfl, rfl⟩))))
theorem c_X10_traced {f0_0 f10_0 f10_1 f10_2 f10_3 a1 a2 a3 a4 a5 : Int32} {x1 x2 x3 x7 x8 x9 x12 x13 x14 x15 x16 x17 x18 x19 x20 x21 x22 x23 x24 x25 x26 x27 x28 x29 x30 x31 x32 : ax_E} {r5 r6 : Nat → Int32} {f11_0 f11_1 f11_2 f11_3 f11_4 f11_5 f11_6 f11_7 f11_8 f11_9 f11_10 f11_11 f11_12 f11_13 f11_14 f11_15 : Int64} {wm : List ax_E} (h_c0 : r6 0 ≤ nI 4) (h_c1 : r6 1 ≤ nI 4) (h_q2 : ((0 ≤ a1 ∧ a1 < r6 0) ∧ (0 ≤ a2 ∧ a2 < r6 1) ∧ (0 ≤ a4 ∧ a4 < 2)) → (0 ≤ a3 ∧ a3 < 40) → (0 ≤ a5 ∧ a5 < 2) → (0 < (Ps_s (Bg r5 a1) (Ba r5 a1) a3) ∧ 0 ≤ (Ps_k (Bg r5 a1) (Ba r5 a1) (Bb r5 a1) (Bc r5 a1) a3)) → (¬ a5 = 0) → okS (Tr_vy (Ps_x (Bg r5 a1) (Ba r5 a1) a3) (Ps_y (Ba r5 a1) a3) (r5 (16 + Int32.toNatClampNeg a2 * 2 + 0)) (r5 (16 + Int32.toNatClampNeg a2 * 2 + 1)) a4) (Ps_k (Bg r5 a1) (Ba r5 a1) (Bb r5 a1) (Bc r5 a1) a3)) (h_q3 : ((0 ≤ a1 ∧ a1 < r6 0) ∧ (0 ≤ a2 ∧ a2 < r6 1) ∧ (0 ≤ a4 ∧ a4 < 2)) → (0 ≤ a3 ∧ a3 < 40) → (0 ≤ a5 ∧ a5 < 2) → (0 < (Ps_s (Bg r5 a1) (Ba r5 a1) a3) ∧ 0 ≤ (Ps_k (Bg r5 a1) (Ba r5 a1) (Bb r5 a1) (Bc r5 a1) a3)) → (¬ a5 = 0) → 0 < 2 * (Ps_s (Bg r5 a1) (Ba r5 a1) a3) * (Ps_n a3)) (h_q4 : ((0 ≤ a1 ∧ a1 < r6 0) ∧ (0 ≤ a2 ∧ a2 < r6 1) ∧ (0 ≤ a4 ∧ a4 < 2)) → (0 ≤ a3 ∧ a3 < 40) → (0 ≤ a5 ∧ a5 < 2) → (0 < (Ps_s (Bg r5 a1) (Ba r5 a1) a3) ∧ 0 ≤ (Ps_k (Bg r5 a1) (Ba r5 a1) (Bb r5 a1) (Bc r5 a1) a3)) → (a5 = 0) → okS (Tr_vx (Ps_x (Bg r5 a1) (Ba r5 a1) a3) (Ps_y (Ba r5 a1) a3) (r5 (16 + Int32.toNatClampNeg a2 * 2 + 0)) (r5 (16 + Int32.toNatClampNeg a2 * 2 + 1)) a4) (Ps_k (Bg r5 a1) (Ba r5 a1) (Bb r5 a1) (Bc r5 a1) a3)) (h_q5 : ((0 ≤ a1 ∧ a1 < r6 0) ∧ (0 ≤ a2 ∧ a2 < r6 1) ∧ (0 ≤ a4 ∧ a4 < 2)) → (0 ≤ a3 ∧ a3 < 40) → (0 ≤ a5 ∧ a5 < 2) → (0 < (Ps_s (Bg r5 a1) (Ba r5 a1) a3) ∧ 0 ≤ (Ps_k (Bg r5 a1) (Ba r5 a1) (Bb r5 a1) (Bc r5 a1) a3)) → (a5 = 0) → 0 < 2 * (Ps_s (Bg r5 a1) (Ba r5 a1) a3) * (Ps_n a3)) : Ct M_X10_traced [.ref 0, .int a1, .int a2, .int a3, .int a4, .int a5] ([ob 8 [.int f0_0, .ref 1, .ref 4, .ref 7, .ref 10, .ref 11, .ref 12, .ref 18, .ref 25, .ref 29], x1, x2, x3, ob 2 [.ref 5, .ref 6], ia 56 r5, ia 4 r6, x7, x8, x9, ob 3 [.int f10_0, .int f10_1, .int f10_2, .int f10_3], ob 5 [.long f11_0, .long f11_1, .long f11_2, .long f11_3, .long f11_4, .long f11_5, .long f11_6, .long f11_7, .long f11_8, .long f11_9, .long f11_10, .long f11_11, .long f11_12, .long f11_13, .long f11_14, .long f11_15], x12, x13, x14, x15, x16, x17, x18, x19, x20, x21, x22, x23, x24, x25, x26, x27, x28, x29, x30, x31, x32], wm) (fun r w' => (((0 ≤ a1 ∧ a1 < r6 0) ∧ (0 ≤ a2 ∧ a2 < r6 1) ∧ (0 ≤ a4 ∧ a4 < 2)) ∧ (0 ≤ a3 ∧ a3 < 40) ∧ (0 ≤ a5 ∧ a5 < 2) ∧ (0 < (Ps_s (Bg r5 a1) (Ba r5 a1) a3) ∧ 0 ≤ (Ps_k (Bg r5 a1) (Ba r5 a1) (Bb r5 a1) (Bc r5 a1) a3)) ∧ (¬ a5 = 0) ∧ r = some (.int (Int64.toInt32 (FlC (Tr_uy (Ps_d a3) (Ps_s (Bg r5 a1) (Ba r5 a1) a3) (Int32.toInt64 (Ba r5 a1)) (Ps_e (Bg r5 a1) (Ba r5 a1) (Bb r5 a1) (Bc r5 a1) a3) (Ps_x (Bg r5 a1) (Ba r5 a1) a3) (Ps_y (Ba r5 a1) a3) (r5 (16 + Int32.toNatClampNeg a2 * 2 + 0)) (r5 (16 + Int32.toNatClampNeg a2 * 2 + 1))) (Tr_vy (Ps_x (Bg r5 a1) (Ba r5 a1) a3) (Ps_y (Ba r5 a1) a3) (r5 (16 + Int32.toNatClampNeg a2 * 2 + 0)) (r5 (16 + Int32.toNatClampNeg a2 * 2 + 1)) a4) ((2 * (Ps_s (Bg r5 a1) (Ba r5 a1) a3)) * (Ps_n a3)) (sqN (Tr_vy (Ps_x (Bg r5 a1) (Ba r5 a1) a3) (Ps_y (Ba r5 a1) a3) (r5 (16 + Int32.toNatClampNeg a2 * 2 + 0)) (r5 (16 + Int32.toNatClampNeg a2 * 2 + 1)) a4) (Ps_k (Bg r5 a1) (Ba r5 a1) (Bb r5 a1) (Bc r5 a1) a3))))) ∧ w' = ([ob 8 [.int 0, .ref 1, .ref 4, .ref 7, .ref 10, .ref 11, .ref 12, .ref 18, .ref 25, .ref 29], x1, x2, x3, ob 2 [.ref 5, .ref 6], ia 56 r5, ia 4 r6, x7, x8, x9, ob 3 [.int (Bg r5 a1), .int (Ba r5 a1), .int (Bb r5 a1), .int (Bc r5 a1)], ob 5 [.long (Ps_n a3), .long (Ps_d a3), .long (Ps_s (Bg r5 a1) (Ba r5 a1) a3), .long (Ps_k (Bg r5 a1) (Ba r5 a1) (Bb r5 a1) (Bc r5 a1) a3), .long (Int32.toInt64 (Bg r5 a1)), .long (Int32.toInt64 (Ba r5 a1)), .long (Int32.toInt64 (Bb r5 a1)), .long (Int32.toInt64 (Bc r5 a1)), .long (Ps_c a3), .long (Ps_e (Bg r5 a1) (Ba r5 a1) (Bb r5 a1) (Bc r5 a1) a3), .long (Ps_x (Bg r5 a1) (Ba r5 a1) a3), .long (Ps_y (Ba r5 a1) a3), .long (Tr_ux (Ps_s (Bg r5 a1) (Ba r5 a1) a3) (Int32.toInt64 (Ba r5 a1)) (Ps_c a3) (Ps_e (Bg r5 a1) (Ba r5 a1) (Bb r5 a1) (Bc r5 a1) a3) (Ps_x (Bg r5 a1) (Ba r5 a1) a3) (Ps_y (Ba r5 a1) a3) (r5 (16 + Int32.toNatClampNeg a2 * 2 + 0)) (r5 (16 + Int32.toNatClampNeg a2 * 2 + 1))), .long (Tr_vx (Ps_x (Bg r5 a1) (Ba r5 a1) a3) (Ps_y (Ba r5 a1) a3) (r5 (16 + Int32.toNatClampNeg a2 * 2 + 0)) (r5 (16 + Int32.toNatClampNeg a2 * 2 + 1)) a4), .long (Tr_uy (Ps_d a3) (Ps_s (Bg r5 a1) (Ba r5 a1) a3) (Int32.toInt64 (Ba r5 a1)) (Ps_e (Bg r5 a1) (Ba r5 a1) (Bb r5 a1) (Bc r5 a1) a3) (Ps_x (Bg r5 a1) (Ba r5 a1) a3) (Ps_y (Ba r5 a1) a3) (r5 (16 + Int32.toNatClampNeg a2 * 2 + 0)) (r5 (16 + Int32.toNatClampNeg a2 * 2 + 1))), .long (Tr_vy (Ps_x (Bg r5 a1) (Ba r5 a1) a3) (Ps_y (Ba r5 a1) a3) (r5 (16 + Int32.toNatClampNeg a2 * 2 + 0)) (r5 (16 + Int32.toNatClampNeg a2 * 2 + 1)) a4)], x12, x13, x14, x15, x16, x17, x18, x19, x20, x21, x22, x23, x24, x25, x26, x27, x28, x29, x30, x31, x32], wm)) ∨ (((0 ≤ a1 ∧ a1 < r6 0) ∧ (0 ≤ a2 ∧ a2 < r6 1) ∧ (0 ≤ a4 ∧ a4 < 2)) ∧ (0 ≤ a3 ∧ a3 < 40) ∧ (0 ≤ a5 ∧ a5 < 2) ∧ (0 < (Ps_s (Bg r5 a1) (Ba r5 a1) a3) ∧ 0 ≤ (Ps_k (Bg r5 a1) (Ba r5 a1) (Bb r5 a1) (Bc r5 a1) a3)) ∧ (a5 = 0) ∧ r = some (.int (Int64.toInt32 (FlC (Tr_ux (Ps_s (Bg r5 a1) (Ba r5 a1) a3) (Int32.toInt64 (Ba r5 a1)) (Ps_c a3) (Ps_e (Bg r5 a1) (Ba r5 a1) (Bb r5 a1) (Bc r5 a1) a3) (Ps_x (Bg r5 a1) (Ba r5 a1) a3) (Ps_y (Ba r5 a1) a3) (r5 (16 + Int32.toNatClampNeg a2 * 2 + 0)) (r5 (16 + Int32.toNatClampNeg a2 * 2 + 1))) (Tr_vx (Ps_x (Bg r5 a1) (Ba r5 a1) a3) (Ps_y (Ba r5 a1) a3) (r5 (16 + Int32.toNatClampNeg a2 * 2 + 0)) (r5 (16 + Int32.toNatClampNeg a2 * 2 + 1)) a4) ((2 * (Ps_s (Bg r5 a1) (Ba r5 a1) a3)) * (Ps_n a3)) (sqN (Tr_vx (Ps_x (Bg r5 a1) (Ba r5 a1) a3) (Ps_y (Ba r5 a1) a3) (r5 (16 + Int32.toNatClampNeg a2 * 2 + 0)) (r5 (16 + Int32.toNatClampNeg a2 * 2 + 1)) a4) (Ps_k (Bg r5 a1) (Ba r5 a1) (Bb r5 a1) (Bc r5 a1) a3))))) ∧ w' = ([ob 8 [.int 0, .ref 1, .ref 4, .ref 7, .ref 10, .ref 11, .ref 12, .ref 18, .ref 25, .ref 29], x1, x2, x3, ob 2 [.ref 5, .ref 6], ia 56 r5, ia 4 r6, x7, x8, x9, ob 3 [.int (Bg r5 a1), .int (Ba r5 a1), .int (Bb r5 a1), .int (Bc r5 a1)], ob 5 [.long (Ps_n a3), .long (Ps_d a3), .long (Ps_s (Bg r5 a1) (Ba r5 a1) a3), .long (Ps_k (Bg r5 a1) (Ba r5 a1) (Bb r5 a1) (Bc r5 a1) a3), .long (Int32.toInt64 (Bg r5 a1)), .long (Int32.toInt64 (Ba r5 a1)), .long (Int32.toInt64 (Bb r5 a1)), .long (Int32.toInt64 (Bc r5 a1)), .long (Ps_c a3), .long (Ps_e (Bg r5 a1) (Ba r5 a1) (Bb r5 a1) (Bc r5 a1) a3), .long (Ps_x (Bg r5 a1) (Ba r5 a1) a3), .long (Ps_y (Ba r5 a1) a3), .long (Tr_ux (Ps_s (Bg r5 a1) (Ba r5 a1) a3) (Int32.toInt64 (Ba r5 a1)) (Ps_c a3) (Ps_e (Bg r5 a1) (Ba r5 a1) (Bb r5 a1) (Bc r5 a1) a3) (Ps_x (Bg r5 a1) (Ba r5 a1) a3) (Ps_y (Ba r5 a1) a3) (r5 (16 + Int32.toNatClampNeg a2 * 2 + 0)) (r5 (16 + Int32.toNatClampNeg a2 * 2 + 1))), .long (Tr_vx (Ps_x (Bg r5 a1) (Ba r5 a1) a3) (Ps_y (Ba r5 a1) a3) (r5 (16 + Int32.toNatClampNeg a2 * 2 + 0)) (r5 (16 + Int32.toNatClampNeg a2 * 2 + 1)) a4), .long (Tr_uy (Ps_d a3) (Ps_s (Bg r5 a1) (Ba r5 a1) a3) (Int32.toInt64 (Ba r5 a1)) (Ps_e (Bg r5 a1) (Ba r5 a1) (Bb r5 a1) (Bc r5 a1) a3) (Ps_x (Bg r5 a1) (Ba r5 a1) a3) (Ps_y (Ba r5 a1) a3) (r5 (16 + Int32.toNatClampNeg a2 * 2 + 0)) (r5 (16 + Int32.toNatClampNeg a2 * 2 + 1))), .long (Tr_vy (Ps_x (Bg r5 a1) (Ba r5 a1) a3) (Ps_y (Ba r5 a1) a3) (r5 (16 + Int32.toNatClampNeg a2 * 2 + 0)) (r5 (16 + Int32.toNatClampNeg a2 * 2 + 1)) a4)], x12, x13, x14, x15, x16, x17, x18, x19, x20, x21, x22, x23, x24, x25, x26, x27, x28, x29, x30, x31, x32], wm)) ∨ (((0 ≤ a1 ∧ a1 < r6 0) ∧ (0 ≤ a2 ∧ a2 < r6 1) ∧ (0 ≤ a4 ∧ a4 < 2)) ∧ (0 ≤ a3 ∧ a3 < 40) ∧ (0 ≤ a5 ∧ a5 < 2) ∧ (¬ (0 < (Ps_s (Bg r5 a1) (Ba r5 a1) a3) ∧ 0 ≤ (Ps_k (Bg r5 a1) (Ba r5 a1) (Bb r5 a1) (Bc r5 a1) a3))) ∧ r = some (.int (-1000000000)) ∧ w' = ([ob 8 [.int 5, .ref 1, .ref 4, .ref 7, .ref 10, .ref 11, .ref 12, .ref 18, .ref 25, .ref 29], x1, x2, x3, ob 2 [.ref 5, .ref 6], ia 56 r5, ia 4 r6, x7, x8, x9, ob 3 [.int (Bg r5 a1), .int (Ba r5 a1), .int (Bb r5 a1), .int (Bc r5 a1)], ob 5 [.long (Ps_n a3), .long (Ps_d a3), .long (Ps_s (Bg r5 a1) (Ba r5 a1) a3), .long (Ps_k (Bg r5 a1) (Ba r5 a1) (Bb r5 a1) (Bc r5 a1) a3), .long (Int32.toInt64 (Bg r5 a1)), .long (Int32.toInt64 (Ba r5 a1)), .long (Int32.toInt64 (Bb r5 a1)), .long (Int32.toInt64 (Bc r5 a1)), .long (Ps_c a3), .long (Ps_e (Bg r5 a1) (Ba r5 a1) (Bb r5 a1) (Bc r5 a1) a3), .long (Ps_x (Bg r5 a1) (Ba r5 a1) a3), .long (Ps_y (Ba r5 a1) a3), .long f11_12, .long f11_13, .long f11_14, .long f11_15], x12, x13, x14, x15, x16, x17, x18, x19, x20, x21, x22, x23, x24, x25, x26, x27, x28, x29, x30, x31, x32], wm)) ∨ (((0 ≤ a1 ∧ a1 < r6 0) ∧ (0 ≤ a2 ∧ a2 < r6 1) ∧ (0 ≤ a4 ∧ a4 < 2)) ∧ (0 ≤ a3 ∧ a3 < 40) ∧ (¬ (0 ≤ a5 ∧ a5 < 2)) ∧ r = some (.int (-1000000000)) ∧ w' = ([ob 8 [.int 1, .ref 1, .ref 4, .ref 7, .ref 10, .ref 11, .ref 12, .ref 18, .ref 25, .ref 29], x1, x2, x3, ob 2 [.ref 5, .ref 6], ia 56 r5, ia 4 r6, x7, x8, x9, ob 3 [.int f10_0, .int f10_1, .int f10_2, .int f10_3], ob 5 [.long f11_0, .long f11_1, .long f11_2, .long f11_3, .long f11_4, .long f11_5, .long f11_6, .long f11_7, .long f11_8, .long f11_9, .long f11_10, .long f11_11, .long f11_12, .long f11_13, .long f11_14, .long f11_15], x12, x13, x14, x15, x16, x17, x18, x19, x20, x21, x22, x23, x24, x25, x26, x27, x28, x29, x30, x31, x32], wm)) ∨ (((0 ≤ a1 ∧ a1 < r6 0) ∧ (0 ≤ a2 ∧ a2 < r6 1) ∧ (0 ≤ a4 ∧ a4 < 2)) ∧ (¬ (0 ≤ a3 ∧ a3 < 40)) ∧ r = some (.int (-1000000000)) ∧ w' = ([ob 8 [.int 1, .ref 1, .ref 4, .ref 7, .ref 10, .ref 11, .ref 12, .ref 18, .ref 25, .ref 29], x1, x2, x3, ob 2 [.ref 5, .ref 6], ia 56 r5, ia 4 r6, x7, x8, x9, ob 3 [.int f10_0, .int f10_1, .int f10_2, .int f10_3], ob 5 [.long f11_0, .long f11_1, .long f11_2, .long f11_3, .long f11_4, .long f11_5, .long f11_6, .long f11_7, .long f11_8, .long f11_9, .long f11_10, .long f11_11, .long f11_12, .long f11_13, .long f11_14, .long f11_15], x12, x13, x14, x15, x16, x17, x18, x19, x20, x21, x22, x23, x24, x25, x26, x27, x28, x29, x30, x31, x32], wm)) ∨ ((¬ ((0 ≤ a1 ∧ a1 < r6 0) ∧ (0 ≤ a2 ∧ a2 < r6 1) ∧ (0 ≤ a4 ∧ a4 < 2))) ∧ r = some (.int (-1000000000)) ∧ w' = ([ob 8 [.int 1, .ref 1, .ref 4, .ref 7, .ref 10, .ref 11, .ref 12, .ref 18, .ref 25, .ref 29], x1, x2, x3, ob 2 [.ref 5, .ref 6], ia 56 r5, ia 4 r6, x7, x8, x9, ob 3 [.int f10_0, .int f10_1, .int f10_2, .int f10_3], ob 5 [.long f11_0, .long f11_1, .long f11_2, .long f11_3, .long f11_4, .long f11_5, .long f11_6, .long f11_7, .long f11_8, .long f11_9, .long f11_10, .long f11_11, .long f11_12, .long f11_13, .long f11_14, .long f11_15], x12, x13, x14, x15, x16, x17, x18, x19, x20, x21, x22, x23, x24, x25, x26, x27, x28, x29, x30, x31, x32], wm))) := by
  refine ct_of ⟨by decide, rfl⟩ (Nat.le_of_ble_eq_true rfl) ?_
  refine ab_aload_n dX10_traced_0 rfl ?_
  refine ab_aload_n dX10_traced_1 rfl ?_
  refine ab_iload_n dX10_traced_2 rfl ?_
  refine ab_iload_n dX10_traced_3 rfl ?_
  refine ab_iload dX10_traced_4 rfl ?_
  refine ab_callV (As := [.int a1, .int a2, .int a4]) (rest := [.ref 0]) dX10_traced_6 mv_X10_hasCurve ml_X10_266 ⟨by decide, by decide, rfl, rfl, rfl⟩ (by decide) rfl rfl (Nat.le_of_ble_eq_true rfl) rfl c_X10_hasCurve ?_
  rintro r w' (⟨c_1, rfl, rfl⟩ | ⟨c_2, rfl, rfl⟩)
  · refine ab_ifeq 32 dX10_traced_9 (by decide) (fun h_3 => absurd h_3 (by decide)) (fun h_3 => ?_)
    refine ab_iload_n dX10_traced_12 rfl ?_
    refine ab_callS (As := [.int a3]) (rest := [.ref 0]) dX10_traced_13 ms_X7_has ml_X10_114 ⟨by decide, by decide, rfl, rfl, rfl⟩ (by decide) rfl rfl (Nat.le_of_ble_eq_true rfl) c_X7_has ?_
    rintro r w' (⟨c_4, rfl, rfl⟩ | ⟨c_5, rfl, rfl⟩)
    · refine ab_ifeq 32 dX10_traced_16 (by decide) (fun h_6 => absurd h_6 (by decide)) (fun h_6 => ?_)
      refine ab_iload dX10_traced_19 rfl ?_
      refine ab_iconst (v := 2) dX10_traced_21 (by decide) ?_
      refine ab_callS (As := [.int a5, .int 2]) (rest := [.ref 0]) dX10_traced_22 ms_X10_isOf ml_X10_118 ⟨by decide, by decide, rfl, rfl, rfl⟩ (by decide) rfl rfl (Nat.le_of_ble_eq_true rfl) c_X10_isOf ?_
      rintro r w' (⟨c_7, rfl, rfl⟩ | ⟨c_8, rfl, rfl⟩)
      · refine ab_ifeq 32 dX10_traced_25 (by decide) (fun h_9 => absurd h_9 (by decide)) (fun h_9 => ?_)
        refine ab_iconst (v := 1) dX10_traced_28 (by decide) ?_
        refine ab_goto 33 dX10_traced_29 (by decide) ?_
        refine ab_iconst (v := 1) dX10_traced_33 (by decide) ?_
        refine ab_callV (As := [.int 1, .int 1]) (rest := []) dX10_traced_34 mv_X10_refused ml_X10_84 ⟨by decide, by decide, rfl, rfl, rfl⟩ (by decide) rfl rfl (Nat.le_of_ble_eq_true rfl) rfl c_X10_refused_1 ?_
        rintro r w' ⟨rfl, rfl⟩
        refine ab_ifeq 43 dX10_traced_37 (by decide) (fun h_10 => ?_) (fun h_10 => absurd (by decide) h_10)
        refine ab_aload_n dX10_traced_43 rfl ?_
        refine ab_aload_n dX10_traced_44 rfl ?_
        refine ab_iload_n dX10_traced_45 rfl ?_
        refine ab_iload_n dX10_traced_46 rfl ?_
        refine ab_callV (As := [.int a1, .int a3]) (rest := [.ref 0]) dX10_traced_47 mv_X10_positionAt ml_X10_166 ⟨by decide, by decide, rfl, rfl, rfl⟩ (by decide) rfl rfl (Nat.le_of_ble_eq_true rfl) rfl (c_X10_positionAt c_1.1 h_c0 c_4) ?_
        rintro r w' ⟨rfl, rfl⟩
        refine ab_callV (As := []) (rest := [.ref 0]) dX10_traced_50 mv_X5_isLawful ml_X10_203 ⟨by decide, by decide, rfl, rfl, rfl⟩ (by decide) rfl rfl (Nat.le_of_ble_eq_true rfl) rfl c_X5_isLawful ?_
        rintro r w' (⟨c_11, rfl, rfl⟩ | ⟨c_12, rfl, rfl⟩)
        · refine ab_iconst (v := 5) dX10_traced_53 (by decide) ?_
          refine ab_callV (As := [.int 1, .int 5]) (rest := []) dX10_traced_54 mv_X10_refused ml_X10_84 ⟨by decide, by decide, rfl, rfl, rfl⟩ (by decide) rfl rfl (Nat.le_of_ble_eq_true rfl) rfl c_X10_refused_1 ?_
          rintro r w' ⟨rfl, rfl⟩
          refine ab_ifeq 63 dX10_traced_57 (by decide) (fun h_13 => ?_) (fun h_13 => absurd (by decide) h_13)
          refine ab_aload_n dX10_traced_63 rfl ?_
          refine ab_getf dX10_traced_64 fl_X10_40 rfl rfl ?_
          refine ab_aload_n dX10_traced_67 rfl ?_
          refine ab_getf dX10_traced_68 fl_X10_23 rfl rfl ?_
          refine ab_iconst (v := 1) dX10_traced_71 (by decide) ?_
          refine ab_iload_n dX10_traced_72 rfl ?_
          refine ab_iconst (v := 0) dX10_traced_73 (by decide) ?_
          refine ab_callV (As := [.int 1, .int a2, .int 0]) (rest := [.ref 11]) dX10_traced_74 mv_X2_told ml_X10_136 ⟨by decide, by decide, rfl, rfl, rfl⟩ (by decide) rfl rfl (Nat.le_of_ble_eq_true rfl) rfl (c_X2_told_1 c_1.2.1 h_c1 (by decide)) ?_
          rintro r w' ⟨rfl, rfl⟩
          refine ab_aload_n dX10_traced_77 rfl ?_
          refine ab_getf dX10_traced_78 fl_X10_23 rfl rfl ?_
          refine ab_iconst (v := 1) dX10_traced_81 (by decide) ?_
          refine ab_iload_n dX10_traced_82 rfl ?_
          refine ab_iconst (v := 1) dX10_traced_83 (by decide) ?_
          refine ab_callV (As := [.int 1, .int a2, .int 1]) (rest := [.int (r5 (16 + Int32.toNatClampNeg a2 * 2 + 0)), .ref 11]) dX10_traced_84 mv_X2_told ml_X10_136 ⟨by decide, by decide, rfl, rfl, rfl⟩ (by decide) rfl rfl (Nat.le_of_ble_eq_true rfl) rfl (c_X2_told_1 c_1.2.1 h_c1 (by decide)) ?_
          rintro r w' ⟨rfl, rfl⟩
          refine ab_iload dX10_traced_87 rfl ?_
          refine ab_callV (As := [.int (r5 (16 + Int32.toNatClampNeg a2 * 2 + 0)), .int (r5 (16 + Int32.toNatClampNeg a2 * 2 + 1)), .int a4]) (rest := []) dX10_traced_89 mv_X5_trace ml_X10_206 ⟨by decide, by decide, rfl, rfl, rfl⟩ (by decide) rfl rfl (Nat.le_of_ble_eq_true rfl) rfl c_X5_trace ?_
          rintro r w' ⟨rfl, rfl⟩
          refine ab_iload dX10_traced_92 rfl ?_
          refine ab_ifne 107 dX10_traced_94 (by decide) (fun h_14 => ?_) (fun h_14 => ?_)
          · refine ab_aload_n dX10_traced_107 rfl ?_
            refine ab_getf dX10_traced_108 fl_X10_40 rfl rfl ?_
            refine ab_callV (As := []) (rest := []) dX10_traced_111 mv_X5_tenthsY ml_X10_213 ⟨by decide, by decide, rfl, rfl, rfl⟩ (by decide) rfl rfl (Nat.le_of_ble_eq_true rfl) rfl (c_X5_tenthsY (h_q2 c_1 c_4 c_7 c_11 h_14) (h_q3 c_1 c_4 c_7 c_11 h_14)) ?_
            rintro r w' ⟨rfl, rfl⟩
            exact ab_iret dX10_traced_114 rfl (by decide) (Or.inl ⟨c_1, c_4, c_7, c_11, h_14, rfl, rfl⟩)
          · refine ab_aload_n dX10_traced_97 rfl ?_
            refine ab_getf dX10_traced_98 fl_X10_40 rfl rfl ?_
            refine ab_callV (As := []) (rest := []) dX10_traced_101 mv_X5_tenthsX ml_X10_210 ⟨by decide, by decide, rfl, rfl, rfl⟩ (by decide) rfl rfl (Nat.le_of_ble_eq_true rfl) rfl (c_X5_tenthsX (h_q4 c_1 c_4 c_7 c_11 h_14) (h_q5 c_1 c_4 c_7 c_11 h_14)) ?_
            rintro r w' ⟨rfl, rfl⟩
            refine ab_goto 114 dX10_traced_104 (by decide) ?_
            exact ab_iret dX10_traced_114 rfl (by decide) (Or.inr (Or.inl ⟨c_1, c_4, c_7, c_11, h_14, rfl, rfl⟩))
        · refine ab_iconst (v := 5) dX10_traced_53 (by decide) ?_
          refine ab_callV (As := [.int 0, .int 5]) (rest := []) dX10_traced_54 mv_X10_refused ml_X10_84 ⟨by decide, by decide, rfl, rfl, rfl⟩ (by decide) rfl rfl (Nat.le_of_ble_eq_true rfl) rfl c_X10_refused_0 ?_
          rintro r w' ⟨rfl, rfl⟩
          refine ab_ifeq 63 dX10_traced_57 (by decide) (fun h_15 => absurd h_15 (by decide)) (fun h_15 => ?_)
          refine ab_ldc dX10_traced_60 kc_X10_122 ?_
          exact ab_iret dX10_traced_62 rfl (by decide) (Or.inr (Or.inr (Or.inl ⟨c_1, c_4, c_7, c_12, rfl, rfl⟩)))
      · refine ab_ifeq 32 dX10_traced_25 (by decide) (fun h_16 => ?_) (fun h_16 => absurd (by decide) h_16)
        refine ab_iconst (v := 0) dX10_traced_32 (by decide) ?_
        refine ab_iconst (v := 1) dX10_traced_33 (by decide) ?_
        refine ab_callV (As := [.int 0, .int 1]) (rest := []) dX10_traced_34 mv_X10_refused ml_X10_84 ⟨by decide, by decide, rfl, rfl, rfl⟩ (by decide) rfl rfl (Nat.le_of_ble_eq_true rfl) rfl c_X10_refused_0 ?_
        rintro r w' ⟨rfl, rfl⟩
        refine ab_ifeq 43 dX10_traced_37 (by decide) (fun h_17 => absurd h_17 (by decide)) (fun h_17 => ?_)
        refine ab_ldc dX10_traced_40 kc_X10_122 ?_
        exact ab_iret dX10_traced_42 rfl (by decide) (Or.inr (Or.inr (Or.inr (Or.inl ⟨c_1, c_4, c_8, rfl, rfl⟩))))
    · refine ab_ifeq 32 dX10_traced_16 (by decide) (fun h_18 => ?_) (fun h_18 => absurd (by decide) h_18)
      refine ab_iconst (v := 0) dX10_traced_32 (by decide) ?_
      refine ab_iconst (v := 1) dX10_traced_33 (by decide) ?_
      refine ab_callV (As := [.int 0, .int 1]) (rest := []) dX10_traced_34 mv_X10_refused ml_X10_84 ⟨by decide, by decide, rfl, rfl, rfl⟩ (by decide) rfl rfl (Nat.le_of_ble_eq_true rfl) rfl c_X10_refused_0 ?_
      rintro r w' ⟨rfl, rfl⟩
      refine ab_ifeq 43 dX10_traced_37 (by decide) (fun h_19 => absurd h_19 (by decide)) (fun h_19 => ?_)
      refine ab_ldc dX10_traced_40 kc_X10_122 ?_
      exact ab_iret dX10_traced_42 rfl (by decide) (Or.inr (Or.inr (Or.inr (Or.inr (Or.inl ⟨c_1, c_5, rfl, rfl⟩)))))
  · refine ab_ifeq 32 dX10_traced_9 (by decide) (fun h_20 => ?_) (fun h_20 => absurd (by decide) h_20)
    refine ab_iconst (v := 0) dX10_traced_32 (by decide) ?_
    refine ab_iconst (v := 1) dX10_traced_33 (by decide) ?_
    refine ab_callV (As := [.int 0, .int 1]) (rest := []) dX10_traced_34 mv_X10_refused ml_X10_84 ⟨by decide, by decide, rfl, rfl, rfl⟩ (by decide) rfl rfl (Nat.le_of_ble_eq_true rfl) rfl c_X10_refused_0 ?_
    rintro r w' ⟨rfl, rfl⟩
    refine ab_ifeq 43 dX10_traced_37 (by decide) (fun h_21 => absurd h_21 (by decide)) (fun h_21 => ?_)
    refine ab_ldc dX10_traced_40 kc_X10_122 ?_
    exact ab_iret dX10_traced_42 rfl (by decide) (Or.inr (Or.inr (Or.inr (Or.inr (Or.inr (⟨c_2, rfl, rfl⟩))))))
