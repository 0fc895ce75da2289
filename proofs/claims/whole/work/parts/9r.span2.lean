theorem c_X10_span2 {f0_0 f10_0 f10_1 f10_2 f10_3 a1 a2 a3 : Int32} {x1 x2 x3 x7 x8 x9 x12 x13 x14 x15 x16 x17 x18 x19 x20 x21 x22 x23 x24 x25 x26 x27 x28 x29 x30 x31 x32 : ax_E} {r5 r6 : Nat → Int32} {f11_0 f11_1 f11_2 f11_3 f11_4 f11_5 f11_6 f11_7 f11_8 f11_9 f11_10 f11_11 f11_12 f11_13 f11_14 f11_15 : Int64} {wm : List ax_E} (h_c0 : r6 0 ≤ nI 4) (h_q1 : (0 ≤ a1 ∧ a1 < r6 0) → (0 ≤ a2 ∧ a2 < 40) → (Ps_s (Bg r5 a1) (Ba r5 a1) a2).toInt ≠ -2 ^ 63) (h_q2 : (0 ≤ a1 ∧ a1 < r6 0) → (0 ≤ a2 ∧ a2 < 40) → (Ps_n a2).toInt ≠ -2 ^ 63) : Ct M_X10_span [.ref 0, .int a1, .int a2, .int a3] ([ob 8 [.int f0_0, .ref 1, .ref 4, .ref 7, .ref 10, .ref 11, .ref 12, .ref 18, .ref 25, .ref 29], x1, x2, x3, ob 2 [.ref 5, .ref 6], ia 56 r5, ia 4 r6, x7, x8, x9, ob 3 [.int f10_0, .int f10_1, .int f10_2, .int f10_3], ob 5 [.long f11_0, .long f11_1, .long f11_2, .long f11_3, .long f11_4, .long f11_5, .long f11_6, .long f11_7, .long f11_8, .long f11_9, .long f11_10, .long f11_11, .long f11_12, .long f11_13, .long f11_14, .long f11_15], x12, x13, x14, x15, x16, x17, x18, x19, x20, x21, x22, x23, x24, x25, x26, x27, x28, x29, x30, x31, x32], wm) (fun r w' => ((0 ≤ a1 ∧ a1 < r6 0) ∧ (0 ≤ a2 ∧ a2 < 40) ∧ r = some (.long (Rd (Ps_s (Bg r5 a1) (Ba r5 a1) a2) (Ps_n a2) a3)) ∧ w' = ([ob 8 [.int 0, .ref 1, .ref 4, .ref 7, .ref 10, .ref 11, .ref 12, .ref 18, .ref 25, .ref 29], x1, x2, x3, ob 2 [.ref 5, .ref 6], ia 56 r5, ia 4 r6, x7, x8, x9, ob 3 [.int (Bg r5 a1), .int (Ba r5 a1), .int (Bb r5 a1), .int (Bc r5 a1)], ob 5 [.long (Ps_n a2), .long (Ps_d a2), .long (Ps_s (Bg r5 a1) (Ba r5 a1) a2), .long (Ps_k (Bg r5 a1) (Ba r5 a1) (Bb r5 a1) (Bc r5 a1) a2), .long (Int32.toInt64 (Bg r5 a1)), .long (Int32.toInt64 (Ba r5 a1)), .long (Int32.toInt64 (Bb r5 a1)), .long (Int32.toInt64 (Bc r5 a1)), .long (Ps_c a2), .long (Ps_e (Bg r5 a1) (Ba r5 a1) (Bb r5 a1) (Bc r5 a1) a2), .long (Ps_x (Bg r5 a1) (Ba r5 a1) a2), .long (Ps_y (Ba r5 a1) a2), .long f11_12, .long f11_13, .long f11_14, .long f11_15], x12, x13, x14, x15, x16, x17, x18, x19, x20, x21, x22, x23, x24, x25, x26, x27, x28, x29, x30, x31, x32], wm)) ∨ ((0 ≤ a1 ∧ a1 < r6 0) ∧ (¬ (0 ≤ a2 ∧ a2 < 40)) ∧ r = some (.long (-1)) ∧ w' = ([ob 8 [.int 1, .ref 1, .ref 4, .ref 7, .ref 10, .ref 11, .ref 12, .ref 18, .ref 25, .ref 29], x1, x2, x3, ob 2 [.ref 5, .ref 6], ia 56 r5, ia 4 r6, x7, x8, x9, ob 3 [.int f10_0, .int f10_1, .int f10_2, .int f10_3], ob 5 [.long f11_0, .long f11_1, .long f11_2, .long f11_3, .long f11_4, .long f11_5, .long f11_6, .long f11_7, .long f11_8, .long f11_9, .long f11_10, .long f11_11, .long f11_12, .long f11_13, .long f11_14, .long f11_15], x12, x13, x14, x15, x16, x17, x18, x19, x20, x21, x22, x23, x24, x25, x26, x27, x28, x29, x30, x31, x32], wm)) ∨ ((¬ (0 ≤ a1 ∧ a1 < r6 0)) ∧ r = some (.long (-1)) ∧ w' = ([ob 8 [.int 1, .ref 1, .ref 4, .ref 7, .ref 10, .ref 11, .ref 12, .ref 18, .ref 25, .ref 29], x1, x2, x3, ob 2 [.ref 5, .ref 6], ia 56 r5, ia 4 r6, x7, x8, x9, ob 3 [.int f10_0, .int f10_1, .int f10_2, .int f10_3], ob 5 [.long f11_0, .long f11_1, .long f11_2, .long f11_3, .long f11_4, .long f11_5, .long f11_6, .long f11_7, .long f11_8, .long f11_9, .long f11_10, .long f11_11, .long f11_12, .long f11_13, .long f11_14, .long f11_15], x12, x13, x14, x15, x16, x17, x18, x19, x20, x21, x22, x23, x24, x25, x26, x27, x28, x29, x30, x31, x32], wm))) := by
  refine ct_of ⟨by decide, rfl⟩ (Nat.le_of_ble_eq_true rfl) ?_
  refine ab_aload_n dX10_span_0 rfl ?_
  refine ab_aload_n dX10_span_1 rfl ?_
  refine ab_iload_n dX10_span_2 rfl ?_
  refine ab_callV (As := [.int a1]) (rest := [.ref 0]) dX10_span_3 mv_X10_hasLinkage ml_X10_133 ⟨by decide, by decide, rfl, rfl, rfl⟩ (by decide) rfl rfl (Nat.le_of_ble_eq_true rfl) rfl c_X10_hasLinkage ?_
  rintro r w' (⟨c_1, rfl, rfl⟩ | ⟨c_2, rfl, rfl⟩)
  · refine ab_ifeq 20 dX10_span_6 (by decide) (fun h_3 => absurd h_3 (by decide)) (fun h_3 => ?_)
    refine ab_iload_n dX10_span_9 rfl ?_
    refine ab_callS (As := [.int a2]) (rest := [.ref 0]) dX10_span_10 ms_X7_has ml_X10_114 ⟨by decide, by decide, rfl, rfl, rfl⟩ (by decide) rfl rfl (Nat.le_of_ble_eq_true rfl) c_X7_has ?_
    rintro r w' (⟨c_4, rfl, rfl⟩ | ⟨c_5, rfl, rfl⟩)
    · refine ab_ifeq 20 dX10_span_13 (by decide) (fun h_6 => absurd h_6 (by decide)) (fun h_6 => ?_)
      refine ab_iconst (v := 1) dX10_span_16 (by decide) ?_
      refine ab_goto 21 dX10_span_17 (by decide) ?_
      refine ab_iconst (v := 1) dX10_span_21 (by decide) ?_
      refine ab_callV (As := [.int 1, .int 1]) (rest := []) dX10_span_22 mv_X10_refused ml_X10_84 ⟨by decide, by decide, rfl, rfl, rfl⟩ (by decide) rfl rfl (Nat.le_of_ble_eq_true rfl) rfl c_X10_refused_1 ?_
      rintro r w' ⟨rfl, rfl⟩
      refine ab_ifeq 32 dX10_span_25 (by decide) (fun h_7 => ?_) (fun h_7 => absurd (by decide) h_7)
      refine ab_aload_n dX10_span_32 rfl ?_
      refine ab_iload_n dX10_span_33 rfl ?_
      refine ab_iload_n dX10_span_34 rfl ?_
      refine ab_callV (As := [.int a1, .int a2]) (rest := []) dX10_span_35 mv_X10_positionAt ml_X10_166 ⟨by decide, by decide, rfl, rfl, rfl⟩ (by decide) rfl rfl (Nat.le_of_ble_eq_true rfl) rfl (c_X10_positionAt c_1 h_c0 c_4) ?_
      rintro r w' ⟨rfl, rfl⟩
      refine ab_astore (la' := [(4, .ref 11), (0, .ref 0), (1, .int a1), (2, .int a2), (3, .int a3)]) dX10_span_38 (by decide) rfl ?_
      refine ab_aload dX10_span_40 rfl ?_
      refine ab_getf dX10_span_42 fl_X10_181 rfl rfl ?_
      refine ab_aload dX10_span_45 rfl ?_
      refine ab_getf dX10_span_47 fl_X10_185 rfl rfl ?_
      refine ab_iload_n dX10_span_50 rfl ?_
      refine ab_callS (As := [.long (Ps_s (Bg r5 a1) (Ba r5 a1) a2), .long (Ps_n a2), .int a3]) (rest := []) dX10_span_51 ms_X9_reduced ml_X10_188 ⟨by decide, by decide, rfl, rfl, rfl⟩ (by decide) rfl rfl (Nat.le_of_ble_eq_true rfl) (c_X9_reduced (h_q1 c_1 c_4) (h_q2 c_1 c_4)) ?_
      rintro r w' ⟨rfl, rfl⟩
      exact ab_lret dX10_span_54 rfl (by decide) (Or.inl ⟨c_1, c_4, rfl, rfl⟩)
    · refine ab_ifeq 20 dX10_span_13 (by decide) (fun h_8 => ?_) (fun h_8 => absurd (by decide) h_8)
      refine ab_iconst (v := 0) dX10_span_20 (by decide) ?_
      refine ab_iconst (v := 1) dX10_span_21 (by decide) ?_
      refine ab_callV (As := [.int 0, .int 1]) (rest := []) dX10_span_22 mv_X10_refused ml_X10_84 ⟨by decide, by decide, rfl, rfl, rfl⟩ (by decide) rfl rfl (Nat.le_of_ble_eq_true rfl) rfl c_X10_refused_0 ?_
      rintro r w' ⟨rfl, rfl⟩
      refine ab_ifeq 32 dX10_span_25 (by decide) (fun h_9 => absurd h_9 (by decide)) (fun h_9 => ?_)
      refine ab_ldc2 dX10_span_28 kl_X10_179 ?_
      exact ab_lret dX10_span_31 rfl (by decide) (Or.inr (Or.inl ⟨c_1, c_5, rfl, rfl⟩))
  · refine ab_ifeq 20 dX10_span_6 (by decide) (fun h_10 => ?_) (fun h_10 => absurd (by decide) h_10)
    refine ab_iconst (v := 0) dX10_span_20 (by decide) ?_
    refine ab_iconst (v := 1) dX10_span_21 (by decide) ?_
    refine ab_callV (As := [.int 0, .int 1]) (rest := []) dX10_span_22 mv_X10_refused ml_X10_84 ⟨by decide, by decide, rfl, rfl, rfl⟩ (by decide) rfl rfl (Nat.le_of_ble_eq_true rfl) rfl c_X10_refused_0 ?_
    rintro r w' ⟨rfl, rfl⟩
    refine ab_ifeq 32 dX10_span_25 (by decide) (fun h_11 => absurd h_11 (by decide)) (fun h_11 => ?_)
    refine ab_ldc2 dX10_span_28 kl_X10_179 ?_
    exact ab_lret dX10_span_31 rfl (by decide) (Or.inr (Or.inr (⟨c_2, rfl, rfl⟩)))
theorem c_X10_force2 {f0_0 f10_0 f10_1 f10_2 f10_3 a1 a2 a3 : Int32} {x1 x2 x3 x7 x8 x9 x12 x13 x14 x15 x16 x17 x18 x19 x20 x21 x22 x23 x24 x25 x26 x27 x28 x29 x30 x31 x32 : ax_E} {r5 r6 : Nat → Int32} {f11_0 f11_1 f11_2 f11_3 f11_4 f11_5 f11_6 f11_7 f11_8 f11_9 f11_10 f11_11 f11_12 f11_13 f11_14 f11_15 : Int64} {wm : List ax_E} (h_c0 : r6 0 ≤ nI 4) (h_q1 : (0 ≤ a1 ∧ a1 < r6 0) → (0 ≤ a2 ∧ a2 < 40) → (0 < (Ps_s (Bg r5 a1) (Ba r5 a1) a2) ∧ 0 ≤ (Ps_k (Bg r5 a1) (Ba r5 a1) (Bb r5 a1) (Bc r5 a1) a2)) → (Fo_u (Ps_n a2) (Ps_s (Bg r5 a1) (Ba r5 a1) a2) (Int32.toInt64 (Bb r5 a1)) (Int32.toInt64 (Bc r5 a1))).toInt ≠ -2 ^ 63) (h_q2 : (0 ≤ a1 ∧ a1 < r6 0) → (0 ≤ a2 ∧ a2 < 40) → (0 < (Ps_s (Bg r5 a1) (Ba r5 a1) a2) ∧ 0 ≤ (Ps_k (Bg r5 a1) (Ba r5 a1) (Bb r5 a1) (Bc r5 a1) a2)) → (Fo_l (Ps_n a2) (Int32.toInt64 (Bb r5 a1)) (Int32.toInt64 (Bc r5 a1))).toInt ≠ -2 ^ 63) : Ct M_X10_force [.ref 0, .int a1, .int a2, .int a3] ([ob 8 [.int f0_0, .ref 1, .ref 4, .ref 7, .ref 10, .ref 11, .ref 12, .ref 18, .ref 25, .ref 29], x1, x2, x3, ob 2 [.ref 5, .ref 6], ia 56 r5, ia 4 r6, x7, x8, x9, ob 3 [.int f10_0, .int f10_1, .int f10_2, .int f10_3], ob 5 [.long f11_0, .long f11_1, .long f11_2, .long f11_3, .long f11_4, .long f11_5, .long f11_6, .long f11_7, .long f11_8, .long f11_9, .long f11_10, .long f11_11, .long f11_12, .long f11_13, .long f11_14, .long f11_15], x12, x13, x14, x15, x16, x17, x18, x19, x20, x21, x22, x23, x24, x25, x26, x27, x28, x29, x30, x31, x32], wm) (fun r w' => ((0 ≤ a1 ∧ a1 < r6 0) ∧ (0 ≤ a2 ∧ a2 < 40) ∧ (0 < (Ps_s (Bg r5 a1) (Ba r5 a1) a2) ∧ 0 ≤ (Ps_k (Bg r5 a1) (Ba r5 a1) (Bb r5 a1) (Bc r5 a1) a2)) ∧ r = some (.long (Rd (Fo_u (Ps_n a2) (Ps_s (Bg r5 a1) (Ba r5 a1) a2) (Int32.toInt64 (Bb r5 a1)) (Int32.toInt64 (Bc r5 a1))) (Fo_l (Ps_n a2) (Int32.toInt64 (Bb r5 a1)) (Int32.toInt64 (Bc r5 a1))) a3)) ∧ w' = ([ob 8 [.int 0, .ref 1, .ref 4, .ref 7, .ref 10, .ref 11, .ref 12, .ref 18, .ref 25, .ref 29], x1, x2, x3, ob 2 [.ref 5, .ref 6], ia 56 r5, ia 4 r6, x7, x8, x9, ob 3 [.int (Bg r5 a1), .int (Ba r5 a1), .int (Bb r5 a1), .int (Bc r5 a1)], ob 5 [.long (Ps_n a2), .long (Ps_d a2), .long (Ps_s (Bg r5 a1) (Ba r5 a1) a2), .long (Ps_k (Bg r5 a1) (Ba r5 a1) (Bb r5 a1) (Bc r5 a1) a2), .long (Int32.toInt64 (Bg r5 a1)), .long (Int32.toInt64 (Ba r5 a1)), .long (Int32.toInt64 (Bb r5 a1)), .long (Int32.toInt64 (Bc r5 a1)), .long (Ps_c a2), .long (Ps_e (Bg r5 a1) (Ba r5 a1) (Bb r5 a1) (Bc r5 a1) a2), .long (Ps_x (Bg r5 a1) (Ba r5 a1) a2), .long (Ps_y (Ba r5 a1) a2), .long f11_12, .long f11_13, .long f11_14, .long f11_15], x12, x13, x14, x15, x16, x17, x18, x19, x20, x21, x22, x23, x24, x25, x26, x27, x28, x29, x30, x31, x32], wm)) ∨ ((0 ≤ a1 ∧ a1 < r6 0) ∧ (0 ≤ a2 ∧ a2 < 40) ∧ (¬ (0 < (Ps_s (Bg r5 a1) (Ba r5 a1) a2) ∧ 0 ≤ (Ps_k (Bg r5 a1) (Ba r5 a1) (Bb r5 a1) (Bc r5 a1) a2))) ∧ r = some (.long (-9223372036854775808)) ∧ w' = ([ob 8 [.int 5, .ref 1, .ref 4, .ref 7, .ref 10, .ref 11, .ref 12, .ref 18, .ref 25, .ref 29], x1, x2, x3, ob 2 [.ref 5, .ref 6], ia 56 r5, ia 4 r6, x7, x8, x9, ob 3 [.int (Bg r5 a1), .int (Ba r5 a1), .int (Bb r5 a1), .int (Bc r5 a1)], ob 5 [.long (Ps_n a2), .long (Ps_d a2), .long (Ps_s (Bg r5 a1) (Ba r5 a1) a2), .long (Ps_k (Bg r5 a1) (Ba r5 a1) (Bb r5 a1) (Bc r5 a1) a2), .long (Int32.toInt64 (Bg r5 a1)), .long (Int32.toInt64 (Ba r5 a1)), .long (Int32.toInt64 (Bb r5 a1)), .long (Int32.toInt64 (Bc r5 a1)), .long (Ps_c a2), .long (Ps_e (Bg r5 a1) (Ba r5 a1) (Bb r5 a1) (Bc r5 a1) a2), .long (Ps_x (Bg r5 a1) (Ba r5 a1) a2), .long (Ps_y (Ba r5 a1) a2), .long f11_12, .long f11_13, .long f11_14, .long f11_15], x12, x13, x14, x15, x16, x17, x18, x19, x20, x21, x22, x23, x24, x25, x26, x27, x28, x29, x30, x31, x32], wm)) ∨ ((0 ≤ a1 ∧ a1 < r6 0) ∧ (¬ (0 ≤ a2 ∧ a2 < 40)) ∧ r = some (.long (-9223372036854775808)) ∧ w' = ([ob 8 [.int 1, .ref 1, .ref 4, .ref 7, .ref 10, .ref 11, .ref 12, .ref 18, .ref 25, .ref 29], x1, x2, x3, ob 2 [.ref 5, .ref 6], ia 56 r5, ia 4 r6, x7, x8, x9, ob 3 [.int f10_0, .int f10_1, .int f10_2, .int f10_3], ob 5 [.long f11_0, .long f11_1, .long f11_2, .long f11_3, .long f11_4, .long f11_5, .long f11_6, .long f11_7, .long f11_8, .long f11_9, .long f11_10, .long f11_11, .long f11_12, .long f11_13, .long f11_14, .long f11_15], x12, x13, x14, x15, x16, x17, x18, x19, x20, x21, x22, x23, x24, x25, x26, x27, x28, x29, x30, x31, x32], wm)) ∨ ((¬ (0 ≤ a1 ∧ a1 < r6 0)) ∧ r = some (.long (-9223372036854775808)) ∧ w' = ([ob 8 [.int 1, .ref 1, .ref 4, .ref 7, .ref 10, .ref 11, .ref 12, .ref 18, .ref 25, .ref 29], x1, x2, x3, ob 2 [.ref 5, .ref 6], ia 56 r5, ia 4 r6, x7, x8, x9, ob 3 [.int f10_0, .int f10_1, .int f10_2, .int f10_3], ob 5 [.long f11_0, .long f11_1, .long f11_2, .long f11_3, .long f11_4, .long f11_5, .long f11_6, .long f11_7, .long f11_8, .long f11_9, .long f11_10, .long f11_11, .long f11_12, .long f11_13, .long f11_14, .long f11_15], x12, x13, x14, x15, x16, x17, x18, x19, x20, x21, x22, x23, x24, x25, x26, x27, x28, x29, x30, x31, x32], wm))) := by
  refine ct_of ⟨by decide, rfl⟩ (Nat.le_of_ble_eq_true rfl) ?_
  refine ab_aload_n dX10_force_0 rfl ?_
  refine ab_aload_n dX10_force_1 rfl ?_
  refine ab_iload_n dX10_force_2 rfl ?_
  refine ab_callV (As := [.int a1]) (rest := [.ref 0]) dX10_force_3 mv_X10_hasLinkage ml_X10_133 ⟨by decide, by decide, rfl, rfl, rfl⟩ (by decide) rfl rfl (Nat.le_of_ble_eq_true rfl) rfl c_X10_hasLinkage ?_
  rintro r w' (⟨c_1, rfl, rfl⟩ | ⟨c_2, rfl, rfl⟩)
  · refine ab_ifeq 20 dX10_force_6 (by decide) (fun h_3 => absurd h_3 (by decide)) (fun h_3 => ?_)
    refine ab_iload_n dX10_force_9 rfl ?_
    refine ab_callS (As := [.int a2]) (rest := [.ref 0]) dX10_force_10 ms_X7_has ml_X10_114 ⟨by decide, by decide, rfl, rfl, rfl⟩ (by decide) rfl rfl (Nat.le_of_ble_eq_true rfl) c_X7_has ?_
    rintro r w' (⟨c_4, rfl, rfl⟩ | ⟨c_5, rfl, rfl⟩)
    · refine ab_ifeq 20 dX10_force_13 (by decide) (fun h_6 => absurd h_6 (by decide)) (fun h_6 => ?_)
      refine ab_iconst (v := 1) dX10_force_16 (by decide) ?_
      refine ab_goto 21 dX10_force_17 (by decide) ?_
      refine ab_iconst (v := 1) dX10_force_21 (by decide) ?_
      refine ab_callV (As := [.int 1, .int 1]) (rest := []) dX10_force_22 mv_X10_refused ml_X10_84 ⟨by decide, by decide, rfl, rfl, rfl⟩ (by decide) rfl rfl (Nat.le_of_ble_eq_true rfl) rfl c_X10_refused_1 ?_
      rintro r w' ⟨rfl, rfl⟩
      refine ab_ifeq 32 dX10_force_25 (by decide) (fun h_7 => ?_) (fun h_7 => absurd (by decide) h_7)
      refine ab_aload_n dX10_force_32 rfl ?_
      refine ab_aload_n dX10_force_33 rfl ?_
      refine ab_iload_n dX10_force_34 rfl ?_
      refine ab_iload_n dX10_force_35 rfl ?_
      refine ab_callV (As := [.int a1, .int a2]) (rest := [.ref 0]) dX10_force_36 mv_X10_positionAt ml_X10_166 ⟨by decide, by decide, rfl, rfl, rfl⟩ (by decide) rfl rfl (Nat.le_of_ble_eq_true rfl) rfl (c_X10_positionAt c_1 h_c0 c_4) ?_
      rintro r w' ⟨rfl, rfl⟩
      refine ab_callV (As := []) (rest := [.ref 0]) dX10_force_39 mv_X5_isLawful ml_X10_203 ⟨by decide, by decide, rfl, rfl, rfl⟩ (by decide) rfl rfl (Nat.le_of_ble_eq_true rfl) rfl c_X5_isLawful ?_
      rintro r w' (⟨c_8, rfl, rfl⟩ | ⟨c_9, rfl, rfl⟩)
      · refine ab_iconst (v := 5) dX10_force_42 (by decide) ?_
        refine ab_callV (As := [.int 1, .int 5]) (rest := []) dX10_force_43 mv_X10_refused ml_X10_84 ⟨by decide, by decide, rfl, rfl, rfl⟩ (by decide) rfl rfl (Nat.le_of_ble_eq_true rfl) rfl c_X10_refused_1 ?_
        rintro r w' ⟨rfl, rfl⟩
        refine ab_ifeq 53 dX10_force_46 (by decide) (fun h_10 => ?_) (fun h_10 => absurd (by decide) h_10)
        refine ab_aload_n dX10_force_53 rfl ?_
        refine ab_getf dX10_force_54 fl_X10_40 rfl rfl ?_
        refine ab_callV (As := []) (rest := []) dX10_force_57 mv_X5_forceUpper ml_X10_229 ⟨by decide, by decide, rfl, rfl, rfl⟩ (by decide) rfl rfl (Nat.le_of_ble_eq_true rfl) rfl c_X5_forceUpper ?_
        rintro r w' ⟨rfl, rfl⟩
        refine ab_aload_n dX10_force_60 rfl ?_
        refine ab_getf dX10_force_61 fl_X10_40 rfl rfl ?_
        refine ab_callV (As := []) (rest := [.long (Fo_u (Ps_n a2) (Ps_s (Bg r5 a1) (Ba r5 a1) a2) (Int32.toInt64 (Bb r5 a1)) (Int32.toInt64 (Bc r5 a1)))]) dX10_force_64 mv_X5_forceLower ml_X10_233 ⟨by decide, by decide, rfl, rfl, rfl⟩ (by decide) rfl rfl (Nat.le_of_ble_eq_true rfl) rfl c_X5_forceLower ?_
        rintro r w' ⟨rfl, rfl⟩
        refine ab_iload_n dX10_force_67 rfl ?_
        refine ab_callS (As := [.long (Fo_u (Ps_n a2) (Ps_s (Bg r5 a1) (Ba r5 a1) a2) (Int32.toInt64 (Bb r5 a1)) (Int32.toInt64 (Bc r5 a1))), .long (Fo_l (Ps_n a2) (Int32.toInt64 (Bb r5 a1)) (Int32.toInt64 (Bc r5 a1))), .int a3]) (rest := []) dX10_force_68 ms_X9_reduced ml_X10_188 ⟨by decide, by decide, rfl, rfl, rfl⟩ (by decide) rfl rfl (Nat.le_of_ble_eq_true rfl) (c_X9_reduced (h_q1 c_1 c_4 c_8) (h_q2 c_1 c_4 c_8)) ?_
        rintro r w' ⟨rfl, rfl⟩
        exact ab_lret dX10_force_71 rfl (by decide) (Or.inl ⟨c_1, c_4, c_8, rfl, rfl⟩)
      · refine ab_iconst (v := 5) dX10_force_42 (by decide) ?_
        refine ab_callV (As := [.int 0, .int 5]) (rest := []) dX10_force_43 mv_X10_refused ml_X10_84 ⟨by decide, by decide, rfl, rfl, rfl⟩ (by decide) rfl rfl (Nat.le_of_ble_eq_true rfl) rfl c_X10_refused_0 ?_
        rintro r w' ⟨rfl, rfl⟩
        refine ab_ifeq 53 dX10_force_46 (by decide) (fun h_11 => absurd h_11 (by decide)) (fun h_11 => ?_)
        refine ab_ldc2 dX10_force_49 kl_X10_194 ?_
        exact ab_lret dX10_force_52 rfl (by decide) (Or.inr (Or.inl ⟨c_1, c_4, c_9, rfl, rfl⟩))
    · refine ab_ifeq 20 dX10_force_13 (by decide) (fun h_12 => ?_) (fun h_12 => absurd (by decide) h_12)
      refine ab_iconst (v := 0) dX10_force_20 (by decide) ?_
      refine ab_iconst (v := 1) dX10_force_21 (by decide) ?_
      refine ab_callV (As := [.int 0, .int 1]) (rest := []) dX10_force_22 mv_X10_refused ml_X10_84 ⟨by decide, by decide, rfl, rfl, rfl⟩ (by decide) rfl rfl (Nat.le_of_ble_eq_true rfl) rfl c_X10_refused_0 ?_
      rintro r w' ⟨rfl, rfl⟩
      refine ab_ifeq 32 dX10_force_25 (by decide) (fun h_13 => absurd h_13 (by decide)) (fun h_13 => ?_)
      refine ab_ldc2 dX10_force_28 kl_X10_194 ?_
      exact ab_lret dX10_force_31 rfl (by decide) (Or.inr (Or.inr (Or.inl ⟨c_1, c_5, rfl, rfl⟩)))
  · refine ab_ifeq 20 dX10_force_6 (by decide) (fun h_14 => ?_) (fun h_14 => absurd (by decide) h_14)
    refine ab_iconst (v := 0) dX10_force_20 (by decide) ?_
    refine ab_iconst (v := 1) dX10_force_21 (by decide) ?_
    refine ab_callV (As := [.int 0, .int 1]) (rest := []) dX10_force_22 mv_X10_refused ml_X10_84 ⟨by decide, by decide, rfl, rfl, rfl⟩ (by decide) rfl rfl (Nat.le_of_ble_eq_true rfl) rfl c_X10_refused_0 ?_
    rintro r w' ⟨rfl, rfl⟩
    refine ab_ifeq 32 dX10_force_25 (by decide) (fun h_15 => absurd h_15 (by decide)) (fun h_15 => ?_)
    refine ab_ldc2 dX10_force_28 kl_X10_194 ?_
    exact ab_lret dX10_force_31 rfl (by decide) (Or.inr (Or.inr (Or.inr (⟨c_2, rfl, rfl⟩))))
