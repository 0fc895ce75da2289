theorem i32_ne (x : Int32) : x.toInt64.toInt ≠ -2 ^ 63 := by
  rw [Int32.toInt_toInt64]
  have := x.le_toInt
  omega
theorem c_X10_bar {f0_0 a1 a2 : Int32} {x1 x2 x3 x7 x8 x9 x10 x11 x12 x13 x14 x15 x16 x17 x18 x19 x20 x21 x22 x23 x24 x25 x26 x27 x28 x29 x30 x31 x32 : ax_E} {r5 r6 : Nat → Int32} {wm : List ax_E} (h_c0 : r6 0 ≤ nI 4) : Ct M_X10_bar [.ref 0, .int a1, .int a2] ([ob 8 [.int f0_0, .ref 1, .ref 4, .ref 7, .ref 10, .ref 11, .ref 12, .ref 18, .ref 25, .ref 29], x1, x2, x3, ob 2 [.ref 5, .ref 6], ia 56 r5, ia 4 r6, x7, x8, x9, x10, x11, x12, x13, x14, x15, x16, x17, x18, x19, x20, x21, x22, x23, x24, x25, x26, x27, x28, x29, x30, x31, x32], wm) (fun r w' => ((0 ≤ a1 ∧ a1 < r6 0) ∧ (0 ≤ a2 ∧ a2 < 4) ∧ r = some (.int (r5 (0 + Int32.toNatClampNeg a1 * 4 + Int32.toNatClampNeg a2))) ∧ w' = ([ob 8 [.int 0, .ref 1, .ref 4, .ref 7, .ref 10, .ref 11, .ref 12, .ref 18, .ref 25, .ref 29], x1, x2, x3, ob 2 [.ref 5, .ref 6], ia 56 r5, ia 4 r6, x7, x8, x9, x10, x11, x12, x13, x14, x15, x16, x17, x18, x19, x20, x21, x22, x23, x24, x25, x26, x27, x28, x29, x30, x31, x32], wm)) ∨ ((0 ≤ a1 ∧ a1 < r6 0) ∧ (¬ (0 ≤ a2 ∧ a2 < 4)) ∧ r = some (.int (-1)) ∧ w' = ([ob 8 [.int 1, .ref 1, .ref 4, .ref 7, .ref 10, .ref 11, .ref 12, .ref 18, .ref 25, .ref 29], x1, x2, x3, ob 2 [.ref 5, .ref 6], ia 56 r5, ia 4 r6, x7, x8, x9, x10, x11, x12, x13, x14, x15, x16, x17, x18, x19, x20, x21, x22, x23, x24, x25, x26, x27, x28, x29, x30, x31, x32], wm)) ∨ ((¬ (0 ≤ a1 ∧ a1 < r6 0)) ∧ r = some (.int (-1)) ∧ w' = ([ob 8 [.int 1, .ref 1, .ref 4, .ref 7, .ref 10, .ref 11, .ref 12, .ref 18, .ref 25, .ref 29], x1, x2, x3, ob 2 [.ref 5, .ref 6], ia 56 r5, ia 4 r6, x7, x8, x9, x10, x11, x12, x13, x14, x15, x16, x17, x18, x19, x20, x21, x22, x23, x24, x25, x26, x27, x28, x29, x30, x31, x32], wm))) := by
  refine ct_of ⟨by decide, rfl⟩ (Nat.le_of_ble_eq_true rfl) ?_
  refine ab_aload_n dX10_bar_0 rfl ?_
  refine ab_aload_n dX10_bar_1 rfl ?_
  refine ab_iload_n dX10_bar_2 rfl ?_
  refine ab_callV (As := [.int a1]) (rest := [.ref 0]) dX10_bar_3 mv_X10_hasLinkage ml_X10_133 ⟨by decide, by decide, rfl, rfl, rfl⟩ (by decide) rfl rfl (Nat.le_of_ble_eq_true rfl) rfl c_X10_hasLinkage ?_
  rintro r w' (⟨c_1, rfl, rfl⟩ | ⟨c_2, rfl, rfl⟩)
  · refine ab_ifeq 21 dX10_bar_6 (by decide) (fun h_3 => absurd h_3 (by decide)) (fun h_3 => ?_)
    refine ab_iload_n dX10_bar_9 rfl ?_
    refine ab_iconst (v := 4) dX10_bar_10 (by decide) ?_
    refine ab_callS (As := [.int a2, .int 4]) (rest := [.ref 0]) dX10_bar_11 ms_X10_isOf ml_X10_118 ⟨by decide, by decide, rfl, rfl, rfl⟩ (by decide) rfl rfl (Nat.le_of_ble_eq_true rfl) c_X10_isOf ?_
    rintro r w' (⟨c_4, rfl, rfl⟩ | ⟨c_5, rfl, rfl⟩)
    · refine ab_ifeq 21 dX10_bar_14 (by decide) (fun h_6 => absurd h_6 (by decide)) (fun h_6 => ?_)
      refine ab_iconst (v := 1) dX10_bar_17 (by decide) ?_
      refine ab_goto 22 dX10_bar_18 (by decide) ?_
      refine ab_iconst (v := 1) dX10_bar_22 (by decide) ?_
      refine ab_callV (As := [.int 1, .int 1]) (rest := []) dX10_bar_23 mv_X10_refused ml_X10_84 ⟨by decide, by decide, rfl, rfl, rfl⟩ (by decide) rfl rfl (Nat.le_of_ble_eq_true rfl) rfl c_X10_refused_1 ?_
      rintro r w' ⟨rfl, rfl⟩
      refine ab_ifeq 31 dX10_bar_26 (by decide) (fun h_7 => ?_) (fun h_7 => absurd (by decide) h_7)
      refine ab_aload_n dX10_bar_31 rfl ?_
      refine ab_getf dX10_bar_32 fl_X10_23 rfl rfl ?_
      refine ab_iconst (v := 0) dX10_bar_35 (by decide) ?_
      refine ab_iload_n dX10_bar_36 rfl ?_
      refine ab_iload_n dX10_bar_37 rfl ?_
      refine ab_callV (As := [.int 0, .int a1, .int a2]) (rest := []) dX10_bar_38 mv_X2_told ml_X10_136 ⟨by decide, by decide, rfl, rfl, rfl⟩ (by decide) rfl rfl (Nat.le_of_ble_eq_true rfl) rfl (c_X2_told_0 c_1 h_c0 c_4) ?_
      rintro r w' ⟨rfl, rfl⟩
      exact ab_iret dX10_bar_41 rfl (by decide) (Or.inl ⟨c_1, c_4, rfl, rfl⟩)
    · refine ab_ifeq 21 dX10_bar_14 (by decide) (fun h_8 => ?_) (fun h_8 => absurd (by decide) h_8)
      refine ab_iconst (v := 0) dX10_bar_21 (by decide) ?_
      refine ab_iconst (v := 1) dX10_bar_22 (by decide) ?_
      refine ab_callV (As := [.int 0, .int 1]) (rest := []) dX10_bar_23 mv_X10_refused ml_X10_84 ⟨by decide, by decide, rfl, rfl, rfl⟩ (by decide) rfl rfl (Nat.le_of_ble_eq_true rfl) rfl c_X10_refused_0 ?_
      rintro r w' ⟨rfl, rfl⟩
      refine ab_ifeq 31 dX10_bar_26 (by decide) (fun h_9 => absurd h_9 (by decide)) (fun h_9 => ?_)
      refine ab_iconst (v := -1) dX10_bar_29 (by decide) ?_
      exact ab_iret dX10_bar_30 rfl (by decide) (Or.inr (Or.inl ⟨c_1, c_5, rfl, rfl⟩))
  · refine ab_ifeq 21 dX10_bar_6 (by decide) (fun h_10 => ?_) (fun h_10 => absurd (by decide) h_10)
    refine ab_iconst (v := 0) dX10_bar_21 (by decide) ?_
    refine ab_iconst (v := 1) dX10_bar_22 (by decide) ?_
    refine ab_callV (As := [.int 0, .int 1]) (rest := []) dX10_bar_23 mv_X10_refused ml_X10_84 ⟨by decide, by decide, rfl, rfl, rfl⟩ (by decide) rfl rfl (Nat.le_of_ble_eq_true rfl) rfl c_X10_refused_0 ?_
    rintro r w' ⟨rfl, rfl⟩
    refine ab_ifeq 31 dX10_bar_26 (by decide) (fun h_11 => absurd h_11 (by decide)) (fun h_11 => ?_)
    refine ab_iconst (v := -1) dX10_bar_29 (by decide) ?_
    exact ab_iret dX10_bar_30 rfl (by decide) (Or.inr (Or.inr (⟨c_2, rfl, rfl⟩)))
theorem c_X10_tracer {f0_0 a1 a2 : Int32} {x1 x2 x3 x7 x8 x9 x10 x11 x12 x13 x14 x15 x16 x17 x18 x19 x20 x21 x22 x23 x24 x25 x26 x27 x28 x29 x30 x31 x32 : ax_E} {r5 r6 : Nat → Int32} {wm : List ax_E} (h_c1 : r6 1 ≤ nI 4) : Ct M_X10_tracer [.ref 0, .int a1, .int a2] ([ob 8 [.int f0_0, .ref 1, .ref 4, .ref 7, .ref 10, .ref 11, .ref 12, .ref 18, .ref 25, .ref 29], x1, x2, x3, ob 2 [.ref 5, .ref 6], ia 56 r5, ia 4 r6, x7, x8, x9, x10, x11, x12, x13, x14, x15, x16, x17, x18, x19, x20, x21, x22, x23, x24, x25, x26, x27, x28, x29, x30, x31, x32], wm) (fun r w' => ((0 ≤ a1 ∧ a1 < r6 1) ∧ (0 ≤ a2 ∧ a2 < 2) ∧ r = some (.int (r5 (16 + Int32.toNatClampNeg a1 * 2 + Int32.toNatClampNeg a2))) ∧ w' = ([ob 8 [.int 0, .ref 1, .ref 4, .ref 7, .ref 10, .ref 11, .ref 12, .ref 18, .ref 25, .ref 29], x1, x2, x3, ob 2 [.ref 5, .ref 6], ia 56 r5, ia 4 r6, x7, x8, x9, x10, x11, x12, x13, x14, x15, x16, x17, x18, x19, x20, x21, x22, x23, x24, x25, x26, x27, x28, x29, x30, x31, x32], wm)) ∨ ((0 ≤ a1 ∧ a1 < r6 1) ∧ (¬ (0 ≤ a2 ∧ a2 < 2)) ∧ r = some (.int (-1000000000)) ∧ w' = ([ob 8 [.int 1, .ref 1, .ref 4, .ref 7, .ref 10, .ref 11, .ref 12, .ref 18, .ref 25, .ref 29], x1, x2, x3, ob 2 [.ref 5, .ref 6], ia 56 r5, ia 4 r6, x7, x8, x9, x10, x11, x12, x13, x14, x15, x16, x17, x18, x19, x20, x21, x22, x23, x24, x25, x26, x27, x28, x29, x30, x31, x32], wm)) ∨ ((¬ (0 ≤ a1 ∧ a1 < r6 1)) ∧ r = some (.int (-1000000000)) ∧ w' = ([ob 8 [.int 1, .ref 1, .ref 4, .ref 7, .ref 10, .ref 11, .ref 12, .ref 18, .ref 25, .ref 29], x1, x2, x3, ob 2 [.ref 5, .ref 6], ia 56 r5, ia 4 r6, x7, x8, x9, x10, x11, x12, x13, x14, x15, x16, x17, x18, x19, x20, x21, x22, x23, x24, x25, x26, x27, x28, x29, x30, x31, x32], wm))) := by
  refine ct_of ⟨by decide, rfl⟩ (Nat.le_of_ble_eq_true rfl) ?_
  refine ab_aload_n dX10_tracer_0 rfl ?_
  refine ab_aload_n dX10_tracer_1 rfl ?_
  refine ab_getf dX10_tracer_2 fl_X10_23 rfl rfl ?_
  refine ab_iconst (v := 1) dX10_tracer_5 (by decide) ?_
  refine ab_iload_n dX10_tracer_6 rfl ?_
  refine ab_callV (As := [.int 1, .int a1]) (rest := [.ref 0]) dX10_tracer_7 mv_X2_has ml_X10_264 ⟨by decide, by decide, rfl, rfl, rfl⟩ (by decide) rfl rfl (Nat.le_of_ble_eq_true rfl) rfl c_X2_has_1 ?_
  rintro r w' (⟨c_1, rfl, rfl⟩ | ⟨c_2, rfl, rfl⟩)
  · refine ab_ifeq 25 dX10_tracer_10 (by decide) (fun h_3 => absurd h_3 (by decide)) (fun h_3 => ?_)
    refine ab_iload_n dX10_tracer_13 rfl ?_
    refine ab_iconst (v := 2) dX10_tracer_14 (by decide) ?_
    refine ab_callS (As := [.int a2, .int 2]) (rest := [.ref 0]) dX10_tracer_15 ms_X10_isOf ml_X10_118 ⟨by decide, by decide, rfl, rfl, rfl⟩ (by decide) rfl rfl (Nat.le_of_ble_eq_true rfl) c_X10_isOf ?_
    rintro r w' (⟨c_4, rfl, rfl⟩ | ⟨c_5, rfl, rfl⟩)
    · refine ab_ifeq 25 dX10_tracer_18 (by decide) (fun h_6 => absurd h_6 (by decide)) (fun h_6 => ?_)
      refine ab_iconst (v := 1) dX10_tracer_21 (by decide) ?_
      refine ab_goto 26 dX10_tracer_22 (by decide) ?_
      refine ab_iconst (v := 1) dX10_tracer_26 (by decide) ?_
      refine ab_callV (As := [.int 1, .int 1]) (rest := []) dX10_tracer_27 mv_X10_refused ml_X10_84 ⟨by decide, by decide, rfl, rfl, rfl⟩ (by decide) rfl rfl (Nat.le_of_ble_eq_true rfl) rfl c_X10_refused_1 ?_
      rintro r w' ⟨rfl, rfl⟩
      refine ab_ifeq 36 dX10_tracer_30 (by decide) (fun h_7 => ?_) (fun h_7 => absurd (by decide) h_7)
      refine ab_aload_n dX10_tracer_36 rfl ?_
      refine ab_getf dX10_tracer_37 fl_X10_23 rfl rfl ?_
      refine ab_iconst (v := 1) dX10_tracer_40 (by decide) ?_
      refine ab_iload_n dX10_tracer_41 rfl ?_
      refine ab_iload_n dX10_tracer_42 rfl ?_
      refine ab_callV (As := [.int 1, .int a1, .int a2]) (rest := []) dX10_tracer_43 mv_X2_told ml_X10_136 ⟨by decide, by decide, rfl, rfl, rfl⟩ (by decide) rfl rfl (Nat.le_of_ble_eq_true rfl) rfl (c_X2_told_1 c_1 h_c1 c_4) ?_
      rintro r w' ⟨rfl, rfl⟩
      exact ab_iret dX10_tracer_46 rfl (by decide) (Or.inl ⟨c_1, c_4, rfl, rfl⟩)
    · refine ab_ifeq 25 dX10_tracer_18 (by decide) (fun h_8 => ?_) (fun h_8 => absurd (by decide) h_8)
      refine ab_iconst (v := 0) dX10_tracer_25 (by decide) ?_
      refine ab_iconst (v := 1) dX10_tracer_26 (by decide) ?_
      refine ab_callV (As := [.int 0, .int 1]) (rest := []) dX10_tracer_27 mv_X10_refused ml_X10_84 ⟨by decide, by decide, rfl, rfl, rfl⟩ (by decide) rfl rfl (Nat.le_of_ble_eq_true rfl) rfl c_X10_refused_0 ?_
      rintro r w' ⟨rfl, rfl⟩
      refine ab_ifeq 36 dX10_tracer_30 (by decide) (fun h_9 => absurd h_9 (by decide)) (fun h_9 => ?_)
      refine ab_ldc dX10_tracer_33 kc_X10_122 ?_
      exact ab_iret dX10_tracer_35 rfl (by decide) (Or.inr (Or.inl ⟨c_1, c_5, rfl, rfl⟩))
  · refine ab_ifeq 25 dX10_tracer_10 (by decide) (fun h_10 => ?_) (fun h_10 => absurd (by decide) h_10)
    refine ab_iconst (v := 0) dX10_tracer_25 (by decide) ?_
    refine ab_iconst (v := 1) dX10_tracer_26 (by decide) ?_
    refine ab_callV (As := [.int 0, .int 1]) (rest := []) dX10_tracer_27 mv_X10_refused ml_X10_84 ⟨by decide, by decide, rfl, rfl, rfl⟩ (by decide) rfl rfl (Nat.le_of_ble_eq_true rfl) rfl c_X10_refused_0 ?_
    rintro r w' ⟨rfl, rfl⟩
    refine ab_ifeq 36 dX10_tracer_30 (by decide) (fun h_11 => absurd h_11 (by decide)) (fun h_11 => ?_)
    refine ab_ldc dX10_tracer_33 kc_X10_122 ?_
    exact ab_iret dX10_tracer_35 rfl (by decide) (Or.inr (Or.inr (⟨c_2, rfl, rfl⟩)))
theorem c_X10_point {f0_0 a1 a2 : Int32} {x1 x2 x3 x7 x8 x9 x10 x11 x12 x13 x14 x15 x16 x17 x18 x19 x20 x21 x22 x23 x24 x25 x26 x27 x28 x29 x30 x31 x32 : ax_E} {r5 r6 : Nat → Int32} {wm : List ax_E} (h_c2 : r6 2 ≤ nI 8) : Ct M_X10_point [.ref 0, .int a1, .int a2] ([ob 8 [.int f0_0, .ref 1, .ref 4, .ref 7, .ref 10, .ref 11, .ref 12, .ref 18, .ref 25, .ref 29], x1, x2, x3, ob 2 [.ref 5, .ref 6], ia 56 r5, ia 4 r6, x7, x8, x9, x10, x11, x12, x13, x14, x15, x16, x17, x18, x19, x20, x21, x22, x23, x24, x25, x26, x27, x28, x29, x30, x31, x32], wm) (fun r w' => ((0 ≤ a1 ∧ a1 < r6 2) ∧ (0 ≤ a2 ∧ a2 < 2) ∧ r = some (.int (r5 (24 + Int32.toNatClampNeg a1 * 2 + Int32.toNatClampNeg a2))) ∧ w' = ([ob 8 [.int 0, .ref 1, .ref 4, .ref 7, .ref 10, .ref 11, .ref 12, .ref 18, .ref 25, .ref 29], x1, x2, x3, ob 2 [.ref 5, .ref 6], ia 56 r5, ia 4 r6, x7, x8, x9, x10, x11, x12, x13, x14, x15, x16, x17, x18, x19, x20, x21, x22, x23, x24, x25, x26, x27, x28, x29, x30, x31, x32], wm)) ∨ ((0 ≤ a1 ∧ a1 < r6 2) ∧ (¬ (0 ≤ a2 ∧ a2 < 2)) ∧ r = some (.int (-1000000000)) ∧ w' = ([ob 8 [.int 1, .ref 1, .ref 4, .ref 7, .ref 10, .ref 11, .ref 12, .ref 18, .ref 25, .ref 29], x1, x2, x3, ob 2 [.ref 5, .ref 6], ia 56 r5, ia 4 r6, x7, x8, x9, x10, x11, x12, x13, x14, x15, x16, x17, x18, x19, x20, x21, x22, x23, x24, x25, x26, x27, x28, x29, x30, x31, x32], wm)) ∨ ((¬ (0 ≤ a1 ∧ a1 < r6 2)) ∧ r = some (.int (-1000000000)) ∧ w' = ([ob 8 [.int 1, .ref 1, .ref 4, .ref 7, .ref 10, .ref 11, .ref 12, .ref 18, .ref 25, .ref 29], x1, x2, x3, ob 2 [.ref 5, .ref 6], ia 56 r5, ia 4 r6, x7, x8, x9, x10, x11, x12, x13, x14, x15, x16, x17, x18, x19, x20, x21, x22, x23, x24, x25, x26, x27, x28, x29, x30, x31, x32], wm))) := by
  refine ct_of ⟨by decide, rfl⟩ (Nat.le_of_ble_eq_true rfl) ?_
  refine ab_aload_n dX10_point_0 rfl ?_
  refine ab_aload_n dX10_point_1 rfl ?_
  refine ab_getf dX10_point_2 fl_X10_23 rfl rfl ?_
  refine ab_iconst (v := 2) dX10_point_5 (by decide) ?_
  refine ab_iload_n dX10_point_6 rfl ?_
  refine ab_callV (As := [.int 2, .int a1]) (rest := [.ref 0]) dX10_point_7 mv_X2_has ml_X10_264 ⟨by decide, by decide, rfl, rfl, rfl⟩ (by decide) rfl rfl (Nat.le_of_ble_eq_true rfl) rfl c_X2_has_2 ?_
  rintro r w' (⟨c_1, rfl, rfl⟩ | ⟨c_2, rfl, rfl⟩)
  · refine ab_ifeq 25 dX10_point_10 (by decide) (fun h_3 => absurd h_3 (by decide)) (fun h_3 => ?_)
    refine ab_iload_n dX10_point_13 rfl ?_
    refine ab_iconst (v := 2) dX10_point_14 (by decide) ?_
    refine ab_callS (As := [.int a2, .int 2]) (rest := [.ref 0]) dX10_point_15 ms_X10_isOf ml_X10_118 ⟨by decide, by decide, rfl, rfl, rfl⟩ (by decide) rfl rfl (Nat.le_of_ble_eq_true rfl) c_X10_isOf ?_
    rintro r w' (⟨c_4, rfl, rfl⟩ | ⟨c_5, rfl, rfl⟩)
    · refine ab_ifeq 25 dX10_point_18 (by decide) (fun h_6 => absurd h_6 (by decide)) (fun h_6 => ?_)
      refine ab_iconst (v := 1) dX10_point_21 (by decide) ?_
      refine ab_goto 26 dX10_point_22 (by decide) ?_
      refine ab_iconst (v := 1) dX10_point_26 (by decide) ?_
      refine ab_callV (As := [.int 1, .int 1]) (rest := []) dX10_point_27 mv_X10_refused ml_X10_84 ⟨by decide, by decide, rfl, rfl, rfl⟩ (by decide) rfl rfl (Nat.le_of_ble_eq_true rfl) rfl c_X10_refused_1 ?_
      rintro r w' ⟨rfl, rfl⟩
      refine ab_ifeq 36 dX10_point_30 (by decide) (fun h_7 => ?_) (fun h_7 => absurd (by decide) h_7)
      refine ab_aload_n dX10_point_36 rfl ?_
      refine ab_getf dX10_point_37 fl_X10_23 rfl rfl ?_
      refine ab_iconst (v := 2) dX10_point_40 (by decide) ?_
      refine ab_iload_n dX10_point_41 rfl ?_
      refine ab_iload_n dX10_point_42 rfl ?_
      refine ab_callV (As := [.int 2, .int a1, .int a2]) (rest := []) dX10_point_43 mv_X2_told ml_X10_136 ⟨by decide, by decide, rfl, rfl, rfl⟩ (by decide) rfl rfl (Nat.le_of_ble_eq_true rfl) rfl (c_X2_told_2 c_1 h_c2 c_4) ?_
      rintro r w' ⟨rfl, rfl⟩
      exact ab_iret dX10_point_46 rfl (by decide) (Or.inl ⟨c_1, c_4, rfl, rfl⟩)
    · refine ab_ifeq 25 dX10_point_18 (by decide) (fun h_8 => ?_) (fun h_8 => absurd (by decide) h_8)
      refine ab_iconst (v := 0) dX10_point_25 (by decide) ?_
      refine ab_iconst (v := 1) dX10_point_26 (by decide) ?_
      refine ab_callV (As := [.int 0, .int 1]) (rest := []) dX10_point_27 mv_X10_refused ml_X10_84 ⟨by decide, by decide, rfl, rfl, rfl⟩ (by decide) rfl rfl (Nat.le_of_ble_eq_true rfl) rfl c_X10_refused_0 ?_
      rintro r w' ⟨rfl, rfl⟩
      refine ab_ifeq 36 dX10_point_30 (by decide) (fun h_9 => absurd h_9 (by decide)) (fun h_9 => ?_)
      refine ab_ldc dX10_point_33 kc_X10_122 ?_
      exact ab_iret dX10_point_35 rfl (by decide) (Or.inr (Or.inl ⟨c_1, c_5, rfl, rfl⟩))
  · refine ab_ifeq 25 dX10_point_10 (by decide) (fun h_10 => ?_) (fun h_10 => absurd (by decide) h_10)
    refine ab_iconst (v := 0) dX10_point_25 (by decide) ?_
    refine ab_iconst (v := 1) dX10_point_26 (by decide) ?_
    refine ab_callV (As := [.int 0, .int 1]) (rest := []) dX10_point_27 mv_X10_refused ml_X10_84 ⟨by decide, by decide, rfl, rfl, rfl⟩ (by decide) rfl rfl (Nat.le_of_ble_eq_true rfl) rfl c_X10_refused_0 ?_
    rintro r w' ⟨rfl, rfl⟩
    refine ab_ifeq 36 dX10_point_30 (by decide) (fun h_11 => absurd h_11 (by decide)) (fun h_11 => ?_)
    refine ab_ldc dX10_point_33 kc_X10_122 ?_
    exact ab_iret dX10_point_35 rfl (by decide) (Or.inr (Or.inr (⟨c_2, rfl, rfl⟩)))
theorem c_X10_pair {f0_0 a1 a2 : Int32} {x1 x2 x3 x7 x8 x9 x10 x11 x12 x13 x14 x15 x16 x17 x18 x19 x20 x21 x22 x23 x24 x25 x26 x27 x28 x29 x30 x31 x32 : ax_E} {r5 r6 : Nat → Int32} {wm : List ax_E} (h_c3 : r6 3 ≤ nI 4) : Ct M_X10_pair [.ref 0, .int a1, .int a2] ([ob 8 [.int f0_0, .ref 1, .ref 4, .ref 7, .ref 10, .ref 11, .ref 12, .ref 18, .ref 25, .ref 29], x1, x2, x3, ob 2 [.ref 5, .ref 6], ia 56 r5, ia 4 r6, x7, x8, x9, x10, x11, x12, x13, x14, x15, x16, x17, x18, x19, x20, x21, x22, x23, x24, x25, x26, x27, x28, x29, x30, x31, x32], wm) (fun r w' => ((0 ≤ a1 ∧ a1 < r6 3) ∧ (0 ≤ a2 ∧ a2 < 4) ∧ r = some (.int (r5 (40 + Int32.toNatClampNeg a1 * 4 + Int32.toNatClampNeg a2))) ∧ w' = ([ob 8 [.int 0, .ref 1, .ref 4, .ref 7, .ref 10, .ref 11, .ref 12, .ref 18, .ref 25, .ref 29], x1, x2, x3, ob 2 [.ref 5, .ref 6], ia 56 r5, ia 4 r6, x7, x8, x9, x10, x11, x12, x13, x14, x15, x16, x17, x18, x19, x20, x21, x22, x23, x24, x25, x26, x27, x28, x29, x30, x31, x32], wm)) ∨ ((0 ≤ a1 ∧ a1 < r6 3) ∧ (¬ (0 ≤ a2 ∧ a2 < 4)) ∧ r = some (.int (-1000000000)) ∧ w' = ([ob 8 [.int 1, .ref 1, .ref 4, .ref 7, .ref 10, .ref 11, .ref 12, .ref 18, .ref 25, .ref 29], x1, x2, x3, ob 2 [.ref 5, .ref 6], ia 56 r5, ia 4 r6, x7, x8, x9, x10, x11, x12, x13, x14, x15, x16, x17, x18, x19, x20, x21, x22, x23, x24, x25, x26, x27, x28, x29, x30, x31, x32], wm)) ∨ ((¬ (0 ≤ a1 ∧ a1 < r6 3)) ∧ r = some (.int (-1000000000)) ∧ w' = ([ob 8 [.int 1, .ref 1, .ref 4, .ref 7, .ref 10, .ref 11, .ref 12, .ref 18, .ref 25, .ref 29], x1, x2, x3, ob 2 [.ref 5, .ref 6], ia 56 r5, ia 4 r6, x7, x8, x9, x10, x11, x12, x13, x14, x15, x16, x17, x18, x19, x20, x21, x22, x23, x24, x25, x26, x27, x28, x29, x30, x31, x32], wm))) := by
  refine ct_of ⟨by decide, rfl⟩ (Nat.le_of_ble_eq_true rfl) ?_
  refine ab_aload_n dX10_pair_0 rfl ?_
  refine ab_aload_n dX10_pair_1 rfl ?_
  refine ab_getf dX10_pair_2 fl_X10_23 rfl rfl ?_
  refine ab_iconst (v := 3) dX10_pair_5 (by decide) ?_
  refine ab_iload_n dX10_pair_6 rfl ?_
  refine ab_callV (As := [.int 3, .int a1]) (rest := [.ref 0]) dX10_pair_7 mv_X2_has ml_X10_264 ⟨by decide, by decide, rfl, rfl, rfl⟩ (by decide) rfl rfl (Nat.le_of_ble_eq_true rfl) rfl c_X2_has_3 ?_
  rintro r w' (⟨c_1, rfl, rfl⟩ | ⟨c_2, rfl, rfl⟩)
  · refine ab_ifeq 25 dX10_pair_10 (by decide) (fun h_3 => absurd h_3 (by decide)) (fun h_3 => ?_)
    refine ab_iload_n dX10_pair_13 rfl ?_
    refine ab_iconst (v := 4) dX10_pair_14 (by decide) ?_
    refine ab_callS (As := [.int a2, .int 4]) (rest := [.ref 0]) dX10_pair_15 ms_X10_isOf ml_X10_118 ⟨by decide, by decide, rfl, rfl, rfl⟩ (by decide) rfl rfl (Nat.le_of_ble_eq_true rfl) c_X10_isOf ?_
    rintro r w' (⟨c_4, rfl, rfl⟩ | ⟨c_5, rfl, rfl⟩)
    · refine ab_ifeq 25 dX10_pair_18 (by decide) (fun h_6 => absurd h_6 (by decide)) (fun h_6 => ?_)
      refine ab_iconst (v := 1) dX10_pair_21 (by decide) ?_
      refine ab_goto 26 dX10_pair_22 (by decide) ?_
      refine ab_iconst (v := 1) dX10_pair_26 (by decide) ?_
      refine ab_callV (As := [.int 1, .int 1]) (rest := []) dX10_pair_27 mv_X10_refused ml_X10_84 ⟨by decide, by decide, rfl, rfl, rfl⟩ (by decide) rfl rfl (Nat.le_of_ble_eq_true rfl) rfl c_X10_refused_1 ?_
      rintro r w' ⟨rfl, rfl⟩
      refine ab_ifeq 36 dX10_pair_30 (by decide) (fun h_7 => ?_) (fun h_7 => absurd (by decide) h_7)
      refine ab_aload_n dX10_pair_36 rfl ?_
      refine ab_getf dX10_pair_37 fl_X10_23 rfl rfl ?_
      refine ab_iconst (v := 3) dX10_pair_40 (by decide) ?_
      refine ab_iload_n dX10_pair_41 rfl ?_
      refine ab_iload_n dX10_pair_42 rfl ?_
      refine ab_callV (As := [.int 3, .int a1, .int a2]) (rest := []) dX10_pair_43 mv_X2_told ml_X10_136 ⟨by decide, by decide, rfl, rfl, rfl⟩ (by decide) rfl rfl (Nat.le_of_ble_eq_true rfl) rfl (c_X2_told_3 c_1 h_c3 c_4) ?_
      rintro r w' ⟨rfl, rfl⟩
      exact ab_iret dX10_pair_46 rfl (by decide) (Or.inl ⟨c_1, c_4, rfl, rfl⟩)
    · refine ab_ifeq 25 dX10_pair_18 (by decide) (fun h_8 => ?_) (fun h_8 => absurd (by decide) h_8)
      refine ab_iconst (v := 0) dX10_pair_25 (by decide) ?_
      refine ab_iconst (v := 1) dX10_pair_26 (by decide) ?_
      refine ab_callV (As := [.int 0, .int 1]) (rest := []) dX10_pair_27 mv_X10_refused ml_X10_84 ⟨by decide, by decide, rfl, rfl, rfl⟩ (by decide) rfl rfl (Nat.le_of_ble_eq_true rfl) rfl c_X10_refused_0 ?_
      rintro r w' ⟨rfl, rfl⟩
      refine ab_ifeq 36 dX10_pair_30 (by decide) (fun h_9 => absurd h_9 (by decide)) (fun h_9 => ?_)
      refine ab_ldc dX10_pair_33 kc_X10_122 ?_
      exact ab_iret dX10_pair_35 rfl (by decide) (Or.inr (Or.inl ⟨c_1, c_5, rfl, rfl⟩))
  · refine ab_ifeq 25 dX10_pair_10 (by decide) (fun h_10 => ?_) (fun h_10 => absurd (by decide) h_10)
    refine ab_iconst (v := 0) dX10_pair_25 (by decide) ?_
    refine ab_iconst (v := 1) dX10_pair_26 (by decide) ?_
    refine ab_callV (As := [.int 0, .int 1]) (rest := []) dX10_pair_27 mv_X10_refused ml_X10_84 ⟨by decide, by decide, rfl, rfl, rfl⟩ (by decide) rfl rfl (Nat.le_of_ble_eq_true rfl) rfl c_X10_refused_0 ?_
    rintro r w' ⟨rfl, rfl⟩
    refine ab_ifeq 36 dX10_pair_30 (by decide) (fun h_11 => absurd h_11 (by decide)) (fun h_11 => ?_)
    refine ab_ldc dX10_pair_33 kc_X10_122 ?_
    exact ab_iret dX10_pair_35 rfl (by decide) (Or.inr (Or.inr (⟨c_2, rfl, rfl⟩)))
theorem c_X10_cosineTold_0 {f0_0 f10_0 f10_1 f10_2 f10_3 a1 a3 : Int32} {x1 x2 x3 x7 x8 x9 x11 x12 x13 x14 x15 x16 x17 x18 x19 x20 x21 x22 x23 x24 x25 x26 x27 x28 x29 x30 x31 x32 : ax_E} {r5 r6 : Nat → Int32} {wm : List ax_E} (h_c0 : r6 0 ≤ nI 4) : Ct M_X10_cosineTold [.ref 0, .int a1, .int 0, .int a3] ([ob 8 [.int f0_0, .ref 1, .ref 4, .ref 7, .ref 10, .ref 11, .ref 12, .ref 18, .ref 25, .ref 29], x1, x2, x3, ob 2 [.ref 5, .ref 6], ia 56 r5, ia 4 r6, x7, x8, x9, ob 3 [.int f10_0, .int f10_1, .int f10_2, .int f10_3], x11, x12, x13, x14, x15, x16, x17, x18, x19, x20, x21, x22, x23, x24, x25, x26, x27, x28, x29, x30, x31, x32], wm) (fun r w' => ((0 ≤ a1 ∧ a1 < r6 0) ∧ (Lk_least (Bg r5 a1) (Ba r5 a1) (Bb r5 a1) (Bc r5 a1) ≤ Lk_most (Bg r5 a1) (Ba r5 a1) (Bb r5 a1) (Bc r5 a1)) ∧ r = some (.long (Rd (Int32.toInt64 (Lk_least (Bg r5 a1) (Ba r5 a1) (Bb r5 a1) (Bc r5 a1))) (Int32.toInt64 (Lk_unit (Bg r5 a1) (Ba r5 a1))) a3)) ∧ w' = ([ob 8 [.int 0, .ref 1, .ref 4, .ref 7, .ref 10, .ref 11, .ref 12, .ref 18, .ref 25, .ref 29], x1, x2, x3, ob 2 [.ref 5, .ref 6], ia 56 r5, ia 4 r6, x7, x8, x9, ob 3 [.int (Bg r5 a1), .int (Ba r5 a1), .int (Bb r5 a1), .int (Bc r5 a1)], x11, x12, x13, x14, x15, x16, x17, x18, x19, x20, x21, x22, x23, x24, x25, x26, x27, x28, x29, x30, x31, x32], wm)) ∨ ((0 ≤ a1 ∧ a1 < r6 0) ∧ (¬ (Lk_least (Bg r5 a1) (Ba r5 a1) (Bb r5 a1) (Bc r5 a1) ≤ Lk_most (Bg r5 a1) (Ba r5 a1) (Bb r5 a1) (Bc r5 a1))) ∧ r = some (.long (-9223372036854775808)) ∧ w' = ([ob 8 [.int 5, .ref 1, .ref 4, .ref 7, .ref 10, .ref 11, .ref 12, .ref 18, .ref 25, .ref 29], x1, x2, x3, ob 2 [.ref 5, .ref 6], ia 56 r5, ia 4 r6, x7, x8, x9, ob 3 [.int (Bg r5 a1), .int (Ba r5 a1), .int (Bb r5 a1), .int (Bc r5 a1)], x11, x12, x13, x14, x15, x16, x17, x18, x19, x20, x21, x22, x23, x24, x25, x26, x27, x28, x29, x30, x31, x32], wm)) ∨ ((¬ (0 ≤ a1 ∧ a1 < r6 0)) ∧ r = some (.long (-9223372036854775808)) ∧ w' = ([ob 8 [.int 1, .ref 1, .ref 4, .ref 7, .ref 10, .ref 11, .ref 12, .ref 18, .ref 25, .ref 29], x1, x2, x3, ob 2 [.ref 5, .ref 6], ia 56 r5, ia 4 r6, x7, x8, x9, ob 3 [.int f10_0, .int f10_1, .int f10_2, .int f10_3], x11, x12, x13, x14, x15, x16, x17, x18, x19, x20, x21, x22, x23, x24, x25, x26, x27, x28, x29, x30, x31, x32], wm))) := by
  refine ct_of ⟨by decide, rfl⟩ (Nat.le_of_ble_eq_true rfl) ?_
  refine ab_aload_n dX10_cosineTold_0 rfl ?_
  refine ab_aload_n dX10_cosineTold_1 rfl ?_
  refine ab_iload_n dX10_cosineTold_2 rfl ?_
  refine ab_callV (As := [.int a1]) (rest := [.ref 0]) dX10_cosineTold_3 mv_X10_hasLinkage ml_X10_133 ⟨by decide, by decide, rfl, rfl, rfl⟩ (by decide) rfl rfl (Nat.le_of_ble_eq_true rfl) rfl c_X10_hasLinkage ?_
  rintro r w' (⟨c_1, rfl, rfl⟩ | ⟨c_2, rfl, rfl⟩)
  · refine ab_iconst (v := 1) dX10_cosineTold_6 (by decide) ?_
    refine ab_callV (As := [.int 1, .int 1]) (rest := []) dX10_cosineTold_7 mv_X10_refused ml_X10_84 ⟨by decide, by decide, rfl, rfl, rfl⟩ (by decide) rfl rfl (Nat.le_of_ble_eq_true rfl) rfl c_X10_refused_1 ?_
    rintro r w' ⟨rfl, rfl⟩
    refine ab_ifeq 17 dX10_cosineTold_10 (by decide) (fun h_3 => ?_) (fun h_3 => absurd (by decide) h_3)
    refine ab_aload_n dX10_cosineTold_17 rfl ?_
    refine ab_aload_n dX10_cosineTold_18 rfl ?_
    refine ab_iload_n dX10_cosineTold_19 rfl ?_
    refine ab_callV (As := [.int a1]) (rest := [.ref 0]) dX10_cosineTold_20 mv_X10_linkageAt ml_X10_140 ⟨by decide, by decide, rfl, rfl, rfl⟩ (by decide) rfl rfl (Nat.le_of_ble_eq_true rfl) rfl (c_X10_linkageAt c_1 h_c0) ?_
    rintro r w' ⟨rfl, rfl⟩
    refine ab_callV (As := []) (rest := [.ref 0]) dX10_cosineTold_23 mv_X3_hasCosines ml_X10_246 ⟨by decide, by decide, rfl, rfl, rfl⟩ (by decide) rfl rfl (Nat.le_of_ble_eq_true rfl) rfl c_X3_hasCosines ?_
    rintro r w' (⟨c_4, rfl, rfl⟩ | ⟨c_5, rfl, rfl⟩)
    · refine ab_iconst (v := 5) dX10_cosineTold_26 (by decide) ?_
      refine ab_callV (As := [.int 1, .int 5]) (rest := []) dX10_cosineTold_27 mv_X10_refused ml_X10_84 ⟨by decide, by decide, rfl, rfl, rfl⟩ (by decide) rfl rfl (Nat.le_of_ble_eq_true rfl) rfl c_X10_refused_1 ?_
      rintro r w' ⟨rfl, rfl⟩
      refine ab_ifeq 37 dX10_cosineTold_30 (by decide) (fun h_6 => ?_) (fun h_6 => absurd (by decide) h_6)
      refine ab_iload_n dX10_cosineTold_37 rfl ?_
      refine ab_ifeq 51 dX10_cosineTold_38 (by decide) (fun h_7 => ?_) (fun h_7 => absurd (by decide) h_7)
      refine ab_aload_n dX10_cosineTold_51 rfl ?_
      refine ab_getf dX10_cosineTold_52 fl_X10_33 rfl rfl ?_
      refine ab_callV (As := []) (rest := []) dX10_cosineTold_55 mv_X3_leastCosine ml_X10_252 ⟨by decide, by decide, rfl, rfl, rfl⟩ (by decide) rfl rfl (Nat.le_of_ble_eq_true rfl) rfl c_X3_leastCosine ?_
      rintro r w' ⟨rfl, rfl⟩
      refine ab_istore (la' := [(4, .int (Lk_least (Bg r5 a1) (Ba r5 a1) (Bb r5 a1) (Bc r5 a1))), (0, .ref 0), (1, .int a1), (2, .int 0), (3, .int a3)]) dX10_cosineTold_58 (by decide) rfl ?_
      refine ab_iload dX10_cosineTold_60 rfl ?_
      refine ab_i2l dX10_cosineTold_62 ?_
      refine ab_aload_n dX10_cosineTold_63 rfl ?_
      refine ab_getf dX10_cosineTold_64 fl_X10_33 rfl rfl ?_
      refine ab_callV (As := []) (rest := [.long (Int32.toInt64 (Lk_least (Bg r5 a1) (Ba r5 a1) (Bb r5 a1) (Bc r5 a1)))]) dX10_cosineTold_67 mv_X3_cosineUnit ml_X10_398 ⟨by decide, by decide, rfl, rfl, rfl⟩ (by decide) rfl rfl (Nat.le_of_ble_eq_true rfl) rfl c_X3_cosineUnit ?_
      rintro r w' ⟨rfl, rfl⟩
      refine ab_i2l dX10_cosineTold_70 ?_
      refine ab_iload_n dX10_cosineTold_71 rfl ?_
      refine ab_callS (As := [.long (Int32.toInt64 (Lk_least (Bg r5 a1) (Ba r5 a1) (Bb r5 a1) (Bc r5 a1))), .long (Int32.toInt64 (Lk_unit (Bg r5 a1) (Ba r5 a1))), .int a3]) (rest := []) dX10_cosineTold_72 ms_X9_reduced ml_X10_188 ⟨by decide, by decide, rfl, rfl, rfl⟩ (by decide) rfl rfl (Nat.le_of_ble_eq_true rfl) (c_X9_reduced (i32_ne _) (i32_ne _)) ?_
      rintro r w' ⟨rfl, rfl⟩
      exact ab_lret dX10_cosineTold_75 rfl (by decide) (Or.inl ⟨c_1, c_4, rfl, rfl⟩)
    · refine ab_iconst (v := 5) dX10_cosineTold_26 (by decide) ?_
      refine ab_callV (As := [.int 0, .int 5]) (rest := []) dX10_cosineTold_27 mv_X10_refused ml_X10_84 ⟨by decide, by decide, rfl, rfl, rfl⟩ (by decide) rfl rfl (Nat.le_of_ble_eq_true rfl) rfl c_X10_refused_0 ?_
      rintro r w' ⟨rfl, rfl⟩
      refine ab_ifeq 37 dX10_cosineTold_30 (by decide) (fun h_8 => absurd h_8 (by decide)) (fun h_8 => ?_)
      refine ab_ldc2 dX10_cosineTold_33 kl_X10_194 ?_
      exact ab_lret dX10_cosineTold_36 rfl (by decide) (Or.inr (Or.inl ⟨c_1, c_5, rfl, rfl⟩))
  · refine ab_iconst (v := 1) dX10_cosineTold_6 (by decide) ?_
    refine ab_callV (As := [.int 0, .int 1]) (rest := []) dX10_cosineTold_7 mv_X10_refused ml_X10_84 ⟨by decide, by decide, rfl, rfl, rfl⟩ (by decide) rfl rfl (Nat.le_of_ble_eq_true rfl) rfl c_X10_refused_0 ?_
    rintro r w' ⟨rfl, rfl⟩
    refine ab_ifeq 17 dX10_cosineTold_10 (by decide) (fun h_9 => absurd h_9 (by decide)) (fun h_9 => ?_)
    refine ab_ldc2 dX10_cosineTold_13 kl_X10_194 ?_
    exact ab_lret dX10_cosineTold_16 rfl (by decide) (Or.inr (Or.inr (⟨c_2, rfl, rfl⟩)))
theorem c_X10_cosineTold_1 {f0_0 f10_0 f10_1 f10_2 f10_3 a1 a3 : Int32} {x1 x2 x3 x7 x8 x9 x11 x12 x13 x14 x15 x16 x17 x18 x19 x20 x21 x22 x23 x24 x25 x26 x27 x28 x29 x30 x31 x32 : ax_E} {r5 r6 : Nat → Int32} {wm : List ax_E} (h_c0 : r6 0 ≤ nI 4) : Ct M_X10_cosineTold [.ref 0, .int a1, .int 1, .int a3] ([ob 8 [.int f0_0, .ref 1, .ref 4, .ref 7, .ref 10, .ref 11, .ref 12, .ref 18, .ref 25, .ref 29], x1, x2, x3, ob 2 [.ref 5, .ref 6], ia 56 r5, ia 4 r6, x7, x8, x9, ob 3 [.int f10_0, .int f10_1, .int f10_2, .int f10_3], x11, x12, x13, x14, x15, x16, x17, x18, x19, x20, x21, x22, x23, x24, x25, x26, x27, x28, x29, x30, x31, x32], wm) (fun r w' => ((0 ≤ a1 ∧ a1 < r6 0) ∧ (Lk_least (Bg r5 a1) (Ba r5 a1) (Bb r5 a1) (Bc r5 a1) ≤ Lk_most (Bg r5 a1) (Ba r5 a1) (Bb r5 a1) (Bc r5 a1)) ∧ r = some (.long (Rd (Int32.toInt64 (Lk_most (Bg r5 a1) (Ba r5 a1) (Bb r5 a1) (Bc r5 a1))) (Int32.toInt64 (Lk_unit (Bg r5 a1) (Ba r5 a1))) a3)) ∧ w' = ([ob 8 [.int 0, .ref 1, .ref 4, .ref 7, .ref 10, .ref 11, .ref 12, .ref 18, .ref 25, .ref 29], x1, x2, x3, ob 2 [.ref 5, .ref 6], ia 56 r5, ia 4 r6, x7, x8, x9, ob 3 [.int (Bg r5 a1), .int (Ba r5 a1), .int (Bb r5 a1), .int (Bc r5 a1)], x11, x12, x13, x14, x15, x16, x17, x18, x19, x20, x21, x22, x23, x24, x25, x26, x27, x28, x29, x30, x31, x32], wm)) ∨ ((0 ≤ a1 ∧ a1 < r6 0) ∧ (¬ (Lk_least (Bg r5 a1) (Ba r5 a1) (Bb r5 a1) (Bc r5 a1) ≤ Lk_most (Bg r5 a1) (Ba r5 a1) (Bb r5 a1) (Bc r5 a1))) ∧ r = some (.long (-9223372036854775808)) ∧ w' = ([ob 8 [.int 5, .ref 1, .ref 4, .ref 7, .ref 10, .ref 11, .ref 12, .ref 18, .ref 25, .ref 29], x1, x2, x3, ob 2 [.ref 5, .ref 6], ia 56 r5, ia 4 r6, x7, x8, x9, ob 3 [.int (Bg r5 a1), .int (Ba r5 a1), .int (Bb r5 a1), .int (Bc r5 a1)], x11, x12, x13, x14, x15, x16, x17, x18, x19, x20, x21, x22, x23, x24, x25, x26, x27, x28, x29, x30, x31, x32], wm)) ∨ ((¬ (0 ≤ a1 ∧ a1 < r6 0)) ∧ r = some (.long (-9223372036854775808)) ∧ w' = ([ob 8 [.int 1, .ref 1, .ref 4, .ref 7, .ref 10, .ref 11, .ref 12, .ref 18, .ref 25, .ref 29], x1, x2, x3, ob 2 [.ref 5, .ref 6], ia 56 r5, ia 4 r6, x7, x8, x9, ob 3 [.int f10_0, .int f10_1, .int f10_2, .int f10_3], x11, x12, x13, x14, x15, x16, x17, x18, x19, x20, x21, x22, x23, x24, x25, x26, x27, x28, x29, x30, x31, x32], wm))) := by
  refine ct_of ⟨by decide, rfl⟩ (Nat.le_of_ble_eq_true rfl) ?_
  refine ab_aload_n dX10_cosineTold_0 rfl ?_
  refine ab_aload_n dX10_cosineTold_1 rfl ?_
  refine ab_iload_n dX10_cosineTold_2 rfl ?_
  refine ab_callV (As := [.int a1]) (rest := [.ref 0]) dX10_cosineTold_3 mv_X10_hasLinkage ml_X10_133 ⟨by decide, by decide, rfl, rfl, rfl⟩ (by decide) rfl rfl (Nat.le_of_ble_eq_true rfl) rfl c_X10_hasLinkage ?_
  rintro r w' (⟨c_1, rfl, rfl⟩ | ⟨c_2, rfl, rfl⟩)
  · refine ab_iconst (v := 1) dX10_cosineTold_6 (by decide) ?_
    refine ab_callV (As := [.int 1, .int 1]) (rest := []) dX10_cosineTold_7 mv_X10_refused ml_X10_84 ⟨by decide, by decide, rfl, rfl, rfl⟩ (by decide) rfl rfl (Nat.le_of_ble_eq_true rfl) rfl c_X10_refused_1 ?_
    rintro r w' ⟨rfl, rfl⟩
    refine ab_ifeq 17 dX10_cosineTold_10 (by decide) (fun h_3 => ?_) (fun h_3 => absurd (by decide) h_3)
    refine ab_aload_n dX10_cosineTold_17 rfl ?_
    refine ab_aload_n dX10_cosineTold_18 rfl ?_
    refine ab_iload_n dX10_cosineTold_19 rfl ?_
    refine ab_callV (As := [.int a1]) (rest := [.ref 0]) dX10_cosineTold_20 mv_X10_linkageAt ml_X10_140 ⟨by decide, by decide, rfl, rfl, rfl⟩ (by decide) rfl rfl (Nat.le_of_ble_eq_true rfl) rfl (c_X10_linkageAt c_1 h_c0) ?_
    rintro r w' ⟨rfl, rfl⟩
    refine ab_callV (As := []) (rest := [.ref 0]) dX10_cosineTold_23 mv_X3_hasCosines ml_X10_246 ⟨by decide, by decide, rfl, rfl, rfl⟩ (by decide) rfl rfl (Nat.le_of_ble_eq_true rfl) rfl c_X3_hasCosines ?_
    rintro r w' (⟨c_4, rfl, rfl⟩ | ⟨c_5, rfl, rfl⟩)
    · refine ab_iconst (v := 5) dX10_cosineTold_26 (by decide) ?_
      refine ab_callV (As := [.int 1, .int 5]) (rest := []) dX10_cosineTold_27 mv_X10_refused ml_X10_84 ⟨by decide, by decide, rfl, rfl, rfl⟩ (by decide) rfl rfl (Nat.le_of_ble_eq_true rfl) rfl c_X10_refused_1 ?_
      rintro r w' ⟨rfl, rfl⟩
      refine ab_ifeq 37 dX10_cosineTold_30 (by decide) (fun h_6 => ?_) (fun h_6 => absurd (by decide) h_6)
      refine ab_iload_n dX10_cosineTold_37 rfl ?_
      refine ab_ifeq 51 dX10_cosineTold_38 (by decide) (fun h_7 => absurd h_7 (by decide)) (fun h_7 => ?_)
      refine ab_aload_n dX10_cosineTold_41 rfl ?_
      refine ab_getf dX10_cosineTold_42 fl_X10_33 rfl rfl ?_
      refine ab_callV (As := []) (rest := []) dX10_cosineTold_45 mv_X3_greatestCosine ml_X10_249 ⟨by decide, by decide, rfl, rfl, rfl⟩ (by decide) rfl rfl (Nat.le_of_ble_eq_true rfl) rfl c_X3_greatestCosine ?_
      rintro r w' ⟨rfl, rfl⟩
      refine ab_goto 58 dX10_cosineTold_48 (by decide) ?_
      refine ab_istore (la' := [(4, .int (Lk_most (Bg r5 a1) (Ba r5 a1) (Bb r5 a1) (Bc r5 a1))), (0, .ref 0), (1, .int a1), (2, .int 1), (3, .int a3)]) dX10_cosineTold_58 (by decide) rfl ?_
      refine ab_iload dX10_cosineTold_60 rfl ?_
      refine ab_i2l dX10_cosineTold_62 ?_
      refine ab_aload_n dX10_cosineTold_63 rfl ?_
      refine ab_getf dX10_cosineTold_64 fl_X10_33 rfl rfl ?_
      refine ab_callV (As := []) (rest := [.long (Int32.toInt64 (Lk_most (Bg r5 a1) (Ba r5 a1) (Bb r5 a1) (Bc r5 a1)))]) dX10_cosineTold_67 mv_X3_cosineUnit ml_X10_398 ⟨by decide, by decide, rfl, rfl, rfl⟩ (by decide) rfl rfl (Nat.le_of_ble_eq_true rfl) rfl c_X3_cosineUnit ?_
      rintro r w' ⟨rfl, rfl⟩
      refine ab_i2l dX10_cosineTold_70 ?_
      refine ab_iload_n dX10_cosineTold_71 rfl ?_
      refine ab_callS (As := [.long (Int32.toInt64 (Lk_most (Bg r5 a1) (Ba r5 a1) (Bb r5 a1) (Bc r5 a1))), .long (Int32.toInt64 (Lk_unit (Bg r5 a1) (Ba r5 a1))), .int a3]) (rest := []) dX10_cosineTold_72 ms_X9_reduced ml_X10_188 ⟨by decide, by decide, rfl, rfl, rfl⟩ (by decide) rfl rfl (Nat.le_of_ble_eq_true rfl) (c_X9_reduced (i32_ne _) (i32_ne _)) ?_
      rintro r w' ⟨rfl, rfl⟩
      exact ab_lret dX10_cosineTold_75 rfl (by decide) (Or.inl ⟨c_1, c_4, rfl, rfl⟩)
    · refine ab_iconst (v := 5) dX10_cosineTold_26 (by decide) ?_
      refine ab_callV (As := [.int 0, .int 5]) (rest := []) dX10_cosineTold_27 mv_X10_refused ml_X10_84 ⟨by decide, by decide, rfl, rfl, rfl⟩ (by decide) rfl rfl (Nat.le_of_ble_eq_true rfl) rfl c_X10_refused_0 ?_
      rintro r w' ⟨rfl, rfl⟩
      refine ab_ifeq 37 dX10_cosineTold_30 (by decide) (fun h_8 => absurd h_8 (by decide)) (fun h_8 => ?_)
      refine ab_ldc2 dX10_cosineTold_33 kl_X10_194 ?_
      exact ab_lret dX10_cosineTold_36 rfl (by decide) (Or.inr (Or.inl ⟨c_1, c_5, rfl, rfl⟩))
  · refine ab_iconst (v := 1) dX10_cosineTold_6 (by decide) ?_
    refine ab_callV (As := [.int 0, .int 1]) (rest := []) dX10_cosineTold_7 mv_X10_refused ml_X10_84 ⟨by decide, by decide, rfl, rfl, rfl⟩ (by decide) rfl rfl (Nat.le_of_ble_eq_true rfl) rfl c_X10_refused_0 ?_
    rintro r w' ⟨rfl, rfl⟩
    refine ab_ifeq 17 dX10_cosineTold_10 (by decide) (fun h_9 => absurd h_9 (by decide)) (fun h_9 => ?_)
    refine ab_ldc2 dX10_cosineTold_13 kl_X10_194 ?_
    exact ab_lret dX10_cosineTold_16 rfl (by decide) (Or.inr (Or.inr (⟨c_2, rfl, rfl⟩)))
theorem c_X10_least {f0_0 f10_0 f10_1 f10_2 f10_3 a1 a2 : Int32} {x1 x2 x3 x7 x8 x9 x11 x12 x13 x14 x15 x16 x17 x18 x19 x20 x21 x22 x23 x24 x25 x26 x27 x28 x29 x30 x31 x32 : ax_E} {r5 r6 : Nat → Int32} {wm : List ax_E} (h_c0 : r6 0 ≤ nI 4) : Ct M_X10_least [.ref 0, .int a1, .int a2] ([ob 8 [.int f0_0, .ref 1, .ref 4, .ref 7, .ref 10, .ref 11, .ref 12, .ref 18, .ref 25, .ref 29], x1, x2, x3, ob 2 [.ref 5, .ref 6], ia 56 r5, ia 4 r6, x7, x8, x9, ob 3 [.int f10_0, .int f10_1, .int f10_2, .int f10_3], x11, x12, x13, x14, x15, x16, x17, x18, x19, x20, x21, x22, x23, x24, x25, x26, x27, x28, x29, x30, x31, x32], wm) (fun r w' => ((0 ≤ a1 ∧ a1 < r6 0) ∧ (Lk_least (Bg r5 a1) (Ba r5 a1) (Bb r5 a1) (Bc r5 a1) ≤ Lk_most (Bg r5 a1) (Ba r5 a1) (Bb r5 a1) (Bc r5 a1)) ∧ r = some (.long (Rd (Int32.toInt64 (Lk_least (Bg r5 a1) (Ba r5 a1) (Bb r5 a1) (Bc r5 a1))) (Int32.toInt64 (Lk_unit (Bg r5 a1) (Ba r5 a1))) a2)) ∧ w' = ([ob 8 [.int 0, .ref 1, .ref 4, .ref 7, .ref 10, .ref 11, .ref 12, .ref 18, .ref 25, .ref 29], x1, x2, x3, ob 2 [.ref 5, .ref 6], ia 56 r5, ia 4 r6, x7, x8, x9, ob 3 [.int (Bg r5 a1), .int (Ba r5 a1), .int (Bb r5 a1), .int (Bc r5 a1)], x11, x12, x13, x14, x15, x16, x17, x18, x19, x20, x21, x22, x23, x24, x25, x26, x27, x28, x29, x30, x31, x32], wm)) ∨ ((0 ≤ a1 ∧ a1 < r6 0) ∧ (¬ (Lk_least (Bg r5 a1) (Ba r5 a1) (Bb r5 a1) (Bc r5 a1) ≤ Lk_most (Bg r5 a1) (Ba r5 a1) (Bb r5 a1) (Bc r5 a1))) ∧ r = some (.long (-9223372036854775808)) ∧ w' = ([ob 8 [.int 5, .ref 1, .ref 4, .ref 7, .ref 10, .ref 11, .ref 12, .ref 18, .ref 25, .ref 29], x1, x2, x3, ob 2 [.ref 5, .ref 6], ia 56 r5, ia 4 r6, x7, x8, x9, ob 3 [.int (Bg r5 a1), .int (Ba r5 a1), .int (Bb r5 a1), .int (Bc r5 a1)], x11, x12, x13, x14, x15, x16, x17, x18, x19, x20, x21, x22, x23, x24, x25, x26, x27, x28, x29, x30, x31, x32], wm)) ∨ ((¬ (0 ≤ a1 ∧ a1 < r6 0)) ∧ r = some (.long (-9223372036854775808)) ∧ w' = ([ob 8 [.int 1, .ref 1, .ref 4, .ref 7, .ref 10, .ref 11, .ref 12, .ref 18, .ref 25, .ref 29], x1, x2, x3, ob 2 [.ref 5, .ref 6], ia 56 r5, ia 4 r6, x7, x8, x9, ob 3 [.int f10_0, .int f10_1, .int f10_2, .int f10_3], x11, x12, x13, x14, x15, x16, x17, x18, x19, x20, x21, x22, x23, x24, x25, x26, x27, x28, x29, x30, x31, x32], wm))) := by
  refine ct_of ⟨by decide, rfl⟩ (Nat.le_of_ble_eq_true rfl) ?_
  refine ab_aload_n dX10_least_0 rfl ?_
  refine ab_iload_n dX10_least_1 rfl ?_
  refine ab_iconst (v := 0) dX10_least_2 (by decide) ?_
  refine ab_iload_n dX10_least_3 rfl ?_
  refine ab_callV (As := [.int a1, .int 0, .int a2]) (rest := []) dX10_least_4 mv_X10_cosineTold ml_X10_153 ⟨by decide, by decide, rfl, rfl, rfl⟩ (by decide) rfl rfl (Nat.le_of_ble_eq_true rfl) rfl (c_X10_cosineTold_0 h_c0) ?_
  rintro r w' (⟨c_1, c_2, rfl, rfl⟩ | ⟨c_3, c_4, rfl, rfl⟩ | ⟨c_5, rfl, rfl⟩)
  · exact ab_lret dX10_least_7 rfl (by decide) (Or.inl ⟨c_1, c_2, rfl, rfl⟩)
  · exact ab_lret dX10_least_7 rfl (by decide) (Or.inr (Or.inl ⟨c_3, c_4, rfl, rfl⟩))
  · exact ab_lret dX10_least_7 rfl (by decide) (Or.inr (Or.inr (⟨c_5, rfl, rfl⟩)))
theorem c_X10_most {f0_0 f10_0 f10_1 f10_2 f10_3 a1 a2 : Int32} {x1 x2 x3 x7 x8 x9 x11 x12 x13 x14 x15 x16 x17 x18 x19 x20 x21 x22 x23 x24 x25 x26 x27 x28 x29 x30 x31 x32 : ax_E} {r5 r6 : Nat → Int32} {wm : List ax_E} (h_c0 : r6 0 ≤ nI 4) : Ct M_X10_most [.ref 0, .int a1, .int a2] ([ob 8 [.int f0_0, .ref 1, .ref 4, .ref 7, .ref 10, .ref 11, .ref 12, .ref 18, .ref 25, .ref 29], x1, x2, x3, ob 2 [.ref 5, .ref 6], ia 56 r5, ia 4 r6, x7, x8, x9, ob 3 [.int f10_0, .int f10_1, .int f10_2, .int f10_3], x11, x12, x13, x14, x15, x16, x17, x18, x19, x20, x21, x22, x23, x24, x25, x26, x27, x28, x29, x30, x31, x32], wm) (fun r w' => ((0 ≤ a1 ∧ a1 < r6 0) ∧ (Lk_least (Bg r5 a1) (Ba r5 a1) (Bb r5 a1) (Bc r5 a1) ≤ Lk_most (Bg r5 a1) (Ba r5 a1) (Bb r5 a1) (Bc r5 a1)) ∧ r = some (.long (Rd (Int32.toInt64 (Lk_most (Bg r5 a1) (Ba r5 a1) (Bb r5 a1) (Bc r5 a1))) (Int32.toInt64 (Lk_unit (Bg r5 a1) (Ba r5 a1))) a2)) ∧ w' = ([ob 8 [.int 0, .ref 1, .ref 4, .ref 7, .ref 10, .ref 11, .ref 12, .ref 18, .ref 25, .ref 29], x1, x2, x3, ob 2 [.ref 5, .ref 6], ia 56 r5, ia 4 r6, x7, x8, x9, ob 3 [.int (Bg r5 a1), .int (Ba r5 a1), .int (Bb r5 a1), .int (Bc r5 a1)], x11, x12, x13, x14, x15, x16, x17, x18, x19, x20, x21, x22, x23, x24, x25, x26, x27, x28, x29, x30, x31, x32], wm)) ∨ ((0 ≤ a1 ∧ a1 < r6 0) ∧ (¬ (Lk_least (Bg r5 a1) (Ba r5 a1) (Bb r5 a1) (Bc r5 a1) ≤ Lk_most (Bg r5 a1) (Ba r5 a1) (Bb r5 a1) (Bc r5 a1))) ∧ r = some (.long (-9223372036854775808)) ∧ w' = ([ob 8 [.int 5, .ref 1, .ref 4, .ref 7, .ref 10, .ref 11, .ref 12, .ref 18, .ref 25, .ref 29], x1, x2, x3, ob 2 [.ref 5, .ref 6], ia 56 r5, ia 4 r6, x7, x8, x9, ob 3 [.int (Bg r5 a1), .int (Ba r5 a1), .int (Bb r5 a1), .int (Bc r5 a1)], x11, x12, x13, x14, x15, x16, x17, x18, x19, x20, x21, x22, x23, x24, x25, x26, x27, x28, x29, x30, x31, x32], wm)) ∨ ((¬ (0 ≤ a1 ∧ a1 < r6 0)) ∧ r = some (.long (-9223372036854775808)) ∧ w' = ([ob 8 [.int 1, .ref 1, .ref 4, .ref 7, .ref 10, .ref 11, .ref 12, .ref 18, .ref 25, .ref 29], x1, x2, x3, ob 2 [.ref 5, .ref 6], ia 56 r5, ia 4 r6, x7, x8, x9, ob 3 [.int f10_0, .int f10_1, .int f10_2, .int f10_3], x11, x12, x13, x14, x15, x16, x17, x18, x19, x20, x21, x22, x23, x24, x25, x26, x27, x28, x29, x30, x31, x32], wm))) := by
  refine ct_of ⟨by decide, rfl⟩ (Nat.le_of_ble_eq_true rfl) ?_
  refine ab_aload_n dX10_most_0 rfl ?_
  refine ab_iload_n dX10_most_1 rfl ?_
  refine ab_iconst (v := 1) dX10_most_2 (by decide) ?_
  refine ab_iload_n dX10_most_3 rfl ?_
  refine ab_callV (As := [.int a1, .int 1, .int a2]) (rest := []) dX10_most_4 mv_X10_cosineTold ml_X10_153 ⟨by decide, by decide, rfl, rfl, rfl⟩ (by decide) rfl rfl (Nat.le_of_ble_eq_true rfl) rfl (c_X10_cosineTold_1 h_c0) ?_
  rintro r w' (⟨c_1, c_2, rfl, rfl⟩ | ⟨c_3, c_4, rfl, rfl⟩ | ⟨c_5, rfl, rfl⟩)
  · exact ab_lret dX10_most_7 rfl (by decide) (Or.inl ⟨c_1, c_2, rfl, rfl⟩)
  · exact ab_lret dX10_most_7 rfl (by decide) (Or.inr (Or.inl ⟨c_3, c_4, rfl, rfl⟩))
  · exact ab_lret dX10_most_7 rfl (by decide) (Or.inr (Or.inr (⟨c_5, rfl, rfl⟩)))
theorem c_X10_lawful {f0_0 f10_0 f10_1 f10_2 f10_3 a1 a2 : Int32} {x1 x2 x3 x7 x8 x9 x12 x13 x14 x15 x16 x17 x18 x19 x20 x21 x22 x23 x24 x25 x26 x27 x28 x29 x30 x31 x32 : ax_E} {r5 r6 : Nat → Int32} {f11_0 f11_1 f11_2 f11_3 f11_4 f11_5 f11_6 f11_7 f11_8 f11_9 f11_10 f11_11 f11_12 f11_13 f11_14 f11_15 : Int64} {wm : List ax_E} (h_c0 : r6 0 ≤ nI 4) : Ct M_X10_lawful [.ref 0, .int a1, .int a2] ([ob 8 [.int f0_0, .ref 1, .ref 4, .ref 7, .ref 10, .ref 11, .ref 12, .ref 18, .ref 25, .ref 29], x1, x2, x3, ob 2 [.ref 5, .ref 6], ia 56 r5, ia 4 r6, x7, x8, x9, ob 3 [.int f10_0, .int f10_1, .int f10_2, .int f10_3], ob 5 [.long f11_0, .long f11_1, .long f11_2, .long f11_3, .long f11_4, .long f11_5, .long f11_6, .long f11_7, .long f11_8, .long f11_9, .long f11_10, .long f11_11, .long f11_12, .long f11_13, .long f11_14, .long f11_15], x12, x13, x14, x15, x16, x17, x18, x19, x20, x21, x22, x23, x24, x25, x26, x27, x28, x29, x30, x31, x32], wm) (fun r w' => ((0 ≤ a1 ∧ a1 < r6 0) ∧ (0 ≤ a2 ∧ a2 < 40) ∧ r = some (.int (Ps_state (Ps_s (Bg r5 a1) (Ba r5 a1) a2) (Ps_k (Bg r5 a1) (Ba r5 a1) (Bb r5 a1) (Bc r5 a1) a2))) ∧ w' = ([ob 8 [.int 0, .ref 1, .ref 4, .ref 7, .ref 10, .ref 11, .ref 12, .ref 18, .ref 25, .ref 29], x1, x2, x3, ob 2 [.ref 5, .ref 6], ia 56 r5, ia 4 r6, x7, x8, x9, ob 3 [.int (Bg r5 a1), .int (Ba r5 a1), .int (Bb r5 a1), .int (Bc r5 a1)], ob 5 [.long (Ps_n a2), .long (Ps_d a2), .long (Ps_s (Bg r5 a1) (Ba r5 a1) a2), .long (Ps_k (Bg r5 a1) (Ba r5 a1) (Bb r5 a1) (Bc r5 a1) a2), .long (Int32.toInt64 (Bg r5 a1)), .long (Int32.toInt64 (Ba r5 a1)), .long (Int32.toInt64 (Bb r5 a1)), .long (Int32.toInt64 (Bc r5 a1)), .long (Ps_c a2), .long (Ps_e (Bg r5 a1) (Ba r5 a1) (Bb r5 a1) (Bc r5 a1) a2), .long (Ps_x (Bg r5 a1) (Ba r5 a1) a2), .long (Ps_y (Ba r5 a1) a2), .long f11_12, .long f11_13, .long f11_14, .long f11_15], x12, x13, x14, x15, x16, x17, x18, x19, x20, x21, x22, x23, x24, x25, x26, x27, x28, x29, x30, x31, x32], wm)) ∨ ((0 ≤ a1 ∧ a1 < r6 0) ∧ (¬ (0 ≤ a2 ∧ a2 < 40)) ∧ r = some (.int (-1)) ∧ w' = ([ob 8 [.int 1, .ref 1, .ref 4, .ref 7, .ref 10, .ref 11, .ref 12, .ref 18, .ref 25, .ref 29], x1, x2, x3, ob 2 [.ref 5, .ref 6], ia 56 r5, ia 4 r6, x7, x8, x9, ob 3 [.int f10_0, .int f10_1, .int f10_2, .int f10_3], ob 5 [.long f11_0, .long f11_1, .long f11_2, .long f11_3, .long f11_4, .long f11_5, .long f11_6, .long f11_7, .long f11_8, .long f11_9, .long f11_10, .long f11_11, .long f11_12, .long f11_13, .long f11_14, .long f11_15], x12, x13, x14, x15, x16, x17, x18, x19, x20, x21, x22, x23, x24, x25, x26, x27, x28, x29, x30, x31, x32], wm)) ∨ ((¬ (0 ≤ a1 ∧ a1 < r6 0)) ∧ r = some (.int (-1)) ∧ w' = ([ob 8 [.int 1, .ref 1, .ref 4, .ref 7, .ref 10, .ref 11, .ref 12, .ref 18, .ref 25, .ref 29], x1, x2, x3, ob 2 [.ref 5, .ref 6], ia 56 r5, ia 4 r6, x7, x8, x9, ob 3 [.int f10_0, .int f10_1, .int f10_2, .int f10_3], ob 5 [.long f11_0, .long f11_1, .long f11_2, .long f11_3, .long f11_4, .long f11_5, .long f11_6, .long f11_7, .long f11_8, .long f11_9, .long f11_10, .long f11_11, .long f11_12, .long f11_13, .long f11_14, .long f11_15], x12, x13, x14, x15, x16, x17, x18, x19, x20, x21, x22, x23, x24, x25, x26, x27, x28, x29, x30, x31, x32], wm))) := by
  refine ct_of ⟨by decide, rfl⟩ (Nat.le_of_ble_eq_true rfl) ?_
  refine ab_aload_n dX10_lawful_0 rfl ?_
  refine ab_aload_n dX10_lawful_1 rfl ?_
  refine ab_iload_n dX10_lawful_2 rfl ?_
  refine ab_callV (As := [.int a1]) (rest := [.ref 0]) dX10_lawful_3 mv_X10_hasLinkage ml_X10_133 ⟨by decide, by decide, rfl, rfl, rfl⟩ (by decide) rfl rfl (Nat.le_of_ble_eq_true rfl) rfl c_X10_hasLinkage ?_
  rintro r w' (⟨c_1, rfl, rfl⟩ | ⟨c_2, rfl, rfl⟩)
  · refine ab_ifeq 20 dX10_lawful_6 (by decide) (fun h_3 => absurd h_3 (by decide)) (fun h_3 => ?_)
    refine ab_iload_n dX10_lawful_9 rfl ?_
    refine ab_callS (As := [.int a2]) (rest := [.ref 0]) dX10_lawful_10 ms_X7_has ml_X10_114 ⟨by decide, by decide, rfl, rfl, rfl⟩ (by decide) rfl rfl (Nat.le_of_ble_eq_true rfl) c_X7_has ?_
    rintro r w' (⟨c_4, rfl, rfl⟩ | ⟨c_5, rfl, rfl⟩)
    · refine ab_ifeq 20 dX10_lawful_13 (by decide) (fun h_6 => absurd h_6 (by decide)) (fun h_6 => ?_)
      refine ab_iconst (v := 1) dX10_lawful_16 (by decide) ?_
      refine ab_goto 21 dX10_lawful_17 (by decide) ?_
      refine ab_iconst (v := 1) dX10_lawful_21 (by decide) ?_
      refine ab_callV (As := [.int 1, .int 1]) (rest := []) dX10_lawful_22 mv_X10_refused ml_X10_84 ⟨by decide, by decide, rfl, rfl, rfl⟩ (by decide) rfl rfl (Nat.le_of_ble_eq_true rfl) rfl c_X10_refused_1 ?_
      rintro r w' ⟨rfl, rfl⟩
      refine ab_ifeq 30 dX10_lawful_25 (by decide) (fun h_7 => ?_) (fun h_7 => absurd (by decide) h_7)
      refine ab_aload_n dX10_lawful_30 rfl ?_
      refine ab_iload_n dX10_lawful_31 rfl ?_
      refine ab_iload_n dX10_lawful_32 rfl ?_
      refine ab_callV (As := [.int a1, .int a2]) (rest := []) dX10_lawful_33 mv_X10_positionAt ml_X10_166 ⟨by decide, by decide, rfl, rfl, rfl⟩ (by decide) rfl rfl (Nat.le_of_ble_eq_true rfl) rfl (c_X10_positionAt c_1 h_c0 c_4) ?_
      rintro r w' ⟨rfl, rfl⟩
      refine ab_callV (As := []) (rest := []) dX10_lawful_36 mv_X5_state ml_X10_170 ⟨by decide, by decide, rfl, rfl, rfl⟩ (by decide) rfl rfl (Nat.le_of_ble_eq_true rfl) rfl c_X5_state ?_
      rintro r w' ⟨rfl, rfl⟩
      exact ab_iret dX10_lawful_39 rfl (by decide) (Or.inl ⟨c_1, c_4, rfl, rfl⟩)
    · refine ab_ifeq 20 dX10_lawful_13 (by decide) (fun h_8 => ?_) (fun h_8 => absurd (by decide) h_8)
      refine ab_iconst (v := 0) dX10_lawful_20 (by decide) ?_
      refine ab_iconst (v := 1) dX10_lawful_21 (by decide) ?_
      refine ab_callV (As := [.int 0, .int 1]) (rest := []) dX10_lawful_22 mv_X10_refused ml_X10_84 ⟨by decide, by decide, rfl, rfl, rfl⟩ (by decide) rfl rfl (Nat.le_of_ble_eq_true rfl) rfl c_X10_refused_0 ?_
      rintro r w' ⟨rfl, rfl⟩
      refine ab_ifeq 30 dX10_lawful_25 (by decide) (fun h_9 => absurd h_9 (by decide)) (fun h_9 => ?_)
      refine ab_iconst (v := -1) dX10_lawful_28 (by decide) ?_
      exact ab_iret dX10_lawful_29 rfl (by decide) (Or.inr (Or.inl ⟨c_1, c_5, rfl, rfl⟩))
  · refine ab_ifeq 20 dX10_lawful_6 (by decide) (fun h_10 => ?_) (fun h_10 => absurd (by decide) h_10)
    refine ab_iconst (v := 0) dX10_lawful_20 (by decide) ?_
    refine ab_iconst (v := 1) dX10_lawful_21 (by decide) ?_
    refine ab_callV (As := [.int 0, .int 1]) (rest := []) dX10_lawful_22 mv_X10_refused ml_X10_84 ⟨by decide, by decide, rfl, rfl, rfl⟩ (by decide) rfl rfl (Nat.le_of_ble_eq_true rfl) rfl c_X10_refused_0 ?_
    rintro r w' ⟨rfl, rfl⟩
    refine ab_ifeq 30 dX10_lawful_25 (by decide) (fun h_11 => absurd h_11 (by decide)) (fun h_11 => ?_)
    refine ab_iconst (v := -1) dX10_lawful_28 (by decide) ?_
    exact ab_iret dX10_lawful_29 rfl (by decide) (Or.inr (Or.inr (⟨c_2, rfl, rfl⟩)))
theorem c_X10_between {f0_0 f10_0 f10_1 f10_2 f10_3 a1 a2 : Int32} {x1 x2 x3 x7 x8 x9 x11 x12 x13 x14 x15 x16 x17 x18 x19 x20 x21 x22 x23 x24 x25 x26 x27 x28 x29 x30 x31 x32 : ax_E} {r5 r6 : Nat → Int32} {wm : List ax_E} (h_c0 : r6 0 ≤ nI 4) : Ct M_X10_between [.ref 0, .int a1, .int a2] ([ob 8 [.int f0_0, .ref 1, .ref 4, .ref 7, .ref 10, .ref 11, .ref 12, .ref 18, .ref 25, .ref 29], x1, x2, x3, ob 2 [.ref 5, .ref 6], ia 56 r5, ia 4 r6, x7, x8, x9, ob 3 [.int f10_0, .int f10_1, .int f10_2, .int f10_3], x11, x12, x13, x14, x15, x16, x17, x18, x19, x20, x21, x22, x23, x24, x25, x26, x27, x28, x29, x30, x31, x32], wm) (fun r w' => ((0 ≤ a1 ∧ a1 < r6 0) ∧ (0 ≤ a2 ∧ a2 < 40) ∧ r = some (.int (Lk_betw (Bg r5 a1) (Ba r5 a1) (Bb r5 a1) (Bc r5 a1) a2)) ∧ w' = ([ob 8 [.int 0, .ref 1, .ref 4, .ref 7, .ref 10, .ref 11, .ref 12, .ref 18, .ref 25, .ref 29], x1, x2, x3, ob 2 [.ref 5, .ref 6], ia 56 r5, ia 4 r6, x7, x8, x9, ob 3 [.int (Bg r5 a1), .int (Ba r5 a1), .int (Bb r5 a1), .int (Bc r5 a1)], x11, x12, x13, x14, x15, x16, x17, x18, x19, x20, x21, x22, x23, x24, x25, x26, x27, x28, x29, x30, x31, x32], wm)) ∨ ((0 ≤ a1 ∧ a1 < r6 0) ∧ (¬ (0 ≤ a2 ∧ a2 < 40)) ∧ r = some (.int (-1)) ∧ w' = ([ob 8 [.int 1, .ref 1, .ref 4, .ref 7, .ref 10, .ref 11, .ref 12, .ref 18, .ref 25, .ref 29], x1, x2, x3, ob 2 [.ref 5, .ref 6], ia 56 r5, ia 4 r6, x7, x8, x9, ob 3 [.int f10_0, .int f10_1, .int f10_2, .int f10_3], x11, x12, x13, x14, x15, x16, x17, x18, x19, x20, x21, x22, x23, x24, x25, x26, x27, x28, x29, x30, x31, x32], wm)) ∨ ((¬ (0 ≤ a1 ∧ a1 < r6 0)) ∧ r = some (.int (-1)) ∧ w' = ([ob 8 [.int 1, .ref 1, .ref 4, .ref 7, .ref 10, .ref 11, .ref 12, .ref 18, .ref 25, .ref 29], x1, x2, x3, ob 2 [.ref 5, .ref 6], ia 56 r5, ia 4 r6, x7, x8, x9, ob 3 [.int f10_0, .int f10_1, .int f10_2, .int f10_3], x11, x12, x13, x14, x15, x16, x17, x18, x19, x20, x21, x22, x23, x24, x25, x26, x27, x28, x29, x30, x31, x32], wm))) := by
  refine ct_of ⟨by decide, rfl⟩ (Nat.le_of_ble_eq_true rfl) ?_
  refine ab_aload_n dX10_between_0 rfl ?_
  refine ab_aload_n dX10_between_1 rfl ?_
  refine ab_iload_n dX10_between_2 rfl ?_
  refine ab_callV (As := [.int a1]) (rest := [.ref 0]) dX10_between_3 mv_X10_hasLinkage ml_X10_133 ⟨by decide, by decide, rfl, rfl, rfl⟩ (by decide) rfl rfl (Nat.le_of_ble_eq_true rfl) rfl c_X10_hasLinkage ?_
  rintro r w' (⟨c_1, rfl, rfl⟩ | ⟨c_2, rfl, rfl⟩)
  · refine ab_ifeq 20 dX10_between_6 (by decide) (fun h_3 => absurd h_3 (by decide)) (fun h_3 => ?_)
    refine ab_iload_n dX10_between_9 rfl ?_
    refine ab_callS (As := [.int a2]) (rest := [.ref 0]) dX10_between_10 ms_X7_has ml_X10_114 ⟨by decide, by decide, rfl, rfl, rfl⟩ (by decide) rfl rfl (Nat.le_of_ble_eq_true rfl) c_X7_has ?_
    rintro r w' (⟨c_4, rfl, rfl⟩ | ⟨c_5, rfl, rfl⟩)
    · refine ab_ifeq 20 dX10_between_13 (by decide) (fun h_6 => absurd h_6 (by decide)) (fun h_6 => ?_)
      refine ab_iconst (v := 1) dX10_between_16 (by decide) ?_
      refine ab_goto 21 dX10_between_17 (by decide) ?_
      refine ab_iconst (v := 1) dX10_between_21 (by decide) ?_
      refine ab_callV (As := [.int 1, .int 1]) (rest := []) dX10_between_22 mv_X10_refused ml_X10_84 ⟨by decide, by decide, rfl, rfl, rfl⟩ (by decide) rfl rfl (Nat.le_of_ble_eq_true rfl) rfl c_X10_refused_1 ?_
      rintro r w' ⟨rfl, rfl⟩
      refine ab_ifeq 30 dX10_between_25 (by decide) (fun h_7 => ?_) (fun h_7 => absurd (by decide) h_7)
      refine ab_aload_n dX10_between_30 rfl ?_
      refine ab_iload_n dX10_between_31 rfl ?_
      refine ab_callV (As := [.int a1]) (rest := []) dX10_between_32 mv_X10_linkageAt ml_X10_140 ⟨by decide, by decide, rfl, rfl, rfl⟩ (by decide) rfl rfl (Nat.le_of_ble_eq_true rfl) rfl (c_X10_linkageAt c_1 h_c0) ?_
      rintro r w' ⟨rfl, rfl⟩
      refine ab_iload_n dX10_between_35 rfl ?_
      refine ab_callV (As := [.int a2]) (rest := []) dX10_between_36 mv_X3_endsBehind ml_X10_176 ⟨by decide, by decide, rfl, rfl, rfl⟩ (by decide) rfl rfl (Nat.le_of_ble_eq_true rfl) rfl (c_X3_endsBehind c_4) ?_
      rintro r w' ⟨rfl, rfl⟩
      exact ab_iret dX10_between_39 rfl (by decide) (Or.inl ⟨c_1, c_4, rfl, rfl⟩)
    · refine ab_ifeq 20 dX10_between_13 (by decide) (fun h_8 => ?_) (fun h_8 => absurd (by decide) h_8)
      refine ab_iconst (v := 0) dX10_between_20 (by decide) ?_
      refine ab_iconst (v := 1) dX10_between_21 (by decide) ?_
      refine ab_callV (As := [.int 0, .int 1]) (rest := []) dX10_between_22 mv_X10_refused ml_X10_84 ⟨by decide, by decide, rfl, rfl, rfl⟩ (by decide) rfl rfl (Nat.le_of_ble_eq_true rfl) rfl c_X10_refused_0 ?_
      rintro r w' ⟨rfl, rfl⟩
      refine ab_ifeq 30 dX10_between_25 (by decide) (fun h_9 => absurd h_9 (by decide)) (fun h_9 => ?_)
      refine ab_iconst (v := -1) dX10_between_28 (by decide) ?_
      exact ab_iret dX10_between_29 rfl (by decide) (Or.inr (Or.inl ⟨c_1, c_5, rfl, rfl⟩))
  · refine ab_ifeq 20 dX10_between_6 (by decide) (fun h_10 => ?_) (fun h_10 => absurd (by decide) h_10)
    refine ab_iconst (v := 0) dX10_between_20 (by decide) ?_
    refine ab_iconst (v := 1) dX10_between_21 (by decide) ?_
    refine ab_callV (As := [.int 0, .int 1]) (rest := []) dX10_between_22 mv_X10_refused ml_X10_84 ⟨by decide, by decide, rfl, rfl, rfl⟩ (by decide) rfl rfl (Nat.le_of_ble_eq_true rfl) rfl c_X10_refused_0 ?_
    rintro r w' ⟨rfl, rfl⟩
    refine ab_ifeq 30 dX10_between_25 (by decide) (fun h_11 => absurd h_11 (by decide)) (fun h_11 => ?_)
    refine ab_iconst (v := -1) dX10_between_28 (by decide) ?_
    exact ab_iret dX10_between_29 rfl (by decide) (Or.inr (Or.inr (⟨c_2, rfl, rfl⟩)))
theorem c_X10_under {f0_0 f10_0 f10_1 f10_2 f10_3 a1 a2 : Int32} {x1 x2 x3 x7 x8 x9 x12 x13 x14 x15 x16 x17 x18 x19 x20 x21 x22 x23 x24 x25 x26 x27 x28 x29 x30 x31 x32 : ax_E} {r5 r6 : Nat → Int32} {f11_0 f11_1 f11_2 f11_3 f11_4 f11_5 f11_6 f11_7 f11_8 f11_9 f11_10 f11_11 f11_12 f11_13 f11_14 f11_15 : Int64} {wm : List ax_E} (h_c0 : r6 0 ≤ nI 4) : Ct M_X10_under [.ref 0, .int a1, .int a2] ([ob 8 [.int f0_0, .ref 1, .ref 4, .ref 7, .ref 10, .ref 11, .ref 12, .ref 18, .ref 25, .ref 29], x1, x2, x3, ob 2 [.ref 5, .ref 6], ia 56 r5, ia 4 r6, x7, x8, x9, ob 3 [.int f10_0, .int f10_1, .int f10_2, .int f10_3], ob 5 [.long f11_0, .long f11_1, .long f11_2, .long f11_3, .long f11_4, .long f11_5, .long f11_6, .long f11_7, .long f11_8, .long f11_9, .long f11_10, .long f11_11, .long f11_12, .long f11_13, .long f11_14, .long f11_15], x12, x13, x14, x15, x16, x17, x18, x19, x20, x21, x22, x23, x24, x25, x26, x27, x28, x29, x30, x31, x32], wm) (fun r w' => ((0 ≤ a1 ∧ a1 < r6 0) ∧ (0 ≤ a2 ∧ a2 < 40) ∧ r = some (.long (Ps_k (Bg r5 a1) (Ba r5 a1) (Bb r5 a1) (Bc r5 a1) a2)) ∧ w' = ([ob 8 [.int 0, .ref 1, .ref 4, .ref 7, .ref 10, .ref 11, .ref 12, .ref 18, .ref 25, .ref 29], x1, x2, x3, ob 2 [.ref 5, .ref 6], ia 56 r5, ia 4 r6, x7, x8, x9, ob 3 [.int (Bg r5 a1), .int (Ba r5 a1), .int (Bb r5 a1), .int (Bc r5 a1)], ob 5 [.long (Ps_n a2), .long (Ps_d a2), .long (Ps_s (Bg r5 a1) (Ba r5 a1) a2), .long (Ps_k (Bg r5 a1) (Ba r5 a1) (Bb r5 a1) (Bc r5 a1) a2), .long (Int32.toInt64 (Bg r5 a1)), .long (Int32.toInt64 (Ba r5 a1)), .long (Int32.toInt64 (Bb r5 a1)), .long (Int32.toInt64 (Bc r5 a1)), .long (Ps_c a2), .long (Ps_e (Bg r5 a1) (Ba r5 a1) (Bb r5 a1) (Bc r5 a1) a2), .long (Ps_x (Bg r5 a1) (Ba r5 a1) a2), .long (Ps_y (Ba r5 a1) a2), .long f11_12, .long f11_13, .long f11_14, .long f11_15], x12, x13, x14, x15, x16, x17, x18, x19, x20, x21, x22, x23, x24, x25, x26, x27, x28, x29, x30, x31, x32], wm)) ∨ ((0 ≤ a1 ∧ a1 < r6 0) ∧ (¬ (0 ≤ a2 ∧ a2 < 40)) ∧ r = some (.long (-9223372036854775808)) ∧ w' = ([ob 8 [.int 1, .ref 1, .ref 4, .ref 7, .ref 10, .ref 11, .ref 12, .ref 18, .ref 25, .ref 29], x1, x2, x3, ob 2 [.ref 5, .ref 6], ia 56 r5, ia 4 r6, x7, x8, x9, ob 3 [.int f10_0, .int f10_1, .int f10_2, .int f10_3], ob 5 [.long f11_0, .long f11_1, .long f11_2, .long f11_3, .long f11_4, .long f11_5, .long f11_6, .long f11_7, .long f11_8, .long f11_9, .long f11_10, .long f11_11, .long f11_12, .long f11_13, .long f11_14, .long f11_15], x12, x13, x14, x15, x16, x17, x18, x19, x20, x21, x22, x23, x24, x25, x26, x27, x28, x29, x30, x31, x32], wm)) ∨ ((¬ (0 ≤ a1 ∧ a1 < r6 0)) ∧ r = some (.long (-9223372036854775808)) ∧ w' = ([ob 8 [.int 1, .ref 1, .ref 4, .ref 7, .ref 10, .ref 11, .ref 12, .ref 18, .ref 25, .ref 29], x1, x2, x3, ob 2 [.ref 5, .ref 6], ia 56 r5, ia 4 r6, x7, x8, x9, ob 3 [.int f10_0, .int f10_1, .int f10_2, .int f10_3], ob 5 [.long f11_0, .long f11_1, .long f11_2, .long f11_3, .long f11_4, .long f11_5, .long f11_6, .long f11_7, .long f11_8, .long f11_9, .long f11_10, .long f11_11, .long f11_12, .long f11_13, .long f11_14, .long f11_15], x12, x13, x14, x15, x16, x17, x18, x19, x20, x21, x22, x23, x24, x25, x26, x27, x28, x29, x30, x31, x32], wm))) := by
  refine ct_of ⟨by decide, rfl⟩ (Nat.le_of_ble_eq_true rfl) ?_
  refine ab_aload_n dX10_under_0 rfl ?_
  refine ab_aload_n dX10_under_1 rfl ?_
  refine ab_iload_n dX10_under_2 rfl ?_
  refine ab_callV (As := [.int a1]) (rest := [.ref 0]) dX10_under_3 mv_X10_hasLinkage ml_X10_133 ⟨by decide, by decide, rfl, rfl, rfl⟩ (by decide) rfl rfl (Nat.le_of_ble_eq_true rfl) rfl c_X10_hasLinkage ?_
  rintro r w' (⟨c_1, rfl, rfl⟩ | ⟨c_2, rfl, rfl⟩)
  · refine ab_ifeq 20 dX10_under_6 (by decide) (fun h_3 => absurd h_3 (by decide)) (fun h_3 => ?_)
    refine ab_iload_n dX10_under_9 rfl ?_
    refine ab_callS (As := [.int a2]) (rest := [.ref 0]) dX10_under_10 ms_X7_has ml_X10_114 ⟨by decide, by decide, rfl, rfl, rfl⟩ (by decide) rfl rfl (Nat.le_of_ble_eq_true rfl) c_X7_has ?_
    rintro r w' (⟨c_4, rfl, rfl⟩ | ⟨c_5, rfl, rfl⟩)
    · refine ab_ifeq 20 dX10_under_13 (by decide) (fun h_6 => absurd h_6 (by decide)) (fun h_6 => ?_)
      refine ab_iconst (v := 1) dX10_under_16 (by decide) ?_
      refine ab_goto 21 dX10_under_17 (by decide) ?_
      refine ab_iconst (v := 1) dX10_under_21 (by decide) ?_
      refine ab_callV (As := [.int 1, .int 1]) (rest := []) dX10_under_22 mv_X10_refused ml_X10_84 ⟨by decide, by decide, rfl, rfl, rfl⟩ (by decide) rfl rfl (Nat.le_of_ble_eq_true rfl) rfl c_X10_refused_1 ?_
      rintro r w' ⟨rfl, rfl⟩
      refine ab_ifeq 32 dX10_under_25 (by decide) (fun h_7 => ?_) (fun h_7 => absurd (by decide) h_7)
      refine ab_aload_n dX10_under_32 rfl ?_
      refine ab_iload_n dX10_under_33 rfl ?_
      refine ab_iload_n dX10_under_34 rfl ?_
      refine ab_callV (As := [.int a1, .int a2]) (rest := []) dX10_under_35 mv_X10_positionAt ml_X10_166 ⟨by decide, by decide, rfl, rfl, rfl⟩ (by decide) rfl rfl (Nat.le_of_ble_eq_true rfl) rfl (c_X10_positionAt c_1 h_c0 c_4) ?_
      rintro r w' ⟨rfl, rfl⟩
      refine ab_getf dX10_under_38 fl_X10_196 rfl rfl ?_
      exact ab_lret dX10_under_41 rfl (by decide) (Or.inl ⟨c_1, c_4, rfl, rfl⟩)
    · refine ab_ifeq 20 dX10_under_13 (by decide) (fun h_8 => ?_) (fun h_8 => absurd (by decide) h_8)
      refine ab_iconst (v := 0) dX10_under_20 (by decide) ?_
      refine ab_iconst (v := 1) dX10_under_21 (by decide) ?_
      refine ab_callV (As := [.int 0, .int 1]) (rest := []) dX10_under_22 mv_X10_refused ml_X10_84 ⟨by decide, by decide, rfl, rfl, rfl⟩ (by decide) rfl rfl (Nat.le_of_ble_eq_true rfl) rfl c_X10_refused_0 ?_
      rintro r w' ⟨rfl, rfl⟩
      refine ab_ifeq 32 dX10_under_25 (by decide) (fun h_9 => absurd h_9 (by decide)) (fun h_9 => ?_)
      refine ab_ldc2 dX10_under_28 kl_X10_194 ?_
      exact ab_lret dX10_under_31 rfl (by decide) (Or.inr (Or.inl ⟨c_1, c_5, rfl, rfl⟩))
  · refine ab_ifeq 20 dX10_under_6 (by decide) (fun h_10 => ?_) (fun h_10 => absurd (by decide) h_10)
    refine ab_iconst (v := 0) dX10_under_20 (by decide) ?_
    refine ab_iconst (v := 1) dX10_under_21 (by decide) ?_
    refine ab_callV (As := [.int 0, .int 1]) (rest := []) dX10_under_22 mv_X10_refused ml_X10_84 ⟨by decide, by decide, rfl, rfl, rfl⟩ (by decide) rfl rfl (Nat.le_of_ble_eq_true rfl) rfl c_X10_refused_0 ?_
    rintro r w' ⟨rfl, rfl⟩
    refine ab_ifeq 32 dX10_under_25 (by decide) (fun h_11 => absurd h_11 (by decide)) (fun h_11 => ?_)
    refine ab_ldc2 dX10_under_28 kl_X10_194 ?_
    exact ab_lret dX10_under_31 rfl (by decide) (Or.inr (Or.inr (⟨c_2, rfl, rfl⟩)))
theorem c_X10_span {f0_0 f10_0 f10_1 f10_2 f10_3 a1 a2 a3 : Int32} {x1 x2 x3 x7 x8 x9 x12 x13 x14 x15 x16 x17 x18 x19 x20 x21 x22 x23 x24 x25 x26 x27 x28 x29 x30 x31 x32 : ax_E} {r5 r6 : Nat → Int32} {f11_0 f11_1 f11_2 f11_3 f11_4 f11_5 f11_6 f11_7 f11_8 f11_9 f11_10 f11_11 f11_12 f11_13 f11_14 f11_15 : Int64} {wm : List ax_E} (h_c0 : r6 0 ≤ nI 4) (h_s : (Ps_s (Bg r5 a1) (Ba r5 a1) a2).toInt ≠ -2 ^ 63) (h_n : (Ps_n a2).toInt ≠ -2 ^ 63) : Ct M_X10_span [.ref 0, .int a1, .int a2, .int a3] ([ob 8 [.int f0_0, .ref 1, .ref 4, .ref 7, .ref 10, .ref 11, .ref 12, .ref 18, .ref 25, .ref 29], x1, x2, x3, ob 2 [.ref 5, .ref 6], ia 56 r5, ia 4 r6, x7, x8, x9, ob 3 [.int f10_0, .int f10_1, .int f10_2, .int f10_3], ob 5 [.long f11_0, .long f11_1, .long f11_2, .long f11_3, .long f11_4, .long f11_5, .long f11_6, .long f11_7, .long f11_8, .long f11_9, .long f11_10, .long f11_11, .long f11_12, .long f11_13, .long f11_14, .long f11_15], x12, x13, x14, x15, x16, x17, x18, x19, x20, x21, x22, x23, x24, x25, x26, x27, x28, x29, x30, x31, x32], wm) (fun r w' => ((0 ≤ a1 ∧ a1 < r6 0) ∧ (0 ≤ a2 ∧ a2 < 40) ∧ r = some (.long (Rd (Ps_s (Bg r5 a1) (Ba r5 a1) a2) (Ps_n a2) a3)) ∧ w' = ([ob 8 [.int 0, .ref 1, .ref 4, .ref 7, .ref 10, .ref 11, .ref 12, .ref 18, .ref 25, .ref 29], x1, x2, x3, ob 2 [.ref 5, .ref 6], ia 56 r5, ia 4 r6, x7, x8, x9, ob 3 [.int (Bg r5 a1), .int (Ba r5 a1), .int (Bb r5 a1), .int (Bc r5 a1)], ob 5 [.long (Ps_n a2), .long (Ps_d a2), .long (Ps_s (Bg r5 a1) (Ba r5 a1) a2), .long (Ps_k (Bg r5 a1) (Ba r5 a1) (Bb r5 a1) (Bc r5 a1) a2), .long (Int32.toInt64 (Bg r5 a1)), .long (Int32.toInt64 (Ba r5 a1)), .long (Int32.toInt64 (Bb r5 a1)), .long (Int32.toInt64 (Bc r5 a1)), .long (Ps_c a2), .long (Ps_e (Bg r5 a1) (Ba r5 a1) (Bb r5 a1) (Bc r5 a1) a2), .long (Ps_x (Bg r5 a1) (Ba r5 a1) a2), .long (Ps_y (Ba r5 a1) a2), .long f11_12, .long f11_13, .long f11_14, .long f11_15], x12, x13, x14, x15, x16, x17, x18, x19, x20, x21, x22, x23, x24, x25, x26, x27, x28, x29, x30, x31, x32], wm)) ∨ ((0 ≤ a1 ∧ a1 < r6 0) ∧ (¬ (0 ≤ a2 ∧ a2 < 40)) ∧ r = some (.long (-1)) ∧ w' = ([ob 8 [.int 1, .ref 1, .ref 4, .ref 7, .ref 10, .ref 11, .ref 12, .ref 18, .ref 25, .ref 29], x1, x2, x3, ob 2 [.ref 5, .ref 6], ia 56 r5, ia 4 r6, x7, x8, x9, ob 3 [.int f10_0, .int f10_1, .int f10_2, .int f10_3], ob 5 [.long f11_0, .long f11_1, .long f11_2, .long f11_3, .long f11_4, .long f11_5, .long f11_6, .long f11_7, .long f11_8, .long f11_9, .long f11_10, .long f11_11, .long f11_12, .long f11_13, .long f11_14, .long f11_15], x12, x13, x14, x15, x16, x17, x18, x19, x20, x21, x22, x23, x24, x25, x26, x27, x28, x29, x30, x31, x32], wm)) ∨ ((¬ (0 ≤ a1 ∧ a1 < r6 0)) ∧ r = some (.long (-1)) ∧ w' = ([ob 8 [.int 1, .ref 1, .ref 4, .ref 7, .ref 10, .ref 11, .ref 12, .ref 18, .ref 25, .ref 29], x1, x2, x3, ob 2 [.ref 5, .ref 6], ia 56 r5, ia 4 r6, x7, x8, x9, ob 3 [.int f10_0, .int f10_1, .int f10_2, .int f10_3], ob 5 [.long f11_0, .long f11_1, .long f11_2, .long f11_3, .long f11_4, .long f11_5, .long f11_6, .long f11_7, .long f11_8, .long f11_9, .long f11_10, .long f11_11, .long f11_12, .long f11_13, .long f11_14, .long f11_15], x12, x13, x14, x15, x16, x17, x18, x19, x20, x21, x22, x23, x24, x25, x26, x27, x28, x29, x30, x31, x32], wm))) := by
  refine ct_of ⟨by decide, rfl⟩ (Nat.le_of_ble_eq_true rfl) ?_
  refine ab_aload_n dX10_span_0 rfl ?_
  refine ab_aload_n dX10_span_1 rfl ?_
  refine ab_iload_n dX10_span_2 rfl ?_
  refine ab_callV (As := [.int a1]) (rest := [.ref 0]) dX10_span_3 mv_X10_hasLinkage ml_X10_133 ⟨by decide, by decide, rfl, rfl, rfl⟩ (by decide) rfl rfl (Nat.le_of_ble_eq_true rfl) rfl c_X10_hasLinkage ?_
  rintro r w' (⟨c_1, rfl, rfl⟩ | ⟨c_2, rfl, rfl⟩)
  · refine ab_ifeq 20 dX10_span_6 (by decide) (fun h_3 => absurd h_3 (by decide)) (fun h_3 => ?_)
    refine ab_iload_n dX10_span_9 rfl ?_
    refine ab_callS (As := [.int a2]) (rest := [.ref 0]) dX10_span_10 ms_X7_has ml_X10_114 ⟨by decide, by decide, rfl, rfl, rfl⟩ (by decide) rfl rfl (Nat.le_of_ble_eq_true rfl) c_X7_has ?_
    rintro r w' (⟨c_4, rfl, rfl⟩ | ⟨c_5, rfl, rfl⟩)
    · refine ab_ifeq 20 dX10_span_13 (by decide) (fun h_6 => absurd h_6 (by decide)) (fun h_6 => ?_)
      refine ab_iconst (v := 1) dX10_span_16 (by decide) ?_
      refine ab_goto 21 dX10_span_17 (by decide) ?_
      refine ab_iconst (v := 1) dX10_span_21 (by decide) ?_
      refine ab_callV (As := [.int 1, .int 1]) (rest := []) dX10_span_22 mv_X10_refused ml_X10_84 ⟨by decide, by decide, rfl, rfl, rfl⟩ (by decide) rfl rfl (Nat.le_of_ble_eq_true rfl) rfl c_X10_refused_1 ?_
      rintro r w' ⟨rfl, rfl⟩
      refine ab_ifeq 32 dX10_span_25 (by decide) (fun h_7 => ?_) (fun h_7 => absurd (by decide) h_7)
      refine ab_aload_n dX10_span_32 rfl ?_
      refine ab_iload_n dX10_span_33 rfl ?_
      refine ab_iload_n dX10_span_34 rfl ?_
      refine ab_callV (As := [.int a1, .int a2]) (rest := []) dX10_span_35 mv_X10_positionAt ml_X10_166 ⟨by decide, by decide, rfl, rfl, rfl⟩ (by decide) rfl rfl (Nat.le_of_ble_eq_true rfl) rfl (c_X10_positionAt c_1 h_c0 c_4) ?_
      rintro r w' ⟨rfl, rfl⟩
      refine ab_astore (la' := [(4, .ref 11), (0, .ref 0), (1, .int a1), (2, .int a2), (3, .int a3)]) dX10_span_38 (by decide) rfl ?_
      refine ab_aload dX10_span_40 rfl ?_
      refine ab_getf dX10_span_42 fl_X10_181 rfl rfl ?_
      refine ab_aload dX10_span_45 rfl ?_
      refine ab_getf dX10_span_47 fl_X10_185 rfl rfl ?_
      refine ab_iload_n dX10_span_50 rfl ?_
      refine ab_callS (As := [.long (Ps_s (Bg r5 a1) (Ba r5 a1) a2), .long (Ps_n a2), .int a3]) (rest := []) dX10_span_51 ms_X9_reduced ml_X10_188 ⟨by decide, by decide, rfl, rfl, rfl⟩ (by decide) rfl rfl (Nat.le_of_ble_eq_true rfl) (c_X9_reduced h_s h_n) ?_
      rintro r w' ⟨rfl, rfl⟩
      exact ab_lret dX10_span_54 rfl (by decide) (Or.inl ⟨c_1, c_4, rfl, rfl⟩)
    · refine ab_ifeq 20 dX10_span_13 (by decide) (fun h_8 => ?_) (fun h_8 => absurd (by decide) h_8)
      refine ab_iconst (v := 0) dX10_span_20 (by decide) ?_
      refine ab_iconst (v := 1) dX10_span_21 (by decide) ?_
      refine ab_callV (As := [.int 0, .int 1]) (rest := []) dX10_span_22 mv_X10_refused ml_X10_84 ⟨by decide, by decide, rfl, rfl, rfl⟩ (by decide) rfl rfl (Nat.le_of_ble_eq_true rfl) rfl c_X10_refused_0 ?_
      rintro r w' ⟨rfl, rfl⟩
      refine ab_ifeq 32 dX10_span_25 (by decide) (fun h_9 => absurd h_9 (by decide)) (fun h_9 => ?_)
      refine ab_ldc2 dX10_span_28 kl_X10_179 ?_
      exact ab_lret dX10_span_31 rfl (by decide) (Or.inr (Or.inl ⟨c_1, c_5, rfl, rfl⟩))
  · refine ab_ifeq 20 dX10_span_6 (by decide) (fun h_10 => ?_) (fun h_10 => absurd (by decide) h_10)
    refine ab_iconst (v := 0) dX10_span_20 (by decide) ?_
    refine ab_iconst (v := 1) dX10_span_21 (by decide) ?_
    refine ab_callV (As := [.int 0, .int 1]) (rest := []) dX10_span_22 mv_X10_refused ml_X10_84 ⟨by decide, by decide, rfl, rfl, rfl⟩ (by decide) rfl rfl (Nat.le_of_ble_eq_true rfl) rfl c_X10_refused_0 ?_
    rintro r w' ⟨rfl, rfl⟩
    refine ab_ifeq 32 dX10_span_25 (by decide) (fun h_11 => absurd h_11 (by decide)) (fun h_11 => ?_)
    refine ab_ldc2 dX10_span_28 kl_X10_179 ?_
    exact ab_lret dX10_span_31 rfl (by decide) (Or.inr (Or.inr (⟨c_2, rfl, rfl⟩)))
theorem c_X10_swing {f0_0 f10_0 f10_1 f10_2 f10_3 a1 a2 a3 : Int32} {x1 x2 x3 x7 x8 x9 x11 x12 x13 x14 x15 x16 x17 x18 x19 x20 x21 x22 x23 x24 x25 x26 x27 x28 x29 x30 x31 x32 : ax_E} {r5 r6 : Nat → Int32} {wm : List ax_E} (h_c0 : r6 0 ≤ nI 4) : Ct M_X10_swing [.ref 0, .int a1, .int a2, .int a3] ([ob 8 [.int f0_0, .ref 1, .ref 4, .ref 7, .ref 10, .ref 11, .ref 12, .ref 18, .ref 25, .ref 29], x1, x2, x3, ob 2 [.ref 5, .ref 6], ia 56 r5, ia 4 r6, x7, x8, x9, ob 3 [.int f10_0, .int f10_1, .int f10_2, .int f10_3], x11, x12, x13, x14, x15, x16, x17, x18, x19, x20, x21, x22, x23, x24, x25, x26, x27, x28, x29, x30, x31, x32], wm) (fun r w' => ((0 ≤ a1 ∧ a1 < r6 0) ∧ (Lk_least (Bg r5 a1) (Ba r5 a1) (Bb r5 a1) (Bc r5 a1) ≤ Lk_most (Bg r5 a1) (Ba r5 a1) (Bb r5 a1) (Bc r5 a1)) ∧ (a2 = 0) ∧ r = some (.long (Rd (Int32.toInt64 (Lk_swu (Bg r5 a1) (Ba r5 a1) (Bb r5 a1) (Bc r5 a1) (Lk_least (Bg r5 a1) (Ba r5 a1) (Bb r5 a1) (Bc r5 a1)))) (Int32.toInt64 (Lk_swd (Bb r5 a1) (Bc r5 a1))) a3)) ∧ w' = ([ob 8 [.int 0, .ref 1, .ref 4, .ref 7, .ref 10, .ref 11, .ref 12, .ref 18, .ref 25, .ref 29], x1, x2, x3, ob 2 [.ref 5, .ref 6], ia 56 r5, ia 4 r6, x7, x8, x9, ob 3 [.int (Bg r5 a1), .int (Ba r5 a1), .int (Bb r5 a1), .int (Bc r5 a1)], x11, x12, x13, x14, x15, x16, x17, x18, x19, x20, x21, x22, x23, x24, x25, x26, x27, x28, x29, x30, x31, x32], wm)) ∨ ((0 ≤ a1 ∧ a1 < r6 0) ∧ (Lk_least (Bg r5 a1) (Ba r5 a1) (Bb r5 a1) (Bc r5 a1) ≤ Lk_most (Bg r5 a1) (Ba r5 a1) (Bb r5 a1) (Bc r5 a1)) ∧ (¬ a2 = 0) ∧ r = some (.long (Rd (Int32.toInt64 (Lk_swu (Bg r5 a1) (Ba r5 a1) (Bb r5 a1) (Bc r5 a1) (Lk_most (Bg r5 a1) (Ba r5 a1) (Bb r5 a1) (Bc r5 a1)))) (Int32.toInt64 (Lk_swd (Bb r5 a1) (Bc r5 a1))) a3)) ∧ w' = ([ob 8 [.int 0, .ref 1, .ref 4, .ref 7, .ref 10, .ref 11, .ref 12, .ref 18, .ref 25, .ref 29], x1, x2, x3, ob 2 [.ref 5, .ref 6], ia 56 r5, ia 4 r6, x7, x8, x9, ob 3 [.int (Bg r5 a1), .int (Ba r5 a1), .int (Bb r5 a1), .int (Bc r5 a1)], x11, x12, x13, x14, x15, x16, x17, x18, x19, x20, x21, x22, x23, x24, x25, x26, x27, x28, x29, x30, x31, x32], wm)) ∨ ((0 ≤ a1 ∧ a1 < r6 0) ∧ (¬ (Lk_least (Bg r5 a1) (Ba r5 a1) (Bb r5 a1) (Bc r5 a1) ≤ Lk_most (Bg r5 a1) (Ba r5 a1) (Bb r5 a1) (Bc r5 a1))) ∧ r = some (.long (-9223372036854775808)) ∧ w' = ([ob 8 [.int 5, .ref 1, .ref 4, .ref 7, .ref 10, .ref 11, .ref 12, .ref 18, .ref 25, .ref 29], x1, x2, x3, ob 2 [.ref 5, .ref 6], ia 56 r5, ia 4 r6, x7, x8, x9, ob 3 [.int (Bg r5 a1), .int (Ba r5 a1), .int (Bb r5 a1), .int (Bc r5 a1)], x11, x12, x13, x14, x15, x16, x17, x18, x19, x20, x21, x22, x23, x24, x25, x26, x27, x28, x29, x30, x31, x32], wm)) ∨ ((¬ (0 ≤ a1 ∧ a1 < r6 0)) ∧ r = some (.long (-9223372036854775808)) ∧ w' = ([ob 8 [.int 1, .ref 1, .ref 4, .ref 7, .ref 10, .ref 11, .ref 12, .ref 18, .ref 25, .ref 29], x1, x2, x3, ob 2 [.ref 5, .ref 6], ia 56 r5, ia 4 r6, x7, x8, x9, ob 3 [.int f10_0, .int f10_1, .int f10_2, .int f10_3], x11, x12, x13, x14, x15, x16, x17, x18, x19, x20, x21, x22, x23, x24, x25, x26, x27, x28, x29, x30, x31, x32], wm))) := by
  refine ct_of ⟨by decide, rfl⟩ (Nat.le_of_ble_eq_true rfl) ?_
  refine ab_aload_n dX10_swing_0 rfl ?_
  refine ab_aload_n dX10_swing_1 rfl ?_
  refine ab_iload_n dX10_swing_2 rfl ?_
  refine ab_callV (As := [.int a1]) (rest := [.ref 0]) dX10_swing_3 mv_X10_hasLinkage ml_X10_133 ⟨by decide, by decide, rfl, rfl, rfl⟩ (by decide) rfl rfl (Nat.le_of_ble_eq_true rfl) rfl c_X10_hasLinkage ?_
  rintro r w' (⟨c_1, rfl, rfl⟩ | ⟨c_2, rfl, rfl⟩)
  · refine ab_iconst (v := 1) dX10_swing_6 (by decide) ?_
    refine ab_callV (As := [.int 1, .int 1]) (rest := []) dX10_swing_7 mv_X10_refused ml_X10_84 ⟨by decide, by decide, rfl, rfl, rfl⟩ (by decide) rfl rfl (Nat.le_of_ble_eq_true rfl) rfl c_X10_refused_1 ?_
    rintro r w' ⟨rfl, rfl⟩
    refine ab_ifeq 17 dX10_swing_10 (by decide) (fun h_3 => ?_) (fun h_3 => absurd (by decide) h_3)
    refine ab_aload_n dX10_swing_17 rfl ?_
    refine ab_aload_n dX10_swing_18 rfl ?_
    refine ab_iload_n dX10_swing_19 rfl ?_
    refine ab_callV (As := [.int a1]) (rest := [.ref 0]) dX10_swing_20 mv_X10_linkageAt ml_X10_140 ⟨by decide, by decide, rfl, rfl, rfl⟩ (by decide) rfl rfl (Nat.le_of_ble_eq_true rfl) rfl (c_X10_linkageAt c_1 h_c0) ?_
    rintro r w' ⟨rfl, rfl⟩
    refine ab_callV (As := []) (rest := [.ref 0]) dX10_swing_23 mv_X3_hasCosines ml_X10_246 ⟨by decide, by decide, rfl, rfl, rfl⟩ (by decide) rfl rfl (Nat.le_of_ble_eq_true rfl) rfl c_X3_hasCosines ?_
    rintro r w' (⟨c_4, rfl, rfl⟩ | ⟨c_5, rfl, rfl⟩)
    · refine ab_iconst (v := 5) dX10_swing_26 (by decide) ?_
      refine ab_callV (As := [.int 1, .int 5]) (rest := []) dX10_swing_27 mv_X10_refused ml_X10_84 ⟨by decide, by decide, rfl, rfl, rfl⟩ (by decide) rfl rfl (Nat.le_of_ble_eq_true rfl) rfl c_X10_refused_1 ?_
      rintro r w' ⟨rfl, rfl⟩
      refine ab_ifeq 37 dX10_swing_30 (by decide) (fun h_6 => ?_) (fun h_6 => absurd (by decide) h_6)
      refine ab_iload_n dX10_swing_37 rfl ?_
      refine ab_ifeq 51 dX10_swing_38 (by decide) (fun h_7 => ?_) (fun h_7 => ?_)
      · refine ab_aload_n dX10_swing_51 rfl ?_
        refine ab_getf dX10_swing_52 fl_X10_33 rfl rfl ?_
        refine ab_callV (As := []) (rest := []) dX10_swing_55 mv_X3_leastCosine ml_X10_252 ⟨by decide, by decide, rfl, rfl, rfl⟩ (by decide) rfl rfl (Nat.le_of_ble_eq_true rfl) rfl c_X3_leastCosine ?_
        rintro r w' ⟨rfl, rfl⟩
        refine ab_istore (la' := [(4, .int (Lk_least (Bg r5 a1) (Ba r5 a1) (Bb r5 a1) (Bc r5 a1))), (0, .ref 0), (1, .int a1), (2, .int a2), (3, .int a3)]) dX10_swing_58 (by decide) rfl ?_
        refine ab_aload_n dX10_swing_60 rfl ?_
        refine ab_getf dX10_swing_61 fl_X10_33 rfl rfl ?_
        refine ab_iload dX10_swing_64 rfl ?_
        refine ab_callV (As := [.int (Lk_least (Bg r5 a1) (Ba r5 a1) (Bb r5 a1) (Bc r5 a1))]) (rest := []) dX10_swing_66 mv_X3_swingUpper ml_X10_255 ⟨by decide, by decide, rfl, rfl, rfl⟩ (by decide) rfl rfl (Nat.le_of_ble_eq_true rfl) rfl c_X3_swingUpper ?_
        rintro r w' ⟨rfl, rfl⟩
        refine ab_i2l dX10_swing_69 ?_
        refine ab_aload_n dX10_swing_70 rfl ?_
        refine ab_getf dX10_swing_71 fl_X10_33 rfl rfl ?_
        refine ab_callV (As := []) (rest := [.long (Int32.toInt64 (Lk_swu (Bg r5 a1) (Ba r5 a1) (Bb r5 a1) (Bc r5 a1) (Lk_least (Bg r5 a1) (Ba r5 a1) (Bb r5 a1) (Bc r5 a1))))]) dX10_swing_74 mv_X3_swingLower ml_X10_258 ⟨by decide, by decide, rfl, rfl, rfl⟩ (by decide) rfl rfl (Nat.le_of_ble_eq_true rfl) rfl c_X3_swingLower ?_
        rintro r w' ⟨rfl, rfl⟩
        refine ab_i2l dX10_swing_77 ?_
        refine ab_iload_n dX10_swing_78 rfl ?_
        refine ab_callS (As := [.long (Int32.toInt64 (Lk_swu (Bg r5 a1) (Ba r5 a1) (Bb r5 a1) (Bc r5 a1) (Lk_least (Bg r5 a1) (Ba r5 a1) (Bb r5 a1) (Bc r5 a1)))), .long (Int32.toInt64 (Lk_swd (Bb r5 a1) (Bc r5 a1))), .int a3]) (rest := []) dX10_swing_79 ms_X9_reduced ml_X10_188 ⟨by decide, by decide, rfl, rfl, rfl⟩ (by decide) rfl rfl (Nat.le_of_ble_eq_true rfl) (c_X9_reduced (i32_ne _) (i32_ne _)) ?_
        rintro r w' ⟨rfl, rfl⟩
        exact ab_lret dX10_swing_82 rfl (by decide) (Or.inl ⟨c_1, c_4, h_7, rfl, rfl⟩)
      · refine ab_aload_n dX10_swing_41 rfl ?_
        refine ab_getf dX10_swing_42 fl_X10_33 rfl rfl ?_
        refine ab_callV (As := []) (rest := []) dX10_swing_45 mv_X3_greatestCosine ml_X10_249 ⟨by decide, by decide, rfl, rfl, rfl⟩ (by decide) rfl rfl (Nat.le_of_ble_eq_true rfl) rfl c_X3_greatestCosine ?_
        rintro r w' ⟨rfl, rfl⟩
        refine ab_goto 58 dX10_swing_48 (by decide) ?_
        refine ab_istore (la' := [(4, .int (Lk_most (Bg r5 a1) (Ba r5 a1) (Bb r5 a1) (Bc r5 a1))), (0, .ref 0), (1, .int a1), (2, .int a2), (3, .int a3)]) dX10_swing_58 (by decide) rfl ?_
        refine ab_aload_n dX10_swing_60 rfl ?_
        refine ab_getf dX10_swing_61 fl_X10_33 rfl rfl ?_
        refine ab_iload dX10_swing_64 rfl ?_
        refine ab_callV (As := [.int (Lk_most (Bg r5 a1) (Ba r5 a1) (Bb r5 a1) (Bc r5 a1))]) (rest := []) dX10_swing_66 mv_X3_swingUpper ml_X10_255 ⟨by decide, by decide, rfl, rfl, rfl⟩ (by decide) rfl rfl (Nat.le_of_ble_eq_true rfl) rfl c_X3_swingUpper ?_
        rintro r w' ⟨rfl, rfl⟩
        refine ab_i2l dX10_swing_69 ?_
        refine ab_aload_n dX10_swing_70 rfl ?_
        refine ab_getf dX10_swing_71 fl_X10_33 rfl rfl ?_
        refine ab_callV (As := []) (rest := [.long (Int32.toInt64 (Lk_swu (Bg r5 a1) (Ba r5 a1) (Bb r5 a1) (Bc r5 a1) (Lk_most (Bg r5 a1) (Ba r5 a1) (Bb r5 a1) (Bc r5 a1))))]) dX10_swing_74 mv_X3_swingLower ml_X10_258 ⟨by decide, by decide, rfl, rfl, rfl⟩ (by decide) rfl rfl (Nat.le_of_ble_eq_true rfl) rfl c_X3_swingLower ?_
        rintro r w' ⟨rfl, rfl⟩
        refine ab_i2l dX10_swing_77 ?_
        refine ab_iload_n dX10_swing_78 rfl ?_
        refine ab_callS (As := [.long (Int32.toInt64 (Lk_swu (Bg r5 a1) (Ba r5 a1) (Bb r5 a1) (Bc r5 a1) (Lk_most (Bg r5 a1) (Ba r5 a1) (Bb r5 a1) (Bc r5 a1)))), .long (Int32.toInt64 (Lk_swd (Bb r5 a1) (Bc r5 a1))), .int a3]) (rest := []) dX10_swing_79 ms_X9_reduced ml_X10_188 ⟨by decide, by decide, rfl, rfl, rfl⟩ (by decide) rfl rfl (Nat.le_of_ble_eq_true rfl) (c_X9_reduced (i32_ne _) (i32_ne _)) ?_
        rintro r w' ⟨rfl, rfl⟩
        exact ab_lret dX10_swing_82 rfl (by decide) (Or.inr (Or.inl ⟨c_1, c_4, h_7, rfl, rfl⟩))
    · refine ab_iconst (v := 5) dX10_swing_26 (by decide) ?_
      refine ab_callV (As := [.int 0, .int 5]) (rest := []) dX10_swing_27 mv_X10_refused ml_X10_84 ⟨by decide, by decide, rfl, rfl, rfl⟩ (by decide) rfl rfl (Nat.le_of_ble_eq_true rfl) rfl c_X10_refused_0 ?_
      rintro r w' ⟨rfl, rfl⟩
      refine ab_ifeq 37 dX10_swing_30 (by decide) (fun h_8 => absurd h_8 (by decide)) (fun h_8 => ?_)
      refine ab_ldc2 dX10_swing_33 kl_X10_194 ?_
      exact ab_lret dX10_swing_36 rfl (by decide) (Or.inr (Or.inr (Or.inl ⟨c_1, c_5, rfl, rfl⟩)))
  · refine ab_iconst (v := 1) dX10_swing_6 (by decide) ?_
    refine ab_callV (As := [.int 0, .int 1]) (rest := []) dX10_swing_7 mv_X10_refused ml_X10_84 ⟨by decide, by decide, rfl, rfl, rfl⟩ (by decide) rfl rfl (Nat.le_of_ble_eq_true rfl) rfl c_X10_refused_0 ?_
    rintro r w' ⟨rfl, rfl⟩
    refine ab_ifeq 17 dX10_swing_10 (by decide) (fun h_9 => absurd h_9 (by decide)) (fun h_9 => ?_)
    refine ab_ldc2 dX10_swing_13 kl_X10_194 ?_
    exact ab_lret dX10_swing_16 rfl (by decide) (Or.inr (Or.inr (Or.inr (⟨c_2, rfl, rfl⟩))))
theorem c_X10_circuit {f0_0 f10_0 f10_1 f10_2 f10_3 a1 a2 a3 : Int32} {x1 x2 x3 x7 x8 x9 x12 x13 x14 x15 x16 x17 x18 x19 x20 x21 x22 x23 x24 x25 x26 x27 x28 x29 x30 x31 x32 : ax_E} {r5 r6 : Nat → Int32} {f11_0 f11_1 f11_2 f11_3 f11_4 f11_5 f11_6 f11_7 f11_8 f11_9 f11_10 f11_11 f11_12 f11_13 f11_14 f11_15 : Int64} {wm : List ax_E} (h_c0 : r6 0 ≤ nI 4) : Ct M_X10_circuit [.ref 0, .int a1, .int a2, .int a3] ([ob 8 [.int f0_0, .ref 1, .ref 4, .ref 7, .ref 10, .ref 11, .ref 12, .ref 18, .ref 25, .ref 29], x1, x2, x3, ob 2 [.ref 5, .ref 6], ia 56 r5, ia 4 r6, x7, x8, x9, ob 3 [.int f10_0, .int f10_1, .int f10_2, .int f10_3], ob 5 [.long f11_0, .long f11_1, .long f11_2, .long f11_3, .long f11_4, .long f11_5, .long f11_6, .long f11_7, .long f11_8, .long f11_9, .long f11_10, .long f11_11, .long f11_12, .long f11_13, .long f11_14, .long f11_15], x12, x13, x14, x15, x16, x17, x18, x19, x20, x21, x22, x23, x24, x25, x26, x27, x28, x29, x30, x31, x32], wm) (fun r w' => (((0 ≤ a1 ∧ a1 < r6 0) ∧ (0 ≤ a2 ∧ a2 < 40) ∧ (0 ≤ a3 ∧ a3 < 2)) ∧ (0 < (Ps_s (Bg r5 a1) (Ba r5 a1) a2) ∧ 0 ≤ (Ps_k (Bg r5 a1) (Ba r5 a1) (Bb r5 a1) (Bc r5 a1) a2)) ∧ (Lk_least (Bg r5 a1) (Ba r5 a1) (Bb r5 a1) (Bc r5 a1) ≤ Lk_most (Bg r5 a1) (Ba r5 a1) (Bb r5 a1) (Bc r5 a1) ∧ Lk_rnd (Bg r5 a1) (Ba r5 a1) (Bb r5 a1) (Bc r5 a1) 0 ∧ Lk_ends (Bg r5 a1) (Ba r5 a1) (Bb r5 a1) (Bc r5 a1) = 0) ∧ r = some (.int a3) ∧ w' = ([ob 8 [.int 0, .ref 1, .ref 4, .ref 7, .ref 10, .ref 11, .ref 12, .ref 18, .ref 25, .ref 29], x1, x2, x3, ob 2 [.ref 5, .ref 6], ia 56 r5, ia 4 r6, x7, x8, x9, ob 3 [.int (Bg r5 a1), .int (Ba r5 a1), .int (Bb r5 a1), .int (Bc r5 a1)], ob 5 [.long (Ps_n a2), .long (Ps_d a2), .long (Ps_s (Bg r5 a1) (Ba r5 a1) a2), .long (Ps_k (Bg r5 a1) (Ba r5 a1) (Bb r5 a1) (Bc r5 a1) a2), .long (Int32.toInt64 (Bg r5 a1)), .long (Int32.toInt64 (Ba r5 a1)), .long (Int32.toInt64 (Bb r5 a1)), .long (Int32.toInt64 (Bc r5 a1)), .long (Ps_c a2), .long (Ps_e (Bg r5 a1) (Ba r5 a1) (Bb r5 a1) (Bc r5 a1) a2), .long (Ps_x (Bg r5 a1) (Ba r5 a1) a2), .long (Ps_y (Ba r5 a1) a2), .long f11_12, .long f11_13, .long f11_14, .long f11_15], x12, x13, x14, x15, x16, x17, x18, x19, x20, x21, x22, x23, x24, x25, x26, x27, x28, x29, x30, x31, x32], wm)) ∨ (((0 ≤ a1 ∧ a1 < r6 0) ∧ (0 ≤ a2 ∧ a2 < 40) ∧ (0 ≤ a3 ∧ a3 < 2)) ∧ (0 < (Ps_s (Bg r5 a1) (Ba r5 a1) a2) ∧ 0 ≤ (Ps_k (Bg r5 a1) (Ba r5 a1) (Bb r5 a1) (Bc r5 a1) a2)) ∧ (¬ (Lk_least (Bg r5 a1) (Ba r5 a1) (Bb r5 a1) (Bc r5 a1) ≤ Lk_most (Bg r5 a1) (Ba r5 a1) (Bb r5 a1) (Bc r5 a1) ∧ Lk_rnd (Bg r5 a1) (Ba r5 a1) (Bb r5 a1) (Bc r5 a1) 0 ∧ Lk_ends (Bg r5 a1) (Ba r5 a1) (Bb r5 a1) (Bc r5 a1) = 0)) ∧ (¬ (Lk_arcs (Bg r5 a1) (Ba r5 a1) (Bb r5 a1) (Bc r5 a1)) = 2) ∧ r = some (.int 0) ∧ w' = ([ob 8 [.int 0, .ref 1, .ref 4, .ref 7, .ref 10, .ref 11, .ref 12, .ref 18, .ref 25, .ref 29], x1, x2, x3, ob 2 [.ref 5, .ref 6], ia 56 r5, ia 4 r6, x7, x8, x9, ob 3 [.int (Bg r5 a1), .int (Ba r5 a1), .int (Bb r5 a1), .int (Bc r5 a1)], ob 5 [.long (Ps_n a2), .long (Ps_d a2), .long (Ps_s (Bg r5 a1) (Ba r5 a1) a2), .long (Ps_k (Bg r5 a1) (Ba r5 a1) (Bb r5 a1) (Bc r5 a1) a2), .long (Int32.toInt64 (Bg r5 a1)), .long (Int32.toInt64 (Ba r5 a1)), .long (Int32.toInt64 (Bb r5 a1)), .long (Int32.toInt64 (Bc r5 a1)), .long (Ps_c a2), .long (Ps_e (Bg r5 a1) (Ba r5 a1) (Bb r5 a1) (Bc r5 a1) a2), .long (Ps_x (Bg r5 a1) (Ba r5 a1) a2), .long (Ps_y (Ba r5 a1) a2), .long f11_12, .long f11_13, .long f11_14, .long f11_15], x12, x13, x14, x15, x16, x17, x18, x19, x20, x21, x22, x23, x24, x25, x26, x27, x28, x29, x30, x31, x32], wm)) ∨ (((0 ≤ a1 ∧ a1 < r6 0) ∧ (0 ≤ a2 ∧ a2 < 40) ∧ (0 ≤ a3 ∧ a3 < 2)) ∧ (0 < (Ps_s (Bg r5 a1) (Ba r5 a1) a2) ∧ 0 ≤ (Ps_k (Bg r5 a1) (Ba r5 a1) (Bb r5 a1) (Bc r5 a1) a2)) ∧ (¬ (Lk_least (Bg r5 a1) (Ba r5 a1) (Bb r5 a1) (Bc r5 a1) ≤ Lk_most (Bg r5 a1) (Ba r5 a1) (Bb r5 a1) (Bc r5 a1) ∧ Lk_rnd (Bg r5 a1) (Ba r5 a1) (Bb r5 a1) (Bc r5 a1) 0 ∧ Lk_ends (Bg r5 a1) (Ba r5 a1) (Bb r5 a1) (Bc r5 a1) = 0)) ∧ ((Lk_arcs (Bg r5 a1) (Ba r5 a1) (Bb r5 a1) (Bc r5 a1)) = 2) ∧ (0 ≤ (Ps_d a2)) ∧ r = some (.int 0) ∧ w' = ([ob 8 [.int 0, .ref 1, .ref 4, .ref 7, .ref 10, .ref 11, .ref 12, .ref 18, .ref 25, .ref 29], x1, x2, x3, ob 2 [.ref 5, .ref 6], ia 56 r5, ia 4 r6, x7, x8, x9, ob 3 [.int (Bg r5 a1), .int (Ba r5 a1), .int (Bb r5 a1), .int (Bc r5 a1)], ob 5 [.long (Ps_n a2), .long (Ps_d a2), .long (Ps_s (Bg r5 a1) (Ba r5 a1) a2), .long (Ps_k (Bg r5 a1) (Ba r5 a1) (Bb r5 a1) (Bc r5 a1) a2), .long (Int32.toInt64 (Bg r5 a1)), .long (Int32.toInt64 (Ba r5 a1)), .long (Int32.toInt64 (Bb r5 a1)), .long (Int32.toInt64 (Bc r5 a1)), .long (Ps_c a2), .long (Ps_e (Bg r5 a1) (Ba r5 a1) (Bb r5 a1) (Bc r5 a1) a2), .long (Ps_x (Bg r5 a1) (Ba r5 a1) a2), .long (Ps_y (Ba r5 a1) a2), .long f11_12, .long f11_13, .long f11_14, .long f11_15], x12, x13, x14, x15, x16, x17, x18, x19, x20, x21, x22, x23, x24, x25, x26, x27, x28, x29, x30, x31, x32], wm)) ∨ (((0 ≤ a1 ∧ a1 < r6 0) ∧ (0 ≤ a2 ∧ a2 < 40) ∧ (0 ≤ a3 ∧ a3 < 2)) ∧ (0 < (Ps_s (Bg r5 a1) (Ba r5 a1) a2) ∧ 0 ≤ (Ps_k (Bg r5 a1) (Ba r5 a1) (Bb r5 a1) (Bc r5 a1) a2)) ∧ (¬ (Lk_least (Bg r5 a1) (Ba r5 a1) (Bb r5 a1) (Bc r5 a1) ≤ Lk_most (Bg r5 a1) (Ba r5 a1) (Bb r5 a1) (Bc r5 a1) ∧ Lk_rnd (Bg r5 a1) (Ba r5 a1) (Bb r5 a1) (Bc r5 a1) 0 ∧ Lk_ends (Bg r5 a1) (Ba r5 a1) (Bb r5 a1) (Bc r5 a1) = 0)) ∧ ((Lk_arcs (Bg r5 a1) (Ba r5 a1) (Bb r5 a1) (Bc r5 a1)) = 2) ∧ (¬ 0 ≤ (Ps_d a2)) ∧ r = some (.int 1) ∧ w' = ([ob 8 [.int 0, .ref 1, .ref 4, .ref 7, .ref 10, .ref 11, .ref 12, .ref 18, .ref 25, .ref 29], x1, x2, x3, ob 2 [.ref 5, .ref 6], ia 56 r5, ia 4 r6, x7, x8, x9, ob 3 [.int (Bg r5 a1), .int (Ba r5 a1), .int (Bb r5 a1), .int (Bc r5 a1)], ob 5 [.long (Ps_n a2), .long (Ps_d a2), .long (Ps_s (Bg r5 a1) (Ba r5 a1) a2), .long (Ps_k (Bg r5 a1) (Ba r5 a1) (Bb r5 a1) (Bc r5 a1) a2), .long (Int32.toInt64 (Bg r5 a1)), .long (Int32.toInt64 (Ba r5 a1)), .long (Int32.toInt64 (Bb r5 a1)), .long (Int32.toInt64 (Bc r5 a1)), .long (Ps_c a2), .long (Ps_e (Bg r5 a1) (Ba r5 a1) (Bb r5 a1) (Bc r5 a1) a2), .long (Ps_x (Bg r5 a1) (Ba r5 a1) a2), .long (Ps_y (Ba r5 a1) a2), .long f11_12, .long f11_13, .long f11_14, .long f11_15], x12, x13, x14, x15, x16, x17, x18, x19, x20, x21, x22, x23, x24, x25, x26, x27, x28, x29, x30, x31, x32], wm)) ∨ (((0 ≤ a1 ∧ a1 < r6 0) ∧ (0 ≤ a2 ∧ a2 < 40) ∧ (0 ≤ a3 ∧ a3 < 2)) ∧ (¬ (0 < (Ps_s (Bg r5 a1) (Ba r5 a1) a2) ∧ 0 ≤ (Ps_k (Bg r5 a1) (Ba r5 a1) (Bb r5 a1) (Bc r5 a1) a2))) ∧ r = some (.int (-1)) ∧ w' = ([ob 8 [.int 5, .ref 1, .ref 4, .ref 7, .ref 10, .ref 11, .ref 12, .ref 18, .ref 25, .ref 29], x1, x2, x3, ob 2 [.ref 5, .ref 6], ia 56 r5, ia 4 r6, x7, x8, x9, ob 3 [.int (Bg r5 a1), .int (Ba r5 a1), .int (Bb r5 a1), .int (Bc r5 a1)], ob 5 [.long (Ps_n a2), .long (Ps_d a2), .long (Ps_s (Bg r5 a1) (Ba r5 a1) a2), .long (Ps_k (Bg r5 a1) (Ba r5 a1) (Bb r5 a1) (Bc r5 a1) a2), .long (Int32.toInt64 (Bg r5 a1)), .long (Int32.toInt64 (Ba r5 a1)), .long (Int32.toInt64 (Bb r5 a1)), .long (Int32.toInt64 (Bc r5 a1)), .long (Ps_c a2), .long (Ps_e (Bg r5 a1) (Ba r5 a1) (Bb r5 a1) (Bc r5 a1) a2), .long (Ps_x (Bg r5 a1) (Ba r5 a1) a2), .long (Ps_y (Ba r5 a1) a2), .long f11_12, .long f11_13, .long f11_14, .long f11_15], x12, x13, x14, x15, x16, x17, x18, x19, x20, x21, x22, x23, x24, x25, x26, x27, x28, x29, x30, x31, x32], wm)) ∨ ((¬ ((0 ≤ a1 ∧ a1 < r6 0) ∧ (0 ≤ a2 ∧ a2 < 40) ∧ (0 ≤ a3 ∧ a3 < 2))) ∧ r = some (.int (-1)) ∧ w' = ([ob 8 [.int 1, .ref 1, .ref 4, .ref 7, .ref 10, .ref 11, .ref 12, .ref 18, .ref 25, .ref 29], x1, x2, x3, ob 2 [.ref 5, .ref 6], ia 56 r5, ia 4 r6, x7, x8, x9, ob 3 [.int f10_0, .int f10_1, .int f10_2, .int f10_3], ob 5 [.long f11_0, .long f11_1, .long f11_2, .long f11_3, .long f11_4, .long f11_5, .long f11_6, .long f11_7, .long f11_8, .long f11_9, .long f11_10, .long f11_11, .long f11_12, .long f11_13, .long f11_14, .long f11_15], x12, x13, x14, x15, x16, x17, x18, x19, x20, x21, x22, x23, x24, x25, x26, x27, x28, x29, x30, x31, x32], wm))) := by
  refine ct_of ⟨by decide, rfl⟩ (Nat.le_of_ble_eq_true rfl) ?_
  refine ab_aload_n dX10_circuit_0 rfl ?_
  refine ab_aload_n dX10_circuit_1 rfl ?_
  refine ab_iload_n dX10_circuit_2 rfl ?_
  refine ab_iload_n dX10_circuit_3 rfl ?_
  refine ab_iload_n dX10_circuit_4 rfl ?_
  refine ab_callV (As := [.int a1, .int a2, .int a3]) (rest := [.ref 0]) dX10_circuit_5 mv_X10_hasPosition ml_X10_199 ⟨by decide, by decide, rfl, rfl, rfl⟩ (by decide) rfl rfl (Nat.le_of_ble_eq_true rfl) rfl c_X10_hasPosition ?_
  rintro r w' (⟨c_1, rfl, rfl⟩ | ⟨c_2, rfl, rfl⟩)
  · refine ab_iconst (v := 1) dX10_circuit_8 (by decide) ?_
    refine ab_callV (As := [.int 1, .int 1]) (rest := []) dX10_circuit_9 mv_X10_refused ml_X10_84 ⟨by decide, by decide, rfl, rfl, rfl⟩ (by decide) rfl rfl (Nat.le_of_ble_eq_true rfl) rfl c_X10_refused_1 ?_
    rintro r w' ⟨rfl, rfl⟩
    refine ab_ifeq 17 dX10_circuit_12 (by decide) (fun h_3 => ?_) (fun h_3 => absurd (by decide) h_3)
    refine ab_aload_n dX10_circuit_17 rfl ?_
    refine ab_aload_n dX10_circuit_18 rfl ?_
    refine ab_iload_n dX10_circuit_19 rfl ?_
    refine ab_iload_n dX10_circuit_20 rfl ?_
    refine ab_callV (As := [.int a1, .int a2]) (rest := [.ref 0]) dX10_circuit_21 mv_X10_positionAt ml_X10_166 ⟨by decide, by decide, rfl, rfl, rfl⟩ (by decide) rfl rfl (Nat.le_of_ble_eq_true rfl) rfl (c_X10_positionAt c_1.1 h_c0 c_1.2.1) ?_
    rintro r w' ⟨rfl, rfl⟩
    refine ab_callV (As := []) (rest := [.ref 0]) dX10_circuit_24 mv_X5_isLawful ml_X10_203 ⟨by decide, by decide, rfl, rfl, rfl⟩ (by decide) rfl rfl (Nat.le_of_ble_eq_true rfl) rfl c_X5_isLawful ?_
    rintro r w' (⟨c_4, rfl, rfl⟩ | ⟨c_5, rfl, rfl⟩)
    · refine ab_iconst (v := 5) dX10_circuit_27 (by decide) ?_
      refine ab_callV (As := [.int 1, .int 5]) (rest := []) dX10_circuit_28 mv_X10_refused ml_X10_84 ⟨by decide, by decide, rfl, rfl, rfl⟩ (by decide) rfl rfl (Nat.le_of_ble_eq_true rfl) rfl c_X10_refused_1 ?_
      rintro r w' ⟨rfl, rfl⟩
      refine ab_ifeq 36 dX10_circuit_31 (by decide) (fun h_6 => ?_) (fun h_6 => absurd (by decide) h_6)
      refine ab_aload_n dX10_circuit_36 rfl ?_
      refine ab_getf dX10_circuit_37 fl_X10_33 rfl rfl ?_
      refine ab_callV (As := []) (rest := []) dX10_circuit_40 mv_X3_isByBranches ml_X10_223 ⟨by decide, by decide, rfl, rfl, rfl⟩ (by decide) rfl rfl (Nat.le_of_ble_eq_true rfl) rfl c_X3_isByBranches ?_
      rintro r w' (⟨c_7, rfl, rfl⟩ | ⟨c_8, rfl, rfl⟩)
      · refine ab_ifeq 48 dX10_circuit_43 (by decide) (fun h_9 => absurd h_9 (by decide)) (fun h_9 => ?_)
        refine ab_iload_n dX10_circuit_46 rfl ?_
        exact ab_iret dX10_circuit_47 rfl (by decide) (Or.inl ⟨c_1, c_4, c_7, rfl, rfl⟩)
      · refine ab_ifeq 48 dX10_circuit_43 (by decide) (fun h_10 => ?_) (fun h_10 => absurd (by decide) h_10)
        refine ab_aload_n dX10_circuit_48 rfl ?_
        refine ab_getf dX10_circuit_49 fl_X10_33 rfl rfl ?_
        refine ab_callV (As := []) (rest := []) dX10_circuit_52 mv_X3_arcCount ml_X10_160 ⟨by decide, by decide, rfl, rfl, rfl⟩ (by decide) rfl rfl (Nat.le_of_ble_eq_true rfl) rfl c_X3_arcCount ?_
        rintro r w' ⟨rfl, rfl⟩
        refine ab_iconst (v := 2) dX10_circuit_55 (by decide) ?_
        refine ab_icmpne 75 dX10_circuit_56 (by decide) (fun h_11 => ?_) (fun h_11 => ?_)
        · refine ab_iconst (v := 0) dX10_circuit_75 (by decide) ?_
          exact ab_iret dX10_circuit_76 rfl (by decide) (Or.inr (Or.inl ⟨c_1, c_4, c_8, h_11, rfl, rfl⟩))
        · refine ab_aload_n dX10_circuit_59 rfl ?_
          refine ab_getf dX10_circuit_60 fl_X10_40 rfl rfl ?_
          refine ab_getf dX10_circuit_63 fl_X10_226 rfl rfl ?_
          refine ab_lconst (v := 0) dX10_circuit_66 (by decide) ?_
          refine ab_lcmpge 75 dX10_circuit_67 dX10_circuit_68 (by decide) (fun h_12 => ?_) (fun h_12 => ?_)
          · refine ab_iconst (v := 0) dX10_circuit_75 (by decide) ?_
            exact ab_iret dX10_circuit_76 rfl (by decide) (Or.inr (Or.inr (Or.inl ⟨c_1, c_4, c_8, h_11, h_12, rfl, rfl⟩)))
          · refine ab_iconst (v := 1) dX10_circuit_71 (by decide) ?_
            refine ab_goto 76 dX10_circuit_72 (by decide) ?_
            exact ab_iret dX10_circuit_76 rfl (by decide) (Or.inr (Or.inr (Or.inr (Or.inl ⟨c_1, c_4, c_8, h_11, h_12, rfl, rfl⟩))))
    · refine ab_iconst (v := 5) dX10_circuit_27 (by decide) ?_
      refine ab_callV (As := [.int 0, .int 5]) (rest := []) dX10_circuit_28 mv_X10_refused ml_X10_84 ⟨by decide, by decide, rfl, rfl, rfl⟩ (by decide) rfl rfl (Nat.le_of_ble_eq_true rfl) rfl c_X10_refused_0 ?_
      rintro r w' ⟨rfl, rfl⟩
      refine ab_ifeq 36 dX10_circuit_31 (by decide) (fun h_13 => absurd h_13 (by decide)) (fun h_13 => ?_)
      refine ab_iconst (v := -1) dX10_circuit_34 (by decide) ?_
      exact ab_iret dX10_circuit_35 rfl (by decide) (Or.inr (Or.inr (Or.inr (Or.inr (Or.inl ⟨c_1, c_5, rfl, rfl⟩)))))
  · refine ab_iconst (v := 1) dX10_circuit_8 (by decide) ?_
    refine ab_callV (As := [.int 0, .int 1]) (rest := []) dX10_circuit_9 mv_X10_refused ml_X10_84 ⟨by decide, by decide, rfl, rfl, rfl⟩ (by decide) rfl rfl (Nat.le_of_ble_eq_true rfl) rfl c_X10_refused_0 ?_
    rintro r w' ⟨rfl, rfl⟩
    refine ab_ifeq 17 dX10_circuit_12 (by decide) (fun h_14 => absurd h_14 (by decide)) (fun h_14 => ?_)
    refine ab_iconst (v := -1) dX10_circuit_15 (by decide) ?_
    exact ab_iret dX10_circuit_16 rfl (by decide) (Or.inr (Or.inr (Or.inr (Or.inr (Or.inr (⟨c_2, rfl, rfl⟩))))))
theorem c_X10_force {f0_0 f10_0 f10_1 f10_2 f10_3 a1 a2 a3 : Int32} {x1 x2 x3 x7 x8 x9 x12 x13 x14 x15 x16 x17 x18 x19 x20 x21 x22 x23 x24 x25 x26 x27 x28 x29 x30 x31 x32 : ax_E} {r5 r6 : Nat → Int32} {f11_0 f11_1 f11_2 f11_3 f11_4 f11_5 f11_6 f11_7 f11_8 f11_9 f11_10 f11_11 f11_12 f11_13 f11_14 f11_15 : Int64} {wm : List ax_E} (h_c0 : r6 0 ≤ nI 4) (h_u : (Fo_u (Ps_n a2) (Ps_s (Bg r5 a1) (Ba r5 a1) a2) (Int32.toInt64 (Bb r5 a1)) (Int32.toInt64 (Bc r5 a1))).toInt ≠ -2 ^ 63) (h_v : (Fo_l (Ps_n a2) (Int32.toInt64 (Bb r5 a1)) (Int32.toInt64 (Bc r5 a1))).toInt ≠ -2 ^ 63) : Ct M_X10_force [.ref 0, .int a1, .int a2, .int a3] ([ob 8 [.int f0_0, .ref 1, .ref 4, .ref 7, .ref 10, .ref 11, .ref 12, .ref 18, .ref 25, .ref 29], x1, x2, x3, ob 2 [.ref 5, .ref 6], ia 56 r5, ia 4 r6, x7, x8, x9, ob 3 [.int f10_0, .int f10_1, .int f10_2, .int f10_3], ob 5 [.long f11_0, .long f11_1, .long f11_2, .long f11_3, .long f11_4, .long f11_5, .long f11_6, .long f11_7, .long f11_8, .long f11_9, .long f11_10, .long f11_11, .long f11_12, .long f11_13, .long f11_14, .long f11_15], x12, x13, x14, x15, x16, x17, x18, x19, x20, x21, x22, x23, x24, x25, x26, x27, x28, x29, x30, x31, x32], wm) (fun r w' => ((0 ≤ a1 ∧ a1 < r6 0) ∧ (0 ≤ a2 ∧ a2 < 40) ∧ (0 < (Ps_s (Bg r5 a1) (Ba r5 a1) a2) ∧ 0 ≤ (Ps_k (Bg r5 a1) (Ba r5 a1) (Bb r5 a1) (Bc r5 a1) a2)) ∧ r = some (.long (Rd (Fo_u (Ps_n a2) (Ps_s (Bg r5 a1) (Ba r5 a1) a2) (Int32.toInt64 (Bb r5 a1)) (Int32.toInt64 (Bc r5 a1))) (Fo_l (Ps_n a2) (Int32.toInt64 (Bb r5 a1)) (Int32.toInt64 (Bc r5 a1))) a3)) ∧ w' = ([ob 8 [.int 0, .ref 1, .ref 4, .ref 7, .ref 10, .ref 11, .ref 12, .ref 18, .ref 25, .ref 29], x1, x2, x3, ob 2 [.ref 5, .ref 6], ia 56 r5, ia 4 r6, x7, x8, x9, ob 3 [.int (Bg r5 a1), .int (Ba r5 a1), .int (Bb r5 a1), .int (Bc r5 a1)], ob 5 [.long (Ps_n a2), .long (Ps_d a2), .long (Ps_s (Bg r5 a1) (Ba r5 a1) a2), .long (Ps_k (Bg r5 a1) (Ba r5 a1) (Bb r5 a1) (Bc r5 a1) a2), .long (Int32.toInt64 (Bg r5 a1)), .long (Int32.toInt64 (Ba r5 a1)), .long (Int32.toInt64 (Bb r5 a1)), .long (Int32.toInt64 (Bc r5 a1)), .long (Ps_c a2), .long (Ps_e (Bg r5 a1) (Ba r5 a1) (Bb r5 a1) (Bc r5 a1) a2), .long (Ps_x (Bg r5 a1) (Ba r5 a1) a2), .long (Ps_y (Ba r5 a1) a2), .long f11_12, .long f11_13, .long f11_14, .long f11_15], x12, x13, x14, x15, x16, x17, x18, x19, x20, x21, x22, x23, x24, x25, x26, x27, x28, x29, x30, x31, x32], wm)) ∨ ((0 ≤ a1 ∧ a1 < r6 0) ∧ (0 ≤ a2 ∧ a2 < 40) ∧ (¬ (0 < (Ps_s (Bg r5 a1) (Ba r5 a1) a2) ∧ 0 ≤ (Ps_k (Bg r5 a1) (Ba r5 a1) (Bb r5 a1) (Bc r5 a1) a2))) ∧ r = some (.long (-9223372036854775808)) ∧ w' = ([ob 8 [.int 5, .ref 1, .ref 4, .ref 7, .ref 10, .ref 11, .ref 12, .ref 18, .ref 25, .ref 29], x1, x2, x3, ob 2 [.ref 5, .ref 6], ia 56 r5, ia 4 r6, x7, x8, x9, ob 3 [.int (Bg r5 a1), .int (Ba r5 a1), .int (Bb r5 a1), .int (Bc r5 a1)], ob 5 [.long (Ps_n a2), .long (Ps_d a2), .long (Ps_s (Bg r5 a1) (Ba r5 a1) a2), .long (Ps_k (Bg r5 a1) (Ba r5 a1) (Bb r5 a1) (Bc r5 a1) a2), .long (Int32.toInt64 (Bg r5 a1)), .long (Int32.toInt64 (Ba r5 a1)), .long (Int32.toInt64 (Bb r5 a1)), .long (Int32.toInt64 (Bc r5 a1)), .long (Ps_c a2), .long (Ps_e (Bg r5 a1) (Ba r5 a1) (Bb r5 a1) (Bc r5 a1) a2), .long (Ps_x (Bg r5 a1) (Ba r5 a1) a2), .long (Ps_y (Ba r5 a1) a2), .long f11_12, .long f11_13, .long f11_14, .long f11_15], x12, x13, x14, x15, x16, x17, x18, x19, x20, x21, x22, x23, x24, x25, x26, x27, x28, x29, x30, x31, x32], wm)) ∨ ((0 ≤ a1 ∧ a1 < r6 0) ∧ (¬ (0 ≤ a2 ∧ a2 < 40)) ∧ r = some (.long (-9223372036854775808)) ∧ w' = ([ob 8 [.int 1, .ref 1, .ref 4, .ref 7, .ref 10, .ref 11, .ref 12, .ref 18, .ref 25, .ref 29], x1, x2, x3, ob 2 [.ref 5, .ref 6], ia 56 r5, ia 4 r6, x7, x8, x9, ob 3 [.int f10_0, .int f10_1, .int f10_2, .int f10_3], ob 5 [.long f11_0, .long f11_1, .long f11_2, .long f11_3, .long f11_4, .long f11_5, .long f11_6, .long f11_7, .long f11_8, .long f11_9, .long f11_10, .long f11_11, .long f11_12, .long f11_13, .long f11_14, .long f11_15], x12, x13, x14, x15, x16, x17, x18, x19, x20, x21, x22, x23, x24, x25, x26, x27, x28, x29, x30, x31, x32], wm)) ∨ ((¬ (0 ≤ a1 ∧ a1 < r6 0)) ∧ r = some (.long (-9223372036854775808)) ∧ w' = ([ob 8 [.int 1, .ref 1, .ref 4, .ref 7, .ref 10, .ref 11, .ref 12, .ref 18, .ref 25, .ref 29], x1, x2, x3, ob 2 [.ref 5, .ref 6], ia 56 r5, ia 4 r6, x7, x8, x9, ob 3 [.int f10_0, .int f10_1, .int f10_2, .int f10_3], ob 5 [.long f11_0, .long f11_1, .long f11_2, .long f11_3, .long f11_4, .long f11_5, .long f11_6, .long f11_7, .long f11_8, .long f11_9, .long f11_10, .long f11_11, .long f11_12, .long f11_13, .long f11_14, .long f11_15], x12, x13, x14, x15, x16, x17, x18, x19, x20, x21, x22, x23, x24, x25, x26, x27, x28, x29, x30, x31, x32], wm))) := by
  refine ct_of ⟨by decide, rfl⟩ (Nat.le_of_ble_eq_true rfl) ?_
  refine ab_aload_n dX10_force_0 rfl ?_
  refine ab_aload_n dX10_force_1 rfl ?_
  refine ab_iload_n dX10_force_2 rfl ?_
  refine ab_callV (As := [.int a1]) (rest := [.ref 0]) dX10_force_3 mv_X10_hasLinkage ml_X10_133 ⟨by decide, by decide, rfl, rfl, rfl⟩ (by decide) rfl rfl (Nat.le_of_ble_eq_true rfl) rfl c_X10_hasLinkage ?_
  rintro r w' (⟨c_1, rfl, rfl⟩ | ⟨c_2, rfl, rfl⟩)
  · refine ab_ifeq 20 dX10_force_6 (by decide) (fun h_3 => absurd h_3 (by decide)) (fun h_3 => ?_)
    refine ab_iload_n dX10_force_9 rfl ?_
    refine ab_callS (As := [.int a2]) (rest := [.ref 0]) dX10_force_10 ms_X7_has ml_X10_114 ⟨by decide, by decide, rfl, rfl, rfl⟩ (by decide) rfl rfl (Nat.le_of_ble_eq_true rfl) c_X7_has ?_
    rintro r w' (⟨c_4, rfl, rfl⟩ | ⟨c_5, rfl, rfl⟩)
    · refine ab_ifeq 20 dX10_force_13 (by decide) (fun h_6 => absurd h_6 (by decide)) (fun h_6 => ?_)
      refine ab_iconst (v := 1) dX10_force_16 (by decide) ?_
      refine ab_goto 21 dX10_force_17 (by decide) ?_
      refine ab_iconst (v := 1) dX10_force_21 (by decide) ?_
      refine ab_callV (As := [.int 1, .int 1]) (rest := []) dX10_force_22 mv_X10_refused ml_X10_84 ⟨by decide, by decide, rfl, rfl, rfl⟩ (by decide) rfl rfl (Nat.le_of_ble_eq_true rfl) rfl c_X10_refused_1 ?_
      rintro r w' ⟨rfl, rfl⟩
      refine ab_ifeq 32 dX10_force_25 (by decide) (fun h_7 => ?_) (fun h_7 => absurd (by decide) h_7)
      refine ab_aload_n dX10_force_32 rfl ?_
      refine ab_aload_n dX10_force_33 rfl ?_
      refine ab_iload_n dX10_force_34 rfl ?_
      refine ab_iload_n dX10_force_35 rfl ?_
      refine ab_callV (As := [.int a1, .int a2]) (rest := [.ref 0]) dX10_force_36 mv_X10_positionAt ml_X10_166 ⟨by decide, by decide, rfl, rfl, rfl⟩ (by decide) rfl rfl (Nat.le_of_ble_eq_true rfl) rfl (c_X10_positionAt c_1 h_c0 c_4) ?_
      rintro r w' ⟨rfl, rfl⟩
      refine ab_callV (As := []) (rest := [.ref 0]) dX10_force_39 mv_X5_isLawful ml_X10_203 ⟨by decide, by decide, rfl, rfl, rfl⟩ (by decide) rfl rfl (Nat.le_of_ble_eq_true rfl) rfl c_X5_isLawful ?_
      rintro r w' (⟨c_8, rfl, rfl⟩ | ⟨c_9, rfl, rfl⟩)
      · refine ab_iconst (v := 5) dX10_force_42 (by decide) ?_
        refine ab_callV (As := [.int 1, .int 5]) (rest := []) dX10_force_43 mv_X10_refused ml_X10_84 ⟨by decide, by decide, rfl, rfl, rfl⟩ (by decide) rfl rfl (Nat.le_of_ble_eq_true rfl) rfl c_X10_refused_1 ?_
        rintro r w' ⟨rfl, rfl⟩
        refine ab_ifeq 53 dX10_force_46 (by decide) (fun h_10 => ?_) (fun h_10 => absurd (by decide) h_10)
        refine ab_aload_n dX10_force_53 rfl ?_
        refine ab_getf dX10_force_54 fl_X10_40 rfl rfl ?_
        refine ab_callV (As := []) (rest := []) dX10_force_57 mv_X5_forceUpper ml_X10_229 ⟨by decide, by decide, rfl, rfl, rfl⟩ (by decide) rfl rfl (Nat.le_of_ble_eq_true rfl) rfl c_X5_forceUpper ?_
        rintro r w' ⟨rfl, rfl⟩
        refine ab_aload_n dX10_force_60 rfl ?_
        refine ab_getf dX10_force_61 fl_X10_40 rfl rfl ?_
        refine ab_callV (As := []) (rest := [.long (Fo_u (Ps_n a2) (Ps_s (Bg r5 a1) (Ba r5 a1) a2) (Int32.toInt64 (Bb r5 a1)) (Int32.toInt64 (Bc r5 a1)))]) dX10_force_64 mv_X5_forceLower ml_X10_233 ⟨by decide, by decide, rfl, rfl, rfl⟩ (by decide) rfl rfl (Nat.le_of_ble_eq_true rfl) rfl c_X5_forceLower ?_
        rintro r w' ⟨rfl, rfl⟩
        refine ab_iload_n dX10_force_67 rfl ?_
        refine ab_callS (As := [.long (Fo_u (Ps_n a2) (Ps_s (Bg r5 a1) (Ba r5 a1) a2) (Int32.toInt64 (Bb r5 a1)) (Int32.toInt64 (Bc r5 a1))), .long (Fo_l (Ps_n a2) (Int32.toInt64 (Bb r5 a1)) (Int32.toInt64 (Bc r5 a1))), .int a3]) (rest := []) dX10_force_68 ms_X9_reduced ml_X10_188 ⟨by decide, by decide, rfl, rfl, rfl⟩ (by decide) rfl rfl (Nat.le_of_ble_eq_true rfl) (c_X9_reduced h_u h_v) ?_
        rintro r w' ⟨rfl, rfl⟩
        exact ab_lret dX10_force_71 rfl (by decide) (Or.inl ⟨c_1, c_4, c_8, rfl, rfl⟩)
      · refine ab_iconst (v := 5) dX10_force_42 (by decide) ?_
        refine ab_callV (As := [.int 0, .int 5]) (rest := []) dX10_force_43 mv_X10_refused ml_X10_84 ⟨by decide, by decide, rfl, rfl, rfl⟩ (by decide) rfl rfl (Nat.le_of_ble_eq_true rfl) rfl c_X10_refused_0 ?_
        rintro r w' ⟨rfl, rfl⟩
        refine ab_ifeq 53 dX10_force_46 (by decide) (fun h_11 => absurd h_11 (by decide)) (fun h_11 => ?_)
        refine ab_ldc2 dX10_force_49 kl_X10_194 ?_
        exact ab_lret dX10_force_52 rfl (by decide) (Or.inr (Or.inl ⟨c_1, c_4, c_9, rfl, rfl⟩))
    · refine ab_ifeq 20 dX10_force_13 (by decide) (fun h_12 => ?_) (fun h_12 => absurd (by decide) h_12)
      refine ab_iconst (v := 0) dX10_force_20 (by decide) ?_
      refine ab_iconst (v := 1) dX10_force_21 (by decide) ?_
      refine ab_callV (As := [.int 0, .int 1]) (rest := []) dX10_force_22 mv_X10_refused ml_X10_84 ⟨by decide, by decide, rfl, rfl, rfl⟩ (by decide) rfl rfl (Nat.le_of_ble_eq_true rfl) rfl c_X10_refused_0 ?_
      rintro r w' ⟨rfl, rfl⟩
      refine ab_ifeq 32 dX10_force_25 (by decide) (fun h_13 => absurd h_13 (by decide)) (fun h_13 => ?_)
      refine ab_ldc2 dX10_force_28 kl_X10_194 ?_
      exact ab_lret dX10_force_31 rfl (by decide) (Or.inr (Or.inr (Or.inl ⟨c_1, c_5, rfl, rfl⟩)))
  · refine ab_ifeq 20 dX10_force_6 (by decide) (fun h_14 => ?_) (fun h_14 => absurd (by decide) h_14)
    refine ab_iconst (v := 0) dX10_force_20 (by decide) ?_
    refine ab_iconst (v := 1) dX10_force_21 (by decide) ?_
    refine ab_callV (As := [.int 0, .int 1]) (rest := []) dX10_force_22 mv_X10_refused ml_X10_84 ⟨by decide, by decide, rfl, rfl, rfl⟩ (by decide) rfl rfl (Nat.le_of_ble_eq_true rfl) rfl c_X10_refused_0 ?_
    rintro r w' ⟨rfl, rfl⟩
    refine ab_ifeq 32 dX10_force_25 (by decide) (fun h_15 => absurd h_15 (by decide)) (fun h_15 => ?_)
    refine ab_ldc2 dX10_force_28 kl_X10_194 ?_
    exact ab_lret dX10_force_31 rfl (by decide) (Or.inr (Or.inr (Or.inr (⟨c_2, rfl, rfl⟩))))
theorem c_X10_fault {f0_0 f1_2 f1_3 f1_4 f1_5 f1_6 : Int32} {x2 x3 x4 x5 x6 x7 x8 x9 x10 x11 x12 x13 x14 x15 x16 x17 x18 x19 x20 x21 x22 x23 x24 x25 x26 x27 x28 x29 x30 x31 x32 : ax_E} {wm : List ax_E}  : Ct M_X10_fault [.ref 0] ([ob 8 [.int f0_0, .ref 1, .ref 4, .ref 7, .ref 10, .ref 11, .ref 12, .ref 18, .ref 25, .ref 29], ob 6 [.ref 2, .ref 3, .int f1_2, .int f1_3, .int f1_4, .int f1_5, .int f1_6], x2, x3, x4, x5, x6, x7, x8, x9, x10, x11, x12, x13, x14, x15, x16, x17, x18, x19, x20, x21, x22, x23, x24, x25, x26, x27, x28, x29, x30, x31, x32], wm) (fun r w' => r = some (.int f1_5) ∧ w' = ([ob 8 [.int f0_0, .ref 1, .ref 4, .ref 7, .ref 10, .ref 11, .ref 12, .ref 18, .ref 25, .ref 29], ob 6 [.ref 2, .ref 3, .int f1_2, .int f1_3, .int f1_4, .int f1_5, .int f1_6], x2, x3, x4, x5, x6, x7, x8, x9, x10, x11, x12, x13, x14, x15, x16, x17, x18, x19, x20, x21, x22, x23, x24, x25, x26, x27, x28, x29, x30, x31, x32], wm)) := by
  refine ct_of ⟨by decide, rfl⟩ (Nat.le_of_ble_eq_true rfl) ?_
  refine ab_aload_n dX10_fault_0 rfl ?_
  refine ab_getf dX10_fault_1 fl_X10_16 rfl rfl ?_
  refine ab_callV (As := []) (rest := []) dX10_fault_4 mv_X6_faultFound ml_X10_106 ⟨by decide, by decide, rfl, rfl, rfl⟩ (by decide) rfl rfl (Nat.le_of_ble_eq_true rfl) rfl c_X6_faultFound ?_
  rintro r w' ⟨rfl, rfl⟩
  exact ab_iret dX10_fault_7 rfl (by decide) (⟨rfl, rfl⟩)
theorem c_X10_where {f0_0 f1_2 f1_3 f1_4 f1_5 f1_6 : Int32} {x2 x3 x4 x5 x6 x7 x8 x9 x10 x11 x12 x13 x14 x15 x16 x17 x18 x19 x20 x21 x22 x23 x24 x25 x26 x27 x28 x29 x30 x31 x32 : ax_E} {wm : List ax_E}  : Ct M_X10_where [.ref 0] ([ob 8 [.int f0_0, .ref 1, .ref 4, .ref 7, .ref 10, .ref 11, .ref 12, .ref 18, .ref 25, .ref 29], ob 6 [.ref 2, .ref 3, .int f1_2, .int f1_3, .int f1_4, .int f1_5, .int f1_6], x2, x3, x4, x5, x6, x7, x8, x9, x10, x11, x12, x13, x14, x15, x16, x17, x18, x19, x20, x21, x22, x23, x24, x25, x26, x27, x28, x29, x30, x31, x32], wm) (fun r w' => ((¬ f0_0 = 4) ∧ r = some (.int (-1)) ∧ w' = ([ob 8 [.int f0_0, .ref 1, .ref 4, .ref 7, .ref 10, .ref 11, .ref 12, .ref 18, .ref 25, .ref 29], ob 6 [.ref 2, .ref 3, .int f1_2, .int f1_3, .int f1_4, .int f1_5, .int f1_6], x2, x3, x4, x5, x6, x7, x8, x9, x10, x11, x12, x13, x14, x15, x16, x17, x18, x19, x20, x21, x22, x23, x24, x25, x26, x27, x28, x29, x30, x31, x32], wm)) ∨ ((f0_0 = 4) ∧ r = some (.int f1_6) ∧ w' = ([ob 8 [.int f0_0, .ref 1, .ref 4, .ref 7, .ref 10, .ref 11, .ref 12, .ref 18, .ref 25, .ref 29], ob 6 [.ref 2, .ref 3, .int f1_2, .int f1_3, .int f1_4, .int f1_5, .int f1_6], x2, x3, x4, x5, x6, x7, x8, x9, x10, x11, x12, x13, x14, x15, x16, x17, x18, x19, x20, x21, x22, x23, x24, x25, x26, x27, x28, x29, x30, x31, x32], wm))) := by
  refine ct_of ⟨by decide, rfl⟩ (Nat.le_of_ble_eq_true rfl) ?_
  refine ab_aload_n dX10_where_0 rfl ?_
  refine ab_getf dX10_where_1 fl_X10_9 rfl rfl ?_
  refine ab_iconst (v := 4) dX10_where_4 (by decide) ?_
  refine ab_icmpne 18 dX10_where_5 (by decide) (fun h_1 => ?_) (fun h_1 => ?_)
  · refine ab_iconst (v := -1) dX10_where_18 (by decide) ?_
    exact ab_iret dX10_where_19 rfl (by decide) (Or.inl ⟨h_1, rfl, rfl⟩)
  · refine ab_aload_n dX10_where_8 rfl ?_
    refine ab_getf dX10_where_9 fl_X10_16 rfl rfl ?_
    refine ab_callV (As := []) (rest := []) dX10_where_12 mv_X6_faultPlace ml_X10_109 ⟨by decide, by decide, rfl, rfl, rfl⟩ (by decide) rfl rfl (Nat.le_of_ble_eq_true rfl) rfl c_X6_faultPlace ?_
    rintro r w' ⟨rfl, rfl⟩
    refine ab_goto 19 dX10_where_15 (by decide) ?_
    exact ab_iret dX10_where_19 rfl (by decide) (Or.inr (⟨h_1, rfl, rfl⟩))
theorem c_X10_angles {f0_0 : Int32} {x1 x2 x3 x4 x5 x6 x7 x8 x9 x10 x11 x12 x13 x14 x15 x16 x17 x18 x19 x20 x21 x22 x23 x24 x25 x26 x27 x28 x29 x30 x31 x32 : ax_E} {wm : List ax_E}  : Ct M_X10_angles [.ref 0] ([ob 8 [.int f0_0, .ref 1, .ref 4, .ref 7, .ref 10, .ref 11, .ref 12, .ref 18, .ref 25, .ref 29], x1, x2, x3, x4, x5, x6, x7, x8, x9, x10, x11, x12, x13, x14, x15, x16, x17, x18, x19, x20, x21, x22, x23, x24, x25, x26, x27, x28, x29, x30, x31, x32], wm) (fun r w' => r = some (.int 40) ∧ w' = ([ob 8 [.int f0_0, .ref 1, .ref 4, .ref 7, .ref 10, .ref 11, .ref 12, .ref 18, .ref 25, .ref 29], x1, x2, x3, x4, x5, x6, x7, x8, x9, x10, x11, x12, x13, x14, x15, x16, x17, x18, x19, x20, x21, x22, x23, x24, x25, x26, x27, x28, x29, x30, x31, x32], wm)) := by
  refine ct_of ⟨by decide, rfl⟩ (Nat.le_of_ble_eq_true rfl) ?_
  refine ab_bipush (v := 40) dX10_angles_0 (by decide) ?_
  exact ab_iret dX10_angles_2 rfl (by decide) (⟨rfl, rfl⟩)
theorem c_X10_trouble {f0_0 : Int32} {x1 x2 x3 x4 x5 x6 x7 x8 x9 x10 x11 x12 x13 x14 x15 x16 x17 x18 x19 x20 x21 x22 x23 x24 x25 x26 x27 x28 x29 x30 x31 x32 : ax_E} {wm : List ax_E}  : Ct M_X10_trouble [.ref 0] ([ob 8 [.int f0_0, .ref 1, .ref 4, .ref 7, .ref 10, .ref 11, .ref 12, .ref 18, .ref 25, .ref 29], x1, x2, x3, x4, x5, x6, x7, x8, x9, x10, x11, x12, x13, x14, x15, x16, x17, x18, x19, x20, x21, x22, x23, x24, x25, x26, x27, x28, x29, x30, x31, x32], wm) (fun r w' => r = some (.int f0_0) ∧ w' = ([ob 8 [.int f0_0, .ref 1, .ref 4, .ref 7, .ref 10, .ref 11, .ref 12, .ref 18, .ref 25, .ref 29], x1, x2, x3, x4, x5, x6, x7, x8, x9, x10, x11, x12, x13, x14, x15, x16, x17, x18, x19, x20, x21, x22, x23, x24, x25, x26, x27, x28, x29, x30, x31, x32], wm)) := by
  refine ct_of ⟨by decide, rfl⟩ (Nat.le_of_ble_eq_true rfl) ?_
  refine ab_aload_n dX10_trouble_0 rfl ?_
  refine ab_getf dX10_trouble_1 fl_X10_9 rfl rfl ?_
  exact ab_iret dX10_trouble_4 rfl (by decide) (⟨rfl, rfl⟩)
theorem c_X10_angle {f0_0 a1 a2 : Int32} {x1 x2 x3 x4 x5 x6 x7 x8 x9 x10 x11 x12 x13 x14 x15 x16 x17 x18 x19 x20 x21 x22 x23 x24 x25 x26 x27 x28 x29 x30 x31 x32 : ax_E} {wm : List ax_E}  : Ct M_X10_angle [.ref 0, .int a1, .int a2] ([ob 8 [.int f0_0, .ref 1, .ref 4, .ref 7, .ref 10, .ref 11, .ref 12, .ref 18, .ref 25, .ref 29], x1, x2, x3, x4, x5, x6, x7, x8, x9, x10, x11, x12, x13, x14, x15, x16, x17, x18, x19, x20, x21, x22, x23, x24, x25, x26, x27, x28, x29, x30, x31, x32], wm) (fun r w' => ((0 ≤ a1 ∧ a1 < 40) ∧ (0 ≤ a2 ∧ a2 < 2) ∧ (¬ a2 = 0) ∧ r = some (.int (ax_tab 1 (Int32.toNatClampNeg a1))) ∧ w' = ([ob 8 [.int 0, .ref 1, .ref 4, .ref 7, .ref 10, .ref 11, .ref 12, .ref 18, .ref 25, .ref 29], x1, x2, x3, x4, x5, x6, x7, x8, x9, x10, x11, x12, x13, x14, x15, x16, x17, x18, x19, x20, x21, x22, x23, x24, x25, x26, x27, x28, x29, x30, x31, x32], wm)) ∨ ((0 ≤ a1 ∧ a1 < 40) ∧ (0 ≤ a2 ∧ a2 < 2) ∧ (a2 = 0) ∧ r = some (.int (ax_tab 0 (Int32.toNatClampNeg a1))) ∧ w' = ([ob 8 [.int 0, .ref 1, .ref 4, .ref 7, .ref 10, .ref 11, .ref 12, .ref 18, .ref 25, .ref 29], x1, x2, x3, x4, x5, x6, x7, x8, x9, x10, x11, x12, x13, x14, x15, x16, x17, x18, x19, x20, x21, x22, x23, x24, x25, x26, x27, x28, x29, x30, x31, x32], wm)) ∨ ((0 ≤ a1 ∧ a1 < 40) ∧ (¬ (0 ≤ a2 ∧ a2 < 2)) ∧ r = some (.int (-1000000000)) ∧ w' = ([ob 8 [.int 1, .ref 1, .ref 4, .ref 7, .ref 10, .ref 11, .ref 12, .ref 18, .ref 25, .ref 29], x1, x2, x3, x4, x5, x6, x7, x8, x9, x10, x11, x12, x13, x14, x15, x16, x17, x18, x19, x20, x21, x22, x23, x24, x25, x26, x27, x28, x29, x30, x31, x32], wm)) ∨ ((¬ (0 ≤ a1 ∧ a1 < 40)) ∧ r = some (.int (-1000000000)) ∧ w' = ([ob 8 [.int 1, .ref 1, .ref 4, .ref 7, .ref 10, .ref 11, .ref 12, .ref 18, .ref 25, .ref 29], x1, x2, x3, x4, x5, x6, x7, x8, x9, x10, x11, x12, x13, x14, x15, x16, x17, x18, x19, x20, x21, x22, x23, x24, x25, x26, x27, x28, x29, x30, x31, x32], wm))) := by
  refine ct_of ⟨by decide, rfl⟩ (Nat.le_of_ble_eq_true rfl) ?_
  refine ab_aload_n dX10_angle_0 rfl ?_
  refine ab_iload_n dX10_angle_1 rfl ?_
  refine ab_callS (As := [.int a1]) (rest := [.ref 0]) dX10_angle_2 ms_X7_has ml_X10_114 ⟨by decide, by decide, rfl, rfl, rfl⟩ (by decide) rfl rfl (Nat.le_of_ble_eq_true rfl) c_X7_has ?_
  rintro r w' (⟨c_1, rfl, rfl⟩ | ⟨c_2, rfl, rfl⟩)
  · refine ab_ifeq 20 dX10_angle_5 (by decide) (fun h_3 => absurd h_3 (by decide)) (fun h_3 => ?_)
    refine ab_iload_n dX10_angle_8 rfl ?_
    refine ab_iconst (v := 2) dX10_angle_9 (by decide) ?_
    refine ab_callS (As := [.int a2, .int 2]) (rest := [.ref 0]) dX10_angle_10 ms_X10_isOf ml_X10_118 ⟨by decide, by decide, rfl, rfl, rfl⟩ (by decide) rfl rfl (Nat.le_of_ble_eq_true rfl) c_X10_isOf ?_
    rintro r w' (⟨c_4, rfl, rfl⟩ | ⟨c_5, rfl, rfl⟩)
    · refine ab_ifeq 20 dX10_angle_13 (by decide) (fun h_6 => absurd h_6 (by decide)) (fun h_6 => ?_)
      refine ab_iconst (v := 1) dX10_angle_16 (by decide) ?_
      refine ab_goto 21 dX10_angle_17 (by decide) ?_
      refine ab_iconst (v := 1) dX10_angle_21 (by decide) ?_
      refine ab_callV (As := [.int 1, .int 1]) (rest := []) dX10_angle_22 mv_X10_refused ml_X10_84 ⟨by decide, by decide, rfl, rfl, rfl⟩ (by decide) rfl rfl (Nat.le_of_ble_eq_true rfl) rfl c_X10_refused_1 ?_
      rintro r w' ⟨rfl, rfl⟩
      refine ab_ifeq 31 dX10_angle_25 (by decide) (fun h_7 => ?_) (fun h_7 => absurd (by decide) h_7)
      refine ab_iload_n dX10_angle_31 rfl ?_
      refine ab_ifne 42 dX10_angle_32 (by decide) (fun h_8 => ?_) (fun h_8 => ?_)
      · refine ab_iload_n dX10_angle_42 rfl ?_
        refine ab_callS (As := [.int a1]) (rest := []) dX10_angle_43 ms_X7_run ml_X10_126 ⟨by decide, by decide, rfl, rfl, rfl⟩ (by decide) rfl rfl (Nat.le_of_ble_eq_true rfl) c_X7_run ?_
        rintro r w' (⟨c_9, rfl, rfl⟩ | ⟨c_10, rfl, rfl⟩)
        · exact ab_iret dX10_angle_46 rfl (by decide) (Or.inl ⟨c_1, c_4, h_8, rfl, rfl⟩)
        · exact absurd c_1 c_10
      · refine ab_iload_n dX10_angle_35 rfl ?_
        refine ab_callS (As := [.int a1]) (rest := []) dX10_angle_36 ms_X7_rise ml_X10_123 ⟨by decide, by decide, rfl, rfl, rfl⟩ (by decide) rfl rfl (Nat.le_of_ble_eq_true rfl) c_X7_rise ?_
        rintro r w' (⟨c_11, rfl, rfl⟩ | ⟨c_12, rfl, rfl⟩)
        · refine ab_goto 46 dX10_angle_39 (by decide) ?_
          exact ab_iret dX10_angle_46 rfl (by decide) (Or.inr (Or.inl ⟨c_1, c_4, h_8, rfl, rfl⟩))
        · exact absurd c_1 c_12
    · refine ab_ifeq 20 dX10_angle_13 (by decide) (fun h_13 => ?_) (fun h_13 => absurd (by decide) h_13)
      refine ab_iconst (v := 0) dX10_angle_20 (by decide) ?_
      refine ab_iconst (v := 1) dX10_angle_21 (by decide) ?_
      refine ab_callV (As := [.int 0, .int 1]) (rest := []) dX10_angle_22 mv_X10_refused ml_X10_84 ⟨by decide, by decide, rfl, rfl, rfl⟩ (by decide) rfl rfl (Nat.le_of_ble_eq_true rfl) rfl c_X10_refused_0 ?_
      rintro r w' ⟨rfl, rfl⟩
      refine ab_ifeq 31 dX10_angle_25 (by decide) (fun h_14 => absurd h_14 (by decide)) (fun h_14 => ?_)
      refine ab_ldc dX10_angle_28 kc_X10_122 ?_
      exact ab_iret dX10_angle_30 rfl (by decide) (Or.inr (Or.inr (Or.inl ⟨c_1, c_5, rfl, rfl⟩)))
  · refine ab_ifeq 20 dX10_angle_5 (by decide) (fun h_15 => ?_) (fun h_15 => absurd (by decide) h_15)
    refine ab_iconst (v := 0) dX10_angle_20 (by decide) ?_
    refine ab_iconst (v := 1) dX10_angle_21 (by decide) ?_
    refine ab_callV (As := [.int 0, .int 1]) (rest := []) dX10_angle_22 mv_X10_refused ml_X10_84 ⟨by decide, by decide, rfl, rfl, rfl⟩ (by decide) rfl rfl (Nat.le_of_ble_eq_true rfl) rfl c_X10_refused_0 ?_
    rintro r w' ⟨rfl, rfl⟩
    refine ab_ifeq 31 dX10_angle_25 (by decide) (fun h_16 => absurd h_16 (by decide)) (fun h_16 => ?_)
    refine ab_ldc dX10_angle_28 kc_X10_122 ?_
    exact ab_iret dX10_angle_30 rfl (by decide) (Or.inr (Or.inr (Or.inr (⟨c_2, rfl, rfl⟩))))
theorem c_X2_count_4_s {x0 x1 x2 x3 x5 x7 x8 x9 x10 x11 x12 x13 x14 x15 x16 x17 x18 x19 x20 x21 x22 x23 x24 x25 x26 x27 x28 x29 x30 x31 x32 : ax_E} {r6 : Nat → Int32} {wm : List ax_E} {a1 : Int32} {j : Nat} (h_j : ax_ix a1 4 j) (h_k : 0 ≤ a1 ∧ a1 < 4) : Ct M_X2_count [.ref 4, .int a1] ([x0, x1, x2, x3, ob 2 [.ref 5, .ref 6], x5, ia 4 r6, x7, x8, x9, x10, x11, x12, x13, x14, x15, x16, x17, x18, x19, x20, x21, x22, x23, x24, x25, x26, x27, x28, x29, x30, x31, x32], wm) (fun r w' => r = some (.int (r6 j)) ∧ w' = ([x0, x1, x2, x3, ob 2 [.ref 5, .ref 6], x5, ia 4 r6, x7, x8, x9, x10, x11, x12, x13, x14, x15, x16, x17, x18, x19, x20, x21, x22, x23, x24, x25, x26, x27, x28, x29, x30, x31, x32], wm)) := by
  refine ct_of ⟨by decide, rfl⟩ (Nat.le_of_ble_eq_true rfl) ?_
  refine ab_iload_n dX2_count_0 rfl ?_
  refine ab_iflt 18 dX2_count_1 (by decide) (fun h_1 => absurd h_k.1 (Int32.not_le.mpr h_1)) (fun h_1 => ?_)
  refine ab_iload_n dX2_count_4 rfl ?_
  refine ab_iconst (v := 4) dX2_count_5 (by decide) ?_
  refine ab_icmpge 18 dX2_count_6 (by decide) (fun h_2 => absurd h_k.2 (Int32.not_lt.mpr h_2)) (fun h_2 => ?_)
  refine ab_aload_n dX2_count_9 rfl ?_
  refine ab_getf dX2_count_10 fl_X2_15 rfl rfl ?_
  refine ab_iload_n dX2_count_13 rfl ?_
  refine ab_iald (j := j) dX2_count_14 rfl h_j ?_
  refine ab_goto 19 dX2_count_15 (by decide) ?_
  exact ab_iret dX2_count_19 rfl (by decide) (⟨rfl, rfl⟩)
theorem c_X10_size {f0_0 f1_2 f1_3 f1_4 f1_5 f1_6 f29_3 f29_4 a1 : Int32} {x2 x3 x5 x7 x8 x9 x10 x11 x12 x13 x14 x15 x16 x17 x18 x19 x20 x21 x22 x23 x24 x25 x26 x27 x28 x30 x31 x32 : ax_E} {r6 : Nat → Int32} {wm : List ax_E}  : Ct M_X10_size [.ref 0, .int a1] ([ob 8 [.int f0_0, .ref 1, .ref 4, .ref 7, .ref 10, .ref 11, .ref 12, .ref 18, .ref 25, .ref 29], ob 6 [.ref 2, .ref 3, .int f1_2, .int f1_3, .int f1_4, .int f1_5, .int f1_6], x2, x3, ob 2 [.ref 5, .ref 6], x5, ia 4 r6, x7, x8, x9, x10, x11, x12, x13, x14, x15, x16, x17, x18, x19, x20, x21, x22, x23, x24, x25, x26, x27, x28, ob 0 [.ref 30, .ref 31, .ref 32, .int f29_3, .int f29_4], x30, x31, x32], wm) (fun r w' => ((0 ≤ a1 ∧ a1 < 4) ∧ r = some (.int (r6 (Int32.toNatClampNeg a1))) ∧ w' = ([ob 8 [.int f0_0, .ref 1, .ref 4, .ref 7, .ref 10, .ref 11, .ref 12, .ref 18, .ref 25, .ref 29], ob 6 [.ref 2, .ref 3, .int f1_2, .int f1_3, .int f1_4, .int f1_5, .int f1_6], x2, x3, ob 2 [.ref 5, .ref 6], x5, ia 4 r6, x7, x8, x9, x10, x11, x12, x13, x14, x15, x16, x17, x18, x19, x20, x21, x22, x23, x24, x25, x26, x27, x28, ob 0 [.ref 30, .ref 31, .ref 32, .int f29_3, .int f29_4], x30, x31, x32], wm)) ∨ ((¬ (0 ≤ a1 ∧ a1 < 4)) ∧ (¬ a1 = 4) ∧ (¬ a1 = 5) ∧ r = some (.int (-1)) ∧ w' = ([ob 8 [.int f0_0, .ref 1, .ref 4, .ref 7, .ref 10, .ref 11, .ref 12, .ref 18, .ref 25, .ref 29], ob 6 [.ref 2, .ref 3, .int f1_2, .int f1_3, .int f1_4, .int f1_5, .int f1_6], x2, x3, ob 2 [.ref 5, .ref 6], x5, ia 4 r6, x7, x8, x9, x10, x11, x12, x13, x14, x15, x16, x17, x18, x19, x20, x21, x22, x23, x24, x25, x26, x27, x28, ob 0 [.ref 30, .ref 31, .ref 32, .int f29_3, .int f29_4], x30, x31, x32], wm)) ∨ ((¬ (0 ≤ a1 ∧ a1 < 4)) ∧ (¬ a1 = 4) ∧ (a1 = 5) ∧ r = some (.int f1_2) ∧ w' = ([ob 8 [.int f0_0, .ref 1, .ref 4, .ref 7, .ref 10, .ref 11, .ref 12, .ref 18, .ref 25, .ref 29], ob 6 [.ref 2, .ref 3, .int f1_2, .int f1_3, .int f1_4, .int f1_5, .int f1_6], x2, x3, ob 2 [.ref 5, .ref 6], x5, ia 4 r6, x7, x8, x9, x10, x11, x12, x13, x14, x15, x16, x17, x18, x19, x20, x21, x22, x23, x24, x25, x26, x27, x28, ob 0 [.ref 30, .ref 31, .ref 32, .int f29_3, .int f29_4], x30, x31, x32], wm)) ∨ ((¬ (0 ≤ a1 ∧ a1 < 4)) ∧ (a1 = 4) ∧ r = some (.int f29_4) ∧ w' = ([ob 8 [.int f0_0, .ref 1, .ref 4, .ref 7, .ref 10, .ref 11, .ref 12, .ref 18, .ref 25, .ref 29], ob 6 [.ref 2, .ref 3, .int f1_2, .int f1_3, .int f1_4, .int f1_5, .int f1_6], x2, x3, ob 2 [.ref 5, .ref 6], x5, ia 4 r6, x7, x8, x9, x10, x11, x12, x13, x14, x15, x16, x17, x18, x19, x20, x21, x22, x23, x24, x25, x26, x27, x28, ob 0 [.ref 30, .ref 31, .ref 32, .int f29_3, .int f29_4], x30, x31, x32], wm))) := by
  refine ct_of ⟨by decide, rfl⟩ (Nat.le_of_ble_eq_true rfl) ?_
  refine ab_iload_n dX10_size_0 rfl ?_
  refine ab_iconst (v := 4) dX10_size_1 (by decide) ?_
  refine ab_callS (As := [.int a1, .int 4]) (rest := []) dX10_size_2 ms_X10_isOf ml_X10_118 ⟨by decide, by decide, rfl, rfl, rfl⟩ (by decide) rfl rfl (Nat.le_of_ble_eq_true rfl) c_X10_isOf ?_
  rintro r w' (⟨c_1, rfl, rfl⟩ | ⟨c_2, rfl, rfl⟩)
  · refine ab_ifeq 17 dX10_size_5 (by decide) (fun h_3 => absurd h_3 (by decide)) (fun h_3 => ?_)
    refine ab_aload_n dX10_size_8 rfl ?_
    refine ab_getf dX10_size_9 fl_X10_23 rfl rfl ?_
    refine ab_iload_n dX10_size_12 rfl ?_
    refine ab_callV (As := [.int a1]) (rest := []) dX10_size_13 mv_X2_count ml_X10_102 ⟨by decide, by decide, rfl, rfl, rfl⟩ (by decide) rfl rfl (Nat.le_of_ble_eq_true rfl) rfl (c_X2_count_4_s (j := (Int32.toNatClampNeg a1)) (ix_r c_1 (by decide)) c_1) ?_
    rintro r w' ⟨rfl, rfl⟩
    exact ab_iret dX10_size_16 rfl (by decide) (Or.inl ⟨c_1, rfl, rfl⟩)
  · refine ab_ifeq 17 dX10_size_5 (by decide) (fun h_4 => ?_) (fun h_4 => absurd (by decide) h_4)
    refine ab_iload_n dX10_size_17 rfl ?_
    refine ab_iconst (v := 4) dX10_size_18 (by decide) ?_
    refine ab_icmpne 30 dX10_size_19 (by decide) (fun h_5 => ?_) (fun h_5 => ?_)
    · refine ab_iload_n dX10_size_30 rfl ?_
      refine ab_iconst (v := 5) dX10_size_31 (by decide) ?_
      refine ab_icmpne 45 dX10_size_32 (by decide) (fun h_6 => ?_) (fun h_6 => ?_)
      · refine ab_iconst (v := -1) dX10_size_45 (by decide) ?_
        exact ab_iret dX10_size_46 rfl (by decide) (Or.inr (Or.inl ⟨c_2, h_5, h_6, rfl, rfl⟩))
      · refine ab_aload_n dX10_size_35 rfl ?_
        refine ab_getf dX10_size_36 fl_X10_16 rfl rfl ?_
        refine ab_callV (As := []) (rest := []) dX10_size_39 mv_X6_length ml_X10_80 ⟨by decide, by decide, rfl, rfl, rfl⟩ (by decide) rfl rfl (Nat.le_of_ble_eq_true rfl) rfl c_X6_length ?_
        rintro r w' ⟨rfl, rfl⟩
        refine ab_goto 46 dX10_size_42 (by decide) ?_
        exact ab_iret dX10_size_46 rfl (by decide) (Or.inr (Or.inr (Or.inl ⟨c_2, h_5, h_6, rfl, rfl⟩)))
    · refine ab_aload_n dX10_size_22 rfl ?_
      refine ab_getf dX10_size_23 fl_X10_68 rfl rfl ?_
      refine ab_callV (As := []) (rest := []) dX10_size_26 mv_X0_count ml_X10_374 ⟨by decide, by decide, rfl, rfl, rfl⟩ (by decide) rfl rfl (Nat.le_of_ble_eq_true rfl) rfl c_X0_count ?_
      rintro r w' ⟨rfl, rfl⟩
      exact ab_iret dX10_size_29 rfl (by decide) (Or.inr (Or.inr (Or.inr (⟨c_2, h_5, rfl, rfl⟩))))
theorem c_X10_walk {f0_0 f25_3 f25_4 f25_5 f25_6 f25_7 a1 : Int32} {x1 x2 x3 x4 x5 x6 x7 x8 x9 x10 x11 x12 x13 x14 x15 x16 x17 x18 x19 x20 x21 x22 x23 x24 x26 x27 x28 x29 x30 x31 x32 : ax_E} {wm : List ax_E}  : Ct M_X10_walk [.ref 0, .int a1] ([ob 8 [.int f0_0, .ref 1, .ref 4, .ref 7, .ref 10, .ref 11, .ref 12, .ref 18, .ref 25, .ref 29], x1, x2, x3, x4, x5, x6, x7, x8, x9, x10, x11, x12, x13, x14, x15, x16, x17, x18, x19, x20, x21, x22, x23, x24, ob 7 [.ref 26, .ref 27, .ref 28, .int f25_3, .int f25_4, .int f25_5, .int f25_6, .int f25_7], x26, x27, x28, x29, x30, x31, x32], wm) (fun r w' => ((0 ≤ a1 ∧ a1 < 4) ∧ (¬ f25_4 = -1) ∧ (a1 = 0) ∧ r = some (.int f25_4) ∧ w' = ([ob 8 [.int 0, .ref 1, .ref 4, .ref 7, .ref 10, .ref 11, .ref 12, .ref 18, .ref 25, .ref 29], x1, x2, x3, x4, x5, x6, x7, x8, x9, x10, x11, x12, x13, x14, x15, x16, x17, x18, x19, x20, x21, x22, x23, x24, ob 7 [.ref 26, .ref 27, .ref 28, .int f25_3, .int f25_4, .int f25_5, .int f25_6, .int f25_7], x26, x27, x28, x29, x30, x31, x32], wm)) ∨ ((0 ≤ a1 ∧ a1 < 4) ∧ (¬ f25_4 = -1) ∧ (a1 = 1) ∧ r = some (.int f25_5) ∧ w' = ([ob 8 [.int 0, .ref 1, .ref 4, .ref 7, .ref 10, .ref 11, .ref 12, .ref 18, .ref 25, .ref 29], x1, x2, x3, x4, x5, x6, x7, x8, x9, x10, x11, x12, x13, x14, x15, x16, x17, x18, x19, x20, x21, x22, x23, x24, ob 7 [.ref 26, .ref 27, .ref 28, .int f25_3, .int f25_4, .int f25_5, .int f25_6, .int f25_7], x26, x27, x28, x29, x30, x31, x32], wm)) ∨ ((0 ≤ a1 ∧ a1 < 4) ∧ (¬ f25_4 = -1) ∧ (a1 = 2) ∧ r = some (.int f25_6) ∧ w' = ([ob 8 [.int 0, .ref 1, .ref 4, .ref 7, .ref 10, .ref 11, .ref 12, .ref 18, .ref 25, .ref 29], x1, x2, x3, x4, x5, x6, x7, x8, x9, x10, x11, x12, x13, x14, x15, x16, x17, x18, x19, x20, x21, x22, x23, x24, ob 7 [.ref 26, .ref 27, .ref 28, .int f25_3, .int f25_4, .int f25_5, .int f25_6, .int f25_7], x26, x27, x28, x29, x30, x31, x32], wm)) ∨ ((0 ≤ a1 ∧ a1 < 4) ∧ (¬ f25_4 = -1) ∧ (¬ a1 = 0 ∧ ¬ a1 = 1 ∧ ¬ a1 = 2) ∧ r = some (.int f25_7) ∧ w' = ([ob 8 [.int 0, .ref 1, .ref 4, .ref 7, .ref 10, .ref 11, .ref 12, .ref 18, .ref 25, .ref 29], x1, x2, x3, x4, x5, x6, x7, x8, x9, x10, x11, x12, x13, x14, x15, x16, x17, x18, x19, x20, x21, x22, x23, x24, ob 7 [.ref 26, .ref 27, .ref 28, .int f25_3, .int f25_4, .int f25_5, .int f25_6, .int f25_7], x26, x27, x28, x29, x30, x31, x32], wm)) ∨ ((0 ≤ a1 ∧ a1 < 4) ∧ (¬ (¬ f25_4 = -1)) ∧ r = some (.int (-1)) ∧ w' = ([ob 8 [.int 5, .ref 1, .ref 4, .ref 7, .ref 10, .ref 11, .ref 12, .ref 18, .ref 25, .ref 29], x1, x2, x3, x4, x5, x6, x7, x8, x9, x10, x11, x12, x13, x14, x15, x16, x17, x18, x19, x20, x21, x22, x23, x24, ob 7 [.ref 26, .ref 27, .ref 28, .int f25_3, .int f25_4, .int f25_5, .int f25_6, .int f25_7], x26, x27, x28, x29, x30, x31, x32], wm)) ∨ ((¬ (0 ≤ a1 ∧ a1 < 4)) ∧ r = some (.int (-1)) ∧ w' = ([ob 8 [.int 1, .ref 1, .ref 4, .ref 7, .ref 10, .ref 11, .ref 12, .ref 18, .ref 25, .ref 29], x1, x2, x3, x4, x5, x6, x7, x8, x9, x10, x11, x12, x13, x14, x15, x16, x17, x18, x19, x20, x21, x22, x23, x24, ob 7 [.ref 26, .ref 27, .ref 28, .int f25_3, .int f25_4, .int f25_5, .int f25_6, .int f25_7], x26, x27, x28, x29, x30, x31, x32], wm))) := by
  refine ct_of ⟨by decide, rfl⟩ (Nat.le_of_ble_eq_true rfl) ?_
  refine ab_aload_n dX10_walk_0 rfl ?_
  refine ab_iload_n dX10_walk_1 rfl ?_
  refine ab_iconst (v := 4) dX10_walk_2 (by decide) ?_
  refine ab_callS (As := [.int a1, .int 4]) (rest := [.ref 0]) dX10_walk_3 ms_X10_isOf ml_X10_118 ⟨by decide, by decide, rfl, rfl, rfl⟩ (by decide) rfl rfl (Nat.le_of_ble_eq_true rfl) c_X10_isOf ?_
  rintro r w' (⟨c_1, rfl, rfl⟩ | ⟨c_2, rfl, rfl⟩)
  · refine ab_iconst (v := 1) dX10_walk_6 (by decide) ?_
    refine ab_callV (As := [.int 1, .int 1]) (rest := []) dX10_walk_7 mv_X10_refused ml_X10_84 ⟨by decide, by decide, rfl, rfl, rfl⟩ (by decide) rfl rfl (Nat.le_of_ble_eq_true rfl) rfl c_X10_refused_1 ?_
    rintro r w' ⟨rfl, rfl⟩
    refine ab_ifeq 15 dX10_walk_10 (by decide) (fun h_3 => ?_) (fun h_3 => absurd (by decide) h_3)
    refine ab_aload_n dX10_walk_15 rfl ?_
    refine ab_aload_n dX10_walk_16 rfl ?_
    refine ab_getf dX10_walk_17 fl_X10_61 rfl rfl ?_
    refine ab_callV (As := []) (rest := [.ref 0]) dX10_walk_20 mv_X8_isOn ml_X10_348 ⟨by decide, by decide, rfl, rfl, rfl⟩ (by decide) rfl rfl (Nat.le_of_ble_eq_true rfl) rfl c_X8_isOn ?_
    rintro r w' (⟨c_4, rfl, rfl⟩ | ⟨c_5, rfl, rfl⟩)
    · refine ab_iconst (v := 5) dX10_walk_23 (by decide) ?_
      refine ab_callV (As := [.int 1, .int 5]) (rest := []) dX10_walk_24 mv_X10_refused ml_X10_84 ⟨by decide, by decide, rfl, rfl, rfl⟩ (by decide) rfl rfl (Nat.le_of_ble_eq_true rfl) rfl c_X10_refused_1 ?_
      rintro r w' ⟨rfl, rfl⟩
      refine ab_ifeq 32 dX10_walk_27 (by decide) (fun h_6 => ?_) (fun h_6 => absurd (by decide) h_6)
      refine ab_aload_n dX10_walk_32 rfl ?_
      refine ab_getf dX10_walk_33 fl_X10_61 rfl rfl ?_
      refine ab_iload_n dX10_walk_36 rfl ?_
      refine ab_callV (As := [.int a1]) (rest := []) dX10_walk_37 mv_X8_told ml_X10_351 ⟨by decide, by decide, rfl, rfl, rfl⟩ (by decide) rfl rfl (Nat.le_of_ble_eq_true rfl) rfl c_X8_told ?_
      rintro r w' (⟨c_7, rfl, rfl⟩ | ⟨c_8, rfl, rfl⟩ | ⟨c_9, rfl, rfl⟩ | ⟨c_10, rfl, rfl⟩)
      · exact ab_iret dX10_walk_40 rfl (by decide) (Or.inl ⟨c_1, c_4, c_7, rfl, rfl⟩)
      · exact ab_iret dX10_walk_40 rfl (by decide) (Or.inr (Or.inl ⟨c_1, c_4, c_8, rfl, rfl⟩))
      · exact ab_iret dX10_walk_40 rfl (by decide) (Or.inr (Or.inr (Or.inl ⟨c_1, c_4, c_9, rfl, rfl⟩)))
      · exact ab_iret dX10_walk_40 rfl (by decide) (Or.inr (Or.inr (Or.inr (Or.inl ⟨c_1, c_4, c_10, rfl, rfl⟩))))
    · refine ab_iconst (v := 5) dX10_walk_23 (by decide) ?_
      refine ab_callV (As := [.int 0, .int 5]) (rest := []) dX10_walk_24 mv_X10_refused ml_X10_84 ⟨by decide, by decide, rfl, rfl, rfl⟩ (by decide) rfl rfl (Nat.le_of_ble_eq_true rfl) rfl c_X10_refused_0 ?_
      rintro r w' ⟨rfl, rfl⟩
      refine ab_ifeq 32 dX10_walk_27 (by decide) (fun h_11 => absurd h_11 (by decide)) (fun h_11 => ?_)
      refine ab_iconst (v := -1) dX10_walk_30 (by decide) ?_
      exact ab_iret dX10_walk_31 rfl (by decide) (Or.inr (Or.inr (Or.inr (Or.inr (Or.inl ⟨c_1, c_5, rfl, rfl⟩)))))
  · refine ab_iconst (v := 1) dX10_walk_6 (by decide) ?_
    refine ab_callV (As := [.int 0, .int 1]) (rest := []) dX10_walk_7 mv_X10_refused ml_X10_84 ⟨by decide, by decide, rfl, rfl, rfl⟩ (by decide) rfl rfl (Nat.le_of_ble_eq_true rfl) rfl c_X10_refused_0 ?_
    rintro r w' ⟨rfl, rfl⟩
    refine ab_ifeq 15 dX10_walk_10 (by decide) (fun h_12 => absurd h_12 (by decide)) (fun h_12 => ?_)
    refine ab_iconst (v := -1) dX10_walk_13 (by decide) ?_
    exact ab_iret dX10_walk_14 rfl (by decide) (Or.inr (Or.inr (Or.inr (Or.inr (Or.inr (⟨c_2, rfl, rfl⟩))))))
