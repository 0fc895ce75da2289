theorem c_X2_count_4_0 {x0 x1 x2 x3 x5 x7 x8 x9 x10 x11 x12 x13 x14 x15 x16 x17 x18 x19 x20 x21 x22 x23 x24 x25 x26 x27 x28 x29 x30 x31 x32 : ax_E} {r6 : Nat → Int32} {wm : List ax_E}  : Ct M_X2_count [.ref 4, .int 0] ([x0, x1, x2, x3, ob 2 [.ref 5, .ref 6], x5, ia 4 r6, x7, x8, x9, x10, x11, x12, x13, x14, x15, x16, x17, x18, x19, x20, x21, x22, x23, x24, x25, x26, x27, x28, x29, x30, x31, x32], wm) (fun r w' => r = some (.int (r6 0)) ∧ w' = ([x0, x1, x2, x3, ob 2 [.ref 5, .ref 6], x5, ia 4 r6, x7, x8, x9, x10, x11, x12, x13, x14, x15, x16, x17, x18, x19, x20, x21, x22, x23, x24, x25, x26, x27, x28, x29, x30, x31, x32], wm)) := by
  refine ct_of ⟨by decide, rfl⟩ (Nat.le_of_ble_eq_true rfl) ?_
  refine ab_iload_n dX2_count_0 rfl ?_
  refine ab_iflt 18 dX2_count_1 (by decide) (fun h_1 => absurd h_1 (by decide)) (fun h_1 => ?_)
  refine ab_iload_n dX2_count_4 rfl ?_
  refine ab_iconst (v := 4) dX2_count_5 (by decide) ?_
  refine ab_icmpge 18 dX2_count_6 (by decide) (fun h_2 => absurd h_2 (by decide)) (fun h_2 => ?_)
  refine ab_aload_n dX2_count_9 rfl ?_
  refine ab_getf dX2_count_10 fl_X2_15 rfl rfl ?_
  refine ab_iload_n dX2_count_13 rfl ?_
  refine ab_iald (j := 0) dX2_count_14 rfl (ix_c (by decide)) ?_
  refine ab_goto 19 dX2_count_15 (by decide) ?_
  exact ab_iret dX2_count_19 rfl (by decide) (⟨rfl, rfl⟩)
theorem c_X2_count_4_1 {x0 x1 x2 x3 x5 x7 x8 x9 x10 x11 x12 x13 x14 x15 x16 x17 x18 x19 x20 x21 x22 x23 x24 x25 x26 x27 x28 x29 x30 x31 x32 : ax_E} {r6 : Nat → Int32} {wm : List ax_E}  : Ct M_X2_count [.ref 4, .int 1] ([x0, x1, x2, x3, ob 2 [.ref 5, .ref 6], x5, ia 4 r6, x7, x8, x9, x10, x11, x12, x13, x14, x15, x16, x17, x18, x19, x20, x21, x22, x23, x24, x25, x26, x27, x28, x29, x30, x31, x32], wm) (fun r w' => r = some (.int (r6 1)) ∧ w' = ([x0, x1, x2, x3, ob 2 [.ref 5, .ref 6], x5, ia 4 r6, x7, x8, x9, x10, x11, x12, x13, x14, x15, x16, x17, x18, x19, x20, x21, x22, x23, x24, x25, x26, x27, x28, x29, x30, x31, x32], wm)) := by
  refine ct_of ⟨by decide, rfl⟩ (Nat.le_of_ble_eq_true rfl) ?_
  refine ab_iload_n dX2_count_0 rfl ?_
  refine ab_iflt 18 dX2_count_1 (by decide) (fun h_1 => absurd h_1 (by decide)) (fun h_1 => ?_)
  refine ab_iload_n dX2_count_4 rfl ?_
  refine ab_iconst (v := 4) dX2_count_5 (by decide) ?_
  refine ab_icmpge 18 dX2_count_6 (by decide) (fun h_2 => absurd h_2 (by decide)) (fun h_2 => ?_)
  refine ab_aload_n dX2_count_9 rfl ?_
  refine ab_getf dX2_count_10 fl_X2_15 rfl rfl ?_
  refine ab_iload_n dX2_count_13 rfl ?_
  refine ab_iald (j := 1) dX2_count_14 rfl (ix_c (by decide)) ?_
  refine ab_goto 19 dX2_count_15 (by decide) ?_
  exact ab_iret dX2_count_19 rfl (by decide) (⟨rfl, rfl⟩)
theorem c_X2_count_4_2 {x0 x1 x2 x3 x5 x7 x8 x9 x10 x11 x12 x13 x14 x15 x16 x17 x18 x19 x20 x21 x22 x23 x24 x25 x26 x27 x28 x29 x30 x31 x32 : ax_E} {r6 : Nat → Int32} {wm : List ax_E}  : Ct M_X2_count [.ref 4, .int 2] ([x0, x1, x2, x3, ob 2 [.ref 5, .ref 6], x5, ia 4 r6, x7, x8, x9, x10, x11, x12, x13, x14, x15, x16, x17, x18, x19, x20, x21, x22, x23, x24, x25, x26, x27, x28, x29, x30, x31, x32], wm) (fun r w' => r = some (.int (r6 2)) ∧ w' = ([x0, x1, x2, x3, ob 2 [.ref 5, .ref 6], x5, ia 4 r6, x7, x8, x9, x10, x11, x12, x13, x14, x15, x16, x17, x18, x19, x20, x21, x22, x23, x24, x25, x26, x27, x28, x29, x30, x31, x32], wm)) := by
  refine ct_of ⟨by decide, rfl⟩ (Nat.le_of_ble_eq_true rfl) ?_
  refine ab_iload_n dX2_count_0 rfl ?_
  refine ab_iflt 18 dX2_count_1 (by decide) (fun h_1 => absurd h_1 (by decide)) (fun h_1 => ?_)
  refine ab_iload_n dX2_count_4 rfl ?_
  refine ab_iconst (v := 4) dX2_count_5 (by decide) ?_
  refine ab_icmpge 18 dX2_count_6 (by decide) (fun h_2 => absurd h_2 (by decide)) (fun h_2 => ?_)
  refine ab_aload_n dX2_count_9 rfl ?_
  refine ab_getf dX2_count_10 fl_X2_15 rfl rfl ?_
  refine ab_iload_n dX2_count_13 rfl ?_
  refine ab_iald (j := 2) dX2_count_14 rfl (ix_c (by decide)) ?_
  refine ab_goto 19 dX2_count_15 (by decide) ?_
  exact ab_iret dX2_count_19 rfl (by decide) (⟨rfl, rfl⟩)
theorem c_X2_count_4_3 {x0 x1 x2 x3 x5 x7 x8 x9 x10 x11 x12 x13 x14 x15 x16 x17 x18 x19 x20 x21 x22 x23 x24 x25 x26 x27 x28 x29 x30 x31 x32 : ax_E} {r6 : Nat → Int32} {wm : List ax_E}  : Ct M_X2_count [.ref 4, .int 3] ([x0, x1, x2, x3, ob 2 [.ref 5, .ref 6], x5, ia 4 r6, x7, x8, x9, x10, x11, x12, x13, x14, x15, x16, x17, x18, x19, x20, x21, x22, x23, x24, x25, x26, x27, x28, x29, x30, x31, x32], wm) (fun r w' => r = some (.int (r6 3)) ∧ w' = ([x0, x1, x2, x3, ob 2 [.ref 5, .ref 6], x5, ia 4 r6, x7, x8, x9, x10, x11, x12, x13, x14, x15, x16, x17, x18, x19, x20, x21, x22, x23, x24, x25, x26, x27, x28, x29, x30, x31, x32], wm)) := by
  refine ct_of ⟨by decide, rfl⟩ (Nat.le_of_ble_eq_true rfl) ?_
  refine ab_iload_n dX2_count_0 rfl ?_
  refine ab_iflt 18 dX2_count_1 (by decide) (fun h_1 => absurd h_1 (by decide)) (fun h_1 => ?_)
  refine ab_iload_n dX2_count_4 rfl ?_
  refine ab_iconst (v := 4) dX2_count_5 (by decide) ?_
  refine ab_icmpge 18 dX2_count_6 (by decide) (fun h_2 => absurd h_2 (by decide)) (fun h_2 => ?_)
  refine ab_aload_n dX2_count_9 rfl ?_
  refine ab_getf dX2_count_10 fl_X2_15 rfl rfl ?_
  refine ab_iload_n dX2_count_13 rfl ?_
  refine ab_iald (j := 3) dX2_count_14 rfl (ix_c (by decide)) ?_
  refine ab_goto 19 dX2_count_15 (by decide) ?_
  exact ab_iret dX2_count_19 rfl (by decide) (⟨rfl, rfl⟩)
theorem c_X2_count_7_0 {x0 x1 x2 x3 x4 x5 x6 x8 x10 x11 x12 x13 x14 x15 x16 x17 x18 x19 x20 x21 x22 x23 x24 x25 x26 x27 x28 x29 x30 x31 x32 : ax_E} {r9 : Nat → Int32} {wm : List ax_E}  : Ct M_X2_count [.ref 7, .int 0] ([x0, x1, x2, x3, x4, x5, x6, ob 2 [.ref 8, .ref 9], x8, ia 4 r9, x10, x11, x12, x13, x14, x15, x16, x17, x18, x19, x20, x21, x22, x23, x24, x25, x26, x27, x28, x29, x30, x31, x32], wm) (fun r w' => r = some (.int (r9 0)) ∧ w' = ([x0, x1, x2, x3, x4, x5, x6, ob 2 [.ref 8, .ref 9], x8, ia 4 r9, x10, x11, x12, x13, x14, x15, x16, x17, x18, x19, x20, x21, x22, x23, x24, x25, x26, x27, x28, x29, x30, x31, x32], wm)) := by
  refine ct_of ⟨by decide, rfl⟩ (Nat.le_of_ble_eq_true rfl) ?_
  refine ab_iload_n dX2_count_0 rfl ?_
  refine ab_iflt 18 dX2_count_1 (by decide) (fun h_1 => absurd h_1 (by decide)) (fun h_1 => ?_)
  refine ab_iload_n dX2_count_4 rfl ?_
  refine ab_iconst (v := 4) dX2_count_5 (by decide) ?_
  refine ab_icmpge 18 dX2_count_6 (by decide) (fun h_2 => absurd h_2 (by decide)) (fun h_2 => ?_)
  refine ab_aload_n dX2_count_9 rfl ?_
  refine ab_getf dX2_count_10 fl_X2_15 rfl rfl ?_
  refine ab_iload_n dX2_count_13 rfl ?_
  refine ab_iald (j := 0) dX2_count_14 rfl (ix_c (by decide)) ?_
  refine ab_goto 19 dX2_count_15 (by decide) ?_
  exact ab_iret dX2_count_19 rfl (by decide) (⟨rfl, rfl⟩)
theorem c_X2_count_7_1 {x0 x1 x2 x3 x4 x5 x6 x8 x10 x11 x12 x13 x14 x15 x16 x17 x18 x19 x20 x21 x22 x23 x24 x25 x26 x27 x28 x29 x30 x31 x32 : ax_E} {r9 : Nat → Int32} {wm : List ax_E}  : Ct M_X2_count [.ref 7, .int 1] ([x0, x1, x2, x3, x4, x5, x6, ob 2 [.ref 8, .ref 9], x8, ia 4 r9, x10, x11, x12, x13, x14, x15, x16, x17, x18, x19, x20, x21, x22, x23, x24, x25, x26, x27, x28, x29, x30, x31, x32], wm) (fun r w' => r = some (.int (r9 1)) ∧ w' = ([x0, x1, x2, x3, x4, x5, x6, ob 2 [.ref 8, .ref 9], x8, ia 4 r9, x10, x11, x12, x13, x14, x15, x16, x17, x18, x19, x20, x21, x22, x23, x24, x25, x26, x27, x28, x29, x30, x31, x32], wm)) := by
  refine ct_of ⟨by decide, rfl⟩ (Nat.le_of_ble_eq_true rfl) ?_
  refine ab_iload_n dX2_count_0 rfl ?_
  refine ab_iflt 18 dX2_count_1 (by decide) (fun h_1 => absurd h_1 (by decide)) (fun h_1 => ?_)
  refine ab_iload_n dX2_count_4 rfl ?_
  refine ab_iconst (v := 4) dX2_count_5 (by decide) ?_
  refine ab_icmpge 18 dX2_count_6 (by decide) (fun h_2 => absurd h_2 (by decide)) (fun h_2 => ?_)
  refine ab_aload_n dX2_count_9 rfl ?_
  refine ab_getf dX2_count_10 fl_X2_15 rfl rfl ?_
  refine ab_iload_n dX2_count_13 rfl ?_
  refine ab_iald (j := 1) dX2_count_14 rfl (ix_c (by decide)) ?_
  refine ab_goto 19 dX2_count_15 (by decide) ?_
  exact ab_iret dX2_count_19 rfl (by decide) (⟨rfl, rfl⟩)
theorem c_X2_count_7_2 {x0 x1 x2 x3 x4 x5 x6 x8 x10 x11 x12 x13 x14 x15 x16 x17 x18 x19 x20 x21 x22 x23 x24 x25 x26 x27 x28 x29 x30 x31 x32 : ax_E} {r9 : Nat → Int32} {wm : List ax_E}  : Ct M_X2_count [.ref 7, .int 2] ([x0, x1, x2, x3, x4, x5, x6, ob 2 [.ref 8, .ref 9], x8, ia 4 r9, x10, x11, x12, x13, x14, x15, x16, x17, x18, x19, x20, x21, x22, x23, x24, x25, x26, x27, x28, x29, x30, x31, x32], wm) (fun r w' => r = some (.int (r9 2)) ∧ w' = ([x0, x1, x2, x3, x4, x5, x6, ob 2 [.ref 8, .ref 9], x8, ia 4 r9, x10, x11, x12, x13, x14, x15, x16, x17, x18, x19, x20, x21, x22, x23, x24, x25, x26, x27, x28, x29, x30, x31, x32], wm)) := by
  refine ct_of ⟨by decide, rfl⟩ (Nat.le_of_ble_eq_true rfl) ?_
  refine ab_iload_n dX2_count_0 rfl ?_
  refine ab_iflt 18 dX2_count_1 (by decide) (fun h_1 => absurd h_1 (by decide)) (fun h_1 => ?_)
  refine ab_iload_n dX2_count_4 rfl ?_
  refine ab_iconst (v := 4) dX2_count_5 (by decide) ?_
  refine ab_icmpge 18 dX2_count_6 (by decide) (fun h_2 => absurd h_2 (by decide)) (fun h_2 => ?_)
  refine ab_aload_n dX2_count_9 rfl ?_
  refine ab_getf dX2_count_10 fl_X2_15 rfl rfl ?_
  refine ab_iload_n dX2_count_13 rfl ?_
  refine ab_iald (j := 2) dX2_count_14 rfl (ix_c (by decide)) ?_
  refine ab_goto 19 dX2_count_15 (by decide) ?_
  exact ab_iret dX2_count_19 rfl (by decide) (⟨rfl, rfl⟩)
theorem c_X2_count_7_3 {x0 x1 x2 x3 x4 x5 x6 x8 x10 x11 x12 x13 x14 x15 x16 x17 x18 x19 x20 x21 x22 x23 x24 x25 x26 x27 x28 x29 x30 x31 x32 : ax_E} {r9 : Nat → Int32} {wm : List ax_E}  : Ct M_X2_count [.ref 7, .int 3] ([x0, x1, x2, x3, x4, x5, x6, ob 2 [.ref 8, .ref 9], x8, ia 4 r9, x10, x11, x12, x13, x14, x15, x16, x17, x18, x19, x20, x21, x22, x23, x24, x25, x26, x27, x28, x29, x30, x31, x32], wm) (fun r w' => r = some (.int (r9 3)) ∧ w' = ([x0, x1, x2, x3, x4, x5, x6, ob 2 [.ref 8, .ref 9], x8, ia 4 r9, x10, x11, x12, x13, x14, x15, x16, x17, x18, x19, x20, x21, x22, x23, x24, x25, x26, x27, x28, x29, x30, x31, x32], wm)) := by
  refine ct_of ⟨by decide, rfl⟩ (Nat.le_of_ble_eq_true rfl) ?_
  refine ab_iload_n dX2_count_0 rfl ?_
  refine ab_iflt 18 dX2_count_1 (by decide) (fun h_1 => absurd h_1 (by decide)) (fun h_1 => ?_)
  refine ab_iload_n dX2_count_4 rfl ?_
  refine ab_iconst (v := 4) dX2_count_5 (by decide) ?_
  refine ab_icmpge 18 dX2_count_6 (by decide) (fun h_2 => absurd h_2 (by decide)) (fun h_2 => ?_)
  refine ab_aload_n dX2_count_9 rfl ?_
  refine ab_getf dX2_count_10 fl_X2_15 rfl rfl ?_
  refine ab_iload_n dX2_count_13 rfl ?_
  refine ab_iald (j := 3) dX2_count_14 rfl (ix_c (by decide)) ?_
  refine ab_goto 19 dX2_count_15 (by decide) ?_
  exact ab_iret dX2_count_19 rfl (by decide) (⟨rfl, rfl⟩)
theorem c_X2_has_0 {x0 x1 x2 x3 x5 x7 x8 x9 x10 x11 x12 x13 x14 x15 x16 x17 x18 x19 x20 x21 x22 x23 x24 x25 x26 x27 x28 x29 x30 x31 x32 : ax_E} {r6 : Nat → Int32} {wm : List ax_E} {a2 : Int32}  : Ct M_X2_has [.ref 4, .int 0, .int a2] ([x0, x1, x2, x3, ob 2 [.ref 5, .ref 6], x5, ia 4 r6, x7, x8, x9, x10, x11, x12, x13, x14, x15, x16, x17, x18, x19, x20, x21, x22, x23, x24, x25, x26, x27, x28, x29, x30, x31, x32], wm) (fun r w' => ((0 ≤ a2 ∧ a2 < r6 0) ∧ r = some (.int 1) ∧ w' = ([x0, x1, x2, x3, ob 2 [.ref 5, .ref 6], x5, ia 4 r6, x7, x8, x9, x10, x11, x12, x13, x14, x15, x16, x17, x18, x19, x20, x21, x22, x23, x24, x25, x26, x27, x28, x29, x30, x31, x32], wm)) ∨ ((¬ (0 ≤ a2 ∧ a2 < r6 0)) ∧ r = some (.int 0) ∧ w' = ([x0, x1, x2, x3, ob 2 [.ref 5, .ref 6], x5, ia 4 r6, x7, x8, x9, x10, x11, x12, x13, x14, x15, x16, x17, x18, x19, x20, x21, x22, x23, x24, x25, x26, x27, x28, x29, x30, x31, x32], wm))) := by
  refine ct_of ⟨by decide, rfl⟩ (Nat.le_of_ble_eq_true rfl) ?_
  refine ab_iload_n dX2_has_0 rfl ?_
  refine ab_iflt 27 dX2_has_1 (by decide) (fun h_1 => absurd h_1 (by decide)) (fun h_1 => ?_)
  refine ab_iload_n dX2_has_4 rfl ?_
  refine ab_iconst (v := 4) dX2_has_5 (by decide) ?_
  refine ab_icmpge 27 dX2_has_6 (by decide) (fun h_2 => absurd h_2 (by decide)) (fun h_2 => ?_)
  refine ab_iload_n dX2_has_9 rfl ?_
  refine ab_iflt 27 dX2_has_10 (by decide) (fun h_3 => ?_) (fun h_3 => ?_)
  · refine ab_iconst (v := 0) dX2_has_27 (by decide) ?_
    exact ab_zret dX2_has_28 rfl rfl (by decide) (Or.inr (⟨(by grind), rfl, rfl⟩))
  · refine ab_iload_n dX2_has_13 rfl ?_
    refine ab_aload_n dX2_has_14 rfl ?_
    refine ab_getf dX2_has_15 fl_X2_15 rfl rfl ?_
    refine ab_iload_n dX2_has_18 rfl ?_
    refine ab_iald (j := 0) dX2_has_19 rfl (ix_c (by decide)) ?_
    refine ab_icmpge 27 dX2_has_20 (by decide) (fun h_4 => ?_) (fun h_4 => ?_)
    · refine ab_iconst (v := 0) dX2_has_27 (by decide) ?_
      exact ab_zret dX2_has_28 rfl rfl (by decide) (Or.inr (⟨(by grind), rfl, rfl⟩))
    · refine ab_iconst (v := 1) dX2_has_23 (by decide) ?_
      refine ab_goto 28 dX2_has_24 (by decide) ?_
      exact ab_zret dX2_has_28 rfl rfl (by decide) (Or.inl (⟨(by grind), rfl, rfl⟩))
theorem c_X2_has_1 {x0 x1 x2 x3 x5 x7 x8 x9 x10 x11 x12 x13 x14 x15 x16 x17 x18 x19 x20 x21 x22 x23 x24 x25 x26 x27 x28 x29 x30 x31 x32 : ax_E} {r6 : Nat → Int32} {wm : List ax_E} {a2 : Int32}  : Ct M_X2_has [.ref 4, .int 1, .int a2] ([x0, x1, x2, x3, ob 2 [.ref 5, .ref 6], x5, ia 4 r6, x7, x8, x9, x10, x11, x12, x13, x14, x15, x16, x17, x18, x19, x20, x21, x22, x23, x24, x25, x26, x27, x28, x29, x30, x31, x32], wm) (fun r w' => ((0 ≤ a2 ∧ a2 < r6 1) ∧ r = some (.int 1) ∧ w' = ([x0, x1, x2, x3, ob 2 [.ref 5, .ref 6], x5, ia 4 r6, x7, x8, x9, x10, x11, x12, x13, x14, x15, x16, x17, x18, x19, x20, x21, x22, x23, x24, x25, x26, x27, x28, x29, x30, x31, x32], wm)) ∨ ((¬ (0 ≤ a2 ∧ a2 < r6 1)) ∧ r = some (.int 0) ∧ w' = ([x0, x1, x2, x3, ob 2 [.ref 5, .ref 6], x5, ia 4 r6, x7, x8, x9, x10, x11, x12, x13, x14, x15, x16, x17, x18, x19, x20, x21, x22, x23, x24, x25, x26, x27, x28, x29, x30, x31, x32], wm))) := by
  refine ct_of ⟨by decide, rfl⟩ (Nat.le_of_ble_eq_true rfl) ?_
  refine ab_iload_n dX2_has_0 rfl ?_
  refine ab_iflt 27 dX2_has_1 (by decide) (fun h_1 => absurd h_1 (by decide)) (fun h_1 => ?_)
  refine ab_iload_n dX2_has_4 rfl ?_
  refine ab_iconst (v := 4) dX2_has_5 (by decide) ?_
  refine ab_icmpge 27 dX2_has_6 (by decide) (fun h_2 => absurd h_2 (by decide)) (fun h_2 => ?_)
  refine ab_iload_n dX2_has_9 rfl ?_
  refine ab_iflt 27 dX2_has_10 (by decide) (fun h_3 => ?_) (fun h_3 => ?_)
  · refine ab_iconst (v := 0) dX2_has_27 (by decide) ?_
    exact ab_zret dX2_has_28 rfl rfl (by decide) (Or.inr (⟨(by grind), rfl, rfl⟩))
  · refine ab_iload_n dX2_has_13 rfl ?_
    refine ab_aload_n dX2_has_14 rfl ?_
    refine ab_getf dX2_has_15 fl_X2_15 rfl rfl ?_
    refine ab_iload_n dX2_has_18 rfl ?_
    refine ab_iald (j := 1) dX2_has_19 rfl (ix_c (by decide)) ?_
    refine ab_icmpge 27 dX2_has_20 (by decide) (fun h_4 => ?_) (fun h_4 => ?_)
    · refine ab_iconst (v := 0) dX2_has_27 (by decide) ?_
      exact ab_zret dX2_has_28 rfl rfl (by decide) (Or.inr (⟨(by grind), rfl, rfl⟩))
    · refine ab_iconst (v := 1) dX2_has_23 (by decide) ?_
      refine ab_goto 28 dX2_has_24 (by decide) ?_
      exact ab_zret dX2_has_28 rfl rfl (by decide) (Or.inl (⟨(by grind), rfl, rfl⟩))
theorem c_X2_has_2 {x0 x1 x2 x3 x5 x7 x8 x9 x10 x11 x12 x13 x14 x15 x16 x17 x18 x19 x20 x21 x22 x23 x24 x25 x26 x27 x28 x29 x30 x31 x32 : ax_E} {r6 : Nat → Int32} {wm : List ax_E} {a2 : Int32}  : Ct M_X2_has [.ref 4, .int 2, .int a2] ([x0, x1, x2, x3, ob 2 [.ref 5, .ref 6], x5, ia 4 r6, x7, x8, x9, x10, x11, x12, x13, x14, x15, x16, x17, x18, x19, x20, x21, x22, x23, x24, x25, x26, x27, x28, x29, x30, x31, x32], wm) (fun r w' => ((0 ≤ a2 ∧ a2 < r6 2) ∧ r = some (.int 1) ∧ w' = ([x0, x1, x2, x3, ob 2 [.ref 5, .ref 6], x5, ia 4 r6, x7, x8, x9, x10, x11, x12, x13, x14, x15, x16, x17, x18, x19, x20, x21, x22, x23, x24, x25, x26, x27, x28, x29, x30, x31, x32], wm)) ∨ ((¬ (0 ≤ a2 ∧ a2 < r6 2)) ∧ r = some (.int 0) ∧ w' = ([x0, x1, x2, x3, ob 2 [.ref 5, .ref 6], x5, ia 4 r6, x7, x8, x9, x10, x11, x12, x13, x14, x15, x16, x17, x18, x19, x20, x21, x22, x23, x24, x25, x26, x27, x28, x29, x30, x31, x32], wm))) := by
  refine ct_of ⟨by decide, rfl⟩ (Nat.le_of_ble_eq_true rfl) ?_
  refine ab_iload_n dX2_has_0 rfl ?_
  refine ab_iflt 27 dX2_has_1 (by decide) (fun h_1 => absurd h_1 (by decide)) (fun h_1 => ?_)
  refine ab_iload_n dX2_has_4 rfl ?_
  refine ab_iconst (v := 4) dX2_has_5 (by decide) ?_
  refine ab_icmpge 27 dX2_has_6 (by decide) (fun h_2 => absurd h_2 (by decide)) (fun h_2 => ?_)
  refine ab_iload_n dX2_has_9 rfl ?_
  refine ab_iflt 27 dX2_has_10 (by decide) (fun h_3 => ?_) (fun h_3 => ?_)
  · refine ab_iconst (v := 0) dX2_has_27 (by decide) ?_
    exact ab_zret dX2_has_28 rfl rfl (by decide) (Or.inr (⟨(by grind), rfl, rfl⟩))
  · refine ab_iload_n dX2_has_13 rfl ?_
    refine ab_aload_n dX2_has_14 rfl ?_
    refine ab_getf dX2_has_15 fl_X2_15 rfl rfl ?_
    refine ab_iload_n dX2_has_18 rfl ?_
    refine ab_iald (j := 2) dX2_has_19 rfl (ix_c (by decide)) ?_
    refine ab_icmpge 27 dX2_has_20 (by decide) (fun h_4 => ?_) (fun h_4 => ?_)
    · refine ab_iconst (v := 0) dX2_has_27 (by decide) ?_
      exact ab_zret dX2_has_28 rfl rfl (by decide) (Or.inr (⟨(by grind), rfl, rfl⟩))
    · refine ab_iconst (v := 1) dX2_has_23 (by decide) ?_
      refine ab_goto 28 dX2_has_24 (by decide) ?_
      exact ab_zret dX2_has_28 rfl rfl (by decide) (Or.inl (⟨(by grind), rfl, rfl⟩))
theorem c_X2_has_3 {x0 x1 x2 x3 x5 x7 x8 x9 x10 x11 x12 x13 x14 x15 x16 x17 x18 x19 x20 x21 x22 x23 x24 x25 x26 x27 x28 x29 x30 x31 x32 : ax_E} {r6 : Nat → Int32} {wm : List ax_E} {a2 : Int32}  : Ct M_X2_has [.ref 4, .int 3, .int a2] ([x0, x1, x2, x3, ob 2 [.ref 5, .ref 6], x5, ia 4 r6, x7, x8, x9, x10, x11, x12, x13, x14, x15, x16, x17, x18, x19, x20, x21, x22, x23, x24, x25, x26, x27, x28, x29, x30, x31, x32], wm) (fun r w' => ((0 ≤ a2 ∧ a2 < r6 3) ∧ r = some (.int 1) ∧ w' = ([x0, x1, x2, x3, ob 2 [.ref 5, .ref 6], x5, ia 4 r6, x7, x8, x9, x10, x11, x12, x13, x14, x15, x16, x17, x18, x19, x20, x21, x22, x23, x24, x25, x26, x27, x28, x29, x30, x31, x32], wm)) ∨ ((¬ (0 ≤ a2 ∧ a2 < r6 3)) ∧ r = some (.int 0) ∧ w' = ([x0, x1, x2, x3, ob 2 [.ref 5, .ref 6], x5, ia 4 r6, x7, x8, x9, x10, x11, x12, x13, x14, x15, x16, x17, x18, x19, x20, x21, x22, x23, x24, x25, x26, x27, x28, x29, x30, x31, x32], wm))) := by
  refine ct_of ⟨by decide, rfl⟩ (Nat.le_of_ble_eq_true rfl) ?_
  refine ab_iload_n dX2_has_0 rfl ?_
  refine ab_iflt 27 dX2_has_1 (by decide) (fun h_1 => absurd h_1 (by decide)) (fun h_1 => ?_)
  refine ab_iload_n dX2_has_4 rfl ?_
  refine ab_iconst (v := 4) dX2_has_5 (by decide) ?_
  refine ab_icmpge 27 dX2_has_6 (by decide) (fun h_2 => absurd h_2 (by decide)) (fun h_2 => ?_)
  refine ab_iload_n dX2_has_9 rfl ?_
  refine ab_iflt 27 dX2_has_10 (by decide) (fun h_3 => ?_) (fun h_3 => ?_)
  · refine ab_iconst (v := 0) dX2_has_27 (by decide) ?_
    exact ab_zret dX2_has_28 rfl rfl (by decide) (Or.inr (⟨(by grind), rfl, rfl⟩))
  · refine ab_iload_n dX2_has_13 rfl ?_
    refine ab_aload_n dX2_has_14 rfl ?_
    refine ab_getf dX2_has_15 fl_X2_15 rfl rfl ?_
    refine ab_iload_n dX2_has_18 rfl ?_
    refine ab_iald (j := 3) dX2_has_19 rfl (ix_c (by decide)) ?_
    refine ab_icmpge 27 dX2_has_20 (by decide) (fun h_4 => ?_) (fun h_4 => ?_)
    · refine ab_iconst (v := 0) dX2_has_27 (by decide) ?_
      exact ab_zret dX2_has_28 rfl rfl (by decide) (Or.inr (⟨(by grind), rfl, rfl⟩))
    · refine ab_iconst (v := 1) dX2_has_23 (by decide) ?_
      refine ab_goto 28 dX2_has_24 (by decide) ?_
      exact ab_zret dX2_has_28 rfl rfl (by decide) (Or.inl (⟨(by grind), rfl, rfl⟩))
theorem nI_in2 {x : Int32} {c : Nat} (hc : c < 2 ^ 31) (h0 : 0 ≤ x) (h1 : x < nI c) : ∃ j : Nat, j < c ∧ x = nI j := by
  obtain ⟨j, hj, rfl⟩ := nI_of (Int32.not_lt.mpr h0)
  exact ⟨j, (nI_ltI hj hc).mp h1, rfl⟩
theorem ix_tl {i x m : Int32} {S W c N : Nat} (hi : 0 ≤ i ∧ i < m) (hm : m ≤ nI c) (hx : 0 ≤ x ∧ x < nI W) (hN : S + c * W ≤ N) (hs : N < 2 ^ 31) (hc : c < 2 ^ 31) (hW : W < 2 ^ 31) : ax_ix (nI S + i * nI W + x) N (S + i.toNatClampNeg * W + x.toNatClampNeg) := by
  obtain ⟨j, hj, rfl⟩ := nI_in2 hc hi.1 (Int32.lt_of_lt_of_le hi.2 hm)
  obtain ⟨k, hk, rfl⟩ := nI_in2 hW hx.1 hx.2
  rw [nI_clamp (by omega), nI_clamp (by omega), pk_mul, nI_add, nI_add]
  refine ix_nI ?_ hs
  have h1 : j * W + W ≤ c * W := by
    have := Nat.mul_le_mul_right W (show j + 1 ≤ c from hj)
    rw [Nat.add_mul, Nat.one_mul] at this
    exact this
  omega
theorem c_X2_told_0 {x0 x1 x2 x3 x7 x8 x9 x10 x11 x12 x13 x14 x15 x16 x17 x18 x19 x20 x21 x22 x23 x24 x25 x26 x27 x28 x29 x30 x31 x32 : ax_E} {r5 r6 : Nat → Int32} {wm : List ax_E} {a2 a3 : Int32} (h_i : 0 ≤ a2 ∧ a2 < r6 0) (h_c : r6 0 ≤ nI 4) (h_w : 0 ≤ a3 ∧ a3 < nI 4) : Ct M_X2_told [.ref 4, .int 0, .int a2, .int a3] ([x0, x1, x2, x3, ob 2 [.ref 5, .ref 6], ia 56 r5, ia 4 r6, x7, x8, x9, x10, x11, x12, x13, x14, x15, x16, x17, x18, x19, x20, x21, x22, x23, x24, x25, x26, x27, x28, x29, x30, x31, x32], wm) (fun r w' => r = some (.int (r5 (0 + Int32.toNatClampNeg a2 * 4 + Int32.toNatClampNeg a3))) ∧ w' = ([x0, x1, x2, x3, ob 2 [.ref 5, .ref 6], ia 56 r5, ia 4 r6, x7, x8, x9, x10, x11, x12, x13, x14, x15, x16, x17, x18, x19, x20, x21, x22, x23, x24, x25, x26, x27, x28, x29, x30, x31, x32], wm)) := by
  refine ct_of ⟨by decide, rfl⟩ (Nat.le_of_ble_eq_true rfl) ?_
  refine ab_aload_n dX2_told_0 rfl ?_
  refine ab_iload_n dX2_told_1 rfl ?_
  refine ab_iload_n dX2_told_2 rfl ?_
  refine ab_callV (As := [.int 0, .int a2]) (rest := []) dX2_told_3 mv_X2_has ml_X2_27 ⟨by decide, by decide, rfl, rfl, rfl⟩ (by decide) rfl rfl (Nat.le_of_ble_eq_true rfl) rfl c_X2_has_0 ?_
  rintro r w' (⟨c_1, rfl, rfl⟩ | ⟨c_2, rfl, rfl⟩)
  · refine ab_ifeq 45 dX2_told_6 (by decide) (fun h_3 => absurd h_3 (by decide)) (fun h_3 => ?_)
    refine ab_iload_n dX2_told_9 rfl ?_
    refine ab_iflt 45 dX2_told_10 (by decide) (fun h_4 => absurd h_w.1 (Int32.not_le.mpr h_4)) (fun h_4 => ?_)
    refine ab_iload_n dX2_told_13 rfl ?_
    refine ab_tbl (j := 3) dX2_told_14 rfl fs_X2_31 ?_
    refine ab_iload_n dX2_told_17 rfl ?_
    refine ab_tald (j := 3) (t := 0) (v := (ax_tab 3 0)) dX2_told_18 rfl (ix_c (by decide)) rfl ?_
    refine ab_icmpge 45 dX2_told_19 (by decide) (fun h_5 => absurd h_w.2 (Int32.not_lt.mpr h_5)) (fun h_5 => ?_)
    refine ab_aload_n dX2_told_22 rfl ?_
    refine ab_getf dX2_told_23 fl_X2_11 rfl rfl ?_
    refine ab_tbl (j := 4) dX2_told_26 rfl fs_X2_34 ?_
    refine ab_iload_n dX2_told_29 rfl ?_
    refine ab_tald (j := 4) (t := 0) (v := (ax_tab 4 0)) dX2_told_30 rfl (ix_c (by decide)) rfl ?_
    refine ab_iload_n dX2_told_31 rfl ?_
    refine ab_tbl (j := 3) dX2_told_32 rfl fs_X2_31 ?_
    refine ab_iload_n dX2_told_35 rfl ?_
    refine ab_tald (j := 3) (t := 0) (v := (ax_tab 3 0)) dX2_told_36 rfl (ix_c (by decide)) rfl ?_
    refine ab_imul dX2_told_37 ?_
    refine ab_iadd dX2_told_38 ?_
    refine ab_iload_n dX2_told_39 rfl ?_
    refine ab_iadd dX2_told_40 ?_
    refine ab_iald (j := (0 + Int32.toNatClampNeg a2 * 4 + Int32.toNatClampNeg a3)) dX2_told_41 rfl (ix_tl (S := 0) (W := 4) (c := 4) h_i h_c h_w (by decide) (by decide) (by decide) (by decide)) ?_
    refine ab_goto 46 dX2_told_42 (by decide) ?_
    exact ab_iret dX2_told_46 rfl (by decide) (⟨rfl, rfl⟩)
  · exact absurd h_i c_2
theorem c_X2_told_1 {x0 x1 x2 x3 x7 x8 x9 x10 x11 x12 x13 x14 x15 x16 x17 x18 x19 x20 x21 x22 x23 x24 x25 x26 x27 x28 x29 x30 x31 x32 : ax_E} {r5 r6 : Nat → Int32} {wm : List ax_E} {a2 a3 : Int32} (h_i : 0 ≤ a2 ∧ a2 < r6 1) (h_c : r6 1 ≤ nI 4) (h_w : 0 ≤ a3 ∧ a3 < nI 2) : Ct M_X2_told [.ref 4, .int 1, .int a2, .int a3] ([x0, x1, x2, x3, ob 2 [.ref 5, .ref 6], ia 56 r5, ia 4 r6, x7, x8, x9, x10, x11, x12, x13, x14, x15, x16, x17, x18, x19, x20, x21, x22, x23, x24, x25, x26, x27, x28, x29, x30, x31, x32], wm) (fun r w' => r = some (.int (r5 (16 + Int32.toNatClampNeg a2 * 2 + Int32.toNatClampNeg a3))) ∧ w' = ([x0, x1, x2, x3, ob 2 [.ref 5, .ref 6], ia 56 r5, ia 4 r6, x7, x8, x9, x10, x11, x12, x13, x14, x15, x16, x17, x18, x19, x20, x21, x22, x23, x24, x25, x26, x27, x28, x29, x30, x31, x32], wm)) := by
  refine ct_of ⟨by decide, rfl⟩ (Nat.le_of_ble_eq_true rfl) ?_
  refine ab_aload_n dX2_told_0 rfl ?_
  refine ab_iload_n dX2_told_1 rfl ?_
  refine ab_iload_n dX2_told_2 rfl ?_
  refine ab_callV (As := [.int 1, .int a2]) (rest := []) dX2_told_3 mv_X2_has ml_X2_27 ⟨by decide, by decide, rfl, rfl, rfl⟩ (by decide) rfl rfl (Nat.le_of_ble_eq_true rfl) rfl c_X2_has_1 ?_
  rintro r w' (⟨c_1, rfl, rfl⟩ | ⟨c_2, rfl, rfl⟩)
  · refine ab_ifeq 45 dX2_told_6 (by decide) (fun h_3 => absurd h_3 (by decide)) (fun h_3 => ?_)
    refine ab_iload_n dX2_told_9 rfl ?_
    refine ab_iflt 45 dX2_told_10 (by decide) (fun h_4 => absurd h_w.1 (Int32.not_le.mpr h_4)) (fun h_4 => ?_)
    refine ab_iload_n dX2_told_13 rfl ?_
    refine ab_tbl (j := 3) dX2_told_14 rfl fs_X2_31 ?_
    refine ab_iload_n dX2_told_17 rfl ?_
    refine ab_tald (j := 3) (t := 1) (v := (ax_tab 3 1)) dX2_told_18 rfl (ix_c (by decide)) rfl ?_
    refine ab_icmpge 45 dX2_told_19 (by decide) (fun h_5 => absurd h_w.2 (Int32.not_lt.mpr h_5)) (fun h_5 => ?_)
    refine ab_aload_n dX2_told_22 rfl ?_
    refine ab_getf dX2_told_23 fl_X2_11 rfl rfl ?_
    refine ab_tbl (j := 4) dX2_told_26 rfl fs_X2_34 ?_
    refine ab_iload_n dX2_told_29 rfl ?_
    refine ab_tald (j := 4) (t := 1) (v := (ax_tab 4 1)) dX2_told_30 rfl (ix_c (by decide)) rfl ?_
    refine ab_iload_n dX2_told_31 rfl ?_
    refine ab_tbl (j := 3) dX2_told_32 rfl fs_X2_31 ?_
    refine ab_iload_n dX2_told_35 rfl ?_
    refine ab_tald (j := 3) (t := 1) (v := (ax_tab 3 1)) dX2_told_36 rfl (ix_c (by decide)) rfl ?_
    refine ab_imul dX2_told_37 ?_
    refine ab_iadd dX2_told_38 ?_
    refine ab_iload_n dX2_told_39 rfl ?_
    refine ab_iadd dX2_told_40 ?_
    refine ab_iald (j := (16 + Int32.toNatClampNeg a2 * 2 + Int32.toNatClampNeg a3)) dX2_told_41 rfl (ix_tl (S := 16) (W := 2) (c := 4) h_i h_c h_w (by decide) (by decide) (by decide) (by decide)) ?_
    refine ab_goto 46 dX2_told_42 (by decide) ?_
    exact ab_iret dX2_told_46 rfl (by decide) (⟨rfl, rfl⟩)
  · exact absurd h_i c_2
theorem c_X2_told_2 {x0 x1 x2 x3 x7 x8 x9 x10 x11 x12 x13 x14 x15 x16 x17 x18 x19 x20 x21 x22 x23 x24 x25 x26 x27 x28 x29 x30 x31 x32 : ax_E} {r5 r6 : Nat → Int32} {wm : List ax_E} {a2 a3 : Int32} (h_i : 0 ≤ a2 ∧ a2 < r6 2) (h_c : r6 2 ≤ nI 8) (h_w : 0 ≤ a3 ∧ a3 < nI 2) : Ct M_X2_told [.ref 4, .int 2, .int a2, .int a3] ([x0, x1, x2, x3, ob 2 [.ref 5, .ref 6], ia 56 r5, ia 4 r6, x7, x8, x9, x10, x11, x12, x13, x14, x15, x16, x17, x18, x19, x20, x21, x22, x23, x24, x25, x26, x27, x28, x29, x30, x31, x32], wm) (fun r w' => r = some (.int (r5 (24 + Int32.toNatClampNeg a2 * 2 + Int32.toNatClampNeg a3))) ∧ w' = ([x0, x1, x2, x3, ob 2 [.ref 5, .ref 6], ia 56 r5, ia 4 r6, x7, x8, x9, x10, x11, x12, x13, x14, x15, x16, x17, x18, x19, x20, x21, x22, x23, x24, x25, x26, x27, x28, x29, x30, x31, x32], wm)) := by
  refine ct_of ⟨by decide, rfl⟩ (Nat.le_of_ble_eq_true rfl) ?_
  refine ab_aload_n dX2_told_0 rfl ?_
  refine ab_iload_n dX2_told_1 rfl ?_
  refine ab_iload_n dX2_told_2 rfl ?_
  refine ab_callV (As := [.int 2, .int a2]) (rest := []) dX2_told_3 mv_X2_has ml_X2_27 ⟨by decide, by decide, rfl, rfl, rfl⟩ (by decide) rfl rfl (Nat.le_of_ble_eq_true rfl) rfl c_X2_has_2 ?_
  rintro r w' (⟨c_1, rfl, rfl⟩ | ⟨c_2, rfl, rfl⟩)
  · refine ab_ifeq 45 dX2_told_6 (by decide) (fun h_3 => absurd h_3 (by decide)) (fun h_3 => ?_)
    refine ab_iload_n dX2_told_9 rfl ?_
    refine ab_iflt 45 dX2_told_10 (by decide) (fun h_4 => absurd h_w.1 (Int32.not_le.mpr h_4)) (fun h_4 => ?_)
    refine ab_iload_n dX2_told_13 rfl ?_
    refine ab_tbl (j := 3) dX2_told_14 rfl fs_X2_31 ?_
    refine ab_iload_n dX2_told_17 rfl ?_
    refine ab_tald (j := 3) (t := 2) (v := (ax_tab 3 2)) dX2_told_18 rfl (ix_c (by decide)) rfl ?_
    refine ab_icmpge 45 dX2_told_19 (by decide) (fun h_5 => absurd h_w.2 (Int32.not_lt.mpr h_5)) (fun h_5 => ?_)
    refine ab_aload_n dX2_told_22 rfl ?_
    refine ab_getf dX2_told_23 fl_X2_11 rfl rfl ?_
    refine ab_tbl (j := 4) dX2_told_26 rfl fs_X2_34 ?_
    refine ab_iload_n dX2_told_29 rfl ?_
    refine ab_tald (j := 4) (t := 2) (v := (ax_tab 4 2)) dX2_told_30 rfl (ix_c (by decide)) rfl ?_
    refine ab_iload_n dX2_told_31 rfl ?_
    refine ab_tbl (j := 3) dX2_told_32 rfl fs_X2_31 ?_
    refine ab_iload_n dX2_told_35 rfl ?_
    refine ab_tald (j := 3) (t := 2) (v := (ax_tab 3 2)) dX2_told_36 rfl (ix_c (by decide)) rfl ?_
    refine ab_imul dX2_told_37 ?_
    refine ab_iadd dX2_told_38 ?_
    refine ab_iload_n dX2_told_39 rfl ?_
    refine ab_iadd dX2_told_40 ?_
    refine ab_iald (j := (24 + Int32.toNatClampNeg a2 * 2 + Int32.toNatClampNeg a3)) dX2_told_41 rfl (ix_tl (S := 24) (W := 2) (c := 8) h_i h_c h_w (by decide) (by decide) (by decide) (by decide)) ?_
    refine ab_goto 46 dX2_told_42 (by decide) ?_
    exact ab_iret dX2_told_46 rfl (by decide) (⟨rfl, rfl⟩)
  · exact absurd h_i c_2
theorem c_X2_told_3 {x0 x1 x2 x3 x7 x8 x9 x10 x11 x12 x13 x14 x15 x16 x17 x18 x19 x20 x21 x22 x23 x24 x25 x26 x27 x28 x29 x30 x31 x32 : ax_E} {r5 r6 : Nat → Int32} {wm : List ax_E} {a2 a3 : Int32} (h_i : 0 ≤ a2 ∧ a2 < r6 3) (h_c : r6 3 ≤ nI 4) (h_w : 0 ≤ a3 ∧ a3 < nI 4) : Ct M_X2_told [.ref 4, .int 3, .int a2, .int a3] ([x0, x1, x2, x3, ob 2 [.ref 5, .ref 6], ia 56 r5, ia 4 r6, x7, x8, x9, x10, x11, x12, x13, x14, x15, x16, x17, x18, x19, x20, x21, x22, x23, x24, x25, x26, x27, x28, x29, x30, x31, x32], wm) (fun r w' => r = some (.int (r5 (40 + Int32.toNatClampNeg a2 * 4 + Int32.toNatClampNeg a3))) ∧ w' = ([x0, x1, x2, x3, ob 2 [.ref 5, .ref 6], ia 56 r5, ia 4 r6, x7, x8, x9, x10, x11, x12, x13, x14, x15, x16, x17, x18, x19, x20, x21, x22, x23, x24, x25, x26, x27, x28, x29, x30, x31, x32], wm)) := by
  refine ct_of ⟨by decide, rfl⟩ (Nat.le_of_ble_eq_true rfl) ?_
  refine ab_aload_n dX2_told_0 rfl ?_
  refine ab_iload_n dX2_told_1 rfl ?_
  refine ab_iload_n dX2_told_2 rfl ?_
  refine ab_callV (As := [.int 3, .int a2]) (rest := []) dX2_told_3 mv_X2_has ml_X2_27 ⟨by decide, by decide, rfl, rfl, rfl⟩ (by decide) rfl rfl (Nat.le_of_ble_eq_true rfl) rfl c_X2_has_3 ?_
  rintro r w' (⟨c_1, rfl, rfl⟩ | ⟨c_2, rfl, rfl⟩)
  · refine ab_ifeq 45 dX2_told_6 (by decide) (fun h_3 => absurd h_3 (by decide)) (fun h_3 => ?_)
    refine ab_iload_n dX2_told_9 rfl ?_
    refine ab_iflt 45 dX2_told_10 (by decide) (fun h_4 => absurd h_w.1 (Int32.not_le.mpr h_4)) (fun h_4 => ?_)
    refine ab_iload_n dX2_told_13 rfl ?_
    refine ab_tbl (j := 3) dX2_told_14 rfl fs_X2_31 ?_
    refine ab_iload_n dX2_told_17 rfl ?_
    refine ab_tald (j := 3) (t := 3) (v := (ax_tab 3 3)) dX2_told_18 rfl (ix_c (by decide)) rfl ?_
    refine ab_icmpge 45 dX2_told_19 (by decide) (fun h_5 => absurd h_w.2 (Int32.not_lt.mpr h_5)) (fun h_5 => ?_)
    refine ab_aload_n dX2_told_22 rfl ?_
    refine ab_getf dX2_told_23 fl_X2_11 rfl rfl ?_
    refine ab_tbl (j := 4) dX2_told_26 rfl fs_X2_34 ?_
    refine ab_iload_n dX2_told_29 rfl ?_
    refine ab_tald (j := 4) (t := 3) (v := (ax_tab 4 3)) dX2_told_30 rfl (ix_c (by decide)) rfl ?_
    refine ab_iload_n dX2_told_31 rfl ?_
    refine ab_tbl (j := 3) dX2_told_32 rfl fs_X2_31 ?_
    refine ab_iload_n dX2_told_35 rfl ?_
    refine ab_tald (j := 3) (t := 3) (v := (ax_tab 3 3)) dX2_told_36 rfl (ix_c (by decide)) rfl ?_
    refine ab_imul dX2_told_37 ?_
    refine ab_iadd dX2_told_38 ?_
    refine ab_iload_n dX2_told_39 rfl ?_
    refine ab_iadd dX2_told_40 ?_
    refine ab_iald (j := (40 + Int32.toNatClampNeg a2 * 4 + Int32.toNatClampNeg a3)) dX2_told_41 rfl (ix_tl (S := 40) (W := 4) (c := 4) h_i h_c h_w (by decide) (by decide) (by decide) (by decide)) ?_
    refine ab_goto 46 dX2_told_42 (by decide) ?_
    exact ab_iret dX2_told_46 rfl (by decide) (⟨rfl, rfl⟩)
  · exact absurd h_i c_2
theorem c_X2_changeBar {x0 x1 x2 x3 x7 x8 x9 x10 x11 x12 x13 x14 x15 x16 x17 x18 x19 x20 x21 x22 x23 x24 x25 x26 x27 x28 x29 x30 x31 x32 : ax_E} {r5 r6 : Nat → Int32} {wm : List ax_E} {a1 a2 a3 : Int32} (h_i : 0 ≤ a1 ∧ a1 < r6 0) (h_c : r6 0 ≤ nI 4) (h_w : 0 ≤ a2 ∧ a2 < nI 4) : Ct M_X2_changeBar [.ref 4, .int a1, .int a2, .int a3] ([x0, x1, x2, x3, ob 2 [.ref 5, .ref 6], ia 56 r5, ia 4 r6, x7, x8, x9, x10, x11, x12, x13, x14, x15, x16, x17, x18, x19, x20, x21, x22, x23, x24, x25, x26, x27, x28, x29, x30, x31, x32], wm) (fun r w' => r = none ∧ w' = ([x0, x1, x2, x3, ob 2 [.ref 5, .ref 6], ia 56 (upd r5 (0 + Int32.toNatClampNeg a1 * 4 + Int32.toNatClampNeg a2) a3), ia 4 r6, x7, x8, x9, x10, x11, x12, x13, x14, x15, x16, x17, x18, x19, x20, x21, x22, x23, x24, x25, x26, x27, x28, x29, x30, x31, x32], wm)) := by
  refine ct_of ⟨by decide, rfl⟩ (Nat.le_of_ble_eq_true rfl) ?_
  refine ab_aload_n dX2_changeBar_0 rfl ?_
  refine ab_iconst (v := 0) dX2_changeBar_1 (by decide) ?_
  refine ab_iload_n dX2_changeBar_2 rfl ?_
  refine ab_callV (As := [.int 0, .int a1]) (rest := []) dX2_changeBar_3 mv_X2_has ml_X2_27 ⟨by decide, by decide, rfl, rfl, rfl⟩ (by decide) rfl rfl (Nat.le_of_ble_eq_true rfl) rfl c_X2_has_0 ?_
  rintro r w' (⟨c_1, rfl, rfl⟩ | ⟨c_2, rfl, rfl⟩)
  · refine ab_ifeq 43 dX2_changeBar_6 (by decide) (fun h_3 => absurd h_3 (by decide)) (fun h_3 => ?_)
    refine ab_iload_n dX2_changeBar_9 rfl ?_
    refine ab_iflt 43 dX2_changeBar_10 (by decide) (fun h_4 => absurd h_w.1 (Int32.not_le.mpr h_4)) (fun h_4 => ?_)
    refine ab_iload_n dX2_changeBar_13 rfl ?_
    refine ab_tbl (j := 3) dX2_changeBar_14 rfl fs_X2_31 ?_
    refine ab_iconst (v := 0) dX2_changeBar_17 (by decide) ?_
    refine ab_tald (j := 3) (t := 0) (v := (ax_tab 3 0)) dX2_changeBar_18 rfl (ix_c (by decide)) rfl ?_
    refine ab_icmpge 43 dX2_changeBar_19 (by decide) (fun h_5 => absurd h_w.2 (Int32.not_lt.mpr h_5)) (fun h_5 => ?_)
    refine ab_aload_n dX2_changeBar_22 rfl ?_
    refine ab_getf dX2_changeBar_23 fl_X2_11 rfl rfl ?_
    refine ab_tbl (j := 4) dX2_changeBar_26 rfl fs_X2_34 ?_
    refine ab_iconst (v := 0) dX2_changeBar_29 (by decide) ?_
    refine ab_tald (j := 4) (t := 0) (v := (ax_tab 4 0)) dX2_changeBar_30 rfl (ix_c (by decide)) rfl ?_
    refine ab_iload_n dX2_changeBar_31 rfl ?_
    refine ab_tbl (j := 3) dX2_changeBar_32 rfl fs_X2_31 ?_
    refine ab_iconst (v := 0) dX2_changeBar_35 (by decide) ?_
    refine ab_tald (j := 3) (t := 0) (v := (ax_tab 3 0)) dX2_changeBar_36 rfl (ix_c (by decide)) rfl ?_
    refine ab_imul dX2_changeBar_37 ?_
    refine ab_iadd dX2_changeBar_38 ?_
    refine ab_iload_n dX2_changeBar_39 rfl ?_
    refine ab_iadd dX2_changeBar_40 ?_
    refine ab_iload_n dX2_changeBar_41 rfl ?_
    refine ab_iast (w1 := ([x0, x1, x2, x3, ob 2 [.ref 5, .ref 6], ia 56 (upd r5 (0 + Int32.toNatClampNeg a1 * 4 + Int32.toNatClampNeg a2) a3), ia 4 r6, x7, x8, x9, x10, x11, x12, x13, x14, x15, x16, x17, x18, x19, x20, x21, x22, x23, x24, x25, x26, x27, x28, x29, x30, x31, x32], wm)) dX2_changeBar_42 rfl (ix_tl (S := 0) (W := 4) (c := 4) h_i h_c h_w (by decide) (by decide) (by decide) (by decide)) rfl ?_
    exact ab_vret dX2_changeBar_43 rfl (by decide) (⟨rfl, rfl⟩)
  · exact absurd h_i c_2
