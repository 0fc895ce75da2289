theorem c_X2_count_4_0 {x0 x1 x2 x3 x5 x7 x8 x9 x10 x11 x12 x13 x14 x15 x16 x17 x18 x19 x20 x21 x22 x23 x24 x25 x26 x27 x28 x29 x30 x31 x32 : ax_E} {r6 : Nat → Int32} {wm : List ax_E}  : Ct M_X2_count [.ref 4, .int 0] ([x0, x1, x2, x3, ob 2 [.ref 5, .ref 6], x5, ia 4 r6, x7, x8, x9, x10, x11, x12, x13, x14, x15, x16, x17, x18, x19, x20, x21, x22, x23, x24, x25, x26, x27, x28, x29, x30, x31, x32], wm) (fun r w' => r = some (.int (r6 0)) ∧ w' = ([x0, x1, x2, x3, ob 2 [.ref 5, .ref 6], x5, ia 4 r6, x7, x8, x9, x10, x11, x12, x13, x14, x15, x16, x17, x18, x19, x20, x21, x22, x23, x24, x25, x26, x27, x28, x29, x30, x31, x32], wm)) := by
  refine ct_of ⟨by decide, rfl⟩ (Nat.le_of_ble_eq_true rfl) ?_
  refine ab_iload_n dX2_count_0 rfl ?_
  refine ab_iflt 18 dX2_count_1 (by decide) (fun h_1 => absurd h_1 (by decide)) (fun h_1 => ?_)
  refine ab_iload_n dX2_count_4 rfl ?_
  refine ab_iconst (v := 4) dX2_count_5 (by decide) ?_
  refine ab_icmpge 18 dX2_count_6 (by decide) (fun h_2 => absurd h_2 (by decide)) (fun h_2 => ?_)
  refine ab_aload_n dX2_count_9 rfl ?_
  refine ab_getf dX2_count_10 fl_X2_15 rfl rfl ?_
  refine ab_iload_n dX2_count_13 rfl ?_
  refine ab_iald (j := 0) dX2_count_14 rfl (ix_c (by decide)) ?_
  refine ab_goto 19 dX2_count_15 (by decide) ?_
  exact ab_iret dX2_count_19 rfl (by decide) (⟨rfl, rfl⟩)
theorem c_X2_count_4_1 {x0 x1 x2 x3 x5 x7 x8 x9 x10 x11 x12 x13 x14 x15 x16 x17 x18 x19 x20 x21 x22 x23 x24 x25 x26 x27 x28 x29 x30 x31 x32 : ax_E} {r6 : Nat → Int32} {wm : List ax_E}  : Ct M_X2_count [.ref 4, .int 1] ([x0, x1, x2, x3, ob 2 [.ref 5, .ref 6], x5, ia 4 r6, x7, x8, x9, x10, x11, x12, x13, x14, x15, x16, x17, x18, x19, x20, x21, x22, x23, x24, x25, x26, x27, x28, x29, x30, x31, x32], wm) (fun r w' => r = some (.int (r6 1)) ∧ w' = ([x0, x1, x2, x3, ob 2 [.ref 5, .ref 6], x5, ia 4 r6, x7, x8, x9, x10, x11, x12, x13, x14, x15, x16, x17, x18, x19, x20, x21, x22, x23, x24, x25, x26, x27, x28, x29, x30, x31, x32], wm)) := by
  refine ct_of ⟨by decide, rfl⟩ (Nat.le_of_ble_eq_true rfl) ?_
  refine ab_iload_n dX2_count_0 rfl ?_
  refine ab_iflt 18 dX2_count_1 (by decide) (fun h_1 => absurd h_1 (by decide)) (fun h_1 => ?_)
  refine ab_iload_n dX2_count_4 rfl ?_
  refine ab_iconst (v := 4) dX2_count_5 (by decide) ?_
  refine ab_icmpge 18 dX2_count_6 (by decide) (fun h_2 => absurd h_2 (by decide)) (fun h_2 => ?_)
  refine ab_aload_n dX2_count_9 rfl ?_
  refine ab_getf dX2_count_10 fl_X2_15 rfl rfl ?_
  refine ab_iload_n dX2_count_13 rfl ?_
  refine ab_iald (j := 1) dX2_count_14 rfl (ix_c (by decide)) ?_
  refine ab_goto 19 dX2_count_15 (by decide) ?_
  exact ab_iret dX2_count_19 rfl (by decide) (⟨rfl, rfl⟩)
theorem c_X2_count_4_2 {x0 x1 x2 x3 x5 x7 x8 x9 x10 x11 x12 x13 x14 x15 x16 x17 x18 x19 x20 x21 x22 x23 x24 x25 x26 x27 x28 x29 x30 x31 x32 : ax_E} {r6 : Nat → Int32} {wm : List ax_E}  : Ct M_X2_count [.ref 4, .int 2] ([x0, x1, x2, x3, ob 2 [.ref 5, .ref 6], x5, ia 4 r6, x7, x8, x9, x10, x11, x12, x13, x14, x15, x16, x17, x18, x19, x20, x21, x22, x23, x24, x25, x26, x27, x28, x29, x30, x31, x32], wm) (fun r w' => r = some (.int (r6 2)) ∧ w' = ([x0, x1, x2, x3, ob 2 [.ref 5, .ref 6], x5, ia 4 r6, x7, x8, x9, x10, x11, x12, x13, x14, x15, x16, x17, x18, x19, x20, x21, x22, x23, x24, x25, x26, x27, x28, x29, x30, x31, x32], wm)) := by
  refine ct_of ⟨by decide, rfl⟩ (Nat.le_of_ble_eq_true rfl) ?_
  refine ab_iload_n dX2_count_0 rfl ?_
  refine ab_iflt 18 dX2_count_1 (by decide) (fun h_1 => absurd h_1 (by decide)) (fun h_1 => ?_)
  refine ab_iload_n dX2_count_4 rfl ?_
  refine ab_iconst (v := 4) dX2_count_5 (by decide) ?_
  refine ab_icmpge 18 dX2_count_6 (by decide) (fun h_2 => absurd h_2 (by decide)) (fun h_2 => ?_)
  refine ab_aload_n dX2_count_9 rfl ?_
  refine ab_getf dX2_count_10 fl_X2_15 rfl rfl ?_
  refine ab_iload_n dX2_count_13 rfl ?_
  refine ab_iald (j := 2) dX2_count_14 rfl (ix_c (by decide)) ?_
  refine ab_goto 19 dX2_count_15 (by decide) ?_
  exact ab_iret dX2_count_19 rfl (by decide) (⟨rfl, rfl⟩)
theorem c_X2_count_4_3 {x0 x1 x2 x3 x5 x7 x8 x9 x10 x11 x12 x13 x14 x15 x16 x17 x18 x19 x20 x21 x22 x23 x24 x25 x26 x27 x28 x29 x30 x31 x32 : ax_E} {r6 : Nat → Int32} {wm : List ax_E}  : Ct M_X2_count [.ref 4, .int 3] ([x0, x1, x2, x3, ob 2 [.ref 5, .ref 6], x5, ia 4 r6, x7, x8, x9, x10, x11, x12, x13, x14, x15, x16, x17, x18, x19, x20, x21, x22, x23, x24, x25, x26, x27, x28, x29, x30, x31, x32], wm) (fun r w' => r = some (.int (r6 3)) ∧ w' = ([x0, x1, x2, x3, ob 2 [.ref 5, .ref 6], x5, ia 4 r6, x7, x8, x9, x10, x11, x12, x13, x14, x15, x16, x17, x18, x19, x20, x21, x22, x23, x24, x25, x26, x27, x28, x29, x30, x31, x32], wm)) := by
  refine ct_of ⟨by decide, rfl⟩ (Nat.le_of_ble_eq_true rfl) ?_
  refine ab_iload_n dX2_count_0 rfl ?_
  refine ab_iflt 18 dX2_count_1 (by decide) (fun h_1 => absurd h_1 (by decide)) (fun h_1 => ?_)
  refine ab_iload_n dX2_count_4 rfl ?_
  refine ab_iconst (v := 4) dX2_count_5 (by decide) ?_
  refine ab_icmpge 18 dX2_count_6 (by decide) (fun h_2 => absurd h_2 (by decide)) (fun h_2 => ?_)
  refine ab_aload_n dX2_count_9 rfl ?_
  refine ab_getf dX2_count_10 fl_X2_15 rfl rfl ?_
  refine ab_iload_n dX2_count_13 rfl ?_
  refine ab_iald (j := 3) dX2_count_14 rfl (ix_c (by decide)) ?_
  refine ab_goto 19 dX2_count_15 (by decide) ?_
  exact ab_iret dX2_count_19 rfl (by decide) (⟨rfl, rfl⟩)
theorem c_X2_count_7_0 {x0 x1 x2 x3 x4 x5 x6 x8 x10 x11 x12 x13 x14 x15 x16 x17 x18 x19 x20 x21 x22 x23 x24 x25 x26 x27 x28 x29 x30 x31 x32 : ax_E} {r9 : Nat → Int32} {wm : List ax_E}  : Ct M_X2_count [.ref 7, .int 0] ([x0, x1, x2, x3, x4, x5, x6, ob 2 [.ref 8, .ref 9], x8, ia 4 r9, x10, x11, x12, x13, x14, x15, x16, x17, x18, x19, x20, x21, x22, x23, x24, x25, x26, x27, x28, x29, x30, x31, x32], wm) (fun r w' => r = some (.int (r9 0)) ∧ w' = ([x0, x1, x2, x3, x4, x5, x6, ob 2 [.ref 8, .ref 9], x8, ia 4 r9, x10, x11, x12, x13, x14, x15, x16, x17, x18, x19, x20, x21, x22, x23, x24, x25, x26, x27, x28, x29, x30, x31, x32], wm)) := by
  refine ct_of ⟨by decide, rfl⟩ (Nat.le_of_ble_eq_true rfl) ?_
  refine ab_iload_n dX2_count_0 rfl ?_
  refine ab_iflt 18 dX2_count_1 (by decide) (fun h_1 => absurd h_1 (by decide)) (fun h_1 => ?_)
  refine ab_iload_n dX2_count_4 rfl ?_
  refine ab_iconst (v := 4) dX2_count_5 (by decide) ?_
  refine ab_icmpge 18 dX2_count_6 (by decide) (fun h_2 => absurd h_2 (by decide)) (fun h_2 => ?_)
  refine ab_aload_n dX2_count_9 rfl ?_
  refine ab_getf dX2_count_10 fl_X2_15 rfl rfl ?_
  refine ab_iload_n dX2_count_13 rfl ?_
  refine ab_iald (j := 0) dX2_count_14 rfl (ix_c (by decide)) ?_
  refine ab_goto 19 dX2_count_15 (by decide) ?_
  exact ab_iret dX2_count_19 rfl (by decide) (⟨rfl, rfl⟩)
theorem c_X2_count_7_1 {x0 x1 x2 x3 x4 x5 x6 x8 x10 x11 x12 x13 x14 x15 x16 x17 x18 x19 x20 x21 x22 x23 x24 x25 x26 x27 x28 x29 x30 x31 x32 : ax_E} {r9 : Nat → Int32} {wm : List ax_E}  : Ct M_X2_count [.ref 7, .int 1] ([x0, x1, x2, x3, x4, x5, x6, ob 2 [.ref 8, .ref 9], x8, ia 4 r9, x10, x11, x12, x13, x14, x15, x16, x17, x18, x19, x20, x21, x22, x23, x24, x25, x26, x27, x28, x29, x30, x31, x32], wm) (fun r w' => r = some (.int (r9 1)) ∧ w' = ([x0, x1, x2, x3, x4, x5, x6, ob 2 [.ref 8, .ref 9], x8, ia 4 r9, x10, x11, x12, x13, x14, x15, x16, x17, x18, x19, x20, x21, x22, x23, x24, x25, x26, x27, x28, x29, x30, x31, x32], wm)) := by
  refine ct_of ⟨by decide, rfl⟩ (Nat.le_of_ble_eq_true rfl) ?_
  refine ab_iload_n dX2_count_0 rfl ?_
  refine ab_iflt 18 dX2_count_1 (by decide) (fun h_1 => absurd h_1 (by decide)) (fun h_1 => ?_)
  refine ab_iload_n dX2_count_4 rfl ?_
  refine ab_iconst (v := 4) dX2_count_5 (by decide) ?_
  refine ab_icmpge 18 dX2_count_6 (by decide) (fun h_2 => absurd h_2 (by decide)) (fun h_2 => ?_)
  refine ab_aload_n dX2_count_9 rfl ?_
  refine ab_getf dX2_count_10 fl_X2_15 rfl rfl ?_
  refine ab_iload_n dX2_count_13 rfl ?_
  refine ab_iald (j := 1) dX2_count_14 rfl (ix_c (by decide)) ?_
  refine ab_goto 19 dX2_count_15 (by decide) ?_
  exact ab_iret dX2_count_19 rfl (by decide) (⟨rfl, rfl⟩)
theorem c_X2_count_7_2 {x0 x1 x2 x3 x4 x5 x6 x8 x10 x11 x12 x13 x14 x15 x16 x17 x18 x19 x20 x21 x22 x23 x24 x25 x26 x27 x28 x29 x30 x31 x32 : ax_E} {r9 : Nat → Int32} {wm : List ax_E}  : Ct M_X2_count [.ref 7, .int 2] ([x0, x1, x2, x3, x4, x5, x6, ob 2 [.ref 8, .ref 9], x8, ia 4 r9, x10, x11, x12, x13, x14, x15, x16, x17, x18, x19, x20, x21, x22, x23, x24, x25, x26, x27, x28, x29, x30, x31, x32], wm) (fun r w' => r = some (.int (r9 2)) ∧ w' = ([x0, x1, x2, x3, x4, x5, x6, ob 2 [.ref 8, .ref 9], x8, ia 4 r9, x10, x11, x12, x13, x14, x15, x16, x17, x18, x19, x20, x21, x22, x23, x24, x25, x26, x27, x28, x29, x30, x31, x32], wm)) := by
  refine ct_of ⟨by decide, rfl⟩ (Nat.le_of_ble_eq_true rfl) ?_
  refine ab_iload_n dX2_count_0 rfl ?_
  refine ab_iflt 18 dX2_count_1 (by decide) (fun h_1 => absurd h_1 (by decide)) (fun h_1 => ?_)
  refine ab_iload_n dX2_count_4 rfl ?_
  refine ab_iconst (v := 4) dX2_count_5 (by decide) ?_
  refine ab_icmpge 18 dX2_count_6 (by decide) (fun h_2 => absurd h_2 (by decide)) (fun h_2 => ?_)
  refine ab_aload_n dX2_count_9 rfl ?_
  refine ab_getf dX2_count_10 fl_X2_15 rfl rfl ?_
  refine ab_iload_n dX2_count_13 rfl ?_
  refine ab_iald (j := 2) dX2_count_14 rfl (ix_c (by decide)) ?_
  refine ab_goto 19 dX2_count_15 (by decide) ?_
  exact ab_iret dX2_count_19 rfl (by decide) (⟨rfl, rfl⟩)
theorem c_X2_count_7_3 {x0 x1 x2 x3 x4 x5 x6 x8 x10 x11 x12 x13 x14 x15 x16 x17 x18 x19 x20 x21 x22 x23 x24 x25 x26 x27 x28 x29 x30 x31 x32 : ax_E} {r9 : Nat → Int32} {wm : List ax_E}  : Ct M_X2_count [.ref 7, .int 3] ([x0, x1, x2, x3, x4, x5, x6, ob 2 [.ref 8, .ref 9], x8, ia 4 r9, x10, x11, x12, x13, x14, x15, x16, x17, x18, x19, x20, x21, x22, x23, x24, x25, x26, x27, x28, x29, x30, x31, x32], wm) (fun r w' => r = some (.int (r9 3)) ∧ w' = ([x0, x1, x2, x3, x4, x5, x6, ob 2 [.ref 8, .ref 9], x8, ia 4 r9, x10, x11, x12, x13, x14, x15, x16, x17, x18, x19, x20, x21, x22, x23, x24, x25, x26, x27, x28, x29, x30, x31, x32], wm)) := by
  refine ct_of ⟨by decide, rfl⟩ (Nat.le_of_ble_eq_true rfl) ?_
  refine ab_iload_n dX2_count_0 rfl ?_
  refine ab_iflt 18 dX2_count_1 (by decide) (fun h_1 => absurd h_1 (by decide)) (fun h_1 => ?_)
  refine ab_iload_n dX2_count_4 rfl ?_
  refine ab_iconst (v := 4) dX2_count_5 (by decide) ?_
  refine ab_icmpge 18 dX2_count_6 (by decide) (fun h_2 => absurd h_2 (by decide)) (fun h_2 => ?_)
  refine ab_aload_n dX2_count_9 rfl ?_
  refine ab_getf dX2_count_10 fl_X2_15 rfl rfl ?_
  refine ab_iload_n dX2_count_13 rfl ?_
  refine ab_iald (j := 3) dX2_count_14 rfl (ix_c (by decide)) ?_
  refine ab_goto 19 dX2_count_15 (by decide) ?_
  exact ab_iret dX2_count_19 rfl (by decide) (⟨rfl, rfl⟩)
theorem c_X2_has_0 {x0 x1 x2 x3 x5 x7 x8 x9 x10 x11 x12 x13 x14 x15 x16 x17 x18 x19 x20 x21 x22 x23 x24 x25 x26 x27 x28 x29 x30 x31 x32 : ax_E} {r6 : Nat → Int32} {wm : List ax_E} {a2 : Int32}  : Ct M_X2_has [.ref 4, .int 0, .int a2] ([x0, x1, x2, x3, ob 2 [.ref 5, .ref 6], x5, ia 4 r6, x7, x8, x9, x10, x11, x12, x13, x14, x15, x16, x17, x18, x19, x20, x21, x22, x23, x24, x25, x26, x27, x28, x29, x30, x31, x32], wm) (fun r w' => ((0 ≤ a2 ∧ a2 < r6 0) ∧ r = some (.int 1) ∧ w' = ([x0, x1, x2, x3, ob 2 [.ref 5, .ref 6], x5, ia 4 r6, x7, x8, x9, x10, x11, x12, x13, x14, x15, x16, x17, x18, x19, x20, x21, x22, x23, x24, x25, x26, x27, x28, x29, x30, x31, x32], wm)) ∨ ((¬ (0 ≤ a2 ∧ a2 < r6 0)) ∧ r = some (.int 0) ∧ w' = ([x0, x1, x2, x3, ob 2 [.ref 5, .ref 6], x5, ia 4 r6, x7, x8, x9, x10, x11, x12, x13, x14, x15, x16, x17, x18, x19, x20, x21, x22, x23, x24, x25, x26, x27, x28, x29, x30, x31, x32], wm))) := by
  refine ct_of ⟨by decide, rfl⟩ (Nat.le_of_ble_eq_true rfl) ?_
  refine ab_iload_n dX2_has_0 rfl ?_
  refine ab_iflt 27 dX2_has_1 (by decide) (fun h_1 => absurd h_1 (by decide)) (fun h_1 => ?_)
  refine ab_iload_n dX2_has_4 rfl ?_
  refine ab_iconst (v := 4) dX2_has_5 (by decide) ?_
  refine ab_icmpge 27 dX2_has_6 (by decide) (fun h_2 => absurd h_2 (by decide)) (fun h_2 => ?_)
  refine ab_iload_n dX2_has_9 rfl ?_
  refine ab_iflt 27 dX2_has_10 (by decide) (fun h_3 => ?_) (fun h_3 => ?_)
  · refine ab_iconst (v := 0) dX2_has_27 (by decide) ?_
    exact ab_zret dX2_has_28 rfl rfl (by decide) (Or.inr (⟨(by grind), rfl, rfl⟩))
  · refine ab_iload_n dX2_has_13 rfl ?_
    refine ab_aload_n dX2_has_14 rfl ?_
    refine ab_getf dX2_has_15 fl_X2_15 rfl rfl ?_
    refine ab_iload_n dX2_has_18 rfl ?_
    refine ab_iald (j := 0) dX2_has_19 rfl (ix_c (by decide)) ?_
    refine ab_icmpge 27 dX2_has_20 (by decide) (fun h_4 => ?_) (fun h_4 => ?_)
    · refine ab_iconst (v := 0) dX2_has_27 (by decide) ?_
      exact ab_zret dX2_has_28 rfl rfl (by decide) (Or.inr (⟨(by grind), rfl, rfl⟩))
    · refine ab_iconst (v := 1) dX2_has_23 (by decide) ?_
      refine ab_goto 28 dX2_has_24 (by decide) ?_
      exact ab_zret dX2_has_28 rfl rfl (by decide) (Or.inl (⟨(by grind), rfl, rfl⟩))
theorem c_X2_has_1 {x0 x1 x2 x3 x5 x7 x8 x9 x10 x11 x12 x13 x14 x15 x16 x17 x18 x19 x20 x21 x22 x23 x24 x25 x26 x27 x28 x29 x30 x31 x32 : ax_E} {r6 : Nat → Int32} {wm : List ax_E} {a2 : Int32}  : Ct M_X2_has [.ref 4, .int 1, .int a2] ([x0, x1, x2, x3, ob 2 [.ref 5, .ref 6], x5, ia 4 r6, x7, x8, x9, x10, x11, x12, x13, x14, x15, x16, x17, x18, x19, x20, x21, x22, x23, x24, x25, x26, x27, x28, x29, x30, x31, x32], wm) (fun r w' => ((0 ≤ a2 ∧ a2 < r6 1) ∧ r = some (.int 1) ∧ w' = ([x0, x1, x2, x3, ob 2 [.ref 5, .ref 6], x5, ia 4 r6, x7, x8, x9, x10, x11, x12, x13, x14, x15, x16, x17, x18, x19, x20, x21, x22, x23, x24, x25, x26, x27, x28, x29, x30, x31, x32], wm)) ∨ ((¬ (0 ≤ a2 ∧ a2 < r6 1)) ∧ r = some (.int 0) ∧ w' = ([x0, x1, x2, x3, ob 2 [.ref 5, .ref 6], x5, ia 4 r6, x7, x8, x9, x10, x11, x12, x13, x14, x15, x16, x17, x18, x19, x20, x21, x22, x23, x24, x25, x26, x27, x28, x29, x30, x31, x32], wm))) := by
  refine ct_of ⟨by decide, rfl⟩ (Nat.le_of_ble_eq_true rfl) ?_
  refine ab_iload_n dX2_has_0 rfl ?_
  refine ab_iflt 27 dX2_has_1 (by decide) (fun h_1 => absurd h_1 (by decide)) (fun h_1 => ?_)
  refine ab_iload_n dX2_has_4 rfl ?_
  refine ab_iconst (v := 4) dX2_has_5 (by decide) ?_
  refine ab_icmpge 27 dX2_has_6 (by decide) (fun h_2 => absurd h_2 (by decide)) (fun h_2 => ?_)
  refine ab_iload_n dX2_has_9 rfl ?_
  refine ab_iflt 27 dX2_has_10 (by decide) (fun h_3 => ?_) (fun h_3 => ?_)
  · refine ab_iconst (v := 0) dX2_has_27 (by decide) ?_
    exact ab_zret dX2_has_28 rfl rfl (by decide) (Or.inr (⟨(by grind), rfl, rfl⟩))
  · refine ab_iload_n dX2_has_13 rfl ?_
    refine ab_aload_n dX2_has_14 rfl ?_
    refine ab_getf dX2_has_15 fl_X2_15 rfl rfl ?_
    refine ab_iload_n dX2_has_18 rfl ?_
    refine ab_iald (j := 1) dX2_has_19 rfl (ix_c (by decide)) ?_
    refine ab_icmpge 27 dX2_has_20 (by decide) (fun h_4 => ?_) (fun h_4 => ?_)
    · refine ab_iconst (v := 0) dX2_has_27 (by decide) ?_
      exact ab_zret dX2_has_28 rfl rfl (by decide) (Or.inr (⟨(by grind), rfl, rfl⟩))
    · refine ab_iconst (v := 1) dX2_has_23 (by decide) ?_
      refine ab_goto 28 dX2_has_24 (by decide) ?_
      exact ab_zret dX2_has_28 rfl rfl (by decide) (Or.inl (⟨(by grind), rfl, rfl⟩))
theorem c_X2_has_2 {x0 x1 x2 x3 x5 x7 x8 x9 x10 x11 x12 x13 x14 x15 x16 x17 x18 x19 x20 x21 x22 x23 x24 x25 x26 x27 x28 x29 x30 x31 x32 : ax_E} {r6 : Nat → Int32} {wm : List ax_E} {a2 : Int32}  : Ct M_X2_has [.ref 4, .int 2, .int a2] ([x0, x1, x2, x3, ob 2 [.ref 5, .ref 6], x5, ia 4 r6, x7, x8, x9, x10, x11, x12, x13, x14, x15, x16, x17, x18, x19, x20, x21, x22, x23, x24, x25, x26, x27, x28, x29, x30, x31, x32], wm) (fun r w' => ((0 ≤ a2 ∧ a2 < r6 2) ∧ r = some (.int 1) ∧ w' = ([x0, x1, x2, x3, ob 2 [.ref 5, .ref 6], x5, ia 4 r6, x7, x8, x9, x10, x11, x12, x13, x14, x15, x16, x17, x18, x19, x20, x21, x22, x23, x24, x25, x26, x27, x28, x29, x30, x31, x32], wm)) ∨ ((¬ (0 ≤ a2 ∧ a2 < r6 2)) ∧ r = some (.int 0) ∧ w' = ([x0, x1, x2, x3, ob 2 [.ref 5, .ref 6], x5, ia 4 r6, x7, x8, x9, x10, x11, x12, x13, x14, x15, x16, x17, x18, x19, x20, x21, x22, x23, x24, x25, x26, x27, x28, x29, x30, x31, x32], wm))) := by
  refine ct_of ⟨by decide, rfl⟩ (Nat.le_of_ble_eq_true rfl) ?_
  refine ab_iload_n dX2_has_0 rfl ?_
  refine ab_iflt 27 dX2_has_1 (by decide) (fun h_1 => absurd h_1 (by decide)) (fun h_1 => ?_)
  refine ab_iload_n dX2_has_4 rfl ?_
  refine ab_iconst (v := 4) dX2_has_5 (by decide) ?_
  refine ab_icmpge 27 dX2_has_6 (by decide) (fun h_2 => absurd h_2 (by decide)) (fun h_2 => ?_)
  refine ab_iload_n dX2_has_9 rfl ?_
  refine ab_iflt 27 dX2_has_10 (by decide) (fun h_3 => ?_) (fun h_3 => ?_)
  · refine ab_iconst (v := 0) dX2_has_27 (by decide) ?_
    exact ab_zret dX2_has_28 rfl rfl (by decide) (Or.inr (⟨(by grind), rfl, rfl⟩))
  · refine ab_iload_n dX2_has_13 rfl ?_
    refine ab_aload_n dX2_has_14 rfl ?_
    refine ab_getf dX2_has_15 fl_X2_15 rfl rfl ?_
    refine ab_iload_n dX2_has_18 rfl ?_
    refine ab_iald (j := 2) dX2_has_19 rfl (ix_c (by decide)) ?_
    refine ab_icmpge 27 dX2_has_20 (by decide) (fun h_4 => ?_) (fun h_4 => ?_)
    · refine ab_iconst (v := 0) dX2_has_27 (by decide) ?_
      exact ab_zret dX2_has_28 rfl rfl (by decide) (Or.inr (⟨(by grind), rfl, rfl⟩))
    · refine ab_iconst (v := 1) dX2_has_23 (by decide) ?_
      refine ab_goto 28 dX2_has_24 (by decide) ?_
      exact ab_zret dX2_has_28 rfl rfl (by decide) (Or.inl (⟨(by grind), rfl, rfl⟩))
theorem c_X2_has_3 {x0 x1 x2 x3 x5 x7 x8 x9 x10 x11 x12 x13 x14 x15 x16 x17 x18 x19 x20 x21 x22 x23 x24 x25 x26 x27 x28 x29 x30 x31 x32 : ax_E} {r6 : Nat → Int32} {wm : List ax_E} {a2 : Int32}  : Ct M_X2_has [.ref 4, .int 3, .int a2] ([x0, x1, x2, x3, ob 2 [.ref 5, .ref 6], x5, ia 4 r6, x7, x8, x9, x10, x11, x12, x13, x14, x15, x16, x17, x18, x19, x20, x21, x22, x23, x24, x25, x26, x27, x28, x29, x30, x31, x32], wm) (fun r w' => ((0 ≤ a2 ∧ a2 < r6 3) ∧ r = some (.int 1) ∧ w' = ([x0, x1, x2, x3, ob 2 [.ref 5, .ref 6], x5, ia 4 r6, x7, x8, x9, x10, x11, x12, x13, x14, x15, x16, x17, x18, x19, x20, x21, x22, x23, x24, x25, x26, x27, x28, x29, x30, x31, x32], wm)) ∨ ((¬ (0 ≤ a2 ∧ a2 < r6 3)) ∧ r = some (.int 0) ∧ w' = ([x0, x1, x2, x3, ob 2 [.ref 5, .ref 6], x5, ia 4 r6, x7, x8, x9, x10, x11, x12, x13, x14, x15, x16, x17, x18, x19, x20, x21, x22, x23, x24, x25, x26, x27, x28, x29, x30, x31, x32], wm))) := by
  refine ct_of ⟨by decide, rfl⟩ (Nat.le_of_ble_eq_true rfl) ?_
  refine ab_iload_n dX2_has_0 rfl ?_
  refine ab_iflt 27 dX2_has_1 (by decide) (fun h_1 => absurd h_1 (by decide)) (fun h_1 => ?_)
  refine ab_iload_n dX2_has_4 rfl ?_
  refine ab_iconst (v := 4) dX2_has_5 (by decide) ?_
  refine ab_icmpge 27 dX2_has_6 (by decide) (fun h_2 => absurd h_2 (by decide)) (fun h_2 => ?_)
  refine ab_iload_n dX2_has_9 rfl ?_
  refine ab_iflt 27 dX2_has_10 (by decide) (fun h_3 => ?_) (fun h_3 => ?_)
  · refine ab_iconst (v := 0) dX2_has_27 (by decide) ?_
    exact ab_zret dX2_has_28 rfl rfl (by decide) (Or.inr (⟨(by grind), rfl, rfl⟩))
  · refine ab_iload_n dX2_has_13 rfl ?_
    refine ab_aload_n dX2_has_14 rfl ?_
    refine ab_getf dX2_has_15 fl_X2_15 rfl rfl ?_
    refine ab_iload_n dX2_has_18 rfl ?_
    refine ab_iald (j := 3) dX2_has_19 rfl (ix_c (by decide)) ?_
    refine ab_icmpge 27 dX2_has_20 (by decide) (fun h_4 => ?_) (fun h_4 => ?_)
    · refine ab_iconst (v := 0) dX2_has_27 (by decide) ?_
      exact ab_zret dX2_has_28 rfl rfl (by decide) (Or.inr (⟨(by grind), rfl, rfl⟩))
    · refine ab_iconst (v := 1) dX2_has_23 (by decide) ?_
      refine ab_goto 28 dX2_has_24 (by decide) ?_
      exact ab_zret dX2_has_28 rfl rfl (by decide) (Or.inl (⟨(by grind), rfl, rfl⟩))
