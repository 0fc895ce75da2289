theorem c_X4_cell_00m {x0 x1 x2 x3 x4 x5 x6 x7 x8 x9 x10 x11 x12 x13 x14 x15 x16 x17 x23 x24 x25 x26 x27 x28 x29 x30 x31 x32 : ax_E} {f18_6 f18_7 f18_8 f18_9 f18_10 : Int32} {f18_11 f18_12 : Int64} {r19 r20 r21 r22 : Nat → Int64} {wm : List ax_E}  : Ct M_X4_cell [.ref 18, .int 0, .int 0, .int (-1)] ([x0, x1, x2, x3, x4, x5, x6, x7, x8, x9, x10, x11, x12, x13, x14, x15, x16, x17, ob 4 [.ref 19, .ref 20, .ref 21, .ref 22, .ref 23, .ref 24, .int f18_6, .int f18_7, .int f18_8, .int f18_9, .int f18_10, .long f18_11, .long f18_12], ja 4 r19, ja 4 r20, ja 4 r21, ja 4 r22, x23, x24, x25, x26, x27, x28, x29, x30, x31, x32], wm) (fun r w' => r = some (.long (r20 0)) ∧ w' = ([x0, x1, x2, x3, x4, x5, x6, x7, x8, x9, x10, x11, x12, x13, x14, x15, x16, x17, ob 4 [.ref 19, .ref 20, .ref 21, .ref 22, .ref 23, .ref 24, .int f18_6, .int f18_7, .int f18_8, .int f18_9, .int f18_10, .long f18_11, .long f18_12], ja 4 r19, ja 4 r20, ja 4 r21, ja 4 r22, x23, x24, x25, x26, x27, x28, x29, x30, x31, x32], wm)) := by
  refine ct_of ⟨by decide, rfl⟩ (Nat.le_of_ble_eq_true rfl) ?_
  refine ab_iload_n dX4_cell_0 rfl ?_
  refine ab_iload_n dX4_cell_1 rfl ?_
  refine ab_icmpne 12 dX4_cell_2 (by decide) (fun h_1 => ?_) (fun h_1 => absurd h_1 (by decide))
  refine ab_iload_n dX4_cell_12 rfl ?_
  refine ab_ifne 23 dX4_cell_13 (by decide) (fun h_2 => absurd (by decide) h_2) (fun h_2 => ?_)
  refine ab_aload_n dX4_cell_16 rfl ?_
  refine ab_getf dX4_cell_17 fl_X4_15 rfl rfl ?_
  refine ab_iload_n dX4_cell_20 rfl ?_
  refine ab_lald (j := 0) dX4_cell_21 rfl (ix_c (by decide)) ?_
  exact ab_lret dX4_cell_22 rfl (by decide) (⟨rfl, rfl⟩)
theorem c_X4_cell_01m {x0 x1 x2 x3 x4 x5 x6 x7 x8 x9 x10 x11 x12 x13 x14 x15 x16 x17 x23 x24 x25 x26 x27 x28 x29 x30 x31 x32 : ax_E} {f18_6 f18_7 f18_8 f18_9 f18_10 : Int32} {f18_11 f18_12 : Int64} {r19 r20 r21 r22 : Nat → Int64} {wm : List ax_E}  : Ct M_X4_cell [.ref 18, .int 0, .int 1, .int (-1)] ([x0, x1, x2, x3, x4, x5, x6, x7, x8, x9, x10, x11, x12, x13, x14, x15, x16, x17, ob 4 [.ref 19, .ref 20, .ref 21, .ref 22, .ref 23, .ref 24, .int f18_6, .int f18_7, .int f18_8, .int f18_9, .int f18_10, .long f18_11, .long f18_12], ja 4 r19, ja 4 r20, ja 4 r21, ja 4 r22, x23, x24, x25, x26, x27, x28, x29, x30, x31, x32], wm) (fun r w' => r = some (.long (-(r19 0))) ∧ w' = ([x0, x1, x2, x3, x4, x5, x6, x7, x8, x9, x10, x11, x12, x13, x14, x15, x16, x17, ob 4 [.ref 19, .ref 20, .ref 21, .ref 22, .ref 23, .ref 24, .int f18_6, .int f18_7, .int f18_8, .int f18_9, .int f18_10, .long f18_11, .long f18_12], ja 4 r19, ja 4 r20, ja 4 r21, ja 4 r22, x23, x24, x25, x26, x27, x28, x29, x30, x31, x32], wm)) := by
  refine ct_of ⟨by decide, rfl⟩ (Nat.le_of_ble_eq_true rfl) ?_
  refine ab_iload_n dX4_cell_0 rfl ?_
  refine ab_iload_n dX4_cell_1 rfl ?_
  refine ab_icmpne 12 dX4_cell_2 (by decide) (fun h_1 => ?_) (fun h_1 => absurd h_1 (by decide))
  refine ab_iload_n dX4_cell_12 rfl ?_
  refine ab_ifne 23 dX4_cell_13 (by decide) (fun h_2 => ?_) (fun h_2 => absurd h_2 (by decide))
  refine ab_iload_n dX4_cell_23 rfl ?_
  refine ab_iconst (v := 1) dX4_cell_24 (by decide) ?_
  refine ab_icmpne 38 dX4_cell_25 (by decide) (fun h_3 => absurd (by decide) h_3) (fun h_3 => ?_)
  refine ab_aload_n dX4_cell_28 rfl ?_
  refine ab_getf dX4_cell_29 fl_X4_11 rfl rfl ?_
  refine ab_iload_n dX4_cell_32 rfl ?_
  refine ab_lald (j := 0) dX4_cell_33 rfl (ix_c (by decide)) ?_
  refine ab_lneg dX4_cell_34 ?_
  refine ab_goto 44 dX4_cell_35 (by decide) ?_
  exact ab_lret dX4_cell_44 rfl (by decide) (⟨rfl, rfl⟩)
theorem c_X4_cell_02m {x0 x1 x2 x3 x4 x5 x6 x7 x8 x9 x10 x11 x12 x13 x14 x15 x16 x17 x23 x24 x25 x26 x27 x28 x29 x30 x31 x32 : ax_E} {f18_6 f18_7 f18_8 f18_9 f18_10 : Int32} {f18_11 f18_12 : Int64} {r19 r20 r21 r22 : Nat → Int64} {wm : List ax_E}  : Ct M_X4_cell [.ref 18, .int 0, .int 2, .int (-1)] ([x0, x1, x2, x3, x4, x5, x6, x7, x8, x9, x10, x11, x12, x13, x14, x15, x16, x17, ob 4 [.ref 19, .ref 20, .ref 21, .ref 22, .ref 23, .ref 24, .int f18_6, .int f18_7, .int f18_8, .int f18_9, .int f18_10, .long f18_11, .long f18_12], ja 4 r19, ja 4 r20, ja 4 r21, ja 4 r22, x23, x24, x25, x26, x27, x28, x29, x30, x31, x32], wm) (fun r w' => r = some (.long (r22 0)) ∧ w' = ([x0, x1, x2, x3, x4, x5, x6, x7, x8, x9, x10, x11, x12, x13, x14, x15, x16, x17, ob 4 [.ref 19, .ref 20, .ref 21, .ref 22, .ref 23, .ref 24, .int f18_6, .int f18_7, .int f18_8, .int f18_9, .int f18_10, .long f18_11, .long f18_12], ja 4 r19, ja 4 r20, ja 4 r21, ja 4 r22, x23, x24, x25, x26, x27, x28, x29, x30, x31, x32], wm)) := by
  refine ct_of ⟨by decide, rfl⟩ (Nat.le_of_ble_eq_true rfl) ?_
  refine ab_iload_n dX4_cell_0 rfl ?_
  refine ab_iload_n dX4_cell_1 rfl ?_
  refine ab_icmpne 12 dX4_cell_2 (by decide) (fun h_1 => ?_) (fun h_1 => absurd h_1 (by decide))
  refine ab_iload_n dX4_cell_12 rfl ?_
  refine ab_ifne 23 dX4_cell_13 (by decide) (fun h_2 => ?_) (fun h_2 => absurd h_2 (by decide))
  refine ab_iload_n dX4_cell_23 rfl ?_
  refine ab_iconst (v := 1) dX4_cell_24 (by decide) ?_
  refine ab_icmpne 38 dX4_cell_25 (by decide) (fun h_3 => ?_) (fun h_3 => absurd h_3 (by decide))
  refine ab_aload_n dX4_cell_38 rfl ?_
  refine ab_getf dX4_cell_39 fl_X4_21 rfl rfl ?_
  refine ab_iload_n dX4_cell_42 rfl ?_
  refine ab_lald (j := 0) dX4_cell_43 rfl (ix_c (by decide)) ?_
  exact ab_lret dX4_cell_44 rfl (by decide) (⟨rfl, rfl⟩)
theorem c_X4_cell_10m {x0 x1 x2 x3 x4 x5 x6 x7 x8 x9 x10 x11 x12 x13 x14 x15 x16 x17 x23 x24 x25 x26 x27 x28 x29 x30 x31 x32 : ax_E} {f18_6 f18_7 f18_8 f18_9 f18_10 : Int32} {f18_11 f18_12 : Int64} {r19 r20 r21 r22 : Nat → Int64} {wm : List ax_E}  : Ct M_X4_cell [.ref 18, .int 1, .int 0, .int (-1)] ([x0, x1, x2, x3, x4, x5, x6, x7, x8, x9, x10, x11, x12, x13, x14, x15, x16, x17, ob 4 [.ref 19, .ref 20, .ref 21, .ref 22, .ref 23, .ref 24, .int f18_6, .int f18_7, .int f18_8, .int f18_9, .int f18_10, .long f18_11, .long f18_12], ja 4 r19, ja 4 r20, ja 4 r21, ja 4 r22, x23, x24, x25, x26, x27, x28, x29, x30, x31, x32], wm) (fun r w' => r = some (.long (r20 1)) ∧ w' = ([x0, x1, x2, x3, x4, x5, x6, x7, x8, x9, x10, x11, x12, x13, x14, x15, x16, x17, ob 4 [.ref 19, .ref 20, .ref 21, .ref 22, .ref 23, .ref 24, .int f18_6, .int f18_7, .int f18_8, .int f18_9, .int f18_10, .long f18_11, .long f18_12], ja 4 r19, ja 4 r20, ja 4 r21, ja 4 r22, x23, x24, x25, x26, x27, x28, x29, x30, x31, x32], wm)) := by
  refine ct_of ⟨by decide, rfl⟩ (Nat.le_of_ble_eq_true rfl) ?_
  refine ab_iload_n dX4_cell_0 rfl ?_
  refine ab_iload_n dX4_cell_1 rfl ?_
  refine ab_icmpne 12 dX4_cell_2 (by decide) (fun h_1 => ?_) (fun h_1 => absurd h_1 (by decide))
  refine ab_iload_n dX4_cell_12 rfl ?_
  refine ab_ifne 23 dX4_cell_13 (by decide) (fun h_2 => absurd (by decide) h_2) (fun h_2 => ?_)
  refine ab_aload_n dX4_cell_16 rfl ?_
  refine ab_getf dX4_cell_17 fl_X4_15 rfl rfl ?_
  refine ab_iload_n dX4_cell_20 rfl ?_
  refine ab_lald (j := 1) dX4_cell_21 rfl (ix_c (by decide)) ?_
  exact ab_lret dX4_cell_22 rfl (by decide) (⟨rfl, rfl⟩)
theorem c_X4_cell_11m {x0 x1 x2 x3 x4 x5 x6 x7 x8 x9 x10 x11 x12 x13 x14 x15 x16 x17 x23 x24 x25 x26 x27 x28 x29 x30 x31 x32 : ax_E} {f18_6 f18_7 f18_8 f18_9 f18_10 : Int32} {f18_11 f18_12 : Int64} {r19 r20 r21 r22 : Nat → Int64} {wm : List ax_E}  : Ct M_X4_cell [.ref 18, .int 1, .int 1, .int (-1)] ([x0, x1, x2, x3, x4, x5, x6, x7, x8, x9, x10, x11, x12, x13, x14, x15, x16, x17, ob 4 [.ref 19, .ref 20, .ref 21, .ref 22, .ref 23, .ref 24, .int f18_6, .int f18_7, .int f18_8, .int f18_9, .int f18_10, .long f18_11, .long f18_12], ja 4 r19, ja 4 r20, ja 4 r21, ja 4 r22, x23, x24, x25, x26, x27, x28, x29, x30, x31, x32], wm) (fun r w' => r = some (.long (-(r19 1))) ∧ w' = ([x0, x1, x2, x3, x4, x5, x6, x7, x8, x9, x10, x11, x12, x13, x14, x15, x16, x17, ob 4 [.ref 19, .ref 20, .ref 21, .ref 22, .ref 23, .ref 24, .int f18_6, .int f18_7, .int f18_8, .int f18_9, .int f18_10, .long f18_11, .long f18_12], ja 4 r19, ja 4 r20, ja 4 r21, ja 4 r22, x23, x24, x25, x26, x27, x28, x29, x30, x31, x32], wm)) := by
  refine ct_of ⟨by decide, rfl⟩ (Nat.le_of_ble_eq_true rfl) ?_
  refine ab_iload_n dX4_cell_0 rfl ?_
  refine ab_iload_n dX4_cell_1 rfl ?_
  refine ab_icmpne 12 dX4_cell_2 (by decide) (fun h_1 => ?_) (fun h_1 => absurd h_1 (by decide))
  refine ab_iload_n dX4_cell_12 rfl ?_
  refine ab_ifne 23 dX4_cell_13 (by decide) (fun h_2 => ?_) (fun h_2 => absurd h_2 (by decide))
  refine ab_iload_n dX4_cell_23 rfl ?_
  refine ab_iconst (v := 1) dX4_cell_24 (by decide) ?_
  refine ab_icmpne 38 dX4_cell_25 (by decide) (fun h_3 => absurd (by decide) h_3) (fun h_3 => ?_)
  refine ab_aload_n dX4_cell_28 rfl ?_
  refine ab_getf dX4_cell_29 fl_X4_11 rfl rfl ?_
  refine ab_iload_n dX4_cell_32 rfl ?_
  refine ab_lald (j := 1) dX4_cell_33 rfl (ix_c (by decide)) ?_
  refine ab_lneg dX4_cell_34 ?_
  refine ab_goto 44 dX4_cell_35 (by decide) ?_
  exact ab_lret dX4_cell_44 rfl (by decide) (⟨rfl, rfl⟩)
theorem c_X4_cell_12m {x0 x1 x2 x3 x4 x5 x6 x7 x8 x9 x10 x11 x12 x13 x14 x15 x16 x17 x23 x24 x25 x26 x27 x28 x29 x30 x31 x32 : ax_E} {f18_6 f18_7 f18_8 f18_9 f18_10 : Int32} {f18_11 f18_12 : Int64} {r19 r20 r21 r22 : Nat → Int64} {wm : List ax_E}  : Ct M_X4_cell [.ref 18, .int 1, .int 2, .int (-1)] ([x0, x1, x2, x3, x4, x5, x6, x7, x8, x9, x10, x11, x12, x13, x14, x15, x16, x17, ob 4 [.ref 19, .ref 20, .ref 21, .ref 22, .ref 23, .ref 24, .int f18_6, .int f18_7, .int f18_8, .int f18_9, .int f18_10, .long f18_11, .long f18_12], ja 4 r19, ja 4 r20, ja 4 r21, ja 4 r22, x23, x24, x25, x26, x27, x28, x29, x30, x31, x32], wm) (fun r w' => r = some (.long (r22 1)) ∧ w' = ([x0, x1, x2, x3, x4, x5, x6, x7, x8, x9, x10, x11, x12, x13, x14, x15, x16, x17, ob 4 [.ref 19, .ref 20, .ref 21, .ref 22, .ref 23, .ref 24, .int f18_6, .int f18_7, .int f18_8, .int f18_9, .int f18_10, .long f18_11, .long f18_12], ja 4 r19, ja 4 r20, ja 4 r21, ja 4 r22, x23, x24, x25, x26, x27, x28, x29, x30, x31, x32], wm)) := by
  refine ct_of ⟨by decide, rfl⟩ (Nat.le_of_ble_eq_true rfl) ?_
  refine ab_iload_n dX4_cell_0 rfl ?_
  refine ab_iload_n dX4_cell_1 rfl ?_
  refine ab_icmpne 12 dX4_cell_2 (by decide) (fun h_1 => ?_) (fun h_1 => absurd h_1 (by decide))
  refine ab_iload_n dX4_cell_12 rfl ?_
  refine ab_ifne 23 dX4_cell_13 (by decide) (fun h_2 => ?_) (fun h_2 => absurd h_2 (by decide))
  refine ab_iload_n dX4_cell_23 rfl ?_
  refine ab_iconst (v := 1) dX4_cell_24 (by decide) ?_
  refine ab_icmpne 38 dX4_cell_25 (by decide) (fun h_3 => ?_) (fun h_3 => absurd h_3 (by decide))
  refine ab_aload_n dX4_cell_38 rfl ?_
  refine ab_getf dX4_cell_39 fl_X4_21 rfl rfl ?_
  refine ab_iload_n dX4_cell_42 rfl ?_
  refine ab_lald (j := 1) dX4_cell_43 rfl (ix_c (by decide)) ?_
  exact ab_lret dX4_cell_44 rfl (by decide) (⟨rfl, rfl⟩)
theorem c_X4_cell_20m {x0 x1 x2 x3 x4 x5 x6 x7 x8 x9 x10 x11 x12 x13 x14 x15 x16 x17 x23 x24 x25 x26 x27 x28 x29 x30 x31 x32 : ax_E} {f18_6 f18_7 f18_8 f18_9 f18_10 : Int32} {f18_11 f18_12 : Int64} {r19 r20 r21 r22 : Nat → Int64} {wm : List ax_E}  : Ct M_X4_cell [.ref 18, .int 2, .int 0, .int (-1)] ([x0, x1, x2, x3, x4, x5, x6, x7, x8, x9, x10, x11, x12, x13, x14, x15, x16, x17, ob 4 [.ref 19, .ref 20, .ref 21, .ref 22, .ref 23, .ref 24, .int f18_6, .int f18_7, .int f18_8, .int f18_9, .int f18_10, .long f18_11, .long f18_12], ja 4 r19, ja 4 r20, ja 4 r21, ja 4 r22, x23, x24, x25, x26, x27, x28, x29, x30, x31, x32], wm) (fun r w' => r = some (.long (r20 2)) ∧ w' = ([x0, x1, x2, x3, x4, x5, x6, x7, x8, x9, x10, x11, x12, x13, x14, x15, x16, x17, ob 4 [.ref 19, .ref 20, .ref 21, .ref 22, .ref 23, .ref 24, .int f18_6, .int f18_7, .int f18_8, .int f18_9, .int f18_10, .long f18_11, .long f18_12], ja 4 r19, ja 4 r20, ja 4 r21, ja 4 r22, x23, x24, x25, x26, x27, x28, x29, x30, x31, x32], wm)) := by
  refine ct_of ⟨by decide, rfl⟩ (Nat.le_of_ble_eq_true rfl) ?_
  refine ab_iload_n dX4_cell_0 rfl ?_
  refine ab_iload_n dX4_cell_1 rfl ?_
  refine ab_icmpne 12 dX4_cell_2 (by decide) (fun h_1 => ?_) (fun h_1 => absurd h_1 (by decide))
  refine ab_iload_n dX4_cell_12 rfl ?_
  refine ab_ifne 23 dX4_cell_13 (by decide) (fun h_2 => absurd (by decide) h_2) (fun h_2 => ?_)
  refine ab_aload_n dX4_cell_16 rfl ?_
  refine ab_getf dX4_cell_17 fl_X4_15 rfl rfl ?_
  refine ab_iload_n dX4_cell_20 rfl ?_
  refine ab_lald (j := 2) dX4_cell_21 rfl (ix_c (by decide)) ?_
  exact ab_lret dX4_cell_22 rfl (by decide) (⟨rfl, rfl⟩)
theorem c_X4_cell_21m {x0 x1 x2 x3 x4 x5 x6 x7 x8 x9 x10 x11 x12 x13 x14 x15 x16 x17 x23 x24 x25 x26 x27 x28 x29 x30 x31 x32 : ax_E} {f18_6 f18_7 f18_8 f18_9 f18_10 : Int32} {f18_11 f18_12 : Int64} {r19 r20 r21 r22 : Nat → Int64} {wm : List ax_E}  : Ct M_X4_cell [.ref 18, .int 2, .int 1, .int (-1)] ([x0, x1, x2, x3, x4, x5, x6, x7, x8, x9, x10, x11, x12, x13, x14, x15, x16, x17, ob 4 [.ref 19, .ref 20, .ref 21, .ref 22, .ref 23, .ref 24, .int f18_6, .int f18_7, .int f18_8, .int f18_9, .int f18_10, .long f18_11, .long f18_12], ja 4 r19, ja 4 r20, ja 4 r21, ja 4 r22, x23, x24, x25, x26, x27, x28, x29, x30, x31, x32], wm) (fun r w' => r = some (.long (-(r19 2))) ∧ w' = ([x0, x1, x2, x3, x4, x5, x6, x7, x8, x9, x10, x11, x12, x13, x14, x15, x16, x17, ob 4 [.ref 19, .ref 20, .ref 21, .ref 22, .ref 23, .ref 24, .int f18_6, .int f18_7, .int f18_8, .int f18_9, .int f18_10, .long f18_11, .long f18_12], ja 4 r19, ja 4 r20, ja 4 r21, ja 4 r22, x23, x24, x25, x26, x27, x28, x29, x30, x31, x32], wm)) := by
  refine ct_of ⟨by decide, rfl⟩ (Nat.le_of_ble_eq_true rfl) ?_
  refine ab_iload_n dX4_cell_0 rfl ?_
  refine ab_iload_n dX4_cell_1 rfl ?_
  refine ab_icmpne 12 dX4_cell_2 (by decide) (fun h_1 => ?_) (fun h_1 => absurd h_1 (by decide))
  refine ab_iload_n dX4_cell_12 rfl ?_
  refine ab_ifne 23 dX4_cell_13 (by decide) (fun h_2 => ?_) (fun h_2 => absurd h_2 (by decide))
  refine ab_iload_n dX4_cell_23 rfl ?_
  refine ab_iconst (v := 1) dX4_cell_24 (by decide) ?_
  refine ab_icmpne 38 dX4_cell_25 (by decide) (fun h_3 => absurd (by decide) h_3) (fun h_3 => ?_)
  refine ab_aload_n dX4_cell_28 rfl ?_
  refine ab_getf dX4_cell_29 fl_X4_11 rfl rfl ?_
  refine ab_iload_n dX4_cell_32 rfl ?_
  refine ab_lald (j := 2) dX4_cell_33 rfl (ix_c (by decide)) ?_
  refine ab_lneg dX4_cell_34 ?_
  refine ab_goto 44 dX4_cell_35 (by decide) ?_
  exact ab_lret dX4_cell_44 rfl (by decide) (⟨rfl, rfl⟩)
theorem c_X4_cell_22m {x0 x1 x2 x3 x4 x5 x6 x7 x8 x9 x10 x11 x12 x13 x14 x15 x16 x17 x23 x24 x25 x26 x27 x28 x29 x30 x31 x32 : ax_E} {f18_6 f18_7 f18_8 f18_9 f18_10 : Int32} {f18_11 f18_12 : Int64} {r19 r20 r21 r22 : Nat → Int64} {wm : List ax_E}  : Ct M_X4_cell [.ref 18, .int 2, .int 2, .int (-1)] ([x0, x1, x2, x3, x4, x5, x6, x7, x8, x9, x10, x11, x12, x13, x14, x15, x16, x17, ob 4 [.ref 19, .ref 20, .ref 21, .ref 22, .ref 23, .ref 24, .int f18_6, .int f18_7, .int f18_8, .int f18_9, .int f18_10, .long f18_11, .long f18_12], ja 4 r19, ja 4 r20, ja 4 r21, ja 4 r22, x23, x24, x25, x26, x27, x28, x29, x30, x31, x32], wm) (fun r w' => r = some (.long (r22 2)) ∧ w' = ([x0, x1, x2, x3, x4, x5, x6, x7, x8, x9, x10, x11, x12, x13, x14, x15, x16, x17, ob 4 [.ref 19, .ref 20, .ref 21, .ref 22, .ref 23, .ref 24, .int f18_6, .int f18_7, .int f18_8, .int f18_9, .int f18_10, .long f18_11, .long f18_12], ja 4 r19, ja 4 r20, ja 4 r21, ja 4 r22, x23, x24, x25, x26, x27, x28, x29, x30, x31, x32], wm)) := by
  refine ct_of ⟨by decide, rfl⟩ (Nat.le_of_ble_eq_true rfl) ?_
  refine ab_iload_n dX4_cell_0 rfl ?_
  refine ab_iload_n dX4_cell_1 rfl ?_
  refine ab_icmpne 12 dX4_cell_2 (by decide) (fun h_1 => ?_) (fun h_1 => absurd h_1 (by decide))
  refine ab_iload_n dX4_cell_12 rfl ?_
  refine ab_ifne 23 dX4_cell_13 (by decide) (fun h_2 => ?_) (fun h_2 => absurd h_2 (by decide))
  refine ab_iload_n dX4_cell_23 rfl ?_
  refine ab_iconst (v := 1) dX4_cell_24 (by decide) ?_
  refine ab_icmpne 38 dX4_cell_25 (by decide) (fun h_3 => ?_) (fun h_3 => absurd h_3 (by decide))
  refine ab_aload_n dX4_cell_38 rfl ?_
  refine ab_getf dX4_cell_39 fl_X4_21 rfl rfl ?_
  refine ab_iload_n dX4_cell_42 rfl ?_
  refine ab_lald (j := 2) dX4_cell_43 rfl (ix_c (by decide)) ?_
  exact ab_lret dX4_cell_44 rfl (by decide) (⟨rfl, rfl⟩)
def Dn_12m (r19 : Nat → Int64) (r22 : Nat → Int64) : Int64 := (((-(r19 1)) * (r22 2)) - ((r22 1) * (-(r19 2))))
theorem c_X4_minor_12m {x0 x1 x2 x3 x4 x5 x6 x7 x8 x9 x10 x11 x12 x13 x14 x15 x16 x17 x23 x24 x25 x26 x27 x28 x29 x30 x31 x32 : ax_E} {f18_6 f18_7 f18_8 f18_9 f18_10 : Int32} {f18_11 f18_12 : Int64} {r19 r20 r21 r22 : Nat → Int64} {wm : List ax_E}  : Ct M_X4_minor [.ref 18, .int 1, .int 2, .int (-1)] ([x0, x1, x2, x3, x4, x5, x6, x7, x8, x9, x10, x11, x12, x13, x14, x15, x16, x17, ob 4 [.ref 19, .ref 20, .ref 21, .ref 22, .ref 23, .ref 24, .int f18_6, .int f18_7, .int f18_8, .int f18_9, .int f18_10, .long f18_11, .long f18_12], ja 4 r19, ja 4 r20, ja 4 r21, ja 4 r22, x23, x24, x25, x26, x27, x28, x29, x30, x31, x32], wm) (fun r w' => r = some (.long (Dn_12m r19 r22)) ∧ w' = ([x0, x1, x2, x3, x4, x5, x6, x7, x8, x9, x10, x11, x12, x13, x14, x15, x16, x17, ob 4 [.ref 19, .ref 20, .ref 21, .ref 22, .ref 23, .ref 24, .int f18_6, .int f18_7, .int f18_8, .int f18_9, .int f18_10, .long f18_11, .long f18_12], ja 4 r19, ja 4 r20, ja 4 r21, ja 4 r22, x23, x24, x25, x26, x27, x28, x29, x30, x31, x32], wm)) := by
  refine ct_of ⟨by decide, rfl⟩ (Nat.le_of_ble_eq_true rfl) ?_
  refine ab_aload_n dX4_minor_0 rfl ?_
  refine ab_iconst (v := 1) dX4_minor_1 (by decide) ?_
  refine ab_iload_n dX4_minor_2 rfl ?_
  refine ab_iload_n dX4_minor_3 rfl ?_
  refine ab_callV (As := [.int 1, .int 1, .int (-1)]) (rest := []) dX4_minor_4 mv_X4_cell ml_X4_115 ⟨by decide, by decide, rfl, rfl, rfl⟩ (by decide) rfl rfl (Nat.le_of_ble_eq_true rfl) rfl c_X4_cell_11m ?_
  rintro r w' ⟨rfl, rfl⟩
  refine ab_aload_n dX4_minor_7 rfl ?_
  refine ab_iconst (v := 2) dX4_minor_8 (by decide) ?_
  refine ab_iload_n dX4_minor_9 rfl ?_
  refine ab_iload_n dX4_minor_10 rfl ?_
  refine ab_callV (As := [.int 2, .int 2, .int (-1)]) (rest := [.long (-(r19 1))]) dX4_minor_11 mv_X4_cell ml_X4_115 ⟨by decide, by decide, rfl, rfl, rfl⟩ (by decide) rfl rfl (Nat.le_of_ble_eq_true rfl) rfl c_X4_cell_22m ?_
  rintro r w' ⟨rfl, rfl⟩
  refine ab_lmul dX4_minor_14 ?_
  refine ab_aload_n dX4_minor_15 rfl ?_
  refine ab_iconst (v := 1) dX4_minor_16 (by decide) ?_
  refine ab_iload_n dX4_minor_17 rfl ?_
  refine ab_iload_n dX4_minor_18 rfl ?_
  refine ab_callV (As := [.int 1, .int 2, .int (-1)]) (rest := [.long ((-(r19 1)) * (r22 2))]) dX4_minor_19 mv_X4_cell ml_X4_115 ⟨by decide, by decide, rfl, rfl, rfl⟩ (by decide) rfl rfl (Nat.le_of_ble_eq_true rfl) rfl c_X4_cell_12m ?_
  rintro r w' ⟨rfl, rfl⟩
  refine ab_aload_n dX4_minor_22 rfl ?_
  refine ab_iconst (v := 2) dX4_minor_23 (by decide) ?_
  refine ab_iload_n dX4_minor_24 rfl ?_
  refine ab_iload_n dX4_minor_25 rfl ?_
  refine ab_callV (As := [.int 2, .int 1, .int (-1)]) (rest := [.long (r22 1), .long ((-(r19 1)) * (r22 2))]) dX4_minor_26 mv_X4_cell ml_X4_115 ⟨by decide, by decide, rfl, rfl, rfl⟩ (by decide) rfl rfl (Nat.le_of_ble_eq_true rfl) rfl c_X4_cell_21m ?_
  rintro r w' ⟨rfl, rfl⟩
  refine ab_lmul dX4_minor_29 ?_
  refine ab_lsub dX4_minor_30 ?_
  exact ab_lret dX4_minor_31 rfl (by decide) (⟨rfl, rfl⟩)
def Dn_02m (r20 : Nat → Int64) (r22 : Nat → Int64) : Int64 := (((r20 1) * (r22 2)) - ((r22 1) * (r20 2)))
theorem c_X4_minor_02m {x0 x1 x2 x3 x4 x5 x6 x7 x8 x9 x10 x11 x12 x13 x14 x15 x16 x17 x23 x24 x25 x26 x27 x28 x29 x30 x31 x32 : ax_E} {f18_6 f18_7 f18_8 f18_9 f18_10 : Int32} {f18_11 f18_12 : Int64} {r19 r20 r21 r22 : Nat → Int64} {wm : List ax_E}  : Ct M_X4_minor [.ref 18, .int 0, .int 2, .int (-1)] ([x0, x1, x2, x3, x4, x5, x6, x7, x8, x9, x10, x11, x12, x13, x14, x15, x16, x17, ob 4 [.ref 19, .ref 20, .ref 21, .ref 22, .ref 23, .ref 24, .int f18_6, .int f18_7, .int f18_8, .int f18_9, .int f18_10, .long f18_11, .long f18_12], ja 4 r19, ja 4 r20, ja 4 r21, ja 4 r22, x23, x24, x25, x26, x27, x28, x29, x30, x31, x32], wm) (fun r w' => r = some (.long (Dn_02m r20 r22)) ∧ w' = ([x0, x1, x2, x3, x4, x5, x6, x7, x8, x9, x10, x11, x12, x13, x14, x15, x16, x17, ob 4 [.ref 19, .ref 20, .ref 21, .ref 22, .ref 23, .ref 24, .int f18_6, .int f18_7, .int f18_8, .int f18_9, .int f18_10, .long f18_11, .long f18_12], ja 4 r19, ja 4 r20, ja 4 r21, ja 4 r22, x23, x24, x25, x26, x27, x28, x29, x30, x31, x32], wm)) := by
  refine ct_of ⟨by decide, rfl⟩ (Nat.le_of_ble_eq_true rfl) ?_
  refine ab_aload_n dX4_minor_0 rfl ?_
  refine ab_iconst (v := 1) dX4_minor_1 (by decide) ?_
  refine ab_iload_n dX4_minor_2 rfl ?_
  refine ab_iload_n dX4_minor_3 rfl ?_
  refine ab_callV (As := [.int 1, .int 0, .int (-1)]) (rest := []) dX4_minor_4 mv_X4_cell ml_X4_115 ⟨by decide, by decide, rfl, rfl, rfl⟩ (by decide) rfl rfl (Nat.le_of_ble_eq_true rfl) rfl c_X4_cell_10m ?_
  rintro r w' ⟨rfl, rfl⟩
  refine ab_aload_n dX4_minor_7 rfl ?_
  refine ab_iconst (v := 2) dX4_minor_8 (by decide) ?_
  refine ab_iload_n dX4_minor_9 rfl ?_
  refine ab_iload_n dX4_minor_10 rfl ?_
  refine ab_callV (As := [.int 2, .int 2, .int (-1)]) (rest := [.long (r20 1)]) dX4_minor_11 mv_X4_cell ml_X4_115 ⟨by decide, by decide, rfl, rfl, rfl⟩ (by decide) rfl rfl (Nat.le_of_ble_eq_true rfl) rfl c_X4_cell_22m ?_
  rintro r w' ⟨rfl, rfl⟩
  refine ab_lmul dX4_minor_14 ?_
  refine ab_aload_n dX4_minor_15 rfl ?_
  refine ab_iconst (v := 1) dX4_minor_16 (by decide) ?_
  refine ab_iload_n dX4_minor_17 rfl ?_
  refine ab_iload_n dX4_minor_18 rfl ?_
  refine ab_callV (As := [.int 1, .int 2, .int (-1)]) (rest := [.long ((r20 1) * (r22 2))]) dX4_minor_19 mv_X4_cell ml_X4_115 ⟨by decide, by decide, rfl, rfl, rfl⟩ (by decide) rfl rfl (Nat.le_of_ble_eq_true rfl) rfl c_X4_cell_12m ?_
  rintro r w' ⟨rfl, rfl⟩
  refine ab_aload_n dX4_minor_22 rfl ?_
  refine ab_iconst (v := 2) dX4_minor_23 (by decide) ?_
  refine ab_iload_n dX4_minor_24 rfl ?_
  refine ab_iload_n dX4_minor_25 rfl ?_
  refine ab_callV (As := [.int 2, .int 0, .int (-1)]) (rest := [.long (r22 1), .long ((r20 1) * (r22 2))]) dX4_minor_26 mv_X4_cell ml_X4_115 ⟨by decide, by decide, rfl, rfl, rfl⟩ (by decide) rfl rfl (Nat.le_of_ble_eq_true rfl) rfl c_X4_cell_20m ?_
  rintro r w' ⟨rfl, rfl⟩
  refine ab_lmul dX4_minor_29 ?_
  refine ab_lsub dX4_minor_30 ?_
  exact ab_lret dX4_minor_31 rfl (by decide) (⟨rfl, rfl⟩)
def Dn_01m (r19 : Nat → Int64) (r20 : Nat → Int64) : Int64 := (((r20 1) * (-(r19 2))) - ((-(r19 1)) * (r20 2)))
theorem c_X4_minor_01m {x0 x1 x2 x3 x4 x5 x6 x7 x8 x9 x10 x11 x12 x13 x14 x15 x16 x17 x23 x24 x25 x26 x27 x28 x29 x30 x31 x32 : ax_E} {f18_6 f18_7 f18_8 f18_9 f18_10 : Int32} {f18_11 f18_12 : Int64} {r19 r20 r21 r22 : Nat → Int64} {wm : List ax_E}  : Ct M_X4_minor [.ref 18, .int 0, .int 1, .int (-1)] ([x0, x1, x2, x3, x4, x5, x6, x7, x8, x9, x10, x11, x12, x13, x14, x15, x16, x17, ob 4 [.ref 19, .ref 20, .ref 21, .ref 22, .ref 23, .ref 24, .int f18_6, .int f18_7, .int f18_8, .int f18_9, .int f18_10, .long f18_11, .long f18_12], ja 4 r19, ja 4 r20, ja 4 r21, ja 4 r22, x23, x24, x25, x26, x27, x28, x29, x30, x31, x32], wm) (fun r w' => r = some (.long (Dn_01m r19 r20)) ∧ w' = ([x0, x1, x2, x3, x4, x5, x6, x7, x8, x9, x10, x11, x12, x13, x14, x15, x16, x17, ob 4 [.ref 19, .ref 20, .ref 21, .ref 22, .ref 23, .ref 24, .int f18_6, .int f18_7, .int f18_8, .int f18_9, .int f18_10, .long f18_11, .long f18_12], ja 4 r19, ja 4 r20, ja 4 r21, ja 4 r22, x23, x24, x25, x26, x27, x28, x29, x30, x31, x32], wm)) := by
  refine ct_of ⟨by decide, rfl⟩ (Nat.le_of_ble_eq_true rfl) ?_
  refine ab_aload_n dX4_minor_0 rfl ?_
  refine ab_iconst (v := 1) dX4_minor_1 (by decide) ?_
  refine ab_iload_n dX4_minor_2 rfl ?_
  refine ab_iload_n dX4_minor_3 rfl ?_
  refine ab_callV (As := [.int 1, .int 0, .int (-1)]) (rest := []) dX4_minor_4 mv_X4_cell ml_X4_115 ⟨by decide, by decide, rfl, rfl, rfl⟩ (by decide) rfl rfl (Nat.le_of_ble_eq_true rfl) rfl c_X4_cell_10m ?_
  rintro r w' ⟨rfl, rfl⟩
  refine ab_aload_n dX4_minor_7 rfl ?_
  refine ab_iconst (v := 2) dX4_minor_8 (by decide) ?_
  refine ab_iload_n dX4_minor_9 rfl ?_
  refine ab_iload_n dX4_minor_10 rfl ?_
  refine ab_callV (As := [.int 2, .int 1, .int (-1)]) (rest := [.long (r20 1)]) dX4_minor_11 mv_X4_cell ml_X4_115 ⟨by decide, by decide, rfl, rfl, rfl⟩ (by decide) rfl rfl (Nat.le_of_ble_eq_true rfl) rfl c_X4_cell_21m ?_
  rintro r w' ⟨rfl, rfl⟩
  refine ab_lmul dX4_minor_14 ?_
  refine ab_aload_n dX4_minor_15 rfl ?_
  refine ab_iconst (v := 1) dX4_minor_16 (by decide) ?_
  refine ab_iload_n dX4_minor_17 rfl ?_
  refine ab_iload_n dX4_minor_18 rfl ?_
  refine ab_callV (As := [.int 1, .int 1, .int (-1)]) (rest := [.long ((r20 1) * (-(r19 2)))]) dX4_minor_19 mv_X4_cell ml_X4_115 ⟨by decide, by decide, rfl, rfl, rfl⟩ (by decide) rfl rfl (Nat.le_of_ble_eq_true rfl) rfl c_X4_cell_11m ?_
  rintro r w' ⟨rfl, rfl⟩
  refine ab_aload_n dX4_minor_22 rfl ?_
  refine ab_iconst (v := 2) dX4_minor_23 (by decide) ?_
  refine ab_iload_n dX4_minor_24 rfl ?_
  refine ab_iload_n dX4_minor_25 rfl ?_
  refine ab_callV (As := [.int 2, .int 0, .int (-1)]) (rest := [.long (-(r19 1)), .long ((r20 1) * (-(r19 2)))]) dX4_minor_26 mv_X4_cell ml_X4_115 ⟨by decide, by decide, rfl, rfl, rfl⟩ (by decide) rfl rfl (Nat.le_of_ble_eq_true rfl) rfl c_X4_cell_20m ?_
  rintro r w' ⟨rfl, rfl⟩
  refine ab_lmul dX4_minor_29 ?_
  refine ab_lsub dX4_minor_30 ?_
  exact ab_lret dX4_minor_31 rfl (by decide) (⟨rfl, rfl⟩)
def Dt_m (r19 : Nat → Int64) (r20 : Nat → Int64) (r22 : Nat → Int64) : Int64 := ((((r20 0) * (Dn_12m r19 r22)) - ((-(r19 0)) * (Dn_02m r20 r22))) + ((r22 0) * (Dn_01m r19 r20)))
theorem c_X4_determinant_m {x0 x1 x2 x3 x4 x5 x6 x7 x8 x9 x10 x11 x12 x13 x14 x15 x16 x17 x23 x24 x25 x26 x27 x28 x29 x30 x31 x32 : ax_E} {f18_6 f18_7 f18_8 f18_9 f18_10 : Int32} {f18_11 f18_12 : Int64} {r19 r20 r21 r22 : Nat → Int64} {wm : List ax_E}  : Ct M_X4_determinant [.ref 18, .int (-1)] ([x0, x1, x2, x3, x4, x5, x6, x7, x8, x9, x10, x11, x12, x13, x14, x15, x16, x17, ob 4 [.ref 19, .ref 20, .ref 21, .ref 22, .ref 23, .ref 24, .int f18_6, .int f18_7, .int f18_8, .int f18_9, .int f18_10, .long f18_11, .long f18_12], ja 4 r19, ja 4 r20, ja 4 r21, ja 4 r22, x23, x24, x25, x26, x27, x28, x29, x30, x31, x32], wm) (fun r w' => r = some (.long (Dt_m r19 r20 r22)) ∧ w' = ([x0, x1, x2, x3, x4, x5, x6, x7, x8, x9, x10, x11, x12, x13, x14, x15, x16, x17, ob 4 [.ref 19, .ref 20, .ref 21, .ref 22, .ref 23, .ref 24, .int f18_6, .int f18_7, .int f18_8, .int f18_9, .int f18_10, .long f18_11, .long f18_12], ja 4 r19, ja 4 r20, ja 4 r21, ja 4 r22, x23, x24, x25, x26, x27, x28, x29, x30, x31, x32], wm)) := by
  refine ct_of ⟨by decide, rfl⟩ (Nat.le_of_ble_eq_true rfl) ?_
  refine ab_aload_n dX4_determinant_0 rfl ?_
  refine ab_iconst (v := 0) dX4_determinant_1 (by decide) ?_
  refine ab_iconst (v := 0) dX4_determinant_2 (by decide) ?_
  refine ab_iload_n dX4_determinant_3 rfl ?_
  refine ab_callV (As := [.int 0, .int 0, .int (-1)]) (rest := []) dX4_determinant_4 mv_X4_cell ml_X4_115 ⟨by decide, by decide, rfl, rfl, rfl⟩ (by decide) rfl rfl (Nat.le_of_ble_eq_true rfl) rfl c_X4_cell_00m ?_
  rintro r w' ⟨rfl, rfl⟩
  refine ab_aload_n dX4_determinant_7 rfl ?_
  refine ab_iconst (v := 1) dX4_determinant_8 (by decide) ?_
  refine ab_iconst (v := 2) dX4_determinant_9 (by decide) ?_
  refine ab_iload_n dX4_determinant_10 rfl ?_
  refine ab_callV (As := [.int 1, .int 2, .int (-1)]) (rest := [.long (r20 0)]) dX4_determinant_11 mv_X4_minor ml_X4_119 ⟨by decide, by decide, rfl, rfl, rfl⟩ (by decide) rfl rfl (Nat.le_of_ble_eq_true rfl) rfl c_X4_minor_12m ?_
  rintro r w' ⟨rfl, rfl⟩
  refine ab_lmul dX4_determinant_14 ?_
  refine ab_aload_n dX4_determinant_15 rfl ?_
  refine ab_iconst (v := 0) dX4_determinant_16 (by decide) ?_
  refine ab_iconst (v := 1) dX4_determinant_17 (by decide) ?_
  refine ab_iload_n dX4_determinant_18 rfl ?_
  refine ab_callV (As := [.int 0, .int 1, .int (-1)]) (rest := [.long ((r20 0) * (Dn_12m r19 r22))]) dX4_determinant_19 mv_X4_cell ml_X4_115 ⟨by decide, by decide, rfl, rfl, rfl⟩ (by decide) rfl rfl (Nat.le_of_ble_eq_true rfl) rfl c_X4_cell_01m ?_
  rintro r w' ⟨rfl, rfl⟩
  refine ab_aload_n dX4_determinant_22 rfl ?_
  refine ab_iconst (v := 0) dX4_determinant_23 (by decide) ?_
  refine ab_iconst (v := 2) dX4_determinant_24 (by decide) ?_
  refine ab_iload_n dX4_determinant_25 rfl ?_
  refine ab_callV (As := [.int 0, .int 2, .int (-1)]) (rest := [.long (-(r19 0)), .long ((r20 0) * (Dn_12m r19 r22))]) dX4_determinant_26 mv_X4_minor ml_X4_119 ⟨by decide, by decide, rfl, rfl, rfl⟩ (by decide) rfl rfl (Nat.le_of_ble_eq_true rfl) rfl c_X4_minor_02m ?_
  rintro r w' ⟨rfl, rfl⟩
  refine ab_lmul dX4_determinant_29 ?_
  refine ab_lsub dX4_determinant_30 ?_
  refine ab_aload_n dX4_determinant_31 rfl ?_
  refine ab_iconst (v := 0) dX4_determinant_32 (by decide) ?_
  refine ab_iconst (v := 2) dX4_determinant_33 (by decide) ?_
  refine ab_iload_n dX4_determinant_34 rfl ?_
  refine ab_callV (As := [.int 0, .int 2, .int (-1)]) (rest := [.long (((r20 0) * (Dn_12m r19 r22)) - ((-(r19 0)) * (Dn_02m r20 r22)))]) dX4_determinant_35 mv_X4_cell ml_X4_115 ⟨by decide, by decide, rfl, rfl, rfl⟩ (by decide) rfl rfl (Nat.le_of_ble_eq_true rfl) rfl c_X4_cell_02m ?_
  rintro r w' ⟨rfl, rfl⟩
  refine ab_aload_n dX4_determinant_38 rfl ?_
  refine ab_iconst (v := 0) dX4_determinant_39 (by decide) ?_
  refine ab_iconst (v := 1) dX4_determinant_40 (by decide) ?_
  refine ab_iload_n dX4_determinant_41 rfl ?_
  refine ab_callV (As := [.int 0, .int 1, .int (-1)]) (rest := [.long (r22 0), .long (((r20 0) * (Dn_12m r19 r22)) - ((-(r19 0)) * (Dn_02m r20 r22)))]) dX4_determinant_42 mv_X4_minor ml_X4_119 ⟨by decide, by decide, rfl, rfl, rfl⟩ (by decide) rfl rfl (Nat.le_of_ble_eq_true rfl) rfl c_X4_minor_01m ?_
  rintro r w' ⟨rfl, rfl⟩
  refine ab_lmul dX4_determinant_45 ?_
  refine ab_ladd dX4_determinant_46 ?_
  exact ab_lret dX4_determinant_47 rfl (by decide) (⟨rfl, rfl⟩)
theorem c_X4_cell_000 {x0 x1 x2 x3 x4 x5 x6 x7 x8 x9 x10 x11 x12 x13 x14 x15 x16 x17 x23 x24 x25 x26 x27 x28 x29 x30 x31 x32 : ax_E} {f18_6 f18_7 f18_8 f18_9 f18_10 : Int32} {f18_11 f18_12 : Int64} {r19 r20 r21 r22 : Nat → Int64} {wm : List ax_E}  : Ct M_X4_cell [.ref 18, .int 0, .int 0, .int 0] ([x0, x1, x2, x3, x4, x5, x6, x7, x8, x9, x10, x11, x12, x13, x14, x15, x16, x17, ob 4 [.ref 19, .ref 20, .ref 21, .ref 22, .ref 23, .ref 24, .int f18_6, .int f18_7, .int f18_8, .int f18_9, .int f18_10, .long f18_11, .long f18_12], ja 4 r19, ja 4 r20, ja 4 r21, ja 4 r22, x23, x24, x25, x26, x27, x28, x29, x30, x31, x32], wm) (fun r w' => r = some (.long (r21 0)) ∧ w' = ([x0, x1, x2, x3, x4, x5, x6, x7, x8, x9, x10, x11, x12, x13, x14, x15, x16, x17, ob 4 [.ref 19, .ref 20, .ref 21, .ref 22, .ref 23, .ref 24, .int f18_6, .int f18_7, .int f18_8, .int f18_9, .int f18_10, .long f18_11, .long f18_12], ja 4 r19, ja 4 r20, ja 4 r21, ja 4 r22, x23, x24, x25, x26, x27, x28, x29, x30, x31, x32], wm)) := by
  refine ct_of ⟨by decide, rfl⟩ (Nat.le_of_ble_eq_true rfl) ?_
  refine ab_iload_n dX4_cell_0 rfl ?_
  refine ab_iload_n dX4_cell_1 rfl ?_
  refine ab_icmpne 12 dX4_cell_2 (by decide) (fun h_1 => absurd (by decide) h_1) (fun h_1 => ?_)
  refine ab_aload_n dX4_cell_5 rfl ?_
  refine ab_getf dX4_cell_6 fl_X4_18 rfl rfl ?_
  refine ab_iload_n dX4_cell_9 rfl ?_
  refine ab_lald (j := 0) dX4_cell_10 rfl (ix_c (by decide)) ?_
  exact ab_lret dX4_cell_11 rfl (by decide) (⟨rfl, rfl⟩)
theorem c_X4_cell_010 {x0 x1 x2 x3 x4 x5 x6 x7 x8 x9 x10 x11 x12 x13 x14 x15 x16 x17 x23 x24 x25 x26 x27 x28 x29 x30 x31 x32 : ax_E} {f18_6 f18_7 f18_8 f18_9 f18_10 : Int32} {f18_11 f18_12 : Int64} {r19 r20 r21 r22 : Nat → Int64} {wm : List ax_E}  : Ct M_X4_cell [.ref 18, .int 0, .int 1, .int 0] ([x0, x1, x2, x3, x4, x5, x6, x7, x8, x9, x10, x11, x12, x13, x14, x15, x16, x17, ob 4 [.ref 19, .ref 20, .ref 21, .ref 22, .ref 23, .ref 24, .int f18_6, .int f18_7, .int f18_8, .int f18_9, .int f18_10, .long f18_11, .long f18_12], ja 4 r19, ja 4 r20, ja 4 r21, ja 4 r22, x23, x24, x25, x26, x27, x28, x29, x30, x31, x32], wm) (fun r w' => r = some (.long (-(r19 0))) ∧ w' = ([x0, x1, x2, x3, x4, x5, x6, x7, x8, x9, x10, x11, x12, x13, x14, x15, x16, x17, ob 4 [.ref 19, .ref 20, .ref 21, .ref 22, .ref 23, .ref 24, .int f18_6, .int f18_7, .int f18_8, .int f18_9, .int f18_10, .long f18_11, .long f18_12], ja 4 r19, ja 4 r20, ja 4 r21, ja 4 r22, x23, x24, x25, x26, x27, x28, x29, x30, x31, x32], wm)) := by
  refine ct_of ⟨by decide, rfl⟩ (Nat.le_of_ble_eq_true rfl) ?_
  refine ab_iload_n dX4_cell_0 rfl ?_
  refine ab_iload_n dX4_cell_1 rfl ?_
  refine ab_icmpne 12 dX4_cell_2 (by decide) (fun h_1 => ?_) (fun h_1 => absurd h_1 (by decide))
  refine ab_iload_n dX4_cell_12 rfl ?_
  refine ab_ifne 23 dX4_cell_13 (by decide) (fun h_2 => ?_) (fun h_2 => absurd h_2 (by decide))
  refine ab_iload_n dX4_cell_23 rfl ?_
  refine ab_iconst (v := 1) dX4_cell_24 (by decide) ?_
  refine ab_icmpne 38 dX4_cell_25 (by decide) (fun h_3 => absurd (by decide) h_3) (fun h_3 => ?_)
  refine ab_aload_n dX4_cell_28 rfl ?_
  refine ab_getf dX4_cell_29 fl_X4_11 rfl rfl ?_
  refine ab_iload_n dX4_cell_32 rfl ?_
  refine ab_lald (j := 0) dX4_cell_33 rfl (ix_c (by decide)) ?_
  refine ab_lneg dX4_cell_34 ?_
  refine ab_goto 44 dX4_cell_35 (by decide) ?_
  exact ab_lret dX4_cell_44 rfl (by decide) (⟨rfl, rfl⟩)
theorem c_X4_cell_020 {x0 x1 x2 x3 x4 x5 x6 x7 x8 x9 x10 x11 x12 x13 x14 x15 x16 x17 x23 x24 x25 x26 x27 x28 x29 x30 x31 x32 : ax_E} {f18_6 f18_7 f18_8 f18_9 f18_10 : Int32} {f18_11 f18_12 : Int64} {r19 r20 r21 r22 : Nat → Int64} {wm : List ax_E}  : Ct M_X4_cell [.ref 18, .int 0, .int 2, .int 0] ([x0, x1, x2, x3, x4, x5, x6, x7, x8, x9, x10, x11, x12, x13, x14, x15, x16, x17, ob 4 [.ref 19, .ref 20, .ref 21, .ref 22, .ref 23, .ref 24, .int f18_6, .int f18_7, .int f18_8, .int f18_9, .int f18_10, .long f18_11, .long f18_12], ja 4 r19, ja 4 r20, ja 4 r21, ja 4 r22, x23, x24, x25, x26, x27, x28, x29, x30, x31, x32], wm) (fun r w' => r = some (.long (r22 0)) ∧ w' = ([x0, x1, x2, x3, x4, x5, x6, x7, x8, x9, x10, x11, x12, x13, x14, x15, x16, x17, ob 4 [.ref 19, .ref 20, .ref 21, .ref 22, .ref 23, .ref 24, .int f18_6, .int f18_7, .int f18_8, .int f18_9, .int f18_10, .long f18_11, .long f18_12], ja 4 r19, ja 4 r20, ja 4 r21, ja 4 r22, x23, x24, x25, x26, x27, x28, x29, x30, x31, x32], wm)) := by
  refine ct_of ⟨by decide, rfl⟩ (Nat.le_of_ble_eq_true rfl) ?_
  refine ab_iload_n dX4_cell_0 rfl ?_
  refine ab_iload_n dX4_cell_1 rfl ?_
  refine ab_icmpne 12 dX4_cell_2 (by decide) (fun h_1 => ?_) (fun h_1 => absurd h_1 (by decide))
  refine ab_iload_n dX4_cell_12 rfl ?_
  refine ab_ifne 23 dX4_cell_13 (by decide) (fun h_2 => ?_) (fun h_2 => absurd h_2 (by decide))
  refine ab_iload_n dX4_cell_23 rfl ?_
  refine ab_iconst (v := 1) dX4_cell_24 (by decide) ?_
  refine ab_icmpne 38 dX4_cell_25 (by decide) (fun h_3 => ?_) (fun h_3 => absurd h_3 (by decide))
  refine ab_aload_n dX4_cell_38 rfl ?_
  refine ab_getf dX4_cell_39 fl_X4_21 rfl rfl ?_
  refine ab_iload_n dX4_cell_42 rfl ?_
  refine ab_lald (j := 0) dX4_cell_43 rfl (ix_c (by decide)) ?_
  exact ab_lret dX4_cell_44 rfl (by decide) (⟨rfl, rfl⟩)
theorem c_X4_cell_100 {x0 x1 x2 x3 x4 x5 x6 x7 x8 x9 x10 x11 x12 x13 x14 x15 x16 x17 x23 x24 x25 x26 x27 x28 x29 x30 x31 x32 : ax_E} {f18_6 f18_7 f18_8 f18_9 f18_10 : Int32} {f18_11 f18_12 : Int64} {r19 r20 r21 r22 : Nat → Int64} {wm : List ax_E}  : Ct M_X4_cell [.ref 18, .int 1, .int 0, .int 0] ([x0, x1, x2, x3, x4, x5, x6, x7, x8, x9, x10, x11, x12, x13, x14, x15, x16, x17, ob 4 [.ref 19, .ref 20, .ref 21, .ref 22, .ref 23, .ref 24, .int f18_6, .int f18_7, .int f18_8, .int f18_9, .int f18_10, .long f18_11, .long f18_12], ja 4 r19, ja 4 r20, ja 4 r21, ja 4 r22, x23, x24, x25, x26, x27, x28, x29, x30, x31, x32], wm) (fun r w' => r = some (.long (r21 1)) ∧ w' = ([x0, x1, x2, x3, x4, x5, x6, x7, x8, x9, x10, x11, x12, x13, x14, x15, x16, x17, ob 4 [.ref 19, .ref 20, .ref 21, .ref 22, .ref 23, .ref 24, .int f18_6, .int f18_7, .int f18_8, .int f18_9, .int f18_10, .long f18_11, .long f18_12], ja 4 r19, ja 4 r20, ja 4 r21, ja 4 r22, x23, x24, x25, x26, x27, x28, x29, x30, x31, x32], wm)) := by
  refine ct_of ⟨by decide, rfl⟩ (Nat.le_of_ble_eq_true rfl) ?_
  refine ab_iload_n dX4_cell_0 rfl ?_
  refine ab_iload_n dX4_cell_1 rfl ?_
  refine ab_icmpne 12 dX4_cell_2 (by decide) (fun h_1 => absurd (by decide) h_1) (fun h_1 => ?_)
  refine ab_aload_n dX4_cell_5 rfl ?_
  refine ab_getf dX4_cell_6 fl_X4_18 rfl rfl ?_
  refine ab_iload_n dX4_cell_9 rfl ?_
  refine ab_lald (j := 1) dX4_cell_10 rfl (ix_c (by decide)) ?_
  exact ab_lret dX4_cell_11 rfl (by decide) (⟨rfl, rfl⟩)
theorem c_X4_cell_110 {x0 x1 x2 x3 x4 x5 x6 x7 x8 x9 x10 x11 x12 x13 x14 x15 x16 x17 x23 x24 x25 x26 x27 x28 x29 x30 x31 x32 : ax_E} {f18_6 f18_7 f18_8 f18_9 f18_10 : Int32} {f18_11 f18_12 : Int64} {r19 r20 r21 r22 : Nat → Int64} {wm : List ax_E}  : Ct M_X4_cell [.ref 18, .int 1, .int 1, .int 0] ([x0, x1, x2, x3, x4, x5, x6, x7, x8, x9, x10, x11, x12, x13, x14, x15, x16, x17, ob 4 [.ref 19, .ref 20, .ref 21, .ref 22, .ref 23, .ref 24, .int f18_6, .int f18_7, .int f18_8, .int f18_9, .int f18_10, .long f18_11, .long f18_12], ja 4 r19, ja 4 r20, ja 4 r21, ja 4 r22, x23, x24, x25, x26, x27, x28, x29, x30, x31, x32], wm) (fun r w' => r = some (.long (-(r19 1))) ∧ w' = ([x0, x1, x2, x3, x4, x5, x6, x7, x8, x9, x10, x11, x12, x13, x14, x15, x16, x17, ob 4 [.ref 19, .ref 20, .ref 21, .ref 22, .ref 23, .ref 24, .int f18_6, .int f18_7, .int f18_8, .int f18_9, .int f18_10, .long f18_11, .long f18_12], ja 4 r19, ja 4 r20, ja 4 r21, ja 4 r22, x23, x24, x25, x26, x27, x28, x29, x30, x31, x32], wm)) := by
  refine ct_of ⟨by decide, rfl⟩ (Nat.le_of_ble_eq_true rfl) ?_
  refine ab_iload_n dX4_cell_0 rfl ?_
  refine ab_iload_n dX4_cell_1 rfl ?_
  refine ab_icmpne 12 dX4_cell_2 (by decide) (fun h_1 => ?_) (fun h_1 => absurd h_1 (by decide))
  refine ab_iload_n dX4_cell_12 rfl ?_
  refine ab_ifne 23 dX4_cell_13 (by decide) (fun h_2 => ?_) (fun h_2 => absurd h_2 (by decide))
  refine ab_iload_n dX4_cell_23 rfl ?_
  refine ab_iconst (v := 1) dX4_cell_24 (by decide) ?_
  refine ab_icmpne 38 dX4_cell_25 (by decide) (fun h_3 => absurd (by decide) h_3) (fun h_3 => ?_)
  refine ab_aload_n dX4_cell_28 rfl ?_
  refine ab_getf dX4_cell_29 fl_X4_11 rfl rfl ?_
  refine ab_iload_n dX4_cell_32 rfl ?_
  refine ab_lald (j := 1) dX4_cell_33 rfl (ix_c (by decide)) ?_
  refine ab_lneg dX4_cell_34 ?_
  refine ab_goto 44 dX4_cell_35 (by decide) ?_
  exact ab_lret dX4_cell_44 rfl (by decide) (⟨rfl, rfl⟩)
theorem c_X4_cell_120 {x0 x1 x2 x3 x4 x5 x6 x7 x8 x9 x10 x11 x12 x13 x14 x15 x16 x17 x23 x24 x25 x26 x27 x28 x29 x30 x31 x32 : ax_E} {f18_6 f18_7 f18_8 f18_9 f18_10 : Int32} {f18_11 f18_12 : Int64} {r19 r20 r21 r22 : Nat → Int64} {wm : List ax_E}  : Ct M_X4_cell [.ref 18, .int 1, .int 2, .int 0] ([x0, x1, x2, x3, x4, x5, x6, x7, x8, x9, x10, x11, x12, x13, x14, x15, x16, x17, ob 4 [.ref 19, .ref 20, .ref 21, .ref 22, .ref 23, .ref 24, .int f18_6, .int f18_7, .int f18_8, .int f18_9, .int f18_10, .long f18_11, .long f18_12], ja 4 r19, ja 4 r20, ja 4 r21, ja 4 r22, x23, x24, x25, x26, x27, x28, x29, x30, x31, x32], wm) (fun r w' => r = some (.long (r22 1)) ∧ w' = ([x0, x1, x2, x3, x4, x5, x6, x7, x8, x9, x10, x11, x12, x13, x14, x15, x16, x17, ob 4 [.ref 19, .ref 20, .ref 21, .ref 22, .ref 23, .ref 24, .int f18_6, .int f18_7, .int f18_8, .int f18_9, .int f18_10, .long f18_11, .long f18_12], ja 4 r19, ja 4 r20, ja 4 r21, ja 4 r22, x23, x24, x25, x26, x27, x28, x29, x30, x31, x32], wm)) := by
  refine ct_of ⟨by decide, rfl⟩ (Nat.le_of_ble_eq_true rfl) ?_
  refine ab_iload_n dX4_cell_0 rfl ?_
  refine ab_iload_n dX4_cell_1 rfl ?_
  refine ab_icmpne 12 dX4_cell_2 (by decide) (fun h_1 => ?_) (fun h_1 => absurd h_1 (by decide))
  refine ab_iload_n dX4_cell_12 rfl ?_
  refine ab_ifne 23 dX4_cell_13 (by decide) (fun h_2 => ?_) (fun h_2 => absurd h_2 (by decide))
  refine ab_iload_n dX4_cell_23 rfl ?_
  refine ab_iconst (v := 1) dX4_cell_24 (by decide) ?_
  refine ab_icmpne 38 dX4_cell_25 (by decide) (fun h_3 => ?_) (fun h_3 => absurd h_3 (by decide))
  refine ab_aload_n dX4_cell_38 rfl ?_
  refine ab_getf dX4_cell_39 fl_X4_21 rfl rfl ?_
  refine ab_iload_n dX4_cell_42 rfl ?_
  refine ab_lald (j := 1) dX4_cell_43 rfl (ix_c (by decide)) ?_
  exact ab_lret dX4_cell_44 rfl (by decide) (⟨rfl, rfl⟩)
theorem c_X4_cell_200 {x0 x1 x2 x3 x4 x5 x6 x7 x8 x9 x10 x11 x12 x13 x14 x15 x16 x17 x23 x24 x25 x26 x27 x28 x29 x30 x31 x32 : ax_E} {f18_6 f18_7 f18_8 f18_9 f18_10 : Int32} {f18_11 f18_12 : Int64} {r19 r20 r21 r22 : Nat → Int64} {wm : List ax_E}  : Ct M_X4_cell [.ref 18, .int 2, .int 0, .int 0] ([x0, x1, x2, x3, x4, x5, x6, x7, x8, x9, x10, x11, x12, x13, x14, x15, x16, x17, ob 4 [.ref 19, .ref 20, .ref 21, .ref 22, .ref 23, .ref 24, .int f18_6, .int f18_7, .int f18_8, .int f18_9, .int f18_10, .long f18_11, .long f18_12], ja 4 r19, ja 4 r20, ja 4 r21, ja 4 r22, x23, x24, x25, x26, x27, x28, x29, x30, x31, x32], wm) (fun r w' => r = some (.long (r21 2)) ∧ w' = ([x0, x1, x2, x3, x4, x5, x6, x7, x8, x9, x10, x11, x12, x13, x14, x15, x16, x17, ob 4 [.ref 19, .ref 20, .ref 21, .ref 22, .ref 23, .ref 24, .int f18_6, .int f18_7, .int f18_8, .int f18_9, .int f18_10, .long f18_11, .long f18_12], ja 4 r19, ja 4 r20, ja 4 r21, ja 4 r22, x23, x24, x25, x26, x27, x28, x29, x30, x31, x32], wm)) := by
  refine ct_of ⟨by decide, rfl⟩ (Nat.le_of_ble_eq_true rfl) ?_
  refine ab_iload_n dX4_cell_0 rfl ?_
  refine ab_iload_n dX4_cell_1 rfl ?_
  refine ab_icmpne 12 dX4_cell_2 (by decide) (fun h_1 => absurd (by decide) h_1) (fun h_1 => ?_)
  refine ab_aload_n dX4_cell_5 rfl ?_
  refine ab_getf dX4_cell_6 fl_X4_18 rfl rfl ?_
  refine ab_iload_n dX4_cell_9 rfl ?_
  refine ab_lald (j := 2) dX4_cell_10 rfl (ix_c (by decide)) ?_
  exact ab_lret dX4_cell_11 rfl (by decide) (⟨rfl, rfl⟩)
theorem c_X4_cell_210 {x0 x1 x2 x3 x4 x5 x6 x7 x8 x9 x10 x11 x12 x13 x14 x15 x16 x17 x23 x24 x25 x26 x27 x28 x29 x30 x31 x32 : ax_E} {f18_6 f18_7 f18_8 f18_9 f18_10 : Int32} {f18_11 f18_12 : Int64} {r19 r20 r21 r22 : Nat → Int64} {wm : List ax_E}  : Ct M_X4_cell [.ref 18, .int 2, .int 1, .int 0] ([x0, x1, x2, x3, x4, x5, x6, x7, x8, x9, x10, x11, x12, x13, x14, x15, x16, x17, ob 4 [.ref 19, .ref 20, .ref 21, .ref 22, .ref 23, .ref 24, .int f18_6, .int f18_7, .int f18_8, .int f18_9, .int f18_10, .long f18_11, .long f18_12], ja 4 r19, ja 4 r20, ja 4 r21, ja 4 r22, x23, x24, x25, x26, x27, x28, x29, x30, x31, x32], wm) (fun r w' => r = some (.long (-(r19 2))) ∧ w' = ([x0, x1, x2, x3, x4, x5, x6, x7, x8, x9, x10, x11, x12, x13, x14, x15, x16, x17, ob 4 [.ref 19, .ref 20, .ref 21, .ref 22, .ref 23, .ref 24, .int f18_6, .int f18_7, .int f18_8, .int f18_9, .int f18_10, .long f18_11, .long f18_12], ja 4 r19, ja 4 r20, ja 4 r21, ja 4 r22, x23, x24, x25, x26, x27, x28, x29, x30, x31, x32], wm)) := by
  refine ct_of ⟨by decide, rfl⟩ (Nat.le_of_ble_eq_true rfl) ?_
  refine ab_iload_n dX4_cell_0 rfl ?_
  refine ab_iload_n dX4_cell_1 rfl ?_
  refine ab_icmpne 12 dX4_cell_2 (by decide) (fun h_1 => ?_) (fun h_1 => absurd h_1 (by decide))
  refine ab_iload_n dX4_cell_12 rfl ?_
  refine ab_ifne 23 dX4_cell_13 (by decide) (fun h_2 => ?_) (fun h_2 => absurd h_2 (by decide))
  refine ab_iload_n dX4_cell_23 rfl ?_
  refine ab_iconst (v := 1) dX4_cell_24 (by decide) ?_
  refine ab_icmpne 38 dX4_cell_25 (by decide) (fun h_3 => absurd (by decide) h_3) (fun h_3 => ?_)
  refine ab_aload_n dX4_cell_28 rfl ?_
  refine ab_getf dX4_cell_29 fl_X4_11 rfl rfl ?_
  refine ab_iload_n dX4_cell_32 rfl ?_
  refine ab_lald (j := 2) dX4_cell_33 rfl (ix_c (by decide)) ?_
  refine ab_lneg dX4_cell_34 ?_
  refine ab_goto 44 dX4_cell_35 (by decide) ?_
  exact ab_lret dX4_cell_44 rfl (by decide) (⟨rfl, rfl⟩)
theorem c_X4_cell_220 {x0 x1 x2 x3 x4 x5 x6 x7 x8 x9 x10 x11 x12 x13 x14 x15 x16 x17 x23 x24 x25 x26 x27 x28 x29 x30 x31 x32 : ax_E} {f18_6 f18_7 f18_8 f18_9 f18_10 : Int32} {f18_11 f18_12 : Int64} {r19 r20 r21 r22 : Nat → Int64} {wm : List ax_E}  : Ct M_X4_cell [.ref 18, .int 2, .int 2, .int 0] ([x0, x1, x2, x3, x4, x5, x6, x7, x8, x9, x10, x11, x12, x13, x14, x15, x16, x17, ob 4 [.ref 19, .ref 20, .ref 21, .ref 22, .ref 23, .ref 24, .int f18_6, .int f18_7, .int f18_8, .int f18_9, .int f18_10, .long f18_11, .long f18_12], ja 4 r19, ja 4 r20, ja 4 r21, ja 4 r22, x23, x24, x25, x26, x27, x28, x29, x30, x31, x32], wm) (fun r w' => r = some (.long (r22 2)) ∧ w' = ([x0, x1, x2, x3, x4, x5, x6, x7, x8, x9, x10, x11, x12, x13, x14, x15, x16, x17, ob 4 [.ref 19, .ref 20, .ref 21, .ref 22, .ref 23, .ref 24, .int f18_6, .int f18_7, .int f18_8, .int f18_9, .int f18_10, .long f18_11, .long f18_12], ja 4 r19, ja 4 r20, ja 4 r21, ja 4 r22, x23, x24, x25, x26, x27, x28, x29, x30, x31, x32], wm)) := by
  refine ct_of ⟨by decide, rfl⟩ (Nat.le_of_ble_eq_true rfl) ?_
  refine ab_iload_n dX4_cell_0 rfl ?_
  refine ab_iload_n dX4_cell_1 rfl ?_
  refine ab_icmpne 12 dX4_cell_2 (by decide) (fun h_1 => ?_) (fun h_1 => absurd h_1 (by decide))
  refine ab_iload_n dX4_cell_12 rfl ?_
  refine ab_ifne 23 dX4_cell_13 (by decide) (fun h_2 => ?_) (fun h_2 => absurd h_2 (by decide))
  refine ab_iload_n dX4_cell_23 rfl ?_
  refine ab_iconst (v := 1) dX4_cell_24 (by decide) ?_
  refine ab_icmpne 38 dX4_cell_25 (by decide) (fun h_3 => ?_) (fun h_3 => absurd h_3 (by decide))
  refine ab_aload_n dX4_cell_38 rfl ?_
  refine ab_getf dX4_cell_39 fl_X4_21 rfl rfl ?_
  refine ab_iload_n dX4_cell_42 rfl ?_
  refine ab_lald (j := 2) dX4_cell_43 rfl (ix_c (by decide)) ?_
  exact ab_lret dX4_cell_44 rfl (by decide) (⟨rfl, rfl⟩)
def Dn_120 (r19 : Nat → Int64) (r22 : Nat → Int64) : Int64 := (((-(r19 1)) * (r22 2)) - ((r22 1) * (-(r19 2))))
theorem c_X4_minor_120 {x0 x1 x2 x3 x4 x5 x6 x7 x8 x9 x10 x11 x12 x13 x14 x15 x16 x17 x23 x24 x25 x26 x27 x28 x29 x30 x31 x32 : ax_E} {f18_6 f18_7 f18_8 f18_9 f18_10 : Int32} {f18_11 f18_12 : Int64} {r19 r20 r21 r22 : Nat → Int64} {wm : List ax_E}  : Ct M_X4_minor [.ref 18, .int 1, .int 2, .int 0] ([x0, x1, x2, x3, x4, x5, x6, x7, x8, x9, x10, x11, x12, x13, x14, x15, x16, x17, ob 4 [.ref 19, .ref 20, .ref 21, .ref 22, .ref 23, .ref 24, .int f18_6, .int f18_7, .int f18_8, .int f18_9, .int f18_10, .long f18_11, .long f18_12], ja 4 r19, ja 4 r20, ja 4 r21, ja 4 r22, x23, x24, x25, x26, x27, x28, x29, x30, x31, x32], wm) (fun r w' => r = some (.long (Dn_120 r19 r22)) ∧ w' = ([x0, x1, x2, x3, x4, x5, x6, x7, x8, x9, x10, x11, x12, x13, x14, x15, x16, x17, ob 4 [.ref 19, .ref 20, .ref 21, .ref 22, .ref 23, .ref 24, .int f18_6, .int f18_7, .int f18_8, .int f18_9, .int f18_10, .long f18_11, .long f18_12], ja 4 r19, ja 4 r20, ja 4 r21, ja 4 r22, x23, x24, x25, x26, x27, x28, x29, x30, x31, x32], wm)) := by
  refine ct_of ⟨by decide, rfl⟩ (Nat.le_of_ble_eq_true rfl) ?_
  refine ab_aload_n dX4_minor_0 rfl ?_
  refine ab_iconst (v := 1) dX4_minor_1 (by decide) ?_
  refine ab_iload_n dX4_minor_2 rfl ?_
  refine ab_iload_n dX4_minor_3 rfl ?_
  refine ab_callV (As := [.int 1, .int 1, .int 0]) (rest := []) dX4_minor_4 mv_X4_cell ml_X4_115 ⟨by decide, by decide, rfl, rfl, rfl⟩ (by decide) rfl rfl (Nat.le_of_ble_eq_true rfl) rfl c_X4_cell_110 ?_
  rintro r w' ⟨rfl, rfl⟩
  refine ab_aload_n dX4_minor_7 rfl ?_
  refine ab_iconst (v := 2) dX4_minor_8 (by decide) ?_
  refine ab_iload_n dX4_minor_9 rfl ?_
  refine ab_iload_n dX4_minor_10 rfl ?_
  refine ab_callV (As := [.int 2, .int 2, .int 0]) (rest := [.long (-(r19 1))]) dX4_minor_11 mv_X4_cell ml_X4_115 ⟨by decide, by decide, rfl, rfl, rfl⟩ (by decide) rfl rfl (Nat.le_of_ble_eq_true rfl) rfl c_X4_cell_220 ?_
  rintro r w' ⟨rfl, rfl⟩
  refine ab_lmul dX4_minor_14 ?_
  refine ab_aload_n dX4_minor_15 rfl ?_
  refine ab_iconst (v := 1) dX4_minor_16 (by decide) ?_
  refine ab_iload_n dX4_minor_17 rfl ?_
  refine ab_iload_n dX4_minor_18 rfl ?_
  refine ab_callV (As := [.int 1, .int 2, .int 0]) (rest := [.long ((-(r19 1)) * (r22 2))]) dX4_minor_19 mv_X4_cell ml_X4_115 ⟨by decide, by decide, rfl, rfl, rfl⟩ (by decide) rfl rfl (Nat.le_of_ble_eq_true rfl) rfl c_X4_cell_120 ?_
  rintro r w' ⟨rfl, rfl⟩
  refine ab_aload_n dX4_minor_22 rfl ?_
  refine ab_iconst (v := 2) dX4_minor_23 (by decide) ?_
  refine ab_iload_n dX4_minor_24 rfl ?_
  refine ab_iload_n dX4_minor_25 rfl ?_
  refine ab_callV (As := [.int 2, .int 1, .int 0]) (rest := [.long (r22 1), .long ((-(r19 1)) * (r22 2))]) dX4_minor_26 mv_X4_cell ml_X4_115 ⟨by decide, by decide, rfl, rfl, rfl⟩ (by decide) rfl rfl (Nat.le_of_ble_eq_true rfl) rfl c_X4_cell_210 ?_
  rintro r w' ⟨rfl, rfl⟩
  refine ab_lmul dX4_minor_29 ?_
  refine ab_lsub dX4_minor_30 ?_
  exact ab_lret dX4_minor_31 rfl (by decide) (⟨rfl, rfl⟩)
def Dn_020 (r21 : Nat → Int64) (r22 : Nat → Int64) : Int64 := (((r21 1) * (r22 2)) - ((r22 1) * (r21 2)))
theorem c_X4_minor_020 {x0 x1 x2 x3 x4 x5 x6 x7 x8 x9 x10 x11 x12 x13 x14 x15 x16 x17 x23 x24 x25 x26 x27 x28 x29 x30 x31 x32 : ax_E} {f18_6 f18_7 f18_8 f18_9 f18_10 : Int32} {f18_11 f18_12 : Int64} {r19 r20 r21 r22 : Nat → Int64} {wm : List ax_E}  : Ct M_X4_minor [.ref 18, .int 0, .int 2, .int 0] ([x0, x1, x2, x3, x4, x5, x6, x7, x8, x9, x10, x11, x12, x13, x14, x15, x16, x17, ob 4 [.ref 19, .ref 20, .ref 21, .ref 22, .ref 23, .ref 24, .int f18_6, .int f18_7, .int f18_8, .int f18_9, .int f18_10, .long f18_11, .long f18_12], ja 4 r19, ja 4 r20, ja 4 r21, ja 4 r22, x23, x24, x25, x26, x27, x28, x29, x30, x31, x32], wm) (fun r w' => r = some (.long (Dn_020 r21 r22)) ∧ w' = ([x0, x1, x2, x3, x4, x5, x6, x7, x8, x9, x10, x11, x12, x13, x14, x15, x16, x17, ob 4 [.ref 19, .ref 20, .ref 21, .ref 22, .ref 23, .ref 24, .int f18_6, .int f18_7, .int f18_8, .int f18_9, .int f18_10, .long f18_11, .long f18_12], ja 4 r19, ja 4 r20, ja 4 r21, ja 4 r22, x23, x24, x25, x26, x27, x28, x29, x30, x31, x32], wm)) := by
  refine ct_of ⟨by decide, rfl⟩ (Nat.le_of_ble_eq_true rfl) ?_
  refine ab_aload_n dX4_minor_0 rfl ?_
  refine ab_iconst (v := 1) dX4_minor_1 (by decide) ?_
  refine ab_iload_n dX4_minor_2 rfl ?_
  refine ab_iload_n dX4_minor_3 rfl ?_
  refine ab_callV (As := [.int 1, .int 0, .int 0]) (rest := []) dX4_minor_4 mv_X4_cell ml_X4_115 ⟨by decide, by decide, rfl, rfl, rfl⟩ (by decide) rfl rfl (Nat.le_of_ble_eq_true rfl) rfl c_X4_cell_100 ?_
  rintro r w' ⟨rfl, rfl⟩
  refine ab_aload_n dX4_minor_7 rfl ?_
  refine ab_iconst (v := 2) dX4_minor_8 (by decide) ?_
  refine ab_iload_n dX4_minor_9 rfl ?_
  refine ab_iload_n dX4_minor_10 rfl ?_
  refine ab_callV (As := [.int 2, .int 2, .int 0]) (rest := [.long (r21 1)]) dX4_minor_11 mv_X4_cell ml_X4_115 ⟨by decide, by decide, rfl, rfl, rfl⟩ (by decide) rfl rfl (Nat.le_of_ble_eq_true rfl) rfl c_X4_cell_220 ?_
  rintro r w' ⟨rfl, rfl⟩
  refine ab_lmul dX4_minor_14 ?_
  refine ab_aload_n dX4_minor_15 rfl ?_
  refine ab_iconst (v := 1) dX4_minor_16 (by decide) ?_
  refine ab_iload_n dX4_minor_17 rfl ?_
  refine ab_iload_n dX4_minor_18 rfl ?_
  refine ab_callV (As := [.int 1, .int 2, .int 0]) (rest := [.long ((r21 1) * (r22 2))]) dX4_minor_19 mv_X4_cell ml_X4_115 ⟨by decide, by decide, rfl, rfl, rfl⟩ (by decide) rfl rfl (Nat.le_of_ble_eq_true rfl) rfl c_X4_cell_120 ?_
  rintro r w' ⟨rfl, rfl⟩
  refine ab_aload_n dX4_minor_22 rfl ?_
  refine ab_iconst (v := 2) dX4_minor_23 (by decide) ?_
  refine ab_iload_n dX4_minor_24 rfl ?_
  refine ab_iload_n dX4_minor_25 rfl ?_
  refine ab_callV (As := [.int 2, .int 0, .int 0]) (rest := [.long (r22 1), .long ((r21 1) * (r22 2))]) dX4_minor_26 mv_X4_cell ml_X4_115 ⟨by decide, by decide, rfl, rfl, rfl⟩ (by decide) rfl rfl (Nat.le_of_ble_eq_true rfl) rfl c_X4_cell_200 ?_
  rintro r w' ⟨rfl, rfl⟩
  refine ab_lmul dX4_minor_29 ?_
  refine ab_lsub dX4_minor_30 ?_
  exact ab_lret dX4_minor_31 rfl (by decide) (⟨rfl, rfl⟩)
def Dn_010 (r19 : Nat → Int64) (r21 : Nat → Int64) : Int64 := (((r21 1) * (-(r19 2))) - ((-(r19 1)) * (r21 2)))
theorem c_X4_minor_010 {x0 x1 x2 x3 x4 x5 x6 x7 x8 x9 x10 x11 x12 x13 x14 x15 x16 x17 x23 x24 x25 x26 x27 x28 x29 x30 x31 x32 : ax_E} {f18_6 f18_7 f18_8 f18_9 f18_10 : Int32} {f18_11 f18_12 : Int64} {r19 r20 r21 r22 : Nat → Int64} {wm : List ax_E}  : Ct M_X4_minor [.ref 18, .int 0, .int 1, .int 0] ([x0, x1, x2, x3, x4, x5, x6, x7, x8, x9, x10, x11, x12, x13, x14, x15, x16, x17, ob 4 [.ref 19, .ref 20, .ref 21, .ref 22, .ref 23, .ref 24, .int f18_6, .int f18_7, .int f18_8, .int f18_9, .int f18_10, .long f18_11, .long f18_12], ja 4 r19, ja 4 r20, ja 4 r21, ja 4 r22, x23, x24, x25, x26, x27, x28, x29, x30, x31, x32], wm) (fun r w' => r = some (.long (Dn_010 r19 r21)) ∧ w' = ([x0, x1, x2, x3, x4, x5, x6, x7, x8, x9, x10, x11, x12, x13, x14, x15, x16, x17, ob 4 [.ref 19, .ref 20, .ref 21, .ref 22, .ref 23, .ref 24, .int f18_6, .int f18_7, .int f18_8, .int f18_9, .int f18_10, .long f18_11, .long f18_12], ja 4 r19, ja 4 r20, ja 4 r21, ja 4 r22, x23, x24, x25, x26, x27, x28, x29, x30, x31, x32], wm)) := by
  refine ct_of ⟨by decide, rfl⟩ (Nat.le_of_ble_eq_true rfl) ?_
  refine ab_aload_n dX4_minor_0 rfl ?_
  refine ab_iconst (v := 1) dX4_minor_1 (by decide) ?_
  refine ab_iload_n dX4_minor_2 rfl ?_
  refine ab_iload_n dX4_minor_3 rfl ?_
  refine ab_callV (As := [.int 1, .int 0, .int 0]) (rest := []) dX4_minor_4 mv_X4_cell ml_X4_115 ⟨by decide, by decide, rfl, rfl, rfl⟩ (by decide) rfl rfl (Nat.le_of_ble_eq_true rfl) rfl c_X4_cell_100 ?_
  rintro r w' ⟨rfl, rfl⟩
  refine ab_aload_n dX4_minor_7 rfl ?_
  refine ab_iconst (v := 2) dX4_minor_8 (by decide) ?_
  refine ab_iload_n dX4_minor_9 rfl ?_
  refine ab_iload_n dX4_minor_10 rfl ?_
  refine ab_callV (As := [.int 2, .int 1, .int 0]) (rest := [.long (r21 1)]) dX4_minor_11 mv_X4_cell ml_X4_115 ⟨by decide, by decide, rfl, rfl, rfl⟩ (by decide) rfl rfl (Nat.le_of_ble_eq_true rfl) rfl c_X4_cell_210 ?_
  rintro r w' ⟨rfl, rfl⟩
  refine ab_lmul dX4_minor_14 ?_
  refine ab_aload_n dX4_minor_15 rfl ?_
  refine ab_iconst (v := 1) dX4_minor_16 (by decide) ?_
  refine ab_iload_n dX4_minor_17 rfl ?_
  refine ab_iload_n dX4_minor_18 rfl ?_
  refine ab_callV (As := [.int 1, .int 1, .int 0]) (rest := [.long ((r21 1) * (-(r19 2)))]) dX4_minor_19 mv_X4_cell ml_X4_115 ⟨by decide, by decide, rfl, rfl, rfl⟩ (by decide) rfl rfl (Nat.le_of_ble_eq_true rfl) rfl c_X4_cell_110 ?_
  rintro r w' ⟨rfl, rfl⟩
  refine ab_aload_n dX4_minor_22 rfl ?_
  refine ab_iconst (v := 2) dX4_minor_23 (by decide) ?_
  refine ab_iload_n dX4_minor_24 rfl ?_
  refine ab_iload_n dX4_minor_25 rfl ?_
  refine ab_callV (As := [.int 2, .int 0, .int 0]) (rest := [.long (-(r19 1)), .long ((r21 1) * (-(r19 2)))]) dX4_minor_26 mv_X4_cell ml_X4_115 ⟨by decide, by decide, rfl, rfl, rfl⟩ (by decide) rfl rfl (Nat.le_of_ble_eq_true rfl) rfl c_X4_cell_200 ?_
  rintro r w' ⟨rfl, rfl⟩
  refine ab_lmul dX4_minor_29 ?_
  refine ab_lsub dX4_minor_30 ?_
  exact ab_lret dX4_minor_31 rfl (by decide) (⟨rfl, rfl⟩)
def Dt_0 (r19 : Nat → Int64) (r21 : Nat → Int64) (r22 : Nat → Int64) : Int64 := ((((r21 0) * (Dn_120 r19 r22)) - ((-(r19 0)) * (Dn_020 r21 r22))) + ((r22 0) * (Dn_010 r19 r21)))
theorem c_X4_determinant_0 {x0 x1 x2 x3 x4 x5 x6 x7 x8 x9 x10 x11 x12 x13 x14 x15 x16 x17 x23 x24 x25 x26 x27 x28 x29 x30 x31 x32 : ax_E} {f18_6 f18_7 f18_8 f18_9 f18_10 : Int32} {f18_11 f18_12 : Int64} {r19 r20 r21 r22 : Nat → Int64} {wm : List ax_E}  : Ct M_X4_determinant [.ref 18, .int 0] ([x0, x1, x2, x3, x4, x5, x6, x7, x8, x9, x10, x11, x12, x13, x14, x15, x16, x17, ob 4 [.ref 19, .ref 20, .ref 21, .ref 22, .ref 23, .ref 24, .int f18_6, .int f18_7, .int f18_8, .int f18_9, .int f18_10, .long f18_11, .long f18_12], ja 4 r19, ja 4 r20, ja 4 r21, ja 4 r22, x23, x24, x25, x26, x27, x28, x29, x30, x31, x32], wm) (fun r w' => r = some (.long (Dt_0 r19 r21 r22)) ∧ w' = ([x0, x1, x2, x3, x4, x5, x6, x7, x8, x9, x10, x11, x12, x13, x14, x15, x16, x17, ob 4 [.ref 19, .ref 20, .ref 21, .ref 22, .ref 23, .ref 24, .int f18_6, .int f18_7, .int f18_8, .int f18_9, .int f18_10, .long f18_11, .long f18_12], ja 4 r19, ja 4 r20, ja 4 r21, ja 4 r22, x23, x24, x25, x26, x27, x28, x29, x30, x31, x32], wm)) := by
  refine ct_of ⟨by decide, rfl⟩ (Nat.le_of_ble_eq_true rfl) ?_
  refine ab_aload_n dX4_determinant_0 rfl ?_
  refine ab_iconst (v := 0) dX4_determinant_1 (by decide) ?_
  refine ab_iconst (v := 0) dX4_determinant_2 (by decide) ?_
  refine ab_iload_n dX4_determinant_3 rfl ?_
  refine ab_callV (As := [.int 0, .int 0, .int 0]) (rest := []) dX4_determinant_4 mv_X4_cell ml_X4_115 ⟨by decide, by decide, rfl, rfl, rfl⟩ (by decide) rfl rfl (Nat.le_of_ble_eq_true rfl) rfl c_X4_cell_000 ?_
  rintro r w' ⟨rfl, rfl⟩
  refine ab_aload_n dX4_determinant_7 rfl ?_
  refine ab_iconst (v := 1) dX4_determinant_8 (by decide) ?_
  refine ab_iconst (v := 2) dX4_determinant_9 (by decide) ?_
  refine ab_iload_n dX4_determinant_10 rfl ?_
  refine ab_callV (As := [.int 1, .int 2, .int 0]) (rest := [.long (r21 0)]) dX4_determinant_11 mv_X4_minor ml_X4_119 ⟨by decide, by decide, rfl, rfl, rfl⟩ (by decide) rfl rfl (Nat.le_of_ble_eq_true rfl) rfl c_X4_minor_120 ?_
  rintro r w' ⟨rfl, rfl⟩
  refine ab_lmul dX4_determinant_14 ?_
  refine ab_aload_n dX4_determinant_15 rfl ?_
  refine ab_iconst (v := 0) dX4_determinant_16 (by decide) ?_
  refine ab_iconst (v := 1) dX4_determinant_17 (by decide) ?_
  refine ab_iload_n dX4_determinant_18 rfl ?_
  refine ab_callV (As := [.int 0, .int 1, .int 0]) (rest := [.long ((r21 0) * (Dn_120 r19 r22))]) dX4_determinant_19 mv_X4_cell ml_X4_115 ⟨by decide, by decide, rfl, rfl, rfl⟩ (by decide) rfl rfl (Nat.le_of_ble_eq_true rfl) rfl c_X4_cell_010 ?_
  rintro r w' ⟨rfl, rfl⟩
  refine ab_aload_n dX4_determinant_22 rfl ?_
  refine ab_iconst (v := 0) dX4_determinant_23 (by decide) ?_
  refine ab_iconst (v := 2) dX4_determinant_24 (by decide) ?_
  refine ab_iload_n dX4_determinant_25 rfl ?_
  refine ab_callV (As := [.int 0, .int 2, .int 0]) (rest := [.long (-(r19 0)), .long ((r21 0) * (Dn_120 r19 r22))]) dX4_determinant_26 mv_X4_minor ml_X4_119 ⟨by decide, by decide, rfl, rfl, rfl⟩ (by decide) rfl rfl (Nat.le_of_ble_eq_true rfl) rfl c_X4_minor_020 ?_
  rintro r w' ⟨rfl, rfl⟩
  refine ab_lmul dX4_determinant_29 ?_
  refine ab_lsub dX4_determinant_30 ?_
  refine ab_aload_n dX4_determinant_31 rfl ?_
  refine ab_iconst (v := 0) dX4_determinant_32 (by decide) ?_
  refine ab_iconst (v := 2) dX4_determinant_33 (by decide) ?_
  refine ab_iload_n dX4_determinant_34 rfl ?_
  refine ab_callV (As := [.int 0, .int 2, .int 0]) (rest := [.long (((r21 0) * (Dn_120 r19 r22)) - ((-(r19 0)) * (Dn_020 r21 r22)))]) dX4_determinant_35 mv_X4_cell ml_X4_115 ⟨by decide, by decide, rfl, rfl, rfl⟩ (by decide) rfl rfl (Nat.le_of_ble_eq_true rfl) rfl c_X4_cell_020 ?_
  rintro r w' ⟨rfl, rfl⟩
  refine ab_aload_n dX4_determinant_38 rfl ?_
  refine ab_iconst (v := 0) dX4_determinant_39 (by decide) ?_
  refine ab_iconst (v := 1) dX4_determinant_40 (by decide) ?_
  refine ab_iload_n dX4_determinant_41 rfl ?_
  refine ab_callV (As := [.int 0, .int 1, .int 0]) (rest := [.long (r22 0), .long (((r21 0) * (Dn_120 r19 r22)) - ((-(r19 0)) * (Dn_020 r21 r22)))]) dX4_determinant_42 mv_X4_minor ml_X4_119 ⟨by decide, by decide, rfl, rfl, rfl⟩ (by decide) rfl rfl (Nat.le_of_ble_eq_true rfl) rfl c_X4_minor_010 ?_
  rintro r w' ⟨rfl, rfl⟩
  refine ab_lmul dX4_determinant_45 ?_
  refine ab_ladd dX4_determinant_46 ?_
  exact ab_lret dX4_determinant_47 rfl (by decide) (⟨rfl, rfl⟩)
theorem c_X4_cell_001 {x0 x1 x2 x3 x4 x5 x6 x7 x8 x9 x10 x11 x12 x13 x14 x15 x16 x17 x23 x24 x25 x26 x27 x28 x29 x30 x31 x32 : ax_E} {f18_6 f18_7 f18_8 f18_9 f18_10 : Int32} {f18_11 f18_12 : Int64} {r19 r20 r21 r22 : Nat → Int64} {wm : List ax_E}  : Ct M_X4_cell [.ref 18, .int 0, .int 0, .int 1] ([x0, x1, x2, x3, x4, x5, x6, x7, x8, x9, x10, x11, x12, x13, x14, x15, x16, x17, ob 4 [.ref 19, .ref 20, .ref 21, .ref 22, .ref 23, .ref 24, .int f18_6, .int f18_7, .int f18_8, .int f18_9, .int f18_10, .long f18_11, .long f18_12], ja 4 r19, ja 4 r20, ja 4 r21, ja 4 r22, x23, x24, x25, x26, x27, x28, x29, x30, x31, x32], wm) (fun r w' => r = some (.long (r20 0)) ∧ w' = ([x0, x1, x2, x3, x4, x5, x6, x7, x8, x9, x10, x11, x12, x13, x14, x15, x16, x17, ob 4 [.ref 19, .ref 20, .ref 21, .ref 22, .ref 23, .ref 24, .int f18_6, .int f18_7, .int f18_8, .int f18_9, .int f18_10, .long f18_11, .long f18_12], ja 4 r19, ja 4 r20, ja 4 r21, ja 4 r22, x23, x24, x25, x26, x27, x28, x29, x30, x31, x32], wm)) := by
  refine ct_of ⟨by decide, rfl⟩ (Nat.le_of_ble_eq_true rfl) ?_
  refine ab_iload_n dX4_cell_0 rfl ?_
  refine ab_iload_n dX4_cell_1 rfl ?_
  refine ab_icmpne 12 dX4_cell_2 (by decide) (fun h_1 => ?_) (fun h_1 => absurd h_1 (by decide))
  refine ab_iload_n dX4_cell_12 rfl ?_
  refine ab_ifne 23 dX4_cell_13 (by decide) (fun h_2 => absurd (by decide) h_2) (fun h_2 => ?_)
  refine ab_aload_n dX4_cell_16 rfl ?_
  refine ab_getf dX4_cell_17 fl_X4_15 rfl rfl ?_
  refine ab_iload_n dX4_cell_20 rfl ?_
  refine ab_lald (j := 0) dX4_cell_21 rfl (ix_c (by decide)) ?_
  exact ab_lret dX4_cell_22 rfl (by decide) (⟨rfl, rfl⟩)
theorem c_X4_cell_011 {x0 x1 x2 x3 x4 x5 x6 x7 x8 x9 x10 x11 x12 x13 x14 x15 x16 x17 x23 x24 x25 x26 x27 x28 x29 x30 x31 x32 : ax_E} {f18_6 f18_7 f18_8 f18_9 f18_10 : Int32} {f18_11 f18_12 : Int64} {r19 r20 r21 r22 : Nat → Int64} {wm : List ax_E}  : Ct M_X4_cell [.ref 18, .int 0, .int 1, .int 1] ([x0, x1, x2, x3, x4, x5, x6, x7, x8, x9, x10, x11, x12, x13, x14, x15, x16, x17, ob 4 [.ref 19, .ref 20, .ref 21, .ref 22, .ref 23, .ref 24, .int f18_6, .int f18_7, .int f18_8, .int f18_9, .int f18_10, .long f18_11, .long f18_12], ja 4 r19, ja 4 r20, ja 4 r21, ja 4 r22, x23, x24, x25, x26, x27, x28, x29, x30, x31, x32], wm) (fun r w' => r = some (.long (r21 0)) ∧ w' = ([x0, x1, x2, x3, x4, x5, x6, x7, x8, x9, x10, x11, x12, x13, x14, x15, x16, x17, ob 4 [.ref 19, .ref 20, .ref 21, .ref 22, .ref 23, .ref 24, .int f18_6, .int f18_7, .int f18_8, .int f18_9, .int f18_10, .long f18_11, .long f18_12], ja 4 r19, ja 4 r20, ja 4 r21, ja 4 r22, x23, x24, x25, x26, x27, x28, x29, x30, x31, x32], wm)) := by
  refine ct_of ⟨by decide, rfl⟩ (Nat.le_of_ble_eq_true rfl) ?_
  refine ab_iload_n dX4_cell_0 rfl ?_
  refine ab_iload_n dX4_cell_1 rfl ?_
  refine ab_icmpne 12 dX4_cell_2 (by decide) (fun h_1 => absurd (by decide) h_1) (fun h_1 => ?_)
  refine ab_aload_n dX4_cell_5 rfl ?_
  refine ab_getf dX4_cell_6 fl_X4_18 rfl rfl ?_
  refine ab_iload_n dX4_cell_9 rfl ?_
  refine ab_lald (j := 0) dX4_cell_10 rfl (ix_c (by decide)) ?_
  exact ab_lret dX4_cell_11 rfl (by decide) (⟨rfl, rfl⟩)
theorem c_X4_cell_021 {x0 x1 x2 x3 x4 x5 x6 x7 x8 x9 x10 x11 x12 x13 x14 x15 x16 x17 x23 x24 x25 x26 x27 x28 x29 x30 x31 x32 : ax_E} {f18_6 f18_7 f18_8 f18_9 f18_10 : Int32} {f18_11 f18_12 : Int64} {r19 r20 r21 r22 : Nat → Int64} {wm : List ax_E}  : Ct M_X4_cell [.ref 18, .int 0, .int 2, .int 1] ([x0, x1, x2, x3, x4, x5, x6, x7, x8, x9, x10, x11, x12, x13, x14, x15, x16, x17, ob 4 [.ref 19, .ref 20, .ref 21, .ref 22, .ref 23, .ref 24, .int f18_6, .int f18_7, .int f18_8, .int f18_9, .int f18_10, .long f18_11, .long f18_12], ja 4 r19, ja 4 r20, ja 4 r21, ja 4 r22, x23, x24, x25, x26, x27, x28, x29, x30, x31, x32], wm) (fun r w' => r = some (.long (r22 0)) ∧ w' = ([x0, x1, x2, x3, x4, x5, x6, x7, x8, x9, x10, x11, x12, x13, x14, x15, x16, x17, ob 4 [.ref 19, .ref 20, .ref 21, .ref 22, .ref 23, .ref 24, .int f18_6, .int f18_7, .int f18_8, .int f18_9, .int f18_10, .long f18_11, .long f18_12], ja 4 r19, ja 4 r20, ja 4 r21, ja 4 r22, x23, x24, x25, x26, x27, x28, x29, x30, x31, x32], wm)) := by
  refine ct_of ⟨by decide, rfl⟩ (Nat.le_of_ble_eq_true rfl) ?_
  refine ab_iload_n dX4_cell_0 rfl ?_
  refine ab_iload_n dX4_cell_1 rfl ?_
  refine ab_icmpne 12 dX4_cell_2 (by decide) (fun h_1 => ?_) (fun h_1 => absurd h_1 (by decide))
  refine ab_iload_n dX4_cell_12 rfl ?_
  refine ab_ifne 23 dX4_cell_13 (by decide) (fun h_2 => ?_) (fun h_2 => absurd h_2 (by decide))
  refine ab_iload_n dX4_cell_23 rfl ?_
  refine ab_iconst (v := 1) dX4_cell_24 (by decide) ?_
  refine ab_icmpne 38 dX4_cell_25 (by decide) (fun h_3 => ?_) (fun h_3 => absurd h_3 (by decide))
  refine ab_aload_n dX4_cell_38 rfl ?_
  refine ab_getf dX4_cell_39 fl_X4_21 rfl rfl ?_
  refine ab_iload_n dX4_cell_42 rfl ?_
  refine ab_lald (j := 0) dX4_cell_43 rfl (ix_c (by decide)) ?_
  exact ab_lret dX4_cell_44 rfl (by decide) (⟨rfl, rfl⟩)
theorem c_X4_cell_101 {x0 x1 x2 x3 x4 x5 x6 x7 x8 x9 x10 x11 x12 x13 x14 x15 x16 x17 x23 x24 x25 x26 x27 x28 x29 x30 x31 x32 : ax_E} {f18_6 f18_7 f18_8 f18_9 f18_10 : Int32} {f18_11 f18_12 : Int64} {r19 r20 r21 r22 : Nat → Int64} {wm : List ax_E}  : Ct M_X4_cell [.ref 18, .int 1, .int 0, .int 1] ([x0, x1, x2, x3, x4, x5, x6, x7, x8, x9, x10, x11, x12, x13, x14, x15, x16, x17, ob 4 [.ref 19, .ref 20, .ref 21, .ref 22, .ref 23, .ref 24, .int f18_6, .int f18_7, .int f18_8, .int f18_9, .int f18_10, .long f18_11, .long f18_12], ja 4 r19, ja 4 r20, ja 4 r21, ja 4 r22, x23, x24, x25, x26, x27, x28, x29, x30, x31, x32], wm) (fun r w' => r = some (.long (r20 1)) ∧ w' = ([x0, x1, x2, x3, x4, x5, x6, x7, x8, x9, x10, x11, x12, x13, x14, x15, x16, x17, ob 4 [.ref 19, .ref 20, .ref 21, .ref 22, .ref 23, .ref 24, .int f18_6, .int f18_7, .int f18_8, .int f18_9, .int f18_10, .long f18_11, .long f18_12], ja 4 r19, ja 4 r20, ja 4 r21, ja 4 r22, x23, x24, x25, x26, x27, x28, x29, x30, x31, x32], wm)) := by
  refine ct_of ⟨by decide, rfl⟩ (Nat.le_of_ble_eq_true rfl) ?_
  refine ab_iload_n dX4_cell_0 rfl ?_
  refine ab_iload_n dX4_cell_1 rfl ?_
  refine ab_icmpne 12 dX4_cell_2 (by decide) (fun h_1 => ?_) (fun h_1 => absurd h_1 (by decide))
  refine ab_iload_n dX4_cell_12 rfl ?_
  refine ab_ifne 23 dX4_cell_13 (by decide) (fun h_2 => absurd (by decide) h_2) (fun h_2 => ?_)
  refine ab_aload_n dX4_cell_16 rfl ?_
  refine ab_getf dX4_cell_17 fl_X4_15 rfl rfl ?_
  refine ab_iload_n dX4_cell_20 rfl ?_
  refine ab_lald (j := 1) dX4_cell_21 rfl (ix_c (by decide)) ?_
  exact ab_lret dX4_cell_22 rfl (by decide) (⟨rfl, rfl⟩)
theorem c_X4_cell_111 {x0 x1 x2 x3 x4 x5 x6 x7 x8 x9 x10 x11 x12 x13 x14 x15 x16 x17 x23 x24 x25 x26 x27 x28 x29 x30 x31 x32 : ax_E} {f18_6 f18_7 f18_8 f18_9 f18_10 : Int32} {f18_11 f18_12 : Int64} {r19 r20 r21 r22 : Nat → Int64} {wm : List ax_E}  : Ct M_X4_cell [.ref 18, .int 1, .int 1, .int 1] ([x0, x1, x2, x3, x4, x5, x6, x7, x8, x9, x10, x11, x12, x13, x14, x15, x16, x17, ob 4 [.ref 19, .ref 20, .ref 21, .ref 22, .ref 23, .ref 24, .int f18_6, .int f18_7, .int f18_8, .int f18_9, .int f18_10, .long f18_11, .long f18_12], ja 4 r19, ja 4 r20, ja 4 r21, ja 4 r22, x23, x24, x25, x26, x27, x28, x29, x30, x31, x32], wm) (fun r w' => r = some (.long (r21 1)) ∧ w' = ([x0, x1, x2, x3, x4, x5, x6, x7, x8, x9, x10, x11, x12, x13, x14, x15, x16, x17, ob 4 [.ref 19, .ref 20, .ref 21, .ref 22, .ref 23, .ref 24, .int f18_6, .int f18_7, .int f18_8, .int f18_9, .int f18_10, .long f18_11, .long f18_12], ja 4 r19, ja 4 r20, ja 4 r21, ja 4 r22, x23, x24, x25, x26, x27, x28, x29, x30, x31, x32], wm)) := by
  refine ct_of ⟨by decide, rfl⟩ (Nat.le_of_ble_eq_true rfl) ?_
  refine ab_iload_n dX4_cell_0 rfl ?_
  refine ab_iload_n dX4_cell_1 rfl ?_
  refine ab_icmpne 12 dX4_cell_2 (by decide) (fun h_1 => absurd (by decide) h_1) (fun h_1 => ?_)
  refine ab_aload_n dX4_cell_5 rfl ?_
  refine ab_getf dX4_cell_6 fl_X4_18 rfl rfl ?_
  refine ab_iload_n dX4_cell_9 rfl ?_
  refine ab_lald (j := 1) dX4_cell_10 rfl (ix_c (by decide)) ?_
  exact ab_lret dX4_cell_11 rfl (by decide) (⟨rfl, rfl⟩)
theorem c_X4_cell_121 {x0 x1 x2 x3 x4 x5 x6 x7 x8 x9 x10 x11 x12 x13 x14 x15 x16 x17 x23 x24 x25 x26 x27 x28 x29 x30 x31 x32 : ax_E} {f18_6 f18_7 f18_8 f18_9 f18_10 : Int32} {f18_11 f18_12 : Int64} {r19 r20 r21 r22 : Nat → Int64} {wm : List ax_E}  : Ct M_X4_cell [.ref 18, .int 1, .int 2, .int 1] ([x0, x1, x2, x3, x4, x5, x6, x7, x8, x9, x10, x11, x12, x13, x14, x15, x16, x17, ob 4 [.ref 19, .ref 20, .ref 21, .ref 22, .ref 23, .ref 24, .int f18_6, .int f18_7, .int f18_8, .int f18_9, .int f18_10, .long f18_11, .long f18_12], ja 4 r19, ja 4 r20, ja 4 r21, ja 4 r22, x23, x24, x25, x26, x27, x28, x29, x30, x31, x32], wm) (fun r w' => r = some (.long (r22 1)) ∧ w' = ([x0, x1, x2, x3, x4, x5, x6, x7, x8, x9, x10, x11, x12, x13, x14, x15, x16, x17, ob 4 [.ref 19, .ref 20, .ref 21, .ref 22, .ref 23, .ref 24, .int f18_6, .int f18_7, .int f18_8, .int f18_9, .int f18_10, .long f18_11, .long f18_12], ja 4 r19, ja 4 r20, ja 4 r21, ja 4 r22, x23, x24, x25, x26, x27, x28, x29, x30, x31, x32], wm)) := by
  refine ct_of ⟨by decide, rfl⟩ (Nat.le_of_ble_eq_true rfl) ?_
  refine ab_iload_n dX4_cell_0 rfl ?_
  refine ab_iload_n dX4_cell_1 rfl ?_
  refine ab_icmpne 12 dX4_cell_2 (by decide) (fun h_1 => ?_) (fun h_1 => absurd h_1 (by decide))
  refine ab_iload_n dX4_cell_12 rfl ?_
  refine ab_ifne 23 dX4_cell_13 (by decide) (fun h_2 => ?_) (fun h_2 => absurd h_2 (by decide))
  refine ab_iload_n dX4_cell_23 rfl ?_
  refine ab_iconst (v := 1) dX4_cell_24 (by decide) ?_
  refine ab_icmpne 38 dX4_cell_25 (by decide) (fun h_3 => ?_) (fun h_3 => absurd h_3 (by decide))
  refine ab_aload_n dX4_cell_38 rfl ?_
  refine ab_getf dX4_cell_39 fl_X4_21 rfl rfl ?_
  refine ab_iload_n dX4_cell_42 rfl ?_
  refine ab_lald (j := 1) dX4_cell_43 rfl (ix_c (by decide)) ?_
  exact ab_lret dX4_cell_44 rfl (by decide) (⟨rfl, rfl⟩)
theorem c_X4_cell_201 {x0 x1 x2 x3 x4 x5 x6 x7 x8 x9 x10 x11 x12 x13 x14 x15 x16 x17 x23 x24 x25 x26 x27 x28 x29 x30 x31 x32 : ax_E} {f18_6 f18_7 f18_8 f18_9 f18_10 : Int32} {f18_11 f18_12 : Int64} {r19 r20 r21 r22 : Nat → Int64} {wm : List ax_E}  : Ct M_X4_cell [.ref 18, .int 2, .int 0, .int 1] ([x0, x1, x2, x3, x4, x5, x6, x7, x8, x9, x10, x11, x12, x13, x14, x15, x16, x17, ob 4 [.ref 19, .ref 20, .ref 21, .ref 22, .ref 23, .ref 24, .int f18_6, .int f18_7, .int f18_8, .int f18_9, .int f18_10, .long f18_11, .long f18_12], ja 4 r19, ja 4 r20, ja 4 r21, ja 4 r22, x23, x24, x25, x26, x27, x28, x29, x30, x31, x32], wm) (fun r w' => r = some (.long (r20 2)) ∧ w' = ([x0, x1, x2, x3, x4, x5, x6, x7, x8, x9, x10, x11, x12, x13, x14, x15, x16, x17, ob 4 [.ref 19, .ref 20, .ref 21, .ref 22, .ref 23, .ref 24, .int f18_6, .int f18_7, .int f18_8, .int f18_9, .int f18_10, .long f18_11, .long f18_12], ja 4 r19, ja 4 r20, ja 4 r21, ja 4 r22, x23, x24, x25, x26, x27, x28, x29, x30, x31, x32], wm)) := by
  refine ct_of ⟨by decide, rfl⟩ (Nat.le_of_ble_eq_true rfl) ?_
  refine ab_iload_n dX4_cell_0 rfl ?_
  refine ab_iload_n dX4_cell_1 rfl ?_
  refine ab_icmpne 12 dX4_cell_2 (by decide) (fun h_1 => ?_) (fun h_1 => absurd h_1 (by decide))
  refine ab_iload_n dX4_cell_12 rfl ?_
  refine ab_ifne 23 dX4_cell_13 (by decide) (fun h_2 => absurd (by decide) h_2) (fun h_2 => ?_)
  refine ab_aload_n dX4_cell_16 rfl ?_
  refine ab_getf dX4_cell_17 fl_X4_15 rfl rfl ?_
  refine ab_iload_n dX4_cell_20 rfl ?_
  refine ab_lald (j := 2) dX4_cell_21 rfl (ix_c (by decide)) ?_
  exact ab_lret dX4_cell_22 rfl (by decide) (⟨rfl, rfl⟩)
theorem c_X4_cell_211 {x0 x1 x2 x3 x4 x5 x6 x7 x8 x9 x10 x11 x12 x13 x14 x15 x16 x17 x23 x24 x25 x26 x27 x28 x29 x30 x31 x32 : ax_E} {f18_6 f18_7 f18_8 f18_9 f18_10 : Int32} {f18_11 f18_12 : Int64} {r19 r20 r21 r22 : Nat → Int64} {wm : List ax_E}  : Ct M_X4_cell [.ref 18, .int 2, .int 1, .int 1] ([x0, x1, x2, x3, x4, x5, x6, x7, x8, x9, x10, x11, x12, x13, x14, x15, x16, x17, ob 4 [.ref 19, .ref 20, .ref 21, .ref 22, .ref 23, .ref 24, .int f18_6, .int f18_7, .int f18_8, .int f18_9, .int f18_10, .long f18_11, .long f18_12], ja 4 r19, ja 4 r20, ja 4 r21, ja 4 r22, x23, x24, x25, x26, x27, x28, x29, x30, x31, x32], wm) (fun r w' => r = some (.long (r21 2)) ∧ w' = ([x0, x1, x2, x3, x4, x5, x6, x7, x8, x9, x10, x11, x12, x13, x14, x15, x16, x17, ob 4 [.ref 19, .ref 20, .ref 21, .ref 22, .ref 23, .ref 24, .int f18_6, .int f18_7, .int f18_8, .int f18_9, .int f18_10, .long f18_11, .long f18_12], ja 4 r19, ja 4 r20, ja 4 r21, ja 4 r22, x23, x24, x25, x26, x27, x28, x29, x30, x31, x32], wm)) := by
  refine ct_of ⟨by decide, rfl⟩ (Nat.le_of_ble_eq_true rfl) ?_
  refine ab_iload_n dX4_cell_0 rfl ?_
  refine ab_iload_n dX4_cell_1 rfl ?_
  refine ab_icmpne 12 dX4_cell_2 (by decide) (fun h_1 => absurd (by decide) h_1) (fun h_1 => ?_)
  refine ab_aload_n dX4_cell_5 rfl ?_
  refine ab_getf dX4_cell_6 fl_X4_18 rfl rfl ?_
  refine ab_iload_n dX4_cell_9 rfl ?_
  refine ab_lald (j := 2) dX4_cell_10 rfl (ix_c (by decide)) ?_
  exact ab_lret dX4_cell_11 rfl (by decide) (⟨rfl, rfl⟩)
theorem c_X4_cell_221 {x0 x1 x2 x3 x4 x5 x6 x7 x8 x9 x10 x11 x12 x13 x14 x15 x16 x17 x23 x24 x25 x26 x27 x28 x29 x30 x31 x32 : ax_E} {f18_6 f18_7 f18_8 f18_9 f18_10 : Int32} {f18_11 f18_12 : Int64} {r19 r20 r21 r22 : Nat → Int64} {wm : List ax_E}  : Ct M_X4_cell [.ref 18, .int 2, .int 2, .int 1] ([x0, x1, x2, x3, x4, x5, x6, x7, x8, x9, x10, x11, x12, x13, x14, x15, x16, x17, ob 4 [.ref 19, .ref 20, .ref 21, .ref 22, .ref 23, .ref 24, .int f18_6, .int f18_7, .int f18_8, .int f18_9, .int f18_10, .long f18_11, .long f18_12], ja 4 r19, ja 4 r20, ja 4 r21, ja 4 r22, x23, x24, x25, x26, x27, x28, x29, x30, x31, x32], wm) (fun r w' => r = some (.long (r22 2)) ∧ w' = ([x0, x1, x2, x3, x4, x5, x6, x7, x8, x9, x10, x11, x12, x13, x14, x15, x16, x17, ob 4 [.ref 19, .ref 20, .ref 21, .ref 22, .ref 23, .ref 24, .int f18_6, .int f18_7, .int f18_8, .int f18_9, .int f18_10, .long f18_11, .long f18_12], ja 4 r19, ja 4 r20, ja 4 r21, ja 4 r22, x23, x24, x25, x26, x27, x28, x29, x30, x31, x32], wm)) := by
  refine ct_of ⟨by decide, rfl⟩ (Nat.le_of_ble_eq_true rfl) ?_
  refine ab_iload_n dX4_cell_0 rfl ?_
  refine ab_iload_n dX4_cell_1 rfl ?_
  refine ab_icmpne 12 dX4_cell_2 (by decide) (fun h_1 => ?_) (fun h_1 => absurd h_1 (by decide))
  refine ab_iload_n dX4_cell_12 rfl ?_
  refine ab_ifne 23 dX4_cell_13 (by decide) (fun h_2 => ?_) (fun h_2 => absurd h_2 (by decide))
  refine ab_iload_n dX4_cell_23 rfl ?_
  refine ab_iconst (v := 1) dX4_cell_24 (by decide) ?_
  refine ab_icmpne 38 dX4_cell_25 (by decide) (fun h_3 => ?_) (fun h_3 => absurd h_3 (by decide))
  refine ab_aload_n dX4_cell_38 rfl ?_
  refine ab_getf dX4_cell_39 fl_X4_21 rfl rfl ?_
  refine ab_iload_n dX4_cell_42 rfl ?_
  refine ab_lald (j := 2) dX4_cell_43 rfl (ix_c (by decide)) ?_
  exact ab_lret dX4_cell_44 rfl (by decide) (⟨rfl, rfl⟩)
def Dn_121 (r21 : Nat → Int64) (r22 : Nat → Int64) : Int64 := (((r21 1) * (r22 2)) - ((r22 1) * (r21 2)))
theorem c_X4_minor_121 {x0 x1 x2 x3 x4 x5 x6 x7 x8 x9 x10 x11 x12 x13 x14 x15 x16 x17 x23 x24 x25 x26 x27 x28 x29 x30 x31 x32 : ax_E} {f18_6 f18_7 f18_8 f18_9 f18_10 : Int32} {f18_11 f18_12 : Int64} {r19 r20 r21 r22 : Nat → Int64} {wm : List ax_E}  : Ct M_X4_minor [.ref 18, .int 1, .int 2, .int 1] ([x0, x1, x2, x3, x4, x5, x6, x7, x8, x9, x10, x11, x12, x13, x14, x15, x16, x17, ob 4 [.ref 19, .ref 20, .ref 21, .ref 22, .ref 23, .ref 24, .int f18_6, .int f18_7, .int f18_8, .int f18_9, .int f18_10, .long f18_11, .long f18_12], ja 4 r19, ja 4 r20, ja 4 r21, ja 4 r22, x23, x24, x25, x26, x27, x28, x29, x30, x31, x32], wm) (fun r w' => r = some (.long (Dn_121 r21 r22)) ∧ w' = ([x0, x1, x2, x3, x4, x5, x6, x7, x8, x9, x10, x11, x12, x13, x14, x15, x16, x17, ob 4 [.ref 19, .ref 20, .ref 21, .ref 22, .ref 23, .ref 24, .int f18_6, .int f18_7, .int f18_8, .int f18_9, .int f18_10, .long f18_11, .long f18_12], ja 4 r19, ja 4 r20, ja 4 r21, ja 4 r22, x23, x24, x25, x26, x27, x28, x29, x30, x31, x32], wm)) := by
  refine ct_of ⟨by decide, rfl⟩ (Nat.le_of_ble_eq_true rfl) ?_
  refine ab_aload_n dX4_minor_0 rfl ?_
  refine ab_iconst (v := 1) dX4_minor_1 (by decide) ?_
  refine ab_iload_n dX4_minor_2 rfl ?_
  refine ab_iload_n dX4_minor_3 rfl ?_
  refine ab_callV (As := [.int 1, .int 1, .int 1]) (rest := []) dX4_minor_4 mv_X4_cell ml_X4_115 ⟨by decide, by decide, rfl, rfl, rfl⟩ (by decide) rfl rfl (Nat.le_of_ble_eq_true rfl) rfl c_X4_cell_111 ?_
  rintro r w' ⟨rfl, rfl⟩
  refine ab_aload_n dX4_minor_7 rfl ?_
  refine ab_iconst (v := 2) dX4_minor_8 (by decide) ?_
  refine ab_iload_n dX4_minor_9 rfl ?_
  refine ab_iload_n dX4_minor_10 rfl ?_
  refine ab_callV (As := [.int 2, .int 2, .int 1]) (rest := [.long (r21 1)]) dX4_minor_11 mv_X4_cell ml_X4_115 ⟨by decide, by decide, rfl, rfl, rfl⟩ (by decide) rfl rfl (Nat.le_of_ble_eq_true rfl) rfl c_X4_cell_221 ?_
  rintro r w' ⟨rfl, rfl⟩
  refine ab_lmul dX4_minor_14 ?_
  refine ab_aload_n dX4_minor_15 rfl ?_
  refine ab_iconst (v := 1) dX4_minor_16 (by decide) ?_
  refine ab_iload_n dX4_minor_17 rfl ?_
  refine ab_iload_n dX4_minor_18 rfl ?_
  refine ab_callV (As := [.int 1, .int 2, .int 1]) (rest := [.long ((r21 1) * (r22 2))]) dX4_minor_19 mv_X4_cell ml_X4_115 ⟨by decide, by decide, rfl, rfl, rfl⟩ (by decide) rfl rfl (Nat.le_of_ble_eq_true rfl) rfl c_X4_cell_121 ?_
  rintro r w' ⟨rfl, rfl⟩
  refine ab_aload_n dX4_minor_22 rfl ?_
  refine ab_iconst (v := 2) dX4_minor_23 (by decide) ?_
  refine ab_iload_n dX4_minor_24 rfl ?_
  refine ab_iload_n dX4_minor_25 rfl ?_
  refine ab_callV (As := [.int 2, .int 1, .int 1]) (rest := [.long (r22 1), .long ((r21 1) * (r22 2))]) dX4_minor_26 mv_X4_cell ml_X4_115 ⟨by decide, by decide, rfl, rfl, rfl⟩ (by decide) rfl rfl (Nat.le_of_ble_eq_true rfl) rfl c_X4_cell_211 ?_
  rintro r w' ⟨rfl, rfl⟩
  refine ab_lmul dX4_minor_29 ?_
  refine ab_lsub dX4_minor_30 ?_
  exact ab_lret dX4_minor_31 rfl (by decide) (⟨rfl, rfl⟩)
def Dn_021 (r20 : Nat → Int64) (r22 : Nat → Int64) : Int64 := (((r20 1) * (r22 2)) - ((r22 1) * (r20 2)))
theorem c_X4_minor_021 {x0 x1 x2 x3 x4 x5 x6 x7 x8 x9 x10 x11 x12 x13 x14 x15 x16 x17 x23 x24 x25 x26 x27 x28 x29 x30 x31 x32 : ax_E} {f18_6 f18_7 f18_8 f18_9 f18_10 : Int32} {f18_11 f18_12 : Int64} {r19 r20 r21 r22 : Nat → Int64} {wm : List ax_E}  : Ct M_X4_minor [.ref 18, .int 0, .int 2, .int 1] ([x0, x1, x2, x3, x4, x5, x6, x7, x8, x9, x10, x11, x12, x13, x14, x15, x16, x17, ob 4 [.ref 19, .ref 20, .ref 21, .ref 22, .ref 23, .ref 24, .int f18_6, .int f18_7, .int f18_8, .int f18_9, .int f18_10, .long f18_11, .long f18_12], ja 4 r19, ja 4 r20, ja 4 r21, ja 4 r22, x23, x24, x25, x26, x27, x28, x29, x30, x31, x32], wm) (fun r w' => r = some (.long (Dn_021 r20 r22)) ∧ w' = ([x0, x1, x2, x3, x4, x5, x6, x7, x8, x9, x10, x11, x12, x13, x14, x15, x16, x17, ob 4 [.ref 19, .ref 20, .ref 21, .ref 22, .ref 23, .ref 24, .int f18_6, .int f18_7, .int f18_8, .int f18_9, .int f18_10, .long f18_11, .long f18_12], ja 4 r19, ja 4 r20, ja 4 r21, ja 4 r22, x23, x24, x25, x26, x27, x28, x29, x30, x31, x32], wm)) := by
  refine ct_of ⟨by decide, rfl⟩ (Nat.le_of_ble_eq_true rfl) ?_
  refine ab_aload_n dX4_minor_0 rfl ?_
  refine ab_iconst (v := 1) dX4_minor_1 (by decide) ?_
  refine ab_iload_n dX4_minor_2 rfl ?_
  refine ab_iload_n dX4_minor_3 rfl ?_
  refine ab_callV (As := [.int 1, .int 0, .int 1]) (rest := []) dX4_minor_4 mv_X4_cell ml_X4_115 ⟨by decide, by decide, rfl, rfl, rfl⟩ (by decide) rfl rfl (Nat.le_of_ble_eq_true rfl) rfl c_X4_cell_101 ?_
  rintro r w' ⟨rfl, rfl⟩
  refine ab_aload_n dX4_minor_7 rfl ?_
  refine ab_iconst (v := 2) dX4_minor_8 (by decide) ?_
  refine ab_iload_n dX4_minor_9 rfl ?_
  refine ab_iload_n dX4_minor_10 rfl ?_
  refine ab_callV (As := [.int 2, .int 2, .int 1]) (rest := [.long (r20 1)]) dX4_minor_11 mv_X4_cell ml_X4_115 ⟨by decide, by decide, rfl, rfl, rfl⟩ (by decide) rfl rfl (Nat.le_of_ble_eq_true rfl) rfl c_X4_cell_221 ?_
  rintro r w' ⟨rfl, rfl⟩
  refine ab_lmul dX4_minor_14 ?_
  refine ab_aload_n dX4_minor_15 rfl ?_
  refine ab_iconst (v := 1) dX4_minor_16 (by decide) ?_
  refine ab_iload_n dX4_minor_17 rfl ?_
  refine ab_iload_n dX4_minor_18 rfl ?_
  refine ab_callV (As := [.int 1, .int 2, .int 1]) (rest := [.long ((r20 1) * (r22 2))]) dX4_minor_19 mv_X4_cell ml_X4_115 ⟨by decide, by decide, rfl, rfl, rfl⟩ (by decide) rfl rfl (Nat.le_of_ble_eq_true rfl) rfl c_X4_cell_121 ?_
  rintro r w' ⟨rfl, rfl⟩
  refine ab_aload_n dX4_minor_22 rfl ?_
  refine ab_iconst (v := 2) dX4_minor_23 (by decide) ?_
  refine ab_iload_n dX4_minor_24 rfl ?_
  refine ab_iload_n dX4_minor_25 rfl ?_
  refine ab_callV (As := [.int 2, .int 0, .int 1]) (rest := [.long (r22 1), .long ((r20 1) * (r22 2))]) dX4_minor_26 mv_X4_cell ml_X4_115 ⟨by decide, by decide, rfl, rfl, rfl⟩ (by decide) rfl rfl (Nat.le_of_ble_eq_true rfl) rfl c_X4_cell_201 ?_
  rintro r w' ⟨rfl, rfl⟩
  refine ab_lmul dX4_minor_29 ?_
  refine ab_lsub dX4_minor_30 ?_
  exact ab_lret dX4_minor_31 rfl (by decide) (⟨rfl, rfl⟩)
def Dn_011 (r20 : Nat → Int64) (r21 : Nat → Int64) : Int64 := (((r20 1) * (r21 2)) - ((r21 1) * (r20 2)))
theorem c_X4_minor_011 {x0 x1 x2 x3 x4 x5 x6 x7 x8 x9 x10 x11 x12 x13 x14 x15 x16 x17 x23 x24 x25 x26 x27 x28 x29 x30 x31 x32 : ax_E} {f18_6 f18_7 f18_8 f18_9 f18_10 : Int32} {f18_11 f18_12 : Int64} {r19 r20 r21 r22 : Nat → Int64} {wm : List ax_E}  : Ct M_X4_minor [.ref 18, .int 0, .int 1, .int 1] ([x0, x1, x2, x3, x4, x5, x6, x7, x8, x9, x10, x11, x12, x13, x14, x15, x16, x17, ob 4 [.ref 19, .ref 20, .ref 21, .ref 22, .ref 23, .ref 24, .int f18_6, .int f18_7, .int f18_8, .int f18_9, .int f18_10, .long f18_11, .long f18_12], ja 4 r19, ja 4 r20, ja 4 r21, ja 4 r22, x23, x24, x25, x26, x27, x28, x29, x30, x31, x32], wm) (fun r w' => r = some (.long (Dn_011 r20 r21)) ∧ w' = ([x0, x1, x2, x3, x4, x5, x6, x7, x8, x9, x10, x11, x12, x13, x14, x15, x16, x17, ob 4 [.ref 19, .ref 20, .ref 21, .ref 22, .ref 23, .ref 24, .int f18_6, .int f18_7, .int f18_8, .int f18_9, .int f18_10, .long f18_11, .long f18_12], ja 4 r19, ja 4 r20, ja 4 r21, ja 4 r22, x23, x24, x25, x26, x27, x28, x29, x30, x31, x32], wm)) := by
  refine ct_of ⟨by decide, rfl⟩ (Nat.le_of_ble_eq_true rfl) ?_
  refine ab_aload_n dX4_minor_0 rfl ?_
  refine ab_iconst (v := 1) dX4_minor_1 (by decide) ?_
  refine ab_iload_n dX4_minor_2 rfl ?_
  refine ab_iload_n dX4_minor_3 rfl ?_
  refine ab_callV (As := [.int 1, .int 0, .int 1]) (rest := []) dX4_minor_4 mv_X4_cell ml_X4_115 ⟨by decide, by decide, rfl, rfl, rfl⟩ (by decide) rfl rfl (Nat.le_of_ble_eq_true rfl) rfl c_X4_cell_101 ?_
  rintro r w' ⟨rfl, rfl⟩
  refine ab_aload_n dX4_minor_7 rfl ?_
  refine ab_iconst (v := 2) dX4_minor_8 (by decide) ?_
  refine ab_iload_n dX4_minor_9 rfl ?_
  refine ab_iload_n dX4_minor_10 rfl ?_
  refine ab_callV (As := [.int 2, .int 1, .int 1]) (rest := [.long (r20 1)]) dX4_minor_11 mv_X4_cell ml_X4_115 ⟨by decide, by decide, rfl, rfl, rfl⟩ (by decide) rfl rfl (Nat.le_of_ble_eq_true rfl) rfl c_X4_cell_211 ?_
  rintro r w' ⟨rfl, rfl⟩
  refine ab_lmul dX4_minor_14 ?_
  refine ab_aload_n dX4_minor_15 rfl ?_
  refine ab_iconst (v := 1) dX4_minor_16 (by decide) ?_
  refine ab_iload_n dX4_minor_17 rfl ?_
  refine ab_iload_n dX4_minor_18 rfl ?_
  refine ab_callV (As := [.int 1, .int 1, .int 1]) (rest := [.long ((r20 1) * (r21 2))]) dX4_minor_19 mv_X4_cell ml_X4_115 ⟨by decide, by decide, rfl, rfl, rfl⟩ (by decide) rfl rfl (Nat.le_of_ble_eq_true rfl) rfl c_X4_cell_111 ?_
  rintro r w' ⟨rfl, rfl⟩
  refine ab_aload_n dX4_minor_22 rfl ?_
  refine ab_iconst (v := 2) dX4_minor_23 (by decide) ?_
  refine ab_iload_n dX4_minor_24 rfl ?_
  refine ab_iload_n dX4_minor_25 rfl ?_
  refine ab_callV (As := [.int 2, .int 0, .int 1]) (rest := [.long (r21 1), .long ((r20 1) * (r21 2))]) dX4_minor_26 mv_X4_cell ml_X4_115 ⟨by decide, by decide, rfl, rfl, rfl⟩ (by decide) rfl rfl (Nat.le_of_ble_eq_true rfl) rfl c_X4_cell_201 ?_
  rintro r w' ⟨rfl, rfl⟩
  refine ab_lmul dX4_minor_29 ?_
  refine ab_lsub dX4_minor_30 ?_
  exact ab_lret dX4_minor_31 rfl (by decide) (⟨rfl, rfl⟩)
def Dt_1 (r20 : Nat → Int64) (r21 : Nat → Int64) (r22 : Nat → Int64) : Int64 := ((((r20 0) * (Dn_121 r21 r22)) - ((r21 0) * (Dn_021 r20 r22))) + ((r22 0) * (Dn_011 r20 r21)))
theorem c_X4_determinant_1 {x0 x1 x2 x3 x4 x5 x6 x7 x8 x9 x10 x11 x12 x13 x14 x15 x16 x17 x23 x24 x25 x26 x27 x28 x29 x30 x31 x32 : ax_E} {f18_6 f18_7 f18_8 f18_9 f18_10 : Int32} {f18_11 f18_12 : Int64} {r19 r20 r21 r22 : Nat → Int64} {wm : List ax_E}  : Ct M_X4_determinant [.ref 18, .int 1] ([x0, x1, x2, x3, x4, x5, x6, x7, x8, x9, x10, x11, x12, x13, x14, x15, x16, x17, ob 4 [.ref 19, .ref 20, .ref 21, .ref 22, .ref 23, .ref 24, .int f18_6, .int f18_7, .int f18_8, .int f18_9, .int f18_10, .long f18_11, .long f18_12], ja 4 r19, ja 4 r20, ja 4 r21, ja 4 r22, x23, x24, x25, x26, x27, x28, x29, x30, x31, x32], wm) (fun r w' => r = some (.long (Dt_1 r20 r21 r22)) ∧ w' = ([x0, x1, x2, x3, x4, x5, x6, x7, x8, x9, x10, x11, x12, x13, x14, x15, x16, x17, ob 4 [.ref 19, .ref 20, .ref 21, .ref 22, .ref 23, .ref 24, .int f18_6, .int f18_7, .int f18_8, .int f18_9, .int f18_10, .long f18_11, .long f18_12], ja 4 r19, ja 4 r20, ja 4 r21, ja 4 r22, x23, x24, x25, x26, x27, x28, x29, x30, x31, x32], wm)) := by
  refine ct_of ⟨by decide, rfl⟩ (Nat.le_of_ble_eq_true rfl) ?_
  refine ab_aload_n dX4_determinant_0 rfl ?_
  refine ab_iconst (v := 0) dX4_determinant_1 (by decide) ?_
  refine ab_iconst (v := 0) dX4_determinant_2 (by decide) ?_
  refine ab_iload_n dX4_determinant_3 rfl ?_
  refine ab_callV (As := [.int 0, .int 0, .int 1]) (rest := []) dX4_determinant_4 mv_X4_cell ml_X4_115 ⟨by decide, by decide, rfl, rfl, rfl⟩ (by decide) rfl rfl (Nat.le_of_ble_eq_true rfl) rfl c_X4_cell_001 ?_
  rintro r w' ⟨rfl, rfl⟩
  refine ab_aload_n dX4_determinant_7 rfl ?_
  refine ab_iconst (v := 1) dX4_determinant_8 (by decide) ?_
  refine ab_iconst (v := 2) dX4_determinant_9 (by decide) ?_
  refine ab_iload_n dX4_determinant_10 rfl ?_
  refine ab_callV (As := [.int 1, .int 2, .int 1]) (rest := [.long (r20 0)]) dX4_determinant_11 mv_X4_minor ml_X4_119 ⟨by decide, by decide, rfl, rfl, rfl⟩ (by decide) rfl rfl (Nat.le_of_ble_eq_true rfl) rfl c_X4_minor_121 ?_
  rintro r w' ⟨rfl, rfl⟩
  refine ab_lmul dX4_determinant_14 ?_
  refine ab_aload_n dX4_determinant_15 rfl ?_
  refine ab_iconst (v := 0) dX4_determinant_16 (by decide) ?_
  refine ab_iconst (v := 1) dX4_determinant_17 (by decide) ?_
  refine ab_iload_n dX4_determinant_18 rfl ?_
  refine ab_callV (As := [.int 0, .int 1, .int 1]) (rest := [.long ((r20 0) * (Dn_121 r21 r22))]) dX4_determinant_19 mv_X4_cell ml_X4_115 ⟨by decide, by decide, rfl, rfl, rfl⟩ (by decide) rfl rfl (Nat.le_of_ble_eq_true rfl) rfl c_X4_cell_011 ?_
  rintro r w' ⟨rfl, rfl⟩
  refine ab_aload_n dX4_determinant_22 rfl ?_
  refine ab_iconst (v := 0) dX4_determinant_23 (by decide) ?_
  refine ab_iconst (v := 2) dX4_determinant_24 (by decide) ?_
  refine ab_iload_n dX4_determinant_25 rfl ?_
  refine ab_callV (As := [.int 0, .int 2, .int 1]) (rest := [.long (r21 0), .long ((r20 0) * (Dn_121 r21 r22))]) dX4_determinant_26 mv_X4_minor ml_X4_119 ⟨by decide, by decide, rfl, rfl, rfl⟩ (by decide) rfl rfl (Nat.le_of_ble_eq_true rfl) rfl c_X4_minor_021 ?_
  rintro r w' ⟨rfl, rfl⟩
  refine ab_lmul dX4_determinant_29 ?_
  refine ab_lsub dX4_determinant_30 ?_
  refine ab_aload_n dX4_determinant_31 rfl ?_
  refine ab_iconst (v := 0) dX4_determinant_32 (by decide) ?_
  refine ab_iconst (v := 2) dX4_determinant_33 (by decide) ?_
  refine ab_iload_n dX4_determinant_34 rfl ?_
  refine ab_callV (As := [.int 0, .int 2, .int 1]) (rest := [.long (((r20 0) * (Dn_121 r21 r22)) - ((r21 0) * (Dn_021 r20 r22)))]) dX4_determinant_35 mv_X4_cell ml_X4_115 ⟨by decide, by decide, rfl, rfl, rfl⟩ (by decide) rfl rfl (Nat.le_of_ble_eq_true rfl) rfl c_X4_cell_021 ?_
  rintro r w' ⟨rfl, rfl⟩
  refine ab_aload_n dX4_determinant_38 rfl ?_
  refine ab_iconst (v := 0) dX4_determinant_39 (by decide) ?_
  refine ab_iconst (v := 1) dX4_determinant_40 (by decide) ?_
  refine ab_iload_n dX4_determinant_41 rfl ?_
  refine ab_callV (As := [.int 0, .int 1, .int 1]) (rest := [.long (r22 0), .long (((r20 0) * (Dn_121 r21 r22)) - ((r21 0) * (Dn_021 r20 r22)))]) dX4_determinant_42 mv_X4_minor ml_X4_119 ⟨by decide, by decide, rfl, rfl, rfl⟩ (by decide) rfl rfl (Nat.le_of_ble_eq_true rfl) rfl c_X4_minor_011 ?_
  rintro r w' ⟨rfl, rfl⟩
  refine ab_lmul dX4_determinant_45 ?_
  refine ab_ladd dX4_determinant_46 ?_
  exact ab_lret dX4_determinant_47 rfl (by decide) (⟨rfl, rfl⟩)
theorem c_X4_cell_002 {x0 x1 x2 x3 x4 x5 x6 x7 x8 x9 x10 x11 x12 x13 x14 x15 x16 x17 x23 x24 x25 x26 x27 x28 x29 x30 x31 x32 : ax_E} {f18_6 f18_7 f18_8 f18_9 f18_10 : Int32} {f18_11 f18_12 : Int64} {r19 r20 r21 r22 : Nat → Int64} {wm : List ax_E}  : Ct M_X4_cell [.ref 18, .int 0, .int 0, .int 2] ([x0, x1, x2, x3, x4, x5, x6, x7, x8, x9, x10, x11, x12, x13, x14, x15, x16, x17, ob 4 [.ref 19, .ref 20, .ref 21, .ref 22, .ref 23, .ref 24, .int f18_6, .int f18_7, .int f18_8, .int f18_9, .int f18_10, .long f18_11, .long f18_12], ja 4 r19, ja 4 r20, ja 4 r21, ja 4 r22, x23, x24, x25, x26, x27, x28, x29, x30, x31, x32], wm) (fun r w' => r = some (.long (r20 0)) ∧ w' = ([x0, x1, x2, x3, x4, x5, x6, x7, x8, x9, x10, x11, x12, x13, x14, x15, x16, x17, ob 4 [.ref 19, .ref 20, .ref 21, .ref 22, .ref 23, .ref 24, .int f18_6, .int f18_7, .int f18_8, .int f18_9, .int f18_10, .long f18_11, .long f18_12], ja 4 r19, ja 4 r20, ja 4 r21, ja 4 r22, x23, x24, x25, x26, x27, x28, x29, x30, x31, x32], wm)) := by
  refine ct_of ⟨by decide, rfl⟩ (Nat.le_of_ble_eq_true rfl) ?_
  refine ab_iload_n dX4_cell_0 rfl ?_
  refine ab_iload_n dX4_cell_1 rfl ?_
  refine ab_icmpne 12 dX4_cell_2 (by decide) (fun h_1 => ?_) (fun h_1 => absurd h_1 (by decide))
  refine ab_iload_n dX4_cell_12 rfl ?_
  refine ab_ifne 23 dX4_cell_13 (by decide) (fun h_2 => absurd (by decide) h_2) (fun h_2 => ?_)
  refine ab_aload_n dX4_cell_16 rfl ?_
  refine ab_getf dX4_cell_17 fl_X4_15 rfl rfl ?_
  refine ab_iload_n dX4_cell_20 rfl ?_
  refine ab_lald (j := 0) dX4_cell_21 rfl (ix_c (by decide)) ?_
  exact ab_lret dX4_cell_22 rfl (by decide) (⟨rfl, rfl⟩)
theorem c_X4_cell_012 {x0 x1 x2 x3 x4 x5 x6 x7 x8 x9 x10 x11 x12 x13 x14 x15 x16 x17 x23 x24 x25 x26 x27 x28 x29 x30 x31 x32 : ax_E} {f18_6 f18_7 f18_8 f18_9 f18_10 : Int32} {f18_11 f18_12 : Int64} {r19 r20 r21 r22 : Nat → Int64} {wm : List ax_E}  : Ct M_X4_cell [.ref 18, .int 0, .int 1, .int 2] ([x0, x1, x2, x3, x4, x5, x6, x7, x8, x9, x10, x11, x12, x13, x14, x15, x16, x17, ob 4 [.ref 19, .ref 20, .ref 21, .ref 22, .ref 23, .ref 24, .int f18_6, .int f18_7, .int f18_8, .int f18_9, .int f18_10, .long f18_11, .long f18_12], ja 4 r19, ja 4 r20, ja 4 r21, ja 4 r22, x23, x24, x25, x26, x27, x28, x29, x30, x31, x32], wm) (fun r w' => r = some (.long (-(r19 0))) ∧ w' = ([x0, x1, x2, x3, x4, x5, x6, x7, x8, x9, x10, x11, x12, x13, x14, x15, x16, x17, ob 4 [.ref 19, .ref 20, .ref 21, .ref 22, .ref 23, .ref 24, .int f18_6, .int f18_7, .int f18_8, .int f18_9, .int f18_10, .long f18_11, .long f18_12], ja 4 r19, ja 4 r20, ja 4 r21, ja 4 r22, x23, x24, x25, x26, x27, x28, x29, x30, x31, x32], wm)) := by
  refine ct_of ⟨by decide, rfl⟩ (Nat.le_of_ble_eq_true rfl) ?_
  refine ab_iload_n dX4_cell_0 rfl ?_
  refine ab_iload_n dX4_cell_1 rfl ?_
  refine ab_icmpne 12 dX4_cell_2 (by decide) (fun h_1 => ?_) (fun h_1 => absurd h_1 (by decide))
  refine ab_iload_n dX4_cell_12 rfl ?_
  refine ab_ifne 23 dX4_cell_13 (by decide) (fun h_2 => ?_) (fun h_2 => absurd h_2 (by decide))
  refine ab_iload_n dX4_cell_23 rfl ?_
  refine ab_iconst (v := 1) dX4_cell_24 (by decide) ?_
  refine ab_icmpne 38 dX4_cell_25 (by decide) (fun h_3 => absurd (by decide) h_3) (fun h_3 => ?_)
  refine ab_aload_n dX4_cell_28 rfl ?_
  refine ab_getf dX4_cell_29 fl_X4_11 rfl rfl ?_
  refine ab_iload_n dX4_cell_32 rfl ?_
  refine ab_lald (j := 0) dX4_cell_33 rfl (ix_c (by decide)) ?_
  refine ab_lneg dX4_cell_34 ?_
  refine ab_goto 44 dX4_cell_35 (by decide) ?_
  exact ab_lret dX4_cell_44 rfl (by decide) (⟨rfl, rfl⟩)
theorem c_X4_cell_022 {x0 x1 x2 x3 x4 x5 x6 x7 x8 x9 x10 x11 x12 x13 x14 x15 x16 x17 x23 x24 x25 x26 x27 x28 x29 x30 x31 x32 : ax_E} {f18_6 f18_7 f18_8 f18_9 f18_10 : Int32} {f18_11 f18_12 : Int64} {r19 r20 r21 r22 : Nat → Int64} {wm : List ax_E}  : Ct M_X4_cell [.ref 18, .int 0, .int 2, .int 2] ([x0, x1, x2, x3, x4, x5, x6, x7, x8, x9, x10, x11, x12, x13, x14, x15, x16, x17, ob 4 [.ref 19, .ref 20, .ref 21, .ref 22, .ref 23, .ref 24, .int f18_6, .int f18_7, .int f18_8, .int f18_9, .int f18_10, .long f18_11, .long f18_12], ja 4 r19, ja 4 r20, ja 4 r21, ja 4 r22, x23, x24, x25, x26, x27, x28, x29, x30, x31, x32], wm) (fun r w' => r = some (.long (r21 0)) ∧ w' = ([x0, x1, x2, x3, x4, x5, x6, x7, x8, x9, x10, x11, x12, x13, x14, x15, x16, x17, ob 4 [.ref 19, .ref 20, .ref 21, .ref 22, .ref 23, .ref 24, .int f18_6, .int f18_7, .int f18_8, .int f18_9, .int f18_10, .long f18_11, .long f18_12], ja 4 r19, ja 4 r20, ja 4 r21, ja 4 r22, x23, x24, x25, x26, x27, x28, x29, x30, x31, x32], wm)) := by
  refine ct_of ⟨by decide, rfl⟩ (Nat.le_of_ble_eq_true rfl) ?_
  refine ab_iload_n dX4_cell_0 rfl ?_
  refine ab_iload_n dX4_cell_1 rfl ?_
  refine ab_icmpne 12 dX4_cell_2 (by decide) (fun h_1 => absurd (by decide) h_1) (fun h_1 => ?_)
  refine ab_aload_n dX4_cell_5 rfl ?_
  refine ab_getf dX4_cell_6 fl_X4_18 rfl rfl ?_
  refine ab_iload_n dX4_cell_9 rfl ?_
  refine ab_lald (j := 0) dX4_cell_10 rfl (ix_c (by decide)) ?_
  exact ab_lret dX4_cell_11 rfl (by decide) (⟨rfl, rfl⟩)
theorem c_X4_cell_102 {x0 x1 x2 x3 x4 x5 x6 x7 x8 x9 x10 x11 x12 x13 x14 x15 x16 x17 x23 x24 x25 x26 x27 x28 x29 x30 x31 x32 : ax_E} {f18_6 f18_7 f18_8 f18_9 f18_10 : Int32} {f18_11 f18_12 : Int64} {r19 r20 r21 r22 : Nat → Int64} {wm : List ax_E}  : Ct M_X4_cell [.ref 18, .int 1, .int 0, .int 2] ([x0, x1, x2, x3, x4, x5, x6, x7, x8, x9, x10, x11, x12, x13, x14, x15, x16, x17, ob 4 [.ref 19, .ref 20, .ref 21, .ref 22, .ref 23, .ref 24, .int f18_6, .int f18_7, .int f18_8, .int f18_9, .int f18_10, .long f18_11, .long f18_12], ja 4 r19, ja 4 r20, ja 4 r21, ja 4 r22, x23, x24, x25, x26, x27, x28, x29, x30, x31, x32], wm) (fun r w' => r = some (.long (r20 1)) ∧ w' = ([x0, x1, x2, x3, x4, x5, x6, x7, x8, x9, x10, x11, x12, x13, x14, x15, x16, x17, ob 4 [.ref 19, .ref 20, .ref 21, .ref 22, .ref 23, .ref 24, .int f18_6, .int f18_7, .int f18_8, .int f18_9, .int f18_10, .long f18_11, .long f18_12], ja 4 r19, ja 4 r20, ja 4 r21, ja 4 r22, x23, x24, x25, x26, x27, x28, x29, x30, x31, x32], wm)) := by
  refine ct_of ⟨by decide, rfl⟩ (Nat.le_of_ble_eq_true rfl) ?_
  refine ab_iload_n dX4_cell_0 rfl ?_
  refine ab_iload_n dX4_cell_1 rfl ?_
  refine ab_icmpne 12 dX4_cell_2 (by decide) (fun h_1 => ?_) (fun h_1 => absurd h_1 (by decide))
  refine ab_iload_n dX4_cell_12 rfl ?_
  refine ab_ifne 23 dX4_cell_13 (by decide) (fun h_2 => absurd (by decide) h_2) (fun h_2 => ?_)
  refine ab_aload_n dX4_cell_16 rfl ?_
  refine ab_getf dX4_cell_17 fl_X4_15 rfl rfl ?_
  refine ab_iload_n dX4_cell_20 rfl ?_
  refine ab_lald (j := 1) dX4_cell_21 rfl (ix_c (by decide)) ?_
  exact ab_lret dX4_cell_22 rfl (by decide) (⟨rfl, rfl⟩)
theorem c_X4_cell_112 {x0 x1 x2 x3 x4 x5 x6 x7 x8 x9 x10 x11 x12 x13 x14 x15 x16 x17 x23 x24 x25 x26 x27 x28 x29 x30 x31 x32 : ax_E} {f18_6 f18_7 f18_8 f18_9 f18_10 : Int32} {f18_11 f18_12 : Int64} {r19 r20 r21 r22 : Nat → Int64} {wm : List ax_E}  : Ct M_X4_cell [.ref 18, .int 1, .int 1, .int 2] ([x0, x1, x2, x3, x4, x5, x6, x7, x8, x9, x10, x11, x12, x13, x14, x15, x16, x17, ob 4 [.ref 19, .ref 20, .ref 21, .ref 22, .ref 23, .ref 24, .int f18_6, .int f18_7, .int f18_8, .int f18_9, .int f18_10, .long f18_11, .long f18_12], ja 4 r19, ja 4 r20, ja 4 r21, ja 4 r22, x23, x24, x25, x26, x27, x28, x29, x30, x31, x32], wm) (fun r w' => r = some (.long (-(r19 1))) ∧ w' = ([x0, x1, x2, x3, x4, x5, x6, x7, x8, x9, x10, x11, x12, x13, x14, x15, x16, x17, ob 4 [.ref 19, .ref 20, .ref 21, .ref 22, .ref 23, .ref 24, .int f18_6, .int f18_7, .int f18_8, .int f18_9, .int f18_10, .long f18_11, .long f18_12], ja 4 r19, ja 4 r20, ja 4 r21, ja 4 r22, x23, x24, x25, x26, x27, x28, x29, x30, x31, x32], wm)) := by
  refine ct_of ⟨by decide, rfl⟩ (Nat.le_of_ble_eq_true rfl) ?_
  refine ab_iload_n dX4_cell_0 rfl ?_
  refine ab_iload_n dX4_cell_1 rfl ?_
  refine ab_icmpne 12 dX4_cell_2 (by decide) (fun h_1 => ?_) (fun h_1 => absurd h_1 (by decide))
  refine ab_iload_n dX4_cell_12 rfl ?_
  refine ab_ifne 23 dX4_cell_13 (by decide) (fun h_2 => ?_) (fun h_2 => absurd h_2 (by decide))
  refine ab_iload_n dX4_cell_23 rfl ?_
  refine ab_iconst (v := 1) dX4_cell_24 (by decide) ?_
  refine ab_icmpne 38 dX4_cell_25 (by decide) (fun h_3 => absurd (by decide) h_3) (fun h_3 => ?_)
  refine ab_aload_n dX4_cell_28 rfl ?_
  refine ab_getf dX4_cell_29 fl_X4_11 rfl rfl ?_
  refine ab_iload_n dX4_cell_32 rfl ?_
  refine ab_lald (j := 1) dX4_cell_33 rfl (ix_c (by decide)) ?_
  refine ab_lneg dX4_cell_34 ?_
  refine ab_goto 44 dX4_cell_35 (by decide) ?_
  exact ab_lret dX4_cell_44 rfl (by decide) (⟨rfl, rfl⟩)
theorem c_X4_cell_122 {x0 x1 x2 x3 x4 x5 x6 x7 x8 x9 x10 x11 x12 x13 x14 x15 x16 x17 x23 x24 x25 x26 x27 x28 x29 x30 x31 x32 : ax_E} {f18_6 f18_7 f18_8 f18_9 f18_10 : Int32} {f18_11 f18_12 : Int64} {r19 r20 r21 r22 : Nat → Int64} {wm : List ax_E}  : Ct M_X4_cell [.ref 18, .int 1, .int 2, .int 2] ([x0, x1, x2, x3, x4, x5, x6, x7, x8, x9, x10, x11, x12, x13, x14, x15, x16, x17, ob 4 [.ref 19, .ref 20, .ref 21, .ref 22, .ref 23, .ref 24, .int f18_6, .int f18_7, .int f18_8, .int f18_9, .int f18_10, .long f18_11, .long f18_12], ja 4 r19, ja 4 r20, ja 4 r21, ja 4 r22, x23, x24, x25, x26, x27, x28, x29, x30, x31, x32], wm) (fun r w' => r = some (.long (r21 1)) ∧ w' = ([x0, x1, x2, x3, x4, x5, x6, x7, x8, x9, x10, x11, x12, x13, x14, x15, x16, x17, ob 4 [.ref 19, .ref 20, .ref 21, .ref 22, .ref 23, .ref 24, .int f18_6, .int f18_7, .int f18_8, .int f18_9, .int f18_10, .long f18_11, .long f18_12], ja 4 r19, ja 4 r20, ja 4 r21, ja 4 r22, x23, x24, x25, x26, x27, x28, x29, x30, x31, x32], wm)) := by
  refine ct_of ⟨by decide, rfl⟩ (Nat.le_of_ble_eq_true rfl) ?_
  refine ab_iload_n dX4_cell_0 rfl ?_
  refine ab_iload_n dX4_cell_1 rfl ?_
  refine ab_icmpne 12 dX4_cell_2 (by decide) (fun h_1 => absurd (by decide) h_1) (fun h_1 => ?_)
  refine ab_aload_n dX4_cell_5 rfl ?_
  refine ab_getf dX4_cell_6 fl_X4_18 rfl rfl ?_
  refine ab_iload_n dX4_cell_9 rfl ?_
  refine ab_lald (j := 1) dX4_cell_10 rfl (ix_c (by decide)) ?_
  exact ab_lret dX4_cell_11 rfl (by decide) (⟨rfl, rfl⟩)
theorem c_X4_cell_202 {x0 x1 x2 x3 x4 x5 x6 x7 x8 x9 x10 x11 x12 x13 x14 x15 x16 x17 x23 x24 x25 x26 x27 x28 x29 x30 x31 x32 : ax_E} {f18_6 f18_7 f18_8 f18_9 f18_10 : Int32} {f18_11 f18_12 : Int64} {r19 r20 r21 r22 : Nat → Int64} {wm : List ax_E}  : Ct M_X4_cell [.ref 18, .int 2, .int 0, .int 2] ([x0, x1, x2, x3, x4, x5, x6, x7, x8, x9, x10, x11, x12, x13, x14, x15, x16, x17, ob 4 [.ref 19, .ref 20, .ref 21, .ref 22, .ref 23, .ref 24, .int f18_6, .int f18_7, .int f18_8, .int f18_9, .int f18_10, .long f18_11, .long f18_12], ja 4 r19, ja 4 r20, ja 4 r21, ja 4 r22, x23, x24, x25, x26, x27, x28, x29, x30, x31, x32], wm) (fun r w' => r = some (.long (r20 2)) ∧ w' = ([x0, x1, x2, x3, x4, x5, x6, x7, x8, x9, x10, x11, x12, x13, x14, x15, x16, x17, ob 4 [.ref 19, .ref 20, .ref 21, .ref 22, .ref 23, .ref 24, .int f18_6, .int f18_7, .int f18_8, .int f18_9, .int f18_10, .long f18_11, .long f18_12], ja 4 r19, ja 4 r20, ja 4 r21, ja 4 r22, x23, x24, x25, x26, x27, x28, x29, x30, x31, x32], wm)) := by
  refine ct_of ⟨by decide, rfl⟩ (Nat.le_of_ble_eq_true rfl) ?_
  refine ab_iload_n dX4_cell_0 rfl ?_
  refine ab_iload_n dX4_cell_1 rfl ?_
  refine ab_icmpne 12 dX4_cell_2 (by decide) (fun h_1 => ?_) (fun h_1 => absurd h_1 (by decide))
  refine ab_iload_n dX4_cell_12 rfl ?_
  refine ab_ifne 23 dX4_cell_13 (by decide) (fun h_2 => absurd (by decide) h_2) (fun h_2 => ?_)
  refine ab_aload_n dX4_cell_16 rfl ?_
  refine ab_getf dX4_cell_17 fl_X4_15 rfl rfl ?_
  refine ab_iload_n dX4_cell_20 rfl ?_
  refine ab_lald (j := 2) dX4_cell_21 rfl (ix_c (by decide)) ?_
  exact ab_lret dX4_cell_22 rfl (by decide) (⟨rfl, rfl⟩)
theorem c_X4_cell_212 {x0 x1 x2 x3 x4 x5 x6 x7 x8 x9 x10 x11 x12 x13 x14 x15 x16 x17 x23 x24 x25 x26 x27 x28 x29 x30 x31 x32 : ax_E} {f18_6 f18_7 f18_8 f18_9 f18_10 : Int32} {f18_11 f18_12 : Int64} {r19 r20 r21 r22 : Nat → Int64} {wm : List ax_E}  : Ct M_X4_cell [.ref 18, .int 2, .int 1, .int 2] ([x0, x1, x2, x3, x4, x5, x6, x7, x8, x9, x10, x11, x12, x13, x14, x15, x16, x17, ob 4 [.ref 19, .ref 20, .ref 21, .ref 22, .ref 23, .ref 24, .int f18_6, .int f18_7, .int f18_8, .int f18_9, .int f18_10, .long f18_11, .long f18_12], ja 4 r19, ja 4 r20, ja 4 r21, ja 4 r22, x23, x24, x25, x26, x27, x28, x29, x30, x31, x32], wm) (fun r w' => r = some (.long (-(r19 2))) ∧ w' = ([x0, x1, x2, x3, x4, x5, x6, x7, x8, x9, x10, x11, x12, x13, x14, x15, x16, x17, ob 4 [.ref 19, .ref 20, .ref 21, .ref 22, .ref 23, .ref 24, .int f18_6, .int f18_7, .int f18_8, .int f18_9, .int f18_10, .long f18_11, .long f18_12], ja 4 r19, ja 4 r20, ja 4 r21, ja 4 r22, x23, x24, x25, x26, x27, x28, x29, x30, x31, x32], wm)) := by
  refine ct_of ⟨by decide, rfl⟩ (Nat.le_of_ble_eq_true rfl) ?_
  refine ab_iload_n dX4_cell_0 rfl ?_
  refine ab_iload_n dX4_cell_1 rfl ?_
  refine ab_icmpne 12 dX4_cell_2 (by decide) (fun h_1 => ?_) (fun h_1 => absurd h_1 (by decide))
  refine ab_iload_n dX4_cell_12 rfl ?_
  refine ab_ifne 23 dX4_cell_13 (by decide) (fun h_2 => ?_) (fun h_2 => absurd h_2 (by decide))
  refine ab_iload_n dX4_cell_23 rfl ?_
  refine ab_iconst (v := 1) dX4_cell_24 (by decide) ?_
  refine ab_icmpne 38 dX4_cell_25 (by decide) (fun h_3 => absurd (by decide) h_3) (fun h_3 => ?_)
  refine ab_aload_n dX4_cell_28 rfl ?_
  refine ab_getf dX4_cell_29 fl_X4_11 rfl rfl ?_
  refine ab_iload_n dX4_cell_32 rfl ?_
  refine ab_lald (j := 2) dX4_cell_33 rfl (ix_c (by decide)) ?_
  refine ab_lneg dX4_cell_34 ?_
  refine ab_goto 44 dX4_cell_35 (by decide) ?_
  exact ab_lret dX4_cell_44 rfl (by decide) (⟨rfl, rfl⟩)
theorem c_X4_cell_222 {x0 x1 x2 x3 x4 x5 x6 x7 x8 x9 x10 x11 x12 x13 x14 x15 x16 x17 x23 x24 x25 x26 x27 x28 x29 x30 x31 x32 : ax_E} {f18_6 f18_7 f18_8 f18_9 f18_10 : Int32} {f18_11 f18_12 : Int64} {r19 r20 r21 r22 : Nat → Int64} {wm : List ax_E}  : Ct M_X4_cell [.ref 18, .int 2, .int 2, .int 2] ([x0, x1, x2, x3, x4, x5, x6, x7, x8, x9, x10, x11, x12, x13, x14, x15, x16, x17, ob 4 [.ref 19, .ref 20, .ref 21, .ref 22, .ref 23, .ref 24, .int f18_6, .int f18_7, .int f18_8, .int f18_9, .int f18_10, .long f18_11, .long f18_12], ja 4 r19, ja 4 r20, ja 4 r21, ja 4 r22, x23, x24, x25, x26, x27, x28, x29, x30, x31, x32], wm) (fun r w' => r = some (.long (r21 2)) ∧ w' = ([x0, x1, x2, x3, x4, x5, x6, x7, x8, x9, x10, x11, x12, x13, x14, x15, x16, x17, ob 4 [.ref 19, .ref 20, .ref 21, .ref 22, .ref 23, .ref 24, .int f18_6, .int f18_7, .int f18_8, .int f18_9, .int f18_10, .long f18_11, .long f18_12], ja 4 r19, ja 4 r20, ja 4 r21, ja 4 r22, x23, x24, x25, x26, x27, x28, x29, x30, x31, x32], wm)) := by
  refine ct_of ⟨by decide, rfl⟩ (Nat.le_of_ble_eq_true rfl) ?_
  refine ab_iload_n dX4_cell_0 rfl ?_
  refine ab_iload_n dX4_cell_1 rfl ?_
  refine ab_icmpne 12 dX4_cell_2 (by decide) (fun h_1 => absurd (by decide) h_1) (fun h_1 => ?_)
  refine ab_aload_n dX4_cell_5 rfl ?_
  refine ab_getf dX4_cell_6 fl_X4_18 rfl rfl ?_
  refine ab_iload_n dX4_cell_9 rfl ?_
  refine ab_lald (j := 2) dX4_cell_10 rfl (ix_c (by decide)) ?_
  exact ab_lret dX4_cell_11 rfl (by decide) (⟨rfl, rfl⟩)
def Dn_122 (r19 : Nat → Int64) (r21 : Nat → Int64) : Int64 := (((-(r19 1)) * (r21 2)) - ((r21 1) * (-(r19 2))))
theorem c_X4_minor_122 {x0 x1 x2 x3 x4 x5 x6 x7 x8 x9 x10 x11 x12 x13 x14 x15 x16 x17 x23 x24 x25 x26 x27 x28 x29 x30 x31 x32 : ax_E} {f18_6 f18_7 f18_8 f18_9 f18_10 : Int32} {f18_11 f18_12 : Int64} {r19 r20 r21 r22 : Nat → Int64} {wm : List ax_E}  : Ct M_X4_minor [.ref 18, .int 1, .int 2, .int 2] ([x0, x1, x2, x3, x4, x5, x6, x7, x8, x9, x10, x11, x12, x13, x14, x15, x16, x17, ob 4 [.ref 19, .ref 20, .ref 21, .ref 22, .ref 23, .ref 24, .int f18_6, .int f18_7, .int f18_8, .int f18_9, .int f18_10, .long f18_11, .long f18_12], ja 4 r19, ja 4 r20, ja 4 r21, ja 4 r22, x23, x24, x25, x26, x27, x28, x29, x30, x31, x32], wm) (fun r w' => r = some (.long (Dn_122 r19 r21)) ∧ w' = ([x0, x1, x2, x3, x4, x5, x6, x7, x8, x9, x10, x11, x12, x13, x14, x15, x16, x17, ob 4 [.ref 19, .ref 20, .ref 21, .ref 22, .ref 23, .ref 24, .int f18_6, .int f18_7, .int f18_8, .int f18_9, .int f18_10, .long f18_11, .long f18_12], ja 4 r19, ja 4 r20, ja 4 r21, ja 4 r22, x23, x24, x25, x26, x27, x28, x29, x30, x31, x32], wm)) := by
  refine ct_of ⟨by decide, rfl⟩ (Nat.le_of_ble_eq_true rfl) ?_
  refine ab_aload_n dX4_minor_0 rfl ?_
  refine ab_iconst (v := 1) dX4_minor_1 (by decide) ?_
  refine ab_iload_n dX4_minor_2 rfl ?_
  refine ab_iload_n dX4_minor_3 rfl ?_
  refine ab_callV (As := [.int 1, .int 1, .int 2]) (rest := []) dX4_minor_4 mv_X4_cell ml_X4_115 ⟨by decide, by decide, rfl, rfl, rfl⟩ (by decide) rfl rfl (Nat.le_of_ble_eq_true rfl) rfl c_X4_cell_112 ?_
  rintro r w' ⟨rfl, rfl⟩
  refine ab_aload_n dX4_minor_7 rfl ?_
  refine ab_iconst (v := 2) dX4_minor_8 (by decide) ?_
  refine ab_iload_n dX4_minor_9 rfl ?_
  refine ab_iload_n dX4_minor_10 rfl ?_
  refine ab_callV (As := [.int 2, .int 2, .int 2]) (rest := [.long (-(r19 1))]) dX4_minor_11 mv_X4_cell ml_X4_115 ⟨by decide, by decide, rfl, rfl, rfl⟩ (by decide) rfl rfl (Nat.le_of_ble_eq_true rfl) rfl c_X4_cell_222 ?_
  rintro r w' ⟨rfl, rfl⟩
  refine ab_lmul dX4_minor_14 ?_
  refine ab_aload_n dX4_minor_15 rfl ?_
  refine ab_iconst (v := 1) dX4_minor_16 (by decide) ?_
  refine ab_iload_n dX4_minor_17 rfl ?_
  refine ab_iload_n dX4_minor_18 rfl ?_
  refine ab_callV (As := [.int 1, .int 2, .int 2]) (rest := [.long ((-(r19 1)) * (r21 2))]) dX4_minor_19 mv_X4_cell ml_X4_115 ⟨by decide, by decide, rfl, rfl, rfl⟩ (by decide) rfl rfl (Nat.le_of_ble_eq_true rfl) rfl c_X4_cell_122 ?_
  rintro r w' ⟨rfl, rfl⟩
  refine ab_aload_n dX4_minor_22 rfl ?_
  refine ab_iconst (v := 2) dX4_minor_23 (by decide) ?_
  refine ab_iload_n dX4_minor_24 rfl ?_
  refine ab_iload_n dX4_minor_25 rfl ?_
  refine ab_callV (As := [.int 2, .int 1, .int 2]) (rest := [.long (r21 1), .long ((-(r19 1)) * (r21 2))]) dX4_minor_26 mv_X4_cell ml_X4_115 ⟨by decide, by decide, rfl, rfl, rfl⟩ (by decide) rfl rfl (Nat.le_of_ble_eq_true rfl) rfl c_X4_cell_212 ?_
  rintro r w' ⟨rfl, rfl⟩
  refine ab_lmul dX4_minor_29 ?_
  refine ab_lsub dX4_minor_30 ?_
  exact ab_lret dX4_minor_31 rfl (by decide) (⟨rfl, rfl⟩)
def Dn_022 (r20 : Nat → Int64) (r21 : Nat → Int64) : Int64 := (((r20 1) * (r21 2)) - ((r21 1) * (r20 2)))
theorem c_X4_minor_022 {x0 x1 x2 x3 x4 x5 x6 x7 x8 x9 x10 x11 x12 x13 x14 x15 x16 x17 x23 x24 x25 x26 x27 x28 x29 x30 x31 x32 : ax_E} {f18_6 f18_7 f18_8 f18_9 f18_10 : Int32} {f18_11 f18_12 : Int64} {r19 r20 r21 r22 : Nat → Int64} {wm : List ax_E}  : Ct M_X4_minor [.ref 18, .int 0, .int 2, .int 2] ([x0, x1, x2, x3, x4, x5, x6, x7, x8, x9, x10, x11, x12, x13, x14, x15, x16, x17, ob 4 [.ref 19, .ref 20, .ref 21, .ref 22, .ref 23, .ref 24, .int f18_6, .int f18_7, .int f18_8, .int f18_9, .int f18_10, .long f18_11, .long f18_12], ja 4 r19, ja 4 r20, ja 4 r21, ja 4 r22, x23, x24, x25, x26, x27, x28, x29, x30, x31, x32], wm) (fun r w' => r = some (.long (Dn_022 r20 r21)) ∧ w' = ([x0, x1, x2, x3, x4, x5, x6, x7, x8, x9, x10, x11, x12, x13, x14, x15, x16, x17, ob 4 [.ref 19, .ref 20, .ref 21, .ref 22, .ref 23, .ref 24, .int f18_6, .int f18_7, .int f18_8, .int f18_9, .int f18_10, .long f18_11, .long f18_12], ja 4 r19, ja 4 r20, ja 4 r21, ja 4 r22, x23, x24, x25, x26, x27, x28, x29, x30, x31, x32], wm)) := by
  refine ct_of ⟨by decide, rfl⟩ (Nat.le_of_ble_eq_true rfl) ?_
  refine ab_aload_n dX4_minor_0 rfl ?_
  refine ab_iconst (v := 1) dX4_minor_1 (by decide) ?_
  refine ab_iload_n dX4_minor_2 rfl ?_
  refine ab_iload_n dX4_minor_3 rfl ?_
  refine ab_callV (As := [.int 1, .int 0, .int 2]) (rest := []) dX4_minor_4 mv_X4_cell ml_X4_115 ⟨by decide, by decide, rfl, rfl, rfl⟩ (by decide) rfl rfl (Nat.le_of_ble_eq_true rfl) rfl c_X4_cell_102 ?_
  rintro r w' ⟨rfl, rfl⟩
  refine ab_aload_n dX4_minor_7 rfl ?_
  refine ab_iconst (v := 2) dX4_minor_8 (by decide) ?_
  refine ab_iload_n dX4_minor_9 rfl ?_
  refine ab_iload_n dX4_minor_10 rfl ?_
  refine ab_callV (As := [.int 2, .int 2, .int 2]) (rest := [.long (r20 1)]) dX4_minor_11 mv_X4_cell ml_X4_115 ⟨by decide, by decide, rfl, rfl, rfl⟩ (by decide) rfl rfl (Nat.le_of_ble_eq_true rfl) rfl c_X4_cell_222 ?_
  rintro r w' ⟨rfl, rfl⟩
  refine ab_lmul dX4_minor_14 ?_
  refine ab_aload_n dX4_minor_15 rfl ?_
  refine ab_iconst (v := 1) dX4_minor_16 (by decide) ?_
  refine ab_iload_n dX4_minor_17 rfl ?_
  refine ab_iload_n dX4_minor_18 rfl ?_
  refine ab_callV (As := [.int 1, .int 2, .int 2]) (rest := [.long ((r20 1) * (r21 2))]) dX4_minor_19 mv_X4_cell ml_X4_115 ⟨by decide, by decide, rfl, rfl, rfl⟩ (by decide) rfl rfl (Nat.le_of_ble_eq_true rfl) rfl c_X4_cell_122 ?_
  rintro r w' ⟨rfl, rfl⟩
  refine ab_aload_n dX4_minor_22 rfl ?_
  refine ab_iconst (v := 2) dX4_minor_23 (by decide) ?_
  refine ab_iload_n dX4_minor_24 rfl ?_
  refine ab_iload_n dX4_minor_25 rfl ?_
  refine ab_callV (As := [.int 2, .int 0, .int 2]) (rest := [.long (r21 1), .long ((r20 1) * (r21 2))]) dX4_minor_26 mv_X4_cell ml_X4_115 ⟨by decide, by decide, rfl, rfl, rfl⟩ (by decide) rfl rfl (Nat.le_of_ble_eq_true rfl) rfl c_X4_cell_202 ?_
  rintro r w' ⟨rfl, rfl⟩
  refine ab_lmul dX4_minor_29 ?_
  refine ab_lsub dX4_minor_30 ?_
  exact ab_lret dX4_minor_31 rfl (by decide) (⟨rfl, rfl⟩)
def Dn_012 (r19 : Nat → Int64) (r20 : Nat → Int64) : Int64 := (((r20 1) * (-(r19 2))) - ((-(r19 1)) * (r20 2)))
theorem c_X4_minor_012 {x0 x1 x2 x3 x4 x5 x6 x7 x8 x9 x10 x11 x12 x13 x14 x15 x16 x17 x23 x24 x25 x26 x27 x28 x29 x30 x31 x32 : ax_E} {f18_6 f18_7 f18_8 f18_9 f18_10 : Int32} {f18_11 f18_12 : Int64} {r19 r20 r21 r22 : Nat → Int64} {wm : List ax_E}  : Ct M_X4_minor [.ref 18, .int 0, .int 1, .int 2] ([x0, x1, x2, x3, x4, x5, x6, x7, x8, x9, x10, x11, x12, x13, x14, x15, x16, x17, ob 4 [.ref 19, .ref 20, .ref 21, .ref 22, .ref 23, .ref 24, .int f18_6, .int f18_7, .int f18_8, .int f18_9, .int f18_10, .long f18_11, .long f18_12], ja 4 r19, ja 4 r20, ja 4 r21, ja 4 r22, x23, x24, x25, x26, x27, x28, x29, x30, x31, x32], wm) (fun r w' => r = some (.long (Dn_012 r19 r20)) ∧ w' = ([x0, x1, x2, x3, x4, x5, x6, x7, x8, x9, x10, x11, x12, x13, x14, x15, x16, x17, ob 4 [.ref 19, .ref 20, .ref 21, .ref 22, .ref 23, .ref 24, .int f18_6, .int f18_7, .int f18_8, .int f18_9, .int f18_10, .long f18_11, .long f18_12], ja 4 r19, ja 4 r20, ja 4 r21, ja 4 r22, x23, x24, x25, x26, x27, x28, x29, x30, x31, x32], wm)) := by
  refine ct_of ⟨by decide, rfl⟩ (Nat.le_of_ble_eq_true rfl) ?_
  refine ab_aload_n dX4_minor_0 rfl ?_
  refine ab_iconst (v := 1) dX4_minor_1 (by decide) ?_
  refine ab_iload_n dX4_minor_2 rfl ?_
  refine ab_iload_n dX4_minor_3 rfl ?_
  refine ab_callV (As := [.int 1, .int 0, .int 2]) (rest := []) dX4_minor_4 mv_X4_cell ml_X4_115 ⟨by decide, by decide, rfl, rfl, rfl⟩ (by decide) rfl rfl (Nat.le_of_ble_eq_true rfl) rfl c_X4_cell_102 ?_
  rintro r w' ⟨rfl, rfl⟩
  refine ab_aload_n dX4_minor_7 rfl ?_
  refine ab_iconst (v := 2) dX4_minor_8 (by decide) ?_
  refine ab_iload_n dX4_minor_9 rfl ?_
  refine ab_iload_n dX4_minor_10 rfl ?_
  refine ab_callV (As := [.int 2, .int 1, .int 2]) (rest := [.long (r20 1)]) dX4_minor_11 mv_X4_cell ml_X4_115 ⟨by decide, by decide, rfl, rfl, rfl⟩ (by decide) rfl rfl (Nat.le_of_ble_eq_true rfl) rfl c_X4_cell_212 ?_
  rintro r w' ⟨rfl, rfl⟩
  refine ab_lmul dX4_minor_14 ?_
  refine ab_aload_n dX4_minor_15 rfl ?_
  refine ab_iconst (v := 1) dX4_minor_16 (by decide) ?_
  refine ab_iload_n dX4_minor_17 rfl ?_
  refine ab_iload_n dX4_minor_18 rfl ?_
  refine ab_callV (As := [.int 1, .int 1, .int 2]) (rest := [.long ((r20 1) * (-(r19 2)))]) dX4_minor_19 mv_X4_cell ml_X4_115 ⟨by decide, by decide, rfl, rfl, rfl⟩ (by decide) rfl rfl (Nat.le_of_ble_eq_true rfl) rfl c_X4_cell_112 ?_
  rintro r w' ⟨rfl, rfl⟩
  refine ab_aload_n dX4_minor_22 rfl ?_
  refine ab_iconst (v := 2) dX4_minor_23 (by decide) ?_
  refine ab_iload_n dX4_minor_24 rfl ?_
  refine ab_iload_n dX4_minor_25 rfl ?_
  refine ab_callV (As := [.int 2, .int 0, .int 2]) (rest := [.long (-(r19 1)), .long ((r20 1) * (-(r19 2)))]) dX4_minor_26 mv_X4_cell ml_X4_115 ⟨by decide, by decide, rfl, rfl, rfl⟩ (by decide) rfl rfl (Nat.le_of_ble_eq_true rfl) rfl c_X4_cell_202 ?_
  rintro r w' ⟨rfl, rfl⟩
  refine ab_lmul dX4_minor_29 ?_
  refine ab_lsub dX4_minor_30 ?_
  exact ab_lret dX4_minor_31 rfl (by decide) (⟨rfl, rfl⟩)
def Dt_2 (r19 : Nat → Int64) (r20 : Nat → Int64) (r21 : Nat → Int64) : Int64 := ((((r20 0) * (Dn_122 r19 r21)) - ((-(r19 0)) * (Dn_022 r20 r21))) + ((r21 0) * (Dn_012 r19 r20)))
theorem c_X4_determinant_2 {x0 x1 x2 x3 x4 x5 x6 x7 x8 x9 x10 x11 x12 x13 x14 x15 x16 x17 x23 x24 x25 x26 x27 x28 x29 x30 x31 x32 : ax_E} {f18_6 f18_7 f18_8 f18_9 f18_10 : Int32} {f18_11 f18_12 : Int64} {r19 r20 r21 r22 : Nat → Int64} {wm : List ax_E}  : Ct M_X4_determinant [.ref 18, .int 2] ([x0, x1, x2, x3, x4, x5, x6, x7, x8, x9, x10, x11, x12, x13, x14, x15, x16, x17, ob 4 [.ref 19, .ref 20, .ref 21, .ref 22, .ref 23, .ref 24, .int f18_6, .int f18_7, .int f18_8, .int f18_9, .int f18_10, .long f18_11, .long f18_12], ja 4 r19, ja 4 r20, ja 4 r21, ja 4 r22, x23, x24, x25, x26, x27, x28, x29, x30, x31, x32], wm) (fun r w' => r = some (.long (Dt_2 r19 r20 r21)) ∧ w' = ([x0, x1, x2, x3, x4, x5, x6, x7, x8, x9, x10, x11, x12, x13, x14, x15, x16, x17, ob 4 [.ref 19, .ref 20, .ref 21, .ref 22, .ref 23, .ref 24, .int f18_6, .int f18_7, .int f18_8, .int f18_9, .int f18_10, .long f18_11, .long f18_12], ja 4 r19, ja 4 r20, ja 4 r21, ja 4 r22, x23, x24, x25, x26, x27, x28, x29, x30, x31, x32], wm)) := by
  refine ct_of ⟨by decide, rfl⟩ (Nat.le_of_ble_eq_true rfl) ?_
  refine ab_aload_n dX4_determinant_0 rfl ?_
  refine ab_iconst (v := 0) dX4_determinant_1 (by decide) ?_
  refine ab_iconst (v := 0) dX4_determinant_2 (by decide) ?_
  refine ab_iload_n dX4_determinant_3 rfl ?_
  refine ab_callV (As := [.int 0, .int 0, .int 2]) (rest := []) dX4_determinant_4 mv_X4_cell ml_X4_115 ⟨by decide, by decide, rfl, rfl, rfl⟩ (by decide) rfl rfl (Nat.le_of_ble_eq_true rfl) rfl c_X4_cell_002 ?_
  rintro r w' ⟨rfl, rfl⟩
  refine ab_aload_n dX4_determinant_7 rfl ?_
  refine ab_iconst (v := 1) dX4_determinant_8 (by decide) ?_
  refine ab_iconst (v := 2) dX4_determinant_9 (by decide) ?_
  refine ab_iload_n dX4_determinant_10 rfl ?_
  refine ab_callV (As := [.int 1, .int 2, .int 2]) (rest := [.long (r20 0)]) dX4_determinant_11 mv_X4_minor ml_X4_119 ⟨by decide, by decide, rfl, rfl, rfl⟩ (by decide) rfl rfl (Nat.le_of_ble_eq_true rfl) rfl c_X4_minor_122 ?_
  rintro r w' ⟨rfl, rfl⟩
  refine ab_lmul dX4_determinant_14 ?_
  refine ab_aload_n dX4_determinant_15 rfl ?_
  refine ab_iconst (v := 0) dX4_determinant_16 (by decide) ?_
  refine ab_iconst (v := 1) dX4_determinant_17 (by decide) ?_
  refine ab_iload_n dX4_determinant_18 rfl ?_
  refine ab_callV (As := [.int 0, .int 1, .int 2]) (rest := [.long ((r20 0) * (Dn_122 r19 r21))]) dX4_determinant_19 mv_X4_cell ml_X4_115 ⟨by decide, by decide, rfl, rfl, rfl⟩ (by decide) rfl rfl (Nat.le_of_ble_eq_true rfl) rfl c_X4_cell_012 ?_
  rintro r w' ⟨rfl, rfl⟩
  refine ab_aload_n dX4_determinant_22 rfl ?_
  refine ab_iconst (v := 0) dX4_determinant_23 (by decide) ?_
  refine ab_iconst (v := 2) dX4_determinant_24 (by decide) ?_
  refine ab_iload_n dX4_determinant_25 rfl ?_
  refine ab_callV (As := [.int 0, .int 2, .int 2]) (rest := [.long (-(r19 0)), .long ((r20 0) * (Dn_122 r19 r21))]) dX4_determinant_26 mv_X4_minor ml_X4_119 ⟨by decide, by decide, rfl, rfl, rfl⟩ (by decide) rfl rfl (Nat.le_of_ble_eq_true rfl) rfl c_X4_minor_022 ?_
  rintro r w' ⟨rfl, rfl⟩
  refine ab_lmul dX4_determinant_29 ?_
  refine ab_lsub dX4_determinant_30 ?_
  refine ab_aload_n dX4_determinant_31 rfl ?_
  refine ab_iconst (v := 0) dX4_determinant_32 (by decide) ?_
  refine ab_iconst (v := 2) dX4_determinant_33 (by decide) ?_
  refine ab_iload_n dX4_determinant_34 rfl ?_
  refine ab_callV (As := [.int 0, .int 2, .int 2]) (rest := [.long (((r20 0) * (Dn_122 r19 r21)) - ((-(r19 0)) * (Dn_022 r20 r21)))]) dX4_determinant_35 mv_X4_cell ml_X4_115 ⟨by decide, by decide, rfl, rfl, rfl⟩ (by decide) rfl rfl (Nat.le_of_ble_eq_true rfl) rfl c_X4_cell_022 ?_
  rintro r w' ⟨rfl, rfl⟩
  refine ab_aload_n dX4_determinant_38 rfl ?_
  refine ab_iconst (v := 0) dX4_determinant_39 (by decide) ?_
  refine ab_iconst (v := 1) dX4_determinant_40 (by decide) ?_
  refine ab_iload_n dX4_determinant_41 rfl ?_
  refine ab_callV (As := [.int 0, .int 1, .int 2]) (rest := [.long (r21 0), .long (((r20 0) * (Dn_122 r19 r21)) - ((-(r19 0)) * (Dn_022 r20 r21)))]) dX4_determinant_42 mv_X4_minor ml_X4_119 ⟨by decide, by decide, rfl, rfl, rfl⟩ (by decide) rfl rfl (Nat.le_of_ble_eq_true rfl) rfl c_X4_minor_012 ?_
  rintro r w' ⟨rfl, rfl⟩
  refine ab_lmul dX4_determinant_45 ?_
  refine ab_ladd dX4_determinant_46 ?_
  exact ab_lret dX4_determinant_47 rfl (by decide) (⟨rfl, rfl⟩)
theorem c_X10_three_0 {f0_0 f18_6 f18_7 f18_8 f18_9 f18_10 a2 : Int32} {x1 x2 x3 x5 x7 x8 x9 x10 x11 x12 x13 x14 x15 x16 x17 x23 x24 x25 x26 x27 x28 x29 x30 x31 x32 : ax_E} {r6 : Nat → Int32} {f18_11 f18_12 : Int64} {r19 r20 r21 r22 : Nat → Int64} {wm : List ax_E} (h_q0 : (0 < r6 0) → (¬ (r6 3) < 3) → (¬ (Dt_m r19 r20 r22) = 0) → (Dt_0 r19 r21 r22).toInt ≠ -2 ^ 63) (h_q1 : (0 < r6 0) → (¬ (r6 3) < 3) → (¬ (Dt_m r19 r20 r22) = 0) → (Dt_m r19 r20 r22).toInt ≠ -2 ^ 63) : Ct M_X10_three [.ref 0, .int 0, .int a2] ([ob 8 [.int f0_0, .ref 1, .ref 4, .ref 7, .ref 10, .ref 11, .ref 12, .ref 18, .ref 25, .ref 29], x1, x2, x3, ob 2 [.ref 5, .ref 6], x5, ia 4 r6, x7, x8, x9, x10, x11, x12, x13, x14, x15, x16, x17, ob 4 [.ref 19, .ref 20, .ref 21, .ref 22, .ref 23, .ref 24, .int f18_6, .int f18_7, .int f18_8, .int f18_9, .int f18_10, .long f18_11, .long f18_12], ja 4 r19, ja 4 r20, ja 4 r21, ja 4 r22, x23, x24, x25, x26, x27, x28, x29, x30, x31, x32], wm) (fun r w' => ((0 < r6 0) ∧ ((r6 3) < 3) ∧ r = some (.long (-9223372036854775808)) ∧ w' = ([ob 8 [.int 5, .ref 1, .ref 4, .ref 7, .ref 10, .ref 11, .ref 12, .ref 18, .ref 25, .ref 29], x1, x2, x3, ob 2 [.ref 5, .ref 6], x5, ia 4 r6, x7, x8, x9, x10, x11, x12, x13, x14, x15, x16, x17, ob 4 [.ref 19, .ref 20, .ref 21, .ref 22, .ref 23, .ref 24, .int f18_6, .int f18_7, .int f18_8, .int f18_9, .int f18_10, .long f18_11, .long f18_12], ja 4 r19, ja 4 r20, ja 4 r21, ja 4 r22, x23, x24, x25, x26, x27, x28, x29, x30, x31, x32], wm)) ∨ ((0 < r6 0) ∧ (¬ (r6 3) < 3) ∧ ((Dt_m r19 r20 r22) = 0) ∧ r = some (.long (-9223372036854775808)) ∧ w' = ([ob 8 [.int 5, .ref 1, .ref 4, .ref 7, .ref 10, .ref 11, .ref 12, .ref 18, .ref 25, .ref 29], x1, x2, x3, ob 2 [.ref 5, .ref 6], x5, ia 4 r6, x7, x8, x9, x10, x11, x12, x13, x14, x15, x16, x17, ob 4 [.ref 19, .ref 20, .ref 21, .ref 22, .ref 23, .ref 24, .int f18_6, .int f18_7, .int f18_8, .int f18_9, .int f18_10, .long f18_11, .long f18_12], ja 4 r19, ja 4 r20, ja 4 r21, ja 4 r22, x23, x24, x25, x26, x27, x28, x29, x30, x31, x32], wm)) ∨ ((0 < r6 0) ∧ (¬ (r6 3) < 3) ∧ (¬ (Dt_m r19 r20 r22) = 0) ∧ r = some (.long (Rd (Dt_0 r19 r21 r22) (Dt_m r19 r20 r22) a2)) ∧ w' = ([ob 8 [.int 0, .ref 1, .ref 4, .ref 7, .ref 10, .ref 11, .ref 12, .ref 18, .ref 25, .ref 29], x1, x2, x3, ob 2 [.ref 5, .ref 6], x5, ia 4 r6, x7, x8, x9, x10, x11, x12, x13, x14, x15, x16, x17, ob 4 [.ref 19, .ref 20, .ref 21, .ref 22, .ref 23, .ref 24, .int f18_6, .int f18_7, .int f18_8, .int f18_9, .int f18_10, .long f18_11, .long f18_12], ja 4 r19, ja 4 r20, ja 4 r21, ja 4 r22, x23, x24, x25, x26, x27, x28, x29, x30, x31, x32], wm)) ∨ ((¬ (0 < r6 0)) ∧ r = some (.long (-9223372036854775808)) ∧ w' = ([ob 8 [.int 1, .ref 1, .ref 4, .ref 7, .ref 10, .ref 11, .ref 12, .ref 18, .ref 25, .ref 29], x1, x2, x3, ob 2 [.ref 5, .ref 6], x5, ia 4 r6, x7, x8, x9, x10, x11, x12, x13, x14, x15, x16, x17, ob 4 [.ref 19, .ref 20, .ref 21, .ref 22, .ref 23, .ref 24, .int f18_6, .int f18_7, .int f18_8, .int f18_9, .int f18_10, .long f18_11, .long f18_12], ja 4 r19, ja 4 r20, ja 4 r21, ja 4 r22, x23, x24, x25, x26, x27, x28, x29, x30, x31, x32], wm))) := by
  refine ct_of ⟨by decide, rfl⟩ (Nat.le_of_ble_eq_true rfl) ?_
  refine ab_aload_n dX10_three_0 rfl ?_
  refine ab_aload_n dX10_three_1 rfl ?_
  refine ab_iconst (v := 0) dX10_three_2 (by decide) ?_
  refine ab_callV (As := [.int 0]) (rest := [.ref 0]) dX10_three_3 mv_X10_hasLinkage ml_X10_133 ⟨by decide, by decide, rfl, rfl, rfl⟩ (by decide) rfl rfl (Nat.le_of_ble_eq_true rfl) rfl c_X10_hasLinkage_0 ?_
  rintro r w' (⟨c_1, rfl, rfl⟩ | ⟨c_2, rfl, rfl⟩)
  · refine ab_ifeq 21 dX10_three_6 (by decide) (fun h_3 => absurd h_3 (by decide)) (fun h_3 => ?_)
    refine ab_iload_n dX10_three_9 rfl ?_
    refine ab_iconst (v := 3) dX10_three_10 (by decide) ?_
    refine ab_callS (As := [.int 0, .int 3]) (rest := [.ref 0]) dX10_three_11 ms_X10_isOf ml_X10_118 ⟨by decide, by decide, rfl, rfl, rfl⟩ (by decide) rfl rfl (Nat.le_of_ble_eq_true rfl) c_X10_isOf ?_
    rintro r w' (⟨c_4, rfl, rfl⟩ | ⟨c_5, rfl, rfl⟩)
    · refine ab_ifeq 21 dX10_three_14 (by decide) (fun h_6 => absurd h_6 (by decide)) (fun h_6 => ?_)
      refine ab_iconst (v := 1) dX10_three_17 (by decide) ?_
      refine ab_goto 22 dX10_three_18 (by decide) ?_
      refine ab_iconst (v := 1) dX10_three_22 (by decide) ?_
      refine ab_callV (As := [.int 1, .int 1]) (rest := []) dX10_three_23 mv_X10_refused ml_X10_84 ⟨by decide, by decide, rfl, rfl, rfl⟩ (by decide) rfl rfl (Nat.le_of_ble_eq_true rfl) rfl c_X10_refused_1 ?_
      rintro r w' ⟨rfl, rfl⟩
      refine ab_ifeq 33 dX10_three_26 (by decide) (fun h_7 => ?_) (fun h_7 => absurd (by decide) h_7)
      refine ab_aload_n dX10_three_33 rfl ?_
      refine ab_aload_n dX10_three_34 rfl ?_
      refine ab_getf dX10_three_35 fl_X10_23 rfl rfl ?_
      refine ab_iconst (v := 3) dX10_three_38 (by decide) ?_
      refine ab_callV (As := [.int 3]) (rest := [.ref 0]) dX10_three_39 mv_X2_count ml_X10_102 ⟨by decide, by decide, rfl, rfl, rfl⟩ (by decide) rfl rfl (Nat.le_of_ble_eq_true rfl) rfl c_X2_count_4_3 ?_
      rintro r w' ⟨rfl, rfl⟩
      refine ab_iconst (v := 3) dX10_three_42 (by decide) ?_
      refine ab_icmplt 63 dX10_three_43 (by decide) (fun h_8 => ?_) (fun h_8 => ?_)
      · refine ab_iconst (v := 0) dX10_three_63 (by decide) ?_
        refine ab_iconst (v := 5) dX10_three_64 (by decide) ?_
        refine ab_callV (As := [.int 0, .int 5]) (rest := []) dX10_three_65 mv_X10_refused ml_X10_84 ⟨by decide, by decide, rfl, rfl, rfl⟩ (by decide) rfl rfl (Nat.le_of_ble_eq_true rfl) rfl c_X10_refused_0 ?_
        rintro r w' ⟨rfl, rfl⟩
        refine ab_ifeq 75 dX10_three_68 (by decide) (fun h_9 => absurd h_9 (by decide)) (fun h_9 => ?_)
        refine ab_ldc2 dX10_three_71 kl_X10_194 ?_
        exact ab_lret dX10_three_74 rfl (by decide) (Or.inl ⟨c_1, h_8, rfl, rfl⟩)
      · refine ab_aload_n dX10_three_46 rfl ?_
        refine ab_getf dX10_three_47 fl_X10_54 rfl rfl ?_
        refine ab_iconst (v := -1) dX10_three_50 (by decide) ?_
        refine ab_callV (As := [.int (-1)]) (rest := [.ref 0]) dX10_three_51 mv_X4_determinant ml_X10_338 ⟨by decide, by decide, rfl, rfl, rfl⟩ (by decide) rfl rfl (Nat.le_of_ble_eq_true rfl) rfl c_X4_determinant_m ?_
        rintro r w' ⟨rfl, rfl⟩
        refine ab_lconst (v := 0) dX10_three_54 (by decide) ?_
        refine ab_lcmpeq 63 dX10_three_55 dX10_three_56 (by decide) (fun h_10 => ?_) (fun h_10 => ?_)
        · refine ab_iconst (v := 0) dX10_three_63 (by decide) ?_
          refine ab_iconst (v := 5) dX10_three_64 (by decide) ?_
          refine ab_callV (As := [.int 0, .int 5]) (rest := []) dX10_three_65 mv_X10_refused ml_X10_84 ⟨by decide, by decide, rfl, rfl, rfl⟩ (by decide) rfl rfl (Nat.le_of_ble_eq_true rfl) rfl c_X10_refused_0 ?_
          rintro r w' ⟨rfl, rfl⟩
          refine ab_ifeq 75 dX10_three_68 (by decide) (fun h_11 => absurd h_11 (by decide)) (fun h_11 => ?_)
          refine ab_ldc2 dX10_three_71 kl_X10_194 ?_
          exact ab_lret dX10_three_74 rfl (by decide) (Or.inr (Or.inl ⟨c_1, h_8, h_10, rfl, rfl⟩))
        · refine ab_iconst (v := 1) dX10_three_59 (by decide) ?_
          refine ab_goto 64 dX10_three_60 (by decide) ?_
          refine ab_iconst (v := 5) dX10_three_64 (by decide) ?_
          refine ab_callV (As := [.int 1, .int 5]) (rest := []) dX10_three_65 mv_X10_refused ml_X10_84 ⟨by decide, by decide, rfl, rfl, rfl⟩ (by decide) rfl rfl (Nat.le_of_ble_eq_true rfl) rfl c_X10_refused_1 ?_
          rintro r w' ⟨rfl, rfl⟩
          refine ab_ifeq 75 dX10_three_68 (by decide) (fun h_12 => ?_) (fun h_12 => absurd (by decide) h_12)
          refine ab_aload_n dX10_three_75 rfl ?_
          refine ab_getf dX10_three_76 fl_X10_54 rfl rfl ?_
          refine ab_iload_n dX10_three_79 rfl ?_
          refine ab_callV (As := [.int 0]) (rest := []) dX10_three_80 mv_X4_determinant ml_X10_338 ⟨by decide, by decide, rfl, rfl, rfl⟩ (by decide) rfl rfl (Nat.le_of_ble_eq_true rfl) rfl c_X4_determinant_0 ?_
          rintro r w' ⟨rfl, rfl⟩
          refine ab_aload_n dX10_three_83 rfl ?_
          refine ab_getf dX10_three_84 fl_X10_54 rfl rfl ?_
          refine ab_iconst (v := -1) dX10_three_87 (by decide) ?_
          refine ab_callV (As := [.int (-1)]) (rest := [.long (Dt_0 r19 r21 r22)]) dX10_three_88 mv_X4_determinant ml_X10_338 ⟨by decide, by decide, rfl, rfl, rfl⟩ (by decide) rfl rfl (Nat.le_of_ble_eq_true rfl) rfl c_X4_determinant_m ?_
          rintro r w' ⟨rfl, rfl⟩
          refine ab_iload_n dX10_three_91 rfl ?_
          refine ab_callS (As := [.long (Dt_0 r19 r21 r22), .long (Dt_m r19 r20 r22), .int a2]) (rest := []) dX10_three_92 ms_X9_reduced ml_X10_188 ⟨by decide, by decide, rfl, rfl, rfl⟩ (by decide) rfl rfl (Nat.le_of_ble_eq_true rfl) (c_X9_reduced (h_q0 c_1 h_8 h_10) (h_q1 c_1 h_8 h_10)) ?_
          rintro r w' ⟨rfl, rfl⟩
          exact ab_lret dX10_three_95 rfl (by decide) (Or.inr (Or.inr (Or.inl ⟨c_1, h_8, h_10, rfl, rfl⟩)))
    · exact absurd (by decide) c_5
  · refine ab_ifeq 21 dX10_three_6 (by decide) (fun h_13 => ?_) (fun h_13 => absurd (by decide) h_13)
    refine ab_iconst (v := 0) dX10_three_21 (by decide) ?_
    refine ab_iconst (v := 1) dX10_three_22 (by decide) ?_
    refine ab_callV (As := [.int 0, .int 1]) (rest := []) dX10_three_23 mv_X10_refused ml_X10_84 ⟨by decide, by decide, rfl, rfl, rfl⟩ (by decide) rfl rfl (Nat.le_of_ble_eq_true rfl) rfl c_X10_refused_0 ?_
    rintro r w' ⟨rfl, rfl⟩
    refine ab_ifeq 33 dX10_three_26 (by decide) (fun h_14 => absurd h_14 (by decide)) (fun h_14 => ?_)
    refine ab_ldc2 dX10_three_29 kl_X10_194 ?_
    exact ab_lret dX10_three_32 rfl (by decide) (Or.inr (Or.inr (Or.inr (⟨c_2, rfl, rfl⟩))))
theorem c_X10_three_1 {f0_0 f18_6 f18_7 f18_8 f18_9 f18_10 a2 : Int32} {x1 x2 x3 x5 x7 x8 x9 x10 x11 x12 x13 x14 x15 x16 x17 x23 x24 x25 x26 x27 x28 x29 x30 x31 x32 : ax_E} {r6 : Nat → Int32} {f18_11 f18_12 : Int64} {r19 r20 r21 r22 : Nat → Int64} {wm : List ax_E} (h_q0 : (0 < r6 0) → (¬ (r6 3) < 3) → (¬ (Dt_m r19 r20 r22) = 0) → (Dt_1 r20 r21 r22).toInt ≠ -2 ^ 63) (h_q1 : (0 < r6 0) → (¬ (r6 3) < 3) → (¬ (Dt_m r19 r20 r22) = 0) → (Dt_m r19 r20 r22).toInt ≠ -2 ^ 63) : Ct M_X10_three [.ref 0, .int 1, .int a2] ([ob 8 [.int f0_0, .ref 1, .ref 4, .ref 7, .ref 10, .ref 11, .ref 12, .ref 18, .ref 25, .ref 29], x1, x2, x3, ob 2 [.ref 5, .ref 6], x5, ia 4 r6, x7, x8, x9, x10, x11, x12, x13, x14, x15, x16, x17, ob 4 [.ref 19, .ref 20, .ref 21, .ref 22, .ref 23, .ref 24, .int f18_6, .int f18_7, .int f18_8, .int f18_9, .int f18_10, .long f18_11, .long f18_12], ja 4 r19, ja 4 r20, ja 4 r21, ja 4 r22, x23, x24, x25, x26, x27, x28, x29, x30, x31, x32], wm) (fun r w' => ((0 < r6 0) ∧ ((r6 3) < 3) ∧ r = some (.long (-9223372036854775808)) ∧ w' = ([ob 8 [.int 5, .ref 1, .ref 4, .ref 7, .ref 10, .ref 11, .ref 12, .ref 18, .ref 25, .ref 29], x1, x2, x3, ob 2 [.ref 5, .ref 6], x5, ia 4 r6, x7, x8, x9, x10, x11, x12, x13, x14, x15, x16, x17, ob 4 [.ref 19, .ref 20, .ref 21, .ref 22, .ref 23, .ref 24, .int f18_6, .int f18_7, .int f18_8, .int f18_9, .int f18_10, .long f18_11, .long f18_12], ja 4 r19, ja 4 r20, ja 4 r21, ja 4 r22, x23, x24, x25, x26, x27, x28, x29, x30, x31, x32], wm)) ∨ ((0 < r6 0) ∧ (¬ (r6 3) < 3) ∧ ((Dt_m r19 r20 r22) = 0) ∧ r = some (.long (-9223372036854775808)) ∧ w' = ([ob 8 [.int 5, .ref 1, .ref 4, .ref 7, .ref 10, .ref 11, .ref 12, .ref 18, .ref 25, .ref 29], x1, x2, x3, ob 2 [.ref 5, .ref 6], x5, ia 4 r6, x7, x8, x9, x10, x11, x12, x13, x14, x15, x16, x17, ob 4 [.ref 19, .ref 20, .ref 21, .ref 22, .ref 23, .ref 24, .int f18_6, .int f18_7, .int f18_8, .int f18_9, .int f18_10, .long f18_11, .long f18_12], ja 4 r19, ja 4 r20, ja 4 r21, ja 4 r22, x23, x24, x25, x26, x27, x28, x29, x30, x31, x32], wm)) ∨ ((0 < r6 0) ∧ (¬ (r6 3) < 3) ∧ (¬ (Dt_m r19 r20 r22) = 0) ∧ r = some (.long (Rd (Dt_1 r20 r21 r22) (Dt_m r19 r20 r22) a2)) ∧ w' = ([ob 8 [.int 0, .ref 1, .ref 4, .ref 7, .ref 10, .ref 11, .ref 12, .ref 18, .ref 25, .ref 29], x1, x2, x3, ob 2 [.ref 5, .ref 6], x5, ia 4 r6, x7, x8, x9, x10, x11, x12, x13, x14, x15, x16, x17, ob 4 [.ref 19, .ref 20, .ref 21, .ref 22, .ref 23, .ref 24, .int f18_6, .int f18_7, .int f18_8, .int f18_9, .int f18_10, .long f18_11, .long f18_12], ja 4 r19, ja 4 r20, ja 4 r21, ja 4 r22, x23, x24, x25, x26, x27, x28, x29, x30, x31, x32], wm)) ∨ ((¬ (0 < r6 0)) ∧ r = some (.long (-9223372036854775808)) ∧ w' = ([ob 8 [.int 1, .ref 1, .ref 4, .ref 7, .ref 10, .ref 11, .ref 12, .ref 18, .ref 25, .ref 29], x1, x2, x3, ob 2 [.ref 5, .ref 6], x5, ia 4 r6, x7, x8, x9, x10, x11, x12, x13, x14, x15, x16, x17, ob 4 [.ref 19, .ref 20, .ref 21, .ref 22, .ref 23, .ref 24, .int f18_6, .int f18_7, .int f18_8, .int f18_9, .int f18_10, .long f18_11, .long f18_12], ja 4 r19, ja 4 r20, ja 4 r21, ja 4 r22, x23, x24, x25, x26, x27, x28, x29, x30, x31, x32], wm))) := by
  refine ct_of ⟨by decide, rfl⟩ (Nat.le_of_ble_eq_true rfl) ?_
  refine ab_aload_n dX10_three_0 rfl ?_
  refine ab_aload_n dX10_three_1 rfl ?_
  refine ab_iconst (v := 0) dX10_three_2 (by decide) ?_
  refine ab_callV (As := [.int 0]) (rest := [.ref 0]) dX10_three_3 mv_X10_hasLinkage ml_X10_133 ⟨by decide, by decide, rfl, rfl, rfl⟩ (by decide) rfl rfl (Nat.le_of_ble_eq_true rfl) rfl c_X10_hasLinkage_0 ?_
  rintro r w' (⟨c_1, rfl, rfl⟩ | ⟨c_2, rfl, rfl⟩)
  · refine ab_ifeq 21 dX10_three_6 (by decide) (fun h_3 => absurd h_3 (by decide)) (fun h_3 => ?_)
    refine ab_iload_n dX10_three_9 rfl ?_
    refine ab_iconst (v := 3) dX10_three_10 (by decide) ?_
    refine ab_callS (As := [.int 1, .int 3]) (rest := [.ref 0]) dX10_three_11 ms_X10_isOf ml_X10_118 ⟨by decide, by decide, rfl, rfl, rfl⟩ (by decide) rfl rfl (Nat.le_of_ble_eq_true rfl) c_X10_isOf ?_
    rintro r w' (⟨c_4, rfl, rfl⟩ | ⟨c_5, rfl, rfl⟩)
    · refine ab_ifeq 21 dX10_three_14 (by decide) (fun h_6 => absurd h_6 (by decide)) (fun h_6 => ?_)
      refine ab_iconst (v := 1) dX10_three_17 (by decide) ?_
      refine ab_goto 22 dX10_three_18 (by decide) ?_
      refine ab_iconst (v := 1) dX10_three_22 (by decide) ?_
      refine ab_callV (As := [.int 1, .int 1]) (rest := []) dX10_three_23 mv_X10_refused ml_X10_84 ⟨by decide, by decide, rfl, rfl, rfl⟩ (by decide) rfl rfl (Nat.le_of_ble_eq_true rfl) rfl c_X10_refused_1 ?_
      rintro r w' ⟨rfl, rfl⟩
      refine ab_ifeq 33 dX10_three_26 (by decide) (fun h_7 => ?_) (fun h_7 => absurd (by decide) h_7)
      refine ab_aload_n dX10_three_33 rfl ?_
      refine ab_aload_n dX10_three_34 rfl ?_
      refine ab_getf dX10_three_35 fl_X10_23 rfl rfl ?_
      refine ab_iconst (v := 3) dX10_three_38 (by decide) ?_
      refine ab_callV (As := [.int 3]) (rest := [.ref 0]) dX10_three_39 mv_X2_count ml_X10_102 ⟨by decide, by decide, rfl, rfl, rfl⟩ (by decide) rfl rfl (Nat.le_of_ble_eq_true rfl) rfl c_X2_count_4_3 ?_
      rintro r w' ⟨rfl, rfl⟩
      refine ab_iconst (v := 3) dX10_three_42 (by decide) ?_
      refine ab_icmplt 63 dX10_three_43 (by decide) (fun h_8 => ?_) (fun h_8 => ?_)
      · refine ab_iconst (v := 0) dX10_three_63 (by decide) ?_
        refine ab_iconst (v := 5) dX10_three_64 (by decide) ?_
        refine ab_callV (As := [.int 0, .int 5]) (rest := []) dX10_three_65 mv_X10_refused ml_X10_84 ⟨by decide, by decide, rfl, rfl, rfl⟩ (by decide) rfl rfl (Nat.le_of_ble_eq_true rfl) rfl c_X10_refused_0 ?_
        rintro r w' ⟨rfl, rfl⟩
        refine ab_ifeq 75 dX10_three_68 (by decide) (fun h_9 => absurd h_9 (by decide)) (fun h_9 => ?_)
        refine ab_ldc2 dX10_three_71 kl_X10_194 ?_
        exact ab_lret dX10_three_74 rfl (by decide) (Or.inl ⟨c_1, h_8, rfl, rfl⟩)
      · refine ab_aload_n dX10_three_46 rfl ?_
        refine ab_getf dX10_three_47 fl_X10_54 rfl rfl ?_
        refine ab_iconst (v := -1) dX10_three_50 (by decide) ?_
        refine ab_callV (As := [.int (-1)]) (rest := [.ref 0]) dX10_three_51 mv_X4_determinant ml_X10_338 ⟨by decide, by decide, rfl, rfl, rfl⟩ (by decide) rfl rfl (Nat.le_of_ble_eq_true rfl) rfl c_X4_determinant_m ?_
        rintro r w' ⟨rfl, rfl⟩
        refine ab_lconst (v := 0) dX10_three_54 (by decide) ?_
        refine ab_lcmpeq 63 dX10_three_55 dX10_three_56 (by decide) (fun h_10 => ?_) (fun h_10 => ?_)
        · refine ab_iconst (v := 0) dX10_three_63 (by decide) ?_
          refine ab_iconst (v := 5) dX10_three_64 (by decide) ?_
          refine ab_callV (As := [.int 0, .int 5]) (rest := []) dX10_three_65 mv_X10_refused ml_X10_84 ⟨by decide, by decide, rfl, rfl, rfl⟩ (by decide) rfl rfl (Nat.le_of_ble_eq_true rfl) rfl c_X10_refused_0 ?_
          rintro r w' ⟨rfl, rfl⟩
          refine ab_ifeq 75 dX10_three_68 (by decide) (fun h_11 => absurd h_11 (by decide)) (fun h_11 => ?_)
          refine ab_ldc2 dX10_three_71 kl_X10_194 ?_
          exact ab_lret dX10_three_74 rfl (by decide) (Or.inr (Or.inl ⟨c_1, h_8, h_10, rfl, rfl⟩))
        · refine ab_iconst (v := 1) dX10_three_59 (by decide) ?_
          refine ab_goto 64 dX10_three_60 (by decide) ?_
          refine ab_iconst (v := 5) dX10_three_64 (by decide) ?_
          refine ab_callV (As := [.int 1, .int 5]) (rest := []) dX10_three_65 mv_X10_refused ml_X10_84 ⟨by decide, by decide, rfl, rfl, rfl⟩ (by decide) rfl rfl (Nat.le_of_ble_eq_true rfl) rfl c_X10_refused_1 ?_
          rintro r w' ⟨rfl, rfl⟩
          refine ab_ifeq 75 dX10_three_68 (by decide) (fun h_12 => ?_) (fun h_12 => absurd (by decide) h_12)
          refine ab_aload_n dX10_three_75 rfl ?_
          refine ab_getf dX10_three_76 fl_X10_54 rfl rfl ?_
          refine ab_iload_n dX10_three_79 rfl ?_
          refine ab_callV (As := [.int 1]) (rest := []) dX10_three_80 mv_X4_determinant ml_X10_338 ⟨by decide, by decide, rfl, rfl, rfl⟩ (by decide) rfl rfl (Nat.le_of_ble_eq_true rfl) rfl c_X4_determinant_1 ?_
          rintro r w' ⟨rfl, rfl⟩
          refine ab_aload_n dX10_three_83 rfl ?_
          refine ab_getf dX10_three_84 fl_X10_54 rfl rfl ?_
          refine ab_iconst (v := -1) dX10_three_87 (by decide) ?_
          refine ab_callV (As := [.int (-1)]) (rest := [.long (Dt_1 r20 r21 r22)]) dX10_three_88 mv_X4_determinant ml_X10_338 ⟨by decide, by decide, rfl, rfl, rfl⟩ (by decide) rfl rfl (Nat.le_of_ble_eq_true rfl) rfl c_X4_determinant_m ?_
          rintro r w' ⟨rfl, rfl⟩
          refine ab_iload_n dX10_three_91 rfl ?_
          refine ab_callS (As := [.long (Dt_1 r20 r21 r22), .long (Dt_m r19 r20 r22), .int a2]) (rest := []) dX10_three_92 ms_X9_reduced ml_X10_188 ⟨by decide, by decide, rfl, rfl, rfl⟩ (by decide) rfl rfl (Nat.le_of_ble_eq_true rfl) (c_X9_reduced (h_q0 c_1 h_8 h_10) (h_q1 c_1 h_8 h_10)) ?_
          rintro r w' ⟨rfl, rfl⟩
          exact ab_lret dX10_three_95 rfl (by decide) (Or.inr (Or.inr (Or.inl ⟨c_1, h_8, h_10, rfl, rfl⟩)))
    · exact absurd (by decide) c_5
  · refine ab_ifeq 21 dX10_three_6 (by decide) (fun h_13 => ?_) (fun h_13 => absurd (by decide) h_13)
    refine ab_iconst (v := 0) dX10_three_21 (by decide) ?_
    refine ab_iconst (v := 1) dX10_three_22 (by decide) ?_
    refine ab_callV (As := [.int 0, .int 1]) (rest := []) dX10_three_23 mv_X10_refused ml_X10_84 ⟨by decide, by decide, rfl, rfl, rfl⟩ (by decide) rfl rfl (Nat.le_of_ble_eq_true rfl) rfl c_X10_refused_0 ?_
    rintro r w' ⟨rfl, rfl⟩
    refine ab_ifeq 33 dX10_three_26 (by decide) (fun h_14 => absurd h_14 (by decide)) (fun h_14 => ?_)
    refine ab_ldc2 dX10_three_29 kl_X10_194 ?_
    exact ab_lret dX10_three_32 rfl (by decide) (Or.inr (Or.inr (Or.inr (⟨c_2, rfl, rfl⟩))))
theorem c_X10_three_2 {f0_0 f18_6 f18_7 f18_8 f18_9 f18_10 a2 : Int32} {x1 x2 x3 x5 x7 x8 x9 x10 x11 x12 x13 x14 x15 x16 x17 x23 x24 x25 x26 x27 x28 x29 x30 x31 x32 : ax_E} {r6 : Nat → Int32} {f18_11 f18_12 : Int64} {r19 r20 r21 r22 : Nat → Int64} {wm : List ax_E} (h_q0 : (0 < r6 0) → (¬ (r6 3) < 3) → (¬ (Dt_m r19 r20 r22) = 0) → (Dt_2 r19 r20 r21).toInt ≠ -2 ^ 63) (h_q1 : (0 < r6 0) → (¬ (r6 3) < 3) → (¬ (Dt_m r19 r20 r22) = 0) → (Dt_m r19 r20 r22).toInt ≠ -2 ^ 63) : Ct M_X10_three [.ref 0, .int 2, .int a2] ([ob 8 [.int f0_0, .ref 1, .ref 4, .ref 7, .ref 10, .ref 11, .ref 12, .ref 18, .ref 25, .ref 29], x1, x2, x3, ob 2 [.ref 5, .ref 6], x5, ia 4 r6, x7, x8, x9, x10, x11, x12, x13, x14, x15, x16, x17, ob 4 [.ref 19, .ref 20, .ref 21, .ref 22, .ref 23, .ref 24, .int f18_6, .int f18_7, .int f18_8, .int f18_9, .int f18_10, .long f18_11, .long f18_12], ja 4 r19, ja 4 r20, ja 4 r21, ja 4 r22, x23, x24, x25, x26, x27, x28, x29, x30, x31, x32], wm) (fun r w' => ((0 < r6 0) ∧ ((r6 3) < 3) ∧ r = some (.long (-9223372036854775808)) ∧ w' = ([ob 8 [.int 5, .ref 1, .ref 4, .ref 7, .ref 10, .ref 11, .ref 12, .ref 18, .ref 25, .ref 29], x1, x2, x3, ob 2 [.ref 5, .ref 6], x5, ia 4 r6, x7, x8, x9, x10, x11, x12, x13, x14, x15, x16, x17, ob 4 [.ref 19, .ref 20, .ref 21, .ref 22, .ref 23, .ref 24, .int f18_6, .int f18_7, .int f18_8, .int f18_9, .int f18_10, .long f18_11, .long f18_12], ja 4 r19, ja 4 r20, ja 4 r21, ja 4 r22, x23, x24, x25, x26, x27, x28, x29, x30, x31, x32], wm)) ∨ ((0 < r6 0) ∧ (¬ (r6 3) < 3) ∧ ((Dt_m r19 r20 r22) = 0) ∧ r = some (.long (-9223372036854775808)) ∧ w' = ([ob 8 [.int 5, .ref 1, .ref 4, .ref 7, .ref 10, .ref 11, .ref 12, .ref 18, .ref 25, .ref 29], x1, x2, x3, ob 2 [.ref 5, .ref 6], x5, ia 4 r6, x7, x8, x9, x10, x11, x12, x13, x14, x15, x16, x17, ob 4 [.ref 19, .ref 20, .ref 21, .ref 22, .ref 23, .ref 24, .int f18_6, .int f18_7, .int f18_8, .int f18_9, .int f18_10, .long f18_11, .long f18_12], ja 4 r19, ja 4 r20, ja 4 r21, ja 4 r22, x23, x24, x25, x26, x27, x28, x29, x30, x31, x32], wm)) ∨ ((0 < r6 0) ∧ (¬ (r6 3) < 3) ∧ (¬ (Dt_m r19 r20 r22) = 0) ∧ r = some (.long (Rd (Dt_2 r19 r20 r21) (Dt_m r19 r20 r22) a2)) ∧ w' = ([ob 8 [.int 0, .ref 1, .ref 4, .ref 7, .ref 10, .ref 11, .ref 12, .ref 18, .ref 25, .ref 29], x1, x2, x3, ob 2 [.ref 5, .ref 6], x5, ia 4 r6, x7, x8, x9, x10, x11, x12, x13, x14, x15, x16, x17, ob 4 [.ref 19, .ref 20, .ref 21, .ref 22, .ref 23, .ref 24, .int f18_6, .int f18_7, .int f18_8, .int f18_9, .int f18_10, .long f18_11, .long f18_12], ja 4 r19, ja 4 r20, ja 4 r21, ja 4 r22, x23, x24, x25, x26, x27, x28, x29, x30, x31, x32], wm)) ∨ ((¬ (0 < r6 0)) ∧ r = some (.long (-9223372036854775808)) ∧ w' = ([ob 8 [.int 1, .ref 1, .ref 4, .ref 7, .ref 10, .ref 11, .ref 12, .ref 18, .ref 25, .ref 29], x1, x2, x3, ob 2 [.ref 5, .ref 6], x5, ia 4 r6, x7, x8, x9, x10, x11, x12, x13, x14, x15, x16, x17, ob 4 [.ref 19, .ref 20, .ref 21, .ref 22, .ref 23, .ref 24, .int f18_6, .int f18_7, .int f18_8, .int f18_9, .int f18_10, .long f18_11, .long f18_12], ja 4 r19, ja 4 r20, ja 4 r21, ja 4 r22, x23, x24, x25, x26, x27, x28, x29, x30, x31, x32], wm))) := by
  refine ct_of ⟨by decide, rfl⟩ (Nat.le_of_ble_eq_true rfl) ?_
  refine ab_aload_n dX10_three_0 rfl ?_
  refine ab_aload_n dX10_three_1 rfl ?_
  refine ab_iconst (v := 0) dX10_three_2 (by decide) ?_
  refine ab_callV (As := [.int 0]) (rest := [.ref 0]) dX10_three_3 mv_X10_hasLinkage ml_X10_133 ⟨by decide, by decide, rfl, rfl, rfl⟩ (by decide) rfl rfl (Nat.le_of_ble_eq_true rfl) rfl c_X10_hasLinkage_0 ?_
  rintro r w' (⟨c_1, rfl, rfl⟩ | ⟨c_2, rfl, rfl⟩)
  · refine ab_ifeq 21 dX10_three_6 (by decide) (fun h_3 => absurd h_3 (by decide)) (fun h_3 => ?_)
    refine ab_iload_n dX10_three_9 rfl ?_
    refine ab_iconst (v := 3) dX10_three_10 (by decide) ?_
    refine ab_callS (As := [.int 2, .int 3]) (rest := [.ref 0]) dX10_three_11 ms_X10_isOf ml_X10_118 ⟨by decide, by decide, rfl, rfl, rfl⟩ (by decide) rfl rfl (Nat.le_of_ble_eq_true rfl) c_X10_isOf ?_
    rintro r w' (⟨c_4, rfl, rfl⟩ | ⟨c_5, rfl, rfl⟩)
    · refine ab_ifeq 21 dX10_three_14 (by decide) (fun h_6 => absurd h_6 (by decide)) (fun h_6 => ?_)
      refine ab_iconst (v := 1) dX10_three_17 (by decide) ?_
      refine ab_goto 22 dX10_three_18 (by decide) ?_
      refine ab_iconst (v := 1) dX10_three_22 (by decide) ?_
      refine ab_callV (As := [.int 1, .int 1]) (rest := []) dX10_three_23 mv_X10_refused ml_X10_84 ⟨by decide, by decide, rfl, rfl, rfl⟩ (by decide) rfl rfl (Nat.le_of_ble_eq_true rfl) rfl c_X10_refused_1 ?_
      rintro r w' ⟨rfl, rfl⟩
      refine ab_ifeq 33 dX10_three_26 (by decide) (fun h_7 => ?_) (fun h_7 => absurd (by decide) h_7)
      refine ab_aload_n dX10_three_33 rfl ?_
      refine ab_aload_n dX10_three_34 rfl ?_
      refine ab_getf dX10_three_35 fl_X10_23 rfl rfl ?_
      refine ab_iconst (v := 3) dX10_three_38 (by decide) ?_
      refine ab_callV (As := [.int 3]) (rest := [.ref 0]) dX10_three_39 mv_X2_count ml_X10_102 ⟨by decide, by decide, rfl, rfl, rfl⟩ (by decide) rfl rfl (Nat.le_of_ble_eq_true rfl) rfl c_X2_count_4_3 ?_
      rintro r w' ⟨rfl, rfl⟩
      refine ab_iconst (v := 3) dX10_three_42 (by decide) ?_
      refine ab_icmplt 63 dX10_three_43 (by decide) (fun h_8 => ?_) (fun h_8 => ?_)
      · refine ab_iconst (v := 0) dX10_three_63 (by decide) ?_
        refine ab_iconst (v := 5) dX10_three_64 (by decide) ?_
        refine ab_callV (As := [.int 0, .int 5]) (rest := []) dX10_three_65 mv_X10_refused ml_X10_84 ⟨by decide, by decide, rfl, rfl, rfl⟩ (by decide) rfl rfl (Nat.le_of_ble_eq_true rfl) rfl c_X10_refused_0 ?_
        rintro r w' ⟨rfl, rfl⟩
        refine ab_ifeq 75 dX10_three_68 (by decide) (fun h_9 => absurd h_9 (by decide)) (fun h_9 => ?_)
        refine ab_ldc2 dX10_three_71 kl_X10_194 ?_
        exact ab_lret dX10_three_74 rfl (by decide) (Or.inl ⟨c_1, h_8, rfl, rfl⟩)
      · refine ab_aload_n dX10_three_46 rfl ?_
        refine ab_getf dX10_three_47 fl_X10_54 rfl rfl ?_
        refine ab_iconst (v := -1) dX10_three_50 (by decide) ?_
        refine ab_callV (As := [.int (-1)]) (rest := [.ref 0]) dX10_three_51 mv_X4_determinant ml_X10_338 ⟨by decide, by decide, rfl, rfl, rfl⟩ (by decide) rfl rfl (Nat.le_of_ble_eq_true rfl) rfl c_X4_determinant_m ?_
        rintro r w' ⟨rfl, rfl⟩
        refine ab_lconst (v := 0) dX10_three_54 (by decide) ?_
        refine ab_lcmpeq 63 dX10_three_55 dX10_three_56 (by decide) (fun h_10 => ?_) (fun h_10 => ?_)
        · refine ab_iconst (v := 0) dX10_three_63 (by decide) ?_
          refine ab_iconst (v := 5) dX10_three_64 (by decide) ?_
          refine ab_callV (As := [.int 0, .int 5]) (rest := []) dX10_three_65 mv_X10_refused ml_X10_84 ⟨by decide, by decide, rfl, rfl, rfl⟩ (by decide) rfl rfl (Nat.le_of_ble_eq_true rfl) rfl c_X10_refused_0 ?_
          rintro r w' ⟨rfl, rfl⟩
          refine ab_ifeq 75 dX10_three_68 (by decide) (fun h_11 => absurd h_11 (by decide)) (fun h_11 => ?_)
          refine ab_ldc2 dX10_three_71 kl_X10_194 ?_
          exact ab_lret dX10_three_74 rfl (by decide) (Or.inr (Or.inl ⟨c_1, h_8, h_10, rfl, rfl⟩))
        · refine ab_iconst (v := 1) dX10_three_59 (by decide) ?_
          refine ab_goto 64 dX10_three_60 (by decide) ?_
          refine ab_iconst (v := 5) dX10_three_64 (by decide) ?_
          refine ab_callV (As := [.int 1, .int 5]) (rest := []) dX10_three_65 mv_X10_refused ml_X10_84 ⟨by decide, by decide, rfl, rfl, rfl⟩ (by decide) rfl rfl (Nat.le_of_ble_eq_true rfl) rfl c_X10_refused_1 ?_
          rintro r w' ⟨rfl, rfl⟩
          refine ab_ifeq 75 dX10_three_68 (by decide) (fun h_12 => ?_) (fun h_12 => absurd (by decide) h_12)
          refine ab_aload_n dX10_three_75 rfl ?_
          refine ab_getf dX10_three_76 fl_X10_54 rfl rfl ?_
          refine ab_iload_n dX10_three_79 rfl ?_
          refine ab_callV (As := [.int 2]) (rest := []) dX10_three_80 mv_X4_determinant ml_X10_338 ⟨by decide, by decide, rfl, rfl, rfl⟩ (by decide) rfl rfl (Nat.le_of_ble_eq_true rfl) rfl c_X4_determinant_2 ?_
          rintro r w' ⟨rfl, rfl⟩
          refine ab_aload_n dX10_three_83 rfl ?_
          refine ab_getf dX10_three_84 fl_X10_54 rfl rfl ?_
          refine ab_iconst (v := -1) dX10_three_87 (by decide) ?_
          refine ab_callV (As := [.int (-1)]) (rest := [.long (Dt_2 r19 r20 r21)]) dX10_three_88 mv_X4_determinant ml_X10_338 ⟨by decide, by decide, rfl, rfl, rfl⟩ (by decide) rfl rfl (Nat.le_of_ble_eq_true rfl) rfl c_X4_determinant_m ?_
          rintro r w' ⟨rfl, rfl⟩
          refine ab_iload_n dX10_three_91 rfl ?_
          refine ab_callS (As := [.long (Dt_2 r19 r20 r21), .long (Dt_m r19 r20 r22), .int a2]) (rest := []) dX10_three_92 ms_X9_reduced ml_X10_188 ⟨by decide, by decide, rfl, rfl, rfl⟩ (by decide) rfl rfl (Nat.le_of_ble_eq_true rfl) (c_X9_reduced (h_q0 c_1 h_8 h_10) (h_q1 c_1 h_8 h_10)) ?_
          rintro r w' ⟨rfl, rfl⟩
          exact ab_lret dX10_three_95 rfl (by decide) (Or.inr (Or.inr (Or.inl ⟨c_1, h_8, h_10, rfl, rfl⟩)))
    · exact absurd (by decide) c_5
  · refine ab_ifeq 21 dX10_three_6 (by decide) (fun h_13 => ?_) (fun h_13 => absurd (by decide) h_13)
    refine ab_iconst (v := 0) dX10_three_21 (by decide) ?_
    refine ab_iconst (v := 1) dX10_three_22 (by decide) ?_
    refine ab_callV (As := [.int 0, .int 1]) (rest := []) dX10_three_23 mv_X10_refused ml_X10_84 ⟨by decide, by decide, rfl, rfl, rfl⟩ (by decide) rfl rfl (Nat.le_of_ble_eq_true rfl) rfl c_X10_refused_0 ?_
    rintro r w' ⟨rfl, rfl⟩
    refine ab_ifeq 33 dX10_three_26 (by decide) (fun h_14 => absurd h_14 (by decide)) (fun h_14 => ?_)
    refine ab_ldc2 dX10_three_29 kl_X10_194 ?_
    exact ab_lret dX10_three_32 rfl (by decide) (Or.inr (Or.inr (Or.inr (⟨c_2, rfl, rfl⟩))))
theorem c_X10_three_o {f0_0 f18_6 f18_7 f18_8 f18_9 f18_10 a1 a2 : Int32} {x1 x2 x3 x5 x7 x8 x9 x10 x11 x12 x13 x14 x15 x16 x17 x23 x24 x25 x26 x27 x28 x29 x30 x31 x32 : ax_E} {r6 : Nat → Int32} {f18_11 f18_12 : Int64} {r19 r20 r21 r22 : Nat → Int64} {wm : List ax_E} (h_o : ¬ (0 ≤ a1 ∧ a1 < 3)) : Ct M_X10_three [.ref 0, .int a1, .int a2] ([ob 8 [.int f0_0, .ref 1, .ref 4, .ref 7, .ref 10, .ref 11, .ref 12, .ref 18, .ref 25, .ref 29], x1, x2, x3, ob 2 [.ref 5, .ref 6], x5, ia 4 r6, x7, x8, x9, x10, x11, x12, x13, x14, x15, x16, x17, ob 4 [.ref 19, .ref 20, .ref 21, .ref 22, .ref 23, .ref 24, .int f18_6, .int f18_7, .int f18_8, .int f18_9, .int f18_10, .long f18_11, .long f18_12], ja 4 r19, ja 4 r20, ja 4 r21, ja 4 r22, x23, x24, x25, x26, x27, x28, x29, x30, x31, x32], wm) (fun r w' => ((0 < r6 0) ∧ r = some (.long (-9223372036854775808)) ∧ w' = ([ob 8 [.int 1, .ref 1, .ref 4, .ref 7, .ref 10, .ref 11, .ref 12, .ref 18, .ref 25, .ref 29], x1, x2, x3, ob 2 [.ref 5, .ref 6], x5, ia 4 r6, x7, x8, x9, x10, x11, x12, x13, x14, x15, x16, x17, ob 4 [.ref 19, .ref 20, .ref 21, .ref 22, .ref 23, .ref 24, .int f18_6, .int f18_7, .int f18_8, .int f18_9, .int f18_10, .long f18_11, .long f18_12], ja 4 r19, ja 4 r20, ja 4 r21, ja 4 r22, x23, x24, x25, x26, x27, x28, x29, x30, x31, x32], wm)) ∨ ((¬ (0 < r6 0)) ∧ r = some (.long (-9223372036854775808)) ∧ w' = ([ob 8 [.int 1, .ref 1, .ref 4, .ref 7, .ref 10, .ref 11, .ref 12, .ref 18, .ref 25, .ref 29], x1, x2, x3, ob 2 [.ref 5, .ref 6], x5, ia 4 r6, x7, x8, x9, x10, x11, x12, x13, x14, x15, x16, x17, ob 4 [.ref 19, .ref 20, .ref 21, .ref 22, .ref 23, .ref 24, .int f18_6, .int f18_7, .int f18_8, .int f18_9, .int f18_10, .long f18_11, .long f18_12], ja 4 r19, ja 4 r20, ja 4 r21, ja 4 r22, x23, x24, x25, x26, x27, x28, x29, x30, x31, x32], wm))) := by
  refine ct_of ⟨by decide, rfl⟩ (Nat.le_of_ble_eq_true rfl) ?_
  refine ab_aload_n dX10_three_0 rfl ?_
  refine ab_aload_n dX10_three_1 rfl ?_
  refine ab_iconst (v := 0) dX10_three_2 (by decide) ?_
  refine ab_callV (As := [.int 0]) (rest := [.ref 0]) dX10_three_3 mv_X10_hasLinkage ml_X10_133 ⟨by decide, by decide, rfl, rfl, rfl⟩ (by decide) rfl rfl (Nat.le_of_ble_eq_true rfl) rfl c_X10_hasLinkage_0 ?_
  rintro r w' (⟨c_1, rfl, rfl⟩ | ⟨c_2, rfl, rfl⟩)
  · refine ab_ifeq 21 dX10_three_6 (by decide) (fun h_3 => absurd h_3 (by decide)) (fun h_3 => ?_)
    refine ab_iload_n dX10_three_9 rfl ?_
    refine ab_iconst (v := 3) dX10_three_10 (by decide) ?_
    refine ab_callS (As := [.int a1, .int 3]) (rest := [.ref 0]) dX10_three_11 ms_X10_isOf ml_X10_118 ⟨by decide, by decide, rfl, rfl, rfl⟩ (by decide) rfl rfl (Nat.le_of_ble_eq_true rfl) c_X10_isOf ?_
    rintro r w' (⟨c_4, rfl, rfl⟩ | ⟨c_5, rfl, rfl⟩)
    · exact absurd c_4 h_o
    · refine ab_ifeq 21 dX10_three_14 (by decide) (fun h_6 => ?_) (fun h_6 => absurd (by decide) h_6)
      refine ab_iconst (v := 0) dX10_three_21 (by decide) ?_
      refine ab_iconst (v := 1) dX10_three_22 (by decide) ?_
      refine ab_callV (As := [.int 0, .int 1]) (rest := []) dX10_three_23 mv_X10_refused ml_X10_84 ⟨by decide, by decide, rfl, rfl, rfl⟩ (by decide) rfl rfl (Nat.le_of_ble_eq_true rfl) rfl c_X10_refused_0 ?_
      rintro r w' ⟨rfl, rfl⟩
      refine ab_ifeq 33 dX10_three_26 (by decide) (fun h_7 => absurd h_7 (by decide)) (fun h_7 => ?_)
      refine ab_ldc2 dX10_three_29 kl_X10_194 ?_
      exact ab_lret dX10_three_32 rfl (by decide) (Or.inl ⟨c_1, rfl, rfl⟩)
  · refine ab_ifeq 21 dX10_three_6 (by decide) (fun h_8 => ?_) (fun h_8 => absurd (by decide) h_8)
    refine ab_iconst (v := 0) dX10_three_21 (by decide) ?_
    refine ab_iconst (v := 1) dX10_three_22 (by decide) ?_
    refine ab_callV (As := [.int 0, .int 1]) (rest := []) dX10_three_23 mv_X10_refused ml_X10_84 ⟨by decide, by decide, rfl, rfl, rfl⟩ (by decide) rfl rfl (Nat.le_of_ble_eq_true rfl) rfl c_X10_refused_0 ?_
    rintro r w' ⟨rfl, rfl⟩
    refine ab_ifeq 33 dX10_three_26 (by decide) (fun h_9 => absurd h_9 (by decide)) (fun h_9 => ?_)
    refine ab_ldc2 dX10_three_29 kl_X10_194 ?_
    exact ab_lret dX10_three_32 rfl (by decide) (Or.inr (⟨c_2, rfl, rfl⟩))
theorem c_X10_closing_i {f0_0 f10_0 f10_1 f10_2 f10_3 f18_7 f18_8 f18_9 f18_10 a1 a3 : Int32} {x1 x2 x3 x7 x8 x9 x11 x12 x13 x14 x15 x16 x17 x23 x24 x25 x26 x27 x28 x29 x30 x31 x32 : ax_E} {r5 r6 : Nat → Int32} {f18_11 f18_12 : Int64} {r19 r20 r21 r22 : Nat → Int64} {wm : List ax_E} {nr k : Nat} (h_c0 : r6 0 ≤ nI 4) (h_nr : nr ≤ 4) (hk : k < nr) (h_k : 0 ≤ (nI k) ∧ (nI k) < r6 3) (h_q4 : (0 ≤ a1 ∧ a1 < r6 0) → ((Pw r19 r20 r21 r22 (Int32.toInt64 (Bg r5 a1)) (Int32.toInt64 (Ba r5 a1)) (Int32.toInt64 (Bc r5 a1)) k) - (((Int32.toInt64 (Bb r5 a1)) * (Int32.toInt64 (Bb r5 a1))) * (r22 k))).toInt ≠ -2 ^ 63) (h_q5 : (0 ≤ a1 ∧ a1 < r6 0) → (r22 k).toInt ≠ -2 ^ 63) : Ct M_X10_closing [.ref 0, .int a1, .int (nI k), .int a3] ([ob 8 [.int f0_0, .ref 1, .ref 4, .ref 7, .ref 10, .ref 11, .ref 12, .ref 18, .ref 25, .ref 29], x1, x2, x3, ob 2 [.ref 5, .ref 6], ia 56 r5, ia 4 r6, x7, x8, x9, ob 3 [.int f10_0, .int f10_1, .int f10_2, .int f10_3], x11, x12, x13, x14, x15, x16, x17, ob 4 [.ref 19, .ref 20, .ref 21, .ref 22, .ref 23, .ref 24, .int (nI nr), .int f18_7, .int f18_8, .int f18_9, .int f18_10, .long f18_11, .long f18_12], ja 4 r19, ja 4 r20, ja 4 r21, ja 4 r22, x23, x24, x25, x26, x27, x28, x29, x30, x31, x32], wm) (fun r w' => ((0 ≤ a1 ∧ a1 < r6 0) ∧ r = some (.long (Rd ((Pw r19 r20 r21 r22 (Int32.toInt64 (Bg r5 a1)) (Int32.toInt64 (Ba r5 a1)) (Int32.toInt64 (Bc r5 a1)) k) - (((Int32.toInt64 (Bb r5 a1)) * (Int32.toInt64 (Bb r5 a1))) * (r22 k))) (r22 k) a3)) ∧ w' = ([ob 8 [.int 0, .ref 1, .ref 4, .ref 7, .ref 10, .ref 11, .ref 12, .ref 18, .ref 25, .ref 29], x1, x2, x3, ob 2 [.ref 5, .ref 6], ia 56 r5, ia 4 r6, x7, x8, x9, ob 3 [.int (Bg r5 a1), .int (Ba r5 a1), .int (Bb r5 a1), .int (Bc r5 a1)], x11, x12, x13, x14, x15, x16, x17, ob 4 [.ref 19, .ref 20, .ref 21, .ref 22, .ref 23, .ref 24, .int (nI nr), .int f18_7, .int f18_8, .int f18_9, .int f18_10, .long f18_11, .long f18_12], ja 4 r19, ja 4 r20, ja 4 r21, ja 4 r22, x23, x24, x25, x26, x27, x28, x29, x30, x31, x32], wm)) ∨ ((¬ (0 ≤ a1 ∧ a1 < r6 0)) ∧ r = some (.long (-9223372036854775808)) ∧ w' = ([ob 8 [.int 1, .ref 1, .ref 4, .ref 7, .ref 10, .ref 11, .ref 12, .ref 18, .ref 25, .ref 29], x1, x2, x3, ob 2 [.ref 5, .ref 6], ia 56 r5, ia 4 r6, x7, x8, x9, ob 3 [.int f10_0, .int f10_1, .int f10_2, .int f10_3], x11, x12, x13, x14, x15, x16, x17, ob 4 [.ref 19, .ref 20, .ref 21, .ref 22, .ref 23, .ref 24, .int (nI nr), .int f18_7, .int f18_8, .int f18_9, .int f18_10, .long f18_11, .long f18_12], ja 4 r19, ja 4 r20, ja 4 r21, ja 4 r22, x23, x24, x25, x26, x27, x28, x29, x30, x31, x32], wm))) := by
  refine ct_of ⟨by decide, rfl⟩ (Nat.le_of_ble_eq_true rfl) ?_
  refine ab_aload_n dX10_closing_0 rfl ?_
  refine ab_aload_n dX10_closing_1 rfl ?_
  refine ab_iload_n dX10_closing_2 rfl ?_
  refine ab_callV (As := [.int a1]) (rest := [.ref 0]) dX10_closing_3 mv_X10_hasLinkage ml_X10_133 ⟨by decide, by decide, rfl, rfl, rfl⟩ (by decide) rfl rfl (Nat.le_of_ble_eq_true rfl) rfl c_X10_hasLinkage ?_
  rintro r w' (⟨c_1, rfl, rfl⟩ | ⟨c_2, rfl, rfl⟩)
  · refine ab_ifeq 25 dX10_closing_6 (by decide) (fun h_3 => absurd h_3 (by decide)) (fun h_3 => ?_)
    refine ab_aload_n dX10_closing_9 rfl ?_
    refine ab_getf dX10_closing_10 fl_X10_23 rfl rfl ?_
    refine ab_iconst (v := 3) dX10_closing_13 (by decide) ?_
    refine ab_iload_n dX10_closing_14 rfl ?_
    refine ab_callV (As := [.int 3, .int (nI k)]) (rest := [.ref 0]) dX10_closing_15 mv_X2_has ml_X10_264 ⟨by decide, by decide, rfl, rfl, rfl⟩ (by decide) rfl rfl (Nat.le_of_ble_eq_true rfl) rfl c_X2_has_3 ?_
    rintro r w' (⟨c_4, rfl, rfl⟩ | ⟨c_5, rfl, rfl⟩)
    · refine ab_ifeq 25 dX10_closing_18 (by decide) (fun h_6 => absurd h_6 (by decide)) (fun h_6 => ?_)
      refine ab_iconst (v := 1) dX10_closing_21 (by decide) ?_
      refine ab_goto 26 dX10_closing_22 (by decide) ?_
      refine ab_iconst (v := 1) dX10_closing_26 (by decide) ?_
      refine ab_callV (As := [.int 1, .int 1]) (rest := []) dX10_closing_27 mv_X10_refused ml_X10_84 ⟨by decide, by decide, rfl, rfl, rfl⟩ (by decide) rfl rfl (Nat.le_of_ble_eq_true rfl) rfl c_X10_refused_1 ?_
      rintro r w' ⟨rfl, rfl⟩
      refine ab_ifeq 37 dX10_closing_30 (by decide) (fun h_7 => ?_) (fun h_7 => absurd (by decide) h_7)
      refine ab_aload_n dX10_closing_37 rfl ?_
      refine ab_getf dX10_closing_38 fl_X10_54 rfl rfl ?_
      refine ab_iload_n dX10_closing_41 rfl ?_
      refine ab_aload_n dX10_closing_42 rfl ?_
      refine ab_iload_n dX10_closing_43 rfl ?_
      refine ab_callV (As := [.int a1]) (rest := [.int (nI k), .ref 18]) dX10_closing_44 mv_X10_linkageAt ml_X10_140 ⟨by decide, by decide, rfl, rfl, rfl⟩ (by decide) rfl rfl (Nat.le_of_ble_eq_true rfl) rfl (c_X10_linkageAt c_1 h_c0) ?_
      rintro r w' ⟨rfl, rfl⟩
      refine ab_callV (As := [.int (nI k), .ref 10]) (rest := []) dX10_closing_47 mv_X4_closingUpper ml_X10_317 ⟨by decide, by decide, rfl, rfl, rfl⟩ (by decide) rfl rfl (Nat.le_of_ble_eq_true rfl) rfl (c_X4_closingUpper (nr := nr) (k := k) hk h_nr) ?_
      rintro r w' ⟨rfl, rfl⟩
      refine ab_aload_n dX10_closing_50 rfl ?_
      refine ab_getf dX10_closing_51 fl_X10_54 rfl rfl ?_
      refine ab_iload_n dX10_closing_54 rfl ?_
      refine ab_callV (As := [.int (nI k)]) (rest := [.long ((Pw r19 r20 r21 r22 (Int32.toInt64 (Bg r5 a1)) (Int32.toInt64 (Ba r5 a1)) (Int32.toInt64 (Bc r5 a1)) k) - (((Int32.toInt64 (Bb r5 a1)) * (Int32.toInt64 (Bb r5 a1))) * (r22 k)))]) dX10_closing_55 mv_X4_closingLower ml_X10_321 ⟨by decide, by decide, rfl, rfl, rfl⟩ (by decide) rfl rfl (Nat.le_of_ble_eq_true rfl) rfl (c_X4_closingLower (nr := nr) (k := k) hk h_nr) ?_
      rintro r w' ⟨rfl, rfl⟩
      refine ab_iload_n dX10_closing_58 rfl ?_
      refine ab_callS (As := [.long ((Pw r19 r20 r21 r22 (Int32.toInt64 (Bg r5 a1)) (Int32.toInt64 (Ba r5 a1)) (Int32.toInt64 (Bc r5 a1)) k) - (((Int32.toInt64 (Bb r5 a1)) * (Int32.toInt64 (Bb r5 a1))) * (r22 k))), .long (r22 k), .int a3]) (rest := []) dX10_closing_59 ms_X9_reduced ml_X10_188 ⟨by decide, by decide, rfl, rfl, rfl⟩ (by decide) rfl rfl (Nat.le_of_ble_eq_true rfl) (c_X9_reduced (h_q4 c_1) (h_q5 c_1)) ?_
      rintro r w' ⟨rfl, rfl⟩
      exact ab_lret dX10_closing_62 rfl (by decide) (Or.inl ⟨c_1, rfl, rfl⟩)
    · exact absurd h_k c_5
  · refine ab_ifeq 25 dX10_closing_6 (by decide) (fun h_8 => ?_) (fun h_8 => absurd (by decide) h_8)
    refine ab_iconst (v := 0) dX10_closing_25 (by decide) ?_
    refine ab_iconst (v := 1) dX10_closing_26 (by decide) ?_
    refine ab_callV (As := [.int 0, .int 1]) (rest := []) dX10_closing_27 mv_X10_refused ml_X10_84 ⟨by decide, by decide, rfl, rfl, rfl⟩ (by decide) rfl rfl (Nat.le_of_ble_eq_true rfl) rfl c_X10_refused_0 ?_
    rintro r w' ⟨rfl, rfl⟩
    refine ab_ifeq 37 dX10_closing_30 (by decide) (fun h_9 => absurd h_9 (by decide)) (fun h_9 => ?_)
    refine ab_ldc2 dX10_closing_33 kl_X10_194 ?_
    exact ab_lret dX10_closing_36 rfl (by decide) (Or.inr (⟨c_2, rfl, rfl⟩))
theorem c_X10_closing_o {f0_0 a1 a2 a3 : Int32} {x1 x2 x3 x5 x7 x8 x9 x10 x11 x12 x13 x14 x15 x16 x17 x18 x19 x20 x21 x22 x23 x24 x25 x26 x27 x28 x29 x30 x31 x32 : ax_E} {r6 : Nat → Int32} {wm : List ax_E} (h_o : ¬ (0 ≤ a2 ∧ a2 < r6 3)) : Ct M_X10_closing [.ref 0, .int a1, .int a2, .int a3] ([ob 8 [.int f0_0, .ref 1, .ref 4, .ref 7, .ref 10, .ref 11, .ref 12, .ref 18, .ref 25, .ref 29], x1, x2, x3, ob 2 [.ref 5, .ref 6], x5, ia 4 r6, x7, x8, x9, x10, x11, x12, x13, x14, x15, x16, x17, x18, x19, x20, x21, x22, x23, x24, x25, x26, x27, x28, x29, x30, x31, x32], wm) (fun r w' => ((0 ≤ a1 ∧ a1 < r6 0) ∧ r = some (.long (-9223372036854775808)) ∧ w' = ([ob 8 [.int 1, .ref 1, .ref 4, .ref 7, .ref 10, .ref 11, .ref 12, .ref 18, .ref 25, .ref 29], x1, x2, x3, ob 2 [.ref 5, .ref 6], x5, ia 4 r6, x7, x8, x9, x10, x11, x12, x13, x14, x15, x16, x17, x18, x19, x20, x21, x22, x23, x24, x25, x26, x27, x28, x29, x30, x31, x32], wm)) ∨ ((¬ (0 ≤ a1 ∧ a1 < r6 0)) ∧ r = some (.long (-9223372036854775808)) ∧ w' = ([ob 8 [.int 1, .ref 1, .ref 4, .ref 7, .ref 10, .ref 11, .ref 12, .ref 18, .ref 25, .ref 29], x1, x2, x3, ob 2 [.ref 5, .ref 6], x5, ia 4 r6, x7, x8, x9, x10, x11, x12, x13, x14, x15, x16, x17, x18, x19, x20, x21, x22, x23, x24, x25, x26, x27, x28, x29, x30, x31, x32], wm))) := by
  refine ct_of ⟨by decide, rfl⟩ (Nat.le_of_ble_eq_true rfl) ?_
  refine ab_aload_n dX10_closing_0 rfl ?_
  refine ab_aload_n dX10_closing_1 rfl ?_
  refine ab_iload_n dX10_closing_2 rfl ?_
  refine ab_callV (As := [.int a1]) (rest := [.ref 0]) dX10_closing_3 mv_X10_hasLinkage ml_X10_133 ⟨by decide, by decide, rfl, rfl, rfl⟩ (by decide) rfl rfl (Nat.le_of_ble_eq_true rfl) rfl c_X10_hasLinkage ?_
  rintro r w' (⟨c_1, rfl, rfl⟩ | ⟨c_2, rfl, rfl⟩)
  · refine ab_ifeq 25 dX10_closing_6 (by decide) (fun h_3 => absurd h_3 (by decide)) (fun h_3 => ?_)
    refine ab_aload_n dX10_closing_9 rfl ?_
    refine ab_getf dX10_closing_10 fl_X10_23 rfl rfl ?_
    refine ab_iconst (v := 3) dX10_closing_13 (by decide) ?_
    refine ab_iload_n dX10_closing_14 rfl ?_
    refine ab_callV (As := [.int 3, .int a2]) (rest := [.ref 0]) dX10_closing_15 mv_X2_has ml_X10_264 ⟨by decide, by decide, rfl, rfl, rfl⟩ (by decide) rfl rfl (Nat.le_of_ble_eq_true rfl) rfl c_X2_has_3 ?_
    rintro r w' (⟨c_4, rfl, rfl⟩ | ⟨c_5, rfl, rfl⟩)
    · exact absurd c_4 h_o
    · refine ab_ifeq 25 dX10_closing_18 (by decide) (fun h_6 => ?_) (fun h_6 => absurd (by decide) h_6)
      refine ab_iconst (v := 0) dX10_closing_25 (by decide) ?_
      refine ab_iconst (v := 1) dX10_closing_26 (by decide) ?_
      refine ab_callV (As := [.int 0, .int 1]) (rest := []) dX10_closing_27 mv_X10_refused ml_X10_84 ⟨by decide, by decide, rfl, rfl, rfl⟩ (by decide) rfl rfl (Nat.le_of_ble_eq_true rfl) rfl c_X10_refused_0 ?_
      rintro r w' ⟨rfl, rfl⟩
      refine ab_ifeq 37 dX10_closing_30 (by decide) (fun h_7 => absurd h_7 (by decide)) (fun h_7 => ?_)
      refine ab_ldc2 dX10_closing_33 kl_X10_194 ?_
      exact ab_lret dX10_closing_36 rfl (by decide) (Or.inl ⟨c_1, rfl, rfl⟩)
  · refine ab_ifeq 25 dX10_closing_6 (by decide) (fun h_8 => ?_) (fun h_8 => absurd (by decide) h_8)
    refine ab_iconst (v := 0) dX10_closing_25 (by decide) ?_
    refine ab_iconst (v := 1) dX10_closing_26 (by decide) ?_
    refine ab_callV (As := [.int 0, .int 1]) (rest := []) dX10_closing_27 mv_X10_refused ml_X10_84 ⟨by decide, by decide, rfl, rfl, rfl⟩ (by decide) rfl rfl (Nat.le_of_ble_eq_true rfl) rfl c_X10_refused_0 ?_
    rintro r w' ⟨rfl, rfl⟩
    refine ab_ifeq 37 dX10_closing_30 (by decide) (fun h_9 => absurd h_9 (by decide)) (fun h_9 => ?_)
    refine ab_ldc2 dX10_closing_33 kl_X10_194 ?_
    exact ab_lret dX10_closing_36 rfl (by decide) (Or.inr (⟨c_2, rfl, rfl⟩))
