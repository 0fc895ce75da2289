def Lk_all (f10_0 : Int32) (f10_1 : Int32) (f10_2 : Int32) (f10_3 : Int32) : Int32 := (((f10_0 + f10_1) + f10_2) + f10_3)
theorem c_X3_together {x0 x1 x2 x3 x4 x5 x6 x7 x8 x9 x11 x12 x13 x14 x15 x16 x17 x18 x19 x20 x21 x22 x23 x24 x25 x26 x27 x28 x29 x30 x31 x32 : ax_E} {f10_0 f10_1 f10_2 f10_3 : Int32} {wm : List ax_E}  : Ct M_X3_together [.ref 10] ([x0, x1, x2, x3, x4, x5, x6, x7, x8, x9, ob 3 [.int f10_0, .int f10_1, .int f10_2, .int f10_3], x11, x12, x13, x14, x15, x16, x17, x18, x19, x20, x21, x22, x23, x24, x25, x26, x27, x28, x29, x30, x31, x32], wm) (fun r w' => r = some (.int (Lk_all f10_0 f10_1 f10_2 f10_3)) ∧ w' = ([x0, x1, x2, x3, x4, x5, x6, x7, x8, x9, ob 3 [.int f10_0, .int f10_1, .int f10_2, .int f10_3], x11, x12, x13, x14, x15, x16, x17, x18, x19, x20, x21, x22, x23, x24, x25, x26, x27, x28, x29, x30, x31, x32], wm)) := by
  refine ct_of ⟨by decide, rfl⟩ (Nat.le_of_ble_eq_true rfl) ?_
  refine ab_aload_n dX3_together_0 rfl ?_
  refine ab_getf dX3_together_1 fl_X3_9 rfl rfl ?_
  refine ab_aload_n dX3_together_4 rfl ?_
  refine ab_getf dX3_together_5 fl_X3_15 rfl rfl ?_
  refine ab_iadd dX3_together_8 ?_
  refine ab_aload_n dX3_together_9 rfl ?_
  refine ab_getf dX3_together_10 fl_X3_18 rfl rfl ?_
  refine ab_iadd dX3_together_13 ?_
  refine ab_aload_n dX3_together_14 rfl ?_
  refine ab_getf dX3_together_15 fl_X3_21 rfl rfl ?_
  refine ab_iadd dX3_together_18 ?_
  exact ab_iret dX3_together_19 rfl (by decide) (⟨rfl, rfl⟩)
def Lk_max (f10_0 : Int32) (f10_1 : Int32) (f10_2 : Int32) (f10_3 : Int32) : Int32 := (if (if f10_0 < f10_1 then f10_1 else f10_0) < (if f10_2 < f10_3 then f10_3 else f10_2) then (if f10_2 < f10_3 then f10_3 else f10_2) else (if f10_0 < f10_1 then f10_1 else f10_0))
theorem c_X3_greatest {x0 x1 x2 x3 x4 x5 x6 x7 x8 x9 x11 x12 x13 x14 x15 x16 x17 x18 x19 x20 x21 x22 x23 x24 x25 x26 x27 x28 x29 x30 x31 x32 : ax_E} {f10_0 f10_1 f10_2 f10_3 : Int32} {wm : List ax_E}  : Ct M_X3_greatest [.ref 10] ([x0, x1, x2, x3, x4, x5, x6, x7, x8, x9, ob 3 [.int f10_0, .int f10_1, .int f10_2, .int f10_3], x11, x12, x13, x14, x15, x16, x17, x18, x19, x20, x21, x22, x23, x24, x25, x26, x27, x28, x29, x30, x31, x32], wm) (fun r w' => r = some (.int (Lk_max f10_0 f10_1 f10_2 f10_3)) ∧ w' = ([x0, x1, x2, x3, x4, x5, x6, x7, x8, x9, ob 3 [.int f10_0, .int f10_1, .int f10_2, .int f10_3], x11, x12, x13, x14, x15, x16, x17, x18, x19, x20, x21, x22, x23, x24, x25, x26, x27, x28, x29, x30, x31, x32], wm)) := by
  refine ct_of ⟨by decide, rfl⟩ (Nat.le_of_ble_eq_true rfl) ?_
  refine ab_aload_n dX3_greatest_0 rfl ?_
  refine ab_getf dX3_greatest_1 fl_X3_9 rfl rfl ?_
  refine ab_aload_n dX3_greatest_4 rfl ?_
  refine ab_getf dX3_greatest_5 fl_X3_15 rfl rfl ?_
  refine ab_mmax dX3_greatest_8 ml_X3_30 ⟨by decide, Nat.le_of_ble_eq_true rfl⟩ (by decide) ?_
  refine ab_aload_n dX3_greatest_11 rfl ?_
  refine ab_getf dX3_greatest_12 fl_X3_18 rfl rfl ?_
  refine ab_aload_n dX3_greatest_15 rfl ?_
  refine ab_getf dX3_greatest_16 fl_X3_21 rfl rfl ?_
  refine ab_mmax dX3_greatest_19 ml_X3_30 ⟨by decide, Nat.le_of_ble_eq_true rfl⟩ (by decide) ?_
  refine ab_mmax dX3_greatest_22 ml_X3_30 ⟨by decide, Nat.le_of_ble_eq_true rfl⟩ (by decide) ?_
  exact ab_iret dX3_greatest_25 rfl (by decide) (⟨rfl, rfl⟩)
def Lk_min (f10_0 : Int32) (f10_1 : Int32) (f10_2 : Int32) (f10_3 : Int32) : Int32 := (if (if f10_3 < f10_2 then f10_3 else f10_2) < (if f10_1 < f10_0 then f10_1 else f10_0) then (if f10_3 < f10_2 then f10_3 else f10_2) else (if f10_1 < f10_0 then f10_1 else f10_0))
theorem c_X3_smallest {x0 x1 x2 x3 x4 x5 x6 x7 x8 x9 x11 x12 x13 x14 x15 x16 x17 x18 x19 x20 x21 x22 x23 x24 x25 x26 x27 x28 x29 x30 x31 x32 : ax_E} {f10_0 f10_1 f10_2 f10_3 : Int32} {wm : List ax_E}  : Ct M_X3_smallest [.ref 10] ([x0, x1, x2, x3, x4, x5, x6, x7, x8, x9, ob 3 [.int f10_0, .int f10_1, .int f10_2, .int f10_3], x11, x12, x13, x14, x15, x16, x17, x18, x19, x20, x21, x22, x23, x24, x25, x26, x27, x28, x29, x30, x31, x32], wm) (fun r w' => r = some (.int (Lk_min f10_0 f10_1 f10_2 f10_3)) ∧ w' = ([x0, x1, x2, x3, x4, x5, x6, x7, x8, x9, ob 3 [.int f10_0, .int f10_1, .int f10_2, .int f10_3], x11, x12, x13, x14, x15, x16, x17, x18, x19, x20, x21, x22, x23, x24, x25, x26, x27, x28, x29, x30, x31, x32], wm)) := by
  refine ct_of ⟨by decide, rfl⟩ (Nat.le_of_ble_eq_true rfl) ?_
  refine ab_aload_n dX3_smallest_0 rfl ?_
  refine ab_getf dX3_smallest_1 fl_X3_9 rfl rfl ?_
  refine ab_aload_n dX3_smallest_4 rfl ?_
  refine ab_getf dX3_smallest_5 fl_X3_15 rfl rfl ?_
  refine ab_mmin dX3_smallest_8 ml_X3_36 ⟨by decide, Nat.le_of_ble_eq_true rfl⟩ (by decide) ?_
  refine ab_aload_n dX3_smallest_11 rfl ?_
  refine ab_getf dX3_smallest_12 fl_X3_18 rfl rfl ?_
  refine ab_aload_n dX3_smallest_15 rfl ?_
  refine ab_getf dX3_smallest_16 fl_X3_21 rfl rfl ?_
  refine ab_mmin dX3_smallest_19 ml_X3_36 ⟨by decide, Nat.le_of_ble_eq_true rfl⟩ (by decide) ?_
  refine ab_mmin dX3_smallest_22 ml_X3_36 ⟨by decide, Nat.le_of_ble_eq_true rfl⟩ (by decide) ?_
  exact ab_iret dX3_smallest_25 rfl (by decide) (⟨rfl, rfl⟩)
def Lk_sums (f10_0 : Int32) (f10_1 : Int32) (f10_2 : Int32) (f10_3 : Int32) : Int32 := ((Lk_all f10_0 f10_1 f10_2 f10_3) - (2 * ((Lk_max f10_0 f10_1 f10_2 f10_3) + (Lk_min f10_0 f10_1 f10_2 f10_3))))
theorem c_X3_middleLessOuter {x0 x1 x2 x3 x4 x5 x6 x7 x8 x9 x11 x12 x13 x14 x15 x16 x17 x18 x19 x20 x21 x22 x23 x24 x25 x26 x27 x28 x29 x30 x31 x32 : ax_E} {f10_0 f10_1 f10_2 f10_3 : Int32} {wm : List ax_E}  : Ct M_X3_middleLessOuter [.ref 10] ([x0, x1, x2, x3, x4, x5, x6, x7, x8, x9, ob 3 [.int f10_0, .int f10_1, .int f10_2, .int f10_3], x11, x12, x13, x14, x15, x16, x17, x18, x19, x20, x21, x22, x23, x24, x25, x26, x27, x28, x29, x30, x31, x32], wm) (fun r w' => r = some (.int (Lk_sums f10_0 f10_1 f10_2 f10_3)) ∧ w' = ([x0, x1, x2, x3, x4, x5, x6, x7, x8, x9, ob 3 [.int f10_0, .int f10_1, .int f10_2, .int f10_3], x11, x12, x13, x14, x15, x16, x17, x18, x19, x20, x21, x22, x23, x24, x25, x26, x27, x28, x29, x30, x31, x32], wm)) := by
  refine ct_of ⟨by decide, rfl⟩ (Nat.le_of_ble_eq_true rfl) ?_
  refine ab_aload_n dX3_middleLessOuter_0 rfl ?_
  refine ab_callV (As := []) (rest := []) dX3_middleLessOuter_1 mv_X3_together ml_X3_39 ⟨by decide, by decide, rfl, rfl, rfl⟩ (by decide) rfl rfl (Nat.le_of_ble_eq_true rfl) rfl c_X3_together ?_
  rintro r w' ⟨rfl, rfl⟩
  refine ab_iconst (v := 2) dX3_middleLessOuter_4 (by decide) ?_
  refine ab_aload_n dX3_middleLessOuter_5 rfl ?_
  refine ab_callV (As := []) (rest := [.int 2, .int (Lk_all f10_0 f10_1 f10_2 f10_3)]) dX3_middleLessOuter_6 mv_X3_greatest ml_X3_43 ⟨by decide, by decide, rfl, rfl, rfl⟩ (by decide) rfl rfl (Nat.le_of_ble_eq_true rfl) rfl c_X3_greatest ?_
  rintro r w' ⟨rfl, rfl⟩
  refine ab_aload_n dX3_middleLessOuter_9 rfl ?_
  refine ab_callV (As := []) (rest := [.int (Lk_max f10_0 f10_1 f10_2 f10_3), .int 2, .int (Lk_all f10_0 f10_1 f10_2 f10_3)]) dX3_middleLessOuter_10 mv_X3_smallest ml_X3_46 ⟨by decide, by decide, rfl, rfl, rfl⟩ (by decide) rfl rfl (Nat.le_of_ble_eq_true rfl) rfl c_X3_smallest ?_
  rintro r w' ⟨rfl, rfl⟩
  refine ab_iadd dX3_middleLessOuter_13 ?_
  refine ab_imul dX3_middleLessOuter_14 ?_
  refine ab_isub dX3_middleLessOuter_15 ?_
  exact ab_iret dX3_middleLessOuter_16 rfl (by decide) (⟨rfl, rfl⟩)
def Lk_unit (f10_0 : Int32) (f10_1 : Int32) : Int32 := ((2 * f10_0) * f10_1)
theorem c_X3_cosineUnit {x0 x1 x2 x3 x4 x5 x6 x7 x8 x9 x11 x12 x13 x14 x15 x16 x17 x18 x19 x20 x21 x22 x23 x24 x25 x26 x27 x28 x29 x30 x31 x32 : ax_E} {f10_0 f10_1 f10_2 f10_3 : Int32} {wm : List ax_E}  : Ct M_X3_cosineUnit [.ref 10] ([x0, x1, x2, x3, x4, x5, x6, x7, x8, x9, ob 3 [.int f10_0, .int f10_1, .int f10_2, .int f10_3], x11, x12, x13, x14, x15, x16, x17, x18, x19, x20, x21, x22, x23, x24, x25, x26, x27, x28, x29, x30, x31, x32], wm) (fun r w' => r = some (.int (Lk_unit f10_0 f10_1)) ∧ w' = ([x0, x1, x2, x3, x4, x5, x6, x7, x8, x9, ob 3 [.int f10_0, .int f10_1, .int f10_2, .int f10_3], x11, x12, x13, x14, x15, x16, x17, x18, x19, x20, x21, x22, x23, x24, x25, x26, x27, x28, x29, x30, x31, x32], wm)) := by
  refine ct_of ⟨by decide, rfl⟩ (Nat.le_of_ble_eq_true rfl) ?_
  refine ab_iconst (v := 2) dX3_cosineUnit_0 (by decide) ?_
  refine ab_aload_n dX3_cosineUnit_1 rfl ?_
  refine ab_getf dX3_cosineUnit_2 fl_X3_9 rfl rfl ?_
  refine ab_imul dX3_cosineUnit_5 ?_
  refine ab_aload_n dX3_cosineUnit_6 rfl ?_
  refine ab_getf dX3_cosineUnit_7 fl_X3_15 rfl rfl ?_
  refine ab_imul dX3_cosineUnit_10 ?_
  exact ab_iret dX3_cosineUnit_11 rfl (by decide) (⟨rfl, rfl⟩)
def Lk_far (f10_0 : Int32) (f10_1 : Int32) (f10_2 : Int32) (f10_3 : Int32) : Int32 := (((f10_0 * f10_0) + (f10_1 * f10_1)) - ((f10_2 + f10_3) * (f10_2 + f10_3)))
theorem c_X3_stretchedCosine {x0 x1 x2 x3 x4 x5 x6 x7 x8 x9 x11 x12 x13 x14 x15 x16 x17 x18 x19 x20 x21 x22 x23 x24 x25 x26 x27 x28 x29 x30 x31 x32 : ax_E} {f10_0 f10_1 f10_2 f10_3 : Int32} {wm : List ax_E}  : Ct M_X3_stretchedCosine [.ref 10] ([x0, x1, x2, x3, x4, x5, x6, x7, x8, x9, ob 3 [.int f10_0, .int f10_1, .int f10_2, .int f10_3], x11, x12, x13, x14, x15, x16, x17, x18, x19, x20, x21, x22, x23, x24, x25, x26, x27, x28, x29, x30, x31, x32], wm) (fun r w' => r = some (.int (Lk_far f10_0 f10_1 f10_2 f10_3)) ∧ w' = ([x0, x1, x2, x3, x4, x5, x6, x7, x8, x9, ob 3 [.int f10_0, .int f10_1, .int f10_2, .int f10_3], x11, x12, x13, x14, x15, x16, x17, x18, x19, x20, x21, x22, x23, x24, x25, x26, x27, x28, x29, x30, x31, x32], wm)) := by
  refine ct_of ⟨by decide, rfl⟩ (Nat.le_of_ble_eq_true rfl) ?_
  refine ab_aload_n dX3_stretchedCosine_0 rfl ?_
  refine ab_getf dX3_stretchedCosine_1 fl_X3_9 rfl rfl ?_
  refine ab_aload_n dX3_stretchedCosine_4 rfl ?_
  refine ab_getf dX3_stretchedCosine_5 fl_X3_9 rfl rfl ?_
  refine ab_imul dX3_stretchedCosine_8 ?_
  refine ab_aload_n dX3_stretchedCosine_9 rfl ?_
  refine ab_getf dX3_stretchedCosine_10 fl_X3_15 rfl rfl ?_
  refine ab_aload_n dX3_stretchedCosine_13 rfl ?_
  refine ab_getf dX3_stretchedCosine_14 fl_X3_15 rfl rfl ?_
  refine ab_imul dX3_stretchedCosine_17 ?_
  refine ab_iadd dX3_stretchedCosine_18 ?_
  refine ab_aload_n dX3_stretchedCosine_19 rfl ?_
  refine ab_getf dX3_stretchedCosine_20 fl_X3_18 rfl rfl ?_
  refine ab_aload_n dX3_stretchedCosine_23 rfl ?_
  refine ab_getf dX3_stretchedCosine_24 fl_X3_21 rfl rfl ?_
  refine ab_iadd dX3_stretchedCosine_27 ?_
  refine ab_aload_n dX3_stretchedCosine_28 rfl ?_
  refine ab_getf dX3_stretchedCosine_29 fl_X3_18 rfl rfl ?_
  refine ab_aload_n dX3_stretchedCosine_32 rfl ?_
  refine ab_getf dX3_stretchedCosine_33 fl_X3_21 rfl rfl ?_
  refine ab_iadd dX3_stretchedCosine_36 ?_
  refine ab_imul dX3_stretchedCosine_37 ?_
  refine ab_isub dX3_stretchedCosine_38 ?_
  exact ab_iret dX3_stretchedCosine_39 rfl (by decide) (⟨rfl, rfl⟩)
def Lk_near (f10_0 : Int32) (f10_1 : Int32) (f10_2 : Int32) (f10_3 : Int32) : Int32 := (((f10_0 * f10_0) + (f10_1 * f10_1)) - ((f10_2 - f10_3) * (f10_2 - f10_3)))
theorem c_X3_foldedCosine {x0 x1 x2 x3 x4 x5 x6 x7 x8 x9 x11 x12 x13 x14 x15 x16 x17 x18 x19 x20 x21 x22 x23 x24 x25 x26 x27 x28 x29 x30 x31 x32 : ax_E} {f10_0 f10_1 f10_2 f10_3 : Int32} {wm : List ax_E}  : Ct M_X3_foldedCosine [.ref 10] ([x0, x1, x2, x3, x4, x5, x6, x7, x8, x9, ob 3 [.int f10_0, .int f10_1, .int f10_2, .int f10_3], x11, x12, x13, x14, x15, x16, x17, x18, x19, x20, x21, x22, x23, x24, x25, x26, x27, x28, x29, x30, x31, x32], wm) (fun r w' => r = some (.int (Lk_near f10_0 f10_1 f10_2 f10_3)) ∧ w' = ([x0, x1, x2, x3, x4, x5, x6, x7, x8, x9, ob 3 [.int f10_0, .int f10_1, .int f10_2, .int f10_3], x11, x12, x13, x14, x15, x16, x17, x18, x19, x20, x21, x22, x23, x24, x25, x26, x27, x28, x29, x30, x31, x32], wm)) := by
  refine ct_of ⟨by decide, rfl⟩ (Nat.le_of_ble_eq_true rfl) ?_
  refine ab_aload_n dX3_foldedCosine_0 rfl ?_
  refine ab_getf dX3_foldedCosine_1 fl_X3_9 rfl rfl ?_
  refine ab_aload_n dX3_foldedCosine_4 rfl ?_
  refine ab_getf dX3_foldedCosine_5 fl_X3_9 rfl rfl ?_
  refine ab_imul dX3_foldedCosine_8 ?_
  refine ab_aload_n dX3_foldedCosine_9 rfl ?_
  refine ab_getf dX3_foldedCosine_10 fl_X3_15 rfl rfl ?_
  refine ab_aload_n dX3_foldedCosine_13 rfl ?_
  refine ab_getf dX3_foldedCosine_14 fl_X3_15 rfl rfl ?_
  refine ab_imul dX3_foldedCosine_17 ?_
  refine ab_iadd dX3_foldedCosine_18 ?_
  refine ab_aload_n dX3_foldedCosine_19 rfl ?_
  refine ab_getf dX3_foldedCosine_20 fl_X3_18 rfl rfl ?_
  refine ab_aload_n dX3_foldedCosine_23 rfl ?_
  refine ab_getf dX3_foldedCosine_24 fl_X3_21 rfl rfl ?_
  refine ab_isub dX3_foldedCosine_27 ?_
  refine ab_aload_n dX3_foldedCosine_28 rfl ?_
  refine ab_getf dX3_foldedCosine_29 fl_X3_18 rfl rfl ?_
  refine ab_aload_n dX3_foldedCosine_32 rfl ?_
  refine ab_getf dX3_foldedCosine_33 fl_X3_21 rfl rfl ?_
  refine ab_isub dX3_foldedCosine_36 ?_
  refine ab_imul dX3_foldedCosine_37 ?_
  refine ab_isub dX3_foldedCosine_38 ?_
  exact ab_iret dX3_foldedCosine_39 rfl (by decide) (⟨rfl, rfl⟩)
def Lk_least (f10_0 : Int32) (f10_1 : Int32) (f10_2 : Int32) (f10_3 : Int32) : Int32 := (if (-(Lk_unit f10_0 f10_1)) < (Lk_far f10_0 f10_1 f10_2 f10_3) then (Lk_far f10_0 f10_1 f10_2 f10_3) else (-(Lk_unit f10_0 f10_1)))
theorem c_X3_leastCosine {x0 x1 x2 x3 x4 x5 x6 x7 x8 x9 x11 x12 x13 x14 x15 x16 x17 x18 x19 x20 x21 x22 x23 x24 x25 x26 x27 x28 x29 x30 x31 x32 : ax_E} {f10_0 f10_1 f10_2 f10_3 : Int32} {wm : List ax_E}  : Ct M_X3_leastCosine [.ref 10] ([x0, x1, x2, x3, x4, x5, x6, x7, x8, x9, ob 3 [.int f10_0, .int f10_1, .int f10_2, .int f10_3], x11, x12, x13, x14, x15, x16, x17, x18, x19, x20, x21, x22, x23, x24, x25, x26, x27, x28, x29, x30, x31, x32], wm) (fun r w' => r = some (.int (Lk_least f10_0 f10_1 f10_2 f10_3)) ∧ w' = ([x0, x1, x2, x3, x4, x5, x6, x7, x8, x9, ob 3 [.int f10_0, .int f10_1, .int f10_2, .int f10_3], x11, x12, x13, x14, x15, x16, x17, x18, x19, x20, x21, x22, x23, x24, x25, x26, x27, x28, x29, x30, x31, x32], wm)) := by
  refine ct_of ⟨by decide, rfl⟩ (Nat.le_of_ble_eq_true rfl) ?_
  refine ab_aload_n dX3_leastCosine_0 rfl ?_
  refine ab_callV (As := []) (rest := []) dX3_leastCosine_1 mv_X3_cosineUnit ml_X3_64 ⟨by decide, by decide, rfl, rfl, rfl⟩ (by decide) rfl rfl (Nat.le_of_ble_eq_true rfl) rfl c_X3_cosineUnit ?_
  rintro r w' ⟨rfl, rfl⟩
  refine ab_ineg dX3_leastCosine_4 ?_
  refine ab_aload_n dX3_leastCosine_5 rfl ?_
  refine ab_callV (As := []) (rest := [.int (-(Lk_unit f10_0 f10_1))]) dX3_leastCosine_6 mv_X3_stretchedCosine ml_X3_67 ⟨by decide, by decide, rfl, rfl, rfl⟩ (by decide) rfl rfl (Nat.le_of_ble_eq_true rfl) rfl c_X3_stretchedCosine ?_
  rintro r w' ⟨rfl, rfl⟩
  refine ab_mmax dX3_leastCosine_9 ml_X3_30 ⟨by decide, Nat.le_of_ble_eq_true rfl⟩ (by decide) ?_
  exact ab_iret dX3_leastCosine_12 rfl (by decide) (⟨rfl, rfl⟩)
def Lk_most (f10_0 : Int32) (f10_1 : Int32) (f10_2 : Int32) (f10_3 : Int32) : Int32 := (if (Lk_near f10_0 f10_1 f10_2 f10_3) < (Lk_unit f10_0 f10_1) then (Lk_near f10_0 f10_1 f10_2 f10_3) else (Lk_unit f10_0 f10_1))
theorem c_X3_greatestCosine {x0 x1 x2 x3 x4 x5 x6 x7 x8 x9 x11 x12 x13 x14 x15 x16 x17 x18 x19 x20 x21 x22 x23 x24 x25 x26 x27 x28 x29 x30 x31 x32 : ax_E} {f10_0 f10_1 f10_2 f10_3 : Int32} {wm : List ax_E}  : Ct M_X3_greatestCosine [.ref 10] ([x0, x1, x2, x3, x4, x5, x6, x7, x8, x9, ob 3 [.int f10_0, .int f10_1, .int f10_2, .int f10_3], x11, x12, x13, x14, x15, x16, x17, x18, x19, x20, x21, x22, x23, x24, x25, x26, x27, x28, x29, x30, x31, x32], wm) (fun r w' => r = some (.int (Lk_most f10_0 f10_1 f10_2 f10_3)) ∧ w' = ([x0, x1, x2, x3, x4, x5, x6, x7, x8, x9, ob 3 [.int f10_0, .int f10_1, .int f10_2, .int f10_3], x11, x12, x13, x14, x15, x16, x17, x18, x19, x20, x21, x22, x23, x24, x25, x26, x27, x28, x29, x30, x31, x32], wm)) := by
  refine ct_of ⟨by decide, rfl⟩ (Nat.le_of_ble_eq_true rfl) ?_
  refine ab_aload_n dX3_greatestCosine_0 rfl ?_
  refine ab_callV (As := []) (rest := []) dX3_greatestCosine_1 mv_X3_cosineUnit ml_X3_64 ⟨by decide, by decide, rfl, rfl, rfl⟩ (by decide) rfl rfl (Nat.le_of_ble_eq_true rfl) rfl c_X3_cosineUnit ?_
  rintro r w' ⟨rfl, rfl⟩
  refine ab_aload_n dX3_greatestCosine_4 rfl ?_
  refine ab_callV (As := []) (rest := [.int (Lk_unit f10_0 f10_1)]) dX3_greatestCosine_5 mv_X3_foldedCosine ml_X3_70 ⟨by decide, by decide, rfl, rfl, rfl⟩ (by decide) rfl rfl (Nat.le_of_ble_eq_true rfl) rfl c_X3_foldedCosine ?_
  rintro r w' ⟨rfl, rfl⟩
  refine ab_mmin dX3_greatestCosine_8 ml_X3_36 ⟨by decide, Nat.le_of_ble_eq_true rfl⟩ (by decide) ?_
  exact ab_iret dX3_greatestCosine_11 rfl (by decide) (⟨rfl, rfl⟩)
def Lk_swd (f10_2 : Int32) (f10_3 : Int32) : Int32 := ((2 * f10_2) * f10_3)
theorem c_X3_swingLower {x0 x1 x2 x3 x4 x5 x6 x7 x8 x9 x11 x12 x13 x14 x15 x16 x17 x18 x19 x20 x21 x22 x23 x24 x25 x26 x27 x28 x29 x30 x31 x32 : ax_E} {f10_0 f10_1 f10_2 f10_3 : Int32} {wm : List ax_E}  : Ct M_X3_swingLower [.ref 10] ([x0, x1, x2, x3, x4, x5, x6, x7, x8, x9, ob 3 [.int f10_0, .int f10_1, .int f10_2, .int f10_3], x11, x12, x13, x14, x15, x16, x17, x18, x19, x20, x21, x22, x23, x24, x25, x26, x27, x28, x29, x30, x31, x32], wm) (fun r w' => r = some (.int (Lk_swd f10_2 f10_3)) ∧ w' = ([x0, x1, x2, x3, x4, x5, x6, x7, x8, x9, ob 3 [.int f10_0, .int f10_1, .int f10_2, .int f10_3], x11, x12, x13, x14, x15, x16, x17, x18, x19, x20, x21, x22, x23, x24, x25, x26, x27, x28, x29, x30, x31, x32], wm)) := by
  refine ct_of ⟨by decide, rfl⟩ (Nat.le_of_ble_eq_true rfl) ?_
  refine ab_iconst (v := 2) dX3_swingLower_0 (by decide) ?_
  refine ab_aload_n dX3_swingLower_1 rfl ?_
  refine ab_getf dX3_swingLower_2 fl_X3_18 rfl rfl ?_
  refine ab_imul dX3_swingLower_5 ?_
  refine ab_aload_n dX3_swingLower_6 rfl ?_
  refine ab_getf dX3_swingLower_7 fl_X3_21 rfl rfl ?_
  refine ab_imul dX3_swingLower_10 ?_
  exact ab_iret dX3_swingLower_11 rfl (by decide) (⟨rfl, rfl⟩)
def Lk_swu (f10_0 : Int32) (f10_1 : Int32) (f10_2 : Int32) (f10_3 : Int32) (a1 : Int32) : Int32 := (((((f10_2 * f10_2) + (f10_3 * f10_3)) - (f10_0 * f10_0)) - (f10_1 * f10_1)) + a1)
theorem c_X3_swingUpper {x0 x1 x2 x3 x4 x5 x6 x7 x8 x9 x11 x12 x13 x14 x15 x16 x17 x18 x19 x20 x21 x22 x23 x24 x25 x26 x27 x28 x29 x30 x31 x32 : ax_E} {f10_0 f10_1 f10_2 f10_3 a1 : Int32} {wm : List ax_E}  : Ct M_X3_swingUpper [.ref 10, .int a1] ([x0, x1, x2, x3, x4, x5, x6, x7, x8, x9, ob 3 [.int f10_0, .int f10_1, .int f10_2, .int f10_3], x11, x12, x13, x14, x15, x16, x17, x18, x19, x20, x21, x22, x23, x24, x25, x26, x27, x28, x29, x30, x31, x32], wm) (fun r w' => r = some (.int (Lk_swu f10_0 f10_1 f10_2 f10_3 a1)) ∧ w' = ([x0, x1, x2, x3, x4, x5, x6, x7, x8, x9, ob 3 [.int f10_0, .int f10_1, .int f10_2, .int f10_3], x11, x12, x13, x14, x15, x16, x17, x18, x19, x20, x21, x22, x23, x24, x25, x26, x27, x28, x29, x30, x31, x32], wm)) := by
  refine ct_of ⟨by decide, rfl⟩ (Nat.le_of_ble_eq_true rfl) ?_
  refine ab_aload_n dX3_swingUpper_0 rfl ?_
  refine ab_getf dX3_swingUpper_1 fl_X3_18 rfl rfl ?_
  refine ab_aload_n dX3_swingUpper_4 rfl ?_
  refine ab_getf dX3_swingUpper_5 fl_X3_18 rfl rfl ?_
  refine ab_imul dX3_swingUpper_8 ?_
  refine ab_aload_n dX3_swingUpper_9 rfl ?_
  refine ab_getf dX3_swingUpper_10 fl_X3_21 rfl rfl ?_
  refine ab_aload_n dX3_swingUpper_13 rfl ?_
  refine ab_getf dX3_swingUpper_14 fl_X3_21 rfl rfl ?_
  refine ab_imul dX3_swingUpper_17 ?_
  refine ab_iadd dX3_swingUpper_18 ?_
  refine ab_aload_n dX3_swingUpper_19 rfl ?_
  refine ab_getf dX3_swingUpper_20 fl_X3_9 rfl rfl ?_
  refine ab_aload_n dX3_swingUpper_23 rfl ?_
  refine ab_getf dX3_swingUpper_24 fl_X3_9 rfl rfl ?_
  refine ab_imul dX3_swingUpper_27 ?_
  refine ab_isub dX3_swingUpper_28 ?_
  refine ab_aload_n dX3_swingUpper_29 rfl ?_
  refine ab_getf dX3_swingUpper_30 fl_X3_15 rfl rfl ?_
  refine ab_aload_n dX3_swingUpper_33 rfl ?_
  refine ab_getf dX3_swingUpper_34 fl_X3_15 rfl rfl ?_
  refine ab_imul dX3_swingUpper_37 ?_
  refine ab_isub dX3_swingUpper_38 ?_
  refine ab_iload_n dX3_swingUpper_39 rfl ?_
  refine ab_iadd dX3_swingUpper_40 ?_
  exact ab_iret dX3_swingUpper_41 rfl (by decide) (⟨rfl, rfl⟩)
theorem c_X3_canBeBuilt {x0 x1 x2 x3 x4 x5 x6 x7 x8 x9 x11 x12 x13 x14 x15 x16 x17 x18 x19 x20 x21 x22 x23 x24 x25 x26 x27 x28 x29 x30 x31 x32 : ax_E} {f10_0 f10_1 f10_2 f10_3 : Int32} {wm : List ax_E}  : Ct M_X3_canBeBuilt [.ref 10] ([x0, x1, x2, x3, x4, x5, x6, x7, x8, x9, ob 3 [.int f10_0, .int f10_1, .int f10_2, .int f10_3], x11, x12, x13, x14, x15, x16, x17, x18, x19, x20, x21, x22, x23, x24, x25, x26, x27, x28, x29, x30, x31, x32], wm) (fun r w' => ((2 * Lk_max f10_0 f10_1 f10_2 f10_3 ≤ Lk_all f10_0 f10_1 f10_2 f10_3) ∧ r = some (.int 1) ∧ w' = ([x0, x1, x2, x3, x4, x5, x6, x7, x8, x9, ob 3 [.int f10_0, .int f10_1, .int f10_2, .int f10_3], x11, x12, x13, x14, x15, x16, x17, x18, x19, x20, x21, x22, x23, x24, x25, x26, x27, x28, x29, x30, x31, x32], wm)) ∨ ((¬ (2 * Lk_max f10_0 f10_1 f10_2 f10_3 ≤ Lk_all f10_0 f10_1 f10_2 f10_3)) ∧ r = some (.int 0) ∧ w' = ([x0, x1, x2, x3, x4, x5, x6, x7, x8, x9, ob 3 [.int f10_0, .int f10_1, .int f10_2, .int f10_3], x11, x12, x13, x14, x15, x16, x17, x18, x19, x20, x21, x22, x23, x24, x25, x26, x27, x28, x29, x30, x31, x32], wm))) := by
  refine ct_of ⟨by decide, rfl⟩ (Nat.le_of_ble_eq_true rfl) ?_
  refine ab_iconst (v := 2) dX3_canBeBuilt_0 (by decide) ?_
  refine ab_aload_n dX3_canBeBuilt_1 rfl ?_
  refine ab_callV (As := []) (rest := [.int 2]) dX3_canBeBuilt_2 mv_X3_greatest ml_X3_43 ⟨by decide, by decide, rfl, rfl, rfl⟩ (by decide) rfl rfl (Nat.le_of_ble_eq_true rfl) rfl c_X3_greatest ?_
  rintro r w' ⟨rfl, rfl⟩
  refine ab_imul dX3_canBeBuilt_5 ?_
  refine ab_aload_n dX3_canBeBuilt_6 rfl ?_
  refine ab_callV (As := []) (rest := [.int (2 * (Lk_max f10_0 f10_1 f10_2 f10_3))]) dX3_canBeBuilt_7 mv_X3_together ml_X3_39 ⟨by decide, by decide, rfl, rfl, rfl⟩ (by decide) rfl rfl (Nat.le_of_ble_eq_true rfl) rfl c_X3_together ?_
  rintro r w' ⟨rfl, rfl⟩
  refine ab_icmpgt 17 dX3_canBeBuilt_10 (by decide) (fun h_1 => ?_) (fun h_1 => ?_)
  · refine ab_iconst (v := 0) dX3_canBeBuilt_17 (by decide) ?_
    exact ab_zret dX3_canBeBuilt_18 rfl rfl (by decide) (Or.inr (⟨(by grind), rfl, rfl⟩))
  · refine ab_iconst (v := 1) dX3_canBeBuilt_13 (by decide) ?_
    refine ab_goto 18 dX3_canBeBuilt_14 (by decide) ?_
    exact ab_zret dX3_canBeBuilt_18 rfl rfl (by decide) (Or.inl (⟨(by grind), rfl, rfl⟩))
theorem c_X3_hasCosines {x0 x1 x2 x3 x4 x5 x6 x7 x8 x9 x11 x12 x13 x14 x15 x16 x17 x18 x19 x20 x21 x22 x23 x24 x25 x26 x27 x28 x29 x30 x31 x32 : ax_E} {f10_0 f10_1 f10_2 f10_3 : Int32} {wm : List ax_E}  : Ct M_X3_hasCosines [.ref 10] ([x0, x1, x2, x3, x4, x5, x6, x7, x8, x9, ob 3 [.int f10_0, .int f10_1, .int f10_2, .int f10_3], x11, x12, x13, x14, x15, x16, x17, x18, x19, x20, x21, x22, x23, x24, x25, x26, x27, x28, x29, x30, x31, x32], wm) (fun r w' => ((Lk_least f10_0 f10_1 f10_2 f10_3 ≤ Lk_most f10_0 f10_1 f10_2 f10_3) ∧ r = some (.int 1) ∧ w' = ([x0, x1, x2, x3, x4, x5, x6, x7, x8, x9, ob 3 [.int f10_0, .int f10_1, .int f10_2, .int f10_3], x11, x12, x13, x14, x15, x16, x17, x18, x19, x20, x21, x22, x23, x24, x25, x26, x27, x28, x29, x30, x31, x32], wm)) ∨ ((¬ (Lk_least f10_0 f10_1 f10_2 f10_3 ≤ Lk_most f10_0 f10_1 f10_2 f10_3)) ∧ r = some (.int 0) ∧ w' = ([x0, x1, x2, x3, x4, x5, x6, x7, x8, x9, ob 3 [.int f10_0, .int f10_1, .int f10_2, .int f10_3], x11, x12, x13, x14, x15, x16, x17, x18, x19, x20, x21, x22, x23, x24, x25, x26, x27, x28, x29, x30, x31, x32], wm))) := by
  refine ct_of ⟨by decide, rfl⟩ (Nat.le_of_ble_eq_true rfl) ?_
  refine ab_aload_n dX3_hasCosines_0 rfl ?_
  refine ab_callV (As := []) (rest := []) dX3_hasCosines_1 mv_X3_leastCosine ml_X3_73 ⟨by decide, by decide, rfl, rfl, rfl⟩ (by decide) rfl rfl (Nat.le_of_ble_eq_true rfl) rfl c_X3_leastCosine ?_
  rintro r w' ⟨rfl, rfl⟩
  refine ab_aload_n dX3_hasCosines_4 rfl ?_
  refine ab_callV (As := []) (rest := [.int (Lk_least f10_0 f10_1 f10_2 f10_3)]) dX3_hasCosines_5 mv_X3_greatestCosine ml_X3_76 ⟨by decide, by decide, rfl, rfl, rfl⟩ (by decide) rfl rfl (Nat.le_of_ble_eq_true rfl) rfl c_X3_greatestCosine ?_
  rintro r w' ⟨rfl, rfl⟩
  refine ab_icmpgt 15 dX3_hasCosines_8 (by decide) (fun h_1 => ?_) (fun h_1 => ?_)
  · refine ab_iconst (v := 0) dX3_hasCosines_15 (by decide) ?_
    exact ab_zret dX3_hasCosines_16 rfl rfl (by decide) (Or.inr (⟨(by grind), rfl, rfl⟩))
  · refine ab_iconst (v := 1) dX3_hasCosines_11 (by decide) ?_
    refine ab_goto 16 dX3_hasCosines_12 (by decide) ?_
    exact ab_zret dX3_hasCosines_16 rfl rfl (by decide) (Or.inl (⟨(by grind), rfl, rfl⟩))
theorem c_X3_isEnd {x0 x1 x2 x3 x4 x5 x6 x7 x8 x9 x11 x12 x13 x14 x15 x16 x17 x18 x19 x20 x21 x22 x23 x24 x25 x26 x27 x28 x29 x30 x31 x32 : ax_E} {f10_0 f10_1 f10_2 f10_3 a1 : Int32} {wm : List ax_E}  : Ct M_X3_isEnd [.ref 10, .int a1] ([x0, x1, x2, x3, x4, x5, x6, x7, x8, x9, ob 3 [.int f10_0, .int f10_1, .int f10_2, .int f10_3], x11, x12, x13, x14, x15, x16, x17, x18, x19, x20, x21, x22, x23, x24, x25, x26, x27, x28, x29, x30, x31, x32], wm) (fun r w' => ((-Lk_unit f10_0 f10_1 ≤ a1 ∧ a1 ≤ Lk_unit f10_0 f10_1) ∧ r = some (.int 1) ∧ w' = ([x0, x1, x2, x3, x4, x5, x6, x7, x8, x9, ob 3 [.int f10_0, .int f10_1, .int f10_2, .int f10_3], x11, x12, x13, x14, x15, x16, x17, x18, x19, x20, x21, x22, x23, x24, x25, x26, x27, x28, x29, x30, x31, x32], wm)) ∨ ((¬ (-Lk_unit f10_0 f10_1 ≤ a1 ∧ a1 ≤ Lk_unit f10_0 f10_1)) ∧ r = some (.int 0) ∧ w' = ([x0, x1, x2, x3, x4, x5, x6, x7, x8, x9, ob 3 [.int f10_0, .int f10_1, .int f10_2, .int f10_3], x11, x12, x13, x14, x15, x16, x17, x18, x19, x20, x21, x22, x23, x24, x25, x26, x27, x28, x29, x30, x31, x32], wm))) := by
  refine ct_of ⟨by decide, rfl⟩ (Nat.le_of_ble_eq_true rfl) ?_
  refine ab_iload_n dX3_isEnd_0 rfl ?_
  refine ab_aload_n dX3_isEnd_1 rfl ?_
  refine ab_callV (As := []) (rest := [.int a1]) dX3_isEnd_2 mv_X3_cosineUnit ml_X3_64 ⟨by decide, by decide, rfl, rfl, rfl⟩ (by decide) rfl rfl (Nat.le_of_ble_eq_true rfl) rfl c_X3_cosineUnit ?_
  rintro r w' ⟨rfl, rfl⟩
  refine ab_ineg dX3_isEnd_5 ?_
  refine ab_icmplt 21 dX3_isEnd_6 (by decide) (fun h_1 => ?_) (fun h_1 => ?_)
  · refine ab_iconst (v := 0) dX3_isEnd_21 (by decide) ?_
    exact ab_zret dX3_isEnd_22 rfl rfl (by decide) (Or.inr (⟨(by grind), rfl, rfl⟩))
  · refine ab_iload_n dX3_isEnd_9 rfl ?_
    refine ab_aload_n dX3_isEnd_10 rfl ?_
    refine ab_callV (As := []) (rest := [.int a1]) dX3_isEnd_11 mv_X3_cosineUnit ml_X3_64 ⟨by decide, by decide, rfl, rfl, rfl⟩ (by decide) rfl rfl (Nat.le_of_ble_eq_true rfl) rfl c_X3_cosineUnit ?_
    rintro r w' ⟨rfl, rfl⟩
    refine ab_icmpgt 21 dX3_isEnd_14 (by decide) (fun h_2 => ?_) (fun h_2 => ?_)
    · refine ab_iconst (v := 0) dX3_isEnd_21 (by decide) ?_
      exact ab_zret dX3_isEnd_22 rfl rfl (by decide) (Or.inr (⟨(by grind), rfl, rfl⟩))
    · refine ab_iconst (v := 1) dX3_isEnd_17 (by decide) ?_
      refine ab_goto 22 dX3_isEnd_18 (by decide) ?_
      exact ab_zret dX3_isEnd_22 rfl rfl (by decide) (Or.inl (⟨(by grind), rfl, rfl⟩))
theorem c_X3_turnsFully {w : ax_W} {a1 a2 a3 a4 : Int32}  : Ct M_X3_turnsFully [.int a1, .int a2, .int a3, .int a4] w (fun r w' => (((if 0 ≤ a3 - a4 then a3 - a4 else 0 - (a3 - a4)) ≤ (if 0 ≤ a1 - a2 then a1 - a2 else 0 - (a1 - a2)) ∧ a1 + a2 ≤ a3 + a4) ∧ r = some (.int 1) ∧ w' = w) ∨ ((¬ ((if 0 ≤ a3 - a4 then a3 - a4 else 0 - (a3 - a4)) ≤ (if 0 ≤ a1 - a2 then a1 - a2 else 0 - (a1 - a2)) ∧ a1 + a2 ≤ a3 + a4)) ∧ r = some (.int 0) ∧ w' = w)) := by
  refine ct_of ⟨by decide, rfl⟩ (Nat.le_of_ble_eq_true rfl) ?_
  refine ab_iload_n dX3_turnsFully_0 rfl ?_
  refine ab_iload_n dX3_turnsFully_1 rfl ?_
  refine ab_isub dX3_turnsFully_2 ?_
  refine ab_mabs dX3_turnsFully_3 ml_X3_60 ⟨by decide, Nat.le_of_ble_eq_true rfl⟩ (by decide) ?_
  refine ab_iload_n dX3_turnsFully_6 rfl ?_
  refine ab_iload_n dX3_turnsFully_7 rfl ?_
  refine ab_isub dX3_turnsFully_8 ?_
  refine ab_mabs dX3_turnsFully_9 ml_X3_60 ⟨by decide, Nat.le_of_ble_eq_true rfl⟩ (by decide) ?_
  refine ab_icmpgt 28 dX3_turnsFully_12 (by decide) (fun h_1 => ?_) (fun h_1 => ?_)
  · refine ab_iconst (v := 0) dX3_turnsFully_28 (by decide) ?_
    exact ab_zret dX3_turnsFully_29 rfl rfl (by decide) (Or.inr (⟨(by grind), rfl, rfl⟩))
  · refine ab_iload_n dX3_turnsFully_15 rfl ?_
    refine ab_iload_n dX3_turnsFully_16 rfl ?_
    refine ab_iadd dX3_turnsFully_17 ?_
    refine ab_iload_n dX3_turnsFully_18 rfl ?_
    refine ab_iload_n dX3_turnsFully_19 rfl ?_
    refine ab_iadd dX3_turnsFully_20 ?_
    refine ab_icmpgt 28 dX3_turnsFully_21 (by decide) (fun h_2 => ?_) (fun h_2 => ?_)
    · refine ab_iconst (v := 0) dX3_turnsFully_28 (by decide) ?_
      exact ab_zret dX3_turnsFully_29 rfl rfl (by decide) (Or.inr (⟨(by grind), rfl, rfl⟩))
    · refine ab_iconst (v := 1) dX3_turnsFully_24 (by decide) ?_
      refine ab_goto 29 dX3_turnsFully_25 (by decide) ?_
      exact ab_zret dX3_turnsFully_29 rfl rfl (by decide) (Or.inl (⟨(by grind), rfl, rfl⟩))
