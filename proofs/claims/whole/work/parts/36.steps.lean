theorem nI_abs {m : Nat} (h : m < 2 ^ 31) : (if 0 ≤ nI m then nI m else 0 - nI m) = nI m := if_pos (nI_pos' h)
theorem neg_lt {m : Nat} (h1 : 0 < m) (h : m < 2 ^ 31) : -nI m < 0 := by
  rw [Int32.lt_iff_toInt_lt, sb_negT h]
  have e : (0 : Int32).toInt = 0 := rfl
  rw [e]; omega
theorem nI_absn {m : Nat} (h1 : 0 < m) (h : m < 2 ^ 31) : (if 0 ≤ (-(nI m)) then (-(nI m)) else 0 - (-(nI m))) = nI m := by
  rw [if_neg (Int32.not_le.mpr (neg_lt h1 h))]
  grind
theorem neg_ge {m : Nat} (h : m ≤ 100) : (-100 : Int32) ≤ -nI m := by
  rw [Int32.le_iff_toInt_le, sb_negT (by omega)]
  have e : (-100 : Int32).toInt = -100 := rfl
  rw [e]; omega
theorem neg_le {m c : Nat} (h : m < 2 ^ 31) (hc : c < 2 ^ 31) : -nI m ≤ nI c := by
  rw [Int32.le_iff_toInt_le, sb_negT h, nI_toInt hc]; omega
theorem c_X10_steps_p {f0_0 f25_3 f25_4 f25_6 f25_7 : Int32} {x1 x2 x3 x4 x5 x6 x7 x8 x9 x10 x11 x12 x13 x14 x15 x16 x17 x18 x19 x20 x21 x22 x23 x24 x27 x28 x29 x30 x31 x32 : ax_E} {r26 : Nat → Int32} {wm : List ax_E} {m a : Nat} (h_m : m ≤ 100) (h_a : a < 40) : Ct M_X10_steps [.ref 0, .int (nI m)] ([ob 8 [.int f0_0, .ref 1, .ref 4, .ref 7, .ref 10, .ref 11, .ref 12, .ref 18, .ref 25, .ref 29], x1, x2, x3, x4, x5, x6, x7, x8, x9, x10, x11, x12, x13, x14, x15, x16, x17, x18, x19, x20, x21, x22, x23, x24, ob 7 [.ref 26, .ref 27, .ref 28, .int f25_3, .int f25_4, .int (nI a), .int f25_6, .int f25_7], ia 40 r26, x27, x28, x29, x30, x31, x32], wm) (fun r w' => ((¬ f25_4 = -1) ∧ r = some (.int (nI (0 + (goF (fun j => !decide (r26 j = 0)) nx m a).1))) ∧ w' = ([ob 8 [.int 0, .ref 1, .ref 4, .ref 7, .ref 10, .ref 11, .ref 12, .ref 18, .ref 25, .ref 29], x1, x2, x3, x4, x5, x6, x7, x8, x9, x10, x11, x12, x13, x14, x15, x16, x17, x18, x19, x20, x21, x22, x23, x24, ob 7 [.ref 26, .ref 27, .ref 28, .int f25_3, .int f25_4, .int (nI (goF (fun j => !decide (r26 j = 0)) nx m a).2), .int f25_6, .int (f25_7 + nI (goF (fun j => !decide (r26 j = 0)) nx m a).1)], ia 40 r26, x27, x28, x29, x30, x31, x32], wm)) ∨ ((¬ (¬ f25_4 = -1)) ∧ r = some (.int (-1)) ∧ w' = ([ob 8 [.int 5, .ref 1, .ref 4, .ref 7, .ref 10, .ref 11, .ref 12, .ref 18, .ref 25, .ref 29], x1, x2, x3, x4, x5, x6, x7, x8, x9, x10, x11, x12, x13, x14, x15, x16, x17, x18, x19, x20, x21, x22, x23, x24, ob 7 [.ref 26, .ref 27, .ref 28, .int f25_3, .int f25_4, .int (nI a), .int f25_6, .int f25_7], ia 40 r26, x27, x28, x29, x30, x31, x32], wm))) := by
  refine ct_of ⟨by decide, rfl⟩ (Nat.le_of_ble_eq_true rfl) ?_
  refine ab_aload_n dX10_steps_0 rfl ?_
  refine ab_aload_n dX10_steps_1 rfl ?_
  refine ab_getf dX10_steps_2 fl_X10_61 rfl rfl ?_
  refine ab_callV (As := []) (rest := [.ref 0]) dX10_steps_5 mv_X8_isOn ml_X10_348 ⟨by decide, by decide, rfl, rfl, rfl⟩ (by decide) rfl rfl (Nat.le_of_ble_eq_true rfl) rfl c_X8_isOn ?_
  rintro r w' (⟨c_1, rfl, rfl⟩ | ⟨c_2, rfl, rfl⟩)
  · refine ab_iconst (v := 5) dX10_steps_8 (by decide) ?_
    refine ab_callV (As := [.int 1, .int 5]) (rest := []) dX10_steps_9 mv_X10_refused ml_X10_84 ⟨by decide, by decide, rfl, rfl, rfl⟩ (by decide) rfl rfl (Nat.le_of_ble_eq_true rfl) rfl c_X10_refused_1 ?_
    rintro r w' ⟨rfl, rfl⟩
    refine ab_ifeq 17 dX10_steps_12 (by decide) (fun h_3 => ?_) (fun h_3 => absurd (by decide) h_3)
    refine ab_aload_n dX10_steps_17 rfl ?_
    refine ab_iload_n dX10_steps_18 rfl ?_
    refine ab_bipush (v := -100) dX10_steps_19 (by decide) ?_
    refine ab_icmplt 34 dX10_steps_21 (by decide) (fun h_4 => absurd h_4 (Int32.not_lt.mpr (Int32.le_trans (by decide) (nI_pos' (by omega))))) (fun h_4 => ?_)
    refine ab_iload_n dX10_steps_24 rfl ?_
    refine ab_bipush (v := 100) dX10_steps_25 (by decide) ?_
    refine ab_icmpgt 34 dX10_steps_27 (by decide) (fun h_5 => absurd h_5 (Int32.not_lt.mpr (nI_le (b := 100) (by omega) (by decide)))) (fun h_5 => ?_)
    refine ab_iconst (v := 1) dX10_steps_30 (by decide) ?_
    refine ab_goto 35 dX10_steps_31 (by decide) ?_
    refine ab_iconst (v := 2) dX10_steps_35 (by decide) ?_
    refine ab_callV (As := [.int 1, .int 2]) (rest := []) dX10_steps_36 mv_X10_refused ml_X10_84 ⟨by decide, by decide, rfl, rfl, rfl⟩ (by decide) rfl rfl (Nat.le_of_ble_eq_true rfl) rfl c_X10_refused_1 ?_
    rintro r w' ⟨rfl, rfl⟩
    refine ab_ifeq 44 dX10_steps_39 (by decide) (fun h_6 => ?_) (fun h_6 => absurd (by decide) h_6)
    refine ab_aload_n dX10_steps_44 rfl ?_
    refine ab_getf dX10_steps_45 fl_X10_61 rfl rfl ?_
    refine ab_iload_n dX10_steps_48 rfl ?_
    refine ab_mabs dX10_steps_49 ml_X10_353 ⟨by decide, Nat.le_of_ble_eq_true rfl⟩ (by decide) ?_
    refine ab_topi (v := (nI m)) (nI_abs (by omega)) ?_
    refine ab_iload_n dX10_steps_52 rfl ?_
    refine ab_ifge 60 dX10_steps_53 (by decide) (fun h_7 => ?_) (fun h_7 => absurd (nI_pos' (by omega)) h_7)
    refine ab_iconst (v := 0) dX10_steps_60 (by decide) ?_
    refine ab_callV (As := [.int (nI m), .int 0]) (rest := []) dX10_steps_61 mv_X8_go ml_X10_355 ⟨by decide, by decide, rfl, rfl, rfl⟩ (by decide) rfl rfl (Nat.le_of_ble_eq_true rfl) rfl (c_X8_go_0 (m := m) (a := a) (by omega) h_a) ?_
    rintro r w' ⟨rfl, rfl⟩
    exact ab_iret dX10_steps_64 rfl (by decide) (Or.inl ⟨c_1, rfl, rfl⟩)
  · refine ab_iconst (v := 5) dX10_steps_8 (by decide) ?_
    refine ab_callV (As := [.int 0, .int 5]) (rest := []) dX10_steps_9 mv_X10_refused ml_X10_84 ⟨by decide, by decide, rfl, rfl, rfl⟩ (by decide) rfl rfl (Nat.le_of_ble_eq_true rfl) rfl c_X10_refused_0 ?_
    rintro r w' ⟨rfl, rfl⟩
    refine ab_ifeq 17 dX10_steps_12 (by decide) (fun h_8 => absurd h_8 (by decide)) (fun h_8 => ?_)
    refine ab_iconst (v := -1) dX10_steps_15 (by decide) ?_
    exact ab_iret dX10_steps_16 rfl (by decide) (Or.inr (⟨c_2, rfl, rfl⟩))
theorem c_X10_steps_n {f0_0 f25_3 f25_4 f25_6 f25_7 : Int32} {x1 x2 x3 x4 x5 x6 x7 x8 x9 x10 x11 x12 x13 x14 x15 x16 x17 x18 x19 x20 x21 x22 x23 x24 x27 x28 x29 x30 x31 x32 : ax_E} {r26 : Nat → Int32} {wm : List ax_E} {m a : Nat} (h_m : m ≤ 100) (h_a : a < 40) (h_0 : 0 < m) : Ct M_X10_steps [.ref 0, .int (-(nI m))] ([ob 8 [.int f0_0, .ref 1, .ref 4, .ref 7, .ref 10, .ref 11, .ref 12, .ref 18, .ref 25, .ref 29], x1, x2, x3, x4, x5, x6, x7, x8, x9, x10, x11, x12, x13, x14, x15, x16, x17, x18, x19, x20, x21, x22, x23, x24, ob 7 [.ref 26, .ref 27, .ref 28, .int f25_3, .int f25_4, .int (nI a), .int f25_6, .int f25_7], ia 40 r26, x27, x28, x29, x30, x31, x32], wm) (fun r w' => ((¬ f25_4 = -1) ∧ r = some (.int (nI (0 + (goF (fun j => !decide (r26 j = 0)) pv m a).1))) ∧ w' = ([ob 8 [.int 0, .ref 1, .ref 4, .ref 7, .ref 10, .ref 11, .ref 12, .ref 18, .ref 25, .ref 29], x1, x2, x3, x4, x5, x6, x7, x8, x9, x10, x11, x12, x13, x14, x15, x16, x17, x18, x19, x20, x21, x22, x23, x24, ob 7 [.ref 26, .ref 27, .ref 28, .int f25_3, .int f25_4, .int (nI (goF (fun j => !decide (r26 j = 0)) pv m a).2), .int f25_6, .int (f25_7 + nI (goF (fun j => !decide (r26 j = 0)) pv m a).1)], ia 40 r26, x27, x28, x29, x30, x31, x32], wm)) ∨ ((¬ (¬ f25_4 = -1)) ∧ r = some (.int (-1)) ∧ w' = ([ob 8 [.int 5, .ref 1, .ref 4, .ref 7, .ref 10, .ref 11, .ref 12, .ref 18, .ref 25, .ref 29], x1, x2, x3, x4, x5, x6, x7, x8, x9, x10, x11, x12, x13, x14, x15, x16, x17, x18, x19, x20, x21, x22, x23, x24, ob 7 [.ref 26, .ref 27, .ref 28, .int f25_3, .int f25_4, .int (nI a), .int f25_6, .int f25_7], ia 40 r26, x27, x28, x29, x30, x31, x32], wm))) := by
  refine ct_of ⟨by decide, rfl⟩ (Nat.le_of_ble_eq_true rfl) ?_
  refine ab_aload_n dX10_steps_0 rfl ?_
  refine ab_aload_n dX10_steps_1 rfl ?_
  refine ab_getf dX10_steps_2 fl_X10_61 rfl rfl ?_
  refine ab_callV (As := []) (rest := [.ref 0]) dX10_steps_5 mv_X8_isOn ml_X10_348 ⟨by decide, by decide, rfl, rfl, rfl⟩ (by decide) rfl rfl (Nat.le_of_ble_eq_true rfl) rfl c_X8_isOn ?_
  rintro r w' (⟨c_1, rfl, rfl⟩ | ⟨c_2, rfl, rfl⟩)
  · refine ab_iconst (v := 5) dX10_steps_8 (by decide) ?_
    refine ab_callV (As := [.int 1, .int 5]) (rest := []) dX10_steps_9 mv_X10_refused ml_X10_84 ⟨by decide, by decide, rfl, rfl, rfl⟩ (by decide) rfl rfl (Nat.le_of_ble_eq_true rfl) rfl c_X10_refused_1 ?_
    rintro r w' ⟨rfl, rfl⟩
    refine ab_ifeq 17 dX10_steps_12 (by decide) (fun h_3 => ?_) (fun h_3 => absurd (by decide) h_3)
    refine ab_aload_n dX10_steps_17 rfl ?_
    refine ab_iload_n dX10_steps_18 rfl ?_
    refine ab_bipush (v := -100) dX10_steps_19 (by decide) ?_
    refine ab_icmplt 34 dX10_steps_21 (by decide) (fun h_4 => absurd h_4 (Int32.not_lt.mpr (neg_ge h_m))) (fun h_4 => ?_)
    refine ab_iload_n dX10_steps_24 rfl ?_
    refine ab_bipush (v := 100) dX10_steps_25 (by decide) ?_
    refine ab_icmpgt 34 dX10_steps_27 (by decide) (fun h_5 => absurd h_5 (Int32.not_lt.mpr (neg_le (c := 100) (by omega) (by decide)))) (fun h_5 => ?_)
    refine ab_iconst (v := 1) dX10_steps_30 (by decide) ?_
    refine ab_goto 35 dX10_steps_31 (by decide) ?_
    refine ab_iconst (v := 2) dX10_steps_35 (by decide) ?_
    refine ab_callV (As := [.int 1, .int 2]) (rest := []) dX10_steps_36 mv_X10_refused ml_X10_84 ⟨by decide, by decide, rfl, rfl, rfl⟩ (by decide) rfl rfl (Nat.le_of_ble_eq_true rfl) rfl c_X10_refused_1 ?_
    rintro r w' ⟨rfl, rfl⟩
    refine ab_ifeq 44 dX10_steps_39 (by decide) (fun h_6 => ?_) (fun h_6 => absurd (by decide) h_6)
    refine ab_aload_n dX10_steps_44 rfl ?_
    refine ab_getf dX10_steps_45 fl_X10_61 rfl rfl ?_
    refine ab_iload_n dX10_steps_48 rfl ?_
    refine ab_mabs dX10_steps_49 ml_X10_353 ⟨by decide, Nat.le_of_ble_eq_true rfl⟩ (by decide) ?_
    refine ab_topi (v := (nI m)) (nI_absn h_0 (by omega)) ?_
    refine ab_iload_n dX10_steps_52 rfl ?_
    refine ab_ifge 60 dX10_steps_53 (by decide) (fun h_7 => absurd h_7 (Int32.not_le.mpr (neg_lt h_0 (by omega)))) (fun h_7 => ?_)
    refine ab_iconst (v := 1) dX10_steps_56 (by decide) ?_
    refine ab_goto 61 dX10_steps_57 (by decide) ?_
    refine ab_callV (As := [.int (nI m), .int 1]) (rest := []) dX10_steps_61 mv_X8_go ml_X10_355 ⟨by decide, by decide, rfl, rfl, rfl⟩ (by decide) rfl rfl (Nat.le_of_ble_eq_true rfl) rfl (c_X8_go_1 (m := m) (a := a) (by omega) h_a) ?_
    rintro r w' ⟨rfl, rfl⟩
    exact ab_iret dX10_steps_64 rfl (by decide) (Or.inl ⟨c_1, rfl, rfl⟩)
  · refine ab_iconst (v := 5) dX10_steps_8 (by decide) ?_
    refine ab_callV (As := [.int 0, .int 5]) (rest := []) dX10_steps_9 mv_X10_refused ml_X10_84 ⟨by decide, by decide, rfl, rfl, rfl⟩ (by decide) rfl rfl (Nat.le_of_ble_eq_true rfl) rfl c_X10_refused_0 ?_
    rintro r w' ⟨rfl, rfl⟩
    refine ab_ifeq 17 dX10_steps_12 (by decide) (fun h_8 => absurd h_8 (by decide)) (fun h_8 => ?_)
    refine ab_iconst (v := -1) dX10_steps_15 (by decide) ?_
    exact ab_iret dX10_steps_16 rfl (by decide) (Or.inr (⟨c_2, rfl, rfl⟩))
theorem c_X10_steps_o {f0_0 f25_3 f25_4 f25_6 f25_7 a1 : Int32} {x1 x2 x3 x4 x5 x6 x7 x8 x9 x10 x11 x12 x13 x14 x15 x16 x17 x18 x19 x20 x21 x22 x23 x24 x27 x28 x29 x30 x31 x32 : ax_E} {r26 : Nat → Int32} {wm : List ax_E} {a : Nat} (h_o : a1 < (-100) ∨ 100 < a1) : Ct M_X10_steps [.ref 0, .int a1] ([ob 8 [.int f0_0, .ref 1, .ref 4, .ref 7, .ref 10, .ref 11, .ref 12, .ref 18, .ref 25, .ref 29], x1, x2, x3, x4, x5, x6, x7, x8, x9, x10, x11, x12, x13, x14, x15, x16, x17, x18, x19, x20, x21, x22, x23, x24, ob 7 [.ref 26, .ref 27, .ref 28, .int f25_3, .int f25_4, .int (nI a), .int f25_6, .int f25_7], ia 40 r26, x27, x28, x29, x30, x31, x32], wm) (fun r w' => ((¬ f25_4 = -1) ∧ (a1 < (-100)) ∧ r = some (.int (-1)) ∧ w' = ([ob 8 [.int 2, .ref 1, .ref 4, .ref 7, .ref 10, .ref 11, .ref 12, .ref 18, .ref 25, .ref 29], x1, x2, x3, x4, x5, x6, x7, x8, x9, x10, x11, x12, x13, x14, x15, x16, x17, x18, x19, x20, x21, x22, x23, x24, ob 7 [.ref 26, .ref 27, .ref 28, .int f25_3, .int f25_4, .int (nI a), .int f25_6, .int f25_7], ia 40 r26, x27, x28, x29, x30, x31, x32], wm)) ∨ ((¬ f25_4 = -1) ∧ (¬ a1 < (-100)) ∧ r = some (.int (-1)) ∧ w' = ([ob 8 [.int 2, .ref 1, .ref 4, .ref 7, .ref 10, .ref 11, .ref 12, .ref 18, .ref 25, .ref 29], x1, x2, x3, x4, x5, x6, x7, x8, x9, x10, x11, x12, x13, x14, x15, x16, x17, x18, x19, x20, x21, x22, x23, x24, ob 7 [.ref 26, .ref 27, .ref 28, .int f25_3, .int f25_4, .int (nI a), .int f25_6, .int f25_7], ia 40 r26, x27, x28, x29, x30, x31, x32], wm)) ∨ ((¬ (¬ f25_4 = -1)) ∧ r = some (.int (-1)) ∧ w' = ([ob 8 [.int 5, .ref 1, .ref 4, .ref 7, .ref 10, .ref 11, .ref 12, .ref 18, .ref 25, .ref 29], x1, x2, x3, x4, x5, x6, x7, x8, x9, x10, x11, x12, x13, x14, x15, x16, x17, x18, x19, x20, x21, x22, x23, x24, ob 7 [.ref 26, .ref 27, .ref 28, .int f25_3, .int f25_4, .int (nI a), .int f25_6, .int f25_7], ia 40 r26, x27, x28, x29, x30, x31, x32], wm))) := by
  refine ct_of ⟨by decide, rfl⟩ (Nat.le_of_ble_eq_true rfl) ?_
  refine ab_aload_n dX10_steps_0 rfl ?_
  refine ab_aload_n dX10_steps_1 rfl ?_
  refine ab_getf dX10_steps_2 fl_X10_61 rfl rfl ?_
  refine ab_callV (As := []) (rest := [.ref 0]) dX10_steps_5 mv_X8_isOn ml_X10_348 ⟨by decide, by decide, rfl, rfl, rfl⟩ (by decide) rfl rfl (Nat.le_of_ble_eq_true rfl) rfl c_X8_isOn ?_
  rintro r w' (⟨c_1, rfl, rfl⟩ | ⟨c_2, rfl, rfl⟩)
  · refine ab_iconst (v := 5) dX10_steps_8 (by decide) ?_
    refine ab_callV (As := [.int 1, .int 5]) (rest := []) dX10_steps_9 mv_X10_refused ml_X10_84 ⟨by decide, by decide, rfl, rfl, rfl⟩ (by decide) rfl rfl (Nat.le_of_ble_eq_true rfl) rfl c_X10_refused_1 ?_
    rintro r w' ⟨rfl, rfl⟩
    refine ab_ifeq 17 dX10_steps_12 (by decide) (fun h_3 => ?_) (fun h_3 => absurd (by decide) h_3)
    refine ab_aload_n dX10_steps_17 rfl ?_
    refine ab_iload_n dX10_steps_18 rfl ?_
    refine ab_bipush (v := -100) dX10_steps_19 (by decide) ?_
    refine ab_icmplt 34 dX10_steps_21 (by decide) (fun h_4 => ?_) (fun h_4 => ?_)
    · refine ab_iconst (v := 0) dX10_steps_34 (by decide) ?_
      refine ab_iconst (v := 2) dX10_steps_35 (by decide) ?_
      refine ab_callV (As := [.int 0, .int 2]) (rest := []) dX10_steps_36 mv_X10_refused ml_X10_84 ⟨by decide, by decide, rfl, rfl, rfl⟩ (by decide) rfl rfl (Nat.le_of_ble_eq_true rfl) rfl c_X10_refused_0 ?_
      rintro r w' ⟨rfl, rfl⟩
      refine ab_ifeq 44 dX10_steps_39 (by decide) (fun h_5 => absurd h_5 (by decide)) (fun h_5 => ?_)
      refine ab_iconst (v := -1) dX10_steps_42 (by decide) ?_
      exact ab_iret dX10_steps_43 rfl (by decide) (Or.inl ⟨c_1, h_4, rfl, rfl⟩)
    · refine ab_iload_n dX10_steps_24 rfl ?_
      refine ab_bipush (v := 100) dX10_steps_25 (by decide) ?_
      refine ab_icmpgt 34 dX10_steps_27 (by decide) (fun h_6 => ?_) (fun h_6 => (h_o.elim (fun z => absurd z h_4) (fun z => absurd z h_6)))
      refine ab_iconst (v := 0) dX10_steps_34 (by decide) ?_
      refine ab_iconst (v := 2) dX10_steps_35 (by decide) ?_
      refine ab_callV (As := [.int 0, .int 2]) (rest := []) dX10_steps_36 mv_X10_refused ml_X10_84 ⟨by decide, by decide, rfl, rfl, rfl⟩ (by decide) rfl rfl (Nat.le_of_ble_eq_true rfl) rfl c_X10_refused_0 ?_
      rintro r w' ⟨rfl, rfl⟩
      refine ab_ifeq 44 dX10_steps_39 (by decide) (fun h_7 => absurd h_7 (by decide)) (fun h_7 => ?_)
      refine ab_iconst (v := -1) dX10_steps_42 (by decide) ?_
      exact ab_iret dX10_steps_43 rfl (by decide) (Or.inr (Or.inl ⟨c_1, h_4, rfl, rfl⟩))
  · refine ab_iconst (v := 5) dX10_steps_8 (by decide) ?_
    refine ab_callV (As := [.int 0, .int 5]) (rest := []) dX10_steps_9 mv_X10_refused ml_X10_84 ⟨by decide, by decide, rfl, rfl, rfl⟩ (by decide) rfl rfl (Nat.le_of_ble_eq_true rfl) rfl c_X10_refused_0 ?_
    rintro r w' ⟨rfl, rfl⟩
    refine ab_ifeq 17 dX10_steps_12 (by decide) (fun h_8 => absurd h_8 (by decide)) (fun h_8 => ?_)
    refine ab_iconst (v := -1) dX10_steps_15 (by decide) ?_
    exact ab_iret dX10_steps_16 rfl (by decide) (Or.inr (Or.inr (⟨c_2, rfl, rfl⟩)))
theorem c_X10_flip {f0_0 f25_3 f25_4 f25_6 f25_7 : Int32} {x1 x2 x3 x4 x5 x6 x7 x8 x9 x10 x11 x12 x13 x14 x15 x16 x17 x18 x19 x20 x21 x22 x23 x24 x27 x28 x29 x30 x31 x32 : ax_E} {r26 : Nat → Int32} {wm : List ax_E} {a : Nat} (h_a : a < 40) : Ct M_X10_flip [.ref 0] ([ob 8 [.int f0_0, .ref 1, .ref 4, .ref 7, .ref 10, .ref 11, .ref 12, .ref 18, .ref 25, .ref 29], x1, x2, x3, x4, x5, x6, x7, x8, x9, x10, x11, x12, x13, x14, x15, x16, x17, x18, x19, x20, x21, x22, x23, x24, ob 7 [.ref 26, .ref 27, .ref 28, .int f25_3, .int f25_4, .int (nI a), .int f25_6, .int f25_7], ia 40 r26, x27, x28, x29, x30, x31, x32], wm) (fun r w' => ((¬ f25_4 = -1) ∧ (r26 a = 2) ∧ r = some (.int (1 - f25_6)) ∧ w' = ([ob 8 [.int 0, .ref 1, .ref 4, .ref 7, .ref 10, .ref 11, .ref 12, .ref 18, .ref 25, .ref 29], x1, x2, x3, x4, x5, x6, x7, x8, x9, x10, x11, x12, x13, x14, x15, x16, x17, x18, x19, x20, x21, x22, x23, x24, ob 7 [.ref 26, .ref 27, .ref 28, .int f25_3, .int f25_4, .int (nI a), .int (1 - f25_6), .int (f25_7 + 1)], ia 40 r26, x27, x28, x29, x30, x31, x32], wm)) ∨ ((¬ f25_4 = -1) ∧ (¬ (r26 a = 2)) ∧ r = some (.int (-1)) ∧ w' = ([ob 8 [.int 5, .ref 1, .ref 4, .ref 7, .ref 10, .ref 11, .ref 12, .ref 18, .ref 25, .ref 29], x1, x2, x3, x4, x5, x6, x7, x8, x9, x10, x11, x12, x13, x14, x15, x16, x17, x18, x19, x20, x21, x22, x23, x24, ob 7 [.ref 26, .ref 27, .ref 28, .int f25_3, .int f25_4, .int (nI a), .int f25_6, .int f25_7], ia 40 r26, x27, x28, x29, x30, x31, x32], wm)) ∨ ((¬ (¬ f25_4 = -1)) ∧ r = some (.int (-1)) ∧ w' = ([ob 8 [.int 5, .ref 1, .ref 4, .ref 7, .ref 10, .ref 11, .ref 12, .ref 18, .ref 25, .ref 29], x1, x2, x3, x4, x5, x6, x7, x8, x9, x10, x11, x12, x13, x14, x15, x16, x17, x18, x19, x20, x21, x22, x23, x24, ob 7 [.ref 26, .ref 27, .ref 28, .int f25_3, .int f25_4, .int (nI a), .int f25_6, .int f25_7], ia 40 r26, x27, x28, x29, x30, x31, x32], wm))) := by
  refine ct_of ⟨by decide, rfl⟩ (Nat.le_of_ble_eq_true rfl) ?_
  refine ab_aload_n dX10_flip_0 rfl ?_
  refine ab_aload_n dX10_flip_1 rfl ?_
  refine ab_getf dX10_flip_2 fl_X10_61 rfl rfl ?_
  refine ab_callV (As := []) (rest := [.ref 0]) dX10_flip_5 mv_X8_isOn ml_X10_348 ⟨by decide, by decide, rfl, rfl, rfl⟩ (by decide) rfl rfl (Nat.le_of_ble_eq_true rfl) rfl c_X8_isOn ?_
  rintro r w' (⟨c_1, rfl, rfl⟩ | ⟨c_2, rfl, rfl⟩)
  · refine ab_ifeq 25 dX10_flip_8 (by decide) (fun h_3 => absurd h_3 (by decide)) (fun h_3 => ?_)
    refine ab_aload_n dX10_flip_11 rfl ?_
    refine ab_getf dX10_flip_12 fl_X10_61 rfl rfl ?_
    refine ab_callV (As := []) (rest := [.ref 0]) dX10_flip_15 mv_X8_isAtDead ml_X10_359 ⟨by decide, by decide, rfl, rfl, rfl⟩ (by decide) rfl rfl (Nat.le_of_ble_eq_true rfl) rfl (c_X8_isAtDead (j := a) (ix_nI h_a (by decide))) ?_
    rintro r w' (⟨c_4, rfl, rfl⟩ | ⟨c_5, rfl, rfl⟩)
    · refine ab_ifeq 25 dX10_flip_18 (by decide) (fun h_6 => absurd h_6 (by decide)) (fun h_6 => ?_)
      refine ab_iconst (v := 1) dX10_flip_21 (by decide) ?_
      refine ab_goto 26 dX10_flip_22 (by decide) ?_
      refine ab_iconst (v := 5) dX10_flip_26 (by decide) ?_
      refine ab_callV (As := [.int 1, .int 5]) (rest := []) dX10_flip_27 mv_X10_refused ml_X10_84 ⟨by decide, by decide, rfl, rfl, rfl⟩ (by decide) rfl rfl (Nat.le_of_ble_eq_true rfl) rfl c_X10_refused_1 ?_
      rintro r w' ⟨rfl, rfl⟩
      refine ab_ifeq 35 dX10_flip_30 (by decide) (fun h_7 => ?_) (fun h_7 => absurd (by decide) h_7)
      refine ab_aload_n dX10_flip_35 rfl ?_
      refine ab_getf dX10_flip_36 fl_X10_61 rfl rfl ?_
      refine ab_callV (As := []) (rest := []) dX10_flip_39 mv_X8_change ml_X10_362 ⟨by decide, by decide, rfl, rfl, rfl⟩ (by decide) rfl rfl (Nat.le_of_ble_eq_true rfl) rfl c_X8_change ?_
      rintro r w' ⟨rfl, rfl⟩
      exact ab_iret dX10_flip_42 rfl (by decide) (Or.inl ⟨c_1, c_4, rfl, rfl⟩)
    · refine ab_ifeq 25 dX10_flip_18 (by decide) (fun h_8 => ?_) (fun h_8 => absurd (by decide) h_8)
      refine ab_iconst (v := 0) dX10_flip_25 (by decide) ?_
      refine ab_iconst (v := 5) dX10_flip_26 (by decide) ?_
      refine ab_callV (As := [.int 0, .int 5]) (rest := []) dX10_flip_27 mv_X10_refused ml_X10_84 ⟨by decide, by decide, rfl, rfl, rfl⟩ (by decide) rfl rfl (Nat.le_of_ble_eq_true rfl) rfl c_X10_refused_0 ?_
      rintro r w' ⟨rfl, rfl⟩
      refine ab_ifeq 35 dX10_flip_30 (by decide) (fun h_9 => absurd h_9 (by decide)) (fun h_9 => ?_)
      refine ab_iconst (v := -1) dX10_flip_33 (by decide) ?_
      exact ab_iret dX10_flip_34 rfl (by decide) (Or.inr (Or.inl ⟨c_1, c_5, rfl, rfl⟩))
  · refine ab_ifeq 25 dX10_flip_8 (by decide) (fun h_10 => ?_) (fun h_10 => absurd (by decide) h_10)
    refine ab_iconst (v := 0) dX10_flip_25 (by decide) ?_
    refine ab_iconst (v := 5) dX10_flip_26 (by decide) ?_
    refine ab_callV (As := [.int 0, .int 5]) (rest := []) dX10_flip_27 mv_X10_refused ml_X10_84 ⟨by decide, by decide, rfl, rfl, rfl⟩ (by decide) rfl rfl (Nat.le_of_ble_eq_true rfl) rfl c_X10_refused_0 ?_
    rintro r w' ⟨rfl, rfl⟩
    refine ab_ifeq 35 dX10_flip_30 (by decide) (fun h_11 => absurd h_11 (by decide)) (fun h_11 => ?_)
    refine ab_iconst (v := -1) dX10_flip_33 (by decide) ?_
    exact ab_iret dX10_flip_34 rfl (by decide) (Or.inr (Or.inr (⟨c_2, rfl, rfl⟩)))
theorem c_X11_isDead {wc : List ax_E} {m_thrown m_trouble m_fault m_where m_taped m_linkMany m_tracerMany m_pointMany m_pairMany m_readLinks m_readTracers m_readPoints m_readPairs m_textLong m_at m_spot m_token m_whole m_readFault m_readPlace m_value m_curveMany m_cornerMany m_straightAt m_walkLink m_walkAngle m_walkBranch m_walkMany m_lined m_actMany a1 : Int32} {m_n m_c m_d m_s m_e m_k m_x m_y m_g m_a m_fitUp m_fitDown m_worstUp m_worstDown : Int64} {z3 z5 z6 z7 z8 z9 z10 z11 z12 z13 z14 z15 z16 z17 z18 z19 z20 : ax_E} {q4 : Nat → Int32} (h_i : 0 ≤ m_walkLink ∧ m_walkLink < m_linkMany) (h_l : 0 ≤ m_linkMany ∧ m_linkMany ≤ nI 4) (h_k : 0 ≤ a1 ∧ a1 < 40) : Ct M_X11_isDead [.ref 1000, .int a1] (wc, [ob 9 [.int m_thrown, .int m_trouble, .int m_fault, .int m_where, .ref 1001, .ref 1002, .int 40, .ref 1003, .int m_taped, .int m_linkMany, .int m_tracerMany, .int m_pointMany, .int m_pairMany, .ref 1004, .ref 1005, .ref 1006, .ref 1007, .int m_readLinks, .int m_readTracers, .int m_readPoints, .int m_readPairs, .ref 1008, .ref 1009, .ref 1010, .ref 1011, .int m_textLong, .int m_at, .int m_spot, .int m_token, .int m_whole, .int m_readFault, .int m_readPlace, .int m_value, .long m_n, .long m_c, .long m_d, .long m_s, .long m_e, .long m_k, .long m_x, .long m_y, .long m_g, .long m_a, .ref 1012, .ref 1013, .ref 1014, .int m_curveMany, .ref 1015, .int m_cornerMany, .int m_straightAt, .ref 1016, .long m_fitUp, .long m_fitDown, .long m_worstUp, .long m_worstDown, .ref 1017, .int m_walkLink, .int m_walkAngle, .int m_walkBranch, .int m_walkMany, .ref 1018, .ref 1019, .int m_lined, .ref 1020, .int m_actMany], ia 64 (ax_tab 0), ia 64 (ax_tab 1), z3, ia 16 q4, z5, z6, z7, z8, z9, z10, z11, z12, z13, z14, z15, z16, z17, z18, z19, z20]) (fun r w' => ((0 < Ml_s q4 m_walkLink a1 ∧ 0 ≤ Ml_k q4 m_walkLink a1) ∧ (¬ (Ml_k q4 m_walkLink a1) = 0) ∧ r = some (.int 0) ∧ w' = (wc, [ob 9 [.int m_thrown, .int m_trouble, .int m_fault, .int m_where, .ref 1001, .ref 1002, .int 40, .ref 1003, .int m_taped, .int m_linkMany, .int m_tracerMany, .int m_pointMany, .int m_pairMany, .ref 1004, .ref 1005, .ref 1006, .ref 1007, .int m_readLinks, .int m_readTracers, .int m_readPoints, .int m_readPairs, .ref 1008, .ref 1009, .ref 1010, .ref 1011, .int m_textLong, .int m_at, .int m_spot, .int m_token, .int m_whole, .int m_readFault, .int m_readPlace, .int m_value, .long (Ml_n a1), .long (Ml_c a1), .long (Ml_d a1), .long (Ml_s q4 m_walkLink a1), .long (Ml_e q4 m_walkLink a1), .long (Ml_k q4 m_walkLink a1), .long (Ml_x q4 m_walkLink a1), .long (Ml_y q4 m_walkLink a1), .long (Int32.toInt64 (Bg q4 m_walkLink)), .long (Int32.toInt64 (Ba q4 m_walkLink)), .ref 1012, .ref 1013, .ref 1014, .int m_curveMany, .ref 1015, .int m_cornerMany, .int m_straightAt, .ref 1016, .long m_fitUp, .long m_fitDown, .long m_worstUp, .long m_worstDown, .ref 1017, .int m_walkLink, .int m_walkAngle, .int m_walkBranch, .int m_walkMany, .ref 1018, .ref 1019, .int m_lined, .ref 1020, .int m_actMany], ia 64 (ax_tab 0), ia 64 (ax_tab 1), z3, ia 16 q4, z5, z6, z7, z8, z9, z10, z11, z12, z13, z14, z15, z16, z17, z18, z19, z20])) ∨ ((0 < Ml_s q4 m_walkLink a1 ∧ 0 ≤ Ml_k q4 m_walkLink a1) ∧ ((Ml_k q4 m_walkLink a1) = 0) ∧ r = some (.int 1) ∧ w' = (wc, [ob 9 [.int m_thrown, .int m_trouble, .int m_fault, .int m_where, .ref 1001, .ref 1002, .int 40, .ref 1003, .int m_taped, .int m_linkMany, .int m_tracerMany, .int m_pointMany, .int m_pairMany, .ref 1004, .ref 1005, .ref 1006, .ref 1007, .int m_readLinks, .int m_readTracers, .int m_readPoints, .int m_readPairs, .ref 1008, .ref 1009, .ref 1010, .ref 1011, .int m_textLong, .int m_at, .int m_spot, .int m_token, .int m_whole, .int m_readFault, .int m_readPlace, .int m_value, .long (Ml_n a1), .long (Ml_c a1), .long (Ml_d a1), .long (Ml_s q4 m_walkLink a1), .long (Ml_e q4 m_walkLink a1), .long (Ml_k q4 m_walkLink a1), .long (Ml_x q4 m_walkLink a1), .long (Ml_y q4 m_walkLink a1), .long (Int32.toInt64 (Bg q4 m_walkLink)), .long (Int32.toInt64 (Ba q4 m_walkLink)), .ref 1012, .ref 1013, .ref 1014, .int m_curveMany, .ref 1015, .int m_cornerMany, .int m_straightAt, .ref 1016, .long m_fitUp, .long m_fitDown, .long m_worstUp, .long m_worstDown, .ref 1017, .int m_walkLink, .int m_walkAngle, .int m_walkBranch, .int m_walkMany, .ref 1018, .ref 1019, .int m_lined, .ref 1020, .int m_actMany], ia 64 (ax_tab 0), ia 64 (ax_tab 1), z3, ia 16 q4, z5, z6, z7, z8, z9, z10, z11, z12, z13, z14, z15, z16, z17, z18, z19, z20])) ∨ ((¬ (0 < Ml_s q4 m_walkLink a1 ∧ 0 ≤ Ml_k q4 m_walkLink a1)) ∧ r = some (.int 0) ∧ w' = (wc, [ob 9 [.int m_thrown, .int m_trouble, .int m_fault, .int m_where, .ref 1001, .ref 1002, .int 40, .ref 1003, .int m_taped, .int m_linkMany, .int m_tracerMany, .int m_pointMany, .int m_pairMany, .ref 1004, .ref 1005, .ref 1006, .ref 1007, .int m_readLinks, .int m_readTracers, .int m_readPoints, .int m_readPairs, .ref 1008, .ref 1009, .ref 1010, .ref 1011, .int m_textLong, .int m_at, .int m_spot, .int m_token, .int m_whole, .int m_readFault, .int m_readPlace, .int m_value, .long (Ml_n a1), .long (Ml_c a1), .long (Ml_d a1), .long (Ml_s q4 m_walkLink a1), .long (Ml_e q4 m_walkLink a1), .long (Ml_k q4 m_walkLink a1), .long (Ml_x q4 m_walkLink a1), .long (Ml_y q4 m_walkLink a1), .long (Int32.toInt64 (Bg q4 m_walkLink)), .long (Int32.toInt64 (Ba q4 m_walkLink)), .ref 1012, .ref 1013, .ref 1014, .int m_curveMany, .ref 1015, .int m_cornerMany, .int m_straightAt, .ref 1016, .long m_fitUp, .long m_fitDown, .long m_worstUp, .long m_worstDown, .ref 1017, .int m_walkLink, .int m_walkAngle, .int m_walkBranch, .int m_walkMany, .ref 1018, .ref 1019, .int m_lined, .ref 1020, .int m_actMany], ia 64 (ax_tab 0), ia 64 (ax_tab 1), z3, ia 16 q4, z5, z6, z7, z8, z9, z10, z11, z12, z13, z14, z15, z16, z17, z18, z19, z20]))) := by
  refine ct_of ⟨by decide, rfl⟩ (Nat.le_of_ble_eq_true rfl) ?_
  refine ab_aload_n dX11_isDead_0 rfl ?_
  refine ab_aload_n dX11_isDead_1 rfl ?_
  refine ab_getf dX11_isDead_2 fl_X11_85 rfl rfl ?_
  refine ab_iload_n dX11_isDead_5 rfl ?_
  refine ab_callV (As := [.int m_walkLink, .int a1]) (rest := []) dX11_isDead_6 mv_X11_isLawful ml_X11_318 ⟨by decide, by decide, rfl, rfl, rfl⟩ (by decide) rfl rfl (Nat.le_of_ble_eq_true rfl) rfl (c_X11_isLawful h_i h_l h_k) ?_
  rintro r w' (⟨c_1, rfl, rfl⟩ | ⟨c_2, rfl, rfl⟩)
  · refine ab_ifeq 25 dX11_isDead_9 (by decide) (fun h_3 => absurd h_3 (by decide)) (fun h_3 => ?_)
    refine ab_aload_n dX11_isDead_12 rfl ?_
    refine ab_getf dX11_isDead_13 fl_X11_321 rfl rfl ?_
    refine ab_lconst (v := 0) dX11_isDead_16 (by decide) ?_
    refine ab_lcmpne 25 dX11_isDead_17 dX11_isDead_18 (by decide) (fun h_4 => ?_) (fun h_4 => ?_)
    · refine ab_iconst (v := 0) dX11_isDead_25 (by decide) ?_
      exact ab_zret dX11_isDead_26 rfl rfl (by decide) (Or.inl ⟨c_1, h_4, rfl, rfl⟩)
    · refine ab_iconst (v := 1) dX11_isDead_21 (by decide) ?_
      refine ab_goto 26 dX11_isDead_22 (by decide) ?_
      exact ab_zret dX11_isDead_26 rfl rfl (by decide) (Or.inr (Or.inl ⟨c_1, h_4, rfl, rfl⟩))
  · refine ab_ifeq 25 dX11_isDead_9 (by decide) (fun h_5 => ?_) (fun h_5 => absurd (by decide) h_5)
    refine ab_iconst (v := 0) dX11_isDead_25 (by decide) ?_
    exact ab_zret dX11_isDead_26 rfl rfl (by decide) (Or.inr (Or.inr (⟨c_2, rfl, rfl⟩)))
theorem c_X11_flip {wc : List ax_E} {m_thrown m_trouble m_fault m_where m_taped m_linkMany m_tracerMany m_pointMany m_pairMany m_readLinks m_readTracers m_readPoints m_readPairs m_textLong m_at m_spot m_token m_whole m_readFault m_readPlace m_value m_curveMany m_cornerMany m_straightAt m_walkLink m_walkBranch m_walkMany m_lined m_actMany : Int32} {m_n m_c m_d m_s m_e m_k m_x m_y m_g m_a m_fitUp m_fitDown m_worstUp m_worstDown : Int64} {z3 z5 z6 z7 z8 z9 z10 z11 z12 z13 z14 z15 z16 z17 z18 z19 z20 : ax_E} {q4 : Nat → Int32} {a : Nat} (h_l : 0 ≤ m_linkMany ∧ m_linkMany ≤ nI 4) (h_w : ¬ m_walkLink = -1 → (0 ≤ m_walkLink ∧ m_walkLink < m_linkMany)) (h_a : a < 40) : Ct M_X11_flip [.ref 1000] (wc, [ob 9 [.int m_thrown, .int m_trouble, .int m_fault, .int m_where, .ref 1001, .ref 1002, .int 40, .ref 1003, .int m_taped, .int m_linkMany, .int m_tracerMany, .int m_pointMany, .int m_pairMany, .ref 1004, .ref 1005, .ref 1006, .ref 1007, .int m_readLinks, .int m_readTracers, .int m_readPoints, .int m_readPairs, .ref 1008, .ref 1009, .ref 1010, .ref 1011, .int m_textLong, .int m_at, .int m_spot, .int m_token, .int m_whole, .int m_readFault, .int m_readPlace, .int m_value, .long m_n, .long m_c, .long m_d, .long m_s, .long m_e, .long m_k, .long m_x, .long m_y, .long m_g, .long m_a, .ref 1012, .ref 1013, .ref 1014, .int m_curveMany, .ref 1015, .int m_cornerMany, .int m_straightAt, .ref 1016, .long m_fitUp, .long m_fitDown, .long m_worstUp, .long m_worstDown, .ref 1017, .int m_walkLink, .int (nI a), .int m_walkBranch, .int m_walkMany, .ref 1018, .ref 1019, .int m_lined, .ref 1020, .int m_actMany], ia 64 (ax_tab 0), ia 64 (ax_tab 1), z3, ia 16 q4, z5, z6, z7, z8, z9, z10, z11, z12, z13, z14, z15, z16, z17, z18, z19, z20]) (fun r w' => ((m_walkLink = (-1)) ∧ r = some (.int (-1)) ∧ w' = (wc, [ob 9 [.int 0, .int 5, .int m_fault, .int (-1), .ref 1001, .ref 1002, .int 40, .ref 1003, .int m_taped, .int m_linkMany, .int m_tracerMany, .int m_pointMany, .int m_pairMany, .ref 1004, .ref 1005, .ref 1006, .ref 1007, .int m_readLinks, .int m_readTracers, .int m_readPoints, .int m_readPairs, .ref 1008, .ref 1009, .ref 1010, .ref 1011, .int m_textLong, .int m_at, .int m_spot, .int m_token, .int m_whole, .int m_readFault, .int m_readPlace, .int m_value, .long m_n, .long m_c, .long m_d, .long m_s, .long m_e, .long m_k, .long m_x, .long m_y, .long m_g, .long m_a, .ref 1012, .ref 1013, .ref 1014, .int m_curveMany, .ref 1015, .int m_cornerMany, .int m_straightAt, .ref 1016, .long m_fitUp, .long m_fitDown, .long m_worstUp, .long m_worstDown, .ref 1017, .int m_walkLink, .int (nI a), .int m_walkBranch, .int m_walkMany, .ref 1018, .ref 1019, .int m_lined, .ref 1020, .int m_actMany], ia 64 (ax_tab 0), ia 64 (ax_tab 1), z3, ia 16 q4, z5, z6, z7, z8, z9, z10, z11, z12, z13, z14, z15, z16, z17, z18, z19, z20])) ∨ ((¬ m_walkLink = (-1)) ∧ (0 < Ml_s q4 m_walkLink (nI a) ∧ 0 ≤ Ml_k q4 m_walkLink (nI a)) ∧ (¬ (Ml_k q4 m_walkLink (nI a)) = 0) ∧ r = some (.int (-1)) ∧ w' = (wc, [ob 9 [.int 0, .int 5, .int m_fault, .int (-1), .ref 1001, .ref 1002, .int 40, .ref 1003, .int m_taped, .int m_linkMany, .int m_tracerMany, .int m_pointMany, .int m_pairMany, .ref 1004, .ref 1005, .ref 1006, .ref 1007, .int m_readLinks, .int m_readTracers, .int m_readPoints, .int m_readPairs, .ref 1008, .ref 1009, .ref 1010, .ref 1011, .int m_textLong, .int m_at, .int m_spot, .int m_token, .int m_whole, .int m_readFault, .int m_readPlace, .int m_value, .long (Ml_n (nI a)), .long (Ml_c (nI a)), .long (Ml_d (nI a)), .long (Ml_s q4 m_walkLink (nI a)), .long (Ml_e q4 m_walkLink (nI a)), .long (Ml_k q4 m_walkLink (nI a)), .long (Ml_x q4 m_walkLink (nI a)), .long (Ml_y q4 m_walkLink (nI a)), .long (Int32.toInt64 (Bg q4 m_walkLink)), .long (Int32.toInt64 (Ba q4 m_walkLink)), .ref 1012, .ref 1013, .ref 1014, .int m_curveMany, .ref 1015, .int m_cornerMany, .int m_straightAt, .ref 1016, .long m_fitUp, .long m_fitDown, .long m_worstUp, .long m_worstDown, .ref 1017, .int m_walkLink, .int (nI a), .int m_walkBranch, .int m_walkMany, .ref 1018, .ref 1019, .int m_lined, .ref 1020, .int m_actMany], ia 64 (ax_tab 0), ia 64 (ax_tab 1), z3, ia 16 q4, z5, z6, z7, z8, z9, z10, z11, z12, z13, z14, z15, z16, z17, z18, z19, z20])) ∨ ((¬ m_walkLink = (-1)) ∧ (0 < Ml_s q4 m_walkLink (nI a) ∧ 0 ≤ Ml_k q4 m_walkLink (nI a)) ∧ ((Ml_k q4 m_walkLink (nI a)) = 0) ∧ r = some (.int (1 - m_walkBranch)) ∧ w' = (wc, [ob 9 [.int 0, .int 0, .int m_fault, .int (-1), .ref 1001, .ref 1002, .int 40, .ref 1003, .int m_taped, .int m_linkMany, .int m_tracerMany, .int m_pointMany, .int m_pairMany, .ref 1004, .ref 1005, .ref 1006, .ref 1007, .int m_readLinks, .int m_readTracers, .int m_readPoints, .int m_readPairs, .ref 1008, .ref 1009, .ref 1010, .ref 1011, .int m_textLong, .int m_at, .int m_spot, .int m_token, .int m_whole, .int m_readFault, .int m_readPlace, .int m_value, .long (Ml_n (nI a)), .long (Ml_c (nI a)), .long (Ml_d (nI a)), .long (Ml_s q4 m_walkLink (nI a)), .long (Ml_e q4 m_walkLink (nI a)), .long (Ml_k q4 m_walkLink (nI a)), .long (Ml_x q4 m_walkLink (nI a)), .long (Ml_y q4 m_walkLink (nI a)), .long (Int32.toInt64 (Bg q4 m_walkLink)), .long (Int32.toInt64 (Ba q4 m_walkLink)), .ref 1012, .ref 1013, .ref 1014, .int m_curveMany, .ref 1015, .int m_cornerMany, .int m_straightAt, .ref 1016, .long m_fitUp, .long m_fitDown, .long m_worstUp, .long m_worstDown, .ref 1017, .int m_walkLink, .int (nI a), .int (1 - m_walkBranch), .int (m_walkMany + 1), .ref 1018, .ref 1019, .int m_lined, .ref 1020, .int m_actMany], ia 64 (ax_tab 0), ia 64 (ax_tab 1), z3, ia 16 q4, z5, z6, z7, z8, z9, z10, z11, z12, z13, z14, z15, z16, z17, z18, z19, z20])) ∨ ((¬ m_walkLink = (-1)) ∧ (¬ (0 < Ml_s q4 m_walkLink (nI a) ∧ 0 ≤ Ml_k q4 m_walkLink (nI a))) ∧ r = some (.int (-1)) ∧ w' = (wc, [ob 9 [.int 0, .int 5, .int m_fault, .int (-1), .ref 1001, .ref 1002, .int 40, .ref 1003, .int m_taped, .int m_linkMany, .int m_tracerMany, .int m_pointMany, .int m_pairMany, .ref 1004, .ref 1005, .ref 1006, .ref 1007, .int m_readLinks, .int m_readTracers, .int m_readPoints, .int m_readPairs, .ref 1008, .ref 1009, .ref 1010, .ref 1011, .int m_textLong, .int m_at, .int m_spot, .int m_token, .int m_whole, .int m_readFault, .int m_readPlace, .int m_value, .long (Ml_n (nI a)), .long (Ml_c (nI a)), .long (Ml_d (nI a)), .long (Ml_s q4 m_walkLink (nI a)), .long (Ml_e q4 m_walkLink (nI a)), .long (Ml_k q4 m_walkLink (nI a)), .long (Ml_x q4 m_walkLink (nI a)), .long (Ml_y q4 m_walkLink (nI a)), .long (Int32.toInt64 (Bg q4 m_walkLink)), .long (Int32.toInt64 (Ba q4 m_walkLink)), .ref 1012, .ref 1013, .ref 1014, .int m_curveMany, .ref 1015, .int m_cornerMany, .int m_straightAt, .ref 1016, .long m_fitUp, .long m_fitDown, .long m_worstUp, .long m_worstDown, .ref 1017, .int m_walkLink, .int (nI a), .int m_walkBranch, .int m_walkMany, .ref 1018, .ref 1019, .int m_lined, .ref 1020, .int m_actMany], ia 64 (ax_tab 0), ia 64 (ax_tab 1), z3, ia 16 q4, z5, z6, z7, z8, z9, z10, z11, z12, z13, z14, z15, z16, z17, z18, z19, z20]))) := by
  refine ct_of ⟨by decide, rfl⟩ (Nat.le_of_ble_eq_true rfl) ?_
  refine ab_aload_n dX11_flip_0 rfl ?_
  refine ab_callV (As := []) (rest := []) dX11_flip_1 mv_X11_anew ml_X11_104 ⟨by decide, by decide, rfl, rfl, rfl⟩ (by decide) rfl rfl (Nat.le_of_ble_eq_true rfl) rfl c_X11_anew ?_
  rintro r w' ⟨rfl, rfl⟩
  refine ab_aload_n dX11_flip_4 rfl ?_
  refine ab_getf dX11_flip_5 fl_X11_85 rfl rfl ?_
  refine ab_iconst (v := -1) dX11_flip_8 (by decide) ?_
  refine ab_icmpeq 23 dX11_flip_9 (by decide) (fun h_1 => ?_) (fun h_1 => ?_)
  · refine ab_aload_n dX11_flip_23 rfl ?_
    refine ab_iconst (v := 5) dX11_flip_24 (by decide) ?_
    refine ab_callV (As := [.int 5]) (rest := []) dX11_flip_25 mv_X11_no ml_X11_115 ⟨by decide, by decide, rfl, rfl, rfl⟩ (by decide) rfl rfl (Nat.le_of_ble_eq_true rfl) rfl c_X11_no ?_
    rintro r w' ⟨rfl, rfl⟩
    exact ab_iret dX11_flip_28 rfl (by decide) (Or.inl ⟨h_1, rfl, rfl⟩)
  · refine ab_aload_n dX11_flip_12 rfl ?_
    refine ab_aload_n dX11_flip_13 rfl ?_
    refine ab_getf dX11_flip_14 fl_X11_532 rfl rfl ?_
    refine ab_callV (As := [.int (nI a)]) (rest := []) dX11_flip_17 mv_X11_isDead ml_X11_541 ⟨by decide, by decide, rfl, rfl, rfl⟩ (by decide) rfl rfl (Nat.le_of_ble_eq_true rfl) rfl (c_X11_isDead (h_w h_1) h_l (⟨nI_pos' (by omega), nI_lt (b := 40) h_a (by decide)⟩)) ?_
    rintro r w' (⟨c_2, c_3, rfl, rfl⟩ | ⟨c_4, c_5, rfl, rfl⟩ | ⟨c_6, rfl, rfl⟩)
    · refine ab_ifne 29 dX11_flip_20 (by decide) (fun h_7 => absurd (by decide) h_7) (fun h_7 => ?_)
      refine ab_aload_n dX11_flip_23 rfl ?_
      refine ab_iconst (v := 5) dX11_flip_24 (by decide) ?_
      refine ab_callV (As := [.int 5]) (rest := []) dX11_flip_25 mv_X11_no ml_X11_115 ⟨by decide, by decide, rfl, rfl, rfl⟩ (by decide) rfl rfl (Nat.le_of_ble_eq_true rfl) rfl c_X11_no ?_
      rintro r w' ⟨rfl, rfl⟩
      exact ab_iret dX11_flip_28 rfl (by decide) (Or.inr (Or.inl ⟨h_1, c_2, c_3, rfl, rfl⟩))
    · refine ab_ifne 29 dX11_flip_20 (by decide) (fun h_8 => ?_) (fun h_8 => absurd h_8 (by decide))
      refine ab_aload_n dX11_flip_29 rfl ?_
      refine ab_iconst (v := 1) dX11_flip_30 (by decide) ?_
      refine ab_aload_n dX11_flip_31 rfl ?_
      refine ab_getf dX11_flip_32 fl_X11_535 rfl rfl ?_
      refine ab_isub dX11_flip_35 ?_
      refine ab_putf (w1 := (wc, [ob 9 [.int 0, .int 0, .int m_fault, .int (-1), .ref 1001, .ref 1002, .int 40, .ref 1003, .int m_taped, .int m_linkMany, .int m_tracerMany, .int m_pointMany, .int m_pairMany, .ref 1004, .ref 1005, .ref 1006, .ref 1007, .int m_readLinks, .int m_readTracers, .int m_readPoints, .int m_readPairs, .ref 1008, .ref 1009, .ref 1010, .ref 1011, .int m_textLong, .int m_at, .int m_spot, .int m_token, .int m_whole, .int m_readFault, .int m_readPlace, .int m_value, .long (Ml_n (nI a)), .long (Ml_c (nI a)), .long (Ml_d (nI a)), .long (Ml_s q4 m_walkLink (nI a)), .long (Ml_e q4 m_walkLink (nI a)), .long (Ml_k q4 m_walkLink (nI a)), .long (Ml_x q4 m_walkLink (nI a)), .long (Ml_y q4 m_walkLink (nI a)), .long (Int32.toInt64 (Bg q4 m_walkLink)), .long (Int32.toInt64 (Ba q4 m_walkLink)), .ref 1012, .ref 1013, .ref 1014, .int m_curveMany, .ref 1015, .int m_cornerMany, .int m_straightAt, .ref 1016, .long m_fitUp, .long m_fitDown, .long m_worstUp, .long m_worstDown, .ref 1017, .int m_walkLink, .int (nI a), .int (1 - m_walkBranch), .int m_walkMany, .ref 1018, .ref 1019, .int m_lined, .ref 1020, .int m_actMany], ia 64 (ax_tab 0), ia 64 (ax_tab 1), z3, ia 16 q4, z5, z6, z7, z8, z9, z10, z11, z12, z13, z14, z15, z16, z17, z18, z19, z20])) dX11_flip_36 fl_X11_535 rfl (Nat.le_of_ble_eq_true rfl) (fun _ => ⟨rfl, rfl⟩) rfl ?_
      refine ab_aload_n dX11_flip_39 rfl ?_
      refine ab_dup rfl dX11_flip_40 ?_
      refine ab_getf dX11_flip_41 fl_X11_538 rfl rfl ?_
      refine ab_iconst (v := 1) dX11_flip_44 (by decide) ?_
      refine ab_iadd dX11_flip_45 ?_
      refine ab_putf (w1 := (wc, [ob 9 [.int 0, .int 0, .int m_fault, .int (-1), .ref 1001, .ref 1002, .int 40, .ref 1003, .int m_taped, .int m_linkMany, .int m_tracerMany, .int m_pointMany, .int m_pairMany, .ref 1004, .ref 1005, .ref 1006, .ref 1007, .int m_readLinks, .int m_readTracers, .int m_readPoints, .int m_readPairs, .ref 1008, .ref 1009, .ref 1010, .ref 1011, .int m_textLong, .int m_at, .int m_spot, .int m_token, .int m_whole, .int m_readFault, .int m_readPlace, .int m_value, .long (Ml_n (nI a)), .long (Ml_c (nI a)), .long (Ml_d (nI a)), .long (Ml_s q4 m_walkLink (nI a)), .long (Ml_e q4 m_walkLink (nI a)), .long (Ml_k q4 m_walkLink (nI a)), .long (Ml_x q4 m_walkLink (nI a)), .long (Ml_y q4 m_walkLink (nI a)), .long (Int32.toInt64 (Bg q4 m_walkLink)), .long (Int32.toInt64 (Ba q4 m_walkLink)), .ref 1012, .ref 1013, .ref 1014, .int m_curveMany, .ref 1015, .int m_cornerMany, .int m_straightAt, .ref 1016, .long m_fitUp, .long m_fitDown, .long m_worstUp, .long m_worstDown, .ref 1017, .int m_walkLink, .int (nI a), .int (1 - m_walkBranch), .int (m_walkMany + 1), .ref 1018, .ref 1019, .int m_lined, .ref 1020, .int m_actMany], ia 64 (ax_tab 0), ia 64 (ax_tab 1), z3, ia 16 q4, z5, z6, z7, z8, z9, z10, z11, z12, z13, z14, z15, z16, z17, z18, z19, z20])) dX11_flip_46 fl_X11_538 rfl (Nat.le_of_ble_eq_true rfl) (fun _ => ⟨rfl, rfl⟩) rfl ?_
      refine ab_aload_n dX11_flip_49 rfl ?_
      refine ab_getf dX11_flip_50 fl_X11_535 rfl rfl ?_
      exact ab_iret dX11_flip_53 rfl (by decide) (Or.inr (Or.inr (Or.inl ⟨h_1, c_4, c_5, rfl, rfl⟩)))
    · refine ab_ifne 29 dX11_flip_20 (by decide) (fun h_9 => absurd (by decide) h_9) (fun h_9 => ?_)
      refine ab_aload_n dX11_flip_23 rfl ?_
      refine ab_iconst (v := 5) dX11_flip_24 (by decide) ?_
      refine ab_callV (As := [.int 5]) (rest := []) dX11_flip_25 mv_X11_no ml_X11_115 ⟨by decide, by decide, rfl, rfl, rfl⟩ (by decide) rfl rfl (Nat.le_of_ble_eq_true rfl) rfl c_X11_no ?_
      rintro r w' ⟨rfl, rfl⟩
      exact ab_iret dX11_flip_28 rfl (by decide) (Or.inr (Or.inr (Or.inr (⟨h_1, c_6, rfl, rfl⟩))))
theorem c_X11_begin {wc : List ax_E} {m_thrown m_trouble m_fault m_where m_taped m_linkMany m_tracerMany m_pointMany m_pairMany m_readLinks m_readTracers m_readPoints m_readPairs m_textLong m_at m_spot m_token m_whole m_readFault m_readPlace m_value m_curveMany m_cornerMany m_straightAt m_walkLink m_walkAngle m_walkBranch m_walkMany m_lined m_actMany a1 a2 a3 : Int32} {m_n m_c m_d m_s m_e m_k m_x m_y m_g m_a m_fitUp m_fitDown m_worstUp m_worstDown : Int64} {z3 z5 z6 z7 z8 z9 z10 z11 z12 z13 z14 z15 z16 z17 z18 z19 z20 : ax_E} {q4 : Nat → Int32} (h_l : 0 ≤ m_linkMany ∧ m_linkMany ≤ nI 4) : Ct M_X11_begin [.ref 1000, .int a1, .int a2, .int a3] (wc, [ob 9 [.int m_thrown, .int m_trouble, .int m_fault, .int m_where, .ref 1001, .ref 1002, .int 40, .ref 1003, .int m_taped, .int m_linkMany, .int m_tracerMany, .int m_pointMany, .int m_pairMany, .ref 1004, .ref 1005, .ref 1006, .ref 1007, .int m_readLinks, .int m_readTracers, .int m_readPoints, .int m_readPairs, .ref 1008, .ref 1009, .ref 1010, .ref 1011, .int m_textLong, .int m_at, .int m_spot, .int m_token, .int m_whole, .int m_readFault, .int m_readPlace, .int m_value, .long m_n, .long m_c, .long m_d, .long m_s, .long m_e, .long m_k, .long m_x, .long m_y, .long m_g, .long m_a, .ref 1012, .ref 1013, .ref 1014, .int m_curveMany, .ref 1015, .int m_cornerMany, .int m_straightAt, .ref 1016, .long m_fitUp, .long m_fitDown, .long m_worstUp, .long m_worstDown, .ref 1017, .int m_walkLink, .int m_walkAngle, .int m_walkBranch, .int m_walkMany, .ref 1018, .ref 1019, .int m_lined, .ref 1020, .int m_actMany], ia 64 (ax_tab 0), ia 64 (ax_tab 1), z3, ia 16 q4, z5, z6, z7, z8, z9, z10, z11, z12, z13, z14, z15, z16, z17, z18, z19, z20]) (fun r w' => (((0 ≤ a1 ∧ a1 < m_linkMany) ∧ (0 ≤ a2 ∧ a2 < 40) ∧ (0 ≤ a3 ∧ a3 < 2)) ∧ (0 < Ml_s q4 a1 a2 ∧ 0 ≤ Ml_k q4 a1 a2) ∧ r = some (.int 1) ∧ w' = (wc, [ob 9 [.int 0, .int 0, .int m_fault, .int (-1), .ref 1001, .ref 1002, .int 40, .ref 1003, .int m_taped, .int m_linkMany, .int m_tracerMany, .int m_pointMany, .int m_pairMany, .ref 1004, .ref 1005, .ref 1006, .ref 1007, .int m_readLinks, .int m_readTracers, .int m_readPoints, .int m_readPairs, .ref 1008, .ref 1009, .ref 1010, .ref 1011, .int m_textLong, .int m_at, .int m_spot, .int m_token, .int m_whole, .int m_readFault, .int m_readPlace, .int m_value, .long (Ml_n a2), .long (Ml_c a2), .long (Ml_d a2), .long (Ml_s q4 a1 a2), .long (Ml_e q4 a1 a2), .long (Ml_k q4 a1 a2), .long (Ml_x q4 a1 a2), .long (Ml_y q4 a1 a2), .long (Int32.toInt64 (Bg q4 a1)), .long (Int32.toInt64 (Ba q4 a1)), .ref 1012, .ref 1013, .ref 1014, .int m_curveMany, .ref 1015, .int m_cornerMany, .int m_straightAt, .ref 1016, .long m_fitUp, .long m_fitDown, .long m_worstUp, .long m_worstDown, .ref 1017, .int a1, .int a2, .int a3, .int 0, .ref 1018, .ref 1019, .int m_lined, .ref 1020, .int m_actMany], ia 64 (ax_tab 0), ia 64 (ax_tab 1), z3, ia 16 q4, z5, z6, z7, z8, z9, z10, z11, z12, z13, z14, z15, z16, z17, z18, z19, z20])) ∨ (((0 ≤ a1 ∧ a1 < m_linkMany) ∧ (0 ≤ a2 ∧ a2 < 40) ∧ (0 ≤ a3 ∧ a3 < 2)) ∧ (¬ (0 < Ml_s q4 a1 a2 ∧ 0 ≤ Ml_k q4 a1 a2)) ∧ r = some (.int 0) ∧ w' = (wc, [ob 9 [.int 0, .int 5, .int m_fault, .int (-1), .ref 1001, .ref 1002, .int 40, .ref 1003, .int m_taped, .int m_linkMany, .int m_tracerMany, .int m_pointMany, .int m_pairMany, .ref 1004, .ref 1005, .ref 1006, .ref 1007, .int m_readLinks, .int m_readTracers, .int m_readPoints, .int m_readPairs, .ref 1008, .ref 1009, .ref 1010, .ref 1011, .int m_textLong, .int m_at, .int m_spot, .int m_token, .int m_whole, .int m_readFault, .int m_readPlace, .int m_value, .long (Ml_n a2), .long (Ml_c a2), .long (Ml_d a2), .long (Ml_s q4 a1 a2), .long (Ml_e q4 a1 a2), .long (Ml_k q4 a1 a2), .long (Ml_x q4 a1 a2), .long (Ml_y q4 a1 a2), .long (Int32.toInt64 (Bg q4 a1)), .long (Int32.toInt64 (Ba q4 a1)), .ref 1012, .ref 1013, .ref 1014, .int m_curveMany, .ref 1015, .int m_cornerMany, .int m_straightAt, .ref 1016, .long m_fitUp, .long m_fitDown, .long m_worstUp, .long m_worstDown, .ref 1017, .int m_walkLink, .int m_walkAngle, .int m_walkBranch, .int m_walkMany, .ref 1018, .ref 1019, .int m_lined, .ref 1020, .int m_actMany], ia 64 (ax_tab 0), ia 64 (ax_tab 1), z3, ia 16 q4, z5, z6, z7, z8, z9, z10, z11, z12, z13, z14, z15, z16, z17, z18, z19, z20])) ∨ ((¬ ((0 ≤ a1 ∧ a1 < m_linkMany) ∧ (0 ≤ a2 ∧ a2 < 40) ∧ (0 ≤ a3 ∧ a3 < 2))) ∧ r = some (.int 0) ∧ w' = (wc, [ob 9 [.int 0, .int 1, .int m_fault, .int (-1), .ref 1001, .ref 1002, .int 40, .ref 1003, .int m_taped, .int m_linkMany, .int m_tracerMany, .int m_pointMany, .int m_pairMany, .ref 1004, .ref 1005, .ref 1006, .ref 1007, .int m_readLinks, .int m_readTracers, .int m_readPoints, .int m_readPairs, .ref 1008, .ref 1009, .ref 1010, .ref 1011, .int m_textLong, .int m_at, .int m_spot, .int m_token, .int m_whole, .int m_readFault, .int m_readPlace, .int m_value, .long m_n, .long m_c, .long m_d, .long m_s, .long m_e, .long m_k, .long m_x, .long m_y, .long m_g, .long m_a, .ref 1012, .ref 1013, .ref 1014, .int m_curveMany, .ref 1015, .int m_cornerMany, .int m_straightAt, .ref 1016, .long m_fitUp, .long m_fitDown, .long m_worstUp, .long m_worstDown, .ref 1017, .int m_walkLink, .int m_walkAngle, .int m_walkBranch, .int m_walkMany, .ref 1018, .ref 1019, .int m_lined, .ref 1020, .int m_actMany], ia 64 (ax_tab 0), ia 64 (ax_tab 1), z3, ia 16 q4, z5, z6, z7, z8, z9, z10, z11, z12, z13, z14, z15, z16, z17, z18, z19, z20]))) := by
  refine ct_of ⟨by decide, rfl⟩ (Nat.le_of_ble_eq_true rfl) ?_
  refine ab_aload_n dX11_begin_0 rfl ?_
  refine ab_callV (As := []) (rest := []) dX11_begin_1 mv_X11_anew ml_X11_104 ⟨by decide, by decide, rfl, rfl, rfl⟩ (by decide) rfl rfl (Nat.le_of_ble_eq_true rfl) rfl c_X11_anew ?_
  rintro r w' ⟨rfl, rfl⟩
  refine ab_aload_n dX11_begin_4 rfl ?_
  refine ab_iload_n dX11_begin_5 rfl ?_
  refine ab_iload_n dX11_begin_6 rfl ?_
  refine ab_iload_n dX11_begin_7 rfl ?_
  refine ab_callV (As := [.int a1, .int a2, .int a3]) (rest := []) dX11_begin_8 mv_X11_isPosition ml_X11_381 ⟨by decide, by decide, rfl, rfl, rfl⟩ (by decide) rfl rfl (Nat.le_of_ble_eq_true rfl) rfl (c_X11_isPosition h_l) ?_
  rintro r w' (⟨c_1, rfl, rfl⟩ | ⟨c_2, rfl, rfl⟩)
  · refine ab_ifne 21 dX11_begin_11 (by decide) (fun h_3 => ?_) (fun h_3 => absurd h_3 (by decide))
    refine ab_aload_n dX11_begin_21 rfl ?_
    refine ab_iload_n dX11_begin_22 rfl ?_
    refine ab_iload_n dX11_begin_23 rfl ?_
    refine ab_callV (As := [.int a1, .int a2]) (rest := []) dX11_begin_24 mv_X11_isLawful ml_X11_318 ⟨by decide, by decide, rfl, rfl, rfl⟩ (by decide) rfl rfl (Nat.le_of_ble_eq_true rfl) rfl (c_X11_isLawful c_1.1 h_l c_1.2.1) ?_
    rintro r w' (⟨c_4, rfl, rfl⟩ | ⟨c_5, rfl, rfl⟩)
    · refine ab_ifne 37 dX11_begin_27 (by decide) (fun h_6 => ?_) (fun h_6 => absurd h_6 (by decide))
      refine ab_aload_n dX11_begin_37 rfl ?_
      refine ab_iload_n dX11_begin_38 rfl ?_
      refine ab_putf (w1 := (wc, [ob 9 [.int 0, .int 0, .int m_fault, .int (-1), .ref 1001, .ref 1002, .int 40, .ref 1003, .int m_taped, .int m_linkMany, .int m_tracerMany, .int m_pointMany, .int m_pairMany, .ref 1004, .ref 1005, .ref 1006, .ref 1007, .int m_readLinks, .int m_readTracers, .int m_readPoints, .int m_readPairs, .ref 1008, .ref 1009, .ref 1010, .ref 1011, .int m_textLong, .int m_at, .int m_spot, .int m_token, .int m_whole, .int m_readFault, .int m_readPlace, .int m_value, .long (Ml_n a2), .long (Ml_c a2), .long (Ml_d a2), .long (Ml_s q4 a1 a2), .long (Ml_e q4 a1 a2), .long (Ml_k q4 a1 a2), .long (Ml_x q4 a1 a2), .long (Ml_y q4 a1 a2), .long (Int32.toInt64 (Bg q4 a1)), .long (Int32.toInt64 (Ba q4 a1)), .ref 1012, .ref 1013, .ref 1014, .int m_curveMany, .ref 1015, .int m_cornerMany, .int m_straightAt, .ref 1016, .long m_fitUp, .long m_fitDown, .long m_worstUp, .long m_worstDown, .ref 1017, .int a1, .int m_walkAngle, .int m_walkBranch, .int m_walkMany, .ref 1018, .ref 1019, .int m_lined, .ref 1020, .int m_actMany], ia 64 (ax_tab 0), ia 64 (ax_tab 1), z3, ia 16 q4, z5, z6, z7, z8, z9, z10, z11, z12, z13, z14, z15, z16, z17, z18, z19, z20])) dX11_begin_39 fl_X11_85 rfl (Nat.le_of_ble_eq_true rfl) (fun _ => ⟨rfl, rfl⟩) rfl ?_
      refine ab_aload_n dX11_begin_42 rfl ?_
      refine ab_iload_n dX11_begin_43 rfl ?_
      refine ab_putf (w1 := (wc, [ob 9 [.int 0, .int 0, .int m_fault, .int (-1), .ref 1001, .ref 1002, .int 40, .ref 1003, .int m_taped, .int m_linkMany, .int m_tracerMany, .int m_pointMany, .int m_pairMany, .ref 1004, .ref 1005, .ref 1006, .ref 1007, .int m_readLinks, .int m_readTracers, .int m_readPoints, .int m_readPairs, .ref 1008, .ref 1009, .ref 1010, .ref 1011, .int m_textLong, .int m_at, .int m_spot, .int m_token, .int m_whole, .int m_readFault, .int m_readPlace, .int m_value, .long (Ml_n a2), .long (Ml_c a2), .long (Ml_d a2), .long (Ml_s q4 a1 a2), .long (Ml_e q4 a1 a2), .long (Ml_k q4 a1 a2), .long (Ml_x q4 a1 a2), .long (Ml_y q4 a1 a2), .long (Int32.toInt64 (Bg q4 a1)), .long (Int32.toInt64 (Ba q4 a1)), .ref 1012, .ref 1013, .ref 1014, .int m_curveMany, .ref 1015, .int m_cornerMany, .int m_straightAt, .ref 1016, .long m_fitUp, .long m_fitDown, .long m_worstUp, .long m_worstDown, .ref 1017, .int a1, .int a2, .int m_walkBranch, .int m_walkMany, .ref 1018, .ref 1019, .int m_lined, .ref 1020, .int m_actMany], ia 64 (ax_tab 0), ia 64 (ax_tab 1), z3, ia 16 q4, z5, z6, z7, z8, z9, z10, z11, z12, z13, z14, z15, z16, z17, z18, z19, z20])) dX11_begin_44 fl_X11_532 rfl (Nat.le_of_ble_eq_true rfl) (fun _ => ⟨rfl, rfl⟩) rfl ?_
      refine ab_aload_n dX11_begin_47 rfl ?_
      refine ab_iload_n dX11_begin_48 rfl ?_
      refine ab_putf (w1 := (wc, [ob 9 [.int 0, .int 0, .int m_fault, .int (-1), .ref 1001, .ref 1002, .int 40, .ref 1003, .int m_taped, .int m_linkMany, .int m_tracerMany, .int m_pointMany, .int m_pairMany, .ref 1004, .ref 1005, .ref 1006, .ref 1007, .int m_readLinks, .int m_readTracers, .int m_readPoints, .int m_readPairs, .ref 1008, .ref 1009, .ref 1010, .ref 1011, .int m_textLong, .int m_at, .int m_spot, .int m_token, .int m_whole, .int m_readFault, .int m_readPlace, .int m_value, .long (Ml_n a2), .long (Ml_c a2), .long (Ml_d a2), .long (Ml_s q4 a1 a2), .long (Ml_e q4 a1 a2), .long (Ml_k q4 a1 a2), .long (Ml_x q4 a1 a2), .long (Ml_y q4 a1 a2), .long (Int32.toInt64 (Bg q4 a1)), .long (Int32.toInt64 (Ba q4 a1)), .ref 1012, .ref 1013, .ref 1014, .int m_curveMany, .ref 1015, .int m_cornerMany, .int m_straightAt, .ref 1016, .long m_fitUp, .long m_fitDown, .long m_worstUp, .long m_worstDown, .ref 1017, .int a1, .int a2, .int a3, .int m_walkMany, .ref 1018, .ref 1019, .int m_lined, .ref 1020, .int m_actMany], ia 64 (ax_tab 0), ia 64 (ax_tab 1), z3, ia 16 q4, z5, z6, z7, z8, z9, z10, z11, z12, z13, z14, z15, z16, z17, z18, z19, z20])) dX11_begin_49 fl_X11_535 rfl (Nat.le_of_ble_eq_true rfl) (fun _ => ⟨rfl, rfl⟩) rfl ?_
      refine ab_aload_n dX11_begin_52 rfl ?_
      refine ab_iconst (v := 0) dX11_begin_53 (by decide) ?_
      refine ab_putf (w1 := (wc, [ob 9 [.int 0, .int 0, .int m_fault, .int (-1), .ref 1001, .ref 1002, .int 40, .ref 1003, .int m_taped, .int m_linkMany, .int m_tracerMany, .int m_pointMany, .int m_pairMany, .ref 1004, .ref 1005, .ref 1006, .ref 1007, .int m_readLinks, .int m_readTracers, .int m_readPoints, .int m_readPairs, .ref 1008, .ref 1009, .ref 1010, .ref 1011, .int m_textLong, .int m_at, .int m_spot, .int m_token, .int m_whole, .int m_readFault, .int m_readPlace, .int m_value, .long (Ml_n a2), .long (Ml_c a2), .long (Ml_d a2), .long (Ml_s q4 a1 a2), .long (Ml_e q4 a1 a2), .long (Ml_k q4 a1 a2), .long (Ml_x q4 a1 a2), .long (Ml_y q4 a1 a2), .long (Int32.toInt64 (Bg q4 a1)), .long (Int32.toInt64 (Ba q4 a1)), .ref 1012, .ref 1013, .ref 1014, .int m_curveMany, .ref 1015, .int m_cornerMany, .int m_straightAt, .ref 1016, .long m_fitUp, .long m_fitDown, .long m_worstUp, .long m_worstDown, .ref 1017, .int a1, .int a2, .int a3, .int 0, .ref 1018, .ref 1019, .int m_lined, .ref 1020, .int m_actMany], ia 64 (ax_tab 0), ia 64 (ax_tab 1), z3, ia 16 q4, z5, z6, z7, z8, z9, z10, z11, z12, z13, z14, z15, z16, z17, z18, z19, z20])) dX11_begin_54 fl_X11_538 rfl (Nat.le_of_ble_eq_true rfl) (fun _ => ⟨rfl, rfl⟩) rfl ?_
      refine ab_iconst (v := 1) dX11_begin_57 (by decide) ?_
      exact ab_zret dX11_begin_58 rfl rfl (by decide) (Or.inl ⟨c_1, c_4, rfl, rfl⟩)
    · refine ab_ifne 37 dX11_begin_27 (by decide) (fun h_7 => absurd (by decide) h_7) (fun h_7 => ?_)
      refine ab_aload_n dX11_begin_30 rfl ?_
      refine ab_iconst (v := 5) dX11_begin_31 (by decide) ?_
      refine ab_putf (w1 := (wc, [ob 9 [.int 0, .int 5, .int m_fault, .int (-1), .ref 1001, .ref 1002, .int 40, .ref 1003, .int m_taped, .int m_linkMany, .int m_tracerMany, .int m_pointMany, .int m_pairMany, .ref 1004, .ref 1005, .ref 1006, .ref 1007, .int m_readLinks, .int m_readTracers, .int m_readPoints, .int m_readPairs, .ref 1008, .ref 1009, .ref 1010, .ref 1011, .int m_textLong, .int m_at, .int m_spot, .int m_token, .int m_whole, .int m_readFault, .int m_readPlace, .int m_value, .long (Ml_n a2), .long (Ml_c a2), .long (Ml_d a2), .long (Ml_s q4 a1 a2), .long (Ml_e q4 a1 a2), .long (Ml_k q4 a1 a2), .long (Ml_x q4 a1 a2), .long (Ml_y q4 a1 a2), .long (Int32.toInt64 (Bg q4 a1)), .long (Int32.toInt64 (Ba q4 a1)), .ref 1012, .ref 1013, .ref 1014, .int m_curveMany, .ref 1015, .int m_cornerMany, .int m_straightAt, .ref 1016, .long m_fitUp, .long m_fitDown, .long m_worstUp, .long m_worstDown, .ref 1017, .int m_walkLink, .int m_walkAngle, .int m_walkBranch, .int m_walkMany, .ref 1018, .ref 1019, .int m_lined, .ref 1020, .int m_actMany], ia 64 (ax_tab 0), ia 64 (ax_tab 1), z3, ia 16 q4, z5, z6, z7, z8, z9, z10, z11, z12, z13, z14, z15, z16, z17, z18, z19, z20])) dX11_begin_32 fl_X11_11 rfl (Nat.le_of_ble_eq_true rfl) (fun _ => ⟨rfl, rfl⟩) rfl ?_
      refine ab_iconst (v := 0) dX11_begin_35 (by decide) ?_
      exact ab_zret dX11_begin_36 rfl rfl (by decide) (Or.inr (Or.inl ⟨c_1, c_5, rfl, rfl⟩))
  · refine ab_ifne 21 dX11_begin_11 (by decide) (fun h_8 => absurd (by decide) h_8) (fun h_8 => ?_)
    refine ab_aload_n dX11_begin_14 rfl ?_
    refine ab_iconst (v := 1) dX11_begin_15 (by decide) ?_
    refine ab_putf (w1 := (wc, [ob 9 [.int 0, .int 1, .int m_fault, .int (-1), .ref 1001, .ref 1002, .int 40, .ref 1003, .int m_taped, .int m_linkMany, .int m_tracerMany, .int m_pointMany, .int m_pairMany, .ref 1004, .ref 1005, .ref 1006, .ref 1007, .int m_readLinks, .int m_readTracers, .int m_readPoints, .int m_readPairs, .ref 1008, .ref 1009, .ref 1010, .ref 1011, .int m_textLong, .int m_at, .int m_spot, .int m_token, .int m_whole, .int m_readFault, .int m_readPlace, .int m_value, .long m_n, .long m_c, .long m_d, .long m_s, .long m_e, .long m_k, .long m_x, .long m_y, .long m_g, .long m_a, .ref 1012, .ref 1013, .ref 1014, .int m_curveMany, .ref 1015, .int m_cornerMany, .int m_straightAt, .ref 1016, .long m_fitUp, .long m_fitDown, .long m_worstUp, .long m_worstDown, .ref 1017, .int m_walkLink, .int m_walkAngle, .int m_walkBranch, .int m_walkMany, .ref 1018, .ref 1019, .int m_lined, .ref 1020, .int m_actMany], ia 64 (ax_tab 0), ia 64 (ax_tab 1), z3, ia 16 q4, z5, z6, z7, z8, z9, z10, z11, z12, z13, z14, z15, z16, z17, z18, z19, z20])) dX11_begin_16 fl_X11_11 rfl (Nat.le_of_ble_eq_true rfl) (fun _ => ⟨rfl, rfl⟩) rfl ?_
    refine ab_iconst (v := 0) dX11_begin_19 (by decide) ?_
    exact ab_zret dX11_begin_20 rfl rfl (by decide) (Or.inr (Or.inr (⟨c_2, rfl, rfl⟩)))
