/-- a linkage's bars out of a desk's numbers -/
def Bg (q : Nat → Int32) (l : Int32) : Int32 := q (0 + Int32.toNatClampNeg l * 4 + 0)
def Ba (q : Nat → Int32) (l : Int32) : Int32 := q (0 + Int32.toNatClampNeg l * 4 + 1)
def Bb (q : Nat → Int32) (l : Int32) : Int32 := q (0 + Int32.toNatClampNeg l * 4 + 2)
def Bc (q : Nat → Int32) (l : Int32) : Int32 := q (0 + Int32.toNatClampNeg l * 4 + 3)
theorem sw_out0_2 {x : Int32} (h : x.toInt < 0 ∨ 2 < x.toInt) : ¬ x = 0 ∧ ¬ x = 1 ∧ ¬ x = 2 := by
  refine ⟨fun q => ?_, fun q => ?_, fun q => ?_⟩ <;> subst q <;> revert h <;> decide
theorem sw_out0_5 {x : Int32} (h : x.toInt < 0 ∨ 5 < x.toInt) : ¬ x = 0 ∧ ¬ x = 1 ∧ ¬ x = 2 ∧ ¬ x = 3 ∧ ¬ x = 4 ∧ ¬ x = 5 := by
  refine ⟨fun q => ?_, fun q => ?_, fun q => ?_, fun q => ?_, fun q => ?_, fun q => ?_⟩ <;> subst q <;> revert h <;> decide
/-- one joint goes round -/
abbrev TF (o w s t : Int32) : Prop := (if 0 ≤ s - t then s - t else 0 - (s - t)) ≤ (if 0 ≤ o - w then o - w else 0 - (o - w)) ∧ o + w ≤ s + t
abbrev Lk_rnd (g a b c j : Int32) : Prop := (j = 0 ∧ TF a g b c) ∨ (j = 1 ∧ TF b a g c) ∨ (j = 2 ∧ TF c b g a) ∨ ((¬ j = 0 ∧ ¬ j = 1 ∧ ¬ j = 2) ∧ TF g c a b)
theorem c_X3_take {x0 x1 x2 x3 x7 x8 x9 x11 x12 x13 x14 x15 x16 x17 x18 x19 x20 x21 x22 x23 x24 x25 x26 x27 x28 x29 x30 x31 x32 : ax_E} {r5 r6 : Nat → Int32} {f10_0 f10_1 f10_2 f10_3 a2 : Int32} {wm : List ax_E} (h_i : 0 ≤ a2 ∧ a2 < r6 0) (h_c : r6 0 ≤ nI 4) : Ct M_X3_take [.ref 10, .ref 4, .int a2] ([x0, x1, x2, x3, ob 2 [.ref 5, .ref 6], ia 56 r5, ia 4 r6, x7, x8, x9, ob 3 [.int f10_0, .int f10_1, .int f10_2, .int f10_3], x11, x12, x13, x14, x15, x16, x17, x18, x19, x20, x21, x22, x23, x24, x25, x26, x27, x28, x29, x30, x31, x32], wm) (fun r w' => r = none ∧ w' = ([x0, x1, x2, x3, ob 2 [.ref 5, .ref 6], ia 56 r5, ia 4 r6, x7, x8, x9, ob 3 [.int (Bg r5 a2), .int (Ba r5 a2), .int (Bb r5 a2), .int (Bc r5 a2)], x11, x12, x13, x14, x15, x16, x17, x18, x19, x20, x21, x22, x23, x24, x25, x26, x27, x28, x29, x30, x31, x32], wm)) := by
  refine ct_of ⟨by decide, rfl⟩ (Nat.le_of_ble_eq_true rfl) ?_
  refine ab_aload_n dX3_take_0 rfl ?_
  refine ab_aload_n dX3_take_1 rfl ?_
  refine ab_iconst (v := 0) dX3_take_2 (by decide) ?_
  refine ab_iload_n dX3_take_3 rfl ?_
  refine ab_iconst (v := 0) dX3_take_4 (by decide) ?_
  refine ab_callV (As := [.int 0, .int a2, .int 0]) (rest := [.ref 10]) dX3_take_5 mv_X2_told ml_X3_24 ⟨by decide, by decide, rfl, rfl, rfl⟩ (by decide) rfl rfl (Nat.le_of_ble_eq_true rfl) rfl (c_X2_told_0 h_i h_c (by decide)) ?_
  rintro r w' ⟨rfl, rfl⟩
  refine ab_putf (w1 := ([x0, x1, x2, x3, ob 2 [.ref 5, .ref 6], ia 56 r5, ia 4 r6, x7, x8, x9, ob 3 [.int (Bg r5 a2), .int f10_1, .int f10_2, .int f10_3], x11, x12, x13, x14, x15, x16, x17, x18, x19, x20, x21, x22, x23, x24, x25, x26, x27, x28, x29, x30, x31, x32], wm)) dX3_take_8 fl_X3_9 rfl (Nat.le_of_ble_eq_true rfl) (fun _ => ⟨rfl, rfl⟩) rfl ?_
  refine ab_aload_n dX3_take_11 rfl ?_
  refine ab_aload_n dX3_take_12 rfl ?_
  refine ab_iconst (v := 0) dX3_take_13 (by decide) ?_
  refine ab_iload_n dX3_take_14 rfl ?_
  refine ab_iconst (v := 1) dX3_take_15 (by decide) ?_
  refine ab_callV (As := [.int 0, .int a2, .int 1]) (rest := [.ref 10]) dX3_take_16 mv_X2_told ml_X3_24 ⟨by decide, by decide, rfl, rfl, rfl⟩ (by decide) rfl rfl (Nat.le_of_ble_eq_true rfl) rfl (c_X2_told_0 h_i h_c (by decide)) ?_
  rintro r w' ⟨rfl, rfl⟩
  refine ab_putf (w1 := ([x0, x1, x2, x3, ob 2 [.ref 5, .ref 6], ia 56 r5, ia 4 r6, x7, x8, x9, ob 3 [.int (Bg r5 a2), .int (Ba r5 a2), .int f10_2, .int f10_3], x11, x12, x13, x14, x15, x16, x17, x18, x19, x20, x21, x22, x23, x24, x25, x26, x27, x28, x29, x30, x31, x32], wm)) dX3_take_19 fl_X3_15 rfl (Nat.le_of_ble_eq_true rfl) (fun _ => ⟨rfl, rfl⟩) rfl ?_
  refine ab_aload_n dX3_take_22 rfl ?_
  refine ab_aload_n dX3_take_23 rfl ?_
  refine ab_iconst (v := 0) dX3_take_24 (by decide) ?_
  refine ab_iload_n dX3_take_25 rfl ?_
  refine ab_iconst (v := 2) dX3_take_26 (by decide) ?_
  refine ab_callV (As := [.int 0, .int a2, .int 2]) (rest := [.ref 10]) dX3_take_27 mv_X2_told ml_X3_24 ⟨by decide, by decide, rfl, rfl, rfl⟩ (by decide) rfl rfl (Nat.le_of_ble_eq_true rfl) rfl (c_X2_told_0 h_i h_c (by decide)) ?_
  rintro r w' ⟨rfl, rfl⟩
  refine ab_putf (w1 := ([x0, x1, x2, x3, ob 2 [.ref 5, .ref 6], ia 56 r5, ia 4 r6, x7, x8, x9, ob 3 [.int (Bg r5 a2), .int (Ba r5 a2), .int (Bb r5 a2), .int f10_3], x11, x12, x13, x14, x15, x16, x17, x18, x19, x20, x21, x22, x23, x24, x25, x26, x27, x28, x29, x30, x31, x32], wm)) dX3_take_30 fl_X3_18 rfl (Nat.le_of_ble_eq_true rfl) (fun _ => ⟨rfl, rfl⟩) rfl ?_
  refine ab_aload_n dX3_take_33 rfl ?_
  refine ab_aload_n dX3_take_34 rfl ?_
  refine ab_iconst (v := 0) dX3_take_35 (by decide) ?_
  refine ab_iload_n dX3_take_36 rfl ?_
  refine ab_iconst (v := 3) dX3_take_37 (by decide) ?_
  refine ab_callV (As := [.int 0, .int a2, .int 3]) (rest := [.ref 10]) dX3_take_38 mv_X2_told ml_X3_24 ⟨by decide, by decide, rfl, rfl, rfl⟩ (by decide) rfl rfl (Nat.le_of_ble_eq_true rfl) rfl (c_X2_told_0 h_i h_c (by decide)) ?_
  rintro r w' ⟨rfl, rfl⟩
  refine ab_putf (w1 := ([x0, x1, x2, x3, ob 2 [.ref 5, .ref 6], ia 56 r5, ia 4 r6, x7, x8, x9, ob 3 [.int (Bg r5 a2), .int (Ba r5 a2), .int (Bb r5 a2), .int (Bc r5 a2)], x11, x12, x13, x14, x15, x16, x17, x18, x19, x20, x21, x22, x23, x24, x25, x26, x27, x28, x29, x30, x31, x32], wm)) dX3_take_41 fl_X3_21 rfl (Nat.le_of_ble_eq_true rfl) (fun _ => ⟨rfl, rfl⟩) rfl ?_
  exact ab_vret dX3_take_44 rfl (by decide) (⟨rfl, rfl⟩)
theorem c_X3_turnsFully2 {w : ax_W} {a1 a2 a3 a4 : Int32}  : Ct M_X3_turnsFully [.int a1, .int a2, .int a3, .int a4] w (fun r w' => ((TF a1 a2 a3 a4) ∧ r = some (.int 1) ∧ w' = w) ∨ ((¬ (TF a1 a2 a3 a4)) ∧ r = some (.int 0) ∧ w' = w)) := by
  refine ct_of ⟨by decide, rfl⟩ (Nat.le_of_ble_eq_true rfl) ?_
  refine ab_iload_n dX3_turnsFully_0 rfl ?_
  refine ab_iload_n dX3_turnsFully_1 rfl ?_
  refine ab_isub dX3_turnsFully_2 ?_
  refine ab_mabs dX3_turnsFully_3 ml_X3_60 ⟨by decide, Nat.le_of_ble_eq_true rfl⟩ (by decide) ?_
  refine ab_iload_n dX3_turnsFully_6 rfl ?_
  refine ab_iload_n dX3_turnsFully_7 rfl ?_
  refine ab_isub dX3_turnsFully_8 ?_
  refine ab_mabs dX3_turnsFully_9 ml_X3_60 ⟨by decide, Nat.le_of_ble_eq_true rfl⟩ (by decide) ?_
  refine ab_icmpgt 28 dX3_turnsFully_12 (by decide) (fun h_1 => ?_) (fun h_1 => ?_)
  · refine ab_iconst (v := 0) dX3_turnsFully_28 (by decide) ?_
    exact ab_zret dX3_turnsFully_29 rfl rfl (by decide) (Or.inr (⟨(by grind), rfl, rfl⟩))
  · refine ab_iload_n dX3_turnsFully_15 rfl ?_
    refine ab_iload_n dX3_turnsFully_16 rfl ?_
    refine ab_iadd dX3_turnsFully_17 ?_
    refine ab_iload_n dX3_turnsFully_18 rfl ?_
    refine ab_iload_n dX3_turnsFully_19 rfl ?_
    refine ab_iadd dX3_turnsFully_20 ?_
    refine ab_icmpgt 28 dX3_turnsFully_21 (by decide) (fun h_2 => ?_) (fun h_2 => ?_)
    · refine ab_iconst (v := 0) dX3_turnsFully_28 (by decide) ?_
      exact ab_zret dX3_turnsFully_29 rfl rfl (by decide) (Or.inr (⟨(by grind), rfl, rfl⟩))
    · refine ab_iconst (v := 1) dX3_turnsFully_24 (by decide) ?_
      refine ab_goto 29 dX3_turnsFully_25 (by decide) ?_
      exact ab_zret dX3_turnsFully_29 rfl rfl (by decide) (Or.inl (⟨(by grind), rfl, rfl⟩))
theorem c_X3_goesRound {x0 x1 x2 x3 x4 x5 x6 x7 x8 x9 x11 x12 x13 x14 x15 x16 x17 x18 x19 x20 x21 x22 x23 x24 x25 x26 x27 x28 x29 x30 x31 x32 : ax_E} {f10_0 f10_1 f10_2 f10_3 a1 : Int32} {wm : List ax_E}  : Ct M_X3_goesRound [.ref 10, .int a1] ([x0, x1, x2, x3, x4, x5, x6, x7, x8, x9, ob 3 [.int f10_0, .int f10_1, .int f10_2, .int f10_3], x11, x12, x13, x14, x15, x16, x17, x18, x19, x20, x21, x22, x23, x24, x25, x26, x27, x28, x29, x30, x31, x32], wm) (fun r w' => ((Lk_rnd f10_0 f10_1 f10_2 f10_3 a1) ∧ r = some (.int 1) ∧ w' = ([x0, x1, x2, x3, x4, x5, x6, x7, x8, x9, ob 3 [.int f10_0, .int f10_1, .int f10_2, .int f10_3], x11, x12, x13, x14, x15, x16, x17, x18, x19, x20, x21, x22, x23, x24, x25, x26, x27, x28, x29, x30, x31, x32], wm)) ∨ ((¬ (Lk_rnd f10_0 f10_1 f10_2 f10_3 a1)) ∧ r = some (.int 0) ∧ w' = ([x0, x1, x2, x3, x4, x5, x6, x7, x8, x9, ob 3 [.int f10_0, .int f10_1, .int f10_2, .int f10_3], x11, x12, x13, x14, x15, x16, x17, x18, x19, x20, x21, x22, x23, x24, x25, x26, x27, x28, x29, x30, x31, x32], wm))) := by
  refine ct_of ⟨by decide, rfl⟩ (Nat.le_of_ble_eq_true rfl) ?_
  refine ab_iload_n dX3_goesRound_0 rfl ?_
  rcases sw_0_2 a1 with sw_1 | sw_1 | sw_1 | sw_1
  · refine ab_tabIn 28 dX3_goesRound_1 (by rw [sw_1]; decide) (by rw [sw_1]; decide) (by rw [sw_1]; rfl) (by decide) ?_
    refine ab_aload_n dX3_goesRound_28 rfl ?_
    refine ab_getf dX3_goesRound_29 fl_X3_15 rfl rfl ?_
    refine ab_aload_n dX3_goesRound_32 rfl ?_
    refine ab_getf dX3_goesRound_33 fl_X3_9 rfl rfl ?_
    refine ab_aload_n dX3_goesRound_36 rfl ?_
    refine ab_getf dX3_goesRound_37 fl_X3_18 rfl rfl ?_
    refine ab_aload_n dX3_goesRound_40 rfl ?_
    refine ab_getf dX3_goesRound_41 fl_X3_21 rfl rfl ?_
    refine ab_callS (As := [.int f10_1, .int f10_0, .int f10_2, .int f10_3]) (rest := []) dX3_goesRound_44 ms_X3_turnsFully ml_X3_56 ⟨by decide, by decide, rfl, rfl, rfl⟩ (by decide) rfl rfl (Nat.le_of_ble_eq_true rfl) c_X3_turnsFully2 ?_
    rintro r w' (⟨c_2, rfl, rfl⟩ | ⟨c_3, rfl, rfl⟩)
    · exact ab_zret dX3_goesRound_47 rfl rfl (by decide) (Or.inl (⟨(by grind), rfl, rfl⟩))
    · exact ab_zret dX3_goesRound_47 rfl rfl (by decide) (Or.inr (⟨(by grind), rfl, rfl⟩))
  · refine ab_tabIn 48 dX3_goesRound_1 (by rw [sw_1]; decide) (by rw [sw_1]; decide) (by rw [sw_1]; rfl) (by decide) ?_
    refine ab_aload_n dX3_goesRound_48 rfl ?_
    refine ab_getf dX3_goesRound_49 fl_X3_18 rfl rfl ?_
    refine ab_aload_n dX3_goesRound_52 rfl ?_
    refine ab_getf dX3_goesRound_53 fl_X3_15 rfl rfl ?_
    refine ab_aload_n dX3_goesRound_56 rfl ?_
    refine ab_getf dX3_goesRound_57 fl_X3_9 rfl rfl ?_
    refine ab_aload_n dX3_goesRound_60 rfl ?_
    refine ab_getf dX3_goesRound_61 fl_X3_21 rfl rfl ?_
    refine ab_callS (As := [.int f10_2, .int f10_1, .int f10_0, .int f10_3]) (rest := []) dX3_goesRound_64 ms_X3_turnsFully ml_X3_56 ⟨by decide, by decide, rfl, rfl, rfl⟩ (by decide) rfl rfl (Nat.le_of_ble_eq_true rfl) c_X3_turnsFully2 ?_
    rintro r w' (⟨c_4, rfl, rfl⟩ | ⟨c_5, rfl, rfl⟩)
    · exact ab_zret dX3_goesRound_67 rfl rfl (by decide) (Or.inl (⟨(by grind), rfl, rfl⟩))
    · exact ab_zret dX3_goesRound_67 rfl rfl (by decide) (Or.inr (⟨(by grind), rfl, rfl⟩))
  · refine ab_tabIn 68 dX3_goesRound_1 (by rw [sw_1]; decide) (by rw [sw_1]; decide) (by rw [sw_1]; rfl) (by decide) ?_
    refine ab_aload_n dX3_goesRound_68 rfl ?_
    refine ab_getf dX3_goesRound_69 fl_X3_21 rfl rfl ?_
    refine ab_aload_n dX3_goesRound_72 rfl ?_
    refine ab_getf dX3_goesRound_73 fl_X3_18 rfl rfl ?_
    refine ab_aload_n dX3_goesRound_76 rfl ?_
    refine ab_getf dX3_goesRound_77 fl_X3_9 rfl rfl ?_
    refine ab_aload_n dX3_goesRound_80 rfl ?_
    refine ab_getf dX3_goesRound_81 fl_X3_15 rfl rfl ?_
    refine ab_callS (As := [.int f10_3, .int f10_2, .int f10_0, .int f10_1]) (rest := []) dX3_goesRound_84 ms_X3_turnsFully ml_X3_56 ⟨by decide, by decide, rfl, rfl, rfl⟩ (by decide) rfl rfl (Nat.le_of_ble_eq_true rfl) c_X3_turnsFully2 ?_
    rintro r w' (⟨c_6, rfl, rfl⟩ | ⟨c_7, rfl, rfl⟩)
    · exact ab_zret dX3_goesRound_87 rfl rfl (by decide) (Or.inl (⟨(by grind), rfl, rfl⟩))
    · exact ab_zret dX3_goesRound_87 rfl rfl (by decide) (Or.inr (⟨(by grind), rfl, rfl⟩))
  · have sw_1n := sw_out0_2 sw_1
    refine ab_tabOut 88 dX3_goesRound_1 sw_1 (by decide) ?_
    refine ab_aload_n dX3_goesRound_88 rfl ?_
    refine ab_getf dX3_goesRound_89 fl_X3_9 rfl rfl ?_
    refine ab_aload_n dX3_goesRound_92 rfl ?_
    refine ab_getf dX3_goesRound_93 fl_X3_21 rfl rfl ?_
    refine ab_aload_n dX3_goesRound_96 rfl ?_
    refine ab_getf dX3_goesRound_97 fl_X3_15 rfl rfl ?_
    refine ab_aload_n dX3_goesRound_100 rfl ?_
    refine ab_getf dX3_goesRound_101 fl_X3_18 rfl rfl ?_
    refine ab_callS (As := [.int f10_0, .int f10_3, .int f10_1, .int f10_2]) (rest := []) dX3_goesRound_104 ms_X3_turnsFully ml_X3_56 ⟨by decide, by decide, rfl, rfl, rfl⟩ (by decide) rfl rfl (Nat.le_of_ble_eq_true rfl) c_X3_turnsFully2 ?_
    rintro r w' (⟨c_8, rfl, rfl⟩ | ⟨c_9, rfl, rfl⟩)
    · exact ab_zret dX3_goesRound_107 rfl rfl (by decide) (Or.inl (⟨(by grind), rfl, rfl⟩))
    · exact ab_zret dX3_goesRound_107 rfl rfl (by decide) (Or.inr (⟨(by grind), rfl, rfl⟩))
def Lk_kind (f10_0 : Int32) (f10_1 : Int32) (f10_2 : Int32) (f10_3 : Int32) : Int32 := (if 2 * Lk_max f10_0 f10_1 f10_2 f10_3 ≤ Lk_all f10_0 f10_1 f10_2 f10_3 then (if 0 < (Lk_sums f10_0 f10_1 f10_2 f10_3) then (if f10_1 = (Lk_min f10_0 f10_1 f10_2 f10_3) then 0 else (if f10_0 = (Lk_min f10_0 f10_1 f10_2 f10_3) then 1 else (if f10_2 = (Lk_min f10_0 f10_1 f10_2 f10_3) then 2 else 3))) else (if (Lk_sums f10_0 f10_1 f10_2 f10_3) = 0 then 4 else 6)) else 5)
theorem c_X3_sortOf {x0 x1 x2 x3 x4 x5 x6 x7 x8 x9 x11 x12 x13 x14 x15 x16 x17 x18 x19 x20 x21 x22 x23 x24 x25 x26 x27 x28 x29 x30 x31 x32 : ax_E} {f10_0 f10_1 f10_2 f10_3 : Int32} {wm : List ax_E}  : Ct M_X3_sortOf [.ref 10] ([x0, x1, x2, x3, x4, x5, x6, x7, x8, x9, ob 3 [.int f10_0, .int f10_1, .int f10_2, .int f10_3], x11, x12, x13, x14, x15, x16, x17, x18, x19, x20, x21, x22, x23, x24, x25, x26, x27, x28, x29, x30, x31, x32], wm) (fun r w' => r = some (.int (Lk_kind f10_0 f10_1 f10_2 f10_3)) ∧ w' = ([x0, x1, x2, x3, x4, x5, x6, x7, x8, x9, ob 3 [.int f10_0, .int f10_1, .int f10_2, .int f10_3], x11, x12, x13, x14, x15, x16, x17, x18, x19, x20, x21, x22, x23, x24, x25, x26, x27, x28, x29, x30, x31, x32], wm)) := by
  refine ct_of ⟨by decide, rfl⟩ (Nat.le_of_ble_eq_true rfl) ?_
  refine ab_aload_n dX3_sortOf_0 rfl ?_
  refine ab_callV (As := []) (rest := []) dX3_sortOf_1 mv_X3_canBeBuilt ml_X3_49 ⟨by decide, by decide, rfl, rfl, rfl⟩ (by decide) rfl rfl (Nat.le_of_ble_eq_true rfl) rfl c_X3_canBeBuilt ?_
  rintro r w' (⟨c_1, rfl, rfl⟩ | ⟨c_2, rfl, rfl⟩)
  · refine ab_ifne 9 dX3_sortOf_4 (by decide) (fun h_3 => ?_) (fun h_3 => absurd h_3 (by decide))
    refine ab_aload_n dX3_sortOf_9 rfl ?_
    refine ab_callV (As := []) (rest := []) dX3_sortOf_10 mv_X3_middleLessOuter ml_X3_53 ⟨by decide, by decide, rfl, rfl, rfl⟩ (by decide) rfl rfl (Nat.le_of_ble_eq_true rfl) rfl c_X3_middleLessOuter ?_
    rintro r w' ⟨rfl, rfl⟩
    refine ab_istore_n (la' := [(1, .int (Lk_sums f10_0 f10_1 f10_2 f10_3)), (0, .ref 10)]) dX3_sortOf_13 (by decide) rfl ?_
    refine ab_iload_n dX3_sortOf_14 rfl ?_
    refine ab_ifgt 29 dX3_sortOf_15 (by decide) (fun h_4 => ?_) (fun h_4 => ?_)
    · refine ab_aload_n dX3_sortOf_29 rfl ?_
      refine ab_callV (As := []) (rest := []) dX3_sortOf_30 mv_X3_smallest ml_X3_46 ⟨by decide, by decide, rfl, rfl, rfl⟩ (by decide) rfl rfl (Nat.le_of_ble_eq_true rfl) rfl c_X3_smallest ?_
      rintro r w' ⟨rfl, rfl⟩
      refine ab_istore_n (la' := [(2, .int (Lk_min f10_0 f10_1 f10_2 f10_3)), (1, .int (Lk_sums f10_0 f10_1 f10_2 f10_3)), (0, .ref 10)]) dX3_sortOf_33 (by decide) rfl ?_
      refine ab_aload_n dX3_sortOf_34 rfl ?_
      refine ab_getf dX3_sortOf_35 fl_X3_15 rfl rfl ?_
      refine ab_iload_n dX3_sortOf_38 rfl ?_
      refine ab_icmpne 44 dX3_sortOf_39 (by decide) (fun h_5 => ?_) (fun h_5 => ?_)
      · refine ab_aload_n dX3_sortOf_44 rfl ?_
        refine ab_getf dX3_sortOf_45 fl_X3_9 rfl rfl ?_
        refine ab_iload_n dX3_sortOf_48 rfl ?_
        refine ab_icmpne 54 dX3_sortOf_49 (by decide) (fun h_6 => ?_) (fun h_6 => ?_)
        · refine ab_aload_n dX3_sortOf_54 rfl ?_
          refine ab_getf dX3_sortOf_55 fl_X3_18 rfl rfl ?_
          refine ab_iload_n dX3_sortOf_58 rfl ?_
          refine ab_icmpne 66 dX3_sortOf_59 (by decide) (fun h_7 => ?_) (fun h_7 => ?_)
          · refine ab_iconst (v := 3) dX3_sortOf_66 (by decide) ?_
            exact ab_iret dX3_sortOf_67 rfl (by decide) (⟨by rw [Lk_kind, if_pos (show 2 * Lk_max f10_0 f10_1 f10_2 f10_3 ≤ Lk_all f10_0 f10_1 f10_2 f10_3 from c_1), if_pos (show 0 < (Lk_sums f10_0 f10_1 f10_2 f10_3) from h_4), if_neg (show ¬ f10_1 = (Lk_min f10_0 f10_1 f10_2 f10_3) from h_5), if_neg (show ¬ f10_0 = (Lk_min f10_0 f10_1 f10_2 f10_3) from h_6), if_neg (show ¬ f10_2 = (Lk_min f10_0 f10_1 f10_2 f10_3) from h_7)], rfl⟩)
          · refine ab_iconst (v := 2) dX3_sortOf_62 (by decide) ?_
            refine ab_goto 67 dX3_sortOf_63 (by decide) ?_
            exact ab_iret dX3_sortOf_67 rfl (by decide) (⟨by rw [Lk_kind, if_pos (show 2 * Lk_max f10_0 f10_1 f10_2 f10_3 ≤ Lk_all f10_0 f10_1 f10_2 f10_3 from c_1), if_pos (show 0 < (Lk_sums f10_0 f10_1 f10_2 f10_3) from h_4), if_neg (show ¬ f10_1 = (Lk_min f10_0 f10_1 f10_2 f10_3) from h_5), if_neg (show ¬ f10_0 = (Lk_min f10_0 f10_1 f10_2 f10_3) from h_6), if_pos (show f10_2 = (Lk_min f10_0 f10_1 f10_2 f10_3) from h_7)], rfl⟩)
        · refine ab_iconst (v := 1) dX3_sortOf_52 (by decide) ?_
          exact ab_iret dX3_sortOf_53 rfl (by decide) (⟨by rw [Lk_kind, if_pos (show 2 * Lk_max f10_0 f10_1 f10_2 f10_3 ≤ Lk_all f10_0 f10_1 f10_2 f10_3 from c_1), if_pos (show 0 < (Lk_sums f10_0 f10_1 f10_2 f10_3) from h_4), if_neg (show ¬ f10_1 = (Lk_min f10_0 f10_1 f10_2 f10_3) from h_5), if_pos (show f10_0 = (Lk_min f10_0 f10_1 f10_2 f10_3) from h_6)], rfl⟩)
      · refine ab_iconst (v := 0) dX3_sortOf_42 (by decide) ?_
        exact ab_iret dX3_sortOf_43 rfl (by decide) (⟨by rw [Lk_kind, if_pos (show 2 * Lk_max f10_0 f10_1 f10_2 f10_3 ≤ Lk_all f10_0 f10_1 f10_2 f10_3 from c_1), if_pos (show 0 < (Lk_sums f10_0 f10_1 f10_2 f10_3) from h_4), if_pos (show f10_1 = (Lk_min f10_0 f10_1 f10_2 f10_3) from h_5)], rfl⟩)
    · refine ab_iload_n dX3_sortOf_18 rfl ?_
      refine ab_ifne 26 dX3_sortOf_19 (by decide) (fun h_8 => ?_) (fun h_8 => ?_)
      · refine ab_bipush (v := 6) dX3_sortOf_26 (by decide) ?_
        exact ab_iret dX3_sortOf_28 rfl (by decide) (⟨by rw [Lk_kind, if_pos (show 2 * Lk_max f10_0 f10_1 f10_2 f10_3 ≤ Lk_all f10_0 f10_1 f10_2 f10_3 from c_1), if_neg (show ¬ 0 < (Lk_sums f10_0 f10_1 f10_2 f10_3) from h_4), if_neg (show ¬ (Lk_sums f10_0 f10_1 f10_2 f10_3) = 0 from h_8)], rfl⟩)
      · refine ab_iconst (v := 4) dX3_sortOf_22 (by decide) ?_
        refine ab_goto 28 dX3_sortOf_23 (by decide) ?_
        exact ab_iret dX3_sortOf_28 rfl (by decide) (⟨by rw [Lk_kind, if_pos (show 2 * Lk_max f10_0 f10_1 f10_2 f10_3 ≤ Lk_all f10_0 f10_1 f10_2 f10_3 from c_1), if_neg (show ¬ 0 < (Lk_sums f10_0 f10_1 f10_2 f10_3) from h_4), if_pos (show (Lk_sums f10_0 f10_1 f10_2 f10_3) = 0 from h_8)], rfl⟩)
  · refine ab_ifne 9 dX3_sortOf_4 (by decide) (fun h_9 => absurd (by decide) h_9) (fun h_9 => ?_)
    refine ab_iconst (v := 5) dX3_sortOf_7 (by decide) ?_
    exact ab_iret dX3_sortOf_8 rfl (by decide) (⟨by rw [Lk_kind, if_neg (show ¬ (2 * Lk_max f10_0 f10_1 f10_2 f10_3 ≤ Lk_all f10_0 f10_1 f10_2 f10_3) from c_2)], rfl⟩)
def Lk_ends (f10_0 : Int32) (f10_1 : Int32) (f10_2 : Int32) (f10_3 : Int32) : Int32 := (if -Lk_unit f10_0 f10_1 ≤ (Lk_far f10_0 f10_1 f10_2 f10_3) ∧ (Lk_far f10_0 f10_1 f10_2 f10_3) ≤ Lk_unit f10_0 f10_1 then (if -Lk_unit f10_0 f10_1 ≤ (Lk_near f10_0 f10_1 f10_2 f10_3) ∧ (Lk_near f10_0 f10_1 f10_2 f10_3) ≤ Lk_unit f10_0 f10_1 then 2 else 1) else (if -Lk_unit f10_0 f10_1 ≤ (Lk_near f10_0 f10_1 f10_2 f10_3) ∧ (Lk_near f10_0 f10_1 f10_2 f10_3) ≤ Lk_unit f10_0 f10_1 then 1 else 0))
theorem c_X3_endCount {x0 x1 x2 x3 x4 x5 x6 x7 x8 x9 x11 x12 x13 x14 x15 x16 x17 x18 x19 x20 x21 x22 x23 x24 x25 x26 x27 x28 x29 x30 x31 x32 : ax_E} {f10_0 f10_1 f10_2 f10_3 : Int32} {wm : List ax_E}  : Ct M_X3_endCount [.ref 10] ([x0, x1, x2, x3, x4, x5, x6, x7, x8, x9, ob 3 [.int f10_0, .int f10_1, .int f10_2, .int f10_3], x11, x12, x13, x14, x15, x16, x17, x18, x19, x20, x21, x22, x23, x24, x25, x26, x27, x28, x29, x30, x31, x32], wm) (fun r w' => r = some (.int (Lk_ends f10_0 f10_1 f10_2 f10_3)) ∧ w' = ([x0, x1, x2, x3, x4, x5, x6, x7, x8, x9, ob 3 [.int f10_0, .int f10_1, .int f10_2, .int f10_3], x11, x12, x13, x14, x15, x16, x17, x18, x19, x20, x21, x22, x23, x24, x25, x26, x27, x28, x29, x30, x31, x32], wm)) := by
  refine ct_of ⟨by decide, rfl⟩ (Nat.le_of_ble_eq_true rfl) ?_
  refine ab_aload_n dX3_endCount_0 rfl ?_
  refine ab_aload_n dX3_endCount_1 rfl ?_
  refine ab_callV (As := []) (rest := [.ref 10]) dX3_endCount_2 mv_X3_stretchedCosine ml_X3_67 ⟨by decide, by decide, rfl, rfl, rfl⟩ (by decide) rfl rfl (Nat.le_of_ble_eq_true rfl) rfl c_X3_stretchedCosine ?_
  rintro r w' ⟨rfl, rfl⟩
  refine ab_callV (As := [.int (Lk_far f10_0 f10_1 f10_2 f10_3)]) (rest := []) dX3_endCount_5 mv_X3_isEnd ml_X3_79 ⟨by decide, by decide, rfl, rfl, rfl⟩ (by decide) rfl rfl (Nat.le_of_ble_eq_true rfl) rfl c_X3_isEnd ?_
  rintro r w' (⟨c_1, rfl, rfl⟩ | ⟨c_2, rfl, rfl⟩)
  · refine ab_ifeq 15 dX3_endCount_8 (by decide) (fun h_3 => absurd h_3 (by decide)) (fun h_3 => ?_)
    refine ab_iconst (v := 1) dX3_endCount_11 (by decide) ?_
    refine ab_goto 16 dX3_endCount_12 (by decide) ?_
    refine ab_aload_n dX3_endCount_16 rfl ?_
    refine ab_aload_n dX3_endCount_17 rfl ?_
    refine ab_callV (As := []) (rest := [.ref 10, .int 1]) dX3_endCount_18 mv_X3_foldedCosine ml_X3_70 ⟨by decide, by decide, rfl, rfl, rfl⟩ (by decide) rfl rfl (Nat.le_of_ble_eq_true rfl) rfl c_X3_foldedCosine ?_
    rintro r w' ⟨rfl, rfl⟩
    refine ab_callV (As := [.int (Lk_near f10_0 f10_1 f10_2 f10_3)]) (rest := [.int 1]) dX3_endCount_21 mv_X3_isEnd ml_X3_79 ⟨by decide, by decide, rfl, rfl, rfl⟩ (by decide) rfl rfl (Nat.le_of_ble_eq_true rfl) rfl c_X3_isEnd ?_
    rintro r w' (⟨c_4, rfl, rfl⟩ | ⟨c_5, rfl, rfl⟩)
    · refine ab_ifeq 31 dX3_endCount_24 (by decide) (fun h_6 => absurd h_6 (by decide)) (fun h_6 => ?_)
      refine ab_iconst (v := 1) dX3_endCount_27 (by decide) ?_
      refine ab_goto 32 dX3_endCount_28 (by decide) ?_
      refine ab_iadd dX3_endCount_32 ?_
      refine ab_topi (v := 2) (by decide) ?_
      exact ab_iret dX3_endCount_33 rfl (by decide) (⟨by rw [Lk_ends, if_pos (show -Lk_unit f10_0 f10_1 ≤ (Lk_far f10_0 f10_1 f10_2 f10_3) ∧ (Lk_far f10_0 f10_1 f10_2 f10_3) ≤ Lk_unit f10_0 f10_1 from c_1), if_pos (show -Lk_unit f10_0 f10_1 ≤ (Lk_near f10_0 f10_1 f10_2 f10_3) ∧ (Lk_near f10_0 f10_1 f10_2 f10_3) ≤ Lk_unit f10_0 f10_1 from c_4)], rfl⟩)
    · refine ab_ifeq 31 dX3_endCount_24 (by decide) (fun h_7 => ?_) (fun h_7 => absurd (by decide) h_7)
      refine ab_iconst (v := 0) dX3_endCount_31 (by decide) ?_
      refine ab_iadd dX3_endCount_32 ?_
      refine ab_topi (v := 1) (by decide) ?_
      exact ab_iret dX3_endCount_33 rfl (by decide) (⟨by rw [Lk_ends, if_pos (show -Lk_unit f10_0 f10_1 ≤ (Lk_far f10_0 f10_1 f10_2 f10_3) ∧ (Lk_far f10_0 f10_1 f10_2 f10_3) ≤ Lk_unit f10_0 f10_1 from c_1), if_neg (show ¬ (-Lk_unit f10_0 f10_1 ≤ (Lk_near f10_0 f10_1 f10_2 f10_3) ∧ (Lk_near f10_0 f10_1 f10_2 f10_3) ≤ Lk_unit f10_0 f10_1) from c_5)], rfl⟩)
  · refine ab_ifeq 15 dX3_endCount_8 (by decide) (fun h_8 => ?_) (fun h_8 => absurd (by decide) h_8)
    refine ab_iconst (v := 0) dX3_endCount_15 (by decide) ?_
    refine ab_aload_n dX3_endCount_16 rfl ?_
    refine ab_aload_n dX3_endCount_17 rfl ?_
    refine ab_callV (As := []) (rest := [.ref 10, .int 0]) dX3_endCount_18 mv_X3_foldedCosine ml_X3_70 ⟨by decide, by decide, rfl, rfl, rfl⟩ (by decide) rfl rfl (Nat.le_of_ble_eq_true rfl) rfl c_X3_foldedCosine ?_
    rintro r w' ⟨rfl, rfl⟩
    refine ab_callV (As := [.int (Lk_near f10_0 f10_1 f10_2 f10_3)]) (rest := [.int 0]) dX3_endCount_21 mv_X3_isEnd ml_X3_79 ⟨by decide, by decide, rfl, rfl, rfl⟩ (by decide) rfl rfl (Nat.le_of_ble_eq_true rfl) rfl c_X3_isEnd ?_
    rintro r w' (⟨c_9, rfl, rfl⟩ | ⟨c_10, rfl, rfl⟩)
    · refine ab_ifeq 31 dX3_endCount_24 (by decide) (fun h_11 => absurd h_11 (by decide)) (fun h_11 => ?_)
      refine ab_iconst (v := 1) dX3_endCount_27 (by decide) ?_
      refine ab_goto 32 dX3_endCount_28 (by decide) ?_
      refine ab_iadd dX3_endCount_32 ?_
      refine ab_topi (v := 1) (by decide) ?_
      exact ab_iret dX3_endCount_33 rfl (by decide) (⟨by rw [Lk_ends, if_neg (show ¬ (-Lk_unit f10_0 f10_1 ≤ (Lk_far f10_0 f10_1 f10_2 f10_3) ∧ (Lk_far f10_0 f10_1 f10_2 f10_3) ≤ Lk_unit f10_0 f10_1) from c_2), if_pos (show -Lk_unit f10_0 f10_1 ≤ (Lk_near f10_0 f10_1 f10_2 f10_3) ∧ (Lk_near f10_0 f10_1 f10_2 f10_3) ≤ Lk_unit f10_0 f10_1 from c_9)], rfl⟩)
    · refine ab_ifeq 31 dX3_endCount_24 (by decide) (fun h_12 => ?_) (fun h_12 => absurd (by decide) h_12)
      refine ab_iconst (v := 0) dX3_endCount_31 (by decide) ?_
      refine ab_iadd dX3_endCount_32 ?_
      refine ab_topi (v := 0) (by decide) ?_
      exact ab_iret dX3_endCount_33 rfl (by decide) (⟨by rw [Lk_ends, if_neg (show ¬ (-Lk_unit f10_0 f10_1 ≤ (Lk_far f10_0 f10_1 f10_2 f10_3) ∧ (Lk_far f10_0 f10_1 f10_2 f10_3) ≤ Lk_unit f10_0 f10_1) from c_2), if_neg (show ¬ (-Lk_unit f10_0 f10_1 ≤ (Lk_near f10_0 f10_1 f10_2 f10_3) ∧ (Lk_near f10_0 f10_1 f10_2 f10_3) ≤ Lk_unit f10_0 f10_1) from c_10)], rfl⟩)
def Lk_arcs (f10_0 : Int32) (f10_1 : Int32) (f10_2 : Int32) (f10_3 : Int32) : Int32 := (if Lk_least f10_0 f10_1 f10_2 f10_3 ≤ Lk_most f10_0 f10_1 f10_2 f10_3 then (if (Lk_least f10_0 f10_1 f10_2 f10_3) = (-(Lk_unit f10_0 f10_1)) then 1 else (if (Lk_most f10_0 f10_1 f10_2 f10_3) = (Lk_unit f10_0 f10_1) then 1 else 2)) else 0)
theorem c_X3_arcCount {x0 x1 x2 x3 x4 x5 x6 x7 x8 x9 x11 x12 x13 x14 x15 x16 x17 x18 x19 x20 x21 x22 x23 x24 x25 x26 x27 x28 x29 x30 x31 x32 : ax_E} {f10_0 f10_1 f10_2 f10_3 : Int32} {wm : List ax_E}  : Ct M_X3_arcCount [.ref 10] ([x0, x1, x2, x3, x4, x5, x6, x7, x8, x9, ob 3 [.int f10_0, .int f10_1, .int f10_2, .int f10_3], x11, x12, x13, x14, x15, x16, x17, x18, x19, x20, x21, x22, x23, x24, x25, x26, x27, x28, x29, x30, x31, x32], wm) (fun r w' => r = some (.int (Lk_arcs f10_0 f10_1 f10_2 f10_3)) ∧ w' = ([x0, x1, x2, x3, x4, x5, x6, x7, x8, x9, ob 3 [.int f10_0, .int f10_1, .int f10_2, .int f10_3], x11, x12, x13, x14, x15, x16, x17, x18, x19, x20, x21, x22, x23, x24, x25, x26, x27, x28, x29, x30, x31, x32], wm)) := by
  refine ct_of ⟨by decide, rfl⟩ (Nat.le_of_ble_eq_true rfl) ?_
  refine ab_aload_n dX3_arcCount_0 rfl ?_
  refine ab_callV (As := []) (rest := []) dX3_arcCount_1 mv_X3_hasCosines ml_X3_112 ⟨by decide, by decide, rfl, rfl, rfl⟩ (by decide) rfl rfl (Nat.le_of_ble_eq_true rfl) rfl c_X3_hasCosines ?_
  rintro r w' (⟨c_1, rfl, rfl⟩ | ⟨c_2, rfl, rfl⟩)
  · refine ab_ifne 9 dX3_arcCount_4 (by decide) (fun h_3 => ?_) (fun h_3 => absurd h_3 (by decide))
    refine ab_aload_n dX3_arcCount_9 rfl ?_
    refine ab_callV (As := []) (rest := []) dX3_arcCount_10 mv_X3_leastCosine ml_X3_73 ⟨by decide, by decide, rfl, rfl, rfl⟩ (by decide) rfl rfl (Nat.le_of_ble_eq_true rfl) rfl c_X3_leastCosine ?_
    rintro r w' ⟨rfl, rfl⟩
    refine ab_aload_n dX3_arcCount_13 rfl ?_
    refine ab_callV (As := []) (rest := [.int (Lk_least f10_0 f10_1 f10_2 f10_3)]) dX3_arcCount_14 mv_X3_cosineUnit ml_X3_64 ⟨by decide, by decide, rfl, rfl, rfl⟩ (by decide) rfl rfl (Nat.le_of_ble_eq_true rfl) rfl c_X3_cosineUnit ?_
    rintro r w' ⟨rfl, rfl⟩
    refine ab_ineg dX3_arcCount_17 ?_
    refine ab_icmpeq 32 dX3_arcCount_18 (by decide) (fun h_4 => ?_) (fun h_4 => ?_)
    · refine ab_iconst (v := 1) dX3_arcCount_32 (by decide) ?_
      refine ab_goto 37 dX3_arcCount_33 (by decide) ?_
      exact ab_iret dX3_arcCount_37 rfl (by decide) (⟨by rw [Lk_arcs, if_pos (show Lk_least f10_0 f10_1 f10_2 f10_3 ≤ Lk_most f10_0 f10_1 f10_2 f10_3 from c_1), if_pos (show (Lk_least f10_0 f10_1 f10_2 f10_3) = (-(Lk_unit f10_0 f10_1)) from h_4)], rfl⟩)
    · refine ab_aload_n dX3_arcCount_21 rfl ?_
      refine ab_callV (As := []) (rest := []) dX3_arcCount_22 mv_X3_greatestCosine ml_X3_76 ⟨by decide, by decide, rfl, rfl, rfl⟩ (by decide) rfl rfl (Nat.le_of_ble_eq_true rfl) rfl c_X3_greatestCosine ?_
      rintro r w' ⟨rfl, rfl⟩
      refine ab_aload_n dX3_arcCount_25 rfl ?_
      refine ab_callV (As := []) (rest := [.int (Lk_most f10_0 f10_1 f10_2 f10_3)]) dX3_arcCount_26 mv_X3_cosineUnit ml_X3_64 ⟨by decide, by decide, rfl, rfl, rfl⟩ (by decide) rfl rfl (Nat.le_of_ble_eq_true rfl) rfl c_X3_cosineUnit ?_
      rintro r w' ⟨rfl, rfl⟩
      refine ab_icmpne 36 dX3_arcCount_29 (by decide) (fun h_5 => ?_) (fun h_5 => ?_)
      · refine ab_iconst (v := 2) dX3_arcCount_36 (by decide) ?_
        exact ab_iret dX3_arcCount_37 rfl (by decide) (⟨by rw [Lk_arcs, if_pos (show Lk_least f10_0 f10_1 f10_2 f10_3 ≤ Lk_most f10_0 f10_1 f10_2 f10_3 from c_1), if_neg (show ¬ (Lk_least f10_0 f10_1 f10_2 f10_3) = (-(Lk_unit f10_0 f10_1)) from h_4), if_neg (show ¬ (Lk_most f10_0 f10_1 f10_2 f10_3) = (Lk_unit f10_0 f10_1) from h_5)], rfl⟩)
      · refine ab_iconst (v := 1) dX3_arcCount_32 (by decide) ?_
        refine ab_goto 37 dX3_arcCount_33 (by decide) ?_
        exact ab_iret dX3_arcCount_37 rfl (by decide) (⟨by rw [Lk_arcs, if_pos (show Lk_least f10_0 f10_1 f10_2 f10_3 ≤ Lk_most f10_0 f10_1 f10_2 f10_3 from c_1), if_neg (show ¬ (Lk_least f10_0 f10_1 f10_2 f10_3) = (-(Lk_unit f10_0 f10_1)) from h_4), if_pos (show (Lk_most f10_0 f10_1 f10_2 f10_3) = (Lk_unit f10_0 f10_1) from h_5)], rfl⟩)
  · refine ab_ifne 9 dX3_arcCount_4 (by decide) (fun h_6 => absurd (by decide) h_6) (fun h_6 => ?_)
    refine ab_iconst (v := 0) dX3_arcCount_7 (by decide) ?_
    exact ab_iret dX3_arcCount_8 rfl (by decide) (⟨by rw [Lk_arcs, if_neg (show ¬ (Lk_least f10_0 f10_1 f10_2 f10_3 ≤ Lk_most f10_0 f10_1 f10_2 f10_3) from c_2)], rfl⟩)
theorem c_X3_isByBranches {x0 x1 x2 x3 x4 x5 x6 x7 x8 x9 x11 x12 x13 x14 x15 x16 x17 x18 x19 x20 x21 x22 x23 x24 x25 x26 x27 x28 x29 x30 x31 x32 : ax_E} {f10_0 f10_1 f10_2 f10_3 : Int32} {wm : List ax_E}  : Ct M_X3_isByBranches [.ref 10] ([x0, x1, x2, x3, x4, x5, x6, x7, x8, x9, ob 3 [.int f10_0, .int f10_1, .int f10_2, .int f10_3], x11, x12, x13, x14, x15, x16, x17, x18, x19, x20, x21, x22, x23, x24, x25, x26, x27, x28, x29, x30, x31, x32], wm) (fun r w' => ((Lk_least f10_0 f10_1 f10_2 f10_3 ≤ Lk_most f10_0 f10_1 f10_2 f10_3 ∧ Lk_rnd f10_0 f10_1 f10_2 f10_3 0 ∧ Lk_ends f10_0 f10_1 f10_2 f10_3 = 0) ∧ r = some (.int 1) ∧ w' = ([x0, x1, x2, x3, x4, x5, x6, x7, x8, x9, ob 3 [.int f10_0, .int f10_1, .int f10_2, .int f10_3], x11, x12, x13, x14, x15, x16, x17, x18, x19, x20, x21, x22, x23, x24, x25, x26, x27, x28, x29, x30, x31, x32], wm)) ∨ ((¬ (Lk_least f10_0 f10_1 f10_2 f10_3 ≤ Lk_most f10_0 f10_1 f10_2 f10_3 ∧ Lk_rnd f10_0 f10_1 f10_2 f10_3 0 ∧ Lk_ends f10_0 f10_1 f10_2 f10_3 = 0)) ∧ r = some (.int 0) ∧ w' = ([x0, x1, x2, x3, x4, x5, x6, x7, x8, x9, ob 3 [.int f10_0, .int f10_1, .int f10_2, .int f10_3], x11, x12, x13, x14, x15, x16, x17, x18, x19, x20, x21, x22, x23, x24, x25, x26, x27, x28, x29, x30, x31, x32], wm))) := by
  refine ct_of ⟨by decide, rfl⟩ (Nat.le_of_ble_eq_true rfl) ?_
  refine ab_aload_n dX3_isByBranches_0 rfl ?_
  refine ab_callV (As := []) (rest := []) dX3_isByBranches_1 mv_X3_hasCosines ml_X3_112 ⟨by decide, by decide, rfl, rfl, rfl⟩ (by decide) rfl rfl (Nat.le_of_ble_eq_true rfl) rfl c_X3_hasCosines ?_
  rintro r w' (⟨c_1, rfl, rfl⟩ | ⟨c_2, rfl, rfl⟩)
  · refine ab_ifeq 26 dX3_isByBranches_4 (by decide) (fun h_3 => absurd h_3 (by decide)) (fun h_3 => ?_)
    refine ab_aload_n dX3_isByBranches_7 rfl ?_
    refine ab_iconst (v := 0) dX3_isByBranches_8 (by decide) ?_
    refine ab_callV (As := [.int 0]) (rest := []) dX3_isByBranches_9 mv_X3_goesRound ml_X3_115 ⟨by decide, by decide, rfl, rfl, rfl⟩ (by decide) rfl rfl (Nat.le_of_ble_eq_true rfl) rfl c_X3_goesRound ?_
    rintro r w' (⟨c_4, rfl, rfl⟩ | ⟨c_5, rfl, rfl⟩)
    · refine ab_ifeq 26 dX3_isByBranches_12 (by decide) (fun h_6 => absurd h_6 (by decide)) (fun h_6 => ?_)
      refine ab_aload_n dX3_isByBranches_15 rfl ?_
      refine ab_callV (As := []) (rest := []) dX3_isByBranches_16 mv_X3_endCount ml_X3_118 ⟨by decide, by decide, rfl, rfl, rfl⟩ (by decide) rfl rfl (Nat.le_of_ble_eq_true rfl) rfl c_X3_endCount ?_
      rintro r w' ⟨rfl, rfl⟩
      refine ab_ifne 26 dX3_isByBranches_19 (by decide) (fun h_7 => ?_) (fun h_7 => ?_)
      · refine ab_iconst (v := 0) dX3_isByBranches_26 (by decide) ?_
        exact ab_zret dX3_isByBranches_27 rfl rfl (by decide) (Or.inr (⟨(by grind), rfl, rfl⟩))
      · refine ab_iconst (v := 1) dX3_isByBranches_22 (by decide) ?_
        refine ab_goto 27 dX3_isByBranches_23 (by decide) ?_
        exact ab_zret dX3_isByBranches_27 rfl rfl (by decide) (Or.inl (⟨(by grind), rfl, rfl⟩))
    · refine ab_ifeq 26 dX3_isByBranches_12 (by decide) (fun h_8 => ?_) (fun h_8 => absurd (by decide) h_8)
      refine ab_iconst (v := 0) dX3_isByBranches_26 (by decide) ?_
      exact ab_zret dX3_isByBranches_27 rfl rfl (by decide) (Or.inr (⟨(by grind), rfl, rfl⟩))
  · refine ab_ifeq 26 dX3_isByBranches_4 (by decide) (fun h_9 => ?_) (fun h_9 => absurd (by decide) h_9)
    refine ab_iconst (v := 0) dX3_isByBranches_26 (by decide) ?_
    exact ab_zret dX3_isByBranches_27 rfl rfl (by decide) (Or.inr (⟨(by grind), rfl, rfl⟩))
def Lk_circ (f10_0 : Int32) (f10_1 : Int32) (f10_2 : Int32) (f10_3 : Int32) : Int32 := (if Lk_least f10_0 f10_1 f10_2 f10_3 ≤ Lk_most f10_0 f10_1 f10_2 f10_3 ∧ Lk_rnd f10_0 f10_1 f10_2 f10_3 0 ∧ Lk_ends f10_0 f10_1 f10_2 f10_3 = 0 then 2 else (Lk_arcs f10_0 f10_1 f10_2 f10_3))
theorem c_X3_circuitCount {x0 x1 x2 x3 x4 x5 x6 x7 x8 x9 x11 x12 x13 x14 x15 x16 x17 x18 x19 x20 x21 x22 x23 x24 x25 x26 x27 x28 x29 x30 x31 x32 : ax_E} {f10_0 f10_1 f10_2 f10_3 : Int32} {wm : List ax_E}  : Ct M_X3_circuitCount [.ref 10] ([x0, x1, x2, x3, x4, x5, x6, x7, x8, x9, ob 3 [.int f10_0, .int f10_1, .int f10_2, .int f10_3], x11, x12, x13, x14, x15, x16, x17, x18, x19, x20, x21, x22, x23, x24, x25, x26, x27, x28, x29, x30, x31, x32], wm) (fun r w' => r = some (.int (Lk_circ f10_0 f10_1 f10_2 f10_3)) ∧ w' = ([x0, x1, x2, x3, x4, x5, x6, x7, x8, x9, ob 3 [.int f10_0, .int f10_1, .int f10_2, .int f10_3], x11, x12, x13, x14, x15, x16, x17, x18, x19, x20, x21, x22, x23, x24, x25, x26, x27, x28, x29, x30, x31, x32], wm)) := by
  refine ct_of ⟨by decide, rfl⟩ (Nat.le_of_ble_eq_true rfl) ?_
  refine ab_aload_n dX3_circuitCount_0 rfl ?_
  refine ab_callV (As := []) (rest := []) dX3_circuitCount_1 mv_X3_isByBranches ml_X3_121 ⟨by decide, by decide, rfl, rfl, rfl⟩ (by decide) rfl rfl (Nat.le_of_ble_eq_true rfl) rfl c_X3_isByBranches ?_
  rintro r w' (⟨c_1, rfl, rfl⟩ | ⟨c_2, rfl, rfl⟩)
  · refine ab_ifeq 11 dX3_circuitCount_4 (by decide) (fun h_3 => absurd h_3 (by decide)) (fun h_3 => ?_)
    refine ab_iconst (v := 2) dX3_circuitCount_7 (by decide) ?_
    refine ab_goto 15 dX3_circuitCount_8 (by decide) ?_
    exact ab_iret dX3_circuitCount_15 rfl (by decide) (⟨by rw [Lk_circ, if_pos (show Lk_least f10_0 f10_1 f10_2 f10_3 ≤ Lk_most f10_0 f10_1 f10_2 f10_3 ∧ Lk_rnd f10_0 f10_1 f10_2 f10_3 0 ∧ Lk_ends f10_0 f10_1 f10_2 f10_3 = 0 from c_1)], rfl⟩)
  · refine ab_ifeq 11 dX3_circuitCount_4 (by decide) (fun h_4 => ?_) (fun h_4 => absurd (by decide) h_4)
    refine ab_aload_n dX3_circuitCount_11 rfl ?_
    refine ab_callV (As := []) (rest := []) dX3_circuitCount_12 mv_X3_arcCount ml_X3_124 ⟨by decide, by decide, rfl, rfl, rfl⟩ (by decide) rfl rfl (Nat.le_of_ble_eq_true rfl) rfl c_X3_arcCount ?_
    rintro r w' ⟨rfl, rfl⟩
    exact ab_iret dX3_circuitCount_15 rfl (by decide) (⟨by rw [Lk_circ, if_neg (show ¬ (Lk_least f10_0 f10_1 f10_2 f10_3 ≤ Lk_most f10_0 f10_1 f10_2 f10_3 ∧ Lk_rnd f10_0 f10_1 f10_2 f10_3 0 ∧ Lk_ends f10_0 f10_1 f10_2 f10_3 = 0) from c_2)], rfl⟩)
