def Cmp3 (a1 : Int32) (a2 : Int32) : Int32 := (if a2 ≤ a1 then (if a1 = a2 then 0 else 1) else (-1))
theorem c_J6_compare_7cf53_t {w : ax_W} {a1 a2 : Int32}  : Ct M_J6_compare_7cf53 [.int a1, .int a2] w (fun r w' => r = some (.int (Cmp3 a1 a2)) ∧ w' = w) := by
  refine ct_of ⟨by decide, rfl⟩ (Nat.le_of_ble_eq_true rfl) ?_
  refine ab_iload_n dJ6_compare_7cf53_0 rfl ?_
  refine ab_iload_n dJ6_compare_7cf53_1 rfl ?_
  refine ab_icmpge 9 dJ6_compare_7cf53_2 (by decide) (fun h_1 => ?_) (fun h_1 => ?_)
  · refine ab_iload_n dJ6_compare_7cf53_9 rfl ?_
    refine ab_iload_n dJ6_compare_7cf53_10 rfl ?_
    refine ab_icmpne 18 dJ6_compare_7cf53_11 (by decide) (fun h_2 => ?_) (fun h_2 => ?_)
    · refine ab_iconst (v := 1) dJ6_compare_7cf53_18 (by decide) ?_
      exact ab_iret dJ6_compare_7cf53_19 rfl (by decide) (⟨by rw [Cmp3, if_pos (show a2 ≤ a1 from h_1), if_neg (show ¬ a1 = a2 from h_2)], rfl⟩)
    · refine ab_iconst (v := 0) dJ6_compare_7cf53_14 (by decide) ?_
      refine ab_goto 19 dJ6_compare_7cf53_15 (by decide) ?_
      exact ab_iret dJ6_compare_7cf53_19 rfl (by decide) (⟨by rw [Cmp3, if_pos (show a2 ≤ a1 from h_1), if_pos (show a1 = a2 from h_2)], rfl⟩)
  · refine ab_iconst (v := -1) dJ6_compare_7cf53_5 (by decide) ?_
    refine ab_goto 19 dJ6_compare_7cf53_6 (by decide) ?_
    exact ab_iret dJ6_compare_7cf53_19 rfl (by decide) (⟨by rw [Cmp3, if_neg (show ¬ a2 ≤ a1 from h_1)], rfl⟩)
def Tn_next (a1 : Int32) : Int32 := (if 40 ≤ (a1 + 1) then 0 else (a1 + 1))
theorem c_X7_behind_t {w : ax_W} {a1 : Int32}  : Ct M_X7_behind [.int a1] w (fun r w' => r = some (.int (Tn_next a1)) ∧ w' = w) := by
  refine ct_of ⟨by decide, rfl⟩ (Nat.le_of_ble_eq_true rfl) ?_
  refine ab_iload_n dX7_behind_0 rfl ?_
  refine ab_iconst (v := 1) dX7_behind_1 (by decide) ?_
  refine ab_iadd dX7_behind_2 ?_
  refine ab_bipush (v := 40) dX7_behind_3 (by decide) ?_
  refine ab_icmpge 14 dX7_behind_5 (by decide) (fun h_1 => ?_) (fun h_1 => ?_)
  · refine ab_iconst (v := 0) dX7_behind_14 (by decide) ?_
    exact ab_iret dX7_behind_15 rfl (by decide) (⟨by rw [Tn_next, if_pos (show 40 ≤ (a1 + 1) from h_1)], rfl⟩)
  · refine ab_iload_n dX7_behind_8 rfl ?_
    refine ab_iconst (v := 1) dX7_behind_9 (by decide) ?_
    refine ab_iadd dX7_behind_10 ?_
    refine ab_goto 15 dX7_behind_11 (by decide) ?_
    exact ab_iret dX7_behind_15 rfl (by decide) (⟨by rw [Tn_next, if_neg (show ¬ 40 ≤ (a1 + 1) from h_1)], rfl⟩)
def Tn_prev (a1 : Int32) : Int32 := (if a1 ≤ 0 then 39 else (a1 - 1))
theorem c_X7_ahead_t {w : ax_W} {a1 : Int32}  : Ct M_X7_ahead [.int a1] w (fun r w' => r = some (.int (Tn_prev a1)) ∧ w' = w) := by
  refine ct_of ⟨by decide, rfl⟩ (Nat.le_of_ble_eq_true rfl) ?_
  refine ab_iload_n dX7_ahead_0 rfl ?_
  refine ab_ifle 10 dX7_ahead_1 (by decide) (fun h_1 => ?_) (fun h_1 => ?_)
  · refine ab_bipush (v := 39) dX7_ahead_10 (by decide) ?_
    exact ab_iret dX7_ahead_12 rfl (by decide) (⟨by rw [Tn_prev, if_pos (show a1 ≤ 0 from h_1)], rfl⟩)
  · refine ab_iload_n dX7_ahead_4 rfl ?_
    refine ab_iconst (v := 1) dX7_ahead_5 (by decide) ?_
    refine ab_isub dX7_ahead_6 ?_
    refine ab_goto 12 dX7_ahead_7 (by decide) ?_
    exact ab_iret dX7_ahead_12 rfl (by decide) (⟨by rw [Tn_prev, if_neg (show ¬ a1 ≤ 0 from h_1)], rfl⟩)
def Sgn (a1 : Int32) : Int64 := (if a1 = 0 then 1 else (-1))
theorem c_X5_signOf_t {w : ax_W} {a1 : Int32}  : Ct M_X5_signOf [.int a1] w (fun r w' => r = some (.long (Sgn a1)) ∧ w' = w) := by
  refine ct_of ⟨by decide, rfl⟩ (Nat.le_of_ble_eq_true rfl) ?_
  refine ab_iload_n dX5_signOf_0 rfl ?_
  refine ab_ifne 8 dX5_signOf_1 (by decide) (fun h_1 => ?_) (fun h_1 => ?_)
  · refine ab_ldc2 dX5_signOf_8 kl_X5_95 ?_
    exact ab_lret dX5_signOf_11 rfl (by decide) (⟨by rw [Sgn, if_neg (show ¬ a1 = 0 from h_1)], rfl⟩)
  · refine ab_lconst (v := 1) dX5_signOf_4 (by decide) ?_
    refine ab_goto 11 dX5_signOf_5 (by decide) ?_
    exact ab_lret dX5_signOf_11 rfl (by decide) (⟨by rw [Sgn, if_pos (show a1 = 0 from h_1)], rfl⟩)
def Ab64 (a1 : Int64) : Int64 := (if 0 ≤ a1 then a1 else (-a1))
theorem c_X11_plain_t {w : ax_W} {a1 : Int64}  : Ct M_X11_plain [.long a1] w (fun r w' => r = some (.long (Ab64 a1)) ∧ w' = w) := by
  refine ct_of ⟨by decide, rfl⟩ (Nat.le_of_ble_eq_true rfl) ?_
  refine ab_lload_n dX11_plain_0 rfl ?_
  refine ab_lconst (v := 0) dX11_plain_1 (by decide) ?_
  refine ab_lcmpge 11 dX11_plain_2 dX11_plain_3 (by decide) (fun h_1 => ?_) (fun h_1 => ?_)
  · refine ab_lload_n dX11_plain_11 rfl ?_
    exact ab_lret dX11_plain_12 rfl (by decide) (⟨by rw [Ab64, if_pos (show 0 ≤ a1 from h_1)], rfl⟩)
  · refine ab_lload_n dX11_plain_6 rfl ?_
    refine ab_lneg dX11_plain_7 ?_
    refine ab_goto 12 dX11_plain_8 (by decide) ?_
    exact ab_lret dX11_plain_12 rfl (by decide) (⟨by rw [Ab64, if_neg (show ¬ 0 ≤ a1 from h_1)], rfl⟩)
def Tnd (a1 : Int64) (a2 : Int32) : Int64 := (if a2 = 0 then a1 else (-a1))
theorem c_X11_turned_t {w : ax_W} {a1 : Int64} {a2 : Int32}  : Ct M_X11_turned [.long a1, .int a2] w (fun r w' => r = some (.long (Tnd a1 a2)) ∧ w' = w) := by
  refine ct_of ⟨by decide, rfl⟩ (Nat.le_of_ble_eq_true rfl) ?_
  refine ab_iload_n dX11_turned_0 rfl ?_
  refine ab_ifne 8 dX11_turned_1 (by decide) (fun h_1 => ?_) (fun h_1 => ?_)
  · refine ab_lload_n dX11_turned_8 rfl ?_
    refine ab_lneg dX11_turned_9 ?_
    exact ab_lret dX11_turned_10 rfl (by decide) (⟨by rw [Tnd, if_neg (show ¬ a2 = 0 from h_1)], rfl⟩)
  · refine ab_lload_n dX11_turned_4 rfl ?_
    refine ab_goto 10 dX11_turned_5 (by decide) ?_
    exact ab_lret dX11_turned_10 rfl (by decide) (⟨by rw [Tnd, if_pos (show a2 = 0 from h_1)], rfl⟩)
theorem tn_next_in {k : Int32} (h : 0 ≤ k ∧ k < 40) : 0 ≤ Tn_next k ∧ Tn_next k < 40 := by
  obtain ⟨j, hj, rfl⟩ := nI_in2 (c := 40) (by decide) h.1 h.2
  have : ∀ j, j < 40 → 0 ≤ Tn_next (nI j) ∧ Tn_next (nI j) < 40 := by decide +kernel
  exact this j hj
theorem tn_prev_in {k : Int32} (h : 0 ≤ k ∧ k < 40) : 0 ≤ Tn_prev k ∧ Tn_prev k < 40 := by
  obtain ⟨j, hj, rfl⟩ := nI_in2 (c := 40) (by decide) h.1 h.2
  have : ∀ j, j < 40 → 0 ≤ Tn_prev (nI j) ∧ Tn_prev (nI j) < 40 := by decide +kernel
  exact this j hj
def Lk_side (f10_0 : Int32) (f10_1 : Int32) (a1 : Int32) (a2 : Int32) : Int32 := (Cmp3 (a1 * (((ax_tab 0 (Int32.toNatClampNeg a2)) * (ax_tab 0 (Int32.toNatClampNeg a2))) + ((ax_tab 1 (Int32.toNatClampNeg a2)) * (ax_tab 1 (Int32.toNatClampNeg a2))))) ((Lk_unit f10_0 f10_1) * (((ax_tab 1 (Int32.toNatClampNeg a2)) * (ax_tab 1 (Int32.toNatClampNeg a2))) - ((ax_tab 0 (Int32.toNatClampNeg a2)) * (ax_tab 0 (Int32.toNatClampNeg a2))))))
theorem c_X3_sideOf {x0 x1 x2 x3 x4 x5 x6 x7 x8 x9 x11 x12 x13 x14 x15 x16 x17 x18 x19 x20 x21 x22 x23 x24 x25 x26 x27 x28 x29 x30 x31 x32 : ax_E} {f10_0 f10_1 f10_2 f10_3 a1 a2 : Int32} {wm : List ax_E} (h_k : 0 ≤ a2 ∧ a2 < 40) : Ct M_X3_sideOf [.ref 10, .int a1, .int a2] ([x0, x1, x2, x3, x4, x5, x6, x7, x8, x9, ob 3 [.int f10_0, .int f10_1, .int f10_2, .int f10_3], x11, x12, x13, x14, x15, x16, x17, x18, x19, x20, x21, x22, x23, x24, x25, x26, x27, x28, x29, x30, x31, x32], wm) (fun r w' => r = some (.int (Lk_side f10_0 f10_1 a1 a2)) ∧ w' = ([x0, x1, x2, x3, x4, x5, x6, x7, x8, x9, ob 3 [.int f10_0, .int f10_1, .int f10_2, .int f10_3], x11, x12, x13, x14, x15, x16, x17, x18, x19, x20, x21, x22, x23, x24, x25, x26, x27, x28, x29, x30, x31, x32], wm)) := by
  refine ct_of ⟨by decide, rfl⟩ (Nat.le_of_ble_eq_true rfl) ?_
  refine ab_iload_n dX3_sideOf_0 rfl ?_
  refine ab_callS (As := [.int a2]) (rest := []) dX3_sideOf_1 ms_X7_rise ml_X3_95 ⟨by decide, by decide, rfl, rfl, rfl⟩ (by decide) rfl rfl (Nat.le_of_ble_eq_true rfl) c_X7_rise ?_
  rintro r w' (⟨c_1, rfl, rfl⟩ | ⟨c_2, rfl, rfl⟩)
  · refine ab_istore_n (la' := [(3, .int (ax_tab 0 (Int32.toNatClampNeg a2))), (0, .ref 10), (1, .int a1), (2, .int a2)]) dX3_sideOf_4 (by decide) rfl ?_
    refine ab_iload_n dX3_sideOf_5 rfl ?_
    refine ab_callS (As := [.int a2]) (rest := []) dX3_sideOf_6 ms_X7_run ml_X3_98 ⟨by decide, by decide, rfl, rfl, rfl⟩ (by decide) rfl rfl (Nat.le_of_ble_eq_true rfl) c_X7_run ?_
    rintro r w' (⟨c_3, rfl, rfl⟩ | ⟨c_4, rfl, rfl⟩)
    · refine ab_istore (la' := [(4, .int (ax_tab 1 (Int32.toNatClampNeg a2))), (3, .int (ax_tab 0 (Int32.toNatClampNeg a2))), (0, .ref 10), (1, .int a1), (2, .int a2)]) dX3_sideOf_9 (by decide) rfl ?_
      refine ab_iload_n dX3_sideOf_11 rfl ?_
      refine ab_iload_n dX3_sideOf_12 rfl ?_
      refine ab_iload dX3_sideOf_13 rfl ?_
      refine ab_callS (As := [.int (ax_tab 0 (Int32.toNatClampNeg a2)), .int (ax_tab 1 (Int32.toNatClampNeg a2))]) (rest := [.int a1]) dX3_sideOf_15 ms_X7_norm ml_X3_101 ⟨by decide, by decide, rfl, rfl, rfl⟩ (by decide) rfl rfl (Nat.le_of_ble_eq_true rfl) c_X7_norm ?_
      rintro r w' ⟨rfl, rfl⟩
      refine ab_imul dX3_sideOf_18 ?_
      refine ab_aload_n dX3_sideOf_19 rfl ?_
      refine ab_callV (As := []) (rest := [.int (a1 * (((ax_tab 0 (Int32.toNatClampNeg a2)) * (ax_tab 0 (Int32.toNatClampNeg a2))) + ((ax_tab 1 (Int32.toNatClampNeg a2)) * (ax_tab 1 (Int32.toNatClampNeg a2)))))]) dX3_sideOf_20 mv_X3_cosineUnit ml_X3_64 ⟨by decide, by decide, rfl, rfl, rfl⟩ (by decide) rfl rfl (Nat.le_of_ble_eq_true rfl) rfl c_X3_cosineUnit ?_
      rintro r w' ⟨rfl, rfl⟩
      refine ab_iload_n dX3_sideOf_23 rfl ?_
      refine ab_iload dX3_sideOf_24 rfl ?_
      refine ab_callS (As := [.int (ax_tab 0 (Int32.toNatClampNeg a2)), .int (ax_tab 1 (Int32.toNatClampNeg a2))]) (rest := [.int (Lk_unit f10_0 f10_1), .int (a1 * (((ax_tab 0 (Int32.toNatClampNeg a2)) * (ax_tab 0 (Int32.toNatClampNeg a2))) + ((ax_tab 1 (Int32.toNatClampNeg a2)) * (ax_tab 1 (Int32.toNatClampNeg a2)))))]) dX3_sideOf_26 ms_X7_cosine ml_X3_104 ⟨by decide, by decide, rfl, rfl, rfl⟩ (by decide) rfl rfl (Nat.le_of_ble_eq_true rfl) c_X7_cosine ?_
      rintro r w' ⟨rfl, rfl⟩
      refine ab_imul dX3_sideOf_29 ?_
      refine ab_callS (As := [.int (a1 * (((ax_tab 0 (Int32.toNatClampNeg a2)) * (ax_tab 0 (Int32.toNatClampNeg a2))) + ((ax_tab 1 (Int32.toNatClampNeg a2)) * (ax_tab 1 (Int32.toNatClampNeg a2))))), .int ((Lk_unit f10_0 f10_1) * (((ax_tab 1 (Int32.toNatClampNeg a2)) * (ax_tab 1 (Int32.toNatClampNeg a2))) - ((ax_tab 0 (Int32.toNatClampNeg a2)) * (ax_tab 0 (Int32.toNatClampNeg a2)))))]) (rest := []) dX3_sideOf_30 ms_J6_compare_7cf53 ml_X3_107 ⟨by decide, by decide, rfl, rfl, rfl⟩ (by decide) rfl rfl (Nat.le_of_ble_eq_true rfl) c_J6_compare_7cf53_t ?_
      rintro r w' ⟨rfl, rfl⟩
      exact ab_iret dX3_sideOf_33 rfl (by decide) (⟨rfl, rfl⟩)
    · exact absurd h_k c_4
  · exact absurd h_k c_2
theorem c_X3_isEndBehind {x0 x1 x2 x3 x4 x5 x6 x7 x8 x9 x11 x12 x13 x14 x15 x16 x17 x18 x19 x20 x21 x22 x23 x24 x25 x26 x27 x28 x29 x30 x31 x32 : ax_E} {f10_0 f10_1 f10_2 f10_3 a1 a2 : Int32} {wm : List ax_E} (h_k : 0 ≤ a2 ∧ a2 < 40) : Ct M_X3_isEndBehind [.ref 10, .int a1, .int a2] ([x0, x1, x2, x3, x4, x5, x6, x7, x8, x9, ob 3 [.int f10_0, .int f10_1, .int f10_2, .int f10_3], x11, x12, x13, x14, x15, x16, x17, x18, x19, x20, x21, x22, x23, x24, x25, x26, x27, x28, x29, x30, x31, x32], wm) (fun r w' => (((-Lk_unit f10_0 f10_1 ≤ a1 ∧ a1 ≤ Lk_unit f10_0 f10_1) ∧ Lk_side f10_0 f10_1 a1 a2 * Lk_side f10_0 f10_1 a1 (Tn_next a2) < 0) ∧ r = some (.int 1) ∧ w' = ([x0, x1, x2, x3, x4, x5, x6, x7, x8, x9, ob 3 [.int f10_0, .int f10_1, .int f10_2, .int f10_3], x11, x12, x13, x14, x15, x16, x17, x18, x19, x20, x21, x22, x23, x24, x25, x26, x27, x28, x29, x30, x31, x32], wm)) ∨ ((¬ ((-Lk_unit f10_0 f10_1 ≤ a1 ∧ a1 ≤ Lk_unit f10_0 f10_1) ∧ Lk_side f10_0 f10_1 a1 a2 * Lk_side f10_0 f10_1 a1 (Tn_next a2) < 0)) ∧ r = some (.int 0) ∧ w' = ([x0, x1, x2, x3, x4, x5, x6, x7, x8, x9, ob 3 [.int f10_0, .int f10_1, .int f10_2, .int f10_3], x11, x12, x13, x14, x15, x16, x17, x18, x19, x20, x21, x22, x23, x24, x25, x26, x27, x28, x29, x30, x31, x32], wm))) := by
  refine ct_of ⟨by decide, rfl⟩ (Nat.le_of_ble_eq_true rfl) ?_
  refine ab_aload_n dX3_isEndBehind_0 rfl ?_
  refine ab_iload_n dX3_isEndBehind_1 rfl ?_
  refine ab_callV (As := [.int a1]) (rest := []) dX3_isEndBehind_2 mv_X3_isEnd ml_X3_79 ⟨by decide, by decide, rfl, rfl, rfl⟩ (by decide) rfl rfl (Nat.le_of_ble_eq_true rfl) rfl c_X3_isEnd ?_
  rintro r w' (⟨c_1, rfl, rfl⟩ | ⟨c_2, rfl, rfl⟩)
  · refine ab_ifeq 31 dX3_isEndBehind_5 (by decide) (fun h_3 => absurd h_3 (by decide)) (fun h_3 => ?_)
    refine ab_aload_n dX3_isEndBehind_8 rfl ?_
    refine ab_iload_n dX3_isEndBehind_9 rfl ?_
    refine ab_iload_n dX3_isEndBehind_10 rfl ?_
    refine ab_callV (As := [.int a1, .int a2]) (rest := []) dX3_isEndBehind_11 mv_X3_sideOf ml_X3_87 ⟨by decide, by decide, rfl, rfl, rfl⟩ (by decide) rfl rfl (Nat.le_of_ble_eq_true rfl) rfl (c_X3_sideOf h_k) ?_
    rintro r w' ⟨rfl, rfl⟩
    refine ab_aload_n dX3_isEndBehind_14 rfl ?_
    refine ab_iload_n dX3_isEndBehind_15 rfl ?_
    refine ab_iload_n dX3_isEndBehind_16 rfl ?_
    refine ab_callS (As := [.int a2]) (rest := [.int a1, .ref 10, .int (Lk_side f10_0 f10_1 a1 a2)]) dX3_isEndBehind_17 ms_X7_behind ml_X3_90 ⟨by decide, by decide, rfl, rfl, rfl⟩ (by decide) rfl rfl (Nat.le_of_ble_eq_true rfl) c_X7_behind_t ?_
    rintro r w' ⟨rfl, rfl⟩
    refine ab_callV (As := [.int a1, .int (Tn_next a2)]) (rest := [.int (Lk_side f10_0 f10_1 a1 a2)]) dX3_isEndBehind_20 mv_X3_sideOf ml_X3_87 ⟨by decide, by decide, rfl, rfl, rfl⟩ (by decide) rfl rfl (Nat.le_of_ble_eq_true rfl) rfl (c_X3_sideOf (tn_next_in h_k)) ?_
    rintro r w' ⟨rfl, rfl⟩
    refine ab_imul dX3_isEndBehind_23 ?_
    refine ab_ifge 31 dX3_isEndBehind_24 (by decide) (fun h_4 => ?_) (fun h_4 => ?_)
    · refine ab_iconst (v := 0) dX3_isEndBehind_31 (by decide) ?_
      exact ab_zret dX3_isEndBehind_32 rfl rfl (by decide) (Or.inr (⟨(by grind), rfl, rfl⟩))
    · refine ab_iconst (v := 1) dX3_isEndBehind_27 (by decide) ?_
      refine ab_goto 32 dX3_isEndBehind_28 (by decide) ?_
      exact ab_zret dX3_isEndBehind_32 rfl rfl (by decide) (Or.inl (⟨(by grind), rfl, rfl⟩))
  · refine ab_ifeq 31 dX3_isEndBehind_5 (by decide) (fun h_5 => ?_) (fun h_5 => absurd (by decide) h_5)
    refine ab_iconst (v := 0) dX3_isEndBehind_31 (by decide) ?_
    exact ab_zret dX3_isEndBehind_32 rfl rfl (by decide) (Or.inr (⟨(by grind), rfl, rfl⟩))
def Lk_betw (f10_0 : Int32) (f10_1 : Int32) (f10_2 : Int32) (f10_3 : Int32) (a1 : Int32) : Int32 := (if (-Lk_unit f10_0 f10_1 ≤ (Lk_far f10_0 f10_1 f10_2 f10_3) ∧ (Lk_far f10_0 f10_1 f10_2 f10_3) ≤ Lk_unit f10_0 f10_1) ∧ Lk_side f10_0 f10_1 (Lk_far f10_0 f10_1 f10_2 f10_3) a1 * Lk_side f10_0 f10_1 (Lk_far f10_0 f10_1 f10_2 f10_3) (Tn_next a1) < 0 then (if (-Lk_unit f10_0 f10_1 ≤ (Lk_near f10_0 f10_1 f10_2 f10_3) ∧ (Lk_near f10_0 f10_1 f10_2 f10_3) ≤ Lk_unit f10_0 f10_1) ∧ Lk_side f10_0 f10_1 (Lk_near f10_0 f10_1 f10_2 f10_3) a1 * Lk_side f10_0 f10_1 (Lk_near f10_0 f10_1 f10_2 f10_3) (Tn_next a1) < 0 then 2 else 1) else (if (-Lk_unit f10_0 f10_1 ≤ (Lk_near f10_0 f10_1 f10_2 f10_3) ∧ (Lk_near f10_0 f10_1 f10_2 f10_3) ≤ Lk_unit f10_0 f10_1) ∧ Lk_side f10_0 f10_1 (Lk_near f10_0 f10_1 f10_2 f10_3) a1 * Lk_side f10_0 f10_1 (Lk_near f10_0 f10_1 f10_2 f10_3) (Tn_next a1) < 0 then 1 else 0))
theorem c_X3_endsBehind {x0 x1 x2 x3 x4 x5 x6 x7 x8 x9 x11 x12 x13 x14 x15 x16 x17 x18 x19 x20 x21 x22 x23 x24 x25 x26 x27 x28 x29 x30 x31 x32 : ax_E} {f10_0 f10_1 f10_2 f10_3 a1 : Int32} {wm : List ax_E} (h_k : 0 ≤ a1 ∧ a1 < 40) : Ct M_X3_endsBehind [.ref 10, .int a1] ([x0, x1, x2, x3, x4, x5, x6, x7, x8, x9, ob 3 [.int f10_0, .int f10_1, .int f10_2, .int f10_3], x11, x12, x13, x14, x15, x16, x17, x18, x19, x20, x21, x22, x23, x24, x25, x26, x27, x28, x29, x30, x31, x32], wm) (fun r w' => r = some (.int (Lk_betw f10_0 f10_1 f10_2 f10_3 a1)) ∧ w' = ([x0, x1, x2, x3, x4, x5, x6, x7, x8, x9, ob 3 [.int f10_0, .int f10_1, .int f10_2, .int f10_3], x11, x12, x13, x14, x15, x16, x17, x18, x19, x20, x21, x22, x23, x24, x25, x26, x27, x28, x29, x30, x31, x32], wm)) := by
  refine ct_of ⟨by decide, rfl⟩ (Nat.le_of_ble_eq_true rfl) ?_
  refine ab_aload_n dX3_endsBehind_0 rfl ?_
  refine ab_aload_n dX3_endsBehind_1 rfl ?_
  refine ab_callV (As := []) (rest := [.ref 10]) dX3_endsBehind_2 mv_X3_stretchedCosine ml_X3_67 ⟨by decide, by decide, rfl, rfl, rfl⟩ (by decide) rfl rfl (Nat.le_of_ble_eq_true rfl) rfl c_X3_stretchedCosine ?_
  rintro r w' ⟨rfl, rfl⟩
  refine ab_iload_n dX3_endsBehind_5 rfl ?_
  refine ab_callV (As := [.int (Lk_far f10_0 f10_1 f10_2 f10_3), .int a1]) (rest := []) dX3_endsBehind_6 mv_X3_isEndBehind ml_X3_83 ⟨by decide, by decide, rfl, rfl, rfl⟩ (by decide) rfl rfl (Nat.le_of_ble_eq_true rfl) rfl (c_X3_isEndBehind h_k) ?_
  rintro r w' (⟨c_1, rfl, rfl⟩ | ⟨c_2, rfl, rfl⟩)
  · refine ab_ifeq 16 dX3_endsBehind_9 (by decide) (fun h_3 => absurd h_3 (by decide)) (fun h_3 => ?_)
    refine ab_iconst (v := 1) dX3_endsBehind_12 (by decide) ?_
    refine ab_goto 17 dX3_endsBehind_13 (by decide) ?_
    refine ab_aload_n dX3_endsBehind_17 rfl ?_
    refine ab_aload_n dX3_endsBehind_18 rfl ?_
    refine ab_callV (As := []) (rest := [.ref 10, .int 1]) dX3_endsBehind_19 mv_X3_foldedCosine ml_X3_70 ⟨by decide, by decide, rfl, rfl, rfl⟩ (by decide) rfl rfl (Nat.le_of_ble_eq_true rfl) rfl c_X3_foldedCosine ?_
    rintro r w' ⟨rfl, rfl⟩
    refine ab_iload_n dX3_endsBehind_22 rfl ?_
    refine ab_callV (As := [.int (Lk_near f10_0 f10_1 f10_2 f10_3), .int a1]) (rest := [.int 1]) dX3_endsBehind_23 mv_X3_isEndBehind ml_X3_83 ⟨by decide, by decide, rfl, rfl, rfl⟩ (by decide) rfl rfl (Nat.le_of_ble_eq_true rfl) rfl (c_X3_isEndBehind h_k) ?_
    rintro r w' (⟨c_4, rfl, rfl⟩ | ⟨c_5, rfl, rfl⟩)
    · refine ab_ifeq 33 dX3_endsBehind_26 (by decide) (fun h_6 => absurd h_6 (by decide)) (fun h_6 => ?_)
      refine ab_iconst (v := 1) dX3_endsBehind_29 (by decide) ?_
      refine ab_goto 34 dX3_endsBehind_30 (by decide) ?_
      refine ab_iadd dX3_endsBehind_34 ?_
      refine ab_topi (v := 2) (by decide) ?_
      exact ab_iret dX3_endsBehind_35 rfl (by decide) (⟨by rw [Lk_betw, if_pos (show (-Lk_unit f10_0 f10_1 ≤ (Lk_far f10_0 f10_1 f10_2 f10_3) ∧ (Lk_far f10_0 f10_1 f10_2 f10_3) ≤ Lk_unit f10_0 f10_1) ∧ Lk_side f10_0 f10_1 (Lk_far f10_0 f10_1 f10_2 f10_3) a1 * Lk_side f10_0 f10_1 (Lk_far f10_0 f10_1 f10_2 f10_3) (Tn_next a1) < 0 from c_1), if_pos (show (-Lk_unit f10_0 f10_1 ≤ (Lk_near f10_0 f10_1 f10_2 f10_3) ∧ (Lk_near f10_0 f10_1 f10_2 f10_3) ≤ Lk_unit f10_0 f10_1) ∧ Lk_side f10_0 f10_1 (Lk_near f10_0 f10_1 f10_2 f10_3) a1 * Lk_side f10_0 f10_1 (Lk_near f10_0 f10_1 f10_2 f10_3) (Tn_next a1) < 0 from c_4)], rfl⟩)
    · refine ab_ifeq 33 dX3_endsBehind_26 (by decide) (fun h_7 => ?_) (fun h_7 => absurd (by decide) h_7)
      refine ab_iconst (v := 0) dX3_endsBehind_33 (by decide) ?_
      refine ab_iadd dX3_endsBehind_34 ?_
      refine ab_topi (v := 1) (by decide) ?_
      exact ab_iret dX3_endsBehind_35 rfl (by decide) (⟨by rw [Lk_betw, if_pos (show (-Lk_unit f10_0 f10_1 ≤ (Lk_far f10_0 f10_1 f10_2 f10_3) ∧ (Lk_far f10_0 f10_1 f10_2 f10_3) ≤ Lk_unit f10_0 f10_1) ∧ Lk_side f10_0 f10_1 (Lk_far f10_0 f10_1 f10_2 f10_3) a1 * Lk_side f10_0 f10_1 (Lk_far f10_0 f10_1 f10_2 f10_3) (Tn_next a1) < 0 from c_1), if_neg (show ¬ ((-Lk_unit f10_0 f10_1 ≤ (Lk_near f10_0 f10_1 f10_2 f10_3) ∧ (Lk_near f10_0 f10_1 f10_2 f10_3) ≤ Lk_unit f10_0 f10_1) ∧ Lk_side f10_0 f10_1 (Lk_near f10_0 f10_1 f10_2 f10_3) a1 * Lk_side f10_0 f10_1 (Lk_near f10_0 f10_1 f10_2 f10_3) (Tn_next a1) < 0) from c_5)], rfl⟩)
  · refine ab_ifeq 16 dX3_endsBehind_9 (by decide) (fun h_8 => ?_) (fun h_8 => absurd (by decide) h_8)
    refine ab_iconst (v := 0) dX3_endsBehind_16 (by decide) ?_
    refine ab_aload_n dX3_endsBehind_17 rfl ?_
    refine ab_aload_n dX3_endsBehind_18 rfl ?_
    refine ab_callV (As := []) (rest := [.ref 10, .int 0]) dX3_endsBehind_19 mv_X3_foldedCosine ml_X3_70 ⟨by decide, by decide, rfl, rfl, rfl⟩ (by decide) rfl rfl (Nat.le_of_ble_eq_true rfl) rfl c_X3_foldedCosine ?_
    rintro r w' ⟨rfl, rfl⟩
    refine ab_iload_n dX3_endsBehind_22 rfl ?_
    refine ab_callV (As := [.int (Lk_near f10_0 f10_1 f10_2 f10_3), .int a1]) (rest := [.int 0]) dX3_endsBehind_23 mv_X3_isEndBehind ml_X3_83 ⟨by decide, by decide, rfl, rfl, rfl⟩ (by decide) rfl rfl (Nat.le_of_ble_eq_true rfl) rfl (c_X3_isEndBehind h_k) ?_
    rintro r w' (⟨c_9, rfl, rfl⟩ | ⟨c_10, rfl, rfl⟩)
    · refine ab_ifeq 33 dX3_endsBehind_26 (by decide) (fun h_11 => absurd h_11 (by decide)) (fun h_11 => ?_)
      refine ab_iconst (v := 1) dX3_endsBehind_29 (by decide) ?_
      refine ab_goto 34 dX3_endsBehind_30 (by decide) ?_
      refine ab_iadd dX3_endsBehind_34 ?_
      refine ab_topi (v := 1) (by decide) ?_
      exact ab_iret dX3_endsBehind_35 rfl (by decide) (⟨by rw [Lk_betw, if_neg (show ¬ ((-Lk_unit f10_0 f10_1 ≤ (Lk_far f10_0 f10_1 f10_2 f10_3) ∧ (Lk_far f10_0 f10_1 f10_2 f10_3) ≤ Lk_unit f10_0 f10_1) ∧ Lk_side f10_0 f10_1 (Lk_far f10_0 f10_1 f10_2 f10_3) a1 * Lk_side f10_0 f10_1 (Lk_far f10_0 f10_1 f10_2 f10_3) (Tn_next a1) < 0) from c_2), if_pos (show (-Lk_unit f10_0 f10_1 ≤ (Lk_near f10_0 f10_1 f10_2 f10_3) ∧ (Lk_near f10_0 f10_1 f10_2 f10_3) ≤ Lk_unit f10_0 f10_1) ∧ Lk_side f10_0 f10_1 (Lk_near f10_0 f10_1 f10_2 f10_3) a1 * Lk_side f10_0 f10_1 (Lk_near f10_0 f10_1 f10_2 f10_3) (Tn_next a1) < 0 from c_9)], rfl⟩)
    · refine ab_ifeq 33 dX3_endsBehind_26 (by decide) (fun h_12 => ?_) (fun h_12 => absurd (by decide) h_12)
      refine ab_iconst (v := 0) dX3_endsBehind_33 (by decide) ?_
      refine ab_iadd dX3_endsBehind_34 ?_
      refine ab_topi (v := 0) (by decide) ?_
      exact ab_iret dX3_endsBehind_35 rfl (by decide) (⟨by rw [Lk_betw, if_neg (show ¬ ((-Lk_unit f10_0 f10_1 ≤ (Lk_far f10_0 f10_1 f10_2 f10_3) ∧ (Lk_far f10_0 f10_1 f10_2 f10_3) ≤ Lk_unit f10_0 f10_1) ∧ Lk_side f10_0 f10_1 (Lk_far f10_0 f10_1 f10_2 f10_3) a1 * Lk_side f10_0 f10_1 (Lk_far f10_0 f10_1 f10_2 f10_3) (Tn_next a1) < 0) from c_2), if_neg (show ¬ ((-Lk_unit f10_0 f10_1 ≤ (Lk_near f10_0 f10_1 f10_2 f10_3) ∧ (Lk_near f10_0 f10_1 f10_2 f10_3) ≤ Lk_unit f10_0 f10_1) ∧ Lk_side f10_0 f10_1 (Lk_near f10_0 f10_1 f10_2 f10_3) a1 * Lk_side f10_0 f10_1 (Lk_near f10_0 f10_1 f10_2 f10_3) (Tn_next a1) < 0) from c_10)], rfl⟩)
def Ps_n (a2 : Int32) : Int64 := (Int32.toInt64 (((ax_tab 0 (Int32.toNatClampNeg a2)) * (ax_tab 0 (Int32.toNatClampNeg a2))) + ((ax_tab 1 (Int32.toNatClampNeg a2)) * (ax_tab 1 (Int32.toNatClampNeg a2)))))
def Ps_c (a2 : Int32) : Int64 := (Int32.toInt64 (((ax_tab 1 (Int32.toNatClampNeg a2)) * (ax_tab 1 (Int32.toNatClampNeg a2))) - ((ax_tab 0 (Int32.toNatClampNeg a2)) * (ax_tab 0 (Int32.toNatClampNeg a2)))))
def Ps_d (a2 : Int32) : Int64 := (Int32.toInt64 ((2 * (ax_tab 0 (Int32.toNatClampNeg a2))) * (ax_tab 1 (Int32.toNatClampNeg a2))))
def Ps_s (f10_0 : Int32) (f10_1 : Int32) (a2 : Int32) : Int64 := (((((Int32.toInt64 f10_0) * (Int32.toInt64 f10_0)) + ((Int32.toInt64 f10_1) * (Int32.toInt64 f10_1))) * (Ps_n a2)) - (((2 * (Int32.toInt64 f10_0)) * (Int32.toInt64 f10_1)) * (Ps_c a2)))
def Ps_e (f10_0 : Int32) (f10_1 : Int32) (f10_2 : Int32) (f10_3 : Int32) (a2 : Int32) : Int64 := ((Ps_s f10_0 f10_1 a2) + ((((Int32.toInt64 f10_2) * (Int32.toInt64 f10_2)) - ((Int32.toInt64 f10_3) * (Int32.toInt64 f10_3))) * (Ps_n a2)))
def Ps_k (f10_0 : Int32) (f10_1 : Int32) (f10_2 : Int32) (f10_3 : Int32) (a2 : Int32) : Int64 := (((((4 * (Int32.toInt64 f10_2)) * (Int32.toInt64 f10_2)) * (Ps_s f10_0 f10_1 a2)) * (Ps_n a2)) - ((Ps_e f10_0 f10_1 f10_2 f10_3 a2) * (Ps_e f10_0 f10_1 f10_2 f10_3 a2)))
def Ps_x (f10_0 : Int32) (f10_1 : Int32) (a2 : Int32) : Int64 := (((Int32.toInt64 f10_0) * (Ps_n a2)) - ((Int32.toInt64 f10_1) * (Ps_c a2)))
def Ps_y (f10_1 : Int32) (a2 : Int32) : Int64 := ((-(Int32.toInt64 f10_1)) * (Ps_d a2))
theorem c_X5_set {x0 x1 x2 x3 x4 x5 x6 x7 x8 x9 x12 x13 x14 x15 x16 x17 x18 x19 x20 x21 x22 x23 x24 x25 x26 x27 x28 x29 x30 x31 x32 : ax_E} {f10_0 f10_1 f10_2 f10_3 a2 : Int32} {f11_0 f11_1 f11_2 f11_3 f11_4 f11_5 f11_6 f11_7 f11_8 f11_9 f11_10 f11_11 f11_12 f11_13 f11_14 f11_15 : Int64} {wm : List ax_E} (h_k : 0 ≤ a2 ∧ a2 < 40) : Ct M_X5_set [.ref 11, .ref 10, .int a2] ([x0, x1, x2, x3, x4, x5, x6, x7, x8, x9, ob 3 [.int f10_0, .int f10_1, .int f10_2, .int f10_3], ob 5 [.long f11_0, .long f11_1, .long f11_2, .long f11_3, .long f11_4, .long f11_5, .long f11_6, .long f11_7, .long f11_8, .long f11_9, .long f11_10, .long f11_11, .long f11_12, .long f11_13, .long f11_14, .long f11_15], x12, x13, x14, x15, x16, x17, x18, x19, x20, x21, x22, x23, x24, x25, x26, x27, x28, x29, x30, x31, x32], wm) (fun r w' => r = none ∧ w' = ([x0, x1, x2, x3, x4, x5, x6, x7, x8, x9, ob 3 [.int f10_0, .int f10_1, .int f10_2, .int f10_3], ob 5 [.long (Ps_n a2), .long (Ps_d a2), .long (Ps_s f10_0 f10_1 a2), .long (Ps_k f10_0 f10_1 f10_2 f10_3 a2), .long (Int32.toInt64 f10_0), .long (Int32.toInt64 f10_1), .long (Int32.toInt64 f10_2), .long (Int32.toInt64 f10_3), .long (Ps_c a2), .long (Ps_e f10_0 f10_1 f10_2 f10_3 a2), .long (Ps_x f10_0 f10_1 a2), .long (Ps_y f10_1 a2), .long f11_12, .long f11_13, .long f11_14, .long f11_15], x12, x13, x14, x15, x16, x17, x18, x19, x20, x21, x22, x23, x24, x25, x26, x27, x28, x29, x30, x31, x32], wm)) := by
  refine ct_of ⟨by decide, rfl⟩ (Nat.le_of_ble_eq_true rfl) ?_
  refine ab_aload_n dX5_set_0 rfl ?_
  refine ab_aload_n dX5_set_1 rfl ?_
  refine ab_getf dX5_set_2 fl_X5_58 rfl rfl ?_
  refine ab_i2l dX5_set_5 ?_
  refine ab_putf (w1 := ([x0, x1, x2, x3, x4, x5, x6, x7, x8, x9, ob 3 [.int f10_0, .int f10_1, .int f10_2, .int f10_3], ob 5 [.long f11_0, .long f11_1, .long f11_2, .long f11_3, .long (Int32.toInt64 f10_0), .long f11_5, .long f11_6, .long f11_7, .long f11_8, .long f11_9, .long f11_10, .long f11_11, .long f11_12, .long f11_13, .long f11_14, .long f11_15], x12, x13, x14, x15, x16, x17, x18, x19, x20, x21, x22, x23, x24, x25, x26, x27, x28, x29, x30, x31, x32], wm)) dX5_set_6 fl_X5_22 rfl (Nat.le_of_ble_eq_true rfl) (fun _ => ⟨rfl, rfl⟩) rfl ?_
  refine ab_aload_n dX5_set_9 rfl ?_
  refine ab_aload_n dX5_set_10 rfl ?_
  refine ab_getf dX5_set_11 fl_X5_63 rfl rfl ?_
  refine ab_i2l dX5_set_14 ?_
  refine ab_putf (w1 := ([x0, x1, x2, x3, x4, x5, x6, x7, x8, x9, ob 3 [.int f10_0, .int f10_1, .int f10_2, .int f10_3], ob 5 [.long f11_0, .long f11_1, .long f11_2, .long f11_3, .long (Int32.toInt64 f10_0), .long (Int32.toInt64 f10_1), .long f11_6, .long f11_7, .long f11_8, .long f11_9, .long f11_10, .long f11_11, .long f11_12, .long f11_13, .long f11_14, .long f11_15], x12, x13, x14, x15, x16, x17, x18, x19, x20, x21, x22, x23, x24, x25, x26, x27, x28, x29, x30, x31, x32], wm)) dX5_set_15 fl_X5_25 rfl (Nat.le_of_ble_eq_true rfl) (fun _ => ⟨rfl, rfl⟩) rfl ?_
  refine ab_aload_n dX5_set_18 rfl ?_
  refine ab_aload_n dX5_set_19 rfl ?_
  refine ab_getf dX5_set_20 fl_X5_65 rfl rfl ?_
  refine ab_i2l dX5_set_23 ?_
  refine ab_putf (w1 := ([x0, x1, x2, x3, x4, x5, x6, x7, x8, x9, ob 3 [.int f10_0, .int f10_1, .int f10_2, .int f10_3], ob 5 [.long f11_0, .long f11_1, .long f11_2, .long f11_3, .long (Int32.toInt64 f10_0), .long (Int32.toInt64 f10_1), .long (Int32.toInt64 f10_2), .long f11_7, .long f11_8, .long f11_9, .long f11_10, .long f11_11, .long f11_12, .long f11_13, .long f11_14, .long f11_15], x12, x13, x14, x15, x16, x17, x18, x19, x20, x21, x22, x23, x24, x25, x26, x27, x28, x29, x30, x31, x32], wm)) dX5_set_24 fl_X5_28 rfl (Nat.le_of_ble_eq_true rfl) (fun _ => ⟨rfl, rfl⟩) rfl ?_
  refine ab_aload_n dX5_set_27 rfl ?_
  refine ab_aload_n dX5_set_28 rfl ?_
  refine ab_getf dX5_set_29 fl_X5_67 rfl rfl ?_
  refine ab_i2l dX5_set_32 ?_
  refine ab_putf (w1 := ([x0, x1, x2, x3, x4, x5, x6, x7, x8, x9, ob 3 [.int f10_0, .int f10_1, .int f10_2, .int f10_3], ob 5 [.long f11_0, .long f11_1, .long f11_2, .long f11_3, .long (Int32.toInt64 f10_0), .long (Int32.toInt64 f10_1), .long (Int32.toInt64 f10_2), .long (Int32.toInt64 f10_3), .long f11_8, .long f11_9, .long f11_10, .long f11_11, .long f11_12, .long f11_13, .long f11_14, .long f11_15], x12, x13, x14, x15, x16, x17, x18, x19, x20, x21, x22, x23, x24, x25, x26, x27, x28, x29, x30, x31, x32], wm)) dX5_set_33 fl_X5_31 rfl (Nat.le_of_ble_eq_true rfl) (fun _ => ⟨rfl, rfl⟩) rfl ?_
  refine ab_iload_n dX5_set_36 rfl ?_
  refine ab_callS (As := [.int a2]) (rest := []) dX5_set_37 ms_X7_rise ml_X5_69 ⟨by decide, by decide, rfl, rfl, rfl⟩ (by decide) rfl rfl (Nat.le_of_ble_eq_true rfl) c_X7_rise ?_
  rintro r w' (⟨c_1, rfl, rfl⟩ | ⟨c_2, rfl, rfl⟩)
  · refine ab_istore_n (la' := [(3, .int (ax_tab 0 (Int32.toNatClampNeg a2))), (0, .ref 11), (1, .ref 10), (2, .int a2)]) dX5_set_40 (by decide) rfl ?_
    refine ab_iload_n dX5_set_41 rfl ?_
    refine ab_callS (As := [.int a2]) (rest := []) dX5_set_42 ms_X7_run ml_X5_75 ⟨by decide, by decide, rfl, rfl, rfl⟩ (by decide) rfl rfl (Nat.le_of_ble_eq_true rfl) c_X7_run ?_
    rintro r w' (⟨c_3, rfl, rfl⟩ | ⟨c_4, rfl, rfl⟩)
    · refine ab_istore (la' := [(4, .int (ax_tab 1 (Int32.toNatClampNeg a2))), (3, .int (ax_tab 0 (Int32.toNatClampNeg a2))), (0, .ref 11), (1, .ref 10), (2, .int a2)]) dX5_set_45 (by decide) rfl ?_
      refine ab_aload_n dX5_set_47 rfl ?_
      refine ab_iload_n dX5_set_48 rfl ?_
      refine ab_iload dX5_set_49 rfl ?_
      refine ab_callS (As := [.int (ax_tab 0 (Int32.toNatClampNeg a2)), .int (ax_tab 1 (Int32.toNatClampNeg a2))]) (rest := [.ref 11]) dX5_set_51 ms_X7_norm ml_X5_78 ⟨by decide, by decide, rfl, rfl, rfl⟩ (by decide) rfl rfl (Nat.le_of_ble_eq_true rfl) c_X7_norm ?_
      rintro r w' ⟨rfl, rfl⟩
      refine ab_i2l dX5_set_54 ?_
      refine ab_putf (w1 := ([x0, x1, x2, x3, x4, x5, x6, x7, x8, x9, ob 3 [.int f10_0, .int f10_1, .int f10_2, .int f10_3], ob 5 [.long (Ps_n a2), .long f11_1, .long f11_2, .long f11_3, .long (Int32.toInt64 f10_0), .long (Int32.toInt64 f10_1), .long (Int32.toInt64 f10_2), .long (Int32.toInt64 f10_3), .long f11_8, .long f11_9, .long f11_10, .long f11_11, .long f11_12, .long f11_13, .long f11_14, .long f11_15], x12, x13, x14, x15, x16, x17, x18, x19, x20, x21, x22, x23, x24, x25, x26, x27, x28, x29, x30, x31, x32], wm)) dX5_set_55 fl_X5_7 rfl (Nat.le_of_ble_eq_true rfl) (fun _ => ⟨rfl, rfl⟩) rfl ?_
      refine ab_aload_n dX5_set_58 rfl ?_
      refine ab_iload_n dX5_set_59 rfl ?_
      refine ab_iload dX5_set_60 rfl ?_
      refine ab_callS (As := [.int (ax_tab 0 (Int32.toNatClampNeg a2)), .int (ax_tab 1 (Int32.toNatClampNeg a2))]) (rest := [.ref 11]) dX5_set_62 ms_X7_cosine ml_X5_82 ⟨by decide, by decide, rfl, rfl, rfl⟩ (by decide) rfl rfl (Nat.le_of_ble_eq_true rfl) c_X7_cosine ?_
      rintro r w' ⟨rfl, rfl⟩
      refine ab_i2l dX5_set_65 ?_
      refine ab_putf (w1 := ([x0, x1, x2, x3, x4, x5, x6, x7, x8, x9, ob 3 [.int f10_0, .int f10_1, .int f10_2, .int f10_3], ob 5 [.long (Ps_n a2), .long f11_1, .long f11_2, .long f11_3, .long (Int32.toInt64 f10_0), .long (Int32.toInt64 f10_1), .long (Int32.toInt64 f10_2), .long (Int32.toInt64 f10_3), .long (Ps_c a2), .long f11_9, .long f11_10, .long f11_11, .long f11_12, .long f11_13, .long f11_14, .long f11_15], x12, x13, x14, x15, x16, x17, x18, x19, x20, x21, x22, x23, x24, x25, x26, x27, x28, x29, x30, x31, x32], wm)) dX5_set_66 fl_X5_34 rfl (Nat.le_of_ble_eq_true rfl) (fun _ => ⟨rfl, rfl⟩) rfl ?_
      refine ab_aload_n dX5_set_69 rfl ?_
      refine ab_iload_n dX5_set_70 rfl ?_
      refine ab_iload dX5_set_71 rfl ?_
      refine ab_callS (As := [.int (ax_tab 0 (Int32.toNatClampNeg a2)), .int (ax_tab 1 (Int32.toNatClampNeg a2))]) (rest := [.ref 11]) dX5_set_73 ms_X7_sine ml_X5_84 ⟨by decide, by decide, rfl, rfl, rfl⟩ (by decide) rfl rfl (Nat.le_of_ble_eq_true rfl) c_X7_sine ?_
      rintro r w' ⟨rfl, rfl⟩
      refine ab_i2l dX5_set_76 ?_
      refine ab_putf (w1 := ([x0, x1, x2, x3, x4, x5, x6, x7, x8, x9, ob 3 [.int f10_0, .int f10_1, .int f10_2, .int f10_3], ob 5 [.long (Ps_n a2), .long (Ps_d a2), .long f11_2, .long f11_3, .long (Int32.toInt64 f10_0), .long (Int32.toInt64 f10_1), .long (Int32.toInt64 f10_2), .long (Int32.toInt64 f10_3), .long (Ps_c a2), .long f11_9, .long f11_10, .long f11_11, .long f11_12, .long f11_13, .long f11_14, .long f11_15], x12, x13, x14, x15, x16, x17, x18, x19, x20, x21, x22, x23, x24, x25, x26, x27, x28, x29, x30, x31, x32], wm)) dX5_set_77 fl_X5_13 rfl (Nat.le_of_ble_eq_true rfl) (fun _ => ⟨rfl, rfl⟩) rfl ?_
      refine ab_aload_n dX5_set_80 rfl ?_
      refine ab_aload_n dX5_set_81 rfl ?_
      refine ab_getf dX5_set_82 fl_X5_22 rfl rfl ?_
      refine ab_aload_n dX5_set_85 rfl ?_
      refine ab_getf dX5_set_86 fl_X5_22 rfl rfl ?_
      refine ab_lmul dX5_set_89 ?_
      refine ab_aload_n dX5_set_90 rfl ?_
      refine ab_getf dX5_set_91 fl_X5_25 rfl rfl ?_
      refine ab_aload_n dX5_set_94 rfl ?_
      refine ab_getf dX5_set_95 fl_X5_25 rfl rfl ?_
      refine ab_lmul dX5_set_98 ?_
      refine ab_ladd dX5_set_99 ?_
      refine ab_aload_n dX5_set_100 rfl ?_
      refine ab_getf dX5_set_101 fl_X5_7 rfl rfl ?_
      refine ab_lmul dX5_set_104 ?_
      refine ab_ldc2 dX5_set_105 kl_X5_87 ?_
      refine ab_aload_n dX5_set_108 rfl ?_
      refine ab_getf dX5_set_109 fl_X5_22 rfl rfl ?_
      refine ab_lmul dX5_set_112 ?_
      refine ab_aload_n dX5_set_113 rfl ?_
      refine ab_getf dX5_set_114 fl_X5_25 rfl rfl ?_
      refine ab_lmul dX5_set_117 ?_
      refine ab_aload_n dX5_set_118 rfl ?_
      refine ab_getf dX5_set_119 fl_X5_34 rfl rfl ?_
      refine ab_lmul dX5_set_122 ?_
      refine ab_lsub dX5_set_123 ?_
      refine ab_putf (w1 := ([x0, x1, x2, x3, x4, x5, x6, x7, x8, x9, ob 3 [.int f10_0, .int f10_1, .int f10_2, .int f10_3], ob 5 [.long (Ps_n a2), .long (Ps_d a2), .long (Ps_s f10_0 f10_1 a2), .long f11_3, .long (Int32.toInt64 f10_0), .long (Int32.toInt64 f10_1), .long (Int32.toInt64 f10_2), .long (Int32.toInt64 f10_3), .long (Ps_c a2), .long f11_9, .long f11_10, .long f11_11, .long f11_12, .long f11_13, .long f11_14, .long f11_15], x12, x13, x14, x15, x16, x17, x18, x19, x20, x21, x22, x23, x24, x25, x26, x27, x28, x29, x30, x31, x32], wm)) dX5_set_124 fl_X5_16 rfl (Nat.le_of_ble_eq_true rfl) (fun _ => ⟨rfl, rfl⟩) rfl ?_
      refine ab_aload_n dX5_set_127 rfl ?_
      refine ab_aload_n dX5_set_128 rfl ?_
      refine ab_getf dX5_set_129 fl_X5_16 rfl rfl ?_
      refine ab_aload_n dX5_set_132 rfl ?_
      refine ab_getf dX5_set_133 fl_X5_28 rfl rfl ?_
      refine ab_aload_n dX5_set_136 rfl ?_
      refine ab_getf dX5_set_137 fl_X5_28 rfl rfl ?_
      refine ab_lmul dX5_set_140 ?_
      refine ab_aload_n dX5_set_141 rfl ?_
      refine ab_getf dX5_set_142 fl_X5_31 rfl rfl ?_
      refine ab_aload_n dX5_set_145 rfl ?_
      refine ab_getf dX5_set_146 fl_X5_31 rfl rfl ?_
      refine ab_lmul dX5_set_149 ?_
      refine ab_lsub dX5_set_150 ?_
      refine ab_aload_n dX5_set_151 rfl ?_
      refine ab_getf dX5_set_152 fl_X5_7 rfl rfl ?_
      refine ab_lmul dX5_set_155 ?_
      refine ab_ladd dX5_set_156 ?_
      refine ab_putf (w1 := ([x0, x1, x2, x3, x4, x5, x6, x7, x8, x9, ob 3 [.int f10_0, .int f10_1, .int f10_2, .int f10_3], ob 5 [.long (Ps_n a2), .long (Ps_d a2), .long (Ps_s f10_0 f10_1 a2), .long f11_3, .long (Int32.toInt64 f10_0), .long (Int32.toInt64 f10_1), .long (Int32.toInt64 f10_2), .long (Int32.toInt64 f10_3), .long (Ps_c a2), .long (Ps_e f10_0 f10_1 f10_2 f10_3 a2), .long f11_10, .long f11_11, .long f11_12, .long f11_13, .long f11_14, .long f11_15], x12, x13, x14, x15, x16, x17, x18, x19, x20, x21, x22, x23, x24, x25, x26, x27, x28, x29, x30, x31, x32], wm)) dX5_set_157 fl_X5_37 rfl (Nat.le_of_ble_eq_true rfl) (fun _ => ⟨rfl, rfl⟩) rfl ?_
      refine ab_aload_n dX5_set_160 rfl ?_
      refine ab_ldc2 dX5_set_161 kl_X5_89 ?_
      refine ab_aload_n dX5_set_164 rfl ?_
      refine ab_getf dX5_set_165 fl_X5_28 rfl rfl ?_
      refine ab_lmul dX5_set_168 ?_
      refine ab_aload_n dX5_set_169 rfl ?_
      refine ab_getf dX5_set_170 fl_X5_28 rfl rfl ?_
      refine ab_lmul dX5_set_173 ?_
      refine ab_aload_n dX5_set_174 rfl ?_
      refine ab_getf dX5_set_175 fl_X5_16 rfl rfl ?_
      refine ab_lmul dX5_set_178 ?_
      refine ab_aload_n dX5_set_179 rfl ?_
      refine ab_getf dX5_set_180 fl_X5_7 rfl rfl ?_
      refine ab_lmul dX5_set_183 ?_
      refine ab_aload_n dX5_set_184 rfl ?_
      refine ab_getf dX5_set_185 fl_X5_37 rfl rfl ?_
      refine ab_aload_n dX5_set_188 rfl ?_
      refine ab_getf dX5_set_189 fl_X5_37 rfl rfl ?_
      refine ab_lmul dX5_set_192 ?_
      refine ab_lsub dX5_set_193 ?_
      refine ab_putf (w1 := ([x0, x1, x2, x3, x4, x5, x6, x7, x8, x9, ob 3 [.int f10_0, .int f10_1, .int f10_2, .int f10_3], ob 5 [.long (Ps_n a2), .long (Ps_d a2), .long (Ps_s f10_0 f10_1 a2), .long (Ps_k f10_0 f10_1 f10_2 f10_3 a2), .long (Int32.toInt64 f10_0), .long (Int32.toInt64 f10_1), .long (Int32.toInt64 f10_2), .long (Int32.toInt64 f10_3), .long (Ps_c a2), .long (Ps_e f10_0 f10_1 f10_2 f10_3 a2), .long f11_10, .long f11_11, .long f11_12, .long f11_13, .long f11_14, .long f11_15], x12, x13, x14, x15, x16, x17, x18, x19, x20, x21, x22, x23, x24, x25, x26, x27, x28, x29, x30, x31, x32], wm)) dX5_set_194 fl_X5_19 rfl (Nat.le_of_ble_eq_true rfl) (fun _ => ⟨rfl, rfl⟩) rfl ?_
      refine ab_aload_n dX5_set_197 rfl ?_
      refine ab_aload_n dX5_set_198 rfl ?_
      refine ab_getf dX5_set_199 fl_X5_22 rfl rfl ?_
      refine ab_aload_n dX5_set_202 rfl ?_
      refine ab_getf dX5_set_203 fl_X5_7 rfl rfl ?_
      refine ab_lmul dX5_set_206 ?_
      refine ab_aload_n dX5_set_207 rfl ?_
      refine ab_getf dX5_set_208 fl_X5_25 rfl rfl ?_
      refine ab_aload_n dX5_set_211 rfl ?_
      refine ab_getf dX5_set_212 fl_X5_34 rfl rfl ?_
      refine ab_lmul dX5_set_215 ?_
      refine ab_lsub dX5_set_216 ?_
      refine ab_putf (w1 := ([x0, x1, x2, x3, x4, x5, x6, x7, x8, x9, ob 3 [.int f10_0, .int f10_1, .int f10_2, .int f10_3], ob 5 [.long (Ps_n a2), .long (Ps_d a2), .long (Ps_s f10_0 f10_1 a2), .long (Ps_k f10_0 f10_1 f10_2 f10_3 a2), .long (Int32.toInt64 f10_0), .long (Int32.toInt64 f10_1), .long (Int32.toInt64 f10_2), .long (Int32.toInt64 f10_3), .long (Ps_c a2), .long (Ps_e f10_0 f10_1 f10_2 f10_3 a2), .long (Ps_x f10_0 f10_1 a2), .long f11_11, .long f11_12, .long f11_13, .long f11_14, .long f11_15], x12, x13, x14, x15, x16, x17, x18, x19, x20, x21, x22, x23, x24, x25, x26, x27, x28, x29, x30, x31, x32], wm)) dX5_set_217 fl_X5_40 rfl (Nat.le_of_ble_eq_true rfl) (fun _ => ⟨rfl, rfl⟩) rfl ?_
      refine ab_aload_n dX5_set_220 rfl ?_
      refine ab_aload_n dX5_set_221 rfl ?_
      refine ab_getf dX5_set_222 fl_X5_25 rfl rfl ?_
      refine ab_lneg dX5_set_225 ?_
      refine ab_aload_n dX5_set_226 rfl ?_
      refine ab_getf dX5_set_227 fl_X5_13 rfl rfl ?_
      refine ab_lmul dX5_set_230 ?_
      refine ab_putf (w1 := ([x0, x1, x2, x3, x4, x5, x6, x7, x8, x9, ob 3 [.int f10_0, .int f10_1, .int f10_2, .int f10_3], ob 5 [.long (Ps_n a2), .long (Ps_d a2), .long (Ps_s f10_0 f10_1 a2), .long (Ps_k f10_0 f10_1 f10_2 f10_3 a2), .long (Int32.toInt64 f10_0), .long (Int32.toInt64 f10_1), .long (Int32.toInt64 f10_2), .long (Int32.toInt64 f10_3), .long (Ps_c a2), .long (Ps_e f10_0 f10_1 f10_2 f10_3 a2), .long (Ps_x f10_0 f10_1 a2), .long (Ps_y f10_1 a2), .long f11_12, .long f11_13, .long f11_14, .long f11_15], x12, x13, x14, x15, x16, x17, x18, x19, x20, x21, x22, x23, x24, x25, x26, x27, x28, x29, x30, x31, x32], wm)) dX5_set_231 fl_X5_43 rfl (Nat.le_of_ble_eq_true rfl) (fun _ => ⟨rfl, rfl⟩) rfl ?_
      exact ab_vret dX5_set_234 rfl (by decide) (⟨rfl, rfl⟩)
    · exact absurd h_k c_4
  · exact absurd h_k c_2
theorem c_X5_isLawful {x0 x1 x2 x3 x4 x5 x6 x7 x8 x9 x10 x12 x13 x14 x15 x16 x17 x18 x19 x20 x21 x22 x23 x24 x25 x26 x27 x28 x29 x30 x31 x32 : ax_E} {f11_0 f11_1 f11_2 f11_3 f11_4 f11_5 f11_6 f11_7 f11_8 f11_9 f11_10 f11_11 f11_12 f11_13 f11_14 f11_15 : Int64} {wm : List ax_E}  : Ct M_X5_isLawful [.ref 11] ([x0, x1, x2, x3, x4, x5, x6, x7, x8, x9, x10, ob 5 [.long f11_0, .long f11_1, .long f11_2, .long f11_3, .long f11_4, .long f11_5, .long f11_6, .long f11_7, .long f11_8, .long f11_9, .long f11_10, .long f11_11, .long f11_12, .long f11_13, .long f11_14, .long f11_15], x12, x13, x14, x15, x16, x17, x18, x19, x20, x21, x22, x23, x24, x25, x26, x27, x28, x29, x30, x31, x32], wm) (fun r w' => ((0 < f11_2 ∧ 0 ≤ f11_3) ∧ r = some (.int 1) ∧ w' = ([x0, x1, x2, x3, x4, x5, x6, x7, x8, x9, x10, ob 5 [.long f11_0, .long f11_1, .long f11_2, .long f11_3, .long f11_4, .long f11_5, .long f11_6, .long f11_7, .long f11_8, .long f11_9, .long f11_10, .long f11_11, .long f11_12, .long f11_13, .long f11_14, .long f11_15], x12, x13, x14, x15, x16, x17, x18, x19, x20, x21, x22, x23, x24, x25, x26, x27, x28, x29, x30, x31, x32], wm)) ∨ ((¬ (0 < f11_2 ∧ 0 ≤ f11_3)) ∧ r = some (.int 0) ∧ w' = ([x0, x1, x2, x3, x4, x5, x6, x7, x8, x9, x10, ob 5 [.long f11_0, .long f11_1, .long f11_2, .long f11_3, .long f11_4, .long f11_5, .long f11_6, .long f11_7, .long f11_8, .long f11_9, .long f11_10, .long f11_11, .long f11_12, .long f11_13, .long f11_14, .long f11_15], x12, x13, x14, x15, x16, x17, x18, x19, x20, x21, x22, x23, x24, x25, x26, x27, x28, x29, x30, x31, x32], wm))) := by
  refine ct_of ⟨by decide, rfl⟩ (Nat.le_of_ble_eq_true rfl) ?_
  refine ab_aload_n dX5_isLawful_0 rfl ?_
  refine ab_getf dX5_isLawful_1 fl_X5_16 rfl rfl ?_
  refine ab_lconst (v := 0) dX5_isLawful_4 (by decide) ?_
  refine ab_lcmple 22 dX5_isLawful_5 dX5_isLawful_6 (by decide) (fun h_1 => ?_) (fun h_1 => ?_)
  · refine ab_iconst (v := 0) dX5_isLawful_22 (by decide) ?_
    exact ab_zret dX5_isLawful_23 rfl rfl (by decide) (Or.inr (⟨(by grind), rfl, rfl⟩))
  · refine ab_aload_n dX5_isLawful_9 rfl ?_
    refine ab_getf dX5_isLawful_10 fl_X5_19 rfl rfl ?_
    refine ab_lconst (v := 0) dX5_isLawful_13 (by decide) ?_
    refine ab_lcmplt 22 dX5_isLawful_14 dX5_isLawful_15 (by decide) (fun h_2 => ?_) (fun h_2 => ?_)
    · refine ab_iconst (v := 0) dX5_isLawful_22 (by decide) ?_
      exact ab_zret dX5_isLawful_23 rfl rfl (by decide) (Or.inr (⟨(by grind), rfl, rfl⟩))
    · refine ab_iconst (v := 1) dX5_isLawful_18 (by decide) ?_
      refine ab_goto 23 dX5_isLawful_19 (by decide) ?_
      exact ab_zret dX5_isLawful_23 rfl rfl (by decide) (Or.inl (⟨(by grind), rfl, rfl⟩))
def Ps_state (f11_2 : Int64) (f11_3 : Int64) : Int32 := (if 0 < f11_2 ∧ 0 ≤ f11_3 then (if f11_3 = 0 then 2 else 1) else 0)
theorem c_X5_state {x0 x1 x2 x3 x4 x5 x6 x7 x8 x9 x10 x12 x13 x14 x15 x16 x17 x18 x19 x20 x21 x22 x23 x24 x25 x26 x27 x28 x29 x30 x31 x32 : ax_E} {f11_0 f11_1 f11_2 f11_3 f11_4 f11_5 f11_6 f11_7 f11_8 f11_9 f11_10 f11_11 f11_12 f11_13 f11_14 f11_15 : Int64} {wm : List ax_E}  : Ct M_X5_state [.ref 11] ([x0, x1, x2, x3, x4, x5, x6, x7, x8, x9, x10, ob 5 [.long f11_0, .long f11_1, .long f11_2, .long f11_3, .long f11_4, .long f11_5, .long f11_6, .long f11_7, .long f11_8, .long f11_9, .long f11_10, .long f11_11, .long f11_12, .long f11_13, .long f11_14, .long f11_15], x12, x13, x14, x15, x16, x17, x18, x19, x20, x21, x22, x23, x24, x25, x26, x27, x28, x29, x30, x31, x32], wm) (fun r w' => r = some (.int (Ps_state f11_2 f11_3)) ∧ w' = ([x0, x1, x2, x3, x4, x5, x6, x7, x8, x9, x10, ob 5 [.long f11_0, .long f11_1, .long f11_2, .long f11_3, .long f11_4, .long f11_5, .long f11_6, .long f11_7, .long f11_8, .long f11_9, .long f11_10, .long f11_11, .long f11_12, .long f11_13, .long f11_14, .long f11_15], x12, x13, x14, x15, x16, x17, x18, x19, x20, x21, x22, x23, x24, x25, x26, x27, x28, x29, x30, x31, x32], wm)) := by
  refine ct_of ⟨by decide, rfl⟩ (Nat.le_of_ble_eq_true rfl) ?_
  refine ab_aload_n dX5_state_0 rfl ?_
  refine ab_callV (As := []) (rest := []) dX5_state_1 mv_X5_isLawful ml_X5_91 ⟨by decide, by decide, rfl, rfl, rfl⟩ (by decide) rfl rfl (Nat.le_of_ble_eq_true rfl) rfl c_X5_isLawful ?_
  rintro r w' (⟨c_1, rfl, rfl⟩ | ⟨c_2, rfl, rfl⟩)
  · refine ab_ifne 9 dX5_state_4 (by decide) (fun h_3 => ?_) (fun h_3 => absurd h_3 (by decide))
    refine ab_aload_n dX5_state_9 rfl ?_
    refine ab_getf dX5_state_10 fl_X5_19 rfl rfl ?_
    refine ab_lconst (v := 0) dX5_state_13 (by decide) ?_
    refine ab_lcmpne 22 dX5_state_14 dX5_state_15 (by decide) (fun h_4 => ?_) (fun h_4 => ?_)
    · refine ab_iconst (v := 1) dX5_state_22 (by decide) ?_
      exact ab_iret dX5_state_23 rfl (by decide) (⟨by rw [Ps_state, if_pos (show 0 < f11_2 ∧ 0 ≤ f11_3 from c_1), if_neg (show ¬ f11_3 = 0 from h_4)], rfl⟩)
    · refine ab_iconst (v := 2) dX5_state_18 (by decide) ?_
      refine ab_goto 23 dX5_state_19 (by decide) ?_
      exact ab_iret dX5_state_23 rfl (by decide) (⟨by rw [Ps_state, if_pos (show 0 < f11_2 ∧ 0 ≤ f11_3 from c_1), if_pos (show f11_3 = 0 from h_4)], rfl⟩)
  · refine ab_ifne 9 dX5_state_4 (by decide) (fun h_5 => absurd (by decide) h_5) (fun h_5 => ?_)
    refine ab_iconst (v := 0) dX5_state_7 (by decide) ?_
    exact ab_iret dX5_state_8 rfl (by decide) (⟨by rw [Ps_state, if_neg (show ¬ (0 < f11_2 ∧ 0 ≤ f11_3) from c_2)], rfl⟩)
def Tr_ux (f11_2 : Int64) (f11_5 : Int64) (f11_8 : Int64) (f11_9 : Int64) (f11_10 : Int64) (f11_11 : Int64) (a1 : Int32) (a2 : Int32) : Int64 := ((((20 * f11_5) * f11_8) * f11_2) + (f11_9 * (((Int32.toInt64 a1) * f11_10) - ((Int32.toInt64 a2) * f11_11))))
def Tr_vx (f11_10 : Int64) (f11_11 : Int64) (a1 : Int32) (a2 : Int32) (a3 : Int32) : Int64 := ((-(((Int32.toInt64 a1) * f11_11) + ((Int32.toInt64 a2) * f11_10))) * (Sgn a3))
def Tr_uy (f11_1 : Int64) (f11_2 : Int64) (f11_5 : Int64) (f11_9 : Int64) (f11_10 : Int64) (f11_11 : Int64) (a1 : Int32) (a2 : Int32) : Int64 := ((((20 * f11_5) * f11_1) * f11_2) + (f11_9 * (((Int32.toInt64 a1) * f11_11) + ((Int32.toInt64 a2) * f11_10))))
def Tr_vy (f11_10 : Int64) (f11_11 : Int64) (a1 : Int32) (a2 : Int32) (a3 : Int32) : Int64 := ((((Int32.toInt64 a1) * f11_10) - ((Int32.toInt64 a2) * f11_11)) * (Sgn a3))
theorem c_X5_trace {x0 x1 x2 x3 x4 x5 x6 x7 x8 x9 x10 x12 x13 x14 x15 x16 x17 x18 x19 x20 x21 x22 x23 x24 x25 x26 x27 x28 x29 x30 x31 x32 : ax_E} {f11_0 f11_1 f11_2 f11_3 f11_4 f11_5 f11_6 f11_7 f11_8 f11_9 f11_10 f11_11 f11_12 f11_13 f11_14 f11_15 : Int64} {wm : List ax_E} {a1 a2 a3 : Int32}  : Ct M_X5_trace [.ref 11, .int a1, .int a2, .int a3] ([x0, x1, x2, x3, x4, x5, x6, x7, x8, x9, x10, ob 5 [.long f11_0, .long f11_1, .long f11_2, .long f11_3, .long f11_4, .long f11_5, .long f11_6, .long f11_7, .long f11_8, .long f11_9, .long f11_10, .long f11_11, .long f11_12, .long f11_13, .long f11_14, .long f11_15], x12, x13, x14, x15, x16, x17, x18, x19, x20, x21, x22, x23, x24, x25, x26, x27, x28, x29, x30, x31, x32], wm) (fun r w' => r = none ∧ w' = ([x0, x1, x2, x3, x4, x5, x6, x7, x8, x9, x10, ob 5 [.long f11_0, .long f11_1, .long f11_2, .long f11_3, .long f11_4, .long f11_5, .long f11_6, .long f11_7, .long f11_8, .long f11_9, .long f11_10, .long f11_11, .long (Tr_ux f11_2 f11_5 f11_8 f11_9 f11_10 f11_11 a1 a2), .long (Tr_vx f11_10 f11_11 a1 a2 a3), .long (Tr_uy f11_1 f11_2 f11_5 f11_9 f11_10 f11_11 a1 a2), .long (Tr_vy f11_10 f11_11 a1 a2 a3)], x12, x13, x14, x15, x16, x17, x18, x19, x20, x21, x22, x23, x24, x25, x26, x27, x28, x29, x30, x31, x32], wm)) := by
  refine ct_of ⟨by decide, rfl⟩ (Nat.le_of_ble_eq_true rfl) ?_
  refine ab_iload_n dX5_trace_0 rfl ?_
  refine ab_i2l dX5_trace_1 ?_
  refine ab_aload_n dX5_trace_2 rfl ?_
  refine ab_getf dX5_trace_3 fl_X5_40 rfl rfl ?_
  refine ab_lmul dX5_trace_6 ?_
  refine ab_iload_n dX5_trace_7 rfl ?_
  refine ab_i2l dX5_trace_8 ?_
  refine ab_aload_n dX5_trace_9 rfl ?_
  refine ab_getf dX5_trace_10 fl_X5_43 rfl rfl ?_
  refine ab_lmul dX5_trace_13 ?_
  refine ab_lsub dX5_trace_14 ?_
  refine ab_lstore (la' := [(4, .long (((Int32.toInt64 a1) * f11_10) - ((Int32.toInt64 a2) * f11_11))), (0, .ref 11), (1, .int a1), (2, .int a2), (3, .int a3)]) dX5_trace_15 (by decide) rfl ?_
  refine ab_iload_n dX5_trace_17 rfl ?_
  refine ab_i2l dX5_trace_18 ?_
  refine ab_aload_n dX5_trace_19 rfl ?_
  refine ab_getf dX5_trace_20 fl_X5_43 rfl rfl ?_
  refine ab_lmul dX5_trace_23 ?_
  refine ab_iload_n dX5_trace_24 rfl ?_
  refine ab_i2l dX5_trace_25 ?_
  refine ab_aload_n dX5_trace_26 rfl ?_
  refine ab_getf dX5_trace_27 fl_X5_40 rfl rfl ?_
  refine ab_lmul dX5_trace_30 ?_
  refine ab_ladd dX5_trace_31 ?_
  refine ab_lstore (la' := [(6, .long (((Int32.toInt64 a1) * f11_11) + ((Int32.toInt64 a2) * f11_10))), (4, .long (((Int32.toInt64 a1) * f11_10) - ((Int32.toInt64 a2) * f11_11))), (0, .ref 11), (1, .int a1), (2, .int a2), (3, .int a3)]) dX5_trace_32 (by decide) rfl ?_
  refine ab_aload_n dX5_trace_34 rfl ?_
  refine ab_ldc2 dX5_trace_35 kl_X5_107 ?_
  refine ab_aload_n dX5_trace_38 rfl ?_
  refine ab_getf dX5_trace_39 fl_X5_25 rfl rfl ?_
  refine ab_lmul dX5_trace_42 ?_
  refine ab_aload_n dX5_trace_43 rfl ?_
  refine ab_getf dX5_trace_44 fl_X5_34 rfl rfl ?_
  refine ab_lmul dX5_trace_47 ?_
  refine ab_aload_n dX5_trace_48 rfl ?_
  refine ab_getf dX5_trace_49 fl_X5_16 rfl rfl ?_
  refine ab_lmul dX5_trace_52 ?_
  refine ab_aload_n dX5_trace_53 rfl ?_
  refine ab_getf dX5_trace_54 fl_X5_37 rfl rfl ?_
  refine ab_lload dX5_trace_57 rfl ?_
  refine ab_lmul dX5_trace_59 ?_
  refine ab_ladd dX5_trace_60 ?_
  refine ab_putf (w1 := ([x0, x1, x2, x3, x4, x5, x6, x7, x8, x9, x10, ob 5 [.long f11_0, .long f11_1, .long f11_2, .long f11_3, .long f11_4, .long f11_5, .long f11_6, .long f11_7, .long f11_8, .long f11_9, .long f11_10, .long f11_11, .long (Tr_ux f11_2 f11_5 f11_8 f11_9 f11_10 f11_11 a1 a2), .long f11_13, .long f11_14, .long f11_15], x12, x13, x14, x15, x16, x17, x18, x19, x20, x21, x22, x23, x24, x25, x26, x27, x28, x29, x30, x31, x32], wm)) dX5_trace_61 fl_X5_46 rfl (Nat.le_of_ble_eq_true rfl) (fun _ => ⟨rfl, rfl⟩) rfl ?_
  refine ab_aload_n dX5_trace_64 rfl ?_
  refine ab_lload dX5_trace_65 rfl ?_
  refine ab_lneg dX5_trace_67 ?_
  refine ab_iload_n dX5_trace_68 rfl ?_
  refine ab_callS (As := [.int a3]) (rest := [.long (-(((Int32.toInt64 a1) * f11_11) + ((Int32.toInt64 a2) * f11_10))), .ref 11]) dX5_trace_69 ms_X5_signOf ml_X5_97 ⟨by decide, by decide, rfl, rfl, rfl⟩ (by decide) rfl rfl (Nat.le_of_ble_eq_true rfl) c_X5_signOf_t ?_
  rintro r w' ⟨rfl, rfl⟩
  refine ab_lmul dX5_trace_72 ?_
  refine ab_putf (w1 := ([x0, x1, x2, x3, x4, x5, x6, x7, x8, x9, x10, ob 5 [.long f11_0, .long f11_1, .long f11_2, .long f11_3, .long f11_4, .long f11_5, .long f11_6, .long f11_7, .long f11_8, .long f11_9, .long f11_10, .long f11_11, .long (Tr_ux f11_2 f11_5 f11_8 f11_9 f11_10 f11_11 a1 a2), .long (Tr_vx f11_10 f11_11 a1 a2 a3), .long f11_14, .long f11_15], x12, x13, x14, x15, x16, x17, x18, x19, x20, x21, x22, x23, x24, x25, x26, x27, x28, x29, x30, x31, x32], wm)) dX5_trace_73 fl_X5_49 rfl (Nat.le_of_ble_eq_true rfl) (fun _ => ⟨rfl, rfl⟩) rfl ?_
  refine ab_aload_n dX5_trace_76 rfl ?_
  refine ab_ldc2 dX5_trace_77 kl_X5_107 ?_
  refine ab_aload_n dX5_trace_80 rfl ?_
  refine ab_getf dX5_trace_81 fl_X5_25 rfl rfl ?_
  refine ab_lmul dX5_trace_84 ?_
  refine ab_aload_n dX5_trace_85 rfl ?_
  refine ab_getf dX5_trace_86 fl_X5_13 rfl rfl ?_
  refine ab_lmul dX5_trace_89 ?_
  refine ab_aload_n dX5_trace_90 rfl ?_
  refine ab_getf dX5_trace_91 fl_X5_16 rfl rfl ?_
  refine ab_lmul dX5_trace_94 ?_
  refine ab_aload_n dX5_trace_95 rfl ?_
  refine ab_getf dX5_trace_96 fl_X5_37 rfl rfl ?_
  refine ab_lload dX5_trace_99 rfl ?_
  refine ab_lmul dX5_trace_101 ?_
  refine ab_ladd dX5_trace_102 ?_
  refine ab_putf (w1 := ([x0, x1, x2, x3, x4, x5, x6, x7, x8, x9, x10, ob 5 [.long f11_0, .long f11_1, .long f11_2, .long f11_3, .long f11_4, .long f11_5, .long f11_6, .long f11_7, .long f11_8, .long f11_9, .long f11_10, .long f11_11, .long (Tr_ux f11_2 f11_5 f11_8 f11_9 f11_10 f11_11 a1 a2), .long (Tr_vx f11_10 f11_11 a1 a2 a3), .long (Tr_uy f11_1 f11_2 f11_5 f11_9 f11_10 f11_11 a1 a2), .long f11_15], x12, x13, x14, x15, x16, x17, x18, x19, x20, x21, x22, x23, x24, x25, x26, x27, x28, x29, x30, x31, x32], wm)) dX5_trace_103 fl_X5_52 rfl (Nat.le_of_ble_eq_true rfl) (fun _ => ⟨rfl, rfl⟩) rfl ?_
  refine ab_aload_n dX5_trace_106 rfl ?_
  refine ab_lload dX5_trace_107 rfl ?_
  refine ab_iload_n dX5_trace_109 rfl ?_
  refine ab_callS (As := [.int a3]) (rest := [.long (((Int32.toInt64 a1) * f11_10) - ((Int32.toInt64 a2) * f11_11)), .ref 11]) dX5_trace_110 ms_X5_signOf ml_X5_97 ⟨by decide, by decide, rfl, rfl, rfl⟩ (by decide) rfl rfl (Nat.le_of_ble_eq_true rfl) c_X5_signOf_t ?_
  rintro r w' ⟨rfl, rfl⟩
  refine ab_lmul dX5_trace_113 ?_
  refine ab_putf (w1 := ([x0, x1, x2, x3, x4, x5, x6, x7, x8, x9, x10, ob 5 [.long f11_0, .long f11_1, .long f11_2, .long f11_3, .long f11_4, .long f11_5, .long f11_6, .long f11_7, .long f11_8, .long f11_9, .long f11_10, .long f11_11, .long (Tr_ux f11_2 f11_5 f11_8 f11_9 f11_10 f11_11 a1 a2), .long (Tr_vx f11_10 f11_11 a1 a2 a3), .long (Tr_uy f11_1 f11_2 f11_5 f11_9 f11_10 f11_11 a1 a2), .long (Tr_vy f11_10 f11_11 a1 a2 a3)], x12, x13, x14, x15, x16, x17, x18, x19, x20, x21, x22, x23, x24, x25, x26, x27, x28, x29, x30, x31, x32], wm)) dX5_trace_114 fl_X5_55 rfl (Nat.le_of_ble_eq_true rfl) (fun _ => ⟨rfl, rfl⟩) rfl ?_
  exact ab_vret dX5_trace_117 rfl (by decide) (⟨rfl, rfl⟩)
def Fo_u (f11_0 : Int64) (f11_2 : Int64) (f11_6 : Int64) (f11_7 : Int64) : Int64 := ((((f11_6 * f11_6) + (f11_7 * f11_7)) * f11_0) - f11_2)
theorem c_X5_forceUpper {x0 x1 x2 x3 x4 x5 x6 x7 x8 x9 x10 x12 x13 x14 x15 x16 x17 x18 x19 x20 x21 x22 x23 x24 x25 x26 x27 x28 x29 x30 x31 x32 : ax_E} {f11_0 f11_1 f11_2 f11_3 f11_4 f11_5 f11_6 f11_7 f11_8 f11_9 f11_10 f11_11 f11_12 f11_13 f11_14 f11_15 : Int64} {wm : List ax_E}  : Ct M_X5_forceUpper [.ref 11] ([x0, x1, x2, x3, x4, x5, x6, x7, x8, x9, x10, ob 5 [.long f11_0, .long f11_1, .long f11_2, .long f11_3, .long f11_4, .long f11_5, .long f11_6, .long f11_7, .long f11_8, .long f11_9, .long f11_10, .long f11_11, .long f11_12, .long f11_13, .long f11_14, .long f11_15], x12, x13, x14, x15, x16, x17, x18, x19, x20, x21, x22, x23, x24, x25, x26, x27, x28, x29, x30, x31, x32], wm) (fun r w' => r = some (.long (Fo_u f11_0 f11_2 f11_6 f11_7)) ∧ w' = ([x0, x1, x2, x3, x4, x5, x6, x7, x8, x9, x10, ob 5 [.long f11_0, .long f11_1, .long f11_2, .long f11_3, .long f11_4, .long f11_5, .long f11_6, .long f11_7, .long f11_8, .long f11_9, .long f11_10, .long f11_11, .long f11_12, .long f11_13, .long f11_14, .long f11_15], x12, x13, x14, x15, x16, x17, x18, x19, x20, x21, x22, x23, x24, x25, x26, x27, x28, x29, x30, x31, x32], wm)) := by
  refine ct_of ⟨by decide, rfl⟩ (Nat.le_of_ble_eq_true rfl) ?_
  refine ab_aload_n dX5_forceUpper_0 rfl ?_
  refine ab_getf dX5_forceUpper_1 fl_X5_28 rfl rfl ?_
  refine ab_aload_n dX5_forceUpper_4 rfl ?_
  refine ab_getf dX5_forceUpper_5 fl_X5_28 rfl rfl ?_
  refine ab_lmul dX5_forceUpper_8 ?_
  refine ab_aload_n dX5_forceUpper_9 rfl ?_
  refine ab_getf dX5_forceUpper_10 fl_X5_31 rfl rfl ?_
  refine ab_aload_n dX5_forceUpper_13 rfl ?_
  refine ab_getf dX5_forceUpper_14 fl_X5_31 rfl rfl ?_
  refine ab_lmul dX5_forceUpper_17 ?_
  refine ab_ladd dX5_forceUpper_18 ?_
  refine ab_aload_n dX5_forceUpper_19 rfl ?_
  refine ab_getf dX5_forceUpper_20 fl_X5_7 rfl rfl ?_
  refine ab_lmul dX5_forceUpper_23 ?_
  refine ab_aload_n dX5_forceUpper_24 rfl ?_
  refine ab_getf dX5_forceUpper_25 fl_X5_16 rfl rfl ?_
  refine ab_lsub dX5_forceUpper_28 ?_
  exact ab_lret dX5_forceUpper_29 rfl (by decide) (⟨rfl, rfl⟩)
def Fo_l (f11_0 : Int64) (f11_6 : Int64) (f11_7 : Int64) : Int64 := (((2 * f11_6) * f11_7) * f11_0)
theorem c_X5_forceLower {x0 x1 x2 x3 x4 x5 x6 x7 x8 x9 x10 x12 x13 x14 x15 x16 x17 x18 x19 x20 x21 x22 x23 x24 x25 x26 x27 x28 x29 x30 x31 x32 : ax_E} {f11_0 f11_1 f11_2 f11_3 f11_4 f11_5 f11_6 f11_7 f11_8 f11_9 f11_10 f11_11 f11_12 f11_13 f11_14 f11_15 : Int64} {wm : List ax_E}  : Ct M_X5_forceLower [.ref 11] ([x0, x1, x2, x3, x4, x5, x6, x7, x8, x9, x10, ob 5 [.long f11_0, .long f11_1, .long f11_2, .long f11_3, .long f11_4, .long f11_5, .long f11_6, .long f11_7, .long f11_8, .long f11_9, .long f11_10, .long f11_11, .long f11_12, .long f11_13, .long f11_14, .long f11_15], x12, x13, x14, x15, x16, x17, x18, x19, x20, x21, x22, x23, x24, x25, x26, x27, x28, x29, x30, x31, x32], wm) (fun r w' => r = some (.long (Fo_l f11_0 f11_6 f11_7)) ∧ w' = ([x0, x1, x2, x3, x4, x5, x6, x7, x8, x9, x10, ob 5 [.long f11_0, .long f11_1, .long f11_2, .long f11_3, .long f11_4, .long f11_5, .long f11_6, .long f11_7, .long f11_8, .long f11_9, .long f11_10, .long f11_11, .long f11_12, .long f11_13, .long f11_14, .long f11_15], x12, x13, x14, x15, x16, x17, x18, x19, x20, x21, x22, x23, x24, x25, x26, x27, x28, x29, x30, x31, x32], wm)) := by
  refine ct_of ⟨by decide, rfl⟩ (Nat.le_of_ble_eq_true rfl) ?_
  refine ab_ldc2 dX5_forceLower_0 kl_X5_87 ?_
  refine ab_aload_n dX5_forceLower_3 rfl ?_
  refine ab_getf dX5_forceLower_4 fl_X5_28 rfl rfl ?_
  refine ab_lmul dX5_forceLower_7 ?_
  refine ab_aload_n dX5_forceLower_8 rfl ?_
  refine ab_getf dX5_forceLower_9 fl_X5_31 rfl rfl ?_
  refine ab_lmul dX5_forceLower_12 ?_
  refine ab_aload_n dX5_forceLower_13 rfl ?_
  refine ab_getf dX5_forceLower_14 fl_X5_7 rfl rfl ?_
  refine ab_lmul dX5_forceLower_17 ?_
  exact ab_lret dX5_forceLower_18 rfl (by decide) (⟨rfl, rfl⟩)
