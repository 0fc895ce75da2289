theorem ix_r {x m : Int32} {n : Nat} (h : 0 ≤ x ∧ x < m) (hm : m.toInt = (n : Int)) : ax_ix x n x.toNatClampNeg := by
  refine ix_in ?_ ?_
  · simpa using Int32.le_iff_toInt_le.mp h.1
  · rw [← hm]; exact Int32.lt_iff_toInt_lt.mp h.2
theorem ix_p {x m : Int32} {n : Nat} (h1 : ¬ x < 0) (h2 : ¬ m ≤ x) (hm : m.toInt = (n : Int)) : ax_ix x n x.toNatClampNeg := ix_r ⟨Int32.not_lt.mp h1, Int32.not_le.mp h2⟩ hm
theorem c_X7_has {w : ax_W} {a1 : Int32}  : Ct M_X7_has [.int a1] w (fun r w' => ((0 ≤ a1 ∧ a1 < 40) ∧ r = some (.int 1) ∧ w' = w) ∨ ((¬ (0 ≤ a1 ∧ a1 < 40)) ∧ r = some (.int 0) ∧ w' = w)) := by
  refine ct_of ⟨by decide, rfl⟩ (Nat.le_of_ble_eq_true rfl) ?_
  refine ab_iload_n dX7_has_0 rfl ?_
  refine ab_iflt 14 dX7_has_1 (by decide) (fun h_1 => ?_) (fun h_1 => ?_)
  · refine ab_iconst (v := 0) dX7_has_14 (by decide) ?_
    exact ab_zret dX7_has_15 rfl rfl (by decide) (Or.inr (⟨(by grind), rfl, rfl⟩))
  · refine ab_iload_n dX7_has_4 rfl ?_
    refine ab_bipush (v := 40) dX7_has_5 (by decide) ?_
    refine ab_icmpge 14 dX7_has_7 (by decide) (fun h_2 => ?_) (fun h_2 => ?_)
    · refine ab_iconst (v := 0) dX7_has_14 (by decide) ?_
      exact ab_zret dX7_has_15 rfl rfl (by decide) (Or.inr (⟨(by grind), rfl, rfl⟩))
    · refine ab_iconst (v := 1) dX7_has_10 (by decide) ?_
      refine ab_goto 15 dX7_has_11 (by decide) ?_
      exact ab_zret dX7_has_15 rfl rfl (by decide) (Or.inl (⟨(by grind), rfl, rfl⟩))
theorem c_X7_norm {w : ax_W} {a1 a2 : Int32}  : Ct M_X7_norm [.int a1, .int a2] w (fun r w' => r = some (.int ((a1 * a1) + (a2 * a2))) ∧ w' = w) := by
  refine ct_of ⟨by decide, rfl⟩ (Nat.le_of_ble_eq_true rfl) ?_
  refine ab_iload_n dX7_norm_0 rfl ?_
  refine ab_iload_n dX7_norm_1 rfl ?_
  refine ab_imul dX7_norm_2 ?_
  refine ab_iload_n dX7_norm_3 rfl ?_
  refine ab_iload_n dX7_norm_4 rfl ?_
  refine ab_imul dX7_norm_5 ?_
  refine ab_iadd dX7_norm_6 ?_
  exact ab_iret dX7_norm_7 rfl (by decide) (⟨rfl, rfl⟩)
theorem c_X7_cosine {w : ax_W} {a1 a2 : Int32}  : Ct M_X7_cosine [.int a1, .int a2] w (fun r w' => r = some (.int ((a2 * a2) - (a1 * a1))) ∧ w' = w) := by
  refine ct_of ⟨by decide, rfl⟩ (Nat.le_of_ble_eq_true rfl) ?_
  refine ab_iload_n dX7_cosine_0 rfl ?_
  refine ab_iload_n dX7_cosine_1 rfl ?_
  refine ab_imul dX7_cosine_2 ?_
  refine ab_iload_n dX7_cosine_3 rfl ?_
  refine ab_iload_n dX7_cosine_4 rfl ?_
  refine ab_imul dX7_cosine_5 ?_
  refine ab_isub dX7_cosine_6 ?_
  exact ab_iret dX7_cosine_7 rfl (by decide) (⟨rfl, rfl⟩)
theorem c_X7_sine {w : ax_W} {a1 a2 : Int32}  : Ct M_X7_sine [.int a1, .int a2] w (fun r w' => r = some (.int ((2 * a1) * a2)) ∧ w' = w) := by
  refine ct_of ⟨by decide, rfl⟩ (Nat.le_of_ble_eq_true rfl) ?_
  refine ab_iconst (v := 2) dX7_sine_0 (by decide) ?_
  refine ab_iload_n dX7_sine_1 rfl ?_
  refine ab_imul dX7_sine_2 ?_
  refine ab_iload_n dX7_sine_3 rfl ?_
  refine ab_imul dX7_sine_4 ?_
  exact ab_iret dX7_sine_5 rfl (by decide) (⟨rfl, rfl⟩)
theorem c_X10_isOf {w : ax_W} {a1 a2 : Int32}  : Ct M_X10_isOf [.int a1, .int a2] w (fun r w' => ((0 ≤ a1 ∧ a1 < a2) ∧ r = some (.int 1) ∧ w' = w) ∨ ((¬ (0 ≤ a1 ∧ a1 < a2)) ∧ r = some (.int 0) ∧ w' = w)) := by
  refine ct_of ⟨by decide, rfl⟩ (Nat.le_of_ble_eq_true rfl) ?_
  refine ab_iload_n dX10_isOf_0 rfl ?_
  refine ab_iflt 13 dX10_isOf_1 (by decide) (fun h_1 => ?_) (fun h_1 => ?_)
  · refine ab_iconst (v := 0) dX10_isOf_13 (by decide) ?_
    exact ab_zret dX10_isOf_14 rfl rfl (by decide) (Or.inr (⟨(by grind), rfl, rfl⟩))
  · refine ab_iload_n dX10_isOf_4 rfl ?_
    refine ab_iload_n dX10_isOf_5 rfl ?_
    refine ab_icmpge 13 dX10_isOf_6 (by decide) (fun h_2 => ?_) (fun h_2 => ?_)
    · refine ab_iconst (v := 0) dX10_isOf_13 (by decide) ?_
      exact ab_zret dX10_isOf_14 rfl rfl (by decide) (Or.inr (⟨(by grind), rfl, rfl⟩))
    · refine ab_iconst (v := 1) dX10_isOf_9 (by decide) ?_
      refine ab_goto 14 dX10_isOf_10 (by decide) ?_
      exact ab_zret dX10_isOf_14 rfl rfl (by decide) (Or.inl (⟨(by grind), rfl, rfl⟩))
theorem c_X7_rise {w : ax_W} {a1 : Int32}  : Ct M_X7_rise [.int a1] w (fun r w' => ((0 ≤ a1 ∧ a1 < 40) ∧ r = some (.int (ax_tab 0 (Int32.toNatClampNeg a1))) ∧ w' = w) ∨ ((¬ (0 ≤ a1 ∧ a1 < 40)) ∧ r = some (.int 0) ∧ w' = w)) := by
  refine ct_of ⟨by decide, rfl⟩ (Nat.le_of_ble_eq_true rfl) ?_
  refine ab_iload_n dX7_rise_0 rfl ?_
  refine ab_callS (As := [.int a1]) (rest := []) dX7_rise_1 ms_X7_has ml_X7_11 ⟨by decide, by decide, rfl, rfl, rfl⟩ (by decide) rfl rfl (Nat.le_of_ble_eq_true rfl) c_X7_has ?_
  rintro r w' (⟨c_1, rfl, rfl⟩ | ⟨c_2, rfl, rfl⟩)
  · refine ab_ifeq 15 dX7_rise_4 (by decide) (fun h_3 => absurd h_3 (by decide)) (fun h_3 => ?_)
    refine ab_tbl (j := 0) dX7_rise_7 rfl fs_X7_15 ?_
    refine ab_iload_n dX7_rise_10 rfl ?_
    refine ab_tald (j := 0) (t := (Int32.toNatClampNeg a1)) (v := (ax_tab 0 (Int32.toNatClampNeg a1))) dX7_rise_11 rfl (ix_r c_1 (by decide)) rfl ?_
    refine ab_goto 16 dX7_rise_12 (by decide) ?_
    exact ab_iret dX7_rise_16 rfl (by decide) (Or.inl ⟨c_1, rfl, rfl⟩)
  · refine ab_ifeq 15 dX7_rise_4 (by decide) (fun h_4 => ?_) (fun h_4 => absurd (by decide) h_4)
    refine ab_iconst (v := 0) dX7_rise_15 (by decide) ?_
    exact ab_iret dX7_rise_16 rfl (by decide) (Or.inr (⟨c_2, rfl, rfl⟩))
theorem c_X7_run {w : ax_W} {a1 : Int32}  : Ct M_X7_run [.int a1] w (fun r w' => ((0 ≤ a1 ∧ a1 < 40) ∧ r = some (.int (ax_tab 1 (Int32.toNatClampNeg a1))) ∧ w' = w) ∨ ((¬ (0 ≤ a1 ∧ a1 < 40)) ∧ r = some (.int 0) ∧ w' = w)) := by
  refine ct_of ⟨by decide, rfl⟩ (Nat.le_of_ble_eq_true rfl) ?_
  refine ab_iload_n dX7_run_0 rfl ?_
  refine ab_callS (As := [.int a1]) (rest := []) dX7_run_1 ms_X7_has ml_X7_11 ⟨by decide, by decide, rfl, rfl, rfl⟩ (by decide) rfl rfl (Nat.le_of_ble_eq_true rfl) c_X7_has ?_
  rintro r w' (⟨c_1, rfl, rfl⟩ | ⟨c_2, rfl, rfl⟩)
  · refine ab_ifeq 15 dX7_run_4 (by decide) (fun h_3 => absurd h_3 (by decide)) (fun h_3 => ?_)
    refine ab_tbl (j := 1) dX7_run_7 rfl fs_X7_19 ?_
    refine ab_iload_n dX7_run_10 rfl ?_
    refine ab_tald (j := 1) (t := (Int32.toNatClampNeg a1)) (v := (ax_tab 1 (Int32.toNatClampNeg a1))) dX7_run_11 rfl (ix_r c_1 (by decide)) rfl ?_
    refine ab_goto 16 dX7_run_12 (by decide) ?_
    exact ab_iret dX7_run_16 rfl (by decide) (Or.inl ⟨c_1, rfl, rfl⟩)
  · refine ab_ifeq 15 dX7_run_4 (by decide) (fun h_4 => ?_) (fun h_4 => absurd (by decide) h_4)
    refine ab_iconst (v := 0) dX7_run_15 (by decide) ?_
    exact ab_iret dX7_run_16 rfl (by decide) (Or.inr (⟨c_2, rfl, rfl⟩))
theorem c_X7_behind {w : ax_W} {a1 : Int32}  : Ct M_X7_behind [.int a1] w (fun r w' => ((40 ≤ (a1 + 1)) ∧ r = some (.int 0) ∧ w' = w) ∨ ((¬ 40 ≤ (a1 + 1)) ∧ r = some (.int (a1 + 1)) ∧ w' = w)) := by
  refine ct_of ⟨by decide, rfl⟩ (Nat.le_of_ble_eq_true rfl) ?_
  refine ab_iload_n dX7_behind_0 rfl ?_
  refine ab_iconst (v := 1) dX7_behind_1 (by decide) ?_
  refine ab_iadd dX7_behind_2 ?_
  refine ab_bipush (v := 40) dX7_behind_3 (by decide) ?_
  refine ab_icmpge 14 dX7_behind_5 (by decide) (fun h_1 => ?_) (fun h_1 => ?_)
  · refine ab_iconst (v := 0) dX7_behind_14 (by decide) ?_
    exact ab_iret dX7_behind_15 rfl (by decide) (Or.inl ⟨h_1, rfl, rfl⟩)
  · refine ab_iload_n dX7_behind_8 rfl ?_
    refine ab_iconst (v := 1) dX7_behind_9 (by decide) ?_
    refine ab_iadd dX7_behind_10 ?_
    refine ab_goto 15 dX7_behind_11 (by decide) ?_
    exact ab_iret dX7_behind_15 rfl (by decide) (Or.inr (⟨h_1, rfl, rfl⟩))
theorem c_X7_ahead {w : ax_W} {a1 : Int32}  : Ct M_X7_ahead [.int a1] w (fun r w' => ((a1 ≤ 0) ∧ r = some (.int 39) ∧ w' = w) ∨ ((¬ a1 ≤ 0) ∧ r = some (.int (a1 - 1)) ∧ w' = w)) := by
  refine ct_of ⟨by decide, rfl⟩ (Nat.le_of_ble_eq_true rfl) ?_
  refine ab_iload_n dX7_ahead_0 rfl ?_
  refine ab_ifle 10 dX7_ahead_1 (by decide) (fun h_1 => ?_) (fun h_1 => ?_)
  · refine ab_bipush (v := 39) dX7_ahead_10 (by decide) ?_
    exact ab_iret dX7_ahead_12 rfl (by decide) (Or.inl ⟨h_1, rfl, rfl⟩)
  · refine ab_iload_n dX7_ahead_4 rfl ?_
    refine ab_iconst (v := 1) dX7_ahead_5 (by decide) ?_
    refine ab_isub dX7_ahead_6 ?_
    refine ab_goto 12 dX7_ahead_7 (by decide) ?_
    exact ab_iret dX7_ahead_12 rfl (by decide) (Or.inr (⟨h_1, rfl, rfl⟩))
theorem c_J6_compare_7cf53 {w : ax_W} {a1 a2 : Int32}  : Ct M_J6_compare_7cf53 [.int a1, .int a2] w (fun r w' => ((a2 ≤ a1) ∧ (¬ a1 = a2) ∧ r = some (.int 1) ∧ w' = w) ∨ ((a2 ≤ a1) ∧ (a1 = a2) ∧ r = some (.int 0) ∧ w' = w) ∨ ((¬ a2 ≤ a1) ∧ r = some (.int (-1)) ∧ w' = w)) := by
  refine ct_of ⟨by decide, rfl⟩ (Nat.le_of_ble_eq_true rfl) ?_
  refine ab_iload_n dJ6_compare_7cf53_0 rfl ?_
  refine ab_iload_n dJ6_compare_7cf53_1 rfl ?_
  refine ab_icmpge 9 dJ6_compare_7cf53_2 (by decide) (fun h_1 => ?_) (fun h_1 => ?_)
  · refine ab_iload_n dJ6_compare_7cf53_9 rfl ?_
    refine ab_iload_n dJ6_compare_7cf53_10 rfl ?_
    refine ab_icmpne 18 dJ6_compare_7cf53_11 (by decide) (fun h_2 => ?_) (fun h_2 => ?_)
    · refine ab_iconst (v := 1) dJ6_compare_7cf53_18 (by decide) ?_
      exact ab_iret dJ6_compare_7cf53_19 rfl (by decide) (Or.inl ⟨h_1, h_2, rfl, rfl⟩)
    · refine ab_iconst (v := 0) dJ6_compare_7cf53_14 (by decide) ?_
      refine ab_goto 19 dJ6_compare_7cf53_15 (by decide) ?_
      exact ab_iret dJ6_compare_7cf53_19 rfl (by decide) (Or.inr (Or.inl ⟨h_1, h_2, rfl, rfl⟩))
  · refine ab_iconst (v := -1) dJ6_compare_7cf53_5 (by decide) ?_
    refine ab_goto 19 dJ6_compare_7cf53_6 (by decide) ?_
    exact ab_iret dJ6_compare_7cf53_19 rfl (by decide) (Or.inr (Or.inr (⟨h_1, rfl, rfl⟩)))
theorem c_X5_signOf {w : ax_W} {a1 : Int32}  : Ct M_X5_signOf [.int a1] w (fun r w' => ((¬ a1 = 0) ∧ r = some (.long (-1)) ∧ w' = w) ∨ ((a1 = 0) ∧ r = some (.long 1) ∧ w' = w)) := by
  refine ct_of ⟨by decide, rfl⟩ (Nat.le_of_ble_eq_true rfl) ?_
  refine ab_iload_n dX5_signOf_0 rfl ?_
  refine ab_ifne 8 dX5_signOf_1 (by decide) (fun h_1 => ?_) (fun h_1 => ?_)
  · refine ab_ldc2 dX5_signOf_8 kl_X5_95 ?_
    exact ab_lret dX5_signOf_11 rfl (by decide) (Or.inl ⟨h_1, rfl, rfl⟩)
  · refine ab_lconst (v := 1) dX5_signOf_4 (by decide) ?_
    refine ab_goto 11 dX5_signOf_5 (by decide) ?_
    exact ab_lret dX5_signOf_11 rfl (by decide) (Or.inr (⟨h_1, rfl, rfl⟩))
theorem c_X11_in {w : ax_W} {a1 a2 a3 : Int32}  : Ct M_X11_in [.int a1, .int a2, .int a3] w (fun r w' => ((a2 ≤ a1 ∧ a1 ≤ a3) ∧ r = some (.int 1) ∧ w' = w) ∨ ((¬ (a2 ≤ a1 ∧ a1 ≤ a3)) ∧ r = some (.int 0) ∧ w' = w)) := by
  refine ct_of ⟨by decide, rfl⟩ (Nat.le_of_ble_eq_true rfl) ?_
  refine ab_iload_n dX11_in_0 rfl ?_
  refine ab_iload_n dX11_in_1 rfl ?_
  refine ab_icmplt 14 dX11_in_2 (by decide) (fun h_1 => ?_) (fun h_1 => ?_)
  · refine ab_iconst (v := 0) dX11_in_14 (by decide) ?_
    exact ab_zret dX11_in_15 rfl rfl (by decide) (Or.inr (⟨(by grind), rfl, rfl⟩))
  · refine ab_iload_n dX11_in_5 rfl ?_
    refine ab_iload_n dX11_in_6 rfl ?_
    refine ab_icmpgt 14 dX11_in_7 (by decide) (fun h_2 => ?_) (fun h_2 => ?_)
    · refine ab_iconst (v := 0) dX11_in_14 (by decide) ?_
      exact ab_zret dX11_in_15 rfl rfl (by decide) (Or.inr (⟨(by grind), rfl, rfl⟩))
    · refine ab_iconst (v := 1) dX11_in_10 (by decide) ?_
      refine ab_goto 15 dX11_in_11 (by decide) ?_
      exact ab_zret dX11_in_15 rfl rfl (by decide) (Or.inl (⟨(by grind), rfl, rfl⟩))
theorem c_X11_plain {w : ax_W} {a1 : Int64}  : Ct M_X11_plain [.long a1] w (fun r w' => ((0 ≤ a1) ∧ r = some (.long a1) ∧ w' = w) ∨ ((¬ 0 ≤ a1) ∧ r = some (.long (-a1)) ∧ w' = w)) := by
  refine ct_of ⟨by decide, rfl⟩ (Nat.le_of_ble_eq_true rfl) ?_
  refine ab_lload_n dX11_plain_0 rfl ?_
  refine ab_lconst (v := 0) dX11_plain_1 (by decide) ?_
  refine ab_lcmpge 11 dX11_plain_2 dX11_plain_3 (by decide) (fun h_1 => ?_) (fun h_1 => ?_)
  · refine ab_lload_n dX11_plain_11 rfl ?_
    exact ab_lret dX11_plain_12 rfl (by decide) (Or.inl ⟨h_1, rfl, rfl⟩)
  · refine ab_lload_n dX11_plain_6 rfl ?_
    refine ab_lneg dX11_plain_7 ?_
    refine ab_goto 12 dX11_plain_8 (by decide) ?_
    exact ab_lret dX11_plain_12 rfl (by decide) (Or.inr (⟨h_1, rfl, rfl⟩))
theorem c_X11_turned {w : ax_W} {a1 : Int64} {a2 : Int32}  : Ct M_X11_turned [.long a1, .int a2] w (fun r w' => ((¬ a2 = 0) ∧ r = some (.long (-a1)) ∧ w' = w) ∨ ((a2 = 0) ∧ r = some (.long a1) ∧ w' = w)) := by
  refine ct_of ⟨by decide, rfl⟩ (Nat.le_of_ble_eq_true rfl) ?_
  refine ab_iload_n dX11_turned_0 rfl ?_
  refine ab_ifne 8 dX11_turned_1 (by decide) (fun h_1 => ?_) (fun h_1 => ?_)
  · refine ab_lload_n dX11_turned_8 rfl ?_
    refine ab_lneg dX11_turned_9 ?_
    exact ab_lret dX11_turned_10 rfl (by decide) (Or.inl ⟨h_1, rfl, rfl⟩)
  · refine ab_lload_n dX11_turned_4 rfl ?_
    refine ab_goto 10 dX11_turned_5 (by decide) ?_
    exact ab_lret dX11_turned_10 rfl (by decide) (Or.inr (⟨h_1, rfl, rfl⟩))
theorem c_X11_crossOf {w : ax_W} {a1 a2 a3 a4 : Int64}  : Ct M_X11_crossOf [.long a1, .long a2, .long a3, .long a4] w (fun r w' => r = some (.long ((a1 * a4) - (a2 * a3))) ∧ w' = w) := by
  refine ct_of ⟨by decide, rfl⟩ (Nat.le_of_ble_eq_true rfl) ?_
  refine ab_lload_n dX11_crossOf_0 rfl ?_
  refine ab_lload dX11_crossOf_1 rfl ?_
  refine ab_lmul dX11_crossOf_3 ?_
  refine ab_lload_n dX11_crossOf_4 rfl ?_
  refine ab_lload dX11_crossOf_5 rfl ?_
  refine ab_lmul dX11_crossOf_7 ?_
  refine ab_lsub dX11_crossOf_8 ?_
  exact ab_lret dX11_crossOf_9 rfl (by decide) (⟨rfl, rfl⟩)
