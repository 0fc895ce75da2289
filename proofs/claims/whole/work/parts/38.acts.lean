theorem c_X0_keep {x0 x1 x2 x3 x4 x5 x6 x7 x8 x9 x10 x11 x12 x13 x14 x15 x16 x17 x18 x19 x20 x21 x22 x23 x24 x25 x26 x27 x28 : ax_E} {r30 r31 r32 : Nat → Int32} {wm : List ax_E} {a1 a2 a3 : Int32} {f n : Nat} (h_f : f < 10) (h_n : n ≤ 10) : Ct M_X0_keep [.ref 29, .int a1, .int a2, .int a3] ([x0, x1, x2, x3, x4, x5, x6, x7, x8, x9, x10, x11, x12, x13, x14, x15, x16, x17, x18, x19, x20, x21, x22, x23, x24, x25, x26, x27, x28, ob 0 [.ref 30, .ref 31, .ref 32, .int (nI f), .int (nI n)], ia 10 r30, ia 10 r31, ia 10 r32], wm) (fun r w' => ((10 ≤ (nI n)) ∧ r = none ∧ w' = ([x0, x1, x2, x3, x4, x5, x6, x7, x8, x9, x10, x11, x12, x13, x14, x15, x16, x17, x18, x19, x20, x21, x22, x23, x24, x25, x26, x27, x28, ob 0 [.ref 30, .ref 31, .ref 32, .int (nI ((f + 1) % 10)), .int (nI n)], ia 10 (upd r30 ((f + n) % 10) a1), ia 10 (upd r31 ((f + n) % 10) a2), ia 10 (upd r32 ((f + n) % 10) a3)], wm)) ∨ ((¬ 10 ≤ (nI n)) ∧ r = none ∧ w' = ([x0, x1, x2, x3, x4, x5, x6, x7, x8, x9, x10, x11, x12, x13, x14, x15, x16, x17, x18, x19, x20, x21, x22, x23, x24, x25, x26, x27, x28, ob 0 [.ref 30, .ref 31, .ref 32, .int (nI f), .int (nI (n + 1))], ia 10 (upd r30 ((f + n) % 10) a1), ia 10 (upd r31 ((f + n) % 10) a2), ia 10 (upd r32 ((f + n) % 10) a3)], wm))) := by
  refine ct_of ⟨by decide, rfl⟩ (Nat.le_of_ble_eq_true rfl) ?_
  refine ab_aload_n dX0_keep_0 rfl ?_
  refine ab_getf dX0_keep_1 fl_X0_19 rfl rfl ?_
  refine ab_aload_n dX0_keep_4 rfl ?_
  refine ab_getf dX0_keep_5 fl_X0_23 rfl rfl ?_
  refine ab_iadd dX0_keep_8 ?_
  refine ab_topi (v := (nI (f + n))) (nI_add _ _) ?_
  refine ab_bipush (v := 10) dX0_keep_9 (by decide) ?_
  refine ab_irem dX0_keep_11 (by decide) ?_
  refine ab_topi (v := (nI ((f + n) % 10))) (pk_rem (d := 10) (by omega) (by decide) (by decide)) ?_
  refine ab_istore (la' := [(4, .int (nI ((f + n) % 10))), (0, .ref 29), (1, .int a1), (2, .int a2), (3, .int a3)]) dX0_keep_12 (by decide) rfl ?_
  refine ab_aload_n dX0_keep_14 rfl ?_
  refine ab_getf dX0_keep_15 fl_X0_9 rfl rfl ?_
  refine ab_iload dX0_keep_18 rfl ?_
  refine ab_iload_n dX0_keep_20 rfl ?_
  refine ab_iast (w1 := ([x0, x1, x2, x3, x4, x5, x6, x7, x8, x9, x10, x11, x12, x13, x14, x15, x16, x17, x18, x19, x20, x21, x22, x23, x24, x25, x26, x27, x28, ob 0 [.ref 30, .ref 31, .ref 32, .int (nI f), .int (nI n)], ia 10 (upd r30 ((f + n) % 10) a1), ia 10 r31, ia 10 r32], wm)) dX0_keep_21 rfl (ix_nI (Nat.mod_lt _ (by decide)) (by decide)) rfl ?_
  refine ab_aload_n dX0_keep_22 rfl ?_
  refine ab_getf dX0_keep_23 fl_X0_13 rfl rfl ?_
  refine ab_iload dX0_keep_26 rfl ?_
  refine ab_iload_n dX0_keep_28 rfl ?_
  refine ab_iast (w1 := ([x0, x1, x2, x3, x4, x5, x6, x7, x8, x9, x10, x11, x12, x13, x14, x15, x16, x17, x18, x19, x20, x21, x22, x23, x24, x25, x26, x27, x28, ob 0 [.ref 30, .ref 31, .ref 32, .int (nI f), .int (nI n)], ia 10 (upd r30 ((f + n) % 10) a1), ia 10 (upd r31 ((f + n) % 10) a2), ia 10 r32], wm)) dX0_keep_29 rfl (ix_nI (Nat.mod_lt _ (by decide)) (by decide)) rfl ?_
  refine ab_aload_n dX0_keep_30 rfl ?_
  refine ab_getf dX0_keep_31 fl_X0_16 rfl rfl ?_
  refine ab_iload dX0_keep_34 rfl ?_
  refine ab_iload_n dX0_keep_36 rfl ?_
  refine ab_iast (w1 := ([x0, x1, x2, x3, x4, x5, x6, x7, x8, x9, x10, x11, x12, x13, x14, x15, x16, x17, x18, x19, x20, x21, x22, x23, x24, x25, x26, x27, x28, ob 0 [.ref 30, .ref 31, .ref 32, .int (nI f), .int (nI n)], ia 10 (upd r30 ((f + n) % 10) a1), ia 10 (upd r31 ((f + n) % 10) a2), ia 10 (upd r32 ((f + n) % 10) a3)], wm)) dX0_keep_37 rfl (ix_nI (Nat.mod_lt _ (by decide)) (by decide)) rfl ?_
  refine ab_aload_n dX0_keep_38 rfl ?_
  refine ab_getf dX0_keep_39 fl_X0_23 rfl rfl ?_
  refine ab_bipush (v := 10) dX0_keep_42 (by decide) ?_
  refine ab_icmpge 60 dX0_keep_44 (by decide) (fun h_1 => ?_) (fun h_1 => ?_)
  · refine ab_aload_n dX0_keep_60 rfl ?_
    refine ab_aload_n dX0_keep_61 rfl ?_
    refine ab_getf dX0_keep_62 fl_X0_19 rfl rfl ?_
    refine ab_iconst (v := 1) dX0_keep_65 (by decide) ?_
    refine ab_iadd dX0_keep_66 ?_
    refine ab_topi (v := (nI (f + 1))) (nI_1 _) ?_
    refine ab_bipush (v := 10) dX0_keep_67 (by decide) ?_
    refine ab_irem dX0_keep_69 (by decide) ?_
    refine ab_topi (v := (nI ((f + 1) % 10))) (pk_rem (d := 10) (by omega) (by decide) (by decide)) ?_
    refine ab_putf (w1 := ([x0, x1, x2, x3, x4, x5, x6, x7, x8, x9, x10, x11, x12, x13, x14, x15, x16, x17, x18, x19, x20, x21, x22, x23, x24, x25, x26, x27, x28, ob 0 [.ref 30, .ref 31, .ref 32, .int (nI ((f + 1) % 10)), .int (nI n)], ia 10 (upd r30 ((f + n) % 10) a1), ia 10 (upd r31 ((f + n) % 10) a2), ia 10 (upd r32 ((f + n) % 10) a3)], wm)) dX0_keep_70 fl_X0_19 rfl (Nat.le_of_ble_eq_true rfl) (fun _ => ⟨rfl, rfl⟩) rfl ?_
    exact ab_vret dX0_keep_73 rfl (by decide) (Or.inl ⟨h_1, rfl, rfl⟩)
  · refine ab_aload_n dX0_keep_47 rfl ?_
    refine ab_dup rfl dX0_keep_48 ?_
    refine ab_getf dX0_keep_49 fl_X0_23 rfl rfl ?_
    refine ab_iconst (v := 1) dX0_keep_52 (by decide) ?_
    refine ab_iadd dX0_keep_53 ?_
    refine ab_topi (v := (nI (n + 1))) (nI_1 _) ?_
    refine ab_putf (w1 := ([x0, x1, x2, x3, x4, x5, x6, x7, x8, x9, x10, x11, x12, x13, x14, x15, x16, x17, x18, x19, x20, x21, x22, x23, x24, x25, x26, x27, x28, ob 0 [.ref 30, .ref 31, .ref 32, .int (nI f), .int (nI (n + 1))], ia 10 (upd r30 ((f + n) % 10) a1), ia 10 (upd r31 ((f + n) % 10) a2), ia 10 (upd r32 ((f + n) % 10) a3)], wm)) dX0_keep_54 fl_X0_23 rfl (Nat.le_of_ble_eq_true rfl) (fun _ => ⟨rfl, rfl⟩) rfl ?_
    refine ab_goto 73 dX0_keep_57 (by decide) ?_
    exact ab_vret dX0_keep_73 rfl (by decide) (Or.inr (⟨h_1, rfl, rfl⟩))
theorem n_pos {n : Nat} (h : ¬ nI n ≤ 0) : 0 < n := Nat.pos_of_ne_zero (fun z => h (by rw [z]; decide))
theorem n_zero {n : Nat} (hn : n < 2 ^ 31) (h : nI n ≤ 0) : n = 0 := by
  have := (nI_leI (b := 0) hn (by decide)).mp h
  omega
theorem c_X0_takeBack {x0 x1 x2 x3 x7 x8 x9 x10 x11 x12 x13 x14 x15 x16 x17 x18 x19 x20 x21 x22 x23 x24 x25 x26 x27 x28 : ax_E} {r5 r6 r30 r31 r32 : Nat → Int32} {wm : List ax_E} {f n : Nat} (h_f : f < 10) (h_n : n ≤ 10) (h_v1 : 0 < n → 0 ≤ r30 ((f + (n - 1)) % 10) ∧ r30 ((f + (n - 1)) % 10) < r6 0) (h_v2 : 0 < n → 0 ≤ r31 ((f + (n - 1)) % 10) ∧ r31 ((f + (n - 1)) % 10) < nI 4) (h_c : r6 0 ≤ nI 4) (h_0 : 0 < n) : Ct M_X0_takeBack [.ref 29, .ref 4] ([x0, x1, x2, x3, ob 2 [.ref 5, .ref 6], ia 56 r5, ia 4 r6, x7, x8, x9, x10, x11, x12, x13, x14, x15, x16, x17, x18, x19, x20, x21, x22, x23, x24, x25, x26, x27, x28, ob 0 [.ref 30, .ref 31, .ref 32, .int (nI f), .int (nI n)], ia 10 r30, ia 10 r31, ia 10 r32], wm) (fun r w' => r = none ∧ w' = ([x0, x1, x2, x3, ob 2 [.ref 5, .ref 6], ia 56 (upd r5 (0 + Int32.toNatClampNeg (r30 ((f + (n - 1)) % 10)) * 4 + Int32.toNatClampNeg (r31 ((f + (n - 1)) % 10))) (r32 ((f + (n - 1)) % 10))), ia 4 r6, x7, x8, x9, x10, x11, x12, x13, x14, x15, x16, x17, x18, x19, x20, x21, x22, x23, x24, x25, x26, x27, x28, ob 0 [.ref 30, .ref 31, .ref 32, .int (nI f), .int (nI (n - 1))], ia 10 r30, ia 10 r31, ia 10 r32], wm)) := by
  refine ct_of ⟨by decide, rfl⟩ (Nat.le_of_ble_eq_true rfl) ?_
  refine ab_aload_n dX0_takeBack_0 rfl ?_
  refine ab_getf dX0_takeBack_1 fl_X0_23 rfl rfl ?_
  refine ab_ifle 52 dX0_takeBack_4 (by decide) (fun h_1 => absurd h_1 (nI_nle h_0 (by omega))) (fun h_1 => ?_)
  refine ab_aload_n dX0_takeBack_7 rfl ?_
  refine ab_dup rfl dX0_takeBack_8 ?_
  refine ab_getf dX0_takeBack_9 fl_X0_23 rfl rfl ?_
  refine ab_iconst (v := 1) dX0_takeBack_12 (by decide) ?_
  refine ab_isub dX0_takeBack_13 ?_
  refine ab_topi (v := (nI (n - 1))) (pk_sub (b := 1) (by omega)) ?_
  refine ab_putf (w1 := ([x0, x1, x2, x3, ob 2 [.ref 5, .ref 6], ia 56 r5, ia 4 r6, x7, x8, x9, x10, x11, x12, x13, x14, x15, x16, x17, x18, x19, x20, x21, x22, x23, x24, x25, x26, x27, x28, ob 0 [.ref 30, .ref 31, .ref 32, .int (nI f), .int (nI (n - 1))], ia 10 r30, ia 10 r31, ia 10 r32], wm)) dX0_takeBack_14 fl_X0_23 rfl (Nat.le_of_ble_eq_true rfl) (fun _ => ⟨rfl, rfl⟩) rfl ?_
  refine ab_aload_n dX0_takeBack_17 rfl ?_
  refine ab_getf dX0_takeBack_18 fl_X0_19 rfl rfl ?_
  refine ab_aload_n dX0_takeBack_21 rfl ?_
  refine ab_getf dX0_takeBack_22 fl_X0_23 rfl rfl ?_
  refine ab_iadd dX0_takeBack_25 ?_
  refine ab_topi (v := (nI (f + (n - 1)))) (nI_add _ _) ?_
  refine ab_bipush (v := 10) dX0_takeBack_26 (by decide) ?_
  refine ab_irem dX0_takeBack_28 (by decide) ?_
  refine ab_topi (v := (nI ((f + (n - 1)) % 10))) (pk_rem (d := 10) (by omega) (by decide) (by decide)) ?_
  refine ab_istore_n (la' := [(2, .int (nI ((f + (n - 1)) % 10))), (0, .ref 29), (1, .ref 4)]) dX0_takeBack_29 (by decide) rfl ?_
  refine ab_aload_n dX0_takeBack_30 rfl ?_
  refine ab_aload_n dX0_takeBack_31 rfl ?_
  refine ab_getf dX0_takeBack_32 fl_X0_9 rfl rfl ?_
  refine ab_iload_n dX0_takeBack_35 rfl ?_
  refine ab_iald (j := ((f + (n - 1)) % 10)) dX0_takeBack_36 rfl (ix_nI (Nat.mod_lt _ (by decide)) (by decide)) ?_
  refine ab_aload_n dX0_takeBack_37 rfl ?_
  refine ab_getf dX0_takeBack_38 fl_X0_13 rfl rfl ?_
  refine ab_iload_n dX0_takeBack_41 rfl ?_
  refine ab_iald (j := ((f + (n - 1)) % 10)) dX0_takeBack_42 rfl (ix_nI (Nat.mod_lt _ (by decide)) (by decide)) ?_
  refine ab_aload_n dX0_takeBack_43 rfl ?_
  refine ab_getf dX0_takeBack_44 fl_X0_16 rfl rfl ?_
  refine ab_iload_n dX0_takeBack_47 rfl ?_
  refine ab_iald (j := ((f + (n - 1)) % 10)) dX0_takeBack_48 rfl (ix_nI (Nat.mod_lt _ (by decide)) (by decide)) ?_
  refine ab_callV (As := [.int (r30 ((f + (n - 1)) % 10)), .int (r31 ((f + (n - 1)) % 10)), .int (r32 ((f + (n - 1)) % 10))]) (rest := []) dX0_takeBack_49 mv_X2_changeBar ml_X0_26 ⟨by decide, by decide, rfl, rfl, rfl⟩ (by decide) rfl rfl (Nat.le_of_ble_eq_true rfl) rfl (c_X2_changeBar (h_v1 h_0) h_c (h_v2 h_0)) ?_
  rintro r w' ⟨rfl, rfl⟩
  exact ab_vret dX0_takeBack_52 rfl (by decide) (⟨rfl, rfl⟩)
theorem c_X10_reshape {f0_0 f25_3 f25_4 f25_5 f25_6 f25_7 a1 a2 a3 : Int32} {x1 x2 x3 x7 x8 x9 x10 x11 x12 x13 x14 x15 x16 x17 x18 x19 x20 x21 x22 x23 x24 x26 x27 x28 : ax_E} {r5 r6 r30 r31 r32 : Nat → Int32} {wm : List ax_E} {f n : Nat} (h_f : f < 10) (h_n : n ≤ 10) (h_c : r6 0 ≤ nI 4) : Ct M_X10_reshape [.ref 0, .int a1, .int a2, .int a3] ([ob 8 [.int f0_0, .ref 1, .ref 4, .ref 7, .ref 10, .ref 11, .ref 12, .ref 18, .ref 25, .ref 29], x1, x2, x3, ob 2 [.ref 5, .ref 6], ia 56 r5, ia 4 r6, x7, x8, x9, x10, x11, x12, x13, x14, x15, x16, x17, x18, x19, x20, x21, x22, x23, x24, ob 7 [.ref 26, .ref 27, .ref 28, .int f25_3, .int f25_4, .int f25_5, .int f25_6, .int f25_7], x26, x27, x28, ob 0 [.ref 30, .ref 31, .ref 32, .int (nI f), .int (nI n)], ia 10 r30, ia 10 r31, ia 10 r32], wm) (fun r w' => ((0 ≤ a1 ∧ a1 < r6 0) ∧ (0 ≤ a2 ∧ a2 < 4) ∧ (a3 < 1) ∧ r = some (.int (-1)) ∧ w' = ([ob 8 [.int 2, .ref 1, .ref 4, .ref 7, .ref 10, .ref 11, .ref 12, .ref 18, .ref 25, .ref 29], x1, x2, x3, ob 2 [.ref 5, .ref 6], ia 56 r5, ia 4 r6, x7, x8, x9, x10, x11, x12, x13, x14, x15, x16, x17, x18, x19, x20, x21, x22, x23, x24, ob 7 [.ref 26, .ref 27, .ref 28, .int f25_3, .int f25_4, .int f25_5, .int f25_6, .int f25_7], x26, x27, x28, ob 0 [.ref 30, .ref 31, .ref 32, .int (nI f), .int (nI n)], ia 10 r30, ia 10 r31, ia 10 r32], wm)) ∨ ((0 ≤ a1 ∧ a1 < r6 0) ∧ (0 ≤ a2 ∧ a2 < 4) ∧ (¬ a3 < 1) ∧ (18 < a3) ∧ r = some (.int (-1)) ∧ w' = ([ob 8 [.int 2, .ref 1, .ref 4, .ref 7, .ref 10, .ref 11, .ref 12, .ref 18, .ref 25, .ref 29], x1, x2, x3, ob 2 [.ref 5, .ref 6], ia 56 r5, ia 4 r6, x7, x8, x9, x10, x11, x12, x13, x14, x15, x16, x17, x18, x19, x20, x21, x22, x23, x24, ob 7 [.ref 26, .ref 27, .ref 28, .int f25_3, .int f25_4, .int f25_5, .int f25_6, .int f25_7], x26, x27, x28, ob 0 [.ref 30, .ref 31, .ref 32, .int (nI f), .int (nI n)], ia 10 r30, ia 10 r31, ia 10 r32], wm)) ∨ ((0 ≤ a1 ∧ a1 < r6 0) ∧ (0 ≤ a2 ∧ a2 < 4) ∧ (¬ a3 < 1) ∧ (¬ 18 < a3) ∧ (10 ≤ (nI n)) ∧ r = some (.int (r5 (0 + Int32.toNatClampNeg a1 * 4 + Int32.toNatClampNeg a2))) ∧ w' = ([ob 8 [.int 0, .ref 1, .ref 4, .ref 7, .ref 10, .ref 11, .ref 12, .ref 18, .ref 25, .ref 29], x1, x2, x3, ob 2 [.ref 5, .ref 6], ia 56 (upd r5 (0 + Int32.toNatClampNeg a1 * 4 + Int32.toNatClampNeg a2) a3), ia 4 r6, x7, x8, x9, x10, x11, x12, x13, x14, x15, x16, x17, x18, x19, x20, x21, x22, x23, x24, ob 7 [.ref 26, .ref 27, .ref 28, .int f25_3, .int (-1), .int f25_5, .int f25_6, .int f25_7], x26, x27, x28, ob 0 [.ref 30, .ref 31, .ref 32, .int (nI ((f + 1) % 10)), .int (nI n)], ia 10 (upd r30 ((f + n) % 10) a1), ia 10 (upd r31 ((f + n) % 10) a2), ia 10 (upd r32 ((f + n) % 10) (r5 (0 + Int32.toNatClampNeg a1 * 4 + Int32.toNatClampNeg a2)))], wm)) ∨ ((0 ≤ a1 ∧ a1 < r6 0) ∧ (0 ≤ a2 ∧ a2 < 4) ∧ (¬ a3 < 1) ∧ (¬ 18 < a3) ∧ (¬ 10 ≤ (nI n)) ∧ r = some (.int (r5 (0 + Int32.toNatClampNeg a1 * 4 + Int32.toNatClampNeg a2))) ∧ w' = ([ob 8 [.int 0, .ref 1, .ref 4, .ref 7, .ref 10, .ref 11, .ref 12, .ref 18, .ref 25, .ref 29], x1, x2, x3, ob 2 [.ref 5, .ref 6], ia 56 (upd r5 (0 + Int32.toNatClampNeg a1 * 4 + Int32.toNatClampNeg a2) a3), ia 4 r6, x7, x8, x9, x10, x11, x12, x13, x14, x15, x16, x17, x18, x19, x20, x21, x22, x23, x24, ob 7 [.ref 26, .ref 27, .ref 28, .int f25_3, .int (-1), .int f25_5, .int f25_6, .int f25_7], x26, x27, x28, ob 0 [.ref 30, .ref 31, .ref 32, .int (nI f), .int (nI (n + 1))], ia 10 (upd r30 ((f + n) % 10) a1), ia 10 (upd r31 ((f + n) % 10) a2), ia 10 (upd r32 ((f + n) % 10) (r5 (0 + Int32.toNatClampNeg a1 * 4 + Int32.toNatClampNeg a2)))], wm)) ∨ ((0 ≤ a1 ∧ a1 < r6 0) ∧ (¬ (0 ≤ a2 ∧ a2 < 4)) ∧ r = some (.int (-1)) ∧ w' = ([ob 8 [.int 1, .ref 1, .ref 4, .ref 7, .ref 10, .ref 11, .ref 12, .ref 18, .ref 25, .ref 29], x1, x2, x3, ob 2 [.ref 5, .ref 6], ia 56 r5, ia 4 r6, x7, x8, x9, x10, x11, x12, x13, x14, x15, x16, x17, x18, x19, x20, x21, x22, x23, x24, ob 7 [.ref 26, .ref 27, .ref 28, .int f25_3, .int f25_4, .int f25_5, .int f25_6, .int f25_7], x26, x27, x28, ob 0 [.ref 30, .ref 31, .ref 32, .int (nI f), .int (nI n)], ia 10 r30, ia 10 r31, ia 10 r32], wm)) ∨ ((¬ (0 ≤ a1 ∧ a1 < r6 0)) ∧ r = some (.int (-1)) ∧ w' = ([ob 8 [.int 1, .ref 1, .ref 4, .ref 7, .ref 10, .ref 11, .ref 12, .ref 18, .ref 25, .ref 29], x1, x2, x3, ob 2 [.ref 5, .ref 6], ia 56 r5, ia 4 r6, x7, x8, x9, x10, x11, x12, x13, x14, x15, x16, x17, x18, x19, x20, x21, x22, x23, x24, ob 7 [.ref 26, .ref 27, .ref 28, .int f25_3, .int f25_4, .int f25_5, .int f25_6, .int f25_7], x26, x27, x28, ob 0 [.ref 30, .ref 31, .ref 32, .int (nI f), .int (nI n)], ia 10 r30, ia 10 r31, ia 10 r32], wm))) := by
  refine ct_of ⟨by decide, rfl⟩ (Nat.le_of_ble_eq_true rfl) ?_
  refine ab_aload_n dX10_reshape_0 rfl ?_
  refine ab_aload_n dX10_reshape_1 rfl ?_
  refine ab_iload_n dX10_reshape_2 rfl ?_
  refine ab_callV (As := [.int a1]) (rest := [.ref 0]) dX10_reshape_3 mv_X10_hasLinkage ml_X10_133 ⟨by decide, by decide, rfl, rfl, rfl⟩ (by decide) rfl rfl (Nat.le_of_ble_eq_true rfl) rfl c_X10_hasLinkage ?_
  rintro r w' (⟨c_1, rfl, rfl⟩ | ⟨c_2, rfl, rfl⟩)
  · refine ab_ifeq 21 dX10_reshape_6 (by decide) (fun h_3 => absurd h_3 (by decide)) (fun h_3 => ?_)
    refine ab_iload_n dX10_reshape_9 rfl ?_
    refine ab_iconst (v := 4) dX10_reshape_10 (by decide) ?_
    refine ab_callS (As := [.int a2, .int 4]) (rest := [.ref 0]) dX10_reshape_11 ms_X10_isOf ml_X10_118 ⟨by decide, by decide, rfl, rfl, rfl⟩ (by decide) rfl rfl (Nat.le_of_ble_eq_true rfl) c_X10_isOf ?_
    rintro r w' (⟨c_4, rfl, rfl⟩ | ⟨c_5, rfl, rfl⟩)
    · refine ab_ifeq 21 dX10_reshape_14 (by decide) (fun h_6 => absurd h_6 (by decide)) (fun h_6 => ?_)
      refine ab_iconst (v := 1) dX10_reshape_17 (by decide) ?_
      refine ab_goto 22 dX10_reshape_18 (by decide) ?_
      refine ab_iconst (v := 1) dX10_reshape_22 (by decide) ?_
      refine ab_callV (As := [.int 1, .int 1]) (rest := []) dX10_reshape_23 mv_X10_refused ml_X10_84 ⟨by decide, by decide, rfl, rfl, rfl⟩ (by decide) rfl rfl (Nat.le_of_ble_eq_true rfl) rfl c_X10_refused_1 ?_
      rintro r w' ⟨rfl, rfl⟩
      refine ab_ifeq 31 dX10_reshape_26 (by decide) (fun h_7 => ?_) (fun h_7 => absurd (by decide) h_7)
      refine ab_aload_n dX10_reshape_31 rfl ?_
      refine ab_iload_n dX10_reshape_32 rfl ?_
      refine ab_iconst (v := 1) dX10_reshape_33 (by decide) ?_
      refine ab_icmplt 47 dX10_reshape_34 (by decide) (fun h_8 => ?_) (fun h_8 => ?_)
      · refine ab_iconst (v := 0) dX10_reshape_47 (by decide) ?_
        refine ab_iconst (v := 2) dX10_reshape_48 (by decide) ?_
        refine ab_callV (As := [.int 0, .int 2]) (rest := []) dX10_reshape_49 mv_X10_refused ml_X10_84 ⟨by decide, by decide, rfl, rfl, rfl⟩ (by decide) rfl rfl (Nat.le_of_ble_eq_true rfl) rfl c_X10_refused_0 ?_
        rintro r w' ⟨rfl, rfl⟩
        refine ab_ifeq 57 dX10_reshape_52 (by decide) (fun h_9 => absurd h_9 (by decide)) (fun h_9 => ?_)
        refine ab_iconst (v := -1) dX10_reshape_55 (by decide) ?_
        exact ab_iret dX10_reshape_56 rfl (by decide) (Or.inl ⟨c_1, c_4, h_8, rfl, rfl⟩)
      · refine ab_iload_n dX10_reshape_37 rfl ?_
        refine ab_bipush (v := 18) dX10_reshape_38 (by decide) ?_
        refine ab_icmpgt 47 dX10_reshape_40 (by decide) (fun h_10 => ?_) (fun h_10 => ?_)
        · refine ab_iconst (v := 0) dX10_reshape_47 (by decide) ?_
          refine ab_iconst (v := 2) dX10_reshape_48 (by decide) ?_
          refine ab_callV (As := [.int 0, .int 2]) (rest := []) dX10_reshape_49 mv_X10_refused ml_X10_84 ⟨by decide, by decide, rfl, rfl, rfl⟩ (by decide) rfl rfl (Nat.le_of_ble_eq_true rfl) rfl c_X10_refused_0 ?_
          rintro r w' ⟨rfl, rfl⟩
          refine ab_ifeq 57 dX10_reshape_52 (by decide) (fun h_11 => absurd h_11 (by decide)) (fun h_11 => ?_)
          refine ab_iconst (v := -1) dX10_reshape_55 (by decide) ?_
          exact ab_iret dX10_reshape_56 rfl (by decide) (Or.inr (Or.inl ⟨c_1, c_4, h_8, h_10, rfl, rfl⟩))
        · refine ab_iconst (v := 1) dX10_reshape_43 (by decide) ?_
          refine ab_goto 48 dX10_reshape_44 (by decide) ?_
          refine ab_iconst (v := 2) dX10_reshape_48 (by decide) ?_
          refine ab_callV (As := [.int 1, .int 2]) (rest := []) dX10_reshape_49 mv_X10_refused ml_X10_84 ⟨by decide, by decide, rfl, rfl, rfl⟩ (by decide) rfl rfl (Nat.le_of_ble_eq_true rfl) rfl c_X10_refused_1 ?_
          rintro r w' ⟨rfl, rfl⟩
          refine ab_ifeq 57 dX10_reshape_52 (by decide) (fun h_12 => ?_) (fun h_12 => absurd (by decide) h_12)
          refine ab_aload_n dX10_reshape_57 rfl ?_
          refine ab_getf dX10_reshape_58 fl_X10_23 rfl rfl ?_
          refine ab_iconst (v := 0) dX10_reshape_61 (by decide) ?_
          refine ab_iload_n dX10_reshape_62 rfl ?_
          refine ab_iload_n dX10_reshape_63 rfl ?_
          refine ab_callV (As := [.int 0, .int a1, .int a2]) (rest := []) dX10_reshape_64 mv_X2_told ml_X10_136 ⟨by decide, by decide, rfl, rfl, rfl⟩ (by decide) rfl rfl (Nat.le_of_ble_eq_true rfl) rfl (c_X2_told_0 c_1 h_c c_4) ?_
          rintro r w' ⟨rfl, rfl⟩
          refine ab_istore (la' := [(4, .int (r5 (0 + Int32.toNatClampNeg a1 * 4 + Int32.toNatClampNeg a2))), (0, .ref 0), (1, .int a1), (2, .int a2), (3, .int a3)]) dX10_reshape_67 (by decide) rfl ?_
          refine ab_aload_n dX10_reshape_69 rfl ?_
          refine ab_getf dX10_reshape_70 fl_X10_68 rfl rfl ?_
          refine ab_iload_n dX10_reshape_73 rfl ?_
          refine ab_iload_n dX10_reshape_74 rfl ?_
          refine ab_iload dX10_reshape_75 rfl ?_
          refine ab_callV (As := [.int a1, .int a2, .int (r5 (0 + Int32.toNatClampNeg a1 * 4 + Int32.toNatClampNeg a2))]) (rest := []) dX10_reshape_77 mv_X0_keep ml_X10_368 ⟨by decide, by decide, rfl, rfl, rfl⟩ (by decide) rfl rfl (Nat.le_of_ble_eq_true rfl) rfl (c_X0_keep (f := f) (n := n) h_f h_n) ?_
          rintro r w' (⟨c_13, rfl, rfl⟩ | ⟨c_14, rfl, rfl⟩)
          · refine ab_aload_n dX10_reshape_80 rfl ?_
            refine ab_getf dX10_reshape_81 fl_X10_23 rfl rfl ?_
            refine ab_iload_n dX10_reshape_84 rfl ?_
            refine ab_iload_n dX10_reshape_85 rfl ?_
            refine ab_iload_n dX10_reshape_86 rfl ?_
            refine ab_callV (As := [.int a1, .int a2, .int a3]) (rest := []) dX10_reshape_87 mv_X2_changeBar ml_X10_371 ⟨by decide, by decide, rfl, rfl, rfl⟩ (by decide) rfl rfl (Nat.le_of_ble_eq_true rfl) rfl (c_X2_changeBar c_1 h_c c_4) ?_
            rintro r w' ⟨rfl, rfl⟩
            refine ab_aload_n dX10_reshape_90 rfl ?_
            refine ab_getf dX10_reshape_91 fl_X10_61 rfl rfl ?_
            refine ab_callV (As := []) (rest := []) dX10_reshape_94 mv_X8_stop ml_X10_96 ⟨by decide, by decide, rfl, rfl, rfl⟩ (by decide) rfl rfl (Nat.le_of_ble_eq_true rfl) rfl c_X8_stop ?_
            rintro r w' ⟨rfl, rfl⟩
            refine ab_iload dX10_reshape_97 rfl ?_
            exact ab_iret dX10_reshape_99 rfl (by decide) (Or.inr (Or.inr (Or.inl ⟨c_1, c_4, h_8, h_10, c_13, rfl, rfl⟩)))
          · refine ab_aload_n dX10_reshape_80 rfl ?_
            refine ab_getf dX10_reshape_81 fl_X10_23 rfl rfl ?_
            refine ab_iload_n dX10_reshape_84 rfl ?_
            refine ab_iload_n dX10_reshape_85 rfl ?_
            refine ab_iload_n dX10_reshape_86 rfl ?_
            refine ab_callV (As := [.int a1, .int a2, .int a3]) (rest := []) dX10_reshape_87 mv_X2_changeBar ml_X10_371 ⟨by decide, by decide, rfl, rfl, rfl⟩ (by decide) rfl rfl (Nat.le_of_ble_eq_true rfl) rfl (c_X2_changeBar c_1 h_c c_4) ?_
            rintro r w' ⟨rfl, rfl⟩
            refine ab_aload_n dX10_reshape_90 rfl ?_
            refine ab_getf dX10_reshape_91 fl_X10_61 rfl rfl ?_
            refine ab_callV (As := []) (rest := []) dX10_reshape_94 mv_X8_stop ml_X10_96 ⟨by decide, by decide, rfl, rfl, rfl⟩ (by decide) rfl rfl (Nat.le_of_ble_eq_true rfl) rfl c_X8_stop ?_
            rintro r w' ⟨rfl, rfl⟩
            refine ab_iload dX10_reshape_97 rfl ?_
            exact ab_iret dX10_reshape_99 rfl (by decide) (Or.inr (Or.inr (Or.inr (Or.inl ⟨c_1, c_4, h_8, h_10, c_14, rfl, rfl⟩))))
    · refine ab_ifeq 21 dX10_reshape_14 (by decide) (fun h_15 => ?_) (fun h_15 => absurd (by decide) h_15)
      refine ab_iconst (v := 0) dX10_reshape_21 (by decide) ?_
      refine ab_iconst (v := 1) dX10_reshape_22 (by decide) ?_
      refine ab_callV (As := [.int 0, .int 1]) (rest := []) dX10_reshape_23 mv_X10_refused ml_X10_84 ⟨by decide, by decide, rfl, rfl, rfl⟩ (by decide) rfl rfl (Nat.le_of_ble_eq_true rfl) rfl c_X10_refused_0 ?_
      rintro r w' ⟨rfl, rfl⟩
      refine ab_ifeq 31 dX10_reshape_26 (by decide) (fun h_16 => absurd h_16 (by decide)) (fun h_16 => ?_)
      refine ab_iconst (v := -1) dX10_reshape_29 (by decide) ?_
      exact ab_iret dX10_reshape_30 rfl (by decide) (Or.inr (Or.inr (Or.inr (Or.inr (Or.inl ⟨c_1, c_5, rfl, rfl⟩)))))
  · refine ab_ifeq 21 dX10_reshape_6 (by decide) (fun h_17 => ?_) (fun h_17 => absurd (by decide) h_17)
    refine ab_iconst (v := 0) dX10_reshape_21 (by decide) ?_
    refine ab_iconst (v := 1) dX10_reshape_22 (by decide) ?_
    refine ab_callV (As := [.int 0, .int 1]) (rest := []) dX10_reshape_23 mv_X10_refused ml_X10_84 ⟨by decide, by decide, rfl, rfl, rfl⟩ (by decide) rfl rfl (Nat.le_of_ble_eq_true rfl) rfl c_X10_refused_0 ?_
    rintro r w' ⟨rfl, rfl⟩
    refine ab_ifeq 31 dX10_reshape_26 (by decide) (fun h_18 => absurd h_18 (by decide)) (fun h_18 => ?_)
    refine ab_iconst (v := -1) dX10_reshape_29 (by decide) ?_
    exact ab_iret dX10_reshape_30 rfl (by decide) (Or.inr (Or.inr (Or.inr (Or.inr (Or.inr (⟨c_2, rfl, rfl⟩))))))
theorem n_pos2 {n : Nat} (h : ¬ nI n ≤ 0) : 0 < n := n_pos h
theorem c_X10_undo {f0_0 f25_3 f25_4 f25_5 f25_6 f25_7 : Int32} {x1 x2 x3 x7 x8 x9 x10 x11 x12 x13 x14 x15 x16 x17 x18 x19 x20 x21 x22 x23 x24 x26 x27 x28 : ax_E} {r5 r6 r30 r31 r32 : Nat → Int32} {wm : List ax_E} {f n : Nat} (h_f : f < 10) (h_n : n ≤ 10) (h_v1 : 0 < n → 0 ≤ r30 ((f + (n - 1)) % 10) ∧ r30 ((f + (n - 1)) % 10) < r6 0) (h_v2 : 0 < n → 0 ≤ r31 ((f + (n - 1)) % 10) ∧ r31 ((f + (n - 1)) % 10) < nI 4) (h_c : r6 0 ≤ nI 4) : Ct M_X10_undo [.ref 0] ([ob 8 [.int f0_0, .ref 1, .ref 4, .ref 7, .ref 10, .ref 11, .ref 12, .ref 18, .ref 25, .ref 29], x1, x2, x3, ob 2 [.ref 5, .ref 6], ia 56 r5, ia 4 r6, x7, x8, x9, x10, x11, x12, x13, x14, x15, x16, x17, x18, x19, x20, x21, x22, x23, x24, ob 7 [.ref 26, .ref 27, .ref 28, .int f25_3, .int f25_4, .int f25_5, .int f25_6, .int f25_7], x26, x27, x28, ob 0 [.ref 30, .ref 31, .ref 32, .int (nI f), .int (nI n)], ia 10 r30, ia 10 r31, ia 10 r32], wm) (fun r w' => (((nI n) ≤ 0) ∧ r = some (.int 0) ∧ w' = ([ob 8 [.int 1, .ref 1, .ref 4, .ref 7, .ref 10, .ref 11, .ref 12, .ref 18, .ref 25, .ref 29], x1, x2, x3, ob 2 [.ref 5, .ref 6], ia 56 r5, ia 4 r6, x7, x8, x9, x10, x11, x12, x13, x14, x15, x16, x17, x18, x19, x20, x21, x22, x23, x24, ob 7 [.ref 26, .ref 27, .ref 28, .int f25_3, .int f25_4, .int f25_5, .int f25_6, .int f25_7], x26, x27, x28, ob 0 [.ref 30, .ref 31, .ref 32, .int (nI f), .int (nI n)], ia 10 r30, ia 10 r31, ia 10 r32], wm)) ∨ ((¬ (nI n) ≤ 0) ∧ r = some (.int 1) ∧ w' = ([ob 8 [.int 0, .ref 1, .ref 4, .ref 7, .ref 10, .ref 11, .ref 12, .ref 18, .ref 25, .ref 29], x1, x2, x3, ob 2 [.ref 5, .ref 6], ia 56 (upd r5 (0 + Int32.toNatClampNeg (r30 ((f + (n - 1)) % 10)) * 4 + Int32.toNatClampNeg (r31 ((f + (n - 1)) % 10))) (r32 ((f + (n - 1)) % 10))), ia 4 r6, x7, x8, x9, x10, x11, x12, x13, x14, x15, x16, x17, x18, x19, x20, x21, x22, x23, x24, ob 7 [.ref 26, .ref 27, .ref 28, .int f25_3, .int (-1), .int f25_5, .int f25_6, .int f25_7], x26, x27, x28, ob 0 [.ref 30, .ref 31, .ref 32, .int (nI f), .int (nI (n - 1))], ia 10 r30, ia 10 r31, ia 10 r32], wm))) := by
  refine ct_of ⟨by decide, rfl⟩ (Nat.le_of_ble_eq_true rfl) ?_
  refine ab_aload_n dX10_undo_0 rfl ?_
  refine ab_aload_n dX10_undo_1 rfl ?_
  refine ab_getf dX10_undo_2 fl_X10_68 rfl rfl ?_
  refine ab_callV (As := []) (rest := [.ref 0]) dX10_undo_5 mv_X0_count ml_X10_374 ⟨by decide, by decide, rfl, rfl, rfl⟩ (by decide) rfl rfl (Nat.le_of_ble_eq_true rfl) rfl c_X0_count ?_
  rintro r w' ⟨rfl, rfl⟩
  refine ab_ifle 15 dX10_undo_8 (by decide) (fun h_1 => ?_) (fun h_1 => ?_)
  · refine ab_iconst (v := 0) dX10_undo_15 (by decide) ?_
    refine ab_iconst (v := 1) dX10_undo_16 (by decide) ?_
    refine ab_callV (As := [.int 0, .int 1]) (rest := []) dX10_undo_17 mv_X10_refused ml_X10_84 ⟨by decide, by decide, rfl, rfl, rfl⟩ (by decide) rfl rfl (Nat.le_of_ble_eq_true rfl) rfl c_X10_refused_0 ?_
    rintro r w' ⟨rfl, rfl⟩
    refine ab_ifeq 25 dX10_undo_20 (by decide) (fun h_2 => absurd h_2 (by decide)) (fun h_2 => ?_)
    refine ab_iconst (v := 0) dX10_undo_23 (by decide) ?_
    exact ab_zret dX10_undo_24 rfl rfl (by decide) (Or.inl ⟨h_1, rfl, rfl⟩)
  · refine ab_iconst (v := 1) dX10_undo_11 (by decide) ?_
    refine ab_goto 16 dX10_undo_12 (by decide) ?_
    refine ab_iconst (v := 1) dX10_undo_16 (by decide) ?_
    refine ab_callV (As := [.int 1, .int 1]) (rest := []) dX10_undo_17 mv_X10_refused ml_X10_84 ⟨by decide, by decide, rfl, rfl, rfl⟩ (by decide) rfl rfl (Nat.le_of_ble_eq_true rfl) rfl c_X10_refused_1 ?_
    rintro r w' ⟨rfl, rfl⟩
    refine ab_ifeq 25 dX10_undo_20 (by decide) (fun h_3 => ?_) (fun h_3 => absurd (by decide) h_3)
    refine ab_aload_n dX10_undo_25 rfl ?_
    refine ab_getf dX10_undo_26 fl_X10_68 rfl rfl ?_
    refine ab_aload_n dX10_undo_29 rfl ?_
    refine ab_getf dX10_undo_30 fl_X10_23 rfl rfl ?_
    refine ab_callV (As := [.ref 4]) (rest := []) dX10_undo_33 mv_X0_takeBack ml_X10_376 ⟨by decide, by decide, rfl, rfl, rfl⟩ (by decide) rfl rfl (Nat.le_of_ble_eq_true rfl) rfl (c_X0_takeBack (f := f) (n := n) h_f h_n h_v1 h_v2 h_c (n_pos2 h_1)) ?_
    rintro r w' ⟨rfl, rfl⟩
    refine ab_aload_n dX10_undo_36 rfl ?_
    refine ab_getf dX10_undo_37 fl_X10_61 rfl rfl ?_
    refine ab_callV (As := []) (rest := []) dX10_undo_40 mv_X8_stop ml_X10_96 ⟨by decide, by decide, rfl, rfl, rfl⟩ (by decide) rfl rfl (Nat.le_of_ble_eq_true rfl) rfl c_X8_stop ?_
    rintro r w' ⟨rfl, rfl⟩
    refine ab_iconst (v := 1) dX10_undo_43 (by decide) ?_
    exact ab_zret dX10_undo_44 rfl rfl (by decide) (Or.inr (⟨h_1, rfl, rfl⟩))
