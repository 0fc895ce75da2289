theorem c_X6_readsSort {x0 x4 x5 x6 x10 x11 x12 x13 x14 x15 x16 x17 x18 x19 x20 x21 x22 x23 x24 x25 x26 x27 x28 x29 x30 x31 x32 : ax_E} {f1_2 f1_5 f1_6 : Int32} {r2 r3 r8 r9 : Nat → Int32} {wm : List ax_E} {u c : Nat → Nat} {n p : Nat} (h_n : n ≤ 700) (h_u : ∀ k, k < 700 → u k < 256 ∧ r2 k = sgn (u k)) (h_p : p ≤ n) (hB : c 0 ≤ 4 ∧ c 1 ≤ 4 ∧ c 2 ≤ 8 ∧ c 3 ≤ 4) : Ct M_X6_readsSort [.ref 1, .ref 7] ([x0, ob 6 [.ref 2, .ref 3, .int f1_2, .int (nI n), .int (nI p), .int f1_5, .int f1_6], ba 700 r2, ia 4 r3, x4, x5, x6, ob 2 [.ref 8, .ref 9], ia 56 r8, ia 4 (ovl (nIf c) 4 r9), x10, x11, x12, x13, x14, x15, x16, x17, x18, x19, x20, x21, x22, x23, x24, x25, x26, x27, x28, x29, x30, x31, x32], wm) (fun r w' => ((p ≤ sk u n p ∧ sk u n p ≤ n) ∧ (wd_0 u n (sk u n p)) ∧ (4 ≤ c 0) ∧ r = some (.int (-1)) ∧ w' = ([x0, ob 6 [.ref 2, .ref 3, .int f1_2, .int (nI n), .int (nI ((sk u n p) + 4)), .int 3, .int (nI (sk u n p))], ba 700 r2, ia 4 r3, x4, x5, x6, ob 2 [.ref 8, .ref 9], ia 56 r8, ia 4 (ovl (nIf c) 4 r9), x10, x11, x12, x13, x14, x15, x16, x17, x18, x19, x20, x21, x22, x23, x24, x25, x26, x27, x28, x29, x30, x31, x32], wm)) ∨ ((p ≤ sk u n p ∧ sk u n p ≤ n) ∧ (wd_0 u n (sk u n p)) ∧ (¬ 4 ≤ c 0) ∧ r = some (.int 0) ∧ w' = ([x0, ob 6 [.ref 2, .ref 3, .int f1_2, .int (nI n), .int (nI ((sk u n p) + 4)), .int f1_5, .int f1_6], ba 700 r2, ia 4 r3, x4, x5, x6, ob 2 [.ref 8, .ref 9], ia 56 r8, ia 4 (ovl (nIf c) 4 r9), x10, x11, x12, x13, x14, x15, x16, x17, x18, x19, x20, x21, x22, x23, x24, x25, x26, x27, x28, x29, x30, x31, x32], wm)) ∨ ((p ≤ sk u n p ∧ sk u n p ≤ n) ∧ (¬ wd_0 u n (sk u n p)) ∧ (wd_1 u n (sk u n p)) ∧ (4 ≤ c 1) ∧ r = some (.int (-1)) ∧ w' = ([x0, ob 6 [.ref 2, .ref 3, .int f1_2, .int (nI n), .int (nI ((sk u n p) + 6)), .int 3, .int (nI (sk u n p))], ba 700 r2, ia 4 r3, x4, x5, x6, ob 2 [.ref 8, .ref 9], ia 56 r8, ia 4 (ovl (nIf c) 4 r9), x10, x11, x12, x13, x14, x15, x16, x17, x18, x19, x20, x21, x22, x23, x24, x25, x26, x27, x28, x29, x30, x31, x32], wm)) ∨ ((p ≤ sk u n p ∧ sk u n p ≤ n) ∧ (¬ wd_0 u n (sk u n p)) ∧ (wd_1 u n (sk u n p)) ∧ (¬ 4 ≤ c 1) ∧ r = some (.int 1) ∧ w' = ([x0, ob 6 [.ref 2, .ref 3, .int f1_2, .int (nI n), .int (nI ((sk u n p) + 6)), .int f1_5, .int f1_6], ba 700 r2, ia 4 r3, x4, x5, x6, ob 2 [.ref 8, .ref 9], ia 56 r8, ia 4 (ovl (nIf c) 4 r9), x10, x11, x12, x13, x14, x15, x16, x17, x18, x19, x20, x21, x22, x23, x24, x25, x26, x27, x28, x29, x30, x31, x32], wm)) ∨ ((p ≤ sk u n p ∧ sk u n p ≤ n) ∧ (¬ wd_0 u n (sk u n p)) ∧ (¬ wd_1 u n (sk u n p)) ∧ (wd_2 u n (sk u n p)) ∧ (8 ≤ c 2) ∧ r = some (.int (-1)) ∧ w' = ([x0, ob 6 [.ref 2, .ref 3, .int f1_2, .int (nI n), .int (nI ((sk u n p) + 5)), .int 3, .int (nI (sk u n p))], ba 700 r2, ia 4 r3, x4, x5, x6, ob 2 [.ref 8, .ref 9], ia 56 r8, ia 4 (ovl (nIf c) 4 r9), x10, x11, x12, x13, x14, x15, x16, x17, x18, x19, x20, x21, x22, x23, x24, x25, x26, x27, x28, x29, x30, x31, x32], wm)) ∨ ((p ≤ sk u n p ∧ sk u n p ≤ n) ∧ (¬ wd_0 u n (sk u n p)) ∧ (¬ wd_1 u n (sk u n p)) ∧ (wd_2 u n (sk u n p)) ∧ (¬ 8 ≤ c 2) ∧ r = some (.int 2) ∧ w' = ([x0, ob 6 [.ref 2, .ref 3, .int f1_2, .int (nI n), .int (nI ((sk u n p) + 5)), .int f1_5, .int f1_6], ba 700 r2, ia 4 r3, x4, x5, x6, ob 2 [.ref 8, .ref 9], ia 56 r8, ia 4 (ovl (nIf c) 4 r9), x10, x11, x12, x13, x14, x15, x16, x17, x18, x19, x20, x21, x22, x23, x24, x25, x26, x27, x28, x29, x30, x31, x32], wm)) ∨ ((p ≤ sk u n p ∧ sk u n p ≤ n) ∧ (¬ wd_0 u n (sk u n p)) ∧ (¬ wd_1 u n (sk u n p)) ∧ (¬ wd_2 u n (sk u n p)) ∧ (wd_3 u n (sk u n p)) ∧ (4 ≤ c 3) ∧ r = some (.int (-1)) ∧ w' = ([x0, ob 6 [.ref 2, .ref 3, .int f1_2, .int (nI n), .int (nI ((sk u n p) + 4)), .int 3, .int (nI (sk u n p))], ba 700 r2, ia 4 r3, x4, x5, x6, ob 2 [.ref 8, .ref 9], ia 56 r8, ia 4 (ovl (nIf c) 4 r9), x10, x11, x12, x13, x14, x15, x16, x17, x18, x19, x20, x21, x22, x23, x24, x25, x26, x27, x28, x29, x30, x31, x32], wm)) ∨ ((p ≤ sk u n p ∧ sk u n p ≤ n) ∧ (¬ wd_0 u n (sk u n p)) ∧ (¬ wd_1 u n (sk u n p)) ∧ (¬ wd_2 u n (sk u n p)) ∧ (wd_3 u n (sk u n p)) ∧ (¬ 4 ≤ c 3) ∧ r = some (.int 3) ∧ w' = ([x0, ob 6 [.ref 2, .ref 3, .int f1_2, .int (nI n), .int (nI ((sk u n p) + 4)), .int f1_5, .int f1_6], ba 700 r2, ia 4 r3, x4, x5, x6, ob 2 [.ref 8, .ref 9], ia 56 r8, ia 4 (ovl (nIf c) 4 r9), x10, x11, x12, x13, x14, x15, x16, x17, x18, x19, x20, x21, x22, x23, x24, x25, x26, x27, x28, x29, x30, x31, x32], wm)) ∨ ((p ≤ sk u n p ∧ sk u n p ≤ n) ∧ (¬ wd_0 u n (sk u n p)) ∧ (¬ wd_1 u n (sk u n p)) ∧ (¬ wd_2 u n (sk u n p)) ∧ (¬ wd_3 u n (sk u n p)) ∧ r = some (.int (-1)) ∧ w' = ([x0, ob 6 [.ref 2, .ref 3, .int f1_2, .int (nI n), .int (nI (sk u n p)), .int 1, .int (nI (sk u n p))], ba 700 r2, ia 4 r3, x4, x5, x6, ob 2 [.ref 8, .ref 9], ia 56 r8, ia 4 (ovl (nIf c) 4 r9), x10, x11, x12, x13, x14, x15, x16, x17, x18, x19, x20, x21, x22, x23, x24, x25, x26, x27, x28, x29, x30, x31, x32], wm))) := by
  refine ct_of ⟨by decide, rfl⟩ (Nat.le_of_ble_eq_true rfl) ?_
  refine ab_aload_n dX6_readsSort_0 rfl ?_
  refine ab_callV (As := []) (rest := []) dX6_readsSort_1 mv_X6_skipBlanks ml_X6_61 ⟨by decide, by decide, rfl, rfl, rfl⟩ (by decide) rfl rfl (Nat.le_of_ble_eq_true rfl) rfl (c_X6_skipBlanks (n := n) (p := p) h_n h_u (by omega)) ?_
  rintro r w' ⟨c_1, rfl, rfl⟩
  refine ab_aload_n dX6_readsSort_4 rfl ?_
  refine ab_getf dX6_readsSort_5 fl_X6_26 rfl rfl ?_
  refine ab_istore_n (la' := [(2, .int (nI (sk u n p))), (0, .ref 1), (1, .ref 7)]) dX6_readsSort_8 (by decide) rfl ?_
  refine ab_iconst (v := 0) dX6_readsSort_9 (by decide) ?_
  refine ab_istore_n (la' := [(3, .int 0), (2, .int (nI (sk u n p))), (0, .ref 1), (1, .ref 7)]) dX6_readsSort_10 (by decide) rfl ?_
  refine ab_iload_n dX6_readsSort_11 rfl ?_
  refine ab_iconst (v := 4) dX6_readsSort_12 (by decide) ?_
  refine ab_icmpge 52 dX6_readsSort_13 (by decide) (fun h_2 => absurd h_2 (by decide)) (fun h_2 => ?_)
  refine ab_aload_n dX6_readsSort_16 rfl ?_
  refine ab_iload_n dX6_readsSort_17 rfl ?_
  refine ab_callS (As := [.int 0]) (rest := [.ref 1]) dX6_readsSort_18 ms_X6_lineWord ml_X6_72 ⟨by decide, by decide, rfl, rfl, rfl⟩ (by decide) rfl rfl (Nat.le_of_ble_eq_true rfl) c_lineWord_0 ?_
  rintro r w' ⟨rfl, rfl⟩
  refine ab_callV (As := [.ref 3000]) (rest := []) dX6_readsSort_21 mv_X6_takesWord ml_X6_76 ⟨by decide, by decide, rfl, rfl, rfl⟩ (by decide) rfl rfl (Nat.le_of_ble_eq_true rfl) rfl (c_X6_takesWord_0 (n := n) (p := (sk u n p)) h_n h_u (by omega)) ?_
  rintro r w' (⟨c_3, rfl, rfl⟩ | ⟨c_4, rfl, rfl⟩)
  · refine ab_ifeq 46 dX6_readsSort_24 (by decide) (fun h_5 => absurd h_5 (by decide)) (fun h_5 => ?_)
    refine ab_aload_n dX6_readsSort_27 rfl ?_
    refine ab_iload_n dX6_readsSort_28 rfl ?_
    refine ab_callV (As := [.int 0]) (rest := []) dX6_readsSort_29 mv_X2_isFull ml_X6_80 ⟨by decide, by decide, rfl, rfl, rfl⟩ (by decide) rfl rfl (Nat.le_of_ble_eq_true rfl) rfl (c_X2_isFull_0 (c := c) (r9 := r9) hB) ?_
    rintro r w' (⟨c_6, rfl, rfl⟩ | ⟨c_7, rfl, rfl⟩)
    · refine ab_ifeq 44 dX6_readsSort_32 (by decide) (fun h_8 => absurd h_8 (by decide)) (fun h_8 => ?_)
      refine ab_aload_n dX6_readsSort_35 rfl ?_
      refine ab_iconst (v := 3) dX6_readsSort_36 (by decide) ?_
      refine ab_iload_n dX6_readsSort_37 rfl ?_
      refine ab_callV (As := [.int 3, .int (nI (sk u n p))]) (rest := []) dX6_readsSort_38 mv_X6_fails ml_X6_68 ⟨by decide, by decide, rfl, rfl, rfl⟩ (by decide) rfl rfl (Nat.le_of_ble_eq_true rfl) rfl c_X6_fails ?_
      rintro r w' ⟨rfl, rfl⟩
      refine ab_pop rfl dX6_readsSort_41 ?_
      refine ab_iconst (v := -1) dX6_readsSort_42 (by decide) ?_
      exact ab_iret dX6_readsSort_43 rfl (by decide) (Or.inl ⟨c_1, c_3, c_6, rfl, rfl⟩)
    · refine ab_ifeq 44 dX6_readsSort_32 (by decide) (fun h_9 => ?_) (fun h_9 => absurd (by decide) h_9)
      refine ab_iload_n dX6_readsSort_44 rfl ?_
      exact ab_iret dX6_readsSort_45 rfl (by decide) (Or.inr (Or.inl ⟨c_1, c_3, c_7, rfl, rfl⟩))
  · refine ab_ifeq 46 dX6_readsSort_24 (by decide) (fun h_10 => ?_) (fun h_10 => absurd (by decide) h_10)
    refine ab_iinc (v := 1) (la' := [(3, .int 1), (2, .int (nI (sk u n p))), (0, .ref 1), (1, .ref 7)]) dX6_readsSort_46 rfl (by decide) (by decide) rfl ?_
    refine ab_goto 11 dX6_readsSort_49 (by decide) ?_
    refine ab_iload_n dX6_readsSort_11 rfl ?_
    refine ab_iconst (v := 4) dX6_readsSort_12 (by decide) ?_
    refine ab_icmpge 52 dX6_readsSort_13 (by decide) (fun h_11 => absurd h_11 (by decide)) (fun h_11 => ?_)
    refine ab_aload_n dX6_readsSort_16 rfl ?_
    refine ab_iload_n dX6_readsSort_17 rfl ?_
    refine ab_callS (As := [.int 1]) (rest := [.ref 1]) dX6_readsSort_18 ms_X6_lineWord ml_X6_72 ⟨by decide, by decide, rfl, rfl, rfl⟩ (by decide) rfl rfl (Nat.le_of_ble_eq_true rfl) c_lineWord_1 ?_
    rintro r w' ⟨rfl, rfl⟩
    refine ab_callV (As := [.ref 3001]) (rest := []) dX6_readsSort_21 mv_X6_takesWord ml_X6_76 ⟨by decide, by decide, rfl, rfl, rfl⟩ (by decide) rfl rfl (Nat.le_of_ble_eq_true rfl) rfl (c_X6_takesWord_1 (n := n) (p := (sk u n p)) h_n h_u (by omega)) ?_
    rintro r w' (⟨c_12, rfl, rfl⟩ | ⟨c_13, rfl, rfl⟩)
    · refine ab_ifeq 46 dX6_readsSort_24 (by decide) (fun h_14 => absurd h_14 (by decide)) (fun h_14 => ?_)
      refine ab_aload_n dX6_readsSort_27 rfl ?_
      refine ab_iload_n dX6_readsSort_28 rfl ?_
      refine ab_callV (As := [.int 1]) (rest := []) dX6_readsSort_29 mv_X2_isFull ml_X6_80 ⟨by decide, by decide, rfl, rfl, rfl⟩ (by decide) rfl rfl (Nat.le_of_ble_eq_true rfl) rfl (c_X2_isFull_1 (c := c) (r9 := r9) hB) ?_
      rintro r w' (⟨c_15, rfl, rfl⟩ | ⟨c_16, rfl, rfl⟩)
      · refine ab_ifeq 44 dX6_readsSort_32 (by decide) (fun h_17 => absurd h_17 (by decide)) (fun h_17 => ?_)
        refine ab_aload_n dX6_readsSort_35 rfl ?_
        refine ab_iconst (v := 3) dX6_readsSort_36 (by decide) ?_
        refine ab_iload_n dX6_readsSort_37 rfl ?_
        refine ab_callV (As := [.int 3, .int (nI (sk u n p))]) (rest := []) dX6_readsSort_38 mv_X6_fails ml_X6_68 ⟨by decide, by decide, rfl, rfl, rfl⟩ (by decide) rfl rfl (Nat.le_of_ble_eq_true rfl) rfl c_X6_fails ?_
        rintro r w' ⟨rfl, rfl⟩
        refine ab_pop rfl dX6_readsSort_41 ?_
        refine ab_iconst (v := -1) dX6_readsSort_42 (by decide) ?_
        exact ab_iret dX6_readsSort_43 rfl (by decide) (Or.inr (Or.inr (Or.inl ⟨c_1, c_4, c_12, c_15, rfl, rfl⟩)))
      · refine ab_ifeq 44 dX6_readsSort_32 (by decide) (fun h_18 => ?_) (fun h_18 => absurd (by decide) h_18)
        refine ab_iload_n dX6_readsSort_44 rfl ?_
        exact ab_iret dX6_readsSort_45 rfl (by decide) (Or.inr (Or.inr (Or.inr (Or.inl ⟨c_1, c_4, c_12, c_16, rfl, rfl⟩))))
    · refine ab_ifeq 46 dX6_readsSort_24 (by decide) (fun h_19 => ?_) (fun h_19 => absurd (by decide) h_19)
      refine ab_iinc (v := 2) (la' := [(3, .int 2), (2, .int (nI (sk u n p))), (0, .ref 1), (1, .ref 7)]) dX6_readsSort_46 rfl (by decide) (by decide) rfl ?_
      refine ab_goto 11 dX6_readsSort_49 (by decide) ?_
      refine ab_iload_n dX6_readsSort_11 rfl ?_
      refine ab_iconst (v := 4) dX6_readsSort_12 (by decide) ?_
      refine ab_icmpge 52 dX6_readsSort_13 (by decide) (fun h_20 => absurd h_20 (by decide)) (fun h_20 => ?_)
      refine ab_aload_n dX6_readsSort_16 rfl ?_
      refine ab_iload_n dX6_readsSort_17 rfl ?_
      refine ab_callS (As := [.int 2]) (rest := [.ref 1]) dX6_readsSort_18 ms_X6_lineWord ml_X6_72 ⟨by decide, by decide, rfl, rfl, rfl⟩ (by decide) rfl rfl (Nat.le_of_ble_eq_true rfl) c_lineWord_2 ?_
      rintro r w' ⟨rfl, rfl⟩
      refine ab_callV (As := [.ref 3002]) (rest := []) dX6_readsSort_21 mv_X6_takesWord ml_X6_76 ⟨by decide, by decide, rfl, rfl, rfl⟩ (by decide) rfl rfl (Nat.le_of_ble_eq_true rfl) rfl (c_X6_takesWord_2 (n := n) (p := (sk u n p)) h_n h_u (by omega)) ?_
      rintro r w' (⟨c_21, rfl, rfl⟩ | ⟨c_22, rfl, rfl⟩)
      · refine ab_ifeq 46 dX6_readsSort_24 (by decide) (fun h_23 => absurd h_23 (by decide)) (fun h_23 => ?_)
        refine ab_aload_n dX6_readsSort_27 rfl ?_
        refine ab_iload_n dX6_readsSort_28 rfl ?_
        refine ab_callV (As := [.int 2]) (rest := []) dX6_readsSort_29 mv_X2_isFull ml_X6_80 ⟨by decide, by decide, rfl, rfl, rfl⟩ (by decide) rfl rfl (Nat.le_of_ble_eq_true rfl) rfl (c_X2_isFull_2 (c := c) (r9 := r9) hB) ?_
        rintro r w' (⟨c_24, rfl, rfl⟩ | ⟨c_25, rfl, rfl⟩)
        · refine ab_ifeq 44 dX6_readsSort_32 (by decide) (fun h_26 => absurd h_26 (by decide)) (fun h_26 => ?_)
          refine ab_aload_n dX6_readsSort_35 rfl ?_
          refine ab_iconst (v := 3) dX6_readsSort_36 (by decide) ?_
          refine ab_iload_n dX6_readsSort_37 rfl ?_
          refine ab_callV (As := [.int 3, .int (nI (sk u n p))]) (rest := []) dX6_readsSort_38 mv_X6_fails ml_X6_68 ⟨by decide, by decide, rfl, rfl, rfl⟩ (by decide) rfl rfl (Nat.le_of_ble_eq_true rfl) rfl c_X6_fails ?_
          rintro r w' ⟨rfl, rfl⟩
          refine ab_pop rfl dX6_readsSort_41 ?_
          refine ab_iconst (v := -1) dX6_readsSort_42 (by decide) ?_
          exact ab_iret dX6_readsSort_43 rfl (by decide) (Or.inr (Or.inr (Or.inr (Or.inr (Or.inl ⟨c_1, c_4, c_13, c_21, c_24, rfl, rfl⟩)))))
        · refine ab_ifeq 44 dX6_readsSort_32 (by decide) (fun h_27 => ?_) (fun h_27 => absurd (by decide) h_27)
          refine ab_iload_n dX6_readsSort_44 rfl ?_
          exact ab_iret dX6_readsSort_45 rfl (by decide) (Or.inr (Or.inr (Or.inr (Or.inr (Or.inr (Or.inl ⟨c_1, c_4, c_13, c_21, c_25, rfl, rfl⟩))))))
      · refine ab_ifeq 46 dX6_readsSort_24 (by decide) (fun h_28 => ?_) (fun h_28 => absurd (by decide) h_28)
        refine ab_iinc (v := 3) (la' := [(3, .int 3), (2, .int (nI (sk u n p))), (0, .ref 1), (1, .ref 7)]) dX6_readsSort_46 rfl (by decide) (by decide) rfl ?_
        refine ab_goto 11 dX6_readsSort_49 (by decide) ?_
        refine ab_iload_n dX6_readsSort_11 rfl ?_
        refine ab_iconst (v := 4) dX6_readsSort_12 (by decide) ?_
        refine ab_icmpge 52 dX6_readsSort_13 (by decide) (fun h_29 => absurd h_29 (by decide)) (fun h_29 => ?_)
        refine ab_aload_n dX6_readsSort_16 rfl ?_
        refine ab_iload_n dX6_readsSort_17 rfl ?_
        refine ab_callS (As := [.int 3]) (rest := [.ref 1]) dX6_readsSort_18 ms_X6_lineWord ml_X6_72 ⟨by decide, by decide, rfl, rfl, rfl⟩ (by decide) rfl rfl (Nat.le_of_ble_eq_true rfl) c_lineWord_3 ?_
        rintro r w' ⟨rfl, rfl⟩
        refine ab_callV (As := [.ref 3003]) (rest := []) dX6_readsSort_21 mv_X6_takesWord ml_X6_76 ⟨by decide, by decide, rfl, rfl, rfl⟩ (by decide) rfl rfl (Nat.le_of_ble_eq_true rfl) rfl (c_X6_takesWord_3 (n := n) (p := (sk u n p)) h_n h_u (by omega)) ?_
        rintro r w' (⟨c_30, rfl, rfl⟩ | ⟨c_31, rfl, rfl⟩)
        · refine ab_ifeq 46 dX6_readsSort_24 (by decide) (fun h_32 => absurd h_32 (by decide)) (fun h_32 => ?_)
          refine ab_aload_n dX6_readsSort_27 rfl ?_
          refine ab_iload_n dX6_readsSort_28 rfl ?_
          refine ab_callV (As := [.int 3]) (rest := []) dX6_readsSort_29 mv_X2_isFull ml_X6_80 ⟨by decide, by decide, rfl, rfl, rfl⟩ (by decide) rfl rfl (Nat.le_of_ble_eq_true rfl) rfl (c_X2_isFull_3 (c := c) (r9 := r9) hB) ?_
          rintro r w' (⟨c_33, rfl, rfl⟩ | ⟨c_34, rfl, rfl⟩)
          · refine ab_ifeq 44 dX6_readsSort_32 (by decide) (fun h_35 => absurd h_35 (by decide)) (fun h_35 => ?_)
            refine ab_aload_n dX6_readsSort_35 rfl ?_
            refine ab_iconst (v := 3) dX6_readsSort_36 (by decide) ?_
            refine ab_iload_n dX6_readsSort_37 rfl ?_
            refine ab_callV (As := [.int 3, .int (nI (sk u n p))]) (rest := []) dX6_readsSort_38 mv_X6_fails ml_X6_68 ⟨by decide, by decide, rfl, rfl, rfl⟩ (by decide) rfl rfl (Nat.le_of_ble_eq_true rfl) rfl c_X6_fails ?_
            rintro r w' ⟨rfl, rfl⟩
            refine ab_pop rfl dX6_readsSort_41 ?_
            refine ab_iconst (v := -1) dX6_readsSort_42 (by decide) ?_
            exact ab_iret dX6_readsSort_43 rfl (by decide) (Or.inr (Or.inr (Or.inr (Or.inr (Or.inr (Or.inr (Or.inl ⟨c_1, c_4, c_13, c_22, c_30, c_33, rfl, rfl⟩)))))))
          · refine ab_ifeq 44 dX6_readsSort_32 (by decide) (fun h_36 => ?_) (fun h_36 => absurd (by decide) h_36)
            refine ab_iload_n dX6_readsSort_44 rfl ?_
            exact ab_iret dX6_readsSort_45 rfl (by decide) (Or.inr (Or.inr (Or.inr (Or.inr (Or.inr (Or.inr (Or.inr (Or.inl ⟨c_1, c_4, c_13, c_22, c_30, c_34, rfl, rfl⟩))))))))
        · refine ab_ifeq 46 dX6_readsSort_24 (by decide) (fun h_37 => ?_) (fun h_37 => absurd (by decide) h_37)
          refine ab_iinc (v := 4) (la' := [(3, .int 4), (2, .int (nI (sk u n p))), (0, .ref 1), (1, .ref 7)]) dX6_readsSort_46 rfl (by decide) (by decide) rfl ?_
          refine ab_goto 11 dX6_readsSort_49 (by decide) ?_
          refine ab_iload_n dX6_readsSort_11 rfl ?_
          refine ab_iconst (v := 4) dX6_readsSort_12 (by decide) ?_
          refine ab_icmpge 52 dX6_readsSort_13 (by decide) (fun h_38 => ?_) (fun h_38 => absurd (by decide) h_38)
          refine ab_aload_n dX6_readsSort_52 rfl ?_
          refine ab_iconst (v := 1) dX6_readsSort_53 (by decide) ?_
          refine ab_iload_n dX6_readsSort_54 rfl ?_
          refine ab_callV (As := [.int 1, .int (nI (sk u n p))]) (rest := []) dX6_readsSort_55 mv_X6_fails ml_X6_68 ⟨by decide, by decide, rfl, rfl, rfl⟩ (by decide) rfl rfl (Nat.le_of_ble_eq_true rfl) rfl c_X6_fails ?_
          rintro r w' ⟨rfl, rfl⟩
          refine ab_pop rfl dX6_readsSort_58 ?_
          refine ab_iconst (v := -1) dX6_readsSort_59 (by decide) ?_
          exact ab_iret dX6_readsSort_60 rfl (by decide) (Or.inr (Or.inr (Or.inr (Or.inr (Or.inr (Or.inr (Or.inr (Or.inr (⟨c_1, c_4, c_13, c_22, c_31, rfl, rfl⟩)))))))))
set_option maxHeartbeats 1600000 in
theorem lp_reads {x0 x4 x5 x6 x10 x11 x12 x13 x14 x15 x16 x17 x18 x19 x20 x21 x22 x23 x24 x25 x26 x27 x28 x29 x30 x31 x32 : ax_E} {f1_2 : Int32} {r2 r9 : Nat → Int32} {wm : List ax_E} {u : Nat → Nat} {n : Nat} {Q : Option Value → ax_W → Prop} (h_n : n ≤ 700) (h_u : ∀ k, k < 700 → u k < 256 ∧ r2 k = sgn (u k)) : ∀ (f k p : Nat) (c : Nat → Nat) (m r3 r8 : Nat → Int32), k + f = n + 1 → p ≤ n → Bcn c → Ag c m r8 → (∀ (e : Nat × Nat) (ga : Int32) (gr g8 : Nat → Int32) (gc : Nat → Nat), pAll u n f (p, c, m) = .inl e → Q (some (.int 0)) ([x0, ob 6 [.ref 2, .ref 3, .int f1_2, .int (nI n), .int ga, .int (nI e.1), .int (nI e.2)], ba 700 r2, ia 4 gr, x4, x5, x6, ob 2 [.ref 8, .ref 9], ia 56 g8, ia 4 (ovl (nIf gc) 4 r9), x10, x11, x12, x13, x14, x15, x16, x17, x18, x19, x20, x21, x22, x23, x24, x25, x26, x27, x28, x29, x30, x31, x32], wm)) → (∀ (s : PS) (ga : Int32) (gr g8 : Nat → Int32), pAll u n f (p, c, m) = .inr s → Ag s.2.1 s.2.2 g8 → Bcn s.2.1 → Q (some (.int 1)) ([x0, ob 6 [.ref 2, .ref 3, .int f1_2, .int (nI n), .int ga, .int 0, .int (-1)], ba 700 r2, ia 4 gr, x4, x5, x6, ob 2 [.ref 8, .ref 9], ia 56 g8, ia 4 (ovl (nIf s.2.1) 4 r9), x10, x11, x12, x13, x14, x15, x16, x17, x18, x19, x20, x21, x22, x23, x24, x25, x26, x27, x28, x29, x30, x31, x32], wm)) → Ab M_X6_reads Q (0, 0) 42 [(3, .int (nI k)), (1, .int (nI n)), (2, .ref 7), (0, .ref 1)] [] ([x0, ob 6 [.ref 2, .ref 3, .int f1_2, .int (nI n), .int (nI p), .int 0, .int (-1)], ba 700 r2, ia 4 r3, x4, x5, x6, ob 2 [.ref 8, .ref 9], ia 56 r8, ia 4 (ovl (nIf c) 4 r9), x10, x11, x12, x13, x14, x15, x16, x17, x18, x19, x20, x21, x22, x23, x24, x25, x26, x27, x28, x29, x30, x31, x32], wm) := by
  intro f
  induction f with
  | zero =>
    intro k p c m r3 r8 hk h_p hB hA hF hS
    refine ab_iload_n dX6_reads_42 rfl ?_
    refine ab_aload_n dX6_reads_43 rfl ?_
    refine ab_getf dX6_reads_44 fl_X6_23 rfl rfl ?_
    refine ab_icmpgt 165 dX6_reads_47 (by decide) (fun h_1 => ?_) (fun h_1 => absurd (nI_lt (by omega) (by omega)) h_1)
    refine ab_aload_n dX6_reads_165 rfl ?_
    refine ab_iconst (v := 1) dX6_reads_166 (by decide) ?_
    refine ab_aload_n dX6_reads_167 rfl ?_
    refine ab_getf dX6_reads_168 fl_X6_23 rfl rfl ?_
    refine ab_callV (As := [.int 1, .int (nI n)]) (rest := []) dX6_reads_171 mv_X6_fails ml_X6_68 ⟨by decide, by decide, rfl, rfl, rfl⟩ (by decide) rfl rfl (Nat.le_of_ble_eq_true rfl) rfl c_X6_fails ?_
    rintro r w' ⟨rfl, rfl⟩
    exact ab_zret dX6_reads_174 rfl rfl (by decide) (hF (1, n) (nI p) r3 r8 c rfl)
  | succ f ih =>
    intro k p c m r3 r8 hk h_p hB hA hF hS
    unfold Bcn at hB
    refine ab_iload_n dX6_reads_42 rfl ?_
    refine ab_aload_n dX6_reads_43 rfl ?_
    refine ab_getf dX6_reads_44 fl_X6_23 rfl rfl ?_
    refine ab_icmpgt 165 dX6_reads_47 (by decide) (fun h_1 => absurd h_1 (Int32.not_lt.mpr (nI_le (by omega) (by omega)))) (fun h_1 => ?_)
    refine ab_aload_n dX6_reads_50 rfl ?_
    refine ab_aload_n dX6_reads_51 rfl ?_
    refine ab_callV (As := [.ref 7]) (rest := []) dX6_reads_52 mv_X6_readsSort ml_X6_49 ⟨by decide, by decide, rfl, rfl, rfl⟩ (by decide) rfl rfl (Nat.le_of_ble_eq_true rfl) rfl (c_X6_readsSort (n := n) (p := p) (c := c) (r9 := r9) h_n h_u (by omega) hB) ?_
    rintro r w' (⟨c_2, c_3, c_4, rfl, rfl⟩ | ⟨c_5, c_6, c_7, rfl, rfl⟩ | ⟨c_8, c_9, c_10, c_11, rfl, rfl⟩ | ⟨c_12, c_13, c_14, c_15, rfl, rfl⟩ | ⟨c_16, c_17, c_18, c_19, c_20, rfl, rfl⟩ | ⟨c_21, c_22, c_23, c_24, c_25, rfl, rfl⟩ | ⟨c_26, c_27, c_28, c_29, c_30, c_31, rfl, rfl⟩ | ⟨c_32, c_33, c_34, c_35, c_36, c_37, rfl, rfl⟩ | ⟨c_38, c_39, c_40, c_41, c_42, rfl, rfl⟩)
    · refine ab_istore (la' := [(4, .int (-1)), (3, .int (nI k)), (1, .int (nI n)), (2, .ref 7), (0, .ref 1)]) dX6_reads_55 (by decide) rfl ?_
      refine ab_iload dX6_reads_57 rfl ?_
      refine ab_iconst (v := -1) dX6_reads_59 (by decide) ?_
      refine ab_icmpeq 72 dX6_reads_60 (by decide) (fun h_43 => ?_) (fun h_43 => absurd (by decide) h_43)
      refine ab_iconst (v := 0) dX6_reads_72 (by decide) ?_
      exact ab_zret dX6_reads_73 rfl rfl (by decide) (hF (3, sk u n p) (nI ((sk u n p) + 4)) r3 r8 c (by simp only [pAll, sb_l (show pLn u n (p, c, m) = .inl (3, sk u n p) by simp only [pLn, if_pos (show wd_0 u n (sk u n p) from c_3), if_pos (show 4 ≤ c 0 from c_4)])]))
    · refine ab_istore (la' := [(4, .int 0), (3, .int (nI k)), (1, .int (nI n)), (2, .ref 7), (0, .ref 1)]) dX6_reads_55 (by decide) rfl ?_
      refine ab_iload dX6_reads_57 rfl ?_
      refine ab_iconst (v := -1) dX6_reads_59 (by decide) ?_
      refine ab_icmpeq 72 dX6_reads_60 (by decide) (fun h_44 => absurd h_44 (by decide)) (fun h_44 => ?_)
      refine ab_aload_n dX6_reads_63 rfl ?_
      refine ab_iload dX6_reads_64 rfl ?_
      refine ab_callV (As := [.int 0]) (rest := []) dX6_reads_66 mv_X6_readsRow ml_X6_53 ⟨by decide, by decide, rfl, rfl, rfl⟩ (by decide) rfl rfl (Nat.le_of_ble_eq_true rfl) rfl (c_X6_readsRow_0 (n := n) (p := ((sk u n p) + 4)) h_n h_u (by omega)) ?_
      rintro r w' (⟨e_45, ga_46, gr_47, c_48, rfl, rfl⟩ | ⟨v_49, c_50, c_51, rfl, rfl⟩)
      · refine ab_ifne 74 dX6_reads_69 (by decide) (fun h_52 => absurd (by decide) h_52) (fun h_52 => ?_)
        refine ab_iconst (v := 0) dX6_reads_72 (by decide) ?_
        exact ab_zret dX6_reads_73 rfl rfl (by decide) (hF e_45 ga_46 gr_47 r8 c (by simp only [pAll, sb_l (show pLn u n (p, c, m) = .inl e_45 by simp only [pLn, if_pos (show wd_0 u n (sk u n p) from c_6), if_neg (show ¬ 4 ≤ c 0 from c_7), sb_l c_48])]))
      · refine ab_ifne 74 dX6_reads_69 (by decide) (fun h_53 => ?_) (fun h_53 => absurd h_53 (by decide))
        refine ab_aload_n dX6_reads_74 rfl ?_
        refine ab_iload dX6_reads_75 rfl ?_
        refine ab_aload_n dX6_reads_77 rfl ?_
        refine ab_getf dX6_reads_78 fl_X6_15 rfl rfl ?_
        refine ab_callV (As := [.int 0, .ref 3]) (rest := []) dX6_reads_81 mv_X2_add ml_X6_57 ⟨by decide, by decide, rfl, rfl, rfl⟩ (by decide) rfl rfl (Nat.le_of_ble_eq_true rfl) rfl (c_X2_add_0 (c := c) (r9 := r9) hB c_7) ?_
        rintro r w' ⟨rfl, rfl⟩
        have hLn : pLn u n (p, c, m) = .inr (v_49.2.2.2.2, updN c 0 (c 0 + 1), put4 m (0 + c 0 * 4) v_49.1 v_49.2.1 v_49.2.2.1 v_49.2.2.2.1) := by simp only [pLn, if_pos (show wd_0 u n (sk u n p) from c_6), if_neg (show ¬ 4 ≤ c 0 from c_7), sb_r c_50]
        have hB2 := Bc_0 hB c_7
        have hB3 := hB2
        unfold Bcn at hB3
        have hA2 := Ag_put4_0 (a := v_49.1) (b := v_49.2.1) (c := v_49.2.2.1) (d := v_49.2.2.2.1) hA
        rw [← cpy_put4 (r := r3) (g := r8)] at hA2
        refine ab_aload_n dX6_reads_84 rfl ?_
        refine ab_callV (As := []) (rest := []) dX6_reads_85 mv_X6_skipBlanks ml_X6_61 ⟨by decide, by decide, rfl, rfl, rfl⟩ (by decide) rfl rfl (Nat.le_of_ble_eq_true rfl) rfl (c_X6_skipBlanks (n := n) (p := v_49.2.2.2.2) h_n h_u (by omega)) ?_
        rintro r w' ⟨c_54, rfl, rfl⟩
        refine ab_aload_n dX6_reads_88 rfl ?_
        refine ab_getf dX6_reads_89 fl_X6_26 rfl rfl ?_
        refine ab_aload_n dX6_reads_92 rfl ?_
        refine ab_getf dX6_reads_93 fl_X6_23 rfl rfl ?_
        refine ab_icmplt 125 dX6_reads_96 (by decide) (fun h_55 => ?_) (fun h_55 => ?_)
        · have h_55n := (nI_ltI (a := (sk u n v_49.2.2.2.2)) (b := n) (by omega) (by omega)).mp h_55
          refine ab_aload_n dX6_reads_125 rfl ?_
          refine ab_getf dX6_reads_126 fl_X6_11 rfl rfl ?_
          refine ab_aload_n dX6_reads_129 rfl ?_
          refine ab_getf dX6_reads_130 fl_X6_26 rfl rfl ?_
          refine ab_bald (j := (sk u n v_49.2.2.2.2)) dX6_reads_133 rfl (ix_nI (by omega) (by decide)) ?_
          refine ab_topi (v := (sgn (u (sk u n v_49.2.2.2.2)))) (h_u (sk u n v_49.2.2.2.2) (by omega)).2 ?_
          refine ab_bipush (v := 59) dX6_reads_134 (by decide) ?_
          refine ab_icmpeq 149 dX6_reads_136 (by decide) (fun h_56 => ?_) (fun h_56 => ?_)
          · refine ab_aload_n dX6_reads_149 rfl ?_
            refine ab_dup rfl dX6_reads_150 ?_
            refine ab_getf dX6_reads_151 fl_X6_26 rfl rfl ?_
            refine ab_iconst (v := 1) dX6_reads_154 (by decide) ?_
            refine ab_iadd dX6_reads_155 ?_
            refine ab_topi (v := (nI ((sk u n v_49.2.2.2.2) + 1))) (nI_1 _) ?_
            refine ab_putf (w1 := ([x0, ob 6 [.ref 2, .ref 3, .int f1_2, .int (nI n), .int (nI ((sk u n v_49.2.2.2.2) + 1)), .int 0, .int (-1)], ba 700 r2, ia 4 (upd (upd (upd (upd r3 0 v_49.1) 1 v_49.2.1) 2 v_49.2.2.1) 3 v_49.2.2.2.1), x4, x5, x6, ob 2 [.ref 8, .ref 9], ia 56 (va_cpy (upd (upd (upd (upd r3 0 v_49.1) 1 v_49.2.1) 2 v_49.2.2.1) 3 v_49.2.2.2.1) r8 0 (0 + c 0 * 4) 4), ia 4 (ovl (nIf (updN c 0 (c 0 + 1))) 4 r9), x10, x11, x12, x13, x14, x15, x16, x17, x18, x19, x20, x21, x22, x23, x24, x25, x26, x27, x28, x29, x30, x31, x32], wm)) dX6_reads_156 fl_X6_26 rfl (Nat.le_of_ble_eq_true rfl) (fun _ => ⟨rfl, rfl⟩) rfl ?_
            refine ab_iinc (v := (nI (k + 1))) (la' := [(3, .int (nI (k + 1))), (4, .int 0), (1, .int (nI n)), (2, .ref 7), (0, .ref 1)]) dX6_reads_159 rfl (nI_1 _) (by decide) rfl ?_
            refine ab_goto 42 dX6_reads_162 (by decide) ?_
            refine ab_pick [0, 2, 3, 4] rfl ?_
            exact ih (k + 1) ((sk u n v_49.2.2.2.2) + 1) (updN c 0 (c 0 + 1)) (put4 m (0 + c 0 * 4) v_49.1 v_49.2.1 v_49.2.2.1 v_49.2.2.2.1) (upd (upd (upd (upd r3 0 v_49.1) 1 v_49.2.1) 2 v_49.2.2.1) 3 v_49.2.2.2.1) (va_cpy (upd (upd (upd (upd r3 0 v_49.1) 1 v_49.2.1) 2 v_49.2.2.1) 3 v_49.2.2.2.1) r8 0 (0 + c 0 * 4) 4) (by omega) (by omega) hB2 hA2 (fun e ga gr g8 gc z => hF e ga gr g8 gc ((show pAll u n (f + 1) (p, c, m) = pAll u n f ((sk u n v_49.2.2.2.2) + 1, updN c 0 (c 0 + 1), put4 m (0 + c 0 * 4) v_49.1 v_49.2.1 v_49.2.2.1 v_49.2.2.2.1) by simp only [pAll, sb_r hLn]; rw [if_neg (by omega), if_pos ((sgn_c (c := 59) (h_u _ (by omega)).1 (by decide) rfl).mp h_56)]).trans z)) (fun s ga gr g8 z => hS s ga gr g8 ((show pAll u n (f + 1) (p, c, m) = pAll u n f ((sk u n v_49.2.2.2.2) + 1, updN c 0 (c 0 + 1), put4 m (0 + c 0 * 4) v_49.1 v_49.2.1 v_49.2.2.1 v_49.2.2.2.1) by simp only [pAll, sb_r hLn]; rw [if_neg (by omega), if_pos ((sgn_c (c := 59) (h_u _ (by omega)).1 (by decide) rfl).mp h_56)]).trans z))
          · refine ab_aload_n dX6_reads_139 rfl ?_
            refine ab_iconst (v := 1) dX6_reads_140 (by decide) ?_
            refine ab_aload_n dX6_reads_141 rfl ?_
            refine ab_getf dX6_reads_142 fl_X6_26 rfl rfl ?_
            refine ab_callV (As := [.int 1, .int (nI (sk u n v_49.2.2.2.2))]) (rest := []) dX6_reads_145 mv_X6_fails ml_X6_68 ⟨by decide, by decide, rfl, rfl, rfl⟩ (by decide) rfl rfl (Nat.le_of_ble_eq_true rfl) rfl c_X6_fails ?_
            rintro r w' ⟨rfl, rfl⟩
            exact ab_zret dX6_reads_148 rfl rfl (by decide) (hF (1, (sk u n v_49.2.2.2.2)) (nI (sk u n v_49.2.2.2.2)) (upd (upd (upd (upd r3 0 v_49.1) 1 v_49.2.1) 2 v_49.2.2.1) 3 v_49.2.2.2.1) (va_cpy (upd (upd (upd (upd r3 0 v_49.1) 1 v_49.2.1) 2 v_49.2.2.1) 3 v_49.2.2.2.1) r8 0 (0 + c 0 * 4) 4) (updN c 0 (c 0 + 1)) (by simp only [pAll, sb_r hLn]; rw [if_neg (by omega), if_neg (fun z => h_56 ((sgn_c (c := 59) (h_u _ (by omega)).1 (by decide) rfl).mpr z))]))
        · have h_55n : ¬ _ := fun z => h_55 ((nI_ltI (a := (sk u n v_49.2.2.2.2)) (b := n) (by omega) (by omega)).mpr z)
          refine ab_aload_n dX6_reads_99 rfl ?_
          refine ab_iconst (v := 0) dX6_reads_100 (by decide) ?_
          refine ab_callV (As := [.int 0]) (rest := []) dX6_reads_101 mv_X2_count ml_X6_64 ⟨by decide, by decide, rfl, rfl, rfl⟩ (by decide) rfl rfl (Nat.le_of_ble_eq_true rfl) rfl c_X2_count_7_0 ?_
          rintro r w' ⟨rfl, rfl⟩
          refine ab_topi (v := (nI ((updN c 0 (c 0 + 1)) 0))) (ovl_lt (by decide)) ?_
          refine ab_ifgt 119 dX6_reads_104 (by decide) (fun h_57 => ?_) (fun h_57 => ?_)
          · have h_57n := (nI_ltI (a := 0) (b := ((updN c 0 (c 0 + 1)) 0)) (by omega) (by omega)).mp h_57
            refine ab_iconst (v := 1) dX6_reads_119 (by decide) ?_
            refine ab_goto 124 dX6_reads_120 (by decide) ?_
            exact ab_zret dX6_reads_124 rfl rfl (by decide) (hS (v_49.2.2.2.2, updN c 0 (c 0 + 1), put4 m (0 + c 0 * 4) v_49.1 v_49.2.1 v_49.2.2.1 v_49.2.2.2.1) (nI (sk u n v_49.2.2.2.2)) (upd (upd (upd (upd r3 0 v_49.1) 1 v_49.2.1) 2 v_49.2.2.1) 3 v_49.2.2.2.1) (va_cpy (upd (upd (upd (upd r3 0 v_49.1) 1 v_49.2.1) 2 v_49.2.2.1) 3 v_49.2.2.2.1) r8 0 (0 + c 0 * 4) 4) (by simp only [pAll, sb_r hLn]; rw [if_pos (by omega), if_pos (by omega)]) hA2 hB2)
          · have h_57n : ¬ _ := fun z => h_57 ((nI_ltI (a := 0) (b := ((updN c 0 (c 0 + 1)) 0)) (by omega) (by omega)).mpr z)
            refine ab_aload_n dX6_reads_107 rfl ?_
            refine ab_iconst (v := 4) dX6_reads_108 (by decide) ?_
            refine ab_aload_n dX6_reads_109 rfl ?_
            refine ab_getf dX6_reads_110 fl_X6_26 rfl rfl ?_
            refine ab_callV (As := [.int 4, .int (nI (sk u n v_49.2.2.2.2))]) (rest := []) dX6_reads_113 mv_X6_fails ml_X6_68 ⟨by decide, by decide, rfl, rfl, rfl⟩ (by decide) rfl rfl (Nat.le_of_ble_eq_true rfl) rfl c_X6_fails ?_
            rintro r w' ⟨rfl, rfl⟩
            refine ab_ifeq 123 dX6_reads_116 (by decide) (fun h_58 => ?_) (fun h_58 => absurd (by decide) h_58)
            refine ab_iconst (v := 0) dX6_reads_123 (by decide) ?_
            exact ab_zret dX6_reads_124 rfl rfl (by decide) (hF (4, (sk u n v_49.2.2.2.2)) (nI (sk u n v_49.2.2.2.2)) (upd (upd (upd (upd r3 0 v_49.1) 1 v_49.2.1) 2 v_49.2.2.1) 3 v_49.2.2.2.1) (va_cpy (upd (upd (upd (upd r3 0 v_49.1) 1 v_49.2.1) 2 v_49.2.2.1) 3 v_49.2.2.2.1) r8 0 (0 + c 0 * 4) 4) (updN c 0 (c 0 + 1)) (by simp only [pAll, sb_r hLn]; rw [if_pos (by omega), if_neg (by omega)]))
    · refine ab_istore (la' := [(4, .int (-1)), (3, .int (nI k)), (1, .int (nI n)), (2, .ref 7), (0, .ref 1)]) dX6_reads_55 (by decide) rfl ?_
      refine ab_iload dX6_reads_57 rfl ?_
      refine ab_iconst (v := -1) dX6_reads_59 (by decide) ?_
      refine ab_icmpeq 72 dX6_reads_60 (by decide) (fun h_59 => ?_) (fun h_59 => absurd (by decide) h_59)
      refine ab_iconst (v := 0) dX6_reads_72 (by decide) ?_
      exact ab_zret dX6_reads_73 rfl rfl (by decide) (hF (3, sk u n p) (nI ((sk u n p) + 6)) r3 r8 c (by simp only [pAll, sb_l (show pLn u n (p, c, m) = .inl (3, sk u n p) by simp only [pLn, if_neg (show ¬ wd_0 u n (sk u n p) from c_9), if_pos (show wd_1 u n (sk u n p) from c_10), if_pos (show 4 ≤ c 1 from c_11)])]))
    · refine ab_istore (la' := [(4, .int 1), (3, .int (nI k)), (1, .int (nI n)), (2, .ref 7), (0, .ref 1)]) dX6_reads_55 (by decide) rfl ?_
      refine ab_iload dX6_reads_57 rfl ?_
      refine ab_iconst (v := -1) dX6_reads_59 (by decide) ?_
      refine ab_icmpeq 72 dX6_reads_60 (by decide) (fun h_60 => absurd h_60 (by decide)) (fun h_60 => ?_)
      refine ab_aload_n dX6_reads_63 rfl ?_
      refine ab_iload dX6_reads_64 rfl ?_
      refine ab_callV (As := [.int 1]) (rest := []) dX6_reads_66 mv_X6_readsRow ml_X6_53 ⟨by decide, by decide, rfl, rfl, rfl⟩ (by decide) rfl rfl (Nat.le_of_ble_eq_true rfl) rfl (c_X6_readsRow_1 (n := n) (p := ((sk u n p) + 6)) h_n h_u (by omega)) ?_
      rintro r w' (⟨e_61, ga_62, gr_63, c_64, rfl, rfl⟩ | ⟨v_65, c_66, c_67, rfl, rfl⟩)
      · refine ab_ifne 74 dX6_reads_69 (by decide) (fun h_68 => absurd (by decide) h_68) (fun h_68 => ?_)
        refine ab_iconst (v := 0) dX6_reads_72 (by decide) ?_
        exact ab_zret dX6_reads_73 rfl rfl (by decide) (hF e_61 ga_62 gr_63 r8 c (by simp only [pAll, sb_l (show pLn u n (p, c, m) = .inl e_61 by simp only [pLn, if_neg (show ¬ wd_0 u n (sk u n p) from c_13), if_pos (show wd_1 u n (sk u n p) from c_14), if_neg (show ¬ 4 ≤ c 1 from c_15), sb_l c_64])]))
      · refine ab_ifne 74 dX6_reads_69 (by decide) (fun h_69 => ?_) (fun h_69 => absurd h_69 (by decide))
        refine ab_aload_n dX6_reads_74 rfl ?_
        refine ab_iload dX6_reads_75 rfl ?_
        refine ab_aload_n dX6_reads_77 rfl ?_
        refine ab_getf dX6_reads_78 fl_X6_15 rfl rfl ?_
        refine ab_callV (As := [.int 1, .ref 3]) (rest := []) dX6_reads_81 mv_X2_add ml_X6_57 ⟨by decide, by decide, rfl, rfl, rfl⟩ (by decide) rfl rfl (Nat.le_of_ble_eq_true rfl) rfl (c_X2_add_1 (c := c) (r9 := r9) hB c_15) ?_
        rintro r w' ⟨rfl, rfl⟩
        have hLn : pLn u n (p, c, m) = .inr (v_65.2.2, updN c 1 (c 1 + 1), put2 m (16 + c 1 * 2) v_65.1 v_65.2.1) := by simp only [pLn, if_neg (show ¬ wd_0 u n (sk u n p) from c_13), if_pos (show wd_1 u n (sk u n p) from c_14), if_neg (show ¬ 4 ≤ c 1 from c_15), sb_r c_66]
        have hB2 := Bc_1 hB c_15
        have hB3 := hB2
        unfold Bcn at hB3
        have hA2 := Ag_put2_1 (a := v_65.1) (b := v_65.2.1) hA
        rw [← cpy_put2 (r := r3) (g := r8)] at hA2
        refine ab_aload_n dX6_reads_84 rfl ?_
        refine ab_callV (As := []) (rest := []) dX6_reads_85 mv_X6_skipBlanks ml_X6_61 ⟨by decide, by decide, rfl, rfl, rfl⟩ (by decide) rfl rfl (Nat.le_of_ble_eq_true rfl) rfl (c_X6_skipBlanks (n := n) (p := v_65.2.2) h_n h_u (by omega)) ?_
        rintro r w' ⟨c_70, rfl, rfl⟩
        refine ab_aload_n dX6_reads_88 rfl ?_
        refine ab_getf dX6_reads_89 fl_X6_26 rfl rfl ?_
        refine ab_aload_n dX6_reads_92 rfl ?_
        refine ab_getf dX6_reads_93 fl_X6_23 rfl rfl ?_
        refine ab_icmplt 125 dX6_reads_96 (by decide) (fun h_71 => ?_) (fun h_71 => ?_)
        · have h_71n := (nI_ltI (a := (sk u n v_65.2.2)) (b := n) (by omega) (by omega)).mp h_71
          refine ab_aload_n dX6_reads_125 rfl ?_
          refine ab_getf dX6_reads_126 fl_X6_11 rfl rfl ?_
          refine ab_aload_n dX6_reads_129 rfl ?_
          refine ab_getf dX6_reads_130 fl_X6_26 rfl rfl ?_
          refine ab_bald (j := (sk u n v_65.2.2)) dX6_reads_133 rfl (ix_nI (by omega) (by decide)) ?_
          refine ab_topi (v := (sgn (u (sk u n v_65.2.2)))) (h_u (sk u n v_65.2.2) (by omega)).2 ?_
          refine ab_bipush (v := 59) dX6_reads_134 (by decide) ?_
          refine ab_icmpeq 149 dX6_reads_136 (by decide) (fun h_72 => ?_) (fun h_72 => ?_)
          · refine ab_aload_n dX6_reads_149 rfl ?_
            refine ab_dup rfl dX6_reads_150 ?_
            refine ab_getf dX6_reads_151 fl_X6_26 rfl rfl ?_
            refine ab_iconst (v := 1) dX6_reads_154 (by decide) ?_
            refine ab_iadd dX6_reads_155 ?_
            refine ab_topi (v := (nI ((sk u n v_65.2.2) + 1))) (nI_1 _) ?_
            refine ab_putf (w1 := ([x0, ob 6 [.ref 2, .ref 3, .int f1_2, .int (nI n), .int (nI ((sk u n v_65.2.2) + 1)), .int 0, .int (-1)], ba 700 r2, ia 4 (upd (upd r3 0 v_65.1) 1 v_65.2.1), x4, x5, x6, ob 2 [.ref 8, .ref 9], ia 56 (va_cpy (upd (upd r3 0 v_65.1) 1 v_65.2.1) r8 0 (16 + c 1 * 2) 2), ia 4 (ovl (nIf (updN c 1 (c 1 + 1))) 4 r9), x10, x11, x12, x13, x14, x15, x16, x17, x18, x19, x20, x21, x22, x23, x24, x25, x26, x27, x28, x29, x30, x31, x32], wm)) dX6_reads_156 fl_X6_26 rfl (Nat.le_of_ble_eq_true rfl) (fun _ => ⟨rfl, rfl⟩) rfl ?_
            refine ab_iinc (v := (nI (k + 1))) (la' := [(3, .int (nI (k + 1))), (4, .int 1), (1, .int (nI n)), (2, .ref 7), (0, .ref 1)]) dX6_reads_159 rfl (nI_1 _) (by decide) rfl ?_
            refine ab_goto 42 dX6_reads_162 (by decide) ?_
            refine ab_pick [0, 2, 3, 4] rfl ?_
            exact ih (k + 1) ((sk u n v_65.2.2) + 1) (updN c 1 (c 1 + 1)) (put2 m (16 + c 1 * 2) v_65.1 v_65.2.1) (upd (upd r3 0 v_65.1) 1 v_65.2.1) (va_cpy (upd (upd r3 0 v_65.1) 1 v_65.2.1) r8 0 (16 + c 1 * 2) 2) (by omega) (by omega) hB2 hA2 (fun e ga gr g8 gc z => hF e ga gr g8 gc ((show pAll u n (f + 1) (p, c, m) = pAll u n f ((sk u n v_65.2.2) + 1, updN c 1 (c 1 + 1), put2 m (16 + c 1 * 2) v_65.1 v_65.2.1) by simp only [pAll, sb_r hLn]; rw [if_neg (by omega), if_pos ((sgn_c (c := 59) (h_u _ (by omega)).1 (by decide) rfl).mp h_72)]).trans z)) (fun s ga gr g8 z => hS s ga gr g8 ((show pAll u n (f + 1) (p, c, m) = pAll u n f ((sk u n v_65.2.2) + 1, updN c 1 (c 1 + 1), put2 m (16 + c 1 * 2) v_65.1 v_65.2.1) by simp only [pAll, sb_r hLn]; rw [if_neg (by omega), if_pos ((sgn_c (c := 59) (h_u _ (by omega)).1 (by decide) rfl).mp h_72)]).trans z))
          · refine ab_aload_n dX6_reads_139 rfl ?_
            refine ab_iconst (v := 1) dX6_reads_140 (by decide) ?_
            refine ab_aload_n dX6_reads_141 rfl ?_
            refine ab_getf dX6_reads_142 fl_X6_26 rfl rfl ?_
            refine ab_callV (As := [.int 1, .int (nI (sk u n v_65.2.2))]) (rest := []) dX6_reads_145 mv_X6_fails ml_X6_68 ⟨by decide, by decide, rfl, rfl, rfl⟩ (by decide) rfl rfl (Nat.le_of_ble_eq_true rfl) rfl c_X6_fails ?_
            rintro r w' ⟨rfl, rfl⟩
            exact ab_zret dX6_reads_148 rfl rfl (by decide) (hF (1, (sk u n v_65.2.2)) (nI (sk u n v_65.2.2)) (upd (upd r3 0 v_65.1) 1 v_65.2.1) (va_cpy (upd (upd r3 0 v_65.1) 1 v_65.2.1) r8 0 (16 + c 1 * 2) 2) (updN c 1 (c 1 + 1)) (by simp only [pAll, sb_r hLn]; rw [if_neg (by omega), if_neg (fun z => h_72 ((sgn_c (c := 59) (h_u _ (by omega)).1 (by decide) rfl).mpr z))]))
        · have h_71n : ¬ _ := fun z => h_71 ((nI_ltI (a := (sk u n v_65.2.2)) (b := n) (by omega) (by omega)).mpr z)
          refine ab_aload_n dX6_reads_99 rfl ?_
          refine ab_iconst (v := 0) dX6_reads_100 (by decide) ?_
          refine ab_callV (As := [.int 0]) (rest := []) dX6_reads_101 mv_X2_count ml_X6_64 ⟨by decide, by decide, rfl, rfl, rfl⟩ (by decide) rfl rfl (Nat.le_of_ble_eq_true rfl) rfl c_X2_count_7_0 ?_
          rintro r w' ⟨rfl, rfl⟩
          refine ab_topi (v := (nI ((updN c 1 (c 1 + 1)) 0))) (ovl_lt (by decide)) ?_
          refine ab_ifgt 119 dX6_reads_104 (by decide) (fun h_73 => ?_) (fun h_73 => ?_)
          · have h_73n := (nI_ltI (a := 0) (b := ((updN c 1 (c 1 + 1)) 0)) (by omega) (by omega)).mp h_73
            refine ab_iconst (v := 1) dX6_reads_119 (by decide) ?_
            refine ab_goto 124 dX6_reads_120 (by decide) ?_
            exact ab_zret dX6_reads_124 rfl rfl (by decide) (hS (v_65.2.2, updN c 1 (c 1 + 1), put2 m (16 + c 1 * 2) v_65.1 v_65.2.1) (nI (sk u n v_65.2.2)) (upd (upd r3 0 v_65.1) 1 v_65.2.1) (va_cpy (upd (upd r3 0 v_65.1) 1 v_65.2.1) r8 0 (16 + c 1 * 2) 2) (by simp only [pAll, sb_r hLn]; rw [if_pos (by omega), if_pos (by omega)]) hA2 hB2)
          · have h_73n : ¬ _ := fun z => h_73 ((nI_ltI (a := 0) (b := ((updN c 1 (c 1 + 1)) 0)) (by omega) (by omega)).mpr z)
            refine ab_aload_n dX6_reads_107 rfl ?_
            refine ab_iconst (v := 4) dX6_reads_108 (by decide) ?_
            refine ab_aload_n dX6_reads_109 rfl ?_
            refine ab_getf dX6_reads_110 fl_X6_26 rfl rfl ?_
            refine ab_callV (As := [.int 4, .int (nI (sk u n v_65.2.2))]) (rest := []) dX6_reads_113 mv_X6_fails ml_X6_68 ⟨by decide, by decide, rfl, rfl, rfl⟩ (by decide) rfl rfl (Nat.le_of_ble_eq_true rfl) rfl c_X6_fails ?_
            rintro r w' ⟨rfl, rfl⟩
            refine ab_ifeq 123 dX6_reads_116 (by decide) (fun h_74 => ?_) (fun h_74 => absurd (by decide) h_74)
            refine ab_iconst (v := 0) dX6_reads_123 (by decide) ?_
            exact ab_zret dX6_reads_124 rfl rfl (by decide) (hF (4, (sk u n v_65.2.2)) (nI (sk u n v_65.2.2)) (upd (upd r3 0 v_65.1) 1 v_65.2.1) (va_cpy (upd (upd r3 0 v_65.1) 1 v_65.2.1) r8 0 (16 + c 1 * 2) 2) (updN c 1 (c 1 + 1)) (by simp only [pAll, sb_r hLn]; rw [if_pos (by omega), if_neg (by omega)]))
    · refine ab_istore (la' := [(4, .int (-1)), (3, .int (nI k)), (1, .int (nI n)), (2, .ref 7), (0, .ref 1)]) dX6_reads_55 (by decide) rfl ?_
      refine ab_iload dX6_reads_57 rfl ?_
      refine ab_iconst (v := -1) dX6_reads_59 (by decide) ?_
      refine ab_icmpeq 72 dX6_reads_60 (by decide) (fun h_75 => ?_) (fun h_75 => absurd (by decide) h_75)
      refine ab_iconst (v := 0) dX6_reads_72 (by decide) ?_
      exact ab_zret dX6_reads_73 rfl rfl (by decide) (hF (3, sk u n p) (nI ((sk u n p) + 5)) r3 r8 c (by simp only [pAll, sb_l (show pLn u n (p, c, m) = .inl (3, sk u n p) by simp only [pLn, if_neg (show ¬ wd_0 u n (sk u n p) from c_17), if_neg (show ¬ wd_1 u n (sk u n p) from c_18), if_pos (show wd_2 u n (sk u n p) from c_19), if_pos (show 8 ≤ c 2 from c_20)])]))
    · refine ab_istore (la' := [(4, .int 2), (3, .int (nI k)), (1, .int (nI n)), (2, .ref 7), (0, .ref 1)]) dX6_reads_55 (by decide) rfl ?_
      refine ab_iload dX6_reads_57 rfl ?_
      refine ab_iconst (v := -1) dX6_reads_59 (by decide) ?_
      refine ab_icmpeq 72 dX6_reads_60 (by decide) (fun h_76 => absurd h_76 (by decide)) (fun h_76 => ?_)
      refine ab_aload_n dX6_reads_63 rfl ?_
      refine ab_iload dX6_reads_64 rfl ?_
      refine ab_callV (As := [.int 2]) (rest := []) dX6_reads_66 mv_X6_readsRow ml_X6_53 ⟨by decide, by decide, rfl, rfl, rfl⟩ (by decide) rfl rfl (Nat.le_of_ble_eq_true rfl) rfl (c_X6_readsRow_2 (n := n) (p := ((sk u n p) + 5)) h_n h_u (by omega)) ?_
      rintro r w' (⟨e_77, ga_78, gr_79, c_80, rfl, rfl⟩ | ⟨v_81, c_82, c_83, rfl, rfl⟩)
      · refine ab_ifne 74 dX6_reads_69 (by decide) (fun h_84 => absurd (by decide) h_84) (fun h_84 => ?_)
        refine ab_iconst (v := 0) dX6_reads_72 (by decide) ?_
        exact ab_zret dX6_reads_73 rfl rfl (by decide) (hF e_77 ga_78 gr_79 r8 c (by simp only [pAll, sb_l (show pLn u n (p, c, m) = .inl e_77 by simp only [pLn, if_neg (show ¬ wd_0 u n (sk u n p) from c_22), if_neg (show ¬ wd_1 u n (sk u n p) from c_23), if_pos (show wd_2 u n (sk u n p) from c_24), if_neg (show ¬ 8 ≤ c 2 from c_25), sb_l c_80])]))
      · refine ab_ifne 74 dX6_reads_69 (by decide) (fun h_85 => ?_) (fun h_85 => absurd h_85 (by decide))
        refine ab_aload_n dX6_reads_74 rfl ?_
        refine ab_iload dX6_reads_75 rfl ?_
        refine ab_aload_n dX6_reads_77 rfl ?_
        refine ab_getf dX6_reads_78 fl_X6_15 rfl rfl ?_
        refine ab_callV (As := [.int 2, .ref 3]) (rest := []) dX6_reads_81 mv_X2_add ml_X6_57 ⟨by decide, by decide, rfl, rfl, rfl⟩ (by decide) rfl rfl (Nat.le_of_ble_eq_true rfl) rfl (c_X2_add_2 (c := c) (r9 := r9) hB c_25) ?_
        rintro r w' ⟨rfl, rfl⟩
        have hLn : pLn u n (p, c, m) = .inr (v_81.2.2, updN c 2 (c 2 + 1), put2 m (24 + c 2 * 2) v_81.1 v_81.2.1) := by simp only [pLn, if_neg (show ¬ wd_0 u n (sk u n p) from c_22), if_neg (show ¬ wd_1 u n (sk u n p) from c_23), if_pos (show wd_2 u n (sk u n p) from c_24), if_neg (show ¬ 8 ≤ c 2 from c_25), sb_r c_82]
        have hB2 := Bc_2 hB c_25
        have hB3 := hB2
        unfold Bcn at hB3
        have hA2 := Ag_put2_2 (a := v_81.1) (b := v_81.2.1) hA
        rw [← cpy_put2 (r := r3) (g := r8)] at hA2
        refine ab_aload_n dX6_reads_84 rfl ?_
        refine ab_callV (As := []) (rest := []) dX6_reads_85 mv_X6_skipBlanks ml_X6_61 ⟨by decide, by decide, rfl, rfl, rfl⟩ (by decide) rfl rfl (Nat.le_of_ble_eq_true rfl) rfl (c_X6_skipBlanks (n := n) (p := v_81.2.2) h_n h_u (by omega)) ?_
        rintro r w' ⟨c_86, rfl, rfl⟩
        refine ab_aload_n dX6_reads_88 rfl ?_
        refine ab_getf dX6_reads_89 fl_X6_26 rfl rfl ?_
        refine ab_aload_n dX6_reads_92 rfl ?_
        refine ab_getf dX6_reads_93 fl_X6_23 rfl rfl ?_
        refine ab_icmplt 125 dX6_reads_96 (by decide) (fun h_87 => ?_) (fun h_87 => ?_)
        · have h_87n := (nI_ltI (a := (sk u n v_81.2.2)) (b := n) (by omega) (by omega)).mp h_87
          refine ab_aload_n dX6_reads_125 rfl ?_
          refine ab_getf dX6_reads_126 fl_X6_11 rfl rfl ?_
          refine ab_aload_n dX6_reads_129 rfl ?_
          refine ab_getf dX6_reads_130 fl_X6_26 rfl rfl ?_
          refine ab_bald (j := (sk u n v_81.2.2)) dX6_reads_133 rfl (ix_nI (by omega) (by decide)) ?_
          refine ab_topi (v := (sgn (u (sk u n v_81.2.2)))) (h_u (sk u n v_81.2.2) (by omega)).2 ?_
          refine ab_bipush (v := 59) dX6_reads_134 (by decide) ?_
          refine ab_icmpeq 149 dX6_reads_136 (by decide) (fun h_88 => ?_) (fun h_88 => ?_)
          · refine ab_aload_n dX6_reads_149 rfl ?_
            refine ab_dup rfl dX6_reads_150 ?_
            refine ab_getf dX6_reads_151 fl_X6_26 rfl rfl ?_
            refine ab_iconst (v := 1) dX6_reads_154 (by decide) ?_
            refine ab_iadd dX6_reads_155 ?_
            refine ab_topi (v := (nI ((sk u n v_81.2.2) + 1))) (nI_1 _) ?_
            refine ab_putf (w1 := ([x0, ob 6 [.ref 2, .ref 3, .int f1_2, .int (nI n), .int (nI ((sk u n v_81.2.2) + 1)), .int 0, .int (-1)], ba 700 r2, ia 4 (upd (upd r3 0 v_81.1) 1 v_81.2.1), x4, x5, x6, ob 2 [.ref 8, .ref 9], ia 56 (va_cpy (upd (upd r3 0 v_81.1) 1 v_81.2.1) r8 0 (24 + c 2 * 2) 2), ia 4 (ovl (nIf (updN c 2 (c 2 + 1))) 4 r9), x10, x11, x12, x13, x14, x15, x16, x17, x18, x19, x20, x21, x22, x23, x24, x25, x26, x27, x28, x29, x30, x31, x32], wm)) dX6_reads_156 fl_X6_26 rfl (Nat.le_of_ble_eq_true rfl) (fun _ => ⟨rfl, rfl⟩) rfl ?_
            refine ab_iinc (v := (nI (k + 1))) (la' := [(3, .int (nI (k + 1))), (4, .int 2), (1, .int (nI n)), (2, .ref 7), (0, .ref 1)]) dX6_reads_159 rfl (nI_1 _) (by decide) rfl ?_
            refine ab_goto 42 dX6_reads_162 (by decide) ?_
            refine ab_pick [0, 2, 3, 4] rfl ?_
            exact ih (k + 1) ((sk u n v_81.2.2) + 1) (updN c 2 (c 2 + 1)) (put2 m (24 + c 2 * 2) v_81.1 v_81.2.1) (upd (upd r3 0 v_81.1) 1 v_81.2.1) (va_cpy (upd (upd r3 0 v_81.1) 1 v_81.2.1) r8 0 (24 + c 2 * 2) 2) (by omega) (by omega) hB2 hA2 (fun e ga gr g8 gc z => hF e ga gr g8 gc ((show pAll u n (f + 1) (p, c, m) = pAll u n f ((sk u n v_81.2.2) + 1, updN c 2 (c 2 + 1), put2 m (24 + c 2 * 2) v_81.1 v_81.2.1) by simp only [pAll, sb_r hLn]; rw [if_neg (by omega), if_pos ((sgn_c (c := 59) (h_u _ (by omega)).1 (by decide) rfl).mp h_88)]).trans z)) (fun s ga gr g8 z => hS s ga gr g8 ((show pAll u n (f + 1) (p, c, m) = pAll u n f ((sk u n v_81.2.2) + 1, updN c 2 (c 2 + 1), put2 m (24 + c 2 * 2) v_81.1 v_81.2.1) by simp only [pAll, sb_r hLn]; rw [if_neg (by omega), if_pos ((sgn_c (c := 59) (h_u _ (by omega)).1 (by decide) rfl).mp h_88)]).trans z))
          · refine ab_aload_n dX6_reads_139 rfl ?_
            refine ab_iconst (v := 1) dX6_reads_140 (by decide) ?_
            refine ab_aload_n dX6_reads_141 rfl ?_
            refine ab_getf dX6_reads_142 fl_X6_26 rfl rfl ?_
            refine ab_callV (As := [.int 1, .int (nI (sk u n v_81.2.2))]) (rest := []) dX6_reads_145 mv_X6_fails ml_X6_68 ⟨by decide, by decide, rfl, rfl, rfl⟩ (by decide) rfl rfl (Nat.le_of_ble_eq_true rfl) rfl c_X6_fails ?_
            rintro r w' ⟨rfl, rfl⟩
            exact ab_zret dX6_reads_148 rfl rfl (by decide) (hF (1, (sk u n v_81.2.2)) (nI (sk u n v_81.2.2)) (upd (upd r3 0 v_81.1) 1 v_81.2.1) (va_cpy (upd (upd r3 0 v_81.1) 1 v_81.2.1) r8 0 (24 + c 2 * 2) 2) (updN c 2 (c 2 + 1)) (by simp only [pAll, sb_r hLn]; rw [if_neg (by omega), if_neg (fun z => h_88 ((sgn_c (c := 59) (h_u _ (by omega)).1 (by decide) rfl).mpr z))]))
        · have h_87n : ¬ _ := fun z => h_87 ((nI_ltI (a := (sk u n v_81.2.2)) (b := n) (by omega) (by omega)).mpr z)
          refine ab_aload_n dX6_reads_99 rfl ?_
          refine ab_iconst (v := 0) dX6_reads_100 (by decide) ?_
          refine ab_callV (As := [.int 0]) (rest := []) dX6_reads_101 mv_X2_count ml_X6_64 ⟨by decide, by decide, rfl, rfl, rfl⟩ (by decide) rfl rfl (Nat.le_of_ble_eq_true rfl) rfl c_X2_count_7_0 ?_
          rintro r w' ⟨rfl, rfl⟩
          refine ab_topi (v := (nI ((updN c 2 (c 2 + 1)) 0))) (ovl_lt (by decide)) ?_
          refine ab_ifgt 119 dX6_reads_104 (by decide) (fun h_89 => ?_) (fun h_89 => ?_)
          · have h_89n := (nI_ltI (a := 0) (b := ((updN c 2 (c 2 + 1)) 0)) (by omega) (by omega)).mp h_89
            refine ab_iconst (v := 1) dX6_reads_119 (by decide) ?_
            refine ab_goto 124 dX6_reads_120 (by decide) ?_
            exact ab_zret dX6_reads_124 rfl rfl (by decide) (hS (v_81.2.2, updN c 2 (c 2 + 1), put2 m (24 + c 2 * 2) v_81.1 v_81.2.1) (nI (sk u n v_81.2.2)) (upd (upd r3 0 v_81.1) 1 v_81.2.1) (va_cpy (upd (upd r3 0 v_81.1) 1 v_81.2.1) r8 0 (24 + c 2 * 2) 2) (by simp only [pAll, sb_r hLn]; rw [if_pos (by omega), if_pos (by omega)]) hA2 hB2)
          · have h_89n : ¬ _ := fun z => h_89 ((nI_ltI (a := 0) (b := ((updN c 2 (c 2 + 1)) 0)) (by omega) (by omega)).mpr z)
            refine ab_aload_n dX6_reads_107 rfl ?_
            refine ab_iconst (v := 4) dX6_reads_108 (by decide) ?_
            refine ab_aload_n dX6_reads_109 rfl ?_
            refine ab_getf dX6_reads_110 fl_X6_26 rfl rfl ?_
            refine ab_callV (As := [.int 4, .int (nI (sk u n v_81.2.2))]) (rest := []) dX6_reads_113 mv_X6_fails ml_X6_68 ⟨by decide, by decide, rfl, rfl, rfl⟩ (by decide) rfl rfl (Nat.le_of_ble_eq_true rfl) rfl c_X6_fails ?_
            rintro r w' ⟨rfl, rfl⟩
            refine ab_ifeq 123 dX6_reads_116 (by decide) (fun h_90 => ?_) (fun h_90 => absurd (by decide) h_90)
            refine ab_iconst (v := 0) dX6_reads_123 (by decide) ?_
            exact ab_zret dX6_reads_124 rfl rfl (by decide) (hF (4, (sk u n v_81.2.2)) (nI (sk u n v_81.2.2)) (upd (upd r3 0 v_81.1) 1 v_81.2.1) (va_cpy (upd (upd r3 0 v_81.1) 1 v_81.2.1) r8 0 (24 + c 2 * 2) 2) (updN c 2 (c 2 + 1)) (by simp only [pAll, sb_r hLn]; rw [if_pos (by omega), if_neg (by omega)]))
    · refine ab_istore (la' := [(4, .int (-1)), (3, .int (nI k)), (1, .int (nI n)), (2, .ref 7), (0, .ref 1)]) dX6_reads_55 (by decide) rfl ?_
      refine ab_iload dX6_reads_57 rfl ?_
      refine ab_iconst (v := -1) dX6_reads_59 (by decide) ?_
      refine ab_icmpeq 72 dX6_reads_60 (by decide) (fun h_91 => ?_) (fun h_91 => absurd (by decide) h_91)
      refine ab_iconst (v := 0) dX6_reads_72 (by decide) ?_
      exact ab_zret dX6_reads_73 rfl rfl (by decide) (hF (3, sk u n p) (nI ((sk u n p) + 4)) r3 r8 c (by simp only [pAll, sb_l (show pLn u n (p, c, m) = .inl (3, sk u n p) by simp only [pLn, if_neg (show ¬ wd_0 u n (sk u n p) from c_27), if_neg (show ¬ wd_1 u n (sk u n p) from c_28), if_neg (show ¬ wd_2 u n (sk u n p) from c_29), if_pos (show wd_3 u n (sk u n p) from c_30), if_pos (show 4 ≤ c 3 from c_31)])]))
    · refine ab_istore (la' := [(4, .int 3), (3, .int (nI k)), (1, .int (nI n)), (2, .ref 7), (0, .ref 1)]) dX6_reads_55 (by decide) rfl ?_
      refine ab_iload dX6_reads_57 rfl ?_
      refine ab_iconst (v := -1) dX6_reads_59 (by decide) ?_
      refine ab_icmpeq 72 dX6_reads_60 (by decide) (fun h_92 => absurd h_92 (by decide)) (fun h_92 => ?_)
      refine ab_aload_n dX6_reads_63 rfl ?_
      refine ab_iload dX6_reads_64 rfl ?_
      refine ab_callV (As := [.int 3]) (rest := []) dX6_reads_66 mv_X6_readsRow ml_X6_53 ⟨by decide, by decide, rfl, rfl, rfl⟩ (by decide) rfl rfl (Nat.le_of_ble_eq_true rfl) rfl (c_X6_readsRow_3 (n := n) (p := ((sk u n p) + 4)) h_n h_u (by omega)) ?_
      rintro r w' (⟨e_93, ga_94, gr_95, c_96, rfl, rfl⟩ | ⟨v_97, c_98, c_99, rfl, rfl⟩)
      · refine ab_ifne 74 dX6_reads_69 (by decide) (fun h_100 => absurd (by decide) h_100) (fun h_100 => ?_)
        refine ab_iconst (v := 0) dX6_reads_72 (by decide) ?_
        exact ab_zret dX6_reads_73 rfl rfl (by decide) (hF e_93 ga_94 gr_95 r8 c (by simp only [pAll, sb_l (show pLn u n (p, c, m) = .inl e_93 by simp only [pLn, if_neg (show ¬ wd_0 u n (sk u n p) from c_33), if_neg (show ¬ wd_1 u n (sk u n p) from c_34), if_neg (show ¬ wd_2 u n (sk u n p) from c_35), if_pos (show wd_3 u n (sk u n p) from c_36), if_neg (show ¬ 4 ≤ c 3 from c_37), sb_l c_96])]))
      · refine ab_ifne 74 dX6_reads_69 (by decide) (fun h_101 => ?_) (fun h_101 => absurd h_101 (by decide))
        refine ab_aload_n dX6_reads_74 rfl ?_
        refine ab_iload dX6_reads_75 rfl ?_
        refine ab_aload_n dX6_reads_77 rfl ?_
        refine ab_getf dX6_reads_78 fl_X6_15 rfl rfl ?_
        refine ab_callV (As := [.int 3, .ref 3]) (rest := []) dX6_reads_81 mv_X2_add ml_X6_57 ⟨by decide, by decide, rfl, rfl, rfl⟩ (by decide) rfl rfl (Nat.le_of_ble_eq_true rfl) rfl (c_X2_add_3 (c := c) (r9 := r9) hB c_37) ?_
        rintro r w' ⟨rfl, rfl⟩
        have hLn : pLn u n (p, c, m) = .inr (v_97.2.2.2.2, updN c 3 (c 3 + 1), put4 m (40 + c 3 * 4) v_97.1 v_97.2.1 v_97.2.2.1 v_97.2.2.2.1) := by simp only [pLn, if_neg (show ¬ wd_0 u n (sk u n p) from c_33), if_neg (show ¬ wd_1 u n (sk u n p) from c_34), if_neg (show ¬ wd_2 u n (sk u n p) from c_35), if_pos (show wd_3 u n (sk u n p) from c_36), if_neg (show ¬ 4 ≤ c 3 from c_37), sb_r c_98]
        have hB2 := Bc_3 hB c_37
        have hB3 := hB2
        unfold Bcn at hB3
        have hA2 := Ag_put4_3 (a := v_97.1) (b := v_97.2.1) (c := v_97.2.2.1) (d := v_97.2.2.2.1) hA
        rw [← cpy_put4 (r := r3) (g := r8)] at hA2
        refine ab_aload_n dX6_reads_84 rfl ?_
        refine ab_callV (As := []) (rest := []) dX6_reads_85 mv_X6_skipBlanks ml_X6_61 ⟨by decide, by decide, rfl, rfl, rfl⟩ (by decide) rfl rfl (Nat.le_of_ble_eq_true rfl) rfl (c_X6_skipBlanks (n := n) (p := v_97.2.2.2.2) h_n h_u (by omega)) ?_
        rintro r w' ⟨c_102, rfl, rfl⟩
        refine ab_aload_n dX6_reads_88 rfl ?_
        refine ab_getf dX6_reads_89 fl_X6_26 rfl rfl ?_
        refine ab_aload_n dX6_reads_92 rfl ?_
        refine ab_getf dX6_reads_93 fl_X6_23 rfl rfl ?_
        refine ab_icmplt 125 dX6_reads_96 (by decide) (fun h_103 => ?_) (fun h_103 => ?_)
        · have h_103n := (nI_ltI (a := (sk u n v_97.2.2.2.2)) (b := n) (by omega) (by omega)).mp h_103
          refine ab_aload_n dX6_reads_125 rfl ?_
          refine ab_getf dX6_reads_126 fl_X6_11 rfl rfl ?_
          refine ab_aload_n dX6_reads_129 rfl ?_
          refine ab_getf dX6_reads_130 fl_X6_26 rfl rfl ?_
          refine ab_bald (j := (sk u n v_97.2.2.2.2)) dX6_reads_133 rfl (ix_nI (by omega) (by decide)) ?_
          refine ab_topi (v := (sgn (u (sk u n v_97.2.2.2.2)))) (h_u (sk u n v_97.2.2.2.2) (by omega)).2 ?_
          refine ab_bipush (v := 59) dX6_reads_134 (by decide) ?_
          refine ab_icmpeq 149 dX6_reads_136 (by decide) (fun h_104 => ?_) (fun h_104 => ?_)
          · refine ab_aload_n dX6_reads_149 rfl ?_
            refine ab_dup rfl dX6_reads_150 ?_
            refine ab_getf dX6_reads_151 fl_X6_26 rfl rfl ?_
            refine ab_iconst (v := 1) dX6_reads_154 (by decide) ?_
            refine ab_iadd dX6_reads_155 ?_
            refine ab_topi (v := (nI ((sk u n v_97.2.2.2.2) + 1))) (nI_1 _) ?_
            refine ab_putf (w1 := ([x0, ob 6 [.ref 2, .ref 3, .int f1_2, .int (nI n), .int (nI ((sk u n v_97.2.2.2.2) + 1)), .int 0, .int (-1)], ba 700 r2, ia 4 (upd (upd (upd (upd r3 0 v_97.1) 1 v_97.2.1) 2 v_97.2.2.1) 3 v_97.2.2.2.1), x4, x5, x6, ob 2 [.ref 8, .ref 9], ia 56 (va_cpy (upd (upd (upd (upd r3 0 v_97.1) 1 v_97.2.1) 2 v_97.2.2.1) 3 v_97.2.2.2.1) r8 0 (40 + c 3 * 4) 4), ia 4 (ovl (nIf (updN c 3 (c 3 + 1))) 4 r9), x10, x11, x12, x13, x14, x15, x16, x17, x18, x19, x20, x21, x22, x23, x24, x25, x26, x27, x28, x29, x30, x31, x32], wm)) dX6_reads_156 fl_X6_26 rfl (Nat.le_of_ble_eq_true rfl) (fun _ => ⟨rfl, rfl⟩) rfl ?_
            refine ab_iinc (v := (nI (k + 1))) (la' := [(3, .int (nI (k + 1))), (4, .int 3), (1, .int (nI n)), (2, .ref 7), (0, .ref 1)]) dX6_reads_159 rfl (nI_1 _) (by decide) rfl ?_
            refine ab_goto 42 dX6_reads_162 (by decide) ?_
            refine ab_pick [0, 2, 3, 4] rfl ?_
            exact ih (k + 1) ((sk u n v_97.2.2.2.2) + 1) (updN c 3 (c 3 + 1)) (put4 m (40 + c 3 * 4) v_97.1 v_97.2.1 v_97.2.2.1 v_97.2.2.2.1) (upd (upd (upd (upd r3 0 v_97.1) 1 v_97.2.1) 2 v_97.2.2.1) 3 v_97.2.2.2.1) (va_cpy (upd (upd (upd (upd r3 0 v_97.1) 1 v_97.2.1) 2 v_97.2.2.1) 3 v_97.2.2.2.1) r8 0 (40 + c 3 * 4) 4) (by omega) (by omega) hB2 hA2 (fun e ga gr g8 gc z => hF e ga gr g8 gc ((show pAll u n (f + 1) (p, c, m) = pAll u n f ((sk u n v_97.2.2.2.2) + 1, updN c 3 (c 3 + 1), put4 m (40 + c 3 * 4) v_97.1 v_97.2.1 v_97.2.2.1 v_97.2.2.2.1) by simp only [pAll, sb_r hLn]; rw [if_neg (by omega), if_pos ((sgn_c (c := 59) (h_u _ (by omega)).1 (by decide) rfl).mp h_104)]).trans z)) (fun s ga gr g8 z => hS s ga gr g8 ((show pAll u n (f + 1) (p, c, m) = pAll u n f ((sk u n v_97.2.2.2.2) + 1, updN c 3 (c 3 + 1), put4 m (40 + c 3 * 4) v_97.1 v_97.2.1 v_97.2.2.1 v_97.2.2.2.1) by simp only [pAll, sb_r hLn]; rw [if_neg (by omega), if_pos ((sgn_c (c := 59) (h_u _ (by omega)).1 (by decide) rfl).mp h_104)]).trans z))
          · refine ab_aload_n dX6_reads_139 rfl ?_
            refine ab_iconst (v := 1) dX6_reads_140 (by decide) ?_
            refine ab_aload_n dX6_reads_141 rfl ?_
            refine ab_getf dX6_reads_142 fl_X6_26 rfl rfl ?_
            refine ab_callV (As := [.int 1, .int (nI (sk u n v_97.2.2.2.2))]) (rest := []) dX6_reads_145 mv_X6_fails ml_X6_68 ⟨by decide, by decide, rfl, rfl, rfl⟩ (by decide) rfl rfl (Nat.le_of_ble_eq_true rfl) rfl c_X6_fails ?_
            rintro r w' ⟨rfl, rfl⟩
            exact ab_zret dX6_reads_148 rfl rfl (by decide) (hF (1, (sk u n v_97.2.2.2.2)) (nI (sk u n v_97.2.2.2.2)) (upd (upd (upd (upd r3 0 v_97.1) 1 v_97.2.1) 2 v_97.2.2.1) 3 v_97.2.2.2.1) (va_cpy (upd (upd (upd (upd r3 0 v_97.1) 1 v_97.2.1) 2 v_97.2.2.1) 3 v_97.2.2.2.1) r8 0 (40 + c 3 * 4) 4) (updN c 3 (c 3 + 1)) (by simp only [pAll, sb_r hLn]; rw [if_neg (by omega), if_neg (fun z => h_104 ((sgn_c (c := 59) (h_u _ (by omega)).1 (by decide) rfl).mpr z))]))
        · have h_103n : ¬ _ := fun z => h_103 ((nI_ltI (a := (sk u n v_97.2.2.2.2)) (b := n) (by omega) (by omega)).mpr z)
          refine ab_aload_n dX6_reads_99 rfl ?_
          refine ab_iconst (v := 0) dX6_reads_100 (by decide) ?_
          refine ab_callV (As := [.int 0]) (rest := []) dX6_reads_101 mv_X2_count ml_X6_64 ⟨by decide, by decide, rfl, rfl, rfl⟩ (by decide) rfl rfl (Nat.le_of_ble_eq_true rfl) rfl c_X2_count_7_0 ?_
          rintro r w' ⟨rfl, rfl⟩
          refine ab_topi (v := (nI ((updN c 3 (c 3 + 1)) 0))) (ovl_lt (by decide)) ?_
          refine ab_ifgt 119 dX6_reads_104 (by decide) (fun h_105 => ?_) (fun h_105 => ?_)
          · have h_105n := (nI_ltI (a := 0) (b := ((updN c 3 (c 3 + 1)) 0)) (by omega) (by omega)).mp h_105
            refine ab_iconst (v := 1) dX6_reads_119 (by decide) ?_
            refine ab_goto 124 dX6_reads_120 (by decide) ?_
            exact ab_zret dX6_reads_124 rfl rfl (by decide) (hS (v_97.2.2.2.2, updN c 3 (c 3 + 1), put4 m (40 + c 3 * 4) v_97.1 v_97.2.1 v_97.2.2.1 v_97.2.2.2.1) (nI (sk u n v_97.2.2.2.2)) (upd (upd (upd (upd r3 0 v_97.1) 1 v_97.2.1) 2 v_97.2.2.1) 3 v_97.2.2.2.1) (va_cpy (upd (upd (upd (upd r3 0 v_97.1) 1 v_97.2.1) 2 v_97.2.2.1) 3 v_97.2.2.2.1) r8 0 (40 + c 3 * 4) 4) (by simp only [pAll, sb_r hLn]; rw [if_pos (by omega), if_pos (by omega)]) hA2 hB2)
          · have h_105n : ¬ _ := fun z => h_105 ((nI_ltI (a := 0) (b := ((updN c 3 (c 3 + 1)) 0)) (by omega) (by omega)).mpr z)
            refine ab_aload_n dX6_reads_107 rfl ?_
            refine ab_iconst (v := 4) dX6_reads_108 (by decide) ?_
            refine ab_aload_n dX6_reads_109 rfl ?_
            refine ab_getf dX6_reads_110 fl_X6_26 rfl rfl ?_
            refine ab_callV (As := [.int 4, .int (nI (sk u n v_97.2.2.2.2))]) (rest := []) dX6_reads_113 mv_X6_fails ml_X6_68 ⟨by decide, by decide, rfl, rfl, rfl⟩ (by decide) rfl rfl (Nat.le_of_ble_eq_true rfl) rfl c_X6_fails ?_
            rintro r w' ⟨rfl, rfl⟩
            refine ab_ifeq 123 dX6_reads_116 (by decide) (fun h_106 => ?_) (fun h_106 => absurd (by decide) h_106)
            refine ab_iconst (v := 0) dX6_reads_123 (by decide) ?_
            exact ab_zret dX6_reads_124 rfl rfl (by decide) (hF (4, (sk u n v_97.2.2.2.2)) (nI (sk u n v_97.2.2.2.2)) (upd (upd (upd (upd r3 0 v_97.1) 1 v_97.2.1) 2 v_97.2.2.1) 3 v_97.2.2.2.1) (va_cpy (upd (upd (upd (upd r3 0 v_97.1) 1 v_97.2.1) 2 v_97.2.2.1) 3 v_97.2.2.2.1) r8 0 (40 + c 3 * 4) 4) (updN c 3 (c 3 + 1)) (by simp only [pAll, sb_r hLn]; rw [if_pos (by omega), if_neg (by omega)]))
    · refine ab_istore (la' := [(4, .int (-1)), (3, .int (nI k)), (1, .int (nI n)), (2, .ref 7), (0, .ref 1)]) dX6_reads_55 (by decide) rfl ?_
      refine ab_iload dX6_reads_57 rfl ?_
      refine ab_iconst (v := -1) dX6_reads_59 (by decide) ?_
      refine ab_icmpeq 72 dX6_reads_60 (by decide) (fun h_107 => ?_) (fun h_107 => absurd (by decide) h_107)
      refine ab_iconst (v := 0) dX6_reads_72 (by decide) ?_
      exact ab_zret dX6_reads_73 rfl rfl (by decide) (hF (1, sk u n p) (nI (sk u n p)) r3 r8 c (by simp only [pAll, sb_l (show pLn u n (p, c, m) = .inl (1, sk u n p) by simp only [pLn, if_neg (show ¬ wd_0 u n (sk u n p) from c_39), if_neg (show ¬ wd_1 u n (sk u n p) from c_40), if_neg (show ¬ wd_2 u n (sk u n p) from c_41), if_neg (show ¬ wd_3 u n (sk u n p) from c_42)])]))
