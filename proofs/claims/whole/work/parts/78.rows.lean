theorem c_X6_readsTwo {x0 x4 x5 x6 x7 x8 x9 x10 x11 x12 x13 x14 x15 x16 x17 x18 x19 x20 x21 x22 x23 x24 x25 x26 x27 x28 x29 x30 x31 x32 : ax_E} {f1_2 f1_5 f1_6 : Int32} {r2 r3 : Nat → Int32} {wm : List ax_E} {u : Nat → Nat} {n p hi : Nat} (h_n : n ≤ 700) (h_u : ∀ k, k < 700 → u k < 256 ∧ r2 k = sgn (u k)) (h_p : p ≤ n) (h_hi : hi ≤ 999) : Ct M_X6_readsTwo [.ref 1, .int (nI hi)] ([x0, ob 6 [.ref 2, .ref 3, .int f1_2, .int (nI n), .int (nI p), .int f1_5, .int f1_6], ba 700 r2, ia 4 r3, x4, x5, x6, x7, x8, x9, x10, x11, x12, x13, x14, x15, x16, x17, x18, x19, x20, x21, x22, x23, x24, x25, x26, x27, x28, x29, x30, x31, x32], wm) (fun r w' => (∃ e : Nat × Nat, ∃ ga : Int32, ∃ gr : Nat → Int32, (pTwo u n p hi = .inl e) ∧ r = some (.int 0) ∧ w' = ([x0, ob 6 [.ref 2, .ref 3, .int f1_2, .int (nI n), .int ga, .int (nI e.1), .int (nI e.2)], ba 700 r2, ia 4 gr, x4, x5, x6, x7, x8, x9, x10, x11, x12, x13, x14, x15, x16, x17, x18, x19, x20, x21, x22, x23, x24, x25, x26, x27, x28, x29, x30, x31, x32], wm)) ∨ (∃ v : Int32 × Int32 × Nat, (pTwo u n p hi = .inr v) ∧ (p ≤ v.2.2 ∧ v.2.2 ≤ n) ∧ r = some (.int 1) ∧ w' = ([x0, ob 6 [.ref 2, .ref 3, .int f1_2, .int (nI n), .int (nI v.2.2), .int f1_5, .int f1_6], ba 700 r2, ia 4 (upd (upd r3 0 v.1) 1 v.2.1), x4, x5, x6, x7, x8, x9, x10, x11, x12, x13, x14, x15, x16, x17, x18, x19, x20, x21, x22, x23, x24, x25, x26, x27, x28, x29, x30, x31, x32], wm))) := by
  refine ct_of ⟨by decide, rfl⟩ (Nat.le_of_ble_eq_true rfl) ?_
  refine ab_aload_n dX6_readsTwo_0 rfl ?_
  refine ab_iconst (v := 0) dX6_readsTwo_1 (by decide) ?_
  refine ab_iload_n dX6_readsTwo_2 rfl ?_
  refine ab_callV (As := [.int 0, .int (nI hi)]) (rest := []) dX6_readsTwo_3 mv_X6_readsSigned ml_X6_116 ⟨by decide, by decide, rfl, rfl, rfl⟩ (by decide) rfl rfl (Nat.le_of_ble_eq_true rfl) rfl (c_X6_readsSigned (n := n) (p := p) (i := 0) (hi := hi) h_n h_u (by omega) (by decide) h_hi) ?_
  rintro r w' (⟨e_1, ga_2, gr_3, c_4, rfl, rfl⟩ | ⟨v_5, c_6, c_7, rfl, rfl⟩)
  · refine ab_ifeq 22 dX6_readsTwo_6 (by decide) (fun h_8 => ?_) (fun h_8 => absurd (by decide) h_8)
    refine ab_iconst (v := 0) dX6_readsTwo_22 (by decide) ?_
    exact ab_zret dX6_readsTwo_23 rfl rfl (by decide) (Or.inl (⟨e_1, ga_2, gr_3, by simp only [pTwo, sb_l c_4], rfl, rfl⟩))
  · refine ab_ifeq 22 dX6_readsTwo_6 (by decide) (fun h_9 => absurd h_9 (by decide)) (fun h_9 => ?_)
    refine ab_aload_n dX6_readsTwo_9 rfl ?_
    refine ab_iconst (v := 1) dX6_readsTwo_10 (by decide) ?_
    refine ab_iload_n dX6_readsTwo_11 rfl ?_
    refine ab_callV (As := [.int 1, .int (nI hi)]) (rest := []) dX6_readsTwo_12 mv_X6_readsSigned ml_X6_116 ⟨by decide, by decide, rfl, rfl, rfl⟩ (by decide) rfl rfl (Nat.le_of_ble_eq_true rfl) rfl (c_X6_readsSigned (n := n) (p := v_5.2) (i := 1) (hi := hi) h_n h_u (by omega) (by decide) h_hi) ?_
    rintro r w' (⟨e_10, ga_11, gr_12, c_13, rfl, rfl⟩ | ⟨v_14, c_15, c_16, rfl, rfl⟩)
    · refine ab_ifeq 22 dX6_readsTwo_15 (by decide) (fun h_17 => ?_) (fun h_17 => absurd (by decide) h_17)
      refine ab_iconst (v := 0) dX6_readsTwo_22 (by decide) ?_
      exact ab_zret dX6_readsTwo_23 rfl rfl (by decide) (Or.inl (⟨e_10, ga_11, gr_12, by simp only [pTwo, sb_r c_6, sb_l c_13], rfl, rfl⟩))
    · refine ab_ifeq 22 dX6_readsTwo_15 (by decide) (fun h_18 => absurd h_18 (by decide)) (fun h_18 => ?_)
      refine ab_iconst (v := 1) dX6_readsTwo_18 (by decide) ?_
      refine ab_goto 23 dX6_readsTwo_19 (by decide) ?_
      exact ab_zret dX6_readsTwo_23 rfl rfl (by decide) (Or.inr (⟨(v_5.1, v_14.1, v_14.2), by simp only [pTwo, sb_r c_6, sb_r c_15], ⟨by show p ≤ v_14.2; omega, by show v_14.2 ≤ n; omega⟩, rfl, rfl⟩))
theorem c_X6_readsAngle_0 {x0 x4 x5 x6 x7 x8 x9 x10 x11 x12 x13 x14 x15 x16 x17 x18 x19 x20 x21 x22 x23 x24 x25 x26 x27 x28 x29 x30 x31 x32 : ax_E} {f1_2 f1_5 f1_6 : Int32} {r2 r3 : Nat → Int32} {wm : List ax_E} {u : Nat → Nat} {n p : Nat} (h_n : n ≤ 700) (h_u : ∀ k, k < 700 → u k < 256 ∧ r2 k = sgn (u k)) (h_p : p ≤ n) : Ct M_X6_readsAngle [.ref 1, .int 0] ([x0, ob 6 [.ref 2, .ref 3, .int f1_2, .int (nI n), .int (nI p), .int f1_5, .int f1_6], ba 700 r2, ia 4 r3, x4, x5, x6, x7, x8, x9, x10, x11, x12, x13, x14, x15, x16, x17, x18, x19, x20, x21, x22, x23, x24, x25, x26, x27, x28, x29, x30, x31, x32], wm) (fun r w' => (∃ e : Nat × Nat, ∃ ga : Int32, ∃ gr : Nat → Int32, (pAng u n p = .inl e) ∧ r = some (.int 0) ∧ w' = ([x0, ob 6 [.ref 2, .ref 3, .int f1_2, .int (nI n), .int ga, .int (nI e.1), .int (nI e.2)], ba 700 r2, ia 4 gr, x4, x5, x6, x7, x8, x9, x10, x11, x12, x13, x14, x15, x16, x17, x18, x19, x20, x21, x22, x23, x24, x25, x26, x27, x28, x29, x30, x31, x32], wm)) ∨ (∃ v : Int32 × Int32 × Nat, (pAng u n p = .inr v) ∧ (p ≤ v.2.2 ∧ v.2.2 ≤ n) ∧ r = some (.int 1) ∧ w' = ([x0, ob 6 [.ref 2, .ref 3, .int f1_2, .int (nI n), .int (nI v.2.2), .int f1_5, .int f1_6], ba 700 r2, ia 4 (upd (upd r3 0 v.1) 1 v.2.1), x4, x5, x6, x7, x8, x9, x10, x11, x12, x13, x14, x15, x16, x17, x18, x19, x20, x21, x22, x23, x24, x25, x26, x27, x28, x29, x30, x31, x32], wm))) := by
  refine ct_of ⟨by decide, rfl⟩ (Nat.le_of_ble_eq_true rfl) ?_
  refine ab_aload_n dX6_readsAngle_0 rfl ?_
  refine ab_iload_n dX6_readsAngle_1 rfl ?_
  refine ab_iconst (v := 5) dX6_readsAngle_2 (by decide) ?_
  refine ab_callV (As := [.int 0, .int 5]) (rest := []) dX6_readsAngle_3 mv_X6_readsSigned ml_X6_116 ⟨by decide, by decide, rfl, rfl, rfl⟩ (by decide) rfl rfl (Nat.le_of_ble_eq_true rfl) rfl (c_X6_readsSigned (n := n) (p := p) (i := 0) (hi := 5) h_n h_u (by omega) (by decide) (by decide)) ?_
  rintro r w' (⟨e_1, ga_2, gr_3, c_4, rfl, rfl⟩ | ⟨v_5, c_6, c_7, rfl, rfl⟩)
  · refine ab_ifeq 38 dX6_readsAngle_6 (by decide) (fun h_8 => ?_) (fun h_8 => absurd (by decide) h_8)
    refine ab_iconst (v := 0) dX6_readsAngle_38 (by decide) ?_
    exact ab_zret dX6_readsAngle_39 rfl rfl (by decide) (Or.inl (⟨e_1, ga_2, gr_3, by simp only [pAng, sb_l c_4], rfl, rfl⟩))
  · refine ab_ifeq 38 dX6_readsAngle_6 (by decide) (fun h_9 => absurd h_9 (by decide)) (fun h_9 => ?_)
    refine ab_aload_n dX6_readsAngle_9 rfl ?_
    refine ab_iload_n dX6_readsAngle_10 rfl ?_
    refine ab_iconst (v := 1) dX6_readsAngle_11 (by decide) ?_
    refine ab_iadd dX6_readsAngle_12 ?_
    refine ab_topi (v := 1) (by decide) ?_
    refine ab_aload_n dX6_readsAngle_13 rfl ?_
    refine ab_getf dX6_readsAngle_14 fl_X6_15 rfl rfl ?_
    refine ab_iload_n dX6_readsAngle_17 rfl ?_
    refine ab_iald (j := 0) dX6_readsAngle_18 rfl (ix_c (by decide)) ?_
    refine ab_topi (v := v_5.1) upd_at ?_
    refine ab_ifne 26 dX6_readsAngle_19 (by decide) (fun h_10 => ?_) (fun h_10 => ?_)
    · refine ab_iconst (v := 0) dX6_readsAngle_26 (by decide) ?_
      refine ab_iconst (v := 5) dX6_readsAngle_27 (by decide) ?_
      refine ab_callV (As := [.int 1, .int 0, .int 5]) (rest := []) dX6_readsAngle_28 mv_X6_readsWhole ml_X6_112 ⟨by decide, by decide, rfl, rfl, rfl⟩ (by decide) rfl rfl (Nat.le_of_ble_eq_true rfl) rfl (c_X6_readsWhole (n := n) (p := v_5.2) (i := 1) (lo := 0) (hi := 5) h_n h_u (by omega) (by decide) (by decide) (by decide)) ?_
      rintro r w' (⟨e_11, ga_12, c_13, rfl, rfl⟩ | ⟨v_14, c_15, c_16, rfl, rfl⟩)
      · refine ab_ifeq 38 dX6_readsAngle_31 (by decide) (fun h_17 => ?_) (fun h_17 => absurd (by decide) h_17)
        refine ab_iconst (v := 0) dX6_readsAngle_38 (by decide) ?_
        exact ab_zret dX6_readsAngle_39 rfl rfl (by decide) (Or.inl (⟨e_11, ga_12, (upd r3 0 v_5.1), by simp only [pAng, sb_r c_6, if_neg (show ¬ v_5.1 = 0 from h_10), sb_l c_13], rfl, rfl⟩))
      · refine ab_ifeq 38 dX6_readsAngle_31 (by decide) (fun h_18 => absurd h_18 (by decide)) (fun h_18 => ?_)
        refine ab_iconst (v := 1) dX6_readsAngle_34 (by decide) ?_
        refine ab_goto 39 dX6_readsAngle_35 (by decide) ?_
        exact ab_zret dX6_readsAngle_39 rfl rfl (by decide) (Or.inr (⟨(v_5.1, nI v_14.1, v_14.2), by simp only [pAng, sb_r c_6, if_neg (show ¬ v_5.1 = 0 from h_10), sb_r c_15], ⟨by show p ≤ v_14.2; omega, by show v_14.2 ≤ n; omega⟩, rfl, rfl⟩))
    · refine ab_iconst (v := 1) dX6_readsAngle_22 (by decide) ?_
      refine ab_goto 27 dX6_readsAngle_23 (by decide) ?_
      refine ab_iconst (v := 5) dX6_readsAngle_27 (by decide) ?_
      refine ab_callV (As := [.int 1, .int 1, .int 5]) (rest := []) dX6_readsAngle_28 mv_X6_readsWhole ml_X6_112 ⟨by decide, by decide, rfl, rfl, rfl⟩ (by decide) rfl rfl (Nat.le_of_ble_eq_true rfl) rfl (c_X6_readsWhole (n := n) (p := v_5.2) (i := 1) (lo := 1) (hi := 5) h_n h_u (by omega) (by decide) (by decide) (by decide)) ?_
      rintro r w' (⟨e_19, ga_20, c_21, rfl, rfl⟩ | ⟨v_22, c_23, c_24, rfl, rfl⟩)
      · refine ab_ifeq 38 dX6_readsAngle_31 (by decide) (fun h_25 => ?_) (fun h_25 => absurd (by decide) h_25)
        refine ab_iconst (v := 0) dX6_readsAngle_38 (by decide) ?_
        exact ab_zret dX6_readsAngle_39 rfl rfl (by decide) (Or.inl (⟨e_19, ga_20, (upd r3 0 v_5.1), by simp only [pAng, sb_r c_6, if_pos (show v_5.1 = 0 from h_10), sb_l c_21], rfl, rfl⟩))
      · refine ab_ifeq 38 dX6_readsAngle_31 (by decide) (fun h_26 => absurd h_26 (by decide)) (fun h_26 => ?_)
        refine ab_iconst (v := 1) dX6_readsAngle_34 (by decide) ?_
        refine ab_goto 39 dX6_readsAngle_35 (by decide) ?_
        exact ab_zret dX6_readsAngle_39 rfl rfl (by decide) (Or.inr (⟨(v_5.1, nI v_22.1, v_22.2), by simp only [pAng, sb_r c_6, if_pos (show v_5.1 = 0 from h_10), sb_r c_23], ⟨by show p ≤ v_22.2; omega, by show v_22.2 ≤ n; omega⟩, rfl, rfl⟩))
theorem c_X6_readsAngle_2 {x0 x4 x5 x6 x7 x8 x9 x10 x11 x12 x13 x14 x15 x16 x17 x18 x19 x20 x21 x22 x23 x24 x25 x26 x27 x28 x29 x30 x31 x32 : ax_E} {f1_2 f1_5 f1_6 : Int32} {r2 r3 : Nat → Int32} {wm : List ax_E} {u : Nat → Nat} {n p : Nat} (h_n : n ≤ 700) (h_u : ∀ k, k < 700 → u k < 256 ∧ r2 k = sgn (u k)) (h_p : p ≤ n) : Ct M_X6_readsAngle [.ref 1, .int 2] ([x0, ob 6 [.ref 2, .ref 3, .int f1_2, .int (nI n), .int (nI p), .int f1_5, .int f1_6], ba 700 r2, ia 4 r3, x4, x5, x6, x7, x8, x9, x10, x11, x12, x13, x14, x15, x16, x17, x18, x19, x20, x21, x22, x23, x24, x25, x26, x27, x28, x29, x30, x31, x32], wm) (fun r w' => (∃ e : Nat × Nat, ∃ ga : Int32, ∃ gr : Nat → Int32, (pAng u n p = .inl e) ∧ r = some (.int 0) ∧ w' = ([x0, ob 6 [.ref 2, .ref 3, .int f1_2, .int (nI n), .int ga, .int (nI e.1), .int (nI e.2)], ba 700 r2, ia 4 gr, x4, x5, x6, x7, x8, x9, x10, x11, x12, x13, x14, x15, x16, x17, x18, x19, x20, x21, x22, x23, x24, x25, x26, x27, x28, x29, x30, x31, x32], wm)) ∨ (∃ v : Int32 × Int32 × Nat, (pAng u n p = .inr v) ∧ (p ≤ v.2.2 ∧ v.2.2 ≤ n) ∧ r = some (.int 1) ∧ w' = ([x0, ob 6 [.ref 2, .ref 3, .int f1_2, .int (nI n), .int (nI v.2.2), .int f1_5, .int f1_6], ba 700 r2, ia 4 (upd (upd r3 2 v.1) 3 v.2.1), x4, x5, x6, x7, x8, x9, x10, x11, x12, x13, x14, x15, x16, x17, x18, x19, x20, x21, x22, x23, x24, x25, x26, x27, x28, x29, x30, x31, x32], wm))) := by
  refine ct_of ⟨by decide, rfl⟩ (Nat.le_of_ble_eq_true rfl) ?_
  refine ab_aload_n dX6_readsAngle_0 rfl ?_
  refine ab_iload_n dX6_readsAngle_1 rfl ?_
  refine ab_iconst (v := 5) dX6_readsAngle_2 (by decide) ?_
  refine ab_callV (As := [.int 2, .int 5]) (rest := []) dX6_readsAngle_3 mv_X6_readsSigned ml_X6_116 ⟨by decide, by decide, rfl, rfl, rfl⟩ (by decide) rfl rfl (Nat.le_of_ble_eq_true rfl) rfl (c_X6_readsSigned (n := n) (p := p) (i := 2) (hi := 5) h_n h_u (by omega) (by decide) (by decide)) ?_
  rintro r w' (⟨e_1, ga_2, gr_3, c_4, rfl, rfl⟩ | ⟨v_5, c_6, c_7, rfl, rfl⟩)
  · refine ab_ifeq 38 dX6_readsAngle_6 (by decide) (fun h_8 => ?_) (fun h_8 => absurd (by decide) h_8)
    refine ab_iconst (v := 0) dX6_readsAngle_38 (by decide) ?_
    exact ab_zret dX6_readsAngle_39 rfl rfl (by decide) (Or.inl (⟨e_1, ga_2, gr_3, by simp only [pAng, sb_l c_4], rfl, rfl⟩))
  · refine ab_ifeq 38 dX6_readsAngle_6 (by decide) (fun h_9 => absurd h_9 (by decide)) (fun h_9 => ?_)
    refine ab_aload_n dX6_readsAngle_9 rfl ?_
    refine ab_iload_n dX6_readsAngle_10 rfl ?_
    refine ab_iconst (v := 1) dX6_readsAngle_11 (by decide) ?_
    refine ab_iadd dX6_readsAngle_12 ?_
    refine ab_topi (v := 3) (by decide) ?_
    refine ab_aload_n dX6_readsAngle_13 rfl ?_
    refine ab_getf dX6_readsAngle_14 fl_X6_15 rfl rfl ?_
    refine ab_iload_n dX6_readsAngle_17 rfl ?_
    refine ab_iald (j := 2) dX6_readsAngle_18 rfl (ix_c (by decide)) ?_
    refine ab_topi (v := v_5.1) upd_at ?_
    refine ab_ifne 26 dX6_readsAngle_19 (by decide) (fun h_10 => ?_) (fun h_10 => ?_)
    · refine ab_iconst (v := 0) dX6_readsAngle_26 (by decide) ?_
      refine ab_iconst (v := 5) dX6_readsAngle_27 (by decide) ?_
      refine ab_callV (As := [.int 3, .int 0, .int 5]) (rest := []) dX6_readsAngle_28 mv_X6_readsWhole ml_X6_112 ⟨by decide, by decide, rfl, rfl, rfl⟩ (by decide) rfl rfl (Nat.le_of_ble_eq_true rfl) rfl (c_X6_readsWhole (n := n) (p := v_5.2) (i := 3) (lo := 0) (hi := 5) h_n h_u (by omega) (by decide) (by decide) (by decide)) ?_
      rintro r w' (⟨e_11, ga_12, c_13, rfl, rfl⟩ | ⟨v_14, c_15, c_16, rfl, rfl⟩)
      · refine ab_ifeq 38 dX6_readsAngle_31 (by decide) (fun h_17 => ?_) (fun h_17 => absurd (by decide) h_17)
        refine ab_iconst (v := 0) dX6_readsAngle_38 (by decide) ?_
        exact ab_zret dX6_readsAngle_39 rfl rfl (by decide) (Or.inl (⟨e_11, ga_12, (upd r3 2 v_5.1), by simp only [pAng, sb_r c_6, if_neg (show ¬ v_5.1 = 0 from h_10), sb_l c_13], rfl, rfl⟩))
      · refine ab_ifeq 38 dX6_readsAngle_31 (by decide) (fun h_18 => absurd h_18 (by decide)) (fun h_18 => ?_)
        refine ab_iconst (v := 1) dX6_readsAngle_34 (by decide) ?_
        refine ab_goto 39 dX6_readsAngle_35 (by decide) ?_
        exact ab_zret dX6_readsAngle_39 rfl rfl (by decide) (Or.inr (⟨(v_5.1, nI v_14.1, v_14.2), by simp only [pAng, sb_r c_6, if_neg (show ¬ v_5.1 = 0 from h_10), sb_r c_15], ⟨by show p ≤ v_14.2; omega, by show v_14.2 ≤ n; omega⟩, rfl, rfl⟩))
    · refine ab_iconst (v := 1) dX6_readsAngle_22 (by decide) ?_
      refine ab_goto 27 dX6_readsAngle_23 (by decide) ?_
      refine ab_iconst (v := 5) dX6_readsAngle_27 (by decide) ?_
      refine ab_callV (As := [.int 3, .int 1, .int 5]) (rest := []) dX6_readsAngle_28 mv_X6_readsWhole ml_X6_112 ⟨by decide, by decide, rfl, rfl, rfl⟩ (by decide) rfl rfl (Nat.le_of_ble_eq_true rfl) rfl (c_X6_readsWhole (n := n) (p := v_5.2) (i := 3) (lo := 1) (hi := 5) h_n h_u (by omega) (by decide) (by decide) (by decide)) ?_
      rintro r w' (⟨e_19, ga_20, c_21, rfl, rfl⟩ | ⟨v_22, c_23, c_24, rfl, rfl⟩)
      · refine ab_ifeq 38 dX6_readsAngle_31 (by decide) (fun h_25 => ?_) (fun h_25 => absurd (by decide) h_25)
        refine ab_iconst (v := 0) dX6_readsAngle_38 (by decide) ?_
        exact ab_zret dX6_readsAngle_39 rfl rfl (by decide) (Or.inl (⟨e_19, ga_20, (upd r3 2 v_5.1), by simp only [pAng, sb_r c_6, if_pos (show v_5.1 = 0 from h_10), sb_l c_21], rfl, rfl⟩))
      · refine ab_ifeq 38 dX6_readsAngle_31 (by decide) (fun h_26 => absurd h_26 (by decide)) (fun h_26 => ?_)
        refine ab_iconst (v := 1) dX6_readsAngle_34 (by decide) ?_
        refine ab_goto 39 dX6_readsAngle_35 (by decide) ?_
        exact ab_zret dX6_readsAngle_39 rfl rfl (by decide) (Or.inr (⟨(v_5.1, nI v_22.1, v_22.2), by simp only [pAng, sb_r c_6, if_pos (show v_5.1 = 0 from h_10), sb_r c_23], ⟨by show p ≤ v_22.2; omega, by show v_22.2 ≤ n; omega⟩, rfl, rfl⟩))
theorem c_X6_readsBars {x0 x4 x5 x6 x7 x8 x9 x10 x11 x12 x13 x14 x15 x16 x17 x18 x19 x20 x21 x22 x23 x24 x25 x26 x27 x28 x29 x30 x31 x32 : ax_E} {f1_2 f1_5 f1_6 : Int32} {r2 r3 : Nat → Int32} {wm : List ax_E} {u : Nat → Nat} {n p : Nat} (h_n : n ≤ 700) (h_u : ∀ k, k < 700 → u k < 256 ∧ r2 k = sgn (u k)) (h_p : p ≤ n) : Ct M_X6_readsBars [.ref 1] ([x0, ob 6 [.ref 2, .ref 3, .int f1_2, .int (nI n), .int (nI p), .int f1_5, .int f1_6], ba 700 r2, ia 4 r3, x4, x5, x6, x7, x8, x9, x10, x11, x12, x13, x14, x15, x16, x17, x18, x19, x20, x21, x22, x23, x24, x25, x26, x27, x28, x29, x30, x31, x32], wm) (fun r w' => (∃ e : Nat × Nat, ∃ ga : Int32, ∃ gr : Nat → Int32, (pBars u n p = .inl e) ∧ r = some (.int 0) ∧ w' = ([x0, ob 6 [.ref 2, .ref 3, .int f1_2, .int (nI n), .int ga, .int (nI e.1), .int (nI e.2)], ba 700 r2, ia 4 gr, x4, x5, x6, x7, x8, x9, x10, x11, x12, x13, x14, x15, x16, x17, x18, x19, x20, x21, x22, x23, x24, x25, x26, x27, x28, x29, x30, x31, x32], wm)) ∨ (∃ v : Int32 × Int32 × Int32 × Int32 × Nat, (pBars u n p = .inr v) ∧ (p ≤ v.2.2.2.2 ∧ v.2.2.2.2 ≤ n) ∧ r = some (.int 1) ∧ w' = ([x0, ob 6 [.ref 2, .ref 3, .int f1_2, .int (nI n), .int (nI v.2.2.2.2), .int f1_5, .int f1_6], ba 700 r2, ia 4 (upd (upd (upd (upd r3 0 v.1) 1 v.2.1) 2 v.2.2.1) 3 v.2.2.2.1), x4, x5, x6, x7, x8, x9, x10, x11, x12, x13, x14, x15, x16, x17, x18, x19, x20, x21, x22, x23, x24, x25, x26, x27, x28, x29, x30, x31, x32], wm))) := by
  refine ct_of ⟨by decide, rfl⟩ (Nat.le_of_ble_eq_true rfl) ?_
  refine ab_iconst (v := 0) dX6_readsBars_0 (by decide) ?_
  refine ab_istore_n (la' := [(1, .int 0), (0, .ref 1)]) dX6_readsBars_1 (by decide) rfl ?_
  refine ab_iload_n dX6_readsBars_2 rfl ?_
  refine ab_aload_n dX6_readsBars_3 rfl ?_
  refine ab_getf dX6_readsBars_4 fl_X6_15 rfl rfl ?_
  refine ab_ialen (v := 4) dX6_readsBars_7 rfl (by decide) ?_
  refine ab_icmpge 55 dX6_readsBars_8 (by decide) (fun h_1 => absurd h_1 (by decide)) (fun h_1 => ?_)
  refine ab_aload_n dX6_readsBars_11 rfl ?_
  refine ab_callV (As := []) (rest := []) dX6_readsBars_12 mv_X6_skipBlanks ml_X6_61 ⟨by decide, by decide, rfl, rfl, rfl⟩ (by decide) rfl rfl (Nat.le_of_ble_eq_true rfl) rfl (c_X6_skipBlanks (n := n) (p := p) h_n h_u (by omega)) ?_
  rintro r w' ⟨c_2, rfl, rfl⟩
  refine ab_aload_n dX6_readsBars_15 rfl ?_
  refine ab_iload_n dX6_readsBars_16 rfl ?_
  refine ab_callS (As := [.int 0]) (rest := [.ref 1]) dX6_readsBars_17 ms_X6_barWord ml_X6_109 ⟨by decide, by decide, rfl, rfl, rfl⟩ (by decide) rfl rfl (Nat.le_of_ble_eq_true rfl) c_barWord_0 ?_
  rintro r w' ⟨rfl, rfl⟩
  refine ab_callV (As := [.ref 3004]) (rest := []) dX6_readsBars_20 mv_X6_takesWord ml_X6_76 ⟨by decide, by decide, rfl, rfl, rfl⟩ (by decide) rfl rfl (Nat.le_of_ble_eq_true rfl) rfl (c_X6_takesWord_4 (n := n) (p := (sk u n p)) h_n h_u (by omega)) ?_
  rintro r w' (⟨c_3, rfl, rfl⟩ | ⟨c_4, rfl, rfl⟩)
  · refine ab_ifne 36 dX6_readsBars_23 (by decide) (fun h_5 => ?_) (fun h_5 => absurd h_5 (by decide))
    refine ab_aload_n dX6_readsBars_36 rfl ?_
    refine ab_iload_n dX6_readsBars_37 rfl ?_
    refine ab_iconst (v := 1) dX6_readsBars_38 (by decide) ?_
    refine ab_bipush (v := 18) dX6_readsBars_39 (by decide) ?_
    refine ab_callV (As := [.int 0, .int 1, .int 18]) (rest := []) dX6_readsBars_41 mv_X6_readsWhole ml_X6_112 ⟨by decide, by decide, rfl, rfl, rfl⟩ (by decide) rfl rfl (Nat.le_of_ble_eq_true rfl) rfl (c_X6_readsWhole (n := n) (p := ((sk u n p) + 6)) (i := 0) (lo := 1) (hi := 18) h_n h_u (by omega) (by decide) (by decide) (by decide)) ?_
    rintro r w' (⟨e_6, ga_7, c_8, rfl, rfl⟩ | ⟨v_9, c_10, c_11, rfl, rfl⟩)
    · refine ab_ifne 49 dX6_readsBars_44 (by decide) (fun h_12 => absurd (by decide) h_12) (fun h_12 => ?_)
      refine ab_iconst (v := 0) dX6_readsBars_47 (by decide) ?_
      exact ab_zret dX6_readsBars_48 rfl rfl (by decide) (Or.inl (⟨e_6, ga_7, r3, by simp only [pBars, pBar_0, pBar_1, pBar_2, pBar_3, if_pos (show wd_4 u n (sk u n p) from c_3), sb_l c_8], rfl, rfl⟩))
    · refine ab_ifne 49 dX6_readsBars_44 (by decide) (fun h_13 => ?_) (fun h_13 => absurd h_13 (by decide))
      refine ab_iinc (v := 1) (la' := [(1, .int 1), (0, .ref 1)]) dX6_readsBars_49 rfl (by decide) (by decide) rfl ?_
      refine ab_goto 2 dX6_readsBars_52 (by decide) ?_
      refine ab_iload_n dX6_readsBars_2 rfl ?_
      refine ab_aload_n dX6_readsBars_3 rfl ?_
      refine ab_getf dX6_readsBars_4 fl_X6_15 rfl rfl ?_
      refine ab_ialen (v := 4) dX6_readsBars_7 rfl (by decide) ?_
      refine ab_icmpge 55 dX6_readsBars_8 (by decide) (fun h_14 => absurd h_14 (by decide)) (fun h_14 => ?_)
      refine ab_aload_n dX6_readsBars_11 rfl ?_
      refine ab_callV (As := []) (rest := []) dX6_readsBars_12 mv_X6_skipBlanks ml_X6_61 ⟨by decide, by decide, rfl, rfl, rfl⟩ (by decide) rfl rfl (Nat.le_of_ble_eq_true rfl) rfl (c_X6_skipBlanks (n := n) (p := v_9.2) h_n h_u (by omega)) ?_
      rintro r w' ⟨c_15, rfl, rfl⟩
      refine ab_aload_n dX6_readsBars_15 rfl ?_
      refine ab_iload_n dX6_readsBars_16 rfl ?_
      refine ab_callS (As := [.int 1]) (rest := [.ref 1]) dX6_readsBars_17 ms_X6_barWord ml_X6_109 ⟨by decide, by decide, rfl, rfl, rfl⟩ (by decide) rfl rfl (Nat.le_of_ble_eq_true rfl) c_barWord_1 ?_
      rintro r w' ⟨rfl, rfl⟩
      refine ab_callV (As := [.ref 3005]) (rest := []) dX6_readsBars_20 mv_X6_takesWord ml_X6_76 ⟨by decide, by decide, rfl, rfl, rfl⟩ (by decide) rfl rfl (Nat.le_of_ble_eq_true rfl) rfl (c_X6_takesWord_5 (n := n) (p := (sk u n v_9.2)) h_n h_u (by omega)) ?_
      rintro r w' (⟨c_16, rfl, rfl⟩ | ⟨c_17, rfl, rfl⟩)
      · refine ab_ifne 36 dX6_readsBars_23 (by decide) (fun h_18 => ?_) (fun h_18 => absurd h_18 (by decide))
        refine ab_aload_n dX6_readsBars_36 rfl ?_
        refine ab_iload_n dX6_readsBars_37 rfl ?_
        refine ab_iconst (v := 1) dX6_readsBars_38 (by decide) ?_
        refine ab_bipush (v := 18) dX6_readsBars_39 (by decide) ?_
        refine ab_callV (As := [.int 1, .int 1, .int 18]) (rest := []) dX6_readsBars_41 mv_X6_readsWhole ml_X6_112 ⟨by decide, by decide, rfl, rfl, rfl⟩ (by decide) rfl rfl (Nat.le_of_ble_eq_true rfl) rfl (c_X6_readsWhole (n := n) (p := ((sk u n v_9.2) + 5)) (i := 1) (lo := 1) (hi := 18) h_n h_u (by omega) (by decide) (by decide) (by decide)) ?_
        rintro r w' (⟨e_19, ga_20, c_21, rfl, rfl⟩ | ⟨v_22, c_23, c_24, rfl, rfl⟩)
        · refine ab_ifne 49 dX6_readsBars_44 (by decide) (fun h_25 => absurd (by decide) h_25) (fun h_25 => ?_)
          refine ab_iconst (v := 0) dX6_readsBars_47 (by decide) ?_
          exact ab_zret dX6_readsBars_48 rfl rfl (by decide) (Or.inl (⟨e_19, ga_20, (upd r3 0 (nI v_9.1)), by simp only [pBars, pBar_0, pBar_1, pBar_2, pBar_3, if_pos (show wd_4 u n (sk u n p) from c_3), sb_r c_10, if_pos (show wd_5 u n (sk u n v_9.2) from c_16), sb_l c_21], rfl, rfl⟩))
        · refine ab_ifne 49 dX6_readsBars_44 (by decide) (fun h_26 => ?_) (fun h_26 => absurd h_26 (by decide))
          refine ab_iinc (v := 2) (la' := [(1, .int 2), (0, .ref 1)]) dX6_readsBars_49 rfl (by decide) (by decide) rfl ?_
          refine ab_goto 2 dX6_readsBars_52 (by decide) ?_
          refine ab_iload_n dX6_readsBars_2 rfl ?_
          refine ab_aload_n dX6_readsBars_3 rfl ?_
          refine ab_getf dX6_readsBars_4 fl_X6_15 rfl rfl ?_
          refine ab_ialen (v := 4) dX6_readsBars_7 rfl (by decide) ?_
          refine ab_icmpge 55 dX6_readsBars_8 (by decide) (fun h_27 => absurd h_27 (by decide)) (fun h_27 => ?_)
          refine ab_aload_n dX6_readsBars_11 rfl ?_
          refine ab_callV (As := []) (rest := []) dX6_readsBars_12 mv_X6_skipBlanks ml_X6_61 ⟨by decide, by decide, rfl, rfl, rfl⟩ (by decide) rfl rfl (Nat.le_of_ble_eq_true rfl) rfl (c_X6_skipBlanks (n := n) (p := v_22.2) h_n h_u (by omega)) ?_
          rintro r w' ⟨c_28, rfl, rfl⟩
          refine ab_aload_n dX6_readsBars_15 rfl ?_
          refine ab_iload_n dX6_readsBars_16 rfl ?_
          refine ab_callS (As := [.int 2]) (rest := [.ref 1]) dX6_readsBars_17 ms_X6_barWord ml_X6_109 ⟨by decide, by decide, rfl, rfl, rfl⟩ (by decide) rfl rfl (Nat.le_of_ble_eq_true rfl) c_barWord_2 ?_
          rintro r w' ⟨rfl, rfl⟩
          refine ab_callV (As := [.ref 3006]) (rest := []) dX6_readsBars_20 mv_X6_takesWord ml_X6_76 ⟨by decide, by decide, rfl, rfl, rfl⟩ (by decide) rfl rfl (Nat.le_of_ble_eq_true rfl) rfl (c_X6_takesWord_6 (n := n) (p := (sk u n v_22.2)) h_n h_u (by omega)) ?_
          rintro r w' (⟨c_29, rfl, rfl⟩ | ⟨c_30, rfl, rfl⟩)
          · refine ab_ifne 36 dX6_readsBars_23 (by decide) (fun h_31 => ?_) (fun h_31 => absurd h_31 (by decide))
            refine ab_aload_n dX6_readsBars_36 rfl ?_
            refine ab_iload_n dX6_readsBars_37 rfl ?_
            refine ab_iconst (v := 1) dX6_readsBars_38 (by decide) ?_
            refine ab_bipush (v := 18) dX6_readsBars_39 (by decide) ?_
            refine ab_callV (As := [.int 2, .int 1, .int 18]) (rest := []) dX6_readsBars_41 mv_X6_readsWhole ml_X6_112 ⟨by decide, by decide, rfl, rfl, rfl⟩ (by decide) rfl rfl (Nat.le_of_ble_eq_true rfl) rfl (c_X6_readsWhole (n := n) (p := ((sk u n v_22.2) + 3)) (i := 2) (lo := 1) (hi := 18) h_n h_u (by omega) (by decide) (by decide) (by decide)) ?_
            rintro r w' (⟨e_32, ga_33, c_34, rfl, rfl⟩ | ⟨v_35, c_36, c_37, rfl, rfl⟩)
            · refine ab_ifne 49 dX6_readsBars_44 (by decide) (fun h_38 => absurd (by decide) h_38) (fun h_38 => ?_)
              refine ab_iconst (v := 0) dX6_readsBars_47 (by decide) ?_
              exact ab_zret dX6_readsBars_48 rfl rfl (by decide) (Or.inl (⟨e_32, ga_33, (upd (upd r3 0 (nI v_9.1)) 1 (nI v_22.1)), by simp only [pBars, pBar_0, pBar_1, pBar_2, pBar_3, if_pos (show wd_4 u n (sk u n p) from c_3), sb_r c_10, if_pos (show wd_5 u n (sk u n v_9.2) from c_16), sb_r c_23, if_pos (show wd_6 u n (sk u n v_22.2) from c_29), sb_l c_34], rfl, rfl⟩))
            · refine ab_ifne 49 dX6_readsBars_44 (by decide) (fun h_39 => ?_) (fun h_39 => absurd h_39 (by decide))
              refine ab_iinc (v := 3) (la' := [(1, .int 3), (0, .ref 1)]) dX6_readsBars_49 rfl (by decide) (by decide) rfl ?_
              refine ab_goto 2 dX6_readsBars_52 (by decide) ?_
              refine ab_iload_n dX6_readsBars_2 rfl ?_
              refine ab_aload_n dX6_readsBars_3 rfl ?_
              refine ab_getf dX6_readsBars_4 fl_X6_15 rfl rfl ?_
              refine ab_ialen (v := 4) dX6_readsBars_7 rfl (by decide) ?_
              refine ab_icmpge 55 dX6_readsBars_8 (by decide) (fun h_40 => absurd h_40 (by decide)) (fun h_40 => ?_)
              refine ab_aload_n dX6_readsBars_11 rfl ?_
              refine ab_callV (As := []) (rest := []) dX6_readsBars_12 mv_X6_skipBlanks ml_X6_61 ⟨by decide, by decide, rfl, rfl, rfl⟩ (by decide) rfl rfl (Nat.le_of_ble_eq_true rfl) rfl (c_X6_skipBlanks (n := n) (p := v_35.2) h_n h_u (by omega)) ?_
              rintro r w' ⟨c_41, rfl, rfl⟩
              refine ab_aload_n dX6_readsBars_15 rfl ?_
              refine ab_iload_n dX6_readsBars_16 rfl ?_
              refine ab_callS (As := [.int 3]) (rest := [.ref 1]) dX6_readsBars_17 ms_X6_barWord ml_X6_109 ⟨by decide, by decide, rfl, rfl, rfl⟩ (by decide) rfl rfl (Nat.le_of_ble_eq_true rfl) c_barWord_3 ?_
              rintro r w' ⟨rfl, rfl⟩
              refine ab_callV (As := [.ref 3007]) (rest := []) dX6_readsBars_20 mv_X6_takesWord ml_X6_76 ⟨by decide, by decide, rfl, rfl, rfl⟩ (by decide) rfl rfl (Nat.le_of_ble_eq_true rfl) rfl (c_X6_takesWord_7 (n := n) (p := (sk u n v_35.2)) h_n h_u (by omega)) ?_
              rintro r w' (⟨c_42, rfl, rfl⟩ | ⟨c_43, rfl, rfl⟩)
              · refine ab_ifne 36 dX6_readsBars_23 (by decide) (fun h_44 => ?_) (fun h_44 => absurd h_44 (by decide))
                refine ab_aload_n dX6_readsBars_36 rfl ?_
                refine ab_iload_n dX6_readsBars_37 rfl ?_
                refine ab_iconst (v := 1) dX6_readsBars_38 (by decide) ?_
                refine ab_bipush (v := 18) dX6_readsBars_39 (by decide) ?_
                refine ab_callV (As := [.int 3, .int 1, .int 18]) (rest := []) dX6_readsBars_41 mv_X6_readsWhole ml_X6_112 ⟨by decide, by decide, rfl, rfl, rfl⟩ (by decide) rfl rfl (Nat.le_of_ble_eq_true rfl) rfl (c_X6_readsWhole (n := n) (p := ((sk u n v_35.2) + 3)) (i := 3) (lo := 1) (hi := 18) h_n h_u (by omega) (by decide) (by decide) (by decide)) ?_
                rintro r w' (⟨e_45, ga_46, c_47, rfl, rfl⟩ | ⟨v_48, c_49, c_50, rfl, rfl⟩)
                · refine ab_ifne 49 dX6_readsBars_44 (by decide) (fun h_51 => absurd (by decide) h_51) (fun h_51 => ?_)
                  refine ab_iconst (v := 0) dX6_readsBars_47 (by decide) ?_
                  exact ab_zret dX6_readsBars_48 rfl rfl (by decide) (Or.inl (⟨e_45, ga_46, (upd (upd (upd r3 0 (nI v_9.1)) 1 (nI v_22.1)) 2 (nI v_35.1)), by simp only [pBars, pBar_0, pBar_1, pBar_2, pBar_3, if_pos (show wd_4 u n (sk u n p) from c_3), sb_r c_10, if_pos (show wd_5 u n (sk u n v_9.2) from c_16), sb_r c_23, if_pos (show wd_6 u n (sk u n v_22.2) from c_29), sb_r c_36, if_pos (show wd_7 u n (sk u n v_35.2) from c_42), sb_l c_47], rfl, rfl⟩))
                · refine ab_ifne 49 dX6_readsBars_44 (by decide) (fun h_52 => ?_) (fun h_52 => absurd h_52 (by decide))
                  refine ab_iinc (v := 4) (la' := [(1, .int 4), (0, .ref 1)]) dX6_readsBars_49 rfl (by decide) (by decide) rfl ?_
                  refine ab_goto 2 dX6_readsBars_52 (by decide) ?_
                  refine ab_iload_n dX6_readsBars_2 rfl ?_
                  refine ab_aload_n dX6_readsBars_3 rfl ?_
                  refine ab_getf dX6_readsBars_4 fl_X6_15 rfl rfl ?_
                  refine ab_ialen (v := 4) dX6_readsBars_7 rfl (by decide) ?_
                  refine ab_icmpge 55 dX6_readsBars_8 (by decide) (fun h_53 => ?_) (fun h_53 => absurd (by decide) h_53)
                  refine ab_iconst (v := 1) dX6_readsBars_55 (by decide) ?_
                  exact ab_zret dX6_readsBars_56 rfl rfl (by decide) (Or.inr (⟨(nI v_9.1, nI v_22.1, nI v_35.1, nI v_48.1, v_48.2), by simp only [pBars, pBar_0, pBar_1, pBar_2, pBar_3, if_pos (show wd_4 u n (sk u n p) from c_3), sb_r c_10, if_pos (show wd_5 u n (sk u n v_9.2) from c_16), sb_r c_23, if_pos (show wd_6 u n (sk u n v_22.2) from c_29), sb_r c_36, if_pos (show wd_7 u n (sk u n v_35.2) from c_42), sb_r c_49], ⟨by show p ≤ v_48.2; omega, by show v_48.2 ≤ n; omega⟩, rfl, rfl⟩))
              · refine ab_ifne 36 dX6_readsBars_23 (by decide) (fun h_54 => absurd (by decide) h_54) (fun h_54 => ?_)
                refine ab_aload_n dX6_readsBars_26 rfl ?_
                refine ab_iconst (v := 1) dX6_readsBars_27 (by decide) ?_
                refine ab_aload_n dX6_readsBars_28 rfl ?_
                refine ab_getf dX6_readsBars_29 fl_X6_26 rfl rfl ?_
                refine ab_callV (As := [.int 1, .int (nI (sk u n v_35.2))]) (rest := []) dX6_readsBars_32 mv_X6_fails ml_X6_68 ⟨by decide, by decide, rfl, rfl, rfl⟩ (by decide) rfl rfl (Nat.le_of_ble_eq_true rfl) rfl c_X6_fails ?_
                rintro r w' ⟨rfl, rfl⟩
                exact ab_zret dX6_readsBars_35 rfl rfl (by decide) (Or.inl (⟨(1, (sk u n v_35.2)), (nI (sk u n v_35.2)), (upd (upd (upd r3 0 (nI v_9.1)) 1 (nI v_22.1)) 2 (nI v_35.1)), by simp only [pBars, pBar_0, pBar_1, pBar_2, pBar_3, if_pos (show wd_4 u n (sk u n p) from c_3), sb_r c_10, if_pos (show wd_5 u n (sk u n v_9.2) from c_16), sb_r c_23, if_pos (show wd_6 u n (sk u n v_22.2) from c_29), sb_r c_36, if_neg (show ¬ wd_7 u n (sk u n v_35.2) from c_43)]; rfl, rfl, rfl⟩))
          · refine ab_ifne 36 dX6_readsBars_23 (by decide) (fun h_55 => absurd (by decide) h_55) (fun h_55 => ?_)
            refine ab_aload_n dX6_readsBars_26 rfl ?_
            refine ab_iconst (v := 1) dX6_readsBars_27 (by decide) ?_
            refine ab_aload_n dX6_readsBars_28 rfl ?_
            refine ab_getf dX6_readsBars_29 fl_X6_26 rfl rfl ?_
            refine ab_callV (As := [.int 1, .int (nI (sk u n v_22.2))]) (rest := []) dX6_readsBars_32 mv_X6_fails ml_X6_68 ⟨by decide, by decide, rfl, rfl, rfl⟩ (by decide) rfl rfl (Nat.le_of_ble_eq_true rfl) rfl c_X6_fails ?_
            rintro r w' ⟨rfl, rfl⟩
            exact ab_zret dX6_readsBars_35 rfl rfl (by decide) (Or.inl (⟨(1, (sk u n v_22.2)), (nI (sk u n v_22.2)), (upd (upd r3 0 (nI v_9.1)) 1 (nI v_22.1)), by simp only [pBars, pBar_0, pBar_1, pBar_2, pBar_3, if_pos (show wd_4 u n (sk u n p) from c_3), sb_r c_10, if_pos (show wd_5 u n (sk u n v_9.2) from c_16), sb_r c_23, if_neg (show ¬ wd_6 u n (sk u n v_22.2) from c_30)]; rfl, rfl, rfl⟩))
      · refine ab_ifne 36 dX6_readsBars_23 (by decide) (fun h_56 => absurd (by decide) h_56) (fun h_56 => ?_)
        refine ab_aload_n dX6_readsBars_26 rfl ?_
        refine ab_iconst (v := 1) dX6_readsBars_27 (by decide) ?_
        refine ab_aload_n dX6_readsBars_28 rfl ?_
        refine ab_getf dX6_readsBars_29 fl_X6_26 rfl rfl ?_
        refine ab_callV (As := [.int 1, .int (nI (sk u n v_9.2))]) (rest := []) dX6_readsBars_32 mv_X6_fails ml_X6_68 ⟨by decide, by decide, rfl, rfl, rfl⟩ (by decide) rfl rfl (Nat.le_of_ble_eq_true rfl) rfl c_X6_fails ?_
        rintro r w' ⟨rfl, rfl⟩
        exact ab_zret dX6_readsBars_35 rfl rfl (by decide) (Or.inl (⟨(1, (sk u n v_9.2)), (nI (sk u n v_9.2)), (upd r3 0 (nI v_9.1)), by simp only [pBars, pBar_0, pBar_1, pBar_2, pBar_3, if_pos (show wd_4 u n (sk u n p) from c_3), sb_r c_10, if_neg (show ¬ wd_5 u n (sk u n v_9.2) from c_17)]; rfl, rfl, rfl⟩))
  · refine ab_ifne 36 dX6_readsBars_23 (by decide) (fun h_57 => absurd (by decide) h_57) (fun h_57 => ?_)
    refine ab_aload_n dX6_readsBars_26 rfl ?_
    refine ab_iconst (v := 1) dX6_readsBars_27 (by decide) ?_
    refine ab_aload_n dX6_readsBars_28 rfl ?_
    refine ab_getf dX6_readsBars_29 fl_X6_26 rfl rfl ?_
    refine ab_callV (As := [.int 1, .int (nI (sk u n p))]) (rest := []) dX6_readsBars_32 mv_X6_fails ml_X6_68 ⟨by decide, by decide, rfl, rfl, rfl⟩ (by decide) rfl rfl (Nat.le_of_ble_eq_true rfl) rfl c_X6_fails ?_
    rintro r w' ⟨rfl, rfl⟩
    exact ab_zret dX6_readsBars_35 rfl rfl (by decide) (Or.inl (⟨(1, (sk u n p)), (nI (sk u n p)), r3, by simp only [pBars, pBar_0, pBar_1, pBar_2, pBar_3, if_neg (show ¬ wd_4 u n (sk u n p) from c_4)]; rfl, rfl, rfl⟩))
theorem c_X6_readsRow_0 {x0 x4 x5 x6 x7 x8 x9 x10 x11 x12 x13 x14 x15 x16 x17 x18 x19 x20 x21 x22 x23 x24 x25 x26 x27 x28 x29 x30 x31 x32 : ax_E} {f1_2 f1_5 f1_6 : Int32} {r2 r3 : Nat → Int32} {wm : List ax_E} {u : Nat → Nat} {n p : Nat} (h_n : n ≤ 700) (h_u : ∀ k, k < 700 → u k < 256 ∧ r2 k = sgn (u k)) (h_p : p ≤ n) : Ct M_X6_readsRow [.ref 1, .int 0] ([x0, ob 6 [.ref 2, .ref 3, .int f1_2, .int (nI n), .int (nI p), .int f1_5, .int f1_6], ba 700 r2, ia 4 r3, x4, x5, x6, x7, x8, x9, x10, x11, x12, x13, x14, x15, x16, x17, x18, x19, x20, x21, x22, x23, x24, x25, x26, x27, x28, x29, x30, x31, x32], wm) (fun r w' => (∃ e : Nat × Nat, ∃ ga : Int32, ∃ gr : Nat → Int32, (pBars u n p = .inl e) ∧ r = some (.int 0) ∧ w' = ([x0, ob 6 [.ref 2, .ref 3, .int f1_2, .int (nI n), .int ga, .int (nI e.1), .int (nI e.2)], ba 700 r2, ia 4 gr, x4, x5, x6, x7, x8, x9, x10, x11, x12, x13, x14, x15, x16, x17, x18, x19, x20, x21, x22, x23, x24, x25, x26, x27, x28, x29, x30, x31, x32], wm)) ∨ (∃ v : Int32 × Int32 × Int32 × Int32 × Nat, (pBars u n p = .inr v) ∧ (p ≤ v.2.2.2.2 ∧ v.2.2.2.2 ≤ n) ∧ r = some (.int 1) ∧ w' = ([x0, ob 6 [.ref 2, .ref 3, .int f1_2, .int (nI n), .int (nI v.2.2.2.2), .int f1_5, .int f1_6], ba 700 r2, ia 4 (upd (upd (upd (upd r3 0 v.1) 1 v.2.1) 2 v.2.2.1) 3 v.2.2.2.1), x4, x5, x6, x7, x8, x9, x10, x11, x12, x13, x14, x15, x16, x17, x18, x19, x20, x21, x22, x23, x24, x25, x26, x27, x28, x29, x30, x31, x32], wm))) := by
  refine ct_of ⟨by decide, rfl⟩ (Nat.le_of_ble_eq_true rfl) ?_
  refine ab_iload_n dX6_readsRow_0 rfl ?_
  refine ab_tabIn 28 dX6_readsRow_1 (by decide) (by decide) rfl (by decide) ?_
  refine ab_aload_n dX6_readsRow_28 rfl ?_
  refine ab_callV (As := []) (rest := []) dX6_readsRow_29 mv_X6_readsBars ml_X6_99 ⟨by decide, by decide, rfl, rfl, rfl⟩ (by decide) rfl rfl (Nat.le_of_ble_eq_true rfl) rfl (c_X6_readsBars (n := n) (p := p) h_n h_u (by omega)) ?_
  rintro r w' (⟨e_1, ga_2, gr_3, c_4, rfl, rfl⟩ | ⟨v_5, c_6, c_7, rfl, rfl⟩)
  · exact ab_zret dX6_readsRow_32 rfl rfl (by decide) (Or.inl (⟨e_1, ga_2, gr_3, c_4, rfl, rfl⟩))
  · exact ab_zret dX6_readsRow_32 rfl rfl (by decide) (Or.inr (⟨v_5, c_6, c_7, rfl, rfl⟩))
theorem c_X6_readsRow_1 {x0 x4 x5 x6 x7 x8 x9 x10 x11 x12 x13 x14 x15 x16 x17 x18 x19 x20 x21 x22 x23 x24 x25 x26 x27 x28 x29 x30 x31 x32 : ax_E} {f1_2 f1_5 f1_6 : Int32} {r2 r3 : Nat → Int32} {wm : List ax_E} {u : Nat → Nat} {n p : Nat} (h_n : n ≤ 700) (h_u : ∀ k, k < 700 → u k < 256 ∧ r2 k = sgn (u k)) (h_p : p ≤ n) : Ct M_X6_readsRow [.ref 1, .int 1] ([x0, ob 6 [.ref 2, .ref 3, .int f1_2, .int (nI n), .int (nI p), .int f1_5, .int f1_6], ba 700 r2, ia 4 r3, x4, x5, x6, x7, x8, x9, x10, x11, x12, x13, x14, x15, x16, x17, x18, x19, x20, x21, x22, x23, x24, x25, x26, x27, x28, x29, x30, x31, x32], wm) (fun r w' => (∃ e : Nat × Nat, ∃ ga : Int32, ∃ gr : Nat → Int32, (pTwo u n p 20 = .inl e) ∧ r = some (.int 0) ∧ w' = ([x0, ob 6 [.ref 2, .ref 3, .int f1_2, .int (nI n), .int ga, .int (nI e.1), .int (nI e.2)], ba 700 r2, ia 4 gr, x4, x5, x6, x7, x8, x9, x10, x11, x12, x13, x14, x15, x16, x17, x18, x19, x20, x21, x22, x23, x24, x25, x26, x27, x28, x29, x30, x31, x32], wm)) ∨ (∃ v : Int32 × Int32 × Nat, (pTwo u n p 20 = .inr v) ∧ (p ≤ v.2.2 ∧ v.2.2 ≤ n) ∧ r = some (.int 1) ∧ w' = ([x0, ob 6 [.ref 2, .ref 3, .int f1_2, .int (nI n), .int (nI v.2.2), .int f1_5, .int f1_6], ba 700 r2, ia 4 (upd (upd r3 0 v.1) 1 v.2.1), x4, x5, x6, x7, x8, x9, x10, x11, x12, x13, x14, x15, x16, x17, x18, x19, x20, x21, x22, x23, x24, x25, x26, x27, x28, x29, x30, x31, x32], wm))) := by
  refine ct_of ⟨by decide, rfl⟩ (Nat.le_of_ble_eq_true rfl) ?_
  refine ab_iload_n dX6_readsRow_0 rfl ?_
  refine ab_tabIn 33 dX6_readsRow_1 (by decide) (by decide) rfl (by decide) ?_
  refine ab_aload_n dX6_readsRow_33 rfl ?_
  refine ab_bipush (v := 20) dX6_readsRow_34 (by decide) ?_
  refine ab_callV (As := [.int 20]) (rest := []) dX6_readsRow_36 mv_X6_readsTwo ml_X6_103 ⟨by decide, by decide, rfl, rfl, rfl⟩ (by decide) rfl rfl (Nat.le_of_ble_eq_true rfl) rfl (c_X6_readsTwo (n := n) (p := p) (hi := 20) h_n h_u (by omega) (by decide)) ?_
  rintro r w' (⟨e_1, ga_2, gr_3, c_4, rfl, rfl⟩ | ⟨v_5, c_6, c_7, rfl, rfl⟩)
  · exact ab_zret dX6_readsRow_39 rfl rfl (by decide) (Or.inl (⟨e_1, ga_2, gr_3, c_4, rfl, rfl⟩))
  · exact ab_zret dX6_readsRow_39 rfl rfl (by decide) (Or.inr (⟨v_5, c_6, c_7, rfl, rfl⟩))
theorem c_X6_readsRow_2 {x0 x4 x5 x6 x7 x8 x9 x10 x11 x12 x13 x14 x15 x16 x17 x18 x19 x20 x21 x22 x23 x24 x25 x26 x27 x28 x29 x30 x31 x32 : ax_E} {f1_2 f1_5 f1_6 : Int32} {r2 r3 : Nat → Int32} {wm : List ax_E} {u : Nat → Nat} {n p : Nat} (h_n : n ≤ 700) (h_u : ∀ k, k < 700 → u k < 256 ∧ r2 k = sgn (u k)) (h_p : p ≤ n) : Ct M_X6_readsRow [.ref 1, .int 2] ([x0, ob 6 [.ref 2, .ref 3, .int f1_2, .int (nI n), .int (nI p), .int f1_5, .int f1_6], ba 700 r2, ia 4 r3, x4, x5, x6, x7, x8, x9, x10, x11, x12, x13, x14, x15, x16, x17, x18, x19, x20, x21, x22, x23, x24, x25, x26, x27, x28, x29, x30, x31, x32], wm) (fun r w' => (∃ e : Nat × Nat, ∃ ga : Int32, ∃ gr : Nat → Int32, (pTwo u n p 999 = .inl e) ∧ r = some (.int 0) ∧ w' = ([x0, ob 6 [.ref 2, .ref 3, .int f1_2, .int (nI n), .int ga, .int (nI e.1), .int (nI e.2)], ba 700 r2, ia 4 gr, x4, x5, x6, x7, x8, x9, x10, x11, x12, x13, x14, x15, x16, x17, x18, x19, x20, x21, x22, x23, x24, x25, x26, x27, x28, x29, x30, x31, x32], wm)) ∨ (∃ v : Int32 × Int32 × Nat, (pTwo u n p 999 = .inr v) ∧ (p ≤ v.2.2 ∧ v.2.2 ≤ n) ∧ r = some (.int 1) ∧ w' = ([x0, ob 6 [.ref 2, .ref 3, .int f1_2, .int (nI n), .int (nI v.2.2), .int f1_5, .int f1_6], ba 700 r2, ia 4 (upd (upd r3 0 v.1) 1 v.2.1), x4, x5, x6, x7, x8, x9, x10, x11, x12, x13, x14, x15, x16, x17, x18, x19, x20, x21, x22, x23, x24, x25, x26, x27, x28, x29, x30, x31, x32], wm))) := by
  refine ct_of ⟨by decide, rfl⟩ (Nat.le_of_ble_eq_true rfl) ?_
  refine ab_iload_n dX6_readsRow_0 rfl ?_
  refine ab_tabIn 40 dX6_readsRow_1 (by decide) (by decide) rfl (by decide) ?_
  refine ab_aload_n dX6_readsRow_40 rfl ?_
  refine ab_sipush (v := 999) dX6_readsRow_41 (by decide) ?_
  refine ab_callV (As := [.int 999]) (rest := []) dX6_readsRow_44 mv_X6_readsTwo ml_X6_103 ⟨by decide, by decide, rfl, rfl, rfl⟩ (by decide) rfl rfl (Nat.le_of_ble_eq_true rfl) rfl (c_X6_readsTwo (n := n) (p := p) (hi := 999) h_n h_u (by omega) (by decide)) ?_
  rintro r w' (⟨e_1, ga_2, gr_3, c_4, rfl, rfl⟩ | ⟨v_5, c_6, c_7, rfl, rfl⟩)
  · exact ab_zret dX6_readsRow_47 rfl rfl (by decide) (Or.inl (⟨e_1, ga_2, gr_3, c_4, rfl, rfl⟩))
  · exact ab_zret dX6_readsRow_47 rfl rfl (by decide) (Or.inr (⟨v_5, c_6, c_7, rfl, rfl⟩))
theorem c_X6_readsRow_3 {x0 x4 x5 x6 x7 x8 x9 x10 x11 x12 x13 x14 x15 x16 x17 x18 x19 x20 x21 x22 x23 x24 x25 x26 x27 x28 x29 x30 x31 x32 : ax_E} {f1_2 f1_5 f1_6 : Int32} {r2 r3 : Nat → Int32} {wm : List ax_E} {u : Nat → Nat} {n p : Nat} (h_n : n ≤ 700) (h_u : ∀ k, k < 700 → u k < 256 ∧ r2 k = sgn (u k)) (h_p : p ≤ n) : Ct M_X6_readsRow [.ref 1, .int 3] ([x0, ob 6 [.ref 2, .ref 3, .int f1_2, .int (nI n), .int (nI p), .int f1_5, .int f1_6], ba 700 r2, ia 4 r3, x4, x5, x6, x7, x8, x9, x10, x11, x12, x13, x14, x15, x16, x17, x18, x19, x20, x21, x22, x23, x24, x25, x26, x27, x28, x29, x30, x31, x32], wm) (fun r w' => (∃ e : Nat × Nat, ∃ ga : Int32, ∃ gr : Nat → Int32, (pPair u n p = .inl e) ∧ r = some (.int 0) ∧ w' = ([x0, ob 6 [.ref 2, .ref 3, .int f1_2, .int (nI n), .int ga, .int (nI e.1), .int (nI e.2)], ba 700 r2, ia 4 gr, x4, x5, x6, x7, x8, x9, x10, x11, x12, x13, x14, x15, x16, x17, x18, x19, x20, x21, x22, x23, x24, x25, x26, x27, x28, x29, x30, x31, x32], wm)) ∨ (∃ v : Int32 × Int32 × Int32 × Int32 × Nat, (pPair u n p = .inr v) ∧ (p ≤ v.2.2.2.2 ∧ v.2.2.2.2 ≤ n) ∧ r = some (.int 1) ∧ w' = ([x0, ob 6 [.ref 2, .ref 3, .int f1_2, .int (nI n), .int (nI v.2.2.2.2), .int f1_5, .int f1_6], ba 700 r2, ia 4 (upd (upd (upd (upd r3 0 v.1) 1 v.2.1) 2 v.2.2.1) 3 v.2.2.2.1), x4, x5, x6, x7, x8, x9, x10, x11, x12, x13, x14, x15, x16, x17, x18, x19, x20, x21, x22, x23, x24, x25, x26, x27, x28, x29, x30, x31, x32], wm))) := by
  refine ct_of ⟨by decide, rfl⟩ (Nat.le_of_ble_eq_true rfl) ?_
  refine ab_iload_n dX6_readsRow_0 rfl ?_
  refine ab_tabOut 48 dX6_readsRow_1 (by decide) (by decide) ?_
  refine ab_aload_n dX6_readsRow_48 rfl ?_
  refine ab_iconst (v := 0) dX6_readsRow_49 (by decide) ?_
  refine ab_callV (As := [.int 0]) (rest := []) dX6_readsRow_50 mv_X6_readsAngle ml_X6_106 ⟨by decide, by decide, rfl, rfl, rfl⟩ (by decide) rfl rfl (Nat.le_of_ble_eq_true rfl) rfl (c_X6_readsAngle_0 (n := n) (p := p) h_n h_u (by omega)) ?_
  rintro r w' (⟨e_1, ga_2, gr_3, c_4, rfl, rfl⟩ | ⟨v_5, c_6, c_7, rfl, rfl⟩)
  · refine ab_ifeq 68 dX6_readsRow_53 (by decide) (fun h_8 => ?_) (fun h_8 => absurd (by decide) h_8)
    refine ab_iconst (v := 0) dX6_readsRow_68 (by decide) ?_
    exact ab_zret dX6_readsRow_69 rfl rfl (by decide) (Or.inl (⟨e_1, ga_2, gr_3, by simp only [pPair, sb_l c_4], rfl, rfl⟩))
  · refine ab_ifeq 68 dX6_readsRow_53 (by decide) (fun h_9 => absurd h_9 (by decide)) (fun h_9 => ?_)
    refine ab_aload_n dX6_readsRow_56 rfl ?_
    refine ab_iconst (v := 2) dX6_readsRow_57 (by decide) ?_
    refine ab_callV (As := [.int 2]) (rest := []) dX6_readsRow_58 mv_X6_readsAngle ml_X6_106 ⟨by decide, by decide, rfl, rfl, rfl⟩ (by decide) rfl rfl (Nat.le_of_ble_eq_true rfl) rfl (c_X6_readsAngle_2 (n := n) (p := v_5.2.2) h_n h_u (by omega)) ?_
    rintro r w' (⟨e_10, ga_11, gr_12, c_13, rfl, rfl⟩ | ⟨v_14, c_15, c_16, rfl, rfl⟩)
    · refine ab_ifeq 68 dX6_readsRow_61 (by decide) (fun h_17 => ?_) (fun h_17 => absurd (by decide) h_17)
      refine ab_iconst (v := 0) dX6_readsRow_68 (by decide) ?_
      exact ab_zret dX6_readsRow_69 rfl rfl (by decide) (Or.inl (⟨e_10, ga_11, gr_12, by simp only [pPair, sb_r c_6, sb_l c_13], rfl, rfl⟩))
    · refine ab_ifeq 68 dX6_readsRow_61 (by decide) (fun h_18 => absurd h_18 (by decide)) (fun h_18 => ?_)
      refine ab_iconst (v := 1) dX6_readsRow_64 (by decide) ?_
      refine ab_goto 69 dX6_readsRow_65 (by decide) ?_
      exact ab_zret dX6_readsRow_69 rfl rfl (by decide) (Or.inr (⟨(v_5.1, v_5.2.1, v_14.1, v_14.2.1, v_14.2.2), by simp only [pPair, sb_r c_6, sb_r c_15], ⟨by show p ≤ v_14.2.2; omega, by show v_14.2.2 ≤ n; omega⟩, rfl, rfl⟩))
