/-- what a text of n bytes tells -/
def pT (u : Nat → Nat) (n : Nat) : (Nat × Nat) ⊕ PS := pAll u n (n + 1) (0, fun _ => 0, fun _ => 0)
theorem max0 {n : Nat} (h : n < 2 ^ 31) : (if 0 < nI n then nI n else 0) = nI n := by
  by_cases e : n = 0
  · subst e; decide
  · exact if_pos (nI_lt (a := 0) (by omega) h)
theorem c_X6_reads {x0 x4 x5 x6 x10 x11 x12 x13 x14 x15 x16 x17 x18 x19 x20 x21 x22 x23 x24 x25 x26 x27 x28 x29 x30 x31 x32 : ax_E} {f1_3 f1_4 f1_5 f1_6 : Int32} {r2 r3 r8 r9 : Nat → Int32} {wm : List ax_E} {u : Nat → Nat} {n L : Nat} (h_n : n ≤ 700) (h_u : ∀ k, k < 700 → u k < 256 ∧ r2 k = sgn (u k)) (h_L : n ≤ L) (h_L7 : L ≤ 700) : Ct M_X6_reads [.ref 1, .int (nI n), .ref 7] ([x0, ob 6 [.ref 2, .ref 3, .int (nI L), .int f1_3, .int f1_4, .int f1_5, .int f1_6], ba 700 r2, ia 4 r3, x4, x5, x6, ob 2 [.ref 8, .ref 9], ia 56 r8, ia 4 r9, x10, x11, x12, x13, x14, x15, x16, x17, x18, x19, x20, x21, x22, x23, x24, x25, x26, x27, x28, x29, x30, x31, x32], wm) (fun r w' => (∃ e : Nat × Nat, ∃ ga : Int32, ∃ gr : Nat → Int32, ∃ g8 : Nat → Int32, ∃ gc : Nat → Nat, (pT u n = .inl e) ∧ r = some (.int 0) ∧ w' = ([x0, ob 6 [.ref 2, .ref 3, .int 0, .int (nI n), .int ga, .int (nI e.1), .int (nI e.2)], ba 700 r2, ia 4 gr, x4, x5, x6, ob 2 [.ref 8, .ref 9], ia 56 g8, ia 4 (ovl (nIf gc) 4 r9), x10, x11, x12, x13, x14, x15, x16, x17, x18, x19, x20, x21, x22, x23, x24, x25, x26, x27, x28, x29, x30, x31, x32], wm)) ∨ (∃ s : PS, ∃ ga : Int32, ∃ gr : Nat → Int32, ∃ g8 : Nat → Int32, (pT u n = .inr s) ∧ (Ag s.2.1 s.2.2 g8) ∧ (Bcn s.2.1) ∧ r = some (.int 1) ∧ w' = ([x0, ob 6 [.ref 2, .ref 3, .int 0, .int (nI n), .int ga, .int 0, .int (-1)], ba 700 r2, ia 4 gr, x4, x5, x6, ob 2 [.ref 8, .ref 9], ia 56 g8, ia 4 (ovl (nIf s.2.1) 4 r9), x10, x11, x12, x13, x14, x15, x16, x17, x18, x19, x20, x21, x22, x23, x24, x25, x26, x27, x28, x29, x30, x31, x32], wm))) := by
  refine ct_of ⟨by decide, rfl⟩ (Nat.le_of_ble_eq_true rfl) ?_
  refine ab_aload_n dX6_reads_0 rfl ?_
  refine ab_iconst (v := 0) dX6_reads_1 (by decide) ?_
  refine ab_iload_n dX6_reads_2 rfl ?_
  refine ab_aload_n dX6_reads_3 rfl ?_
  refine ab_getf dX6_reads_4 fl_X6_19 rfl rfl ?_
  refine ab_mmin dX6_reads_7 ml_X6_35 ⟨by decide, Nat.le_of_ble_eq_true rfl⟩ (by decide) ?_
  refine ab_topi (v := (nI n)) (if_neg (Int32.not_lt.mpr (nI_le h_L (by omega)))) ?_
  refine ab_mmax dX6_reads_10 ml_X6_41 ⟨by decide, Nat.le_of_ble_eq_true rfl⟩ (by decide) ?_
  refine ab_topi (v := (nI n)) (max0 (by omega)) ?_
  refine ab_putf (w1 := ([x0, ob 6 [.ref 2, .ref 3, .int (nI L), .int (nI n), .int f1_4, .int f1_5, .int f1_6], ba 700 r2, ia 4 r3, x4, x5, x6, ob 2 [.ref 8, .ref 9], ia 56 r8, ia 4 r9, x10, x11, x12, x13, x14, x15, x16, x17, x18, x19, x20, x21, x22, x23, x24, x25, x26, x27, x28, x29, x30, x31, x32], wm)) dX6_reads_13 fl_X6_23 rfl (Nat.le_of_ble_eq_true rfl) (fun _ => ⟨rfl, rfl⟩) rfl ?_
  refine ab_aload_n dX6_reads_16 rfl ?_
  refine ab_iconst (v := 0) dX6_reads_17 (by decide) ?_
  refine ab_putf (w1 := ([x0, ob 6 [.ref 2, .ref 3, .int 0, .int (nI n), .int f1_4, .int f1_5, .int f1_6], ba 700 r2, ia 4 r3, x4, x5, x6, ob 2 [.ref 8, .ref 9], ia 56 r8, ia 4 r9, x10, x11, x12, x13, x14, x15, x16, x17, x18, x19, x20, x21, x22, x23, x24, x25, x26, x27, x28, x29, x30, x31, x32], wm)) dX6_reads_18 fl_X6_19 rfl (Nat.le_of_ble_eq_true rfl) (fun _ => ⟨rfl, rfl⟩) rfl ?_
  refine ab_aload_n dX6_reads_21 rfl ?_
  refine ab_iconst (v := 0) dX6_reads_22 (by decide) ?_
  refine ab_putf (w1 := ([x0, ob 6 [.ref 2, .ref 3, .int 0, .int (nI n), .int 0, .int f1_5, .int f1_6], ba 700 r2, ia 4 r3, x4, x5, x6, ob 2 [.ref 8, .ref 9], ia 56 r8, ia 4 r9, x10, x11, x12, x13, x14, x15, x16, x17, x18, x19, x20, x21, x22, x23, x24, x25, x26, x27, x28, x29, x30, x31, x32], wm)) dX6_reads_23 fl_X6_26 rfl (Nat.le_of_ble_eq_true rfl) (fun _ => ⟨rfl, rfl⟩) rfl ?_
  refine ab_aload_n dX6_reads_26 rfl ?_
  refine ab_iconst (v := 0) dX6_reads_27 (by decide) ?_
  refine ab_putf (w1 := ([x0, ob 6 [.ref 2, .ref 3, .int 0, .int (nI n), .int 0, .int 0, .int f1_6], ba 700 r2, ia 4 r3, x4, x5, x6, ob 2 [.ref 8, .ref 9], ia 56 r8, ia 4 r9, x10, x11, x12, x13, x14, x15, x16, x17, x18, x19, x20, x21, x22, x23, x24, x25, x26, x27, x28, x29, x30, x31, x32], wm)) dX6_reads_28 fl_X6_29 rfl (Nat.le_of_ble_eq_true rfl) (fun _ => ⟨rfl, rfl⟩) rfl ?_
  refine ab_aload_n dX6_reads_31 rfl ?_
  refine ab_iconst (v := -1) dX6_reads_32 (by decide) ?_
  refine ab_putf (w1 := ([x0, ob 6 [.ref 2, .ref 3, .int 0, .int (nI n), .int 0, .int 0, .int (-1)], ba 700 r2, ia 4 r3, x4, x5, x6, ob 2 [.ref 8, .ref 9], ia 56 r8, ia 4 r9, x10, x11, x12, x13, x14, x15, x16, x17, x18, x19, x20, x21, x22, x23, x24, x25, x26, x27, x28, x29, x30, x31, x32], wm)) dX6_reads_33 fl_X6_32 rfl (Nat.le_of_ble_eq_true rfl) (fun _ => ⟨rfl, rfl⟩) rfl ?_
  refine ab_aload_n dX6_reads_36 rfl ?_
  refine ab_callV (As := []) (rest := []) dX6_reads_37 mv_X2_clear ml_X6_44 ⟨by decide, by decide, rfl, rfl, rfl⟩ (by decide) rfl rfl (Nat.le_of_ble_eq_true rfl) rfl c_X2_clear ?_
  rintro r w' ⟨rfl, rfl⟩
  refine ab_iconst (v := 0) dX6_reads_40 (by decide) ?_
  refine ab_istore_n (la' := [(3, .int 0), (0, .ref 1), (1, .int (nI n)), (2, .ref 7)]) dX6_reads_41 (by decide) rfl ?_
  refine ab_world ([x0, ob 6 [.ref 2, .ref 3, .int 0, .int (nI n), .int 0, .int 0, .int (-1)], ba 700 r2, ia 4 r3, x4, x5, x6, ob 2 [.ref 8, .ref 9], ia 56 r8, ia 4 (ovl (nIf (fun _ => 0)) 4 r9), x10, x11, x12, x13, x14, x15, x16, x17, x18, x19, x20, x21, x22, x23, x24, x25, x26, x27, x28, x29, x30, x31, x32], wm) rfl ?_
  refine ab_pick [0, 2, 3, 1] rfl ?_
  exact lp_reads h_n h_u (n + 1) 0 0 (fun _ => 0) (fun _ => 0) r3 r8 (by omega) (by omega) ⟨by decide, by decide, by decide, by decide⟩ (Ag_0 _ _) (fun e ga gr g8 gc z => Or.inl ⟨e, ga, gr, g8, gc, z, rfl, rfl⟩) (fun s ga gr g8 z hA hB => Or.inr ⟨s, ga, gr, g8, z, hA, hB, rfl, rfl⟩)
theorem c_X2_count_3s {x0 x1 x2 x3 x4 x5 x6 x10 x11 x12 x13 x14 x15 x16 x17 x18 x19 x20 x21 x22 x23 x24 x25 x26 x27 x28 x29 x30 x31 x32 : ax_E} {r8 r9 : Nat → Int32} {wm : List ax_E} {c : Nat → Nat} (hB : c 0 ≤ 4 ∧ c 1 ≤ 4 ∧ c 2 ≤ 8 ∧ c 3 ≤ 4) : Ct M_X2_count [.ref 7, .int 3] ([x0, x1, x2, x3, x4, x5, x6, ob 2 [.ref 8, .ref 9], ia 56 r8, ia 4 (ovl (nIf c) 4 r9), x10, x11, x12, x13, x14, x15, x16, x17, x18, x19, x20, x21, x22, x23, x24, x25, x26, x27, x28, x29, x30, x31, x32], wm) (fun r w' => r = some (.int (nI (c 3))) ∧ w' = ([x0, x1, x2, x3, x4, x5, x6, ob 2 [.ref 8, .ref 9], ia 56 r8, ia 4 (ovl (nIf c) 4 r9), x10, x11, x12, x13, x14, x15, x16, x17, x18, x19, x20, x21, x22, x23, x24, x25, x26, x27, x28, x29, x30, x31, x32], wm)) := by
  refine ct_of ⟨by decide, rfl⟩ (Nat.le_of_ble_eq_true rfl) ?_
  refine ab_iload_n dX2_count_0 rfl ?_
  refine ab_iflt 18 dX2_count_1 (by decide) (fun h_1 => absurd h_1 (by decide)) (fun h_1 => ?_)
  refine ab_iload_n dX2_count_4 rfl ?_
  refine ab_iconst (v := 4) dX2_count_5 (by decide) ?_
  refine ab_icmpge 18 dX2_count_6 (by decide) (fun h_2 => absurd h_2 (by decide)) (fun h_2 => ?_)
  refine ab_aload_n dX2_count_9 rfl ?_
  refine ab_getf dX2_count_10 fl_X2_15 rfl rfl ?_
  refine ab_iload_n dX2_count_13 rfl ?_
  refine ab_iald (j := 3) dX2_count_14 rfl (ix_c (by decide)) ?_
  refine ab_topi (v := (nI (c 3))) (ovl_lt (by decide)) ?_
  refine ab_goto 19 dX2_count_15 (by decide) ?_
  exact ab_iret dX2_count_19 rfl (by decide) (⟨rfl, rfl⟩)
theorem c_X2_has_3s {x0 x1 x2 x3 x4 x5 x6 x10 x11 x12 x13 x14 x15 x16 x17 x18 x19 x20 x21 x22 x23 x24 x25 x26 x27 x28 x29 x30 x31 x32 : ax_E} {r8 r9 : Nat → Int32} {wm : List ax_E} {c : Nat → Nat} {k : Nat} (hB : c 0 ≤ 4 ∧ c 1 ≤ 4 ∧ c 2 ≤ 8 ∧ c 3 ≤ 4) (hk : k < c 3) : Ct M_X2_has [.ref 7, .int 3, .int (nI k)] ([x0, x1, x2, x3, x4, x5, x6, ob 2 [.ref 8, .ref 9], ia 56 r8, ia 4 (ovl (nIf c) 4 r9), x10, x11, x12, x13, x14, x15, x16, x17, x18, x19, x20, x21, x22, x23, x24, x25, x26, x27, x28, x29, x30, x31, x32], wm) (fun r w' => r = some (.int 1) ∧ w' = ([x0, x1, x2, x3, x4, x5, x6, ob 2 [.ref 8, .ref 9], ia 56 r8, ia 4 (ovl (nIf c) 4 r9), x10, x11, x12, x13, x14, x15, x16, x17, x18, x19, x20, x21, x22, x23, x24, x25, x26, x27, x28, x29, x30, x31, x32], wm)) := by
  refine ct_of ⟨by decide, rfl⟩ (Nat.le_of_ble_eq_true rfl) ?_
  refine ab_iload_n dX2_has_0 rfl ?_
  refine ab_iflt 27 dX2_has_1 (by decide) (fun h_1 => absurd h_1 (by decide)) (fun h_1 => ?_)
  refine ab_iload_n dX2_has_4 rfl ?_
  refine ab_iconst (v := 4) dX2_has_5 (by decide) ?_
  refine ab_icmpge 27 dX2_has_6 (by decide) (fun h_2 => absurd h_2 (by decide)) (fun h_2 => ?_)
  refine ab_iload_n dX2_has_9 rfl ?_
  refine ab_iflt 27 dX2_has_10 (by decide) (fun h_3 => absurd h_3 (Int32.not_lt.mpr (nI_pos' (by omega)))) (fun h_3 => ?_)
  refine ab_iload_n dX2_has_13 rfl ?_
  refine ab_aload_n dX2_has_14 rfl ?_
  refine ab_getf dX2_has_15 fl_X2_15 rfl rfl ?_
  refine ab_iload_n dX2_has_18 rfl ?_
  refine ab_iald (j := 3) dX2_has_19 rfl (ix_c (by decide)) ?_
  refine ab_topi (v := (nI (c 3))) (ovl_lt (by decide)) ?_
  refine ab_icmpge 27 dX2_has_20 (by decide) (fun h_4 => absurd h_4 (nI_ge hk (by omega))) (fun h_4 => ?_)
  refine ab_iconst (v := 1) dX2_has_23 (by decide) ?_
  refine ab_goto 28 dX2_has_24 (by decide) ?_
  exact ab_zret dX2_has_28 rfl rfl (by decide) (⟨rfl, rfl⟩)
theorem c_X2_told_3s0 {x0 x1 x2 x3 x4 x5 x6 x10 x11 x12 x13 x14 x15 x16 x17 x18 x19 x20 x21 x22 x23 x24 x25 x26 x27 x28 x29 x30 x31 x32 : ax_E} {r8 r9 : Nat → Int32} {wm : List ax_E} {c : Nat → Nat} {k : Nat} (hB : c 0 ≤ 4 ∧ c 1 ≤ 4 ∧ c 2 ≤ 8 ∧ c 3 ≤ 4) (hk : k < c 3) : Ct M_X2_told [.ref 7, .int 3, .int (nI k), .int 0] ([x0, x1, x2, x3, x4, x5, x6, ob 2 [.ref 8, .ref 9], ia 56 r8, ia 4 (ovl (nIf c) 4 r9), x10, x11, x12, x13, x14, x15, x16, x17, x18, x19, x20, x21, x22, x23, x24, x25, x26, x27, x28, x29, x30, x31, x32], wm) (fun r w' => r = some (.int (r8 (40 + (k * 4)))) ∧ w' = ([x0, x1, x2, x3, x4, x5, x6, ob 2 [.ref 8, .ref 9], ia 56 r8, ia 4 (ovl (nIf c) 4 r9), x10, x11, x12, x13, x14, x15, x16, x17, x18, x19, x20, x21, x22, x23, x24, x25, x26, x27, x28, x29, x30, x31, x32], wm)) := by
  refine ct_of ⟨by decide, rfl⟩ (Nat.le_of_ble_eq_true rfl) ?_
  refine ab_aload_n dX2_told_0 rfl ?_
  refine ab_iload_n dX2_told_1 rfl ?_
  refine ab_iload_n dX2_told_2 rfl ?_
  refine ab_callV (As := [.int 3, .int (nI k)]) (rest := []) dX2_told_3 mv_X2_has ml_X2_27 ⟨by decide, by decide, rfl, rfl, rfl⟩ (by decide) rfl rfl (Nat.le_of_ble_eq_true rfl) rfl (c_X2_has_3s (c := c) (r9 := r9) (k := k) hB hk) ?_
  rintro r w' ⟨rfl, rfl⟩
  refine ab_ifeq 45 dX2_told_6 (by decide) (fun h_1 => absurd h_1 (by decide)) (fun h_1 => ?_)
  refine ab_iload_n dX2_told_9 rfl ?_
  refine ab_iflt 45 dX2_told_10 (by decide) (fun h_2 => absurd h_2 (by decide)) (fun h_2 => ?_)
  refine ab_iload_n dX2_told_13 rfl ?_
  refine ab_tbl (j := 3) dX2_told_14 rfl fs_X2_31 ?_
  refine ab_iload_n dX2_told_17 rfl ?_
  refine ab_tald (j := 3) (t := 3) (v := (ax_tab 3 3)) dX2_told_18 rfl (ix_c (by decide)) rfl ?_
  refine ab_topi (v := 4) (by decide) ?_
  refine ab_icmpge 45 dX2_told_19 (by decide) (fun h_3 => absurd h_3 (by decide)) (fun h_3 => ?_)
  refine ab_aload_n dX2_told_22 rfl ?_
  refine ab_getf dX2_told_23 fl_X2_11 rfl rfl ?_
  refine ab_tbl (j := 4) dX2_told_26 rfl fs_X2_34 ?_
  refine ab_iload_n dX2_told_29 rfl ?_
  refine ab_tald (j := 4) (t := 3) (v := (ax_tab 4 3)) dX2_told_30 rfl (ix_c (by decide)) rfl ?_
  refine ab_topi (v := 40) (by decide) ?_
  refine ab_iload_n dX2_told_31 rfl ?_
  refine ab_tbl (j := 3) dX2_told_32 rfl fs_X2_31 ?_
  refine ab_iload_n dX2_told_35 rfl ?_
  refine ab_tald (j := 3) (t := 3) (v := (ax_tab 3 3)) dX2_told_36 rfl (ix_c (by decide)) rfl ?_
  refine ab_topi (v := 4) (by decide) ?_
  refine ab_imul dX2_told_37 ?_
  refine ab_topi (v := (nI (k * 4))) (pk_mul _ 4) ?_
  refine ab_iadd dX2_told_38 ?_
  refine ab_topi (v := (nI (40 + (k * 4)))) (nI_add 40 _) ?_
  refine ab_iload_n dX2_told_39 rfl ?_
  refine ab_iadd dX2_told_40 ?_
  refine ab_topi (v := (nI (40 + (k * 4)))) (Int32.add_zero _) ?_
  refine ab_iald (j := (40 + (k * 4))) dX2_told_41 rfl (ix_nI (by omega) (by decide)) ?_
  refine ab_goto 46 dX2_told_42 (by decide) ?_
  exact ab_iret dX2_told_46 rfl (by decide) (⟨rfl, rfl⟩)
theorem c_X2_told_3s1 {x0 x1 x2 x3 x4 x5 x6 x10 x11 x12 x13 x14 x15 x16 x17 x18 x19 x20 x21 x22 x23 x24 x25 x26 x27 x28 x29 x30 x31 x32 : ax_E} {r8 r9 : Nat → Int32} {wm : List ax_E} {c : Nat → Nat} {k : Nat} (hB : c 0 ≤ 4 ∧ c 1 ≤ 4 ∧ c 2 ≤ 8 ∧ c 3 ≤ 4) (hk : k < c 3) : Ct M_X2_told [.ref 7, .int 3, .int (nI k), .int 1] ([x0, x1, x2, x3, x4, x5, x6, ob 2 [.ref 8, .ref 9], ia 56 r8, ia 4 (ovl (nIf c) 4 r9), x10, x11, x12, x13, x14, x15, x16, x17, x18, x19, x20, x21, x22, x23, x24, x25, x26, x27, x28, x29, x30, x31, x32], wm) (fun r w' => r = some (.int (r8 ((40 + (k * 4)) + 1))) ∧ w' = ([x0, x1, x2, x3, x4, x5, x6, ob 2 [.ref 8, .ref 9], ia 56 r8, ia 4 (ovl (nIf c) 4 r9), x10, x11, x12, x13, x14, x15, x16, x17, x18, x19, x20, x21, x22, x23, x24, x25, x26, x27, x28, x29, x30, x31, x32], wm)) := by
  refine ct_of ⟨by decide, rfl⟩ (Nat.le_of_ble_eq_true rfl) ?_
  refine ab_aload_n dX2_told_0 rfl ?_
  refine ab_iload_n dX2_told_1 rfl ?_
  refine ab_iload_n dX2_told_2 rfl ?_
  refine ab_callV (As := [.int 3, .int (nI k)]) (rest := []) dX2_told_3 mv_X2_has ml_X2_27 ⟨by decide, by decide, rfl, rfl, rfl⟩ (by decide) rfl rfl (Nat.le_of_ble_eq_true rfl) rfl (c_X2_has_3s (c := c) (r9 := r9) (k := k) hB hk) ?_
  rintro r w' ⟨rfl, rfl⟩
  refine ab_ifeq 45 dX2_told_6 (by decide) (fun h_1 => absurd h_1 (by decide)) (fun h_1 => ?_)
  refine ab_iload_n dX2_told_9 rfl ?_
  refine ab_iflt 45 dX2_told_10 (by decide) (fun h_2 => absurd h_2 (by decide)) (fun h_2 => ?_)
  refine ab_iload_n dX2_told_13 rfl ?_
  refine ab_tbl (j := 3) dX2_told_14 rfl fs_X2_31 ?_
  refine ab_iload_n dX2_told_17 rfl ?_
  refine ab_tald (j := 3) (t := 3) (v := (ax_tab 3 3)) dX2_told_18 rfl (ix_c (by decide)) rfl ?_
  refine ab_topi (v := 4) (by decide) ?_
  refine ab_icmpge 45 dX2_told_19 (by decide) (fun h_3 => absurd h_3 (by decide)) (fun h_3 => ?_)
  refine ab_aload_n dX2_told_22 rfl ?_
  refine ab_getf dX2_told_23 fl_X2_11 rfl rfl ?_
  refine ab_tbl (j := 4) dX2_told_26 rfl fs_X2_34 ?_
  refine ab_iload_n dX2_told_29 rfl ?_
  refine ab_tald (j := 4) (t := 3) (v := (ax_tab 4 3)) dX2_told_30 rfl (ix_c (by decide)) rfl ?_
  refine ab_topi (v := 40) (by decide) ?_
  refine ab_iload_n dX2_told_31 rfl ?_
  refine ab_tbl (j := 3) dX2_told_32 rfl fs_X2_31 ?_
  refine ab_iload_n dX2_told_35 rfl ?_
  refine ab_tald (j := 3) (t := 3) (v := (ax_tab 3 3)) dX2_told_36 rfl (ix_c (by decide)) rfl ?_
  refine ab_topi (v := 4) (by decide) ?_
  refine ab_imul dX2_told_37 ?_
  refine ab_topi (v := (nI (k * 4))) (pk_mul _ 4) ?_
  refine ab_iadd dX2_told_38 ?_
  refine ab_topi (v := (nI (40 + (k * 4)))) (nI_add 40 _) ?_
  refine ab_iload_n dX2_told_39 rfl ?_
  refine ab_iadd dX2_told_40 ?_
  refine ab_topi (v := (nI ((40 + (k * 4)) + 1))) (nI_1 _) ?_
  refine ab_iald (j := ((40 + (k * 4)) + 1)) dX2_told_41 rfl (ix_nI (by omega) (by decide)) ?_
  refine ab_goto 46 dX2_told_42 (by decide) ?_
  exact ab_iret dX2_told_46 rfl (by decide) (⟨rfl, rfl⟩)
theorem c_X2_told_3s2 {x0 x1 x2 x3 x4 x5 x6 x10 x11 x12 x13 x14 x15 x16 x17 x18 x19 x20 x21 x22 x23 x24 x25 x26 x27 x28 x29 x30 x31 x32 : ax_E} {r8 r9 : Nat → Int32} {wm : List ax_E} {c : Nat → Nat} {k : Nat} (hB : c 0 ≤ 4 ∧ c 1 ≤ 4 ∧ c 2 ≤ 8 ∧ c 3 ≤ 4) (hk : k < c 3) : Ct M_X2_told [.ref 7, .int 3, .int (nI k), .int 2] ([x0, x1, x2, x3, x4, x5, x6, ob 2 [.ref 8, .ref 9], ia 56 r8, ia 4 (ovl (nIf c) 4 r9), x10, x11, x12, x13, x14, x15, x16, x17, x18, x19, x20, x21, x22, x23, x24, x25, x26, x27, x28, x29, x30, x31, x32], wm) (fun r w' => r = some (.int (r8 ((40 + (k * 4)) + 2))) ∧ w' = ([x0, x1, x2, x3, x4, x5, x6, ob 2 [.ref 8, .ref 9], ia 56 r8, ia 4 (ovl (nIf c) 4 r9), x10, x11, x12, x13, x14, x15, x16, x17, x18, x19, x20, x21, x22, x23, x24, x25, x26, x27, x28, x29, x30, x31, x32], wm)) := by
  refine ct_of ⟨by decide, rfl⟩ (Nat.le_of_ble_eq_true rfl) ?_
  refine ab_aload_n dX2_told_0 rfl ?_
  refine ab_iload_n dX2_told_1 rfl ?_
  refine ab_iload_n dX2_told_2 rfl ?_
  refine ab_callV (As := [.int 3, .int (nI k)]) (rest := []) dX2_told_3 mv_X2_has ml_X2_27 ⟨by decide, by decide, rfl, rfl, rfl⟩ (by decide) rfl rfl (Nat.le_of_ble_eq_true rfl) rfl (c_X2_has_3s (c := c) (r9 := r9) (k := k) hB hk) ?_
  rintro r w' ⟨rfl, rfl⟩
  refine ab_ifeq 45 dX2_told_6 (by decide) (fun h_1 => absurd h_1 (by decide)) (fun h_1 => ?_)
  refine ab_iload_n dX2_told_9 rfl ?_
  refine ab_iflt 45 dX2_told_10 (by decide) (fun h_2 => absurd h_2 (by decide)) (fun h_2 => ?_)
  refine ab_iload_n dX2_told_13 rfl ?_
  refine ab_tbl (j := 3) dX2_told_14 rfl fs_X2_31 ?_
  refine ab_iload_n dX2_told_17 rfl ?_
  refine ab_tald (j := 3) (t := 3) (v := (ax_tab 3 3)) dX2_told_18 rfl (ix_c (by decide)) rfl ?_
  refine ab_topi (v := 4) (by decide) ?_
  refine ab_icmpge 45 dX2_told_19 (by decide) (fun h_3 => absurd h_3 (by decide)) (fun h_3 => ?_)
  refine ab_aload_n dX2_told_22 rfl ?_
  refine ab_getf dX2_told_23 fl_X2_11 rfl rfl ?_
  refine ab_tbl (j := 4) dX2_told_26 rfl fs_X2_34 ?_
  refine ab_iload_n dX2_told_29 rfl ?_
  refine ab_tald (j := 4) (t := 3) (v := (ax_tab 4 3)) dX2_told_30 rfl (ix_c (by decide)) rfl ?_
  refine ab_topi (v := 40) (by decide) ?_
  refine ab_iload_n dX2_told_31 rfl ?_
  refine ab_tbl (j := 3) dX2_told_32 rfl fs_X2_31 ?_
  refine ab_iload_n dX2_told_35 rfl ?_
  refine ab_tald (j := 3) (t := 3) (v := (ax_tab 3 3)) dX2_told_36 rfl (ix_c (by decide)) rfl ?_
  refine ab_topi (v := 4) (by decide) ?_
  refine ab_imul dX2_told_37 ?_
  refine ab_topi (v := (nI (k * 4))) (pk_mul _ 4) ?_
  refine ab_iadd dX2_told_38 ?_
  refine ab_topi (v := (nI (40 + (k * 4)))) (nI_add 40 _) ?_
  refine ab_iload_n dX2_told_39 rfl ?_
  refine ab_iadd dX2_told_40 ?_
  refine ab_topi (v := (nI ((40 + (k * 4)) + 2))) (nI_add _ 2) ?_
  refine ab_iald (j := ((40 + (k * 4)) + 2)) dX2_told_41 rfl (ix_nI (by omega) (by decide)) ?_
  refine ab_goto 46 dX2_told_42 (by decide) ?_
  exact ab_iret dX2_told_46 rfl (by decide) (⟨rfl, rfl⟩)
theorem c_X2_told_3s3 {x0 x1 x2 x3 x4 x5 x6 x10 x11 x12 x13 x14 x15 x16 x17 x18 x19 x20 x21 x22 x23 x24 x25 x26 x27 x28 x29 x30 x31 x32 : ax_E} {r8 r9 : Nat → Int32} {wm : List ax_E} {c : Nat → Nat} {k : Nat} (hB : c 0 ≤ 4 ∧ c 1 ≤ 4 ∧ c 2 ≤ 8 ∧ c 3 ≤ 4) (hk : k < c 3) : Ct M_X2_told [.ref 7, .int 3, .int (nI k), .int 3] ([x0, x1, x2, x3, x4, x5, x6, ob 2 [.ref 8, .ref 9], ia 56 r8, ia 4 (ovl (nIf c) 4 r9), x10, x11, x12, x13, x14, x15, x16, x17, x18, x19, x20, x21, x22, x23, x24, x25, x26, x27, x28, x29, x30, x31, x32], wm) (fun r w' => r = some (.int (r8 ((40 + (k * 4)) + 3))) ∧ w' = ([x0, x1, x2, x3, x4, x5, x6, ob 2 [.ref 8, .ref 9], ia 56 r8, ia 4 (ovl (nIf c) 4 r9), x10, x11, x12, x13, x14, x15, x16, x17, x18, x19, x20, x21, x22, x23, x24, x25, x26, x27, x28, x29, x30, x31, x32], wm)) := by
  refine ct_of ⟨by decide, rfl⟩ (Nat.le_of_ble_eq_true rfl) ?_
  refine ab_aload_n dX2_told_0 rfl ?_
  refine ab_iload_n dX2_told_1 rfl ?_
  refine ab_iload_n dX2_told_2 rfl ?_
  refine ab_callV (As := [.int 3, .int (nI k)]) (rest := []) dX2_told_3 mv_X2_has ml_X2_27 ⟨by decide, by decide, rfl, rfl, rfl⟩ (by decide) rfl rfl (Nat.le_of_ble_eq_true rfl) rfl (c_X2_has_3s (c := c) (r9 := r9) (k := k) hB hk) ?_
  rintro r w' ⟨rfl, rfl⟩
  refine ab_ifeq 45 dX2_told_6 (by decide) (fun h_1 => absurd h_1 (by decide)) (fun h_1 => ?_)
  refine ab_iload_n dX2_told_9 rfl ?_
  refine ab_iflt 45 dX2_told_10 (by decide) (fun h_2 => absurd h_2 (by decide)) (fun h_2 => ?_)
  refine ab_iload_n dX2_told_13 rfl ?_
  refine ab_tbl (j := 3) dX2_told_14 rfl fs_X2_31 ?_
  refine ab_iload_n dX2_told_17 rfl ?_
  refine ab_tald (j := 3) (t := 3) (v := (ax_tab 3 3)) dX2_told_18 rfl (ix_c (by decide)) rfl ?_
  refine ab_topi (v := 4) (by decide) ?_
  refine ab_icmpge 45 dX2_told_19 (by decide) (fun h_3 => absurd h_3 (by decide)) (fun h_3 => ?_)
  refine ab_aload_n dX2_told_22 rfl ?_
  refine ab_getf dX2_told_23 fl_X2_11 rfl rfl ?_
  refine ab_tbl (j := 4) dX2_told_26 rfl fs_X2_34 ?_
  refine ab_iload_n dX2_told_29 rfl ?_
  refine ab_tald (j := 4) (t := 3) (v := (ax_tab 4 3)) dX2_told_30 rfl (ix_c (by decide)) rfl ?_
  refine ab_topi (v := 40) (by decide) ?_
  refine ab_iload_n dX2_told_31 rfl ?_
  refine ab_tbl (j := 3) dX2_told_32 rfl fs_X2_31 ?_
  refine ab_iload_n dX2_told_35 rfl ?_
  refine ab_tald (j := 3) (t := 3) (v := (ax_tab 3 3)) dX2_told_36 rfl (ix_c (by decide)) rfl ?_
  refine ab_topi (v := 4) (by decide) ?_
  refine ab_imul dX2_told_37 ?_
  refine ab_topi (v := (nI (k * 4))) (pk_mul _ 4) ?_
  refine ab_iadd dX2_told_38 ?_
  refine ab_topi (v := (nI (40 + (k * 4)))) (nI_add 40 _) ?_
  refine ab_iload_n dX2_told_39 rfl ?_
  refine ab_iadd dX2_told_40 ?_
  refine ab_topi (v := (nI ((40 + (k * 4)) + 3))) (nI_add _ 3) ?_
  refine ab_iald (j := ((40 + (k * 4)) + 3)) dX2_told_41 rfl (ix_nI (by omega) (by decide)) ?_
  refine ab_goto 46 dX2_told_42 (by decide) ?_
  exact ab_iret dX2_told_46 rfl (by decide) (⟨rfl, rfl⟩)
def lp_take7_st (r8 : Nat → Int32) (k : Nat) (ca : Nat → Int64) (ar : Nat → Int64) (bo : Nat → Int64) (al : Nat → Int64) (u : Int64) : (Nat → Int64) × (Nat → Int64) × (Nat → Int64) × (Nat → Int64) × Int64 := ((vp_updL ca k (Int32.toInt64 ((((r8 ((40 + (k * 4)) + 1)) * (r8 ((40 + (k * 4)) + 1))) - ((r8 (40 + (k * 4))) * (r8 (40 + (k * 4))))) * (((r8 ((40 + (k * 4)) + 2)) * (r8 ((40 + (k * 4)) + 2))) + ((r8 ((40 + (k * 4)) + 3)) * (r8 ((40 + (k * 4)) + 3))))))), (vp_updL ar k (Int32.toInt64 ((((r8 ((40 + (k * 4)) + 3)) * (r8 ((40 + (k * 4)) + 3))) - ((r8 ((40 + (k * 4)) + 2)) * (r8 ((40 + (k * 4)) + 2)))) * (((r8 (40 + (k * 4))) * (r8 (40 + (k * 4)))) + ((r8 ((40 + (k * 4)) + 1)) * (r8 ((40 + (k * 4)) + 1))))))), (vp_updL bo k (Int32.toInt64 (((((r8 ((40 + (k * 4)) + 1)) * (r8 ((40 + (k * 4)) + 1))) - ((r8 (40 + (k * 4))) * (r8 (40 + (k * 4))))) * (((r8 ((40 + (k * 4)) + 3)) * (r8 ((40 + (k * 4)) + 3))) - ((r8 ((40 + (k * 4)) + 2)) * (r8 ((40 + (k * 4)) + 2))))) + (((2 * (r8 (40 + (k * 4)))) * (r8 ((40 + (k * 4)) + 1))) * ((2 * (r8 ((40 + (k * 4)) + 2))) * (r8 ((40 + (k * 4)) + 3))))))), (vp_updL al k (Int32.toInt64 ((((r8 (40 + (k * 4))) * (r8 (40 + (k * 4)))) + ((r8 ((40 + (k * 4)) + 1)) * (r8 ((40 + (k * 4)) + 1)))) * (((r8 ((40 + (k * 4)) + 2)) * (r8 ((40 + (k * 4)) + 2))) + ((r8 ((40 + (k * 4)) + 3)) * (r8 ((40 + (k * 4)) + 3))))))), (u * ((vp_updL al k (Int32.toInt64 ((((r8 (40 + (k * 4))) * (r8 (40 + (k * 4)))) + ((r8 ((40 + (k * 4)) + 1)) * (r8 ((40 + (k * 4)) + 1)))) * (((r8 ((40 + (k * 4)) + 2)) * (r8 ((40 + (k * 4)) + 2))) + ((r8 ((40 + (k * 4)) + 3)) * (r8 ((40 + (k * 4)) + 3))))))) k)))
set_option maxHeartbeats 400000 in
theorem lp_take7 {x0 x1 x2 x3 x4 x5 x6 x10 x11 x12 x13 x14 x15 x16 x17 x23 x24 x25 x26 x27 x28 x29 x30 x31 x32 : ax_E} {r8 r9 : Nat → Int32} {f18_8 f18_9 f18_10 : Int32} {f18_12 : Int64} {wm : List ax_E} {c : Nat → Nat} {Q : Option Value → ax_W → Prop} (hB : c 0 ≤ 4 ∧ c 1 ≤ 4 ∧ c 2 ≤ 8 ∧ c 3 ≤ 4) : ∀ (n k : Nat) (ca : Nat → Int64) (ar : Nat → Int64) (bo : Nat → Int64) (al : Nat → Int64) (u : Int64) , k + n = (c 3) → Ab M_X4_take Q (0, 0) 188 [(2, .int (nI (c 3))), (1, .ref 7), (0, .ref 18)] [] ([x0, x1, x2, x3, x4, x5, x6, ob 2 [.ref 8, .ref 9], ia 56 r8, ia 4 (ovl (nIf c) 4 r9), x10, x11, x12, x13, x14, x15, x16, x17, ob 4 [.ref 19, .ref 20, .ref 21, .ref 22, .ref 23, .ref 24, .int (nI (c 3)), .int 0, .int f18_8, .int f18_9, .int f18_10, .long ((itr (fun k s => lp_take7_st r8 k s.1 s.2.1 s.2.2.1 s.2.2.2.1 s.2.2.2.2) n k (ca, ar, bo, al, u)).2.2.2.2), .long f18_12], ja 4 ((itr (fun k s => lp_take7_st r8 k s.1 s.2.1 s.2.2.1 s.2.2.2.1 s.2.2.2.2) n k (ca, ar, bo, al, u)).1), ja 4 ((itr (fun k s => lp_take7_st r8 k s.1 s.2.1 s.2.2.1 s.2.2.2.1 s.2.2.2.2) n k (ca, ar, bo, al, u)).2.1), ja 4 ((itr (fun k s => lp_take7_st r8 k s.1 s.2.1 s.2.2.1 s.2.2.2.1 s.2.2.2.2) n k (ca, ar, bo, al, u)).2.2.1), ja 4 ((itr (fun k s => lp_take7_st r8 k s.1 s.2.1 s.2.2.1 s.2.2.2.1 s.2.2.2.2) n k (ca, ar, bo, al, u)).2.2.2.1), x23, x24, x25, x26, x27, x28, x29, x30, x31, x32], wm) → Ab M_X4_take Q (0, 0) 25 [(2, .int (nI k)), (1, .ref 7), (0, .ref 18)] [] ([x0, x1, x2, x3, x4, x5, x6, ob 2 [.ref 8, .ref 9], ia 56 r8, ia 4 (ovl (nIf c) 4 r9), x10, x11, x12, x13, x14, x15, x16, x17, ob 4 [.ref 19, .ref 20, .ref 21, .ref 22, .ref 23, .ref 24, .int (nI (c 3)), .int 0, .int f18_8, .int f18_9, .int f18_10, .long u, .long f18_12], ja 4 ca, ja 4 ar, ja 4 bo, ja 4 al, x23, x24, x25, x26, x27, x28, x29, x30, x31, x32], wm) := by
  intro n
  induction n with
  | zero =>
    intro k ca ar bo al u  hk hx
    rw [itr_0] at hx
    rw [show k = (c 3) by omega]
    refine ab_iload_n dX4_take_25 rfl ?_
    refine ab_aload_n dX4_take_26 rfl ?_
    refine ab_getf dX4_take_27 fl_X4_30 rfl rfl ?_
    refine ab_icmpge 188 dX4_take_30 (by decide) (fun h_1 => ?_) (fun h_1 => absurd (nI_le (b := (c 3)) (Nat.le_refl _) (by omega)) h_1)
    refine ab_pick [0, 1, 2] rfl ?_
    exact hx 
  | succ n ih =>
    intro k ca ar bo al u  hk hx
    refine ab_iload_n dX4_take_25 rfl ?_
    refine ab_aload_n dX4_take_26 rfl ?_
    refine ab_getf dX4_take_27 fl_X4_30 rfl rfl ?_
    refine ab_icmpge 188 dX4_take_30 (by decide) (fun h_1 => absurd h_1 (nI_ge (a := k) (b := (c 3)) (by omega) (by omega))) (fun h_1 => ?_)
    refine ab_aload_n dX4_take_33 rfl ?_
    refine ab_iconst (v := 3) dX4_take_34 (by decide) ?_
    refine ab_iload_n dX4_take_35 rfl ?_
    refine ab_iconst (v := 0) dX4_take_36 (by decide) ?_
    refine ab_callV (As := [.int 3, .int (nI k), .int 0]) (rest := []) dX4_take_37 mv_X2_told ml_X4_64 ⟨by decide, by decide, rfl, rfl, rfl⟩ (by decide) rfl rfl (Nat.le_of_ble_eq_true rfl) rfl (c_X2_told_3s0 (c := c) (r9 := r9) (k := k) hB (by omega)) ?_
    rintro r w' ⟨rfl, rfl⟩
    refine ab_istore_n (la' := [(3, .int (r8 (40 + (k * 4)))), (2, .int (nI k)), (1, .ref 7), (0, .ref 18)]) dX4_take_40 (by decide) rfl ?_
    refine ab_aload_n dX4_take_41 rfl ?_
    refine ab_iconst (v := 3) dX4_take_42 (by decide) ?_
    refine ab_iload_n dX4_take_43 rfl ?_
    refine ab_iconst (v := 1) dX4_take_44 (by decide) ?_
    refine ab_callV (As := [.int 3, .int (nI k), .int 1]) (rest := []) dX4_take_45 mv_X2_told ml_X4_64 ⟨by decide, by decide, rfl, rfl, rfl⟩ (by decide) rfl rfl (Nat.le_of_ble_eq_true rfl) rfl (c_X2_told_3s1 (c := c) (r9 := r9) (k := k) hB (by omega)) ?_
    rintro r w' ⟨rfl, rfl⟩
    refine ab_istore (la' := [(4, .int (r8 ((40 + (k * 4)) + 1))), (3, .int (r8 (40 + (k * 4)))), (2, .int (nI k)), (1, .ref 7), (0, .ref 18)]) dX4_take_48 (by decide) rfl ?_
    refine ab_aload_n dX4_take_50 rfl ?_
    refine ab_iconst (v := 3) dX4_take_51 (by decide) ?_
    refine ab_iload_n dX4_take_52 rfl ?_
    refine ab_iconst (v := 2) dX4_take_53 (by decide) ?_
    refine ab_callV (As := [.int 3, .int (nI k), .int 2]) (rest := []) dX4_take_54 mv_X2_told ml_X4_64 ⟨by decide, by decide, rfl, rfl, rfl⟩ (by decide) rfl rfl (Nat.le_of_ble_eq_true rfl) rfl (c_X2_told_3s2 (c := c) (r9 := r9) (k := k) hB (by omega)) ?_
    rintro r w' ⟨rfl, rfl⟩
    refine ab_istore (la' := [(5, .int (r8 ((40 + (k * 4)) + 2))), (4, .int (r8 ((40 + (k * 4)) + 1))), (3, .int (r8 (40 + (k * 4)))), (2, .int (nI k)), (1, .ref 7), (0, .ref 18)]) dX4_take_57 (by decide) rfl ?_
    refine ab_aload_n dX4_take_59 rfl ?_
    refine ab_iconst (v := 3) dX4_take_60 (by decide) ?_
    refine ab_iload_n dX4_take_61 rfl ?_
    refine ab_iconst (v := 3) dX4_take_62 (by decide) ?_
    refine ab_callV (As := [.int 3, .int (nI k), .int 3]) (rest := []) dX4_take_63 mv_X2_told ml_X4_64 ⟨by decide, by decide, rfl, rfl, rfl⟩ (by decide) rfl rfl (Nat.le_of_ble_eq_true rfl) rfl (c_X2_told_3s3 (c := c) (r9 := r9) (k := k) hB (by omega)) ?_
    rintro r w' ⟨rfl, rfl⟩
    refine ab_istore (la' := [(6, .int (r8 ((40 + (k * 4)) + 3))), (5, .int (r8 ((40 + (k * 4)) + 2))), (4, .int (r8 ((40 + (k * 4)) + 1))), (3, .int (r8 (40 + (k * 4)))), (2, .int (nI k)), (1, .ref 7), (0, .ref 18)]) dX4_take_66 (by decide) rfl ?_
    refine ab_aload_n dX4_take_68 rfl ?_
    refine ab_getf dX4_take_69 fl_X4_11 rfl rfl ?_
    refine ab_iload_n dX4_take_72 rfl ?_
    refine ab_iload_n dX4_take_73 rfl ?_
    refine ab_iload dX4_take_74 rfl ?_
    refine ab_callS (As := [.int (r8 (40 + (k * 4))), .int (r8 ((40 + (k * 4)) + 1))]) (rest := [.int (nI k), .ref 19]) dX4_take_76 ms_X7_cosine ml_X4_68 ⟨by decide, by decide, rfl, rfl, rfl⟩ (by decide) rfl rfl (Nat.le_of_ble_eq_true rfl) c_X7_cosine ?_
    rintro r w' ⟨rfl, rfl⟩
    refine ab_iload dX4_take_79 rfl ?_
    refine ab_iload dX4_take_81 rfl ?_
    refine ab_callS (As := [.int (r8 ((40 + (k * 4)) + 2)), .int (r8 ((40 + (k * 4)) + 3))]) (rest := [.int (((r8 ((40 + (k * 4)) + 1)) * (r8 ((40 + (k * 4)) + 1))) - ((r8 (40 + (k * 4))) * (r8 (40 + (k * 4))))), .int (nI k), .ref 19]) dX4_take_83 ms_X7_norm ml_X4_73 ⟨by decide, by decide, rfl, rfl, rfl⟩ (by decide) rfl rfl (Nat.le_of_ble_eq_true rfl) c_X7_norm ?_
    rintro r w' ⟨rfl, rfl⟩
    refine ab_imul dX4_take_86 ?_
    refine ab_i2l dX4_take_87 ?_
    refine ab_last (w1 := ([x0, x1, x2, x3, x4, x5, x6, ob 2 [.ref 8, .ref 9], ia 56 r8, ia 4 (ovl (nIf c) 4 r9), x10, x11, x12, x13, x14, x15, x16, x17, ob 4 [.ref 19, .ref 20, .ref 21, .ref 22, .ref 23, .ref 24, .int (nI (c 3)), .int 0, .int f18_8, .int f18_9, .int f18_10, .long u, .long f18_12], ja 4 (vp_updL ca k (Int32.toInt64 ((((r8 ((40 + (k * 4)) + 1)) * (r8 ((40 + (k * 4)) + 1))) - ((r8 (40 + (k * 4))) * (r8 (40 + (k * 4))))) * (((r8 ((40 + (k * 4)) + 2)) * (r8 ((40 + (k * 4)) + 2))) + ((r8 ((40 + (k * 4)) + 3)) * (r8 ((40 + (k * 4)) + 3))))))), ja 4 ar, ja 4 bo, ja 4 al, x23, x24, x25, x26, x27, x28, x29, x30, x31, x32], wm)) dX4_take_88 rfl (ix_nI (by omega) (by decide)) rfl ?_
    refine ab_aload_n dX4_take_89 rfl ?_
    refine ab_getf dX4_take_90 fl_X4_15 rfl rfl ?_
    refine ab_iload_n dX4_take_93 rfl ?_
    refine ab_iload dX4_take_94 rfl ?_
    refine ab_iload dX4_take_96 rfl ?_
    refine ab_callS (As := [.int (r8 ((40 + (k * 4)) + 2)), .int (r8 ((40 + (k * 4)) + 3))]) (rest := [.int (nI k), .ref 20]) dX4_take_98 ms_X7_cosine ml_X4_68 ⟨by decide, by decide, rfl, rfl, rfl⟩ (by decide) rfl rfl (Nat.le_of_ble_eq_true rfl) c_X7_cosine ?_
    rintro r w' ⟨rfl, rfl⟩
    refine ab_iload_n dX4_take_101 rfl ?_
    refine ab_iload dX4_take_102 rfl ?_
    refine ab_callS (As := [.int (r8 (40 + (k * 4))), .int (r8 ((40 + (k * 4)) + 1))]) (rest := [.int (((r8 ((40 + (k * 4)) + 3)) * (r8 ((40 + (k * 4)) + 3))) - ((r8 ((40 + (k * 4)) + 2)) * (r8 ((40 + (k * 4)) + 2)))), .int (nI k), .ref 20]) dX4_take_104 ms_X7_norm ml_X4_73 ⟨by decide, by decide, rfl, rfl, rfl⟩ (by decide) rfl rfl (Nat.le_of_ble_eq_true rfl) c_X7_norm ?_
    rintro r w' ⟨rfl, rfl⟩
    refine ab_imul dX4_take_107 ?_
    refine ab_i2l dX4_take_108 ?_
    refine ab_last (w1 := ([x0, x1, x2, x3, x4, x5, x6, ob 2 [.ref 8, .ref 9], ia 56 r8, ia 4 (ovl (nIf c) 4 r9), x10, x11, x12, x13, x14, x15, x16, x17, ob 4 [.ref 19, .ref 20, .ref 21, .ref 22, .ref 23, .ref 24, .int (nI (c 3)), .int 0, .int f18_8, .int f18_9, .int f18_10, .long u, .long f18_12], ja 4 (vp_updL ca k (Int32.toInt64 ((((r8 ((40 + (k * 4)) + 1)) * (r8 ((40 + (k * 4)) + 1))) - ((r8 (40 + (k * 4))) * (r8 (40 + (k * 4))))) * (((r8 ((40 + (k * 4)) + 2)) * (r8 ((40 + (k * 4)) + 2))) + ((r8 ((40 + (k * 4)) + 3)) * (r8 ((40 + (k * 4)) + 3))))))), ja 4 (vp_updL ar k (Int32.toInt64 ((((r8 ((40 + (k * 4)) + 3)) * (r8 ((40 + (k * 4)) + 3))) - ((r8 ((40 + (k * 4)) + 2)) * (r8 ((40 + (k * 4)) + 2)))) * (((r8 (40 + (k * 4))) * (r8 (40 + (k * 4)))) + ((r8 ((40 + (k * 4)) + 1)) * (r8 ((40 + (k * 4)) + 1))))))), ja 4 bo, ja 4 al, x23, x24, x25, x26, x27, x28, x29, x30, x31, x32], wm)) dX4_take_109 rfl (ix_nI (by omega) (by decide)) rfl ?_
    refine ab_aload_n dX4_take_110 rfl ?_
    refine ab_getf dX4_take_111 fl_X4_18 rfl rfl ?_
    refine ab_iload_n dX4_take_114 rfl ?_
    refine ab_iload_n dX4_take_115 rfl ?_
    refine ab_iload dX4_take_116 rfl ?_
    refine ab_callS (As := [.int (r8 (40 + (k * 4))), .int (r8 ((40 + (k * 4)) + 1))]) (rest := [.int (nI k), .ref 21]) dX4_take_118 ms_X7_cosine ml_X4_68 ⟨by decide, by decide, rfl, rfl, rfl⟩ (by decide) rfl rfl (Nat.le_of_ble_eq_true rfl) c_X7_cosine ?_
    rintro r w' ⟨rfl, rfl⟩
    refine ab_iload dX4_take_121 rfl ?_
    refine ab_iload dX4_take_123 rfl ?_
    refine ab_callS (As := [.int (r8 ((40 + (k * 4)) + 2)), .int (r8 ((40 + (k * 4)) + 3))]) (rest := [.int (((r8 ((40 + (k * 4)) + 1)) * (r8 ((40 + (k * 4)) + 1))) - ((r8 (40 + (k * 4))) * (r8 (40 + (k * 4))))), .int (nI k), .ref 21]) dX4_take_125 ms_X7_cosine ml_X4_68 ⟨by decide, by decide, rfl, rfl, rfl⟩ (by decide) rfl rfl (Nat.le_of_ble_eq_true rfl) c_X7_cosine ?_
    rintro r w' ⟨rfl, rfl⟩
    refine ab_imul dX4_take_128 ?_
    refine ab_iload_n dX4_take_129 rfl ?_
    refine ab_iload dX4_take_130 rfl ?_
    refine ab_callS (As := [.int (r8 (40 + (k * 4))), .int (r8 ((40 + (k * 4)) + 1))]) (rest := [.int ((((r8 ((40 + (k * 4)) + 1)) * (r8 ((40 + (k * 4)) + 1))) - ((r8 (40 + (k * 4))) * (r8 (40 + (k * 4))))) * (((r8 ((40 + (k * 4)) + 3)) * (r8 ((40 + (k * 4)) + 3))) - ((r8 ((40 + (k * 4)) + 2)) * (r8 ((40 + (k * 4)) + 2))))), .int (nI k), .ref 21]) dX4_take_132 ms_X7_sine ml_X4_76 ⟨by decide, by decide, rfl, rfl, rfl⟩ (by decide) rfl rfl (Nat.le_of_ble_eq_true rfl) c_X7_sine ?_
    rintro r w' ⟨rfl, rfl⟩
    refine ab_iload dX4_take_135 rfl ?_
    refine ab_iload dX4_take_137 rfl ?_
    refine ab_callS (As := [.int (r8 ((40 + (k * 4)) + 2)), .int (r8 ((40 + (k * 4)) + 3))]) (rest := [.int ((2 * (r8 (40 + (k * 4)))) * (r8 ((40 + (k * 4)) + 1))), .int ((((r8 ((40 + (k * 4)) + 1)) * (r8 ((40 + (k * 4)) + 1))) - ((r8 (40 + (k * 4))) * (r8 (40 + (k * 4))))) * (((r8 ((40 + (k * 4)) + 3)) * (r8 ((40 + (k * 4)) + 3))) - ((r8 ((40 + (k * 4)) + 2)) * (r8 ((40 + (k * 4)) + 2))))), .int (nI k), .ref 21]) dX4_take_139 ms_X7_sine ml_X4_76 ⟨by decide, by decide, rfl, rfl, rfl⟩ (by decide) rfl rfl (Nat.le_of_ble_eq_true rfl) c_X7_sine ?_
    rintro r w' ⟨rfl, rfl⟩
    refine ab_imul dX4_take_142 ?_
    refine ab_iadd dX4_take_143 ?_
    refine ab_i2l dX4_take_144 ?_
    refine ab_last (w1 := ([x0, x1, x2, x3, x4, x5, x6, ob 2 [.ref 8, .ref 9], ia 56 r8, ia 4 (ovl (nIf c) 4 r9), x10, x11, x12, x13, x14, x15, x16, x17, ob 4 [.ref 19, .ref 20, .ref 21, .ref 22, .ref 23, .ref 24, .int (nI (c 3)), .int 0, .int f18_8, .int f18_9, .int f18_10, .long u, .long f18_12], ja 4 (vp_updL ca k (Int32.toInt64 ((((r8 ((40 + (k * 4)) + 1)) * (r8 ((40 + (k * 4)) + 1))) - ((r8 (40 + (k * 4))) * (r8 (40 + (k * 4))))) * (((r8 ((40 + (k * 4)) + 2)) * (r8 ((40 + (k * 4)) + 2))) + ((r8 ((40 + (k * 4)) + 3)) * (r8 ((40 + (k * 4)) + 3))))))), ja 4 (vp_updL ar k (Int32.toInt64 ((((r8 ((40 + (k * 4)) + 3)) * (r8 ((40 + (k * 4)) + 3))) - ((r8 ((40 + (k * 4)) + 2)) * (r8 ((40 + (k * 4)) + 2)))) * (((r8 (40 + (k * 4))) * (r8 (40 + (k * 4)))) + ((r8 ((40 + (k * 4)) + 1)) * (r8 ((40 + (k * 4)) + 1))))))), ja 4 (vp_updL bo k (Int32.toInt64 (((((r8 ((40 + (k * 4)) + 1)) * (r8 ((40 + (k * 4)) + 1))) - ((r8 (40 + (k * 4))) * (r8 (40 + (k * 4))))) * (((r8 ((40 + (k * 4)) + 3)) * (r8 ((40 + (k * 4)) + 3))) - ((r8 ((40 + (k * 4)) + 2)) * (r8 ((40 + (k * 4)) + 2))))) + (((2 * (r8 (40 + (k * 4)))) * (r8 ((40 + (k * 4)) + 1))) * ((2 * (r8 ((40 + (k * 4)) + 2))) * (r8 ((40 + (k * 4)) + 3))))))), ja 4 al, x23, x24, x25, x26, x27, x28, x29, x30, x31, x32], wm)) dX4_take_145 rfl (ix_nI (by omega) (by decide)) rfl ?_
    refine ab_aload_n dX4_take_146 rfl ?_
    refine ab_getf dX4_take_147 fl_X4_21 rfl rfl ?_
    refine ab_iload_n dX4_take_150 rfl ?_
    refine ab_iload_n dX4_take_151 rfl ?_
    refine ab_iload dX4_take_152 rfl ?_
    refine ab_callS (As := [.int (r8 (40 + (k * 4))), .int (r8 ((40 + (k * 4)) + 1))]) (rest := [.int (nI k), .ref 22]) dX4_take_154 ms_X7_norm ml_X4_73 ⟨by decide, by decide, rfl, rfl, rfl⟩ (by decide) rfl rfl (Nat.le_of_ble_eq_true rfl) c_X7_norm ?_
    rintro r w' ⟨rfl, rfl⟩
    refine ab_iload dX4_take_157 rfl ?_
    refine ab_iload dX4_take_159 rfl ?_
    refine ab_callS (As := [.int (r8 ((40 + (k * 4)) + 2)), .int (r8 ((40 + (k * 4)) + 3))]) (rest := [.int (((r8 (40 + (k * 4))) * (r8 (40 + (k * 4)))) + ((r8 ((40 + (k * 4)) + 1)) * (r8 ((40 + (k * 4)) + 1)))), .int (nI k), .ref 22]) dX4_take_161 ms_X7_norm ml_X4_73 ⟨by decide, by decide, rfl, rfl, rfl⟩ (by decide) rfl rfl (Nat.le_of_ble_eq_true rfl) c_X7_norm ?_
    rintro r w' ⟨rfl, rfl⟩
    refine ab_imul dX4_take_164 ?_
    refine ab_i2l dX4_take_165 ?_
    refine ab_last (w1 := ([x0, x1, x2, x3, x4, x5, x6, ob 2 [.ref 8, .ref 9], ia 56 r8, ia 4 (ovl (nIf c) 4 r9), x10, x11, x12, x13, x14, x15, x16, x17, ob 4 [.ref 19, .ref 20, .ref 21, .ref 22, .ref 23, .ref 24, .int (nI (c 3)), .int 0, .int f18_8, .int f18_9, .int f18_10, .long u, .long f18_12], ja 4 (vp_updL ca k (Int32.toInt64 ((((r8 ((40 + (k * 4)) + 1)) * (r8 ((40 + (k * 4)) + 1))) - ((r8 (40 + (k * 4))) * (r8 (40 + (k * 4))))) * (((r8 ((40 + (k * 4)) + 2)) * (r8 ((40 + (k * 4)) + 2))) + ((r8 ((40 + (k * 4)) + 3)) * (r8 ((40 + (k * 4)) + 3))))))), ja 4 (vp_updL ar k (Int32.toInt64 ((((r8 ((40 + (k * 4)) + 3)) * (r8 ((40 + (k * 4)) + 3))) - ((r8 ((40 + (k * 4)) + 2)) * (r8 ((40 + (k * 4)) + 2)))) * (((r8 (40 + (k * 4))) * (r8 (40 + (k * 4)))) + ((r8 ((40 + (k * 4)) + 1)) * (r8 ((40 + (k * 4)) + 1))))))), ja 4 (vp_updL bo k (Int32.toInt64 (((((r8 ((40 + (k * 4)) + 1)) * (r8 ((40 + (k * 4)) + 1))) - ((r8 (40 + (k * 4))) * (r8 (40 + (k * 4))))) * (((r8 ((40 + (k * 4)) + 3)) * (r8 ((40 + (k * 4)) + 3))) - ((r8 ((40 + (k * 4)) + 2)) * (r8 ((40 + (k * 4)) + 2))))) + (((2 * (r8 (40 + (k * 4)))) * (r8 ((40 + (k * 4)) + 1))) * ((2 * (r8 ((40 + (k * 4)) + 2))) * (r8 ((40 + (k * 4)) + 3))))))), ja 4 (vp_updL al k (Int32.toInt64 ((((r8 (40 + (k * 4))) * (r8 (40 + (k * 4)))) + ((r8 ((40 + (k * 4)) + 1)) * (r8 ((40 + (k * 4)) + 1)))) * (((r8 ((40 + (k * 4)) + 2)) * (r8 ((40 + (k * 4)) + 2))) + ((r8 ((40 + (k * 4)) + 3)) * (r8 ((40 + (k * 4)) + 3))))))), x23, x24, x25, x26, x27, x28, x29, x30, x31, x32], wm)) dX4_take_166 rfl (ix_nI (by omega) (by decide)) rfl ?_
    refine ab_aload_n dX4_take_167 rfl ?_
    refine ab_dup rfl dX4_take_168 ?_
    refine ab_getf dX4_take_169 fl_X4_46 rfl rfl ?_
    refine ab_aload_n dX4_take_172 rfl ?_
    refine ab_getf dX4_take_173 fl_X4_21 rfl rfl ?_
    refine ab_iload_n dX4_take_176 rfl ?_
    refine ab_lald (j := k) dX4_take_177 rfl (ix_nI (by omega) (by decide)) ?_
    refine ab_lmul dX4_take_178 ?_
    refine ab_putf (w1 := ([x0, x1, x2, x3, x4, x5, x6, ob 2 [.ref 8, .ref 9], ia 56 r8, ia 4 (ovl (nIf c) 4 r9), x10, x11, x12, x13, x14, x15, x16, x17, ob 4 [.ref 19, .ref 20, .ref 21, .ref 22, .ref 23, .ref 24, .int (nI (c 3)), .int 0, .int f18_8, .int f18_9, .int f18_10, .long (u * ((vp_updL al k (Int32.toInt64 ((((r8 (40 + (k * 4))) * (r8 (40 + (k * 4)))) + ((r8 ((40 + (k * 4)) + 1)) * (r8 ((40 + (k * 4)) + 1)))) * (((r8 ((40 + (k * 4)) + 2)) * (r8 ((40 + (k * 4)) + 2))) + ((r8 ((40 + (k * 4)) + 3)) * (r8 ((40 + (k * 4)) + 3))))))) k)), .long f18_12], ja 4 (vp_updL ca k (Int32.toInt64 ((((r8 ((40 + (k * 4)) + 1)) * (r8 ((40 + (k * 4)) + 1))) - ((r8 (40 + (k * 4))) * (r8 (40 + (k * 4))))) * (((r8 ((40 + (k * 4)) + 2)) * (r8 ((40 + (k * 4)) + 2))) + ((r8 ((40 + (k * 4)) + 3)) * (r8 ((40 + (k * 4)) + 3))))))), ja 4 (vp_updL ar k (Int32.toInt64 ((((r8 ((40 + (k * 4)) + 3)) * (r8 ((40 + (k * 4)) + 3))) - ((r8 ((40 + (k * 4)) + 2)) * (r8 ((40 + (k * 4)) + 2)))) * (((r8 (40 + (k * 4))) * (r8 (40 + (k * 4)))) + ((r8 ((40 + (k * 4)) + 1)) * (r8 ((40 + (k * 4)) + 1))))))), ja 4 (vp_updL bo k (Int32.toInt64 (((((r8 ((40 + (k * 4)) + 1)) * (r8 ((40 + (k * 4)) + 1))) - ((r8 (40 + (k * 4))) * (r8 (40 + (k * 4))))) * (((r8 ((40 + (k * 4)) + 3)) * (r8 ((40 + (k * 4)) + 3))) - ((r8 ((40 + (k * 4)) + 2)) * (r8 ((40 + (k * 4)) + 2))))) + (((2 * (r8 (40 + (k * 4)))) * (r8 ((40 + (k * 4)) + 1))) * ((2 * (r8 ((40 + (k * 4)) + 2))) * (r8 ((40 + (k * 4)) + 3))))))), ja 4 (vp_updL al k (Int32.toInt64 ((((r8 (40 + (k * 4))) * (r8 (40 + (k * 4)))) + ((r8 ((40 + (k * 4)) + 1)) * (r8 ((40 + (k * 4)) + 1)))) * (((r8 ((40 + (k * 4)) + 2)) * (r8 ((40 + (k * 4)) + 2))) + ((r8 ((40 + (k * 4)) + 3)) * (r8 ((40 + (k * 4)) + 3))))))), x23, x24, x25, x26, x27, x28, x29, x30, x31, x32], wm)) dX4_take_179 fl_X4_46 rfl (Nat.le_of_ble_eq_true rfl) (fun _ => ⟨rfl, rfl⟩) rfl ?_
    refine ab_iinc (v := (nI (k + 1))) (la' := [(2, .int (nI (k + 1))), (6, .int (r8 ((40 + (k * 4)) + 3))), (5, .int (r8 ((40 + (k * 4)) + 2))), (4, .int (r8 ((40 + (k * 4)) + 1))), (3, .int (r8 (40 + (k * 4)))), (1, .ref 7), (0, .ref 18)]) dX4_take_182 rfl (nI_1 _) (by decide) rfl ?_
    refine ab_goto 25 dX4_take_185 (by decide) ?_
    refine ab_pick [0, 5, 6] rfl ?_
    rw [(itr_s (fun k s => lp_take7_st r8 k s.1 s.2.1 s.2.2.1 s.2.2.2.1 s.2.2.2.2) n k (ca, ar, bo, al, u)).trans (congrArg (itr (fun k s => lp_take7_st r8 k s.1 s.2.1 s.2.2.1 s.2.2.2.1 s.2.2.2.2) n (k + 1)) (show lp_take7_st r8 k ca ar bo al u = ((vp_updL ca k (Int32.toInt64 ((((r8 ((40 + (k * 4)) + 1)) * (r8 ((40 + (k * 4)) + 1))) - ((r8 (40 + (k * 4))) * (r8 (40 + (k * 4))))) * (((r8 ((40 + (k * 4)) + 2)) * (r8 ((40 + (k * 4)) + 2))) + ((r8 ((40 + (k * 4)) + 3)) * (r8 ((40 + (k * 4)) + 3))))))), (vp_updL ar k (Int32.toInt64 ((((r8 ((40 + (k * 4)) + 3)) * (r8 ((40 + (k * 4)) + 3))) - ((r8 ((40 + (k * 4)) + 2)) * (r8 ((40 + (k * 4)) + 2)))) * (((r8 (40 + (k * 4))) * (r8 (40 + (k * 4)))) + ((r8 ((40 + (k * 4)) + 1)) * (r8 ((40 + (k * 4)) + 1))))))), (vp_updL bo k (Int32.toInt64 (((((r8 ((40 + (k * 4)) + 1)) * (r8 ((40 + (k * 4)) + 1))) - ((r8 (40 + (k * 4))) * (r8 (40 + (k * 4))))) * (((r8 ((40 + (k * 4)) + 3)) * (r8 ((40 + (k * 4)) + 3))) - ((r8 ((40 + (k * 4)) + 2)) * (r8 ((40 + (k * 4)) + 2))))) + (((2 * (r8 (40 + (k * 4)))) * (r8 ((40 + (k * 4)) + 1))) * ((2 * (r8 ((40 + (k * 4)) + 2))) * (r8 ((40 + (k * 4)) + 3))))))), (vp_updL al k (Int32.toInt64 ((((r8 (40 + (k * 4))) * (r8 (40 + (k * 4)))) + ((r8 ((40 + (k * 4)) + 1)) * (r8 ((40 + (k * 4)) + 1)))) * (((r8 ((40 + (k * 4)) + 2)) * (r8 ((40 + (k * 4)) + 2))) + ((r8 ((40 + (k * 4)) + 3)) * (r8 ((40 + (k * 4)) + 3))))))), (u * ((vp_updL al k (Int32.toInt64 ((((r8 (40 + (k * 4))) * (r8 (40 + (k * 4)))) + ((r8 ((40 + (k * 4)) + 1)) * (r8 ((40 + (k * 4)) + 1)))) * (((r8 ((40 + (k * 4)) + 2)) * (r8 ((40 + (k * 4)) + 2))) + ((r8 ((40 + (k * 4)) + 3)) * (r8 ((40 + (k * 4)) + 3))))))) k))) from rfl))] at hx
    exact ih (k + 1) (vp_updL ca k (Int32.toInt64 ((((r8 ((40 + (k * 4)) + 1)) * (r8 ((40 + (k * 4)) + 1))) - ((r8 (40 + (k * 4))) * (r8 (40 + (k * 4))))) * (((r8 ((40 + (k * 4)) + 2)) * (r8 ((40 + (k * 4)) + 2))) + ((r8 ((40 + (k * 4)) + 3)) * (r8 ((40 + (k * 4)) + 3))))))) (vp_updL ar k (Int32.toInt64 ((((r8 ((40 + (k * 4)) + 3)) * (r8 ((40 + (k * 4)) + 3))) - ((r8 ((40 + (k * 4)) + 2)) * (r8 ((40 + (k * 4)) + 2)))) * (((r8 (40 + (k * 4))) * (r8 (40 + (k * 4)))) + ((r8 ((40 + (k * 4)) + 1)) * (r8 ((40 + (k * 4)) + 1))))))) (vp_updL bo k (Int32.toInt64 (((((r8 ((40 + (k * 4)) + 1)) * (r8 ((40 + (k * 4)) + 1))) - ((r8 (40 + (k * 4))) * (r8 (40 + (k * 4))))) * (((r8 ((40 + (k * 4)) + 3)) * (r8 ((40 + (k * 4)) + 3))) - ((r8 ((40 + (k * 4)) + 2)) * (r8 ((40 + (k * 4)) + 2))))) + (((2 * (r8 (40 + (k * 4)))) * (r8 ((40 + (k * 4)) + 1))) * ((2 * (r8 ((40 + (k * 4)) + 2))) * (r8 ((40 + (k * 4)) + 3))))))) (vp_updL al k (Int32.toInt64 ((((r8 (40 + (k * 4))) * (r8 (40 + (k * 4)))) + ((r8 ((40 + (k * 4)) + 1)) * (r8 ((40 + (k * 4)) + 1)))) * (((r8 ((40 + (k * 4)) + 2)) * (r8 ((40 + (k * 4)) + 2))) + ((r8 ((40 + (k * 4)) + 3)) * (r8 ((40 + (k * 4)) + 3))))))) (u * ((vp_updL al k (Int32.toInt64 ((((r8 (40 + (k * 4))) * (r8 (40 + (k * 4)))) + ((r8 ((40 + (k * 4)) + 1)) * (r8 ((40 + (k * 4)) + 1)))) * (((r8 ((40 + (k * 4)) + 2)) * (r8 ((40 + (k * 4)) + 2))) + ((r8 ((40 + (k * 4)) + 3)) * (r8 ((40 + (k * 4)) + 3))))))) k))  (by omega) hx
theorem c_X4_take_7 {x0 x1 x2 x3 x4 x5 x6 x10 x11 x12 x13 x14 x15 x16 x17 x23 x24 x25 x26 x27 x28 x29 x30 x31 x32 : ax_E} {r8 r9 : Nat → Int32} {f18_6 f18_7 f18_8 f18_9 f18_10 : Int32} {f18_11 f18_12 : Int64} {r19 r20 r21 r22 : Nat → Int64} {wm : List ax_E} {c : Nat → Nat} (hB : c 0 ≤ 4 ∧ c 1 ≤ 4 ∧ c 2 ≤ 8 ∧ c 3 ≤ 4) : Ct M_X4_take [.ref 18, .ref 7] ([x0, x1, x2, x3, x4, x5, x6, ob 2 [.ref 8, .ref 9], ia 56 r8, ia 4 (ovl (nIf c) 4 r9), x10, x11, x12, x13, x14, x15, x16, x17, ob 4 [.ref 19, .ref 20, .ref 21, .ref 22, .ref 23, .ref 24, .int f18_6, .int f18_7, .int f18_8, .int f18_9, .int f18_10, .long f18_11, .long f18_12], ja 4 r19, ja 4 r20, ja 4 r21, ja 4 r22, x23, x24, x25, x26, x27, x28, x29, x30, x31, x32], wm) (fun r w' => r = none ∧ w' = ([x0, x1, x2, x3, x4, x5, x6, ob 2 [.ref 8, .ref 9], ia 56 r8, ia 4 (ovl (nIf c) 4 r9), x10, x11, x12, x13, x14, x15, x16, x17, ob 4 [.ref 19, .ref 20, .ref 21, .ref 22, .ref 23, .ref 24, .int (nI (c 3)), .int 0, .int f18_8, .int f18_9, .int f18_10, .long ((itr (fun k s => lp_take7_st r8 k s.1 s.2.1 s.2.2.1 s.2.2.2.1 s.2.2.2.2) (c 3) 0 (r19, r20, r21, r22, 1)).2.2.2.2), .long f18_12], ja 4 ((itr (fun k s => lp_take7_st r8 k s.1 s.2.1 s.2.2.1 s.2.2.2.1 s.2.2.2.2) (c 3) 0 (r19, r20, r21, r22, 1)).1), ja 4 ((itr (fun k s => lp_take7_st r8 k s.1 s.2.1 s.2.2.1 s.2.2.2.1 s.2.2.2.2) (c 3) 0 (r19, r20, r21, r22, 1)).2.1), ja 4 ((itr (fun k s => lp_take7_st r8 k s.1 s.2.1 s.2.2.1 s.2.2.2.1 s.2.2.2.2) (c 3) 0 (r19, r20, r21, r22, 1)).2.2.1), ja 4 ((itr (fun k s => lp_take7_st r8 k s.1 s.2.1 s.2.2.1 s.2.2.2.1 s.2.2.2.2) (c 3) 0 (r19, r20, r21, r22, 1)).2.2.2.1), x23, x24, x25, x26, x27, x28, x29, x30, x31, x32], wm)) := by
  refine ct_of ⟨by decide, rfl⟩ (Nat.le_of_ble_eq_true rfl) ?_
  refine ab_aload_n dX4_take_0 rfl ?_
  refine ab_aload_n dX4_take_1 rfl ?_
  refine ab_iconst (v := 3) dX4_take_2 (by decide) ?_
  refine ab_callV (As := [.int 3]) (rest := [.ref 18]) dX4_take_3 mv_X2_count ml_X4_53 ⟨by decide, by decide, rfl, rfl, rfl⟩ (by decide) rfl rfl (Nat.le_of_ble_eq_true rfl) rfl c_X2_count_7_3 ?_
  rintro r w' ⟨rfl, rfl⟩
  refine ab_topi (v := (nI (c 3))) (ovl_lt (by decide)) ?_
  refine ab_iconst (v := 4) dX4_take_6 (by decide) ?_
  refine ab_mmin dX4_take_7 ml_X4_58 ⟨by decide, Nat.le_of_ble_eq_true rfl⟩ (by decide) ?_
  refine ab_topi (v := (nI (c 3))) (if_neg (Int32.not_lt.mpr (nI_le (b := 4) (by omega) (by decide)))) ?_
  refine ab_putf (w1 := ([x0, x1, x2, x3, x4, x5, x6, ob 2 [.ref 8, .ref 9], ia 56 r8, ia 4 (ovl (nIf c) 4 r9), x10, x11, x12, x13, x14, x15, x16, x17, ob 4 [.ref 19, .ref 20, .ref 21, .ref 22, .ref 23, .ref 24, .int (nI (c 3)), .int f18_7, .int f18_8, .int f18_9, .int f18_10, .long f18_11, .long f18_12], ja 4 r19, ja 4 r20, ja 4 r21, ja 4 r22, x23, x24, x25, x26, x27, x28, x29, x30, x31, x32], wm)) dX4_take_10 fl_X4_30 rfl (Nat.le_of_ble_eq_true rfl) (fun _ => ⟨rfl, rfl⟩) rfl ?_
  refine ab_aload_n dX4_take_13 rfl ?_
  refine ab_iconst (v := 0) dX4_take_14 (by decide) ?_
  refine ab_putf (w1 := ([x0, x1, x2, x3, x4, x5, x6, ob 2 [.ref 8, .ref 9], ia 56 r8, ia 4 (ovl (nIf c) 4 r9), x10, x11, x12, x13, x14, x15, x16, x17, ob 4 [.ref 19, .ref 20, .ref 21, .ref 22, .ref 23, .ref 24, .int (nI (c 3)), .int 0, .int f18_8, .int f18_9, .int f18_10, .long f18_11, .long f18_12], ja 4 r19, ja 4 r20, ja 4 r21, ja 4 r22, x23, x24, x25, x26, x27, x28, x29, x30, x31, x32], wm)) dX4_take_15 fl_X4_34 rfl (Nat.le_of_ble_eq_true rfl) (fun _ => ⟨rfl, rfl⟩) rfl ?_
  refine ab_aload_n dX4_take_18 rfl ?_
  refine ab_lconst (v := 1) dX4_take_19 (by decide) ?_
  refine ab_putf (w1 := ([x0, x1, x2, x3, x4, x5, x6, ob 2 [.ref 8, .ref 9], ia 56 r8, ia 4 (ovl (nIf c) 4 r9), x10, x11, x12, x13, x14, x15, x16, x17, ob 4 [.ref 19, .ref 20, .ref 21, .ref 22, .ref 23, .ref 24, .int (nI (c 3)), .int 0, .int f18_8, .int f18_9, .int f18_10, .long 1, .long f18_12], ja 4 r19, ja 4 r20, ja 4 r21, ja 4 r22, x23, x24, x25, x26, x27, x28, x29, x30, x31, x32], wm)) dX4_take_20 fl_X4_46 rfl (Nat.le_of_ble_eq_true rfl) (fun _ => ⟨rfl, rfl⟩) rfl ?_
  refine ab_iconst (v := 0) dX4_take_23 (by decide) ?_
  refine ab_istore_n (la' := [(2, .int 0), (0, .ref 18), (1, .ref 7)]) dX4_take_24 (by decide) rfl ?_
  refine ab_pick [0, 2, 1] rfl ?_
  refine lp_take7 hB (c 3) 0 r19 r20 r21 r22 1 (by omega) ?_
  exact ab_vret dX4_take_188 rfl (by decide) (⟨rfl, rfl⟩)
