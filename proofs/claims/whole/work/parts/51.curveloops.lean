def lp_ext0_st (r13 : Nat → Int32) (k : Nat) (s : Int32) : Int32 := (if (r13 k) < s then (r13 k) else s)
set_option maxHeartbeats 400000 in
theorem lp_ext0 {x0 x1 x2 x3 x4 x5 x6 x7 x8 x9 x10 x11 x15 x16 x17 x18 x19 x20 x21 x22 x23 x24 x25 x26 x27 x28 x29 x30 x31 x32 : ax_E} {f12_6 f12_7 f12_8 f12_9 : Int32} {r13 r14 : Nat → Int32} {wm : List ax_E} {c : Nat} {Q : Option Value → ax_W → Prop} (hc : c ≤ 40) : ∀ (n k : Nat) (s : Int32) , k + n = c → Ab M_X1_extreme Q (0, 0) 65 [(4, .int (nI c)), (3, .int (itr (lp_ext0_st r13) n k s)), (2, .ref 13), (1, .int 0), (0, .ref 12)] [] ([x0, x1, x2, x3, x4, x5, x6, x7, x8, x9, x10, x11, ob 1 [.ref 13, .ref 14, .ref 15, .ref 16, .ref 17, .int (nI c), .int f12_6, .int f12_7, .int f12_8, .int f12_9], ia 40 r13, ia 40 r14, x15, x16, x17, x18, x19, x20, x21, x22, x23, x24, x25, x26, x27, x28, x29, x30, x31, x32], wm) → Ab M_X1_extreme Q (0, 0) 24 [(4, .int (nI k)), (3, .int s), (2, .ref 13), (1, .int 0), (0, .ref 12)] [] ([x0, x1, x2, x3, x4, x5, x6, x7, x8, x9, x10, x11, ob 1 [.ref 13, .ref 14, .ref 15, .ref 16, .ref 17, .int (nI c), .int f12_6, .int f12_7, .int f12_8, .int f12_9], ia 40 r13, ia 40 r14, x15, x16, x17, x18, x19, x20, x21, x22, x23, x24, x25, x26, x27, x28, x29, x30, x31, x32], wm) := by
  intro n
  induction n with
  | zero =>
    intro k s  hk hx
    rw [itr_0] at hx
    obtain rfl : k = c := by omega
    refine ab_iload dX1_extreme_24 rfl ?_
    refine ab_aload_n dX1_extreme_26 rfl ?_
    refine ab_getf dX1_extreme_27 fl_X1_29 rfl rfl ?_
    refine ab_icmpge 65 dX1_extreme_30 (by decide) (fun h_1 => ?_) (fun h_1 => absurd (nI_le (Nat.le_refl _) (by omega)) h_1)
    refine ab_pick [0, 1, 2, 3, 4] rfl ?_
    exact hx 
  | succ n ih =>
    intro k s  hk hx
    refine ab_iload dX1_extreme_24 rfl ?_
    refine ab_aload_n dX1_extreme_26 rfl ?_
    refine ab_getf dX1_extreme_27 fl_X1_29 rfl rfl ?_
    refine ab_icmpge 65 dX1_extreme_30 (by decide) (fun h_1 => absurd h_1 (nI_ge (a := k) (b := c) (by omega) (by omega))) (fun h_1 => ?_)
    refine ab_iload_n dX1_extreme_33 rfl ?_
    refine ab_iconst (v := 1) dX1_extreme_34 (by decide) ?_
    refine ab_iand dX1_extreme_35 ?_
    refine ab_topi (v := 0) (by decide) ?_
    refine ab_ifne 50 dX1_extreme_36 (by decide) (fun h_2 => absurd (by decide) h_2) (fun h_2 => ?_)
    refine ab_iload_n dX1_extreme_39 rfl ?_
    refine ab_aload_n dX1_extreme_40 rfl ?_
    refine ab_iload dX1_extreme_41 rfl ?_
    refine ab_iald (j := k) dX1_extreme_43 rfl (ix_nI (by omega) (by decide)) ?_
    refine ab_mmin dX1_extreme_44 ml_X1_45 ⟨by decide, Nat.le_of_ble_eq_true rfl⟩ (by decide) ?_
    refine ab_goto 58 dX1_extreme_47 (by decide) ?_
    refine ab_istore_n (la' := [(3, .int (if (r13 k) < s then (r13 k) else s)), (4, .int (nI k)), (2, .ref 13), (1, .int 0), (0, .ref 12)]) dX1_extreme_58 (by decide) rfl ?_
    refine ab_iinc (v := (nI (k + 1))) (la' := [(4, .int (nI (k + 1))), (3, .int (if (r13 k) < s then (r13 k) else s)), (2, .ref 13), (1, .int 0), (0, .ref 12)]) dX1_extreme_59 rfl (nI_1 _) (by decide) rfl ?_
    refine ab_goto 24 dX1_extreme_62 (by decide) ?_
    refine ab_pick [0, 1, 2, 3, 4] rfl ?_
    rw [(itr_s (lp_ext0_st r13) n k s).trans (congrArg (itr (lp_ext0_st r13) n (k + 1)) (show lp_ext0_st r13 k s = (if (r13 k) < s then (r13 k) else s) from rfl))] at hx
    exact ih (k + 1) (if (r13 k) < s then (r13 k) else s)  (by omega) hx
theorem c_X1_extreme_0 {x0 x1 x2 x3 x4 x5 x6 x7 x8 x9 x10 x11 x15 x16 x17 x18 x19 x20 x21 x22 x23 x24 x25 x26 x27 x28 x29 x30 x31 x32 : ax_E} {f12_6 f12_7 f12_8 f12_9 : Int32} {r13 r14 : Nat → Int32} {wm : List ax_E} {c : Nat} (hc : c ≤ 40) (h_1 : 0 < c) : Ct M_X1_extreme [.ref 12, .int 0] ([x0, x1, x2, x3, x4, x5, x6, x7, x8, x9, x10, x11, ob 1 [.ref 13, .ref 14, .ref 15, .ref 16, .ref 17, .int (nI c), .int f12_6, .int f12_7, .int f12_8, .int f12_9], ia 40 r13, ia 40 r14, x15, x16, x17, x18, x19, x20, x21, x22, x23, x24, x25, x26, x27, x28, x29, x30, x31, x32], wm) (fun r w' => r = some (.int (itr (lp_ext0_st r13) (c - 1) 1 (r13 0))) ∧ w' = ([x0, x1, x2, x3, x4, x5, x6, x7, x8, x9, x10, x11, ob 1 [.ref 13, .ref 14, .ref 15, .ref 16, .ref 17, .int (nI c), .int f12_6, .int f12_7, .int f12_8, .int f12_9], ia 40 r13, ia 40 r14, x15, x16, x17, x18, x19, x20, x21, x22, x23, x24, x25, x26, x27, x28, x29, x30, x31, x32], wm)) := by
  refine ct_of ⟨by decide, rfl⟩ (Nat.le_of_ble_eq_true rfl) ?_
  refine ab_iload_n dX1_extreme_0 rfl ?_
  refine ab_iconst (v := 2) dX1_extreme_1 (by decide) ?_
  refine ab_icmpge 12 dX1_extreme_2 (by decide) (fun h_1 => absurd h_1 (by decide)) (fun h_1 => ?_)
  refine ab_aload_n dX1_extreme_5 rfl ?_
  refine ab_getf dX1_extreme_6 fl_X1_11 rfl rfl ?_
  refine ab_goto 16 dX1_extreme_9 (by decide) ?_
  refine ab_astore_n (la' := [(2, .ref 13), (0, .ref 12), (1, .int 0)]) dX1_extreme_16 (by decide) rfl ?_
  refine ab_aload_n dX1_extreme_17 rfl ?_
  refine ab_iconst (v := 0) dX1_extreme_18 (by decide) ?_
  refine ab_iald (j := 0) dX1_extreme_19 rfl (ix_c (by decide)) ?_
  refine ab_istore_n (la' := [(3, .int (r13 0)), (2, .ref 13), (0, .ref 12), (1, .int 0)]) dX1_extreme_20 (by decide) rfl ?_
  refine ab_iconst (v := 1) dX1_extreme_21 (by decide) ?_
  refine ab_istore (la' := [(4, .int 1), (3, .int (r13 0)), (2, .ref 13), (0, .ref 12), (1, .int 0)]) dX1_extreme_22 (by decide) rfl ?_
  refine ab_pick [0, 1, 2, 4, 3] rfl ?_
  refine lp_ext0 hc (c - 1) 1 (r13 0) (by omega) ?_
  refine ab_iload_n dX1_extreme_65 rfl ?_
  exact ab_iret dX1_extreme_66 rfl (by decide) (⟨rfl, rfl⟩)
def lp_ext1_st (r13 : Nat → Int32) (k : Nat) (s : Int32) : Int32 := (if s < (r13 k) then (r13 k) else s)
set_option maxHeartbeats 400000 in
theorem lp_ext1 {x0 x1 x2 x3 x4 x5 x6 x7 x8 x9 x10 x11 x15 x16 x17 x18 x19 x20 x21 x22 x23 x24 x25 x26 x27 x28 x29 x30 x31 x32 : ax_E} {f12_6 f12_7 f12_8 f12_9 : Int32} {r13 r14 : Nat → Int32} {wm : List ax_E} {c : Nat} {Q : Option Value → ax_W → Prop} (hc : c ≤ 40) : ∀ (n k : Nat) (s : Int32) , k + n = c → Ab M_X1_extreme Q (0, 0) 65 [(4, .int (nI c)), (3, .int (itr (lp_ext1_st r13) n k s)), (2, .ref 13), (1, .int 1), (0, .ref 12)] [] ([x0, x1, x2, x3, x4, x5, x6, x7, x8, x9, x10, x11, ob 1 [.ref 13, .ref 14, .ref 15, .ref 16, .ref 17, .int (nI c), .int f12_6, .int f12_7, .int f12_8, .int f12_9], ia 40 r13, ia 40 r14, x15, x16, x17, x18, x19, x20, x21, x22, x23, x24, x25, x26, x27, x28, x29, x30, x31, x32], wm) → Ab M_X1_extreme Q (0, 0) 24 [(4, .int (nI k)), (3, .int s), (2, .ref 13), (1, .int 1), (0, .ref 12)] [] ([x0, x1, x2, x3, x4, x5, x6, x7, x8, x9, x10, x11, ob 1 [.ref 13, .ref 14, .ref 15, .ref 16, .ref 17, .int (nI c), .int f12_6, .int f12_7, .int f12_8, .int f12_9], ia 40 r13, ia 40 r14, x15, x16, x17, x18, x19, x20, x21, x22, x23, x24, x25, x26, x27, x28, x29, x30, x31, x32], wm) := by
  intro n
  induction n with
  | zero =>
    intro k s  hk hx
    rw [itr_0] at hx
    obtain rfl : k = c := by omega
    refine ab_iload dX1_extreme_24 rfl ?_
    refine ab_aload_n dX1_extreme_26 rfl ?_
    refine ab_getf dX1_extreme_27 fl_X1_29 rfl rfl ?_
    refine ab_icmpge 65 dX1_extreme_30 (by decide) (fun h_1 => ?_) (fun h_1 => absurd (nI_le (Nat.le_refl _) (by omega)) h_1)
    refine ab_pick [0, 1, 2, 3, 4] rfl ?_
    exact hx 
  | succ n ih =>
    intro k s  hk hx
    refine ab_iload dX1_extreme_24 rfl ?_
    refine ab_aload_n dX1_extreme_26 rfl ?_
    refine ab_getf dX1_extreme_27 fl_X1_29 rfl rfl ?_
    refine ab_icmpge 65 dX1_extreme_30 (by decide) (fun h_1 => absurd h_1 (nI_ge (a := k) (b := c) (by omega) (by omega))) (fun h_1 => ?_)
    refine ab_iload_n dX1_extreme_33 rfl ?_
    refine ab_iconst (v := 1) dX1_extreme_34 (by decide) ?_
    refine ab_iand dX1_extreme_35 ?_
    refine ab_topi (v := 1) (by decide) ?_
    refine ab_ifne 50 dX1_extreme_36 (by decide) (fun h_2 => ?_) (fun h_2 => absurd h_2 (by decide))
    refine ab_iload_n dX1_extreme_50 rfl ?_
    refine ab_aload_n dX1_extreme_51 rfl ?_
    refine ab_iload dX1_extreme_52 rfl ?_
    refine ab_iald (j := k) dX1_extreme_54 rfl (ix_nI (by omega) (by decide)) ?_
    refine ab_mmax dX1_extreme_55 ml_X1_51 ⟨by decide, Nat.le_of_ble_eq_true rfl⟩ (by decide) ?_
    refine ab_istore_n (la' := [(3, .int (if s < (r13 k) then (r13 k) else s)), (4, .int (nI k)), (2, .ref 13), (1, .int 1), (0, .ref 12)]) dX1_extreme_58 (by decide) rfl ?_
    refine ab_iinc (v := (nI (k + 1))) (la' := [(4, .int (nI (k + 1))), (3, .int (if s < (r13 k) then (r13 k) else s)), (2, .ref 13), (1, .int 1), (0, .ref 12)]) dX1_extreme_59 rfl (nI_1 _) (by decide) rfl ?_
    refine ab_goto 24 dX1_extreme_62 (by decide) ?_
    refine ab_pick [0, 1, 2, 3, 4] rfl ?_
    rw [(itr_s (lp_ext1_st r13) n k s).trans (congrArg (itr (lp_ext1_st r13) n (k + 1)) (show lp_ext1_st r13 k s = (if s < (r13 k) then (r13 k) else s) from rfl))] at hx
    exact ih (k + 1) (if s < (r13 k) then (r13 k) else s)  (by omega) hx
theorem c_X1_extreme_1 {x0 x1 x2 x3 x4 x5 x6 x7 x8 x9 x10 x11 x15 x16 x17 x18 x19 x20 x21 x22 x23 x24 x25 x26 x27 x28 x29 x30 x31 x32 : ax_E} {f12_6 f12_7 f12_8 f12_9 : Int32} {r13 r14 : Nat → Int32} {wm : List ax_E} {c : Nat} (hc : c ≤ 40) (h_1 : 0 < c) : Ct M_X1_extreme [.ref 12, .int 1] ([x0, x1, x2, x3, x4, x5, x6, x7, x8, x9, x10, x11, ob 1 [.ref 13, .ref 14, .ref 15, .ref 16, .ref 17, .int (nI c), .int f12_6, .int f12_7, .int f12_8, .int f12_9], ia 40 r13, ia 40 r14, x15, x16, x17, x18, x19, x20, x21, x22, x23, x24, x25, x26, x27, x28, x29, x30, x31, x32], wm) (fun r w' => r = some (.int (itr (lp_ext1_st r13) (c - 1) 1 (r13 0))) ∧ w' = ([x0, x1, x2, x3, x4, x5, x6, x7, x8, x9, x10, x11, ob 1 [.ref 13, .ref 14, .ref 15, .ref 16, .ref 17, .int (nI c), .int f12_6, .int f12_7, .int f12_8, .int f12_9], ia 40 r13, ia 40 r14, x15, x16, x17, x18, x19, x20, x21, x22, x23, x24, x25, x26, x27, x28, x29, x30, x31, x32], wm)) := by
  refine ct_of ⟨by decide, rfl⟩ (Nat.le_of_ble_eq_true rfl) ?_
  refine ab_iload_n dX1_extreme_0 rfl ?_
  refine ab_iconst (v := 2) dX1_extreme_1 (by decide) ?_
  refine ab_icmpge 12 dX1_extreme_2 (by decide) (fun h_1 => absurd h_1 (by decide)) (fun h_1 => ?_)
  refine ab_aload_n dX1_extreme_5 rfl ?_
  refine ab_getf dX1_extreme_6 fl_X1_11 rfl rfl ?_
  refine ab_goto 16 dX1_extreme_9 (by decide) ?_
  refine ab_astore_n (la' := [(2, .ref 13), (0, .ref 12), (1, .int 1)]) dX1_extreme_16 (by decide) rfl ?_
  refine ab_aload_n dX1_extreme_17 rfl ?_
  refine ab_iconst (v := 0) dX1_extreme_18 (by decide) ?_
  refine ab_iald (j := 0) dX1_extreme_19 rfl (ix_c (by decide)) ?_
  refine ab_istore_n (la' := [(3, .int (r13 0)), (2, .ref 13), (0, .ref 12), (1, .int 1)]) dX1_extreme_20 (by decide) rfl ?_
  refine ab_iconst (v := 1) dX1_extreme_21 (by decide) ?_
  refine ab_istore (la' := [(4, .int 1), (3, .int (r13 0)), (2, .ref 13), (0, .ref 12), (1, .int 1)]) dX1_extreme_22 (by decide) rfl ?_
  refine ab_pick [0, 1, 2, 4, 3] rfl ?_
  refine lp_ext1 hc (c - 1) 1 (r13 0) (by omega) ?_
  refine ab_iload_n dX1_extreme_65 rfl ?_
  exact ab_iret dX1_extreme_66 rfl (by decide) (⟨rfl, rfl⟩)
def lp_ext2_st (r14 : Nat → Int32) (k : Nat) (s : Int32) : Int32 := (if (r14 k) < s then (r14 k) else s)
set_option maxHeartbeats 400000 in
theorem lp_ext2 {x0 x1 x2 x3 x4 x5 x6 x7 x8 x9 x10 x11 x15 x16 x17 x18 x19 x20 x21 x22 x23 x24 x25 x26 x27 x28 x29 x30 x31 x32 : ax_E} {f12_6 f12_7 f12_8 f12_9 : Int32} {r13 r14 : Nat → Int32} {wm : List ax_E} {c : Nat} {Q : Option Value → ax_W → Prop} (hc : c ≤ 40) : ∀ (n k : Nat) (s : Int32) , k + n = c → Ab M_X1_extreme Q (0, 0) 65 [(4, .int (nI c)), (3, .int (itr (lp_ext2_st r14) n k s)), (2, .ref 14), (1, .int 2), (0, .ref 12)] [] ([x0, x1, x2, x3, x4, x5, x6, x7, x8, x9, x10, x11, ob 1 [.ref 13, .ref 14, .ref 15, .ref 16, .ref 17, .int (nI c), .int f12_6, .int f12_7, .int f12_8, .int f12_9], ia 40 r13, ia 40 r14, x15, x16, x17, x18, x19, x20, x21, x22, x23, x24, x25, x26, x27, x28, x29, x30, x31, x32], wm) → Ab M_X1_extreme Q (0, 0) 24 [(4, .int (nI k)), (3, .int s), (2, .ref 14), (1, .int 2), (0, .ref 12)] [] ([x0, x1, x2, x3, x4, x5, x6, x7, x8, x9, x10, x11, ob 1 [.ref 13, .ref 14, .ref 15, .ref 16, .ref 17, .int (nI c), .int f12_6, .int f12_7, .int f12_8, .int f12_9], ia 40 r13, ia 40 r14, x15, x16, x17, x18, x19, x20, x21, x22, x23, x24, x25, x26, x27, x28, x29, x30, x31, x32], wm) := by
  intro n
  induction n with
  | zero =>
    intro k s  hk hx
    rw [itr_0] at hx
    obtain rfl : k = c := by omega
    refine ab_iload dX1_extreme_24 rfl ?_
    refine ab_aload_n dX1_extreme_26 rfl ?_
    refine ab_getf dX1_extreme_27 fl_X1_29 rfl rfl ?_
    refine ab_icmpge 65 dX1_extreme_30 (by decide) (fun h_1 => ?_) (fun h_1 => absurd (nI_le (Nat.le_refl _) (by omega)) h_1)
    refine ab_pick [0, 1, 2, 3, 4] rfl ?_
    exact hx 
  | succ n ih =>
    intro k s  hk hx
    refine ab_iload dX1_extreme_24 rfl ?_
    refine ab_aload_n dX1_extreme_26 rfl ?_
    refine ab_getf dX1_extreme_27 fl_X1_29 rfl rfl ?_
    refine ab_icmpge 65 dX1_extreme_30 (by decide) (fun h_1 => absurd h_1 (nI_ge (a := k) (b := c) (by omega) (by omega))) (fun h_1 => ?_)
    refine ab_iload_n dX1_extreme_33 rfl ?_
    refine ab_iconst (v := 1) dX1_extreme_34 (by decide) ?_
    refine ab_iand dX1_extreme_35 ?_
    refine ab_topi (v := 0) (by decide) ?_
    refine ab_ifne 50 dX1_extreme_36 (by decide) (fun h_2 => absurd (by decide) h_2) (fun h_2 => ?_)
    refine ab_iload_n dX1_extreme_39 rfl ?_
    refine ab_aload_n dX1_extreme_40 rfl ?_
    refine ab_iload dX1_extreme_41 rfl ?_
    refine ab_iald (j := k) dX1_extreme_43 rfl (ix_nI (by omega) (by decide)) ?_
    refine ab_mmin dX1_extreme_44 ml_X1_45 ⟨by decide, Nat.le_of_ble_eq_true rfl⟩ (by decide) ?_
    refine ab_goto 58 dX1_extreme_47 (by decide) ?_
    refine ab_istore_n (la' := [(3, .int (if (r14 k) < s then (r14 k) else s)), (4, .int (nI k)), (2, .ref 14), (1, .int 2), (0, .ref 12)]) dX1_extreme_58 (by decide) rfl ?_
    refine ab_iinc (v := (nI (k + 1))) (la' := [(4, .int (nI (k + 1))), (3, .int (if (r14 k) < s then (r14 k) else s)), (2, .ref 14), (1, .int 2), (0, .ref 12)]) dX1_extreme_59 rfl (nI_1 _) (by decide) rfl ?_
    refine ab_goto 24 dX1_extreme_62 (by decide) ?_
    refine ab_pick [0, 1, 2, 3, 4] rfl ?_
    rw [(itr_s (lp_ext2_st r14) n k s).trans (congrArg (itr (lp_ext2_st r14) n (k + 1)) (show lp_ext2_st r14 k s = (if (r14 k) < s then (r14 k) else s) from rfl))] at hx
    exact ih (k + 1) (if (r14 k) < s then (r14 k) else s)  (by omega) hx
theorem c_X1_extreme_2 {x0 x1 x2 x3 x4 x5 x6 x7 x8 x9 x10 x11 x15 x16 x17 x18 x19 x20 x21 x22 x23 x24 x25 x26 x27 x28 x29 x30 x31 x32 : ax_E} {f12_6 f12_7 f12_8 f12_9 : Int32} {r13 r14 : Nat → Int32} {wm : List ax_E} {c : Nat} (hc : c ≤ 40) (h_1 : 0 < c) : Ct M_X1_extreme [.ref 12, .int 2] ([x0, x1, x2, x3, x4, x5, x6, x7, x8, x9, x10, x11, ob 1 [.ref 13, .ref 14, .ref 15, .ref 16, .ref 17, .int (nI c), .int f12_6, .int f12_7, .int f12_8, .int f12_9], ia 40 r13, ia 40 r14, x15, x16, x17, x18, x19, x20, x21, x22, x23, x24, x25, x26, x27, x28, x29, x30, x31, x32], wm) (fun r w' => r = some (.int (itr (lp_ext2_st r14) (c - 1) 1 (r14 0))) ∧ w' = ([x0, x1, x2, x3, x4, x5, x6, x7, x8, x9, x10, x11, ob 1 [.ref 13, .ref 14, .ref 15, .ref 16, .ref 17, .int (nI c), .int f12_6, .int f12_7, .int f12_8, .int f12_9], ia 40 r13, ia 40 r14, x15, x16, x17, x18, x19, x20, x21, x22, x23, x24, x25, x26, x27, x28, x29, x30, x31, x32], wm)) := by
  refine ct_of ⟨by decide, rfl⟩ (Nat.le_of_ble_eq_true rfl) ?_
  refine ab_iload_n dX1_extreme_0 rfl ?_
  refine ab_iconst (v := 2) dX1_extreme_1 (by decide) ?_
  refine ab_icmpge 12 dX1_extreme_2 (by decide) (fun h_1 => ?_) (fun h_1 => absurd (by decide) h_1)
  refine ab_aload_n dX1_extreme_12 rfl ?_
  refine ab_getf dX1_extreme_13 fl_X1_17 rfl rfl ?_
  refine ab_astore_n (la' := [(2, .ref 14), (0, .ref 12), (1, .int 2)]) dX1_extreme_16 (by decide) rfl ?_
  refine ab_aload_n dX1_extreme_17 rfl ?_
  refine ab_iconst (v := 0) dX1_extreme_18 (by decide) ?_
  refine ab_iald (j := 0) dX1_extreme_19 rfl (ix_c (by decide)) ?_
  refine ab_istore_n (la' := [(3, .int (r14 0)), (2, .ref 14), (0, .ref 12), (1, .int 2)]) dX1_extreme_20 (by decide) rfl ?_
  refine ab_iconst (v := 1) dX1_extreme_21 (by decide) ?_
  refine ab_istore (la' := [(4, .int 1), (3, .int (r14 0)), (2, .ref 14), (0, .ref 12), (1, .int 2)]) dX1_extreme_22 (by decide) rfl ?_
  refine ab_pick [0, 1, 2, 4, 3] rfl ?_
  refine lp_ext2 hc (c - 1) 1 (r14 0) (by omega) ?_
  refine ab_iload_n dX1_extreme_65 rfl ?_
  exact ab_iret dX1_extreme_66 rfl (by decide) (⟨rfl, rfl⟩)
def lp_ext3_st (r14 : Nat → Int32) (k : Nat) (s : Int32) : Int32 := (if s < (r14 k) then (r14 k) else s)
set_option maxHeartbeats 400000 in
theorem lp_ext3 {x0 x1 x2 x3 x4 x5 x6 x7 x8 x9 x10 x11 x15 x16 x17 x18 x19 x20 x21 x22 x23 x24 x25 x26 x27 x28 x29 x30 x31 x32 : ax_E} {f12_6 f12_7 f12_8 f12_9 : Int32} {r13 r14 : Nat → Int32} {wm : List ax_E} {c : Nat} {Q : Option Value → ax_W → Prop} (hc : c ≤ 40) : ∀ (n k : Nat) (s : Int32) , k + n = c → Ab M_X1_extreme Q (0, 0) 65 [(4, .int (nI c)), (3, .int (itr (lp_ext3_st r14) n k s)), (2, .ref 14), (1, .int 3), (0, .ref 12)] [] ([x0, x1, x2, x3, x4, x5, x6, x7, x8, x9, x10, x11, ob 1 [.ref 13, .ref 14, .ref 15, .ref 16, .ref 17, .int (nI c), .int f12_6, .int f12_7, .int f12_8, .int f12_9], ia 40 r13, ia 40 r14, x15, x16, x17, x18, x19, x20, x21, x22, x23, x24, x25, x26, x27, x28, x29, x30, x31, x32], wm) → Ab M_X1_extreme Q (0, 0) 24 [(4, .int (nI k)), (3, .int s), (2, .ref 14), (1, .int 3), (0, .ref 12)] [] ([x0, x1, x2, x3, x4, x5, x6, x7, x8, x9, x10, x11, ob 1 [.ref 13, .ref 14, .ref 15, .ref 16, .ref 17, .int (nI c), .int f12_6, .int f12_7, .int f12_8, .int f12_9], ia 40 r13, ia 40 r14, x15, x16, x17, x18, x19, x20, x21, x22, x23, x24, x25, x26, x27, x28, x29, x30, x31, x32], wm) := by
  intro n
  induction n with
  | zero =>
    intro k s  hk hx
    rw [itr_0] at hx
    obtain rfl : k = c := by omega
    refine ab_iload dX1_extreme_24 rfl ?_
    refine ab_aload_n dX1_extreme_26 rfl ?_
    refine ab_getf dX1_extreme_27 fl_X1_29 rfl rfl ?_
    refine ab_icmpge 65 dX1_extreme_30 (by decide) (fun h_1 => ?_) (fun h_1 => absurd (nI_le (Nat.le_refl _) (by omega)) h_1)
    refine ab_pick [0, 1, 2, 3, 4] rfl ?_
    exact hx 
  | succ n ih =>
    intro k s  hk hx
    refine ab_iload dX1_extreme_24 rfl ?_
    refine ab_aload_n dX1_extreme_26 rfl ?_
    refine ab_getf dX1_extreme_27 fl_X1_29 rfl rfl ?_
    refine ab_icmpge 65 dX1_extreme_30 (by decide) (fun h_1 => absurd h_1 (nI_ge (a := k) (b := c) (by omega) (by omega))) (fun h_1 => ?_)
    refine ab_iload_n dX1_extreme_33 rfl ?_
    refine ab_iconst (v := 1) dX1_extreme_34 (by decide) ?_
    refine ab_iand dX1_extreme_35 ?_
    refine ab_topi (v := 1) (by decide) ?_
    refine ab_ifne 50 dX1_extreme_36 (by decide) (fun h_2 => ?_) (fun h_2 => absurd h_2 (by decide))
    refine ab_iload_n dX1_extreme_50 rfl ?_
    refine ab_aload_n dX1_extreme_51 rfl ?_
    refine ab_iload dX1_extreme_52 rfl ?_
    refine ab_iald (j := k) dX1_extreme_54 rfl (ix_nI (by omega) (by decide)) ?_
    refine ab_mmax dX1_extreme_55 ml_X1_51 ⟨by decide, Nat.le_of_ble_eq_true rfl⟩ (by decide) ?_
    refine ab_istore_n (la' := [(3, .int (if s < (r14 k) then (r14 k) else s)), (4, .int (nI k)), (2, .ref 14), (1, .int 3), (0, .ref 12)]) dX1_extreme_58 (by decide) rfl ?_
    refine ab_iinc (v := (nI (k + 1))) (la' := [(4, .int (nI (k + 1))), (3, .int (if s < (r14 k) then (r14 k) else s)), (2, .ref 14), (1, .int 3), (0, .ref 12)]) dX1_extreme_59 rfl (nI_1 _) (by decide) rfl ?_
    refine ab_goto 24 dX1_extreme_62 (by decide) ?_
    refine ab_pick [0, 1, 2, 3, 4] rfl ?_
    rw [(itr_s (lp_ext3_st r14) n k s).trans (congrArg (itr (lp_ext3_st r14) n (k + 1)) (show lp_ext3_st r14 k s = (if s < (r14 k) then (r14 k) else s) from rfl))] at hx
    exact ih (k + 1) (if s < (r14 k) then (r14 k) else s)  (by omega) hx
theorem c_X1_extreme_3 {x0 x1 x2 x3 x4 x5 x6 x7 x8 x9 x10 x11 x15 x16 x17 x18 x19 x20 x21 x22 x23 x24 x25 x26 x27 x28 x29 x30 x31 x32 : ax_E} {f12_6 f12_7 f12_8 f12_9 : Int32} {r13 r14 : Nat → Int32} {wm : List ax_E} {c : Nat} (hc : c ≤ 40) (h_1 : 0 < c) : Ct M_X1_extreme [.ref 12, .int 3] ([x0, x1, x2, x3, x4, x5, x6, x7, x8, x9, x10, x11, ob 1 [.ref 13, .ref 14, .ref 15, .ref 16, .ref 17, .int (nI c), .int f12_6, .int f12_7, .int f12_8, .int f12_9], ia 40 r13, ia 40 r14, x15, x16, x17, x18, x19, x20, x21, x22, x23, x24, x25, x26, x27, x28, x29, x30, x31, x32], wm) (fun r w' => r = some (.int (itr (lp_ext3_st r14) (c - 1) 1 (r14 0))) ∧ w' = ([x0, x1, x2, x3, x4, x5, x6, x7, x8, x9, x10, x11, ob 1 [.ref 13, .ref 14, .ref 15, .ref 16, .ref 17, .int (nI c), .int f12_6, .int f12_7, .int f12_8, .int f12_9], ia 40 r13, ia 40 r14, x15, x16, x17, x18, x19, x20, x21, x22, x23, x24, x25, x26, x27, x28, x29, x30, x31, x32], wm)) := by
  refine ct_of ⟨by decide, rfl⟩ (Nat.le_of_ble_eq_true rfl) ?_
  refine ab_iload_n dX1_extreme_0 rfl ?_
  refine ab_iconst (v := 2) dX1_extreme_1 (by decide) ?_
  refine ab_icmpge 12 dX1_extreme_2 (by decide) (fun h_1 => ?_) (fun h_1 => absurd (by decide) h_1)
  refine ab_aload_n dX1_extreme_12 rfl ?_
  refine ab_getf dX1_extreme_13 fl_X1_17 rfl rfl ?_
  refine ab_astore_n (la' := [(2, .ref 14), (0, .ref 12), (1, .int 3)]) dX1_extreme_16 (by decide) rfl ?_
  refine ab_aload_n dX1_extreme_17 rfl ?_
  refine ab_iconst (v := 0) dX1_extreme_18 (by decide) ?_
  refine ab_iald (j := 0) dX1_extreme_19 rfl (ix_c (by decide)) ?_
  refine ab_istore_n (la' := [(3, .int (r14 0)), (2, .ref 14), (0, .ref 12), (1, .int 3)]) dX1_extreme_20 (by decide) rfl ?_
  refine ab_iconst (v := 1) dX1_extreme_21 (by decide) ?_
  refine ab_istore (la' := [(4, .int 1), (3, .int (r14 0)), (2, .ref 14), (0, .ref 12), (1, .int 3)]) dX1_extreme_22 (by decide) rfl ?_
  refine ab_pick [0, 1, 2, 4, 3] rfl ?_
  refine lp_ext3 hc (c - 1) 1 (r14 0) (by omega) ?_
  refine ab_iload_n dX1_extreme_65 rfl ?_
  exact ab_iret dX1_extreme_66 rfl (by decide) (⟨rfl, rfl⟩)
/-- the place behind, round a curve of c -/
def nxc (c i : Nat) : Nat := if i + 1 < c then i + 1 else 0
theorem nxc_lt {c i : Nat} (h : i < c) : nxc c i < c := by unfold nxc; split <;> omega
theorem cv_next_nI {c i : Nat} (h : i < c) (hc : c < 2 ^ 31) : Cv_next (nI c) (nI i) = nI (nxc c i) := by
  unfold Cv_next nxc
  rw [nI_1]
  by_cases q : i + 1 < c
  · rw [if_neg (nI_ge q hc), if_pos q]
  · rw [if_pos (nI_le (by omega) (by omega)), if_neg q]; rfl
def lp_edge_st (r13 : Nat → Int32) (r14 : Nat → Int32) (c : Nat) (k : Nat) (s : Int64) : Int64 := (s + (Cv_cr r13 r14 k (nxc c k)))
set_option maxHeartbeats 400000 in
theorem lp_edge {x0 x1 x2 x3 x4 x5 x6 x7 x8 x9 x10 x11 x15 x16 x17 x18 x19 x20 x21 x22 x23 x24 x25 x26 x27 x28 x29 x30 x31 x32 : ax_E} {f12_6 f12_7 f12_8 f12_9 : Int32} {r13 r14 : Nat → Int32} {wm : List ax_E} {c : Nat} {Q : Option Value → ax_W → Prop} (hc : c ≤ 40) : ∀ (n k : Nat) (s : Int64) , k + n = c → Ab M_X1_edgeSum Q (0, 0) 31 [(3, .int (nI c)), (1, .long (itr (lp_edge_st r13 r14 c) n k s)), (0, .ref 12)] [] ([x0, x1, x2, x3, x4, x5, x6, x7, x8, x9, x10, x11, ob 1 [.ref 13, .ref 14, .ref 15, .ref 16, .ref 17, .int (nI c), .int f12_6, .int f12_7, .int f12_8, .int f12_9], ia 40 r13, ia 40 r14, x15, x16, x17, x18, x19, x20, x21, x22, x23, x24, x25, x26, x27, x28, x29, x30, x31, x32], wm) → Ab M_X1_edgeSum Q (0, 0) 4 [(3, .int (nI k)), (1, .long s), (0, .ref 12)] [] ([x0, x1, x2, x3, x4, x5, x6, x7, x8, x9, x10, x11, ob 1 [.ref 13, .ref 14, .ref 15, .ref 16, .ref 17, .int (nI c), .int f12_6, .int f12_7, .int f12_8, .int f12_9], ia 40 r13, ia 40 r14, x15, x16, x17, x18, x19, x20, x21, x22, x23, x24, x25, x26, x27, x28, x29, x30, x31, x32], wm) := by
  intro n
  induction n with
  | zero =>
    intro k s  hk hx
    rw [itr_0] at hx
    obtain rfl : k = c := by omega
    refine ab_iload_n dX1_edgeSum_4 rfl ?_
    refine ab_aload_n dX1_edgeSum_5 rfl ?_
    refine ab_getf dX1_edgeSum_6 fl_X1_29 rfl rfl ?_
    refine ab_icmpge 31 dX1_edgeSum_9 (by decide) (fun h_1 => ?_) (fun h_1 => absurd (nI_le (Nat.le_refl _) (by omega)) h_1)
    refine ab_pick [0, 1, 2] rfl ?_
    exact hx 
  | succ n ih =>
    intro k s  hk hx
    refine ab_iload_n dX1_edgeSum_4 rfl ?_
    refine ab_aload_n dX1_edgeSum_5 rfl ?_
    refine ab_getf dX1_edgeSum_6 fl_X1_29 rfl rfl ?_
    refine ab_icmpge 31 dX1_edgeSum_9 (by decide) (fun h_1 => absurd h_1 (nI_ge (a := k) (b := c) (by omega) (by omega))) (fun h_1 => ?_)
    refine ab_lload_n dX1_edgeSum_12 rfl ?_
    refine ab_aload_n dX1_edgeSum_13 rfl ?_
    refine ab_iload_n dX1_edgeSum_14 rfl ?_
    refine ab_aload_n dX1_edgeSum_15 rfl ?_
    refine ab_iload_n dX1_edgeSum_16 rfl ?_
    refine ab_callV (As := [.int (nI k)]) (rest := [.int (nI k), .ref 12, .long s]) dX1_edgeSum_17 mv_X1_next ml_X1_54 ⟨by decide, by decide, rfl, rfl, rfl⟩ (by decide) rfl rfl (Nat.le_of_ble_eq_true rfl) rfl c_X1_next ?_
    rintro r w' ⟨rfl, rfl⟩
    refine ab_topi (v := (nI (nxc c k))) (cv_next_nI (by omega) (by omega)) ?_
    refine ab_callV (As := [.int (nI k), .int (nI (nxc c k))]) (rest := [.long s]) dX1_edgeSum_20 mv_X1_crossed ml_X1_58 ⟨by decide, by decide, rfl, rfl, rfl⟩ (by decide) rfl rfl (Nat.le_of_ble_eq_true rfl) rfl (c_X1_crossed (j1 := k) (j2 := (nxc c k)) (ix_nI (by omega) (by decide)) (ix_nI (by have := nxc_lt (c := c) (i := k) (by omega); omega) (by decide))) ?_
    rintro r w' ⟨rfl, rfl⟩
    refine ab_ladd dX1_edgeSum_23 ?_
    refine ab_lstore_n (la' := [(1, .long (s + (Cv_cr r13 r14 k (nxc c k)))), (3, .int (nI k)), (0, .ref 12)]) dX1_edgeSum_24 (by decide) rfl ?_
    refine ab_iinc (v := (nI (k + 1))) (la' := [(3, .int (nI (k + 1))), (1, .long (s + (Cv_cr r13 r14 k (nxc c k)))), (0, .ref 12)]) dX1_edgeSum_25 rfl (nI_1 _) (by decide) rfl ?_
    refine ab_goto 4 dX1_edgeSum_28 (by decide) ?_
    refine ab_pick [0, 1, 2] rfl ?_
    rw [(itr_s (lp_edge_st r13 r14 c) n k s).trans (congrArg (itr (lp_edge_st r13 r14 c) n (k + 1)) (show lp_edge_st r13 r14 c k s = (s + (Cv_cr r13 r14 k (nxc c k))) from rfl))] at hx
    exact ih (k + 1) (s + (Cv_cr r13 r14 k (nxc c k)))  (by omega) hx
theorem c_X1_edgeSum {x0 x1 x2 x3 x4 x5 x6 x7 x8 x9 x10 x11 x15 x16 x17 x18 x19 x20 x21 x22 x23 x24 x25 x26 x27 x28 x29 x30 x31 x32 : ax_E} {f12_6 f12_7 f12_8 f12_9 : Int32} {r13 r14 : Nat → Int32} {wm : List ax_E} {c : Nat} (hc : c ≤ 40) : Ct M_X1_edgeSum [.ref 12] ([x0, x1, x2, x3, x4, x5, x6, x7, x8, x9, x10, x11, ob 1 [.ref 13, .ref 14, .ref 15, .ref 16, .ref 17, .int (nI c), .int f12_6, .int f12_7, .int f12_8, .int f12_9], ia 40 r13, ia 40 r14, x15, x16, x17, x18, x19, x20, x21, x22, x23, x24, x25, x26, x27, x28, x29, x30, x31, x32], wm) (fun r w' => r = some (.long (itr (lp_edge_st r13 r14 c) c 0 0)) ∧ w' = ([x0, x1, x2, x3, x4, x5, x6, x7, x8, x9, x10, x11, ob 1 [.ref 13, .ref 14, .ref 15, .ref 16, .ref 17, .int (nI c), .int f12_6, .int f12_7, .int f12_8, .int f12_9], ia 40 r13, ia 40 r14, x15, x16, x17, x18, x19, x20, x21, x22, x23, x24, x25, x26, x27, x28, x29, x30, x31, x32], wm)) := by
  refine ct_of ⟨by decide, rfl⟩ (Nat.le_of_ble_eq_true rfl) ?_
  refine ab_lconst (v := 0) dX1_edgeSum_0 (by decide) ?_
  refine ab_lstore_n (la' := [(1, .long 0), (0, .ref 12)]) dX1_edgeSum_1 (by decide) rfl ?_
  refine ab_iconst (v := 0) dX1_edgeSum_2 (by decide) ?_
  refine ab_istore_n (la' := [(3, .int 0), (1, .long 0), (0, .ref 12)]) dX1_edgeSum_3 (by decide) rfl ?_
  refine ab_pick [0, 1, 2] rfl ?_
  refine lp_edge hc c 0 0 (by omega) ?_
  refine ab_lload_n dX1_edgeSum_31 rfl ?_
  exact ab_lret dX1_edgeSum_32 rfl (by decide) (⟨rfl, rfl⟩)
def lp_lm_st (r13 : Nat → Int32) (r14 : Nat → Int32) (a2 : Int32) (a1 : Int32) (k : Nat) (s : Int32) : Int32 := (if (Cv_sq r13 r14 a1 a2 k) < s then (Cv_sq r13 r14 a1 a2 k) else s)
set_option maxHeartbeats 400000 in
theorem lp_lm {x0 x1 x2 x3 x4 x5 x6 x7 x8 x9 x10 x11 x15 x16 x17 x18 x19 x20 x21 x22 x23 x24 x25 x26 x27 x28 x29 x30 x31 x32 : ax_E} {f12_6 f12_7 f12_8 f12_9 a2 a1 : Int32} {r13 r14 : Nat → Int32} {wm : List ax_E} {c : Nat} {Q : Option Value → ax_W → Prop} (hc : c ≤ 40) : ∀ (n k : Nat) (s : Int32) , k + n = c → Ab M_X1_leastMiss Q (0, 0) 39 [(4, .int (nI c)), (3, .int (itr (lp_lm_st r13 r14 a2 a1) n k s)), (2, .int a2), (1, .int a1), (0, .ref 12)] [] ([x0, x1, x2, x3, x4, x5, x6, x7, x8, x9, x10, x11, ob 1 [.ref 13, .ref 14, .ref 15, .ref 16, .ref 17, .int (nI c), .int f12_6, .int f12_7, .int f12_8, .int f12_9], ia 40 r13, ia 40 r14, x15, x16, x17, x18, x19, x20, x21, x22, x23, x24, x25, x26, x27, x28, x29, x30, x31, x32], wm) → Ab M_X1_leastMiss Q (0, 0) 11 [(4, .int (nI k)), (3, .int s), (2, .int a2), (1, .int a1), (0, .ref 12)] [] ([x0, x1, x2, x3, x4, x5, x6, x7, x8, x9, x10, x11, ob 1 [.ref 13, .ref 14, .ref 15, .ref 16, .ref 17, .int (nI c), .int f12_6, .int f12_7, .int f12_8, .int f12_9], ia 40 r13, ia 40 r14, x15, x16, x17, x18, x19, x20, x21, x22, x23, x24, x25, x26, x27, x28, x29, x30, x31, x32], wm) := by
  intro n
  induction n with
  | zero =>
    intro k s  hk hx
    rw [itr_0] at hx
    obtain rfl : k = c := by omega
    refine ab_iload dX1_leastMiss_11 rfl ?_
    refine ab_aload_n dX1_leastMiss_13 rfl ?_
    refine ab_getf dX1_leastMiss_14 fl_X1_29 rfl rfl ?_
    refine ab_icmpge 39 dX1_leastMiss_17 (by decide) (fun h_1 => ?_) (fun h_1 => absurd (nI_le (Nat.le_refl _) (by omega)) h_1)
    refine ab_pick [0, 1, 2, 3, 4] rfl ?_
    exact hx 
  | succ n ih =>
    intro k s  hk hx
    refine ab_iload dX1_leastMiss_11 rfl ?_
    refine ab_aload_n dX1_leastMiss_13 rfl ?_
    refine ab_getf dX1_leastMiss_14 fl_X1_29 rfl rfl ?_
    refine ab_icmpge 39 dX1_leastMiss_17 (by decide) (fun h_1 => absurd h_1 (nI_ge (a := k) (b := c) (by omega) (by omega))) (fun h_1 => ?_)
    refine ab_iload_n dX1_leastMiss_20 rfl ?_
    refine ab_aload_n dX1_leastMiss_21 rfl ?_
    refine ab_iload dX1_leastMiss_22 rfl ?_
    refine ab_iload_n dX1_leastMiss_24 rfl ?_
    refine ab_iload_n dX1_leastMiss_25 rfl ?_
    refine ab_callV (As := [.int (nI k), .int a1, .int a2]) (rest := [.int s]) dX1_leastMiss_26 mv_X1_squareFrom ml_X1_91 ⟨by decide, by decide, rfl, rfl, rfl⟩ (by decide) rfl rfl (Nat.le_of_ble_eq_true rfl) rfl (c_X1_squareFrom (j1 := k) (ix_nI (by omega) (by decide))) ?_
    rintro r w' ⟨rfl, rfl⟩
    refine ab_mmin dX1_leastMiss_29 ml_X1_45 ⟨by decide, Nat.le_of_ble_eq_true rfl⟩ (by decide) ?_
    refine ab_istore_n (la' := [(3, .int (if (Cv_sq r13 r14 a1 a2 k) < s then (Cv_sq r13 r14 a1 a2 k) else s)), (4, .int (nI k)), (2, .int a2), (1, .int a1), (0, .ref 12)]) dX1_leastMiss_32 (by decide) rfl ?_
    refine ab_iinc (v := (nI (k + 1))) (la' := [(4, .int (nI (k + 1))), (3, .int (if (Cv_sq r13 r14 a1 a2 k) < s then (Cv_sq r13 r14 a1 a2 k) else s)), (2, .int a2), (1, .int a1), (0, .ref 12)]) dX1_leastMiss_33 rfl (nI_1 _) (by decide) rfl ?_
    refine ab_goto 11 dX1_leastMiss_36 (by decide) ?_
    refine ab_pick [0, 1, 2, 3, 4] rfl ?_
    rw [(itr_s (lp_lm_st r13 r14 a2 a1) n k s).trans (congrArg (itr (lp_lm_st r13 r14 a2 a1) n (k + 1)) (show lp_lm_st r13 r14 a2 a1 k s = (if (Cv_sq r13 r14 a1 a2 k) < s then (Cv_sq r13 r14 a1 a2 k) else s) from rfl))] at hx
    exact ih (k + 1) (if (Cv_sq r13 r14 a1 a2 k) < s then (Cv_sq r13 r14 a1 a2 k) else s)  (by omega) hx
theorem c_X1_leastMiss {x0 x1 x2 x3 x4 x5 x6 x7 x8 x9 x10 x11 x15 x16 x17 x18 x19 x20 x21 x22 x23 x24 x25 x26 x27 x28 x29 x30 x31 x32 : ax_E} {f12_6 f12_7 f12_8 f12_9 a1 a2 : Int32} {r13 r14 : Nat → Int32} {wm : List ax_E} {c : Nat} (hc : c ≤ 40) (h_1 : 0 < c) : Ct M_X1_leastMiss [.ref 12, .int a1, .int a2] ([x0, x1, x2, x3, x4, x5, x6, x7, x8, x9, x10, x11, ob 1 [.ref 13, .ref 14, .ref 15, .ref 16, .ref 17, .int (nI c), .int f12_6, .int f12_7, .int f12_8, .int f12_9], ia 40 r13, ia 40 r14, x15, x16, x17, x18, x19, x20, x21, x22, x23, x24, x25, x26, x27, x28, x29, x30, x31, x32], wm) (fun r w' => r = some (.int (itr (lp_lm_st r13 r14 a2 a1) (c - 1) 1 (Cv_sq r13 r14 a1 a2 0))) ∧ w' = ([x0, x1, x2, x3, x4, x5, x6, x7, x8, x9, x10, x11, ob 1 [.ref 13, .ref 14, .ref 15, .ref 16, .ref 17, .int (nI c), .int f12_6, .int f12_7, .int f12_8, .int f12_9], ia 40 r13, ia 40 r14, x15, x16, x17, x18, x19, x20, x21, x22, x23, x24, x25, x26, x27, x28, x29, x30, x31, x32], wm)) := by
  refine ct_of ⟨by decide, rfl⟩ (Nat.le_of_ble_eq_true rfl) ?_
  refine ab_aload_n dX1_leastMiss_0 rfl ?_
  refine ab_iconst (v := 0) dX1_leastMiss_1 (by decide) ?_
  refine ab_iload_n dX1_leastMiss_2 rfl ?_
  refine ab_iload_n dX1_leastMiss_3 rfl ?_
  refine ab_callV (As := [.int 0, .int a1, .int a2]) (rest := []) dX1_leastMiss_4 mv_X1_squareFrom ml_X1_91 ⟨by decide, by decide, rfl, rfl, rfl⟩ (by decide) rfl rfl (Nat.le_of_ble_eq_true rfl) rfl (c_X1_squareFrom (j1 := 0) (ix_c (by decide))) ?_
  rintro r w' ⟨rfl, rfl⟩
  refine ab_istore_n (la' := [(3, .int (Cv_sq r13 r14 a1 a2 0)), (0, .ref 12), (1, .int a1), (2, .int a2)]) dX1_leastMiss_7 (by decide) rfl ?_
  refine ab_iconst (v := 1) dX1_leastMiss_8 (by decide) ?_
  refine ab_istore (la' := [(4, .int 1), (3, .int (Cv_sq r13 r14 a1 a2 0)), (0, .ref 12), (1, .int a1), (2, .int a2)]) dX1_leastMiss_9 (by decide) rfl ?_
  refine ab_pick [0, 1, 4, 3, 2] rfl ?_
  refine lp_lm hc (c - 1) 1 (Cv_sq r13 r14 a1 a2 0) (by omega) ?_
  refine ab_iload_n dX1_leastMiss_39 rfl ?_
  exact ab_iret dX1_leastMiss_40 rfl (by decide) (⟨rfl, rfl⟩)
def lp_pm_st (r13 : Nat → Int32) (r14 : Nat → Int32) (a3 : Int32) (a2 : Int32) (i : Nat) (k : Nat) (s : Int32) : Int32 := (if (Cv_sq r13 r14 a2 a3 k) < (Cv_sq r13 r14 a2 a3 i) then (s + 1) else (if (Cv_sq r13 r14 a2 a3 k) = (Cv_sq r13 r14 a2 a3 i) then (if (nI i) ≤ (nI k) then s else (s + 1)) else s))
set_option maxHeartbeats 400000 in
theorem lp_pm {x0 x1 x2 x3 x4 x5 x6 x7 x8 x9 x10 x11 x15 x16 x17 x18 x19 x20 x21 x22 x23 x24 x25 x26 x27 x28 x29 x30 x31 x32 : ax_E} {f12_6 f12_7 f12_8 f12_9 a3 a2 : Int32} {r13 r14 : Nat → Int32} {wm : List ax_E} {c i : Nat} {Q : Option Value → ax_W → Prop} (hc : c ≤ 40) : ∀ (n k : Nat) (s : Int32) , k + n = c → Ab M_X1_placeByMiss Q (0, 0) 63 [(6, .int (nI c)), (5, .int (itr (lp_pm_st r13 r14 a3 a2 i) n k s)), (4, .int (Cv_sq r13 r14 a2 a3 i)), (3, .int a3), (2, .int a2), (1, .int (nI i)), (0, .ref 12)] [] ([x0, x1, x2, x3, x4, x5, x6, x7, x8, x9, x10, x11, ob 1 [.ref 13, .ref 14, .ref 15, .ref 16, .ref 17, .int (nI c), .int f12_6, .int f12_7, .int f12_8, .int f12_9], ia 40 r13, ia 40 r14, x15, x16, x17, x18, x19, x20, x21, x22, x23, x24, x25, x26, x27, x28, x29, x30, x31, x32], wm) → Ab M_X1_placeByMiss Q (0, 0) 15 [(6, .int (nI k)), (5, .int s), (4, .int (Cv_sq r13 r14 a2 a3 i)), (3, .int a3), (2, .int a2), (1, .int (nI i)), (0, .ref 12)] [] ([x0, x1, x2, x3, x4, x5, x6, x7, x8, x9, x10, x11, ob 1 [.ref 13, .ref 14, .ref 15, .ref 16, .ref 17, .int (nI c), .int f12_6, .int f12_7, .int f12_8, .int f12_9], ia 40 r13, ia 40 r14, x15, x16, x17, x18, x19, x20, x21, x22, x23, x24, x25, x26, x27, x28, x29, x30, x31, x32], wm) := by
  intro n
  induction n with
  | zero =>
    intro k s  hk hx
    rw [itr_0] at hx
    obtain rfl : k = c := by omega
    refine ab_iload dX1_placeByMiss_15 rfl ?_
    refine ab_aload_n dX1_placeByMiss_17 rfl ?_
    refine ab_getf dX1_placeByMiss_18 fl_X1_29 rfl rfl ?_
    refine ab_icmpge 63 dX1_placeByMiss_21 (by decide) (fun h_1 => ?_) (fun h_1 => absurd (nI_le (Nat.le_refl _) (by omega)) h_1)
    refine ab_pick [0, 1, 2, 3, 4, 5, 6] rfl ?_
    exact hx 
  | succ n ih =>
    intro k s  hk hx
    refine ab_iload dX1_placeByMiss_15 rfl ?_
    refine ab_aload_n dX1_placeByMiss_17 rfl ?_
    refine ab_getf dX1_placeByMiss_18 fl_X1_29 rfl rfl ?_
    refine ab_icmpge 63 dX1_placeByMiss_21 (by decide) (fun h_1 => absurd h_1 (nI_ge (a := k) (b := c) (by omega) (by omega))) (fun h_1 => ?_)
    refine ab_aload_n dX1_placeByMiss_24 rfl ?_
    refine ab_iload dX1_placeByMiss_25 rfl ?_
    refine ab_iload_n dX1_placeByMiss_27 rfl ?_
    refine ab_iload_n dX1_placeByMiss_28 rfl ?_
    refine ab_callV (As := [.int (nI k), .int a2, .int a3]) (rest := []) dX1_placeByMiss_29 mv_X1_squareFrom ml_X1_91 ⟨by decide, by decide, rfl, rfl, rfl⟩ (by decide) rfl rfl (Nat.le_of_ble_eq_true rfl) rfl (c_X1_squareFrom (j1 := k) (ix_nI (by omega) (by decide))) ?_
    rintro r w' ⟨rfl, rfl⟩
    refine ab_istore (la' := [(7, .int (Cv_sq r13 r14 a2 a3 k)), (6, .int (nI k)), (5, .int s), (4, .int (Cv_sq r13 r14 a2 a3 i)), (3, .int a3), (2, .int a2), (1, .int (nI i)), (0, .ref 12)]) dX1_placeByMiss_32 (by decide) rfl ?_
    refine ab_iload dX1_placeByMiss_34 rfl ?_
    refine ab_iload dX1_placeByMiss_36 rfl ?_
    refine ab_icmplt 54 dX1_placeByMiss_38 (by decide) (fun h_2 => ?_) (fun h_2 => ?_)
    · refine ab_iinc (v := (s + 1)) (la' := [(5, .int (s + 1)), (7, .int (Cv_sq r13 r14 a2 a3 k)), (6, .int (nI k)), (4, .int (Cv_sq r13 r14 a2 a3 i)), (3, .int a3), (2, .int a2), (1, .int (nI i)), (0, .ref 12)]) dX1_placeByMiss_54 rfl rfl (by decide) rfl ?_
      refine ab_iinc (v := (nI (k + 1))) (la' := [(6, .int (nI (k + 1))), (5, .int (s + 1)), (7, .int (Cv_sq r13 r14 a2 a3 k)), (4, .int (Cv_sq r13 r14 a2 a3 i)), (3, .int a3), (2, .int a2), (1, .int (nI i)), (0, .ref 12)]) dX1_placeByMiss_57 rfl (nI_1 _) (by decide) rfl ?_
      refine ab_goto 15 dX1_placeByMiss_60 (by decide) ?_
      refine ab_pick [0, 1, 3, 4, 5, 6, 7] rfl ?_
      rw [(itr_s (lp_pm_st r13 r14 a3 a2 i) n k s).trans (congrArg (itr (lp_pm_st r13 r14 a3 a2 i) n (k + 1)) (show lp_pm_st r13 r14 a3 a2 i k s = (s + 1) from by rw [lp_pm_st, if_pos (show (Cv_sq r13 r14 a2 a3 k) < (Cv_sq r13 r14 a2 a3 i) from h_2)]))] at hx
      exact ih (k + 1) (s + 1)  (by omega) hx
    · refine ab_iload dX1_placeByMiss_41 rfl ?_
      refine ab_iload dX1_placeByMiss_43 rfl ?_
      refine ab_icmpne 57 dX1_placeByMiss_45 (by decide) (fun h_3 => ?_) (fun h_3 => ?_)
      · refine ab_iinc (v := (nI (k + 1))) (la' := [(6, .int (nI (k + 1))), (7, .int (Cv_sq r13 r14 a2 a3 k)), (5, .int s), (4, .int (Cv_sq r13 r14 a2 a3 i)), (3, .int a3), (2, .int a2), (1, .int (nI i)), (0, .ref 12)]) dX1_placeByMiss_57 rfl (nI_1 _) (by decide) rfl ?_
        refine ab_goto 15 dX1_placeByMiss_60 (by decide) ?_
        refine ab_pick [0, 2, 3, 4, 5, 6, 7] rfl ?_
        rw [(itr_s (lp_pm_st r13 r14 a3 a2 i) n k s).trans (congrArg (itr (lp_pm_st r13 r14 a3 a2 i) n (k + 1)) (show lp_pm_st r13 r14 a3 a2 i k s = s from by rw [lp_pm_st, if_neg (show ¬ (Cv_sq r13 r14 a2 a3 k) < (Cv_sq r13 r14 a2 a3 i) from h_2), if_neg (show ¬ (Cv_sq r13 r14 a2 a3 k) = (Cv_sq r13 r14 a2 a3 i) from h_3)]))] at hx
        exact ih (k + 1) s  (by omega) hx
      · refine ab_iload dX1_placeByMiss_48 rfl ?_
        refine ab_iload_n dX1_placeByMiss_50 rfl ?_
        refine ab_icmpge 57 dX1_placeByMiss_51 (by decide) (fun h_4 => ?_) (fun h_4 => ?_)
        · refine ab_iinc (v := (nI (k + 1))) (la' := [(6, .int (nI (k + 1))), (7, .int (Cv_sq r13 r14 a2 a3 k)), (5, .int s), (4, .int (Cv_sq r13 r14 a2 a3 i)), (3, .int a3), (2, .int a2), (1, .int (nI i)), (0, .ref 12)]) dX1_placeByMiss_57 rfl (nI_1 _) (by decide) rfl ?_
          refine ab_goto 15 dX1_placeByMiss_60 (by decide) ?_
          refine ab_pick [0, 2, 3, 4, 5, 6, 7] rfl ?_
          rw [(itr_s (lp_pm_st r13 r14 a3 a2 i) n k s).trans (congrArg (itr (lp_pm_st r13 r14 a3 a2 i) n (k + 1)) (show lp_pm_st r13 r14 a3 a2 i k s = s from by rw [lp_pm_st, if_neg (show ¬ (Cv_sq r13 r14 a2 a3 k) < (Cv_sq r13 r14 a2 a3 i) from h_2), if_pos (show (Cv_sq r13 r14 a2 a3 k) = (Cv_sq r13 r14 a2 a3 i) from h_3), if_pos (show (nI i) ≤ (nI k) from h_4)]))] at hx
          exact ih (k + 1) s  (by omega) hx
        · refine ab_iinc (v := (s + 1)) (la' := [(5, .int (s + 1)), (7, .int (Cv_sq r13 r14 a2 a3 k)), (6, .int (nI k)), (4, .int (Cv_sq r13 r14 a2 a3 i)), (3, .int a3), (2, .int a2), (1, .int (nI i)), (0, .ref 12)]) dX1_placeByMiss_54 rfl rfl (by decide) rfl ?_
          refine ab_iinc (v := (nI (k + 1))) (la' := [(6, .int (nI (k + 1))), (5, .int (s + 1)), (7, .int (Cv_sq r13 r14 a2 a3 k)), (4, .int (Cv_sq r13 r14 a2 a3 i)), (3, .int a3), (2, .int a2), (1, .int (nI i)), (0, .ref 12)]) dX1_placeByMiss_57 rfl (nI_1 _) (by decide) rfl ?_
          refine ab_goto 15 dX1_placeByMiss_60 (by decide) ?_
          refine ab_pick [0, 1, 3, 4, 5, 6, 7] rfl ?_
          rw [(itr_s (lp_pm_st r13 r14 a3 a2 i) n k s).trans (congrArg (itr (lp_pm_st r13 r14 a3 a2 i) n (k + 1)) (show lp_pm_st r13 r14 a3 a2 i k s = (s + 1) from by rw [lp_pm_st, if_neg (show ¬ (Cv_sq r13 r14 a2 a3 k) < (Cv_sq r13 r14 a2 a3 i) from h_2), if_pos (show (Cv_sq r13 r14 a2 a3 k) = (Cv_sq r13 r14 a2 a3 i) from h_3), if_neg (show ¬ (nI i) ≤ (nI k) from h_4)]))] at hx
          exact ih (k + 1) (s + 1)  (by omega) hx
theorem c_X1_placeByMiss {x0 x1 x2 x3 x4 x5 x6 x7 x8 x9 x10 x11 x15 x16 x17 x18 x19 x20 x21 x22 x23 x24 x25 x26 x27 x28 x29 x30 x31 x32 : ax_E} {f12_6 f12_7 f12_8 f12_9 a2 a3 : Int32} {r13 r14 : Nat → Int32} {wm : List ax_E} {c i : Nat} (hc : c ≤ 40) (h_i : i < c) : Ct M_X1_placeByMiss [.ref 12, .int (nI i), .int a2, .int a3] ([x0, x1, x2, x3, x4, x5, x6, x7, x8, x9, x10, x11, ob 1 [.ref 13, .ref 14, .ref 15, .ref 16, .ref 17, .int (nI c), .int f12_6, .int f12_7, .int f12_8, .int f12_9], ia 40 r13, ia 40 r14, x15, x16, x17, x18, x19, x20, x21, x22, x23, x24, x25, x26, x27, x28, x29, x30, x31, x32], wm) (fun r w' => r = some (.int (itr (lp_pm_st r13 r14 a3 a2 i) c 0 0)) ∧ w' = ([x0, x1, x2, x3, x4, x5, x6, x7, x8, x9, x10, x11, ob 1 [.ref 13, .ref 14, .ref 15, .ref 16, .ref 17, .int (nI c), .int f12_6, .int f12_7, .int f12_8, .int f12_9], ia 40 r13, ia 40 r14, x15, x16, x17, x18, x19, x20, x21, x22, x23, x24, x25, x26, x27, x28, x29, x30, x31, x32], wm)) := by
  refine ct_of ⟨by decide, rfl⟩ (Nat.le_of_ble_eq_true rfl) ?_
  refine ab_aload_n dX1_placeByMiss_0 rfl ?_
  refine ab_iload_n dX1_placeByMiss_1 rfl ?_
  refine ab_iload_n dX1_placeByMiss_2 rfl ?_
  refine ab_iload_n dX1_placeByMiss_3 rfl ?_
  refine ab_callV (As := [.int (nI i), .int a2, .int a3]) (rest := []) dX1_placeByMiss_4 mv_X1_squareFrom ml_X1_91 ⟨by decide, by decide, rfl, rfl, rfl⟩ (by decide) rfl rfl (Nat.le_of_ble_eq_true rfl) rfl (c_X1_squareFrom (j1 := i) (ix_nI (by omega) (by decide))) ?_
  rintro r w' ⟨rfl, rfl⟩
  refine ab_istore (la' := [(4, .int (Cv_sq r13 r14 a2 a3 i)), (0, .ref 12), (1, .int (nI i)), (2, .int a2), (3, .int a3)]) dX1_placeByMiss_7 (by decide) rfl ?_
  refine ab_iconst (v := 0) dX1_placeByMiss_9 (by decide) ?_
  refine ab_istore (la' := [(5, .int 0), (4, .int (Cv_sq r13 r14 a2 a3 i)), (0, .ref 12), (1, .int (nI i)), (2, .int a2), (3, .int a3)]) dX1_placeByMiss_10 (by decide) rfl ?_
  refine ab_iconst (v := 0) dX1_placeByMiss_12 (by decide) ?_
  refine ab_istore (la' := [(6, .int 0), (5, .int 0), (4, .int (Cv_sq r13 r14 a2 a3 i)), (0, .ref 12), (1, .int (nI i)), (2, .int a2), (3, .int a3)]) dX1_placeByMiss_13 (by decide) rfl ?_
  refine ab_pick [0, 1, 2, 6, 5, 4, 3] rfl ?_
  refine lp_pm hc c 0 0 (by omega) ?_
  refine ab_iload dX1_placeByMiss_63 rfl ?_
  exact ab_iret dX1_placeByMiss_65 rfl (by decide) (⟨rfl, rfl⟩)
def lp_am_st (r13 : Nat → Int32) (r14 : Nat → Int32) (r15 : Nat → Int32) (a3 : Int32) (a2 : Int32) (a1 : Int32) (c : Nat) (k : Nat)  (_ : Unit) : (Unit) ⊕ Int32 := (if (itr (lp_pm_st r13 r14 a2 a1 k) c 0 0) = a3 then (.inr (r15 k)) else (.inl ()))
set_option maxHeartbeats 400000 in
theorem lp_am {x0 x1 x2 x3 x4 x5 x6 x7 x8 x9 x10 x11 x16 x17 x18 x19 x20 x21 x22 x23 x24 x25 x26 x27 x28 x29 x30 x31 x32 : ax_E} {f12_6 f12_7 f12_8 f12_9 a3 a2 a1 : Int32} {r13 r14 r15 : Nat → Int32} {wm : List ax_E} {c : Nat} {Q : Option Value → ax_W → Prop} (hc : c ≤ 40) : ∀ (n k : Nat)  , k + n = c → (∀ (_ : (itx (lp_am_st r13 r14 r15 a3 a2 a1 c) n k ()) = .inl ()) , Ab M_X1_angleByMiss Q (0, 0) 38 [(4, .int (nI c)), (3, .int a3), (2, .int a2), (1, .int a1), (0, .ref 12)] [] ([x0, x1, x2, x3, x4, x5, x6, x7, x8, x9, x10, x11, ob 1 [.ref 13, .ref 14, .ref 15, .ref 16, .ref 17, .int (nI c), .int f12_6, .int f12_7, .int f12_8, .int f12_9], ia 40 r13, ia 40 r14, ia 40 r15, x16, x17, x18, x19, x20, x21, x22, x23, x24, x25, x26, x27, x28, x29, x30, x31, x32], wm)) → (∀ r : Int32, (itx (lp_am_st r13 r14 r15 a3 a2 a1 c) n k ()) = .inr r → ∀ (_ : Unit), Q (some (.int r)) ([x0, x1, x2, x3, x4, x5, x6, x7, x8, x9, x10, x11, ob 1 [.ref 13, .ref 14, .ref 15, .ref 16, .ref 17, .int (nI c), .int f12_6, .int f12_7, .int f12_8, .int f12_9], ia 40 r13, ia 40 r14, ia 40 r15, x16, x17, x18, x19, x20, x21, x22, x23, x24, x25, x26, x27, x28, x29, x30, x31, x32], wm)) → Ab M_X1_angleByMiss Q (0, 0) 3 [(4, .int (nI k)), (3, .int a3), (2, .int a2), (1, .int a1), (0, .ref 12)] [] ([x0, x1, x2, x3, x4, x5, x6, x7, x8, x9, x10, x11, ob 1 [.ref 13, .ref 14, .ref 15, .ref 16, .ref 17, .int (nI c), .int f12_6, .int f12_7, .int f12_8, .int f12_9], ia 40 r13, ia 40 r14, ia 40 r15, x16, x17, x18, x19, x20, x21, x22, x23, x24, x25, x26, x27, x28, x29, x30, x31, x32], wm) := by
  intro n
  induction n with
  | zero =>
    intro k   hk hx hr
    have hE0 := itx_0 (lp_am_st r13 r14 r15 a3 a2 a1 c) k ()
    obtain rfl : k = c := by omega
    refine ab_iload dX1_angleByMiss_3 rfl ?_
    refine ab_aload_n dX1_angleByMiss_5 rfl ?_
    refine ab_getf dX1_angleByMiss_6 fl_X1_29 rfl rfl ?_
    refine ab_icmpge 38 dX1_angleByMiss_9 (by decide) (fun h_1 => ?_) (fun h_1 => absurd (nI_le (Nat.le_refl _) (by omega)) h_1)
    refine ab_pick [0, 1, 2, 3, 4] rfl ?_
    exact hx  hE0 
  | succ n ih =>
    intro k   hk hx hr
    refine ab_iload dX1_angleByMiss_3 rfl ?_
    refine ab_aload_n dX1_angleByMiss_5 rfl ?_
    refine ab_getf dX1_angleByMiss_6 fl_X1_29 rfl rfl ?_
    refine ab_icmpge 38 dX1_angleByMiss_9 (by decide) (fun h_1 => absurd h_1 (nI_ge (a := k) (b := c) (by omega) (by omega))) (fun h_1 => ?_)
    refine ab_aload_n dX1_angleByMiss_12 rfl ?_
    refine ab_iload dX1_angleByMiss_13 rfl ?_
    refine ab_iload_n dX1_angleByMiss_15 rfl ?_
    refine ab_iload_n dX1_angleByMiss_16 rfl ?_
    refine ab_callV (As := [.int (nI k), .int a1, .int a2]) (rest := []) dX1_angleByMiss_17 mv_X1_placeByMiss ml_X1_95 ⟨by decide, by decide, rfl, rfl, rfl⟩ (by decide) rfl rfl (Nat.le_of_ble_eq_true rfl) rfl (c_X1_placeByMiss (c := c) (i := k) hc (by omega)) ?_
    rintro r w' ⟨rfl, rfl⟩
    refine ab_iload_n dX1_angleByMiss_20 rfl ?_
    refine ab_icmpne 32 dX1_angleByMiss_21 (by decide) (fun h_2 => ?_) (fun h_2 => ?_)
    · refine ab_iinc (v := (nI (k + 1))) (la' := [(4, .int (nI (k + 1))), (3, .int a3), (2, .int a2), (1, .int a1), (0, .ref 12)]) dX1_angleByMiss_32 rfl (nI_1 _) (by decide) rfl ?_
      refine ab_goto 3 dX1_angleByMiss_35 (by decide) ?_
      refine ab_pick [0, 1, 2, 3, 4] rfl ?_
      rw [itx_l (f := (lp_am_st r13 r14 r15 a3 a2 a1 c)) (n := n) (k := k) (s := ()) (show lp_am_st r13 r14 r15 a3 a2 a1 c k  () = .inl () from by rw [lp_am_st, if_neg (show ¬ (itr (lp_pm_st r13 r14 a2 a1 k) c 0 0) = a3 from h_2)])] at hx hr
      exact ih (k + 1)   (by omega) hx hr
    · refine ab_aload_n dX1_angleByMiss_24 rfl ?_
      refine ab_getf dX1_angleByMiss_25 fl_X1_20 rfl rfl ?_
      refine ab_iload dX1_angleByMiss_28 rfl ?_
      refine ab_iald (j := k) dX1_angleByMiss_30 rfl (ix_nI (by omega) (by decide)) ?_
      exact ab_iret dX1_angleByMiss_31 rfl (by decide) (hr (r15 k) (itx_r (show lp_am_st r13 r14 r15 a3 a2 a1 c k  () = .inr (r15 k) from by rw [lp_am_st, if_pos (show (itr (lp_pm_st r13 r14 a2 a1 k) c 0 0) = a3 from h_2)])) ())
theorem c_X1_angleByMiss {x0 x1 x2 x3 x4 x5 x6 x7 x8 x9 x10 x11 x16 x17 x18 x19 x20 x21 x22 x23 x24 x25 x26 x27 x28 x29 x30 x31 x32 : ax_E} {f12_6 f12_7 f12_8 f12_9 a1 a2 a3 : Int32} {r13 r14 r15 : Nat → Int32} {wm : List ax_E} {c : Nat} (hc : c ≤ 40) : Ct M_X1_angleByMiss [.ref 12, .int a1, .int a2, .int a3] ([x0, x1, x2, x3, x4, x5, x6, x7, x8, x9, x10, x11, ob 1 [.ref 13, .ref 14, .ref 15, .ref 16, .ref 17, .int (nI c), .int f12_6, .int f12_7, .int f12_8, .int f12_9], ia 40 r13, ia 40 r14, ia 40 r15, x16, x17, x18, x19, x20, x21, x22, x23, x24, x25, x26, x27, x28, x29, x30, x31, x32], wm) (fun r w' => (((itx (lp_am_st r13 r14 r15 a3 a2 a1 c) c 0 ()) = .inl ()) ∧ r = some (.int (-1)) ∧ w' = ([x0, x1, x2, x3, x4, x5, x6, x7, x8, x9, x10, x11, ob 1 [.ref 13, .ref 14, .ref 15, .ref 16, .ref 17, .int (nI c), .int f12_6, .int f12_7, .int f12_8, .int f12_9], ia 40 r13, ia 40 r14, ia 40 r15, x16, x17, x18, x19, x20, x21, x22, x23, x24, x25, x26, x27, x28, x29, x30, x31, x32], wm)) ∨ (∃ r_2 : Int32, ((itx (lp_am_st r13 r14 r15 a3 a2 a1 c) c 0 ()) = .inr r_2) ∧ r = some (.int r_2) ∧ w' = ([x0, x1, x2, x3, x4, x5, x6, x7, x8, x9, x10, x11, ob 1 [.ref 13, .ref 14, .ref 15, .ref 16, .ref 17, .int (nI c), .int f12_6, .int f12_7, .int f12_8, .int f12_9], ia 40 r13, ia 40 r14, ia 40 r15, x16, x17, x18, x19, x20, x21, x22, x23, x24, x25, x26, x27, x28, x29, x30, x31, x32], wm))) := by
  refine ct_of ⟨by decide, rfl⟩ (Nat.le_of_ble_eq_true rfl) ?_
  refine ab_iconst (v := 0) dX1_angleByMiss_0 (by decide) ?_
  refine ab_istore (la' := [(4, .int 0), (0, .ref 12), (1, .int a1), (2, .int a2), (3, .int a3)]) dX1_angleByMiss_1 (by decide) rfl ?_
  refine ab_pick [0, 4, 3, 2, 1] rfl ?_
  refine lp_am hc c 0 (by omega) ?_ ?_
  · intro hE_1
    refine ab_iconst (v := -1) dX1_angleByMiss_38 (by decide) ?_
    exact ab_iret dX1_angleByMiss_39 rfl (by decide) (Or.inl ⟨hE_1, rfl, rfl⟩)
  · intro r_2 hR_3 _
    exact (Or.inr (⟨r_2, hR_3, rfl, rfl⟩))
