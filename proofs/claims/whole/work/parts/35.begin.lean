theorem ab_world {Y : ax_M} {Q : Option Value → ax_W → Prop} {kn : Nat × Nat} {pc : Nat} {la : List (Nat × Value)} {st : List Value} {w : ax_W} (w1 : ax_W) (h : w1 = w) (k : Ab Y Q kn pc la st w1) : Ab Y Q kn pc la st w := by rw [← h]; exact k
/-- what a row has learned below k -/
def lrn (f r : Nat → Int32) (k : Nat) : Nat → Int32 := fun j => if j < k then f j else r j
theorem lrn_0 (f r : Nat → Int32) : lrn f r 0 = r := by funext j; simp [lrn]
theorem lrn_s (f r : Nat → Int32) (k : Nat) : upd (lrn f r k) k (f k) = lrn f r (k + 1) := by
  funext j
  unfold upd lrn
  by_cases h : j = k
  · subst h; simp
  · rw [if_neg h]
    by_cases h2 : j < k
    · rw [if_pos h2, if_pos (by omega)]
    · rw [if_neg h2, if_neg (by omega)]
theorem lp_begin {f0_0 f25_3 f25_4 f25_5 f25_6 f25_7 a1 a2 a3 : Int32} {x1 x2 x3 x7 x8 x9 x12 x13 x14 x15 x16 x17 x18 x19 x20 x21 x22 x23 x24 x27 x28 x29 x30 x31 x32 : ax_E} {r5 r6 r26 : Nat → Int32} {wm : List ax_E} (h_k : 0 ≤ a2 ∧ a2 < 40) (h_b : 0 ≤ a3 ∧ a3 < 2) : ∀ (n k : Nat) (g : Nat → Int64), k + n = 40 →  Ab M_X10_begin (fun r w' => ∃ g : Nat → Int64, r = some (.int 1) ∧ w' = ([ob 8 [.int f0_0, .ref 1, .ref 4, .ref 7, .ref 10, .ref 11, .ref 12, .ref 18, .ref 25, .ref 29], x1, x2, x3, ob 2 [.ref 5, .ref 6], ia 56 r5, ia 4 r6, x7, x8, x9, ob 3 [.int (Bg r5 a1), .int (Ba r5 a1), .int (Bb r5 a1), .int (Bc r5 a1)], ob 5 [.long (g 0), .long (g 1), .long (g 2), .long (g 3), .long (g 4), .long (g 5), .long (g 6), .long (g 7), .long (g 8), .long (g 9), .long (g 10), .long (g 11), .long (g 12), .long (g 13), .long (g 14), .long (g 15)], x12, x13, x14, x15, x16, x17, x18, x19, x20, x21, x22, x23, x24, ob 7 [.ref 26, .ref 27, .ref 28, .int f25_3, .int a1, .int a2, .int (if a3 = 0 then 0 else 1), .int 0], ia 40 (lrn (stA r5 a1) r26 40), x27, x28, x29, x30, x31, x32], wm)) (0, 0) 39 [(4, .int (nI k)), (3, .int a3), (2, .int a2), (1, .int a1), (0, .ref 0)] [] ([ob 8 [.int f0_0, .ref 1, .ref 4, .ref 7, .ref 10, .ref 11, .ref 12, .ref 18, .ref 25, .ref 29], x1, x2, x3, ob 2 [.ref 5, .ref 6], ia 56 r5, ia 4 r6, x7, x8, x9, ob 3 [.int (Bg r5 a1), .int (Ba r5 a1), .int (Bb r5 a1), .int (Bc r5 a1)], ob 5 [.long (g 0), .long (g 1), .long (g 2), .long (g 3), .long (g 4), .long (g 5), .long (g 6), .long (g 7), .long (g 8), .long (g 9), .long (g 10), .long (g 11), .long (g 12), .long (g 13), .long (g 14), .long (g 15)], x12, x13, x14, x15, x16, x17, x18, x19, x20, x21, x22, x23, x24, ob 7 [.ref 26, .ref 27, .ref 28, .int f25_3, .int f25_4, .int f25_5, .int f25_6, .int f25_7], ia 40 (lrn (stA r5 a1) r26 k), x27, x28, x29, x30, x31, x32], wm) := by
  intro n
  induction n with
  | zero =>
    intro k g hk 
    refine ab_iload dX10_begin_39 rfl ?_
    refine ab_bipush (v := 40) dX10_begin_41 (by decide) ?_
    refine ab_icmpge 81 dX10_begin_43 (by decide) (fun h_1 => ?_) (fun h_1 => absurd (nI_le (a := 40) (by omega) (by omega)) h_1)
    refine ab_aload_n dX10_begin_81 rfl ?_
    refine ab_getf dX10_begin_82 fl_X10_61 rfl rfl ?_
    refine ab_iload_n dX10_begin_85 rfl ?_
    refine ab_iload_n dX10_begin_86 rfl ?_
    refine ab_iload_n dX10_begin_87 rfl ?_
    refine ab_callV (As := [.int a1, .int a2, .int a3]) (rest := []) dX10_begin_88 mv_X8_start ml_X10_345 ⟨by decide, by decide, rfl, rfl, rfl⟩ (by decide) rfl rfl (Nat.le_of_ble_eq_true rfl) rfl (c_X8_start h_k) ?_
    rintro r w' (⟨c_2, rfl, rfl⟩ | ⟨c_3, rfl, rfl⟩)
    · refine ab_iconst (v := 1) dX10_begin_91 (by decide) ?_
      exact ab_zret dX10_begin_92 rfl rfl (by decide) ⟨g, rfl, by rw [show k = 40 by omega]; rw [if_neg (show ¬ a3 = 0 from c_2)]⟩
    · refine ab_iconst (v := 1) dX10_begin_91 (by decide) ?_
      exact ab_zret dX10_begin_92 rfl rfl (by decide) ⟨g, rfl, by rw [show k = 40 by omega]; rw [if_pos (show a3 = 0 from c_3)]⟩
  | succ n ih =>
    intro k g hk 
    have hkk : 0 ≤ nI k ∧ nI k < 40 := ⟨nI_pos' (by omega), nI_lt (b := 40) (by omega) (by decide)⟩
    refine ab_iload dX10_begin_39 rfl ?_
    refine ab_bipush (v := 40) dX10_begin_41 (by decide) ?_
    refine ab_icmpge 81 dX10_begin_43 (by decide) (fun h_1 => absurd h_1 (nI_ge (b := 40) (by omega) (by decide))) (fun h_1 => ?_)
    refine ab_aload_n dX10_begin_46 rfl ?_
    refine ab_getf dX10_begin_47 fl_X10_40 rfl rfl ?_
    refine ab_aload_n dX10_begin_50 rfl ?_
    refine ab_getf dX10_begin_51 fl_X10_33 rfl rfl ?_
    refine ab_iload dX10_begin_54 rfl ?_
    refine ab_callV (As := [.ref 10, .int (nI k)]) (rest := []) dX10_begin_56 mv_X5_set ml_X10_236 ⟨by decide, by decide, rfl, rfl, rfl⟩ (by decide) rfl rfl (Nat.le_of_ble_eq_true rfl) rfl (c_X5_set hkk) ?_
    rintro r w' ⟨rfl, rfl⟩
    refine ab_aload_n dX10_begin_59 rfl ?_
    refine ab_getf dX10_begin_60 fl_X10_61 rfl rfl ?_
    refine ab_iload dX10_begin_63 rfl ?_
    refine ab_aload_n dX10_begin_65 rfl ?_
    refine ab_getf dX10_begin_66 fl_X10_40 rfl rfl ?_
    refine ab_callV (As := []) (rest := [.int (nI k), .ref 25]) dX10_begin_69 mv_X5_state ml_X10_170 ⟨by decide, by decide, rfl, rfl, rfl⟩ (by decide) rfl rfl (Nat.le_of_ble_eq_true rfl) rfl c_X5_state ?_
    rintro r w' ⟨rfl, rfl⟩
    refine ab_callV (As := [.int (nI k), .int (Ps_state (Ps_s (Bg r5 a1) (Ba r5 a1) (nI k)) (Ps_k (Bg r5 a1) (Ba r5 a1) (Bb r5 a1) (Bc r5 a1) (nI k)))]) (rest := []) dX10_begin_72 mv_X8_learn ml_X10_341 ⟨by decide, by decide, rfl, rfl, rfl⟩ (by decide) rfl rfl (Nat.le_of_ble_eq_true rfl) rfl (c_X8_learn (j1 := k) (ix_nI (by omega) (by decide)) hkk) ?_
    rintro r w' ⟨rfl, rfl⟩
    refine ab_iinc (v := (nI (k + 1))) (la' := [(4, .int (nI (k + 1))), (3, .int a3), (2, .int a2), (1, .int a1), (0, .ref 0)]) dX10_begin_75 rfl (nI_1 _) (by decide) rfl ?_
    refine ab_goto 39 dX10_begin_78 (by decide) ?_
    refine ab_pick [0, 1, 2, 3, 4] rfl ?_
    have e1 := lrn_s (stA r5 a1) r26 k
    have h9 := ih (k + 1) (fun i => [(Ps_n (nI k)), (Ps_d (nI k)), (Ps_s (Bg r5 a1) (Ba r5 a1) (nI k)), (Ps_k (Bg r5 a1) (Ba r5 a1) (Bb r5 a1) (Bc r5 a1) (nI k)), (Int32.toInt64 (Bg r5 a1)), (Int32.toInt64 (Ba r5 a1)), (Int32.toInt64 (Bb r5 a1)), (Int32.toInt64 (Bc r5 a1)), (Ps_c (nI k)), (Ps_e (Bg r5 a1) (Ba r5 a1) (Bb r5 a1) (Bc r5 a1) (nI k)), (Ps_x (Bg r5 a1) (Ba r5 a1) (nI k)), (Ps_y (Ba r5 a1) (nI k)), (g 12), (g 13), (g 14), (g 15)].getD i 0) (by omega)
    rw [← e1] at h9
    exact h9
theorem c_X10_begin {f0_0 f10_0 f10_1 f10_2 f10_3 f25_3 f25_4 f25_5 f25_6 f25_7 a1 a2 a3 : Int32} {x1 x2 x3 x7 x8 x9 x12 x13 x14 x15 x16 x17 x18 x19 x20 x21 x22 x23 x24 x27 x28 x29 x30 x31 x32 : ax_E} {r5 r6 r26 : Nat → Int32} {f11_0 f11_1 f11_2 f11_3 f11_4 f11_5 f11_6 f11_7 f11_8 f11_9 f11_10 f11_11 f11_12 f11_13 f11_14 f11_15 : Int64} {wm : List ax_E} (h_c : r6 0 ≤ nI 4) : Ct M_X10_begin [.ref 0, .int a1, .int a2, .int a3] ([ob 8 [.int f0_0, .ref 1, .ref 4, .ref 7, .ref 10, .ref 11, .ref 12, .ref 18, .ref 25, .ref 29], x1, x2, x3, ob 2 [.ref 5, .ref 6], ia 56 r5, ia 4 r6, x7, x8, x9, ob 3 [.int f10_0, .int f10_1, .int f10_2, .int f10_3], ob 5 [.long f11_0, .long f11_1, .long f11_2, .long f11_3, .long f11_4, .long f11_5, .long f11_6, .long f11_7, .long f11_8, .long f11_9, .long f11_10, .long f11_11, .long f11_12, .long f11_13, .long f11_14, .long f11_15], x12, x13, x14, x15, x16, x17, x18, x19, x20, x21, x22, x23, x24, ob 7 [.ref 26, .ref 27, .ref 28, .int f25_3, .int f25_4, .int f25_5, .int f25_6, .int f25_7], ia 40 r26, x27, x28, x29, x30, x31, x32], wm) (fun r w' => (∃ g : Nat → Int64, ((0 ≤ a1 ∧ a1 < r6 0) ∧ (0 ≤ a2 ∧ a2 < 40) ∧ (0 ≤ a3 ∧ a3 < 2)) ∧ (0 < (Ps_s (Bg r5 a1) (Ba r5 a1) a2) ∧ 0 ≤ (Ps_k (Bg r5 a1) (Ba r5 a1) (Bb r5 a1) (Bc r5 a1) a2)) ∧ r = some (.int 1) ∧ w' = ([ob 8 [.int 0, .ref 1, .ref 4, .ref 7, .ref 10, .ref 11, .ref 12, .ref 18, .ref 25, .ref 29], x1, x2, x3, ob 2 [.ref 5, .ref 6], ia 56 r5, ia 4 r6, x7, x8, x9, ob 3 [.int (Bg r5 a1), .int (Ba r5 a1), .int (Bb r5 a1), .int (Bc r5 a1)], ob 5 [.long (g 0), .long (g 1), .long (g 2), .long (g 3), .long (g 4), .long (g 5), .long (g 6), .long (g 7), .long (g 8), .long (g 9), .long (g 10), .long (g 11), .long (g 12), .long (g 13), .long (g 14), .long (g 15)], x12, x13, x14, x15, x16, x17, x18, x19, x20, x21, x22, x23, x24, ob 7 [.ref 26, .ref 27, .ref 28, .int f25_3, .int a1, .int a2, .int (if a3 = 0 then 0 else 1), .int 0], ia 40 (lrn (stA r5 a1) r26 40), x27, x28, x29, x30, x31, x32], wm)) ∨ (((0 ≤ a1 ∧ a1 < r6 0) ∧ (0 ≤ a2 ∧ a2 < 40) ∧ (0 ≤ a3 ∧ a3 < 2)) ∧ (¬ (0 < (Ps_s (Bg r5 a1) (Ba r5 a1) a2) ∧ 0 ≤ (Ps_k (Bg r5 a1) (Ba r5 a1) (Bb r5 a1) (Bc r5 a1) a2))) ∧ r = some (.int 0) ∧ w' = ([ob 8 [.int 5, .ref 1, .ref 4, .ref 7, .ref 10, .ref 11, .ref 12, .ref 18, .ref 25, .ref 29], x1, x2, x3, ob 2 [.ref 5, .ref 6], ia 56 r5, ia 4 r6, x7, x8, x9, ob 3 [.int (Bg r5 a1), .int (Ba r5 a1), .int (Bb r5 a1), .int (Bc r5 a1)], ob 5 [.long (Ps_n a2), .long (Ps_d a2), .long (Ps_s (Bg r5 a1) (Ba r5 a1) a2), .long (Ps_k (Bg r5 a1) (Ba r5 a1) (Bb r5 a1) (Bc r5 a1) a2), .long (Int32.toInt64 (Bg r5 a1)), .long (Int32.toInt64 (Ba r5 a1)), .long (Int32.toInt64 (Bb r5 a1)), .long (Int32.toInt64 (Bc r5 a1)), .long (Ps_c a2), .long (Ps_e (Bg r5 a1) (Ba r5 a1) (Bb r5 a1) (Bc r5 a1) a2), .long (Ps_x (Bg r5 a1) (Ba r5 a1) a2), .long (Ps_y (Ba r5 a1) a2), .long f11_12, .long f11_13, .long f11_14, .long f11_15], x12, x13, x14, x15, x16, x17, x18, x19, x20, x21, x22, x23, x24, ob 7 [.ref 26, .ref 27, .ref 28, .int f25_3, .int f25_4, .int f25_5, .int f25_6, .int f25_7], ia 40 r26, x27, x28, x29, x30, x31, x32], wm)) ∨ ((¬ ((0 ≤ a1 ∧ a1 < r6 0) ∧ (0 ≤ a2 ∧ a2 < 40) ∧ (0 ≤ a3 ∧ a3 < 2))) ∧ r = some (.int 0) ∧ w' = ([ob 8 [.int 1, .ref 1, .ref 4, .ref 7, .ref 10, .ref 11, .ref 12, .ref 18, .ref 25, .ref 29], x1, x2, x3, ob 2 [.ref 5, .ref 6], ia 56 r5, ia 4 r6, x7, x8, x9, ob 3 [.int f10_0, .int f10_1, .int f10_2, .int f10_3], ob 5 [.long f11_0, .long f11_1, .long f11_2, .long f11_3, .long f11_4, .long f11_5, .long f11_6, .long f11_7, .long f11_8, .long f11_9, .long f11_10, .long f11_11, .long f11_12, .long f11_13, .long f11_14, .long f11_15], x12, x13, x14, x15, x16, x17, x18, x19, x20, x21, x22, x23, x24, ob 7 [.ref 26, .ref 27, .ref 28, .int f25_3, .int f25_4, .int f25_5, .int f25_6, .int f25_7], ia 40 r26, x27, x28, x29, x30, x31, x32], wm))) := by
  refine ct_of ⟨by decide, rfl⟩ (Nat.le_of_ble_eq_true rfl) ?_
  refine ab_aload_n dX10_begin_0 rfl ?_
  refine ab_aload_n dX10_begin_1 rfl ?_
  refine ab_iload_n dX10_begin_2 rfl ?_
  refine ab_iload_n dX10_begin_3 rfl ?_
  refine ab_iload_n dX10_begin_4 rfl ?_
  refine ab_callV (As := [.int a1, .int a2, .int a3]) (rest := [.ref 0]) dX10_begin_5 mv_X10_hasPosition ml_X10_199 ⟨by decide, by decide, rfl, rfl, rfl⟩ (by decide) rfl rfl (Nat.le_of_ble_eq_true rfl) rfl c_X10_hasPosition ?_
  rintro r w' (⟨c_1, rfl, rfl⟩ | ⟨c_2, rfl, rfl⟩)
  · refine ab_iconst (v := 1) dX10_begin_8 (by decide) ?_
    refine ab_callV (As := [.int 1, .int 1]) (rest := []) dX10_begin_9 mv_X10_refused ml_X10_84 ⟨by decide, by decide, rfl, rfl, rfl⟩ (by decide) rfl rfl (Nat.le_of_ble_eq_true rfl) rfl c_X10_refused_1 ?_
    rintro r w' ⟨rfl, rfl⟩
    refine ab_ifeq 17 dX10_begin_12 (by decide) (fun h_3 => ?_) (fun h_3 => absurd (by decide) h_3)
    refine ab_aload_n dX10_begin_17 rfl ?_
    refine ab_aload_n dX10_begin_18 rfl ?_
    refine ab_iload_n dX10_begin_19 rfl ?_
    refine ab_iload_n dX10_begin_20 rfl ?_
    refine ab_callV (As := [.int a1, .int a2]) (rest := [.ref 0]) dX10_begin_21 mv_X10_positionAt ml_X10_166 ⟨by decide, by decide, rfl, rfl, rfl⟩ (by decide) rfl rfl (Nat.le_of_ble_eq_true rfl) rfl (c_X10_positionAt c_1.1 h_c c_1.2.1) ?_
    rintro r w' ⟨rfl, rfl⟩
    refine ab_callV (As := []) (rest := [.ref 0]) dX10_begin_24 mv_X5_isLawful ml_X10_203 ⟨by decide, by decide, rfl, rfl, rfl⟩ (by decide) rfl rfl (Nat.le_of_ble_eq_true rfl) rfl c_X5_isLawful ?_
    rintro r w' (⟨c_4, rfl, rfl⟩ | ⟨c_5, rfl, rfl⟩)
    · refine ab_iconst (v := 5) dX10_begin_27 (by decide) ?_
      refine ab_callV (As := [.int 1, .int 5]) (rest := []) dX10_begin_28 mv_X10_refused ml_X10_84 ⟨by decide, by decide, rfl, rfl, rfl⟩ (by decide) rfl rfl (Nat.le_of_ble_eq_true rfl) rfl c_X10_refused_1 ?_
      rintro r w' ⟨rfl, rfl⟩
      refine ab_ifeq 36 dX10_begin_31 (by decide) (fun h_6 => ?_) (fun h_6 => absurd (by decide) h_6)
      refine ab_iconst (v := 0) dX10_begin_36 (by decide) ?_
      refine ab_istore (la' := [(4, .int 0), (0, .ref 0), (1, .int a1), (2, .int a2), (3, .int a3)]) dX10_begin_37 (by decide) rfl ?_
      refine ab_pick [0, 4, 3, 2, 1] rfl ?_
      refine ab_world ([ob 8 [.int 0, .ref 1, .ref 4, .ref 7, .ref 10, .ref 11, .ref 12, .ref 18, .ref 25, .ref 29], x1, x2, x3, ob 2 [.ref 5, .ref 6], ia 56 r5, ia 4 r6, x7, x8, x9, ob 3 [.int (Bg r5 a1), .int (Ba r5 a1), .int (Bb r5 a1), .int (Bc r5 a1)], ob 5 [.long (Ps_n a2), .long (Ps_d a2), .long (Ps_s (Bg r5 a1) (Ba r5 a1) a2), .long (Ps_k (Bg r5 a1) (Ba r5 a1) (Bb r5 a1) (Bc r5 a1) a2), .long (Int32.toInt64 (Bg r5 a1)), .long (Int32.toInt64 (Ba r5 a1)), .long (Int32.toInt64 (Bb r5 a1)), .long (Int32.toInt64 (Bc r5 a1)), .long (Ps_c a2), .long (Ps_e (Bg r5 a1) (Ba r5 a1) (Bb r5 a1) (Bc r5 a1) a2), .long (Ps_x (Bg r5 a1) (Ba r5 a1) a2), .long (Ps_y (Ba r5 a1) a2), .long f11_12, .long f11_13, .long f11_14, .long f11_15], x12, x13, x14, x15, x16, x17, x18, x19, x20, x21, x22, x23, x24, ob 7 [.ref 26, .ref 27, .ref 28, .int f25_3, .int f25_4, .int f25_5, .int f25_6, .int f25_7], ia 40 (lrn (stA r5 a1) r26 0), x27, x28, x29, x30, x31, x32], wm) (by rw [lrn_0]) ?_
      refine Ct.mono2 (lp_begin c_1.2.1 c_1.2.2 40 0 (fun i => [(Ps_n a2), (Ps_d a2), (Ps_s (Bg r5 a1) (Ba r5 a1) a2), (Ps_k (Bg r5 a1) (Ba r5 a1) (Bb r5 a1) (Bc r5 a1) a2), (Int32.toInt64 (Bg r5 a1)), (Int32.toInt64 (Ba r5 a1)), (Int32.toInt64 (Bb r5 a1)), (Int32.toInt64 (Bc r5 a1)), (Ps_c a2), (Ps_e (Bg r5 a1) (Ba r5 a1) (Bb r5 a1) (Bc r5 a1) a2), (Ps_x (Bg r5 a1) (Ba r5 a1) a2), (Ps_y (Ba r5 a1) a2), f11_12, f11_13, f11_14, f11_15].getD i 0) (by omega)) ?_
      rintro r w' ⟨g, h1, h2⟩
      exact (Or.inl ⟨g, c_1, c_4, h1, h2⟩)
    · refine ab_iconst (v := 5) dX10_begin_27 (by decide) ?_
      refine ab_callV (As := [.int 0, .int 5]) (rest := []) dX10_begin_28 mv_X10_refused ml_X10_84 ⟨by decide, by decide, rfl, rfl, rfl⟩ (by decide) rfl rfl (Nat.le_of_ble_eq_true rfl) rfl c_X10_refused_0 ?_
      rintro r w' ⟨rfl, rfl⟩
      refine ab_ifeq 36 dX10_begin_31 (by decide) (fun h_7 => absurd h_7 (by decide)) (fun h_7 => ?_)
      refine ab_iconst (v := 0) dX10_begin_34 (by decide) ?_
      exact ab_zret dX10_begin_35 rfl rfl (by decide) (Or.inr (Or.inl ⟨c_1, c_5, rfl, rfl⟩))
  · refine ab_iconst (v := 1) dX10_begin_8 (by decide) ?_
    refine ab_callV (As := [.int 0, .int 1]) (rest := []) dX10_begin_9 mv_X10_refused ml_X10_84 ⟨by decide, by decide, rfl, rfl, rfl⟩ (by decide) rfl rfl (Nat.le_of_ble_eq_true rfl) rfl c_X10_refused_0 ?_
    rintro r w' ⟨rfl, rfl⟩
    refine ab_ifeq 17 dX10_begin_12 (by decide) (fun h_8 => absurd h_8 (by decide)) (fun h_8 => ?_)
    refine ab_iconst (v := 0) dX10_begin_15 (by decide) ?_
    exact ab_zret dX10_begin_16 rfl rfl (by decide) (Or.inr (Or.inr (⟨c_2, rfl, rfl⟩)))
