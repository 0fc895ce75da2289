/-- how many below k -/
def Cn (p : Nat → Bool) : Nat → Nat
  | 0 => 0
  | k + 1 => if p k = true then Cn p k + 1 else Cn p k
theorem cn_t {p : Nat → Bool} {k : Nat} (h : p k = true) : Cn p (k + 1) = Cn p k + 1 := by show (if _ then _ else _) = _; rw [if_pos h]
theorem cn_f {p : Nat → Bool} {k : Nat} (h : ¬ p k = true) : Cn p (k + 1) = Cn p k := by show (if _ then _ else _) = _; rw [if_neg h]
/-- a linkage's state at an angle, by the class -/
def stA (q : Nat → Int32) (l : Int32) (k : Nat) : Int32 := Ps_state (Ps_s (Bg q l) (Ba q l) (nI k)) (Ps_k (Bg q l) (Ba q l) (Bb q l) (Bc q l) (nI k))
theorem lp_countFrom {f0_0 a1 a2 : Int32} {x1 x2 x3 x7 x8 x9 x12 x13 x14 x15 x16 x17 x18 x19 x20 x21 x22 x23 x24 x25 x26 x27 x28 x29 x30 x31 x32 : ax_E} {r5 r6 : Nat → Int32} {wm : List ax_E}  : ∀ (n k : Nat) (g : Nat → Int64), k + n = 40 →  Ab M_X10_countFrom (fun r w' => ∃ g : Nat → Int64, r = some (.int (nI (Cn (fun j => decide (a2 ≤ stA r5 a1 j)) 40))) ∧ w' = ([ob 8 [.int f0_0, .ref 1, .ref 4, .ref 7, .ref 10, .ref 11, .ref 12, .ref 18, .ref 25, .ref 29], x1, x2, x3, ob 2 [.ref 5, .ref 6], ia 56 r5, ia 4 r6, x7, x8, x9, ob 3 [.int (Bg r5 a1), .int (Ba r5 a1), .int (Bb r5 a1), .int (Bc r5 a1)], ob 5 [.long (g 0), .long (g 1), .long (g 2), .long (g 3), .long (g 4), .long (g 5), .long (g 6), .long (g 7), .long (g 8), .long (g 9), .long (g 10), .long (g 11), .long (g 12), .long (g 13), .long (g 14), .long (g 15)], x12, x13, x14, x15, x16, x17, x18, x19, x20, x21, x22, x23, x24, x25, x26, x27, x28, x29, x30, x31, x32], wm)) (0, 0) 11 [(4, .int (nI k)), (3, .int (nI (Cn (fun j => decide (a2 ≤ stA r5 a1 j)) k))), (2, .int a2), (1, .int a1), (0, .ref 0)] [] ([ob 8 [.int f0_0, .ref 1, .ref 4, .ref 7, .ref 10, .ref 11, .ref 12, .ref 18, .ref 25, .ref 29], x1, x2, x3, ob 2 [.ref 5, .ref 6], ia 56 r5, ia 4 r6, x7, x8, x9, ob 3 [.int (Bg r5 a1), .int (Ba r5 a1), .int (Bb r5 a1), .int (Bc r5 a1)], ob 5 [.long (g 0), .long (g 1), .long (g 2), .long (g 3), .long (g 4), .long (g 5), .long (g 6), .long (g 7), .long (g 8), .long (g 9), .long (g 10), .long (g 11), .long (g 12), .long (g 13), .long (g 14), .long (g 15)], x12, x13, x14, x15, x16, x17, x18, x19, x20, x21, x22, x23, x24, x25, x26, x27, x28, x29, x30, x31, x32], wm) := by
  intro n
  induction n with
  | zero =>
    intro k g hk 
    refine ab_iload dX10_countFrom_11 rfl ?_
    refine ab_bipush (v := 40) dX10_countFrom_13 (by decide) ?_
    refine ab_icmpge 51 dX10_countFrom_15 (by decide) (fun h_1 => ?_) (fun h_1 => absurd (nI_le (a := 40) (by omega) (by omega)) h_1)
    refine ab_iload_n dX10_countFrom_51 rfl ?_
    exact ab_iret dX10_countFrom_52 rfl (by decide) ⟨g, by rw [show k = 40 by omega], rfl⟩
  | succ n ih =>
    intro k g hk 
    have hkk : 0 ≤ nI k ∧ nI k < 40 := ⟨nI_pos' (by omega), nI_lt (b := 40) (by omega) (by decide)⟩
    refine ab_iload dX10_countFrom_11 rfl ?_
    refine ab_bipush (v := 40) dX10_countFrom_13 (by decide) ?_
    refine ab_icmpge 51 dX10_countFrom_15 (by decide) (fun h_1 => absurd h_1 (nI_ge (b := 40) (by omega) (by decide))) (fun h_1 => ?_)
    refine ab_aload_n dX10_countFrom_18 rfl ?_
    refine ab_getf dX10_countFrom_19 fl_X10_40 rfl rfl ?_
    refine ab_aload_n dX10_countFrom_22 rfl ?_
    refine ab_getf dX10_countFrom_23 fl_X10_33 rfl rfl ?_
    refine ab_iload dX10_countFrom_26 rfl ?_
    refine ab_callV (As := [.ref 10, .int (nI k)]) (rest := []) dX10_countFrom_28 mv_X5_set ml_X10_236 ⟨by decide, by decide, rfl, rfl, rfl⟩ (by decide) rfl rfl (Nat.le_of_ble_eq_true rfl) rfl (c_X5_set hkk) ?_
    rintro r w' ⟨rfl, rfl⟩
    refine ab_aload_n dX10_countFrom_31 rfl ?_
    refine ab_getf dX10_countFrom_32 fl_X10_40 rfl rfl ?_
    refine ab_callV (As := []) (rest := []) dX10_countFrom_35 mv_X5_state ml_X10_170 ⟨by decide, by decide, rfl, rfl, rfl⟩ (by decide) rfl rfl (Nat.le_of_ble_eq_true rfl) rfl c_X5_state ?_
    rintro r w' ⟨rfl, rfl⟩
    refine ab_iload_n dX10_countFrom_38 rfl ?_
    refine ab_icmplt 45 dX10_countFrom_39 (by decide) (fun h_2 => ?_) (fun h_2 => ?_)
    · refine ab_iinc (v := (nI (k + 1))) (la' := [(4, .int (nI (k + 1))), (3, .int (nI (Cn (fun j => decide (a2 ≤ stA r5 a1 j)) k))), (2, .int a2), (1, .int a1), (0, .ref 0)]) dX10_countFrom_45 rfl (nI_1 _) (by decide) rfl ?_
      refine ab_goto 11 dX10_countFrom_48 (by decide) ?_
      refine ab_pick [0, 1, 2, 3, 4] rfl ?_
      have e1 := (cn_f (p := (fun j => decide (a2 ≤ stA r5 a1 j))) (k := k) (by simp only [decide_eq_true_eq]; exact Int32.not_le.mpr h_2))
      rw [← e1]
      exact ih (k + 1) (fun i => [(Ps_n (nI k)), (Ps_d (nI k)), (Ps_s (Bg r5 a1) (Ba r5 a1) (nI k)), (Ps_k (Bg r5 a1) (Ba r5 a1) (Bb r5 a1) (Bc r5 a1) (nI k)), (Int32.toInt64 (Bg r5 a1)), (Int32.toInt64 (Ba r5 a1)), (Int32.toInt64 (Bb r5 a1)), (Int32.toInt64 (Bc r5 a1)), (Ps_c (nI k)), (Ps_e (Bg r5 a1) (Ba r5 a1) (Bb r5 a1) (Bc r5 a1) (nI k)), (Ps_x (Bg r5 a1) (Ba r5 a1) (nI k)), (Ps_y (Ba r5 a1) (nI k)), (g 12), (g 13), (g 14), (g 15)].getD i 0) (by omega)
    · refine ab_iinc (v := (nI ((Cn (fun j => decide (a2 ≤ stA r5 a1 j)) k) + 1))) (la' := [(3, .int (nI ((Cn (fun j => decide (a2 ≤ stA r5 a1 j)) k) + 1))), (4, .int (nI k)), (2, .int a2), (1, .int a1), (0, .ref 0)]) dX10_countFrom_42 rfl (nI_1 _) (by decide) rfl ?_
      refine ab_iinc (v := (nI (k + 1))) (la' := [(4, .int (nI (k + 1))), (3, .int (nI ((Cn (fun j => decide (a2 ≤ stA r5 a1 j)) k) + 1))), (2, .int a2), (1, .int a1), (0, .ref 0)]) dX10_countFrom_45 rfl (nI_1 _) (by decide) rfl ?_
      refine ab_goto 11 dX10_countFrom_48 (by decide) ?_
      refine ab_pick [0, 1, 2, 3, 4] rfl ?_
      have e1 := (cn_t (p := (fun j => decide (a2 ≤ stA r5 a1 j))) (k := k) (decide_eq_true (Int32.not_lt.mp h_2)))
      rw [← e1]
      exact ih (k + 1) (fun i => [(Ps_n (nI k)), (Ps_d (nI k)), (Ps_s (Bg r5 a1) (Ba r5 a1) (nI k)), (Ps_k (Bg r5 a1) (Ba r5 a1) (Bb r5 a1) (Bc r5 a1) (nI k)), (Int32.toInt64 (Bg r5 a1)), (Int32.toInt64 (Ba r5 a1)), (Int32.toInt64 (Bb r5 a1)), (Int32.toInt64 (Bc r5 a1)), (Ps_c (nI k)), (Ps_e (Bg r5 a1) (Ba r5 a1) (Bb r5 a1) (Bc r5 a1) (nI k)), (Ps_x (Bg r5 a1) (Ba r5 a1) (nI k)), (Ps_y (Ba r5 a1) (nI k)), (g 12), (g 13), (g 14), (g 15)].getD i 0) (by omega)
theorem c_X10_countFrom {f0_0 f10_0 f10_1 f10_2 f10_3 a1 a2 : Int32} {x1 x2 x3 x7 x8 x9 x12 x13 x14 x15 x16 x17 x18 x19 x20 x21 x22 x23 x24 x25 x26 x27 x28 x29 x30 x31 x32 : ax_E} {r5 r6 : Nat → Int32} {f11_0 f11_1 f11_2 f11_3 f11_4 f11_5 f11_6 f11_7 f11_8 f11_9 f11_10 f11_11 f11_12 f11_13 f11_14 f11_15 : Int64} {wm : List ax_E} (h_i : 0 ≤ a1 ∧ a1 < r6 0) (h_c : r6 0 ≤ nI 4) : Ct M_X10_countFrom [.ref 0, .int a1, .int a2] ([ob 8 [.int f0_0, .ref 1, .ref 4, .ref 7, .ref 10, .ref 11, .ref 12, .ref 18, .ref 25, .ref 29], x1, x2, x3, ob 2 [.ref 5, .ref 6], ia 56 r5, ia 4 r6, x7, x8, x9, ob 3 [.int f10_0, .int f10_1, .int f10_2, .int f10_3], ob 5 [.long f11_0, .long f11_1, .long f11_2, .long f11_3, .long f11_4, .long f11_5, .long f11_6, .long f11_7, .long f11_8, .long f11_9, .long f11_10, .long f11_11, .long f11_12, .long f11_13, .long f11_14, .long f11_15], x12, x13, x14, x15, x16, x17, x18, x19, x20, x21, x22, x23, x24, x25, x26, x27, x28, x29, x30, x31, x32], wm) (fun r w' => ∃ g : Nat → Int64, r = some (.int (nI (Cn (fun j => decide (a2 ≤ stA r5 a1 j)) 40))) ∧ w' = ([ob 8 [.int f0_0, .ref 1, .ref 4, .ref 7, .ref 10, .ref 11, .ref 12, .ref 18, .ref 25, .ref 29], x1, x2, x3, ob 2 [.ref 5, .ref 6], ia 56 r5, ia 4 r6, x7, x8, x9, ob 3 [.int (Bg r5 a1), .int (Ba r5 a1), .int (Bb r5 a1), .int (Bc r5 a1)], ob 5 [.long (g 0), .long (g 1), .long (g 2), .long (g 3), .long (g 4), .long (g 5), .long (g 6), .long (g 7), .long (g 8), .long (g 9), .long (g 10), .long (g 11), .long (g 12), .long (g 13), .long (g 14), .long (g 15)], x12, x13, x14, x15, x16, x17, x18, x19, x20, x21, x22, x23, x24, x25, x26, x27, x28, x29, x30, x31, x32], wm)) := by
  refine ct_of ⟨by decide, rfl⟩ (Nat.le_of_ble_eq_true rfl) ?_
  refine ab_aload_n dX10_countFrom_0 rfl ?_
  refine ab_iload_n dX10_countFrom_1 rfl ?_
  refine ab_callV (As := [.int a1]) (rest := []) dX10_countFrom_2 mv_X10_linkageAt ml_X10_140 ⟨by decide, by decide, rfl, rfl, rfl⟩ (by decide) rfl rfl (Nat.le_of_ble_eq_true rfl) rfl (c_X10_linkageAt h_i h_c) ?_
  rintro r w' ⟨rfl, rfl⟩
  refine ab_pop rfl dX10_countFrom_5 ?_
  refine ab_iconst (v := 0) dX10_countFrom_6 (by decide) ?_
  refine ab_istore_n (la' := [(3, .int 0), (0, .ref 0), (1, .int a1), (2, .int a2)]) dX10_countFrom_7 (by decide) rfl ?_
  refine ab_iconst (v := 0) dX10_countFrom_8 (by decide) ?_
  refine ab_istore (la' := [(4, .int 0), (3, .int 0), (0, .ref 0), (1, .int a1), (2, .int a2)]) dX10_countFrom_9 (by decide) rfl ?_
  refine ab_pick [0, 1, 4, 3, 2] rfl ?_
  exact lp_countFrom 40 0 (fun i => [f11_0, f11_1, f11_2, f11_3, f11_4, f11_5, f11_6, f11_7, f11_8, f11_9, f11_10, f11_11, f11_12, f11_13, f11_14, f11_15].getD i 0) (by omega)
theorem c_X10_lawfuls {f0_0 f10_0 f10_1 f10_2 f10_3 a1 : Int32} {x1 x2 x3 x7 x8 x9 x12 x13 x14 x15 x16 x17 x18 x19 x20 x21 x22 x23 x24 x25 x26 x27 x28 x29 x30 x31 x32 : ax_E} {r5 r6 : Nat → Int32} {f11_0 f11_1 f11_2 f11_3 f11_4 f11_5 f11_6 f11_7 f11_8 f11_9 f11_10 f11_11 f11_12 f11_13 f11_14 f11_15 : Int64} {wm : List ax_E} (h_c0 : r6 0 ≤ nI 4) : Ct M_X10_lawfuls [.ref 0, .int a1] ([ob 8 [.int f0_0, .ref 1, .ref 4, .ref 7, .ref 10, .ref 11, .ref 12, .ref 18, .ref 25, .ref 29], x1, x2, x3, ob 2 [.ref 5, .ref 6], ia 56 r5, ia 4 r6, x7, x8, x9, ob 3 [.int f10_0, .int f10_1, .int f10_2, .int f10_3], ob 5 [.long f11_0, .long f11_1, .long f11_2, .long f11_3, .long f11_4, .long f11_5, .long f11_6, .long f11_7, .long f11_8, .long f11_9, .long f11_10, .long f11_11, .long f11_12, .long f11_13, .long f11_14, .long f11_15], x12, x13, x14, x15, x16, x17, x18, x19, x20, x21, x22, x23, x24, x25, x26, x27, x28, x29, x30, x31, x32], wm) (fun r w' => (∃ g_4 : Nat → Int64, (0 ≤ a1 ∧ a1 < r6 0) ∧ r = some (.int (nI (Cn (fun j => decide (1 ≤ stA r5 a1 j)) 40))) ∧ w' = ([ob 8 [.int 0, .ref 1, .ref 4, .ref 7, .ref 10, .ref 11, .ref 12, .ref 18, .ref 25, .ref 29], x1, x2, x3, ob 2 [.ref 5, .ref 6], ia 56 r5, ia 4 r6, x7, x8, x9, ob 3 [.int (Bg r5 a1), .int (Ba r5 a1), .int (Bb r5 a1), .int (Bc r5 a1)], ob 5 [.long (g_4 0), .long (g_4 1), .long (g_4 2), .long (g_4 3), .long (g_4 4), .long (g_4 5), .long (g_4 6), .long (g_4 7), .long (g_4 8), .long (g_4 9), .long (g_4 10), .long (g_4 11), .long (g_4 12), .long (g_4 13), .long (g_4 14), .long (g_4 15)], x12, x13, x14, x15, x16, x17, x18, x19, x20, x21, x22, x23, x24, x25, x26, x27, x28, x29, x30, x31, x32], wm)) ∨ ((¬ (0 ≤ a1 ∧ a1 < r6 0)) ∧ r = some (.int (-1)) ∧ w' = ([ob 8 [.int 1, .ref 1, .ref 4, .ref 7, .ref 10, .ref 11, .ref 12, .ref 18, .ref 25, .ref 29], x1, x2, x3, ob 2 [.ref 5, .ref 6], ia 56 r5, ia 4 r6, x7, x8, x9, ob 3 [.int f10_0, .int f10_1, .int f10_2, .int f10_3], ob 5 [.long f11_0, .long f11_1, .long f11_2, .long f11_3, .long f11_4, .long f11_5, .long f11_6, .long f11_7, .long f11_8, .long f11_9, .long f11_10, .long f11_11, .long f11_12, .long f11_13, .long f11_14, .long f11_15], x12, x13, x14, x15, x16, x17, x18, x19, x20, x21, x22, x23, x24, x25, x26, x27, x28, x29, x30, x31, x32], wm))) := by
  refine ct_of ⟨by decide, rfl⟩ (Nat.le_of_ble_eq_true rfl) ?_
  refine ab_aload_n dX10_lawfuls_0 rfl ?_
  refine ab_aload_n dX10_lawfuls_1 rfl ?_
  refine ab_iload_n dX10_lawfuls_2 rfl ?_
  refine ab_callV (As := [.int a1]) (rest := [.ref 0]) dX10_lawfuls_3 mv_X10_hasLinkage ml_X10_133 ⟨by decide, by decide, rfl, rfl, rfl⟩ (by decide) rfl rfl (Nat.le_of_ble_eq_true rfl) rfl c_X10_hasLinkage ?_
  rintro r w' (⟨c_1, rfl, rfl⟩ | ⟨c_2, rfl, rfl⟩)
  · refine ab_iconst (v := 1) dX10_lawfuls_6 (by decide) ?_
    refine ab_callV (As := [.int 1, .int 1]) (rest := []) dX10_lawfuls_7 mv_X10_refused ml_X10_84 ⟨by decide, by decide, rfl, rfl, rfl⟩ (by decide) rfl rfl (Nat.le_of_ble_eq_true rfl) rfl c_X10_refused_1 ?_
    rintro r w' ⟨rfl, rfl⟩
    refine ab_ifeq 15 dX10_lawfuls_10 (by decide) (fun h_3 => ?_) (fun h_3 => absurd (by decide) h_3)
    refine ab_aload_n dX10_lawfuls_15 rfl ?_
    refine ab_iload_n dX10_lawfuls_16 rfl ?_
    refine ab_iconst (v := 1) dX10_lawfuls_17 (by decide) ?_
    refine ab_callV (As := [.int a1, .int 1]) (rest := []) dX10_lawfuls_18 mv_X10_countFrom ml_X10_173 ⟨by decide, by decide, rfl, rfl, rfl⟩ (by decide) rfl rfl (Nat.le_of_ble_eq_true rfl) rfl (c_X10_countFrom c_1 h_c0) ?_
    rintro r w' ⟨g_4, rfl, rfl⟩
    exact ab_iret dX10_lawfuls_21 rfl (by decide) (Or.inl ⟨g_4, c_1, rfl, rfl⟩)
  · refine ab_iconst (v := 1) dX10_lawfuls_6 (by decide) ?_
    refine ab_callV (As := [.int 0, .int 1]) (rest := []) dX10_lawfuls_7 mv_X10_refused ml_X10_84 ⟨by decide, by decide, rfl, rfl, rfl⟩ (by decide) rfl rfl (Nat.le_of_ble_eq_true rfl) rfl c_X10_refused_0 ?_
    rintro r w' ⟨rfl, rfl⟩
    refine ab_ifeq 15 dX10_lawfuls_10 (by decide) (fun h_5 => absurd h_5 (by decide)) (fun h_5 => ?_)
    refine ab_iconst (v := -1) dX10_lawfuls_13 (by decide) ?_
    exact ab_iret dX10_lawfuls_14 rfl (by decide) (Or.inr (⟨c_2, rfl, rfl⟩))
theorem c_X10_deads {f0_0 f10_0 f10_1 f10_2 f10_3 a1 : Int32} {x1 x2 x3 x7 x8 x9 x12 x13 x14 x15 x16 x17 x18 x19 x20 x21 x22 x23 x24 x25 x26 x27 x28 x29 x30 x31 x32 : ax_E} {r5 r6 : Nat → Int32} {f11_0 f11_1 f11_2 f11_3 f11_4 f11_5 f11_6 f11_7 f11_8 f11_9 f11_10 f11_11 f11_12 f11_13 f11_14 f11_15 : Int64} {wm : List ax_E} (h_c0 : r6 0 ≤ nI 4) : Ct M_X10_deads [.ref 0, .int a1] ([ob 8 [.int f0_0, .ref 1, .ref 4, .ref 7, .ref 10, .ref 11, .ref 12, .ref 18, .ref 25, .ref 29], x1, x2, x3, ob 2 [.ref 5, .ref 6], ia 56 r5, ia 4 r6, x7, x8, x9, ob 3 [.int f10_0, .int f10_1, .int f10_2, .int f10_3], ob 5 [.long f11_0, .long f11_1, .long f11_2, .long f11_3, .long f11_4, .long f11_5, .long f11_6, .long f11_7, .long f11_8, .long f11_9, .long f11_10, .long f11_11, .long f11_12, .long f11_13, .long f11_14, .long f11_15], x12, x13, x14, x15, x16, x17, x18, x19, x20, x21, x22, x23, x24, x25, x26, x27, x28, x29, x30, x31, x32], wm) (fun r w' => (∃ g_4 : Nat → Int64, (0 ≤ a1 ∧ a1 < r6 0) ∧ r = some (.int (nI (Cn (fun j => decide (2 ≤ stA r5 a1 j)) 40))) ∧ w' = ([ob 8 [.int 0, .ref 1, .ref 4, .ref 7, .ref 10, .ref 11, .ref 12, .ref 18, .ref 25, .ref 29], x1, x2, x3, ob 2 [.ref 5, .ref 6], ia 56 r5, ia 4 r6, x7, x8, x9, ob 3 [.int (Bg r5 a1), .int (Ba r5 a1), .int (Bb r5 a1), .int (Bc r5 a1)], ob 5 [.long (g_4 0), .long (g_4 1), .long (g_4 2), .long (g_4 3), .long (g_4 4), .long (g_4 5), .long (g_4 6), .long (g_4 7), .long (g_4 8), .long (g_4 9), .long (g_4 10), .long (g_4 11), .long (g_4 12), .long (g_4 13), .long (g_4 14), .long (g_4 15)], x12, x13, x14, x15, x16, x17, x18, x19, x20, x21, x22, x23, x24, x25, x26, x27, x28, x29, x30, x31, x32], wm)) ∨ ((¬ (0 ≤ a1 ∧ a1 < r6 0)) ∧ r = some (.int (-1)) ∧ w' = ([ob 8 [.int 1, .ref 1, .ref 4, .ref 7, .ref 10, .ref 11, .ref 12, .ref 18, .ref 25, .ref 29], x1, x2, x3, ob 2 [.ref 5, .ref 6], ia 56 r5, ia 4 r6, x7, x8, x9, ob 3 [.int f10_0, .int f10_1, .int f10_2, .int f10_3], ob 5 [.long f11_0, .long f11_1, .long f11_2, .long f11_3, .long f11_4, .long f11_5, .long f11_6, .long f11_7, .long f11_8, .long f11_9, .long f11_10, .long f11_11, .long f11_12, .long f11_13, .long f11_14, .long f11_15], x12, x13, x14, x15, x16, x17, x18, x19, x20, x21, x22, x23, x24, x25, x26, x27, x28, x29, x30, x31, x32], wm))) := by
  refine ct_of ⟨by decide, rfl⟩ (Nat.le_of_ble_eq_true rfl) ?_
  refine ab_aload_n dX10_deads_0 rfl ?_
  refine ab_aload_n dX10_deads_1 rfl ?_
  refine ab_iload_n dX10_deads_2 rfl ?_
  refine ab_callV (As := [.int a1]) (rest := [.ref 0]) dX10_deads_3 mv_X10_hasLinkage ml_X10_133 ⟨by decide, by decide, rfl, rfl, rfl⟩ (by decide) rfl rfl (Nat.le_of_ble_eq_true rfl) rfl c_X10_hasLinkage ?_
  rintro r w' (⟨c_1, rfl, rfl⟩ | ⟨c_2, rfl, rfl⟩)
  · refine ab_iconst (v := 1) dX10_deads_6 (by decide) ?_
    refine ab_callV (As := [.int 1, .int 1]) (rest := []) dX10_deads_7 mv_X10_refused ml_X10_84 ⟨by decide, by decide, rfl, rfl, rfl⟩ (by decide) rfl rfl (Nat.le_of_ble_eq_true rfl) rfl c_X10_refused_1 ?_
    rintro r w' ⟨rfl, rfl⟩
    refine ab_ifeq 15 dX10_deads_10 (by decide) (fun h_3 => ?_) (fun h_3 => absurd (by decide) h_3)
    refine ab_aload_n dX10_deads_15 rfl ?_
    refine ab_iload_n dX10_deads_16 rfl ?_
    refine ab_iconst (v := 2) dX10_deads_17 (by decide) ?_
    refine ab_callV (As := [.int a1, .int 2]) (rest := []) dX10_deads_18 mv_X10_countFrom ml_X10_173 ⟨by decide, by decide, rfl, rfl, rfl⟩ (by decide) rfl rfl (Nat.le_of_ble_eq_true rfl) rfl (c_X10_countFrom c_1 h_c0) ?_
    rintro r w' ⟨g_4, rfl, rfl⟩
    exact ab_iret dX10_deads_21 rfl (by decide) (Or.inl ⟨g_4, c_1, rfl, rfl⟩)
  · refine ab_iconst (v := 1) dX10_deads_6 (by decide) ?_
    refine ab_callV (As := [.int 0, .int 1]) (rest := []) dX10_deads_7 mv_X10_refused ml_X10_84 ⟨by decide, by decide, rfl, rfl, rfl⟩ (by decide) rfl rfl (Nat.le_of_ble_eq_true rfl) rfl c_X10_refused_0 ?_
    rintro r w' ⟨rfl, rfl⟩
    refine ab_ifeq 15 dX10_deads_10 (by decide) (fun h_5 => absurd h_5 (by decide)) (fun h_5 => ?_)
    refine ab_iconst (v := -1) dX10_deads_13 (by decide) ?_
    exact ab_iret dX10_deads_14 rfl (by decide) (Or.inr (⟨c_2, rfl, rfl⟩))
