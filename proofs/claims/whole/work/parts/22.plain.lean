theorem lN_ne {n : Nat} (h : n < 2 ^ 63) : (lN n).toInt ≠ -2 ^ 63 := by rw [pk_lT h]; omega
theorem lN_abs {n : Nat} (h : n < 2 ^ 63) : (lN n).toInt.natAbs = n := by rw [pk_lT h]; rfl
theorem gcd_lt {a b : Int64} (ha : a.toInt ≠ -2 ^ 63) (hb : b.toInt ≠ -2 ^ 63) : Nat.gcd a.toInt.natAbs b.toInt.natAbs < 2 ^ 63 := by
  have h1 := abs_lt ha
  have h2 := abs_lt hb
  by_cases h : a.toInt.natAbs = 0
  · rw [h, Nat.gcd_zero_left]; exact h2
  · exact Nat.lt_of_le_of_lt (Nat.gcd_le_left _ (Nat.pos_of_ne_zero h)) h1
def Rd (a1 : Int64) (a2 : Int64) (a3 : Int32) : Int64 := (if (lN (Nat.gcd a1.toInt.natAbs a2.toInt.natAbs)) = 0 then 0 else (if a3 = 0 then (if 0 ≤ a2 then (a1 / (lN (Nat.gcd a1.toInt.natAbs a2.toInt.natAbs))) else (-(a1 / (lN (Nat.gcd a1.toInt.natAbs a2.toInt.natAbs))))) else (if 0 ≤ a2 then (a2 / (lN (Nat.gcd a1.toInt.natAbs a2.toInt.natAbs))) else (-(a2 / (lN (Nat.gcd a1.toInt.natAbs a2.toInt.natAbs)))))))
theorem c_X9_reduced {w : ax_W} {a1 a2 : Int64} {a3 : Int32} (ha : a1.toInt ≠ -2 ^ 63) (hb : a2.toInt ≠ -2 ^ 63) : Ct M_X9_reduced [.long a1, .long a2, .int a3] w (fun r w' => r = some (.long (Rd a1 a2 a3)) ∧ w' = w) := by
  refine ct_of ⟨by decide, rfl⟩ (Nat.le_of_ble_eq_true rfl) ?_
  refine ab_lload_n dX9_reduced_0 rfl ?_
  refine ab_lload_n dX9_reduced_1 rfl ?_
  refine ab_callS (As := [.long a1, .long a2]) (rest := []) dX9_reduced_2 ms_X9_commonDivisor ml_X9_13 ⟨by decide, by decide, rfl, rfl, rfl⟩ (by decide) rfl rfl (Nat.le_of_ble_eq_true rfl) (c_X9_commonDivisor ha hb) ?_
  rintro r w' ⟨rfl, rfl⟩
  refine ab_lstore (la' := [(5, .long (lN (Nat.gcd a1.toInt.natAbs a2.toInt.natAbs))), (0, .long a1), (2, .long a2), (4, .int a3)]) dX9_reduced_5 (by decide) rfl ?_
  refine ab_lload dX9_reduced_7 rfl ?_
  refine ab_lconst (v := 0) dX9_reduced_9 (by decide) ?_
  refine ab_lcmpne 16 dX9_reduced_10 dX9_reduced_11 (by decide) (fun h_1 => ?_) (fun h_1 => ?_)
  · refine ab_iload dX9_reduced_16 rfl ?_
    refine ab_ifeq 25 dX9_reduced_18 (by decide) (fun h_2 => ?_) (fun h_2 => ?_)
    · refine ab_lload_n dX9_reduced_25 rfl ?_
      refine ab_lload dX9_reduced_26 rfl ?_
      refine ab_ldiv dX9_reduced_28 h_1 ?_
      refine ab_lstore (la' := [(7, .long (a1 / (lN (Nat.gcd a1.toInt.natAbs a2.toInt.natAbs)))), (5, .long (lN (Nat.gcd a1.toInt.natAbs a2.toInt.natAbs))), (0, .long a1), (2, .long a2), (4, .int a3)]) dX9_reduced_29 (by decide) rfl ?_
      refine ab_lload_n dX9_reduced_31 rfl ?_
      refine ab_lconst (v := 0) dX9_reduced_32 (by decide) ?_
      refine ab_lcmpge 43 dX9_reduced_33 dX9_reduced_34 (by decide) (fun h_3 => ?_) (fun h_3 => ?_)
      · refine ab_lload dX9_reduced_43 rfl ?_
        exact ab_lret dX9_reduced_45 rfl (by decide) (⟨by rw [Rd, if_neg (show ¬ (lN (Nat.gcd a1.toInt.natAbs a2.toInt.natAbs)) = 0 from h_1), if_pos (show a3 = 0 from h_2), if_pos (show 0 ≤ a2 from h_3)], rfl⟩)
      · refine ab_lload dX9_reduced_37 rfl ?_
        refine ab_lneg dX9_reduced_39 ?_
        refine ab_goto 45 dX9_reduced_40 (by decide) ?_
        exact ab_lret dX9_reduced_45 rfl (by decide) (⟨by rw [Rd, if_neg (show ¬ (lN (Nat.gcd a1.toInt.natAbs a2.toInt.natAbs)) = 0 from h_1), if_pos (show a3 = 0 from h_2), if_neg (show ¬ 0 ≤ a2 from h_3)], rfl⟩)
    · refine ab_lload_n dX9_reduced_21 rfl ?_
      refine ab_goto 26 dX9_reduced_22 (by decide) ?_
      refine ab_lload dX9_reduced_26 rfl ?_
      refine ab_ldiv dX9_reduced_28 h_1 ?_
      refine ab_lstore (la' := [(7, .long (a2 / (lN (Nat.gcd a1.toInt.natAbs a2.toInt.natAbs)))), (5, .long (lN (Nat.gcd a1.toInt.natAbs a2.toInt.natAbs))), (0, .long a1), (2, .long a2), (4, .int a3)]) dX9_reduced_29 (by decide) rfl ?_
      refine ab_lload_n dX9_reduced_31 rfl ?_
      refine ab_lconst (v := 0) dX9_reduced_32 (by decide) ?_
      refine ab_lcmpge 43 dX9_reduced_33 dX9_reduced_34 (by decide) (fun h_4 => ?_) (fun h_4 => ?_)
      · refine ab_lload dX9_reduced_43 rfl ?_
        exact ab_lret dX9_reduced_45 rfl (by decide) (⟨by rw [Rd, if_neg (show ¬ (lN (Nat.gcd a1.toInt.natAbs a2.toInt.natAbs)) = 0 from h_1), if_neg (show ¬ a3 = 0 from h_2), if_pos (show 0 ≤ a2 from h_4)], rfl⟩)
      · refine ab_lload dX9_reduced_37 rfl ?_
        refine ab_lneg dX9_reduced_39 ?_
        refine ab_goto 45 dX9_reduced_40 (by decide) ?_
        exact ab_lret dX9_reduced_45 rfl (by decide) (⟨by rw [Rd, if_neg (show ¬ (lN (Nat.gcd a1.toInt.natAbs a2.toInt.natAbs)) = 0 from h_1), if_neg (show ¬ a3 = 0 from h_2), if_neg (show ¬ 0 ≤ a2 from h_4)], rfl⟩)
  · refine ab_lconst (v := 0) dX9_reduced_14 (by decide) ?_
    exact ab_lret dX9_reduced_15 rfl (by decide) (⟨by rw [Rd, if_pos (show (lN (Nat.gcd a1.toInt.natAbs a2.toInt.natAbs)) = 0 from h_1)], rfl⟩)
def Rd3 (a1 : Int64) (a2 : Int64) (a3 : Int64) (a4 : Int32) : Int64 := (if (lN (Nat.gcd (lN (Nat.gcd a1.toInt.natAbs a2.toInt.natAbs)).toInt.natAbs a3.toInt.natAbs)) = 0 then 0 else (if a4 = 2 then (a3 / (lN (Nat.gcd (lN (Nat.gcd a1.toInt.natAbs a2.toInt.natAbs)).toInt.natAbs a3.toInt.natAbs))) else (if a4 = 0 then (a1 / (lN (Nat.gcd (lN (Nat.gcd a1.toInt.natAbs a2.toInt.natAbs)).toInt.natAbs a3.toInt.natAbs))) else (a2 / (lN (Nat.gcd (lN (Nat.gcd a1.toInt.natAbs a2.toInt.natAbs)).toInt.natAbs a3.toInt.natAbs))))))
theorem c_X9_reducedOf {w : ax_W} {a1 a2 a3 : Int64} {a4 : Int32} (ha : a1.toInt ≠ -2 ^ 63) (hb : a2.toInt ≠ -2 ^ 63) (hc : a3.toInt ≠ -2 ^ 63) : Ct M_X9_reducedOf [.long a1, .long a2, .long a3, .int a4] w (fun r w' => r = some (.long (Rd3 a1 a2 a3 a4)) ∧ w' = w) := by
  refine ct_of ⟨by decide, rfl⟩ (Nat.le_of_ble_eq_true rfl) ?_
  refine ab_lload_n dX9_reducedOf_0 rfl ?_
  refine ab_lload_n dX9_reducedOf_1 rfl ?_
  refine ab_callS (As := [.long a1, .long a2]) (rest := []) dX9_reducedOf_2 ms_X9_commonDivisor ml_X9_13 ⟨by decide, by decide, rfl, rfl, rfl⟩ (by decide) rfl rfl (Nat.le_of_ble_eq_true rfl) (c_X9_commonDivisor ha hb) ?_
  rintro r w' ⟨rfl, rfl⟩
  refine ab_lload dX9_reducedOf_5 rfl ?_
  refine ab_callS (As := [.long (lN (Nat.gcd a1.toInt.natAbs a2.toInt.natAbs)), .long a3]) (rest := []) dX9_reducedOf_7 ms_X9_commonDivisor ml_X9_13 ⟨by decide, by decide, rfl, rfl, rfl⟩ (by decide) rfl rfl (Nat.le_of_ble_eq_true rfl) (c_X9_commonDivisor (lN_ne (gcd_lt ha hb)) hc) ?_
  rintro r w' ⟨rfl, rfl⟩
  refine ab_lstore (la' := [(7, .long (lN (Nat.gcd (lN (Nat.gcd a1.toInt.natAbs a2.toInt.natAbs)).toInt.natAbs a3.toInt.natAbs))), (0, .long a1), (2, .long a2), (4, .long a3), (6, .int a4)]) dX9_reducedOf_10 (by decide) rfl ?_
  refine ab_lload dX9_reducedOf_12 rfl ?_
  refine ab_lconst (v := 0) dX9_reducedOf_14 (by decide) ?_
  refine ab_lcmpne 21 dX9_reducedOf_15 dX9_reducedOf_16 (by decide) (fun h_1 => ?_) (fun h_1 => ?_)
  · refine ab_iload dX9_reducedOf_21 rfl ?_
    refine ab_iconst (v := 2) dX9_reducedOf_23 (by decide) ?_
    refine ab_icmpne 33 dX9_reducedOf_24 (by decide) (fun h_2 => ?_) (fun h_2 => ?_)
    · refine ab_iload dX9_reducedOf_33 rfl ?_
      refine ab_ifne 42 dX9_reducedOf_35 (by decide) (fun h_3 => ?_) (fun h_3 => ?_)
      · refine ab_lload_n dX9_reducedOf_42 rfl ?_
        refine ab_lload dX9_reducedOf_43 rfl ?_
        refine ab_ldiv dX9_reducedOf_45 h_1 ?_
        exact ab_lret dX9_reducedOf_46 rfl (by decide) (⟨by rw [Rd3, if_neg (show ¬ (lN (Nat.gcd (lN (Nat.gcd a1.toInt.natAbs a2.toInt.natAbs)).toInt.natAbs a3.toInt.natAbs)) = 0 from h_1), if_neg (show ¬ a4 = 2 from h_2), if_neg (show ¬ a4 = 0 from h_3)], rfl⟩)
      · refine ab_lload_n dX9_reducedOf_38 rfl ?_
        refine ab_goto 43 dX9_reducedOf_39 (by decide) ?_
        refine ab_lload dX9_reducedOf_43 rfl ?_
        refine ab_ldiv dX9_reducedOf_45 h_1 ?_
        exact ab_lret dX9_reducedOf_46 rfl (by decide) (⟨by rw [Rd3, if_neg (show ¬ (lN (Nat.gcd (lN (Nat.gcd a1.toInt.natAbs a2.toInt.natAbs)).toInt.natAbs a3.toInt.natAbs)) = 0 from h_1), if_neg (show ¬ a4 = 2 from h_2), if_pos (show a4 = 0 from h_3)], rfl⟩)
    · refine ab_lload dX9_reducedOf_27 rfl ?_
      refine ab_lload dX9_reducedOf_29 rfl ?_
      refine ab_ldiv dX9_reducedOf_31 h_1 ?_
      exact ab_lret dX9_reducedOf_32 rfl (by decide) (⟨by rw [Rd3, if_neg (show ¬ (lN (Nat.gcd (lN (Nat.gcd a1.toInt.natAbs a2.toInt.natAbs)).toInt.natAbs a3.toInt.natAbs)) = 0 from h_1), if_pos (show a4 = 2 from h_2)], rfl⟩)
  · refine ab_lconst (v := 0) dX9_reducedOf_19 (by decide) ?_
    exact ab_lret dX9_reducedOf_20 rfl (by decide) (⟨by rw [Rd3, if_pos (show (lN (Nat.gcd (lN (Nat.gcd a1.toInt.natAbs a2.toInt.natAbs)).toInt.natAbs a3.toInt.natAbs)) = 0 from h_1)], rfl⟩)
theorem c_X10_refused_1 {f0_0 a2 : Int32} {x1 x2 x3 x4 x5 x6 x7 x8 x9 x10 x11 x12 x13 x14 x15 x16 x17 x18 x19 x20 x21 x22 x23 x24 x25 x26 x27 x28 x29 x30 x31 x32 : ax_E} {wm : List ax_E}  : Ct M_X10_refused [.ref 0, .int 1, .int a2] ([ob 8 [.int f0_0, .ref 1, .ref 4, .ref 7, .ref 10, .ref 11, .ref 12, .ref 18, .ref 25, .ref 29], x1, x2, x3, x4, x5, x6, x7, x8, x9, x10, x11, x12, x13, x14, x15, x16, x17, x18, x19, x20, x21, x22, x23, x24, x25, x26, x27, x28, x29, x30, x31, x32], wm) (fun r w' => r = some (.int 0) ∧ w' = ([ob 8 [.int 0, .ref 1, .ref 4, .ref 7, .ref 10, .ref 11, .ref 12, .ref 18, .ref 25, .ref 29], x1, x2, x3, x4, x5, x6, x7, x8, x9, x10, x11, x12, x13, x14, x15, x16, x17, x18, x19, x20, x21, x22, x23, x24, x25, x26, x27, x28, x29, x30, x31, x32], wm)) := by
  refine ct_of ⟨by decide, rfl⟩ (Nat.le_of_ble_eq_true rfl) ?_
  refine ab_aload_n dX10_refused_0 rfl ?_
  refine ab_iload_n dX10_refused_1 rfl ?_
  refine ab_ifeq 9 dX10_refused_2 (by decide) (fun h_1 => absurd h_1 (by decide)) (fun h_1 => ?_)
  refine ab_iconst (v := 0) dX10_refused_5 (by decide) ?_
  refine ab_goto 10 dX10_refused_6 (by decide) ?_
  refine ab_putf (w1 := ([ob 8 [.int 0, .ref 1, .ref 4, .ref 7, .ref 10, .ref 11, .ref 12, .ref 18, .ref 25, .ref 29], x1, x2, x3, x4, x5, x6, x7, x8, x9, x10, x11, x12, x13, x14, x15, x16, x17, x18, x19, x20, x21, x22, x23, x24, x25, x26, x27, x28, x29, x30, x31, x32], wm)) dX10_refused_10 fl_X10_9 rfl (Nat.le_of_ble_eq_true rfl) (fun _ => ⟨rfl, rfl⟩) rfl ?_
  refine ab_iload_n dX10_refused_13 rfl ?_
  refine ab_ifne 21 dX10_refused_14 (by decide) (fun h_2 => ?_) (fun h_2 => absurd h_2 (by decide))
  refine ab_iconst (v := 0) dX10_refused_21 (by decide) ?_
  exact ab_zret dX10_refused_22 rfl rfl (by decide) (⟨rfl, rfl⟩)
theorem c_X10_refused_0 {f0_0 a2 : Int32} {x1 x2 x3 x4 x5 x6 x7 x8 x9 x10 x11 x12 x13 x14 x15 x16 x17 x18 x19 x20 x21 x22 x23 x24 x25 x26 x27 x28 x29 x30 x31 x32 : ax_E} {wm : List ax_E}  : Ct M_X10_refused [.ref 0, .int 0, .int a2] ([ob 8 [.int f0_0, .ref 1, .ref 4, .ref 7, .ref 10, .ref 11, .ref 12, .ref 18, .ref 25, .ref 29], x1, x2, x3, x4, x5, x6, x7, x8, x9, x10, x11, x12, x13, x14, x15, x16, x17, x18, x19, x20, x21, x22, x23, x24, x25, x26, x27, x28, x29, x30, x31, x32], wm) (fun r w' => r = some (.int 1) ∧ w' = ([ob 8 [.int a2, .ref 1, .ref 4, .ref 7, .ref 10, .ref 11, .ref 12, .ref 18, .ref 25, .ref 29], x1, x2, x3, x4, x5, x6, x7, x8, x9, x10, x11, x12, x13, x14, x15, x16, x17, x18, x19, x20, x21, x22, x23, x24, x25, x26, x27, x28, x29, x30, x31, x32], wm)) := by
  refine ct_of ⟨by decide, rfl⟩ (Nat.le_of_ble_eq_true rfl) ?_
  refine ab_aload_n dX10_refused_0 rfl ?_
  refine ab_iload_n dX10_refused_1 rfl ?_
  refine ab_ifeq 9 dX10_refused_2 (by decide) (fun h_1 => ?_) (fun h_1 => absurd (by decide) h_1)
  refine ab_iload_n dX10_refused_9 rfl ?_
  refine ab_putf (w1 := ([ob 8 [.int a2, .ref 1, .ref 4, .ref 7, .ref 10, .ref 11, .ref 12, .ref 18, .ref 25, .ref 29], x1, x2, x3, x4, x5, x6, x7, x8, x9, x10, x11, x12, x13, x14, x15, x16, x17, x18, x19, x20, x21, x22, x23, x24, x25, x26, x27, x28, x29, x30, x31, x32], wm)) dX10_refused_10 fl_X10_9 rfl (Nat.le_of_ble_eq_true rfl) (fun _ => ⟨rfl, rfl⟩) rfl ?_
  refine ab_iload_n dX10_refused_13 rfl ?_
  refine ab_ifne 21 dX10_refused_14 (by decide) (fun h_2 => absurd (by decide) h_2) (fun h_2 => ?_)
  refine ab_iconst (v := 1) dX10_refused_17 (by decide) ?_
  refine ab_goto 22 dX10_refused_18 (by decide) ?_
  exact ab_zret dX10_refused_22 rfl rfl (by decide) (⟨rfl, rfl⟩)
theorem c_X10_hasLinkage {f0_0 a1 : Int32} {x1 x2 x3 x5 x7 x8 x9 x10 x11 x12 x13 x14 x15 x16 x17 x18 x19 x20 x21 x22 x23 x24 x25 x26 x27 x28 x29 x30 x31 x32 : ax_E} {r6 : Nat → Int32} {wm : List ax_E}  : Ct M_X10_hasLinkage [.ref 0, .int a1] ([ob 8 [.int f0_0, .ref 1, .ref 4, .ref 7, .ref 10, .ref 11, .ref 12, .ref 18, .ref 25, .ref 29], x1, x2, x3, ob 2 [.ref 5, .ref 6], x5, ia 4 r6, x7, x8, x9, x10, x11, x12, x13, x14, x15, x16, x17, x18, x19, x20, x21, x22, x23, x24, x25, x26, x27, x28, x29, x30, x31, x32], wm) (fun r w' => ((0 ≤ a1 ∧ a1 < r6 0) ∧ r = some (.int 1) ∧ w' = ([ob 8 [.int f0_0, .ref 1, .ref 4, .ref 7, .ref 10, .ref 11, .ref 12, .ref 18, .ref 25, .ref 29], x1, x2, x3, ob 2 [.ref 5, .ref 6], x5, ia 4 r6, x7, x8, x9, x10, x11, x12, x13, x14, x15, x16, x17, x18, x19, x20, x21, x22, x23, x24, x25, x26, x27, x28, x29, x30, x31, x32], wm)) ∨ ((¬ (0 ≤ a1 ∧ a1 < r6 0)) ∧ r = some (.int 0) ∧ w' = ([ob 8 [.int f0_0, .ref 1, .ref 4, .ref 7, .ref 10, .ref 11, .ref 12, .ref 18, .ref 25, .ref 29], x1, x2, x3, ob 2 [.ref 5, .ref 6], x5, ia 4 r6, x7, x8, x9, x10, x11, x12, x13, x14, x15, x16, x17, x18, x19, x20, x21, x22, x23, x24, x25, x26, x27, x28, x29, x30, x31, x32], wm))) := by
  refine ct_of ⟨by decide, rfl⟩ (Nat.le_of_ble_eq_true rfl) ?_
  refine ab_aload_n dX10_hasLinkage_0 rfl ?_
  refine ab_getf dX10_hasLinkage_1 fl_X10_23 rfl rfl ?_
  refine ab_iconst (v := 0) dX10_hasLinkage_4 (by decide) ?_
  refine ab_iload_n dX10_hasLinkage_5 rfl ?_
  refine ab_callV (As := [.int 0, .int a1]) (rest := []) dX10_hasLinkage_6 mv_X2_has ml_X10_264 ⟨by decide, by decide, rfl, rfl, rfl⟩ (by decide) rfl rfl (Nat.le_of_ble_eq_true rfl) rfl c_X2_has_0 ?_
  rintro r w' (⟨c_1, rfl, rfl⟩ | ⟨c_2, rfl, rfl⟩)
  · exact ab_zret dX10_hasLinkage_9 rfl rfl (by decide) (Or.inl (⟨(by grind), rfl, rfl⟩))
  · exact ab_zret dX10_hasLinkage_9 rfl rfl (by decide) (Or.inr (⟨(by grind), rfl, rfl⟩))
theorem c_X10_hasPosition {f0_0 a1 a2 a3 : Int32} {x1 x2 x3 x5 x7 x8 x9 x10 x11 x12 x13 x14 x15 x16 x17 x18 x19 x20 x21 x22 x23 x24 x25 x26 x27 x28 x29 x30 x31 x32 : ax_E} {r6 : Nat → Int32} {wm : List ax_E}  : Ct M_X10_hasPosition [.ref 0, .int a1, .int a2, .int a3] ([ob 8 [.int f0_0, .ref 1, .ref 4, .ref 7, .ref 10, .ref 11, .ref 12, .ref 18, .ref 25, .ref 29], x1, x2, x3, ob 2 [.ref 5, .ref 6], x5, ia 4 r6, x7, x8, x9, x10, x11, x12, x13, x14, x15, x16, x17, x18, x19, x20, x21, x22, x23, x24, x25, x26, x27, x28, x29, x30, x31, x32], wm) (fun r w' => (((0 ≤ a1 ∧ a1 < r6 0) ∧ (0 ≤ a2 ∧ a2 < 40) ∧ (0 ≤ a3 ∧ a3 < 2)) ∧ r = some (.int 1) ∧ w' = ([ob 8 [.int f0_0, .ref 1, .ref 4, .ref 7, .ref 10, .ref 11, .ref 12, .ref 18, .ref 25, .ref 29], x1, x2, x3, ob 2 [.ref 5, .ref 6], x5, ia 4 r6, x7, x8, x9, x10, x11, x12, x13, x14, x15, x16, x17, x18, x19, x20, x21, x22, x23, x24, x25, x26, x27, x28, x29, x30, x31, x32], wm)) ∨ ((¬ ((0 ≤ a1 ∧ a1 < r6 0) ∧ (0 ≤ a2 ∧ a2 < 40) ∧ (0 ≤ a3 ∧ a3 < 2))) ∧ r = some (.int 0) ∧ w' = ([ob 8 [.int f0_0, .ref 1, .ref 4, .ref 7, .ref 10, .ref 11, .ref 12, .ref 18, .ref 25, .ref 29], x1, x2, x3, ob 2 [.ref 5, .ref 6], x5, ia 4 r6, x7, x8, x9, x10, x11, x12, x13, x14, x15, x16, x17, x18, x19, x20, x21, x22, x23, x24, x25, x26, x27, x28, x29, x30, x31, x32], wm))) := by
  refine ct_of ⟨by decide, rfl⟩ (Nat.le_of_ble_eq_true rfl) ?_
  refine ab_aload_n dX10_hasPosition_0 rfl ?_
  refine ab_iload_n dX10_hasPosition_1 rfl ?_
  refine ab_callV (As := [.int a1]) (rest := []) dX10_hasPosition_2 mv_X10_hasLinkage ml_X10_133 ⟨by decide, by decide, rfl, rfl, rfl⟩ (by decide) rfl rfl (Nat.le_of_ble_eq_true rfl) rfl c_X10_hasLinkage ?_
  rintro r w' (⟨c_1, rfl, rfl⟩ | ⟨c_2, rfl, rfl⟩)
  · refine ab_ifeq 27 dX10_hasPosition_5 (by decide) (fun h_3 => absurd h_3 (by decide)) (fun h_3 => ?_)
    refine ab_iload_n dX10_hasPosition_8 rfl ?_
    refine ab_callS (As := [.int a2]) (rest := []) dX10_hasPosition_9 ms_X7_has ml_X10_114 ⟨by decide, by decide, rfl, rfl, rfl⟩ (by decide) rfl rfl (Nat.le_of_ble_eq_true rfl) c_X7_has ?_
    rintro r w' (⟨c_4, rfl, rfl⟩ | ⟨c_5, rfl, rfl⟩)
    · refine ab_ifeq 27 dX10_hasPosition_12 (by decide) (fun h_6 => absurd h_6 (by decide)) (fun h_6 => ?_)
      refine ab_iload_n dX10_hasPosition_15 rfl ?_
      refine ab_iconst (v := 2) dX10_hasPosition_16 (by decide) ?_
      refine ab_callS (As := [.int a3, .int 2]) (rest := []) dX10_hasPosition_17 ms_X10_isOf ml_X10_118 ⟨by decide, by decide, rfl, rfl, rfl⟩ (by decide) rfl rfl (Nat.le_of_ble_eq_true rfl) c_X10_isOf ?_
      rintro r w' (⟨c_7, rfl, rfl⟩ | ⟨c_8, rfl, rfl⟩)
      · refine ab_ifeq 27 dX10_hasPosition_20 (by decide) (fun h_9 => absurd h_9 (by decide)) (fun h_9 => ?_)
        refine ab_iconst (v := 1) dX10_hasPosition_23 (by decide) ?_
        refine ab_goto 28 dX10_hasPosition_24 (by decide) ?_
        exact ab_zret dX10_hasPosition_28 rfl rfl (by decide) (Or.inl (⟨(by grind), rfl, rfl⟩))
      · refine ab_ifeq 27 dX10_hasPosition_20 (by decide) (fun h_10 => ?_) (fun h_10 => absurd (by decide) h_10)
        refine ab_iconst (v := 0) dX10_hasPosition_27 (by decide) ?_
        exact ab_zret dX10_hasPosition_28 rfl rfl (by decide) (Or.inr (⟨(by grind), rfl, rfl⟩))
    · refine ab_ifeq 27 dX10_hasPosition_12 (by decide) (fun h_11 => ?_) (fun h_11 => absurd (by decide) h_11)
      refine ab_iconst (v := 0) dX10_hasPosition_27 (by decide) ?_
      exact ab_zret dX10_hasPosition_28 rfl rfl (by decide) (Or.inr (⟨(by grind), rfl, rfl⟩))
  · refine ab_ifeq 27 dX10_hasPosition_5 (by decide) (fun h_12 => ?_) (fun h_12 => absurd (by decide) h_12)
    refine ab_iconst (v := 0) dX10_hasPosition_27 (by decide) ?_
    exact ab_zret dX10_hasPosition_28 rfl rfl (by decide) (Or.inr (⟨(by grind), rfl, rfl⟩))
theorem c_X10_hasCurve {f0_0 a1 a2 a3 : Int32} {x1 x2 x3 x5 x7 x8 x9 x10 x11 x12 x13 x14 x15 x16 x17 x18 x19 x20 x21 x22 x23 x24 x25 x26 x27 x28 x29 x30 x31 x32 : ax_E} {r6 : Nat → Int32} {wm : List ax_E}  : Ct M_X10_hasCurve [.ref 0, .int a1, .int a2, .int a3] ([ob 8 [.int f0_0, .ref 1, .ref 4, .ref 7, .ref 10, .ref 11, .ref 12, .ref 18, .ref 25, .ref 29], x1, x2, x3, ob 2 [.ref 5, .ref 6], x5, ia 4 r6, x7, x8, x9, x10, x11, x12, x13, x14, x15, x16, x17, x18, x19, x20, x21, x22, x23, x24, x25, x26, x27, x28, x29, x30, x31, x32], wm) (fun r w' => (((0 ≤ a1 ∧ a1 < r6 0) ∧ (0 ≤ a2 ∧ a2 < r6 1) ∧ (0 ≤ a3 ∧ a3 < 2)) ∧ r = some (.int 1) ∧ w' = ([ob 8 [.int f0_0, .ref 1, .ref 4, .ref 7, .ref 10, .ref 11, .ref 12, .ref 18, .ref 25, .ref 29], x1, x2, x3, ob 2 [.ref 5, .ref 6], x5, ia 4 r6, x7, x8, x9, x10, x11, x12, x13, x14, x15, x16, x17, x18, x19, x20, x21, x22, x23, x24, x25, x26, x27, x28, x29, x30, x31, x32], wm)) ∨ ((¬ ((0 ≤ a1 ∧ a1 < r6 0) ∧ (0 ≤ a2 ∧ a2 < r6 1) ∧ (0 ≤ a3 ∧ a3 < 2))) ∧ r = some (.int 0) ∧ w' = ([ob 8 [.int f0_0, .ref 1, .ref 4, .ref 7, .ref 10, .ref 11, .ref 12, .ref 18, .ref 25, .ref 29], x1, x2, x3, ob 2 [.ref 5, .ref 6], x5, ia 4 r6, x7, x8, x9, x10, x11, x12, x13, x14, x15, x16, x17, x18, x19, x20, x21, x22, x23, x24, x25, x26, x27, x28, x29, x30, x31, x32], wm))) := by
  refine ct_of ⟨by decide, rfl⟩ (Nat.le_of_ble_eq_true rfl) ?_
  refine ab_aload_n dX10_hasCurve_0 rfl ?_
  refine ab_iload_n dX10_hasCurve_1 rfl ?_
  refine ab_callV (As := [.int a1]) (rest := []) dX10_hasCurve_2 mv_X10_hasLinkage ml_X10_133 ⟨by decide, by decide, rfl, rfl, rfl⟩ (by decide) rfl rfl (Nat.le_of_ble_eq_true rfl) rfl c_X10_hasLinkage ?_
  rintro r w' (⟨c_1, rfl, rfl⟩ | ⟨c_2, rfl, rfl⟩)
  · refine ab_ifeq 32 dX10_hasCurve_5 (by decide) (fun h_3 => absurd h_3 (by decide)) (fun h_3 => ?_)
    refine ab_aload_n dX10_hasCurve_8 rfl ?_
    refine ab_getf dX10_hasCurve_9 fl_X10_23 rfl rfl ?_
    refine ab_iconst (v := 1) dX10_hasCurve_12 (by decide) ?_
    refine ab_iload_n dX10_hasCurve_13 rfl ?_
    refine ab_callV (As := [.int 1, .int a2]) (rest := []) dX10_hasCurve_14 mv_X2_has ml_X10_264 ⟨by decide, by decide, rfl, rfl, rfl⟩ (by decide) rfl rfl (Nat.le_of_ble_eq_true rfl) rfl c_X2_has_1 ?_
    rintro r w' (⟨c_4, rfl, rfl⟩ | ⟨c_5, rfl, rfl⟩)
    · refine ab_ifeq 32 dX10_hasCurve_17 (by decide) (fun h_6 => absurd h_6 (by decide)) (fun h_6 => ?_)
      refine ab_iload_n dX10_hasCurve_20 rfl ?_
      refine ab_iconst (v := 2) dX10_hasCurve_21 (by decide) ?_
      refine ab_callS (As := [.int a3, .int 2]) (rest := []) dX10_hasCurve_22 ms_X10_isOf ml_X10_118 ⟨by decide, by decide, rfl, rfl, rfl⟩ (by decide) rfl rfl (Nat.le_of_ble_eq_true rfl) c_X10_isOf ?_
      rintro r w' (⟨c_7, rfl, rfl⟩ | ⟨c_8, rfl, rfl⟩)
      · refine ab_ifeq 32 dX10_hasCurve_25 (by decide) (fun h_9 => absurd h_9 (by decide)) (fun h_9 => ?_)
        refine ab_iconst (v := 1) dX10_hasCurve_28 (by decide) ?_
        refine ab_goto 33 dX10_hasCurve_29 (by decide) ?_
        exact ab_zret dX10_hasCurve_33 rfl rfl (by decide) (Or.inl (⟨(by grind), rfl, rfl⟩))
      · refine ab_ifeq 32 dX10_hasCurve_25 (by decide) (fun h_10 => ?_) (fun h_10 => absurd (by decide) h_10)
        refine ab_iconst (v := 0) dX10_hasCurve_32 (by decide) ?_
        exact ab_zret dX10_hasCurve_33 rfl rfl (by decide) (Or.inr (⟨(by grind), rfl, rfl⟩))
    · refine ab_ifeq 32 dX10_hasCurve_17 (by decide) (fun h_11 => ?_) (fun h_11 => absurd (by decide) h_11)
      refine ab_iconst (v := 0) dX10_hasCurve_32 (by decide) ?_
      exact ab_zret dX10_hasCurve_33 rfl rfl (by decide) (Or.inr (⟨(by grind), rfl, rfl⟩))
  · refine ab_ifeq 32 dX10_hasCurve_5 (by decide) (fun h_12 => ?_) (fun h_12 => absurd (by decide) h_12)
    refine ab_iconst (v := 0) dX10_hasCurve_32 (by decide) ?_
    exact ab_zret dX10_hasCurve_33 rfl rfl (by decide) (Or.inr (⟨(by grind), rfl, rfl⟩))
theorem c_X10_linkageAt {f0_0 f10_0 f10_1 f10_2 f10_3 a1 : Int32} {x1 x2 x3 x7 x8 x9 x11 x12 x13 x14 x15 x16 x17 x18 x19 x20 x21 x22 x23 x24 x25 x26 x27 x28 x29 x30 x31 x32 : ax_E} {r5 r6 : Nat → Int32} {wm : List ax_E} (h_i : 0 ≤ a1 ∧ a1 < r6 0) (h_c : r6 0 ≤ nI 4) : Ct M_X10_linkageAt [.ref 0, .int a1] ([ob 8 [.int f0_0, .ref 1, .ref 4, .ref 7, .ref 10, .ref 11, .ref 12, .ref 18, .ref 25, .ref 29], x1, x2, x3, ob 2 [.ref 5, .ref 6], ia 56 r5, ia 4 r6, x7, x8, x9, ob 3 [.int f10_0, .int f10_1, .int f10_2, .int f10_3], x11, x12, x13, x14, x15, x16, x17, x18, x19, x20, x21, x22, x23, x24, x25, x26, x27, x28, x29, x30, x31, x32], wm) (fun r w' => r = some (.ref 10) ∧ w' = ([ob 8 [.int f0_0, .ref 1, .ref 4, .ref 7, .ref 10, .ref 11, .ref 12, .ref 18, .ref 25, .ref 29], x1, x2, x3, ob 2 [.ref 5, .ref 6], ia 56 r5, ia 4 r6, x7, x8, x9, ob 3 [.int (Bg r5 a1), .int (Ba r5 a1), .int (Bb r5 a1), .int (Bc r5 a1)], x11, x12, x13, x14, x15, x16, x17, x18, x19, x20, x21, x22, x23, x24, x25, x26, x27, x28, x29, x30, x31, x32], wm)) := by
  refine ct_of ⟨by decide, rfl⟩ (Nat.le_of_ble_eq_true rfl) ?_
  refine ab_aload_n dX10_linkageAt_0 rfl ?_
  refine ab_getf dX10_linkageAt_1 fl_X10_33 rfl rfl ?_
  refine ab_aload_n dX10_linkageAt_4 rfl ?_
  refine ab_getf dX10_linkageAt_5 fl_X10_23 rfl rfl ?_
  refine ab_iload_n dX10_linkageAt_8 rfl ?_
  refine ab_callV (As := [.ref 4, .int a1]) (rest := []) dX10_linkageAt_9 mv_X3_take ml_X10_389 ⟨by decide, by decide, rfl, rfl, rfl⟩ (by decide) rfl rfl (Nat.le_of_ble_eq_true rfl) rfl (c_X3_take h_i h_c) ?_
  rintro r w' ⟨rfl, rfl⟩
  refine ab_aload_n dX10_linkageAt_12 rfl ?_
  refine ab_getf dX10_linkageAt_13 fl_X10_33 rfl rfl ?_
  exact ab_aret dX10_linkageAt_16 rfl (by decide) (⟨rfl, rfl⟩)
theorem c_X10_positionAt {f0_0 f10_0 f10_1 f10_2 f10_3 a1 a2 : Int32} {x1 x2 x3 x7 x8 x9 x12 x13 x14 x15 x16 x17 x18 x19 x20 x21 x22 x23 x24 x25 x26 x27 x28 x29 x30 x31 x32 : ax_E} {r5 r6 : Nat → Int32} {f11_0 f11_1 f11_2 f11_3 f11_4 f11_5 f11_6 f11_7 f11_8 f11_9 f11_10 f11_11 f11_12 f11_13 f11_14 f11_15 : Int64} {wm : List ax_E} (h_i : 0 ≤ a1 ∧ a1 < r6 0) (h_c : r6 0 ≤ nI 4) (h_k : 0 ≤ a2 ∧ a2 < 40) : Ct M_X10_positionAt [.ref 0, .int a1, .int a2] ([ob 8 [.int f0_0, .ref 1, .ref 4, .ref 7, .ref 10, .ref 11, .ref 12, .ref 18, .ref 25, .ref 29], x1, x2, x3, ob 2 [.ref 5, .ref 6], ia 56 r5, ia 4 r6, x7, x8, x9, ob 3 [.int f10_0, .int f10_1, .int f10_2, .int f10_3], ob 5 [.long f11_0, .long f11_1, .long f11_2, .long f11_3, .long f11_4, .long f11_5, .long f11_6, .long f11_7, .long f11_8, .long f11_9, .long f11_10, .long f11_11, .long f11_12, .long f11_13, .long f11_14, .long f11_15], x12, x13, x14, x15, x16, x17, x18, x19, x20, x21, x22, x23, x24, x25, x26, x27, x28, x29, x30, x31, x32], wm) (fun r w' => r = some (.ref 11) ∧ w' = ([ob 8 [.int f0_0, .ref 1, .ref 4, .ref 7, .ref 10, .ref 11, .ref 12, .ref 18, .ref 25, .ref 29], x1, x2, x3, ob 2 [.ref 5, .ref 6], ia 56 r5, ia 4 r6, x7, x8, x9, ob 3 [.int (Bg r5 a1), .int (Ba r5 a1), .int (Bb r5 a1), .int (Bc r5 a1)], ob 5 [.long (Ps_n a2), .long (Ps_d a2), .long (Ps_s (Bg r5 a1) (Ba r5 a1) a2), .long (Ps_k (Bg r5 a1) (Ba r5 a1) (Bb r5 a1) (Bc r5 a1) a2), .long (Int32.toInt64 (Bg r5 a1)), .long (Int32.toInt64 (Ba r5 a1)), .long (Int32.toInt64 (Bb r5 a1)), .long (Int32.toInt64 (Bc r5 a1)), .long (Ps_c a2), .long (Ps_e (Bg r5 a1) (Ba r5 a1) (Bb r5 a1) (Bc r5 a1) a2), .long (Ps_x (Bg r5 a1) (Ba r5 a1) a2), .long (Ps_y (Ba r5 a1) a2), .long f11_12, .long f11_13, .long f11_14, .long f11_15], x12, x13, x14, x15, x16, x17, x18, x19, x20, x21, x22, x23, x24, x25, x26, x27, x28, x29, x30, x31, x32], wm)) := by
  refine ct_of ⟨by decide, rfl⟩ (Nat.le_of_ble_eq_true rfl) ?_
  refine ab_aload_n dX10_positionAt_0 rfl ?_
  refine ab_getf dX10_positionAt_1 fl_X10_40 rfl rfl ?_
  refine ab_aload_n dX10_positionAt_4 rfl ?_
  refine ab_iload_n dX10_positionAt_5 rfl ?_
  refine ab_callV (As := [.int a1]) (rest := [.ref 11]) dX10_positionAt_6 mv_X10_linkageAt ml_X10_140 ⟨by decide, by decide, rfl, rfl, rfl⟩ (by decide) rfl rfl (Nat.le_of_ble_eq_true rfl) rfl (c_X10_linkageAt h_i h_c) ?_
  rintro r w' ⟨rfl, rfl⟩
  refine ab_iload_n dX10_positionAt_9 rfl ?_
  refine ab_callV (As := [.ref 10, .int a2]) (rest := []) dX10_positionAt_10 mv_X5_set ml_X10_236 ⟨by decide, by decide, rfl, rfl, rfl⟩ (by decide) rfl rfl (Nat.le_of_ble_eq_true rfl) rfl (c_X5_set h_k) ?_
  rintro r w' ⟨rfl, rfl⟩
  refine ab_aload_n dX10_positionAt_13 rfl ?_
  refine ab_getf dX10_positionAt_14 fl_X10_40 rfl rfl ?_
  exact ab_aret dX10_positionAt_17 rfl (by decide) (⟨rfl, rfl⟩)
theorem c_X10_sums {f0_0 f10_0 f10_1 f10_2 f10_3 a1 : Int32} {x1 x2 x3 x7 x8 x9 x11 x12 x13 x14 x15 x16 x17 x18 x19 x20 x21 x22 x23 x24 x25 x26 x27 x28 x29 x30 x31 x32 : ax_E} {r5 r6 : Nat → Int32} {wm : List ax_E} (h_c : r6 0 ≤ nI 4) : Ct M_X10_sums [.ref 0, .int a1] ([ob 8 [.int f0_0, .ref 1, .ref 4, .ref 7, .ref 10, .ref 11, .ref 12, .ref 18, .ref 25, .ref 29], x1, x2, x3, ob 2 [.ref 5, .ref 6], ia 56 r5, ia 4 r6, x7, x8, x9, ob 3 [.int f10_0, .int f10_1, .int f10_2, .int f10_3], x11, x12, x13, x14, x15, x16, x17, x18, x19, x20, x21, x22, x23, x24, x25, x26, x27, x28, x29, x30, x31, x32], wm) (fun r w' => ((0 ≤ a1 ∧ a1 < r6 0) ∧ r = some (.int (Lk_sums (Bg r5 a1) (Ba r5 a1) (Bb r5 a1) (Bc r5 a1))) ∧ w' = ([ob 8 [.int 0, .ref 1, .ref 4, .ref 7, .ref 10, .ref 11, .ref 12, .ref 18, .ref 25, .ref 29], x1, x2, x3, ob 2 [.ref 5, .ref 6], ia 56 r5, ia 4 r6, x7, x8, x9, ob 3 [.int (Bg r5 a1), .int (Ba r5 a1), .int (Bb r5 a1), .int (Bc r5 a1)], x11, x12, x13, x14, x15, x16, x17, x18, x19, x20, x21, x22, x23, x24, x25, x26, x27, x28, x29, x30, x31, x32], wm)) ∨ ((¬ (0 ≤ a1 ∧ a1 < r6 0)) ∧ r = some (.int (-1000000000)) ∧ w' = ([ob 8 [.int 1, .ref 1, .ref 4, .ref 7, .ref 10, .ref 11, .ref 12, .ref 18, .ref 25, .ref 29], x1, x2, x3, ob 2 [.ref 5, .ref 6], ia 56 r5, ia 4 r6, x7, x8, x9, ob 3 [.int f10_0, .int f10_1, .int f10_2, .int f10_3], x11, x12, x13, x14, x15, x16, x17, x18, x19, x20, x21, x22, x23, x24, x25, x26, x27, x28, x29, x30, x31, x32], wm))) := by
  refine ct_of ⟨by decide, rfl⟩ (Nat.le_of_ble_eq_true rfl) ?_
  refine ab_aload_n dX10_sums_0 rfl ?_
  refine ab_aload_n dX10_sums_1 rfl ?_
  refine ab_iload_n dX10_sums_2 rfl ?_
  refine ab_callV (As := [.int a1]) (rest := [.ref 0]) dX10_sums_3 mv_X10_hasLinkage ml_X10_133 ⟨by decide, by decide, rfl, rfl, rfl⟩ (by decide) rfl rfl (Nat.le_of_ble_eq_true rfl) rfl c_X10_hasLinkage ?_
  rintro r w' (⟨c_1, rfl, rfl⟩ | ⟨c_2, rfl, rfl⟩)
  · refine ab_iconst (v := 1) dX10_sums_6 (by decide) ?_
    refine ab_callV (As := [.int 1, .int 1]) (rest := []) dX10_sums_7 mv_X10_refused ml_X10_84 ⟨by decide, by decide, rfl, rfl, rfl⟩ (by decide) rfl rfl (Nat.le_of_ble_eq_true rfl) rfl c_X10_refused_1 ?_
    rintro r w' ⟨rfl, rfl⟩
    refine ab_ifeq 16 dX10_sums_10 (by decide) (fun h_3 => ?_) (fun h_3 => absurd (by decide) h_3)
    refine ab_aload_n dX10_sums_16 rfl ?_
    refine ab_iload_n dX10_sums_17 rfl ?_
    refine ab_callV (As := [.int a1]) (rest := []) dX10_sums_18 mv_X10_linkageAt ml_X10_140 ⟨by decide, by decide, rfl, rfl, rfl⟩ (by decide) rfl rfl (Nat.le_of_ble_eq_true rfl) rfl (c_X10_linkageAt c_1 h_c) ?_
    rintro r w' ⟨rfl, rfl⟩
    refine ab_callV (As := []) (rest := []) dX10_sums_21 mv_X3_middleLessOuter ml_X10_144 ⟨by decide, by decide, rfl, rfl, rfl⟩ (by decide) rfl rfl (Nat.le_of_ble_eq_true rfl) rfl c_X3_middleLessOuter ?_
    rintro r w' ⟨rfl, rfl⟩
    exact ab_iret dX10_sums_24 rfl (by decide) (Or.inl ⟨c_1, rfl, rfl⟩)
  · refine ab_iconst (v := 1) dX10_sums_6 (by decide) ?_
    refine ab_callV (As := [.int 0, .int 1]) (rest := []) dX10_sums_7 mv_X10_refused ml_X10_84 ⟨by decide, by decide, rfl, rfl, rfl⟩ (by decide) rfl rfl (Nat.le_of_ble_eq_true rfl) rfl c_X10_refused_0 ?_
    rintro r w' ⟨rfl, rfl⟩
    refine ab_ifeq 16 dX10_sums_10 (by decide) (fun h_4 => absurd h_4 (by decide)) (fun h_4 => ?_)
    refine ab_ldc dX10_sums_13 kc_X10_122 ?_
    exact ab_iret dX10_sums_15 rfl (by decide) (Or.inr (⟨c_2, rfl, rfl⟩))
theorem c_X10_kind {f0_0 f10_0 f10_1 f10_2 f10_3 a1 : Int32} {x1 x2 x3 x7 x8 x9 x11 x12 x13 x14 x15 x16 x17 x18 x19 x20 x21 x22 x23 x24 x25 x26 x27 x28 x29 x30 x31 x32 : ax_E} {r5 r6 : Nat → Int32} {wm : List ax_E} (h_c : r6 0 ≤ nI 4) : Ct M_X10_kind [.ref 0, .int a1] ([ob 8 [.int f0_0, .ref 1, .ref 4, .ref 7, .ref 10, .ref 11, .ref 12, .ref 18, .ref 25, .ref 29], x1, x2, x3, ob 2 [.ref 5, .ref 6], ia 56 r5, ia 4 r6, x7, x8, x9, ob 3 [.int f10_0, .int f10_1, .int f10_2, .int f10_3], x11, x12, x13, x14, x15, x16, x17, x18, x19, x20, x21, x22, x23, x24, x25, x26, x27, x28, x29, x30, x31, x32], wm) (fun r w' => ((0 ≤ a1 ∧ a1 < r6 0) ∧ r = some (.int (Lk_kind (Bg r5 a1) (Ba r5 a1) (Bb r5 a1) (Bc r5 a1))) ∧ w' = ([ob 8 [.int 0, .ref 1, .ref 4, .ref 7, .ref 10, .ref 11, .ref 12, .ref 18, .ref 25, .ref 29], x1, x2, x3, ob 2 [.ref 5, .ref 6], ia 56 r5, ia 4 r6, x7, x8, x9, ob 3 [.int (Bg r5 a1), .int (Ba r5 a1), .int (Bb r5 a1), .int (Bc r5 a1)], x11, x12, x13, x14, x15, x16, x17, x18, x19, x20, x21, x22, x23, x24, x25, x26, x27, x28, x29, x30, x31, x32], wm)) ∨ ((¬ (0 ≤ a1 ∧ a1 < r6 0)) ∧ r = some (.int (-1)) ∧ w' = ([ob 8 [.int 1, .ref 1, .ref 4, .ref 7, .ref 10, .ref 11, .ref 12, .ref 18, .ref 25, .ref 29], x1, x2, x3, ob 2 [.ref 5, .ref 6], ia 56 r5, ia 4 r6, x7, x8, x9, ob 3 [.int f10_0, .int f10_1, .int f10_2, .int f10_3], x11, x12, x13, x14, x15, x16, x17, x18, x19, x20, x21, x22, x23, x24, x25, x26, x27, x28, x29, x30, x31, x32], wm))) := by
  refine ct_of ⟨by decide, rfl⟩ (Nat.le_of_ble_eq_true rfl) ?_
  refine ab_aload_n dX10_kind_0 rfl ?_
  refine ab_aload_n dX10_kind_1 rfl ?_
  refine ab_iload_n dX10_kind_2 rfl ?_
  refine ab_callV (As := [.int a1]) (rest := [.ref 0]) dX10_kind_3 mv_X10_hasLinkage ml_X10_133 ⟨by decide, by decide, rfl, rfl, rfl⟩ (by decide) rfl rfl (Nat.le_of_ble_eq_true rfl) rfl c_X10_hasLinkage ?_
  rintro r w' (⟨c_1, rfl, rfl⟩ | ⟨c_2, rfl, rfl⟩)
  · refine ab_iconst (v := 1) dX10_kind_6 (by decide) ?_
    refine ab_callV (As := [.int 1, .int 1]) (rest := []) dX10_kind_7 mv_X10_refused ml_X10_84 ⟨by decide, by decide, rfl, rfl, rfl⟩ (by decide) rfl rfl (Nat.le_of_ble_eq_true rfl) rfl c_X10_refused_1 ?_
    rintro r w' ⟨rfl, rfl⟩
    refine ab_ifeq 15 dX10_kind_10 (by decide) (fun h_3 => ?_) (fun h_3 => absurd (by decide) h_3)
    refine ab_aload_n dX10_kind_15 rfl ?_
    refine ab_iload_n dX10_kind_16 rfl ?_
    refine ab_callV (As := [.int a1]) (rest := []) dX10_kind_17 mv_X10_linkageAt ml_X10_140 ⟨by decide, by decide, rfl, rfl, rfl⟩ (by decide) rfl rfl (Nat.le_of_ble_eq_true rfl) rfl (c_X10_linkageAt c_1 h_c) ?_
    rintro r w' ⟨rfl, rfl⟩
    refine ab_callV (As := []) (rest := []) dX10_kind_20 mv_X3_sortOf ml_X10_147 ⟨by decide, by decide, rfl, rfl, rfl⟩ (by decide) rfl rfl (Nat.le_of_ble_eq_true rfl) rfl c_X3_sortOf ?_
    rintro r w' ⟨rfl, rfl⟩
    exact ab_iret dX10_kind_23 rfl (by decide) (Or.inl ⟨c_1, rfl, rfl⟩)
  · refine ab_iconst (v := 1) dX10_kind_6 (by decide) ?_
    refine ab_callV (As := [.int 0, .int 1]) (rest := []) dX10_kind_7 mv_X10_refused ml_X10_84 ⟨by decide, by decide, rfl, rfl, rfl⟩ (by decide) rfl rfl (Nat.le_of_ble_eq_true rfl) rfl c_X10_refused_0 ?_
    rintro r w' ⟨rfl, rfl⟩
    refine ab_ifeq 15 dX10_kind_10 (by decide) (fun h_4 => absurd h_4 (by decide)) (fun h_4 => ?_)
    refine ab_iconst (v := -1) dX10_kind_13 (by decide) ?_
    exact ab_iret dX10_kind_14 rfl (by decide) (Or.inr (⟨c_2, rfl, rfl⟩))
theorem c_X10_ends {f0_0 f10_0 f10_1 f10_2 f10_3 a1 : Int32} {x1 x2 x3 x7 x8 x9 x11 x12 x13 x14 x15 x16 x17 x18 x19 x20 x21 x22 x23 x24 x25 x26 x27 x28 x29 x30 x31 x32 : ax_E} {r5 r6 : Nat → Int32} {wm : List ax_E} (h_c : r6 0 ≤ nI 4) : Ct M_X10_ends [.ref 0, .int a1] ([ob 8 [.int f0_0, .ref 1, .ref 4, .ref 7, .ref 10, .ref 11, .ref 12, .ref 18, .ref 25, .ref 29], x1, x2, x3, ob 2 [.ref 5, .ref 6], ia 56 r5, ia 4 r6, x7, x8, x9, ob 3 [.int f10_0, .int f10_1, .int f10_2, .int f10_3], x11, x12, x13, x14, x15, x16, x17, x18, x19, x20, x21, x22, x23, x24, x25, x26, x27, x28, x29, x30, x31, x32], wm) (fun r w' => ((0 ≤ a1 ∧ a1 < r6 0) ∧ r = some (.int (Lk_ends (Bg r5 a1) (Ba r5 a1) (Bb r5 a1) (Bc r5 a1))) ∧ w' = ([ob 8 [.int 0, .ref 1, .ref 4, .ref 7, .ref 10, .ref 11, .ref 12, .ref 18, .ref 25, .ref 29], x1, x2, x3, ob 2 [.ref 5, .ref 6], ia 56 r5, ia 4 r6, x7, x8, x9, ob 3 [.int (Bg r5 a1), .int (Ba r5 a1), .int (Bb r5 a1), .int (Bc r5 a1)], x11, x12, x13, x14, x15, x16, x17, x18, x19, x20, x21, x22, x23, x24, x25, x26, x27, x28, x29, x30, x31, x32], wm)) ∨ ((¬ (0 ≤ a1 ∧ a1 < r6 0)) ∧ r = some (.int (-1)) ∧ w' = ([ob 8 [.int 1, .ref 1, .ref 4, .ref 7, .ref 10, .ref 11, .ref 12, .ref 18, .ref 25, .ref 29], x1, x2, x3, ob 2 [.ref 5, .ref 6], ia 56 r5, ia 4 r6, x7, x8, x9, ob 3 [.int f10_0, .int f10_1, .int f10_2, .int f10_3], x11, x12, x13, x14, x15, x16, x17, x18, x19, x20, x21, x22, x23, x24, x25, x26, x27, x28, x29, x30, x31, x32], wm))) := by
  refine ct_of ⟨by decide, rfl⟩ (Nat.le_of_ble_eq_true rfl) ?_
  refine ab_aload_n dX10_ends_0 rfl ?_
  refine ab_aload_n dX10_ends_1 rfl ?_
  refine ab_iload_n dX10_ends_2 rfl ?_
  refine ab_callV (As := [.int a1]) (rest := [.ref 0]) dX10_ends_3 mv_X10_hasLinkage ml_X10_133 ⟨by decide, by decide, rfl, rfl, rfl⟩ (by decide) rfl rfl (Nat.le_of_ble_eq_true rfl) rfl c_X10_hasLinkage ?_
  rintro r w' (⟨c_1, rfl, rfl⟩ | ⟨c_2, rfl, rfl⟩)
  · refine ab_iconst (v := 1) dX10_ends_6 (by decide) ?_
    refine ab_callV (As := [.int 1, .int 1]) (rest := []) dX10_ends_7 mv_X10_refused ml_X10_84 ⟨by decide, by decide, rfl, rfl, rfl⟩ (by decide) rfl rfl (Nat.le_of_ble_eq_true rfl) rfl c_X10_refused_1 ?_
    rintro r w' ⟨rfl, rfl⟩
    refine ab_ifeq 15 dX10_ends_10 (by decide) (fun h_3 => ?_) (fun h_3 => absurd (by decide) h_3)
    refine ab_aload_n dX10_ends_15 rfl ?_
    refine ab_iload_n dX10_ends_16 rfl ?_
    refine ab_callV (As := [.int a1]) (rest := []) dX10_ends_17 mv_X10_linkageAt ml_X10_140 ⟨by decide, by decide, rfl, rfl, rfl⟩ (by decide) rfl rfl (Nat.le_of_ble_eq_true rfl) rfl (c_X10_linkageAt c_1 h_c) ?_
    rintro r w' ⟨rfl, rfl⟩
    refine ab_callV (As := []) (rest := []) dX10_ends_20 mv_X3_endCount ml_X10_157 ⟨by decide, by decide, rfl, rfl, rfl⟩ (by decide) rfl rfl (Nat.le_of_ble_eq_true rfl) rfl c_X3_endCount ?_
    rintro r w' ⟨rfl, rfl⟩
    exact ab_iret dX10_ends_23 rfl (by decide) (Or.inl ⟨c_1, rfl, rfl⟩)
  · refine ab_iconst (v := 1) dX10_ends_6 (by decide) ?_
    refine ab_callV (As := [.int 0, .int 1]) (rest := []) dX10_ends_7 mv_X10_refused ml_X10_84 ⟨by decide, by decide, rfl, rfl, rfl⟩ (by decide) rfl rfl (Nat.le_of_ble_eq_true rfl) rfl c_X10_refused_0 ?_
    rintro r w' ⟨rfl, rfl⟩
    refine ab_ifeq 15 dX10_ends_10 (by decide) (fun h_4 => absurd h_4 (by decide)) (fun h_4 => ?_)
    refine ab_iconst (v := -1) dX10_ends_13 (by decide) ?_
    exact ab_iret dX10_ends_14 rfl (by decide) (Or.inr (⟨c_2, rfl, rfl⟩))
theorem c_X10_arcs {f0_0 f10_0 f10_1 f10_2 f10_3 a1 : Int32} {x1 x2 x3 x7 x8 x9 x11 x12 x13 x14 x15 x16 x17 x18 x19 x20 x21 x22 x23 x24 x25 x26 x27 x28 x29 x30 x31 x32 : ax_E} {r5 r6 : Nat → Int32} {wm : List ax_E} (h_c : r6 0 ≤ nI 4) : Ct M_X10_arcs [.ref 0, .int a1] ([ob 8 [.int f0_0, .ref 1, .ref 4, .ref 7, .ref 10, .ref 11, .ref 12, .ref 18, .ref 25, .ref 29], x1, x2, x3, ob 2 [.ref 5, .ref 6], ia 56 r5, ia 4 r6, x7, x8, x9, ob 3 [.int f10_0, .int f10_1, .int f10_2, .int f10_3], x11, x12, x13, x14, x15, x16, x17, x18, x19, x20, x21, x22, x23, x24, x25, x26, x27, x28, x29, x30, x31, x32], wm) (fun r w' => ((0 ≤ a1 ∧ a1 < r6 0) ∧ r = some (.int (Lk_arcs (Bg r5 a1) (Ba r5 a1) (Bb r5 a1) (Bc r5 a1))) ∧ w' = ([ob 8 [.int 0, .ref 1, .ref 4, .ref 7, .ref 10, .ref 11, .ref 12, .ref 18, .ref 25, .ref 29], x1, x2, x3, ob 2 [.ref 5, .ref 6], ia 56 r5, ia 4 r6, x7, x8, x9, ob 3 [.int (Bg r5 a1), .int (Ba r5 a1), .int (Bb r5 a1), .int (Bc r5 a1)], x11, x12, x13, x14, x15, x16, x17, x18, x19, x20, x21, x22, x23, x24, x25, x26, x27, x28, x29, x30, x31, x32], wm)) ∨ ((¬ (0 ≤ a1 ∧ a1 < r6 0)) ∧ r = some (.int (-1)) ∧ w' = ([ob 8 [.int 1, .ref 1, .ref 4, .ref 7, .ref 10, .ref 11, .ref 12, .ref 18, .ref 25, .ref 29], x1, x2, x3, ob 2 [.ref 5, .ref 6], ia 56 r5, ia 4 r6, x7, x8, x9, ob 3 [.int f10_0, .int f10_1, .int f10_2, .int f10_3], x11, x12, x13, x14, x15, x16, x17, x18, x19, x20, x21, x22, x23, x24, x25, x26, x27, x28, x29, x30, x31, x32], wm))) := by
  refine ct_of ⟨by decide, rfl⟩ (Nat.le_of_ble_eq_true rfl) ?_
  refine ab_aload_n dX10_arcs_0 rfl ?_
  refine ab_aload_n dX10_arcs_1 rfl ?_
  refine ab_iload_n dX10_arcs_2 rfl ?_
  refine ab_callV (As := [.int a1]) (rest := [.ref 0]) dX10_arcs_3 mv_X10_hasLinkage ml_X10_133 ⟨by decide, by decide, rfl, rfl, rfl⟩ (by decide) rfl rfl (Nat.le_of_ble_eq_true rfl) rfl c_X10_hasLinkage ?_
  rintro r w' (⟨c_1, rfl, rfl⟩ | ⟨c_2, rfl, rfl⟩)
  · refine ab_iconst (v := 1) dX10_arcs_6 (by decide) ?_
    refine ab_callV (As := [.int 1, .int 1]) (rest := []) dX10_arcs_7 mv_X10_refused ml_X10_84 ⟨by decide, by decide, rfl, rfl, rfl⟩ (by decide) rfl rfl (Nat.le_of_ble_eq_true rfl) rfl c_X10_refused_1 ?_
    rintro r w' ⟨rfl, rfl⟩
    refine ab_ifeq 15 dX10_arcs_10 (by decide) (fun h_3 => ?_) (fun h_3 => absurd (by decide) h_3)
    refine ab_aload_n dX10_arcs_15 rfl ?_
    refine ab_iload_n dX10_arcs_16 rfl ?_
    refine ab_callV (As := [.int a1]) (rest := []) dX10_arcs_17 mv_X10_linkageAt ml_X10_140 ⟨by decide, by decide, rfl, rfl, rfl⟩ (by decide) rfl rfl (Nat.le_of_ble_eq_true rfl) rfl (c_X10_linkageAt c_1 h_c) ?_
    rintro r w' ⟨rfl, rfl⟩
    refine ab_callV (As := []) (rest := []) dX10_arcs_20 mv_X3_arcCount ml_X10_160 ⟨by decide, by decide, rfl, rfl, rfl⟩ (by decide) rfl rfl (Nat.le_of_ble_eq_true rfl) rfl c_X3_arcCount ?_
    rintro r w' ⟨rfl, rfl⟩
    exact ab_iret dX10_arcs_23 rfl (by decide) (Or.inl ⟨c_1, rfl, rfl⟩)
  · refine ab_iconst (v := 1) dX10_arcs_6 (by decide) ?_
    refine ab_callV (As := [.int 0, .int 1]) (rest := []) dX10_arcs_7 mv_X10_refused ml_X10_84 ⟨by decide, by decide, rfl, rfl, rfl⟩ (by decide) rfl rfl (Nat.le_of_ble_eq_true rfl) rfl c_X10_refused_0 ?_
    rintro r w' ⟨rfl, rfl⟩
    refine ab_ifeq 15 dX10_arcs_10 (by decide) (fun h_4 => absurd h_4 (by decide)) (fun h_4 => ?_)
    refine ab_iconst (v := -1) dX10_arcs_13 (by decide) ?_
    exact ab_iret dX10_arcs_14 rfl (by decide) (Or.inr (⟨c_2, rfl, rfl⟩))
theorem c_X10_circuits {f0_0 f10_0 f10_1 f10_2 f10_3 a1 : Int32} {x1 x2 x3 x7 x8 x9 x11 x12 x13 x14 x15 x16 x17 x18 x19 x20 x21 x22 x23 x24 x25 x26 x27 x28 x29 x30 x31 x32 : ax_E} {r5 r6 : Nat → Int32} {wm : List ax_E} (h_c : r6 0 ≤ nI 4) : Ct M_X10_circuits [.ref 0, .int a1] ([ob 8 [.int f0_0, .ref 1, .ref 4, .ref 7, .ref 10, .ref 11, .ref 12, .ref 18, .ref 25, .ref 29], x1, x2, x3, ob 2 [.ref 5, .ref 6], ia 56 r5, ia 4 r6, x7, x8, x9, ob 3 [.int f10_0, .int f10_1, .int f10_2, .int f10_3], x11, x12, x13, x14, x15, x16, x17, x18, x19, x20, x21, x22, x23, x24, x25, x26, x27, x28, x29, x30, x31, x32], wm) (fun r w' => ((0 ≤ a1 ∧ a1 < r6 0) ∧ r = some (.int (Lk_circ (Bg r5 a1) (Ba r5 a1) (Bb r5 a1) (Bc r5 a1))) ∧ w' = ([ob 8 [.int 0, .ref 1, .ref 4, .ref 7, .ref 10, .ref 11, .ref 12, .ref 18, .ref 25, .ref 29], x1, x2, x3, ob 2 [.ref 5, .ref 6], ia 56 r5, ia 4 r6, x7, x8, x9, ob 3 [.int (Bg r5 a1), .int (Ba r5 a1), .int (Bb r5 a1), .int (Bc r5 a1)], x11, x12, x13, x14, x15, x16, x17, x18, x19, x20, x21, x22, x23, x24, x25, x26, x27, x28, x29, x30, x31, x32], wm)) ∨ ((¬ (0 ≤ a1 ∧ a1 < r6 0)) ∧ r = some (.int (-1)) ∧ w' = ([ob 8 [.int 1, .ref 1, .ref 4, .ref 7, .ref 10, .ref 11, .ref 12, .ref 18, .ref 25, .ref 29], x1, x2, x3, ob 2 [.ref 5, .ref 6], ia 56 r5, ia 4 r6, x7, x8, x9, ob 3 [.int f10_0, .int f10_1, .int f10_2, .int f10_3], x11, x12, x13, x14, x15, x16, x17, x18, x19, x20, x21, x22, x23, x24, x25, x26, x27, x28, x29, x30, x31, x32], wm))) := by
  refine ct_of ⟨by decide, rfl⟩ (Nat.le_of_ble_eq_true rfl) ?_
  refine ab_aload_n dX10_circuits_0 rfl ?_
  refine ab_aload_n dX10_circuits_1 rfl ?_
  refine ab_iload_n dX10_circuits_2 rfl ?_
  refine ab_callV (As := [.int a1]) (rest := [.ref 0]) dX10_circuits_3 mv_X10_hasLinkage ml_X10_133 ⟨by decide, by decide, rfl, rfl, rfl⟩ (by decide) rfl rfl (Nat.le_of_ble_eq_true rfl) rfl c_X10_hasLinkage ?_
  rintro r w' (⟨c_1, rfl, rfl⟩ | ⟨c_2, rfl, rfl⟩)
  · refine ab_iconst (v := 1) dX10_circuits_6 (by decide) ?_
    refine ab_callV (As := [.int 1, .int 1]) (rest := []) dX10_circuits_7 mv_X10_refused ml_X10_84 ⟨by decide, by decide, rfl, rfl, rfl⟩ (by decide) rfl rfl (Nat.le_of_ble_eq_true rfl) rfl c_X10_refused_1 ?_
    rintro r w' ⟨rfl, rfl⟩
    refine ab_ifeq 15 dX10_circuits_10 (by decide) (fun h_3 => ?_) (fun h_3 => absurd (by decide) h_3)
    refine ab_aload_n dX10_circuits_15 rfl ?_
    refine ab_iload_n dX10_circuits_16 rfl ?_
    refine ab_callV (As := [.int a1]) (rest := []) dX10_circuits_17 mv_X10_linkageAt ml_X10_140 ⟨by decide, by decide, rfl, rfl, rfl⟩ (by decide) rfl rfl (Nat.le_of_ble_eq_true rfl) rfl (c_X10_linkageAt c_1 h_c) ?_
    rintro r w' ⟨rfl, rfl⟩
    refine ab_callV (As := []) (rest := []) dX10_circuits_20 mv_X3_circuitCount ml_X10_163 ⟨by decide, by decide, rfl, rfl, rfl⟩ (by decide) rfl rfl (Nat.le_of_ble_eq_true rfl) rfl c_X3_circuitCount ?_
    rintro r w' ⟨rfl, rfl⟩
    exact ab_iret dX10_circuits_23 rfl (by decide) (Or.inl ⟨c_1, rfl, rfl⟩)
  · refine ab_iconst (v := 1) dX10_circuits_6 (by decide) ?_
    refine ab_callV (As := [.int 0, .int 1]) (rest := []) dX10_circuits_7 mv_X10_refused ml_X10_84 ⟨by decide, by decide, rfl, rfl, rfl⟩ (by decide) rfl rfl (Nat.le_of_ble_eq_true rfl) rfl c_X10_refused_0 ?_
    rintro r w' ⟨rfl, rfl⟩
    refine ab_ifeq 15 dX10_circuits_10 (by decide) (fun h_4 => absurd h_4 (by decide)) (fun h_4 => ?_)
    refine ab_iconst (v := -1) dX10_circuits_13 (by decide) ?_
    exact ab_iret dX10_circuits_14 rfl (by decide) (Or.inr (⟨c_2, rfl, rfl⟩))
theorem c_X10_round {f0_0 f10_0 f10_1 f10_2 f10_3 a1 a2 : Int32} {x1 x2 x3 x7 x8 x9 x11 x12 x13 x14 x15 x16 x17 x18 x19 x20 x21 x22 x23 x24 x25 x26 x27 x28 x29 x30 x31 x32 : ax_E} {r5 r6 : Nat → Int32} {wm : List ax_E} (h_c : r6 0 ≤ nI 4) : Ct M_X10_round [.ref 0, .int a1, .int a2] ([ob 8 [.int f0_0, .ref 1, .ref 4, .ref 7, .ref 10, .ref 11, .ref 12, .ref 18, .ref 25, .ref 29], x1, x2, x3, ob 2 [.ref 5, .ref 6], ia 56 r5, ia 4 r6, x7, x8, x9, ob 3 [.int f10_0, .int f10_1, .int f10_2, .int f10_3], x11, x12, x13, x14, x15, x16, x17, x18, x19, x20, x21, x22, x23, x24, x25, x26, x27, x28, x29, x30, x31, x32], wm) (fun r w' => ((0 ≤ a1 ∧ a1 < r6 0) ∧ (0 ≤ a2 ∧ a2 < 4) ∧ (Lk_rnd (Bg r5 a1) (Ba r5 a1) (Bb r5 a1) (Bc r5 a1) a2) ∧ r = some (.int 1) ∧ w' = ([ob 8 [.int 0, .ref 1, .ref 4, .ref 7, .ref 10, .ref 11, .ref 12, .ref 18, .ref 25, .ref 29], x1, x2, x3, ob 2 [.ref 5, .ref 6], ia 56 r5, ia 4 r6, x7, x8, x9, ob 3 [.int (Bg r5 a1), .int (Ba r5 a1), .int (Bb r5 a1), .int (Bc r5 a1)], x11, x12, x13, x14, x15, x16, x17, x18, x19, x20, x21, x22, x23, x24, x25, x26, x27, x28, x29, x30, x31, x32], wm)) ∨ ((0 ≤ a1 ∧ a1 < r6 0) ∧ (0 ≤ a2 ∧ a2 < 4) ∧ (¬ (Lk_rnd (Bg r5 a1) (Ba r5 a1) (Bb r5 a1) (Bc r5 a1) a2)) ∧ r = some (.int 0) ∧ w' = ([ob 8 [.int 0, .ref 1, .ref 4, .ref 7, .ref 10, .ref 11, .ref 12, .ref 18, .ref 25, .ref 29], x1, x2, x3, ob 2 [.ref 5, .ref 6], ia 56 r5, ia 4 r6, x7, x8, x9, ob 3 [.int (Bg r5 a1), .int (Ba r5 a1), .int (Bb r5 a1), .int (Bc r5 a1)], x11, x12, x13, x14, x15, x16, x17, x18, x19, x20, x21, x22, x23, x24, x25, x26, x27, x28, x29, x30, x31, x32], wm)) ∨ ((0 ≤ a1 ∧ a1 < r6 0) ∧ (¬ (0 ≤ a2 ∧ a2 < 4)) ∧ r = some (.int (-1)) ∧ w' = ([ob 8 [.int 1, .ref 1, .ref 4, .ref 7, .ref 10, .ref 11, .ref 12, .ref 18, .ref 25, .ref 29], x1, x2, x3, ob 2 [.ref 5, .ref 6], ia 56 r5, ia 4 r6, x7, x8, x9, ob 3 [.int f10_0, .int f10_1, .int f10_2, .int f10_3], x11, x12, x13, x14, x15, x16, x17, x18, x19, x20, x21, x22, x23, x24, x25, x26, x27, x28, x29, x30, x31, x32], wm)) ∨ ((¬ (0 ≤ a1 ∧ a1 < r6 0)) ∧ r = some (.int (-1)) ∧ w' = ([ob 8 [.int 1, .ref 1, .ref 4, .ref 7, .ref 10, .ref 11, .ref 12, .ref 18, .ref 25, .ref 29], x1, x2, x3, ob 2 [.ref 5, .ref 6], ia 56 r5, ia 4 r6, x7, x8, x9, ob 3 [.int f10_0, .int f10_1, .int f10_2, .int f10_3], x11, x12, x13, x14, x15, x16, x17, x18, x19, x20, x21, x22, x23, x24, x25, x26, x27, x28, x29, x30, x31, x32], wm))) := by
  refine ct_of ⟨by decide, rfl⟩ (Nat.le_of_ble_eq_true rfl) ?_
  refine ab_aload_n dX10_round_0 rfl ?_
  refine ab_aload_n dX10_round_1 rfl ?_
  refine ab_iload_n dX10_round_2 rfl ?_
  refine ab_callV (As := [.int a1]) (rest := [.ref 0]) dX10_round_3 mv_X10_hasLinkage ml_X10_133 ⟨by decide, by decide, rfl, rfl, rfl⟩ (by decide) rfl rfl (Nat.le_of_ble_eq_true rfl) rfl c_X10_hasLinkage ?_
  rintro r w' (⟨c_1, rfl, rfl⟩ | ⟨c_2, rfl, rfl⟩)
  · refine ab_ifeq 21 dX10_round_6 (by decide) (fun h_3 => absurd h_3 (by decide)) (fun h_3 => ?_)
    refine ab_iload_n dX10_round_9 rfl ?_
    refine ab_iconst (v := 4) dX10_round_10 (by decide) ?_
    refine ab_callS (As := [.int a2, .int 4]) (rest := [.ref 0]) dX10_round_11 ms_X10_isOf ml_X10_118 ⟨by decide, by decide, rfl, rfl, rfl⟩ (by decide) rfl rfl (Nat.le_of_ble_eq_true rfl) c_X10_isOf ?_
    rintro r w' (⟨c_4, rfl, rfl⟩ | ⟨c_5, rfl, rfl⟩)
    · refine ab_ifeq 21 dX10_round_14 (by decide) (fun h_6 => absurd h_6 (by decide)) (fun h_6 => ?_)
      refine ab_iconst (v := 1) dX10_round_17 (by decide) ?_
      refine ab_goto 22 dX10_round_18 (by decide) ?_
      refine ab_iconst (v := 1) dX10_round_22 (by decide) ?_
      refine ab_callV (As := [.int 1, .int 1]) (rest := []) dX10_round_23 mv_X10_refused ml_X10_84 ⟨by decide, by decide, rfl, rfl, rfl⟩ (by decide) rfl rfl (Nat.le_of_ble_eq_true rfl) rfl c_X10_refused_1 ?_
      rintro r w' ⟨rfl, rfl⟩
      refine ab_ifeq 31 dX10_round_26 (by decide) (fun h_7 => ?_) (fun h_7 => absurd (by decide) h_7)
      refine ab_aload_n dX10_round_31 rfl ?_
      refine ab_iload_n dX10_round_32 rfl ?_
      refine ab_callV (As := [.int a1]) (rest := []) dX10_round_33 mv_X10_linkageAt ml_X10_140 ⟨by decide, by decide, rfl, rfl, rfl⟩ (by decide) rfl rfl (Nat.le_of_ble_eq_true rfl) rfl (c_X10_linkageAt c_1 h_c) ?_
      rintro r w' ⟨rfl, rfl⟩
      refine ab_iload_n dX10_round_36 rfl ?_
      refine ab_callV (As := [.int a2]) (rest := []) dX10_round_37 mv_X3_goesRound ml_X10_150 ⟨by decide, by decide, rfl, rfl, rfl⟩ (by decide) rfl rfl (Nat.le_of_ble_eq_true rfl) rfl c_X3_goesRound ?_
      rintro r w' (⟨c_8, rfl, rfl⟩ | ⟨c_9, rfl, rfl⟩)
      · refine ab_ifeq 47 dX10_round_40 (by decide) (fun h_10 => absurd h_10 (by decide)) (fun h_10 => ?_)
        refine ab_iconst (v := 1) dX10_round_43 (by decide) ?_
        refine ab_goto 48 dX10_round_44 (by decide) ?_
        exact ab_iret dX10_round_48 rfl (by decide) (Or.inl ⟨c_1, c_4, c_8, rfl, rfl⟩)
      · refine ab_ifeq 47 dX10_round_40 (by decide) (fun h_11 => ?_) (fun h_11 => absurd (by decide) h_11)
        refine ab_iconst (v := 0) dX10_round_47 (by decide) ?_
        exact ab_iret dX10_round_48 rfl (by decide) (Or.inr (Or.inl ⟨c_1, c_4, c_9, rfl, rfl⟩))
    · refine ab_ifeq 21 dX10_round_14 (by decide) (fun h_12 => ?_) (fun h_12 => absurd (by decide) h_12)
      refine ab_iconst (v := 0) dX10_round_21 (by decide) ?_
      refine ab_iconst (v := 1) dX10_round_22 (by decide) ?_
      refine ab_callV (As := [.int 0, .int 1]) (rest := []) dX10_round_23 mv_X10_refused ml_X10_84 ⟨by decide, by decide, rfl, rfl, rfl⟩ (by decide) rfl rfl (Nat.le_of_ble_eq_true rfl) rfl c_X10_refused_0 ?_
      rintro r w' ⟨rfl, rfl⟩
      refine ab_ifeq 31 dX10_round_26 (by decide) (fun h_13 => absurd h_13 (by decide)) (fun h_13 => ?_)
      refine ab_iconst (v := -1) dX10_round_29 (by decide) ?_
      exact ab_iret dX10_round_30 rfl (by decide) (Or.inr (Or.inr (Or.inl ⟨c_1, c_5, rfl, rfl⟩)))
  · refine ab_ifeq 21 dX10_round_6 (by decide) (fun h_14 => ?_) (fun h_14 => absurd (by decide) h_14)
    refine ab_iconst (v := 0) dX10_round_21 (by decide) ?_
    refine ab_iconst (v := 1) dX10_round_22 (by decide) ?_
    refine ab_callV (As := [.int 0, .int 1]) (rest := []) dX10_round_23 mv_X10_refused ml_X10_84 ⟨by decide, by decide, rfl, rfl, rfl⟩ (by decide) rfl rfl (Nat.le_of_ble_eq_true rfl) rfl c_X10_refused_0 ?_
    rintro r w' ⟨rfl, rfl⟩
    refine ab_ifeq 31 dX10_round_26 (by decide) (fun h_15 => absurd h_15 (by decide)) (fun h_15 => ?_)
    refine ab_iconst (v := -1) dX10_round_29 (by decide) ?_
    exact ab_iret dX10_round_30 rfl (by decide) (Or.inr (Or.inr (Or.inr (⟨c_2, rfl, rfl⟩))))
