def Bd (f18_11 : Int64) (r19 : Nat → Int64) (r20 : Nat → Int64) (r21 : Nat → Int64) (r22 : Nat → Int64) (r23 : Nat → Int64) (r24 : Nat → Int64) (a1 : Int32) (a2 : Int32) (nr : Nat) : (Nat → Int64) × (Nat → Int64) := (itr (fun j s => lp_fbO_st f18_11 r19 r20 r21 r22 a2 a1 nr j s.1 s.2) 18 1 (r23, r24))
theorem c_X4_findBounds_d {x0 x1 x2 x3 x4 x5 x6 x7 x8 x9 x10 x11 x12 x13 x14 x15 x16 x17 x25 x26 x27 x28 x29 x30 x31 x32 : ax_E} {f18_7 f18_8 f18_9 f18_10 a1 a2 : Int32} {f18_11 f18_12 : Int64} {r19 r20 r21 r22 r23 r24 : Nat → Int64} {wm : List ax_E} {nr : Nat} (h_nr : nr ≤ 4) : Ct M_X4_findBounds [.ref 18, .int a1, .int a2] ([x0, x1, x2, x3, x4, x5, x6, x7, x8, x9, x10, x11, x12, x13, x14, x15, x16, x17, ob 4 [.ref 19, .ref 20, .ref 21, .ref 22, .ref 23, .ref 24, .int (nI nr), .int f18_7, .int f18_8, .int f18_9, .int f18_10, .long f18_11, .long f18_12], ja 4 r19, ja 4 r20, ja 4 r21, ja 4 r22, ja 19 r23, ja 19 r24, x25, x26, x27, x28, x29, x30, x31, x32], wm) (fun r w' => r = none ∧ w' = ([x0, x1, x2, x3, x4, x5, x6, x7, x8, x9, x10, x11, x12, x13, x14, x15, x16, x17, ob 4 [.ref 19, .ref 20, .ref 21, .ref 22, .ref 23, .ref 24, .int (nI nr), .int f18_7, .int f18_8, .int f18_9, .int f18_10, .long f18_11, .long f18_12], ja 4 r19, ja 4 r20, ja 4 r21, ja 4 r22, ja 19 ((Bd f18_11 r19 r20 r21 r22 r23 r24 a1 a2 nr).1), ja 19 ((Bd f18_11 r19 r20 r21 r22 r23 r24 a1 a2 nr).2), x25, x26, x27, x28, x29, x30, x31, x32], wm)) := c_X4_findBounds h_nr
def Ra (f18_8 : Int32) (f18_9 : Int32) (f18_10 : Int32) (f18_11 : Int64) (f18_12 : Int64) (r23 : Nat → Int64) (r24 : Nat → Int64) (a1 : Int32) : Int32 × Int32 × Int32 × Int64 := (itr (fun j s => lp_frO_st f18_11 r23 r24 a1 j s.1 s.2.1 s.2.2.1 s.2.2.2) 18 1 (f18_8, f18_9, f18_10, f18_12))
theorem c_X4_findRodAndArm_d {x0 x1 x2 x3 x4 x5 x6 x7 x8 x9 x10 x11 x12 x13 x14 x15 x16 x17 x19 x20 x21 x22 x25 x26 x27 x28 x29 x30 x31 x32 : ax_E} {f18_7 f18_8 f18_9 f18_10 a1 : Int32} {f18_11 f18_12 : Int64} {r23 r24 : Nat → Int64} {wm : List ax_E} {nr : Nat}  : Ct M_X4_findRodAndArm [.ref 18, .int a1] ([x0, x1, x2, x3, x4, x5, x6, x7, x8, x9, x10, x11, x12, x13, x14, x15, x16, x17, ob 4 [.ref 19, .ref 20, .ref 21, .ref 22, .ref 23, .ref 24, .int (nI nr), .int f18_7, .int f18_8, .int f18_9, .int f18_10, .long f18_11, .long f18_12], x19, x20, x21, x22, ja 19 r23, ja 19 r24, x25, x26, x27, x28, x29, x30, x31, x32], wm) (fun r w' => r = none ∧ w' = ([x0, x1, x2, x3, x4, x5, x6, x7, x8, x9, x10, x11, x12, x13, x14, x15, x16, x17, ob 4 [.ref 19, .ref 20, .ref 21, .ref 22, .ref 23, .ref 24, .int (nI nr), .int f18_7, .int ((Ra f18_8 f18_9 f18_10 f18_11 f18_12 r23 r24 a1).1), .int ((Ra f18_8 f18_9 f18_10 f18_11 f18_12 r23 r24 a1).2.1), .int ((Ra f18_8 f18_9 f18_10 f18_11 f18_12 r23 r24 a1).2.2.1), .long f18_11, .long ((Ra f18_8 f18_9 f18_10 f18_11 f18_12 r23 r24 a1).2.2.2)], x19, x20, x21, x22, ja 19 r23, ja 19 r24, x25, x26, x27, x28, x29, x30, x31, x32], wm)) := c_X4_findRodAndArm
def lp_fB_st (a1 : Int32) (f18_11 : Int64) (r19 : Nat → Int64) (r20 : Nat → Int64) (r21 : Nat → Int64) (r22 : Nat → Int64) (nr : Nat) (j : Nat) (lo : Nat → Int64) (hi : Nat → Int64) (fc : Int32) (fr : Int32) (fa : Int32) (fe : Int64) : (Nat → Int64) × (Nat → Int64) × Int32 × Int32 × Int32 × Int64 := (((Bd f18_11 r19 r20 r21 r22 lo hi a1 (nI j) nr).1), ((Bd f18_11 r19 r20 r21 r22 lo hi a1 (nI j) nr).2), ((Ra fc fr fa f18_11 fe ((Bd f18_11 r19 r20 r21 r22 lo hi a1 (nI j) nr).1) ((Bd f18_11 r19 r20 r21 r22 lo hi a1 (nI j) nr).2) (nI j)).1), ((Ra fc fr fa f18_11 fe ((Bd f18_11 r19 r20 r21 r22 lo hi a1 (nI j) nr).1) ((Bd f18_11 r19 r20 r21 r22 lo hi a1 (nI j) nr).2) (nI j)).2.1), ((Ra fc fr fa f18_11 fe ((Bd f18_11 r19 r20 r21 r22 lo hi a1 (nI j) nr).1) ((Bd f18_11 r19 r20 r21 r22 lo hi a1 (nI j) nr).2) (nI j)).2.2.1), ((Ra fc fr fa f18_11 fe ((Bd f18_11 r19 r20 r21 r22 lo hi a1 (nI j) nr).1) ((Bd f18_11 r19 r20 r21 r22 lo hi a1 (nI j) nr).2) (nI j)).2.2.2))
set_option maxHeartbeats 400000 in
theorem lp_fB {x0 x1 x2 x3 x4 x5 x6 x7 x8 x9 x10 x11 x12 x13 x14 x15 x16 x17 x25 x26 x27 x28 x29 x30 x31 x32 : ax_E} {a1 : Int32} {f18_11 : Int64} {r19 r20 r21 r22 : Nat → Int64} {wm : List ax_E} {nr : Nat} {Q : Option Value → ax_W → Prop} {B : Nat} (hB : B = 19) (h_nr : nr ≤ 4) : ∀ (n j : Nat) (lo : Nat → Int64) (hi : Nat → Int64) (fc : Int32) (fr : Int32) (fa : Int32) (fe : Int64) , j + n = B → Ab M_X4_findBars Q (0, 0) 46 [(2, .int (nI B)), (1, .int a1), (0, .ref 18)] [] ([x0, x1, x2, x3, x4, x5, x6, x7, x8, x9, x10, x11, x12, x13, x14, x15, x16, x17, ob 4 [.ref 19, .ref 20, .ref 21, .ref 22, .ref 23, .ref 24, .int (nI nr), .int a1, .int ((itr (fun j s => lp_fB_st a1 f18_11 r19 r20 r21 r22 nr j s.1 s.2.1 s.2.2.1 s.2.2.2.1 s.2.2.2.2.1 s.2.2.2.2.2) n j (lo, hi, fc, fr, fa, fe)).2.2.1), .int ((itr (fun j s => lp_fB_st a1 f18_11 r19 r20 r21 r22 nr j s.1 s.2.1 s.2.2.1 s.2.2.2.1 s.2.2.2.2.1 s.2.2.2.2.2) n j (lo, hi, fc, fr, fa, fe)).2.2.2.1), .int ((itr (fun j s => lp_fB_st a1 f18_11 r19 r20 r21 r22 nr j s.1 s.2.1 s.2.2.1 s.2.2.2.1 s.2.2.2.2.1 s.2.2.2.2.2) n j (lo, hi, fc, fr, fa, fe)).2.2.2.2.1), .long f18_11, .long ((itr (fun j s => lp_fB_st a1 f18_11 r19 r20 r21 r22 nr j s.1 s.2.1 s.2.2.1 s.2.2.2.1 s.2.2.2.2.1 s.2.2.2.2.2) n j (lo, hi, fc, fr, fa, fe)).2.2.2.2.2)], ja 4 r19, ja 4 r20, ja 4 r21, ja 4 r22, ja 19 ((itr (fun j s => lp_fB_st a1 f18_11 r19 r20 r21 r22 nr j s.1 s.2.1 s.2.2.1 s.2.2.2.1 s.2.2.2.2.1 s.2.2.2.2.2) n j (lo, hi, fc, fr, fa, fe)).1), ja 19 ((itr (fun j s => lp_fB_st a1 f18_11 r19 r20 r21 r22 nr j s.1 s.2.1 s.2.2.1 s.2.2.2.1 s.2.2.2.2.1 s.2.2.2.2.2) n j (lo, hi, fc, fr, fa, fe)).2.1), x25, x26, x27, x28, x29, x30, x31, x32], wm) → Ab M_X4_findBars Q (0, 0) 23 [(2, .int (nI j)), (1, .int a1), (0, .ref 18)] [] ([x0, x1, x2, x3, x4, x5, x6, x7, x8, x9, x10, x11, x12, x13, x14, x15, x16, x17, ob 4 [.ref 19, .ref 20, .ref 21, .ref 22, .ref 23, .ref 24, .int (nI nr), .int a1, .int fc, .int fr, .int fa, .long f18_11, .long fe], ja 4 r19, ja 4 r20, ja 4 r21, ja 4 r22, ja 19 lo, ja 19 hi, x25, x26, x27, x28, x29, x30, x31, x32], wm) := by
  intro n
  induction n with
  | zero =>
    intro j lo hi fc fr fa fe  hk hx
    rw [itr_0] at hx
    rw [show j = B by omega]
    refine ab_iload_n dX4_findBars_23 rfl ?_
    refine ab_bipush (v := 18) dX4_findBars_24 (by decide) ?_
    refine ab_icmpgt 46 dX4_findBars_26 (by decide) (fun h_1 => ?_) (fun h_1 => absurd (nI_lt (a := 18) (by omega) (by omega)) h_1)
    refine ab_pick [0, 1, 2] rfl ?_
    exact hx 
  | succ n ih =>
    intro j lo hi fc fr fa fe  hk hx
    refine ab_iload_n dX4_findBars_23 rfl ?_
    refine ab_bipush (v := 18) dX4_findBars_24 (by decide) ?_
    refine ab_icmpgt 46 dX4_findBars_26 (by decide) (fun h_1 => absurd h_1 (Int32.not_lt.mpr (nI_le (b := 18) (by omega) (by decide)))) (fun h_1 => ?_)
    refine ab_aload_n dX4_findBars_29 rfl ?_
    refine ab_iload_n dX4_findBars_30 rfl ?_
    refine ab_iload_n dX4_findBars_31 rfl ?_
    refine ab_callV (As := [.int a1, .int (nI j)]) (rest := []) dX4_findBars_32 mv_X4_findBounds ml_X4_101 ⟨by decide, by decide, rfl, rfl, rfl⟩ (by decide) rfl rfl (Nat.le_of_ble_eq_true rfl) rfl (c_X4_findBounds_d (nr := nr) h_nr) ?_
    rintro r w' ⟨rfl, rfl⟩
    refine ab_aload_n dX4_findBars_35 rfl ?_
    refine ab_iload_n dX4_findBars_36 rfl ?_
    refine ab_callV (As := [.int (nI j)]) (rest := []) dX4_findBars_37 mv_X4_findRodAndArm ml_X4_105 ⟨by decide, by decide, rfl, rfl, rfl⟩ (by decide) rfl rfl (Nat.le_of_ble_eq_true rfl) rfl (c_X4_findRodAndArm_d (nr := nr)) ?_
    rintro r w' ⟨rfl, rfl⟩
    refine ab_iinc (v := (nI (j + 1))) (la' := [(2, .int (nI (j + 1))), (1, .int a1), (0, .ref 18)]) dX4_findBars_40 rfl (nI_1 _) (by decide) rfl ?_
    refine ab_goto 23 dX4_findBars_43 (by decide) ?_
    refine ab_pick [0, 1, 2] rfl ?_
    rw [(itr_s (fun j s => lp_fB_st a1 f18_11 r19 r20 r21 r22 nr j s.1 s.2.1 s.2.2.1 s.2.2.2.1 s.2.2.2.2.1 s.2.2.2.2.2) n j (lo, hi, fc, fr, fa, fe)).trans (congrArg (itr (fun j s => lp_fB_st a1 f18_11 r19 r20 r21 r22 nr j s.1 s.2.1 s.2.2.1 s.2.2.2.1 s.2.2.2.2.1 s.2.2.2.2.2) n (j + 1)) (show lp_fB_st a1 f18_11 r19 r20 r21 r22 nr j lo hi fc fr fa fe = (((Bd f18_11 r19 r20 r21 r22 lo hi a1 (nI j) nr).1), ((Bd f18_11 r19 r20 r21 r22 lo hi a1 (nI j) nr).2), ((Ra fc fr fa f18_11 fe ((Bd f18_11 r19 r20 r21 r22 lo hi a1 (nI j) nr).1) ((Bd f18_11 r19 r20 r21 r22 lo hi a1 (nI j) nr).2) (nI j)).1), ((Ra fc fr fa f18_11 fe ((Bd f18_11 r19 r20 r21 r22 lo hi a1 (nI j) nr).1) ((Bd f18_11 r19 r20 r21 r22 lo hi a1 (nI j) nr).2) (nI j)).2.1), ((Ra fc fr fa f18_11 fe ((Bd f18_11 r19 r20 r21 r22 lo hi a1 (nI j) nr).1) ((Bd f18_11 r19 r20 r21 r22 lo hi a1 (nI j) nr).2) (nI j)).2.2.1), ((Ra fc fr fa f18_11 fe ((Bd f18_11 r19 r20 r21 r22 lo hi a1 (nI j) nr).1) ((Bd f18_11 r19 r20 r21 r22 lo hi a1 (nI j) nr).2) (nI j)).2.2.2)) from rfl))] at hx
    exact ih (j + 1) ((Bd f18_11 r19 r20 r21 r22 lo hi a1 (nI j) nr).1) ((Bd f18_11 r19 r20 r21 r22 lo hi a1 (nI j) nr).2) ((Ra fc fr fa f18_11 fe ((Bd f18_11 r19 r20 r21 r22 lo hi a1 (nI j) nr).1) ((Bd f18_11 r19 r20 r21 r22 lo hi a1 (nI j) nr).2) (nI j)).1) ((Ra fc fr fa f18_11 fe ((Bd f18_11 r19 r20 r21 r22 lo hi a1 (nI j) nr).1) ((Bd f18_11 r19 r20 r21 r22 lo hi a1 (nI j) nr).2) (nI j)).2.1) ((Ra fc fr fa f18_11 fe ((Bd f18_11 r19 r20 r21 r22 lo hi a1 (nI j) nr).1) ((Bd f18_11 r19 r20 r21 r22 lo hi a1 (nI j) nr).2) (nI j)).2.2.1) ((Ra fc fr fa f18_11 fe ((Bd f18_11 r19 r20 r21 r22 lo hi a1 (nI j) nr).1) ((Bd f18_11 r19 r20 r21 r22 lo hi a1 (nI j) nr).2) (nI j)).2.2.2)  (by omega) hx
theorem c_X4_findBars {x0 x1 x2 x3 x4 x5 x6 x7 x8 x9 x10 x11 x12 x13 x14 x15 x16 x17 x25 x26 x27 x28 x29 x30 x31 x32 : ax_E} {f18_7 f18_8 f18_9 f18_10 a1 : Int32} {f18_11 f18_12 : Int64} {r19 r20 r21 r22 r23 r24 : Nat → Int64} {wm : List ax_E} {nr : Nat} (h_nr : nr ≤ 4) : Ct M_X4_findBars [.ref 18, .int a1] ([x0, x1, x2, x3, x4, x5, x6, x7, x8, x9, x10, x11, x12, x13, x14, x15, x16, x17, ob 4 [.ref 19, .ref 20, .ref 21, .ref 22, .ref 23, .ref 24, .int (nI nr), .int f18_7, .int f18_8, .int f18_9, .int f18_10, .long f18_11, .long f18_12], ja 4 r19, ja 4 r20, ja 4 r21, ja 4 r22, ja 19 r23, ja 19 r24, x25, x26, x27, x28, x29, x30, x31, x32], wm) (fun r w' => ((¬ a1 = f18_7) ∧ r = none ∧ w' = ([x0, x1, x2, x3, x4, x5, x6, x7, x8, x9, x10, x11, x12, x13, x14, x15, x16, x17, ob 4 [.ref 19, .ref 20, .ref 21, .ref 22, .ref 23, .ref 24, .int (nI nr), .int a1, .int ((itr (fun j s => lp_fB_st a1 f18_11 r19 r20 r21 r22 nr j s.1 s.2.1 s.2.2.1 s.2.2.2.1 s.2.2.2.2.1 s.2.2.2.2.2) 18 1 (r23, r24, f18_8, f18_9, f18_10, (-9223372036854775808))).2.2.1), .int ((itr (fun j s => lp_fB_st a1 f18_11 r19 r20 r21 r22 nr j s.1 s.2.1 s.2.2.1 s.2.2.2.1 s.2.2.2.2.1 s.2.2.2.2.2) 18 1 (r23, r24, f18_8, f18_9, f18_10, (-9223372036854775808))).2.2.2.1), .int ((itr (fun j s => lp_fB_st a1 f18_11 r19 r20 r21 r22 nr j s.1 s.2.1 s.2.2.1 s.2.2.2.1 s.2.2.2.2.1 s.2.2.2.2.2) 18 1 (r23, r24, f18_8, f18_9, f18_10, (-9223372036854775808))).2.2.2.2.1), .long f18_11, .long ((itr (fun j s => lp_fB_st a1 f18_11 r19 r20 r21 r22 nr j s.1 s.2.1 s.2.2.1 s.2.2.2.1 s.2.2.2.2.1 s.2.2.2.2.2) 18 1 (r23, r24, f18_8, f18_9, f18_10, (-9223372036854775808))).2.2.2.2.2)], ja 4 r19, ja 4 r20, ja 4 r21, ja 4 r22, ja 19 ((itr (fun j s => lp_fB_st a1 f18_11 r19 r20 r21 r22 nr j s.1 s.2.1 s.2.2.1 s.2.2.2.1 s.2.2.2.2.1 s.2.2.2.2.2) 18 1 (r23, r24, f18_8, f18_9, f18_10, (-9223372036854775808))).1), ja 19 ((itr (fun j s => lp_fB_st a1 f18_11 r19 r20 r21 r22 nr j s.1 s.2.1 s.2.2.1 s.2.2.2.1 s.2.2.2.2.1 s.2.2.2.2.2) 18 1 (r23, r24, f18_8, f18_9, f18_10, (-9223372036854775808))).2.1), x25, x26, x27, x28, x29, x30, x31, x32], wm)) ∨ ((a1 = f18_7) ∧ r = none ∧ w' = ([x0, x1, x2, x3, x4, x5, x6, x7, x8, x9, x10, x11, x12, x13, x14, x15, x16, x17, ob 4 [.ref 19, .ref 20, .ref 21, .ref 22, .ref 23, .ref 24, .int (nI nr), .int f18_7, .int f18_8, .int f18_9, .int f18_10, .long f18_11, .long f18_12], ja 4 r19, ja 4 r20, ja 4 r21, ja 4 r22, ja 19 r23, ja 19 r24, x25, x26, x27, x28, x29, x30, x31, x32], wm))) := by
  refine ct_of ⟨by decide, rfl⟩ (Nat.le_of_ble_eq_true rfl) ?_
  refine ab_iload_n dX4_findBars_0 rfl ?_
  refine ab_aload_n dX4_findBars_1 rfl ?_
  refine ab_getf dX4_findBars_2 fl_X4_34 rfl rfl ?_
  refine ab_icmpne 9 dX4_findBars_5 (by decide) (fun h_1 => ?_) (fun h_1 => ?_)
  · refine ab_aload_n dX4_findBars_9 rfl ?_
    refine ab_iload_n dX4_findBars_10 rfl ?_
    refine ab_putf (w1 := ([x0, x1, x2, x3, x4, x5, x6, x7, x8, x9, x10, x11, x12, x13, x14, x15, x16, x17, ob 4 [.ref 19, .ref 20, .ref 21, .ref 22, .ref 23, .ref 24, .int (nI nr), .int a1, .int f18_8, .int f18_9, .int f18_10, .long f18_11, .long f18_12], ja 4 r19, ja 4 r20, ja 4 r21, ja 4 r22, ja 19 r23, ja 19 r24, x25, x26, x27, x28, x29, x30, x31, x32], wm)) dX4_findBars_11 fl_X4_34 rfl (Nat.le_of_ble_eq_true rfl) (fun _ => ⟨rfl, rfl⟩) rfl ?_
    refine ab_aload_n dX4_findBars_14 rfl ?_
    refine ab_ldc2 dX4_findBars_15 kl_X4_99 ?_
    refine ab_putf (w1 := ([x0, x1, x2, x3, x4, x5, x6, x7, x8, x9, x10, x11, x12, x13, x14, x15, x16, x17, ob 4 [.ref 19, .ref 20, .ref 21, .ref 22, .ref 23, .ref 24, .int (nI nr), .int a1, .int f18_8, .int f18_9, .int f18_10, .long f18_11, .long (-9223372036854775808)], ja 4 r19, ja 4 r20, ja 4 r21, ja 4 r22, ja 19 r23, ja 19 r24, x25, x26, x27, x28, x29, x30, x31, x32], wm)) dX4_findBars_18 fl_X4_50 rfl (Nat.le_of_ble_eq_true rfl) (fun _ => ⟨rfl, rfl⟩) rfl ?_
    refine ab_iconst (v := 1) dX4_findBars_21 (by decide) ?_
    refine ab_istore_n (la' := [(2, .int 1), (0, .ref 18), (1, .int a1)]) dX4_findBars_22 (by decide) rfl ?_
    refine ab_pick [0, 2, 1] rfl ?_
    refine lp_fB (B := 19) rfl h_nr 18 1 r23 r24 f18_8 f18_9 f18_10 (-9223372036854775808) (by omega) ?_
    exact ab_vret dX4_findBars_46 rfl (by decide) (Or.inl ⟨h_1, rfl, rfl⟩)
  · exact ab_vret dX4_findBars_8 rfl (by decide) (Or.inr (⟨h_1, rfl, rfl⟩))
/-- what the class finds to fit best -/
def FB (r19 r20 r21 r22 r23 r24 : Nat → Int64) (nr : Nat) (f18_11 : Int64) (a1 f18_8 f18_9 f18_10 : Int32) : (Nat → Int64) × (Nat → Int64) × Int32 × Int32 × Int32 × Int64 := (itr (fun j s => lp_fB_st a1 f18_11 r19 r20 r21 r22 nr j s.1 s.2.1 s.2.2.1 s.2.2.2.1 s.2.2.2.2.1 s.2.2.2.2.2) 18 1 (r23, r24, f18_8, f18_9, f18_10, (-9223372036854775808)))
theorem c_X4_findBars_d {x0 x1 x2 x3 x4 x5 x6 x7 x8 x9 x10 x11 x12 x13 x14 x15 x16 x17 x25 x26 x27 x28 x29 x30 x31 x32 : ax_E} {f18_7 f18_8 f18_9 f18_10 a1 : Int32} {f18_11 f18_12 : Int64} {r19 r20 r21 r22 r23 r24 : Nat → Int64} {wm : List ax_E} {nr : Nat} (h_nr : nr ≤ 4) : Ct M_X4_findBars [.ref 18, .int a1] ([x0, x1, x2, x3, x4, x5, x6, x7, x8, x9, x10, x11, x12, x13, x14, x15, x16, x17, ob 4 [.ref 19, .ref 20, .ref 21, .ref 22, .ref 23, .ref 24, .int (nI nr), .int f18_7, .int f18_8, .int f18_9, .int f18_10, .long f18_11, .long f18_12], ja 4 r19, ja 4 r20, ja 4 r21, ja 4 r22, ja 19 r23, ja 19 r24, x25, x26, x27, x28, x29, x30, x31, x32], wm) (fun r w' => ((¬ a1 = f18_7) ∧ r = none ∧ w' = ([x0, x1, x2, x3, x4, x5, x6, x7, x8, x9, x10, x11, x12, x13, x14, x15, x16, x17, ob 4 [.ref 19, .ref 20, .ref 21, .ref 22, .ref 23, .ref 24, .int (nI nr), .int a1, .int ((FB r19 r20 r21 r22 r23 r24 nr f18_11 a1 f18_8 f18_9 f18_10).2.2.1), .int ((FB r19 r20 r21 r22 r23 r24 nr f18_11 a1 f18_8 f18_9 f18_10).2.2.2.1), .int ((FB r19 r20 r21 r22 r23 r24 nr f18_11 a1 f18_8 f18_9 f18_10).2.2.2.2.1), .long f18_11, .long ((FB r19 r20 r21 r22 r23 r24 nr f18_11 a1 f18_8 f18_9 f18_10).2.2.2.2.2)], ja 4 r19, ja 4 r20, ja 4 r21, ja 4 r22, ja 19 ((FB r19 r20 r21 r22 r23 r24 nr f18_11 a1 f18_8 f18_9 f18_10).1), ja 19 ((FB r19 r20 r21 r22 r23 r24 nr f18_11 a1 f18_8 f18_9 f18_10).2.1), x25, x26, x27, x28, x29, x30, x31, x32], wm)) ∨ ((a1 = f18_7) ∧ r = none ∧ w' = ([x0, x1, x2, x3, x4, x5, x6, x7, x8, x9, x10, x11, x12, x13, x14, x15, x16, x17, ob 4 [.ref 19, .ref 20, .ref 21, .ref 22, .ref 23, .ref 24, .int (nI nr), .int f18_7, .int f18_8, .int f18_9, .int f18_10, .long f18_11, .long f18_12], ja 4 r19, ja 4 r20, ja 4 r21, ja 4 r22, ja 19 r23, ja 19 r24, x25, x26, x27, x28, x29, x30, x31, x32], wm))) := c_X4_findBars h_nr
theorem c_X10_hasLinkage_0 {f0_0 : Int32} {x1 x2 x3 x5 x7 x8 x9 x10 x11 x12 x13 x14 x15 x16 x17 x18 x19 x20 x21 x22 x23 x24 x25 x26 x27 x28 x29 x30 x31 x32 : ax_E} {r6 : Nat → Int32} {wm : List ax_E}  : Ct M_X10_hasLinkage [.ref 0, .int 0] ([ob 8 [.int f0_0, .ref 1, .ref 4, .ref 7, .ref 10, .ref 11, .ref 12, .ref 18, .ref 25, .ref 29], x1, x2, x3, ob 2 [.ref 5, .ref 6], x5, ia 4 r6, x7, x8, x9, x10, x11, x12, x13, x14, x15, x16, x17, x18, x19, x20, x21, x22, x23, x24, x25, x26, x27, x28, x29, x30, x31, x32], wm) (fun r w' => ((0 < r6 0) ∧ r = some (.int 1) ∧ w' = ([ob 8 [.int f0_0, .ref 1, .ref 4, .ref 7, .ref 10, .ref 11, .ref 12, .ref 18, .ref 25, .ref 29], x1, x2, x3, ob 2 [.ref 5, .ref 6], x5, ia 4 r6, x7, x8, x9, x10, x11, x12, x13, x14, x15, x16, x17, x18, x19, x20, x21, x22, x23, x24, x25, x26, x27, x28, x29, x30, x31, x32], wm)) ∨ ((¬ (0 < r6 0)) ∧ r = some (.int 0) ∧ w' = ([ob 8 [.int f0_0, .ref 1, .ref 4, .ref 7, .ref 10, .ref 11, .ref 12, .ref 18, .ref 25, .ref 29], x1, x2, x3, ob 2 [.ref 5, .ref 6], x5, ia 4 r6, x7, x8, x9, x10, x11, x12, x13, x14, x15, x16, x17, x18, x19, x20, x21, x22, x23, x24, x25, x26, x27, x28, x29, x30, x31, x32], wm))) := by
  refine ct_of ⟨by decide, rfl⟩ (Nat.le_of_ble_eq_true rfl) ?_
  refine ab_aload_n dX10_hasLinkage_0 rfl ?_
  refine ab_getf dX10_hasLinkage_1 fl_X10_23 rfl rfl ?_
  refine ab_iconst (v := 0) dX10_hasLinkage_4 (by decide) ?_
  refine ab_iload_n dX10_hasLinkage_5 rfl ?_
  refine ab_callV (As := [.int 0, .int 0]) (rest := []) dX10_hasLinkage_6 mv_X2_has ml_X10_264 ⟨by decide, by decide, rfl, rfl, rfl⟩ (by decide) rfl rfl (Nat.le_of_ble_eq_true rfl) rfl c_X2_has_0 ?_
  rintro r w' (⟨c_1, rfl, rfl⟩ | ⟨c_2, rfl, rfl⟩)
  · exact ab_zret dX10_hasLinkage_9 rfl rfl (by decide) (Or.inl (⟨(by grind), rfl, rfl⟩))
  · exact ab_zret dX10_hasLinkage_9 rfl rfl (by decide) (Or.inr (⟨(by grind), rfl, rfl⟩))
theorem c_X10_refusesFit_0 {f0_0 f18_7 f18_8 f18_9 f18_10 : Int32} {x1 x2 x3 x7 x8 x9 x10 x11 x12 x13 x14 x15 x16 x17 x25 x26 x27 x28 x29 x30 x31 x32 : ax_E} {r5 r6 : Nat → Int32} {f18_11 f18_12 : Int64} {r19 r20 r21 r22 r23 r24 : Nat → Int64} {wm : List ax_E} {nr : Nat} (h_n3 : r6 3 = nI nr) (h_nr : nr ≤ 4) (h_c0 : r6 0 ≤ nI 4) : Ct M_X10_refusesFit [.ref 0, .int 0] ([ob 8 [.int f0_0, .ref 1, .ref 4, .ref 7, .ref 10, .ref 11, .ref 12, .ref 18, .ref 25, .ref 29], x1, x2, x3, ob 2 [.ref 5, .ref 6], ia 56 r5, ia 4 r6, x7, x8, x9, x10, x11, x12, x13, x14, x15, x16, x17, ob 4 [.ref 19, .ref 20, .ref 21, .ref 22, .ref 23, .ref 24, .int (nI nr), .int f18_7, .int f18_8, .int f18_9, .int f18_10, .long f18_11, .long f18_12], ja 4 r19, ja 4 r20, ja 4 r21, ja 4 r22, ja 19 r23, ja 19 r24, x25, x26, x27, x28, x29, x30, x31, x32], wm) (fun r w' => ((0 < r6 0) ∧ r = some (.int 1) ∧ w' = ([ob 8 [.int 1, .ref 1, .ref 4, .ref 7, .ref 10, .ref 11, .ref 12, .ref 18, .ref 25, .ref 29], x1, x2, x3, ob 2 [.ref 5, .ref 6], ia 56 r5, ia 4 r6, x7, x8, x9, x10, x11, x12, x13, x14, x15, x16, x17, ob 4 [.ref 19, .ref 20, .ref 21, .ref 22, .ref 23, .ref 24, .int (nI nr), .int f18_7, .int f18_8, .int f18_9, .int f18_10, .long f18_11, .long f18_12], ja 4 r19, ja 4 r20, ja 4 r21, ja 4 r22, ja 19 r23, ja 19 r24, x25, x26, x27, x28, x29, x30, x31, x32], wm)) ∨ ((¬ (0 < r6 0)) ∧ r = some (.int 1) ∧ w' = ([ob 8 [.int 1, .ref 1, .ref 4, .ref 7, .ref 10, .ref 11, .ref 12, .ref 18, .ref 25, .ref 29], x1, x2, x3, ob 2 [.ref 5, .ref 6], ia 56 r5, ia 4 r6, x7, x8, x9, x10, x11, x12, x13, x14, x15, x16, x17, ob 4 [.ref 19, .ref 20, .ref 21, .ref 22, .ref 23, .ref 24, .int (nI nr), .int f18_7, .int f18_8, .int f18_9, .int f18_10, .long f18_11, .long f18_12], ja 4 r19, ja 4 r20, ja 4 r21, ja 4 r22, ja 19 r23, ja 19 r24, x25, x26, x27, x28, x29, x30, x31, x32], wm))) := by
  refine ct_of ⟨by decide, rfl⟩ (Nat.le_of_ble_eq_true rfl) ?_
  refine ab_aload_n dX10_refusesFit_0 rfl ?_
  refine ab_aload_n dX10_refusesFit_1 rfl ?_
  refine ab_iconst (v := 0) dX10_refusesFit_2 (by decide) ?_
  refine ab_callV (As := [.int 0]) (rest := [.ref 0]) dX10_refusesFit_3 mv_X10_hasLinkage ml_X10_133 ⟨by decide, by decide, rfl, rfl, rfl⟩ (by decide) rfl rfl (Nat.le_of_ble_eq_true rfl) rfl c_X10_hasLinkage_0 ?_
  rintro r w' (⟨c_1, rfl, rfl⟩ | ⟨c_2, rfl, rfl⟩)
  · refine ab_ifeq 17 dX10_refusesFit_6 (by decide) (fun h_3 => absurd h_3 (by decide)) (fun h_3 => ?_)
    refine ab_iload_n dX10_refusesFit_9 rfl ?_
    refine ab_ifeq 17 dX10_refusesFit_10 (by decide) (fun h_4 => ?_) (fun h_4 => absurd (by decide) h_4)
    refine ab_iconst (v := 0) dX10_refusesFit_17 (by decide) ?_
    refine ab_iconst (v := 1) dX10_refusesFit_18 (by decide) ?_
    refine ab_callV (As := [.int 0, .int 1]) (rest := []) dX10_refusesFit_19 mv_X10_refused ml_X10_84 ⟨by decide, by decide, rfl, rfl, rfl⟩ (by decide) rfl rfl (Nat.le_of_ble_eq_true rfl) rfl c_X10_refused_0 ?_
    rintro r w' ⟨rfl, rfl⟩
    refine ab_ifne 49 dX10_refusesFit_22 (by decide) (fun h_5 => ?_) (fun h_5 => absurd h_5 (by decide))
    refine ab_iconst (v := 1) dX10_refusesFit_49 (by decide) ?_
    exact ab_zret dX10_refusesFit_50 rfl rfl (by decide) (Or.inl ⟨c_1, rfl, rfl⟩)
  · refine ab_ifeq 17 dX10_refusesFit_6 (by decide) (fun h_6 => ?_) (fun h_6 => absurd (by decide) h_6)
    refine ab_iconst (v := 0) dX10_refusesFit_17 (by decide) ?_
    refine ab_iconst (v := 1) dX10_refusesFit_18 (by decide) ?_
    refine ab_callV (As := [.int 0, .int 1]) (rest := []) dX10_refusesFit_19 mv_X10_refused ml_X10_84 ⟨by decide, by decide, rfl, rfl, rfl⟩ (by decide) rfl rfl (Nat.le_of_ble_eq_true rfl) rfl c_X10_refused_0 ?_
    rintro r w' ⟨rfl, rfl⟩
    refine ab_ifne 49 dX10_refusesFit_22 (by decide) (fun h_7 => ?_) (fun h_7 => absurd h_7 (by decide))
    refine ab_iconst (v := 1) dX10_refusesFit_49 (by decide) ?_
    exact ab_zret dX10_refusesFit_50 rfl rfl (by decide) (Or.inr (⟨c_2, rfl, rfl⟩))
theorem c_X10_refusesFit_1 {f0_0 f18_7 f18_8 f18_9 f18_10 : Int32} {x1 x2 x3 x7 x8 x9 x10 x11 x12 x13 x14 x15 x16 x17 x25 x26 x27 x28 x29 x30 x31 x32 : ax_E} {r5 r6 : Nat → Int32} {f18_11 f18_12 : Int64} {r19 r20 r21 r22 r23 r24 : Nat → Int64} {wm : List ax_E} {nr : Nat} (h_n3 : r6 3 = nI nr) (h_nr : nr ≤ 4) (h_c0 : r6 0 ≤ nI 4) : Ct M_X10_refusesFit [.ref 0, .int 1] ([ob 8 [.int f0_0, .ref 1, .ref 4, .ref 7, .ref 10, .ref 11, .ref 12, .ref 18, .ref 25, .ref 29], x1, x2, x3, ob 2 [.ref 5, .ref 6], ia 56 r5, ia 4 r6, x7, x8, x9, x10, x11, x12, x13, x14, x15, x16, x17, ob 4 [.ref 19, .ref 20, .ref 21, .ref 22, .ref 23, .ref 24, .int (nI nr), .int f18_7, .int f18_8, .int f18_9, .int f18_10, .long f18_11, .long f18_12], ja 4 r19, ja 4 r20, ja 4 r21, ja 4 r22, ja 19 r23, ja 19 r24, x25, x26, x27, x28, x29, x30, x31, x32], wm) (fun r w' => ((0 < r6 0) ∧ ((r6 3) ≤ 0) ∧ r = some (.int 1) ∧ w' = ([ob 8 [.int 5, .ref 1, .ref 4, .ref 7, .ref 10, .ref 11, .ref 12, .ref 18, .ref 25, .ref 29], x1, x2, x3, ob 2 [.ref 5, .ref 6], ia 56 r5, ia 4 r6, x7, x8, x9, x10, x11, x12, x13, x14, x15, x16, x17, ob 4 [.ref 19, .ref 20, .ref 21, .ref 22, .ref 23, .ref 24, .int (nI nr), .int f18_7, .int f18_8, .int f18_9, .int f18_10, .long f18_11, .long f18_12], ja 4 r19, ja 4 r20, ja 4 r21, ja 4 r22, ja 19 r23, ja 19 r24, x25, x26, x27, x28, x29, x30, x31, x32], wm)) ∨ ((0 < r6 0) ∧ (¬ (r6 3) ≤ 0) ∧ (¬ (r5 (0 + 0 * 4 + 0)) = f18_7) ∧ r = some (.int 0) ∧ w' = ([ob 8 [.int 0, .ref 1, .ref 4, .ref 7, .ref 10, .ref 11, .ref 12, .ref 18, .ref 25, .ref 29], x1, x2, x3, ob 2 [.ref 5, .ref 6], ia 56 r5, ia 4 r6, x7, x8, x9, x10, x11, x12, x13, x14, x15, x16, x17, ob 4 [.ref 19, .ref 20, .ref 21, .ref 22, .ref 23, .ref 24, .int (nI nr), .int (r5 (0 + 0 * 4 + 0)), .int ((FB r19 r20 r21 r22 r23 r24 nr f18_11 (r5 (0 + 0 * 4 + 0)) f18_8 f18_9 f18_10).2.2.1), .int ((FB r19 r20 r21 r22 r23 r24 nr f18_11 (r5 (0 + 0 * 4 + 0)) f18_8 f18_9 f18_10).2.2.2.1), .int ((FB r19 r20 r21 r22 r23 r24 nr f18_11 (r5 (0 + 0 * 4 + 0)) f18_8 f18_9 f18_10).2.2.2.2.1), .long f18_11, .long ((FB r19 r20 r21 r22 r23 r24 nr f18_11 (r5 (0 + 0 * 4 + 0)) f18_8 f18_9 f18_10).2.2.2.2.2)], ja 4 r19, ja 4 r20, ja 4 r21, ja 4 r22, ja 19 ((FB r19 r20 r21 r22 r23 r24 nr f18_11 (r5 (0 + 0 * 4 + 0)) f18_8 f18_9 f18_10).1), ja 19 ((FB r19 r20 r21 r22 r23 r24 nr f18_11 (r5 (0 + 0 * 4 + 0)) f18_8 f18_9 f18_10).2.1), x25, x26, x27, x28, x29, x30, x31, x32], wm)) ∨ ((0 < r6 0) ∧ (¬ (r6 3) ≤ 0) ∧ ((r5 (0 + 0 * 4 + 0)) = f18_7) ∧ r = some (.int 0) ∧ w' = ([ob 8 [.int 0, .ref 1, .ref 4, .ref 7, .ref 10, .ref 11, .ref 12, .ref 18, .ref 25, .ref 29], x1, x2, x3, ob 2 [.ref 5, .ref 6], ia 56 r5, ia 4 r6, x7, x8, x9, x10, x11, x12, x13, x14, x15, x16, x17, ob 4 [.ref 19, .ref 20, .ref 21, .ref 22, .ref 23, .ref 24, .int (nI nr), .int f18_7, .int f18_8, .int f18_9, .int f18_10, .long f18_11, .long f18_12], ja 4 r19, ja 4 r20, ja 4 r21, ja 4 r22, ja 19 r23, ja 19 r24, x25, x26, x27, x28, x29, x30, x31, x32], wm)) ∨ ((¬ (0 < r6 0)) ∧ r = some (.int 1) ∧ w' = ([ob 8 [.int 1, .ref 1, .ref 4, .ref 7, .ref 10, .ref 11, .ref 12, .ref 18, .ref 25, .ref 29], x1, x2, x3, ob 2 [.ref 5, .ref 6], ia 56 r5, ia 4 r6, x7, x8, x9, x10, x11, x12, x13, x14, x15, x16, x17, ob 4 [.ref 19, .ref 20, .ref 21, .ref 22, .ref 23, .ref 24, .int (nI nr), .int f18_7, .int f18_8, .int f18_9, .int f18_10, .long f18_11, .long f18_12], ja 4 r19, ja 4 r20, ja 4 r21, ja 4 r22, ja 19 r23, ja 19 r24, x25, x26, x27, x28, x29, x30, x31, x32], wm))) := by
  refine ct_of ⟨by decide, rfl⟩ (Nat.le_of_ble_eq_true rfl) ?_
  refine ab_aload_n dX10_refusesFit_0 rfl ?_
  refine ab_aload_n dX10_refusesFit_1 rfl ?_
  refine ab_iconst (v := 0) dX10_refusesFit_2 (by decide) ?_
  refine ab_callV (As := [.int 0]) (rest := [.ref 0]) dX10_refusesFit_3 mv_X10_hasLinkage ml_X10_133 ⟨by decide, by decide, rfl, rfl, rfl⟩ (by decide) rfl rfl (Nat.le_of_ble_eq_true rfl) rfl c_X10_hasLinkage_0 ?_
  rintro r w' (⟨c_1, rfl, rfl⟩ | ⟨c_2, rfl, rfl⟩)
  · refine ab_ifeq 17 dX10_refusesFit_6 (by decide) (fun h_3 => absurd h_3 (by decide)) (fun h_3 => ?_)
    refine ab_iload_n dX10_refusesFit_9 rfl ?_
    refine ab_ifeq 17 dX10_refusesFit_10 (by decide) (fun h_4 => absurd h_4 (by decide)) (fun h_4 => ?_)
    refine ab_iconst (v := 1) dX10_refusesFit_13 (by decide) ?_
    refine ab_goto 18 dX10_refusesFit_14 (by decide) ?_
    refine ab_iconst (v := 1) dX10_refusesFit_18 (by decide) ?_
    refine ab_callV (As := [.int 1, .int 1]) (rest := []) dX10_refusesFit_19 mv_X10_refused ml_X10_84 ⟨by decide, by decide, rfl, rfl, rfl⟩ (by decide) rfl rfl (Nat.le_of_ble_eq_true rfl) rfl c_X10_refused_1 ?_
    rintro r w' ⟨rfl, rfl⟩
    refine ab_ifne 49 dX10_refusesFit_22 (by decide) (fun h_5 => absurd (by decide) h_5) (fun h_5 => ?_)
    refine ab_aload_n dX10_refusesFit_25 rfl ?_
    refine ab_aload_n dX10_refusesFit_26 rfl ?_
    refine ab_getf dX10_refusesFit_27 fl_X10_23 rfl rfl ?_
    refine ab_iconst (v := 3) dX10_refusesFit_30 (by decide) ?_
    refine ab_callV (As := [.int 3]) (rest := [.ref 0]) dX10_refusesFit_31 mv_X2_count ml_X10_102 ⟨by decide, by decide, rfl, rfl, rfl⟩ (by decide) rfl rfl (Nat.le_of_ble_eq_true rfl) rfl c_X2_count_4_3 ?_
    rintro r w' ⟨rfl, rfl⟩
    refine ab_ifle 41 dX10_refusesFit_34 (by decide) (fun h_6 => ?_) (fun h_6 => ?_)
    · refine ab_iconst (v := 0) dX10_refusesFit_41 (by decide) ?_
      refine ab_iconst (v := 5) dX10_refusesFit_42 (by decide) ?_
      refine ab_callV (As := [.int 0, .int 5]) (rest := []) dX10_refusesFit_43 mv_X10_refused ml_X10_84 ⟨by decide, by decide, rfl, rfl, rfl⟩ (by decide) rfl rfl (Nat.le_of_ble_eq_true rfl) rfl c_X10_refused_0 ?_
      rintro r w' ⟨rfl, rfl⟩
      refine ab_ifeq 51 dX10_refusesFit_46 (by decide) (fun h_7 => absurd h_7 (by decide)) (fun h_7 => ?_)
      refine ab_iconst (v := 1) dX10_refusesFit_49 (by decide) ?_
      exact ab_zret dX10_refusesFit_50 rfl rfl (by decide) (Or.inl ⟨c_1, h_6, rfl, rfl⟩)
    · refine ab_iconst (v := 1) dX10_refusesFit_37 (by decide) ?_
      refine ab_goto 42 dX10_refusesFit_38 (by decide) ?_
      refine ab_iconst (v := 5) dX10_refusesFit_42 (by decide) ?_
      refine ab_callV (As := [.int 1, .int 5]) (rest := []) dX10_refusesFit_43 mv_X10_refused ml_X10_84 ⟨by decide, by decide, rfl, rfl, rfl⟩ (by decide) rfl rfl (Nat.le_of_ble_eq_true rfl) rfl c_X10_refused_1 ?_
      rintro r w' ⟨rfl, rfl⟩
      refine ab_ifeq 51 dX10_refusesFit_46 (by decide) (fun h_8 => ?_) (fun h_8 => absurd (by decide) h_8)
      refine ab_aload_n dX10_refusesFit_51 rfl ?_
      refine ab_getf dX10_refusesFit_52 fl_X10_54 rfl rfl ?_
      refine ab_aload_n dX10_refusesFit_55 rfl ?_
      refine ab_getf dX10_refusesFit_56 fl_X10_23 rfl rfl ?_
      refine ab_iconst (v := 0) dX10_refusesFit_59 (by decide) ?_
      refine ab_iconst (v := 0) dX10_refusesFit_60 (by decide) ?_
      refine ab_iconst (v := 0) dX10_refusesFit_61 (by decide) ?_
      refine ab_callV (As := [.int 0, .int 0, .int 0]) (rest := [.ref 18]) dX10_refusesFit_62 mv_X2_told ml_X10_136 ⟨by decide, by decide, rfl, rfl, rfl⟩ (by decide) rfl rfl (Nat.le_of_ble_eq_true rfl) rfl (c_X2_told_0 (⟨Int32.le_refl 0, c_1⟩) h_c0 (by decide)) ?_
      rintro r w' ⟨rfl, rfl⟩
      refine ab_callV (As := [.int (r5 (0 + 0 * 4 + 0))]) (rest := []) dX10_refusesFit_65 mv_X4_findBars ml_X10_404 ⟨by decide, by decide, rfl, rfl, rfl⟩ (by decide) rfl rfl (Nat.le_of_ble_eq_true rfl) rfl (c_X4_findBars_d (nr := nr) h_nr) ?_
      rintro r w' (⟨c_9, rfl, rfl⟩ | ⟨c_10, rfl, rfl⟩)
      · refine ab_iconst (v := 0) dX10_refusesFit_68 (by decide) ?_
        exact ab_zret dX10_refusesFit_69 rfl rfl (by decide) (Or.inr (Or.inl ⟨c_1, h_6, c_9, rfl, rfl⟩))
      · refine ab_iconst (v := 0) dX10_refusesFit_68 (by decide) ?_
        exact ab_zret dX10_refusesFit_69 rfl rfl (by decide) (Or.inr (Or.inr (Or.inl ⟨c_1, h_6, c_10, rfl, rfl⟩)))
  · refine ab_ifeq 17 dX10_refusesFit_6 (by decide) (fun h_11 => ?_) (fun h_11 => absurd (by decide) h_11)
    refine ab_iconst (v := 0) dX10_refusesFit_17 (by decide) ?_
    refine ab_iconst (v := 1) dX10_refusesFit_18 (by decide) ?_
    refine ab_callV (As := [.int 0, .int 1]) (rest := []) dX10_refusesFit_19 mv_X10_refused ml_X10_84 ⟨by decide, by decide, rfl, rfl, rfl⟩ (by decide) rfl rfl (Nat.le_of_ble_eq_true rfl) rfl c_X10_refused_0 ?_
    rintro r w' ⟨rfl, rfl⟩
    refine ab_ifne 49 dX10_refusesFit_22 (by decide) (fun h_12 => ?_) (fun h_12 => absurd h_12 (by decide))
    refine ab_iconst (v := 1) dX10_refusesFit_49 (by decide) ?_
    exact ab_zret dX10_refusesFit_50 rfl rfl (by decide) (Or.inr (Or.inr (Or.inr (⟨c_2, rfl, rfl⟩))))
theorem c_X10_fit_0 {f0_0 f18_7 f18_8 f18_9 f18_10 : Int32} {x1 x2 x3 x7 x8 x9 x10 x11 x12 x13 x14 x15 x16 x17 x25 x26 x27 x28 x29 x30 x31 x32 : ax_E} {r5 r6 : Nat → Int32} {f18_11 f18_12 : Int64} {r19 r20 r21 r22 r23 r24 : Nat → Int64} {wm : List ax_E} {nr : Nat} (h_n3 : r6 3 = nI nr) (h_nr : nr ≤ 4) (h_c0 : r6 0 ≤ nI 4) : Ct M_X10_fit [.ref 0, .int 0] ([ob 8 [.int f0_0, .ref 1, .ref 4, .ref 7, .ref 10, .ref 11, .ref 12, .ref 18, .ref 25, .ref 29], x1, x2, x3, ob 2 [.ref 5, .ref 6], ia 56 r5, ia 4 r6, x7, x8, x9, x10, x11, x12, x13, x14, x15, x16, x17, ob 4 [.ref 19, .ref 20, .ref 21, .ref 22, .ref 23, .ref 24, .int (nI nr), .int f18_7, .int f18_8, .int f18_9, .int f18_10, .long f18_11, .long f18_12], ja 4 r19, ja 4 r20, ja 4 r21, ja 4 r22, ja 19 r23, ja 19 r24, x25, x26, x27, x28, x29, x30, x31, x32], wm) (fun r w' => ((0 < r6 0) ∧ ((r6 3) ≤ 0) ∧ r = some (.int (-1)) ∧ w' = ([ob 8 [.int 5, .ref 1, .ref 4, .ref 7, .ref 10, .ref 11, .ref 12, .ref 18, .ref 25, .ref 29], x1, x2, x3, ob 2 [.ref 5, .ref 6], ia 56 r5, ia 4 r6, x7, x8, x9, x10, x11, x12, x13, x14, x15, x16, x17, ob 4 [.ref 19, .ref 20, .ref 21, .ref 22, .ref 23, .ref 24, .int (nI nr), .int f18_7, .int f18_8, .int f18_9, .int f18_10, .long f18_11, .long f18_12], ja 4 r19, ja 4 r20, ja 4 r21, ja 4 r22, ja 19 r23, ja 19 r24, x25, x26, x27, x28, x29, x30, x31, x32], wm)) ∨ ((0 < r6 0) ∧ (¬ (r6 3) ≤ 0) ∧ (¬ (r5 (0 + 0 * 4 + 0)) = f18_7) ∧ r = some (.int (Pr_bar ((FB r19 r20 r21 r22 r23 r24 nr f18_11 (r5 (0 + 0 * 4 + 0)) f18_8 f18_9 f18_10).2.2.1) ((FB r19 r20 r21 r22 r23 r24 nr f18_11 (r5 (0 + 0 * 4 + 0)) f18_8 f18_9 f18_10).2.2.2.1) ((FB r19 r20 r21 r22 r23 r24 nr f18_11 (r5 (0 + 0 * 4 + 0)) f18_8 f18_9 f18_10).2.2.2.2.1) 0)) ∧ w' = ([ob 8 [.int 0, .ref 1, .ref 4, .ref 7, .ref 10, .ref 11, .ref 12, .ref 18, .ref 25, .ref 29], x1, x2, x3, ob 2 [.ref 5, .ref 6], ia 56 r5, ia 4 r6, x7, x8, x9, x10, x11, x12, x13, x14, x15, x16, x17, ob 4 [.ref 19, .ref 20, .ref 21, .ref 22, .ref 23, .ref 24, .int (nI nr), .int (r5 (0 + 0 * 4 + 0)), .int ((FB r19 r20 r21 r22 r23 r24 nr f18_11 (r5 (0 + 0 * 4 + 0)) f18_8 f18_9 f18_10).2.2.1), .int ((FB r19 r20 r21 r22 r23 r24 nr f18_11 (r5 (0 + 0 * 4 + 0)) f18_8 f18_9 f18_10).2.2.2.1), .int ((FB r19 r20 r21 r22 r23 r24 nr f18_11 (r5 (0 + 0 * 4 + 0)) f18_8 f18_9 f18_10).2.2.2.2.1), .long f18_11, .long ((FB r19 r20 r21 r22 r23 r24 nr f18_11 (r5 (0 + 0 * 4 + 0)) f18_8 f18_9 f18_10).2.2.2.2.2)], ja 4 r19, ja 4 r20, ja 4 r21, ja 4 r22, ja 19 ((FB r19 r20 r21 r22 r23 r24 nr f18_11 (r5 (0 + 0 * 4 + 0)) f18_8 f18_9 f18_10).1), ja 19 ((FB r19 r20 r21 r22 r23 r24 nr f18_11 (r5 (0 + 0 * 4 + 0)) f18_8 f18_9 f18_10).2.1), x25, x26, x27, x28, x29, x30, x31, x32], wm)) ∨ ((0 < r6 0) ∧ (¬ (r6 3) ≤ 0) ∧ ((r5 (0 + 0 * 4 + 0)) = f18_7) ∧ r = some (.int (Pr_bar f18_8 f18_9 f18_10 0)) ∧ w' = ([ob 8 [.int 0, .ref 1, .ref 4, .ref 7, .ref 10, .ref 11, .ref 12, .ref 18, .ref 25, .ref 29], x1, x2, x3, ob 2 [.ref 5, .ref 6], ia 56 r5, ia 4 r6, x7, x8, x9, x10, x11, x12, x13, x14, x15, x16, x17, ob 4 [.ref 19, .ref 20, .ref 21, .ref 22, .ref 23, .ref 24, .int (nI nr), .int f18_7, .int f18_8, .int f18_9, .int f18_10, .long f18_11, .long f18_12], ja 4 r19, ja 4 r20, ja 4 r21, ja 4 r22, ja 19 r23, ja 19 r24, x25, x26, x27, x28, x29, x30, x31, x32], wm)) ∨ ((¬ (0 < r6 0)) ∧ r = some (.int (-1)) ∧ w' = ([ob 8 [.int 1, .ref 1, .ref 4, .ref 7, .ref 10, .ref 11, .ref 12, .ref 18, .ref 25, .ref 29], x1, x2, x3, ob 2 [.ref 5, .ref 6], ia 56 r5, ia 4 r6, x7, x8, x9, x10, x11, x12, x13, x14, x15, x16, x17, ob 4 [.ref 19, .ref 20, .ref 21, .ref 22, .ref 23, .ref 24, .int (nI nr), .int f18_7, .int f18_8, .int f18_9, .int f18_10, .long f18_11, .long f18_12], ja 4 r19, ja 4 r20, ja 4 r21, ja 4 r22, ja 19 r23, ja 19 r24, x25, x26, x27, x28, x29, x30, x31, x32], wm))) := by
  refine ct_of ⟨by decide, rfl⟩ (Nat.le_of_ble_eq_true rfl) ?_
  refine ab_aload_n dX10_fit_0 rfl ?_
  refine ab_iload_n dX10_fit_1 rfl ?_
  refine ab_iconst (v := 3) dX10_fit_2 (by decide) ?_
  refine ab_callS (As := [.int 0, .int 3]) (rest := [.ref 0]) dX10_fit_3 ms_X10_isOf ml_X10_118 ⟨by decide, by decide, rfl, rfl, rfl⟩ (by decide) rfl rfl (Nat.le_of_ble_eq_true rfl) c_X10_isOf ?_
  rintro r w' (⟨c_1, rfl, rfl⟩ | ⟨c_2, rfl, rfl⟩)
  · refine ab_callV (As := [.int 1]) (rest := []) dX10_fit_6 mv_X10_refusesFit ml_X10_325 ⟨by decide, by decide, rfl, rfl, rfl⟩ (by decide) rfl rfl (Nat.le_of_ble_eq_true rfl) rfl (c_X10_refusesFit_1 (nr := nr) h_n3 h_nr h_c0) ?_
    rintro r w' (⟨c_3, c_4, rfl, rfl⟩ | ⟨c_5, c_6, c_7, rfl, rfl⟩ | ⟨c_8, c_9, c_10, rfl, rfl⟩ | ⟨c_11, rfl, rfl⟩)
    · refine ab_ifeq 16 dX10_fit_9 (by decide) (fun h_12 => absurd h_12 (by decide)) (fun h_12 => ?_)
      refine ab_iconst (v := -1) dX10_fit_12 (by decide) ?_
      refine ab_goto 24 dX10_fit_13 (by decide) ?_
      exact ab_iret dX10_fit_24 rfl (by decide) (Or.inl ⟨c_3, c_4, rfl, rfl⟩)
    · refine ab_ifeq 16 dX10_fit_9 (by decide) (fun h_13 => ?_) (fun h_13 => absurd (by decide) h_13)
      refine ab_aload_n dX10_fit_16 rfl ?_
      refine ab_getf dX10_fit_17 fl_X10_54 rfl rfl ?_
      refine ab_iload_n dX10_fit_20 rfl ?_
      refine ab_callV (As := [.int 0]) (rest := []) dX10_fit_21 mv_X4_foundBar ml_X10_329 ⟨by decide, by decide, rfl, rfl, rfl⟩ (by decide) rfl rfl (Nat.le_of_ble_eq_true rfl) rfl c_X4_foundBar ?_
      rintro r w' ⟨rfl, rfl⟩
      exact ab_iret dX10_fit_24 rfl (by decide) (Or.inr (Or.inl ⟨c_5, c_6, c_7, rfl, rfl⟩))
    · refine ab_ifeq 16 dX10_fit_9 (by decide) (fun h_14 => ?_) (fun h_14 => absurd (by decide) h_14)
      refine ab_aload_n dX10_fit_16 rfl ?_
      refine ab_getf dX10_fit_17 fl_X10_54 rfl rfl ?_
      refine ab_iload_n dX10_fit_20 rfl ?_
      refine ab_callV (As := [.int 0]) (rest := []) dX10_fit_21 mv_X4_foundBar ml_X10_329 ⟨by decide, by decide, rfl, rfl, rfl⟩ (by decide) rfl rfl (Nat.le_of_ble_eq_true rfl) rfl c_X4_foundBar ?_
      rintro r w' ⟨rfl, rfl⟩
      exact ab_iret dX10_fit_24 rfl (by decide) (Or.inr (Or.inr (Or.inl ⟨c_8, c_9, c_10, rfl, rfl⟩)))
    · refine ab_ifeq 16 dX10_fit_9 (by decide) (fun h_15 => absurd h_15 (by decide)) (fun h_15 => ?_)
      refine ab_iconst (v := -1) dX10_fit_12 (by decide) ?_
      refine ab_goto 24 dX10_fit_13 (by decide) ?_
      exact ab_iret dX10_fit_24 rfl (by decide) (Or.inr (Or.inr (Or.inr (⟨c_11, rfl, rfl⟩))))
  · exact absurd (by decide) c_2
theorem c_X10_fit_1 {f0_0 f18_7 f18_8 f18_9 f18_10 : Int32} {x1 x2 x3 x7 x8 x9 x10 x11 x12 x13 x14 x15 x16 x17 x25 x26 x27 x28 x29 x30 x31 x32 : ax_E} {r5 r6 : Nat → Int32} {f18_11 f18_12 : Int64} {r19 r20 r21 r22 r23 r24 : Nat → Int64} {wm : List ax_E} {nr : Nat} (h_n3 : r6 3 = nI nr) (h_nr : nr ≤ 4) (h_c0 : r6 0 ≤ nI 4) : Ct M_X10_fit [.ref 0, .int 1] ([ob 8 [.int f0_0, .ref 1, .ref 4, .ref 7, .ref 10, .ref 11, .ref 12, .ref 18, .ref 25, .ref 29], x1, x2, x3, ob 2 [.ref 5, .ref 6], ia 56 r5, ia 4 r6, x7, x8, x9, x10, x11, x12, x13, x14, x15, x16, x17, ob 4 [.ref 19, .ref 20, .ref 21, .ref 22, .ref 23, .ref 24, .int (nI nr), .int f18_7, .int f18_8, .int f18_9, .int f18_10, .long f18_11, .long f18_12], ja 4 r19, ja 4 r20, ja 4 r21, ja 4 r22, ja 19 r23, ja 19 r24, x25, x26, x27, x28, x29, x30, x31, x32], wm) (fun r w' => ((0 < r6 0) ∧ ((r6 3) ≤ 0) ∧ r = some (.int (-1)) ∧ w' = ([ob 8 [.int 5, .ref 1, .ref 4, .ref 7, .ref 10, .ref 11, .ref 12, .ref 18, .ref 25, .ref 29], x1, x2, x3, ob 2 [.ref 5, .ref 6], ia 56 r5, ia 4 r6, x7, x8, x9, x10, x11, x12, x13, x14, x15, x16, x17, ob 4 [.ref 19, .ref 20, .ref 21, .ref 22, .ref 23, .ref 24, .int (nI nr), .int f18_7, .int f18_8, .int f18_9, .int f18_10, .long f18_11, .long f18_12], ja 4 r19, ja 4 r20, ja 4 r21, ja 4 r22, ja 19 r23, ja 19 r24, x25, x26, x27, x28, x29, x30, x31, x32], wm)) ∨ ((0 < r6 0) ∧ (¬ (r6 3) ≤ 0) ∧ (¬ (r5 (0 + 0 * 4 + 0)) = f18_7) ∧ r = some (.int (Pr_bar ((FB r19 r20 r21 r22 r23 r24 nr f18_11 (r5 (0 + 0 * 4 + 0)) f18_8 f18_9 f18_10).2.2.1) ((FB r19 r20 r21 r22 r23 r24 nr f18_11 (r5 (0 + 0 * 4 + 0)) f18_8 f18_9 f18_10).2.2.2.1) ((FB r19 r20 r21 r22 r23 r24 nr f18_11 (r5 (0 + 0 * 4 + 0)) f18_8 f18_9 f18_10).2.2.2.2.1) 1)) ∧ w' = ([ob 8 [.int 0, .ref 1, .ref 4, .ref 7, .ref 10, .ref 11, .ref 12, .ref 18, .ref 25, .ref 29], x1, x2, x3, ob 2 [.ref 5, .ref 6], ia 56 r5, ia 4 r6, x7, x8, x9, x10, x11, x12, x13, x14, x15, x16, x17, ob 4 [.ref 19, .ref 20, .ref 21, .ref 22, .ref 23, .ref 24, .int (nI nr), .int (r5 (0 + 0 * 4 + 0)), .int ((FB r19 r20 r21 r22 r23 r24 nr f18_11 (r5 (0 + 0 * 4 + 0)) f18_8 f18_9 f18_10).2.2.1), .int ((FB r19 r20 r21 r22 r23 r24 nr f18_11 (r5 (0 + 0 * 4 + 0)) f18_8 f18_9 f18_10).2.2.2.1), .int ((FB r19 r20 r21 r22 r23 r24 nr f18_11 (r5 (0 + 0 * 4 + 0)) f18_8 f18_9 f18_10).2.2.2.2.1), .long f18_11, .long ((FB r19 r20 r21 r22 r23 r24 nr f18_11 (r5 (0 + 0 * 4 + 0)) f18_8 f18_9 f18_10).2.2.2.2.2)], ja 4 r19, ja 4 r20, ja 4 r21, ja 4 r22, ja 19 ((FB r19 r20 r21 r22 r23 r24 nr f18_11 (r5 (0 + 0 * 4 + 0)) f18_8 f18_9 f18_10).1), ja 19 ((FB r19 r20 r21 r22 r23 r24 nr f18_11 (r5 (0 + 0 * 4 + 0)) f18_8 f18_9 f18_10).2.1), x25, x26, x27, x28, x29, x30, x31, x32], wm)) ∨ ((0 < r6 0) ∧ (¬ (r6 3) ≤ 0) ∧ ((r5 (0 + 0 * 4 + 0)) = f18_7) ∧ r = some (.int (Pr_bar f18_8 f18_9 f18_10 1)) ∧ w' = ([ob 8 [.int 0, .ref 1, .ref 4, .ref 7, .ref 10, .ref 11, .ref 12, .ref 18, .ref 25, .ref 29], x1, x2, x3, ob 2 [.ref 5, .ref 6], ia 56 r5, ia 4 r6, x7, x8, x9, x10, x11, x12, x13, x14, x15, x16, x17, ob 4 [.ref 19, .ref 20, .ref 21, .ref 22, .ref 23, .ref 24, .int (nI nr), .int f18_7, .int f18_8, .int f18_9, .int f18_10, .long f18_11, .long f18_12], ja 4 r19, ja 4 r20, ja 4 r21, ja 4 r22, ja 19 r23, ja 19 r24, x25, x26, x27, x28, x29, x30, x31, x32], wm)) ∨ ((¬ (0 < r6 0)) ∧ r = some (.int (-1)) ∧ w' = ([ob 8 [.int 1, .ref 1, .ref 4, .ref 7, .ref 10, .ref 11, .ref 12, .ref 18, .ref 25, .ref 29], x1, x2, x3, ob 2 [.ref 5, .ref 6], ia 56 r5, ia 4 r6, x7, x8, x9, x10, x11, x12, x13, x14, x15, x16, x17, ob 4 [.ref 19, .ref 20, .ref 21, .ref 22, .ref 23, .ref 24, .int (nI nr), .int f18_7, .int f18_8, .int f18_9, .int f18_10, .long f18_11, .long f18_12], ja 4 r19, ja 4 r20, ja 4 r21, ja 4 r22, ja 19 r23, ja 19 r24, x25, x26, x27, x28, x29, x30, x31, x32], wm))) := by
  refine ct_of ⟨by decide, rfl⟩ (Nat.le_of_ble_eq_true rfl) ?_
  refine ab_aload_n dX10_fit_0 rfl ?_
  refine ab_iload_n dX10_fit_1 rfl ?_
  refine ab_iconst (v := 3) dX10_fit_2 (by decide) ?_
  refine ab_callS (As := [.int 1, .int 3]) (rest := [.ref 0]) dX10_fit_3 ms_X10_isOf ml_X10_118 ⟨by decide, by decide, rfl, rfl, rfl⟩ (by decide) rfl rfl (Nat.le_of_ble_eq_true rfl) c_X10_isOf ?_
  rintro r w' (⟨c_1, rfl, rfl⟩ | ⟨c_2, rfl, rfl⟩)
  · refine ab_callV (As := [.int 1]) (rest := []) dX10_fit_6 mv_X10_refusesFit ml_X10_325 ⟨by decide, by decide, rfl, rfl, rfl⟩ (by decide) rfl rfl (Nat.le_of_ble_eq_true rfl) rfl (c_X10_refusesFit_1 (nr := nr) h_n3 h_nr h_c0) ?_
    rintro r w' (⟨c_3, c_4, rfl, rfl⟩ | ⟨c_5, c_6, c_7, rfl, rfl⟩ | ⟨c_8, c_9, c_10, rfl, rfl⟩ | ⟨c_11, rfl, rfl⟩)
    · refine ab_ifeq 16 dX10_fit_9 (by decide) (fun h_12 => absurd h_12 (by decide)) (fun h_12 => ?_)
      refine ab_iconst (v := -1) dX10_fit_12 (by decide) ?_
      refine ab_goto 24 dX10_fit_13 (by decide) ?_
      exact ab_iret dX10_fit_24 rfl (by decide) (Or.inl ⟨c_3, c_4, rfl, rfl⟩)
    · refine ab_ifeq 16 dX10_fit_9 (by decide) (fun h_13 => ?_) (fun h_13 => absurd (by decide) h_13)
      refine ab_aload_n dX10_fit_16 rfl ?_
      refine ab_getf dX10_fit_17 fl_X10_54 rfl rfl ?_
      refine ab_iload_n dX10_fit_20 rfl ?_
      refine ab_callV (As := [.int 1]) (rest := []) dX10_fit_21 mv_X4_foundBar ml_X10_329 ⟨by decide, by decide, rfl, rfl, rfl⟩ (by decide) rfl rfl (Nat.le_of_ble_eq_true rfl) rfl c_X4_foundBar ?_
      rintro r w' ⟨rfl, rfl⟩
      exact ab_iret dX10_fit_24 rfl (by decide) (Or.inr (Or.inl ⟨c_5, c_6, c_7, rfl, rfl⟩))
    · refine ab_ifeq 16 dX10_fit_9 (by decide) (fun h_14 => ?_) (fun h_14 => absurd (by decide) h_14)
      refine ab_aload_n dX10_fit_16 rfl ?_
      refine ab_getf dX10_fit_17 fl_X10_54 rfl rfl ?_
      refine ab_iload_n dX10_fit_20 rfl ?_
      refine ab_callV (As := [.int 1]) (rest := []) dX10_fit_21 mv_X4_foundBar ml_X10_329 ⟨by decide, by decide, rfl, rfl, rfl⟩ (by decide) rfl rfl (Nat.le_of_ble_eq_true rfl) rfl c_X4_foundBar ?_
      rintro r w' ⟨rfl, rfl⟩
      exact ab_iret dX10_fit_24 rfl (by decide) (Or.inr (Or.inr (Or.inl ⟨c_8, c_9, c_10, rfl, rfl⟩)))
    · refine ab_ifeq 16 dX10_fit_9 (by decide) (fun h_15 => absurd h_15 (by decide)) (fun h_15 => ?_)
      refine ab_iconst (v := -1) dX10_fit_12 (by decide) ?_
      refine ab_goto 24 dX10_fit_13 (by decide) ?_
      exact ab_iret dX10_fit_24 rfl (by decide) (Or.inr (Or.inr (Or.inr (⟨c_11, rfl, rfl⟩))))
  · exact absurd (by decide) c_2
theorem c_X10_fit_2 {f0_0 f18_7 f18_8 f18_9 f18_10 : Int32} {x1 x2 x3 x7 x8 x9 x10 x11 x12 x13 x14 x15 x16 x17 x25 x26 x27 x28 x29 x30 x31 x32 : ax_E} {r5 r6 : Nat → Int32} {f18_11 f18_12 : Int64} {r19 r20 r21 r22 r23 r24 : Nat → Int64} {wm : List ax_E} {nr : Nat} (h_n3 : r6 3 = nI nr) (h_nr : nr ≤ 4) (h_c0 : r6 0 ≤ nI 4) : Ct M_X10_fit [.ref 0, .int 2] ([ob 8 [.int f0_0, .ref 1, .ref 4, .ref 7, .ref 10, .ref 11, .ref 12, .ref 18, .ref 25, .ref 29], x1, x2, x3, ob 2 [.ref 5, .ref 6], ia 56 r5, ia 4 r6, x7, x8, x9, x10, x11, x12, x13, x14, x15, x16, x17, ob 4 [.ref 19, .ref 20, .ref 21, .ref 22, .ref 23, .ref 24, .int (nI nr), .int f18_7, .int f18_8, .int f18_9, .int f18_10, .long f18_11, .long f18_12], ja 4 r19, ja 4 r20, ja 4 r21, ja 4 r22, ja 19 r23, ja 19 r24, x25, x26, x27, x28, x29, x30, x31, x32], wm) (fun r w' => ((0 < r6 0) ∧ ((r6 3) ≤ 0) ∧ r = some (.int (-1)) ∧ w' = ([ob 8 [.int 5, .ref 1, .ref 4, .ref 7, .ref 10, .ref 11, .ref 12, .ref 18, .ref 25, .ref 29], x1, x2, x3, ob 2 [.ref 5, .ref 6], ia 56 r5, ia 4 r6, x7, x8, x9, x10, x11, x12, x13, x14, x15, x16, x17, ob 4 [.ref 19, .ref 20, .ref 21, .ref 22, .ref 23, .ref 24, .int (nI nr), .int f18_7, .int f18_8, .int f18_9, .int f18_10, .long f18_11, .long f18_12], ja 4 r19, ja 4 r20, ja 4 r21, ja 4 r22, ja 19 r23, ja 19 r24, x25, x26, x27, x28, x29, x30, x31, x32], wm)) ∨ ((0 < r6 0) ∧ (¬ (r6 3) ≤ 0) ∧ (¬ (r5 (0 + 0 * 4 + 0)) = f18_7) ∧ r = some (.int (Pr_bar ((FB r19 r20 r21 r22 r23 r24 nr f18_11 (r5 (0 + 0 * 4 + 0)) f18_8 f18_9 f18_10).2.2.1) ((FB r19 r20 r21 r22 r23 r24 nr f18_11 (r5 (0 + 0 * 4 + 0)) f18_8 f18_9 f18_10).2.2.2.1) ((FB r19 r20 r21 r22 r23 r24 nr f18_11 (r5 (0 + 0 * 4 + 0)) f18_8 f18_9 f18_10).2.2.2.2.1) 2)) ∧ w' = ([ob 8 [.int 0, .ref 1, .ref 4, .ref 7, .ref 10, .ref 11, .ref 12, .ref 18, .ref 25, .ref 29], x1, x2, x3, ob 2 [.ref 5, .ref 6], ia 56 r5, ia 4 r6, x7, x8, x9, x10, x11, x12, x13, x14, x15, x16, x17, ob 4 [.ref 19, .ref 20, .ref 21, .ref 22, .ref 23, .ref 24, .int (nI nr), .int (r5 (0 + 0 * 4 + 0)), .int ((FB r19 r20 r21 r22 r23 r24 nr f18_11 (r5 (0 + 0 * 4 + 0)) f18_8 f18_9 f18_10).2.2.1), .int ((FB r19 r20 r21 r22 r23 r24 nr f18_11 (r5 (0 + 0 * 4 + 0)) f18_8 f18_9 f18_10).2.2.2.1), .int ((FB r19 r20 r21 r22 r23 r24 nr f18_11 (r5 (0 + 0 * 4 + 0)) f18_8 f18_9 f18_10).2.2.2.2.1), .long f18_11, .long ((FB r19 r20 r21 r22 r23 r24 nr f18_11 (r5 (0 + 0 * 4 + 0)) f18_8 f18_9 f18_10).2.2.2.2.2)], ja 4 r19, ja 4 r20, ja 4 r21, ja 4 r22, ja 19 ((FB r19 r20 r21 r22 r23 r24 nr f18_11 (r5 (0 + 0 * 4 + 0)) f18_8 f18_9 f18_10).1), ja 19 ((FB r19 r20 r21 r22 r23 r24 nr f18_11 (r5 (0 + 0 * 4 + 0)) f18_8 f18_9 f18_10).2.1), x25, x26, x27, x28, x29, x30, x31, x32], wm)) ∨ ((0 < r6 0) ∧ (¬ (r6 3) ≤ 0) ∧ ((r5 (0 + 0 * 4 + 0)) = f18_7) ∧ r = some (.int (Pr_bar f18_8 f18_9 f18_10 2)) ∧ w' = ([ob 8 [.int 0, .ref 1, .ref 4, .ref 7, .ref 10, .ref 11, .ref 12, .ref 18, .ref 25, .ref 29], x1, x2, x3, ob 2 [.ref 5, .ref 6], ia 56 r5, ia 4 r6, x7, x8, x9, x10, x11, x12, x13, x14, x15, x16, x17, ob 4 [.ref 19, .ref 20, .ref 21, .ref 22, .ref 23, .ref 24, .int (nI nr), .int f18_7, .int f18_8, .int f18_9, .int f18_10, .long f18_11, .long f18_12], ja 4 r19, ja 4 r20, ja 4 r21, ja 4 r22, ja 19 r23, ja 19 r24, x25, x26, x27, x28, x29, x30, x31, x32], wm)) ∨ ((¬ (0 < r6 0)) ∧ r = some (.int (-1)) ∧ w' = ([ob 8 [.int 1, .ref 1, .ref 4, .ref 7, .ref 10, .ref 11, .ref 12, .ref 18, .ref 25, .ref 29], x1, x2, x3, ob 2 [.ref 5, .ref 6], ia 56 r5, ia 4 r6, x7, x8, x9, x10, x11, x12, x13, x14, x15, x16, x17, ob 4 [.ref 19, .ref 20, .ref 21, .ref 22, .ref 23, .ref 24, .int (nI nr), .int f18_7, .int f18_8, .int f18_9, .int f18_10, .long f18_11, .long f18_12], ja 4 r19, ja 4 r20, ja 4 r21, ja 4 r22, ja 19 r23, ja 19 r24, x25, x26, x27, x28, x29, x30, x31, x32], wm))) := by
  refine ct_of ⟨by decide, rfl⟩ (Nat.le_of_ble_eq_true rfl) ?_
  refine ab_aload_n dX10_fit_0 rfl ?_
  refine ab_iload_n dX10_fit_1 rfl ?_
  refine ab_iconst (v := 3) dX10_fit_2 (by decide) ?_
  refine ab_callS (As := [.int 2, .int 3]) (rest := [.ref 0]) dX10_fit_3 ms_X10_isOf ml_X10_118 ⟨by decide, by decide, rfl, rfl, rfl⟩ (by decide) rfl rfl (Nat.le_of_ble_eq_true rfl) c_X10_isOf ?_
  rintro r w' (⟨c_1, rfl, rfl⟩ | ⟨c_2, rfl, rfl⟩)
  · refine ab_callV (As := [.int 1]) (rest := []) dX10_fit_6 mv_X10_refusesFit ml_X10_325 ⟨by decide, by decide, rfl, rfl, rfl⟩ (by decide) rfl rfl (Nat.le_of_ble_eq_true rfl) rfl (c_X10_refusesFit_1 (nr := nr) h_n3 h_nr h_c0) ?_
    rintro r w' (⟨c_3, c_4, rfl, rfl⟩ | ⟨c_5, c_6, c_7, rfl, rfl⟩ | ⟨c_8, c_9, c_10, rfl, rfl⟩ | ⟨c_11, rfl, rfl⟩)
    · refine ab_ifeq 16 dX10_fit_9 (by decide) (fun h_12 => absurd h_12 (by decide)) (fun h_12 => ?_)
      refine ab_iconst (v := -1) dX10_fit_12 (by decide) ?_
      refine ab_goto 24 dX10_fit_13 (by decide) ?_
      exact ab_iret dX10_fit_24 rfl (by decide) (Or.inl ⟨c_3, c_4, rfl, rfl⟩)
    · refine ab_ifeq 16 dX10_fit_9 (by decide) (fun h_13 => ?_) (fun h_13 => absurd (by decide) h_13)
      refine ab_aload_n dX10_fit_16 rfl ?_
      refine ab_getf dX10_fit_17 fl_X10_54 rfl rfl ?_
      refine ab_iload_n dX10_fit_20 rfl ?_
      refine ab_callV (As := [.int 2]) (rest := []) dX10_fit_21 mv_X4_foundBar ml_X10_329 ⟨by decide, by decide, rfl, rfl, rfl⟩ (by decide) rfl rfl (Nat.le_of_ble_eq_true rfl) rfl c_X4_foundBar ?_
      rintro r w' ⟨rfl, rfl⟩
      exact ab_iret dX10_fit_24 rfl (by decide) (Or.inr (Or.inl ⟨c_5, c_6, c_7, rfl, rfl⟩))
    · refine ab_ifeq 16 dX10_fit_9 (by decide) (fun h_14 => ?_) (fun h_14 => absurd (by decide) h_14)
      refine ab_aload_n dX10_fit_16 rfl ?_
      refine ab_getf dX10_fit_17 fl_X10_54 rfl rfl ?_
      refine ab_iload_n dX10_fit_20 rfl ?_
      refine ab_callV (As := [.int 2]) (rest := []) dX10_fit_21 mv_X4_foundBar ml_X10_329 ⟨by decide, by decide, rfl, rfl, rfl⟩ (by decide) rfl rfl (Nat.le_of_ble_eq_true rfl) rfl c_X4_foundBar ?_
      rintro r w' ⟨rfl, rfl⟩
      exact ab_iret dX10_fit_24 rfl (by decide) (Or.inr (Or.inr (Or.inl ⟨c_8, c_9, c_10, rfl, rfl⟩)))
    · refine ab_ifeq 16 dX10_fit_9 (by decide) (fun h_15 => absurd h_15 (by decide)) (fun h_15 => ?_)
      refine ab_iconst (v := -1) dX10_fit_12 (by decide) ?_
      refine ab_goto 24 dX10_fit_13 (by decide) ?_
      exact ab_iret dX10_fit_24 rfl (by decide) (Or.inr (Or.inr (Or.inr (⟨c_11, rfl, rfl⟩))))
  · exact absurd (by decide) c_2
theorem c_X10_fit_o {f0_0 f18_7 f18_8 f18_9 f18_10 a1 : Int32} {x1 x2 x3 x7 x8 x9 x10 x11 x12 x13 x14 x15 x16 x17 x25 x26 x27 x28 x29 x30 x31 x32 : ax_E} {r5 r6 : Nat → Int32} {f18_11 f18_12 : Int64} {r19 r20 r21 r22 r23 r24 : Nat → Int64} {wm : List ax_E} {nr : Nat} (h_n3 : r6 3 = nI nr) (h_nr : nr ≤ 4) (h_c0 : r6 0 ≤ nI 4) (h_o : ¬ (0 ≤ a1 ∧ a1 < 3)) : Ct M_X10_fit [.ref 0, .int a1] ([ob 8 [.int f0_0, .ref 1, .ref 4, .ref 7, .ref 10, .ref 11, .ref 12, .ref 18, .ref 25, .ref 29], x1, x2, x3, ob 2 [.ref 5, .ref 6], ia 56 r5, ia 4 r6, x7, x8, x9, x10, x11, x12, x13, x14, x15, x16, x17, ob 4 [.ref 19, .ref 20, .ref 21, .ref 22, .ref 23, .ref 24, .int (nI nr), .int f18_7, .int f18_8, .int f18_9, .int f18_10, .long f18_11, .long f18_12], ja 4 r19, ja 4 r20, ja 4 r21, ja 4 r22, ja 19 r23, ja 19 r24, x25, x26, x27, x28, x29, x30, x31, x32], wm) (fun r w' => ((0 < r6 0) ∧ r = some (.int (-1)) ∧ w' = ([ob 8 [.int 1, .ref 1, .ref 4, .ref 7, .ref 10, .ref 11, .ref 12, .ref 18, .ref 25, .ref 29], x1, x2, x3, ob 2 [.ref 5, .ref 6], ia 56 r5, ia 4 r6, x7, x8, x9, x10, x11, x12, x13, x14, x15, x16, x17, ob 4 [.ref 19, .ref 20, .ref 21, .ref 22, .ref 23, .ref 24, .int (nI nr), .int f18_7, .int f18_8, .int f18_9, .int f18_10, .long f18_11, .long f18_12], ja 4 r19, ja 4 r20, ja 4 r21, ja 4 r22, ja 19 r23, ja 19 r24, x25, x26, x27, x28, x29, x30, x31, x32], wm)) ∨ ((¬ (0 < r6 0)) ∧ r = some (.int (-1)) ∧ w' = ([ob 8 [.int 1, .ref 1, .ref 4, .ref 7, .ref 10, .ref 11, .ref 12, .ref 18, .ref 25, .ref 29], x1, x2, x3, ob 2 [.ref 5, .ref 6], ia 56 r5, ia 4 r6, x7, x8, x9, x10, x11, x12, x13, x14, x15, x16, x17, ob 4 [.ref 19, .ref 20, .ref 21, .ref 22, .ref 23, .ref 24, .int (nI nr), .int f18_7, .int f18_8, .int f18_9, .int f18_10, .long f18_11, .long f18_12], ja 4 r19, ja 4 r20, ja 4 r21, ja 4 r22, ja 19 r23, ja 19 r24, x25, x26, x27, x28, x29, x30, x31, x32], wm))) := by
  refine ct_of ⟨by decide, rfl⟩ (Nat.le_of_ble_eq_true rfl) ?_
  refine ab_aload_n dX10_fit_0 rfl ?_
  refine ab_iload_n dX10_fit_1 rfl ?_
  refine ab_iconst (v := 3) dX10_fit_2 (by decide) ?_
  refine ab_callS (As := [.int a1, .int 3]) (rest := [.ref 0]) dX10_fit_3 ms_X10_isOf ml_X10_118 ⟨by decide, by decide, rfl, rfl, rfl⟩ (by decide) rfl rfl (Nat.le_of_ble_eq_true rfl) c_X10_isOf ?_
  rintro r w' (⟨c_1, rfl, rfl⟩ | ⟨c_2, rfl, rfl⟩)
  · exact absurd c_1 h_o
  · refine ab_callV (As := [.int 0]) (rest := []) dX10_fit_6 mv_X10_refusesFit ml_X10_325 ⟨by decide, by decide, rfl, rfl, rfl⟩ (by decide) rfl rfl (Nat.le_of_ble_eq_true rfl) rfl (c_X10_refusesFit_0 (nr := nr) h_n3 h_nr h_c0) ?_
    rintro r w' (⟨c_3, rfl, rfl⟩ | ⟨c_4, rfl, rfl⟩)
    · refine ab_ifeq 16 dX10_fit_9 (by decide) (fun h_5 => absurd h_5 (by decide)) (fun h_5 => ?_)
      refine ab_iconst (v := -1) dX10_fit_12 (by decide) ?_
      refine ab_goto 24 dX10_fit_13 (by decide) ?_
      exact ab_iret dX10_fit_24 rfl (by decide) (Or.inl ⟨c_3, rfl, rfl⟩)
    · refine ab_ifeq 16 dX10_fit_9 (by decide) (fun h_6 => absurd h_6 (by decide)) (fun h_6 => ?_)
      refine ab_iconst (v := -1) dX10_fit_12 (by decide) ?_
      refine ab_goto 24 dX10_fit_13 (by decide) ?_
      exact ab_iret dX10_fit_24 rfl (by decide) (Or.inr (⟨c_4, rfl, rfl⟩))
theorem c_X10_fitMiss {f0_0 f18_7 f18_8 f18_9 f18_10 a1 : Int32} {x1 x2 x3 x7 x8 x9 x10 x11 x12 x13 x14 x15 x16 x17 x25 x26 x27 x28 x29 x30 x31 x32 : ax_E} {r5 r6 : Nat → Int32} {f18_11 f18_12 : Int64} {r19 r20 r21 r22 r23 r24 : Nat → Int64} {wm : List ax_E} {nr : Nat} (h_n3 : r6 3 = nI nr) (h_nr : nr ≤ 4) (h_c0 : r6 0 ≤ nI 4) (h_q3 : (0 < r6 0) → (¬ (r6 3) ≤ 0) → (¬ (r5 (0 + 0 * 4 + 0)) = f18_7) → ((FB r19 r20 r21 r22 r23 r24 nr f18_11 (r5 (0 + 0 * 4 + 0)) f18_8 f18_9 f18_10).2.2.2.2.2).toInt ≠ -2 ^ 63) (h_q4 : (0 < r6 0) → (¬ (r6 3) ≤ 0) → (¬ (r5 (0 + 0 * 4 + 0)) = f18_7) → f18_11.toInt ≠ -2 ^ 63) (h_q5 : (0 < r6 0) → (¬ (r6 3) ≤ 0) → ((r5 (0 + 0 * 4 + 0)) = f18_7) → f18_12.toInt ≠ -2 ^ 63) (h_q6 : (0 < r6 0) → (¬ (r6 3) ≤ 0) → ((r5 (0 + 0 * 4 + 0)) = f18_7) → f18_11.toInt ≠ -2 ^ 63) : Ct M_X10_fitMiss [.ref 0, .int a1] ([ob 8 [.int f0_0, .ref 1, .ref 4, .ref 7, .ref 10, .ref 11, .ref 12, .ref 18, .ref 25, .ref 29], x1, x2, x3, ob 2 [.ref 5, .ref 6], ia 56 r5, ia 4 r6, x7, x8, x9, x10, x11, x12, x13, x14, x15, x16, x17, ob 4 [.ref 19, .ref 20, .ref 21, .ref 22, .ref 23, .ref 24, .int (nI nr), .int f18_7, .int f18_8, .int f18_9, .int f18_10, .long f18_11, .long f18_12], ja 4 r19, ja 4 r20, ja 4 r21, ja 4 r22, ja 19 r23, ja 19 r24, x25, x26, x27, x28, x29, x30, x31, x32], wm) (fun r w' => ((0 < r6 0) ∧ ((r6 3) ≤ 0) ∧ r = some (.long (-1)) ∧ w' = ([ob 8 [.int 5, .ref 1, .ref 4, .ref 7, .ref 10, .ref 11, .ref 12, .ref 18, .ref 25, .ref 29], x1, x2, x3, ob 2 [.ref 5, .ref 6], ia 56 r5, ia 4 r6, x7, x8, x9, x10, x11, x12, x13, x14, x15, x16, x17, ob 4 [.ref 19, .ref 20, .ref 21, .ref 22, .ref 23, .ref 24, .int (nI nr), .int f18_7, .int f18_8, .int f18_9, .int f18_10, .long f18_11, .long f18_12], ja 4 r19, ja 4 r20, ja 4 r21, ja 4 r22, ja 19 r23, ja 19 r24, x25, x26, x27, x28, x29, x30, x31, x32], wm)) ∨ ((0 < r6 0) ∧ (¬ (r6 3) ≤ 0) ∧ (¬ (r5 (0 + 0 * 4 + 0)) = f18_7) ∧ r = some (.long (Rd ((FB r19 r20 r21 r22 r23 r24 nr f18_11 (r5 (0 + 0 * 4 + 0)) f18_8 f18_9 f18_10).2.2.2.2.2) f18_11 a1)) ∧ w' = ([ob 8 [.int 0, .ref 1, .ref 4, .ref 7, .ref 10, .ref 11, .ref 12, .ref 18, .ref 25, .ref 29], x1, x2, x3, ob 2 [.ref 5, .ref 6], ia 56 r5, ia 4 r6, x7, x8, x9, x10, x11, x12, x13, x14, x15, x16, x17, ob 4 [.ref 19, .ref 20, .ref 21, .ref 22, .ref 23, .ref 24, .int (nI nr), .int (r5 (0 + 0 * 4 + 0)), .int ((FB r19 r20 r21 r22 r23 r24 nr f18_11 (r5 (0 + 0 * 4 + 0)) f18_8 f18_9 f18_10).2.2.1), .int ((FB r19 r20 r21 r22 r23 r24 nr f18_11 (r5 (0 + 0 * 4 + 0)) f18_8 f18_9 f18_10).2.2.2.1), .int ((FB r19 r20 r21 r22 r23 r24 nr f18_11 (r5 (0 + 0 * 4 + 0)) f18_8 f18_9 f18_10).2.2.2.2.1), .long f18_11, .long ((FB r19 r20 r21 r22 r23 r24 nr f18_11 (r5 (0 + 0 * 4 + 0)) f18_8 f18_9 f18_10).2.2.2.2.2)], ja 4 r19, ja 4 r20, ja 4 r21, ja 4 r22, ja 19 ((FB r19 r20 r21 r22 r23 r24 nr f18_11 (r5 (0 + 0 * 4 + 0)) f18_8 f18_9 f18_10).1), ja 19 ((FB r19 r20 r21 r22 r23 r24 nr f18_11 (r5 (0 + 0 * 4 + 0)) f18_8 f18_9 f18_10).2.1), x25, x26, x27, x28, x29, x30, x31, x32], wm)) ∨ ((0 < r6 0) ∧ (¬ (r6 3) ≤ 0) ∧ ((r5 (0 + 0 * 4 + 0)) = f18_7) ∧ r = some (.long (Rd f18_12 f18_11 a1)) ∧ w' = ([ob 8 [.int 0, .ref 1, .ref 4, .ref 7, .ref 10, .ref 11, .ref 12, .ref 18, .ref 25, .ref 29], x1, x2, x3, ob 2 [.ref 5, .ref 6], ia 56 r5, ia 4 r6, x7, x8, x9, x10, x11, x12, x13, x14, x15, x16, x17, ob 4 [.ref 19, .ref 20, .ref 21, .ref 22, .ref 23, .ref 24, .int (nI nr), .int f18_7, .int f18_8, .int f18_9, .int f18_10, .long f18_11, .long f18_12], ja 4 r19, ja 4 r20, ja 4 r21, ja 4 r22, ja 19 r23, ja 19 r24, x25, x26, x27, x28, x29, x30, x31, x32], wm)) ∨ ((¬ (0 < r6 0)) ∧ r = some (.long (-1)) ∧ w' = ([ob 8 [.int 1, .ref 1, .ref 4, .ref 7, .ref 10, .ref 11, .ref 12, .ref 18, .ref 25, .ref 29], x1, x2, x3, ob 2 [.ref 5, .ref 6], ia 56 r5, ia 4 r6, x7, x8, x9, x10, x11, x12, x13, x14, x15, x16, x17, ob 4 [.ref 19, .ref 20, .ref 21, .ref 22, .ref 23, .ref 24, .int (nI nr), .int f18_7, .int f18_8, .int f18_9, .int f18_10, .long f18_11, .long f18_12], ja 4 r19, ja 4 r20, ja 4 r21, ja 4 r22, ja 19 r23, ja 19 r24, x25, x26, x27, x28, x29, x30, x31, x32], wm))) := by
  refine ct_of ⟨by decide, rfl⟩ (Nat.le_of_ble_eq_true rfl) ?_
  refine ab_aload_n dX10_fitMiss_0 rfl ?_
  refine ab_iconst (v := 1) dX10_fitMiss_1 (by decide) ?_
  refine ab_callV (As := [.int 1]) (rest := []) dX10_fitMiss_2 mv_X10_refusesFit ml_X10_325 ⟨by decide, by decide, rfl, rfl, rfl⟩ (by decide) rfl rfl (Nat.le_of_ble_eq_true rfl) rfl (c_X10_refusesFit_1 (nr := nr) h_n3 h_nr h_c0) ?_
  rintro r w' (⟨c_1, c_2, rfl, rfl⟩ | ⟨c_3, c_4, c_5, rfl, rfl⟩ | ⟨c_6, c_7, c_8, rfl, rfl⟩ | ⟨c_9, rfl, rfl⟩)
  · refine ab_ifeq 12 dX10_fitMiss_5 (by decide) (fun h_10 => absurd h_10 (by decide)) (fun h_10 => ?_)
    refine ab_ldc2 dX10_fitMiss_8 kl_X10_179 ?_
    exact ab_lret dX10_fitMiss_11 rfl (by decide) (Or.inl ⟨c_1, c_2, rfl, rfl⟩)
  · refine ab_ifeq 12 dX10_fitMiss_5 (by decide) (fun h_11 => ?_) (fun h_11 => absurd (by decide) h_11)
    refine ab_aload_n dX10_fitMiss_12 rfl ?_
    refine ab_getf dX10_fitMiss_13 fl_X10_54 rfl rfl ?_
    refine ab_callV (As := []) (rest := []) dX10_fitMiss_16 mv_X4_foundUpper ml_X10_332 ⟨by decide, by decide, rfl, rfl, rfl⟩ (by decide) rfl rfl (Nat.le_of_ble_eq_true rfl) rfl c_X4_foundUpper ?_
    rintro r w' ⟨rfl, rfl⟩
    refine ab_aload_n dX10_fitMiss_19 rfl ?_
    refine ab_getf dX10_fitMiss_20 fl_X10_54 rfl rfl ?_
    refine ab_callV (As := []) (rest := [.long ((FB r19 r20 r21 r22 r23 r24 nr f18_11 (r5 (0 + 0 * 4 + 0)) f18_8 f18_9 f18_10).2.2.2.2.2)]) dX10_fitMiss_23 mv_X4_foundLower ml_X10_335 ⟨by decide, by decide, rfl, rfl, rfl⟩ (by decide) rfl rfl (Nat.le_of_ble_eq_true rfl) rfl c_X4_foundLower ?_
    rintro r w' ⟨rfl, rfl⟩
    refine ab_iload_n dX10_fitMiss_26 rfl ?_
    refine ab_callS (As := [.long ((FB r19 r20 r21 r22 r23 r24 nr f18_11 (r5 (0 + 0 * 4 + 0)) f18_8 f18_9 f18_10).2.2.2.2.2), .long f18_11, .int a1]) (rest := []) dX10_fitMiss_27 ms_X9_reduced ml_X10_188 ⟨by decide, by decide, rfl, rfl, rfl⟩ (by decide) rfl rfl (Nat.le_of_ble_eq_true rfl) (c_X9_reduced (h_q3 c_3 c_4 c_5) (h_q4 c_3 c_4 c_5)) ?_
    rintro r w' ⟨rfl, rfl⟩
    exact ab_lret dX10_fitMiss_30 rfl (by decide) (Or.inr (Or.inl ⟨c_3, c_4, c_5, rfl, rfl⟩))
  · refine ab_ifeq 12 dX10_fitMiss_5 (by decide) (fun h_12 => ?_) (fun h_12 => absurd (by decide) h_12)
    refine ab_aload_n dX10_fitMiss_12 rfl ?_
    refine ab_getf dX10_fitMiss_13 fl_X10_54 rfl rfl ?_
    refine ab_callV (As := []) (rest := []) dX10_fitMiss_16 mv_X4_foundUpper ml_X10_332 ⟨by decide, by decide, rfl, rfl, rfl⟩ (by decide) rfl rfl (Nat.le_of_ble_eq_true rfl) rfl c_X4_foundUpper ?_
    rintro r w' ⟨rfl, rfl⟩
    refine ab_aload_n dX10_fitMiss_19 rfl ?_
    refine ab_getf dX10_fitMiss_20 fl_X10_54 rfl rfl ?_
    refine ab_callV (As := []) (rest := [.long f18_12]) dX10_fitMiss_23 mv_X4_foundLower ml_X10_335 ⟨by decide, by decide, rfl, rfl, rfl⟩ (by decide) rfl rfl (Nat.le_of_ble_eq_true rfl) rfl c_X4_foundLower ?_
    rintro r w' ⟨rfl, rfl⟩
    refine ab_iload_n dX10_fitMiss_26 rfl ?_
    refine ab_callS (As := [.long f18_12, .long f18_11, .int a1]) (rest := []) dX10_fitMiss_27 ms_X9_reduced ml_X10_188 ⟨by decide, by decide, rfl, rfl, rfl⟩ (by decide) rfl rfl (Nat.le_of_ble_eq_true rfl) (c_X9_reduced (h_q5 c_6 c_7 c_8) (h_q6 c_6 c_7 c_8)) ?_
    rintro r w' ⟨rfl, rfl⟩
    exact ab_lret dX10_fitMiss_30 rfl (by decide) (Or.inr (Or.inr (Or.inl ⟨c_6, c_7, c_8, rfl, rfl⟩)))
  · refine ab_ifeq 12 dX10_fitMiss_5 (by decide) (fun h_13 => absurd h_13 (by decide)) (fun h_13 => ?_)
    refine ab_ldc2 dX10_fitMiss_8 kl_X10_179 ?_
    exact ab_lret dX10_fitMiss_11 rfl (by decide) (Or.inr (Or.inr (Or.inr (⟨c_9, rfl, rfl⟩))))
