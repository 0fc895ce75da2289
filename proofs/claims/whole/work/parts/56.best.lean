def lp_ea_st (r5 : Nat → Int32) (a1 : Int32) (k : Nat) (fo : Int32) (up : Int64) (dn : Int64) : Int32 × Int64 × Int64 := (if fo = (-2) then (if 0 < (Ps_s (Bg r5 a1) (Ba r5 a1) (nI k)) ∧ 0 ≤ (Ps_k (Bg r5 a1) (Ba r5 a1) (Bb r5 a1) (Bc r5 a1) (nI k)) then ((nI k), (if 0 < (Fo_u (Ps_n (nI k)) (Ps_s (Bg r5 a1) (Ba r5 a1) (nI k)) (Int32.toInt64 (Bb r5 a1)) (Int32.toInt64 (Bc r5 a1))) then (Fo_u (Ps_n (nI k)) (Ps_s (Bg r5 a1) (Ba r5 a1) (nI k)) (Int32.toInt64 (Bb r5 a1)) (Int32.toInt64 (Bc r5 a1))) else -(Fo_u (Ps_n (nI k)) (Ps_s (Bg r5 a1) (Ba r5 a1) (nI k)) (Int32.toInt64 (Bb r5 a1)) (Int32.toInt64 (Bc r5 a1)))), (Fo_l (Ps_n (nI k)) (Int32.toInt64 (Bb r5 a1)) (Int32.toInt64 (Bc r5 a1)))) else (fo, up, dn)) else (if (up * (Fo_l (Ps_n (nI k)) (Int32.toInt64 (Bb r5 a1)) (Int32.toInt64 (Bc r5 a1)))) ≤ ((if 0 < (Fo_u (Ps_n (nI k)) (Ps_s (Bg r5 a1) (Ba r5 a1) (nI k)) (Int32.toInt64 (Bb r5 a1)) (Int32.toInt64 (Bc r5 a1))) then (Fo_u (Ps_n (nI k)) (Ps_s (Bg r5 a1) (Ba r5 a1) (nI k)) (Int32.toInt64 (Bb r5 a1)) (Int32.toInt64 (Bc r5 a1))) else -(Fo_u (Ps_n (nI k)) (Ps_s (Bg r5 a1) (Ba r5 a1) (nI k)) (Int32.toInt64 (Bb r5 a1)) (Int32.toInt64 (Bc r5 a1)))) * dn) then (if 0 < (Ps_s (Bg r5 a1) (Ba r5 a1) (nI k)) ∧ 0 ≤ (Ps_k (Bg r5 a1) (Ba r5 a1) (Bb r5 a1) (Bc r5 a1) (nI k)) then (fo, up, dn) else (fo, up, dn)) else (if 0 < (Ps_s (Bg r5 a1) (Ba r5 a1) (nI k)) ∧ 0 ≤ (Ps_k (Bg r5 a1) (Ba r5 a1) (Bb r5 a1) (Bc r5 a1) (nI k)) then ((nI k), (if 0 < (Fo_u (Ps_n (nI k)) (Ps_s (Bg r5 a1) (Ba r5 a1) (nI k)) (Int32.toInt64 (Bb r5 a1)) (Int32.toInt64 (Bc r5 a1))) then (Fo_u (Ps_n (nI k)) (Ps_s (Bg r5 a1) (Ba r5 a1) (nI k)) (Int32.toInt64 (Bb r5 a1)) (Int32.toInt64 (Bc r5 a1))) else -(Fo_u (Ps_n (nI k)) (Ps_s (Bg r5 a1) (Ba r5 a1) (nI k)) (Int32.toInt64 (Bb r5 a1)) (Int32.toInt64 (Bc r5 a1)))), (Fo_l (Ps_n (nI k)) (Int32.toInt64 (Bb r5 a1)) (Int32.toInt64 (Bc r5 a1)))) else (fo, up, dn))))
set_option maxHeartbeats 400000 in
theorem lp_ea {f0_0 a1 : Int32} {x1 x2 x3 x7 x8 x9 x12 x13 x14 x15 x16 x17 x18 x19 x20 x21 x22 x23 x24 x25 x26 x27 x28 x29 x30 x31 x32 : ax_E} {r5 r6 : Nat → Int32} {wm : List ax_E} {Q : Option Value → ax_W → Prop} {B : Nat} (hB : B = 40)  : ∀ (n k : Nat) (fo : Int32) (up : Int64) (dn : Int64) (g : Nat → Int64), k + n = B → (∀ (g : Nat → Int64), Ab M_X10_easiest Q (0, 0) 131 [(7, .int (nI B)), (5, .long ((itr (fun k s => lp_ea_st r5 a1 k s.1 s.2.1 s.2.2) n k (fo, up, dn)).2.2)), (3, .long ((itr (fun k s => lp_ea_st r5 a1 k s.1 s.2.1 s.2.2) n k (fo, up, dn)).2.1)), (2, .int ((itr (fun k s => lp_ea_st r5 a1 k s.1 s.2.1 s.2.2) n k (fo, up, dn)).1)), (1, .int a1), (0, .ref 0)] [] ([ob 8 [.int f0_0, .ref 1, .ref 4, .ref 7, .ref 10, .ref 11, .ref 12, .ref 18, .ref 25, .ref 29], x1, x2, x3, ob 2 [.ref 5, .ref 6], ia 56 r5, ia 4 r6, x7, x8, x9, ob 3 [.int (Bg r5 a1), .int (Ba r5 a1), .int (Bb r5 a1), .int (Bc r5 a1)], ob 5 [.long (g 0), .long (g 1), .long (g 2), .long (g 3), .long (g 4), .long (g 5), .long (g 6), .long (g 7), .long (g 8), .long (g 9), .long (g 10), .long (g 11), .long (g 12), .long (g 13), .long (g 14), .long (g 15)], x12, x13, x14, x15, x16, x17, x18, x19, x20, x21, x22, x23, x24, x25, x26, x27, x28, x29, x30, x31, x32], wm)) → Ab M_X10_easiest Q (0, 0) 32 [(7, .int (nI k)), (5, .long dn), (3, .long up), (2, .int fo), (1, .int a1), (0, .ref 0)] [] ([ob 8 [.int f0_0, .ref 1, .ref 4, .ref 7, .ref 10, .ref 11, .ref 12, .ref 18, .ref 25, .ref 29], x1, x2, x3, ob 2 [.ref 5, .ref 6], ia 56 r5, ia 4 r6, x7, x8, x9, ob 3 [.int (Bg r5 a1), .int (Ba r5 a1), .int (Bb r5 a1), .int (Bc r5 a1)], ob 5 [.long (g 0), .long (g 1), .long (g 2), .long (g 3), .long (g 4), .long (g 5), .long (g 6), .long (g 7), .long (g 8), .long (g 9), .long (g 10), .long (g 11), .long (g 12), .long (g 13), .long (g 14), .long (g 15)], x12, x13, x14, x15, x16, x17, x18, x19, x20, x21, x22, x23, x24, x25, x26, x27, x28, x29, x30, x31, x32], wm) := by
  intro n
  induction n with
  | zero =>
    intro k fo up dn g hk hx
    rw [itr_0] at hx
    rw [show k = B by omega]
    refine ab_iload dX10_easiest_32 rfl ?_
    refine ab_bipush (v := 40) dX10_easiest_34 (by decide) ?_
    refine ab_icmpge 131 dX10_easiest_36 (by decide) (fun h_1 => ?_) (fun h_1 => absurd (nI_le (a := 40) (by omega) (by omega)) h_1)
    refine ab_pick [0, 1, 2, 3, 4, 5] rfl ?_
    exact hx g
  | succ n ih =>
    intro k fo up dn g hk hx
    have hkk : 0 ≤ nI k ∧ nI k < 40 := ⟨nI_pos' (by omega), nI_lt (b := 40) (by omega) (by decide)⟩
    refine ab_iload dX10_easiest_32 rfl ?_
    refine ab_bipush (v := 40) dX10_easiest_34 (by decide) ?_
    refine ab_icmpge 131 dX10_easiest_36 (by decide) (fun h_1 => absurd h_1 (nI_ge (a := k) (b := 40) (by omega) (by omega))) (fun h_1 => ?_)
    refine ab_aload_n dX10_easiest_39 rfl ?_
    refine ab_getf dX10_easiest_40 fl_X10_40 rfl rfl ?_
    refine ab_aload_n dX10_easiest_43 rfl ?_
    refine ab_getf dX10_easiest_44 fl_X10_33 rfl rfl ?_
    refine ab_iload dX10_easiest_47 rfl ?_
    refine ab_callV (As := [.ref 10, .int (nI k)]) (rest := []) dX10_easiest_49 mv_X5_set ml_X10_236 ⟨by decide, by decide, rfl, rfl, rfl⟩ (by decide) rfl rfl (Nat.le_of_ble_eq_true rfl) rfl (c_X5_set hkk) ?_
    rintro r w' ⟨rfl, rfl⟩
    refine ab_aload_n dX10_easiest_52 rfl ?_
    refine ab_getf dX10_easiest_53 fl_X10_40 rfl rfl ?_
    refine ab_callV (As := []) (rest := []) dX10_easiest_56 mv_X5_forceUpper ml_X10_229 ⟨by decide, by decide, rfl, rfl, rfl⟩ (by decide) rfl rfl (Nat.le_of_ble_eq_true rfl) rfl c_X5_forceUpper ?_
    rintro r w' ⟨rfl, rfl⟩
    refine ab_mabsL dX10_easiest_59 ml_X10_240 ⟨by decide, Nat.le_of_ble_eq_true rfl⟩ (by decide) ?_
    refine ab_lstore (la' := [(8, .long (if 0 < (Fo_u (Ps_n (nI k)) (Ps_s (Bg r5 a1) (Ba r5 a1) (nI k)) (Int32.toInt64 (Bb r5 a1)) (Int32.toInt64 (Bc r5 a1))) then (Fo_u (Ps_n (nI k)) (Ps_s (Bg r5 a1) (Ba r5 a1) (nI k)) (Int32.toInt64 (Bb r5 a1)) (Int32.toInt64 (Bc r5 a1))) else -(Fo_u (Ps_n (nI k)) (Ps_s (Bg r5 a1) (Ba r5 a1) (nI k)) (Int32.toInt64 (Bb r5 a1)) (Int32.toInt64 (Bc r5 a1))))), (7, .int (nI k)), (5, .long dn), (3, .long up), (2, .int fo), (1, .int a1), (0, .ref 0)]) dX10_easiest_62 (by decide) rfl ?_
    refine ab_iload_n dX10_easiest_64 rfl ?_
    refine ab_bipush (v := -2) dX10_easiest_65 (by decide) ?_
    refine ab_icmpeq 88 dX10_easiest_67 (by decide) (fun h_2 => ?_) (fun h_2 => ?_)
    · refine ab_iconst (v := 1) dX10_easiest_88 (by decide) ?_
      refine ab_goto 93 dX10_easiest_89 (by decide) ?_
      refine ab_istore (la' := [(10, .int 1), (8, .long (if 0 < (Fo_u (Ps_n (nI k)) (Ps_s (Bg r5 a1) (Ba r5 a1) (nI k)) (Int32.toInt64 (Bb r5 a1)) (Int32.toInt64 (Bc r5 a1))) then (Fo_u (Ps_n (nI k)) (Ps_s (Bg r5 a1) (Ba r5 a1) (nI k)) (Int32.toInt64 (Bb r5 a1)) (Int32.toInt64 (Bc r5 a1))) else -(Fo_u (Ps_n (nI k)) (Ps_s (Bg r5 a1) (Ba r5 a1) (nI k)) (Int32.toInt64 (Bb r5 a1)) (Int32.toInt64 (Bc r5 a1))))), (7, .int (nI k)), (5, .long dn), (3, .long up), (2, .int fo), (1, .int a1), (0, .ref 0)]) dX10_easiest_93 (by decide) rfl ?_
      refine ab_aload_n dX10_easiest_95 rfl ?_
      refine ab_getf dX10_easiest_96 fl_X10_40 rfl rfl ?_
      refine ab_callV (As := []) (rest := []) dX10_easiest_99 mv_X5_isLawful ml_X10_203 ⟨by decide, by decide, rfl, rfl, rfl⟩ (by decide) rfl rfl (Nat.le_of_ble_eq_true rfl) rfl c_X5_isLawful ?_
      rintro r w' (⟨c_3, rfl, rfl⟩ | ⟨c_4, rfl, rfl⟩)
      · refine ab_ifeq 125 dX10_easiest_102 (by decide) (fun h_5 => absurd h_5 (by decide)) (fun h_5 => ?_)
        refine ab_iload dX10_easiest_105 rfl ?_
        refine ab_ifeq 125 dX10_easiest_107 (by decide) (fun h_6 => absurd h_6 (by decide)) (fun h_6 => ?_)
        refine ab_iload dX10_easiest_110 rfl ?_
        refine ab_istore_n (la' := [(2, .int (nI k)), (10, .int 1), (8, .long (if 0 < (Fo_u (Ps_n (nI k)) (Ps_s (Bg r5 a1) (Ba r5 a1) (nI k)) (Int32.toInt64 (Bb r5 a1)) (Int32.toInt64 (Bc r5 a1))) then (Fo_u (Ps_n (nI k)) (Ps_s (Bg r5 a1) (Ba r5 a1) (nI k)) (Int32.toInt64 (Bb r5 a1)) (Int32.toInt64 (Bc r5 a1))) else -(Fo_u (Ps_n (nI k)) (Ps_s (Bg r5 a1) (Ba r5 a1) (nI k)) (Int32.toInt64 (Bb r5 a1)) (Int32.toInt64 (Bc r5 a1))))), (7, .int (nI k)), (5, .long dn), (3, .long up), (1, .int a1), (0, .ref 0)]) dX10_easiest_112 (by decide) rfl ?_
        refine ab_lload dX10_easiest_113 rfl ?_
        refine ab_lstore_n (la' := [(3, .long (if 0 < (Fo_u (Ps_n (nI k)) (Ps_s (Bg r5 a1) (Ba r5 a1) (nI k)) (Int32.toInt64 (Bb r5 a1)) (Int32.toInt64 (Bc r5 a1))) then (Fo_u (Ps_n (nI k)) (Ps_s (Bg r5 a1) (Ba r5 a1) (nI k)) (Int32.toInt64 (Bb r5 a1)) (Int32.toInt64 (Bc r5 a1))) else -(Fo_u (Ps_n (nI k)) (Ps_s (Bg r5 a1) (Ba r5 a1) (nI k)) (Int32.toInt64 (Bb r5 a1)) (Int32.toInt64 (Bc r5 a1))))), (2, .int (nI k)), (10, .int 1), (8, .long (if 0 < (Fo_u (Ps_n (nI k)) (Ps_s (Bg r5 a1) (Ba r5 a1) (nI k)) (Int32.toInt64 (Bb r5 a1)) (Int32.toInt64 (Bc r5 a1))) then (Fo_u (Ps_n (nI k)) (Ps_s (Bg r5 a1) (Ba r5 a1) (nI k)) (Int32.toInt64 (Bb r5 a1)) (Int32.toInt64 (Bc r5 a1))) else -(Fo_u (Ps_n (nI k)) (Ps_s (Bg r5 a1) (Ba r5 a1) (nI k)) (Int32.toInt64 (Bb r5 a1)) (Int32.toInt64 (Bc r5 a1))))), (7, .int (nI k)), (5, .long dn), (1, .int a1), (0, .ref 0)]) dX10_easiest_115 (by decide) rfl ?_
        refine ab_aload_n dX10_easiest_116 rfl ?_
        refine ab_getf dX10_easiest_117 fl_X10_40 rfl rfl ?_
        refine ab_callV (As := []) (rest := []) dX10_easiest_120 mv_X5_forceLower ml_X10_233 ⟨by decide, by decide, rfl, rfl, rfl⟩ (by decide) rfl rfl (Nat.le_of_ble_eq_true rfl) rfl c_X5_forceLower ?_
        rintro r w' ⟨rfl, rfl⟩
        refine ab_lstore (la' := [(5, .long (Fo_l (Ps_n (nI k)) (Int32.toInt64 (Bb r5 a1)) (Int32.toInt64 (Bc r5 a1)))), (3, .long (if 0 < (Fo_u (Ps_n (nI k)) (Ps_s (Bg r5 a1) (Ba r5 a1) (nI k)) (Int32.toInt64 (Bb r5 a1)) (Int32.toInt64 (Bc r5 a1))) then (Fo_u (Ps_n (nI k)) (Ps_s (Bg r5 a1) (Ba r5 a1) (nI k)) (Int32.toInt64 (Bb r5 a1)) (Int32.toInt64 (Bc r5 a1))) else -(Fo_u (Ps_n (nI k)) (Ps_s (Bg r5 a1) (Ba r5 a1) (nI k)) (Int32.toInt64 (Bb r5 a1)) (Int32.toInt64 (Bc r5 a1))))), (2, .int (nI k)), (10, .int 1), (8, .long (if 0 < (Fo_u (Ps_n (nI k)) (Ps_s (Bg r5 a1) (Ba r5 a1) (nI k)) (Int32.toInt64 (Bb r5 a1)) (Int32.toInt64 (Bc r5 a1))) then (Fo_u (Ps_n (nI k)) (Ps_s (Bg r5 a1) (Ba r5 a1) (nI k)) (Int32.toInt64 (Bb r5 a1)) (Int32.toInt64 (Bc r5 a1))) else -(Fo_u (Ps_n (nI k)) (Ps_s (Bg r5 a1) (Ba r5 a1) (nI k)) (Int32.toInt64 (Bb r5 a1)) (Int32.toInt64 (Bc r5 a1))))), (7, .int (nI k)), (1, .int a1), (0, .ref 0)]) dX10_easiest_123 (by decide) rfl ?_
        refine ab_iinc (v := (nI (k + 1))) (la' := [(7, .int (nI (k + 1))), (5, .long (Fo_l (Ps_n (nI k)) (Int32.toInt64 (Bb r5 a1)) (Int32.toInt64 (Bc r5 a1)))), (3, .long (if 0 < (Fo_u (Ps_n (nI k)) (Ps_s (Bg r5 a1) (Ba r5 a1) (nI k)) (Int32.toInt64 (Bb r5 a1)) (Int32.toInt64 (Bc r5 a1))) then (Fo_u (Ps_n (nI k)) (Ps_s (Bg r5 a1) (Ba r5 a1) (nI k)) (Int32.toInt64 (Bb r5 a1)) (Int32.toInt64 (Bc r5 a1))) else -(Fo_u (Ps_n (nI k)) (Ps_s (Bg r5 a1) (Ba r5 a1) (nI k)) (Int32.toInt64 (Bb r5 a1)) (Int32.toInt64 (Bc r5 a1))))), (2, .int (nI k)), (10, .int 1), (8, .long (if 0 < (Fo_u (Ps_n (nI k)) (Ps_s (Bg r5 a1) (Ba r5 a1) (nI k)) (Int32.toInt64 (Bb r5 a1)) (Int32.toInt64 (Bc r5 a1))) then (Fo_u (Ps_n (nI k)) (Ps_s (Bg r5 a1) (Ba r5 a1) (nI k)) (Int32.toInt64 (Bb r5 a1)) (Int32.toInt64 (Bc r5 a1))) else -(Fo_u (Ps_n (nI k)) (Ps_s (Bg r5 a1) (Ba r5 a1) (nI k)) (Int32.toInt64 (Bb r5 a1)) (Int32.toInt64 (Bc r5 a1))))), (1, .int a1), (0, .ref 0)]) dX10_easiest_125 rfl (nI_1 _) (by decide) rfl ?_
        refine ab_goto 32 dX10_easiest_128 (by decide) ?_
        refine ab_pick [0, 1, 2, 3, 6, 7] rfl ?_
        rw [(itr_s (fun k s => lp_ea_st r5 a1 k s.1 s.2.1 s.2.2) n k (fo, up, dn)).trans (congrArg (itr (fun k s => lp_ea_st r5 a1 k s.1 s.2.1 s.2.2) n (k + 1)) (show lp_ea_st r5 a1 k fo up dn = ((nI k), (if 0 < (Fo_u (Ps_n (nI k)) (Ps_s (Bg r5 a1) (Ba r5 a1) (nI k)) (Int32.toInt64 (Bb r5 a1)) (Int32.toInt64 (Bc r5 a1))) then (Fo_u (Ps_n (nI k)) (Ps_s (Bg r5 a1) (Ba r5 a1) (nI k)) (Int32.toInt64 (Bb r5 a1)) (Int32.toInt64 (Bc r5 a1))) else -(Fo_u (Ps_n (nI k)) (Ps_s (Bg r5 a1) (Ba r5 a1) (nI k)) (Int32.toInt64 (Bb r5 a1)) (Int32.toInt64 (Bc r5 a1)))), (Fo_l (Ps_n (nI k)) (Int32.toInt64 (Bb r5 a1)) (Int32.toInt64 (Bc r5 a1)))) from by rw [lp_ea_st, if_pos (show fo = (-2) from h_2), if_pos (show 0 < (Ps_s (Bg r5 a1) (Ba r5 a1) (nI k)) ∧ 0 ≤ (Ps_k (Bg r5 a1) (Ba r5 a1) (Bb r5 a1) (Bc r5 a1) (nI k)) from c_3)]))] at hx
        exact ih (k + 1) (nI k) (if 0 < (Fo_u (Ps_n (nI k)) (Ps_s (Bg r5 a1) (Ba r5 a1) (nI k)) (Int32.toInt64 (Bb r5 a1)) (Int32.toInt64 (Bc r5 a1))) then (Fo_u (Ps_n (nI k)) (Ps_s (Bg r5 a1) (Ba r5 a1) (nI k)) (Int32.toInt64 (Bb r5 a1)) (Int32.toInt64 (Bc r5 a1))) else -(Fo_u (Ps_n (nI k)) (Ps_s (Bg r5 a1) (Ba r5 a1) (nI k)) (Int32.toInt64 (Bb r5 a1)) (Int32.toInt64 (Bc r5 a1)))) (Fo_l (Ps_n (nI k)) (Int32.toInt64 (Bb r5 a1)) (Int32.toInt64 (Bc r5 a1))) (fun i => [(Ps_n (nI k)), (Ps_d (nI k)), (Ps_s (Bg r5 a1) (Ba r5 a1) (nI k)), (Ps_k (Bg r5 a1) (Ba r5 a1) (Bb r5 a1) (Bc r5 a1) (nI k)), (Int32.toInt64 (Bg r5 a1)), (Int32.toInt64 (Ba r5 a1)), (Int32.toInt64 (Bb r5 a1)), (Int32.toInt64 (Bc r5 a1)), (Ps_c (nI k)), (Ps_e (Bg r5 a1) (Ba r5 a1) (Bb r5 a1) (Bc r5 a1) (nI k)), (Ps_x (Bg r5 a1) (Ba r5 a1) (nI k)), (Ps_y (Ba r5 a1) (nI k)), (g 12), (g 13), (g 14), (g 15)].getD i 0) (by omega) hx
      · refine ab_ifeq 125 dX10_easiest_102 (by decide) (fun h_7 => ?_) (fun h_7 => absurd (by decide) h_7)
        refine ab_iinc (v := (nI (k + 1))) (la' := [(7, .int (nI (k + 1))), (10, .int 1), (8, .long (if 0 < (Fo_u (Ps_n (nI k)) (Ps_s (Bg r5 a1) (Ba r5 a1) (nI k)) (Int32.toInt64 (Bb r5 a1)) (Int32.toInt64 (Bc r5 a1))) then (Fo_u (Ps_n (nI k)) (Ps_s (Bg r5 a1) (Ba r5 a1) (nI k)) (Int32.toInt64 (Bb r5 a1)) (Int32.toInt64 (Bc r5 a1))) else -(Fo_u (Ps_n (nI k)) (Ps_s (Bg r5 a1) (Ba r5 a1) (nI k)) (Int32.toInt64 (Bb r5 a1)) (Int32.toInt64 (Bc r5 a1))))), (5, .long dn), (3, .long up), (2, .int fo), (1, .int a1), (0, .ref 0)]) dX10_easiest_125 rfl (nI_1 _) (by decide) rfl ?_
        refine ab_goto 32 dX10_easiest_128 (by decide) ?_
        refine ab_pick [0, 3, 4, 5, 6, 7] rfl ?_
        rw [(itr_s (fun k s => lp_ea_st r5 a1 k s.1 s.2.1 s.2.2) n k (fo, up, dn)).trans (congrArg (itr (fun k s => lp_ea_st r5 a1 k s.1 s.2.1 s.2.2) n (k + 1)) (show lp_ea_st r5 a1 k fo up dn = (fo, up, dn) from by rw [lp_ea_st, if_pos (show fo = (-2) from h_2), if_neg (show ¬ (0 < (Ps_s (Bg r5 a1) (Ba r5 a1) (nI k)) ∧ 0 ≤ (Ps_k (Bg r5 a1) (Ba r5 a1) (Bb r5 a1) (Bc r5 a1) (nI k))) from c_4)]))] at hx
        exact ih (k + 1) fo up dn (fun i => [(Ps_n (nI k)), (Ps_d (nI k)), (Ps_s (Bg r5 a1) (Ba r5 a1) (nI k)), (Ps_k (Bg r5 a1) (Ba r5 a1) (Bb r5 a1) (Bc r5 a1) (nI k)), (Int32.toInt64 (Bg r5 a1)), (Int32.toInt64 (Ba r5 a1)), (Int32.toInt64 (Bb r5 a1)), (Int32.toInt64 (Bc r5 a1)), (Ps_c (nI k)), (Ps_e (Bg r5 a1) (Ba r5 a1) (Bb r5 a1) (Bc r5 a1) (nI k)), (Ps_x (Bg r5 a1) (Ba r5 a1) (nI k)), (Ps_y (Ba r5 a1) (nI k)), (g 12), (g 13), (g 14), (g 15)].getD i 0) (by omega) hx
    · refine ab_lload dX10_easiest_70 rfl ?_
      refine ab_lload dX10_easiest_72 rfl ?_
      refine ab_lmul dX10_easiest_74 ?_
      refine ab_lload_n dX10_easiest_75 rfl ?_
      refine ab_aload_n dX10_easiest_76 rfl ?_
      refine ab_getf dX10_easiest_77 fl_X10_40 rfl rfl ?_
      refine ab_callV (As := []) (rest := [.long up, .long ((if 0 < (Fo_u (Ps_n (nI k)) (Ps_s (Bg r5 a1) (Ba r5 a1) (nI k)) (Int32.toInt64 (Bb r5 a1)) (Int32.toInt64 (Bc r5 a1))) then (Fo_u (Ps_n (nI k)) (Ps_s (Bg r5 a1) (Ba r5 a1) (nI k)) (Int32.toInt64 (Bb r5 a1)) (Int32.toInt64 (Bc r5 a1))) else -(Fo_u (Ps_n (nI k)) (Ps_s (Bg r5 a1) (Ba r5 a1) (nI k)) (Int32.toInt64 (Bb r5 a1)) (Int32.toInt64 (Bc r5 a1)))) * dn)]) dX10_easiest_80 mv_X5_forceLower ml_X10_233 ⟨by decide, by decide, rfl, rfl, rfl⟩ (by decide) rfl rfl (Nat.le_of_ble_eq_true rfl) rfl c_X5_forceLower ?_
      rintro r w' ⟨rfl, rfl⟩
      refine ab_lmul dX10_easiest_83 ?_
      refine ab_lcmpge 92 dX10_easiest_84 dX10_easiest_85 (by decide) (fun h_8 => ?_) (fun h_8 => ?_)
      · refine ab_iconst (v := 0) dX10_easiest_92 (by decide) ?_
        refine ab_istore (la' := [(10, .int 0), (8, .long (if 0 < (Fo_u (Ps_n (nI k)) (Ps_s (Bg r5 a1) (Ba r5 a1) (nI k)) (Int32.toInt64 (Bb r5 a1)) (Int32.toInt64 (Bc r5 a1))) then (Fo_u (Ps_n (nI k)) (Ps_s (Bg r5 a1) (Ba r5 a1) (nI k)) (Int32.toInt64 (Bb r5 a1)) (Int32.toInt64 (Bc r5 a1))) else -(Fo_u (Ps_n (nI k)) (Ps_s (Bg r5 a1) (Ba r5 a1) (nI k)) (Int32.toInt64 (Bb r5 a1)) (Int32.toInt64 (Bc r5 a1))))), (7, .int (nI k)), (5, .long dn), (3, .long up), (2, .int fo), (1, .int a1), (0, .ref 0)]) dX10_easiest_93 (by decide) rfl ?_
        refine ab_aload_n dX10_easiest_95 rfl ?_
        refine ab_getf dX10_easiest_96 fl_X10_40 rfl rfl ?_
        refine ab_callV (As := []) (rest := []) dX10_easiest_99 mv_X5_isLawful ml_X10_203 ⟨by decide, by decide, rfl, rfl, rfl⟩ (by decide) rfl rfl (Nat.le_of_ble_eq_true rfl) rfl c_X5_isLawful ?_
        rintro r w' (⟨c_9, rfl, rfl⟩ | ⟨c_10, rfl, rfl⟩)
        · refine ab_ifeq 125 dX10_easiest_102 (by decide) (fun h_11 => absurd h_11 (by decide)) (fun h_11 => ?_)
          refine ab_iload dX10_easiest_105 rfl ?_
          refine ab_ifeq 125 dX10_easiest_107 (by decide) (fun h_12 => ?_) (fun h_12 => absurd (by decide) h_12)
          refine ab_iinc (v := (nI (k + 1))) (la' := [(7, .int (nI (k + 1))), (10, .int 0), (8, .long (if 0 < (Fo_u (Ps_n (nI k)) (Ps_s (Bg r5 a1) (Ba r5 a1) (nI k)) (Int32.toInt64 (Bb r5 a1)) (Int32.toInt64 (Bc r5 a1))) then (Fo_u (Ps_n (nI k)) (Ps_s (Bg r5 a1) (Ba r5 a1) (nI k)) (Int32.toInt64 (Bb r5 a1)) (Int32.toInt64 (Bc r5 a1))) else -(Fo_u (Ps_n (nI k)) (Ps_s (Bg r5 a1) (Ba r5 a1) (nI k)) (Int32.toInt64 (Bb r5 a1)) (Int32.toInt64 (Bc r5 a1))))), (5, .long dn), (3, .long up), (2, .int fo), (1, .int a1), (0, .ref 0)]) dX10_easiest_125 rfl (nI_1 _) (by decide) rfl ?_
          refine ab_goto 32 dX10_easiest_128 (by decide) ?_
          refine ab_pick [0, 3, 4, 5, 6, 7] rfl ?_
          rw [(itr_s (fun k s => lp_ea_st r5 a1 k s.1 s.2.1 s.2.2) n k (fo, up, dn)).trans (congrArg (itr (fun k s => lp_ea_st r5 a1 k s.1 s.2.1 s.2.2) n (k + 1)) (show lp_ea_st r5 a1 k fo up dn = (fo, up, dn) from by rw [lp_ea_st, if_neg (show ¬ fo = (-2) from h_2), if_pos (show (up * (Fo_l (Ps_n (nI k)) (Int32.toInt64 (Bb r5 a1)) (Int32.toInt64 (Bc r5 a1)))) ≤ ((if 0 < (Fo_u (Ps_n (nI k)) (Ps_s (Bg r5 a1) (Ba r5 a1) (nI k)) (Int32.toInt64 (Bb r5 a1)) (Int32.toInt64 (Bc r5 a1))) then (Fo_u (Ps_n (nI k)) (Ps_s (Bg r5 a1) (Ba r5 a1) (nI k)) (Int32.toInt64 (Bb r5 a1)) (Int32.toInt64 (Bc r5 a1))) else -(Fo_u (Ps_n (nI k)) (Ps_s (Bg r5 a1) (Ba r5 a1) (nI k)) (Int32.toInt64 (Bb r5 a1)) (Int32.toInt64 (Bc r5 a1)))) * dn) from h_8), if_pos (show 0 < (Ps_s (Bg r5 a1) (Ba r5 a1) (nI k)) ∧ 0 ≤ (Ps_k (Bg r5 a1) (Ba r5 a1) (Bb r5 a1) (Bc r5 a1) (nI k)) from c_9)]))] at hx
          exact ih (k + 1) fo up dn (fun i => [(Ps_n (nI k)), (Ps_d (nI k)), (Ps_s (Bg r5 a1) (Ba r5 a1) (nI k)), (Ps_k (Bg r5 a1) (Ba r5 a1) (Bb r5 a1) (Bc r5 a1) (nI k)), (Int32.toInt64 (Bg r5 a1)), (Int32.toInt64 (Ba r5 a1)), (Int32.toInt64 (Bb r5 a1)), (Int32.toInt64 (Bc r5 a1)), (Ps_c (nI k)), (Ps_e (Bg r5 a1) (Ba r5 a1) (Bb r5 a1) (Bc r5 a1) (nI k)), (Ps_x (Bg r5 a1) (Ba r5 a1) (nI k)), (Ps_y (Ba r5 a1) (nI k)), (g 12), (g 13), (g 14), (g 15)].getD i 0) (by omega) hx
        · refine ab_ifeq 125 dX10_easiest_102 (by decide) (fun h_13 => ?_) (fun h_13 => absurd (by decide) h_13)
          refine ab_iinc (v := (nI (k + 1))) (la' := [(7, .int (nI (k + 1))), (10, .int 0), (8, .long (if 0 < (Fo_u (Ps_n (nI k)) (Ps_s (Bg r5 a1) (Ba r5 a1) (nI k)) (Int32.toInt64 (Bb r5 a1)) (Int32.toInt64 (Bc r5 a1))) then (Fo_u (Ps_n (nI k)) (Ps_s (Bg r5 a1) (Ba r5 a1) (nI k)) (Int32.toInt64 (Bb r5 a1)) (Int32.toInt64 (Bc r5 a1))) else -(Fo_u (Ps_n (nI k)) (Ps_s (Bg r5 a1) (Ba r5 a1) (nI k)) (Int32.toInt64 (Bb r5 a1)) (Int32.toInt64 (Bc r5 a1))))), (5, .long dn), (3, .long up), (2, .int fo), (1, .int a1), (0, .ref 0)]) dX10_easiest_125 rfl (nI_1 _) (by decide) rfl ?_
          refine ab_goto 32 dX10_easiest_128 (by decide) ?_
          refine ab_pick [0, 3, 4, 5, 6, 7] rfl ?_
          rw [(itr_s (fun k s => lp_ea_st r5 a1 k s.1 s.2.1 s.2.2) n k (fo, up, dn)).trans (congrArg (itr (fun k s => lp_ea_st r5 a1 k s.1 s.2.1 s.2.2) n (k + 1)) (show lp_ea_st r5 a1 k fo up dn = (fo, up, dn) from by rw [lp_ea_st, if_neg (show ¬ fo = (-2) from h_2), if_pos (show (up * (Fo_l (Ps_n (nI k)) (Int32.toInt64 (Bb r5 a1)) (Int32.toInt64 (Bc r5 a1)))) ≤ ((if 0 < (Fo_u (Ps_n (nI k)) (Ps_s (Bg r5 a1) (Ba r5 a1) (nI k)) (Int32.toInt64 (Bb r5 a1)) (Int32.toInt64 (Bc r5 a1))) then (Fo_u (Ps_n (nI k)) (Ps_s (Bg r5 a1) (Ba r5 a1) (nI k)) (Int32.toInt64 (Bb r5 a1)) (Int32.toInt64 (Bc r5 a1))) else -(Fo_u (Ps_n (nI k)) (Ps_s (Bg r5 a1) (Ba r5 a1) (nI k)) (Int32.toInt64 (Bb r5 a1)) (Int32.toInt64 (Bc r5 a1)))) * dn) from h_8), if_neg (show ¬ (0 < (Ps_s (Bg r5 a1) (Ba r5 a1) (nI k)) ∧ 0 ≤ (Ps_k (Bg r5 a1) (Ba r5 a1) (Bb r5 a1) (Bc r5 a1) (nI k))) from c_10)]))] at hx
          exact ih (k + 1) fo up dn (fun i => [(Ps_n (nI k)), (Ps_d (nI k)), (Ps_s (Bg r5 a1) (Ba r5 a1) (nI k)), (Ps_k (Bg r5 a1) (Ba r5 a1) (Bb r5 a1) (Bc r5 a1) (nI k)), (Int32.toInt64 (Bg r5 a1)), (Int32.toInt64 (Ba r5 a1)), (Int32.toInt64 (Bb r5 a1)), (Int32.toInt64 (Bc r5 a1)), (Ps_c (nI k)), (Ps_e (Bg r5 a1) (Ba r5 a1) (Bb r5 a1) (Bc r5 a1) (nI k)), (Ps_x (Bg r5 a1) (Ba r5 a1) (nI k)), (Ps_y (Ba r5 a1) (nI k)), (g 12), (g 13), (g 14), (g 15)].getD i 0) (by omega) hx
      · refine ab_iconst (v := 1) dX10_easiest_88 (by decide) ?_
        refine ab_goto 93 dX10_easiest_89 (by decide) ?_
        refine ab_istore (la' := [(10, .int 1), (8, .long (if 0 < (Fo_u (Ps_n (nI k)) (Ps_s (Bg r5 a1) (Ba r5 a1) (nI k)) (Int32.toInt64 (Bb r5 a1)) (Int32.toInt64 (Bc r5 a1))) then (Fo_u (Ps_n (nI k)) (Ps_s (Bg r5 a1) (Ba r5 a1) (nI k)) (Int32.toInt64 (Bb r5 a1)) (Int32.toInt64 (Bc r5 a1))) else -(Fo_u (Ps_n (nI k)) (Ps_s (Bg r5 a1) (Ba r5 a1) (nI k)) (Int32.toInt64 (Bb r5 a1)) (Int32.toInt64 (Bc r5 a1))))), (7, .int (nI k)), (5, .long dn), (3, .long up), (2, .int fo), (1, .int a1), (0, .ref 0)]) dX10_easiest_93 (by decide) rfl ?_
        refine ab_aload_n dX10_easiest_95 rfl ?_
        refine ab_getf dX10_easiest_96 fl_X10_40 rfl rfl ?_
        refine ab_callV (As := []) (rest := []) dX10_easiest_99 mv_X5_isLawful ml_X10_203 ⟨by decide, by decide, rfl, rfl, rfl⟩ (by decide) rfl rfl (Nat.le_of_ble_eq_true rfl) rfl c_X5_isLawful ?_
        rintro r w' (⟨c_14, rfl, rfl⟩ | ⟨c_15, rfl, rfl⟩)
        · refine ab_ifeq 125 dX10_easiest_102 (by decide) (fun h_16 => absurd h_16 (by decide)) (fun h_16 => ?_)
          refine ab_iload dX10_easiest_105 rfl ?_
          refine ab_ifeq 125 dX10_easiest_107 (by decide) (fun h_17 => absurd h_17 (by decide)) (fun h_17 => ?_)
          refine ab_iload dX10_easiest_110 rfl ?_
          refine ab_istore_n (la' := [(2, .int (nI k)), (10, .int 1), (8, .long (if 0 < (Fo_u (Ps_n (nI k)) (Ps_s (Bg r5 a1) (Ba r5 a1) (nI k)) (Int32.toInt64 (Bb r5 a1)) (Int32.toInt64 (Bc r5 a1))) then (Fo_u (Ps_n (nI k)) (Ps_s (Bg r5 a1) (Ba r5 a1) (nI k)) (Int32.toInt64 (Bb r5 a1)) (Int32.toInt64 (Bc r5 a1))) else -(Fo_u (Ps_n (nI k)) (Ps_s (Bg r5 a1) (Ba r5 a1) (nI k)) (Int32.toInt64 (Bb r5 a1)) (Int32.toInt64 (Bc r5 a1))))), (7, .int (nI k)), (5, .long dn), (3, .long up), (1, .int a1), (0, .ref 0)]) dX10_easiest_112 (by decide) rfl ?_
          refine ab_lload dX10_easiest_113 rfl ?_
          refine ab_lstore_n (la' := [(3, .long (if 0 < (Fo_u (Ps_n (nI k)) (Ps_s (Bg r5 a1) (Ba r5 a1) (nI k)) (Int32.toInt64 (Bb r5 a1)) (Int32.toInt64 (Bc r5 a1))) then (Fo_u (Ps_n (nI k)) (Ps_s (Bg r5 a1) (Ba r5 a1) (nI k)) (Int32.toInt64 (Bb r5 a1)) (Int32.toInt64 (Bc r5 a1))) else -(Fo_u (Ps_n (nI k)) (Ps_s (Bg r5 a1) (Ba r5 a1) (nI k)) (Int32.toInt64 (Bb r5 a1)) (Int32.toInt64 (Bc r5 a1))))), (2, .int (nI k)), (10, .int 1), (8, .long (if 0 < (Fo_u (Ps_n (nI k)) (Ps_s (Bg r5 a1) (Ba r5 a1) (nI k)) (Int32.toInt64 (Bb r5 a1)) (Int32.toInt64 (Bc r5 a1))) then (Fo_u (Ps_n (nI k)) (Ps_s (Bg r5 a1) (Ba r5 a1) (nI k)) (Int32.toInt64 (Bb r5 a1)) (Int32.toInt64 (Bc r5 a1))) else -(Fo_u (Ps_n (nI k)) (Ps_s (Bg r5 a1) (Ba r5 a1) (nI k)) (Int32.toInt64 (Bb r5 a1)) (Int32.toInt64 (Bc r5 a1))))), (7, .int (nI k)), (5, .long dn), (1, .int a1), (0, .ref 0)]) dX10_easiest_115 (by decide) rfl ?_
          refine ab_aload_n dX10_easiest_116 rfl ?_
          refine ab_getf dX10_easiest_117 fl_X10_40 rfl rfl ?_
          refine ab_callV (As := []) (rest := []) dX10_easiest_120 mv_X5_forceLower ml_X10_233 ⟨by decide, by decide, rfl, rfl, rfl⟩ (by decide) rfl rfl (Nat.le_of_ble_eq_true rfl) rfl c_X5_forceLower ?_
          rintro r w' ⟨rfl, rfl⟩
          refine ab_lstore (la' := [(5, .long (Fo_l (Ps_n (nI k)) (Int32.toInt64 (Bb r5 a1)) (Int32.toInt64 (Bc r5 a1)))), (3, .long (if 0 < (Fo_u (Ps_n (nI k)) (Ps_s (Bg r5 a1) (Ba r5 a1) (nI k)) (Int32.toInt64 (Bb r5 a1)) (Int32.toInt64 (Bc r5 a1))) then (Fo_u (Ps_n (nI k)) (Ps_s (Bg r5 a1) (Ba r5 a1) (nI k)) (Int32.toInt64 (Bb r5 a1)) (Int32.toInt64 (Bc r5 a1))) else -(Fo_u (Ps_n (nI k)) (Ps_s (Bg r5 a1) (Ba r5 a1) (nI k)) (Int32.toInt64 (Bb r5 a1)) (Int32.toInt64 (Bc r5 a1))))), (2, .int (nI k)), (10, .int 1), (8, .long (if 0 < (Fo_u (Ps_n (nI k)) (Ps_s (Bg r5 a1) (Ba r5 a1) (nI k)) (Int32.toInt64 (Bb r5 a1)) (Int32.toInt64 (Bc r5 a1))) then (Fo_u (Ps_n (nI k)) (Ps_s (Bg r5 a1) (Ba r5 a1) (nI k)) (Int32.toInt64 (Bb r5 a1)) (Int32.toInt64 (Bc r5 a1))) else -(Fo_u (Ps_n (nI k)) (Ps_s (Bg r5 a1) (Ba r5 a1) (nI k)) (Int32.toInt64 (Bb r5 a1)) (Int32.toInt64 (Bc r5 a1))))), (7, .int (nI k)), (1, .int a1), (0, .ref 0)]) dX10_easiest_123 (by decide) rfl ?_
          refine ab_iinc (v := (nI (k + 1))) (la' := [(7, .int (nI (k + 1))), (5, .long (Fo_l (Ps_n (nI k)) (Int32.toInt64 (Bb r5 a1)) (Int32.toInt64 (Bc r5 a1)))), (3, .long (if 0 < (Fo_u (Ps_n (nI k)) (Ps_s (Bg r5 a1) (Ba r5 a1) (nI k)) (Int32.toInt64 (Bb r5 a1)) (Int32.toInt64 (Bc r5 a1))) then (Fo_u (Ps_n (nI k)) (Ps_s (Bg r5 a1) (Ba r5 a1) (nI k)) (Int32.toInt64 (Bb r5 a1)) (Int32.toInt64 (Bc r5 a1))) else -(Fo_u (Ps_n (nI k)) (Ps_s (Bg r5 a1) (Ba r5 a1) (nI k)) (Int32.toInt64 (Bb r5 a1)) (Int32.toInt64 (Bc r5 a1))))), (2, .int (nI k)), (10, .int 1), (8, .long (if 0 < (Fo_u (Ps_n (nI k)) (Ps_s (Bg r5 a1) (Ba r5 a1) (nI k)) (Int32.toInt64 (Bb r5 a1)) (Int32.toInt64 (Bc r5 a1))) then (Fo_u (Ps_n (nI k)) (Ps_s (Bg r5 a1) (Ba r5 a1) (nI k)) (Int32.toInt64 (Bb r5 a1)) (Int32.toInt64 (Bc r5 a1))) else -(Fo_u (Ps_n (nI k)) (Ps_s (Bg r5 a1) (Ba r5 a1) (nI k)) (Int32.toInt64 (Bb r5 a1)) (Int32.toInt64 (Bc r5 a1))))), (1, .int a1), (0, .ref 0)]) dX10_easiest_125 rfl (nI_1 _) (by decide) rfl ?_
          refine ab_goto 32 dX10_easiest_128 (by decide) ?_
          refine ab_pick [0, 1, 2, 3, 6, 7] rfl ?_
          rw [(itr_s (fun k s => lp_ea_st r5 a1 k s.1 s.2.1 s.2.2) n k (fo, up, dn)).trans (congrArg (itr (fun k s => lp_ea_st r5 a1 k s.1 s.2.1 s.2.2) n (k + 1)) (show lp_ea_st r5 a1 k fo up dn = ((nI k), (if 0 < (Fo_u (Ps_n (nI k)) (Ps_s (Bg r5 a1) (Ba r5 a1) (nI k)) (Int32.toInt64 (Bb r5 a1)) (Int32.toInt64 (Bc r5 a1))) then (Fo_u (Ps_n (nI k)) (Ps_s (Bg r5 a1) (Ba r5 a1) (nI k)) (Int32.toInt64 (Bb r5 a1)) (Int32.toInt64 (Bc r5 a1))) else -(Fo_u (Ps_n (nI k)) (Ps_s (Bg r5 a1) (Ba r5 a1) (nI k)) (Int32.toInt64 (Bb r5 a1)) (Int32.toInt64 (Bc r5 a1)))), (Fo_l (Ps_n (nI k)) (Int32.toInt64 (Bb r5 a1)) (Int32.toInt64 (Bc r5 a1)))) from by rw [lp_ea_st, if_neg (show ¬ fo = (-2) from h_2), if_neg (show ¬ (up * (Fo_l (Ps_n (nI k)) (Int32.toInt64 (Bb r5 a1)) (Int32.toInt64 (Bc r5 a1)))) ≤ ((if 0 < (Fo_u (Ps_n (nI k)) (Ps_s (Bg r5 a1) (Ba r5 a1) (nI k)) (Int32.toInt64 (Bb r5 a1)) (Int32.toInt64 (Bc r5 a1))) then (Fo_u (Ps_n (nI k)) (Ps_s (Bg r5 a1) (Ba r5 a1) (nI k)) (Int32.toInt64 (Bb r5 a1)) (Int32.toInt64 (Bc r5 a1))) else -(Fo_u (Ps_n (nI k)) (Ps_s (Bg r5 a1) (Ba r5 a1) (nI k)) (Int32.toInt64 (Bb r5 a1)) (Int32.toInt64 (Bc r5 a1)))) * dn) from h_8), if_pos (show 0 < (Ps_s (Bg r5 a1) (Ba r5 a1) (nI k)) ∧ 0 ≤ (Ps_k (Bg r5 a1) (Ba r5 a1) (Bb r5 a1) (Bc r5 a1) (nI k)) from c_14)]))] at hx
          exact ih (k + 1) (nI k) (if 0 < (Fo_u (Ps_n (nI k)) (Ps_s (Bg r5 a1) (Ba r5 a1) (nI k)) (Int32.toInt64 (Bb r5 a1)) (Int32.toInt64 (Bc r5 a1))) then (Fo_u (Ps_n (nI k)) (Ps_s (Bg r5 a1) (Ba r5 a1) (nI k)) (Int32.toInt64 (Bb r5 a1)) (Int32.toInt64 (Bc r5 a1))) else -(Fo_u (Ps_n (nI k)) (Ps_s (Bg r5 a1) (Ba r5 a1) (nI k)) (Int32.toInt64 (Bb r5 a1)) (Int32.toInt64 (Bc r5 a1)))) (Fo_l (Ps_n (nI k)) (Int32.toInt64 (Bb r5 a1)) (Int32.toInt64 (Bc r5 a1))) (fun i => [(Ps_n (nI k)), (Ps_d (nI k)), (Ps_s (Bg r5 a1) (Ba r5 a1) (nI k)), (Ps_k (Bg r5 a1) (Ba r5 a1) (Bb r5 a1) (Bc r5 a1) (nI k)), (Int32.toInt64 (Bg r5 a1)), (Int32.toInt64 (Ba r5 a1)), (Int32.toInt64 (Bb r5 a1)), (Int32.toInt64 (Bc r5 a1)), (Ps_c (nI k)), (Ps_e (Bg r5 a1) (Ba r5 a1) (Bb r5 a1) (Bc r5 a1) (nI k)), (Ps_x (Bg r5 a1) (Ba r5 a1) (nI k)), (Ps_y (Ba r5 a1) (nI k)), (g 12), (g 13), (g 14), (g 15)].getD i 0) (by omega) hx
        · refine ab_ifeq 125 dX10_easiest_102 (by decide) (fun h_18 => ?_) (fun h_18 => absurd (by decide) h_18)
          refine ab_iinc (v := (nI (k + 1))) (la' := [(7, .int (nI (k + 1))), (10, .int 1), (8, .long (if 0 < (Fo_u (Ps_n (nI k)) (Ps_s (Bg r5 a1) (Ba r5 a1) (nI k)) (Int32.toInt64 (Bb r5 a1)) (Int32.toInt64 (Bc r5 a1))) then (Fo_u (Ps_n (nI k)) (Ps_s (Bg r5 a1) (Ba r5 a1) (nI k)) (Int32.toInt64 (Bb r5 a1)) (Int32.toInt64 (Bc r5 a1))) else -(Fo_u (Ps_n (nI k)) (Ps_s (Bg r5 a1) (Ba r5 a1) (nI k)) (Int32.toInt64 (Bb r5 a1)) (Int32.toInt64 (Bc r5 a1))))), (5, .long dn), (3, .long up), (2, .int fo), (1, .int a1), (0, .ref 0)]) dX10_easiest_125 rfl (nI_1 _) (by decide) rfl ?_
          refine ab_goto 32 dX10_easiest_128 (by decide) ?_
          refine ab_pick [0, 3, 4, 5, 6, 7] rfl ?_
          rw [(itr_s (fun k s => lp_ea_st r5 a1 k s.1 s.2.1 s.2.2) n k (fo, up, dn)).trans (congrArg (itr (fun k s => lp_ea_st r5 a1 k s.1 s.2.1 s.2.2) n (k + 1)) (show lp_ea_st r5 a1 k fo up dn = (fo, up, dn) from by rw [lp_ea_st, if_neg (show ¬ fo = (-2) from h_2), if_neg (show ¬ (up * (Fo_l (Ps_n (nI k)) (Int32.toInt64 (Bb r5 a1)) (Int32.toInt64 (Bc r5 a1)))) ≤ ((if 0 < (Fo_u (Ps_n (nI k)) (Ps_s (Bg r5 a1) (Ba r5 a1) (nI k)) (Int32.toInt64 (Bb r5 a1)) (Int32.toInt64 (Bc r5 a1))) then (Fo_u (Ps_n (nI k)) (Ps_s (Bg r5 a1) (Ba r5 a1) (nI k)) (Int32.toInt64 (Bb r5 a1)) (Int32.toInt64 (Bc r5 a1))) else -(Fo_u (Ps_n (nI k)) (Ps_s (Bg r5 a1) (Ba r5 a1) (nI k)) (Int32.toInt64 (Bb r5 a1)) (Int32.toInt64 (Bc r5 a1)))) * dn) from h_8), if_neg (show ¬ (0 < (Ps_s (Bg r5 a1) (Ba r5 a1) (nI k)) ∧ 0 ≤ (Ps_k (Bg r5 a1) (Ba r5 a1) (Bb r5 a1) (Bc r5 a1) (nI k))) from c_15)]))] at hx
          exact ih (k + 1) fo up dn (fun i => [(Ps_n (nI k)), (Ps_d (nI k)), (Ps_s (Bg r5 a1) (Ba r5 a1) (nI k)), (Ps_k (Bg r5 a1) (Ba r5 a1) (Bb r5 a1) (Bc r5 a1) (nI k)), (Int32.toInt64 (Bg r5 a1)), (Int32.toInt64 (Ba r5 a1)), (Int32.toInt64 (Bb r5 a1)), (Int32.toInt64 (Bc r5 a1)), (Ps_c (nI k)), (Ps_e (Bg r5 a1) (Ba r5 a1) (Bb r5 a1) (Bc r5 a1) (nI k)), (Ps_x (Bg r5 a1) (Ba r5 a1) (nI k)), (Ps_y (Ba r5 a1) (nI k)), (g 12), (g 13), (g 14), (g 15)].getD i 0) (by omega) hx
theorem c_X10_easiest {f0_0 f10_0 f10_1 f10_2 f10_3 a1 : Int32} {x1 x2 x3 x7 x8 x9 x12 x13 x14 x15 x16 x17 x18 x19 x20 x21 x22 x23 x24 x25 x26 x27 x28 x29 x30 x31 x32 : ax_E} {r5 r6 : Nat → Int32} {f11_0 f11_1 f11_2 f11_3 f11_4 f11_5 f11_6 f11_7 f11_8 f11_9 f11_10 f11_11 f11_12 f11_13 f11_14 f11_15 : Int64} {wm : List ax_E} (h_c : r6 0 ≤ nI 4) : Ct M_X10_easiest [.ref 0, .int a1] ([ob 8 [.int f0_0, .ref 1, .ref 4, .ref 7, .ref 10, .ref 11, .ref 12, .ref 18, .ref 25, .ref 29], x1, x2, x3, ob 2 [.ref 5, .ref 6], ia 56 r5, ia 4 r6, x7, x8, x9, ob 3 [.int f10_0, .int f10_1, .int f10_2, .int f10_3], ob 5 [.long f11_0, .long f11_1, .long f11_2, .long f11_3, .long f11_4, .long f11_5, .long f11_6, .long f11_7, .long f11_8, .long f11_9, .long f11_10, .long f11_11, .long f11_12, .long f11_13, .long f11_14, .long f11_15], x12, x13, x14, x15, x16, x17, x18, x19, x20, x21, x22, x23, x24, x25, x26, x27, x28, x29, x30, x31, x32], wm) (fun r w' => (∃ g_4 : Nat → Int64, (0 ≤ a1 ∧ a1 < r6 0) ∧ r = some (.int ((itr (fun k s => lp_ea_st r5 a1 k s.1 s.2.1 s.2.2) 40 0 ((-2), 0, 1)).1)) ∧ w' = ([ob 8 [.int 0, .ref 1, .ref 4, .ref 7, .ref 10, .ref 11, .ref 12, .ref 18, .ref 25, .ref 29], x1, x2, x3, ob 2 [.ref 5, .ref 6], ia 56 r5, ia 4 r6, x7, x8, x9, ob 3 [.int (Bg r5 a1), .int (Ba r5 a1), .int (Bb r5 a1), .int (Bc r5 a1)], ob 5 [.long (g_4 0), .long (g_4 1), .long (g_4 2), .long (g_4 3), .long (g_4 4), .long (g_4 5), .long (g_4 6), .long (g_4 7), .long (g_4 8), .long (g_4 9), .long (g_4 10), .long (g_4 11), .long (g_4 12), .long (g_4 13), .long (g_4 14), .long (g_4 15)], x12, x13, x14, x15, x16, x17, x18, x19, x20, x21, x22, x23, x24, x25, x26, x27, x28, x29, x30, x31, x32], wm)) ∨ ((¬ (0 ≤ a1 ∧ a1 < r6 0)) ∧ r = some (.int (-1)) ∧ w' = ([ob 8 [.int 1, .ref 1, .ref 4, .ref 7, .ref 10, .ref 11, .ref 12, .ref 18, .ref 25, .ref 29], x1, x2, x3, ob 2 [.ref 5, .ref 6], ia 56 r5, ia 4 r6, x7, x8, x9, ob 3 [.int f10_0, .int f10_1, .int f10_2, .int f10_3], ob 5 [.long f11_0, .long f11_1, .long f11_2, .long f11_3, .long f11_4, .long f11_5, .long f11_6, .long f11_7, .long f11_8, .long f11_9, .long f11_10, .long f11_11, .long f11_12, .long f11_13, .long f11_14, .long f11_15], x12, x13, x14, x15, x16, x17, x18, x19, x20, x21, x22, x23, x24, x25, x26, x27, x28, x29, x30, x31, x32], wm))) := by
  refine ct_of ⟨by decide, rfl⟩ (Nat.le_of_ble_eq_true rfl) ?_
  refine ab_aload_n dX10_easiest_0 rfl ?_
  refine ab_aload_n dX10_easiest_1 rfl ?_
  refine ab_iload_n dX10_easiest_2 rfl ?_
  refine ab_callV (As := [.int a1]) (rest := [.ref 0]) dX10_easiest_3 mv_X10_hasLinkage ml_X10_133 ⟨by decide, by decide, rfl, rfl, rfl⟩ (by decide) rfl rfl (Nat.le_of_ble_eq_true rfl) rfl c_X10_hasLinkage ?_
  rintro r w' (⟨c_1, rfl, rfl⟩ | ⟨c_2, rfl, rfl⟩)
  · refine ab_iconst (v := 1) dX10_easiest_6 (by decide) ?_
    refine ab_callV (As := [.int 1, .int 1]) (rest := []) dX10_easiest_7 mv_X10_refused ml_X10_84 ⟨by decide, by decide, rfl, rfl, rfl⟩ (by decide) rfl rfl (Nat.le_of_ble_eq_true rfl) rfl c_X10_refused_1 ?_
    rintro r w' ⟨rfl, rfl⟩
    refine ab_ifeq 15 dX10_easiest_10 (by decide) (fun h_3 => ?_) (fun h_3 => absurd (by decide) h_3)
    refine ab_aload_n dX10_easiest_15 rfl ?_
    refine ab_iload_n dX10_easiest_16 rfl ?_
    refine ab_callV (As := [.int a1]) (rest := []) dX10_easiest_17 mv_X10_linkageAt ml_X10_140 ⟨by decide, by decide, rfl, rfl, rfl⟩ (by decide) rfl rfl (Nat.le_of_ble_eq_true rfl) rfl (c_X10_linkageAt c_1 h_c) ?_
    rintro r w' ⟨rfl, rfl⟩
    refine ab_pop rfl dX10_easiest_20 ?_
    refine ab_bipush (v := -2) dX10_easiest_21 (by decide) ?_
    refine ab_istore_n (la' := [(2, .int (-2)), (0, .ref 0), (1, .int a1)]) dX10_easiest_23 (by decide) rfl ?_
    refine ab_lconst (v := 0) dX10_easiest_24 (by decide) ?_
    refine ab_lstore_n (la' := [(3, .long 0), (2, .int (-2)), (0, .ref 0), (1, .int a1)]) dX10_easiest_25 (by decide) rfl ?_
    refine ab_lconst (v := 1) dX10_easiest_26 (by decide) ?_
    refine ab_lstore (la' := [(5, .long 1), (3, .long 0), (2, .int (-2)), (0, .ref 0), (1, .int a1)]) dX10_easiest_27 (by decide) rfl ?_
    refine ab_iconst (v := 0) dX10_easiest_29 (by decide) ?_
    refine ab_istore (la' := [(7, .int 0), (5, .long 1), (3, .long 0), (2, .int (-2)), (0, .ref 0), (1, .int a1)]) dX10_easiest_30 (by decide) rfl ?_
    refine ab_pick [0, 1, 2, 3, 5, 4] rfl ?_
    refine lp_ea (B := 40) rfl 40 0 (-2) 0 1 (fun i => [f11_0, f11_1, f11_2, f11_3, f11_4, f11_5, f11_6, f11_7, f11_8, f11_9, f11_10, f11_11, f11_12, f11_13, f11_14, f11_15].getD i 0) (by omega) ?_
    intro g_4
    refine ab_iload_n dX10_easiest_131 rfl ?_
    exact ab_iret dX10_easiest_132 rfl (by decide) (Or.inl ⟨g_4, c_1, rfl, rfl⟩)
  · refine ab_iconst (v := 1) dX10_easiest_6 (by decide) ?_
    refine ab_callV (As := [.int 0, .int 1]) (rest := []) dX10_easiest_7 mv_X10_refused ml_X10_84 ⟨by decide, by decide, rfl, rfl, rfl⟩ (by decide) rfl rfl (Nat.le_of_ble_eq_true rfl) rfl c_X10_refused_0 ?_
    rintro r w' ⟨rfl, rfl⟩
    refine ab_ifeq 15 dX10_easiest_10 (by decide) (fun h_5 => absurd h_5 (by decide)) (fun h_5 => ?_)
    refine ab_iconst (v := -1) dX10_easiest_13 (by decide) ?_
    exact ab_iret dX10_easiest_14 rfl (by decide) (Or.inr (⟨c_2, rfl, rfl⟩))
def lp_met_st (r5 : Nat → Int32) (a3 : Int32) (a2 : Int32) (a1 : Int32) (a4 : Int32) (k : Nat)  (_ : Unit) : (Unit) ⊕ Int32 := (if 0 < (Ps_s (Bg r5 a1) (Ba r5 a1) (nI k)) ∧ 0 ≤ (Ps_k (Bg r5 a1) (Ba r5 a1) (Bb r5 a1) (Bc r5 a1) (nI k)) then (if IsW (Tr_ux (Ps_s (Bg r5 a1) (Ba r5 a1) (nI k)) (Int32.toInt64 (Ba r5 a1)) (Ps_c (nI k)) (Ps_e (Bg r5 a1) (Ba r5 a1) (Bb r5 a1) (Bc r5 a1) (nI k)) (Ps_x (Bg r5 a1) (Ba r5 a1) (nI k)) (Ps_y (Ba r5 a1) (nI k)) (Cm r5 a2) (Cq r5 a2)) (Tr_vx (Ps_x (Bg r5 a1) (Ba r5 a1) (nI k)) (Ps_y (Ba r5 a1) (nI k)) (Cm r5 a2) (Cq r5 a2) a3) (Ps_k (Bg r5 a1) (Ba r5 a1) (Bb r5 a1) (Bc r5 a1) (nI k)) (2 * (Ps_s (Bg r5 a1) (Ba r5 a1) (nI k)) * (Ps_n (nI k)) * Int32.toInt64 (Px r5 a4)) ∧ IsW (Tr_uy (Ps_d (nI k)) (Ps_s (Bg r5 a1) (Ba r5 a1) (nI k)) (Int32.toInt64 (Ba r5 a1)) (Ps_e (Bg r5 a1) (Ba r5 a1) (Bb r5 a1) (Bc r5 a1) (nI k)) (Ps_x (Bg r5 a1) (Ba r5 a1) (nI k)) (Ps_y (Ba r5 a1) (nI k)) (Cm r5 a2) (Cq r5 a2)) (Tr_vy (Ps_x (Bg r5 a1) (Ba r5 a1) (nI k)) (Ps_y (Ba r5 a1) (nI k)) (Cm r5 a2) (Cq r5 a2) a3) (Ps_k (Bg r5 a1) (Ba r5 a1) (Bb r5 a1) (Bc r5 a1) (nI k)) (2 * (Ps_s (Bg r5 a1) (Ba r5 a1) (nI k)) * (Ps_n (nI k)) * Int32.toInt64 (Py r5 a4)) then (.inr (nI k)) else (.inl ())) else (.inl ()))
set_option maxHeartbeats 400000 in
theorem lp_met {f0_0 a3 a2 a1 a4 : Int32} {x1 x2 x3 x7 x8 x9 x12 x13 x14 x15 x16 x17 x18 x19 x20 x21 x22 x23 x24 x25 x26 x27 x28 x29 x30 x31 x32 : ax_E} {r5 r6 : Nat → Int32} {wm : List ax_E} {Q : Option Value → ax_W → Prop} {B : Nat} (hB : B = 40) (h_i2 : 0 ≤ a2 ∧ a2 < r6 1) (h_c1 : r6 1 ≤ nI 4) (h_ok : ∀ k, k < 40 → lawP r5 a1 k → okS (cV0 r5 a1 (Cm r5 a2) (Cq r5 a2) a3 k) (pK r5 a1 k) ∧ okS (cV1 r5 a1 (Cm r5 a2) (Cq r5 a2) a3 k) (pK r5 a1 k) ∧ 0 < cW r5 a1 k) : ∀ (n k : Nat)  (g : Nat → Int64), k + n = B → (∀ (_ : (itx (lp_met_st r5 a3 a2 a1 a4) n k ()) = .inl ()) (g : Nat → Int64), Ab M_X10_met Q (0, 0) 154 [(7, .int (nI B)), (6, .int (Py r5 a4)), (5, .int (Px r5 a4)), (3, .int a3), (2, .int a2), (1, .int a1), (0, .ref 0)] [] ([ob 8 [.int f0_0, .ref 1, .ref 4, .ref 7, .ref 10, .ref 11, .ref 12, .ref 18, .ref 25, .ref 29], x1, x2, x3, ob 2 [.ref 5, .ref 6], ia 56 r5, ia 4 r6, x7, x8, x9, ob 3 [.int (Bg r5 a1), .int (Ba r5 a1), .int (Bb r5 a1), .int (Bc r5 a1)], ob 5 [.long (g 0), .long (g 1), .long (g 2), .long (g 3), .long (g 4), .long (g 5), .long (g 6), .long (g 7), .long (g 8), .long (g 9), .long (g 10), .long (g 11), .long (g 12), .long (g 13), .long (g 14), .long (g 15)], x12, x13, x14, x15, x16, x17, x18, x19, x20, x21, x22, x23, x24, x25, x26, x27, x28, x29, x30, x31, x32], wm)) → (∀ r : Int32, (itx (lp_met_st r5 a3 a2 a1 a4) n k ()) = .inr r → ∀ (g : Nat → Int64), Q (some (.int r)) ([ob 8 [.int f0_0, .ref 1, .ref 4, .ref 7, .ref 10, .ref 11, .ref 12, .ref 18, .ref 25, .ref 29], x1, x2, x3, ob 2 [.ref 5, .ref 6], ia 56 r5, ia 4 r6, x7, x8, x9, ob 3 [.int (Bg r5 a1), .int (Ba r5 a1), .int (Bb r5 a1), .int (Bc r5 a1)], ob 5 [.long (g 0), .long (g 1), .long (g 2), .long (g 3), .long (g 4), .long (g 5), .long (g 6), .long (g 7), .long (g 8), .long (g 9), .long (g 10), .long (g 11), .long (g 12), .long (g 13), .long (g 14), .long (g 15)], x12, x13, x14, x15, x16, x17, x18, x19, x20, x21, x22, x23, x24, x25, x26, x27, x28, x29, x30, x31, x32], wm)) → Ab M_X10_met Q (0, 0) 73 [(7, .int (nI k)), (6, .int (Py r5 a4)), (5, .int (Px r5 a4)), (3, .int a3), (2, .int a2), (1, .int a1), (0, .ref 0)] [] ([ob 8 [.int f0_0, .ref 1, .ref 4, .ref 7, .ref 10, .ref 11, .ref 12, .ref 18, .ref 25, .ref 29], x1, x2, x3, ob 2 [.ref 5, .ref 6], ia 56 r5, ia 4 r6, x7, x8, x9, ob 3 [.int (Bg r5 a1), .int (Ba r5 a1), .int (Bb r5 a1), .int (Bc r5 a1)], ob 5 [.long (g 0), .long (g 1), .long (g 2), .long (g 3), .long (g 4), .long (g 5), .long (g 6), .long (g 7), .long (g 8), .long (g 9), .long (g 10), .long (g 11), .long (g 12), .long (g 13), .long (g 14), .long (g 15)], x12, x13, x14, x15, x16, x17, x18, x19, x20, x21, x22, x23, x24, x25, x26, x27, x28, x29, x30, x31, x32], wm) := by
  intro n
  induction n with
  | zero =>
    intro k  g hk hx hr
    have hE0 := itx_0 (lp_met_st r5 a3 a2 a1 a4) k ()
    rw [show k = B by omega]
    refine ab_iload dX10_met_73 rfl ?_
    refine ab_bipush (v := 40) dX10_met_75 (by decide) ?_
    refine ab_icmpge 154 dX10_met_77 (by decide) (fun h_1 => ?_) (fun h_1 => absurd (nI_le (a := 40) (by omega) (by omega)) h_1)
    refine ab_pick [0, 1, 2, 3, 4, 5, 6] rfl ?_
    exact hx  hE0 g
  | succ n ih =>
    intro k  g hk hx hr
    have hkk : 0 ≤ nI k ∧ nI k < 40 := ⟨nI_pos' (by omega), nI_lt (b := 40) (by omega) (by decide)⟩
    refine ab_iload dX10_met_73 rfl ?_
    refine ab_bipush (v := 40) dX10_met_75 (by decide) ?_
    refine ab_icmpge 154 dX10_met_77 (by decide) (fun h_1 => absurd h_1 (nI_ge (a := k) (b := 40) (by omega) (by omega))) (fun h_1 => ?_)
    refine ab_aload_n dX10_met_80 rfl ?_
    refine ab_getf dX10_met_81 fl_X10_40 rfl rfl ?_
    refine ab_aload_n dX10_met_84 rfl ?_
    refine ab_getf dX10_met_85 fl_X10_33 rfl rfl ?_
    refine ab_iload dX10_met_88 rfl ?_
    refine ab_callV (As := [.ref 10, .int (nI k)]) (rest := []) dX10_met_90 mv_X5_set ml_X10_236 ⟨by decide, by decide, rfl, rfl, rfl⟩ (by decide) rfl rfl (Nat.le_of_ble_eq_true rfl) rfl (c_X5_set hkk) ?_
    rintro r w' ⟨rfl, rfl⟩
    refine ab_aload_n dX10_met_93 rfl ?_
    refine ab_getf dX10_met_94 fl_X10_40 rfl rfl ?_
    refine ab_aload_n dX10_met_97 rfl ?_
    refine ab_getf dX10_met_98 fl_X10_23 rfl rfl ?_
    refine ab_iconst (v := 1) dX10_met_101 (by decide) ?_
    refine ab_iload_n dX10_met_102 rfl ?_
    refine ab_iconst (v := 0) dX10_met_103 (by decide) ?_
    refine ab_callV (As := [.int 1, .int a2, .int 0]) (rest := [.ref 11]) dX10_met_104 mv_X2_told ml_X10_136 ⟨by decide, by decide, rfl, rfl, rfl⟩ (by decide) rfl rfl (Nat.le_of_ble_eq_true rfl) rfl (c_X2_told_1 h_i2 h_c1 (by decide)) ?_
    rintro r w' ⟨rfl, rfl⟩
    refine ab_aload_n dX10_met_107 rfl ?_
    refine ab_getf dX10_met_108 fl_X10_23 rfl rfl ?_
    refine ab_iconst (v := 1) dX10_met_111 (by decide) ?_
    refine ab_iload_n dX10_met_112 rfl ?_
    refine ab_iconst (v := 1) dX10_met_113 (by decide) ?_
    refine ab_callV (As := [.int 1, .int a2, .int 1]) (rest := [.int (Cm r5 a2), .ref 11]) dX10_met_114 mv_X2_told ml_X10_136 ⟨by decide, by decide, rfl, rfl, rfl⟩ (by decide) rfl rfl (Nat.le_of_ble_eq_true rfl) rfl (c_X2_told_1 h_i2 h_c1 (by decide)) ?_
    rintro r w' ⟨rfl, rfl⟩
    refine ab_iload_n dX10_met_117 rfl ?_
    refine ab_callV (As := [.int (Cm r5 a2), .int (Cq r5 a2), .int a3]) (rest := []) dX10_met_118 mv_X5_trace ml_X10_206 ⟨by decide, by decide, rfl, rfl, rfl⟩ (by decide) rfl rfl (Nat.le_of_ble_eq_true rfl) rfl c_X5_trace ?_
    rintro r w' ⟨rfl, rfl⟩
    refine ab_aload_n dX10_met_121 rfl ?_
    refine ab_getf dX10_met_122 fl_X10_40 rfl rfl ?_
    refine ab_callV (As := []) (rest := []) dX10_met_125 mv_X5_isLawful ml_X10_203 ⟨by decide, by decide, rfl, rfl, rfl⟩ (by decide) rfl rfl (Nat.le_of_ble_eq_true rfl) rfl c_X5_isLawful ?_
    rintro r w' (⟨c_2, rfl, rfl⟩ | ⟨c_3, rfl, rfl⟩)
    · refine ab_ifeq 148 dX10_met_128 (by decide) (fun h_4 => absurd h_4 (by decide)) (fun h_4 => ?_)
      refine ab_aload_n dX10_met_131 rfl ?_
      refine ab_getf dX10_met_132 fl_X10_40 rfl rfl ?_
      refine ab_iload dX10_met_135 rfl ?_
      refine ab_iload dX10_met_137 rfl ?_
      refine ab_callV (As := [.int (Px r5 a4), .int (Py r5 a4)]) (rest := []) dX10_met_139 mv_X5_isExactlyAt ml_X10_311 ⟨by decide, by decide, rfl, rfl, rfl⟩ (by decide) rfl rfl (Nat.le_of_ble_eq_true rfl) rfl (c_X5_isExactlyAt ((h_ok k (by omega) c_2).1) ((h_ok k (by omega) c_2).2.1)) ?_
      rintro r w' (⟨c_5, rfl, rfl⟩ | ⟨c_6, rfl, rfl⟩)
      · refine ab_ifeq 148 dX10_met_142 (by decide) (fun h_7 => absurd h_7 (by decide)) (fun h_7 => ?_)
        refine ab_iload dX10_met_145 rfl ?_
        exact ab_iret dX10_met_147 rfl (by decide) (hr (nI k) (itx_r (show lp_met_st r5 a3 a2 a1 a4 k  () = .inr (nI k) from by rw [lp_met_st, if_pos (show 0 < (Ps_s (Bg r5 a1) (Ba r5 a1) (nI k)) ∧ 0 ≤ (Ps_k (Bg r5 a1) (Ba r5 a1) (Bb r5 a1) (Bc r5 a1) (nI k)) from c_2), if_pos (show IsW (Tr_ux (Ps_s (Bg r5 a1) (Ba r5 a1) (nI k)) (Int32.toInt64 (Ba r5 a1)) (Ps_c (nI k)) (Ps_e (Bg r5 a1) (Ba r5 a1) (Bb r5 a1) (Bc r5 a1) (nI k)) (Ps_x (Bg r5 a1) (Ba r5 a1) (nI k)) (Ps_y (Ba r5 a1) (nI k)) (Cm r5 a2) (Cq r5 a2)) (Tr_vx (Ps_x (Bg r5 a1) (Ba r5 a1) (nI k)) (Ps_y (Ba r5 a1) (nI k)) (Cm r5 a2) (Cq r5 a2) a3) (Ps_k (Bg r5 a1) (Ba r5 a1) (Bb r5 a1) (Bc r5 a1) (nI k)) (2 * (Ps_s (Bg r5 a1) (Ba r5 a1) (nI k)) * (Ps_n (nI k)) * Int32.toInt64 (Px r5 a4)) ∧ IsW (Tr_uy (Ps_d (nI k)) (Ps_s (Bg r5 a1) (Ba r5 a1) (nI k)) (Int32.toInt64 (Ba r5 a1)) (Ps_e (Bg r5 a1) (Ba r5 a1) (Bb r5 a1) (Bc r5 a1) (nI k)) (Ps_x (Bg r5 a1) (Ba r5 a1) (nI k)) (Ps_y (Ba r5 a1) (nI k)) (Cm r5 a2) (Cq r5 a2)) (Tr_vy (Ps_x (Bg r5 a1) (Ba r5 a1) (nI k)) (Ps_y (Ba r5 a1) (nI k)) (Cm r5 a2) (Cq r5 a2) a3) (Ps_k (Bg r5 a1) (Ba r5 a1) (Bb r5 a1) (Bc r5 a1) (nI k)) (2 * (Ps_s (Bg r5 a1) (Ba r5 a1) (nI k)) * (Ps_n (nI k)) * Int32.toInt64 (Py r5 a4)) from c_5)])) (fun i => [(Ps_n (nI k)), (Ps_d (nI k)), (Ps_s (Bg r5 a1) (Ba r5 a1) (nI k)), (Ps_k (Bg r5 a1) (Ba r5 a1) (Bb r5 a1) (Bc r5 a1) (nI k)), (Int32.toInt64 (Bg r5 a1)), (Int32.toInt64 (Ba r5 a1)), (Int32.toInt64 (Bb r5 a1)), (Int32.toInt64 (Bc r5 a1)), (Ps_c (nI k)), (Ps_e (Bg r5 a1) (Ba r5 a1) (Bb r5 a1) (Bc r5 a1) (nI k)), (Ps_x (Bg r5 a1) (Ba r5 a1) (nI k)), (Ps_y (Ba r5 a1) (nI k)), (Tr_ux (Ps_s (Bg r5 a1) (Ba r5 a1) (nI k)) (Int32.toInt64 (Ba r5 a1)) (Ps_c (nI k)) (Ps_e (Bg r5 a1) (Ba r5 a1) (Bb r5 a1) (Bc r5 a1) (nI k)) (Ps_x (Bg r5 a1) (Ba r5 a1) (nI k)) (Ps_y (Ba r5 a1) (nI k)) (Cm r5 a2) (Cq r5 a2)), (Tr_vx (Ps_x (Bg r5 a1) (Ba r5 a1) (nI k)) (Ps_y (Ba r5 a1) (nI k)) (Cm r5 a2) (Cq r5 a2) a3), (Tr_uy (Ps_d (nI k)) (Ps_s (Bg r5 a1) (Ba r5 a1) (nI k)) (Int32.toInt64 (Ba r5 a1)) (Ps_e (Bg r5 a1) (Ba r5 a1) (Bb r5 a1) (Bc r5 a1) (nI k)) (Ps_x (Bg r5 a1) (Ba r5 a1) (nI k)) (Ps_y (Ba r5 a1) (nI k)) (Cm r5 a2) (Cq r5 a2)), (Tr_vy (Ps_x (Bg r5 a1) (Ba r5 a1) (nI k)) (Ps_y (Ba r5 a1) (nI k)) (Cm r5 a2) (Cq r5 a2) a3)].getD i 0))
      · refine ab_ifeq 148 dX10_met_142 (by decide) (fun h_8 => ?_) (fun h_8 => absurd (by decide) h_8)
        refine ab_iinc (v := (nI (k + 1))) (la' := [(7, .int (nI (k + 1))), (6, .int (Py r5 a4)), (5, .int (Px r5 a4)), (3, .int a3), (2, .int a2), (1, .int a1), (0, .ref 0)]) dX10_met_148 rfl (nI_1 _) (by decide) rfl ?_
        refine ab_goto 73 dX10_met_151 (by decide) ?_
        refine ab_pick [0, 1, 2, 3, 4, 5, 6] rfl ?_
        rw [itx_l (f := (lp_met_st r5 a3 a2 a1 a4)) (n := n) (k := k) (s := ()) (show lp_met_st r5 a3 a2 a1 a4 k  () = .inl () from by rw [lp_met_st, if_pos (show 0 < (Ps_s (Bg r5 a1) (Ba r5 a1) (nI k)) ∧ 0 ≤ (Ps_k (Bg r5 a1) (Ba r5 a1) (Bb r5 a1) (Bc r5 a1) (nI k)) from c_2), if_neg (show ¬ (IsW (Tr_ux (Ps_s (Bg r5 a1) (Ba r5 a1) (nI k)) (Int32.toInt64 (Ba r5 a1)) (Ps_c (nI k)) (Ps_e (Bg r5 a1) (Ba r5 a1) (Bb r5 a1) (Bc r5 a1) (nI k)) (Ps_x (Bg r5 a1) (Ba r5 a1) (nI k)) (Ps_y (Ba r5 a1) (nI k)) (Cm r5 a2) (Cq r5 a2)) (Tr_vx (Ps_x (Bg r5 a1) (Ba r5 a1) (nI k)) (Ps_y (Ba r5 a1) (nI k)) (Cm r5 a2) (Cq r5 a2) a3) (Ps_k (Bg r5 a1) (Ba r5 a1) (Bb r5 a1) (Bc r5 a1) (nI k)) (2 * (Ps_s (Bg r5 a1) (Ba r5 a1) (nI k)) * (Ps_n (nI k)) * Int32.toInt64 (Px r5 a4)) ∧ IsW (Tr_uy (Ps_d (nI k)) (Ps_s (Bg r5 a1) (Ba r5 a1) (nI k)) (Int32.toInt64 (Ba r5 a1)) (Ps_e (Bg r5 a1) (Ba r5 a1) (Bb r5 a1) (Bc r5 a1) (nI k)) (Ps_x (Bg r5 a1) (Ba r5 a1) (nI k)) (Ps_y (Ba r5 a1) (nI k)) (Cm r5 a2) (Cq r5 a2)) (Tr_vy (Ps_x (Bg r5 a1) (Ba r5 a1) (nI k)) (Ps_y (Ba r5 a1) (nI k)) (Cm r5 a2) (Cq r5 a2) a3) (Ps_k (Bg r5 a1) (Ba r5 a1) (Bb r5 a1) (Bc r5 a1) (nI k)) (2 * (Ps_s (Bg r5 a1) (Ba r5 a1) (nI k)) * (Ps_n (nI k)) * Int32.toInt64 (Py r5 a4))) from c_6)])] at hx hr
        exact ih (k + 1)  (fun i => [(Ps_n (nI k)), (Ps_d (nI k)), (Ps_s (Bg r5 a1) (Ba r5 a1) (nI k)), (Ps_k (Bg r5 a1) (Ba r5 a1) (Bb r5 a1) (Bc r5 a1) (nI k)), (Int32.toInt64 (Bg r5 a1)), (Int32.toInt64 (Ba r5 a1)), (Int32.toInt64 (Bb r5 a1)), (Int32.toInt64 (Bc r5 a1)), (Ps_c (nI k)), (Ps_e (Bg r5 a1) (Ba r5 a1) (Bb r5 a1) (Bc r5 a1) (nI k)), (Ps_x (Bg r5 a1) (Ba r5 a1) (nI k)), (Ps_y (Ba r5 a1) (nI k)), (Tr_ux (Ps_s (Bg r5 a1) (Ba r5 a1) (nI k)) (Int32.toInt64 (Ba r5 a1)) (Ps_c (nI k)) (Ps_e (Bg r5 a1) (Ba r5 a1) (Bb r5 a1) (Bc r5 a1) (nI k)) (Ps_x (Bg r5 a1) (Ba r5 a1) (nI k)) (Ps_y (Ba r5 a1) (nI k)) (Cm r5 a2) (Cq r5 a2)), (Tr_vx (Ps_x (Bg r5 a1) (Ba r5 a1) (nI k)) (Ps_y (Ba r5 a1) (nI k)) (Cm r5 a2) (Cq r5 a2) a3), (Tr_uy (Ps_d (nI k)) (Ps_s (Bg r5 a1) (Ba r5 a1) (nI k)) (Int32.toInt64 (Ba r5 a1)) (Ps_e (Bg r5 a1) (Ba r5 a1) (Bb r5 a1) (Bc r5 a1) (nI k)) (Ps_x (Bg r5 a1) (Ba r5 a1) (nI k)) (Ps_y (Ba r5 a1) (nI k)) (Cm r5 a2) (Cq r5 a2)), (Tr_vy (Ps_x (Bg r5 a1) (Ba r5 a1) (nI k)) (Ps_y (Ba r5 a1) (nI k)) (Cm r5 a2) (Cq r5 a2) a3)].getD i 0) (by omega) hx hr
    · refine ab_ifeq 148 dX10_met_128 (by decide) (fun h_9 => ?_) (fun h_9 => absurd (by decide) h_9)
      refine ab_iinc (v := (nI (k + 1))) (la' := [(7, .int (nI (k + 1))), (6, .int (Py r5 a4)), (5, .int (Px r5 a4)), (3, .int a3), (2, .int a2), (1, .int a1), (0, .ref 0)]) dX10_met_148 rfl (nI_1 _) (by decide) rfl ?_
      refine ab_goto 73 dX10_met_151 (by decide) ?_
      refine ab_pick [0, 1, 2, 3, 4, 5, 6] rfl ?_
      rw [itx_l (f := (lp_met_st r5 a3 a2 a1 a4)) (n := n) (k := k) (s := ()) (show lp_met_st r5 a3 a2 a1 a4 k  () = .inl () from by rw [lp_met_st, if_neg (show ¬ (0 < (Ps_s (Bg r5 a1) (Ba r5 a1) (nI k)) ∧ 0 ≤ (Ps_k (Bg r5 a1) (Ba r5 a1) (Bb r5 a1) (Bc r5 a1) (nI k))) from c_3)])] at hx hr
      exact ih (k + 1)  (fun i => [(Ps_n (nI k)), (Ps_d (nI k)), (Ps_s (Bg r5 a1) (Ba r5 a1) (nI k)), (Ps_k (Bg r5 a1) (Ba r5 a1) (Bb r5 a1) (Bc r5 a1) (nI k)), (Int32.toInt64 (Bg r5 a1)), (Int32.toInt64 (Ba r5 a1)), (Int32.toInt64 (Bb r5 a1)), (Int32.toInt64 (Bc r5 a1)), (Ps_c (nI k)), (Ps_e (Bg r5 a1) (Ba r5 a1) (Bb r5 a1) (Bc r5 a1) (nI k)), (Ps_x (Bg r5 a1) (Ba r5 a1) (nI k)), (Ps_y (Ba r5 a1) (nI k)), (Tr_ux (Ps_s (Bg r5 a1) (Ba r5 a1) (nI k)) (Int32.toInt64 (Ba r5 a1)) (Ps_c (nI k)) (Ps_e (Bg r5 a1) (Ba r5 a1) (Bb r5 a1) (Bc r5 a1) (nI k)) (Ps_x (Bg r5 a1) (Ba r5 a1) (nI k)) (Ps_y (Ba r5 a1) (nI k)) (Cm r5 a2) (Cq r5 a2)), (Tr_vx (Ps_x (Bg r5 a1) (Ba r5 a1) (nI k)) (Ps_y (Ba r5 a1) (nI k)) (Cm r5 a2) (Cq r5 a2) a3), (Tr_uy (Ps_d (nI k)) (Ps_s (Bg r5 a1) (Ba r5 a1) (nI k)) (Int32.toInt64 (Ba r5 a1)) (Ps_e (Bg r5 a1) (Ba r5 a1) (Bb r5 a1) (Bc r5 a1) (nI k)) (Ps_x (Bg r5 a1) (Ba r5 a1) (nI k)) (Ps_y (Ba r5 a1) (nI k)) (Cm r5 a2) (Cq r5 a2)), (Tr_vy (Ps_x (Bg r5 a1) (Ba r5 a1) (nI k)) (Ps_y (Ba r5 a1) (nI k)) (Cm r5 a2) (Cq r5 a2) a3)].getD i 0) (by omega) hx hr
theorem c_X10_met {f0_0 f10_0 f10_1 f10_2 f10_3 a1 a2 a3 a4 : Int32} {x1 x2 x3 x7 x8 x9 x12 x13 x14 x15 x16 x17 x18 x19 x20 x21 x22 x23 x24 x25 x26 x27 x28 x29 x30 x31 x32 : ax_E} {r5 r6 : Nat → Int32} {f11_0 f11_1 f11_2 f11_3 f11_4 f11_5 f11_6 f11_7 f11_8 f11_9 f11_10 f11_11 f11_12 f11_13 f11_14 f11_15 : Int64} {wm : List ax_E} (h_c0 : r6 0 ≤ nI 4) (h_c1 : r6 1 ≤ nI 4) (h_c2 : r6 2 ≤ nI 8) (h_ok : ((0 ≤ a1 ∧ a1 < r6 0) ∧ (0 ≤ a2 ∧ a2 < r6 1) ∧ (0 ≤ a3 ∧ a3 < 2)) → ∀ k, k < 40 → lawP r5 a1 k → okS (cV0 r5 a1 (Cm r5 a2) (Cq r5 a2) a3 k) (pK r5 a1 k) ∧ okS (cV1 r5 a1 (Cm r5 a2) (Cq r5 a2) a3 k) (pK r5 a1 k) ∧ 0 < cW r5 a1 k) : Ct M_X10_met [.ref 0, .int a1, .int a2, .int a3, .int a4] ([ob 8 [.int f0_0, .ref 1, .ref 4, .ref 7, .ref 10, .ref 11, .ref 12, .ref 18, .ref 25, .ref 29], x1, x2, x3, ob 2 [.ref 5, .ref 6], ia 56 r5, ia 4 r6, x7, x8, x9, ob 3 [.int f10_0, .int f10_1, .int f10_2, .int f10_3], ob 5 [.long f11_0, .long f11_1, .long f11_2, .long f11_3, .long f11_4, .long f11_5, .long f11_6, .long f11_7, .long f11_8, .long f11_9, .long f11_10, .long f11_11, .long f11_12, .long f11_13, .long f11_14, .long f11_15], x12, x13, x14, x15, x16, x17, x18, x19, x20, x21, x22, x23, x24, x25, x26, x27, x28, x29, x30, x31, x32], wm) (fun r w' => (∃ g_8 : Nat → Int64, ((0 ≤ a1 ∧ a1 < r6 0) ∧ (0 ≤ a2 ∧ a2 < r6 1) ∧ (0 ≤ a3 ∧ a3 < 2)) ∧ (0 ≤ a4 ∧ a4 < r6 2) ∧ ((itx (lp_met_st r5 a3 a2 a1 a4) 40 0 ()) = .inl ()) ∧ r = some (.int (-2)) ∧ w' = ([ob 8 [.int 0, .ref 1, .ref 4, .ref 7, .ref 10, .ref 11, .ref 12, .ref 18, .ref 25, .ref 29], x1, x2, x3, ob 2 [.ref 5, .ref 6], ia 56 r5, ia 4 r6, x7, x8, x9, ob 3 [.int (Bg r5 a1), .int (Ba r5 a1), .int (Bb r5 a1), .int (Bc r5 a1)], ob 5 [.long (g_8 0), .long (g_8 1), .long (g_8 2), .long (g_8 3), .long (g_8 4), .long (g_8 5), .long (g_8 6), .long (g_8 7), .long (g_8 8), .long (g_8 9), .long (g_8 10), .long (g_8 11), .long (g_8 12), .long (g_8 13), .long (g_8 14), .long (g_8 15)], x12, x13, x14, x15, x16, x17, x18, x19, x20, x21, x22, x23, x24, x25, x26, x27, x28, x29, x30, x31, x32], wm)) ∨ (∃ r_10 : Int32, ∃ g_12 : Nat → Int64, ((0 ≤ a1 ∧ a1 < r6 0) ∧ (0 ≤ a2 ∧ a2 < r6 1) ∧ (0 ≤ a3 ∧ a3 < 2)) ∧ (0 ≤ a4 ∧ a4 < r6 2) ∧ ((itx (lp_met_st r5 a3 a2 a1 a4) 40 0 ()) = .inr r_10) ∧ r = some (.int r_10) ∧ w' = ([ob 8 [.int 0, .ref 1, .ref 4, .ref 7, .ref 10, .ref 11, .ref 12, .ref 18, .ref 25, .ref 29], x1, x2, x3, ob 2 [.ref 5, .ref 6], ia 56 r5, ia 4 r6, x7, x8, x9, ob 3 [.int (Bg r5 a1), .int (Ba r5 a1), .int (Bb r5 a1), .int (Bc r5 a1)], ob 5 [.long (g_12 0), .long (g_12 1), .long (g_12 2), .long (g_12 3), .long (g_12 4), .long (g_12 5), .long (g_12 6), .long (g_12 7), .long (g_12 8), .long (g_12 9), .long (g_12 10), .long (g_12 11), .long (g_12 12), .long (g_12 13), .long (g_12 14), .long (g_12 15)], x12, x13, x14, x15, x16, x17, x18, x19, x20, x21, x22, x23, x24, x25, x26, x27, x28, x29, x30, x31, x32], wm)) ∨ (((0 ≤ a1 ∧ a1 < r6 0) ∧ (0 ≤ a2 ∧ a2 < r6 1) ∧ (0 ≤ a3 ∧ a3 < 2)) ∧ (¬ (0 ≤ a4 ∧ a4 < r6 2)) ∧ r = some (.int (-1)) ∧ w' = ([ob 8 [.int 1, .ref 1, .ref 4, .ref 7, .ref 10, .ref 11, .ref 12, .ref 18, .ref 25, .ref 29], x1, x2, x3, ob 2 [.ref 5, .ref 6], ia 56 r5, ia 4 r6, x7, x8, x9, ob 3 [.int f10_0, .int f10_1, .int f10_2, .int f10_3], ob 5 [.long f11_0, .long f11_1, .long f11_2, .long f11_3, .long f11_4, .long f11_5, .long f11_6, .long f11_7, .long f11_8, .long f11_9, .long f11_10, .long f11_11, .long f11_12, .long f11_13, .long f11_14, .long f11_15], x12, x13, x14, x15, x16, x17, x18, x19, x20, x21, x22, x23, x24, x25, x26, x27, x28, x29, x30, x31, x32], wm)) ∨ ((¬ ((0 ≤ a1 ∧ a1 < r6 0) ∧ (0 ≤ a2 ∧ a2 < r6 1) ∧ (0 ≤ a3 ∧ a3 < 2))) ∧ r = some (.int (-1)) ∧ w' = ([ob 8 [.int 1, .ref 1, .ref 4, .ref 7, .ref 10, .ref 11, .ref 12, .ref 18, .ref 25, .ref 29], x1, x2, x3, ob 2 [.ref 5, .ref 6], ia 56 r5, ia 4 r6, x7, x8, x9, ob 3 [.int f10_0, .int f10_1, .int f10_2, .int f10_3], ob 5 [.long f11_0, .long f11_1, .long f11_2, .long f11_3, .long f11_4, .long f11_5, .long f11_6, .long f11_7, .long f11_8, .long f11_9, .long f11_10, .long f11_11, .long f11_12, .long f11_13, .long f11_14, .long f11_15], x12, x13, x14, x15, x16, x17, x18, x19, x20, x21, x22, x23, x24, x25, x26, x27, x28, x29, x30, x31, x32], wm))) := by
  refine ct_of ⟨by decide, rfl⟩ (Nat.le_of_ble_eq_true rfl) ?_
  refine ab_aload_n dX10_met_0 rfl ?_
  refine ab_aload_n dX10_met_1 rfl ?_
  refine ab_iload_n dX10_met_2 rfl ?_
  refine ab_iload_n dX10_met_3 rfl ?_
  refine ab_iload_n dX10_met_4 rfl ?_
  refine ab_callV (As := [.int a1, .int a2, .int a3]) (rest := [.ref 0]) dX10_met_5 mv_X10_hasCurve ml_X10_266 ⟨by decide, by decide, rfl, rfl, rfl⟩ (by decide) rfl rfl (Nat.le_of_ble_eq_true rfl) rfl c_X10_hasCurve ?_
  rintro r w' (⟨c_1, rfl, rfl⟩ | ⟨c_2, rfl, rfl⟩)
  · refine ab_ifeq 28 dX10_met_8 (by decide) (fun h_3 => absurd h_3 (by decide)) (fun h_3 => ?_)
    refine ab_aload_n dX10_met_11 rfl ?_
    refine ab_getf dX10_met_12 fl_X10_23 rfl rfl ?_
    refine ab_iconst (v := 2) dX10_met_15 (by decide) ?_
    refine ab_iload dX10_met_16 rfl ?_
    refine ab_callV (As := [.int 2, .int a4]) (rest := [.ref 0]) dX10_met_18 mv_X2_has ml_X10_264 ⟨by decide, by decide, rfl, rfl, rfl⟩ (by decide) rfl rfl (Nat.le_of_ble_eq_true rfl) rfl c_X2_has_2 ?_
    rintro r w' (⟨c_4, rfl, rfl⟩ | ⟨c_5, rfl, rfl⟩)
    · refine ab_ifeq 28 dX10_met_21 (by decide) (fun h_6 => absurd h_6 (by decide)) (fun h_6 => ?_)
      refine ab_iconst (v := 1) dX10_met_24 (by decide) ?_
      refine ab_goto 29 dX10_met_25 (by decide) ?_
      refine ab_iconst (v := 1) dX10_met_29 (by decide) ?_
      refine ab_callV (As := [.int 1, .int 1]) (rest := []) dX10_met_30 mv_X10_refused ml_X10_84 ⟨by decide, by decide, rfl, rfl, rfl⟩ (by decide) rfl rfl (Nat.le_of_ble_eq_true rfl) rfl c_X10_refused_1 ?_
      rintro r w' ⟨rfl, rfl⟩
      refine ab_ifeq 38 dX10_met_33 (by decide) (fun h_7 => ?_) (fun h_7 => absurd (by decide) h_7)
      refine ab_aload_n dX10_met_38 rfl ?_
      refine ab_iload_n dX10_met_39 rfl ?_
      refine ab_callV (As := [.int a1]) (rest := []) dX10_met_40 mv_X10_linkageAt ml_X10_140 ⟨by decide, by decide, rfl, rfl, rfl⟩ (by decide) rfl rfl (Nat.le_of_ble_eq_true rfl) rfl (c_X10_linkageAt c_1.1 h_c0) ?_
      rintro r w' ⟨rfl, rfl⟩
      refine ab_pop rfl dX10_met_43 ?_
      refine ab_aload_n dX10_met_44 rfl ?_
      refine ab_getf dX10_met_45 fl_X10_23 rfl rfl ?_
      refine ab_iconst (v := 2) dX10_met_48 (by decide) ?_
      refine ab_iload dX10_met_49 rfl ?_
      refine ab_iconst (v := 0) dX10_met_51 (by decide) ?_
      refine ab_callV (As := [.int 2, .int a4, .int 0]) (rest := []) dX10_met_52 mv_X2_told ml_X10_136 ⟨by decide, by decide, rfl, rfl, rfl⟩ (by decide) rfl rfl (Nat.le_of_ble_eq_true rfl) rfl (c_X2_told_2 c_4 h_c2 (by decide)) ?_
      rintro r w' ⟨rfl, rfl⟩
      refine ab_istore (la' := [(5, .int (Px r5 a4)), (0, .ref 0), (1, .int a1), (2, .int a2), (3, .int a3), (4, .int a4)]) dX10_met_55 (by decide) rfl ?_
      refine ab_aload_n dX10_met_57 rfl ?_
      refine ab_getf dX10_met_58 fl_X10_23 rfl rfl ?_
      refine ab_iconst (v := 2) dX10_met_61 (by decide) ?_
      refine ab_iload dX10_met_62 rfl ?_
      refine ab_iconst (v := 1) dX10_met_64 (by decide) ?_
      refine ab_callV (As := [.int 2, .int a4, .int 1]) (rest := []) dX10_met_65 mv_X2_told ml_X10_136 ⟨by decide, by decide, rfl, rfl, rfl⟩ (by decide) rfl rfl (Nat.le_of_ble_eq_true rfl) rfl (c_X2_told_2 c_4 h_c2 (by decide)) ?_
      rintro r w' ⟨rfl, rfl⟩
      refine ab_istore (la' := [(6, .int (Py r5 a4)), (5, .int (Px r5 a4)), (0, .ref 0), (1, .int a1), (2, .int a2), (3, .int a3), (4, .int a4)]) dX10_met_68 (by decide) rfl ?_
      refine ab_iconst (v := 0) dX10_met_70 (by decide) ?_
      refine ab_istore (la' := [(7, .int 0), (6, .int (Py r5 a4)), (5, .int (Px r5 a4)), (0, .ref 0), (1, .int a1), (2, .int a2), (3, .int a3), (4, .int a4)]) dX10_met_71 (by decide) rfl ?_
      refine ab_pick [0, 1, 2, 6, 5, 4, 3] rfl ?_
      refine lp_met (B := 40) rfl c_1.2.1 h_c1 (h_ok c_1) 40 0 (fun i => [f11_0, f11_1, f11_2, f11_3, f11_4, f11_5, f11_6, f11_7, f11_8, f11_9, f11_10, f11_11, f11_12, f11_13, f11_14, f11_15].getD i 0) (by omega) ?_ ?_
      · intro hE_9 g_8
        refine ab_bipush (v := -2) dX10_met_154 (by decide) ?_
        exact ab_iret dX10_met_156 rfl (by decide) (Or.inl ⟨g_8, c_1, c_4, hE_9, rfl, rfl⟩)
      · intro r_10 hR_11 g_12
        exact (Or.inr (Or.inl ⟨r_10, g_12, c_1, c_4, hR_11, rfl, rfl⟩))
    · refine ab_ifeq 28 dX10_met_21 (by decide) (fun h_13 => ?_) (fun h_13 => absurd (by decide) h_13)
      refine ab_iconst (v := 0) dX10_met_28 (by decide) ?_
      refine ab_iconst (v := 1) dX10_met_29 (by decide) ?_
      refine ab_callV (As := [.int 0, .int 1]) (rest := []) dX10_met_30 mv_X10_refused ml_X10_84 ⟨by decide, by decide, rfl, rfl, rfl⟩ (by decide) rfl rfl (Nat.le_of_ble_eq_true rfl) rfl c_X10_refused_0 ?_
      rintro r w' ⟨rfl, rfl⟩
      refine ab_ifeq 38 dX10_met_33 (by decide) (fun h_14 => absurd h_14 (by decide)) (fun h_14 => ?_)
      refine ab_iconst (v := -1) dX10_met_36 (by decide) ?_
      exact ab_iret dX10_met_37 rfl (by decide) (Or.inr (Or.inr (Or.inl ⟨c_1, c_5, rfl, rfl⟩)))
  · refine ab_ifeq 28 dX10_met_8 (by decide) (fun h_15 => ?_) (fun h_15 => absurd (by decide) h_15)
    refine ab_iconst (v := 0) dX10_met_28 (by decide) ?_
    refine ab_iconst (v := 1) dX10_met_29 (by decide) ?_
    refine ab_callV (As := [.int 0, .int 1]) (rest := []) dX10_met_30 mv_X10_refused ml_X10_84 ⟨by decide, by decide, rfl, rfl, rfl⟩ (by decide) rfl rfl (Nat.le_of_ble_eq_true rfl) rfl c_X10_refused_0 ?_
    rintro r w' ⟨rfl, rfl⟩
    refine ab_ifeq 38 dX10_met_33 (by decide) (fun h_16 => absurd h_16 (by decide)) (fun h_16 => ?_)
    refine ab_iconst (v := -1) dX10_met_36 (by decide) ?_
    exact ab_iret dX10_met_37 rfl (by decide) (Or.inr (Or.inr (Or.inr (⟨c_2, rfl, rfl⟩))))
def z0 : Nat → Int32 := fun _ => 0
/-- the least miss of a curve of a point, whatever lay in the rows before -/
def lmC (p : Nat → Bool) (X Y : Nat → Int32) (a b : Int32) : Int32 := itr (lp_lm_st (crv p X z0 40) (crv p Y z0 40) b a) (Cn p 40 - 1) 1 (Cv_sq (crv p X z0 40) (crv p Y z0 40) a b 0)
theorem sq_can {p : Nat → Bool} {X Y r r' : Nat → Int32} {a b : Int32} {j : Nat} (h : j < Cn p 40) : Cv_sq (crv p X r 40) (crv p Y r' 40) a b j = Cv_sq (crv p X z0 40) (crv p Y z0 40) a b j := by
  unfold Cv_sq
  rw [crv_un p X r z0 40 j h, crv_un p Y r' z0 40 j h]
theorem lm_can {p : Nat → Bool} {X Y r r' : Nat → Int32} {a b : Int32} (h : 0 < Cn p 40) : itr (lp_lm_st (crv p X r 40) (crv p Y r' 40) b a) (Cn p 40 - 1) 1 (Cv_sq (crv p X r 40) (crv p Y r' 40) a b 0) = lmC p X Y a b := by
  unfold lmC
  rw [sq_can h]
  refine itr_cong _ _ _ (fun j s h1 h2 => ?_)
  unfold lp_lm_st
  rw [sq_can (by omega)]
/-- all misses of a curve -/
def msC (p : Nat → Bool) (X Y q : Nat → Int32) (np : Nat) : Int32 := itr (fun k s => s + lmC p X Y (Px q (nI k)) (Py q (nI k))) np 0 0
def lp_ms_st (r5 : Nat → Int32) (p : Nat → Bool) (X : Nat → Int32) (Y : Nat → Int32) (k : Nat) (s : Int32) : Int32 := (s + (lmC p X Y (Px r5 (nI k)) (Py r5 (nI k))))
set_option maxHeartbeats 400000 in
theorem lp_ms {f0_0 f12_6 f12_7 f12_8 f12_9 a3 a2 a1 : Int32} {x1 x2 x3 x7 x8 x9 x16 x17 x18 x19 x20 x21 x22 x23 x24 x25 x26 x27 x28 x29 x30 x31 x32 : ax_E} {r5 r6 X Y r13 r14 r15 : Nat → Int32} {wm : List ax_E} {np : Nat} {p : Nat → Bool} {Q : Option Value → ax_W → Prop} (h_np : r6 2 = nI np) (h_np8 : np ≤ 8) (h_ne : 0 < Cn p 40) : ∀ (n k : Nat) (s : Int32) (g : Nat → Int64), k + n = np → (∀ (g : Nat → Int64), Ab M_X10_missesOf Q (0, 0) 67 [(5, .int (nI np)), (4, .int (itr (lp_ms_st r5 p X Y) n k s)), (3, .int a3), (2, .int a2), (1, .int a1), (0, .ref 0)] [] ([ob 8 [.int f0_0, .ref 1, .ref 4, .ref 7, .ref 10, .ref 11, .ref 12, .ref 18, .ref 25, .ref 29], x1, x2, x3, ob 2 [.ref 5, .ref 6], ia 56 r5, ia 4 r6, x7, x8, x9, ob 3 [.int (Bg r5 a1), .int (Ba r5 a1), .int (Bb r5 a1), .int (Bc r5 a1)], ob 5 [.long (g 0), .long (g 1), .long (g 2), .long (g 3), .long (g 4), .long (g 5), .long (g 6), .long (g 7), .long (g 8), .long (g 9), .long (g 10), .long (g 11), .long (g 12), .long (g 13), .long (g 14), .long (g 15)], ob 1 [.ref 13, .ref 14, .ref 15, .ref 16, .ref 17, .int (nI (Cn p 40)), .int f12_6, .int f12_7, .int f12_8, .int f12_9], ia 40 (crv p X r13 40), ia 40 (crv p Y r14 40), ia 40 (crv p nI r15 40), x16, x17, x18, x19, x20, x21, x22, x23, x24, x25, x26, x27, x28, x29, x30, x31, x32], wm)) → Ab M_X10_missesOf Q (0, 0) 14 [(5, .int (nI k)), (4, .int s), (3, .int a3), (2, .int a2), (1, .int a1), (0, .ref 0)] [] ([ob 8 [.int f0_0, .ref 1, .ref 4, .ref 7, .ref 10, .ref 11, .ref 12, .ref 18, .ref 25, .ref 29], x1, x2, x3, ob 2 [.ref 5, .ref 6], ia 56 r5, ia 4 r6, x7, x8, x9, ob 3 [.int (Bg r5 a1), .int (Ba r5 a1), .int (Bb r5 a1), .int (Bc r5 a1)], ob 5 [.long (g 0), .long (g 1), .long (g 2), .long (g 3), .long (g 4), .long (g 5), .long (g 6), .long (g 7), .long (g 8), .long (g 9), .long (g 10), .long (g 11), .long (g 12), .long (g 13), .long (g 14), .long (g 15)], ob 1 [.ref 13, .ref 14, .ref 15, .ref 16, .ref 17, .int (nI (Cn p 40)), .int f12_6, .int f12_7, .int f12_8, .int f12_9], ia 40 (crv p X r13 40), ia 40 (crv p Y r14 40), ia 40 (crv p nI r15 40), x16, x17, x18, x19, x20, x21, x22, x23, x24, x25, x26, x27, x28, x29, x30, x31, x32], wm) := by
  intro n
  induction n with
  | zero =>
    intro k s g hk hx
    rw [itr_0] at hx
    rw [show k = np by omega]
    refine ab_iload dX10_missesOf_14 rfl ?_
    refine ab_aload_n dX10_missesOf_16 rfl ?_
    refine ab_getf dX10_missesOf_17 fl_X10_23 rfl rfl ?_
    refine ab_iconst (v := 2) dX10_missesOf_20 (by decide) ?_
    refine ab_callV (As := [.int 2]) (rest := [.int (nI np)]) dX10_missesOf_21 mv_X2_count ml_X10_102 ⟨by decide, by decide, rfl, rfl, rfl⟩ (by decide) rfl rfl (Nat.le_of_ble_eq_true rfl) rfl c_X2_count_4_2 ?_
    rintro r w' ⟨rfl, rfl⟩
    refine ab_topi (v := (nI np)) h_np ?_
    refine ab_icmpge 67 dX10_missesOf_24 (by decide) (fun h_1 => ?_) (fun h_1 => absurd (nI_le (b := np) (Nat.le_refl _) (by omega)) h_1)
    refine ab_pick [0, 1, 2, 3, 4, 5] rfl ?_
    exact hx g
  | succ n ih =>
    intro k s g hk hx
    refine ab_iload dX10_missesOf_14 rfl ?_
    refine ab_aload_n dX10_missesOf_16 rfl ?_
    refine ab_getf dX10_missesOf_17 fl_X10_23 rfl rfl ?_
    refine ab_iconst (v := 2) dX10_missesOf_20 (by decide) ?_
    refine ab_callV (As := [.int 2]) (rest := [.int (nI k)]) dX10_missesOf_21 mv_X2_count ml_X10_102 ⟨by decide, by decide, rfl, rfl, rfl⟩ (by decide) rfl rfl (Nat.le_of_ble_eq_true rfl) rfl c_X2_count_4_2 ?_
    rintro r w' ⟨rfl, rfl⟩
    refine ab_topi (v := (nI np)) h_np ?_
    refine ab_icmpge 67 dX10_missesOf_24 (by decide) (fun h_1 => absurd h_1 (nI_ge (a := k) (b := np) (by omega) (by omega))) (fun h_1 => ?_)
    refine ab_iload dX10_missesOf_27 rfl ?_
    refine ab_aload_n dX10_missesOf_29 rfl ?_
    refine ab_getf dX10_missesOf_30 fl_X10_47 rfl rfl ?_
    refine ab_aload_n dX10_missesOf_33 rfl ?_
    refine ab_getf dX10_missesOf_34 fl_X10_23 rfl rfl ?_
    refine ab_iconst (v := 2) dX10_missesOf_37 (by decide) ?_
    refine ab_iload dX10_missesOf_38 rfl ?_
    refine ab_iconst (v := 0) dX10_missesOf_40 (by decide) ?_
    refine ab_callV (As := [.int 2, .int (nI k), .int 0]) (rest := [.ref 12, .int s]) dX10_missesOf_41 mv_X2_told ml_X10_136 ⟨by decide, by decide, rfl, rfl, rfl⟩ (by decide) rfl rfl (Nat.le_of_ble_eq_true rfl) rfl (c_X2_told_2 (⟨nI_pos' (by omega), by rw [h_np]; exact nI_lt (by omega) (by omega)⟩) (by rw [h_np]; exact nI_le h_np8 (by decide)) (by decide)) ?_
    rintro r w' ⟨rfl, rfl⟩
    refine ab_aload_n dX10_missesOf_44 rfl ?_
    refine ab_getf dX10_missesOf_45 fl_X10_23 rfl rfl ?_
    refine ab_iconst (v := 2) dX10_missesOf_48 (by decide) ?_
    refine ab_iload dX10_missesOf_49 rfl ?_
    refine ab_iconst (v := 1) dX10_missesOf_51 (by decide) ?_
    refine ab_callV (As := [.int 2, .int (nI k), .int 1]) (rest := [.int (Px r5 (nI k)), .ref 12, .int s]) dX10_missesOf_52 mv_X2_told ml_X10_136 ⟨by decide, by decide, rfl, rfl, rfl⟩ (by decide) rfl rfl (Nat.le_of_ble_eq_true rfl) rfl (c_X2_told_2 (⟨nI_pos' (by omega), by rw [h_np]; exact nI_lt (by omega) (by omega)⟩) (by rw [h_np]; exact nI_le h_np8 (by decide)) (by decide)) ?_
    rintro r w' ⟨rfl, rfl⟩
    refine ab_callV (As := [.int (Px r5 (nI k)), .int (Py r5 (nI k))]) (rest := [.int s]) dX10_missesOf_55 mv_X1_leastMiss ml_X10_308 ⟨by decide, by decide, rfl, rfl, rfl⟩ (by decide) rfl rfl (Nat.le_of_ble_eq_true rfl) rfl (c_X1_leastMiss (c := (Cn p 40)) (cn_le p 40) h_ne) ?_
    rintro r w' ⟨rfl, rfl⟩
    refine ab_topi (v := (lmC p X Y (Px r5 (nI k)) (Py r5 (nI k)))) (lm_can h_ne) ?_
    refine ab_iadd dX10_missesOf_58 ?_
    refine ab_istore (la' := [(4, .int (s + (lmC p X Y (Px r5 (nI k)) (Py r5 (nI k))))), (5, .int (nI k)), (3, .int a3), (2, .int a2), (1, .int a1), (0, .ref 0)]) dX10_missesOf_59 (by decide) rfl ?_
    refine ab_iinc (v := (nI (k + 1))) (la' := [(5, .int (nI (k + 1))), (4, .int (s + (lmC p X Y (Px r5 (nI k)) (Py r5 (nI k))))), (3, .int a3), (2, .int a2), (1, .int a1), (0, .ref 0)]) dX10_missesOf_61 rfl (nI_1 _) (by decide) rfl ?_
    refine ab_goto 14 dX10_missesOf_64 (by decide) ?_
    refine ab_pick [0, 1, 2, 3, 4, 5] rfl ?_
    rw [(itr_s (lp_ms_st r5 p X Y) n k s).trans (congrArg (itr (lp_ms_st r5 p X Y) n (k + 1)) (show lp_ms_st r5 p X Y k s = (s + (lmC p X Y (Px r5 (nI k)) (Py r5 (nI k)))) from rfl))] at hx
    exact ih (k + 1) (s + (lmC p X Y (Px r5 (nI k)) (Py r5 (nI k)))) (fun i => [(g 0), (g 1), (g 2), (g 3), (g 4), (g 5), (g 6), (g 7), (g 8), (g 9), (g 10), (g 11), (g 12), (g 13), (g 14), (g 15)].getD i 0) (by omega) hx
theorem c_X10_missesOf {f0_0 f10_0 f10_1 f10_2 f10_3 f12_5 f12_6 f12_7 f12_8 f12_9 a1 a2 a3 : Int32} {x1 x2 x3 x7 x8 x9 x16 x17 x18 x19 x20 x21 x22 x23 x24 x25 x26 x27 x28 x29 x30 x31 x32 : ax_E} {r5 r6 r13 r14 r15 X Y : Nat → Int32} {f11_0 f11_1 f11_2 f11_3 f11_4 f11_5 f11_6 f11_7 f11_8 f11_9 f11_10 f11_11 f11_12 f11_13 f11_14 f11_15 : Int64} {wm : List ax_E} {p : Nat → Bool} {np : Nat} (h_i : 0 ≤ a1 ∧ a1 < r6 0) (h_c : r6 0 ≤ nI 4) (h_i2 : 0 ≤ a2 ∧ a2 < r6 1) (h_c1 : r6 1 ≤ nI 4) (h_p : ∀ k, p k = true ↔ lawP r5 a1 k) (h_X : ∀ k, k < 40 → lawP r5 a1 k → X k = cX r5 a1 (Cm r5 a2) (Cq r5 a2) a3 k) (h_Y : ∀ k, k < 40 → lawP r5 a1 k → Y k = cY r5 a1 (Cm r5 a2) (Cq r5 a2) a3 k) (h_ok : ∀ k, k < 40 → lawP r5 a1 k → okS (cV0 r5 a1 (Cm r5 a2) (Cq r5 a2) a3 k) (pK r5 a1 k) ∧ okS (cV1 r5 a1 (Cm r5 a2) (Cq r5 a2) a3 k) (pK r5 a1 k) ∧ 0 < cW r5 a1 k) (h_np : r6 2 = nI np) (h_np8 : np ≤ 8) (h_ne : 0 < Cn p 40) : Ct M_X10_missesOf [.ref 0, .int a1, .int a2, .int a3] ([ob 8 [.int f0_0, .ref 1, .ref 4, .ref 7, .ref 10, .ref 11, .ref 12, .ref 18, .ref 25, .ref 29], x1, x2, x3, ob 2 [.ref 5, .ref 6], ia 56 r5, ia 4 r6, x7, x8, x9, ob 3 [.int f10_0, .int f10_1, .int f10_2, .int f10_3], ob 5 [.long f11_0, .long f11_1, .long f11_2, .long f11_3, .long f11_4, .long f11_5, .long f11_6, .long f11_7, .long f11_8, .long f11_9, .long f11_10, .long f11_11, .long f11_12, .long f11_13, .long f11_14, .long f11_15], ob 1 [.ref 13, .ref 14, .ref 15, .ref 16, .ref 17, .int f12_5, .int f12_6, .int f12_7, .int f12_8, .int f12_9], ia 40 r13, ia 40 r14, ia 40 r15, x16, x17, x18, x19, x20, x21, x22, x23, x24, x25, x26, x27, x28, x29, x30, x31, x32], wm) (fun r w' => ∃ g_1 : Nat → Int64, ∃ g_2 : Nat → Int64, r = some (.int (itr (lp_ms_st r5 p X Y) np 0 0)) ∧ w' = ([ob 8 [.int f0_0, .ref 1, .ref 4, .ref 7, .ref 10, .ref 11, .ref 12, .ref 18, .ref 25, .ref 29], x1, x2, x3, ob 2 [.ref 5, .ref 6], ia 56 r5, ia 4 r6, x7, x8, x9, ob 3 [.int (Bg r5 a1), .int (Ba r5 a1), .int (Bb r5 a1), .int (Bc r5 a1)], ob 5 [.long (g_2 0), .long (g_2 1), .long (g_2 2), .long (g_2 3), .long (g_2 4), .long (g_2 5), .long (g_2 6), .long (g_2 7), .long (g_2 8), .long (g_2 9), .long (g_2 10), .long (g_2 11), .long (g_2 12), .long (g_2 13), .long (g_2 14), .long (g_2 15)], ob 1 [.ref 13, .ref 14, .ref 15, .ref 16, .ref 17, .int (nI (Cn p 40)), .int f12_6, .int f12_7, .int f12_8, .int f12_9], ia 40 (crv p X r13 40), ia 40 (crv p Y r14 40), ia 40 (crv p nI r15 40), x16, x17, x18, x19, x20, x21, x22, x23, x24, x25, x26, x27, x28, x29, x30, x31, x32], wm)) := by
  refine ct_of ⟨by decide, rfl⟩ (Nat.le_of_ble_eq_true rfl) ?_
  refine ab_aload_n dX10_missesOf_0 rfl ?_
  refine ab_iload_n dX10_missesOf_1 rfl ?_
  refine ab_iload_n dX10_missesOf_2 rfl ?_
  refine ab_iload_n dX10_missesOf_3 rfl ?_
  refine ab_callV (As := [.int a1, .int a2, .int a3]) (rest := []) dX10_missesOf_4 mv_X10_curveAt ml_X10_269 ⟨by decide, by decide, rfl, rfl, rfl⟩ (by decide) rfl rfl (Nat.le_of_ble_eq_true rfl) rfl (c_X10_curveAt (p := p) (X := X) (Y := Y) h_i h_c h_i2 h_c1 h_p h_X h_Y h_ok) ?_
  rintro r w' ⟨g_1, rfl, rfl⟩
  refine ab_pop rfl dX10_missesOf_7 ?_
  refine ab_iconst (v := 0) dX10_missesOf_8 (by decide) ?_
  refine ab_istore (la' := [(4, .int 0), (0, .ref 0), (1, .int a1), (2, .int a2), (3, .int a3)]) dX10_missesOf_9 (by decide) rfl ?_
  refine ab_iconst (v := 0) dX10_missesOf_11 (by decide) ?_
  refine ab_istore (la' := [(5, .int 0), (4, .int 0), (0, .ref 0), (1, .int a1), (2, .int a2), (3, .int a3)]) dX10_missesOf_12 (by decide) rfl ?_
  refine ab_pick [0, 1, 5, 4, 3, 2] rfl ?_
  refine lp_ms h_np h_np8 h_ne np 0 0 (fun i => [(g_1 0), (g_1 1), (g_1 2), (g_1 3), (g_1 4), (g_1 5), (g_1 6), (g_1 7), (g_1 8), (g_1 9), (g_1 10), (g_1 11), (g_1 12), (g_1 13), (g_1 14), (g_1 15)].getD i 0) (by omega) ?_
  intro g_2
  refine ab_iload dX10_missesOf_67 rfl ?_
  exact ab_iret dX10_missesOf_69 rfl (by decide) (⟨g_1, g_2, rfl, rfl⟩)
def lp_best_st (r5 : Nat → Int32) (p : Nat → Bool) (XX : Int32 → Nat → Int32) (YY : Int32 → Nat → Int32) (np : Nat) (k : Nat) (fo : Int32) (fw : Int32) : Int32 × Int32 := (if fw ≤ (itr (lp_ms_st r5 p (XX (nI k)) (YY (nI k))) np 0 0) then (fo, fw) else ((nI k), (itr (lp_ms_st r5 p (XX (nI k)) (YY (nI k))) np 0 0)))
set_option maxHeartbeats 400000 in
theorem lp_best {f0_0 f12_6 f12_7 f12_8 f12_9 a2 a1 : Int32} {x1 x2 x3 x7 x8 x9 x16 x17 x18 x19 x20 x21 x22 x23 x24 x25 x26 x27 x28 x29 x30 x31 x32 : ax_E} {r5 r6 : Nat → Int32} {wm : List ax_E} {p : Nat → Bool} {XX YY : Int32 → Nat → Int32} {np nt : Nat} {Q : Option Value → ax_W → Prop} (h_i : 0 ≤ a1 ∧ a1 < r6 0) (h_c0 : r6 0 ≤ nI 4) (h_nt : r6 1 = nI nt) (h_nt4 : nt ≤ 4) (h_np : r6 2 = nI np) (h_np8 : np ≤ 8) (h_p : ∀ k, p k = true ↔ lawP r5 a1 k) (h_X : ∀ i k, k < 40 → lawP r5 a1 k → XX i k = cX r5 a1 (Cm r5 i) (Cq r5 i) a2 k) (h_Y : ∀ i k, k < 40 → lawP r5 a1 k → YY i k = cY r5 a1 (Cm r5 i) (Cq r5 i) a2 k) (h_ne : 0 < Cn p 40) (h_ok : ∀ i, (0 ≤ i ∧ i < r6 1) → ∀ k, k < 40 → lawP r5 a1 k → okS (cV0 r5 a1 (Cm r5 i) (Cq r5 i) a2 k) (pK r5 a1 k) ∧ okS (cV1 r5 a1 (Cm r5 i) (Cq r5 i) a2 k) (pK r5 a1 k) ∧ 0 < cW r5 a1 k) : ∀ (n k : Nat) (fo : Int32) (fw : Int32) (g : Nat → Int64) (u13 : Nat → Int32) (u14 : Nat → Int32) (u15 : Nat → Int32), k + n = nt → (∀ (g : Nat → Int64) (u13 : Nat → Int32) (u14 : Nat → Int32) (u15 : Nat → Int32), Ab M_X10_best Q (0, 0) 150 [(6, .int (nI nt)), (5, .int ((itr (fun k s => lp_best_st r5 p XX YY np k s.1 s.2) n k (fo, fw)).2)), (4, .int ((itr (fun k s => lp_best_st r5 p XX YY np k s.1 s.2) n k (fo, fw)).1)), (2, .int a2), (1, .int a1), (0, .ref 0)] [] ([ob 8 [.int f0_0, .ref 1, .ref 4, .ref 7, .ref 10, .ref 11, .ref 12, .ref 18, .ref 25, .ref 29], x1, x2, x3, ob 2 [.ref 5, .ref 6], ia 56 r5, ia 4 r6, x7, x8, x9, ob 3 [.int (Bg r5 a1), .int (Ba r5 a1), .int (Bb r5 a1), .int (Bc r5 a1)], ob 5 [.long (g 0), .long (g 1), .long (g 2), .long (g 3), .long (g 4), .long (g 5), .long (g 6), .long (g 7), .long (g 8), .long (g 9), .long (g 10), .long (g 11), .long (g 12), .long (g 13), .long (g 14), .long (g 15)], ob 1 [.ref 13, .ref 14, .ref 15, .ref 16, .ref 17, .int (nI (Cn p 40)), .int f12_6, .int f12_7, .int f12_8, .int f12_9], ia 40 u13, ia 40 u14, ia 40 u15, x16, x17, x18, x19, x20, x21, x22, x23, x24, x25, x26, x27, x28, x29, x30, x31, x32], wm)) → Ab M_X10_best Q (0, 0) 106 [(6, .int (nI k)), (5, .int fw), (4, .int fo), (2, .int a2), (1, .int a1), (0, .ref 0)] [] ([ob 8 [.int f0_0, .ref 1, .ref 4, .ref 7, .ref 10, .ref 11, .ref 12, .ref 18, .ref 25, .ref 29], x1, x2, x3, ob 2 [.ref 5, .ref 6], ia 56 r5, ia 4 r6, x7, x8, x9, ob 3 [.int (Bg r5 a1), .int (Ba r5 a1), .int (Bb r5 a1), .int (Bc r5 a1)], ob 5 [.long (g 0), .long (g 1), .long (g 2), .long (g 3), .long (g 4), .long (g 5), .long (g 6), .long (g 7), .long (g 8), .long (g 9), .long (g 10), .long (g 11), .long (g 12), .long (g 13), .long (g 14), .long (g 15)], ob 1 [.ref 13, .ref 14, .ref 15, .ref 16, .ref 17, .int (nI (Cn p 40)), .int f12_6, .int f12_7, .int f12_8, .int f12_9], ia 40 u13, ia 40 u14, ia 40 u15, x16, x17, x18, x19, x20, x21, x22, x23, x24, x25, x26, x27, x28, x29, x30, x31, x32], wm) := by
  intro n
  induction n with
  | zero =>
    intro k fo fw g u13 u14 u15 hk hx
    rw [itr_0] at hx
    rw [show k = nt by omega]
    refine ab_iload dX10_best_106 rfl ?_
    refine ab_aload_n dX10_best_108 rfl ?_
    refine ab_getf dX10_best_109 fl_X10_23 rfl rfl ?_
    refine ab_iconst (v := 1) dX10_best_112 (by decide) ?_
    refine ab_callV (As := [.int 1]) (rest := [.int (nI nt)]) dX10_best_113 mv_X2_count ml_X10_102 ⟨by decide, by decide, rfl, rfl, rfl⟩ (by decide) rfl rfl (Nat.le_of_ble_eq_true rfl) rfl c_X2_count_4_1 ?_
    rintro r w' ⟨rfl, rfl⟩
    refine ab_topi (v := (nI nt)) h_nt ?_
    refine ab_icmpge 150 dX10_best_116 (by decide) (fun h_1 => ?_) (fun h_1 => absurd (nI_le (b := nt) (Nat.le_refl _) (by omega)) h_1)
    refine ab_pick [0, 1, 2, 3, 4, 5] rfl ?_
    exact hx g u13 u14 u15
  | succ n ih =>
    intro k fo fw g u13 u14 u15 hk hx
    refine ab_iload dX10_best_106 rfl ?_
    refine ab_aload_n dX10_best_108 rfl ?_
    refine ab_getf dX10_best_109 fl_X10_23 rfl rfl ?_
    refine ab_iconst (v := 1) dX10_best_112 (by decide) ?_
    refine ab_callV (As := [.int 1]) (rest := [.int (nI k)]) dX10_best_113 mv_X2_count ml_X10_102 ⟨by decide, by decide, rfl, rfl, rfl⟩ (by decide) rfl rfl (Nat.le_of_ble_eq_true rfl) rfl c_X2_count_4_1 ?_
    rintro r w' ⟨rfl, rfl⟩
    refine ab_topi (v := (nI nt)) h_nt ?_
    refine ab_icmpge 150 dX10_best_116 (by decide) (fun h_1 => absurd h_1 (nI_ge (a := k) (b := nt) (by omega) (by omega))) (fun h_1 => ?_)
    refine ab_aload_n dX10_best_119 rfl ?_
    refine ab_iload_n dX10_best_120 rfl ?_
    refine ab_iload dX10_best_121 rfl ?_
    refine ab_iload_n dX10_best_123 rfl ?_
    refine ab_callV (As := [.int a1, .int (nI k), .int a2]) (rest := []) dX10_best_124 mv_X10_missesOf ml_X10_314 ⟨by decide, by decide, rfl, rfl, rfl⟩ (by decide) rfl rfl (Nat.le_of_ble_eq_true rfl) rfl (c_X10_missesOf (X := (XX (nI k))) (Y := (YY (nI k))) (p := p) (np := np) h_i h_c0 (⟨nI_pos' (by omega), by rw [h_nt]; exact nI_lt (by omega) (by omega)⟩) (by rw [h_nt]; exact nI_le h_nt4 (by decide)) h_p (h_X (nI k)) (h_Y (nI k)) (h_ok (nI k) ⟨nI_pos' (by omega), by rw [h_nt]; exact nI_lt (by omega) (by omega)⟩) h_np h_np8 h_ne) ?_
    rintro r w' ⟨g_1_2, g_2_3, rfl, rfl⟩
    refine ab_istore (la' := [(7, .int (itr (lp_ms_st r5 p (XX (nI k)) (YY (nI k))) np 0 0)), (6, .int (nI k)), (5, .int fw), (4, .int fo), (2, .int a2), (1, .int a1), (0, .ref 0)]) dX10_best_127 (by decide) rfl ?_
    refine ab_iload dX10_best_129 rfl ?_
    refine ab_iload dX10_best_131 rfl ?_
    refine ab_icmpge 144 dX10_best_133 (by decide) (fun h_4 => ?_) (fun h_4 => ?_)
    · refine ab_iinc (v := (nI (k + 1))) (la' := [(6, .int (nI (k + 1))), (7, .int (itr (lp_ms_st r5 p (XX (nI k)) (YY (nI k))) np 0 0)), (5, .int fw), (4, .int fo), (2, .int a2), (1, .int a1), (0, .ref 0)]) dX10_best_144 rfl (nI_1 _) (by decide) rfl ?_
      refine ab_goto 106 dX10_best_147 (by decide) ?_
      refine ab_pick [0, 2, 3, 4, 5, 6] rfl ?_
      rw [(itr_s (fun k s => lp_best_st r5 p XX YY np k s.1 s.2) n k (fo, fw)).trans (congrArg (itr (fun k s => lp_best_st r5 p XX YY np k s.1 s.2) n (k + 1)) (show lp_best_st r5 p XX YY np k fo fw = (fo, fw) from by rw [lp_best_st, if_pos (show fw ≤ (itr (lp_ms_st r5 p (XX (nI k)) (YY (nI k))) np 0 0) from h_4)]))] at hx
      exact ih (k + 1) fo fw (fun i => [(g_2_3 0), (g_2_3 1), (g_2_3 2), (g_2_3 3), (g_2_3 4), (g_2_3 5), (g_2_3 6), (g_2_3 7), (g_2_3 8), (g_2_3 9), (g_2_3 10), (g_2_3 11), (g_2_3 12), (g_2_3 13), (g_2_3 14), (g_2_3 15)].getD i 0) (crv p (XX (nI k)) u13 40) (crv p (YY (nI k)) u14 40) (crv p nI u15 40) (by omega) hx
    · refine ab_iload dX10_best_136 rfl ?_
      refine ab_istore (la' := [(4, .int (nI k)), (7, .int (itr (lp_ms_st r5 p (XX (nI k)) (YY (nI k))) np 0 0)), (6, .int (nI k)), (5, .int fw), (2, .int a2), (1, .int a1), (0, .ref 0)]) dX10_best_138 (by decide) rfl ?_
      refine ab_iload dX10_best_140 rfl ?_
      refine ab_istore (la' := [(5, .int (itr (lp_ms_st r5 p (XX (nI k)) (YY (nI k))) np 0 0)), (4, .int (nI k)), (7, .int (itr (lp_ms_st r5 p (XX (nI k)) (YY (nI k))) np 0 0)), (6, .int (nI k)), (2, .int a2), (1, .int a1), (0, .ref 0)]) dX10_best_142 (by decide) rfl ?_
      refine ab_iinc (v := (nI (k + 1))) (la' := [(6, .int (nI (k + 1))), (5, .int (itr (lp_ms_st r5 p (XX (nI k)) (YY (nI k))) np 0 0)), (4, .int (nI k)), (7, .int (itr (lp_ms_st r5 p (XX (nI k)) (YY (nI k))) np 0 0)), (2, .int a2), (1, .int a1), (0, .ref 0)]) dX10_best_144 rfl (nI_1 _) (by decide) rfl ?_
      refine ab_goto 106 dX10_best_147 (by decide) ?_
      refine ab_pick [0, 1, 2, 4, 5, 6] rfl ?_
      rw [(itr_s (fun k s => lp_best_st r5 p XX YY np k s.1 s.2) n k (fo, fw)).trans (congrArg (itr (fun k s => lp_best_st r5 p XX YY np k s.1 s.2) n (k + 1)) (show lp_best_st r5 p XX YY np k fo fw = ((nI k), (itr (lp_ms_st r5 p (XX (nI k)) (YY (nI k))) np 0 0)) from by rw [lp_best_st, if_neg (show ¬ fw ≤ (itr (lp_ms_st r5 p (XX (nI k)) (YY (nI k))) np 0 0) from h_4)]))] at hx
      exact ih (k + 1) (nI k) (itr (lp_ms_st r5 p (XX (nI k)) (YY (nI k))) np 0 0) (fun i => [(g_2_3 0), (g_2_3 1), (g_2_3 2), (g_2_3 3), (g_2_3 4), (g_2_3 5), (g_2_3 6), (g_2_3 7), (g_2_3 8), (g_2_3 9), (g_2_3 10), (g_2_3 11), (g_2_3 12), (g_2_3 13), (g_2_3 14), (g_2_3 15)].getD i 0) (crv p (XX (nI k)) u13 40) (crv p (YY (nI k)) u14 40) (crv p nI u15 40) (by omega) hx
theorem c_X10_best {f0_0 f10_0 f10_1 f10_2 f10_3 f12_5 f12_6 f12_7 f12_8 f12_9 a1 a2 : Int32} {x1 x2 x3 x7 x8 x9 x16 x17 x18 x19 x20 x21 x22 x23 x24 x25 x26 x27 x28 x29 x30 x31 x32 : ax_E} {r5 r6 r13 r14 r15 : Nat → Int32} {f11_0 f11_1 f11_2 f11_3 f11_4 f11_5 f11_6 f11_7 f11_8 f11_9 f11_10 f11_11 f11_12 f11_13 f11_14 f11_15 : Int64} {wm : List ax_E} {p : Nat → Bool} {XX YY : Int32 → Nat → Int32} {np nt : Nat} (h_c0 : r6 0 ≤ nI 4) (h_nt : r6 1 = nI nt) (h_nt4 : nt ≤ 4) (h_np : r6 2 = nI np) (h_np8 : np ≤ 8) (h_p : ∀ k, p k = true ↔ lawP r5 a1 k) (h_X : ∀ i k, k < 40 → lawP r5 a1 k → XX i k = cX r5 a1 (Cm r5 i) (Cq r5 i) a2 k) (h_Y : ∀ i k, k < 40 → lawP r5 a1 k → YY i k = cY r5 a1 (Cm r5 i) (Cq r5 i) a2 k) (h_ok : ((0 ≤ a1 ∧ a1 < r6 0) ∧ (0 ≤ a2 ∧ a2 < 2)) → ∀ i, (0 ≤ i ∧ i < r6 1) → ∀ k, k < 40 → lawP r5 a1 k → okS (cV0 r5 a1 (Cm r5 i) (Cq r5 i) a2 k) (pK r5 a1 k) ∧ okS (cV1 r5 a1 (Cm r5 i) (Cq r5 i) a2 k) (pK r5 a1 k) ∧ 0 < cW r5 a1 k) : Ct M_X10_best [.ref 0, .int a1, .int a2] ([ob 8 [.int f0_0, .ref 1, .ref 4, .ref 7, .ref 10, .ref 11, .ref 12, .ref 18, .ref 25, .ref 29], x1, x2, x3, ob 2 [.ref 5, .ref 6], ia 56 r5, ia 4 r6, x7, x8, x9, ob 3 [.int f10_0, .int f10_1, .int f10_2, .int f10_3], ob 5 [.long f11_0, .long f11_1, .long f11_2, .long f11_3, .long f11_4, .long f11_5, .long f11_6, .long f11_7, .long f11_8, .long f11_9, .long f11_10, .long f11_11, .long f11_12, .long f11_13, .long f11_14, .long f11_15], ob 1 [.ref 13, .ref 14, .ref 15, .ref 16, .ref 17, .int f12_5, .int f12_6, .int f12_7, .int f12_8, .int f12_9], ia 40 r13, ia 40 r14, ia 40 r15, x16, x17, x18, x19, x20, x21, x22, x23, x24, x25, x26, x27, x28, x29, x30, x31, x32], wm) (fun r w' => ((0 ≤ a1 ∧ a1 < r6 0) ∧ (0 ≤ a2 ∧ a2 < 2) ∧ ((nI nt) ≤ 0) ∧ r = some (.int (-1)) ∧ w' = ([ob 8 [.int 5, .ref 1, .ref 4, .ref 7, .ref 10, .ref 11, .ref 12, .ref 18, .ref 25, .ref 29], x1, x2, x3, ob 2 [.ref 5, .ref 6], ia 56 r5, ia 4 r6, x7, x8, x9, ob 3 [.int f10_0, .int f10_1, .int f10_2, .int f10_3], ob 5 [.long f11_0, .long f11_1, .long f11_2, .long f11_3, .long f11_4, .long f11_5, .long f11_6, .long f11_7, .long f11_8, .long f11_9, .long f11_10, .long f11_11, .long f11_12, .long f11_13, .long f11_14, .long f11_15], ob 1 [.ref 13, .ref 14, .ref 15, .ref 16, .ref 17, .int f12_5, .int f12_6, .int f12_7, .int f12_8, .int f12_9], ia 40 r13, ia 40 r14, ia 40 r15, x16, x17, x18, x19, x20, x21, x22, x23, x24, x25, x26, x27, x28, x29, x30, x31, x32], wm)) ∨ ((0 ≤ a1 ∧ a1 < r6 0) ∧ (0 ≤ a2 ∧ a2 < 2) ∧ (¬ (nI nt) ≤ 0) ∧ ((nI np) ≤ 0) ∧ r = some (.int (-1)) ∧ w' = ([ob 8 [.int 5, .ref 1, .ref 4, .ref 7, .ref 10, .ref 11, .ref 12, .ref 18, .ref 25, .ref 29], x1, x2, x3, ob 2 [.ref 5, .ref 6], ia 56 r5, ia 4 r6, x7, x8, x9, ob 3 [.int f10_0, .int f10_1, .int f10_2, .int f10_3], ob 5 [.long f11_0, .long f11_1, .long f11_2, .long f11_3, .long f11_4, .long f11_5, .long f11_6, .long f11_7, .long f11_8, .long f11_9, .long f11_10, .long f11_11, .long f11_12, .long f11_13, .long f11_14, .long f11_15], ob 1 [.ref 13, .ref 14, .ref 15, .ref 16, .ref 17, .int f12_5, .int f12_6, .int f12_7, .int f12_8, .int f12_9], ia 40 r13, ia 40 r14, ia 40 r15, x16, x17, x18, x19, x20, x21, x22, x23, x24, x25, x26, x27, x28, x29, x30, x31, x32], wm)) ∨ (∃ g_15 : Nat → Int64, (0 ≤ a1 ∧ a1 < r6 0) ∧ (0 ≤ a2 ∧ a2 < 2) ∧ (¬ (nI nt) ≤ 0) ∧ (¬ (nI np) ≤ 0) ∧ ((nI (Cn p 40)) = 0) ∧ r = some (.int (-1)) ∧ w' = ([ob 8 [.int 5, .ref 1, .ref 4, .ref 7, .ref 10, .ref 11, .ref 12, .ref 18, .ref 25, .ref 29], x1, x2, x3, ob 2 [.ref 5, .ref 6], ia 56 r5, ia 4 r6, x7, x8, x9, ob 3 [.int (Bg r5 a1), .int (Ba r5 a1), .int (Bb r5 a1), .int (Bc r5 a1)], ob 5 [.long (g_15 0), .long (g_15 1), .long (g_15 2), .long (g_15 3), .long (g_15 4), .long (g_15 5), .long (g_15 6), .long (g_15 7), .long (g_15 8), .long (g_15 9), .long (g_15 10), .long (g_15 11), .long (g_15 12), .long (g_15 13), .long (g_15 14), .long (g_15 15)], ob 1 [.ref 13, .ref 14, .ref 15, .ref 16, .ref 17, .int (nI (Cn p 40)), .int f12_6, .int f12_7, .int f12_8, .int f12_9], ia 40 (crv p (XX 0) r13 40), ia 40 (crv p (YY 0) r14 40), ia 40 (crv p nI r15 40), x16, x17, x18, x19, x20, x21, x22, x23, x24, x25, x26, x27, x28, x29, x30, x31, x32], wm)) ∨ (∃ g_15 : Nat → Int64, ∃ g_1_22 : Nat → Int64, ∃ g_2_23 : Nat → Int64, ∃ g_24 : Nat → Int64, ∃ u13_25 : Nat → Int32, ∃ u14_26 : Nat → Int32, ∃ u15_27 : Nat → Int32, (0 ≤ a1 ∧ a1 < r6 0) ∧ (0 ≤ a2 ∧ a2 < 2) ∧ (¬ (nI nt) ≤ 0) ∧ (¬ (nI np) ≤ 0) ∧ (¬ ((nI (Cn p 40)) = 0)) ∧ r = some (.int ((itr (fun k s => lp_best_st r5 p XX YY np k s.1 s.2) (nt - 1) 1 (0, (itr (lp_ms_st r5 p (XX 0) (YY 0)) np 0 0))).1)) ∧ w' = ([ob 8 [.int 0, .ref 1, .ref 4, .ref 7, .ref 10, .ref 11, .ref 12, .ref 18, .ref 25, .ref 29], x1, x2, x3, ob 2 [.ref 5, .ref 6], ia 56 r5, ia 4 r6, x7, x8, x9, ob 3 [.int (Bg r5 a1), .int (Ba r5 a1), .int (Bb r5 a1), .int (Bc r5 a1)], ob 5 [.long (g_24 0), .long (g_24 1), .long (g_24 2), .long (g_24 3), .long (g_24 4), .long (g_24 5), .long (g_24 6), .long (g_24 7), .long (g_24 8), .long (g_24 9), .long (g_24 10), .long (g_24 11), .long (g_24 12), .long (g_24 13), .long (g_24 14), .long (g_24 15)], ob 1 [.ref 13, .ref 14, .ref 15, .ref 16, .ref 17, .int (nI (Cn p 40)), .int f12_6, .int f12_7, .int f12_8, .int f12_9], ia 40 u13_25, ia 40 u14_26, ia 40 u15_27, x16, x17, x18, x19, x20, x21, x22, x23, x24, x25, x26, x27, x28, x29, x30, x31, x32], wm)) ∨ ((0 ≤ a1 ∧ a1 < r6 0) ∧ (¬ (0 ≤ a2 ∧ a2 < 2)) ∧ r = some (.int (-1)) ∧ w' = ([ob 8 [.int 1, .ref 1, .ref 4, .ref 7, .ref 10, .ref 11, .ref 12, .ref 18, .ref 25, .ref 29], x1, x2, x3, ob 2 [.ref 5, .ref 6], ia 56 r5, ia 4 r6, x7, x8, x9, ob 3 [.int f10_0, .int f10_1, .int f10_2, .int f10_3], ob 5 [.long f11_0, .long f11_1, .long f11_2, .long f11_3, .long f11_4, .long f11_5, .long f11_6, .long f11_7, .long f11_8, .long f11_9, .long f11_10, .long f11_11, .long f11_12, .long f11_13, .long f11_14, .long f11_15], ob 1 [.ref 13, .ref 14, .ref 15, .ref 16, .ref 17, .int f12_5, .int f12_6, .int f12_7, .int f12_8, .int f12_9], ia 40 r13, ia 40 r14, ia 40 r15, x16, x17, x18, x19, x20, x21, x22, x23, x24, x25, x26, x27, x28, x29, x30, x31, x32], wm)) ∨ ((¬ (0 ≤ a1 ∧ a1 < r6 0)) ∧ r = some (.int (-1)) ∧ w' = ([ob 8 [.int 1, .ref 1, .ref 4, .ref 7, .ref 10, .ref 11, .ref 12, .ref 18, .ref 25, .ref 29], x1, x2, x3, ob 2 [.ref 5, .ref 6], ia 56 r5, ia 4 r6, x7, x8, x9, ob 3 [.int f10_0, .int f10_1, .int f10_2, .int f10_3], ob 5 [.long f11_0, .long f11_1, .long f11_2, .long f11_3, .long f11_4, .long f11_5, .long f11_6, .long f11_7, .long f11_8, .long f11_9, .long f11_10, .long f11_11, .long f11_12, .long f11_13, .long f11_14, .long f11_15], ob 1 [.ref 13, .ref 14, .ref 15, .ref 16, .ref 17, .int f12_5, .int f12_6, .int f12_7, .int f12_8, .int f12_9], ia 40 r13, ia 40 r14, ia 40 r15, x16, x17, x18, x19, x20, x21, x22, x23, x24, x25, x26, x27, x28, x29, x30, x31, x32], wm))) := by
  refine ct_of ⟨by decide, rfl⟩ (Nat.le_of_ble_eq_true rfl) ?_
  refine ab_aload_n dX10_best_0 rfl ?_
  refine ab_aload_n dX10_best_1 rfl ?_
  refine ab_iload_n dX10_best_2 rfl ?_
  refine ab_callV (As := [.int a1]) (rest := [.ref 0]) dX10_best_3 mv_X10_hasLinkage ml_X10_133 ⟨by decide, by decide, rfl, rfl, rfl⟩ (by decide) rfl rfl (Nat.le_of_ble_eq_true rfl) rfl c_X10_hasLinkage ?_
  rintro r w' (⟨c_1, rfl, rfl⟩ | ⟨c_2, rfl, rfl⟩)
  · refine ab_ifeq 21 dX10_best_6 (by decide) (fun h_3 => absurd h_3 (by decide)) (fun h_3 => ?_)
    refine ab_iload_n dX10_best_9 rfl ?_
    refine ab_iconst (v := 2) dX10_best_10 (by decide) ?_
    refine ab_callS (As := [.int a2, .int 2]) (rest := [.ref 0]) dX10_best_11 ms_X10_isOf ml_X10_118 ⟨by decide, by decide, rfl, rfl, rfl⟩ (by decide) rfl rfl (Nat.le_of_ble_eq_true rfl) c_X10_isOf ?_
    rintro r w' (⟨c_4, rfl, rfl⟩ | ⟨c_5, rfl, rfl⟩)
    · refine ab_ifeq 21 dX10_best_14 (by decide) (fun h_6 => absurd h_6 (by decide)) (fun h_6 => ?_)
      refine ab_iconst (v := 1) dX10_best_17 (by decide) ?_
      refine ab_goto 22 dX10_best_18 (by decide) ?_
      refine ab_iconst (v := 1) dX10_best_22 (by decide) ?_
      refine ab_callV (As := [.int 1, .int 1]) (rest := []) dX10_best_23 mv_X10_refused ml_X10_84 ⟨by decide, by decide, rfl, rfl, rfl⟩ (by decide) rfl rfl (Nat.le_of_ble_eq_true rfl) rfl c_X10_refused_1 ?_
      rintro r w' ⟨rfl, rfl⟩
      refine ab_ifeq 31 dX10_best_26 (by decide) (fun h_7 => ?_) (fun h_7 => absurd (by decide) h_7)
      refine ab_aload_n dX10_best_31 rfl ?_
      refine ab_getf dX10_best_32 fl_X10_23 rfl rfl ?_
      refine ab_iconst (v := 1) dX10_best_35 (by decide) ?_
      refine ab_callV (As := [.int 1]) (rest := []) dX10_best_36 mv_X2_count ml_X10_102 ⟨by decide, by decide, rfl, rfl, rfl⟩ (by decide) rfl rfl (Nat.le_of_ble_eq_true rfl) rfl c_X2_count_4_1 ?_
      rintro r w' ⟨rfl, rfl⟩
      refine ab_topi (v := (nI nt)) h_nt ?_
      refine ab_ifle 57 dX10_best_39 (by decide) (fun h_8 => ?_) (fun h_8 => ?_)
      · refine ab_iconst (v := 0) dX10_best_57 (by decide) ?_
        refine ab_istore_n (la' := [(3, .int 0), (0, .ref 0), (1, .int a1), (2, .int a2)]) dX10_best_58 (by decide) rfl ?_
        refine ab_aload_n dX10_best_59 rfl ?_
        refine ab_iload_n dX10_best_60 rfl ?_
        refine ab_ifeq 81 dX10_best_61 (by decide) (fun h_9 => ?_) (fun h_9 => absurd (by decide) h_9)
        refine ab_iconst (v := 0) dX10_best_81 (by decide) ?_
        refine ab_iconst (v := 5) dX10_best_82 (by decide) ?_
        refine ab_callV (As := [.int 0, .int 5]) (rest := []) dX10_best_83 mv_X10_refused ml_X10_84 ⟨by decide, by decide, rfl, rfl, rfl⟩ (by decide) rfl rfl (Nat.le_of_ble_eq_true rfl) rfl c_X10_refused_0 ?_
        rintro r w' ⟨rfl, rfl⟩
        refine ab_ifeq 91 dX10_best_86 (by decide) (fun h_10 => absurd h_10 (by decide)) (fun h_10 => ?_)
        refine ab_iconst (v := -1) dX10_best_89 (by decide) ?_
        exact ab_iret dX10_best_90 rfl (by decide) (Or.inl ⟨c_1, c_4, h_8, rfl, rfl⟩)
      · refine ab_aload_n dX10_best_42 rfl ?_
        refine ab_getf dX10_best_43 fl_X10_23 rfl rfl ?_
        refine ab_iconst (v := 2) dX10_best_46 (by decide) ?_
        refine ab_callV (As := [.int 2]) (rest := []) dX10_best_47 mv_X2_count ml_X10_102 ⟨by decide, by decide, rfl, rfl, rfl⟩ (by decide) rfl rfl (Nat.le_of_ble_eq_true rfl) rfl c_X2_count_4_2 ?_
        rintro r w' ⟨rfl, rfl⟩
        refine ab_topi (v := (nI np)) h_np ?_
        refine ab_ifle 57 dX10_best_50 (by decide) (fun h_11 => ?_) (fun h_11 => ?_)
        · refine ab_iconst (v := 0) dX10_best_57 (by decide) ?_
          refine ab_istore_n (la' := [(3, .int 0), (0, .ref 0), (1, .int a1), (2, .int a2)]) dX10_best_58 (by decide) rfl ?_
          refine ab_aload_n dX10_best_59 rfl ?_
          refine ab_iload_n dX10_best_60 rfl ?_
          refine ab_ifeq 81 dX10_best_61 (by decide) (fun h_12 => ?_) (fun h_12 => absurd (by decide) h_12)
          refine ab_iconst (v := 0) dX10_best_81 (by decide) ?_
          refine ab_iconst (v := 5) dX10_best_82 (by decide) ?_
          refine ab_callV (As := [.int 0, .int 5]) (rest := []) dX10_best_83 mv_X10_refused ml_X10_84 ⟨by decide, by decide, rfl, rfl, rfl⟩ (by decide) rfl rfl (Nat.le_of_ble_eq_true rfl) rfl c_X10_refused_0 ?_
          rintro r w' ⟨rfl, rfl⟩
          refine ab_ifeq 91 dX10_best_86 (by decide) (fun h_13 => absurd h_13 (by decide)) (fun h_13 => ?_)
          refine ab_iconst (v := -1) dX10_best_89 (by decide) ?_
          exact ab_iret dX10_best_90 rfl (by decide) (Or.inr (Or.inl ⟨c_1, c_4, h_8, h_11, rfl, rfl⟩))
        · refine ab_iconst (v := 1) dX10_best_53 (by decide) ?_
          refine ab_goto 58 dX10_best_54 (by decide) ?_
          refine ab_istore_n (la' := [(3, .int 1), (0, .ref 0), (1, .int a1), (2, .int a2)]) dX10_best_58 (by decide) rfl ?_
          refine ab_aload_n dX10_best_59 rfl ?_
          refine ab_iload_n dX10_best_60 rfl ?_
          refine ab_ifeq 81 dX10_best_61 (by decide) (fun h_14 => absurd h_14 (by decide)) (fun h_14 => ?_)
          refine ab_aload_n dX10_best_64 rfl ?_
          refine ab_iload_n dX10_best_65 rfl ?_
          refine ab_iconst (v := 0) dX10_best_66 (by decide) ?_
          refine ab_iload_n dX10_best_67 rfl ?_
          refine ab_callV (As := [.int a1, .int 0, .int a2]) (rest := [.ref 0]) dX10_best_68 mv_X10_curveAt ml_X10_269 ⟨by decide, by decide, rfl, rfl, rfl⟩ (by decide) rfl rfl (Nat.le_of_ble_eq_true rfl) rfl (c_X10_curveAt (X := (XX 0)) (Y := (YY 0)) (p := p) c_1 h_c0 (show (0 : Int32) ≤ 0 ∧ (0 : Int32) < r6 1 from ⟨by decide, by rw [h_nt]; exact Int32.not_le.mp h_8⟩) (by rw [h_nt]; exact nI_le h_nt4 (by decide)) h_p (h_X 0) (h_Y 0) ((h_ok ⟨c_1, c_4⟩) 0 (show (0 : Int32) ≤ 0 ∧ (0 : Int32) < r6 1 from ⟨by decide, by rw [h_nt]; exact Int32.not_le.mp h_8⟩))) ?_
          rintro r w' ⟨g_15, rfl, rfl⟩
          refine ab_callV (As := []) (rest := [.ref 0]) dX10_best_71 mv_X1_isEmpty ml_X10_273 ⟨by decide, by decide, rfl, rfl, rfl⟩ (by decide) rfl rfl (Nat.le_of_ble_eq_true rfl) rfl c_X1_isEmpty ?_
          rintro r w' (⟨c_16, rfl, rfl⟩ | ⟨c_17, rfl, rfl⟩)
          · refine ab_ifne 81 dX10_best_74 (by decide) (fun h_18 => ?_) (fun h_18 => absurd h_18 (by decide))
            refine ab_iconst (v := 0) dX10_best_81 (by decide) ?_
            refine ab_iconst (v := 5) dX10_best_82 (by decide) ?_
            refine ab_callV (As := [.int 0, .int 5]) (rest := []) dX10_best_83 mv_X10_refused ml_X10_84 ⟨by decide, by decide, rfl, rfl, rfl⟩ (by decide) rfl rfl (Nat.le_of_ble_eq_true rfl) rfl c_X10_refused_0 ?_
            rintro r w' ⟨rfl, rfl⟩
            refine ab_ifeq 91 dX10_best_86 (by decide) (fun h_19 => absurd h_19 (by decide)) (fun h_19 => ?_)
            refine ab_iconst (v := -1) dX10_best_89 (by decide) ?_
            exact ab_iret dX10_best_90 rfl (by decide) (Or.inr (Or.inr (Or.inl ⟨g_15, c_1, c_4, h_8, h_11, c_16, rfl, rfl⟩)))
          · refine ab_ifne 81 dX10_best_74 (by decide) (fun h_20 => absurd (by decide) h_20) (fun h_20 => ?_)
            refine ab_iconst (v := 1) dX10_best_77 (by decide) ?_
            refine ab_goto 82 dX10_best_78 (by decide) ?_
            refine ab_iconst (v := 5) dX10_best_82 (by decide) ?_
            refine ab_callV (As := [.int 1, .int 5]) (rest := []) dX10_best_83 mv_X10_refused ml_X10_84 ⟨by decide, by decide, rfl, rfl, rfl⟩ (by decide) rfl rfl (Nat.le_of_ble_eq_true rfl) rfl c_X10_refused_1 ?_
            rintro r w' ⟨rfl, rfl⟩
            refine ab_ifeq 91 dX10_best_86 (by decide) (fun h_21 => ?_) (fun h_21 => absurd (by decide) h_21)
            refine ab_iconst (v := 0) dX10_best_91 (by decide) ?_
            refine ab_istore (la' := [(4, .int 0), (3, .int 1), (0, .ref 0), (1, .int a1), (2, .int a2)]) dX10_best_92 (by decide) rfl ?_
            refine ab_aload_n dX10_best_94 rfl ?_
            refine ab_iload_n dX10_best_95 rfl ?_
            refine ab_iconst (v := 0) dX10_best_96 (by decide) ?_
            refine ab_iload_n dX10_best_97 rfl ?_
            refine ab_callV (As := [.int a1, .int 0, .int a2]) (rest := []) dX10_best_98 mv_X10_missesOf ml_X10_314 ⟨by decide, by decide, rfl, rfl, rfl⟩ (by decide) rfl rfl (Nat.le_of_ble_eq_true rfl) rfl (c_X10_missesOf (X := (XX 0)) (Y := (YY 0)) (p := p) (np := np) c_1 h_c0 (show (0 : Int32) ≤ 0 ∧ (0 : Int32) < r6 1 from ⟨by decide, by rw [h_nt]; exact Int32.not_le.mp h_8⟩) (by rw [h_nt]; exact nI_le h_nt4 (by decide)) h_p (h_X 0) (h_Y 0) ((h_ok ⟨c_1, c_4⟩) 0 (show (0 : Int32) ≤ 0 ∧ (0 : Int32) < r6 1 from ⟨by decide, by rw [h_nt]; exact Int32.not_le.mp h_8⟩)) h_np h_np8 (Nat.pos_of_ne_zero (fun z => c_17 (by rw [z]; rfl)))) ?_
            rintro r w' ⟨g_1_22, g_2_23, rfl, rfl⟩
            refine ab_istore (la' := [(5, .int (itr (lp_ms_st r5 p (XX 0) (YY 0)) np 0 0)), (4, .int 0), (3, .int 1), (0, .ref 0), (1, .int a1), (2, .int a2)]) dX10_best_101 (by decide) rfl ?_
            refine ab_iconst (v := 1) dX10_best_103 (by decide) ?_
            refine ab_istore (la' := [(6, .int 1), (5, .int (itr (lp_ms_st r5 p (XX 0) (YY 0)) np 0 0)), (4, .int 0), (3, .int 1), (0, .ref 0), (1, .int a1), (2, .int a2)]) dX10_best_104 (by decide) rfl ?_
            have hnt1 : 0 < nt := n_pos h_8
            refine ab_pick [0, 1, 2, 6, 5, 4] rfl ?_
            refine lp_best c_1 h_c0 h_nt h_nt4 h_np h_np8 h_p h_X h_Y (Nat.pos_of_ne_zero (fun z => c_17 (by rw [z]; rfl))) (h_ok ⟨c_1, c_4⟩) (nt - 1) 1 0 (itr (lp_ms_st r5 p (XX 0) (YY 0)) np 0 0) (fun i => [(g_2_23 0), (g_2_23 1), (g_2_23 2), (g_2_23 3), (g_2_23 4), (g_2_23 5), (g_2_23 6), (g_2_23 7), (g_2_23 8), (g_2_23 9), (g_2_23 10), (g_2_23 11), (g_2_23 12), (g_2_23 13), (g_2_23 14), (g_2_23 15)].getD i 0) (crv p (XX 0) (crv p (XX 0) r13 40) 40) (crv p (YY 0) (crv p (YY 0) r14 40) 40) (crv p nI (crv p nI r15 40) 40) (by omega) ?_
            intro g_24 u13_25 u14_26 u15_27
            refine ab_iload dX10_best_150 rfl ?_
            exact ab_iret dX10_best_152 rfl (by decide) (Or.inr (Or.inr (Or.inr (Or.inl ⟨g_15, g_1_22, g_2_23, g_24, u13_25, u14_26, u15_27, c_1, c_4, h_8, h_11, c_17, rfl, rfl⟩))))
    · refine ab_ifeq 21 dX10_best_14 (by decide) (fun h_28 => ?_) (fun h_28 => absurd (by decide) h_28)
      refine ab_iconst (v := 0) dX10_best_21 (by decide) ?_
      refine ab_iconst (v := 1) dX10_best_22 (by decide) ?_
      refine ab_callV (As := [.int 0, .int 1]) (rest := []) dX10_best_23 mv_X10_refused ml_X10_84 ⟨by decide, by decide, rfl, rfl, rfl⟩ (by decide) rfl rfl (Nat.le_of_ble_eq_true rfl) rfl c_X10_refused_0 ?_
      rintro r w' ⟨rfl, rfl⟩
      refine ab_ifeq 31 dX10_best_26 (by decide) (fun h_29 => absurd h_29 (by decide)) (fun h_29 => ?_)
      refine ab_iconst (v := -1) dX10_best_29 (by decide) ?_
      exact ab_iret dX10_best_30 rfl (by decide) (Or.inr (Or.inr (Or.inr (Or.inr (Or.inl ⟨c_1, c_5, rfl, rfl⟩)))))
  · refine ab_ifeq 21 dX10_best_6 (by decide) (fun h_30 => ?_) (fun h_30 => absurd (by decide) h_30)
    refine ab_iconst (v := 0) dX10_best_21 (by decide) ?_
    refine ab_iconst (v := 1) dX10_best_22 (by decide) ?_
    refine ab_callV (As := [.int 0, .int 1]) (rest := []) dX10_best_23 mv_X10_refused ml_X10_84 ⟨by decide, by decide, rfl, rfl, rfl⟩ (by decide) rfl rfl (Nat.le_of_ble_eq_true rfl) rfl c_X10_refused_0 ?_
    rintro r w' ⟨rfl, rfl⟩
    refine ab_ifeq 31 dX10_best_26 (by decide) (fun h_31 => absurd h_31 (by decide)) (fun h_31 => ?_)
    refine ab_iconst (v := -1) dX10_best_29 (by decide) ?_
    exact ab_iret dX10_best_30 rfl (by decide) (Or.inr (Or.inr (Or.inr (Or.inr (Or.inr (⟨c_2, rfl, rfl⟩))))))
