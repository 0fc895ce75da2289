theorem c_X10_desk_i {f0_0 f1_3 f1_4 f1_5 f1_6 f18_6 f18_7 f18_8 f18_9 f18_10 f25_3 f25_4 f25_5 f25_6 f25_7 f29_3 f29_4 : Int32} {r2 r3 r8 r9 : Nat → Int32} {x4 x5 x6 x10 x11 x12 x13 x14 x15 x16 x17 x23 x24 x26 x27 x28 x30 x31 x32 : ax_E} {f18_11 f18_12 : Int64} {r19 r20 r21 r22 : Nat → Int64} {wm : List ax_E} {u : Nat → Nat} {n L : Nat} (h_n : n ≤ 700) (h_u : ∀ k, k < 700 → u k < 256 ∧ r2 k = sgn (u k)) (h_L : n ≤ L) (h_L7 : L ≤ 700) : Ct M_X10_desk [.ref 0, .int (nI n)] ([ob 8 [.int f0_0, .ref 1, .ref 4, .ref 7, .ref 10, .ref 11, .ref 12, .ref 18, .ref 25, .ref 29], ob 6 [.ref 2, .ref 3, .int (nI L), .int f1_3, .int f1_4, .int f1_5, .int f1_6], ba 700 r2, ia 4 r3, x4, x5, x6, ob 2 [.ref 8, .ref 9], ia 56 r8, ia 4 r9, x10, x11, x12, x13, x14, x15, x16, x17, ob 4 [.ref 19, .ref 20, .ref 21, .ref 22, .ref 23, .ref 24, .int f18_6, .int f18_7, .int f18_8, .int f18_9, .int f18_10, .long f18_11, .long f18_12], ja 4 r19, ja 4 r20, ja 4 r21, ja 4 r22, x23, x24, ob 7 [.ref 26, .ref 27, .ref 28, .int f25_3, .int f25_4, .int f25_5, .int f25_6, .int f25_7], x26, x27, x28, ob 0 [.ref 30, .ref 31, .ref 32, .int f29_3, .int f29_4], x30, x31, x32], wm) (fun r w' => (∃ e_4 : Nat × Nat, ∃ ga_5 : Int32, ∃ gr_6 : Nat → Int32, ∃ g8_7 : Nat → Int32, ∃ gc_8 : Nat → Nat, (pT u n = .inl e_4) ∧ r = some (.int (-1)) ∧ w' = ([ob 8 [.int 4, .ref 1, .ref 4, .ref 7, .ref 10, .ref 11, .ref 12, .ref 18, .ref 25, .ref 29], ob 6 [.ref 2, .ref 3, .int 0, .int (nI n), .int ga_5, .int (nI e_4.1), .int (nI e_4.2)], ba 700 r2, ia 4 gr_6, x4, x5, x6, ob 2 [.ref 8, .ref 9], ia 56 g8_7, ia 4 (ovl (nIf gc_8) 4 r9), x10, x11, x12, x13, x14, x15, x16, x17, ob 4 [.ref 19, .ref 20, .ref 21, .ref 22, .ref 23, .ref 24, .int f18_6, .int f18_7, .int f18_8, .int f18_9, .int f18_10, .long f18_11, .long f18_12], ja 4 r19, ja 4 r20, ja 4 r21, ja 4 r22, x23, x24, ob 7 [.ref 26, .ref 27, .ref 28, .int f25_3, .int f25_4, .int f25_5, .int f25_6, .int f25_7], x26, x27, x28, ob 0 [.ref 30, .ref 31, .ref 32, .int f29_3, .int f29_4], x30, x31, x32], wm)) ∨ (∃ s_10 : PS, ∃ ga_11 : Int32, ∃ gr_12 : Nat → Int32, ∃ g8_13 : Nat → Int32, (pT u n = .inr s_10) ∧ (Ag s_10.2.1 s_10.2.2 g8_13) ∧ (Bcn s_10.2.1) ∧ r = some (.int ((ovl (nIf s_10.2.1) 4 r9) 0)) ∧ w' = ([ob 8 [.int 0, .ref 1, .ref 7, .ref 4, .ref 10, .ref 11, .ref 12, .ref 18, .ref 25, .ref 29], ob 6 [.ref 2, .ref 3, .int 0, .int (nI n), .int ga_11, .int 0, .int (-1)], ba 700 r2, ia 4 gr_12, x4, x5, x6, ob 2 [.ref 8, .ref 9], ia 56 g8_13, ia 4 (ovl (nIf s_10.2.1) 4 r9), x10, x11, x12, x13, x14, x15, x16, x17, ob 4 [.ref 19, .ref 20, .ref 21, .ref 22, .ref 23, .ref 24, .int (nI (s_10.2.1 3)), .int 0, .int f18_8, .int f18_9, .int f18_10, .long ((itr (fun k s => lp_take7_st g8_13 k s.1 s.2.1 s.2.2.1 s.2.2.2.1 s.2.2.2.2) (s_10.2.1 3) 0 (r19, r20, r21, r22, 1)).2.2.2.2), .long f18_12], ja 4 ((itr (fun k s => lp_take7_st g8_13 k s.1 s.2.1 s.2.2.1 s.2.2.2.1 s.2.2.2.2) (s_10.2.1 3) 0 (r19, r20, r21, r22, 1)).1), ja 4 ((itr (fun k s => lp_take7_st g8_13 k s.1 s.2.1 s.2.2.1 s.2.2.2.1 s.2.2.2.2) (s_10.2.1 3) 0 (r19, r20, r21, r22, 1)).2.1), ja 4 ((itr (fun k s => lp_take7_st g8_13 k s.1 s.2.1 s.2.2.1 s.2.2.2.1 s.2.2.2.2) (s_10.2.1 3) 0 (r19, r20, r21, r22, 1)).2.2.1), ja 4 ((itr (fun k s => lp_take7_st g8_13 k s.1 s.2.1 s.2.2.1 s.2.2.2.1 s.2.2.2.2) (s_10.2.1 3) 0 (r19, r20, r21, r22, 1)).2.2.2.1), x23, x24, ob 7 [.ref 26, .ref 27, .ref 28, .int f25_3, .int (-1), .int f25_5, .int f25_6, .int f25_7], x26, x27, x28, ob 0 [.ref 30, .ref 31, .ref 32, .int f29_3, .int 0], x30, x31, x32], wm))) := by
  refine ct_of ⟨by decide, rfl⟩ (Nat.le_of_ble_eq_true rfl) ?_
  refine ab_aload_n dX10_desk_0 rfl ?_
  refine ab_iload_n dX10_desk_1 rfl ?_
  refine ab_iflt 20 dX10_desk_2 (by decide) (fun h_1 => absurd h_1 (Int32.not_lt.mpr (nI_pos' (by omega)))) (fun h_1 => ?_)
  refine ab_iload_n dX10_desk_5 rfl ?_
  refine ab_aload_n dX10_desk_6 rfl ?_
  refine ab_getf dX10_desk_7 fl_X10_16 rfl rfl ?_
  refine ab_callV (As := []) (rest := [.int (nI n), .ref 0]) dX10_desk_10 mv_X6_length ml_X10_80 ⟨by decide, by decide, rfl, rfl, rfl⟩ (by decide) rfl rfl (Nat.le_of_ble_eq_true rfl) rfl c_X6_length ?_
  rintro r w' ⟨rfl, rfl⟩
  refine ab_icmpgt 20 dX10_desk_13 (by decide) (fun h_2 => absurd h_2 (Int32.not_lt.mpr (nI_le h_L (by omega)))) (fun h_2 => ?_)
  refine ab_iconst (v := 1) dX10_desk_16 (by decide) ?_
  refine ab_goto 21 dX10_desk_17 (by decide) ?_
  refine ab_iconst (v := 2) dX10_desk_21 (by decide) ?_
  refine ab_callV (As := [.int 1, .int 2]) (rest := []) dX10_desk_22 mv_X10_refused ml_X10_84 ⟨by decide, by decide, rfl, rfl, rfl⟩ (by decide) rfl rfl (Nat.le_of_ble_eq_true rfl) rfl c_X10_refused_1 ?_
  rintro r w' ⟨rfl, rfl⟩
  refine ab_ifeq 30 dX10_desk_25 (by decide) (fun h_3 => ?_) (fun h_3 => absurd (by decide) h_3)
  refine ab_aload_n dX10_desk_30 rfl ?_
  refine ab_getf dX10_desk_31 fl_X10_16 rfl rfl ?_
  refine ab_iload_n dX10_desk_34 rfl ?_
  refine ab_aload_n dX10_desk_35 rfl ?_
  refine ab_getf dX10_desk_36 fl_X10_27 rfl rfl ?_
  refine ab_callV (As := [.int (nI n), .ref 7]) (rest := []) dX10_desk_39 mv_X6_reads ml_X10_88 ⟨by decide, by decide, rfl, rfl, rfl⟩ (by decide) rfl rfl (Nat.le_of_ble_eq_true rfl) rfl (c_X6_reads (n := n) (L := L) h_n h_u h_L h_L7) ?_
  rintro r w' (⟨e_4, ga_5, gr_6, g8_7, gc_8, c_9, rfl, rfl⟩ | ⟨s_10, ga_11, gr_12, g8_13, c_14, c_15, c_16, rfl, rfl⟩)
  · refine ab_istore_n (la' := [(2, .int 0), (0, .ref 0), (1, .int (nI n))]) dX10_desk_42 (by decide) rfl ?_
    refine ab_aload_n dX10_desk_43 rfl ?_
    refine ab_iload_n dX10_desk_44 rfl ?_
    refine ab_iconst (v := 4) dX10_desk_45 (by decide) ?_
    refine ab_callV (As := [.int 0, .int 4]) (rest := []) dX10_desk_46 mv_X10_refused ml_X10_84 ⟨by decide, by decide, rfl, rfl, rfl⟩ (by decide) rfl rfl (Nat.le_of_ble_eq_true rfl) rfl c_X10_refused_0 ?_
    rintro r w' ⟨rfl, rfl⟩
    refine ab_ifeq 54 dX10_desk_49 (by decide) (fun h_17 => absurd h_17 (by decide)) (fun h_17 => ?_)
    refine ab_iconst (v := -1) dX10_desk_52 (by decide) ?_
    exact ab_iret dX10_desk_53 rfl (by decide) (Or.inl ⟨e_4, ga_5, gr_6, g8_7, gc_8, c_9, rfl, rfl⟩)
  · refine ab_istore_n (la' := [(2, .int 1), (0, .ref 0), (1, .int (nI n))]) dX10_desk_42 (by decide) rfl ?_
    refine ab_aload_n dX10_desk_43 rfl ?_
    refine ab_iload_n dX10_desk_44 rfl ?_
    refine ab_iconst (v := 4) dX10_desk_45 (by decide) ?_
    refine ab_callV (As := [.int 1, .int 4]) (rest := []) dX10_desk_46 mv_X10_refused ml_X10_84 ⟨by decide, by decide, rfl, rfl, rfl⟩ (by decide) rfl rfl (Nat.le_of_ble_eq_true rfl) rfl c_X10_refused_1 ?_
    rintro r w' ⟨rfl, rfl⟩
    refine ab_ifeq 54 dX10_desk_49 (by decide) (fun h_18 => ?_) (fun h_18 => absurd (by decide) h_18)
    refine ab_aload_n dX10_desk_54 rfl ?_
    refine ab_getf dX10_desk_55 fl_X10_23 rfl rfl ?_
    refine ab_astore_n (la' := [(3, .ref 4), (2, .int 1), (0, .ref 0), (1, .int (nI n))]) dX10_desk_58 (by decide) rfl ?_
    refine ab_aload_n dX10_desk_59 rfl ?_
    refine ab_aload_n dX10_desk_60 rfl ?_
    refine ab_getf dX10_desk_61 fl_X10_27 rfl rfl ?_
    refine ab_putf (w1 := ([ob 8 [.int 0, .ref 1, .ref 7, .ref 7, .ref 10, .ref 11, .ref 12, .ref 18, .ref 25, .ref 29], ob 6 [.ref 2, .ref 3, .int 0, .int (nI n), .int ga_11, .int 0, .int (-1)], ba 700 r2, ia 4 gr_12, x4, x5, x6, ob 2 [.ref 8, .ref 9], ia 56 g8_13, ia 4 (ovl (nIf s_10.2.1) 4 r9), x10, x11, x12, x13, x14, x15, x16, x17, ob 4 [.ref 19, .ref 20, .ref 21, .ref 22, .ref 23, .ref 24, .int f18_6, .int f18_7, .int f18_8, .int f18_9, .int f18_10, .long f18_11, .long f18_12], ja 4 r19, ja 4 r20, ja 4 r21, ja 4 r22, x23, x24, ob 7 [.ref 26, .ref 27, .ref 28, .int f25_3, .int f25_4, .int f25_5, .int f25_6, .int f25_7], x26, x27, x28, ob 0 [.ref 30, .ref 31, .ref 32, .int f29_3, .int f29_4], x30, x31, x32], wm)) dX10_desk_64 fl_X10_23 rfl (Nat.le_of_ble_eq_true rfl) (fun _ => ⟨rfl, rfl⟩) rfl ?_
    refine ab_aload_n dX10_desk_67 rfl ?_
    refine ab_aload_n dX10_desk_68 rfl ?_
    refine ab_putf (w1 := ([ob 8 [.int 0, .ref 1, .ref 7, .ref 4, .ref 10, .ref 11, .ref 12, .ref 18, .ref 25, .ref 29], ob 6 [.ref 2, .ref 3, .int 0, .int (nI n), .int ga_11, .int 0, .int (-1)], ba 700 r2, ia 4 gr_12, x4, x5, x6, ob 2 [.ref 8, .ref 9], ia 56 g8_13, ia 4 (ovl (nIf s_10.2.1) 4 r9), x10, x11, x12, x13, x14, x15, x16, x17, ob 4 [.ref 19, .ref 20, .ref 21, .ref 22, .ref 23, .ref 24, .int f18_6, .int f18_7, .int f18_8, .int f18_9, .int f18_10, .long f18_11, .long f18_12], ja 4 r19, ja 4 r20, ja 4 r21, ja 4 r22, x23, x24, ob 7 [.ref 26, .ref 27, .ref 28, .int f25_3, .int f25_4, .int f25_5, .int f25_6, .int f25_7], x26, x27, x28, ob 0 [.ref 30, .ref 31, .ref 32, .int f29_3, .int f29_4], x30, x31, x32], wm)) dX10_desk_69 fl_X10_27 rfl (Nat.le_of_ble_eq_true rfl) (fun _ => ⟨rfl, rfl⟩) rfl ?_
    refine ab_aload_n dX10_desk_72 rfl ?_
    refine ab_getf dX10_desk_73 fl_X10_54 rfl rfl ?_
    refine ab_aload_n dX10_desk_76 rfl ?_
    refine ab_getf dX10_desk_77 fl_X10_23 rfl rfl ?_
    refine ab_callV (As := [.ref 7]) (rest := []) dX10_desk_80 mv_X4_take ml_X10_92 ⟨by decide, by decide, rfl, rfl, rfl⟩ (by decide) rfl rfl (Nat.le_of_ble_eq_true rfl) rfl (c_X4_take_7 (c := s_10.2.1) (r9 := r9) c_16) ?_
    rintro r w' ⟨rfl, rfl⟩
    refine ab_aload_n dX10_desk_83 rfl ?_
    refine ab_getf dX10_desk_84 fl_X10_61 rfl rfl ?_
    refine ab_callV (As := []) (rest := []) dX10_desk_87 mv_X8_stop ml_X10_96 ⟨by decide, by decide, rfl, rfl, rfl⟩ (by decide) rfl rfl (Nat.le_of_ble_eq_true rfl) rfl c_X8_stop ?_
    rintro r w' ⟨rfl, rfl⟩
    refine ab_aload_n dX10_desk_90 rfl ?_
    refine ab_getf dX10_desk_91 fl_X10_68 rfl rfl ?_
    refine ab_callV (As := []) (rest := []) dX10_desk_94 mv_X0_forget ml_X10_99 ⟨by decide, by decide, rfl, rfl, rfl⟩ (by decide) rfl rfl (Nat.le_of_ble_eq_true rfl) rfl c_X0_forget ?_
    rintro r w' ⟨rfl, rfl⟩
    refine ab_aload_n dX10_desk_97 rfl ?_
    refine ab_getf dX10_desk_98 fl_X10_23 rfl rfl ?_
    refine ab_iconst (v := 0) dX10_desk_101 (by decide) ?_
    refine ab_callV (As := [.int 0]) (rest := []) dX10_desk_102 mv_X2_count ml_X10_102 ⟨by decide, by decide, rfl, rfl, rfl⟩ (by decide) rfl rfl (Nat.le_of_ble_eq_true rfl) rfl c_X2_count_7_0 ?_
    rintro r w' ⟨rfl, rfl⟩
    exact ab_iret dX10_desk_105 rfl (by decide) (Or.inr (⟨s_10, ga_11, gr_12, g8_13, c_14, c_15, c_16, rfl, rfl⟩))
theorem c_X10_desk_o {f0_0 f1_2 f1_3 f1_4 f1_5 f1_6 a1 : Int32} {x2 x3 x4 x5 x6 x7 x8 x9 x10 x11 x12 x13 x14 x15 x16 x17 x18 x19 x20 x21 x22 x23 x24 x25 x26 x27 x28 x29 x30 x31 x32 : ax_E} {wm : List ax_E} (h_o : ¬ (0 ≤ a1 ∧ a1 ≤ f1_2)) : Ct M_X10_desk [.ref 0, .int a1] ([ob 8 [.int f0_0, .ref 1, .ref 4, .ref 7, .ref 10, .ref 11, .ref 12, .ref 18, .ref 25, .ref 29], ob 6 [.ref 2, .ref 3, .int f1_2, .int f1_3, .int f1_4, .int f1_5, .int f1_6], x2, x3, x4, x5, x6, x7, x8, x9, x10, x11, x12, x13, x14, x15, x16, x17, x18, x19, x20, x21, x22, x23, x24, x25, x26, x27, x28, x29, x30, x31, x32], wm) (fun r w' => ((a1 < 0) ∧ r = some (.int (-1)) ∧ w' = ([ob 8 [.int 2, .ref 1, .ref 4, .ref 7, .ref 10, .ref 11, .ref 12, .ref 18, .ref 25, .ref 29], ob 6 [.ref 2, .ref 3, .int f1_2, .int f1_3, .int f1_4, .int f1_5, .int f1_6], x2, x3, x4, x5, x6, x7, x8, x9, x10, x11, x12, x13, x14, x15, x16, x17, x18, x19, x20, x21, x22, x23, x24, x25, x26, x27, x28, x29, x30, x31, x32], wm)) ∨ ((¬ a1 < 0) ∧ r = some (.int (-1)) ∧ w' = ([ob 8 [.int 2, .ref 1, .ref 4, .ref 7, .ref 10, .ref 11, .ref 12, .ref 18, .ref 25, .ref 29], ob 6 [.ref 2, .ref 3, .int f1_2, .int f1_3, .int f1_4, .int f1_5, .int f1_6], x2, x3, x4, x5, x6, x7, x8, x9, x10, x11, x12, x13, x14, x15, x16, x17, x18, x19, x20, x21, x22, x23, x24, x25, x26, x27, x28, x29, x30, x31, x32], wm))) := by
  refine ct_of ⟨by decide, rfl⟩ (Nat.le_of_ble_eq_true rfl) ?_
  refine ab_aload_n dX10_desk_0 rfl ?_
  refine ab_iload_n dX10_desk_1 rfl ?_
  refine ab_iflt 20 dX10_desk_2 (by decide) (fun h_1 => ?_) (fun h_1 => ?_)
  · refine ab_iconst (v := 0) dX10_desk_20 (by decide) ?_
    refine ab_iconst (v := 2) dX10_desk_21 (by decide) ?_
    refine ab_callV (As := [.int 0, .int 2]) (rest := []) dX10_desk_22 mv_X10_refused ml_X10_84 ⟨by decide, by decide, rfl, rfl, rfl⟩ (by decide) rfl rfl (Nat.le_of_ble_eq_true rfl) rfl c_X10_refused_0 ?_
    rintro r w' ⟨rfl, rfl⟩
    refine ab_ifeq 30 dX10_desk_25 (by decide) (fun h_2 => absurd h_2 (by decide)) (fun h_2 => ?_)
    refine ab_iconst (v := -1) dX10_desk_28 (by decide) ?_
    exact ab_iret dX10_desk_29 rfl (by decide) (Or.inl ⟨h_1, rfl, rfl⟩)
  · refine ab_iload_n dX10_desk_5 rfl ?_
    refine ab_aload_n dX10_desk_6 rfl ?_
    refine ab_getf dX10_desk_7 fl_X10_16 rfl rfl ?_
    refine ab_callV (As := []) (rest := [.int a1, .ref 0]) dX10_desk_10 mv_X6_length ml_X10_80 ⟨by decide, by decide, rfl, rfl, rfl⟩ (by decide) rfl rfl (Nat.le_of_ble_eq_true rfl) rfl c_X6_length ?_
    rintro r w' ⟨rfl, rfl⟩
    refine ab_icmpgt 20 dX10_desk_13 (by decide) (fun h_3 => ?_) (fun h_3 => absurd ⟨Int32.not_lt.mp h_1, Int32.not_lt.mp h_3⟩ h_o)
    refine ab_iconst (v := 0) dX10_desk_20 (by decide) ?_
    refine ab_iconst (v := 2) dX10_desk_21 (by decide) ?_
    refine ab_callV (As := [.int 0, .int 2]) (rest := []) dX10_desk_22 mv_X10_refused ml_X10_84 ⟨by decide, by decide, rfl, rfl, rfl⟩ (by decide) rfl rfl (Nat.le_of_ble_eq_true rfl) rfl c_X10_refused_0 ?_
    rintro r w' ⟨rfl, rfl⟩
    refine ab_ifeq 30 dX10_desk_25 (by decide) (fun h_4 => absurd h_4 (by decide)) (fun h_4 => ?_)
    refine ab_iconst (v := -1) dX10_desk_28 (by decide) ?_
    exact ab_iret dX10_desk_29 rfl (by decide) (Or.inr (⟨h_1, rfl, rfl⟩))
