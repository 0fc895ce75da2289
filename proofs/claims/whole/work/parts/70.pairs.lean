def lp_take_st (r5 : Nat → Int32) (k : Nat) (ca : Nat → Int64) (ar : Nat → Int64) (bo : Nat → Int64) (al : Nat → Int64) (u : Int64) : (Nat → Int64) × (Nat → Int64) × (Nat → Int64) × (Nat → Int64) × Int64 := ((vp_updL ca k (Int32.toInt64 ((((r5 (40 + Int32.toNatClampNeg (nI k) * 4 + 1)) * (r5 (40 + Int32.toNatClampNeg (nI k) * 4 + 1))) - ((r5 (40 + Int32.toNatClampNeg (nI k) * 4 + 0)) * (r5 (40 + Int32.toNatClampNeg (nI k) * 4 + 0)))) * (((r5 (40 + Int32.toNatClampNeg (nI k) * 4 + 2)) * (r5 (40 + Int32.toNatClampNeg (nI k) * 4 + 2))) + ((r5 (40 + Int32.toNatClampNeg (nI k) * 4 + 3)) * (r5 (40 + Int32.toNatClampNeg (nI k) * 4 + 3))))))), (vp_updL ar k (Int32.toInt64 ((((r5 (40 + Int32.toNatClampNeg (nI k) * 4 + 3)) * (r5 (40 + Int32.toNatClampNeg (nI k) * 4 + 3))) - ((r5 (40 + Int32.toNatClampNeg (nI k) * 4 + 2)) * (r5 (40 + Int32.toNatClampNeg (nI k) * 4 + 2)))) * (((r5 (40 + Int32.toNatClampNeg (nI k) * 4 + 0)) * (r5 (40 + Int32.toNatClampNeg (nI k) * 4 + 0))) + ((r5 (40 + Int32.toNatClampNeg (nI k) * 4 + 1)) * (r5 (40 + Int32.toNatClampNeg (nI k) * 4 + 1))))))), (vp_updL bo k (Int32.toInt64 (((((r5 (40 + Int32.toNatClampNeg (nI k) * 4 + 1)) * (r5 (40 + Int32.toNatClampNeg (nI k) * 4 + 1))) - ((r5 (40 + Int32.toNatClampNeg (nI k) * 4 + 0)) * (r5 (40 + Int32.toNatClampNeg (nI k) * 4 + 0)))) * (((r5 (40 + Int32.toNatClampNeg (nI k) * 4 + 3)) * (r5 (40 + Int32.toNatClampNeg (nI k) * 4 + 3))) - ((r5 (40 + Int32.toNatClampNeg (nI k) * 4 + 2)) * (r5 (40 + Int32.toNatClampNeg (nI k) * 4 + 2))))) + (((2 * (r5 (40 + Int32.toNatClampNeg (nI k) * 4 + 0))) * (r5 (40 + Int32.toNatClampNeg (nI k) * 4 + 1))) * ((2 * (r5 (40 + Int32.toNatClampNeg (nI k) * 4 + 2))) * (r5 (40 + Int32.toNatClampNeg (nI k) * 4 + 3))))))), (vp_updL al k (Int32.toInt64 ((((r5 (40 + Int32.toNatClampNeg (nI k) * 4 + 0)) * (r5 (40 + Int32.toNatClampNeg (nI k) * 4 + 0))) + ((r5 (40 + Int32.toNatClampNeg (nI k) * 4 + 1)) * (r5 (40 + Int32.toNatClampNeg (nI k) * 4 + 1)))) * (((r5 (40 + Int32.toNatClampNeg (nI k) * 4 + 2)) * (r5 (40 + Int32.toNatClampNeg (nI k) * 4 + 2))) + ((r5 (40 + Int32.toNatClampNeg (nI k) * 4 + 3)) * (r5 (40 + Int32.toNatClampNeg (nI k) * 4 + 3))))))), (u * ((vp_updL al k (Int32.toInt64 ((((r5 (40 + Int32.toNatClampNeg (nI k) * 4 + 0)) * (r5 (40 + Int32.toNatClampNeg (nI k) * 4 + 0))) + ((r5 (40 + Int32.toNatClampNeg (nI k) * 4 + 1)) * (r5 (40 + Int32.toNatClampNeg (nI k) * 4 + 1)))) * (((r5 (40 + Int32.toNatClampNeg (nI k) * 4 + 2)) * (r5 (40 + Int32.toNatClampNeg (nI k) * 4 + 2))) + ((r5 (40 + Int32.toNatClampNeg (nI k) * 4 + 3)) * (r5 (40 + Int32.toNatClampNeg (nI k) * 4 + 3))))))) k)))
set_option maxHeartbeats 400000 in
theorem lp_take {x0 x1 x2 x3 x7 x8 x9 x10 x11 x12 x13 x14 x15 x16 x17 x23 x24 x25 x26 x27 x28 x29 x30 x31 x32 : ax_E} {r5 r6 : Nat → Int32} {f18_8 f18_9 f18_10 : Int32} {f18_12 : Int64} {wm : List ax_E} {nr : Nat} {Q : Option Value → ax_W → Prop} (h_n3 : r6 3 = nI nr) (h_nr : nr ≤ 4) : ∀ (n k : Nat) (ca : Nat → Int64) (ar : Nat → Int64) (bo : Nat → Int64) (al : Nat → Int64) (u : Int64) , k + n = nr → Ab M_X4_take Q (0, 0) 188 [(2, .int (nI nr)), (1, .ref 4), (0, .ref 18)] [] ([x0, x1, x2, x3, ob 2 [.ref 5, .ref 6], ia 56 r5, ia 4 r6, x7, x8, x9, x10, x11, x12, x13, x14, x15, x16, x17, ob 4 [.ref 19, .ref 20, .ref 21, .ref 22, .ref 23, .ref 24, .int (nI nr), .int 0, .int f18_8, .int f18_9, .int f18_10, .long ((itr (fun k s => lp_take_st r5 k s.1 s.2.1 s.2.2.1 s.2.2.2.1 s.2.2.2.2) n k (ca, ar, bo, al, u)).2.2.2.2), .long f18_12], ja 4 ((itr (fun k s => lp_take_st r5 k s.1 s.2.1 s.2.2.1 s.2.2.2.1 s.2.2.2.2) n k (ca, ar, bo, al, u)).1), ja 4 ((itr (fun k s => lp_take_st r5 k s.1 s.2.1 s.2.2.1 s.2.2.2.1 s.2.2.2.2) n k (ca, ar, bo, al, u)).2.1), ja 4 ((itr (fun k s => lp_take_st r5 k s.1 s.2.1 s.2.2.1 s.2.2.2.1 s.2.2.2.2) n k (ca, ar, bo, al, u)).2.2.1), ja 4 ((itr (fun k s => lp_take_st r5 k s.1 s.2.1 s.2.2.1 s.2.2.2.1 s.2.2.2.2) n k (ca, ar, bo, al, u)).2.2.2.1), x23, x24, x25, x26, x27, x28, x29, x30, x31, x32], wm) → Ab M_X4_take Q (0, 0) 25 [(2, .int (nI k)), (1, .ref 4), (0, .ref 18)] [] ([x0, x1, x2, x3, ob 2 [.ref 5, .ref 6], ia 56 r5, ia 4 r6, x7, x8, x9, x10, x11, x12, x13, x14, x15, x16, x17, ob 4 [.ref 19, .ref 20, .ref 21, .ref 22, .ref 23, .ref 24, .int (nI nr), .int 0, .int f18_8, .int f18_9, .int f18_10, .long u, .long f18_12], ja 4 ca, ja 4 ar, ja 4 bo, ja 4 al, x23, x24, x25, x26, x27, x28, x29, x30, x31, x32], wm) := by
  intro n
  induction n with
  | zero =>
    intro k ca ar bo al u  hk hx
    rw [itr_0] at hx
    rw [show k = nr by omega]
    refine ab_iload_n dX4_take_25 rfl ?_
    refine ab_aload_n dX4_take_26 rfl ?_
    refine ab_getf dX4_take_27 fl_X4_30 rfl rfl ?_
    refine ab_icmpge 188 dX4_take_30 (by decide) (fun h_1 => ?_) (fun h_1 => absurd (nI_le (b := nr) (Nat.le_refl _) (by omega)) h_1)
    refine ab_pick [0, 1, 2] rfl ?_
    exact hx 
  | succ n ih =>
    intro k ca ar bo al u  hk hx
    refine ab_iload_n dX4_take_25 rfl ?_
    refine ab_aload_n dX4_take_26 rfl ?_
    refine ab_getf dX4_take_27 fl_X4_30 rfl rfl ?_
    refine ab_icmpge 188 dX4_take_30 (by decide) (fun h_1 => absurd h_1 (nI_ge (a := k) (b := nr) (by omega) (by omega))) (fun h_1 => ?_)
    refine ab_aload_n dX4_take_33 rfl ?_
    refine ab_iconst (v := 3) dX4_take_34 (by decide) ?_
    refine ab_iload_n dX4_take_35 rfl ?_
    refine ab_iconst (v := 0) dX4_take_36 (by decide) ?_
    refine ab_callV (As := [.int 3, .int (nI k), .int 0]) (rest := []) dX4_take_37 mv_X2_told ml_X4_64 ⟨by decide, by decide, rfl, rfl, rfl⟩ (by decide) rfl rfl (Nat.le_of_ble_eq_true rfl) rfl (c_X2_told_3 (by rw [h_n3]; exact ⟨nI_pos' (by omega), nI_lt (by omega) (by omega)⟩) (by rw [h_n3]; exact nI_le (b := 4) h_nr (by decide)) (by decide)) ?_
    rintro r w' ⟨rfl, rfl⟩
    refine ab_istore_n (la' := [(3, .int (r5 (40 + Int32.toNatClampNeg (nI k) * 4 + 0))), (2, .int (nI k)), (1, .ref 4), (0, .ref 18)]) dX4_take_40 (by decide) rfl ?_
    refine ab_aload_n dX4_take_41 rfl ?_
    refine ab_iconst (v := 3) dX4_take_42 (by decide) ?_
    refine ab_iload_n dX4_take_43 rfl ?_
    refine ab_iconst (v := 1) dX4_take_44 (by decide) ?_
    refine ab_callV (As := [.int 3, .int (nI k), .int 1]) (rest := []) dX4_take_45 mv_X2_told ml_X4_64 ⟨by decide, by decide, rfl, rfl, rfl⟩ (by decide) rfl rfl (Nat.le_of_ble_eq_true rfl) rfl (c_X2_told_3 (by rw [h_n3]; exact ⟨nI_pos' (by omega), nI_lt (by omega) (by omega)⟩) (by rw [h_n3]; exact nI_le (b := 4) h_nr (by decide)) (by decide)) ?_
    rintro r w' ⟨rfl, rfl⟩
    refine ab_istore (la' := [(4, .int (r5 (40 + Int32.toNatClampNeg (nI k) * 4 + 1))), (3, .int (r5 (40 + Int32.toNatClampNeg (nI k) * 4 + 0))), (2, .int (nI k)), (1, .ref 4), (0, .ref 18)]) dX4_take_48 (by decide) rfl ?_
    refine ab_aload_n dX4_take_50 rfl ?_
    refine ab_iconst (v := 3) dX4_take_51 (by decide) ?_
    refine ab_iload_n dX4_take_52 rfl ?_
    refine ab_iconst (v := 2) dX4_take_53 (by decide) ?_
    refine ab_callV (As := [.int 3, .int (nI k), .int 2]) (rest := []) dX4_take_54 mv_X2_told ml_X4_64 ⟨by decide, by decide, rfl, rfl, rfl⟩ (by decide) rfl rfl (Nat.le_of_ble_eq_true rfl) rfl (c_X2_told_3 (by rw [h_n3]; exact ⟨nI_pos' (by omega), nI_lt (by omega) (by omega)⟩) (by rw [h_n3]; exact nI_le (b := 4) h_nr (by decide)) (by decide)) ?_
    rintro r w' ⟨rfl, rfl⟩
    refine ab_istore (la' := [(5, .int (r5 (40 + Int32.toNatClampNeg (nI k) * 4 + 2))), (4, .int (r5 (40 + Int32.toNatClampNeg (nI k) * 4 + 1))), (3, .int (r5 (40 + Int32.toNatClampNeg (nI k) * 4 + 0))), (2, .int (nI k)), (1, .ref 4), (0, .ref 18)]) dX4_take_57 (by decide) rfl ?_
    refine ab_aload_n dX4_take_59 rfl ?_
    refine ab_iconst (v := 3) dX4_take_60 (by decide) ?_
    refine ab_iload_n dX4_take_61 rfl ?_
    refine ab_iconst (v := 3) dX4_take_62 (by decide) ?_
    refine ab_callV (As := [.int 3, .int (nI k), .int 3]) (rest := []) dX4_take_63 mv_X2_told ml_X4_64 ⟨by decide, by decide, rfl, rfl, rfl⟩ (by decide) rfl rfl (Nat.le_of_ble_eq_true rfl) rfl (c_X2_told_3 (by rw [h_n3]; exact ⟨nI_pos' (by omega), nI_lt (by omega) (by omega)⟩) (by rw [h_n3]; exact nI_le (b := 4) h_nr (by decide)) (by decide)) ?_
    rintro r w' ⟨rfl, rfl⟩
    refine ab_istore (la' := [(6, .int (r5 (40 + Int32.toNatClampNeg (nI k) * 4 + 3))), (5, .int (r5 (40 + Int32.toNatClampNeg (nI k) * 4 + 2))), (4, .int (r5 (40 + Int32.toNatClampNeg (nI k) * 4 + 1))), (3, .int (r5 (40 + Int32.toNatClampNeg (nI k) * 4 + 0))), (2, .int (nI k)), (1, .ref 4), (0, .ref 18)]) dX4_take_66 (by decide) rfl ?_
    refine ab_aload_n dX4_take_68 rfl ?_
    refine ab_getf dX4_take_69 fl_X4_11 rfl rfl ?_
    refine ab_iload_n dX4_take_72 rfl ?_
    refine ab_iload_n dX4_take_73 rfl ?_
    refine ab_iload dX4_take_74 rfl ?_
    refine ab_callS (As := [.int (r5 (40 + Int32.toNatClampNeg (nI k) * 4 + 0)), .int (r5 (40 + Int32.toNatClampNeg (nI k) * 4 + 1))]) (rest := [.int (nI k), .ref 19]) dX4_take_76 ms_X7_cosine ml_X4_68 ⟨by decide, by decide, rfl, rfl, rfl⟩ (by decide) rfl rfl (Nat.le_of_ble_eq_true rfl) c_X7_cosine ?_
    rintro r w' ⟨rfl, rfl⟩
    refine ab_iload dX4_take_79 rfl ?_
    refine ab_iload dX4_take_81 rfl ?_
    refine ab_callS (As := [.int (r5 (40 + Int32.toNatClampNeg (nI k) * 4 + 2)), .int (r5 (40 + Int32.toNatClampNeg (nI k) * 4 + 3))]) (rest := [.int (((r5 (40 + Int32.toNatClampNeg (nI k) * 4 + 1)) * (r5 (40 + Int32.toNatClampNeg (nI k) * 4 + 1))) - ((r5 (40 + Int32.toNatClampNeg (nI k) * 4 + 0)) * (r5 (40 + Int32.toNatClampNeg (nI k) * 4 + 0)))), .int (nI k), .ref 19]) dX4_take_83 ms_X7_norm ml_X4_73 ⟨by decide, by decide, rfl, rfl, rfl⟩ (by decide) rfl rfl (Nat.le_of_ble_eq_true rfl) c_X7_norm ?_
    rintro r w' ⟨rfl, rfl⟩
    refine ab_imul dX4_take_86 ?_
    refine ab_i2l dX4_take_87 ?_
    refine ab_last (w1 := ([x0, x1, x2, x3, ob 2 [.ref 5, .ref 6], ia 56 r5, ia 4 r6, x7, x8, x9, x10, x11, x12, x13, x14, x15, x16, x17, ob 4 [.ref 19, .ref 20, .ref 21, .ref 22, .ref 23, .ref 24, .int (nI nr), .int 0, .int f18_8, .int f18_9, .int f18_10, .long u, .long f18_12], ja 4 (vp_updL ca k (Int32.toInt64 ((((r5 (40 + Int32.toNatClampNeg (nI k) * 4 + 1)) * (r5 (40 + Int32.toNatClampNeg (nI k) * 4 + 1))) - ((r5 (40 + Int32.toNatClampNeg (nI k) * 4 + 0)) * (r5 (40 + Int32.toNatClampNeg (nI k) * 4 + 0)))) * (((r5 (40 + Int32.toNatClampNeg (nI k) * 4 + 2)) * (r5 (40 + Int32.toNatClampNeg (nI k) * 4 + 2))) + ((r5 (40 + Int32.toNatClampNeg (nI k) * 4 + 3)) * (r5 (40 + Int32.toNatClampNeg (nI k) * 4 + 3))))))), ja 4 ar, ja 4 bo, ja 4 al, x23, x24, x25, x26, x27, x28, x29, x30, x31, x32], wm)) dX4_take_88 rfl (ix_nI (by omega) (by decide)) rfl ?_
    refine ab_aload_n dX4_take_89 rfl ?_
    refine ab_getf dX4_take_90 fl_X4_15 rfl rfl ?_
    refine ab_iload_n dX4_take_93 rfl ?_
    refine ab_iload dX4_take_94 rfl ?_
    refine ab_iload dX4_take_96 rfl ?_
    refine ab_callS (As := [.int (r5 (40 + Int32.toNatClampNeg (nI k) * 4 + 2)), .int (r5 (40 + Int32.toNatClampNeg (nI k) * 4 + 3))]) (rest := [.int (nI k), .ref 20]) dX4_take_98 ms_X7_cosine ml_X4_68 ⟨by decide, by decide, rfl, rfl, rfl⟩ (by decide) rfl rfl (Nat.le_of_ble_eq_true rfl) c_X7_cosine ?_
    rintro r w' ⟨rfl, rfl⟩
    refine ab_iload_n dX4_take_101 rfl ?_
    refine ab_iload dX4_take_102 rfl ?_
    refine ab_callS (As := [.int (r5 (40 + Int32.toNatClampNeg (nI k) * 4 + 0)), .int (r5 (40 + Int32.toNatClampNeg (nI k) * 4 + 1))]) (rest := [.int (((r5 (40 + Int32.toNatClampNeg (nI k) * 4 + 3)) * (r5 (40 + Int32.toNatClampNeg (nI k) * 4 + 3))) - ((r5 (40 + Int32.toNatClampNeg (nI k) * 4 + 2)) * (r5 (40 + Int32.toNatClampNeg (nI k) * 4 + 2)))), .int (nI k), .ref 20]) dX4_take_104 ms_X7_norm ml_X4_73 ⟨by decide, by decide, rfl, rfl, rfl⟩ (by decide) rfl rfl (Nat.le_of_ble_eq_true rfl) c_X7_norm ?_
    rintro r w' ⟨rfl, rfl⟩
    refine ab_imul dX4_take_107 ?_
    refine ab_i2l dX4_take_108 ?_
    refine ab_last (w1 := ([x0, x1, x2, x3, ob 2 [.ref 5, .ref 6], ia 56 r5, ia 4 r6, x7, x8, x9, x10, x11, x12, x13, x14, x15, x16, x17, ob 4 [.ref 19, .ref 20, .ref 21, .ref 22, .ref 23, .ref 24, .int (nI nr), .int 0, .int f18_8, .int f18_9, .int f18_10, .long u, .long f18_12], ja 4 (vp_updL ca k (Int32.toInt64 ((((r5 (40 + Int32.toNatClampNeg (nI k) * 4 + 1)) * (r5 (40 + Int32.toNatClampNeg (nI k) * 4 + 1))) - ((r5 (40 + Int32.toNatClampNeg (nI k) * 4 + 0)) * (r5 (40 + Int32.toNatClampNeg (nI k) * 4 + 0)))) * (((r5 (40 + Int32.toNatClampNeg (nI k) * 4 + 2)) * (r5 (40 + Int32.toNatClampNeg (nI k) * 4 + 2))) + ((r5 (40 + Int32.toNatClampNeg (nI k) * 4 + 3)) * (r5 (40 + Int32.toNatClampNeg (nI k) * 4 + 3))))))), ja 4 (vp_updL ar k (Int32.toInt64 ((((r5 (40 + Int32.toNatClampNeg (nI k) * 4 + 3)) * (r5 (40 + Int32.toNatClampNeg (nI k) * 4 + 3))) - ((r5 (40 + Int32.toNatClampNeg (nI k) * 4 + 2)) * (r5 (40 + Int32.toNatClampNeg (nI k) * 4 + 2)))) * (((r5 (40 + Int32.toNatClampNeg (nI k) * 4 + 0)) * (r5 (40 + Int32.toNatClampNeg (nI k) * 4 + 0))) + ((r5 (40 + Int32.toNatClampNeg (nI k) * 4 + 1)) * (r5 (40 + Int32.toNatClampNeg (nI k) * 4 + 1))))))), ja 4 bo, ja 4 al, x23, x24, x25, x26, x27, x28, x29, x30, x31, x32], wm)) dX4_take_109 rfl (ix_nI (by omega) (by decide)) rfl ?_
    refine ab_aload_n dX4_take_110 rfl ?_
    refine ab_getf dX4_take_111 fl_X4_18 rfl rfl ?_
    refine ab_iload_n dX4_take_114 rfl ?_
    refine ab_iload_n dX4_take_115 rfl ?_
    refine ab_iload dX4_take_116 rfl ?_
    refine ab_callS (As := [.int (r5 (40 + Int32.toNatClampNeg (nI k) * 4 + 0)), .int (r5 (40 + Int32.toNatClampNeg (nI k) * 4 + 1))]) (rest := [.int (nI k), .ref 21]) dX4_take_118 ms_X7_cosine ml_X4_68 ⟨by decide, by decide, rfl, rfl, rfl⟩ (by decide) rfl rfl (Nat.le_of_ble_eq_true rfl) c_X7_cosine ?_
    rintro r w' ⟨rfl, rfl⟩
    refine ab_iload dX4_take_121 rfl ?_
    refine ab_iload dX4_take_123 rfl ?_
    refine ab_callS (As := [.int (r5 (40 + Int32.toNatClampNeg (nI k) * 4 + 2)), .int (r5 (40 + Int32.toNatClampNeg (nI k) * 4 + 3))]) (rest := [.int (((r5 (40 + Int32.toNatClampNeg (nI k) * 4 + 1)) * (r5 (40 + Int32.toNatClampNeg (nI k) * 4 + 1))) - ((r5 (40 + Int32.toNatClampNeg (nI k) * 4 + 0)) * (r5 (40 + Int32.toNatClampNeg (nI k) * 4 + 0)))), .int (nI k), .ref 21]) dX4_take_125 ms_X7_cosine ml_X4_68 ⟨by decide, by decide, rfl, rfl, rfl⟩ (by decide) rfl rfl (Nat.le_of_ble_eq_true rfl) c_X7_cosine ?_
    rintro r w' ⟨rfl, rfl⟩
    refine ab_imul dX4_take_128 ?_
    refine ab_iload_n dX4_take_129 rfl ?_
    refine ab_iload dX4_take_130 rfl ?_
    refine ab_callS (As := [.int (r5 (40 + Int32.toNatClampNeg (nI k) * 4 + 0)), .int (r5 (40 + Int32.toNatClampNeg (nI k) * 4 + 1))]) (rest := [.int ((((r5 (40 + Int32.toNatClampNeg (nI k) * 4 + 1)) * (r5 (40 + Int32.toNatClampNeg (nI k) * 4 + 1))) - ((r5 (40 + Int32.toNatClampNeg (nI k) * 4 + 0)) * (r5 (40 + Int32.toNatClampNeg (nI k) * 4 + 0)))) * (((r5 (40 + Int32.toNatClampNeg (nI k) * 4 + 3)) * (r5 (40 + Int32.toNatClampNeg (nI k) * 4 + 3))) - ((r5 (40 + Int32.toNatClampNeg (nI k) * 4 + 2)) * (r5 (40 + Int32.toNatClampNeg (nI k) * 4 + 2))))), .int (nI k), .ref 21]) dX4_take_132 ms_X7_sine ml_X4_76 ⟨by decide, by decide, rfl, rfl, rfl⟩ (by decide) rfl rfl (Nat.le_of_ble_eq_true rfl) c_X7_sine ?_
    rintro r w' ⟨rfl, rfl⟩
    refine ab_iload dX4_take_135 rfl ?_
    refine ab_iload dX4_take_137 rfl ?_
    refine ab_callS (As := [.int (r5 (40 + Int32.toNatClampNeg (nI k) * 4 + 2)), .int (r5 (40 + Int32.toNatClampNeg (nI k) * 4 + 3))]) (rest := [.int ((2 * (r5 (40 + Int32.toNatClampNeg (nI k) * 4 + 0))) * (r5 (40 + Int32.toNatClampNeg (nI k) * 4 + 1))), .int ((((r5 (40 + Int32.toNatClampNeg (nI k) * 4 + 1)) * (r5 (40 + Int32.toNatClampNeg (nI k) * 4 + 1))) - ((r5 (40 + Int32.toNatClampNeg (nI k) * 4 + 0)) * (r5 (40 + Int32.toNatClampNeg (nI k) * 4 + 0)))) * (((r5 (40 + Int32.toNatClampNeg (nI k) * 4 + 3)) * (r5 (40 + Int32.toNatClampNeg (nI k) * 4 + 3))) - ((r5 (40 + Int32.toNatClampNeg (nI k) * 4 + 2)) * (r5 (40 + Int32.toNatClampNeg (nI k) * 4 + 2))))), .int (nI k), .ref 21]) dX4_take_139 ms_X7_sine ml_X4_76 ⟨by decide, by decide, rfl, rfl, rfl⟩ (by decide) rfl rfl (Nat.le_of_ble_eq_true rfl) c_X7_sine ?_
    rintro r w' ⟨rfl, rfl⟩
    refine ab_imul dX4_take_142 ?_
    refine ab_iadd dX4_take_143 ?_
    refine ab_i2l dX4_take_144 ?_
    refine ab_last (w1 := ([x0, x1, x2, x3, ob 2 [.ref 5, .ref 6], ia 56 r5, ia 4 r6, x7, x8, x9, x10, x11, x12, x13, x14, x15, x16, x17, ob 4 [.ref 19, .ref 20, .ref 21, .ref 22, .ref 23, .ref 24, .int (nI nr), .int 0, .int f18_8, .int f18_9, .int f18_10, .long u, .long f18_12], ja 4 (vp_updL ca k (Int32.toInt64 ((((r5 (40 + Int32.toNatClampNeg (nI k) * 4 + 1)) * (r5 (40 + Int32.toNatClampNeg (nI k) * 4 + 1))) - ((r5 (40 + Int32.toNatClampNeg (nI k) * 4 + 0)) * (r5 (40 + Int32.toNatClampNeg (nI k) * 4 + 0)))) * (((r5 (40 + Int32.toNatClampNeg (nI k) * 4 + 2)) * (r5 (40 + Int32.toNatClampNeg (nI k) * 4 + 2))) + ((r5 (40 + Int32.toNatClampNeg (nI k) * 4 + 3)) * (r5 (40 + Int32.toNatClampNeg (nI k) * 4 + 3))))))), ja 4 (vp_updL ar k (Int32.toInt64 ((((r5 (40 + Int32.toNatClampNeg (nI k) * 4 + 3)) * (r5 (40 + Int32.toNatClampNeg (nI k) * 4 + 3))) - ((r5 (40 + Int32.toNatClampNeg (nI k) * 4 + 2)) * (r5 (40 + Int32.toNatClampNeg (nI k) * 4 + 2)))) * (((r5 (40 + Int32.toNatClampNeg (nI k) * 4 + 0)) * (r5 (40 + Int32.toNatClampNeg (nI k) * 4 + 0))) + ((r5 (40 + Int32.toNatClampNeg (nI k) * 4 + 1)) * (r5 (40 + Int32.toNatClampNeg (nI k) * 4 + 1))))))), ja 4 (vp_updL bo k (Int32.toInt64 (((((r5 (40 + Int32.toNatClampNeg (nI k) * 4 + 1)) * (r5 (40 + Int32.toNatClampNeg (nI k) * 4 + 1))) - ((r5 (40 + Int32.toNatClampNeg (nI k) * 4 + 0)) * (r5 (40 + Int32.toNatClampNeg (nI k) * 4 + 0)))) * (((r5 (40 + Int32.toNatClampNeg (nI k) * 4 + 3)) * (r5 (40 + Int32.toNatClampNeg (nI k) * 4 + 3))) - ((r5 (40 + Int32.toNatClampNeg (nI k) * 4 + 2)) * (r5 (40 + Int32.toNatClampNeg (nI k) * 4 + 2))))) + (((2 * (r5 (40 + Int32.toNatClampNeg (nI k) * 4 + 0))) * (r5 (40 + Int32.toNatClampNeg (nI k) * 4 + 1))) * ((2 * (r5 (40 + Int32.toNatClampNeg (nI k) * 4 + 2))) * (r5 (40 + Int32.toNatClampNeg (nI k) * 4 + 3))))))), ja 4 al, x23, x24, x25, x26, x27, x28, x29, x30, x31, x32], wm)) dX4_take_145 rfl (ix_nI (by omega) (by decide)) rfl ?_
    refine ab_aload_n dX4_take_146 rfl ?_
    refine ab_getf dX4_take_147 fl_X4_21 rfl rfl ?_
    refine ab_iload_n dX4_take_150 rfl ?_
    refine ab_iload_n dX4_take_151 rfl ?_
    refine ab_iload dX4_take_152 rfl ?_
    refine ab_callS (As := [.int (r5 (40 + Int32.toNatClampNeg (nI k) * 4 + 0)), .int (r5 (40 + Int32.toNatClampNeg (nI k) * 4 + 1))]) (rest := [.int (nI k), .ref 22]) dX4_take_154 ms_X7_norm ml_X4_73 ⟨by decide, by decide, rfl, rfl, rfl⟩ (by decide) rfl rfl (Nat.le_of_ble_eq_true rfl) c_X7_norm ?_
    rintro r w' ⟨rfl, rfl⟩
    refine ab_iload dX4_take_157 rfl ?_
    refine ab_iload dX4_take_159 rfl ?_
    refine ab_callS (As := [.int (r5 (40 + Int32.toNatClampNeg (nI k) * 4 + 2)), .int (r5 (40 + Int32.toNatClampNeg (nI k) * 4 + 3))]) (rest := [.int (((r5 (40 + Int32.toNatClampNeg (nI k) * 4 + 0)) * (r5 (40 + Int32.toNatClampNeg (nI k) * 4 + 0))) + ((r5 (40 + Int32.toNatClampNeg (nI k) * 4 + 1)) * (r5 (40 + Int32.toNatClampNeg (nI k) * 4 + 1)))), .int (nI k), .ref 22]) dX4_take_161 ms_X7_norm ml_X4_73 ⟨by decide, by decide, rfl, rfl, rfl⟩ (by decide) rfl rfl (Nat.le_of_ble_eq_true rfl) c_X7_norm ?_
    rintro r w' ⟨rfl, rfl⟩
    refine ab_imul dX4_take_164 ?_
    refine ab_i2l dX4_take_165 ?_
    refine ab_last (w1 := ([x0, x1, x2, x3, ob 2 [.ref 5, .ref 6], ia 56 r5, ia 4 r6, x7, x8, x9, x10, x11, x12, x13, x14, x15, x16, x17, ob 4 [.ref 19, .ref 20, .ref 21, .ref 22, .ref 23, .ref 24, .int (nI nr), .int 0, .int f18_8, .int f18_9, .int f18_10, .long u, .long f18_12], ja 4 (vp_updL ca k (Int32.toInt64 ((((r5 (40 + Int32.toNatClampNeg (nI k) * 4 + 1)) * (r5 (40 + Int32.toNatClampNeg (nI k) * 4 + 1))) - ((r5 (40 + Int32.toNatClampNeg (nI k) * 4 + 0)) * (r5 (40 + Int32.toNatClampNeg (nI k) * 4 + 0)))) * (((r5 (40 + Int32.toNatClampNeg (nI k) * 4 + 2)) * (r5 (40 + Int32.toNatClampNeg (nI k) * 4 + 2))) + ((r5 (40 + Int32.toNatClampNeg (nI k) * 4 + 3)) * (r5 (40 + Int32.toNatClampNeg (nI k) * 4 + 3))))))), ja 4 (vp_updL ar k (Int32.toInt64 ((((r5 (40 + Int32.toNatClampNeg (nI k) * 4 + 3)) * (r5 (40 + Int32.toNatClampNeg (nI k) * 4 + 3))) - ((r5 (40 + Int32.toNatClampNeg (nI k) * 4 + 2)) * (r5 (40 + Int32.toNatClampNeg (nI k) * 4 + 2)))) * (((r5 (40 + Int32.toNatClampNeg (nI k) * 4 + 0)) * (r5 (40 + Int32.toNatClampNeg (nI k) * 4 + 0))) + ((r5 (40 + Int32.toNatClampNeg (nI k) * 4 + 1)) * (r5 (40 + Int32.toNatClampNeg (nI k) * 4 + 1))))))), ja 4 (vp_updL bo k (Int32.toInt64 (((((r5 (40 + Int32.toNatClampNeg (nI k) * 4 + 1)) * (r5 (40 + Int32.toNatClampNeg (nI k) * 4 + 1))) - ((r5 (40 + Int32.toNatClampNeg (nI k) * 4 + 0)) * (r5 (40 + Int32.toNatClampNeg (nI k) * 4 + 0)))) * (((r5 (40 + Int32.toNatClampNeg (nI k) * 4 + 3)) * (r5 (40 + Int32.toNatClampNeg (nI k) * 4 + 3))) - ((r5 (40 + Int32.toNatClampNeg (nI k) * 4 + 2)) * (r5 (40 + Int32.toNatClampNeg (nI k) * 4 + 2))))) + (((2 * (r5 (40 + Int32.toNatClampNeg (nI k) * 4 + 0))) * (r5 (40 + Int32.toNatClampNeg (nI k) * 4 + 1))) * ((2 * (r5 (40 + Int32.toNatClampNeg (nI k) * 4 + 2))) * (r5 (40 + Int32.toNatClampNeg (nI k) * 4 + 3))))))), ja 4 (vp_updL al k (Int32.toInt64 ((((r5 (40 + Int32.toNatClampNeg (nI k) * 4 + 0)) * (r5 (40 + Int32.toNatClampNeg (nI k) * 4 + 0))) + ((r5 (40 + Int32.toNatClampNeg (nI k) * 4 + 1)) * (r5 (40 + Int32.toNatClampNeg (nI k) * 4 + 1)))) * (((r5 (40 + Int32.toNatClampNeg (nI k) * 4 + 2)) * (r5 (40 + Int32.toNatClampNeg (nI k) * 4 + 2))) + ((r5 (40 + Int32.toNatClampNeg (nI k) * 4 + 3)) * (r5 (40 + Int32.toNatClampNeg (nI k) * 4 + 3))))))), x23, x24, x25, x26, x27, x28, x29, x30, x31, x32], wm)) dX4_take_166 rfl (ix_nI (by omega) (by decide)) rfl ?_
    refine ab_aload_n dX4_take_167 rfl ?_
    refine ab_dup rfl dX4_take_168 ?_
    refine ab_getf dX4_take_169 fl_X4_46 rfl rfl ?_
    refine ab_aload_n dX4_take_172 rfl ?_
    refine ab_getf dX4_take_173 fl_X4_21 rfl rfl ?_
    refine ab_iload_n dX4_take_176 rfl ?_
    refine ab_lald (j := k) dX4_take_177 rfl (ix_nI (by omega) (by decide)) ?_
    refine ab_lmul dX4_take_178 ?_
    refine ab_putf (w1 := ([x0, x1, x2, x3, ob 2 [.ref 5, .ref 6], ia 56 r5, ia 4 r6, x7, x8, x9, x10, x11, x12, x13, x14, x15, x16, x17, ob 4 [.ref 19, .ref 20, .ref 21, .ref 22, .ref 23, .ref 24, .int (nI nr), .int 0, .int f18_8, .int f18_9, .int f18_10, .long (u * ((vp_updL al k (Int32.toInt64 ((((r5 (40 + Int32.toNatClampNeg (nI k) * 4 + 0)) * (r5 (40 + Int32.toNatClampNeg (nI k) * 4 + 0))) + ((r5 (40 + Int32.toNatClampNeg (nI k) * 4 + 1)) * (r5 (40 + Int32.toNatClampNeg (nI k) * 4 + 1)))) * (((r5 (40 + Int32.toNatClampNeg (nI k) * 4 + 2)) * (r5 (40 + Int32.toNatClampNeg (nI k) * 4 + 2))) + ((r5 (40 + Int32.toNatClampNeg (nI k) * 4 + 3)) * (r5 (40 + Int32.toNatClampNeg (nI k) * 4 + 3))))))) k)), .long f18_12], ja 4 (vp_updL ca k (Int32.toInt64 ((((r5 (40 + Int32.toNatClampNeg (nI k) * 4 + 1)) * (r5 (40 + Int32.toNatClampNeg (nI k) * 4 + 1))) - ((r5 (40 + Int32.toNatClampNeg (nI k) * 4 + 0)) * (r5 (40 + Int32.toNatClampNeg (nI k) * 4 + 0)))) * (((r5 (40 + Int32.toNatClampNeg (nI k) * 4 + 2)) * (r5 (40 + Int32.toNatClampNeg (nI k) * 4 + 2))) + ((r5 (40 + Int32.toNatClampNeg (nI k) * 4 + 3)) * (r5 (40 + Int32.toNatClampNeg (nI k) * 4 + 3))))))), ja 4 (vp_updL ar k (Int32.toInt64 ((((r5 (40 + Int32.toNatClampNeg (nI k) * 4 + 3)) * (r5 (40 + Int32.toNatClampNeg (nI k) * 4 + 3))) - ((r5 (40 + Int32.toNatClampNeg (nI k) * 4 + 2)) * (r5 (40 + Int32.toNatClampNeg (nI k) * 4 + 2)))) * (((r5 (40 + Int32.toNatClampNeg (nI k) * 4 + 0)) * (r5 (40 + Int32.toNatClampNeg (nI k) * 4 + 0))) + ((r5 (40 + Int32.toNatClampNeg (nI k) * 4 + 1)) * (r5 (40 + Int32.toNatClampNeg (nI k) * 4 + 1))))))), ja 4 (vp_updL bo k (Int32.toInt64 (((((r5 (40 + Int32.toNatClampNeg (nI k) * 4 + 1)) * (r5 (40 + Int32.toNatClampNeg (nI k) * 4 + 1))) - ((r5 (40 + Int32.toNatClampNeg (nI k) * 4 + 0)) * (r5 (40 + Int32.toNatClampNeg (nI k) * 4 + 0)))) * (((r5 (40 + Int32.toNatClampNeg (nI k) * 4 + 3)) * (r5 (40 + Int32.toNatClampNeg (nI k) * 4 + 3))) - ((r5 (40 + Int32.toNatClampNeg (nI k) * 4 + 2)) * (r5 (40 + Int32.toNatClampNeg (nI k) * 4 + 2))))) + (((2 * (r5 (40 + Int32.toNatClampNeg (nI k) * 4 + 0))) * (r5 (40 + Int32.toNatClampNeg (nI k) * 4 + 1))) * ((2 * (r5 (40 + Int32.toNatClampNeg (nI k) * 4 + 2))) * (r5 (40 + Int32.toNatClampNeg (nI k) * 4 + 3))))))), ja 4 (vp_updL al k (Int32.toInt64 ((((r5 (40 + Int32.toNatClampNeg (nI k) * 4 + 0)) * (r5 (40 + Int32.toNatClampNeg (nI k) * 4 + 0))) + ((r5 (40 + Int32.toNatClampNeg (nI k) * 4 + 1)) * (r5 (40 + Int32.toNatClampNeg (nI k) * 4 + 1)))) * (((r5 (40 + Int32.toNatClampNeg (nI k) * 4 + 2)) * (r5 (40 + Int32.toNatClampNeg (nI k) * 4 + 2))) + ((r5 (40 + Int32.toNatClampNeg (nI k) * 4 + 3)) * (r5 (40 + Int32.toNatClampNeg (nI k) * 4 + 3))))))), x23, x24, x25, x26, x27, x28, x29, x30, x31, x32], wm)) dX4_take_179 fl_X4_46 rfl (Nat.le_of_ble_eq_true rfl) (fun _ => ⟨rfl, rfl⟩) rfl ?_
    refine ab_iinc (v := (nI (k + 1))) (la' := [(2, .int (nI (k + 1))), (6, .int (r5 (40 + Int32.toNatClampNeg (nI k) * 4 + 3))), (5, .int (r5 (40 + Int32.toNatClampNeg (nI k) * 4 + 2))), (4, .int (r5 (40 + Int32.toNatClampNeg (nI k) * 4 + 1))), (3, .int (r5 (40 + Int32.toNatClampNeg (nI k) * 4 + 0))), (1, .ref 4), (0, .ref 18)]) dX4_take_182 rfl (nI_1 _) (by decide) rfl ?_
    refine ab_goto 25 dX4_take_185 (by decide) ?_
    refine ab_pick [0, 5, 6] rfl ?_
    rw [(itr_s (fun k s => lp_take_st r5 k s.1 s.2.1 s.2.2.1 s.2.2.2.1 s.2.2.2.2) n k (ca, ar, bo, al, u)).trans (congrArg (itr (fun k s => lp_take_st r5 k s.1 s.2.1 s.2.2.1 s.2.2.2.1 s.2.2.2.2) n (k + 1)) (show lp_take_st r5 k ca ar bo al u = ((vp_updL ca k (Int32.toInt64 ((((r5 (40 + Int32.toNatClampNeg (nI k) * 4 + 1)) * (r5 (40 + Int32.toNatClampNeg (nI k) * 4 + 1))) - ((r5 (40 + Int32.toNatClampNeg (nI k) * 4 + 0)) * (r5 (40 + Int32.toNatClampNeg (nI k) * 4 + 0)))) * (((r5 (40 + Int32.toNatClampNeg (nI k) * 4 + 2)) * (r5 (40 + Int32.toNatClampNeg (nI k) * 4 + 2))) + ((r5 (40 + Int32.toNatClampNeg (nI k) * 4 + 3)) * (r5 (40 + Int32.toNatClampNeg (nI k) * 4 + 3))))))), (vp_updL ar k (Int32.toInt64 ((((r5 (40 + Int32.toNatClampNeg (nI k) * 4 + 3)) * (r5 (40 + Int32.toNatClampNeg (nI k) * 4 + 3))) - ((r5 (40 + Int32.toNatClampNeg (nI k) * 4 + 2)) * (r5 (40 + Int32.toNatClampNeg (nI k) * 4 + 2)))) * (((r5 (40 + Int32.toNatClampNeg (nI k) * 4 + 0)) * (r5 (40 + Int32.toNatClampNeg (nI k) * 4 + 0))) + ((r5 (40 + Int32.toNatClampNeg (nI k) * 4 + 1)) * (r5 (40 + Int32.toNatClampNeg (nI k) * 4 + 1))))))), (vp_updL bo k (Int32.toInt64 (((((r5 (40 + Int32.toNatClampNeg (nI k) * 4 + 1)) * (r5 (40 + Int32.toNatClampNeg (nI k) * 4 + 1))) - ((r5 (40 + Int32.toNatClampNeg (nI k) * 4 + 0)) * (r5 (40 + Int32.toNatClampNeg (nI k) * 4 + 0)))) * (((r5 (40 + Int32.toNatClampNeg (nI k) * 4 + 3)) * (r5 (40 + Int32.toNatClampNeg (nI k) * 4 + 3))) - ((r5 (40 + Int32.toNatClampNeg (nI k) * 4 + 2)) * (r5 (40 + Int32.toNatClampNeg (nI k) * 4 + 2))))) + (((2 * (r5 (40 + Int32.toNatClampNeg (nI k) * 4 + 0))) * (r5 (40 + Int32.toNatClampNeg (nI k) * 4 + 1))) * ((2 * (r5 (40 + Int32.toNatClampNeg (nI k) * 4 + 2))) * (r5 (40 + Int32.toNatClampNeg (nI k) * 4 + 3))))))), (vp_updL al k (Int32.toInt64 ((((r5 (40 + Int32.toNatClampNeg (nI k) * 4 + 0)) * (r5 (40 + Int32.toNatClampNeg (nI k) * 4 + 0))) + ((r5 (40 + Int32.toNatClampNeg (nI k) * 4 + 1)) * (r5 (40 + Int32.toNatClampNeg (nI k) * 4 + 1)))) * (((r5 (40 + Int32.toNatClampNeg (nI k) * 4 + 2)) * (r5 (40 + Int32.toNatClampNeg (nI k) * 4 + 2))) + ((r5 (40 + Int32.toNatClampNeg (nI k) * 4 + 3)) * (r5 (40 + Int32.toNatClampNeg (nI k) * 4 + 3))))))), (u * ((vp_updL al k (Int32.toInt64 ((((r5 (40 + Int32.toNatClampNeg (nI k) * 4 + 0)) * (r5 (40 + Int32.toNatClampNeg (nI k) * 4 + 0))) + ((r5 (40 + Int32.toNatClampNeg (nI k) * 4 + 1)) * (r5 (40 + Int32.toNatClampNeg (nI k) * 4 + 1)))) * (((r5 (40 + Int32.toNatClampNeg (nI k) * 4 + 2)) * (r5 (40 + Int32.toNatClampNeg (nI k) * 4 + 2))) + ((r5 (40 + Int32.toNatClampNeg (nI k) * 4 + 3)) * (r5 (40 + Int32.toNatClampNeg (nI k) * 4 + 3))))))) k))) from rfl))] at hx
    exact ih (k + 1) (vp_updL ca k (Int32.toInt64 ((((r5 (40 + Int32.toNatClampNeg (nI k) * 4 + 1)) * (r5 (40 + Int32.toNatClampNeg (nI k) * 4 + 1))) - ((r5 (40 + Int32.toNatClampNeg (nI k) * 4 + 0)) * (r5 (40 + Int32.toNatClampNeg (nI k) * 4 + 0)))) * (((r5 (40 + Int32.toNatClampNeg (nI k) * 4 + 2)) * (r5 (40 + Int32.toNatClampNeg (nI k) * 4 + 2))) + ((r5 (40 + Int32.toNatClampNeg (nI k) * 4 + 3)) * (r5 (40 + Int32.toNatClampNeg (nI k) * 4 + 3))))))) (vp_updL ar k (Int32.toInt64 ((((r5 (40 + Int32.toNatClampNeg (nI k) * 4 + 3)) * (r5 (40 + Int32.toNatClampNeg (nI k) * 4 + 3))) - ((r5 (40 + Int32.toNatClampNeg (nI k) * 4 + 2)) * (r5 (40 + Int32.toNatClampNeg (nI k) * 4 + 2)))) * (((r5 (40 + Int32.toNatClampNeg (nI k) * 4 + 0)) * (r5 (40 + Int32.toNatClampNeg (nI k) * 4 + 0))) + ((r5 (40 + Int32.toNatClampNeg (nI k) * 4 + 1)) * (r5 (40 + Int32.toNatClampNeg (nI k) * 4 + 1))))))) (vp_updL bo k (Int32.toInt64 (((((r5 (40 + Int32.toNatClampNeg (nI k) * 4 + 1)) * (r5 (40 + Int32.toNatClampNeg (nI k) * 4 + 1))) - ((r5 (40 + Int32.toNatClampNeg (nI k) * 4 + 0)) * (r5 (40 + Int32.toNatClampNeg (nI k) * 4 + 0)))) * (((r5 (40 + Int32.toNatClampNeg (nI k) * 4 + 3)) * (r5 (40 + Int32.toNatClampNeg (nI k) * 4 + 3))) - ((r5 (40 + Int32.toNatClampNeg (nI k) * 4 + 2)) * (r5 (40 + Int32.toNatClampNeg (nI k) * 4 + 2))))) + (((2 * (r5 (40 + Int32.toNatClampNeg (nI k) * 4 + 0))) * (r5 (40 + Int32.toNatClampNeg (nI k) * 4 + 1))) * ((2 * (r5 (40 + Int32.toNatClampNeg (nI k) * 4 + 2))) * (r5 (40 + Int32.toNatClampNeg (nI k) * 4 + 3))))))) (vp_updL al k (Int32.toInt64 ((((r5 (40 + Int32.toNatClampNeg (nI k) * 4 + 0)) * (r5 (40 + Int32.toNatClampNeg (nI k) * 4 + 0))) + ((r5 (40 + Int32.toNatClampNeg (nI k) * 4 + 1)) * (r5 (40 + Int32.toNatClampNeg (nI k) * 4 + 1)))) * (((r5 (40 + Int32.toNatClampNeg (nI k) * 4 + 2)) * (r5 (40 + Int32.toNatClampNeg (nI k) * 4 + 2))) + ((r5 (40 + Int32.toNatClampNeg (nI k) * 4 + 3)) * (r5 (40 + Int32.toNatClampNeg (nI k) * 4 + 3))))))) (u * ((vp_updL al k (Int32.toInt64 ((((r5 (40 + Int32.toNatClampNeg (nI k) * 4 + 0)) * (r5 (40 + Int32.toNatClampNeg (nI k) * 4 + 0))) + ((r5 (40 + Int32.toNatClampNeg (nI k) * 4 + 1)) * (r5 (40 + Int32.toNatClampNeg (nI k) * 4 + 1)))) * (((r5 (40 + Int32.toNatClampNeg (nI k) * 4 + 2)) * (r5 (40 + Int32.toNatClampNeg (nI k) * 4 + 2))) + ((r5 (40 + Int32.toNatClampNeg (nI k) * 4 + 3)) * (r5 (40 + Int32.toNatClampNeg (nI k) * 4 + 3))))))) k))  (by omega) hx
theorem c_X4_take {x0 x1 x2 x3 x7 x8 x9 x10 x11 x12 x13 x14 x15 x16 x17 x23 x24 x25 x26 x27 x28 x29 x30 x31 x32 : ax_E} {r5 r6 : Nat → Int32} {f18_6 f18_7 f18_8 f18_9 f18_10 : Int32} {f18_11 f18_12 : Int64} {r19 r20 r21 r22 : Nat → Int64} {wm : List ax_E} {nr : Nat} (h_n3 : r6 3 = nI nr) (h_nr : nr ≤ 4) : Ct M_X4_take [.ref 18, .ref 4] ([x0, x1, x2, x3, ob 2 [.ref 5, .ref 6], ia 56 r5, ia 4 r6, x7, x8, x9, x10, x11, x12, x13, x14, x15, x16, x17, ob 4 [.ref 19, .ref 20, .ref 21, .ref 22, .ref 23, .ref 24, .int f18_6, .int f18_7, .int f18_8, .int f18_9, .int f18_10, .long f18_11, .long f18_12], ja 4 r19, ja 4 r20, ja 4 r21, ja 4 r22, x23, x24, x25, x26, x27, x28, x29, x30, x31, x32], wm) (fun r w' => r = none ∧ w' = ([x0, x1, x2, x3, ob 2 [.ref 5, .ref 6], ia 56 r5, ia 4 r6, x7, x8, x9, x10, x11, x12, x13, x14, x15, x16, x17, ob 4 [.ref 19, .ref 20, .ref 21, .ref 22, .ref 23, .ref 24, .int (nI nr), .int 0, .int f18_8, .int f18_9, .int f18_10, .long ((itr (fun k s => lp_take_st r5 k s.1 s.2.1 s.2.2.1 s.2.2.2.1 s.2.2.2.2) nr 0 (r19, r20, r21, r22, 1)).2.2.2.2), .long f18_12], ja 4 ((itr (fun k s => lp_take_st r5 k s.1 s.2.1 s.2.2.1 s.2.2.2.1 s.2.2.2.2) nr 0 (r19, r20, r21, r22, 1)).1), ja 4 ((itr (fun k s => lp_take_st r5 k s.1 s.2.1 s.2.2.1 s.2.2.2.1 s.2.2.2.2) nr 0 (r19, r20, r21, r22, 1)).2.1), ja 4 ((itr (fun k s => lp_take_st r5 k s.1 s.2.1 s.2.2.1 s.2.2.2.1 s.2.2.2.2) nr 0 (r19, r20, r21, r22, 1)).2.2.1), ja 4 ((itr (fun k s => lp_take_st r5 k s.1 s.2.1 s.2.2.1 s.2.2.2.1 s.2.2.2.2) nr 0 (r19, r20, r21, r22, 1)).2.2.2.1), x23, x24, x25, x26, x27, x28, x29, x30, x31, x32], wm)) := by
  refine ct_of ⟨by decide, rfl⟩ (Nat.le_of_ble_eq_true rfl) ?_
  refine ab_aload_n dX4_take_0 rfl ?_
  refine ab_aload_n dX4_take_1 rfl ?_
  refine ab_iconst (v := 3) dX4_take_2 (by decide) ?_
  refine ab_callV (As := [.int 3]) (rest := [.ref 18]) dX4_take_3 mv_X2_count ml_X4_53 ⟨by decide, by decide, rfl, rfl, rfl⟩ (by decide) rfl rfl (Nat.le_of_ble_eq_true rfl) rfl c_X2_count_4_3 ?_
  rintro r w' ⟨rfl, rfl⟩
  refine ab_topi (v := (nI nr)) h_n3 ?_
  refine ab_iconst (v := 4) dX4_take_6 (by decide) ?_
  refine ab_mmin dX4_take_7 ml_X4_58 ⟨by decide, Nat.le_of_ble_eq_true rfl⟩ (by decide) ?_
  refine ab_topi (v := (nI nr)) (if_neg (Int32.not_lt.mpr (nI_le (b := 4) h_nr (by decide)))) ?_
  refine ab_putf (w1 := ([x0, x1, x2, x3, ob 2 [.ref 5, .ref 6], ia 56 r5, ia 4 r6, x7, x8, x9, x10, x11, x12, x13, x14, x15, x16, x17, ob 4 [.ref 19, .ref 20, .ref 21, .ref 22, .ref 23, .ref 24, .int (nI nr), .int f18_7, .int f18_8, .int f18_9, .int f18_10, .long f18_11, .long f18_12], ja 4 r19, ja 4 r20, ja 4 r21, ja 4 r22, x23, x24, x25, x26, x27, x28, x29, x30, x31, x32], wm)) dX4_take_10 fl_X4_30 rfl (Nat.le_of_ble_eq_true rfl) (fun _ => ⟨rfl, rfl⟩) rfl ?_
  refine ab_aload_n dX4_take_13 rfl ?_
  refine ab_iconst (v := 0) dX4_take_14 (by decide) ?_
  refine ab_putf (w1 := ([x0, x1, x2, x3, ob 2 [.ref 5, .ref 6], ia 56 r5, ia 4 r6, x7, x8, x9, x10, x11, x12, x13, x14, x15, x16, x17, ob 4 [.ref 19, .ref 20, .ref 21, .ref 22, .ref 23, .ref 24, .int (nI nr), .int 0, .int f18_8, .int f18_9, .int f18_10, .long f18_11, .long f18_12], ja 4 r19, ja 4 r20, ja 4 r21, ja 4 r22, x23, x24, x25, x26, x27, x28, x29, x30, x31, x32], wm)) dX4_take_15 fl_X4_34 rfl (Nat.le_of_ble_eq_true rfl) (fun _ => ⟨rfl, rfl⟩) rfl ?_
  refine ab_aload_n dX4_take_18 rfl ?_
  refine ab_lconst (v := 1) dX4_take_19 (by decide) ?_
  refine ab_putf (w1 := ([x0, x1, x2, x3, ob 2 [.ref 5, .ref 6], ia 56 r5, ia 4 r6, x7, x8, x9, x10, x11, x12, x13, x14, x15, x16, x17, ob 4 [.ref 19, .ref 20, .ref 21, .ref 22, .ref 23, .ref 24, .int (nI nr), .int 0, .int f18_8, .int f18_9, .int f18_10, .long 1, .long f18_12], ja 4 r19, ja 4 r20, ja 4 r21, ja 4 r22, x23, x24, x25, x26, x27, x28, x29, x30, x31, x32], wm)) dX4_take_20 fl_X4_46 rfl (Nat.le_of_ble_eq_true rfl) (fun _ => ⟨rfl, rfl⟩) rfl ?_
  refine ab_iconst (v := 0) dX4_take_23 (by decide) ?_
  refine ab_istore_n (la' := [(2, .int 0), (0, .ref 18), (1, .ref 4)]) dX4_take_24 (by decide) rfl ?_
  refine ab_pick [0, 2, 1] rfl ?_
  refine lp_take h_n3 h_nr nr 0 r19 r20 r21 r22 1 (by omega) ?_
  exact ab_vret dX4_take_188 rfl (by decide) (⟨rfl, rfl⟩)
def Pw (r19 : Nat → Int64) (r20 : Nat → Int64) (r21 : Nat → Int64) (r22 : Nat → Int64) (a2 : Int64) (a3 : Int64) (a4 : Int64) (k : Nat) : Int64 := (((((((a2 * a2) + (a3 * a3)) + (a4 * a4)) * (r22 k)) - (((2 * a2) * a3) * (r19 k))) + (((2 * a2) * a4) * (r20 k))) - (((2 * a3) * a4) * (r21 k)))
theorem c_X4_withoutRod_n {x0 x1 x2 x3 x4 x5 x6 x7 x8 x9 x10 x11 x12 x13 x14 x15 x16 x17 x23 x24 x25 x26 x27 x28 x29 x30 x31 x32 : ax_E} {f18_7 f18_8 f18_9 f18_10 : Int32} {f18_11 f18_12 a2 a3 a4 : Int64} {r19 r20 r21 r22 : Nat → Int64} {wm : List ax_E} {nr k : Nat} (hk : k < 4) : Ct M_X4_withoutRod [.ref 18, .int (nI k), .long a2, .long a3, .long a4] ([x0, x1, x2, x3, x4, x5, x6, x7, x8, x9, x10, x11, x12, x13, x14, x15, x16, x17, ob 4 [.ref 19, .ref 20, .ref 21, .ref 22, .ref 23, .ref 24, .int (nI nr), .int f18_7, .int f18_8, .int f18_9, .int f18_10, .long f18_11, .long f18_12], ja 4 r19, ja 4 r20, ja 4 r21, ja 4 r22, x23, x24, x25, x26, x27, x28, x29, x30, x31, x32], wm) (fun r w' => r = some (.long (Pw r19 r20 r21 r22 a2 a3 a4 k)) ∧ w' = ([x0, x1, x2, x3, x4, x5, x6, x7, x8, x9, x10, x11, x12, x13, x14, x15, x16, x17, ob 4 [.ref 19, .ref 20, .ref 21, .ref 22, .ref 23, .ref 24, .int (nI nr), .int f18_7, .int f18_8, .int f18_9, .int f18_10, .long f18_11, .long f18_12], ja 4 r19, ja 4 r20, ja 4 r21, ja 4 r22, x23, x24, x25, x26, x27, x28, x29, x30, x31, x32], wm)) := by
  refine ct_of ⟨by decide, rfl⟩ (Nat.le_of_ble_eq_true rfl) ?_
  refine ab_lload_n dX4_withoutRod_0 rfl ?_
  refine ab_lload_n dX4_withoutRod_1 rfl ?_
  refine ab_lmul dX4_withoutRod_2 ?_
  refine ab_lload dX4_withoutRod_3 rfl ?_
  refine ab_lload dX4_withoutRod_5 rfl ?_
  refine ab_lmul dX4_withoutRod_7 ?_
  refine ab_ladd dX4_withoutRod_8 ?_
  refine ab_lload dX4_withoutRod_9 rfl ?_
  refine ab_lload dX4_withoutRod_11 rfl ?_
  refine ab_lmul dX4_withoutRod_13 ?_
  refine ab_ladd dX4_withoutRod_14 ?_
  refine ab_aload_n dX4_withoutRod_15 rfl ?_
  refine ab_getf dX4_withoutRod_16 fl_X4_21 rfl rfl ?_
  refine ab_iload_n dX4_withoutRod_19 rfl ?_
  refine ab_lald (j := k) dX4_withoutRod_20 rfl (ix_nI (by omega) (by decide)) ?_
  refine ab_lmul dX4_withoutRod_21 ?_
  refine ab_ldc2 dX4_withoutRod_22 kl_X4_97 ?_
  refine ab_lload_n dX4_withoutRod_25 rfl ?_
  refine ab_lmul dX4_withoutRod_26 ?_
  refine ab_lload dX4_withoutRod_27 rfl ?_
  refine ab_lmul dX4_withoutRod_29 ?_
  refine ab_aload_n dX4_withoutRod_30 rfl ?_
  refine ab_getf dX4_withoutRod_31 fl_X4_11 rfl rfl ?_
  refine ab_iload_n dX4_withoutRod_34 rfl ?_
  refine ab_lald (j := k) dX4_withoutRod_35 rfl (ix_nI (by omega) (by decide)) ?_
  refine ab_lmul dX4_withoutRod_36 ?_
  refine ab_lsub dX4_withoutRod_37 ?_
  refine ab_ldc2 dX4_withoutRod_38 kl_X4_97 ?_
  refine ab_lload_n dX4_withoutRod_41 rfl ?_
  refine ab_lmul dX4_withoutRod_42 ?_
  refine ab_lload dX4_withoutRod_43 rfl ?_
  refine ab_lmul dX4_withoutRod_45 ?_
  refine ab_aload_n dX4_withoutRod_46 rfl ?_
  refine ab_getf dX4_withoutRod_47 fl_X4_15 rfl rfl ?_
  refine ab_iload_n dX4_withoutRod_50 rfl ?_
  refine ab_lald (j := k) dX4_withoutRod_51 rfl (ix_nI (by omega) (by decide)) ?_
  refine ab_lmul dX4_withoutRod_52 ?_
  refine ab_ladd dX4_withoutRod_53 ?_
  refine ab_ldc2 dX4_withoutRod_54 kl_X4_97 ?_
  refine ab_lload dX4_withoutRod_57 rfl ?_
  refine ab_lmul dX4_withoutRod_59 ?_
  refine ab_lload dX4_withoutRod_60 rfl ?_
  refine ab_lmul dX4_withoutRod_62 ?_
  refine ab_aload_n dX4_withoutRod_63 rfl ?_
  refine ab_getf dX4_withoutRod_64 fl_X4_18 rfl rfl ?_
  refine ab_iload_n dX4_withoutRod_67 rfl ?_
  refine ab_lald (j := k) dX4_withoutRod_68 rfl (ix_nI (by omega) (by decide)) ?_
  refine ab_lmul dX4_withoutRod_69 ?_
  refine ab_lsub dX4_withoutRod_70 ?_
  exact ab_lret dX4_withoutRod_71 rfl (by decide) (⟨rfl, rfl⟩)
theorem c_X4_closingUpper {x0 x1 x2 x3 x4 x5 x6 x7 x8 x9 x11 x12 x13 x14 x15 x16 x17 x23 x24 x25 x26 x27 x28 x29 x30 x31 x32 : ax_E} {f10_0 f10_1 f10_2 f10_3 f18_7 f18_8 f18_9 f18_10 : Int32} {f18_11 f18_12 : Int64} {r19 r20 r21 r22 : Nat → Int64} {wm : List ax_E} {nr k : Nat} (hk : k < nr) (h_nr : nr ≤ 4) : Ct M_X4_closingUpper [.ref 18, .int (nI k), .ref 10] ([x0, x1, x2, x3, x4, x5, x6, x7, x8, x9, ob 3 [.int f10_0, .int f10_1, .int f10_2, .int f10_3], x11, x12, x13, x14, x15, x16, x17, ob 4 [.ref 19, .ref 20, .ref 21, .ref 22, .ref 23, .ref 24, .int (nI nr), .int f18_7, .int f18_8, .int f18_9, .int f18_10, .long f18_11, .long f18_12], ja 4 r19, ja 4 r20, ja 4 r21, ja 4 r22, x23, x24, x25, x26, x27, x28, x29, x30, x31, x32], wm) (fun r w' => r = some (.long ((Pw r19 r20 r21 r22 (Int32.toInt64 f10_0) (Int32.toInt64 f10_1) (Int32.toInt64 f10_3) k) - (((Int32.toInt64 f10_2) * (Int32.toInt64 f10_2)) * (r22 k)))) ∧ w' = ([x0, x1, x2, x3, x4, x5, x6, x7, x8, x9, ob 3 [.int f10_0, .int f10_1, .int f10_2, .int f10_3], x11, x12, x13, x14, x15, x16, x17, ob 4 [.ref 19, .ref 20, .ref 21, .ref 22, .ref 23, .ref 24, .int (nI nr), .int f18_7, .int f18_8, .int f18_9, .int f18_10, .long f18_11, .long f18_12], ja 4 r19, ja 4 r20, ja 4 r21, ja 4 r22, x23, x24, x25, x26, x27, x28, x29, x30, x31, x32], wm)) := by
  refine ct_of ⟨by decide, rfl⟩ (Nat.le_of_ble_eq_true rfl) ?_
  refine ab_iload_n dX4_closingUpper_0 rfl ?_
  refine ab_iflt 12 dX4_closingUpper_1 (by decide) (fun h_1 => absurd h_1 (Int32.not_lt.mpr (nI_pos' (by omega)))) (fun h_1 => ?_)
  refine ab_iload_n dX4_closingUpper_4 rfl ?_
  refine ab_aload_n dX4_closingUpper_5 rfl ?_
  refine ab_getf dX4_closingUpper_6 fl_X4_30 rfl rfl ?_
  refine ab_icmplt 14 dX4_closingUpper_9 (by decide) (fun h_2 => ?_) (fun h_2 => absurd (nI_lt hk (by omega)) h_2)
  refine ab_aload_n dX4_closingUpper_14 rfl ?_
  refine ab_iload_n dX4_closingUpper_15 rfl ?_
  refine ab_aload_n dX4_closingUpper_16 rfl ?_
  refine ab_getf dX4_closingUpper_17 fl_X4_79 rfl rfl ?_
  refine ab_i2l dX4_closingUpper_20 ?_
  refine ab_aload_n dX4_closingUpper_21 rfl ?_
  refine ab_getf dX4_closingUpper_22 fl_X4_84 rfl rfl ?_
  refine ab_i2l dX4_closingUpper_25 ?_
  refine ab_aload_n dX4_closingUpper_26 rfl ?_
  refine ab_getf dX4_closingUpper_27 fl_X4_87 rfl rfl ?_
  refine ab_i2l dX4_closingUpper_30 ?_
  refine ab_callV (As := [.int (nI k), .long (Int32.toInt64 f10_0), .long (Int32.toInt64 f10_1), .long (Int32.toInt64 f10_3)]) (rest := []) dX4_closingUpper_31 mv_X4_withoutRod ml_X4_90 ⟨by decide, by decide, rfl, rfl, rfl⟩ (by decide) rfl rfl (Nat.le_of_ble_eq_true rfl) rfl (c_X4_withoutRod_n (nr := nr) (k := k) (by omega)) ?_
  rintro r w' ⟨rfl, rfl⟩
  refine ab_aload_n dX4_closingUpper_34 rfl ?_
  refine ab_getf dX4_closingUpper_35 fl_X4_94 rfl rfl ?_
  refine ab_i2l dX4_closingUpper_38 ?_
  refine ab_aload_n dX4_closingUpper_39 rfl ?_
  refine ab_getf dX4_closingUpper_40 fl_X4_94 rfl rfl ?_
  refine ab_i2l dX4_closingUpper_43 ?_
  refine ab_lmul dX4_closingUpper_44 ?_
  refine ab_aload_n dX4_closingUpper_45 rfl ?_
  refine ab_getf dX4_closingUpper_46 fl_X4_21 rfl rfl ?_
  refine ab_iload_n dX4_closingUpper_49 rfl ?_
  refine ab_lald (j := k) dX4_closingUpper_50 rfl (ix_nI (by omega) (by decide)) ?_
  refine ab_lmul dX4_closingUpper_51 ?_
  refine ab_lsub dX4_closingUpper_52 ?_
  exact ab_lret dX4_closingUpper_53 rfl (by decide) (⟨rfl, rfl⟩)
theorem c_X4_closingLower {x0 x1 x2 x3 x4 x5 x6 x7 x8 x9 x10 x11 x12 x13 x14 x15 x16 x17 x19 x20 x21 x23 x24 x25 x26 x27 x28 x29 x30 x31 x32 : ax_E} {f18_7 f18_8 f18_9 f18_10 : Int32} {f18_11 f18_12 : Int64} {r22 : Nat → Int64} {wm : List ax_E} {nr k : Nat} (hk : k < nr) (h_nr : nr ≤ 4) : Ct M_X4_closingLower [.ref 18, .int (nI k)] ([x0, x1, x2, x3, x4, x5, x6, x7, x8, x9, x10, x11, x12, x13, x14, x15, x16, x17, ob 4 [.ref 19, .ref 20, .ref 21, .ref 22, .ref 23, .ref 24, .int (nI nr), .int f18_7, .int f18_8, .int f18_9, .int f18_10, .long f18_11, .long f18_12], x19, x20, x21, ja 4 r22, x23, x24, x25, x26, x27, x28, x29, x30, x31, x32], wm) (fun r w' => r = some (.long (r22 k)) ∧ w' = ([x0, x1, x2, x3, x4, x5, x6, x7, x8, x9, x10, x11, x12, x13, x14, x15, x16, x17, ob 4 [.ref 19, .ref 20, .ref 21, .ref 22, .ref 23, .ref 24, .int (nI nr), .int f18_7, .int f18_8, .int f18_9, .int f18_10, .long f18_11, .long f18_12], x19, x20, x21, ja 4 r22, x23, x24, x25, x26, x27, x28, x29, x30, x31, x32], wm)) := by
  refine ct_of ⟨by decide, rfl⟩ (Nat.le_of_ble_eq_true rfl) ?_
  refine ab_iload_n dX4_closingLower_0 rfl ?_
  refine ab_iflt 21 dX4_closingLower_1 (by decide) (fun h_1 => absurd h_1 (Int32.not_lt.mpr (nI_pos' (by omega)))) (fun h_1 => ?_)
  refine ab_iload_n dX4_closingLower_4 rfl ?_
  refine ab_aload_n dX4_closingLower_5 rfl ?_
  refine ab_getf dX4_closingLower_6 fl_X4_30 rfl rfl ?_
  refine ab_icmpge 21 dX4_closingLower_9 (by decide) (fun h_2 => absurd h_2 (nI_ge hk (by omega))) (fun h_2 => ?_)
  refine ab_aload_n dX4_closingLower_12 rfl ?_
  refine ab_getf dX4_closingLower_13 fl_X4_21 rfl rfl ?_
  refine ab_iload_n dX4_closingLower_16 rfl ?_
  refine ab_lald (j := k) dX4_closingLower_17 rfl (ix_nI (by omega) (by decide)) ?_
  refine ab_goto 22 dX4_closingLower_18 (by decide) ?_
  exact ab_lret dX4_closingLower_22 rfl (by decide) (⟨rfl, rfl⟩)
def lp_fbI_st (f18_11 : Int64) (r19 : Nat → Int64) (r20 : Nat → Int64) (r21 : Nat → Int64) (r22 : Nat → Int64) (a2 : Int32) (a1 : Int32) (j : Nat) (k : Nat) (lo : Nat → Int64) (hi : Nat → Int64) : (Nat → Int64) × (Nat → Int64) := (if (r22 k) ≤ 0 then (if (nI k) = 0 then ((vp_updL lo j ((Pw r19 r20 r21 r22 (Int32.toInt64 a1) (Int32.toInt64 a2) (Int32.toInt64 (nI j)) k) * 0)), (vp_updL hi j ((Pw r19 r20 r21 r22 (Int32.toInt64 a1) (Int32.toInt64 a2) (Int32.toInt64 (nI j)) k) * 0))) else ((vp_updL lo j (if ((Pw r19 r20 r21 r22 (Int32.toInt64 a1) (Int32.toInt64 a2) (Int32.toInt64 (nI j)) k) * 0) < (lo j) then ((Pw r19 r20 r21 r22 (Int32.toInt64 a1) (Int32.toInt64 a2) (Int32.toInt64 (nI j)) k) * 0) else (lo j))), (vp_updL hi j (if ((Pw r19 r20 r21 r22 (Int32.toInt64 a1) (Int32.toInt64 a2) (Int32.toInt64 (nI j)) k) * 0) < (hi j) then (hi j) else ((Pw r19 r20 r21 r22 (Int32.toInt64 a1) (Int32.toInt64 a2) (Int32.toInt64 (nI j)) k) * 0))))) else (if (nI k) = 0 then ((vp_updL lo j ((Pw r19 r20 r21 r22 (Int32.toInt64 a1) (Int32.toInt64 a2) (Int32.toInt64 (nI j)) k) * (f18_11 / (r22 k)))), (vp_updL hi j ((Pw r19 r20 r21 r22 (Int32.toInt64 a1) (Int32.toInt64 a2) (Int32.toInt64 (nI j)) k) * (f18_11 / (r22 k))))) else ((vp_updL lo j (if ((Pw r19 r20 r21 r22 (Int32.toInt64 a1) (Int32.toInt64 a2) (Int32.toInt64 (nI j)) k) * (f18_11 / (r22 k))) < (lo j) then ((Pw r19 r20 r21 r22 (Int32.toInt64 a1) (Int32.toInt64 a2) (Int32.toInt64 (nI j)) k) * (f18_11 / (r22 k))) else (lo j))), (vp_updL hi j (if ((Pw r19 r20 r21 r22 (Int32.toInt64 a1) (Int32.toInt64 a2) (Int32.toInt64 (nI j)) k) * (f18_11 / (r22 k))) < (hi j) then (hi j) else ((Pw r19 r20 r21 r22 (Int32.toInt64 a1) (Int32.toInt64 a2) (Int32.toInt64 (nI j)) k) * (f18_11 / (r22 k))))))))
set_option maxHeartbeats 400000 in
theorem lp_fbI {x0 x1 x2 x3 x4 x5 x6 x7 x8 x9 x10 x11 x12 x13 x14 x15 x16 x17 x25 x26 x27 x28 x29 x30 x31 x32 : ax_E} {f18_7 f18_8 f18_9 f18_10 a2 a1 : Int32} {f18_11 f18_12 : Int64} {r19 r20 r21 r22 : Nat → Int64} {wm : List ax_E} {nr j : Nat} {Q : Option Value → ax_W → Prop} (h_nr : nr ≤ 4) (hj : j < 19) : ∀ (n k : Nat) (lo : Nat → Int64) (hi : Nat → Int64) , k + n = nr → Ab M_X4_findBounds Q (0, 0) 127 [(4, .int (nI nr)), (3, .int (nI j)), (2, .int a2), (1, .int a1), (0, .ref 18)] [] ([x0, x1, x2, x3, x4, x5, x6, x7, x8, x9, x10, x11, x12, x13, x14, x15, x16, x17, ob 4 [.ref 19, .ref 20, .ref 21, .ref 22, .ref 23, .ref 24, .int (nI nr), .int f18_7, .int f18_8, .int f18_9, .int f18_10, .long f18_11, .long f18_12], ja 4 r19, ja 4 r20, ja 4 r21, ja 4 r22, ja 19 ((itr (fun k s => lp_fbI_st f18_11 r19 r20 r21 r22 a2 a1 j k s.1 s.2) n k (lo, hi)).1), ja 19 ((itr (fun k s => lp_fbI_st f18_11 r19 r20 r21 r22 a2 a1 j k s.1 s.2) n k (lo, hi)).2), x25, x26, x27, x28, x29, x30, x31, x32], wm) → Ab M_X4_findBounds Q (0, 0) 11 [(4, .int (nI k)), (3, .int (nI j)), (2, .int a2), (1, .int a1), (0, .ref 18)] [] ([x0, x1, x2, x3, x4, x5, x6, x7, x8, x9, x10, x11, x12, x13, x14, x15, x16, x17, ob 4 [.ref 19, .ref 20, .ref 21, .ref 22, .ref 23, .ref 24, .int (nI nr), .int f18_7, .int f18_8, .int f18_9, .int f18_10, .long f18_11, .long f18_12], ja 4 r19, ja 4 r20, ja 4 r21, ja 4 r22, ja 19 lo, ja 19 hi, x25, x26, x27, x28, x29, x30, x31, x32], wm) := by
  intro n
  induction n with
  | zero =>
    intro k lo hi  hk hx
    rw [itr_0] at hx
    rw [show k = nr by omega]
    refine ab_iload dX4_findBounds_11 rfl ?_
    refine ab_aload_n dX4_findBounds_13 rfl ?_
    refine ab_getf dX4_findBounds_14 fl_X4_30 rfl rfl ?_
    refine ab_icmpge 127 dX4_findBounds_17 (by decide) (fun h_1 => ?_) (fun h_1 => absurd (nI_le (b := nr) (Nat.le_refl _) (by omega)) h_1)
    refine ab_pick [0, 1, 2, 3, 4] rfl ?_
    exact hx 
  | succ n ih =>
    intro k lo hi  hk hx
    refine ab_iload dX4_findBounds_11 rfl ?_
    refine ab_aload_n dX4_findBounds_13 rfl ?_
    refine ab_getf dX4_findBounds_14 fl_X4_30 rfl rfl ?_
    refine ab_icmpge 127 dX4_findBounds_17 (by decide) (fun h_1 => absurd h_1 (nI_ge (a := k) (b := nr) (by omega) (by omega))) (fun h_1 => ?_)
    refine ab_aload_n dX4_findBounds_20 rfl ?_
    refine ab_getf dX4_findBounds_21 fl_X4_21 rfl rfl ?_
    refine ab_iload dX4_findBounds_24 rfl ?_
    refine ab_lald (j := k) dX4_findBounds_26 rfl (ix_nI (by omega) (by decide)) ?_
    refine ab_lconst (v := 0) dX4_findBounds_27 (by decide) ?_
    refine ab_lcmple 47 dX4_findBounds_28 dX4_findBounds_29 (by decide) (fun h_2 => ?_) (fun h_2 => ?_)
    · refine ab_lconst (v := 0) dX4_findBounds_47 (by decide) ?_
      refine ab_lstore (la' := [(5, .long 0), (4, .int (nI k)), (3, .int (nI j)), (2, .int a2), (1, .int a1), (0, .ref 18)]) dX4_findBounds_48 (by decide) rfl ?_
      refine ab_aload_n dX4_findBounds_50 rfl ?_
      refine ab_iload dX4_findBounds_51 rfl ?_
      refine ab_iload_n dX4_findBounds_53 rfl ?_
      refine ab_i2l dX4_findBounds_54 ?_
      refine ab_iload_n dX4_findBounds_55 rfl ?_
      refine ab_i2l dX4_findBounds_56 ?_
      refine ab_iload_n dX4_findBounds_57 rfl ?_
      refine ab_i2l dX4_findBounds_58 ?_
      refine ab_callV (As := [.int (nI k), .long (Int32.toInt64 a1), .long (Int32.toInt64 a2), .long (Int32.toInt64 (nI j))]) (rest := []) dX4_findBounds_59 mv_X4_withoutRod ml_X4_90 ⟨by decide, by decide, rfl, rfl, rfl⟩ (by decide) rfl rfl (Nat.le_of_ble_eq_true rfl) rfl (c_X4_withoutRod_n (nr := nr) (k := k) (by omega)) ?_
      rintro r w' ⟨rfl, rfl⟩
      refine ab_lload dX4_findBounds_62 rfl ?_
      refine ab_lmul dX4_findBounds_64 ?_
      refine ab_lstore (la' := [(7, .long ((Pw r19 r20 r21 r22 (Int32.toInt64 a1) (Int32.toInt64 a2) (Int32.toInt64 (nI j)) k) * 0)), (5, .long 0), (4, .int (nI k)), (3, .int (nI j)), (2, .int a2), (1, .int a1), (0, .ref 18)]) dX4_findBounds_65 (by decide) rfl ?_
      refine ab_aload_n dX4_findBounds_67 rfl ?_
      refine ab_getf dX4_findBounds_68 fl_X4_24 rfl rfl ?_
      refine ab_iload_n dX4_findBounds_71 rfl ?_
      refine ab_iload dX4_findBounds_72 rfl ?_
      refine ab_ifne 82 dX4_findBounds_74 (by decide) (fun h_3 => ?_) (fun h_3 => ?_)
      · refine ab_aload_n dX4_findBounds_82 rfl ?_
        refine ab_getf dX4_findBounds_83 fl_X4_24 rfl rfl ?_
        refine ab_iload_n dX4_findBounds_86 rfl ?_
        refine ab_lald (j := j) dX4_findBounds_87 rfl (ix_nI (by omega) (by decide)) ?_
        refine ab_lload dX4_findBounds_88 rfl ?_
        refine ab_mminL dX4_findBounds_90 ml_X4_109 ⟨by decide, Nat.le_of_ble_eq_true rfl⟩ (by decide) ?_
        refine ab_last (w1 := ([x0, x1, x2, x3, x4, x5, x6, x7, x8, x9, x10, x11, x12, x13, x14, x15, x16, x17, ob 4 [.ref 19, .ref 20, .ref 21, .ref 22, .ref 23, .ref 24, .int (nI nr), .int f18_7, .int f18_8, .int f18_9, .int f18_10, .long f18_11, .long f18_12], ja 4 r19, ja 4 r20, ja 4 r21, ja 4 r22, ja 19 (vp_updL lo j (if ((Pw r19 r20 r21 r22 (Int32.toInt64 a1) (Int32.toInt64 a2) (Int32.toInt64 (nI j)) k) * 0) < (lo j) then ((Pw r19 r20 r21 r22 (Int32.toInt64 a1) (Int32.toInt64 a2) (Int32.toInt64 (nI j)) k) * 0) else (lo j))), ja 19 hi, x25, x26, x27, x28, x29, x30, x31, x32], wm)) dX4_findBounds_93 rfl (ix_nI (by omega) (by decide)) rfl ?_
        refine ab_aload_n dX4_findBounds_94 rfl ?_
        refine ab_getf dX4_findBounds_95 fl_X4_27 rfl rfl ?_
        refine ab_iload_n dX4_findBounds_98 rfl ?_
        refine ab_iload dX4_findBounds_99 rfl ?_
        refine ab_ifne 109 dX4_findBounds_101 (by decide) (fun h_4 => ?_) (fun h_4 => absurd h_4 h_3)
        refine ab_aload_n dX4_findBounds_109 rfl ?_
        refine ab_getf dX4_findBounds_110 fl_X4_27 rfl rfl ?_
        refine ab_iload_n dX4_findBounds_113 rfl ?_
        refine ab_lald (j := j) dX4_findBounds_114 rfl (ix_nI (by omega) (by decide)) ?_
        refine ab_lload dX4_findBounds_115 rfl ?_
        refine ab_mmaxL dX4_findBounds_117 ml_X4_112 ⟨by decide, Nat.le_of_ble_eq_true rfl⟩ (by decide) ?_
        refine ab_last (w1 := ([x0, x1, x2, x3, x4, x5, x6, x7, x8, x9, x10, x11, x12, x13, x14, x15, x16, x17, ob 4 [.ref 19, .ref 20, .ref 21, .ref 22, .ref 23, .ref 24, .int (nI nr), .int f18_7, .int f18_8, .int f18_9, .int f18_10, .long f18_11, .long f18_12], ja 4 r19, ja 4 r20, ja 4 r21, ja 4 r22, ja 19 (vp_updL lo j (if ((Pw r19 r20 r21 r22 (Int32.toInt64 a1) (Int32.toInt64 a2) (Int32.toInt64 (nI j)) k) * 0) < (lo j) then ((Pw r19 r20 r21 r22 (Int32.toInt64 a1) (Int32.toInt64 a2) (Int32.toInt64 (nI j)) k) * 0) else (lo j))), ja 19 (vp_updL hi j (if ((Pw r19 r20 r21 r22 (Int32.toInt64 a1) (Int32.toInt64 a2) (Int32.toInt64 (nI j)) k) * 0) < (hi j) then (hi j) else ((Pw r19 r20 r21 r22 (Int32.toInt64 a1) (Int32.toInt64 a2) (Int32.toInt64 (nI j)) k) * 0))), x25, x26, x27, x28, x29, x30, x31, x32], wm)) dX4_findBounds_120 rfl (ix_nI (by omega) (by decide)) rfl ?_
        refine ab_iinc (v := (nI (k + 1))) (la' := [(4, .int (nI (k + 1))), (7, .long ((Pw r19 r20 r21 r22 (Int32.toInt64 a1) (Int32.toInt64 a2) (Int32.toInt64 (nI j)) k) * 0)), (5, .long 0), (3, .int (nI j)), (2, .int a2), (1, .int a1), (0, .ref 18)]) dX4_findBounds_121 rfl (nI_1 _) (by decide) rfl ?_
        refine ab_goto 11 dX4_findBounds_124 (by decide) ?_
        refine ab_pick [0, 3, 4, 5, 6] rfl ?_
        rw [(itr_s (fun k s => lp_fbI_st f18_11 r19 r20 r21 r22 a2 a1 j k s.1 s.2) n k (lo, hi)).trans (congrArg (itr (fun k s => lp_fbI_st f18_11 r19 r20 r21 r22 a2 a1 j k s.1 s.2) n (k + 1)) (show lp_fbI_st f18_11 r19 r20 r21 r22 a2 a1 j k lo hi = ((vp_updL lo j (if ((Pw r19 r20 r21 r22 (Int32.toInt64 a1) (Int32.toInt64 a2) (Int32.toInt64 (nI j)) k) * 0) < (lo j) then ((Pw r19 r20 r21 r22 (Int32.toInt64 a1) (Int32.toInt64 a2) (Int32.toInt64 (nI j)) k) * 0) else (lo j))), (vp_updL hi j (if ((Pw r19 r20 r21 r22 (Int32.toInt64 a1) (Int32.toInt64 a2) (Int32.toInt64 (nI j)) k) * 0) < (hi j) then (hi j) else ((Pw r19 r20 r21 r22 (Int32.toInt64 a1) (Int32.toInt64 a2) (Int32.toInt64 (nI j)) k) * 0)))) from by rw [lp_fbI_st, if_pos (show (r22 k) ≤ 0 from h_2), if_neg (show ¬ (nI k) = 0 from h_3)]))] at hx
        exact ih (k + 1) (vp_updL lo j (if ((Pw r19 r20 r21 r22 (Int32.toInt64 a1) (Int32.toInt64 a2) (Int32.toInt64 (nI j)) k) * 0) < (lo j) then ((Pw r19 r20 r21 r22 (Int32.toInt64 a1) (Int32.toInt64 a2) (Int32.toInt64 (nI j)) k) * 0) else (lo j))) (vp_updL hi j (if ((Pw r19 r20 r21 r22 (Int32.toInt64 a1) (Int32.toInt64 a2) (Int32.toInt64 (nI j)) k) * 0) < (hi j) then (hi j) else ((Pw r19 r20 r21 r22 (Int32.toInt64 a1) (Int32.toInt64 a2) (Int32.toInt64 (nI j)) k) * 0)))  (by omega) hx
      · refine ab_lload dX4_findBounds_77 rfl ?_
        refine ab_goto 93 dX4_findBounds_79 (by decide) ?_
        refine ab_last (w1 := ([x0, x1, x2, x3, x4, x5, x6, x7, x8, x9, x10, x11, x12, x13, x14, x15, x16, x17, ob 4 [.ref 19, .ref 20, .ref 21, .ref 22, .ref 23, .ref 24, .int (nI nr), .int f18_7, .int f18_8, .int f18_9, .int f18_10, .long f18_11, .long f18_12], ja 4 r19, ja 4 r20, ja 4 r21, ja 4 r22, ja 19 (vp_updL lo j ((Pw r19 r20 r21 r22 (Int32.toInt64 a1) (Int32.toInt64 a2) (Int32.toInt64 (nI j)) k) * 0)), ja 19 hi, x25, x26, x27, x28, x29, x30, x31, x32], wm)) dX4_findBounds_93 rfl (ix_nI (by omega) (by decide)) rfl ?_
        refine ab_aload_n dX4_findBounds_94 rfl ?_
        refine ab_getf dX4_findBounds_95 fl_X4_27 rfl rfl ?_
        refine ab_iload_n dX4_findBounds_98 rfl ?_
        refine ab_iload dX4_findBounds_99 rfl ?_
        refine ab_ifne 109 dX4_findBounds_101 (by decide) (fun h_5 => absurd h_3 h_5) (fun h_5 => ?_)
        refine ab_lload dX4_findBounds_104 rfl ?_
        refine ab_goto 120 dX4_findBounds_106 (by decide) ?_
        refine ab_last (w1 := ([x0, x1, x2, x3, x4, x5, x6, x7, x8, x9, x10, x11, x12, x13, x14, x15, x16, x17, ob 4 [.ref 19, .ref 20, .ref 21, .ref 22, .ref 23, .ref 24, .int (nI nr), .int f18_7, .int f18_8, .int f18_9, .int f18_10, .long f18_11, .long f18_12], ja 4 r19, ja 4 r20, ja 4 r21, ja 4 r22, ja 19 (vp_updL lo j ((Pw r19 r20 r21 r22 (Int32.toInt64 a1) (Int32.toInt64 a2) (Int32.toInt64 (nI j)) k) * 0)), ja 19 (vp_updL hi j ((Pw r19 r20 r21 r22 (Int32.toInt64 a1) (Int32.toInt64 a2) (Int32.toInt64 (nI j)) k) * 0)), x25, x26, x27, x28, x29, x30, x31, x32], wm)) dX4_findBounds_120 rfl (ix_nI (by omega) (by decide)) rfl ?_
        refine ab_iinc (v := (nI (k + 1))) (la' := [(4, .int (nI (k + 1))), (7, .long ((Pw r19 r20 r21 r22 (Int32.toInt64 a1) (Int32.toInt64 a2) (Int32.toInt64 (nI j)) k) * 0)), (5, .long 0), (3, .int (nI j)), (2, .int a2), (1, .int a1), (0, .ref 18)]) dX4_findBounds_121 rfl (nI_1 _) (by decide) rfl ?_
        refine ab_goto 11 dX4_findBounds_124 (by decide) ?_
        refine ab_pick [0, 3, 4, 5, 6] rfl ?_
        rw [(itr_s (fun k s => lp_fbI_st f18_11 r19 r20 r21 r22 a2 a1 j k s.1 s.2) n k (lo, hi)).trans (congrArg (itr (fun k s => lp_fbI_st f18_11 r19 r20 r21 r22 a2 a1 j k s.1 s.2) n (k + 1)) (show lp_fbI_st f18_11 r19 r20 r21 r22 a2 a1 j k lo hi = ((vp_updL lo j ((Pw r19 r20 r21 r22 (Int32.toInt64 a1) (Int32.toInt64 a2) (Int32.toInt64 (nI j)) k) * 0)), (vp_updL hi j ((Pw r19 r20 r21 r22 (Int32.toInt64 a1) (Int32.toInt64 a2) (Int32.toInt64 (nI j)) k) * 0))) from by rw [lp_fbI_st, if_pos (show (r22 k) ≤ 0 from h_2), if_pos (show (nI k) = 0 from h_3)]))] at hx
        exact ih (k + 1) (vp_updL lo j ((Pw r19 r20 r21 r22 (Int32.toInt64 a1) (Int32.toInt64 a2) (Int32.toInt64 (nI j)) k) * 0)) (vp_updL hi j ((Pw r19 r20 r21 r22 (Int32.toInt64 a1) (Int32.toInt64 a2) (Int32.toInt64 (nI j)) k) * 0))  (by omega) hx
    · refine ab_aload_n dX4_findBounds_32 rfl ?_
      refine ab_getf dX4_findBounds_33 fl_X4_46 rfl rfl ?_
      refine ab_aload_n dX4_findBounds_36 rfl ?_
      refine ab_getf dX4_findBounds_37 fl_X4_21 rfl rfl ?_
      refine ab_iload dX4_findBounds_40 rfl ?_
      refine ab_lald (j := k) dX4_findBounds_42 rfl (ix_nI (by omega) (by decide)) ?_
      refine ab_ldiv dX4_findBounds_43 (fun z => h_2 (by rw [z]; decide)) ?_
      refine ab_goto 48 dX4_findBounds_44 (by decide) ?_
      refine ab_lstore (la' := [(5, .long (f18_11 / (r22 k))), (4, .int (nI k)), (3, .int (nI j)), (2, .int a2), (1, .int a1), (0, .ref 18)]) dX4_findBounds_48 (by decide) rfl ?_
      refine ab_aload_n dX4_findBounds_50 rfl ?_
      refine ab_iload dX4_findBounds_51 rfl ?_
      refine ab_iload_n dX4_findBounds_53 rfl ?_
      refine ab_i2l dX4_findBounds_54 ?_
      refine ab_iload_n dX4_findBounds_55 rfl ?_
      refine ab_i2l dX4_findBounds_56 ?_
      refine ab_iload_n dX4_findBounds_57 rfl ?_
      refine ab_i2l dX4_findBounds_58 ?_
      refine ab_callV (As := [.int (nI k), .long (Int32.toInt64 a1), .long (Int32.toInt64 a2), .long (Int32.toInt64 (nI j))]) (rest := []) dX4_findBounds_59 mv_X4_withoutRod ml_X4_90 ⟨by decide, by decide, rfl, rfl, rfl⟩ (by decide) rfl rfl (Nat.le_of_ble_eq_true rfl) rfl (c_X4_withoutRod_n (nr := nr) (k := k) (by omega)) ?_
      rintro r w' ⟨rfl, rfl⟩
      refine ab_lload dX4_findBounds_62 rfl ?_
      refine ab_lmul dX4_findBounds_64 ?_
      refine ab_lstore (la' := [(7, .long ((Pw r19 r20 r21 r22 (Int32.toInt64 a1) (Int32.toInt64 a2) (Int32.toInt64 (nI j)) k) * (f18_11 / (r22 k)))), (5, .long (f18_11 / (r22 k))), (4, .int (nI k)), (3, .int (nI j)), (2, .int a2), (1, .int a1), (0, .ref 18)]) dX4_findBounds_65 (by decide) rfl ?_
      refine ab_aload_n dX4_findBounds_67 rfl ?_
      refine ab_getf dX4_findBounds_68 fl_X4_24 rfl rfl ?_
      refine ab_iload_n dX4_findBounds_71 rfl ?_
      refine ab_iload dX4_findBounds_72 rfl ?_
      refine ab_ifne 82 dX4_findBounds_74 (by decide) (fun h_6 => ?_) (fun h_6 => ?_)
      · refine ab_aload_n dX4_findBounds_82 rfl ?_
        refine ab_getf dX4_findBounds_83 fl_X4_24 rfl rfl ?_
        refine ab_iload_n dX4_findBounds_86 rfl ?_
        refine ab_lald (j := j) dX4_findBounds_87 rfl (ix_nI (by omega) (by decide)) ?_
        refine ab_lload dX4_findBounds_88 rfl ?_
        refine ab_mminL dX4_findBounds_90 ml_X4_109 ⟨by decide, Nat.le_of_ble_eq_true rfl⟩ (by decide) ?_
        refine ab_last (w1 := ([x0, x1, x2, x3, x4, x5, x6, x7, x8, x9, x10, x11, x12, x13, x14, x15, x16, x17, ob 4 [.ref 19, .ref 20, .ref 21, .ref 22, .ref 23, .ref 24, .int (nI nr), .int f18_7, .int f18_8, .int f18_9, .int f18_10, .long f18_11, .long f18_12], ja 4 r19, ja 4 r20, ja 4 r21, ja 4 r22, ja 19 (vp_updL lo j (if ((Pw r19 r20 r21 r22 (Int32.toInt64 a1) (Int32.toInt64 a2) (Int32.toInt64 (nI j)) k) * (f18_11 / (r22 k))) < (lo j) then ((Pw r19 r20 r21 r22 (Int32.toInt64 a1) (Int32.toInt64 a2) (Int32.toInt64 (nI j)) k) * (f18_11 / (r22 k))) else (lo j))), ja 19 hi, x25, x26, x27, x28, x29, x30, x31, x32], wm)) dX4_findBounds_93 rfl (ix_nI (by omega) (by decide)) rfl ?_
        refine ab_aload_n dX4_findBounds_94 rfl ?_
        refine ab_getf dX4_findBounds_95 fl_X4_27 rfl rfl ?_
        refine ab_iload_n dX4_findBounds_98 rfl ?_
        refine ab_iload dX4_findBounds_99 rfl ?_
        refine ab_ifne 109 dX4_findBounds_101 (by decide) (fun h_7 => ?_) (fun h_7 => absurd h_7 h_6)
        refine ab_aload_n dX4_findBounds_109 rfl ?_
        refine ab_getf dX4_findBounds_110 fl_X4_27 rfl rfl ?_
        refine ab_iload_n dX4_findBounds_113 rfl ?_
        refine ab_lald (j := j) dX4_findBounds_114 rfl (ix_nI (by omega) (by decide)) ?_
        refine ab_lload dX4_findBounds_115 rfl ?_
        refine ab_mmaxL dX4_findBounds_117 ml_X4_112 ⟨by decide, Nat.le_of_ble_eq_true rfl⟩ (by decide) ?_
        refine ab_last (w1 := ([x0, x1, x2, x3, x4, x5, x6, x7, x8, x9, x10, x11, x12, x13, x14, x15, x16, x17, ob 4 [.ref 19, .ref 20, .ref 21, .ref 22, .ref 23, .ref 24, .int (nI nr), .int f18_7, .int f18_8, .int f18_9, .int f18_10, .long f18_11, .long f18_12], ja 4 r19, ja 4 r20, ja 4 r21, ja 4 r22, ja 19 (vp_updL lo j (if ((Pw r19 r20 r21 r22 (Int32.toInt64 a1) (Int32.toInt64 a2) (Int32.toInt64 (nI j)) k) * (f18_11 / (r22 k))) < (lo j) then ((Pw r19 r20 r21 r22 (Int32.toInt64 a1) (Int32.toInt64 a2) (Int32.toInt64 (nI j)) k) * (f18_11 / (r22 k))) else (lo j))), ja 19 (vp_updL hi j (if ((Pw r19 r20 r21 r22 (Int32.toInt64 a1) (Int32.toInt64 a2) (Int32.toInt64 (nI j)) k) * (f18_11 / (r22 k))) < (hi j) then (hi j) else ((Pw r19 r20 r21 r22 (Int32.toInt64 a1) (Int32.toInt64 a2) (Int32.toInt64 (nI j)) k) * (f18_11 / (r22 k))))), x25, x26, x27, x28, x29, x30, x31, x32], wm)) dX4_findBounds_120 rfl (ix_nI (by omega) (by decide)) rfl ?_
        refine ab_iinc (v := (nI (k + 1))) (la' := [(4, .int (nI (k + 1))), (7, .long ((Pw r19 r20 r21 r22 (Int32.toInt64 a1) (Int32.toInt64 a2) (Int32.toInt64 (nI j)) k) * (f18_11 / (r22 k)))), (5, .long (f18_11 / (r22 k))), (3, .int (nI j)), (2, .int a2), (1, .int a1), (0, .ref 18)]) dX4_findBounds_121 rfl (nI_1 _) (by decide) rfl ?_
        refine ab_goto 11 dX4_findBounds_124 (by decide) ?_
        refine ab_pick [0, 3, 4, 5, 6] rfl ?_
        rw [(itr_s (fun k s => lp_fbI_st f18_11 r19 r20 r21 r22 a2 a1 j k s.1 s.2) n k (lo, hi)).trans (congrArg (itr (fun k s => lp_fbI_st f18_11 r19 r20 r21 r22 a2 a1 j k s.1 s.2) n (k + 1)) (show lp_fbI_st f18_11 r19 r20 r21 r22 a2 a1 j k lo hi = ((vp_updL lo j (if ((Pw r19 r20 r21 r22 (Int32.toInt64 a1) (Int32.toInt64 a2) (Int32.toInt64 (nI j)) k) * (f18_11 / (r22 k))) < (lo j) then ((Pw r19 r20 r21 r22 (Int32.toInt64 a1) (Int32.toInt64 a2) (Int32.toInt64 (nI j)) k) * (f18_11 / (r22 k))) else (lo j))), (vp_updL hi j (if ((Pw r19 r20 r21 r22 (Int32.toInt64 a1) (Int32.toInt64 a2) (Int32.toInt64 (nI j)) k) * (f18_11 / (r22 k))) < (hi j) then (hi j) else ((Pw r19 r20 r21 r22 (Int32.toInt64 a1) (Int32.toInt64 a2) (Int32.toInt64 (nI j)) k) * (f18_11 / (r22 k)))))) from by rw [lp_fbI_st, if_neg (show ¬ (r22 k) ≤ 0 from h_2), if_neg (show ¬ (nI k) = 0 from h_6)]))] at hx
        exact ih (k + 1) (vp_updL lo j (if ((Pw r19 r20 r21 r22 (Int32.toInt64 a1) (Int32.toInt64 a2) (Int32.toInt64 (nI j)) k) * (f18_11 / (r22 k))) < (lo j) then ((Pw r19 r20 r21 r22 (Int32.toInt64 a1) (Int32.toInt64 a2) (Int32.toInt64 (nI j)) k) * (f18_11 / (r22 k))) else (lo j))) (vp_updL hi j (if ((Pw r19 r20 r21 r22 (Int32.toInt64 a1) (Int32.toInt64 a2) (Int32.toInt64 (nI j)) k) * (f18_11 / (r22 k))) < (hi j) then (hi j) else ((Pw r19 r20 r21 r22 (Int32.toInt64 a1) (Int32.toInt64 a2) (Int32.toInt64 (nI j)) k) * (f18_11 / (r22 k)))))  (by omega) hx
      · refine ab_lload dX4_findBounds_77 rfl ?_
        refine ab_goto 93 dX4_findBounds_79 (by decide) ?_
        refine ab_last (w1 := ([x0, x1, x2, x3, x4, x5, x6, x7, x8, x9, x10, x11, x12, x13, x14, x15, x16, x17, ob 4 [.ref 19, .ref 20, .ref 21, .ref 22, .ref 23, .ref 24, .int (nI nr), .int f18_7, .int f18_8, .int f18_9, .int f18_10, .long f18_11, .long f18_12], ja 4 r19, ja 4 r20, ja 4 r21, ja 4 r22, ja 19 (vp_updL lo j ((Pw r19 r20 r21 r22 (Int32.toInt64 a1) (Int32.toInt64 a2) (Int32.toInt64 (nI j)) k) * (f18_11 / (r22 k)))), ja 19 hi, x25, x26, x27, x28, x29, x30, x31, x32], wm)) dX4_findBounds_93 rfl (ix_nI (by omega) (by decide)) rfl ?_
        refine ab_aload_n dX4_findBounds_94 rfl ?_
        refine ab_getf dX4_findBounds_95 fl_X4_27 rfl rfl ?_
        refine ab_iload_n dX4_findBounds_98 rfl ?_
        refine ab_iload dX4_findBounds_99 rfl ?_
        refine ab_ifne 109 dX4_findBounds_101 (by decide) (fun h_8 => absurd h_6 h_8) (fun h_8 => ?_)
        refine ab_lload dX4_findBounds_104 rfl ?_
        refine ab_goto 120 dX4_findBounds_106 (by decide) ?_
        refine ab_last (w1 := ([x0, x1, x2, x3, x4, x5, x6, x7, x8, x9, x10, x11, x12, x13, x14, x15, x16, x17, ob 4 [.ref 19, .ref 20, .ref 21, .ref 22, .ref 23, .ref 24, .int (nI nr), .int f18_7, .int f18_8, .int f18_9, .int f18_10, .long f18_11, .long f18_12], ja 4 r19, ja 4 r20, ja 4 r21, ja 4 r22, ja 19 (vp_updL lo j ((Pw r19 r20 r21 r22 (Int32.toInt64 a1) (Int32.toInt64 a2) (Int32.toInt64 (nI j)) k) * (f18_11 / (r22 k)))), ja 19 (vp_updL hi j ((Pw r19 r20 r21 r22 (Int32.toInt64 a1) (Int32.toInt64 a2) (Int32.toInt64 (nI j)) k) * (f18_11 / (r22 k)))), x25, x26, x27, x28, x29, x30, x31, x32], wm)) dX4_findBounds_120 rfl (ix_nI (by omega) (by decide)) rfl ?_
        refine ab_iinc (v := (nI (k + 1))) (la' := [(4, .int (nI (k + 1))), (7, .long ((Pw r19 r20 r21 r22 (Int32.toInt64 a1) (Int32.toInt64 a2) (Int32.toInt64 (nI j)) k) * (f18_11 / (r22 k)))), (5, .long (f18_11 / (r22 k))), (3, .int (nI j)), (2, .int a2), (1, .int a1), (0, .ref 18)]) dX4_findBounds_121 rfl (nI_1 _) (by decide) rfl ?_
        refine ab_goto 11 dX4_findBounds_124 (by decide) ?_
        refine ab_pick [0, 3, 4, 5, 6] rfl ?_
        rw [(itr_s (fun k s => lp_fbI_st f18_11 r19 r20 r21 r22 a2 a1 j k s.1 s.2) n k (lo, hi)).trans (congrArg (itr (fun k s => lp_fbI_st f18_11 r19 r20 r21 r22 a2 a1 j k s.1 s.2) n (k + 1)) (show lp_fbI_st f18_11 r19 r20 r21 r22 a2 a1 j k lo hi = ((vp_updL lo j ((Pw r19 r20 r21 r22 (Int32.toInt64 a1) (Int32.toInt64 a2) (Int32.toInt64 (nI j)) k) * (f18_11 / (r22 k)))), (vp_updL hi j ((Pw r19 r20 r21 r22 (Int32.toInt64 a1) (Int32.toInt64 a2) (Int32.toInt64 (nI j)) k) * (f18_11 / (r22 k))))) from by rw [lp_fbI_st, if_neg (show ¬ (r22 k) ≤ 0 from h_2), if_pos (show (nI k) = 0 from h_6)]))] at hx
        exact ih (k + 1) (vp_updL lo j ((Pw r19 r20 r21 r22 (Int32.toInt64 a1) (Int32.toInt64 a2) (Int32.toInt64 (nI j)) k) * (f18_11 / (r22 k)))) (vp_updL hi j ((Pw r19 r20 r21 r22 (Int32.toInt64 a1) (Int32.toInt64 a2) (Int32.toInt64 (nI j)) k) * (f18_11 / (r22 k))))  (by omega) hx
def lp_fbO_st (f18_11 : Int64) (r19 : Nat → Int64) (r20 : Nat → Int64) (r21 : Nat → Int64) (r22 : Nat → Int64) (a2 : Int32) (a1 : Int32) (nr : Nat) (j : Nat) (lo : Nat → Int64) (hi : Nat → Int64) : (Nat → Int64) × (Nat → Int64) := (((itr (fun k s => lp_fbI_st f18_11 r19 r20 r21 r22 a2 a1 j k s.1 s.2) nr 0 (lo, hi)).1), ((itr (fun k s => lp_fbI_st f18_11 r19 r20 r21 r22 a2 a1 j k s.1 s.2) nr 0 (lo, hi)).2))
set_option maxHeartbeats 400000 in
theorem lp_fbO {x0 x1 x2 x3 x4 x5 x6 x7 x8 x9 x10 x11 x12 x13 x14 x15 x16 x17 x25 x26 x27 x28 x29 x30 x31 x32 : ax_E} {f18_7 f18_8 f18_9 f18_10 a2 a1 : Int32} {f18_11 f18_12 : Int64} {r19 r20 r21 r22 : Nat → Int64} {wm : List ax_E} {nr : Nat} {Q : Option Value → ax_W → Prop} {B : Nat} (hB : B = 19) (h_nr : nr ≤ 4) : ∀ (n j : Nat) (lo : Nat → Int64) (hi : Nat → Int64) , j + n = B → Ab M_X4_findBounds Q (0, 0) 133 [(3, .int (nI B)), (2, .int a2), (1, .int a1), (0, .ref 18)] [] ([x0, x1, x2, x3, x4, x5, x6, x7, x8, x9, x10, x11, x12, x13, x14, x15, x16, x17, ob 4 [.ref 19, .ref 20, .ref 21, .ref 22, .ref 23, .ref 24, .int (nI nr), .int f18_7, .int f18_8, .int f18_9, .int f18_10, .long f18_11, .long f18_12], ja 4 r19, ja 4 r20, ja 4 r21, ja 4 r22, ja 19 ((itr (fun j s => lp_fbO_st f18_11 r19 r20 r21 r22 a2 a1 nr j s.1 s.2) n j (lo, hi)).1), ja 19 ((itr (fun j s => lp_fbO_st f18_11 r19 r20 r21 r22 a2 a1 nr j s.1 s.2) n j (lo, hi)).2), x25, x26, x27, x28, x29, x30, x31, x32], wm) → Ab M_X4_findBounds Q (0, 0) 2 [(3, .int (nI j)), (2, .int a2), (1, .int a1), (0, .ref 18)] [] ([x0, x1, x2, x3, x4, x5, x6, x7, x8, x9, x10, x11, x12, x13, x14, x15, x16, x17, ob 4 [.ref 19, .ref 20, .ref 21, .ref 22, .ref 23, .ref 24, .int (nI nr), .int f18_7, .int f18_8, .int f18_9, .int f18_10, .long f18_11, .long f18_12], ja 4 r19, ja 4 r20, ja 4 r21, ja 4 r22, ja 19 lo, ja 19 hi, x25, x26, x27, x28, x29, x30, x31, x32], wm) := by
  intro n
  induction n with
  | zero =>
    intro j lo hi  hk hx
    rw [itr_0] at hx
    rw [show j = B by omega]
    refine ab_iload_n dX4_findBounds_2 rfl ?_
    refine ab_bipush (v := 18) dX4_findBounds_3 (by decide) ?_
    refine ab_icmpgt 133 dX4_findBounds_5 (by decide) (fun h_1 => ?_) (fun h_1 => absurd (nI_lt (a := 18) (by omega) (by omega)) h_1)
    refine ab_pick [0, 1, 2, 3] rfl ?_
    exact hx 
  | succ n ih =>
    intro j lo hi  hk hx
    refine ab_iload_n dX4_findBounds_2 rfl ?_
    refine ab_bipush (v := 18) dX4_findBounds_3 (by decide) ?_
    refine ab_icmpgt 133 dX4_findBounds_5 (by decide) (fun h_1 => absurd h_1 (Int32.not_lt.mpr (nI_le (b := 18) (by omega) (by decide)))) (fun h_1 => ?_)
    refine ab_iconst (v := 0) dX4_findBounds_8 (by decide) ?_
    refine ab_istore (la' := [(4, .int 0), (3, .int (nI j)), (2, .int a2), (1, .int a1), (0, .ref 18)]) dX4_findBounds_9 (by decide) rfl ?_
    refine ab_pick [0, 1, 2, 3, 4] rfl ?_
    refine lp_fbI h_nr (by omega) nr 0 lo hi (by omega) ?_
    refine ab_iinc (v := (nI (j + 1))) (la' := [(3, .int (nI (j + 1))), (4, .int (nI nr)), (2, .int a2), (1, .int a1), (0, .ref 18)]) dX4_findBounds_127 rfl (nI_1 _) (by decide) rfl ?_
    refine ab_goto 2 dX4_findBounds_130 (by decide) ?_
    refine ab_pick [0, 2, 3, 4] rfl ?_
    rw [(itr_s (fun j s => lp_fbO_st f18_11 r19 r20 r21 r22 a2 a1 nr j s.1 s.2) n j (lo, hi)).trans (congrArg (itr (fun j s => lp_fbO_st f18_11 r19 r20 r21 r22 a2 a1 nr j s.1 s.2) n (j + 1)) (show lp_fbO_st f18_11 r19 r20 r21 r22 a2 a1 nr j lo hi = (((itr (fun k s => lp_fbI_st f18_11 r19 r20 r21 r22 a2 a1 j k s.1 s.2) nr 0 (lo, hi)).1), ((itr (fun k s => lp_fbI_st f18_11 r19 r20 r21 r22 a2 a1 j k s.1 s.2) nr 0 (lo, hi)).2)) from rfl))] at hx
    exact ih (j + 1) ((itr (fun k s => lp_fbI_st f18_11 r19 r20 r21 r22 a2 a1 j k s.1 s.2) nr 0 (lo, hi)).1) ((itr (fun k s => lp_fbI_st f18_11 r19 r20 r21 r22 a2 a1 j k s.1 s.2) nr 0 (lo, hi)).2)  (by omega) hx
theorem c_X4_findBounds {x0 x1 x2 x3 x4 x5 x6 x7 x8 x9 x10 x11 x12 x13 x14 x15 x16 x17 x25 x26 x27 x28 x29 x30 x31 x32 : ax_E} {f18_7 f18_8 f18_9 f18_10 a1 a2 : Int32} {f18_11 f18_12 : Int64} {r19 r20 r21 r22 r23 r24 : Nat → Int64} {wm : List ax_E} {nr : Nat} (h_nr : nr ≤ 4) : Ct M_X4_findBounds [.ref 18, .int a1, .int a2] ([x0, x1, x2, x3, x4, x5, x6, x7, x8, x9, x10, x11, x12, x13, x14, x15, x16, x17, ob 4 [.ref 19, .ref 20, .ref 21, .ref 22, .ref 23, .ref 24, .int (nI nr), .int f18_7, .int f18_8, .int f18_9, .int f18_10, .long f18_11, .long f18_12], ja 4 r19, ja 4 r20, ja 4 r21, ja 4 r22, ja 19 r23, ja 19 r24, x25, x26, x27, x28, x29, x30, x31, x32], wm) (fun r w' => r = none ∧ w' = ([x0, x1, x2, x3, x4, x5, x6, x7, x8, x9, x10, x11, x12, x13, x14, x15, x16, x17, ob 4 [.ref 19, .ref 20, .ref 21, .ref 22, .ref 23, .ref 24, .int (nI nr), .int f18_7, .int f18_8, .int f18_9, .int f18_10, .long f18_11, .long f18_12], ja 4 r19, ja 4 r20, ja 4 r21, ja 4 r22, ja 19 ((itr (fun j s => lp_fbO_st f18_11 r19 r20 r21 r22 a2 a1 nr j s.1 s.2) 18 1 (r23, r24)).1), ja 19 ((itr (fun j s => lp_fbO_st f18_11 r19 r20 r21 r22 a2 a1 nr j s.1 s.2) 18 1 (r23, r24)).2), x25, x26, x27, x28, x29, x30, x31, x32], wm)) := by
  refine ct_of ⟨by decide, rfl⟩ (Nat.le_of_ble_eq_true rfl) ?_
  refine ab_iconst (v := 1) dX4_findBounds_0 (by decide) ?_
  refine ab_istore_n (la' := [(3, .int 1), (0, .ref 18), (1, .int a1), (2, .int a2)]) dX4_findBounds_1 (by decide) rfl ?_
  refine ab_pick [0, 3, 2, 1] rfl ?_
  refine lp_fbO (B := 19) rfl h_nr 18 1 r23 r24 (by omega) ?_
  exact ab_vret dX4_findBounds_133 rfl (by decide) (⟨rfl, rfl⟩)
def lp_frI_st (r23 : Nat → Int64) (r24 : Nat → Int64) (tk : Int64) (a1 : Int32) (j : Nat) (k : Nat) (fc : Int32) (fr : Int32) (fa : Int32) (fe : Int64) : Int32 × Int32 × Int32 × Int64 := (if fe = (-9223372036854775808) then (a1, (nI j), (nI k), (if (tk - (r23 k)) < ((r24 k) - tk) then ((r24 k) - tk) else (tk - (r23 k)))) else (if fe ≤ (if (tk - (r23 k)) < ((r24 k) - tk) then ((r24 k) - tk) else (tk - (r23 k))) then (fc, fr, fa, fe) else (a1, (nI j), (nI k), (if (tk - (r23 k)) < ((r24 k) - tk) then ((r24 k) - tk) else (tk - (r23 k))))))
set_option maxHeartbeats 400000 in
theorem lp_frI {x0 x1 x2 x3 x4 x5 x6 x7 x8 x9 x10 x11 x12 x13 x14 x15 x16 x17 x19 x20 x21 x22 x25 x26 x27 x28 x29 x30 x31 x32 : ax_E} {f18_7 a1 : Int32} {f18_11 tk : Int64} {r23 r24 : Nat → Int64} {wm : List ax_E} {nr j : Nat} {Q : Option Value → ax_W → Prop} {B : Nat} (hB : B = 19)  : ∀ (n k : Nat) (fc : Int32) (fr : Int32) (fa : Int32) (fe : Int64) , k + n = B → Ab M_X4_findRodAndArm Q (0, 0) 100 [(5, .int (nI B)), (3, .long tk), (2, .int (nI j)), (1, .int a1), (0, .ref 18)] [] ([x0, x1, x2, x3, x4, x5, x6, x7, x8, x9, x10, x11, x12, x13, x14, x15, x16, x17, ob 4 [.ref 19, .ref 20, .ref 21, .ref 22, .ref 23, .ref 24, .int (nI nr), .int f18_7, .int ((itr (fun k s => lp_frI_st r23 r24 tk a1 j k s.1 s.2.1 s.2.2.1 s.2.2.2) n k (fc, fr, fa, fe)).1), .int ((itr (fun k s => lp_frI_st r23 r24 tk a1 j k s.1 s.2.1 s.2.2.1 s.2.2.2) n k (fc, fr, fa, fe)).2.1), .int ((itr (fun k s => lp_frI_st r23 r24 tk a1 j k s.1 s.2.1 s.2.2.1 s.2.2.2) n k (fc, fr, fa, fe)).2.2.1), .long f18_11, .long ((itr (fun k s => lp_frI_st r23 r24 tk a1 j k s.1 s.2.1 s.2.2.1 s.2.2.2) n k (fc, fr, fa, fe)).2.2.2)], x19, x20, x21, x22, ja 19 r23, ja 19 r24, x25, x26, x27, x28, x29, x30, x31, x32], wm) → Ab M_X4_findRodAndArm Q (0, 0) 21 [(5, .int (nI k)), (3, .long tk), (2, .int (nI j)), (1, .int a1), (0, .ref 18)] [] ([x0, x1, x2, x3, x4, x5, x6, x7, x8, x9, x10, x11, x12, x13, x14, x15, x16, x17, ob 4 [.ref 19, .ref 20, .ref 21, .ref 22, .ref 23, .ref 24, .int (nI nr), .int f18_7, .int fc, .int fr, .int fa, .long f18_11, .long fe], x19, x20, x21, x22, ja 19 r23, ja 19 r24, x25, x26, x27, x28, x29, x30, x31, x32], wm) := by
  intro n
  induction n with
  | zero =>
    intro k fc fr fa fe  hk hx
    rw [itr_0] at hx
    rw [show k = B by omega]
    refine ab_iload dX4_findRodAndArm_21 rfl ?_
    refine ab_bipush (v := 18) dX4_findRodAndArm_23 (by decide) ?_
    refine ab_icmpgt 100 dX4_findRodAndArm_25 (by decide) (fun h_1 => ?_) (fun h_1 => absurd (nI_lt (a := 18) (by omega) (by omega)) h_1)
    refine ab_pick [0, 1, 2, 3, 4] rfl ?_
    exact hx 
  | succ n ih =>
    intro k fc fr fa fe  hk hx
    refine ab_iload dX4_findRodAndArm_21 rfl ?_
    refine ab_bipush (v := 18) dX4_findRodAndArm_23 (by decide) ?_
    refine ab_icmpgt 100 dX4_findRodAndArm_25 (by decide) (fun h_1 => absurd h_1 (Int32.not_lt.mpr (nI_le (b := 18) (by omega) (by decide)))) (fun h_1 => ?_)
    refine ab_aload_n dX4_findRodAndArm_28 rfl ?_
    refine ab_getf dX4_findRodAndArm_29 fl_X4_27 rfl rfl ?_
    refine ab_iload dX4_findRodAndArm_32 rfl ?_
    refine ab_lald (j := k) dX4_findRodAndArm_34 rfl (ix_nI (by omega) (by decide)) ?_
    refine ab_lload_n dX4_findRodAndArm_35 rfl ?_
    refine ab_lsub dX4_findRodAndArm_36 ?_
    refine ab_lload_n dX4_findRodAndArm_37 rfl ?_
    refine ab_aload_n dX4_findRodAndArm_38 rfl ?_
    refine ab_getf dX4_findRodAndArm_39 fl_X4_24 rfl rfl ?_
    refine ab_iload dX4_findRodAndArm_42 rfl ?_
    refine ab_lald (j := k) dX4_findRodAndArm_44 rfl (ix_nI (by omega) (by decide)) ?_
    refine ab_lsub dX4_findRodAndArm_45 ?_
    refine ab_mmaxL dX4_findRodAndArm_46 ml_X4_112 ⟨by decide, Nat.le_of_ble_eq_true rfl⟩ (by decide) ?_
    refine ab_lstore (la' := [(6, .long (if (tk - (r23 k)) < ((r24 k) - tk) then ((r24 k) - tk) else (tk - (r23 k)))), (5, .int (nI k)), (3, .long tk), (2, .int (nI j)), (1, .int a1), (0, .ref 18)]) dX4_findRodAndArm_49 (by decide) rfl ?_
    refine ab_aload_n dX4_findRodAndArm_51 rfl ?_
    refine ab_getf dX4_findRodAndArm_52 fl_X4_50 rfl rfl ?_
    refine ab_ldc2 dX4_findRodAndArm_55 kl_X4_99 ?_
    refine ab_lcmpeq 72 dX4_findRodAndArm_58 dX4_findRodAndArm_59 (by decide) (fun h_2 => ?_) (fun h_2 => ?_)
    · refine ab_aload_n dX4_findRodAndArm_72 rfl ?_
      refine ab_lload dX4_findRodAndArm_73 rfl ?_
      refine ab_putf (w1 := ([x0, x1, x2, x3, x4, x5, x6, x7, x8, x9, x10, x11, x12, x13, x14, x15, x16, x17, ob 4 [.ref 19, .ref 20, .ref 21, .ref 22, .ref 23, .ref 24, .int (nI nr), .int f18_7, .int fc, .int fr, .int fa, .long f18_11, .long (if (tk - (r23 k)) < ((r24 k) - tk) then ((r24 k) - tk) else (tk - (r23 k)))], x19, x20, x21, x22, ja 19 r23, ja 19 r24, x25, x26, x27, x28, x29, x30, x31, x32], wm)) dX4_findRodAndArm_75 fl_X4_50 rfl (Nat.le_of_ble_eq_true rfl) (fun _ => ⟨rfl, rfl⟩) rfl ?_
      refine ab_aload_n dX4_findRodAndArm_78 rfl ?_
      refine ab_iload_n dX4_findRodAndArm_79 rfl ?_
      refine ab_putf (w1 := ([x0, x1, x2, x3, x4, x5, x6, x7, x8, x9, x10, x11, x12, x13, x14, x15, x16, x17, ob 4 [.ref 19, .ref 20, .ref 21, .ref 22, .ref 23, .ref 24, .int (nI nr), .int f18_7, .int a1, .int fr, .int fa, .long f18_11, .long (if (tk - (r23 k)) < ((r24 k) - tk) then ((r24 k) - tk) else (tk - (r23 k)))], x19, x20, x21, x22, ja 19 r23, ja 19 r24, x25, x26, x27, x28, x29, x30, x31, x32], wm)) dX4_findRodAndArm_80 fl_X4_37 rfl (Nat.le_of_ble_eq_true rfl) (fun _ => ⟨rfl, rfl⟩) rfl ?_
      refine ab_aload_n dX4_findRodAndArm_83 rfl ?_
      refine ab_iload_n dX4_findRodAndArm_84 rfl ?_
      refine ab_putf (w1 := ([x0, x1, x2, x3, x4, x5, x6, x7, x8, x9, x10, x11, x12, x13, x14, x15, x16, x17, ob 4 [.ref 19, .ref 20, .ref 21, .ref 22, .ref 23, .ref 24, .int (nI nr), .int f18_7, .int a1, .int (nI j), .int fa, .long f18_11, .long (if (tk - (r23 k)) < ((r24 k) - tk) then ((r24 k) - tk) else (tk - (r23 k)))], x19, x20, x21, x22, ja 19 r23, ja 19 r24, x25, x26, x27, x28, x29, x30, x31, x32], wm)) dX4_findRodAndArm_85 fl_X4_40 rfl (Nat.le_of_ble_eq_true rfl) (fun _ => ⟨rfl, rfl⟩) rfl ?_
      refine ab_aload_n dX4_findRodAndArm_88 rfl ?_
      refine ab_iload dX4_findRodAndArm_89 rfl ?_
      refine ab_putf (w1 := ([x0, x1, x2, x3, x4, x5, x6, x7, x8, x9, x10, x11, x12, x13, x14, x15, x16, x17, ob 4 [.ref 19, .ref 20, .ref 21, .ref 22, .ref 23, .ref 24, .int (nI nr), .int f18_7, .int a1, .int (nI j), .int (nI k), .long f18_11, .long (if (tk - (r23 k)) < ((r24 k) - tk) then ((r24 k) - tk) else (tk - (r23 k)))], x19, x20, x21, x22, ja 19 r23, ja 19 r24, x25, x26, x27, x28, x29, x30, x31, x32], wm)) dX4_findRodAndArm_91 fl_X4_43 rfl (Nat.le_of_ble_eq_true rfl) (fun _ => ⟨rfl, rfl⟩) rfl ?_
      refine ab_iinc (v := (nI (k + 1))) (la' := [(5, .int (nI (k + 1))), (6, .long (if (tk - (r23 k)) < ((r24 k) - tk) then ((r24 k) - tk) else (tk - (r23 k)))), (3, .long tk), (2, .int (nI j)), (1, .int a1), (0, .ref 18)]) dX4_findRodAndArm_94 rfl (nI_1 _) (by decide) rfl ?_
      refine ab_goto 21 dX4_findRodAndArm_97 (by decide) ?_
      refine ab_pick [0, 2, 3, 4, 5] rfl ?_
      rw [(itr_s (fun k s => lp_frI_st r23 r24 tk a1 j k s.1 s.2.1 s.2.2.1 s.2.2.2) n k (fc, fr, fa, fe)).trans (congrArg (itr (fun k s => lp_frI_st r23 r24 tk a1 j k s.1 s.2.1 s.2.2.1 s.2.2.2) n (k + 1)) (show lp_frI_st r23 r24 tk a1 j k fc fr fa fe = (a1, (nI j), (nI k), (if (tk - (r23 k)) < ((r24 k) - tk) then ((r24 k) - tk) else (tk - (r23 k)))) from by rw [lp_frI_st, if_pos (show fe = (-9223372036854775808) from h_2)]))] at hx
      exact ih (k + 1) a1 (nI j) (nI k) (if (tk - (r23 k)) < ((r24 k) - tk) then ((r24 k) - tk) else (tk - (r23 k)))  (by omega) hx
    · refine ab_lload dX4_findRodAndArm_62 rfl ?_
      refine ab_aload_n dX4_findRodAndArm_64 rfl ?_
      refine ab_getf dX4_findRodAndArm_65 fl_X4_50 rfl rfl ?_
      refine ab_lcmpge 94 dX4_findRodAndArm_68 dX4_findRodAndArm_69 (by decide) (fun h_3 => ?_) (fun h_3 => ?_)
      · refine ab_iinc (v := (nI (k + 1))) (la' := [(5, .int (nI (k + 1))), (6, .long (if (tk - (r23 k)) < ((r24 k) - tk) then ((r24 k) - tk) else (tk - (r23 k)))), (3, .long tk), (2, .int (nI j)), (1, .int a1), (0, .ref 18)]) dX4_findRodAndArm_94 rfl (nI_1 _) (by decide) rfl ?_
        refine ab_goto 21 dX4_findRodAndArm_97 (by decide) ?_
        refine ab_pick [0, 2, 3, 4, 5] rfl ?_
        rw [(itr_s (fun k s => lp_frI_st r23 r24 tk a1 j k s.1 s.2.1 s.2.2.1 s.2.2.2) n k (fc, fr, fa, fe)).trans (congrArg (itr (fun k s => lp_frI_st r23 r24 tk a1 j k s.1 s.2.1 s.2.2.1 s.2.2.2) n (k + 1)) (show lp_frI_st r23 r24 tk a1 j k fc fr fa fe = (fc, fr, fa, fe) from by rw [lp_frI_st, if_neg (show ¬ fe = (-9223372036854775808) from h_2), if_pos (show fe ≤ (if (tk - (r23 k)) < ((r24 k) - tk) then ((r24 k) - tk) else (tk - (r23 k))) from h_3)]))] at hx
        exact ih (k + 1) fc fr fa fe  (by omega) hx
      · refine ab_aload_n dX4_findRodAndArm_72 rfl ?_
        refine ab_lload dX4_findRodAndArm_73 rfl ?_
        refine ab_putf (w1 := ([x0, x1, x2, x3, x4, x5, x6, x7, x8, x9, x10, x11, x12, x13, x14, x15, x16, x17, ob 4 [.ref 19, .ref 20, .ref 21, .ref 22, .ref 23, .ref 24, .int (nI nr), .int f18_7, .int fc, .int fr, .int fa, .long f18_11, .long (if (tk - (r23 k)) < ((r24 k) - tk) then ((r24 k) - tk) else (tk - (r23 k)))], x19, x20, x21, x22, ja 19 r23, ja 19 r24, x25, x26, x27, x28, x29, x30, x31, x32], wm)) dX4_findRodAndArm_75 fl_X4_50 rfl (Nat.le_of_ble_eq_true rfl) (fun _ => ⟨rfl, rfl⟩) rfl ?_
        refine ab_aload_n dX4_findRodAndArm_78 rfl ?_
        refine ab_iload_n dX4_findRodAndArm_79 rfl ?_
        refine ab_putf (w1 := ([x0, x1, x2, x3, x4, x5, x6, x7, x8, x9, x10, x11, x12, x13, x14, x15, x16, x17, ob 4 [.ref 19, .ref 20, .ref 21, .ref 22, .ref 23, .ref 24, .int (nI nr), .int f18_7, .int a1, .int fr, .int fa, .long f18_11, .long (if (tk - (r23 k)) < ((r24 k) - tk) then ((r24 k) - tk) else (tk - (r23 k)))], x19, x20, x21, x22, ja 19 r23, ja 19 r24, x25, x26, x27, x28, x29, x30, x31, x32], wm)) dX4_findRodAndArm_80 fl_X4_37 rfl (Nat.le_of_ble_eq_true rfl) (fun _ => ⟨rfl, rfl⟩) rfl ?_
        refine ab_aload_n dX4_findRodAndArm_83 rfl ?_
        refine ab_iload_n dX4_findRodAndArm_84 rfl ?_
        refine ab_putf (w1 := ([x0, x1, x2, x3, x4, x5, x6, x7, x8, x9, x10, x11, x12, x13, x14, x15, x16, x17, ob 4 [.ref 19, .ref 20, .ref 21, .ref 22, .ref 23, .ref 24, .int (nI nr), .int f18_7, .int a1, .int (nI j), .int fa, .long f18_11, .long (if (tk - (r23 k)) < ((r24 k) - tk) then ((r24 k) - tk) else (tk - (r23 k)))], x19, x20, x21, x22, ja 19 r23, ja 19 r24, x25, x26, x27, x28, x29, x30, x31, x32], wm)) dX4_findRodAndArm_85 fl_X4_40 rfl (Nat.le_of_ble_eq_true rfl) (fun _ => ⟨rfl, rfl⟩) rfl ?_
        refine ab_aload_n dX4_findRodAndArm_88 rfl ?_
        refine ab_iload dX4_findRodAndArm_89 rfl ?_
        refine ab_putf (w1 := ([x0, x1, x2, x3, x4, x5, x6, x7, x8, x9, x10, x11, x12, x13, x14, x15, x16, x17, ob 4 [.ref 19, .ref 20, .ref 21, .ref 22, .ref 23, .ref 24, .int (nI nr), .int f18_7, .int a1, .int (nI j), .int (nI k), .long f18_11, .long (if (tk - (r23 k)) < ((r24 k) - tk) then ((r24 k) - tk) else (tk - (r23 k)))], x19, x20, x21, x22, ja 19 r23, ja 19 r24, x25, x26, x27, x28, x29, x30, x31, x32], wm)) dX4_findRodAndArm_91 fl_X4_43 rfl (Nat.le_of_ble_eq_true rfl) (fun _ => ⟨rfl, rfl⟩) rfl ?_
        refine ab_iinc (v := (nI (k + 1))) (la' := [(5, .int (nI (k + 1))), (6, .long (if (tk - (r23 k)) < ((r24 k) - tk) then ((r24 k) - tk) else (tk - (r23 k)))), (3, .long tk), (2, .int (nI j)), (1, .int a1), (0, .ref 18)]) dX4_findRodAndArm_94 rfl (nI_1 _) (by decide) rfl ?_
        refine ab_goto 21 dX4_findRodAndArm_97 (by decide) ?_
        refine ab_pick [0, 2, 3, 4, 5] rfl ?_
        rw [(itr_s (fun k s => lp_frI_st r23 r24 tk a1 j k s.1 s.2.1 s.2.2.1 s.2.2.2) n k (fc, fr, fa, fe)).trans (congrArg (itr (fun k s => lp_frI_st r23 r24 tk a1 j k s.1 s.2.1 s.2.2.1 s.2.2.2) n (k + 1)) (show lp_frI_st r23 r24 tk a1 j k fc fr fa fe = (a1, (nI j), (nI k), (if (tk - (r23 k)) < ((r24 k) - tk) then ((r24 k) - tk) else (tk - (r23 k)))) from by rw [lp_frI_st, if_neg (show ¬ fe = (-9223372036854775808) from h_2), if_neg (show ¬ fe ≤ (if (tk - (r23 k)) < ((r24 k) - tk) then ((r24 k) - tk) else (tk - (r23 k))) from h_3)]))] at hx
        exact ih (k + 1) a1 (nI j) (nI k) (if (tk - (r23 k)) < ((r24 k) - tk) then ((r24 k) - tk) else (tk - (r23 k)))  (by omega) hx
def lp_frO_st (f18_11 : Int64) (r23 : Nat → Int64) (r24 : Nat → Int64) (a1 : Int32) (j : Nat) (fc : Int32) (fr : Int32) (fa : Int32) (fe : Int64) : Int32 × Int32 × Int32 × Int64 := (((itr (fun k s => lp_frI_st r23 r24 ((Int32.toInt64 ((nI j) * (nI j))) * f18_11) a1 j k s.1 s.2.1 s.2.2.1 s.2.2.2) 18 1 (fc, fr, fa, fe)).1), ((itr (fun k s => lp_frI_st r23 r24 ((Int32.toInt64 ((nI j) * (nI j))) * f18_11) a1 j k s.1 s.2.1 s.2.2.1 s.2.2.2) 18 1 (fc, fr, fa, fe)).2.1), ((itr (fun k s => lp_frI_st r23 r24 ((Int32.toInt64 ((nI j) * (nI j))) * f18_11) a1 j k s.1 s.2.1 s.2.2.1 s.2.2.2) 18 1 (fc, fr, fa, fe)).2.2.1), ((itr (fun k s => lp_frI_st r23 r24 ((Int32.toInt64 ((nI j) * (nI j))) * f18_11) a1 j k s.1 s.2.1 s.2.2.1 s.2.2.2) 18 1 (fc, fr, fa, fe)).2.2.2))
set_option maxHeartbeats 400000 in
theorem lp_frO {x0 x1 x2 x3 x4 x5 x6 x7 x8 x9 x10 x11 x12 x13 x14 x15 x16 x17 x19 x20 x21 x22 x25 x26 x27 x28 x29 x30 x31 x32 : ax_E} {f18_7 a1 : Int32} {f18_11 : Int64} {r23 r24 : Nat → Int64} {wm : List ax_E} {nr : Nat} {Q : Option Value → ax_W → Prop} {B : Nat} (hB : B = 19)  : ∀ (n j : Nat) (fc : Int32) (fr : Int32) (fa : Int32) (fe : Int64) , j + n = B → Ab M_X4_findRodAndArm Q (0, 0) 106 [(2, .int (nI B)), (1, .int a1), (0, .ref 18)] [] ([x0, x1, x2, x3, x4, x5, x6, x7, x8, x9, x10, x11, x12, x13, x14, x15, x16, x17, ob 4 [.ref 19, .ref 20, .ref 21, .ref 22, .ref 23, .ref 24, .int (nI nr), .int f18_7, .int ((itr (fun j s => lp_frO_st f18_11 r23 r24 a1 j s.1 s.2.1 s.2.2.1 s.2.2.2) n j (fc, fr, fa, fe)).1), .int ((itr (fun j s => lp_frO_st f18_11 r23 r24 a1 j s.1 s.2.1 s.2.2.1 s.2.2.2) n j (fc, fr, fa, fe)).2.1), .int ((itr (fun j s => lp_frO_st f18_11 r23 r24 a1 j s.1 s.2.1 s.2.2.1 s.2.2.2) n j (fc, fr, fa, fe)).2.2.1), .long f18_11, .long ((itr (fun j s => lp_frO_st f18_11 r23 r24 a1 j s.1 s.2.1 s.2.2.1 s.2.2.2) n j (fc, fr, fa, fe)).2.2.2)], x19, x20, x21, x22, ja 19 r23, ja 19 r24, x25, x26, x27, x28, x29, x30, x31, x32], wm) → Ab M_X4_findRodAndArm Q (0, 0) 2 [(2, .int (nI j)), (1, .int a1), (0, .ref 18)] [] ([x0, x1, x2, x3, x4, x5, x6, x7, x8, x9, x10, x11, x12, x13, x14, x15, x16, x17, ob 4 [.ref 19, .ref 20, .ref 21, .ref 22, .ref 23, .ref 24, .int (nI nr), .int f18_7, .int fc, .int fr, .int fa, .long f18_11, .long fe], x19, x20, x21, x22, ja 19 r23, ja 19 r24, x25, x26, x27, x28, x29, x30, x31, x32], wm) := by
  intro n
  induction n with
  | zero =>
    intro j fc fr fa fe  hk hx
    rw [itr_0] at hx
    rw [show j = B by omega]
    refine ab_iload_n dX4_findRodAndArm_2 rfl ?_
    refine ab_bipush (v := 18) dX4_findRodAndArm_3 (by decide) ?_
    refine ab_icmpgt 106 dX4_findRodAndArm_5 (by decide) (fun h_1 => ?_) (fun h_1 => absurd (nI_lt (a := 18) (by omega) (by omega)) h_1)
    refine ab_pick [0, 1, 2] rfl ?_
    exact hx 
  | succ n ih =>
    intro j fc fr fa fe  hk hx
    refine ab_iload_n dX4_findRodAndArm_2 rfl ?_
    refine ab_bipush (v := 18) dX4_findRodAndArm_3 (by decide) ?_
    refine ab_icmpgt 106 dX4_findRodAndArm_5 (by decide) (fun h_1 => absurd h_1 (Int32.not_lt.mpr (nI_le (b := 18) (by omega) (by decide)))) (fun h_1 => ?_)
    refine ab_iload_n dX4_findRodAndArm_8 rfl ?_
    refine ab_iload_n dX4_findRodAndArm_9 rfl ?_
    refine ab_imul dX4_findRodAndArm_10 ?_
    refine ab_i2l dX4_findRodAndArm_11 ?_
    refine ab_aload_n dX4_findRodAndArm_12 rfl ?_
    refine ab_getf dX4_findRodAndArm_13 fl_X4_46 rfl rfl ?_
    refine ab_lmul dX4_findRodAndArm_16 ?_
    refine ab_lstore_n (la' := [(3, .long ((Int32.toInt64 ((nI j) * (nI j))) * f18_11)), (2, .int (nI j)), (1, .int a1), (0, .ref 18)]) dX4_findRodAndArm_17 (by decide) rfl ?_
    refine ab_iconst (v := 1) dX4_findRodAndArm_18 (by decide) ?_
    refine ab_istore (la' := [(5, .int 1), (3, .long ((Int32.toInt64 ((nI j) * (nI j))) * f18_11)), (2, .int (nI j)), (1, .int a1), (0, .ref 18)]) dX4_findRodAndArm_19 (by decide) rfl ?_
    refine ab_pick [0, 1, 2, 3, 4] rfl ?_
    refine lp_frI (B := 19) rfl 18 1 fc fr fa fe (by omega) ?_
    refine ab_iinc (v := (nI (j + 1))) (la' := [(2, .int (nI (j + 1))), (5, .int (nI 19)), (3, .long ((Int32.toInt64 ((nI j) * (nI j))) * f18_11)), (1, .int a1), (0, .ref 18)]) dX4_findRodAndArm_100 rfl (nI_1 _) (by decide) rfl ?_
    refine ab_goto 2 dX4_findRodAndArm_103 (by decide) ?_
    refine ab_pick [0, 3, 4] rfl ?_
    rw [(itr_s (fun j s => lp_frO_st f18_11 r23 r24 a1 j s.1 s.2.1 s.2.2.1 s.2.2.2) n j (fc, fr, fa, fe)).trans (congrArg (itr (fun j s => lp_frO_st f18_11 r23 r24 a1 j s.1 s.2.1 s.2.2.1 s.2.2.2) n (j + 1)) (show lp_frO_st f18_11 r23 r24 a1 j fc fr fa fe = (((itr (fun k s => lp_frI_st r23 r24 ((Int32.toInt64 ((nI j) * (nI j))) * f18_11) a1 j k s.1 s.2.1 s.2.2.1 s.2.2.2) 18 1 (fc, fr, fa, fe)).1), ((itr (fun k s => lp_frI_st r23 r24 ((Int32.toInt64 ((nI j) * (nI j))) * f18_11) a1 j k s.1 s.2.1 s.2.2.1 s.2.2.2) 18 1 (fc, fr, fa, fe)).2.1), ((itr (fun k s => lp_frI_st r23 r24 ((Int32.toInt64 ((nI j) * (nI j))) * f18_11) a1 j k s.1 s.2.1 s.2.2.1 s.2.2.2) 18 1 (fc, fr, fa, fe)).2.2.1), ((itr (fun k s => lp_frI_st r23 r24 ((Int32.toInt64 ((nI j) * (nI j))) * f18_11) a1 j k s.1 s.2.1 s.2.2.1 s.2.2.2) 18 1 (fc, fr, fa, fe)).2.2.2)) from rfl))] at hx
    exact ih (j + 1) ((itr (fun k s => lp_frI_st r23 r24 ((Int32.toInt64 ((nI j) * (nI j))) * f18_11) a1 j k s.1 s.2.1 s.2.2.1 s.2.2.2) 18 1 (fc, fr, fa, fe)).1) ((itr (fun k s => lp_frI_st r23 r24 ((Int32.toInt64 ((nI j) * (nI j))) * f18_11) a1 j k s.1 s.2.1 s.2.2.1 s.2.2.2) 18 1 (fc, fr, fa, fe)).2.1) ((itr (fun k s => lp_frI_st r23 r24 ((Int32.toInt64 ((nI j) * (nI j))) * f18_11) a1 j k s.1 s.2.1 s.2.2.1 s.2.2.2) 18 1 (fc, fr, fa, fe)).2.2.1) ((itr (fun k s => lp_frI_st r23 r24 ((Int32.toInt64 ((nI j) * (nI j))) * f18_11) a1 j k s.1 s.2.1 s.2.2.1 s.2.2.2) 18 1 (fc, fr, fa, fe)).2.2.2)  (by omega) hx
theorem c_X4_findRodAndArm {x0 x1 x2 x3 x4 x5 x6 x7 x8 x9 x10 x11 x12 x13 x14 x15 x16 x17 x19 x20 x21 x22 x25 x26 x27 x28 x29 x30 x31 x32 : ax_E} {f18_7 f18_8 f18_9 f18_10 a1 : Int32} {f18_11 f18_12 : Int64} {r23 r24 : Nat → Int64} {wm : List ax_E} {nr : Nat}  : Ct M_X4_findRodAndArm [.ref 18, .int a1] ([x0, x1, x2, x3, x4, x5, x6, x7, x8, x9, x10, x11, x12, x13, x14, x15, x16, x17, ob 4 [.ref 19, .ref 20, .ref 21, .ref 22, .ref 23, .ref 24, .int (nI nr), .int f18_7, .int f18_8, .int f18_9, .int f18_10, .long f18_11, .long f18_12], x19, x20, x21, x22, ja 19 r23, ja 19 r24, x25, x26, x27, x28, x29, x30, x31, x32], wm) (fun r w' => r = none ∧ w' = ([x0, x1, x2, x3, x4, x5, x6, x7, x8, x9, x10, x11, x12, x13, x14, x15, x16, x17, ob 4 [.ref 19, .ref 20, .ref 21, .ref 22, .ref 23, .ref 24, .int (nI nr), .int f18_7, .int ((itr (fun j s => lp_frO_st f18_11 r23 r24 a1 j s.1 s.2.1 s.2.2.1 s.2.2.2) 18 1 (f18_8, f18_9, f18_10, f18_12)).1), .int ((itr (fun j s => lp_frO_st f18_11 r23 r24 a1 j s.1 s.2.1 s.2.2.1 s.2.2.2) 18 1 (f18_8, f18_9, f18_10, f18_12)).2.1), .int ((itr (fun j s => lp_frO_st f18_11 r23 r24 a1 j s.1 s.2.1 s.2.2.1 s.2.2.2) 18 1 (f18_8, f18_9, f18_10, f18_12)).2.2.1), .long f18_11, .long ((itr (fun j s => lp_frO_st f18_11 r23 r24 a1 j s.1 s.2.1 s.2.2.1 s.2.2.2) 18 1 (f18_8, f18_9, f18_10, f18_12)).2.2.2)], x19, x20, x21, x22, ja 19 r23, ja 19 r24, x25, x26, x27, x28, x29, x30, x31, x32], wm)) := by
  refine ct_of ⟨by decide, rfl⟩ (Nat.le_of_ble_eq_true rfl) ?_
  refine ab_iconst (v := 1) dX4_findRodAndArm_0 (by decide) ?_
  refine ab_istore_n (la' := [(2, .int 1), (0, .ref 18), (1, .int a1)]) dX4_findRodAndArm_1 (by decide) rfl ?_
  refine ab_pick [0, 2, 1] rfl ?_
  refine lp_frO (B := 19) rfl 18 1 f18_8 f18_9 f18_10 f18_12 (by omega) ?_
  exact ab_vret dX4_findRodAndArm_106 rfl (by decide) (⟨rfl, rfl⟩)
