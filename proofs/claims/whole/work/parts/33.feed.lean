theorem room_mp {L : Nat} (hL : L ≤ 700) (h : nI L + 20 ≤ 700) : L + 20 ≤ 700 := by
  rw [show (20 : Int32) = nI 20 from rfl, nI_add, show (700 : Int32) = nI 700 from rfl] at h
  exact (nI_leI (by omega) (by decide)).mp h
theorem room_mpr {L : Nat} (hL : L ≤ 700) (h : ¬ nI L + 20 ≤ 700) : ¬ L + 20 ≤ 700 := by
  rw [show (20 : Int32) = nI 20 from rfl, nI_add, show (700 : Int32) = nI 700 from rfl] at h
  exact fun q => h ((nI_leI (by omega) (by decide)).mpr q)
theorem c_X6_put {x0 x3 x4 x5 x6 x7 x8 x9 x10 x11 x12 x13 x14 x15 x16 x17 x18 x19 x20 x21 x22 x23 x24 x25 x26 x27 x28 x29 x30 x31 x32 : ax_E} {f1_3 f1_4 f1_5 f1_6 a1 : Int32} {r2 : Nat → Int32} {wm : List ax_E} {L : Nat} (h_L : L + 4 ≤ 700) : Ct M_X6_put [.ref 1, .int a1] ([x0, ob 6 [.ref 2, .ref 3, .int (nI L), .int f1_3, .int f1_4, .int f1_5, .int f1_6], ba 700 r2, x3, x4, x5, x6, x7, x8, x9, x10, x11, x12, x13, x14, x15, x16, x17, x18, x19, x20, x21, x22, x23, x24, x25, x26, x27, x28, x29, x30, x31, x32], wm) (fun r w' => r = none ∧ w' = ([x0, ob 6 [.ref 2, .ref 3, .int (nI ((((L + 1) + 1) + 1) + 1)), .int f1_3, .int f1_4, .int f1_5, .int f1_6], ba 700 (upd (upd (upd (upd r2 L (vp_nar .byte (Int8.toInt32 (Int32.toInt8 (a1 >>> (24 &&& 31)))))) (L + 1) (vp_nar .byte (Int8.toInt32 (Int32.toInt8 (a1 >>> (16 &&& 31)))))) ((L + 1) + 1) (vp_nar .byte (Int8.toInt32 (Int32.toInt8 (a1 >>> (8 &&& 31)))))) (((L + 1) + 1) + 1) (vp_nar .byte (Int8.toInt32 (Int32.toInt8 (a1 >>> (0 &&& 31)))))), x3, x4, x5, x6, x7, x8, x9, x10, x11, x12, x13, x14, x15, x16, x17, x18, x19, x20, x21, x22, x23, x24, x25, x26, x27, x28, x29, x30, x31, x32], wm)) := by
  refine ct_of ⟨by decide, rfl⟩ (Nat.le_of_ble_eq_true rfl) ?_
  refine ab_bipush (v := 24) dX6_put_0 (by decide) ?_
  refine ab_istore_n (la' := [(2, .int 24), (0, .ref 1), (1, .int a1)]) dX6_put_2 (by decide) rfl ?_
  refine ab_iload_n dX6_put_3 rfl ?_
  refine ab_iflt 46 dX6_put_4 (by decide) (fun h_1 => absurd h_1 (by decide)) (fun h_1 => ?_)
  refine ab_aload_n dX6_put_7 rfl ?_
  refine ab_getf dX6_put_8 fl_X6_19 rfl rfl ?_
  refine ab_sipush (v := 700) dX6_put_11 (by decide) ?_
  refine ab_icmpge 46 dX6_put_14 (by decide) (fun h_2 => absurd h_2 (nI_ge (b := 700) (by omega) (by decide))) (fun h_2 => ?_)
  refine ab_aload_n dX6_put_17 rfl ?_
  refine ab_getf dX6_put_18 fl_X6_11 rfl rfl ?_
  refine ab_aload_n dX6_put_21 rfl ?_
  refine ab_getf dX6_put_22 fl_X6_19 rfl rfl ?_
  refine ab_iload_n dX6_put_25 rfl ?_
  refine ab_iload_n dX6_put_26 rfl ?_
  refine ab_ishr dX6_put_27 ?_
  refine ab_i2b dX6_put_28 ?_
  refine ab_bast (w1 := ([x0, ob 6 [.ref 2, .ref 3, .int (nI L), .int f1_3, .int f1_4, .int f1_5, .int f1_6], ba 700 (upd r2 L (vp_nar .byte (Int8.toInt32 (Int32.toInt8 (a1 >>> (24 &&& 31)))))), x3, x4, x5, x6, x7, x8, x9, x10, x11, x12, x13, x14, x15, x16, x17, x18, x19, x20, x21, x22, x23, x24, x25, x26, x27, x28, x29, x30, x31, x32], wm)) dX6_put_29 rfl (ix_nI (by omega) (by decide)) rfl ?_
  refine ab_aload_n dX6_put_30 rfl ?_
  refine ab_dup rfl dX6_put_31 ?_
  refine ab_getf dX6_put_32 fl_X6_19 rfl rfl ?_
  refine ab_iconst (v := 1) dX6_put_35 (by decide) ?_
  refine ab_iadd dX6_put_36 ?_
  refine ab_topi (v := (nI (L + 1))) (nI_1 _) ?_
  refine ab_putf (w1 := ([x0, ob 6 [.ref 2, .ref 3, .int (nI (L + 1)), .int f1_3, .int f1_4, .int f1_5, .int f1_6], ba 700 (upd r2 L (vp_nar .byte (Int8.toInt32 (Int32.toInt8 (a1 >>> (24 &&& 31)))))), x3, x4, x5, x6, x7, x8, x9, x10, x11, x12, x13, x14, x15, x16, x17, x18, x19, x20, x21, x22, x23, x24, x25, x26, x27, x28, x29, x30, x31, x32], wm)) dX6_put_37 fl_X6_19 rfl (Nat.le_of_ble_eq_true rfl) (fun _ => ⟨rfl, rfl⟩) rfl ?_
  refine ab_iinc (v := 16) (la' := [(2, .int 16), (0, .ref 1), (1, .int a1)]) dX6_put_40 rfl (by decide) (by decide) rfl ?_
  refine ab_goto 3 dX6_put_43 (by decide) ?_
  refine ab_iload_n dX6_put_3 rfl ?_
  refine ab_iflt 46 dX6_put_4 (by decide) (fun h_3 => absurd h_3 (by decide)) (fun h_3 => ?_)
  refine ab_aload_n dX6_put_7 rfl ?_
  refine ab_getf dX6_put_8 fl_X6_19 rfl rfl ?_
  refine ab_sipush (v := 700) dX6_put_11 (by decide) ?_
  refine ab_icmpge 46 dX6_put_14 (by decide) (fun h_4 => absurd h_4 (nI_ge (b := 700) (by omega) (by decide))) (fun h_4 => ?_)
  refine ab_aload_n dX6_put_17 rfl ?_
  refine ab_getf dX6_put_18 fl_X6_11 rfl rfl ?_
  refine ab_aload_n dX6_put_21 rfl ?_
  refine ab_getf dX6_put_22 fl_X6_19 rfl rfl ?_
  refine ab_iload_n dX6_put_25 rfl ?_
  refine ab_iload_n dX6_put_26 rfl ?_
  refine ab_ishr dX6_put_27 ?_
  refine ab_i2b dX6_put_28 ?_
  refine ab_bast (w1 := ([x0, ob 6 [.ref 2, .ref 3, .int (nI (L + 1)), .int f1_3, .int f1_4, .int f1_5, .int f1_6], ba 700 (upd (upd r2 L (vp_nar .byte (Int8.toInt32 (Int32.toInt8 (a1 >>> (24 &&& 31)))))) (L + 1) (vp_nar .byte (Int8.toInt32 (Int32.toInt8 (a1 >>> (16 &&& 31)))))), x3, x4, x5, x6, x7, x8, x9, x10, x11, x12, x13, x14, x15, x16, x17, x18, x19, x20, x21, x22, x23, x24, x25, x26, x27, x28, x29, x30, x31, x32], wm)) dX6_put_29 rfl (ix_nI (by omega) (by decide)) rfl ?_
  refine ab_aload_n dX6_put_30 rfl ?_
  refine ab_dup rfl dX6_put_31 ?_
  refine ab_getf dX6_put_32 fl_X6_19 rfl rfl ?_
  refine ab_iconst (v := 1) dX6_put_35 (by decide) ?_
  refine ab_iadd dX6_put_36 ?_
  refine ab_topi (v := (nI ((L + 1) + 1))) (nI_1 _) ?_
  refine ab_putf (w1 := ([x0, ob 6 [.ref 2, .ref 3, .int (nI ((L + 1) + 1)), .int f1_3, .int f1_4, .int f1_5, .int f1_6], ba 700 (upd (upd r2 L (vp_nar .byte (Int8.toInt32 (Int32.toInt8 (a1 >>> (24 &&& 31)))))) (L + 1) (vp_nar .byte (Int8.toInt32 (Int32.toInt8 (a1 >>> (16 &&& 31)))))), x3, x4, x5, x6, x7, x8, x9, x10, x11, x12, x13, x14, x15, x16, x17, x18, x19, x20, x21, x22, x23, x24, x25, x26, x27, x28, x29, x30, x31, x32], wm)) dX6_put_37 fl_X6_19 rfl (Nat.le_of_ble_eq_true rfl) (fun _ => ⟨rfl, rfl⟩) rfl ?_
  refine ab_iinc (v := 8) (la' := [(2, .int 8), (0, .ref 1), (1, .int a1)]) dX6_put_40 rfl (by decide) (by decide) rfl ?_
  refine ab_goto 3 dX6_put_43 (by decide) ?_
  refine ab_iload_n dX6_put_3 rfl ?_
  refine ab_iflt 46 dX6_put_4 (by decide) (fun h_5 => absurd h_5 (by decide)) (fun h_5 => ?_)
  refine ab_aload_n dX6_put_7 rfl ?_
  refine ab_getf dX6_put_8 fl_X6_19 rfl rfl ?_
  refine ab_sipush (v := 700) dX6_put_11 (by decide) ?_
  refine ab_icmpge 46 dX6_put_14 (by decide) (fun h_6 => absurd h_6 (nI_ge (b := 700) (by omega) (by decide))) (fun h_6 => ?_)
  refine ab_aload_n dX6_put_17 rfl ?_
  refine ab_getf dX6_put_18 fl_X6_11 rfl rfl ?_
  refine ab_aload_n dX6_put_21 rfl ?_
  refine ab_getf dX6_put_22 fl_X6_19 rfl rfl ?_
  refine ab_iload_n dX6_put_25 rfl ?_
  refine ab_iload_n dX6_put_26 rfl ?_
  refine ab_ishr dX6_put_27 ?_
  refine ab_i2b dX6_put_28 ?_
  refine ab_bast (w1 := ([x0, ob 6 [.ref 2, .ref 3, .int (nI ((L + 1) + 1)), .int f1_3, .int f1_4, .int f1_5, .int f1_6], ba 700 (upd (upd (upd r2 L (vp_nar .byte (Int8.toInt32 (Int32.toInt8 (a1 >>> (24 &&& 31)))))) (L + 1) (vp_nar .byte (Int8.toInt32 (Int32.toInt8 (a1 >>> (16 &&& 31)))))) ((L + 1) + 1) (vp_nar .byte (Int8.toInt32 (Int32.toInt8 (a1 >>> (8 &&& 31)))))), x3, x4, x5, x6, x7, x8, x9, x10, x11, x12, x13, x14, x15, x16, x17, x18, x19, x20, x21, x22, x23, x24, x25, x26, x27, x28, x29, x30, x31, x32], wm)) dX6_put_29 rfl (ix_nI (by omega) (by decide)) rfl ?_
  refine ab_aload_n dX6_put_30 rfl ?_
  refine ab_dup rfl dX6_put_31 ?_
  refine ab_getf dX6_put_32 fl_X6_19 rfl rfl ?_
  refine ab_iconst (v := 1) dX6_put_35 (by decide) ?_
  refine ab_iadd dX6_put_36 ?_
  refine ab_topi (v := (nI (((L + 1) + 1) + 1))) (nI_1 _) ?_
  refine ab_putf (w1 := ([x0, ob 6 [.ref 2, .ref 3, .int (nI (((L + 1) + 1) + 1)), .int f1_3, .int f1_4, .int f1_5, .int f1_6], ba 700 (upd (upd (upd r2 L (vp_nar .byte (Int8.toInt32 (Int32.toInt8 (a1 >>> (24 &&& 31)))))) (L + 1) (vp_nar .byte (Int8.toInt32 (Int32.toInt8 (a1 >>> (16 &&& 31)))))) ((L + 1) + 1) (vp_nar .byte (Int8.toInt32 (Int32.toInt8 (a1 >>> (8 &&& 31)))))), x3, x4, x5, x6, x7, x8, x9, x10, x11, x12, x13, x14, x15, x16, x17, x18, x19, x20, x21, x22, x23, x24, x25, x26, x27, x28, x29, x30, x31, x32], wm)) dX6_put_37 fl_X6_19 rfl (Nat.le_of_ble_eq_true rfl) (fun _ => ⟨rfl, rfl⟩) rfl ?_
  refine ab_iinc (v := 0) (la' := [(2, .int 0), (0, .ref 1), (1, .int a1)]) dX6_put_40 rfl (by decide) (by decide) rfl ?_
  refine ab_goto 3 dX6_put_43 (by decide) ?_
  refine ab_iload_n dX6_put_3 rfl ?_
  refine ab_iflt 46 dX6_put_4 (by decide) (fun h_7 => absurd h_7 (by decide)) (fun h_7 => ?_)
  refine ab_aload_n dX6_put_7 rfl ?_
  refine ab_getf dX6_put_8 fl_X6_19 rfl rfl ?_
  refine ab_sipush (v := 700) dX6_put_11 (by decide) ?_
  refine ab_icmpge 46 dX6_put_14 (by decide) (fun h_8 => absurd h_8 (nI_ge (b := 700) (by omega) (by decide))) (fun h_8 => ?_)
  refine ab_aload_n dX6_put_17 rfl ?_
  refine ab_getf dX6_put_18 fl_X6_11 rfl rfl ?_
  refine ab_aload_n dX6_put_21 rfl ?_
  refine ab_getf dX6_put_22 fl_X6_19 rfl rfl ?_
  refine ab_iload_n dX6_put_25 rfl ?_
  refine ab_iload_n dX6_put_26 rfl ?_
  refine ab_ishr dX6_put_27 ?_
  refine ab_i2b dX6_put_28 ?_
  refine ab_bast (w1 := ([x0, ob 6 [.ref 2, .ref 3, .int (nI (((L + 1) + 1) + 1)), .int f1_3, .int f1_4, .int f1_5, .int f1_6], ba 700 (upd (upd (upd (upd r2 L (vp_nar .byte (Int8.toInt32 (Int32.toInt8 (a1 >>> (24 &&& 31)))))) (L + 1) (vp_nar .byte (Int8.toInt32 (Int32.toInt8 (a1 >>> (16 &&& 31)))))) ((L + 1) + 1) (vp_nar .byte (Int8.toInt32 (Int32.toInt8 (a1 >>> (8 &&& 31)))))) (((L + 1) + 1) + 1) (vp_nar .byte (Int8.toInt32 (Int32.toInt8 (a1 >>> (0 &&& 31)))))), x3, x4, x5, x6, x7, x8, x9, x10, x11, x12, x13, x14, x15, x16, x17, x18, x19, x20, x21, x22, x23, x24, x25, x26, x27, x28, x29, x30, x31, x32], wm)) dX6_put_29 rfl (ix_nI (by omega) (by decide)) rfl ?_
  refine ab_aload_n dX6_put_30 rfl ?_
  refine ab_dup rfl dX6_put_31 ?_
  refine ab_getf dX6_put_32 fl_X6_19 rfl rfl ?_
  refine ab_iconst (v := 1) dX6_put_35 (by decide) ?_
  refine ab_iadd dX6_put_36 ?_
  refine ab_topi (v := (nI ((((L + 1) + 1) + 1) + 1))) (nI_1 _) ?_
  refine ab_putf (w1 := ([x0, ob 6 [.ref 2, .ref 3, .int (nI ((((L + 1) + 1) + 1) + 1)), .int f1_3, .int f1_4, .int f1_5, .int f1_6], ba 700 (upd (upd (upd (upd r2 L (vp_nar .byte (Int8.toInt32 (Int32.toInt8 (a1 >>> (24 &&& 31)))))) (L + 1) (vp_nar .byte (Int8.toInt32 (Int32.toInt8 (a1 >>> (16 &&& 31)))))) ((L + 1) + 1) (vp_nar .byte (Int8.toInt32 (Int32.toInt8 (a1 >>> (8 &&& 31)))))) (((L + 1) + 1) + 1) (vp_nar .byte (Int8.toInt32 (Int32.toInt8 (a1 >>> (0 &&& 31)))))), x3, x4, x5, x6, x7, x8, x9, x10, x11, x12, x13, x14, x15, x16, x17, x18, x19, x20, x21, x22, x23, x24, x25, x26, x27, x28, x29, x30, x31, x32], wm)) dX6_put_37 fl_X6_19 rfl (Nat.le_of_ble_eq_true rfl) (fun _ => ⟨rfl, rfl⟩) rfl ?_
  refine ab_iinc (v := (-8)) (la' := [(2, .int (-8)), (0, .ref 1), (1, .int a1)]) dX6_put_40 rfl (by decide) (by decide) rfl ?_
  refine ab_goto 3 dX6_put_43 (by decide) ?_
  refine ab_iload_n dX6_put_3 rfl ?_
  refine ab_iflt 46 dX6_put_4 (by decide) (fun h_9 => ?_) (fun h_9 => absurd (by decide) h_9)
  exact ab_vret dX6_put_46 rfl (by decide) (⟨rfl, rfl⟩)
theorem c_X10_feed {f0_0 f1_3 f1_4 f1_5 f1_6 a1 a2 a3 a4 a5 : Int32} {r2 : Nat → Int32} {x3 x4 x5 x6 x7 x8 x9 x10 x11 x12 x13 x14 x15 x16 x17 x18 x19 x20 x21 x22 x23 x24 x25 x26 x27 x28 x29 x30 x31 x32 : ax_E} {wm : List ax_E} {L : Nat} (h_L : L ≤ 700) : Ct M_X10_feed [.ref 0, .int a1, .int a2, .int a3, .int a4, .int a5] ([ob 8 [.int f0_0, .ref 1, .ref 4, .ref 7, .ref 10, .ref 11, .ref 12, .ref 18, .ref 25, .ref 29], ob 6 [.ref 2, .ref 3, .int (nI L), .int f1_3, .int f1_4, .int f1_5, .int f1_6], ba 700 r2, x3, x4, x5, x6, x7, x8, x9, x10, x11, x12, x13, x14, x15, x16, x17, x18, x19, x20, x21, x22, x23, x24, x25, x26, x27, x28, x29, x30, x31, x32], wm) (fun r w' => (((nI L) + 20 ≤ 700) ∧ r = some (.int (nI ((((((((((((((((((((L + 1) + 1) + 1) + 1) + 1) + 1) + 1) + 1) + 1) + 1) + 1) + 1) + 1) + 1) + 1) + 1) + 1) + 1) + 1) + 1))) ∧ w' = ([ob 8 [.int f0_0, .ref 1, .ref 4, .ref 7, .ref 10, .ref 11, .ref 12, .ref 18, .ref 25, .ref 29], ob 6 [.ref 2, .ref 3, .int (nI ((((((((((((((((((((L + 1) + 1) + 1) + 1) + 1) + 1) + 1) + 1) + 1) + 1) + 1) + 1) + 1) + 1) + 1) + 1) + 1) + 1) + 1) + 1)), .int f1_3, .int f1_4, .int f1_5, .int f1_6], ba 700 (upd (upd (upd (upd (upd (upd (upd (upd (upd (upd (upd (upd (upd (upd (upd (upd (upd (upd (upd (upd r2 L (vp_nar .byte (Int8.toInt32 (Int32.toInt8 (a1 >>> (24 &&& 31)))))) (L + 1) (vp_nar .byte (Int8.toInt32 (Int32.toInt8 (a1 >>> (16 &&& 31)))))) ((L + 1) + 1) (vp_nar .byte (Int8.toInt32 (Int32.toInt8 (a1 >>> (8 &&& 31)))))) (((L + 1) + 1) + 1) (vp_nar .byte (Int8.toInt32 (Int32.toInt8 (a1 >>> (0 &&& 31)))))) ((((L + 1) + 1) + 1) + 1) (vp_nar .byte (Int8.toInt32 (Int32.toInt8 (a2 >>> (24 &&& 31)))))) (((((L + 1) + 1) + 1) + 1) + 1) (vp_nar .byte (Int8.toInt32 (Int32.toInt8 (a2 >>> (16 &&& 31)))))) ((((((L + 1) + 1) + 1) + 1) + 1) + 1) (vp_nar .byte (Int8.toInt32 (Int32.toInt8 (a2 >>> (8 &&& 31)))))) (((((((L + 1) + 1) + 1) + 1) + 1) + 1) + 1) (vp_nar .byte (Int8.toInt32 (Int32.toInt8 (a2 >>> (0 &&& 31)))))) ((((((((L + 1) + 1) + 1) + 1) + 1) + 1) + 1) + 1) (vp_nar .byte (Int8.toInt32 (Int32.toInt8 (a3 >>> (24 &&& 31)))))) (((((((((L + 1) + 1) + 1) + 1) + 1) + 1) + 1) + 1) + 1) (vp_nar .byte (Int8.toInt32 (Int32.toInt8 (a3 >>> (16 &&& 31)))))) ((((((((((L + 1) + 1) + 1) + 1) + 1) + 1) + 1) + 1) + 1) + 1) (vp_nar .byte (Int8.toInt32 (Int32.toInt8 (a3 >>> (8 &&& 31)))))) (((((((((((L + 1) + 1) + 1) + 1) + 1) + 1) + 1) + 1) + 1) + 1) + 1) (vp_nar .byte (Int8.toInt32 (Int32.toInt8 (a3 >>> (0 &&& 31)))))) ((((((((((((L + 1) + 1) + 1) + 1) + 1) + 1) + 1) + 1) + 1) + 1) + 1) + 1) (vp_nar .byte (Int8.toInt32 (Int32.toInt8 (a4 >>> (24 &&& 31)))))) (((((((((((((L + 1) + 1) + 1) + 1) + 1) + 1) + 1) + 1) + 1) + 1) + 1) + 1) + 1) (vp_nar .byte (Int8.toInt32 (Int32.toInt8 (a4 >>> (16 &&& 31)))))) ((((((((((((((L + 1) + 1) + 1) + 1) + 1) + 1) + 1) + 1) + 1) + 1) + 1) + 1) + 1) + 1) (vp_nar .byte (Int8.toInt32 (Int32.toInt8 (a4 >>> (8 &&& 31)))))) (((((((((((((((L + 1) + 1) + 1) + 1) + 1) + 1) + 1) + 1) + 1) + 1) + 1) + 1) + 1) + 1) + 1) (vp_nar .byte (Int8.toInt32 (Int32.toInt8 (a4 >>> (0 &&& 31)))))) ((((((((((((((((L + 1) + 1) + 1) + 1) + 1) + 1) + 1) + 1) + 1) + 1) + 1) + 1) + 1) + 1) + 1) + 1) (vp_nar .byte (Int8.toInt32 (Int32.toInt8 (a5 >>> (24 &&& 31)))))) (((((((((((((((((L + 1) + 1) + 1) + 1) + 1) + 1) + 1) + 1) + 1) + 1) + 1) + 1) + 1) + 1) + 1) + 1) + 1) (vp_nar .byte (Int8.toInt32 (Int32.toInt8 (a5 >>> (16 &&& 31)))))) ((((((((((((((((((L + 1) + 1) + 1) + 1) + 1) + 1) + 1) + 1) + 1) + 1) + 1) + 1) + 1) + 1) + 1) + 1) + 1) + 1) (vp_nar .byte (Int8.toInt32 (Int32.toInt8 (a5 >>> (8 &&& 31)))))) (((((((((((((((((((L + 1) + 1) + 1) + 1) + 1) + 1) + 1) + 1) + 1) + 1) + 1) + 1) + 1) + 1) + 1) + 1) + 1) + 1) + 1) (vp_nar .byte (Int8.toInt32 (Int32.toInt8 (a5 >>> (0 &&& 31)))))), x3, x4, x5, x6, x7, x8, x9, x10, x11, x12, x13, x14, x15, x16, x17, x18, x19, x20, x21, x22, x23, x24, x25, x26, x27, x28, x29, x30, x31, x32], wm)) ∨ ((¬ ((nI L) + 20 ≤ 700)) ∧ r = some (.int (-1)) ∧ w' = ([ob 8 [.int f0_0, .ref 1, .ref 4, .ref 7, .ref 10, .ref 11, .ref 12, .ref 18, .ref 25, .ref 29], ob 6 [.ref 2, .ref 3, .int (nI L), .int f1_3, .int f1_4, .int f1_5, .int f1_6], ba 700 r2, x3, x4, x5, x6, x7, x8, x9, x10, x11, x12, x13, x14, x15, x16, x17, x18, x19, x20, x21, x22, x23, x24, x25, x26, x27, x28, x29, x30, x31, x32], wm))) := by
  refine ct_of ⟨by decide, rfl⟩ (Nat.le_of_ble_eq_true rfl) ?_
  refine ab_aload_n dX10_feed_0 rfl ?_
  refine ab_getf dX10_feed_1 fl_X10_16 rfl rfl ?_
  refine ab_callV (As := []) (rest := []) dX10_feed_4 mv_X6_hasRoom ml_X10_72 ⟨by decide, by decide, rfl, rfl, rfl⟩ (by decide) rfl rfl (Nat.le_of_ble_eq_true rfl) rfl c_X6_hasRoom ?_
  rintro r w' (⟨c_1, rfl, rfl⟩ | ⟨c_2, rfl, rfl⟩)
  · refine ab_ifne 12 dX10_feed_7 (by decide) (fun h_3 => ?_) (fun h_3 => absurd h_3 (by decide))
    refine ab_aload_n dX10_feed_12 rfl ?_
    refine ab_getf dX10_feed_13 fl_X10_16 rfl rfl ?_
    refine ab_iload_n dX10_feed_16 rfl ?_
    refine ab_callV (As := [.int a1]) (rest := []) dX10_feed_17 mv_X6_put ml_X10_76 ⟨by decide, by decide, rfl, rfl, rfl⟩ (by decide) rfl rfl (Nat.le_of_ble_eq_true rfl) rfl (c_X6_put (L := L) (by have := room_mp h_L c_1; omega)) ?_
    rintro r w' ⟨rfl, rfl⟩
    refine ab_aload_n dX10_feed_20 rfl ?_
    refine ab_getf dX10_feed_21 fl_X10_16 rfl rfl ?_
    refine ab_iload_n dX10_feed_24 rfl ?_
    refine ab_callV (As := [.int a2]) (rest := []) dX10_feed_25 mv_X6_put ml_X10_76 ⟨by decide, by decide, rfl, rfl, rfl⟩ (by decide) rfl rfl (Nat.le_of_ble_eq_true rfl) rfl (c_X6_put (L := ((((L + 1) + 1) + 1) + 1)) (by have := room_mp h_L c_1; omega)) ?_
    rintro r w' ⟨rfl, rfl⟩
    refine ab_aload_n dX10_feed_28 rfl ?_
    refine ab_getf dX10_feed_29 fl_X10_16 rfl rfl ?_
    refine ab_iload_n dX10_feed_32 rfl ?_
    refine ab_callV (As := [.int a3]) (rest := []) dX10_feed_33 mv_X6_put ml_X10_76 ⟨by decide, by decide, rfl, rfl, rfl⟩ (by decide) rfl rfl (Nat.le_of_ble_eq_true rfl) rfl (c_X6_put (L := ((((((((L + 1) + 1) + 1) + 1) + 1) + 1) + 1) + 1)) (by have := room_mp h_L c_1; omega)) ?_
    rintro r w' ⟨rfl, rfl⟩
    refine ab_aload_n dX10_feed_36 rfl ?_
    refine ab_getf dX10_feed_37 fl_X10_16 rfl rfl ?_
    refine ab_iload dX10_feed_40 rfl ?_
    refine ab_callV (As := [.int a4]) (rest := []) dX10_feed_42 mv_X6_put ml_X10_76 ⟨by decide, by decide, rfl, rfl, rfl⟩ (by decide) rfl rfl (Nat.le_of_ble_eq_true rfl) rfl (c_X6_put (L := ((((((((((((L + 1) + 1) + 1) + 1) + 1) + 1) + 1) + 1) + 1) + 1) + 1) + 1)) (by have := room_mp h_L c_1; omega)) ?_
    rintro r w' ⟨rfl, rfl⟩
    refine ab_aload_n dX10_feed_45 rfl ?_
    refine ab_getf dX10_feed_46 fl_X10_16 rfl rfl ?_
    refine ab_iload dX10_feed_49 rfl ?_
    refine ab_callV (As := [.int a5]) (rest := []) dX10_feed_51 mv_X6_put ml_X10_76 ⟨by decide, by decide, rfl, rfl, rfl⟩ (by decide) rfl rfl (Nat.le_of_ble_eq_true rfl) rfl (c_X6_put (L := ((((((((((((((((L + 1) + 1) + 1) + 1) + 1) + 1) + 1) + 1) + 1) + 1) + 1) + 1) + 1) + 1) + 1) + 1)) (by have := room_mp h_L c_1; omega)) ?_
    rintro r w' ⟨rfl, rfl⟩
    refine ab_aload_n dX10_feed_54 rfl ?_
    refine ab_getf dX10_feed_55 fl_X10_16 rfl rfl ?_
    refine ab_callV (As := []) (rest := []) dX10_feed_58 mv_X6_length ml_X10_80 ⟨by decide, by decide, rfl, rfl, rfl⟩ (by decide) rfl rfl (Nat.le_of_ble_eq_true rfl) rfl c_X6_length ?_
    rintro r w' ⟨rfl, rfl⟩
    exact ab_iret dX10_feed_61 rfl (by decide) (Or.inl ⟨c_1, rfl, rfl⟩)
  · refine ab_ifne 12 dX10_feed_7 (by decide) (fun h_4 => absurd (by decide) h_4) (fun h_4 => ?_)
    refine ab_iconst (v := -1) dX10_feed_10 (by decide) ?_
    exact ab_iret dX10_feed_11 rfl (by decide) (Or.inr (⟨c_2, rfl, rfl⟩))
theorem c_X11_laysWord {wc : List ax_E} {m_thrown m_trouble m_fault m_where m_linkMany m_tracerMany m_pointMany m_pairMany m_readLinks m_readTracers m_readPoints m_readPairs m_textLong m_at m_spot m_token m_whole m_readFault m_readPlace m_value m_curveMany m_cornerMany m_straightAt m_walkLink m_walkAngle m_walkBranch m_walkMany m_lined m_actMany a1 : Int32} {m_n m_c m_d m_s m_e m_k m_x m_y m_g m_a m_fitUp m_fitDown m_worstUp m_worstDown : Int64} {z1 z2 z4 z5 z6 z7 z8 z9 z10 z11 z12 z13 z14 z15 z16 z17 z18 z19 z20 : ax_E} {q3 : Nat → Int32} {L : Nat} (h_L : L + 4 ≤ 700) : Ct M_X11_laysWord [.ref 1000, .int a1] (wc, [ob 9 [.int m_thrown, .int m_trouble, .int m_fault, .int m_where, .ref 1001, .ref 1002, .int 40, .ref 1003, .int (nI L), .int m_linkMany, .int m_tracerMany, .int m_pointMany, .int m_pairMany, .ref 1004, .ref 1005, .ref 1006, .ref 1007, .int m_readLinks, .int m_readTracers, .int m_readPoints, .int m_readPairs, .ref 1008, .ref 1009, .ref 1010, .ref 1011, .int m_textLong, .int m_at, .int m_spot, .int m_token, .int m_whole, .int m_readFault, .int m_readPlace, .int m_value, .long m_n, .long m_c, .long m_d, .long m_s, .long m_e, .long m_k, .long m_x, .long m_y, .long m_g, .long m_a, .ref 1012, .ref 1013, .ref 1014, .int m_curveMany, .ref 1015, .int m_cornerMany, .int m_straightAt, .ref 1016, .long m_fitUp, .long m_fitDown, .long m_worstUp, .long m_worstDown, .ref 1017, .int m_walkLink, .int m_walkAngle, .int m_walkBranch, .int m_walkMany, .ref 1018, .ref 1019, .int m_lined, .ref 1020, .int m_actMany], z1, z2, ia 700 q3, z4, z5, z6, z7, z8, z9, z10, z11, z12, z13, z14, z15, z16, z17, z18, z19, z20]) (fun r w' => r = none ∧ w' = (wc, [ob 9 [.int m_thrown, .int m_trouble, .int m_fault, .int m_where, .ref 1001, .ref 1002, .int 40, .ref 1003, .int (nI (L + 4)), .int m_linkMany, .int m_tracerMany, .int m_pointMany, .int m_pairMany, .ref 1004, .ref 1005, .ref 1006, .ref 1007, .int m_readLinks, .int m_readTracers, .int m_readPoints, .int m_readPairs, .ref 1008, .ref 1009, .ref 1010, .ref 1011, .int m_textLong, .int m_at, .int m_spot, .int m_token, .int m_whole, .int m_readFault, .int m_readPlace, .int m_value, .long m_n, .long m_c, .long m_d, .long m_s, .long m_e, .long m_k, .long m_x, .long m_y, .long m_g, .long m_a, .ref 1012, .ref 1013, .ref 1014, .int m_curveMany, .ref 1015, .int m_cornerMany, .int m_straightAt, .ref 1016, .long m_fitUp, .long m_fitDown, .long m_worstUp, .long m_worstDown, .ref 1017, .int m_walkLink, .int m_walkAngle, .int m_walkBranch, .int m_walkMany, .ref 1018, .ref 1019, .int m_lined, .ref 1020, .int m_actMany], z1, z2, ia 700 (upd (upd (upd (upd q3 L ((a1 >>> (24 &&& 31)) &&& 255)) (L + 1) ((a1 >>> (16 &&& 31)) &&& 255)) (L + 2) ((a1 >>> (8 &&& 31)) &&& 255)) (L + 3) ((a1 >>> (0 &&& 31)) &&& 255)), z4, z5, z6, z7, z8, z9, z10, z11, z12, z13, z14, z15, z16, z17, z18, z19, z20])) := by
  refine ct_of ⟨by decide, rfl⟩ (Nat.le_of_ble_eq_true rfl) ?_
  refine ab_iconst (v := 0) dX11_laysWord_0 (by decide) ?_
  refine ab_istore_n (la' := [(2, .int 0), (0, .ref 1000), (1, .int a1)]) dX11_laysWord_1 (by decide) rfl ?_
  refine ab_iload_n dX11_laysWord_2 rfl ?_
  refine ab_iconst (v := 4) dX11_laysWord_3 (by decide) ?_
  refine ab_icmpge 37 dX11_laysWord_4 (by decide) (fun h_1 => absurd h_1 (by decide)) (fun h_1 => ?_)
  refine ab_aload_n dX11_laysWord_7 rfl ?_
  refine ab_getf dX11_laysWord_8 fl_X11_39 rfl rfl ?_
  refine ab_aload_n dX11_laysWord_11 rfl ?_
  refine ab_getf dX11_laysWord_12 fl_X11_118 rfl rfl ?_
  refine ab_iload_n dX11_laysWord_15 rfl ?_
  refine ab_iadd dX11_laysWord_16 ?_
  refine ab_topi (v := (nI L)) (Int32.add_zero _) ?_
  refine ab_iload_n dX11_laysWord_17 rfl ?_
  refine ab_bipush (v := 24) dX11_laysWord_18 (by decide) ?_
  refine ab_bipush (v := 8) dX11_laysWord_20 (by decide) ?_
  refine ab_iload_n dX11_laysWord_22 rfl ?_
  refine ab_imul dX11_laysWord_23 ?_
  refine ab_topi (v := 0) (by decide) ?_
  refine ab_isub dX11_laysWord_24 ?_
  refine ab_topi (v := 24) (by decide) ?_
  refine ab_ishr dX11_laysWord_25 ?_
  refine ab_sipush (v := 255) dX11_laysWord_26 (by decide) ?_
  refine ab_iand dX11_laysWord_29 ?_
  refine ab_iast (w1 := (wc, [ob 9 [.int m_thrown, .int m_trouble, .int m_fault, .int m_where, .ref 1001, .ref 1002, .int 40, .ref 1003, .int (nI L), .int m_linkMany, .int m_tracerMany, .int m_pointMany, .int m_pairMany, .ref 1004, .ref 1005, .ref 1006, .ref 1007, .int m_readLinks, .int m_readTracers, .int m_readPoints, .int m_readPairs, .ref 1008, .ref 1009, .ref 1010, .ref 1011, .int m_textLong, .int m_at, .int m_spot, .int m_token, .int m_whole, .int m_readFault, .int m_readPlace, .int m_value, .long m_n, .long m_c, .long m_d, .long m_s, .long m_e, .long m_k, .long m_x, .long m_y, .long m_g, .long m_a, .ref 1012, .ref 1013, .ref 1014, .int m_curveMany, .ref 1015, .int m_cornerMany, .int m_straightAt, .ref 1016, .long m_fitUp, .long m_fitDown, .long m_worstUp, .long m_worstDown, .ref 1017, .int m_walkLink, .int m_walkAngle, .int m_walkBranch, .int m_walkMany, .ref 1018, .ref 1019, .int m_lined, .ref 1020, .int m_actMany], z1, z2, ia 700 (upd q3 L ((a1 >>> (24 &&& 31)) &&& 255)), z4, z5, z6, z7, z8, z9, z10, z11, z12, z13, z14, z15, z16, z17, z18, z19, z20])) dX11_laysWord_30 rfl (ix_nI (by omega) (by decide)) rfl ?_
  refine ab_iinc (v := 1) (la' := [(2, .int 1), (0, .ref 1000), (1, .int a1)]) dX11_laysWord_31 rfl (by decide) (by decide) rfl ?_
  refine ab_goto 2 dX11_laysWord_34 (by decide) ?_
  refine ab_iload_n dX11_laysWord_2 rfl ?_
  refine ab_iconst (v := 4) dX11_laysWord_3 (by decide) ?_
  refine ab_icmpge 37 dX11_laysWord_4 (by decide) (fun h_2 => absurd h_2 (by decide)) (fun h_2 => ?_)
  refine ab_aload_n dX11_laysWord_7 rfl ?_
  refine ab_getf dX11_laysWord_8 fl_X11_39 rfl rfl ?_
  refine ab_aload_n dX11_laysWord_11 rfl ?_
  refine ab_getf dX11_laysWord_12 fl_X11_118 rfl rfl ?_
  refine ab_iload_n dX11_laysWord_15 rfl ?_
  refine ab_iadd dX11_laysWord_16 ?_
  refine ab_topi (v := (nI (L + 1))) (nI_1 _) ?_
  refine ab_iload_n dX11_laysWord_17 rfl ?_
  refine ab_bipush (v := 24) dX11_laysWord_18 (by decide) ?_
  refine ab_bipush (v := 8) dX11_laysWord_20 (by decide) ?_
  refine ab_iload_n dX11_laysWord_22 rfl ?_
  refine ab_imul dX11_laysWord_23 ?_
  refine ab_topi (v := 8) (by decide) ?_
  refine ab_isub dX11_laysWord_24 ?_
  refine ab_topi (v := 16) (by decide) ?_
  refine ab_ishr dX11_laysWord_25 ?_
  refine ab_sipush (v := 255) dX11_laysWord_26 (by decide) ?_
  refine ab_iand dX11_laysWord_29 ?_
  refine ab_iast (w1 := (wc, [ob 9 [.int m_thrown, .int m_trouble, .int m_fault, .int m_where, .ref 1001, .ref 1002, .int 40, .ref 1003, .int (nI L), .int m_linkMany, .int m_tracerMany, .int m_pointMany, .int m_pairMany, .ref 1004, .ref 1005, .ref 1006, .ref 1007, .int m_readLinks, .int m_readTracers, .int m_readPoints, .int m_readPairs, .ref 1008, .ref 1009, .ref 1010, .ref 1011, .int m_textLong, .int m_at, .int m_spot, .int m_token, .int m_whole, .int m_readFault, .int m_readPlace, .int m_value, .long m_n, .long m_c, .long m_d, .long m_s, .long m_e, .long m_k, .long m_x, .long m_y, .long m_g, .long m_a, .ref 1012, .ref 1013, .ref 1014, .int m_curveMany, .ref 1015, .int m_cornerMany, .int m_straightAt, .ref 1016, .long m_fitUp, .long m_fitDown, .long m_worstUp, .long m_worstDown, .ref 1017, .int m_walkLink, .int m_walkAngle, .int m_walkBranch, .int m_walkMany, .ref 1018, .ref 1019, .int m_lined, .ref 1020, .int m_actMany], z1, z2, ia 700 (upd (upd q3 L ((a1 >>> (24 &&& 31)) &&& 255)) (L + 1) ((a1 >>> (16 &&& 31)) &&& 255)), z4, z5, z6, z7, z8, z9, z10, z11, z12, z13, z14, z15, z16, z17, z18, z19, z20])) dX11_laysWord_30 rfl (ix_nI (by omega) (by decide)) rfl ?_
  refine ab_iinc (v := 2) (la' := [(2, .int 2), (0, .ref 1000), (1, .int a1)]) dX11_laysWord_31 rfl (by decide) (by decide) rfl ?_
  refine ab_goto 2 dX11_laysWord_34 (by decide) ?_
  refine ab_iload_n dX11_laysWord_2 rfl ?_
  refine ab_iconst (v := 4) dX11_laysWord_3 (by decide) ?_
  refine ab_icmpge 37 dX11_laysWord_4 (by decide) (fun h_3 => absurd h_3 (by decide)) (fun h_3 => ?_)
  refine ab_aload_n dX11_laysWord_7 rfl ?_
  refine ab_getf dX11_laysWord_8 fl_X11_39 rfl rfl ?_
  refine ab_aload_n dX11_laysWord_11 rfl ?_
  refine ab_getf dX11_laysWord_12 fl_X11_118 rfl rfl ?_
  refine ab_iload_n dX11_laysWord_15 rfl ?_
  refine ab_iadd dX11_laysWord_16 ?_
  refine ab_topi (v := (nI (L + 2))) (nI_add _ 2) ?_
  refine ab_iload_n dX11_laysWord_17 rfl ?_
  refine ab_bipush (v := 24) dX11_laysWord_18 (by decide) ?_
  refine ab_bipush (v := 8) dX11_laysWord_20 (by decide) ?_
  refine ab_iload_n dX11_laysWord_22 rfl ?_
  refine ab_imul dX11_laysWord_23 ?_
  refine ab_topi (v := 16) (by decide) ?_
  refine ab_isub dX11_laysWord_24 ?_
  refine ab_topi (v := 8) (by decide) ?_
  refine ab_ishr dX11_laysWord_25 ?_
  refine ab_sipush (v := 255) dX11_laysWord_26 (by decide) ?_
  refine ab_iand dX11_laysWord_29 ?_
  refine ab_iast (w1 := (wc, [ob 9 [.int m_thrown, .int m_trouble, .int m_fault, .int m_where, .ref 1001, .ref 1002, .int 40, .ref 1003, .int (nI L), .int m_linkMany, .int m_tracerMany, .int m_pointMany, .int m_pairMany, .ref 1004, .ref 1005, .ref 1006, .ref 1007, .int m_readLinks, .int m_readTracers, .int m_readPoints, .int m_readPairs, .ref 1008, .ref 1009, .ref 1010, .ref 1011, .int m_textLong, .int m_at, .int m_spot, .int m_token, .int m_whole, .int m_readFault, .int m_readPlace, .int m_value, .long m_n, .long m_c, .long m_d, .long m_s, .long m_e, .long m_k, .long m_x, .long m_y, .long m_g, .long m_a, .ref 1012, .ref 1013, .ref 1014, .int m_curveMany, .ref 1015, .int m_cornerMany, .int m_straightAt, .ref 1016, .long m_fitUp, .long m_fitDown, .long m_worstUp, .long m_worstDown, .ref 1017, .int m_walkLink, .int m_walkAngle, .int m_walkBranch, .int m_walkMany, .ref 1018, .ref 1019, .int m_lined, .ref 1020, .int m_actMany], z1, z2, ia 700 (upd (upd (upd q3 L ((a1 >>> (24 &&& 31)) &&& 255)) (L + 1) ((a1 >>> (16 &&& 31)) &&& 255)) (L + 2) ((a1 >>> (8 &&& 31)) &&& 255)), z4, z5, z6, z7, z8, z9, z10, z11, z12, z13, z14, z15, z16, z17, z18, z19, z20])) dX11_laysWord_30 rfl (ix_nI (by omega) (by decide)) rfl ?_
  refine ab_iinc (v := 3) (la' := [(2, .int 3), (0, .ref 1000), (1, .int a1)]) dX11_laysWord_31 rfl (by decide) (by decide) rfl ?_
  refine ab_goto 2 dX11_laysWord_34 (by decide) ?_
  refine ab_iload_n dX11_laysWord_2 rfl ?_
  refine ab_iconst (v := 4) dX11_laysWord_3 (by decide) ?_
  refine ab_icmpge 37 dX11_laysWord_4 (by decide) (fun h_4 => absurd h_4 (by decide)) (fun h_4 => ?_)
  refine ab_aload_n dX11_laysWord_7 rfl ?_
  refine ab_getf dX11_laysWord_8 fl_X11_39 rfl rfl ?_
  refine ab_aload_n dX11_laysWord_11 rfl ?_
  refine ab_getf dX11_laysWord_12 fl_X11_118 rfl rfl ?_
  refine ab_iload_n dX11_laysWord_15 rfl ?_
  refine ab_iadd dX11_laysWord_16 ?_
  refine ab_topi (v := (nI (L + 3))) (nI_add _ 3) ?_
  refine ab_iload_n dX11_laysWord_17 rfl ?_
  refine ab_bipush (v := 24) dX11_laysWord_18 (by decide) ?_
  refine ab_bipush (v := 8) dX11_laysWord_20 (by decide) ?_
  refine ab_iload_n dX11_laysWord_22 rfl ?_
  refine ab_imul dX11_laysWord_23 ?_
  refine ab_topi (v := 24) (by decide) ?_
  refine ab_isub dX11_laysWord_24 ?_
  refine ab_topi (v := 0) (by decide) ?_
  refine ab_ishr dX11_laysWord_25 ?_
  refine ab_sipush (v := 255) dX11_laysWord_26 (by decide) ?_
  refine ab_iand dX11_laysWord_29 ?_
  refine ab_iast (w1 := (wc, [ob 9 [.int m_thrown, .int m_trouble, .int m_fault, .int m_where, .ref 1001, .ref 1002, .int 40, .ref 1003, .int (nI L), .int m_linkMany, .int m_tracerMany, .int m_pointMany, .int m_pairMany, .ref 1004, .ref 1005, .ref 1006, .ref 1007, .int m_readLinks, .int m_readTracers, .int m_readPoints, .int m_readPairs, .ref 1008, .ref 1009, .ref 1010, .ref 1011, .int m_textLong, .int m_at, .int m_spot, .int m_token, .int m_whole, .int m_readFault, .int m_readPlace, .int m_value, .long m_n, .long m_c, .long m_d, .long m_s, .long m_e, .long m_k, .long m_x, .long m_y, .long m_g, .long m_a, .ref 1012, .ref 1013, .ref 1014, .int m_curveMany, .ref 1015, .int m_cornerMany, .int m_straightAt, .ref 1016, .long m_fitUp, .long m_fitDown, .long m_worstUp, .long m_worstDown, .ref 1017, .int m_walkLink, .int m_walkAngle, .int m_walkBranch, .int m_walkMany, .ref 1018, .ref 1019, .int m_lined, .ref 1020, .int m_actMany], z1, z2, ia 700 (upd (upd (upd (upd q3 L ((a1 >>> (24 &&& 31)) &&& 255)) (L + 1) ((a1 >>> (16 &&& 31)) &&& 255)) (L + 2) ((a1 >>> (8 &&& 31)) &&& 255)) (L + 3) ((a1 >>> (0 &&& 31)) &&& 255)), z4, z5, z6, z7, z8, z9, z10, z11, z12, z13, z14, z15, z16, z17, z18, z19, z20])) dX11_laysWord_30 rfl (ix_nI (by omega) (by decide)) rfl ?_
  refine ab_iinc (v := 4) (la' := [(2, .int 4), (0, .ref 1000), (1, .int a1)]) dX11_laysWord_31 rfl (by decide) (by decide) rfl ?_
  refine ab_goto 2 dX11_laysWord_34 (by decide) ?_
  refine ab_iload_n dX11_laysWord_2 rfl ?_
  refine ab_iconst (v := 4) dX11_laysWord_3 (by decide) ?_
  refine ab_icmpge 37 dX11_laysWord_4 (by decide) (fun h_5 => ?_) (fun h_5 => absurd (by decide) h_5)
  refine ab_aload_n dX11_laysWord_37 rfl ?_
  refine ab_dup rfl dX11_laysWord_38 ?_
  refine ab_getf dX11_laysWord_39 fl_X11_118 rfl rfl ?_
  refine ab_iconst (v := 4) dX11_laysWord_42 (by decide) ?_
  refine ab_iadd dX11_laysWord_43 ?_
  refine ab_topi (v := (nI (L + 4))) (nI_add _ 4) ?_
  refine ab_putf (w1 := (wc, [ob 9 [.int m_thrown, .int m_trouble, .int m_fault, .int m_where, .ref 1001, .ref 1002, .int 40, .ref 1003, .int (nI (L + 4)), .int m_linkMany, .int m_tracerMany, .int m_pointMany, .int m_pairMany, .ref 1004, .ref 1005, .ref 1006, .ref 1007, .int m_readLinks, .int m_readTracers, .int m_readPoints, .int m_readPairs, .ref 1008, .ref 1009, .ref 1010, .ref 1011, .int m_textLong, .int m_at, .int m_spot, .int m_token, .int m_whole, .int m_readFault, .int m_readPlace, .int m_value, .long m_n, .long m_c, .long m_d, .long m_s, .long m_e, .long m_k, .long m_x, .long m_y, .long m_g, .long m_a, .ref 1012, .ref 1013, .ref 1014, .int m_curveMany, .ref 1015, .int m_cornerMany, .int m_straightAt, .ref 1016, .long m_fitUp, .long m_fitDown, .long m_worstUp, .long m_worstDown, .ref 1017, .int m_walkLink, .int m_walkAngle, .int m_walkBranch, .int m_walkMany, .ref 1018, .ref 1019, .int m_lined, .ref 1020, .int m_actMany], z1, z2, ia 700 (upd (upd (upd (upd q3 L ((a1 >>> (24 &&& 31)) &&& 255)) (L + 1) ((a1 >>> (16 &&& 31)) &&& 255)) (L + 2) ((a1 >>> (8 &&& 31)) &&& 255)) (L + 3) ((a1 >>> (0 &&& 31)) &&& 255)), z4, z5, z6, z7, z8, z9, z10, z11, z12, z13, z14, z15, z16, z17, z18, z19, z20])) dX11_laysWord_44 fl_X11_118 rfl (Nat.le_of_ble_eq_true rfl) (fun _ => ⟨rfl, rfl⟩) rfl ?_
  exact ab_vret dX11_laysWord_47 rfl (by decide) (⟨rfl, rfl⟩)
theorem c_X11_feed {wc : List ax_E} {m_thrown m_trouble m_fault m_where m_linkMany m_tracerMany m_pointMany m_pairMany m_readLinks m_readTracers m_readPoints m_readPairs m_textLong m_at m_spot m_token m_whole m_readFault m_readPlace m_value m_curveMany m_cornerMany m_straightAt m_walkLink m_walkAngle m_walkBranch m_walkMany m_lined m_actMany a1 a2 a3 a4 a5 : Int32} {m_n m_c m_d m_s m_e m_k m_x m_y m_g m_a m_fitUp m_fitDown m_worstUp m_worstDown : Int64} {z1 z2 z4 z5 z6 z7 z8 z9 z10 z11 z12 z13 z14 z15 z16 z17 z18 z19 z20 : ax_E} {q3 : Nat → Int32} {L : Nat} (h_L : L ≤ 700) : Ct M_X11_feed [.ref 1000, .int a1, .int a2, .int a3, .int a4, .int a5] (wc, [ob 9 [.int m_thrown, .int m_trouble, .int m_fault, .int m_where, .ref 1001, .ref 1002, .int 40, .ref 1003, .int (nI L), .int m_linkMany, .int m_tracerMany, .int m_pointMany, .int m_pairMany, .ref 1004, .ref 1005, .ref 1006, .ref 1007, .int m_readLinks, .int m_readTracers, .int m_readPoints, .int m_readPairs, .ref 1008, .ref 1009, .ref 1010, .ref 1011, .int m_textLong, .int m_at, .int m_spot, .int m_token, .int m_whole, .int m_readFault, .int m_readPlace, .int m_value, .long m_n, .long m_c, .long m_d, .long m_s, .long m_e, .long m_k, .long m_x, .long m_y, .long m_g, .long m_a, .ref 1012, .ref 1013, .ref 1014, .int m_curveMany, .ref 1015, .int m_cornerMany, .int m_straightAt, .ref 1016, .long m_fitUp, .long m_fitDown, .long m_worstUp, .long m_worstDown, .ref 1017, .int m_walkLink, .int m_walkAngle, .int m_walkBranch, .int m_walkMany, .ref 1018, .ref 1019, .int m_lined, .ref 1020, .int m_actMany], z1, z2, ia 700 q3, z4, z5, z6, z7, z8, z9, z10, z11, z12, z13, z14, z15, z16, z17, z18, z19, z20]) (fun r w' => (((nI L) ≤ 680) ∧ r = some (.int (nI (((((L + 4) + 4) + 4) + 4) + 4))) ∧ w' = (wc, [ob 9 [.int 0, .int m_trouble, .int m_fault, .int m_where, .ref 1001, .ref 1002, .int 40, .ref 1003, .int (nI (((((L + 4) + 4) + 4) + 4) + 4)), .int m_linkMany, .int m_tracerMany, .int m_pointMany, .int m_pairMany, .ref 1004, .ref 1005, .ref 1006, .ref 1007, .int m_readLinks, .int m_readTracers, .int m_readPoints, .int m_readPairs, .ref 1008, .ref 1009, .ref 1010, .ref 1011, .int m_textLong, .int m_at, .int m_spot, .int m_token, .int m_whole, .int m_readFault, .int m_readPlace, .int m_value, .long m_n, .long m_c, .long m_d, .long m_s, .long m_e, .long m_k, .long m_x, .long m_y, .long m_g, .long m_a, .ref 1012, .ref 1013, .ref 1014, .int m_curveMany, .ref 1015, .int m_cornerMany, .int m_straightAt, .ref 1016, .long m_fitUp, .long m_fitDown, .long m_worstUp, .long m_worstDown, .ref 1017, .int m_walkLink, .int m_walkAngle, .int m_walkBranch, .int m_walkMany, .ref 1018, .ref 1019, .int m_lined, .ref 1020, .int m_actMany], z1, z2, ia 700 (upd (upd (upd (upd (upd (upd (upd (upd (upd (upd (upd (upd (upd (upd (upd (upd (upd (upd (upd (upd q3 L ((a1 >>> (24 &&& 31)) &&& 255)) (L + 1) ((a1 >>> (16 &&& 31)) &&& 255)) (L + 2) ((a1 >>> (8 &&& 31)) &&& 255)) (L + 3) ((a1 >>> (0 &&& 31)) &&& 255)) (L + 4) ((a2 >>> (24 &&& 31)) &&& 255)) ((L + 4) + 1) ((a2 >>> (16 &&& 31)) &&& 255)) ((L + 4) + 2) ((a2 >>> (8 &&& 31)) &&& 255)) ((L + 4) + 3) ((a2 >>> (0 &&& 31)) &&& 255)) ((L + 4) + 4) ((a3 >>> (24 &&& 31)) &&& 255)) (((L + 4) + 4) + 1) ((a3 >>> (16 &&& 31)) &&& 255)) (((L + 4) + 4) + 2) ((a3 >>> (8 &&& 31)) &&& 255)) (((L + 4) + 4) + 3) ((a3 >>> (0 &&& 31)) &&& 255)) (((L + 4) + 4) + 4) ((a4 >>> (24 &&& 31)) &&& 255)) ((((L + 4) + 4) + 4) + 1) ((a4 >>> (16 &&& 31)) &&& 255)) ((((L + 4) + 4) + 4) + 2) ((a4 >>> (8 &&& 31)) &&& 255)) ((((L + 4) + 4) + 4) + 3) ((a4 >>> (0 &&& 31)) &&& 255)) ((((L + 4) + 4) + 4) + 4) ((a5 >>> (24 &&& 31)) &&& 255)) (((((L + 4) + 4) + 4) + 4) + 1) ((a5 >>> (16 &&& 31)) &&& 255)) (((((L + 4) + 4) + 4) + 4) + 2) ((a5 >>> (8 &&& 31)) &&& 255)) (((((L + 4) + 4) + 4) + 4) + 3) ((a5 >>> (0 &&& 31)) &&& 255)), z4, z5, z6, z7, z8, z9, z10, z11, z12, z13, z14, z15, z16, z17, z18, z19, z20])) ∨ ((¬ (nI L) ≤ 680) ∧ r = some (.int (-1)) ∧ w' = (wc, [ob 9 [.int 0, .int m_trouble, .int m_fault, .int m_where, .ref 1001, .ref 1002, .int 40, .ref 1003, .int (nI L), .int m_linkMany, .int m_tracerMany, .int m_pointMany, .int m_pairMany, .ref 1004, .ref 1005, .ref 1006, .ref 1007, .int m_readLinks, .int m_readTracers, .int m_readPoints, .int m_readPairs, .ref 1008, .ref 1009, .ref 1010, .ref 1011, .int m_textLong, .int m_at, .int m_spot, .int m_token, .int m_whole, .int m_readFault, .int m_readPlace, .int m_value, .long m_n, .long m_c, .long m_d, .long m_s, .long m_e, .long m_k, .long m_x, .long m_y, .long m_g, .long m_a, .ref 1012, .ref 1013, .ref 1014, .int m_curveMany, .ref 1015, .int m_cornerMany, .int m_straightAt, .ref 1016, .long m_fitUp, .long m_fitDown, .long m_worstUp, .long m_worstDown, .ref 1017, .int m_walkLink, .int m_walkAngle, .int m_walkBranch, .int m_walkMany, .ref 1018, .ref 1019, .int m_lined, .ref 1020, .int m_actMany], z1, z2, ia 700 q3, z4, z5, z6, z7, z8, z9, z10, z11, z12, z13, z14, z15, z16, z17, z18, z19, z20]))) := by
  refine ct_of ⟨by decide, rfl⟩ (Nat.le_of_ble_eq_true rfl) ?_
  refine ab_aload_n dX11_feed_0 rfl ?_
  refine ab_iconst (v := 0) dX11_feed_1 (by decide) ?_
  refine ab_putf (w1 := (wc, [ob 9 [.int 0, .int m_trouble, .int m_fault, .int m_where, .ref 1001, .ref 1002, .int 40, .ref 1003, .int (nI L), .int m_linkMany, .int m_tracerMany, .int m_pointMany, .int m_pairMany, .ref 1004, .ref 1005, .ref 1006, .ref 1007, .int m_readLinks, .int m_readTracers, .int m_readPoints, .int m_readPairs, .ref 1008, .ref 1009, .ref 1010, .ref 1011, .int m_textLong, .int m_at, .int m_spot, .int m_token, .int m_whole, .int m_readFault, .int m_readPlace, .int m_value, .long m_n, .long m_c, .long m_d, .long m_s, .long m_e, .long m_k, .long m_x, .long m_y, .long m_g, .long m_a, .ref 1012, .ref 1013, .ref 1014, .int m_curveMany, .ref 1015, .int m_cornerMany, .int m_straightAt, .ref 1016, .long m_fitUp, .long m_fitDown, .long m_worstUp, .long m_worstDown, .ref 1017, .int m_walkLink, .int m_walkAngle, .int m_walkBranch, .int m_walkMany, .ref 1018, .ref 1019, .int m_lined, .ref 1020, .int m_actMany], z1, z2, ia 700 q3, z4, z5, z6, z7, z8, z9, z10, z11, z12, z13, z14, z15, z16, z17, z18, z19, z20])) dX11_feed_2 fl_X11_1 rfl (Nat.le_of_ble_eq_true rfl) (fun _ => ⟨rfl, rfl⟩) rfl ?_
  refine ab_aload_n dX11_feed_5 rfl ?_
  refine ab_getf dX11_feed_6 fl_X11_118 rfl rfl ?_
  refine ab_sipush (v := 680) dX11_feed_9 (by decide) ?_
  refine ab_icmple 17 dX11_feed_12 (by decide) (fun h_1 => ?_) (fun h_1 => ?_)
  · refine ab_aload_n dX11_feed_17 rfl ?_
    refine ab_iload_n dX11_feed_18 rfl ?_
    refine ab_callV (As := [.int a1]) (rest := []) dX11_feed_19 mv_X11_laysWord ml_X11_121 ⟨by decide, by decide, rfl, rfl, rfl⟩ (by decide) rfl rfl (Nat.le_of_ble_eq_true rfl) rfl (c_X11_laysWord (L := L) (by have := (nI_leI (b := 680) (by omega) (by decide)).mp h_1; omega)) ?_
    rintro r w' ⟨rfl, rfl⟩
    refine ab_aload_n dX11_feed_22 rfl ?_
    refine ab_iload_n dX11_feed_23 rfl ?_
    refine ab_callV (As := [.int a2]) (rest := []) dX11_feed_24 mv_X11_laysWord ml_X11_121 ⟨by decide, by decide, rfl, rfl, rfl⟩ (by decide) rfl rfl (Nat.le_of_ble_eq_true rfl) rfl (c_X11_laysWord (L := (L + 4)) (by have := (nI_leI (b := 680) (by omega) (by decide)).mp h_1; omega)) ?_
    rintro r w' ⟨rfl, rfl⟩
    refine ab_aload_n dX11_feed_27 rfl ?_
    refine ab_iload_n dX11_feed_28 rfl ?_
    refine ab_callV (As := [.int a3]) (rest := []) dX11_feed_29 mv_X11_laysWord ml_X11_121 ⟨by decide, by decide, rfl, rfl, rfl⟩ (by decide) rfl rfl (Nat.le_of_ble_eq_true rfl) rfl (c_X11_laysWord (L := ((L + 4) + 4)) (by have := (nI_leI (b := 680) (by omega) (by decide)).mp h_1; omega)) ?_
    rintro r w' ⟨rfl, rfl⟩
    refine ab_aload_n dX11_feed_32 rfl ?_
    refine ab_iload dX11_feed_33 rfl ?_
    refine ab_callV (As := [.int a4]) (rest := []) dX11_feed_35 mv_X11_laysWord ml_X11_121 ⟨by decide, by decide, rfl, rfl, rfl⟩ (by decide) rfl rfl (Nat.le_of_ble_eq_true rfl) rfl (c_X11_laysWord (L := (((L + 4) + 4) + 4)) (by have := (nI_leI (b := 680) (by omega) (by decide)).mp h_1; omega)) ?_
    rintro r w' ⟨rfl, rfl⟩
    refine ab_aload_n dX11_feed_38 rfl ?_
    refine ab_iload dX11_feed_39 rfl ?_
    refine ab_callV (As := [.int a5]) (rest := []) dX11_feed_41 mv_X11_laysWord ml_X11_121 ⟨by decide, by decide, rfl, rfl, rfl⟩ (by decide) rfl rfl (Nat.le_of_ble_eq_true rfl) rfl (c_X11_laysWord (L := ((((L + 4) + 4) + 4) + 4)) (by have := (nI_leI (b := 680) (by omega) (by decide)).mp h_1; omega)) ?_
    rintro r w' ⟨rfl, rfl⟩
    refine ab_aload_n dX11_feed_44 rfl ?_
    refine ab_getf dX11_feed_45 fl_X11_118 rfl rfl ?_
    exact ab_iret dX11_feed_48 rfl (by decide) (Or.inl ⟨h_1, rfl, rfl⟩)
  · refine ab_iconst (v := -1) dX11_feed_15 (by decide) ?_
    exact ab_iret dX11_feed_16 rfl (by decide) (Or.inr (⟨h_1, rfl, rfl⟩))
