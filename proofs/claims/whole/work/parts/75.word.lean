theorem lp_skip {x0 x4 x5 x6 x7 x8 x9 x10 x11 x12 x13 x14 x15 x16 x17 x18 x19 x20 x21 x22 x23 x24 x25 x26 x27 x28 x29 x30 x31 x32 : ax_E} {f1_2 f1_5 f1_6 : Int32} {r2 r3 : Nat → Int32} {wm : List ax_E} {u : Nat → Nat} {n : Nat} {Q : Option Value → ax_W → Prop} (h_n : n ≤ 700) (h_u : ∀ k, k < 700 → u k < 256 ∧ r2 k = sgn (u k)) : ∀ (m p : Nat), n - p = m → p ≤ n → Q none ([x0, ob 6 [.ref 2, .ref 3, .int f1_2, .int (nI n), .int (nI (sk u n p)), .int f1_5, .int f1_6], ba 700 r2, ia 4 r3, x4, x5, x6, x7, x8, x9, x10, x11, x12, x13, x14, x15, x16, x17, x18, x19, x20, x21, x22, x23, x24, x25, x26, x27, x28, x29, x30, x31, x32], wm) → Ab M_X6_skipBlanks Q (0, 0) 0 [(0, .ref 1)] [] ([x0, ob 6 [.ref 2, .ref 3, .int f1_2, .int (nI n), .int (nI p), .int f1_5, .int f1_6], ba 700 r2, ia 4 r3, x4, x5, x6, x7, x8, x9, x10, x11, x12, x13, x14, x15, x16, x17, x18, x19, x20, x21, x22, x23, x24, x25, x26, x27, x28, x29, x30, x31, x32], wm) := by
  intro m
  induction m with
  | zero =>
    intro p hm h_p hx
    refine ab_aload_n dX6_skipBlanks_0 rfl ?_
    refine ab_getf dX6_skipBlanks_1 fl_X6_26 rfl rfl ?_
    refine ab_aload_n dX6_skipBlanks_4 rfl ?_
    refine ab_getf dX6_skipBlanks_5 fl_X6_23 rfl rfl ?_
    refine ab_icmpge 38 dX6_skipBlanks_8 (by decide) (fun h_1 => ?_) (fun h_1 => absurd (nI_le (by omega) (by omega)) h_1)
    exact ab_vret dX6_skipBlanks_38 rfl (by decide) (by rw [show sk u n p = p from run_f (fun z => absurd z.1 (by omega))] at hx; exact hx)
  | succ m ih =>
    intro p hm h_p hx
    refine ab_aload_n dX6_skipBlanks_0 rfl ?_
    refine ab_getf dX6_skipBlanks_1 fl_X6_26 rfl rfl ?_
    refine ab_aload_n dX6_skipBlanks_4 rfl ?_
    refine ab_getf dX6_skipBlanks_5 fl_X6_23 rfl rfl ?_
    refine ab_icmpge 38 dX6_skipBlanks_8 (by decide) (fun h_1 => absurd h_1 (nI_ge (by omega) (by omega))) (fun h_1 => ?_)
    refine ab_aload_n dX6_skipBlanks_11 rfl ?_
    refine ab_getf dX6_skipBlanks_12 fl_X6_11 rfl rfl ?_
    refine ab_aload_n dX6_skipBlanks_15 rfl ?_
    refine ab_getf dX6_skipBlanks_16 fl_X6_26 rfl rfl ?_
    refine ab_bald (j := p) dX6_skipBlanks_19 rfl (ix_nI (by omega) (by decide)) ?_
    refine ab_topi (v := (sgn (u p))) (h_u p (by omega)).2 ?_
    refine ab_bipush (v := 32) dX6_skipBlanks_20 (by decide) ?_
    refine ab_icmpne 38 dX6_skipBlanks_22 (by decide) (fun h_2 => ?_) (fun h_2 => ?_)
    · exact ab_vret dX6_skipBlanks_38 rfl (by decide) (by rw [show sk u n p = p from run_f (fun z => h_2 ((sgn_eq (c := 32) (h_u p (by omega)).1 (by decide)).mpr (isB_iff.mp z.2)))] at hx; exact hx)
    · refine ab_aload_n dX6_skipBlanks_25 rfl ?_
      refine ab_dup rfl dX6_skipBlanks_26 ?_
      refine ab_getf dX6_skipBlanks_27 fl_X6_26 rfl rfl ?_
      refine ab_iconst (v := 1) dX6_skipBlanks_30 (by decide) ?_
      refine ab_iadd dX6_skipBlanks_31 ?_
      refine ab_topi (v := (nI (p + 1))) (nI_1 _) ?_
      refine ab_putf (w1 := ([x0, ob 6 [.ref 2, .ref 3, .int f1_2, .int (nI n), .int (nI (p + 1)), .int f1_5, .int f1_6], ba 700 r2, ia 4 r3, x4, x5, x6, x7, x8, x9, x10, x11, x12, x13, x14, x15, x16, x17, x18, x19, x20, x21, x22, x23, x24, x25, x26, x27, x28, x29, x30, x31, x32], wm)) dX6_skipBlanks_32 fl_X6_26 rfl (Nat.le_of_ble_eq_true rfl) (fun _ => ⟨rfl, rfl⟩) rfl ?_
      refine ab_goto 0 dX6_skipBlanks_35 (by decide) ?_
      rw [show sk u n p = sk u n (p + 1) from run_t (by omega) (isB_iff.mpr ((sgn_eq (c := 32) (h_u p (by omega)).1 (by decide)).mp h_2))] at hx
      exact ih (p + 1) (by omega) (by omega) hx
theorem c_X6_skipBlanks {x0 x4 x5 x6 x7 x8 x9 x10 x11 x12 x13 x14 x15 x16 x17 x18 x19 x20 x21 x22 x23 x24 x25 x26 x27 x28 x29 x30 x31 x32 : ax_E} {f1_2 f1_5 f1_6 : Int32} {r2 r3 : Nat → Int32} {wm : List ax_E} {u : Nat → Nat} {n p : Nat} (h_n : n ≤ 700) (h_u : ∀ k, k < 700 → u k < 256 ∧ r2 k = sgn (u k)) (h_p : p ≤ n) : Ct M_X6_skipBlanks [.ref 1] ([x0, ob 6 [.ref 2, .ref 3, .int f1_2, .int (nI n), .int (nI p), .int f1_5, .int f1_6], ba 700 r2, ia 4 r3, x4, x5, x6, x7, x8, x9, x10, x11, x12, x13, x14, x15, x16, x17, x18, x19, x20, x21, x22, x23, x24, x25, x26, x27, x28, x29, x30, x31, x32], wm) (fun r w' => (p ≤ sk u n p ∧ sk u n p ≤ n) ∧ r = none ∧ w' = ([x0, ob 6 [.ref 2, .ref 3, .int f1_2, .int (nI n), .int (nI (sk u n p)), .int f1_5, .int f1_6], ba 700 r2, ia 4 r3, x4, x5, x6, x7, x8, x9, x10, x11, x12, x13, x14, x15, x16, x17, x18, x19, x20, x21, x22, x23, x24, x25, x26, x27, x28, x29, x30, x31, x32], wm)) := by
  refine ct_of ⟨by decide, rfl⟩ (Nat.le_of_ble_eq_true rfl) ?_
  exact lp_skip h_n h_u (n - p) p rfl h_p ⟨⟨sk_ge, sk_le h_p⟩, rfl, rfl⟩
theorem isL_s {u : Nat → Nat} {k : Nat} (h : u k < 256) : (97 ≤ sgn (u k) ∧ sgn (u k) ≤ 122) ↔ isL u k = true := (sgn_in (a := 97) (b := 122) h (by decide) (by decide)).trans isL_iff.symm
theorem isD_s {u : Nat → Nat} {k : Nat} (h : u k < 256) : (48 ≤ sgn (u k) ∧ sgn (u k) ≤ 57) ↔ isD u k = true := (sgn_in (a := 48) (b := 57) h (by decide) (by decide)).trans isD_iff.symm
theorem sgn_c {x c : Nat} {v : Int32} (h : x < 256) (hc : c < 128) (hv : nI c = v) : sgn x = v ↔ x = c := by rw [← hv]; exact sgn_eq h hc
theorem c_X6_takesWord_0 {x0 x4 x5 x6 x7 x8 x9 x10 x11 x12 x13 x14 x15 x16 x17 x18 x19 x20 x21 x22 x23 x24 x25 x26 x27 x28 x29 x30 x31 x32 : ax_E} {f1_2 f1_5 f1_6 : Int32} {r2 r3 : Nat → Int32} {wm : List ax_E} {u : Nat → Nat} {n p : Nat} (h_n : n ≤ 700) (h_u : ∀ k, k < 700 → u k < 256 ∧ r2 k = sgn (u k)) (h_p : p ≤ n) : Ct M_X6_takesWord [.ref 1, .ref 3000] ([x0, ob 6 [.ref 2, .ref 3, .int f1_2, .int (nI n), .int (nI p), .int f1_5, .int f1_6], ba 700 r2, ia 4 r3, x4, x5, x6, x7, x8, x9, x10, x11, x12, x13, x14, x15, x16, x17, x18, x19, x20, x21, x22, x23, x24, x25, x26, x27, x28, x29, x30, x31, x32], wm) (fun r w' => ((wd_0 u n p) ∧ r = some (.int 1) ∧ w' = ([x0, ob 6 [.ref 2, .ref 3, .int f1_2, .int (nI n), .int (nI (p + 4)), .int f1_5, .int f1_6], ba 700 r2, ia 4 r3, x4, x5, x6, x7, x8, x9, x10, x11, x12, x13, x14, x15, x16, x17, x18, x19, x20, x21, x22, x23, x24, x25, x26, x27, x28, x29, x30, x31, x32], wm)) ∨ ((¬ wd_0 u n p) ∧ r = some (.int 0) ∧ w' = ([x0, ob 6 [.ref 2, .ref 3, .int f1_2, .int (nI n), .int (nI p), .int f1_5, .int f1_6], ba 700 r2, ia 4 r3, x4, x5, x6, x7, x8, x9, x10, x11, x12, x13, x14, x15, x16, x17, x18, x19, x20, x21, x22, x23, x24, x25, x26, x27, x28, x29, x30, x31, x32], wm))) := by
  refine ct_of ⟨by decide, rfl⟩ (Nat.le_of_ble_eq_true rfl) ?_
  refine ab_aload_n dX6_takesWord_0 rfl ?_
  refine ab_getf dX6_takesWord_1 fl_X6_26 rfl rfl ?_
  refine ab_aload_n dX6_takesWord_4 rfl ?_
  refine ab_callT (j := 0) (As := []) (rest := [.int (nI p)]) dX6_takesWord_5 mT_J0_length_8abf5 ml_X6_124 ⟨by decide, by decide, rfl, rfl, rfl⟩ (by decide) rfl rfl (Nat.le_of_ble_eq_true rfl) (by decide) c_slen_0 ?_
  rintro r w' ⟨rfl, rfl⟩
  refine ab_iadd dX6_takesWord_8 ?_
  refine ab_topi (v := (nI (p + 4))) (nI_add _ 4) ?_
  refine ab_istore_n (la' := [(2, .int (nI (p + 4))), (0, .ref 1), (1, .ref 3000)]) dX6_takesWord_9 (by decide) rfl ?_
  refine ab_iload_n dX6_takesWord_10 rfl ?_
  refine ab_aload_n dX6_takesWord_11 rfl ?_
  refine ab_getf dX6_takesWord_12 fl_X6_23 rfl rfl ?_
  refine ab_icmpgt 38 dX6_takesWord_15 (by decide) (fun h_1 => ?_) (fun h_1 => ?_)
  · have h_1n := (nI_ltI (a := n) (b := (p + 4)) (by omega) (by omega)).mp h_1
    refine ab_iconst (v := 0) dX6_takesWord_38 (by decide) ?_
    exact ab_zret dX6_takesWord_39 rfl rfl (by decide) (Or.inr (⟨fun z => absurd z.1 (by omega), rfl, rfl⟩))
  · have h_1n : ¬ _ := fun z => h_1 ((nI_ltI (a := n) (b := (p + 4)) (by omega) (by omega)).mpr z)
    refine ab_iload_n dX6_takesWord_18 rfl ?_
    refine ab_aload_n dX6_takesWord_19 rfl ?_
    refine ab_getf dX6_takesWord_20 fl_X6_23 rfl rfl ?_
    refine ab_icmpge 40 dX6_takesWord_23 (by decide) (fun h_2 => ?_) (fun h_2 => ?_)
    · have h_2n := (nI_leI (a := n) (b := (p + 4)) (by omega) (by omega)).mp h_2
      refine ab_iconst (v := 0) dX6_takesWord_40 (by decide) ?_
      refine ab_istore_n (la' := [(3, .int 0), (2, .int (nI (p + 4))), (0, .ref 1), (1, .ref 3000)]) dX6_takesWord_41 (by decide) rfl ?_
      refine ab_iload_n dX6_takesWord_42 rfl ?_
      refine ab_aload_n dX6_takesWord_43 rfl ?_
      refine ab_callT (j := 0) (As := []) (rest := [.int 0]) dX6_takesWord_44 mT_J0_length_8abf5 ml_X6_124 ⟨by decide, by decide, rfl, rfl, rfl⟩ (by decide) rfl rfl (Nat.le_of_ble_eq_true rfl) (by decide) c_slen_0 ?_
      rintro r w' ⟨rfl, rfl⟩
      refine ab_icmpge 77 dX6_takesWord_47 (by decide) (fun h_3 => absurd h_3 (by decide)) (fun h_3 => ?_)
      refine ab_aload_n dX6_takesWord_50 rfl ?_
      refine ab_getf dX6_takesWord_51 fl_X6_11 rfl rfl ?_
      refine ab_aload_n dX6_takesWord_54 rfl ?_
      refine ab_getf dX6_takesWord_55 fl_X6_26 rfl rfl ?_
      refine ab_iload_n dX6_takesWord_58 rfl ?_
      refine ab_iadd dX6_takesWord_59 ?_
      refine ab_topi (v := (nI p)) (Int32.add_zero _) ?_
      refine ab_bald (j := p) dX6_takesWord_60 rfl (ix_nI (by omega) (by decide)) ?_
      refine ab_topi (v := (sgn (u (p + 0)))) (h_u p (by omega)).2 ?_
      refine ab_aload_n dX6_takesWord_61 rfl ?_
      refine ab_iload_n dX6_takesWord_62 rfl ?_
      refine ab_callT (j := 0) (As := [.int 0]) (rest := [.int (sgn (u (p + 0)))]) dX6_takesWord_63 mT_J0_charAt_5068e ml_X6_132 ⟨by decide, by decide, rfl, rfl, rfl⟩ (by decide) rfl rfl (Nat.le_of_ble_eq_true rfl) (by decide) c_chr_0_0 ?_
      rintro r w' ⟨rfl, rfl⟩
      refine ab_icmpeq 71 dX6_takesWord_66 (by decide) (fun h_4 => ?_) (fun h_4 => ?_)
      · refine ab_iinc (v := 1) (la' := [(3, .int 1), (2, .int (nI (p + 4))), (0, .ref 1), (1, .ref 3000)]) dX6_takesWord_71 rfl (by decide) (by decide) rfl ?_
        refine ab_goto 42 dX6_takesWord_74 (by decide) ?_
        refine ab_iload_n dX6_takesWord_42 rfl ?_
        refine ab_aload_n dX6_takesWord_43 rfl ?_
        refine ab_callT (j := 0) (As := []) (rest := [.int 1]) dX6_takesWord_44 mT_J0_length_8abf5 ml_X6_124 ⟨by decide, by decide, rfl, rfl, rfl⟩ (by decide) rfl rfl (Nat.le_of_ble_eq_true rfl) (by decide) c_slen_0 ?_
        rintro r w' ⟨rfl, rfl⟩
        refine ab_icmpge 77 dX6_takesWord_47 (by decide) (fun h_5 => absurd h_5 (by decide)) (fun h_5 => ?_)
        refine ab_aload_n dX6_takesWord_50 rfl ?_
        refine ab_getf dX6_takesWord_51 fl_X6_11 rfl rfl ?_
        refine ab_aload_n dX6_takesWord_54 rfl ?_
        refine ab_getf dX6_takesWord_55 fl_X6_26 rfl rfl ?_
        refine ab_iload_n dX6_takesWord_58 rfl ?_
        refine ab_iadd dX6_takesWord_59 ?_
        refine ab_topi (v := (nI (p + 1))) (nI_1 _) ?_
        refine ab_bald (j := (p + 1)) dX6_takesWord_60 rfl (ix_nI (by omega) (by decide)) ?_
        refine ab_topi (v := (sgn (u (p + 1)))) (h_u (p + 1) (by omega)).2 ?_
        refine ab_aload_n dX6_takesWord_61 rfl ?_
        refine ab_iload_n dX6_takesWord_62 rfl ?_
        refine ab_callT (j := 0) (As := [.int 1]) (rest := [.int (sgn (u (p + 1)))]) dX6_takesWord_63 mT_J0_charAt_5068e ml_X6_132 ⟨by decide, by decide, rfl, rfl, rfl⟩ (by decide) rfl rfl (Nat.le_of_ble_eq_true rfl) (by decide) c_chr_0_1 ?_
        rintro r w' ⟨rfl, rfl⟩
        refine ab_icmpeq 71 dX6_takesWord_66 (by decide) (fun h_6 => ?_) (fun h_6 => ?_)
        · refine ab_iinc (v := 2) (la' := [(3, .int 2), (2, .int (nI (p + 4))), (0, .ref 1), (1, .ref 3000)]) dX6_takesWord_71 rfl (by decide) (by decide) rfl ?_
          refine ab_goto 42 dX6_takesWord_74 (by decide) ?_
          refine ab_iload_n dX6_takesWord_42 rfl ?_
          refine ab_aload_n dX6_takesWord_43 rfl ?_
          refine ab_callT (j := 0) (As := []) (rest := [.int 2]) dX6_takesWord_44 mT_J0_length_8abf5 ml_X6_124 ⟨by decide, by decide, rfl, rfl, rfl⟩ (by decide) rfl rfl (Nat.le_of_ble_eq_true rfl) (by decide) c_slen_0 ?_
          rintro r w' ⟨rfl, rfl⟩
          refine ab_icmpge 77 dX6_takesWord_47 (by decide) (fun h_7 => absurd h_7 (by decide)) (fun h_7 => ?_)
          refine ab_aload_n dX6_takesWord_50 rfl ?_
          refine ab_getf dX6_takesWord_51 fl_X6_11 rfl rfl ?_
          refine ab_aload_n dX6_takesWord_54 rfl ?_
          refine ab_getf dX6_takesWord_55 fl_X6_26 rfl rfl ?_
          refine ab_iload_n dX6_takesWord_58 rfl ?_
          refine ab_iadd dX6_takesWord_59 ?_
          refine ab_topi (v := (nI (p + 2))) (nI_add _ 2) ?_
          refine ab_bald (j := (p + 2)) dX6_takesWord_60 rfl (ix_nI (by omega) (by decide)) ?_
          refine ab_topi (v := (sgn (u (p + 2)))) (h_u (p + 2) (by omega)).2 ?_
          refine ab_aload_n dX6_takesWord_61 rfl ?_
          refine ab_iload_n dX6_takesWord_62 rfl ?_
          refine ab_callT (j := 0) (As := [.int 2]) (rest := [.int (sgn (u (p + 2)))]) dX6_takesWord_63 mT_J0_charAt_5068e ml_X6_132 ⟨by decide, by decide, rfl, rfl, rfl⟩ (by decide) rfl rfl (Nat.le_of_ble_eq_true rfl) (by decide) c_chr_0_2 ?_
          rintro r w' ⟨rfl, rfl⟩
          refine ab_icmpeq 71 dX6_takesWord_66 (by decide) (fun h_8 => ?_) (fun h_8 => ?_)
          · refine ab_iinc (v := 3) (la' := [(3, .int 3), (2, .int (nI (p + 4))), (0, .ref 1), (1, .ref 3000)]) dX6_takesWord_71 rfl (by decide) (by decide) rfl ?_
            refine ab_goto 42 dX6_takesWord_74 (by decide) ?_
            refine ab_iload_n dX6_takesWord_42 rfl ?_
            refine ab_aload_n dX6_takesWord_43 rfl ?_
            refine ab_callT (j := 0) (As := []) (rest := [.int 3]) dX6_takesWord_44 mT_J0_length_8abf5 ml_X6_124 ⟨by decide, by decide, rfl, rfl, rfl⟩ (by decide) rfl rfl (Nat.le_of_ble_eq_true rfl) (by decide) c_slen_0 ?_
            rintro r w' ⟨rfl, rfl⟩
            refine ab_icmpge 77 dX6_takesWord_47 (by decide) (fun h_9 => absurd h_9 (by decide)) (fun h_9 => ?_)
            refine ab_aload_n dX6_takesWord_50 rfl ?_
            refine ab_getf dX6_takesWord_51 fl_X6_11 rfl rfl ?_
            refine ab_aload_n dX6_takesWord_54 rfl ?_
            refine ab_getf dX6_takesWord_55 fl_X6_26 rfl rfl ?_
            refine ab_iload_n dX6_takesWord_58 rfl ?_
            refine ab_iadd dX6_takesWord_59 ?_
            refine ab_topi (v := (nI (p + 3))) (nI_add _ 3) ?_
            refine ab_bald (j := (p + 3)) dX6_takesWord_60 rfl (ix_nI (by omega) (by decide)) ?_
            refine ab_topi (v := (sgn (u (p + 3)))) (h_u (p + 3) (by omega)).2 ?_
            refine ab_aload_n dX6_takesWord_61 rfl ?_
            refine ab_iload_n dX6_takesWord_62 rfl ?_
            refine ab_callT (j := 0) (As := [.int 3]) (rest := [.int (sgn (u (p + 3)))]) dX6_takesWord_63 mT_J0_charAt_5068e ml_X6_132 ⟨by decide, by decide, rfl, rfl, rfl⟩ (by decide) rfl rfl (Nat.le_of_ble_eq_true rfl) (by decide) c_chr_0_3 ?_
            rintro r w' ⟨rfl, rfl⟩
            refine ab_icmpeq 71 dX6_takesWord_66 (by decide) (fun h_10 => ?_) (fun h_10 => ?_)
            · refine ab_iinc (v := 4) (la' := [(3, .int 4), (2, .int (nI (p + 4))), (0, .ref 1), (1, .ref 3000)]) dX6_takesWord_71 rfl (by decide) (by decide) rfl ?_
              refine ab_goto 42 dX6_takesWord_74 (by decide) ?_
              refine ab_iload_n dX6_takesWord_42 rfl ?_
              refine ab_aload_n dX6_takesWord_43 rfl ?_
              refine ab_callT (j := 0) (As := []) (rest := [.int 4]) dX6_takesWord_44 mT_J0_length_8abf5 ml_X6_124 ⟨by decide, by decide, rfl, rfl, rfl⟩ (by decide) rfl rfl (Nat.le_of_ble_eq_true rfl) (by decide) c_slen_0 ?_
              rintro r w' ⟨rfl, rfl⟩
              refine ab_icmpge 77 dX6_takesWord_47 (by decide) (fun h_11 => ?_) (fun h_11 => absurd (by decide) h_11)
              refine ab_aload_n dX6_takesWord_77 rfl ?_
              refine ab_iload_n dX6_takesWord_78 rfl ?_
              refine ab_putf (w1 := ([x0, ob 6 [.ref 2, .ref 3, .int f1_2, .int (nI n), .int (nI (p + 4)), .int f1_5, .int f1_6], ba 700 r2, ia 4 r3, x4, x5, x6, x7, x8, x9, x10, x11, x12, x13, x14, x15, x16, x17, x18, x19, x20, x21, x22, x23, x24, x25, x26, x27, x28, x29, x30, x31, x32], wm)) dX6_takesWord_79 fl_X6_26 rfl (Nat.le_of_ble_eq_true rfl) (fun _ => ⟨rfl, rfl⟩) rfl ?_
              refine ab_iconst (v := 1) dX6_takesWord_82 (by decide) ?_
              exact ab_zret dX6_takesWord_83 rfl rfl (by decide) (Or.inl (⟨⟨by omega, (fun z => absurd z.1 (by omega)), (sgn_c (c := 98) (h_u (p + 0) (by omega)).1 (by decide) rfl).mp h_4, (sgn_c (c := 97) (h_u (p + 1) (by omega)).1 (by decide) rfl).mp h_6, (sgn_c (c := 114) (h_u (p + 2) (by omega)).1 (by decide) rfl).mp h_8, (sgn_c (c := 115) (h_u (p + 3) (by omega)).1 (by decide) rfl).mp h_10⟩, rfl, rfl⟩))
            · refine ab_iconst (v := 0) dX6_takesWord_69 (by decide) ?_
              exact ab_zret dX6_takesWord_70 rfl rfl (by decide) (Or.inr (⟨fun z => h_10 ((sgn_c (c := 115) (h_u (p + 3) (by omega)).1 (by decide) rfl).mpr z.2.2.2.2.2), rfl, rfl⟩))
          · refine ab_iconst (v := 0) dX6_takesWord_69 (by decide) ?_
            exact ab_zret dX6_takesWord_70 rfl rfl (by decide) (Or.inr (⟨fun z => h_8 ((sgn_c (c := 114) (h_u (p + 2) (by omega)).1 (by decide) rfl).mpr z.2.2.2.2.1), rfl, rfl⟩))
        · refine ab_iconst (v := 0) dX6_takesWord_69 (by decide) ?_
          exact ab_zret dX6_takesWord_70 rfl rfl (by decide) (Or.inr (⟨fun z => h_6 ((sgn_c (c := 97) (h_u (p + 1) (by omega)).1 (by decide) rfl).mpr z.2.2.2.1), rfl, rfl⟩))
      · refine ab_iconst (v := 0) dX6_takesWord_69 (by decide) ?_
        exact ab_zret dX6_takesWord_70 rfl rfl (by decide) (Or.inr (⟨fun z => h_4 ((sgn_c (c := 98) (h_u (p + 0) (by omega)).1 (by decide) rfl).mpr z.2.2.1), rfl, rfl⟩))
    · have h_2n : ¬ _ := fun z => h_2 ((nI_leI (a := n) (b := (p + 4)) (by omega) (by omega)).mpr z)
      refine ab_aload_n dX6_takesWord_26 rfl ?_
      refine ab_getf dX6_takesWord_27 fl_X6_11 rfl rfl ?_
      refine ab_iload_n dX6_takesWord_30 rfl ?_
      refine ab_bald (j := (p + 4)) dX6_takesWord_31 rfl (ix_nI (by omega) (by decide)) ?_
      refine ab_topi (v := (sgn (u (p + 4)))) (h_u (p + 4) (by omega)).2 ?_
      refine ab_callS (As := [.int (sgn (u (p + 4)))]) (rest := []) dX6_takesWord_32 ms_X6_isLetter ml_X6_129 ⟨by decide, by decide, rfl, rfl, rfl⟩ (by decide) rfl rfl (Nat.le_of_ble_eq_true rfl) c_X6_isLetter ?_
      rintro r w' (⟨c_12, rfl, rfl⟩ | ⟨c_13, rfl, rfl⟩)
      · refine ab_ifeq 40 dX6_takesWord_35 (by decide) (fun h_14 => absurd h_14 (by decide)) (fun h_14 => ?_)
        refine ab_iconst (v := 0) dX6_takesWord_38 (by decide) ?_
        exact ab_zret dX6_takesWord_39 rfl rfl (by decide) (Or.inr (⟨fun z => z.2.1 ⟨by omega, (isL_s (h_u _ (by omega)).1).mp c_12⟩, rfl, rfl⟩))
      · refine ab_ifeq 40 dX6_takesWord_35 (by decide) (fun h_15 => ?_) (fun h_15 => absurd (by decide) h_15)
        refine ab_iconst (v := 0) dX6_takesWord_40 (by decide) ?_
        refine ab_istore_n (la' := [(3, .int 0), (2, .int (nI (p + 4))), (0, .ref 1), (1, .ref 3000)]) dX6_takesWord_41 (by decide) rfl ?_
        refine ab_iload_n dX6_takesWord_42 rfl ?_
        refine ab_aload_n dX6_takesWord_43 rfl ?_
        refine ab_callT (j := 0) (As := []) (rest := [.int 0]) dX6_takesWord_44 mT_J0_length_8abf5 ml_X6_124 ⟨by decide, by decide, rfl, rfl, rfl⟩ (by decide) rfl rfl (Nat.le_of_ble_eq_true rfl) (by decide) c_slen_0 ?_
        rintro r w' ⟨rfl, rfl⟩
        refine ab_icmpge 77 dX6_takesWord_47 (by decide) (fun h_16 => absurd h_16 (by decide)) (fun h_16 => ?_)
        refine ab_aload_n dX6_takesWord_50 rfl ?_
        refine ab_getf dX6_takesWord_51 fl_X6_11 rfl rfl ?_
        refine ab_aload_n dX6_takesWord_54 rfl ?_
        refine ab_getf dX6_takesWord_55 fl_X6_26 rfl rfl ?_
        refine ab_iload_n dX6_takesWord_58 rfl ?_
        refine ab_iadd dX6_takesWord_59 ?_
        refine ab_topi (v := (nI p)) (Int32.add_zero _) ?_
        refine ab_bald (j := p) dX6_takesWord_60 rfl (ix_nI (by omega) (by decide)) ?_
        refine ab_topi (v := (sgn (u (p + 0)))) (h_u p (by omega)).2 ?_
        refine ab_aload_n dX6_takesWord_61 rfl ?_
        refine ab_iload_n dX6_takesWord_62 rfl ?_
        refine ab_callT (j := 0) (As := [.int 0]) (rest := [.int (sgn (u (p + 0)))]) dX6_takesWord_63 mT_J0_charAt_5068e ml_X6_132 ⟨by decide, by decide, rfl, rfl, rfl⟩ (by decide) rfl rfl (Nat.le_of_ble_eq_true rfl) (by decide) c_chr_0_0 ?_
        rintro r w' ⟨rfl, rfl⟩
        refine ab_icmpeq 71 dX6_takesWord_66 (by decide) (fun h_17 => ?_) (fun h_17 => ?_)
        · refine ab_iinc (v := 1) (la' := [(3, .int 1), (2, .int (nI (p + 4))), (0, .ref 1), (1, .ref 3000)]) dX6_takesWord_71 rfl (by decide) (by decide) rfl ?_
          refine ab_goto 42 dX6_takesWord_74 (by decide) ?_
          refine ab_iload_n dX6_takesWord_42 rfl ?_
          refine ab_aload_n dX6_takesWord_43 rfl ?_
          refine ab_callT (j := 0) (As := []) (rest := [.int 1]) dX6_takesWord_44 mT_J0_length_8abf5 ml_X6_124 ⟨by decide, by decide, rfl, rfl, rfl⟩ (by decide) rfl rfl (Nat.le_of_ble_eq_true rfl) (by decide) c_slen_0 ?_
          rintro r w' ⟨rfl, rfl⟩
          refine ab_icmpge 77 dX6_takesWord_47 (by decide) (fun h_18 => absurd h_18 (by decide)) (fun h_18 => ?_)
          refine ab_aload_n dX6_takesWord_50 rfl ?_
          refine ab_getf dX6_takesWord_51 fl_X6_11 rfl rfl ?_
          refine ab_aload_n dX6_takesWord_54 rfl ?_
          refine ab_getf dX6_takesWord_55 fl_X6_26 rfl rfl ?_
          refine ab_iload_n dX6_takesWord_58 rfl ?_
          refine ab_iadd dX6_takesWord_59 ?_
          refine ab_topi (v := (nI (p + 1))) (nI_1 _) ?_
          refine ab_bald (j := (p + 1)) dX6_takesWord_60 rfl (ix_nI (by omega) (by decide)) ?_
          refine ab_topi (v := (sgn (u (p + 1)))) (h_u (p + 1) (by omega)).2 ?_
          refine ab_aload_n dX6_takesWord_61 rfl ?_
          refine ab_iload_n dX6_takesWord_62 rfl ?_
          refine ab_callT (j := 0) (As := [.int 1]) (rest := [.int (sgn (u (p + 1)))]) dX6_takesWord_63 mT_J0_charAt_5068e ml_X6_132 ⟨by decide, by decide, rfl, rfl, rfl⟩ (by decide) rfl rfl (Nat.le_of_ble_eq_true rfl) (by decide) c_chr_0_1 ?_
          rintro r w' ⟨rfl, rfl⟩
          refine ab_icmpeq 71 dX6_takesWord_66 (by decide) (fun h_19 => ?_) (fun h_19 => ?_)
          · refine ab_iinc (v := 2) (la' := [(3, .int 2), (2, .int (nI (p + 4))), (0, .ref 1), (1, .ref 3000)]) dX6_takesWord_71 rfl (by decide) (by decide) rfl ?_
            refine ab_goto 42 dX6_takesWord_74 (by decide) ?_
            refine ab_iload_n dX6_takesWord_42 rfl ?_
            refine ab_aload_n dX6_takesWord_43 rfl ?_
            refine ab_callT (j := 0) (As := []) (rest := [.int 2]) dX6_takesWord_44 mT_J0_length_8abf5 ml_X6_124 ⟨by decide, by decide, rfl, rfl, rfl⟩ (by decide) rfl rfl (Nat.le_of_ble_eq_true rfl) (by decide) c_slen_0 ?_
            rintro r w' ⟨rfl, rfl⟩
            refine ab_icmpge 77 dX6_takesWord_47 (by decide) (fun h_20 => absurd h_20 (by decide)) (fun h_20 => ?_)
            refine ab_aload_n dX6_takesWord_50 rfl ?_
            refine ab_getf dX6_takesWord_51 fl_X6_11 rfl rfl ?_
            refine ab_aload_n dX6_takesWord_54 rfl ?_
            refine ab_getf dX6_takesWord_55 fl_X6_26 rfl rfl ?_
            refine ab_iload_n dX6_takesWord_58 rfl ?_
            refine ab_iadd dX6_takesWord_59 ?_
            refine ab_topi (v := (nI (p + 2))) (nI_add _ 2) ?_
            refine ab_bald (j := (p + 2)) dX6_takesWord_60 rfl (ix_nI (by omega) (by decide)) ?_
            refine ab_topi (v := (sgn (u (p + 2)))) (h_u (p + 2) (by omega)).2 ?_
            refine ab_aload_n dX6_takesWord_61 rfl ?_
            refine ab_iload_n dX6_takesWord_62 rfl ?_
            refine ab_callT (j := 0) (As := [.int 2]) (rest := [.int (sgn (u (p + 2)))]) dX6_takesWord_63 mT_J0_charAt_5068e ml_X6_132 ⟨by decide, by decide, rfl, rfl, rfl⟩ (by decide) rfl rfl (Nat.le_of_ble_eq_true rfl) (by decide) c_chr_0_2 ?_
            rintro r w' ⟨rfl, rfl⟩
            refine ab_icmpeq 71 dX6_takesWord_66 (by decide) (fun h_21 => ?_) (fun h_21 => ?_)
            · refine ab_iinc (v := 3) (la' := [(3, .int 3), (2, .int (nI (p + 4))), (0, .ref 1), (1, .ref 3000)]) dX6_takesWord_71 rfl (by decide) (by decide) rfl ?_
              refine ab_goto 42 dX6_takesWord_74 (by decide) ?_
              refine ab_iload_n dX6_takesWord_42 rfl ?_
              refine ab_aload_n dX6_takesWord_43 rfl ?_
              refine ab_callT (j := 0) (As := []) (rest := [.int 3]) dX6_takesWord_44 mT_J0_length_8abf5 ml_X6_124 ⟨by decide, by decide, rfl, rfl, rfl⟩ (by decide) rfl rfl (Nat.le_of_ble_eq_true rfl) (by decide) c_slen_0 ?_
              rintro r w' ⟨rfl, rfl⟩
              refine ab_icmpge 77 dX6_takesWord_47 (by decide) (fun h_22 => absurd h_22 (by decide)) (fun h_22 => ?_)
              refine ab_aload_n dX6_takesWord_50 rfl ?_
              refine ab_getf dX6_takesWord_51 fl_X6_11 rfl rfl ?_
              refine ab_aload_n dX6_takesWord_54 rfl ?_
              refine ab_getf dX6_takesWord_55 fl_X6_26 rfl rfl ?_
              refine ab_iload_n dX6_takesWord_58 rfl ?_
              refine ab_iadd dX6_takesWord_59 ?_
              refine ab_topi (v := (nI (p + 3))) (nI_add _ 3) ?_
              refine ab_bald (j := (p + 3)) dX6_takesWord_60 rfl (ix_nI (by omega) (by decide)) ?_
              refine ab_topi (v := (sgn (u (p + 3)))) (h_u (p + 3) (by omega)).2 ?_
              refine ab_aload_n dX6_takesWord_61 rfl ?_
              refine ab_iload_n dX6_takesWord_62 rfl ?_
              refine ab_callT (j := 0) (As := [.int 3]) (rest := [.int (sgn (u (p + 3)))]) dX6_takesWord_63 mT_J0_charAt_5068e ml_X6_132 ⟨by decide, by decide, rfl, rfl, rfl⟩ (by decide) rfl rfl (Nat.le_of_ble_eq_true rfl) (by decide) c_chr_0_3 ?_
              rintro r w' ⟨rfl, rfl⟩
              refine ab_icmpeq 71 dX6_takesWord_66 (by decide) (fun h_23 => ?_) (fun h_23 => ?_)
              · refine ab_iinc (v := 4) (la' := [(3, .int 4), (2, .int (nI (p + 4))), (0, .ref 1), (1, .ref 3000)]) dX6_takesWord_71 rfl (by decide) (by decide) rfl ?_
                refine ab_goto 42 dX6_takesWord_74 (by decide) ?_
                refine ab_iload_n dX6_takesWord_42 rfl ?_
                refine ab_aload_n dX6_takesWord_43 rfl ?_
                refine ab_callT (j := 0) (As := []) (rest := [.int 4]) dX6_takesWord_44 mT_J0_length_8abf5 ml_X6_124 ⟨by decide, by decide, rfl, rfl, rfl⟩ (by decide) rfl rfl (Nat.le_of_ble_eq_true rfl) (by decide) c_slen_0 ?_
                rintro r w' ⟨rfl, rfl⟩
                refine ab_icmpge 77 dX6_takesWord_47 (by decide) (fun h_24 => ?_) (fun h_24 => absurd (by decide) h_24)
                refine ab_aload_n dX6_takesWord_77 rfl ?_
                refine ab_iload_n dX6_takesWord_78 rfl ?_
                refine ab_putf (w1 := ([x0, ob 6 [.ref 2, .ref 3, .int f1_2, .int (nI n), .int (nI (p + 4)), .int f1_5, .int f1_6], ba 700 r2, ia 4 r3, x4, x5, x6, x7, x8, x9, x10, x11, x12, x13, x14, x15, x16, x17, x18, x19, x20, x21, x22, x23, x24, x25, x26, x27, x28, x29, x30, x31, x32], wm)) dX6_takesWord_79 fl_X6_26 rfl (Nat.le_of_ble_eq_true rfl) (fun _ => ⟨rfl, rfl⟩) rfl ?_
                refine ab_iconst (v := 1) dX6_takesWord_82 (by decide) ?_
                exact ab_zret dX6_takesWord_83 rfl rfl (by decide) (Or.inl (⟨⟨by omega, (fun z => c_13 ((isL_s (h_u _ (by omega)).1).mpr z.2)), (sgn_c (c := 98) (h_u (p + 0) (by omega)).1 (by decide) rfl).mp h_17, (sgn_c (c := 97) (h_u (p + 1) (by omega)).1 (by decide) rfl).mp h_19, (sgn_c (c := 114) (h_u (p + 2) (by omega)).1 (by decide) rfl).mp h_21, (sgn_c (c := 115) (h_u (p + 3) (by omega)).1 (by decide) rfl).mp h_23⟩, rfl, rfl⟩))
              · refine ab_iconst (v := 0) dX6_takesWord_69 (by decide) ?_
                exact ab_zret dX6_takesWord_70 rfl rfl (by decide) (Or.inr (⟨fun z => h_23 ((sgn_c (c := 115) (h_u (p + 3) (by omega)).1 (by decide) rfl).mpr z.2.2.2.2.2), rfl, rfl⟩))
            · refine ab_iconst (v := 0) dX6_takesWord_69 (by decide) ?_
              exact ab_zret dX6_takesWord_70 rfl rfl (by decide) (Or.inr (⟨fun z => h_21 ((sgn_c (c := 114) (h_u (p + 2) (by omega)).1 (by decide) rfl).mpr z.2.2.2.2.1), rfl, rfl⟩))
          · refine ab_iconst (v := 0) dX6_takesWord_69 (by decide) ?_
            exact ab_zret dX6_takesWord_70 rfl rfl (by decide) (Or.inr (⟨fun z => h_19 ((sgn_c (c := 97) (h_u (p + 1) (by omega)).1 (by decide) rfl).mpr z.2.2.2.1), rfl, rfl⟩))
        · refine ab_iconst (v := 0) dX6_takesWord_69 (by decide) ?_
          exact ab_zret dX6_takesWord_70 rfl rfl (by decide) (Or.inr (⟨fun z => h_17 ((sgn_c (c := 98) (h_u (p + 0) (by omega)).1 (by decide) rfl).mpr z.2.2.1), rfl, rfl⟩))
theorem c_X6_takesWord_1 {x0 x4 x5 x6 x7 x8 x9 x10 x11 x12 x13 x14 x15 x16 x17 x18 x19 x20 x21 x22 x23 x24 x25 x26 x27 x28 x29 x30 x31 x32 : ax_E} {f1_2 f1_5 f1_6 : Int32} {r2 r3 : Nat → Int32} {wm : List ax_E} {u : Nat → Nat} {n p : Nat} (h_n : n ≤ 700) (h_u : ∀ k, k < 700 → u k < 256 ∧ r2 k = sgn (u k)) (h_p : p ≤ n) : Ct M_X6_takesWord [.ref 1, .ref 3001] ([x0, ob 6 [.ref 2, .ref 3, .int f1_2, .int (nI n), .int (nI p), .int f1_5, .int f1_6], ba 700 r2, ia 4 r3, x4, x5, x6, x7, x8, x9, x10, x11, x12, x13, x14, x15, x16, x17, x18, x19, x20, x21, x22, x23, x24, x25, x26, x27, x28, x29, x30, x31, x32], wm) (fun r w' => ((wd_1 u n p) ∧ r = some (.int 1) ∧ w' = ([x0, ob 6 [.ref 2, .ref 3, .int f1_2, .int (nI n), .int (nI (p + 6)), .int f1_5, .int f1_6], ba 700 r2, ia 4 r3, x4, x5, x6, x7, x8, x9, x10, x11, x12, x13, x14, x15, x16, x17, x18, x19, x20, x21, x22, x23, x24, x25, x26, x27, x28, x29, x30, x31, x32], wm)) ∨ ((¬ wd_1 u n p) ∧ r = some (.int 0) ∧ w' = ([x0, ob 6 [.ref 2, .ref 3, .int f1_2, .int (nI n), .int (nI p), .int f1_5, .int f1_6], ba 700 r2, ia 4 r3, x4, x5, x6, x7, x8, x9, x10, x11, x12, x13, x14, x15, x16, x17, x18, x19, x20, x21, x22, x23, x24, x25, x26, x27, x28, x29, x30, x31, x32], wm))) := by
  refine ct_of ⟨by decide, rfl⟩ (Nat.le_of_ble_eq_true rfl) ?_
  refine ab_aload_n dX6_takesWord_0 rfl ?_
  refine ab_getf dX6_takesWord_1 fl_X6_26 rfl rfl ?_
  refine ab_aload_n dX6_takesWord_4 rfl ?_
  refine ab_callT (j := 1) (As := []) (rest := [.int (nI p)]) dX6_takesWord_5 mT_J0_length_8abf5 ml_X6_124 ⟨by decide, by decide, rfl, rfl, rfl⟩ (by decide) rfl rfl (Nat.le_of_ble_eq_true rfl) (by decide) c_slen_1 ?_
  rintro r w' ⟨rfl, rfl⟩
  refine ab_iadd dX6_takesWord_8 ?_
  refine ab_topi (v := (nI (p + 6))) (nI_add _ 6) ?_
  refine ab_istore_n (la' := [(2, .int (nI (p + 6))), (0, .ref 1), (1, .ref 3001)]) dX6_takesWord_9 (by decide) rfl ?_
  refine ab_iload_n dX6_takesWord_10 rfl ?_
  refine ab_aload_n dX6_takesWord_11 rfl ?_
  refine ab_getf dX6_takesWord_12 fl_X6_23 rfl rfl ?_
  refine ab_icmpgt 38 dX6_takesWord_15 (by decide) (fun h_1 => ?_) (fun h_1 => ?_)
  · have h_1n := (nI_ltI (a := n) (b := (p + 6)) (by omega) (by omega)).mp h_1
    refine ab_iconst (v := 0) dX6_takesWord_38 (by decide) ?_
    exact ab_zret dX6_takesWord_39 rfl rfl (by decide) (Or.inr (⟨fun z => absurd z.1 (by omega), rfl, rfl⟩))
  · have h_1n : ¬ _ := fun z => h_1 ((nI_ltI (a := n) (b := (p + 6)) (by omega) (by omega)).mpr z)
    refine ab_iload_n dX6_takesWord_18 rfl ?_
    refine ab_aload_n dX6_takesWord_19 rfl ?_
    refine ab_getf dX6_takesWord_20 fl_X6_23 rfl rfl ?_
    refine ab_icmpge 40 dX6_takesWord_23 (by decide) (fun h_2 => ?_) (fun h_2 => ?_)
    · have h_2n := (nI_leI (a := n) (b := (p + 6)) (by omega) (by omega)).mp h_2
      refine ab_iconst (v := 0) dX6_takesWord_40 (by decide) ?_
      refine ab_istore_n (la' := [(3, .int 0), (2, .int (nI (p + 6))), (0, .ref 1), (1, .ref 3001)]) dX6_takesWord_41 (by decide) rfl ?_
      refine ab_iload_n dX6_takesWord_42 rfl ?_
      refine ab_aload_n dX6_takesWord_43 rfl ?_
      refine ab_callT (j := 1) (As := []) (rest := [.int 0]) dX6_takesWord_44 mT_J0_length_8abf5 ml_X6_124 ⟨by decide, by decide, rfl, rfl, rfl⟩ (by decide) rfl rfl (Nat.le_of_ble_eq_true rfl) (by decide) c_slen_1 ?_
      rintro r w' ⟨rfl, rfl⟩
      refine ab_icmpge 77 dX6_takesWord_47 (by decide) (fun h_3 => absurd h_3 (by decide)) (fun h_3 => ?_)
      refine ab_aload_n dX6_takesWord_50 rfl ?_
      refine ab_getf dX6_takesWord_51 fl_X6_11 rfl rfl ?_
      refine ab_aload_n dX6_takesWord_54 rfl ?_
      refine ab_getf dX6_takesWord_55 fl_X6_26 rfl rfl ?_
      refine ab_iload_n dX6_takesWord_58 rfl ?_
      refine ab_iadd dX6_takesWord_59 ?_
      refine ab_topi (v := (nI p)) (Int32.add_zero _) ?_
      refine ab_bald (j := p) dX6_takesWord_60 rfl (ix_nI (by omega) (by decide)) ?_
      refine ab_topi (v := (sgn (u (p + 0)))) (h_u p (by omega)).2 ?_
      refine ab_aload_n dX6_takesWord_61 rfl ?_
      refine ab_iload_n dX6_takesWord_62 rfl ?_
      refine ab_callT (j := 1) (As := [.int 0]) (rest := [.int (sgn (u (p + 0)))]) dX6_takesWord_63 mT_J0_charAt_5068e ml_X6_132 ⟨by decide, by decide, rfl, rfl, rfl⟩ (by decide) rfl rfl (Nat.le_of_ble_eq_true rfl) (by decide) c_chr_1_0 ?_
      rintro r w' ⟨rfl, rfl⟩
      refine ab_icmpeq 71 dX6_takesWord_66 (by decide) (fun h_4 => ?_) (fun h_4 => ?_)
      · refine ab_iinc (v := 1) (la' := [(3, .int 1), (2, .int (nI (p + 6))), (0, .ref 1), (1, .ref 3001)]) dX6_takesWord_71 rfl (by decide) (by decide) rfl ?_
        refine ab_goto 42 dX6_takesWord_74 (by decide) ?_
        refine ab_iload_n dX6_takesWord_42 rfl ?_
        refine ab_aload_n dX6_takesWord_43 rfl ?_
        refine ab_callT (j := 1) (As := []) (rest := [.int 1]) dX6_takesWord_44 mT_J0_length_8abf5 ml_X6_124 ⟨by decide, by decide, rfl, rfl, rfl⟩ (by decide) rfl rfl (Nat.le_of_ble_eq_true rfl) (by decide) c_slen_1 ?_
        rintro r w' ⟨rfl, rfl⟩
        refine ab_icmpge 77 dX6_takesWord_47 (by decide) (fun h_5 => absurd h_5 (by decide)) (fun h_5 => ?_)
        refine ab_aload_n dX6_takesWord_50 rfl ?_
        refine ab_getf dX6_takesWord_51 fl_X6_11 rfl rfl ?_
        refine ab_aload_n dX6_takesWord_54 rfl ?_
        refine ab_getf dX6_takesWord_55 fl_X6_26 rfl rfl ?_
        refine ab_iload_n dX6_takesWord_58 rfl ?_
        refine ab_iadd dX6_takesWord_59 ?_
        refine ab_topi (v := (nI (p + 1))) (nI_1 _) ?_
        refine ab_bald (j := (p + 1)) dX6_takesWord_60 rfl (ix_nI (by omega) (by decide)) ?_
        refine ab_topi (v := (sgn (u (p + 1)))) (h_u (p + 1) (by omega)).2 ?_
        refine ab_aload_n dX6_takesWord_61 rfl ?_
        refine ab_iload_n dX6_takesWord_62 rfl ?_
        refine ab_callT (j := 1) (As := [.int 1]) (rest := [.int (sgn (u (p + 1)))]) dX6_takesWord_63 mT_J0_charAt_5068e ml_X6_132 ⟨by decide, by decide, rfl, rfl, rfl⟩ (by decide) rfl rfl (Nat.le_of_ble_eq_true rfl) (by decide) c_chr_1_1 ?_
        rintro r w' ⟨rfl, rfl⟩
        refine ab_icmpeq 71 dX6_takesWord_66 (by decide) (fun h_6 => ?_) (fun h_6 => ?_)
        · refine ab_iinc (v := 2) (la' := [(3, .int 2), (2, .int (nI (p + 6))), (0, .ref 1), (1, .ref 3001)]) dX6_takesWord_71 rfl (by decide) (by decide) rfl ?_
          refine ab_goto 42 dX6_takesWord_74 (by decide) ?_
          refine ab_iload_n dX6_takesWord_42 rfl ?_
          refine ab_aload_n dX6_takesWord_43 rfl ?_
          refine ab_callT (j := 1) (As := []) (rest := [.int 2]) dX6_takesWord_44 mT_J0_length_8abf5 ml_X6_124 ⟨by decide, by decide, rfl, rfl, rfl⟩ (by decide) rfl rfl (Nat.le_of_ble_eq_true rfl) (by decide) c_slen_1 ?_
          rintro r w' ⟨rfl, rfl⟩
          refine ab_icmpge 77 dX6_takesWord_47 (by decide) (fun h_7 => absurd h_7 (by decide)) (fun h_7 => ?_)
          refine ab_aload_n dX6_takesWord_50 rfl ?_
          refine ab_getf dX6_takesWord_51 fl_X6_11 rfl rfl ?_
          refine ab_aload_n dX6_takesWord_54 rfl ?_
          refine ab_getf dX6_takesWord_55 fl_X6_26 rfl rfl ?_
          refine ab_iload_n dX6_takesWord_58 rfl ?_
          refine ab_iadd dX6_takesWord_59 ?_
          refine ab_topi (v := (nI (p + 2))) (nI_add _ 2) ?_
          refine ab_bald (j := (p + 2)) dX6_takesWord_60 rfl (ix_nI (by omega) (by decide)) ?_
          refine ab_topi (v := (sgn (u (p + 2)))) (h_u (p + 2) (by omega)).2 ?_
          refine ab_aload_n dX6_takesWord_61 rfl ?_
          refine ab_iload_n dX6_takesWord_62 rfl ?_
          refine ab_callT (j := 1) (As := [.int 2]) (rest := [.int (sgn (u (p + 2)))]) dX6_takesWord_63 mT_J0_charAt_5068e ml_X6_132 ⟨by decide, by decide, rfl, rfl, rfl⟩ (by decide) rfl rfl (Nat.le_of_ble_eq_true rfl) (by decide) c_chr_1_2 ?_
          rintro r w' ⟨rfl, rfl⟩
          refine ab_icmpeq 71 dX6_takesWord_66 (by decide) (fun h_8 => ?_) (fun h_8 => ?_)
          · refine ab_iinc (v := 3) (la' := [(3, .int 3), (2, .int (nI (p + 6))), (0, .ref 1), (1, .ref 3001)]) dX6_takesWord_71 rfl (by decide) (by decide) rfl ?_
            refine ab_goto 42 dX6_takesWord_74 (by decide) ?_
            refine ab_iload_n dX6_takesWord_42 rfl ?_
            refine ab_aload_n dX6_takesWord_43 rfl ?_
            refine ab_callT (j := 1) (As := []) (rest := [.int 3]) dX6_takesWord_44 mT_J0_length_8abf5 ml_X6_124 ⟨by decide, by decide, rfl, rfl, rfl⟩ (by decide) rfl rfl (Nat.le_of_ble_eq_true rfl) (by decide) c_slen_1 ?_
            rintro r w' ⟨rfl, rfl⟩
            refine ab_icmpge 77 dX6_takesWord_47 (by decide) (fun h_9 => absurd h_9 (by decide)) (fun h_9 => ?_)
            refine ab_aload_n dX6_takesWord_50 rfl ?_
            refine ab_getf dX6_takesWord_51 fl_X6_11 rfl rfl ?_
            refine ab_aload_n dX6_takesWord_54 rfl ?_
            refine ab_getf dX6_takesWord_55 fl_X6_26 rfl rfl ?_
            refine ab_iload_n dX6_takesWord_58 rfl ?_
            refine ab_iadd dX6_takesWord_59 ?_
            refine ab_topi (v := (nI (p + 3))) (nI_add _ 3) ?_
            refine ab_bald (j := (p + 3)) dX6_takesWord_60 rfl (ix_nI (by omega) (by decide)) ?_
            refine ab_topi (v := (sgn (u (p + 3)))) (h_u (p + 3) (by omega)).2 ?_
            refine ab_aload_n dX6_takesWord_61 rfl ?_
            refine ab_iload_n dX6_takesWord_62 rfl ?_
            refine ab_callT (j := 1) (As := [.int 3]) (rest := [.int (sgn (u (p + 3)))]) dX6_takesWord_63 mT_J0_charAt_5068e ml_X6_132 ⟨by decide, by decide, rfl, rfl, rfl⟩ (by decide) rfl rfl (Nat.le_of_ble_eq_true rfl) (by decide) c_chr_1_3 ?_
            rintro r w' ⟨rfl, rfl⟩
            refine ab_icmpeq 71 dX6_takesWord_66 (by decide) (fun h_10 => ?_) (fun h_10 => ?_)
            · refine ab_iinc (v := 4) (la' := [(3, .int 4), (2, .int (nI (p + 6))), (0, .ref 1), (1, .ref 3001)]) dX6_takesWord_71 rfl (by decide) (by decide) rfl ?_
              refine ab_goto 42 dX6_takesWord_74 (by decide) ?_
              refine ab_iload_n dX6_takesWord_42 rfl ?_
              refine ab_aload_n dX6_takesWord_43 rfl ?_
              refine ab_callT (j := 1) (As := []) (rest := [.int 4]) dX6_takesWord_44 mT_J0_length_8abf5 ml_X6_124 ⟨by decide, by decide, rfl, rfl, rfl⟩ (by decide) rfl rfl (Nat.le_of_ble_eq_true rfl) (by decide) c_slen_1 ?_
              rintro r w' ⟨rfl, rfl⟩
              refine ab_icmpge 77 dX6_takesWord_47 (by decide) (fun h_11 => absurd h_11 (by decide)) (fun h_11 => ?_)
              refine ab_aload_n dX6_takesWord_50 rfl ?_
              refine ab_getf dX6_takesWord_51 fl_X6_11 rfl rfl ?_
              refine ab_aload_n dX6_takesWord_54 rfl ?_
              refine ab_getf dX6_takesWord_55 fl_X6_26 rfl rfl ?_
              refine ab_iload_n dX6_takesWord_58 rfl ?_
              refine ab_iadd dX6_takesWord_59 ?_
              refine ab_topi (v := (nI (p + 4))) (nI_add _ 4) ?_
              refine ab_bald (j := (p + 4)) dX6_takesWord_60 rfl (ix_nI (by omega) (by decide)) ?_
              refine ab_topi (v := (sgn (u (p + 4)))) (h_u (p + 4) (by omega)).2 ?_
              refine ab_aload_n dX6_takesWord_61 rfl ?_
              refine ab_iload_n dX6_takesWord_62 rfl ?_
              refine ab_callT (j := 1) (As := [.int 4]) (rest := [.int (sgn (u (p + 4)))]) dX6_takesWord_63 mT_J0_charAt_5068e ml_X6_132 ⟨by decide, by decide, rfl, rfl, rfl⟩ (by decide) rfl rfl (Nat.le_of_ble_eq_true rfl) (by decide) c_chr_1_4 ?_
              rintro r w' ⟨rfl, rfl⟩
              refine ab_icmpeq 71 dX6_takesWord_66 (by decide) (fun h_12 => ?_) (fun h_12 => ?_)
              · refine ab_iinc (v := 5) (la' := [(3, .int 5), (2, .int (nI (p + 6))), (0, .ref 1), (1, .ref 3001)]) dX6_takesWord_71 rfl (by decide) (by decide) rfl ?_
                refine ab_goto 42 dX6_takesWord_74 (by decide) ?_
                refine ab_iload_n dX6_takesWord_42 rfl ?_
                refine ab_aload_n dX6_takesWord_43 rfl ?_
                refine ab_callT (j := 1) (As := []) (rest := [.int 5]) dX6_takesWord_44 mT_J0_length_8abf5 ml_X6_124 ⟨by decide, by decide, rfl, rfl, rfl⟩ (by decide) rfl rfl (Nat.le_of_ble_eq_true rfl) (by decide) c_slen_1 ?_
                rintro r w' ⟨rfl, rfl⟩
                refine ab_icmpge 77 dX6_takesWord_47 (by decide) (fun h_13 => absurd h_13 (by decide)) (fun h_13 => ?_)
                refine ab_aload_n dX6_takesWord_50 rfl ?_
                refine ab_getf dX6_takesWord_51 fl_X6_11 rfl rfl ?_
                refine ab_aload_n dX6_takesWord_54 rfl ?_
                refine ab_getf dX6_takesWord_55 fl_X6_26 rfl rfl ?_
                refine ab_iload_n dX6_takesWord_58 rfl ?_
                refine ab_iadd dX6_takesWord_59 ?_
                refine ab_topi (v := (nI (p + 5))) (nI_add _ 5) ?_
                refine ab_bald (j := (p + 5)) dX6_takesWord_60 rfl (ix_nI (by omega) (by decide)) ?_
                refine ab_topi (v := (sgn (u (p + 5)))) (h_u (p + 5) (by omega)).2 ?_
                refine ab_aload_n dX6_takesWord_61 rfl ?_
                refine ab_iload_n dX6_takesWord_62 rfl ?_
                refine ab_callT (j := 1) (As := [.int 5]) (rest := [.int (sgn (u (p + 5)))]) dX6_takesWord_63 mT_J0_charAt_5068e ml_X6_132 ⟨by decide, by decide, rfl, rfl, rfl⟩ (by decide) rfl rfl (Nat.le_of_ble_eq_true rfl) (by decide) c_chr_1_5 ?_
                rintro r w' ⟨rfl, rfl⟩
                refine ab_icmpeq 71 dX6_takesWord_66 (by decide) (fun h_14 => ?_) (fun h_14 => ?_)
                · refine ab_iinc (v := 6) (la' := [(3, .int 6), (2, .int (nI (p + 6))), (0, .ref 1), (1, .ref 3001)]) dX6_takesWord_71 rfl (by decide) (by decide) rfl ?_
                  refine ab_goto 42 dX6_takesWord_74 (by decide) ?_
                  refine ab_iload_n dX6_takesWord_42 rfl ?_
                  refine ab_aload_n dX6_takesWord_43 rfl ?_
                  refine ab_callT (j := 1) (As := []) (rest := [.int 6]) dX6_takesWord_44 mT_J0_length_8abf5 ml_X6_124 ⟨by decide, by decide, rfl, rfl, rfl⟩ (by decide) rfl rfl (Nat.le_of_ble_eq_true rfl) (by decide) c_slen_1 ?_
                  rintro r w' ⟨rfl, rfl⟩
                  refine ab_icmpge 77 dX6_takesWord_47 (by decide) (fun h_15 => ?_) (fun h_15 => absurd (by decide) h_15)
                  refine ab_aload_n dX6_takesWord_77 rfl ?_
                  refine ab_iload_n dX6_takesWord_78 rfl ?_
                  refine ab_putf (w1 := ([x0, ob 6 [.ref 2, .ref 3, .int f1_2, .int (nI n), .int (nI (p + 6)), .int f1_5, .int f1_6], ba 700 r2, ia 4 r3, x4, x5, x6, x7, x8, x9, x10, x11, x12, x13, x14, x15, x16, x17, x18, x19, x20, x21, x22, x23, x24, x25, x26, x27, x28, x29, x30, x31, x32], wm)) dX6_takesWord_79 fl_X6_26 rfl (Nat.le_of_ble_eq_true rfl) (fun _ => ⟨rfl, rfl⟩) rfl ?_
                  refine ab_iconst (v := 1) dX6_takesWord_82 (by decide) ?_
                  exact ab_zret dX6_takesWord_83 rfl rfl (by decide) (Or.inl (⟨⟨by omega, (fun z => absurd z.1 (by omega)), (sgn_c (c := 116) (h_u (p + 0) (by omega)).1 (by decide) rfl).mp h_4, (sgn_c (c := 114) (h_u (p + 1) (by omega)).1 (by decide) rfl).mp h_6, (sgn_c (c := 97) (h_u (p + 2) (by omega)).1 (by decide) rfl).mp h_8, (sgn_c (c := 99) (h_u (p + 3) (by omega)).1 (by decide) rfl).mp h_10, (sgn_c (c := 101) (h_u (p + 4) (by omega)).1 (by decide) rfl).mp h_12, (sgn_c (c := 114) (h_u (p + 5) (by omega)).1 (by decide) rfl).mp h_14⟩, rfl, rfl⟩))
                · refine ab_iconst (v := 0) dX6_takesWord_69 (by decide) ?_
                  exact ab_zret dX6_takesWord_70 rfl rfl (by decide) (Or.inr (⟨fun z => h_14 ((sgn_c (c := 114) (h_u (p + 5) (by omega)).1 (by decide) rfl).mpr z.2.2.2.2.2.2.2), rfl, rfl⟩))
              · refine ab_iconst (v := 0) dX6_takesWord_69 (by decide) ?_
                exact ab_zret dX6_takesWord_70 rfl rfl (by decide) (Or.inr (⟨fun z => h_12 ((sgn_c (c := 101) (h_u (p + 4) (by omega)).1 (by decide) rfl).mpr z.2.2.2.2.2.2.1), rfl, rfl⟩))
            · refine ab_iconst (v := 0) dX6_takesWord_69 (by decide) ?_
              exact ab_zret dX6_takesWord_70 rfl rfl (by decide) (Or.inr (⟨fun z => h_10 ((sgn_c (c := 99) (h_u (p + 3) (by omega)).1 (by decide) rfl).mpr z.2.2.2.2.2.1), rfl, rfl⟩))
          · refine ab_iconst (v := 0) dX6_takesWord_69 (by decide) ?_
            exact ab_zret dX6_takesWord_70 rfl rfl (by decide) (Or.inr (⟨fun z => h_8 ((sgn_c (c := 97) (h_u (p + 2) (by omega)).1 (by decide) rfl).mpr z.2.2.2.2.1), rfl, rfl⟩))
        · refine ab_iconst (v := 0) dX6_takesWord_69 (by decide) ?_
          exact ab_zret dX6_takesWord_70 rfl rfl (by decide) (Or.inr (⟨fun z => h_6 ((sgn_c (c := 114) (h_u (p + 1) (by omega)).1 (by decide) rfl).mpr z.2.2.2.1), rfl, rfl⟩))
      · refine ab_iconst (v := 0) dX6_takesWord_69 (by decide) ?_
        exact ab_zret dX6_takesWord_70 rfl rfl (by decide) (Or.inr (⟨fun z => h_4 ((sgn_c (c := 116) (h_u (p + 0) (by omega)).1 (by decide) rfl).mpr z.2.2.1), rfl, rfl⟩))
    · have h_2n : ¬ _ := fun z => h_2 ((nI_leI (a := n) (b := (p + 6)) (by omega) (by omega)).mpr z)
      refine ab_aload_n dX6_takesWord_26 rfl ?_
      refine ab_getf dX6_takesWord_27 fl_X6_11 rfl rfl ?_
      refine ab_iload_n dX6_takesWord_30 rfl ?_
      refine ab_bald (j := (p + 6)) dX6_takesWord_31 rfl (ix_nI (by omega) (by decide)) ?_
      refine ab_topi (v := (sgn (u (p + 6)))) (h_u (p + 6) (by omega)).2 ?_
      refine ab_callS (As := [.int (sgn (u (p + 6)))]) (rest := []) dX6_takesWord_32 ms_X6_isLetter ml_X6_129 ⟨by decide, by decide, rfl, rfl, rfl⟩ (by decide) rfl rfl (Nat.le_of_ble_eq_true rfl) c_X6_isLetter ?_
      rintro r w' (⟨c_16, rfl, rfl⟩ | ⟨c_17, rfl, rfl⟩)
      · refine ab_ifeq 40 dX6_takesWord_35 (by decide) (fun h_18 => absurd h_18 (by decide)) (fun h_18 => ?_)
        refine ab_iconst (v := 0) dX6_takesWord_38 (by decide) ?_
        exact ab_zret dX6_takesWord_39 rfl rfl (by decide) (Or.inr (⟨fun z => z.2.1 ⟨by omega, (isL_s (h_u _ (by omega)).1).mp c_16⟩, rfl, rfl⟩))
      · refine ab_ifeq 40 dX6_takesWord_35 (by decide) (fun h_19 => ?_) (fun h_19 => absurd (by decide) h_19)
        refine ab_iconst (v := 0) dX6_takesWord_40 (by decide) ?_
        refine ab_istore_n (la' := [(3, .int 0), (2, .int (nI (p + 6))), (0, .ref 1), (1, .ref 3001)]) dX6_takesWord_41 (by decide) rfl ?_
        refine ab_iload_n dX6_takesWord_42 rfl ?_
        refine ab_aload_n dX6_takesWord_43 rfl ?_
        refine ab_callT (j := 1) (As := []) (rest := [.int 0]) dX6_takesWord_44 mT_J0_length_8abf5 ml_X6_124 ⟨by decide, by decide, rfl, rfl, rfl⟩ (by decide) rfl rfl (Nat.le_of_ble_eq_true rfl) (by decide) c_slen_1 ?_
        rintro r w' ⟨rfl, rfl⟩
        refine ab_icmpge 77 dX6_takesWord_47 (by decide) (fun h_20 => absurd h_20 (by decide)) (fun h_20 => ?_)
        refine ab_aload_n dX6_takesWord_50 rfl ?_
        refine ab_getf dX6_takesWord_51 fl_X6_11 rfl rfl ?_
        refine ab_aload_n dX6_takesWord_54 rfl ?_
        refine ab_getf dX6_takesWord_55 fl_X6_26 rfl rfl ?_
        refine ab_iload_n dX6_takesWord_58 rfl ?_
        refine ab_iadd dX6_takesWord_59 ?_
        refine ab_topi (v := (nI p)) (Int32.add_zero _) ?_
        refine ab_bald (j := p) dX6_takesWord_60 rfl (ix_nI (by omega) (by decide)) ?_
        refine ab_topi (v := (sgn (u (p + 0)))) (h_u p (by omega)).2 ?_
        refine ab_aload_n dX6_takesWord_61 rfl ?_
        refine ab_iload_n dX6_takesWord_62 rfl ?_
        refine ab_callT (j := 1) (As := [.int 0]) (rest := [.int (sgn (u (p + 0)))]) dX6_takesWord_63 mT_J0_charAt_5068e ml_X6_132 ⟨by decide, by decide, rfl, rfl, rfl⟩ (by decide) rfl rfl (Nat.le_of_ble_eq_true rfl) (by decide) c_chr_1_0 ?_
        rintro r w' ⟨rfl, rfl⟩
        refine ab_icmpeq 71 dX6_takesWord_66 (by decide) (fun h_21 => ?_) (fun h_21 => ?_)
        · refine ab_iinc (v := 1) (la' := [(3, .int 1), (2, .int (nI (p + 6))), (0, .ref 1), (1, .ref 3001)]) dX6_takesWord_71 rfl (by decide) (by decide) rfl ?_
          refine ab_goto 42 dX6_takesWord_74 (by decide) ?_
          refine ab_iload_n dX6_takesWord_42 rfl ?_
          refine ab_aload_n dX6_takesWord_43 rfl ?_
          refine ab_callT (j := 1) (As := []) (rest := [.int 1]) dX6_takesWord_44 mT_J0_length_8abf5 ml_X6_124 ⟨by decide, by decide, rfl, rfl, rfl⟩ (by decide) rfl rfl (Nat.le_of_ble_eq_true rfl) (by decide) c_slen_1 ?_
          rintro r w' ⟨rfl, rfl⟩
          refine ab_icmpge 77 dX6_takesWord_47 (by decide) (fun h_22 => absurd h_22 (by decide)) (fun h_22 => ?_)
          refine ab_aload_n dX6_takesWord_50 rfl ?_
          refine ab_getf dX6_takesWord_51 fl_X6_11 rfl rfl ?_
          refine ab_aload_n dX6_takesWord_54 rfl ?_
          refine ab_getf dX6_takesWord_55 fl_X6_26 rfl rfl ?_
          refine ab_iload_n dX6_takesWord_58 rfl ?_
          refine ab_iadd dX6_takesWord_59 ?_
          refine ab_topi (v := (nI (p + 1))) (nI_1 _) ?_
          refine ab_bald (j := (p + 1)) dX6_takesWord_60 rfl (ix_nI (by omega) (by decide)) ?_
          refine ab_topi (v := (sgn (u (p + 1)))) (h_u (p + 1) (by omega)).2 ?_
          refine ab_aload_n dX6_takesWord_61 rfl ?_
          refine ab_iload_n dX6_takesWord_62 rfl ?_
          refine ab_callT (j := 1) (As := [.int 1]) (rest := [.int (sgn (u (p + 1)))]) dX6_takesWord_63 mT_J0_charAt_5068e ml_X6_132 ⟨by decide, by decide, rfl, rfl, rfl⟩ (by decide) rfl rfl (Nat.le_of_ble_eq_true rfl) (by decide) c_chr_1_1 ?_
          rintro r w' ⟨rfl, rfl⟩
          refine ab_icmpeq 71 dX6_takesWord_66 (by decide) (fun h_23 => ?_) (fun h_23 => ?_)
          · refine ab_iinc (v := 2) (la' := [(3, .int 2), (2, .int (nI (p + 6))), (0, .ref 1), (1, .ref 3001)]) dX6_takesWord_71 rfl (by decide) (by decide) rfl ?_
            refine ab_goto 42 dX6_takesWord_74 (by decide) ?_
            refine ab_iload_n dX6_takesWord_42 rfl ?_
            refine ab_aload_n dX6_takesWord_43 rfl ?_
            refine ab_callT (j := 1) (As := []) (rest := [.int 2]) dX6_takesWord_44 mT_J0_length_8abf5 ml_X6_124 ⟨by decide, by decide, rfl, rfl, rfl⟩ (by decide) rfl rfl (Nat.le_of_ble_eq_true rfl) (by decide) c_slen_1 ?_
            rintro r w' ⟨rfl, rfl⟩
            refine ab_icmpge 77 dX6_takesWord_47 (by decide) (fun h_24 => absurd h_24 (by decide)) (fun h_24 => ?_)
            refine ab_aload_n dX6_takesWord_50 rfl ?_
            refine ab_getf dX6_takesWord_51 fl_X6_11 rfl rfl ?_
            refine ab_aload_n dX6_takesWord_54 rfl ?_
            refine ab_getf dX6_takesWord_55 fl_X6_26 rfl rfl ?_
            refine ab_iload_n dX6_takesWord_58 rfl ?_
            refine ab_iadd dX6_takesWord_59 ?_
            refine ab_topi (v := (nI (p + 2))) (nI_add _ 2) ?_
            refine ab_bald (j := (p + 2)) dX6_takesWord_60 rfl (ix_nI (by omega) (by decide)) ?_
            refine ab_topi (v := (sgn (u (p + 2)))) (h_u (p + 2) (by omega)).2 ?_
            refine ab_aload_n dX6_takesWord_61 rfl ?_
            refine ab_iload_n dX6_takesWord_62 rfl ?_
            refine ab_callT (j := 1) (As := [.int 2]) (rest := [.int (sgn (u (p + 2)))]) dX6_takesWord_63 mT_J0_charAt_5068e ml_X6_132 ⟨by decide, by decide, rfl, rfl, rfl⟩ (by decide) rfl rfl (Nat.le_of_ble_eq_true rfl) (by decide) c_chr_1_2 ?_
            rintro r w' ⟨rfl, rfl⟩
            refine ab_icmpeq 71 dX6_takesWord_66 (by decide) (fun h_25 => ?_) (fun h_25 => ?_)
            · refine ab_iinc (v := 3) (la' := [(3, .int 3), (2, .int (nI (p + 6))), (0, .ref 1), (1, .ref 3001)]) dX6_takesWord_71 rfl (by decide) (by decide) rfl ?_
              refine ab_goto 42 dX6_takesWord_74 (by decide) ?_
              refine ab_iload_n dX6_takesWord_42 rfl ?_
              refine ab_aload_n dX6_takesWord_43 rfl ?_
              refine ab_callT (j := 1) (As := []) (rest := [.int 3]) dX6_takesWord_44 mT_J0_length_8abf5 ml_X6_124 ⟨by decide, by decide, rfl, rfl, rfl⟩ (by decide) rfl rfl (Nat.le_of_ble_eq_true rfl) (by decide) c_slen_1 ?_
              rintro r w' ⟨rfl, rfl⟩
              refine ab_icmpge 77 dX6_takesWord_47 (by decide) (fun h_26 => absurd h_26 (by decide)) (fun h_26 => ?_)
              refine ab_aload_n dX6_takesWord_50 rfl ?_
              refine ab_getf dX6_takesWord_51 fl_X6_11 rfl rfl ?_
              refine ab_aload_n dX6_takesWord_54 rfl ?_
              refine ab_getf dX6_takesWord_55 fl_X6_26 rfl rfl ?_
              refine ab_iload_n dX6_takesWord_58 rfl ?_
              refine ab_iadd dX6_takesWord_59 ?_
              refine ab_topi (v := (nI (p + 3))) (nI_add _ 3) ?_
              refine ab_bald (j := (p + 3)) dX6_takesWord_60 rfl (ix_nI (by omega) (by decide)) ?_
              refine ab_topi (v := (sgn (u (p + 3)))) (h_u (p + 3) (by omega)).2 ?_
              refine ab_aload_n dX6_takesWord_61 rfl ?_
              refine ab_iload_n dX6_takesWord_62 rfl ?_
              refine ab_callT (j := 1) (As := [.int 3]) (rest := [.int (sgn (u (p + 3)))]) dX6_takesWord_63 mT_J0_charAt_5068e ml_X6_132 ⟨by decide, by decide, rfl, rfl, rfl⟩ (by decide) rfl rfl (Nat.le_of_ble_eq_true rfl) (by decide) c_chr_1_3 ?_
              rintro r w' ⟨rfl, rfl⟩
              refine ab_icmpeq 71 dX6_takesWord_66 (by decide) (fun h_27 => ?_) (fun h_27 => ?_)
              · refine ab_iinc (v := 4) (la' := [(3, .int 4), (2, .int (nI (p + 6))), (0, .ref 1), (1, .ref 3001)]) dX6_takesWord_71 rfl (by decide) (by decide) rfl ?_
                refine ab_goto 42 dX6_takesWord_74 (by decide) ?_
                refine ab_iload_n dX6_takesWord_42 rfl ?_
                refine ab_aload_n dX6_takesWord_43 rfl ?_
                refine ab_callT (j := 1) (As := []) (rest := [.int 4]) dX6_takesWord_44 mT_J0_length_8abf5 ml_X6_124 ⟨by decide, by decide, rfl, rfl, rfl⟩ (by decide) rfl rfl (Nat.le_of_ble_eq_true rfl) (by decide) c_slen_1 ?_
                rintro r w' ⟨rfl, rfl⟩
                refine ab_icmpge 77 dX6_takesWord_47 (by decide) (fun h_28 => absurd h_28 (by decide)) (fun h_28 => ?_)
                refine ab_aload_n dX6_takesWord_50 rfl ?_
                refine ab_getf dX6_takesWord_51 fl_X6_11 rfl rfl ?_
                refine ab_aload_n dX6_takesWord_54 rfl ?_
                refine ab_getf dX6_takesWord_55 fl_X6_26 rfl rfl ?_
                refine ab_iload_n dX6_takesWord_58 rfl ?_
                refine ab_iadd dX6_takesWord_59 ?_
                refine ab_topi (v := (nI (p + 4))) (nI_add _ 4) ?_
                refine ab_bald (j := (p + 4)) dX6_takesWord_60 rfl (ix_nI (by omega) (by decide)) ?_
                refine ab_topi (v := (sgn (u (p + 4)))) (h_u (p + 4) (by omega)).2 ?_
                refine ab_aload_n dX6_takesWord_61 rfl ?_
                refine ab_iload_n dX6_takesWord_62 rfl ?_
                refine ab_callT (j := 1) (As := [.int 4]) (rest := [.int (sgn (u (p + 4)))]) dX6_takesWord_63 mT_J0_charAt_5068e ml_X6_132 ⟨by decide, by decide, rfl, rfl, rfl⟩ (by decide) rfl rfl (Nat.le_of_ble_eq_true rfl) (by decide) c_chr_1_4 ?_
                rintro r w' ⟨rfl, rfl⟩
                refine ab_icmpeq 71 dX6_takesWord_66 (by decide) (fun h_29 => ?_) (fun h_29 => ?_)
                · refine ab_iinc (v := 5) (la' := [(3, .int 5), (2, .int (nI (p + 6))), (0, .ref 1), (1, .ref 3001)]) dX6_takesWord_71 rfl (by decide) (by decide) rfl ?_
                  refine ab_goto 42 dX6_takesWord_74 (by decide) ?_
                  refine ab_iload_n dX6_takesWord_42 rfl ?_
                  refine ab_aload_n dX6_takesWord_43 rfl ?_
                  refine ab_callT (j := 1) (As := []) (rest := [.int 5]) dX6_takesWord_44 mT_J0_length_8abf5 ml_X6_124 ⟨by decide, by decide, rfl, rfl, rfl⟩ (by decide) rfl rfl (Nat.le_of_ble_eq_true rfl) (by decide) c_slen_1 ?_
                  rintro r w' ⟨rfl, rfl⟩
                  refine ab_icmpge 77 dX6_takesWord_47 (by decide) (fun h_30 => absurd h_30 (by decide)) (fun h_30 => ?_)
                  refine ab_aload_n dX6_takesWord_50 rfl ?_
                  refine ab_getf dX6_takesWord_51 fl_X6_11 rfl rfl ?_
                  refine ab_aload_n dX6_takesWord_54 rfl ?_
                  refine ab_getf dX6_takesWord_55 fl_X6_26 rfl rfl ?_
                  refine ab_iload_n dX6_takesWord_58 rfl ?_
                  refine ab_iadd dX6_takesWord_59 ?_
                  refine ab_topi (v := (nI (p + 5))) (nI_add _ 5) ?_
                  refine ab_bald (j := (p + 5)) dX6_takesWord_60 rfl (ix_nI (by omega) (by decide)) ?_
                  refine ab_topi (v := (sgn (u (p + 5)))) (h_u (p + 5) (by omega)).2 ?_
                  refine ab_aload_n dX6_takesWord_61 rfl ?_
                  refine ab_iload_n dX6_takesWord_62 rfl ?_
                  refine ab_callT (j := 1) (As := [.int 5]) (rest := [.int (sgn (u (p + 5)))]) dX6_takesWord_63 mT_J0_charAt_5068e ml_X6_132 ⟨by decide, by decide, rfl, rfl, rfl⟩ (by decide) rfl rfl (Nat.le_of_ble_eq_true rfl) (by decide) c_chr_1_5 ?_
                  rintro r w' ⟨rfl, rfl⟩
                  refine ab_icmpeq 71 dX6_takesWord_66 (by decide) (fun h_31 => ?_) (fun h_31 => ?_)
                  · refine ab_iinc (v := 6) (la' := [(3, .int 6), (2, .int (nI (p + 6))), (0, .ref 1), (1, .ref 3001)]) dX6_takesWord_71 rfl (by decide) (by decide) rfl ?_
                    refine ab_goto 42 dX6_takesWord_74 (by decide) ?_
                    refine ab_iload_n dX6_takesWord_42 rfl ?_
                    refine ab_aload_n dX6_takesWord_43 rfl ?_
                    refine ab_callT (j := 1) (As := []) (rest := [.int 6]) dX6_takesWord_44 mT_J0_length_8abf5 ml_X6_124 ⟨by decide, by decide, rfl, rfl, rfl⟩ (by decide) rfl rfl (Nat.le_of_ble_eq_true rfl) (by decide) c_slen_1 ?_
                    rintro r w' ⟨rfl, rfl⟩
                    refine ab_icmpge 77 dX6_takesWord_47 (by decide) (fun h_32 => ?_) (fun h_32 => absurd (by decide) h_32)
                    refine ab_aload_n dX6_takesWord_77 rfl ?_
                    refine ab_iload_n dX6_takesWord_78 rfl ?_
                    refine ab_putf (w1 := ([x0, ob 6 [.ref 2, .ref 3, .int f1_2, .int (nI n), .int (nI (p + 6)), .int f1_5, .int f1_6], ba 700 r2, ia 4 r3, x4, x5, x6, x7, x8, x9, x10, x11, x12, x13, x14, x15, x16, x17, x18, x19, x20, x21, x22, x23, x24, x25, x26, x27, x28, x29, x30, x31, x32], wm)) dX6_takesWord_79 fl_X6_26 rfl (Nat.le_of_ble_eq_true rfl) (fun _ => ⟨rfl, rfl⟩) rfl ?_
                    refine ab_iconst (v := 1) dX6_takesWord_82 (by decide) ?_
                    exact ab_zret dX6_takesWord_83 rfl rfl (by decide) (Or.inl (⟨⟨by omega, (fun z => c_17 ((isL_s (h_u _ (by omega)).1).mpr z.2)), (sgn_c (c := 116) (h_u (p + 0) (by omega)).1 (by decide) rfl).mp h_21, (sgn_c (c := 114) (h_u (p + 1) (by omega)).1 (by decide) rfl).mp h_23, (sgn_c (c := 97) (h_u (p + 2) (by omega)).1 (by decide) rfl).mp h_25, (sgn_c (c := 99) (h_u (p + 3) (by omega)).1 (by decide) rfl).mp h_27, (sgn_c (c := 101) (h_u (p + 4) (by omega)).1 (by decide) rfl).mp h_29, (sgn_c (c := 114) (h_u (p + 5) (by omega)).1 (by decide) rfl).mp h_31⟩, rfl, rfl⟩))
                  · refine ab_iconst (v := 0) dX6_takesWord_69 (by decide) ?_
                    exact ab_zret dX6_takesWord_70 rfl rfl (by decide) (Or.inr (⟨fun z => h_31 ((sgn_c (c := 114) (h_u (p + 5) (by omega)).1 (by decide) rfl).mpr z.2.2.2.2.2.2.2), rfl, rfl⟩))
                · refine ab_iconst (v := 0) dX6_takesWord_69 (by decide) ?_
                  exact ab_zret dX6_takesWord_70 rfl rfl (by decide) (Or.inr (⟨fun z => h_29 ((sgn_c (c := 101) (h_u (p + 4) (by omega)).1 (by decide) rfl).mpr z.2.2.2.2.2.2.1), rfl, rfl⟩))
              · refine ab_iconst (v := 0) dX6_takesWord_69 (by decide) ?_
                exact ab_zret dX6_takesWord_70 rfl rfl (by decide) (Or.inr (⟨fun z => h_27 ((sgn_c (c := 99) (h_u (p + 3) (by omega)).1 (by decide) rfl).mpr z.2.2.2.2.2.1), rfl, rfl⟩))
            · refine ab_iconst (v := 0) dX6_takesWord_69 (by decide) ?_
              exact ab_zret dX6_takesWord_70 rfl rfl (by decide) (Or.inr (⟨fun z => h_25 ((sgn_c (c := 97) (h_u (p + 2) (by omega)).1 (by decide) rfl).mpr z.2.2.2.2.1), rfl, rfl⟩))
          · refine ab_iconst (v := 0) dX6_takesWord_69 (by decide) ?_
            exact ab_zret dX6_takesWord_70 rfl rfl (by decide) (Or.inr (⟨fun z => h_23 ((sgn_c (c := 114) (h_u (p + 1) (by omega)).1 (by decide) rfl).mpr z.2.2.2.1), rfl, rfl⟩))
        · refine ab_iconst (v := 0) dX6_takesWord_69 (by decide) ?_
          exact ab_zret dX6_takesWord_70 rfl rfl (by decide) (Or.inr (⟨fun z => h_21 ((sgn_c (c := 116) (h_u (p + 0) (by omega)).1 (by decide) rfl).mpr z.2.2.1), rfl, rfl⟩))
theorem c_X6_takesWord_2 {x0 x4 x5 x6 x7 x8 x9 x10 x11 x12 x13 x14 x15 x16 x17 x18 x19 x20 x21 x22 x23 x24 x25 x26 x27 x28 x29 x30 x31 x32 : ax_E} {f1_2 f1_5 f1_6 : Int32} {r2 r3 : Nat → Int32} {wm : List ax_E} {u : Nat → Nat} {n p : Nat} (h_n : n ≤ 700) (h_u : ∀ k, k < 700 → u k < 256 ∧ r2 k = sgn (u k)) (h_p : p ≤ n) : Ct M_X6_takesWord [.ref 1, .ref 3002] ([x0, ob 6 [.ref 2, .ref 3, .int f1_2, .int (nI n), .int (nI p), .int f1_5, .int f1_6], ba 700 r2, ia 4 r3, x4, x5, x6, x7, x8, x9, x10, x11, x12, x13, x14, x15, x16, x17, x18, x19, x20, x21, x22, x23, x24, x25, x26, x27, x28, x29, x30, x31, x32], wm) (fun r w' => ((wd_2 u n p) ∧ r = some (.int 1) ∧ w' = ([x0, ob 6 [.ref 2, .ref 3, .int f1_2, .int (nI n), .int (nI (p + 5)), .int f1_5, .int f1_6], ba 700 r2, ia 4 r3, x4, x5, x6, x7, x8, x9, x10, x11, x12, x13, x14, x15, x16, x17, x18, x19, x20, x21, x22, x23, x24, x25, x26, x27, x28, x29, x30, x31, x32], wm)) ∨ ((¬ wd_2 u n p) ∧ r = some (.int 0) ∧ w' = ([x0, ob 6 [.ref 2, .ref 3, .int f1_2, .int (nI n), .int (nI p), .int f1_5, .int f1_6], ba 700 r2, ia 4 r3, x4, x5, x6, x7, x8, x9, x10, x11, x12, x13, x14, x15, x16, x17, x18, x19, x20, x21, x22, x23, x24, x25, x26, x27, x28, x29, x30, x31, x32], wm))) := by
  refine ct_of ⟨by decide, rfl⟩ (Nat.le_of_ble_eq_true rfl) ?_
  refine ab_aload_n dX6_takesWord_0 rfl ?_
  refine ab_getf dX6_takesWord_1 fl_X6_26 rfl rfl ?_
  refine ab_aload_n dX6_takesWord_4 rfl ?_
  refine ab_callT (j := 2) (As := []) (rest := [.int (nI p)]) dX6_takesWord_5 mT_J0_length_8abf5 ml_X6_124 ⟨by decide, by decide, rfl, rfl, rfl⟩ (by decide) rfl rfl (Nat.le_of_ble_eq_true rfl) (by decide) c_slen_2 ?_
  rintro r w' ⟨rfl, rfl⟩
  refine ab_iadd dX6_takesWord_8 ?_
  refine ab_topi (v := (nI (p + 5))) (nI_add _ 5) ?_
  refine ab_istore_n (la' := [(2, .int (nI (p + 5))), (0, .ref 1), (1, .ref 3002)]) dX6_takesWord_9 (by decide) rfl ?_
  refine ab_iload_n dX6_takesWord_10 rfl ?_
  refine ab_aload_n dX6_takesWord_11 rfl ?_
  refine ab_getf dX6_takesWord_12 fl_X6_23 rfl rfl ?_
  refine ab_icmpgt 38 dX6_takesWord_15 (by decide) (fun h_1 => ?_) (fun h_1 => ?_)
  · have h_1n := (nI_ltI (a := n) (b := (p + 5)) (by omega) (by omega)).mp h_1
    refine ab_iconst (v := 0) dX6_takesWord_38 (by decide) ?_
    exact ab_zret dX6_takesWord_39 rfl rfl (by decide) (Or.inr (⟨fun z => absurd z.1 (by omega), rfl, rfl⟩))
  · have h_1n : ¬ _ := fun z => h_1 ((nI_ltI (a := n) (b := (p + 5)) (by omega) (by omega)).mpr z)
    refine ab_iload_n dX6_takesWord_18 rfl ?_
    refine ab_aload_n dX6_takesWord_19 rfl ?_
    refine ab_getf dX6_takesWord_20 fl_X6_23 rfl rfl ?_
    refine ab_icmpge 40 dX6_takesWord_23 (by decide) (fun h_2 => ?_) (fun h_2 => ?_)
    · have h_2n := (nI_leI (a := n) (b := (p + 5)) (by omega) (by omega)).mp h_2
      refine ab_iconst (v := 0) dX6_takesWord_40 (by decide) ?_
      refine ab_istore_n (la' := [(3, .int 0), (2, .int (nI (p + 5))), (0, .ref 1), (1, .ref 3002)]) dX6_takesWord_41 (by decide) rfl ?_
      refine ab_iload_n dX6_takesWord_42 rfl ?_
      refine ab_aload_n dX6_takesWord_43 rfl ?_
      refine ab_callT (j := 2) (As := []) (rest := [.int 0]) dX6_takesWord_44 mT_J0_length_8abf5 ml_X6_124 ⟨by decide, by decide, rfl, rfl, rfl⟩ (by decide) rfl rfl (Nat.le_of_ble_eq_true rfl) (by decide) c_slen_2 ?_
      rintro r w' ⟨rfl, rfl⟩
      refine ab_icmpge 77 dX6_takesWord_47 (by decide) (fun h_3 => absurd h_3 (by decide)) (fun h_3 => ?_)
      refine ab_aload_n dX6_takesWord_50 rfl ?_
      refine ab_getf dX6_takesWord_51 fl_X6_11 rfl rfl ?_
      refine ab_aload_n dX6_takesWord_54 rfl ?_
      refine ab_getf dX6_takesWord_55 fl_X6_26 rfl rfl ?_
      refine ab_iload_n dX6_takesWord_58 rfl ?_
      refine ab_iadd dX6_takesWord_59 ?_
      refine ab_topi (v := (nI p)) (Int32.add_zero _) ?_
      refine ab_bald (j := p) dX6_takesWord_60 rfl (ix_nI (by omega) (by decide)) ?_
      refine ab_topi (v := (sgn (u (p + 0)))) (h_u p (by omega)).2 ?_
      refine ab_aload_n dX6_takesWord_61 rfl ?_
      refine ab_iload_n dX6_takesWord_62 rfl ?_
      refine ab_callT (j := 2) (As := [.int 0]) (rest := [.int (sgn (u (p + 0)))]) dX6_takesWord_63 mT_J0_charAt_5068e ml_X6_132 ⟨by decide, by decide, rfl, rfl, rfl⟩ (by decide) rfl rfl (Nat.le_of_ble_eq_true rfl) (by decide) c_chr_2_0 ?_
      rintro r w' ⟨rfl, rfl⟩
      refine ab_icmpeq 71 dX6_takesWord_66 (by decide) (fun h_4 => ?_) (fun h_4 => ?_)
      · refine ab_iinc (v := 1) (la' := [(3, .int 1), (2, .int (nI (p + 5))), (0, .ref 1), (1, .ref 3002)]) dX6_takesWord_71 rfl (by decide) (by decide) rfl ?_
        refine ab_goto 42 dX6_takesWord_74 (by decide) ?_
        refine ab_iload_n dX6_takesWord_42 rfl ?_
        refine ab_aload_n dX6_takesWord_43 rfl ?_
        refine ab_callT (j := 2) (As := []) (rest := [.int 1]) dX6_takesWord_44 mT_J0_length_8abf5 ml_X6_124 ⟨by decide, by decide, rfl, rfl, rfl⟩ (by decide) rfl rfl (Nat.le_of_ble_eq_true rfl) (by decide) c_slen_2 ?_
        rintro r w' ⟨rfl, rfl⟩
        refine ab_icmpge 77 dX6_takesWord_47 (by decide) (fun h_5 => absurd h_5 (by decide)) (fun h_5 => ?_)
        refine ab_aload_n dX6_takesWord_50 rfl ?_
        refine ab_getf dX6_takesWord_51 fl_X6_11 rfl rfl ?_
        refine ab_aload_n dX6_takesWord_54 rfl ?_
        refine ab_getf dX6_takesWord_55 fl_X6_26 rfl rfl ?_
        refine ab_iload_n dX6_takesWord_58 rfl ?_
        refine ab_iadd dX6_takesWord_59 ?_
        refine ab_topi (v := (nI (p + 1))) (nI_1 _) ?_
        refine ab_bald (j := (p + 1)) dX6_takesWord_60 rfl (ix_nI (by omega) (by decide)) ?_
        refine ab_topi (v := (sgn (u (p + 1)))) (h_u (p + 1) (by omega)).2 ?_
        refine ab_aload_n dX6_takesWord_61 rfl ?_
        refine ab_iload_n dX6_takesWord_62 rfl ?_
        refine ab_callT (j := 2) (As := [.int 1]) (rest := [.int (sgn (u (p + 1)))]) dX6_takesWord_63 mT_J0_charAt_5068e ml_X6_132 ⟨by decide, by decide, rfl, rfl, rfl⟩ (by decide) rfl rfl (Nat.le_of_ble_eq_true rfl) (by decide) c_chr_2_1 ?_
        rintro r w' ⟨rfl, rfl⟩
        refine ab_icmpeq 71 dX6_takesWord_66 (by decide) (fun h_6 => ?_) (fun h_6 => ?_)
        · refine ab_iinc (v := 2) (la' := [(3, .int 2), (2, .int (nI (p + 5))), (0, .ref 1), (1, .ref 3002)]) dX6_takesWord_71 rfl (by decide) (by decide) rfl ?_
          refine ab_goto 42 dX6_takesWord_74 (by decide) ?_
          refine ab_iload_n dX6_takesWord_42 rfl ?_
          refine ab_aload_n dX6_takesWord_43 rfl ?_
          refine ab_callT (j := 2) (As := []) (rest := [.int 2]) dX6_takesWord_44 mT_J0_length_8abf5 ml_X6_124 ⟨by decide, by decide, rfl, rfl, rfl⟩ (by decide) rfl rfl (Nat.le_of_ble_eq_true rfl) (by decide) c_slen_2 ?_
          rintro r w' ⟨rfl, rfl⟩
          refine ab_icmpge 77 dX6_takesWord_47 (by decide) (fun h_7 => absurd h_7 (by decide)) (fun h_7 => ?_)
          refine ab_aload_n dX6_takesWord_50 rfl ?_
          refine ab_getf dX6_takesWord_51 fl_X6_11 rfl rfl ?_
          refine ab_aload_n dX6_takesWord_54 rfl ?_
          refine ab_getf dX6_takesWord_55 fl_X6_26 rfl rfl ?_
          refine ab_iload_n dX6_takesWord_58 rfl ?_
          refine ab_iadd dX6_takesWord_59 ?_
          refine ab_topi (v := (nI (p + 2))) (nI_add _ 2) ?_
          refine ab_bald (j := (p + 2)) dX6_takesWord_60 rfl (ix_nI (by omega) (by decide)) ?_
          refine ab_topi (v := (sgn (u (p + 2)))) (h_u (p + 2) (by omega)).2 ?_
          refine ab_aload_n dX6_takesWord_61 rfl ?_
          refine ab_iload_n dX6_takesWord_62 rfl ?_
          refine ab_callT (j := 2) (As := [.int 2]) (rest := [.int (sgn (u (p + 2)))]) dX6_takesWord_63 mT_J0_charAt_5068e ml_X6_132 ⟨by decide, by decide, rfl, rfl, rfl⟩ (by decide) rfl rfl (Nat.le_of_ble_eq_true rfl) (by decide) c_chr_2_2 ?_
          rintro r w' ⟨rfl, rfl⟩
          refine ab_icmpeq 71 dX6_takesWord_66 (by decide) (fun h_8 => ?_) (fun h_8 => ?_)
          · refine ab_iinc (v := 3) (la' := [(3, .int 3), (2, .int (nI (p + 5))), (0, .ref 1), (1, .ref 3002)]) dX6_takesWord_71 rfl (by decide) (by decide) rfl ?_
            refine ab_goto 42 dX6_takesWord_74 (by decide) ?_
            refine ab_iload_n dX6_takesWord_42 rfl ?_
            refine ab_aload_n dX6_takesWord_43 rfl ?_
            refine ab_callT (j := 2) (As := []) (rest := [.int 3]) dX6_takesWord_44 mT_J0_length_8abf5 ml_X6_124 ⟨by decide, by decide, rfl, rfl, rfl⟩ (by decide) rfl rfl (Nat.le_of_ble_eq_true rfl) (by decide) c_slen_2 ?_
            rintro r w' ⟨rfl, rfl⟩
            refine ab_icmpge 77 dX6_takesWord_47 (by decide) (fun h_9 => absurd h_9 (by decide)) (fun h_9 => ?_)
            refine ab_aload_n dX6_takesWord_50 rfl ?_
            refine ab_getf dX6_takesWord_51 fl_X6_11 rfl rfl ?_
            refine ab_aload_n dX6_takesWord_54 rfl ?_
            refine ab_getf dX6_takesWord_55 fl_X6_26 rfl rfl ?_
            refine ab_iload_n dX6_takesWord_58 rfl ?_
            refine ab_iadd dX6_takesWord_59 ?_
            refine ab_topi (v := (nI (p + 3))) (nI_add _ 3) ?_
            refine ab_bald (j := (p + 3)) dX6_takesWord_60 rfl (ix_nI (by omega) (by decide)) ?_
            refine ab_topi (v := (sgn (u (p + 3)))) (h_u (p + 3) (by omega)).2 ?_
            refine ab_aload_n dX6_takesWord_61 rfl ?_
            refine ab_iload_n dX6_takesWord_62 rfl ?_
            refine ab_callT (j := 2) (As := [.int 3]) (rest := [.int (sgn (u (p + 3)))]) dX6_takesWord_63 mT_J0_charAt_5068e ml_X6_132 ⟨by decide, by decide, rfl, rfl, rfl⟩ (by decide) rfl rfl (Nat.le_of_ble_eq_true rfl) (by decide) c_chr_2_3 ?_
            rintro r w' ⟨rfl, rfl⟩
            refine ab_icmpeq 71 dX6_takesWord_66 (by decide) (fun h_10 => ?_) (fun h_10 => ?_)
            · refine ab_iinc (v := 4) (la' := [(3, .int 4), (2, .int (nI (p + 5))), (0, .ref 1), (1, .ref 3002)]) dX6_takesWord_71 rfl (by decide) (by decide) rfl ?_
              refine ab_goto 42 dX6_takesWord_74 (by decide) ?_
              refine ab_iload_n dX6_takesWord_42 rfl ?_
              refine ab_aload_n dX6_takesWord_43 rfl ?_
              refine ab_callT (j := 2) (As := []) (rest := [.int 4]) dX6_takesWord_44 mT_J0_length_8abf5 ml_X6_124 ⟨by decide, by decide, rfl, rfl, rfl⟩ (by decide) rfl rfl (Nat.le_of_ble_eq_true rfl) (by decide) c_slen_2 ?_
              rintro r w' ⟨rfl, rfl⟩
              refine ab_icmpge 77 dX6_takesWord_47 (by decide) (fun h_11 => absurd h_11 (by decide)) (fun h_11 => ?_)
              refine ab_aload_n dX6_takesWord_50 rfl ?_
              refine ab_getf dX6_takesWord_51 fl_X6_11 rfl rfl ?_
              refine ab_aload_n dX6_takesWord_54 rfl ?_
              refine ab_getf dX6_takesWord_55 fl_X6_26 rfl rfl ?_
              refine ab_iload_n dX6_takesWord_58 rfl ?_
              refine ab_iadd dX6_takesWord_59 ?_
              refine ab_topi (v := (nI (p + 4))) (nI_add _ 4) ?_
              refine ab_bald (j := (p + 4)) dX6_takesWord_60 rfl (ix_nI (by omega) (by decide)) ?_
              refine ab_topi (v := (sgn (u (p + 4)))) (h_u (p + 4) (by omega)).2 ?_
              refine ab_aload_n dX6_takesWord_61 rfl ?_
              refine ab_iload_n dX6_takesWord_62 rfl ?_
              refine ab_callT (j := 2) (As := [.int 4]) (rest := [.int (sgn (u (p + 4)))]) dX6_takesWord_63 mT_J0_charAt_5068e ml_X6_132 ⟨by decide, by decide, rfl, rfl, rfl⟩ (by decide) rfl rfl (Nat.le_of_ble_eq_true rfl) (by decide) c_chr_2_4 ?_
              rintro r w' ⟨rfl, rfl⟩
              refine ab_icmpeq 71 dX6_takesWord_66 (by decide) (fun h_12 => ?_) (fun h_12 => ?_)
              · refine ab_iinc (v := 5) (la' := [(3, .int 5), (2, .int (nI (p + 5))), (0, .ref 1), (1, .ref 3002)]) dX6_takesWord_71 rfl (by decide) (by decide) rfl ?_
                refine ab_goto 42 dX6_takesWord_74 (by decide) ?_
                refine ab_iload_n dX6_takesWord_42 rfl ?_
                refine ab_aload_n dX6_takesWord_43 rfl ?_
                refine ab_callT (j := 2) (As := []) (rest := [.int 5]) dX6_takesWord_44 mT_J0_length_8abf5 ml_X6_124 ⟨by decide, by decide, rfl, rfl, rfl⟩ (by decide) rfl rfl (Nat.le_of_ble_eq_true rfl) (by decide) c_slen_2 ?_
                rintro r w' ⟨rfl, rfl⟩
                refine ab_icmpge 77 dX6_takesWord_47 (by decide) (fun h_13 => ?_) (fun h_13 => absurd (by decide) h_13)
                refine ab_aload_n dX6_takesWord_77 rfl ?_
                refine ab_iload_n dX6_takesWord_78 rfl ?_
                refine ab_putf (w1 := ([x0, ob 6 [.ref 2, .ref 3, .int f1_2, .int (nI n), .int (nI (p + 5)), .int f1_5, .int f1_6], ba 700 r2, ia 4 r3, x4, x5, x6, x7, x8, x9, x10, x11, x12, x13, x14, x15, x16, x17, x18, x19, x20, x21, x22, x23, x24, x25, x26, x27, x28, x29, x30, x31, x32], wm)) dX6_takesWord_79 fl_X6_26 rfl (Nat.le_of_ble_eq_true rfl) (fun _ => ⟨rfl, rfl⟩) rfl ?_
                refine ab_iconst (v := 1) dX6_takesWord_82 (by decide) ?_
                exact ab_zret dX6_takesWord_83 rfl rfl (by decide) (Or.inl (⟨⟨by omega, (fun z => absurd z.1 (by omega)), (sgn_c (c := 112) (h_u (p + 0) (by omega)).1 (by decide) rfl).mp h_4, (sgn_c (c := 111) (h_u (p + 1) (by omega)).1 (by decide) rfl).mp h_6, (sgn_c (c := 105) (h_u (p + 2) (by omega)).1 (by decide) rfl).mp h_8, (sgn_c (c := 110) (h_u (p + 3) (by omega)).1 (by decide) rfl).mp h_10, (sgn_c (c := 116) (h_u (p + 4) (by omega)).1 (by decide) rfl).mp h_12⟩, rfl, rfl⟩))
              · refine ab_iconst (v := 0) dX6_takesWord_69 (by decide) ?_
                exact ab_zret dX6_takesWord_70 rfl rfl (by decide) (Or.inr (⟨fun z => h_12 ((sgn_c (c := 116) (h_u (p + 4) (by omega)).1 (by decide) rfl).mpr z.2.2.2.2.2.2), rfl, rfl⟩))
            · refine ab_iconst (v := 0) dX6_takesWord_69 (by decide) ?_
              exact ab_zret dX6_takesWord_70 rfl rfl (by decide) (Or.inr (⟨fun z => h_10 ((sgn_c (c := 110) (h_u (p + 3) (by omega)).1 (by decide) rfl).mpr z.2.2.2.2.2.1), rfl, rfl⟩))
          · refine ab_iconst (v := 0) dX6_takesWord_69 (by decide) ?_
            exact ab_zret dX6_takesWord_70 rfl rfl (by decide) (Or.inr (⟨fun z => h_8 ((sgn_c (c := 105) (h_u (p + 2) (by omega)).1 (by decide) rfl).mpr z.2.2.2.2.1), rfl, rfl⟩))
        · refine ab_iconst (v := 0) dX6_takesWord_69 (by decide) ?_
          exact ab_zret dX6_takesWord_70 rfl rfl (by decide) (Or.inr (⟨fun z => h_6 ((sgn_c (c := 111) (h_u (p + 1) (by omega)).1 (by decide) rfl).mpr z.2.2.2.1), rfl, rfl⟩))
      · refine ab_iconst (v := 0) dX6_takesWord_69 (by decide) ?_
        exact ab_zret dX6_takesWord_70 rfl rfl (by decide) (Or.inr (⟨fun z => h_4 ((sgn_c (c := 112) (h_u (p + 0) (by omega)).1 (by decide) rfl).mpr z.2.2.1), rfl, rfl⟩))
    · have h_2n : ¬ _ := fun z => h_2 ((nI_leI (a := n) (b := (p + 5)) (by omega) (by omega)).mpr z)
      refine ab_aload_n dX6_takesWord_26 rfl ?_
      refine ab_getf dX6_takesWord_27 fl_X6_11 rfl rfl ?_
      refine ab_iload_n dX6_takesWord_30 rfl ?_
      refine ab_bald (j := (p + 5)) dX6_takesWord_31 rfl (ix_nI (by omega) (by decide)) ?_
      refine ab_topi (v := (sgn (u (p + 5)))) (h_u (p + 5) (by omega)).2 ?_
      refine ab_callS (As := [.int (sgn (u (p + 5)))]) (rest := []) dX6_takesWord_32 ms_X6_isLetter ml_X6_129 ⟨by decide, by decide, rfl, rfl, rfl⟩ (by decide) rfl rfl (Nat.le_of_ble_eq_true rfl) c_X6_isLetter ?_
      rintro r w' (⟨c_14, rfl, rfl⟩ | ⟨c_15, rfl, rfl⟩)
      · refine ab_ifeq 40 dX6_takesWord_35 (by decide) (fun h_16 => absurd h_16 (by decide)) (fun h_16 => ?_)
        refine ab_iconst (v := 0) dX6_takesWord_38 (by decide) ?_
        exact ab_zret dX6_takesWord_39 rfl rfl (by decide) (Or.inr (⟨fun z => z.2.1 ⟨by omega, (isL_s (h_u _ (by omega)).1).mp c_14⟩, rfl, rfl⟩))
      · refine ab_ifeq 40 dX6_takesWord_35 (by decide) (fun h_17 => ?_) (fun h_17 => absurd (by decide) h_17)
        refine ab_iconst (v := 0) dX6_takesWord_40 (by decide) ?_
        refine ab_istore_n (la' := [(3, .int 0), (2, .int (nI (p + 5))), (0, .ref 1), (1, .ref 3002)]) dX6_takesWord_41 (by decide) rfl ?_
        refine ab_iload_n dX6_takesWord_42 rfl ?_
        refine ab_aload_n dX6_takesWord_43 rfl ?_
        refine ab_callT (j := 2) (As := []) (rest := [.int 0]) dX6_takesWord_44 mT_J0_length_8abf5 ml_X6_124 ⟨by decide, by decide, rfl, rfl, rfl⟩ (by decide) rfl rfl (Nat.le_of_ble_eq_true rfl) (by decide) c_slen_2 ?_
        rintro r w' ⟨rfl, rfl⟩
        refine ab_icmpge 77 dX6_takesWord_47 (by decide) (fun h_18 => absurd h_18 (by decide)) (fun h_18 => ?_)
        refine ab_aload_n dX6_takesWord_50 rfl ?_
        refine ab_getf dX6_takesWord_51 fl_X6_11 rfl rfl ?_
        refine ab_aload_n dX6_takesWord_54 rfl ?_
        refine ab_getf dX6_takesWord_55 fl_X6_26 rfl rfl ?_
        refine ab_iload_n dX6_takesWord_58 rfl ?_
        refine ab_iadd dX6_takesWord_59 ?_
        refine ab_topi (v := (nI p)) (Int32.add_zero _) ?_
        refine ab_bald (j := p) dX6_takesWord_60 rfl (ix_nI (by omega) (by decide)) ?_
        refine ab_topi (v := (sgn (u (p + 0)))) (h_u p (by omega)).2 ?_
        refine ab_aload_n dX6_takesWord_61 rfl ?_
        refine ab_iload_n dX6_takesWord_62 rfl ?_
        refine ab_callT (j := 2) (As := [.int 0]) (rest := [.int (sgn (u (p + 0)))]) dX6_takesWord_63 mT_J0_charAt_5068e ml_X6_132 ⟨by decide, by decide, rfl, rfl, rfl⟩ (by decide) rfl rfl (Nat.le_of_ble_eq_true rfl) (by decide) c_chr_2_0 ?_
        rintro r w' ⟨rfl, rfl⟩
        refine ab_icmpeq 71 dX6_takesWord_66 (by decide) (fun h_19 => ?_) (fun h_19 => ?_)
        · refine ab_iinc (v := 1) (la' := [(3, .int 1), (2, .int (nI (p + 5))), (0, .ref 1), (1, .ref 3002)]) dX6_takesWord_71 rfl (by decide) (by decide) rfl ?_
          refine ab_goto 42 dX6_takesWord_74 (by decide) ?_
          refine ab_iload_n dX6_takesWord_42 rfl ?_
          refine ab_aload_n dX6_takesWord_43 rfl ?_
          refine ab_callT (j := 2) (As := []) (rest := [.int 1]) dX6_takesWord_44 mT_J0_length_8abf5 ml_X6_124 ⟨by decide, by decide, rfl, rfl, rfl⟩ (by decide) rfl rfl (Nat.le_of_ble_eq_true rfl) (by decide) c_slen_2 ?_
          rintro r w' ⟨rfl, rfl⟩
          refine ab_icmpge 77 dX6_takesWord_47 (by decide) (fun h_20 => absurd h_20 (by decide)) (fun h_20 => ?_)
          refine ab_aload_n dX6_takesWord_50 rfl ?_
          refine ab_getf dX6_takesWord_51 fl_X6_11 rfl rfl ?_
          refine ab_aload_n dX6_takesWord_54 rfl ?_
          refine ab_getf dX6_takesWord_55 fl_X6_26 rfl rfl ?_
          refine ab_iload_n dX6_takesWord_58 rfl ?_
          refine ab_iadd dX6_takesWord_59 ?_
          refine ab_topi (v := (nI (p + 1))) (nI_1 _) ?_
          refine ab_bald (j := (p + 1)) dX6_takesWord_60 rfl (ix_nI (by omega) (by decide)) ?_
          refine ab_topi (v := (sgn (u (p + 1)))) (h_u (p + 1) (by omega)).2 ?_
          refine ab_aload_n dX6_takesWord_61 rfl ?_
          refine ab_iload_n dX6_takesWord_62 rfl ?_
          refine ab_callT (j := 2) (As := [.int 1]) (rest := [.int (sgn (u (p + 1)))]) dX6_takesWord_63 mT_J0_charAt_5068e ml_X6_132 ⟨by decide, by decide, rfl, rfl, rfl⟩ (by decide) rfl rfl (Nat.le_of_ble_eq_true rfl) (by decide) c_chr_2_1 ?_
          rintro r w' ⟨rfl, rfl⟩
          refine ab_icmpeq 71 dX6_takesWord_66 (by decide) (fun h_21 => ?_) (fun h_21 => ?_)
          · refine ab_iinc (v := 2) (la' := [(3, .int 2), (2, .int (nI (p + 5))), (0, .ref 1), (1, .ref 3002)]) dX6_takesWord_71 rfl (by decide) (by decide) rfl ?_
            refine ab_goto 42 dX6_takesWord_74 (by decide) ?_
            refine ab_iload_n dX6_takesWord_42 rfl ?_
            refine ab_aload_n dX6_takesWord_43 rfl ?_
            refine ab_callT (j := 2) (As := []) (rest := [.int 2]) dX6_takesWord_44 mT_J0_length_8abf5 ml_X6_124 ⟨by decide, by decide, rfl, rfl, rfl⟩ (by decide) rfl rfl (Nat.le_of_ble_eq_true rfl) (by decide) c_slen_2 ?_
            rintro r w' ⟨rfl, rfl⟩
            refine ab_icmpge 77 dX6_takesWord_47 (by decide) (fun h_22 => absurd h_22 (by decide)) (fun h_22 => ?_)
            refine ab_aload_n dX6_takesWord_50 rfl ?_
            refine ab_getf dX6_takesWord_51 fl_X6_11 rfl rfl ?_
            refine ab_aload_n dX6_takesWord_54 rfl ?_
            refine ab_getf dX6_takesWord_55 fl_X6_26 rfl rfl ?_
            refine ab_iload_n dX6_takesWord_58 rfl ?_
            refine ab_iadd dX6_takesWord_59 ?_
            refine ab_topi (v := (nI (p + 2))) (nI_add _ 2) ?_
            refine ab_bald (j := (p + 2)) dX6_takesWord_60 rfl (ix_nI (by omega) (by decide)) ?_
            refine ab_topi (v := (sgn (u (p + 2)))) (h_u (p + 2) (by omega)).2 ?_
            refine ab_aload_n dX6_takesWord_61 rfl ?_
            refine ab_iload_n dX6_takesWord_62 rfl ?_
            refine ab_callT (j := 2) (As := [.int 2]) (rest := [.int (sgn (u (p + 2)))]) dX6_takesWord_63 mT_J0_charAt_5068e ml_X6_132 ⟨by decide, by decide, rfl, rfl, rfl⟩ (by decide) rfl rfl (Nat.le_of_ble_eq_true rfl) (by decide) c_chr_2_2 ?_
            rintro r w' ⟨rfl, rfl⟩
            refine ab_icmpeq 71 dX6_takesWord_66 (by decide) (fun h_23 => ?_) (fun h_23 => ?_)
            · refine ab_iinc (v := 3) (la' := [(3, .int 3), (2, .int (nI (p + 5))), (0, .ref 1), (1, .ref 3002)]) dX6_takesWord_71 rfl (by decide) (by decide) rfl ?_
              refine ab_goto 42 dX6_takesWord_74 (by decide) ?_
              refine ab_iload_n dX6_takesWord_42 rfl ?_
              refine ab_aload_n dX6_takesWord_43 rfl ?_
              refine ab_callT (j := 2) (As := []) (rest := [.int 3]) dX6_takesWord_44 mT_J0_length_8abf5 ml_X6_124 ⟨by decide, by decide, rfl, rfl, rfl⟩ (by decide) rfl rfl (Nat.le_of_ble_eq_true rfl) (by decide) c_slen_2 ?_
              rintro r w' ⟨rfl, rfl⟩
              refine ab_icmpge 77 dX6_takesWord_47 (by decide) (fun h_24 => absurd h_24 (by decide)) (fun h_24 => ?_)
              refine ab_aload_n dX6_takesWord_50 rfl ?_
              refine ab_getf dX6_takesWord_51 fl_X6_11 rfl rfl ?_
              refine ab_aload_n dX6_takesWord_54 rfl ?_
              refine ab_getf dX6_takesWord_55 fl_X6_26 rfl rfl ?_
              refine ab_iload_n dX6_takesWord_58 rfl ?_
              refine ab_iadd dX6_takesWord_59 ?_
              refine ab_topi (v := (nI (p + 3))) (nI_add _ 3) ?_
              refine ab_bald (j := (p + 3)) dX6_takesWord_60 rfl (ix_nI (by omega) (by decide)) ?_
              refine ab_topi (v := (sgn (u (p + 3)))) (h_u (p + 3) (by omega)).2 ?_
              refine ab_aload_n dX6_takesWord_61 rfl ?_
              refine ab_iload_n dX6_takesWord_62 rfl ?_
              refine ab_callT (j := 2) (As := [.int 3]) (rest := [.int (sgn (u (p + 3)))]) dX6_takesWord_63 mT_J0_charAt_5068e ml_X6_132 ⟨by decide, by decide, rfl, rfl, rfl⟩ (by decide) rfl rfl (Nat.le_of_ble_eq_true rfl) (by decide) c_chr_2_3 ?_
              rintro r w' ⟨rfl, rfl⟩
              refine ab_icmpeq 71 dX6_takesWord_66 (by decide) (fun h_25 => ?_) (fun h_25 => ?_)
              · refine ab_iinc (v := 4) (la' := [(3, .int 4), (2, .int (nI (p + 5))), (0, .ref 1), (1, .ref 3002)]) dX6_takesWord_71 rfl (by decide) (by decide) rfl ?_
                refine ab_goto 42 dX6_takesWord_74 (by decide) ?_
                refine ab_iload_n dX6_takesWord_42 rfl ?_
                refine ab_aload_n dX6_takesWord_43 rfl ?_
                refine ab_callT (j := 2) (As := []) (rest := [.int 4]) dX6_takesWord_44 mT_J0_length_8abf5 ml_X6_124 ⟨by decide, by decide, rfl, rfl, rfl⟩ (by decide) rfl rfl (Nat.le_of_ble_eq_true rfl) (by decide) c_slen_2 ?_
                rintro r w' ⟨rfl, rfl⟩
                refine ab_icmpge 77 dX6_takesWord_47 (by decide) (fun h_26 => absurd h_26 (by decide)) (fun h_26 => ?_)
                refine ab_aload_n dX6_takesWord_50 rfl ?_
                refine ab_getf dX6_takesWord_51 fl_X6_11 rfl rfl ?_
                refine ab_aload_n dX6_takesWord_54 rfl ?_
                refine ab_getf dX6_takesWord_55 fl_X6_26 rfl rfl ?_
                refine ab_iload_n dX6_takesWord_58 rfl ?_
                refine ab_iadd dX6_takesWord_59 ?_
                refine ab_topi (v := (nI (p + 4))) (nI_add _ 4) ?_
                refine ab_bald (j := (p + 4)) dX6_takesWord_60 rfl (ix_nI (by omega) (by decide)) ?_
                refine ab_topi (v := (sgn (u (p + 4)))) (h_u (p + 4) (by omega)).2 ?_
                refine ab_aload_n dX6_takesWord_61 rfl ?_
                refine ab_iload_n dX6_takesWord_62 rfl ?_
                refine ab_callT (j := 2) (As := [.int 4]) (rest := [.int (sgn (u (p + 4)))]) dX6_takesWord_63 mT_J0_charAt_5068e ml_X6_132 ⟨by decide, by decide, rfl, rfl, rfl⟩ (by decide) rfl rfl (Nat.le_of_ble_eq_true rfl) (by decide) c_chr_2_4 ?_
                rintro r w' ⟨rfl, rfl⟩
                refine ab_icmpeq 71 dX6_takesWord_66 (by decide) (fun h_27 => ?_) (fun h_27 => ?_)
                · refine ab_iinc (v := 5) (la' := [(3, .int 5), (2, .int (nI (p + 5))), (0, .ref 1), (1, .ref 3002)]) dX6_takesWord_71 rfl (by decide) (by decide) rfl ?_
                  refine ab_goto 42 dX6_takesWord_74 (by decide) ?_
                  refine ab_iload_n dX6_takesWord_42 rfl ?_
                  refine ab_aload_n dX6_takesWord_43 rfl ?_
                  refine ab_callT (j := 2) (As := []) (rest := [.int 5]) dX6_takesWord_44 mT_J0_length_8abf5 ml_X6_124 ⟨by decide, by decide, rfl, rfl, rfl⟩ (by decide) rfl rfl (Nat.le_of_ble_eq_true rfl) (by decide) c_slen_2 ?_
                  rintro r w' ⟨rfl, rfl⟩
                  refine ab_icmpge 77 dX6_takesWord_47 (by decide) (fun h_28 => ?_) (fun h_28 => absurd (by decide) h_28)
                  refine ab_aload_n dX6_takesWord_77 rfl ?_
                  refine ab_iload_n dX6_takesWord_78 rfl ?_
                  refine ab_putf (w1 := ([x0, ob 6 [.ref 2, .ref 3, .int f1_2, .int (nI n), .int (nI (p + 5)), .int f1_5, .int f1_6], ba 700 r2, ia 4 r3, x4, x5, x6, x7, x8, x9, x10, x11, x12, x13, x14, x15, x16, x17, x18, x19, x20, x21, x22, x23, x24, x25, x26, x27, x28, x29, x30, x31, x32], wm)) dX6_takesWord_79 fl_X6_26 rfl (Nat.le_of_ble_eq_true rfl) (fun _ => ⟨rfl, rfl⟩) rfl ?_
                  refine ab_iconst (v := 1) dX6_takesWord_82 (by decide) ?_
                  exact ab_zret dX6_takesWord_83 rfl rfl (by decide) (Or.inl (⟨⟨by omega, (fun z => c_15 ((isL_s (h_u _ (by omega)).1).mpr z.2)), (sgn_c (c := 112) (h_u (p + 0) (by omega)).1 (by decide) rfl).mp h_19, (sgn_c (c := 111) (h_u (p + 1) (by omega)).1 (by decide) rfl).mp h_21, (sgn_c (c := 105) (h_u (p + 2) (by omega)).1 (by decide) rfl).mp h_23, (sgn_c (c := 110) (h_u (p + 3) (by omega)).1 (by decide) rfl).mp h_25, (sgn_c (c := 116) (h_u (p + 4) (by omega)).1 (by decide) rfl).mp h_27⟩, rfl, rfl⟩))
                · refine ab_iconst (v := 0) dX6_takesWord_69 (by decide) ?_
                  exact ab_zret dX6_takesWord_70 rfl rfl (by decide) (Or.inr (⟨fun z => h_27 ((sgn_c (c := 116) (h_u (p + 4) (by omega)).1 (by decide) rfl).mpr z.2.2.2.2.2.2), rfl, rfl⟩))
              · refine ab_iconst (v := 0) dX6_takesWord_69 (by decide) ?_
                exact ab_zret dX6_takesWord_70 rfl rfl (by decide) (Or.inr (⟨fun z => h_25 ((sgn_c (c := 110) (h_u (p + 3) (by omega)).1 (by decide) rfl).mpr z.2.2.2.2.2.1), rfl, rfl⟩))
            · refine ab_iconst (v := 0) dX6_takesWord_69 (by decide) ?_
              exact ab_zret dX6_takesWord_70 rfl rfl (by decide) (Or.inr (⟨fun z => h_23 ((sgn_c (c := 105) (h_u (p + 2) (by omega)).1 (by decide) rfl).mpr z.2.2.2.2.1), rfl, rfl⟩))
          · refine ab_iconst (v := 0) dX6_takesWord_69 (by decide) ?_
            exact ab_zret dX6_takesWord_70 rfl rfl (by decide) (Or.inr (⟨fun z => h_21 ((sgn_c (c := 111) (h_u (p + 1) (by omega)).1 (by decide) rfl).mpr z.2.2.2.1), rfl, rfl⟩))
        · refine ab_iconst (v := 0) dX6_takesWord_69 (by decide) ?_
          exact ab_zret dX6_takesWord_70 rfl rfl (by decide) (Or.inr (⟨fun z => h_19 ((sgn_c (c := 112) (h_u (p + 0) (by omega)).1 (by decide) rfl).mpr z.2.2.1), rfl, rfl⟩))
theorem c_X6_takesWord_3 {x0 x4 x5 x6 x7 x8 x9 x10 x11 x12 x13 x14 x15 x16 x17 x18 x19 x20 x21 x22 x23 x24 x25 x26 x27 x28 x29 x30 x31 x32 : ax_E} {f1_2 f1_5 f1_6 : Int32} {r2 r3 : Nat → Int32} {wm : List ax_E} {u : Nat → Nat} {n p : Nat} (h_n : n ≤ 700) (h_u : ∀ k, k < 700 → u k < 256 ∧ r2 k = sgn (u k)) (h_p : p ≤ n) : Ct M_X6_takesWord [.ref 1, .ref 3003] ([x0, ob 6 [.ref 2, .ref 3, .int f1_2, .int (nI n), .int (nI p), .int f1_5, .int f1_6], ba 700 r2, ia 4 r3, x4, x5, x6, x7, x8, x9, x10, x11, x12, x13, x14, x15, x16, x17, x18, x19, x20, x21, x22, x23, x24, x25, x26, x27, x28, x29, x30, x31, x32], wm) (fun r w' => ((wd_3 u n p) ∧ r = some (.int 1) ∧ w' = ([x0, ob 6 [.ref 2, .ref 3, .int f1_2, .int (nI n), .int (nI (p + 4)), .int f1_5, .int f1_6], ba 700 r2, ia 4 r3, x4, x5, x6, x7, x8, x9, x10, x11, x12, x13, x14, x15, x16, x17, x18, x19, x20, x21, x22, x23, x24, x25, x26, x27, x28, x29, x30, x31, x32], wm)) ∨ ((¬ wd_3 u n p) ∧ r = some (.int 0) ∧ w' = ([x0, ob 6 [.ref 2, .ref 3, .int f1_2, .int (nI n), .int (nI p), .int f1_5, .int f1_6], ba 700 r2, ia 4 r3, x4, x5, x6, x7, x8, x9, x10, x11, x12, x13, x14, x15, x16, x17, x18, x19, x20, x21, x22, x23, x24, x25, x26, x27, x28, x29, x30, x31, x32], wm))) := by
  refine ct_of ⟨by decide, rfl⟩ (Nat.le_of_ble_eq_true rfl) ?_
  refine ab_aload_n dX6_takesWord_0 rfl ?_
  refine ab_getf dX6_takesWord_1 fl_X6_26 rfl rfl ?_
  refine ab_aload_n dX6_takesWord_4 rfl ?_
  refine ab_callT (j := 3) (As := []) (rest := [.int (nI p)]) dX6_takesWord_5 mT_J0_length_8abf5 ml_X6_124 ⟨by decide, by decide, rfl, rfl, rfl⟩ (by decide) rfl rfl (Nat.le_of_ble_eq_true rfl) (by decide) c_slen_3 ?_
  rintro r w' ⟨rfl, rfl⟩
  refine ab_iadd dX6_takesWord_8 ?_
  refine ab_topi (v := (nI (p + 4))) (nI_add _ 4) ?_
  refine ab_istore_n (la' := [(2, .int (nI (p + 4))), (0, .ref 1), (1, .ref 3003)]) dX6_takesWord_9 (by decide) rfl ?_
  refine ab_iload_n dX6_takesWord_10 rfl ?_
  refine ab_aload_n dX6_takesWord_11 rfl ?_
  refine ab_getf dX6_takesWord_12 fl_X6_23 rfl rfl ?_
  refine ab_icmpgt 38 dX6_takesWord_15 (by decide) (fun h_1 => ?_) (fun h_1 => ?_)
  · have h_1n := (nI_ltI (a := n) (b := (p + 4)) (by omega) (by omega)).mp h_1
    refine ab_iconst (v := 0) dX6_takesWord_38 (by decide) ?_
    exact ab_zret dX6_takesWord_39 rfl rfl (by decide) (Or.inr (⟨fun z => absurd z.1 (by omega), rfl, rfl⟩))
  · have h_1n : ¬ _ := fun z => h_1 ((nI_ltI (a := n) (b := (p + 4)) (by omega) (by omega)).mpr z)
    refine ab_iload_n dX6_takesWord_18 rfl ?_
    refine ab_aload_n dX6_takesWord_19 rfl ?_
    refine ab_getf dX6_takesWord_20 fl_X6_23 rfl rfl ?_
    refine ab_icmpge 40 dX6_takesWord_23 (by decide) (fun h_2 => ?_) (fun h_2 => ?_)
    · have h_2n := (nI_leI (a := n) (b := (p + 4)) (by omega) (by omega)).mp h_2
      refine ab_iconst (v := 0) dX6_takesWord_40 (by decide) ?_
      refine ab_istore_n (la' := [(3, .int 0), (2, .int (nI (p + 4))), (0, .ref 1), (1, .ref 3003)]) dX6_takesWord_41 (by decide) rfl ?_
      refine ab_iload_n dX6_takesWord_42 rfl ?_
      refine ab_aload_n dX6_takesWord_43 rfl ?_
      refine ab_callT (j := 3) (As := []) (rest := [.int 0]) dX6_takesWord_44 mT_J0_length_8abf5 ml_X6_124 ⟨by decide, by decide, rfl, rfl, rfl⟩ (by decide) rfl rfl (Nat.le_of_ble_eq_true rfl) (by decide) c_slen_3 ?_
      rintro r w' ⟨rfl, rfl⟩
      refine ab_icmpge 77 dX6_takesWord_47 (by decide) (fun h_3 => absurd h_3 (by decide)) (fun h_3 => ?_)
      refine ab_aload_n dX6_takesWord_50 rfl ?_
      refine ab_getf dX6_takesWord_51 fl_X6_11 rfl rfl ?_
      refine ab_aload_n dX6_takesWord_54 rfl ?_
      refine ab_getf dX6_takesWord_55 fl_X6_26 rfl rfl ?_
      refine ab_iload_n dX6_takesWord_58 rfl ?_
      refine ab_iadd dX6_takesWord_59 ?_
      refine ab_topi (v := (nI p)) (Int32.add_zero _) ?_
      refine ab_bald (j := p) dX6_takesWord_60 rfl (ix_nI (by omega) (by decide)) ?_
      refine ab_topi (v := (sgn (u (p + 0)))) (h_u p (by omega)).2 ?_
      refine ab_aload_n dX6_takesWord_61 rfl ?_
      refine ab_iload_n dX6_takesWord_62 rfl ?_
      refine ab_callT (j := 3) (As := [.int 0]) (rest := [.int (sgn (u (p + 0)))]) dX6_takesWord_63 mT_J0_charAt_5068e ml_X6_132 ⟨by decide, by decide, rfl, rfl, rfl⟩ (by decide) rfl rfl (Nat.le_of_ble_eq_true rfl) (by decide) c_chr_3_0 ?_
      rintro r w' ⟨rfl, rfl⟩
      refine ab_icmpeq 71 dX6_takesWord_66 (by decide) (fun h_4 => ?_) (fun h_4 => ?_)
      · refine ab_iinc (v := 1) (la' := [(3, .int 1), (2, .int (nI (p + 4))), (0, .ref 1), (1, .ref 3003)]) dX6_takesWord_71 rfl (by decide) (by decide) rfl ?_
        refine ab_goto 42 dX6_takesWord_74 (by decide) ?_
        refine ab_iload_n dX6_takesWord_42 rfl ?_
        refine ab_aload_n dX6_takesWord_43 rfl ?_
        refine ab_callT (j := 3) (As := []) (rest := [.int 1]) dX6_takesWord_44 mT_J0_length_8abf5 ml_X6_124 ⟨by decide, by decide, rfl, rfl, rfl⟩ (by decide) rfl rfl (Nat.le_of_ble_eq_true rfl) (by decide) c_slen_3 ?_
        rintro r w' ⟨rfl, rfl⟩
        refine ab_icmpge 77 dX6_takesWord_47 (by decide) (fun h_5 => absurd h_5 (by decide)) (fun h_5 => ?_)
        refine ab_aload_n dX6_takesWord_50 rfl ?_
        refine ab_getf dX6_takesWord_51 fl_X6_11 rfl rfl ?_
        refine ab_aload_n dX6_takesWord_54 rfl ?_
        refine ab_getf dX6_takesWord_55 fl_X6_26 rfl rfl ?_
        refine ab_iload_n dX6_takesWord_58 rfl ?_
        refine ab_iadd dX6_takesWord_59 ?_
        refine ab_topi (v := (nI (p + 1))) (nI_1 _) ?_
        refine ab_bald (j := (p + 1)) dX6_takesWord_60 rfl (ix_nI (by omega) (by decide)) ?_
        refine ab_topi (v := (sgn (u (p + 1)))) (h_u (p + 1) (by omega)).2 ?_
        refine ab_aload_n dX6_takesWord_61 rfl ?_
        refine ab_iload_n dX6_takesWord_62 rfl ?_
        refine ab_callT (j := 3) (As := [.int 1]) (rest := [.int (sgn (u (p + 1)))]) dX6_takesWord_63 mT_J0_charAt_5068e ml_X6_132 ⟨by decide, by decide, rfl, rfl, rfl⟩ (by decide) rfl rfl (Nat.le_of_ble_eq_true rfl) (by decide) c_chr_3_1 ?_
        rintro r w' ⟨rfl, rfl⟩
        refine ab_icmpeq 71 dX6_takesWord_66 (by decide) (fun h_6 => ?_) (fun h_6 => ?_)
        · refine ab_iinc (v := 2) (la' := [(3, .int 2), (2, .int (nI (p + 4))), (0, .ref 1), (1, .ref 3003)]) dX6_takesWord_71 rfl (by decide) (by decide) rfl ?_
          refine ab_goto 42 dX6_takesWord_74 (by decide) ?_
          refine ab_iload_n dX6_takesWord_42 rfl ?_
          refine ab_aload_n dX6_takesWord_43 rfl ?_
          refine ab_callT (j := 3) (As := []) (rest := [.int 2]) dX6_takesWord_44 mT_J0_length_8abf5 ml_X6_124 ⟨by decide, by decide, rfl, rfl, rfl⟩ (by decide) rfl rfl (Nat.le_of_ble_eq_true rfl) (by decide) c_slen_3 ?_
          rintro r w' ⟨rfl, rfl⟩
          refine ab_icmpge 77 dX6_takesWord_47 (by decide) (fun h_7 => absurd h_7 (by decide)) (fun h_7 => ?_)
          refine ab_aload_n dX6_takesWord_50 rfl ?_
          refine ab_getf dX6_takesWord_51 fl_X6_11 rfl rfl ?_
          refine ab_aload_n dX6_takesWord_54 rfl ?_
          refine ab_getf dX6_takesWord_55 fl_X6_26 rfl rfl ?_
          refine ab_iload_n dX6_takesWord_58 rfl ?_
          refine ab_iadd dX6_takesWord_59 ?_
          refine ab_topi (v := (nI (p + 2))) (nI_add _ 2) ?_
          refine ab_bald (j := (p + 2)) dX6_takesWord_60 rfl (ix_nI (by omega) (by decide)) ?_
          refine ab_topi (v := (sgn (u (p + 2)))) (h_u (p + 2) (by omega)).2 ?_
          refine ab_aload_n dX6_takesWord_61 rfl ?_
          refine ab_iload_n dX6_takesWord_62 rfl ?_
          refine ab_callT (j := 3) (As := [.int 2]) (rest := [.int (sgn (u (p + 2)))]) dX6_takesWord_63 mT_J0_charAt_5068e ml_X6_132 ⟨by decide, by decide, rfl, rfl, rfl⟩ (by decide) rfl rfl (Nat.le_of_ble_eq_true rfl) (by decide) c_chr_3_2 ?_
          rintro r w' ⟨rfl, rfl⟩
          refine ab_icmpeq 71 dX6_takesWord_66 (by decide) (fun h_8 => ?_) (fun h_8 => ?_)
          · refine ab_iinc (v := 3) (la' := [(3, .int 3), (2, .int (nI (p + 4))), (0, .ref 1), (1, .ref 3003)]) dX6_takesWord_71 rfl (by decide) (by decide) rfl ?_
            refine ab_goto 42 dX6_takesWord_74 (by decide) ?_
            refine ab_iload_n dX6_takesWord_42 rfl ?_
            refine ab_aload_n dX6_takesWord_43 rfl ?_
            refine ab_callT (j := 3) (As := []) (rest := [.int 3]) dX6_takesWord_44 mT_J0_length_8abf5 ml_X6_124 ⟨by decide, by decide, rfl, rfl, rfl⟩ (by decide) rfl rfl (Nat.le_of_ble_eq_true rfl) (by decide) c_slen_3 ?_
            rintro r w' ⟨rfl, rfl⟩
            refine ab_icmpge 77 dX6_takesWord_47 (by decide) (fun h_9 => absurd h_9 (by decide)) (fun h_9 => ?_)
            refine ab_aload_n dX6_takesWord_50 rfl ?_
            refine ab_getf dX6_takesWord_51 fl_X6_11 rfl rfl ?_
            refine ab_aload_n dX6_takesWord_54 rfl ?_
            refine ab_getf dX6_takesWord_55 fl_X6_26 rfl rfl ?_
            refine ab_iload_n dX6_takesWord_58 rfl ?_
            refine ab_iadd dX6_takesWord_59 ?_
            refine ab_topi (v := (nI (p + 3))) (nI_add _ 3) ?_
            refine ab_bald (j := (p + 3)) dX6_takesWord_60 rfl (ix_nI (by omega) (by decide)) ?_
            refine ab_topi (v := (sgn (u (p + 3)))) (h_u (p + 3) (by omega)).2 ?_
            refine ab_aload_n dX6_takesWord_61 rfl ?_
            refine ab_iload_n dX6_takesWord_62 rfl ?_
            refine ab_callT (j := 3) (As := [.int 3]) (rest := [.int (sgn (u (p + 3)))]) dX6_takesWord_63 mT_J0_charAt_5068e ml_X6_132 ⟨by decide, by decide, rfl, rfl, rfl⟩ (by decide) rfl rfl (Nat.le_of_ble_eq_true rfl) (by decide) c_chr_3_3 ?_
            rintro r w' ⟨rfl, rfl⟩
            refine ab_icmpeq 71 dX6_takesWord_66 (by decide) (fun h_10 => ?_) (fun h_10 => ?_)
            · refine ab_iinc (v := 4) (la' := [(3, .int 4), (2, .int (nI (p + 4))), (0, .ref 1), (1, .ref 3003)]) dX6_takesWord_71 rfl (by decide) (by decide) rfl ?_
              refine ab_goto 42 dX6_takesWord_74 (by decide) ?_
              refine ab_iload_n dX6_takesWord_42 rfl ?_
              refine ab_aload_n dX6_takesWord_43 rfl ?_
              refine ab_callT (j := 3) (As := []) (rest := [.int 4]) dX6_takesWord_44 mT_J0_length_8abf5 ml_X6_124 ⟨by decide, by decide, rfl, rfl, rfl⟩ (by decide) rfl rfl (Nat.le_of_ble_eq_true rfl) (by decide) c_slen_3 ?_
              rintro r w' ⟨rfl, rfl⟩
              refine ab_icmpge 77 dX6_takesWord_47 (by decide) (fun h_11 => ?_) (fun h_11 => absurd (by decide) h_11)
              refine ab_aload_n dX6_takesWord_77 rfl ?_
              refine ab_iload_n dX6_takesWord_78 rfl ?_
              refine ab_putf (w1 := ([x0, ob 6 [.ref 2, .ref 3, .int f1_2, .int (nI n), .int (nI (p + 4)), .int f1_5, .int f1_6], ba 700 r2, ia 4 r3, x4, x5, x6, x7, x8, x9, x10, x11, x12, x13, x14, x15, x16, x17, x18, x19, x20, x21, x22, x23, x24, x25, x26, x27, x28, x29, x30, x31, x32], wm)) dX6_takesWord_79 fl_X6_26 rfl (Nat.le_of_ble_eq_true rfl) (fun _ => ⟨rfl, rfl⟩) rfl ?_
              refine ab_iconst (v := 1) dX6_takesWord_82 (by decide) ?_
              exact ab_zret dX6_takesWord_83 rfl rfl (by decide) (Or.inl (⟨⟨by omega, (fun z => absurd z.1 (by omega)), (sgn_c (c := 112) (h_u (p + 0) (by omega)).1 (by decide) rfl).mp h_4, (sgn_c (c := 97) (h_u (p + 1) (by omega)).1 (by decide) rfl).mp h_6, (sgn_c (c := 105) (h_u (p + 2) (by omega)).1 (by decide) rfl).mp h_8, (sgn_c (c := 114) (h_u (p + 3) (by omega)).1 (by decide) rfl).mp h_10⟩, rfl, rfl⟩))
            · refine ab_iconst (v := 0) dX6_takesWord_69 (by decide) ?_
              exact ab_zret dX6_takesWord_70 rfl rfl (by decide) (Or.inr (⟨fun z => h_10 ((sgn_c (c := 114) (h_u (p + 3) (by omega)).1 (by decide) rfl).mpr z.2.2.2.2.2), rfl, rfl⟩))
          · refine ab_iconst (v := 0) dX6_takesWord_69 (by decide) ?_
            exact ab_zret dX6_takesWord_70 rfl rfl (by decide) (Or.inr (⟨fun z => h_8 ((sgn_c (c := 105) (h_u (p + 2) (by omega)).1 (by decide) rfl).mpr z.2.2.2.2.1), rfl, rfl⟩))
        · refine ab_iconst (v := 0) dX6_takesWord_69 (by decide) ?_
          exact ab_zret dX6_takesWord_70 rfl rfl (by decide) (Or.inr (⟨fun z => h_6 ((sgn_c (c := 97) (h_u (p + 1) (by omega)).1 (by decide) rfl).mpr z.2.2.2.1), rfl, rfl⟩))
      · refine ab_iconst (v := 0) dX6_takesWord_69 (by decide) ?_
        exact ab_zret dX6_takesWord_70 rfl rfl (by decide) (Or.inr (⟨fun z => h_4 ((sgn_c (c := 112) (h_u (p + 0) (by omega)).1 (by decide) rfl).mpr z.2.2.1), rfl, rfl⟩))
    · have h_2n : ¬ _ := fun z => h_2 ((nI_leI (a := n) (b := (p + 4)) (by omega) (by omega)).mpr z)
      refine ab_aload_n dX6_takesWord_26 rfl ?_
      refine ab_getf dX6_takesWord_27 fl_X6_11 rfl rfl ?_
      refine ab_iload_n dX6_takesWord_30 rfl ?_
      refine ab_bald (j := (p + 4)) dX6_takesWord_31 rfl (ix_nI (by omega) (by decide)) ?_
      refine ab_topi (v := (sgn (u (p + 4)))) (h_u (p + 4) (by omega)).2 ?_
      refine ab_callS (As := [.int (sgn (u (p + 4)))]) (rest := []) dX6_takesWord_32 ms_X6_isLetter ml_X6_129 ⟨by decide, by decide, rfl, rfl, rfl⟩ (by decide) rfl rfl (Nat.le_of_ble_eq_true rfl) c_X6_isLetter ?_
      rintro r w' (⟨c_12, rfl, rfl⟩ | ⟨c_13, rfl, rfl⟩)
      · refine ab_ifeq 40 dX6_takesWord_35 (by decide) (fun h_14 => absurd h_14 (by decide)) (fun h_14 => ?_)
        refine ab_iconst (v := 0) dX6_takesWord_38 (by decide) ?_
        exact ab_zret dX6_takesWord_39 rfl rfl (by decide) (Or.inr (⟨fun z => z.2.1 ⟨by omega, (isL_s (h_u _ (by omega)).1).mp c_12⟩, rfl, rfl⟩))
      · refine ab_ifeq 40 dX6_takesWord_35 (by decide) (fun h_15 => ?_) (fun h_15 => absurd (by decide) h_15)
        refine ab_iconst (v := 0) dX6_takesWord_40 (by decide) ?_
        refine ab_istore_n (la' := [(3, .int 0), (2, .int (nI (p + 4))), (0, .ref 1), (1, .ref 3003)]) dX6_takesWord_41 (by decide) rfl ?_
        refine ab_iload_n dX6_takesWord_42 rfl ?_
        refine ab_aload_n dX6_takesWord_43 rfl ?_
        refine ab_callT (j := 3) (As := []) (rest := [.int 0]) dX6_takesWord_44 mT_J0_length_8abf5 ml_X6_124 ⟨by decide, by decide, rfl, rfl, rfl⟩ (by decide) rfl rfl (Nat.le_of_ble_eq_true rfl) (by decide) c_slen_3 ?_
        rintro r w' ⟨rfl, rfl⟩
        refine ab_icmpge 77 dX6_takesWord_47 (by decide) (fun h_16 => absurd h_16 (by decide)) (fun h_16 => ?_)
        refine ab_aload_n dX6_takesWord_50 rfl ?_
        refine ab_getf dX6_takesWord_51 fl_X6_11 rfl rfl ?_
        refine ab_aload_n dX6_takesWord_54 rfl ?_
        refine ab_getf dX6_takesWord_55 fl_X6_26 rfl rfl ?_
        refine ab_iload_n dX6_takesWord_58 rfl ?_
        refine ab_iadd dX6_takesWord_59 ?_
        refine ab_topi (v := (nI p)) (Int32.add_zero _) ?_
        refine ab_bald (j := p) dX6_takesWord_60 rfl (ix_nI (by omega) (by decide)) ?_
        refine ab_topi (v := (sgn (u (p + 0)))) (h_u p (by omega)).2 ?_
        refine ab_aload_n dX6_takesWord_61 rfl ?_
        refine ab_iload_n dX6_takesWord_62 rfl ?_
        refine ab_callT (j := 3) (As := [.int 0]) (rest := [.int (sgn (u (p + 0)))]) dX6_takesWord_63 mT_J0_charAt_5068e ml_X6_132 ⟨by decide, by decide, rfl, rfl, rfl⟩ (by decide) rfl rfl (Nat.le_of_ble_eq_true rfl) (by decide) c_chr_3_0 ?_
        rintro r w' ⟨rfl, rfl⟩
        refine ab_icmpeq 71 dX6_takesWord_66 (by decide) (fun h_17 => ?_) (fun h_17 => ?_)
        · refine ab_iinc (v := 1) (la' := [(3, .int 1), (2, .int (nI (p + 4))), (0, .ref 1), (1, .ref 3003)]) dX6_takesWord_71 rfl (by decide) (by decide) rfl ?_
          refine ab_goto 42 dX6_takesWord_74 (by decide) ?_
          refine ab_iload_n dX6_takesWord_42 rfl ?_
          refine ab_aload_n dX6_takesWord_43 rfl ?_
          refine ab_callT (j := 3) (As := []) (rest := [.int 1]) dX6_takesWord_44 mT_J0_length_8abf5 ml_X6_124 ⟨by decide, by decide, rfl, rfl, rfl⟩ (by decide) rfl rfl (Nat.le_of_ble_eq_true rfl) (by decide) c_slen_3 ?_
          rintro r w' ⟨rfl, rfl⟩
          refine ab_icmpge 77 dX6_takesWord_47 (by decide) (fun h_18 => absurd h_18 (by decide)) (fun h_18 => ?_)
          refine ab_aload_n dX6_takesWord_50 rfl ?_
          refine ab_getf dX6_takesWord_51 fl_X6_11 rfl rfl ?_
          refine ab_aload_n dX6_takesWord_54 rfl ?_
          refine ab_getf dX6_takesWord_55 fl_X6_26 rfl rfl ?_
          refine ab_iload_n dX6_takesWord_58 rfl ?_
          refine ab_iadd dX6_takesWord_59 ?_
          refine ab_topi (v := (nI (p + 1))) (nI_1 _) ?_
          refine ab_bald (j := (p + 1)) dX6_takesWord_60 rfl (ix_nI (by omega) (by decide)) ?_
          refine ab_topi (v := (sgn (u (p + 1)))) (h_u (p + 1) (by omega)).2 ?_
          refine ab_aload_n dX6_takesWord_61 rfl ?_
          refine ab_iload_n dX6_takesWord_62 rfl ?_
          refine ab_callT (j := 3) (As := [.int 1]) (rest := [.int (sgn (u (p + 1)))]) dX6_takesWord_63 mT_J0_charAt_5068e ml_X6_132 ⟨by decide, by decide, rfl, rfl, rfl⟩ (by decide) rfl rfl (Nat.le_of_ble_eq_true rfl) (by decide) c_chr_3_1 ?_
          rintro r w' ⟨rfl, rfl⟩
          refine ab_icmpeq 71 dX6_takesWord_66 (by decide) (fun h_19 => ?_) (fun h_19 => ?_)
          · refine ab_iinc (v := 2) (la' := [(3, .int 2), (2, .int (nI (p + 4))), (0, .ref 1), (1, .ref 3003)]) dX6_takesWord_71 rfl (by decide) (by decide) rfl ?_
            refine ab_goto 42 dX6_takesWord_74 (by decide) ?_
            refine ab_iload_n dX6_takesWord_42 rfl ?_
            refine ab_aload_n dX6_takesWord_43 rfl ?_
            refine ab_callT (j := 3) (As := []) (rest := [.int 2]) dX6_takesWord_44 mT_J0_length_8abf5 ml_X6_124 ⟨by decide, by decide, rfl, rfl, rfl⟩ (by decide) rfl rfl (Nat.le_of_ble_eq_true rfl) (by decide) c_slen_3 ?_
            rintro r w' ⟨rfl, rfl⟩
            refine ab_icmpge 77 dX6_takesWord_47 (by decide) (fun h_20 => absurd h_20 (by decide)) (fun h_20 => ?_)
            refine ab_aload_n dX6_takesWord_50 rfl ?_
            refine ab_getf dX6_takesWord_51 fl_X6_11 rfl rfl ?_
            refine ab_aload_n dX6_takesWord_54 rfl ?_
            refine ab_getf dX6_takesWord_55 fl_X6_26 rfl rfl ?_
            refine ab_iload_n dX6_takesWord_58 rfl ?_
            refine ab_iadd dX6_takesWord_59 ?_
            refine ab_topi (v := (nI (p + 2))) (nI_add _ 2) ?_
            refine ab_bald (j := (p + 2)) dX6_takesWord_60 rfl (ix_nI (by omega) (by decide)) ?_
            refine ab_topi (v := (sgn (u (p + 2)))) (h_u (p + 2) (by omega)).2 ?_
            refine ab_aload_n dX6_takesWord_61 rfl ?_
            refine ab_iload_n dX6_takesWord_62 rfl ?_
            refine ab_callT (j := 3) (As := [.int 2]) (rest := [.int (sgn (u (p + 2)))]) dX6_takesWord_63 mT_J0_charAt_5068e ml_X6_132 ⟨by decide, by decide, rfl, rfl, rfl⟩ (by decide) rfl rfl (Nat.le_of_ble_eq_true rfl) (by decide) c_chr_3_2 ?_
            rintro r w' ⟨rfl, rfl⟩
            refine ab_icmpeq 71 dX6_takesWord_66 (by decide) (fun h_21 => ?_) (fun h_21 => ?_)
            · refine ab_iinc (v := 3) (la' := [(3, .int 3), (2, .int (nI (p + 4))), (0, .ref 1), (1, .ref 3003)]) dX6_takesWord_71 rfl (by decide) (by decide) rfl ?_
              refine ab_goto 42 dX6_takesWord_74 (by decide) ?_
              refine ab_iload_n dX6_takesWord_42 rfl ?_
              refine ab_aload_n dX6_takesWord_43 rfl ?_
              refine ab_callT (j := 3) (As := []) (rest := [.int 3]) dX6_takesWord_44 mT_J0_length_8abf5 ml_X6_124 ⟨by decide, by decide, rfl, rfl, rfl⟩ (by decide) rfl rfl (Nat.le_of_ble_eq_true rfl) (by decide) c_slen_3 ?_
              rintro r w' ⟨rfl, rfl⟩
              refine ab_icmpge 77 dX6_takesWord_47 (by decide) (fun h_22 => absurd h_22 (by decide)) (fun h_22 => ?_)
              refine ab_aload_n dX6_takesWord_50 rfl ?_
              refine ab_getf dX6_takesWord_51 fl_X6_11 rfl rfl ?_
              refine ab_aload_n dX6_takesWord_54 rfl ?_
              refine ab_getf dX6_takesWord_55 fl_X6_26 rfl rfl ?_
              refine ab_iload_n dX6_takesWord_58 rfl ?_
              refine ab_iadd dX6_takesWord_59 ?_
              refine ab_topi (v := (nI (p + 3))) (nI_add _ 3) ?_
              refine ab_bald (j := (p + 3)) dX6_takesWord_60 rfl (ix_nI (by omega) (by decide)) ?_
              refine ab_topi (v := (sgn (u (p + 3)))) (h_u (p + 3) (by omega)).2 ?_
              refine ab_aload_n dX6_takesWord_61 rfl ?_
              refine ab_iload_n dX6_takesWord_62 rfl ?_
              refine ab_callT (j := 3) (As := [.int 3]) (rest := [.int (sgn (u (p + 3)))]) dX6_takesWord_63 mT_J0_charAt_5068e ml_X6_132 ⟨by decide, by decide, rfl, rfl, rfl⟩ (by decide) rfl rfl (Nat.le_of_ble_eq_true rfl) (by decide) c_chr_3_3 ?_
              rintro r w' ⟨rfl, rfl⟩
              refine ab_icmpeq 71 dX6_takesWord_66 (by decide) (fun h_23 => ?_) (fun h_23 => ?_)
              · refine ab_iinc (v := 4) (la' := [(3, .int 4), (2, .int (nI (p + 4))), (0, .ref 1), (1, .ref 3003)]) dX6_takesWord_71 rfl (by decide) (by decide) rfl ?_
                refine ab_goto 42 dX6_takesWord_74 (by decide) ?_
                refine ab_iload_n dX6_takesWord_42 rfl ?_
                refine ab_aload_n dX6_takesWord_43 rfl ?_
                refine ab_callT (j := 3) (As := []) (rest := [.int 4]) dX6_takesWord_44 mT_J0_length_8abf5 ml_X6_124 ⟨by decide, by decide, rfl, rfl, rfl⟩ (by decide) rfl rfl (Nat.le_of_ble_eq_true rfl) (by decide) c_slen_3 ?_
                rintro r w' ⟨rfl, rfl⟩
                refine ab_icmpge 77 dX6_takesWord_47 (by decide) (fun h_24 => ?_) (fun h_24 => absurd (by decide) h_24)
                refine ab_aload_n dX6_takesWord_77 rfl ?_
                refine ab_iload_n dX6_takesWord_78 rfl ?_
                refine ab_putf (w1 := ([x0, ob 6 [.ref 2, .ref 3, .int f1_2, .int (nI n), .int (nI (p + 4)), .int f1_5, .int f1_6], ba 700 r2, ia 4 r3, x4, x5, x6, x7, x8, x9, x10, x11, x12, x13, x14, x15, x16, x17, x18, x19, x20, x21, x22, x23, x24, x25, x26, x27, x28, x29, x30, x31, x32], wm)) dX6_takesWord_79 fl_X6_26 rfl (Nat.le_of_ble_eq_true rfl) (fun _ => ⟨rfl, rfl⟩) rfl ?_
                refine ab_iconst (v := 1) dX6_takesWord_82 (by decide) ?_
                exact ab_zret dX6_takesWord_83 rfl rfl (by decide) (Or.inl (⟨⟨by omega, (fun z => c_13 ((isL_s (h_u _ (by omega)).1).mpr z.2)), (sgn_c (c := 112) (h_u (p + 0) (by omega)).1 (by decide) rfl).mp h_17, (sgn_c (c := 97) (h_u (p + 1) (by omega)).1 (by decide) rfl).mp h_19, (sgn_c (c := 105) (h_u (p + 2) (by omega)).1 (by decide) rfl).mp h_21, (sgn_c (c := 114) (h_u (p + 3) (by omega)).1 (by decide) rfl).mp h_23⟩, rfl, rfl⟩))
              · refine ab_iconst (v := 0) dX6_takesWord_69 (by decide) ?_
                exact ab_zret dX6_takesWord_70 rfl rfl (by decide) (Or.inr (⟨fun z => h_23 ((sgn_c (c := 114) (h_u (p + 3) (by omega)).1 (by decide) rfl).mpr z.2.2.2.2.2), rfl, rfl⟩))
            · refine ab_iconst (v := 0) dX6_takesWord_69 (by decide) ?_
              exact ab_zret dX6_takesWord_70 rfl rfl (by decide) (Or.inr (⟨fun z => h_21 ((sgn_c (c := 105) (h_u (p + 2) (by omega)).1 (by decide) rfl).mpr z.2.2.2.2.1), rfl, rfl⟩))
          · refine ab_iconst (v := 0) dX6_takesWord_69 (by decide) ?_
            exact ab_zret dX6_takesWord_70 rfl rfl (by decide) (Or.inr (⟨fun z => h_19 ((sgn_c (c := 97) (h_u (p + 1) (by omega)).1 (by decide) rfl).mpr z.2.2.2.1), rfl, rfl⟩))
        · refine ab_iconst (v := 0) dX6_takesWord_69 (by decide) ?_
          exact ab_zret dX6_takesWord_70 rfl rfl (by decide) (Or.inr (⟨fun z => h_17 ((sgn_c (c := 112) (h_u (p + 0) (by omega)).1 (by decide) rfl).mpr z.2.2.1), rfl, rfl⟩))
theorem c_X6_takesWord_4 {x0 x4 x5 x6 x7 x8 x9 x10 x11 x12 x13 x14 x15 x16 x17 x18 x19 x20 x21 x22 x23 x24 x25 x26 x27 x28 x29 x30 x31 x32 : ax_E} {f1_2 f1_5 f1_6 : Int32} {r2 r3 : Nat → Int32} {wm : List ax_E} {u : Nat → Nat} {n p : Nat} (h_n : n ≤ 700) (h_u : ∀ k, k < 700 → u k < 256 ∧ r2 k = sgn (u k)) (h_p : p ≤ n) : Ct M_X6_takesWord [.ref 1, .ref 3004] ([x0, ob 6 [.ref 2, .ref 3, .int f1_2, .int (nI n), .int (nI p), .int f1_5, .int f1_6], ba 700 r2, ia 4 r3, x4, x5, x6, x7, x8, x9, x10, x11, x12, x13, x14, x15, x16, x17, x18, x19, x20, x21, x22, x23, x24, x25, x26, x27, x28, x29, x30, x31, x32], wm) (fun r w' => ((wd_4 u n p) ∧ r = some (.int 1) ∧ w' = ([x0, ob 6 [.ref 2, .ref 3, .int f1_2, .int (nI n), .int (nI (p + 6)), .int f1_5, .int f1_6], ba 700 r2, ia 4 r3, x4, x5, x6, x7, x8, x9, x10, x11, x12, x13, x14, x15, x16, x17, x18, x19, x20, x21, x22, x23, x24, x25, x26, x27, x28, x29, x30, x31, x32], wm)) ∨ ((¬ wd_4 u n p) ∧ r = some (.int 0) ∧ w' = ([x0, ob 6 [.ref 2, .ref 3, .int f1_2, .int (nI n), .int (nI p), .int f1_5, .int f1_6], ba 700 r2, ia 4 r3, x4, x5, x6, x7, x8, x9, x10, x11, x12, x13, x14, x15, x16, x17, x18, x19, x20, x21, x22, x23, x24, x25, x26, x27, x28, x29, x30, x31, x32], wm))) := by
  refine ct_of ⟨by decide, rfl⟩ (Nat.le_of_ble_eq_true rfl) ?_
  refine ab_aload_n dX6_takesWord_0 rfl ?_
  refine ab_getf dX6_takesWord_1 fl_X6_26 rfl rfl ?_
  refine ab_aload_n dX6_takesWord_4 rfl ?_
  refine ab_callT (j := 4) (As := []) (rest := [.int (nI p)]) dX6_takesWord_5 mT_J0_length_8abf5 ml_X6_124 ⟨by decide, by decide, rfl, rfl, rfl⟩ (by decide) rfl rfl (Nat.le_of_ble_eq_true rfl) (by decide) c_slen_4 ?_
  rintro r w' ⟨rfl, rfl⟩
  refine ab_iadd dX6_takesWord_8 ?_
  refine ab_topi (v := (nI (p + 6))) (nI_add _ 6) ?_
  refine ab_istore_n (la' := [(2, .int (nI (p + 6))), (0, .ref 1), (1, .ref 3004)]) dX6_takesWord_9 (by decide) rfl ?_
  refine ab_iload_n dX6_takesWord_10 rfl ?_
  refine ab_aload_n dX6_takesWord_11 rfl ?_
  refine ab_getf dX6_takesWord_12 fl_X6_23 rfl rfl ?_
  refine ab_icmpgt 38 dX6_takesWord_15 (by decide) (fun h_1 => ?_) (fun h_1 => ?_)
  · have h_1n := (nI_ltI (a := n) (b := (p + 6)) (by omega) (by omega)).mp h_1
    refine ab_iconst (v := 0) dX6_takesWord_38 (by decide) ?_
    exact ab_zret dX6_takesWord_39 rfl rfl (by decide) (Or.inr (⟨fun z => absurd z.1 (by omega), rfl, rfl⟩))
  · have h_1n : ¬ _ := fun z => h_1 ((nI_ltI (a := n) (b := (p + 6)) (by omega) (by omega)).mpr z)
    refine ab_iload_n dX6_takesWord_18 rfl ?_
    refine ab_aload_n dX6_takesWord_19 rfl ?_
    refine ab_getf dX6_takesWord_20 fl_X6_23 rfl rfl ?_
    refine ab_icmpge 40 dX6_takesWord_23 (by decide) (fun h_2 => ?_) (fun h_2 => ?_)
    · have h_2n := (nI_leI (a := n) (b := (p + 6)) (by omega) (by omega)).mp h_2
      refine ab_iconst (v := 0) dX6_takesWord_40 (by decide) ?_
      refine ab_istore_n (la' := [(3, .int 0), (2, .int (nI (p + 6))), (0, .ref 1), (1, .ref 3004)]) dX6_takesWord_41 (by decide) rfl ?_
      refine ab_iload_n dX6_takesWord_42 rfl ?_
      refine ab_aload_n dX6_takesWord_43 rfl ?_
      refine ab_callT (j := 4) (As := []) (rest := [.int 0]) dX6_takesWord_44 mT_J0_length_8abf5 ml_X6_124 ⟨by decide, by decide, rfl, rfl, rfl⟩ (by decide) rfl rfl (Nat.le_of_ble_eq_true rfl) (by decide) c_slen_4 ?_
      rintro r w' ⟨rfl, rfl⟩
      refine ab_icmpge 77 dX6_takesWord_47 (by decide) (fun h_3 => absurd h_3 (by decide)) (fun h_3 => ?_)
      refine ab_aload_n dX6_takesWord_50 rfl ?_
      refine ab_getf dX6_takesWord_51 fl_X6_11 rfl rfl ?_
      refine ab_aload_n dX6_takesWord_54 rfl ?_
      refine ab_getf dX6_takesWord_55 fl_X6_26 rfl rfl ?_
      refine ab_iload_n dX6_takesWord_58 rfl ?_
      refine ab_iadd dX6_takesWord_59 ?_
      refine ab_topi (v := (nI p)) (Int32.add_zero _) ?_
      refine ab_bald (j := p) dX6_takesWord_60 rfl (ix_nI (by omega) (by decide)) ?_
      refine ab_topi (v := (sgn (u (p + 0)))) (h_u p (by omega)).2 ?_
      refine ab_aload_n dX6_takesWord_61 rfl ?_
      refine ab_iload_n dX6_takesWord_62 rfl ?_
      refine ab_callT (j := 4) (As := [.int 0]) (rest := [.int (sgn (u (p + 0)))]) dX6_takesWord_63 mT_J0_charAt_5068e ml_X6_132 ⟨by decide, by decide, rfl, rfl, rfl⟩ (by decide) rfl rfl (Nat.le_of_ble_eq_true rfl) (by decide) c_chr_4_0 ?_
      rintro r w' ⟨rfl, rfl⟩
      refine ab_icmpeq 71 dX6_takesWord_66 (by decide) (fun h_4 => ?_) (fun h_4 => ?_)
      · refine ab_iinc (v := 1) (la' := [(3, .int 1), (2, .int (nI (p + 6))), (0, .ref 1), (1, .ref 3004)]) dX6_takesWord_71 rfl (by decide) (by decide) rfl ?_
        refine ab_goto 42 dX6_takesWord_74 (by decide) ?_
        refine ab_iload_n dX6_takesWord_42 rfl ?_
        refine ab_aload_n dX6_takesWord_43 rfl ?_
        refine ab_callT (j := 4) (As := []) (rest := [.int 1]) dX6_takesWord_44 mT_J0_length_8abf5 ml_X6_124 ⟨by decide, by decide, rfl, rfl, rfl⟩ (by decide) rfl rfl (Nat.le_of_ble_eq_true rfl) (by decide) c_slen_4 ?_
        rintro r w' ⟨rfl, rfl⟩
        refine ab_icmpge 77 dX6_takesWord_47 (by decide) (fun h_5 => absurd h_5 (by decide)) (fun h_5 => ?_)
        refine ab_aload_n dX6_takesWord_50 rfl ?_
        refine ab_getf dX6_takesWord_51 fl_X6_11 rfl rfl ?_
        refine ab_aload_n dX6_takesWord_54 rfl ?_
        refine ab_getf dX6_takesWord_55 fl_X6_26 rfl rfl ?_
        refine ab_iload_n dX6_takesWord_58 rfl ?_
        refine ab_iadd dX6_takesWord_59 ?_
        refine ab_topi (v := (nI (p + 1))) (nI_1 _) ?_
        refine ab_bald (j := (p + 1)) dX6_takesWord_60 rfl (ix_nI (by omega) (by decide)) ?_
        refine ab_topi (v := (sgn (u (p + 1)))) (h_u (p + 1) (by omega)).2 ?_
        refine ab_aload_n dX6_takesWord_61 rfl ?_
        refine ab_iload_n dX6_takesWord_62 rfl ?_
        refine ab_callT (j := 4) (As := [.int 1]) (rest := [.int (sgn (u (p + 1)))]) dX6_takesWord_63 mT_J0_charAt_5068e ml_X6_132 ⟨by decide, by decide, rfl, rfl, rfl⟩ (by decide) rfl rfl (Nat.le_of_ble_eq_true rfl) (by decide) c_chr_4_1 ?_
        rintro r w' ⟨rfl, rfl⟩
        refine ab_icmpeq 71 dX6_takesWord_66 (by decide) (fun h_6 => ?_) (fun h_6 => ?_)
        · refine ab_iinc (v := 2) (la' := [(3, .int 2), (2, .int (nI (p + 6))), (0, .ref 1), (1, .ref 3004)]) dX6_takesWord_71 rfl (by decide) (by decide) rfl ?_
          refine ab_goto 42 dX6_takesWord_74 (by decide) ?_
          refine ab_iload_n dX6_takesWord_42 rfl ?_
          refine ab_aload_n dX6_takesWord_43 rfl ?_
          refine ab_callT (j := 4) (As := []) (rest := [.int 2]) dX6_takesWord_44 mT_J0_length_8abf5 ml_X6_124 ⟨by decide, by decide, rfl, rfl, rfl⟩ (by decide) rfl rfl (Nat.le_of_ble_eq_true rfl) (by decide) c_slen_4 ?_
          rintro r w' ⟨rfl, rfl⟩
          refine ab_icmpge 77 dX6_takesWord_47 (by decide) (fun h_7 => absurd h_7 (by decide)) (fun h_7 => ?_)
          refine ab_aload_n dX6_takesWord_50 rfl ?_
          refine ab_getf dX6_takesWord_51 fl_X6_11 rfl rfl ?_
          refine ab_aload_n dX6_takesWord_54 rfl ?_
          refine ab_getf dX6_takesWord_55 fl_X6_26 rfl rfl ?_
          refine ab_iload_n dX6_takesWord_58 rfl ?_
          refine ab_iadd dX6_takesWord_59 ?_
          refine ab_topi (v := (nI (p + 2))) (nI_add _ 2) ?_
          refine ab_bald (j := (p + 2)) dX6_takesWord_60 rfl (ix_nI (by omega) (by decide)) ?_
          refine ab_topi (v := (sgn (u (p + 2)))) (h_u (p + 2) (by omega)).2 ?_
          refine ab_aload_n dX6_takesWord_61 rfl ?_
          refine ab_iload_n dX6_takesWord_62 rfl ?_
          refine ab_callT (j := 4) (As := [.int 2]) (rest := [.int (sgn (u (p + 2)))]) dX6_takesWord_63 mT_J0_charAt_5068e ml_X6_132 ⟨by decide, by decide, rfl, rfl, rfl⟩ (by decide) rfl rfl (Nat.le_of_ble_eq_true rfl) (by decide) c_chr_4_2 ?_
          rintro r w' ⟨rfl, rfl⟩
          refine ab_icmpeq 71 dX6_takesWord_66 (by decide) (fun h_8 => ?_) (fun h_8 => ?_)
          · refine ab_iinc (v := 3) (la' := [(3, .int 3), (2, .int (nI (p + 6))), (0, .ref 1), (1, .ref 3004)]) dX6_takesWord_71 rfl (by decide) (by decide) rfl ?_
            refine ab_goto 42 dX6_takesWord_74 (by decide) ?_
            refine ab_iload_n dX6_takesWord_42 rfl ?_
            refine ab_aload_n dX6_takesWord_43 rfl ?_
            refine ab_callT (j := 4) (As := []) (rest := [.int 3]) dX6_takesWord_44 mT_J0_length_8abf5 ml_X6_124 ⟨by decide, by decide, rfl, rfl, rfl⟩ (by decide) rfl rfl (Nat.le_of_ble_eq_true rfl) (by decide) c_slen_4 ?_
            rintro r w' ⟨rfl, rfl⟩
            refine ab_icmpge 77 dX6_takesWord_47 (by decide) (fun h_9 => absurd h_9 (by decide)) (fun h_9 => ?_)
            refine ab_aload_n dX6_takesWord_50 rfl ?_
            refine ab_getf dX6_takesWord_51 fl_X6_11 rfl rfl ?_
            refine ab_aload_n dX6_takesWord_54 rfl ?_
            refine ab_getf dX6_takesWord_55 fl_X6_26 rfl rfl ?_
            refine ab_iload_n dX6_takesWord_58 rfl ?_
            refine ab_iadd dX6_takesWord_59 ?_
            refine ab_topi (v := (nI (p + 3))) (nI_add _ 3) ?_
            refine ab_bald (j := (p + 3)) dX6_takesWord_60 rfl (ix_nI (by omega) (by decide)) ?_
            refine ab_topi (v := (sgn (u (p + 3)))) (h_u (p + 3) (by omega)).2 ?_
            refine ab_aload_n dX6_takesWord_61 rfl ?_
            refine ab_iload_n dX6_takesWord_62 rfl ?_
            refine ab_callT (j := 4) (As := [.int 3]) (rest := [.int (sgn (u (p + 3)))]) dX6_takesWord_63 mT_J0_charAt_5068e ml_X6_132 ⟨by decide, by decide, rfl, rfl, rfl⟩ (by decide) rfl rfl (Nat.le_of_ble_eq_true rfl) (by decide) c_chr_4_3 ?_
            rintro r w' ⟨rfl, rfl⟩
            refine ab_icmpeq 71 dX6_takesWord_66 (by decide) (fun h_10 => ?_) (fun h_10 => ?_)
            · refine ab_iinc (v := 4) (la' := [(3, .int 4), (2, .int (nI (p + 6))), (0, .ref 1), (1, .ref 3004)]) dX6_takesWord_71 rfl (by decide) (by decide) rfl ?_
              refine ab_goto 42 dX6_takesWord_74 (by decide) ?_
              refine ab_iload_n dX6_takesWord_42 rfl ?_
              refine ab_aload_n dX6_takesWord_43 rfl ?_
              refine ab_callT (j := 4) (As := []) (rest := [.int 4]) dX6_takesWord_44 mT_J0_length_8abf5 ml_X6_124 ⟨by decide, by decide, rfl, rfl, rfl⟩ (by decide) rfl rfl (Nat.le_of_ble_eq_true rfl) (by decide) c_slen_4 ?_
              rintro r w' ⟨rfl, rfl⟩
              refine ab_icmpge 77 dX6_takesWord_47 (by decide) (fun h_11 => absurd h_11 (by decide)) (fun h_11 => ?_)
              refine ab_aload_n dX6_takesWord_50 rfl ?_
              refine ab_getf dX6_takesWord_51 fl_X6_11 rfl rfl ?_
              refine ab_aload_n dX6_takesWord_54 rfl ?_
              refine ab_getf dX6_takesWord_55 fl_X6_26 rfl rfl ?_
              refine ab_iload_n dX6_takesWord_58 rfl ?_
              refine ab_iadd dX6_takesWord_59 ?_
              refine ab_topi (v := (nI (p + 4))) (nI_add _ 4) ?_
              refine ab_bald (j := (p + 4)) dX6_takesWord_60 rfl (ix_nI (by omega) (by decide)) ?_
              refine ab_topi (v := (sgn (u (p + 4)))) (h_u (p + 4) (by omega)).2 ?_
              refine ab_aload_n dX6_takesWord_61 rfl ?_
              refine ab_iload_n dX6_takesWord_62 rfl ?_
              refine ab_callT (j := 4) (As := [.int 4]) (rest := [.int (sgn (u (p + 4)))]) dX6_takesWord_63 mT_J0_charAt_5068e ml_X6_132 ⟨by decide, by decide, rfl, rfl, rfl⟩ (by decide) rfl rfl (Nat.le_of_ble_eq_true rfl) (by decide) c_chr_4_4 ?_
              rintro r w' ⟨rfl, rfl⟩
              refine ab_icmpeq 71 dX6_takesWord_66 (by decide) (fun h_12 => ?_) (fun h_12 => ?_)
              · refine ab_iinc (v := 5) (la' := [(3, .int 5), (2, .int (nI (p + 6))), (0, .ref 1), (1, .ref 3004)]) dX6_takesWord_71 rfl (by decide) (by decide) rfl ?_
                refine ab_goto 42 dX6_takesWord_74 (by decide) ?_
                refine ab_iload_n dX6_takesWord_42 rfl ?_
                refine ab_aload_n dX6_takesWord_43 rfl ?_
                refine ab_callT (j := 4) (As := []) (rest := [.int 5]) dX6_takesWord_44 mT_J0_length_8abf5 ml_X6_124 ⟨by decide, by decide, rfl, rfl, rfl⟩ (by decide) rfl rfl (Nat.le_of_ble_eq_true rfl) (by decide) c_slen_4 ?_
                rintro r w' ⟨rfl, rfl⟩
                refine ab_icmpge 77 dX6_takesWord_47 (by decide) (fun h_13 => absurd h_13 (by decide)) (fun h_13 => ?_)
                refine ab_aload_n dX6_takesWord_50 rfl ?_
                refine ab_getf dX6_takesWord_51 fl_X6_11 rfl rfl ?_
                refine ab_aload_n dX6_takesWord_54 rfl ?_
                refine ab_getf dX6_takesWord_55 fl_X6_26 rfl rfl ?_
                refine ab_iload_n dX6_takesWord_58 rfl ?_
                refine ab_iadd dX6_takesWord_59 ?_
                refine ab_topi (v := (nI (p + 5))) (nI_add _ 5) ?_
                refine ab_bald (j := (p + 5)) dX6_takesWord_60 rfl (ix_nI (by omega) (by decide)) ?_
                refine ab_topi (v := (sgn (u (p + 5)))) (h_u (p + 5) (by omega)).2 ?_
                refine ab_aload_n dX6_takesWord_61 rfl ?_
                refine ab_iload_n dX6_takesWord_62 rfl ?_
                refine ab_callT (j := 4) (As := [.int 5]) (rest := [.int (sgn (u (p + 5)))]) dX6_takesWord_63 mT_J0_charAt_5068e ml_X6_132 ⟨by decide, by decide, rfl, rfl, rfl⟩ (by decide) rfl rfl (Nat.le_of_ble_eq_true rfl) (by decide) c_chr_4_5 ?_
                rintro r w' ⟨rfl, rfl⟩
                refine ab_icmpeq 71 dX6_takesWord_66 (by decide) (fun h_14 => ?_) (fun h_14 => ?_)
                · refine ab_iinc (v := 6) (la' := [(3, .int 6), (2, .int (nI (p + 6))), (0, .ref 1), (1, .ref 3004)]) dX6_takesWord_71 rfl (by decide) (by decide) rfl ?_
                  refine ab_goto 42 dX6_takesWord_74 (by decide) ?_
                  refine ab_iload_n dX6_takesWord_42 rfl ?_
                  refine ab_aload_n dX6_takesWord_43 rfl ?_
                  refine ab_callT (j := 4) (As := []) (rest := [.int 6]) dX6_takesWord_44 mT_J0_length_8abf5 ml_X6_124 ⟨by decide, by decide, rfl, rfl, rfl⟩ (by decide) rfl rfl (Nat.le_of_ble_eq_true rfl) (by decide) c_slen_4 ?_
                  rintro r w' ⟨rfl, rfl⟩
                  refine ab_icmpge 77 dX6_takesWord_47 (by decide) (fun h_15 => ?_) (fun h_15 => absurd (by decide) h_15)
                  refine ab_aload_n dX6_takesWord_77 rfl ?_
                  refine ab_iload_n dX6_takesWord_78 rfl ?_
                  refine ab_putf (w1 := ([x0, ob 6 [.ref 2, .ref 3, .int f1_2, .int (nI n), .int (nI (p + 6)), .int f1_5, .int f1_6], ba 700 r2, ia 4 r3, x4, x5, x6, x7, x8, x9, x10, x11, x12, x13, x14, x15, x16, x17, x18, x19, x20, x21, x22, x23, x24, x25, x26, x27, x28, x29, x30, x31, x32], wm)) dX6_takesWord_79 fl_X6_26 rfl (Nat.le_of_ble_eq_true rfl) (fun _ => ⟨rfl, rfl⟩) rfl ?_
                  refine ab_iconst (v := 1) dX6_takesWord_82 (by decide) ?_
                  exact ab_zret dX6_takesWord_83 rfl rfl (by decide) (Or.inl (⟨⟨by omega, (fun z => absurd z.1 (by omega)), (sgn_c (c := 103) (h_u (p + 0) (by omega)).1 (by decide) rfl).mp h_4, (sgn_c (c := 114) (h_u (p + 1) (by omega)).1 (by decide) rfl).mp h_6, (sgn_c (c := 111) (h_u (p + 2) (by omega)).1 (by decide) rfl).mp h_8, (sgn_c (c := 117) (h_u (p + 3) (by omega)).1 (by decide) rfl).mp h_10, (sgn_c (c := 110) (h_u (p + 4) (by omega)).1 (by decide) rfl).mp h_12, (sgn_c (c := 100) (h_u (p + 5) (by omega)).1 (by decide) rfl).mp h_14⟩, rfl, rfl⟩))
                · refine ab_iconst (v := 0) dX6_takesWord_69 (by decide) ?_
                  exact ab_zret dX6_takesWord_70 rfl rfl (by decide) (Or.inr (⟨fun z => h_14 ((sgn_c (c := 100) (h_u (p + 5) (by omega)).1 (by decide) rfl).mpr z.2.2.2.2.2.2.2), rfl, rfl⟩))
              · refine ab_iconst (v := 0) dX6_takesWord_69 (by decide) ?_
                exact ab_zret dX6_takesWord_70 rfl rfl (by decide) (Or.inr (⟨fun z => h_12 ((sgn_c (c := 110) (h_u (p + 4) (by omega)).1 (by decide) rfl).mpr z.2.2.2.2.2.2.1), rfl, rfl⟩))
            · refine ab_iconst (v := 0) dX6_takesWord_69 (by decide) ?_
              exact ab_zret dX6_takesWord_70 rfl rfl (by decide) (Or.inr (⟨fun z => h_10 ((sgn_c (c := 117) (h_u (p + 3) (by omega)).1 (by decide) rfl).mpr z.2.2.2.2.2.1), rfl, rfl⟩))
          · refine ab_iconst (v := 0) dX6_takesWord_69 (by decide) ?_
            exact ab_zret dX6_takesWord_70 rfl rfl (by decide) (Or.inr (⟨fun z => h_8 ((sgn_c (c := 111) (h_u (p + 2) (by omega)).1 (by decide) rfl).mpr z.2.2.2.2.1), rfl, rfl⟩))
        · refine ab_iconst (v := 0) dX6_takesWord_69 (by decide) ?_
          exact ab_zret dX6_takesWord_70 rfl rfl (by decide) (Or.inr (⟨fun z => h_6 ((sgn_c (c := 114) (h_u (p + 1) (by omega)).1 (by decide) rfl).mpr z.2.2.2.1), rfl, rfl⟩))
      · refine ab_iconst (v := 0) dX6_takesWord_69 (by decide) ?_
        exact ab_zret dX6_takesWord_70 rfl rfl (by decide) (Or.inr (⟨fun z => h_4 ((sgn_c (c := 103) (h_u (p + 0) (by omega)).1 (by decide) rfl).mpr z.2.2.1), rfl, rfl⟩))
    · have h_2n : ¬ _ := fun z => h_2 ((nI_leI (a := n) (b := (p + 6)) (by omega) (by omega)).mpr z)
      refine ab_aload_n dX6_takesWord_26 rfl ?_
      refine ab_getf dX6_takesWord_27 fl_X6_11 rfl rfl ?_
      refine ab_iload_n dX6_takesWord_30 rfl ?_
      refine ab_bald (j := (p + 6)) dX6_takesWord_31 rfl (ix_nI (by omega) (by decide)) ?_
      refine ab_topi (v := (sgn (u (p + 6)))) (h_u (p + 6) (by omega)).2 ?_
      refine ab_callS (As := [.int (sgn (u (p + 6)))]) (rest := []) dX6_takesWord_32 ms_X6_isLetter ml_X6_129 ⟨by decide, by decide, rfl, rfl, rfl⟩ (by decide) rfl rfl (Nat.le_of_ble_eq_true rfl) c_X6_isLetter ?_
      rintro r w' (⟨c_16, rfl, rfl⟩ | ⟨c_17, rfl, rfl⟩)
      · refine ab_ifeq 40 dX6_takesWord_35 (by decide) (fun h_18 => absurd h_18 (by decide)) (fun h_18 => ?_)
        refine ab_iconst (v := 0) dX6_takesWord_38 (by decide) ?_
        exact ab_zret dX6_takesWord_39 rfl rfl (by decide) (Or.inr (⟨fun z => z.2.1 ⟨by omega, (isL_s (h_u _ (by omega)).1).mp c_16⟩, rfl, rfl⟩))
      · refine ab_ifeq 40 dX6_takesWord_35 (by decide) (fun h_19 => ?_) (fun h_19 => absurd (by decide) h_19)
        refine ab_iconst (v := 0) dX6_takesWord_40 (by decide) ?_
        refine ab_istore_n (la' := [(3, .int 0), (2, .int (nI (p + 6))), (0, .ref 1), (1, .ref 3004)]) dX6_takesWord_41 (by decide) rfl ?_
        refine ab_iload_n dX6_takesWord_42 rfl ?_
        refine ab_aload_n dX6_takesWord_43 rfl ?_
        refine ab_callT (j := 4) (As := []) (rest := [.int 0]) dX6_takesWord_44 mT_J0_length_8abf5 ml_X6_124 ⟨by decide, by decide, rfl, rfl, rfl⟩ (by decide) rfl rfl (Nat.le_of_ble_eq_true rfl) (by decide) c_slen_4 ?_
        rintro r w' ⟨rfl, rfl⟩
        refine ab_icmpge 77 dX6_takesWord_47 (by decide) (fun h_20 => absurd h_20 (by decide)) (fun h_20 => ?_)
        refine ab_aload_n dX6_takesWord_50 rfl ?_
        refine ab_getf dX6_takesWord_51 fl_X6_11 rfl rfl ?_
        refine ab_aload_n dX6_takesWord_54 rfl ?_
        refine ab_getf dX6_takesWord_55 fl_X6_26 rfl rfl ?_
        refine ab_iload_n dX6_takesWord_58 rfl ?_
        refine ab_iadd dX6_takesWord_59 ?_
        refine ab_topi (v := (nI p)) (Int32.add_zero _) ?_
        refine ab_bald (j := p) dX6_takesWord_60 rfl (ix_nI (by omega) (by decide)) ?_
        refine ab_topi (v := (sgn (u (p + 0)))) (h_u p (by omega)).2 ?_
        refine ab_aload_n dX6_takesWord_61 rfl ?_
        refine ab_iload_n dX6_takesWord_62 rfl ?_
        refine ab_callT (j := 4) (As := [.int 0]) (rest := [.int (sgn (u (p + 0)))]) dX6_takesWord_63 mT_J0_charAt_5068e ml_X6_132 ⟨by decide, by decide, rfl, rfl, rfl⟩ (by decide) rfl rfl (Nat.le_of_ble_eq_true rfl) (by decide) c_chr_4_0 ?_
        rintro r w' ⟨rfl, rfl⟩
        refine ab_icmpeq 71 dX6_takesWord_66 (by decide) (fun h_21 => ?_) (fun h_21 => ?_)
        · refine ab_iinc (v := 1) (la' := [(3, .int 1), (2, .int (nI (p + 6))), (0, .ref 1), (1, .ref 3004)]) dX6_takesWord_71 rfl (by decide) (by decide) rfl ?_
          refine ab_goto 42 dX6_takesWord_74 (by decide) ?_
          refine ab_iload_n dX6_takesWord_42 rfl ?_
          refine ab_aload_n dX6_takesWord_43 rfl ?_
          refine ab_callT (j := 4) (As := []) (rest := [.int 1]) dX6_takesWord_44 mT_J0_length_8abf5 ml_X6_124 ⟨by decide, by decide, rfl, rfl, rfl⟩ (by decide) rfl rfl (Nat.le_of_ble_eq_true rfl) (by decide) c_slen_4 ?_
          rintro r w' ⟨rfl, rfl⟩
          refine ab_icmpge 77 dX6_takesWord_47 (by decide) (fun h_22 => absurd h_22 (by decide)) (fun h_22 => ?_)
          refine ab_aload_n dX6_takesWord_50 rfl ?_
          refine ab_getf dX6_takesWord_51 fl_X6_11 rfl rfl ?_
          refine ab_aload_n dX6_takesWord_54 rfl ?_
          refine ab_getf dX6_takesWord_55 fl_X6_26 rfl rfl ?_
          refine ab_iload_n dX6_takesWord_58 rfl ?_
          refine ab_iadd dX6_takesWord_59 ?_
          refine ab_topi (v := (nI (p + 1))) (nI_1 _) ?_
          refine ab_bald (j := (p + 1)) dX6_takesWord_60 rfl (ix_nI (by omega) (by decide)) ?_
          refine ab_topi (v := (sgn (u (p + 1)))) (h_u (p + 1) (by omega)).2 ?_
          refine ab_aload_n dX6_takesWord_61 rfl ?_
          refine ab_iload_n dX6_takesWord_62 rfl ?_
          refine ab_callT (j := 4) (As := [.int 1]) (rest := [.int (sgn (u (p + 1)))]) dX6_takesWord_63 mT_J0_charAt_5068e ml_X6_132 ⟨by decide, by decide, rfl, rfl, rfl⟩ (by decide) rfl rfl (Nat.le_of_ble_eq_true rfl) (by decide) c_chr_4_1 ?_
          rintro r w' ⟨rfl, rfl⟩
          refine ab_icmpeq 71 dX6_takesWord_66 (by decide) (fun h_23 => ?_) (fun h_23 => ?_)
          · refine ab_iinc (v := 2) (la' := [(3, .int 2), (2, .int (nI (p + 6))), (0, .ref 1), (1, .ref 3004)]) dX6_takesWord_71 rfl (by decide) (by decide) rfl ?_
            refine ab_goto 42 dX6_takesWord_74 (by decide) ?_
            refine ab_iload_n dX6_takesWord_42 rfl ?_
            refine ab_aload_n dX6_takesWord_43 rfl ?_
            refine ab_callT (j := 4) (As := []) (rest := [.int 2]) dX6_takesWord_44 mT_J0_length_8abf5 ml_X6_124 ⟨by decide, by decide, rfl, rfl, rfl⟩ (by decide) rfl rfl (Nat.le_of_ble_eq_true rfl) (by decide) c_slen_4 ?_
            rintro r w' ⟨rfl, rfl⟩
            refine ab_icmpge 77 dX6_takesWord_47 (by decide) (fun h_24 => absurd h_24 (by decide)) (fun h_24 => ?_)
            refine ab_aload_n dX6_takesWord_50 rfl ?_
            refine ab_getf dX6_takesWord_51 fl_X6_11 rfl rfl ?_
            refine ab_aload_n dX6_takesWord_54 rfl ?_
            refine ab_getf dX6_takesWord_55 fl_X6_26 rfl rfl ?_
            refine ab_iload_n dX6_takesWord_58 rfl ?_
            refine ab_iadd dX6_takesWord_59 ?_
            refine ab_topi (v := (nI (p + 2))) (nI_add _ 2) ?_
            refine ab_bald (j := (p + 2)) dX6_takesWord_60 rfl (ix_nI (by omega) (by decide)) ?_
            refine ab_topi (v := (sgn (u (p + 2)))) (h_u (p + 2) (by omega)).2 ?_
            refine ab_aload_n dX6_takesWord_61 rfl ?_
            refine ab_iload_n dX6_takesWord_62 rfl ?_
            refine ab_callT (j := 4) (As := [.int 2]) (rest := [.int (sgn (u (p + 2)))]) dX6_takesWord_63 mT_J0_charAt_5068e ml_X6_132 ⟨by decide, by decide, rfl, rfl, rfl⟩ (by decide) rfl rfl (Nat.le_of_ble_eq_true rfl) (by decide) c_chr_4_2 ?_
            rintro r w' ⟨rfl, rfl⟩
            refine ab_icmpeq 71 dX6_takesWord_66 (by decide) (fun h_25 => ?_) (fun h_25 => ?_)
            · refine ab_iinc (v := 3) (la' := [(3, .int 3), (2, .int (nI (p + 6))), (0, .ref 1), (1, .ref 3004)]) dX6_takesWord_71 rfl (by decide) (by decide) rfl ?_
              refine ab_goto 42 dX6_takesWord_74 (by decide) ?_
              refine ab_iload_n dX6_takesWord_42 rfl ?_
              refine ab_aload_n dX6_takesWord_43 rfl ?_
              refine ab_callT (j := 4) (As := []) (rest := [.int 3]) dX6_takesWord_44 mT_J0_length_8abf5 ml_X6_124 ⟨by decide, by decide, rfl, rfl, rfl⟩ (by decide) rfl rfl (Nat.le_of_ble_eq_true rfl) (by decide) c_slen_4 ?_
              rintro r w' ⟨rfl, rfl⟩
              refine ab_icmpge 77 dX6_takesWord_47 (by decide) (fun h_26 => absurd h_26 (by decide)) (fun h_26 => ?_)
              refine ab_aload_n dX6_takesWord_50 rfl ?_
              refine ab_getf dX6_takesWord_51 fl_X6_11 rfl rfl ?_
              refine ab_aload_n dX6_takesWord_54 rfl ?_
              refine ab_getf dX6_takesWord_55 fl_X6_26 rfl rfl ?_
              refine ab_iload_n dX6_takesWord_58 rfl ?_
              refine ab_iadd dX6_takesWord_59 ?_
              refine ab_topi (v := (nI (p + 3))) (nI_add _ 3) ?_
              refine ab_bald (j := (p + 3)) dX6_takesWord_60 rfl (ix_nI (by omega) (by decide)) ?_
              refine ab_topi (v := (sgn (u (p + 3)))) (h_u (p + 3) (by omega)).2 ?_
              refine ab_aload_n dX6_takesWord_61 rfl ?_
              refine ab_iload_n dX6_takesWord_62 rfl ?_
              refine ab_callT (j := 4) (As := [.int 3]) (rest := [.int (sgn (u (p + 3)))]) dX6_takesWord_63 mT_J0_charAt_5068e ml_X6_132 ⟨by decide, by decide, rfl, rfl, rfl⟩ (by decide) rfl rfl (Nat.le_of_ble_eq_true rfl) (by decide) c_chr_4_3 ?_
              rintro r w' ⟨rfl, rfl⟩
              refine ab_icmpeq 71 dX6_takesWord_66 (by decide) (fun h_27 => ?_) (fun h_27 => ?_)
              · refine ab_iinc (v := 4) (la' := [(3, .int 4), (2, .int (nI (p + 6))), (0, .ref 1), (1, .ref 3004)]) dX6_takesWord_71 rfl (by decide) (by decide) rfl ?_
                refine ab_goto 42 dX6_takesWord_74 (by decide) ?_
                refine ab_iload_n dX6_takesWord_42 rfl ?_
                refine ab_aload_n dX6_takesWord_43 rfl ?_
                refine ab_callT (j := 4) (As := []) (rest := [.int 4]) dX6_takesWord_44 mT_J0_length_8abf5 ml_X6_124 ⟨by decide, by decide, rfl, rfl, rfl⟩ (by decide) rfl rfl (Nat.le_of_ble_eq_true rfl) (by decide) c_slen_4 ?_
                rintro r w' ⟨rfl, rfl⟩
                refine ab_icmpge 77 dX6_takesWord_47 (by decide) (fun h_28 => absurd h_28 (by decide)) (fun h_28 => ?_)
                refine ab_aload_n dX6_takesWord_50 rfl ?_
                refine ab_getf dX6_takesWord_51 fl_X6_11 rfl rfl ?_
                refine ab_aload_n dX6_takesWord_54 rfl ?_
                refine ab_getf dX6_takesWord_55 fl_X6_26 rfl rfl ?_
                refine ab_iload_n dX6_takesWord_58 rfl ?_
                refine ab_iadd dX6_takesWord_59 ?_
                refine ab_topi (v := (nI (p + 4))) (nI_add _ 4) ?_
                refine ab_bald (j := (p + 4)) dX6_takesWord_60 rfl (ix_nI (by omega) (by decide)) ?_
                refine ab_topi (v := (sgn (u (p + 4)))) (h_u (p + 4) (by omega)).2 ?_
                refine ab_aload_n dX6_takesWord_61 rfl ?_
                refine ab_iload_n dX6_takesWord_62 rfl ?_
                refine ab_callT (j := 4) (As := [.int 4]) (rest := [.int (sgn (u (p + 4)))]) dX6_takesWord_63 mT_J0_charAt_5068e ml_X6_132 ⟨by decide, by decide, rfl, rfl, rfl⟩ (by decide) rfl rfl (Nat.le_of_ble_eq_true rfl) (by decide) c_chr_4_4 ?_
                rintro r w' ⟨rfl, rfl⟩
                refine ab_icmpeq 71 dX6_takesWord_66 (by decide) (fun h_29 => ?_) (fun h_29 => ?_)
                · refine ab_iinc (v := 5) (la' := [(3, .int 5), (2, .int (nI (p + 6))), (0, .ref 1), (1, .ref 3004)]) dX6_takesWord_71 rfl (by decide) (by decide) rfl ?_
                  refine ab_goto 42 dX6_takesWord_74 (by decide) ?_
                  refine ab_iload_n dX6_takesWord_42 rfl ?_
                  refine ab_aload_n dX6_takesWord_43 rfl ?_
                  refine ab_callT (j := 4) (As := []) (rest := [.int 5]) dX6_takesWord_44 mT_J0_length_8abf5 ml_X6_124 ⟨by decide, by decide, rfl, rfl, rfl⟩ (by decide) rfl rfl (Nat.le_of_ble_eq_true rfl) (by decide) c_slen_4 ?_
                  rintro r w' ⟨rfl, rfl⟩
                  refine ab_icmpge 77 dX6_takesWord_47 (by decide) (fun h_30 => absurd h_30 (by decide)) (fun h_30 => ?_)
                  refine ab_aload_n dX6_takesWord_50 rfl ?_
                  refine ab_getf dX6_takesWord_51 fl_X6_11 rfl rfl ?_
                  refine ab_aload_n dX6_takesWord_54 rfl ?_
                  refine ab_getf dX6_takesWord_55 fl_X6_26 rfl rfl ?_
                  refine ab_iload_n dX6_takesWord_58 rfl ?_
                  refine ab_iadd dX6_takesWord_59 ?_
                  refine ab_topi (v := (nI (p + 5))) (nI_add _ 5) ?_
                  refine ab_bald (j := (p + 5)) dX6_takesWord_60 rfl (ix_nI (by omega) (by decide)) ?_
                  refine ab_topi (v := (sgn (u (p + 5)))) (h_u (p + 5) (by omega)).2 ?_
                  refine ab_aload_n dX6_takesWord_61 rfl ?_
                  refine ab_iload_n dX6_takesWord_62 rfl ?_
                  refine ab_callT (j := 4) (As := [.int 5]) (rest := [.int (sgn (u (p + 5)))]) dX6_takesWord_63 mT_J0_charAt_5068e ml_X6_132 ⟨by decide, by decide, rfl, rfl, rfl⟩ (by decide) rfl rfl (Nat.le_of_ble_eq_true rfl) (by decide) c_chr_4_5 ?_
                  rintro r w' ⟨rfl, rfl⟩
                  refine ab_icmpeq 71 dX6_takesWord_66 (by decide) (fun h_31 => ?_) (fun h_31 => ?_)
                  · refine ab_iinc (v := 6) (la' := [(3, .int 6), (2, .int (nI (p + 6))), (0, .ref 1), (1, .ref 3004)]) dX6_takesWord_71 rfl (by decide) (by decide) rfl ?_
                    refine ab_goto 42 dX6_takesWord_74 (by decide) ?_
                    refine ab_iload_n dX6_takesWord_42 rfl ?_
                    refine ab_aload_n dX6_takesWord_43 rfl ?_
                    refine ab_callT (j := 4) (As := []) (rest := [.int 6]) dX6_takesWord_44 mT_J0_length_8abf5 ml_X6_124 ⟨by decide, by decide, rfl, rfl, rfl⟩ (by decide) rfl rfl (Nat.le_of_ble_eq_true rfl) (by decide) c_slen_4 ?_
                    rintro r w' ⟨rfl, rfl⟩
                    refine ab_icmpge 77 dX6_takesWord_47 (by decide) (fun h_32 => ?_) (fun h_32 => absurd (by decide) h_32)
                    refine ab_aload_n dX6_takesWord_77 rfl ?_
                    refine ab_iload_n dX6_takesWord_78 rfl ?_
                    refine ab_putf (w1 := ([x0, ob 6 [.ref 2, .ref 3, .int f1_2, .int (nI n), .int (nI (p + 6)), .int f1_5, .int f1_6], ba 700 r2, ia 4 r3, x4, x5, x6, x7, x8, x9, x10, x11, x12, x13, x14, x15, x16, x17, x18, x19, x20, x21, x22, x23, x24, x25, x26, x27, x28, x29, x30, x31, x32], wm)) dX6_takesWord_79 fl_X6_26 rfl (Nat.le_of_ble_eq_true rfl) (fun _ => ⟨rfl, rfl⟩) rfl ?_
                    refine ab_iconst (v := 1) dX6_takesWord_82 (by decide) ?_
                    exact ab_zret dX6_takesWord_83 rfl rfl (by decide) (Or.inl (⟨⟨by omega, (fun z => c_17 ((isL_s (h_u _ (by omega)).1).mpr z.2)), (sgn_c (c := 103) (h_u (p + 0) (by omega)).1 (by decide) rfl).mp h_21, (sgn_c (c := 114) (h_u (p + 1) (by omega)).1 (by decide) rfl).mp h_23, (sgn_c (c := 111) (h_u (p + 2) (by omega)).1 (by decide) rfl).mp h_25, (sgn_c (c := 117) (h_u (p + 3) (by omega)).1 (by decide) rfl).mp h_27, (sgn_c (c := 110) (h_u (p + 4) (by omega)).1 (by decide) rfl).mp h_29, (sgn_c (c := 100) (h_u (p + 5) (by omega)).1 (by decide) rfl).mp h_31⟩, rfl, rfl⟩))
                  · refine ab_iconst (v := 0) dX6_takesWord_69 (by decide) ?_
                    exact ab_zret dX6_takesWord_70 rfl rfl (by decide) (Or.inr (⟨fun z => h_31 ((sgn_c (c := 100) (h_u (p + 5) (by omega)).1 (by decide) rfl).mpr z.2.2.2.2.2.2.2), rfl, rfl⟩))
                · refine ab_iconst (v := 0) dX6_takesWord_69 (by decide) ?_
                  exact ab_zret dX6_takesWord_70 rfl rfl (by decide) (Or.inr (⟨fun z => h_29 ((sgn_c (c := 110) (h_u (p + 4) (by omega)).1 (by decide) rfl).mpr z.2.2.2.2.2.2.1), rfl, rfl⟩))
              · refine ab_iconst (v := 0) dX6_takesWord_69 (by decide) ?_
                exact ab_zret dX6_takesWord_70 rfl rfl (by decide) (Or.inr (⟨fun z => h_27 ((sgn_c (c := 117) (h_u (p + 3) (by omega)).1 (by decide) rfl).mpr z.2.2.2.2.2.1), rfl, rfl⟩))
            · refine ab_iconst (v := 0) dX6_takesWord_69 (by decide) ?_
              exact ab_zret dX6_takesWord_70 rfl rfl (by decide) (Or.inr (⟨fun z => h_25 ((sgn_c (c := 111) (h_u (p + 2) (by omega)).1 (by decide) rfl).mpr z.2.2.2.2.1), rfl, rfl⟩))
          · refine ab_iconst (v := 0) dX6_takesWord_69 (by decide) ?_
            exact ab_zret dX6_takesWord_70 rfl rfl (by decide) (Or.inr (⟨fun z => h_23 ((sgn_c (c := 114) (h_u (p + 1) (by omega)).1 (by decide) rfl).mpr z.2.2.2.1), rfl, rfl⟩))
        · refine ab_iconst (v := 0) dX6_takesWord_69 (by decide) ?_
          exact ab_zret dX6_takesWord_70 rfl rfl (by decide) (Or.inr (⟨fun z => h_21 ((sgn_c (c := 103) (h_u (p + 0) (by omega)).1 (by decide) rfl).mpr z.2.2.1), rfl, rfl⟩))
theorem c_X6_takesWord_5 {x0 x4 x5 x6 x7 x8 x9 x10 x11 x12 x13 x14 x15 x16 x17 x18 x19 x20 x21 x22 x23 x24 x25 x26 x27 x28 x29 x30 x31 x32 : ax_E} {f1_2 f1_5 f1_6 : Int32} {r2 r3 : Nat → Int32} {wm : List ax_E} {u : Nat → Nat} {n p : Nat} (h_n : n ≤ 700) (h_u : ∀ k, k < 700 → u k < 256 ∧ r2 k = sgn (u k)) (h_p : p ≤ n) : Ct M_X6_takesWord [.ref 1, .ref 3005] ([x0, ob 6 [.ref 2, .ref 3, .int f1_2, .int (nI n), .int (nI p), .int f1_5, .int f1_6], ba 700 r2, ia 4 r3, x4, x5, x6, x7, x8, x9, x10, x11, x12, x13, x14, x15, x16, x17, x18, x19, x20, x21, x22, x23, x24, x25, x26, x27, x28, x29, x30, x31, x32], wm) (fun r w' => ((wd_5 u n p) ∧ r = some (.int 1) ∧ w' = ([x0, ob 6 [.ref 2, .ref 3, .int f1_2, .int (nI n), .int (nI (p + 5)), .int f1_5, .int f1_6], ba 700 r2, ia 4 r3, x4, x5, x6, x7, x8, x9, x10, x11, x12, x13, x14, x15, x16, x17, x18, x19, x20, x21, x22, x23, x24, x25, x26, x27, x28, x29, x30, x31, x32], wm)) ∨ ((¬ wd_5 u n p) ∧ r = some (.int 0) ∧ w' = ([x0, ob 6 [.ref 2, .ref 3, .int f1_2, .int (nI n), .int (nI p), .int f1_5, .int f1_6], ba 700 r2, ia 4 r3, x4, x5, x6, x7, x8, x9, x10, x11, x12, x13, x14, x15, x16, x17, x18, x19, x20, x21, x22, x23, x24, x25, x26, x27, x28, x29, x30, x31, x32], wm))) := by
  refine ct_of ⟨by decide, rfl⟩ (Nat.le_of_ble_eq_true rfl) ?_
  refine ab_aload_n dX6_takesWord_0 rfl ?_
  refine ab_getf dX6_takesWord_1 fl_X6_26 rfl rfl ?_
  refine ab_aload_n dX6_takesWord_4 rfl ?_
  refine ab_callT (j := 5) (As := []) (rest := [.int (nI p)]) dX6_takesWord_5 mT_J0_length_8abf5 ml_X6_124 ⟨by decide, by decide, rfl, rfl, rfl⟩ (by decide) rfl rfl (Nat.le_of_ble_eq_true rfl) (by decide) c_slen_5 ?_
  rintro r w' ⟨rfl, rfl⟩
  refine ab_iadd dX6_takesWord_8 ?_
  refine ab_topi (v := (nI (p + 5))) (nI_add _ 5) ?_
  refine ab_istore_n (la' := [(2, .int (nI (p + 5))), (0, .ref 1), (1, .ref 3005)]) dX6_takesWord_9 (by decide) rfl ?_
  refine ab_iload_n dX6_takesWord_10 rfl ?_
  refine ab_aload_n dX6_takesWord_11 rfl ?_
  refine ab_getf dX6_takesWord_12 fl_X6_23 rfl rfl ?_
  refine ab_icmpgt 38 dX6_takesWord_15 (by decide) (fun h_1 => ?_) (fun h_1 => ?_)
  · have h_1n := (nI_ltI (a := n) (b := (p + 5)) (by omega) (by omega)).mp h_1
    refine ab_iconst (v := 0) dX6_takesWord_38 (by decide) ?_
    exact ab_zret dX6_takesWord_39 rfl rfl (by decide) (Or.inr (⟨fun z => absurd z.1 (by omega), rfl, rfl⟩))
  · have h_1n : ¬ _ := fun z => h_1 ((nI_ltI (a := n) (b := (p + 5)) (by omega) (by omega)).mpr z)
    refine ab_iload_n dX6_takesWord_18 rfl ?_
    refine ab_aload_n dX6_takesWord_19 rfl ?_
    refine ab_getf dX6_takesWord_20 fl_X6_23 rfl rfl ?_
    refine ab_icmpge 40 dX6_takesWord_23 (by decide) (fun h_2 => ?_) (fun h_2 => ?_)
    · have h_2n := (nI_leI (a := n) (b := (p + 5)) (by omega) (by omega)).mp h_2
      refine ab_iconst (v := 0) dX6_takesWord_40 (by decide) ?_
      refine ab_istore_n (la' := [(3, .int 0), (2, .int (nI (p + 5))), (0, .ref 1), (1, .ref 3005)]) dX6_takesWord_41 (by decide) rfl ?_
      refine ab_iload_n dX6_takesWord_42 rfl ?_
      refine ab_aload_n dX6_takesWord_43 rfl ?_
      refine ab_callT (j := 5) (As := []) (rest := [.int 0]) dX6_takesWord_44 mT_J0_length_8abf5 ml_X6_124 ⟨by decide, by decide, rfl, rfl, rfl⟩ (by decide) rfl rfl (Nat.le_of_ble_eq_true rfl) (by decide) c_slen_5 ?_
      rintro r w' ⟨rfl, rfl⟩
      refine ab_icmpge 77 dX6_takesWord_47 (by decide) (fun h_3 => absurd h_3 (by decide)) (fun h_3 => ?_)
      refine ab_aload_n dX6_takesWord_50 rfl ?_
      refine ab_getf dX6_takesWord_51 fl_X6_11 rfl rfl ?_
      refine ab_aload_n dX6_takesWord_54 rfl ?_
      refine ab_getf dX6_takesWord_55 fl_X6_26 rfl rfl ?_
      refine ab_iload_n dX6_takesWord_58 rfl ?_
      refine ab_iadd dX6_takesWord_59 ?_
      refine ab_topi (v := (nI p)) (Int32.add_zero _) ?_
      refine ab_bald (j := p) dX6_takesWord_60 rfl (ix_nI (by omega) (by decide)) ?_
      refine ab_topi (v := (sgn (u (p + 0)))) (h_u p (by omega)).2 ?_
      refine ab_aload_n dX6_takesWord_61 rfl ?_
      refine ab_iload_n dX6_takesWord_62 rfl ?_
      refine ab_callT (j := 5) (As := [.int 0]) (rest := [.int (sgn (u (p + 0)))]) dX6_takesWord_63 mT_J0_charAt_5068e ml_X6_132 ⟨by decide, by decide, rfl, rfl, rfl⟩ (by decide) rfl rfl (Nat.le_of_ble_eq_true rfl) (by decide) c_chr_5_0 ?_
      rintro r w' ⟨rfl, rfl⟩
      refine ab_icmpeq 71 dX6_takesWord_66 (by decide) (fun h_4 => ?_) (fun h_4 => ?_)
      · refine ab_iinc (v := 1) (la' := [(3, .int 1), (2, .int (nI (p + 5))), (0, .ref 1), (1, .ref 3005)]) dX6_takesWord_71 rfl (by decide) (by decide) rfl ?_
        refine ab_goto 42 dX6_takesWord_74 (by decide) ?_
        refine ab_iload_n dX6_takesWord_42 rfl ?_
        refine ab_aload_n dX6_takesWord_43 rfl ?_
        refine ab_callT (j := 5) (As := []) (rest := [.int 1]) dX6_takesWord_44 mT_J0_length_8abf5 ml_X6_124 ⟨by decide, by decide, rfl, rfl, rfl⟩ (by decide) rfl rfl (Nat.le_of_ble_eq_true rfl) (by decide) c_slen_5 ?_
        rintro r w' ⟨rfl, rfl⟩
        refine ab_icmpge 77 dX6_takesWord_47 (by decide) (fun h_5 => absurd h_5 (by decide)) (fun h_5 => ?_)
        refine ab_aload_n dX6_takesWord_50 rfl ?_
        refine ab_getf dX6_takesWord_51 fl_X6_11 rfl rfl ?_
        refine ab_aload_n dX6_takesWord_54 rfl ?_
        refine ab_getf dX6_takesWord_55 fl_X6_26 rfl rfl ?_
        refine ab_iload_n dX6_takesWord_58 rfl ?_
        refine ab_iadd dX6_takesWord_59 ?_
        refine ab_topi (v := (nI (p + 1))) (nI_1 _) ?_
        refine ab_bald (j := (p + 1)) dX6_takesWord_60 rfl (ix_nI (by omega) (by decide)) ?_
        refine ab_topi (v := (sgn (u (p + 1)))) (h_u (p + 1) (by omega)).2 ?_
        refine ab_aload_n dX6_takesWord_61 rfl ?_
        refine ab_iload_n dX6_takesWord_62 rfl ?_
        refine ab_callT (j := 5) (As := [.int 1]) (rest := [.int (sgn (u (p + 1)))]) dX6_takesWord_63 mT_J0_charAt_5068e ml_X6_132 ⟨by decide, by decide, rfl, rfl, rfl⟩ (by decide) rfl rfl (Nat.le_of_ble_eq_true rfl) (by decide) c_chr_5_1 ?_
        rintro r w' ⟨rfl, rfl⟩
        refine ab_icmpeq 71 dX6_takesWord_66 (by decide) (fun h_6 => ?_) (fun h_6 => ?_)
        · refine ab_iinc (v := 2) (la' := [(3, .int 2), (2, .int (nI (p + 5))), (0, .ref 1), (1, .ref 3005)]) dX6_takesWord_71 rfl (by decide) (by decide) rfl ?_
          refine ab_goto 42 dX6_takesWord_74 (by decide) ?_
          refine ab_iload_n dX6_takesWord_42 rfl ?_
          refine ab_aload_n dX6_takesWord_43 rfl ?_
          refine ab_callT (j := 5) (As := []) (rest := [.int 2]) dX6_takesWord_44 mT_J0_length_8abf5 ml_X6_124 ⟨by decide, by decide, rfl, rfl, rfl⟩ (by decide) rfl rfl (Nat.le_of_ble_eq_true rfl) (by decide) c_slen_5 ?_
          rintro r w' ⟨rfl, rfl⟩
          refine ab_icmpge 77 dX6_takesWord_47 (by decide) (fun h_7 => absurd h_7 (by decide)) (fun h_7 => ?_)
          refine ab_aload_n dX6_takesWord_50 rfl ?_
          refine ab_getf dX6_takesWord_51 fl_X6_11 rfl rfl ?_
          refine ab_aload_n dX6_takesWord_54 rfl ?_
          refine ab_getf dX6_takesWord_55 fl_X6_26 rfl rfl ?_
          refine ab_iload_n dX6_takesWord_58 rfl ?_
          refine ab_iadd dX6_takesWord_59 ?_
          refine ab_topi (v := (nI (p + 2))) (nI_add _ 2) ?_
          refine ab_bald (j := (p + 2)) dX6_takesWord_60 rfl (ix_nI (by omega) (by decide)) ?_
          refine ab_topi (v := (sgn (u (p + 2)))) (h_u (p + 2) (by omega)).2 ?_
          refine ab_aload_n dX6_takesWord_61 rfl ?_
          refine ab_iload_n dX6_takesWord_62 rfl ?_
          refine ab_callT (j := 5) (As := [.int 2]) (rest := [.int (sgn (u (p + 2)))]) dX6_takesWord_63 mT_J0_charAt_5068e ml_X6_132 ⟨by decide, by decide, rfl, rfl, rfl⟩ (by decide) rfl rfl (Nat.le_of_ble_eq_true rfl) (by decide) c_chr_5_2 ?_
          rintro r w' ⟨rfl, rfl⟩
          refine ab_icmpeq 71 dX6_takesWord_66 (by decide) (fun h_8 => ?_) (fun h_8 => ?_)
          · refine ab_iinc (v := 3) (la' := [(3, .int 3), (2, .int (nI (p + 5))), (0, .ref 1), (1, .ref 3005)]) dX6_takesWord_71 rfl (by decide) (by decide) rfl ?_
            refine ab_goto 42 dX6_takesWord_74 (by decide) ?_
            refine ab_iload_n dX6_takesWord_42 rfl ?_
            refine ab_aload_n dX6_takesWord_43 rfl ?_
            refine ab_callT (j := 5) (As := []) (rest := [.int 3]) dX6_takesWord_44 mT_J0_length_8abf5 ml_X6_124 ⟨by decide, by decide, rfl, rfl, rfl⟩ (by decide) rfl rfl (Nat.le_of_ble_eq_true rfl) (by decide) c_slen_5 ?_
            rintro r w' ⟨rfl, rfl⟩
            refine ab_icmpge 77 dX6_takesWord_47 (by decide) (fun h_9 => absurd h_9 (by decide)) (fun h_9 => ?_)
            refine ab_aload_n dX6_takesWord_50 rfl ?_
            refine ab_getf dX6_takesWord_51 fl_X6_11 rfl rfl ?_
            refine ab_aload_n dX6_takesWord_54 rfl ?_
            refine ab_getf dX6_takesWord_55 fl_X6_26 rfl rfl ?_
            refine ab_iload_n dX6_takesWord_58 rfl ?_
            refine ab_iadd dX6_takesWord_59 ?_
            refine ab_topi (v := (nI (p + 3))) (nI_add _ 3) ?_
            refine ab_bald (j := (p + 3)) dX6_takesWord_60 rfl (ix_nI (by omega) (by decide)) ?_
            refine ab_topi (v := (sgn (u (p + 3)))) (h_u (p + 3) (by omega)).2 ?_
            refine ab_aload_n dX6_takesWord_61 rfl ?_
            refine ab_iload_n dX6_takesWord_62 rfl ?_
            refine ab_callT (j := 5) (As := [.int 3]) (rest := [.int (sgn (u (p + 3)))]) dX6_takesWord_63 mT_J0_charAt_5068e ml_X6_132 ⟨by decide, by decide, rfl, rfl, rfl⟩ (by decide) rfl rfl (Nat.le_of_ble_eq_true rfl) (by decide) c_chr_5_3 ?_
            rintro r w' ⟨rfl, rfl⟩
            refine ab_icmpeq 71 dX6_takesWord_66 (by decide) (fun h_10 => ?_) (fun h_10 => ?_)
            · refine ab_iinc (v := 4) (la' := [(3, .int 4), (2, .int (nI (p + 5))), (0, .ref 1), (1, .ref 3005)]) dX6_takesWord_71 rfl (by decide) (by decide) rfl ?_
              refine ab_goto 42 dX6_takesWord_74 (by decide) ?_
              refine ab_iload_n dX6_takesWord_42 rfl ?_
              refine ab_aload_n dX6_takesWord_43 rfl ?_
              refine ab_callT (j := 5) (As := []) (rest := [.int 4]) dX6_takesWord_44 mT_J0_length_8abf5 ml_X6_124 ⟨by decide, by decide, rfl, rfl, rfl⟩ (by decide) rfl rfl (Nat.le_of_ble_eq_true rfl) (by decide) c_slen_5 ?_
              rintro r w' ⟨rfl, rfl⟩
              refine ab_icmpge 77 dX6_takesWord_47 (by decide) (fun h_11 => absurd h_11 (by decide)) (fun h_11 => ?_)
              refine ab_aload_n dX6_takesWord_50 rfl ?_
              refine ab_getf dX6_takesWord_51 fl_X6_11 rfl rfl ?_
              refine ab_aload_n dX6_takesWord_54 rfl ?_
              refine ab_getf dX6_takesWord_55 fl_X6_26 rfl rfl ?_
              refine ab_iload_n dX6_takesWord_58 rfl ?_
              refine ab_iadd dX6_takesWord_59 ?_
              refine ab_topi (v := (nI (p + 4))) (nI_add _ 4) ?_
              refine ab_bald (j := (p + 4)) dX6_takesWord_60 rfl (ix_nI (by omega) (by decide)) ?_
              refine ab_topi (v := (sgn (u (p + 4)))) (h_u (p + 4) (by omega)).2 ?_
              refine ab_aload_n dX6_takesWord_61 rfl ?_
              refine ab_iload_n dX6_takesWord_62 rfl ?_
              refine ab_callT (j := 5) (As := [.int 4]) (rest := [.int (sgn (u (p + 4)))]) dX6_takesWord_63 mT_J0_charAt_5068e ml_X6_132 ⟨by decide, by decide, rfl, rfl, rfl⟩ (by decide) rfl rfl (Nat.le_of_ble_eq_true rfl) (by decide) c_chr_5_4 ?_
              rintro r w' ⟨rfl, rfl⟩
              refine ab_icmpeq 71 dX6_takesWord_66 (by decide) (fun h_12 => ?_) (fun h_12 => ?_)
              · refine ab_iinc (v := 5) (la' := [(3, .int 5), (2, .int (nI (p + 5))), (0, .ref 1), (1, .ref 3005)]) dX6_takesWord_71 rfl (by decide) (by decide) rfl ?_
                refine ab_goto 42 dX6_takesWord_74 (by decide) ?_
                refine ab_iload_n dX6_takesWord_42 rfl ?_
                refine ab_aload_n dX6_takesWord_43 rfl ?_
                refine ab_callT (j := 5) (As := []) (rest := [.int 5]) dX6_takesWord_44 mT_J0_length_8abf5 ml_X6_124 ⟨by decide, by decide, rfl, rfl, rfl⟩ (by decide) rfl rfl (Nat.le_of_ble_eq_true rfl) (by decide) c_slen_5 ?_
                rintro r w' ⟨rfl, rfl⟩
                refine ab_icmpge 77 dX6_takesWord_47 (by decide) (fun h_13 => ?_) (fun h_13 => absurd (by decide) h_13)
                refine ab_aload_n dX6_takesWord_77 rfl ?_
                refine ab_iload_n dX6_takesWord_78 rfl ?_
                refine ab_putf (w1 := ([x0, ob 6 [.ref 2, .ref 3, .int f1_2, .int (nI n), .int (nI (p + 5)), .int f1_5, .int f1_6], ba 700 r2, ia 4 r3, x4, x5, x6, x7, x8, x9, x10, x11, x12, x13, x14, x15, x16, x17, x18, x19, x20, x21, x22, x23, x24, x25, x26, x27, x28, x29, x30, x31, x32], wm)) dX6_takesWord_79 fl_X6_26 rfl (Nat.le_of_ble_eq_true rfl) (fun _ => ⟨rfl, rfl⟩) rfl ?_
                refine ab_iconst (v := 1) dX6_takesWord_82 (by decide) ?_
                exact ab_zret dX6_takesWord_83 rfl rfl (by decide) (Or.inl (⟨⟨by omega, (fun z => absurd z.1 (by omega)), (sgn_c (c := 99) (h_u (p + 0) (by omega)).1 (by decide) rfl).mp h_4, (sgn_c (c := 114) (h_u (p + 1) (by omega)).1 (by decide) rfl).mp h_6, (sgn_c (c := 97) (h_u (p + 2) (by omega)).1 (by decide) rfl).mp h_8, (sgn_c (c := 110) (h_u (p + 3) (by omega)).1 (by decide) rfl).mp h_10, (sgn_c (c := 107) (h_u (p + 4) (by omega)).1 (by decide) rfl).mp h_12⟩, rfl, rfl⟩))
              · refine ab_iconst (v := 0) dX6_takesWord_69 (by decide) ?_
                exact ab_zret dX6_takesWord_70 rfl rfl (by decide) (Or.inr (⟨fun z => h_12 ((sgn_c (c := 107) (h_u (p + 4) (by omega)).1 (by decide) rfl).mpr z.2.2.2.2.2.2), rfl, rfl⟩))
            · refine ab_iconst (v := 0) dX6_takesWord_69 (by decide) ?_
              exact ab_zret dX6_takesWord_70 rfl rfl (by decide) (Or.inr (⟨fun z => h_10 ((sgn_c (c := 110) (h_u (p + 3) (by omega)).1 (by decide) rfl).mpr z.2.2.2.2.2.1), rfl, rfl⟩))
          · refine ab_iconst (v := 0) dX6_takesWord_69 (by decide) ?_
            exact ab_zret dX6_takesWord_70 rfl rfl (by decide) (Or.inr (⟨fun z => h_8 ((sgn_c (c := 97) (h_u (p + 2) (by omega)).1 (by decide) rfl).mpr z.2.2.2.2.1), rfl, rfl⟩))
        · refine ab_iconst (v := 0) dX6_takesWord_69 (by decide) ?_
          exact ab_zret dX6_takesWord_70 rfl rfl (by decide) (Or.inr (⟨fun z => h_6 ((sgn_c (c := 114) (h_u (p + 1) (by omega)).1 (by decide) rfl).mpr z.2.2.2.1), rfl, rfl⟩))
      · refine ab_iconst (v := 0) dX6_takesWord_69 (by decide) ?_
        exact ab_zret dX6_takesWord_70 rfl rfl (by decide) (Or.inr (⟨fun z => h_4 ((sgn_c (c := 99) (h_u (p + 0) (by omega)).1 (by decide) rfl).mpr z.2.2.1), rfl, rfl⟩))
    · have h_2n : ¬ _ := fun z => h_2 ((nI_leI (a := n) (b := (p + 5)) (by omega) (by omega)).mpr z)
      refine ab_aload_n dX6_takesWord_26 rfl ?_
      refine ab_getf dX6_takesWord_27 fl_X6_11 rfl rfl ?_
      refine ab_iload_n dX6_takesWord_30 rfl ?_
      refine ab_bald (j := (p + 5)) dX6_takesWord_31 rfl (ix_nI (by omega) (by decide)) ?_
      refine ab_topi (v := (sgn (u (p + 5)))) (h_u (p + 5) (by omega)).2 ?_
      refine ab_callS (As := [.int (sgn (u (p + 5)))]) (rest := []) dX6_takesWord_32 ms_X6_isLetter ml_X6_129 ⟨by decide, by decide, rfl, rfl, rfl⟩ (by decide) rfl rfl (Nat.le_of_ble_eq_true rfl) c_X6_isLetter ?_
      rintro r w' (⟨c_14, rfl, rfl⟩ | ⟨c_15, rfl, rfl⟩)
      · refine ab_ifeq 40 dX6_takesWord_35 (by decide) (fun h_16 => absurd h_16 (by decide)) (fun h_16 => ?_)
        refine ab_iconst (v := 0) dX6_takesWord_38 (by decide) ?_
        exact ab_zret dX6_takesWord_39 rfl rfl (by decide) (Or.inr (⟨fun z => z.2.1 ⟨by omega, (isL_s (h_u _ (by omega)).1).mp c_14⟩, rfl, rfl⟩))
      · refine ab_ifeq 40 dX6_takesWord_35 (by decide) (fun h_17 => ?_) (fun h_17 => absurd (by decide) h_17)
        refine ab_iconst (v := 0) dX6_takesWord_40 (by decide) ?_
        refine ab_istore_n (la' := [(3, .int 0), (2, .int (nI (p + 5))), (0, .ref 1), (1, .ref 3005)]) dX6_takesWord_41 (by decide) rfl ?_
        refine ab_iload_n dX6_takesWord_42 rfl ?_
        refine ab_aload_n dX6_takesWord_43 rfl ?_
        refine ab_callT (j := 5) (As := []) (rest := [.int 0]) dX6_takesWord_44 mT_J0_length_8abf5 ml_X6_124 ⟨by decide, by decide, rfl, rfl, rfl⟩ (by decide) rfl rfl (Nat.le_of_ble_eq_true rfl) (by decide) c_slen_5 ?_
        rintro r w' ⟨rfl, rfl⟩
        refine ab_icmpge 77 dX6_takesWord_47 (by decide) (fun h_18 => absurd h_18 (by decide)) (fun h_18 => ?_)
        refine ab_aload_n dX6_takesWord_50 rfl ?_
        refine ab_getf dX6_takesWord_51 fl_X6_11 rfl rfl ?_
        refine ab_aload_n dX6_takesWord_54 rfl ?_
        refine ab_getf dX6_takesWord_55 fl_X6_26 rfl rfl ?_
        refine ab_iload_n dX6_takesWord_58 rfl ?_
        refine ab_iadd dX6_takesWord_59 ?_
        refine ab_topi (v := (nI p)) (Int32.add_zero _) ?_
        refine ab_bald (j := p) dX6_takesWord_60 rfl (ix_nI (by omega) (by decide)) ?_
        refine ab_topi (v := (sgn (u (p + 0)))) (h_u p (by omega)).2 ?_
        refine ab_aload_n dX6_takesWord_61 rfl ?_
        refine ab_iload_n dX6_takesWord_62 rfl ?_
        refine ab_callT (j := 5) (As := [.int 0]) (rest := [.int (sgn (u (p + 0)))]) dX6_takesWord_63 mT_J0_charAt_5068e ml_X6_132 ⟨by decide, by decide, rfl, rfl, rfl⟩ (by decide) rfl rfl (Nat.le_of_ble_eq_true rfl) (by decide) c_chr_5_0 ?_
        rintro r w' ⟨rfl, rfl⟩
        refine ab_icmpeq 71 dX6_takesWord_66 (by decide) (fun h_19 => ?_) (fun h_19 => ?_)
        · refine ab_iinc (v := 1) (la' := [(3, .int 1), (2, .int (nI (p + 5))), (0, .ref 1), (1, .ref 3005)]) dX6_takesWord_71 rfl (by decide) (by decide) rfl ?_
          refine ab_goto 42 dX6_takesWord_74 (by decide) ?_
          refine ab_iload_n dX6_takesWord_42 rfl ?_
          refine ab_aload_n dX6_takesWord_43 rfl ?_
          refine ab_callT (j := 5) (As := []) (rest := [.int 1]) dX6_takesWord_44 mT_J0_length_8abf5 ml_X6_124 ⟨by decide, by decide, rfl, rfl, rfl⟩ (by decide) rfl rfl (Nat.le_of_ble_eq_true rfl) (by decide) c_slen_5 ?_
          rintro r w' ⟨rfl, rfl⟩
          refine ab_icmpge 77 dX6_takesWord_47 (by decide) (fun h_20 => absurd h_20 (by decide)) (fun h_20 => ?_)
          refine ab_aload_n dX6_takesWord_50 rfl ?_
          refine ab_getf dX6_takesWord_51 fl_X6_11 rfl rfl ?_
          refine ab_aload_n dX6_takesWord_54 rfl ?_
          refine ab_getf dX6_takesWord_55 fl_X6_26 rfl rfl ?_
          refine ab_iload_n dX6_takesWord_58 rfl ?_
          refine ab_iadd dX6_takesWord_59 ?_
          refine ab_topi (v := (nI (p + 1))) (nI_1 _) ?_
          refine ab_bald (j := (p + 1)) dX6_takesWord_60 rfl (ix_nI (by omega) (by decide)) ?_
          refine ab_topi (v := (sgn (u (p + 1)))) (h_u (p + 1) (by omega)).2 ?_
          refine ab_aload_n dX6_takesWord_61 rfl ?_
          refine ab_iload_n dX6_takesWord_62 rfl ?_
          refine ab_callT (j := 5) (As := [.int 1]) (rest := [.int (sgn (u (p + 1)))]) dX6_takesWord_63 mT_J0_charAt_5068e ml_X6_132 ⟨by decide, by decide, rfl, rfl, rfl⟩ (by decide) rfl rfl (Nat.le_of_ble_eq_true rfl) (by decide) c_chr_5_1 ?_
          rintro r w' ⟨rfl, rfl⟩
          refine ab_icmpeq 71 dX6_takesWord_66 (by decide) (fun h_21 => ?_) (fun h_21 => ?_)
          · refine ab_iinc (v := 2) (la' := [(3, .int 2), (2, .int (nI (p + 5))), (0, .ref 1), (1, .ref 3005)]) dX6_takesWord_71 rfl (by decide) (by decide) rfl ?_
            refine ab_goto 42 dX6_takesWord_74 (by decide) ?_
            refine ab_iload_n dX6_takesWord_42 rfl ?_
            refine ab_aload_n dX6_takesWord_43 rfl ?_
            refine ab_callT (j := 5) (As := []) (rest := [.int 2]) dX6_takesWord_44 mT_J0_length_8abf5 ml_X6_124 ⟨by decide, by decide, rfl, rfl, rfl⟩ (by decide) rfl rfl (Nat.le_of_ble_eq_true rfl) (by decide) c_slen_5 ?_
            rintro r w' ⟨rfl, rfl⟩
            refine ab_icmpge 77 dX6_takesWord_47 (by decide) (fun h_22 => absurd h_22 (by decide)) (fun h_22 => ?_)
            refine ab_aload_n dX6_takesWord_50 rfl ?_
            refine ab_getf dX6_takesWord_51 fl_X6_11 rfl rfl ?_
            refine ab_aload_n dX6_takesWord_54 rfl ?_
            refine ab_getf dX6_takesWord_55 fl_X6_26 rfl rfl ?_
            refine ab_iload_n dX6_takesWord_58 rfl ?_
            refine ab_iadd dX6_takesWord_59 ?_
            refine ab_topi (v := (nI (p + 2))) (nI_add _ 2) ?_
            refine ab_bald (j := (p + 2)) dX6_takesWord_60 rfl (ix_nI (by omega) (by decide)) ?_
            refine ab_topi (v := (sgn (u (p + 2)))) (h_u (p + 2) (by omega)).2 ?_
            refine ab_aload_n dX6_takesWord_61 rfl ?_
            refine ab_iload_n dX6_takesWord_62 rfl ?_
            refine ab_callT (j := 5) (As := [.int 2]) (rest := [.int (sgn (u (p + 2)))]) dX6_takesWord_63 mT_J0_charAt_5068e ml_X6_132 ⟨by decide, by decide, rfl, rfl, rfl⟩ (by decide) rfl rfl (Nat.le_of_ble_eq_true rfl) (by decide) c_chr_5_2 ?_
            rintro r w' ⟨rfl, rfl⟩
            refine ab_icmpeq 71 dX6_takesWord_66 (by decide) (fun h_23 => ?_) (fun h_23 => ?_)
            · refine ab_iinc (v := 3) (la' := [(3, .int 3), (2, .int (nI (p + 5))), (0, .ref 1), (1, .ref 3005)]) dX6_takesWord_71 rfl (by decide) (by decide) rfl ?_
              refine ab_goto 42 dX6_takesWord_74 (by decide) ?_
              refine ab_iload_n dX6_takesWord_42 rfl ?_
              refine ab_aload_n dX6_takesWord_43 rfl ?_
              refine ab_callT (j := 5) (As := []) (rest := [.int 3]) dX6_takesWord_44 mT_J0_length_8abf5 ml_X6_124 ⟨by decide, by decide, rfl, rfl, rfl⟩ (by decide) rfl rfl (Nat.le_of_ble_eq_true rfl) (by decide) c_slen_5 ?_
              rintro r w' ⟨rfl, rfl⟩
              refine ab_icmpge 77 dX6_takesWord_47 (by decide) (fun h_24 => absurd h_24 (by decide)) (fun h_24 => ?_)
              refine ab_aload_n dX6_takesWord_50 rfl ?_
              refine ab_getf dX6_takesWord_51 fl_X6_11 rfl rfl ?_
              refine ab_aload_n dX6_takesWord_54 rfl ?_
              refine ab_getf dX6_takesWord_55 fl_X6_26 rfl rfl ?_
              refine ab_iload_n dX6_takesWord_58 rfl ?_
              refine ab_iadd dX6_takesWord_59 ?_
              refine ab_topi (v := (nI (p + 3))) (nI_add _ 3) ?_
              refine ab_bald (j := (p + 3)) dX6_takesWord_60 rfl (ix_nI (by omega) (by decide)) ?_
              refine ab_topi (v := (sgn (u (p + 3)))) (h_u (p + 3) (by omega)).2 ?_
              refine ab_aload_n dX6_takesWord_61 rfl ?_
              refine ab_iload_n dX6_takesWord_62 rfl ?_
              refine ab_callT (j := 5) (As := [.int 3]) (rest := [.int (sgn (u (p + 3)))]) dX6_takesWord_63 mT_J0_charAt_5068e ml_X6_132 ⟨by decide, by decide, rfl, rfl, rfl⟩ (by decide) rfl rfl (Nat.le_of_ble_eq_true rfl) (by decide) c_chr_5_3 ?_
              rintro r w' ⟨rfl, rfl⟩
              refine ab_icmpeq 71 dX6_takesWord_66 (by decide) (fun h_25 => ?_) (fun h_25 => ?_)
              · refine ab_iinc (v := 4) (la' := [(3, .int 4), (2, .int (nI (p + 5))), (0, .ref 1), (1, .ref 3005)]) dX6_takesWord_71 rfl (by decide) (by decide) rfl ?_
                refine ab_goto 42 dX6_takesWord_74 (by decide) ?_
                refine ab_iload_n dX6_takesWord_42 rfl ?_
                refine ab_aload_n dX6_takesWord_43 rfl ?_
                refine ab_callT (j := 5) (As := []) (rest := [.int 4]) dX6_takesWord_44 mT_J0_length_8abf5 ml_X6_124 ⟨by decide, by decide, rfl, rfl, rfl⟩ (by decide) rfl rfl (Nat.le_of_ble_eq_true rfl) (by decide) c_slen_5 ?_
                rintro r w' ⟨rfl, rfl⟩
                refine ab_icmpge 77 dX6_takesWord_47 (by decide) (fun h_26 => absurd h_26 (by decide)) (fun h_26 => ?_)
                refine ab_aload_n dX6_takesWord_50 rfl ?_
                refine ab_getf dX6_takesWord_51 fl_X6_11 rfl rfl ?_
                refine ab_aload_n dX6_takesWord_54 rfl ?_
                refine ab_getf dX6_takesWord_55 fl_X6_26 rfl rfl ?_
                refine ab_iload_n dX6_takesWord_58 rfl ?_
                refine ab_iadd dX6_takesWord_59 ?_
                refine ab_topi (v := (nI (p + 4))) (nI_add _ 4) ?_
                refine ab_bald (j := (p + 4)) dX6_takesWord_60 rfl (ix_nI (by omega) (by decide)) ?_
                refine ab_topi (v := (sgn (u (p + 4)))) (h_u (p + 4) (by omega)).2 ?_
                refine ab_aload_n dX6_takesWord_61 rfl ?_
                refine ab_iload_n dX6_takesWord_62 rfl ?_
                refine ab_callT (j := 5) (As := [.int 4]) (rest := [.int (sgn (u (p + 4)))]) dX6_takesWord_63 mT_J0_charAt_5068e ml_X6_132 ⟨by decide, by decide, rfl, rfl, rfl⟩ (by decide) rfl rfl (Nat.le_of_ble_eq_true rfl) (by decide) c_chr_5_4 ?_
                rintro r w' ⟨rfl, rfl⟩
                refine ab_icmpeq 71 dX6_takesWord_66 (by decide) (fun h_27 => ?_) (fun h_27 => ?_)
                · refine ab_iinc (v := 5) (la' := [(3, .int 5), (2, .int (nI (p + 5))), (0, .ref 1), (1, .ref 3005)]) dX6_takesWord_71 rfl (by decide) (by decide) rfl ?_
                  refine ab_goto 42 dX6_takesWord_74 (by decide) ?_
                  refine ab_iload_n dX6_takesWord_42 rfl ?_
                  refine ab_aload_n dX6_takesWord_43 rfl ?_
                  refine ab_callT (j := 5) (As := []) (rest := [.int 5]) dX6_takesWord_44 mT_J0_length_8abf5 ml_X6_124 ⟨by decide, by decide, rfl, rfl, rfl⟩ (by decide) rfl rfl (Nat.le_of_ble_eq_true rfl) (by decide) c_slen_5 ?_
                  rintro r w' ⟨rfl, rfl⟩
                  refine ab_icmpge 77 dX6_takesWord_47 (by decide) (fun h_28 => ?_) (fun h_28 => absurd (by decide) h_28)
                  refine ab_aload_n dX6_takesWord_77 rfl ?_
                  refine ab_iload_n dX6_takesWord_78 rfl ?_
                  refine ab_putf (w1 := ([x0, ob 6 [.ref 2, .ref 3, .int f1_2, .int (nI n), .int (nI (p + 5)), .int f1_5, .int f1_6], ba 700 r2, ia 4 r3, x4, x5, x6, x7, x8, x9, x10, x11, x12, x13, x14, x15, x16, x17, x18, x19, x20, x21, x22, x23, x24, x25, x26, x27, x28, x29, x30, x31, x32], wm)) dX6_takesWord_79 fl_X6_26 rfl (Nat.le_of_ble_eq_true rfl) (fun _ => ⟨rfl, rfl⟩) rfl ?_
                  refine ab_iconst (v := 1) dX6_takesWord_82 (by decide) ?_
                  exact ab_zret dX6_takesWord_83 rfl rfl (by decide) (Or.inl (⟨⟨by omega, (fun z => c_15 ((isL_s (h_u _ (by omega)).1).mpr z.2)), (sgn_c (c := 99) (h_u (p + 0) (by omega)).1 (by decide) rfl).mp h_19, (sgn_c (c := 114) (h_u (p + 1) (by omega)).1 (by decide) rfl).mp h_21, (sgn_c (c := 97) (h_u (p + 2) (by omega)).1 (by decide) rfl).mp h_23, (sgn_c (c := 110) (h_u (p + 3) (by omega)).1 (by decide) rfl).mp h_25, (sgn_c (c := 107) (h_u (p + 4) (by omega)).1 (by decide) rfl).mp h_27⟩, rfl, rfl⟩))
                · refine ab_iconst (v := 0) dX6_takesWord_69 (by decide) ?_
                  exact ab_zret dX6_takesWord_70 rfl rfl (by decide) (Or.inr (⟨fun z => h_27 ((sgn_c (c := 107) (h_u (p + 4) (by omega)).1 (by decide) rfl).mpr z.2.2.2.2.2.2), rfl, rfl⟩))
              · refine ab_iconst (v := 0) dX6_takesWord_69 (by decide) ?_
                exact ab_zret dX6_takesWord_70 rfl rfl (by decide) (Or.inr (⟨fun z => h_25 ((sgn_c (c := 110) (h_u (p + 3) (by omega)).1 (by decide) rfl).mpr z.2.2.2.2.2.1), rfl, rfl⟩))
            · refine ab_iconst (v := 0) dX6_takesWord_69 (by decide) ?_
              exact ab_zret dX6_takesWord_70 rfl rfl (by decide) (Or.inr (⟨fun z => h_23 ((sgn_c (c := 97) (h_u (p + 2) (by omega)).1 (by decide) rfl).mpr z.2.2.2.2.1), rfl, rfl⟩))
          · refine ab_iconst (v := 0) dX6_takesWord_69 (by decide) ?_
            exact ab_zret dX6_takesWord_70 rfl rfl (by decide) (Or.inr (⟨fun z => h_21 ((sgn_c (c := 114) (h_u (p + 1) (by omega)).1 (by decide) rfl).mpr z.2.2.2.1), rfl, rfl⟩))
        · refine ab_iconst (v := 0) dX6_takesWord_69 (by decide) ?_
          exact ab_zret dX6_takesWord_70 rfl rfl (by decide) (Or.inr (⟨fun z => h_19 ((sgn_c (c := 99) (h_u (p + 0) (by omega)).1 (by decide) rfl).mpr z.2.2.1), rfl, rfl⟩))
theorem c_X6_takesWord_6 {x0 x4 x5 x6 x7 x8 x9 x10 x11 x12 x13 x14 x15 x16 x17 x18 x19 x20 x21 x22 x23 x24 x25 x26 x27 x28 x29 x30 x31 x32 : ax_E} {f1_2 f1_5 f1_6 : Int32} {r2 r3 : Nat → Int32} {wm : List ax_E} {u : Nat → Nat} {n p : Nat} (h_n : n ≤ 700) (h_u : ∀ k, k < 700 → u k < 256 ∧ r2 k = sgn (u k)) (h_p : p ≤ n) : Ct M_X6_takesWord [.ref 1, .ref 3006] ([x0, ob 6 [.ref 2, .ref 3, .int f1_2, .int (nI n), .int (nI p), .int f1_5, .int f1_6], ba 700 r2, ia 4 r3, x4, x5, x6, x7, x8, x9, x10, x11, x12, x13, x14, x15, x16, x17, x18, x19, x20, x21, x22, x23, x24, x25, x26, x27, x28, x29, x30, x31, x32], wm) (fun r w' => ((wd_6 u n p) ∧ r = some (.int 1) ∧ w' = ([x0, ob 6 [.ref 2, .ref 3, .int f1_2, .int (nI n), .int (nI (p + 3)), .int f1_5, .int f1_6], ba 700 r2, ia 4 r3, x4, x5, x6, x7, x8, x9, x10, x11, x12, x13, x14, x15, x16, x17, x18, x19, x20, x21, x22, x23, x24, x25, x26, x27, x28, x29, x30, x31, x32], wm)) ∨ ((¬ wd_6 u n p) ∧ r = some (.int 0) ∧ w' = ([x0, ob 6 [.ref 2, .ref 3, .int f1_2, .int (nI n), .int (nI p), .int f1_5, .int f1_6], ba 700 r2, ia 4 r3, x4, x5, x6, x7, x8, x9, x10, x11, x12, x13, x14, x15, x16, x17, x18, x19, x20, x21, x22, x23, x24, x25, x26, x27, x28, x29, x30, x31, x32], wm))) := by
  refine ct_of ⟨by decide, rfl⟩ (Nat.le_of_ble_eq_true rfl) ?_
  refine ab_aload_n dX6_takesWord_0 rfl ?_
  refine ab_getf dX6_takesWord_1 fl_X6_26 rfl rfl ?_
  refine ab_aload_n dX6_takesWord_4 rfl ?_
  refine ab_callT (j := 6) (As := []) (rest := [.int (nI p)]) dX6_takesWord_5 mT_J0_length_8abf5 ml_X6_124 ⟨by decide, by decide, rfl, rfl, rfl⟩ (by decide) rfl rfl (Nat.le_of_ble_eq_true rfl) (by decide) c_slen_6 ?_
  rintro r w' ⟨rfl, rfl⟩
  refine ab_iadd dX6_takesWord_8 ?_
  refine ab_topi (v := (nI (p + 3))) (nI_add _ 3) ?_
  refine ab_istore_n (la' := [(2, .int (nI (p + 3))), (0, .ref 1), (1, .ref 3006)]) dX6_takesWord_9 (by decide) rfl ?_
  refine ab_iload_n dX6_takesWord_10 rfl ?_
  refine ab_aload_n dX6_takesWord_11 rfl ?_
  refine ab_getf dX6_takesWord_12 fl_X6_23 rfl rfl ?_
  refine ab_icmpgt 38 dX6_takesWord_15 (by decide) (fun h_1 => ?_) (fun h_1 => ?_)
  · have h_1n := (nI_ltI (a := n) (b := (p + 3)) (by omega) (by omega)).mp h_1
    refine ab_iconst (v := 0) dX6_takesWord_38 (by decide) ?_
    exact ab_zret dX6_takesWord_39 rfl rfl (by decide) (Or.inr (⟨fun z => absurd z.1 (by omega), rfl, rfl⟩))
  · have h_1n : ¬ _ := fun z => h_1 ((nI_ltI (a := n) (b := (p + 3)) (by omega) (by omega)).mpr z)
    refine ab_iload_n dX6_takesWord_18 rfl ?_
    refine ab_aload_n dX6_takesWord_19 rfl ?_
    refine ab_getf dX6_takesWord_20 fl_X6_23 rfl rfl ?_
    refine ab_icmpge 40 dX6_takesWord_23 (by decide) (fun h_2 => ?_) (fun h_2 => ?_)
    · have h_2n := (nI_leI (a := n) (b := (p + 3)) (by omega) (by omega)).mp h_2
      refine ab_iconst (v := 0) dX6_takesWord_40 (by decide) ?_
      refine ab_istore_n (la' := [(3, .int 0), (2, .int (nI (p + 3))), (0, .ref 1), (1, .ref 3006)]) dX6_takesWord_41 (by decide) rfl ?_
      refine ab_iload_n dX6_takesWord_42 rfl ?_
      refine ab_aload_n dX6_takesWord_43 rfl ?_
      refine ab_callT (j := 6) (As := []) (rest := [.int 0]) dX6_takesWord_44 mT_J0_length_8abf5 ml_X6_124 ⟨by decide, by decide, rfl, rfl, rfl⟩ (by decide) rfl rfl (Nat.le_of_ble_eq_true rfl) (by decide) c_slen_6 ?_
      rintro r w' ⟨rfl, rfl⟩
      refine ab_icmpge 77 dX6_takesWord_47 (by decide) (fun h_3 => absurd h_3 (by decide)) (fun h_3 => ?_)
      refine ab_aload_n dX6_takesWord_50 rfl ?_
      refine ab_getf dX6_takesWord_51 fl_X6_11 rfl rfl ?_
      refine ab_aload_n dX6_takesWord_54 rfl ?_
      refine ab_getf dX6_takesWord_55 fl_X6_26 rfl rfl ?_
      refine ab_iload_n dX6_takesWord_58 rfl ?_
      refine ab_iadd dX6_takesWord_59 ?_
      refine ab_topi (v := (nI p)) (Int32.add_zero _) ?_
      refine ab_bald (j := p) dX6_takesWord_60 rfl (ix_nI (by omega) (by decide)) ?_
      refine ab_topi (v := (sgn (u (p + 0)))) (h_u p (by omega)).2 ?_
      refine ab_aload_n dX6_takesWord_61 rfl ?_
      refine ab_iload_n dX6_takesWord_62 rfl ?_
      refine ab_callT (j := 6) (As := [.int 0]) (rest := [.int (sgn (u (p + 0)))]) dX6_takesWord_63 mT_J0_charAt_5068e ml_X6_132 ⟨by decide, by decide, rfl, rfl, rfl⟩ (by decide) rfl rfl (Nat.le_of_ble_eq_true rfl) (by decide) c_chr_6_0 ?_
      rintro r w' ⟨rfl, rfl⟩
      refine ab_icmpeq 71 dX6_takesWord_66 (by decide) (fun h_4 => ?_) (fun h_4 => ?_)
      · refine ab_iinc (v := 1) (la' := [(3, .int 1), (2, .int (nI (p + 3))), (0, .ref 1), (1, .ref 3006)]) dX6_takesWord_71 rfl (by decide) (by decide) rfl ?_
        refine ab_goto 42 dX6_takesWord_74 (by decide) ?_
        refine ab_iload_n dX6_takesWord_42 rfl ?_
        refine ab_aload_n dX6_takesWord_43 rfl ?_
        refine ab_callT (j := 6) (As := []) (rest := [.int 1]) dX6_takesWord_44 mT_J0_length_8abf5 ml_X6_124 ⟨by decide, by decide, rfl, rfl, rfl⟩ (by decide) rfl rfl (Nat.le_of_ble_eq_true rfl) (by decide) c_slen_6 ?_
        rintro r w' ⟨rfl, rfl⟩
        refine ab_icmpge 77 dX6_takesWord_47 (by decide) (fun h_5 => absurd h_5 (by decide)) (fun h_5 => ?_)
        refine ab_aload_n dX6_takesWord_50 rfl ?_
        refine ab_getf dX6_takesWord_51 fl_X6_11 rfl rfl ?_
        refine ab_aload_n dX6_takesWord_54 rfl ?_
        refine ab_getf dX6_takesWord_55 fl_X6_26 rfl rfl ?_
        refine ab_iload_n dX6_takesWord_58 rfl ?_
        refine ab_iadd dX6_takesWord_59 ?_
        refine ab_topi (v := (nI (p + 1))) (nI_1 _) ?_
        refine ab_bald (j := (p + 1)) dX6_takesWord_60 rfl (ix_nI (by omega) (by decide)) ?_
        refine ab_topi (v := (sgn (u (p + 1)))) (h_u (p + 1) (by omega)).2 ?_
        refine ab_aload_n dX6_takesWord_61 rfl ?_
        refine ab_iload_n dX6_takesWord_62 rfl ?_
        refine ab_callT (j := 6) (As := [.int 1]) (rest := [.int (sgn (u (p + 1)))]) dX6_takesWord_63 mT_J0_charAt_5068e ml_X6_132 ⟨by decide, by decide, rfl, rfl, rfl⟩ (by decide) rfl rfl (Nat.le_of_ble_eq_true rfl) (by decide) c_chr_6_1 ?_
        rintro r w' ⟨rfl, rfl⟩
        refine ab_icmpeq 71 dX6_takesWord_66 (by decide) (fun h_6 => ?_) (fun h_6 => ?_)
        · refine ab_iinc (v := 2) (la' := [(3, .int 2), (2, .int (nI (p + 3))), (0, .ref 1), (1, .ref 3006)]) dX6_takesWord_71 rfl (by decide) (by decide) rfl ?_
          refine ab_goto 42 dX6_takesWord_74 (by decide) ?_
          refine ab_iload_n dX6_takesWord_42 rfl ?_
          refine ab_aload_n dX6_takesWord_43 rfl ?_
          refine ab_callT (j := 6) (As := []) (rest := [.int 2]) dX6_takesWord_44 mT_J0_length_8abf5 ml_X6_124 ⟨by decide, by decide, rfl, rfl, rfl⟩ (by decide) rfl rfl (Nat.le_of_ble_eq_true rfl) (by decide) c_slen_6 ?_
          rintro r w' ⟨rfl, rfl⟩
          refine ab_icmpge 77 dX6_takesWord_47 (by decide) (fun h_7 => absurd h_7 (by decide)) (fun h_7 => ?_)
          refine ab_aload_n dX6_takesWord_50 rfl ?_
          refine ab_getf dX6_takesWord_51 fl_X6_11 rfl rfl ?_
          refine ab_aload_n dX6_takesWord_54 rfl ?_
          refine ab_getf dX6_takesWord_55 fl_X6_26 rfl rfl ?_
          refine ab_iload_n dX6_takesWord_58 rfl ?_
          refine ab_iadd dX6_takesWord_59 ?_
          refine ab_topi (v := (nI (p + 2))) (nI_add _ 2) ?_
          refine ab_bald (j := (p + 2)) dX6_takesWord_60 rfl (ix_nI (by omega) (by decide)) ?_
          refine ab_topi (v := (sgn (u (p + 2)))) (h_u (p + 2) (by omega)).2 ?_
          refine ab_aload_n dX6_takesWord_61 rfl ?_
          refine ab_iload_n dX6_takesWord_62 rfl ?_
          refine ab_callT (j := 6) (As := [.int 2]) (rest := [.int (sgn (u (p + 2)))]) dX6_takesWord_63 mT_J0_charAt_5068e ml_X6_132 ⟨by decide, by decide, rfl, rfl, rfl⟩ (by decide) rfl rfl (Nat.le_of_ble_eq_true rfl) (by decide) c_chr_6_2 ?_
          rintro r w' ⟨rfl, rfl⟩
          refine ab_icmpeq 71 dX6_takesWord_66 (by decide) (fun h_8 => ?_) (fun h_8 => ?_)
          · refine ab_iinc (v := 3) (la' := [(3, .int 3), (2, .int (nI (p + 3))), (0, .ref 1), (1, .ref 3006)]) dX6_takesWord_71 rfl (by decide) (by decide) rfl ?_
            refine ab_goto 42 dX6_takesWord_74 (by decide) ?_
            refine ab_iload_n dX6_takesWord_42 rfl ?_
            refine ab_aload_n dX6_takesWord_43 rfl ?_
            refine ab_callT (j := 6) (As := []) (rest := [.int 3]) dX6_takesWord_44 mT_J0_length_8abf5 ml_X6_124 ⟨by decide, by decide, rfl, rfl, rfl⟩ (by decide) rfl rfl (Nat.le_of_ble_eq_true rfl) (by decide) c_slen_6 ?_
            rintro r w' ⟨rfl, rfl⟩
            refine ab_icmpge 77 dX6_takesWord_47 (by decide) (fun h_9 => ?_) (fun h_9 => absurd (by decide) h_9)
            refine ab_aload_n dX6_takesWord_77 rfl ?_
            refine ab_iload_n dX6_takesWord_78 rfl ?_
            refine ab_putf (w1 := ([x0, ob 6 [.ref 2, .ref 3, .int f1_2, .int (nI n), .int (nI (p + 3)), .int f1_5, .int f1_6], ba 700 r2, ia 4 r3, x4, x5, x6, x7, x8, x9, x10, x11, x12, x13, x14, x15, x16, x17, x18, x19, x20, x21, x22, x23, x24, x25, x26, x27, x28, x29, x30, x31, x32], wm)) dX6_takesWord_79 fl_X6_26 rfl (Nat.le_of_ble_eq_true rfl) (fun _ => ⟨rfl, rfl⟩) rfl ?_
            refine ab_iconst (v := 1) dX6_takesWord_82 (by decide) ?_
            exact ab_zret dX6_takesWord_83 rfl rfl (by decide) (Or.inl (⟨⟨by omega, (fun z => absurd z.1 (by omega)), (sgn_c (c := 114) (h_u (p + 0) (by omega)).1 (by decide) rfl).mp h_4, (sgn_c (c := 111) (h_u (p + 1) (by omega)).1 (by decide) rfl).mp h_6, (sgn_c (c := 100) (h_u (p + 2) (by omega)).1 (by decide) rfl).mp h_8⟩, rfl, rfl⟩))
          · refine ab_iconst (v := 0) dX6_takesWord_69 (by decide) ?_
            exact ab_zret dX6_takesWord_70 rfl rfl (by decide) (Or.inr (⟨fun z => h_8 ((sgn_c (c := 100) (h_u (p + 2) (by omega)).1 (by decide) rfl).mpr z.2.2.2.2), rfl, rfl⟩))
        · refine ab_iconst (v := 0) dX6_takesWord_69 (by decide) ?_
          exact ab_zret dX6_takesWord_70 rfl rfl (by decide) (Or.inr (⟨fun z => h_6 ((sgn_c (c := 111) (h_u (p + 1) (by omega)).1 (by decide) rfl).mpr z.2.2.2.1), rfl, rfl⟩))
      · refine ab_iconst (v := 0) dX6_takesWord_69 (by decide) ?_
        exact ab_zret dX6_takesWord_70 rfl rfl (by decide) (Or.inr (⟨fun z => h_4 ((sgn_c (c := 114) (h_u (p + 0) (by omega)).1 (by decide) rfl).mpr z.2.2.1), rfl, rfl⟩))
    · have h_2n : ¬ _ := fun z => h_2 ((nI_leI (a := n) (b := (p + 3)) (by omega) (by omega)).mpr z)
      refine ab_aload_n dX6_takesWord_26 rfl ?_
      refine ab_getf dX6_takesWord_27 fl_X6_11 rfl rfl ?_
      refine ab_iload_n dX6_takesWord_30 rfl ?_
      refine ab_bald (j := (p + 3)) dX6_takesWord_31 rfl (ix_nI (by omega) (by decide)) ?_
      refine ab_topi (v := (sgn (u (p + 3)))) (h_u (p + 3) (by omega)).2 ?_
      refine ab_callS (As := [.int (sgn (u (p + 3)))]) (rest := []) dX6_takesWord_32 ms_X6_isLetter ml_X6_129 ⟨by decide, by decide, rfl, rfl, rfl⟩ (by decide) rfl rfl (Nat.le_of_ble_eq_true rfl) c_X6_isLetter ?_
      rintro r w' (⟨c_10, rfl, rfl⟩ | ⟨c_11, rfl, rfl⟩)
      · refine ab_ifeq 40 dX6_takesWord_35 (by decide) (fun h_12 => absurd h_12 (by decide)) (fun h_12 => ?_)
        refine ab_iconst (v := 0) dX6_takesWord_38 (by decide) ?_
        exact ab_zret dX6_takesWord_39 rfl rfl (by decide) (Or.inr (⟨fun z => z.2.1 ⟨by omega, (isL_s (h_u _ (by omega)).1).mp c_10⟩, rfl, rfl⟩))
      · refine ab_ifeq 40 dX6_takesWord_35 (by decide) (fun h_13 => ?_) (fun h_13 => absurd (by decide) h_13)
        refine ab_iconst (v := 0) dX6_takesWord_40 (by decide) ?_
        refine ab_istore_n (la' := [(3, .int 0), (2, .int (nI (p + 3))), (0, .ref 1), (1, .ref 3006)]) dX6_takesWord_41 (by decide) rfl ?_
        refine ab_iload_n dX6_takesWord_42 rfl ?_
        refine ab_aload_n dX6_takesWord_43 rfl ?_
        refine ab_callT (j := 6) (As := []) (rest := [.int 0]) dX6_takesWord_44 mT_J0_length_8abf5 ml_X6_124 ⟨by decide, by decide, rfl, rfl, rfl⟩ (by decide) rfl rfl (Nat.le_of_ble_eq_true rfl) (by decide) c_slen_6 ?_
        rintro r w' ⟨rfl, rfl⟩
        refine ab_icmpge 77 dX6_takesWord_47 (by decide) (fun h_14 => absurd h_14 (by decide)) (fun h_14 => ?_)
        refine ab_aload_n dX6_takesWord_50 rfl ?_
        refine ab_getf dX6_takesWord_51 fl_X6_11 rfl rfl ?_
        refine ab_aload_n dX6_takesWord_54 rfl ?_
        refine ab_getf dX6_takesWord_55 fl_X6_26 rfl rfl ?_
        refine ab_iload_n dX6_takesWord_58 rfl ?_
        refine ab_iadd dX6_takesWord_59 ?_
        refine ab_topi (v := (nI p)) (Int32.add_zero _) ?_
        refine ab_bald (j := p) dX6_takesWord_60 rfl (ix_nI (by omega) (by decide)) ?_
        refine ab_topi (v := (sgn (u (p + 0)))) (h_u p (by omega)).2 ?_
        refine ab_aload_n dX6_takesWord_61 rfl ?_
        refine ab_iload_n dX6_takesWord_62 rfl ?_
        refine ab_callT (j := 6) (As := [.int 0]) (rest := [.int (sgn (u (p + 0)))]) dX6_takesWord_63 mT_J0_charAt_5068e ml_X6_132 ⟨by decide, by decide, rfl, rfl, rfl⟩ (by decide) rfl rfl (Nat.le_of_ble_eq_true rfl) (by decide) c_chr_6_0 ?_
        rintro r w' ⟨rfl, rfl⟩
        refine ab_icmpeq 71 dX6_takesWord_66 (by decide) (fun h_15 => ?_) (fun h_15 => ?_)
        · refine ab_iinc (v := 1) (la' := [(3, .int 1), (2, .int (nI (p + 3))), (0, .ref 1), (1, .ref 3006)]) dX6_takesWord_71 rfl (by decide) (by decide) rfl ?_
          refine ab_goto 42 dX6_takesWord_74 (by decide) ?_
          refine ab_iload_n dX6_takesWord_42 rfl ?_
          refine ab_aload_n dX6_takesWord_43 rfl ?_
          refine ab_callT (j := 6) (As := []) (rest := [.int 1]) dX6_takesWord_44 mT_J0_length_8abf5 ml_X6_124 ⟨by decide, by decide, rfl, rfl, rfl⟩ (by decide) rfl rfl (Nat.le_of_ble_eq_true rfl) (by decide) c_slen_6 ?_
          rintro r w' ⟨rfl, rfl⟩
          refine ab_icmpge 77 dX6_takesWord_47 (by decide) (fun h_16 => absurd h_16 (by decide)) (fun h_16 => ?_)
          refine ab_aload_n dX6_takesWord_50 rfl ?_
          refine ab_getf dX6_takesWord_51 fl_X6_11 rfl rfl ?_
          refine ab_aload_n dX6_takesWord_54 rfl ?_
          refine ab_getf dX6_takesWord_55 fl_X6_26 rfl rfl ?_
          refine ab_iload_n dX6_takesWord_58 rfl ?_
          refine ab_iadd dX6_takesWord_59 ?_
          refine ab_topi (v := (nI (p + 1))) (nI_1 _) ?_
          refine ab_bald (j := (p + 1)) dX6_takesWord_60 rfl (ix_nI (by omega) (by decide)) ?_
          refine ab_topi (v := (sgn (u (p + 1)))) (h_u (p + 1) (by omega)).2 ?_
          refine ab_aload_n dX6_takesWord_61 rfl ?_
          refine ab_iload_n dX6_takesWord_62 rfl ?_
          refine ab_callT (j := 6) (As := [.int 1]) (rest := [.int (sgn (u (p + 1)))]) dX6_takesWord_63 mT_J0_charAt_5068e ml_X6_132 ⟨by decide, by decide, rfl, rfl, rfl⟩ (by decide) rfl rfl (Nat.le_of_ble_eq_true rfl) (by decide) c_chr_6_1 ?_
          rintro r w' ⟨rfl, rfl⟩
          refine ab_icmpeq 71 dX6_takesWord_66 (by decide) (fun h_17 => ?_) (fun h_17 => ?_)
          · refine ab_iinc (v := 2) (la' := [(3, .int 2), (2, .int (nI (p + 3))), (0, .ref 1), (1, .ref 3006)]) dX6_takesWord_71 rfl (by decide) (by decide) rfl ?_
            refine ab_goto 42 dX6_takesWord_74 (by decide) ?_
            refine ab_iload_n dX6_takesWord_42 rfl ?_
            refine ab_aload_n dX6_takesWord_43 rfl ?_
            refine ab_callT (j := 6) (As := []) (rest := [.int 2]) dX6_takesWord_44 mT_J0_length_8abf5 ml_X6_124 ⟨by decide, by decide, rfl, rfl, rfl⟩ (by decide) rfl rfl (Nat.le_of_ble_eq_true rfl) (by decide) c_slen_6 ?_
            rintro r w' ⟨rfl, rfl⟩
            refine ab_icmpge 77 dX6_takesWord_47 (by decide) (fun h_18 => absurd h_18 (by decide)) (fun h_18 => ?_)
            refine ab_aload_n dX6_takesWord_50 rfl ?_
            refine ab_getf dX6_takesWord_51 fl_X6_11 rfl rfl ?_
            refine ab_aload_n dX6_takesWord_54 rfl ?_
            refine ab_getf dX6_takesWord_55 fl_X6_26 rfl rfl ?_
            refine ab_iload_n dX6_takesWord_58 rfl ?_
            refine ab_iadd dX6_takesWord_59 ?_
            refine ab_topi (v := (nI (p + 2))) (nI_add _ 2) ?_
            refine ab_bald (j := (p + 2)) dX6_takesWord_60 rfl (ix_nI (by omega) (by decide)) ?_
            refine ab_topi (v := (sgn (u (p + 2)))) (h_u (p + 2) (by omega)).2 ?_
            refine ab_aload_n dX6_takesWord_61 rfl ?_
            refine ab_iload_n dX6_takesWord_62 rfl ?_
            refine ab_callT (j := 6) (As := [.int 2]) (rest := [.int (sgn (u (p + 2)))]) dX6_takesWord_63 mT_J0_charAt_5068e ml_X6_132 ⟨by decide, by decide, rfl, rfl, rfl⟩ (by decide) rfl rfl (Nat.le_of_ble_eq_true rfl) (by decide) c_chr_6_2 ?_
            rintro r w' ⟨rfl, rfl⟩
            refine ab_icmpeq 71 dX6_takesWord_66 (by decide) (fun h_19 => ?_) (fun h_19 => ?_)
            · refine ab_iinc (v := 3) (la' := [(3, .int 3), (2, .int (nI (p + 3))), (0, .ref 1), (1, .ref 3006)]) dX6_takesWord_71 rfl (by decide) (by decide) rfl ?_
              refine ab_goto 42 dX6_takesWord_74 (by decide) ?_
              refine ab_iload_n dX6_takesWord_42 rfl ?_
              refine ab_aload_n dX6_takesWord_43 rfl ?_
              refine ab_callT (j := 6) (As := []) (rest := [.int 3]) dX6_takesWord_44 mT_J0_length_8abf5 ml_X6_124 ⟨by decide, by decide, rfl, rfl, rfl⟩ (by decide) rfl rfl (Nat.le_of_ble_eq_true rfl) (by decide) c_slen_6 ?_
              rintro r w' ⟨rfl, rfl⟩
              refine ab_icmpge 77 dX6_takesWord_47 (by decide) (fun h_20 => ?_) (fun h_20 => absurd (by decide) h_20)
              refine ab_aload_n dX6_takesWord_77 rfl ?_
              refine ab_iload_n dX6_takesWord_78 rfl ?_
              refine ab_putf (w1 := ([x0, ob 6 [.ref 2, .ref 3, .int f1_2, .int (nI n), .int (nI (p + 3)), .int f1_5, .int f1_6], ba 700 r2, ia 4 r3, x4, x5, x6, x7, x8, x9, x10, x11, x12, x13, x14, x15, x16, x17, x18, x19, x20, x21, x22, x23, x24, x25, x26, x27, x28, x29, x30, x31, x32], wm)) dX6_takesWord_79 fl_X6_26 rfl (Nat.le_of_ble_eq_true rfl) (fun _ => ⟨rfl, rfl⟩) rfl ?_
              refine ab_iconst (v := 1) dX6_takesWord_82 (by decide) ?_
              exact ab_zret dX6_takesWord_83 rfl rfl (by decide) (Or.inl (⟨⟨by omega, (fun z => c_11 ((isL_s (h_u _ (by omega)).1).mpr z.2)), (sgn_c (c := 114) (h_u (p + 0) (by omega)).1 (by decide) rfl).mp h_15, (sgn_c (c := 111) (h_u (p + 1) (by omega)).1 (by decide) rfl).mp h_17, (sgn_c (c := 100) (h_u (p + 2) (by omega)).1 (by decide) rfl).mp h_19⟩, rfl, rfl⟩))
            · refine ab_iconst (v := 0) dX6_takesWord_69 (by decide) ?_
              exact ab_zret dX6_takesWord_70 rfl rfl (by decide) (Or.inr (⟨fun z => h_19 ((sgn_c (c := 100) (h_u (p + 2) (by omega)).1 (by decide) rfl).mpr z.2.2.2.2), rfl, rfl⟩))
          · refine ab_iconst (v := 0) dX6_takesWord_69 (by decide) ?_
            exact ab_zret dX6_takesWord_70 rfl rfl (by decide) (Or.inr (⟨fun z => h_17 ((sgn_c (c := 111) (h_u (p + 1) (by omega)).1 (by decide) rfl).mpr z.2.2.2.1), rfl, rfl⟩))
        · refine ab_iconst (v := 0) dX6_takesWord_69 (by decide) ?_
          exact ab_zret dX6_takesWord_70 rfl rfl (by decide) (Or.inr (⟨fun z => h_15 ((sgn_c (c := 114) (h_u (p + 0) (by omega)).1 (by decide) rfl).mpr z.2.2.1), rfl, rfl⟩))
theorem c_X6_takesWord_7 {x0 x4 x5 x6 x7 x8 x9 x10 x11 x12 x13 x14 x15 x16 x17 x18 x19 x20 x21 x22 x23 x24 x25 x26 x27 x28 x29 x30 x31 x32 : ax_E} {f1_2 f1_5 f1_6 : Int32} {r2 r3 : Nat → Int32} {wm : List ax_E} {u : Nat → Nat} {n p : Nat} (h_n : n ≤ 700) (h_u : ∀ k, k < 700 → u k < 256 ∧ r2 k = sgn (u k)) (h_p : p ≤ n) : Ct M_X6_takesWord [.ref 1, .ref 3007] ([x0, ob 6 [.ref 2, .ref 3, .int f1_2, .int (nI n), .int (nI p), .int f1_5, .int f1_6], ba 700 r2, ia 4 r3, x4, x5, x6, x7, x8, x9, x10, x11, x12, x13, x14, x15, x16, x17, x18, x19, x20, x21, x22, x23, x24, x25, x26, x27, x28, x29, x30, x31, x32], wm) (fun r w' => ((wd_7 u n p) ∧ r = some (.int 1) ∧ w' = ([x0, ob 6 [.ref 2, .ref 3, .int f1_2, .int (nI n), .int (nI (p + 3)), .int f1_5, .int f1_6], ba 700 r2, ia 4 r3, x4, x5, x6, x7, x8, x9, x10, x11, x12, x13, x14, x15, x16, x17, x18, x19, x20, x21, x22, x23, x24, x25, x26, x27, x28, x29, x30, x31, x32], wm)) ∨ ((¬ wd_7 u n p) ∧ r = some (.int 0) ∧ w' = ([x0, ob 6 [.ref 2, .ref 3, .int f1_2, .int (nI n), .int (nI p), .int f1_5, .int f1_6], ba 700 r2, ia 4 r3, x4, x5, x6, x7, x8, x9, x10, x11, x12, x13, x14, x15, x16, x17, x18, x19, x20, x21, x22, x23, x24, x25, x26, x27, x28, x29, x30, x31, x32], wm))) := by
  refine ct_of ⟨by decide, rfl⟩ (Nat.le_of_ble_eq_true rfl) ?_
  refine ab_aload_n dX6_takesWord_0 rfl ?_
  refine ab_getf dX6_takesWord_1 fl_X6_26 rfl rfl ?_
  refine ab_aload_n dX6_takesWord_4 rfl ?_
  refine ab_callT (j := 7) (As := []) (rest := [.int (nI p)]) dX6_takesWord_5 mT_J0_length_8abf5 ml_X6_124 ⟨by decide, by decide, rfl, rfl, rfl⟩ (by decide) rfl rfl (Nat.le_of_ble_eq_true rfl) (by decide) c_slen_7 ?_
  rintro r w' ⟨rfl, rfl⟩
  refine ab_iadd dX6_takesWord_8 ?_
  refine ab_topi (v := (nI (p + 3))) (nI_add _ 3) ?_
  refine ab_istore_n (la' := [(2, .int (nI (p + 3))), (0, .ref 1), (1, .ref 3007)]) dX6_takesWord_9 (by decide) rfl ?_
  refine ab_iload_n dX6_takesWord_10 rfl ?_
  refine ab_aload_n dX6_takesWord_11 rfl ?_
  refine ab_getf dX6_takesWord_12 fl_X6_23 rfl rfl ?_
  refine ab_icmpgt 38 dX6_takesWord_15 (by decide) (fun h_1 => ?_) (fun h_1 => ?_)
  · have h_1n := (nI_ltI (a := n) (b := (p + 3)) (by omega) (by omega)).mp h_1
    refine ab_iconst (v := 0) dX6_takesWord_38 (by decide) ?_
    exact ab_zret dX6_takesWord_39 rfl rfl (by decide) (Or.inr (⟨fun z => absurd z.1 (by omega), rfl, rfl⟩))
  · have h_1n : ¬ _ := fun z => h_1 ((nI_ltI (a := n) (b := (p + 3)) (by omega) (by omega)).mpr z)
    refine ab_iload_n dX6_takesWord_18 rfl ?_
    refine ab_aload_n dX6_takesWord_19 rfl ?_
    refine ab_getf dX6_takesWord_20 fl_X6_23 rfl rfl ?_
    refine ab_icmpge 40 dX6_takesWord_23 (by decide) (fun h_2 => ?_) (fun h_2 => ?_)
    · have h_2n := (nI_leI (a := n) (b := (p + 3)) (by omega) (by omega)).mp h_2
      refine ab_iconst (v := 0) dX6_takesWord_40 (by decide) ?_
      refine ab_istore_n (la' := [(3, .int 0), (2, .int (nI (p + 3))), (0, .ref 1), (1, .ref 3007)]) dX6_takesWord_41 (by decide) rfl ?_
      refine ab_iload_n dX6_takesWord_42 rfl ?_
      refine ab_aload_n dX6_takesWord_43 rfl ?_
      refine ab_callT (j := 7) (As := []) (rest := [.int 0]) dX6_takesWord_44 mT_J0_length_8abf5 ml_X6_124 ⟨by decide, by decide, rfl, rfl, rfl⟩ (by decide) rfl rfl (Nat.le_of_ble_eq_true rfl) (by decide) c_slen_7 ?_
      rintro r w' ⟨rfl, rfl⟩
      refine ab_icmpge 77 dX6_takesWord_47 (by decide) (fun h_3 => absurd h_3 (by decide)) (fun h_3 => ?_)
      refine ab_aload_n dX6_takesWord_50 rfl ?_
      refine ab_getf dX6_takesWord_51 fl_X6_11 rfl rfl ?_
      refine ab_aload_n dX6_takesWord_54 rfl ?_
      refine ab_getf dX6_takesWord_55 fl_X6_26 rfl rfl ?_
      refine ab_iload_n dX6_takesWord_58 rfl ?_
      refine ab_iadd dX6_takesWord_59 ?_
      refine ab_topi (v := (nI p)) (Int32.add_zero _) ?_
      refine ab_bald (j := p) dX6_takesWord_60 rfl (ix_nI (by omega) (by decide)) ?_
      refine ab_topi (v := (sgn (u (p + 0)))) (h_u p (by omega)).2 ?_
      refine ab_aload_n dX6_takesWord_61 rfl ?_
      refine ab_iload_n dX6_takesWord_62 rfl ?_
      refine ab_callT (j := 7) (As := [.int 0]) (rest := [.int (sgn (u (p + 0)))]) dX6_takesWord_63 mT_J0_charAt_5068e ml_X6_132 ⟨by decide, by decide, rfl, rfl, rfl⟩ (by decide) rfl rfl (Nat.le_of_ble_eq_true rfl) (by decide) c_chr_7_0 ?_
      rintro r w' ⟨rfl, rfl⟩
      refine ab_icmpeq 71 dX6_takesWord_66 (by decide) (fun h_4 => ?_) (fun h_4 => ?_)
      · refine ab_iinc (v := 1) (la' := [(3, .int 1), (2, .int (nI (p + 3))), (0, .ref 1), (1, .ref 3007)]) dX6_takesWord_71 rfl (by decide) (by decide) rfl ?_
        refine ab_goto 42 dX6_takesWord_74 (by decide) ?_
        refine ab_iload_n dX6_takesWord_42 rfl ?_
        refine ab_aload_n dX6_takesWord_43 rfl ?_
        refine ab_callT (j := 7) (As := []) (rest := [.int 1]) dX6_takesWord_44 mT_J0_length_8abf5 ml_X6_124 ⟨by decide, by decide, rfl, rfl, rfl⟩ (by decide) rfl rfl (Nat.le_of_ble_eq_true rfl) (by decide) c_slen_7 ?_
        rintro r w' ⟨rfl, rfl⟩
        refine ab_icmpge 77 dX6_takesWord_47 (by decide) (fun h_5 => absurd h_5 (by decide)) (fun h_5 => ?_)
        refine ab_aload_n dX6_takesWord_50 rfl ?_
        refine ab_getf dX6_takesWord_51 fl_X6_11 rfl rfl ?_
        refine ab_aload_n dX6_takesWord_54 rfl ?_
        refine ab_getf dX6_takesWord_55 fl_X6_26 rfl rfl ?_
        refine ab_iload_n dX6_takesWord_58 rfl ?_
        refine ab_iadd dX6_takesWord_59 ?_
        refine ab_topi (v := (nI (p + 1))) (nI_1 _) ?_
        refine ab_bald (j := (p + 1)) dX6_takesWord_60 rfl (ix_nI (by omega) (by decide)) ?_
        refine ab_topi (v := (sgn (u (p + 1)))) (h_u (p + 1) (by omega)).2 ?_
        refine ab_aload_n dX6_takesWord_61 rfl ?_
        refine ab_iload_n dX6_takesWord_62 rfl ?_
        refine ab_callT (j := 7) (As := [.int 1]) (rest := [.int (sgn (u (p + 1)))]) dX6_takesWord_63 mT_J0_charAt_5068e ml_X6_132 ⟨by decide, by decide, rfl, rfl, rfl⟩ (by decide) rfl rfl (Nat.le_of_ble_eq_true rfl) (by decide) c_chr_7_1 ?_
        rintro r w' ⟨rfl, rfl⟩
        refine ab_icmpeq 71 dX6_takesWord_66 (by decide) (fun h_6 => ?_) (fun h_6 => ?_)
        · refine ab_iinc (v := 2) (la' := [(3, .int 2), (2, .int (nI (p + 3))), (0, .ref 1), (1, .ref 3007)]) dX6_takesWord_71 rfl (by decide) (by decide) rfl ?_
          refine ab_goto 42 dX6_takesWord_74 (by decide) ?_
          refine ab_iload_n dX6_takesWord_42 rfl ?_
          refine ab_aload_n dX6_takesWord_43 rfl ?_
          refine ab_callT (j := 7) (As := []) (rest := [.int 2]) dX6_takesWord_44 mT_J0_length_8abf5 ml_X6_124 ⟨by decide, by decide, rfl, rfl, rfl⟩ (by decide) rfl rfl (Nat.le_of_ble_eq_true rfl) (by decide) c_slen_7 ?_
          rintro r w' ⟨rfl, rfl⟩
          refine ab_icmpge 77 dX6_takesWord_47 (by decide) (fun h_7 => absurd h_7 (by decide)) (fun h_7 => ?_)
          refine ab_aload_n dX6_takesWord_50 rfl ?_
          refine ab_getf dX6_takesWord_51 fl_X6_11 rfl rfl ?_
          refine ab_aload_n dX6_takesWord_54 rfl ?_
          refine ab_getf dX6_takesWord_55 fl_X6_26 rfl rfl ?_
          refine ab_iload_n dX6_takesWord_58 rfl ?_
          refine ab_iadd dX6_takesWord_59 ?_
          refine ab_topi (v := (nI (p + 2))) (nI_add _ 2) ?_
          refine ab_bald (j := (p + 2)) dX6_takesWord_60 rfl (ix_nI (by omega) (by decide)) ?_
          refine ab_topi (v := (sgn (u (p + 2)))) (h_u (p + 2) (by omega)).2 ?_
          refine ab_aload_n dX6_takesWord_61 rfl ?_
          refine ab_iload_n dX6_takesWord_62 rfl ?_
          refine ab_callT (j := 7) (As := [.int 2]) (rest := [.int (sgn (u (p + 2)))]) dX6_takesWord_63 mT_J0_charAt_5068e ml_X6_132 ⟨by decide, by decide, rfl, rfl, rfl⟩ (by decide) rfl rfl (Nat.le_of_ble_eq_true rfl) (by decide) c_chr_7_2 ?_
          rintro r w' ⟨rfl, rfl⟩
          refine ab_icmpeq 71 dX6_takesWord_66 (by decide) (fun h_8 => ?_) (fun h_8 => ?_)
          · refine ab_iinc (v := 3) (la' := [(3, .int 3), (2, .int (nI (p + 3))), (0, .ref 1), (1, .ref 3007)]) dX6_takesWord_71 rfl (by decide) (by decide) rfl ?_
            refine ab_goto 42 dX6_takesWord_74 (by decide) ?_
            refine ab_iload_n dX6_takesWord_42 rfl ?_
            refine ab_aload_n dX6_takesWord_43 rfl ?_
            refine ab_callT (j := 7) (As := []) (rest := [.int 3]) dX6_takesWord_44 mT_J0_length_8abf5 ml_X6_124 ⟨by decide, by decide, rfl, rfl, rfl⟩ (by decide) rfl rfl (Nat.le_of_ble_eq_true rfl) (by decide) c_slen_7 ?_
            rintro r w' ⟨rfl, rfl⟩
            refine ab_icmpge 77 dX6_takesWord_47 (by decide) (fun h_9 => ?_) (fun h_9 => absurd (by decide) h_9)
            refine ab_aload_n dX6_takesWord_77 rfl ?_
            refine ab_iload_n dX6_takesWord_78 rfl ?_
            refine ab_putf (w1 := ([x0, ob 6 [.ref 2, .ref 3, .int f1_2, .int (nI n), .int (nI (p + 3)), .int f1_5, .int f1_6], ba 700 r2, ia 4 r3, x4, x5, x6, x7, x8, x9, x10, x11, x12, x13, x14, x15, x16, x17, x18, x19, x20, x21, x22, x23, x24, x25, x26, x27, x28, x29, x30, x31, x32], wm)) dX6_takesWord_79 fl_X6_26 rfl (Nat.le_of_ble_eq_true rfl) (fun _ => ⟨rfl, rfl⟩) rfl ?_
            refine ab_iconst (v := 1) dX6_takesWord_82 (by decide) ?_
            exact ab_zret dX6_takesWord_83 rfl rfl (by decide) (Or.inl (⟨⟨by omega, (fun z => absurd z.1 (by omega)), (sgn_c (c := 97) (h_u (p + 0) (by omega)).1 (by decide) rfl).mp h_4, (sgn_c (c := 114) (h_u (p + 1) (by omega)).1 (by decide) rfl).mp h_6, (sgn_c (c := 109) (h_u (p + 2) (by omega)).1 (by decide) rfl).mp h_8⟩, rfl, rfl⟩))
          · refine ab_iconst (v := 0) dX6_takesWord_69 (by decide) ?_
            exact ab_zret dX6_takesWord_70 rfl rfl (by decide) (Or.inr (⟨fun z => h_8 ((sgn_c (c := 109) (h_u (p + 2) (by omega)).1 (by decide) rfl).mpr z.2.2.2.2), rfl, rfl⟩))
        · refine ab_iconst (v := 0) dX6_takesWord_69 (by decide) ?_
          exact ab_zret dX6_takesWord_70 rfl rfl (by decide) (Or.inr (⟨fun z => h_6 ((sgn_c (c := 114) (h_u (p + 1) (by omega)).1 (by decide) rfl).mpr z.2.2.2.1), rfl, rfl⟩))
      · refine ab_iconst (v := 0) dX6_takesWord_69 (by decide) ?_
        exact ab_zret dX6_takesWord_70 rfl rfl (by decide) (Or.inr (⟨fun z => h_4 ((sgn_c (c := 97) (h_u (p + 0) (by omega)).1 (by decide) rfl).mpr z.2.2.1), rfl, rfl⟩))
    · have h_2n : ¬ _ := fun z => h_2 ((nI_leI (a := n) (b := (p + 3)) (by omega) (by omega)).mpr z)
      refine ab_aload_n dX6_takesWord_26 rfl ?_
      refine ab_getf dX6_takesWord_27 fl_X6_11 rfl rfl ?_
      refine ab_iload_n dX6_takesWord_30 rfl ?_
      refine ab_bald (j := (p + 3)) dX6_takesWord_31 rfl (ix_nI (by omega) (by decide)) ?_
      refine ab_topi (v := (sgn (u (p + 3)))) (h_u (p + 3) (by omega)).2 ?_
      refine ab_callS (As := [.int (sgn (u (p + 3)))]) (rest := []) dX6_takesWord_32 ms_X6_isLetter ml_X6_129 ⟨by decide, by decide, rfl, rfl, rfl⟩ (by decide) rfl rfl (Nat.le_of_ble_eq_true rfl) c_X6_isLetter ?_
      rintro r w' (⟨c_10, rfl, rfl⟩ | ⟨c_11, rfl, rfl⟩)
      · refine ab_ifeq 40 dX6_takesWord_35 (by decide) (fun h_12 => absurd h_12 (by decide)) (fun h_12 => ?_)
        refine ab_iconst (v := 0) dX6_takesWord_38 (by decide) ?_
        exact ab_zret dX6_takesWord_39 rfl rfl (by decide) (Or.inr (⟨fun z => z.2.1 ⟨by omega, (isL_s (h_u _ (by omega)).1).mp c_10⟩, rfl, rfl⟩))
      · refine ab_ifeq 40 dX6_takesWord_35 (by decide) (fun h_13 => ?_) (fun h_13 => absurd (by decide) h_13)
        refine ab_iconst (v := 0) dX6_takesWord_40 (by decide) ?_
        refine ab_istore_n (la' := [(3, .int 0), (2, .int (nI (p + 3))), (0, .ref 1), (1, .ref 3007)]) dX6_takesWord_41 (by decide) rfl ?_
        refine ab_iload_n dX6_takesWord_42 rfl ?_
        refine ab_aload_n dX6_takesWord_43 rfl ?_
        refine ab_callT (j := 7) (As := []) (rest := [.int 0]) dX6_takesWord_44 mT_J0_length_8abf5 ml_X6_124 ⟨by decide, by decide, rfl, rfl, rfl⟩ (by decide) rfl rfl (Nat.le_of_ble_eq_true rfl) (by decide) c_slen_7 ?_
        rintro r w' ⟨rfl, rfl⟩
        refine ab_icmpge 77 dX6_takesWord_47 (by decide) (fun h_14 => absurd h_14 (by decide)) (fun h_14 => ?_)
        refine ab_aload_n dX6_takesWord_50 rfl ?_
        refine ab_getf dX6_takesWord_51 fl_X6_11 rfl rfl ?_
        refine ab_aload_n dX6_takesWord_54 rfl ?_
        refine ab_getf dX6_takesWord_55 fl_X6_26 rfl rfl ?_
        refine ab_iload_n dX6_takesWord_58 rfl ?_
        refine ab_iadd dX6_takesWord_59 ?_
        refine ab_topi (v := (nI p)) (Int32.add_zero _) ?_
        refine ab_bald (j := p) dX6_takesWord_60 rfl (ix_nI (by omega) (by decide)) ?_
        refine ab_topi (v := (sgn (u (p + 0)))) (h_u p (by omega)).2 ?_
        refine ab_aload_n dX6_takesWord_61 rfl ?_
        refine ab_iload_n dX6_takesWord_62 rfl ?_
        refine ab_callT (j := 7) (As := [.int 0]) (rest := [.int (sgn (u (p + 0)))]) dX6_takesWord_63 mT_J0_charAt_5068e ml_X6_132 ⟨by decide, by decide, rfl, rfl, rfl⟩ (by decide) rfl rfl (Nat.le_of_ble_eq_true rfl) (by decide) c_chr_7_0 ?_
        rintro r w' ⟨rfl, rfl⟩
        refine ab_icmpeq 71 dX6_takesWord_66 (by decide) (fun h_15 => ?_) (fun h_15 => ?_)
        · refine ab_iinc (v := 1) (la' := [(3, .int 1), (2, .int (nI (p + 3))), (0, .ref 1), (1, .ref 3007)]) dX6_takesWord_71 rfl (by decide) (by decide) rfl ?_
          refine ab_goto 42 dX6_takesWord_74 (by decide) ?_
          refine ab_iload_n dX6_takesWord_42 rfl ?_
          refine ab_aload_n dX6_takesWord_43 rfl ?_
          refine ab_callT (j := 7) (As := []) (rest := [.int 1]) dX6_takesWord_44 mT_J0_length_8abf5 ml_X6_124 ⟨by decide, by decide, rfl, rfl, rfl⟩ (by decide) rfl rfl (Nat.le_of_ble_eq_true rfl) (by decide) c_slen_7 ?_
          rintro r w' ⟨rfl, rfl⟩
          refine ab_icmpge 77 dX6_takesWord_47 (by decide) (fun h_16 => absurd h_16 (by decide)) (fun h_16 => ?_)
          refine ab_aload_n dX6_takesWord_50 rfl ?_
          refine ab_getf dX6_takesWord_51 fl_X6_11 rfl rfl ?_
          refine ab_aload_n dX6_takesWord_54 rfl ?_
          refine ab_getf dX6_takesWord_55 fl_X6_26 rfl rfl ?_
          refine ab_iload_n dX6_takesWord_58 rfl ?_
          refine ab_iadd dX6_takesWord_59 ?_
          refine ab_topi (v := (nI (p + 1))) (nI_1 _) ?_
          refine ab_bald (j := (p + 1)) dX6_takesWord_60 rfl (ix_nI (by omega) (by decide)) ?_
          refine ab_topi (v := (sgn (u (p + 1)))) (h_u (p + 1) (by omega)).2 ?_
          refine ab_aload_n dX6_takesWord_61 rfl ?_
          refine ab_iload_n dX6_takesWord_62 rfl ?_
          refine ab_callT (j := 7) (As := [.int 1]) (rest := [.int (sgn (u (p + 1)))]) dX6_takesWord_63 mT_J0_charAt_5068e ml_X6_132 ⟨by decide, by decide, rfl, rfl, rfl⟩ (by decide) rfl rfl (Nat.le_of_ble_eq_true rfl) (by decide) c_chr_7_1 ?_
          rintro r w' ⟨rfl, rfl⟩
          refine ab_icmpeq 71 dX6_takesWord_66 (by decide) (fun h_17 => ?_) (fun h_17 => ?_)
          · refine ab_iinc (v := 2) (la' := [(3, .int 2), (2, .int (nI (p + 3))), (0, .ref 1), (1, .ref 3007)]) dX6_takesWord_71 rfl (by decide) (by decide) rfl ?_
            refine ab_goto 42 dX6_takesWord_74 (by decide) ?_
            refine ab_iload_n dX6_takesWord_42 rfl ?_
            refine ab_aload_n dX6_takesWord_43 rfl ?_
            refine ab_callT (j := 7) (As := []) (rest := [.int 2]) dX6_takesWord_44 mT_J0_length_8abf5 ml_X6_124 ⟨by decide, by decide, rfl, rfl, rfl⟩ (by decide) rfl rfl (Nat.le_of_ble_eq_true rfl) (by decide) c_slen_7 ?_
            rintro r w' ⟨rfl, rfl⟩
            refine ab_icmpge 77 dX6_takesWord_47 (by decide) (fun h_18 => absurd h_18 (by decide)) (fun h_18 => ?_)
            refine ab_aload_n dX6_takesWord_50 rfl ?_
            refine ab_getf dX6_takesWord_51 fl_X6_11 rfl rfl ?_
            refine ab_aload_n dX6_takesWord_54 rfl ?_
            refine ab_getf dX6_takesWord_55 fl_X6_26 rfl rfl ?_
            refine ab_iload_n dX6_takesWord_58 rfl ?_
            refine ab_iadd dX6_takesWord_59 ?_
            refine ab_topi (v := (nI (p + 2))) (nI_add _ 2) ?_
            refine ab_bald (j := (p + 2)) dX6_takesWord_60 rfl (ix_nI (by omega) (by decide)) ?_
            refine ab_topi (v := (sgn (u (p + 2)))) (h_u (p + 2) (by omega)).2 ?_
            refine ab_aload_n dX6_takesWord_61 rfl ?_
            refine ab_iload_n dX6_takesWord_62 rfl ?_
            refine ab_callT (j := 7) (As := [.int 2]) (rest := [.int (sgn (u (p + 2)))]) dX6_takesWord_63 mT_J0_charAt_5068e ml_X6_132 ⟨by decide, by decide, rfl, rfl, rfl⟩ (by decide) rfl rfl (Nat.le_of_ble_eq_true rfl) (by decide) c_chr_7_2 ?_
            rintro r w' ⟨rfl, rfl⟩
            refine ab_icmpeq 71 dX6_takesWord_66 (by decide) (fun h_19 => ?_) (fun h_19 => ?_)
            · refine ab_iinc (v := 3) (la' := [(3, .int 3), (2, .int (nI (p + 3))), (0, .ref 1), (1, .ref 3007)]) dX6_takesWord_71 rfl (by decide) (by decide) rfl ?_
              refine ab_goto 42 dX6_takesWord_74 (by decide) ?_
              refine ab_iload_n dX6_takesWord_42 rfl ?_
              refine ab_aload_n dX6_takesWord_43 rfl ?_
              refine ab_callT (j := 7) (As := []) (rest := [.int 3]) dX6_takesWord_44 mT_J0_length_8abf5 ml_X6_124 ⟨by decide, by decide, rfl, rfl, rfl⟩ (by decide) rfl rfl (Nat.le_of_ble_eq_true rfl) (by decide) c_slen_7 ?_
              rintro r w' ⟨rfl, rfl⟩
              refine ab_icmpge 77 dX6_takesWord_47 (by decide) (fun h_20 => ?_) (fun h_20 => absurd (by decide) h_20)
              refine ab_aload_n dX6_takesWord_77 rfl ?_
              refine ab_iload_n dX6_takesWord_78 rfl ?_
              refine ab_putf (w1 := ([x0, ob 6 [.ref 2, .ref 3, .int f1_2, .int (nI n), .int (nI (p + 3)), .int f1_5, .int f1_6], ba 700 r2, ia 4 r3, x4, x5, x6, x7, x8, x9, x10, x11, x12, x13, x14, x15, x16, x17, x18, x19, x20, x21, x22, x23, x24, x25, x26, x27, x28, x29, x30, x31, x32], wm)) dX6_takesWord_79 fl_X6_26 rfl (Nat.le_of_ble_eq_true rfl) (fun _ => ⟨rfl, rfl⟩) rfl ?_
              refine ab_iconst (v := 1) dX6_takesWord_82 (by decide) ?_
              exact ab_zret dX6_takesWord_83 rfl rfl (by decide) (Or.inl (⟨⟨by omega, (fun z => c_11 ((isL_s (h_u _ (by omega)).1).mpr z.2)), (sgn_c (c := 97) (h_u (p + 0) (by omega)).1 (by decide) rfl).mp h_15, (sgn_c (c := 114) (h_u (p + 1) (by omega)).1 (by decide) rfl).mp h_17, (sgn_c (c := 109) (h_u (p + 2) (by omega)).1 (by decide) rfl).mp h_19⟩, rfl, rfl⟩))
            · refine ab_iconst (v := 0) dX6_takesWord_69 (by decide) ?_
              exact ab_zret dX6_takesWord_70 rfl rfl (by decide) (Or.inr (⟨fun z => h_19 ((sgn_c (c := 109) (h_u (p + 2) (by omega)).1 (by decide) rfl).mpr z.2.2.2.2), rfl, rfl⟩))
          · refine ab_iconst (v := 0) dX6_takesWord_69 (by decide) ?_
            exact ab_zret dX6_takesWord_70 rfl rfl (by decide) (Or.inr (⟨fun z => h_17 ((sgn_c (c := 114) (h_u (p + 1) (by omega)).1 (by decide) rfl).mpr z.2.2.2.1), rfl, rfl⟩))
        · refine ab_iconst (v := 0) dX6_takesWord_69 (by decide) ?_
          exact ab_zret dX6_takesWord_70 rfl rfl (by decide) (Or.inr (⟨fun z => h_15 ((sgn_c (c := 97) (h_u (p + 0) (by omega)).1 (by decide) rfl).mpr z.2.2.1), rfl, rfl⟩))
theorem c_lineWord_0 {w : ax_W}  : Ct M_X6_lineWord [.int 0] w (fun r w' => r = some (.ref 3000) ∧ w' = w) := by
  refine ct_of ⟨by decide, rfl⟩ (Nat.le_of_ble_eq_true rfl) ?_
  refine ab_iload_n dX6_lineWord_0 rfl ?_
  refine ab_tabIn 28 dX6_lineWord_1 (by decide) (by decide) rfl (by decide) ?_
  refine ab_ldcS (j := 0) dX6_lineWord_28 rfl ?_
  exact ab_aret dX6_lineWord_30 rfl (by decide) (⟨rfl, rfl⟩)
theorem c_lineWord_1 {w : ax_W}  : Ct M_X6_lineWord [.int 1] w (fun r w' => r = some (.ref 3001) ∧ w' = w) := by
  refine ct_of ⟨by decide, rfl⟩ (Nat.le_of_ble_eq_true rfl) ?_
  refine ab_iload_n dX6_lineWord_0 rfl ?_
  refine ab_tabIn 31 dX6_lineWord_1 (by decide) (by decide) rfl (by decide) ?_
  refine ab_ldcS (j := 1) dX6_lineWord_31 rfl ?_
  exact ab_aret dX6_lineWord_33 rfl (by decide) (⟨rfl, rfl⟩)
theorem c_lineWord_2 {w : ax_W}  : Ct M_X6_lineWord [.int 2] w (fun r w' => r = some (.ref 3002) ∧ w' = w) := by
  refine ct_of ⟨by decide, rfl⟩ (Nat.le_of_ble_eq_true rfl) ?_
  refine ab_iload_n dX6_lineWord_0 rfl ?_
  refine ab_tabIn 34 dX6_lineWord_1 (by decide) (by decide) rfl (by decide) ?_
  refine ab_ldcS (j := 2) dX6_lineWord_34 rfl ?_
  exact ab_aret dX6_lineWord_36 rfl (by decide) (⟨rfl, rfl⟩)
theorem c_lineWord_3 {w : ax_W}  : Ct M_X6_lineWord [.int 3] w (fun r w' => r = some (.ref 3003) ∧ w' = w) := by
  refine ct_of ⟨by decide, rfl⟩ (Nat.le_of_ble_eq_true rfl) ?_
  refine ab_iload_n dX6_lineWord_0 rfl ?_
  refine ab_tabOut 37 dX6_lineWord_1 (by decide) (by decide) ?_
  refine ab_ldcS (j := 3) dX6_lineWord_37 rfl ?_
  exact ab_aret dX6_lineWord_39 rfl (by decide) (⟨rfl, rfl⟩)
theorem c_barWord_0 {w : ax_W}  : Ct M_X6_barWord [.int 0] w (fun r w' => r = some (.ref 3004) ∧ w' = w) := by
  refine ct_of ⟨by decide, rfl⟩ (Nat.le_of_ble_eq_true rfl) ?_
  refine ab_iload_n dX6_barWord_0 rfl ?_
  refine ab_tabIn 28 dX6_barWord_1 (by decide) (by decide) rfl (by decide) ?_
  refine ab_ldcS (j := 4) dX6_barWord_28 rfl ?_
  exact ab_aret dX6_barWord_30 rfl (by decide) (⟨rfl, rfl⟩)
theorem c_barWord_1 {w : ax_W}  : Ct M_X6_barWord [.int 1] w (fun r w' => r = some (.ref 3005) ∧ w' = w) := by
  refine ct_of ⟨by decide, rfl⟩ (Nat.le_of_ble_eq_true rfl) ?_
  refine ab_iload_n dX6_barWord_0 rfl ?_
  refine ab_tabIn 31 dX6_barWord_1 (by decide) (by decide) rfl (by decide) ?_
  refine ab_ldcS (j := 5) dX6_barWord_31 rfl ?_
  exact ab_aret dX6_barWord_33 rfl (by decide) (⟨rfl, rfl⟩)
theorem c_barWord_2 {w : ax_W}  : Ct M_X6_barWord [.int 2] w (fun r w' => r = some (.ref 3006) ∧ w' = w) := by
  refine ct_of ⟨by decide, rfl⟩ (Nat.le_of_ble_eq_true rfl) ?_
  refine ab_iload_n dX6_barWord_0 rfl ?_
  refine ab_tabIn 34 dX6_barWord_1 (by decide) (by decide) rfl (by decide) ?_
  refine ab_ldcS (j := 6) dX6_barWord_34 rfl ?_
  exact ab_aret dX6_barWord_36 rfl (by decide) (⟨rfl, rfl⟩)
theorem c_barWord_3 {w : ax_W}  : Ct M_X6_barWord [.int 3] w (fun r w' => r = some (.ref 3007) ∧ w' = w) := by
  refine ct_of ⟨by decide, rfl⟩ (Nat.le_of_ble_eq_true rfl) ?_
  refine ab_iload_n dX6_barWord_0 rfl ?_
  refine ab_tabOut 37 dX6_barWord_1 (by decide) (by decide) ?_
  refine ab_ldcS (j := 7) dX6_barWord_37 rfl ?_
  exact ab_aret dX6_barWord_39 rfl (by decide) (⟨rfl, rfl⟩)
