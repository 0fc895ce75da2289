theorem upd_ne {f : Nat → Int32} {i j : Nat} {a : Int32} (h : ¬ j = i) : upd f i a j = f j := by unfold upd; rw [if_neg h]
theorem c_X6_readsSigned {x0 x4 x5 x6 x7 x8 x9 x10 x11 x12 x13 x14 x15 x16 x17 x18 x19 x20 x21 x22 x23 x24 x25 x26 x27 x28 x29 x30 x31 x32 : ax_E} {f1_2 f1_5 f1_6 : Int32} {r2 r3 : Nat → Int32} {wm : List ax_E} {u : Nat → Nat} {n p i hi : Nat} (h_n : n ≤ 700) (h_u : ∀ k, k < 700 → u k < 256 ∧ r2 k = sgn (u k)) (h_p : p ≤ n) (h_i : i < 4) (h_hi : hi ≤ 999) : Ct M_X6_readsSigned [.ref 1, .int (nI i), .int (nI hi)] ([x0, ob 6 [.ref 2, .ref 3, .int f1_2, .int (nI n), .int (nI p), .int f1_5, .int f1_6], ba 700 r2, ia 4 r3, x4, x5, x6, x7, x8, x9, x10, x11, x12, x13, x14, x15, x16, x17, x18, x19, x20, x21, x22, x23, x24, x25, x26, x27, x28, x29, x30, x31, x32], wm) (fun r w' => (∃ e : Nat × Nat, ∃ ga : Int32, ∃ gr : Nat → Int32, (pSg u n p hi = .inl e) ∧ r = some (.int 0) ∧ w' = ([x0, ob 6 [.ref 2, .ref 3, .int f1_2, .int (nI n), .int ga, .int (nI e.1), .int (nI e.2)], ba 700 r2, ia 4 gr, x4, x5, x6, x7, x8, x9, x10, x11, x12, x13, x14, x15, x16, x17, x18, x19, x20, x21, x22, x23, x24, x25, x26, x27, x28, x29, x30, x31, x32], wm)) ∨ (∃ v : Int32 × Nat, (pSg u n p hi = .inr v) ∧ (p ≤ v.2 ∧ v.2 ≤ n) ∧ r = some (.int 1) ∧ w' = ([x0, ob 6 [.ref 2, .ref 3, .int f1_2, .int (nI n), .int (nI v.2), .int f1_5, .int f1_6], ba 700 r2, ia 4 (upd r3 i v.1), x4, x5, x6, x7, x8, x9, x10, x11, x12, x13, x14, x15, x16, x17, x18, x19, x20, x21, x22, x23, x24, x25, x26, x27, x28, x29, x30, x31, x32], wm))) := by
  refine ct_of ⟨by decide, rfl⟩ (Nat.le_of_ble_eq_true rfl) ?_
  refine ab_aload_n dX6_readsSigned_0 rfl ?_
  refine ab_callV (As := []) (rest := []) dX6_readsSigned_1 mv_X6_skipBlanks ml_X6_61 ⟨by decide, by decide, rfl, rfl, rfl⟩ (by decide) rfl rfl (Nat.le_of_ble_eq_true rfl) rfl (c_X6_skipBlanks (n := n) (p := p) h_n h_u (by omega)) ?_
  rintro r w' ⟨c_1, rfl, rfl⟩
  refine ab_aload_n dX6_readsSigned_4 rfl ?_
  refine ab_getf dX6_readsSigned_5 fl_X6_26 rfl rfl ?_
  refine ab_aload_n dX6_readsSigned_8 rfl ?_
  refine ab_getf dX6_readsSigned_9 fl_X6_23 rfl rfl ?_
  refine ab_icmpge 33 dX6_readsSigned_12 (by decide) (fun h_2 => ?_) (fun h_2 => ?_)
  · have h_2n := (nI_leI (a := n) (b := (sk u n p)) (by omega) (by omega)).mp h_2
    refine ab_iconst (v := 0) dX6_readsSigned_33 (by decide) ?_
    refine ab_istore_n (la' := [(3, .int 0), (0, .ref 1), (1, .int (nI i)), (2, .int (nI hi))]) dX6_readsSigned_34 (by decide) rfl ?_
    refine ab_iload_n dX6_readsSigned_35 rfl ?_
    refine ab_ifeq 49 dX6_readsSigned_36 (by decide) (fun h_3 => ?_) (fun h_3 => absurd (by decide) h_3)
    refine ab_aload_n dX6_readsSigned_49 rfl ?_
    refine ab_iload_n dX6_readsSigned_50 rfl ?_
    refine ab_iconst (v := 0) dX6_readsSigned_51 (by decide) ?_
    refine ab_iload_n dX6_readsSigned_52 rfl ?_
    refine ab_callV (As := [.int (nI i), .int 0, .int (nI hi)]) (rest := []) dX6_readsSigned_53 mv_X6_readsWhole ml_X6_112 ⟨by decide, by decide, rfl, rfl, rfl⟩ (by decide) rfl rfl (Nat.le_of_ble_eq_true rfl) rfl (c_X6_readsWhole (n := n) (p := (sk u n p)) (i := i) (lo := 0) (hi := hi) h_n h_u (by omega) h_i (by decide) h_hi) ?_
    rintro r w' (⟨e_4, ga_5, c_6, rfl, rfl⟩ | ⟨v_7, c_8, c_9, rfl, rfl⟩)
    · refine ab_istore (la' := [(4, .int 0), (3, .int 0), (0, .ref 1), (1, .int (nI i)), (2, .int (nI hi))]) dX6_readsSigned_56 (by decide) rfl ?_
      refine ab_iload_n dX6_readsSigned_58 rfl ?_
      refine ab_ifeq 75 dX6_readsSigned_59 (by decide) (fun h_10 => ?_) (fun h_10 => absurd (by decide) h_10)
      refine ab_iload dX6_readsSigned_75 rfl ?_
      exact ab_zret dX6_readsSigned_77 rfl rfl (by decide) (Or.inl (⟨e_4, ga_5, r3, by unfold pSg; rw [if_neg (fun z => absurd z.1 (by omega)), ← pWh_sk (p := p), sb_l c_6], rfl, rfl⟩))
    · refine ab_istore (la' := [(4, .int 1), (3, .int 0), (0, .ref 1), (1, .int (nI i)), (2, .int (nI hi))]) dX6_readsSigned_56 (by decide) rfl ?_
      refine ab_iload_n dX6_readsSigned_58 rfl ?_
      refine ab_ifeq 75 dX6_readsSigned_59 (by decide) (fun h_11 => ?_) (fun h_11 => absurd (by decide) h_11)
      refine ab_iload dX6_readsSigned_75 rfl ?_
      exact ab_zret dX6_readsSigned_77 rfl rfl (by decide) (Or.inr (⟨(nI v_7.1, v_7.2), by unfold pSg; rw [if_neg (fun z => absurd z.1 (by omega)), ← pWh_sk (p := p), sb_r c_8], ⟨by show p ≤ v_7.2; omega, by show v_7.2 ≤ n; omega⟩, rfl, rfl⟩))
  · have h_2n : ¬ _ := fun z => h_2 ((nI_leI (a := n) (b := (sk u n p)) (by omega) (by omega)).mpr z)
    refine ab_aload_n dX6_readsSigned_15 rfl ?_
    refine ab_getf dX6_readsSigned_16 fl_X6_11 rfl rfl ?_
    refine ab_aload_n dX6_readsSigned_19 rfl ?_
    refine ab_getf dX6_readsSigned_20 fl_X6_26 rfl rfl ?_
    refine ab_bald (j := (sk u n p)) dX6_readsSigned_23 rfl (ix_nI (by omega) (by decide)) ?_
    refine ab_topi (v := (sgn (u (sk u n p)))) (h_u (sk u n p) (by omega)).2 ?_
    refine ab_bipush (v := 45) dX6_readsSigned_24 (by decide) ?_
    refine ab_icmpne 33 dX6_readsSigned_26 (by decide) (fun h_12 => ?_) (fun h_12 => ?_)
    · refine ab_iconst (v := 0) dX6_readsSigned_33 (by decide) ?_
      refine ab_istore_n (la' := [(3, .int 0), (0, .ref 1), (1, .int (nI i)), (2, .int (nI hi))]) dX6_readsSigned_34 (by decide) rfl ?_
      refine ab_iload_n dX6_readsSigned_35 rfl ?_
      refine ab_ifeq 49 dX6_readsSigned_36 (by decide) (fun h_13 => ?_) (fun h_13 => absurd (by decide) h_13)
      refine ab_aload_n dX6_readsSigned_49 rfl ?_
      refine ab_iload_n dX6_readsSigned_50 rfl ?_
      refine ab_iconst (v := 0) dX6_readsSigned_51 (by decide) ?_
      refine ab_iload_n dX6_readsSigned_52 rfl ?_
      refine ab_callV (As := [.int (nI i), .int 0, .int (nI hi)]) (rest := []) dX6_readsSigned_53 mv_X6_readsWhole ml_X6_112 ⟨by decide, by decide, rfl, rfl, rfl⟩ (by decide) rfl rfl (Nat.le_of_ble_eq_true rfl) rfl (c_X6_readsWhole (n := n) (p := (sk u n p)) (i := i) (lo := 0) (hi := hi) h_n h_u (by omega) h_i (by decide) h_hi) ?_
      rintro r w' (⟨e_14, ga_15, c_16, rfl, rfl⟩ | ⟨v_17, c_18, c_19, rfl, rfl⟩)
      · refine ab_istore (la' := [(4, .int 0), (3, .int 0), (0, .ref 1), (1, .int (nI i)), (2, .int (nI hi))]) dX6_readsSigned_56 (by decide) rfl ?_
        refine ab_iload_n dX6_readsSigned_58 rfl ?_
        refine ab_ifeq 75 dX6_readsSigned_59 (by decide) (fun h_20 => ?_) (fun h_20 => absurd (by decide) h_20)
        refine ab_iload dX6_readsSigned_75 rfl ?_
        exact ab_zret dX6_readsSigned_77 rfl rfl (by decide) (Or.inl (⟨e_14, ga_15, r3, by unfold pSg; rw [if_neg (fun z => h_12 ((sgn_c (c := 45) (h_u _ (by omega)).1 (by decide) rfl).mpr z.2)), ← pWh_sk (p := p), sb_l c_16], rfl, rfl⟩))
      · refine ab_istore (la' := [(4, .int 1), (3, .int 0), (0, .ref 1), (1, .int (nI i)), (2, .int (nI hi))]) dX6_readsSigned_56 (by decide) rfl ?_
        refine ab_iload_n dX6_readsSigned_58 rfl ?_
        refine ab_ifeq 75 dX6_readsSigned_59 (by decide) (fun h_21 => ?_) (fun h_21 => absurd (by decide) h_21)
        refine ab_iload dX6_readsSigned_75 rfl ?_
        exact ab_zret dX6_readsSigned_77 rfl rfl (by decide) (Or.inr (⟨(nI v_17.1, v_17.2), by unfold pSg; rw [if_neg (fun z => h_12 ((sgn_c (c := 45) (h_u _ (by omega)).1 (by decide) rfl).mpr z.2)), ← pWh_sk (p := p), sb_r c_18], ⟨by show p ≤ v_17.2; omega, by show v_17.2 ≤ n; omega⟩, rfl, rfl⟩))
    · refine ab_iconst (v := 1) dX6_readsSigned_29 (by decide) ?_
      refine ab_goto 34 dX6_readsSigned_30 (by decide) ?_
      refine ab_istore_n (la' := [(3, .int 1), (0, .ref 1), (1, .int (nI i)), (2, .int (nI hi))]) dX6_readsSigned_34 (by decide) rfl ?_
      refine ab_iload_n dX6_readsSigned_35 rfl ?_
      refine ab_ifeq 49 dX6_readsSigned_36 (by decide) (fun h_22 => absurd h_22 (by decide)) (fun h_22 => ?_)
      refine ab_aload_n dX6_readsSigned_39 rfl ?_
      refine ab_dup rfl dX6_readsSigned_40 ?_
      refine ab_getf dX6_readsSigned_41 fl_X6_26 rfl rfl ?_
      refine ab_iconst (v := 1) dX6_readsSigned_44 (by decide) ?_
      refine ab_iadd dX6_readsSigned_45 ?_
      refine ab_topi (v := (nI ((sk u n p) + 1))) (nI_1 _) ?_
      refine ab_putf (w1 := ([x0, ob 6 [.ref 2, .ref 3, .int f1_2, .int (nI n), .int (nI ((sk u n p) + 1)), .int f1_5, .int f1_6], ba 700 r2, ia 4 r3, x4, x5, x6, x7, x8, x9, x10, x11, x12, x13, x14, x15, x16, x17, x18, x19, x20, x21, x22, x23, x24, x25, x26, x27, x28, x29, x30, x31, x32], wm)) dX6_readsSigned_46 fl_X6_26 rfl (Nat.le_of_ble_eq_true rfl) (fun _ => ⟨rfl, rfl⟩) rfl ?_
      refine ab_aload_n dX6_readsSigned_49 rfl ?_
      refine ab_iload_n dX6_readsSigned_50 rfl ?_
      refine ab_iconst (v := 0) dX6_readsSigned_51 (by decide) ?_
      refine ab_iload_n dX6_readsSigned_52 rfl ?_
      refine ab_callV (As := [.int (nI i), .int 0, .int (nI hi)]) (rest := []) dX6_readsSigned_53 mv_X6_readsWhole ml_X6_112 ⟨by decide, by decide, rfl, rfl, rfl⟩ (by decide) rfl rfl (Nat.le_of_ble_eq_true rfl) rfl (c_X6_readsWhole (n := n) (p := ((sk u n p) + 1)) (i := i) (lo := 0) (hi := hi) h_n h_u (by omega) h_i (by decide) h_hi) ?_
      rintro r w' (⟨e_23, ga_24, c_25, rfl, rfl⟩ | ⟨v_26, c_27, c_28, rfl, rfl⟩)
      · refine ab_istore (la' := [(4, .int 0), (3, .int 1), (0, .ref 1), (1, .int (nI i)), (2, .int (nI hi))]) dX6_readsSigned_56 (by decide) rfl ?_
        refine ab_iload_n dX6_readsSigned_58 rfl ?_
        refine ab_ifeq 75 dX6_readsSigned_59 (by decide) (fun h_29 => absurd h_29 (by decide)) (fun h_29 => ?_)
        refine ab_aload_n dX6_readsSigned_62 rfl ?_
        refine ab_getf dX6_readsSigned_63 fl_X6_15 rfl rfl ?_
        refine ab_iload_n dX6_readsSigned_66 rfl ?_
        refine ab_aload_n dX6_readsSigned_67 rfl ?_
        refine ab_getf dX6_readsSigned_68 fl_X6_15 rfl rfl ?_
        refine ab_iload_n dX6_readsSigned_71 rfl ?_
        refine ab_iald (j := i) dX6_readsSigned_72 rfl (ix_nI (by omega) (by decide)) ?_
        refine ab_ineg dX6_readsSigned_73 ?_
        refine ab_iast (w1 := ([x0, ob 6 [.ref 2, .ref 3, .int f1_2, .int (nI n), .int ga_24, .int (nI e_23.1), .int (nI e_23.2)], ba 700 r2, ia 4 (upd r3 i (-(r3 i))), x4, x5, x6, x7, x8, x9, x10, x11, x12, x13, x14, x15, x16, x17, x18, x19, x20, x21, x22, x23, x24, x25, x26, x27, x28, x29, x30, x31, x32], wm)) dX6_readsSigned_74 rfl (ix_nI (by omega) (by decide)) rfl ?_
        refine ab_iload dX6_readsSigned_75 rfl ?_
        exact ab_zret dX6_readsSigned_77 rfl rfl (by decide) (Or.inl (⟨e_23, ga_24, (upd r3 i (-(r3 i))), by unfold pSg; rw [if_pos ⟨by omega, (sgn_c (c := 45) (h_u _ (by omega)).1 (by decide) rfl).mp h_12⟩, sb_l c_25], rfl, rfl⟩))
      · refine ab_istore (la' := [(4, .int 1), (3, .int 1), (0, .ref 1), (1, .int (nI i)), (2, .int (nI hi))]) dX6_readsSigned_56 (by decide) rfl ?_
        refine ab_iload_n dX6_readsSigned_58 rfl ?_
        refine ab_ifeq 75 dX6_readsSigned_59 (by decide) (fun h_30 => absurd h_30 (by decide)) (fun h_30 => ?_)
        refine ab_aload_n dX6_readsSigned_62 rfl ?_
        refine ab_getf dX6_readsSigned_63 fl_X6_15 rfl rfl ?_
        refine ab_iload_n dX6_readsSigned_66 rfl ?_
        refine ab_aload_n dX6_readsSigned_67 rfl ?_
        refine ab_getf dX6_readsSigned_68 fl_X6_15 rfl rfl ?_
        refine ab_iload_n dX6_readsSigned_71 rfl ?_
        refine ab_iald (j := i) dX6_readsSigned_72 rfl (ix_nI (by omega) (by decide)) ?_
        refine ab_ineg dX6_readsSigned_73 ?_
        refine ab_iast (w1 := ([x0, ob 6 [.ref 2, .ref 3, .int f1_2, .int (nI n), .int (nI v_26.2), .int f1_5, .int f1_6], ba 700 r2, ia 4 (upd (upd r3 i (nI v_26.1)) i (-((upd r3 i (nI v_26.1)) i))), x4, x5, x6, x7, x8, x9, x10, x11, x12, x13, x14, x15, x16, x17, x18, x19, x20, x21, x22, x23, x24, x25, x26, x27, x28, x29, x30, x31, x32], wm)) dX6_readsSigned_74 rfl (ix_nI (by omega) (by decide)) rfl ?_
        refine ab_iload dX6_readsSigned_75 rfl ?_
        exact ab_zret dX6_readsSigned_77 rfl rfl (by decide) (Or.inr (⟨(-(nI v_26.1), v_26.2), by unfold pSg; rw [if_pos ⟨by omega, (sgn_c (c := 45) (h_u _ (by omega)).1 (by decide) rfl).mp h_12⟩, sb_r c_27], ⟨by show p ≤ v_26.2; omega, by show v_26.2 ≤ n; omega⟩, rfl, by rw [upd_at, upd_upd]⟩))
