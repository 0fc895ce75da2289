theorem vl_le {u : Nat → Nat} {a : Nat} : ∀ k, (∀ j, j < k → u (a + j) < 256) → vl u a k ≤ 23 * (10 ^ k - 1)
  | 0, _ => Nat.le_refl 0
  | k + 1, h => by
    have ih := vl_le k (fun j hj => h j (by omega))
    have h1 := h k (by omega)
    have e : 10 ^ (k + 1) = 10 ^ k * 10 := Nat.pow_succ 10 k
    have p1 : 0 < 10 ^ k := Nat.pow_pos (by decide)
    show vl u a k * 10 + (u (a + k) - 48) ≤ _
    omega
theorem vl_b {u : Nat → Nat} {a k : Nat} (h : ∀ j, j < k → u (a + j) < 256) (hk : k ≤ 4) : vl u a k ≤ 229977 := by
  have h1 := vl_le k h
  have h2 : 10 ^ k ≤ 10 ^ 4 := Nat.pow_le_pow_right (by decide) hk
  have h3 : (10 : Nat) ^ 4 = 10000 := by decide
  omega
theorem sgn_sub {x : Nat} (h : 48 ≤ sgn x ∧ sgn x ≤ 57) (hx : x < 256) : sgn x - 48 = nI (x - 48) := by
  have h2 := (sgn_in (a := 48) (b := 57) hx (by decide) (by decide)).mp h
  unfold sgn
  rw [if_pos (by omega)]
  exact pk_sub (b := 48) h2.1
theorem upd_upd {f : Nat → Int32} {i : Nat} {a b : Int32} : upd (upd f i a) i b = upd f i b := by
  funext j; unfold upd
  by_cases e : j = i
  · rw [if_pos e, if_pos e]
  · rw [if_neg e, if_neg e]; exact (if_neg e).symm
theorem upd_at {f : Nat → Int32} {i : Nat} {a : Int32} : upd f i a i = a := by unfold upd; rw [if_pos rfl]
theorem pWh_le {u : Nat → Nat} {n p lo hi : Nat} {v : Nat × Nat} (h : p ≤ n) (e : pWh u n p lo hi = .inr v) : p ≤ v.2 ∧ v.2 ≤ n := by
  unfold pWh at e
  split at e
  · cases e
  · split at e
    · cases e
    · cases e
      exact ⟨Nat.le_trans sk_ge dE_ge, dE_le (sk_le h)⟩
set_option maxHeartbeats 400000 in
theorem lp_whole {x0 x4 x5 x6 x7 x8 x9 x10 x11 x12 x13 x14 x15 x16 x17 x18 x19 x20 x21 x22 x23 x24 x25 x26 x27 x28 x29 x30 x31 x32 : ax_E} {f1_2 f1_5 f1_6 : Int32} {r2 r3 : Nat → Int32} {wm : List ax_E} {u : Nat → Nat} {n a i lo hi : Nat} {Q : Option Value → ax_W → Prop} (h_n : n ≤ 700) (h_u : ∀ k, k < 700 → u k < 256 ∧ r2 k = sgn (u k)) (hx : (∀ k, k ≤ 4 → dE u n a = dE u n (a + k) → (k = 4 ∨ dE u n (a + k) = a + k) → a + k ≤ n → Ab M_X6_readsWhole Q (0, 0) 83 [(5, .int (nI (vl u a k))), (4, .int (nI a)), (3, .int (nI hi)), (2, .int (nI lo)), (1, .int (nI i)), (0, .ref 1)] [] ([x0, ob 6 [.ref 2, .ref 3, .int f1_2, .int (nI n), .int (nI (a + k)), .int f1_5, .int f1_6], ba 700 r2, ia 4 r3, x4, x5, x6, x7, x8, x9, x10, x11, x12, x13, x14, x15, x16, x17, x18, x19, x20, x21, x22, x23, x24, x25, x26, x27, x28, x29, x30, x31, x32], wm))) : ∀ (m k : Nat), k + m = 4 → dE u n a = dE u n (a + k) → a + k ≤ n → Ab M_X6_readsWhole Q (0, 0) 13 [(5, .int (nI (vl u a k))), (4, .int (nI a)), (3, .int (nI hi)), (2, .int (nI lo)), (1, .int (nI i)), (0, .ref 1)] [] ([x0, ob 6 [.ref 2, .ref 3, .int f1_2, .int (nI n), .int (nI (a + k)), .int f1_5, .int f1_6], ba 700 r2, ia 4 r3, x4, x5, x6, x7, x8, x9, x10, x11, x12, x13, x14, x15, x16, x17, x18, x19, x20, x21, x22, x23, x24, x25, x26, x27, x28, x29, x30, x31, x32], wm) := by
  intro m
  induction m with
  | zero =>
    intro k hk hd hak
    obtain rfl : k = 4 := by omega
    refine ab_aload_n dX6_readsWhole_13 rfl ?_
    refine ab_getf dX6_readsWhole_14 fl_X6_26 rfl rfl ?_
    refine ab_aload_n dX6_readsWhole_17 rfl ?_
    refine ab_getf dX6_readsWhole_18 fl_X6_23 rfl rfl ?_
    refine ab_icmpge 83 dX6_readsWhole_21 (by decide) (fun h_1 => ?_) (fun h_1 => ?_)
    · have h_1n := (nI_leI (a := n) (b := (a + 4)) (by omega) (by omega)).mp h_1
      refine ab_pick [0, 1, 2, 3, 4, 5] rfl ?_
      exact hx 4 (by omega) hd (Or.inl rfl) hak
    · have h_1n : ¬ _ := fun z => h_1 ((nI_leI (a := n) (b := (a + 4)) (by omega) (by omega)).mpr z)
      refine ab_aload_n dX6_readsWhole_24 rfl ?_
      refine ab_getf dX6_readsWhole_25 fl_X6_26 rfl rfl ?_
      refine ab_iload dX6_readsWhole_28 rfl ?_
      refine ab_isub dX6_readsWhole_30 ?_
      refine ab_topi (v := (nI ((a + 4) - a))) (pk_sub (by omega)) ?_
      refine ab_iconst (v := 3) dX6_readsWhole_31 (by decide) ?_
      refine ab_icmpgt 83 dX6_readsWhole_32 (by decide) (fun h_2 => ?_) (fun h_2 => absurd (nI_lt (a := 3) (by omega) (by omega)) h_2)
      refine ab_pick [0, 1, 2, 3, 4, 5] rfl ?_
      exact hx 4 (by omega) hd (Or.inl rfl) hak
  | succ m ih =>
    intro k hk hd hak
    have hb := vl_b (u := u) (a := a) (k := k) (fun j hj => (h_u _ (by omega)).1) (by omega)
    refine ab_aload_n dX6_readsWhole_13 rfl ?_
    refine ab_getf dX6_readsWhole_14 fl_X6_26 rfl rfl ?_
    refine ab_aload_n dX6_readsWhole_17 rfl ?_
    refine ab_getf dX6_readsWhole_18 fl_X6_23 rfl rfl ?_
    refine ab_icmpge 83 dX6_readsWhole_21 (by decide) (fun h_1 => ?_) (fun h_1 => ?_)
    · have h_1n := (nI_leI (a := n) (b := (a + k)) (by omega) (by omega)).mp h_1
      refine ab_pick [0, 1, 2, 3, 4, 5] rfl ?_
      exact hx k (by omega) hd (by first | (exact Or.inl (by omega)) | (exact Or.inr (run_f (fun z => absurd z.1 (by omega))))) hak
    · have h_1n : ¬ _ := fun z => h_1 ((nI_leI (a := n) (b := (a + k)) (by omega) (by omega)).mpr z)
      refine ab_aload_n dX6_readsWhole_24 rfl ?_
      refine ab_getf dX6_readsWhole_25 fl_X6_26 rfl rfl ?_
      refine ab_iload dX6_readsWhole_28 rfl ?_
      refine ab_isub dX6_readsWhole_30 ?_
      refine ab_topi (v := (nI ((a + k) - a))) (pk_sub (by omega)) ?_
      refine ab_iconst (v := 3) dX6_readsWhole_31 (by decide) ?_
      refine ab_icmpgt 83 dX6_readsWhole_32 (by decide) (fun h_2 => ?_) (fun h_2 => ?_)
      · have h_2n := (nI_ltI (a := 3) (b := ((a + k) - a)) (by omega) (by omega)).mp h_2
        refine ab_pick [0, 1, 2, 3, 4, 5] rfl ?_
        exact hx k (by omega) hd (by first | (exact Or.inl (by omega)) | (exact Or.inr (run_f (fun z => absurd z.1 (by omega))))) hak
      · have h_2n : ¬ _ := fun z => h_2 ((nI_ltI (a := 3) (b := ((a + k) - a)) (by omega) (by omega)).mpr z)
        refine ab_aload_n dX6_readsWhole_35 rfl ?_
        refine ab_getf dX6_readsWhole_36 fl_X6_11 rfl rfl ?_
        refine ab_aload_n dX6_readsWhole_39 rfl ?_
        refine ab_getf dX6_readsWhole_40 fl_X6_26 rfl rfl ?_
        refine ab_bald (j := (a + k)) dX6_readsWhole_43 rfl (ix_nI (by omega) (by decide)) ?_
        refine ab_topi (v := (sgn (u (a + k)))) (h_u (a + k) (by omega)).2 ?_
        refine ab_callS (As := [.int (sgn (u (a + k)))]) (rest := []) dX6_readsWhole_44 ms_X6_isDigit ml_X6_121 ⟨by decide, by decide, rfl, rfl, rfl⟩ (by decide) rfl rfl (Nat.le_of_ble_eq_true rfl) c_X6_isDigit ?_
        rintro r w' (⟨c_3, rfl, rfl⟩ | ⟨c_4, rfl, rfl⟩)
        · refine ab_ifeq 83 dX6_readsWhole_47 (by decide) (fun h_5 => absurd h_5 (by decide)) (fun h_5 => ?_)
          refine ab_iload dX6_readsWhole_50 rfl ?_
          refine ab_bipush (v := 10) dX6_readsWhole_52 (by decide) ?_
          refine ab_imul dX6_readsWhole_54 ?_
          refine ab_topi (v := (nI ((vl u a k) * 10))) (pk_mul _ 10) ?_
          refine ab_aload_n dX6_readsWhole_55 rfl ?_
          refine ab_getf dX6_readsWhole_56 fl_X6_11 rfl rfl ?_
          refine ab_aload_n dX6_readsWhole_59 rfl ?_
          refine ab_getf dX6_readsWhole_60 fl_X6_26 rfl rfl ?_
          refine ab_bald (j := (a + k)) dX6_readsWhole_63 rfl (ix_nI (by omega) (by decide)) ?_
          refine ab_topi (v := (sgn (u (a + k)))) (h_u (a + k) (by omega)).2 ?_
          refine ab_bipush (v := 48) dX6_readsWhole_64 (by decide) ?_
          refine ab_isub dX6_readsWhole_66 ?_
          refine ab_topi (v := (nI (u (a + k) - 48))) (sgn_sub (by assumption) (h_u (a + k) (by omega)).1) ?_
          refine ab_iadd dX6_readsWhole_67 ?_
          refine ab_topi (v := (nI (((vl u a k) * 10) + (u (a + k) - 48)))) (nI_add _ _) ?_
          refine ab_istore (la' := [(5, .int (nI (((vl u a k) * 10) + (u (a + k) - 48)))), (4, .int (nI a)), (3, .int (nI hi)), (2, .int (nI lo)), (1, .int (nI i)), (0, .ref 1)]) dX6_readsWhole_68 (by decide) rfl ?_
          refine ab_aload_n dX6_readsWhole_70 rfl ?_
          refine ab_dup rfl dX6_readsWhole_71 ?_
          refine ab_getf dX6_readsWhole_72 fl_X6_26 rfl rfl ?_
          refine ab_iconst (v := 1) dX6_readsWhole_75 (by decide) ?_
          refine ab_iadd dX6_readsWhole_76 ?_
          refine ab_topi (v := (nI ((a + k) + 1))) (nI_1 _) ?_
          refine ab_putf (w1 := ([x0, ob 6 [.ref 2, .ref 3, .int f1_2, .int (nI n), .int (nI ((a + k) + 1)), .int f1_5, .int f1_6], ba 700 r2, ia 4 r3, x4, x5, x6, x7, x8, x9, x10, x11, x12, x13, x14, x15, x16, x17, x18, x19, x20, x21, x22, x23, x24, x25, x26, x27, x28, x29, x30, x31, x32], wm)) dX6_readsWhole_77 fl_X6_26 rfl (Nat.le_of_ble_eq_true rfl) (fun _ => ⟨rfl, rfl⟩) rfl ?_
          refine ab_goto 13 dX6_readsWhole_80 (by decide) ?_
          refine ab_pick [0, 1, 2, 3, 4, 5] rfl ?_
          exact ih (k + 1) (by omega) (hd.trans (run_t (by omega) ((isD_s (h_u _ (by omega)).1).mp c_3))) (by omega)
        · refine ab_ifeq 83 dX6_readsWhole_47 (by decide) (fun h_6 => ?_) (fun h_6 => absurd (by decide) h_6)
          refine ab_pick [0, 1, 2, 3, 4, 5] rfl ?_
          exact hx k (by omega) hd (Or.inr (run_f (fun z => c_4 ((isD_s (h_u _ (by omega)).1).mpr z.2)))) hak
theorem c_X6_readsWhole {x0 x4 x5 x6 x7 x8 x9 x10 x11 x12 x13 x14 x15 x16 x17 x18 x19 x20 x21 x22 x23 x24 x25 x26 x27 x28 x29 x30 x31 x32 : ax_E} {f1_2 f1_5 f1_6 : Int32} {r2 r3 : Nat → Int32} {wm : List ax_E} {u : Nat → Nat} {n p i lo hi : Nat} (h_n : n ≤ 700) (h_u : ∀ k, k < 700 → u k < 256 ∧ r2 k = sgn (u k)) (h_p : p ≤ n) (h_i : i < 4) (h_lo : lo ≤ 1) (h_hi : hi ≤ 999) : Ct M_X6_readsWhole [.ref 1, .int (nI i), .int (nI lo), .int (nI hi)] ([x0, ob 6 [.ref 2, .ref 3, .int f1_2, .int (nI n), .int (nI p), .int f1_5, .int f1_6], ba 700 r2, ia 4 r3, x4, x5, x6, x7, x8, x9, x10, x11, x12, x13, x14, x15, x16, x17, x18, x19, x20, x21, x22, x23, x24, x25, x26, x27, x28, x29, x30, x31, x32], wm) (fun r w' => (∃ e : Nat × Nat, ∃ ga : Int32, (pWh u n p lo hi = .inl e) ∧ r = some (.int 0) ∧ w' = ([x0, ob 6 [.ref 2, .ref 3, .int f1_2, .int (nI n), .int ga, .int (nI e.1), .int (nI e.2)], ba 700 r2, ia 4 r3, x4, x5, x6, x7, x8, x9, x10, x11, x12, x13, x14, x15, x16, x17, x18, x19, x20, x21, x22, x23, x24, x25, x26, x27, x28, x29, x30, x31, x32], wm)) ∨ (∃ v : Nat × Nat, (pWh u n p lo hi = .inr v) ∧ (p ≤ v.2 ∧ v.2 ≤ n) ∧ r = some (.int 1) ∧ w' = ([x0, ob 6 [.ref 2, .ref 3, .int f1_2, .int (nI n), .int (nI v.2), .int f1_5, .int f1_6], ba 700 r2, ia 4 (upd r3 i (nI v.1)), x4, x5, x6, x7, x8, x9, x10, x11, x12, x13, x14, x15, x16, x17, x18, x19, x20, x21, x22, x23, x24, x25, x26, x27, x28, x29, x30, x31, x32], wm))) := by
  refine ct_of ⟨by decide, rfl⟩ (Nat.le_of_ble_eq_true rfl) ?_
  refine ab_aload_n dX6_readsWhole_0 rfl ?_
  refine ab_callV (As := []) (rest := []) dX6_readsWhole_1 mv_X6_skipBlanks ml_X6_61 ⟨by decide, by decide, rfl, rfl, rfl⟩ (by decide) rfl rfl (Nat.le_of_ble_eq_true rfl) rfl (c_X6_skipBlanks (n := n) (p := p) h_n h_u h_p) ?_
  rintro r w' ⟨c_1, rfl, rfl⟩
  refine ab_aload_n dX6_readsWhole_4 rfl ?_
  refine ab_getf dX6_readsWhole_5 fl_X6_26 rfl rfl ?_
  refine ab_istore (la' := [(4, .int (nI (sk u n p))), (0, .ref 1), (1, .int (nI i)), (2, .int (nI lo)), (3, .int (nI hi))]) dX6_readsWhole_8 (by decide) rfl ?_
  refine ab_iconst (v := 0) dX6_readsWhole_10 (by decide) ?_
  refine ab_istore (la' := [(5, .int 0), (4, .int (nI (sk u n p))), (0, .ref 1), (1, .int (nI i)), (2, .int (nI lo)), (3, .int (nI hi))]) dX6_readsWhole_11 (by decide) rfl ?_
  refine ab_pick [0, 1, 5, 4, 3, 2] rfl ?_
  have hsk := sk_le (u := u) h_p
  have hsk2 := sk_ge (u := u) (n := n) (a := p)
  refine lp_whole (a := sk u n p) h_n h_u (fun k hk hd he hak => ?_) 4 0 (by omega) rfl (by omega)
  have hb := vl_b (u := u) (a := sk u n p) (k := k) (fun j hj => (h_u _ (by omega)).1) hk
  refine ab_aload_n dX6_readsWhole_83 rfl ?_
  refine ab_getf dX6_readsWhole_84 fl_X6_26 rfl rfl ?_
  refine ab_iload dX6_readsWhole_87 rfl ?_
  refine ab_icmpeq 103 dX6_readsWhole_89 (by decide) (fun h_2 => ?_) (fun h_2 => ?_)
  · have h_2n := (nI_eq (a := ((sk u n p) + k)) (b := (sk u n p)) (by omega) (by omega)).mp h_2
    refine ab_aload_n dX6_readsWhole_103 rfl ?_
    refine ab_iconst (v := 1) dX6_readsWhole_104 (by decide) ?_
    refine ab_iload dX6_readsWhole_105 rfl ?_
    refine ab_callV (As := [.int 1, .int (nI (sk u n p))]) (rest := []) dX6_readsWhole_107 mv_X6_fails ml_X6_68 ⟨by decide, by decide, rfl, rfl, rfl⟩ (by decide) rfl rfl (Nat.le_of_ble_eq_true rfl) rfl c_X6_fails ?_
    rintro r w' ⟨rfl, rfl⟩
    exact ab_zret dX6_readsWhole_110 rfl rfl (by decide) (Or.inl (⟨(1, sk u n p), (nI ((sk u n p) + k)), by unfold pWh; rw [if_pos (by rw [hd]; have := dE_ge (u := u) (n := n) (a := sk u n p + k); omega)], rfl, rfl⟩))
  · have h_2n : ¬ _ := fun z => h_2 ((nI_eq (a := ((sk u n p) + k)) (b := (sk u n p)) (by omega) (by omega)).mpr z)
    refine ab_aload_n dX6_readsWhole_92 rfl ?_
    refine ab_getf dX6_readsWhole_93 fl_X6_26 rfl rfl ?_
    refine ab_iload dX6_readsWhole_96 rfl ?_
    refine ab_isub dX6_readsWhole_98 ?_
    refine ab_topi (v := (nI (((sk u n p) + k) - (sk u n p)))) (pk_sub (by omega)) ?_
    refine ab_iconst (v := 3) dX6_readsWhole_99 (by decide) ?_
    refine ab_icmple 111 dX6_readsWhole_100 (by decide) (fun h_3 => ?_) (fun h_3 => ?_)
    · have h_3n := (nI_leI (a := (((sk u n p) + k) - (sk u n p))) (b := 3) (by omega) (by omega)).mp h_3
      refine ab_iload dX6_readsWhole_111 rfl ?_
      refine ab_iload_n dX6_readsWhole_113 rfl ?_
      refine ab_icmplt 123 dX6_readsWhole_114 (by decide) (fun h_4 => ?_) (fun h_4 => ?_)
      · have h_4n := (nI_ltI (a := (vl u (sk u n p) k)) (b := lo) (by omega) (by omega)).mp h_4
        refine ab_aload_n dX6_readsWhole_123 rfl ?_
        refine ab_iconst (v := 2) dX6_readsWhole_124 (by decide) ?_
        refine ab_iload dX6_readsWhole_125 rfl ?_
        refine ab_callV (As := [.int 2, .int (nI (sk u n p))]) (rest := []) dX6_readsWhole_127 mv_X6_fails ml_X6_68 ⟨by decide, by decide, rfl, rfl, rfl⟩ (by decide) rfl rfl (Nat.le_of_ble_eq_true rfl) rfl c_X6_fails ?_
        rintro r w' ⟨rfl, rfl⟩
        exact ab_zret dX6_readsWhole_130 rfl rfl (by decide) (Or.inl (⟨(2, sk u n p), (nI ((sk u n p) + k)), by unfold pWh; rw [hd, he.resolve_left (by omega), Nat.add_sub_cancel_left, if_neg (by omega), if_pos (by omega)], rfl, rfl⟩))
      · have h_4n : ¬ _ := fun z => h_4 ((nI_ltI (a := (vl u (sk u n p) k)) (b := lo) (by omega) (by omega)).mpr z)
        refine ab_iload dX6_readsWhole_117 rfl ?_
        refine ab_iload_n dX6_readsWhole_119 rfl ?_
        refine ab_icmple 131 dX6_readsWhole_120 (by decide) (fun h_5 => ?_) (fun h_5 => ?_)
        · have h_5n := (nI_leI (a := (vl u (sk u n p) k)) (b := hi) (by omega) (by omega)).mp h_5
          refine ab_aload_n dX6_readsWhole_131 rfl ?_
          refine ab_getf dX6_readsWhole_132 fl_X6_15 rfl rfl ?_
          refine ab_iload_n dX6_readsWhole_135 rfl ?_
          refine ab_iload dX6_readsWhole_136 rfl ?_
          refine ab_iast (w1 := ([x0, ob 6 [.ref 2, .ref 3, .int f1_2, .int (nI n), .int (nI ((sk u n p) + k)), .int f1_5, .int f1_6], ba 700 r2, ia 4 (upd r3 i (nI (vl u (sk u n p) k))), x4, x5, x6, x7, x8, x9, x10, x11, x12, x13, x14, x15, x16, x17, x18, x19, x20, x21, x22, x23, x24, x25, x26, x27, x28, x29, x30, x31, x32], wm)) dX6_readsWhole_138 rfl (ix_nI (by omega) (by decide)) rfl ?_
          refine ab_iconst (v := 1) dX6_readsWhole_139 (by decide) ?_
          exact ab_zret dX6_readsWhole_140 rfl rfl (by decide) (Or.inr (⟨(vl u (sk u n p) k, sk u n p + k), by unfold pWh; rw [hd, he.resolve_left (by omega), Nat.add_sub_cancel_left, if_neg (by omega), if_neg (by omega)], ⟨by show p ≤ sk u n p + k; omega, hak⟩, rfl, rfl⟩))
        · have h_5n : ¬ _ := fun z => h_5 ((nI_leI (a := (vl u (sk u n p) k)) (b := hi) (by omega) (by omega)).mpr z)
          refine ab_aload_n dX6_readsWhole_123 rfl ?_
          refine ab_iconst (v := 2) dX6_readsWhole_124 (by decide) ?_
          refine ab_iload dX6_readsWhole_125 rfl ?_
          refine ab_callV (As := [.int 2, .int (nI (sk u n p))]) (rest := []) dX6_readsWhole_127 mv_X6_fails ml_X6_68 ⟨by decide, by decide, rfl, rfl, rfl⟩ (by decide) rfl rfl (Nat.le_of_ble_eq_true rfl) rfl c_X6_fails ?_
          rintro r w' ⟨rfl, rfl⟩
          exact ab_zret dX6_readsWhole_130 rfl rfl (by decide) (Or.inl (⟨(2, sk u n p), (nI ((sk u n p) + k)), by unfold pWh; rw [hd, he.resolve_left (by omega), Nat.add_sub_cancel_left, if_neg (by omega), if_pos (by omega)], rfl, rfl⟩))
    · have h_3n : ¬ _ := fun z => h_3 ((nI_leI (a := (((sk u n p) + k) - (sk u n p))) (b := 3) (by omega) (by omega)).mpr z)
      refine ab_aload_n dX6_readsWhole_103 rfl ?_
      refine ab_iconst (v := 1) dX6_readsWhole_104 (by decide) ?_
      refine ab_iload dX6_readsWhole_105 rfl ?_
      refine ab_callV (As := [.int 1, .int (nI (sk u n p))]) (rest := []) dX6_readsWhole_107 mv_X6_fails ml_X6_68 ⟨by decide, by decide, rfl, rfl, rfl⟩ (by decide) rfl rfl (Nat.le_of_ble_eq_true rfl) rfl c_X6_fails ?_
      rintro r w' ⟨rfl, rfl⟩
      exact ab_zret dX6_readsWhole_110 rfl rfl (by decide) (Or.inl (⟨(1, sk u n p), (nI ((sk u n p) + k)), by unfold pWh; rw [if_pos (by rw [hd]; have := dE_ge (u := u) (n := n) (a := sk u n p + k); omega)], rfl, rfl⟩))
