/-- one corner put: those that bend the wrong way are taken off first, down to q + 1 -/
def pcP (x y : Nat → Int32) (i q : Nat) (ch : Nat → Nat) : Nat → Bool := fun a => decide (q + 2 ≤ a + 1 ∧ Cv_bend x y (ch (a + 1 - 2)) (ch (a + 1 - 1)) i ≤ 0)
def pcS (x y : Nat → Int32) (i q : Nat) (s : Nat × (Nat → Nat)) : Nat × (Nat → Nat) := (dnw (pcP x y i q s.2) s.1 + 1, updN s.2 (dnw (pcP x y i q s.2) s.1) i)
theorem pcP_t {x y : Nat → Int32} {i q : Nat} {ch : Nat → Nat} {a : Nat} (h1 : q + 2 ≤ a + 1) (h2 : Cv_bend x y (ch (a + 1 - 2)) (ch (a + 1 - 1)) i ≤ 0) : pcP x y i q ch a = true := decide_eq_true ⟨h1, h2⟩
theorem pcP_f {x y : Nat → Int32} {i q : Nat} {ch : Nat → Nat} {a : Nat} (h : ¬ (q + 2 ≤ a + 1 ∧ Cv_bend x y (ch (a + 1 - 2)) (ch (a + 1 - 1)) i ≤ 0)) : ¬ pcP x y i q ch a = true := by unfold pcP; simp only [decide_eq_true_eq]; exact h
/-- m - 1, .., 1, 0 -/
def itd {σ : Type} (f : Nat → σ → σ) : Nat → σ → σ
  | 0, s => s
  | m + 1, s => itd f m (f m s)
termination_by m _ => m
theorem itd_0 {σ : Type} (f : Nat → σ → σ) (s : σ) : itd f 0 s = s := by rw [itd]
theorem itd_s {σ : Type} (f : Nat → σ → σ) (m : Nat) (s : σ) : itd f (m + 1) s = itd f m (f m s) := by rw [itd]
theorem itr_inv {σ : Type} {f : Nat → σ → σ} (I : Nat → σ → Prop) : ∀ (n k : Nat) (s : σ), I k s → (∀ j s, k ≤ j → j < k + n → I j s → I (j + 1) (f j s)) → I (k + n) (itr f n k s)
  | 0, k, s, h, _ => by rw [itr_0]; exact h
  | n + 1, k, s, h, hs => by
    rw [itr_s, show k + (n + 1) = k + 1 + n by omega]
    exact itr_inv I n (k + 1) _ (hs k s (Nat.le_refl k) (by omega) h) (fun j s h1 h2 => hs j s (by omega) (by omega))
theorem pc_in {x0 x1 x2 x3 x4 x5 x6 x7 x8 x9 x10 x11 x15 x16 x18 x19 x20 x21 x22 x23 x24 x25 x26 x27 x28 x29 x30 x31 x32 : ax_E} {f12_6 f12_8 f12_9 : Int32} {r13 r14 : Nat → Int32} {wm : List ax_E} {ch : Nat → Nat} {i q c : Nat} {Q : Option Value → ax_W → Prop} (hi : i < 40) (hq : q ≤ 40) : ∀ K, K ≤ 80 → (∀ j, j < K → ch j < 40) → Ab M_X1_putCorner Q (0, 0) 55 [(2, .int (nI q)), (1, .int (nI i)), (0, .ref 12)] [] ([x0, x1, x2, x3, x4, x5, x6, x7, x8, x9, x10, x11, ob 1 [.ref 13, .ref 14, .ref 15, .ref 16, .ref 17, .int (nI c), .int f12_6, .int (nI (dnw (pcP r13 r14 i q ch) K)), .int f12_8, .int f12_9], ia 40 r13, ia 40 r14, x15, x16, ia 81 (nIf ch), x18, x19, x20, x21, x22, x23, x24, x25, x26, x27, x28, x29, x30, x31, x32], wm) → Ab M_X1_putCorner Q (0, 0) 0 [(2, .int (nI q)), (1, .int (nI i)), (0, .ref 12)] [] ([x0, x1, x2, x3, x4, x5, x6, x7, x8, x9, x10, x11, ob 1 [.ref 13, .ref 14, .ref 15, .ref 16, .ref 17, .int (nI c), .int f12_6, .int (nI K), .int f12_8, .int f12_9], ia 40 r13, ia 40 r14, x15, x16, ia 81 (nIf ch), x18, x19, x20, x21, x22, x23, x24, x25, x26, x27, x28, x29, x30, x31, x32], wm) := by
  intro K
  induction K with
  | zero =>
    intro hK hch hx
    refine ab_aload_n dX1_putCorner_0 rfl ?_
    refine ab_getf dX1_putCorner_1 fl_X1_36 rfl rfl ?_
    refine ab_iload_n dX1_putCorner_4 rfl ?_
    refine ab_iconst (v := 2) dX1_putCorner_5 (by decide) ?_
    refine ab_iadd dX1_putCorner_6 ?_
    refine ab_topi (v := (nI (q + 2))) (nI_add _ 2) ?_
    refine ab_icmplt 55 dX1_putCorner_7 (by decide) (fun h_1 => ?_) (fun h_1 => absurd (nI_lt (a := 0) (by omega) (by omega)) h_1)
    refine ab_pick [0, 1, 2] rfl ?_
    rw [dnw_0] at hx
    exact hx
  | succ a ih =>
    intro hK hch hx
    refine ab_aload_n dX1_putCorner_0 rfl ?_
    refine ab_getf dX1_putCorner_1 fl_X1_36 rfl rfl ?_
    refine ab_iload_n dX1_putCorner_4 rfl ?_
    refine ab_iconst (v := 2) dX1_putCorner_5 (by decide) ?_
    refine ab_iadd dX1_putCorner_6 ?_
    refine ab_topi (v := (nI (q + 2))) (nI_add _ 2) ?_
    refine ab_icmplt 55 dX1_putCorner_7 (by decide) (fun h_1 => ?_) (fun h_1 => ?_)
    · have h_1n := (nI_ltI (a := (a + 1)) (b := (q + 2)) (by omega) (by omega)).mp h_1
      refine ab_pick [0, 1, 2] rfl ?_
      rw [dnw_f (pcP_f (fun z => by omega))] at hx
      exact hx
    · have h_1n : ¬ _ := fun z => h_1 ((nI_ltI (a := (a + 1)) (b := (q + 2)) (by omega) (by omega)).mpr z)
      refine ab_aload_n dX1_putCorner_10 rfl ?_
      refine ab_aload_n dX1_putCorner_11 rfl ?_
      refine ab_getf dX1_putCorner_12 fl_X1_26 rfl rfl ?_
      refine ab_aload_n dX1_putCorner_15 rfl ?_
      refine ab_getf dX1_putCorner_16 fl_X1_36 rfl rfl ?_
      refine ab_iconst (v := 2) dX1_putCorner_19 (by decide) ?_
      refine ab_isub dX1_putCorner_20 ?_
      refine ab_topi (v := (nI ((a + 1) - 2))) (pk_sub (b := 2) (by omega)) ?_
      refine ab_iald (j := ((a + 1) - 2)) dX1_putCorner_21 rfl (ix_nI (by omega) (by decide)) ?_
      refine ab_topi (v := (nI (ch ((a + 1) - 2)))) rfl ?_
      refine ab_aload_n dX1_putCorner_22 rfl ?_
      refine ab_getf dX1_putCorner_23 fl_X1_26 rfl rfl ?_
      refine ab_aload_n dX1_putCorner_26 rfl ?_
      refine ab_getf dX1_putCorner_27 fl_X1_36 rfl rfl ?_
      refine ab_iconst (v := 1) dX1_putCorner_30 (by decide) ?_
      refine ab_isub dX1_putCorner_31 ?_
      refine ab_topi (v := (nI ((a + 1) - 1))) (pk_sub (b := 1) (by omega)) ?_
      refine ab_iald (j := ((a + 1) - 1)) dX1_putCorner_32 rfl (ix_nI (by omega) (by decide)) ?_
      refine ab_topi (v := (nI (ch ((a + 1) - 1)))) rfl ?_
      refine ab_iload_n dX1_putCorner_33 rfl ?_
      refine ab_callV (As := [.int (nI (ch ((a + 1) - 2))), .int (nI (ch ((a + 1) - 1))), .int (nI i)]) (rest := []) dX1_putCorner_34 mv_X1_bend ml_X1_62 ⟨by decide, by decide, rfl, rfl, rfl⟩ (by decide) rfl rfl (Nat.le_of_ble_eq_true rfl) rfl (c_X1_bend (j1 := (ch ((a + 1) - 2))) (j2 := (ch ((a + 1) - 1))) (j3 := i) (ix_nI (hch ((a + 1) - 2) (by omega)) (by decide)) (ix_nI (hch ((a + 1) - 1) (by omega)) (by decide)) (ix_nI (by omega) (by decide))) ?_
      rintro r w' ⟨rfl, rfl⟩
      refine ab_lconst (v := 0) dX1_putCorner_37 (by decide) ?_
      refine ab_lcmpgt 55 dX1_putCorner_38 dX1_putCorner_39 (by decide) (fun h_2 => ?_) (fun h_2 => ?_)
      · refine ab_pick [0, 1, 2] rfl ?_
        rw [dnw_f (pcP_f (fun z => absurd h_2 (Int64.not_lt.mpr z.2)))] at hx
        exact hx
      · refine ab_aload_n dX1_putCorner_42 rfl ?_
        refine ab_dup rfl dX1_putCorner_43 ?_
        refine ab_getf dX1_putCorner_44 fl_X1_36 rfl rfl ?_
        refine ab_iconst (v := 1) dX1_putCorner_47 (by decide) ?_
        refine ab_isub dX1_putCorner_48 ?_
        refine ab_topi (v := (nI ((a + 1) - 1))) (pk_sub (b := 1) (by omega)) ?_
        refine ab_putf (w1 := ([x0, x1, x2, x3, x4, x5, x6, x7, x8, x9, x10, x11, ob 1 [.ref 13, .ref 14, .ref 15, .ref 16, .ref 17, .int (nI c), .int f12_6, .int (nI ((a + 1) - 1)), .int f12_8, .int f12_9], ia 40 r13, ia 40 r14, x15, x16, ia 81 (nIf ch), x18, x19, x20, x21, x22, x23, x24, x25, x26, x27, x28, x29, x30, x31, x32], wm)) dX1_putCorner_49 fl_X1_36 rfl (Nat.le_of_ble_eq_true rfl) (fun _ => ⟨rfl, rfl⟩) rfl ?_
        refine ab_goto 0 dX1_putCorner_52 (by decide) ?_
        refine ab_pick [0, 1, 2] rfl ?_
        rw [dnw_t (pcP_t (by omega) (Int64.not_lt.mp h_2))] at hx
        exact ih (by omega) (fun j hj => hch j (by omega)) hx
theorem c_X1_putCorner {x0 x1 x2 x3 x4 x5 x6 x7 x8 x9 x10 x11 x15 x16 x18 x19 x20 x21 x22 x23 x24 x25 x26 x27 x28 x29 x30 x31 x32 : ax_E} {f12_6 f12_8 f12_9 : Int32} {r13 r14 : Nat → Int32} {wm : List ax_E} {K i q c : Nat} {ch : Nat → Nat} (hi : i < 40) (hq : q ≤ 40) (hK : K ≤ 80) (hch : ∀ j, j < K → ch j < 40) : Ct M_X1_putCorner [.ref 12, .int (nI i), .int (nI q)] ([x0, x1, x2, x3, x4, x5, x6, x7, x8, x9, x10, x11, ob 1 [.ref 13, .ref 14, .ref 15, .ref 16, .ref 17, .int (nI c), .int f12_6, .int (nI K), .int f12_8, .int f12_9], ia 40 r13, ia 40 r14, x15, x16, ia 81 (nIf ch), x18, x19, x20, x21, x22, x23, x24, x25, x26, x27, x28, x29, x30, x31, x32], wm) (fun r w' => r = none ∧ w' = ([x0, x1, x2, x3, x4, x5, x6, x7, x8, x9, x10, x11, ob 1 [.ref 13, .ref 14, .ref 15, .ref 16, .ref 17, .int (nI c), .int f12_6, .int (nI ((dnw (pcP r13 r14 i q ch) K) + 1)), .int f12_8, .int f12_9], ia 40 r13, ia 40 r14, x15, x16, ia 81 (nIf (updN ch (dnw (pcP r13 r14 i q ch) K) i)), x18, x19, x20, x21, x22, x23, x24, x25, x26, x27, x28, x29, x30, x31, x32], wm)) := by
  refine ct_of ⟨by decide, rfl⟩ (Nat.le_of_ble_eq_true rfl) ?_
  refine ab_pick [2, 1, 0] rfl ?_
  refine pc_in hi hq K hK hch ?_
  have hle := dnw_le (pcP r13 r14 i q ch) K
  refine ab_aload_n dX1_putCorner_55 rfl ?_
  refine ab_getf dX1_putCorner_56 fl_X1_36 rfl rfl ?_
  refine ab_aload_n dX1_putCorner_59 rfl ?_
  refine ab_getf dX1_putCorner_60 fl_X1_26 rfl rfl ?_
  refine ab_ialen (v := 81) dX1_putCorner_63 rfl (by decide) ?_
  refine ab_icmpge 87 dX1_putCorner_64 (by decide) (fun h_1 => absurd h_1 (nI_ge (b := 81) (by omega) (by decide))) (fun h_1 => ?_)
  refine ab_aload_n dX1_putCorner_67 rfl ?_
  refine ab_getf dX1_putCorner_68 fl_X1_26 rfl rfl ?_
  refine ab_aload_n dX1_putCorner_71 rfl ?_
  refine ab_getf dX1_putCorner_72 fl_X1_36 rfl rfl ?_
  refine ab_iload_n dX1_putCorner_75 rfl ?_
  refine ab_iast (w1 := ([x0, x1, x2, x3, x4, x5, x6, x7, x8, x9, x10, x11, ob 1 [.ref 13, .ref 14, .ref 15, .ref 16, .ref 17, .int (nI c), .int f12_6, .int (nI (dnw (pcP r13 r14 i q ch) K)), .int f12_8, .int f12_9], ia 40 r13, ia 40 r14, x15, x16, ia 81 (upd (nIf ch) (dnw (pcP r13 r14 i q ch) K) (nI i)), x18, x19, x20, x21, x22, x23, x24, x25, x26, x27, x28, x29, x30, x31, x32], wm)) dX1_putCorner_76 rfl (ix_nI (by omega) (by decide)) rfl ?_
  refine ab_world ([x0, x1, x2, x3, x4, x5, x6, x7, x8, x9, x10, x11, ob 1 [.ref 13, .ref 14, .ref 15, .ref 16, .ref 17, .int (nI c), .int f12_6, .int (nI (dnw (pcP r13 r14 i q ch) K)), .int f12_8, .int f12_9], ia 40 r13, ia 40 r14, x15, x16, ia 81 (nIf (updN ch (dnw (pcP r13 r14 i q ch) K) i)), x18, x19, x20, x21, x22, x23, x24, x25, x26, x27, x28, x29, x30, x31, x32], wm) (by rw [nIf_upd]) ?_
  refine ab_aload_n dX1_putCorner_77 rfl ?_
  refine ab_dup rfl dX1_putCorner_78 ?_
  refine ab_getf dX1_putCorner_79 fl_X1_36 rfl rfl ?_
  refine ab_iconst (v := 1) dX1_putCorner_82 (by decide) ?_
  refine ab_iadd dX1_putCorner_83 ?_
  refine ab_topi (v := (nI ((dnw (pcP r13 r14 i q ch) K) + 1))) (nI_1 _) ?_
  refine ab_putf (w1 := ([x0, x1, x2, x3, x4, x5, x6, x7, x8, x9, x10, x11, ob 1 [.ref 13, .ref 14, .ref 15, .ref 16, .ref 17, .int (nI c), .int f12_6, .int (nI ((dnw (pcP r13 r14 i q ch) K) + 1)), .int f12_8, .int f12_9], ia 40 r13, ia 40 r14, x15, x16, ia 81 (nIf (updN ch (dnw (pcP r13 r14 i q ch) K) i)), x18, x19, x20, x21, x22, x23, x24, x25, x26, x27, x28, x29, x30, x31, x32], wm)) dX1_putCorner_84 fl_X1_36 rfl (Nat.le_of_ble_eq_true rfl) (fun _ => ⟨rfl, rfl⟩) rfl ?_
  exact ab_vret dX1_putCorner_87 rfl (by decide) ⟨rfl, rfl⟩
theorem c_X1_sortPlaces_0 {x0 x1 x2 x3 x4 x5 x6 x7 x8 x9 x10 x11 x13 x14 x15 x16 x17 x18 x19 x20 x21 x22 x23 x24 x25 x26 x27 x28 x29 x30 x31 x32 : ax_E} {f12_6 f12_7 f12_8 f12_9 : Int32} {wm : List ax_E}  : Ct M_X1_sortPlaces [.ref 12] ([x0, x1, x2, x3, x4, x5, x6, x7, x8, x9, x10, x11, ob 1 [.ref 13, .ref 14, .ref 15, .ref 16, .ref 17, .int 0, .int f12_6, .int f12_7, .int f12_8, .int f12_9], x13, x14, x15, x16, x17, x18, x19, x20, x21, x22, x23, x24, x25, x26, x27, x28, x29, x30, x31, x32], wm) (fun r w' => r = none ∧ w' = ([x0, x1, x2, x3, x4, x5, x6, x7, x8, x9, x10, x11, ob 1 [.ref 13, .ref 14, .ref 15, .ref 16, .ref 17, .int 0, .int 0, .int f12_7, .int f12_8, .int f12_9], x13, x14, x15, x16, x17, x18, x19, x20, x21, x22, x23, x24, x25, x26, x27, x28, x29, x30, x31, x32], wm)) := by
  refine ct_of ⟨by decide, rfl⟩ (Nat.le_of_ble_eq_true rfl) ?_
  refine ab_aload_n dX1_sortPlaces_0 rfl ?_
  refine ab_iconst (v := 0) dX1_sortPlaces_1 (by decide) ?_
  refine ab_putf (w1 := ([x0, x1, x2, x3, x4, x5, x6, x7, x8, x9, x10, x11, ob 1 [.ref 13, .ref 14, .ref 15, .ref 16, .ref 17, .int 0, .int 0, .int f12_7, .int f12_8, .int f12_9], x13, x14, x15, x16, x17, x18, x19, x20, x21, x22, x23, x24, x25, x26, x27, x28, x29, x30, x31, x32], wm)) dX1_sortPlaces_2 fl_X1_33 rfl (Nat.le_of_ble_eq_true rfl) (fun _ => ⟨rfl, rfl⟩) rfl ?_
  refine ab_iconst (v := 0) dX1_sortPlaces_5 (by decide) ?_
  refine ab_istore_n (la' := [(1, .int 0), (0, .ref 12)]) dX1_sortPlaces_6 (by decide) rfl ?_
  refine ab_iload_n dX1_sortPlaces_7 rfl ?_
  refine ab_aload_n dX1_sortPlaces_8 rfl ?_
  refine ab_getf dX1_sortPlaces_9 fl_X1_29 rfl rfl ?_
  refine ab_icmpge 110 dX1_sortPlaces_12 (by decide) (fun h_1 => ?_) (fun h_1 => absurd (by decide) h_1)
  exact ab_vret dX1_sortPlaces_110 rfl (by decide) (⟨rfl, rfl⟩)
theorem c_X1_wrap_0 {x0 x1 x2 x3 x4 x5 x6 x7 x8 x9 x10 x11 x13 x14 x15 x16 x17 x18 x19 x20 x21 x22 x23 x24 x25 x26 x27 x28 x29 x30 x31 x32 : ax_E} {f12_6 f12_7 f12_8 f12_9 : Int32} {wm : List ax_E}  : Ct M_X1_wrap [.ref 12] ([x0, x1, x2, x3, x4, x5, x6, x7, x8, x9, x10, x11, ob 1 [.ref 13, .ref 14, .ref 15, .ref 16, .ref 17, .int 0, .int f12_6, .int f12_7, .int f12_8, .int f12_9], x13, x14, x15, x16, x17, x18, x19, x20, x21, x22, x23, x24, x25, x26, x27, x28, x29, x30, x31, x32], wm) (fun r w' => r = some (.int 0) ∧ w' = ([x0, x1, x2, x3, x4, x5, x6, x7, x8, x9, x10, x11, ob 1 [.ref 13, .ref 14, .ref 15, .ref 16, .ref 17, .int 0, .int 0, .int 0, .int f12_8, .int f12_9], x13, x14, x15, x16, x17, x18, x19, x20, x21, x22, x23, x24, x25, x26, x27, x28, x29, x30, x31, x32], wm)) := by
  refine ct_of ⟨by decide, rfl⟩ (Nat.le_of_ble_eq_true rfl) ?_
  refine ab_aload_n dX1_wrap_0 rfl ?_
  refine ab_callV (As := []) (rest := []) dX1_wrap_1 mv_X1_sortPlaces ml_X1_70 ⟨by decide, by decide, rfl, rfl, rfl⟩ (by decide) rfl rfl (Nat.le_of_ble_eq_true rfl) rfl c_X1_sortPlaces_0 ?_
  rintro r w' ⟨rfl, rfl⟩
  refine ab_aload_n dX1_wrap_4 rfl ?_
  refine ab_iconst (v := 0) dX1_wrap_5 (by decide) ?_
  refine ab_putf (w1 := ([x0, x1, x2, x3, x4, x5, x6, x7, x8, x9, x10, x11, ob 1 [.ref 13, .ref 14, .ref 15, .ref 16, .ref 17, .int 0, .int 0, .int 0, .int f12_8, .int f12_9], x13, x14, x15, x16, x17, x18, x19, x20, x21, x22, x23, x24, x25, x26, x27, x28, x29, x30, x31, x32], wm)) dX1_wrap_6 fl_X1_36 rfl (Nat.le_of_ble_eq_true rfl) (fun _ => ⟨rfl, rfl⟩) rfl ?_
  refine ab_iconst (v := 0) dX1_wrap_9 (by decide) ?_
  refine ab_istore_n (la' := [(1, .int 0), (0, .ref 12)]) dX1_wrap_10 (by decide) rfl ?_
  refine ab_iload_n dX1_wrap_11 rfl ?_
  refine ab_aload_n dX1_wrap_12 rfl ?_
  refine ab_getf dX1_wrap_13 fl_X1_33 rfl rfl ?_
  refine ab_icmpge 36 dX1_wrap_16 (by decide) (fun h_1 => ?_) (fun h_1 => absurd (by decide) h_1)
  refine ab_aload_n dX1_wrap_36 rfl ?_
  refine ab_getf dX1_wrap_37 fl_X1_36 rfl rfl ?_
  refine ab_iconst (v := 1) dX1_wrap_40 (by decide) ?_
  refine ab_isub dX1_wrap_41 ?_
  refine ab_topi (v := -1) (by decide) ?_
  refine ab_istore_n (la' := [(1, .int (-1)), (0, .ref 12)]) dX1_wrap_42 (by decide) rfl ?_
  refine ab_aload_n dX1_wrap_43 rfl ?_
  refine ab_getf dX1_wrap_44 fl_X1_33 rfl rfl ?_
  refine ab_iconst (v := 2) dX1_wrap_47 (by decide) ?_
  refine ab_isub dX1_wrap_48 ?_
  refine ab_topi (v := -2) (by decide) ?_
  refine ab_istore_n (la' := [(2, .int (-2)), (1, .int (-1)), (0, .ref 12)]) dX1_wrap_49 (by decide) rfl ?_
  refine ab_iload_n dX1_wrap_50 rfl ?_
  refine ab_iflt 71 dX1_wrap_51 (by decide) (fun h_2 => ?_) (fun h_2 => absurd (by decide) h_2)
  refine ab_aload_n dX1_wrap_71 rfl ?_
  refine ab_getf dX1_wrap_72 fl_X1_36 rfl rfl ?_
  refine ab_iconst (v := 1) dX1_wrap_75 (by decide) ?_
  refine ab_icmple 89 dX1_wrap_76 (by decide) (fun h_3 => ?_) (fun h_3 => absurd (by decide) h_3)
  refine ab_aload_n dX1_wrap_89 rfl ?_
  refine ab_getf dX1_wrap_90 fl_X1_36 rfl rfl ?_
  exact ab_iret dX1_wrap_93 rfl (by decide) (⟨rfl, rfl⟩)
abbrev sFs (x y : Nat → Int32) : Nat → (Nat → Nat) × Nat → (Nat → Nat) × Nat := fun i s => lp_sort_st x y i s.1 s.2
def srtS (x y : Nat → Int32) (c : Nat) (so : Nat → Nat) : (Nat → Nat) × Nat := itr (sFs x y) c 0 (so, 0)
theorem sort_st_inv {x y : Nat → Int32} {i : Nat} {s : (Nat → Nat) × Nat} (h : s.2 ≤ i ∧ (∀ j, j < s.2 → s.1 j < i) ∧ (0 < i → 0 < s.2)) : (sFs x y i s).2 ≤ i + 1 ∧ (∀ j, j < (sFs x y i s).2 → (sFs x y i s).1 j < i + 1) ∧ (0 < i + 1 → 0 < (sFs x y i s).2) := by
  obtain ⟨so, P⟩ := s
  obtain ⟨h1, h2, h3⟩ := h
  have e := ins_lt (so := so) (i := i) h2 (dnw_le (fun a => decide (lsC x y i (so a))) P)
  show (lp_sort_st x y i so P).2 ≤ i + 1 ∧ (∀ j, j < (lp_sort_st x y i so P).2 → (lp_sort_st x y i so P).1 j < i + 1) ∧ (0 < i + 1 → 0 < (lp_sort_st x y i so P).2)
  unfold lp_sort_st
  split
  · exact ⟨Nat.succ_le_succ h1, e, fun _ => Nat.succ_pos _⟩
  · next h0 =>
    split
    · exact ⟨Nat.succ_le_succ h1, e, fun _ => Nat.succ_pos _⟩
    · refine ⟨Nat.le_succ_of_le h1, fun j hj => Nat.lt_succ_of_lt (h2 j hj), fun _ => ?_⟩
      rcases Nat.eq_zero_or_pos P with z | z
      · exfalso
        apply h0
        have z' : P = 0 := z
        rw [z', dnw_0]; rfl
      · exact z
theorem srtS_inv (x y : Nat → Int32) (c : Nat) (so : Nat → Nat) : (srtS x y c so).2 ≤ c ∧ (∀ j, j < (srtS x y c so).2 → (srtS x y c so).1 j < c) ∧ (0 < c → 0 < (srtS x y c so).2) := by
  have h := itr_inv (f := sFs x y) (fun i s => s.2 ≤ i ∧ (∀ j, j < s.2 → s.1 j < i) ∧ (0 < i → 0 < s.2)) c 0 (so, 0) ⟨Nat.le_refl 0, fun j hj => absurd hj (Nat.not_lt_zero j), fun h => h⟩ (fun j s _ _ h => sort_st_inv h)
  rw [Nat.zero_add] at h
  exact h
def w1S (x y : Nat → Int32) (so : Nat → Nat) (P : Nat) (ch : Nat → Nat) : Nat × (Nat → Nat) := itr (fun i s => pcS x y (so i) 0 s) P 0 (0, ch)
def w2S (x y : Nat → Int32) (so : Nat → Nat) (q m : Nat) (s : Nat × (Nat → Nat)) : Nat × (Nat → Nat) := itd (fun i s => pcS x y (so i) q s) m s
theorem pcS_inv {x y : Nat → Int32} {i q b : Nat} {s : Nat × (Nat → Nat)} (hi : i < 40) (h : s.1 ≤ b ∧ ∀ j, j < s.1 → s.2 j < 40) : (pcS x y i q s).1 ≤ b + 1 ∧ (∀ j, j < (pcS x y i q s).1 → (pcS x y i q s).2 j < 40) ∧ 0 < (pcS x y i q s).1 := by
  have hle := dnw_le (pcP x y i q s.2) s.1
  have h1 := h.1
  unfold pcS
  refine ⟨by simp only; omega, fun j hj => ?_, Nat.succ_pos _⟩
  simp only at hj ⊢
  unfold updN
  split
  · exact hi
  · exact h.2 j (by omega)
theorem w1S_inv {x y : Nat → Int32} {so : Nat → Nat} {P : Nat} (ch : Nat → Nat) (hso : ∀ j, j < P → so j < 40) : (w1S x y so P ch).1 ≤ P ∧ (∀ j, j < (w1S x y so P ch).1 → (w1S x y so P ch).2 j < 40) ∧ (0 < P → 0 < (w1S x y so P ch).1) := by
  have h := itr_inv (f := fun i s => pcS x y (so i) 0 s) (fun i s => (s.1 ≤ i ∧ ∀ j, j < s.1 → s.2 j < 40) ∧ (0 < i → 0 < s.1)) P 0 (0, ch) ⟨⟨Nat.le_refl 0, fun j hj => absurd hj (Nat.not_lt_zero j)⟩, fun h => h⟩ (fun j s _ h2 h => by
    obtain ⟨a, b, c⟩ := pcS_inv (x := x) (y := y) (q := 0) (hso j (by omega)) h.1
    exact ⟨⟨a, b⟩, fun _ => c⟩)
  rw [Nat.zero_add] at h
  exact ⟨h.1.1, h.1.2, h.2⟩
theorem w2S_inv {x y : Nat → Int32} {so : Nat → Nat} {q : Nat} : ∀ (m b : Nat) (s : Nat × (Nat → Nat)), (∀ j, j < m → so j < 40) → (s.1 ≤ b ∧ ∀ j, j < s.1 → s.2 j < 40) → ((w2S x y so q m s).1 ≤ b + m ∧ ∀ j, j < (w2S x y so q m s).1 → (w2S x y so q m s).2 j < 40)
  | 0, b, s, _, h => by unfold w2S; rw [itd_0]; exact h
  | m + 1, b, s, hso, h => by
    obtain ⟨a1, a2, a3⟩ := pcS_inv (x := x) (y := y) (q := q) (hso m (by omega)) h
    have := w2S_inv (x := x) (y := y) (so := so) (q := q) m (b + 1) (pcS x y (so m) q s) (fun j hj => hso j (by omega)) ⟨a1, a2⟩
    unfold w2S at this ⊢
    rw [itd_s, show b + (m + 1) = b + 1 + m by omega]
    exact this
def lp_wr1_st (r13 : Nat → Int32) (r14 : Nat → Int32) (so : Nat → Nat) (i : Nat) (K : Nat) (ch : Nat → Nat) : Nat × (Nat → Nat) := (((dnw (pcP r13 r14 (so i) 0 ch) K) + 1), (updN ch (dnw (pcP r13 r14 (so i) 0 ch) K) (so i)))
set_option maxHeartbeats 400000 in
theorem lp_wr1 {x0 x1 x2 x3 x4 x5 x6 x7 x8 x9 x10 x11 x15 x18 x19 x20 x21 x22 x23 x24 x25 x26 x27 x28 x29 x30 x31 x32 : ax_E} {f12_8 f12_9 : Int32} {r13 r14 : Nat → Int32} {wm : List ax_E} {P c : Nat} {so : Nat → Nat} {Q : Option Value → ax_W → Prop} (hP : P ≤ 40) (hso : ∀ j, j < P → so j < 40) : ∀ (n i : Nat) (K : Nat) (ch : Nat → Nat) , i + n = P → (K ≤ i ∧ ∀ j, j < K → ch j < 40) → Ab M_X1_wrap Q (0, 0) 36 [(1, .int (nI P)), (0, .ref 12)] [] ([x0, x1, x2, x3, x4, x5, x6, x7, x8, x9, x10, x11, ob 1 [.ref 13, .ref 14, .ref 15, .ref 16, .ref 17, .int (nI c), .int (nI P), .int (nI (itr (fun i s => lp_wr1_st r13 r14 so i s.1 s.2) n i (K, ch)).1), .int f12_8, .int f12_9], ia 40 r13, ia 40 r14, x15, ia 40 (nIf so), ia 81 (nIf (itr (fun i s => lp_wr1_st r13 r14 so i s.1 s.2) n i (K, ch)).2), x18, x19, x20, x21, x22, x23, x24, x25, x26, x27, x28, x29, x30, x31, x32], wm) → Ab M_X1_wrap Q (0, 0) 11 [(1, .int (nI i)), (0, .ref 12)] [] ([x0, x1, x2, x3, x4, x5, x6, x7, x8, x9, x10, x11, ob 1 [.ref 13, .ref 14, .ref 15, .ref 16, .ref 17, .int (nI c), .int (nI P), .int (nI K), .int f12_8, .int f12_9], ia 40 r13, ia 40 r14, x15, ia 40 (nIf so), ia 81 (nIf ch), x18, x19, x20, x21, x22, x23, x24, x25, x26, x27, x28, x29, x30, x31, x32], wm) := by
  intro n
  induction n with
  | zero =>
    intro i K ch  hk hinv hx
    rw [itr_0] at hx
    obtain rfl : i = P := by omega
    refine ab_iload_n dX1_wrap_11 rfl ?_
    refine ab_aload_n dX1_wrap_12 rfl ?_
    refine ab_getf dX1_wrap_13 fl_X1_33 rfl rfl ?_
    refine ab_icmpge 36 dX1_wrap_16 (by decide) (fun h_1 => ?_) (fun h_1 => absurd (nI_le (Nat.le_refl _) (by omega)) h_1)
    refine ab_pick [0, 1] rfl ?_
    exact hx 
  | succ n ih =>
    intro i K ch  hk hinv hx
    refine ab_iload_n dX1_wrap_11 rfl ?_
    refine ab_aload_n dX1_wrap_12 rfl ?_
    refine ab_getf dX1_wrap_13 fl_X1_33 rfl rfl ?_
    refine ab_icmpge 36 dX1_wrap_16 (by decide) (fun h_1 => absurd h_1 (nI_ge (a := i) (b := P) (by omega) (by omega))) (fun h_1 => ?_)
    refine ab_aload_n dX1_wrap_19 rfl ?_
    refine ab_aload_n dX1_wrap_20 rfl ?_
    refine ab_getf dX1_wrap_21 fl_X1_23 rfl rfl ?_
    refine ab_iload_n dX1_wrap_24 rfl ?_
    refine ab_iald (j := i) dX1_wrap_25 rfl (ix_nI (by omega) (by decide)) ?_
    refine ab_topi (v := (nI (so i))) rfl ?_
    refine ab_iconst (v := 0) dX1_wrap_26 (by decide) ?_
    refine ab_callV (As := [.int (nI (so i)), .int 0]) (rest := []) dX1_wrap_27 mv_X1_putCorner ml_X1_73 ⟨by decide, by decide, rfl, rfl, rfl⟩ (by decide) rfl rfl (Nat.le_of_ble_eq_true rfl) rfl (c_X1_putCorner (K := K) (ch := ch) (i := (so i)) (q := 0) (c := c) (hso i (by omega)) (by omega) (by omega) hinv.2) ?_
    rintro r w' ⟨rfl, rfl⟩
    refine ab_iinc (v := (nI (i + 1))) (la' := [(1, .int (nI (i + 1))), (0, .ref 12)]) dX1_wrap_30 rfl (nI_1 _) (by decide) rfl ?_
    refine ab_goto 11 dX1_wrap_33 (by decide) ?_
    refine ab_pick [0, 1] rfl ?_
    rw [(itr_s (fun i s => lp_wr1_st r13 r14 so i s.1 s.2) n i (K, ch)).trans (congrArg (itr (fun i s => lp_wr1_st r13 r14 so i s.1 s.2) n (i + 1)) (show lp_wr1_st r13 r14 so i K ch = (((dnw (pcP r13 r14 (so i) 0 ch) K) + 1), (updN ch (dnw (pcP r13 r14 (so i) 0 ch) K) (so i))) from rfl))] at hx
    exact ih (i + 1) ((dnw (pcP r13 r14 (so i) 0 ch) K) + 1) (updN ch (dnw (pcP r13 r14 (so i) 0 ch) K) (so i))  (by omega) (by obtain ⟨a, b, c⟩ := pcS_inv (x := r13) (y := r14) (i := so i) (q := 0) (s := (K, ch)) (hso i (by omega)) hinv; exact ⟨a, b⟩) hx
theorem lp_wr2 {x0 x1 x2 x3 x4 x5 x6 x7 x8 x9 x10 x11 x15 x18 x19 x20 x21 x22 x23 x24 x25 x26 x27 x28 x29 x30 x31 x32 : ax_E} {f12_8 f12_9 : Int32} {r13 r14 : Nat → Int32} {wm : List ax_E} {so : Nat → Nat} {P q c : Nat} {Q : Option Value → ax_W → Prop} (hP : P ≤ 40) (hq : q ≤ 40) : ∀ (m K : Nat) (ch : Nat → Nat), K + m ≤ 80 → (∀ j, j < m → so j < 40) → (∀ j, j < K → ch j < 40) → Ab M_X1_wrap Q (0, 0) 71 [(1, .int (nI q)), (0, .ref 12)] [] ([x0, x1, x2, x3, x4, x5, x6, x7, x8, x9, x10, x11, ob 1 [.ref 13, .ref 14, .ref 15, .ref 16, .ref 17, .int (nI c), .int (nI P), .int (nI (w2S r13 r14 so q m (K, ch)).1), .int f12_8, .int f12_9], ia 40 r13, ia 40 r14, x15, ia 40 (nIf so), ia 81 (nIf (w2S r13 r14 so q m (K, ch)).2), x18, x19, x20, x21, x22, x23, x24, x25, x26, x27, x28, x29, x30, x31, x32], wm) → m ≤ 40 → Ab M_X1_wrap Q (0, 0) 50 [(2, .int (nI m - 1)), (1, .int (nI q)), (0, .ref 12)] [] ([x0, x1, x2, x3, x4, x5, x6, x7, x8, x9, x10, x11, ob 1 [.ref 13, .ref 14, .ref 15, .ref 16, .ref 17, .int (nI c), .int (nI P), .int (nI K), .int f12_8, .int f12_9], ia 40 r13, ia 40 r14, x15, ia 40 (nIf so), ia 81 (nIf ch), x18, x19, x20, x21, x22, x23, x24, x25, x26, x27, x28, x29, x30, x31, x32], wm) := by
  intro m
  induction m with
  | zero =>
    intro K ch hK hso hch hx hm
    refine ab_iload_n dX1_wrap_50 rfl ?_
    refine ab_iflt 71 dX1_wrap_51 (by decide) (fun h_1 => ?_) (fun h_1 => absurd (by decide) h_1)
    refine ab_pick [1, 2] rfl ?_
    unfold w2S at hx
    rw [itd_0] at hx
    exact hx
  | succ m ih =>
    intro K ch hK hso hch hx hm
    rw [nI_pred]
    refine ab_iload_n dX1_wrap_50 rfl ?_
    refine ab_iflt 71 dX1_wrap_51 (by decide) (fun h_1 => absurd h_1 (nI_pos (by omega))) (fun h_1 => ?_)
    refine ab_aload_n dX1_wrap_54 rfl ?_
    refine ab_aload_n dX1_wrap_55 rfl ?_
    refine ab_getf dX1_wrap_56 fl_X1_23 rfl rfl ?_
    refine ab_iload_n dX1_wrap_59 rfl ?_
    refine ab_iald (j := m) dX1_wrap_60 rfl (ix_nI (by omega) (by decide)) ?_
    refine ab_topi (v := (nI (so m))) rfl ?_
    refine ab_iload_n dX1_wrap_61 rfl ?_
    refine ab_callV (As := [.int (nI (so m)), .int (nI q)]) (rest := []) dX1_wrap_62 mv_X1_putCorner ml_X1_73 ⟨by decide, by decide, rfl, rfl, rfl⟩ (by decide) rfl rfl (Nat.le_of_ble_eq_true rfl) rfl (c_X1_putCorner (K := K) (ch := ch) (i := (so m)) (q := q) (c := c) (hso m (by omega)) (by omega) (by omega) hch) ?_
    rintro r w' ⟨rfl, rfl⟩
    refine ab_iinc (v := ((nI m) + (-1))) (la' := [(2, .int ((nI m) + (-1))), (1, .int (nI q)), (0, .ref 12)]) dX1_wrap_65 rfl rfl (by decide) rfl ?_
    refine ab_goto 50 dX1_wrap_68 (by decide) ?_
    refine ab_pick [0, 1, 2] rfl ?_
    rw [show nI m + (-1) = nI m - 1 from (Int32.sub_eq_add_neg _ _).symm]
    obtain ⟨a1, a2, a3⟩ := pcS_inv (x := r13) (y := r14) (i := so m) (q := q) (s := (K, ch)) (b := K) (hso m (by omega)) ⟨Nat.le_refl K, hch⟩
    exact ih _ _ (by have a1 : dnw (pcP r13 r14 (so m) q ch) K + 1 ≤ K + 1 := a1; omega) (fun j hj => hso j (by omega)) a2 (by unfold w2S at hx ⊢; rw [itd_s] at hx; exact hx) (by omega)
/-- corners and chain of a curve's hull, by the class -/
def hlS (x y : Nat → Int32) (c : Nat) (so ch : Nat → Nat) : Nat × (Nat → Nat) := w2S x y (srtS x y c so).1 ((w1S x y (srtS x y c so).1 (srtS x y c so).2 ch).1 - 1) ((srtS x y c so).2 - 1) (w1S x y (srtS x y c so).1 (srtS x y c so).2 ch)
def hlN (x y : Nat → Int32) (c : Nat) (so ch : Nat → Nat) : Nat := if 1 < (hlS x y c so ch).1 then (hlS x y c so ch).1 - 1 else (hlS x y c so ch).1
theorem wr_end {x0 x1 x2 x3 x4 x5 x6 x7 x8 x9 x10 x11 x15 x18 x19 x20 x21 x22 x23 x24 x25 x26 x27 x28 x29 x30 x31 x32 : ax_E} {f12_8 f12_9 : Int32} {r13 r14 : Nat → Int32} {wm : List ax_E} {K P q c : Nat} {so ch : Nat → Nat} (hK : K ≤ 80) : Ab M_X1_wrap (fun r w' => r = some (.int (nI (if 1 < K then K - 1 else K))) ∧ w' = ([x0, x1, x2, x3, x4, x5, x6, x7, x8, x9, x10, x11, ob 1 [.ref 13, .ref 14, .ref 15, .ref 16, .ref 17, .int (nI c), .int (nI P), .int (nI (if 1 < K then K - 1 else K)), .int f12_8, .int f12_9], ia 40 r13, ia 40 r14, x15, ia 40 (nIf so), ia 81 (nIf ch), x18, x19, x20, x21, x22, x23, x24, x25, x26, x27, x28, x29, x30, x31, x32], wm)) (0, 0) 71 [(1, .int (nI q)), (0, .ref 12)] [] ([x0, x1, x2, x3, x4, x5, x6, x7, x8, x9, x10, x11, ob 1 [.ref 13, .ref 14, .ref 15, .ref 16, .ref 17, .int (nI c), .int (nI P), .int (nI K), .int f12_8, .int f12_9], ia 40 r13, ia 40 r14, x15, ia 40 (nIf so), ia 81 (nIf ch), x18, x19, x20, x21, x22, x23, x24, x25, x26, x27, x28, x29, x30, x31, x32], wm) := by
  refine ab_aload_n dX1_wrap_71 rfl ?_
  refine ab_getf dX1_wrap_72 fl_X1_36 rfl rfl ?_
  refine ab_iconst (v := 1) dX1_wrap_75 (by decide) ?_
  refine ab_icmple 89 dX1_wrap_76 (by decide) (fun h_1 => ?_) (fun h_1 => ?_)
  · have h_1n := (nI_leI (a := K) (b := 1) (by omega) (by omega)).mp h_1
    refine ab_aload_n dX1_wrap_89 rfl ?_
    refine ab_getf dX1_wrap_90 fl_X1_36 rfl rfl ?_
    exact ab_iret dX1_wrap_93 rfl (by decide) (by first | (rw [if_pos (by omega)]; exact ⟨rfl, rfl⟩) | (rw [if_neg (by omega)]; exact ⟨rfl, rfl⟩))
  · have h_1n : ¬ _ := fun z => h_1 ((nI_leI (a := K) (b := 1) (by omega) (by omega)).mpr z)
    refine ab_aload_n dX1_wrap_79 rfl ?_
    refine ab_dup rfl dX1_wrap_80 ?_
    refine ab_getf dX1_wrap_81 fl_X1_36 rfl rfl ?_
    refine ab_iconst (v := 1) dX1_wrap_84 (by decide) ?_
    refine ab_isub dX1_wrap_85 ?_
    refine ab_topi (v := (nI (K - 1))) (pk_sub (b := 1) (by omega)) ?_
    refine ab_putf (w1 := ([x0, x1, x2, x3, x4, x5, x6, x7, x8, x9, x10, x11, ob 1 [.ref 13, .ref 14, .ref 15, .ref 16, .ref 17, .int (nI c), .int (nI P), .int (nI (K - 1)), .int f12_8, .int f12_9], ia 40 r13, ia 40 r14, x15, ia 40 (nIf so), ia 81 (nIf ch), x18, x19, x20, x21, x22, x23, x24, x25, x26, x27, x28, x29, x30, x31, x32], wm)) dX1_wrap_86 fl_X1_36 rfl (Nat.le_of_ble_eq_true rfl) (fun _ => ⟨rfl, rfl⟩) rfl ?_
    refine ab_aload_n dX1_wrap_89 rfl ?_
    refine ab_getf dX1_wrap_90 fl_X1_36 rfl rfl ?_
    exact ab_iret dX1_wrap_93 rfl (by decide) (by first | (rw [if_pos (by omega)]; exact ⟨rfl, rfl⟩) | (rw [if_neg (by omega)]; exact ⟨rfl, rfl⟩))
theorem wr_mid {x0 x1 x2 x3 x4 x5 x6 x7 x8 x9 x10 x11 x15 x18 x19 x20 x21 x22 x23 x24 x25 x26 x27 x28 x29 x30 x31 x32 : ax_E} {f12_8 f12_9 : Int32} {r13 r14 : Nat → Int32} {wm : List ax_E} {K P c : Nat} {so ch : Nat → Nat} (hP : P ≤ 40) (hP1 : 0 < P) (hK : K ≤ P) (hK1 : 0 < K) (hso : ∀ j, j < P → so j < 40) (hch : ∀ j, j < K → ch j < 40) : Ab M_X1_wrap (fun r w' => r = some (.int (nI (if 1 < (w2S r13 r14 so (K - 1) (P - 1) (K, ch)).1 then (w2S r13 r14 so (K - 1) (P - 1) (K, ch)).1 - 1 else (w2S r13 r14 so (K - 1) (P - 1) (K, ch)).1))) ∧ w' = ([x0, x1, x2, x3, x4, x5, x6, x7, x8, x9, x10, x11, ob 1 [.ref 13, .ref 14, .ref 15, .ref 16, .ref 17, .int (nI c), .int (nI P), .int (nI (if 1 < (w2S r13 r14 so (K - 1) (P - 1) (K, ch)).1 then (w2S r13 r14 so (K - 1) (P - 1) (K, ch)).1 - 1 else (w2S r13 r14 so (K - 1) (P - 1) (K, ch)).1)), .int f12_8, .int f12_9], ia 40 r13, ia 40 r14, x15, ia 40 (nIf so), ia 81 (nIf (w2S r13 r14 so (K - 1) (P - 1) (K, ch)).2), x18, x19, x20, x21, x22, x23, x24, x25, x26, x27, x28, x29, x30, x31, x32], wm)) (0, 0) 36 [(1, .int (nI P)), (0, .ref 12)] [] ([x0, x1, x2, x3, x4, x5, x6, x7, x8, x9, x10, x11, ob 1 [.ref 13, .ref 14, .ref 15, .ref 16, .ref 17, .int (nI c), .int (nI P), .int (nI K), .int f12_8, .int f12_9], ia 40 r13, ia 40 r14, x15, ia 40 (nIf so), ia 81 (nIf ch), x18, x19, x20, x21, x22, x23, x24, x25, x26, x27, x28, x29, x30, x31, x32], wm) := by
  refine ab_aload_n dX1_wrap_36 rfl ?_
  refine ab_getf dX1_wrap_37 fl_X1_36 rfl rfl ?_
  refine ab_iconst (v := 1) dX1_wrap_40 (by decide) ?_
  refine ab_isub dX1_wrap_41 ?_
  refine ab_topi (v := (nI (K - 1))) (pk_sub (b := 1) (by omega)) ?_
  refine ab_istore_n (la' := [(1, .int (nI (K - 1))), (0, .ref 12)]) dX1_wrap_42 (by decide) rfl ?_
  refine ab_aload_n dX1_wrap_43 rfl ?_
  refine ab_getf dX1_wrap_44 fl_X1_33 rfl rfl ?_
  refine ab_iconst (v := 2) dX1_wrap_47 (by decide) ?_
  refine ab_isub dX1_wrap_48 ?_
  refine ab_istore_n (la' := [(2, .int ((nI P) - 2)), (1, .int (nI (K - 1))), (0, .ref 12)]) dX1_wrap_49 (by decide) rfl ?_
  refine ab_pick [0, 1, 2] rfl ?_
  rw [show nI P - 2 = nI (P - 1) - 1 by rw [show (2 : Int32) = nI 1 + 1 from rfl, ← Int32.sub_sub, pk_sub (by omega)]]
  refine lp_wr2 hP (by omega) (P - 1) K ch (by omega) (fun j hj => hso j (by omega)) hch ?_ (by omega)
  exact wr_end (by have := (w2S_inv (x := r13) (y := r14) (q := K - 1) (P - 1) K (K, ch) (fun j hj => hso j (by omega)) ⟨Nat.le_refl K, hch⟩).1; omega)
theorem wr_go {x0 x1 x2 x3 x4 x5 x6 x7 x8 x9 x10 x11 x15 x18 x19 x20 x21 x22 x23 x24 x25 x26 x27 x28 x29 x30 x31 x32 : ax_E} {f12_8 f12_9 : Int32} {r13 r14 : Nat → Int32} {wm : List ax_E} {P c : Nat} {so ch : Nat → Nat} (hP : P ≤ 40) (hP1 : 0 < P) (hso : ∀ j, j < P → so j < 40) : Ab M_X1_wrap (fun r w' => r = some (.int (nI (if 1 < (w2S r13 r14 so ((w1S r13 r14 so P ch).1 - 1) (P - 1) (w1S r13 r14 so P ch)).1 then (w2S r13 r14 so ((w1S r13 r14 so P ch).1 - 1) (P - 1) (w1S r13 r14 so P ch)).1 - 1 else (w2S r13 r14 so ((w1S r13 r14 so P ch).1 - 1) (P - 1) (w1S r13 r14 so P ch)).1))) ∧ w' = ([x0, x1, x2, x3, x4, x5, x6, x7, x8, x9, x10, x11, ob 1 [.ref 13, .ref 14, .ref 15, .ref 16, .ref 17, .int (nI c), .int (nI P), .int (nI (if 1 < (w2S r13 r14 so ((w1S r13 r14 so P ch).1 - 1) (P - 1) (w1S r13 r14 so P ch)).1 then (w2S r13 r14 so ((w1S r13 r14 so P ch).1 - 1) (P - 1) (w1S r13 r14 so P ch)).1 - 1 else (w2S r13 r14 so ((w1S r13 r14 so P ch).1 - 1) (P - 1) (w1S r13 r14 so P ch)).1)), .int f12_8, .int f12_9], ia 40 r13, ia 40 r14, x15, ia 40 (nIf so), ia 81 (nIf (w2S r13 r14 so ((w1S r13 r14 so P ch).1 - 1) (P - 1) (w1S r13 r14 so P ch)).2), x18, x19, x20, x21, x22, x23, x24, x25, x26, x27, x28, x29, x30, x31, x32], wm)) (0, 0) 11 [(1, .int (nI 0)), (0, .ref 12)] [] ([x0, x1, x2, x3, x4, x5, x6, x7, x8, x9, x10, x11, ob 1 [.ref 13, .ref 14, .ref 15, .ref 16, .ref 17, .int (nI c), .int (nI P), .int (nI 0), .int f12_8, .int f12_9], ia 40 r13, ia 40 r14, x15, ia 40 (nIf so), ia 81 (nIf ch), x18, x19, x20, x21, x22, x23, x24, x25, x26, x27, x28, x29, x30, x31, x32], wm) := by
  refine lp_wr1 hP hso P 0 0 ch (by omega) (⟨Nat.le_refl 0, fun j hj => absurd hj (by omega)⟩) ?_
  obtain ⟨b1, b2, b3⟩ := w1S_inv (x := r13) (y := r14) ch hso
  exact wr_mid (K := (w1S r13 r14 so P ch).1) (ch := (w1S r13 r14 so P ch).2) hP hP1 b1 (b3 hP1) hso b2
theorem c_X1_wrap {x0 x1 x2 x3 x4 x5 x6 x7 x8 x9 x10 x11 x15 x18 x19 x20 x21 x22 x23 x24 x25 x26 x27 x28 x29 x30 x31 x32 : ax_E} {f12_6 f12_7 f12_8 f12_9 : Int32} {r13 r14 : Nat → Int32} {wm : List ax_E} {c : Nat} {so ch : Nat → Nat} (hc : c ≤ 40) (h_1 : 0 < c) : Ct M_X1_wrap [.ref 12] ([x0, x1, x2, x3, x4, x5, x6, x7, x8, x9, x10, x11, ob 1 [.ref 13, .ref 14, .ref 15, .ref 16, .ref 17, .int (nI c), .int f12_6, .int f12_7, .int f12_8, .int f12_9], ia 40 r13, ia 40 r14, x15, ia 40 (nIf so), ia 81 (nIf ch), x18, x19, x20, x21, x22, x23, x24, x25, x26, x27, x28, x29, x30, x31, x32], wm) (fun r w' => r = some (.int (nI (hlN r13 r14 c so ch))) ∧ w' = ([x0, x1, x2, x3, x4, x5, x6, x7, x8, x9, x10, x11, ob 1 [.ref 13, .ref 14, .ref 15, .ref 16, .ref 17, .int (nI c), .int (nI (srtS r13 r14 c so).2), .int (nI (hlN r13 r14 c so ch)), .int f12_8, .int f12_9], ia 40 r13, ia 40 r14, x15, ia 40 (nIf (srtS r13 r14 c so).1), ia 81 (nIf (hlS r13 r14 c so ch).2), x18, x19, x20, x21, x22, x23, x24, x25, x26, x27, x28, x29, x30, x31, x32], wm)) := by
  refine ct_of ⟨by decide, rfl⟩ (Nat.le_of_ble_eq_true rfl) ?_
  refine ab_aload_n dX1_wrap_0 rfl ?_
  refine ab_callV (As := []) (rest := []) dX1_wrap_1 mv_X1_sortPlaces ml_X1_70 ⟨by decide, by decide, rfl, rfl, rfl⟩ (by decide) rfl rfl (Nat.le_of_ble_eq_true rfl) rfl (c_X1_sortPlaces (c := c) (so := so) hc) ?_
  rintro r w' ⟨rfl, rfl⟩
  refine ab_aload_n dX1_wrap_4 rfl ?_
  refine ab_iconst (v := 0) dX1_wrap_5 (by decide) ?_
  refine ab_putf (w1 := ([x0, x1, x2, x3, x4, x5, x6, x7, x8, x9, x10, x11, ob 1 [.ref 13, .ref 14, .ref 15, .ref 16, .ref 17, .int (nI c), .int (nI (itr (fun i s => lp_sort_st r13 r14 i s.1 s.2) c 0 (so, 0)).2), .int 0, .int f12_8, .int f12_9], ia 40 r13, ia 40 r14, x15, ia 40 (nIf (itr (fun i s => lp_sort_st r13 r14 i s.1 s.2) c 0 (so, 0)).1), ia 81 (nIf ch), x18, x19, x20, x21, x22, x23, x24, x25, x26, x27, x28, x29, x30, x31, x32], wm)) dX1_wrap_6 fl_X1_36 rfl (Nat.le_of_ble_eq_true rfl) (fun _ => ⟨rfl, rfl⟩) rfl ?_
  refine ab_iconst (v := 0) dX1_wrap_9 (by decide) ?_
  refine ab_istore_n (la' := [(1, .int 0), (0, .ref 12)]) dX1_wrap_10 (by decide) rfl ?_
  refine ab_pick [0, 1] rfl ?_
  obtain ⟨b1, b2, b3⟩ := srtS_inv r13 r14 c so
  exact wr_go (P := (srtS r13 r14 c so).2) (so := (srtS r13 r14 c so).1) (by omega) (b3 h_1) (fun j hj => by have := b2 j hj; omega)
theorem c_X1_cornerAngle {x0 x1 x2 x3 x4 x5 x6 x7 x8 x9 x10 x11 x13 x14 x16 x18 x19 x20 x21 x22 x23 x24 x25 x26 x27 x28 x29 x30 x31 x32 : ax_E} {f12_6 f12_8 f12_9 : Int32} {r15 : Nat → Int32} {wm : List ax_E} {K j c : Nat} {ch : Nat → Nat} (hj : j < K) (hK : K ≤ 80) (hch : ∀ j, j < K → ch j < 40) : Ct M_X1_cornerAngle [.ref 12, .int (nI j)] ([x0, x1, x2, x3, x4, x5, x6, x7, x8, x9, x10, x11, ob 1 [.ref 13, .ref 14, .ref 15, .ref 16, .ref 17, .int (nI c), .int f12_6, .int (nI K), .int f12_8, .int f12_9], x13, x14, ia 40 r15, x16, ia 81 (nIf ch), x18, x19, x20, x21, x22, x23, x24, x25, x26, x27, x28, x29, x30, x31, x32], wm) (fun r w' => r = some (.int (r15 (ch j))) ∧ w' = ([x0, x1, x2, x3, x4, x5, x6, x7, x8, x9, x10, x11, ob 1 [.ref 13, .ref 14, .ref 15, .ref 16, .ref 17, .int (nI c), .int f12_6, .int (nI K), .int f12_8, .int f12_9], x13, x14, ia 40 r15, x16, ia 81 (nIf ch), x18, x19, x20, x21, x22, x23, x24, x25, x26, x27, x28, x29, x30, x31, x32], wm)) := by
  refine ct_of ⟨by decide, rfl⟩ (Nat.le_of_ble_eq_true rfl) ?_
  refine ab_iload_n dX1_cornerAngle_0 rfl ?_
  refine ab_iflt 26 dX1_cornerAngle_1 (by decide) (fun h_1 => absurd h_1 (nI_pos (by omega))) (fun h_1 => ?_)
  refine ab_iload_n dX1_cornerAngle_4 rfl ?_
  refine ab_aload_n dX1_cornerAngle_5 rfl ?_
  refine ab_getf dX1_cornerAngle_6 fl_X1_36 rfl rfl ?_
  refine ab_icmpge 26 dX1_cornerAngle_9 (by decide) (fun h_2 => absurd h_2 (nI_ge (by omega) (by omega))) (fun h_2 => ?_)
  refine ab_aload_n dX1_cornerAngle_12 rfl ?_
  refine ab_getf dX1_cornerAngle_13 fl_X1_20 rfl rfl ?_
  refine ab_aload_n dX1_cornerAngle_16 rfl ?_
  refine ab_getf dX1_cornerAngle_17 fl_X1_26 rfl rfl ?_
  refine ab_iload_n dX1_cornerAngle_20 rfl ?_
  refine ab_iald (j := j) dX1_cornerAngle_21 rfl (ix_nI (by omega) (by decide)) ?_
  refine ab_topi (v := (nI (ch j))) rfl ?_
  refine ab_iald (j := (ch j)) dX1_cornerAngle_22 rfl (ix_nI (hch j (by omega)) (by decide)) ?_
  refine ab_goto 27 dX1_cornerAngle_23 (by decide) ?_
  exact ab_iret dX1_cornerAngle_27 rfl (by decide) (⟨rfl, rfl⟩)
def lp_wt_st (r13 : Nat → Int32) (r14 : Nat → Int32) (K : Nat) (ch : Nat → Nat) (k : Nat) (s : Int64) : Int64 := (if (nI K) ≤ (nI (k + 1)) then (s + (Cv_cr r13 r14 (ch k) (ch 0))) else (s + (Cv_cr r13 r14 (ch k) (ch (k + 1)))))
set_option maxHeartbeats 400000 in
theorem lp_wt {x0 x1 x2 x3 x4 x5 x6 x7 x8 x9 x10 x11 x15 x16 x18 x19 x20 x21 x22 x23 x24 x25 x26 x27 x28 x29 x30 x31 x32 : ax_E} {f12_6 f12_8 f12_9 : Int32} {r13 r14 : Nat → Int32} {wm : List ax_E} {K c : Nat} {ch : Nat → Nat} {Q : Option Value → ax_W → Prop} (hK : K ≤ 80) (hch : ∀ j, j < K → ch j < 40) : ∀ (n k : Nat) (s : Int64) , k + n = K → Ab M_X1_wrappedTwice Q (0, 0) 53 [(3, .int (nI K)), (1, .long (itr (lp_wt_st r13 r14 K ch) n k s)), (0, .ref 12)] [] ([x0, x1, x2, x3, x4, x5, x6, x7, x8, x9, x10, x11, ob 1 [.ref 13, .ref 14, .ref 15, .ref 16, .ref 17, .int (nI c), .int f12_6, .int (nI K), .int f12_8, .int f12_9], ia 40 r13, ia 40 r14, x15, x16, ia 81 (nIf ch), x18, x19, x20, x21, x22, x23, x24, x25, x26, x27, x28, x29, x30, x31, x32], wm) → Ab M_X1_wrappedTwice Q (0, 0) 4 [(3, .int (nI k)), (1, .long s), (0, .ref 12)] [] ([x0, x1, x2, x3, x4, x5, x6, x7, x8, x9, x10, x11, ob 1 [.ref 13, .ref 14, .ref 15, .ref 16, .ref 17, .int (nI c), .int f12_6, .int (nI K), .int f12_8, .int f12_9], ia 40 r13, ia 40 r14, x15, x16, ia 81 (nIf ch), x18, x19, x20, x21, x22, x23, x24, x25, x26, x27, x28, x29, x30, x31, x32], wm) := by
  intro n
  induction n with
  | zero =>
    intro k s  hk hx
    rw [itr_0] at hx
    obtain rfl : k = K := by omega
    refine ab_iload_n dX1_wrappedTwice_4 rfl ?_
    refine ab_aload_n dX1_wrappedTwice_5 rfl ?_
    refine ab_getf dX1_wrappedTwice_6 fl_X1_36 rfl rfl ?_
    refine ab_icmpge 53 dX1_wrappedTwice_9 (by decide) (fun h_1 => ?_) (fun h_1 => absurd (nI_le (Nat.le_refl _) (by omega)) h_1)
    refine ab_pick [0, 1, 2] rfl ?_
    exact hx 
  | succ n ih =>
    intro k s  hk hx
    refine ab_iload_n dX1_wrappedTwice_4 rfl ?_
    refine ab_aload_n dX1_wrappedTwice_5 rfl ?_
    refine ab_getf dX1_wrappedTwice_6 fl_X1_36 rfl rfl ?_
    refine ab_icmpge 53 dX1_wrappedTwice_9 (by decide) (fun h_1 => absurd h_1 (nI_ge (a := k) (b := K) (by omega) (by omega))) (fun h_1 => ?_)
    refine ab_lload_n dX1_wrappedTwice_12 rfl ?_
    refine ab_aload_n dX1_wrappedTwice_13 rfl ?_
    refine ab_aload_n dX1_wrappedTwice_14 rfl ?_
    refine ab_getf dX1_wrappedTwice_15 fl_X1_26 rfl rfl ?_
    refine ab_iload_n dX1_wrappedTwice_18 rfl ?_
    refine ab_iald (j := k) dX1_wrappedTwice_19 rfl (ix_nI (by omega) (by decide)) ?_
    refine ab_topi (v := (nI (ch k))) rfl ?_
    refine ab_aload_n dX1_wrappedTwice_20 rfl ?_
    refine ab_getf dX1_wrappedTwice_21 fl_X1_26 rfl rfl ?_
    refine ab_iload_n dX1_wrappedTwice_24 rfl ?_
    refine ab_iconst (v := 1) dX1_wrappedTwice_25 (by decide) ?_
    refine ab_iadd dX1_wrappedTwice_26 ?_
    refine ab_topi (v := (nI (k + 1))) (nI_1 _) ?_
    refine ab_aload_n dX1_wrappedTwice_27 rfl ?_
    refine ab_getf dX1_wrappedTwice_28 fl_X1_36 rfl rfl ?_
    refine ab_icmpge 40 dX1_wrappedTwice_31 (by decide) (fun h_2 => ?_) (fun h_2 => ?_)
    · have h_2n := (nI_leI (a := K) (b := (k + 1)) (by omega) (by omega)).mp h_2
      refine ab_iconst (v := 0) dX1_wrappedTwice_40 (by decide) ?_
      refine ab_iald (j := 0) dX1_wrappedTwice_41 rfl (ix_c (by decide)) ?_
      refine ab_topi (v := (nI (ch 0))) rfl ?_
      refine ab_callV (As := [.int (nI (ch k)), .int (nI (ch 0))]) (rest := [.long s]) dX1_wrappedTwice_42 mv_X1_crossed ml_X1_58 ⟨by decide, by decide, rfl, rfl, rfl⟩ (by decide) rfl rfl (Nat.le_of_ble_eq_true rfl) rfl (c_X1_crossed (j1 := (ch k)) (j2 := (ch 0)) (ix_nI (hch k (by omega)) (by decide)) (ix_nI (hch 0 (by omega)) (by decide))) ?_
      rintro r w' ⟨rfl, rfl⟩
      refine ab_ladd dX1_wrappedTwice_45 ?_
      refine ab_lstore_n (la' := [(1, .long (s + (Cv_cr r13 r14 (ch k) (ch 0)))), (3, .int (nI k)), (0, .ref 12)]) dX1_wrappedTwice_46 (by decide) rfl ?_
      refine ab_iinc (v := (nI (k + 1))) (la' := [(3, .int (nI (k + 1))), (1, .long (s + (Cv_cr r13 r14 (ch k) (ch 0)))), (0, .ref 12)]) dX1_wrappedTwice_47 rfl (nI_1 _) (by decide) rfl ?_
      refine ab_goto 4 dX1_wrappedTwice_50 (by decide) ?_
      refine ab_pick [0, 1, 2] rfl ?_
      rw [(itr_s (lp_wt_st r13 r14 K ch) n k s).trans (congrArg (itr (lp_wt_st r13 r14 K ch) n (k + 1)) (show lp_wt_st r13 r14 K ch k s = (s + (Cv_cr r13 r14 (ch k) (ch 0))) from by rw [lp_wt_st, if_pos (show (nI K) ≤ (nI (k + 1)) from h_2)]))] at hx
      exact ih (k + 1) (s + (Cv_cr r13 r14 (ch k) (ch 0)))  (by omega) hx
    · have h_2n : ¬ _ := fun z => h_2 ((nI_leI (a := K) (b := (k + 1)) (by omega) (by omega)).mpr z)
      refine ab_iload_n dX1_wrappedTwice_34 rfl ?_
      refine ab_iconst (v := 1) dX1_wrappedTwice_35 (by decide) ?_
      refine ab_iadd dX1_wrappedTwice_36 ?_
      refine ab_topi (v := (nI (k + 1))) (nI_1 _) ?_
      refine ab_goto 41 dX1_wrappedTwice_37 (by decide) ?_
      refine ab_iald (j := (k + 1)) dX1_wrappedTwice_41 rfl (ix_nI (by omega) (by decide)) ?_
      refine ab_topi (v := (nI (ch (k + 1)))) rfl ?_
      refine ab_callV (As := [.int (nI (ch k)), .int (nI (ch (k + 1)))]) (rest := [.long s]) dX1_wrappedTwice_42 mv_X1_crossed ml_X1_58 ⟨by decide, by decide, rfl, rfl, rfl⟩ (by decide) rfl rfl (Nat.le_of_ble_eq_true rfl) rfl (c_X1_crossed (j1 := (ch k)) (j2 := (ch (k + 1))) (ix_nI (hch k (by omega)) (by decide)) (ix_nI (hch (k + 1) (by omega)) (by decide))) ?_
      rintro r w' ⟨rfl, rfl⟩
      refine ab_ladd dX1_wrappedTwice_45 ?_
      refine ab_lstore_n (la' := [(1, .long (s + (Cv_cr r13 r14 (ch k) (ch (k + 1))))), (3, .int (nI k)), (0, .ref 12)]) dX1_wrappedTwice_46 (by decide) rfl ?_
      refine ab_iinc (v := (nI (k + 1))) (la' := [(3, .int (nI (k + 1))), (1, .long (s + (Cv_cr r13 r14 (ch k) (ch (k + 1))))), (0, .ref 12)]) dX1_wrappedTwice_47 rfl (nI_1 _) (by decide) rfl ?_
      refine ab_goto 4 dX1_wrappedTwice_50 (by decide) ?_
      refine ab_pick [0, 1, 2] rfl ?_
      rw [(itr_s (lp_wt_st r13 r14 K ch) n k s).trans (congrArg (itr (lp_wt_st r13 r14 K ch) n (k + 1)) (show lp_wt_st r13 r14 K ch k s = (s + (Cv_cr r13 r14 (ch k) (ch (k + 1)))) from by rw [lp_wt_st, if_neg (show ¬ (nI K) ≤ (nI (k + 1)) from h_2)]))] at hx
      exact ih (k + 1) (s + (Cv_cr r13 r14 (ch k) (ch (k + 1))))  (by omega) hx
theorem c_X1_wrappedTwice {x0 x1 x2 x3 x4 x5 x6 x7 x8 x9 x10 x11 x15 x16 x18 x19 x20 x21 x22 x23 x24 x25 x26 x27 x28 x29 x30 x31 x32 : ax_E} {f12_6 f12_8 f12_9 : Int32} {r13 r14 : Nat → Int32} {wm : List ax_E} {K c : Nat} {ch : Nat → Nat} (hK : K ≤ 80) (hch : ∀ j, j < K → ch j < 40) : Ct M_X1_wrappedTwice [.ref 12] ([x0, x1, x2, x3, x4, x5, x6, x7, x8, x9, x10, x11, ob 1 [.ref 13, .ref 14, .ref 15, .ref 16, .ref 17, .int (nI c), .int f12_6, .int (nI K), .int f12_8, .int f12_9], ia 40 r13, ia 40 r14, x15, x16, ia 81 (nIf ch), x18, x19, x20, x21, x22, x23, x24, x25, x26, x27, x28, x29, x30, x31, x32], wm) (fun r w' => r = some (.long (itr (lp_wt_st r13 r14 K ch) K 0 0)) ∧ w' = ([x0, x1, x2, x3, x4, x5, x6, x7, x8, x9, x10, x11, ob 1 [.ref 13, .ref 14, .ref 15, .ref 16, .ref 17, .int (nI c), .int f12_6, .int (nI K), .int f12_8, .int f12_9], ia 40 r13, ia 40 r14, x15, x16, ia 81 (nIf ch), x18, x19, x20, x21, x22, x23, x24, x25, x26, x27, x28, x29, x30, x31, x32], wm)) := by
  refine ct_of ⟨by decide, rfl⟩ (Nat.le_of_ble_eq_true rfl) ?_
  refine ab_lconst (v := 0) dX1_wrappedTwice_0 (by decide) ?_
  refine ab_lstore_n (la' := [(1, .long 0), (0, .ref 12)]) dX1_wrappedTwice_1 (by decide) rfl ?_
  refine ab_iconst (v := 0) dX1_wrappedTwice_2 (by decide) ?_
  refine ab_istore_n (la' := [(3, .int 0), (1, .long 0), (0, .ref 12)]) dX1_wrappedTwice_3 (by decide) rfl ?_
  refine ab_pick [0, 1, 2] rfl ?_
  refine lp_wt hK hch K 0 0 (by omega) ?_
  refine ab_lload_n dX1_wrappedTwice_53 rfl ?_
  exact ab_lret dX1_wrappedTwice_54 rfl (by decide) (⟨rfl, rfl⟩)
