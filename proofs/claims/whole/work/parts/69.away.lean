def lp_fillm_st (a2 : Int32) (k : Nat) (f : Nat → Int32) : (Nat → Int32) := (upd f k a2)
set_option maxHeartbeats 400000 in
theorem lp_fillm {x0 x1 x2 x3 x4 x5 x6 x7 x8 x9 x10 x11 x12 x13 x14 x15 x16 x17 x18 x19 x20 x21 x22 x23 x24 x25 x26 x28 x29 x30 x31 x32 : ax_E} {wm : List ax_E} {a2 : Int32} {Q : Option Value → ax_W → Prop} {B : Nat} (hB : B = 80)  : ∀ (n k : Nat) (f : Nat → Int32) , k + n = B → Ab M_J7_fill_53178 Q (0, 0) 20 [(3, .int 80), (2, .int (nI B)), (1, .int a2), (0, .ref 27)] [] ([x0, x1, x2, x3, x4, x5, x6, x7, x8, x9, x10, x11, x12, x13, x14, x15, x16, x17, x18, x19, x20, x21, x22, x23, x24, x25, x26, ia 80 (itr (lp_fillm_st a2) n k f), x28, x29, x30, x31, x32], wm) → Ab M_J7_fill_53178 Q (0, 0) 5 [(3, .int 80), (2, .int (nI k)), (1, .int a2), (0, .ref 27)] [] ([x0, x1, x2, x3, x4, x5, x6, x7, x8, x9, x10, x11, x12, x13, x14, x15, x16, x17, x18, x19, x20, x21, x22, x23, x24, x25, x26, ia 80 f, x28, x29, x30, x31, x32], wm) := by
  intro n
  induction n with
  | zero =>
    intro k f  hk hx
    rw [itr_0] at hx
    rw [show k = B by omega]
    refine ab_iload_n dJ7_fill_53178_5 rfl ?_
    refine ab_iload_n dJ7_fill_53178_6 rfl ?_
    refine ab_icmpge 20 dJ7_fill_53178_7 (by decide) (fun h_1 => ?_) (fun h_1 => absurd (nI_le (a := 80) (by omega) (by omega)) h_1)
    refine ab_pick [0, 1, 2, 3] rfl ?_
    exact hx 
  | succ n ih =>
    intro k f  hk hx
    refine ab_iload_n dJ7_fill_53178_5 rfl ?_
    refine ab_iload_n dJ7_fill_53178_6 rfl ?_
    refine ab_icmpge 20 dJ7_fill_53178_7 (by decide) (fun h_1 => absurd h_1 (nI_ge (a := k) (b := 80) (by omega) (by omega))) (fun h_1 => ?_)
    refine ab_aload_n dJ7_fill_53178_10 rfl ?_
    refine ab_iload_n dJ7_fill_53178_11 rfl ?_
    refine ab_iload_n dJ7_fill_53178_12 rfl ?_
    refine ab_iast (w1 := ([x0, x1, x2, x3, x4, x5, x6, x7, x8, x9, x10, x11, x12, x13, x14, x15, x16, x17, x18, x19, x20, x21, x22, x23, x24, x25, x26, ia 80 (upd f k a2), x28, x29, x30, x31, x32], wm)) dJ7_fill_53178_13 rfl (ix_nI (by omega) (by decide)) rfl ?_
    refine ab_iinc (v := (nI (k + 1))) (la' := [(2, .int (nI (k + 1))), (3, .int 80), (1, .int a2), (0, .ref 27)]) dJ7_fill_53178_14 rfl (nI_1 _) (by decide) rfl ?_
    refine ab_goto 5 dJ7_fill_53178_17 (by decide) ?_
    refine ab_pick [1, 0, 2, 3] rfl ?_
    rw [(itr_s (lp_fillm_st a2) n k f).trans (congrArg (itr (lp_fillm_st a2) n (k + 1)) (show lp_fillm_st a2 k f = (upd f k a2) from rfl))] at hx
    exact ih (k + 1) (upd f k a2)  (by omega) hx
theorem fillm (v : Int32) (r : Nat → Int32) : itr (lp_fillm_st v) 80 0 r = ovl (fun _ => v) 80 r := by
  funext i
  rw [fill_itr v r (lp_fillm_st v) (fun _ _ => rfl) 80 0 r (fun i => by rw [if_neg (by omega)]) i, Nat.zero_add]
  rfl
theorem c_fill_m {x0 x1 x2 x3 x4 x5 x6 x7 x8 x9 x10 x11 x12 x13 x14 x15 x16 x17 x18 x19 x20 x21 x22 x23 x24 x25 x26 x28 x29 x30 x31 x32 : ax_E} {r27 : Nat → Int32} {wm : List ax_E} {a2 : Int32}  : Ct M_J7_fill_53178 [.ref 27, .int a2] ([x0, x1, x2, x3, x4, x5, x6, x7, x8, x9, x10, x11, x12, x13, x14, x15, x16, x17, x18, x19, x20, x21, x22, x23, x24, x25, x26, ia 80 r27, x28, x29, x30, x31, x32], wm) (fun r w' => r = none ∧ w' = ([x0, x1, x2, x3, x4, x5, x6, x7, x8, x9, x10, x11, x12, x13, x14, x15, x16, x17, x18, x19, x20, x21, x22, x23, x24, x25, x26, ia 80 (ovl (fun _ => a2) 80 r27), x28, x29, x30, x31, x32], wm)) := by
  refine ct_ofF ⟨by decide +kernel, rfl⟩ (Nat.le_of_ble_eq_true rfl) ?_
  refine ab_iconst (v := 0) dJ7_fill_53178_0 (by decide) ?_
  refine ab_istore_n (la' := [(2, .int 0), (0, .ref 27), (1, .int a2)]) dJ7_fill_53178_1 (by decide) rfl ?_
  refine ab_aload_n dJ7_fill_53178_2 rfl ?_
  refine ab_ialen (v := 80) dJ7_fill_53178_3 rfl (by decide) ?_
  refine ab_istore_n (la' := [(3, .int 80), (2, .int 0), (0, .ref 27), (1, .int a2)]) dJ7_fill_53178_4 (by decide) rfl ?_
  refine ab_pick [0, 1, 3, 2] rfl ?_
  refine lp_fillm (B := 80) rfl 80 0 r27 (by omega) ?_
  exact ab_vret dJ7_fill_53178_20 rfl (by decide) (⟨rfl, by rw [fillm]⟩)
theorem c_X8_reach {x0 x1 x2 x3 x4 x5 x6 x7 x8 x9 x10 x11 x12 x13 x14 x15 x16 x17 x18 x19 x20 x21 x22 x23 x24 x29 x30 x31 x32 : ax_E} {f25_4 f25_7 a3 : Int32} {r26 r27 r28 : Nat → Int32} {wm : List ax_E} {S : BS} {k e a b : Nat} {p : Nat → Bool} (h_p : ∀ k, k < 40 → (p k = true ↔ ¬ r26 k = 0)) (hk : k < 40) (he : e < 2) (hJ : S.1 (2 * k + e) = -2 → S.2.2 < 80) : Ct M_X8_reach [.ref 25, .int (nI k), .int (nI e), .int a3] ([x0, x1, x2, x3, x4, x5, x6, x7, x8, x9, x10, x11, x12, x13, x14, x15, x16, x17, x18, x19, x20, x21, x22, x23, x24, ob 7 [.ref 26, .ref 27, .ref 28, .int (nI S.2.2), .int f25_4, .int (nI a), .int (nI b), .int f25_7], ia 40 r26, ia 80 (ovl S.1 80 r27), ia 80 (putA r28 S.2.1 S.2.2), x29, x30, x31, x32], wm) (fun r w' => r = none ∧ w' = ([x0, x1, x2, x3, x4, x5, x6, x7, x8, x9, x10, x11, x12, x13, x14, x15, x16, x17, x18, x19, x20, x21, x22, x23, x24, ob 7 [.ref 26, .ref 27, .ref 28, .int (nI (mtS p (2 * k + e) a3 S).2.2), .int f25_4, .int (nI a), .int (nI b), .int f25_7], ia 40 r26, ia 80 (ovl (mtS p (2 * k + e) a3 S).1 80 r27), ia 80 (putA r28 (mtS p (2 * k + e) a3 S).2.1 (mtS p (2 * k + e) a3 S).2.2), x29, x30, x31, x32], wm)) := by
  refine ct_of ⟨by decide, rfl⟩ (Nat.le_of_ble_eq_true rfl) ?_
  refine ab_iconst (v := 2) dX8_reach_0 (by decide) ?_
  refine ab_iload_n dX8_reach_1 rfl ?_
  refine ab_imul dX8_reach_2 ?_
  refine ab_topi (v := (nI (2 * k))) (pk_mul 2 _) ?_
  refine ab_iload_n dX8_reach_3 rfl ?_
  refine ab_iadd dX8_reach_4 ?_
  refine ab_topi (v := (nI ((2 * k) + e))) (nI_add _ _) ?_
  refine ab_istore (la' := [(4, .int (nI ((2 * k) + e))), (0, .ref 25), (1, .int (nI k)), (2, .int (nI e)), (3, .int a3)]) dX8_reach_5 (by decide) rfl ?_
  refine ab_aload_n dX8_reach_7 rfl ?_
  refine ab_getf dX8_reach_8 fl_X8_11 rfl rfl ?_
  refine ab_iload_n dX8_reach_11 rfl ?_
  refine ab_iald (j := k) dX8_reach_12 rfl (ix_nI (by omega) (by decide)) ?_
  refine ab_ifeq 66 dX8_reach_13 (by decide) (fun h_1 => ?_) (fun h_1 => ?_)
  · exact ab_vret dX8_reach_66 rfl (by decide) ⟨rfl, by rw [mtS_f (fun z => ((h_p k hk).mp (by rw [← show (2 * k + e) / 2 = k by omega]; exact z.2)) h_1)]⟩
  · refine ab_aload_n dX8_reach_16 rfl ?_
    refine ab_getf dX8_reach_17 fl_X8_17 rfl rfl ?_
    refine ab_iload dX8_reach_20 rfl ?_
    refine ab_iald (j := ((2 * k) + e)) dX8_reach_22 rfl (ix_nI (by omega) (by decide)) ?_
    refine ab_topi (v := (S.1 (2 * k + e))) (ovl_lt (by omega)) ?_
    refine ab_bipush (v := -2) dX8_reach_23 (by decide) ?_
    refine ab_icmpne 66 dX8_reach_25 (by decide) (fun h_2 => ?_) (fun h_2 => ?_)
    · exact ab_vret dX8_reach_66 rfl (by decide) ⟨rfl, by rw [mtS_f (fun z => h_2 z.1)]⟩
    · refine ab_aload_n dX8_reach_28 rfl ?_
      refine ab_getf dX8_reach_29 fl_X8_23 rfl rfl ?_
      refine ab_bipush (v := 80) dX8_reach_32 (by decide) ?_
      refine ab_icmpge 66 dX8_reach_34 (by decide) (fun h_3 => absurd h_3 (nI_ge (a := S.2.2) (b := 80) (hJ h_2) (by decide))) (fun h_3 => ?_)
      refine ab_aload_n dX8_reach_37 rfl ?_
      refine ab_getf dX8_reach_38 fl_X8_17 rfl rfl ?_
      refine ab_iload dX8_reach_41 rfl ?_
      refine ab_iload_n dX8_reach_43 rfl ?_
      refine ab_iast (w1 := ([x0, x1, x2, x3, x4, x5, x6, x7, x8, x9, x10, x11, x12, x13, x14, x15, x16, x17, x18, x19, x20, x21, x22, x23, x24, ob 7 [.ref 26, .ref 27, .ref 28, .int (nI S.2.2), .int f25_4, .int (nI a), .int (nI b), .int f25_7], ia 40 r26, ia 80 (upd (ovl S.1 80 r27) ((2 * k) + e) a3), ia 80 (putA r28 S.2.1 S.2.2), x29, x30, x31, x32], wm)) dX8_reach_44 rfl (ix_nI (by omega) (by decide)) rfl ?_
      refine ab_aload_n dX8_reach_45 rfl ?_
      refine ab_getf dX8_reach_46 fl_X8_20 rfl rfl ?_
      refine ab_aload_n dX8_reach_49 rfl ?_
      refine ab_getf dX8_reach_50 fl_X8_23 rfl rfl ?_
      refine ab_iload dX8_reach_53 rfl ?_
      refine ab_iast (w1 := ([x0, x1, x2, x3, x4, x5, x6, x7, x8, x9, x10, x11, x12, x13, x14, x15, x16, x17, x18, x19, x20, x21, x22, x23, x24, ob 7 [.ref 26, .ref 27, .ref 28, .int (nI S.2.2), .int f25_4, .int (nI a), .int (nI b), .int f25_7], ia 40 r26, ia 80 (upd (ovl S.1 80 r27) ((2 * k) + e) a3), ia 80 (upd (putA r28 S.2.1 S.2.2) S.2.2 (nI ((2 * k) + e))), x29, x30, x31, x32], wm)) dX8_reach_55 rfl (ix_nI (by have := hJ h_2; omega) (by decide)) rfl ?_
      refine ab_aload_n dX8_reach_56 rfl ?_
      refine ab_dup rfl dX8_reach_57 ?_
      refine ab_getf dX8_reach_58 fl_X8_23 rfl rfl ?_
      refine ab_iconst (v := 1) dX8_reach_61 (by decide) ?_
      refine ab_iadd dX8_reach_62 ?_
      refine ab_topi (v := (nI (S.2.2 + 1))) (nI_1 _) ?_
      refine ab_putf (w1 := ([x0, x1, x2, x3, x4, x5, x6, x7, x8, x9, x10, x11, x12, x13, x14, x15, x16, x17, x18, x19, x20, x21, x22, x23, x24, ob 7 [.ref 26, .ref 27, .ref 28, .int (nI (S.2.2 + 1)), .int f25_4, .int (nI a), .int (nI b), .int f25_7], ia 40 r26, ia 80 (upd (ovl S.1 80 r27) ((2 * k) + e) a3), ia 80 (upd (putA r28 S.2.1 S.2.2) S.2.2 (nI ((2 * k) + e))), x29, x30, x31, x32], wm)) dX8_reach_63 fl_X8_23 rfl (Nat.le_of_ble_eq_true rfl) (fun _ => ⟨rfl, rfl⟩) rfl ?_
      exact ab_vret dX8_reach_66 rfl (by decide) ⟨rfl, by rw [mtS_t h_2 (by rw [show (2 * k + e) / 2 = k by omega]; exact (h_p k hk).mpr h_1), ovl_upd (by omega), putA_u]⟩
set_option maxHeartbeats 800000 in
theorem lp_few {x0 x1 x2 x3 x4 x5 x6 x7 x8 x9 x10 x11 x12 x13 x14 x15 x16 x17 x18 x19 x20 x21 x22 x23 x24 x29 x30 x31 x32 : ax_E} {f25_4 f25_7 a1 a2 : Int32} {r26 r27 r28 : Nat → Int32} {wm : List ax_E} {a b : Nat} {p d : Nat → Bool} {Q : Option Value → ax_W → Prop} (h_p : ∀ k, k < 40 → (p k = true ↔ ¬ r26 k = 0)) (h_d : ∀ k, k < 40 → (d k = true ↔ r26 k = 2)) : ∀ (n i : Nat) (s : BS), i + n = 80 → JS i s → Ab M_X8_fewestTo Q (0, 0) 127 [(2, .int a2), (1, .int a1), (0, .ref 25)] [] ([x0, x1, x2, x3, x4, x5, x6, x7, x8, x9, x10, x11, x12, x13, x14, x15, x16, x17, x18, x19, x20, x21, x22, x23, x24, ob 7 [.ref 26, .ref 27, .ref 28, .int (nI (itr (bsS p d) n i s).2.2), .int f25_4, .int (nI a), .int (nI b), .int f25_7], ia 40 r26, ia 80 (ovl (itr (bsS p d) n i s).1 80 r27), ia 80 (putA r28 (itr (bsS p d) n i s).2.1 (itr (bsS p d) n i s).2.2), x29, x30, x31, x32], wm) → Ab M_X8_fewestTo Q (0, 0) 29 [(3, .int (nI i)), (2, .int a2), (1, .int a1), (0, .ref 25)] [] ([x0, x1, x2, x3, x4, x5, x6, x7, x8, x9, x10, x11, x12, x13, x14, x15, x16, x17, x18, x19, x20, x21, x22, x23, x24, ob 7 [.ref 26, .ref 27, .ref 28, .int (nI s.2.2), .int f25_4, .int (nI a), .int (nI b), .int f25_7], ia 40 r26, ia 80 (ovl s.1 80 r27), ia 80 (putA r28 s.2.1 s.2.2), x29, x30, x31, x32], wm) := by
  intro n
  induction n with
  | zero =>
    intro i s hi hJ hx
    have h80 := jS_80 hJ
    refine ab_iload_n dX8_fewestTo_29 rfl ?_
    refine ab_aload_n dX8_fewestTo_30 rfl ?_
    refine ab_getf dX8_fewestTo_31 fl_X8_23 rfl rfl ?_
    refine ab_icmpge 127 dX8_fewestTo_34 (by decide) (fun h_1 => ?_) (fun h_1 => absurd (nI_le (by omega) (by omega)) h_1)
    rw [bs_stop _ _ _ (by omega)] at hx
    refine ab_pick [1, 2, 3] rfl ?_
    exact hx
  | succ n ih =>
    intro i s hi hJ hx
    have h80 := jS_80 hJ
    by_cases hlt : i < s.2.2
    case neg =>
      refine ab_iload_n dX8_fewestTo_29 rfl ?_
      refine ab_aload_n dX8_fewestTo_30 rfl ?_
      refine ab_getf dX8_fewestTo_31 fl_X8_23 rfl rfl ?_
      refine ab_icmpge 127 dX8_fewestTo_34 (by decide) (fun h_1 => ?_) (fun h_1 => absurd (nI_le (by omega) (by omega)) h_1)
      rw [bs_stop _ _ _ (by omega)] at hx
      refine ab_pick [1, 2, 3] rfl ?_
      exact hx
    obtain ⟨pl, hpl⟩ : ∃ pl, pl = s.2.1 i := ⟨_, rfl⟩
    have hp8 : pl < 80 := by rw [hpl]; exact (hJ.2.1 i hlt).1
    have hv := jS_v hJ hlt
    rw [← hpl] at hv
    have hnx := nx_lt (a := pl / 2) (by omega)
    have hpv := pv_lt (a := pl / 2) (by omega)
    have hJ0 := jS_le hJ (show i ≤ i + 1 by omega)
    have hJ1 := jS_mt (law := p) (pl := 2 * nx (pl / 2) + pl % 2) hJ0 (by omega) (by omega) hv
    have hJ2 := jS_mt (law := p) (pl := 2 * pv (pl / 2) + pl % 2) hJ1 (by omega) (by omega) hv
    have hJ3 := jS_mt (law := p) (pl := 2 * (pl / 2) + (1 - pl % 2)) hJ2 (by omega) (by omega) hv
    refine ab_iload_n dX8_fewestTo_29 rfl ?_
    refine ab_aload_n dX8_fewestTo_30 rfl ?_
    refine ab_getf dX8_fewestTo_31 fl_X8_23 rfl rfl ?_
    refine ab_icmpge 127 dX8_fewestTo_34 (by decide) (fun h_1 => absurd h_1 (nI_ge (by omega) (by omega))) (fun h_1 => ?_)
    refine ab_aload_n dX8_fewestTo_37 rfl ?_
    refine ab_getf dX8_fewestTo_38 fl_X8_20 rfl rfl ?_
    refine ab_iload_n dX8_fewestTo_41 rfl ?_
    refine ab_iald (j := i) dX8_fewestTo_42 rfl (ix_nI (by omega) (by decide)) ?_
    refine ab_topi (v := (nI pl)) (by rw [putA_lt (by omega), hpl]) ?_
    refine ab_iconst (v := 2) dX8_fewestTo_43 (by decide) ?_
    refine ab_idiv dX8_fewestTo_44 (by decide) ?_
    refine ab_topi (v := (nI (pl / 2))) (pk_div (d := 2) (by omega) (by decide) (by decide)) ?_
    refine ab_istore (la' := [(4, .int (nI (pl / 2))), (3, .int (nI i)), (2, .int a2), (1, .int a1), (0, .ref 25)]) dX8_fewestTo_45 (by decide) rfl ?_
    refine ab_aload_n dX8_fewestTo_47 rfl ?_
    refine ab_getf dX8_fewestTo_48 fl_X8_20 rfl rfl ?_
    refine ab_iload_n dX8_fewestTo_51 rfl ?_
    refine ab_iald (j := i) dX8_fewestTo_52 rfl (ix_nI (by omega) (by decide)) ?_
    refine ab_topi (v := (nI pl)) (by rw [putA_lt (by omega), hpl]) ?_
    refine ab_iconst (v := 2) dX8_fewestTo_53 (by decide) ?_
    refine ab_irem dX8_fewestTo_54 (by decide) ?_
    refine ab_topi (v := (nI (pl % 2))) (pk_rem (d := 2) (by omega) (by decide) (by decide)) ?_
    refine ab_istore (la' := [(5, .int (nI (pl % 2))), (4, .int (nI (pl / 2))), (3, .int (nI i)), (2, .int a2), (1, .int a1), (0, .ref 25)]) dX8_fewestTo_55 (by decide) rfl ?_
    refine ab_aload_n dX8_fewestTo_57 rfl ?_
    refine ab_getf dX8_fewestTo_58 fl_X8_17 rfl rfl ?_
    refine ab_aload_n dX8_fewestTo_61 rfl ?_
    refine ab_getf dX8_fewestTo_62 fl_X8_20 rfl rfl ?_
    refine ab_iload_n dX8_fewestTo_65 rfl ?_
    refine ab_iald (j := i) dX8_fewestTo_66 rfl (ix_nI (by omega) (by decide)) ?_
    refine ab_topi (v := (nI pl)) (by rw [putA_lt (by omega), hpl]) ?_
    refine ab_iald (j := pl) dX8_fewestTo_67 rfl (ix_nI (by omega) (by decide)) ?_
    refine ab_topi (v := (s.1 pl)) (ovl_lt (by omega)) ?_
    refine ab_iconst (v := 1) dX8_fewestTo_68 (by decide) ?_
    refine ab_iadd dX8_fewestTo_69 ?_
    refine ab_istore (la' := [(6, .int ((s.1 pl) + 1)), (5, .int (nI (pl % 2))), (4, .int (nI (pl / 2))), (3, .int (nI i)), (2, .int a2), (1, .int a1), (0, .ref 25)]) dX8_fewestTo_70 (by decide) rfl ?_
    refine ab_aload_n dX8_fewestTo_72 rfl ?_
    refine ab_iload dX8_fewestTo_73 rfl ?_
    refine ab_callS (As := [.int (nI (pl / 2))]) (rest := [.ref 25]) dX8_fewestTo_75 ms_X7_behind ml_X8_47 ⟨by decide, by decide, rfl, rfl, rfl⟩ (by decide) rfl rfl (Nat.le_of_ble_eq_true rfl) c_X7_behind_t ?_
    rintro r w' ⟨rfl, rfl⟩
    refine ab_topi (v := (nI (nx (pl / 2)))) (tn_next_nI (by omega)) ?_
    refine ab_iload dX8_fewestTo_78 rfl ?_
    refine ab_iload dX8_fewestTo_80 rfl ?_
    refine ab_callV (As := [.int (nI (nx (pl / 2))), .int (nI (pl % 2)), .int ((s.1 pl) + 1)]) (rest := []) dX8_fewestTo_82 mv_X8_reach ml_X8_58 ⟨by decide, by decide, rfl, rfl, rfl⟩ (by decide) rfl rfl (Nat.le_of_ble_eq_true rfl) rfl (c_X8_reach (S := s) (k := (nx (pl / 2))) (e := (pl % 2)) (r27 := r27) (r28 := r28) (p := p) h_p (by omega) (by omega) (jS_lt hJ0 (by omega))) ?_
    rintro r w' ⟨rfl, rfl⟩
    refine ab_aload_n dX8_fewestTo_85 rfl ?_
    refine ab_iload dX8_fewestTo_86 rfl ?_
    refine ab_callS (As := [.int (nI (pl / 2))]) (rest := [.ref 25]) dX8_fewestTo_88 ms_X7_ahead ml_X8_43 ⟨by decide, by decide, rfl, rfl, rfl⟩ (by decide) rfl rfl (Nat.le_of_ble_eq_true rfl) c_X7_ahead_t ?_
    rintro r w' ⟨rfl, rfl⟩
    refine ab_topi (v := (nI (pv (pl / 2)))) (tn_prev_nI (by omega)) ?_
    refine ab_iload dX8_fewestTo_91 rfl ?_
    refine ab_iload dX8_fewestTo_93 rfl ?_
    refine ab_callV (As := [.int (nI (pv (pl / 2))), .int (nI (pl % 2)), .int ((s.1 pl) + 1)]) (rest := []) dX8_fewestTo_95 mv_X8_reach ml_X8_58 ⟨by decide, by decide, rfl, rfl, rfl⟩ (by decide) rfl rfl (Nat.le_of_ble_eq_true rfl) rfl (c_X8_reach (S := (mtS p (2 * (nx (pl / 2)) + (pl % 2)) ((s.1 pl) + 1) s)) (k := (pv (pl / 2))) (e := (pl % 2)) (r27 := r27) (r28 := r28) (p := p) h_p (by omega) (by omega) (jS_lt hJ1 (by omega))) ?_
    rintro r w' ⟨rfl, rfl⟩
    refine ab_aload_n dX8_fewestTo_98 rfl ?_
    refine ab_getf dX8_fewestTo_99 fl_X8_11 rfl rfl ?_
    refine ab_iload dX8_fewestTo_102 rfl ?_
    refine ab_iald (j := (pl / 2)) dX8_fewestTo_104 rfl (ix_nI (by omega) (by decide)) ?_
    refine ab_iconst (v := 2) dX8_fewestTo_105 (by decide) ?_
    refine ab_icmpne 121 dX8_fewestTo_106 (by decide) (fun h_2 => ?_) (fun h_2 => ?_)
    · refine ab_iinc (v := (nI (i + 1))) (la' := [(3, .int (nI (i + 1))), (6, .int ((s.1 pl) + 1)), (5, .int (nI (pl % 2))), (4, .int (nI (pl / 2))), (2, .int a2), (1, .int a1), (0, .ref 25)]) dX8_fewestTo_121 rfl (nI_1 _) (by decide) rfl ?_
      refine ab_goto 29 dX8_fewestTo_124 (by decide) ?_
      have e : bsS p d i s = (mtS p (2 * (pv (pl / 2)) + (pl % 2)) ((s.1 pl) + 1) (mtS p (2 * (nx (pl / 2)) + (pl % 2)) ((s.1 pl) + 1) s)) := by unfold bsS; rw [if_pos hlt, ← hpl]; unfold bsB; rw [if_neg (fun z => h_2 ((h_d _ (by omega)).mp z))]
      rw [itr_s, e] at hx
      refine ab_pick [0, 4, 5, 6] rfl ?_
      exact ih (i + 1) (mtS p (2 * (pv (pl / 2)) + (pl % 2)) ((s.1 pl) + 1) (mtS p (2 * (nx (pl / 2)) + (pl % 2)) ((s.1 pl) + 1) s)) (by omega) hJ2 hx
    · refine ab_aload_n dX8_fewestTo_109 rfl ?_
      refine ab_iload dX8_fewestTo_110 rfl ?_
      refine ab_iconst (v := 1) dX8_fewestTo_112 (by decide) ?_
      refine ab_iload dX8_fewestTo_113 rfl ?_
      refine ab_isub dX8_fewestTo_115 ?_
      refine ab_topi (v := (nI (1 - (pl % 2)))) (pk_sub (a := 1) (by omega)) ?_
      refine ab_iload dX8_fewestTo_116 rfl ?_
      refine ab_callV (As := [.int (nI (pl / 2)), .int (nI (1 - (pl % 2))), .int ((s.1 pl) + 1)]) (rest := []) dX8_fewestTo_118 mv_X8_reach ml_X8_58 ⟨by decide, by decide, rfl, rfl, rfl⟩ (by decide) rfl rfl (Nat.le_of_ble_eq_true rfl) rfl (c_X8_reach (S := (mtS p (2 * (pv (pl / 2)) + (pl % 2)) ((s.1 pl) + 1) (mtS p (2 * (nx (pl / 2)) + (pl % 2)) ((s.1 pl) + 1) s))) (k := (pl / 2)) (e := (1 - (pl % 2))) (r27 := r27) (r28 := r28) (p := p) h_p (by omega) (by omega) (jS_lt hJ2 (by omega))) ?_
      rintro r w' ⟨rfl, rfl⟩
      refine ab_iinc (v := (nI (i + 1))) (la' := [(3, .int (nI (i + 1))), (6, .int ((s.1 pl) + 1)), (5, .int (nI (pl % 2))), (4, .int (nI (pl / 2))), (2, .int a2), (1, .int a1), (0, .ref 25)]) dX8_fewestTo_121 rfl (nI_1 _) (by decide) rfl ?_
      refine ab_goto 29 dX8_fewestTo_124 (by decide) ?_
      have e : bsS p d i s = (mtS p (2 * (pl / 2) + (1 - (pl % 2))) ((s.1 pl) + 1) (mtS p (2 * (pv (pl / 2)) + (pl % 2)) ((s.1 pl) + 1) (mtS p (2 * (nx (pl / 2)) + (pl % 2)) ((s.1 pl) + 1) s))) := by unfold bsS; rw [if_pos hlt, ← hpl]; unfold bsB; rw [if_pos ((h_d _ (by omega)).mpr h_2), show pl / 2 * 2 + 1 - pl % 2 = 2 * (pl / 2) + (1 - pl % 2) by omega]
      rw [itr_s, e] at hx
      refine ab_pick [0, 4, 5, 6] rfl ?_
      exact ih (i + 1) (mtS p (2 * (pl / 2) + (1 - (pl % 2))) ((s.1 pl) + 1) (mtS p (2 * (pv (pl / 2)) + (pl % 2)) ((s.1 pl) + 1) (mtS p (2 * (nx (pl / 2)) + (pl % 2)) ((s.1 pl) + 1) s))) (by omega) hJ3 hx
theorem fill_c (q : Nat → Int32) : ovl bs0.1 80 q = ovl (fun _ => -2) 80 q := rfl
theorem c_X8_fewestTo_0 {x0 x1 x2 x3 x4 x5 x6 x7 x8 x9 x10 x11 x12 x13 x14 x15 x16 x17 x18 x19 x20 x21 x22 x23 x24 x29 x30 x31 x32 : ax_E} {f25_3 f25_4 f25_7 : Int32} {r26 r27 r28 : Nat → Int32} {wm : List ax_E} {a b j : Nat} {p d : Nat → Bool} (h_p : ∀ k, k < 40 → (p k = true ↔ ¬ r26 k = 0)) (h_d : ∀ k, k < 40 → (d k = true ↔ r26 k = 2)) (ha : a < 40) (hb : b < 2) (hj : j < 40) (h_j : 0 ≤ (nI j) ∧ (nI j) < 40) : Ct M_X8_fewestTo [.ref 25, .int (nI j), .int 0] ([x0, x1, x2, x3, x4, x5, x6, x7, x8, x9, x10, x11, x12, x13, x14, x15, x16, x17, x18, x19, x20, x21, x22, x23, x24, ob 7 [.ref 26, .ref 27, .ref 28, .int f25_3, .int f25_4, .int (nI a), .int (nI b), .int f25_7], ia 40 r26, ia 80 r27, ia 80 r28, x29, x30, x31, x32], wm) (fun r w' => r = some (.int ((bsW p d a b).1 (2 * j + 0))) ∧ w' = ([x0, x1, x2, x3, x4, x5, x6, x7, x8, x9, x10, x11, x12, x13, x14, x15, x16, x17, x18, x19, x20, x21, x22, x23, x24, ob 7 [.ref 26, .ref 27, .ref 28, .int (nI (bsW p d a b).2.2), .int f25_4, .int (nI a), .int (nI b), .int f25_7], ia 40 r26, ia 80 (ovl (bsW p d a b).1 80 r27), ia 80 (putA r28 (bsW p d a b).2.1 (bsW p d a b).2.2), x29, x30, x31, x32], wm)) := by
  refine ct_of ⟨by decide, rfl⟩ (Nat.le_of_ble_eq_true rfl) ?_
  refine ab_aload_n dX8_fewestTo_0 rfl ?_
  refine ab_getf dX8_fewestTo_1 fl_X8_17 rfl rfl ?_
  refine ab_bipush (v := -2) dX8_fewestTo_4 (by decide) ?_
  refine ab_callS (As := [.ref 27, .int (-2)]) (rest := []) dX8_fewestTo_6 ms_J7_fill_53178 ml_X8_52 ⟨by decide, by decide, rfl, rfl, rfl⟩ (by decide) rfl rfl (Nat.le_of_ble_eq_true rfl) c_fill_m ?_
  rintro r w' ⟨rfl, rfl⟩
  refine ab_aload_n dX8_fewestTo_9 rfl ?_
  refine ab_iconst (v := 0) dX8_fewestTo_10 (by decide) ?_
  refine ab_putf (w1 := ([x0, x1, x2, x3, x4, x5, x6, x7, x8, x9, x10, x11, x12, x13, x14, x15, x16, x17, x18, x19, x20, x21, x22, x23, x24, ob 7 [.ref 26, .ref 27, .ref 28, .int 0, .int f25_4, .int (nI a), .int (nI b), .int f25_7], ia 40 r26, ia 80 (ovl (fun _ => (-2)) 80 r27), ia 80 r28, x29, x30, x31, x32], wm)) dX8_fewestTo_11 fl_X8_23 rfl (Nat.le_of_ble_eq_true rfl) (fun _ => ⟨rfl, rfl⟩) rfl ?_
  refine ab_world ([x0, x1, x2, x3, x4, x5, x6, x7, x8, x9, x10, x11, x12, x13, x14, x15, x16, x17, x18, x19, x20, x21, x22, x23, x24, ob 7 [.ref 26, .ref 27, .ref 28, .int (nI bs0.2.2), .int f25_4, .int (nI a), .int (nI b), .int f25_7], ia 40 r26, ia 80 (ovl bs0.1 80 r27), ia 80 (putA r28 bs0.2.1 bs0.2.2), x29, x30, x31, x32], wm) (by rw [putA_b0]; rfl) ?_
  refine ab_aload_n dX8_fewestTo_14 rfl ?_
  refine ab_aload_n dX8_fewestTo_15 rfl ?_
  refine ab_getf dX8_fewestTo_16 fl_X8_30 rfl rfl ?_
  refine ab_aload_n dX8_fewestTo_19 rfl ?_
  refine ab_getf dX8_fewestTo_20 fl_X8_33 rfl rfl ?_
  refine ab_iconst (v := 0) dX8_fewestTo_23 (by decide) ?_
  refine ab_callV (As := [.int (nI a), .int (nI b), .int 0]) (rest := []) dX8_fewestTo_24 mv_X8_reach ml_X8_58 ⟨by decide, by decide, rfl, rfl, rfl⟩ (by decide) rfl rfl (Nat.le_of_ble_eq_true rfl) rfl (c_X8_reach (S := bs0) (k := a) (e := b) (r27 := r27) (r28 := r28) (p := p) h_p (by omega) (by omega) (jS_lt jS_0 (by omega))) ?_
  rintro r w' ⟨rfl, rfl⟩
  refine ab_iconst (v := 0) dX8_fewestTo_27 (by decide) ?_
  refine ab_istore_n (la' := [(3, .int 0), (0, .ref 25), (1, .int (nI j)), (2, .int 0)]) dX8_fewestTo_28 (by decide) rfl ?_
  refine ab_pick [0, 3, 2, 1] rfl ?_
  refine lp_few (p := p) (d := d) (r27 := r27) (r28 := r28) h_p h_d 80 0 (mtS p (2 * a + b) 0 bs0) (by omega) (jS_mt jS_0 (by omega) (by decide) ⟨0, Nat.le_refl 0, rfl⟩) ?_
  refine ab_world ([x0, x1, x2, x3, x4, x5, x6, x7, x8, x9, x10, x11, x12, x13, x14, x15, x16, x17, x18, x19, x20, x21, x22, x23, x24, ob 7 [.ref 26, .ref 27, .ref 28, .int (nI (bsW p d a b).2.2), .int f25_4, .int (nI a), .int (nI b), .int f25_7], ia 40 r26, ia 80 (ovl (bsW p d a b).1 80 r27), ia 80 (putA r28 (bsW p d a b).2.1 (bsW p d a b).2.2), x29, x30, x31, x32], wm) rfl ?_
  refine ab_iload_n dX8_fewestTo_127 rfl ?_
  refine ab_callS (As := [.int (nI j)]) (rest := []) dX8_fewestTo_128 ms_X7_has ml_X8_39 ⟨by decide, by decide, rfl, rfl, rfl⟩ (by decide) rfl rfl (Nat.le_of_ble_eq_true rfl) c_X7_has ?_
  rintro r w' (⟨c_1, rfl, rfl⟩ | ⟨c_2, rfl, rfl⟩)
  · refine ab_ifeq 155 dX8_fewestTo_131 (by decide) (fun h_3 => absurd h_3 (by decide)) (fun h_3 => ?_)
    refine ab_aload_n dX8_fewestTo_134 rfl ?_
    refine ab_getf dX8_fewestTo_135 fl_X8_17 rfl rfl ?_
    refine ab_iconst (v := 2) dX8_fewestTo_138 (by decide) ?_
    refine ab_iload_n dX8_fewestTo_139 rfl ?_
    refine ab_imul dX8_fewestTo_140 ?_
    refine ab_topi (v := (nI (2 * j))) (pk_mul 2 _) ?_
    refine ab_iload_n dX8_fewestTo_141 rfl ?_
    refine ab_ifne 149 dX8_fewestTo_142 (by decide) (fun h_4 => absurd (by decide) h_4) (fun h_4 => ?_)
    refine ab_iconst (v := 0) dX8_fewestTo_145 (by decide) ?_
    refine ab_goto 150 dX8_fewestTo_146 (by decide) ?_
    refine ab_iadd dX8_fewestTo_150 ?_
    refine ab_topi (v := (nI (2 * j))) (Int32.add_zero _) ?_
    refine ab_iald (j := (2 * j)) dX8_fewestTo_151 rfl (ix_nI (by omega) (by decide)) ?_
    refine ab_topi (v := ((bsW p d a b).1 (2 * j + 0))) (ovl_lt (by omega)) ?_
    refine ab_goto 157 dX8_fewestTo_152 (by decide) ?_
    exact ab_iret dX8_fewestTo_157 rfl (by decide) (⟨rfl, rfl⟩)
  · exact absurd h_j c_2
theorem c_X8_fewestTo_1 {x0 x1 x2 x3 x4 x5 x6 x7 x8 x9 x10 x11 x12 x13 x14 x15 x16 x17 x18 x19 x20 x21 x22 x23 x24 x29 x30 x31 x32 : ax_E} {f25_3 f25_4 f25_7 : Int32} {r26 r27 r28 : Nat → Int32} {wm : List ax_E} {a b j : Nat} {p d : Nat → Bool} (h_p : ∀ k, k < 40 → (p k = true ↔ ¬ r26 k = 0)) (h_d : ∀ k, k < 40 → (d k = true ↔ r26 k = 2)) (ha : a < 40) (hb : b < 2) (hj : j < 40) (h_j : 0 ≤ (nI j) ∧ (nI j) < 40) : Ct M_X8_fewestTo [.ref 25, .int (nI j), .int 1] ([x0, x1, x2, x3, x4, x5, x6, x7, x8, x9, x10, x11, x12, x13, x14, x15, x16, x17, x18, x19, x20, x21, x22, x23, x24, ob 7 [.ref 26, .ref 27, .ref 28, .int f25_3, .int f25_4, .int (nI a), .int (nI b), .int f25_7], ia 40 r26, ia 80 r27, ia 80 r28, x29, x30, x31, x32], wm) (fun r w' => r = some (.int ((bsW p d a b).1 (2 * j + 1))) ∧ w' = ([x0, x1, x2, x3, x4, x5, x6, x7, x8, x9, x10, x11, x12, x13, x14, x15, x16, x17, x18, x19, x20, x21, x22, x23, x24, ob 7 [.ref 26, .ref 27, .ref 28, .int (nI (bsW p d a b).2.2), .int f25_4, .int (nI a), .int (nI b), .int f25_7], ia 40 r26, ia 80 (ovl (bsW p d a b).1 80 r27), ia 80 (putA r28 (bsW p d a b).2.1 (bsW p d a b).2.2), x29, x30, x31, x32], wm)) := by
  refine ct_of ⟨by decide, rfl⟩ (Nat.le_of_ble_eq_true rfl) ?_
  refine ab_aload_n dX8_fewestTo_0 rfl ?_
  refine ab_getf dX8_fewestTo_1 fl_X8_17 rfl rfl ?_
  refine ab_bipush (v := -2) dX8_fewestTo_4 (by decide) ?_
  refine ab_callS (As := [.ref 27, .int (-2)]) (rest := []) dX8_fewestTo_6 ms_J7_fill_53178 ml_X8_52 ⟨by decide, by decide, rfl, rfl, rfl⟩ (by decide) rfl rfl (Nat.le_of_ble_eq_true rfl) c_fill_m ?_
  rintro r w' ⟨rfl, rfl⟩
  refine ab_aload_n dX8_fewestTo_9 rfl ?_
  refine ab_iconst (v := 0) dX8_fewestTo_10 (by decide) ?_
  refine ab_putf (w1 := ([x0, x1, x2, x3, x4, x5, x6, x7, x8, x9, x10, x11, x12, x13, x14, x15, x16, x17, x18, x19, x20, x21, x22, x23, x24, ob 7 [.ref 26, .ref 27, .ref 28, .int 0, .int f25_4, .int (nI a), .int (nI b), .int f25_7], ia 40 r26, ia 80 (ovl (fun _ => (-2)) 80 r27), ia 80 r28, x29, x30, x31, x32], wm)) dX8_fewestTo_11 fl_X8_23 rfl (Nat.le_of_ble_eq_true rfl) (fun _ => ⟨rfl, rfl⟩) rfl ?_
  refine ab_world ([x0, x1, x2, x3, x4, x5, x6, x7, x8, x9, x10, x11, x12, x13, x14, x15, x16, x17, x18, x19, x20, x21, x22, x23, x24, ob 7 [.ref 26, .ref 27, .ref 28, .int (nI bs0.2.2), .int f25_4, .int (nI a), .int (nI b), .int f25_7], ia 40 r26, ia 80 (ovl bs0.1 80 r27), ia 80 (putA r28 bs0.2.1 bs0.2.2), x29, x30, x31, x32], wm) (by rw [putA_b0]; rfl) ?_
  refine ab_aload_n dX8_fewestTo_14 rfl ?_
  refine ab_aload_n dX8_fewestTo_15 rfl ?_
  refine ab_getf dX8_fewestTo_16 fl_X8_30 rfl rfl ?_
  refine ab_aload_n dX8_fewestTo_19 rfl ?_
  refine ab_getf dX8_fewestTo_20 fl_X8_33 rfl rfl ?_
  refine ab_iconst (v := 0) dX8_fewestTo_23 (by decide) ?_
  refine ab_callV (As := [.int (nI a), .int (nI b), .int 0]) (rest := []) dX8_fewestTo_24 mv_X8_reach ml_X8_58 ⟨by decide, by decide, rfl, rfl, rfl⟩ (by decide) rfl rfl (Nat.le_of_ble_eq_true rfl) rfl (c_X8_reach (S := bs0) (k := a) (e := b) (r27 := r27) (r28 := r28) (p := p) h_p (by omega) (by omega) (jS_lt jS_0 (by omega))) ?_
  rintro r w' ⟨rfl, rfl⟩
  refine ab_iconst (v := 0) dX8_fewestTo_27 (by decide) ?_
  refine ab_istore_n (la' := [(3, .int 0), (0, .ref 25), (1, .int (nI j)), (2, .int 1)]) dX8_fewestTo_28 (by decide) rfl ?_
  refine ab_pick [0, 3, 2, 1] rfl ?_
  refine lp_few (p := p) (d := d) (r27 := r27) (r28 := r28) h_p h_d 80 0 (mtS p (2 * a + b) 0 bs0) (by omega) (jS_mt jS_0 (by omega) (by decide) ⟨0, Nat.le_refl 0, rfl⟩) ?_
  refine ab_world ([x0, x1, x2, x3, x4, x5, x6, x7, x8, x9, x10, x11, x12, x13, x14, x15, x16, x17, x18, x19, x20, x21, x22, x23, x24, ob 7 [.ref 26, .ref 27, .ref 28, .int (nI (bsW p d a b).2.2), .int f25_4, .int (nI a), .int (nI b), .int f25_7], ia 40 r26, ia 80 (ovl (bsW p d a b).1 80 r27), ia 80 (putA r28 (bsW p d a b).2.1 (bsW p d a b).2.2), x29, x30, x31, x32], wm) rfl ?_
  refine ab_iload_n dX8_fewestTo_127 rfl ?_
  refine ab_callS (As := [.int (nI j)]) (rest := []) dX8_fewestTo_128 ms_X7_has ml_X8_39 ⟨by decide, by decide, rfl, rfl, rfl⟩ (by decide) rfl rfl (Nat.le_of_ble_eq_true rfl) c_X7_has ?_
  rintro r w' (⟨c_1, rfl, rfl⟩ | ⟨c_2, rfl, rfl⟩)
  · refine ab_ifeq 155 dX8_fewestTo_131 (by decide) (fun h_3 => absurd h_3 (by decide)) (fun h_3 => ?_)
    refine ab_aload_n dX8_fewestTo_134 rfl ?_
    refine ab_getf dX8_fewestTo_135 fl_X8_17 rfl rfl ?_
    refine ab_iconst (v := 2) dX8_fewestTo_138 (by decide) ?_
    refine ab_iload_n dX8_fewestTo_139 rfl ?_
    refine ab_imul dX8_fewestTo_140 ?_
    refine ab_topi (v := (nI (2 * j))) (pk_mul 2 _) ?_
    refine ab_iload_n dX8_fewestTo_141 rfl ?_
    refine ab_ifne 149 dX8_fewestTo_142 (by decide) (fun h_4 => ?_) (fun h_4 => absurd h_4 (by decide))
    refine ab_iconst (v := 1) dX8_fewestTo_149 (by decide) ?_
    refine ab_iadd dX8_fewestTo_150 ?_
    refine ab_topi (v := (nI ((2 * j) + 1))) (nI_1 _) ?_
    refine ab_iald (j := ((2 * j) + 1)) dX8_fewestTo_151 rfl (ix_nI (by omega) (by decide)) ?_
    refine ab_topi (v := ((bsW p d a b).1 (2 * j + 1))) (ovl_lt (by omega)) ?_
    refine ab_goto 157 dX8_fewestTo_152 (by decide) ?_
    exact ab_iret dX8_fewestTo_157 rfl (by decide) (⟨rfl, rfl⟩)
  · exact absurd h_j c_2
theorem c_X10_away_0 {f0_0 f25_3 f25_4 f25_7 : Int32} {x1 x2 x3 x4 x5 x6 x7 x8 x9 x10 x11 x12 x13 x14 x15 x16 x17 x18 x19 x20 x21 x22 x23 x24 x29 x30 x31 x32 : ax_E} {r26 r27 r28 : Nat → Int32} {wm : List ax_E} {a b j : Nat} {p d : Nat → Bool} (h_p : ∀ k, k < 40 → (p k = true ↔ ¬ r26 k = 0)) (h_d : ∀ k, k < 40 → (d k = true ↔ r26 k = 2)) (ha : a < 40) (hb : b < 2) (hj : j < 40) (h_j : 0 ≤ (nI j) ∧ (nI j) < 40) : Ct M_X10_away [.ref 0, .int (nI j), .int 0] ([ob 8 [.int f0_0, .ref 1, .ref 4, .ref 7, .ref 10, .ref 11, .ref 12, .ref 18, .ref 25, .ref 29], x1, x2, x3, x4, x5, x6, x7, x8, x9, x10, x11, x12, x13, x14, x15, x16, x17, x18, x19, x20, x21, x22, x23, x24, ob 7 [.ref 26, .ref 27, .ref 28, .int f25_3, .int f25_4, .int (nI a), .int (nI b), .int f25_7], ia 40 r26, ia 80 r27, ia 80 r28, x29, x30, x31, x32], wm) (fun r w' => ((¬ f25_4 = -1) ∧ r = some (.int ((bsW p d a b).1 (2 * j + 0))) ∧ w' = ([ob 8 [.int 0, .ref 1, .ref 4, .ref 7, .ref 10, .ref 11, .ref 12, .ref 18, .ref 25, .ref 29], x1, x2, x3, x4, x5, x6, x7, x8, x9, x10, x11, x12, x13, x14, x15, x16, x17, x18, x19, x20, x21, x22, x23, x24, ob 7 [.ref 26, .ref 27, .ref 28, .int (nI (bsW p d a b).2.2), .int f25_4, .int (nI a), .int (nI b), .int f25_7], ia 40 r26, ia 80 (ovl (bsW p d a b).1 80 r27), ia 80 (putA r28 (bsW p d a b).2.1 (bsW p d a b).2.2), x29, x30, x31, x32], wm)) ∨ ((¬ (¬ f25_4 = -1)) ∧ r = some (.int (-1)) ∧ w' = ([ob 8 [.int 5, .ref 1, .ref 4, .ref 7, .ref 10, .ref 11, .ref 12, .ref 18, .ref 25, .ref 29], x1, x2, x3, x4, x5, x6, x7, x8, x9, x10, x11, x12, x13, x14, x15, x16, x17, x18, x19, x20, x21, x22, x23, x24, ob 7 [.ref 26, .ref 27, .ref 28, .int f25_3, .int f25_4, .int (nI a), .int (nI b), .int f25_7], ia 40 r26, ia 80 r27, ia 80 r28, x29, x30, x31, x32], wm))) := by
  refine ct_of ⟨by decide, rfl⟩ (Nat.le_of_ble_eq_true rfl) ?_
  refine ab_aload_n dX10_away_0 rfl ?_
  refine ab_aload_n dX10_away_1 rfl ?_
  refine ab_getf dX10_away_2 fl_X10_61 rfl rfl ?_
  refine ab_callV (As := []) (rest := [.ref 0]) dX10_away_5 mv_X8_isOn ml_X10_348 ⟨by decide, by decide, rfl, rfl, rfl⟩ (by decide) rfl rfl (Nat.le_of_ble_eq_true rfl) rfl c_X8_isOn ?_
  rintro r w' (⟨c_1, rfl, rfl⟩ | ⟨c_2, rfl, rfl⟩)
  · refine ab_iconst (v := 5) dX10_away_8 (by decide) ?_
    refine ab_callV (As := [.int 1, .int 5]) (rest := []) dX10_away_9 mv_X10_refused ml_X10_84 ⟨by decide, by decide, rfl, rfl, rfl⟩ (by decide) rfl rfl (Nat.le_of_ble_eq_true rfl) rfl c_X10_refused_1 ?_
    rintro r w' ⟨rfl, rfl⟩
    refine ab_ifeq 17 dX10_away_12 (by decide) (fun h_3 => ?_) (fun h_3 => absurd (by decide) h_3)
    refine ab_aload_n dX10_away_17 rfl ?_
    refine ab_iload_n dX10_away_18 rfl ?_
    refine ab_callS (As := [.int (nI j)]) (rest := [.ref 0]) dX10_away_19 ms_X7_has ml_X10_114 ⟨by decide, by decide, rfl, rfl, rfl⟩ (by decide) rfl rfl (Nat.le_of_ble_eq_true rfl) c_X7_has ?_
    rintro r w' (⟨c_4, rfl, rfl⟩ | ⟨c_5, rfl, rfl⟩)
    · refine ab_ifeq 37 dX10_away_22 (by decide) (fun h_6 => absurd h_6 (by decide)) (fun h_6 => ?_)
      refine ab_iload_n dX10_away_25 rfl ?_
      refine ab_iconst (v := 2) dX10_away_26 (by decide) ?_
      refine ab_callS (As := [.int 0, .int 2]) (rest := [.ref 0]) dX10_away_27 ms_X10_isOf ml_X10_118 ⟨by decide, by decide, rfl, rfl, rfl⟩ (by decide) rfl rfl (Nat.le_of_ble_eq_true rfl) c_X10_isOf ?_
      rintro r w' (⟨c_7, rfl, rfl⟩ | ⟨c_8, rfl, rfl⟩)
      · refine ab_ifeq 37 dX10_away_30 (by decide) (fun h_9 => absurd h_9 (by decide)) (fun h_9 => ?_)
        refine ab_iconst (v := 1) dX10_away_33 (by decide) ?_
        refine ab_goto 38 dX10_away_34 (by decide) ?_
        refine ab_iconst (v := 1) dX10_away_38 (by decide) ?_
        refine ab_callV (As := [.int 1, .int 1]) (rest := []) dX10_away_39 mv_X10_refused ml_X10_84 ⟨by decide, by decide, rfl, rfl, rfl⟩ (by decide) rfl rfl (Nat.le_of_ble_eq_true rfl) rfl c_X10_refused_1 ?_
        rintro r w' ⟨rfl, rfl⟩
        refine ab_ifeq 47 dX10_away_42 (by decide) (fun h_10 => ?_) (fun h_10 => absurd (by decide) h_10)
        refine ab_aload_n dX10_away_47 rfl ?_
        refine ab_getf dX10_away_48 fl_X10_61 rfl rfl ?_
        refine ab_iload_n dX10_away_51 rfl ?_
        refine ab_iload_n dX10_away_52 rfl ?_
        refine ab_callV (As := [.int (nI j), .int 0]) (rest := []) dX10_away_53 mv_X8_fewestTo ml_X10_365 ⟨by decide, by decide, rfl, rfl, rfl⟩ (by decide) rfl rfl (Nat.le_of_ble_eq_true rfl) rfl (c_X8_fewestTo_0 (a := a) (b := b) (j := j) (p := p) (d := d) h_p h_d ha hb hj h_j) ?_
        rintro r w' ⟨rfl, rfl⟩
        exact ab_iret dX10_away_56 rfl (by decide) (Or.inl ⟨c_1, rfl, rfl⟩)
      · exact absurd (by decide) c_8
    · exact absurd h_j c_5
  · refine ab_iconst (v := 5) dX10_away_8 (by decide) ?_
    refine ab_callV (As := [.int 0, .int 5]) (rest := []) dX10_away_9 mv_X10_refused ml_X10_84 ⟨by decide, by decide, rfl, rfl, rfl⟩ (by decide) rfl rfl (Nat.le_of_ble_eq_true rfl) rfl c_X10_refused_0 ?_
    rintro r w' ⟨rfl, rfl⟩
    refine ab_ifeq 17 dX10_away_12 (by decide) (fun h_11 => absurd h_11 (by decide)) (fun h_11 => ?_)
    refine ab_iconst (v := -1) dX10_away_15 (by decide) ?_
    exact ab_iret dX10_away_16 rfl (by decide) (Or.inr (⟨c_2, rfl, rfl⟩))
theorem c_X10_away_1 {f0_0 f25_3 f25_4 f25_7 : Int32} {x1 x2 x3 x4 x5 x6 x7 x8 x9 x10 x11 x12 x13 x14 x15 x16 x17 x18 x19 x20 x21 x22 x23 x24 x29 x30 x31 x32 : ax_E} {r26 r27 r28 : Nat → Int32} {wm : List ax_E} {a b j : Nat} {p d : Nat → Bool} (h_p : ∀ k, k < 40 → (p k = true ↔ ¬ r26 k = 0)) (h_d : ∀ k, k < 40 → (d k = true ↔ r26 k = 2)) (ha : a < 40) (hb : b < 2) (hj : j < 40) (h_j : 0 ≤ (nI j) ∧ (nI j) < 40) : Ct M_X10_away [.ref 0, .int (nI j), .int 1] ([ob 8 [.int f0_0, .ref 1, .ref 4, .ref 7, .ref 10, .ref 11, .ref 12, .ref 18, .ref 25, .ref 29], x1, x2, x3, x4, x5, x6, x7, x8, x9, x10, x11, x12, x13, x14, x15, x16, x17, x18, x19, x20, x21, x22, x23, x24, ob 7 [.ref 26, .ref 27, .ref 28, .int f25_3, .int f25_4, .int (nI a), .int (nI b), .int f25_7], ia 40 r26, ia 80 r27, ia 80 r28, x29, x30, x31, x32], wm) (fun r w' => ((¬ f25_4 = -1) ∧ r = some (.int ((bsW p d a b).1 (2 * j + 1))) ∧ w' = ([ob 8 [.int 0, .ref 1, .ref 4, .ref 7, .ref 10, .ref 11, .ref 12, .ref 18, .ref 25, .ref 29], x1, x2, x3, x4, x5, x6, x7, x8, x9, x10, x11, x12, x13, x14, x15, x16, x17, x18, x19, x20, x21, x22, x23, x24, ob 7 [.ref 26, .ref 27, .ref 28, .int (nI (bsW p d a b).2.2), .int f25_4, .int (nI a), .int (nI b), .int f25_7], ia 40 r26, ia 80 (ovl (bsW p d a b).1 80 r27), ia 80 (putA r28 (bsW p d a b).2.1 (bsW p d a b).2.2), x29, x30, x31, x32], wm)) ∨ ((¬ (¬ f25_4 = -1)) ∧ r = some (.int (-1)) ∧ w' = ([ob 8 [.int 5, .ref 1, .ref 4, .ref 7, .ref 10, .ref 11, .ref 12, .ref 18, .ref 25, .ref 29], x1, x2, x3, x4, x5, x6, x7, x8, x9, x10, x11, x12, x13, x14, x15, x16, x17, x18, x19, x20, x21, x22, x23, x24, ob 7 [.ref 26, .ref 27, .ref 28, .int f25_3, .int f25_4, .int (nI a), .int (nI b), .int f25_7], ia 40 r26, ia 80 r27, ia 80 r28, x29, x30, x31, x32], wm))) := by
  refine ct_of ⟨by decide, rfl⟩ (Nat.le_of_ble_eq_true rfl) ?_
  refine ab_aload_n dX10_away_0 rfl ?_
  refine ab_aload_n dX10_away_1 rfl ?_
  refine ab_getf dX10_away_2 fl_X10_61 rfl rfl ?_
  refine ab_callV (As := []) (rest := [.ref 0]) dX10_away_5 mv_X8_isOn ml_X10_348 ⟨by decide, by decide, rfl, rfl, rfl⟩ (by decide) rfl rfl (Nat.le_of_ble_eq_true rfl) rfl c_X8_isOn ?_
  rintro r w' (⟨c_1, rfl, rfl⟩ | ⟨c_2, rfl, rfl⟩)
  · refine ab_iconst (v := 5) dX10_away_8 (by decide) ?_
    refine ab_callV (As := [.int 1, .int 5]) (rest := []) dX10_away_9 mv_X10_refused ml_X10_84 ⟨by decide, by decide, rfl, rfl, rfl⟩ (by decide) rfl rfl (Nat.le_of_ble_eq_true rfl) rfl c_X10_refused_1 ?_
    rintro r w' ⟨rfl, rfl⟩
    refine ab_ifeq 17 dX10_away_12 (by decide) (fun h_3 => ?_) (fun h_3 => absurd (by decide) h_3)
    refine ab_aload_n dX10_away_17 rfl ?_
    refine ab_iload_n dX10_away_18 rfl ?_
    refine ab_callS (As := [.int (nI j)]) (rest := [.ref 0]) dX10_away_19 ms_X7_has ml_X10_114 ⟨by decide, by decide, rfl, rfl, rfl⟩ (by decide) rfl rfl (Nat.le_of_ble_eq_true rfl) c_X7_has ?_
    rintro r w' (⟨c_4, rfl, rfl⟩ | ⟨c_5, rfl, rfl⟩)
    · refine ab_ifeq 37 dX10_away_22 (by decide) (fun h_6 => absurd h_6 (by decide)) (fun h_6 => ?_)
      refine ab_iload_n dX10_away_25 rfl ?_
      refine ab_iconst (v := 2) dX10_away_26 (by decide) ?_
      refine ab_callS (As := [.int 1, .int 2]) (rest := [.ref 0]) dX10_away_27 ms_X10_isOf ml_X10_118 ⟨by decide, by decide, rfl, rfl, rfl⟩ (by decide) rfl rfl (Nat.le_of_ble_eq_true rfl) c_X10_isOf ?_
      rintro r w' (⟨c_7, rfl, rfl⟩ | ⟨c_8, rfl, rfl⟩)
      · refine ab_ifeq 37 dX10_away_30 (by decide) (fun h_9 => absurd h_9 (by decide)) (fun h_9 => ?_)
        refine ab_iconst (v := 1) dX10_away_33 (by decide) ?_
        refine ab_goto 38 dX10_away_34 (by decide) ?_
        refine ab_iconst (v := 1) dX10_away_38 (by decide) ?_
        refine ab_callV (As := [.int 1, .int 1]) (rest := []) dX10_away_39 mv_X10_refused ml_X10_84 ⟨by decide, by decide, rfl, rfl, rfl⟩ (by decide) rfl rfl (Nat.le_of_ble_eq_true rfl) rfl c_X10_refused_1 ?_
        rintro r w' ⟨rfl, rfl⟩
        refine ab_ifeq 47 dX10_away_42 (by decide) (fun h_10 => ?_) (fun h_10 => absurd (by decide) h_10)
        refine ab_aload_n dX10_away_47 rfl ?_
        refine ab_getf dX10_away_48 fl_X10_61 rfl rfl ?_
        refine ab_iload_n dX10_away_51 rfl ?_
        refine ab_iload_n dX10_away_52 rfl ?_
        refine ab_callV (As := [.int (nI j), .int 1]) (rest := []) dX10_away_53 mv_X8_fewestTo ml_X10_365 ⟨by decide, by decide, rfl, rfl, rfl⟩ (by decide) rfl rfl (Nat.le_of_ble_eq_true rfl) rfl (c_X8_fewestTo_1 (a := a) (b := b) (j := j) (p := p) (d := d) h_p h_d ha hb hj h_j) ?_
        rintro r w' ⟨rfl, rfl⟩
        exact ab_iret dX10_away_56 rfl (by decide) (Or.inl ⟨c_1, rfl, rfl⟩)
      · exact absurd (by decide) c_8
    · exact absurd h_j c_5
  · refine ab_iconst (v := 5) dX10_away_8 (by decide) ?_
    refine ab_callV (As := [.int 0, .int 5]) (rest := []) dX10_away_9 mv_X10_refused ml_X10_84 ⟨by decide, by decide, rfl, rfl, rfl⟩ (by decide) rfl rfl (Nat.le_of_ble_eq_true rfl) rfl c_X10_refused_0 ?_
    rintro r w' ⟨rfl, rfl⟩
    refine ab_ifeq 17 dX10_away_12 (by decide) (fun h_11 => absurd h_11 (by decide)) (fun h_11 => ?_)
    refine ab_iconst (v := -1) dX10_away_15 (by decide) ?_
    exact ab_iret dX10_away_16 rfl (by decide) (Or.inr (⟨c_2, rfl, rfl⟩))
theorem c_X10_away_a {f0_0 f25_3 f25_4 f25_5 f25_6 f25_7 a1 a2 : Int32} {x1 x2 x3 x4 x5 x6 x7 x8 x9 x10 x11 x12 x13 x14 x15 x16 x17 x18 x19 x20 x21 x22 x23 x24 x26 x27 x28 x29 x30 x31 x32 : ax_E} {wm : List ax_E} (h_o : ¬ (0 ≤ a1 ∧ a1 < 40)) : Ct M_X10_away [.ref 0, .int a1, .int a2] ([ob 8 [.int f0_0, .ref 1, .ref 4, .ref 7, .ref 10, .ref 11, .ref 12, .ref 18, .ref 25, .ref 29], x1, x2, x3, x4, x5, x6, x7, x8, x9, x10, x11, x12, x13, x14, x15, x16, x17, x18, x19, x20, x21, x22, x23, x24, ob 7 [.ref 26, .ref 27, .ref 28, .int f25_3, .int f25_4, .int f25_5, .int f25_6, .int f25_7], x26, x27, x28, x29, x30, x31, x32], wm) (fun r w' => ((¬ f25_4 = -1) ∧ r = some (.int (-1)) ∧ w' = ([ob 8 [.int 1, .ref 1, .ref 4, .ref 7, .ref 10, .ref 11, .ref 12, .ref 18, .ref 25, .ref 29], x1, x2, x3, x4, x5, x6, x7, x8, x9, x10, x11, x12, x13, x14, x15, x16, x17, x18, x19, x20, x21, x22, x23, x24, ob 7 [.ref 26, .ref 27, .ref 28, .int f25_3, .int f25_4, .int f25_5, .int f25_6, .int f25_7], x26, x27, x28, x29, x30, x31, x32], wm)) ∨ ((¬ (¬ f25_4 = -1)) ∧ r = some (.int (-1)) ∧ w' = ([ob 8 [.int 5, .ref 1, .ref 4, .ref 7, .ref 10, .ref 11, .ref 12, .ref 18, .ref 25, .ref 29], x1, x2, x3, x4, x5, x6, x7, x8, x9, x10, x11, x12, x13, x14, x15, x16, x17, x18, x19, x20, x21, x22, x23, x24, ob 7 [.ref 26, .ref 27, .ref 28, .int f25_3, .int f25_4, .int f25_5, .int f25_6, .int f25_7], x26, x27, x28, x29, x30, x31, x32], wm))) := by
  refine ct_of ⟨by decide, rfl⟩ (Nat.le_of_ble_eq_true rfl) ?_
  refine ab_aload_n dX10_away_0 rfl ?_
  refine ab_aload_n dX10_away_1 rfl ?_
  refine ab_getf dX10_away_2 fl_X10_61 rfl rfl ?_
  refine ab_callV (As := []) (rest := [.ref 0]) dX10_away_5 mv_X8_isOn ml_X10_348 ⟨by decide, by decide, rfl, rfl, rfl⟩ (by decide) rfl rfl (Nat.le_of_ble_eq_true rfl) rfl c_X8_isOn ?_
  rintro r w' (⟨c_1, rfl, rfl⟩ | ⟨c_2, rfl, rfl⟩)
  · refine ab_iconst (v := 5) dX10_away_8 (by decide) ?_
    refine ab_callV (As := [.int 1, .int 5]) (rest := []) dX10_away_9 mv_X10_refused ml_X10_84 ⟨by decide, by decide, rfl, rfl, rfl⟩ (by decide) rfl rfl (Nat.le_of_ble_eq_true rfl) rfl c_X10_refused_1 ?_
    rintro r w' ⟨rfl, rfl⟩
    refine ab_ifeq 17 dX10_away_12 (by decide) (fun h_3 => ?_) (fun h_3 => absurd (by decide) h_3)
    refine ab_aload_n dX10_away_17 rfl ?_
    refine ab_iload_n dX10_away_18 rfl ?_
    refine ab_callS (As := [.int a1]) (rest := [.ref 0]) dX10_away_19 ms_X7_has ml_X10_114 ⟨by decide, by decide, rfl, rfl, rfl⟩ (by decide) rfl rfl (Nat.le_of_ble_eq_true rfl) c_X7_has ?_
    rintro r w' (⟨c_4, rfl, rfl⟩ | ⟨c_5, rfl, rfl⟩)
    · exact absurd c_4 h_o
    · refine ab_ifeq 37 dX10_away_22 (by decide) (fun h_6 => ?_) (fun h_6 => absurd (by decide) h_6)
      refine ab_iconst (v := 0) dX10_away_37 (by decide) ?_
      refine ab_iconst (v := 1) dX10_away_38 (by decide) ?_
      refine ab_callV (As := [.int 0, .int 1]) (rest := []) dX10_away_39 mv_X10_refused ml_X10_84 ⟨by decide, by decide, rfl, rfl, rfl⟩ (by decide) rfl rfl (Nat.le_of_ble_eq_true rfl) rfl c_X10_refused_0 ?_
      rintro r w' ⟨rfl, rfl⟩
      refine ab_ifeq 47 dX10_away_42 (by decide) (fun h_7 => absurd h_7 (by decide)) (fun h_7 => ?_)
      refine ab_iconst (v := -1) dX10_away_45 (by decide) ?_
      exact ab_iret dX10_away_46 rfl (by decide) (Or.inl ⟨c_1, rfl, rfl⟩)
  · refine ab_iconst (v := 5) dX10_away_8 (by decide) ?_
    refine ab_callV (As := [.int 0, .int 5]) (rest := []) dX10_away_9 mv_X10_refused ml_X10_84 ⟨by decide, by decide, rfl, rfl, rfl⟩ (by decide) rfl rfl (Nat.le_of_ble_eq_true rfl) rfl c_X10_refused_0 ?_
    rintro r w' ⟨rfl, rfl⟩
    refine ab_ifeq 17 dX10_away_12 (by decide) (fun h_8 => absurd h_8 (by decide)) (fun h_8 => ?_)
    refine ab_iconst (v := -1) dX10_away_15 (by decide) ?_
    exact ab_iret dX10_away_16 rfl (by decide) (Or.inr (⟨c_2, rfl, rfl⟩))
theorem c_X10_away_b {f0_0 f25_3 f25_4 f25_5 f25_6 f25_7 a1 a2 : Int32} {x1 x2 x3 x4 x5 x6 x7 x8 x9 x10 x11 x12 x13 x14 x15 x16 x17 x18 x19 x20 x21 x22 x23 x24 x26 x27 x28 x29 x30 x31 x32 : ax_E} {wm : List ax_E} (h_o : ¬ (0 ≤ a2 ∧ a2 < 2)) : Ct M_X10_away [.ref 0, .int a1, .int a2] ([ob 8 [.int f0_0, .ref 1, .ref 4, .ref 7, .ref 10, .ref 11, .ref 12, .ref 18, .ref 25, .ref 29], x1, x2, x3, x4, x5, x6, x7, x8, x9, x10, x11, x12, x13, x14, x15, x16, x17, x18, x19, x20, x21, x22, x23, x24, ob 7 [.ref 26, .ref 27, .ref 28, .int f25_3, .int f25_4, .int f25_5, .int f25_6, .int f25_7], x26, x27, x28, x29, x30, x31, x32], wm) (fun r w' => ((¬ f25_4 = -1) ∧ (0 ≤ a1 ∧ a1 < 40) ∧ r = some (.int (-1)) ∧ w' = ([ob 8 [.int 1, .ref 1, .ref 4, .ref 7, .ref 10, .ref 11, .ref 12, .ref 18, .ref 25, .ref 29], x1, x2, x3, x4, x5, x6, x7, x8, x9, x10, x11, x12, x13, x14, x15, x16, x17, x18, x19, x20, x21, x22, x23, x24, ob 7 [.ref 26, .ref 27, .ref 28, .int f25_3, .int f25_4, .int f25_5, .int f25_6, .int f25_7], x26, x27, x28, x29, x30, x31, x32], wm)) ∨ ((¬ f25_4 = -1) ∧ (¬ (0 ≤ a1 ∧ a1 < 40)) ∧ r = some (.int (-1)) ∧ w' = ([ob 8 [.int 1, .ref 1, .ref 4, .ref 7, .ref 10, .ref 11, .ref 12, .ref 18, .ref 25, .ref 29], x1, x2, x3, x4, x5, x6, x7, x8, x9, x10, x11, x12, x13, x14, x15, x16, x17, x18, x19, x20, x21, x22, x23, x24, ob 7 [.ref 26, .ref 27, .ref 28, .int f25_3, .int f25_4, .int f25_5, .int f25_6, .int f25_7], x26, x27, x28, x29, x30, x31, x32], wm)) ∨ ((¬ (¬ f25_4 = -1)) ∧ r = some (.int (-1)) ∧ w' = ([ob 8 [.int 5, .ref 1, .ref 4, .ref 7, .ref 10, .ref 11, .ref 12, .ref 18, .ref 25, .ref 29], x1, x2, x3, x4, x5, x6, x7, x8, x9, x10, x11, x12, x13, x14, x15, x16, x17, x18, x19, x20, x21, x22, x23, x24, ob 7 [.ref 26, .ref 27, .ref 28, .int f25_3, .int f25_4, .int f25_5, .int f25_6, .int f25_7], x26, x27, x28, x29, x30, x31, x32], wm))) := by
  refine ct_of ⟨by decide, rfl⟩ (Nat.le_of_ble_eq_true rfl) ?_
  refine ab_aload_n dX10_away_0 rfl ?_
  refine ab_aload_n dX10_away_1 rfl ?_
  refine ab_getf dX10_away_2 fl_X10_61 rfl rfl ?_
  refine ab_callV (As := []) (rest := [.ref 0]) dX10_away_5 mv_X8_isOn ml_X10_348 ⟨by decide, by decide, rfl, rfl, rfl⟩ (by decide) rfl rfl (Nat.le_of_ble_eq_true rfl) rfl c_X8_isOn ?_
  rintro r w' (⟨c_1, rfl, rfl⟩ | ⟨c_2, rfl, rfl⟩)
  · refine ab_iconst (v := 5) dX10_away_8 (by decide) ?_
    refine ab_callV (As := [.int 1, .int 5]) (rest := []) dX10_away_9 mv_X10_refused ml_X10_84 ⟨by decide, by decide, rfl, rfl, rfl⟩ (by decide) rfl rfl (Nat.le_of_ble_eq_true rfl) rfl c_X10_refused_1 ?_
    rintro r w' ⟨rfl, rfl⟩
    refine ab_ifeq 17 dX10_away_12 (by decide) (fun h_3 => ?_) (fun h_3 => absurd (by decide) h_3)
    refine ab_aload_n dX10_away_17 rfl ?_
    refine ab_iload_n dX10_away_18 rfl ?_
    refine ab_callS (As := [.int a1]) (rest := [.ref 0]) dX10_away_19 ms_X7_has ml_X10_114 ⟨by decide, by decide, rfl, rfl, rfl⟩ (by decide) rfl rfl (Nat.le_of_ble_eq_true rfl) c_X7_has ?_
    rintro r w' (⟨c_4, rfl, rfl⟩ | ⟨c_5, rfl, rfl⟩)
    · refine ab_ifeq 37 dX10_away_22 (by decide) (fun h_6 => absurd h_6 (by decide)) (fun h_6 => ?_)
      refine ab_iload_n dX10_away_25 rfl ?_
      refine ab_iconst (v := 2) dX10_away_26 (by decide) ?_
      refine ab_callS (As := [.int a2, .int 2]) (rest := [.ref 0]) dX10_away_27 ms_X10_isOf ml_X10_118 ⟨by decide, by decide, rfl, rfl, rfl⟩ (by decide) rfl rfl (Nat.le_of_ble_eq_true rfl) c_X10_isOf ?_
      rintro r w' (⟨c_7, rfl, rfl⟩ | ⟨c_8, rfl, rfl⟩)
      · exact absurd c_7 h_o
      · refine ab_ifeq 37 dX10_away_30 (by decide) (fun h_9 => ?_) (fun h_9 => absurd (by decide) h_9)
        refine ab_iconst (v := 0) dX10_away_37 (by decide) ?_
        refine ab_iconst (v := 1) dX10_away_38 (by decide) ?_
        refine ab_callV (As := [.int 0, .int 1]) (rest := []) dX10_away_39 mv_X10_refused ml_X10_84 ⟨by decide, by decide, rfl, rfl, rfl⟩ (by decide) rfl rfl (Nat.le_of_ble_eq_true rfl) rfl c_X10_refused_0 ?_
        rintro r w' ⟨rfl, rfl⟩
        refine ab_ifeq 47 dX10_away_42 (by decide) (fun h_10 => absurd h_10 (by decide)) (fun h_10 => ?_)
        refine ab_iconst (v := -1) dX10_away_45 (by decide) ?_
        exact ab_iret dX10_away_46 rfl (by decide) (Or.inl ⟨c_1, c_4, rfl, rfl⟩)
    · refine ab_ifeq 37 dX10_away_22 (by decide) (fun h_11 => ?_) (fun h_11 => absurd (by decide) h_11)
      refine ab_iconst (v := 0) dX10_away_37 (by decide) ?_
      refine ab_iconst (v := 1) dX10_away_38 (by decide) ?_
      refine ab_callV (As := [.int 0, .int 1]) (rest := []) dX10_away_39 mv_X10_refused ml_X10_84 ⟨by decide, by decide, rfl, rfl, rfl⟩ (by decide) rfl rfl (Nat.le_of_ble_eq_true rfl) rfl c_X10_refused_0 ?_
      rintro r w' ⟨rfl, rfl⟩
      refine ab_ifeq 47 dX10_away_42 (by decide) (fun h_12 => absurd h_12 (by decide)) (fun h_12 => ?_)
      refine ab_iconst (v := -1) dX10_away_45 (by decide) ?_
      exact ab_iret dX10_away_46 rfl (by decide) (Or.inr (Or.inl ⟨c_1, c_5, rfl, rfl⟩))
  · refine ab_iconst (v := 5) dX10_away_8 (by decide) ?_
    refine ab_callV (As := [.int 0, .int 5]) (rest := []) dX10_away_9 mv_X10_refused ml_X10_84 ⟨by decide, by decide, rfl, rfl, rfl⟩ (by decide) rfl rfl (Nat.le_of_ble_eq_true rfl) rfl c_X10_refused_0 ?_
    rintro r w' ⟨rfl, rfl⟩
    refine ab_ifeq 17 dX10_away_12 (by decide) (fun h_13 => absurd h_13 (by decide)) (fun h_13 => ?_)
    refine ab_iconst (v := -1) dX10_away_15 (by decide) ?_
    exact ab_iret dX10_away_16 rfl (by decide) (Or.inr (Or.inr (⟨c_2, rfl, rfl⟩)))
