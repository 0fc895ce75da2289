/-- what stands behind a line -/
def pZ (u : Nat → Nat) (n f : Nat) (s1 : PS) : (Nat × Nat) ⊕ PS := if n ≤ sk u n s1.1 then (if 0 < s1.2.1 0 then .inr s1 else .inl (4, sk u n s1.1)) else if u (sk u n s1.1) = 59 then pAll u n f (sk u n s1.1 + 1, s1.2) else .inl (1, sk u n s1.1)
theorem pAll_Z {u : Nat → Nat} {n f : Nat} {s : PS} : pAll u n (f + 1) s = sb (pLn u n s) (pZ u n f) := rfl
set_option maxHeartbeats 800000 in
theorem lp_rall {wc : List ax_E} {m_thrown m_trouble m_fault m_where m_taped m_linkMany m_tracerMany m_pointMany m_pairMany m_readFault m_readPlace m_curveMany m_cornerMany m_straightAt m_walkLink m_walkAngle m_walkBranch m_walkMany m_lined m_actMany a1 : Int32} {m_n m_c m_d m_s m_e m_k m_x m_y m_g m_a m_fitUp m_fitDown m_worstUp m_worstDown : Int64} {z1 z2 z4 z5 z6 z7 z12 z13 z14 z15 z16 z17 z18 z19 z20 : ax_E} {q3 : Nat → Int32} {u : Nat → Nat} {n : Nat} {Q : Option Value → ax_W → Prop} (h_n : n ≤ 700) (h_v : ∀ k, k < n → u k < 256 ∧ q3 k = nI (u k)) : ∀ (f p : Nat) (c : Nat → Nat) (m : Nat → Int32) (gw m_value : Int32) (q8 q9 q10 q11 : Nat → Int32), n - p ≤ f → p ≤ n → Bcn c → Agm c m q8 q9 q10 q11 → (tk u n (sk u n p) = 3 → gw = nI (vl u (sk u n p) (dE u n (sk u n p) - sk u n p))) → (∀ (e : Nat × Nat) (ga gs gt gz gv k0 k1 k2 k3 : Int32) (g8 g9 g10 g11 : Nat → Int32), pZ u n f (p, c, m) = .inl e → Q (some (.int 0)) (wc, [ob 9 [.int m_thrown, .int m_trouble, .int m_fault, .int m_where, .ref 1001, .ref 1002, .int 40, .ref 1003, .int m_taped, .int m_linkMany, .int m_tracerMany, .int m_pointMany, .int m_pairMany, .ref 1004, .ref 1005, .ref 1006, .ref 1007, .int k0, .int k1, .int k2, .int k3, .ref 1008, .ref 1009, .ref 1010, .ref 1011, .int (nI n), .int ga, .int gs, .int gt, .int gz, .int (nI e.1), .int (nI e.2), .int gv, .long m_n, .long m_c, .long m_d, .long m_s, .long m_e, .long m_k, .long m_x, .long m_y, .long m_g, .long m_a, .ref 1012, .ref 1013, .ref 1014, .int m_curveMany, .ref 1015, .int m_cornerMany, .int m_straightAt, .ref 1016, .long m_fitUp, .long m_fitDown, .long m_worstUp, .long m_worstDown, .ref 1017, .int m_walkLink, .int m_walkAngle, .int m_walkBranch, .int m_walkMany, .ref 1018, .ref 1019, .int m_lined, .ref 1020, .int m_actMany], z1, z2, ia 700 q3, z4, z5, z6, z7, ia 16 g8, ia 8 g9, ia 16 g10, ia 16 g11, z12, z13, z14, z15, z16, z17, z18, z19, z20])) → (∀ (s : PS) (ga gs gt gx gv : Int32) (g8 g9 g10 g11 : Nat → Int32), pZ u n f (p, c, m) = .inr s → Agm s.2.1 s.2.2 g8 g9 g10 g11 → Bcn s.2.1 → Q (some (.int 1)) (wc, [ob 9 [.int m_thrown, .int m_trouble, .int m_fault, .int m_where, .ref 1001, .ref 1002, .int 40, .ref 1003, .int m_taped, .int m_linkMany, .int m_tracerMany, .int m_pointMany, .int m_pairMany, .ref 1004, .ref 1005, .ref 1006, .ref 1007, .int (nI (s.2.1 0)), .int (nI (s.2.1 1)), .int (nI (s.2.1 2)), .int (nI (s.2.1 3)), .ref 1008, .ref 1009, .ref 1010, .ref 1011, .int (nI n), .int ga, .int gs, .int gt, .int gx, .int m_readFault, .int m_readPlace, .int gv, .long m_n, .long m_c, .long m_d, .long m_s, .long m_e, .long m_k, .long m_x, .long m_y, .long m_g, .long m_a, .ref 1012, .ref 1013, .ref 1014, .int m_curveMany, .ref 1015, .int m_cornerMany, .int m_straightAt, .ref 1016, .long m_fitUp, .long m_fitDown, .long m_worstUp, .long m_worstDown, .ref 1017, .int m_walkLink, .int m_walkAngle, .int m_walkBranch, .int m_walkMany, .ref 1018, .ref 1019, .int m_lined, .ref 1020, .int m_actMany], z1, z2, ia 700 q3, z4, z5, z6, z7, ia 16 g8, ia 8 g9, ia 16 g10, ia 16 g11, z12, z13, z14, z15, z16, z17, z18, z19, z20])) → Ab M_X11_readsAll Q (0, 0) 43 [(1, .int a1), (0, .ref 1000)] [] (wc, [ob 9 [.int m_thrown, .int m_trouble, .int m_fault, .int m_where, .ref 1001, .ref 1002, .int 40, .ref 1003, .int m_taped, .int m_linkMany, .int m_tracerMany, .int m_pointMany, .int m_pairMany, .ref 1004, .ref 1005, .ref 1006, .ref 1007, .int (nI (c 0)), .int (nI (c 1)), .int (nI (c 2)), .int (nI (c 3)), .ref 1008, .ref 1009, .ref 1010, .ref 1011, .int (nI n), .int (nI (sk u n p)), .int (nI (tE u n (sk u n p))), .int (tk u n (sk u n p)), .int gw, .int m_readFault, .int m_readPlace, .int m_value, .long m_n, .long m_c, .long m_d, .long m_s, .long m_e, .long m_k, .long m_x, .long m_y, .long m_g, .long m_a, .ref 1012, .ref 1013, .ref 1014, .int m_curveMany, .ref 1015, .int m_cornerMany, .int m_straightAt, .ref 1016, .long m_fitUp, .long m_fitDown, .long m_worstUp, .long m_worstDown, .ref 1017, .int m_walkLink, .int m_walkAngle, .int m_walkBranch, .int m_walkMany, .ref 1018, .ref 1019, .int m_lined, .ref 1020, .int m_actMany], z1, z2, ia 700 q3, z4, z5, z6, z7, ia 16 q8, ia 8 q9, ia 16 q10, ia 16 q11, z12, z13, z14, z15, z16, z17, z18, z19, z20]) := by
  intro f
  induction f with
  | zero =>
    intro p c m gw m_value q8 q9 q10 q11 hf h_p hB0 hA h_w hF hS
    have hB := hB0
    unfold Bcn at hB
    have h_s : p ≤ sk u n p ∧ sk u n p ≤ n := ⟨sk_ge, sk_le h_p⟩
    have h_t := tE_in (u := u) h_p
    refine ab_aload_n dX11_readsAll_43 rfl ?_
    refine ab_getf dX11_readsAll_44 fl_X11_137 rfl rfl ?_
    refine ab_bipush (v := 59) dX11_readsAll_47 (by decide) ?_
    refine ab_icmpne 65 dX11_readsAll_49 (by decide) (fun h_1 => ?_) (fun h_1 => absurd ((tk_c (c := 59) (Or.inr rfl)).mp h_1).1 (by omega))
    refine ab_aload_n dX11_readsAll_65 rfl ?_
    refine ab_getf dX11_readsAll_66 fl_X11_137 rfl rfl ?_
    refine ab_ifeq 78 dX11_readsAll_69 (by decide) (fun h_2 => ?_) (fun h_2 => ?_)
    · refine ab_aload_n dX11_readsAll_78 rfl ?_
      refine ab_getf dX11_readsAll_79 fl_X11_177 rfl rfl ?_
      refine ab_ifgt 93 dX11_readsAll_82 (by decide) (fun h_3 => ?_) (fun h_3 => ?_)
      · have h_3n := (nI_ltI (a := 0) (b := (c 0)) (by omega) (by omega)).mp h_3
        refine ab_iconst (v := 1) dX11_readsAll_93 (by decide) ?_
        refine ab_goto 98 dX11_readsAll_94 (by decide) ?_
        exact ab_zret dX11_readsAll_98 rfl rfl (by decide) (hS (p, c, m) (nI (sk u n p)) (nI (tE u n (sk u n p))) (tk u n (sk u n p)) gw m_value q8 q9 q10 q11 (by unfold pZ; rw [if_pos (by have := tk_0.mp h_2; show n ≤ sk u n p; omega), if_pos (by show 0 < c 0; omega)]) hA hB0)
      · have h_3n : ¬ _ := fun z => h_3 ((nI_ltI (a := 0) (b := (c 0)) (by omega) (by omega)).mpr z)
        refine ab_aload_n dX11_readsAll_85 rfl ?_
        refine ab_iconst (v := 4) dX11_readsAll_86 (by decide) ?_
        refine ab_callV (As := [.int 4]) (rest := []) dX11_readsAll_87 mv_X11_errs ml_X11_159 ⟨by decide, by decide, rfl, rfl, rfl⟩ (by decide) rfl rfl (Nat.le_of_ble_eq_true rfl) rfl c_X11_errs ?_
        rintro r w' ⟨rfl, rfl⟩
        refine ab_ifeq 97 dX11_readsAll_90 (by decide) (fun h_4 => ?_) (fun h_4 => absurd (by decide) h_4)
        refine ab_iconst (v := 0) dX11_readsAll_97 (by decide) ?_
        exact ab_zret dX11_readsAll_98 rfl rfl (by decide) (hF (4, sk u n p) (nI (sk u n p)) (nI (tE u n (sk u n p))) (tk u n (sk u n p)) gw m_value (nI (c 0)) (nI (c 1)) (nI (c 2)) (nI (c 3)) q8 q9 q10 q11 (by unfold pZ; rw [if_pos (by have := tk_0.mp h_2; show n ≤ sk u n p; omega), if_neg (by show ¬ 0 < c 0; omega)]))
    · refine ab_aload_n dX11_readsAll_72 rfl ?_
      refine ab_iconst (v := 1) dX11_readsAll_73 (by decide) ?_
      refine ab_callV (As := [.int 1]) (rest := []) dX11_readsAll_74 mv_X11_errs ml_X11_159 ⟨by decide, by decide, rfl, rfl, rfl⟩ (by decide) rfl rfl (Nat.le_of_ble_eq_true rfl) rfl c_X11_errs ?_
      rintro r w' ⟨rfl, rfl⟩
      exact ab_zret dX11_readsAll_77 rfl rfl (by decide) (absurd (Decidable.byContradiction (fun z => h_2 (tk_0.mpr z)) : sk u n p < n) (by omega))
  | succ f ih =>
    intro p c m gw m_value q8 q9 q10 q11 hf h_p hB0 hA h_w hF hS
    have hB := hB0
    unfold Bcn at hB
    have h_s : p ≤ sk u n p ∧ sk u n p ≤ n := ⟨sk_ge, sk_le h_p⟩
    have h_t := tE_in (u := u) h_p
    refine ab_aload_n dX11_readsAll_43 rfl ?_
    refine ab_getf dX11_readsAll_44 fl_X11_137 rfl rfl ?_
    refine ab_bipush (v := 59) dX11_readsAll_47 (by decide) ?_
    refine ab_icmpne 65 dX11_readsAll_49 (by decide) (fun h_1 => ?_) (fun h_1 => ?_)
    · refine ab_aload_n dX11_readsAll_65 rfl ?_
      refine ab_getf dX11_readsAll_66 fl_X11_137 rfl rfl ?_
      refine ab_ifeq 78 dX11_readsAll_69 (by decide) (fun h_2 => ?_) (fun h_2 => ?_)
      · refine ab_aload_n dX11_readsAll_78 rfl ?_
        refine ab_getf dX11_readsAll_79 fl_X11_177 rfl rfl ?_
        refine ab_ifgt 93 dX11_readsAll_82 (by decide) (fun h_3 => ?_) (fun h_3 => ?_)
        · have h_3n := (nI_ltI (a := 0) (b := (c 0)) (by omega) (by omega)).mp h_3
          refine ab_iconst (v := 1) dX11_readsAll_93 (by decide) ?_
          refine ab_goto 98 dX11_readsAll_94 (by decide) ?_
          exact ab_zret dX11_readsAll_98 rfl rfl (by decide) (hS (p, c, m) (nI (sk u n p)) (nI (tE u n (sk u n p))) (tk u n (sk u n p)) gw m_value q8 q9 q10 q11 (by unfold pZ; rw [if_pos (by have := tk_0.mp h_2; show n ≤ sk u n p; omega), if_pos (by show 0 < c 0; omega)]) hA hB0)
        · have h_3n : ¬ _ := fun z => h_3 ((nI_ltI (a := 0) (b := (c 0)) (by omega) (by omega)).mpr z)
          refine ab_aload_n dX11_readsAll_85 rfl ?_
          refine ab_iconst (v := 4) dX11_readsAll_86 (by decide) ?_
          refine ab_callV (As := [.int 4]) (rest := []) dX11_readsAll_87 mv_X11_errs ml_X11_159 ⟨by decide, by decide, rfl, rfl, rfl⟩ (by decide) rfl rfl (Nat.le_of_ble_eq_true rfl) rfl c_X11_errs ?_
          rintro r w' ⟨rfl, rfl⟩
          refine ab_ifeq 97 dX11_readsAll_90 (by decide) (fun h_4 => ?_) (fun h_4 => absurd (by decide) h_4)
          refine ab_iconst (v := 0) dX11_readsAll_97 (by decide) ?_
          exact ab_zret dX11_readsAll_98 rfl rfl (by decide) (hF (4, sk u n p) (nI (sk u n p)) (nI (tE u n (sk u n p))) (tk u n (sk u n p)) gw m_value (nI (c 0)) (nI (c 1)) (nI (c 2)) (nI (c 3)) q8 q9 q10 q11 (by unfold pZ; rw [if_pos (by have := tk_0.mp h_2; show n ≤ sk u n p; omega), if_neg (by show ¬ 0 < c 0; omega)]))
      · refine ab_aload_n dX11_readsAll_72 rfl ?_
        refine ab_iconst (v := 1) dX11_readsAll_73 (by decide) ?_
        refine ab_callV (As := [.int 1]) (rest := []) dX11_readsAll_74 mv_X11_errs ml_X11_159 ⟨by decide, by decide, rfl, rfl, rfl⟩ (by decide) rfl rfl (Nat.le_of_ble_eq_true rfl) rfl c_X11_errs ?_
        rintro r w' ⟨rfl, rfl⟩
        exact ab_zret dX11_readsAll_77 rfl rfl (by decide) (hF (1, sk u n p) (nI (sk u n p)) (nI (tE u n (sk u n p))) (tk u n (sk u n p)) gw m_value (nI (c 0)) (nI (c 1)) (nI (c 2)) (nI (c 3)) q8 q9 q10 q11 (by have hlt : sk u n p < n := Decidable.byContradiction (fun z => h_2 (tk_0.mpr z)); unfold pZ; rw [if_neg (by show ¬ n ≤ sk u n p; omega), if_neg (fun z => h_1 ((tk_c (c := 59) (Or.inr rfl)).mpr ⟨hlt, z⟩))]))
    · refine ab_aload_n dX11_readsAll_52 rfl ?_
      refine ab_callV (As := []) (rest := []) dX11_readsAll_53 mv_X11_goesOn ml_X11_166 ⟨by decide, by decide, rfl, rfl, rfl⟩ (by decide) rfl rfl (Nat.le_of_ble_eq_true rfl) rfl (c_X11_goesOn (n := n) (q := (tE u n (sk u n p))) h_n h_v (by omega)) ?_
      rintro r w' ⟨gw_5, c_6, rfl, rfl⟩
      refine ab_aload_n dX11_readsAll_56 rfl ?_
      refine ab_callV (As := []) (rest := []) dX11_readsAll_57 mv_X11_readsLine ml_X11_224 ⟨by decide, by decide, rfl, rfl, rfl⟩ (by decide) rfl rfl (Nat.le_of_ble_eq_true rfl) rfl (c_X11_readsLine (n := n) (p := (tE u n (sk u n p))) (gw := gw_5) (c := c) (m := m) h_n h_v (by omega) (tE_in (by omega)) c_6 (⟨sk_ge, sk_le (by omega)⟩) hB hA) ?_
      rintro r w' (⟨e_7, ga_8, gs_9, gt_10, gz_11, gv_12, g8_13, g9_14, g10_15, g11_16, k0_17, k1_18, k2_19, k3_20, c_21, rfl, rfl⟩ | ⟨s_22, gx_23, gv_24, g8_25, g9_26, g10_27, g11_28, c_29, c_30, c_31, c_32, c_33, rfl, rfl⟩)
      · refine ab_ifne 43 dX11_readsAll_60 (by decide) (fun h_34 => absurd (by decide) h_34) (fun h_34 => ?_)
        refine ab_iconst (v := 0) dX11_readsAll_63 (by decide) ?_
        exact ab_zret dX11_readsAll_64 rfl rfl (by decide) (hF e_7 ga_8 gs_9 gt_10 gz_11 gv_12 k0_17 k1_18 k2_19 k3_20 g8_13 g9_14 g10_15 g11_16 (by unfold pZ; rw [if_neg (by have := ((tk_c (c := 59) (Or.inr rfl)).mp h_1).1; show ¬ n ≤ sk u n p; omega), if_pos ((tk_c (c := 59) (Or.inr rfl)).mp h_1).2, pAll_Z]; rw [tE_c ((tk_c (c := 59) (Or.inr rfl)).mp h_1).1 (Or.inr ((tk_c (c := 59) (Or.inr rfl)).mp h_1).2)] at *; exact sb_l c_21))
      · refine ab_ifne 43 dX11_readsAll_60 (by decide) (fun h_35 => ?_) (fun h_35 => absurd h_35 (by decide))
        refine ab_pick [0, 1] rfl ?_
        have hte := tE_c ((tk_c (c := 59) (Or.inr rfl)).mp h_1).1 (Or.inr ((tk_c (c := 59) (Or.inr rfl)).mp h_1).2)
        have heq := (show pZ u n (f + 1) (p, c, m) = pZ u n f (s_22.1, s_22.2.1, s_22.2.2) by unfold pZ; rw [if_neg (by have := ((tk_c (c := 59) (Or.inr rfl)).mp h_1).1; show ¬ n ≤ sk u n p; omega), if_pos ((tk_c (c := 59) (Or.inr rfl)).mp h_1).2, pAll_Z, sb_r (tE_c ((tk_c (c := 59) (Or.inr rfl)).mp h_1).1 (Or.inr ((tk_c (c := 59) (Or.inr rfl)).mp h_1).2) ▸ c_29)]; rfl)
        exact ih s_22.1 s_22.2.1 s_22.2.2 gx_23 gv_24 g8_25 g9_26 g10_27 g11_28 (by omega) (by omega) c_31 c_30 c_33 (fun e ga gs gt gz gv k0 k1 k2 k3 g8 g9 g10 g11 z => hF e ga gs gt gz gv k0 k1 k2 k3 g8 g9 g10 g11 (heq.trans z)) (fun s ga gs gt gx gv g8 g9 g10 g11 z => hS s ga gs gt gx gv g8 g9 g10 g11 (heq.trans z))
