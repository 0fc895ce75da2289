/-- the first angle from k on, of n -/
def Nf (p q : Int32) : Nat → Nat → Int32
  | 0, _ => -1
  | n + 1, k => if (ax_tab 0 k) * q = (ax_tab 1 k) * p then nI k else Nf p q n (k + 1)
theorem lp_numberOf {w : ax_W} {a1 a2 : Int32} : ∀ (n k : Nat), k + n = 40 → Ab M_X7_numberOf (fun r w' => r = some (.int (Nf a1 a2 n k)) ∧ w' = w) (0, 0) 2 [(2, .int (nI k)), (0, .int a1), (1, .int a2)] [] w := by
  intro n
  induction n with
  | zero =>
    intro k hk
    refine ab_iload_n dX7_numberOf_2 rfl ?_
    refine ab_bipush (v := 40) dX7_numberOf_3 (by decide) ?_
    refine ab_icmpge 33 dX7_numberOf_5 (by decide) (fun h_1 => ?_) (fun h_1 => absurd (nI_le (a := 40) (by omega) (by omega)) h_1)
    refine ab_iconst (v := -1) dX7_numberOf_33 (by decide) ?_
    exact ab_iret dX7_numberOf_34 rfl (by decide) ⟨rfl, rfl⟩
  | succ n ih =>
    intro k hk
    refine ab_iload_n dX7_numberOf_2 rfl ?_
    refine ab_bipush (v := 40) dX7_numberOf_3 (by decide) ?_
    refine ab_icmpge 33 dX7_numberOf_5 (by decide) (fun h_1 => absurd h_1 (nI_ge (b := 40) (by omega) (by decide))) (fun h_1 => ?_)
    refine ab_tbl (j := 0) dX7_numberOf_8 rfl fs_X7_15 ?_
    refine ab_iload_n dX7_numberOf_11 rfl ?_
    refine ab_tald (j := 0) (t := k) (v := (ax_tab 0 k)) dX7_numberOf_12 rfl (ix_nI (n := 40) (by omega) (by decide)) rfl ?_
    refine ab_iload_n dX7_numberOf_13 rfl ?_
    refine ab_imul dX7_numberOf_14 ?_
    refine ab_tbl (j := 1) dX7_numberOf_15 rfl fs_X7_19 ?_
    refine ab_iload_n dX7_numberOf_18 rfl ?_
    refine ab_tald (j := 1) (t := k) (v := (ax_tab 1 k)) dX7_numberOf_19 rfl (ix_nI (n := 40) (by omega) (by decide)) rfl ?_
    refine ab_iload_n dX7_numberOf_20 rfl ?_
    refine ab_imul dX7_numberOf_21 ?_
    refine ab_icmpne 27 dX7_numberOf_22 (by decide) (fun h_2 => ?_) (fun h_2 => ?_)
    · refine ab_iinc (v := (nI (k + 1))) (la' := [(2, .int (nI (k + 1))), (0, .int a1), (1, .int a2)]) dX7_numberOf_27 rfl (nI_1 _) (by decide) rfl ?_
      refine ab_goto 2 dX7_numberOf_30 (by decide) ?_
      refine ab_pick [0, 1, 2] rfl ?_
      rw [show Nf a1 a2 (n + 1) k = Nf a1 a2 n (k + 1) from if_neg h_2]
      exact ih (k + 1) (by omega)
    · refine ab_iload_n dX7_numberOf_25 rfl ?_
      exact ab_iret dX7_numberOf_26 rfl (by decide) ⟨by rw [show Nf a1 a2 (n + 1) k = nI k from if_pos h_2], rfl⟩
theorem c_X7_numberOf {w : ax_W} {a1 a2 : Int32}  : Ct M_X7_numberOf [.int a1, .int a2] w (fun r w' => r = some (.int (Nf a1 a2 40 0)) ∧ w' = w) := by
  refine ct_of ⟨by decide, rfl⟩ (Nat.le_of_ble_eq_true rfl) ?_
  refine ab_iconst (v := 0) dX7_numberOf_0 (by decide) ?_
  refine ab_istore_n (la' := [(2, .int 0), (0, .int a1), (1, .int a2)]) dX7_numberOf_1 (by decide) rfl ?_
  refine ab_pick [0, 1, 2] rfl ?_
  exact lp_numberOf 40 0 (by omega)
theorem c_X10_which {f0_0 a1 a2 : Int32} {x1 x2 x3 x4 x5 x6 x7 x8 x9 x10 x11 x12 x13 x14 x15 x16 x17 x18 x19 x20 x21 x22 x23 x24 x25 x26 x27 x28 x29 x30 x31 x32 : ax_E} {wm : List ax_E}  : Ct M_X10_which [.ref 0, .int a1, .int a2] ([ob 8 [.int f0_0, .ref 1, .ref 4, .ref 7, .ref 10, .ref 11, .ref 12, .ref 18, .ref 25, .ref 29], x1, x2, x3, x4, x5, x6, x7, x8, x9, x10, x11, x12, x13, x14, x15, x16, x17, x18, x19, x20, x21, x22, x23, x24, x25, x26, x27, x28, x29, x30, x31, x32], wm) (fun r w' => ((a1 < (-5)) ∧ r = some (.int (-1)) ∧ w' = ([ob 8 [.int 2, .ref 1, .ref 4, .ref 7, .ref 10, .ref 11, .ref 12, .ref 18, .ref 25, .ref 29], x1, x2, x3, x4, x5, x6, x7, x8, x9, x10, x11, x12, x13, x14, x15, x16, x17, x18, x19, x20, x21, x22, x23, x24, x25, x26, x27, x28, x29, x30, x31, x32], wm)) ∨ ((¬ a1 < (-5)) ∧ (5 < a1) ∧ r = some (.int (-1)) ∧ w' = ([ob 8 [.int 2, .ref 1, .ref 4, .ref 7, .ref 10, .ref 11, .ref 12, .ref 18, .ref 25, .ref 29], x1, x2, x3, x4, x5, x6, x7, x8, x9, x10, x11, x12, x13, x14, x15, x16, x17, x18, x19, x20, x21, x22, x23, x24, x25, x26, x27, x28, x29, x30, x31, x32], wm)) ∨ ((¬ a1 < (-5)) ∧ (¬ 5 < a1) ∧ (a2 < (-5)) ∧ r = some (.int (-1)) ∧ w' = ([ob 8 [.int 2, .ref 1, .ref 4, .ref 7, .ref 10, .ref 11, .ref 12, .ref 18, .ref 25, .ref 29], x1, x2, x3, x4, x5, x6, x7, x8, x9, x10, x11, x12, x13, x14, x15, x16, x17, x18, x19, x20, x21, x22, x23, x24, x25, x26, x27, x28, x29, x30, x31, x32], wm)) ∨ ((¬ a1 < (-5)) ∧ (¬ 5 < a1) ∧ (¬ a2 < (-5)) ∧ (5 < a2) ∧ r = some (.int (-1)) ∧ w' = ([ob 8 [.int 2, .ref 1, .ref 4, .ref 7, .ref 10, .ref 11, .ref 12, .ref 18, .ref 25, .ref 29], x1, x2, x3, x4, x5, x6, x7, x8, x9, x10, x11, x12, x13, x14, x15, x16, x17, x18, x19, x20, x21, x22, x23, x24, x25, x26, x27, x28, x29, x30, x31, x32], wm)) ∨ ((¬ a1 < (-5)) ∧ (¬ 5 < a1) ∧ (¬ a2 < (-5)) ∧ (¬ 5 < a2) ∧ (¬ a1 = 0) ∧ r = some (.int (Nf a1 a2 40 0)) ∧ w' = ([ob 8 [.int 0, .ref 1, .ref 4, .ref 7, .ref 10, .ref 11, .ref 12, .ref 18, .ref 25, .ref 29], x1, x2, x3, x4, x5, x6, x7, x8, x9, x10, x11, x12, x13, x14, x15, x16, x17, x18, x19, x20, x21, x22, x23, x24, x25, x26, x27, x28, x29, x30, x31, x32], wm)) ∨ ((¬ a1 < (-5)) ∧ (¬ 5 < a1) ∧ (¬ a2 < (-5)) ∧ (¬ 5 < a2) ∧ (a1 = 0) ∧ (a2 = 0) ∧ r = some (.int (-1)) ∧ w' = ([ob 8 [.int 2, .ref 1, .ref 4, .ref 7, .ref 10, .ref 11, .ref 12, .ref 18, .ref 25, .ref 29], x1, x2, x3, x4, x5, x6, x7, x8, x9, x10, x11, x12, x13, x14, x15, x16, x17, x18, x19, x20, x21, x22, x23, x24, x25, x26, x27, x28, x29, x30, x31, x32], wm)) ∨ ((¬ a1 < (-5)) ∧ (¬ 5 < a1) ∧ (¬ a2 < (-5)) ∧ (¬ 5 < a2) ∧ (a1 = 0) ∧ (¬ a2 = 0) ∧ r = some (.int (Nf a1 a2 40 0)) ∧ w' = ([ob 8 [.int 0, .ref 1, .ref 4, .ref 7, .ref 10, .ref 11, .ref 12, .ref 18, .ref 25, .ref 29], x1, x2, x3, x4, x5, x6, x7, x8, x9, x10, x11, x12, x13, x14, x15, x16, x17, x18, x19, x20, x21, x22, x23, x24, x25, x26, x27, x28, x29, x30, x31, x32], wm))) := by
  refine ct_of ⟨by decide, rfl⟩ (Nat.le_of_ble_eq_true rfl) ?_
  refine ab_iload_n dX10_which_0 rfl ?_
  refine ab_bipush (v := -5) dX10_which_1 (by decide) ?_
  refine ab_icmplt 26 dX10_which_3 (by decide) (fun h_1 => ?_) (fun h_1 => ?_)
  · refine ab_iconst (v := 0) dX10_which_26 (by decide) ?_
    refine ab_istore_n (la' := [(3, .int 0), (0, .ref 0), (1, .int a1), (2, .int a2)]) dX10_which_27 (by decide) rfl ?_
    refine ab_aload_n dX10_which_28 rfl ?_
    refine ab_iload_n dX10_which_29 rfl ?_
    refine ab_ifeq 45 dX10_which_30 (by decide) (fun h_2 => ?_) (fun h_2 => absurd (by decide) h_2)
    refine ab_iconst (v := 0) dX10_which_45 (by decide) ?_
    refine ab_iconst (v := 2) dX10_which_46 (by decide) ?_
    refine ab_callV (As := [.int 0, .int 2]) (rest := []) dX10_which_47 mv_X10_refused ml_X10_84 ⟨by decide, by decide, rfl, rfl, rfl⟩ (by decide) rfl rfl (Nat.le_of_ble_eq_true rfl) rfl c_X10_refused_0 ?_
    rintro r w' ⟨rfl, rfl⟩
    refine ab_ifeq 55 dX10_which_50 (by decide) (fun h_3 => absurd h_3 (by decide)) (fun h_3 => ?_)
    refine ab_iconst (v := -1) dX10_which_53 (by decide) ?_
    exact ab_iret dX10_which_54 rfl (by decide) (Or.inl ⟨h_1, rfl, rfl⟩)
  · refine ab_iload_n dX10_which_6 rfl ?_
    refine ab_iconst (v := 5) dX10_which_7 (by decide) ?_
    refine ab_icmpgt 26 dX10_which_8 (by decide) (fun h_4 => ?_) (fun h_4 => ?_)
    · refine ab_iconst (v := 0) dX10_which_26 (by decide) ?_
      refine ab_istore_n (la' := [(3, .int 0), (0, .ref 0), (1, .int a1), (2, .int a2)]) dX10_which_27 (by decide) rfl ?_
      refine ab_aload_n dX10_which_28 rfl ?_
      refine ab_iload_n dX10_which_29 rfl ?_
      refine ab_ifeq 45 dX10_which_30 (by decide) (fun h_5 => ?_) (fun h_5 => absurd (by decide) h_5)
      refine ab_iconst (v := 0) dX10_which_45 (by decide) ?_
      refine ab_iconst (v := 2) dX10_which_46 (by decide) ?_
      refine ab_callV (As := [.int 0, .int 2]) (rest := []) dX10_which_47 mv_X10_refused ml_X10_84 ⟨by decide, by decide, rfl, rfl, rfl⟩ (by decide) rfl rfl (Nat.le_of_ble_eq_true rfl) rfl c_X10_refused_0 ?_
      rintro r w' ⟨rfl, rfl⟩
      refine ab_ifeq 55 dX10_which_50 (by decide) (fun h_6 => absurd h_6 (by decide)) (fun h_6 => ?_)
      refine ab_iconst (v := -1) dX10_which_53 (by decide) ?_
      exact ab_iret dX10_which_54 rfl (by decide) (Or.inr (Or.inl ⟨h_1, h_4, rfl, rfl⟩))
    · refine ab_iload_n dX10_which_11 rfl ?_
      refine ab_bipush (v := -5) dX10_which_12 (by decide) ?_
      refine ab_icmplt 26 dX10_which_14 (by decide) (fun h_7 => ?_) (fun h_7 => ?_)
      · refine ab_iconst (v := 0) dX10_which_26 (by decide) ?_
        refine ab_istore_n (la' := [(3, .int 0), (0, .ref 0), (1, .int a1), (2, .int a2)]) dX10_which_27 (by decide) rfl ?_
        refine ab_aload_n dX10_which_28 rfl ?_
        refine ab_iload_n dX10_which_29 rfl ?_
        refine ab_ifeq 45 dX10_which_30 (by decide) (fun h_8 => ?_) (fun h_8 => absurd (by decide) h_8)
        refine ab_iconst (v := 0) dX10_which_45 (by decide) ?_
        refine ab_iconst (v := 2) dX10_which_46 (by decide) ?_
        refine ab_callV (As := [.int 0, .int 2]) (rest := []) dX10_which_47 mv_X10_refused ml_X10_84 ⟨by decide, by decide, rfl, rfl, rfl⟩ (by decide) rfl rfl (Nat.le_of_ble_eq_true rfl) rfl c_X10_refused_0 ?_
        rintro r w' ⟨rfl, rfl⟩
        refine ab_ifeq 55 dX10_which_50 (by decide) (fun h_9 => absurd h_9 (by decide)) (fun h_9 => ?_)
        refine ab_iconst (v := -1) dX10_which_53 (by decide) ?_
        exact ab_iret dX10_which_54 rfl (by decide) (Or.inr (Or.inr (Or.inl ⟨h_1, h_4, h_7, rfl, rfl⟩)))
      · refine ab_iload_n dX10_which_17 rfl ?_
        refine ab_iconst (v := 5) dX10_which_18 (by decide) ?_
        refine ab_icmpgt 26 dX10_which_19 (by decide) (fun h_10 => ?_) (fun h_10 => ?_)
        · refine ab_iconst (v := 0) dX10_which_26 (by decide) ?_
          refine ab_istore_n (la' := [(3, .int 0), (0, .ref 0), (1, .int a1), (2, .int a2)]) dX10_which_27 (by decide) rfl ?_
          refine ab_aload_n dX10_which_28 rfl ?_
          refine ab_iload_n dX10_which_29 rfl ?_
          refine ab_ifeq 45 dX10_which_30 (by decide) (fun h_11 => ?_) (fun h_11 => absurd (by decide) h_11)
          refine ab_iconst (v := 0) dX10_which_45 (by decide) ?_
          refine ab_iconst (v := 2) dX10_which_46 (by decide) ?_
          refine ab_callV (As := [.int 0, .int 2]) (rest := []) dX10_which_47 mv_X10_refused ml_X10_84 ⟨by decide, by decide, rfl, rfl, rfl⟩ (by decide) rfl rfl (Nat.le_of_ble_eq_true rfl) rfl c_X10_refused_0 ?_
          rintro r w' ⟨rfl, rfl⟩
          refine ab_ifeq 55 dX10_which_50 (by decide) (fun h_12 => absurd h_12 (by decide)) (fun h_12 => ?_)
          refine ab_iconst (v := -1) dX10_which_53 (by decide) ?_
          exact ab_iret dX10_which_54 rfl (by decide) (Or.inr (Or.inr (Or.inr (Or.inl ⟨h_1, h_4, h_7, h_10, rfl, rfl⟩))))
        · refine ab_iconst (v := 1) dX10_which_22 (by decide) ?_
          refine ab_goto 27 dX10_which_23 (by decide) ?_
          refine ab_istore_n (la' := [(3, .int 1), (0, .ref 0), (1, .int a1), (2, .int a2)]) dX10_which_27 (by decide) rfl ?_
          refine ab_aload_n dX10_which_28 rfl ?_
          refine ab_iload_n dX10_which_29 rfl ?_
          refine ab_ifeq 45 dX10_which_30 (by decide) (fun h_13 => absurd h_13 (by decide)) (fun h_13 => ?_)
          refine ab_iload_n dX10_which_33 rfl ?_
          refine ab_ifne 41 dX10_which_34 (by decide) (fun h_14 => ?_) (fun h_14 => ?_)
          · refine ab_iconst (v := 1) dX10_which_41 (by decide) ?_
            refine ab_goto 46 dX10_which_42 (by decide) ?_
            refine ab_iconst (v := 2) dX10_which_46 (by decide) ?_
            refine ab_callV (As := [.int 1, .int 2]) (rest := []) dX10_which_47 mv_X10_refused ml_X10_84 ⟨by decide, by decide, rfl, rfl, rfl⟩ (by decide) rfl rfl (Nat.le_of_ble_eq_true rfl) rfl c_X10_refused_1 ?_
            rintro r w' ⟨rfl, rfl⟩
            refine ab_ifeq 55 dX10_which_50 (by decide) (fun h_15 => ?_) (fun h_15 => absurd (by decide) h_15)
            refine ab_iload_n dX10_which_55 rfl ?_
            refine ab_iload_n dX10_which_56 rfl ?_
            refine ab_callS (As := [.int a1, .int a2]) (rest := []) dX10_which_57 ms_X7_numberOf ml_X10_129 ⟨by decide, by decide, rfl, rfl, rfl⟩ (by decide) rfl rfl (Nat.le_of_ble_eq_true rfl) c_X7_numberOf ?_
            rintro r w' ⟨rfl, rfl⟩
            exact ab_iret dX10_which_60 rfl (by decide) (Or.inr (Or.inr (Or.inr (Or.inr (Or.inl ⟨h_1, h_4, h_7, h_10, h_14, rfl, rfl⟩)))))
          · refine ab_iload_n dX10_which_37 rfl ?_
            refine ab_ifeq 45 dX10_which_38 (by decide) (fun h_16 => ?_) (fun h_16 => ?_)
            · refine ab_iconst (v := 0) dX10_which_45 (by decide) ?_
              refine ab_iconst (v := 2) dX10_which_46 (by decide) ?_
              refine ab_callV (As := [.int 0, .int 2]) (rest := []) dX10_which_47 mv_X10_refused ml_X10_84 ⟨by decide, by decide, rfl, rfl, rfl⟩ (by decide) rfl rfl (Nat.le_of_ble_eq_true rfl) rfl c_X10_refused_0 ?_
              rintro r w' ⟨rfl, rfl⟩
              refine ab_ifeq 55 dX10_which_50 (by decide) (fun h_17 => absurd h_17 (by decide)) (fun h_17 => ?_)
              refine ab_iconst (v := -1) dX10_which_53 (by decide) ?_
              exact ab_iret dX10_which_54 rfl (by decide) (Or.inr (Or.inr (Or.inr (Or.inr (Or.inr (Or.inl ⟨h_1, h_4, h_7, h_10, h_14, h_16, rfl, rfl⟩))))))
            · refine ab_iconst (v := 1) dX10_which_41 (by decide) ?_
              refine ab_goto 46 dX10_which_42 (by decide) ?_
              refine ab_iconst (v := 2) dX10_which_46 (by decide) ?_
              refine ab_callV (As := [.int 1, .int 2]) (rest := []) dX10_which_47 mv_X10_refused ml_X10_84 ⟨by decide, by decide, rfl, rfl, rfl⟩ (by decide) rfl rfl (Nat.le_of_ble_eq_true rfl) rfl c_X10_refused_1 ?_
              rintro r w' ⟨rfl, rfl⟩
              refine ab_ifeq 55 dX10_which_50 (by decide) (fun h_18 => ?_) (fun h_18 => absurd (by decide) h_18)
              refine ab_iload_n dX10_which_55 rfl ?_
              refine ab_iload_n dX10_which_56 rfl ?_
              refine ab_callS (As := [.int a1, .int a2]) (rest := []) dX10_which_57 ms_X7_numberOf ml_X10_129 ⟨by decide, by decide, rfl, rfl, rfl⟩ (by decide) rfl rfl (Nat.le_of_ble_eq_true rfl) c_X7_numberOf ?_
              rintro r w' ⟨rfl, rfl⟩
              exact ab_iret dX10_which_60 rfl (by decide) (Or.inr (Or.inr (Or.inr (Or.inr (Or.inr (Or.inr (⟨h_1, h_4, h_7, h_10, h_14, h_16, rfl, rfl⟩)))))))
theorem nf_found : ∀ i, i < 11 → ∀ j, j < 11 → (i ≠ 5 ∨ j ≠ 5) → ∃ k, k < 40 ∧ (ax_tab 0 k) * (nI j - 5) = (ax_tab 1 k) * (nI i - 5) := by decide +kernel
theorem in11 {x : Int32} (h : -5 ≤ x ∧ x ≤ 5) : ∃ i : Nat, i < 11 ∧ x = nI i - 5 := by
  have h1 := Int32.le_iff_toInt_le.mp h.1
  have h2 := Int32.le_iff_toInt_le.mp h.2
  have e1 : (-5 : Int32).toInt = -5 := rfl
  have e2 : (5 : Int32).toInt = 5 := rfl
  rw [e1] at h1
  rw [e2] at h2
  refine ⟨(x.toInt + 5).toNat, by omega, ?_⟩
  apply Int32.toInt_inj.mp
  rw [show (5 : Int32) = nI 5 from rfl, pk_sub_toInt (by omega) (by decide)]
  omega
theorem lp_mwhich {wc : List ax_E} {m_thrown m_trouble m_fault m_where m_taped m_linkMany m_tracerMany m_pointMany m_pairMany m_readLinks m_readTracers m_readPoints m_readPairs m_textLong m_at m_spot m_token m_whole m_readFault m_readPlace m_value m_curveMany m_cornerMany m_straightAt m_walkLink m_walkAngle m_walkBranch m_walkMany m_lined m_actMany a1 a2 : Int32} {m_n m_c m_d m_s m_e m_k m_x m_y m_g m_a m_fitUp m_fitDown m_worstUp m_worstDown : Int64} {z3 z4 z5 z6 z7 z8 z9 z10 z11 z12 z13 z14 z15 z16 z17 z18 z19 z20 : ax_E} : ∀ (n k : Nat), k + n = 40 → (∃ j, k ≤ j ∧ j < 40 ∧ (ax_tab 0 j) * a2 = (ax_tab 1 j) * a1) → Ab M_X11_which (fun r w' => r = some (.int (Nf a1 a2 n k)) ∧ w' = (wc, [ob 9 [.int m_thrown, .int m_trouble, .int m_fault, .int m_where, .ref 1001, .ref 1002, .int 40, .ref 1003, .int m_taped, .int m_linkMany, .int m_tracerMany, .int m_pointMany, .int m_pairMany, .ref 1004, .ref 1005, .ref 1006, .ref 1007, .int m_readLinks, .int m_readTracers, .int m_readPoints, .int m_readPairs, .ref 1008, .ref 1009, .ref 1010, .ref 1011, .int m_textLong, .int m_at, .int m_spot, .int m_token, .int m_whole, .int m_readFault, .int m_readPlace, .int m_value, .long m_n, .long m_c, .long m_d, .long m_s, .long m_e, .long m_k, .long m_x, .long m_y, .long m_g, .long m_a, .ref 1012, .ref 1013, .ref 1014, .int m_curveMany, .ref 1015, .int m_cornerMany, .int m_straightAt, .ref 1016, .long m_fitUp, .long m_fitDown, .long m_worstUp, .long m_worstDown, .ref 1017, .int m_walkLink, .int m_walkAngle, .int m_walkBranch, .int m_walkMany, .ref 1018, .ref 1019, .int m_lined, .ref 1020, .int m_actMany], ia 64 (ax_tab 0), ia 64 (ax_tab 1), z3, z4, z5, z6, z7, z8, z9, z10, z11, z12, z13, z14, z15, z16, z17, z18, z19, z20])) (0, 0) 40 [(3, .int (nI k)), (1, .int a1), (2, .int a2), (0, .ref 1000)] [] (wc, [ob 9 [.int m_thrown, .int m_trouble, .int m_fault, .int m_where, .ref 1001, .ref 1002, .int 40, .ref 1003, .int m_taped, .int m_linkMany, .int m_tracerMany, .int m_pointMany, .int m_pairMany, .ref 1004, .ref 1005, .ref 1006, .ref 1007, .int m_readLinks, .int m_readTracers, .int m_readPoints, .int m_readPairs, .ref 1008, .ref 1009, .ref 1010, .ref 1011, .int m_textLong, .int m_at, .int m_spot, .int m_token, .int m_whole, .int m_readFault, .int m_readPlace, .int m_value, .long m_n, .long m_c, .long m_d, .long m_s, .long m_e, .long m_k, .long m_x, .long m_y, .long m_g, .long m_a, .ref 1012, .ref 1013, .ref 1014, .int m_curveMany, .ref 1015, .int m_cornerMany, .int m_straightAt, .ref 1016, .long m_fitUp, .long m_fitDown, .long m_worstUp, .long m_worstDown, .ref 1017, .int m_walkLink, .int m_walkAngle, .int m_walkBranch, .int m_walkMany, .ref 1018, .ref 1019, .int m_lined, .ref 1020, .int m_actMany], ia 64 (ax_tab 0), ia 64 (ax_tab 1), z3, z4, z5, z6, z7, z8, z9, z10, z11, z12, z13, z14, z15, z16, z17, z18, z19, z20]) := by
  intro n
  induction n with
  | zero =>
    intro k hk hex
    obtain ⟨j, h1, h2, h3⟩ := hex
    omega
  | succ n ih =>
    intro k hk hex
    refine ab_iload_n dX11_which_40 rfl ?_
    refine ab_aload_n dX11_which_41 rfl ?_
    refine ab_getf dX11_which_42 fl_X11_36 rfl rfl ?_
    refine ab_iload_n dX11_which_45 rfl ?_
    refine ab_iald (j := k) dX11_which_46 rfl (ix_nI (by omega) (by decide)) ?_
    refine ab_imul dX11_which_47 ?_
    refine ab_aload_n dX11_which_48 rfl ?_
    refine ab_getf dX11_which_49 fl_X11_32 rfl rfl ?_
    refine ab_iload_n dX11_which_52 rfl ?_
    refine ab_iald (j := k) dX11_which_53 rfl (ix_nI (by omega) (by decide)) ?_
    refine ab_iload_n dX11_which_54 rfl ?_
    refine ab_imul dX11_which_55 ?_
    refine ab_icmpeq 65 dX11_which_56 (by decide) (fun h_1 => ?_) (fun h_1 => ?_)
    · refine ab_iload_n dX11_which_65 rfl ?_
      exact ab_iret dX11_which_66 rfl (by decide) ⟨by rw [show Nf a1 a2 (n + 1) k = nI k from if_pos (by rw [← h_1, Int32.mul_comm])], rfl⟩
    · refine ab_iinc (v := (nI (k + 1))) (la' := [(3, .int (nI (k + 1))), (1, .int a1), (2, .int a2), (0, .ref 1000)]) dX11_which_59 rfl (nI_1 _) (by decide) rfl ?_
      refine ab_goto 40 dX11_which_62 (by decide) ?_
      refine ab_pick [0, 1, 2, 3] rfl ?_
      have hne : ¬ (ax_tab 0 k) * a2 = (ax_tab 1 k) * a1 := fun z => h_1 (by rw [z, Int32.mul_comm])
      rw [show Nf a1 a2 (n + 1) k = Nf a1 a2 n (k + 1) from if_neg hne]
      refine ih (k + 1) (by omega) ?_
      obtain ⟨j, h1, h2, h3⟩ := hex
      refine ⟨j, ?_, h2, h3⟩
      rcases Nat.lt_or_ge k j with q | q
      · exact q
      · exact absurd (by rw [show k = j by omega]; exact h3) hne
theorem wh_ex {p q : Int32} (hp : -5 ≤ p ∧ p ≤ 5) (hq : -5 ≤ q ∧ q ≤ 5) (h : ¬ p = 0 ∨ ¬ q = 0) : ∃ j, 0 ≤ j ∧ j < 40 ∧ (ax_tab 0 j) * q = (ax_tab 1 j) * p := by
  obtain ⟨i, hi, rfl⟩ := in11 hp
  obtain ⟨j, hj, rfl⟩ := in11 hq
  obtain ⟨k, h1, h2⟩ := nf_found i hi j hj (by
    rcases h with h | h
    · exact Or.inl (fun z => h (by rw [z]; rfl))
    · exact Or.inr (fun z => h (by rw [z]; rfl)))
  exact ⟨k, Nat.zero_le _, h1, h2⟩
theorem c_X11_which {wc : List ax_E} {m_thrown m_trouble m_fault m_where m_taped m_linkMany m_tracerMany m_pointMany m_pairMany m_readLinks m_readTracers m_readPoints m_readPairs m_textLong m_at m_spot m_token m_whole m_readFault m_readPlace m_value m_curveMany m_cornerMany m_straightAt m_walkLink m_walkAngle m_walkBranch m_walkMany m_lined m_actMany a1 a2 : Int32} {m_n m_c m_d m_s m_e m_k m_x m_y m_g m_a m_fitUp m_fitDown m_worstUp m_worstDown : Int64} {z3 z4 z5 z6 z7 z8 z9 z10 z11 z12 z13 z14 z15 z16 z17 z18 z19 z20 : ax_E}  : Ct M_X11_which [.ref 1000, .int a1, .int a2] (wc, [ob 9 [.int m_thrown, .int m_trouble, .int m_fault, .int m_where, .ref 1001, .ref 1002, .int 40, .ref 1003, .int m_taped, .int m_linkMany, .int m_tracerMany, .int m_pointMany, .int m_pairMany, .ref 1004, .ref 1005, .ref 1006, .ref 1007, .int m_readLinks, .int m_readTracers, .int m_readPoints, .int m_readPairs, .ref 1008, .ref 1009, .ref 1010, .ref 1011, .int m_textLong, .int m_at, .int m_spot, .int m_token, .int m_whole, .int m_readFault, .int m_readPlace, .int m_value, .long m_n, .long m_c, .long m_d, .long m_s, .long m_e, .long m_k, .long m_x, .long m_y, .long m_g, .long m_a, .ref 1012, .ref 1013, .ref 1014, .int m_curveMany, .ref 1015, .int m_cornerMany, .int m_straightAt, .ref 1016, .long m_fitUp, .long m_fitDown, .long m_worstUp, .long m_worstDown, .ref 1017, .int m_walkLink, .int m_walkAngle, .int m_walkBranch, .int m_walkMany, .ref 1018, .ref 1019, .int m_lined, .ref 1020, .int m_actMany], ia 64 (ax_tab 0), ia 64 (ax_tab 1), z3, z4, z5, z6, z7, z8, z9, z10, z11, z12, z13, z14, z15, z16, z17, z18, z19, z20]) (fun r w' => (((-5) ≤ a1 ∧ a1 ≤ 5) ∧ ((-5) ≤ a2 ∧ a2 ≤ 5) ∧ (¬ a1 = 0) ∧ r = some (.int (Nf a1 a2 40 0)) ∧ w' = (wc, [ob 9 [.int 0, .int 0, .int m_fault, .int (-1), .ref 1001, .ref 1002, .int 40, .ref 1003, .int m_taped, .int m_linkMany, .int m_tracerMany, .int m_pointMany, .int m_pairMany, .ref 1004, .ref 1005, .ref 1006, .ref 1007, .int m_readLinks, .int m_readTracers, .int m_readPoints, .int m_readPairs, .ref 1008, .ref 1009, .ref 1010, .ref 1011, .int m_textLong, .int m_at, .int m_spot, .int m_token, .int m_whole, .int m_readFault, .int m_readPlace, .int m_value, .long m_n, .long m_c, .long m_d, .long m_s, .long m_e, .long m_k, .long m_x, .long m_y, .long m_g, .long m_a, .ref 1012, .ref 1013, .ref 1014, .int m_curveMany, .ref 1015, .int m_cornerMany, .int m_straightAt, .ref 1016, .long m_fitUp, .long m_fitDown, .long m_worstUp, .long m_worstDown, .ref 1017, .int m_walkLink, .int m_walkAngle, .int m_walkBranch, .int m_walkMany, .ref 1018, .ref 1019, .int m_lined, .ref 1020, .int m_actMany], ia 64 (ax_tab 0), ia 64 (ax_tab 1), z3, z4, z5, z6, z7, z8, z9, z10, z11, z12, z13, z14, z15, z16, z17, z18, z19, z20])) ∨ (((-5) ≤ a1 ∧ a1 ≤ 5) ∧ ((-5) ≤ a2 ∧ a2 ≤ 5) ∧ (a1 = 0) ∧ (¬ a2 = 0) ∧ r = some (.int (Nf a1 a2 40 0)) ∧ w' = (wc, [ob 9 [.int 0, .int 0, .int m_fault, .int (-1), .ref 1001, .ref 1002, .int 40, .ref 1003, .int m_taped, .int m_linkMany, .int m_tracerMany, .int m_pointMany, .int m_pairMany, .ref 1004, .ref 1005, .ref 1006, .ref 1007, .int m_readLinks, .int m_readTracers, .int m_readPoints, .int m_readPairs, .ref 1008, .ref 1009, .ref 1010, .ref 1011, .int m_textLong, .int m_at, .int m_spot, .int m_token, .int m_whole, .int m_readFault, .int m_readPlace, .int m_value, .long m_n, .long m_c, .long m_d, .long m_s, .long m_e, .long m_k, .long m_x, .long m_y, .long m_g, .long m_a, .ref 1012, .ref 1013, .ref 1014, .int m_curveMany, .ref 1015, .int m_cornerMany, .int m_straightAt, .ref 1016, .long m_fitUp, .long m_fitDown, .long m_worstUp, .long m_worstDown, .ref 1017, .int m_walkLink, .int m_walkAngle, .int m_walkBranch, .int m_walkMany, .ref 1018, .ref 1019, .int m_lined, .ref 1020, .int m_actMany], ia 64 (ax_tab 0), ia 64 (ax_tab 1), z3, z4, z5, z6, z7, z8, z9, z10, z11, z12, z13, z14, z15, z16, z17, z18, z19, z20])) ∨ (((-5) ≤ a1 ∧ a1 ≤ 5) ∧ ((-5) ≤ a2 ∧ a2 ≤ 5) ∧ (a1 = 0) ∧ (a2 = 0) ∧ r = some (.int (-1)) ∧ w' = (wc, [ob 9 [.int 0, .int 2, .int m_fault, .int (-1), .ref 1001, .ref 1002, .int 40, .ref 1003, .int m_taped, .int m_linkMany, .int m_tracerMany, .int m_pointMany, .int m_pairMany, .ref 1004, .ref 1005, .ref 1006, .ref 1007, .int m_readLinks, .int m_readTracers, .int m_readPoints, .int m_readPairs, .ref 1008, .ref 1009, .ref 1010, .ref 1011, .int m_textLong, .int m_at, .int m_spot, .int m_token, .int m_whole, .int m_readFault, .int m_readPlace, .int m_value, .long m_n, .long m_c, .long m_d, .long m_s, .long m_e, .long m_k, .long m_x, .long m_y, .long m_g, .long m_a, .ref 1012, .ref 1013, .ref 1014, .int m_curveMany, .ref 1015, .int m_cornerMany, .int m_straightAt, .ref 1016, .long m_fitUp, .long m_fitDown, .long m_worstUp, .long m_worstDown, .ref 1017, .int m_walkLink, .int m_walkAngle, .int m_walkBranch, .int m_walkMany, .ref 1018, .ref 1019, .int m_lined, .ref 1020, .int m_actMany], ia 64 (ax_tab 0), ia 64 (ax_tab 1), z3, z4, z5, z6, z7, z8, z9, z10, z11, z12, z13, z14, z15, z16, z17, z18, z19, z20])) ∨ (((-5) ≤ a1 ∧ a1 ≤ 5) ∧ (¬ ((-5) ≤ a2 ∧ a2 ≤ 5)) ∧ r = some (.int (-1)) ∧ w' = (wc, [ob 9 [.int 0, .int 2, .int m_fault, .int (-1), .ref 1001, .ref 1002, .int 40, .ref 1003, .int m_taped, .int m_linkMany, .int m_tracerMany, .int m_pointMany, .int m_pairMany, .ref 1004, .ref 1005, .ref 1006, .ref 1007, .int m_readLinks, .int m_readTracers, .int m_readPoints, .int m_readPairs, .ref 1008, .ref 1009, .ref 1010, .ref 1011, .int m_textLong, .int m_at, .int m_spot, .int m_token, .int m_whole, .int m_readFault, .int m_readPlace, .int m_value, .long m_n, .long m_c, .long m_d, .long m_s, .long m_e, .long m_k, .long m_x, .long m_y, .long m_g, .long m_a, .ref 1012, .ref 1013, .ref 1014, .int m_curveMany, .ref 1015, .int m_cornerMany, .int m_straightAt, .ref 1016, .long m_fitUp, .long m_fitDown, .long m_worstUp, .long m_worstDown, .ref 1017, .int m_walkLink, .int m_walkAngle, .int m_walkBranch, .int m_walkMany, .ref 1018, .ref 1019, .int m_lined, .ref 1020, .int m_actMany], ia 64 (ax_tab 0), ia 64 (ax_tab 1), z3, z4, z5, z6, z7, z8, z9, z10, z11, z12, z13, z14, z15, z16, z17, z18, z19, z20])) ∨ ((¬ ((-5) ≤ a1 ∧ a1 ≤ 5)) ∧ r = some (.int (-1)) ∧ w' = (wc, [ob 9 [.int 0, .int 2, .int m_fault, .int (-1), .ref 1001, .ref 1002, .int 40, .ref 1003, .int m_taped, .int m_linkMany, .int m_tracerMany, .int m_pointMany, .int m_pairMany, .ref 1004, .ref 1005, .ref 1006, .ref 1007, .int m_readLinks, .int m_readTracers, .int m_readPoints, .int m_readPairs, .ref 1008, .ref 1009, .ref 1010, .ref 1011, .int m_textLong, .int m_at, .int m_spot, .int m_token, .int m_whole, .int m_readFault, .int m_readPlace, .int m_value, .long m_n, .long m_c, .long m_d, .long m_s, .long m_e, .long m_k, .long m_x, .long m_y, .long m_g, .long m_a, .ref 1012, .ref 1013, .ref 1014, .int m_curveMany, .ref 1015, .int m_cornerMany, .int m_straightAt, .ref 1016, .long m_fitUp, .long m_fitDown, .long m_worstUp, .long m_worstDown, .ref 1017, .int m_walkLink, .int m_walkAngle, .int m_walkBranch, .int m_walkMany, .ref 1018, .ref 1019, .int m_lined, .ref 1020, .int m_actMany], ia 64 (ax_tab 0), ia 64 (ax_tab 1), z3, z4, z5, z6, z7, z8, z9, z10, z11, z12, z13, z14, z15, z16, z17, z18, z19, z20]))) := by
  refine ct_of ⟨by decide, rfl⟩ (Nat.le_of_ble_eq_true rfl) ?_
  refine ab_aload_n dX11_which_0 rfl ?_
  refine ab_callV (As := []) (rest := []) dX11_which_1 mv_X11_anew ml_X11_104 ⟨by decide, by decide, rfl, rfl, rfl⟩ (by decide) rfl rfl (Nat.le_of_ble_eq_true rfl) rfl c_X11_anew ?_
  rintro r w' ⟨rfl, rfl⟩
  refine ab_iload_n dX11_which_4 rfl ?_
  refine ab_bipush (v := -5) dX11_which_5 (by decide) ?_
  refine ab_iconst (v := 5) dX11_which_7 (by decide) ?_
  refine ab_callS (As := [.int a1, .int (-5), .int 5]) (rest := []) dX11_which_8 ms_X11_in ml_X11_107 ⟨by decide, by decide, rfl, rfl, rfl⟩ (by decide) rfl rfl (Nat.le_of_ble_eq_true rfl) c_X11_in ?_
  rintro r w' (⟨c_1, rfl, rfl⟩ | ⟨c_2, rfl, rfl⟩)
  · refine ab_ifeq 32 dX11_which_11 (by decide) (fun h_3 => absurd h_3 (by decide)) (fun h_3 => ?_)
    refine ab_iload_n dX11_which_14 rfl ?_
    refine ab_bipush (v := -5) dX11_which_15 (by decide) ?_
    refine ab_iconst (v := 5) dX11_which_17 (by decide) ?_
    refine ab_callS (As := [.int a2, .int (-5), .int 5]) (rest := []) dX11_which_18 ms_X11_in ml_X11_107 ⟨by decide, by decide, rfl, rfl, rfl⟩ (by decide) rfl rfl (Nat.le_of_ble_eq_true rfl) c_X11_in ?_
    rintro r w' (⟨c_4, rfl, rfl⟩ | ⟨c_5, rfl, rfl⟩)
    · refine ab_ifeq 32 dX11_which_21 (by decide) (fun h_6 => absurd h_6 (by decide)) (fun h_6 => ?_)
      refine ab_iload_n dX11_which_24 rfl ?_
      refine ab_ifne 38 dX11_which_25 (by decide) (fun h_7 => ?_) (fun h_7 => ?_)
      · refine ab_iconst (v := 0) dX11_which_38 (by decide) ?_
        refine ab_istore_n (la' := [(3, .int 0), (0, .ref 1000), (1, .int a1), (2, .int a2)]) dX11_which_39 (by decide) rfl ?_
        refine ab_pick [0, 2, 3, 1] rfl ?_
        refine Ct.mono2 (lp_mwhich 40 0 (by omega) (wh_ex c_1 c_4 (Or.inl h_7))) ?_
        rintro r w' ⟨h1, h2⟩
        exact (Or.inl ⟨c_1, c_4, h_7, h1, h2⟩)
      · refine ab_iload_n dX11_which_28 rfl ?_
        refine ab_ifne 38 dX11_which_29 (by decide) (fun h_8 => ?_) (fun h_8 => ?_)
        · refine ab_iconst (v := 0) dX11_which_38 (by decide) ?_
          refine ab_istore_n (la' := [(3, .int 0), (0, .ref 1000), (1, .int a1), (2, .int a2)]) dX11_which_39 (by decide) rfl ?_
          refine ab_pick [0, 2, 3, 1] rfl ?_
          refine Ct.mono2 (lp_mwhich 40 0 (by omega) (wh_ex c_1 c_4 (Or.inr h_8))) ?_
          rintro r w' ⟨h1, h2⟩
          exact (Or.inr (Or.inl ⟨c_1, c_4, h_7, h_8, h1, h2⟩))
        · refine ab_aload_n dX11_which_32 rfl ?_
          refine ab_iconst (v := 2) dX11_which_33 (by decide) ?_
          refine ab_callV (As := [.int 2]) (rest := []) dX11_which_34 mv_X11_no ml_X11_115 ⟨by decide, by decide, rfl, rfl, rfl⟩ (by decide) rfl rfl (Nat.le_of_ble_eq_true rfl) rfl c_X11_no ?_
          rintro r w' ⟨rfl, rfl⟩
          exact ab_iret dX11_which_37 rfl (by decide) (Or.inr (Or.inr (Or.inl ⟨c_1, c_4, h_7, h_8, rfl, rfl⟩)))
    · refine ab_ifeq 32 dX11_which_21 (by decide) (fun h_9 => ?_) (fun h_9 => absurd (by decide) h_9)
      refine ab_aload_n dX11_which_32 rfl ?_
      refine ab_iconst (v := 2) dX11_which_33 (by decide) ?_
      refine ab_callV (As := [.int 2]) (rest := []) dX11_which_34 mv_X11_no ml_X11_115 ⟨by decide, by decide, rfl, rfl, rfl⟩ (by decide) rfl rfl (Nat.le_of_ble_eq_true rfl) rfl c_X11_no ?_
      rintro r w' ⟨rfl, rfl⟩
      exact ab_iret dX11_which_37 rfl (by decide) (Or.inr (Or.inr (Or.inr (Or.inl ⟨c_1, c_5, rfl, rfl⟩))))
  · refine ab_ifeq 32 dX11_which_11 (by decide) (fun h_10 => ?_) (fun h_10 => absurd (by decide) h_10)
    refine ab_aload_n dX11_which_32 rfl ?_
    refine ab_iconst (v := 2) dX11_which_33 (by decide) ?_
    refine ab_callV (As := [.int 2]) (rest := []) dX11_which_34 mv_X11_no ml_X11_115 ⟨by decide, by decide, rfl, rfl, rfl⟩ (by decide) rfl rfl (Nat.le_of_ble_eq_true rfl) rfl c_X11_no ?_
    rintro r w' ⟨rfl, rfl⟩
    exact ab_iret dX11_which_37 rfl (by decide) (Or.inr (Or.inr (Or.inr (Or.inr (⟨c_2, rfl, rfl⟩)))))
