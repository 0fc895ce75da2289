theorem ab_ldcw {Y : ax_M} {Q : Option Value → ax_W → Prop} {kn : Nat × Nat} {pc i : Nat} {la : List (Nat × Value)} {rest : List Value} {w : ax_W} {v : Int32} (d : decode Y.2.1 pc = .ok (.ldc_w i, 3)) (hw : Cond.constant Y.1.cls i v ∈ TB) (k : Ab Y Q kn (pc + 3) la (.int v :: rest) w) : Ab Y Q kn pc la rest w :=
  fun p l e R s m args below meth c D ca ad A Qf H locs ls hC hP hl hE => lv_ldcw hC.1 hC.2.1 hC.2.2.2.2.1 (hC.2.2.2.2.2.1 _ hw) d (k p l e R s m args below meth c D ca ad A Qf H locs ls hC hP hl hE)
theorem p2 {a b : Nat} (h : a ≤ b) : 2 ^ a ≤ 2 ^ b := Nat.pow_le_pow_right (by decide) h
/-- m by 2 ^ t below 4 tells how many bits m has -/
theorem nlz_le {m t z q : Nat} (hz : z + t + q / 2 = 31) (hq : q < 4 ∧ m < (q + 1) * 2 ^ t) : m < 2 ^ (32 - z) := by
  have h1 : q + 1 ≤ 2 ^ (1 + q / 2) := by
    rcases (show q = 0 ∨ q = 1 ∨ q = 2 ∨ q = 3 by omega) with rfl | rfl | rfl | rfl <;> decide
  have h2 : (q + 1) * 2 ^ t ≤ 2 ^ (1 + q / 2) * 2 ^ t := Nat.mul_le_mul_right _ h1
  rw [← Nat.pow_add] at h2
  rw [show 32 - z = 1 + q / 2 + t by omega]
  omega
theorem c_J6_nlz {w : ax_W} {m : Nat} (h0 : 0 < m) (hm : m < 2 ^ 31) : Ct M_J6_numberOfLeadingZeros_0f7a4 [.int (nI m)] w (fun r w' => ∃ z : Nat, (z ≤ 31) ∧ (m < 2 ^ (32 - z)) ∧ r = some (.int (nI z)) ∧ w' = w) := by
  refine ct_ofF ⟨by decide +kernel, rfl⟩ (Nat.le_of_ble_eq_true rfl) ?_
  refine ab_iload_n dJ6_numberOfLeadingZeros_0f7a4_0 rfl ?_
  refine ab_ifgt 15 dJ6_numberOfLeadingZeros_0f7a4_1 (by decide) (fun h_1 => ?_) (fun h_1 => absurd (nI_lt (a := 0) h0 hm) h_1)
  refine ab_bipush (v := 31) dJ6_numberOfLeadingZeros_0f7a4_15 (by decide) ?_
  refine ab_istore_n (la' := [(1, .int 31), (0, .int (nI m))]) dJ6_numberOfLeadingZeros_0f7a4_17 (by decide) rfl ?_
  refine ab_iload_n dJ6_numberOfLeadingZeros_0f7a4_18 rfl ?_
  refine ab_ldcw dJ6_numberOfLeadingZeros_0f7a4_19 kc_J6_264 ?_
  refine ab_icmplt 33 dJ6_numberOfLeadingZeros_0f7a4_22 (by decide) (fun h_2 => ?_) (fun h_2 => ?_)
  · have h_2n := (nI_ltI (a := m) (b := 65536) (by omega) (by omega)).mp h_2
    refine ab_iload_n dJ6_numberOfLeadingZeros_0f7a4_33 rfl ?_
    refine ab_sipush (v := 256) dJ6_numberOfLeadingZeros_0f7a4_34 (by decide) ?_
    refine ab_icmplt 48 dJ6_numberOfLeadingZeros_0f7a4_37 (by decide) (fun h_3 => ?_) (fun h_3 => ?_)
    · have h_3n := (nI_ltI (a := m) (b := 256) (by omega) (by omega)).mp h_3
      refine ab_iload_n dJ6_numberOfLeadingZeros_0f7a4_48 rfl ?_
      refine ab_bipush (v := 16) dJ6_numberOfLeadingZeros_0f7a4_49 (by decide) ?_
      refine ab_icmplt 61 dJ6_numberOfLeadingZeros_0f7a4_51 (by decide) (fun h_4 => ?_) (fun h_4 => ?_)
      · have h_4n := (nI_ltI (a := m) (b := 16) (by omega) (by omega)).mp h_4
        refine ab_iload_n dJ6_numberOfLeadingZeros_0f7a4_61 rfl ?_
        refine ab_iconst (v := 4) dJ6_numberOfLeadingZeros_0f7a4_62 (by decide) ?_
        refine ab_icmplt 73 dJ6_numberOfLeadingZeros_0f7a4_63 (by decide) (fun h_5 => ?_) (fun h_5 => ?_)
        · have h_5n := (nI_ltI (a := m) (b := 4) (by omega) (by omega)).mp h_5
          refine ab_iload_n dJ6_numberOfLeadingZeros_0f7a4_73 rfl ?_
          refine ab_iload_n dJ6_numberOfLeadingZeros_0f7a4_74 rfl ?_
          refine ab_iconst (v := 1) dJ6_numberOfLeadingZeros_0f7a4_75 (by decide) ?_
          refine ab_iushr dJ6_numberOfLeadingZeros_0f7a4_76 ?_
          refine ab_topi (v := (nI (m / 2))) (pk_ushrN (by omega) 1 1 (by decide)) ?_
          refine ab_isub dJ6_numberOfLeadingZeros_0f7a4_77 ?_
          refine ab_topi (v := (nI (31 - (m / 2)))) (pk_sub (a := 31) (by omega)) ?_
          exact ab_iret dJ6_numberOfLeadingZeros_0f7a4_78 rfl (by decide) ⟨31 - (m / 2), by omega, nlz_le (t := 0) (q := m) (by omega) ⟨by omega, by omega⟩, rfl, rfl⟩
        · have h_5n := fun z => h_5 ((nI_ltI (a := m) (b := 4) (by omega) (by omega)).mpr z)
          refine ab_iinc (v := 29) (la' := [(1, .int 29), (0, .int (nI m))]) dJ6_numberOfLeadingZeros_0f7a4_66 rfl (by decide) (by decide) rfl ?_
          refine ab_iload_n dJ6_numberOfLeadingZeros_0f7a4_69 rfl ?_
          refine ab_iconst (v := 2) dJ6_numberOfLeadingZeros_0f7a4_70 (by decide) ?_
          refine ab_iushr dJ6_numberOfLeadingZeros_0f7a4_71 ?_
          refine ab_topi (v := (nI (m / 4))) (pk_ushrN (by omega) 2 2 (by decide)) ?_
          refine ab_istore_n (la' := [(0, .int (nI (m / 4))), (1, .int 29)]) dJ6_numberOfLeadingZeros_0f7a4_72 (by decide) rfl ?_
          refine ab_iload_n dJ6_numberOfLeadingZeros_0f7a4_73 rfl ?_
          refine ab_iload_n dJ6_numberOfLeadingZeros_0f7a4_74 rfl ?_
          refine ab_iconst (v := 1) dJ6_numberOfLeadingZeros_0f7a4_75 (by decide) ?_
          refine ab_iushr dJ6_numberOfLeadingZeros_0f7a4_76 ?_
          refine ab_topi (v := (nI ((m / 4) / 2))) (pk_ushrN (by omega) 1 1 (by decide)) ?_
          refine ab_isub dJ6_numberOfLeadingZeros_0f7a4_77 ?_
          refine ab_topi (v := (nI (29 - ((m / 4) / 2)))) (pk_sub (a := 29) (by omega)) ?_
          exact ab_iret dJ6_numberOfLeadingZeros_0f7a4_78 rfl (by decide) ⟨29 - ((m / 4) / 2), by omega, nlz_le (t := 2) (q := (m / 4)) (by omega) ⟨by omega, by omega⟩, rfl, rfl⟩
      · have h_4n := fun z => h_4 ((nI_ltI (a := m) (b := 16) (by omega) (by omega)).mpr z)
        refine ab_iinc (v := 27) (la' := [(1, .int 27), (0, .int (nI m))]) dJ6_numberOfLeadingZeros_0f7a4_54 rfl (by decide) (by decide) rfl ?_
        refine ab_iload_n dJ6_numberOfLeadingZeros_0f7a4_57 rfl ?_
        refine ab_iconst (v := 4) dJ6_numberOfLeadingZeros_0f7a4_58 (by decide) ?_
        refine ab_iushr dJ6_numberOfLeadingZeros_0f7a4_59 ?_
        refine ab_topi (v := (nI (m / 16))) (pk_ushrN (by omega) 4 4 (by decide)) ?_
        refine ab_istore_n (la' := [(0, .int (nI (m / 16))), (1, .int 27)]) dJ6_numberOfLeadingZeros_0f7a4_60 (by decide) rfl ?_
        refine ab_iload_n dJ6_numberOfLeadingZeros_0f7a4_61 rfl ?_
        refine ab_iconst (v := 4) dJ6_numberOfLeadingZeros_0f7a4_62 (by decide) ?_
        refine ab_icmplt 73 dJ6_numberOfLeadingZeros_0f7a4_63 (by decide) (fun h_6 => ?_) (fun h_6 => ?_)
        · have h_6n := (nI_ltI (a := (m / 16)) (b := 4) (by omega) (by omega)).mp h_6
          refine ab_iload_n dJ6_numberOfLeadingZeros_0f7a4_73 rfl ?_
          refine ab_iload_n dJ6_numberOfLeadingZeros_0f7a4_74 rfl ?_
          refine ab_iconst (v := 1) dJ6_numberOfLeadingZeros_0f7a4_75 (by decide) ?_
          refine ab_iushr dJ6_numberOfLeadingZeros_0f7a4_76 ?_
          refine ab_topi (v := (nI ((m / 16) / 2))) (pk_ushrN (by omega) 1 1 (by decide)) ?_
          refine ab_isub dJ6_numberOfLeadingZeros_0f7a4_77 ?_
          refine ab_topi (v := (nI (27 - ((m / 16) / 2)))) (pk_sub (a := 27) (by omega)) ?_
          exact ab_iret dJ6_numberOfLeadingZeros_0f7a4_78 rfl (by decide) ⟨27 - ((m / 16) / 2), by omega, nlz_le (t := 4) (q := (m / 16)) (by omega) ⟨by omega, by omega⟩, rfl, rfl⟩
        · have h_6n := fun z => h_6 ((nI_ltI (a := (m / 16)) (b := 4) (by omega) (by omega)).mpr z)
          refine ab_iinc (v := 25) (la' := [(1, .int 25), (0, .int (nI (m / 16)))]) dJ6_numberOfLeadingZeros_0f7a4_66 rfl (by decide) (by decide) rfl ?_
          refine ab_iload_n dJ6_numberOfLeadingZeros_0f7a4_69 rfl ?_
          refine ab_iconst (v := 2) dJ6_numberOfLeadingZeros_0f7a4_70 (by decide) ?_
          refine ab_iushr dJ6_numberOfLeadingZeros_0f7a4_71 ?_
          refine ab_topi (v := (nI ((m / 16) / 4))) (pk_ushrN (by omega) 2 2 (by decide)) ?_
          refine ab_istore_n (la' := [(0, .int (nI ((m / 16) / 4))), (1, .int 25)]) dJ6_numberOfLeadingZeros_0f7a4_72 (by decide) rfl ?_
          refine ab_iload_n dJ6_numberOfLeadingZeros_0f7a4_73 rfl ?_
          refine ab_iload_n dJ6_numberOfLeadingZeros_0f7a4_74 rfl ?_
          refine ab_iconst (v := 1) dJ6_numberOfLeadingZeros_0f7a4_75 (by decide) ?_
          refine ab_iushr dJ6_numberOfLeadingZeros_0f7a4_76 ?_
          refine ab_topi (v := (nI (((m / 16) / 4) / 2))) (pk_ushrN (by omega) 1 1 (by decide)) ?_
          refine ab_isub dJ6_numberOfLeadingZeros_0f7a4_77 ?_
          refine ab_topi (v := (nI (25 - (((m / 16) / 4) / 2)))) (pk_sub (a := 25) (by omega)) ?_
          exact ab_iret dJ6_numberOfLeadingZeros_0f7a4_78 rfl (by decide) ⟨25 - (((m / 16) / 4) / 2), by omega, nlz_le (t := 6) (q := ((m / 16) / 4)) (by omega) ⟨by omega, by omega⟩, rfl, rfl⟩
    · have h_3n := fun z => h_3 ((nI_ltI (a := m) (b := 256) (by omega) (by omega)).mpr z)
      refine ab_iinc (v := 23) (la' := [(1, .int 23), (0, .int (nI m))]) dJ6_numberOfLeadingZeros_0f7a4_40 rfl (by decide) (by decide) rfl ?_
      refine ab_iload_n dJ6_numberOfLeadingZeros_0f7a4_43 rfl ?_
      refine ab_bipush (v := 8) dJ6_numberOfLeadingZeros_0f7a4_44 (by decide) ?_
      refine ab_iushr dJ6_numberOfLeadingZeros_0f7a4_46 ?_
      refine ab_topi (v := (nI (m / 256))) (pk_ushrN (by omega) 8 8 (by decide)) ?_
      refine ab_istore_n (la' := [(0, .int (nI (m / 256))), (1, .int 23)]) dJ6_numberOfLeadingZeros_0f7a4_47 (by decide) rfl ?_
      refine ab_iload_n dJ6_numberOfLeadingZeros_0f7a4_48 rfl ?_
      refine ab_bipush (v := 16) dJ6_numberOfLeadingZeros_0f7a4_49 (by decide) ?_
      refine ab_icmplt 61 dJ6_numberOfLeadingZeros_0f7a4_51 (by decide) (fun h_7 => ?_) (fun h_7 => ?_)
      · have h_7n := (nI_ltI (a := (m / 256)) (b := 16) (by omega) (by omega)).mp h_7
        refine ab_iload_n dJ6_numberOfLeadingZeros_0f7a4_61 rfl ?_
        refine ab_iconst (v := 4) dJ6_numberOfLeadingZeros_0f7a4_62 (by decide) ?_
        refine ab_icmplt 73 dJ6_numberOfLeadingZeros_0f7a4_63 (by decide) (fun h_8 => ?_) (fun h_8 => ?_)
        · have h_8n := (nI_ltI (a := (m / 256)) (b := 4) (by omega) (by omega)).mp h_8
          refine ab_iload_n dJ6_numberOfLeadingZeros_0f7a4_73 rfl ?_
          refine ab_iload_n dJ6_numberOfLeadingZeros_0f7a4_74 rfl ?_
          refine ab_iconst (v := 1) dJ6_numberOfLeadingZeros_0f7a4_75 (by decide) ?_
          refine ab_iushr dJ6_numberOfLeadingZeros_0f7a4_76 ?_
          refine ab_topi (v := (nI ((m / 256) / 2))) (pk_ushrN (by omega) 1 1 (by decide)) ?_
          refine ab_isub dJ6_numberOfLeadingZeros_0f7a4_77 ?_
          refine ab_topi (v := (nI (23 - ((m / 256) / 2)))) (pk_sub (a := 23) (by omega)) ?_
          exact ab_iret dJ6_numberOfLeadingZeros_0f7a4_78 rfl (by decide) ⟨23 - ((m / 256) / 2), by omega, nlz_le (t := 8) (q := (m / 256)) (by omega) ⟨by omega, by omega⟩, rfl, rfl⟩
        · have h_8n := fun z => h_8 ((nI_ltI (a := (m / 256)) (b := 4) (by omega) (by omega)).mpr z)
          refine ab_iinc (v := 21) (la' := [(1, .int 21), (0, .int (nI (m / 256)))]) dJ6_numberOfLeadingZeros_0f7a4_66 rfl (by decide) (by decide) rfl ?_
          refine ab_iload_n dJ6_numberOfLeadingZeros_0f7a4_69 rfl ?_
          refine ab_iconst (v := 2) dJ6_numberOfLeadingZeros_0f7a4_70 (by decide) ?_
          refine ab_iushr dJ6_numberOfLeadingZeros_0f7a4_71 ?_
          refine ab_topi (v := (nI ((m / 256) / 4))) (pk_ushrN (by omega) 2 2 (by decide)) ?_
          refine ab_istore_n (la' := [(0, .int (nI ((m / 256) / 4))), (1, .int 21)]) dJ6_numberOfLeadingZeros_0f7a4_72 (by decide) rfl ?_
          refine ab_iload_n dJ6_numberOfLeadingZeros_0f7a4_73 rfl ?_
          refine ab_iload_n dJ6_numberOfLeadingZeros_0f7a4_74 rfl ?_
          refine ab_iconst (v := 1) dJ6_numberOfLeadingZeros_0f7a4_75 (by decide) ?_
          refine ab_iushr dJ6_numberOfLeadingZeros_0f7a4_76 ?_
          refine ab_topi (v := (nI (((m / 256) / 4) / 2))) (pk_ushrN (by omega) 1 1 (by decide)) ?_
          refine ab_isub dJ6_numberOfLeadingZeros_0f7a4_77 ?_
          refine ab_topi (v := (nI (21 - (((m / 256) / 4) / 2)))) (pk_sub (a := 21) (by omega)) ?_
          exact ab_iret dJ6_numberOfLeadingZeros_0f7a4_78 rfl (by decide) ⟨21 - (((m / 256) / 4) / 2), by omega, nlz_le (t := 10) (q := ((m / 256) / 4)) (by omega) ⟨by omega, by omega⟩, rfl, rfl⟩
      · have h_7n := fun z => h_7 ((nI_ltI (a := (m / 256)) (b := 16) (by omega) (by omega)).mpr z)
        refine ab_iinc (v := 19) (la' := [(1, .int 19), (0, .int (nI (m / 256)))]) dJ6_numberOfLeadingZeros_0f7a4_54 rfl (by decide) (by decide) rfl ?_
        refine ab_iload_n dJ6_numberOfLeadingZeros_0f7a4_57 rfl ?_
        refine ab_iconst (v := 4) dJ6_numberOfLeadingZeros_0f7a4_58 (by decide) ?_
        refine ab_iushr dJ6_numberOfLeadingZeros_0f7a4_59 ?_
        refine ab_topi (v := (nI ((m / 256) / 16))) (pk_ushrN (by omega) 4 4 (by decide)) ?_
        refine ab_istore_n (la' := [(0, .int (nI ((m / 256) / 16))), (1, .int 19)]) dJ6_numberOfLeadingZeros_0f7a4_60 (by decide) rfl ?_
        refine ab_iload_n dJ6_numberOfLeadingZeros_0f7a4_61 rfl ?_
        refine ab_iconst (v := 4) dJ6_numberOfLeadingZeros_0f7a4_62 (by decide) ?_
        refine ab_icmplt 73 dJ6_numberOfLeadingZeros_0f7a4_63 (by decide) (fun h_9 => ?_) (fun h_9 => ?_)
        · have h_9n := (nI_ltI (a := ((m / 256) / 16)) (b := 4) (by omega) (by omega)).mp h_9
          refine ab_iload_n dJ6_numberOfLeadingZeros_0f7a4_73 rfl ?_
          refine ab_iload_n dJ6_numberOfLeadingZeros_0f7a4_74 rfl ?_
          refine ab_iconst (v := 1) dJ6_numberOfLeadingZeros_0f7a4_75 (by decide) ?_
          refine ab_iushr dJ6_numberOfLeadingZeros_0f7a4_76 ?_
          refine ab_topi (v := (nI (((m / 256) / 16) / 2))) (pk_ushrN (by omega) 1 1 (by decide)) ?_
          refine ab_isub dJ6_numberOfLeadingZeros_0f7a4_77 ?_
          refine ab_topi (v := (nI (19 - (((m / 256) / 16) / 2)))) (pk_sub (a := 19) (by omega)) ?_
          exact ab_iret dJ6_numberOfLeadingZeros_0f7a4_78 rfl (by decide) ⟨19 - (((m / 256) / 16) / 2), by omega, nlz_le (t := 12) (q := ((m / 256) / 16)) (by omega) ⟨by omega, by omega⟩, rfl, rfl⟩
        · have h_9n := fun z => h_9 ((nI_ltI (a := ((m / 256) / 16)) (b := 4) (by omega) (by omega)).mpr z)
          refine ab_iinc (v := 17) (la' := [(1, .int 17), (0, .int (nI ((m / 256) / 16)))]) dJ6_numberOfLeadingZeros_0f7a4_66 rfl (by decide) (by decide) rfl ?_
          refine ab_iload_n dJ6_numberOfLeadingZeros_0f7a4_69 rfl ?_
          refine ab_iconst (v := 2) dJ6_numberOfLeadingZeros_0f7a4_70 (by decide) ?_
          refine ab_iushr dJ6_numberOfLeadingZeros_0f7a4_71 ?_
          refine ab_topi (v := (nI (((m / 256) / 16) / 4))) (pk_ushrN (by omega) 2 2 (by decide)) ?_
          refine ab_istore_n (la' := [(0, .int (nI (((m / 256) / 16) / 4))), (1, .int 17)]) dJ6_numberOfLeadingZeros_0f7a4_72 (by decide) rfl ?_
          refine ab_iload_n dJ6_numberOfLeadingZeros_0f7a4_73 rfl ?_
          refine ab_iload_n dJ6_numberOfLeadingZeros_0f7a4_74 rfl ?_
          refine ab_iconst (v := 1) dJ6_numberOfLeadingZeros_0f7a4_75 (by decide) ?_
          refine ab_iushr dJ6_numberOfLeadingZeros_0f7a4_76 ?_
          refine ab_topi (v := (nI ((((m / 256) / 16) / 4) / 2))) (pk_ushrN (by omega) 1 1 (by decide)) ?_
          refine ab_isub dJ6_numberOfLeadingZeros_0f7a4_77 ?_
          refine ab_topi (v := (nI (17 - ((((m / 256) / 16) / 4) / 2)))) (pk_sub (a := 17) (by omega)) ?_
          exact ab_iret dJ6_numberOfLeadingZeros_0f7a4_78 rfl (by decide) ⟨17 - ((((m / 256) / 16) / 4) / 2), by omega, nlz_le (t := 14) (q := (((m / 256) / 16) / 4)) (by omega) ⟨by omega, by omega⟩, rfl, rfl⟩
  · have h_2n := fun z => h_2 ((nI_ltI (a := m) (b := 65536) (by omega) (by omega)).mpr z)
    refine ab_iinc (v := 15) (la' := [(1, .int 15), (0, .int (nI m))]) dJ6_numberOfLeadingZeros_0f7a4_25 rfl (by decide) (by decide) rfl ?_
    refine ab_iload_n dJ6_numberOfLeadingZeros_0f7a4_28 rfl ?_
    refine ab_bipush (v := 16) dJ6_numberOfLeadingZeros_0f7a4_29 (by decide) ?_
    refine ab_iushr dJ6_numberOfLeadingZeros_0f7a4_31 ?_
    refine ab_topi (v := (nI (m / 65536))) (pk_ushrN (by omega) 16 16 (by decide)) ?_
    refine ab_istore_n (la' := [(0, .int (nI (m / 65536))), (1, .int 15)]) dJ6_numberOfLeadingZeros_0f7a4_32 (by decide) rfl ?_
    refine ab_iload_n dJ6_numberOfLeadingZeros_0f7a4_33 rfl ?_
    refine ab_sipush (v := 256) dJ6_numberOfLeadingZeros_0f7a4_34 (by decide) ?_
    refine ab_icmplt 48 dJ6_numberOfLeadingZeros_0f7a4_37 (by decide) (fun h_10 => ?_) (fun h_10 => ?_)
    · have h_10n := (nI_ltI (a := (m / 65536)) (b := 256) (by omega) (by omega)).mp h_10
      refine ab_iload_n dJ6_numberOfLeadingZeros_0f7a4_48 rfl ?_
      refine ab_bipush (v := 16) dJ6_numberOfLeadingZeros_0f7a4_49 (by decide) ?_
      refine ab_icmplt 61 dJ6_numberOfLeadingZeros_0f7a4_51 (by decide) (fun h_11 => ?_) (fun h_11 => ?_)
      · have h_11n := (nI_ltI (a := (m / 65536)) (b := 16) (by omega) (by omega)).mp h_11
        refine ab_iload_n dJ6_numberOfLeadingZeros_0f7a4_61 rfl ?_
        refine ab_iconst (v := 4) dJ6_numberOfLeadingZeros_0f7a4_62 (by decide) ?_
        refine ab_icmplt 73 dJ6_numberOfLeadingZeros_0f7a4_63 (by decide) (fun h_12 => ?_) (fun h_12 => ?_)
        · have h_12n := (nI_ltI (a := (m / 65536)) (b := 4) (by omega) (by omega)).mp h_12
          refine ab_iload_n dJ6_numberOfLeadingZeros_0f7a4_73 rfl ?_
          refine ab_iload_n dJ6_numberOfLeadingZeros_0f7a4_74 rfl ?_
          refine ab_iconst (v := 1) dJ6_numberOfLeadingZeros_0f7a4_75 (by decide) ?_
          refine ab_iushr dJ6_numberOfLeadingZeros_0f7a4_76 ?_
          refine ab_topi (v := (nI ((m / 65536) / 2))) (pk_ushrN (by omega) 1 1 (by decide)) ?_
          refine ab_isub dJ6_numberOfLeadingZeros_0f7a4_77 ?_
          refine ab_topi (v := (nI (15 - ((m / 65536) / 2)))) (pk_sub (a := 15) (by omega)) ?_
          exact ab_iret dJ6_numberOfLeadingZeros_0f7a4_78 rfl (by decide) ⟨15 - ((m / 65536) / 2), by omega, nlz_le (t := 16) (q := (m / 65536)) (by omega) ⟨by omega, by omega⟩, rfl, rfl⟩
        · have h_12n := fun z => h_12 ((nI_ltI (a := (m / 65536)) (b := 4) (by omega) (by omega)).mpr z)
          refine ab_iinc (v := 13) (la' := [(1, .int 13), (0, .int (nI (m / 65536)))]) dJ6_numberOfLeadingZeros_0f7a4_66 rfl (by decide) (by decide) rfl ?_
          refine ab_iload_n dJ6_numberOfLeadingZeros_0f7a4_69 rfl ?_
          refine ab_iconst (v := 2) dJ6_numberOfLeadingZeros_0f7a4_70 (by decide) ?_
          refine ab_iushr dJ6_numberOfLeadingZeros_0f7a4_71 ?_
          refine ab_topi (v := (nI ((m / 65536) / 4))) (pk_ushrN (by omega) 2 2 (by decide)) ?_
          refine ab_istore_n (la' := [(0, .int (nI ((m / 65536) / 4))), (1, .int 13)]) dJ6_numberOfLeadingZeros_0f7a4_72 (by decide) rfl ?_
          refine ab_iload_n dJ6_numberOfLeadingZeros_0f7a4_73 rfl ?_
          refine ab_iload_n dJ6_numberOfLeadingZeros_0f7a4_74 rfl ?_
          refine ab_iconst (v := 1) dJ6_numberOfLeadingZeros_0f7a4_75 (by decide) ?_
          refine ab_iushr dJ6_numberOfLeadingZeros_0f7a4_76 ?_
          refine ab_topi (v := (nI (((m / 65536) / 4) / 2))) (pk_ushrN (by omega) 1 1 (by decide)) ?_
          refine ab_isub dJ6_numberOfLeadingZeros_0f7a4_77 ?_
          refine ab_topi (v := (nI (13 - (((m / 65536) / 4) / 2)))) (pk_sub (a := 13) (by omega)) ?_
          exact ab_iret dJ6_numberOfLeadingZeros_0f7a4_78 rfl (by decide) ⟨13 - (((m / 65536) / 4) / 2), by omega, nlz_le (t := 18) (q := ((m / 65536) / 4)) (by omega) ⟨by omega, by omega⟩, rfl, rfl⟩
      · have h_11n := fun z => h_11 ((nI_ltI (a := (m / 65536)) (b := 16) (by omega) (by omega)).mpr z)
        refine ab_iinc (v := 11) (la' := [(1, .int 11), (0, .int (nI (m / 65536)))]) dJ6_numberOfLeadingZeros_0f7a4_54 rfl (by decide) (by decide) rfl ?_
        refine ab_iload_n dJ6_numberOfLeadingZeros_0f7a4_57 rfl ?_
        refine ab_iconst (v := 4) dJ6_numberOfLeadingZeros_0f7a4_58 (by decide) ?_
        refine ab_iushr dJ6_numberOfLeadingZeros_0f7a4_59 ?_
        refine ab_topi (v := (nI ((m / 65536) / 16))) (pk_ushrN (by omega) 4 4 (by decide)) ?_
        refine ab_istore_n (la' := [(0, .int (nI ((m / 65536) / 16))), (1, .int 11)]) dJ6_numberOfLeadingZeros_0f7a4_60 (by decide) rfl ?_
        refine ab_iload_n dJ6_numberOfLeadingZeros_0f7a4_61 rfl ?_
        refine ab_iconst (v := 4) dJ6_numberOfLeadingZeros_0f7a4_62 (by decide) ?_
        refine ab_icmplt 73 dJ6_numberOfLeadingZeros_0f7a4_63 (by decide) (fun h_13 => ?_) (fun h_13 => ?_)
        · have h_13n := (nI_ltI (a := ((m / 65536) / 16)) (b := 4) (by omega) (by omega)).mp h_13
          refine ab_iload_n dJ6_numberOfLeadingZeros_0f7a4_73 rfl ?_
          refine ab_iload_n dJ6_numberOfLeadingZeros_0f7a4_74 rfl ?_
          refine ab_iconst (v := 1) dJ6_numberOfLeadingZeros_0f7a4_75 (by decide) ?_
          refine ab_iushr dJ6_numberOfLeadingZeros_0f7a4_76 ?_
          refine ab_topi (v := (nI (((m / 65536) / 16) / 2))) (pk_ushrN (by omega) 1 1 (by decide)) ?_
          refine ab_isub dJ6_numberOfLeadingZeros_0f7a4_77 ?_
          refine ab_topi (v := (nI (11 - (((m / 65536) / 16) / 2)))) (pk_sub (a := 11) (by omega)) ?_
          exact ab_iret dJ6_numberOfLeadingZeros_0f7a4_78 rfl (by decide) ⟨11 - (((m / 65536) / 16) / 2), by omega, nlz_le (t := 20) (q := ((m / 65536) / 16)) (by omega) ⟨by omega, by omega⟩, rfl, rfl⟩
        · have h_13n := fun z => h_13 ((nI_ltI (a := ((m / 65536) / 16)) (b := 4) (by omega) (by omega)).mpr z)
          refine ab_iinc (v := 9) (la' := [(1, .int 9), (0, .int (nI ((m / 65536) / 16)))]) dJ6_numberOfLeadingZeros_0f7a4_66 rfl (by decide) (by decide) rfl ?_
          refine ab_iload_n dJ6_numberOfLeadingZeros_0f7a4_69 rfl ?_
          refine ab_iconst (v := 2) dJ6_numberOfLeadingZeros_0f7a4_70 (by decide) ?_
          refine ab_iushr dJ6_numberOfLeadingZeros_0f7a4_71 ?_
          refine ab_topi (v := (nI (((m / 65536) / 16) / 4))) (pk_ushrN (by omega) 2 2 (by decide)) ?_
          refine ab_istore_n (la' := [(0, .int (nI (((m / 65536) / 16) / 4))), (1, .int 9)]) dJ6_numberOfLeadingZeros_0f7a4_72 (by decide) rfl ?_
          refine ab_iload_n dJ6_numberOfLeadingZeros_0f7a4_73 rfl ?_
          refine ab_iload_n dJ6_numberOfLeadingZeros_0f7a4_74 rfl ?_
          refine ab_iconst (v := 1) dJ6_numberOfLeadingZeros_0f7a4_75 (by decide) ?_
          refine ab_iushr dJ6_numberOfLeadingZeros_0f7a4_76 ?_
          refine ab_topi (v := (nI ((((m / 65536) / 16) / 4) / 2))) (pk_ushrN (by omega) 1 1 (by decide)) ?_
          refine ab_isub dJ6_numberOfLeadingZeros_0f7a4_77 ?_
          refine ab_topi (v := (nI (9 - ((((m / 65536) / 16) / 4) / 2)))) (pk_sub (a := 9) (by omega)) ?_
          exact ab_iret dJ6_numberOfLeadingZeros_0f7a4_78 rfl (by decide) ⟨9 - ((((m / 65536) / 16) / 4) / 2), by omega, nlz_le (t := 22) (q := (((m / 65536) / 16) / 4)) (by omega) ⟨by omega, by omega⟩, rfl, rfl⟩
    · have h_10n := fun z => h_10 ((nI_ltI (a := (m / 65536)) (b := 256) (by omega) (by omega)).mpr z)
      refine ab_iinc (v := 7) (la' := [(1, .int 7), (0, .int (nI (m / 65536)))]) dJ6_numberOfLeadingZeros_0f7a4_40 rfl (by decide) (by decide) rfl ?_
      refine ab_iload_n dJ6_numberOfLeadingZeros_0f7a4_43 rfl ?_
      refine ab_bipush (v := 8) dJ6_numberOfLeadingZeros_0f7a4_44 (by decide) ?_
      refine ab_iushr dJ6_numberOfLeadingZeros_0f7a4_46 ?_
      refine ab_topi (v := (nI ((m / 65536) / 256))) (pk_ushrN (by omega) 8 8 (by decide)) ?_
      refine ab_istore_n (la' := [(0, .int (nI ((m / 65536) / 256))), (1, .int 7)]) dJ6_numberOfLeadingZeros_0f7a4_47 (by decide) rfl ?_
      refine ab_iload_n dJ6_numberOfLeadingZeros_0f7a4_48 rfl ?_
      refine ab_bipush (v := 16) dJ6_numberOfLeadingZeros_0f7a4_49 (by decide) ?_
      refine ab_icmplt 61 dJ6_numberOfLeadingZeros_0f7a4_51 (by decide) (fun h_14 => ?_) (fun h_14 => ?_)
      · have h_14n := (nI_ltI (a := ((m / 65536) / 256)) (b := 16) (by omega) (by omega)).mp h_14
        refine ab_iload_n dJ6_numberOfLeadingZeros_0f7a4_61 rfl ?_
        refine ab_iconst (v := 4) dJ6_numberOfLeadingZeros_0f7a4_62 (by decide) ?_
        refine ab_icmplt 73 dJ6_numberOfLeadingZeros_0f7a4_63 (by decide) (fun h_15 => ?_) (fun h_15 => ?_)
        · have h_15n := (nI_ltI (a := ((m / 65536) / 256)) (b := 4) (by omega) (by omega)).mp h_15
          refine ab_iload_n dJ6_numberOfLeadingZeros_0f7a4_73 rfl ?_
          refine ab_iload_n dJ6_numberOfLeadingZeros_0f7a4_74 rfl ?_
          refine ab_iconst (v := 1) dJ6_numberOfLeadingZeros_0f7a4_75 (by decide) ?_
          refine ab_iushr dJ6_numberOfLeadingZeros_0f7a4_76 ?_
          refine ab_topi (v := (nI (((m / 65536) / 256) / 2))) (pk_ushrN (by omega) 1 1 (by decide)) ?_
          refine ab_isub dJ6_numberOfLeadingZeros_0f7a4_77 ?_
          refine ab_topi (v := (nI (7 - (((m / 65536) / 256) / 2)))) (pk_sub (a := 7) (by omega)) ?_
          exact ab_iret dJ6_numberOfLeadingZeros_0f7a4_78 rfl (by decide) ⟨7 - (((m / 65536) / 256) / 2), by omega, nlz_le (t := 24) (q := ((m / 65536) / 256)) (by omega) ⟨by omega, by omega⟩, rfl, rfl⟩
        · have h_15n := fun z => h_15 ((nI_ltI (a := ((m / 65536) / 256)) (b := 4) (by omega) (by omega)).mpr z)
          refine ab_iinc (v := 5) (la' := [(1, .int 5), (0, .int (nI ((m / 65536) / 256)))]) dJ6_numberOfLeadingZeros_0f7a4_66 rfl (by decide) (by decide) rfl ?_
          refine ab_iload_n dJ6_numberOfLeadingZeros_0f7a4_69 rfl ?_
          refine ab_iconst (v := 2) dJ6_numberOfLeadingZeros_0f7a4_70 (by decide) ?_
          refine ab_iushr dJ6_numberOfLeadingZeros_0f7a4_71 ?_
          refine ab_topi (v := (nI (((m / 65536) / 256) / 4))) (pk_ushrN (by omega) 2 2 (by decide)) ?_
          refine ab_istore_n (la' := [(0, .int (nI (((m / 65536) / 256) / 4))), (1, .int 5)]) dJ6_numberOfLeadingZeros_0f7a4_72 (by decide) rfl ?_
          refine ab_iload_n dJ6_numberOfLeadingZeros_0f7a4_73 rfl ?_
          refine ab_iload_n dJ6_numberOfLeadingZeros_0f7a4_74 rfl ?_
          refine ab_iconst (v := 1) dJ6_numberOfLeadingZeros_0f7a4_75 (by decide) ?_
          refine ab_iushr dJ6_numberOfLeadingZeros_0f7a4_76 ?_
          refine ab_topi (v := (nI ((((m / 65536) / 256) / 4) / 2))) (pk_ushrN (by omega) 1 1 (by decide)) ?_
          refine ab_isub dJ6_numberOfLeadingZeros_0f7a4_77 ?_
          refine ab_topi (v := (nI (5 - ((((m / 65536) / 256) / 4) / 2)))) (pk_sub (a := 5) (by omega)) ?_
          exact ab_iret dJ6_numberOfLeadingZeros_0f7a4_78 rfl (by decide) ⟨5 - ((((m / 65536) / 256) / 4) / 2), by omega, nlz_le (t := 26) (q := (((m / 65536) / 256) / 4)) (by omega) ⟨by omega, by omega⟩, rfl, rfl⟩
      · have h_14n := fun z => h_14 ((nI_ltI (a := ((m / 65536) / 256)) (b := 16) (by omega) (by omega)).mpr z)
        refine ab_iinc (v := 3) (la' := [(1, .int 3), (0, .int (nI ((m / 65536) / 256)))]) dJ6_numberOfLeadingZeros_0f7a4_54 rfl (by decide) (by decide) rfl ?_
        refine ab_iload_n dJ6_numberOfLeadingZeros_0f7a4_57 rfl ?_
        refine ab_iconst (v := 4) dJ6_numberOfLeadingZeros_0f7a4_58 (by decide) ?_
        refine ab_iushr dJ6_numberOfLeadingZeros_0f7a4_59 ?_
        refine ab_topi (v := (nI (((m / 65536) / 256) / 16))) (pk_ushrN (by omega) 4 4 (by decide)) ?_
        refine ab_istore_n (la' := [(0, .int (nI (((m / 65536) / 256) / 16))), (1, .int 3)]) dJ6_numberOfLeadingZeros_0f7a4_60 (by decide) rfl ?_
        refine ab_iload_n dJ6_numberOfLeadingZeros_0f7a4_61 rfl ?_
        refine ab_iconst (v := 4) dJ6_numberOfLeadingZeros_0f7a4_62 (by decide) ?_
        refine ab_icmplt 73 dJ6_numberOfLeadingZeros_0f7a4_63 (by decide) (fun h_16 => ?_) (fun h_16 => ?_)
        · have h_16n := (nI_ltI (a := (((m / 65536) / 256) / 16)) (b := 4) (by omega) (by omega)).mp h_16
          refine ab_iload_n dJ6_numberOfLeadingZeros_0f7a4_73 rfl ?_
          refine ab_iload_n dJ6_numberOfLeadingZeros_0f7a4_74 rfl ?_
          refine ab_iconst (v := 1) dJ6_numberOfLeadingZeros_0f7a4_75 (by decide) ?_
          refine ab_iushr dJ6_numberOfLeadingZeros_0f7a4_76 ?_
          refine ab_topi (v := (nI ((((m / 65536) / 256) / 16) / 2))) (pk_ushrN (by omega) 1 1 (by decide)) ?_
          refine ab_isub dJ6_numberOfLeadingZeros_0f7a4_77 ?_
          refine ab_topi (v := (nI (3 - ((((m / 65536) / 256) / 16) / 2)))) (pk_sub (a := 3) (by omega)) ?_
          exact ab_iret dJ6_numberOfLeadingZeros_0f7a4_78 rfl (by decide) ⟨3 - ((((m / 65536) / 256) / 16) / 2), by omega, nlz_le (t := 28) (q := (((m / 65536) / 256) / 16)) (by omega) ⟨by omega, by omega⟩, rfl, rfl⟩
        · have h_16n := fun z => h_16 ((nI_ltI (a := (((m / 65536) / 256) / 16)) (b := 4) (by omega) (by omega)).mpr z)
          refine ab_iinc (v := 1) (la' := [(1, .int 1), (0, .int (nI (((m / 65536) / 256) / 16)))]) dJ6_numberOfLeadingZeros_0f7a4_66 rfl (by decide) (by decide) rfl ?_
          refine ab_iload_n dJ6_numberOfLeadingZeros_0f7a4_69 rfl ?_
          refine ab_iconst (v := 2) dJ6_numberOfLeadingZeros_0f7a4_70 (by decide) ?_
          refine ab_iushr dJ6_numberOfLeadingZeros_0f7a4_71 ?_
          refine ab_topi (v := (nI ((((m / 65536) / 256) / 16) / 4))) (pk_ushrN (by omega) 2 2 (by decide)) ?_
          refine ab_istore_n (la' := [(0, .int (nI ((((m / 65536) / 256) / 16) / 4))), (1, .int 1)]) dJ6_numberOfLeadingZeros_0f7a4_72 (by decide) rfl ?_
          refine ab_iload_n dJ6_numberOfLeadingZeros_0f7a4_73 rfl ?_
          refine ab_iload_n dJ6_numberOfLeadingZeros_0f7a4_74 rfl ?_
          refine ab_iconst (v := 1) dJ6_numberOfLeadingZeros_0f7a4_75 (by decide) ?_
          refine ab_iushr dJ6_numberOfLeadingZeros_0f7a4_76 ?_
          refine ab_topi (v := (nI (((((m / 65536) / 256) / 16) / 4) / 2))) (pk_ushrN (by omega) 1 1 (by decide)) ?_
          refine ab_isub dJ6_numberOfLeadingZeros_0f7a4_77 ?_
          refine ab_topi (v := (nI (1 - (((((m / 65536) / 256) / 16) / 4) / 2)))) (pk_sub (a := 1) (by omega)) ?_
          exact ab_iret dJ6_numberOfLeadingZeros_0f7a4_78 rfl (by decide) ⟨1 - (((((m / 65536) / 256) / 16) / 4) / 2), by omega, nlz_le (t := 30) (q := ((((m / 65536) / 256) / 16) / 4)) (by omega) ⟨by omega, by omega⟩, rfl, rfl⟩
theorem c_J6_nlz_neg {w : ax_W} {a1 : Int32} (h_n : a1 < 0) : Ct M_J6_numberOfLeadingZeros_0f7a4 [.int a1] w (fun r w' => r = some (.int 0) ∧ w' = w) := by
  refine ct_ofF ⟨by decide +kernel, rfl⟩ (Nat.le_of_ble_eq_true rfl) ?_
  refine ab_iload_n dJ6_numberOfLeadingZeros_0f7a4_0 rfl ?_
  refine ab_ifgt 15 dJ6_numberOfLeadingZeros_0f7a4_1 (by decide) (fun h_1 => absurd h_1 (Int32.not_lt.mpr (Int32.le_of_lt h_n))) (fun h_1 => ?_)
  refine ab_iload_n dJ6_numberOfLeadingZeros_0f7a4_4 rfl ?_
  refine ab_ifne 13 dJ6_numberOfLeadingZeros_0f7a4_5 (by decide) (fun h_2 => ?_) (fun h_2 => absurd h_n (by rw [h_2]; decide))
  refine ab_iconst (v := 0) dJ6_numberOfLeadingZeros_0f7a4_13 (by decide) ?_
  exact ab_iret dJ6_numberOfLeadingZeros_0f7a4_14 rfl (by decide) (⟨rfl, rfl⟩)
