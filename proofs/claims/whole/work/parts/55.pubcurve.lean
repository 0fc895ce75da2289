theorem c_X10_box_0 {f0_0 f10_0 f10_1 f10_2 f10_3 f12_5 f12_6 f12_7 f12_8 f12_9 a1 a2 a3 : Int32} {x1 x2 x3 x7 x8 x9 x16 x17 x18 x19 x20 x21 x22 x23 x24 x25 x26 x27 x28 x29 x30 x31 x32 : ax_E} {r5 r6 r13 r14 r15 X Y : Nat → Int32} {f11_0 f11_1 f11_2 f11_3 f11_4 f11_5 f11_6 f11_7 f11_8 f11_9 f11_10 f11_11 f11_12 f11_13 f11_14 f11_15 : Int64} {wm : List ax_E} {p : Nat → Bool} (h_c0 : r6 0 ≤ nI 4) (h_c1 : r6 1 ≤ nI 4) (h_p : ∀ k, p k = true ↔ lawP r5 a1 k) (h_X : ∀ k, k < 40 → lawP r5 a1 k → X k = cX r5 a1 (Cm r5 a2) (Cq r5 a2) a3 k) (h_Y : ∀ k, k < 40 → lawP r5 a1 k → Y k = cY r5 a1 (Cm r5 a2) (Cq r5 a2) a3 k) (h_ok : ((0 ≤ a1 ∧ a1 < r6 0) ∧ (0 ≤ a2 ∧ a2 < r6 1) ∧ (0 ≤ a3 ∧ a3 < 2)) → ∀ k, k < 40 → lawP r5 a1 k → okS (cV0 r5 a1 (Cm r5 a2) (Cq r5 a2) a3 k) (pK r5 a1 k) ∧ okS (cV1 r5 a1 (Cm r5 a2) (Cq r5 a2) a3 k) (pK r5 a1 k) ∧ 0 < cW r5 a1 k) : Ct M_X10_box [.ref 0, .int a1, .int a2, .int a3, .int 0] ([ob 8 [.int f0_0, .ref 1, .ref 4, .ref 7, .ref 10, .ref 11, .ref 12, .ref 18, .ref 25, .ref 29], x1, x2, x3, ob 2 [.ref 5, .ref 6], ia 56 r5, ia 4 r6, x7, x8, x9, ob 3 [.int f10_0, .int f10_1, .int f10_2, .int f10_3], ob 5 [.long f11_0, .long f11_1, .long f11_2, .long f11_3, .long f11_4, .long f11_5, .long f11_6, .long f11_7, .long f11_8, .long f11_9, .long f11_10, .long f11_11, .long f11_12, .long f11_13, .long f11_14, .long f11_15], ob 1 [.ref 13, .ref 14, .ref 15, .ref 16, .ref 17, .int f12_5, .int f12_6, .int f12_7, .int f12_8, .int f12_9], ia 40 r13, ia 40 r14, ia 40 r15, x16, x17, x18, x19, x20, x21, x22, x23, x24, x25, x26, x27, x28, x29, x30, x31, x32], wm) (fun r w' => (∃ g_8 : Nat → Int64, ((0 ≤ a1 ∧ a1 < r6 0) ∧ (0 ≤ a2 ∧ a2 < r6 1) ∧ (0 ≤ a3 ∧ a3 < 2)) ∧ ((nI (Cn p 40)) = 0) ∧ r = some (.int (-1000000000)) ∧ w' = ([ob 8 [.int 5, .ref 1, .ref 4, .ref 7, .ref 10, .ref 11, .ref 12, .ref 18, .ref 25, .ref 29], x1, x2, x3, ob 2 [.ref 5, .ref 6], ia 56 r5, ia 4 r6, x7, x8, x9, ob 3 [.int (Bg r5 a1), .int (Ba r5 a1), .int (Bb r5 a1), .int (Bc r5 a1)], ob 5 [.long (g_8 0), .long (g_8 1), .long (g_8 2), .long (g_8 3), .long (g_8 4), .long (g_8 5), .long (g_8 6), .long (g_8 7), .long (g_8 8), .long (g_8 9), .long (g_8 10), .long (g_8 11), .long (g_8 12), .long (g_8 13), .long (g_8 14), .long (g_8 15)], ob 1 [.ref 13, .ref 14, .ref 15, .ref 16, .ref 17, .int (nI (Cn p 40)), .int f12_6, .int f12_7, .int f12_8, .int f12_9], ia 40 (crv p X r13 40), ia 40 (crv p Y r14 40), ia 40 (crv p nI r15 40), x16, x17, x18, x19, x20, x21, x22, x23, x24, x25, x26, x27, x28, x29, x30, x31, x32], wm)) ∨ (∃ g_8 : Nat → Int64, ((0 ≤ a1 ∧ a1 < r6 0) ∧ (0 ≤ a2 ∧ a2 < r6 1) ∧ (0 ≤ a3 ∧ a3 < 2)) ∧ (¬ ((nI (Cn p 40)) = 0)) ∧ r = some (.int (itr (lp_ext0_st (crv p X r13 40)) ((Cn p 40) - 1) 1 ((crv p X r13 40) 0))) ∧ w' = ([ob 8 [.int 0, .ref 1, .ref 4, .ref 7, .ref 10, .ref 11, .ref 12, .ref 18, .ref 25, .ref 29], x1, x2, x3, ob 2 [.ref 5, .ref 6], ia 56 r5, ia 4 r6, x7, x8, x9, ob 3 [.int (Bg r5 a1), .int (Ba r5 a1), .int (Bb r5 a1), .int (Bc r5 a1)], ob 5 [.long (g_8 0), .long (g_8 1), .long (g_8 2), .long (g_8 3), .long (g_8 4), .long (g_8 5), .long (g_8 6), .long (g_8 7), .long (g_8 8), .long (g_8 9), .long (g_8 10), .long (g_8 11), .long (g_8 12), .long (g_8 13), .long (g_8 14), .long (g_8 15)], ob 1 [.ref 13, .ref 14, .ref 15, .ref 16, .ref 17, .int (nI (Cn p 40)), .int f12_6, .int f12_7, .int f12_8, .int f12_9], ia 40 (crv p X r13 40), ia 40 (crv p Y r14 40), ia 40 (crv p nI r15 40), x16, x17, x18, x19, x20, x21, x22, x23, x24, x25, x26, x27, x28, x29, x30, x31, x32], wm)) ∨ ((¬ ((0 ≤ a1 ∧ a1 < r6 0) ∧ (0 ≤ a2 ∧ a2 < r6 1) ∧ (0 ≤ a3 ∧ a3 < 2))) ∧ r = some (.int (-1000000000)) ∧ w' = ([ob 8 [.int 1, .ref 1, .ref 4, .ref 7, .ref 10, .ref 11, .ref 12, .ref 18, .ref 25, .ref 29], x1, x2, x3, ob 2 [.ref 5, .ref 6], ia 56 r5, ia 4 r6, x7, x8, x9, ob 3 [.int f10_0, .int f10_1, .int f10_2, .int f10_3], ob 5 [.long f11_0, .long f11_1, .long f11_2, .long f11_3, .long f11_4, .long f11_5, .long f11_6, .long f11_7, .long f11_8, .long f11_9, .long f11_10, .long f11_11, .long f11_12, .long f11_13, .long f11_14, .long f11_15], ob 1 [.ref 13, .ref 14, .ref 15, .ref 16, .ref 17, .int f12_5, .int f12_6, .int f12_7, .int f12_8, .int f12_9], ia 40 r13, ia 40 r14, ia 40 r15, x16, x17, x18, x19, x20, x21, x22, x23, x24, x25, x26, x27, x28, x29, x30, x31, x32], wm))) := by
  refine ct_of ⟨by decide, rfl⟩ (Nat.le_of_ble_eq_true rfl) ?_
  refine ab_aload_n dX10_box_0 rfl ?_
  refine ab_aload_n dX10_box_1 rfl ?_
  refine ab_iload_n dX10_box_2 rfl ?_
  refine ab_iload_n dX10_box_3 rfl ?_
  refine ab_iload_n dX10_box_4 rfl ?_
  refine ab_callV (As := [.int a1, .int a2, .int a3]) (rest := [.ref 0]) dX10_box_5 mv_X10_hasCurve ml_X10_266 ⟨by decide, by decide, rfl, rfl, rfl⟩ (by decide) rfl rfl (Nat.le_of_ble_eq_true rfl) rfl c_X10_hasCurve ?_
  rintro r w' (⟨c_1, rfl, rfl⟩ | ⟨c_2, rfl, rfl⟩)
  · refine ab_ifeq 24 dX10_box_8 (by decide) (fun h_3 => absurd h_3 (by decide)) (fun h_3 => ?_)
    refine ab_iload dX10_box_11 rfl ?_
    refine ab_iconst (v := 4) dX10_box_13 (by decide) ?_
    refine ab_callS (As := [.int 0, .int 4]) (rest := [.ref 0]) dX10_box_14 ms_X10_isOf ml_X10_118 ⟨by decide, by decide, rfl, rfl, rfl⟩ (by decide) rfl rfl (Nat.le_of_ble_eq_true rfl) c_X10_isOf ?_
    rintro r w' (⟨c_4, rfl, rfl⟩ | ⟨c_5, rfl, rfl⟩)
    · refine ab_ifeq 24 dX10_box_17 (by decide) (fun h_6 => absurd h_6 (by decide)) (fun h_6 => ?_)
      refine ab_iconst (v := 1) dX10_box_20 (by decide) ?_
      refine ab_goto 25 dX10_box_21 (by decide) ?_
      refine ab_iconst (v := 1) dX10_box_25 (by decide) ?_
      refine ab_callV (As := [.int 1, .int 1]) (rest := []) dX10_box_26 mv_X10_refused ml_X10_84 ⟨by decide, by decide, rfl, rfl, rfl⟩ (by decide) rfl rfl (Nat.le_of_ble_eq_true rfl) rfl c_X10_refused_1 ?_
      rintro r w' ⟨rfl, rfl⟩
      refine ab_ifeq 35 dX10_box_29 (by decide) (fun h_7 => ?_) (fun h_7 => absurd (by decide) h_7)
      refine ab_aload_n dX10_box_35 rfl ?_
      refine ab_aload_n dX10_box_36 rfl ?_
      refine ab_iload_n dX10_box_37 rfl ?_
      refine ab_iload_n dX10_box_38 rfl ?_
      refine ab_iload_n dX10_box_39 rfl ?_
      refine ab_callV (As := [.int a1, .int a2, .int a3]) (rest := [.ref 0]) dX10_box_40 mv_X10_curveAt ml_X10_269 ⟨by decide, by decide, rfl, rfl, rfl⟩ (by decide) rfl rfl (Nat.le_of_ble_eq_true rfl) rfl (c_X10_curveAt (p := p) (X := X) (Y := Y) c_1.1 h_c0 c_1.2.1 h_c1 h_p h_X h_Y (h_ok c_1)) ?_
      rintro r w' ⟨g_8, rfl, rfl⟩
      refine ab_callV (As := []) (rest := [.ref 0]) dX10_box_43 mv_X1_isEmpty ml_X10_273 ⟨by decide, by decide, rfl, rfl, rfl⟩ (by decide) rfl rfl (Nat.le_of_ble_eq_true rfl) rfl c_X1_isEmpty ?_
      rintro r w' (⟨c_9, rfl, rfl⟩ | ⟨c_10, rfl, rfl⟩)
      · refine ab_ifne 53 dX10_box_46 (by decide) (fun h_11 => ?_) (fun h_11 => absurd h_11 (by decide))
        refine ab_iconst (v := 0) dX10_box_53 (by decide) ?_
        refine ab_iconst (v := 5) dX10_box_54 (by decide) ?_
        refine ab_callV (As := [.int 0, .int 5]) (rest := []) dX10_box_55 mv_X10_refused ml_X10_84 ⟨by decide, by decide, rfl, rfl, rfl⟩ (by decide) rfl rfl (Nat.le_of_ble_eq_true rfl) rfl c_X10_refused_0 ?_
        rintro r w' ⟨rfl, rfl⟩
        refine ab_ifeq 64 dX10_box_58 (by decide) (fun h_12 => absurd h_12 (by decide)) (fun h_12 => ?_)
        refine ab_ldc dX10_box_61 kc_X10_122 ?_
        exact ab_iret dX10_box_63 rfl (by decide) (Or.inl ⟨g_8, c_1, c_9, rfl, rfl⟩)
      · refine ab_ifne 53 dX10_box_46 (by decide) (fun h_13 => absurd (by decide) h_13) (fun h_13 => ?_)
        refine ab_iconst (v := 1) dX10_box_49 (by decide) ?_
        refine ab_goto 54 dX10_box_50 (by decide) ?_
        refine ab_iconst (v := 5) dX10_box_54 (by decide) ?_
        refine ab_callV (As := [.int 1, .int 5]) (rest := []) dX10_box_55 mv_X10_refused ml_X10_84 ⟨by decide, by decide, rfl, rfl, rfl⟩ (by decide) rfl rfl (Nat.le_of_ble_eq_true rfl) rfl c_X10_refused_1 ?_
        rintro r w' ⟨rfl, rfl⟩
        refine ab_ifeq 64 dX10_box_58 (by decide) (fun h_14 => ?_) (fun h_14 => absurd (by decide) h_14)
        refine ab_aload_n dX10_box_64 rfl ?_
        refine ab_getf dX10_box_65 fl_X10_47 rfl rfl ?_
        refine ab_iload dX10_box_68 rfl ?_
        refine ab_callV (As := [.int 0]) (rest := []) dX10_box_70 mv_X1_extreme ml_X10_276 ⟨by decide, by decide, rfl, rfl, rfl⟩ (by decide) rfl rfl (Nat.le_of_ble_eq_true rfl) rfl (c_X1_extreme_0 (c := (Cn p 40)) (cn_le p 40) (Nat.pos_of_ne_zero (fun z => c_10 (by rw [z]; rfl)))) ?_
        rintro r w' ⟨rfl, rfl⟩
        exact ab_iret dX10_box_73 rfl (by decide) (Or.inr (Or.inl ⟨g_8, c_1, c_10, rfl, rfl⟩))
    · exact absurd (by decide) c_5
  · refine ab_ifeq 24 dX10_box_8 (by decide) (fun h_15 => ?_) (fun h_15 => absurd (by decide) h_15)
    refine ab_iconst (v := 0) dX10_box_24 (by decide) ?_
    refine ab_iconst (v := 1) dX10_box_25 (by decide) ?_
    refine ab_callV (As := [.int 0, .int 1]) (rest := []) dX10_box_26 mv_X10_refused ml_X10_84 ⟨by decide, by decide, rfl, rfl, rfl⟩ (by decide) rfl rfl (Nat.le_of_ble_eq_true rfl) rfl c_X10_refused_0 ?_
    rintro r w' ⟨rfl, rfl⟩
    refine ab_ifeq 35 dX10_box_29 (by decide) (fun h_16 => absurd h_16 (by decide)) (fun h_16 => ?_)
    refine ab_ldc dX10_box_32 kc_X10_122 ?_
    exact ab_iret dX10_box_34 rfl (by decide) (Or.inr (Or.inr (⟨c_2, rfl, rfl⟩)))
theorem c_X10_box_1 {f0_0 f10_0 f10_1 f10_2 f10_3 f12_5 f12_6 f12_7 f12_8 f12_9 a1 a2 a3 : Int32} {x1 x2 x3 x7 x8 x9 x16 x17 x18 x19 x20 x21 x22 x23 x24 x25 x26 x27 x28 x29 x30 x31 x32 : ax_E} {r5 r6 r13 r14 r15 X Y : Nat → Int32} {f11_0 f11_1 f11_2 f11_3 f11_4 f11_5 f11_6 f11_7 f11_8 f11_9 f11_10 f11_11 f11_12 f11_13 f11_14 f11_15 : Int64} {wm : List ax_E} {p : Nat → Bool} (h_c0 : r6 0 ≤ nI 4) (h_c1 : r6 1 ≤ nI 4) (h_p : ∀ k, p k = true ↔ lawP r5 a1 k) (h_X : ∀ k, k < 40 → lawP r5 a1 k → X k = cX r5 a1 (Cm r5 a2) (Cq r5 a2) a3 k) (h_Y : ∀ k, k < 40 → lawP r5 a1 k → Y k = cY r5 a1 (Cm r5 a2) (Cq r5 a2) a3 k) (h_ok : ((0 ≤ a1 ∧ a1 < r6 0) ∧ (0 ≤ a2 ∧ a2 < r6 1) ∧ (0 ≤ a3 ∧ a3 < 2)) → ∀ k, k < 40 → lawP r5 a1 k → okS (cV0 r5 a1 (Cm r5 a2) (Cq r5 a2) a3 k) (pK r5 a1 k) ∧ okS (cV1 r5 a1 (Cm r5 a2) (Cq r5 a2) a3 k) (pK r5 a1 k) ∧ 0 < cW r5 a1 k) : Ct M_X10_box [.ref 0, .int a1, .int a2, .int a3, .int 1] ([ob 8 [.int f0_0, .ref 1, .ref 4, .ref 7, .ref 10, .ref 11, .ref 12, .ref 18, .ref 25, .ref 29], x1, x2, x3, ob 2 [.ref 5, .ref 6], ia 56 r5, ia 4 r6, x7, x8, x9, ob 3 [.int f10_0, .int f10_1, .int f10_2, .int f10_3], ob 5 [.long f11_0, .long f11_1, .long f11_2, .long f11_3, .long f11_4, .long f11_5, .long f11_6, .long f11_7, .long f11_8, .long f11_9, .long f11_10, .long f11_11, .long f11_12, .long f11_13, .long f11_14, .long f11_15], ob 1 [.ref 13, .ref 14, .ref 15, .ref 16, .ref 17, .int f12_5, .int f12_6, .int f12_7, .int f12_8, .int f12_9], ia 40 r13, ia 40 r14, ia 40 r15, x16, x17, x18, x19, x20, x21, x22, x23, x24, x25, x26, x27, x28, x29, x30, x31, x32], wm) (fun r w' => (∃ g_8 : Nat → Int64, ((0 ≤ a1 ∧ a1 < r6 0) ∧ (0 ≤ a2 ∧ a2 < r6 1) ∧ (0 ≤ a3 ∧ a3 < 2)) ∧ ((nI (Cn p 40)) = 0) ∧ r = some (.int (-1000000000)) ∧ w' = ([ob 8 [.int 5, .ref 1, .ref 4, .ref 7, .ref 10, .ref 11, .ref 12, .ref 18, .ref 25, .ref 29], x1, x2, x3, ob 2 [.ref 5, .ref 6], ia 56 r5, ia 4 r6, x7, x8, x9, ob 3 [.int (Bg r5 a1), .int (Ba r5 a1), .int (Bb r5 a1), .int (Bc r5 a1)], ob 5 [.long (g_8 0), .long (g_8 1), .long (g_8 2), .long (g_8 3), .long (g_8 4), .long (g_8 5), .long (g_8 6), .long (g_8 7), .long (g_8 8), .long (g_8 9), .long (g_8 10), .long (g_8 11), .long (g_8 12), .long (g_8 13), .long (g_8 14), .long (g_8 15)], ob 1 [.ref 13, .ref 14, .ref 15, .ref 16, .ref 17, .int (nI (Cn p 40)), .int f12_6, .int f12_7, .int f12_8, .int f12_9], ia 40 (crv p X r13 40), ia 40 (crv p Y r14 40), ia 40 (crv p nI r15 40), x16, x17, x18, x19, x20, x21, x22, x23, x24, x25, x26, x27, x28, x29, x30, x31, x32], wm)) ∨ (∃ g_8 : Nat → Int64, ((0 ≤ a1 ∧ a1 < r6 0) ∧ (0 ≤ a2 ∧ a2 < r6 1) ∧ (0 ≤ a3 ∧ a3 < 2)) ∧ (¬ ((nI (Cn p 40)) = 0)) ∧ r = some (.int (itr (lp_ext1_st (crv p X r13 40)) ((Cn p 40) - 1) 1 ((crv p X r13 40) 0))) ∧ w' = ([ob 8 [.int 0, .ref 1, .ref 4, .ref 7, .ref 10, .ref 11, .ref 12, .ref 18, .ref 25, .ref 29], x1, x2, x3, ob 2 [.ref 5, .ref 6], ia 56 r5, ia 4 r6, x7, x8, x9, ob 3 [.int (Bg r5 a1), .int (Ba r5 a1), .int (Bb r5 a1), .int (Bc r5 a1)], ob 5 [.long (g_8 0), .long (g_8 1), .long (g_8 2), .long (g_8 3), .long (g_8 4), .long (g_8 5), .long (g_8 6), .long (g_8 7), .long (g_8 8), .long (g_8 9), .long (g_8 10), .long (g_8 11), .long (g_8 12), .long (g_8 13), .long (g_8 14), .long (g_8 15)], ob 1 [.ref 13, .ref 14, .ref 15, .ref 16, .ref 17, .int (nI (Cn p 40)), .int f12_6, .int f12_7, .int f12_8, .int f12_9], ia 40 (crv p X r13 40), ia 40 (crv p Y r14 40), ia 40 (crv p nI r15 40), x16, x17, x18, x19, x20, x21, x22, x23, x24, x25, x26, x27, x28, x29, x30, x31, x32], wm)) ∨ ((¬ ((0 ≤ a1 ∧ a1 < r6 0) ∧ (0 ≤ a2 ∧ a2 < r6 1) ∧ (0 ≤ a3 ∧ a3 < 2))) ∧ r = some (.int (-1000000000)) ∧ w' = ([ob 8 [.int 1, .ref 1, .ref 4, .ref 7, .ref 10, .ref 11, .ref 12, .ref 18, .ref 25, .ref 29], x1, x2, x3, ob 2 [.ref 5, .ref 6], ia 56 r5, ia 4 r6, x7, x8, x9, ob 3 [.int f10_0, .int f10_1, .int f10_2, .int f10_3], ob 5 [.long f11_0, .long f11_1, .long f11_2, .long f11_3, .long f11_4, .long f11_5, .long f11_6, .long f11_7, .long f11_8, .long f11_9, .long f11_10, .long f11_11, .long f11_12, .long f11_13, .long f11_14, .long f11_15], ob 1 [.ref 13, .ref 14, .ref 15, .ref 16, .ref 17, .int f12_5, .int f12_6, .int f12_7, .int f12_8, .int f12_9], ia 40 r13, ia 40 r14, ia 40 r15, x16, x17, x18, x19, x20, x21, x22, x23, x24, x25, x26, x27, x28, x29, x30, x31, x32], wm))) := by
  refine ct_of ⟨by decide, rfl⟩ (Nat.le_of_ble_eq_true rfl) ?_
  refine ab_aload_n dX10_box_0 rfl ?_
  refine ab_aload_n dX10_box_1 rfl ?_
  refine ab_iload_n dX10_box_2 rfl ?_
  refine ab_iload_n dX10_box_3 rfl ?_
  refine ab_iload_n dX10_box_4 rfl ?_
  refine ab_callV (As := [.int a1, .int a2, .int a3]) (rest := [.ref 0]) dX10_box_5 mv_X10_hasCurve ml_X10_266 ⟨by decide, by decide, rfl, rfl, rfl⟩ (by decide) rfl rfl (Nat.le_of_ble_eq_true rfl) rfl c_X10_hasCurve ?_
  rintro r w' (⟨c_1, rfl, rfl⟩ | ⟨c_2, rfl, rfl⟩)
  · refine ab_ifeq 24 dX10_box_8 (by decide) (fun h_3 => absurd h_3 (by decide)) (fun h_3 => ?_)
    refine ab_iload dX10_box_11 rfl ?_
    refine ab_iconst (v := 4) dX10_box_13 (by decide) ?_
    refine ab_callS (As := [.int 1, .int 4]) (rest := [.ref 0]) dX10_box_14 ms_X10_isOf ml_X10_118 ⟨by decide, by decide, rfl, rfl, rfl⟩ (by decide) rfl rfl (Nat.le_of_ble_eq_true rfl) c_X10_isOf ?_
    rintro r w' (⟨c_4, rfl, rfl⟩ | ⟨c_5, rfl, rfl⟩)
    · refine ab_ifeq 24 dX10_box_17 (by decide) (fun h_6 => absurd h_6 (by decide)) (fun h_6 => ?_)
      refine ab_iconst (v := 1) dX10_box_20 (by decide) ?_
      refine ab_goto 25 dX10_box_21 (by decide) ?_
      refine ab_iconst (v := 1) dX10_box_25 (by decide) ?_
      refine ab_callV (As := [.int 1, .int 1]) (rest := []) dX10_box_26 mv_X10_refused ml_X10_84 ⟨by decide, by decide, rfl, rfl, rfl⟩ (by decide) rfl rfl (Nat.le_of_ble_eq_true rfl) rfl c_X10_refused_1 ?_
      rintro r w' ⟨rfl, rfl⟩
      refine ab_ifeq 35 dX10_box_29 (by decide) (fun h_7 => ?_) (fun h_7 => absurd (by decide) h_7)
      refine ab_aload_n dX10_box_35 rfl ?_
      refine ab_aload_n dX10_box_36 rfl ?_
      refine ab_iload_n dX10_box_37 rfl ?_
      refine ab_iload_n dX10_box_38 rfl ?_
      refine ab_iload_n dX10_box_39 rfl ?_
      refine ab_callV (As := [.int a1, .int a2, .int a3]) (rest := [.ref 0]) dX10_box_40 mv_X10_curveAt ml_X10_269 ⟨by decide, by decide, rfl, rfl, rfl⟩ (by decide) rfl rfl (Nat.le_of_ble_eq_true rfl) rfl (c_X10_curveAt (p := p) (X := X) (Y := Y) c_1.1 h_c0 c_1.2.1 h_c1 h_p h_X h_Y (h_ok c_1)) ?_
      rintro r w' ⟨g_8, rfl, rfl⟩
      refine ab_callV (As := []) (rest := [.ref 0]) dX10_box_43 mv_X1_isEmpty ml_X10_273 ⟨by decide, by decide, rfl, rfl, rfl⟩ (by decide) rfl rfl (Nat.le_of_ble_eq_true rfl) rfl c_X1_isEmpty ?_
      rintro r w' (⟨c_9, rfl, rfl⟩ | ⟨c_10, rfl, rfl⟩)
      · refine ab_ifne 53 dX10_box_46 (by decide) (fun h_11 => ?_) (fun h_11 => absurd h_11 (by decide))
        refine ab_iconst (v := 0) dX10_box_53 (by decide) ?_
        refine ab_iconst (v := 5) dX10_box_54 (by decide) ?_
        refine ab_callV (As := [.int 0, .int 5]) (rest := []) dX10_box_55 mv_X10_refused ml_X10_84 ⟨by decide, by decide, rfl, rfl, rfl⟩ (by decide) rfl rfl (Nat.le_of_ble_eq_true rfl) rfl c_X10_refused_0 ?_
        rintro r w' ⟨rfl, rfl⟩
        refine ab_ifeq 64 dX10_box_58 (by decide) (fun h_12 => absurd h_12 (by decide)) (fun h_12 => ?_)
        refine ab_ldc dX10_box_61 kc_X10_122 ?_
        exact ab_iret dX10_box_63 rfl (by decide) (Or.inl ⟨g_8, c_1, c_9, rfl, rfl⟩)
      · refine ab_ifne 53 dX10_box_46 (by decide) (fun h_13 => absurd (by decide) h_13) (fun h_13 => ?_)
        refine ab_iconst (v := 1) dX10_box_49 (by decide) ?_
        refine ab_goto 54 dX10_box_50 (by decide) ?_
        refine ab_iconst (v := 5) dX10_box_54 (by decide) ?_
        refine ab_callV (As := [.int 1, .int 5]) (rest := []) dX10_box_55 mv_X10_refused ml_X10_84 ⟨by decide, by decide, rfl, rfl, rfl⟩ (by decide) rfl rfl (Nat.le_of_ble_eq_true rfl) rfl c_X10_refused_1 ?_
        rintro r w' ⟨rfl, rfl⟩
        refine ab_ifeq 64 dX10_box_58 (by decide) (fun h_14 => ?_) (fun h_14 => absurd (by decide) h_14)
        refine ab_aload_n dX10_box_64 rfl ?_
        refine ab_getf dX10_box_65 fl_X10_47 rfl rfl ?_
        refine ab_iload dX10_box_68 rfl ?_
        refine ab_callV (As := [.int 1]) (rest := []) dX10_box_70 mv_X1_extreme ml_X10_276 ⟨by decide, by decide, rfl, rfl, rfl⟩ (by decide) rfl rfl (Nat.le_of_ble_eq_true rfl) rfl (c_X1_extreme_1 (c := (Cn p 40)) (cn_le p 40) (Nat.pos_of_ne_zero (fun z => c_10 (by rw [z]; rfl)))) ?_
        rintro r w' ⟨rfl, rfl⟩
        exact ab_iret dX10_box_73 rfl (by decide) (Or.inr (Or.inl ⟨g_8, c_1, c_10, rfl, rfl⟩))
    · exact absurd (by decide) c_5
  · refine ab_ifeq 24 dX10_box_8 (by decide) (fun h_15 => ?_) (fun h_15 => absurd (by decide) h_15)
    refine ab_iconst (v := 0) dX10_box_24 (by decide) ?_
    refine ab_iconst (v := 1) dX10_box_25 (by decide) ?_
    refine ab_callV (As := [.int 0, .int 1]) (rest := []) dX10_box_26 mv_X10_refused ml_X10_84 ⟨by decide, by decide, rfl, rfl, rfl⟩ (by decide) rfl rfl (Nat.le_of_ble_eq_true rfl) rfl c_X10_refused_0 ?_
    rintro r w' ⟨rfl, rfl⟩
    refine ab_ifeq 35 dX10_box_29 (by decide) (fun h_16 => absurd h_16 (by decide)) (fun h_16 => ?_)
    refine ab_ldc dX10_box_32 kc_X10_122 ?_
    exact ab_iret dX10_box_34 rfl (by decide) (Or.inr (Or.inr (⟨c_2, rfl, rfl⟩)))
theorem c_X10_box_2 {f0_0 f10_0 f10_1 f10_2 f10_3 f12_5 f12_6 f12_7 f12_8 f12_9 a1 a2 a3 : Int32} {x1 x2 x3 x7 x8 x9 x16 x17 x18 x19 x20 x21 x22 x23 x24 x25 x26 x27 x28 x29 x30 x31 x32 : ax_E} {r5 r6 r13 r14 r15 X Y : Nat → Int32} {f11_0 f11_1 f11_2 f11_3 f11_4 f11_5 f11_6 f11_7 f11_8 f11_9 f11_10 f11_11 f11_12 f11_13 f11_14 f11_15 : Int64} {wm : List ax_E} {p : Nat → Bool} (h_c0 : r6 0 ≤ nI 4) (h_c1 : r6 1 ≤ nI 4) (h_p : ∀ k, p k = true ↔ lawP r5 a1 k) (h_X : ∀ k, k < 40 → lawP r5 a1 k → X k = cX r5 a1 (Cm r5 a2) (Cq r5 a2) a3 k) (h_Y : ∀ k, k < 40 → lawP r5 a1 k → Y k = cY r5 a1 (Cm r5 a2) (Cq r5 a2) a3 k) (h_ok : ((0 ≤ a1 ∧ a1 < r6 0) ∧ (0 ≤ a2 ∧ a2 < r6 1) ∧ (0 ≤ a3 ∧ a3 < 2)) → ∀ k, k < 40 → lawP r5 a1 k → okS (cV0 r5 a1 (Cm r5 a2) (Cq r5 a2) a3 k) (pK r5 a1 k) ∧ okS (cV1 r5 a1 (Cm r5 a2) (Cq r5 a2) a3 k) (pK r5 a1 k) ∧ 0 < cW r5 a1 k) : Ct M_X10_box [.ref 0, .int a1, .int a2, .int a3, .int 2] ([ob 8 [.int f0_0, .ref 1, .ref 4, .ref 7, .ref 10, .ref 11, .ref 12, .ref 18, .ref 25, .ref 29], x1, x2, x3, ob 2 [.ref 5, .ref 6], ia 56 r5, ia 4 r6, x7, x8, x9, ob 3 [.int f10_0, .int f10_1, .int f10_2, .int f10_3], ob 5 [.long f11_0, .long f11_1, .long f11_2, .long f11_3, .long f11_4, .long f11_5, .long f11_6, .long f11_7, .long f11_8, .long f11_9, .long f11_10, .long f11_11, .long f11_12, .long f11_13, .long f11_14, .long f11_15], ob 1 [.ref 13, .ref 14, .ref 15, .ref 16, .ref 17, .int f12_5, .int f12_6, .int f12_7, .int f12_8, .int f12_9], ia 40 r13, ia 40 r14, ia 40 r15, x16, x17, x18, x19, x20, x21, x22, x23, x24, x25, x26, x27, x28, x29, x30, x31, x32], wm) (fun r w' => (∃ g_8 : Nat → Int64, ((0 ≤ a1 ∧ a1 < r6 0) ∧ (0 ≤ a2 ∧ a2 < r6 1) ∧ (0 ≤ a3 ∧ a3 < 2)) ∧ ((nI (Cn p 40)) = 0) ∧ r = some (.int (-1000000000)) ∧ w' = ([ob 8 [.int 5, .ref 1, .ref 4, .ref 7, .ref 10, .ref 11, .ref 12, .ref 18, .ref 25, .ref 29], x1, x2, x3, ob 2 [.ref 5, .ref 6], ia 56 r5, ia 4 r6, x7, x8, x9, ob 3 [.int (Bg r5 a1), .int (Ba r5 a1), .int (Bb r5 a1), .int (Bc r5 a1)], ob 5 [.long (g_8 0), .long (g_8 1), .long (g_8 2), .long (g_8 3), .long (g_8 4), .long (g_8 5), .long (g_8 6), .long (g_8 7), .long (g_8 8), .long (g_8 9), .long (g_8 10), .long (g_8 11), .long (g_8 12), .long (g_8 13), .long (g_8 14), .long (g_8 15)], ob 1 [.ref 13, .ref 14, .ref 15, .ref 16, .ref 17, .int (nI (Cn p 40)), .int f12_6, .int f12_7, .int f12_8, .int f12_9], ia 40 (crv p X r13 40), ia 40 (crv p Y r14 40), ia 40 (crv p nI r15 40), x16, x17, x18, x19, x20, x21, x22, x23, x24, x25, x26, x27, x28, x29, x30, x31, x32], wm)) ∨ (∃ g_8 : Nat → Int64, ((0 ≤ a1 ∧ a1 < r6 0) ∧ (0 ≤ a2 ∧ a2 < r6 1) ∧ (0 ≤ a3 ∧ a3 < 2)) ∧ (¬ ((nI (Cn p 40)) = 0)) ∧ r = some (.int (itr (lp_ext2_st (crv p Y r14 40)) ((Cn p 40) - 1) 1 ((crv p Y r14 40) 0))) ∧ w' = ([ob 8 [.int 0, .ref 1, .ref 4, .ref 7, .ref 10, .ref 11, .ref 12, .ref 18, .ref 25, .ref 29], x1, x2, x3, ob 2 [.ref 5, .ref 6], ia 56 r5, ia 4 r6, x7, x8, x9, ob 3 [.int (Bg r5 a1), .int (Ba r5 a1), .int (Bb r5 a1), .int (Bc r5 a1)], ob 5 [.long (g_8 0), .long (g_8 1), .long (g_8 2), .long (g_8 3), .long (g_8 4), .long (g_8 5), .long (g_8 6), .long (g_8 7), .long (g_8 8), .long (g_8 9), .long (g_8 10), .long (g_8 11), .long (g_8 12), .long (g_8 13), .long (g_8 14), .long (g_8 15)], ob 1 [.ref 13, .ref 14, .ref 15, .ref 16, .ref 17, .int (nI (Cn p 40)), .int f12_6, .int f12_7, .int f12_8, .int f12_9], ia 40 (crv p X r13 40), ia 40 (crv p Y r14 40), ia 40 (crv p nI r15 40), x16, x17, x18, x19, x20, x21, x22, x23, x24, x25, x26, x27, x28, x29, x30, x31, x32], wm)) ∨ ((¬ ((0 ≤ a1 ∧ a1 < r6 0) ∧ (0 ≤ a2 ∧ a2 < r6 1) ∧ (0 ≤ a3 ∧ a3 < 2))) ∧ r = some (.int (-1000000000)) ∧ w' = ([ob 8 [.int 1, .ref 1, .ref 4, .ref 7, .ref 10, .ref 11, .ref 12, .ref 18, .ref 25, .ref 29], x1, x2, x3, ob 2 [.ref 5, .ref 6], ia 56 r5, ia 4 r6, x7, x8, x9, ob 3 [.int f10_0, .int f10_1, .int f10_2, .int f10_3], ob 5 [.long f11_0, .long f11_1, .long f11_2, .long f11_3, .long f11_4, .long f11_5, .long f11_6, .long f11_7, .long f11_8, .long f11_9, .long f11_10, .long f11_11, .long f11_12, .long f11_13, .long f11_14, .long f11_15], ob 1 [.ref 13, .ref 14, .ref 15, .ref 16, .ref 17, .int f12_5, .int f12_6, .int f12_7, .int f12_8, .int f12_9], ia 40 r13, ia 40 r14, ia 40 r15, x16, x17, x18, x19, x20, x21, x22, x23, x24, x25, x26, x27, x28, x29, x30, x31, x32], wm))) := by
  refine ct_of ⟨by decide, rfl⟩ (Nat.le_of_ble_eq_true rfl) ?_
  refine ab_aload_n dX10_box_0 rfl ?_
  refine ab_aload_n dX10_box_1 rfl ?_
  refine ab_iload_n dX10_box_2 rfl ?_
  refine ab_iload_n dX10_box_3 rfl ?_
  refine ab_iload_n dX10_box_4 rfl ?_
  refine ab_callV (As := [.int a1, .int a2, .int a3]) (rest := [.ref 0]) dX10_box_5 mv_X10_hasCurve ml_X10_266 ⟨by decide, by decide, rfl, rfl, rfl⟩ (by decide) rfl rfl (Nat.le_of_ble_eq_true rfl) rfl c_X10_hasCurve ?_
  rintro r w' (⟨c_1, rfl, rfl⟩ | ⟨c_2, rfl, rfl⟩)
  · refine ab_ifeq 24 dX10_box_8 (by decide) (fun h_3 => absurd h_3 (by decide)) (fun h_3 => ?_)
    refine ab_iload dX10_box_11 rfl ?_
    refine ab_iconst (v := 4) dX10_box_13 (by decide) ?_
    refine ab_callS (As := [.int 2, .int 4]) (rest := [.ref 0]) dX10_box_14 ms_X10_isOf ml_X10_118 ⟨by decide, by decide, rfl, rfl, rfl⟩ (by decide) rfl rfl (Nat.le_of_ble_eq_true rfl) c_X10_isOf ?_
    rintro r w' (⟨c_4, rfl, rfl⟩ | ⟨c_5, rfl, rfl⟩)
    · refine ab_ifeq 24 dX10_box_17 (by decide) (fun h_6 => absurd h_6 (by decide)) (fun h_6 => ?_)
      refine ab_iconst (v := 1) dX10_box_20 (by decide) ?_
      refine ab_goto 25 dX10_box_21 (by decide) ?_
      refine ab_iconst (v := 1) dX10_box_25 (by decide) ?_
      refine ab_callV (As := [.int 1, .int 1]) (rest := []) dX10_box_26 mv_X10_refused ml_X10_84 ⟨by decide, by decide, rfl, rfl, rfl⟩ (by decide) rfl rfl (Nat.le_of_ble_eq_true rfl) rfl c_X10_refused_1 ?_
      rintro r w' ⟨rfl, rfl⟩
      refine ab_ifeq 35 dX10_box_29 (by decide) (fun h_7 => ?_) (fun h_7 => absurd (by decide) h_7)
      refine ab_aload_n dX10_box_35 rfl ?_
      refine ab_aload_n dX10_box_36 rfl ?_
      refine ab_iload_n dX10_box_37 rfl ?_
      refine ab_iload_n dX10_box_38 rfl ?_
      refine ab_iload_n dX10_box_39 rfl ?_
      refine ab_callV (As := [.int a1, .int a2, .int a3]) (rest := [.ref 0]) dX10_box_40 mv_X10_curveAt ml_X10_269 ⟨by decide, by decide, rfl, rfl, rfl⟩ (by decide) rfl rfl (Nat.le_of_ble_eq_true rfl) rfl (c_X10_curveAt (p := p) (X := X) (Y := Y) c_1.1 h_c0 c_1.2.1 h_c1 h_p h_X h_Y (h_ok c_1)) ?_
      rintro r w' ⟨g_8, rfl, rfl⟩
      refine ab_callV (As := []) (rest := [.ref 0]) dX10_box_43 mv_X1_isEmpty ml_X10_273 ⟨by decide, by decide, rfl, rfl, rfl⟩ (by decide) rfl rfl (Nat.le_of_ble_eq_true rfl) rfl c_X1_isEmpty ?_
      rintro r w' (⟨c_9, rfl, rfl⟩ | ⟨c_10, rfl, rfl⟩)
      · refine ab_ifne 53 dX10_box_46 (by decide) (fun h_11 => ?_) (fun h_11 => absurd h_11 (by decide))
        refine ab_iconst (v := 0) dX10_box_53 (by decide) ?_
        refine ab_iconst (v := 5) dX10_box_54 (by decide) ?_
        refine ab_callV (As := [.int 0, .int 5]) (rest := []) dX10_box_55 mv_X10_refused ml_X10_84 ⟨by decide, by decide, rfl, rfl, rfl⟩ (by decide) rfl rfl (Nat.le_of_ble_eq_true rfl) rfl c_X10_refused_0 ?_
        rintro r w' ⟨rfl, rfl⟩
        refine ab_ifeq 64 dX10_box_58 (by decide) (fun h_12 => absurd h_12 (by decide)) (fun h_12 => ?_)
        refine ab_ldc dX10_box_61 kc_X10_122 ?_
        exact ab_iret dX10_box_63 rfl (by decide) (Or.inl ⟨g_8, c_1, c_9, rfl, rfl⟩)
      · refine ab_ifne 53 dX10_box_46 (by decide) (fun h_13 => absurd (by decide) h_13) (fun h_13 => ?_)
        refine ab_iconst (v := 1) dX10_box_49 (by decide) ?_
        refine ab_goto 54 dX10_box_50 (by decide) ?_
        refine ab_iconst (v := 5) dX10_box_54 (by decide) ?_
        refine ab_callV (As := [.int 1, .int 5]) (rest := []) dX10_box_55 mv_X10_refused ml_X10_84 ⟨by decide, by decide, rfl, rfl, rfl⟩ (by decide) rfl rfl (Nat.le_of_ble_eq_true rfl) rfl c_X10_refused_1 ?_
        rintro r w' ⟨rfl, rfl⟩
        refine ab_ifeq 64 dX10_box_58 (by decide) (fun h_14 => ?_) (fun h_14 => absurd (by decide) h_14)
        refine ab_aload_n dX10_box_64 rfl ?_
        refine ab_getf dX10_box_65 fl_X10_47 rfl rfl ?_
        refine ab_iload dX10_box_68 rfl ?_
        refine ab_callV (As := [.int 2]) (rest := []) dX10_box_70 mv_X1_extreme ml_X10_276 ⟨by decide, by decide, rfl, rfl, rfl⟩ (by decide) rfl rfl (Nat.le_of_ble_eq_true rfl) rfl (c_X1_extreme_2 (c := (Cn p 40)) (cn_le p 40) (Nat.pos_of_ne_zero (fun z => c_10 (by rw [z]; rfl)))) ?_
        rintro r w' ⟨rfl, rfl⟩
        exact ab_iret dX10_box_73 rfl (by decide) (Or.inr (Or.inl ⟨g_8, c_1, c_10, rfl, rfl⟩))
    · exact absurd (by decide) c_5
  · refine ab_ifeq 24 dX10_box_8 (by decide) (fun h_15 => ?_) (fun h_15 => absurd (by decide) h_15)
    refine ab_iconst (v := 0) dX10_box_24 (by decide) ?_
    refine ab_iconst (v := 1) dX10_box_25 (by decide) ?_
    refine ab_callV (As := [.int 0, .int 1]) (rest := []) dX10_box_26 mv_X10_refused ml_X10_84 ⟨by decide, by decide, rfl, rfl, rfl⟩ (by decide) rfl rfl (Nat.le_of_ble_eq_true rfl) rfl c_X10_refused_0 ?_
    rintro r w' ⟨rfl, rfl⟩
    refine ab_ifeq 35 dX10_box_29 (by decide) (fun h_16 => absurd h_16 (by decide)) (fun h_16 => ?_)
    refine ab_ldc dX10_box_32 kc_X10_122 ?_
    exact ab_iret dX10_box_34 rfl (by decide) (Or.inr (Or.inr (⟨c_2, rfl, rfl⟩)))
theorem c_X10_box_3 {f0_0 f10_0 f10_1 f10_2 f10_3 f12_5 f12_6 f12_7 f12_8 f12_9 a1 a2 a3 : Int32} {x1 x2 x3 x7 x8 x9 x16 x17 x18 x19 x20 x21 x22 x23 x24 x25 x26 x27 x28 x29 x30 x31 x32 : ax_E} {r5 r6 r13 r14 r15 X Y : Nat → Int32} {f11_0 f11_1 f11_2 f11_3 f11_4 f11_5 f11_6 f11_7 f11_8 f11_9 f11_10 f11_11 f11_12 f11_13 f11_14 f11_15 : Int64} {wm : List ax_E} {p : Nat → Bool} (h_c0 : r6 0 ≤ nI 4) (h_c1 : r6 1 ≤ nI 4) (h_p : ∀ k, p k = true ↔ lawP r5 a1 k) (h_X : ∀ k, k < 40 → lawP r5 a1 k → X k = cX r5 a1 (Cm r5 a2) (Cq r5 a2) a3 k) (h_Y : ∀ k, k < 40 → lawP r5 a1 k → Y k = cY r5 a1 (Cm r5 a2) (Cq r5 a2) a3 k) (h_ok : ((0 ≤ a1 ∧ a1 < r6 0) ∧ (0 ≤ a2 ∧ a2 < r6 1) ∧ (0 ≤ a3 ∧ a3 < 2)) → ∀ k, k < 40 → lawP r5 a1 k → okS (cV0 r5 a1 (Cm r5 a2) (Cq r5 a2) a3 k) (pK r5 a1 k) ∧ okS (cV1 r5 a1 (Cm r5 a2) (Cq r5 a2) a3 k) (pK r5 a1 k) ∧ 0 < cW r5 a1 k) : Ct M_X10_box [.ref 0, .int a1, .int a2, .int a3, .int 3] ([ob 8 [.int f0_0, .ref 1, .ref 4, .ref 7, .ref 10, .ref 11, .ref 12, .ref 18, .ref 25, .ref 29], x1, x2, x3, ob 2 [.ref 5, .ref 6], ia 56 r5, ia 4 r6, x7, x8, x9, ob 3 [.int f10_0, .int f10_1, .int f10_2, .int f10_3], ob 5 [.long f11_0, .long f11_1, .long f11_2, .long f11_3, .long f11_4, .long f11_5, .long f11_6, .long f11_7, .long f11_8, .long f11_9, .long f11_10, .long f11_11, .long f11_12, .long f11_13, .long f11_14, .long f11_15], ob 1 [.ref 13, .ref 14, .ref 15, .ref 16, .ref 17, .int f12_5, .int f12_6, .int f12_7, .int f12_8, .int f12_9], ia 40 r13, ia 40 r14, ia 40 r15, x16, x17, x18, x19, x20, x21, x22, x23, x24, x25, x26, x27, x28, x29, x30, x31, x32], wm) (fun r w' => (∃ g_8 : Nat → Int64, ((0 ≤ a1 ∧ a1 < r6 0) ∧ (0 ≤ a2 ∧ a2 < r6 1) ∧ (0 ≤ a3 ∧ a3 < 2)) ∧ ((nI (Cn p 40)) = 0) ∧ r = some (.int (-1000000000)) ∧ w' = ([ob 8 [.int 5, .ref 1, .ref 4, .ref 7, .ref 10, .ref 11, .ref 12, .ref 18, .ref 25, .ref 29], x1, x2, x3, ob 2 [.ref 5, .ref 6], ia 56 r5, ia 4 r6, x7, x8, x9, ob 3 [.int (Bg r5 a1), .int (Ba r5 a1), .int (Bb r5 a1), .int (Bc r5 a1)], ob 5 [.long (g_8 0), .long (g_8 1), .long (g_8 2), .long (g_8 3), .long (g_8 4), .long (g_8 5), .long (g_8 6), .long (g_8 7), .long (g_8 8), .long (g_8 9), .long (g_8 10), .long (g_8 11), .long (g_8 12), .long (g_8 13), .long (g_8 14), .long (g_8 15)], ob 1 [.ref 13, .ref 14, .ref 15, .ref 16, .ref 17, .int (nI (Cn p 40)), .int f12_6, .int f12_7, .int f12_8, .int f12_9], ia 40 (crv p X r13 40), ia 40 (crv p Y r14 40), ia 40 (crv p nI r15 40), x16, x17, x18, x19, x20, x21, x22, x23, x24, x25, x26, x27, x28, x29, x30, x31, x32], wm)) ∨ (∃ g_8 : Nat → Int64, ((0 ≤ a1 ∧ a1 < r6 0) ∧ (0 ≤ a2 ∧ a2 < r6 1) ∧ (0 ≤ a3 ∧ a3 < 2)) ∧ (¬ ((nI (Cn p 40)) = 0)) ∧ r = some (.int (itr (lp_ext3_st (crv p Y r14 40)) ((Cn p 40) - 1) 1 ((crv p Y r14 40) 0))) ∧ w' = ([ob 8 [.int 0, .ref 1, .ref 4, .ref 7, .ref 10, .ref 11, .ref 12, .ref 18, .ref 25, .ref 29], x1, x2, x3, ob 2 [.ref 5, .ref 6], ia 56 r5, ia 4 r6, x7, x8, x9, ob 3 [.int (Bg r5 a1), .int (Ba r5 a1), .int (Bb r5 a1), .int (Bc r5 a1)], ob 5 [.long (g_8 0), .long (g_8 1), .long (g_8 2), .long (g_8 3), .long (g_8 4), .long (g_8 5), .long (g_8 6), .long (g_8 7), .long (g_8 8), .long (g_8 9), .long (g_8 10), .long (g_8 11), .long (g_8 12), .long (g_8 13), .long (g_8 14), .long (g_8 15)], ob 1 [.ref 13, .ref 14, .ref 15, .ref 16, .ref 17, .int (nI (Cn p 40)), .int f12_6, .int f12_7, .int f12_8, .int f12_9], ia 40 (crv p X r13 40), ia 40 (crv p Y r14 40), ia 40 (crv p nI r15 40), x16, x17, x18, x19, x20, x21, x22, x23, x24, x25, x26, x27, x28, x29, x30, x31, x32], wm)) ∨ ((¬ ((0 ≤ a1 ∧ a1 < r6 0) ∧ (0 ≤ a2 ∧ a2 < r6 1) ∧ (0 ≤ a3 ∧ a3 < 2))) ∧ r = some (.int (-1000000000)) ∧ w' = ([ob 8 [.int 1, .ref 1, .ref 4, .ref 7, .ref 10, .ref 11, .ref 12, .ref 18, .ref 25, .ref 29], x1, x2, x3, ob 2 [.ref 5, .ref 6], ia 56 r5, ia 4 r6, x7, x8, x9, ob 3 [.int f10_0, .int f10_1, .int f10_2, .int f10_3], ob 5 [.long f11_0, .long f11_1, .long f11_2, .long f11_3, .long f11_4, .long f11_5, .long f11_6, .long f11_7, .long f11_8, .long f11_9, .long f11_10, .long f11_11, .long f11_12, .long f11_13, .long f11_14, .long f11_15], ob 1 [.ref 13, .ref 14, .ref 15, .ref 16, .ref 17, .int f12_5, .int f12_6, .int f12_7, .int f12_8, .int f12_9], ia 40 r13, ia 40 r14, ia 40 r15, x16, x17, x18, x19, x20, x21, x22, x23, x24, x25, x26, x27, x28, x29, x30, x31, x32], wm))) := by
  refine ct_of ⟨by decide, rfl⟩ (Nat.le_of_ble_eq_true rfl) ?_
  refine ab_aload_n dX10_box_0 rfl ?_
  refine ab_aload_n dX10_box_1 rfl ?_
  refine ab_iload_n dX10_box_2 rfl ?_
  refine ab_iload_n dX10_box_3 rfl ?_
  refine ab_iload_n dX10_box_4 rfl ?_
  refine ab_callV (As := [.int a1, .int a2, .int a3]) (rest := [.ref 0]) dX10_box_5 mv_X10_hasCurve ml_X10_266 ⟨by decide, by decide, rfl, rfl, rfl⟩ (by decide) rfl rfl (Nat.le_of_ble_eq_true rfl) rfl c_X10_hasCurve ?_
  rintro r w' (⟨c_1, rfl, rfl⟩ | ⟨c_2, rfl, rfl⟩)
  · refine ab_ifeq 24 dX10_box_8 (by decide) (fun h_3 => absurd h_3 (by decide)) (fun h_3 => ?_)
    refine ab_iload dX10_box_11 rfl ?_
    refine ab_iconst (v := 4) dX10_box_13 (by decide) ?_
    refine ab_callS (As := [.int 3, .int 4]) (rest := [.ref 0]) dX10_box_14 ms_X10_isOf ml_X10_118 ⟨by decide, by decide, rfl, rfl, rfl⟩ (by decide) rfl rfl (Nat.le_of_ble_eq_true rfl) c_X10_isOf ?_
    rintro r w' (⟨c_4, rfl, rfl⟩ | ⟨c_5, rfl, rfl⟩)
    · refine ab_ifeq 24 dX10_box_17 (by decide) (fun h_6 => absurd h_6 (by decide)) (fun h_6 => ?_)
      refine ab_iconst (v := 1) dX10_box_20 (by decide) ?_
      refine ab_goto 25 dX10_box_21 (by decide) ?_
      refine ab_iconst (v := 1) dX10_box_25 (by decide) ?_
      refine ab_callV (As := [.int 1, .int 1]) (rest := []) dX10_box_26 mv_X10_refused ml_X10_84 ⟨by decide, by decide, rfl, rfl, rfl⟩ (by decide) rfl rfl (Nat.le_of_ble_eq_true rfl) rfl c_X10_refused_1 ?_
      rintro r w' ⟨rfl, rfl⟩
      refine ab_ifeq 35 dX10_box_29 (by decide) (fun h_7 => ?_) (fun h_7 => absurd (by decide) h_7)
      refine ab_aload_n dX10_box_35 rfl ?_
      refine ab_aload_n dX10_box_36 rfl ?_
      refine ab_iload_n dX10_box_37 rfl ?_
      refine ab_iload_n dX10_box_38 rfl ?_
      refine ab_iload_n dX10_box_39 rfl ?_
      refine ab_callV (As := [.int a1, .int a2, .int a3]) (rest := [.ref 0]) dX10_box_40 mv_X10_curveAt ml_X10_269 ⟨by decide, by decide, rfl, rfl, rfl⟩ (by decide) rfl rfl (Nat.le_of_ble_eq_true rfl) rfl (c_X10_curveAt (p := p) (X := X) (Y := Y) c_1.1 h_c0 c_1.2.1 h_c1 h_p h_X h_Y (h_ok c_1)) ?_
      rintro r w' ⟨g_8, rfl, rfl⟩
      refine ab_callV (As := []) (rest := [.ref 0]) dX10_box_43 mv_X1_isEmpty ml_X10_273 ⟨by decide, by decide, rfl, rfl, rfl⟩ (by decide) rfl rfl (Nat.le_of_ble_eq_true rfl) rfl c_X1_isEmpty ?_
      rintro r w' (⟨c_9, rfl, rfl⟩ | ⟨c_10, rfl, rfl⟩)
      · refine ab_ifne 53 dX10_box_46 (by decide) (fun h_11 => ?_) (fun h_11 => absurd h_11 (by decide))
        refine ab_iconst (v := 0) dX10_box_53 (by decide) ?_
        refine ab_iconst (v := 5) dX10_box_54 (by decide) ?_
        refine ab_callV (As := [.int 0, .int 5]) (rest := []) dX10_box_55 mv_X10_refused ml_X10_84 ⟨by decide, by decide, rfl, rfl, rfl⟩ (by decide) rfl rfl (Nat.le_of_ble_eq_true rfl) rfl c_X10_refused_0 ?_
        rintro r w' ⟨rfl, rfl⟩
        refine ab_ifeq 64 dX10_box_58 (by decide) (fun h_12 => absurd h_12 (by decide)) (fun h_12 => ?_)
        refine ab_ldc dX10_box_61 kc_X10_122 ?_
        exact ab_iret dX10_box_63 rfl (by decide) (Or.inl ⟨g_8, c_1, c_9, rfl, rfl⟩)
      · refine ab_ifne 53 dX10_box_46 (by decide) (fun h_13 => absurd (by decide) h_13) (fun h_13 => ?_)
        refine ab_iconst (v := 1) dX10_box_49 (by decide) ?_
        refine ab_goto 54 dX10_box_50 (by decide) ?_
        refine ab_iconst (v := 5) dX10_box_54 (by decide) ?_
        refine ab_callV (As := [.int 1, .int 5]) (rest := []) dX10_box_55 mv_X10_refused ml_X10_84 ⟨by decide, by decide, rfl, rfl, rfl⟩ (by decide) rfl rfl (Nat.le_of_ble_eq_true rfl) rfl c_X10_refused_1 ?_
        rintro r w' ⟨rfl, rfl⟩
        refine ab_ifeq 64 dX10_box_58 (by decide) (fun h_14 => ?_) (fun h_14 => absurd (by decide) h_14)
        refine ab_aload_n dX10_box_64 rfl ?_
        refine ab_getf dX10_box_65 fl_X10_47 rfl rfl ?_
        refine ab_iload dX10_box_68 rfl ?_
        refine ab_callV (As := [.int 3]) (rest := []) dX10_box_70 mv_X1_extreme ml_X10_276 ⟨by decide, by decide, rfl, rfl, rfl⟩ (by decide) rfl rfl (Nat.le_of_ble_eq_true rfl) rfl (c_X1_extreme_3 (c := (Cn p 40)) (cn_le p 40) (Nat.pos_of_ne_zero (fun z => c_10 (by rw [z]; rfl)))) ?_
        rintro r w' ⟨rfl, rfl⟩
        exact ab_iret dX10_box_73 rfl (by decide) (Or.inr (Or.inl ⟨g_8, c_1, c_10, rfl, rfl⟩))
    · exact absurd (by decide) c_5
  · refine ab_ifeq 24 dX10_box_8 (by decide) (fun h_15 => ?_) (fun h_15 => absurd (by decide) h_15)
    refine ab_iconst (v := 0) dX10_box_24 (by decide) ?_
    refine ab_iconst (v := 1) dX10_box_25 (by decide) ?_
    refine ab_callV (As := [.int 0, .int 1]) (rest := []) dX10_box_26 mv_X10_refused ml_X10_84 ⟨by decide, by decide, rfl, rfl, rfl⟩ (by decide) rfl rfl (Nat.le_of_ble_eq_true rfl) rfl c_X10_refused_0 ?_
    rintro r w' ⟨rfl, rfl⟩
    refine ab_ifeq 35 dX10_box_29 (by decide) (fun h_16 => absurd h_16 (by decide)) (fun h_16 => ?_)
    refine ab_ldc dX10_box_32 kc_X10_122 ?_
    exact ab_iret dX10_box_34 rfl (by decide) (Or.inr (Or.inr (⟨c_2, rfl, rfl⟩)))
theorem c_X10_box_o {f0_0 a1 a2 a3 a4 : Int32} {x1 x2 x3 x5 x7 x8 x9 x10 x11 x12 x13 x14 x15 x16 x17 x18 x19 x20 x21 x22 x23 x24 x25 x26 x27 x28 x29 x30 x31 x32 : ax_E} {r6 : Nat → Int32} {wm : List ax_E} (h_o : ¬ (0 ≤ a4 ∧ a4 < 4)) : Ct M_X10_box [.ref 0, .int a1, .int a2, .int a3, .int a4] ([ob 8 [.int f0_0, .ref 1, .ref 4, .ref 7, .ref 10, .ref 11, .ref 12, .ref 18, .ref 25, .ref 29], x1, x2, x3, ob 2 [.ref 5, .ref 6], x5, ia 4 r6, x7, x8, x9, x10, x11, x12, x13, x14, x15, x16, x17, x18, x19, x20, x21, x22, x23, x24, x25, x26, x27, x28, x29, x30, x31, x32], wm) (fun r w' => (((0 ≤ a1 ∧ a1 < r6 0) ∧ (0 ≤ a2 ∧ a2 < r6 1) ∧ (0 ≤ a3 ∧ a3 < 2)) ∧ r = some (.int (-1000000000)) ∧ w' = ([ob 8 [.int 1, .ref 1, .ref 4, .ref 7, .ref 10, .ref 11, .ref 12, .ref 18, .ref 25, .ref 29], x1, x2, x3, ob 2 [.ref 5, .ref 6], x5, ia 4 r6, x7, x8, x9, x10, x11, x12, x13, x14, x15, x16, x17, x18, x19, x20, x21, x22, x23, x24, x25, x26, x27, x28, x29, x30, x31, x32], wm)) ∨ ((¬ ((0 ≤ a1 ∧ a1 < r6 0) ∧ (0 ≤ a2 ∧ a2 < r6 1) ∧ (0 ≤ a3 ∧ a3 < 2))) ∧ r = some (.int (-1000000000)) ∧ w' = ([ob 8 [.int 1, .ref 1, .ref 4, .ref 7, .ref 10, .ref 11, .ref 12, .ref 18, .ref 25, .ref 29], x1, x2, x3, ob 2 [.ref 5, .ref 6], x5, ia 4 r6, x7, x8, x9, x10, x11, x12, x13, x14, x15, x16, x17, x18, x19, x20, x21, x22, x23, x24, x25, x26, x27, x28, x29, x30, x31, x32], wm))) := by
  refine ct_of ⟨by decide, rfl⟩ (Nat.le_of_ble_eq_true rfl) ?_
  refine ab_aload_n dX10_box_0 rfl ?_
  refine ab_aload_n dX10_box_1 rfl ?_
  refine ab_iload_n dX10_box_2 rfl ?_
  refine ab_iload_n dX10_box_3 rfl ?_
  refine ab_iload_n dX10_box_4 rfl ?_
  refine ab_callV (As := [.int a1, .int a2, .int a3]) (rest := [.ref 0]) dX10_box_5 mv_X10_hasCurve ml_X10_266 ⟨by decide, by decide, rfl, rfl, rfl⟩ (by decide) rfl rfl (Nat.le_of_ble_eq_true rfl) rfl c_X10_hasCurve ?_
  rintro r w' (⟨c_1, rfl, rfl⟩ | ⟨c_2, rfl, rfl⟩)
  · refine ab_ifeq 24 dX10_box_8 (by decide) (fun h_3 => absurd h_3 (by decide)) (fun h_3 => ?_)
    refine ab_iload dX10_box_11 rfl ?_
    refine ab_iconst (v := 4) dX10_box_13 (by decide) ?_
    refine ab_callS (As := [.int a4, .int 4]) (rest := [.ref 0]) dX10_box_14 ms_X10_isOf ml_X10_118 ⟨by decide, by decide, rfl, rfl, rfl⟩ (by decide) rfl rfl (Nat.le_of_ble_eq_true rfl) c_X10_isOf ?_
    rintro r w' (⟨c_4, rfl, rfl⟩ | ⟨c_5, rfl, rfl⟩)
    · exact absurd c_4 h_o
    · refine ab_ifeq 24 dX10_box_17 (by decide) (fun h_6 => ?_) (fun h_6 => absurd (by decide) h_6)
      refine ab_iconst (v := 0) dX10_box_24 (by decide) ?_
      refine ab_iconst (v := 1) dX10_box_25 (by decide) ?_
      refine ab_callV (As := [.int 0, .int 1]) (rest := []) dX10_box_26 mv_X10_refused ml_X10_84 ⟨by decide, by decide, rfl, rfl, rfl⟩ (by decide) rfl rfl (Nat.le_of_ble_eq_true rfl) rfl c_X10_refused_0 ?_
      rintro r w' ⟨rfl, rfl⟩
      refine ab_ifeq 35 dX10_box_29 (by decide) (fun h_7 => absurd h_7 (by decide)) (fun h_7 => ?_)
      refine ab_ldc dX10_box_32 kc_X10_122 ?_
      exact ab_iret dX10_box_34 rfl (by decide) (Or.inl ⟨c_1, rfl, rfl⟩)
  · refine ab_ifeq 24 dX10_box_8 (by decide) (fun h_8 => ?_) (fun h_8 => absurd (by decide) h_8)
    refine ab_iconst (v := 0) dX10_box_24 (by decide) ?_
    refine ab_iconst (v := 1) dX10_box_25 (by decide) ?_
    refine ab_callV (As := [.int 0, .int 1]) (rest := []) dX10_box_26 mv_X10_refused ml_X10_84 ⟨by decide, by decide, rfl, rfl, rfl⟩ (by decide) rfl rfl (Nat.le_of_ble_eq_true rfl) rfl c_X10_refused_0 ?_
    rintro r w' ⟨rfl, rfl⟩
    refine ab_ifeq 35 dX10_box_29 (by decide) (fun h_9 => absurd h_9 (by decide)) (fun h_9 => ?_)
    refine ab_ldc dX10_box_32 kc_X10_122 ?_
    exact ab_iret dX10_box_34 rfl (by decide) (Or.inr (⟨c_2, rfl, rfl⟩))
theorem c_X10_area {f0_0 f10_0 f10_1 f10_2 f10_3 f12_5 f12_6 f12_7 f12_8 f12_9 a1 a2 a3 : Int32} {x1 x2 x3 x7 x8 x9 x16 x17 x18 x19 x20 x21 x22 x23 x24 x25 x26 x27 x28 x29 x30 x31 x32 : ax_E} {r5 r6 r13 r14 r15 X Y : Nat → Int32} {f11_0 f11_1 f11_2 f11_3 f11_4 f11_5 f11_6 f11_7 f11_8 f11_9 f11_10 f11_11 f11_12 f11_13 f11_14 f11_15 : Int64} {wm : List ax_E} {p : Nat → Bool} (h_c0 : r6 0 ≤ nI 4) (h_c1 : r6 1 ≤ nI 4) (h_p : ∀ k, p k = true ↔ lawP r5 a1 k) (h_X : ∀ k, k < 40 → lawP r5 a1 k → X k = cX r5 a1 (Cm r5 a2) (Cq r5 a2) a3 k) (h_Y : ∀ k, k < 40 → lawP r5 a1 k → Y k = cY r5 a1 (Cm r5 a2) (Cq r5 a2) a3 k) (h_ok : ((0 ≤ a1 ∧ a1 < r6 0) ∧ (0 ≤ a2 ∧ a2 < r6 1) ∧ (0 ≤ a3 ∧ a3 < 2)) → ∀ k, k < 40 → lawP r5 a1 k → okS (cV0 r5 a1 (Cm r5 a2) (Cq r5 a2) a3 k) (pK r5 a1 k) ∧ okS (cV1 r5 a1 (Cm r5 a2) (Cq r5 a2) a3 k) (pK r5 a1 k) ∧ 0 < cW r5 a1 k) : Ct M_X10_area [.ref 0, .int a1, .int a2, .int a3] ([ob 8 [.int f0_0, .ref 1, .ref 4, .ref 7, .ref 10, .ref 11, .ref 12, .ref 18, .ref 25, .ref 29], x1, x2, x3, ob 2 [.ref 5, .ref 6], ia 56 r5, ia 4 r6, x7, x8, x9, ob 3 [.int f10_0, .int f10_1, .int f10_2, .int f10_3], ob 5 [.long f11_0, .long f11_1, .long f11_2, .long f11_3, .long f11_4, .long f11_5, .long f11_6, .long f11_7, .long f11_8, .long f11_9, .long f11_10, .long f11_11, .long f11_12, .long f11_13, .long f11_14, .long f11_15], ob 1 [.ref 13, .ref 14, .ref 15, .ref 16, .ref 17, .int f12_5, .int f12_6, .int f12_7, .int f12_8, .int f12_9], ia 40 r13, ia 40 r14, ia 40 r15, x16, x17, x18, x19, x20, x21, x22, x23, x24, x25, x26, x27, x28, x29, x30, x31, x32], wm) (fun r w' => (∃ g_4 : Nat → Int64, ((0 ≤ a1 ∧ a1 < r6 0) ∧ (0 ≤ a2 ∧ a2 < r6 1) ∧ (0 ≤ a3 ∧ a3 < 2)) ∧ r = some (.long (itr (lp_edge_st (crv p X r13 40) (crv p Y r14 40) (Cn p 40)) (Cn p 40) 0 0)) ∧ w' = ([ob 8 [.int 0, .ref 1, .ref 4, .ref 7, .ref 10, .ref 11, .ref 12, .ref 18, .ref 25, .ref 29], x1, x2, x3, ob 2 [.ref 5, .ref 6], ia 56 r5, ia 4 r6, x7, x8, x9, ob 3 [.int (Bg r5 a1), .int (Ba r5 a1), .int (Bb r5 a1), .int (Bc r5 a1)], ob 5 [.long (g_4 0), .long (g_4 1), .long (g_4 2), .long (g_4 3), .long (g_4 4), .long (g_4 5), .long (g_4 6), .long (g_4 7), .long (g_4 8), .long (g_4 9), .long (g_4 10), .long (g_4 11), .long (g_4 12), .long (g_4 13), .long (g_4 14), .long (g_4 15)], ob 1 [.ref 13, .ref 14, .ref 15, .ref 16, .ref 17, .int (nI (Cn p 40)), .int f12_6, .int f12_7, .int f12_8, .int f12_9], ia 40 (crv p X r13 40), ia 40 (crv p Y r14 40), ia 40 (crv p nI r15 40), x16, x17, x18, x19, x20, x21, x22, x23, x24, x25, x26, x27, x28, x29, x30, x31, x32], wm)) ∨ ((¬ ((0 ≤ a1 ∧ a1 < r6 0) ∧ (0 ≤ a2 ∧ a2 < r6 1) ∧ (0 ≤ a3 ∧ a3 < 2))) ∧ r = some (.long (-9223372036854775808)) ∧ w' = ([ob 8 [.int 1, .ref 1, .ref 4, .ref 7, .ref 10, .ref 11, .ref 12, .ref 18, .ref 25, .ref 29], x1, x2, x3, ob 2 [.ref 5, .ref 6], ia 56 r5, ia 4 r6, x7, x8, x9, ob 3 [.int f10_0, .int f10_1, .int f10_2, .int f10_3], ob 5 [.long f11_0, .long f11_1, .long f11_2, .long f11_3, .long f11_4, .long f11_5, .long f11_6, .long f11_7, .long f11_8, .long f11_9, .long f11_10, .long f11_11, .long f11_12, .long f11_13, .long f11_14, .long f11_15], ob 1 [.ref 13, .ref 14, .ref 15, .ref 16, .ref 17, .int f12_5, .int f12_6, .int f12_7, .int f12_8, .int f12_9], ia 40 r13, ia 40 r14, ia 40 r15, x16, x17, x18, x19, x20, x21, x22, x23, x24, x25, x26, x27, x28, x29, x30, x31, x32], wm))) := by
  refine ct_of ⟨by decide, rfl⟩ (Nat.le_of_ble_eq_true rfl) ?_
  refine ab_aload_n dX10_area_0 rfl ?_
  refine ab_aload_n dX10_area_1 rfl ?_
  refine ab_iload_n dX10_area_2 rfl ?_
  refine ab_iload_n dX10_area_3 rfl ?_
  refine ab_iload_n dX10_area_4 rfl ?_
  refine ab_callV (As := [.int a1, .int a2, .int a3]) (rest := [.ref 0]) dX10_area_5 mv_X10_hasCurve ml_X10_266 ⟨by decide, by decide, rfl, rfl, rfl⟩ (by decide) rfl rfl (Nat.le_of_ble_eq_true rfl) rfl c_X10_hasCurve ?_
  rintro r w' (⟨c_1, rfl, rfl⟩ | ⟨c_2, rfl, rfl⟩)
  · refine ab_iconst (v := 1) dX10_area_8 (by decide) ?_
    refine ab_callV (As := [.int 1, .int 1]) (rest := []) dX10_area_9 mv_X10_refused ml_X10_84 ⟨by decide, by decide, rfl, rfl, rfl⟩ (by decide) rfl rfl (Nat.le_of_ble_eq_true rfl) rfl c_X10_refused_1 ?_
    rintro r w' ⟨rfl, rfl⟩
    refine ab_ifeq 19 dX10_area_12 (by decide) (fun h_3 => ?_) (fun h_3 => absurd (by decide) h_3)
    refine ab_aload_n dX10_area_19 rfl ?_
    refine ab_iload_n dX10_area_20 rfl ?_
    refine ab_iload_n dX10_area_21 rfl ?_
    refine ab_iload_n dX10_area_22 rfl ?_
    refine ab_callV (As := [.int a1, .int a2, .int a3]) (rest := []) dX10_area_23 mv_X10_curveAt ml_X10_269 ⟨by decide, by decide, rfl, rfl, rfl⟩ (by decide) rfl rfl (Nat.le_of_ble_eq_true rfl) rfl (c_X10_curveAt (p := p) (X := X) (Y := Y) c_1.1 h_c0 c_1.2.1 h_c1 h_p h_X h_Y (h_ok c_1)) ?_
    rintro r w' ⟨g_4, rfl, rfl⟩
    refine ab_callV (As := []) (rest := []) dX10_area_26 mv_X1_edgeSum ml_X10_279 ⟨by decide, by decide, rfl, rfl, rfl⟩ (by decide) rfl rfl (Nat.le_of_ble_eq_true rfl) rfl (c_X1_edgeSum (c := (Cn p 40)) (cn_le p 40)) ?_
    rintro r w' ⟨rfl, rfl⟩
    exact ab_lret dX10_area_29 rfl (by decide) (Or.inl ⟨g_4, c_1, rfl, rfl⟩)
  · refine ab_iconst (v := 1) dX10_area_8 (by decide) ?_
    refine ab_callV (As := [.int 0, .int 1]) (rest := []) dX10_area_9 mv_X10_refused ml_X10_84 ⟨by decide, by decide, rfl, rfl, rfl⟩ (by decide) rfl rfl (Nat.le_of_ble_eq_true rfl) rfl c_X10_refused_0 ?_
    rintro r w' ⟨rfl, rfl⟩
    refine ab_ifeq 19 dX10_area_12 (by decide) (fun h_5 => absurd h_5 (by decide)) (fun h_5 => ?_)
    refine ab_ldc2 dX10_area_15 kl_X10_194 ?_
    exact ab_lret dX10_area_18 rfl (by decide) (Or.inr (⟨c_2, rfl, rfl⟩))
theorem c_X10_crossings {f0_0 f10_0 f10_1 f10_2 f10_3 f12_5 f12_6 f12_7 f12_8 f12_9 a1 a2 a3 : Int32} {x1 x2 x3 x7 x8 x9 x16 x17 x18 x19 x20 x21 x22 x23 x24 x25 x26 x27 x28 x29 x30 x31 x32 : ax_E} {r5 r6 r13 r14 r15 X Y : Nat → Int32} {f11_0 f11_1 f11_2 f11_3 f11_4 f11_5 f11_6 f11_7 f11_8 f11_9 f11_10 f11_11 f11_12 f11_13 f11_14 f11_15 : Int64} {wm : List ax_E} {p : Nat → Bool} (h_c0 : r6 0 ≤ nI 4) (h_c1 : r6 1 ≤ nI 4) (h_p : ∀ k, p k = true ↔ lawP r5 a1 k) (h_X : ∀ k, k < 40 → lawP r5 a1 k → X k = cX r5 a1 (Cm r5 a2) (Cq r5 a2) a3 k) (h_Y : ∀ k, k < 40 → lawP r5 a1 k → Y k = cY r5 a1 (Cm r5 a2) (Cq r5 a2) a3 k) (h_ok : ((0 ≤ a1 ∧ a1 < r6 0) ∧ (0 ≤ a2 ∧ a2 < r6 1) ∧ (0 ≤ a3 ∧ a3 < 2)) → ∀ k, k < 40 → lawP r5 a1 k → okS (cV0 r5 a1 (Cm r5 a2) (Cq r5 a2) a3 k) (pK r5 a1 k) ∧ okS (cV1 r5 a1 (Cm r5 a2) (Cq r5 a2) a3 k) (pK r5 a1 k) ∧ 0 < cW r5 a1 k) : Ct M_X10_crossings [.ref 0, .int a1, .int a2, .int a3] ([ob 8 [.int f0_0, .ref 1, .ref 4, .ref 7, .ref 10, .ref 11, .ref 12, .ref 18, .ref 25, .ref 29], x1, x2, x3, ob 2 [.ref 5, .ref 6], ia 56 r5, ia 4 r6, x7, x8, x9, ob 3 [.int f10_0, .int f10_1, .int f10_2, .int f10_3], ob 5 [.long f11_0, .long f11_1, .long f11_2, .long f11_3, .long f11_4, .long f11_5, .long f11_6, .long f11_7, .long f11_8, .long f11_9, .long f11_10, .long f11_11, .long f11_12, .long f11_13, .long f11_14, .long f11_15], ob 1 [.ref 13, .ref 14, .ref 15, .ref 16, .ref 17, .int f12_5, .int f12_6, .int f12_7, .int f12_8, .int f12_9], ia 40 r13, ia 40 r14, ia 40 r15, x16, x17, x18, x19, x20, x21, x22, x23, x24, x25, x26, x27, x28, x29, x30, x31, x32], wm) (fun r w' => (∃ g_4 : Nat → Int64, ((0 ≤ a1 ∧ a1 < r6 0) ∧ (0 ≤ a2 ∧ a2 < r6 1) ∧ (0 ≤ a3 ∧ a3 < 2)) ∧ r = some (.int (itr (lp_cutO_st (crv p X r13 40) (crv p Y r14 40) (Cn p 40)) (Cn p 40) 0 0)) ∧ w' = ([ob 8 [.int 0, .ref 1, .ref 4, .ref 7, .ref 10, .ref 11, .ref 12, .ref 18, .ref 25, .ref 29], x1, x2, x3, ob 2 [.ref 5, .ref 6], ia 56 r5, ia 4 r6, x7, x8, x9, ob 3 [.int (Bg r5 a1), .int (Ba r5 a1), .int (Bb r5 a1), .int (Bc r5 a1)], ob 5 [.long (g_4 0), .long (g_4 1), .long (g_4 2), .long (g_4 3), .long (g_4 4), .long (g_4 5), .long (g_4 6), .long (g_4 7), .long (g_4 8), .long (g_4 9), .long (g_4 10), .long (g_4 11), .long (g_4 12), .long (g_4 13), .long (g_4 14), .long (g_4 15)], ob 1 [.ref 13, .ref 14, .ref 15, .ref 16, .ref 17, .int (nI (Cn p 40)), .int f12_6, .int f12_7, .int f12_8, .int f12_9], ia 40 (crv p X r13 40), ia 40 (crv p Y r14 40), ia 40 (crv p nI r15 40), x16, x17, x18, x19, x20, x21, x22, x23, x24, x25, x26, x27, x28, x29, x30, x31, x32], wm)) ∨ ((¬ ((0 ≤ a1 ∧ a1 < r6 0) ∧ (0 ≤ a2 ∧ a2 < r6 1) ∧ (0 ≤ a3 ∧ a3 < 2))) ∧ r = some (.int (-1)) ∧ w' = ([ob 8 [.int 1, .ref 1, .ref 4, .ref 7, .ref 10, .ref 11, .ref 12, .ref 18, .ref 25, .ref 29], x1, x2, x3, ob 2 [.ref 5, .ref 6], ia 56 r5, ia 4 r6, x7, x8, x9, ob 3 [.int f10_0, .int f10_1, .int f10_2, .int f10_3], ob 5 [.long f11_0, .long f11_1, .long f11_2, .long f11_3, .long f11_4, .long f11_5, .long f11_6, .long f11_7, .long f11_8, .long f11_9, .long f11_10, .long f11_11, .long f11_12, .long f11_13, .long f11_14, .long f11_15], ob 1 [.ref 13, .ref 14, .ref 15, .ref 16, .ref 17, .int f12_5, .int f12_6, .int f12_7, .int f12_8, .int f12_9], ia 40 r13, ia 40 r14, ia 40 r15, x16, x17, x18, x19, x20, x21, x22, x23, x24, x25, x26, x27, x28, x29, x30, x31, x32], wm))) := by
  refine ct_of ⟨by decide, rfl⟩ (Nat.le_of_ble_eq_true rfl) ?_
  refine ab_aload_n dX10_crossings_0 rfl ?_
  refine ab_aload_n dX10_crossings_1 rfl ?_
  refine ab_iload_n dX10_crossings_2 rfl ?_
  refine ab_iload_n dX10_crossings_3 rfl ?_
  refine ab_iload_n dX10_crossings_4 rfl ?_
  refine ab_callV (As := [.int a1, .int a2, .int a3]) (rest := [.ref 0]) dX10_crossings_5 mv_X10_hasCurve ml_X10_266 ⟨by decide, by decide, rfl, rfl, rfl⟩ (by decide) rfl rfl (Nat.le_of_ble_eq_true rfl) rfl c_X10_hasCurve ?_
  rintro r w' (⟨c_1, rfl, rfl⟩ | ⟨c_2, rfl, rfl⟩)
  · refine ab_iconst (v := 1) dX10_crossings_8 (by decide) ?_
    refine ab_callV (As := [.int 1, .int 1]) (rest := []) dX10_crossings_9 mv_X10_refused ml_X10_84 ⟨by decide, by decide, rfl, rfl, rfl⟩ (by decide) rfl rfl (Nat.le_of_ble_eq_true rfl) rfl c_X10_refused_1 ?_
    rintro r w' ⟨rfl, rfl⟩
    refine ab_ifeq 17 dX10_crossings_12 (by decide) (fun h_3 => ?_) (fun h_3 => absurd (by decide) h_3)
    refine ab_aload_n dX10_crossings_17 rfl ?_
    refine ab_iload_n dX10_crossings_18 rfl ?_
    refine ab_iload_n dX10_crossings_19 rfl ?_
    refine ab_iload_n dX10_crossings_20 rfl ?_
    refine ab_callV (As := [.int a1, .int a2, .int a3]) (rest := []) dX10_crossings_21 mv_X10_curveAt ml_X10_269 ⟨by decide, by decide, rfl, rfl, rfl⟩ (by decide) rfl rfl (Nat.le_of_ble_eq_true rfl) rfl (c_X10_curveAt (p := p) (X := X) (Y := Y) c_1.1 h_c0 c_1.2.1 h_c1 h_p h_X h_Y (h_ok c_1)) ?_
    rintro r w' ⟨g_4, rfl, rfl⟩
    refine ab_callV (As := []) (rest := []) dX10_crossings_24 mv_X1_cutCount ml_X10_282 ⟨by decide, by decide, rfl, rfl, rfl⟩ (by decide) rfl rfl (Nat.le_of_ble_eq_true rfl) rfl (c_X1_cutCount (c := (Cn p 40)) (cn_le p 40)) ?_
    rintro r w' ⟨rfl, rfl⟩
    exact ab_iret dX10_crossings_27 rfl (by decide) (Or.inl ⟨g_4, c_1, rfl, rfl⟩)
  · refine ab_iconst (v := 1) dX10_crossings_8 (by decide) ?_
    refine ab_callV (As := [.int 0, .int 1]) (rest := []) dX10_crossings_9 mv_X10_refused ml_X10_84 ⟨by decide, by decide, rfl, rfl, rfl⟩ (by decide) rfl rfl (Nat.le_of_ble_eq_true rfl) rfl c_X10_refused_0 ?_
    rintro r w' ⟨rfl, rfl⟩
    refine ab_ifeq 17 dX10_crossings_12 (by decide) (fun h_5 => absurd h_5 (by decide)) (fun h_5 => ?_)
    refine ab_iconst (v := -1) dX10_crossings_15 (by decide) ?_
    exact ab_iret dX10_crossings_16 rfl (by decide) (Or.inr (⟨c_2, rfl, rfl⟩))
theorem c_X10_refusesRun {f0_0 f10_0 f10_1 f10_2 f10_3 f12_5 f12_6 f12_7 f12_8 f12_9 a1 a2 a3 a4 : Int32} {x1 x2 x3 x7 x8 x9 x16 x17 x18 x19 x20 x21 x22 x23 x24 x25 x26 x27 x28 x29 x30 x31 x32 : ax_E} {r5 r6 r13 r14 r15 X Y : Nat → Int32} {f11_0 f11_1 f11_2 f11_3 f11_4 f11_5 f11_6 f11_7 f11_8 f11_9 f11_10 f11_11 f11_12 f11_13 f11_14 f11_15 : Int64} {wm : List ax_E} {p : Nat → Bool} (h_c0 : r6 0 ≤ nI 4) (h_c1 : r6 1 ≤ nI 4) (h_p : ∀ k, p k = true ↔ lawP r5 a1 k) (h_X : ∀ k, k < 40 → lawP r5 a1 k → X k = cX r5 a1 (Cm r5 a2) (Cq r5 a2) a3 k) (h_Y : ∀ k, k < 40 → lawP r5 a1 k → Y k = cY r5 a1 (Cm r5 a2) (Cq r5 a2) a3 k) (h_ok : ((0 ≤ a1 ∧ a1 < r6 0) ∧ (0 ≤ a2 ∧ a2 < r6 1) ∧ (0 ≤ a3 ∧ a3 < 2)) → ∀ k, k < 40 → lawP r5 a1 k → okS (cV0 r5 a1 (Cm r5 a2) (Cq r5 a2) a3 k) (pK r5 a1 k) ∧ okS (cV1 r5 a1 (Cm r5 a2) (Cq r5 a2) a3 k) (pK r5 a1 k) ∧ 0 < cW r5 a1 k) : Ct M_X10_refusesRun [.ref 0, .int a1, .int a2, .int a3, .int a4] ([ob 8 [.int f0_0, .ref 1, .ref 4, .ref 7, .ref 10, .ref 11, .ref 12, .ref 18, .ref 25, .ref 29], x1, x2, x3, ob 2 [.ref 5, .ref 6], ia 56 r5, ia 4 r6, x7, x8, x9, ob 3 [.int f10_0, .int f10_1, .int f10_2, .int f10_3], ob 5 [.long f11_0, .long f11_1, .long f11_2, .long f11_3, .long f11_4, .long f11_5, .long f11_6, .long f11_7, .long f11_8, .long f11_9, .long f11_10, .long f11_11, .long f11_12, .long f11_13, .long f11_14, .long f11_15], ob 1 [.ref 13, .ref 14, .ref 15, .ref 16, .ref 17, .int f12_5, .int f12_6, .int f12_7, .int f12_8, .int f12_9], ia 40 r13, ia 40 r14, ia 40 r15, x16, x17, x18, x19, x20, x21, x22, x23, x24, x25, x26, x27, x28, x29, x30, x31, x32], wm) (fun r w' => (((0 ≤ a1 ∧ a1 < r6 0) ∧ (0 ≤ a2 ∧ a2 < r6 1) ∧ (0 ≤ a3 ∧ a3 < 2)) ∧ (a4 < 0) ∧ r = some (.int 1) ∧ w' = ([ob 8 [.int 2, .ref 1, .ref 4, .ref 7, .ref 10, .ref 11, .ref 12, .ref 18, .ref 25, .ref 29], x1, x2, x3, ob 2 [.ref 5, .ref 6], ia 56 r5, ia 4 r6, x7, x8, x9, ob 3 [.int f10_0, .int f10_1, .int f10_2, .int f10_3], ob 5 [.long f11_0, .long f11_1, .long f11_2, .long f11_3, .long f11_4, .long f11_5, .long f11_6, .long f11_7, .long f11_8, .long f11_9, .long f11_10, .long f11_11, .long f11_12, .long f11_13, .long f11_14, .long f11_15], ob 1 [.ref 13, .ref 14, .ref 15, .ref 16, .ref 17, .int f12_5, .int f12_6, .int f12_7, .int f12_8, .int f12_9], ia 40 r13, ia 40 r14, ia 40 r15, x16, x17, x18, x19, x20, x21, x22, x23, x24, x25, x26, x27, x28, x29, x30, x31, x32], wm)) ∨ (((0 ≤ a1 ∧ a1 < r6 0) ∧ (0 ≤ a2 ∧ a2 < r6 1) ∧ (0 ≤ a3 ∧ a3 < 2)) ∧ (¬ a4 < 0) ∧ (100 < a4) ∧ r = some (.int 1) ∧ w' = ([ob 8 [.int 2, .ref 1, .ref 4, .ref 7, .ref 10, .ref 11, .ref 12, .ref 18, .ref 25, .ref 29], x1, x2, x3, ob 2 [.ref 5, .ref 6], ia 56 r5, ia 4 r6, x7, x8, x9, ob 3 [.int f10_0, .int f10_1, .int f10_2, .int f10_3], ob 5 [.long f11_0, .long f11_1, .long f11_2, .long f11_3, .long f11_4, .long f11_5, .long f11_6, .long f11_7, .long f11_8, .long f11_9, .long f11_10, .long f11_11, .long f11_12, .long f11_13, .long f11_14, .long f11_15], ob 1 [.ref 13, .ref 14, .ref 15, .ref 16, .ref 17, .int f12_5, .int f12_6, .int f12_7, .int f12_8, .int f12_9], ia 40 r13, ia 40 r14, ia 40 r15, x16, x17, x18, x19, x20, x21, x22, x23, x24, x25, x26, x27, x28, x29, x30, x31, x32], wm)) ∨ (∃ g_9 : Nat → Int64, ∃ F_10 : Nat, ∃ L_11 : Nat, ((0 ≤ a1 ∧ a1 < r6 0) ∧ (0 ≤ a2 ∧ a2 < r6 1) ∧ (0 ≤ a3 ∧ a3 < 2)) ∧ (¬ a4 < 0) ∧ (¬ 100 < a4) ∧ (RunOf (fun F_10 L_11 => isRn (crv p X r13 40) (crv p Y r14 40) a4 F_10 (F_10 + L_11 - 1)) (Cn p 40) F_10 L_11) ∧ r = some (.int 0) ∧ w' = ([ob 8 [.int 0, .ref 1, .ref 4, .ref 7, .ref 10, .ref 11, .ref 12, .ref 18, .ref 25, .ref 29], x1, x2, x3, ob 2 [.ref 5, .ref 6], ia 56 r5, ia 4 r6, x7, x8, x9, ob 3 [.int (Bg r5 a1), .int (Ba r5 a1), .int (Bb r5 a1), .int (Bc r5 a1)], ob 5 [.long (g_9 0), .long (g_9 1), .long (g_9 2), .long (g_9 3), .long (g_9 4), .long (g_9 5), .long (g_9 6), .long (g_9 7), .long (g_9 8), .long (g_9 9), .long (g_9 10), .long (g_9 11), .long (g_9 12), .long (g_9 13), .long (g_9 14), .long (g_9 15)], ob 1 [.ref 13, .ref 14, .ref 15, .ref 16, .ref 17, .int (nI (Cn p 40)), .int f12_6, .int f12_7, .int (nI F_10), .int (nI L_11)], ia 40 (crv p X r13 40), ia 40 (crv p Y r14 40), ia 40 (crv p nI r15 40), x16, x17, x18, x19, x20, x21, x22, x23, x24, x25, x26, x27, x28, x29, x30, x31, x32], wm)) ∨ (∃ g_9 : Nat → Int64, ((0 ≤ a1 ∧ a1 < r6 0) ∧ (0 ≤ a2 ∧ a2 < r6 1) ∧ (0 ≤ a3 ∧ a3 < 2)) ∧ (¬ a4 < 0) ∧ (¬ 100 < a4) ∧ ((Cn p 40) = 0) ∧ r = some (.int 0) ∧ w' = ([ob 8 [.int 0, .ref 1, .ref 4, .ref 7, .ref 10, .ref 11, .ref 12, .ref 18, .ref 25, .ref 29], x1, x2, x3, ob 2 [.ref 5, .ref 6], ia 56 r5, ia 4 r6, x7, x8, x9, ob 3 [.int (Bg r5 a1), .int (Ba r5 a1), .int (Bb r5 a1), .int (Bc r5 a1)], ob 5 [.long (g_9 0), .long (g_9 1), .long (g_9 2), .long (g_9 3), .long (g_9 4), .long (g_9 5), .long (g_9 6), .long (g_9 7), .long (g_9 8), .long (g_9 9), .long (g_9 10), .long (g_9 11), .long (g_9 12), .long (g_9 13), .long (g_9 14), .long (g_9 15)], ob 1 [.ref 13, .ref 14, .ref 15, .ref 16, .ref 17, .int (nI (Cn p 40)), .int f12_6, .int f12_7, .int f12_8, .int 0], ia 40 (crv p X r13 40), ia 40 (crv p Y r14 40), ia 40 (crv p nI r15 40), x16, x17, x18, x19, x20, x21, x22, x23, x24, x25, x26, x27, x28, x29, x30, x31, x32], wm)) ∨ ((¬ ((0 ≤ a1 ∧ a1 < r6 0) ∧ (0 ≤ a2 ∧ a2 < r6 1) ∧ (0 ≤ a3 ∧ a3 < 2))) ∧ r = some (.int 1) ∧ w' = ([ob 8 [.int 1, .ref 1, .ref 4, .ref 7, .ref 10, .ref 11, .ref 12, .ref 18, .ref 25, .ref 29], x1, x2, x3, ob 2 [.ref 5, .ref 6], ia 56 r5, ia 4 r6, x7, x8, x9, ob 3 [.int f10_0, .int f10_1, .int f10_2, .int f10_3], ob 5 [.long f11_0, .long f11_1, .long f11_2, .long f11_3, .long f11_4, .long f11_5, .long f11_6, .long f11_7, .long f11_8, .long f11_9, .long f11_10, .long f11_11, .long f11_12, .long f11_13, .long f11_14, .long f11_15], ob 1 [.ref 13, .ref 14, .ref 15, .ref 16, .ref 17, .int f12_5, .int f12_6, .int f12_7, .int f12_8, .int f12_9], ia 40 r13, ia 40 r14, ia 40 r15, x16, x17, x18, x19, x20, x21, x22, x23, x24, x25, x26, x27, x28, x29, x30, x31, x32], wm))) := by
  refine ct_of ⟨by decide, rfl⟩ (Nat.le_of_ble_eq_true rfl) ?_
  refine ab_aload_n dX10_refusesRun_0 rfl ?_
  refine ab_aload_n dX10_refusesRun_1 rfl ?_
  refine ab_iload_n dX10_refusesRun_2 rfl ?_
  refine ab_iload_n dX10_refusesRun_3 rfl ?_
  refine ab_iload_n dX10_refusesRun_4 rfl ?_
  refine ab_callV (As := [.int a1, .int a2, .int a3]) (rest := [.ref 0]) dX10_refusesRun_5 mv_X10_hasCurve ml_X10_266 ⟨by decide, by decide, rfl, rfl, rfl⟩ (by decide) rfl rfl (Nat.le_of_ble_eq_true rfl) rfl c_X10_hasCurve ?_
  rintro r w' (⟨c_1, rfl, rfl⟩ | ⟨c_2, rfl, rfl⟩)
  · refine ab_iconst (v := 1) dX10_refusesRun_8 (by decide) ?_
    refine ab_callV (As := [.int 1, .int 1]) (rest := []) dX10_refusesRun_9 mv_X10_refused ml_X10_84 ⟨by decide, by decide, rfl, rfl, rfl⟩ (by decide) rfl rfl (Nat.le_of_ble_eq_true rfl) rfl c_X10_refused_1 ?_
    rintro r w' ⟨rfl, rfl⟩
    refine ab_ifne 40 dX10_refusesRun_12 (by decide) (fun h_3 => absurd (by decide) h_3) (fun h_3 => ?_)
    refine ab_aload_n dX10_refusesRun_15 rfl ?_
    refine ab_iload dX10_refusesRun_16 rfl ?_
    refine ab_iflt 32 dX10_refusesRun_18 (by decide) (fun h_4 => ?_) (fun h_4 => ?_)
    · refine ab_iconst (v := 0) dX10_refusesRun_32 (by decide) ?_
      refine ab_iconst (v := 2) dX10_refusesRun_33 (by decide) ?_
      refine ab_callV (As := [.int 0, .int 2]) (rest := []) dX10_refusesRun_34 mv_X10_refused ml_X10_84 ⟨by decide, by decide, rfl, rfl, rfl⟩ (by decide) rfl rfl (Nat.le_of_ble_eq_true rfl) rfl c_X10_refused_0 ?_
      rintro r w' ⟨rfl, rfl⟩
      refine ab_ifeq 42 dX10_refusesRun_37 (by decide) (fun h_5 => absurd h_5 (by decide)) (fun h_5 => ?_)
      refine ab_iconst (v := 1) dX10_refusesRun_40 (by decide) ?_
      exact ab_zret dX10_refusesRun_41 rfl rfl (by decide) (Or.inl ⟨c_1, h_4, rfl, rfl⟩)
    · refine ab_iload dX10_refusesRun_21 rfl ?_
      refine ab_bipush (v := 100) dX10_refusesRun_23 (by decide) ?_
      refine ab_icmpgt 32 dX10_refusesRun_25 (by decide) (fun h_6 => ?_) (fun h_6 => ?_)
      · refine ab_iconst (v := 0) dX10_refusesRun_32 (by decide) ?_
        refine ab_iconst (v := 2) dX10_refusesRun_33 (by decide) ?_
        refine ab_callV (As := [.int 0, .int 2]) (rest := []) dX10_refusesRun_34 mv_X10_refused ml_X10_84 ⟨by decide, by decide, rfl, rfl, rfl⟩ (by decide) rfl rfl (Nat.le_of_ble_eq_true rfl) rfl c_X10_refused_0 ?_
        rintro r w' ⟨rfl, rfl⟩
        refine ab_ifeq 42 dX10_refusesRun_37 (by decide) (fun h_7 => absurd h_7 (by decide)) (fun h_7 => ?_)
        refine ab_iconst (v := 1) dX10_refusesRun_40 (by decide) ?_
        exact ab_zret dX10_refusesRun_41 rfl rfl (by decide) (Or.inr (Or.inl ⟨c_1, h_4, h_6, rfl, rfl⟩))
      · refine ab_iconst (v := 1) dX10_refusesRun_28 (by decide) ?_
        refine ab_goto 33 dX10_refusesRun_29 (by decide) ?_
        refine ab_iconst (v := 2) dX10_refusesRun_33 (by decide) ?_
        refine ab_callV (As := [.int 1, .int 2]) (rest := []) dX10_refusesRun_34 mv_X10_refused ml_X10_84 ⟨by decide, by decide, rfl, rfl, rfl⟩ (by decide) rfl rfl (Nat.le_of_ble_eq_true rfl) rfl c_X10_refused_1 ?_
        rintro r w' ⟨rfl, rfl⟩
        refine ab_ifeq 42 dX10_refusesRun_37 (by decide) (fun h_8 => ?_) (fun h_8 => absurd (by decide) h_8)
        refine ab_aload_n dX10_refusesRun_42 rfl ?_
        refine ab_iload_n dX10_refusesRun_43 rfl ?_
        refine ab_iload_n dX10_refusesRun_44 rfl ?_
        refine ab_iload_n dX10_refusesRun_45 rfl ?_
        refine ab_callV (As := [.int a1, .int a2, .int a3]) (rest := []) dX10_refusesRun_46 mv_X10_curveAt ml_X10_269 ⟨by decide, by decide, rfl, rfl, rfl⟩ (by decide) rfl rfl (Nat.le_of_ble_eq_true rfl) rfl (c_X10_curveAt (p := p) (X := X) (Y := Y) c_1.1 h_c0 c_1.2.1 h_c1 h_p h_X h_Y (h_ok c_1)) ?_
        rintro r w' ⟨g_9, rfl, rfl⟩
        refine ab_iload dX10_refusesRun_49 rfl ?_
        refine ab_callV (As := [.int a4]) (rest := []) dX10_refusesRun_51 mv_X1_findRun ml_X10_401 ⟨by decide, by decide, rfl, rfl, rfl⟩ (by decide) rfl rfl (Nat.le_of_ble_eq_true rfl) rfl (c_X1_findRun (c := (Cn p 40)) (cn_le p 40)) ?_
        rintro r w' (⟨F_10, L_11, c_12, rfl, rfl⟩ | ⟨c_13, rfl, rfl⟩)
        · refine ab_iconst (v := 0) dX10_refusesRun_54 (by decide) ?_
          exact ab_zret dX10_refusesRun_55 rfl rfl (by decide) (Or.inr (Or.inr (Or.inl ⟨g_9, F_10, L_11, c_1, h_4, h_6, c_12, rfl, rfl⟩)))
        · refine ab_iconst (v := 0) dX10_refusesRun_54 (by decide) ?_
          exact ab_zret dX10_refusesRun_55 rfl rfl (by decide) (Or.inr (Or.inr (Or.inr (Or.inl ⟨g_9, c_1, h_4, h_6, c_13, rfl, rfl⟩))))
  · refine ab_iconst (v := 1) dX10_refusesRun_8 (by decide) ?_
    refine ab_callV (As := [.int 0, .int 1]) (rest := []) dX10_refusesRun_9 mv_X10_refused ml_X10_84 ⟨by decide, by decide, rfl, rfl, rfl⟩ (by decide) rfl rfl (Nat.le_of_ble_eq_true rfl) rfl c_X10_refused_0 ?_
    rintro r w' ⟨rfl, rfl⟩
    refine ab_ifne 40 dX10_refusesRun_12 (by decide) (fun h_14 => ?_) (fun h_14 => absurd h_14 (by decide))
    refine ab_iconst (v := 1) dX10_refusesRun_40 (by decide) ?_
    exact ab_zret dX10_refusesRun_41 rfl rfl (by decide) (Or.inr (Or.inr (Or.inr (Or.inr (⟨c_2, rfl, rfl⟩)))))
theorem c_X10_straight {f0_0 f10_0 f10_1 f10_2 f10_3 f12_5 f12_6 f12_7 f12_8 f12_9 a1 a2 a3 a4 : Int32} {x1 x2 x3 x7 x8 x9 x16 x17 x18 x19 x20 x21 x22 x23 x24 x25 x26 x27 x28 x29 x30 x31 x32 : ax_E} {r5 r6 r13 r14 r15 X Y : Nat → Int32} {f11_0 f11_1 f11_2 f11_3 f11_4 f11_5 f11_6 f11_7 f11_8 f11_9 f11_10 f11_11 f11_12 f11_13 f11_14 f11_15 : Int64} {wm : List ax_E} {p : Nat → Bool} (h_c0 : r6 0 ≤ nI 4) (h_c1 : r6 1 ≤ nI 4) (h_p : ∀ k, p k = true ↔ lawP r5 a1 k) (h_X : ∀ k, k < 40 → lawP r5 a1 k → X k = cX r5 a1 (Cm r5 a2) (Cq r5 a2) a3 k) (h_Y : ∀ k, k < 40 → lawP r5 a1 k → Y k = cY r5 a1 (Cm r5 a2) (Cq r5 a2) a3 k) (h_ok : ((0 ≤ a1 ∧ a1 < r6 0) ∧ (0 ≤ a2 ∧ a2 < r6 1) ∧ (0 ≤ a3 ∧ a3 < 2)) → ∀ k, k < 40 → lawP r5 a1 k → okS (cV0 r5 a1 (Cm r5 a2) (Cq r5 a2) a3 k) (pK r5 a1 k) ∧ okS (cV1 r5 a1 (Cm r5 a2) (Cq r5 a2) a3 k) (pK r5 a1 k) ∧ 0 < cW r5 a1 k) : Ct M_X10_straight [.ref 0, .int a1, .int a2, .int a3, .int a4] ([ob 8 [.int f0_0, .ref 1, .ref 4, .ref 7, .ref 10, .ref 11, .ref 12, .ref 18, .ref 25, .ref 29], x1, x2, x3, ob 2 [.ref 5, .ref 6], ia 56 r5, ia 4 r6, x7, x8, x9, ob 3 [.int f10_0, .int f10_1, .int f10_2, .int f10_3], ob 5 [.long f11_0, .long f11_1, .long f11_2, .long f11_3, .long f11_4, .long f11_5, .long f11_6, .long f11_7, .long f11_8, .long f11_9, .long f11_10, .long f11_11, .long f11_12, .long f11_13, .long f11_14, .long f11_15], ob 1 [.ref 13, .ref 14, .ref 15, .ref 16, .ref 17, .int f12_5, .int f12_6, .int f12_7, .int f12_8, .int f12_9], ia 40 r13, ia 40 r14, ia 40 r15, x16, x17, x18, x19, x20, x21, x22, x23, x24, x25, x26, x27, x28, x29, x30, x31, x32], wm) (fun r w' => (((0 ≤ a1 ∧ a1 < r6 0) ∧ (0 ≤ a2 ∧ a2 < r6 1) ∧ (0 ≤ a3 ∧ a3 < 2)) ∧ (a4 < 0) ∧ r = some (.int (-1)) ∧ w' = ([ob 8 [.int 2, .ref 1, .ref 4, .ref 7, .ref 10, .ref 11, .ref 12, .ref 18, .ref 25, .ref 29], x1, x2, x3, ob 2 [.ref 5, .ref 6], ia 56 r5, ia 4 r6, x7, x8, x9, ob 3 [.int f10_0, .int f10_1, .int f10_2, .int f10_3], ob 5 [.long f11_0, .long f11_1, .long f11_2, .long f11_3, .long f11_4, .long f11_5, .long f11_6, .long f11_7, .long f11_8, .long f11_9, .long f11_10, .long f11_11, .long f11_12, .long f11_13, .long f11_14, .long f11_15], ob 1 [.ref 13, .ref 14, .ref 15, .ref 16, .ref 17, .int f12_5, .int f12_6, .int f12_7, .int f12_8, .int f12_9], ia 40 r13, ia 40 r14, ia 40 r15, x16, x17, x18, x19, x20, x21, x22, x23, x24, x25, x26, x27, x28, x29, x30, x31, x32], wm)) ∨ (((0 ≤ a1 ∧ a1 < r6 0) ∧ (0 ≤ a2 ∧ a2 < r6 1) ∧ (0 ≤ a3 ∧ a3 < 2)) ∧ (¬ a4 < 0) ∧ (100 < a4) ∧ r = some (.int (-1)) ∧ w' = ([ob 8 [.int 2, .ref 1, .ref 4, .ref 7, .ref 10, .ref 11, .ref 12, .ref 18, .ref 25, .ref 29], x1, x2, x3, ob 2 [.ref 5, .ref 6], ia 56 r5, ia 4 r6, x7, x8, x9, ob 3 [.int f10_0, .int f10_1, .int f10_2, .int f10_3], ob 5 [.long f11_0, .long f11_1, .long f11_2, .long f11_3, .long f11_4, .long f11_5, .long f11_6, .long f11_7, .long f11_8, .long f11_9, .long f11_10, .long f11_11, .long f11_12, .long f11_13, .long f11_14, .long f11_15], ob 1 [.ref 13, .ref 14, .ref 15, .ref 16, .ref 17, .int f12_5, .int f12_6, .int f12_7, .int f12_8, .int f12_9], ia 40 r13, ia 40 r14, ia 40 r15, x16, x17, x18, x19, x20, x21, x22, x23, x24, x25, x26, x27, x28, x29, x30, x31, x32], wm)) ∨ (∃ g_9_6 : Nat → Int64, ∃ F_10_7 : Nat, ∃ L_11_8 : Nat, ((0 ≤ a1 ∧ a1 < r6 0) ∧ (0 ≤ a2 ∧ a2 < r6 1) ∧ (0 ≤ a3 ∧ a3 < 2)) ∧ (¬ a4 < 0) ∧ (¬ 100 < a4) ∧ (RunOf (fun F_10_7 L_11_8 => isRn (crv p X r13 40) (crv p Y r14 40) a4 F_10_7 (F_10_7 + L_11_8 - 1)) (Cn p 40) F_10_7 L_11_8) ∧ r = some (.int (nI L_11_8)) ∧ w' = ([ob 8 [.int 0, .ref 1, .ref 4, .ref 7, .ref 10, .ref 11, .ref 12, .ref 18, .ref 25, .ref 29], x1, x2, x3, ob 2 [.ref 5, .ref 6], ia 56 r5, ia 4 r6, x7, x8, x9, ob 3 [.int (Bg r5 a1), .int (Ba r5 a1), .int (Bb r5 a1), .int (Bc r5 a1)], ob 5 [.long (g_9_6 0), .long (g_9_6 1), .long (g_9_6 2), .long (g_9_6 3), .long (g_9_6 4), .long (g_9_6 5), .long (g_9_6 6), .long (g_9_6 7), .long (g_9_6 8), .long (g_9_6 9), .long (g_9_6 10), .long (g_9_6 11), .long (g_9_6 12), .long (g_9_6 13), .long (g_9_6 14), .long (g_9_6 15)], ob 1 [.ref 13, .ref 14, .ref 15, .ref 16, .ref 17, .int (nI (Cn p 40)), .int f12_6, .int f12_7, .int (nI F_10_7), .int (nI L_11_8)], ia 40 (crv p X r13 40), ia 40 (crv p Y r14 40), ia 40 (crv p nI r15 40), x16, x17, x18, x19, x20, x21, x22, x23, x24, x25, x26, x27, x28, x29, x30, x31, x32], wm)) ∨ (∃ g_9_13 : Nat → Int64, ((0 ≤ a1 ∧ a1 < r6 0) ∧ (0 ≤ a2 ∧ a2 < r6 1) ∧ (0 ≤ a3 ∧ a3 < 2)) ∧ (¬ a4 < 0) ∧ (¬ 100 < a4) ∧ ((Cn p 40) = 0) ∧ r = some (.int 0) ∧ w' = ([ob 8 [.int 0, .ref 1, .ref 4, .ref 7, .ref 10, .ref 11, .ref 12, .ref 18, .ref 25, .ref 29], x1, x2, x3, ob 2 [.ref 5, .ref 6], ia 56 r5, ia 4 r6, x7, x8, x9, ob 3 [.int (Bg r5 a1), .int (Ba r5 a1), .int (Bb r5 a1), .int (Bc r5 a1)], ob 5 [.long (g_9_13 0), .long (g_9_13 1), .long (g_9_13 2), .long (g_9_13 3), .long (g_9_13 4), .long (g_9_13 5), .long (g_9_13 6), .long (g_9_13 7), .long (g_9_13 8), .long (g_9_13 9), .long (g_9_13 10), .long (g_9_13 11), .long (g_9_13 12), .long (g_9_13 13), .long (g_9_13 14), .long (g_9_13 15)], ob 1 [.ref 13, .ref 14, .ref 15, .ref 16, .ref 17, .int (nI (Cn p 40)), .int f12_6, .int f12_7, .int f12_8, .int 0], ia 40 (crv p X r13 40), ia 40 (crv p Y r14 40), ia 40 (crv p nI r15 40), x16, x17, x18, x19, x20, x21, x22, x23, x24, x25, x26, x27, x28, x29, x30, x31, x32], wm)) ∨ ((¬ ((0 ≤ a1 ∧ a1 < r6 0) ∧ (0 ≤ a2 ∧ a2 < r6 1) ∧ (0 ≤ a3 ∧ a3 < 2))) ∧ r = some (.int (-1)) ∧ w' = ([ob 8 [.int 1, .ref 1, .ref 4, .ref 7, .ref 10, .ref 11, .ref 12, .ref 18, .ref 25, .ref 29], x1, x2, x3, ob 2 [.ref 5, .ref 6], ia 56 r5, ia 4 r6, x7, x8, x9, ob 3 [.int f10_0, .int f10_1, .int f10_2, .int f10_3], ob 5 [.long f11_0, .long f11_1, .long f11_2, .long f11_3, .long f11_4, .long f11_5, .long f11_6, .long f11_7, .long f11_8, .long f11_9, .long f11_10, .long f11_11, .long f11_12, .long f11_13, .long f11_14, .long f11_15], ob 1 [.ref 13, .ref 14, .ref 15, .ref 16, .ref 17, .int f12_5, .int f12_6, .int f12_7, .int f12_8, .int f12_9], ia 40 r13, ia 40 r14, ia 40 r15, x16, x17, x18, x19, x20, x21, x22, x23, x24, x25, x26, x27, x28, x29, x30, x31, x32], wm))) := by
  refine ct_of ⟨by decide, rfl⟩ (Nat.le_of_ble_eq_true rfl) ?_
  refine ab_aload_n dX10_straight_0 rfl ?_
  refine ab_iload_n dX10_straight_1 rfl ?_
  refine ab_iload_n dX10_straight_2 rfl ?_
  refine ab_iload_n dX10_straight_3 rfl ?_
  refine ab_iload dX10_straight_4 rfl ?_
  refine ab_callV (As := [.int a1, .int a2, .int a3, .int a4]) (rest := []) dX10_straight_6 mv_X10_refusesRun ml_X10_294 ⟨by decide, by decide, rfl, rfl, rfl⟩ (by decide) rfl rfl (Nat.le_of_ble_eq_true rfl) rfl (c_X10_refusesRun (p := p) (X := X) (Y := Y) h_c0 h_c1 h_p h_X h_Y h_ok) ?_
  rintro r w' (⟨c_1, c_2, rfl, rfl⟩ | ⟨c_3, c_4, c_5, rfl, rfl⟩ | ⟨g_9_6, F_10_7, L_11_8, c_9, c_10, c_11, c_12, rfl, rfl⟩ | ⟨g_9_13, c_14, c_15, c_16, c_17, rfl, rfl⟩ | ⟨c_18, rfl, rfl⟩)
  · refine ab_ifeq 16 dX10_straight_9 (by decide) (fun h_19 => absurd h_19 (by decide)) (fun h_19 => ?_)
    refine ab_iconst (v := -1) dX10_straight_12 (by decide) ?_
    refine ab_goto 23 dX10_straight_13 (by decide) ?_
    exact ab_iret dX10_straight_23 rfl (by decide) (Or.inl ⟨c_1, c_2, rfl, rfl⟩)
  · refine ab_ifeq 16 dX10_straight_9 (by decide) (fun h_20 => absurd h_20 (by decide)) (fun h_20 => ?_)
    refine ab_iconst (v := -1) dX10_straight_12 (by decide) ?_
    refine ab_goto 23 dX10_straight_13 (by decide) ?_
    exact ab_iret dX10_straight_23 rfl (by decide) (Or.inr (Or.inl ⟨c_3, c_4, c_5, rfl, rfl⟩))
  · refine ab_ifeq 16 dX10_straight_9 (by decide) (fun h_21 => ?_) (fun h_21 => absurd (by decide) h_21)
    refine ab_aload_n dX10_straight_16 rfl ?_
    refine ab_getf dX10_straight_17 fl_X10_47 rfl rfl ?_
    refine ab_callV (As := []) (rest := []) dX10_straight_20 mv_X1_runLength ml_X10_298 ⟨by decide, by decide, rfl, rfl, rfl⟩ (by decide) rfl rfl (Nat.le_of_ble_eq_true rfl) rfl c_X1_runLength ?_
    rintro r w' ⟨rfl, rfl⟩
    exact ab_iret dX10_straight_23 rfl (by decide) (Or.inr (Or.inr (Or.inl ⟨g_9_6, F_10_7, L_11_8, c_9, c_10, c_11, c_12, rfl, rfl⟩)))
  · refine ab_ifeq 16 dX10_straight_9 (by decide) (fun h_22 => ?_) (fun h_22 => absurd (by decide) h_22)
    refine ab_aload_n dX10_straight_16 rfl ?_
    refine ab_getf dX10_straight_17 fl_X10_47 rfl rfl ?_
    refine ab_callV (As := []) (rest := []) dX10_straight_20 mv_X1_runLength ml_X10_298 ⟨by decide, by decide, rfl, rfl, rfl⟩ (by decide) rfl rfl (Nat.le_of_ble_eq_true rfl) rfl c_X1_runLength ?_
    rintro r w' ⟨rfl, rfl⟩
    exact ab_iret dX10_straight_23 rfl (by decide) (Or.inr (Or.inr (Or.inr (Or.inl ⟨g_9_13, c_14, c_15, c_16, c_17, rfl, rfl⟩))))
  · refine ab_ifeq 16 dX10_straight_9 (by decide) (fun h_23 => absurd h_23 (by decide)) (fun h_23 => ?_)
    refine ab_iconst (v := -1) dX10_straight_12 (by decide) ?_
    refine ab_goto 23 dX10_straight_13 (by decide) ?_
    exact ab_iret dX10_straight_23 rfl (by decide) (Or.inr (Or.inr (Or.inr (Or.inr (⟨c_18, rfl, rfl⟩)))))
theorem c_X10_straightFrom {f0_0 f10_0 f10_1 f10_2 f10_3 f12_5 f12_6 f12_7 f12_8 f12_9 a1 a2 a3 a4 : Int32} {x1 x2 x3 x7 x8 x9 x16 x17 x18 x19 x20 x21 x22 x23 x24 x25 x26 x27 x28 x29 x30 x31 x32 : ax_E} {r5 r6 r13 r14 r15 X Y : Nat → Int32} {f11_0 f11_1 f11_2 f11_3 f11_4 f11_5 f11_6 f11_7 f11_8 f11_9 f11_10 f11_11 f11_12 f11_13 f11_14 f11_15 : Int64} {wm : List ax_E} {p : Nat → Bool} (h_c0 : r6 0 ≤ nI 4) (h_c1 : r6 1 ≤ nI 4) (h_p : ∀ k, p k = true ↔ lawP r5 a1 k) (h_X : ∀ k, k < 40 → lawP r5 a1 k → X k = cX r5 a1 (Cm r5 a2) (Cq r5 a2) a3 k) (h_Y : ∀ k, k < 40 → lawP r5 a1 k → Y k = cY r5 a1 (Cm r5 a2) (Cq r5 a2) a3 k) (h_ok : ((0 ≤ a1 ∧ a1 < r6 0) ∧ (0 ≤ a2 ∧ a2 < r6 1) ∧ (0 ≤ a3 ∧ a3 < 2)) → ∀ k, k < 40 → lawP r5 a1 k → okS (cV0 r5 a1 (Cm r5 a2) (Cq r5 a2) a3 k) (pK r5 a1 k) ∧ okS (cV1 r5 a1 (Cm r5 a2) (Cq r5 a2) a3 k) (pK r5 a1 k) ∧ 0 < cW r5 a1 k) : Ct M_X10_straightFrom [.ref 0, .int a1, .int a2, .int a3, .int a4] ([ob 8 [.int f0_0, .ref 1, .ref 4, .ref 7, .ref 10, .ref 11, .ref 12, .ref 18, .ref 25, .ref 29], x1, x2, x3, ob 2 [.ref 5, .ref 6], ia 56 r5, ia 4 r6, x7, x8, x9, ob 3 [.int f10_0, .int f10_1, .int f10_2, .int f10_3], ob 5 [.long f11_0, .long f11_1, .long f11_2, .long f11_3, .long f11_4, .long f11_5, .long f11_6, .long f11_7, .long f11_8, .long f11_9, .long f11_10, .long f11_11, .long f11_12, .long f11_13, .long f11_14, .long f11_15], ob 1 [.ref 13, .ref 14, .ref 15, .ref 16, .ref 17, .int f12_5, .int f12_6, .int f12_7, .int f12_8, .int f12_9], ia 40 r13, ia 40 r14, ia 40 r15, x16, x17, x18, x19, x20, x21, x22, x23, x24, x25, x26, x27, x28, x29, x30, x31, x32], wm) (fun r w' => (((0 ≤ a1 ∧ a1 < r6 0) ∧ (0 ≤ a2 ∧ a2 < r6 1) ∧ (0 ≤ a3 ∧ a3 < 2)) ∧ (a4 < 0) ∧ r = some (.int (-1)) ∧ w' = ([ob 8 [.int 2, .ref 1, .ref 4, .ref 7, .ref 10, .ref 11, .ref 12, .ref 18, .ref 25, .ref 29], x1, x2, x3, ob 2 [.ref 5, .ref 6], ia 56 r5, ia 4 r6, x7, x8, x9, ob 3 [.int f10_0, .int f10_1, .int f10_2, .int f10_3], ob 5 [.long f11_0, .long f11_1, .long f11_2, .long f11_3, .long f11_4, .long f11_5, .long f11_6, .long f11_7, .long f11_8, .long f11_9, .long f11_10, .long f11_11, .long f11_12, .long f11_13, .long f11_14, .long f11_15], ob 1 [.ref 13, .ref 14, .ref 15, .ref 16, .ref 17, .int f12_5, .int f12_6, .int f12_7, .int f12_8, .int f12_9], ia 40 r13, ia 40 r14, ia 40 r15, x16, x17, x18, x19, x20, x21, x22, x23, x24, x25, x26, x27, x28, x29, x30, x31, x32], wm)) ∨ (((0 ≤ a1 ∧ a1 < r6 0) ∧ (0 ≤ a2 ∧ a2 < r6 1) ∧ (0 ≤ a3 ∧ a3 < 2)) ∧ (¬ a4 < 0) ∧ (100 < a4) ∧ r = some (.int (-1)) ∧ w' = ([ob 8 [.int 2, .ref 1, .ref 4, .ref 7, .ref 10, .ref 11, .ref 12, .ref 18, .ref 25, .ref 29], x1, x2, x3, ob 2 [.ref 5, .ref 6], ia 56 r5, ia 4 r6, x7, x8, x9, ob 3 [.int f10_0, .int f10_1, .int f10_2, .int f10_3], ob 5 [.long f11_0, .long f11_1, .long f11_2, .long f11_3, .long f11_4, .long f11_5, .long f11_6, .long f11_7, .long f11_8, .long f11_9, .long f11_10, .long f11_11, .long f11_12, .long f11_13, .long f11_14, .long f11_15], ob 1 [.ref 13, .ref 14, .ref 15, .ref 16, .ref 17, .int f12_5, .int f12_6, .int f12_7, .int f12_8, .int f12_9], ia 40 r13, ia 40 r14, ia 40 r15, x16, x17, x18, x19, x20, x21, x22, x23, x24, x25, x26, x27, x28, x29, x30, x31, x32], wm)) ∨ (∃ g_9_6 : Nat → Int64, ∃ F_10_7 : Nat, ∃ L_11_8 : Nat, ((0 ≤ a1 ∧ a1 < r6 0) ∧ (0 ≤ a2 ∧ a2 < r6 1) ∧ (0 ≤ a3 ∧ a3 < 2)) ∧ (¬ a4 < 0) ∧ (¬ 100 < a4) ∧ (RunOf (fun F_10_7 L_11_8 => isRn (crv p X r13 40) (crv p Y r14 40) a4 F_10_7 (F_10_7 + L_11_8 - 1)) (Cn p 40) F_10_7 L_11_8) ∧ r = some (.int ((crv p nI r15 40) F_10_7)) ∧ w' = ([ob 8 [.int 0, .ref 1, .ref 4, .ref 7, .ref 10, .ref 11, .ref 12, .ref 18, .ref 25, .ref 29], x1, x2, x3, ob 2 [.ref 5, .ref 6], ia 56 r5, ia 4 r6, x7, x8, x9, ob 3 [.int (Bg r5 a1), .int (Ba r5 a1), .int (Bb r5 a1), .int (Bc r5 a1)], ob 5 [.long (g_9_6 0), .long (g_9_6 1), .long (g_9_6 2), .long (g_9_6 3), .long (g_9_6 4), .long (g_9_6 5), .long (g_9_6 6), .long (g_9_6 7), .long (g_9_6 8), .long (g_9_6 9), .long (g_9_6 10), .long (g_9_6 11), .long (g_9_6 12), .long (g_9_6 13), .long (g_9_6 14), .long (g_9_6 15)], ob 1 [.ref 13, .ref 14, .ref 15, .ref 16, .ref 17, .int (nI (Cn p 40)), .int f12_6, .int f12_7, .int (nI F_10_7), .int (nI L_11_8)], ia 40 (crv p X r13 40), ia 40 (crv p Y r14 40), ia 40 (crv p nI r15 40), x16, x17, x18, x19, x20, x21, x22, x23, x24, x25, x26, x27, x28, x29, x30, x31, x32], wm)) ∨ (∃ g_9_13 : Nat → Int64, ((0 ≤ a1 ∧ a1 < r6 0) ∧ (0 ≤ a2 ∧ a2 < r6 1) ∧ (0 ≤ a3 ∧ a3 < 2)) ∧ (¬ a4 < 0) ∧ (¬ 100 < a4) ∧ ((Cn p 40) = 0) ∧ r = some (.int (-2)) ∧ w' = ([ob 8 [.int 0, .ref 1, .ref 4, .ref 7, .ref 10, .ref 11, .ref 12, .ref 18, .ref 25, .ref 29], x1, x2, x3, ob 2 [.ref 5, .ref 6], ia 56 r5, ia 4 r6, x7, x8, x9, ob 3 [.int (Bg r5 a1), .int (Ba r5 a1), .int (Bb r5 a1), .int (Bc r5 a1)], ob 5 [.long (g_9_13 0), .long (g_9_13 1), .long (g_9_13 2), .long (g_9_13 3), .long (g_9_13 4), .long (g_9_13 5), .long (g_9_13 6), .long (g_9_13 7), .long (g_9_13 8), .long (g_9_13 9), .long (g_9_13 10), .long (g_9_13 11), .long (g_9_13 12), .long (g_9_13 13), .long (g_9_13 14), .long (g_9_13 15)], ob 1 [.ref 13, .ref 14, .ref 15, .ref 16, .ref 17, .int (nI (Cn p 40)), .int f12_6, .int f12_7, .int f12_8, .int 0], ia 40 (crv p X r13 40), ia 40 (crv p Y r14 40), ia 40 (crv p nI r15 40), x16, x17, x18, x19, x20, x21, x22, x23, x24, x25, x26, x27, x28, x29, x30, x31, x32], wm)) ∨ ((¬ ((0 ≤ a1 ∧ a1 < r6 0) ∧ (0 ≤ a2 ∧ a2 < r6 1) ∧ (0 ≤ a3 ∧ a3 < 2))) ∧ r = some (.int (-1)) ∧ w' = ([ob 8 [.int 1, .ref 1, .ref 4, .ref 7, .ref 10, .ref 11, .ref 12, .ref 18, .ref 25, .ref 29], x1, x2, x3, ob 2 [.ref 5, .ref 6], ia 56 r5, ia 4 r6, x7, x8, x9, ob 3 [.int f10_0, .int f10_1, .int f10_2, .int f10_3], ob 5 [.long f11_0, .long f11_1, .long f11_2, .long f11_3, .long f11_4, .long f11_5, .long f11_6, .long f11_7, .long f11_8, .long f11_9, .long f11_10, .long f11_11, .long f11_12, .long f11_13, .long f11_14, .long f11_15], ob 1 [.ref 13, .ref 14, .ref 15, .ref 16, .ref 17, .int f12_5, .int f12_6, .int f12_7, .int f12_8, .int f12_9], ia 40 r13, ia 40 r14, ia 40 r15, x16, x17, x18, x19, x20, x21, x22, x23, x24, x25, x26, x27, x28, x29, x30, x31, x32], wm))) := by
  refine ct_of ⟨by decide, rfl⟩ (Nat.le_of_ble_eq_true rfl) ?_
  refine ab_aload_n dX10_straightFrom_0 rfl ?_
  refine ab_iload_n dX10_straightFrom_1 rfl ?_
  refine ab_iload_n dX10_straightFrom_2 rfl ?_
  refine ab_iload_n dX10_straightFrom_3 rfl ?_
  refine ab_iload dX10_straightFrom_4 rfl ?_
  refine ab_callV (As := [.int a1, .int a2, .int a3, .int a4]) (rest := []) dX10_straightFrom_6 mv_X10_refusesRun ml_X10_294 ⟨by decide, by decide, rfl, rfl, rfl⟩ (by decide) rfl rfl (Nat.le_of_ble_eq_true rfl) rfl (c_X10_refusesRun (p := p) (X := X) (Y := Y) h_c0 h_c1 h_p h_X h_Y h_ok) ?_
  rintro r w' (⟨c_1, c_2, rfl, rfl⟩ | ⟨c_3, c_4, c_5, rfl, rfl⟩ | ⟨g_9_6, F_10_7, L_11_8, c_9, c_10, c_11, c_12, rfl, rfl⟩ | ⟨g_9_13, c_14, c_15, c_16, c_17, rfl, rfl⟩ | ⟨c_18, rfl, rfl⟩)
  · refine ab_ifeq 16 dX10_straightFrom_9 (by decide) (fun h_19 => absurd h_19 (by decide)) (fun h_19 => ?_)
    refine ab_iconst (v := -1) dX10_straightFrom_12 (by decide) ?_
    refine ab_goto 23 dX10_straightFrom_13 (by decide) ?_
    exact ab_iret dX10_straightFrom_23 rfl (by decide) (Or.inl ⟨c_1, c_2, rfl, rfl⟩)
  · refine ab_ifeq 16 dX10_straightFrom_9 (by decide) (fun h_20 => absurd h_20 (by decide)) (fun h_20 => ?_)
    refine ab_iconst (v := -1) dX10_straightFrom_12 (by decide) ?_
    refine ab_goto 23 dX10_straightFrom_13 (by decide) ?_
    exact ab_iret dX10_straightFrom_23 rfl (by decide) (Or.inr (Or.inl ⟨c_3, c_4, c_5, rfl, rfl⟩))
  · refine ab_ifeq 16 dX10_straightFrom_9 (by decide) (fun h_21 => ?_) (fun h_21 => absurd (by decide) h_21)
    refine ab_aload_n dX10_straightFrom_16 rfl ?_
    refine ab_getf dX10_straightFrom_17 fl_X10_47 rfl rfl ?_
    refine ab_callV (As := []) (rest := []) dX10_straightFrom_20 mv_X1_runAngle ml_X10_301 ⟨by decide, by decide, rfl, rfl, rfl⟩ (by decide) rfl rfl (Nat.le_of_ble_eq_true rfl) rfl (c_X1_runAngle_p (F := F_10_7) (L := L_11_8) (by have := c_12.1; have := c_12.2.1; have := cn_le p 40; omega) c_12.1 (by have := c_12.1; have := c_12.2.1; have := cn_le p 40; omega)) ?_
    rintro r w' ⟨rfl, rfl⟩
    exact ab_iret dX10_straightFrom_23 rfl (by decide) (Or.inr (Or.inr (Or.inl ⟨g_9_6, F_10_7, L_11_8, c_9, c_10, c_11, c_12, rfl, rfl⟩)))
  · refine ab_ifeq 16 dX10_straightFrom_9 (by decide) (fun h_22 => ?_) (fun h_22 => absurd (by decide) h_22)
    refine ab_aload_n dX10_straightFrom_16 rfl ?_
    refine ab_getf dX10_straightFrom_17 fl_X10_47 rfl rfl ?_
    refine ab_callV (As := []) (rest := []) dX10_straightFrom_20 mv_X1_runAngle ml_X10_301 ⟨by decide, by decide, rfl, rfl, rfl⟩ (by decide) rfl rfl (Nat.le_of_ble_eq_true rfl) rfl c_X1_runAngle_z ?_
    rintro r w' ⟨rfl, rfl⟩
    exact ab_iret dX10_straightFrom_23 rfl (by decide) (Or.inr (Or.inr (Or.inr (Or.inl ⟨g_9_13, c_14, c_15, c_16, c_17, rfl, rfl⟩))))
  · refine ab_ifeq 16 dX10_straightFrom_9 (by decide) (fun h_23 => absurd h_23 (by decide)) (fun h_23 => ?_)
    refine ab_iconst (v := -1) dX10_straightFrom_12 (by decide) ?_
    refine ab_goto 23 dX10_straightFrom_13 (by decide) ?_
    exact ab_iret dX10_straightFrom_23 rfl (by decide) (Or.inr (Or.inr (Or.inr (Or.inr (⟨c_18, rfl, rfl⟩)))))
theorem c_X10_near {f0_0 f10_0 f10_1 f10_2 f10_3 f12_5 f12_6 f12_7 f12_8 f12_9 a1 a2 a3 a4 a5 : Int32} {x1 x2 x3 x7 x8 x9 x16 x17 x18 x19 x20 x21 x22 x23 x24 x25 x26 x27 x28 x29 x30 x31 x32 : ax_E} {r5 r6 r13 r14 r15 X Y : Nat → Int32} {f11_0 f11_1 f11_2 f11_3 f11_4 f11_5 f11_6 f11_7 f11_8 f11_9 f11_10 f11_11 f11_12 f11_13 f11_14 f11_15 : Int64} {wm : List ax_E} {p : Nat → Bool} (h_c0 : r6 0 ≤ nI 4) (h_c1 : r6 1 ≤ nI 4) (h_p : ∀ k, p k = true ↔ lawP r5 a1 k) (h_X : ∀ k, k < 40 → lawP r5 a1 k → X k = cX r5 a1 (Cm r5 a2) (Cq r5 a2) a3 k) (h_Y : ∀ k, k < 40 → lawP r5 a1 k → Y k = cY r5 a1 (Cm r5 a2) (Cq r5 a2) a3 k) (h_ok : ((0 ≤ a1 ∧ a1 < r6 0) ∧ (0 ≤ a2 ∧ a2 < r6 1) ∧ (0 ≤ a3 ∧ a3 < 2)) → ∀ k, k < 40 → lawP r5 a1 k → okS (cV0 r5 a1 (Cm r5 a2) (Cq r5 a2) a3 k) (pK r5 a1 k) ∧ okS (cV1 r5 a1 (Cm r5 a2) (Cq r5 a2) a3 k) (pK r5 a1 k) ∧ 0 < cW r5 a1 k) (h_c2 : r6 2 ≤ nI 8) : Ct M_X10_near [.ref 0, .int a1, .int a2, .int a3, .int a4, .int a5] ([ob 8 [.int f0_0, .ref 1, .ref 4, .ref 7, .ref 10, .ref 11, .ref 12, .ref 18, .ref 25, .ref 29], x1, x2, x3, ob 2 [.ref 5, .ref 6], ia 56 r5, ia 4 r6, x7, x8, x9, ob 3 [.int f10_0, .int f10_1, .int f10_2, .int f10_3], ob 5 [.long f11_0, .long f11_1, .long f11_2, .long f11_3, .long f11_4, .long f11_5, .long f11_6, .long f11_7, .long f11_8, .long f11_9, .long f11_10, .long f11_11, .long f11_12, .long f11_13, .long f11_14, .long f11_15], ob 1 [.ref 13, .ref 14, .ref 15, .ref 16, .ref 17, .int f12_5, .int f12_6, .int f12_7, .int f12_8, .int f12_9], ia 40 r13, ia 40 r14, ia 40 r15, x16, x17, x18, x19, x20, x21, x22, x23, x24, x25, x26, x27, x28, x29, x30, x31, x32], wm) (fun r w' => (∃ g_8 : Nat → Int64, ((0 ≤ a1 ∧ a1 < r6 0) ∧ (0 ≤ a2 ∧ a2 < r6 1) ∧ (0 ≤ a3 ∧ a3 < 2)) ∧ (0 ≤ a4 ∧ a4 < r6 2) ∧ (0 ≤ a5 ∧ a5 < (nI (Cn p 40))) ∧ ((itx (lp_am_st (crv p X r13 40) (crv p Y r14 40) (crv p nI r15 40) a5 (Py r5 a4) (Px r5 a4) (Cn p 40)) (Cn p 40) 0 ()) = .inl ()) ∧ r = some (.int (-1)) ∧ w' = ([ob 8 [.int 0, .ref 1, .ref 4, .ref 7, .ref 10, .ref 11, .ref 12, .ref 18, .ref 25, .ref 29], x1, x2, x3, ob 2 [.ref 5, .ref 6], ia 56 r5, ia 4 r6, x7, x8, x9, ob 3 [.int (Bg r5 a1), .int (Ba r5 a1), .int (Bb r5 a1), .int (Bc r5 a1)], ob 5 [.long (g_8 0), .long (g_8 1), .long (g_8 2), .long (g_8 3), .long (g_8 4), .long (g_8 5), .long (g_8 6), .long (g_8 7), .long (g_8 8), .long (g_8 9), .long (g_8 10), .long (g_8 11), .long (g_8 12), .long (g_8 13), .long (g_8 14), .long (g_8 15)], ob 1 [.ref 13, .ref 14, .ref 15, .ref 16, .ref 17, .int (nI (Cn p 40)), .int f12_6, .int f12_7, .int f12_8, .int f12_9], ia 40 (crv p X r13 40), ia 40 (crv p Y r14 40), ia 40 (crv p nI r15 40), x16, x17, x18, x19, x20, x21, x22, x23, x24, x25, x26, x27, x28, x29, x30, x31, x32], wm)) ∨ (∃ g_8 : Nat → Int64, ∃ r_2_13 : Int32, ((0 ≤ a1 ∧ a1 < r6 0) ∧ (0 ≤ a2 ∧ a2 < r6 1) ∧ (0 ≤ a3 ∧ a3 < 2)) ∧ (0 ≤ a4 ∧ a4 < r6 2) ∧ (0 ≤ a5 ∧ a5 < (nI (Cn p 40))) ∧ ((itx (lp_am_st (crv p X r13 40) (crv p Y r14 40) (crv p nI r15 40) a5 (Py r5 a4) (Px r5 a4) (Cn p 40)) (Cn p 40) 0 ()) = .inr r_2_13) ∧ r = some (.int r_2_13) ∧ w' = ([ob 8 [.int 0, .ref 1, .ref 4, .ref 7, .ref 10, .ref 11, .ref 12, .ref 18, .ref 25, .ref 29], x1, x2, x3, ob 2 [.ref 5, .ref 6], ia 56 r5, ia 4 r6, x7, x8, x9, ob 3 [.int (Bg r5 a1), .int (Ba r5 a1), .int (Bb r5 a1), .int (Bc r5 a1)], ob 5 [.long (g_8 0), .long (g_8 1), .long (g_8 2), .long (g_8 3), .long (g_8 4), .long (g_8 5), .long (g_8 6), .long (g_8 7), .long (g_8 8), .long (g_8 9), .long (g_8 10), .long (g_8 11), .long (g_8 12), .long (g_8 13), .long (g_8 14), .long (g_8 15)], ob 1 [.ref 13, .ref 14, .ref 15, .ref 16, .ref 17, .int (nI (Cn p 40)), .int f12_6, .int f12_7, .int f12_8, .int f12_9], ia 40 (crv p X r13 40), ia 40 (crv p Y r14 40), ia 40 (crv p nI r15 40), x16, x17, x18, x19, x20, x21, x22, x23, x24, x25, x26, x27, x28, x29, x30, x31, x32], wm)) ∨ (∃ g_8 : Nat → Int64, ((0 ≤ a1 ∧ a1 < r6 0) ∧ (0 ≤ a2 ∧ a2 < r6 1) ∧ (0 ≤ a3 ∧ a3 < 2)) ∧ (0 ≤ a4 ∧ a4 < r6 2) ∧ (¬ (0 ≤ a5 ∧ a5 < (nI (Cn p 40)))) ∧ r = some (.int (-1)) ∧ w' = ([ob 8 [.int 1, .ref 1, .ref 4, .ref 7, .ref 10, .ref 11, .ref 12, .ref 18, .ref 25, .ref 29], x1, x2, x3, ob 2 [.ref 5, .ref 6], ia 56 r5, ia 4 r6, x7, x8, x9, ob 3 [.int (Bg r5 a1), .int (Ba r5 a1), .int (Bb r5 a1), .int (Bc r5 a1)], ob 5 [.long (g_8 0), .long (g_8 1), .long (g_8 2), .long (g_8 3), .long (g_8 4), .long (g_8 5), .long (g_8 6), .long (g_8 7), .long (g_8 8), .long (g_8 9), .long (g_8 10), .long (g_8 11), .long (g_8 12), .long (g_8 13), .long (g_8 14), .long (g_8 15)], ob 1 [.ref 13, .ref 14, .ref 15, .ref 16, .ref 17, .int (nI (Cn p 40)), .int f12_6, .int f12_7, .int f12_8, .int f12_9], ia 40 (crv p X r13 40), ia 40 (crv p Y r14 40), ia 40 (crv p nI r15 40), x16, x17, x18, x19, x20, x21, x22, x23, x24, x25, x26, x27, x28, x29, x30, x31, x32], wm)) ∨ (((0 ≤ a1 ∧ a1 < r6 0) ∧ (0 ≤ a2 ∧ a2 < r6 1) ∧ (0 ≤ a3 ∧ a3 < 2)) ∧ (¬ (0 ≤ a4 ∧ a4 < r6 2)) ∧ r = some (.int (-1)) ∧ w' = ([ob 8 [.int 1, .ref 1, .ref 4, .ref 7, .ref 10, .ref 11, .ref 12, .ref 18, .ref 25, .ref 29], x1, x2, x3, ob 2 [.ref 5, .ref 6], ia 56 r5, ia 4 r6, x7, x8, x9, ob 3 [.int f10_0, .int f10_1, .int f10_2, .int f10_3], ob 5 [.long f11_0, .long f11_1, .long f11_2, .long f11_3, .long f11_4, .long f11_5, .long f11_6, .long f11_7, .long f11_8, .long f11_9, .long f11_10, .long f11_11, .long f11_12, .long f11_13, .long f11_14, .long f11_15], ob 1 [.ref 13, .ref 14, .ref 15, .ref 16, .ref 17, .int f12_5, .int f12_6, .int f12_7, .int f12_8, .int f12_9], ia 40 r13, ia 40 r14, ia 40 r15, x16, x17, x18, x19, x20, x21, x22, x23, x24, x25, x26, x27, x28, x29, x30, x31, x32], wm)) ∨ ((¬ ((0 ≤ a1 ∧ a1 < r6 0) ∧ (0 ≤ a2 ∧ a2 < r6 1) ∧ (0 ≤ a3 ∧ a3 < 2))) ∧ r = some (.int (-1)) ∧ w' = ([ob 8 [.int 1, .ref 1, .ref 4, .ref 7, .ref 10, .ref 11, .ref 12, .ref 18, .ref 25, .ref 29], x1, x2, x3, ob 2 [.ref 5, .ref 6], ia 56 r5, ia 4 r6, x7, x8, x9, ob 3 [.int f10_0, .int f10_1, .int f10_2, .int f10_3], ob 5 [.long f11_0, .long f11_1, .long f11_2, .long f11_3, .long f11_4, .long f11_5, .long f11_6, .long f11_7, .long f11_8, .long f11_9, .long f11_10, .long f11_11, .long f11_12, .long f11_13, .long f11_14, .long f11_15], ob 1 [.ref 13, .ref 14, .ref 15, .ref 16, .ref 17, .int f12_5, .int f12_6, .int f12_7, .int f12_8, .int f12_9], ia 40 r13, ia 40 r14, ia 40 r15, x16, x17, x18, x19, x20, x21, x22, x23, x24, x25, x26, x27, x28, x29, x30, x31, x32], wm))) := by
  refine ct_of ⟨by decide, rfl⟩ (Nat.le_of_ble_eq_true rfl) ?_
  refine ab_aload_n dX10_near_0 rfl ?_
  refine ab_aload_n dX10_near_1 rfl ?_
  refine ab_iload_n dX10_near_2 rfl ?_
  refine ab_iload_n dX10_near_3 rfl ?_
  refine ab_iload_n dX10_near_4 rfl ?_
  refine ab_callV (As := [.int a1, .int a2, .int a3]) (rest := [.ref 0]) dX10_near_5 mv_X10_hasCurve ml_X10_266 ⟨by decide, by decide, rfl, rfl, rfl⟩ (by decide) rfl rfl (Nat.le_of_ble_eq_true rfl) rfl c_X10_hasCurve ?_
  rintro r w' (⟨c_1, rfl, rfl⟩ | ⟨c_2, rfl, rfl⟩)
  · refine ab_ifeq 28 dX10_near_8 (by decide) (fun h_3 => absurd h_3 (by decide)) (fun h_3 => ?_)
    refine ab_aload_n dX10_near_11 rfl ?_
    refine ab_getf dX10_near_12 fl_X10_23 rfl rfl ?_
    refine ab_iconst (v := 2) dX10_near_15 (by decide) ?_
    refine ab_iload dX10_near_16 rfl ?_
    refine ab_callV (As := [.int 2, .int a4]) (rest := [.ref 0]) dX10_near_18 mv_X2_has ml_X10_264 ⟨by decide, by decide, rfl, rfl, rfl⟩ (by decide) rfl rfl (Nat.le_of_ble_eq_true rfl) rfl c_X2_has_2 ?_
    rintro r w' (⟨c_4, rfl, rfl⟩ | ⟨c_5, rfl, rfl⟩)
    · refine ab_ifeq 28 dX10_near_21 (by decide) (fun h_6 => absurd h_6 (by decide)) (fun h_6 => ?_)
      refine ab_iconst (v := 1) dX10_near_24 (by decide) ?_
      refine ab_goto 29 dX10_near_25 (by decide) ?_
      refine ab_iconst (v := 1) dX10_near_29 (by decide) ?_
      refine ab_callV (As := [.int 1, .int 1]) (rest := []) dX10_near_30 mv_X10_refused ml_X10_84 ⟨by decide, by decide, rfl, rfl, rfl⟩ (by decide) rfl rfl (Nat.le_of_ble_eq_true rfl) rfl c_X10_refused_1 ?_
      rintro r w' ⟨rfl, rfl⟩
      refine ab_ifeq 38 dX10_near_33 (by decide) (fun h_7 => ?_) (fun h_7 => absurd (by decide) h_7)
      refine ab_aload_n dX10_near_38 rfl ?_
      refine ab_iload dX10_near_39 rfl ?_
      refine ab_aload_n dX10_near_41 rfl ?_
      refine ab_iload_n dX10_near_42 rfl ?_
      refine ab_iload_n dX10_near_43 rfl ?_
      refine ab_iload_n dX10_near_44 rfl ?_
      refine ab_callV (As := [.int a1, .int a2, .int a3]) (rest := [.int a5, .ref 0]) dX10_near_45 mv_X10_curveAt ml_X10_269 ⟨by decide, by decide, rfl, rfl, rfl⟩ (by decide) rfl rfl (Nat.le_of_ble_eq_true rfl) rfl (c_X10_curveAt (p := p) (X := X) (Y := Y) c_1.1 h_c0 c_1.2.1 h_c1 h_p h_X h_Y (h_ok c_1)) ?_
      rintro r w' ⟨g_8, rfl, rfl⟩
      refine ab_callV (As := []) (rest := [.int a5, .ref 0]) dX10_near_48 mv_X1_length ml_X10_304 ⟨by decide, by decide, rfl, rfl, rfl⟩ (by decide) rfl rfl (Nat.le_of_ble_eq_true rfl) rfl c_X1_length ?_
      rintro r w' ⟨rfl, rfl⟩
      refine ab_callS (As := [.int a5, .int (nI (Cn p 40))]) (rest := [.ref 0]) dX10_near_51 ms_X10_isOf ml_X10_118 ⟨by decide, by decide, rfl, rfl, rfl⟩ (by decide) rfl rfl (Nat.le_of_ble_eq_true rfl) c_X10_isOf ?_
      rintro r w' (⟨c_9, rfl, rfl⟩ | ⟨c_10, rfl, rfl⟩)
      · refine ab_iconst (v := 1) dX10_near_54 (by decide) ?_
        refine ab_callV (As := [.int 1, .int 1]) (rest := []) dX10_near_55 mv_X10_refused ml_X10_84 ⟨by decide, by decide, rfl, rfl, rfl⟩ (by decide) rfl rfl (Nat.le_of_ble_eq_true rfl) rfl c_X10_refused_1 ?_
        rintro r w' ⟨rfl, rfl⟩
        refine ab_ifeq 63 dX10_near_58 (by decide) (fun h_11 => ?_) (fun h_11 => absurd (by decide) h_11)
        refine ab_aload_n dX10_near_63 rfl ?_
        refine ab_getf dX10_near_64 fl_X10_47 rfl rfl ?_
        refine ab_aload_n dX10_near_67 rfl ?_
        refine ab_getf dX10_near_68 fl_X10_23 rfl rfl ?_
        refine ab_iconst (v := 2) dX10_near_71 (by decide) ?_
        refine ab_iload dX10_near_72 rfl ?_
        refine ab_iconst (v := 0) dX10_near_74 (by decide) ?_
        refine ab_callV (As := [.int 2, .int a4, .int 0]) (rest := [.ref 12]) dX10_near_75 mv_X2_told ml_X10_136 ⟨by decide, by decide, rfl, rfl, rfl⟩ (by decide) rfl rfl (Nat.le_of_ble_eq_true rfl) rfl (c_X2_told_2 c_4 h_c2 (by decide)) ?_
        rintro r w' ⟨rfl, rfl⟩
        refine ab_aload_n dX10_near_78 rfl ?_
        refine ab_getf dX10_near_79 fl_X10_23 rfl rfl ?_
        refine ab_iconst (v := 2) dX10_near_82 (by decide) ?_
        refine ab_iload dX10_near_83 rfl ?_
        refine ab_iconst (v := 1) dX10_near_85 (by decide) ?_
        refine ab_callV (As := [.int 2, .int a4, .int 1]) (rest := [.int (Px r5 a4), .ref 12]) dX10_near_86 mv_X2_told ml_X10_136 ⟨by decide, by decide, rfl, rfl, rfl⟩ (by decide) rfl rfl (Nat.le_of_ble_eq_true rfl) rfl (c_X2_told_2 c_4 h_c2 (by decide)) ?_
        rintro r w' ⟨rfl, rfl⟩
        refine ab_iload dX10_near_89 rfl ?_
        refine ab_callV (As := [.int (Px r5 a4), .int (Py r5 a4), .int a5]) (rest := []) dX10_near_91 mv_X1_angleByMiss ml_X10_305 ⟨by decide, by decide, rfl, rfl, rfl⟩ (by decide) rfl rfl (Nat.le_of_ble_eq_true rfl) rfl (c_X1_angleByMiss (c := (Cn p 40)) (cn_le p 40)) ?_
        rintro r w' (⟨c_12, rfl, rfl⟩ | ⟨r_2_13, c_14, rfl, rfl⟩)
        · exact ab_iret dX10_near_94 rfl (by decide) (Or.inl ⟨g_8, c_1, c_4, c_9, c_12, rfl, rfl⟩)
        · exact ab_iret dX10_near_94 rfl (by decide) (Or.inr (Or.inl ⟨g_8, r_2_13, c_1, c_4, c_9, c_14, rfl, rfl⟩))
      · refine ab_iconst (v := 1) dX10_near_54 (by decide) ?_
        refine ab_callV (As := [.int 0, .int 1]) (rest := []) dX10_near_55 mv_X10_refused ml_X10_84 ⟨by decide, by decide, rfl, rfl, rfl⟩ (by decide) rfl rfl (Nat.le_of_ble_eq_true rfl) rfl c_X10_refused_0 ?_
        rintro r w' ⟨rfl, rfl⟩
        refine ab_ifeq 63 dX10_near_58 (by decide) (fun h_15 => absurd h_15 (by decide)) (fun h_15 => ?_)
        refine ab_iconst (v := -1) dX10_near_61 (by decide) ?_
        exact ab_iret dX10_near_62 rfl (by decide) (Or.inr (Or.inr (Or.inl ⟨g_8, c_1, c_4, c_10, rfl, rfl⟩)))
    · refine ab_ifeq 28 dX10_near_21 (by decide) (fun h_16 => ?_) (fun h_16 => absurd (by decide) h_16)
      refine ab_iconst (v := 0) dX10_near_28 (by decide) ?_
      refine ab_iconst (v := 1) dX10_near_29 (by decide) ?_
      refine ab_callV (As := [.int 0, .int 1]) (rest := []) dX10_near_30 mv_X10_refused ml_X10_84 ⟨by decide, by decide, rfl, rfl, rfl⟩ (by decide) rfl rfl (Nat.le_of_ble_eq_true rfl) rfl c_X10_refused_0 ?_
      rintro r w' ⟨rfl, rfl⟩
      refine ab_ifeq 38 dX10_near_33 (by decide) (fun h_17 => absurd h_17 (by decide)) (fun h_17 => ?_)
      refine ab_iconst (v := -1) dX10_near_36 (by decide) ?_
      exact ab_iret dX10_near_37 rfl (by decide) (Or.inr (Or.inr (Or.inr (Or.inl ⟨c_1, c_5, rfl, rfl⟩))))
  · refine ab_ifeq 28 dX10_near_8 (by decide) (fun h_18 => ?_) (fun h_18 => absurd (by decide) h_18)
    refine ab_iconst (v := 0) dX10_near_28 (by decide) ?_
    refine ab_iconst (v := 1) dX10_near_29 (by decide) ?_
    refine ab_callV (As := [.int 0, .int 1]) (rest := []) dX10_near_30 mv_X10_refused ml_X10_84 ⟨by decide, by decide, rfl, rfl, rfl⟩ (by decide) rfl rfl (Nat.le_of_ble_eq_true rfl) rfl c_X10_refused_0 ?_
    rintro r w' ⟨rfl, rfl⟩
    refine ab_ifeq 38 dX10_near_33 (by decide) (fun h_19 => absurd h_19 (by decide)) (fun h_19 => ?_)
    refine ab_iconst (v := -1) dX10_near_36 (by decide) ?_
    exact ab_iret dX10_near_37 rfl (by decide) (Or.inr (Or.inr (Or.inr (Or.inr (⟨c_2, rfl, rfl⟩)))))
theorem c_X10_miss {f0_0 f10_0 f10_1 f10_2 f10_3 f12_5 f12_6 f12_7 f12_8 f12_9 a1 a2 a3 a4 : Int32} {x1 x2 x3 x7 x8 x9 x16 x17 x18 x19 x20 x21 x22 x23 x24 x25 x26 x27 x28 x29 x30 x31 x32 : ax_E} {r5 r6 r13 r14 r15 X Y : Nat → Int32} {f11_0 f11_1 f11_2 f11_3 f11_4 f11_5 f11_6 f11_7 f11_8 f11_9 f11_10 f11_11 f11_12 f11_13 f11_14 f11_15 : Int64} {wm : List ax_E} {p : Nat → Bool} (h_c0 : r6 0 ≤ nI 4) (h_c1 : r6 1 ≤ nI 4) (h_p : ∀ k, p k = true ↔ lawP r5 a1 k) (h_X : ∀ k, k < 40 → lawP r5 a1 k → X k = cX r5 a1 (Cm r5 a2) (Cq r5 a2) a3 k) (h_Y : ∀ k, k < 40 → lawP r5 a1 k → Y k = cY r5 a1 (Cm r5 a2) (Cq r5 a2) a3 k) (h_ok : ((0 ≤ a1 ∧ a1 < r6 0) ∧ (0 ≤ a2 ∧ a2 < r6 1) ∧ (0 ≤ a3 ∧ a3 < 2)) → ∀ k, k < 40 → lawP r5 a1 k → okS (cV0 r5 a1 (Cm r5 a2) (Cq r5 a2) a3 k) (pK r5 a1 k) ∧ okS (cV1 r5 a1 (Cm r5 a2) (Cq r5 a2) a3 k) (pK r5 a1 k) ∧ 0 < cW r5 a1 k) (h_c2 : r6 2 ≤ nI 8) : Ct M_X10_miss [.ref 0, .int a1, .int a2, .int a3, .int a4] ([ob 8 [.int f0_0, .ref 1, .ref 4, .ref 7, .ref 10, .ref 11, .ref 12, .ref 18, .ref 25, .ref 29], x1, x2, x3, ob 2 [.ref 5, .ref 6], ia 56 r5, ia 4 r6, x7, x8, x9, ob 3 [.int f10_0, .int f10_1, .int f10_2, .int f10_3], ob 5 [.long f11_0, .long f11_1, .long f11_2, .long f11_3, .long f11_4, .long f11_5, .long f11_6, .long f11_7, .long f11_8, .long f11_9, .long f11_10, .long f11_11, .long f11_12, .long f11_13, .long f11_14, .long f11_15], ob 1 [.ref 13, .ref 14, .ref 15, .ref 16, .ref 17, .int f12_5, .int f12_6, .int f12_7, .int f12_8, .int f12_9], ia 40 r13, ia 40 r14, ia 40 r15, x16, x17, x18, x19, x20, x21, x22, x23, x24, x25, x26, x27, x28, x29, x30, x31, x32], wm) (fun r w' => (∃ g_8 : Nat → Int64, ((0 ≤ a1 ∧ a1 < r6 0) ∧ (0 ≤ a2 ∧ a2 < r6 1) ∧ (0 ≤ a3 ∧ a3 < 2)) ∧ (0 ≤ a4 ∧ a4 < r6 2) ∧ ((nI (Cn p 40)) = 0) ∧ r = some (.int (-1)) ∧ w' = ([ob 8 [.int 5, .ref 1, .ref 4, .ref 7, .ref 10, .ref 11, .ref 12, .ref 18, .ref 25, .ref 29], x1, x2, x3, ob 2 [.ref 5, .ref 6], ia 56 r5, ia 4 r6, x7, x8, x9, ob 3 [.int (Bg r5 a1), .int (Ba r5 a1), .int (Bb r5 a1), .int (Bc r5 a1)], ob 5 [.long (g_8 0), .long (g_8 1), .long (g_8 2), .long (g_8 3), .long (g_8 4), .long (g_8 5), .long (g_8 6), .long (g_8 7), .long (g_8 8), .long (g_8 9), .long (g_8 10), .long (g_8 11), .long (g_8 12), .long (g_8 13), .long (g_8 14), .long (g_8 15)], ob 1 [.ref 13, .ref 14, .ref 15, .ref 16, .ref 17, .int (nI (Cn p 40)), .int f12_6, .int f12_7, .int f12_8, .int f12_9], ia 40 (crv p X r13 40), ia 40 (crv p Y r14 40), ia 40 (crv p nI r15 40), x16, x17, x18, x19, x20, x21, x22, x23, x24, x25, x26, x27, x28, x29, x30, x31, x32], wm)) ∨ (∃ g_8 : Nat → Int64, ((0 ≤ a1 ∧ a1 < r6 0) ∧ (0 ≤ a2 ∧ a2 < r6 1) ∧ (0 ≤ a3 ∧ a3 < 2)) ∧ (0 ≤ a4 ∧ a4 < r6 2) ∧ (¬ ((nI (Cn p 40)) = 0)) ∧ r = some (.int (itr (lp_lm_st (crv p X r13 40) (crv p Y r14 40) (Py r5 a4) (Px r5 a4)) ((Cn p 40) - 1) 1 (Cv_sq (crv p X r13 40) (crv p Y r14 40) (Px r5 a4) (Py r5 a4) 0))) ∧ w' = ([ob 8 [.int 0, .ref 1, .ref 4, .ref 7, .ref 10, .ref 11, .ref 12, .ref 18, .ref 25, .ref 29], x1, x2, x3, ob 2 [.ref 5, .ref 6], ia 56 r5, ia 4 r6, x7, x8, x9, ob 3 [.int (Bg r5 a1), .int (Ba r5 a1), .int (Bb r5 a1), .int (Bc r5 a1)], ob 5 [.long (g_8 0), .long (g_8 1), .long (g_8 2), .long (g_8 3), .long (g_8 4), .long (g_8 5), .long (g_8 6), .long (g_8 7), .long (g_8 8), .long (g_8 9), .long (g_8 10), .long (g_8 11), .long (g_8 12), .long (g_8 13), .long (g_8 14), .long (g_8 15)], ob 1 [.ref 13, .ref 14, .ref 15, .ref 16, .ref 17, .int (nI (Cn p 40)), .int f12_6, .int f12_7, .int f12_8, .int f12_9], ia 40 (crv p X r13 40), ia 40 (crv p Y r14 40), ia 40 (crv p nI r15 40), x16, x17, x18, x19, x20, x21, x22, x23, x24, x25, x26, x27, x28, x29, x30, x31, x32], wm)) ∨ (((0 ≤ a1 ∧ a1 < r6 0) ∧ (0 ≤ a2 ∧ a2 < r6 1) ∧ (0 ≤ a3 ∧ a3 < 2)) ∧ (¬ (0 ≤ a4 ∧ a4 < r6 2)) ∧ r = some (.int (-1)) ∧ w' = ([ob 8 [.int 1, .ref 1, .ref 4, .ref 7, .ref 10, .ref 11, .ref 12, .ref 18, .ref 25, .ref 29], x1, x2, x3, ob 2 [.ref 5, .ref 6], ia 56 r5, ia 4 r6, x7, x8, x9, ob 3 [.int f10_0, .int f10_1, .int f10_2, .int f10_3], ob 5 [.long f11_0, .long f11_1, .long f11_2, .long f11_3, .long f11_4, .long f11_5, .long f11_6, .long f11_7, .long f11_8, .long f11_9, .long f11_10, .long f11_11, .long f11_12, .long f11_13, .long f11_14, .long f11_15], ob 1 [.ref 13, .ref 14, .ref 15, .ref 16, .ref 17, .int f12_5, .int f12_6, .int f12_7, .int f12_8, .int f12_9], ia 40 r13, ia 40 r14, ia 40 r15, x16, x17, x18, x19, x20, x21, x22, x23, x24, x25, x26, x27, x28, x29, x30, x31, x32], wm)) ∨ ((¬ ((0 ≤ a1 ∧ a1 < r6 0) ∧ (0 ≤ a2 ∧ a2 < r6 1) ∧ (0 ≤ a3 ∧ a3 < 2))) ∧ r = some (.int (-1)) ∧ w' = ([ob 8 [.int 1, .ref 1, .ref 4, .ref 7, .ref 10, .ref 11, .ref 12, .ref 18, .ref 25, .ref 29], x1, x2, x3, ob 2 [.ref 5, .ref 6], ia 56 r5, ia 4 r6, x7, x8, x9, ob 3 [.int f10_0, .int f10_1, .int f10_2, .int f10_3], ob 5 [.long f11_0, .long f11_1, .long f11_2, .long f11_3, .long f11_4, .long f11_5, .long f11_6, .long f11_7, .long f11_8, .long f11_9, .long f11_10, .long f11_11, .long f11_12, .long f11_13, .long f11_14, .long f11_15], ob 1 [.ref 13, .ref 14, .ref 15, .ref 16, .ref 17, .int f12_5, .int f12_6, .int f12_7, .int f12_8, .int f12_9], ia 40 r13, ia 40 r14, ia 40 r15, x16, x17, x18, x19, x20, x21, x22, x23, x24, x25, x26, x27, x28, x29, x30, x31, x32], wm))) := by
  refine ct_of ⟨by decide, rfl⟩ (Nat.le_of_ble_eq_true rfl) ?_
  refine ab_aload_n dX10_miss_0 rfl ?_
  refine ab_aload_n dX10_miss_1 rfl ?_
  refine ab_iload_n dX10_miss_2 rfl ?_
  refine ab_iload_n dX10_miss_3 rfl ?_
  refine ab_iload_n dX10_miss_4 rfl ?_
  refine ab_callV (As := [.int a1, .int a2, .int a3]) (rest := [.ref 0]) dX10_miss_5 mv_X10_hasCurve ml_X10_266 ⟨by decide, by decide, rfl, rfl, rfl⟩ (by decide) rfl rfl (Nat.le_of_ble_eq_true rfl) rfl c_X10_hasCurve ?_
  rintro r w' (⟨c_1, rfl, rfl⟩ | ⟨c_2, rfl, rfl⟩)
  · refine ab_ifeq 28 dX10_miss_8 (by decide) (fun h_3 => absurd h_3 (by decide)) (fun h_3 => ?_)
    refine ab_aload_n dX10_miss_11 rfl ?_
    refine ab_getf dX10_miss_12 fl_X10_23 rfl rfl ?_
    refine ab_iconst (v := 2) dX10_miss_15 (by decide) ?_
    refine ab_iload dX10_miss_16 rfl ?_
    refine ab_callV (As := [.int 2, .int a4]) (rest := [.ref 0]) dX10_miss_18 mv_X2_has ml_X10_264 ⟨by decide, by decide, rfl, rfl, rfl⟩ (by decide) rfl rfl (Nat.le_of_ble_eq_true rfl) rfl c_X2_has_2 ?_
    rintro r w' (⟨c_4, rfl, rfl⟩ | ⟨c_5, rfl, rfl⟩)
    · refine ab_ifeq 28 dX10_miss_21 (by decide) (fun h_6 => absurd h_6 (by decide)) (fun h_6 => ?_)
      refine ab_iconst (v := 1) dX10_miss_24 (by decide) ?_
      refine ab_goto 29 dX10_miss_25 (by decide) ?_
      refine ab_iconst (v := 1) dX10_miss_29 (by decide) ?_
      refine ab_callV (As := [.int 1, .int 1]) (rest := []) dX10_miss_30 mv_X10_refused ml_X10_84 ⟨by decide, by decide, rfl, rfl, rfl⟩ (by decide) rfl rfl (Nat.le_of_ble_eq_true rfl) rfl c_X10_refused_1 ?_
      rintro r w' ⟨rfl, rfl⟩
      refine ab_ifeq 38 dX10_miss_33 (by decide) (fun h_7 => ?_) (fun h_7 => absurd (by decide) h_7)
      refine ab_aload_n dX10_miss_38 rfl ?_
      refine ab_aload_n dX10_miss_39 rfl ?_
      refine ab_iload_n dX10_miss_40 rfl ?_
      refine ab_iload_n dX10_miss_41 rfl ?_
      refine ab_iload_n dX10_miss_42 rfl ?_
      refine ab_callV (As := [.int a1, .int a2, .int a3]) (rest := [.ref 0]) dX10_miss_43 mv_X10_curveAt ml_X10_269 ⟨by decide, by decide, rfl, rfl, rfl⟩ (by decide) rfl rfl (Nat.le_of_ble_eq_true rfl) rfl (c_X10_curveAt (p := p) (X := X) (Y := Y) c_1.1 h_c0 c_1.2.1 h_c1 h_p h_X h_Y (h_ok c_1)) ?_
      rintro r w' ⟨g_8, rfl, rfl⟩
      refine ab_callV (As := []) (rest := [.ref 0]) dX10_miss_46 mv_X1_isEmpty ml_X10_273 ⟨by decide, by decide, rfl, rfl, rfl⟩ (by decide) rfl rfl (Nat.le_of_ble_eq_true rfl) rfl c_X1_isEmpty ?_
      rintro r w' (⟨c_9, rfl, rfl⟩ | ⟨c_10, rfl, rfl⟩)
      · refine ab_ifne 56 dX10_miss_49 (by decide) (fun h_11 => ?_) (fun h_11 => absurd h_11 (by decide))
        refine ab_iconst (v := 0) dX10_miss_56 (by decide) ?_
        refine ab_iconst (v := 5) dX10_miss_57 (by decide) ?_
        refine ab_callV (As := [.int 0, .int 5]) (rest := []) dX10_miss_58 mv_X10_refused ml_X10_84 ⟨by decide, by decide, rfl, rfl, rfl⟩ (by decide) rfl rfl (Nat.le_of_ble_eq_true rfl) rfl c_X10_refused_0 ?_
        rintro r w' ⟨rfl, rfl⟩
        refine ab_ifeq 66 dX10_miss_61 (by decide) (fun h_12 => absurd h_12 (by decide)) (fun h_12 => ?_)
        refine ab_iconst (v := -1) dX10_miss_64 (by decide) ?_
        exact ab_iret dX10_miss_65 rfl (by decide) (Or.inl ⟨g_8, c_1, c_4, c_9, rfl, rfl⟩)
      · refine ab_ifne 56 dX10_miss_49 (by decide) (fun h_13 => absurd (by decide) h_13) (fun h_13 => ?_)
        refine ab_iconst (v := 1) dX10_miss_52 (by decide) ?_
        refine ab_goto 57 dX10_miss_53 (by decide) ?_
        refine ab_iconst (v := 5) dX10_miss_57 (by decide) ?_
        refine ab_callV (As := [.int 1, .int 5]) (rest := []) dX10_miss_58 mv_X10_refused ml_X10_84 ⟨by decide, by decide, rfl, rfl, rfl⟩ (by decide) rfl rfl (Nat.le_of_ble_eq_true rfl) rfl c_X10_refused_1 ?_
        rintro r w' ⟨rfl, rfl⟩
        refine ab_ifeq 66 dX10_miss_61 (by decide) (fun h_14 => ?_) (fun h_14 => absurd (by decide) h_14)
        refine ab_aload_n dX10_miss_66 rfl ?_
        refine ab_getf dX10_miss_67 fl_X10_47 rfl rfl ?_
        refine ab_aload_n dX10_miss_70 rfl ?_
        refine ab_getf dX10_miss_71 fl_X10_23 rfl rfl ?_
        refine ab_iconst (v := 2) dX10_miss_74 (by decide) ?_
        refine ab_iload dX10_miss_75 rfl ?_
        refine ab_iconst (v := 0) dX10_miss_77 (by decide) ?_
        refine ab_callV (As := [.int 2, .int a4, .int 0]) (rest := [.ref 12]) dX10_miss_78 mv_X2_told ml_X10_136 ⟨by decide, by decide, rfl, rfl, rfl⟩ (by decide) rfl rfl (Nat.le_of_ble_eq_true rfl) rfl (c_X2_told_2 c_4 h_c2 (by decide)) ?_
        rintro r w' ⟨rfl, rfl⟩
        refine ab_aload_n dX10_miss_81 rfl ?_
        refine ab_getf dX10_miss_82 fl_X10_23 rfl rfl ?_
        refine ab_iconst (v := 2) dX10_miss_85 (by decide) ?_
        refine ab_iload dX10_miss_86 rfl ?_
        refine ab_iconst (v := 1) dX10_miss_88 (by decide) ?_
        refine ab_callV (As := [.int 2, .int a4, .int 1]) (rest := [.int (Px r5 a4), .ref 12]) dX10_miss_89 mv_X2_told ml_X10_136 ⟨by decide, by decide, rfl, rfl, rfl⟩ (by decide) rfl rfl (Nat.le_of_ble_eq_true rfl) rfl (c_X2_told_2 c_4 h_c2 (by decide)) ?_
        rintro r w' ⟨rfl, rfl⟩
        refine ab_callV (As := [.int (Px r5 a4), .int (Py r5 a4)]) (rest := []) dX10_miss_92 mv_X1_leastMiss ml_X10_308 ⟨by decide, by decide, rfl, rfl, rfl⟩ (by decide) rfl rfl (Nat.le_of_ble_eq_true rfl) rfl (c_X1_leastMiss (c := (Cn p 40)) (cn_le p 40) (Nat.pos_of_ne_zero (fun z => c_10 (by rw [z]; rfl)))) ?_
        rintro r w' ⟨rfl, rfl⟩
        exact ab_iret dX10_miss_95 rfl (by decide) (Or.inr (Or.inl ⟨g_8, c_1, c_4, c_10, rfl, rfl⟩))
    · refine ab_ifeq 28 dX10_miss_21 (by decide) (fun h_15 => ?_) (fun h_15 => absurd (by decide) h_15)
      refine ab_iconst (v := 0) dX10_miss_28 (by decide) ?_
      refine ab_iconst (v := 1) dX10_miss_29 (by decide) ?_
      refine ab_callV (As := [.int 0, .int 1]) (rest := []) dX10_miss_30 mv_X10_refused ml_X10_84 ⟨by decide, by decide, rfl, rfl, rfl⟩ (by decide) rfl rfl (Nat.le_of_ble_eq_true rfl) rfl c_X10_refused_0 ?_
      rintro r w' ⟨rfl, rfl⟩
      refine ab_ifeq 38 dX10_miss_33 (by decide) (fun h_16 => absurd h_16 (by decide)) (fun h_16 => ?_)
      refine ab_iconst (v := -1) dX10_miss_36 (by decide) ?_
      exact ab_iret dX10_miss_37 rfl (by decide) (Or.inr (Or.inr (Or.inl ⟨c_1, c_5, rfl, rfl⟩)))
  · refine ab_ifeq 28 dX10_miss_8 (by decide) (fun h_17 => ?_) (fun h_17 => absurd (by decide) h_17)
    refine ab_iconst (v := 0) dX10_miss_28 (by decide) ?_
    refine ab_iconst (v := 1) dX10_miss_29 (by decide) ?_
    refine ab_callV (As := [.int 0, .int 1]) (rest := []) dX10_miss_30 mv_X10_refused ml_X10_84 ⟨by decide, by decide, rfl, rfl, rfl⟩ (by decide) rfl rfl (Nat.le_of_ble_eq_true rfl) rfl c_X10_refused_0 ?_
    rintro r w' ⟨rfl, rfl⟩
    refine ab_ifeq 38 dX10_miss_33 (by decide) (fun h_18 => absurd h_18 (by decide)) (fun h_18 => ?_)
    refine ab_iconst (v := -1) dX10_miss_36 (by decide) ?_
    exact ab_iret dX10_miss_37 rfl (by decide) (Or.inr (Or.inr (Or.inr (⟨c_2, rfl, rfl⟩))))
theorem hl_inv {x y : Nat → Int32} {c : Nat} (so ch : Nat → Nat) (hc : c ≤ 40) : hlN x y c so ch ≤ 80 ∧ ∀ j, j < hlN x y c so ch → (hlS x y c so ch).2 j < 40 := by
  obtain ⟨a1, a2, a3⟩ := srtS_inv x y c so
  obtain ⟨b1, b2, b3⟩ := w1S_inv (x := x) (y := y) (so := (srtS x y c so).1) (P := (srtS x y c so).2) ch (fun j hj => by have := a2 j hj; omega)
  obtain ⟨d1, d2⟩ := w2S_inv (x := x) (y := y) (so := (srtS x y c so).1) (q := (w1S x y (srtS x y c so).1 (srtS x y c so).2 ch).1 - 1) ((srtS x y c so).2 - 1) (srtS x y c so).2 (w1S x y (srtS x y c so).1 (srtS x y c so).2 ch) (fun j hj => by have := a2 j (by omega); omega) ⟨b1, b2⟩
  unfold hlN
  have e : hlS x y c so ch = w2S x y (srtS x y c so).1 ((w1S x y (srtS x y c so).1 (srtS x y c so).2 ch).1 - 1) ((srtS x y c so).2 - 1) (w1S x y (srtS x y c so).1 (srtS x y c so).2 ch) := rfl
  rw [← e] at d1 d2
  split
  · exact ⟨by omega, fun j hj => d2 j (by omega)⟩
  · exact ⟨by omega, fun j hj => d2 j (by omega)⟩
theorem ix_k {x : Int32} {K n : Nat} (h : 0 ≤ x ∧ x < nI K) (hK : K ≤ n) (hn : n < 2 ^ 31) : ax_ix x n x.toNatClampNeg ∧ x.toNatClampNeg < K := by
  obtain ⟨j, hj, rfl⟩ := nI_in2 (c := K) (by omega) h.1 h.2
  rw [nI_clamp (by omega)]
  exact ⟨ix_nI (by omega) hn, hj⟩
theorem c_X1_cornerAngle_i {x0 x1 x2 x3 x4 x5 x6 x7 x8 x9 x10 x11 x13 x14 x16 x18 x19 x20 x21 x22 x23 x24 x25 x26 x27 x28 x29 x30 x31 x32 : ax_E} {f12_6 f12_8 f12_9 a1 : Int32} {r15 : Nat → Int32} {wm : List ax_E} {K c : Nat} {ch : Nat → Nat} (hj : 0 ≤ a1 ∧ a1 < (nI K)) (hK : K ≤ 80) (hch : ∀ j, j < K → ch j < 40) : Ct M_X1_cornerAngle [.ref 12, .int a1] ([x0, x1, x2, x3, x4, x5, x6, x7, x8, x9, x10, x11, ob 1 [.ref 13, .ref 14, .ref 15, .ref 16, .ref 17, .int (nI c), .int f12_6, .int (nI K), .int f12_8, .int f12_9], x13, x14, ia 40 r15, x16, ia 81 (nIf ch), x18, x19, x20, x21, x22, x23, x24, x25, x26, x27, x28, x29, x30, x31, x32], wm) (fun r w' => r = some (.int (r15 (ch (Int32.toNatClampNeg a1)))) ∧ w' = ([x0, x1, x2, x3, x4, x5, x6, x7, x8, x9, x10, x11, ob 1 [.ref 13, .ref 14, .ref 15, .ref 16, .ref 17, .int (nI c), .int f12_6, .int (nI K), .int f12_8, .int f12_9], x13, x14, ia 40 r15, x16, ia 81 (nIf ch), x18, x19, x20, x21, x22, x23, x24, x25, x26, x27, x28, x29, x30, x31, x32], wm)) := by
  refine ct_of ⟨by decide, rfl⟩ (Nat.le_of_ble_eq_true rfl) ?_
  refine ab_iload_n dX1_cornerAngle_0 rfl ?_
  refine ab_iflt 26 dX1_cornerAngle_1 (by decide) (fun h_1 => absurd hj.1 (Int32.not_le.mpr h_1)) (fun h_1 => ?_)
  refine ab_iload_n dX1_cornerAngle_4 rfl ?_
  refine ab_aload_n dX1_cornerAngle_5 rfl ?_
  refine ab_getf dX1_cornerAngle_6 fl_X1_36 rfl rfl ?_
  refine ab_icmpge 26 dX1_cornerAngle_9 (by decide) (fun h_2 => absurd hj.2 (Int32.not_lt.mpr h_2)) (fun h_2 => ?_)
  refine ab_aload_n dX1_cornerAngle_12 rfl ?_
  refine ab_getf dX1_cornerAngle_13 fl_X1_20 rfl rfl ?_
  refine ab_aload_n dX1_cornerAngle_16 rfl ?_
  refine ab_getf dX1_cornerAngle_17 fl_X1_26 rfl rfl ?_
  refine ab_iload_n dX1_cornerAngle_20 rfl ?_
  refine ab_iald (j := (Int32.toNatClampNeg a1)) dX1_cornerAngle_21 rfl (ix_k hj (show K ≤ 81 by omega) (by decide)).1 ?_
  refine ab_topi (v := (nI (ch (Int32.toNatClampNeg a1)))) rfl ?_
  refine ab_iald (j := (ch (Int32.toNatClampNeg a1))) dX1_cornerAngle_22 rfl (ix_nI (hch (Int32.toNatClampNeg a1) (ix_k hj (show K ≤ 81 by omega) (by decide)).2) (by decide)) ?_
  refine ab_goto 27 dX1_cornerAngle_23 (by decide) ?_
  exact ab_iret dX1_cornerAngle_27 rfl (by decide) (⟨rfl, rfl⟩)
theorem c_X10_curveAt_v {f0_0 f10_0 f10_1 f10_2 f10_3 f12_5 f12_6 f12_7 f12_8 f12_9 a1 a2 a3 : Int32} {x1 x2 x3 x7 x8 x9 x16 x17 x18 x19 x20 x21 x22 x23 x24 x25 x26 x27 x28 x29 x30 x31 x32 : ax_E} {r5 r6 r13 r14 r15 X Y : Nat → Int32} {f11_0 f11_1 f11_2 f11_3 f11_4 f11_5 f11_6 f11_7 f11_8 f11_9 f11_10 f11_11 f11_12 f11_13 f11_14 f11_15 : Int64} {wm : List ax_E} {p : Nat → Bool} {z : Nat} (h_z : Cn p 40 = z) (h_i : 0 ≤ a1 ∧ a1 < r6 0) (h_c : r6 0 ≤ nI 4) (h_i2 : 0 ≤ a2 ∧ a2 < r6 1) (h_c1 : r6 1 ≤ nI 4) (h_p : ∀ k, p k = true ↔ lawP r5 a1 k) (h_X : ∀ k, k < 40 → lawP r5 a1 k → X k = cX r5 a1 (Cm r5 a2) (Cq r5 a2) a3 k) (h_Y : ∀ k, k < 40 → lawP r5 a1 k → Y k = cY r5 a1 (Cm r5 a2) (Cq r5 a2) a3 k) (h_ok : ∀ k, k < 40 → lawP r5 a1 k → okS (cV0 r5 a1 (Cm r5 a2) (Cq r5 a2) a3 k) (pK r5 a1 k) ∧ okS (cV1 r5 a1 (Cm r5 a2) (Cq r5 a2) a3 k) (pK r5 a1 k) ∧ 0 < cW r5 a1 k) : Ct M_X10_curveAt [.ref 0, .int a1, .int a2, .int a3] ([ob 8 [.int f0_0, .ref 1, .ref 4, .ref 7, .ref 10, .ref 11, .ref 12, .ref 18, .ref 25, .ref 29], x1, x2, x3, ob 2 [.ref 5, .ref 6], ia 56 r5, ia 4 r6, x7, x8, x9, ob 3 [.int f10_0, .int f10_1, .int f10_2, .int f10_3], ob 5 [.long f11_0, .long f11_1, .long f11_2, .long f11_3, .long f11_4, .long f11_5, .long f11_6, .long f11_7, .long f11_8, .long f11_9, .long f11_10, .long f11_11, .long f11_12, .long f11_13, .long f11_14, .long f11_15], ob 1 [.ref 13, .ref 14, .ref 15, .ref 16, .ref 17, .int f12_5, .int f12_6, .int f12_7, .int f12_8, .int f12_9], ia 40 r13, ia 40 r14, ia 40 r15, x16, x17, x18, x19, x20, x21, x22, x23, x24, x25, x26, x27, x28, x29, x30, x31, x32], wm) (fun r w' => ∃ g : Nat → Int64, r = some (.ref 12) ∧ w' = ([ob 8 [.int f0_0, .ref 1, .ref 4, .ref 7, .ref 10, .ref 11, .ref 12, .ref 18, .ref 25, .ref 29], x1, x2, x3, ob 2 [.ref 5, .ref 6], ia 56 r5, ia 4 r6, x7, x8, x9, ob 3 [.int (Bg r5 a1), .int (Ba r5 a1), .int (Bb r5 a1), .int (Bc r5 a1)], ob 5 [.long (g 0), .long (g 1), .long (g 2), .long (g 3), .long (g 4), .long (g 5), .long (g 6), .long (g 7), .long (g 8), .long (g 9), .long (g 10), .long (g 11), .long (g 12), .long (g 13), .long (g 14), .long (g 15)], ob 1 [.ref 13, .ref 14, .ref 15, .ref 16, .ref 17, .int (nI z), .int f12_6, .int f12_7, .int f12_8, .int f12_9], ia 40 (crv p X r13 40), ia 40 (crv p Y r14 40), ia 40 (crv p nI r15 40), x16, x17, x18, x19, x20, x21, x22, x23, x24, x25, x26, x27, x28, x29, x30, x31, x32], wm)) := by
  subst h_z
  exact c_X10_curveAt (p := p) (X := X) (Y := Y) h_i h_c h_i2 h_c1 h_p h_X h_Y h_ok
theorem c_X10_curveAt_z {f0_0 f10_0 f10_1 f10_2 f10_3 f12_5 f12_6 f12_7 f12_8 f12_9 a1 a2 a3 : Int32} {x1 x2 x3 x7 x8 x9 x16 x17 x18 x19 x20 x21 x22 x23 x24 x25 x26 x27 x28 x29 x30 x31 x32 : ax_E} {r5 r6 r13 r14 r15 X Y : Nat → Int32} {f11_0 f11_1 f11_2 f11_3 f11_4 f11_5 f11_6 f11_7 f11_8 f11_9 f11_10 f11_11 f11_12 f11_13 f11_14 f11_15 : Int64} {wm : List ax_E} {p : Nat → Bool} (h_z : Cn p 40 = 0) (h_i : 0 ≤ a1 ∧ a1 < r6 0) (h_c : r6 0 ≤ nI 4) (h_i2 : 0 ≤ a2 ∧ a2 < r6 1) (h_c1 : r6 1 ≤ nI 4) (h_p : ∀ k, p k = true ↔ lawP r5 a1 k) (h_X : ∀ k, k < 40 → lawP r5 a1 k → X k = cX r5 a1 (Cm r5 a2) (Cq r5 a2) a3 k) (h_Y : ∀ k, k < 40 → lawP r5 a1 k → Y k = cY r5 a1 (Cm r5 a2) (Cq r5 a2) a3 k) (h_ok : ∀ k, k < 40 → lawP r5 a1 k → okS (cV0 r5 a1 (Cm r5 a2) (Cq r5 a2) a3 k) (pK r5 a1 k) ∧ okS (cV1 r5 a1 (Cm r5 a2) (Cq r5 a2) a3 k) (pK r5 a1 k) ∧ 0 < cW r5 a1 k) : Ct M_X10_curveAt [.ref 0, .int a1, .int a2, .int a3] ([ob 8 [.int f0_0, .ref 1, .ref 4, .ref 7, .ref 10, .ref 11, .ref 12, .ref 18, .ref 25, .ref 29], x1, x2, x3, ob 2 [.ref 5, .ref 6], ia 56 r5, ia 4 r6, x7, x8, x9, ob 3 [.int f10_0, .int f10_1, .int f10_2, .int f10_3], ob 5 [.long f11_0, .long f11_1, .long f11_2, .long f11_3, .long f11_4, .long f11_5, .long f11_6, .long f11_7, .long f11_8, .long f11_9, .long f11_10, .long f11_11, .long f11_12, .long f11_13, .long f11_14, .long f11_15], ob 1 [.ref 13, .ref 14, .ref 15, .ref 16, .ref 17, .int f12_5, .int f12_6, .int f12_7, .int f12_8, .int f12_9], ia 40 r13, ia 40 r14, ia 40 r15, x16, x17, x18, x19, x20, x21, x22, x23, x24, x25, x26, x27, x28, x29, x30, x31, x32], wm) (fun r w' => ∃ g : Nat → Int64, r = some (.ref 12) ∧ w' = ([ob 8 [.int f0_0, .ref 1, .ref 4, .ref 7, .ref 10, .ref 11, .ref 12, .ref 18, .ref 25, .ref 29], x1, x2, x3, ob 2 [.ref 5, .ref 6], ia 56 r5, ia 4 r6, x7, x8, x9, ob 3 [.int (Bg r5 a1), .int (Ba r5 a1), .int (Bb r5 a1), .int (Bc r5 a1)], ob 5 [.long (g 0), .long (g 1), .long (g 2), .long (g 3), .long (g 4), .long (g 5), .long (g 6), .long (g 7), .long (g 8), .long (g 9), .long (g 10), .long (g 11), .long (g 12), .long (g 13), .long (g 14), .long (g 15)], ob 1 [.ref 13, .ref 14, .ref 15, .ref 16, .ref 17, .int 0, .int f12_6, .int f12_7, .int f12_8, .int f12_9], ia 40 (crv p X r13 40), ia 40 (crv p Y r14 40), ia 40 (crv p nI r15 40), x16, x17, x18, x19, x20, x21, x22, x23, x24, x25, x26, x27, x28, x29, x30, x31, x32], wm)) := by
  exact c_X10_curveAt_v (p := p) (X := X) (Y := Y) (z := 0) h_z h_i h_c h_i2 h_c1 h_p h_X h_Y h_ok
theorem c_X10_hull_p {f0_0 f10_0 f10_1 f10_2 f10_3 f12_5 f12_6 f12_7 f12_8 f12_9 a1 a2 a3 : Int32} {x1 x2 x3 x7 x8 x9 x18 x19 x20 x21 x22 x23 x24 x25 x26 x27 x28 x29 x30 x31 x32 : ax_E} {r5 r6 r13 r14 r15 X Y : Nat → Int32} {f11_0 f11_1 f11_2 f11_3 f11_4 f11_5 f11_6 f11_7 f11_8 f11_9 f11_10 f11_11 f11_12 f11_13 f11_14 f11_15 : Int64} {wm : List ax_E} {p : Nat → Bool} {so ch : Nat → Nat} (h_c0 : r6 0 ≤ nI 4) (h_c1 : r6 1 ≤ nI 4) (h_p : ∀ k, p k = true ↔ lawP r5 a1 k) (h_X : ∀ k, k < 40 → lawP r5 a1 k → X k = cX r5 a1 (Cm r5 a2) (Cq r5 a2) a3 k) (h_Y : ∀ k, k < 40 → lawP r5 a1 k → Y k = cY r5 a1 (Cm r5 a2) (Cq r5 a2) a3 k) (h_ok : ((0 ≤ a1 ∧ a1 < r6 0) ∧ (0 ≤ a2 ∧ a2 < r6 1) ∧ (0 ≤ a3 ∧ a3 < 2)) → ∀ k, k < 40 → lawP r5 a1 k → okS (cV0 r5 a1 (Cm r5 a2) (Cq r5 a2) a3 k) (pK r5 a1 k) ∧ okS (cV1 r5 a1 (Cm r5 a2) (Cq r5 a2) a3 k) (pK r5 a1 k) ∧ 0 < cW r5 a1 k) (h_1 : 0 < Cn p 40) : Ct M_X10_hull [.ref 0, .int a1, .int a2, .int a3] ([ob 8 [.int f0_0, .ref 1, .ref 4, .ref 7, .ref 10, .ref 11, .ref 12, .ref 18, .ref 25, .ref 29], x1, x2, x3, ob 2 [.ref 5, .ref 6], ia 56 r5, ia 4 r6, x7, x8, x9, ob 3 [.int f10_0, .int f10_1, .int f10_2, .int f10_3], ob 5 [.long f11_0, .long f11_1, .long f11_2, .long f11_3, .long f11_4, .long f11_5, .long f11_6, .long f11_7, .long f11_8, .long f11_9, .long f11_10, .long f11_11, .long f11_12, .long f11_13, .long f11_14, .long f11_15], ob 1 [.ref 13, .ref 14, .ref 15, .ref 16, .ref 17, .int f12_5, .int f12_6, .int f12_7, .int f12_8, .int f12_9], ia 40 r13, ia 40 r14, ia 40 r15, ia 40 (nIf so), ia 81 (nIf ch), x18, x19, x20, x21, x22, x23, x24, x25, x26, x27, x28, x29, x30, x31, x32], wm) (fun r w' => (∃ g_4 : Nat → Int64, ((0 ≤ a1 ∧ a1 < r6 0) ∧ (0 ≤ a2 ∧ a2 < r6 1) ∧ (0 ≤ a3 ∧ a3 < 2)) ∧ r = some (.int (nI (hlN (crv p X r13 40) (crv p Y r14 40) (Cn p 40) so ch))) ∧ w' = ([ob 8 [.int 0, .ref 1, .ref 4, .ref 7, .ref 10, .ref 11, .ref 12, .ref 18, .ref 25, .ref 29], x1, x2, x3, ob 2 [.ref 5, .ref 6], ia 56 r5, ia 4 r6, x7, x8, x9, ob 3 [.int (Bg r5 a1), .int (Ba r5 a1), .int (Bb r5 a1), .int (Bc r5 a1)], ob 5 [.long (g_4 0), .long (g_4 1), .long (g_4 2), .long (g_4 3), .long (g_4 4), .long (g_4 5), .long (g_4 6), .long (g_4 7), .long (g_4 8), .long (g_4 9), .long (g_4 10), .long (g_4 11), .long (g_4 12), .long (g_4 13), .long (g_4 14), .long (g_4 15)], ob 1 [.ref 13, .ref 14, .ref 15, .ref 16, .ref 17, .int (nI (Cn p 40)), .int (nI (srtS (crv p X r13 40) (crv p Y r14 40) (Cn p 40) so).2), .int (nI (hlN (crv p X r13 40) (crv p Y r14 40) (Cn p 40) so ch)), .int f12_8, .int f12_9], ia 40 (crv p X r13 40), ia 40 (crv p Y r14 40), ia 40 (crv p nI r15 40), ia 40 (nIf (srtS (crv p X r13 40) (crv p Y r14 40) (Cn p 40) so).1), ia 81 (nIf (hlS (crv p X r13 40) (crv p Y r14 40) (Cn p 40) so ch).2), x18, x19, x20, x21, x22, x23, x24, x25, x26, x27, x28, x29, x30, x31, x32], wm)) ∨ ((¬ ((0 ≤ a1 ∧ a1 < r6 0) ∧ (0 ≤ a2 ∧ a2 < r6 1) ∧ (0 ≤ a3 ∧ a3 < 2))) ∧ r = some (.int (-1)) ∧ w' = ([ob 8 [.int 1, .ref 1, .ref 4, .ref 7, .ref 10, .ref 11, .ref 12, .ref 18, .ref 25, .ref 29], x1, x2, x3, ob 2 [.ref 5, .ref 6], ia 56 r5, ia 4 r6, x7, x8, x9, ob 3 [.int f10_0, .int f10_1, .int f10_2, .int f10_3], ob 5 [.long f11_0, .long f11_1, .long f11_2, .long f11_3, .long f11_4, .long f11_5, .long f11_6, .long f11_7, .long f11_8, .long f11_9, .long f11_10, .long f11_11, .long f11_12, .long f11_13, .long f11_14, .long f11_15], ob 1 [.ref 13, .ref 14, .ref 15, .ref 16, .ref 17, .int f12_5, .int f12_6, .int f12_7, .int f12_8, .int f12_9], ia 40 r13, ia 40 r14, ia 40 r15, ia 40 (nIf so), ia 81 (nIf ch), x18, x19, x20, x21, x22, x23, x24, x25, x26, x27, x28, x29, x30, x31, x32], wm))) := by
  refine ct_of ⟨by decide, rfl⟩ (Nat.le_of_ble_eq_true rfl) ?_
  refine ab_aload_n dX10_hull_0 rfl ?_
  refine ab_aload_n dX10_hull_1 rfl ?_
  refine ab_iload_n dX10_hull_2 rfl ?_
  refine ab_iload_n dX10_hull_3 rfl ?_
  refine ab_iload_n dX10_hull_4 rfl ?_
  refine ab_callV (As := [.int a1, .int a2, .int a3]) (rest := [.ref 0]) dX10_hull_5 mv_X10_hasCurve ml_X10_266 ⟨by decide, by decide, rfl, rfl, rfl⟩ (by decide) rfl rfl (Nat.le_of_ble_eq_true rfl) rfl c_X10_hasCurve ?_
  rintro r w' (⟨c_1, rfl, rfl⟩ | ⟨c_2, rfl, rfl⟩)
  · refine ab_iconst (v := 1) dX10_hull_8 (by decide) ?_
    refine ab_callV (As := [.int 1, .int 1]) (rest := []) dX10_hull_9 mv_X10_refused ml_X10_84 ⟨by decide, by decide, rfl, rfl, rfl⟩ (by decide) rfl rfl (Nat.le_of_ble_eq_true rfl) rfl c_X10_refused_1 ?_
    rintro r w' ⟨rfl, rfl⟩
    refine ab_ifeq 17 dX10_hull_12 (by decide) (fun h_3 => ?_) (fun h_3 => absurd (by decide) h_3)
    refine ab_aload_n dX10_hull_17 rfl ?_
    refine ab_iload_n dX10_hull_18 rfl ?_
    refine ab_iload_n dX10_hull_19 rfl ?_
    refine ab_iload_n dX10_hull_20 rfl ?_
    refine ab_callV (As := [.int a1, .int a2, .int a3]) (rest := []) dX10_hull_21 mv_X10_curveAt ml_X10_269 ⟨by decide, by decide, rfl, rfl, rfl⟩ (by decide) rfl rfl (Nat.le_of_ble_eq_true rfl) rfl (c_X10_curveAt (p := p) (X := X) (Y := Y) c_1.1 h_c0 c_1.2.1 h_c1 h_p h_X h_Y (h_ok c_1)) ?_
    rintro r w' ⟨g_4, rfl, rfl⟩
    refine ab_callV (As := []) (rest := []) dX10_hull_24 mv_X1_wrap ml_X10_285 ⟨by decide, by decide, rfl, rfl, rfl⟩ (by decide) rfl rfl (Nat.le_of_ble_eq_true rfl) rfl (c_X1_wrap (c := (Cn p 40)) (so := so) (ch := ch) (cn_le p 40) h_1) ?_
    rintro r w' ⟨rfl, rfl⟩
    exact ab_iret dX10_hull_27 rfl (by decide) (Or.inl ⟨g_4, c_1, rfl, rfl⟩)
  · refine ab_iconst (v := 1) dX10_hull_8 (by decide) ?_
    refine ab_callV (As := [.int 0, .int 1]) (rest := []) dX10_hull_9 mv_X10_refused ml_X10_84 ⟨by decide, by decide, rfl, rfl, rfl⟩ (by decide) rfl rfl (Nat.le_of_ble_eq_true rfl) rfl c_X10_refused_0 ?_
    rintro r w' ⟨rfl, rfl⟩
    refine ab_ifeq 17 dX10_hull_12 (by decide) (fun h_5 => absurd h_5 (by decide)) (fun h_5 => ?_)
    refine ab_iconst (v := -1) dX10_hull_15 (by decide) ?_
    exact ab_iret dX10_hull_16 rfl (by decide) (Or.inr (⟨c_2, rfl, rfl⟩))
theorem c_X10_hull_z {f0_0 f10_0 f10_1 f10_2 f10_3 f12_5 f12_6 f12_7 f12_8 f12_9 a1 a2 a3 : Int32} {x1 x2 x3 x7 x8 x9 x18 x19 x20 x21 x22 x23 x24 x25 x26 x27 x28 x29 x30 x31 x32 : ax_E} {r5 r6 r13 r14 r15 X Y : Nat → Int32} {f11_0 f11_1 f11_2 f11_3 f11_4 f11_5 f11_6 f11_7 f11_8 f11_9 f11_10 f11_11 f11_12 f11_13 f11_14 f11_15 : Int64} {wm : List ax_E} {p : Nat → Bool} {so ch : Nat → Nat} (h_c0 : r6 0 ≤ nI 4) (h_c1 : r6 1 ≤ nI 4) (h_p : ∀ k, p k = true ↔ lawP r5 a1 k) (h_X : ∀ k, k < 40 → lawP r5 a1 k → X k = cX r5 a1 (Cm r5 a2) (Cq r5 a2) a3 k) (h_Y : ∀ k, k < 40 → lawP r5 a1 k → Y k = cY r5 a1 (Cm r5 a2) (Cq r5 a2) a3 k) (h_ok : ((0 ≤ a1 ∧ a1 < r6 0) ∧ (0 ≤ a2 ∧ a2 < r6 1) ∧ (0 ≤ a3 ∧ a3 < 2)) → ∀ k, k < 40 → lawP r5 a1 k → okS (cV0 r5 a1 (Cm r5 a2) (Cq r5 a2) a3 k) (pK r5 a1 k) ∧ okS (cV1 r5 a1 (Cm r5 a2) (Cq r5 a2) a3 k) (pK r5 a1 k) ∧ 0 < cW r5 a1 k) (h_z : Cn p 40 = 0) : Ct M_X10_hull [.ref 0, .int a1, .int a2, .int a3] ([ob 8 [.int f0_0, .ref 1, .ref 4, .ref 7, .ref 10, .ref 11, .ref 12, .ref 18, .ref 25, .ref 29], x1, x2, x3, ob 2 [.ref 5, .ref 6], ia 56 r5, ia 4 r6, x7, x8, x9, ob 3 [.int f10_0, .int f10_1, .int f10_2, .int f10_3], ob 5 [.long f11_0, .long f11_1, .long f11_2, .long f11_3, .long f11_4, .long f11_5, .long f11_6, .long f11_7, .long f11_8, .long f11_9, .long f11_10, .long f11_11, .long f11_12, .long f11_13, .long f11_14, .long f11_15], ob 1 [.ref 13, .ref 14, .ref 15, .ref 16, .ref 17, .int f12_5, .int f12_6, .int f12_7, .int f12_8, .int f12_9], ia 40 r13, ia 40 r14, ia 40 r15, ia 40 (nIf so), ia 81 (nIf ch), x18, x19, x20, x21, x22, x23, x24, x25, x26, x27, x28, x29, x30, x31, x32], wm) (fun r w' => (∃ g_4 : Nat → Int64, ((0 ≤ a1 ∧ a1 < r6 0) ∧ (0 ≤ a2 ∧ a2 < r6 1) ∧ (0 ≤ a3 ∧ a3 < 2)) ∧ r = some (.int 0) ∧ w' = ([ob 8 [.int 0, .ref 1, .ref 4, .ref 7, .ref 10, .ref 11, .ref 12, .ref 18, .ref 25, .ref 29], x1, x2, x3, ob 2 [.ref 5, .ref 6], ia 56 r5, ia 4 r6, x7, x8, x9, ob 3 [.int (Bg r5 a1), .int (Ba r5 a1), .int (Bb r5 a1), .int (Bc r5 a1)], ob 5 [.long (g_4 0), .long (g_4 1), .long (g_4 2), .long (g_4 3), .long (g_4 4), .long (g_4 5), .long (g_4 6), .long (g_4 7), .long (g_4 8), .long (g_4 9), .long (g_4 10), .long (g_4 11), .long (g_4 12), .long (g_4 13), .long (g_4 14), .long (g_4 15)], ob 1 [.ref 13, .ref 14, .ref 15, .ref 16, .ref 17, .int 0, .int 0, .int 0, .int f12_8, .int f12_9], ia 40 (crv p X r13 40), ia 40 (crv p Y r14 40), ia 40 (crv p nI r15 40), ia 40 (nIf so), ia 81 (nIf ch), x18, x19, x20, x21, x22, x23, x24, x25, x26, x27, x28, x29, x30, x31, x32], wm)) ∨ ((¬ ((0 ≤ a1 ∧ a1 < r6 0) ∧ (0 ≤ a2 ∧ a2 < r6 1) ∧ (0 ≤ a3 ∧ a3 < 2))) ∧ r = some (.int (-1)) ∧ w' = ([ob 8 [.int 1, .ref 1, .ref 4, .ref 7, .ref 10, .ref 11, .ref 12, .ref 18, .ref 25, .ref 29], x1, x2, x3, ob 2 [.ref 5, .ref 6], ia 56 r5, ia 4 r6, x7, x8, x9, ob 3 [.int f10_0, .int f10_1, .int f10_2, .int f10_3], ob 5 [.long f11_0, .long f11_1, .long f11_2, .long f11_3, .long f11_4, .long f11_5, .long f11_6, .long f11_7, .long f11_8, .long f11_9, .long f11_10, .long f11_11, .long f11_12, .long f11_13, .long f11_14, .long f11_15], ob 1 [.ref 13, .ref 14, .ref 15, .ref 16, .ref 17, .int f12_5, .int f12_6, .int f12_7, .int f12_8, .int f12_9], ia 40 r13, ia 40 r14, ia 40 r15, ia 40 (nIf so), ia 81 (nIf ch), x18, x19, x20, x21, x22, x23, x24, x25, x26, x27, x28, x29, x30, x31, x32], wm))) := by
  refine ct_of ⟨by decide, rfl⟩ (Nat.le_of_ble_eq_true rfl) ?_
  refine ab_aload_n dX10_hull_0 rfl ?_
  refine ab_aload_n dX10_hull_1 rfl ?_
  refine ab_iload_n dX10_hull_2 rfl ?_
  refine ab_iload_n dX10_hull_3 rfl ?_
  refine ab_iload_n dX10_hull_4 rfl ?_
  refine ab_callV (As := [.int a1, .int a2, .int a3]) (rest := [.ref 0]) dX10_hull_5 mv_X10_hasCurve ml_X10_266 ⟨by decide, by decide, rfl, rfl, rfl⟩ (by decide) rfl rfl (Nat.le_of_ble_eq_true rfl) rfl c_X10_hasCurve ?_
  rintro r w' (⟨c_1, rfl, rfl⟩ | ⟨c_2, rfl, rfl⟩)
  · refine ab_iconst (v := 1) dX10_hull_8 (by decide) ?_
    refine ab_callV (As := [.int 1, .int 1]) (rest := []) dX10_hull_9 mv_X10_refused ml_X10_84 ⟨by decide, by decide, rfl, rfl, rfl⟩ (by decide) rfl rfl (Nat.le_of_ble_eq_true rfl) rfl c_X10_refused_1 ?_
    rintro r w' ⟨rfl, rfl⟩
    refine ab_ifeq 17 dX10_hull_12 (by decide) (fun h_3 => ?_) (fun h_3 => absurd (by decide) h_3)
    refine ab_aload_n dX10_hull_17 rfl ?_
    refine ab_iload_n dX10_hull_18 rfl ?_
    refine ab_iload_n dX10_hull_19 rfl ?_
    refine ab_iload_n dX10_hull_20 rfl ?_
    refine ab_callV (As := [.int a1, .int a2, .int a3]) (rest := []) dX10_hull_21 mv_X10_curveAt ml_X10_269 ⟨by decide, by decide, rfl, rfl, rfl⟩ (by decide) rfl rfl (Nat.le_of_ble_eq_true rfl) rfl (c_X10_curveAt_z (p := p) (X := X) (Y := Y) h_z c_1.1 h_c0 c_1.2.1 h_c1 h_p h_X h_Y (h_ok c_1)) ?_
    rintro r w' ⟨g_4, rfl, rfl⟩
    refine ab_callV (As := []) (rest := []) dX10_hull_24 mv_X1_wrap ml_X10_285 ⟨by decide, by decide, rfl, rfl, rfl⟩ (by decide) rfl rfl (Nat.le_of_ble_eq_true rfl) rfl c_X1_wrap_0 ?_
    rintro r w' ⟨rfl, rfl⟩
    exact ab_iret dX10_hull_27 rfl (by decide) (Or.inl ⟨g_4, c_1, rfl, rfl⟩)
  · refine ab_iconst (v := 1) dX10_hull_8 (by decide) ?_
    refine ab_callV (As := [.int 0, .int 1]) (rest := []) dX10_hull_9 mv_X10_refused ml_X10_84 ⟨by decide, by decide, rfl, rfl, rfl⟩ (by decide) rfl rfl (Nat.le_of_ble_eq_true rfl) rfl c_X10_refused_0 ?_
    rintro r w' ⟨rfl, rfl⟩
    refine ab_ifeq 17 dX10_hull_12 (by decide) (fun h_5 => absurd h_5 (by decide)) (fun h_5 => ?_)
    refine ab_iconst (v := -1) dX10_hull_15 (by decide) ?_
    exact ab_iret dX10_hull_16 rfl (by decide) (Or.inr (⟨c_2, rfl, rfl⟩))
theorem c_X10_corner_p {f0_0 f10_0 f10_1 f10_2 f10_3 f12_5 f12_6 f12_7 f12_8 f12_9 a1 a2 a3 a4 : Int32} {x1 x2 x3 x7 x8 x9 x18 x19 x20 x21 x22 x23 x24 x25 x26 x27 x28 x29 x30 x31 x32 : ax_E} {r5 r6 r13 r14 r15 X Y : Nat → Int32} {f11_0 f11_1 f11_2 f11_3 f11_4 f11_5 f11_6 f11_7 f11_8 f11_9 f11_10 f11_11 f11_12 f11_13 f11_14 f11_15 : Int64} {wm : List ax_E} {p : Nat → Bool} {so ch : Nat → Nat} (h_c0 : r6 0 ≤ nI 4) (h_c1 : r6 1 ≤ nI 4) (h_p : ∀ k, p k = true ↔ lawP r5 a1 k) (h_X : ∀ k, k < 40 → lawP r5 a1 k → X k = cX r5 a1 (Cm r5 a2) (Cq r5 a2) a3 k) (h_Y : ∀ k, k < 40 → lawP r5 a1 k → Y k = cY r5 a1 (Cm r5 a2) (Cq r5 a2) a3 k) (h_ok : ((0 ≤ a1 ∧ a1 < r6 0) ∧ (0 ≤ a2 ∧ a2 < r6 1) ∧ (0 ≤ a3 ∧ a3 < 2)) → ∀ k, k < 40 → lawP r5 a1 k → okS (cV0 r5 a1 (Cm r5 a2) (Cq r5 a2) a3 k) (pK r5 a1 k) ∧ okS (cV1 r5 a1 (Cm r5 a2) (Cq r5 a2) a3 k) (pK r5 a1 k) ∧ 0 < cW r5 a1 k) (h_1 : 0 < Cn p 40) : Ct M_X10_corner [.ref 0, .int a1, .int a2, .int a3, .int a4] ([ob 8 [.int f0_0, .ref 1, .ref 4, .ref 7, .ref 10, .ref 11, .ref 12, .ref 18, .ref 25, .ref 29], x1, x2, x3, ob 2 [.ref 5, .ref 6], ia 56 r5, ia 4 r6, x7, x8, x9, ob 3 [.int f10_0, .int f10_1, .int f10_2, .int f10_3], ob 5 [.long f11_0, .long f11_1, .long f11_2, .long f11_3, .long f11_4, .long f11_5, .long f11_6, .long f11_7, .long f11_8, .long f11_9, .long f11_10, .long f11_11, .long f11_12, .long f11_13, .long f11_14, .long f11_15], ob 1 [.ref 13, .ref 14, .ref 15, .ref 16, .ref 17, .int f12_5, .int f12_6, .int f12_7, .int f12_8, .int f12_9], ia 40 r13, ia 40 r14, ia 40 r15, ia 40 (nIf so), ia 81 (nIf ch), x18, x19, x20, x21, x22, x23, x24, x25, x26, x27, x28, x29, x30, x31, x32], wm) (fun r w' => (∃ g_4 : Nat → Int64, ((0 ≤ a1 ∧ a1 < r6 0) ∧ (0 ≤ a2 ∧ a2 < r6 1) ∧ (0 ≤ a3 ∧ a3 < 2)) ∧ (0 ≤ a4 ∧ a4 < (nI (hlN (crv p X r13 40) (crv p Y r14 40) (Cn p 40) so ch))) ∧ r = some (.int ((crv p nI r15 40) (((hlS (crv p X r13 40) (crv p Y r14 40) (Cn p 40) so ch).2) (Int32.toNatClampNeg a4)))) ∧ w' = ([ob 8 [.int 0, .ref 1, .ref 4, .ref 7, .ref 10, .ref 11, .ref 12, .ref 18, .ref 25, .ref 29], x1, x2, x3, ob 2 [.ref 5, .ref 6], ia 56 r5, ia 4 r6, x7, x8, x9, ob 3 [.int (Bg r5 a1), .int (Ba r5 a1), .int (Bb r5 a1), .int (Bc r5 a1)], ob 5 [.long (g_4 0), .long (g_4 1), .long (g_4 2), .long (g_4 3), .long (g_4 4), .long (g_4 5), .long (g_4 6), .long (g_4 7), .long (g_4 8), .long (g_4 9), .long (g_4 10), .long (g_4 11), .long (g_4 12), .long (g_4 13), .long (g_4 14), .long (g_4 15)], ob 1 [.ref 13, .ref 14, .ref 15, .ref 16, .ref 17, .int (nI (Cn p 40)), .int (nI (srtS (crv p X r13 40) (crv p Y r14 40) (Cn p 40) so).2), .int (nI (hlN (crv p X r13 40) (crv p Y r14 40) (Cn p 40) so ch)), .int f12_8, .int f12_9], ia 40 (crv p X r13 40), ia 40 (crv p Y r14 40), ia 40 (crv p nI r15 40), ia 40 (nIf (srtS (crv p X r13 40) (crv p Y r14 40) (Cn p 40) so).1), ia 81 (nIf ((hlS (crv p X r13 40) (crv p Y r14 40) (Cn p 40) so ch).2)), x18, x19, x20, x21, x22, x23, x24, x25, x26, x27, x28, x29, x30, x31, x32], wm)) ∨ (∃ g_4 : Nat → Int64, ((0 ≤ a1 ∧ a1 < r6 0) ∧ (0 ≤ a2 ∧ a2 < r6 1) ∧ (0 ≤ a3 ∧ a3 < 2)) ∧ (¬ (0 ≤ a4 ∧ a4 < (nI (hlN (crv p X r13 40) (crv p Y r14 40) (Cn p 40) so ch)))) ∧ r = some (.int (-1)) ∧ w' = ([ob 8 [.int 1, .ref 1, .ref 4, .ref 7, .ref 10, .ref 11, .ref 12, .ref 18, .ref 25, .ref 29], x1, x2, x3, ob 2 [.ref 5, .ref 6], ia 56 r5, ia 4 r6, x7, x8, x9, ob 3 [.int (Bg r5 a1), .int (Ba r5 a1), .int (Bb r5 a1), .int (Bc r5 a1)], ob 5 [.long (g_4 0), .long (g_4 1), .long (g_4 2), .long (g_4 3), .long (g_4 4), .long (g_4 5), .long (g_4 6), .long (g_4 7), .long (g_4 8), .long (g_4 9), .long (g_4 10), .long (g_4 11), .long (g_4 12), .long (g_4 13), .long (g_4 14), .long (g_4 15)], ob 1 [.ref 13, .ref 14, .ref 15, .ref 16, .ref 17, .int (nI (Cn p 40)), .int (nI (srtS (crv p X r13 40) (crv p Y r14 40) (Cn p 40) so).2), .int (nI (hlN (crv p X r13 40) (crv p Y r14 40) (Cn p 40) so ch)), .int f12_8, .int f12_9], ia 40 (crv p X r13 40), ia 40 (crv p Y r14 40), ia 40 (crv p nI r15 40), ia 40 (nIf (srtS (crv p X r13 40) (crv p Y r14 40) (Cn p 40) so).1), ia 81 (nIf (hlS (crv p X r13 40) (crv p Y r14 40) (Cn p 40) so ch).2), x18, x19, x20, x21, x22, x23, x24, x25, x26, x27, x28, x29, x30, x31, x32], wm)) ∨ ((¬ ((0 ≤ a1 ∧ a1 < r6 0) ∧ (0 ≤ a2 ∧ a2 < r6 1) ∧ (0 ≤ a3 ∧ a3 < 2))) ∧ r = some (.int (-1)) ∧ w' = ([ob 8 [.int 1, .ref 1, .ref 4, .ref 7, .ref 10, .ref 11, .ref 12, .ref 18, .ref 25, .ref 29], x1, x2, x3, ob 2 [.ref 5, .ref 6], ia 56 r5, ia 4 r6, x7, x8, x9, ob 3 [.int f10_0, .int f10_1, .int f10_2, .int f10_3], ob 5 [.long f11_0, .long f11_1, .long f11_2, .long f11_3, .long f11_4, .long f11_5, .long f11_6, .long f11_7, .long f11_8, .long f11_9, .long f11_10, .long f11_11, .long f11_12, .long f11_13, .long f11_14, .long f11_15], ob 1 [.ref 13, .ref 14, .ref 15, .ref 16, .ref 17, .int f12_5, .int f12_6, .int f12_7, .int f12_8, .int f12_9], ia 40 r13, ia 40 r14, ia 40 r15, ia 40 (nIf so), ia 81 (nIf ch), x18, x19, x20, x21, x22, x23, x24, x25, x26, x27, x28, x29, x30, x31, x32], wm))) := by
  refine ct_of ⟨by decide, rfl⟩ (Nat.le_of_ble_eq_true rfl) ?_
  refine ab_aload_n dX10_corner_0 rfl ?_
  refine ab_aload_n dX10_corner_1 rfl ?_
  refine ab_iload_n dX10_corner_2 rfl ?_
  refine ab_iload_n dX10_corner_3 rfl ?_
  refine ab_iload_n dX10_corner_4 rfl ?_
  refine ab_callV (As := [.int a1, .int a2, .int a3]) (rest := [.ref 0]) dX10_corner_5 mv_X10_hasCurve ml_X10_266 ⟨by decide, by decide, rfl, rfl, rfl⟩ (by decide) rfl rfl (Nat.le_of_ble_eq_true rfl) rfl c_X10_hasCurve ?_
  rintro r w' (⟨c_1, rfl, rfl⟩ | ⟨c_2, rfl, rfl⟩)
  · refine ab_iconst (v := 1) dX10_corner_8 (by decide) ?_
    refine ab_callV (As := [.int 1, .int 1]) (rest := []) dX10_corner_9 mv_X10_refused ml_X10_84 ⟨by decide, by decide, rfl, rfl, rfl⟩ (by decide) rfl rfl (Nat.le_of_ble_eq_true rfl) rfl c_X10_refused_1 ?_
    rintro r w' ⟨rfl, rfl⟩
    refine ab_ifeq 17 dX10_corner_12 (by decide) (fun h_3 => ?_) (fun h_3 => absurd (by decide) h_3)
    refine ab_aload_n dX10_corner_17 rfl ?_
    refine ab_iload_n dX10_corner_18 rfl ?_
    refine ab_iload_n dX10_corner_19 rfl ?_
    refine ab_iload_n dX10_corner_20 rfl ?_
    refine ab_callV (As := [.int a1, .int a2, .int a3]) (rest := []) dX10_corner_21 mv_X10_curveAt ml_X10_269 ⟨by decide, by decide, rfl, rfl, rfl⟩ (by decide) rfl rfl (Nat.le_of_ble_eq_true rfl) rfl (c_X10_curveAt (p := p) (X := X) (Y := Y) c_1.1 h_c0 c_1.2.1 h_c1 h_p h_X h_Y (h_ok c_1)) ?_
    rintro r w' ⟨g_4, rfl, rfl⟩
    refine ab_callV (As := []) (rest := []) dX10_corner_24 mv_X1_wrap ml_X10_285 ⟨by decide, by decide, rfl, rfl, rfl⟩ (by decide) rfl rfl (Nat.le_of_ble_eq_true rfl) rfl (c_X1_wrap (c := (Cn p 40)) (so := so) (ch := ch) (cn_le p 40) h_1) ?_
    rintro r w' ⟨rfl, rfl⟩
    refine ab_istore (la' := [(5, .int (nI (hlN (crv p X r13 40) (crv p Y r14 40) (Cn p 40) so ch))), (0, .ref 0), (1, .int a1), (2, .int a2), (3, .int a3), (4, .int a4)]) dX10_corner_27 (by decide) rfl ?_
    refine ab_aload_n dX10_corner_29 rfl ?_
    refine ab_iload dX10_corner_30 rfl ?_
    refine ab_iload dX10_corner_32 rfl ?_
    refine ab_callS (As := [.int a4, .int (nI (hlN (crv p X r13 40) (crv p Y r14 40) (Cn p 40) so ch))]) (rest := [.ref 0]) dX10_corner_34 ms_X10_isOf ml_X10_118 ⟨by decide, by decide, rfl, rfl, rfl⟩ (by decide) rfl rfl (Nat.le_of_ble_eq_true rfl) c_X10_isOf ?_
    rintro r w' (⟨c_5, rfl, rfl⟩ | ⟨c_6, rfl, rfl⟩)
    · refine ab_iconst (v := 1) dX10_corner_37 (by decide) ?_
      refine ab_callV (As := [.int 1, .int 1]) (rest := []) dX10_corner_38 mv_X10_refused ml_X10_84 ⟨by decide, by decide, rfl, rfl, rfl⟩ (by decide) rfl rfl (Nat.le_of_ble_eq_true rfl) rfl c_X10_refused_1 ?_
      rintro r w' ⟨rfl, rfl⟩
      refine ab_ifeq 46 dX10_corner_41 (by decide) (fun h_7 => ?_) (fun h_7 => absurd (by decide) h_7)
      refine ab_aload_n dX10_corner_46 rfl ?_
      refine ab_getf dX10_corner_47 fl_X10_47 rfl rfl ?_
      refine ab_iload dX10_corner_50 rfl ?_
      refine ab_callV (As := [.int a4]) (rest := []) dX10_corner_52 mv_X1_cornerAngle ml_X10_288 ⟨by decide, by decide, rfl, rfl, rfl⟩ (by decide) rfl rfl (Nat.le_of_ble_eq_true rfl) rfl (c_X1_cornerAngle_i (K := (hlN (crv p X r13 40) (crv p Y r14 40) (Cn p 40) so ch)) (ch := ((hlS (crv p X r13 40) (crv p Y r14 40) (Cn p 40) so ch).2)) (c := (Cn p 40)) c_5 ((hl_inv so ch (cn_le p 40)).1) ((hl_inv so ch (cn_le p 40)).2)) ?_
      rintro r w' ⟨rfl, rfl⟩
      exact ab_iret dX10_corner_55 rfl (by decide) (Or.inl ⟨g_4, c_1, c_5, rfl, rfl⟩)
    · refine ab_iconst (v := 1) dX10_corner_37 (by decide) ?_
      refine ab_callV (As := [.int 0, .int 1]) (rest := []) dX10_corner_38 mv_X10_refused ml_X10_84 ⟨by decide, by decide, rfl, rfl, rfl⟩ (by decide) rfl rfl (Nat.le_of_ble_eq_true rfl) rfl c_X10_refused_0 ?_
      rintro r w' ⟨rfl, rfl⟩
      refine ab_ifeq 46 dX10_corner_41 (by decide) (fun h_8 => absurd h_8 (by decide)) (fun h_8 => ?_)
      refine ab_iconst (v := -1) dX10_corner_44 (by decide) ?_
      exact ab_iret dX10_corner_45 rfl (by decide) (Or.inr (Or.inl ⟨g_4, c_1, c_6, rfl, rfl⟩))
  · refine ab_iconst (v := 1) dX10_corner_8 (by decide) ?_
    refine ab_callV (As := [.int 0, .int 1]) (rest := []) dX10_corner_9 mv_X10_refused ml_X10_84 ⟨by decide, by decide, rfl, rfl, rfl⟩ (by decide) rfl rfl (Nat.le_of_ble_eq_true rfl) rfl c_X10_refused_0 ?_
    rintro r w' ⟨rfl, rfl⟩
    refine ab_ifeq 17 dX10_corner_12 (by decide) (fun h_9 => absurd h_9 (by decide)) (fun h_9 => ?_)
    refine ab_iconst (v := -1) dX10_corner_15 (by decide) ?_
    exact ab_iret dX10_corner_16 rfl (by decide) (Or.inr (Or.inr (⟨c_2, rfl, rfl⟩)))
theorem c_X10_corner_z {f0_0 f10_0 f10_1 f10_2 f10_3 f12_5 f12_6 f12_7 f12_8 f12_9 a1 a2 a3 a4 : Int32} {x1 x2 x3 x7 x8 x9 x18 x19 x20 x21 x22 x23 x24 x25 x26 x27 x28 x29 x30 x31 x32 : ax_E} {r5 r6 r13 r14 r15 X Y : Nat → Int32} {f11_0 f11_1 f11_2 f11_3 f11_4 f11_5 f11_6 f11_7 f11_8 f11_9 f11_10 f11_11 f11_12 f11_13 f11_14 f11_15 : Int64} {wm : List ax_E} {p : Nat → Bool} {so ch : Nat → Nat} (h_c0 : r6 0 ≤ nI 4) (h_c1 : r6 1 ≤ nI 4) (h_p : ∀ k, p k = true ↔ lawP r5 a1 k) (h_X : ∀ k, k < 40 → lawP r5 a1 k → X k = cX r5 a1 (Cm r5 a2) (Cq r5 a2) a3 k) (h_Y : ∀ k, k < 40 → lawP r5 a1 k → Y k = cY r5 a1 (Cm r5 a2) (Cq r5 a2) a3 k) (h_ok : ((0 ≤ a1 ∧ a1 < r6 0) ∧ (0 ≤ a2 ∧ a2 < r6 1) ∧ (0 ≤ a3 ∧ a3 < 2)) → ∀ k, k < 40 → lawP r5 a1 k → okS (cV0 r5 a1 (Cm r5 a2) (Cq r5 a2) a3 k) (pK r5 a1 k) ∧ okS (cV1 r5 a1 (Cm r5 a2) (Cq r5 a2) a3 k) (pK r5 a1 k) ∧ 0 < cW r5 a1 k) (h_z : Cn p 40 = 0) : Ct M_X10_corner [.ref 0, .int a1, .int a2, .int a3, .int a4] ([ob 8 [.int f0_0, .ref 1, .ref 4, .ref 7, .ref 10, .ref 11, .ref 12, .ref 18, .ref 25, .ref 29], x1, x2, x3, ob 2 [.ref 5, .ref 6], ia 56 r5, ia 4 r6, x7, x8, x9, ob 3 [.int f10_0, .int f10_1, .int f10_2, .int f10_3], ob 5 [.long f11_0, .long f11_1, .long f11_2, .long f11_3, .long f11_4, .long f11_5, .long f11_6, .long f11_7, .long f11_8, .long f11_9, .long f11_10, .long f11_11, .long f11_12, .long f11_13, .long f11_14, .long f11_15], ob 1 [.ref 13, .ref 14, .ref 15, .ref 16, .ref 17, .int f12_5, .int f12_6, .int f12_7, .int f12_8, .int f12_9], ia 40 r13, ia 40 r14, ia 40 r15, ia 40 (nIf so), ia 81 (nIf ch), x18, x19, x20, x21, x22, x23, x24, x25, x26, x27, x28, x29, x30, x31, x32], wm) (fun r w' => (∃ g_4 : Nat → Int64, ((0 ≤ a1 ∧ a1 < r6 0) ∧ (0 ≤ a2 ∧ a2 < r6 1) ∧ (0 ≤ a3 ∧ a3 < 2)) ∧ (¬ (0 ≤ a4 ∧ a4 < 0)) ∧ r = some (.int (-1)) ∧ w' = ([ob 8 [.int 1, .ref 1, .ref 4, .ref 7, .ref 10, .ref 11, .ref 12, .ref 18, .ref 25, .ref 29], x1, x2, x3, ob 2 [.ref 5, .ref 6], ia 56 r5, ia 4 r6, x7, x8, x9, ob 3 [.int (Bg r5 a1), .int (Ba r5 a1), .int (Bb r5 a1), .int (Bc r5 a1)], ob 5 [.long (g_4 0), .long (g_4 1), .long (g_4 2), .long (g_4 3), .long (g_4 4), .long (g_4 5), .long (g_4 6), .long (g_4 7), .long (g_4 8), .long (g_4 9), .long (g_4 10), .long (g_4 11), .long (g_4 12), .long (g_4 13), .long (g_4 14), .long (g_4 15)], ob 1 [.ref 13, .ref 14, .ref 15, .ref 16, .ref 17, .int 0, .int 0, .int 0, .int f12_8, .int f12_9], ia 40 (crv p X r13 40), ia 40 (crv p Y r14 40), ia 40 (crv p nI r15 40), ia 40 (nIf so), ia 81 (nIf ch), x18, x19, x20, x21, x22, x23, x24, x25, x26, x27, x28, x29, x30, x31, x32], wm)) ∨ ((¬ ((0 ≤ a1 ∧ a1 < r6 0) ∧ (0 ≤ a2 ∧ a2 < r6 1) ∧ (0 ≤ a3 ∧ a3 < 2))) ∧ r = some (.int (-1)) ∧ w' = ([ob 8 [.int 1, .ref 1, .ref 4, .ref 7, .ref 10, .ref 11, .ref 12, .ref 18, .ref 25, .ref 29], x1, x2, x3, ob 2 [.ref 5, .ref 6], ia 56 r5, ia 4 r6, x7, x8, x9, ob 3 [.int f10_0, .int f10_1, .int f10_2, .int f10_3], ob 5 [.long f11_0, .long f11_1, .long f11_2, .long f11_3, .long f11_4, .long f11_5, .long f11_6, .long f11_7, .long f11_8, .long f11_9, .long f11_10, .long f11_11, .long f11_12, .long f11_13, .long f11_14, .long f11_15], ob 1 [.ref 13, .ref 14, .ref 15, .ref 16, .ref 17, .int f12_5, .int f12_6, .int f12_7, .int f12_8, .int f12_9], ia 40 r13, ia 40 r14, ia 40 r15, ia 40 (nIf so), ia 81 (nIf ch), x18, x19, x20, x21, x22, x23, x24, x25, x26, x27, x28, x29, x30, x31, x32], wm))) := by
  refine ct_of ⟨by decide, rfl⟩ (Nat.le_of_ble_eq_true rfl) ?_
  refine ab_aload_n dX10_corner_0 rfl ?_
  refine ab_aload_n dX10_corner_1 rfl ?_
  refine ab_iload_n dX10_corner_2 rfl ?_
  refine ab_iload_n dX10_corner_3 rfl ?_
  refine ab_iload_n dX10_corner_4 rfl ?_
  refine ab_callV (As := [.int a1, .int a2, .int a3]) (rest := [.ref 0]) dX10_corner_5 mv_X10_hasCurve ml_X10_266 ⟨by decide, by decide, rfl, rfl, rfl⟩ (by decide) rfl rfl (Nat.le_of_ble_eq_true rfl) rfl c_X10_hasCurve ?_
  rintro r w' (⟨c_1, rfl, rfl⟩ | ⟨c_2, rfl, rfl⟩)
  · refine ab_iconst (v := 1) dX10_corner_8 (by decide) ?_
    refine ab_callV (As := [.int 1, .int 1]) (rest := []) dX10_corner_9 mv_X10_refused ml_X10_84 ⟨by decide, by decide, rfl, rfl, rfl⟩ (by decide) rfl rfl (Nat.le_of_ble_eq_true rfl) rfl c_X10_refused_1 ?_
    rintro r w' ⟨rfl, rfl⟩
    refine ab_ifeq 17 dX10_corner_12 (by decide) (fun h_3 => ?_) (fun h_3 => absurd (by decide) h_3)
    refine ab_aload_n dX10_corner_17 rfl ?_
    refine ab_iload_n dX10_corner_18 rfl ?_
    refine ab_iload_n dX10_corner_19 rfl ?_
    refine ab_iload_n dX10_corner_20 rfl ?_
    refine ab_callV (As := [.int a1, .int a2, .int a3]) (rest := []) dX10_corner_21 mv_X10_curveAt ml_X10_269 ⟨by decide, by decide, rfl, rfl, rfl⟩ (by decide) rfl rfl (Nat.le_of_ble_eq_true rfl) rfl (c_X10_curveAt_z (p := p) (X := X) (Y := Y) h_z c_1.1 h_c0 c_1.2.1 h_c1 h_p h_X h_Y (h_ok c_1)) ?_
    rintro r w' ⟨g_4, rfl, rfl⟩
    refine ab_callV (As := []) (rest := []) dX10_corner_24 mv_X1_wrap ml_X10_285 ⟨by decide, by decide, rfl, rfl, rfl⟩ (by decide) rfl rfl (Nat.le_of_ble_eq_true rfl) rfl c_X1_wrap_0 ?_
    rintro r w' ⟨rfl, rfl⟩
    refine ab_istore (la' := [(5, .int 0), (0, .ref 0), (1, .int a1), (2, .int a2), (3, .int a3), (4, .int a4)]) dX10_corner_27 (by decide) rfl ?_
    refine ab_aload_n dX10_corner_29 rfl ?_
    refine ab_iload dX10_corner_30 rfl ?_
    refine ab_iload dX10_corner_32 rfl ?_
    refine ab_callS (As := [.int a4, .int 0]) (rest := [.ref 0]) dX10_corner_34 ms_X10_isOf ml_X10_118 ⟨by decide, by decide, rfl, rfl, rfl⟩ (by decide) rfl rfl (Nat.le_of_ble_eq_true rfl) c_X10_isOf ?_
    rintro r w' (⟨c_5, rfl, rfl⟩ | ⟨c_6, rfl, rfl⟩)
    · exact absurd c_5.2 (Int32.not_lt.mpr c_5.1)
    · refine ab_iconst (v := 1) dX10_corner_37 (by decide) ?_
      refine ab_callV (As := [.int 0, .int 1]) (rest := []) dX10_corner_38 mv_X10_refused ml_X10_84 ⟨by decide, by decide, rfl, rfl, rfl⟩ (by decide) rfl rfl (Nat.le_of_ble_eq_true rfl) rfl c_X10_refused_0 ?_
      rintro r w' ⟨rfl, rfl⟩
      refine ab_ifeq 46 dX10_corner_41 (by decide) (fun h_7 => absurd h_7 (by decide)) (fun h_7 => ?_)
      refine ab_iconst (v := -1) dX10_corner_44 (by decide) ?_
      exact ab_iret dX10_corner_45 rfl (by decide) (Or.inl ⟨g_4, c_1, c_6, rfl, rfl⟩)
  · refine ab_iconst (v := 1) dX10_corner_8 (by decide) ?_
    refine ab_callV (As := [.int 0, .int 1]) (rest := []) dX10_corner_9 mv_X10_refused ml_X10_84 ⟨by decide, by decide, rfl, rfl, rfl⟩ (by decide) rfl rfl (Nat.le_of_ble_eq_true rfl) rfl c_X10_refused_0 ?_
    rintro r w' ⟨rfl, rfl⟩
    refine ab_ifeq 17 dX10_corner_12 (by decide) (fun h_8 => absurd h_8 (by decide)) (fun h_8 => ?_)
    refine ab_iconst (v := -1) dX10_corner_15 (by decide) ?_
    exact ab_iret dX10_corner_16 rfl (by decide) (Or.inr (⟨c_2, rfl, rfl⟩))
theorem c_X10_hullArea_p {f0_0 f10_0 f10_1 f10_2 f10_3 f12_5 f12_6 f12_7 f12_8 f12_9 a1 a2 a3 : Int32} {x1 x2 x3 x7 x8 x9 x18 x19 x20 x21 x22 x23 x24 x25 x26 x27 x28 x29 x30 x31 x32 : ax_E} {r5 r6 r13 r14 r15 X Y : Nat → Int32} {f11_0 f11_1 f11_2 f11_3 f11_4 f11_5 f11_6 f11_7 f11_8 f11_9 f11_10 f11_11 f11_12 f11_13 f11_14 f11_15 : Int64} {wm : List ax_E} {p : Nat → Bool} {so ch : Nat → Nat} (h_c0 : r6 0 ≤ nI 4) (h_c1 : r6 1 ≤ nI 4) (h_p : ∀ k, p k = true ↔ lawP r5 a1 k) (h_X : ∀ k, k < 40 → lawP r5 a1 k → X k = cX r5 a1 (Cm r5 a2) (Cq r5 a2) a3 k) (h_Y : ∀ k, k < 40 → lawP r5 a1 k → Y k = cY r5 a1 (Cm r5 a2) (Cq r5 a2) a3 k) (h_ok : ((0 ≤ a1 ∧ a1 < r6 0) ∧ (0 ≤ a2 ∧ a2 < r6 1) ∧ (0 ≤ a3 ∧ a3 < 2)) → ∀ k, k < 40 → lawP r5 a1 k → okS (cV0 r5 a1 (Cm r5 a2) (Cq r5 a2) a3 k) (pK r5 a1 k) ∧ okS (cV1 r5 a1 (Cm r5 a2) (Cq r5 a2) a3 k) (pK r5 a1 k) ∧ 0 < cW r5 a1 k) (h_1 : 0 < Cn p 40) : Ct M_X10_hullArea [.ref 0, .int a1, .int a2, .int a3] ([ob 8 [.int f0_0, .ref 1, .ref 4, .ref 7, .ref 10, .ref 11, .ref 12, .ref 18, .ref 25, .ref 29], x1, x2, x3, ob 2 [.ref 5, .ref 6], ia 56 r5, ia 4 r6, x7, x8, x9, ob 3 [.int f10_0, .int f10_1, .int f10_2, .int f10_3], ob 5 [.long f11_0, .long f11_1, .long f11_2, .long f11_3, .long f11_4, .long f11_5, .long f11_6, .long f11_7, .long f11_8, .long f11_9, .long f11_10, .long f11_11, .long f11_12, .long f11_13, .long f11_14, .long f11_15], ob 1 [.ref 13, .ref 14, .ref 15, .ref 16, .ref 17, .int f12_5, .int f12_6, .int f12_7, .int f12_8, .int f12_9], ia 40 r13, ia 40 r14, ia 40 r15, ia 40 (nIf so), ia 81 (nIf ch), x18, x19, x20, x21, x22, x23, x24, x25, x26, x27, x28, x29, x30, x31, x32], wm) (fun r w' => (∃ g_4 : Nat → Int64, ((0 ≤ a1 ∧ a1 < r6 0) ∧ (0 ≤ a2 ∧ a2 < r6 1) ∧ (0 ≤ a3 ∧ a3 < 2)) ∧ r = some (.long (itr (lp_wt_st (crv p X r13 40) (crv p Y r14 40) (hlN (crv p X r13 40) (crv p Y r14 40) (Cn p 40) so ch) ((hlS (crv p X r13 40) (crv p Y r14 40) (Cn p 40) so ch).2)) (hlN (crv p X r13 40) (crv p Y r14 40) (Cn p 40) so ch) 0 0)) ∧ w' = ([ob 8 [.int 0, .ref 1, .ref 4, .ref 7, .ref 10, .ref 11, .ref 12, .ref 18, .ref 25, .ref 29], x1, x2, x3, ob 2 [.ref 5, .ref 6], ia 56 r5, ia 4 r6, x7, x8, x9, ob 3 [.int (Bg r5 a1), .int (Ba r5 a1), .int (Bb r5 a1), .int (Bc r5 a1)], ob 5 [.long (g_4 0), .long (g_4 1), .long (g_4 2), .long (g_4 3), .long (g_4 4), .long (g_4 5), .long (g_4 6), .long (g_4 7), .long (g_4 8), .long (g_4 9), .long (g_4 10), .long (g_4 11), .long (g_4 12), .long (g_4 13), .long (g_4 14), .long (g_4 15)], ob 1 [.ref 13, .ref 14, .ref 15, .ref 16, .ref 17, .int (nI (Cn p 40)), .int (nI (srtS (crv p X r13 40) (crv p Y r14 40) (Cn p 40) so).2), .int (nI (hlN (crv p X r13 40) (crv p Y r14 40) (Cn p 40) so ch)), .int f12_8, .int f12_9], ia 40 (crv p X r13 40), ia 40 (crv p Y r14 40), ia 40 (crv p nI r15 40), ia 40 (nIf (srtS (crv p X r13 40) (crv p Y r14 40) (Cn p 40) so).1), ia 81 (nIf ((hlS (crv p X r13 40) (crv p Y r14 40) (Cn p 40) so ch).2)), x18, x19, x20, x21, x22, x23, x24, x25, x26, x27, x28, x29, x30, x31, x32], wm)) ∨ ((¬ ((0 ≤ a1 ∧ a1 < r6 0) ∧ (0 ≤ a2 ∧ a2 < r6 1) ∧ (0 ≤ a3 ∧ a3 < 2))) ∧ r = some (.long (-1)) ∧ w' = ([ob 8 [.int 1, .ref 1, .ref 4, .ref 7, .ref 10, .ref 11, .ref 12, .ref 18, .ref 25, .ref 29], x1, x2, x3, ob 2 [.ref 5, .ref 6], ia 56 r5, ia 4 r6, x7, x8, x9, ob 3 [.int f10_0, .int f10_1, .int f10_2, .int f10_3], ob 5 [.long f11_0, .long f11_1, .long f11_2, .long f11_3, .long f11_4, .long f11_5, .long f11_6, .long f11_7, .long f11_8, .long f11_9, .long f11_10, .long f11_11, .long f11_12, .long f11_13, .long f11_14, .long f11_15], ob 1 [.ref 13, .ref 14, .ref 15, .ref 16, .ref 17, .int f12_5, .int f12_6, .int f12_7, .int f12_8, .int f12_9], ia 40 r13, ia 40 r14, ia 40 r15, ia 40 (nIf so), ia 81 (nIf ch), x18, x19, x20, x21, x22, x23, x24, x25, x26, x27, x28, x29, x30, x31, x32], wm))) := by
  refine ct_of ⟨by decide, rfl⟩ (Nat.le_of_ble_eq_true rfl) ?_
  refine ab_aload_n dX10_hullArea_0 rfl ?_
  refine ab_aload_n dX10_hullArea_1 rfl ?_
  refine ab_iload_n dX10_hullArea_2 rfl ?_
  refine ab_iload_n dX10_hullArea_3 rfl ?_
  refine ab_iload_n dX10_hullArea_4 rfl ?_
  refine ab_callV (As := [.int a1, .int a2, .int a3]) (rest := [.ref 0]) dX10_hullArea_5 mv_X10_hasCurve ml_X10_266 ⟨by decide, by decide, rfl, rfl, rfl⟩ (by decide) rfl rfl (Nat.le_of_ble_eq_true rfl) rfl c_X10_hasCurve ?_
  rintro r w' (⟨c_1, rfl, rfl⟩ | ⟨c_2, rfl, rfl⟩)
  · refine ab_iconst (v := 1) dX10_hullArea_8 (by decide) ?_
    refine ab_callV (As := [.int 1, .int 1]) (rest := []) dX10_hullArea_9 mv_X10_refused ml_X10_84 ⟨by decide, by decide, rfl, rfl, rfl⟩ (by decide) rfl rfl (Nat.le_of_ble_eq_true rfl) rfl c_X10_refused_1 ?_
    rintro r w' ⟨rfl, rfl⟩
    refine ab_ifeq 19 dX10_hullArea_12 (by decide) (fun h_3 => ?_) (fun h_3 => absurd (by decide) h_3)
    refine ab_aload_n dX10_hullArea_19 rfl ?_
    refine ab_iload_n dX10_hullArea_20 rfl ?_
    refine ab_iload_n dX10_hullArea_21 rfl ?_
    refine ab_iload_n dX10_hullArea_22 rfl ?_
    refine ab_callV (As := [.int a1, .int a2, .int a3]) (rest := []) dX10_hullArea_23 mv_X10_curveAt ml_X10_269 ⟨by decide, by decide, rfl, rfl, rfl⟩ (by decide) rfl rfl (Nat.le_of_ble_eq_true rfl) rfl (c_X10_curveAt (p := p) (X := X) (Y := Y) c_1.1 h_c0 c_1.2.1 h_c1 h_p h_X h_Y (h_ok c_1)) ?_
    rintro r w' ⟨g_4, rfl, rfl⟩
    refine ab_callV (As := []) (rest := []) dX10_hullArea_26 mv_X1_wrap ml_X10_285 ⟨by decide, by decide, rfl, rfl, rfl⟩ (by decide) rfl rfl (Nat.le_of_ble_eq_true rfl) rfl (c_X1_wrap (c := (Cn p 40)) (so := so) (ch := ch) (cn_le p 40) h_1) ?_
    rintro r w' ⟨rfl, rfl⟩
    refine ab_pop rfl dX10_hullArea_29 ?_
    refine ab_aload_n dX10_hullArea_30 rfl ?_
    refine ab_getf dX10_hullArea_31 fl_X10_47 rfl rfl ?_
    refine ab_callV (As := []) (rest := []) dX10_hullArea_34 mv_X1_wrappedTwice ml_X10_291 ⟨by decide, by decide, rfl, rfl, rfl⟩ (by decide) rfl rfl (Nat.le_of_ble_eq_true rfl) rfl (c_X1_wrappedTwice (K := (hlN (crv p X r13 40) (crv p Y r14 40) (Cn p 40) so ch)) (ch := ((hlS (crv p X r13 40) (crv p Y r14 40) (Cn p 40) so ch).2)) (c := (Cn p 40)) ((hl_inv so ch (cn_le p 40)).1) ((hl_inv so ch (cn_le p 40)).2)) ?_
    rintro r w' ⟨rfl, rfl⟩
    exact ab_lret dX10_hullArea_37 rfl (by decide) (Or.inl ⟨g_4, c_1, rfl, rfl⟩)
  · refine ab_iconst (v := 1) dX10_hullArea_8 (by decide) ?_
    refine ab_callV (As := [.int 0, .int 1]) (rest := []) dX10_hullArea_9 mv_X10_refused ml_X10_84 ⟨by decide, by decide, rfl, rfl, rfl⟩ (by decide) rfl rfl (Nat.le_of_ble_eq_true rfl) rfl c_X10_refused_0 ?_
    rintro r w' ⟨rfl, rfl⟩
    refine ab_ifeq 19 dX10_hullArea_12 (by decide) (fun h_5 => absurd h_5 (by decide)) (fun h_5 => ?_)
    refine ab_ldc2 dX10_hullArea_15 kl_X10_179 ?_
    exact ab_lret dX10_hullArea_18 rfl (by decide) (Or.inr (⟨c_2, rfl, rfl⟩))
theorem c_X10_hullArea_z {f0_0 f10_0 f10_1 f10_2 f10_3 f12_5 f12_6 f12_7 f12_8 f12_9 a1 a2 a3 : Int32} {x1 x2 x3 x7 x8 x9 x18 x19 x20 x21 x22 x23 x24 x25 x26 x27 x28 x29 x30 x31 x32 : ax_E} {r5 r6 r13 r14 r15 X Y : Nat → Int32} {f11_0 f11_1 f11_2 f11_3 f11_4 f11_5 f11_6 f11_7 f11_8 f11_9 f11_10 f11_11 f11_12 f11_13 f11_14 f11_15 : Int64} {wm : List ax_E} {p : Nat → Bool} {so ch : Nat → Nat} (h_c0 : r6 0 ≤ nI 4) (h_c1 : r6 1 ≤ nI 4) (h_p : ∀ k, p k = true ↔ lawP r5 a1 k) (h_X : ∀ k, k < 40 → lawP r5 a1 k → X k = cX r5 a1 (Cm r5 a2) (Cq r5 a2) a3 k) (h_Y : ∀ k, k < 40 → lawP r5 a1 k → Y k = cY r5 a1 (Cm r5 a2) (Cq r5 a2) a3 k) (h_ok : ((0 ≤ a1 ∧ a1 < r6 0) ∧ (0 ≤ a2 ∧ a2 < r6 1) ∧ (0 ≤ a3 ∧ a3 < 2)) → ∀ k, k < 40 → lawP r5 a1 k → okS (cV0 r5 a1 (Cm r5 a2) (Cq r5 a2) a3 k) (pK r5 a1 k) ∧ okS (cV1 r5 a1 (Cm r5 a2) (Cq r5 a2) a3 k) (pK r5 a1 k) ∧ 0 < cW r5 a1 k) (h_z : Cn p 40 = 0) : Ct M_X10_hullArea [.ref 0, .int a1, .int a2, .int a3] ([ob 8 [.int f0_0, .ref 1, .ref 4, .ref 7, .ref 10, .ref 11, .ref 12, .ref 18, .ref 25, .ref 29], x1, x2, x3, ob 2 [.ref 5, .ref 6], ia 56 r5, ia 4 r6, x7, x8, x9, ob 3 [.int f10_0, .int f10_1, .int f10_2, .int f10_3], ob 5 [.long f11_0, .long f11_1, .long f11_2, .long f11_3, .long f11_4, .long f11_5, .long f11_6, .long f11_7, .long f11_8, .long f11_9, .long f11_10, .long f11_11, .long f11_12, .long f11_13, .long f11_14, .long f11_15], ob 1 [.ref 13, .ref 14, .ref 15, .ref 16, .ref 17, .int f12_5, .int f12_6, .int f12_7, .int f12_8, .int f12_9], ia 40 r13, ia 40 r14, ia 40 r15, ia 40 (nIf so), ia 81 (nIf ch), x18, x19, x20, x21, x22, x23, x24, x25, x26, x27, x28, x29, x30, x31, x32], wm) (fun r w' => (∃ g_4 : Nat → Int64, ((0 ≤ a1 ∧ a1 < r6 0) ∧ (0 ≤ a2 ∧ a2 < r6 1) ∧ (0 ≤ a3 ∧ a3 < 2)) ∧ r = some (.long (itr (lp_wt_st (crv p X r13 40) (crv p Y r14 40) 0 ch) 0 0 0)) ∧ w' = ([ob 8 [.int 0, .ref 1, .ref 4, .ref 7, .ref 10, .ref 11, .ref 12, .ref 18, .ref 25, .ref 29], x1, x2, x3, ob 2 [.ref 5, .ref 6], ia 56 r5, ia 4 r6, x7, x8, x9, ob 3 [.int (Bg r5 a1), .int (Ba r5 a1), .int (Bb r5 a1), .int (Bc r5 a1)], ob 5 [.long (g_4 0), .long (g_4 1), .long (g_4 2), .long (g_4 3), .long (g_4 4), .long (g_4 5), .long (g_4 6), .long (g_4 7), .long (g_4 8), .long (g_4 9), .long (g_4 10), .long (g_4 11), .long (g_4 12), .long (g_4 13), .long (g_4 14), .long (g_4 15)], ob 1 [.ref 13, .ref 14, .ref 15, .ref 16, .ref 17, .int (nI 0), .int 0, .int (nI 0), .int f12_8, .int f12_9], ia 40 (crv p X r13 40), ia 40 (crv p Y r14 40), ia 40 (crv p nI r15 40), ia 40 (nIf so), ia 81 (nIf ch), x18, x19, x20, x21, x22, x23, x24, x25, x26, x27, x28, x29, x30, x31, x32], wm)) ∨ ((¬ ((0 ≤ a1 ∧ a1 < r6 0) ∧ (0 ≤ a2 ∧ a2 < r6 1) ∧ (0 ≤ a3 ∧ a3 < 2))) ∧ r = some (.long (-1)) ∧ w' = ([ob 8 [.int 1, .ref 1, .ref 4, .ref 7, .ref 10, .ref 11, .ref 12, .ref 18, .ref 25, .ref 29], x1, x2, x3, ob 2 [.ref 5, .ref 6], ia 56 r5, ia 4 r6, x7, x8, x9, ob 3 [.int f10_0, .int f10_1, .int f10_2, .int f10_3], ob 5 [.long f11_0, .long f11_1, .long f11_2, .long f11_3, .long f11_4, .long f11_5, .long f11_6, .long f11_7, .long f11_8, .long f11_9, .long f11_10, .long f11_11, .long f11_12, .long f11_13, .long f11_14, .long f11_15], ob 1 [.ref 13, .ref 14, .ref 15, .ref 16, .ref 17, .int f12_5, .int f12_6, .int f12_7, .int f12_8, .int f12_9], ia 40 r13, ia 40 r14, ia 40 r15, ia 40 (nIf so), ia 81 (nIf ch), x18, x19, x20, x21, x22, x23, x24, x25, x26, x27, x28, x29, x30, x31, x32], wm))) := by
  refine ct_of ⟨by decide, rfl⟩ (Nat.le_of_ble_eq_true rfl) ?_
  refine ab_aload_n dX10_hullArea_0 rfl ?_
  refine ab_aload_n dX10_hullArea_1 rfl ?_
  refine ab_iload_n dX10_hullArea_2 rfl ?_
  refine ab_iload_n dX10_hullArea_3 rfl ?_
  refine ab_iload_n dX10_hullArea_4 rfl ?_
  refine ab_callV (As := [.int a1, .int a2, .int a3]) (rest := [.ref 0]) dX10_hullArea_5 mv_X10_hasCurve ml_X10_266 ⟨by decide, by decide, rfl, rfl, rfl⟩ (by decide) rfl rfl (Nat.le_of_ble_eq_true rfl) rfl c_X10_hasCurve ?_
  rintro r w' (⟨c_1, rfl, rfl⟩ | ⟨c_2, rfl, rfl⟩)
  · refine ab_iconst (v := 1) dX10_hullArea_8 (by decide) ?_
    refine ab_callV (As := [.int 1, .int 1]) (rest := []) dX10_hullArea_9 mv_X10_refused ml_X10_84 ⟨by decide, by decide, rfl, rfl, rfl⟩ (by decide) rfl rfl (Nat.le_of_ble_eq_true rfl) rfl c_X10_refused_1 ?_
    rintro r w' ⟨rfl, rfl⟩
    refine ab_ifeq 19 dX10_hullArea_12 (by decide) (fun h_3 => ?_) (fun h_3 => absurd (by decide) h_3)
    refine ab_aload_n dX10_hullArea_19 rfl ?_
    refine ab_iload_n dX10_hullArea_20 rfl ?_
    refine ab_iload_n dX10_hullArea_21 rfl ?_
    refine ab_iload_n dX10_hullArea_22 rfl ?_
    refine ab_callV (As := [.int a1, .int a2, .int a3]) (rest := []) dX10_hullArea_23 mv_X10_curveAt ml_X10_269 ⟨by decide, by decide, rfl, rfl, rfl⟩ (by decide) rfl rfl (Nat.le_of_ble_eq_true rfl) rfl (c_X10_curveAt_z (p := p) (X := X) (Y := Y) h_z c_1.1 h_c0 c_1.2.1 h_c1 h_p h_X h_Y (h_ok c_1)) ?_
    rintro r w' ⟨g_4, rfl, rfl⟩
    refine ab_callV (As := []) (rest := []) dX10_hullArea_26 mv_X1_wrap ml_X10_285 ⟨by decide, by decide, rfl, rfl, rfl⟩ (by decide) rfl rfl (Nat.le_of_ble_eq_true rfl) rfl c_X1_wrap_0 ?_
    rintro r w' ⟨rfl, rfl⟩
    refine ab_pop rfl dX10_hullArea_29 ?_
    refine ab_aload_n dX10_hullArea_30 rfl ?_
    refine ab_getf dX10_hullArea_31 fl_X10_47 rfl rfl ?_
    refine ab_callV (As := []) (rest := []) dX10_hullArea_34 mv_X1_wrappedTwice ml_X10_291 ⟨by decide, by decide, rfl, rfl, rfl⟩ (by decide) rfl rfl (Nat.le_of_ble_eq_true rfl) rfl (c_X1_wrappedTwice (K := 0) (ch := ch) (c := 0) (by decide) (fun j hj => absurd hj (Nat.not_lt_zero j))) ?_
    rintro r w' ⟨rfl, rfl⟩
    exact ab_lret dX10_hullArea_37 rfl (by decide) (Or.inl ⟨g_4, c_1, rfl, rfl⟩)
  · refine ab_iconst (v := 1) dX10_hullArea_8 (by decide) ?_
    refine ab_callV (As := [.int 0, .int 1]) (rest := []) dX10_hullArea_9 mv_X10_refused ml_X10_84 ⟨by decide, by decide, rfl, rfl, rfl⟩ (by decide) rfl rfl (Nat.le_of_ble_eq_true rfl) rfl c_X10_refused_0 ?_
    rintro r w' ⟨rfl, rfl⟩
    refine ab_ifeq 19 dX10_hullArea_12 (by decide) (fun h_5 => absurd h_5 (by decide)) (fun h_5 => ?_)
    refine ab_ldc2 dX10_hullArea_15 kl_X10_179 ?_
    exact ab_lret dX10_hullArea_18 rfl (by decide) (Or.inr (⟨c_2, rfl, rfl⟩))
