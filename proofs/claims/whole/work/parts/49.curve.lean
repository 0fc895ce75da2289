/-- a tracer's numbers and a point's, out of the class's desk -/
def Cm (q : Nat → Int32) (i : Int32) : Int32 := q (16 + Int32.toNatClampNeg i * 2 + 0)
def Cq (q : Nat → Int32) (i : Int32) : Int32 := q (16 + Int32.toNatClampNeg i * 2 + 1)
def Px (q : Nat → Int32) (i : Int32) : Int32 := q (24 + Int32.toNatClampNeg i * 2 + 0)
def Py (q : Nat → Int32) (i : Int32) : Int32 := q (24 + Int32.toNatClampNeg i * 2 + 1)
/-- a row into which f's values at p's places below k are put, one behind the other -/
def crv (p : Nat → Bool) (f r : Nat → Int32) : Nat → Nat → Int32
  | 0 => r
  | k + 1 => if p k = true then upd (crv p f r k) (Cn p k) (f k) else crv p f r k
theorem crv_t {p : Nat → Bool} (f r : Nat → Int32) {k : Nat} (h : p k = true) : crv p f r (k + 1) = upd (crv p f r k) (Cn p k) (f k) := by show (if _ then _ else _) = _; rw [if_pos h]
theorem crv_f {p : Nat → Bool} (f r : Nat → Int32) {k : Nat} (h : ¬ p k = true) : crv p f r (k + 1) = crv p f r k := by show (if _ then _ else _) = _; rw [if_neg h]
theorem cn_le (p : Nat → Bool) : ∀ k, Cn p k ≤ k
  | 0 => Nat.le_refl 0
  | k + 1 => by
    have := cn_le p k
    by_cases q : p k = true
    · rw [cn_t q]; omega
    · rw [cn_f q]; omega
theorem crv_un (p : Nat → Bool) (f r r' : Nat → Int32) : ∀ k j, j < Cn p k → crv p f r k j = crv p f r' k j
  | 0, j, h => absurd h (Nat.not_lt_zero j)
  | k + 1, j, h => by
    by_cases q : p k = true
    · rw [crv_t f r q, crv_t f r' q]
      rw [cn_t q] at h
      unfold upd
      by_cases e : j = Cn p k
      · rw [if_pos e, if_pos e]
      · rw [if_neg e, if_neg e]; exact crv_un p f r r' k j (by omega)
    · rw [crv_f f r q, crv_f f r' q]
      rw [cn_f q] at h
      exact crv_un p f r r' k j h
theorem crv_all {P : Int32 → Prop} (p : Nat → Bool) (f r : Nat → Int32) : ∀ k j, (∀ i, i < k → p i = true → P (f i)) → j < Cn p k → P (crv p f r k j)
  | 0, j, _, h => absurd h (Nat.not_lt_zero j)
  | k + 1, j, hp, h => by
    by_cases q : p k = true
    · rw [crv_t f r q]
      rw [cn_t q] at h
      unfold upd
      by_cases e : j = Cn p k
      · rw [if_pos e]; exact hp k (by omega) q
      · rw [if_neg e]; exact crv_all p f r k j (fun i hi => hp i (by omega)) (by omega)
    · rw [crv_f f r q]
      rw [cn_f q] at h
      exact crv_all p f r k j (fun i hi => hp i (by omega)) h
theorem crv_cong {p p' : Nat → Bool} {f f' : Nat → Int32} (r : Nat → Int32) : ∀ k, (∀ i, i < k → p i = p' i) → (∀ i, i < k → p i = true → f i = f' i) → Cn p k = Cn p' k ∧ crv p f r k = crv p' f' r k
  | 0, _, _ => ⟨rfl, rfl⟩
  | k + 1, hp, hf => by
    obtain ⟨h1, h2⟩ := crv_cong (f := f) (f' := f') r k (fun i hi => hp i (by omega)) (fun i hi => hf i (by omega))
    by_cases q : p k = true
    · have q' : p' k = true := by rw [← hp k (by omega)]; exact q
      rw [cn_t q, cn_t q', crv_t f r q, crv_t f' r q', h1, h2, hf k (by omega) q]
      exact ⟨rfl, rfl⟩
    · have q' : ¬ p' k = true := by rw [← hp k (by omega)]; exact q
      rw [cn_f q, cn_f q', crv_f f r q, crv_f f' r q', h1, h2]
      exact ⟨rfl, rfl⟩
set_option maxHeartbeats 400000 in
theorem lp_curveAt {f0_0 f12_6 f12_7 f12_8 f12_9 a1 a2 a3 : Int32} {x1 x2 x3 x7 x8 x9 x16 x17 x18 x19 x20 x21 x22 x23 x24 x25 x26 x27 x28 x29 x30 x31 x32 : ax_E} {r5 r6 r13 r14 r15 X Y : Nat → Int32} {wm : List ax_E} {p : Nat → Bool} {B : Nat} (hB : B = 40) (h_p : ∀ k, p k = true ↔ lawP r5 a1 k) (h_X : ∀ k, k < 40 → lawP r5 a1 k → X k = cX r5 a1 (Cm r5 a2) (Cq r5 a2) a3 k) (h_Y : ∀ k, k < 40 → lawP r5 a1 k → Y k = cY r5 a1 (Cm r5 a2) (Cq r5 a2) a3 k) (h_ok : ∀ k, k < 40 → lawP r5 a1 k → okS (cV0 r5 a1 (Cm r5 a2) (Cq r5 a2) a3 k) (pK r5 a1 k) ∧ okS (cV1 r5 a1 (Cm r5 a2) (Cq r5 a2) a3 k) (pK r5 a1 k) ∧ 0 < cW r5 a1 k) : ∀ (n k : Nat) (g : Nat → Int64), k + n = B →  Ab M_X10_curveAt (fun r w' => ∃ g : Nat → Int64, r = some (.ref 12) ∧ w' = ([ob 8 [.int f0_0, .ref 1, .ref 4, .ref 7, .ref 10, .ref 11, .ref 12, .ref 18, .ref 25, .ref 29], x1, x2, x3, ob 2 [.ref 5, .ref 6], ia 56 r5, ia 4 r6, x7, x8, x9, ob 3 [.int (Bg r5 a1), .int (Ba r5 a1), .int (Bb r5 a1), .int (Bc r5 a1)], ob 5 [.long (g 0), .long (g 1), .long (g 2), .long (g 3), .long (g 4), .long (g 5), .long (g 6), .long (g 7), .long (g 8), .long (g 9), .long (g 10), .long (g 11), .long (g 12), .long (g 13), .long (g 14), .long (g 15)], ob 1 [.ref 13, .ref 14, .ref 15, .ref 16, .ref 17, .int (nI (Cn p B)), .int f12_6, .int f12_7, .int f12_8, .int f12_9], ia 40 (crv p X r13 B), ia 40 (crv p Y r14 B), ia 40 (crv p nI r15 B), x16, x17, x18, x19, x20, x21, x22, x23, x24, x25, x26, x27, x28, x29, x30, x31, x32], wm)) (0, 0) 40 [(6, .int (nI k)), (5, .int (Cq r5 a2)), (4, .int (Cm r5 a2)), (3, .int a3), (2, .int a2), (1, .int a1), (0, .ref 0)] [] ([ob 8 [.int f0_0, .ref 1, .ref 4, .ref 7, .ref 10, .ref 11, .ref 12, .ref 18, .ref 25, .ref 29], x1, x2, x3, ob 2 [.ref 5, .ref 6], ia 56 r5, ia 4 r6, x7, x8, x9, ob 3 [.int (Bg r5 a1), .int (Ba r5 a1), .int (Bb r5 a1), .int (Bc r5 a1)], ob 5 [.long (g 0), .long (g 1), .long (g 2), .long (g 3), .long (g 4), .long (g 5), .long (g 6), .long (g 7), .long (g 8), .long (g 9), .long (g 10), .long (g 11), .long (g 12), .long (g 13), .long (g 14), .long (g 15)], ob 1 [.ref 13, .ref 14, .ref 15, .ref 16, .ref 17, .int (nI (Cn p k)), .int f12_6, .int f12_7, .int f12_8, .int f12_9], ia 40 (crv p X r13 k), ia 40 (crv p Y r14 k), ia 40 (crv p nI r15 k), x16, x17, x18, x19, x20, x21, x22, x23, x24, x25, x26, x27, x28, x29, x30, x31, x32], wm) := by
  intro n
  induction n with
  | zero =>
    intro k g hk 
    refine ab_iload dX10_curveAt_40 rfl ?_
    refine ab_bipush (v := 40) dX10_curveAt_42 (by decide) ?_
    refine ab_icmpge 111 dX10_curveAt_44 (by decide) (fun h_1 => ?_) (fun h_1 => absurd (nI_le (a := 40) (b := k) (by omega) (by omega)) h_1)
    refine ab_aload_n dX10_curveAt_111 rfl ?_
    refine ab_getf dX10_curveAt_112 fl_X10_47 rfl rfl ?_
    exact ab_aret dX10_curveAt_115 rfl (by decide) ⟨g, rfl, by rw [show k = B by omega]⟩
  | succ n ih =>
    intro k g hk 
    have hkk : 0 ≤ nI k ∧ nI k < 40 := ⟨nI_pos' (by omega), nI_lt (b := 40) (by omega) (by decide)⟩
    refine ab_iload dX10_curveAt_40 rfl ?_
    refine ab_bipush (v := 40) dX10_curveAt_42 (by decide) ?_
    refine ab_icmpge 111 dX10_curveAt_44 (by decide) (fun h_1 => absurd h_1 (nI_ge (a := k) (b := 40) (by omega) (by omega))) (fun h_1 => ?_)
    refine ab_aload_n dX10_curveAt_47 rfl ?_
    refine ab_getf dX10_curveAt_48 fl_X10_40 rfl rfl ?_
    refine ab_aload_n dX10_curveAt_51 rfl ?_
    refine ab_getf dX10_curveAt_52 fl_X10_33 rfl rfl ?_
    refine ab_iload dX10_curveAt_55 rfl ?_
    refine ab_callV (As := [.ref 10, .int (nI k)]) (rest := []) dX10_curveAt_57 mv_X5_set ml_X10_236 ⟨by decide, by decide, rfl, rfl, rfl⟩ (by decide) rfl rfl (Nat.le_of_ble_eq_true rfl) rfl (c_X5_set hkk) ?_
    rintro r w' ⟨rfl, rfl⟩
    refine ab_aload_n dX10_curveAt_60 rfl ?_
    refine ab_getf dX10_curveAt_61 fl_X10_40 rfl rfl ?_
    refine ab_callV (As := []) (rest := []) dX10_curveAt_64 mv_X5_isLawful ml_X10_203 ⟨by decide, by decide, rfl, rfl, rfl⟩ (by decide) rfl rfl (Nat.le_of_ble_eq_true rfl) rfl c_X5_isLawful ?_
    rintro r w' (⟨c_2, rfl, rfl⟩ | ⟨c_3, rfl, rfl⟩)
    · refine ab_ifeq 105 dX10_curveAt_67 (by decide) (fun h_4 => absurd h_4 (by decide)) (fun h_4 => ?_)
      refine ab_aload_n dX10_curveAt_70 rfl ?_
      refine ab_getf dX10_curveAt_71 fl_X10_40 rfl rfl ?_
      refine ab_iload dX10_curveAt_74 rfl ?_
      refine ab_iload dX10_curveAt_76 rfl ?_
      refine ab_iload_n dX10_curveAt_78 rfl ?_
      refine ab_callV (As := [.int (Cm r5 a2), .int (Cq r5 a2), .int a3]) (rest := []) dX10_curveAt_79 mv_X5_trace ml_X10_206 ⟨by decide, by decide, rfl, rfl, rfl⟩ (by decide) rfl rfl (Nat.le_of_ble_eq_true rfl) rfl c_X5_trace ?_
      rintro r w' ⟨rfl, rfl⟩
      refine ab_aload_n dX10_curveAt_82 rfl ?_
      refine ab_getf dX10_curveAt_83 fl_X10_47 rfl rfl ?_
      refine ab_aload_n dX10_curveAt_86 rfl ?_
      refine ab_getf dX10_curveAt_87 fl_X10_40 rfl rfl ?_
      refine ab_callV (As := []) (rest := [.ref 12]) dX10_curveAt_90 mv_X5_tenthsX ml_X10_210 ⟨by decide, by decide, rfl, rfl, rfl⟩ (by decide) rfl rfl (Nat.le_of_ble_eq_true rfl) rfl (c_X5_tenthsX ((h_ok k (by omega) c_2).1) ((h_ok k (by omega) c_2).2.2)) ?_
      rintro r w' ⟨rfl, rfl⟩
      refine ab_topi (v := (X k)) (h_X k (by omega) (by assumption)).symm ?_
      refine ab_aload_n dX10_curveAt_93 rfl ?_
      refine ab_getf dX10_curveAt_94 fl_X10_40 rfl rfl ?_
      refine ab_callV (As := []) (rest := [.int (X k), .ref 12]) dX10_curveAt_97 mv_X5_tenthsY ml_X10_213 ⟨by decide, by decide, rfl, rfl, rfl⟩ (by decide) rfl rfl (Nat.le_of_ble_eq_true rfl) rfl (c_X5_tenthsY ((h_ok k (by omega) c_2).2.1) ((h_ok k (by omega) c_2).2.2)) ?_
      rintro r w' ⟨rfl, rfl⟩
      refine ab_topi (v := (Y k)) (h_Y k (by omega) (by assumption)).symm ?_
      refine ab_iload dX10_curveAt_100 rfl ?_
      refine ab_callV (As := [.int (X k), .int (Y k), .int (nI k)]) (rest := []) dX10_curveAt_102 mv_X1_add ml_X10_395 ⟨by decide, by decide, rfl, rfl, rfl⟩ (by decide) rfl rfl (Nat.le_of_ble_eq_true rfl) rfl (c_X1_add (j := (Cn p k)) (ix_nI (by have := cn_le p k; omega) (by decide)) (nI_ge (b := 40) (by have := cn_le p k; omega) (by decide))) ?_
      rintro r w' ⟨rfl, rfl⟩
      refine ab_iinc (v := (nI (k + 1))) (la' := [(6, .int (nI (k + 1))), (5, .int (Cq r5 a2)), (4, .int (Cm r5 a2)), (3, .int a3), (2, .int a2), (1, .int a1), (0, .ref 0)]) dX10_curveAt_105 rfl (nI_1 _) (by decide) rfl ?_
      refine ab_goto 40 dX10_curveAt_108 (by decide) ?_
      refine ab_pick [0, 1, 2, 3, 4, 5, 6] rfl ?_
      have e0 : p k = true := (h_p k).mpr c_2
      have h9 := ih (k + 1) (fun i => [(Ps_n (nI k)), (Ps_d (nI k)), (Ps_s (Bg r5 a1) (Ba r5 a1) (nI k)), (Ps_k (Bg r5 a1) (Ba r5 a1) (Bb r5 a1) (Bc r5 a1) (nI k)), (Int32.toInt64 (Bg r5 a1)), (Int32.toInt64 (Ba r5 a1)), (Int32.toInt64 (Bb r5 a1)), (Int32.toInt64 (Bc r5 a1)), (Ps_c (nI k)), (Ps_e (Bg r5 a1) (Ba r5 a1) (Bb r5 a1) (Bc r5 a1) (nI k)), (Ps_x (Bg r5 a1) (Ba r5 a1) (nI k)), (Ps_y (Ba r5 a1) (nI k)), (Tr_ux (Ps_s (Bg r5 a1) (Ba r5 a1) (nI k)) (Int32.toInt64 (Ba r5 a1)) (Ps_c (nI k)) (Ps_e (Bg r5 a1) (Ba r5 a1) (Bb r5 a1) (Bc r5 a1) (nI k)) (Ps_x (Bg r5 a1) (Ba r5 a1) (nI k)) (Ps_y (Ba r5 a1) (nI k)) (Cm r5 a2) (Cq r5 a2)), (Tr_vx (Ps_x (Bg r5 a1) (Ba r5 a1) (nI k)) (Ps_y (Ba r5 a1) (nI k)) (Cm r5 a2) (Cq r5 a2) a3), (Tr_uy (Ps_d (nI k)) (Ps_s (Bg r5 a1) (Ba r5 a1) (nI k)) (Int32.toInt64 (Ba r5 a1)) (Ps_e (Bg r5 a1) (Ba r5 a1) (Bb r5 a1) (Bc r5 a1) (nI k)) (Ps_x (Bg r5 a1) (Ba r5 a1) (nI k)) (Ps_y (Ba r5 a1) (nI k)) (Cm r5 a2) (Cq r5 a2)), (Tr_vy (Ps_x (Bg r5 a1) (Ba r5 a1) (nI k)) (Ps_y (Ba r5 a1) (nI k)) (Cm r5 a2) (Cq r5 a2) a3)].getD i 0) (by omega)
      rw [crv_t X r13 e0, crv_t Y r14 e0, crv_t nI r15 e0, cn_t e0, ← nI_1 (Cn p k)] at h9
      exact h9
    · refine ab_ifeq 105 dX10_curveAt_67 (by decide) (fun h_5 => ?_) (fun h_5 => absurd (by decide) h_5)
      refine ab_iinc (v := (nI (k + 1))) (la' := [(6, .int (nI (k + 1))), (5, .int (Cq r5 a2)), (4, .int (Cm r5 a2)), (3, .int a3), (2, .int a2), (1, .int a1), (0, .ref 0)]) dX10_curveAt_105 rfl (nI_1 _) (by decide) rfl ?_
      refine ab_goto 40 dX10_curveAt_108 (by decide) ?_
      refine ab_pick [0, 1, 2, 3, 4, 5, 6] rfl ?_
      have e0 : ¬ p k = true := fun z => c_3 ((h_p k).mp z)
      have h9 := ih (k + 1) (fun i => [(Ps_n (nI k)), (Ps_d (nI k)), (Ps_s (Bg r5 a1) (Ba r5 a1) (nI k)), (Ps_k (Bg r5 a1) (Ba r5 a1) (Bb r5 a1) (Bc r5 a1) (nI k)), (Int32.toInt64 (Bg r5 a1)), (Int32.toInt64 (Ba r5 a1)), (Int32.toInt64 (Bb r5 a1)), (Int32.toInt64 (Bc r5 a1)), (Ps_c (nI k)), (Ps_e (Bg r5 a1) (Ba r5 a1) (Bb r5 a1) (Bc r5 a1) (nI k)), (Ps_x (Bg r5 a1) (Ba r5 a1) (nI k)), (Ps_y (Ba r5 a1) (nI k)), (g 12), (g 13), (g 14), (g 15)].getD i 0) (by omega)
      rw [crv_f X r13 e0, crv_f Y r14 e0, crv_f nI r15 e0, cn_f e0] at h9
      exact h9
theorem c_X10_curveAt {f0_0 f10_0 f10_1 f10_2 f10_3 f12_5 f12_6 f12_7 f12_8 f12_9 a1 a2 a3 : Int32} {x1 x2 x3 x7 x8 x9 x16 x17 x18 x19 x20 x21 x22 x23 x24 x25 x26 x27 x28 x29 x30 x31 x32 : ax_E} {r5 r6 r13 r14 r15 X Y : Nat → Int32} {f11_0 f11_1 f11_2 f11_3 f11_4 f11_5 f11_6 f11_7 f11_8 f11_9 f11_10 f11_11 f11_12 f11_13 f11_14 f11_15 : Int64} {wm : List ax_E} {p : Nat → Bool} (h_i : 0 ≤ a1 ∧ a1 < r6 0) (h_c : r6 0 ≤ nI 4) (h_i2 : 0 ≤ a2 ∧ a2 < r6 1) (h_c1 : r6 1 ≤ nI 4) (h_p : ∀ k, p k = true ↔ lawP r5 a1 k) (h_X : ∀ k, k < 40 → lawP r5 a1 k → X k = cX r5 a1 (Cm r5 a2) (Cq r5 a2) a3 k) (h_Y : ∀ k, k < 40 → lawP r5 a1 k → Y k = cY r5 a1 (Cm r5 a2) (Cq r5 a2) a3 k) (h_ok : ∀ k, k < 40 → lawP r5 a1 k → okS (cV0 r5 a1 (Cm r5 a2) (Cq r5 a2) a3 k) (pK r5 a1 k) ∧ okS (cV1 r5 a1 (Cm r5 a2) (Cq r5 a2) a3 k) (pK r5 a1 k) ∧ 0 < cW r5 a1 k) : Ct M_X10_curveAt [.ref 0, .int a1, .int a2, .int a3] ([ob 8 [.int f0_0, .ref 1, .ref 4, .ref 7, .ref 10, .ref 11, .ref 12, .ref 18, .ref 25, .ref 29], x1, x2, x3, ob 2 [.ref 5, .ref 6], ia 56 r5, ia 4 r6, x7, x8, x9, ob 3 [.int f10_0, .int f10_1, .int f10_2, .int f10_3], ob 5 [.long f11_0, .long f11_1, .long f11_2, .long f11_3, .long f11_4, .long f11_5, .long f11_6, .long f11_7, .long f11_8, .long f11_9, .long f11_10, .long f11_11, .long f11_12, .long f11_13, .long f11_14, .long f11_15], ob 1 [.ref 13, .ref 14, .ref 15, .ref 16, .ref 17, .int f12_5, .int f12_6, .int f12_7, .int f12_8, .int f12_9], ia 40 r13, ia 40 r14, ia 40 r15, x16, x17, x18, x19, x20, x21, x22, x23, x24, x25, x26, x27, x28, x29, x30, x31, x32], wm) (fun r w' => ∃ g : Nat → Int64, r = some (.ref 12) ∧ w' = ([ob 8 [.int f0_0, .ref 1, .ref 4, .ref 7, .ref 10, .ref 11, .ref 12, .ref 18, .ref 25, .ref 29], x1, x2, x3, ob 2 [.ref 5, .ref 6], ia 56 r5, ia 4 r6, x7, x8, x9, ob 3 [.int (Bg r5 a1), .int (Ba r5 a1), .int (Bb r5 a1), .int (Bc r5 a1)], ob 5 [.long (g 0), .long (g 1), .long (g 2), .long (g 3), .long (g 4), .long (g 5), .long (g 6), .long (g 7), .long (g 8), .long (g 9), .long (g 10), .long (g 11), .long (g 12), .long (g 13), .long (g 14), .long (g 15)], ob 1 [.ref 13, .ref 14, .ref 15, .ref 16, .ref 17, .int (nI (Cn p 40)), .int f12_6, .int f12_7, .int f12_8, .int f12_9], ia 40 (crv p X r13 40), ia 40 (crv p Y r14 40), ia 40 (crv p nI r15 40), x16, x17, x18, x19, x20, x21, x22, x23, x24, x25, x26, x27, x28, x29, x30, x31, x32], wm)) := by
  refine ct_of ⟨by decide, rfl⟩ (Nat.le_of_ble_eq_true rfl) ?_
  refine ab_aload_n dX10_curveAt_0 rfl ?_
  refine ab_iload_n dX10_curveAt_1 rfl ?_
  refine ab_callV (As := [.int a1]) (rest := []) dX10_curveAt_2 mv_X10_linkageAt ml_X10_140 ⟨by decide, by decide, rfl, rfl, rfl⟩ (by decide) rfl rfl (Nat.le_of_ble_eq_true rfl) rfl (c_X10_linkageAt h_i h_c) ?_
  rintro r w' ⟨rfl, rfl⟩
  refine ab_pop rfl dX10_curveAt_5 ?_
  refine ab_aload_n dX10_curveAt_6 rfl ?_
  refine ab_getf dX10_curveAt_7 fl_X10_23 rfl rfl ?_
  refine ab_iconst (v := 1) dX10_curveAt_10 (by decide) ?_
  refine ab_iload_n dX10_curveAt_11 rfl ?_
  refine ab_iconst (v := 0) dX10_curveAt_12 (by decide) ?_
  refine ab_callV (As := [.int 1, .int a2, .int 0]) (rest := []) dX10_curveAt_13 mv_X2_told ml_X10_136 ⟨by decide, by decide, rfl, rfl, rfl⟩ (by decide) rfl rfl (Nat.le_of_ble_eq_true rfl) rfl (c_X2_told_1 h_i2 h_c1 (by decide)) ?_
  rintro r w' ⟨rfl, rfl⟩
  refine ab_istore (la' := [(4, .int (Cm r5 a2)), (0, .ref 0), (1, .int a1), (2, .int a2), (3, .int a3)]) dX10_curveAt_16 (by decide) rfl ?_
  refine ab_aload_n dX10_curveAt_18 rfl ?_
  refine ab_getf dX10_curveAt_19 fl_X10_23 rfl rfl ?_
  refine ab_iconst (v := 1) dX10_curveAt_22 (by decide) ?_
  refine ab_iload_n dX10_curveAt_23 rfl ?_
  refine ab_iconst (v := 1) dX10_curveAt_24 (by decide) ?_
  refine ab_callV (As := [.int 1, .int a2, .int 1]) (rest := []) dX10_curveAt_25 mv_X2_told ml_X10_136 ⟨by decide, by decide, rfl, rfl, rfl⟩ (by decide) rfl rfl (Nat.le_of_ble_eq_true rfl) rfl (c_X2_told_1 h_i2 h_c1 (by decide)) ?_
  rintro r w' ⟨rfl, rfl⟩
  refine ab_istore (la' := [(5, .int (Cq r5 a2)), (4, .int (Cm r5 a2)), (0, .ref 0), (1, .int a1), (2, .int a2), (3, .int a3)]) dX10_curveAt_28 (by decide) rfl ?_
  refine ab_aload_n dX10_curveAt_30 rfl ?_
  refine ab_getf dX10_curveAt_31 fl_X10_47 rfl rfl ?_
  refine ab_callV (As := []) (rest := []) dX10_curveAt_34 mv_X1_empty ml_X10_392 ⟨by decide, by decide, rfl, rfl, rfl⟩ (by decide) rfl rfl (Nat.le_of_ble_eq_true rfl) rfl c_X1_empty ?_
  rintro r w' ⟨rfl, rfl⟩
  refine ab_iconst (v := 0) dX10_curveAt_37 (by decide) ?_
  refine ab_istore (la' := [(6, .int 0), (5, .int (Cq r5 a2)), (4, .int (Cm r5 a2)), (0, .ref 0), (1, .int a1), (2, .int a2), (3, .int a3)]) dX10_curveAt_38 (by decide) rfl ?_
  refine ab_pick [0, 1, 2, 6, 5, 4, 3] rfl ?_
  exact lp_curveAt (B := 40) rfl h_p h_X h_Y h_ok 40 0 (fun i => [f11_0, f11_1, f11_2, f11_3, f11_4, f11_5, f11_6, f11_7, f11_8, f11_9, f11_10, f11_11, f11_12, f11_13, f11_14, f11_15].getD i 0) (by omega)
abbrev mU0 (q t : Nat → Int32) (l i : Int32) (k : Nat) : Int64 := Mt_u0 (Ml_c (nI k)) (Ml_s q l (nI k)) (Ml_e q l (nI k)) (Ml_x q l (nI k)) (Ml_y q l (nI k)) (Int32.toInt64 (Ba q l)) t i
abbrev mV0 (q t : Nat → Int32) (l i b : Int32) (k : Nat) : Int64 := Mt_v0 (Ml_x q l (nI k)) (Ml_y q l (nI k)) t i b
abbrev mU1 (q t : Nat → Int32) (l i : Int32) (k : Nat) : Int64 := Mt_u1 (Ml_d (nI k)) (Ml_s q l (nI k)) (Ml_e q l (nI k)) (Ml_x q l (nI k)) (Ml_y q l (nI k)) (Int32.toInt64 (Ba q l)) t i
abbrev mV1 (q t : Nat → Int32) (l i b : Int32) (k : Nat) : Int64 := Mt_v1 (Ml_x q l (nI k)) (Ml_y q l (nI k)) t i b
abbrev mWd (q : Nat → Int32) (l : Int32) (k : Nat) : Int64 := 2 * Ml_s q l (nI k) * Ml_n (nI k)
abbrev lawM (q : Nat → Int32) (l : Int32) (k : Nat) : Prop := 0 < Ml_s q l (nI k) ∧ 0 ≤ Ml_k q l (nI k)
def mX (q t : Nat → Int32) (l i b : Int32) (k : Nat) : Int32 := Int64.toInt32 (FlM (mU0 q t l i k) (mV0 q t l i b k) (mWd q l k) (sqN (mV0 q t l i b k) (Ml_k q l (nI k))))
def mY (q t : Nat → Int32) (l i b : Int32) (k : Nat) : Int32 := Int64.toInt32 (FlM (mU1 q t l i k) (mV1 q t l i b k) (mWd q l k) (sqN (mV1 q t l i b k) (Ml_k q l (nI k))))
set_option maxHeartbeats 400000 in
theorem lp_traces {wc : List ax_E} {m_thrown m_trouble m_fault m_where m_taped m_linkMany m_tracerMany m_pointMany m_pairMany m_readLinks m_readTracers m_readPoints m_readPairs m_textLong m_at m_spot m_token m_whole m_readFault m_readPlace m_value m_cornerMany m_straightAt m_walkLink m_walkAngle m_walkBranch m_walkMany m_lined m_actMany a1 a2 a3 : Int32} {m_fitUp m_fitDown m_worstUp m_worstDown : Int64} {z3 z6 z7 z8 z9 z10 z11 z15 z16 z17 z18 z19 z20 : ax_E} {q4 q5 q12 q13 q14 X Y : Nat → Int32} {p : Nat → Bool} {B : Nat} (hB : B = 40) (h_i : 0 ≤ a1 ∧ a1 < m_linkMany) (h_l : 0 ≤ m_linkMany ∧ m_linkMany ≤ nI 4) (h_i2 : 0 ≤ a2 ∧ a2 < m_tracerMany) (h_t : 0 ≤ m_tracerMany ∧ m_tracerMany ≤ nI 4) (h_p : ∀ k, p k = true ↔ lawM q4 a1 k) (h_X : ∀ k, k < 40 → lawM q4 a1 k → X k = mX q4 q5 a1 a2 a3 k) (h_Y : ∀ k, k < 40 → lawM q4 a1 k → Y k = mY q4 q5 a1 a2 a3 k) (h_ok : ∀ k, k < 40 → lawM q4 a1 k → okS (mV0 q4 q5 a1 a2 a3 k) (Ml_k q4 a1 (nI k)) ∧ okS (mV1 q4 q5 a1 a2 a3 k) (Ml_k q4 a1 (nI k)) ∧ 0 < mWd q4 a1 k) : ∀ (n k : Nat) (gm : Nat → Int64), k + n = B →  Ab M_X11_traces (fun r w' => ∃ gm : Nat → Int64, r = none ∧ w' = (wc, [ob 9 [.int m_thrown, .int m_trouble, .int m_fault, .int m_where, .ref 1001, .ref 1002, .int 40, .ref 1003, .int m_taped, .int m_linkMany, .int m_tracerMany, .int m_pointMany, .int m_pairMany, .ref 1004, .ref 1005, .ref 1006, .ref 1007, .int m_readLinks, .int m_readTracers, .int m_readPoints, .int m_readPairs, .ref 1008, .ref 1009, .ref 1010, .ref 1011, .int m_textLong, .int m_at, .int m_spot, .int m_token, .int m_whole, .int m_readFault, .int m_readPlace, .int m_value, .long (gm 33), .long (gm 34), .long (gm 35), .long (gm 36), .long (gm 37), .long (gm 38), .long (gm 39), .long (gm 40), .long (gm 41), .long (gm 42), .ref 1012, .ref 1013, .ref 1014, .int (nI (Cn p B)), .ref 1015, .int m_cornerMany, .int m_straightAt, .ref 1016, .long m_fitUp, .long m_fitDown, .long m_worstUp, .long m_worstDown, .ref 1017, .int m_walkLink, .int m_walkAngle, .int m_walkBranch, .int m_walkMany, .ref 1018, .ref 1019, .int m_lined, .ref 1020, .int m_actMany], ia 64 (ax_tab 0), ia 64 (ax_tab 1), z3, ia 16 q4, ia 8 q5, z6, z7, z8, z9, z10, z11, ia 64 (crv p X q12 B), ia 64 (crv p Y q13 B), ia 64 (crv p nI q14 B), z15, z16, z17, z18, z19, z20])) (0, 0) 8 [(4, .int (nI k)), (3, .int a3), (2, .int a2), (1, .int a1), (0, .ref 1000)] [] (wc, [ob 9 [.int m_thrown, .int m_trouble, .int m_fault, .int m_where, .ref 1001, .ref 1002, .int 40, .ref 1003, .int m_taped, .int m_linkMany, .int m_tracerMany, .int m_pointMany, .int m_pairMany, .ref 1004, .ref 1005, .ref 1006, .ref 1007, .int m_readLinks, .int m_readTracers, .int m_readPoints, .int m_readPairs, .ref 1008, .ref 1009, .ref 1010, .ref 1011, .int m_textLong, .int m_at, .int m_spot, .int m_token, .int m_whole, .int m_readFault, .int m_readPlace, .int m_value, .long (gm 33), .long (gm 34), .long (gm 35), .long (gm 36), .long (gm 37), .long (gm 38), .long (gm 39), .long (gm 40), .long (gm 41), .long (gm 42), .ref 1012, .ref 1013, .ref 1014, .int (nI (Cn p k)), .ref 1015, .int m_cornerMany, .int m_straightAt, .ref 1016, .long m_fitUp, .long m_fitDown, .long m_worstUp, .long m_worstDown, .ref 1017, .int m_walkLink, .int m_walkAngle, .int m_walkBranch, .int m_walkMany, .ref 1018, .ref 1019, .int m_lined, .ref 1020, .int m_actMany], ia 64 (ax_tab 0), ia 64 (ax_tab 1), z3, ia 16 q4, ia 8 q5, z6, z7, z8, z9, z10, z11, ia 64 (crv p X q12 k), ia 64 (crv p Y q13 k), ia 64 (crv p nI q14 k), z15, z16, z17, z18, z19, z20]) := by
  intro n
  induction n with
  | zero =>
    intro k gm hk 
    refine ab_iload dX11_traces_8 rfl ?_
    refine ab_aload_n dX11_traces_10 rfl ?_
    refine ab_getf dX11_traces_11 fl_X11_101 rfl rfl ?_
    refine ab_icmpge 86 dX11_traces_14 (by decide) (fun h_1 => ?_) (fun h_1 => absurd (nI_le (a := 40) (b := k) (by omega) (by omega)) h_1)
    exact ab_vret dX11_traces_86 rfl (by decide) ⟨gm, rfl, by rw [show k = B by omega]⟩
  | succ n ih =>
    intro k gm hk 
    have hkk : 0 ≤ nI k ∧ nI k < 40 := ⟨nI_pos' (by omega), nI_lt (b := 40) (by omega) (by decide)⟩
    refine ab_iload dX11_traces_8 rfl ?_
    refine ab_aload_n dX11_traces_10 rfl ?_
    refine ab_getf dX11_traces_11 fl_X11_101 rfl rfl ?_
    refine ab_icmpge 86 dX11_traces_14 (by decide) (fun h_1 => absurd h_1 (nI_ge (a := k) (b := 40) (by omega) (by omega))) (fun h_1 => ?_)
    refine ab_aload_n dX11_traces_17 rfl ?_
    refine ab_iload_n dX11_traces_18 rfl ?_
    refine ab_iload dX11_traces_19 rfl ?_
    refine ab_callV (As := [.int a1, .int (nI k)]) (rest := []) dX11_traces_21 mv_X11_isLawful ml_X11_318 ⟨by decide, by decide, rfl, rfl, rfl⟩ (by decide) rfl rfl (Nat.le_of_ble_eq_true rfl) rfl (c_X11_isLawful h_i h_l hkk) ?_
    rintro r w' (⟨c_2, rfl, rfl⟩ | ⟨c_3, rfl, rfl⟩)
    · refine ab_ifeq 80 dX11_traces_24 (by decide) (fun h_4 => absurd h_4 (by decide)) (fun h_4 => ?_)
      refine ab_aload_n dX11_traces_27 rfl ?_
      refine ab_getf dX11_traces_28 fl_X11_66 rfl rfl ?_
      refine ab_aload_n dX11_traces_31 rfl ?_
      refine ab_getf dX11_traces_32 fl_X11_424 rfl rfl ?_
      refine ab_aload_n dX11_traces_35 rfl ?_
      refine ab_iload_n dX11_traces_36 rfl ?_
      refine ab_iload_n dX11_traces_37 rfl ?_
      refine ab_iconst (v := 0) dX11_traces_38 (by decide) ?_
      refine ab_callV (As := [.int a2, .int a3, .int 0]) (rest := [.int (nI (Cn p k)), .ref 1012]) dX11_traces_39 mv_X11_tracedAt ml_X11_420 ⟨by decide, by decide, rfl, rfl, rfl⟩ (by decide) rfl rfl (Nat.le_of_ble_eq_true rfl) rfl (c_X11_tracedAt_0 h_i2 h_t ((h_ok k (by omega) c_2).1) ((h_ok k (by omega) c_2).2.2)) ?_
      rintro r w' ⟨rfl, rfl⟩
      refine ab_topi (v := (X k)) (h_X k (by omega) (by assumption)).symm ?_
      refine ab_iast (w1 := (wc, [ob 9 [.int m_thrown, .int m_trouble, .int m_fault, .int m_where, .ref 1001, .ref 1002, .int 40, .ref 1003, .int m_taped, .int m_linkMany, .int m_tracerMany, .int m_pointMany, .int m_pairMany, .ref 1004, .ref 1005, .ref 1006, .ref 1007, .int m_readLinks, .int m_readTracers, .int m_readPoints, .int m_readPairs, .ref 1008, .ref 1009, .ref 1010, .ref 1011, .int m_textLong, .int m_at, .int m_spot, .int m_token, .int m_whole, .int m_readFault, .int m_readPlace, .int m_value, .long (Ml_n (nI k)), .long (Ml_c (nI k)), .long (Ml_d (nI k)), .long (Ml_s q4 a1 (nI k)), .long (Ml_e q4 a1 (nI k)), .long (Ml_k q4 a1 (nI k)), .long (Ml_x q4 a1 (nI k)), .long (Ml_y q4 a1 (nI k)), .long (Int32.toInt64 (Bg q4 a1)), .long (Int32.toInt64 (Ba q4 a1)), .ref 1012, .ref 1013, .ref 1014, .int (nI (Cn p k)), .ref 1015, .int m_cornerMany, .int m_straightAt, .ref 1016, .long m_fitUp, .long m_fitDown, .long m_worstUp, .long m_worstDown, .ref 1017, .int m_walkLink, .int m_walkAngle, .int m_walkBranch, .int m_walkMany, .ref 1018, .ref 1019, .int m_lined, .ref 1020, .int m_actMany], ia 64 (ax_tab 0), ia 64 (ax_tab 1), z3, ia 16 q4, ia 8 q5, z6, z7, z8, z9, z10, z11, ia 64 (upd (crv p X q12 k) (Cn p k) (X k)), ia 64 (crv p Y q13 k), ia 64 (crv p nI q14 k), z15, z16, z17, z18, z19, z20])) dX11_traces_42 rfl (ix_nI (by have := cn_le p k; omega) (by decide)) rfl ?_
      refine ab_aload_n dX11_traces_43 rfl ?_
      refine ab_getf dX11_traces_44 fl_X11_69 rfl rfl ?_
      refine ab_aload_n dX11_traces_47 rfl ?_
      refine ab_getf dX11_traces_48 fl_X11_424 rfl rfl ?_
      refine ab_aload_n dX11_traces_51 rfl ?_
      refine ab_iload_n dX11_traces_52 rfl ?_
      refine ab_iload_n dX11_traces_53 rfl ?_
      refine ab_iconst (v := 1) dX11_traces_54 (by decide) ?_
      refine ab_callV (As := [.int a2, .int a3, .int 1]) (rest := [.int (nI (Cn p k)), .ref 1013]) dX11_traces_55 mv_X11_tracedAt ml_X11_420 ⟨by decide, by decide, rfl, rfl, rfl⟩ (by decide) rfl rfl (Nat.le_of_ble_eq_true rfl) rfl (c_X11_tracedAt_1 h_i2 h_t ((h_ok k (by omega) c_2).2.1) ((h_ok k (by omega) c_2).2.2)) ?_
      rintro r w' ⟨rfl, rfl⟩
      refine ab_topi (v := (Y k)) (h_Y k (by omega) (by assumption)).symm ?_
      refine ab_iast (w1 := (wc, [ob 9 [.int m_thrown, .int m_trouble, .int m_fault, .int m_where, .ref 1001, .ref 1002, .int 40, .ref 1003, .int m_taped, .int m_linkMany, .int m_tracerMany, .int m_pointMany, .int m_pairMany, .ref 1004, .ref 1005, .ref 1006, .ref 1007, .int m_readLinks, .int m_readTracers, .int m_readPoints, .int m_readPairs, .ref 1008, .ref 1009, .ref 1010, .ref 1011, .int m_textLong, .int m_at, .int m_spot, .int m_token, .int m_whole, .int m_readFault, .int m_readPlace, .int m_value, .long (Ml_n (nI k)), .long (Ml_c (nI k)), .long (Ml_d (nI k)), .long (Ml_s q4 a1 (nI k)), .long (Ml_e q4 a1 (nI k)), .long (Ml_k q4 a1 (nI k)), .long (Ml_x q4 a1 (nI k)), .long (Ml_y q4 a1 (nI k)), .long (Int32.toInt64 (Bg q4 a1)), .long (Int32.toInt64 (Ba q4 a1)), .ref 1012, .ref 1013, .ref 1014, .int (nI (Cn p k)), .ref 1015, .int m_cornerMany, .int m_straightAt, .ref 1016, .long m_fitUp, .long m_fitDown, .long m_worstUp, .long m_worstDown, .ref 1017, .int m_walkLink, .int m_walkAngle, .int m_walkBranch, .int m_walkMany, .ref 1018, .ref 1019, .int m_lined, .ref 1020, .int m_actMany], ia 64 (ax_tab 0), ia 64 (ax_tab 1), z3, ia 16 q4, ia 8 q5, z6, z7, z8, z9, z10, z11, ia 64 (upd (crv p X q12 k) (Cn p k) (X k)), ia 64 (upd (crv p Y q13 k) (Cn p k) (Y k)), ia 64 (crv p nI q14 k), z15, z16, z17, z18, z19, z20])) dX11_traces_58 rfl (ix_nI (by have := cn_le p k; omega) (by decide)) rfl ?_
      refine ab_aload_n dX11_traces_59 rfl ?_
      refine ab_getf dX11_traces_60 fl_X11_72 rfl rfl ?_
      refine ab_aload_n dX11_traces_63 rfl ?_
      refine ab_getf dX11_traces_64 fl_X11_424 rfl rfl ?_
      refine ab_iload dX11_traces_67 rfl ?_
      refine ab_iast (w1 := (wc, [ob 9 [.int m_thrown, .int m_trouble, .int m_fault, .int m_where, .ref 1001, .ref 1002, .int 40, .ref 1003, .int m_taped, .int m_linkMany, .int m_tracerMany, .int m_pointMany, .int m_pairMany, .ref 1004, .ref 1005, .ref 1006, .ref 1007, .int m_readLinks, .int m_readTracers, .int m_readPoints, .int m_readPairs, .ref 1008, .ref 1009, .ref 1010, .ref 1011, .int m_textLong, .int m_at, .int m_spot, .int m_token, .int m_whole, .int m_readFault, .int m_readPlace, .int m_value, .long (Ml_n (nI k)), .long (Ml_c (nI k)), .long (Ml_d (nI k)), .long (Ml_s q4 a1 (nI k)), .long (Ml_e q4 a1 (nI k)), .long (Ml_k q4 a1 (nI k)), .long (Ml_x q4 a1 (nI k)), .long (Ml_y q4 a1 (nI k)), .long (Int32.toInt64 (Bg q4 a1)), .long (Int32.toInt64 (Ba q4 a1)), .ref 1012, .ref 1013, .ref 1014, .int (nI (Cn p k)), .ref 1015, .int m_cornerMany, .int m_straightAt, .ref 1016, .long m_fitUp, .long m_fitDown, .long m_worstUp, .long m_worstDown, .ref 1017, .int m_walkLink, .int m_walkAngle, .int m_walkBranch, .int m_walkMany, .ref 1018, .ref 1019, .int m_lined, .ref 1020, .int m_actMany], ia 64 (ax_tab 0), ia 64 (ax_tab 1), z3, ia 16 q4, ia 8 q5, z6, z7, z8, z9, z10, z11, ia 64 (upd (crv p X q12 k) (Cn p k) (X k)), ia 64 (upd (crv p Y q13 k) (Cn p k) (Y k)), ia 64 (upd (crv p nI q14 k) (Cn p k) (nI k)), z15, z16, z17, z18, z19, z20])) dX11_traces_69 rfl (ix_nI (by have := cn_le p k; omega) (by decide)) rfl ?_
      refine ab_aload_n dX11_traces_70 rfl ?_
      refine ab_dup rfl dX11_traces_71 ?_
      refine ab_getf dX11_traces_72 fl_X11_424 rfl rfl ?_
      refine ab_iconst (v := 1) dX11_traces_75 (by decide) ?_
      refine ab_iadd dX11_traces_76 ?_
      refine ab_topi (v := (nI ((Cn p k) + 1))) (nI_1 _) ?_
      refine ab_putf (w1 := (wc, [ob 9 [.int m_thrown, .int m_trouble, .int m_fault, .int m_where, .ref 1001, .ref 1002, .int 40, .ref 1003, .int m_taped, .int m_linkMany, .int m_tracerMany, .int m_pointMany, .int m_pairMany, .ref 1004, .ref 1005, .ref 1006, .ref 1007, .int m_readLinks, .int m_readTracers, .int m_readPoints, .int m_readPairs, .ref 1008, .ref 1009, .ref 1010, .ref 1011, .int m_textLong, .int m_at, .int m_spot, .int m_token, .int m_whole, .int m_readFault, .int m_readPlace, .int m_value, .long (Ml_n (nI k)), .long (Ml_c (nI k)), .long (Ml_d (nI k)), .long (Ml_s q4 a1 (nI k)), .long (Ml_e q4 a1 (nI k)), .long (Ml_k q4 a1 (nI k)), .long (Ml_x q4 a1 (nI k)), .long (Ml_y q4 a1 (nI k)), .long (Int32.toInt64 (Bg q4 a1)), .long (Int32.toInt64 (Ba q4 a1)), .ref 1012, .ref 1013, .ref 1014, .int (nI ((Cn p k) + 1)), .ref 1015, .int m_cornerMany, .int m_straightAt, .ref 1016, .long m_fitUp, .long m_fitDown, .long m_worstUp, .long m_worstDown, .ref 1017, .int m_walkLink, .int m_walkAngle, .int m_walkBranch, .int m_walkMany, .ref 1018, .ref 1019, .int m_lined, .ref 1020, .int m_actMany], ia 64 (ax_tab 0), ia 64 (ax_tab 1), z3, ia 16 q4, ia 8 q5, z6, z7, z8, z9, z10, z11, ia 64 (upd (crv p X q12 k) (Cn p k) (X k)), ia 64 (upd (crv p Y q13 k) (Cn p k) (Y k)), ia 64 (upd (crv p nI q14 k) (Cn p k) (nI k)), z15, z16, z17, z18, z19, z20])) dX11_traces_77 fl_X11_424 rfl (Nat.le_of_ble_eq_true rfl) (fun _ => ⟨rfl, rfl⟩) rfl ?_
      refine ab_iinc (v := (nI (k + 1))) (la' := [(4, .int (nI (k + 1))), (3, .int a3), (2, .int a2), (1, .int a1), (0, .ref 1000)]) dX11_traces_80 rfl (nI_1 _) (by decide) rfl ?_
      refine ab_goto 8 dX11_traces_83 (by decide) ?_
      refine ab_pick [0, 1, 2, 3, 4] rfl ?_
      have e0 : p k = true := (h_p k).mpr c_2
      have h9 := ih (k + 1) (fun i => [(Ml_n (nI k)), (Ml_c (nI k)), (Ml_d (nI k)), (Ml_s q4 a1 (nI k)), (Ml_e q4 a1 (nI k)), (Ml_k q4 a1 (nI k)), (Ml_x q4 a1 (nI k)), (Ml_y q4 a1 (nI k)), (Int32.toInt64 (Bg q4 a1)), (Int32.toInt64 (Ba q4 a1))].getD (i - 33) 0) (by omega)
      rw [crv_t X q12 e0, crv_t Y q13 e0, crv_t nI q14 e0, cn_t e0] at h9
      exact h9
    · refine ab_ifeq 80 dX11_traces_24 (by decide) (fun h_5 => ?_) (fun h_5 => absurd (by decide) h_5)
      refine ab_iinc (v := (nI (k + 1))) (la' := [(4, .int (nI (k + 1))), (3, .int a3), (2, .int a2), (1, .int a1), (0, .ref 1000)]) dX11_traces_80 rfl (nI_1 _) (by decide) rfl ?_
      refine ab_goto 8 dX11_traces_83 (by decide) ?_
      refine ab_pick [0, 1, 2, 3, 4] rfl ?_
      have e0 : ¬ p k = true := fun z => c_3 ((h_p k).mp z)
      have h9 := ih (k + 1) (fun i => [(Ml_n (nI k)), (Ml_c (nI k)), (Ml_d (nI k)), (Ml_s q4 a1 (nI k)), (Ml_e q4 a1 (nI k)), (Ml_k q4 a1 (nI k)), (Ml_x q4 a1 (nI k)), (Ml_y q4 a1 (nI k)), (Int32.toInt64 (Bg q4 a1)), (Int32.toInt64 (Ba q4 a1))].getD (i - 33) 0) (by omega)
      rw [crv_f X q12 e0, crv_f Y q13 e0, crv_f nI q14 e0, cn_f e0] at h9
      exact h9
theorem c_X11_traces {wc : List ax_E} {m_thrown m_trouble m_fault m_where m_taped m_linkMany m_tracerMany m_pointMany m_pairMany m_readLinks m_readTracers m_readPoints m_readPairs m_textLong m_at m_spot m_token m_whole m_readFault m_readPlace m_value m_curveMany m_cornerMany m_straightAt m_walkLink m_walkAngle m_walkBranch m_walkMany m_lined m_actMany a1 a2 a3 : Int32} {m_n m_c m_d m_s m_e m_k m_x m_y m_g m_a m_fitUp m_fitDown m_worstUp m_worstDown : Int64} {z3 z6 z7 z8 z9 z10 z11 z15 z16 z17 z18 z19 z20 : ax_E} {q4 q5 q12 q13 q14 X Y : Nat → Int32} {p : Nat → Bool} (h_i : 0 ≤ a1 ∧ a1 < m_linkMany) (h_l : 0 ≤ m_linkMany ∧ m_linkMany ≤ nI 4) (h_i2 : 0 ≤ a2 ∧ a2 < m_tracerMany) (h_t : 0 ≤ m_tracerMany ∧ m_tracerMany ≤ nI 4) (h_p : ∀ k, p k = true ↔ lawM q4 a1 k) (h_X : ∀ k, k < 40 → lawM q4 a1 k → X k = mX q4 q5 a1 a2 a3 k) (h_Y : ∀ k, k < 40 → lawM q4 a1 k → Y k = mY q4 q5 a1 a2 a3 k) (h_ok : ∀ k, k < 40 → lawM q4 a1 k → okS (mV0 q4 q5 a1 a2 a3 k) (Ml_k q4 a1 (nI k)) ∧ okS (mV1 q4 q5 a1 a2 a3 k) (Ml_k q4 a1 (nI k)) ∧ 0 < mWd q4 a1 k) : Ct M_X11_traces [.ref 1000, .int a1, .int a2, .int a3] (wc, [ob 9 [.int m_thrown, .int m_trouble, .int m_fault, .int m_where, .ref 1001, .ref 1002, .int 40, .ref 1003, .int m_taped, .int m_linkMany, .int m_tracerMany, .int m_pointMany, .int m_pairMany, .ref 1004, .ref 1005, .ref 1006, .ref 1007, .int m_readLinks, .int m_readTracers, .int m_readPoints, .int m_readPairs, .ref 1008, .ref 1009, .ref 1010, .ref 1011, .int m_textLong, .int m_at, .int m_spot, .int m_token, .int m_whole, .int m_readFault, .int m_readPlace, .int m_value, .long m_n, .long m_c, .long m_d, .long m_s, .long m_e, .long m_k, .long m_x, .long m_y, .long m_g, .long m_a, .ref 1012, .ref 1013, .ref 1014, .int m_curveMany, .ref 1015, .int m_cornerMany, .int m_straightAt, .ref 1016, .long m_fitUp, .long m_fitDown, .long m_worstUp, .long m_worstDown, .ref 1017, .int m_walkLink, .int m_walkAngle, .int m_walkBranch, .int m_walkMany, .ref 1018, .ref 1019, .int m_lined, .ref 1020, .int m_actMany], ia 64 (ax_tab 0), ia 64 (ax_tab 1), z3, ia 16 q4, ia 8 q5, z6, z7, z8, z9, z10, z11, ia 64 q12, ia 64 q13, ia 64 q14, z15, z16, z17, z18, z19, z20]) (fun r w' => ∃ gm : Nat → Int64, r = none ∧ w' = (wc, [ob 9 [.int m_thrown, .int m_trouble, .int m_fault, .int m_where, .ref 1001, .ref 1002, .int 40, .ref 1003, .int m_taped, .int m_linkMany, .int m_tracerMany, .int m_pointMany, .int m_pairMany, .ref 1004, .ref 1005, .ref 1006, .ref 1007, .int m_readLinks, .int m_readTracers, .int m_readPoints, .int m_readPairs, .ref 1008, .ref 1009, .ref 1010, .ref 1011, .int m_textLong, .int m_at, .int m_spot, .int m_token, .int m_whole, .int m_readFault, .int m_readPlace, .int m_value, .long (gm 33), .long (gm 34), .long (gm 35), .long (gm 36), .long (gm 37), .long (gm 38), .long (gm 39), .long (gm 40), .long (gm 41), .long (gm 42), .ref 1012, .ref 1013, .ref 1014, .int (nI (Cn p 40)), .ref 1015, .int m_cornerMany, .int m_straightAt, .ref 1016, .long m_fitUp, .long m_fitDown, .long m_worstUp, .long m_worstDown, .ref 1017, .int m_walkLink, .int m_walkAngle, .int m_walkBranch, .int m_walkMany, .ref 1018, .ref 1019, .int m_lined, .ref 1020, .int m_actMany], ia 64 (ax_tab 0), ia 64 (ax_tab 1), z3, ia 16 q4, ia 8 q5, z6, z7, z8, z9, z10, z11, ia 64 (crv p X q12 40), ia 64 (crv p Y q13 40), ia 64 (crv p nI q14 40), z15, z16, z17, z18, z19, z20])) := by
  refine ct_of ⟨by decide, rfl⟩ (Nat.le_of_ble_eq_true rfl) ?_
  refine ab_aload_n dX11_traces_0 rfl ?_
  refine ab_iconst (v := 0) dX11_traces_1 (by decide) ?_
  refine ab_putf (w1 := (wc, [ob 9 [.int m_thrown, .int m_trouble, .int m_fault, .int m_where, .ref 1001, .ref 1002, .int 40, .ref 1003, .int m_taped, .int m_linkMany, .int m_tracerMany, .int m_pointMany, .int m_pairMany, .ref 1004, .ref 1005, .ref 1006, .ref 1007, .int m_readLinks, .int m_readTracers, .int m_readPoints, .int m_readPairs, .ref 1008, .ref 1009, .ref 1010, .ref 1011, .int m_textLong, .int m_at, .int m_spot, .int m_token, .int m_whole, .int m_readFault, .int m_readPlace, .int m_value, .long m_n, .long m_c, .long m_d, .long m_s, .long m_e, .long m_k, .long m_x, .long m_y, .long m_g, .long m_a, .ref 1012, .ref 1013, .ref 1014, .int 0, .ref 1015, .int m_cornerMany, .int m_straightAt, .ref 1016, .long m_fitUp, .long m_fitDown, .long m_worstUp, .long m_worstDown, .ref 1017, .int m_walkLink, .int m_walkAngle, .int m_walkBranch, .int m_walkMany, .ref 1018, .ref 1019, .int m_lined, .ref 1020, .int m_actMany], ia 64 (ax_tab 0), ia 64 (ax_tab 1), z3, ia 16 q4, ia 8 q5, z6, z7, z8, z9, z10, z11, ia 64 q12, ia 64 q13, ia 64 q14, z15, z16, z17, z18, z19, z20])) dX11_traces_2 fl_X11_424 rfl (Nat.le_of_ble_eq_true rfl) (fun _ => ⟨rfl, rfl⟩) rfl ?_
  refine ab_iconst (v := 0) dX11_traces_5 (by decide) ?_
  refine ab_istore (la' := [(4, .int 0), (0, .ref 1000), (1, .int a1), (2, .int a2), (3, .int a3)]) dX11_traces_6 (by decide) rfl ?_
  refine ab_pick [0, 4, 3, 2, 1] rfl ?_
  exact lp_traces (B := 40) rfl h_i h_l h_i2 h_t h_p h_X h_Y h_ok 40 0 (fun i => [m_n, m_c, m_d, m_s, m_e, m_k, m_x, m_y, m_g, m_a].getD (i - 33) 0) (by omega)
