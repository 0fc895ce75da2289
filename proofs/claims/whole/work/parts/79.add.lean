theorem cpy_put4 {r g : Nat → Int32} {k : Nat} {a b c d : Int32} : va_cpy (upd (upd (upd (upd r 0 a) 1 b) 2 c) 3 d) g 0 k 4 = put4 g k a b c d := by
  funext i
  unfold va_cpy put4 upd
  by_cases h : k ≤ i ∧ i < k + 4
  · obtain ⟨h1, h2⟩ := h
    obtain e | e | e | e : i = k ∨ i = k + 1 ∨ i = k + 2 ∨ i = k + 3 := by omega
    all_goals (subst e; simp)
  · have e0 : ¬ i = k := by omega
    have e1 : ¬ i = k + 1 := by omega
    have e2 : ¬ i = k + 2 := by omega
    have e3 : ¬ i = k + 3 := by omega
    simp [h, e0, e1, e2, e3]
theorem cpy_put2 {r g : Nat → Int32} {k : Nat} {a b : Int32} : va_cpy (upd (upd r 0 a) 1 b) g 0 k 2 = put2 g k a b := by
  funext i
  unfold va_cpy put2 upd
  by_cases h : k ≤ i ∧ i < k + 2
  · obtain ⟨h1, h2⟩ := h
    obtain e | e : i = k ∨ i = k + 1 := by omega
    all_goals (subst e; simp)
  · have e0 : ¬ i = k := by omega
    have e1 : ¬ i = k + 1 := by omega
    simp [h, e0, e1]
theorem put4_eq {r m : Nat → Int32} {k x : Nat} {a b c d : Int32} (h : r x = m x ∨ (k ≤ x ∧ x < k + 4)) : put4 r k a b c d x = put4 m k a b c d x := by
  unfold put4 upd
  by_cases e0 : x = k + 3
  · simp [e0]
  by_cases e1 : x = k + 2
  · simp [e1]
  by_cases e2 : x = k + 1
  · simp [e2]
  by_cases e3 : x = k
  · simp [e3]
  rcases h with h | h
  · simp [e0, e1, e2, e3, h]
  · omega
theorem put2_eq {r m : Nat → Int32} {k x : Nat} {a b : Int32} (h : r x = m x ∨ (k ≤ x ∧ x < k + 2)) : put2 r k a b x = put2 m k a b x := by
  unfold put2 upd
  by_cases e2 : x = k + 1
  · simp [e2]
  by_cases e3 : x = k
  · simp [e3]
  rcases h with h | h
  · simp [e2, e3, h]
  · omega
/-- a row of numbers agrees with another, as far as is counted -/
def Ag (c : Nat → Nat) (m r : Nat → Int32) : Prop := (∀ i j, i < c 0 → j < 4 → r (0 + i * 4 + j) = m (0 + i * 4 + j)) ∧ (∀ i j, i < c 1 → j < 2 → r (16 + i * 2 + j) = m (16 + i * 2 + j)) ∧ (∀ i j, i < c 2 → j < 2 → r (24 + i * 2 + j) = m (24 + i * 2 + j)) ∧ (∀ i j, i < c 3 → j < 4 → r (40 + i * 4 + j) = m (40 + i * 4 + j))
def Bcn (c : Nat → Nat) : Prop := c 0 ≤ 4 ∧ c 1 ≤ 4 ∧ c 2 ≤ 8 ∧ c 3 ≤ 4
theorem updN_at {f : Nat → Nat} {k x : Nat} : updN f k x k = x := by unfold updN; rw [if_pos rfl]
theorem updN_ne {f : Nat → Nat} {k x j : Nat} (h : ¬ j = k) : updN f k x j = f j := by unfold updN; rw [if_neg h]
theorem Ag_0 (m r : Nat → Int32) : Ag (fun _ => 0) m r := ⟨fun i j h => absurd h (Nat.not_lt_zero i), fun i j h => absurd h (Nat.not_lt_zero i), fun i j h => absurd h (Nat.not_lt_zero i), fun i j h => absurd h (Nat.not_lt_zero i)⟩
theorem Ag_put4_0 {q : Nat → Nat} {m r : Nat → Int32} {a b c d : Int32} (h : Ag q m r) : Ag (updN q 0 (q 0 + 1)) (put4 m (0 + q 0 * 4) a b c d) (put4 r (0 + q 0 * 4) a b c d) :=
  ⟨fun i j hi hj => by
    rw [updN_at] at hi
    refine put4_eq ?_
    by_cases e : i = q 0
    · exact Or.inr (by subst e; omega)
    · exact Or.inl (h.1 i j (by omega) hj), fun i j hi hj => put4_eq (Or.inl (h.2.1 i j (by rw [updN_ne (by decide)] at hi; exact hi) hj)), fun i j hi hj => put4_eq (Or.inl (h.2.2.1 i j (by rw [updN_ne (by decide)] at hi; exact hi) hj)), fun i j hi hj => put4_eq (Or.inl (h.2.2.2 i j (by rw [updN_ne (by decide)] at hi; exact hi) hj))⟩
theorem Bc_0 {q : Nat → Nat} (h : Bcn q) (hs : ¬ 4 ≤ q 0) : Bcn (updN q 0 (q 0 + 1)) := by
  obtain ⟨h0, h1, h2, h3⟩ := h
  unfold Bcn
  rw [updN_at, updN_ne (j := 1) (k := 0) (by decide), updN_ne (j := 2) (k := 0) (by decide), updN_ne (j := 3) (k := 0) (by decide)]
  omega
theorem Ag_put2_1 {q : Nat → Nat} {m r : Nat → Int32} {a b : Int32} (h : Ag q m r) : Ag (updN q 1 (q 1 + 1)) (put2 m (16 + q 1 * 2) a b) (put2 r (16 + q 1 * 2) a b) :=
  ⟨fun i j hi hj => put2_eq (Or.inl (h.1 i j (by rw [updN_ne (by decide)] at hi; exact hi) hj)), fun i j hi hj => by
    rw [updN_at] at hi
    refine put2_eq ?_
    by_cases e : i = q 1
    · exact Or.inr (by subst e; omega)
    · exact Or.inl (h.2.1 i j (by omega) hj), fun i j hi hj => put2_eq (Or.inl (h.2.2.1 i j (by rw [updN_ne (by decide)] at hi; exact hi) hj)), fun i j hi hj => put2_eq (Or.inl (h.2.2.2 i j (by rw [updN_ne (by decide)] at hi; exact hi) hj))⟩
theorem Bc_1 {q : Nat → Nat} (h : Bcn q) (hs : ¬ 4 ≤ q 1) : Bcn (updN q 1 (q 1 + 1)) := by
  obtain ⟨h0, h1, h2, h3⟩ := h
  unfold Bcn
  rw [updN_ne (j := 0) (k := 1) (by decide), updN_at, updN_ne (j := 2) (k := 1) (by decide), updN_ne (j := 3) (k := 1) (by decide)]
  omega
theorem Ag_put2_2 {q : Nat → Nat} {m r : Nat → Int32} {a b : Int32} (h : Ag q m r) : Ag (updN q 2 (q 2 + 1)) (put2 m (24 + q 2 * 2) a b) (put2 r (24 + q 2 * 2) a b) :=
  ⟨fun i j hi hj => put2_eq (Or.inl (h.1 i j (by rw [updN_ne (by decide)] at hi; exact hi) hj)), fun i j hi hj => put2_eq (Or.inl (h.2.1 i j (by rw [updN_ne (by decide)] at hi; exact hi) hj)), fun i j hi hj => by
    rw [updN_at] at hi
    refine put2_eq ?_
    by_cases e : i = q 2
    · exact Or.inr (by subst e; omega)
    · exact Or.inl (h.2.2.1 i j (by omega) hj), fun i j hi hj => put2_eq (Or.inl (h.2.2.2 i j (by rw [updN_ne (by decide)] at hi; exact hi) hj))⟩
theorem Bc_2 {q : Nat → Nat} (h : Bcn q) (hs : ¬ 8 ≤ q 2) : Bcn (updN q 2 (q 2 + 1)) := by
  obtain ⟨h0, h1, h2, h3⟩ := h
  unfold Bcn
  rw [updN_ne (j := 0) (k := 2) (by decide), updN_ne (j := 1) (k := 2) (by decide), updN_at, updN_ne (j := 3) (k := 2) (by decide)]
  omega
theorem Ag_put4_3 {q : Nat → Nat} {m r : Nat → Int32} {a b c d : Int32} (h : Ag q m r) : Ag (updN q 3 (q 3 + 1)) (put4 m (40 + q 3 * 4) a b c d) (put4 r (40 + q 3 * 4) a b c d) :=
  ⟨fun i j hi hj => put4_eq (Or.inl (h.1 i j (by rw [updN_ne (by decide)] at hi; exact hi) hj)), fun i j hi hj => put4_eq (Or.inl (h.2.1 i j (by rw [updN_ne (by decide)] at hi; exact hi) hj)), fun i j hi hj => put4_eq (Or.inl (h.2.2.1 i j (by rw [updN_ne (by decide)] at hi; exact hi) hj)), fun i j hi hj => by
    rw [updN_at] at hi
    refine put4_eq ?_
    by_cases e : i = q 3
    · exact Or.inr (by subst e; omega)
    · exact Or.inl (h.2.2.2 i j (by omega) hj)⟩
theorem Bc_3 {q : Nat → Nat} (h : Bcn q) (hs : ¬ 4 ≤ q 3) : Bcn (updN q 3 (q 3 + 1)) := by
  obtain ⟨h0, h1, h2, h3⟩ := h
  unfold Bcn
  rw [updN_ne (j := 0) (k := 3) (by decide), updN_ne (j := 1) (k := 3) (by decide), updN_ne (j := 2) (k := 3) (by decide), updN_at]
  omega
theorem c_X2_isFull_0 {x0 x1 x2 x3 x4 x5 x6 x10 x11 x12 x13 x14 x15 x16 x17 x18 x19 x20 x21 x22 x23 x24 x25 x26 x27 x28 x29 x30 x31 x32 : ax_E} {r8 r9 : Nat → Int32} {wm : List ax_E} {c : Nat → Nat} (hB : c 0 ≤ 4 ∧ c 1 ≤ 4 ∧ c 2 ≤ 8 ∧ c 3 ≤ 4) : Ct M_X2_isFull [.ref 7, .int 0] ([x0, x1, x2, x3, x4, x5, x6, ob 2 [.ref 8, .ref 9], ia 56 r8, ia 4 (ovl (nIf c) 4 r9), x10, x11, x12, x13, x14, x15, x16, x17, x18, x19, x20, x21, x22, x23, x24, x25, x26, x27, x28, x29, x30, x31, x32], wm) (fun r w' => ((4 ≤ c 0) ∧ r = some (.int 1) ∧ w' = ([x0, x1, x2, x3, x4, x5, x6, ob 2 [.ref 8, .ref 9], ia 56 r8, ia 4 (ovl (nIf c) 4 r9), x10, x11, x12, x13, x14, x15, x16, x17, x18, x19, x20, x21, x22, x23, x24, x25, x26, x27, x28, x29, x30, x31, x32], wm)) ∨ ((¬ 4 ≤ c 0) ∧ r = some (.int 0) ∧ w' = ([x0, x1, x2, x3, x4, x5, x6, ob 2 [.ref 8, .ref 9], ia 56 r8, ia 4 (ovl (nIf c) 4 r9), x10, x11, x12, x13, x14, x15, x16, x17, x18, x19, x20, x21, x22, x23, x24, x25, x26, x27, x28, x29, x30, x31, x32], wm))) := by
  refine ct_of ⟨by decide, rfl⟩ (Nat.le_of_ble_eq_true rfl) ?_
  refine ab_iload_n dX2_isFull_0 rfl ?_
  refine ab_iflt 23 dX2_isFull_1 (by decide) (fun h_1 => absurd h_1 (by decide)) (fun h_1 => ?_)
  refine ab_iload_n dX2_isFull_4 rfl ?_
  refine ab_iconst (v := 4) dX2_isFull_5 (by decide) ?_
  refine ab_icmpge 23 dX2_isFull_6 (by decide) (fun h_2 => absurd h_2 (by decide)) (fun h_2 => ?_)
  refine ab_aload_n dX2_isFull_9 rfl ?_
  refine ab_getf dX2_isFull_10 fl_X2_15 rfl rfl ?_
  refine ab_iload_n dX2_isFull_13 rfl ?_
  refine ab_iald (j := 0) dX2_isFull_14 rfl (ix_c (by decide)) ?_
  refine ab_topi (v := (nI (c 0))) (ovl_lt (by decide)) ?_
  refine ab_tbl (j := 2) dX2_isFull_15 rfl fs_X2_24 ?_
  refine ab_iload_n dX2_isFull_18 rfl ?_
  refine ab_tald (j := 2) (t := 0) (v := (ax_tab 2 0)) dX2_isFull_19 rfl (ix_c (by decide)) rfl ?_
  refine ab_topi (v := 4) (by decide) ?_
  refine ab_icmplt 27 dX2_isFull_20 (by decide) (fun h_3 => ?_) (fun h_3 => ?_)
  · have h_3n := (nI_ltI (a := (c 0)) (b := 4) (by omega) (by omega)).mp h_3
    refine ab_iconst (v := 0) dX2_isFull_27 (by decide) ?_
    exact ab_zret dX2_isFull_28 rfl rfl (by decide) (Or.inr (⟨by omega, rfl, rfl⟩))
  · have h_3n : ¬ _ := fun z => h_3 ((nI_ltI (a := (c 0)) (b := 4) (by omega) (by omega)).mpr z)
    refine ab_iconst (v := 1) dX2_isFull_23 (by decide) ?_
    refine ab_goto 28 dX2_isFull_24 (by decide) ?_
    exact ab_zret dX2_isFull_28 rfl rfl (by decide) (Or.inl (⟨by omega, rfl, rfl⟩))
theorem c_X2_isFull_1 {x0 x1 x2 x3 x4 x5 x6 x10 x11 x12 x13 x14 x15 x16 x17 x18 x19 x20 x21 x22 x23 x24 x25 x26 x27 x28 x29 x30 x31 x32 : ax_E} {r8 r9 : Nat → Int32} {wm : List ax_E} {c : Nat → Nat} (hB : c 0 ≤ 4 ∧ c 1 ≤ 4 ∧ c 2 ≤ 8 ∧ c 3 ≤ 4) : Ct M_X2_isFull [.ref 7, .int 1] ([x0, x1, x2, x3, x4, x5, x6, ob 2 [.ref 8, .ref 9], ia 56 r8, ia 4 (ovl (nIf c) 4 r9), x10, x11, x12, x13, x14, x15, x16, x17, x18, x19, x20, x21, x22, x23, x24, x25, x26, x27, x28, x29, x30, x31, x32], wm) (fun r w' => ((4 ≤ c 1) ∧ r = some (.int 1) ∧ w' = ([x0, x1, x2, x3, x4, x5, x6, ob 2 [.ref 8, .ref 9], ia 56 r8, ia 4 (ovl (nIf c) 4 r9), x10, x11, x12, x13, x14, x15, x16, x17, x18, x19, x20, x21, x22, x23, x24, x25, x26, x27, x28, x29, x30, x31, x32], wm)) ∨ ((¬ 4 ≤ c 1) ∧ r = some (.int 0) ∧ w' = ([x0, x1, x2, x3, x4, x5, x6, ob 2 [.ref 8, .ref 9], ia 56 r8, ia 4 (ovl (nIf c) 4 r9), x10, x11, x12, x13, x14, x15, x16, x17, x18, x19, x20, x21, x22, x23, x24, x25, x26, x27, x28, x29, x30, x31, x32], wm))) := by
  refine ct_of ⟨by decide, rfl⟩ (Nat.le_of_ble_eq_true rfl) ?_
  refine ab_iload_n dX2_isFull_0 rfl ?_
  refine ab_iflt 23 dX2_isFull_1 (by decide) (fun h_1 => absurd h_1 (by decide)) (fun h_1 => ?_)
  refine ab_iload_n dX2_isFull_4 rfl ?_
  refine ab_iconst (v := 4) dX2_isFull_5 (by decide) ?_
  refine ab_icmpge 23 dX2_isFull_6 (by decide) (fun h_2 => absurd h_2 (by decide)) (fun h_2 => ?_)
  refine ab_aload_n dX2_isFull_9 rfl ?_
  refine ab_getf dX2_isFull_10 fl_X2_15 rfl rfl ?_
  refine ab_iload_n dX2_isFull_13 rfl ?_
  refine ab_iald (j := 1) dX2_isFull_14 rfl (ix_c (by decide)) ?_
  refine ab_topi (v := (nI (c 1))) (ovl_lt (by decide)) ?_
  refine ab_tbl (j := 2) dX2_isFull_15 rfl fs_X2_24 ?_
  refine ab_iload_n dX2_isFull_18 rfl ?_
  refine ab_tald (j := 2) (t := 1) (v := (ax_tab 2 1)) dX2_isFull_19 rfl (ix_c (by decide)) rfl ?_
  refine ab_topi (v := 4) (by decide) ?_
  refine ab_icmplt 27 dX2_isFull_20 (by decide) (fun h_3 => ?_) (fun h_3 => ?_)
  · have h_3n := (nI_ltI (a := (c 1)) (b := 4) (by omega) (by omega)).mp h_3
    refine ab_iconst (v := 0) dX2_isFull_27 (by decide) ?_
    exact ab_zret dX2_isFull_28 rfl rfl (by decide) (Or.inr (⟨by omega, rfl, rfl⟩))
  · have h_3n : ¬ _ := fun z => h_3 ((nI_ltI (a := (c 1)) (b := 4) (by omega) (by omega)).mpr z)
    refine ab_iconst (v := 1) dX2_isFull_23 (by decide) ?_
    refine ab_goto 28 dX2_isFull_24 (by decide) ?_
    exact ab_zret dX2_isFull_28 rfl rfl (by decide) (Or.inl (⟨by omega, rfl, rfl⟩))
theorem c_X2_isFull_2 {x0 x1 x2 x3 x4 x5 x6 x10 x11 x12 x13 x14 x15 x16 x17 x18 x19 x20 x21 x22 x23 x24 x25 x26 x27 x28 x29 x30 x31 x32 : ax_E} {r8 r9 : Nat → Int32} {wm : List ax_E} {c : Nat → Nat} (hB : c 0 ≤ 4 ∧ c 1 ≤ 4 ∧ c 2 ≤ 8 ∧ c 3 ≤ 4) : Ct M_X2_isFull [.ref 7, .int 2] ([x0, x1, x2, x3, x4, x5, x6, ob 2 [.ref 8, .ref 9], ia 56 r8, ia 4 (ovl (nIf c) 4 r9), x10, x11, x12, x13, x14, x15, x16, x17, x18, x19, x20, x21, x22, x23, x24, x25, x26, x27, x28, x29, x30, x31, x32], wm) (fun r w' => ((8 ≤ c 2) ∧ r = some (.int 1) ∧ w' = ([x0, x1, x2, x3, x4, x5, x6, ob 2 [.ref 8, .ref 9], ia 56 r8, ia 4 (ovl (nIf c) 4 r9), x10, x11, x12, x13, x14, x15, x16, x17, x18, x19, x20, x21, x22, x23, x24, x25, x26, x27, x28, x29, x30, x31, x32], wm)) ∨ ((¬ 8 ≤ c 2) ∧ r = some (.int 0) ∧ w' = ([x0, x1, x2, x3, x4, x5, x6, ob 2 [.ref 8, .ref 9], ia 56 r8, ia 4 (ovl (nIf c) 4 r9), x10, x11, x12, x13, x14, x15, x16, x17, x18, x19, x20, x21, x22, x23, x24, x25, x26, x27, x28, x29, x30, x31, x32], wm))) := by
  refine ct_of ⟨by decide, rfl⟩ (Nat.le_of_ble_eq_true rfl) ?_
  refine ab_iload_n dX2_isFull_0 rfl ?_
  refine ab_iflt 23 dX2_isFull_1 (by decide) (fun h_1 => absurd h_1 (by decide)) (fun h_1 => ?_)
  refine ab_iload_n dX2_isFull_4 rfl ?_
  refine ab_iconst (v := 4) dX2_isFull_5 (by decide) ?_
  refine ab_icmpge 23 dX2_isFull_6 (by decide) (fun h_2 => absurd h_2 (by decide)) (fun h_2 => ?_)
  refine ab_aload_n dX2_isFull_9 rfl ?_
  refine ab_getf dX2_isFull_10 fl_X2_15 rfl rfl ?_
  refine ab_iload_n dX2_isFull_13 rfl ?_
  refine ab_iald (j := 2) dX2_isFull_14 rfl (ix_c (by decide)) ?_
  refine ab_topi (v := (nI (c 2))) (ovl_lt (by decide)) ?_
  refine ab_tbl (j := 2) dX2_isFull_15 rfl fs_X2_24 ?_
  refine ab_iload_n dX2_isFull_18 rfl ?_
  refine ab_tald (j := 2) (t := 2) (v := (ax_tab 2 2)) dX2_isFull_19 rfl (ix_c (by decide)) rfl ?_
  refine ab_topi (v := 8) (by decide) ?_
  refine ab_icmplt 27 dX2_isFull_20 (by decide) (fun h_3 => ?_) (fun h_3 => ?_)
  · have h_3n := (nI_ltI (a := (c 2)) (b := 8) (by omega) (by omega)).mp h_3
    refine ab_iconst (v := 0) dX2_isFull_27 (by decide) ?_
    exact ab_zret dX2_isFull_28 rfl rfl (by decide) (Or.inr (⟨by omega, rfl, rfl⟩))
  · have h_3n : ¬ _ := fun z => h_3 ((nI_ltI (a := (c 2)) (b := 8) (by omega) (by omega)).mpr z)
    refine ab_iconst (v := 1) dX2_isFull_23 (by decide) ?_
    refine ab_goto 28 dX2_isFull_24 (by decide) ?_
    exact ab_zret dX2_isFull_28 rfl rfl (by decide) (Or.inl (⟨by omega, rfl, rfl⟩))
theorem c_X2_isFull_3 {x0 x1 x2 x3 x4 x5 x6 x10 x11 x12 x13 x14 x15 x16 x17 x18 x19 x20 x21 x22 x23 x24 x25 x26 x27 x28 x29 x30 x31 x32 : ax_E} {r8 r9 : Nat → Int32} {wm : List ax_E} {c : Nat → Nat} (hB : c 0 ≤ 4 ∧ c 1 ≤ 4 ∧ c 2 ≤ 8 ∧ c 3 ≤ 4) : Ct M_X2_isFull [.ref 7, .int 3] ([x0, x1, x2, x3, x4, x5, x6, ob 2 [.ref 8, .ref 9], ia 56 r8, ia 4 (ovl (nIf c) 4 r9), x10, x11, x12, x13, x14, x15, x16, x17, x18, x19, x20, x21, x22, x23, x24, x25, x26, x27, x28, x29, x30, x31, x32], wm) (fun r w' => ((4 ≤ c 3) ∧ r = some (.int 1) ∧ w' = ([x0, x1, x2, x3, x4, x5, x6, ob 2 [.ref 8, .ref 9], ia 56 r8, ia 4 (ovl (nIf c) 4 r9), x10, x11, x12, x13, x14, x15, x16, x17, x18, x19, x20, x21, x22, x23, x24, x25, x26, x27, x28, x29, x30, x31, x32], wm)) ∨ ((¬ 4 ≤ c 3) ∧ r = some (.int 0) ∧ w' = ([x0, x1, x2, x3, x4, x5, x6, ob 2 [.ref 8, .ref 9], ia 56 r8, ia 4 (ovl (nIf c) 4 r9), x10, x11, x12, x13, x14, x15, x16, x17, x18, x19, x20, x21, x22, x23, x24, x25, x26, x27, x28, x29, x30, x31, x32], wm))) := by
  refine ct_of ⟨by decide, rfl⟩ (Nat.le_of_ble_eq_true rfl) ?_
  refine ab_iload_n dX2_isFull_0 rfl ?_
  refine ab_iflt 23 dX2_isFull_1 (by decide) (fun h_1 => absurd h_1 (by decide)) (fun h_1 => ?_)
  refine ab_iload_n dX2_isFull_4 rfl ?_
  refine ab_iconst (v := 4) dX2_isFull_5 (by decide) ?_
  refine ab_icmpge 23 dX2_isFull_6 (by decide) (fun h_2 => absurd h_2 (by decide)) (fun h_2 => ?_)
  refine ab_aload_n dX2_isFull_9 rfl ?_
  refine ab_getf dX2_isFull_10 fl_X2_15 rfl rfl ?_
  refine ab_iload_n dX2_isFull_13 rfl ?_
  refine ab_iald (j := 3) dX2_isFull_14 rfl (ix_c (by decide)) ?_
  refine ab_topi (v := (nI (c 3))) (ovl_lt (by decide)) ?_
  refine ab_tbl (j := 2) dX2_isFull_15 rfl fs_X2_24 ?_
  refine ab_iload_n dX2_isFull_18 rfl ?_
  refine ab_tald (j := 2) (t := 3) (v := (ax_tab 2 3)) dX2_isFull_19 rfl (ix_c (by decide)) rfl ?_
  refine ab_topi (v := 4) (by decide) ?_
  refine ab_icmplt 27 dX2_isFull_20 (by decide) (fun h_3 => ?_) (fun h_3 => ?_)
  · have h_3n := (nI_ltI (a := (c 3)) (b := 4) (by omega) (by omega)).mp h_3
    refine ab_iconst (v := 0) dX2_isFull_27 (by decide) ?_
    exact ab_zret dX2_isFull_28 rfl rfl (by decide) (Or.inr (⟨by omega, rfl, rfl⟩))
  · have h_3n : ¬ _ := fun z => h_3 ((nI_ltI (a := (c 3)) (b := 4) (by omega) (by omega)).mpr z)
    refine ab_iconst (v := 1) dX2_isFull_23 (by decide) ?_
    refine ab_goto 28 dX2_isFull_24 (by decide) ?_
    exact ab_zret dX2_isFull_28 rfl rfl (by decide) (Or.inl (⟨by omega, rfl, rfl⟩))
theorem c_X2_add_0 {x0 x1 x2 x4 x5 x6 x10 x11 x12 x13 x14 x15 x16 x17 x18 x19 x20 x21 x22 x23 x24 x25 x26 x27 x28 x29 x30 x31 x32 : ax_E} {r3 r8 r9 : Nat → Int32} {wm : List ax_E} {c : Nat → Nat} (hB : c 0 ≤ 4 ∧ c 1 ≤ 4 ∧ c 2 ≤ 8 ∧ c 3 ≤ 4) (h_f : ¬ 4 ≤ c 0) : Ct M_X2_add [.ref 7, .int 0, .ref 3] ([x0, x1, x2, ia 4 r3, x4, x5, x6, ob 2 [.ref 8, .ref 9], ia 56 r8, ia 4 (ovl (nIf c) 4 r9), x10, x11, x12, x13, x14, x15, x16, x17, x18, x19, x20, x21, x22, x23, x24, x25, x26, x27, x28, x29, x30, x31, x32], wm) (fun r w' => r = none ∧ w' = ([x0, x1, x2, ia 4 r3, x4, x5, x6, ob 2 [.ref 8, .ref 9], ia 56 (va_cpy r3 r8 0 (0 + c 0 * 4) 4), ia 4 (ovl (nIf (updN c 0 (c 0 + 1))) 4 r9), x10, x11, x12, x13, x14, x15, x16, x17, x18, x19, x20, x21, x22, x23, x24, x25, x26, x27, x28, x29, x30, x31, x32], wm)) := by
  refine ct_of ⟨by decide, rfl⟩ (Nat.le_of_ble_eq_true rfl) ?_
  refine ab_aload_n dX2_add_0 rfl ?_
  refine ab_iload_n dX2_add_1 rfl ?_
  refine ab_callV (As := [.int 0]) (rest := []) dX2_add_2 mv_X2_isFull ml_X2_37 ⟨by decide, by decide, rfl, rfl, rfl⟩ (by decide) rfl rfl (Nat.le_of_ble_eq_true rfl) rfl (c_X2_isFull_0 (c := c) (r9 := r9) hB) ?_
  rintro r w' (⟨c_1, rfl, rfl⟩ | ⟨c_2, rfl, rfl⟩)
  · exact absurd c_1 h_f
  · refine ab_ifne 18 dX2_add_5 (by decide) (fun h_3 => absurd (by decide) h_3) (fun h_3 => ?_)
    refine ab_aload_n dX2_add_8 rfl ?_
    refine ab_ialen (v := 4) dX2_add_9 rfl (by decide) ?_
    refine ab_tbl (j := 3) dX2_add_10 rfl fs_X2_31 ?_
    refine ab_iload_n dX2_add_13 rfl ?_
    refine ab_tald (j := 3) (t := 0) (v := (ax_tab 3 0)) dX2_add_14 rfl (ix_c (by decide)) rfl ?_
    refine ab_topi (v := 4) (by decide) ?_
    refine ab_icmpge 19 dX2_add_15 (by decide) (fun h_4 => ?_) (fun h_4 => absurd (by decide) h_4)
    refine ab_tbl (j := 4) dX2_add_19 rfl fs_X2_34 ?_
    refine ab_iload_n dX2_add_22 rfl ?_
    refine ab_tald (j := 4) (t := 0) (v := (ax_tab 4 0)) dX2_add_23 rfl (ix_c (by decide)) rfl ?_
    refine ab_topi (v := 0) (by decide) ?_
    refine ab_aload_n dX2_add_24 rfl ?_
    refine ab_getf dX2_add_25 fl_X2_15 rfl rfl ?_
    refine ab_iload_n dX2_add_28 rfl ?_
    refine ab_iald (j := 0) dX2_add_29 rfl (ix_c (by decide)) ?_
    refine ab_topi (v := (nI (c 0))) (ovl_lt (by decide)) ?_
    refine ab_tbl (j := 3) dX2_add_30 rfl fs_X2_31 ?_
    refine ab_iload_n dX2_add_33 rfl ?_
    refine ab_tald (j := 3) (t := 0) (v := (ax_tab 3 0)) dX2_add_34 rfl (ix_c (by decide)) rfl ?_
    refine ab_topi (v := 4) (by decide) ?_
    refine ab_imul dX2_add_35 ?_
    refine ab_topi (v := (nI ((c 0) * 4))) (pk_mul _ 4) ?_
    refine ab_iadd dX2_add_36 ?_
    refine ab_topi (v := (nI (0 + ((c 0) * 4)))) (nI_add 0 _) ?_
    refine ab_istore_n (la' := [(3, .int (nI (0 + ((c 0) * 4)))), (0, .ref 7), (1, .int 0), (2, .ref 3)]) dX2_add_37 (by decide) rfl ?_
    refine ab_aload_n dX2_add_38 rfl ?_
    refine ab_iconst (v := 0) dX2_add_39 (by decide) ?_
    refine ab_aload_n dX2_add_40 rfl ?_
    refine ab_getf dX2_add_41 fl_X2_11 rfl rfl ?_
    refine ab_iload_n dX2_add_44 rfl ?_
    refine ab_tbl (j := 3) dX2_add_45 rfl fs_X2_31 ?_
    refine ab_iload_n dX2_add_48 rfl ?_
    refine ab_tald (j := 3) (t := 0) (v := (ax_tab 3 0)) dX2_add_49 rfl (ix_c (by decide)) rfl ?_
    refine ab_topi (v := 4) (by decide) ?_
    refine ab_copyi (sp := nI 0) (dp := nI (0 + ((c 0) * 4))) (n := nI 4) (w1 := ([x0, x1, x2, ia 4 r3, x4, x5, x6, ob 2 [.ref 8, .ref 9], ia 56 (va_cpy r3 r8 (nI 0).toNatClampNeg (nI (0 + ((c 0) * 4))).toNatClampNeg (nI 4).toNatClampNeg), ia 4 (ovl (nIf c) 4 r9), x10, x11, x12, x13, x14, x15, x16, x17, x18, x19, x20, x21, x22, x23, x24, x25, x26, x27, x28, x29, x30, x31, x32], wm)) dX2_add_50 ml_X2_41 ⟨by decide, Nat.le_of_ble_eq_true rfl⟩ rfl rfl (cpy_ok (by omega) (by omega) (by decide) (by decide)) rfl ?_
    refine ab_world ([x0, x1, x2, ia 4 r3, x4, x5, x6, ob 2 [.ref 8, .ref 9], ia 56 (va_cpy r3 r8 0 (0 + ((c 0) * 4)) 4), ia 4 (ovl (nIf c) 4 r9), x10, x11, x12, x13, x14, x15, x16, x17, x18, x19, x20, x21, x22, x23, x24, x25, x26, x27, x28, x29, x30, x31, x32], wm) (by rw [cpy_eq (by omega) (by omega) (by omega)]) ?_
    refine ab_aload_n dX2_add_53 rfl ?_
    refine ab_getf dX2_add_54 fl_X2_15 rfl rfl ?_
    refine ab_iload_n dX2_add_57 rfl ?_
    refine ab_dup2 rfl rfl dX2_add_58 ?_
    refine ab_iald (j := 0) dX2_add_59 rfl (ix_c (by decide)) ?_
    refine ab_topi (v := (nI (c 0))) (ovl_lt (by decide)) ?_
    refine ab_iconst (v := 1) dX2_add_60 (by decide) ?_
    refine ab_iadd dX2_add_61 ?_
    refine ab_topi (v := (nI ((c 0) + 1))) (nI_1 _) ?_
    refine ab_iast (w1 := ([x0, x1, x2, ia 4 r3, x4, x5, x6, ob 2 [.ref 8, .ref 9], ia 56 (va_cpy r3 r8 0 (0 + ((c 0) * 4)) 4), ia 4 (upd (ovl (nIf c) 4 r9) 0 (nI ((c 0) + 1))), x10, x11, x12, x13, x14, x15, x16, x17, x18, x19, x20, x21, x22, x23, x24, x25, x26, x27, x28, x29, x30, x31, x32], wm)) dX2_add_62 rfl (ix_c (by decide)) rfl ?_
    exact ab_vret dX2_add_63 rfl (by decide) (⟨rfl, by rw [ovl_upd (by decide), ← nIf_upd]⟩)
theorem c_X2_add_1 {x0 x1 x2 x4 x5 x6 x10 x11 x12 x13 x14 x15 x16 x17 x18 x19 x20 x21 x22 x23 x24 x25 x26 x27 x28 x29 x30 x31 x32 : ax_E} {r3 r8 r9 : Nat → Int32} {wm : List ax_E} {c : Nat → Nat} (hB : c 0 ≤ 4 ∧ c 1 ≤ 4 ∧ c 2 ≤ 8 ∧ c 3 ≤ 4) (h_f : ¬ 4 ≤ c 1) : Ct M_X2_add [.ref 7, .int 1, .ref 3] ([x0, x1, x2, ia 4 r3, x4, x5, x6, ob 2 [.ref 8, .ref 9], ia 56 r8, ia 4 (ovl (nIf c) 4 r9), x10, x11, x12, x13, x14, x15, x16, x17, x18, x19, x20, x21, x22, x23, x24, x25, x26, x27, x28, x29, x30, x31, x32], wm) (fun r w' => r = none ∧ w' = ([x0, x1, x2, ia 4 r3, x4, x5, x6, ob 2 [.ref 8, .ref 9], ia 56 (va_cpy r3 r8 0 (16 + c 1 * 2) 2), ia 4 (ovl (nIf (updN c 1 (c 1 + 1))) 4 r9), x10, x11, x12, x13, x14, x15, x16, x17, x18, x19, x20, x21, x22, x23, x24, x25, x26, x27, x28, x29, x30, x31, x32], wm)) := by
  refine ct_of ⟨by decide, rfl⟩ (Nat.le_of_ble_eq_true rfl) ?_
  refine ab_aload_n dX2_add_0 rfl ?_
  refine ab_iload_n dX2_add_1 rfl ?_
  refine ab_callV (As := [.int 1]) (rest := []) dX2_add_2 mv_X2_isFull ml_X2_37 ⟨by decide, by decide, rfl, rfl, rfl⟩ (by decide) rfl rfl (Nat.le_of_ble_eq_true rfl) rfl (c_X2_isFull_1 (c := c) (r9 := r9) hB) ?_
  rintro r w' (⟨c_1, rfl, rfl⟩ | ⟨c_2, rfl, rfl⟩)
  · exact absurd c_1 h_f
  · refine ab_ifne 18 dX2_add_5 (by decide) (fun h_3 => absurd (by decide) h_3) (fun h_3 => ?_)
    refine ab_aload_n dX2_add_8 rfl ?_
    refine ab_ialen (v := 4) dX2_add_9 rfl (by decide) ?_
    refine ab_tbl (j := 3) dX2_add_10 rfl fs_X2_31 ?_
    refine ab_iload_n dX2_add_13 rfl ?_
    refine ab_tald (j := 3) (t := 1) (v := (ax_tab 3 1)) dX2_add_14 rfl (ix_c (by decide)) rfl ?_
    refine ab_topi (v := 2) (by decide) ?_
    refine ab_icmpge 19 dX2_add_15 (by decide) (fun h_4 => ?_) (fun h_4 => absurd (by decide) h_4)
    refine ab_tbl (j := 4) dX2_add_19 rfl fs_X2_34 ?_
    refine ab_iload_n dX2_add_22 rfl ?_
    refine ab_tald (j := 4) (t := 1) (v := (ax_tab 4 1)) dX2_add_23 rfl (ix_c (by decide)) rfl ?_
    refine ab_topi (v := 16) (by decide) ?_
    refine ab_aload_n dX2_add_24 rfl ?_
    refine ab_getf dX2_add_25 fl_X2_15 rfl rfl ?_
    refine ab_iload_n dX2_add_28 rfl ?_
    refine ab_iald (j := 1) dX2_add_29 rfl (ix_c (by decide)) ?_
    refine ab_topi (v := (nI (c 1))) (ovl_lt (by decide)) ?_
    refine ab_tbl (j := 3) dX2_add_30 rfl fs_X2_31 ?_
    refine ab_iload_n dX2_add_33 rfl ?_
    refine ab_tald (j := 3) (t := 1) (v := (ax_tab 3 1)) dX2_add_34 rfl (ix_c (by decide)) rfl ?_
    refine ab_topi (v := 2) (by decide) ?_
    refine ab_imul dX2_add_35 ?_
    refine ab_topi (v := (nI ((c 1) * 2))) (pk_mul _ 2) ?_
    refine ab_iadd dX2_add_36 ?_
    refine ab_topi (v := (nI (16 + ((c 1) * 2)))) (nI_add 16 _) ?_
    refine ab_istore_n (la' := [(3, .int (nI (16 + ((c 1) * 2)))), (0, .ref 7), (1, .int 1), (2, .ref 3)]) dX2_add_37 (by decide) rfl ?_
    refine ab_aload_n dX2_add_38 rfl ?_
    refine ab_iconst (v := 0) dX2_add_39 (by decide) ?_
    refine ab_aload_n dX2_add_40 rfl ?_
    refine ab_getf dX2_add_41 fl_X2_11 rfl rfl ?_
    refine ab_iload_n dX2_add_44 rfl ?_
    refine ab_tbl (j := 3) dX2_add_45 rfl fs_X2_31 ?_
    refine ab_iload_n dX2_add_48 rfl ?_
    refine ab_tald (j := 3) (t := 1) (v := (ax_tab 3 1)) dX2_add_49 rfl (ix_c (by decide)) rfl ?_
    refine ab_topi (v := 2) (by decide) ?_
    refine ab_copyi (sp := nI 0) (dp := nI (16 + ((c 1) * 2))) (n := nI 2) (w1 := ([x0, x1, x2, ia 4 r3, x4, x5, x6, ob 2 [.ref 8, .ref 9], ia 56 (va_cpy r3 r8 (nI 0).toNatClampNeg (nI (16 + ((c 1) * 2))).toNatClampNeg (nI 2).toNatClampNeg), ia 4 (ovl (nIf c) 4 r9), x10, x11, x12, x13, x14, x15, x16, x17, x18, x19, x20, x21, x22, x23, x24, x25, x26, x27, x28, x29, x30, x31, x32], wm)) dX2_add_50 ml_X2_41 ⟨by decide, Nat.le_of_ble_eq_true rfl⟩ rfl rfl (cpy_ok (by omega) (by omega) (by decide) (by decide)) rfl ?_
    refine ab_world ([x0, x1, x2, ia 4 r3, x4, x5, x6, ob 2 [.ref 8, .ref 9], ia 56 (va_cpy r3 r8 0 (16 + ((c 1) * 2)) 2), ia 4 (ovl (nIf c) 4 r9), x10, x11, x12, x13, x14, x15, x16, x17, x18, x19, x20, x21, x22, x23, x24, x25, x26, x27, x28, x29, x30, x31, x32], wm) (by rw [cpy_eq (by omega) (by omega) (by omega)]) ?_
    refine ab_aload_n dX2_add_53 rfl ?_
    refine ab_getf dX2_add_54 fl_X2_15 rfl rfl ?_
    refine ab_iload_n dX2_add_57 rfl ?_
    refine ab_dup2 rfl rfl dX2_add_58 ?_
    refine ab_iald (j := 1) dX2_add_59 rfl (ix_c (by decide)) ?_
    refine ab_topi (v := (nI (c 1))) (ovl_lt (by decide)) ?_
    refine ab_iconst (v := 1) dX2_add_60 (by decide) ?_
    refine ab_iadd dX2_add_61 ?_
    refine ab_topi (v := (nI ((c 1) + 1))) (nI_1 _) ?_
    refine ab_iast (w1 := ([x0, x1, x2, ia 4 r3, x4, x5, x6, ob 2 [.ref 8, .ref 9], ia 56 (va_cpy r3 r8 0 (16 + ((c 1) * 2)) 2), ia 4 (upd (ovl (nIf c) 4 r9) 1 (nI ((c 1) + 1))), x10, x11, x12, x13, x14, x15, x16, x17, x18, x19, x20, x21, x22, x23, x24, x25, x26, x27, x28, x29, x30, x31, x32], wm)) dX2_add_62 rfl (ix_c (by decide)) rfl ?_
    exact ab_vret dX2_add_63 rfl (by decide) (⟨rfl, by rw [ovl_upd (by decide), ← nIf_upd]⟩)
theorem c_X2_add_2 {x0 x1 x2 x4 x5 x6 x10 x11 x12 x13 x14 x15 x16 x17 x18 x19 x20 x21 x22 x23 x24 x25 x26 x27 x28 x29 x30 x31 x32 : ax_E} {r3 r8 r9 : Nat → Int32} {wm : List ax_E} {c : Nat → Nat} (hB : c 0 ≤ 4 ∧ c 1 ≤ 4 ∧ c 2 ≤ 8 ∧ c 3 ≤ 4) (h_f : ¬ 8 ≤ c 2) : Ct M_X2_add [.ref 7, .int 2, .ref 3] ([x0, x1, x2, ia 4 r3, x4, x5, x6, ob 2 [.ref 8, .ref 9], ia 56 r8, ia 4 (ovl (nIf c) 4 r9), x10, x11, x12, x13, x14, x15, x16, x17, x18, x19, x20, x21, x22, x23, x24, x25, x26, x27, x28, x29, x30, x31, x32], wm) (fun r w' => r = none ∧ w' = ([x0, x1, x2, ia 4 r3, x4, x5, x6, ob 2 [.ref 8, .ref 9], ia 56 (va_cpy r3 r8 0 (24 + c 2 * 2) 2), ia 4 (ovl (nIf (updN c 2 (c 2 + 1))) 4 r9), x10, x11, x12, x13, x14, x15, x16, x17, x18, x19, x20, x21, x22, x23, x24, x25, x26, x27, x28, x29, x30, x31, x32], wm)) := by
  refine ct_of ⟨by decide, rfl⟩ (Nat.le_of_ble_eq_true rfl) ?_
  refine ab_aload_n dX2_add_0 rfl ?_
  refine ab_iload_n dX2_add_1 rfl ?_
  refine ab_callV (As := [.int 2]) (rest := []) dX2_add_2 mv_X2_isFull ml_X2_37 ⟨by decide, by decide, rfl, rfl, rfl⟩ (by decide) rfl rfl (Nat.le_of_ble_eq_true rfl) rfl (c_X2_isFull_2 (c := c) (r9 := r9) hB) ?_
  rintro r w' (⟨c_1, rfl, rfl⟩ | ⟨c_2, rfl, rfl⟩)
  · exact absurd c_1 h_f
  · refine ab_ifne 18 dX2_add_5 (by decide) (fun h_3 => absurd (by decide) h_3) (fun h_3 => ?_)
    refine ab_aload_n dX2_add_8 rfl ?_
    refine ab_ialen (v := 4) dX2_add_9 rfl (by decide) ?_
    refine ab_tbl (j := 3) dX2_add_10 rfl fs_X2_31 ?_
    refine ab_iload_n dX2_add_13 rfl ?_
    refine ab_tald (j := 3) (t := 2) (v := (ax_tab 3 2)) dX2_add_14 rfl (ix_c (by decide)) rfl ?_
    refine ab_topi (v := 2) (by decide) ?_
    refine ab_icmpge 19 dX2_add_15 (by decide) (fun h_4 => ?_) (fun h_4 => absurd (by decide) h_4)
    refine ab_tbl (j := 4) dX2_add_19 rfl fs_X2_34 ?_
    refine ab_iload_n dX2_add_22 rfl ?_
    refine ab_tald (j := 4) (t := 2) (v := (ax_tab 4 2)) dX2_add_23 rfl (ix_c (by decide)) rfl ?_
    refine ab_topi (v := 24) (by decide) ?_
    refine ab_aload_n dX2_add_24 rfl ?_
    refine ab_getf dX2_add_25 fl_X2_15 rfl rfl ?_
    refine ab_iload_n dX2_add_28 rfl ?_
    refine ab_iald (j := 2) dX2_add_29 rfl (ix_c (by decide)) ?_
    refine ab_topi (v := (nI (c 2))) (ovl_lt (by decide)) ?_
    refine ab_tbl (j := 3) dX2_add_30 rfl fs_X2_31 ?_
    refine ab_iload_n dX2_add_33 rfl ?_
    refine ab_tald (j := 3) (t := 2) (v := (ax_tab 3 2)) dX2_add_34 rfl (ix_c (by decide)) rfl ?_
    refine ab_topi (v := 2) (by decide) ?_
    refine ab_imul dX2_add_35 ?_
    refine ab_topi (v := (nI ((c 2) * 2))) (pk_mul _ 2) ?_
    refine ab_iadd dX2_add_36 ?_
    refine ab_topi (v := (nI (24 + ((c 2) * 2)))) (nI_add 24 _) ?_
    refine ab_istore_n (la' := [(3, .int (nI (24 + ((c 2) * 2)))), (0, .ref 7), (1, .int 2), (2, .ref 3)]) dX2_add_37 (by decide) rfl ?_
    refine ab_aload_n dX2_add_38 rfl ?_
    refine ab_iconst (v := 0) dX2_add_39 (by decide) ?_
    refine ab_aload_n dX2_add_40 rfl ?_
    refine ab_getf dX2_add_41 fl_X2_11 rfl rfl ?_
    refine ab_iload_n dX2_add_44 rfl ?_
    refine ab_tbl (j := 3) dX2_add_45 rfl fs_X2_31 ?_
    refine ab_iload_n dX2_add_48 rfl ?_
    refine ab_tald (j := 3) (t := 2) (v := (ax_tab 3 2)) dX2_add_49 rfl (ix_c (by decide)) rfl ?_
    refine ab_topi (v := 2) (by decide) ?_
    refine ab_copyi (sp := nI 0) (dp := nI (24 + ((c 2) * 2))) (n := nI 2) (w1 := ([x0, x1, x2, ia 4 r3, x4, x5, x6, ob 2 [.ref 8, .ref 9], ia 56 (va_cpy r3 r8 (nI 0).toNatClampNeg (nI (24 + ((c 2) * 2))).toNatClampNeg (nI 2).toNatClampNeg), ia 4 (ovl (nIf c) 4 r9), x10, x11, x12, x13, x14, x15, x16, x17, x18, x19, x20, x21, x22, x23, x24, x25, x26, x27, x28, x29, x30, x31, x32], wm)) dX2_add_50 ml_X2_41 ⟨by decide, Nat.le_of_ble_eq_true rfl⟩ rfl rfl (cpy_ok (by omega) (by omega) (by decide) (by decide)) rfl ?_
    refine ab_world ([x0, x1, x2, ia 4 r3, x4, x5, x6, ob 2 [.ref 8, .ref 9], ia 56 (va_cpy r3 r8 0 (24 + ((c 2) * 2)) 2), ia 4 (ovl (nIf c) 4 r9), x10, x11, x12, x13, x14, x15, x16, x17, x18, x19, x20, x21, x22, x23, x24, x25, x26, x27, x28, x29, x30, x31, x32], wm) (by rw [cpy_eq (by omega) (by omega) (by omega)]) ?_
    refine ab_aload_n dX2_add_53 rfl ?_
    refine ab_getf dX2_add_54 fl_X2_15 rfl rfl ?_
    refine ab_iload_n dX2_add_57 rfl ?_
    refine ab_dup2 rfl rfl dX2_add_58 ?_
    refine ab_iald (j := 2) dX2_add_59 rfl (ix_c (by decide)) ?_
    refine ab_topi (v := (nI (c 2))) (ovl_lt (by decide)) ?_
    refine ab_iconst (v := 1) dX2_add_60 (by decide) ?_
    refine ab_iadd dX2_add_61 ?_
    refine ab_topi (v := (nI ((c 2) + 1))) (nI_1 _) ?_
    refine ab_iast (w1 := ([x0, x1, x2, ia 4 r3, x4, x5, x6, ob 2 [.ref 8, .ref 9], ia 56 (va_cpy r3 r8 0 (24 + ((c 2) * 2)) 2), ia 4 (upd (ovl (nIf c) 4 r9) 2 (nI ((c 2) + 1))), x10, x11, x12, x13, x14, x15, x16, x17, x18, x19, x20, x21, x22, x23, x24, x25, x26, x27, x28, x29, x30, x31, x32], wm)) dX2_add_62 rfl (ix_c (by decide)) rfl ?_
    exact ab_vret dX2_add_63 rfl (by decide) (⟨rfl, by rw [ovl_upd (by decide), ← nIf_upd]⟩)
theorem c_X2_add_3 {x0 x1 x2 x4 x5 x6 x10 x11 x12 x13 x14 x15 x16 x17 x18 x19 x20 x21 x22 x23 x24 x25 x26 x27 x28 x29 x30 x31 x32 : ax_E} {r3 r8 r9 : Nat → Int32} {wm : List ax_E} {c : Nat → Nat} (hB : c 0 ≤ 4 ∧ c 1 ≤ 4 ∧ c 2 ≤ 8 ∧ c 3 ≤ 4) (h_f : ¬ 4 ≤ c 3) : Ct M_X2_add [.ref 7, .int 3, .ref 3] ([x0, x1, x2, ia 4 r3, x4, x5, x6, ob 2 [.ref 8, .ref 9], ia 56 r8, ia 4 (ovl (nIf c) 4 r9), x10, x11, x12, x13, x14, x15, x16, x17, x18, x19, x20, x21, x22, x23, x24, x25, x26, x27, x28, x29, x30, x31, x32], wm) (fun r w' => r = none ∧ w' = ([x0, x1, x2, ia 4 r3, x4, x5, x6, ob 2 [.ref 8, .ref 9], ia 56 (va_cpy r3 r8 0 (40 + c 3 * 4) 4), ia 4 (ovl (nIf (updN c 3 (c 3 + 1))) 4 r9), x10, x11, x12, x13, x14, x15, x16, x17, x18, x19, x20, x21, x22, x23, x24, x25, x26, x27, x28, x29, x30, x31, x32], wm)) := by
  refine ct_of ⟨by decide, rfl⟩ (Nat.le_of_ble_eq_true rfl) ?_
  refine ab_aload_n dX2_add_0 rfl ?_
  refine ab_iload_n dX2_add_1 rfl ?_
  refine ab_callV (As := [.int 3]) (rest := []) dX2_add_2 mv_X2_isFull ml_X2_37 ⟨by decide, by decide, rfl, rfl, rfl⟩ (by decide) rfl rfl (Nat.le_of_ble_eq_true rfl) rfl (c_X2_isFull_3 (c := c) (r9 := r9) hB) ?_
  rintro r w' (⟨c_1, rfl, rfl⟩ | ⟨c_2, rfl, rfl⟩)
  · exact absurd c_1 h_f
  · refine ab_ifne 18 dX2_add_5 (by decide) (fun h_3 => absurd (by decide) h_3) (fun h_3 => ?_)
    refine ab_aload_n dX2_add_8 rfl ?_
    refine ab_ialen (v := 4) dX2_add_9 rfl (by decide) ?_
    refine ab_tbl (j := 3) dX2_add_10 rfl fs_X2_31 ?_
    refine ab_iload_n dX2_add_13 rfl ?_
    refine ab_tald (j := 3) (t := 3) (v := (ax_tab 3 3)) dX2_add_14 rfl (ix_c (by decide)) rfl ?_
    refine ab_topi (v := 4) (by decide) ?_
    refine ab_icmpge 19 dX2_add_15 (by decide) (fun h_4 => ?_) (fun h_4 => absurd (by decide) h_4)
    refine ab_tbl (j := 4) dX2_add_19 rfl fs_X2_34 ?_
    refine ab_iload_n dX2_add_22 rfl ?_
    refine ab_tald (j := 4) (t := 3) (v := (ax_tab 4 3)) dX2_add_23 rfl (ix_c (by decide)) rfl ?_
    refine ab_topi (v := 40) (by decide) ?_
    refine ab_aload_n dX2_add_24 rfl ?_
    refine ab_getf dX2_add_25 fl_X2_15 rfl rfl ?_
    refine ab_iload_n dX2_add_28 rfl ?_
    refine ab_iald (j := 3) dX2_add_29 rfl (ix_c (by decide)) ?_
    refine ab_topi (v := (nI (c 3))) (ovl_lt (by decide)) ?_
    refine ab_tbl (j := 3) dX2_add_30 rfl fs_X2_31 ?_
    refine ab_iload_n dX2_add_33 rfl ?_
    refine ab_tald (j := 3) (t := 3) (v := (ax_tab 3 3)) dX2_add_34 rfl (ix_c (by decide)) rfl ?_
    refine ab_topi (v := 4) (by decide) ?_
    refine ab_imul dX2_add_35 ?_
    refine ab_topi (v := (nI ((c 3) * 4))) (pk_mul _ 4) ?_
    refine ab_iadd dX2_add_36 ?_
    refine ab_topi (v := (nI (40 + ((c 3) * 4)))) (nI_add 40 _) ?_
    refine ab_istore_n (la' := [(3, .int (nI (40 + ((c 3) * 4)))), (0, .ref 7), (1, .int 3), (2, .ref 3)]) dX2_add_37 (by decide) rfl ?_
    refine ab_aload_n dX2_add_38 rfl ?_
    refine ab_iconst (v := 0) dX2_add_39 (by decide) ?_
    refine ab_aload_n dX2_add_40 rfl ?_
    refine ab_getf dX2_add_41 fl_X2_11 rfl rfl ?_
    refine ab_iload_n dX2_add_44 rfl ?_
    refine ab_tbl (j := 3) dX2_add_45 rfl fs_X2_31 ?_
    refine ab_iload_n dX2_add_48 rfl ?_
    refine ab_tald (j := 3) (t := 3) (v := (ax_tab 3 3)) dX2_add_49 rfl (ix_c (by decide)) rfl ?_
    refine ab_topi (v := 4) (by decide) ?_
    refine ab_copyi (sp := nI 0) (dp := nI (40 + ((c 3) * 4))) (n := nI 4) (w1 := ([x0, x1, x2, ia 4 r3, x4, x5, x6, ob 2 [.ref 8, .ref 9], ia 56 (va_cpy r3 r8 (nI 0).toNatClampNeg (nI (40 + ((c 3) * 4))).toNatClampNeg (nI 4).toNatClampNeg), ia 4 (ovl (nIf c) 4 r9), x10, x11, x12, x13, x14, x15, x16, x17, x18, x19, x20, x21, x22, x23, x24, x25, x26, x27, x28, x29, x30, x31, x32], wm)) dX2_add_50 ml_X2_41 ⟨by decide, Nat.le_of_ble_eq_true rfl⟩ rfl rfl (cpy_ok (by omega) (by omega) (by decide) (by decide)) rfl ?_
    refine ab_world ([x0, x1, x2, ia 4 r3, x4, x5, x6, ob 2 [.ref 8, .ref 9], ia 56 (va_cpy r3 r8 0 (40 + ((c 3) * 4)) 4), ia 4 (ovl (nIf c) 4 r9), x10, x11, x12, x13, x14, x15, x16, x17, x18, x19, x20, x21, x22, x23, x24, x25, x26, x27, x28, x29, x30, x31, x32], wm) (by rw [cpy_eq (by omega) (by omega) (by omega)]) ?_
    refine ab_aload_n dX2_add_53 rfl ?_
    refine ab_getf dX2_add_54 fl_X2_15 rfl rfl ?_
    refine ab_iload_n dX2_add_57 rfl ?_
    refine ab_dup2 rfl rfl dX2_add_58 ?_
    refine ab_iald (j := 3) dX2_add_59 rfl (ix_c (by decide)) ?_
    refine ab_topi (v := (nI (c 3))) (ovl_lt (by decide)) ?_
    refine ab_iconst (v := 1) dX2_add_60 (by decide) ?_
    refine ab_iadd dX2_add_61 ?_
    refine ab_topi (v := (nI ((c 3) + 1))) (nI_1 _) ?_
    refine ab_iast (w1 := ([x0, x1, x2, ia 4 r3, x4, x5, x6, ob 2 [.ref 8, .ref 9], ia 56 (va_cpy r3 r8 0 (40 + ((c 3) * 4)) 4), ia 4 (upd (ovl (nIf c) 4 r9) 3 (nI ((c 3) + 1))), x10, x11, x12, x13, x14, x15, x16, x17, x18, x19, x20, x21, x22, x23, x24, x25, x26, x27, x28, x29, x30, x31, x32], wm)) dX2_add_62 rfl (ix_c (by decide)) rfl ?_
    exact ab_vret dX2_add_63 rfl (by decide) (⟨rfl, by rw [ovl_upd (by decide), ← nIf_upd]⟩)
theorem c_X2_count_s {x0 x1 x2 x3 x4 x5 x6 x10 x11 x12 x13 x14 x15 x16 x17 x18 x19 x20 x21 x22 x23 x24 x25 x26 x27 x28 x29 x30 x31 x32 : ax_E} {r8 r9 : Nat → Int32} {wm : List ax_E} {c : Nat → Nat} (hB : c 0 ≤ 4 ∧ c 1 ≤ 4 ∧ c 2 ≤ 8 ∧ c 3 ≤ 4) : Ct M_X2_count [.ref 7, .int 0] ([x0, x1, x2, x3, x4, x5, x6, ob 2 [.ref 8, .ref 9], ia 56 r8, ia 4 (ovl (nIf c) 4 r9), x10, x11, x12, x13, x14, x15, x16, x17, x18, x19, x20, x21, x22, x23, x24, x25, x26, x27, x28, x29, x30, x31, x32], wm) (fun r w' => r = some (.int (nI (c 0))) ∧ w' = ([x0, x1, x2, x3, x4, x5, x6, ob 2 [.ref 8, .ref 9], ia 56 r8, ia 4 (ovl (nIf c) 4 r9), x10, x11, x12, x13, x14, x15, x16, x17, x18, x19, x20, x21, x22, x23, x24, x25, x26, x27, x28, x29, x30, x31, x32], wm)) := by
  refine ct_of ⟨by decide, rfl⟩ (Nat.le_of_ble_eq_true rfl) ?_
  refine ab_iload_n dX2_count_0 rfl ?_
  refine ab_iflt 18 dX2_count_1 (by decide) (fun h_1 => absurd h_1 (by decide)) (fun h_1 => ?_)
  refine ab_iload_n dX2_count_4 rfl ?_
  refine ab_iconst (v := 4) dX2_count_5 (by decide) ?_
  refine ab_icmpge 18 dX2_count_6 (by decide) (fun h_2 => absurd h_2 (by decide)) (fun h_2 => ?_)
  refine ab_aload_n dX2_count_9 rfl ?_
  refine ab_getf dX2_count_10 fl_X2_15 rfl rfl ?_
  refine ab_iload_n dX2_count_13 rfl ?_
  refine ab_iald (j := 0) dX2_count_14 rfl (ix_c (by decide)) ?_
  refine ab_topi (v := (nI (c 0))) (ovl_lt (by decide)) ?_
  refine ab_goto 19 dX2_count_15 (by decide) ?_
  exact ab_iret dX2_count_19 rfl (by decide) (⟨rfl, rfl⟩)
def lp_fillc_st (a2 : Int32) (k : Nat) (f : Nat → Int32) : (Nat → Int32) := (upd f k a2)
set_option maxHeartbeats 400000 in
theorem lp_fillc {x0 x1 x2 x3 x4 x5 x6 x7 x8 x10 x11 x12 x13 x14 x15 x16 x17 x18 x19 x20 x21 x22 x23 x24 x25 x26 x27 x28 x29 x30 x31 x32 : ax_E} {wm : List ax_E} {a2 : Int32} {Q : Option Value → ax_W → Prop} {B : Nat} (hB : B = 4)  : ∀ (n k : Nat) (f : Nat → Int32) , k + n = B → Ab M_J7_fill_53178 Q (0, 0) 20 [(3, .int 4), (2, .int (nI B)), (1, .int a2), (0, .ref 9)] [] ([x0, x1, x2, x3, x4, x5, x6, x7, x8, ia 4 (itr (lp_fillc_st a2) n k f), x10, x11, x12, x13, x14, x15, x16, x17, x18, x19, x20, x21, x22, x23, x24, x25, x26, x27, x28, x29, x30, x31, x32], wm) → Ab M_J7_fill_53178 Q (0, 0) 5 [(3, .int 4), (2, .int (nI k)), (1, .int a2), (0, .ref 9)] [] ([x0, x1, x2, x3, x4, x5, x6, x7, x8, ia 4 f, x10, x11, x12, x13, x14, x15, x16, x17, x18, x19, x20, x21, x22, x23, x24, x25, x26, x27, x28, x29, x30, x31, x32], wm) := by
  intro n
  induction n with
  | zero =>
    intro k f  hk hx
    rw [itr_0] at hx
    rw [show k = B by omega]
    refine ab_iload_n dJ7_fill_53178_5 rfl ?_
    refine ab_iload_n dJ7_fill_53178_6 rfl ?_
    refine ab_icmpge 20 dJ7_fill_53178_7 (by decide) (fun h_1 => ?_) (fun h_1 => absurd (nI_le (a := 4) (by omega) (by omega)) h_1)
    refine ab_pick [0, 1, 2, 3] rfl ?_
    exact hx 
  | succ n ih =>
    intro k f  hk hx
    refine ab_iload_n dJ7_fill_53178_5 rfl ?_
    refine ab_iload_n dJ7_fill_53178_6 rfl ?_
    refine ab_icmpge 20 dJ7_fill_53178_7 (by decide) (fun h_1 => absurd h_1 (nI_ge (a := k) (b := 4) (by omega) (by omega))) (fun h_1 => ?_)
    refine ab_aload_n dJ7_fill_53178_10 rfl ?_
    refine ab_iload_n dJ7_fill_53178_11 rfl ?_
    refine ab_iload_n dJ7_fill_53178_12 rfl ?_
    refine ab_iast (w1 := ([x0, x1, x2, x3, x4, x5, x6, x7, x8, ia 4 (upd f k a2), x10, x11, x12, x13, x14, x15, x16, x17, x18, x19, x20, x21, x22, x23, x24, x25, x26, x27, x28, x29, x30, x31, x32], wm)) dJ7_fill_53178_13 rfl (ix_nI (by omega) (by decide)) rfl ?_
    refine ab_iinc (v := (nI (k + 1))) (la' := [(2, .int (nI (k + 1))), (3, .int 4), (1, .int a2), (0, .ref 9)]) dJ7_fill_53178_14 rfl (nI_1 _) (by decide) rfl ?_
    refine ab_goto 5 dJ7_fill_53178_17 (by decide) ?_
    refine ab_pick [1, 0, 2, 3] rfl ?_
    rw [(itr_s (lp_fillc_st a2) n k f).trans (congrArg (itr (lp_fillc_st a2) n (k + 1)) (show lp_fillc_st a2 k f = (upd f k a2) from rfl))] at hx
    exact ih (k + 1) (upd f k a2)  (by omega) hx
theorem fillc (v : Int32) (r : Nat → Int32) : itr (lp_fillc_st v) 4 0 r = ovl (fun _ => v) 4 r := by
  funext i
  rw [fill_itr v r (lp_fillc_st v) (fun _ _ => rfl) 4 0 r (fun i => by rw [if_neg (by omega)]) i, Nat.zero_add]
  rfl
theorem c_fill_c {x0 x1 x2 x3 x4 x5 x6 x7 x8 x10 x11 x12 x13 x14 x15 x16 x17 x18 x19 x20 x21 x22 x23 x24 x25 x26 x27 x28 x29 x30 x31 x32 : ax_E} {r9 : Nat → Int32} {wm : List ax_E} {a2 : Int32}  : Ct M_J7_fill_53178 [.ref 9, .int a2] ([x0, x1, x2, x3, x4, x5, x6, x7, x8, ia 4 r9, x10, x11, x12, x13, x14, x15, x16, x17, x18, x19, x20, x21, x22, x23, x24, x25, x26, x27, x28, x29, x30, x31, x32], wm) (fun r w' => r = none ∧ w' = ([x0, x1, x2, x3, x4, x5, x6, x7, x8, ia 4 (ovl (fun _ => a2) 4 r9), x10, x11, x12, x13, x14, x15, x16, x17, x18, x19, x20, x21, x22, x23, x24, x25, x26, x27, x28, x29, x30, x31, x32], wm)) := by
  refine ct_ofF ⟨by decide +kernel, rfl⟩ (Nat.le_of_ble_eq_true rfl) ?_
  refine ab_iconst (v := 0) dJ7_fill_53178_0 (by decide) ?_
  refine ab_istore_n (la' := [(2, .int 0), (0, .ref 9), (1, .int a2)]) dJ7_fill_53178_1 (by decide) rfl ?_
  refine ab_aload_n dJ7_fill_53178_2 rfl ?_
  refine ab_ialen (v := 4) dJ7_fill_53178_3 rfl (by decide) ?_
  refine ab_istore_n (la' := [(3, .int 4), (2, .int 0), (0, .ref 9), (1, .int a2)]) dJ7_fill_53178_4 (by decide) rfl ?_
  refine ab_pick [0, 1, 3, 2] rfl ?_
  refine lp_fillc (B := 4) rfl 4 0 r9 (by omega) ?_
  exact ab_vret dJ7_fill_53178_20 rfl (by decide) (⟨rfl, by rw [fillc]⟩)
theorem c_X2_clear {x0 x1 x2 x3 x4 x5 x6 x8 x10 x11 x12 x13 x14 x15 x16 x17 x18 x19 x20 x21 x22 x23 x24 x25 x26 x27 x28 x29 x30 x31 x32 : ax_E} {r9 : Nat → Int32} {wm : List ax_E}  : Ct M_X2_clear [.ref 7] ([x0, x1, x2, x3, x4, x5, x6, ob 2 [.ref 8, .ref 9], x8, ia 4 r9, x10, x11, x12, x13, x14, x15, x16, x17, x18, x19, x20, x21, x22, x23, x24, x25, x26, x27, x28, x29, x30, x31, x32], wm) (fun r w' => r = none ∧ w' = ([x0, x1, x2, x3, x4, x5, x6, ob 2 [.ref 8, .ref 9], x8, ia 4 (ovl (fun _ => 0) 4 r9), x10, x11, x12, x13, x14, x15, x16, x17, x18, x19, x20, x21, x22, x23, x24, x25, x26, x27, x28, x29, x30, x31, x32], wm)) := by
  refine ct_of ⟨by decide, rfl⟩ (Nat.le_of_ble_eq_true rfl) ?_
  refine ab_aload_n dX2_clear_0 rfl ?_
  refine ab_getf dX2_clear_1 fl_X2_15 rfl rfl ?_
  refine ab_iconst (v := 0) dX2_clear_4 (by decide) ?_
  refine ab_callS (As := [.ref 9, .int 0]) (rest := []) dX2_clear_5 ms_J7_fill_53178 ml_X2_18 ⟨by decide, by decide, rfl, rfl, rfl⟩ (by decide) rfl rfl (Nat.le_of_ble_eq_true rfl) c_fill_c ?_
  rintro r w' ⟨rfl, rfl⟩
  exact ab_vret dX2_clear_8 rfl (by decide) (⟨rfl, rfl⟩)
