/-- the angle behind, the angle ahead -/
def nx (a : Nat) : Nat := if a + 1 < 40 then a + 1 else 0
def pv (a : Nat) : Nat := if a = 0 then 39 else a - 1
theorem nx_lt {a : Nat} (h : a < 40) : nx a < 40 := by unfold nx; split <;> omega
theorem pv_lt {a : Nat} (h : a < 40) : pv a < 40 := by unfold pv; split <;> omega
theorem tn_next_nI {a : Nat} (h : a < 40) : Tn_next (nI a) = nI (nx a) := by
  have : ∀ a, a < 40 → Tn_next (nI a) = nI (nx a) := by decide +kernel
  exact this a h
theorem tn_prev_nI {a : Nat} (h : a < 40) : Tn_prev (nI a) = nI (pv a) := by
  have : ∀ a, a < 40 → Tn_prev (nI a) = nI (pv a) := by decide +kernel
  exact this a h
theorem mn_next_nI {a : Nat} (h : a < 40) : Mn_next (nI a) = nI (nx a) := by
  have : ∀ a, a < 40 → Mn_next (nI a) = nI (nx a) := by decide +kernel
  exact this a h
theorem mn_prev_nI {a : Nat} (h : a < 40) : Mn_prev (nI a) = nI (pv a) := by
  have : ∀ a, a < 40 → Mn_prev (nI a) = nI (pv a) := by decide +kernel
  exact this a h
/-- how far a walk goes from a, at most n steps: how many, and where -/
def goF (ok : Nat → Bool) (f : Nat → Nat) : Nat → Nat → Nat × Nat
  | 0, a => (0, a)
  | n + 1, a => if ok (f a) = true then ((goF ok f n (f a)).1 + 1, (goF ok f n (f a)).2) else (0, a)
theorem goF_t {ok : Nat → Bool} {f : Nat → Nat} {n a : Nat} (h : ok (f a) = true) : goF ok f (n + 1) a = ((goF ok f n (f a)).1 + 1, (goF ok f n (f a)).2) := by show (if _ then _ else _) = _; rw [if_pos h]
theorem goF_f {ok : Nat → Bool} {f : Nat → Nat} {n a : Nat} (h : ¬ ok (f a) = true) : goF ok f (n + 1) a = (0, a) := by show (if _ then _ else _) = _; rw [if_neg h]
theorem goF_lt {ok : Nat → Bool} {f : Nat → Nat} (hf : ∀ a, a < 40 → f a < 40) : ∀ n a, a < 40 → (goF ok f n a).2 < 40
  | 0, a, h => h
  | n + 1, a, h => by
    by_cases q : ok (f a) = true
    · rw [goF_t q]; exact goF_lt hf n (f a) (hf a h)
    · rw [goF_f q]; exact h
theorem lp_go0 {x0 x1 x2 x3 x4 x5 x6 x7 x8 x9 x10 x11 x12 x13 x14 x15 x16 x17 x18 x19 x20 x21 x22 x23 x24 x27 x28 x29 x30 x31 x32 : ax_E} {r26 : Nat → Int32} {wm : List ax_E} {f25_3 f25_4 f25_6 : Int32} {m : Nat} (hm : m < 2 ^ 31) : ∀ (n i a : Nat) (d : Int32), i + n = m → a < 40 → Ab M_X8_go (fun r w' => r = some (.int (nI (i + (goF (fun j => !decide (r26 j = 0)) nx n a).1))) ∧ w' = ([x0, x1, x2, x3, x4, x5, x6, x7, x8, x9, x10, x11, x12, x13, x14, x15, x16, x17, x18, x19, x20, x21, x22, x23, x24, ob 7 [.ref 26, .ref 27, .ref 28, .int f25_3, .int f25_4, .int (nI (goF (fun j => !decide (r26 j = 0)) nx n a).2), .int f25_6, .int (d + nI (goF (fun j => !decide (r26 j = 0)) nx n a).1)], ia 40 r26, x27, x28, x29, x30, x31, x32], wm)) (0, 0) 2 [(3, .int (nI i)), (0, .ref 25), (1, .int (nI m)), (2, .int 0)] [] ([x0, x1, x2, x3, x4, x5, x6, x7, x8, x9, x10, x11, x12, x13, x14, x15, x16, x17, x18, x19, x20, x21, x22, x23, x24, ob 7 [.ref 26, .ref 27, .ref 28, .int f25_3, .int f25_4, .int (nI a), .int f25_6, .int d], ia 40 r26, x27, x28, x29, x30, x31, x32], wm) := by
  intro n
  induction n with
  | zero =>
    intro i a d hi ha
    refine ab_iload_n dX8_go_2 rfl ?_
    refine ab_iload_n dX8_go_3 rfl ?_
    refine ab_icmpge 64 dX8_go_4 (by decide) (fun h_1 => ?_) (fun h_1 => absurd (nI_le (by omega) (by omega)) h_1)
    refine ab_iload_n dX8_go_64 rfl ?_
    exact ab_iret dX8_go_65 rfl (by decide) ⟨by rw [show i = m by omega]; rfl, by rw [show nI (goF _ _ 0 a).1 = 0 from rfl, Int32.add_zero]; rfl⟩
  | succ n ih =>
    intro i a d hi ha
    refine ab_iload_n dX8_go_2 rfl ?_
    refine ab_iload_n dX8_go_3 rfl ?_
    refine ab_icmpge 64 dX8_go_4 (by decide) (fun h_1 => absurd h_1 (nI_ge (by omega) (by omega))) (fun h_1 => ?_)
    refine ab_iload_n dX8_go_7 rfl ?_
    refine ab_ifeq 21 dX8_go_8 (by decide) (fun h_2 => ?_) (fun h_2 => absurd (by decide) h_2)
    refine ab_aload_n dX8_go_21 rfl ?_
    refine ab_getf dX8_go_22 fl_X8_30 rfl rfl ?_
    refine ab_callS (As := [.int (nI a)]) (rest := []) dX8_go_25 ms_X7_behind ml_X8_47 ⟨by decide, by decide, rfl, rfl, rfl⟩ (by decide) rfl rfl (Nat.le_of_ble_eq_true rfl) c_X7_behind_t ?_
    rintro r w' ⟨rfl, rfl⟩
    refine ab_topi (v := (nI (nx a))) (tn_next_nI ha) ?_
    refine ab_istore (la' := [(4, .int (nI (nx a))), (3, .int (nI i)), (0, .ref 25), (1, .int (nI m)), (2, .int 0)]) dX8_go_28 (by decide) rfl ?_
    refine ab_aload_n dX8_go_30 rfl ?_
    refine ab_getf dX8_go_31 fl_X8_11 rfl rfl ?_
    refine ab_iload dX8_go_34 rfl ?_
    refine ab_iald (j := (nx a)) dX8_go_36 rfl (ix_nI (nx_lt ha) (by decide)) ?_
    refine ab_ifne 42 dX8_go_37 (by decide) (fun h_3 => ?_) (fun h_3 => ?_)
    · refine ab_aload_n dX8_go_42 rfl ?_
      refine ab_iload dX8_go_43 rfl ?_
      refine ab_putf (w1 := ([x0, x1, x2, x3, x4, x5, x6, x7, x8, x9, x10, x11, x12, x13, x14, x15, x16, x17, x18, x19, x20, x21, x22, x23, x24, ob 7 [.ref 26, .ref 27, .ref 28, .int f25_3, .int f25_4, .int (nI (nx a)), .int f25_6, .int d], ia 40 r26, x27, x28, x29, x30, x31, x32], wm)) dX8_go_45 fl_X8_30 rfl (Nat.le_of_ble_eq_true rfl) (fun _ => ⟨rfl, rfl⟩) rfl ?_
      refine ab_aload_n dX8_go_48 rfl ?_
      refine ab_dup rfl dX8_go_49 ?_
      refine ab_getf dX8_go_50 fl_X8_36 rfl rfl ?_
      refine ab_iconst (v := 1) dX8_go_53 (by decide) ?_
      refine ab_iadd dX8_go_54 ?_
      refine ab_putf (w1 := ([x0, x1, x2, x3, x4, x5, x6, x7, x8, x9, x10, x11, x12, x13, x14, x15, x16, x17, x18, x19, x20, x21, x22, x23, x24, ob 7 [.ref 26, .ref 27, .ref 28, .int f25_3, .int f25_4, .int (nI (nx a)), .int f25_6, .int (d + 1)], ia 40 r26, x27, x28, x29, x30, x31, x32], wm)) dX8_go_55 fl_X8_36 rfl (Nat.le_of_ble_eq_true rfl) (fun _ => ⟨rfl, rfl⟩) rfl ?_
      refine ab_iinc (v := (nI (i + 1))) (la' := [(3, .int (nI (i + 1))), (4, .int (nI (nx a))), (0, .ref 25), (1, .int (nI m)), (2, .int 0)]) dX8_go_58 rfl (nI_1 _) (by decide) rfl ?_
      refine ab_goto 2 dX8_go_61 (by decide) ?_
      refine ab_pick [0, 2, 3, 4] rfl ?_
      have e1 : goF (fun j => !decide (r26 j = 0)) nx (n + 1) a = _ := goF_t (by simp only [Bool.not_eq_true', decide_eq_false_iff_not]; exact h_3)
      refine Ct.mono2 (ih (i + 1) (nx a) (d + 1) (by omega) (nx_lt ha)) ?_
      rintro r w' ⟨h1, h2⟩
      rw [e1]
      refine ⟨by rw [h1]; exact congrArg (fun z => some (Value.int (nI z))) (by omega), ?_⟩
      rw [h2]
      rw [show d + 1 + nI (goF (fun j => !decide (r26 j = 0)) nx n (nx a)).1 = d + nI ((goF (fun j => !decide (r26 j = 0)) nx n (nx a)).1 + 1) by rw [← nI_1]; grind]
    · refine ab_iload_n dX8_go_40 rfl ?_
      exact ab_iret dX8_go_41 rfl (by decide) (by rw [show goF (fun j => !decide (r26 j = 0)) nx (n + 1) a = (0, a) from goF_f (by simp only [Bool.not_eq_true', decide_eq_false_iff_not]; exact fun z => z h_3)]; exact ⟨by rw [Nat.add_zero], by rw [show nI ((0, a) : Nat × Nat).1 = 0 from rfl, Int32.add_zero]⟩)
theorem c_X8_go_0 {x0 x1 x2 x3 x4 x5 x6 x7 x8 x9 x10 x11 x12 x13 x14 x15 x16 x17 x18 x19 x20 x21 x22 x23 x24 x27 x28 x29 x30 x31 x32 : ax_E} {f25_3 f25_4 f25_6 f25_7 : Int32} {r26 : Nat → Int32} {wm : List ax_E} {m a : Nat} (hm : m < 2 ^ 31) (ha : a < 40) : Ct M_X8_go [.ref 25, .int (nI m), .int 0] ([x0, x1, x2, x3, x4, x5, x6, x7, x8, x9, x10, x11, x12, x13, x14, x15, x16, x17, x18, x19, x20, x21, x22, x23, x24, ob 7 [.ref 26, .ref 27, .ref 28, .int f25_3, .int f25_4, .int (nI a), .int f25_6, .int f25_7], ia 40 r26, x27, x28, x29, x30, x31, x32], wm) (fun r w' => r = some (.int (nI (0 + (goF (fun j => !decide (r26 j = 0)) nx m a).1))) ∧ w' = ([x0, x1, x2, x3, x4, x5, x6, x7, x8, x9, x10, x11, x12, x13, x14, x15, x16, x17, x18, x19, x20, x21, x22, x23, x24, ob 7 [.ref 26, .ref 27, .ref 28, .int f25_3, .int f25_4, .int (nI (goF (fun j => !decide (r26 j = 0)) nx m a).2), .int f25_6, .int (f25_7 + nI (goF (fun j => !decide (r26 j = 0)) nx m a).1)], ia 40 r26, x27, x28, x29, x30, x31, x32], wm)) := by
  refine ct_of ⟨by decide, rfl⟩ (Nat.le_of_ble_eq_true rfl) ?_
  refine ab_iconst (v := 0) dX8_go_0 (by decide) ?_
  refine ab_istore_n (la' := [(3, .int 0), (0, .ref 25), (1, .int (nI m)), (2, .int 0)]) dX8_go_1 (by decide) rfl ?_
  refine ab_pick [0, 1, 2, 3] rfl ?_
  exact lp_go0 hm m 0 a f25_7 (by omega) ha
theorem lp_go1 {x0 x1 x2 x3 x4 x5 x6 x7 x8 x9 x10 x11 x12 x13 x14 x15 x16 x17 x18 x19 x20 x21 x22 x23 x24 x27 x28 x29 x30 x31 x32 : ax_E} {r26 : Nat → Int32} {wm : List ax_E} {f25_3 f25_4 f25_6 : Int32} {m : Nat} (hm : m < 2 ^ 31) : ∀ (n i a : Nat) (d : Int32), i + n = m → a < 40 → Ab M_X8_go (fun r w' => r = some (.int (nI (i + (goF (fun j => !decide (r26 j = 0)) pv n a).1))) ∧ w' = ([x0, x1, x2, x3, x4, x5, x6, x7, x8, x9, x10, x11, x12, x13, x14, x15, x16, x17, x18, x19, x20, x21, x22, x23, x24, ob 7 [.ref 26, .ref 27, .ref 28, .int f25_3, .int f25_4, .int (nI (goF (fun j => !decide (r26 j = 0)) pv n a).2), .int f25_6, .int (d + nI (goF (fun j => !decide (r26 j = 0)) pv n a).1)], ia 40 r26, x27, x28, x29, x30, x31, x32], wm)) (0, 0) 2 [(3, .int (nI i)), (0, .ref 25), (1, .int (nI m)), (2, .int 1)] [] ([x0, x1, x2, x3, x4, x5, x6, x7, x8, x9, x10, x11, x12, x13, x14, x15, x16, x17, x18, x19, x20, x21, x22, x23, x24, ob 7 [.ref 26, .ref 27, .ref 28, .int f25_3, .int f25_4, .int (nI a), .int f25_6, .int d], ia 40 r26, x27, x28, x29, x30, x31, x32], wm) := by
  intro n
  induction n with
  | zero =>
    intro i a d hi ha
    refine ab_iload_n dX8_go_2 rfl ?_
    refine ab_iload_n dX8_go_3 rfl ?_
    refine ab_icmpge 64 dX8_go_4 (by decide) (fun h_1 => ?_) (fun h_1 => absurd (nI_le (by omega) (by omega)) h_1)
    refine ab_iload_n dX8_go_64 rfl ?_
    exact ab_iret dX8_go_65 rfl (by decide) ⟨by rw [show i = m by omega]; rfl, by rw [show nI (goF _ _ 0 a).1 = 0 from rfl, Int32.add_zero]; rfl⟩
  | succ n ih =>
    intro i a d hi ha
    refine ab_iload_n dX8_go_2 rfl ?_
    refine ab_iload_n dX8_go_3 rfl ?_
    refine ab_icmpge 64 dX8_go_4 (by decide) (fun h_1 => absurd h_1 (nI_ge (by omega) (by omega))) (fun h_1 => ?_)
    refine ab_iload_n dX8_go_7 rfl ?_
    refine ab_ifeq 21 dX8_go_8 (by decide) (fun h_2 => absurd h_2 (by decide)) (fun h_2 => ?_)
    refine ab_aload_n dX8_go_11 rfl ?_
    refine ab_getf dX8_go_12 fl_X8_30 rfl rfl ?_
    refine ab_callS (As := [.int (nI a)]) (rest := []) dX8_go_15 ms_X7_ahead ml_X8_43 ⟨by decide, by decide, rfl, rfl, rfl⟩ (by decide) rfl rfl (Nat.le_of_ble_eq_true rfl) c_X7_ahead_t ?_
    rintro r w' ⟨rfl, rfl⟩
    refine ab_topi (v := (nI (pv a))) (tn_prev_nI ha) ?_
    refine ab_goto 28 dX8_go_18 (by decide) ?_
    refine ab_istore (la' := [(4, .int (nI (pv a))), (3, .int (nI i)), (0, .ref 25), (1, .int (nI m)), (2, .int 1)]) dX8_go_28 (by decide) rfl ?_
    refine ab_aload_n dX8_go_30 rfl ?_
    refine ab_getf dX8_go_31 fl_X8_11 rfl rfl ?_
    refine ab_iload dX8_go_34 rfl ?_
    refine ab_iald (j := (pv a)) dX8_go_36 rfl (ix_nI (pv_lt ha) (by decide)) ?_
    refine ab_ifne 42 dX8_go_37 (by decide) (fun h_3 => ?_) (fun h_3 => ?_)
    · refine ab_aload_n dX8_go_42 rfl ?_
      refine ab_iload dX8_go_43 rfl ?_
      refine ab_putf (w1 := ([x0, x1, x2, x3, x4, x5, x6, x7, x8, x9, x10, x11, x12, x13, x14, x15, x16, x17, x18, x19, x20, x21, x22, x23, x24, ob 7 [.ref 26, .ref 27, .ref 28, .int f25_3, .int f25_4, .int (nI (pv a)), .int f25_6, .int d], ia 40 r26, x27, x28, x29, x30, x31, x32], wm)) dX8_go_45 fl_X8_30 rfl (Nat.le_of_ble_eq_true rfl) (fun _ => ⟨rfl, rfl⟩) rfl ?_
      refine ab_aload_n dX8_go_48 rfl ?_
      refine ab_dup rfl dX8_go_49 ?_
      refine ab_getf dX8_go_50 fl_X8_36 rfl rfl ?_
      refine ab_iconst (v := 1) dX8_go_53 (by decide) ?_
      refine ab_iadd dX8_go_54 ?_
      refine ab_putf (w1 := ([x0, x1, x2, x3, x4, x5, x6, x7, x8, x9, x10, x11, x12, x13, x14, x15, x16, x17, x18, x19, x20, x21, x22, x23, x24, ob 7 [.ref 26, .ref 27, .ref 28, .int f25_3, .int f25_4, .int (nI (pv a)), .int f25_6, .int (d + 1)], ia 40 r26, x27, x28, x29, x30, x31, x32], wm)) dX8_go_55 fl_X8_36 rfl (Nat.le_of_ble_eq_true rfl) (fun _ => ⟨rfl, rfl⟩) rfl ?_
      refine ab_iinc (v := (nI (i + 1))) (la' := [(3, .int (nI (i + 1))), (4, .int (nI (pv a))), (0, .ref 25), (1, .int (nI m)), (2, .int 1)]) dX8_go_58 rfl (nI_1 _) (by decide) rfl ?_
      refine ab_goto 2 dX8_go_61 (by decide) ?_
      refine ab_pick [0, 2, 3, 4] rfl ?_
      have e1 : goF (fun j => !decide (r26 j = 0)) pv (n + 1) a = _ := goF_t (by simp only [Bool.not_eq_true', decide_eq_false_iff_not]; exact h_3)
      refine Ct.mono2 (ih (i + 1) (pv a) (d + 1) (by omega) (pv_lt ha)) ?_
      rintro r w' ⟨h1, h2⟩
      rw [e1]
      refine ⟨by rw [h1]; exact congrArg (fun z => some (Value.int (nI z))) (by omega), ?_⟩
      rw [h2]
      rw [show d + 1 + nI (goF (fun j => !decide (r26 j = 0)) pv n (pv a)).1 = d + nI ((goF (fun j => !decide (r26 j = 0)) pv n (pv a)).1 + 1) by rw [← nI_1]; grind]
    · refine ab_iload_n dX8_go_40 rfl ?_
      exact ab_iret dX8_go_41 rfl (by decide) (by rw [show goF (fun j => !decide (r26 j = 0)) pv (n + 1) a = (0, a) from goF_f (by simp only [Bool.not_eq_true', decide_eq_false_iff_not]; exact fun z => z h_3)]; exact ⟨by rw [Nat.add_zero], by rw [show nI ((0, a) : Nat × Nat).1 = 0 from rfl, Int32.add_zero]⟩)
theorem c_X8_go_1 {x0 x1 x2 x3 x4 x5 x6 x7 x8 x9 x10 x11 x12 x13 x14 x15 x16 x17 x18 x19 x20 x21 x22 x23 x24 x27 x28 x29 x30 x31 x32 : ax_E} {f25_3 f25_4 f25_6 f25_7 : Int32} {r26 : Nat → Int32} {wm : List ax_E} {m a : Nat} (hm : m < 2 ^ 31) (ha : a < 40) : Ct M_X8_go [.ref 25, .int (nI m), .int 1] ([x0, x1, x2, x3, x4, x5, x6, x7, x8, x9, x10, x11, x12, x13, x14, x15, x16, x17, x18, x19, x20, x21, x22, x23, x24, ob 7 [.ref 26, .ref 27, .ref 28, .int f25_3, .int f25_4, .int (nI a), .int f25_6, .int f25_7], ia 40 r26, x27, x28, x29, x30, x31, x32], wm) (fun r w' => r = some (.int (nI (0 + (goF (fun j => !decide (r26 j = 0)) pv m a).1))) ∧ w' = ([x0, x1, x2, x3, x4, x5, x6, x7, x8, x9, x10, x11, x12, x13, x14, x15, x16, x17, x18, x19, x20, x21, x22, x23, x24, ob 7 [.ref 26, .ref 27, .ref 28, .int f25_3, .int f25_4, .int (nI (goF (fun j => !decide (r26 j = 0)) pv m a).2), .int f25_6, .int (f25_7 + nI (goF (fun j => !decide (r26 j = 0)) pv m a).1)], ia 40 r26, x27, x28, x29, x30, x31, x32], wm)) := by
  refine ct_of ⟨by decide, rfl⟩ (Nat.le_of_ble_eq_true rfl) ?_
  refine ab_iconst (v := 0) dX8_go_0 (by decide) ?_
  refine ab_istore_n (la' := [(3, .int 0), (0, .ref 25), (1, .int (nI m)), (2, .int 1)]) dX8_go_1 (by decide) rfl ?_
  refine ab_pick [0, 1, 2, 3] rfl ?_
  exact lp_go1 hm m 0 a f25_7 (by omega) ha
