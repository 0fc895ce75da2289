/-! THE HULL, by the class: rows of places as numbers -/
def nIf (so : Nat → Nat) : Nat → Int32 := fun j => nI (so j)
def updN (f : Nat → Nat) (k x : Nat) : Nat → Nat := fun j => if j = k then x else f j
theorem nIf_upd (so : Nat → Nat) (j x : Nat) : nIf (updN so j x) = upd (nIf so) j (nI x) := by
  funext i
  unfold nIf updN upd
  split <;> rfl
theorem cpy_nIf (f g : Nat → Nat) (a d m : Nat) : nIf (va_cpy f g a d m) = va_cpy (nIf f) (nIf g) a d m := by
  funext i
  unfold nIf va_cpy
  split <;> rfl
theorem cpy_eq {α : Type} {f g : Nat → α} {a d m : Nat} (ha : a < 2 ^ 31) (hd : d < 2 ^ 31) (hm : m < 2 ^ 31) : va_cpy f g a d m = va_cpy f g (nI a).toNatClampNeg (nI d).toNatClampNeg (nI m).toNatClampNeg := by
  rw [nI_clamp ha, nI_clamp hd, nI_clamp hm]
theorem cpy_ok {a d m n0 n1 : Nat} (h0 : a + m ≤ n0) (h1 : d + m ≤ n1) (hn0 : n0 < 2 ^ 31) (hn1 : n1 < 2 ^ 31) : ¬ nI a < 0 ∧ ¬ nI d < 0 ∧ ¬ nI m < 0 ∧ (nI a).toNatClampNeg + (nI m).toNatClampNeg ≤ n0 ∧ (nI d).toNatClampNeg + (nI m).toNatClampNeg ≤ n1 := by
  refine ⟨nI_pos (by omega), nI_pos (by omega), nI_pos (by omega), ?_, ?_⟩
  · rw [nI_clamp (by omega), nI_clamp (by omega)]; exact h0
  · rw [nI_clamp (by omega), nI_clamp (by omega)]; exact h1
theorem nIf_any (r : Nat → Int32) : r = nIf (fun j => (r j).toBitVec.toNat) := by
  funext j
  unfold nIf nI
  apply Int32.toBitVec_inj.mp
  simp
/-- down while p -/
def dnw (p : Nat → Bool) : Nat → Nat
  | 0 => 0
  | a + 1 => if p a = true then dnw p a else a + 1
termination_by a => a
theorem dnw_0 (p : Nat → Bool) : dnw p 0 = 0 := by rw [dnw]
theorem dnw_t {p : Nat → Bool} {a : Nat} (h : p a = true) : dnw p (a + 1) = dnw p a := by rw [dnw, if_pos h]
theorem dnw_f {p : Nat → Bool} {a : Nat} (h : ¬ p a = true) : dnw p (a + 1) = a + 1 := by rw [dnw, if_neg h]
theorem dnw_le (p : Nat → Bool) : ∀ a, dnw p a ≤ a
  | 0 => by rw [dnw_0]; exact Nat.le_refl 0
  | a + 1 => by
    by_cases h : p a = true
    · rw [dnw_t h]; have := dnw_le p a; omega
    · rw [dnw_f h]; exact Nat.le_refl _
abbrev lsC (x y : Nat → Int32) (i j : Nat) : Prop := x i < x j ∨ (x i = x j ∧ y i < y j)
theorem ins_lt {so : Nat → Nat} {i P a : Nat} (h : ∀ j, j < P → so j < i) (ha : a ≤ P) : ∀ j, j < P + 1 → updN (va_cpy so so a (a + 1) (P - a)) a i j < i + 1 := by
  intro j hj
  unfold updN va_cpy
  by_cases q : j = a
  · rw [if_pos q]; omega
  · rw [if_neg q]
    by_cases q2 : a + 1 ≤ j ∧ j < a + 1 + (P - a)
    · rw [if_pos q2]; have := h (a + (j - (a + 1))) (by omega); omega
    · rw [if_neg q2]; have := h j (by omega); omega
theorem sp_in {x0 x1 x2 x3 x4 x5 x6 x7 x8 x9 x10 x11 x15 x17 x18 x19 x20 x21 x22 x23 x24 x25 x26 x27 x28 x29 x30 x31 x32 : ax_E} {f12_7 f12_8 f12_9 : Int32} {r13 r14 : Nat → Int32} {wm : List ax_E} {so : Nat → Nat} {P c i : Nat} {Q : Option Value → ax_W → Prop} (hc : c ≤ 40) (hi : i < c) (hinv : P ≤ i ∧ ∀ j, j < P → so j < i) : ∀ a, a ≤ P → Ab M_X1_sortPlaces Q (0, 0) 46 [(2, .int (nI (dnw (fun a => decide (lsC r13 r14 i (so a))) a))), (1, .int (nI i)), (0, .ref 12)] [] ([x0, x1, x2, x3, x4, x5, x6, x7, x8, x9, x10, x11, ob 1 [.ref 13, .ref 14, .ref 15, .ref 16, .ref 17, .int (nI c), .int (nI P), .int f12_7, .int f12_8, .int f12_9], ia 40 r13, ia 40 r14, x15, ia 40 (nIf so), x17, x18, x19, x20, x21, x22, x23, x24, x25, x26, x27, x28, x29, x30, x31, x32], wm) → Ab M_X1_sortPlaces Q (0, 0) 20 [(2, .int (nI a)), (1, .int (nI i)), (0, .ref 12)] [] ([x0, x1, x2, x3, x4, x5, x6, x7, x8, x9, x10, x11, ob 1 [.ref 13, .ref 14, .ref 15, .ref 16, .ref 17, .int (nI c), .int (nI P), .int f12_7, .int f12_8, .int f12_9], ia 40 r13, ia 40 r14, x15, ia 40 (nIf so), x17, x18, x19, x20, x21, x22, x23, x24, x25, x26, x27, x28, x29, x30, x31, x32], wm) := by
  intro a
  induction a with
  | zero =>
    intro ha hx
    refine ab_iload_n dX1_sortPlaces_20 rfl ?_
    refine ab_ifle 46 dX1_sortPlaces_21 (by decide) (fun h_1 => ?_) (fun h_1 => absurd (by decide) h_1)
    refine ab_pick [0, 1, 2] rfl ?_
    rw [dnw_0] at hx
    exact hx
  | succ a ih =>
    intro ha hx
    refine ab_iload_n dX1_sortPlaces_20 rfl ?_
    refine ab_ifle 46 dX1_sortPlaces_21 (by decide) (fun h_1 => absurd h_1 (nI_nle (by omega) (by omega))) (fun h_1 => ?_)
    refine ab_aload_n dX1_sortPlaces_24 rfl ?_
    refine ab_iload_n dX1_sortPlaces_25 rfl ?_
    refine ab_aload_n dX1_sortPlaces_26 rfl ?_
    refine ab_getf dX1_sortPlaces_27 fl_X1_23 rfl rfl ?_
    refine ab_iload_n dX1_sortPlaces_30 rfl ?_
    refine ab_iconst (v := 1) dX1_sortPlaces_31 (by decide) ?_
    refine ab_isub dX1_sortPlaces_32 ?_
    refine ab_topi (v := (nI ((a + 1) - 1))) (pk_sub (b := 1) (by omega)) ?_
    refine ab_topi (v := (nI a)) rfl ?_
    refine ab_iald (j := a) dX1_sortPlaces_33 rfl (ix_nI (by omega) (by decide)) ?_
    refine ab_topi (v := (nI (so a))) rfl ?_
    refine ab_callV (As := [.int (nI i), .int (nI (so a))]) (rest := []) dX1_sortPlaces_34 mv_X1_isLess ml_X1_77 ⟨by decide, by decide, rfl, rfl, rfl⟩ (by decide) rfl rfl (Nat.le_of_ble_eq_true rfl) rfl (c_X1_isLess (j1 := i) (j2 := (so a)) (ix_nI (by omega) (by decide)) (ix_nI (by have := hinv.2 a (by omega); omega) (by decide))) ?_
    rintro r w' (⟨c_2, rfl, rfl⟩ | ⟨c_3, rfl, rfl⟩)
    · refine ab_ifeq 46 dX1_sortPlaces_37 (by decide) (fun h_4 => absurd h_4 (by decide)) (fun h_4 => ?_)
      refine ab_iinc (v := ((nI (a + 1)) + (-1))) (la' := [(2, .int ((nI (a + 1)) + (-1))), (1, .int (nI i)), (0, .ref 12)]) dX1_sortPlaces_40 rfl rfl (by decide) rfl ?_
      refine ab_goto 20 dX1_sortPlaces_43 (by decide) ?_
      refine ab_pick [0, 1, 2] rfl ?_
      rw [dnw_t (p := (fun a => decide (lsC r13 r14 i (so a)))) (decide_eq_true c_2)] at hx
      rw [pk_m1]
      exact ih (by omega) hx
    · refine ab_ifeq 46 dX1_sortPlaces_37 (by decide) (fun h_5 => ?_) (fun h_5 => absurd (by decide) h_5)
      refine ab_pick [0, 1, 2] rfl ?_
      rw [dnw_f (p := (fun a => decide (lsC r13 r14 i (so a)))) (by simp only [decide_eq_true_eq]; exact c_3)] at hx
      exact hx
def lp_sort_st (r13 : Nat → Int32) (r14 : Nat → Int32) (i : Nat) (so : Nat → Nat) (P : Nat) : (Nat → Nat) × Nat := (if (nI (dnw (fun a => decide (lsC r13 r14 i (so a))) P)) = 0 then ((updN (va_cpy so so (dnw (fun a => decide (lsC r13 r14 i (so a))) P) ((dnw (fun a => decide (lsC r13 r14 i (so a))) P) + 1) (P - (dnw (fun a => decide (lsC r13 r14 i (so a))) P))) (dnw (fun a => decide (lsC r13 r14 i (so a))) P) i), (P + 1)) else (if r13 (so ((dnw (fun a => decide (lsC r13 r14 i (so a))) P) - 1)) < r13 i ∨ (r13 (so ((dnw (fun a => decide (lsC r13 r14 i (so a))) P) - 1)) = r13 i ∧ r14 (so ((dnw (fun a => decide (lsC r13 r14 i (so a))) P) - 1)) < r14 i) then ((updN (va_cpy so so (dnw (fun a => decide (lsC r13 r14 i (so a))) P) ((dnw (fun a => decide (lsC r13 r14 i (so a))) P) + 1) (P - (dnw (fun a => decide (lsC r13 r14 i (so a))) P))) (dnw (fun a => decide (lsC r13 r14 i (so a))) P) i), (P + 1)) else (so, P)))
set_option maxHeartbeats 400000 in
theorem lp_sort {x0 x1 x2 x3 x4 x5 x6 x7 x8 x9 x10 x11 x15 x17 x18 x19 x20 x21 x22 x23 x24 x25 x26 x27 x28 x29 x30 x31 x32 : ax_E} {f12_7 f12_8 f12_9 : Int32} {r13 r14 : Nat → Int32} {wm : List ax_E} {c : Nat} {Q : Option Value → ax_W → Prop} (hc : c ≤ 40) : ∀ (n i : Nat) (so : Nat → Nat) (P : Nat) , i + n = c → (P ≤ i ∧ ∀ j, j < P → so j < i) → Ab M_X1_sortPlaces Q (0, 0) 110 [(1, .int (nI c)), (0, .ref 12)] [] ([x0, x1, x2, x3, x4, x5, x6, x7, x8, x9, x10, x11, ob 1 [.ref 13, .ref 14, .ref 15, .ref 16, .ref 17, .int (nI c), .int (nI (itr (fun i s => lp_sort_st r13 r14 i s.1 s.2) n i (so, P)).2), .int f12_7, .int f12_8, .int f12_9], ia 40 r13, ia 40 r14, x15, ia 40 (nIf (itr (fun i s => lp_sort_st r13 r14 i s.1 s.2) n i (so, P)).1), x17, x18, x19, x20, x21, x22, x23, x24, x25, x26, x27, x28, x29, x30, x31, x32], wm) → Ab M_X1_sortPlaces Q (0, 0) 7 [(1, .int (nI i)), (0, .ref 12)] [] ([x0, x1, x2, x3, x4, x5, x6, x7, x8, x9, x10, x11, ob 1 [.ref 13, .ref 14, .ref 15, .ref 16, .ref 17, .int (nI c), .int (nI P), .int f12_7, .int f12_8, .int f12_9], ia 40 r13, ia 40 r14, x15, ia 40 (nIf so), x17, x18, x19, x20, x21, x22, x23, x24, x25, x26, x27, x28, x29, x30, x31, x32], wm) := by
  intro n
  induction n with
  | zero =>
    intro i so P  hk hinv hx
    rw [itr_0] at hx
    obtain rfl : i = c := by omega
    refine ab_iload_n dX1_sortPlaces_7 rfl ?_
    refine ab_aload_n dX1_sortPlaces_8 rfl ?_
    refine ab_getf dX1_sortPlaces_9 fl_X1_29 rfl rfl ?_
    refine ab_icmpge 110 dX1_sortPlaces_12 (by decide) (fun h_1 => ?_) (fun h_1 => absurd (nI_le (Nat.le_refl _) (by omega)) h_1)
    refine ab_pick [0, 1] rfl ?_
    exact hx 
  | succ n ih =>
    intro i so P  hk hinv hx
    refine ab_iload_n dX1_sortPlaces_7 rfl ?_
    refine ab_aload_n dX1_sortPlaces_8 rfl ?_
    refine ab_getf dX1_sortPlaces_9 fl_X1_29 rfl rfl ?_
    refine ab_icmpge 110 dX1_sortPlaces_12 (by decide) (fun h_1 => absurd h_1 (nI_ge (a := i) (b := c) (by omega) (by omega))) (fun h_1 => ?_)
    refine ab_aload_n dX1_sortPlaces_15 rfl ?_
    refine ab_getf dX1_sortPlaces_16 fl_X1_33 rfl rfl ?_
    refine ab_istore_n (la' := [(2, .int (nI P)), (1, .int (nI i)), (0, .ref 12)]) dX1_sortPlaces_19 (by decide) rfl ?_
    refine ab_pick [0, 1, 2] rfl ?_
    refine sp_in hc (by omega) hinv P (Nat.le_refl P) ?_
    have hle := dnw_le (fun a => decide (lsC r13 r14 i (so a))) P
    refine ab_iload_n dX1_sortPlaces_46 rfl ?_
    refine ab_ifeq 66 dX1_sortPlaces_47 (by decide) (fun h_2 => ?_) (fun h_2 => ?_)
    · have h_2n := (nI_eq (a := (dnw (fun a => decide (lsC r13 r14 i (so a))) P)) (b := 0) (by omega) (by omega)).mp h_2
      refine ab_aload_n dX1_sortPlaces_66 rfl ?_
      refine ab_getf dX1_sortPlaces_67 fl_X1_23 rfl rfl ?_
      refine ab_iload_n dX1_sortPlaces_70 rfl ?_
      refine ab_aload_n dX1_sortPlaces_71 rfl ?_
      refine ab_getf dX1_sortPlaces_72 fl_X1_23 rfl rfl ?_
      refine ab_iload_n dX1_sortPlaces_75 rfl ?_
      refine ab_iconst (v := 1) dX1_sortPlaces_76 (by decide) ?_
      refine ab_iadd dX1_sortPlaces_77 ?_
      refine ab_topi (v := (nI ((dnw (fun a => decide (lsC r13 r14 i (so a))) P) + 1))) (nI_1 _) ?_
      refine ab_aload_n dX1_sortPlaces_78 rfl ?_
      refine ab_getf dX1_sortPlaces_79 fl_X1_33 rfl rfl ?_
      refine ab_iload_n dX1_sortPlaces_82 rfl ?_
      refine ab_isub dX1_sortPlaces_83 ?_
      refine ab_topi (v := (nI (P - (dnw (fun a => decide (lsC r13 r14 i (so a))) P)))) (pk_sub (by omega)) ?_
      refine ab_copyi (sp := nI (dnw (fun a => decide (lsC r13 r14 i (so a))) P)) (dp := nI ((dnw (fun a => decide (lsC r13 r14 i (so a))) P) + 1)) (n := nI (P - (dnw (fun a => decide (lsC r13 r14 i (so a))) P))) (w1 := ([x0, x1, x2, x3, x4, x5, x6, x7, x8, x9, x10, x11, ob 1 [.ref 13, .ref 14, .ref 15, .ref 16, .ref 17, .int (nI c), .int (nI P), .int f12_7, .int f12_8, .int f12_9], ia 40 r13, ia 40 r14, x15, ia 40 (va_cpy (nIf so) (nIf so) (nI (dnw (fun a => decide (lsC r13 r14 i (so a))) P)).toNatClampNeg (nI ((dnw (fun a => decide (lsC r13 r14 i (so a))) P) + 1)).toNatClampNeg (nI (P - (dnw (fun a => decide (lsC r13 r14 i (so a))) P))).toNatClampNeg), x17, x18, x19, x20, x21, x22, x23, x24, x25, x26, x27, x28, x29, x30, x31, x32], wm)) dX1_sortPlaces_84 ml_X1_81 ⟨by decide, Nat.le_of_ble_eq_true rfl⟩ rfl rfl (cpy_ok (by omega) (by omega) (by decide) (by decide)) rfl ?_
      refine ab_world ([x0, x1, x2, x3, x4, x5, x6, x7, x8, x9, x10, x11, ob 1 [.ref 13, .ref 14, .ref 15, .ref 16, .ref 17, .int (nI c), .int (nI P), .int f12_7, .int f12_8, .int f12_9], ia 40 r13, ia 40 r14, x15, ia 40 (nIf (va_cpy so so (dnw (fun a => decide (lsC r13 r14 i (so a))) P) ((dnw (fun a => decide (lsC r13 r14 i (so a))) P) + 1) (P - (dnw (fun a => decide (lsC r13 r14 i (so a))) P)))), x17, x18, x19, x20, x21, x22, x23, x24, x25, x26, x27, x28, x29, x30, x31, x32], wm) (by rw [cpy_eq (by omega) (by omega) (by omega), cpy_nIf]) ?_
      refine ab_aload_n dX1_sortPlaces_87 rfl ?_
      refine ab_getf dX1_sortPlaces_88 fl_X1_23 rfl rfl ?_
      refine ab_iload_n dX1_sortPlaces_91 rfl ?_
      refine ab_iload_n dX1_sortPlaces_92 rfl ?_
      refine ab_iast (w1 := ([x0, x1, x2, x3, x4, x5, x6, x7, x8, x9, x10, x11, ob 1 [.ref 13, .ref 14, .ref 15, .ref 16, .ref 17, .int (nI c), .int (nI P), .int f12_7, .int f12_8, .int f12_9], ia 40 r13, ia 40 r14, x15, ia 40 (upd (nIf (va_cpy so so (dnw (fun a => decide (lsC r13 r14 i (so a))) P) ((dnw (fun a => decide (lsC r13 r14 i (so a))) P) + 1) (P - (dnw (fun a => decide (lsC r13 r14 i (so a))) P)))) (dnw (fun a => decide (lsC r13 r14 i (so a))) P) (nI i)), x17, x18, x19, x20, x21, x22, x23, x24, x25, x26, x27, x28, x29, x30, x31, x32], wm)) dX1_sortPlaces_93 rfl (ix_nI (by omega) (by decide)) rfl ?_
      refine ab_world ([x0, x1, x2, x3, x4, x5, x6, x7, x8, x9, x10, x11, ob 1 [.ref 13, .ref 14, .ref 15, .ref 16, .ref 17, .int (nI c), .int (nI P), .int f12_7, .int f12_8, .int f12_9], ia 40 r13, ia 40 r14, x15, ia 40 (nIf (updN (va_cpy so so (dnw (fun a => decide (lsC r13 r14 i (so a))) P) ((dnw (fun a => decide (lsC r13 r14 i (so a))) P) + 1) (P - (dnw (fun a => decide (lsC r13 r14 i (so a))) P))) (dnw (fun a => decide (lsC r13 r14 i (so a))) P) i)), x17, x18, x19, x20, x21, x22, x23, x24, x25, x26, x27, x28, x29, x30, x31, x32], wm) (by rw [nIf_upd]) ?_
      refine ab_aload_n dX1_sortPlaces_94 rfl ?_
      refine ab_dup rfl dX1_sortPlaces_95 ?_
      refine ab_getf dX1_sortPlaces_96 fl_X1_33 rfl rfl ?_
      refine ab_iconst (v := 1) dX1_sortPlaces_99 (by decide) ?_
      refine ab_iadd dX1_sortPlaces_100 ?_
      refine ab_topi (v := (nI (P + 1))) (nI_1 _) ?_
      refine ab_putf (w1 := ([x0, x1, x2, x3, x4, x5, x6, x7, x8, x9, x10, x11, ob 1 [.ref 13, .ref 14, .ref 15, .ref 16, .ref 17, .int (nI c), .int (nI (P + 1)), .int f12_7, .int f12_8, .int f12_9], ia 40 r13, ia 40 r14, x15, ia 40 (nIf (updN (va_cpy so so (dnw (fun a => decide (lsC r13 r14 i (so a))) P) ((dnw (fun a => decide (lsC r13 r14 i (so a))) P) + 1) (P - (dnw (fun a => decide (lsC r13 r14 i (so a))) P))) (dnw (fun a => decide (lsC r13 r14 i (so a))) P) i)), x17, x18, x19, x20, x21, x22, x23, x24, x25, x26, x27, x28, x29, x30, x31, x32], wm)) dX1_sortPlaces_101 fl_X1_33 rfl (Nat.le_of_ble_eq_true rfl) (fun _ => ⟨rfl, rfl⟩) rfl ?_
      refine ab_iinc (v := (nI (i + 1))) (la' := [(1, .int (nI (i + 1))), (2, .int (nI (dnw (fun a => decide (lsC r13 r14 i (so a))) P))), (0, .ref 12)]) dX1_sortPlaces_104 rfl (nI_1 _) (by decide) rfl ?_
      refine ab_goto 7 dX1_sortPlaces_107 (by decide) ?_
      refine ab_pick [0, 2] rfl ?_
      rw [(itr_s (fun i s => lp_sort_st r13 r14 i s.1 s.2) n i (so, P)).trans (congrArg (itr (fun i s => lp_sort_st r13 r14 i s.1 s.2) n (i + 1)) (show lp_sort_st r13 r14 i so P = ((updN (va_cpy so so (dnw (fun a => decide (lsC r13 r14 i (so a))) P) ((dnw (fun a => decide (lsC r13 r14 i (so a))) P) + 1) (P - (dnw (fun a => decide (lsC r13 r14 i (so a))) P))) (dnw (fun a => decide (lsC r13 r14 i (so a))) P) i), (P + 1)) from by rw [lp_sort_st, if_pos (show (nI (dnw (fun a => decide (lsC r13 r14 i (so a))) P)) = 0 from h_2)]))] at hx
      exact ih (i + 1) (updN (va_cpy so so (dnw (fun a => decide (lsC r13 r14 i (so a))) P) ((dnw (fun a => decide (lsC r13 r14 i (so a))) P) + 1) (P - (dnw (fun a => decide (lsC r13 r14 i (so a))) P))) (dnw (fun a => decide (lsC r13 r14 i (so a))) P) i) (P + 1)  (by omega) (⟨by omega, ins_lt hinv.2 hle⟩) hx
    · have h_2n : ¬ _ := fun z => h_2 ((nI_eq (a := (dnw (fun a => decide (lsC r13 r14 i (so a))) P)) (b := 0) (by omega) (by omega)).mpr z)
      refine ab_aload_n dX1_sortPlaces_50 rfl ?_
      refine ab_aload_n dX1_sortPlaces_51 rfl ?_
      refine ab_getf dX1_sortPlaces_52 fl_X1_23 rfl rfl ?_
      refine ab_iload_n dX1_sortPlaces_55 rfl ?_
      refine ab_iconst (v := 1) dX1_sortPlaces_56 (by decide) ?_
      refine ab_isub dX1_sortPlaces_57 ?_
      refine ab_topi (v := (nI ((dnw (fun a => decide (lsC r13 r14 i (so a))) P) - 1))) (pk_sub (b := 1) (by omega)) ?_
      refine ab_iald (j := ((dnw (fun a => decide (lsC r13 r14 i (so a))) P) - 1)) dX1_sortPlaces_58 rfl (ix_nI (by omega) (by decide)) ?_
      refine ab_topi (v := (nI (so ((dnw (fun a => decide (lsC r13 r14 i (so a))) P) - 1)))) rfl ?_
      refine ab_iload_n dX1_sortPlaces_59 rfl ?_
      refine ab_callV (As := [.int (nI (so ((dnw (fun a => decide (lsC r13 r14 i (so a))) P) - 1))), .int (nI i)]) (rest := []) dX1_sortPlaces_60 mv_X1_isLess ml_X1_77 ⟨by decide, by decide, rfl, rfl, rfl⟩ (by decide) rfl rfl (Nat.le_of_ble_eq_true rfl) rfl (c_X1_isLess (j1 := (so ((dnw (fun a => decide (lsC r13 r14 i (so a))) P) - 1))) (j2 := i) (ix_nI (by have := hinv.2 ((dnw (fun a => decide (lsC r13 r14 i (so a))) P) - 1) (by omega); omega) (by decide)) (ix_nI (by omega) (by decide))) ?_
      rintro r w' (⟨c_3, rfl, rfl⟩ | ⟨c_4, rfl, rfl⟩)
      · refine ab_ifeq 104 dX1_sortPlaces_63 (by decide) (fun h_5 => absurd h_5 (by decide)) (fun h_5 => ?_)
        refine ab_aload_n dX1_sortPlaces_66 rfl ?_
        refine ab_getf dX1_sortPlaces_67 fl_X1_23 rfl rfl ?_
        refine ab_iload_n dX1_sortPlaces_70 rfl ?_
        refine ab_aload_n dX1_sortPlaces_71 rfl ?_
        refine ab_getf dX1_sortPlaces_72 fl_X1_23 rfl rfl ?_
        refine ab_iload_n dX1_sortPlaces_75 rfl ?_
        refine ab_iconst (v := 1) dX1_sortPlaces_76 (by decide) ?_
        refine ab_iadd dX1_sortPlaces_77 ?_
        refine ab_topi (v := (nI ((dnw (fun a => decide (lsC r13 r14 i (so a))) P) + 1))) (nI_1 _) ?_
        refine ab_aload_n dX1_sortPlaces_78 rfl ?_
        refine ab_getf dX1_sortPlaces_79 fl_X1_33 rfl rfl ?_
        refine ab_iload_n dX1_sortPlaces_82 rfl ?_
        refine ab_isub dX1_sortPlaces_83 ?_
        refine ab_topi (v := (nI (P - (dnw (fun a => decide (lsC r13 r14 i (so a))) P)))) (pk_sub (by omega)) ?_
        refine ab_copyi (sp := nI (dnw (fun a => decide (lsC r13 r14 i (so a))) P)) (dp := nI ((dnw (fun a => decide (lsC r13 r14 i (so a))) P) + 1)) (n := nI (P - (dnw (fun a => decide (lsC r13 r14 i (so a))) P))) (w1 := ([x0, x1, x2, x3, x4, x5, x6, x7, x8, x9, x10, x11, ob 1 [.ref 13, .ref 14, .ref 15, .ref 16, .ref 17, .int (nI c), .int (nI P), .int f12_7, .int f12_8, .int f12_9], ia 40 r13, ia 40 r14, x15, ia 40 (va_cpy (nIf so) (nIf so) (nI (dnw (fun a => decide (lsC r13 r14 i (so a))) P)).toNatClampNeg (nI ((dnw (fun a => decide (lsC r13 r14 i (so a))) P) + 1)).toNatClampNeg (nI (P - (dnw (fun a => decide (lsC r13 r14 i (so a))) P))).toNatClampNeg), x17, x18, x19, x20, x21, x22, x23, x24, x25, x26, x27, x28, x29, x30, x31, x32], wm)) dX1_sortPlaces_84 ml_X1_81 ⟨by decide, Nat.le_of_ble_eq_true rfl⟩ rfl rfl (cpy_ok (by omega) (by omega) (by decide) (by decide)) rfl ?_
        refine ab_world ([x0, x1, x2, x3, x4, x5, x6, x7, x8, x9, x10, x11, ob 1 [.ref 13, .ref 14, .ref 15, .ref 16, .ref 17, .int (nI c), .int (nI P), .int f12_7, .int f12_8, .int f12_9], ia 40 r13, ia 40 r14, x15, ia 40 (nIf (va_cpy so so (dnw (fun a => decide (lsC r13 r14 i (so a))) P) ((dnw (fun a => decide (lsC r13 r14 i (so a))) P) + 1) (P - (dnw (fun a => decide (lsC r13 r14 i (so a))) P)))), x17, x18, x19, x20, x21, x22, x23, x24, x25, x26, x27, x28, x29, x30, x31, x32], wm) (by rw [cpy_eq (by omega) (by omega) (by omega), cpy_nIf]) ?_
        refine ab_aload_n dX1_sortPlaces_87 rfl ?_
        refine ab_getf dX1_sortPlaces_88 fl_X1_23 rfl rfl ?_
        refine ab_iload_n dX1_sortPlaces_91 rfl ?_
        refine ab_iload_n dX1_sortPlaces_92 rfl ?_
        refine ab_iast (w1 := ([x0, x1, x2, x3, x4, x5, x6, x7, x8, x9, x10, x11, ob 1 [.ref 13, .ref 14, .ref 15, .ref 16, .ref 17, .int (nI c), .int (nI P), .int f12_7, .int f12_8, .int f12_9], ia 40 r13, ia 40 r14, x15, ia 40 (upd (nIf (va_cpy so so (dnw (fun a => decide (lsC r13 r14 i (so a))) P) ((dnw (fun a => decide (lsC r13 r14 i (so a))) P) + 1) (P - (dnw (fun a => decide (lsC r13 r14 i (so a))) P)))) (dnw (fun a => decide (lsC r13 r14 i (so a))) P) (nI i)), x17, x18, x19, x20, x21, x22, x23, x24, x25, x26, x27, x28, x29, x30, x31, x32], wm)) dX1_sortPlaces_93 rfl (ix_nI (by omega) (by decide)) rfl ?_
        refine ab_world ([x0, x1, x2, x3, x4, x5, x6, x7, x8, x9, x10, x11, ob 1 [.ref 13, .ref 14, .ref 15, .ref 16, .ref 17, .int (nI c), .int (nI P), .int f12_7, .int f12_8, .int f12_9], ia 40 r13, ia 40 r14, x15, ia 40 (nIf (updN (va_cpy so so (dnw (fun a => decide (lsC r13 r14 i (so a))) P) ((dnw (fun a => decide (lsC r13 r14 i (so a))) P) + 1) (P - (dnw (fun a => decide (lsC r13 r14 i (so a))) P))) (dnw (fun a => decide (lsC r13 r14 i (so a))) P) i)), x17, x18, x19, x20, x21, x22, x23, x24, x25, x26, x27, x28, x29, x30, x31, x32], wm) (by rw [nIf_upd]) ?_
        refine ab_aload_n dX1_sortPlaces_94 rfl ?_
        refine ab_dup rfl dX1_sortPlaces_95 ?_
        refine ab_getf dX1_sortPlaces_96 fl_X1_33 rfl rfl ?_
        refine ab_iconst (v := 1) dX1_sortPlaces_99 (by decide) ?_
        refine ab_iadd dX1_sortPlaces_100 ?_
        refine ab_topi (v := (nI (P + 1))) (nI_1 _) ?_
        refine ab_putf (w1 := ([x0, x1, x2, x3, x4, x5, x6, x7, x8, x9, x10, x11, ob 1 [.ref 13, .ref 14, .ref 15, .ref 16, .ref 17, .int (nI c), .int (nI (P + 1)), .int f12_7, .int f12_8, .int f12_9], ia 40 r13, ia 40 r14, x15, ia 40 (nIf (updN (va_cpy so so (dnw (fun a => decide (lsC r13 r14 i (so a))) P) ((dnw (fun a => decide (lsC r13 r14 i (so a))) P) + 1) (P - (dnw (fun a => decide (lsC r13 r14 i (so a))) P))) (dnw (fun a => decide (lsC r13 r14 i (so a))) P) i)), x17, x18, x19, x20, x21, x22, x23, x24, x25, x26, x27, x28, x29, x30, x31, x32], wm)) dX1_sortPlaces_101 fl_X1_33 rfl (Nat.le_of_ble_eq_true rfl) (fun _ => ⟨rfl, rfl⟩) rfl ?_
        refine ab_iinc (v := (nI (i + 1))) (la' := [(1, .int (nI (i + 1))), (2, .int (nI (dnw (fun a => decide (lsC r13 r14 i (so a))) P))), (0, .ref 12)]) dX1_sortPlaces_104 rfl (nI_1 _) (by decide) rfl ?_
        refine ab_goto 7 dX1_sortPlaces_107 (by decide) ?_
        refine ab_pick [0, 2] rfl ?_
        rw [(itr_s (fun i s => lp_sort_st r13 r14 i s.1 s.2) n i (so, P)).trans (congrArg (itr (fun i s => lp_sort_st r13 r14 i s.1 s.2) n (i + 1)) (show lp_sort_st r13 r14 i so P = ((updN (va_cpy so so (dnw (fun a => decide (lsC r13 r14 i (so a))) P) ((dnw (fun a => decide (lsC r13 r14 i (so a))) P) + 1) (P - (dnw (fun a => decide (lsC r13 r14 i (so a))) P))) (dnw (fun a => decide (lsC r13 r14 i (so a))) P) i), (P + 1)) from by rw [lp_sort_st, if_neg (show ¬ (nI (dnw (fun a => decide (lsC r13 r14 i (so a))) P)) = 0 from h_2), if_pos (show r13 (so ((dnw (fun a => decide (lsC r13 r14 i (so a))) P) - 1)) < r13 i ∨ (r13 (so ((dnw (fun a => decide (lsC r13 r14 i (so a))) P) - 1)) = r13 i ∧ r14 (so ((dnw (fun a => decide (lsC r13 r14 i (so a))) P) - 1)) < r14 i) from c_3)]))] at hx
        exact ih (i + 1) (updN (va_cpy so so (dnw (fun a => decide (lsC r13 r14 i (so a))) P) ((dnw (fun a => decide (lsC r13 r14 i (so a))) P) + 1) (P - (dnw (fun a => decide (lsC r13 r14 i (so a))) P))) (dnw (fun a => decide (lsC r13 r14 i (so a))) P) i) (P + 1)  (by omega) (⟨by omega, ins_lt hinv.2 hle⟩) hx
      · refine ab_ifeq 104 dX1_sortPlaces_63 (by decide) (fun h_6 => ?_) (fun h_6 => absurd (by decide) h_6)
        refine ab_iinc (v := (nI (i + 1))) (la' := [(1, .int (nI (i + 1))), (2, .int (nI (dnw (fun a => decide (lsC r13 r14 i (so a))) P))), (0, .ref 12)]) dX1_sortPlaces_104 rfl (nI_1 _) (by decide) rfl ?_
        refine ab_goto 7 dX1_sortPlaces_107 (by decide) ?_
        refine ab_pick [0, 2] rfl ?_
        rw [(itr_s (fun i s => lp_sort_st r13 r14 i s.1 s.2) n i (so, P)).trans (congrArg (itr (fun i s => lp_sort_st r13 r14 i s.1 s.2) n (i + 1)) (show lp_sort_st r13 r14 i so P = (so, P) from by rw [lp_sort_st, if_neg (show ¬ (nI (dnw (fun a => decide (lsC r13 r14 i (so a))) P)) = 0 from h_2), if_neg (show ¬ (r13 (so ((dnw (fun a => decide (lsC r13 r14 i (so a))) P) - 1)) < r13 i ∨ (r13 (so ((dnw (fun a => decide (lsC r13 r14 i (so a))) P) - 1)) = r13 i ∧ r14 (so ((dnw (fun a => decide (lsC r13 r14 i (so a))) P) - 1)) < r14 i)) from c_4)]))] at hx
        exact ih (i + 1) so P  (by omega) (⟨by omega, fun j hj => Nat.lt_succ_of_lt (hinv.2 j hj)⟩) hx
theorem c_X1_sortPlaces {x0 x1 x2 x3 x4 x5 x6 x7 x8 x9 x10 x11 x15 x17 x18 x19 x20 x21 x22 x23 x24 x25 x26 x27 x28 x29 x30 x31 x32 : ax_E} {f12_6 f12_7 f12_8 f12_9 : Int32} {r13 r14 : Nat → Int32} {wm : List ax_E} {c : Nat} {so : Nat → Nat} (hc : c ≤ 40) : Ct M_X1_sortPlaces [.ref 12] ([x0, x1, x2, x3, x4, x5, x6, x7, x8, x9, x10, x11, ob 1 [.ref 13, .ref 14, .ref 15, .ref 16, .ref 17, .int (nI c), .int f12_6, .int f12_7, .int f12_8, .int f12_9], ia 40 r13, ia 40 r14, x15, ia 40 (nIf so), x17, x18, x19, x20, x21, x22, x23, x24, x25, x26, x27, x28, x29, x30, x31, x32], wm) (fun r w' => r = none ∧ w' = ([x0, x1, x2, x3, x4, x5, x6, x7, x8, x9, x10, x11, ob 1 [.ref 13, .ref 14, .ref 15, .ref 16, .ref 17, .int (nI c), .int (nI (itr (fun i s => lp_sort_st r13 r14 i s.1 s.2) c 0 (so, 0)).2), .int f12_7, .int f12_8, .int f12_9], ia 40 r13, ia 40 r14, x15, ia 40 (nIf (itr (fun i s => lp_sort_st r13 r14 i s.1 s.2) c 0 (so, 0)).1), x17, x18, x19, x20, x21, x22, x23, x24, x25, x26, x27, x28, x29, x30, x31, x32], wm)) := by
  refine ct_of ⟨by decide, rfl⟩ (Nat.le_of_ble_eq_true rfl) ?_
  refine ab_aload_n dX1_sortPlaces_0 rfl ?_
  refine ab_iconst (v := 0) dX1_sortPlaces_1 (by decide) ?_
  refine ab_putf (w1 := ([x0, x1, x2, x3, x4, x5, x6, x7, x8, x9, x10, x11, ob 1 [.ref 13, .ref 14, .ref 15, .ref 16, .ref 17, .int (nI c), .int 0, .int f12_7, .int f12_8, .int f12_9], ia 40 r13, ia 40 r14, x15, ia 40 (nIf so), x17, x18, x19, x20, x21, x22, x23, x24, x25, x26, x27, x28, x29, x30, x31, x32], wm)) dX1_sortPlaces_2 fl_X1_33 rfl (Nat.le_of_ble_eq_true rfl) (fun _ => ⟨rfl, rfl⟩) rfl ?_
  refine ab_iconst (v := 0) dX1_sortPlaces_5 (by decide) ?_
  refine ab_istore_n (la' := [(1, .int 0), (0, .ref 12)]) dX1_sortPlaces_6 (by decide) rfl ?_
  refine ab_pick [0, 1] rfl ?_
  refine lp_sort hc c 0 so 0 (by omega) (⟨by omega, fun j hj => absurd hj (by omega)⟩) ?_
  exact ab_vret dX1_sortPlaces_110 rfl (by decide) (⟨rfl, rfl⟩)
