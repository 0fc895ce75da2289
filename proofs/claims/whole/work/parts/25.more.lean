/-- the same for a member of a class of which the machine has entries of its own, but not for this one -/
theorem ct_ofF {Y : ax_M} {as : List Value} {w : ax_W} {Q : Option Value → ax_W → Prop} (hp : plainFor Y.1 = true ∧ Y.2.2.2.2.2.2 = none) (hn : (lg_sl as).length ≤ Y.2.2.1) (h : Ab Y Q (0, 0) 0 (lv_args 0 as) [] w) : Ct Y as w Q := by
  intro l hfl D ca ad sz
  refine va_MetF (cc := Y.2.1) (maxL := Y.2.2.1) (ret := Y.2.2.2.1) hp.1 rfl ?_
  intro p e s m args below meth c s₁ B hml hv
  obtain ⟨rfl, hsz, hP, hK, hD0, hRO⟩ := hv
  have hts := atoms_spec (ws := .code Y.1 Y.2.1 Y.2.2.1 Y.2.2.2.1 :: TB) B.pre
  have hown : s.vm.findClass Y.1.cls = some m.cls := findClass_of_methodNamed B.named
  subst hsz
  have hD := hD0.self (sz := s.heap.size)
  have hl := lv_entry (as.map (ax_v ad)) (n := Y.2.2.1) (by rw [ax_sllen]; exact hn)
  rw [lg_entry_eq]
  rw [ax_lvargs] at hl
  refine h p l e _ s m _ below meth c D ca ad (va_A (ax_w ca ad w) s.heap.size) _ s.heap [] _ ⟨B.exec, B.bytes, hml, B.returns, hown, fun x hx => hts x (List.mem_cons_of_mem _ hx), B.notSynchronized, (name_of_methodNamed B.named B.method).1, rfl, hK, fun q hq => Or.inr hq, hRO, hfl, fun L xs hX => by rw [hp.2] at hX; cases hX⟩ ⟨hP, hD, va_S.rf⟩ hl ?_
  intro H locs ls k n ad' pc st r w' hq hret hag hrep hk hn2 hg1 hg2
  obtain ⟨hP', hD', hS'⟩ := hrep
  refine W.widen (k := Y.2.2.2.2.1.cells) (n := Y.2.2.2.2.1.slots) hk hn2 ?_
  have key : ∀ t : State, t.heap = H → ∀ o, o = .returned (r.map (ax_v ad')) → ax_Qc Y.2.2.2.2.2.1 D ca ad w s.heap.size Q (as.map (ax_v ad)).toArray s o t := fun t ht o ho =>
    ⟨⟨r, w', ad', ho, hq, hag, hg1, hg2, by rw [ht]; exact hP', hD'⟩, hS'.F ht⟩
  rcases hret with ⟨v, ty, d, rfl, rfl, hty, hnar⟩ | ⟨v, d, rfl, rfl, hty⟩ | ⟨d, rfl, rfl, hty⟩ | ⟨i, nm, d, rfl, rfl, hty⟩
  · exact W.zret B.exec B.bytes (B.returns.trans hty) hnar (fun t ht hW => key t ht _ rfl) hS'.2.2 d B.notSynchronized
  · exact W.lret B.exec B.bytes (B.returns.trans hty) (fun t ht hW => key t ht _ rfl) hS'.2.2 d B.notSynchronized
  · exact W.vret B.exec B.bytes (B.returns.trans hty) (fun t ht hW => key t ht _ rfl) hS'.2.2 d B.notSynchronized
  · exact W.aret B.exec B.bytes (B.returns.trans hty) (Or.inl ⟨nm, rfl⟩) (Or.inr ⟨_, rfl⟩) (fun t ht hW => key t ht _ rfl) hS'.2.2 d B.notSynchronized
theorem c_X1_empty {x0 x1 x2 x3 x4 x5 x6 x7 x8 x9 x10 x11 x13 x14 x15 x16 x17 x18 x19 x20 x21 x22 x23 x24 x25 x26 x27 x28 x29 x30 x31 x32 : ax_E} {f12_5 f12_6 f12_7 f12_8 f12_9 : Int32} {wm : List ax_E}  : Ct M_X1_empty [.ref 12] ([x0, x1, x2, x3, x4, x5, x6, x7, x8, x9, x10, x11, ob 1 [.ref 13, .ref 14, .ref 15, .ref 16, .ref 17, .int f12_5, .int f12_6, .int f12_7, .int f12_8, .int f12_9], x13, x14, x15, x16, x17, x18, x19, x20, x21, x22, x23, x24, x25, x26, x27, x28, x29, x30, x31, x32], wm) (fun r w' => r = none ∧ w' = ([x0, x1, x2, x3, x4, x5, x6, x7, x8, x9, x10, x11, ob 1 [.ref 13, .ref 14, .ref 15, .ref 16, .ref 17, .int 0, .int f12_6, .int f12_7, .int f12_8, .int f12_9], x13, x14, x15, x16, x17, x18, x19, x20, x21, x22, x23, x24, x25, x26, x27, x28, x29, x30, x31, x32], wm)) := by
  refine ct_of ⟨by decide, rfl⟩ (Nat.le_of_ble_eq_true rfl) ?_
  refine ab_aload_n dX1_empty_0 rfl ?_
  refine ab_iconst (v := 0) dX1_empty_1 (by decide) ?_
  refine ab_putf (w1 := ([x0, x1, x2, x3, x4, x5, x6, x7, x8, x9, x10, x11, ob 1 [.ref 13, .ref 14, .ref 15, .ref 16, .ref 17, .int 0, .int f12_6, .int f12_7, .int f12_8, .int f12_9], x13, x14, x15, x16, x17, x18, x19, x20, x21, x22, x23, x24, x25, x26, x27, x28, x29, x30, x31, x32], wm)) dX1_empty_2 fl_X1_29 rfl (Nat.le_of_ble_eq_true rfl) (fun _ => ⟨rfl, rfl⟩) rfl ?_
  exact ab_vret dX1_empty_5 rfl (by decide) (⟨rfl, rfl⟩)
theorem c_X1_length {x0 x1 x2 x3 x4 x5 x6 x7 x8 x9 x10 x11 x13 x14 x15 x16 x17 x18 x19 x20 x21 x22 x23 x24 x25 x26 x27 x28 x29 x30 x31 x32 : ax_E} {f12_5 f12_6 f12_7 f12_8 f12_9 : Int32} {wm : List ax_E}  : Ct M_X1_length [.ref 12] ([x0, x1, x2, x3, x4, x5, x6, x7, x8, x9, x10, x11, ob 1 [.ref 13, .ref 14, .ref 15, .ref 16, .ref 17, .int f12_5, .int f12_6, .int f12_7, .int f12_8, .int f12_9], x13, x14, x15, x16, x17, x18, x19, x20, x21, x22, x23, x24, x25, x26, x27, x28, x29, x30, x31, x32], wm) (fun r w' => r = some (.int f12_5) ∧ w' = ([x0, x1, x2, x3, x4, x5, x6, x7, x8, x9, x10, x11, ob 1 [.ref 13, .ref 14, .ref 15, .ref 16, .ref 17, .int f12_5, .int f12_6, .int f12_7, .int f12_8, .int f12_9], x13, x14, x15, x16, x17, x18, x19, x20, x21, x22, x23, x24, x25, x26, x27, x28, x29, x30, x31, x32], wm)) := by
  refine ct_of ⟨by decide, rfl⟩ (Nat.le_of_ble_eq_true rfl) ?_
  refine ab_aload_n dX1_length_0 rfl ?_
  refine ab_getf dX1_length_1 fl_X1_29 rfl rfl ?_
  exact ab_iret dX1_length_4 rfl (by decide) (⟨rfl, rfl⟩)
theorem c_X1_runLength {x0 x1 x2 x3 x4 x5 x6 x7 x8 x9 x10 x11 x13 x14 x15 x16 x17 x18 x19 x20 x21 x22 x23 x24 x25 x26 x27 x28 x29 x30 x31 x32 : ax_E} {f12_5 f12_6 f12_7 f12_8 f12_9 : Int32} {wm : List ax_E}  : Ct M_X1_runLength [.ref 12] ([x0, x1, x2, x3, x4, x5, x6, x7, x8, x9, x10, x11, ob 1 [.ref 13, .ref 14, .ref 15, .ref 16, .ref 17, .int f12_5, .int f12_6, .int f12_7, .int f12_8, .int f12_9], x13, x14, x15, x16, x17, x18, x19, x20, x21, x22, x23, x24, x25, x26, x27, x28, x29, x30, x31, x32], wm) (fun r w' => r = some (.int f12_9) ∧ w' = ([x0, x1, x2, x3, x4, x5, x6, x7, x8, x9, x10, x11, ob 1 [.ref 13, .ref 14, .ref 15, .ref 16, .ref 17, .int f12_5, .int f12_6, .int f12_7, .int f12_8, .int f12_9], x13, x14, x15, x16, x17, x18, x19, x20, x21, x22, x23, x24, x25, x26, x27, x28, x29, x30, x31, x32], wm)) := by
  refine ct_of ⟨by decide, rfl⟩ (Nat.le_of_ble_eq_true rfl) ?_
  refine ab_aload_n dX1_runLength_0 rfl ?_
  refine ab_getf dX1_runLength_1 fl_X1_42 rfl rfl ?_
  exact ab_iret dX1_runLength_4 rfl (by decide) (⟨rfl, rfl⟩)
theorem c_X1_isEmpty {x0 x1 x2 x3 x4 x5 x6 x7 x8 x9 x10 x11 x13 x14 x15 x16 x17 x18 x19 x20 x21 x22 x23 x24 x25 x26 x27 x28 x29 x30 x31 x32 : ax_E} {f12_5 f12_6 f12_7 f12_8 f12_9 : Int32} {wm : List ax_E}  : Ct M_X1_isEmpty [.ref 12] ([x0, x1, x2, x3, x4, x5, x6, x7, x8, x9, x10, x11, ob 1 [.ref 13, .ref 14, .ref 15, .ref 16, .ref 17, .int f12_5, .int f12_6, .int f12_7, .int f12_8, .int f12_9], x13, x14, x15, x16, x17, x18, x19, x20, x21, x22, x23, x24, x25, x26, x27, x28, x29, x30, x31, x32], wm) (fun r w' => ((f12_5 = 0) ∧ r = some (.int 1) ∧ w' = ([x0, x1, x2, x3, x4, x5, x6, x7, x8, x9, x10, x11, ob 1 [.ref 13, .ref 14, .ref 15, .ref 16, .ref 17, .int f12_5, .int f12_6, .int f12_7, .int f12_8, .int f12_9], x13, x14, x15, x16, x17, x18, x19, x20, x21, x22, x23, x24, x25, x26, x27, x28, x29, x30, x31, x32], wm)) ∨ ((¬ (f12_5 = 0)) ∧ r = some (.int 0) ∧ w' = ([x0, x1, x2, x3, x4, x5, x6, x7, x8, x9, x10, x11, ob 1 [.ref 13, .ref 14, .ref 15, .ref 16, .ref 17, .int f12_5, .int f12_6, .int f12_7, .int f12_8, .int f12_9], x13, x14, x15, x16, x17, x18, x19, x20, x21, x22, x23, x24, x25, x26, x27, x28, x29, x30, x31, x32], wm))) := by
  refine ct_of ⟨by decide, rfl⟩ (Nat.le_of_ble_eq_true rfl) ?_
  refine ab_aload_n dX1_isEmpty_0 rfl ?_
  refine ab_getf dX1_isEmpty_1 fl_X1_29 rfl rfl ?_
  refine ab_ifne 11 dX1_isEmpty_4 (by decide) (fun h_1 => ?_) (fun h_1 => ?_)
  · refine ab_iconst (v := 0) dX1_isEmpty_11 (by decide) ?_
    exact ab_zret dX1_isEmpty_12 rfl rfl (by decide) (Or.inr (⟨(by grind), rfl, rfl⟩))
  · refine ab_iconst (v := 1) dX1_isEmpty_7 (by decide) ?_
    refine ab_goto 12 dX1_isEmpty_8 (by decide) ?_
    exact ab_zret dX1_isEmpty_12 rfl rfl (by decide) (Or.inl (⟨(by grind), rfl, rfl⟩))
def Cv_next (f12_5 : Int32) (a1 : Int32) : Int32 := (if f12_5 ≤ (a1 + 1) then 0 else (a1 + 1))
theorem c_X1_next {x0 x1 x2 x3 x4 x5 x6 x7 x8 x9 x10 x11 x13 x14 x15 x16 x17 x18 x19 x20 x21 x22 x23 x24 x25 x26 x27 x28 x29 x30 x31 x32 : ax_E} {f12_5 f12_6 f12_7 f12_8 f12_9 a1 : Int32} {wm : List ax_E}  : Ct M_X1_next [.ref 12, .int a1] ([x0, x1, x2, x3, x4, x5, x6, x7, x8, x9, x10, x11, ob 1 [.ref 13, .ref 14, .ref 15, .ref 16, .ref 17, .int f12_5, .int f12_6, .int f12_7, .int f12_8, .int f12_9], x13, x14, x15, x16, x17, x18, x19, x20, x21, x22, x23, x24, x25, x26, x27, x28, x29, x30, x31, x32], wm) (fun r w' => r = some (.int (Cv_next f12_5 a1)) ∧ w' = ([x0, x1, x2, x3, x4, x5, x6, x7, x8, x9, x10, x11, ob 1 [.ref 13, .ref 14, .ref 15, .ref 16, .ref 17, .int f12_5, .int f12_6, .int f12_7, .int f12_8, .int f12_9], x13, x14, x15, x16, x17, x18, x19, x20, x21, x22, x23, x24, x25, x26, x27, x28, x29, x30, x31, x32], wm)) := by
  refine ct_of ⟨by decide, rfl⟩ (Nat.le_of_ble_eq_true rfl) ?_
  refine ab_iload_n dX1_next_0 rfl ?_
  refine ab_iconst (v := 1) dX1_next_1 (by decide) ?_
  refine ab_iadd dX1_next_2 ?_
  refine ab_aload_n dX1_next_3 rfl ?_
  refine ab_getf dX1_next_4 fl_X1_29 rfl rfl ?_
  refine ab_icmpge 16 dX1_next_7 (by decide) (fun h_1 => ?_) (fun h_1 => ?_)
  · refine ab_iconst (v := 0) dX1_next_16 (by decide) ?_
    exact ab_iret dX1_next_17 rfl (by decide) (⟨by rw [Cv_next, if_pos (show f12_5 ≤ (a1 + 1) from h_1)], rfl⟩)
  · refine ab_iload_n dX1_next_10 rfl ?_
    refine ab_iconst (v := 1) dX1_next_11 (by decide) ?_
    refine ab_iadd dX1_next_12 ?_
    refine ab_goto 17 dX1_next_13 (by decide) ?_
    exact ab_iret dX1_next_17 rfl (by decide) (⟨by rw [Cv_next, if_neg (show ¬ f12_5 ≤ (a1 + 1) from h_1)], rfl⟩)
def Cv_cr (r13 : Nat → Int32) (r14 : Nat → Int32) (j1 : Nat) (j2 : Nat) : Int64 := (((Int32.toInt64 (r13 j1)) * (Int32.toInt64 (r14 j2))) - ((Int32.toInt64 (r13 j2)) * (Int32.toInt64 (r14 j1))))
theorem c_X1_crossed {x0 x1 x2 x3 x4 x5 x6 x7 x8 x9 x10 x11 x15 x16 x17 x18 x19 x20 x21 x22 x23 x24 x25 x26 x27 x28 x29 x30 x31 x32 : ax_E} {f12_5 f12_6 f12_7 f12_8 f12_9 a1 a2 : Int32} {r13 r14 : Nat → Int32} {wm : List ax_E} {j1 j2 : Nat} (h_j1 : ax_ix a1 40 j1) (h_j2 : ax_ix a2 40 j2) : Ct M_X1_crossed [.ref 12, .int a1, .int a2] ([x0, x1, x2, x3, x4, x5, x6, x7, x8, x9, x10, x11, ob 1 [.ref 13, .ref 14, .ref 15, .ref 16, .ref 17, .int f12_5, .int f12_6, .int f12_7, .int f12_8, .int f12_9], ia 40 r13, ia 40 r14, x15, x16, x17, x18, x19, x20, x21, x22, x23, x24, x25, x26, x27, x28, x29, x30, x31, x32], wm) (fun r w' => r = some (.long (Cv_cr r13 r14 j1 j2)) ∧ w' = ([x0, x1, x2, x3, x4, x5, x6, x7, x8, x9, x10, x11, ob 1 [.ref 13, .ref 14, .ref 15, .ref 16, .ref 17, .int f12_5, .int f12_6, .int f12_7, .int f12_8, .int f12_9], ia 40 r13, ia 40 r14, x15, x16, x17, x18, x19, x20, x21, x22, x23, x24, x25, x26, x27, x28, x29, x30, x31, x32], wm)) := by
  refine ct_of ⟨by decide, rfl⟩ (Nat.le_of_ble_eq_true rfl) ?_
  refine ab_aload_n dX1_crossed_0 rfl ?_
  refine ab_getf dX1_crossed_1 fl_X1_11 rfl rfl ?_
  refine ab_iload_n dX1_crossed_4 rfl ?_
  refine ab_iald (j := j1) dX1_crossed_5 rfl h_j1 ?_
  refine ab_i2l dX1_crossed_6 ?_
  refine ab_aload_n dX1_crossed_7 rfl ?_
  refine ab_getf dX1_crossed_8 fl_X1_17 rfl rfl ?_
  refine ab_iload_n dX1_crossed_11 rfl ?_
  refine ab_iald (j := j2) dX1_crossed_12 rfl h_j2 ?_
  refine ab_i2l dX1_crossed_13 ?_
  refine ab_lmul dX1_crossed_14 ?_
  refine ab_aload_n dX1_crossed_15 rfl ?_
  refine ab_getf dX1_crossed_16 fl_X1_11 rfl rfl ?_
  refine ab_iload_n dX1_crossed_19 rfl ?_
  refine ab_iald (j := j2) dX1_crossed_20 rfl h_j2 ?_
  refine ab_i2l dX1_crossed_21 ?_
  refine ab_aload_n dX1_crossed_22 rfl ?_
  refine ab_getf dX1_crossed_23 fl_X1_17 rfl rfl ?_
  refine ab_iload_n dX1_crossed_26 rfl ?_
  refine ab_iald (j := j1) dX1_crossed_27 rfl h_j1 ?_
  refine ab_i2l dX1_crossed_28 ?_
  refine ab_lmul dX1_crossed_29 ?_
  refine ab_lsub dX1_crossed_30 ?_
  exact ab_lret dX1_crossed_31 rfl (by decide) (⟨rfl, rfl⟩)
def Cv_bend (r13 : Nat → Int32) (r14 : Nat → Int32) (j1 : Nat) (j2 : Nat) (j3 : Nat) : Int64 := (((Int32.toInt64 ((r13 j2) - (r13 j1))) * (Int32.toInt64 ((r14 j3) - (r14 j1)))) - ((Int32.toInt64 ((r14 j2) - (r14 j1))) * (Int32.toInt64 ((r13 j3) - (r13 j1)))))
theorem c_X1_bend {x0 x1 x2 x3 x4 x5 x6 x7 x8 x9 x10 x11 x15 x16 x17 x18 x19 x20 x21 x22 x23 x24 x25 x26 x27 x28 x29 x30 x31 x32 : ax_E} {f12_5 f12_6 f12_7 f12_8 f12_9 a1 a2 a3 : Int32} {r13 r14 : Nat → Int32} {wm : List ax_E} {j1 j2 j3 : Nat} (h_j1 : ax_ix a1 40 j1) (h_j2 : ax_ix a2 40 j2) (h_j3 : ax_ix a3 40 j3) : Ct M_X1_bend [.ref 12, .int a1, .int a2, .int a3] ([x0, x1, x2, x3, x4, x5, x6, x7, x8, x9, x10, x11, ob 1 [.ref 13, .ref 14, .ref 15, .ref 16, .ref 17, .int f12_5, .int f12_6, .int f12_7, .int f12_8, .int f12_9], ia 40 r13, ia 40 r14, x15, x16, x17, x18, x19, x20, x21, x22, x23, x24, x25, x26, x27, x28, x29, x30, x31, x32], wm) (fun r w' => r = some (.long (Cv_bend r13 r14 j1 j2 j3)) ∧ w' = ([x0, x1, x2, x3, x4, x5, x6, x7, x8, x9, x10, x11, ob 1 [.ref 13, .ref 14, .ref 15, .ref 16, .ref 17, .int f12_5, .int f12_6, .int f12_7, .int f12_8, .int f12_9], ia 40 r13, ia 40 r14, x15, x16, x17, x18, x19, x20, x21, x22, x23, x24, x25, x26, x27, x28, x29, x30, x31, x32], wm)) := by
  refine ct_of ⟨by decide, rfl⟩ (Nat.le_of_ble_eq_true rfl) ?_
  refine ab_aload_n dX1_bend_0 rfl ?_
  refine ab_getf dX1_bend_1 fl_X1_11 rfl rfl ?_
  refine ab_iload_n dX1_bend_4 rfl ?_
  refine ab_iald (j := j2) dX1_bend_5 rfl h_j2 ?_
  refine ab_aload_n dX1_bend_6 rfl ?_
  refine ab_getf dX1_bend_7 fl_X1_11 rfl rfl ?_
  refine ab_iload_n dX1_bend_10 rfl ?_
  refine ab_iald (j := j1) dX1_bend_11 rfl h_j1 ?_
  refine ab_isub dX1_bend_12 ?_
  refine ab_i2l dX1_bend_13 ?_
  refine ab_aload_n dX1_bend_14 rfl ?_
  refine ab_getf dX1_bend_15 fl_X1_17 rfl rfl ?_
  refine ab_iload_n dX1_bend_18 rfl ?_
  refine ab_iald (j := j3) dX1_bend_19 rfl h_j3 ?_
  refine ab_aload_n dX1_bend_20 rfl ?_
  refine ab_getf dX1_bend_21 fl_X1_17 rfl rfl ?_
  refine ab_iload_n dX1_bend_24 rfl ?_
  refine ab_iald (j := j1) dX1_bend_25 rfl h_j1 ?_
  refine ab_isub dX1_bend_26 ?_
  refine ab_i2l dX1_bend_27 ?_
  refine ab_lmul dX1_bend_28 ?_
  refine ab_aload_n dX1_bend_29 rfl ?_
  refine ab_getf dX1_bend_30 fl_X1_17 rfl rfl ?_
  refine ab_iload_n dX1_bend_33 rfl ?_
  refine ab_iald (j := j2) dX1_bend_34 rfl h_j2 ?_
  refine ab_aload_n dX1_bend_35 rfl ?_
  refine ab_getf dX1_bend_36 fl_X1_17 rfl rfl ?_
  refine ab_iload_n dX1_bend_39 rfl ?_
  refine ab_iald (j := j1) dX1_bend_40 rfl h_j1 ?_
  refine ab_isub dX1_bend_41 ?_
  refine ab_i2l dX1_bend_42 ?_
  refine ab_aload_n dX1_bend_43 rfl ?_
  refine ab_getf dX1_bend_44 fl_X1_11 rfl rfl ?_
  refine ab_iload_n dX1_bend_47 rfl ?_
  refine ab_iald (j := j3) dX1_bend_48 rfl h_j3 ?_
  refine ab_aload_n dX1_bend_49 rfl ?_
  refine ab_getf dX1_bend_50 fl_X1_11 rfl rfl ?_
  refine ab_iload_n dX1_bend_53 rfl ?_
  refine ab_iald (j := j1) dX1_bend_54 rfl h_j1 ?_
  refine ab_isub dX1_bend_55 ?_
  refine ab_i2l dX1_bend_56 ?_
  refine ab_lmul dX1_bend_57 ?_
  refine ab_lsub dX1_bend_58 ?_
  exact ab_lret dX1_bend_59 rfl (by decide) (⟨rfl, rfl⟩)
theorem c_X1_isLess {x0 x1 x2 x3 x4 x5 x6 x7 x8 x9 x10 x11 x15 x16 x17 x18 x19 x20 x21 x22 x23 x24 x25 x26 x27 x28 x29 x30 x31 x32 : ax_E} {f12_5 f12_6 f12_7 f12_8 f12_9 a1 a2 : Int32} {r13 r14 : Nat → Int32} {wm : List ax_E} {j1 j2 : Nat} (h_j1 : ax_ix a1 40 j1) (h_j2 : ax_ix a2 40 j2) : Ct M_X1_isLess [.ref 12, .int a1, .int a2] ([x0, x1, x2, x3, x4, x5, x6, x7, x8, x9, x10, x11, ob 1 [.ref 13, .ref 14, .ref 15, .ref 16, .ref 17, .int f12_5, .int f12_6, .int f12_7, .int f12_8, .int f12_9], ia 40 r13, ia 40 r14, x15, x16, x17, x18, x19, x20, x21, x22, x23, x24, x25, x26, x27, x28, x29, x30, x31, x32], wm) (fun r w' => ((r13 j1 < r13 j2 ∨ (r13 j1 = r13 j2 ∧ r14 j1 < r14 j2)) ∧ r = some (.int 1) ∧ w' = ([x0, x1, x2, x3, x4, x5, x6, x7, x8, x9, x10, x11, ob 1 [.ref 13, .ref 14, .ref 15, .ref 16, .ref 17, .int f12_5, .int f12_6, .int f12_7, .int f12_8, .int f12_9], ia 40 r13, ia 40 r14, x15, x16, x17, x18, x19, x20, x21, x22, x23, x24, x25, x26, x27, x28, x29, x30, x31, x32], wm)) ∨ ((¬ (r13 j1 < r13 j2 ∨ (r13 j1 = r13 j2 ∧ r14 j1 < r14 j2))) ∧ r = some (.int 0) ∧ w' = ([x0, x1, x2, x3, x4, x5, x6, x7, x8, x9, x10, x11, ob 1 [.ref 13, .ref 14, .ref 15, .ref 16, .ref 17, .int f12_5, .int f12_6, .int f12_7, .int f12_8, .int f12_9], ia 40 r13, ia 40 r14, x15, x16, x17, x18, x19, x20, x21, x22, x23, x24, x25, x26, x27, x28, x29, x30, x31, x32], wm))) := by
  refine ct_of ⟨by decide, rfl⟩ (Nat.le_of_ble_eq_true rfl) ?_
  refine ab_aload_n dX1_isLess_0 rfl ?_
  refine ab_getf dX1_isLess_1 fl_X1_11 rfl rfl ?_
  refine ab_iload_n dX1_isLess_4 rfl ?_
  refine ab_iald (j := j1) dX1_isLess_5 rfl h_j1 ?_
  refine ab_aload_n dX1_isLess_6 rfl ?_
  refine ab_getf dX1_isLess_7 fl_X1_11 rfl rfl ?_
  refine ab_iload_n dX1_isLess_10 rfl ?_
  refine ab_iald (j := j2) dX1_isLess_11 rfl h_j2 ?_
  refine ab_icmplt 45 dX1_isLess_12 (by decide) (fun h_1 => ?_) (fun h_1 => ?_)
  · refine ab_iconst (v := 1) dX1_isLess_45 (by decide) ?_
    refine ab_goto 50 dX1_isLess_46 (by decide) ?_
    exact ab_zret dX1_isLess_50 rfl rfl (by decide) (Or.inl (⟨(by grind), rfl, rfl⟩))
  · refine ab_aload_n dX1_isLess_15 rfl ?_
    refine ab_getf dX1_isLess_16 fl_X1_11 rfl rfl ?_
    refine ab_iload_n dX1_isLess_19 rfl ?_
    refine ab_iald (j := j1) dX1_isLess_20 rfl h_j1 ?_
    refine ab_aload_n dX1_isLess_21 rfl ?_
    refine ab_getf dX1_isLess_22 fl_X1_11 rfl rfl ?_
    refine ab_iload_n dX1_isLess_25 rfl ?_
    refine ab_iald (j := j2) dX1_isLess_26 rfl h_j2 ?_
    refine ab_icmpne 49 dX1_isLess_27 (by decide) (fun h_2 => ?_) (fun h_2 => ?_)
    · refine ab_iconst (v := 0) dX1_isLess_49 (by decide) ?_
      exact ab_zret dX1_isLess_50 rfl rfl (by decide) (Or.inr (⟨(by grind), rfl, rfl⟩))
    · refine ab_aload_n dX1_isLess_30 rfl ?_
      refine ab_getf dX1_isLess_31 fl_X1_17 rfl rfl ?_
      refine ab_iload_n dX1_isLess_34 rfl ?_
      refine ab_iald (j := j1) dX1_isLess_35 rfl h_j1 ?_
      refine ab_aload_n dX1_isLess_36 rfl ?_
      refine ab_getf dX1_isLess_37 fl_X1_17 rfl rfl ?_
      refine ab_iload_n dX1_isLess_40 rfl ?_
      refine ab_iald (j := j2) dX1_isLess_41 rfl h_j2 ?_
      refine ab_icmpge 49 dX1_isLess_42 (by decide) (fun h_3 => ?_) (fun h_3 => ?_)
      · refine ab_iconst (v := 0) dX1_isLess_49 (by decide) ?_
        exact ab_zret dX1_isLess_50 rfl rfl (by decide) (Or.inr (⟨(by grind), rfl, rfl⟩))
      · refine ab_iconst (v := 1) dX1_isLess_45 (by decide) ?_
        refine ab_goto 50 dX1_isLess_46 (by decide) ?_
        exact ab_zret dX1_isLess_50 rfl rfl (by decide) (Or.inl (⟨(by grind), rfl, rfl⟩))
def Cv_sq (r13 : Nat → Int32) (r14 : Nat → Int32) (a2 : Int32) (a3 : Int32) (j1 : Nat) : Int32 := ((((r13 j1) - a2) * ((r13 j1) - a2)) + (((r14 j1) - a3) * ((r14 j1) - a3)))
theorem c_X1_squareFrom {x0 x1 x2 x3 x4 x5 x6 x7 x8 x9 x10 x11 x15 x16 x17 x18 x19 x20 x21 x22 x23 x24 x25 x26 x27 x28 x29 x30 x31 x32 : ax_E} {f12_5 f12_6 f12_7 f12_8 f12_9 a1 a2 a3 : Int32} {r13 r14 : Nat → Int32} {wm : List ax_E} {j1 : Nat} (h_j1 : ax_ix a1 40 j1) : Ct M_X1_squareFrom [.ref 12, .int a1, .int a2, .int a3] ([x0, x1, x2, x3, x4, x5, x6, x7, x8, x9, x10, x11, ob 1 [.ref 13, .ref 14, .ref 15, .ref 16, .ref 17, .int f12_5, .int f12_6, .int f12_7, .int f12_8, .int f12_9], ia 40 r13, ia 40 r14, x15, x16, x17, x18, x19, x20, x21, x22, x23, x24, x25, x26, x27, x28, x29, x30, x31, x32], wm) (fun r w' => r = some (.int (Cv_sq r13 r14 a2 a3 j1)) ∧ w' = ([x0, x1, x2, x3, x4, x5, x6, x7, x8, x9, x10, x11, ob 1 [.ref 13, .ref 14, .ref 15, .ref 16, .ref 17, .int f12_5, .int f12_6, .int f12_7, .int f12_8, .int f12_9], ia 40 r13, ia 40 r14, x15, x16, x17, x18, x19, x20, x21, x22, x23, x24, x25, x26, x27, x28, x29, x30, x31, x32], wm)) := by
  refine ct_of ⟨by decide, rfl⟩ (Nat.le_of_ble_eq_true rfl) ?_
  refine ab_aload_n dX1_squareFrom_0 rfl ?_
  refine ab_getf dX1_squareFrom_1 fl_X1_11 rfl rfl ?_
  refine ab_iload_n dX1_squareFrom_4 rfl ?_
  refine ab_iald (j := j1) dX1_squareFrom_5 rfl h_j1 ?_
  refine ab_iload_n dX1_squareFrom_6 rfl ?_
  refine ab_isub dX1_squareFrom_7 ?_
  refine ab_aload_n dX1_squareFrom_8 rfl ?_
  refine ab_getf dX1_squareFrom_9 fl_X1_11 rfl rfl ?_
  refine ab_iload_n dX1_squareFrom_12 rfl ?_
  refine ab_iald (j := j1) dX1_squareFrom_13 rfl h_j1 ?_
  refine ab_iload_n dX1_squareFrom_14 rfl ?_
  refine ab_isub dX1_squareFrom_15 ?_
  refine ab_imul dX1_squareFrom_16 ?_
  refine ab_aload_n dX1_squareFrom_17 rfl ?_
  refine ab_getf dX1_squareFrom_18 fl_X1_17 rfl rfl ?_
  refine ab_iload_n dX1_squareFrom_21 rfl ?_
  refine ab_iald (j := j1) dX1_squareFrom_22 rfl h_j1 ?_
  refine ab_iload_n dX1_squareFrom_23 rfl ?_
  refine ab_isub dX1_squareFrom_24 ?_
  refine ab_aload_n dX1_squareFrom_25 rfl ?_
  refine ab_getf dX1_squareFrom_26 fl_X1_17 rfl rfl ?_
  refine ab_iload_n dX1_squareFrom_29 rfl ?_
  refine ab_iald (j := j1) dX1_squareFrom_30 rfl h_j1 ?_
  refine ab_iload_n dX1_squareFrom_31 rfl ?_
  refine ab_isub dX1_squareFrom_32 ?_
  refine ab_imul dX1_squareFrom_33 ?_
  refine ab_iadd dX1_squareFrom_34 ?_
  exact ab_iret dX1_squareFrom_35 rfl (by decide) (⟨rfl, rfl⟩)
theorem c_X1_add {x0 x1 x2 x3 x4 x5 x6 x7 x8 x9 x10 x11 x16 x17 x18 x19 x20 x21 x22 x23 x24 x25 x26 x27 x28 x29 x30 x31 x32 : ax_E} {f12_5 f12_6 f12_7 f12_8 f12_9 a1 a2 a3 : Int32} {r13 r14 r15 : Nat → Int32} {wm : List ax_E} {j : Nat} (h_j : ax_ix f12_5 40 j) (h_lt : ¬ 40 ≤ f12_5) : Ct M_X1_add [.ref 12, .int a1, .int a2, .int a3] ([x0, x1, x2, x3, x4, x5, x6, x7, x8, x9, x10, x11, ob 1 [.ref 13, .ref 14, .ref 15, .ref 16, .ref 17, .int f12_5, .int f12_6, .int f12_7, .int f12_8, .int f12_9], ia 40 r13, ia 40 r14, ia 40 r15, x16, x17, x18, x19, x20, x21, x22, x23, x24, x25, x26, x27, x28, x29, x30, x31, x32], wm) (fun r w' => r = none ∧ w' = ([x0, x1, x2, x3, x4, x5, x6, x7, x8, x9, x10, x11, ob 1 [.ref 13, .ref 14, .ref 15, .ref 16, .ref 17, .int (f12_5 + 1), .int f12_6, .int f12_7, .int f12_8, .int f12_9], ia 40 (upd r13 j a1), ia 40 (upd r14 j a2), ia 40 (upd r15 j a3), x16, x17, x18, x19, x20, x21, x22, x23, x24, x25, x26, x27, x28, x29, x30, x31, x32], wm)) := by
  refine ct_of ⟨by decide, rfl⟩ (Nat.le_of_ble_eq_true rfl) ?_
  refine ab_aload_n dX1_add_0 rfl ?_
  refine ab_getf dX1_add_1 fl_X1_29 rfl rfl ?_
  refine ab_bipush (v := 40) dX1_add_4 (by decide) ?_
  refine ab_icmpge 49 dX1_add_6 (by decide) (fun h_1 => absurd h_1 h_lt) (fun h_1 => ?_)
  refine ab_aload_n dX1_add_9 rfl ?_
  refine ab_getf dX1_add_10 fl_X1_11 rfl rfl ?_
  refine ab_aload_n dX1_add_13 rfl ?_
  refine ab_getf dX1_add_14 fl_X1_29 rfl rfl ?_
  refine ab_iload_n dX1_add_17 rfl ?_
  refine ab_iast (w1 := ([x0, x1, x2, x3, x4, x5, x6, x7, x8, x9, x10, x11, ob 1 [.ref 13, .ref 14, .ref 15, .ref 16, .ref 17, .int f12_5, .int f12_6, .int f12_7, .int f12_8, .int f12_9], ia 40 (upd r13 j a1), ia 40 r14, ia 40 r15, x16, x17, x18, x19, x20, x21, x22, x23, x24, x25, x26, x27, x28, x29, x30, x31, x32], wm)) dX1_add_18 rfl h_j rfl ?_
  refine ab_aload_n dX1_add_19 rfl ?_
  refine ab_getf dX1_add_20 fl_X1_17 rfl rfl ?_
  refine ab_aload_n dX1_add_23 rfl ?_
  refine ab_getf dX1_add_24 fl_X1_29 rfl rfl ?_
  refine ab_iload_n dX1_add_27 rfl ?_
  refine ab_iast (w1 := ([x0, x1, x2, x3, x4, x5, x6, x7, x8, x9, x10, x11, ob 1 [.ref 13, .ref 14, .ref 15, .ref 16, .ref 17, .int f12_5, .int f12_6, .int f12_7, .int f12_8, .int f12_9], ia 40 (upd r13 j a1), ia 40 (upd r14 j a2), ia 40 r15, x16, x17, x18, x19, x20, x21, x22, x23, x24, x25, x26, x27, x28, x29, x30, x31, x32], wm)) dX1_add_28 rfl h_j rfl ?_
  refine ab_aload_n dX1_add_29 rfl ?_
  refine ab_getf dX1_add_30 fl_X1_20 rfl rfl ?_
  refine ab_aload_n dX1_add_33 rfl ?_
  refine ab_getf dX1_add_34 fl_X1_29 rfl rfl ?_
  refine ab_iload_n dX1_add_37 rfl ?_
  refine ab_iast (w1 := ([x0, x1, x2, x3, x4, x5, x6, x7, x8, x9, x10, x11, ob 1 [.ref 13, .ref 14, .ref 15, .ref 16, .ref 17, .int f12_5, .int f12_6, .int f12_7, .int f12_8, .int f12_9], ia 40 (upd r13 j a1), ia 40 (upd r14 j a2), ia 40 (upd r15 j a3), x16, x17, x18, x19, x20, x21, x22, x23, x24, x25, x26, x27, x28, x29, x30, x31, x32], wm)) dX1_add_38 rfl h_j rfl ?_
  refine ab_aload_n dX1_add_39 rfl ?_
  refine ab_dup rfl dX1_add_40 ?_
  refine ab_getf dX1_add_41 fl_X1_29 rfl rfl ?_
  refine ab_iconst (v := 1) dX1_add_44 (by decide) ?_
  refine ab_iadd dX1_add_45 ?_
  refine ab_putf (w1 := ([x0, x1, x2, x3, x4, x5, x6, x7, x8, x9, x10, x11, ob 1 [.ref 13, .ref 14, .ref 15, .ref 16, .ref 17, .int (f12_5 + 1), .int f12_6, .int f12_7, .int f12_8, .int f12_9], ia 40 (upd r13 j a1), ia 40 (upd r14 j a2), ia 40 (upd r15 j a3), x16, x17, x18, x19, x20, x21, x22, x23, x24, x25, x26, x27, x28, x29, x30, x31, x32], wm)) dX1_add_46 fl_X1_29 rfl (Nat.le_of_ble_eq_true rfl) (fun _ => ⟨rfl, rfl⟩) rfl ?_
  exact ab_vret dX1_add_49 rfl (by decide) (⟨rfl, rfl⟩)
theorem c_X1_parts {x0 x1 x2 x3 x4 x5 x6 x7 x8 x9 x10 x11 x15 x16 x17 x18 x19 x20 x21 x22 x23 x24 x25 x26 x27 x28 x29 x30 x31 x32 : ax_E} {f12_5 f12_6 f12_7 f12_8 f12_9 a1 a2 a3 a4 : Int32} {r13 r14 : Nat → Int32} {wm : List ax_E} {j1 j2 j3 j4 : Nat} (h_j1 : ax_ix a1 40 j1) (h_j2 : ax_ix a2 40 j2) (h_j3 : ax_ix a3 40 j3) (h_j4 : ax_ix a4 40 j4) : Ct M_X1_parts [.ref 12, .int a1, .int a2, .int a3, .int a4] ([x0, x1, x2, x3, x4, x5, x6, x7, x8, x9, x10, x11, ob 1 [.ref 13, .ref 14, .ref 15, .ref 16, .ref 17, .int f12_5, .int f12_6, .int f12_7, .int f12_8, .int f12_9], ia 40 r13, ia 40 r14, x15, x16, x17, x18, x19, x20, x21, x22, x23, x24, x25, x26, x27, x28, x29, x30, x31, x32], wm) (fun r w' => (((0 < Cv_bend r13 r14 j1 j2 j3 ∧ Cv_bend r13 r14 j1 j2 j4 < 0) ∨ (Cv_bend r13 r14 j1 j2 j3 < 0 ∧ 0 < Cv_bend r13 r14 j1 j2 j4)) ∧ r = some (.int 1) ∧ w' = ([x0, x1, x2, x3, x4, x5, x6, x7, x8, x9, x10, x11, ob 1 [.ref 13, .ref 14, .ref 15, .ref 16, .ref 17, .int f12_5, .int f12_6, .int f12_7, .int f12_8, .int f12_9], ia 40 r13, ia 40 r14, x15, x16, x17, x18, x19, x20, x21, x22, x23, x24, x25, x26, x27, x28, x29, x30, x31, x32], wm)) ∨ ((¬ ((0 < Cv_bend r13 r14 j1 j2 j3 ∧ Cv_bend r13 r14 j1 j2 j4 < 0) ∨ (Cv_bend r13 r14 j1 j2 j3 < 0 ∧ 0 < Cv_bend r13 r14 j1 j2 j4))) ∧ r = some (.int 0) ∧ w' = ([x0, x1, x2, x3, x4, x5, x6, x7, x8, x9, x10, x11, ob 1 [.ref 13, .ref 14, .ref 15, .ref 16, .ref 17, .int f12_5, .int f12_6, .int f12_7, .int f12_8, .int f12_9], ia 40 r13, ia 40 r14, x15, x16, x17, x18, x19, x20, x21, x22, x23, x24, x25, x26, x27, x28, x29, x30, x31, x32], wm))) := by
  refine ct_of ⟨by decide, rfl⟩ (Nat.le_of_ble_eq_true rfl) ?_
  refine ab_aload_n dX1_parts_0 rfl ?_
  refine ab_iload_n dX1_parts_1 rfl ?_
  refine ab_iload_n dX1_parts_2 rfl ?_
  refine ab_iload_n dX1_parts_3 rfl ?_
  refine ab_callV (As := [.int a1, .int a2, .int a3]) (rest := []) dX1_parts_4 mv_X1_bend ml_X1_62 ⟨by decide, by decide, rfl, rfl, rfl⟩ (by decide) rfl rfl (Nat.le_of_ble_eq_true rfl) rfl (c_X1_bend (j1 := j1) (j2 := j2) (j3 := j3) h_j1 h_j2 h_j3) ?_
  rintro r w' ⟨rfl, rfl⟩
  refine ab_lstore (la' := [(5, .long (Cv_bend r13 r14 j1 j2 j3)), (0, .ref 12), (1, .int a1), (2, .int a2), (3, .int a3), (4, .int a4)]) dX1_parts_7 (by decide) rfl ?_
  refine ab_aload_n dX1_parts_9 rfl ?_
  refine ab_iload_n dX1_parts_10 rfl ?_
  refine ab_iload_n dX1_parts_11 rfl ?_
  refine ab_iload dX1_parts_12 rfl ?_
  refine ab_callV (As := [.int a1, .int a2, .int a4]) (rest := []) dX1_parts_14 mv_X1_bend ml_X1_62 ⟨by decide, by decide, rfl, rfl, rfl⟩ (by decide) rfl rfl (Nat.le_of_ble_eq_true rfl) rfl (c_X1_bend (j1 := j1) (j2 := j2) (j3 := j4) h_j1 h_j2 h_j4) ?_
  rintro r w' ⟨rfl, rfl⟩
  refine ab_lstore (la' := [(7, .long (Cv_bend r13 r14 j1 j2 j4)), (5, .long (Cv_bend r13 r14 j1 j2 j3)), (0, .ref 12), (1, .int a1), (2, .int a2), (3, .int a3), (4, .int a4)]) dX1_parts_17 (by decide) rfl ?_
  refine ab_lload dX1_parts_19 rfl ?_
  refine ab_lconst (v := 0) dX1_parts_21 (by decide) ?_
  refine ab_lcmple 33 dX1_parts_22 dX1_parts_23 (by decide) (fun h_1 => ?_) (fun h_1 => ?_)
  · refine ab_lload dX1_parts_33 rfl ?_
    refine ab_lconst (v := 0) dX1_parts_35 (by decide) ?_
    refine ab_lcmpge 51 dX1_parts_36 dX1_parts_37 (by decide) (fun h_2 => ?_) (fun h_2 => ?_)
    · refine ab_iconst (v := 0) dX1_parts_51 (by decide) ?_
      exact ab_zret dX1_parts_52 rfl rfl (by decide) (Or.inr (⟨(by grind), rfl, rfl⟩))
    · refine ab_lload dX1_parts_40 rfl ?_
      refine ab_lconst (v := 0) dX1_parts_42 (by decide) ?_
      refine ab_lcmple 51 dX1_parts_43 dX1_parts_44 (by decide) (fun h_3 => ?_) (fun h_3 => ?_)
      · refine ab_iconst (v := 0) dX1_parts_51 (by decide) ?_
        exact ab_zret dX1_parts_52 rfl rfl (by decide) (Or.inr (⟨(by grind), rfl, rfl⟩))
      · refine ab_iconst (v := 1) dX1_parts_47 (by decide) ?_
        refine ab_goto 52 dX1_parts_48 (by decide) ?_
        exact ab_zret dX1_parts_52 rfl rfl (by decide) (Or.inl (⟨(by grind), rfl, rfl⟩))
  · refine ab_lload dX1_parts_26 rfl ?_
    refine ab_lconst (v := 0) dX1_parts_28 (by decide) ?_
    refine ab_lcmplt 47 dX1_parts_29 dX1_parts_30 (by decide) (fun h_4 => ?_) (fun h_4 => ?_)
    · refine ab_iconst (v := 1) dX1_parts_47 (by decide) ?_
      refine ab_goto 52 dX1_parts_48 (by decide) ?_
      exact ab_zret dX1_parts_52 rfl rfl (by decide) (Or.inl (⟨(by grind), rfl, rfl⟩))
    · refine ab_lload dX1_parts_33 rfl ?_
      refine ab_lconst (v := 0) dX1_parts_35 (by decide) ?_
      refine ab_lcmpge 51 dX1_parts_36 dX1_parts_37 (by decide) (fun h_5 => ?_) (fun h_5 => ?_)
      · refine ab_iconst (v := 0) dX1_parts_51 (by decide) ?_
        exact ab_zret dX1_parts_52 rfl rfl (by decide) (Or.inr (⟨(by grind), rfl, rfl⟩))
      · refine ab_lload dX1_parts_40 rfl ?_
        refine ab_lconst (v := 0) dX1_parts_42 (by decide) ?_
        refine ab_lcmple 51 dX1_parts_43 dX1_parts_44 (by decide) (fun h_6 => ?_) (fun h_6 => ?_)
        · refine ab_iconst (v := 0) dX1_parts_51 (by decide) ?_
          exact ab_zret dX1_parts_52 rfl rfl (by decide) (Or.inr (⟨(by grind), rfl, rfl⟩))
        · refine ab_iconst (v := 1) dX1_parts_47 (by decide) ?_
          refine ab_goto 52 dX1_parts_48 (by decide) ?_
          exact ab_zret dX1_parts_52 rfl rfl (by decide) (Or.inl (⟨(by grind), rfl, rfl⟩))
theorem c_X0_count {x0 x1 x2 x3 x4 x5 x6 x7 x8 x9 x10 x11 x12 x13 x14 x15 x16 x17 x18 x19 x20 x21 x22 x23 x24 x25 x26 x27 x28 x30 x31 x32 : ax_E} {f29_3 f29_4 : Int32} {wm : List ax_E}  : Ct M_X0_count [.ref 29] ([x0, x1, x2, x3, x4, x5, x6, x7, x8, x9, x10, x11, x12, x13, x14, x15, x16, x17, x18, x19, x20, x21, x22, x23, x24, x25, x26, x27, x28, ob 0 [.ref 30, .ref 31, .ref 32, .int f29_3, .int f29_4], x30, x31, x32], wm) (fun r w' => r = some (.int f29_4) ∧ w' = ([x0, x1, x2, x3, x4, x5, x6, x7, x8, x9, x10, x11, x12, x13, x14, x15, x16, x17, x18, x19, x20, x21, x22, x23, x24, x25, x26, x27, x28, ob 0 [.ref 30, .ref 31, .ref 32, .int f29_3, .int f29_4], x30, x31, x32], wm)) := by
  refine ct_of ⟨by decide, rfl⟩ (Nat.le_of_ble_eq_true rfl) ?_
  refine ab_aload_n dX0_count_0 rfl ?_
  refine ab_getf dX0_count_1 fl_X0_23 rfl rfl ?_
  exact ab_iret dX0_count_4 rfl (by decide) (⟨rfl, rfl⟩)
theorem c_X0_forget {x0 x1 x2 x3 x4 x5 x6 x7 x8 x9 x10 x11 x12 x13 x14 x15 x16 x17 x18 x19 x20 x21 x22 x23 x24 x25 x26 x27 x28 x30 x31 x32 : ax_E} {f29_3 f29_4 : Int32} {wm : List ax_E}  : Ct M_X0_forget [.ref 29] ([x0, x1, x2, x3, x4, x5, x6, x7, x8, x9, x10, x11, x12, x13, x14, x15, x16, x17, x18, x19, x20, x21, x22, x23, x24, x25, x26, x27, x28, ob 0 [.ref 30, .ref 31, .ref 32, .int f29_3, .int f29_4], x30, x31, x32], wm) (fun r w' => r = none ∧ w' = ([x0, x1, x2, x3, x4, x5, x6, x7, x8, x9, x10, x11, x12, x13, x14, x15, x16, x17, x18, x19, x20, x21, x22, x23, x24, x25, x26, x27, x28, ob 0 [.ref 30, .ref 31, .ref 32, .int f29_3, .int 0], x30, x31, x32], wm)) := by
  refine ct_of ⟨by decide, rfl⟩ (Nat.le_of_ble_eq_true rfl) ?_
  refine ab_aload_n dX0_forget_0 rfl ?_
  refine ab_iconst (v := 0) dX0_forget_1 (by decide) ?_
  refine ab_putf (w1 := ([x0, x1, x2, x3, x4, x5, x6, x7, x8, x9, x10, x11, x12, x13, x14, x15, x16, x17, x18, x19, x20, x21, x22, x23, x24, x25, x26, x27, x28, ob 0 [.ref 30, .ref 31, .ref 32, .int f29_3, .int 0], x30, x31, x32], wm)) dX0_forget_2 fl_X0_23 rfl (Nat.le_of_ble_eq_true rfl) (fun _ => ⟨rfl, rfl⟩) rfl ?_
  exact ab_vret dX0_forget_5 rfl (by decide) (⟨rfl, rfl⟩)
theorem c_X8_isOn {x0 x1 x2 x3 x4 x5 x6 x7 x8 x9 x10 x11 x12 x13 x14 x15 x16 x17 x18 x19 x20 x21 x22 x23 x24 x26 x27 x28 x29 x30 x31 x32 : ax_E} {f25_3 f25_4 f25_5 f25_6 f25_7 : Int32} {wm : List ax_E}  : Ct M_X8_isOn [.ref 25] ([x0, x1, x2, x3, x4, x5, x6, x7, x8, x9, x10, x11, x12, x13, x14, x15, x16, x17, x18, x19, x20, x21, x22, x23, x24, ob 7 [.ref 26, .ref 27, .ref 28, .int f25_3, .int f25_4, .int f25_5, .int f25_6, .int f25_7], x26, x27, x28, x29, x30, x31, x32], wm) (fun r w' => ((¬ f25_4 = -1) ∧ r = some (.int 1) ∧ w' = ([x0, x1, x2, x3, x4, x5, x6, x7, x8, x9, x10, x11, x12, x13, x14, x15, x16, x17, x18, x19, x20, x21, x22, x23, x24, ob 7 [.ref 26, .ref 27, .ref 28, .int f25_3, .int f25_4, .int f25_5, .int f25_6, .int f25_7], x26, x27, x28, x29, x30, x31, x32], wm)) ∨ ((¬ (¬ f25_4 = -1)) ∧ r = some (.int 0) ∧ w' = ([x0, x1, x2, x3, x4, x5, x6, x7, x8, x9, x10, x11, x12, x13, x14, x15, x16, x17, x18, x19, x20, x21, x22, x23, x24, ob 7 [.ref 26, .ref 27, .ref 28, .int f25_3, .int f25_4, .int f25_5, .int f25_6, .int f25_7], x26, x27, x28, x29, x30, x31, x32], wm))) := by
  refine ct_of ⟨by decide, rfl⟩ (Nat.le_of_ble_eq_true rfl) ?_
  refine ab_aload_n dX8_isOn_0 rfl ?_
  refine ab_getf dX8_isOn_1 fl_X8_27 rfl rfl ?_
  refine ab_iconst (v := -1) dX8_isOn_4 (by decide) ?_
  refine ab_icmpeq 12 dX8_isOn_5 (by decide) (fun h_1 => ?_) (fun h_1 => ?_)
  · refine ab_iconst (v := 0) dX8_isOn_12 (by decide) ?_
    exact ab_zret dX8_isOn_13 rfl rfl (by decide) (Or.inr (⟨(by grind), rfl, rfl⟩))
  · refine ab_iconst (v := 1) dX8_isOn_8 (by decide) ?_
    refine ab_goto 13 dX8_isOn_9 (by decide) ?_
    exact ab_zret dX8_isOn_13 rfl rfl (by decide) (Or.inl (⟨(by grind), rfl, rfl⟩))
theorem c_X8_stop {x0 x1 x2 x3 x4 x5 x6 x7 x8 x9 x10 x11 x12 x13 x14 x15 x16 x17 x18 x19 x20 x21 x22 x23 x24 x26 x27 x28 x29 x30 x31 x32 : ax_E} {f25_3 f25_4 f25_5 f25_6 f25_7 : Int32} {wm : List ax_E}  : Ct M_X8_stop [.ref 25] ([x0, x1, x2, x3, x4, x5, x6, x7, x8, x9, x10, x11, x12, x13, x14, x15, x16, x17, x18, x19, x20, x21, x22, x23, x24, ob 7 [.ref 26, .ref 27, .ref 28, .int f25_3, .int f25_4, .int f25_5, .int f25_6, .int f25_7], x26, x27, x28, x29, x30, x31, x32], wm) (fun r w' => r = none ∧ w' = ([x0, x1, x2, x3, x4, x5, x6, x7, x8, x9, x10, x11, x12, x13, x14, x15, x16, x17, x18, x19, x20, x21, x22, x23, x24, ob 7 [.ref 26, .ref 27, .ref 28, .int f25_3, .int (-1), .int f25_5, .int f25_6, .int f25_7], x26, x27, x28, x29, x30, x31, x32], wm)) := by
  refine ct_of ⟨by decide, rfl⟩ (Nat.le_of_ble_eq_true rfl) ?_
  refine ab_aload_n dX8_stop_0 rfl ?_
  refine ab_iconst (v := -1) dX8_stop_1 (by decide) ?_
  refine ab_putf (w1 := ([x0, x1, x2, x3, x4, x5, x6, x7, x8, x9, x10, x11, x12, x13, x14, x15, x16, x17, x18, x19, x20, x21, x22, x23, x24, ob 7 [.ref 26, .ref 27, .ref 28, .int f25_3, .int (-1), .int f25_5, .int f25_6, .int f25_7], x26, x27, x28, x29, x30, x31, x32], wm)) dX8_stop_2 fl_X8_27 rfl (Nat.le_of_ble_eq_true rfl) (fun _ => ⟨rfl, rfl⟩) rfl ?_
  exact ab_vret dX8_stop_5 rfl (by decide) (⟨rfl, rfl⟩)
theorem c_X8_change {x0 x1 x2 x3 x4 x5 x6 x7 x8 x9 x10 x11 x12 x13 x14 x15 x16 x17 x18 x19 x20 x21 x22 x23 x24 x26 x27 x28 x29 x30 x31 x32 : ax_E} {f25_3 f25_4 f25_5 f25_6 f25_7 : Int32} {wm : List ax_E}  : Ct M_X8_change [.ref 25] ([x0, x1, x2, x3, x4, x5, x6, x7, x8, x9, x10, x11, x12, x13, x14, x15, x16, x17, x18, x19, x20, x21, x22, x23, x24, ob 7 [.ref 26, .ref 27, .ref 28, .int f25_3, .int f25_4, .int f25_5, .int f25_6, .int f25_7], x26, x27, x28, x29, x30, x31, x32], wm) (fun r w' => r = some (.int (1 - f25_6)) ∧ w' = ([x0, x1, x2, x3, x4, x5, x6, x7, x8, x9, x10, x11, x12, x13, x14, x15, x16, x17, x18, x19, x20, x21, x22, x23, x24, ob 7 [.ref 26, .ref 27, .ref 28, .int f25_3, .int f25_4, .int f25_5, .int (1 - f25_6), .int (f25_7 + 1)], x26, x27, x28, x29, x30, x31, x32], wm)) := by
  refine ct_of ⟨by decide, rfl⟩ (Nat.le_of_ble_eq_true rfl) ?_
  refine ab_aload_n dX8_change_0 rfl ?_
  refine ab_iconst (v := 1) dX8_change_1 (by decide) ?_
  refine ab_aload_n dX8_change_2 rfl ?_
  refine ab_getf dX8_change_3 fl_X8_33 rfl rfl ?_
  refine ab_isub dX8_change_6 ?_
  refine ab_putf (w1 := ([x0, x1, x2, x3, x4, x5, x6, x7, x8, x9, x10, x11, x12, x13, x14, x15, x16, x17, x18, x19, x20, x21, x22, x23, x24, ob 7 [.ref 26, .ref 27, .ref 28, .int f25_3, .int f25_4, .int f25_5, .int (1 - f25_6), .int f25_7], x26, x27, x28, x29, x30, x31, x32], wm)) dX8_change_7 fl_X8_33 rfl (Nat.le_of_ble_eq_true rfl) (fun _ => ⟨rfl, rfl⟩) rfl ?_
  refine ab_aload_n dX8_change_10 rfl ?_
  refine ab_dup rfl dX8_change_11 ?_
  refine ab_getf dX8_change_12 fl_X8_36 rfl rfl ?_
  refine ab_iconst (v := 1) dX8_change_15 (by decide) ?_
  refine ab_iadd dX8_change_16 ?_
  refine ab_putf (w1 := ([x0, x1, x2, x3, x4, x5, x6, x7, x8, x9, x10, x11, x12, x13, x14, x15, x16, x17, x18, x19, x20, x21, x22, x23, x24, ob 7 [.ref 26, .ref 27, .ref 28, .int f25_3, .int f25_4, .int f25_5, .int (1 - f25_6), .int (f25_7 + 1)], x26, x27, x28, x29, x30, x31, x32], wm)) dX8_change_17 fl_X8_36 rfl (Nat.le_of_ble_eq_true rfl) (fun _ => ⟨rfl, rfl⟩) rfl ?_
  refine ab_aload_n dX8_change_20 rfl ?_
  refine ab_getf dX8_change_21 fl_X8_33 rfl rfl ?_
  exact ab_iret dX8_change_24 rfl (by decide) (⟨rfl, rfl⟩)
theorem c_X8_learn {x0 x1 x2 x3 x4 x5 x6 x7 x8 x9 x10 x11 x12 x13 x14 x15 x16 x17 x18 x19 x20 x21 x22 x23 x24 x27 x28 x29 x30 x31 x32 : ax_E} {f25_3 f25_4 f25_5 f25_6 f25_7 a1 a2 : Int32} {r26 : Nat → Int32} {wm : List ax_E} {j1 : Nat} (h_j1 : ax_ix a1 40 j1) (h_k : 0 ≤ a1 ∧ a1 < 40) : Ct M_X8_learn [.ref 25, .int a1, .int a2] ([x0, x1, x2, x3, x4, x5, x6, x7, x8, x9, x10, x11, x12, x13, x14, x15, x16, x17, x18, x19, x20, x21, x22, x23, x24, ob 7 [.ref 26, .ref 27, .ref 28, .int f25_3, .int f25_4, .int f25_5, .int f25_6, .int f25_7], ia 40 r26, x27, x28, x29, x30, x31, x32], wm) (fun r w' => r = none ∧ w' = ([x0, x1, x2, x3, x4, x5, x6, x7, x8, x9, x10, x11, x12, x13, x14, x15, x16, x17, x18, x19, x20, x21, x22, x23, x24, ob 7 [.ref 26, .ref 27, .ref 28, .int f25_3, .int f25_4, .int f25_5, .int f25_6, .int f25_7], ia 40 (upd r26 j1 a2), x27, x28, x29, x30, x31, x32], wm)) := by
  refine ct_of ⟨by decide, rfl⟩ (Nat.le_of_ble_eq_true rfl) ?_
  refine ab_iload_n dX8_learn_0 rfl ?_
  refine ab_callS (As := [.int a1]) (rest := []) dX8_learn_1 ms_X7_has ml_X8_39 ⟨by decide, by decide, rfl, rfl, rfl⟩ (by decide) rfl rfl (Nat.le_of_ble_eq_true rfl) c_X7_has ?_
  rintro r w' (⟨c_1, rfl, rfl⟩ | ⟨c_2, rfl, rfl⟩)
  · refine ab_ifeq 14 dX8_learn_4 (by decide) (fun h_3 => absurd h_3 (by decide)) (fun h_3 => ?_)
    refine ab_aload_n dX8_learn_7 rfl ?_
    refine ab_getf dX8_learn_8 fl_X8_11 rfl rfl ?_
    refine ab_iload_n dX8_learn_11 rfl ?_
    refine ab_iload_n dX8_learn_12 rfl ?_
    refine ab_iast (w1 := ([x0, x1, x2, x3, x4, x5, x6, x7, x8, x9, x10, x11, x12, x13, x14, x15, x16, x17, x18, x19, x20, x21, x22, x23, x24, ob 7 [.ref 26, .ref 27, .ref 28, .int f25_3, .int f25_4, .int f25_5, .int f25_6, .int f25_7], ia 40 (upd r26 j1 a2), x27, x28, x29, x30, x31, x32], wm)) dX8_learn_13 rfl h_j1 rfl ?_
    exact ab_vret dX8_learn_14 rfl (by decide) (⟨rfl, rfl⟩)
  · exact absurd h_k c_2
theorem c_X8_start {x0 x1 x2 x3 x4 x5 x6 x7 x8 x9 x10 x11 x12 x13 x14 x15 x16 x17 x18 x19 x20 x21 x22 x23 x24 x26 x27 x28 x29 x30 x31 x32 : ax_E} {f25_3 f25_4 f25_5 f25_6 f25_7 a1 a2 a3 : Int32} {wm : List ax_E} (h_k : 0 ≤ a2 ∧ a2 < 40) : Ct M_X8_start [.ref 25, .int a1, .int a2, .int a3] ([x0, x1, x2, x3, x4, x5, x6, x7, x8, x9, x10, x11, x12, x13, x14, x15, x16, x17, x18, x19, x20, x21, x22, x23, x24, ob 7 [.ref 26, .ref 27, .ref 28, .int f25_3, .int f25_4, .int f25_5, .int f25_6, .int f25_7], x26, x27, x28, x29, x30, x31, x32], wm) (fun r w' => ((¬ a3 = 0) ∧ r = none ∧ w' = ([x0, x1, x2, x3, x4, x5, x6, x7, x8, x9, x10, x11, x12, x13, x14, x15, x16, x17, x18, x19, x20, x21, x22, x23, x24, ob 7 [.ref 26, .ref 27, .ref 28, .int f25_3, .int a1, .int a2, .int 1, .int 0], x26, x27, x28, x29, x30, x31, x32], wm)) ∨ ((a3 = 0) ∧ r = none ∧ w' = ([x0, x1, x2, x3, x4, x5, x6, x7, x8, x9, x10, x11, x12, x13, x14, x15, x16, x17, x18, x19, x20, x21, x22, x23, x24, ob 7 [.ref 26, .ref 27, .ref 28, .int f25_3, .int a1, .int a2, .int 0, .int 0], x26, x27, x28, x29, x30, x31, x32], wm))) := by
  refine ct_of ⟨by decide, rfl⟩ (Nat.le_of_ble_eq_true rfl) ?_
  refine ab_aload_n dX8_start_0 rfl ?_
  refine ab_iload_n dX8_start_1 rfl ?_
  refine ab_putf (w1 := ([x0, x1, x2, x3, x4, x5, x6, x7, x8, x9, x10, x11, x12, x13, x14, x15, x16, x17, x18, x19, x20, x21, x22, x23, x24, ob 7 [.ref 26, .ref 27, .ref 28, .int f25_3, .int a1, .int f25_5, .int f25_6, .int f25_7], x26, x27, x28, x29, x30, x31, x32], wm)) dX8_start_2 fl_X8_27 rfl (Nat.le_of_ble_eq_true rfl) (fun _ => ⟨rfl, rfl⟩) rfl ?_
  refine ab_aload_n dX8_start_5 rfl ?_
  refine ab_iload_n dX8_start_6 rfl ?_
  refine ab_callS (As := [.int a2]) (rest := [.ref 25]) dX8_start_7 ms_X7_has ml_X8_39 ⟨by decide, by decide, rfl, rfl, rfl⟩ (by decide) rfl rfl (Nat.le_of_ble_eq_true rfl) c_X7_has ?_
  rintro r w' (⟨c_1, rfl, rfl⟩ | ⟨c_2, rfl, rfl⟩)
  · refine ab_ifeq 17 dX8_start_10 (by decide) (fun h_3 => absurd h_3 (by decide)) (fun h_3 => ?_)
    refine ab_iload_n dX8_start_13 rfl ?_
    refine ab_goto 18 dX8_start_14 (by decide) ?_
    refine ab_putf (w1 := ([x0, x1, x2, x3, x4, x5, x6, x7, x8, x9, x10, x11, x12, x13, x14, x15, x16, x17, x18, x19, x20, x21, x22, x23, x24, ob 7 [.ref 26, .ref 27, .ref 28, .int f25_3, .int a1, .int a2, .int f25_6, .int f25_7], x26, x27, x28, x29, x30, x31, x32], wm)) dX8_start_18 fl_X8_30 rfl (Nat.le_of_ble_eq_true rfl) (fun _ => ⟨rfl, rfl⟩) rfl ?_
    refine ab_aload_n dX8_start_21 rfl ?_
    refine ab_iload_n dX8_start_22 rfl ?_
    refine ab_ifne 30 dX8_start_23 (by decide) (fun h_4 => ?_) (fun h_4 => ?_)
    · refine ab_iconst (v := 1) dX8_start_30 (by decide) ?_
      refine ab_putf (w1 := ([x0, x1, x2, x3, x4, x5, x6, x7, x8, x9, x10, x11, x12, x13, x14, x15, x16, x17, x18, x19, x20, x21, x22, x23, x24, ob 7 [.ref 26, .ref 27, .ref 28, .int f25_3, .int a1, .int a2, .int 1, .int f25_7], x26, x27, x28, x29, x30, x31, x32], wm)) dX8_start_31 fl_X8_33 rfl (Nat.le_of_ble_eq_true rfl) (fun _ => ⟨rfl, rfl⟩) rfl ?_
      refine ab_aload_n dX8_start_34 rfl ?_
      refine ab_iconst (v := 0) dX8_start_35 (by decide) ?_
      refine ab_putf (w1 := ([x0, x1, x2, x3, x4, x5, x6, x7, x8, x9, x10, x11, x12, x13, x14, x15, x16, x17, x18, x19, x20, x21, x22, x23, x24, ob 7 [.ref 26, .ref 27, .ref 28, .int f25_3, .int a1, .int a2, .int 1, .int 0], x26, x27, x28, x29, x30, x31, x32], wm)) dX8_start_36 fl_X8_36 rfl (Nat.le_of_ble_eq_true rfl) (fun _ => ⟨rfl, rfl⟩) rfl ?_
      exact ab_vret dX8_start_39 rfl (by decide) (Or.inl ⟨h_4, rfl, rfl⟩)
    · refine ab_iconst (v := 0) dX8_start_26 (by decide) ?_
      refine ab_goto 31 dX8_start_27 (by decide) ?_
      refine ab_putf (w1 := ([x0, x1, x2, x3, x4, x5, x6, x7, x8, x9, x10, x11, x12, x13, x14, x15, x16, x17, x18, x19, x20, x21, x22, x23, x24, ob 7 [.ref 26, .ref 27, .ref 28, .int f25_3, .int a1, .int a2, .int 0, .int f25_7], x26, x27, x28, x29, x30, x31, x32], wm)) dX8_start_31 fl_X8_33 rfl (Nat.le_of_ble_eq_true rfl) (fun _ => ⟨rfl, rfl⟩) rfl ?_
      refine ab_aload_n dX8_start_34 rfl ?_
      refine ab_iconst (v := 0) dX8_start_35 (by decide) ?_
      refine ab_putf (w1 := ([x0, x1, x2, x3, x4, x5, x6, x7, x8, x9, x10, x11, x12, x13, x14, x15, x16, x17, x18, x19, x20, x21, x22, x23, x24, ob 7 [.ref 26, .ref 27, .ref 28, .int f25_3, .int a1, .int a2, .int 0, .int 0], x26, x27, x28, x29, x30, x31, x32], wm)) dX8_start_36 fl_X8_36 rfl (Nat.le_of_ble_eq_true rfl) (fun _ => ⟨rfl, rfl⟩) rfl ?_
      exact ab_vret dX8_start_39 rfl (by decide) (Or.inr (⟨h_4, rfl, rfl⟩))
  · exact absurd h_k c_2
theorem c_X8_told {x0 x1 x2 x3 x4 x5 x6 x7 x8 x9 x10 x11 x12 x13 x14 x15 x16 x17 x18 x19 x20 x21 x22 x23 x24 x26 x27 x28 x29 x30 x31 x32 : ax_E} {f25_3 f25_4 f25_5 f25_6 f25_7 a1 : Int32} {wm : List ax_E}  : Ct M_X8_told [.ref 25, .int a1] ([x0, x1, x2, x3, x4, x5, x6, x7, x8, x9, x10, x11, x12, x13, x14, x15, x16, x17, x18, x19, x20, x21, x22, x23, x24, ob 7 [.ref 26, .ref 27, .ref 28, .int f25_3, .int f25_4, .int f25_5, .int f25_6, .int f25_7], x26, x27, x28, x29, x30, x31, x32], wm) (fun r w' => ((a1 = 0) ∧ r = some (.int f25_4) ∧ w' = ([x0, x1, x2, x3, x4, x5, x6, x7, x8, x9, x10, x11, x12, x13, x14, x15, x16, x17, x18, x19, x20, x21, x22, x23, x24, ob 7 [.ref 26, .ref 27, .ref 28, .int f25_3, .int f25_4, .int f25_5, .int f25_6, .int f25_7], x26, x27, x28, x29, x30, x31, x32], wm)) ∨ ((a1 = 1) ∧ r = some (.int f25_5) ∧ w' = ([x0, x1, x2, x3, x4, x5, x6, x7, x8, x9, x10, x11, x12, x13, x14, x15, x16, x17, x18, x19, x20, x21, x22, x23, x24, ob 7 [.ref 26, .ref 27, .ref 28, .int f25_3, .int f25_4, .int f25_5, .int f25_6, .int f25_7], x26, x27, x28, x29, x30, x31, x32], wm)) ∨ ((a1 = 2) ∧ r = some (.int f25_6) ∧ w' = ([x0, x1, x2, x3, x4, x5, x6, x7, x8, x9, x10, x11, x12, x13, x14, x15, x16, x17, x18, x19, x20, x21, x22, x23, x24, ob 7 [.ref 26, .ref 27, .ref 28, .int f25_3, .int f25_4, .int f25_5, .int f25_6, .int f25_7], x26, x27, x28, x29, x30, x31, x32], wm)) ∨ ((¬ a1 = 0 ∧ ¬ a1 = 1 ∧ ¬ a1 = 2) ∧ r = some (.int f25_7) ∧ w' = ([x0, x1, x2, x3, x4, x5, x6, x7, x8, x9, x10, x11, x12, x13, x14, x15, x16, x17, x18, x19, x20, x21, x22, x23, x24, ob 7 [.ref 26, .ref 27, .ref 28, .int f25_3, .int f25_4, .int f25_5, .int f25_6, .int f25_7], x26, x27, x28, x29, x30, x31, x32], wm))) := by
  refine ct_of ⟨by decide, rfl⟩ (Nat.le_of_ble_eq_true rfl) ?_
  refine ab_iload_n dX8_told_0 rfl ?_
  rcases sw_0_2 a1 with sw_1 | sw_1 | sw_1 | sw_1
  · refine ab_tabIn 28 dX8_told_1 (by rw [sw_1]; decide) (by rw [sw_1]; decide) (by rw [sw_1]; rfl) (by decide) ?_
    refine ab_aload_n dX8_told_28 rfl ?_
    refine ab_getf dX8_told_29 fl_X8_27 rfl rfl ?_
    exact ab_iret dX8_told_32 rfl (by decide) (Or.inl ⟨sw_1, rfl, rfl⟩)
  · refine ab_tabIn 33 dX8_told_1 (by rw [sw_1]; decide) (by rw [sw_1]; decide) (by rw [sw_1]; rfl) (by decide) ?_
    refine ab_aload_n dX8_told_33 rfl ?_
    refine ab_getf dX8_told_34 fl_X8_30 rfl rfl ?_
    exact ab_iret dX8_told_37 rfl (by decide) (Or.inr (Or.inl ⟨sw_1, rfl, rfl⟩))
  · refine ab_tabIn 38 dX8_told_1 (by rw [sw_1]; decide) (by rw [sw_1]; decide) (by rw [sw_1]; rfl) (by decide) ?_
    refine ab_aload_n dX8_told_38 rfl ?_
    refine ab_getf dX8_told_39 fl_X8_33 rfl rfl ?_
    exact ab_iret dX8_told_42 rfl (by decide) (Or.inr (Or.inr (Or.inl ⟨sw_1, rfl, rfl⟩)))
  · have sw_1n := sw_out0_2 sw_1
    refine ab_tabOut 43 dX8_told_1 sw_1 (by decide) ?_
    refine ab_aload_n dX8_told_43 rfl ?_
    refine ab_getf dX8_told_44 fl_X8_36 rfl rfl ?_
    exact ab_iret dX8_told_47 rfl (by decide) (Or.inr (Or.inr (Or.inr (⟨sw_1n, rfl, rfl⟩))))
theorem c_X8_isAtDead {x0 x1 x2 x3 x4 x5 x6 x7 x8 x9 x10 x11 x12 x13 x14 x15 x16 x17 x18 x19 x20 x21 x22 x23 x24 x27 x28 x29 x30 x31 x32 : ax_E} {f25_3 f25_4 f25_5 f25_6 f25_7 : Int32} {r26 : Nat → Int32} {wm : List ax_E} {j : Nat} (h_j : ax_ix f25_5 40 j) : Ct M_X8_isAtDead [.ref 25] ([x0, x1, x2, x3, x4, x5, x6, x7, x8, x9, x10, x11, x12, x13, x14, x15, x16, x17, x18, x19, x20, x21, x22, x23, x24, ob 7 [.ref 26, .ref 27, .ref 28, .int f25_3, .int f25_4, .int f25_5, .int f25_6, .int f25_7], ia 40 r26, x27, x28, x29, x30, x31, x32], wm) (fun r w' => ((r26 j = 2) ∧ r = some (.int 1) ∧ w' = ([x0, x1, x2, x3, x4, x5, x6, x7, x8, x9, x10, x11, x12, x13, x14, x15, x16, x17, x18, x19, x20, x21, x22, x23, x24, ob 7 [.ref 26, .ref 27, .ref 28, .int f25_3, .int f25_4, .int f25_5, .int f25_6, .int f25_7], ia 40 r26, x27, x28, x29, x30, x31, x32], wm)) ∨ ((¬ (r26 j = 2)) ∧ r = some (.int 0) ∧ w' = ([x0, x1, x2, x3, x4, x5, x6, x7, x8, x9, x10, x11, x12, x13, x14, x15, x16, x17, x18, x19, x20, x21, x22, x23, x24, ob 7 [.ref 26, .ref 27, .ref 28, .int f25_3, .int f25_4, .int f25_5, .int f25_6, .int f25_7], ia 40 r26, x27, x28, x29, x30, x31, x32], wm))) := by
  refine ct_of ⟨by decide, rfl⟩ (Nat.le_of_ble_eq_true rfl) ?_
  refine ab_aload_n dX8_isAtDead_0 rfl ?_
  refine ab_getf dX8_isAtDead_1 fl_X8_11 rfl rfl ?_
  refine ab_aload_n dX8_isAtDead_4 rfl ?_
  refine ab_getf dX8_isAtDead_5 fl_X8_30 rfl rfl ?_
  refine ab_iald (j := j) dX8_isAtDead_8 rfl h_j ?_
  refine ab_iconst (v := 2) dX8_isAtDead_9 (by decide) ?_
  refine ab_icmpne 17 dX8_isAtDead_10 (by decide) (fun h_1 => ?_) (fun h_1 => ?_)
  · refine ab_iconst (v := 0) dX8_isAtDead_17 (by decide) ?_
    exact ab_zret dX8_isAtDead_18 rfl rfl (by decide) (Or.inr (⟨(by grind), rfl, rfl⟩))
  · refine ab_iconst (v := 1) dX8_isAtDead_13 (by decide) ?_
    refine ab_goto 18 dX8_isAtDead_14 (by decide) ?_
    exact ab_zret dX8_isAtDead_18 rfl rfl (by decide) (Or.inl (⟨(by grind), rfl, rfl⟩))
theorem c_X6_hasRoom {x0 x2 x3 x4 x5 x6 x7 x8 x9 x10 x11 x12 x13 x14 x15 x16 x17 x18 x19 x20 x21 x22 x23 x24 x25 x26 x27 x28 x29 x30 x31 x32 : ax_E} {f1_2 f1_3 f1_4 f1_5 f1_6 : Int32} {wm : List ax_E}  : Ct M_X6_hasRoom [.ref 1] ([x0, ob 6 [.ref 2, .ref 3, .int f1_2, .int f1_3, .int f1_4, .int f1_5, .int f1_6], x2, x3, x4, x5, x6, x7, x8, x9, x10, x11, x12, x13, x14, x15, x16, x17, x18, x19, x20, x21, x22, x23, x24, x25, x26, x27, x28, x29, x30, x31, x32], wm) (fun r w' => ((f1_2 + 20 ≤ 700) ∧ r = some (.int 1) ∧ w' = ([x0, ob 6 [.ref 2, .ref 3, .int f1_2, .int f1_3, .int f1_4, .int f1_5, .int f1_6], x2, x3, x4, x5, x6, x7, x8, x9, x10, x11, x12, x13, x14, x15, x16, x17, x18, x19, x20, x21, x22, x23, x24, x25, x26, x27, x28, x29, x30, x31, x32], wm)) ∨ ((¬ (f1_2 + 20 ≤ 700)) ∧ r = some (.int 0) ∧ w' = ([x0, ob 6 [.ref 2, .ref 3, .int f1_2, .int f1_3, .int f1_4, .int f1_5, .int f1_6], x2, x3, x4, x5, x6, x7, x8, x9, x10, x11, x12, x13, x14, x15, x16, x17, x18, x19, x20, x21, x22, x23, x24, x25, x26, x27, x28, x29, x30, x31, x32], wm))) := by
  refine ct_of ⟨by decide, rfl⟩ (Nat.le_of_ble_eq_true rfl) ?_
  refine ab_aload_n dX6_hasRoom_0 rfl ?_
  refine ab_getf dX6_hasRoom_1 fl_X6_19 rfl rfl ?_
  refine ab_bipush (v := 20) dX6_hasRoom_4 (by decide) ?_
  refine ab_iadd dX6_hasRoom_6 ?_
  refine ab_sipush (v := 700) dX6_hasRoom_7 (by decide) ?_
  refine ab_icmpgt 17 dX6_hasRoom_10 (by decide) (fun h_1 => ?_) (fun h_1 => ?_)
  · refine ab_iconst (v := 0) dX6_hasRoom_17 (by decide) ?_
    exact ab_zret dX6_hasRoom_18 rfl rfl (by decide) (Or.inr (⟨(by grind), rfl, rfl⟩))
  · refine ab_iconst (v := 1) dX6_hasRoom_13 (by decide) ?_
    refine ab_goto 18 dX6_hasRoom_14 (by decide) ?_
    exact ab_zret dX6_hasRoom_18 rfl rfl (by decide) (Or.inl (⟨(by grind), rfl, rfl⟩))
theorem c_X6_length {x0 x2 x3 x4 x5 x6 x7 x8 x9 x10 x11 x12 x13 x14 x15 x16 x17 x18 x19 x20 x21 x22 x23 x24 x25 x26 x27 x28 x29 x30 x31 x32 : ax_E} {f1_2 f1_3 f1_4 f1_5 f1_6 : Int32} {wm : List ax_E}  : Ct M_X6_length [.ref 1] ([x0, ob 6 [.ref 2, .ref 3, .int f1_2, .int f1_3, .int f1_4, .int f1_5, .int f1_6], x2, x3, x4, x5, x6, x7, x8, x9, x10, x11, x12, x13, x14, x15, x16, x17, x18, x19, x20, x21, x22, x23, x24, x25, x26, x27, x28, x29, x30, x31, x32], wm) (fun r w' => r = some (.int f1_2) ∧ w' = ([x0, ob 6 [.ref 2, .ref 3, .int f1_2, .int f1_3, .int f1_4, .int f1_5, .int f1_6], x2, x3, x4, x5, x6, x7, x8, x9, x10, x11, x12, x13, x14, x15, x16, x17, x18, x19, x20, x21, x22, x23, x24, x25, x26, x27, x28, x29, x30, x31, x32], wm)) := by
  refine ct_of ⟨by decide, rfl⟩ (Nat.le_of_ble_eq_true rfl) ?_
  refine ab_aload_n dX6_length_0 rfl ?_
  refine ab_getf dX6_length_1 fl_X6_19 rfl rfl ?_
  exact ab_iret dX6_length_4 rfl (by decide) (⟨rfl, rfl⟩)
theorem c_X6_faultFound {x0 x2 x3 x4 x5 x6 x7 x8 x9 x10 x11 x12 x13 x14 x15 x16 x17 x18 x19 x20 x21 x22 x23 x24 x25 x26 x27 x28 x29 x30 x31 x32 : ax_E} {f1_2 f1_3 f1_4 f1_5 f1_6 : Int32} {wm : List ax_E}  : Ct M_X6_faultFound [.ref 1] ([x0, ob 6 [.ref 2, .ref 3, .int f1_2, .int f1_3, .int f1_4, .int f1_5, .int f1_6], x2, x3, x4, x5, x6, x7, x8, x9, x10, x11, x12, x13, x14, x15, x16, x17, x18, x19, x20, x21, x22, x23, x24, x25, x26, x27, x28, x29, x30, x31, x32], wm) (fun r w' => r = some (.int f1_5) ∧ w' = ([x0, ob 6 [.ref 2, .ref 3, .int f1_2, .int f1_3, .int f1_4, .int f1_5, .int f1_6], x2, x3, x4, x5, x6, x7, x8, x9, x10, x11, x12, x13, x14, x15, x16, x17, x18, x19, x20, x21, x22, x23, x24, x25, x26, x27, x28, x29, x30, x31, x32], wm)) := by
  refine ct_of ⟨by decide, rfl⟩ (Nat.le_of_ble_eq_true rfl) ?_
  refine ab_aload_n dX6_faultFound_0 rfl ?_
  refine ab_getf dX6_faultFound_1 fl_X6_29 rfl rfl ?_
  exact ab_iret dX6_faultFound_4 rfl (by decide) (⟨rfl, rfl⟩)
theorem c_X6_faultPlace {x0 x2 x3 x4 x5 x6 x7 x8 x9 x10 x11 x12 x13 x14 x15 x16 x17 x18 x19 x20 x21 x22 x23 x24 x25 x26 x27 x28 x29 x30 x31 x32 : ax_E} {f1_2 f1_3 f1_4 f1_5 f1_6 : Int32} {wm : List ax_E}  : Ct M_X6_faultPlace [.ref 1] ([x0, ob 6 [.ref 2, .ref 3, .int f1_2, .int f1_3, .int f1_4, .int f1_5, .int f1_6], x2, x3, x4, x5, x6, x7, x8, x9, x10, x11, x12, x13, x14, x15, x16, x17, x18, x19, x20, x21, x22, x23, x24, x25, x26, x27, x28, x29, x30, x31, x32], wm) (fun r w' => r = some (.int f1_6) ∧ w' = ([x0, ob 6 [.ref 2, .ref 3, .int f1_2, .int f1_3, .int f1_4, .int f1_5, .int f1_6], x2, x3, x4, x5, x6, x7, x8, x9, x10, x11, x12, x13, x14, x15, x16, x17, x18, x19, x20, x21, x22, x23, x24, x25, x26, x27, x28, x29, x30, x31, x32], wm)) := by
  refine ct_of ⟨by decide, rfl⟩ (Nat.le_of_ble_eq_true rfl) ?_
  refine ab_aload_n dX6_faultPlace_0 rfl ?_
  refine ab_getf dX6_faultPlace_1 fl_X6_32 rfl rfl ?_
  exact ab_iret dX6_faultPlace_4 rfl (by decide) (⟨rfl, rfl⟩)
theorem c_X6_fails {x0 x2 x3 x4 x5 x6 x7 x8 x9 x10 x11 x12 x13 x14 x15 x16 x17 x18 x19 x20 x21 x22 x23 x24 x25 x26 x27 x28 x29 x30 x31 x32 : ax_E} {f1_2 f1_3 f1_4 f1_5 f1_6 a1 a2 : Int32} {wm : List ax_E}  : Ct M_X6_fails [.ref 1, .int a1, .int a2] ([x0, ob 6 [.ref 2, .ref 3, .int f1_2, .int f1_3, .int f1_4, .int f1_5, .int f1_6], x2, x3, x4, x5, x6, x7, x8, x9, x10, x11, x12, x13, x14, x15, x16, x17, x18, x19, x20, x21, x22, x23, x24, x25, x26, x27, x28, x29, x30, x31, x32], wm) (fun r w' => r = some (.int 0) ∧ w' = ([x0, ob 6 [.ref 2, .ref 3, .int f1_2, .int f1_3, .int f1_4, .int a1, .int a2], x2, x3, x4, x5, x6, x7, x8, x9, x10, x11, x12, x13, x14, x15, x16, x17, x18, x19, x20, x21, x22, x23, x24, x25, x26, x27, x28, x29, x30, x31, x32], wm)) := by
  refine ct_of ⟨by decide, rfl⟩ (Nat.le_of_ble_eq_true rfl) ?_
  refine ab_aload_n dX6_fails_0 rfl ?_
  refine ab_iload_n dX6_fails_1 rfl ?_
  refine ab_putf (w1 := ([x0, ob 6 [.ref 2, .ref 3, .int f1_2, .int f1_3, .int f1_4, .int a1, .int f1_6], x2, x3, x4, x5, x6, x7, x8, x9, x10, x11, x12, x13, x14, x15, x16, x17, x18, x19, x20, x21, x22, x23, x24, x25, x26, x27, x28, x29, x30, x31, x32], wm)) dX6_fails_2 fl_X6_29 rfl (Nat.le_of_ble_eq_true rfl) (fun _ => ⟨rfl, rfl⟩) rfl ?_
  refine ab_aload_n dX6_fails_5 rfl ?_
  refine ab_iload_n dX6_fails_6 rfl ?_
  refine ab_putf (w1 := ([x0, ob 6 [.ref 2, .ref 3, .int f1_2, .int f1_3, .int f1_4, .int a1, .int a2], x2, x3, x4, x5, x6, x7, x8, x9, x10, x11, x12, x13, x14, x15, x16, x17, x18, x19, x20, x21, x22, x23, x24, x25, x26, x27, x28, x29, x30, x31, x32], wm)) dX6_fails_7 fl_X6_32 rfl (Nat.le_of_ble_eq_true rfl) (fun _ => ⟨rfl, rfl⟩) rfl ?_
  refine ab_iconst (v := 0) dX6_fails_10 (by decide) ?_
  exact ab_zret dX6_fails_11 rfl rfl (by decide) (⟨rfl, rfl⟩)
theorem c_X6_isDigit {w : ax_W} {a1 : Int32}  : Ct M_X6_isDigit [.int a1] w (fun r w' => ((48 ≤ a1 ∧ a1 ≤ 57) ∧ r = some (.int 1) ∧ w' = w) ∨ ((¬ (48 ≤ a1 ∧ a1 ≤ 57)) ∧ r = some (.int 0) ∧ w' = w)) := by
  refine ct_of ⟨by decide, rfl⟩ (Nat.le_of_ble_eq_true rfl) ?_
  refine ab_iload_n dX6_isDigit_0 rfl ?_
  refine ab_bipush (v := 48) dX6_isDigit_1 (by decide) ?_
  refine ab_icmplt 16 dX6_isDigit_3 (by decide) (fun h_1 => ?_) (fun h_1 => ?_)
  · refine ab_iconst (v := 0) dX6_isDigit_16 (by decide) ?_
    exact ab_zret dX6_isDigit_17 rfl rfl (by decide) (Or.inr (⟨(by grind), rfl, rfl⟩))
  · refine ab_iload_n dX6_isDigit_6 rfl ?_
    refine ab_bipush (v := 57) dX6_isDigit_7 (by decide) ?_
    refine ab_icmpgt 16 dX6_isDigit_9 (by decide) (fun h_2 => ?_) (fun h_2 => ?_)
    · refine ab_iconst (v := 0) dX6_isDigit_16 (by decide) ?_
      exact ab_zret dX6_isDigit_17 rfl rfl (by decide) (Or.inr (⟨(by grind), rfl, rfl⟩))
    · refine ab_iconst (v := 1) dX6_isDigit_12 (by decide) ?_
      refine ab_goto 17 dX6_isDigit_13 (by decide) ?_
      exact ab_zret dX6_isDigit_17 rfl rfl (by decide) (Or.inl (⟨(by grind), rfl, rfl⟩))
theorem c_X6_isLetter {w : ax_W} {a1 : Int32}  : Ct M_X6_isLetter [.int a1] w (fun r w' => ((97 ≤ a1 ∧ a1 ≤ 122) ∧ r = some (.int 1) ∧ w' = w) ∨ ((¬ (97 ≤ a1 ∧ a1 ≤ 122)) ∧ r = some (.int 0) ∧ w' = w)) := by
  refine ct_of ⟨by decide, rfl⟩ (Nat.le_of_ble_eq_true rfl) ?_
  refine ab_iload_n dX6_isLetter_0 rfl ?_
  refine ab_bipush (v := 97) dX6_isLetter_1 (by decide) ?_
  refine ab_icmplt 16 dX6_isLetter_3 (by decide) (fun h_1 => ?_) (fun h_1 => ?_)
  · refine ab_iconst (v := 0) dX6_isLetter_16 (by decide) ?_
    exact ab_zret dX6_isLetter_17 rfl rfl (by decide) (Or.inr (⟨(by grind), rfl, rfl⟩))
  · refine ab_iload_n dX6_isLetter_6 rfl ?_
    refine ab_bipush (v := 122) dX6_isLetter_7 (by decide) ?_
    refine ab_icmpgt 16 dX6_isLetter_9 (by decide) (fun h_2 => ?_) (fun h_2 => ?_)
    · refine ab_iconst (v := 0) dX6_isLetter_16 (by decide) ?_
      exact ab_zret dX6_isLetter_17 rfl rfl (by decide) (Or.inr (⟨(by grind), rfl, rfl⟩))
    · refine ab_iconst (v := 1) dX6_isLetter_12 (by decide) ?_
      refine ab_goto 17 dX6_isLetter_13 (by decide) ?_
      exact ab_zret dX6_isLetter_17 rfl rfl (by decide) (Or.inl (⟨(by grind), rfl, rfl⟩))
theorem c_X4_foundUpper {x0 x1 x2 x3 x4 x5 x6 x7 x8 x9 x10 x11 x12 x13 x14 x15 x16 x17 x19 x20 x21 x22 x23 x24 x25 x26 x27 x28 x29 x30 x31 x32 : ax_E} {f18_6 f18_7 f18_8 f18_9 f18_10 : Int32} {f18_11 f18_12 : Int64} {wm : List ax_E}  : Ct M_X4_foundUpper [.ref 18] ([x0, x1, x2, x3, x4, x5, x6, x7, x8, x9, x10, x11, x12, x13, x14, x15, x16, x17, ob 4 [.ref 19, .ref 20, .ref 21, .ref 22, .ref 23, .ref 24, .int f18_6, .int f18_7, .int f18_8, .int f18_9, .int f18_10, .long f18_11, .long f18_12], x19, x20, x21, x22, x23, x24, x25, x26, x27, x28, x29, x30, x31, x32], wm) (fun r w' => r = some (.long f18_12) ∧ w' = ([x0, x1, x2, x3, x4, x5, x6, x7, x8, x9, x10, x11, x12, x13, x14, x15, x16, x17, ob 4 [.ref 19, .ref 20, .ref 21, .ref 22, .ref 23, .ref 24, .int f18_6, .int f18_7, .int f18_8, .int f18_9, .int f18_10, .long f18_11, .long f18_12], x19, x20, x21, x22, x23, x24, x25, x26, x27, x28, x29, x30, x31, x32], wm)) := by
  refine ct_of ⟨by decide, rfl⟩ (Nat.le_of_ble_eq_true rfl) ?_
  refine ab_aload_n dX4_foundUpper_0 rfl ?_
  refine ab_getf dX4_foundUpper_1 fl_X4_50 rfl rfl ?_
  exact ab_lret dX4_foundUpper_4 rfl (by decide) (⟨rfl, rfl⟩)
theorem c_X4_foundLower {x0 x1 x2 x3 x4 x5 x6 x7 x8 x9 x10 x11 x12 x13 x14 x15 x16 x17 x19 x20 x21 x22 x23 x24 x25 x26 x27 x28 x29 x30 x31 x32 : ax_E} {f18_6 f18_7 f18_8 f18_9 f18_10 : Int32} {f18_11 f18_12 : Int64} {wm : List ax_E}  : Ct M_X4_foundLower [.ref 18] ([x0, x1, x2, x3, x4, x5, x6, x7, x8, x9, x10, x11, x12, x13, x14, x15, x16, x17, ob 4 [.ref 19, .ref 20, .ref 21, .ref 22, .ref 23, .ref 24, .int f18_6, .int f18_7, .int f18_8, .int f18_9, .int f18_10, .long f18_11, .long f18_12], x19, x20, x21, x22, x23, x24, x25, x26, x27, x28, x29, x30, x31, x32], wm) (fun r w' => r = some (.long f18_11) ∧ w' = ([x0, x1, x2, x3, x4, x5, x6, x7, x8, x9, x10, x11, x12, x13, x14, x15, x16, x17, ob 4 [.ref 19, .ref 20, .ref 21, .ref 22, .ref 23, .ref 24, .int f18_6, .int f18_7, .int f18_8, .int f18_9, .int f18_10, .long f18_11, .long f18_12], x19, x20, x21, x22, x23, x24, x25, x26, x27, x28, x29, x30, x31, x32], wm)) := by
  refine ct_of ⟨by decide, rfl⟩ (Nat.le_of_ble_eq_true rfl) ?_
  refine ab_aload_n dX4_foundLower_0 rfl ?_
  refine ab_getf dX4_foundLower_1 fl_X4_46 rfl rfl ?_
  exact ab_lret dX4_foundLower_4 rfl (by decide) (⟨rfl, rfl⟩)
def Pr_bar (f18_8 : Int32) (f18_9 : Int32) (f18_10 : Int32) (a1 : Int32) : Int32 := (if a1 = 0 then f18_8 else (if a1 = 1 then f18_9 else f18_10))
theorem c_X4_foundBar {x0 x1 x2 x3 x4 x5 x6 x7 x8 x9 x10 x11 x12 x13 x14 x15 x16 x17 x19 x20 x21 x22 x23 x24 x25 x26 x27 x28 x29 x30 x31 x32 : ax_E} {f18_6 f18_7 f18_8 f18_9 f18_10 a1 : Int32} {f18_11 f18_12 : Int64} {wm : List ax_E}  : Ct M_X4_foundBar [.ref 18, .int a1] ([x0, x1, x2, x3, x4, x5, x6, x7, x8, x9, x10, x11, x12, x13, x14, x15, x16, x17, ob 4 [.ref 19, .ref 20, .ref 21, .ref 22, .ref 23, .ref 24, .int f18_6, .int f18_7, .int f18_8, .int f18_9, .int f18_10, .long f18_11, .long f18_12], x19, x20, x21, x22, x23, x24, x25, x26, x27, x28, x29, x30, x31, x32], wm) (fun r w' => r = some (.int (Pr_bar f18_8 f18_9 f18_10 a1)) ∧ w' = ([x0, x1, x2, x3, x4, x5, x6, x7, x8, x9, x10, x11, x12, x13, x14, x15, x16, x17, ob 4 [.ref 19, .ref 20, .ref 21, .ref 22, .ref 23, .ref 24, .int f18_6, .int f18_7, .int f18_8, .int f18_9, .int f18_10, .long f18_11, .long f18_12], x19, x20, x21, x22, x23, x24, x25, x26, x27, x28, x29, x30, x31, x32], wm)) := by
  refine ct_of ⟨by decide, rfl⟩ (Nat.le_of_ble_eq_true rfl) ?_
  refine ab_iload_n dX4_foundBar_0 rfl ?_
  refine ab_ifne 9 dX4_foundBar_1 (by decide) (fun h_1 => ?_) (fun h_1 => ?_)
  · refine ab_iload_n dX4_foundBar_9 rfl ?_
    refine ab_iconst (v := 1) dX4_foundBar_10 (by decide) ?_
    refine ab_icmpne 21 dX4_foundBar_11 (by decide) (fun h_2 => ?_) (fun h_2 => ?_)
    · refine ab_aload_n dX4_foundBar_21 rfl ?_
      refine ab_getf dX4_foundBar_22 fl_X4_43 rfl rfl ?_
      exact ab_iret dX4_foundBar_25 rfl (by decide) (⟨by rw [Pr_bar, if_neg (show ¬ a1 = 0 from h_1), if_neg (show ¬ a1 = 1 from h_2)], rfl⟩)
    · refine ab_aload_n dX4_foundBar_14 rfl ?_
      refine ab_getf dX4_foundBar_15 fl_X4_40 rfl rfl ?_
      refine ab_goto 25 dX4_foundBar_18 (by decide) ?_
      exact ab_iret dX4_foundBar_25 rfl (by decide) (⟨by rw [Pr_bar, if_neg (show ¬ a1 = 0 from h_1), if_pos (show a1 = 1 from h_2)], rfl⟩)
  · refine ab_aload_n dX4_foundBar_4 rfl ?_
    refine ab_getf dX4_foundBar_5 fl_X4_37 rfl rfl ?_
    exact ab_iret dX4_foundBar_8 rfl (by decide) (⟨by rw [Pr_bar, if_pos (show a1 = 0 from h_1)], rfl⟩)
def Pr_wr (r19 : Nat → Int64) (r20 : Nat → Int64) (r21 : Nat → Int64) (r22 : Nat → Int64) (a2 : Int64) (a3 : Int64) (a4 : Int64) (j1 : Nat) : Int64 := (((((((a2 * a2) + (a3 * a3)) + (a4 * a4)) * (r22 j1)) - (((2 * a2) * a3) * (r19 j1))) + (((2 * a2) * a4) * (r20 j1))) - (((2 * a3) * a4) * (r21 j1)))
theorem c_X4_withoutRod {x0 x1 x2 x3 x4 x5 x6 x7 x8 x9 x10 x11 x12 x13 x14 x15 x16 x17 x23 x24 x25 x26 x27 x28 x29 x30 x31 x32 : ax_E} {f18_6 f18_7 f18_8 f18_9 f18_10 a1 : Int32} {f18_11 f18_12 a2 a3 a4 : Int64} {r19 r20 r21 r22 : Nat → Int64} {wm : List ax_E} {j1 : Nat} (h_j1 : ax_ix a1 4 j1) : Ct M_X4_withoutRod [.ref 18, .int a1, .long a2, .long a3, .long a4] ([x0, x1, x2, x3, x4, x5, x6, x7, x8, x9, x10, x11, x12, x13, x14, x15, x16, x17, ob 4 [.ref 19, .ref 20, .ref 21, .ref 22, .ref 23, .ref 24, .int f18_6, .int f18_7, .int f18_8, .int f18_9, .int f18_10, .long f18_11, .long f18_12], ja 4 r19, ja 4 r20, ja 4 r21, ja 4 r22, x23, x24, x25, x26, x27, x28, x29, x30, x31, x32], wm) (fun r w' => r = some (.long (Pr_wr r19 r20 r21 r22 a2 a3 a4 j1)) ∧ w' = ([x0, x1, x2, x3, x4, x5, x6, x7, x8, x9, x10, x11, x12, x13, x14, x15, x16, x17, ob 4 [.ref 19, .ref 20, .ref 21, .ref 22, .ref 23, .ref 24, .int f18_6, .int f18_7, .int f18_8, .int f18_9, .int f18_10, .long f18_11, .long f18_12], ja 4 r19, ja 4 r20, ja 4 r21, ja 4 r22, x23, x24, x25, x26, x27, x28, x29, x30, x31, x32], wm)) := by
  refine ct_of ⟨by decide, rfl⟩ (Nat.le_of_ble_eq_true rfl) ?_
  refine ab_lload_n dX4_withoutRod_0 rfl ?_
  refine ab_lload_n dX4_withoutRod_1 rfl ?_
  refine ab_lmul dX4_withoutRod_2 ?_
  refine ab_lload dX4_withoutRod_3 rfl ?_
  refine ab_lload dX4_withoutRod_5 rfl ?_
  refine ab_lmul dX4_withoutRod_7 ?_
  refine ab_ladd dX4_withoutRod_8 ?_
  refine ab_lload dX4_withoutRod_9 rfl ?_
  refine ab_lload dX4_withoutRod_11 rfl ?_
  refine ab_lmul dX4_withoutRod_13 ?_
  refine ab_ladd dX4_withoutRod_14 ?_
  refine ab_aload_n dX4_withoutRod_15 rfl ?_
  refine ab_getf dX4_withoutRod_16 fl_X4_21 rfl rfl ?_
  refine ab_iload_n dX4_withoutRod_19 rfl ?_
  refine ab_lald (j := j1) dX4_withoutRod_20 rfl h_j1 ?_
  refine ab_lmul dX4_withoutRod_21 ?_
  refine ab_ldc2 dX4_withoutRod_22 kl_X4_97 ?_
  refine ab_lload_n dX4_withoutRod_25 rfl ?_
  refine ab_lmul dX4_withoutRod_26 ?_
  refine ab_lload dX4_withoutRod_27 rfl ?_
  refine ab_lmul dX4_withoutRod_29 ?_
  refine ab_aload_n dX4_withoutRod_30 rfl ?_
  refine ab_getf dX4_withoutRod_31 fl_X4_11 rfl rfl ?_
  refine ab_iload_n dX4_withoutRod_34 rfl ?_
  refine ab_lald (j := j1) dX4_withoutRod_35 rfl h_j1 ?_
  refine ab_lmul dX4_withoutRod_36 ?_
  refine ab_lsub dX4_withoutRod_37 ?_
  refine ab_ldc2 dX4_withoutRod_38 kl_X4_97 ?_
  refine ab_lload_n dX4_withoutRod_41 rfl ?_
  refine ab_lmul dX4_withoutRod_42 ?_
  refine ab_lload dX4_withoutRod_43 rfl ?_
  refine ab_lmul dX4_withoutRod_45 ?_
  refine ab_aload_n dX4_withoutRod_46 rfl ?_
  refine ab_getf dX4_withoutRod_47 fl_X4_15 rfl rfl ?_
  refine ab_iload_n dX4_withoutRod_50 rfl ?_
  refine ab_lald (j := j1) dX4_withoutRod_51 rfl h_j1 ?_
  refine ab_lmul dX4_withoutRod_52 ?_
  refine ab_ladd dX4_withoutRod_53 ?_
  refine ab_ldc2 dX4_withoutRod_54 kl_X4_97 ?_
  refine ab_lload dX4_withoutRod_57 rfl ?_
  refine ab_lmul dX4_withoutRod_59 ?_
  refine ab_lload dX4_withoutRod_60 rfl ?_
  refine ab_lmul dX4_withoutRod_62 ?_
  refine ab_aload_n dX4_withoutRod_63 rfl ?_
  refine ab_getf dX4_withoutRod_64 fl_X4_18 rfl rfl ?_
  refine ab_iload_n dX4_withoutRod_67 rfl ?_
  refine ab_lald (j := j1) dX4_withoutRod_68 rfl h_j1 ?_
  refine ab_lmul dX4_withoutRod_69 ?_
  refine ab_lsub dX4_withoutRod_70 ?_
  exact ab_lret dX4_withoutRod_71 rfl (by decide) (⟨rfl, rfl⟩)
def Fdv (a1 : Int64) (a2 : Int64) : Int64 := (if 0 ≤ (a1 ^^^ a2) then (a1 / a2) else (if ((a1 / a2) * a2) = a1 then (a1 / a2) else ((a1 / a2) - 1)))
theorem c_J9_floorDiv_f86c9 {w : ax_W} {a1 a2 : Int64} (h_0 : ¬ a2 = 0) : Ct M_J9_floorDiv_f86c9 [.long a1, .long a2] w (fun r w' => r = some (.long (Fdv a1 a2)) ∧ w' = w) := by
  refine ct_ofF ⟨by decide +kernel, rfl⟩ (Nat.le_of_ble_eq_true rfl) ?_
  refine ab_lload_n dJ9_floorDiv_f86c9_0 rfl ?_
  refine ab_lload_n dJ9_floorDiv_f86c9_1 rfl ?_
  refine ab_ldiv dJ9_floorDiv_f86c9_2 h_0 ?_
  refine ab_lstore (la' := [(4, .long (a1 / a2)), (0, .long a1), (2, .long a2)]) dJ9_floorDiv_f86c9_3 (by decide) rfl ?_
  refine ab_lload_n dJ9_floorDiv_f86c9_5 rfl ?_
  refine ab_lload_n dJ9_floorDiv_f86c9_6 rfl ?_
  refine ab_lxor dJ9_floorDiv_f86c9_7 ?_
  refine ab_lconst (v := 0) dJ9_floorDiv_f86c9_8 (by decide) ?_
  refine ab_lcmpge 27 dJ9_floorDiv_f86c9_9 dJ9_floorDiv_f86c9_10 (by decide) (fun h_1 => ?_) (fun h_1 => ?_)
  · refine ab_lload dJ9_floorDiv_f86c9_27 rfl ?_
    exact ab_lret dJ9_floorDiv_f86c9_29 rfl (by decide) (⟨by rw [Fdv, if_pos (show 0 ≤ (a1 ^^^ a2) from h_1)], rfl⟩)
  · refine ab_lload dJ9_floorDiv_f86c9_13 rfl ?_
    refine ab_lload_n dJ9_floorDiv_f86c9_15 rfl ?_
    refine ab_lmul dJ9_floorDiv_f86c9_16 ?_
    refine ab_lload_n dJ9_floorDiv_f86c9_17 rfl ?_
    refine ab_lcmpeq 27 dJ9_floorDiv_f86c9_18 dJ9_floorDiv_f86c9_19 (by decide) (fun h_2 => ?_) (fun h_2 => ?_)
    · refine ab_lload dJ9_floorDiv_f86c9_27 rfl ?_
      exact ab_lret dJ9_floorDiv_f86c9_29 rfl (by decide) (⟨by rw [Fdv, if_neg (show ¬ 0 ≤ (a1 ^^^ a2) from h_1), if_pos (show ((a1 / a2) * a2) = a1 from h_2)], rfl⟩)
    · refine ab_lload dJ9_floorDiv_f86c9_22 rfl ?_
      refine ab_lconst (v := 1) dJ9_floorDiv_f86c9_24 (by decide) ?_
      refine ab_lsub dJ9_floorDiv_f86c9_25 ?_
      exact ab_lret dJ9_floorDiv_f86c9_26 rfl (by decide) (⟨by rw [Fdv, if_neg (show ¬ 0 ≤ (a1 ^^^ a2) from h_1), if_neg (show ¬ ((a1 / a2) * a2) = a1 from h_2)], rfl⟩)
