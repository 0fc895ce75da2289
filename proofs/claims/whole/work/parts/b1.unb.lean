/-! THE CLASS'S unbuilt: it returns or throws (written by program: gl4.py) -/
abbrev M_ub : ax_M := (yX10_unbuilt, cX10_unbuilt, 4, some .int, { frames := 8, cells := 1, slots := 6, locals := 300 }, false, none)
def Zub (QR : Int32 → ax_W → Prop) (QX : ax_W → Prop) : ZT := fun p l e R s m args below meth c D ca ad A Qf =>
  (∀ (H : Heap) (locs : List Loc) (ls : Array Slot) (r : Int32) (w' : ax_W), QR r w' → ax_P D ca ad A w' H s.heap locs → W p l e R s m args below meth c H locs 0 0 Qf (F0 m 33 ls [.int r])) ∧
  (∀ (H : Heap) (locs : List Loc) (ls : Array Slot) (w' : ax_W), QX w' → ax_P D ca ad A w' H s.heap locs → ls.size = 4 → W p l e R s m args below meth c H locs 0 0 Qf (F0 m 43 ls []))
theorem zub_r {QR : Int32 → ax_W → Prop} {QX : ax_W → Prop} {la : List (Nat × Value)} {r : Int32} {w : ax_W} (h : QR r w) : AbZ (Zub QR QX) M_ub (0, 0) 33 la [.int r] w := fun _ _ _ _ _ _ _ _ _ _ _ _ _ _ _ H locs ls _ hP _ hE => hE.1 H locs ls r w h hP
theorem zub_x {QR : Int32 → ax_W → Prop} {QX : ax_W → Prop} {la : List (Nat × Value)} {w : ax_W} (h : QX w) : AbZ (Zub QR QX) M_ub (0, 0) 43 la [] w := fun _ _ _ _ _ _ _ _ _ _ _ _ _ _ _ H locs ls _ hP hl hE => hE.2 H locs ls w h hP hl.1
def lp_ub_st (r5 : Nat → Int32) (a1 : Int32) (k : Nat) (s : Int32) : Int32 ⊕ Int32 := if 2 * Lk_max (Bg r5 (nI k)) (Ba r5 (nI k)) (Bb r5 (nI k)) (Bc r5 (nI k)) ≤ Lk_all (Bg r5 (nI k)) (Ba r5 (nI k)) (Bb r5 (nI k)) (Bc r5 (nI k)) then .inl s else if s = a1 then .inr (nI k) else .inl (s + 1)
set_option maxHeartbeats 400000 in
theorem lp_ub {f0_0 a1 : Int32} {x1 x2 x3 x7 x8 x9 x11 x12 x13 x14 x15 x16 x17 x18 x19 x20 x21 x22 x23 x24 x25 x26 x27 x28 x29 x30 x31 x32 : ax_E} {r5 r6 : Nat → Int32} {wm : List ax_E} {nl : Nat} {QR : Int32 → ax_W → Prop} {QX : ax_W → Prop} (h_c : r6 0 = nI nl) (h_nl : nl ≤ 4) : ∀ (n k : Nat) (s g0 g1 g2 g3 : Int32), k + n = nl → (∀ (r g0 g1 g2 g3 : Int32), itx (lp_ub_st r5 a1) n k s = .inr r → QR r ([ob 8 [.int f0_0, .ref 1, .ref 4, .ref 7, .ref 10, .ref 11, .ref 12, .ref 18, .ref 25, .ref 29], x1, x2, x3, ob 2 [.ref 5, .ref 6], ia 56 r5, ia 4 r6, x7, x8, x9, ob 3 [.int g0, .int g1, .int g2, .int g3], x11, x12, x13, x14, x15, x16, x17, x18, x19, x20, x21, x22, x23, x24, x25, x26, x27, x28, x29, x30, x31, x32], wm)) → (∀ (z g0 g1 g2 g3 : Int32), itx (lp_ub_st r5 a1) n k s = .inl z → QX ([ob 8 [.int f0_0, .ref 1, .ref 4, .ref 7, .ref 10, .ref 11, .ref 12, .ref 18, .ref 25, .ref 29], x1, x2, x3, ob 2 [.ref 5, .ref 6], ia 56 r5, ia 4 r6, x7, x8, x9, ob 3 [.int g0, .int g1, .int g2, .int g3], x11, x12, x13, x14, x15, x16, x17, x18, x19, x20, x21, x22, x23, x24, x25, x26, x27, x28, x29, x30, x31, x32], wm)) → AbZ (Zub QR QX) M_ub (0, 0) 4 [(3, .int (nI k)), (2, .int s), (1, .int a1), (0, .ref 0)] [] ([ob 8 [.int f0_0, .ref 1, .ref 4, .ref 7, .ref 10, .ref 11, .ref 12, .ref 18, .ref 25, .ref 29], x1, x2, x3, ob 2 [.ref 5, .ref 6], ia 56 r5, ia 4 r6, x7, x8, x9, ob 3 [.int g0, .int g1, .int g2, .int g3], x11, x12, x13, x14, x15, x16, x17, x18, x19, x20, x21, x22, x23, x24, x25, x26, x27, x28, x29, x30, x31, x32], wm) := by
  intro n
  induction n with
  | zero =>
    intro k s g0 g1 g2 g3 hk hr hx
    have hE0 := itx_0 (lp_ub_st r5 a1) k s
    refine az_iload_n dX10_unbuilt_4 rfl ?_
    refine az_aload_n dX10_unbuilt_5 rfl ?_
    refine az_getf dX10_unbuilt_6 fl_X10_23 rfl rfl ?_
    refine az_iconst (v := 0) dX10_unbuilt_9 (by decide) ?_
    refine az_callV (As := [.int 0]) (rest := [.int (nI k)]) dX10_unbuilt_10 mv_X2_count ml_X10_102 ⟨by decide, by decide, rfl, rfl, rfl⟩ (by decide) rfl rfl (Nat.le_of_ble_eq_true rfl) rfl c_X2_count_4_0 ?_
    rintro r w' ⟨rfl, rfl⟩
    refine az_icmpge 43 dX10_unbuilt_13 (by decide) (fun h_1 => ?_) (fun h_1 => absurd (by rw [h_c]; exact nI_le (a := nl) (b := k) (by omega) (by omega)) h_1)
    exact zub_x (hx s g0 g1 g2 g3 hE0)
  | succ n ih =>
    intro k s g0 g1 g2 g3 hk hr hx
    refine az_iload_n dX10_unbuilt_4 rfl ?_
    refine az_aload_n dX10_unbuilt_5 rfl ?_
    refine az_getf dX10_unbuilt_6 fl_X10_23 rfl rfl ?_
    refine az_iconst (v := 0) dX10_unbuilt_9 (by decide) ?_
    refine az_callV (As := [.int 0]) (rest := [.int (nI k)]) dX10_unbuilt_10 mv_X2_count ml_X10_102 ⟨by decide, by decide, rfl, rfl, rfl⟩ (by decide) rfl rfl (Nat.le_of_ble_eq_true rfl) rfl c_X2_count_4_0 ?_
    rintro r w' ⟨rfl, rfl⟩
    refine az_icmpge 43 dX10_unbuilt_13 (by decide) (fun h_1 => absurd h_1 (by rw [h_c]; exact nI_ge (a := k) (b := nl) (by omega) (by omega))) (fun h_1 => ?_)
    refine az_aload_n dX10_unbuilt_16 rfl ?_
    refine az_iload_n dX10_unbuilt_17 rfl ?_
    refine az_callV (As := [.int (nI k)]) (rest := []) dX10_unbuilt_18 mv_X10_linkageAt ml_X10_140 ⟨by decide, by decide, rfl, rfl, rfl⟩ (by decide) rfl rfl (Nat.le_of_ble_eq_true rfl) rfl (c_X10_linkageAt ⟨nI_pos' (by omega), by rw [h_c]; exact nI_lt (by omega) (by omega)⟩ (by rw [h_c]; exact (nI_bd h_nl (by decide)).2)) ?_
    rintro r w' ⟨rfl, rfl⟩
    refine az_callV (As := []) (rest := []) dX10_unbuilt_21 mv_X3_canBeBuilt ml_X10_379 ⟨by decide, by decide, rfl, rfl, rfl⟩ (by decide) rfl rfl (Nat.le_of_ble_eq_true rfl) rfl c_X3_canBeBuilt ?_
    rintro r w' (⟨c_2, rfl, rfl⟩ | ⟨c_3, rfl, rfl⟩)
    · refine az_ifne 37 dX10_unbuilt_24 (by decide) (fun h_4 => ?_) (fun h_4 => absurd h_4 (by decide))
      refine az_iinc (v := (nI (k + 1))) (la' := [(3, .int (nI (k + 1))), (2, .int s), (1, .int a1), (0, .ref 0)]) dX10_unbuilt_37 rfl (nI_1 _) (by decide) rfl ?_
      refine az_goto 4 dX10_unbuilt_40 (by decide) ?_
      rw [itx_l (f := lp_ub_st r5 a1) (n := n) (k := k) (s := s) (show lp_ub_st r5 a1 k s = .inl s from by rw [lp_ub_st, if_pos c_2])] at hx hr
      exact ih (k + 1) s _ _ _ _ (by omega) hr hx
    · refine az_ifne 37 dX10_unbuilt_24 (by decide) (fun h_5 => absurd (by decide) h_5) (fun h_5 => ?_)
      refine az_iload_n dX10_unbuilt_27 rfl ?_
      refine az_iload_n dX10_unbuilt_28 rfl ?_
      refine az_icmpne 34 dX10_unbuilt_29 (by decide) (fun h_6 => ?_) (fun h_6 => ?_)
      · refine az_iinc (v := (s + 1)) (la' := [(2, .int (s + 1)), (3, .int (nI k)), (1, .int a1), (0, .ref 0)]) dX10_unbuilt_34 rfl rfl (by decide) rfl ?_
        refine az_iinc (v := (nI (k + 1))) (la' := [(3, .int (nI (k + 1))), (2, .int (s + 1)), (1, .int a1), (0, .ref 0)]) dX10_unbuilt_37 rfl (nI_1 _) (by decide) rfl ?_
        refine az_goto 4 dX10_unbuilt_40 (by decide) ?_
        rw [itx_l (f := lp_ub_st r5 a1) (n := n) (k := k) (s := s) (show lp_ub_st r5 a1 k s = .inl (s + 1) from by rw [lp_ub_st, if_neg c_3, if_neg h_6])] at hx hr
        exact ih (k + 1) (s + 1) _ _ _ _ (by omega) hr hx
      · refine az_iload_n dX10_unbuilt_32 rfl ?_
        exact zub_r (hr (nI k) _ _ _ _ (itx_r (show lp_ub_st r5 a1 k s = .inr (nI k) from by rw [lp_ub_st, if_neg c_3, if_pos h_6])))
theorem z_ub {f0_0 a1 : Int32} {x1 x2 x3 x7 x8 x9 x11 x12 x13 x14 x15 x16 x17 x18 x19 x20 x21 x22 x23 x24 x25 x26 x27 x28 x29 x30 x31 x32 : ax_E} {r5 r6 : Nat → Int32} {wm : List ax_E} {nl : Nat} {g0 g1 g2 g3 : Int32} {QR : Int32 → ax_W → Prop} {QX : ax_W → Prop} (h_c : r6 0 = nI nl) (h_nl : nl ≤ 4) (hr : ∀ (r g0 g1 g2 g3 : Int32), itx (lp_ub_st r5 a1) nl 0 0 = .inr r → QR r ([ob 8 [.int f0_0, .ref 1, .ref 4, .ref 7, .ref 10, .ref 11, .ref 12, .ref 18, .ref 25, .ref 29], x1, x2, x3, ob 2 [.ref 5, .ref 6], ia 56 r5, ia 4 r6, x7, x8, x9, ob 3 [.int g0, .int g1, .int g2, .int g3], x11, x12, x13, x14, x15, x16, x17, x18, x19, x20, x21, x22, x23, x24, x25, x26, x27, x28, x29, x30, x31, x32], wm)) (hx : ∀ (z g0 g1 g2 g3 : Int32), itx (lp_ub_st r5 a1) nl 0 0 = .inl z → QX ([ob 8 [.int f0_0, .ref 1, .ref 4, .ref 7, .ref 10, .ref 11, .ref 12, .ref 18, .ref 25, .ref 29], x1, x2, x3, ob 2 [.ref 5, .ref 6], ia 56 r5, ia 4 r6, x7, x8, x9, ob 3 [.int g0, .int g1, .int g2, .int g3], x11, x12, x13, x14, x15, x16, x17, x18, x19, x20, x21, x22, x23, x24, x25, x26, x27, x28, x29, x30, x31, x32], wm)) : AbZ (Zub QR QX) M_ub (0, 0) 0 [(0, .ref 0), (1, .int a1)] [] ([ob 8 [.int f0_0, .ref 1, .ref 4, .ref 7, .ref 10, .ref 11, .ref 12, .ref 18, .ref 25, .ref 29], x1, x2, x3, ob 2 [.ref 5, .ref 6], ia 56 r5, ia 4 r6, x7, x8, x9, ob 3 [.int g0, .int g1, .int g2, .int g3], x11, x12, x13, x14, x15, x16, x17, x18, x19, x20, x21, x22, x23, x24, x25, x26, x27, x28, x29, x30, x31, x32], wm) := by
  refine az_iconst (v := 0) dX10_unbuilt_0 (by decide) ?_
  refine az_istore_n (la' := [(2, .int 0), (0, .ref 0), (1, .int a1)]) dX10_unbuilt_1 (by decide) rfl ?_
  refine az_iconst (v := 0) dX10_unbuilt_2 (by decide) ?_
  refine az_istore_n (la' := [(3, .int 0), (2, .int 0), (0, .ref 0), (1, .int a1)]) dX10_unbuilt_3 (by decide) rfl ?_
  refine az_pick [0, 1, 3, 2] rfl ?_
  exact lp_ub h_c h_nl nl 0 0 g0 g1 g2 g3 (by omega) hr hx
