def lp_cutI_st (r13 : Nat → Int32) (r14 : Nat → Int32) (c : Nat) (i : Nat) (j : Nat) (s : Int32) : Int32 := (if (nI (nxc c j)) = (nI i) then s else (if (0 < Cv_bend r13 r14 i (nxc c i) j ∧ Cv_bend r13 r14 i (nxc c i) (nxc c j) < 0) ∨ (Cv_bend r13 r14 i (nxc c i) j < 0 ∧ 0 < Cv_bend r13 r14 i (nxc c i) (nxc c j)) then (if (0 < Cv_bend r13 r14 j (nxc c j) i ∧ Cv_bend r13 r14 j (nxc c j) (nxc c i) < 0) ∨ (Cv_bend r13 r14 j (nxc c j) i < 0 ∧ 0 < Cv_bend r13 r14 j (nxc c j) (nxc c i)) then (s + 1) else s) else s))
set_option maxHeartbeats 400000 in
theorem lp_cutI {x0 x1 x2 x3 x4 x5 x6 x7 x8 x9 x10 x11 x15 x16 x17 x18 x19 x20 x21 x22 x23 x24 x25 x26 x27 x28 x29 x30 x31 x32 : ax_E} {f12_6 f12_7 f12_8 f12_9 : Int32} {r13 r14 : Nat → Int32} {wm : List ax_E} {c i : Nat} {Q : Option Value → ax_W → Prop} (hc : c ≤ 40) (hi : i < c) : ∀ (n j : Nat) (s : Int32) , j + n = c → Ab M_X1_cutCount Q (0, 0) 80 [(3, .int (nI c)), (2, .int (nI i)), (1, .int (itr (lp_cutI_st r13 r14 c i) n j s)), (0, .ref 12)] [] ([x0, x1, x2, x3, x4, x5, x6, x7, x8, x9, x10, x11, ob 1 [.ref 13, .ref 14, .ref 15, .ref 16, .ref 17, .int (nI c), .int f12_6, .int f12_7, .int f12_8, .int f12_9], ia 40 r13, ia 40 r14, x15, x16, x17, x18, x19, x20, x21, x22, x23, x24, x25, x26, x27, x28, x29, x30, x31, x32], wm) → Ab M_X1_cutCount Q (0, 0) 16 [(3, .int (nI j)), (2, .int (nI i)), (1, .int s), (0, .ref 12)] [] ([x0, x1, x2, x3, x4, x5, x6, x7, x8, x9, x10, x11, ob 1 [.ref 13, .ref 14, .ref 15, .ref 16, .ref 17, .int (nI c), .int f12_6, .int f12_7, .int f12_8, .int f12_9], ia 40 r13, ia 40 r14, x15, x16, x17, x18, x19, x20, x21, x22, x23, x24, x25, x26, x27, x28, x29, x30, x31, x32], wm) := by
  intro n
  induction n with
  | zero =>
    intro j s  hk hx
    rw [itr_0] at hx
    obtain rfl : j = c := by omega
    refine ab_iload_n dX1_cutCount_16 rfl ?_
    refine ab_aload_n dX1_cutCount_17 rfl ?_
    refine ab_getf dX1_cutCount_18 fl_X1_29 rfl rfl ?_
    refine ab_icmpge 80 dX1_cutCount_21 (by decide) (fun h_1 => ?_) (fun h_1 => absurd (nI_le (Nat.le_refl _) (by omega)) h_1)
    refine ab_pick [0, 1, 2, 3] rfl ?_
    exact hx 
  | succ n ih =>
    intro j s  hk hx
    refine ab_iload_n dX1_cutCount_16 rfl ?_
    refine ab_aload_n dX1_cutCount_17 rfl ?_
    refine ab_getf dX1_cutCount_18 fl_X1_29 rfl rfl ?_
    refine ab_icmpge 80 dX1_cutCount_21 (by decide) (fun h_1 => absurd h_1 (nI_ge (a := j) (b := c) (by omega) (by omega))) (fun h_1 => ?_)
    refine ab_aload_n dX1_cutCount_24 rfl ?_
    refine ab_iload_n dX1_cutCount_25 rfl ?_
    refine ab_callV (As := [.int (nI j)]) (rest := []) dX1_cutCount_26 mv_X1_next ml_X1_54 ⟨by decide, by decide, rfl, rfl, rfl⟩ (by decide) rfl rfl (Nat.le_of_ble_eq_true rfl) rfl c_X1_next ?_
    rintro r w' ⟨rfl, rfl⟩
    refine ab_topi (v := (nI (nxc c j))) (cv_next_nI (by omega) (by omega)) ?_
    refine ab_iload_n dX1_cutCount_29 rfl ?_
    refine ab_icmpeq 74 dX1_cutCount_30 (by decide) (fun h_2 => ?_) (fun h_2 => ?_)
    · refine ab_iinc (v := (nI (j + 1))) (la' := [(3, .int (nI (j + 1))), (2, .int (nI i)), (1, .int s), (0, .ref 12)]) dX1_cutCount_74 rfl (nI_1 _) (by decide) rfl ?_
      refine ab_goto 16 dX1_cutCount_77 (by decide) ?_
      refine ab_pick [0, 1, 2, 3] rfl ?_
      rw [(itr_s (lp_cutI_st r13 r14 c i) n j s).trans (congrArg (itr (lp_cutI_st r13 r14 c i) n (j + 1)) (show lp_cutI_st r13 r14 c i j s = s from by rw [lp_cutI_st, if_pos (show (nI (nxc c j)) = (nI i) from h_2)]))] at hx
      exact ih (j + 1) s  (by omega) hx
    · refine ab_aload_n dX1_cutCount_33 rfl ?_
      refine ab_iload_n dX1_cutCount_34 rfl ?_
      refine ab_aload_n dX1_cutCount_35 rfl ?_
      refine ab_iload_n dX1_cutCount_36 rfl ?_
      refine ab_callV (As := [.int (nI i)]) (rest := [.int (nI i), .ref 12]) dX1_cutCount_37 mv_X1_next ml_X1_54 ⟨by decide, by decide, rfl, rfl, rfl⟩ (by decide) rfl rfl (Nat.le_of_ble_eq_true rfl) rfl c_X1_next ?_
      rintro r w' ⟨rfl, rfl⟩
      refine ab_topi (v := (nI (nxc c i))) (cv_next_nI (by omega) (by omega)) ?_
      refine ab_iload_n dX1_cutCount_40 rfl ?_
      refine ab_aload_n dX1_cutCount_41 rfl ?_
      refine ab_iload_n dX1_cutCount_42 rfl ?_
      refine ab_callV (As := [.int (nI j)]) (rest := [.int (nI j), .int (nI (nxc c i)), .int (nI i), .ref 12]) dX1_cutCount_43 mv_X1_next ml_X1_54 ⟨by decide, by decide, rfl, rfl, rfl⟩ (by decide) rfl rfl (Nat.le_of_ble_eq_true rfl) rfl c_X1_next ?_
      rintro r w' ⟨rfl, rfl⟩
      refine ab_topi (v := (nI (nxc c j))) (cv_next_nI (by omega) (by omega)) ?_
      refine ab_callV (As := [.int (nI i), .int (nI (nxc c i)), .int (nI j), .int (nI (nxc c j))]) (rest := []) dX1_cutCount_46 mv_X1_parts ml_X1_66 ⟨by decide, by decide, rfl, rfl, rfl⟩ (by decide) rfl rfl (Nat.le_of_ble_eq_true rfl) rfl (c_X1_parts (j1 := i) (j2 := (nxc c i)) (j3 := j) (j4 := (nxc c j)) (ix_nI (by omega) (by decide)) (ix_nI (by have := nxc_lt (c := c) (i := i) (by omega); omega) (by decide)) (ix_nI (by omega) (by decide)) (ix_nI (by have := nxc_lt (c := c) (i := j) (by omega); omega) (by decide))) ?_
      rintro r w' (⟨c_3, rfl, rfl⟩ | ⟨c_4, rfl, rfl⟩)
      · refine ab_ifeq 74 dX1_cutCount_49 (by decide) (fun h_5 => absurd h_5 (by decide)) (fun h_5 => ?_)
        refine ab_aload_n dX1_cutCount_52 rfl ?_
        refine ab_iload_n dX1_cutCount_53 rfl ?_
        refine ab_aload_n dX1_cutCount_54 rfl ?_
        refine ab_iload_n dX1_cutCount_55 rfl ?_
        refine ab_callV (As := [.int (nI j)]) (rest := [.int (nI j), .ref 12]) dX1_cutCount_56 mv_X1_next ml_X1_54 ⟨by decide, by decide, rfl, rfl, rfl⟩ (by decide) rfl rfl (Nat.le_of_ble_eq_true rfl) rfl c_X1_next ?_
        rintro r w' ⟨rfl, rfl⟩
        refine ab_topi (v := (nI (nxc c j))) (cv_next_nI (by omega) (by omega)) ?_
        refine ab_iload_n dX1_cutCount_59 rfl ?_
        refine ab_aload_n dX1_cutCount_60 rfl ?_
        refine ab_iload_n dX1_cutCount_61 rfl ?_
        refine ab_callV (As := [.int (nI i)]) (rest := [.int (nI i), .int (nI (nxc c j)), .int (nI j), .ref 12]) dX1_cutCount_62 mv_X1_next ml_X1_54 ⟨by decide, by decide, rfl, rfl, rfl⟩ (by decide) rfl rfl (Nat.le_of_ble_eq_true rfl) rfl c_X1_next ?_
        rintro r w' ⟨rfl, rfl⟩
        refine ab_topi (v := (nI (nxc c i))) (cv_next_nI (by omega) (by omega)) ?_
        refine ab_callV (As := [.int (nI j), .int (nI (nxc c j)), .int (nI i), .int (nI (nxc c i))]) (rest := []) dX1_cutCount_65 mv_X1_parts ml_X1_66 ⟨by decide, by decide, rfl, rfl, rfl⟩ (by decide) rfl rfl (Nat.le_of_ble_eq_true rfl) rfl (c_X1_parts (j1 := j) (j2 := (nxc c j)) (j3 := i) (j4 := (nxc c i)) (ix_nI (by omega) (by decide)) (ix_nI (by have := nxc_lt (c := c) (i := j) (by omega); omega) (by decide)) (ix_nI (by omega) (by decide)) (ix_nI (by have := nxc_lt (c := c) (i := i) (by omega); omega) (by decide))) ?_
        rintro r w' (⟨c_6, rfl, rfl⟩ | ⟨c_7, rfl, rfl⟩)
        · refine ab_ifeq 74 dX1_cutCount_68 (by decide) (fun h_8 => absurd h_8 (by decide)) (fun h_8 => ?_)
          refine ab_iinc (v := (s + 1)) (la' := [(1, .int (s + 1)), (3, .int (nI j)), (2, .int (nI i)), (0, .ref 12)]) dX1_cutCount_71 rfl rfl (by decide) rfl ?_
          refine ab_iinc (v := (nI (j + 1))) (la' := [(3, .int (nI (j + 1))), (1, .int (s + 1)), (2, .int (nI i)), (0, .ref 12)]) dX1_cutCount_74 rfl (nI_1 _) (by decide) rfl ?_
          refine ab_goto 16 dX1_cutCount_77 (by decide) ?_
          refine ab_pick [0, 2, 1, 3] rfl ?_
          rw [(itr_s (lp_cutI_st r13 r14 c i) n j s).trans (congrArg (itr (lp_cutI_st r13 r14 c i) n (j + 1)) (show lp_cutI_st r13 r14 c i j s = (s + 1) from by rw [lp_cutI_st, if_neg (show ¬ (nI (nxc c j)) = (nI i) from h_2), if_pos (show (0 < Cv_bend r13 r14 i (nxc c i) j ∧ Cv_bend r13 r14 i (nxc c i) (nxc c j) < 0) ∨ (Cv_bend r13 r14 i (nxc c i) j < 0 ∧ 0 < Cv_bend r13 r14 i (nxc c i) (nxc c j)) from c_3), if_pos (show (0 < Cv_bend r13 r14 j (nxc c j) i ∧ Cv_bend r13 r14 j (nxc c j) (nxc c i) < 0) ∨ (Cv_bend r13 r14 j (nxc c j) i < 0 ∧ 0 < Cv_bend r13 r14 j (nxc c j) (nxc c i)) from c_6)]))] at hx
          exact ih (j + 1) (s + 1)  (by omega) hx
        · refine ab_ifeq 74 dX1_cutCount_68 (by decide) (fun h_9 => ?_) (fun h_9 => absurd (by decide) h_9)
          refine ab_iinc (v := (nI (j + 1))) (la' := [(3, .int (nI (j + 1))), (2, .int (nI i)), (1, .int s), (0, .ref 12)]) dX1_cutCount_74 rfl (nI_1 _) (by decide) rfl ?_
          refine ab_goto 16 dX1_cutCount_77 (by decide) ?_
          refine ab_pick [0, 1, 2, 3] rfl ?_
          rw [(itr_s (lp_cutI_st r13 r14 c i) n j s).trans (congrArg (itr (lp_cutI_st r13 r14 c i) n (j + 1)) (show lp_cutI_st r13 r14 c i j s = s from by rw [lp_cutI_st, if_neg (show ¬ (nI (nxc c j)) = (nI i) from h_2), if_pos (show (0 < Cv_bend r13 r14 i (nxc c i) j ∧ Cv_bend r13 r14 i (nxc c i) (nxc c j) < 0) ∨ (Cv_bend r13 r14 i (nxc c i) j < 0 ∧ 0 < Cv_bend r13 r14 i (nxc c i) (nxc c j)) from c_3), if_neg (show ¬ ((0 < Cv_bend r13 r14 j (nxc c j) i ∧ Cv_bend r13 r14 j (nxc c j) (nxc c i) < 0) ∨ (Cv_bend r13 r14 j (nxc c j) i < 0 ∧ 0 < Cv_bend r13 r14 j (nxc c j) (nxc c i))) from c_7)]))] at hx
          exact ih (j + 1) s  (by omega) hx
      · refine ab_ifeq 74 dX1_cutCount_49 (by decide) (fun h_10 => ?_) (fun h_10 => absurd (by decide) h_10)
        refine ab_iinc (v := (nI (j + 1))) (la' := [(3, .int (nI (j + 1))), (2, .int (nI i)), (1, .int s), (0, .ref 12)]) dX1_cutCount_74 rfl (nI_1 _) (by decide) rfl ?_
        refine ab_goto 16 dX1_cutCount_77 (by decide) ?_
        refine ab_pick [0, 1, 2, 3] rfl ?_
        rw [(itr_s (lp_cutI_st r13 r14 c i) n j s).trans (congrArg (itr (lp_cutI_st r13 r14 c i) n (j + 1)) (show lp_cutI_st r13 r14 c i j s = s from by rw [lp_cutI_st, if_neg (show ¬ (nI (nxc c j)) = (nI i) from h_2), if_neg (show ¬ ((0 < Cv_bend r13 r14 i (nxc c i) j ∧ Cv_bend r13 r14 i (nxc c i) (nxc c j) < 0) ∨ (Cv_bend r13 r14 i (nxc c i) j < 0 ∧ 0 < Cv_bend r13 r14 i (nxc c i) (nxc c j))) from c_4)]))] at hx
        exact ih (j + 1) s  (by omega) hx
/-- the crossings of the edge at i with those from j on: nothing where j is past the end -/
def cutI (r13 r14 : Nat → Int32) (c i : Nat) (s : Int32) : Int32 := itr (lp_cutI_st r13 r14 c i) (c - (i + 2)) (i + 2) s
theorem cut_in {x0 x1 x2 x3 x4 x5 x6 x7 x8 x9 x10 x11 x15 x16 x17 x18 x19 x20 x21 x22 x23 x24 x25 x26 x27 x28 x29 x30 x31 x32 : ax_E} {f12_6 f12_7 f12_8 f12_9 s : Int32} {r13 r14 : Nat → Int32} {wm : List ax_E} {c i : Nat} {Q : Option Value → ax_W → Prop} (hc : c ≤ 40) (hi : i < c) (hx : Ab M_X1_cutCount Q (0, 0) 80 [(2, .int (nI i)), (1, .int (cutI r13 r14 c i s)), (0, .ref 12)] [] ([x0, x1, x2, x3, x4, x5, x6, x7, x8, x9, x10, x11, ob 1 [.ref 13, .ref 14, .ref 15, .ref 16, .ref 17, .int (nI c), .int f12_6, .int f12_7, .int f12_8, .int f12_9], ia 40 r13, ia 40 r14, x15, x16, x17, x18, x19, x20, x21, x22, x23, x24, x25, x26, x27, x28, x29, x30, x31, x32], wm)) : Ab M_X1_cutCount Q (0, 0) 16 [(3, .int (nI (i + 2))), (2, .int (nI i)), (1, .int s), (0, .ref 12)] [] ([x0, x1, x2, x3, x4, x5, x6, x7, x8, x9, x10, x11, ob 1 [.ref 13, .ref 14, .ref 15, .ref 16, .ref 17, .int (nI c), .int f12_6, .int f12_7, .int f12_8, .int f12_9], ia 40 r13, ia 40 r14, x15, x16, x17, x18, x19, x20, x21, x22, x23, x24, x25, x26, x27, x28, x29, x30, x31, x32], wm) := by
  by_cases q : i + 2 ≤ c
  · refine lp_cutI hc hi (c - (i + 2)) (i + 2) s (by omega) ?_
    exact ab_pick [1, 2, 3] rfl hx
  · have e : cutI r13 r14 c i s = s := by
      unfold cutI
      rw [show c - (i + 2) = 0 by omega, itr_0]
    rw [e] at hx
    refine ab_iload_n dX1_cutCount_16 rfl ?_
    refine ab_aload_n dX1_cutCount_17 rfl ?_
    refine ab_getf dX1_cutCount_18 fl_X1_29 rfl rfl ?_
    refine ab_icmpge 80 dX1_cutCount_21 (by decide) (fun h_1 => ?_) (fun h_1 => absurd (nI_le (by omega) (by omega)) h_1)
    refine ab_pick [1, 2, 3] rfl ?_
    exact hx
def lp_cutO_st (r13 : Nat → Int32) (r14 : Nat → Int32) (c : Nat) (i : Nat) (s : Int32) : Int32 := (cutI r13 r14 c i s)
set_option maxHeartbeats 400000 in
theorem lp_cutO {x0 x1 x2 x3 x4 x5 x6 x7 x8 x9 x10 x11 x15 x16 x17 x18 x19 x20 x21 x22 x23 x24 x25 x26 x27 x28 x29 x30 x31 x32 : ax_E} {f12_6 f12_7 f12_8 f12_9 : Int32} {r13 r14 : Nat → Int32} {wm : List ax_E} {c : Nat} {Q : Option Value → ax_W → Prop} (hc : c ≤ 40) : ∀ (n i : Nat) (s : Int32) , i + n = c → Ab M_X1_cutCount Q (0, 0) 86 [(2, .int (nI c)), (1, .int (itr (lp_cutO_st r13 r14 c) n i s)), (0, .ref 12)] [] ([x0, x1, x2, x3, x4, x5, x6, x7, x8, x9, x10, x11, ob 1 [.ref 13, .ref 14, .ref 15, .ref 16, .ref 17, .int (nI c), .int f12_6, .int f12_7, .int f12_8, .int f12_9], ia 40 r13, ia 40 r14, x15, x16, x17, x18, x19, x20, x21, x22, x23, x24, x25, x26, x27, x28, x29, x30, x31, x32], wm) → Ab M_X1_cutCount Q (0, 0) 4 [(2, .int (nI i)), (1, .int s), (0, .ref 12)] [] ([x0, x1, x2, x3, x4, x5, x6, x7, x8, x9, x10, x11, ob 1 [.ref 13, .ref 14, .ref 15, .ref 16, .ref 17, .int (nI c), .int f12_6, .int f12_7, .int f12_8, .int f12_9], ia 40 r13, ia 40 r14, x15, x16, x17, x18, x19, x20, x21, x22, x23, x24, x25, x26, x27, x28, x29, x30, x31, x32], wm) := by
  intro n
  induction n with
  | zero =>
    intro i s  hk hx
    rw [itr_0] at hx
    obtain rfl : i = c := by omega
    refine ab_iload_n dX1_cutCount_4 rfl ?_
    refine ab_aload_n dX1_cutCount_5 rfl ?_
    refine ab_getf dX1_cutCount_6 fl_X1_29 rfl rfl ?_
    refine ab_icmpge 86 dX1_cutCount_9 (by decide) (fun h_1 => ?_) (fun h_1 => absurd (nI_le (Nat.le_refl _) (by omega)) h_1)
    refine ab_pick [0, 1, 2] rfl ?_
    exact hx 
  | succ n ih =>
    intro i s  hk hx
    refine ab_iload_n dX1_cutCount_4 rfl ?_
    refine ab_aload_n dX1_cutCount_5 rfl ?_
    refine ab_getf dX1_cutCount_6 fl_X1_29 rfl rfl ?_
    refine ab_icmpge 86 dX1_cutCount_9 (by decide) (fun h_1 => absurd h_1 (nI_ge (a := i) (b := c) (by omega) (by omega))) (fun h_1 => ?_)
    refine ab_iload_n dX1_cutCount_12 rfl ?_
    refine ab_iconst (v := 2) dX1_cutCount_13 (by decide) ?_
    refine ab_iadd dX1_cutCount_14 ?_
    refine ab_topi (v := (nI (i + 2))) (nI_add _ 2) ?_
    refine ab_istore_n (la' := [(3, .int (nI (i + 2))), (2, .int (nI i)), (1, .int s), (0, .ref 12)]) dX1_cutCount_15 (by decide) rfl ?_
    refine ab_pick [0, 1, 2, 3] rfl ?_
    refine cut_in (by omega) (by omega) ?_
    refine ab_iinc (v := (nI (i + 1))) (la' := [(2, .int (nI (i + 1))), (1, .int (cutI r13 r14 c i s)), (0, .ref 12)]) dX1_cutCount_80 rfl (nI_1 _) (by decide) rfl ?_
    refine ab_goto 4 dX1_cutCount_83 (by decide) ?_
    refine ab_pick [0, 1, 2] rfl ?_
    rw [(itr_s (lp_cutO_st r13 r14 c) n i s).trans (congrArg (itr (lp_cutO_st r13 r14 c) n (i + 1)) (show lp_cutO_st r13 r14 c i s = (cutI r13 r14 c i s) from rfl))] at hx
    exact ih (i + 1) (cutI r13 r14 c i s)  (by omega) hx
theorem c_X1_cutCount {x0 x1 x2 x3 x4 x5 x6 x7 x8 x9 x10 x11 x15 x16 x17 x18 x19 x20 x21 x22 x23 x24 x25 x26 x27 x28 x29 x30 x31 x32 : ax_E} {f12_6 f12_7 f12_8 f12_9 : Int32} {r13 r14 : Nat → Int32} {wm : List ax_E} {c : Nat} (hc : c ≤ 40) : Ct M_X1_cutCount [.ref 12] ([x0, x1, x2, x3, x4, x5, x6, x7, x8, x9, x10, x11, ob 1 [.ref 13, .ref 14, .ref 15, .ref 16, .ref 17, .int (nI c), .int f12_6, .int f12_7, .int f12_8, .int f12_9], ia 40 r13, ia 40 r14, x15, x16, x17, x18, x19, x20, x21, x22, x23, x24, x25, x26, x27, x28, x29, x30, x31, x32], wm) (fun r w' => r = some (.int (itr (lp_cutO_st r13 r14 c) c 0 0)) ∧ w' = ([x0, x1, x2, x3, x4, x5, x6, x7, x8, x9, x10, x11, ob 1 [.ref 13, .ref 14, .ref 15, .ref 16, .ref 17, .int (nI c), .int f12_6, .int f12_7, .int f12_8, .int f12_9], ia 40 r13, ia 40 r14, x15, x16, x17, x18, x19, x20, x21, x22, x23, x24, x25, x26, x27, x28, x29, x30, x31, x32], wm)) := by
  refine ct_of ⟨by decide, rfl⟩ (Nat.le_of_ble_eq_true rfl) ?_
  refine ab_iconst (v := 0) dX1_cutCount_0 (by decide) ?_
  refine ab_istore_n (la' := [(1, .int 0), (0, .ref 12)]) dX1_cutCount_1 (by decide) rfl ?_
  refine ab_iconst (v := 0) dX1_cutCount_2 (by decide) ?_
  refine ab_istore_n (la' := [(2, .int 0), (1, .int 0), (0, .ref 12)]) dX1_cutCount_3 (by decide) rfl ?_
  refine ab_pick [0, 1, 2] rfl ?_
  refine lp_cutO hc c 0 0 (by omega) ?_
  refine ab_iload_n dX1_cutCount_86 rfl ?_
  exact ab_iret dX1_cutCount_87 rfl (by decide) (⟨rfl, rfl⟩)
/-- a point too far from the line -/
abbrev farC (x y : Nat → Int32) (h : Int32) (f t i : Nat) : Prop := if Int32.toInt64 (Cv_sq x y (x t) (y t) f) = 0 then Int32.toInt64 h * Int32.toInt64 h < Int32.toInt64 (Cv_sq x y (x f) (y f) i) else Int32.toInt64 h * Int32.toInt64 h * Int32.toInt64 (Cv_sq x y (x t) (y t) f) < Cv_bend x y f t i * Cv_bend x y f t i
abbrev isRn (x y : Nat → Int32) (h : Int32) (f t : Nat) : Prop := ∀ i, f < i → i < t → ¬ farC x y h f t i
theorem lp_isRun {x0 x1 x2 x3 x4 x5 x6 x7 x8 x9 x10 x11 x15 x16 x17 x18 x19 x20 x21 x22 x23 x24 x25 x26 x27 x28 x29 x30 x31 x32 : ax_E} {f12_6 f12_7 f12_8 f12_9 a3 : Int32} {r13 r14 : Nat → Int32} {wm : List ax_E} {c f t : Nat} (hc : c ≤ 40) (hf : f < c) (ht : t < c) : ∀ (n k : Nat), k + n = max t (f + 1) → f < k → (∀ i, f < i → i < k → ¬ farC r13 r14 a3 f t i) → Ab M_X1_isRun (fun r w' => (isRn r13 r14 a3 f t ∧ r = some (.int 1) ∧ w' = ([x0, x1, x2, x3, x4, x5, x6, x7, x8, x9, x10, x11, ob 1 [.ref 13, .ref 14, .ref 15, .ref 16, .ref 17, .int (nI c), .int f12_6, .int f12_7, .int f12_8, .int f12_9], ia 40 r13, ia 40 r14, x15, x16, x17, x18, x19, x20, x21, x22, x23, x24, x25, x26, x27, x28, x29, x30, x31, x32], wm)) ∨ (¬ isRn r13 r14 a3 f t ∧ r = some (.int 0) ∧ w' = ([x0, x1, x2, x3, x4, x5, x6, x7, x8, x9, x10, x11, ob 1 [.ref 13, .ref 14, .ref 15, .ref 16, .ref 17, .int (nI c), .int f12_6, .int f12_7, .int f12_8, .int f12_9], ia 40 r13, ia 40 r14, x15, x16, x17, x18, x19, x20, x21, x22, x23, x24, x25, x26, x27, x28, x29, x30, x31, x32], wm))) (0, 0) 32 [(8, .int (nI k)), (6, .long (Int32.toInt64 (Cv_sq r13 r14 (r13 t) (r14 t) f))), (4, .long ((Int32.toInt64 a3) * (Int32.toInt64 a3))), (3, .int a3), (2, .int (nI t)), (1, .int (nI f)), (0, .ref 12)] [] ([x0, x1, x2, x3, x4, x5, x6, x7, x8, x9, x10, x11, ob 1 [.ref 13, .ref 14, .ref 15, .ref 16, .ref 17, .int (nI c), .int f12_6, .int f12_7, .int f12_8, .int f12_9], ia 40 r13, ia 40 r14, x15, x16, x17, x18, x19, x20, x21, x22, x23, x24, x25, x26, x27, x28, x29, x30, x31, x32], wm) := by
  intro n
  induction n with
  | zero =>
    intro k hk hfk hp
    refine ab_iload dX1_isRun_32 rfl ?_
    refine ab_iload_n dX1_isRun_34 rfl ?_
    refine ab_icmpge 122 dX1_isRun_35 (by decide) (fun h_1 => ?_) (fun h_1 => absurd (nI_le (by omega) (by omega)) h_1)
    refine ab_iconst (v := 1) dX1_isRun_122 (by decide) ?_
    exact ab_zret dX1_isRun_123 rfl rfl (by decide) (Or.inl ⟨fun i h1 h2 => hp i h1 (by omega), rfl, rfl⟩)
  | succ n ih =>
    intro k hk hfk hp
    refine ab_iload dX1_isRun_32 rfl ?_
    refine ab_iload_n dX1_isRun_34 rfl ?_
    refine ab_icmpge 122 dX1_isRun_35 (by decide) (fun h_1 => absurd h_1 (nI_ge (by omega) (by omega))) (fun h_1 => ?_)
    refine ab_aload_n dX1_isRun_38 rfl ?_
    refine ab_iload_n dX1_isRun_39 rfl ?_
    refine ab_iload_n dX1_isRun_40 rfl ?_
    refine ab_iload dX1_isRun_41 rfl ?_
    refine ab_callV (As := [.int (nI f), .int (nI t), .int (nI k)]) (rest := []) dX1_isRun_43 mv_X1_bend ml_X1_62 ⟨by decide, by decide, rfl, rfl, rfl⟩ (by decide) rfl rfl (Nat.le_of_ble_eq_true rfl) rfl (c_X1_bend (j1 := f) (j2 := t) (j3 := k) (ix_nI (by omega) (by decide)) (ix_nI (by omega) (by decide)) (ix_nI (by omega) (by decide))) ?_
    rintro r w' ⟨rfl, rfl⟩
    refine ab_lstore (la' := [(9, .long (Cv_bend r13 r14 f t k)), (8, .int (nI k)), (6, .long (Int32.toInt64 (Cv_sq r13 r14 (r13 t) (r14 t) f))), (4, .long ((Int32.toInt64 a3) * (Int32.toInt64 a3))), (3, .int a3), (2, .int (nI t)), (1, .int (nI f)), (0, .ref 12)]) dX1_isRun_46 (by decide) rfl ?_
    refine ab_lload dX1_isRun_48 rfl ?_
    refine ab_lconst (v := 0) dX1_isRun_50 (by decide) ?_
    refine ab_lcmpne 88 dX1_isRun_51 dX1_isRun_52 (by decide) (fun h_2 => ?_) (fun h_2 => ?_)
    · refine ab_lload dX1_isRun_88 rfl ?_
      refine ab_lload dX1_isRun_90 rfl ?_
      refine ab_lmul dX1_isRun_92 ?_
      refine ab_lload dX1_isRun_93 rfl ?_
      refine ab_lload dX1_isRun_95 rfl ?_
      refine ab_lmul dX1_isRun_97 ?_
      refine ab_lcmple 106 dX1_isRun_98 dX1_isRun_99 (by decide) (fun h_3 => ?_) (fun h_3 => ?_)
      · refine ab_iconst (v := 0) dX1_isRun_106 (by decide) ?_
        refine ab_istore (la' := [(11, .int 0), (9, .long (Cv_bend r13 r14 f t k)), (8, .int (nI k)), (6, .long (Int32.toInt64 (Cv_sq r13 r14 (r13 t) (r14 t) f))), (4, .long ((Int32.toInt64 a3) * (Int32.toInt64 a3))), (3, .int a3), (2, .int (nI t)), (1, .int (nI f)), (0, .ref 12)]) dX1_isRun_107 (by decide) rfl ?_
        refine ab_iload dX1_isRun_109 rfl ?_
        refine ab_ifeq 116 dX1_isRun_111 (by decide) (fun h_4 => ?_) (fun h_4 => absurd (by decide) h_4)
        refine ab_iinc (v := (nI (k + 1))) (la' := [(8, .int (nI (k + 1))), (11, .int 0), (9, .long (Cv_bend r13 r14 f t k)), (6, .long (Int32.toInt64 (Cv_sq r13 r14 (r13 t) (r14 t) f))), (4, .long ((Int32.toInt64 a3) * (Int32.toInt64 a3))), (3, .int a3), (2, .int (nI t)), (1, .int (nI f)), (0, .ref 12)]) dX1_isRun_116 rfl (nI_1 _) (by decide) rfl ?_
        refine ab_goto 32 dX1_isRun_119 (by decide) ?_
        refine ab_pick [0, 3, 4, 5, 6, 7, 8] rfl ?_
        refine ih (k + 1) (by omega) (by omega) (fun i h1 h2 => ?_)
        rcases Nat.lt_or_ge i k with q | q
        · exact hp i h1 q
        · obtain rfl : i = k := by omega
          unfold farC; rw [if_neg h_2]; exact Int64.not_lt.mpr h_3
      · refine ab_iconst (v := 1) dX1_isRun_102 (by decide) ?_
        refine ab_goto 107 dX1_isRun_103 (by decide) ?_
        refine ab_istore (la' := [(11, .int 1), (9, .long (Cv_bend r13 r14 f t k)), (8, .int (nI k)), (6, .long (Int32.toInt64 (Cv_sq r13 r14 (r13 t) (r14 t) f))), (4, .long ((Int32.toInt64 a3) * (Int32.toInt64 a3))), (3, .int a3), (2, .int (nI t)), (1, .int (nI f)), (0, .ref 12)]) dX1_isRun_107 (by decide) rfl ?_
        refine ab_iload dX1_isRun_109 rfl ?_
        refine ab_ifeq 116 dX1_isRun_111 (by decide) (fun h_5 => absurd h_5 (by decide)) (fun h_5 => ?_)
        refine ab_iconst (v := 0) dX1_isRun_114 (by decide) ?_
        exact ab_zret dX1_isRun_115 rfl rfl (by decide) (Or.inr ⟨fun z => z k (by omega) (by omega) (by unfold farC; rw [if_neg h_2]; exact Int64.not_le.mp h_3), rfl, rfl⟩)
    · refine ab_aload_n dX1_isRun_55 rfl ?_
      refine ab_iload dX1_isRun_56 rfl ?_
      refine ab_aload_n dX1_isRun_58 rfl ?_
      refine ab_getf dX1_isRun_59 fl_X1_11 rfl rfl ?_
      refine ab_iload_n dX1_isRun_62 rfl ?_
      refine ab_iald (j := f) dX1_isRun_63 rfl (ix_nI (by omega) (by decide)) ?_
      refine ab_aload_n dX1_isRun_64 rfl ?_
      refine ab_getf dX1_isRun_65 fl_X1_17 rfl rfl ?_
      refine ab_iload_n dX1_isRun_68 rfl ?_
      refine ab_iald (j := f) dX1_isRun_69 rfl (ix_nI (by omega) (by decide)) ?_
      refine ab_callV (As := [.int (nI k), .int (r13 f), .int (r14 f)]) (rest := []) dX1_isRun_70 mv_X1_squareFrom ml_X1_91 ⟨by decide, by decide, rfl, rfl, rfl⟩ (by decide) rfl rfl (Nat.le_of_ble_eq_true rfl) rfl (c_X1_squareFrom (j1 := k) (ix_nI (by omega) (by decide))) ?_
      rintro r w' ⟨rfl, rfl⟩
      refine ab_i2l dX1_isRun_73 ?_
      refine ab_lload dX1_isRun_74 rfl ?_
      refine ab_lcmple 84 dX1_isRun_76 dX1_isRun_77 (by decide) (fun h_6 => ?_) (fun h_6 => ?_)
      · refine ab_iconst (v := 0) dX1_isRun_84 (by decide) ?_
        refine ab_goto 107 dX1_isRun_85 (by decide) ?_
        refine ab_istore (la' := [(11, .int 0), (9, .long (Cv_bend r13 r14 f t k)), (8, .int (nI k)), (6, .long (Int32.toInt64 (Cv_sq r13 r14 (r13 t) (r14 t) f))), (4, .long ((Int32.toInt64 a3) * (Int32.toInt64 a3))), (3, .int a3), (2, .int (nI t)), (1, .int (nI f)), (0, .ref 12)]) dX1_isRun_107 (by decide) rfl ?_
        refine ab_iload dX1_isRun_109 rfl ?_
        refine ab_ifeq 116 dX1_isRun_111 (by decide) (fun h_7 => ?_) (fun h_7 => absurd (by decide) h_7)
        refine ab_iinc (v := (nI (k + 1))) (la' := [(8, .int (nI (k + 1))), (11, .int 0), (9, .long (Cv_bend r13 r14 f t k)), (6, .long (Int32.toInt64 (Cv_sq r13 r14 (r13 t) (r14 t) f))), (4, .long ((Int32.toInt64 a3) * (Int32.toInt64 a3))), (3, .int a3), (2, .int (nI t)), (1, .int (nI f)), (0, .ref 12)]) dX1_isRun_116 rfl (nI_1 _) (by decide) rfl ?_
        refine ab_goto 32 dX1_isRun_119 (by decide) ?_
        refine ab_pick [0, 3, 4, 5, 6, 7, 8] rfl ?_
        refine ih (k + 1) (by omega) (by omega) (fun i h1 h2 => ?_)
        rcases Nat.lt_or_ge i k with q | q
        · exact hp i h1 q
        · obtain rfl : i = k := by omega
          unfold farC; rw [if_pos h_2]; exact Int64.not_lt.mpr h_6
      · refine ab_iconst (v := 1) dX1_isRun_80 (by decide) ?_
        refine ab_goto 107 dX1_isRun_81 (by decide) ?_
        refine ab_istore (la' := [(11, .int 1), (9, .long (Cv_bend r13 r14 f t k)), (8, .int (nI k)), (6, .long (Int32.toInt64 (Cv_sq r13 r14 (r13 t) (r14 t) f))), (4, .long ((Int32.toInt64 a3) * (Int32.toInt64 a3))), (3, .int a3), (2, .int (nI t)), (1, .int (nI f)), (0, .ref 12)]) dX1_isRun_107 (by decide) rfl ?_
        refine ab_iload dX1_isRun_109 rfl ?_
        refine ab_ifeq 116 dX1_isRun_111 (by decide) (fun h_8 => absurd h_8 (by decide)) (fun h_8 => ?_)
        refine ab_iconst (v := 0) dX1_isRun_114 (by decide) ?_
        exact ab_zret dX1_isRun_115 rfl rfl (by decide) (Or.inr ⟨fun z => z k (by omega) (by omega) (by unfold farC; rw [if_pos h_2]; exact Int64.not_le.mp h_6), rfl, rfl⟩)
theorem c_X1_isRun {x0 x1 x2 x3 x4 x5 x6 x7 x8 x9 x10 x11 x15 x16 x17 x18 x19 x20 x21 x22 x23 x24 x25 x26 x27 x28 x29 x30 x31 x32 : ax_E} {f12_6 f12_7 f12_8 f12_9 a3 : Int32} {r13 r14 : Nat → Int32} {wm : List ax_E} {c f t : Nat} (hc : c ≤ 40) (hf : f < c) (ht : t < c) : Ct M_X1_isRun [.ref 12, .int (nI f), .int (nI t), .int a3] ([x0, x1, x2, x3, x4, x5, x6, x7, x8, x9, x10, x11, ob 1 [.ref 13, .ref 14, .ref 15, .ref 16, .ref 17, .int (nI c), .int f12_6, .int f12_7, .int f12_8, .int f12_9], ia 40 r13, ia 40 r14, x15, x16, x17, x18, x19, x20, x21, x22, x23, x24, x25, x26, x27, x28, x29, x30, x31, x32], wm) (fun r w' => ((isRn r13 r14 a3 f t) ∧ r = some (.int 1) ∧ w' = ([x0, x1, x2, x3, x4, x5, x6, x7, x8, x9, x10, x11, ob 1 [.ref 13, .ref 14, .ref 15, .ref 16, .ref 17, .int (nI c), .int f12_6, .int f12_7, .int f12_8, .int f12_9], ia 40 r13, ia 40 r14, x15, x16, x17, x18, x19, x20, x21, x22, x23, x24, x25, x26, x27, x28, x29, x30, x31, x32], wm)) ∨ ((¬ (isRn r13 r14 a3 f t)) ∧ r = some (.int 0) ∧ w' = ([x0, x1, x2, x3, x4, x5, x6, x7, x8, x9, x10, x11, ob 1 [.ref 13, .ref 14, .ref 15, .ref 16, .ref 17, .int (nI c), .int f12_6, .int f12_7, .int f12_8, .int f12_9], ia 40 r13, ia 40 r14, x15, x16, x17, x18, x19, x20, x21, x22, x23, x24, x25, x26, x27, x28, x29, x30, x31, x32], wm))) := by
  refine ct_of ⟨by decide, rfl⟩ (Nat.le_of_ble_eq_true rfl) ?_
  refine ab_iload_n dX1_isRun_0 rfl ?_
  refine ab_i2l dX1_isRun_1 ?_
  refine ab_iload_n dX1_isRun_2 rfl ?_
  refine ab_i2l dX1_isRun_3 ?_
  refine ab_lmul dX1_isRun_4 ?_
  refine ab_lstore (la' := [(4, .long ((Int32.toInt64 a3) * (Int32.toInt64 a3))), (0, .ref 12), (1, .int (nI f)), (2, .int (nI t)), (3, .int a3)]) dX1_isRun_5 (by decide) rfl ?_
  refine ab_aload_n dX1_isRun_7 rfl ?_
  refine ab_iload_n dX1_isRun_8 rfl ?_
  refine ab_aload_n dX1_isRun_9 rfl ?_
  refine ab_getf dX1_isRun_10 fl_X1_11 rfl rfl ?_
  refine ab_iload_n dX1_isRun_13 rfl ?_
  refine ab_iald (j := t) dX1_isRun_14 rfl (ix_nI (by omega) (by decide)) ?_
  refine ab_aload_n dX1_isRun_15 rfl ?_
  refine ab_getf dX1_isRun_16 fl_X1_17 rfl rfl ?_
  refine ab_iload_n dX1_isRun_19 rfl ?_
  refine ab_iald (j := t) dX1_isRun_20 rfl (ix_nI (by omega) (by decide)) ?_
  refine ab_callV (As := [.int (nI f), .int (r13 t), .int (r14 t)]) (rest := []) dX1_isRun_21 mv_X1_squareFrom ml_X1_91 ⟨by decide, by decide, rfl, rfl, rfl⟩ (by decide) rfl rfl (Nat.le_of_ble_eq_true rfl) rfl (c_X1_squareFrom (j1 := f) (ix_nI (by omega) (by decide))) ?_
  rintro r w' ⟨rfl, rfl⟩
  refine ab_i2l dX1_isRun_24 ?_
  refine ab_lstore (la' := [(6, .long (Int32.toInt64 (Cv_sq r13 r14 (r13 t) (r14 t) f))), (4, .long ((Int32.toInt64 a3) * (Int32.toInt64 a3))), (0, .ref 12), (1, .int (nI f)), (2, .int (nI t)), (3, .int a3)]) dX1_isRun_25 (by decide) rfl ?_
  refine ab_iload_n dX1_isRun_27 rfl ?_
  refine ab_iconst (v := 1) dX1_isRun_28 (by decide) ?_
  refine ab_iadd dX1_isRun_29 ?_
  refine ab_topi (v := (nI (f + 1))) (nI_1 _) ?_
  refine ab_istore (la' := [(8, .int (nI (f + 1))), (6, .long (Int32.toInt64 (Cv_sq r13 r14 (r13 t) (r14 t) f))), (4, .long ((Int32.toInt64 a3) * (Int32.toInt64 a3))), (0, .ref 12), (1, .int (nI f)), (2, .int (nI t)), (3, .int a3)]) dX1_isRun_30 (by decide) rfl ?_
  refine ab_pick [0, 1, 2, 6, 5, 4, 3] rfl ?_
  exact lp_isRun hc hf ht (max t (f + 1) - (f + 1)) (f + 1) (by omega) (by omega) (fun i h1 h2 => absurd h2 (by omega))
/-- the longest run's place and length -/
abbrev RunOf (R : Nat → Nat → Prop) (c F L : Nat) : Prop := 0 < L ∧ F + L ≤ c ∧ R F L ∧ (∀ L' F', L < L' → F' + L' ≤ c → ¬ R F' L') ∧ (∀ F', F' < F → ¬ R F' L)
theorem lp_fr {x0 x1 x2 x3 x4 x5 x6 x7 x8 x9 x10 x11 x15 x16 x17 x18 x19 x20 x21 x22 x23 x24 x25 x26 x27 x28 x29 x30 x31 x32 : ax_E} {f12_6 f12_7 f12_8 f12_9 a1 : Int32} {r13 r14 : Nat → Int32} {wm : List ax_E} {c : Nat} (hc : c ≤ 40) {l : Nat} (hl0 : 0 < l) (hl : l ≤ c) (hL : ∀ L' F', l < L' → F' + L' ≤ c → ¬ (fun F L => isRn r13 r14 a1 F (F + L - 1)) F' L') : ∀ (n k : Nat), k + n = c - l + 1 → (∀ F', F' < k → ¬ (fun F L => isRn r13 r14 a1 F (F + L - 1)) F' l) → ((∀ F', F' + l ≤ c → ¬ (fun F L => isRn r13 r14 a1 F (F + L - 1)) F' l) → Ab M_X1_findRun (fun r w' => (∃ F : Nat, ∃ L : Nat, RunOf (fun F L => isRn r13 r14 a1 F (F + L - 1)) c F L ∧ r = none ∧ w' = ([x0, x1, x2, x3, x4, x5, x6, x7, x8, x9, x10, x11, ob 1 [.ref 13, .ref 14, .ref 15, .ref 16, .ref 17, .int (nI c), .int f12_6, .int f12_7, .int (nI F), .int (nI L)], ia 40 r13, ia 40 r14, x15, x16, x17, x18, x19, x20, x21, x22, x23, x24, x25, x26, x27, x28, x29, x30, x31, x32], wm)) ∨ (c = 0 ∧ r = none ∧ w' = ([x0, x1, x2, x3, x4, x5, x6, x7, x8, x9, x10, x11, ob 1 [.ref 13, .ref 14, .ref 15, .ref 16, .ref 17, .int (nI c), .int f12_6, .int f12_7, .int f12_8, .int 0], ia 40 r13, ia 40 r14, x15, x16, x17, x18, x19, x20, x21, x22, x23, x24, x25, x26, x27, x28, x29, x30, x31, x32], wm))) (0, 0) 52 [(2, .int (nI l)), (1, .int a1), (0, .ref 12)] [] ([x0, x1, x2, x3, x4, x5, x6, x7, x8, x9, x10, x11, ob 1 [.ref 13, .ref 14, .ref 15, .ref 16, .ref 17, .int (nI c), .int f12_6, .int f12_7, .int f12_8, .int f12_9], ia 40 r13, ia 40 r14, x15, x16, x17, x18, x19, x20, x21, x22, x23, x24, x25, x26, x27, x28, x29, x30, x31, x32], wm)) → Ab M_X1_findRun (fun r w' => (∃ F : Nat, ∃ L : Nat, RunOf (fun F L => isRn r13 r14 a1 F (F + L - 1)) c F L ∧ r = none ∧ w' = ([x0, x1, x2, x3, x4, x5, x6, x7, x8, x9, x10, x11, ob 1 [.ref 13, .ref 14, .ref 15, .ref 16, .ref 17, .int (nI c), .int f12_6, .int f12_7, .int (nI F), .int (nI L)], ia 40 r13, ia 40 r14, x15, x16, x17, x18, x19, x20, x21, x22, x23, x24, x25, x26, x27, x28, x29, x30, x31, x32], wm)) ∨ (c = 0 ∧ r = none ∧ w' = ([x0, x1, x2, x3, x4, x5, x6, x7, x8, x9, x10, x11, ob 1 [.ref 13, .ref 14, .ref 15, .ref 16, .ref 17, .int (nI c), .int f12_6, .int f12_7, .int f12_8, .int 0], ia 40 r13, ia 40 r14, x15, x16, x17, x18, x19, x20, x21, x22, x23, x24, x25, x26, x27, x28, x29, x30, x31, x32], wm))) (0, 0) 11 [(3, .int (nI k)), (2, .int (nI l)), (1, .int a1), (0, .ref 12)] [] ([x0, x1, x2, x3, x4, x5, x6, x7, x8, x9, x10, x11, ob 1 [.ref 13, .ref 14, .ref 15, .ref 16, .ref 17, .int (nI c), .int f12_6, .int f12_7, .int f12_8, .int f12_9], ia 40 r13, ia 40 r14, x15, x16, x17, x18, x19, x20, x21, x22, x23, x24, x25, x26, x27, x28, x29, x30, x31, x32], wm) := by
  intro n
  induction n with
  | zero =>
    intro k hk hF hx
    refine ab_iload_n dX1_findRun_11 rfl ?_
    refine ab_iload_n dX1_findRun_12 rfl ?_
    refine ab_iadd dX1_findRun_13 ?_
    refine ab_topi (v := (nI (k + l))) (nI_add _ _) ?_
    refine ab_aload_n dX1_findRun_14 rfl ?_
    refine ab_getf dX1_findRun_15 fl_X1_29 rfl rfl ?_
    refine ab_icmpgt 52 dX1_findRun_18 (by decide) (fun h_1 => ?_) (fun h_1 => absurd (nI_lt (by omega) (by omega)) h_1)
    refine ab_pick [1, 2, 3] rfl ?_
    exact hx (fun F' h1 => hF F' (by omega))
  | succ n ih =>
    intro k hk hF hx
    refine ab_iload_n dX1_findRun_11 rfl ?_
    refine ab_iload_n dX1_findRun_12 rfl ?_
    refine ab_iadd dX1_findRun_13 ?_
    refine ab_topi (v := (nI (k + l))) (nI_add _ _) ?_
    refine ab_aload_n dX1_findRun_14 rfl ?_
    refine ab_getf dX1_findRun_15 fl_X1_29 rfl rfl ?_
    refine ab_icmpgt 52 dX1_findRun_18 (by decide) (fun h_1 => absurd h_1 (nI_nlt (by omega) (by omega))) (fun h_1 => ?_)
    refine ab_aload_n dX1_findRun_21 rfl ?_
    refine ab_iload_n dX1_findRun_22 rfl ?_
    refine ab_iload_n dX1_findRun_23 rfl ?_
    refine ab_iload_n dX1_findRun_24 rfl ?_
    refine ab_iadd dX1_findRun_25 ?_
    refine ab_topi (v := (nI (k + l))) (nI_add _ _) ?_
    refine ab_iconst (v := 1) dX1_findRun_26 (by decide) ?_
    refine ab_isub dX1_findRun_27 ?_
    refine ab_topi (v := (nI ((k + l) - 1))) (pk_sub (b := 1) (by omega)) ?_
    refine ab_iload_n dX1_findRun_28 rfl ?_
    refine ab_callV (As := [.int (nI k), .int (nI ((k + l) - 1)), .int a1]) (rest := []) dX1_findRun_29 mv_X1_isRun ml_X1_87 ⟨by decide, by decide, rfl, rfl, rfl⟩ (by decide) rfl rfl (Nat.le_of_ble_eq_true rfl) rfl (c_X1_isRun (c := c) (f := k) (t := ((k + l) - 1)) hc (by omega) (by omega)) ?_
    rintro r w' (⟨c_2, rfl, rfl⟩ | ⟨c_3, rfl, rfl⟩)
    · refine ab_ifeq 46 dX1_findRun_32 (by decide) (fun h_4 => absurd h_4 (by decide)) (fun h_4 => ?_)
      refine ab_aload_n dX1_findRun_35 rfl ?_
      refine ab_iload_n dX1_findRun_36 rfl ?_
      refine ab_putf (w1 := ([x0, x1, x2, x3, x4, x5, x6, x7, x8, x9, x10, x11, ob 1 [.ref 13, .ref 14, .ref 15, .ref 16, .ref 17, .int (nI c), .int f12_6, .int f12_7, .int (nI k), .int f12_9], ia 40 r13, ia 40 r14, x15, x16, x17, x18, x19, x20, x21, x22, x23, x24, x25, x26, x27, x28, x29, x30, x31, x32], wm)) dX1_findRun_37 fl_X1_39 rfl (Nat.le_of_ble_eq_true rfl) (fun _ => ⟨rfl, rfl⟩) rfl ?_
      refine ab_aload_n dX1_findRun_40 rfl ?_
      refine ab_iload_n dX1_findRun_41 rfl ?_
      refine ab_putf (w1 := ([x0, x1, x2, x3, x4, x5, x6, x7, x8, x9, x10, x11, ob 1 [.ref 13, .ref 14, .ref 15, .ref 16, .ref 17, .int (nI c), .int f12_6, .int f12_7, .int (nI k), .int (nI l)], ia 40 r13, ia 40 r14, x15, x16, x17, x18, x19, x20, x21, x22, x23, x24, x25, x26, x27, x28, x29, x30, x31, x32], wm)) dX1_findRun_42 fl_X1_42 rfl (Nat.le_of_ble_eq_true rfl) (fun _ => ⟨rfl, rfl⟩) rfl ?_
      exact ab_vret dX1_findRun_45 rfl (by decide) (Or.inl ⟨k, l, ⟨by omega, by omega, c_2, hL, hF⟩, rfl, rfl⟩)
    · refine ab_ifeq 46 dX1_findRun_32 (by decide) (fun h_5 => ?_) (fun h_5 => absurd (by decide) h_5)
      refine ab_iinc (v := (nI (k + 1))) (la' := [(3, .int (nI (k + 1))), (2, .int (nI l)), (1, .int a1), (0, .ref 12)]) dX1_findRun_46 rfl (nI_1 _) (by decide) rfl ?_
      refine ab_goto 11 dX1_findRun_49 (by decide) ?_
      refine ab_pick [0, 1, 2, 3] rfl ?_
      refine ih (k + 1) (by omega) (fun F' h1 => ?_) hx
      rcases Nat.lt_or_ge F' k with q | q
      · exact hF F' q
      · obtain rfl : F' = k := by omega
        exact c_3
theorem lp_fo {x0 x1 x2 x3 x4 x5 x6 x7 x8 x9 x10 x11 x15 x16 x17 x18 x19 x20 x21 x22 x23 x24 x25 x26 x27 x28 x29 x30 x31 x32 : ax_E} {f12_6 f12_7 f12_8 f12_9 a1 : Int32} {r13 r14 : Nat → Int32} {wm : List ax_E} {c : Nat} (hc : c ≤ 40) : ∀ (l : Nat), l ≤ c → (∀ L' F', l < L' → F' + L' ≤ c → ¬ (fun F L => isRn r13 r14 a1 F (F + L - 1)) F' L') → (l = 0 → c = 0) → Ab M_X1_findRun (fun r w' => (∃ F : Nat, ∃ L : Nat, RunOf (fun F L => isRn r13 r14 a1 F (F + L - 1)) c F L ∧ r = none ∧ w' = ([x0, x1, x2, x3, x4, x5, x6, x7, x8, x9, x10, x11, ob 1 [.ref 13, .ref 14, .ref 15, .ref 16, .ref 17, .int (nI c), .int f12_6, .int f12_7, .int (nI F), .int (nI L)], ia 40 r13, ia 40 r14, x15, x16, x17, x18, x19, x20, x21, x22, x23, x24, x25, x26, x27, x28, x29, x30, x31, x32], wm)) ∨ (c = 0 ∧ r = none ∧ w' = ([x0, x1, x2, x3, x4, x5, x6, x7, x8, x9, x10, x11, ob 1 [.ref 13, .ref 14, .ref 15, .ref 16, .ref 17, .int (nI c), .int f12_6, .int f12_7, .int f12_8, .int 0], ia 40 r13, ia 40 r14, x15, x16, x17, x18, x19, x20, x21, x22, x23, x24, x25, x26, x27, x28, x29, x30, x31, x32], wm))) (0, 0) 5 [(2, .int (nI l)), (1, .int a1), (0, .ref 12)] [] ([x0, x1, x2, x3, x4, x5, x6, x7, x8, x9, x10, x11, ob 1 [.ref 13, .ref 14, .ref 15, .ref 16, .ref 17, .int (nI c), .int f12_6, .int f12_7, .int f12_8, .int f12_9], ia 40 r13, ia 40 r14, x15, x16, x17, x18, x19, x20, x21, x22, x23, x24, x25, x26, x27, x28, x29, x30, x31, x32], wm) := by
  intro l
  induction l with
  | zero =>
    intro hl hL h0
    have hz := h0 rfl
    refine ab_iload_n dX1_findRun_5 rfl ?_
    refine ab_ifle 58 dX1_findRun_6 (by decide) (fun h_1 => ?_) (fun h_1 => absurd (by decide) h_1)
    refine ab_aload_n dX1_findRun_58 rfl ?_
    refine ab_iconst (v := 0) dX1_findRun_59 (by decide) ?_
    refine ab_putf (w1 := ([x0, x1, x2, x3, x4, x5, x6, x7, x8, x9, x10, x11, ob 1 [.ref 13, .ref 14, .ref 15, .ref 16, .ref 17, .int (nI c), .int f12_6, .int f12_7, .int f12_8, .int 0], ia 40 r13, ia 40 r14, x15, x16, x17, x18, x19, x20, x21, x22, x23, x24, x25, x26, x27, x28, x29, x30, x31, x32], wm)) dX1_findRun_60 fl_X1_42 rfl (Nat.le_of_ble_eq_true rfl) (fun _ => ⟨rfl, rfl⟩) rfl ?_
    exact ab_vret dX1_findRun_63 rfl (by decide) (Or.inr ⟨hz, rfl, rfl⟩)
  | succ l ih =>
    intro hl hL h0
    refine ab_iload_n dX1_findRun_5 rfl ?_
    refine ab_ifle 58 dX1_findRun_6 (by decide) (fun h_1 => absurd h_1 (nI_nle (by omega) (by omega))) (fun h_1 => ?_)
    refine ab_iconst (v := 0) dX1_findRun_9 (by decide) ?_
    refine ab_istore_n (la' := [(3, .int 0), (2, .int (nI (l + 1))), (1, .int a1), (0, .ref 12)]) dX1_findRun_10 (by decide) rfl ?_
    refine ab_pick [0, 1, 2, 3] rfl ?_
    refine lp_fr hc (by omega) hl hL (c - (l + 1) + 1) 0 (by omega) (fun F' h => absurd h (by omega)) (fun hn => ?_)
    skip
    refine ab_iinc (v := ((nI (l + 1)) + (-1))) (la' := [(2, .int ((nI (l + 1)) + (-1))), (1, .int a1), (0, .ref 12)]) dX1_findRun_52 rfl rfl (by decide) rfl ?_
    refine ab_goto 5 dX1_findRun_55 (by decide) ?_
    refine ab_pick [0, 1, 2] rfl ?_
    rw [pk_m1]
    refine ih (by omega) (fun L' F' h1 h2 => ?_) (fun h => by subst h; exact absurd (fun i h1 h2 => absurd h2 (by omega)) (hn 0 (by omega)))
    rcases Nat.lt_or_ge (l + 1) L' with q | q
    · exact hL L' F' q h2
    · obtain rfl : L' = l + 1 := by omega
      exact hn F' h2
theorem c_X1_findRun {x0 x1 x2 x3 x4 x5 x6 x7 x8 x9 x10 x11 x15 x16 x17 x18 x19 x20 x21 x22 x23 x24 x25 x26 x27 x28 x29 x30 x31 x32 : ax_E} {f12_6 f12_7 f12_8 f12_9 a1 : Int32} {r13 r14 : Nat → Int32} {wm : List ax_E} {c : Nat} (hc : c ≤ 40) : Ct M_X1_findRun [.ref 12, .int a1] ([x0, x1, x2, x3, x4, x5, x6, x7, x8, x9, x10, x11, ob 1 [.ref 13, .ref 14, .ref 15, .ref 16, .ref 17, .int (nI c), .int f12_6, .int f12_7, .int f12_8, .int f12_9], ia 40 r13, ia 40 r14, x15, x16, x17, x18, x19, x20, x21, x22, x23, x24, x25, x26, x27, x28, x29, x30, x31, x32], wm) (fun r w' => (∃ F : Nat, ∃ L : Nat, (RunOf (fun F L => isRn r13 r14 a1 F (F + L - 1)) c F L) ∧ r = none ∧ w' = ([x0, x1, x2, x3, x4, x5, x6, x7, x8, x9, x10, x11, ob 1 [.ref 13, .ref 14, .ref 15, .ref 16, .ref 17, .int (nI c), .int f12_6, .int f12_7, .int (nI F), .int (nI L)], ia 40 r13, ia 40 r14, x15, x16, x17, x18, x19, x20, x21, x22, x23, x24, x25, x26, x27, x28, x29, x30, x31, x32], wm)) ∨ ((c = 0) ∧ r = none ∧ w' = ([x0, x1, x2, x3, x4, x5, x6, x7, x8, x9, x10, x11, ob 1 [.ref 13, .ref 14, .ref 15, .ref 16, .ref 17, .int (nI c), .int f12_6, .int f12_7, .int f12_8, .int 0], ia 40 r13, ia 40 r14, x15, x16, x17, x18, x19, x20, x21, x22, x23, x24, x25, x26, x27, x28, x29, x30, x31, x32], wm))) := by
  refine ct_of ⟨by decide, rfl⟩ (Nat.le_of_ble_eq_true rfl) ?_
  refine ab_aload_n dX1_findRun_0 rfl ?_
  refine ab_getf dX1_findRun_1 fl_X1_29 rfl rfl ?_
  refine ab_istore_n (la' := [(2, .int (nI c)), (0, .ref 12), (1, .int a1)]) dX1_findRun_4 (by decide) rfl ?_
  refine ab_pick [0, 2, 1] rfl ?_
  exact lp_fo hc c (Nat.le_refl c) (fun L' F' h1 h2 => absurd h2 (by omega)) (fun h => h)
theorem c_X1_runAngle_p {x0 x1 x2 x3 x4 x5 x6 x7 x8 x9 x10 x11 x13 x14 x16 x17 x18 x19 x20 x21 x22 x23 x24 x25 x26 x27 x28 x29 x30 x31 x32 : ax_E} {f12_5 f12_6 f12_7 : Int32} {r15 : Nat → Int32} {wm : List ax_E} {F L : Nat} (hF : F < 40) (hL : 0 < L) (hL2 : L ≤ 40) : Ct M_X1_runAngle [.ref 12] ([x0, x1, x2, x3, x4, x5, x6, x7, x8, x9, x10, x11, ob 1 [.ref 13, .ref 14, .ref 15, .ref 16, .ref 17, .int f12_5, .int f12_6, .int f12_7, .int (nI F), .int (nI L)], x13, x14, ia 40 r15, x16, x17, x18, x19, x20, x21, x22, x23, x24, x25, x26, x27, x28, x29, x30, x31, x32], wm) (fun r w' => r = some (.int (r15 F)) ∧ w' = ([x0, x1, x2, x3, x4, x5, x6, x7, x8, x9, x10, x11, ob 1 [.ref 13, .ref 14, .ref 15, .ref 16, .ref 17, .int f12_5, .int f12_6, .int f12_7, .int (nI F), .int (nI L)], x13, x14, ia 40 r15, x16, x17, x18, x19, x20, x21, x22, x23, x24, x25, x26, x27, x28, x29, x30, x31, x32], wm)) := by
  refine ct_of ⟨by decide, rfl⟩ (Nat.le_of_ble_eq_true rfl) ?_
  refine ab_aload_n dX1_runAngle_0 rfl ?_
  refine ab_getf dX1_runAngle_1 fl_X1_42 rfl rfl ?_
  refine ab_ifle 19 dX1_runAngle_4 (by decide) (fun h_1 => absurd h_1 (nI_nle hL (by omega))) (fun h_1 => ?_)
  refine ab_aload_n dX1_runAngle_7 rfl ?_
  refine ab_getf dX1_runAngle_8 fl_X1_20 rfl rfl ?_
  refine ab_aload_n dX1_runAngle_11 rfl ?_
  refine ab_getf dX1_runAngle_12 fl_X1_39 rfl rfl ?_
  refine ab_iald (j := F) dX1_runAngle_15 rfl (ix_nI (by omega) (by decide)) ?_
  refine ab_goto 21 dX1_runAngle_16 (by decide) ?_
  exact ab_iret dX1_runAngle_21 rfl (by decide) (⟨rfl, rfl⟩)
theorem c_X1_runAngle_z {x0 x1 x2 x3 x4 x5 x6 x7 x8 x9 x10 x11 x13 x14 x16 x17 x18 x19 x20 x21 x22 x23 x24 x25 x26 x27 x28 x29 x30 x31 x32 : ax_E} {f12_5 f12_6 f12_7 f12_8 : Int32} {r15 : Nat → Int32} {wm : List ax_E}  : Ct M_X1_runAngle [.ref 12] ([x0, x1, x2, x3, x4, x5, x6, x7, x8, x9, x10, x11, ob 1 [.ref 13, .ref 14, .ref 15, .ref 16, .ref 17, .int f12_5, .int f12_6, .int f12_7, .int f12_8, .int 0], x13, x14, ia 40 r15, x16, x17, x18, x19, x20, x21, x22, x23, x24, x25, x26, x27, x28, x29, x30, x31, x32], wm) (fun r w' => r = some (.int (-2)) ∧ w' = ([x0, x1, x2, x3, x4, x5, x6, x7, x8, x9, x10, x11, ob 1 [.ref 13, .ref 14, .ref 15, .ref 16, .ref 17, .int f12_5, .int f12_6, .int f12_7, .int f12_8, .int 0], x13, x14, ia 40 r15, x16, x17, x18, x19, x20, x21, x22, x23, x24, x25, x26, x27, x28, x29, x30, x31, x32], wm)) := by
  refine ct_of ⟨by decide, rfl⟩ (Nat.le_of_ble_eq_true rfl) ?_
  refine ab_aload_n dX1_runAngle_0 rfl ?_
  refine ab_getf dX1_runAngle_1 fl_X1_42 rfl rfl ?_
  refine ab_ifle 19 dX1_runAngle_4 (by decide) (fun h_1 => ?_) (fun h_1 => absurd (by decide) h_1)
  refine ab_bipush (v := -2) dX1_runAngle_19 (by decide) ?_
  exact ab_iret dX1_runAngle_21 rfl (by decide) (⟨rfl, rfl⟩)
