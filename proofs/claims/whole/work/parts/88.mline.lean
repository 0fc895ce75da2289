theorem put4_sh {r m : Nat → Int32} {k x : Nat} {a b c d : Int32} (S : Nat) (h : r x = m (S + x) ∨ (k ≤ x ∧ x < k + 4)) : put4 r k a b c d x = put4 m (S + k) a b c d (S + x) := by
  unfold put4 upd
  by_cases e0 : x = k + 3
  · simp [e0, Nat.add_assoc]
  by_cases e1 : x = k + 2
  · simp [e1, Nat.add_assoc]
  by_cases e2 : x = k + 1
  · simp [e2, Nat.add_assoc]
  by_cases e3 : x = k
  · simp [e3]
  rcases h with h | h
  · have f0 : ¬ S + x = S + k + 3 := by omega
    have f1 : ¬ S + x = S + k + 2 := by omega
    have f2 : ¬ S + x = S + k + 1 := by omega
    have f3 : ¬ S + x = S + k := by omega
    rw [if_neg e0, if_neg e1, if_neg e2, if_neg e3, if_neg f0, if_neg f1, if_neg f2, if_neg f3, h]
  · omega
theorem put2_sh {r m : Nat → Int32} {k x : Nat} {a b : Int32} (S : Nat) (h : r x = m (S + x) ∨ (k ≤ x ∧ x < k + 2)) : put2 r k a b x = put2 m (S + k) a b (S + x) := by
  unfold put2 upd
  by_cases e2 : x = k + 1
  · simp [e2, Nat.add_assoc]
  by_cases e3 : x = k
  · simp [e3]
  rcases h with h | h
  · have f2 : ¬ S + x = S + k + 1 := by omega
    have f3 : ¬ S + x = S + k := by omega
    rw [if_neg e2, if_neg e3, if_neg f2, if_neg f3, h]
  · omega
theorem put4_out {m : Nat → Int32} {k x : Nat} {a b c d : Int32} (h : x < k ∨ k + 4 ≤ x) : put4 m k a b c d x = m x := by
  unfold put4 upd
  rw [if_neg (by omega), if_neg (by omega), if_neg (by omega), if_neg (by omega)]
theorem put2_out {m : Nat → Int32} {k x : Nat} {a b : Int32} (h : x < k ∨ k + 2 ≤ x) : put2 m k a b x = m x := by
  unfold put2 upd
  rw [if_neg (by omega), if_neg (by omega)]
/-- the reference's rows agree with the numbers read -/
def Agm (c : Nat → Nat) (m a8 a9 a10 a11 : Nat → Int32) : Prop := (∀ i j, i < c 0 → j < 4 → a8 (i * 4 + j) = m (0 + (i * 4 + j))) ∧ (∀ i j, i < c 1 → j < 2 → a9 (i * 2 + j) = m (16 + (i * 2 + j))) ∧ (∀ i j, i < c 2 → j < 2 → a10 (i * 2 + j) = m (24 + (i * 2 + j))) ∧ (∀ i j, i < c 3 → j < 4 → a11 (i * 4 + j) = m (40 + (i * 4 + j)))
theorem Agm_z (m a8 a9 a10 a11 : Nat → Int32) : Agm (fun _ => 0) m a8 a9 a10 a11 := ⟨fun i j h => absurd h (Nat.not_lt_zero i), fun i j h => absurd h (Nat.not_lt_zero i), fun i j h => absurd h (Nat.not_lt_zero i), fun i j h => absurd h (Nat.not_lt_zero i)⟩
theorem Agm_0 {q : Nat → Nat} {m a8 a9 a10 a11 : Nat → Int32} {a b c d : Int32} (h : Agm q m a8 a9 a10 a11) (hB : q 0 ≤ 4 ∧ q 1 ≤ 4 ∧ q 2 ≤ 8 ∧ q 3 ≤ 4) (hs : q 0 < 4) : Agm (updN q 0 (q 0 + 1)) (put4 m (0 + q 0 * 4) a b c d) (put4 a8 (4 * q 0) a b c d) a9 a10 a11 :=
  ⟨fun i j hi hj => by
    rw [updN_at] at hi
    rw [show 0 + q 0 * 4 = 0 + 4 * q 0 by omega]
    refine put4_sh 0 ?_
    by_cases e : i = q 0
    · exact Or.inr (by subst e; omega)
    · exact Or.inl (h.1 i j (by omega) hj), fun i j hi hj => by
    rw [updN_ne (by decide)] at hi
    rw [put4_out (by omega)]
    exact h.2.1 i j hi hj, fun i j hi hj => by
    rw [updN_ne (by decide)] at hi
    rw [put4_out (by omega)]
    exact h.2.2.1 i j hi hj, fun i j hi hj => by
    rw [updN_ne (by decide)] at hi
    rw [put4_out (by omega)]
    exact h.2.2.2 i j hi hj⟩
theorem Bcm_0 {q : Nat → Nat} (h : q 0 ≤ 4 ∧ q 1 ≤ 4 ∧ q 2 ≤ 8 ∧ q 3 ≤ 4) (hs : q 0 < 4) : Bcn (updN q 0 (q 0 + 1)) := Bc_0 h (by omega)
theorem Agm_1 {q : Nat → Nat} {m a8 a9 a10 a11 : Nat → Int32} {a b : Int32} (h : Agm q m a8 a9 a10 a11) (hB : q 0 ≤ 4 ∧ q 1 ≤ 4 ∧ q 2 ≤ 8 ∧ q 3 ≤ 4) (hs : q 1 < 4) : Agm (updN q 1 (q 1 + 1)) (put2 m (16 + q 1 * 2) a b) a8 (put2 a9 (2 * q 1) a b) a10 a11 :=
  ⟨fun i j hi hj => by
    rw [updN_ne (by decide)] at hi
    rw [put2_out (by omega)]
    exact h.1 i j hi hj, fun i j hi hj => by
    rw [updN_at] at hi
    rw [show 16 + q 1 * 2 = 16 + 2 * q 1 by omega]
    refine put2_sh 16 ?_
    by_cases e : i = q 1
    · exact Or.inr (by subst e; omega)
    · exact Or.inl (h.2.1 i j (by omega) hj), fun i j hi hj => by
    rw [updN_ne (by decide)] at hi
    rw [put2_out (by omega)]
    exact h.2.2.1 i j hi hj, fun i j hi hj => by
    rw [updN_ne (by decide)] at hi
    rw [put2_out (by omega)]
    exact h.2.2.2 i j hi hj⟩
theorem Bcm_1 {q : Nat → Nat} (h : q 0 ≤ 4 ∧ q 1 ≤ 4 ∧ q 2 ≤ 8 ∧ q 3 ≤ 4) (hs : q 1 < 4) : Bcn (updN q 1 (q 1 + 1)) := Bc_1 h (by omega)
theorem Agm_2 {q : Nat → Nat} {m a8 a9 a10 a11 : Nat → Int32} {a b : Int32} (h : Agm q m a8 a9 a10 a11) (hB : q 0 ≤ 4 ∧ q 1 ≤ 4 ∧ q 2 ≤ 8 ∧ q 3 ≤ 4) (hs : q 2 < 8) : Agm (updN q 2 (q 2 + 1)) (put2 m (24 + q 2 * 2) a b) a8 a9 (put2 a10 (2 * q 2) a b) a11 :=
  ⟨fun i j hi hj => by
    rw [updN_ne (by decide)] at hi
    rw [put2_out (by omega)]
    exact h.1 i j hi hj, fun i j hi hj => by
    rw [updN_ne (by decide)] at hi
    rw [put2_out (by omega)]
    exact h.2.1 i j hi hj, fun i j hi hj => by
    rw [updN_at] at hi
    rw [show 24 + q 2 * 2 = 24 + 2 * q 2 by omega]
    refine put2_sh 24 ?_
    by_cases e : i = q 2
    · exact Or.inr (by subst e; omega)
    · exact Or.inl (h.2.2.1 i j (by omega) hj), fun i j hi hj => by
    rw [updN_ne (by decide)] at hi
    rw [put2_out (by omega)]
    exact h.2.2.2 i j hi hj⟩
theorem Bcm_2 {q : Nat → Nat} (h : q 0 ≤ 4 ∧ q 1 ≤ 4 ∧ q 2 ≤ 8 ∧ q 3 ≤ 4) (hs : q 2 < 8) : Bcn (updN q 2 (q 2 + 1)) := Bc_2 h (by omega)
theorem Agm_3 {q : Nat → Nat} {m a8 a9 a10 a11 : Nat → Int32} {a b c d : Int32} (h : Agm q m a8 a9 a10 a11) (hB : q 0 ≤ 4 ∧ q 1 ≤ 4 ∧ q 2 ≤ 8 ∧ q 3 ≤ 4) (hs : q 3 < 4) : Agm (updN q 3 (q 3 + 1)) (put4 m (40 + q 3 * 4) a b c d) a8 a9 a10 (put4 a11 (4 * q 3) a b c d) :=
  ⟨fun i j hi hj => by
    rw [updN_ne (by decide)] at hi
    rw [put4_out (by omega)]
    exact h.1 i j hi hj, fun i j hi hj => by
    rw [updN_ne (by decide)] at hi
    rw [put4_out (by omega)]
    exact h.2.1 i j hi hj, fun i j hi hj => by
    rw [updN_ne (by decide)] at hi
    rw [put4_out (by omega)]
    exact h.2.2.1 i j hi hj, fun i j hi hj => by
    rw [updN_at] at hi
    rw [show 40 + q 3 * 4 = 40 + 4 * q 3 by omega]
    refine put4_sh 40 ?_
    by_cases e : i = q 3
    · exact Or.inr (by subst e; omega)
    · exact Or.inl (h.2.2.2 i j (by omega) hj)⟩
theorem Bcm_3 {q : Nat → Nat} (h : q 0 ≤ 4 ∧ q 1 ≤ 4 ∧ q 2 ≤ 8 ∧ q 3 ≤ 4) (hs : q 3 < 4) : Bcn (updN q 3 (q 3 + 1)) := Bc_3 h (by omega)
theorem c_X11_readsLine {wc : List ax_E} {m_thrown m_trouble m_fault m_where m_taped m_linkMany m_tracerMany m_pointMany m_pairMany gw m_readFault m_readPlace m_value m_curveMany m_cornerMany m_straightAt m_walkLink m_walkAngle m_walkBranch m_walkMany m_lined m_actMany : Int32} {m_n m_c m_d m_s m_e m_k m_x m_y m_g m_a m_fitUp m_fitDown m_worstUp m_worstDown : Int64} {z1 z2 z4 z5 z6 z7 z12 z13 z14 z15 z16 z17 z18 z19 z20 : ax_E} {q3 q8 q9 q10 q11 m : Nat → Int32} {u c : Nat → Nat} {n p : Nat} (h_n : n ≤ 700) (h_v : ∀ k, k < n → u k < 256 ∧ q3 k = nI (u k)) (h_p : p ≤ n) (h_t : sk u n p ≤ tE u n (sk u n p) ∧ tE u n (sk u n p) ≤ n) (h_w : tk u n (sk u n p) = 3 → gw = nI (vl u (sk u n p) (dE u n (sk u n p) - sk u n p))) (h_s : p ≤ sk u n p ∧ sk u n p ≤ n) (hB : c 0 ≤ 4 ∧ c 1 ≤ 4 ∧ c 2 ≤ 8 ∧ c 3 ≤ 4) (hA : Agm c m q8 q9 q10 q11) : Ct M_X11_readsLine [.ref 1000] (wc, [ob 9 [.int m_thrown, .int m_trouble, .int m_fault, .int m_where, .ref 1001, .ref 1002, .int 40, .ref 1003, .int m_taped, .int m_linkMany, .int m_tracerMany, .int m_pointMany, .int m_pairMany, .ref 1004, .ref 1005, .ref 1006, .ref 1007, .int (nI (c 0)), .int (nI (c 1)), .int (nI (c 2)), .int (nI (c 3)), .ref 1008, .ref 1009, .ref 1010, .ref 1011, .int (nI n), .int (nI (sk u n p)), .int (nI (tE u n (sk u n p))), .int (tk u n (sk u n p)), .int gw, .int m_readFault, .int m_readPlace, .int m_value, .long m_n, .long m_c, .long m_d, .long m_s, .long m_e, .long m_k, .long m_x, .long m_y, .long m_g, .long m_a, .ref 1012, .ref 1013, .ref 1014, .int m_curveMany, .ref 1015, .int m_cornerMany, .int m_straightAt, .ref 1016, .long m_fitUp, .long m_fitDown, .long m_worstUp, .long m_worstDown, .ref 1017, .int m_walkLink, .int m_walkAngle, .int m_walkBranch, .int m_walkMany, .ref 1018, .ref 1019, .int m_lined, .ref 1020, .int m_actMany], z1, z2, ia 700 q3, z4, z5, z6, z7, ia 16 q8, ia 8 q9, ia 16 q10, ia 16 q11, z12, z13, z14, z15, z16, z17, z18, z19, z20]) (fun r w' => (∃ e : Nat × Nat, ∃ ga : Int32, ∃ gs : Int32, ∃ gt : Int32, ∃ gz : Int32, ∃ gv : Int32, ∃ g8 : Nat → Int32, ∃ g9 : Nat → Int32, ∃ g10 : Nat → Int32, ∃ g11 : Nat → Int32, ∃ k0 : Int32, ∃ k1 : Int32, ∃ k2 : Int32, ∃ k3 : Int32, (pLn u n (p, c, m) = .inl e) ∧ r = some (.int 0) ∧ w' = (wc, [ob 9 [.int m_thrown, .int m_trouble, .int m_fault, .int m_where, .ref 1001, .ref 1002, .int 40, .ref 1003, .int m_taped, .int m_linkMany, .int m_tracerMany, .int m_pointMany, .int m_pairMany, .ref 1004, .ref 1005, .ref 1006, .ref 1007, .int k0, .int k1, .int k2, .int k3, .ref 1008, .ref 1009, .ref 1010, .ref 1011, .int (nI n), .int ga, .int gs, .int gt, .int gz, .int (nI e.1), .int (nI e.2), .int gv, .long m_n, .long m_c, .long m_d, .long m_s, .long m_e, .long m_k, .long m_x, .long m_y, .long m_g, .long m_a, .ref 1012, .ref 1013, .ref 1014, .int m_curveMany, .ref 1015, .int m_cornerMany, .int m_straightAt, .ref 1016, .long m_fitUp, .long m_fitDown, .long m_worstUp, .long m_worstDown, .ref 1017, .int m_walkLink, .int m_walkAngle, .int m_walkBranch, .int m_walkMany, .ref 1018, .ref 1019, .int m_lined, .ref 1020, .int m_actMany], z1, z2, ia 700 q3, z4, z5, z6, z7, ia 16 g8, ia 8 g9, ia 16 g10, ia 16 g11, z12, z13, z14, z15, z16, z17, z18, z19, z20])) ∨ (∃ s : PS, ∃ gx : Int32, ∃ gv : Int32, ∃ g8 : Nat → Int32, ∃ g9 : Nat → Int32, ∃ g10 : Nat → Int32, ∃ g11 : Nat → Int32, (pLn u n (p, c, m) = .inr s) ∧ (Agm s.2.1 s.2.2 g8 g9 g10 g11) ∧ (Bcn s.2.1) ∧ (p ≤ s.1 ∧ s.1 ≤ n) ∧ (tk u n (sk u n s.1) = 3 → gx = nI (vl u (sk u n s.1) (dE u n (sk u n s.1) - sk u n s.1))) ∧ r = some (.int 1) ∧ w' = (wc, [ob 9 [.int m_thrown, .int m_trouble, .int m_fault, .int m_where, .ref 1001, .ref 1002, .int 40, .ref 1003, .int m_taped, .int m_linkMany, .int m_tracerMany, .int m_pointMany, .int m_pairMany, .ref 1004, .ref 1005, .ref 1006, .ref 1007, .int (nI (s.2.1 0)), .int (nI (s.2.1 1)), .int (nI (s.2.1 2)), .int (nI (s.2.1 3)), .ref 1008, .ref 1009, .ref 1010, .ref 1011, .int (nI n), .int (nI (sk u n s.1)), .int (nI (tE u n (sk u n s.1))), .int (tk u n (sk u n s.1)), .int gx, .int m_readFault, .int m_readPlace, .int gv, .long m_n, .long m_c, .long m_d, .long m_s, .long m_e, .long m_k, .long m_x, .long m_y, .long m_g, .long m_a, .ref 1012, .ref 1013, .ref 1014, .int m_curveMany, .ref 1015, .int m_cornerMany, .int m_straightAt, .ref 1016, .long m_fitUp, .long m_fitDown, .long m_worstUp, .long m_worstDown, .ref 1017, .int m_walkLink, .int m_walkAngle, .int m_walkBranch, .int m_walkMany, .ref 1018, .ref 1019, .int m_lined, .ref 1020, .int m_actMany], z1, z2, ia 700 q3, z4, z5, z6, z7, ia 16 g8, ia 8 g9, ia 16 g10, ia 16 g11, z12, z13, z14, z15, z16, z17, z18, z19, z20]))) := by
  refine ct_of ⟨by decide, rfl⟩ (Nat.le_of_ble_eq_true rfl) ?_
  refine ab_aload_n dX11_readsLine_0 rfl ?_
  refine ab_ldcS (j := 9) dX11_readsLine_1 rfl ?_
  refine ab_callV (As := [.ref 3000]) (rest := []) dX11_readsLine_3 mv_X11_isWord ml_X11_173 ⟨by decide, by decide, rfl, rfl, rfl⟩ (by decide) rfl rfl (Nat.le_of_ble_eq_true rfl) rfl (c_X11_isWord_0 (n := n) (p := p) (gw := gw) h_n h_v (by omega) (tE_in (by omega))) ?_
  rintro r w' (⟨c_1, rfl, rfl⟩ | ⟨c_2, rfl, rfl⟩)
  · refine ab_ifeq 14 dX11_readsLine_6 (by decide) (fun h_3 => absurd h_3 (by decide)) (fun h_3 => ?_)
    refine ab_aload_n dX11_readsLine_9 rfl ?_
    refine ab_callV (As := []) (rest := []) dX11_readsLine_10 mv_X11_readsBars ml_X11_205 ⟨by decide, by decide, rfl, rfl, rfl⟩ (by decide) rfl rfl (Nat.le_of_ble_eq_true rfl) rfl (c_X11_readsBars (n := n) (p := p) (gw := gw) (rl := (c 0)) h_n h_v (by omega) (tE_in (by omega)) h_w (⟨sk_ge, sk_le (by omega)⟩) (by omega) c_1) ?_
    rintro r w' (⟨e_4, ga_5, gs_6, gt_7, gz_8, gv_9, g8_10, gr_11, c_12, rfl, rfl⟩ | ⟨v_13, gx_14, gv__15, c_16, c_17, c_18, rfl, rfl⟩)
    · exact ab_zret dX11_readsLine_13 rfl rfl (by decide) (Or.inl (⟨e_4, ga_5, gs_6, gt_7, gz_8, gv_9, g8_10, q9, q10, q11, gr_11, (nI (c 1)), (nI (c 2)), (nI (c 3)), c_12.elim (fun z => by rw [z.2]; simp only [pLn, if_pos (show wd_0 u n (sk u n p) from c_1), if_pos z.1]) (fun z => by simp only [pLn, if_pos (show wd_0 u n (sk u n p) from c_1), if_neg (Nat.not_le.mpr z.1), sb_l z.2]), rfl, rfl⟩))
    · exact ab_zret dX11_readsLine_13 rfl rfl (by decide) (Or.inr (⟨(v_13.2.2.2.2, updN c 0 (c 0 + 1), put4 m (0 + c 0 * 4) v_13.1 v_13.2.1 v_13.2.2.1 v_13.2.2.2.1), gx_14, gv__15, (put4 q8 (4 * (c 0)) v_13.1 v_13.2.1 v_13.2.2.1 v_13.2.2.2.1), q9, q10, q11, (by simp only [pLn, if_pos (show wd_0 u n (sk u n p) from c_1), if_neg (Nat.not_le.mpr c_16.1), sb_r c_16.2]), Agm_0 hA hB c_16.1, Bcm_0 hB c_16.1, c_17, c_18, rfl, rfl⟩))
  · refine ab_ifeq 14 dX11_readsLine_6 (by decide) (fun h_19 => ?_) (fun h_19 => absurd (by decide) h_19)
    refine ab_aload_n dX11_readsLine_14 rfl ?_
    refine ab_ldcS (j := 10) dX11_readsLine_15 rfl ?_
    refine ab_callV (As := [.ref 3001]) (rest := []) dX11_readsLine_17 mv_X11_isWord ml_X11_173 ⟨by decide, by decide, rfl, rfl, rfl⟩ (by decide) rfl rfl (Nat.le_of_ble_eq_true rfl) rfl (c_X11_isWord_1 (n := n) (p := p) (gw := gw) h_n h_v (by omega) (tE_in (by omega))) ?_
    rintro r w' (⟨c_20, rfl, rfl⟩ | ⟨c_21, rfl, rfl⟩)
    · refine ab_ifeq 28 dX11_readsLine_20 (by decide) (fun h_22 => absurd h_22 (by decide)) (fun h_22 => ?_)
      refine ab_aload_n dX11_readsLine_23 rfl ?_
      refine ab_callV (As := []) (rest := []) dX11_readsLine_24 mv_X11_readsTracer ml_X11_211 ⟨by decide, by decide, rfl, rfl, rfl⟩ (by decide) rfl rfl (Nat.le_of_ble_eq_true rfl) rfl (c_X11_readsTracer (n := n) (p := p) (gw := gw) (rl := (c 1)) h_n h_v (by omega) (tE_in (by omega)) h_w (⟨sk_ge, sk_le (by omega)⟩) (by omega) c_20) ?_
      rintro r w' (⟨e_23, ga_24, gs_25, gt_26, gz_27, gv_28, g8_29, gr_30, c_31, rfl, rfl⟩ | ⟨v_32, gx_33, gv__34, c_35, c_36, c_37, rfl, rfl⟩)
      · exact ab_zret dX11_readsLine_27 rfl rfl (by decide) (Or.inl (⟨e_23, ga_24, gs_25, gt_26, gz_27, gv_28, q8, g8_29, q10, q11, (nI (c 0)), gr_30, (nI (c 2)), (nI (c 3)), c_31.elim (fun z => by rw [z.2]; simp only [pLn, if_neg (show ¬ wd_0 u n (sk u n p) from c_2), if_pos (show wd_1 u n (sk u n p) from c_20), if_pos z.1]) (fun z => by simp only [pLn, if_neg (show ¬ wd_0 u n (sk u n p) from c_2), if_pos (show wd_1 u n (sk u n p) from c_20), if_neg (Nat.not_le.mpr z.1), sb_l z.2]), rfl, rfl⟩))
      · exact ab_zret dX11_readsLine_27 rfl rfl (by decide) (Or.inr (⟨(v_32.2.2, updN c 1 (c 1 + 1), put2 m (16 + c 1 * 2) v_32.1 v_32.2.1), gx_33, gv__34, q8, (put2 q9 (2 * (c 1)) v_32.1 v_32.2.1), q10, q11, (by simp only [pLn, if_neg (show ¬ wd_0 u n (sk u n p) from c_2), if_pos (show wd_1 u n (sk u n p) from c_20), if_neg (Nat.not_le.mpr c_35.1), sb_r c_35.2]), Agm_1 hA hB c_35.1, Bcm_1 hB c_35.1, c_36, c_37, rfl, rfl⟩))
    · refine ab_ifeq 28 dX11_readsLine_20 (by decide) (fun h_38 => ?_) (fun h_38 => absurd (by decide) h_38)
      refine ab_aload_n dX11_readsLine_28 rfl ?_
      refine ab_ldcS (j := 11) dX11_readsLine_29 rfl ?_
      refine ab_callV (As := [.ref 3002]) (rest := []) dX11_readsLine_31 mv_X11_isWord ml_X11_173 ⟨by decide, by decide, rfl, rfl, rfl⟩ (by decide) rfl rfl (Nat.le_of_ble_eq_true rfl) rfl (c_X11_isWord_2 (n := n) (p := p) (gw := gw) h_n h_v (by omega) (tE_in (by omega))) ?_
      rintro r w' (⟨c_39, rfl, rfl⟩ | ⟨c_40, rfl, rfl⟩)
      · refine ab_ifeq 42 dX11_readsLine_34 (by decide) (fun h_41 => absurd h_41 (by decide)) (fun h_41 => ?_)
        refine ab_aload_n dX11_readsLine_37 rfl ?_
        refine ab_callV (As := []) (rest := []) dX11_readsLine_38 mv_X11_readsPoint ml_X11_216 ⟨by decide, by decide, rfl, rfl, rfl⟩ (by decide) rfl rfl (Nat.le_of_ble_eq_true rfl) rfl (c_X11_readsPoint (n := n) (p := p) (gw := gw) (rl := (c 2)) h_n h_v (by omega) (tE_in (by omega)) h_w (⟨sk_ge, sk_le (by omega)⟩) (by omega) c_39) ?_
        rintro r w' (⟨e_42, ga_43, gs_44, gt_45, gz_46, gv_47, g8_48, gr_49, c_50, rfl, rfl⟩ | ⟨v_51, gx_52, gv__53, c_54, c_55, c_56, rfl, rfl⟩)
        · exact ab_zret dX11_readsLine_41 rfl rfl (by decide) (Or.inl (⟨e_42, ga_43, gs_44, gt_45, gz_46, gv_47, q8, q9, g8_48, q11, (nI (c 0)), (nI (c 1)), gr_49, (nI (c 3)), c_50.elim (fun z => by rw [z.2]; simp only [pLn, if_neg (show ¬ wd_0 u n (sk u n p) from c_2), if_neg (show ¬ wd_1 u n (sk u n p) from c_21), if_pos (show wd_2 u n (sk u n p) from c_39), if_pos z.1]) (fun z => by simp only [pLn, if_neg (show ¬ wd_0 u n (sk u n p) from c_2), if_neg (show ¬ wd_1 u n (sk u n p) from c_21), if_pos (show wd_2 u n (sk u n p) from c_39), if_neg (Nat.not_le.mpr z.1), sb_l z.2]), rfl, rfl⟩))
        · exact ab_zret dX11_readsLine_41 rfl rfl (by decide) (Or.inr (⟨(v_51.2.2, updN c 2 (c 2 + 1), put2 m (24 + c 2 * 2) v_51.1 v_51.2.1), gx_52, gv__53, q8, q9, (put2 q10 (2 * (c 2)) v_51.1 v_51.2.1), q11, (by simp only [pLn, if_neg (show ¬ wd_0 u n (sk u n p) from c_2), if_neg (show ¬ wd_1 u n (sk u n p) from c_21), if_pos (show wd_2 u n (sk u n p) from c_39), if_neg (Nat.not_le.mpr c_54.1), sb_r c_54.2]), Agm_2 hA hB c_54.1, Bcm_2 hB c_54.1, c_55, c_56, rfl, rfl⟩))
      · refine ab_ifeq 42 dX11_readsLine_34 (by decide) (fun h_57 => ?_) (fun h_57 => absurd (by decide) h_57)
        refine ab_aload_n dX11_readsLine_42 rfl ?_
        refine ab_ldcS (j := 12) dX11_readsLine_43 rfl ?_
        refine ab_callV (As := [.ref 3003]) (rest := []) dX11_readsLine_45 mv_X11_isWord ml_X11_173 ⟨by decide, by decide, rfl, rfl, rfl⟩ (by decide) rfl rfl (Nat.le_of_ble_eq_true rfl) rfl (c_X11_isWord_3 (n := n) (p := p) (gw := gw) h_n h_v (by omega) (tE_in (by omega))) ?_
        rintro r w' (⟨c_58, rfl, rfl⟩ | ⟨c_59, rfl, rfl⟩)
        · refine ab_ifeq 58 dX11_readsLine_48 (by decide) (fun h_60 => absurd h_60 (by decide)) (fun h_60 => ?_)
          refine ab_aload_n dX11_readsLine_51 rfl ?_
          refine ab_callV (As := []) (rest := []) dX11_readsLine_52 mv_X11_readsPair ml_X11_221 ⟨by decide, by decide, rfl, rfl, rfl⟩ (by decide) rfl rfl (Nat.le_of_ble_eq_true rfl) rfl (c_X11_readsPair (n := n) (p := p) (gw := gw) (rl := (c 3)) h_n h_v (by omega) (tE_in (by omega)) h_w (⟨sk_ge, sk_le (by omega)⟩) (by omega) c_58) ?_
          rintro r w' (⟨e_61, ga_62, gs_63, gt_64, gz_65, gv_66, g8_67, gr_68, c_69, rfl, rfl⟩ | ⟨v_70, gx_71, gv__72, c_73, c_74, c_75, rfl, rfl⟩)
          · refine ab_goto 63 dX11_readsLine_55 (by decide) ?_
            exact ab_zret dX11_readsLine_63 rfl rfl (by decide) (Or.inl (⟨e_61, ga_62, gs_63, gt_64, gz_65, gv_66, q8, q9, q10, g8_67, (nI (c 0)), (nI (c 1)), (nI (c 2)), gr_68, c_69.elim (fun z => by rw [z.2]; simp only [pLn, if_neg (show ¬ wd_0 u n (sk u n p) from c_2), if_neg (show ¬ wd_1 u n (sk u n p) from c_21), if_neg (show ¬ wd_2 u n (sk u n p) from c_40), if_pos (show wd_3 u n (sk u n p) from c_58), if_pos z.1]) (fun z => by simp only [pLn, if_neg (show ¬ wd_0 u n (sk u n p) from c_2), if_neg (show ¬ wd_1 u n (sk u n p) from c_21), if_neg (show ¬ wd_2 u n (sk u n p) from c_40), if_pos (show wd_3 u n (sk u n p) from c_58), if_neg (Nat.not_le.mpr z.1), sb_l z.2]), rfl, rfl⟩))
          · refine ab_goto 63 dX11_readsLine_55 (by decide) ?_
            exact ab_zret dX11_readsLine_63 rfl rfl (by decide) (Or.inr (⟨(v_70.2.2.2.2, updN c 3 (c 3 + 1), put4 m (40 + c 3 * 4) v_70.1 v_70.2.1 v_70.2.2.1 v_70.2.2.2.1), gx_71, gv__72, q8, q9, q10, (put4 q11 (4 * (c 3)) v_70.1 v_70.2.1 v_70.2.2.1 v_70.2.2.2.1), (by simp only [pLn, if_neg (show ¬ wd_0 u n (sk u n p) from c_2), if_neg (show ¬ wd_1 u n (sk u n p) from c_21), if_neg (show ¬ wd_2 u n (sk u n p) from c_40), if_pos (show wd_3 u n (sk u n p) from c_58), if_neg (Nat.not_le.mpr c_73.1), sb_r c_73.2]), Agm_3 hA hB c_73.1, Bcm_3 hB c_73.1, c_74, c_75, rfl, rfl⟩))
        · refine ab_ifeq 58 dX11_readsLine_48 (by decide) (fun h_76 => ?_) (fun h_76 => absurd (by decide) h_76)
          refine ab_aload_n dX11_readsLine_58 rfl ?_
          refine ab_iconst (v := 1) dX11_readsLine_59 (by decide) ?_
          refine ab_callV (As := [.int 1]) (rest := []) dX11_readsLine_60 mv_X11_errs ml_X11_159 ⟨by decide, by decide, rfl, rfl, rfl⟩ (by decide) rfl rfl (Nat.le_of_ble_eq_true rfl) rfl c_X11_errs ?_
          rintro r w' ⟨rfl, rfl⟩
          exact ab_zret dX11_readsLine_63 rfl rfl (by decide) (Or.inl (⟨(1, sk u n p), (nI (sk u n p)), (nI (tE u n (sk u n p))), (tk u n (sk u n p)), gw, m_value, q8, q9, q10, q11, (nI (c 0)), (nI (c 1)), (nI (c 2)), (nI (c 3)), by simp only [pLn, if_neg (show ¬ wd_0 u n (sk u n p) from c_2), if_neg (show ¬ wd_1 u n (sk u n p) from c_21), if_neg (show ¬ wd_2 u n (sk u n p) from c_40), if_neg (show ¬ wd_3 u n (sk u n p) from c_59)], rfl, rfl⟩))
