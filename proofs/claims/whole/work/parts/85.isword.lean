theorem run_eq {q : Nat → Bool} {n : Nat} : ∀ (l a : Nat), (∀ i, i < l → a + i < n ∧ q (a + i) = true) → ¬ (a + l < n ∧ q (a + l) = true) → run q n a = a + l
  | 0, a, _, h => run_f h
  | l + 1, a, h1, h2 => by
    have h0 : a < n ∧ q a = true := h1 0 (by omega)
    rw [run_t h0.1 h0.2, run_eq l (a + 1) (fun i hi => by have := h1 (i + 1) (by omega); rw [show a + 1 + i = a + (i + 1) by omega]; exact this) (by rw [show a + 1 + l = a + (l + 1) by omega]; exact h2)]
    omega
theorem isL_nD {u : Nat → Nat} {k : Nat} (h : isL u k = true) : ¬ isD u k = true := by
  rw [isL_iff] at h; rw [isD_iff]; omega
theorem nI_n {x : Nat} {v : Int32} {c : Nat} (hx : x = 59 ∨ x = 45) (hc : nI c = v ∧ c < 256 ∧ ¬ c = 59 ∧ ¬ c = 45) : ¬ nI x = v := by
  intro z
  have := (nI_c (x := x) (c := c) (by omega) ⟨hc.1, hc.2.1⟩).mp z
  omega
theorem tk2 {u : Nat → Nat} {n a : Nat} (h : tk u n a = 2) : a < n ∧ isL u a = true ∧ tE u n a = lE u n a ∧ lE u n a - a ≤ 7 := by
  unfold tk at h
  split at h
  · rename_i h1
    split at h
    · rename_i h2
      split at h
      · exact absurd h (by decide)
      · exact ⟨h1, h2, by unfold tE; rw [if_pos h1, if_pos h2], by omega⟩
    · split at h
      · split at h <;> exact absurd h (by decide)
      · split at h
        · rename_i h4; exact absurd h (nI_n (c := 2) h4 (by decide))
        · exact absurd h (by decide)
  · exact absurd h (by decide)
theorem tk3 {u : Nat → Nat} {n a : Nat} (h : tk u n a = 3) : a < n ∧ isD u a = true ∧ tE u n a = dE u n a ∧ dE u n a - a ≤ 3 ∧ a < dE u n a := by
  unfold tk at h
  split at h
  · rename_i h1
    split at h
    · split at h <;> exact absurd h (by decide)
    · rename_i h2
      split at h
      · rename_i h3
        split at h
        · exact absurd h (by decide)
        · refine ⟨h1, h3, by unfold tE; rw [if_pos h1, if_neg h2, if_pos h3], by omega, ?_⟩
          have := dE_ge (u := u) (n := n) (a := a + 1)
          rw [show dE u n a = dE u n (a + 1) from run_t h1 h3]; omega
      · split at h
        · rename_i h4; exact absurd h (nI_n (c := 3) h4 (by decide))
        · exact absurd h (by decide)
  · exact absurd h (by decide)
theorem tkn3 {u : Nat → Nat} {n a : Nat} (h : ¬ tk u n a = 3) : dE u n a = a ∨ 3 < dE u n a - a := by
  by_cases h1 : a < n
  · by_cases h2 : isL u a = true
    · exact Or.inl (run_f (fun z => isL_nD h2 z.2))
    · by_cases h3 : isD u a = true
      · by_cases h4 : 3 < dE u n a - a
        · exact Or.inr h4
        · exact absurd (by unfold tk; rw [if_pos h1, if_neg h2, if_pos h3, if_neg h4]) h
      · exact Or.inl (run_f (fun z => h3 z.2))
  · exact Or.inl (run_f (fun z => h1 z.1))
theorem tk_c {u : Nat → Nat} {n a c : Nat} (hc : c = 45 ∨ c = 59) : tk u n a = nI c ↔ (a < n ∧ u a = c) := by
  constructor
  · intro h
    unfold tk at h
    split at h
    · rename_i h1
      refine ⟨h1, ?_⟩
      rcases hc with rfl | rfl
      all_goals
        split at h
        · split at h <;> exact absurd h (by decide)
        · split at h
          · split at h <;> exact absurd h (by decide)
          · split at h
            · rename_i h4
              exact (nI_eq (by omega) (by omega)).mp h
            · exact absurd h (by decide)
    · rcases hc with rfl | rfl <;> exact absurd h (by decide)
  · rintro ⟨h1, h2⟩
    unfold tk
    rw [if_pos h1, if_neg (by rw [isL_iff]; omega), if_neg (by rw [isD_iff]; omega), if_pos (by omega), h2]
theorem tE_c {u : Nat → Nat} {n a : Nat} (h1 : a < n) (h2 : u a = 45 ∨ u a = 59) : tE u n a = a + 1 := by
  unfold tE
  rw [if_pos h1, if_neg (by rw [isL_iff]; omega), if_neg (by rw [isD_iff]; omega)]
theorem tk_0 {u : Nat → Nat} {n a : Nat} : tk u n a = 0 ↔ ¬ a < n := by
  constructor
  · intro h
    unfold tk at h
    split at h
    · split at h
      · split at h <;> exact absurd h (by decide)
      · split at h
        · split at h <;> exact absurd h (by decide)
        · split at h
          · rename_i h4; exact absurd h (nI_n (c := 0) h4 (by decide))
          · exact absurd h (by decide)
    · assumption
  · intro h; unfold tk; rw [if_neg h]
theorem wd_run {u : Nat → Nat} {n a l : Nat} (hl : l ≤ 7) (h0 : 0 < l) (h1 : a + l ≤ n) (h2 : ¬ (a + l < n ∧ isL u (a + l) = true)) (h3 : ∀ i, i < l → isL u (a + i) = true) : tk u n a = 2 ∧ tE u n a = a + l := by
  have e : lE u n a = a + l := run_eq l a (fun i hi => ⟨by omega, h3 i hi⟩) h2
  have hL : isL u a = true := h3 0 h0
  refine ⟨?_, ?_⟩
  · unfold tk; rw [if_pos (by omega), if_pos hL, e, if_neg (by omega)]
  · unfold tE; rw [if_pos (by omega), if_pos hL, e]
theorem wd_back {u : Nat → Nat} {n a l : Nat} (h1 : tk u n a = 2) (h2 : tE u n a = a + l) : a + l ≤ n ∧ ¬ (a + l < n ∧ isL u (a + l) = true) := by
  obtain ⟨t1, t2, t3, t4⟩ := tk2 h1
  have e : lE u n a = a + l := t3.symm.trans h2
  refine ⟨by rw [← e]; exact lE_le (by omega), ?_⟩
  have := run_stop (q := isL u) (n := n) (n - a) a rfl
  rw [show run (isL u) n a = a + l from e] at this
  exact this
theorem lt_1 {P : Nat → Prop} {k : Nat} (h : ∀ i, i < k → P i) (hk : P k) : ∀ i, i < k + 1 → P i := fun i hi => by
  by_cases e : i = k
  · rw [e]; exact hk
  · exact h i (by omega)
theorem wdm_0 {u : Nat → Nat} {n a : Nat} : wd_0 u n a ↔ (tk u n a = 2 ∧ tE u n a = a + 4 ∧ u (a + 0) = 98 ∧ u (a + 1) = 97 ∧ u (a + 2) = 114 ∧ u (a + 3) = 115) :=
  ⟨fun z => by
    have h := wd_run (u := u) (n := n) (a := a) (l := 4) (by decide) (by decide) z.1 z.2.1 (lt_1 (lt_1 (lt_1 (lt_1 (fun i hi => absurd hi (Nat.not_lt_zero i)) (isL_iff.mpr (by have := z.2.2.1; omega))) (isL_iff.mpr (by have := z.2.2.2.1; omega))) (isL_iff.mpr (by have := z.2.2.2.2.1; omega))) (isL_iff.mpr (by have := z.2.2.2.2.2; omega)))
    exact ⟨h.1, h.2, z.2.2⟩, fun z => by
    have h := wd_back z.1 z.2.1
    exact ⟨h.1, h.2, z.2.2⟩⟩
theorem wdm_1 {u : Nat → Nat} {n a : Nat} : wd_1 u n a ↔ (tk u n a = 2 ∧ tE u n a = a + 6 ∧ u (a + 0) = 116 ∧ u (a + 1) = 114 ∧ u (a + 2) = 97 ∧ u (a + 3) = 99 ∧ u (a + 4) = 101 ∧ u (a + 5) = 114) :=
  ⟨fun z => by
    have h := wd_run (u := u) (n := n) (a := a) (l := 6) (by decide) (by decide) z.1 z.2.1 (lt_1 (lt_1 (lt_1 (lt_1 (lt_1 (lt_1 (fun i hi => absurd hi (Nat.not_lt_zero i)) (isL_iff.mpr (by have := z.2.2.1; omega))) (isL_iff.mpr (by have := z.2.2.2.1; omega))) (isL_iff.mpr (by have := z.2.2.2.2.1; omega))) (isL_iff.mpr (by have := z.2.2.2.2.2.1; omega))) (isL_iff.mpr (by have := z.2.2.2.2.2.2.1; omega))) (isL_iff.mpr (by have := z.2.2.2.2.2.2.2; omega)))
    exact ⟨h.1, h.2, z.2.2⟩, fun z => by
    have h := wd_back z.1 z.2.1
    exact ⟨h.1, h.2, z.2.2⟩⟩
theorem wdm_2 {u : Nat → Nat} {n a : Nat} : wd_2 u n a ↔ (tk u n a = 2 ∧ tE u n a = a + 5 ∧ u (a + 0) = 112 ∧ u (a + 1) = 111 ∧ u (a + 2) = 105 ∧ u (a + 3) = 110 ∧ u (a + 4) = 116) :=
  ⟨fun z => by
    have h := wd_run (u := u) (n := n) (a := a) (l := 5) (by decide) (by decide) z.1 z.2.1 (lt_1 (lt_1 (lt_1 (lt_1 (lt_1 (fun i hi => absurd hi (Nat.not_lt_zero i)) (isL_iff.mpr (by have := z.2.2.1; omega))) (isL_iff.mpr (by have := z.2.2.2.1; omega))) (isL_iff.mpr (by have := z.2.2.2.2.1; omega))) (isL_iff.mpr (by have := z.2.2.2.2.2.1; omega))) (isL_iff.mpr (by have := z.2.2.2.2.2.2; omega)))
    exact ⟨h.1, h.2, z.2.2⟩, fun z => by
    have h := wd_back z.1 z.2.1
    exact ⟨h.1, h.2, z.2.2⟩⟩
theorem wdm_3 {u : Nat → Nat} {n a : Nat} : wd_3 u n a ↔ (tk u n a = 2 ∧ tE u n a = a + 4 ∧ u (a + 0) = 112 ∧ u (a + 1) = 97 ∧ u (a + 2) = 105 ∧ u (a + 3) = 114) :=
  ⟨fun z => by
    have h := wd_run (u := u) (n := n) (a := a) (l := 4) (by decide) (by decide) z.1 z.2.1 (lt_1 (lt_1 (lt_1 (lt_1 (fun i hi => absurd hi (Nat.not_lt_zero i)) (isL_iff.mpr (by have := z.2.2.1; omega))) (isL_iff.mpr (by have := z.2.2.2.1; omega))) (isL_iff.mpr (by have := z.2.2.2.2.1; omega))) (isL_iff.mpr (by have := z.2.2.2.2.2; omega)))
    exact ⟨h.1, h.2, z.2.2⟩, fun z => by
    have h := wd_back z.1 z.2.1
    exact ⟨h.1, h.2, z.2.2⟩⟩
theorem wdm_4 {u : Nat → Nat} {n a : Nat} : wd_4 u n a ↔ (tk u n a = 2 ∧ tE u n a = a + 6 ∧ u (a + 0) = 103 ∧ u (a + 1) = 114 ∧ u (a + 2) = 111 ∧ u (a + 3) = 117 ∧ u (a + 4) = 110 ∧ u (a + 5) = 100) :=
  ⟨fun z => by
    have h := wd_run (u := u) (n := n) (a := a) (l := 6) (by decide) (by decide) z.1 z.2.1 (lt_1 (lt_1 (lt_1 (lt_1 (lt_1 (lt_1 (fun i hi => absurd hi (Nat.not_lt_zero i)) (isL_iff.mpr (by have := z.2.2.1; omega))) (isL_iff.mpr (by have := z.2.2.2.1; omega))) (isL_iff.mpr (by have := z.2.2.2.2.1; omega))) (isL_iff.mpr (by have := z.2.2.2.2.2.1; omega))) (isL_iff.mpr (by have := z.2.2.2.2.2.2.1; omega))) (isL_iff.mpr (by have := z.2.2.2.2.2.2.2; omega)))
    exact ⟨h.1, h.2, z.2.2⟩, fun z => by
    have h := wd_back z.1 z.2.1
    exact ⟨h.1, h.2, z.2.2⟩⟩
theorem wdm_5 {u : Nat → Nat} {n a : Nat} : wd_5 u n a ↔ (tk u n a = 2 ∧ tE u n a = a + 5 ∧ u (a + 0) = 99 ∧ u (a + 1) = 114 ∧ u (a + 2) = 97 ∧ u (a + 3) = 110 ∧ u (a + 4) = 107) :=
  ⟨fun z => by
    have h := wd_run (u := u) (n := n) (a := a) (l := 5) (by decide) (by decide) z.1 z.2.1 (lt_1 (lt_1 (lt_1 (lt_1 (lt_1 (fun i hi => absurd hi (Nat.not_lt_zero i)) (isL_iff.mpr (by have := z.2.2.1; omega))) (isL_iff.mpr (by have := z.2.2.2.1; omega))) (isL_iff.mpr (by have := z.2.2.2.2.1; omega))) (isL_iff.mpr (by have := z.2.2.2.2.2.1; omega))) (isL_iff.mpr (by have := z.2.2.2.2.2.2; omega)))
    exact ⟨h.1, h.2, z.2.2⟩, fun z => by
    have h := wd_back z.1 z.2.1
    exact ⟨h.1, h.2, z.2.2⟩⟩
theorem wdm_6 {u : Nat → Nat} {n a : Nat} : wd_6 u n a ↔ (tk u n a = 2 ∧ tE u n a = a + 3 ∧ u (a + 0) = 114 ∧ u (a + 1) = 111 ∧ u (a + 2) = 100) :=
  ⟨fun z => by
    have h := wd_run (u := u) (n := n) (a := a) (l := 3) (by decide) (by decide) z.1 z.2.1 (lt_1 (lt_1 (lt_1 (fun i hi => absurd hi (Nat.not_lt_zero i)) (isL_iff.mpr (by have := z.2.2.1; omega))) (isL_iff.mpr (by have := z.2.2.2.1; omega))) (isL_iff.mpr (by have := z.2.2.2.2; omega)))
    exact ⟨h.1, h.2, z.2.2⟩, fun z => by
    have h := wd_back z.1 z.2.1
    exact ⟨h.1, h.2, z.2.2⟩⟩
theorem wdm_7 {u : Nat → Nat} {n a : Nat} : wd_7 u n a ↔ (tk u n a = 2 ∧ tE u n a = a + 3 ∧ u (a + 0) = 97 ∧ u (a + 1) = 114 ∧ u (a + 2) = 109) :=
  ⟨fun z => by
    have h := wd_run (u := u) (n := n) (a := a) (l := 3) (by decide) (by decide) z.1 z.2.1 (lt_1 (lt_1 (lt_1 (fun i hi => absurd hi (Nat.not_lt_zero i)) (isL_iff.mpr (by have := z.2.2.1; omega))) (isL_iff.mpr (by have := z.2.2.2.1; omega))) (isL_iff.mpr (by have := z.2.2.2.2; omega)))
    exact ⟨h.1, h.2, z.2.2⟩, fun z => by
    have h := wd_back z.1 z.2.1
    exact ⟨h.1, h.2, z.2.2⟩⟩
theorem c_X11_isWord_0 {wc : List ax_E} {m_thrown m_trouble m_fault m_where m_taped m_linkMany m_tracerMany m_pointMany m_pairMany m_readLinks m_readTracers m_readPoints m_readPairs gw m_readFault m_readPlace m_value m_curveMany m_cornerMany m_straightAt m_walkLink m_walkAngle m_walkBranch m_walkMany m_lined m_actMany : Int32} {m_n m_c m_d m_s m_e m_k m_x m_y m_g m_a m_fitUp m_fitDown m_worstUp m_worstDown : Int64} {z1 z2 z4 z5 z6 z7 z8 z9 z10 z11 z12 z13 z14 z15 z16 z17 z18 z19 z20 : ax_E} {q3 : Nat → Int32} {u : Nat → Nat} {n p : Nat} (h_n : n ≤ 700) (h_v : ∀ k, k < n → u k < 256 ∧ q3 k = nI (u k)) (h_p : p ≤ n) (h_t : sk u n p ≤ tE u n (sk u n p) ∧ tE u n (sk u n p) ≤ n) : Ct M_X11_isWord [.ref 1000, .ref 3000] (wc, [ob 9 [.int m_thrown, .int m_trouble, .int m_fault, .int m_where, .ref 1001, .ref 1002, .int 40, .ref 1003, .int m_taped, .int m_linkMany, .int m_tracerMany, .int m_pointMany, .int m_pairMany, .ref 1004, .ref 1005, .ref 1006, .ref 1007, .int m_readLinks, .int m_readTracers, .int m_readPoints, .int m_readPairs, .ref 1008, .ref 1009, .ref 1010, .ref 1011, .int (nI n), .int (nI (sk u n p)), .int (nI (tE u n (sk u n p))), .int (tk u n (sk u n p)), .int gw, .int m_readFault, .int m_readPlace, .int m_value, .long m_n, .long m_c, .long m_d, .long m_s, .long m_e, .long m_k, .long m_x, .long m_y, .long m_g, .long m_a, .ref 1012, .ref 1013, .ref 1014, .int m_curveMany, .ref 1015, .int m_cornerMany, .int m_straightAt, .ref 1016, .long m_fitUp, .long m_fitDown, .long m_worstUp, .long m_worstDown, .ref 1017, .int m_walkLink, .int m_walkAngle, .int m_walkBranch, .int m_walkMany, .ref 1018, .ref 1019, .int m_lined, .ref 1020, .int m_actMany], z1, z2, ia 700 q3, z4, z5, z6, z7, z8, z9, z10, z11, z12, z13, z14, z15, z16, z17, z18, z19, z20]) (fun r w' => ((wd_0 u n (sk u n p)) ∧ r = some (.int 1) ∧ w' = (wc, [ob 9 [.int m_thrown, .int m_trouble, .int m_fault, .int m_where, .ref 1001, .ref 1002, .int 40, .ref 1003, .int m_taped, .int m_linkMany, .int m_tracerMany, .int m_pointMany, .int m_pairMany, .ref 1004, .ref 1005, .ref 1006, .ref 1007, .int m_readLinks, .int m_readTracers, .int m_readPoints, .int m_readPairs, .ref 1008, .ref 1009, .ref 1010, .ref 1011, .int (nI n), .int (nI (sk u n p)), .int (nI (tE u n (sk u n p))), .int (tk u n (sk u n p)), .int gw, .int m_readFault, .int m_readPlace, .int m_value, .long m_n, .long m_c, .long m_d, .long m_s, .long m_e, .long m_k, .long m_x, .long m_y, .long m_g, .long m_a, .ref 1012, .ref 1013, .ref 1014, .int m_curveMany, .ref 1015, .int m_cornerMany, .int m_straightAt, .ref 1016, .long m_fitUp, .long m_fitDown, .long m_worstUp, .long m_worstDown, .ref 1017, .int m_walkLink, .int m_walkAngle, .int m_walkBranch, .int m_walkMany, .ref 1018, .ref 1019, .int m_lined, .ref 1020, .int m_actMany], z1, z2, ia 700 q3, z4, z5, z6, z7, z8, z9, z10, z11, z12, z13, z14, z15, z16, z17, z18, z19, z20])) ∨ ((¬ wd_0 u n (sk u n p)) ∧ r = some (.int 0) ∧ w' = (wc, [ob 9 [.int m_thrown, .int m_trouble, .int m_fault, .int m_where, .ref 1001, .ref 1002, .int 40, .ref 1003, .int m_taped, .int m_linkMany, .int m_tracerMany, .int m_pointMany, .int m_pairMany, .ref 1004, .ref 1005, .ref 1006, .ref 1007, .int m_readLinks, .int m_readTracers, .int m_readPoints, .int m_readPairs, .ref 1008, .ref 1009, .ref 1010, .ref 1011, .int (nI n), .int (nI (sk u n p)), .int (nI (tE u n (sk u n p))), .int (tk u n (sk u n p)), .int gw, .int m_readFault, .int m_readPlace, .int m_value, .long m_n, .long m_c, .long m_d, .long m_s, .long m_e, .long m_k, .long m_x, .long m_y, .long m_g, .long m_a, .ref 1012, .ref 1013, .ref 1014, .int m_curveMany, .ref 1015, .int m_cornerMany, .int m_straightAt, .ref 1016, .long m_fitUp, .long m_fitDown, .long m_worstUp, .long m_worstDown, .ref 1017, .int m_walkLink, .int m_walkAngle, .int m_walkBranch, .int m_walkMany, .ref 1018, .ref 1019, .int m_lined, .ref 1020, .int m_actMany], z1, z2, ia 700 q3, z4, z5, z6, z7, z8, z9, z10, z11, z12, z13, z14, z15, z16, z17, z18, z19, z20]))) := by
  refine ct_of ⟨by decide, rfl⟩ (Nat.le_of_ble_eq_true rfl) ?_
  refine ab_aload_n dX11_isWord_0 rfl ?_
  refine ab_getf dX11_isWord_1 fl_X11_137 rfl rfl ?_
  refine ab_iconst (v := 2) dX11_isWord_4 (by decide) ?_
  refine ab_icmpne 24 dX11_isWord_5 (by decide) (fun h_1 => ?_) (fun h_1 => ?_)
  · refine ab_iconst (v := 0) dX11_isWord_24 (by decide) ?_
    exact ab_zret dX11_isWord_25 rfl rfl (by decide) (Or.inr (⟨fun z => h_1 (wdm_0.mp z).1, rfl, rfl⟩))
  · refine ab_aload_n dX11_isWord_8 rfl ?_
    refine ab_getf dX11_isWord_9 fl_X11_128 rfl rfl ?_
    refine ab_aload_n dX11_isWord_12 rfl ?_
    refine ab_getf dX11_isWord_13 fl_X11_134 rfl rfl ?_
    refine ab_isub dX11_isWord_16 ?_
    refine ab_topi (v := (nI ((tE u n (sk u n p)) - (sk u n p)))) (pk_sub (by omega)) ?_
    refine ab_aload_n dX11_isWord_17 rfl ?_
    refine ab_callT (j := 0) (As := []) (rest := [.int (nI ((tE u n (sk u n p)) - (sk u n p)))]) dX11_isWord_18 mT_J0_length_8abf5 ml_X11_143 ⟨by decide, by decide, rfl, rfl, rfl⟩ (by decide) rfl rfl (Nat.le_of_ble_eq_true rfl) (by decide) c_slen_0 ?_
    rintro r w' ⟨rfl, rfl⟩
    refine ab_icmpeq 26 dX11_isWord_21 (by decide) (fun h_2 => ?_) (fun h_2 => ?_)
    · have h_2n := (nI_eq (a := ((tE u n (sk u n p)) - (sk u n p))) (b := 4) (by omega) (by omega)).mp h_2
      refine ab_iconst (v := 0) dX11_isWord_26 (by decide) ?_
      refine ab_istore_n (la' := [(2, .int 0), (0, .ref 1000), (1, .ref 3000)]) dX11_isWord_27 (by decide) rfl ?_
      refine ab_iload_n dX11_isWord_28 rfl ?_
      refine ab_aload_n dX11_isWord_29 rfl ?_
      refine ab_callT (j := 0) (As := []) (rest := [.int 0]) dX11_isWord_30 mT_J0_length_8abf5 ml_X11_143 ⟨by decide, by decide, rfl, rfl, rfl⟩ (by decide) rfl rfl (Nat.le_of_ble_eq_true rfl) (by decide) c_slen_0 ?_
      rintro r w' ⟨rfl, rfl⟩
      refine ab_icmpge 63 dX11_isWord_33 (by decide) (fun h_3 => absurd h_3 (by decide)) (fun h_3 => ?_)
      refine ab_aload_n dX11_isWord_36 rfl ?_
      refine ab_getf dX11_isWord_37 fl_X11_39 rfl rfl ?_
      refine ab_aload_n dX11_isWord_40 rfl ?_
      refine ab_getf dX11_isWord_41 fl_X11_134 rfl rfl ?_
      refine ab_iload_n dX11_isWord_44 rfl ?_
      refine ab_iadd dX11_isWord_45 ?_
      refine ab_topi (v := (nI (sk u n p))) (Int32.add_zero _) ?_
      refine ab_iald (j := (sk u n p)) dX11_isWord_46 rfl (ix_nI (by omega) (by decide)) ?_
      refine ab_topi (v := (nI (u ((sk u n p) + 0)))) (h_v (sk u n p) (by omega)).2 ?_
      refine ab_aload_n dX11_isWord_47 rfl ?_
      refine ab_iload_n dX11_isWord_48 rfl ?_
      refine ab_callT (j := 0) (As := [.int 0]) (rest := [.int (nI (u ((sk u n p) + 0)))]) dX11_isWord_49 mT_J0_charAt_5068e ml_X11_149 ⟨by decide, by decide, rfl, rfl, rfl⟩ (by decide) rfl rfl (Nat.le_of_ble_eq_true rfl) (by decide) c_chr_0_0 ?_
      rintro r w' ⟨rfl, rfl⟩
      refine ab_icmpeq 57 dX11_isWord_52 (by decide) (fun h_4 => ?_) (fun h_4 => ?_)
      · refine ab_iinc (v := 1) (la' := [(2, .int 1), (0, .ref 1000), (1, .ref 3000)]) dX11_isWord_57 rfl (by decide) (by decide) rfl ?_
        refine ab_goto 28 dX11_isWord_60 (by decide) ?_
        refine ab_iload_n dX11_isWord_28 rfl ?_
        refine ab_aload_n dX11_isWord_29 rfl ?_
        refine ab_callT (j := 0) (As := []) (rest := [.int 1]) dX11_isWord_30 mT_J0_length_8abf5 ml_X11_143 ⟨by decide, by decide, rfl, rfl, rfl⟩ (by decide) rfl rfl (Nat.le_of_ble_eq_true rfl) (by decide) c_slen_0 ?_
        rintro r w' ⟨rfl, rfl⟩
        refine ab_icmpge 63 dX11_isWord_33 (by decide) (fun h_5 => absurd h_5 (by decide)) (fun h_5 => ?_)
        refine ab_aload_n dX11_isWord_36 rfl ?_
        refine ab_getf dX11_isWord_37 fl_X11_39 rfl rfl ?_
        refine ab_aload_n dX11_isWord_40 rfl ?_
        refine ab_getf dX11_isWord_41 fl_X11_134 rfl rfl ?_
        refine ab_iload_n dX11_isWord_44 rfl ?_
        refine ab_iadd dX11_isWord_45 ?_
        refine ab_topi (v := (nI ((sk u n p) + 1))) (nI_1 _) ?_
        refine ab_iald (j := ((sk u n p) + 1)) dX11_isWord_46 rfl (ix_nI (by omega) (by decide)) ?_
        refine ab_topi (v := (nI (u ((sk u n p) + 1)))) (h_v ((sk u n p) + 1) (by omega)).2 ?_
        refine ab_aload_n dX11_isWord_47 rfl ?_
        refine ab_iload_n dX11_isWord_48 rfl ?_
        refine ab_callT (j := 0) (As := [.int 1]) (rest := [.int (nI (u ((sk u n p) + 1)))]) dX11_isWord_49 mT_J0_charAt_5068e ml_X11_149 ⟨by decide, by decide, rfl, rfl, rfl⟩ (by decide) rfl rfl (Nat.le_of_ble_eq_true rfl) (by decide) c_chr_0_1 ?_
        rintro r w' ⟨rfl, rfl⟩
        refine ab_icmpeq 57 dX11_isWord_52 (by decide) (fun h_6 => ?_) (fun h_6 => ?_)
        · refine ab_iinc (v := 2) (la' := [(2, .int 2), (0, .ref 1000), (1, .ref 3000)]) dX11_isWord_57 rfl (by decide) (by decide) rfl ?_
          refine ab_goto 28 dX11_isWord_60 (by decide) ?_
          refine ab_iload_n dX11_isWord_28 rfl ?_
          refine ab_aload_n dX11_isWord_29 rfl ?_
          refine ab_callT (j := 0) (As := []) (rest := [.int 2]) dX11_isWord_30 mT_J0_length_8abf5 ml_X11_143 ⟨by decide, by decide, rfl, rfl, rfl⟩ (by decide) rfl rfl (Nat.le_of_ble_eq_true rfl) (by decide) c_slen_0 ?_
          rintro r w' ⟨rfl, rfl⟩
          refine ab_icmpge 63 dX11_isWord_33 (by decide) (fun h_7 => absurd h_7 (by decide)) (fun h_7 => ?_)
          refine ab_aload_n dX11_isWord_36 rfl ?_
          refine ab_getf dX11_isWord_37 fl_X11_39 rfl rfl ?_
          refine ab_aload_n dX11_isWord_40 rfl ?_
          refine ab_getf dX11_isWord_41 fl_X11_134 rfl rfl ?_
          refine ab_iload_n dX11_isWord_44 rfl ?_
          refine ab_iadd dX11_isWord_45 ?_
          refine ab_topi (v := (nI ((sk u n p) + 2))) (nI_add _ 2) ?_
          refine ab_iald (j := ((sk u n p) + 2)) dX11_isWord_46 rfl (ix_nI (by omega) (by decide)) ?_
          refine ab_topi (v := (nI (u ((sk u n p) + 2)))) (h_v ((sk u n p) + 2) (by omega)).2 ?_
          refine ab_aload_n dX11_isWord_47 rfl ?_
          refine ab_iload_n dX11_isWord_48 rfl ?_
          refine ab_callT (j := 0) (As := [.int 2]) (rest := [.int (nI (u ((sk u n p) + 2)))]) dX11_isWord_49 mT_J0_charAt_5068e ml_X11_149 ⟨by decide, by decide, rfl, rfl, rfl⟩ (by decide) rfl rfl (Nat.le_of_ble_eq_true rfl) (by decide) c_chr_0_2 ?_
          rintro r w' ⟨rfl, rfl⟩
          refine ab_icmpeq 57 dX11_isWord_52 (by decide) (fun h_8 => ?_) (fun h_8 => ?_)
          · refine ab_iinc (v := 3) (la' := [(2, .int 3), (0, .ref 1000), (1, .ref 3000)]) dX11_isWord_57 rfl (by decide) (by decide) rfl ?_
            refine ab_goto 28 dX11_isWord_60 (by decide) ?_
            refine ab_iload_n dX11_isWord_28 rfl ?_
            refine ab_aload_n dX11_isWord_29 rfl ?_
            refine ab_callT (j := 0) (As := []) (rest := [.int 3]) dX11_isWord_30 mT_J0_length_8abf5 ml_X11_143 ⟨by decide, by decide, rfl, rfl, rfl⟩ (by decide) rfl rfl (Nat.le_of_ble_eq_true rfl) (by decide) c_slen_0 ?_
            rintro r w' ⟨rfl, rfl⟩
            refine ab_icmpge 63 dX11_isWord_33 (by decide) (fun h_9 => absurd h_9 (by decide)) (fun h_9 => ?_)
            refine ab_aload_n dX11_isWord_36 rfl ?_
            refine ab_getf dX11_isWord_37 fl_X11_39 rfl rfl ?_
            refine ab_aload_n dX11_isWord_40 rfl ?_
            refine ab_getf dX11_isWord_41 fl_X11_134 rfl rfl ?_
            refine ab_iload_n dX11_isWord_44 rfl ?_
            refine ab_iadd dX11_isWord_45 ?_
            refine ab_topi (v := (nI ((sk u n p) + 3))) (nI_add _ 3) ?_
            refine ab_iald (j := ((sk u n p) + 3)) dX11_isWord_46 rfl (ix_nI (by omega) (by decide)) ?_
            refine ab_topi (v := (nI (u ((sk u n p) + 3)))) (h_v ((sk u n p) + 3) (by omega)).2 ?_
            refine ab_aload_n dX11_isWord_47 rfl ?_
            refine ab_iload_n dX11_isWord_48 rfl ?_
            refine ab_callT (j := 0) (As := [.int 3]) (rest := [.int (nI (u ((sk u n p) + 3)))]) dX11_isWord_49 mT_J0_charAt_5068e ml_X11_149 ⟨by decide, by decide, rfl, rfl, rfl⟩ (by decide) rfl rfl (Nat.le_of_ble_eq_true rfl) (by decide) c_chr_0_3 ?_
            rintro r w' ⟨rfl, rfl⟩
            refine ab_icmpeq 57 dX11_isWord_52 (by decide) (fun h_10 => ?_) (fun h_10 => ?_)
            · refine ab_iinc (v := 4) (la' := [(2, .int 4), (0, .ref 1000), (1, .ref 3000)]) dX11_isWord_57 rfl (by decide) (by decide) rfl ?_
              refine ab_goto 28 dX11_isWord_60 (by decide) ?_
              refine ab_iload_n dX11_isWord_28 rfl ?_
              refine ab_aload_n dX11_isWord_29 rfl ?_
              refine ab_callT (j := 0) (As := []) (rest := [.int 4]) dX11_isWord_30 mT_J0_length_8abf5 ml_X11_143 ⟨by decide, by decide, rfl, rfl, rfl⟩ (by decide) rfl rfl (Nat.le_of_ble_eq_true rfl) (by decide) c_slen_0 ?_
              rintro r w' ⟨rfl, rfl⟩
              refine ab_icmpge 63 dX11_isWord_33 (by decide) (fun h_11 => ?_) (fun h_11 => absurd (by decide) h_11)
              refine ab_iconst (v := 1) dX11_isWord_63 (by decide) ?_
              exact ab_zret dX11_isWord_64 rfl rfl (by decide) (Or.inl (⟨wdm_0.mpr ⟨h_1, by omega, (nI_c (c := 98) (h_v _ (by omega)).1 (by decide)).mp h_4, (nI_c (c := 97) (h_v _ (by omega)).1 (by decide)).mp h_6, (nI_c (c := 114) (h_v _ (by omega)).1 (by decide)).mp h_8, (nI_c (c := 115) (h_v _ (by omega)).1 (by decide)).mp h_10⟩, rfl, rfl⟩))
            · refine ab_iconst (v := 0) dX11_isWord_55 (by decide) ?_
              exact ab_zret dX11_isWord_56 rfl rfl (by decide) (Or.inr (⟨fun z => h_10 ((nI_c (c := 115) (h_v _ (by omega)).1 (by decide)).mpr (wdm_0.mp z).2.2.2.2.2), rfl, rfl⟩))
          · refine ab_iconst (v := 0) dX11_isWord_55 (by decide) ?_
            exact ab_zret dX11_isWord_56 rfl rfl (by decide) (Or.inr (⟨fun z => h_8 ((nI_c (c := 114) (h_v _ (by omega)).1 (by decide)).mpr (wdm_0.mp z).2.2.2.2.1), rfl, rfl⟩))
        · refine ab_iconst (v := 0) dX11_isWord_55 (by decide) ?_
          exact ab_zret dX11_isWord_56 rfl rfl (by decide) (Or.inr (⟨fun z => h_6 ((nI_c (c := 97) (h_v _ (by omega)).1 (by decide)).mpr (wdm_0.mp z).2.2.2.1), rfl, rfl⟩))
      · refine ab_iconst (v := 0) dX11_isWord_55 (by decide) ?_
        exact ab_zret dX11_isWord_56 rfl rfl (by decide) (Or.inr (⟨fun z => h_4 ((nI_c (c := 98) (h_v _ (by omega)).1 (by decide)).mpr (wdm_0.mp z).2.2.1), rfl, rfl⟩))
    · have h_2n : ¬ _ := fun z => h_2 ((nI_eq (a := ((tE u n (sk u n p)) - (sk u n p))) (b := 4) (by omega) (by omega)).mpr z)
      refine ab_iconst (v := 0) dX11_isWord_24 (by decide) ?_
      exact ab_zret dX11_isWord_25 rfl rfl (by decide) (Or.inr (⟨fun z => absurd (wdm_0.mp z).2.1 (by omega), rfl, rfl⟩))
theorem c_X11_isWord_1 {wc : List ax_E} {m_thrown m_trouble m_fault m_where m_taped m_linkMany m_tracerMany m_pointMany m_pairMany m_readLinks m_readTracers m_readPoints m_readPairs gw m_readFault m_readPlace m_value m_curveMany m_cornerMany m_straightAt m_walkLink m_walkAngle m_walkBranch m_walkMany m_lined m_actMany : Int32} {m_n m_c m_d m_s m_e m_k m_x m_y m_g m_a m_fitUp m_fitDown m_worstUp m_worstDown : Int64} {z1 z2 z4 z5 z6 z7 z8 z9 z10 z11 z12 z13 z14 z15 z16 z17 z18 z19 z20 : ax_E} {q3 : Nat → Int32} {u : Nat → Nat} {n p : Nat} (h_n : n ≤ 700) (h_v : ∀ k, k < n → u k < 256 ∧ q3 k = nI (u k)) (h_p : p ≤ n) (h_t : sk u n p ≤ tE u n (sk u n p) ∧ tE u n (sk u n p) ≤ n) : Ct M_X11_isWord [.ref 1000, .ref 3001] (wc, [ob 9 [.int m_thrown, .int m_trouble, .int m_fault, .int m_where, .ref 1001, .ref 1002, .int 40, .ref 1003, .int m_taped, .int m_linkMany, .int m_tracerMany, .int m_pointMany, .int m_pairMany, .ref 1004, .ref 1005, .ref 1006, .ref 1007, .int m_readLinks, .int m_readTracers, .int m_readPoints, .int m_readPairs, .ref 1008, .ref 1009, .ref 1010, .ref 1011, .int (nI n), .int (nI (sk u n p)), .int (nI (tE u n (sk u n p))), .int (tk u n (sk u n p)), .int gw, .int m_readFault, .int m_readPlace, .int m_value, .long m_n, .long m_c, .long m_d, .long m_s, .long m_e, .long m_k, .long m_x, .long m_y, .long m_g, .long m_a, .ref 1012, .ref 1013, .ref 1014, .int m_curveMany, .ref 1015, .int m_cornerMany, .int m_straightAt, .ref 1016, .long m_fitUp, .long m_fitDown, .long m_worstUp, .long m_worstDown, .ref 1017, .int m_walkLink, .int m_walkAngle, .int m_walkBranch, .int m_walkMany, .ref 1018, .ref 1019, .int m_lined, .ref 1020, .int m_actMany], z1, z2, ia 700 q3, z4, z5, z6, z7, z8, z9, z10, z11, z12, z13, z14, z15, z16, z17, z18, z19, z20]) (fun r w' => ((wd_1 u n (sk u n p)) ∧ r = some (.int 1) ∧ w' = (wc, [ob 9 [.int m_thrown, .int m_trouble, .int m_fault, .int m_where, .ref 1001, .ref 1002, .int 40, .ref 1003, .int m_taped, .int m_linkMany, .int m_tracerMany, .int m_pointMany, .int m_pairMany, .ref 1004, .ref 1005, .ref 1006, .ref 1007, .int m_readLinks, .int m_readTracers, .int m_readPoints, .int m_readPairs, .ref 1008, .ref 1009, .ref 1010, .ref 1011, .int (nI n), .int (nI (sk u n p)), .int (nI (tE u n (sk u n p))), .int (tk u n (sk u n p)), .int gw, .int m_readFault, .int m_readPlace, .int m_value, .long m_n, .long m_c, .long m_d, .long m_s, .long m_e, .long m_k, .long m_x, .long m_y, .long m_g, .long m_a, .ref 1012, .ref 1013, .ref 1014, .int m_curveMany, .ref 1015, .int m_cornerMany, .int m_straightAt, .ref 1016, .long m_fitUp, .long m_fitDown, .long m_worstUp, .long m_worstDown, .ref 1017, .int m_walkLink, .int m_walkAngle, .int m_walkBranch, .int m_walkMany, .ref 1018, .ref 1019, .int m_lined, .ref 1020, .int m_actMany], z1, z2, ia 700 q3, z4, z5, z6, z7, z8, z9, z10, z11, z12, z13, z14, z15, z16, z17, z18, z19, z20])) ∨ ((¬ wd_1 u n (sk u n p)) ∧ r = some (.int 0) ∧ w' = (wc, [ob 9 [.int m_thrown, .int m_trouble, .int m_fault, .int m_where, .ref 1001, .ref 1002, .int 40, .ref 1003, .int m_taped, .int m_linkMany, .int m_tracerMany, .int m_pointMany, .int m_pairMany, .ref 1004, .ref 1005, .ref 1006, .ref 1007, .int m_readLinks, .int m_readTracers, .int m_readPoints, .int m_readPairs, .ref 1008, .ref 1009, .ref 1010, .ref 1011, .int (nI n), .int (nI (sk u n p)), .int (nI (tE u n (sk u n p))), .int (tk u n (sk u n p)), .int gw, .int m_readFault, .int m_readPlace, .int m_value, .long m_n, .long m_c, .long m_d, .long m_s, .long m_e, .long m_k, .long m_x, .long m_y, .long m_g, .long m_a, .ref 1012, .ref 1013, .ref 1014, .int m_curveMany, .ref 1015, .int m_cornerMany, .int m_straightAt, .ref 1016, .long m_fitUp, .long m_fitDown, .long m_worstUp, .long m_worstDown, .ref 1017, .int m_walkLink, .int m_walkAngle, .int m_walkBranch, .int m_walkMany, .ref 1018, .ref 1019, .int m_lined, .ref 1020, .int m_actMany], z1, z2, ia 700 q3, z4, z5, z6, z7, z8, z9, z10, z11, z12, z13, z14, z15, z16, z17, z18, z19, z20]))) := by
  refine ct_of ⟨by decide, rfl⟩ (Nat.le_of_ble_eq_true rfl) ?_
  refine ab_aload_n dX11_isWord_0 rfl ?_
  refine ab_getf dX11_isWord_1 fl_X11_137 rfl rfl ?_
  refine ab_iconst (v := 2) dX11_isWord_4 (by decide) ?_
  refine ab_icmpne 24 dX11_isWord_5 (by decide) (fun h_1 => ?_) (fun h_1 => ?_)
  · refine ab_iconst (v := 0) dX11_isWord_24 (by decide) ?_
    exact ab_zret dX11_isWord_25 rfl rfl (by decide) (Or.inr (⟨fun z => h_1 (wdm_1.mp z).1, rfl, rfl⟩))
  · refine ab_aload_n dX11_isWord_8 rfl ?_
    refine ab_getf dX11_isWord_9 fl_X11_128 rfl rfl ?_
    refine ab_aload_n dX11_isWord_12 rfl ?_
    refine ab_getf dX11_isWord_13 fl_X11_134 rfl rfl ?_
    refine ab_isub dX11_isWord_16 ?_
    refine ab_topi (v := (nI ((tE u n (sk u n p)) - (sk u n p)))) (pk_sub (by omega)) ?_
    refine ab_aload_n dX11_isWord_17 rfl ?_
    refine ab_callT (j := 1) (As := []) (rest := [.int (nI ((tE u n (sk u n p)) - (sk u n p)))]) dX11_isWord_18 mT_J0_length_8abf5 ml_X11_143 ⟨by decide, by decide, rfl, rfl, rfl⟩ (by decide) rfl rfl (Nat.le_of_ble_eq_true rfl) (by decide) c_slen_1 ?_
    rintro r w' ⟨rfl, rfl⟩
    refine ab_icmpeq 26 dX11_isWord_21 (by decide) (fun h_2 => ?_) (fun h_2 => ?_)
    · have h_2n := (nI_eq (a := ((tE u n (sk u n p)) - (sk u n p))) (b := 6) (by omega) (by omega)).mp h_2
      refine ab_iconst (v := 0) dX11_isWord_26 (by decide) ?_
      refine ab_istore_n (la' := [(2, .int 0), (0, .ref 1000), (1, .ref 3001)]) dX11_isWord_27 (by decide) rfl ?_
      refine ab_iload_n dX11_isWord_28 rfl ?_
      refine ab_aload_n dX11_isWord_29 rfl ?_
      refine ab_callT (j := 1) (As := []) (rest := [.int 0]) dX11_isWord_30 mT_J0_length_8abf5 ml_X11_143 ⟨by decide, by decide, rfl, rfl, rfl⟩ (by decide) rfl rfl (Nat.le_of_ble_eq_true rfl) (by decide) c_slen_1 ?_
      rintro r w' ⟨rfl, rfl⟩
      refine ab_icmpge 63 dX11_isWord_33 (by decide) (fun h_3 => absurd h_3 (by decide)) (fun h_3 => ?_)
      refine ab_aload_n dX11_isWord_36 rfl ?_
      refine ab_getf dX11_isWord_37 fl_X11_39 rfl rfl ?_
      refine ab_aload_n dX11_isWord_40 rfl ?_
      refine ab_getf dX11_isWord_41 fl_X11_134 rfl rfl ?_
      refine ab_iload_n dX11_isWord_44 rfl ?_
      refine ab_iadd dX11_isWord_45 ?_
      refine ab_topi (v := (nI (sk u n p))) (Int32.add_zero _) ?_
      refine ab_iald (j := (sk u n p)) dX11_isWord_46 rfl (ix_nI (by omega) (by decide)) ?_
      refine ab_topi (v := (nI (u ((sk u n p) + 0)))) (h_v (sk u n p) (by omega)).2 ?_
      refine ab_aload_n dX11_isWord_47 rfl ?_
      refine ab_iload_n dX11_isWord_48 rfl ?_
      refine ab_callT (j := 1) (As := [.int 0]) (rest := [.int (nI (u ((sk u n p) + 0)))]) dX11_isWord_49 mT_J0_charAt_5068e ml_X11_149 ⟨by decide, by decide, rfl, rfl, rfl⟩ (by decide) rfl rfl (Nat.le_of_ble_eq_true rfl) (by decide) c_chr_1_0 ?_
      rintro r w' ⟨rfl, rfl⟩
      refine ab_icmpeq 57 dX11_isWord_52 (by decide) (fun h_4 => ?_) (fun h_4 => ?_)
      · refine ab_iinc (v := 1) (la' := [(2, .int 1), (0, .ref 1000), (1, .ref 3001)]) dX11_isWord_57 rfl (by decide) (by decide) rfl ?_
        refine ab_goto 28 dX11_isWord_60 (by decide) ?_
        refine ab_iload_n dX11_isWord_28 rfl ?_
        refine ab_aload_n dX11_isWord_29 rfl ?_
        refine ab_callT (j := 1) (As := []) (rest := [.int 1]) dX11_isWord_30 mT_J0_length_8abf5 ml_X11_143 ⟨by decide, by decide, rfl, rfl, rfl⟩ (by decide) rfl rfl (Nat.le_of_ble_eq_true rfl) (by decide) c_slen_1 ?_
        rintro r w' ⟨rfl, rfl⟩
        refine ab_icmpge 63 dX11_isWord_33 (by decide) (fun h_5 => absurd h_5 (by decide)) (fun h_5 => ?_)
        refine ab_aload_n dX11_isWord_36 rfl ?_
        refine ab_getf dX11_isWord_37 fl_X11_39 rfl rfl ?_
        refine ab_aload_n dX11_isWord_40 rfl ?_
        refine ab_getf dX11_isWord_41 fl_X11_134 rfl rfl ?_
        refine ab_iload_n dX11_isWord_44 rfl ?_
        refine ab_iadd dX11_isWord_45 ?_
        refine ab_topi (v := (nI ((sk u n p) + 1))) (nI_1 _) ?_
        refine ab_iald (j := ((sk u n p) + 1)) dX11_isWord_46 rfl (ix_nI (by omega) (by decide)) ?_
        refine ab_topi (v := (nI (u ((sk u n p) + 1)))) (h_v ((sk u n p) + 1) (by omega)).2 ?_
        refine ab_aload_n dX11_isWord_47 rfl ?_
        refine ab_iload_n dX11_isWord_48 rfl ?_
        refine ab_callT (j := 1) (As := [.int 1]) (rest := [.int (nI (u ((sk u n p) + 1)))]) dX11_isWord_49 mT_J0_charAt_5068e ml_X11_149 ⟨by decide, by decide, rfl, rfl, rfl⟩ (by decide) rfl rfl (Nat.le_of_ble_eq_true rfl) (by decide) c_chr_1_1 ?_
        rintro r w' ⟨rfl, rfl⟩
        refine ab_icmpeq 57 dX11_isWord_52 (by decide) (fun h_6 => ?_) (fun h_6 => ?_)
        · refine ab_iinc (v := 2) (la' := [(2, .int 2), (0, .ref 1000), (1, .ref 3001)]) dX11_isWord_57 rfl (by decide) (by decide) rfl ?_
          refine ab_goto 28 dX11_isWord_60 (by decide) ?_
          refine ab_iload_n dX11_isWord_28 rfl ?_
          refine ab_aload_n dX11_isWord_29 rfl ?_
          refine ab_callT (j := 1) (As := []) (rest := [.int 2]) dX11_isWord_30 mT_J0_length_8abf5 ml_X11_143 ⟨by decide, by decide, rfl, rfl, rfl⟩ (by decide) rfl rfl (Nat.le_of_ble_eq_true rfl) (by decide) c_slen_1 ?_
          rintro r w' ⟨rfl, rfl⟩
          refine ab_icmpge 63 dX11_isWord_33 (by decide) (fun h_7 => absurd h_7 (by decide)) (fun h_7 => ?_)
          refine ab_aload_n dX11_isWord_36 rfl ?_
          refine ab_getf dX11_isWord_37 fl_X11_39 rfl rfl ?_
          refine ab_aload_n dX11_isWord_40 rfl ?_
          refine ab_getf dX11_isWord_41 fl_X11_134 rfl rfl ?_
          refine ab_iload_n dX11_isWord_44 rfl ?_
          refine ab_iadd dX11_isWord_45 ?_
          refine ab_topi (v := (nI ((sk u n p) + 2))) (nI_add _ 2) ?_
          refine ab_iald (j := ((sk u n p) + 2)) dX11_isWord_46 rfl (ix_nI (by omega) (by decide)) ?_
          refine ab_topi (v := (nI (u ((sk u n p) + 2)))) (h_v ((sk u n p) + 2) (by omega)).2 ?_
          refine ab_aload_n dX11_isWord_47 rfl ?_
          refine ab_iload_n dX11_isWord_48 rfl ?_
          refine ab_callT (j := 1) (As := [.int 2]) (rest := [.int (nI (u ((sk u n p) + 2)))]) dX11_isWord_49 mT_J0_charAt_5068e ml_X11_149 ⟨by decide, by decide, rfl, rfl, rfl⟩ (by decide) rfl rfl (Nat.le_of_ble_eq_true rfl) (by decide) c_chr_1_2 ?_
          rintro r w' ⟨rfl, rfl⟩
          refine ab_icmpeq 57 dX11_isWord_52 (by decide) (fun h_8 => ?_) (fun h_8 => ?_)
          · refine ab_iinc (v := 3) (la' := [(2, .int 3), (0, .ref 1000), (1, .ref 3001)]) dX11_isWord_57 rfl (by decide) (by decide) rfl ?_
            refine ab_goto 28 dX11_isWord_60 (by decide) ?_
            refine ab_iload_n dX11_isWord_28 rfl ?_
            refine ab_aload_n dX11_isWord_29 rfl ?_
            refine ab_callT (j := 1) (As := []) (rest := [.int 3]) dX11_isWord_30 mT_J0_length_8abf5 ml_X11_143 ⟨by decide, by decide, rfl, rfl, rfl⟩ (by decide) rfl rfl (Nat.le_of_ble_eq_true rfl) (by decide) c_slen_1 ?_
            rintro r w' ⟨rfl, rfl⟩
            refine ab_icmpge 63 dX11_isWord_33 (by decide) (fun h_9 => absurd h_9 (by decide)) (fun h_9 => ?_)
            refine ab_aload_n dX11_isWord_36 rfl ?_
            refine ab_getf dX11_isWord_37 fl_X11_39 rfl rfl ?_
            refine ab_aload_n dX11_isWord_40 rfl ?_
            refine ab_getf dX11_isWord_41 fl_X11_134 rfl rfl ?_
            refine ab_iload_n dX11_isWord_44 rfl ?_
            refine ab_iadd dX11_isWord_45 ?_
            refine ab_topi (v := (nI ((sk u n p) + 3))) (nI_add _ 3) ?_
            refine ab_iald (j := ((sk u n p) + 3)) dX11_isWord_46 rfl (ix_nI (by omega) (by decide)) ?_
            refine ab_topi (v := (nI (u ((sk u n p) + 3)))) (h_v ((sk u n p) + 3) (by omega)).2 ?_
            refine ab_aload_n dX11_isWord_47 rfl ?_
            refine ab_iload_n dX11_isWord_48 rfl ?_
            refine ab_callT (j := 1) (As := [.int 3]) (rest := [.int (nI (u ((sk u n p) + 3)))]) dX11_isWord_49 mT_J0_charAt_5068e ml_X11_149 ⟨by decide, by decide, rfl, rfl, rfl⟩ (by decide) rfl rfl (Nat.le_of_ble_eq_true rfl) (by decide) c_chr_1_3 ?_
            rintro r w' ⟨rfl, rfl⟩
            refine ab_icmpeq 57 dX11_isWord_52 (by decide) (fun h_10 => ?_) (fun h_10 => ?_)
            · refine ab_iinc (v := 4) (la' := [(2, .int 4), (0, .ref 1000), (1, .ref 3001)]) dX11_isWord_57 rfl (by decide) (by decide) rfl ?_
              refine ab_goto 28 dX11_isWord_60 (by decide) ?_
              refine ab_iload_n dX11_isWord_28 rfl ?_
              refine ab_aload_n dX11_isWord_29 rfl ?_
              refine ab_callT (j := 1) (As := []) (rest := [.int 4]) dX11_isWord_30 mT_J0_length_8abf5 ml_X11_143 ⟨by decide, by decide, rfl, rfl, rfl⟩ (by decide) rfl rfl (Nat.le_of_ble_eq_true rfl) (by decide) c_slen_1 ?_
              rintro r w' ⟨rfl, rfl⟩
              refine ab_icmpge 63 dX11_isWord_33 (by decide) (fun h_11 => absurd h_11 (by decide)) (fun h_11 => ?_)
              refine ab_aload_n dX11_isWord_36 rfl ?_
              refine ab_getf dX11_isWord_37 fl_X11_39 rfl rfl ?_
              refine ab_aload_n dX11_isWord_40 rfl ?_
              refine ab_getf dX11_isWord_41 fl_X11_134 rfl rfl ?_
              refine ab_iload_n dX11_isWord_44 rfl ?_
              refine ab_iadd dX11_isWord_45 ?_
              refine ab_topi (v := (nI ((sk u n p) + 4))) (nI_add _ 4) ?_
              refine ab_iald (j := ((sk u n p) + 4)) dX11_isWord_46 rfl (ix_nI (by omega) (by decide)) ?_
              refine ab_topi (v := (nI (u ((sk u n p) + 4)))) (h_v ((sk u n p) + 4) (by omega)).2 ?_
              refine ab_aload_n dX11_isWord_47 rfl ?_
              refine ab_iload_n dX11_isWord_48 rfl ?_
              refine ab_callT (j := 1) (As := [.int 4]) (rest := [.int (nI (u ((sk u n p) + 4)))]) dX11_isWord_49 mT_J0_charAt_5068e ml_X11_149 ⟨by decide, by decide, rfl, rfl, rfl⟩ (by decide) rfl rfl (Nat.le_of_ble_eq_true rfl) (by decide) c_chr_1_4 ?_
              rintro r w' ⟨rfl, rfl⟩
              refine ab_icmpeq 57 dX11_isWord_52 (by decide) (fun h_12 => ?_) (fun h_12 => ?_)
              · refine ab_iinc (v := 5) (la' := [(2, .int 5), (0, .ref 1000), (1, .ref 3001)]) dX11_isWord_57 rfl (by decide) (by decide) rfl ?_
                refine ab_goto 28 dX11_isWord_60 (by decide) ?_
                refine ab_iload_n dX11_isWord_28 rfl ?_
                refine ab_aload_n dX11_isWord_29 rfl ?_
                refine ab_callT (j := 1) (As := []) (rest := [.int 5]) dX11_isWord_30 mT_J0_length_8abf5 ml_X11_143 ⟨by decide, by decide, rfl, rfl, rfl⟩ (by decide) rfl rfl (Nat.le_of_ble_eq_true rfl) (by decide) c_slen_1 ?_
                rintro r w' ⟨rfl, rfl⟩
                refine ab_icmpge 63 dX11_isWord_33 (by decide) (fun h_13 => absurd h_13 (by decide)) (fun h_13 => ?_)
                refine ab_aload_n dX11_isWord_36 rfl ?_
                refine ab_getf dX11_isWord_37 fl_X11_39 rfl rfl ?_
                refine ab_aload_n dX11_isWord_40 rfl ?_
                refine ab_getf dX11_isWord_41 fl_X11_134 rfl rfl ?_
                refine ab_iload_n dX11_isWord_44 rfl ?_
                refine ab_iadd dX11_isWord_45 ?_
                refine ab_topi (v := (nI ((sk u n p) + 5))) (nI_add _ 5) ?_
                refine ab_iald (j := ((sk u n p) + 5)) dX11_isWord_46 rfl (ix_nI (by omega) (by decide)) ?_
                refine ab_topi (v := (nI (u ((sk u n p) + 5)))) (h_v ((sk u n p) + 5) (by omega)).2 ?_
                refine ab_aload_n dX11_isWord_47 rfl ?_
                refine ab_iload_n dX11_isWord_48 rfl ?_
                refine ab_callT (j := 1) (As := [.int 5]) (rest := [.int (nI (u ((sk u n p) + 5)))]) dX11_isWord_49 mT_J0_charAt_5068e ml_X11_149 ⟨by decide, by decide, rfl, rfl, rfl⟩ (by decide) rfl rfl (Nat.le_of_ble_eq_true rfl) (by decide) c_chr_1_5 ?_
                rintro r w' ⟨rfl, rfl⟩
                refine ab_icmpeq 57 dX11_isWord_52 (by decide) (fun h_14 => ?_) (fun h_14 => ?_)
                · refine ab_iinc (v := 6) (la' := [(2, .int 6), (0, .ref 1000), (1, .ref 3001)]) dX11_isWord_57 rfl (by decide) (by decide) rfl ?_
                  refine ab_goto 28 dX11_isWord_60 (by decide) ?_
                  refine ab_iload_n dX11_isWord_28 rfl ?_
                  refine ab_aload_n dX11_isWord_29 rfl ?_
                  refine ab_callT (j := 1) (As := []) (rest := [.int 6]) dX11_isWord_30 mT_J0_length_8abf5 ml_X11_143 ⟨by decide, by decide, rfl, rfl, rfl⟩ (by decide) rfl rfl (Nat.le_of_ble_eq_true rfl) (by decide) c_slen_1 ?_
                  rintro r w' ⟨rfl, rfl⟩
                  refine ab_icmpge 63 dX11_isWord_33 (by decide) (fun h_15 => ?_) (fun h_15 => absurd (by decide) h_15)
                  refine ab_iconst (v := 1) dX11_isWord_63 (by decide) ?_
                  exact ab_zret dX11_isWord_64 rfl rfl (by decide) (Or.inl (⟨wdm_1.mpr ⟨h_1, by omega, (nI_c (c := 116) (h_v _ (by omega)).1 (by decide)).mp h_4, (nI_c (c := 114) (h_v _ (by omega)).1 (by decide)).mp h_6, (nI_c (c := 97) (h_v _ (by omega)).1 (by decide)).mp h_8, (nI_c (c := 99) (h_v _ (by omega)).1 (by decide)).mp h_10, (nI_c (c := 101) (h_v _ (by omega)).1 (by decide)).mp h_12, (nI_c (c := 114) (h_v _ (by omega)).1 (by decide)).mp h_14⟩, rfl, rfl⟩))
                · refine ab_iconst (v := 0) dX11_isWord_55 (by decide) ?_
                  exact ab_zret dX11_isWord_56 rfl rfl (by decide) (Or.inr (⟨fun z => h_14 ((nI_c (c := 114) (h_v _ (by omega)).1 (by decide)).mpr (wdm_1.mp z).2.2.2.2.2.2.2), rfl, rfl⟩))
              · refine ab_iconst (v := 0) dX11_isWord_55 (by decide) ?_
                exact ab_zret dX11_isWord_56 rfl rfl (by decide) (Or.inr (⟨fun z => h_12 ((nI_c (c := 101) (h_v _ (by omega)).1 (by decide)).mpr (wdm_1.mp z).2.2.2.2.2.2.1), rfl, rfl⟩))
            · refine ab_iconst (v := 0) dX11_isWord_55 (by decide) ?_
              exact ab_zret dX11_isWord_56 rfl rfl (by decide) (Or.inr (⟨fun z => h_10 ((nI_c (c := 99) (h_v _ (by omega)).1 (by decide)).mpr (wdm_1.mp z).2.2.2.2.2.1), rfl, rfl⟩))
          · refine ab_iconst (v := 0) dX11_isWord_55 (by decide) ?_
            exact ab_zret dX11_isWord_56 rfl rfl (by decide) (Or.inr (⟨fun z => h_8 ((nI_c (c := 97) (h_v _ (by omega)).1 (by decide)).mpr (wdm_1.mp z).2.2.2.2.1), rfl, rfl⟩))
        · refine ab_iconst (v := 0) dX11_isWord_55 (by decide) ?_
          exact ab_zret dX11_isWord_56 rfl rfl (by decide) (Or.inr (⟨fun z => h_6 ((nI_c (c := 114) (h_v _ (by omega)).1 (by decide)).mpr (wdm_1.mp z).2.2.2.1), rfl, rfl⟩))
      · refine ab_iconst (v := 0) dX11_isWord_55 (by decide) ?_
        exact ab_zret dX11_isWord_56 rfl rfl (by decide) (Or.inr (⟨fun z => h_4 ((nI_c (c := 116) (h_v _ (by omega)).1 (by decide)).mpr (wdm_1.mp z).2.2.1), rfl, rfl⟩))
    · have h_2n : ¬ _ := fun z => h_2 ((nI_eq (a := ((tE u n (sk u n p)) - (sk u n p))) (b := 6) (by omega) (by omega)).mpr z)
      refine ab_iconst (v := 0) dX11_isWord_24 (by decide) ?_
      exact ab_zret dX11_isWord_25 rfl rfl (by decide) (Or.inr (⟨fun z => absurd (wdm_1.mp z).2.1 (by omega), rfl, rfl⟩))
theorem c_X11_isWord_2 {wc : List ax_E} {m_thrown m_trouble m_fault m_where m_taped m_linkMany m_tracerMany m_pointMany m_pairMany m_readLinks m_readTracers m_readPoints m_readPairs gw m_readFault m_readPlace m_value m_curveMany m_cornerMany m_straightAt m_walkLink m_walkAngle m_walkBranch m_walkMany m_lined m_actMany : Int32} {m_n m_c m_d m_s m_e m_k m_x m_y m_g m_a m_fitUp m_fitDown m_worstUp m_worstDown : Int64} {z1 z2 z4 z5 z6 z7 z8 z9 z10 z11 z12 z13 z14 z15 z16 z17 z18 z19 z20 : ax_E} {q3 : Nat → Int32} {u : Nat → Nat} {n p : Nat} (h_n : n ≤ 700) (h_v : ∀ k, k < n → u k < 256 ∧ q3 k = nI (u k)) (h_p : p ≤ n) (h_t : sk u n p ≤ tE u n (sk u n p) ∧ tE u n (sk u n p) ≤ n) : Ct M_X11_isWord [.ref 1000, .ref 3002] (wc, [ob 9 [.int m_thrown, .int m_trouble, .int m_fault, .int m_where, .ref 1001, .ref 1002, .int 40, .ref 1003, .int m_taped, .int m_linkMany, .int m_tracerMany, .int m_pointMany, .int m_pairMany, .ref 1004, .ref 1005, .ref 1006, .ref 1007, .int m_readLinks, .int m_readTracers, .int m_readPoints, .int m_readPairs, .ref 1008, .ref 1009, .ref 1010, .ref 1011, .int (nI n), .int (nI (sk u n p)), .int (nI (tE u n (sk u n p))), .int (tk u n (sk u n p)), .int gw, .int m_readFault, .int m_readPlace, .int m_value, .long m_n, .long m_c, .long m_d, .long m_s, .long m_e, .long m_k, .long m_x, .long m_y, .long m_g, .long m_a, .ref 1012, .ref 1013, .ref 1014, .int m_curveMany, .ref 1015, .int m_cornerMany, .int m_straightAt, .ref 1016, .long m_fitUp, .long m_fitDown, .long m_worstUp, .long m_worstDown, .ref 1017, .int m_walkLink, .int m_walkAngle, .int m_walkBranch, .int m_walkMany, .ref 1018, .ref 1019, .int m_lined, .ref 1020, .int m_actMany], z1, z2, ia 700 q3, z4, z5, z6, z7, z8, z9, z10, z11, z12, z13, z14, z15, z16, z17, z18, z19, z20]) (fun r w' => ((wd_2 u n (sk u n p)) ∧ r = some (.int 1) ∧ w' = (wc, [ob 9 [.int m_thrown, .int m_trouble, .int m_fault, .int m_where, .ref 1001, .ref 1002, .int 40, .ref 1003, .int m_taped, .int m_linkMany, .int m_tracerMany, .int m_pointMany, .int m_pairMany, .ref 1004, .ref 1005, .ref 1006, .ref 1007, .int m_readLinks, .int m_readTracers, .int m_readPoints, .int m_readPairs, .ref 1008, .ref 1009, .ref 1010, .ref 1011, .int (nI n), .int (nI (sk u n p)), .int (nI (tE u n (sk u n p))), .int (tk u n (sk u n p)), .int gw, .int m_readFault, .int m_readPlace, .int m_value, .long m_n, .long m_c, .long m_d, .long m_s, .long m_e, .long m_k, .long m_x, .long m_y, .long m_g, .long m_a, .ref 1012, .ref 1013, .ref 1014, .int m_curveMany, .ref 1015, .int m_cornerMany, .int m_straightAt, .ref 1016, .long m_fitUp, .long m_fitDown, .long m_worstUp, .long m_worstDown, .ref 1017, .int m_walkLink, .int m_walkAngle, .int m_walkBranch, .int m_walkMany, .ref 1018, .ref 1019, .int m_lined, .ref 1020, .int m_actMany], z1, z2, ia 700 q3, z4, z5, z6, z7, z8, z9, z10, z11, z12, z13, z14, z15, z16, z17, z18, z19, z20])) ∨ ((¬ wd_2 u n (sk u n p)) ∧ r = some (.int 0) ∧ w' = (wc, [ob 9 [.int m_thrown, .int m_trouble, .int m_fault, .int m_where, .ref 1001, .ref 1002, .int 40, .ref 1003, .int m_taped, .int m_linkMany, .int m_tracerMany, .int m_pointMany, .int m_pairMany, .ref 1004, .ref 1005, .ref 1006, .ref 1007, .int m_readLinks, .int m_readTracers, .int m_readPoints, .int m_readPairs, .ref 1008, .ref 1009, .ref 1010, .ref 1011, .int (nI n), .int (nI (sk u n p)), .int (nI (tE u n (sk u n p))), .int (tk u n (sk u n p)), .int gw, .int m_readFault, .int m_readPlace, .int m_value, .long m_n, .long m_c, .long m_d, .long m_s, .long m_e, .long m_k, .long m_x, .long m_y, .long m_g, .long m_a, .ref 1012, .ref 1013, .ref 1014, .int m_curveMany, .ref 1015, .int m_cornerMany, .int m_straightAt, .ref 1016, .long m_fitUp, .long m_fitDown, .long m_worstUp, .long m_worstDown, .ref 1017, .int m_walkLink, .int m_walkAngle, .int m_walkBranch, .int m_walkMany, .ref 1018, .ref 1019, .int m_lined, .ref 1020, .int m_actMany], z1, z2, ia 700 q3, z4, z5, z6, z7, z8, z9, z10, z11, z12, z13, z14, z15, z16, z17, z18, z19, z20]))) := by
  refine ct_of ⟨by decide, rfl⟩ (Nat.le_of_ble_eq_true rfl) ?_
  refine ab_aload_n dX11_isWord_0 rfl ?_
  refine ab_getf dX11_isWord_1 fl_X11_137 rfl rfl ?_
  refine ab_iconst (v := 2) dX11_isWord_4 (by decide) ?_
  refine ab_icmpne 24 dX11_isWord_5 (by decide) (fun h_1 => ?_) (fun h_1 => ?_)
  · refine ab_iconst (v := 0) dX11_isWord_24 (by decide) ?_
    exact ab_zret dX11_isWord_25 rfl rfl (by decide) (Or.inr (⟨fun z => h_1 (wdm_2.mp z).1, rfl, rfl⟩))
  · refine ab_aload_n dX11_isWord_8 rfl ?_
    refine ab_getf dX11_isWord_9 fl_X11_128 rfl rfl ?_
    refine ab_aload_n dX11_isWord_12 rfl ?_
    refine ab_getf dX11_isWord_13 fl_X11_134 rfl rfl ?_
    refine ab_isub dX11_isWord_16 ?_
    refine ab_topi (v := (nI ((tE u n (sk u n p)) - (sk u n p)))) (pk_sub (by omega)) ?_
    refine ab_aload_n dX11_isWord_17 rfl ?_
    refine ab_callT (j := 2) (As := []) (rest := [.int (nI ((tE u n (sk u n p)) - (sk u n p)))]) dX11_isWord_18 mT_J0_length_8abf5 ml_X11_143 ⟨by decide, by decide, rfl, rfl, rfl⟩ (by decide) rfl rfl (Nat.le_of_ble_eq_true rfl) (by decide) c_slen_2 ?_
    rintro r w' ⟨rfl, rfl⟩
    refine ab_icmpeq 26 dX11_isWord_21 (by decide) (fun h_2 => ?_) (fun h_2 => ?_)
    · have h_2n := (nI_eq (a := ((tE u n (sk u n p)) - (sk u n p))) (b := 5) (by omega) (by omega)).mp h_2
      refine ab_iconst (v := 0) dX11_isWord_26 (by decide) ?_
      refine ab_istore_n (la' := [(2, .int 0), (0, .ref 1000), (1, .ref 3002)]) dX11_isWord_27 (by decide) rfl ?_
      refine ab_iload_n dX11_isWord_28 rfl ?_
      refine ab_aload_n dX11_isWord_29 rfl ?_
      refine ab_callT (j := 2) (As := []) (rest := [.int 0]) dX11_isWord_30 mT_J0_length_8abf5 ml_X11_143 ⟨by decide, by decide, rfl, rfl, rfl⟩ (by decide) rfl rfl (Nat.le_of_ble_eq_true rfl) (by decide) c_slen_2 ?_
      rintro r w' ⟨rfl, rfl⟩
      refine ab_icmpge 63 dX11_isWord_33 (by decide) (fun h_3 => absurd h_3 (by decide)) (fun h_3 => ?_)
      refine ab_aload_n dX11_isWord_36 rfl ?_
      refine ab_getf dX11_isWord_37 fl_X11_39 rfl rfl ?_
      refine ab_aload_n dX11_isWord_40 rfl ?_
      refine ab_getf dX11_isWord_41 fl_X11_134 rfl rfl ?_
      refine ab_iload_n dX11_isWord_44 rfl ?_
      refine ab_iadd dX11_isWord_45 ?_
      refine ab_topi (v := (nI (sk u n p))) (Int32.add_zero _) ?_
      refine ab_iald (j := (sk u n p)) dX11_isWord_46 rfl (ix_nI (by omega) (by decide)) ?_
      refine ab_topi (v := (nI (u ((sk u n p) + 0)))) (h_v (sk u n p) (by omega)).2 ?_
      refine ab_aload_n dX11_isWord_47 rfl ?_
      refine ab_iload_n dX11_isWord_48 rfl ?_
      refine ab_callT (j := 2) (As := [.int 0]) (rest := [.int (nI (u ((sk u n p) + 0)))]) dX11_isWord_49 mT_J0_charAt_5068e ml_X11_149 ⟨by decide, by decide, rfl, rfl, rfl⟩ (by decide) rfl rfl (Nat.le_of_ble_eq_true rfl) (by decide) c_chr_2_0 ?_
      rintro r w' ⟨rfl, rfl⟩
      refine ab_icmpeq 57 dX11_isWord_52 (by decide) (fun h_4 => ?_) (fun h_4 => ?_)
      · refine ab_iinc (v := 1) (la' := [(2, .int 1), (0, .ref 1000), (1, .ref 3002)]) dX11_isWord_57 rfl (by decide) (by decide) rfl ?_
        refine ab_goto 28 dX11_isWord_60 (by decide) ?_
        refine ab_iload_n dX11_isWord_28 rfl ?_
        refine ab_aload_n dX11_isWord_29 rfl ?_
        refine ab_callT (j := 2) (As := []) (rest := [.int 1]) dX11_isWord_30 mT_J0_length_8abf5 ml_X11_143 ⟨by decide, by decide, rfl, rfl, rfl⟩ (by decide) rfl rfl (Nat.le_of_ble_eq_true rfl) (by decide) c_slen_2 ?_
        rintro r w' ⟨rfl, rfl⟩
        refine ab_icmpge 63 dX11_isWord_33 (by decide) (fun h_5 => absurd h_5 (by decide)) (fun h_5 => ?_)
        refine ab_aload_n dX11_isWord_36 rfl ?_
        refine ab_getf dX11_isWord_37 fl_X11_39 rfl rfl ?_
        refine ab_aload_n dX11_isWord_40 rfl ?_
        refine ab_getf dX11_isWord_41 fl_X11_134 rfl rfl ?_
        refine ab_iload_n dX11_isWord_44 rfl ?_
        refine ab_iadd dX11_isWord_45 ?_
        refine ab_topi (v := (nI ((sk u n p) + 1))) (nI_1 _) ?_
        refine ab_iald (j := ((sk u n p) + 1)) dX11_isWord_46 rfl (ix_nI (by omega) (by decide)) ?_
        refine ab_topi (v := (nI (u ((sk u n p) + 1)))) (h_v ((sk u n p) + 1) (by omega)).2 ?_
        refine ab_aload_n dX11_isWord_47 rfl ?_
        refine ab_iload_n dX11_isWord_48 rfl ?_
        refine ab_callT (j := 2) (As := [.int 1]) (rest := [.int (nI (u ((sk u n p) + 1)))]) dX11_isWord_49 mT_J0_charAt_5068e ml_X11_149 ⟨by decide, by decide, rfl, rfl, rfl⟩ (by decide) rfl rfl (Nat.le_of_ble_eq_true rfl) (by decide) c_chr_2_1 ?_
        rintro r w' ⟨rfl, rfl⟩
        refine ab_icmpeq 57 dX11_isWord_52 (by decide) (fun h_6 => ?_) (fun h_6 => ?_)
        · refine ab_iinc (v := 2) (la' := [(2, .int 2), (0, .ref 1000), (1, .ref 3002)]) dX11_isWord_57 rfl (by decide) (by decide) rfl ?_
          refine ab_goto 28 dX11_isWord_60 (by decide) ?_
          refine ab_iload_n dX11_isWord_28 rfl ?_
          refine ab_aload_n dX11_isWord_29 rfl ?_
          refine ab_callT (j := 2) (As := []) (rest := [.int 2]) dX11_isWord_30 mT_J0_length_8abf5 ml_X11_143 ⟨by decide, by decide, rfl, rfl, rfl⟩ (by decide) rfl rfl (Nat.le_of_ble_eq_true rfl) (by decide) c_slen_2 ?_
          rintro r w' ⟨rfl, rfl⟩
          refine ab_icmpge 63 dX11_isWord_33 (by decide) (fun h_7 => absurd h_7 (by decide)) (fun h_7 => ?_)
          refine ab_aload_n dX11_isWord_36 rfl ?_
          refine ab_getf dX11_isWord_37 fl_X11_39 rfl rfl ?_
          refine ab_aload_n dX11_isWord_40 rfl ?_
          refine ab_getf dX11_isWord_41 fl_X11_134 rfl rfl ?_
          refine ab_iload_n dX11_isWord_44 rfl ?_
          refine ab_iadd dX11_isWord_45 ?_
          refine ab_topi (v := (nI ((sk u n p) + 2))) (nI_add _ 2) ?_
          refine ab_iald (j := ((sk u n p) + 2)) dX11_isWord_46 rfl (ix_nI (by omega) (by decide)) ?_
          refine ab_topi (v := (nI (u ((sk u n p) + 2)))) (h_v ((sk u n p) + 2) (by omega)).2 ?_
          refine ab_aload_n dX11_isWord_47 rfl ?_
          refine ab_iload_n dX11_isWord_48 rfl ?_
          refine ab_callT (j := 2) (As := [.int 2]) (rest := [.int (nI (u ((sk u n p) + 2)))]) dX11_isWord_49 mT_J0_charAt_5068e ml_X11_149 ⟨by decide, by decide, rfl, rfl, rfl⟩ (by decide) rfl rfl (Nat.le_of_ble_eq_true rfl) (by decide) c_chr_2_2 ?_
          rintro r w' ⟨rfl, rfl⟩
          refine ab_icmpeq 57 dX11_isWord_52 (by decide) (fun h_8 => ?_) (fun h_8 => ?_)
          · refine ab_iinc (v := 3) (la' := [(2, .int 3), (0, .ref 1000), (1, .ref 3002)]) dX11_isWord_57 rfl (by decide) (by decide) rfl ?_
            refine ab_goto 28 dX11_isWord_60 (by decide) ?_
            refine ab_iload_n dX11_isWord_28 rfl ?_
            refine ab_aload_n dX11_isWord_29 rfl ?_
            refine ab_callT (j := 2) (As := []) (rest := [.int 3]) dX11_isWord_30 mT_J0_length_8abf5 ml_X11_143 ⟨by decide, by decide, rfl, rfl, rfl⟩ (by decide) rfl rfl (Nat.le_of_ble_eq_true rfl) (by decide) c_slen_2 ?_
            rintro r w' ⟨rfl, rfl⟩
            refine ab_icmpge 63 dX11_isWord_33 (by decide) (fun h_9 => absurd h_9 (by decide)) (fun h_9 => ?_)
            refine ab_aload_n dX11_isWord_36 rfl ?_
            refine ab_getf dX11_isWord_37 fl_X11_39 rfl rfl ?_
            refine ab_aload_n dX11_isWord_40 rfl ?_
            refine ab_getf dX11_isWord_41 fl_X11_134 rfl rfl ?_
            refine ab_iload_n dX11_isWord_44 rfl ?_
            refine ab_iadd dX11_isWord_45 ?_
            refine ab_topi (v := (nI ((sk u n p) + 3))) (nI_add _ 3) ?_
            refine ab_iald (j := ((sk u n p) + 3)) dX11_isWord_46 rfl (ix_nI (by omega) (by decide)) ?_
            refine ab_topi (v := (nI (u ((sk u n p) + 3)))) (h_v ((sk u n p) + 3) (by omega)).2 ?_
            refine ab_aload_n dX11_isWord_47 rfl ?_
            refine ab_iload_n dX11_isWord_48 rfl ?_
            refine ab_callT (j := 2) (As := [.int 3]) (rest := [.int (nI (u ((sk u n p) + 3)))]) dX11_isWord_49 mT_J0_charAt_5068e ml_X11_149 ⟨by decide, by decide, rfl, rfl, rfl⟩ (by decide) rfl rfl (Nat.le_of_ble_eq_true rfl) (by decide) c_chr_2_3 ?_
            rintro r w' ⟨rfl, rfl⟩
            refine ab_icmpeq 57 dX11_isWord_52 (by decide) (fun h_10 => ?_) (fun h_10 => ?_)
            · refine ab_iinc (v := 4) (la' := [(2, .int 4), (0, .ref 1000), (1, .ref 3002)]) dX11_isWord_57 rfl (by decide) (by decide) rfl ?_
              refine ab_goto 28 dX11_isWord_60 (by decide) ?_
              refine ab_iload_n dX11_isWord_28 rfl ?_
              refine ab_aload_n dX11_isWord_29 rfl ?_
              refine ab_callT (j := 2) (As := []) (rest := [.int 4]) dX11_isWord_30 mT_J0_length_8abf5 ml_X11_143 ⟨by decide, by decide, rfl, rfl, rfl⟩ (by decide) rfl rfl (Nat.le_of_ble_eq_true rfl) (by decide) c_slen_2 ?_
              rintro r w' ⟨rfl, rfl⟩
              refine ab_icmpge 63 dX11_isWord_33 (by decide) (fun h_11 => absurd h_11 (by decide)) (fun h_11 => ?_)
              refine ab_aload_n dX11_isWord_36 rfl ?_
              refine ab_getf dX11_isWord_37 fl_X11_39 rfl rfl ?_
              refine ab_aload_n dX11_isWord_40 rfl ?_
              refine ab_getf dX11_isWord_41 fl_X11_134 rfl rfl ?_
              refine ab_iload_n dX11_isWord_44 rfl ?_
              refine ab_iadd dX11_isWord_45 ?_
              refine ab_topi (v := (nI ((sk u n p) + 4))) (nI_add _ 4) ?_
              refine ab_iald (j := ((sk u n p) + 4)) dX11_isWord_46 rfl (ix_nI (by omega) (by decide)) ?_
              refine ab_topi (v := (nI (u ((sk u n p) + 4)))) (h_v ((sk u n p) + 4) (by omega)).2 ?_
              refine ab_aload_n dX11_isWord_47 rfl ?_
              refine ab_iload_n dX11_isWord_48 rfl ?_
              refine ab_callT (j := 2) (As := [.int 4]) (rest := [.int (nI (u ((sk u n p) + 4)))]) dX11_isWord_49 mT_J0_charAt_5068e ml_X11_149 ⟨by decide, by decide, rfl, rfl, rfl⟩ (by decide) rfl rfl (Nat.le_of_ble_eq_true rfl) (by decide) c_chr_2_4 ?_
              rintro r w' ⟨rfl, rfl⟩
              refine ab_icmpeq 57 dX11_isWord_52 (by decide) (fun h_12 => ?_) (fun h_12 => ?_)
              · refine ab_iinc (v := 5) (la' := [(2, .int 5), (0, .ref 1000), (1, .ref 3002)]) dX11_isWord_57 rfl (by decide) (by decide) rfl ?_
                refine ab_goto 28 dX11_isWord_60 (by decide) ?_
                refine ab_iload_n dX11_isWord_28 rfl ?_
                refine ab_aload_n dX11_isWord_29 rfl ?_
                refine ab_callT (j := 2) (As := []) (rest := [.int 5]) dX11_isWord_30 mT_J0_length_8abf5 ml_X11_143 ⟨by decide, by decide, rfl, rfl, rfl⟩ (by decide) rfl rfl (Nat.le_of_ble_eq_true rfl) (by decide) c_slen_2 ?_
                rintro r w' ⟨rfl, rfl⟩
                refine ab_icmpge 63 dX11_isWord_33 (by decide) (fun h_13 => ?_) (fun h_13 => absurd (by decide) h_13)
                refine ab_iconst (v := 1) dX11_isWord_63 (by decide) ?_
                exact ab_zret dX11_isWord_64 rfl rfl (by decide) (Or.inl (⟨wdm_2.mpr ⟨h_1, by omega, (nI_c (c := 112) (h_v _ (by omega)).1 (by decide)).mp h_4, (nI_c (c := 111) (h_v _ (by omega)).1 (by decide)).mp h_6, (nI_c (c := 105) (h_v _ (by omega)).1 (by decide)).mp h_8, (nI_c (c := 110) (h_v _ (by omega)).1 (by decide)).mp h_10, (nI_c (c := 116) (h_v _ (by omega)).1 (by decide)).mp h_12⟩, rfl, rfl⟩))
              · refine ab_iconst (v := 0) dX11_isWord_55 (by decide) ?_
                exact ab_zret dX11_isWord_56 rfl rfl (by decide) (Or.inr (⟨fun z => h_12 ((nI_c (c := 116) (h_v _ (by omega)).1 (by decide)).mpr (wdm_2.mp z).2.2.2.2.2.2), rfl, rfl⟩))
            · refine ab_iconst (v := 0) dX11_isWord_55 (by decide) ?_
              exact ab_zret dX11_isWord_56 rfl rfl (by decide) (Or.inr (⟨fun z => h_10 ((nI_c (c := 110) (h_v _ (by omega)).1 (by decide)).mpr (wdm_2.mp z).2.2.2.2.2.1), rfl, rfl⟩))
          · refine ab_iconst (v := 0) dX11_isWord_55 (by decide) ?_
            exact ab_zret dX11_isWord_56 rfl rfl (by decide) (Or.inr (⟨fun z => h_8 ((nI_c (c := 105) (h_v _ (by omega)).1 (by decide)).mpr (wdm_2.mp z).2.2.2.2.1), rfl, rfl⟩))
        · refine ab_iconst (v := 0) dX11_isWord_55 (by decide) ?_
          exact ab_zret dX11_isWord_56 rfl rfl (by decide) (Or.inr (⟨fun z => h_6 ((nI_c (c := 111) (h_v _ (by omega)).1 (by decide)).mpr (wdm_2.mp z).2.2.2.1), rfl, rfl⟩))
      · refine ab_iconst (v := 0) dX11_isWord_55 (by decide) ?_
        exact ab_zret dX11_isWord_56 rfl rfl (by decide) (Or.inr (⟨fun z => h_4 ((nI_c (c := 112) (h_v _ (by omega)).1 (by decide)).mpr (wdm_2.mp z).2.2.1), rfl, rfl⟩))
    · have h_2n : ¬ _ := fun z => h_2 ((nI_eq (a := ((tE u n (sk u n p)) - (sk u n p))) (b := 5) (by omega) (by omega)).mpr z)
      refine ab_iconst (v := 0) dX11_isWord_24 (by decide) ?_
      exact ab_zret dX11_isWord_25 rfl rfl (by decide) (Or.inr (⟨fun z => absurd (wdm_2.mp z).2.1 (by omega), rfl, rfl⟩))
theorem c_X11_isWord_3 {wc : List ax_E} {m_thrown m_trouble m_fault m_where m_taped m_linkMany m_tracerMany m_pointMany m_pairMany m_readLinks m_readTracers m_readPoints m_readPairs gw m_readFault m_readPlace m_value m_curveMany m_cornerMany m_straightAt m_walkLink m_walkAngle m_walkBranch m_walkMany m_lined m_actMany : Int32} {m_n m_c m_d m_s m_e m_k m_x m_y m_g m_a m_fitUp m_fitDown m_worstUp m_worstDown : Int64} {z1 z2 z4 z5 z6 z7 z8 z9 z10 z11 z12 z13 z14 z15 z16 z17 z18 z19 z20 : ax_E} {q3 : Nat → Int32} {u : Nat → Nat} {n p : Nat} (h_n : n ≤ 700) (h_v : ∀ k, k < n → u k < 256 ∧ q3 k = nI (u k)) (h_p : p ≤ n) (h_t : sk u n p ≤ tE u n (sk u n p) ∧ tE u n (sk u n p) ≤ n) : Ct M_X11_isWord [.ref 1000, .ref 3003] (wc, [ob 9 [.int m_thrown, .int m_trouble, .int m_fault, .int m_where, .ref 1001, .ref 1002, .int 40, .ref 1003, .int m_taped, .int m_linkMany, .int m_tracerMany, .int m_pointMany, .int m_pairMany, .ref 1004, .ref 1005, .ref 1006, .ref 1007, .int m_readLinks, .int m_readTracers, .int m_readPoints, .int m_readPairs, .ref 1008, .ref 1009, .ref 1010, .ref 1011, .int (nI n), .int (nI (sk u n p)), .int (nI (tE u n (sk u n p))), .int (tk u n (sk u n p)), .int gw, .int m_readFault, .int m_readPlace, .int m_value, .long m_n, .long m_c, .long m_d, .long m_s, .long m_e, .long m_k, .long m_x, .long m_y, .long m_g, .long m_a, .ref 1012, .ref 1013, .ref 1014, .int m_curveMany, .ref 1015, .int m_cornerMany, .int m_straightAt, .ref 1016, .long m_fitUp, .long m_fitDown, .long m_worstUp, .long m_worstDown, .ref 1017, .int m_walkLink, .int m_walkAngle, .int m_walkBranch, .int m_walkMany, .ref 1018, .ref 1019, .int m_lined, .ref 1020, .int m_actMany], z1, z2, ia 700 q3, z4, z5, z6, z7, z8, z9, z10, z11, z12, z13, z14, z15, z16, z17, z18, z19, z20]) (fun r w' => ((wd_3 u n (sk u n p)) ∧ r = some (.int 1) ∧ w' = (wc, [ob 9 [.int m_thrown, .int m_trouble, .int m_fault, .int m_where, .ref 1001, .ref 1002, .int 40, .ref 1003, .int m_taped, .int m_linkMany, .int m_tracerMany, .int m_pointMany, .int m_pairMany, .ref 1004, .ref 1005, .ref 1006, .ref 1007, .int m_readLinks, .int m_readTracers, .int m_readPoints, .int m_readPairs, .ref 1008, .ref 1009, .ref 1010, .ref 1011, .int (nI n), .int (nI (sk u n p)), .int (nI (tE u n (sk u n p))), .int (tk u n (sk u n p)), .int gw, .int m_readFault, .int m_readPlace, .int m_value, .long m_n, .long m_c, .long m_d, .long m_s, .long m_e, .long m_k, .long m_x, .long m_y, .long m_g, .long m_a, .ref 1012, .ref 1013, .ref 1014, .int m_curveMany, .ref 1015, .int m_cornerMany, .int m_straightAt, .ref 1016, .long m_fitUp, .long m_fitDown, .long m_worstUp, .long m_worstDown, .ref 1017, .int m_walkLink, .int m_walkAngle, .int m_walkBranch, .int m_walkMany, .ref 1018, .ref 1019, .int m_lined, .ref 1020, .int m_actMany], z1, z2, ia 700 q3, z4, z5, z6, z7, z8, z9, z10, z11, z12, z13, z14, z15, z16, z17, z18, z19, z20])) ∨ ((¬ wd_3 u n (sk u n p)) ∧ r = some (.int 0) ∧ w' = (wc, [ob 9 [.int m_thrown, .int m_trouble, .int m_fault, .int m_where, .ref 1001, .ref 1002, .int 40, .ref 1003, .int m_taped, .int m_linkMany, .int m_tracerMany, .int m_pointMany, .int m_pairMany, .ref 1004, .ref 1005, .ref 1006, .ref 1007, .int m_readLinks, .int m_readTracers, .int m_readPoints, .int m_readPairs, .ref 1008, .ref 1009, .ref 1010, .ref 1011, .int (nI n), .int (nI (sk u n p)), .int (nI (tE u n (sk u n p))), .int (tk u n (sk u n p)), .int gw, .int m_readFault, .int m_readPlace, .int m_value, .long m_n, .long m_c, .long m_d, .long m_s, .long m_e, .long m_k, .long m_x, .long m_y, .long m_g, .long m_a, .ref 1012, .ref 1013, .ref 1014, .int m_curveMany, .ref 1015, .int m_cornerMany, .int m_straightAt, .ref 1016, .long m_fitUp, .long m_fitDown, .long m_worstUp, .long m_worstDown, .ref 1017, .int m_walkLink, .int m_walkAngle, .int m_walkBranch, .int m_walkMany, .ref 1018, .ref 1019, .int m_lined, .ref 1020, .int m_actMany], z1, z2, ia 700 q3, z4, z5, z6, z7, z8, z9, z10, z11, z12, z13, z14, z15, z16, z17, z18, z19, z20]))) := by
  refine ct_of ⟨by decide, rfl⟩ (Nat.le_of_ble_eq_true rfl) ?_
  refine ab_aload_n dX11_isWord_0 rfl ?_
  refine ab_getf dX11_isWord_1 fl_X11_137 rfl rfl ?_
  refine ab_iconst (v := 2) dX11_isWord_4 (by decide) ?_
  refine ab_icmpne 24 dX11_isWord_5 (by decide) (fun h_1 => ?_) (fun h_1 => ?_)
  · refine ab_iconst (v := 0) dX11_isWord_24 (by decide) ?_
    exact ab_zret dX11_isWord_25 rfl rfl (by decide) (Or.inr (⟨fun z => h_1 (wdm_3.mp z).1, rfl, rfl⟩))
  · refine ab_aload_n dX11_isWord_8 rfl ?_
    refine ab_getf dX11_isWord_9 fl_X11_128 rfl rfl ?_
    refine ab_aload_n dX11_isWord_12 rfl ?_
    refine ab_getf dX11_isWord_13 fl_X11_134 rfl rfl ?_
    refine ab_isub dX11_isWord_16 ?_
    refine ab_topi (v := (nI ((tE u n (sk u n p)) - (sk u n p)))) (pk_sub (by omega)) ?_
    refine ab_aload_n dX11_isWord_17 rfl ?_
    refine ab_callT (j := 3) (As := []) (rest := [.int (nI ((tE u n (sk u n p)) - (sk u n p)))]) dX11_isWord_18 mT_J0_length_8abf5 ml_X11_143 ⟨by decide, by decide, rfl, rfl, rfl⟩ (by decide) rfl rfl (Nat.le_of_ble_eq_true rfl) (by decide) c_slen_3 ?_
    rintro r w' ⟨rfl, rfl⟩
    refine ab_icmpeq 26 dX11_isWord_21 (by decide) (fun h_2 => ?_) (fun h_2 => ?_)
    · have h_2n := (nI_eq (a := ((tE u n (sk u n p)) - (sk u n p))) (b := 4) (by omega) (by omega)).mp h_2
      refine ab_iconst (v := 0) dX11_isWord_26 (by decide) ?_
      refine ab_istore_n (la' := [(2, .int 0), (0, .ref 1000), (1, .ref 3003)]) dX11_isWord_27 (by decide) rfl ?_
      refine ab_iload_n dX11_isWord_28 rfl ?_
      refine ab_aload_n dX11_isWord_29 rfl ?_
      refine ab_callT (j := 3) (As := []) (rest := [.int 0]) dX11_isWord_30 mT_J0_length_8abf5 ml_X11_143 ⟨by decide, by decide, rfl, rfl, rfl⟩ (by decide) rfl rfl (Nat.le_of_ble_eq_true rfl) (by decide) c_slen_3 ?_
      rintro r w' ⟨rfl, rfl⟩
      refine ab_icmpge 63 dX11_isWord_33 (by decide) (fun h_3 => absurd h_3 (by decide)) (fun h_3 => ?_)
      refine ab_aload_n dX11_isWord_36 rfl ?_
      refine ab_getf dX11_isWord_37 fl_X11_39 rfl rfl ?_
      refine ab_aload_n dX11_isWord_40 rfl ?_
      refine ab_getf dX11_isWord_41 fl_X11_134 rfl rfl ?_
      refine ab_iload_n dX11_isWord_44 rfl ?_
      refine ab_iadd dX11_isWord_45 ?_
      refine ab_topi (v := (nI (sk u n p))) (Int32.add_zero _) ?_
      refine ab_iald (j := (sk u n p)) dX11_isWord_46 rfl (ix_nI (by omega) (by decide)) ?_
      refine ab_topi (v := (nI (u ((sk u n p) + 0)))) (h_v (sk u n p) (by omega)).2 ?_
      refine ab_aload_n dX11_isWord_47 rfl ?_
      refine ab_iload_n dX11_isWord_48 rfl ?_
      refine ab_callT (j := 3) (As := [.int 0]) (rest := [.int (nI (u ((sk u n p) + 0)))]) dX11_isWord_49 mT_J0_charAt_5068e ml_X11_149 ⟨by decide, by decide, rfl, rfl, rfl⟩ (by decide) rfl rfl (Nat.le_of_ble_eq_true rfl) (by decide) c_chr_3_0 ?_
      rintro r w' ⟨rfl, rfl⟩
      refine ab_icmpeq 57 dX11_isWord_52 (by decide) (fun h_4 => ?_) (fun h_4 => ?_)
      · refine ab_iinc (v := 1) (la' := [(2, .int 1), (0, .ref 1000), (1, .ref 3003)]) dX11_isWord_57 rfl (by decide) (by decide) rfl ?_
        refine ab_goto 28 dX11_isWord_60 (by decide) ?_
        refine ab_iload_n dX11_isWord_28 rfl ?_
        refine ab_aload_n dX11_isWord_29 rfl ?_
        refine ab_callT (j := 3) (As := []) (rest := [.int 1]) dX11_isWord_30 mT_J0_length_8abf5 ml_X11_143 ⟨by decide, by decide, rfl, rfl, rfl⟩ (by decide) rfl rfl (Nat.le_of_ble_eq_true rfl) (by decide) c_slen_3 ?_
        rintro r w' ⟨rfl, rfl⟩
        refine ab_icmpge 63 dX11_isWord_33 (by decide) (fun h_5 => absurd h_5 (by decide)) (fun h_5 => ?_)
        refine ab_aload_n dX11_isWord_36 rfl ?_
        refine ab_getf dX11_isWord_37 fl_X11_39 rfl rfl ?_
        refine ab_aload_n dX11_isWord_40 rfl ?_
        refine ab_getf dX11_isWord_41 fl_X11_134 rfl rfl ?_
        refine ab_iload_n dX11_isWord_44 rfl ?_
        refine ab_iadd dX11_isWord_45 ?_
        refine ab_topi (v := (nI ((sk u n p) + 1))) (nI_1 _) ?_
        refine ab_iald (j := ((sk u n p) + 1)) dX11_isWord_46 rfl (ix_nI (by omega) (by decide)) ?_
        refine ab_topi (v := (nI (u ((sk u n p) + 1)))) (h_v ((sk u n p) + 1) (by omega)).2 ?_
        refine ab_aload_n dX11_isWord_47 rfl ?_
        refine ab_iload_n dX11_isWord_48 rfl ?_
        refine ab_callT (j := 3) (As := [.int 1]) (rest := [.int (nI (u ((sk u n p) + 1)))]) dX11_isWord_49 mT_J0_charAt_5068e ml_X11_149 ⟨by decide, by decide, rfl, rfl, rfl⟩ (by decide) rfl rfl (Nat.le_of_ble_eq_true rfl) (by decide) c_chr_3_1 ?_
        rintro r w' ⟨rfl, rfl⟩
        refine ab_icmpeq 57 dX11_isWord_52 (by decide) (fun h_6 => ?_) (fun h_6 => ?_)
        · refine ab_iinc (v := 2) (la' := [(2, .int 2), (0, .ref 1000), (1, .ref 3003)]) dX11_isWord_57 rfl (by decide) (by decide) rfl ?_
          refine ab_goto 28 dX11_isWord_60 (by decide) ?_
          refine ab_iload_n dX11_isWord_28 rfl ?_
          refine ab_aload_n dX11_isWord_29 rfl ?_
          refine ab_callT (j := 3) (As := []) (rest := [.int 2]) dX11_isWord_30 mT_J0_length_8abf5 ml_X11_143 ⟨by decide, by decide, rfl, rfl, rfl⟩ (by decide) rfl rfl (Nat.le_of_ble_eq_true rfl) (by decide) c_slen_3 ?_
          rintro r w' ⟨rfl, rfl⟩
          refine ab_icmpge 63 dX11_isWord_33 (by decide) (fun h_7 => absurd h_7 (by decide)) (fun h_7 => ?_)
          refine ab_aload_n dX11_isWord_36 rfl ?_
          refine ab_getf dX11_isWord_37 fl_X11_39 rfl rfl ?_
          refine ab_aload_n dX11_isWord_40 rfl ?_
          refine ab_getf dX11_isWord_41 fl_X11_134 rfl rfl ?_
          refine ab_iload_n dX11_isWord_44 rfl ?_
          refine ab_iadd dX11_isWord_45 ?_
          refine ab_topi (v := (nI ((sk u n p) + 2))) (nI_add _ 2) ?_
          refine ab_iald (j := ((sk u n p) + 2)) dX11_isWord_46 rfl (ix_nI (by omega) (by decide)) ?_
          refine ab_topi (v := (nI (u ((sk u n p) + 2)))) (h_v ((sk u n p) + 2) (by omega)).2 ?_
          refine ab_aload_n dX11_isWord_47 rfl ?_
          refine ab_iload_n dX11_isWord_48 rfl ?_
          refine ab_callT (j := 3) (As := [.int 2]) (rest := [.int (nI (u ((sk u n p) + 2)))]) dX11_isWord_49 mT_J0_charAt_5068e ml_X11_149 ⟨by decide, by decide, rfl, rfl, rfl⟩ (by decide) rfl rfl (Nat.le_of_ble_eq_true rfl) (by decide) c_chr_3_2 ?_
          rintro r w' ⟨rfl, rfl⟩
          refine ab_icmpeq 57 dX11_isWord_52 (by decide) (fun h_8 => ?_) (fun h_8 => ?_)
          · refine ab_iinc (v := 3) (la' := [(2, .int 3), (0, .ref 1000), (1, .ref 3003)]) dX11_isWord_57 rfl (by decide) (by decide) rfl ?_
            refine ab_goto 28 dX11_isWord_60 (by decide) ?_
            refine ab_iload_n dX11_isWord_28 rfl ?_
            refine ab_aload_n dX11_isWord_29 rfl ?_
            refine ab_callT (j := 3) (As := []) (rest := [.int 3]) dX11_isWord_30 mT_J0_length_8abf5 ml_X11_143 ⟨by decide, by decide, rfl, rfl, rfl⟩ (by decide) rfl rfl (Nat.le_of_ble_eq_true rfl) (by decide) c_slen_3 ?_
            rintro r w' ⟨rfl, rfl⟩
            refine ab_icmpge 63 dX11_isWord_33 (by decide) (fun h_9 => absurd h_9 (by decide)) (fun h_9 => ?_)
            refine ab_aload_n dX11_isWord_36 rfl ?_
            refine ab_getf dX11_isWord_37 fl_X11_39 rfl rfl ?_
            refine ab_aload_n dX11_isWord_40 rfl ?_
            refine ab_getf dX11_isWord_41 fl_X11_134 rfl rfl ?_
            refine ab_iload_n dX11_isWord_44 rfl ?_
            refine ab_iadd dX11_isWord_45 ?_
            refine ab_topi (v := (nI ((sk u n p) + 3))) (nI_add _ 3) ?_
            refine ab_iald (j := ((sk u n p) + 3)) dX11_isWord_46 rfl (ix_nI (by omega) (by decide)) ?_
            refine ab_topi (v := (nI (u ((sk u n p) + 3)))) (h_v ((sk u n p) + 3) (by omega)).2 ?_
            refine ab_aload_n dX11_isWord_47 rfl ?_
            refine ab_iload_n dX11_isWord_48 rfl ?_
            refine ab_callT (j := 3) (As := [.int 3]) (rest := [.int (nI (u ((sk u n p) + 3)))]) dX11_isWord_49 mT_J0_charAt_5068e ml_X11_149 ⟨by decide, by decide, rfl, rfl, rfl⟩ (by decide) rfl rfl (Nat.le_of_ble_eq_true rfl) (by decide) c_chr_3_3 ?_
            rintro r w' ⟨rfl, rfl⟩
            refine ab_icmpeq 57 dX11_isWord_52 (by decide) (fun h_10 => ?_) (fun h_10 => ?_)
            · refine ab_iinc (v := 4) (la' := [(2, .int 4), (0, .ref 1000), (1, .ref 3003)]) dX11_isWord_57 rfl (by decide) (by decide) rfl ?_
              refine ab_goto 28 dX11_isWord_60 (by decide) ?_
              refine ab_iload_n dX11_isWord_28 rfl ?_
              refine ab_aload_n dX11_isWord_29 rfl ?_
              refine ab_callT (j := 3) (As := []) (rest := [.int 4]) dX11_isWord_30 mT_J0_length_8abf5 ml_X11_143 ⟨by decide, by decide, rfl, rfl, rfl⟩ (by decide) rfl rfl (Nat.le_of_ble_eq_true rfl) (by decide) c_slen_3 ?_
              rintro r w' ⟨rfl, rfl⟩
              refine ab_icmpge 63 dX11_isWord_33 (by decide) (fun h_11 => ?_) (fun h_11 => absurd (by decide) h_11)
              refine ab_iconst (v := 1) dX11_isWord_63 (by decide) ?_
              exact ab_zret dX11_isWord_64 rfl rfl (by decide) (Or.inl (⟨wdm_3.mpr ⟨h_1, by omega, (nI_c (c := 112) (h_v _ (by omega)).1 (by decide)).mp h_4, (nI_c (c := 97) (h_v _ (by omega)).1 (by decide)).mp h_6, (nI_c (c := 105) (h_v _ (by omega)).1 (by decide)).mp h_8, (nI_c (c := 114) (h_v _ (by omega)).1 (by decide)).mp h_10⟩, rfl, rfl⟩))
            · refine ab_iconst (v := 0) dX11_isWord_55 (by decide) ?_
              exact ab_zret dX11_isWord_56 rfl rfl (by decide) (Or.inr (⟨fun z => h_10 ((nI_c (c := 114) (h_v _ (by omega)).1 (by decide)).mpr (wdm_3.mp z).2.2.2.2.2), rfl, rfl⟩))
          · refine ab_iconst (v := 0) dX11_isWord_55 (by decide) ?_
            exact ab_zret dX11_isWord_56 rfl rfl (by decide) (Or.inr (⟨fun z => h_8 ((nI_c (c := 105) (h_v _ (by omega)).1 (by decide)).mpr (wdm_3.mp z).2.2.2.2.1), rfl, rfl⟩))
        · refine ab_iconst (v := 0) dX11_isWord_55 (by decide) ?_
          exact ab_zret dX11_isWord_56 rfl rfl (by decide) (Or.inr (⟨fun z => h_6 ((nI_c (c := 97) (h_v _ (by omega)).1 (by decide)).mpr (wdm_3.mp z).2.2.2.1), rfl, rfl⟩))
      · refine ab_iconst (v := 0) dX11_isWord_55 (by decide) ?_
        exact ab_zret dX11_isWord_56 rfl rfl (by decide) (Or.inr (⟨fun z => h_4 ((nI_c (c := 112) (h_v _ (by omega)).1 (by decide)).mpr (wdm_3.mp z).2.2.1), rfl, rfl⟩))
    · have h_2n : ¬ _ := fun z => h_2 ((nI_eq (a := ((tE u n (sk u n p)) - (sk u n p))) (b := 4) (by omega) (by omega)).mpr z)
      refine ab_iconst (v := 0) dX11_isWord_24 (by decide) ?_
      exact ab_zret dX11_isWord_25 rfl rfl (by decide) (Or.inr (⟨fun z => absurd (wdm_3.mp z).2.1 (by omega), rfl, rfl⟩))
theorem c_X11_isWord_4 {wc : List ax_E} {m_thrown m_trouble m_fault m_where m_taped m_linkMany m_tracerMany m_pointMany m_pairMany m_readLinks m_readTracers m_readPoints m_readPairs gw m_readFault m_readPlace m_value m_curveMany m_cornerMany m_straightAt m_walkLink m_walkAngle m_walkBranch m_walkMany m_lined m_actMany : Int32} {m_n m_c m_d m_s m_e m_k m_x m_y m_g m_a m_fitUp m_fitDown m_worstUp m_worstDown : Int64} {z1 z2 z4 z5 z6 z7 z8 z9 z10 z11 z12 z13 z14 z15 z16 z17 z18 z19 z20 : ax_E} {q3 : Nat → Int32} {u : Nat → Nat} {n p : Nat} (h_n : n ≤ 700) (h_v : ∀ k, k < n → u k < 256 ∧ q3 k = nI (u k)) (h_p : p ≤ n) (h_t : sk u n p ≤ tE u n (sk u n p) ∧ tE u n (sk u n p) ≤ n) : Ct M_X11_isWord [.ref 1000, .ref 3004] (wc, [ob 9 [.int m_thrown, .int m_trouble, .int m_fault, .int m_where, .ref 1001, .ref 1002, .int 40, .ref 1003, .int m_taped, .int m_linkMany, .int m_tracerMany, .int m_pointMany, .int m_pairMany, .ref 1004, .ref 1005, .ref 1006, .ref 1007, .int m_readLinks, .int m_readTracers, .int m_readPoints, .int m_readPairs, .ref 1008, .ref 1009, .ref 1010, .ref 1011, .int (nI n), .int (nI (sk u n p)), .int (nI (tE u n (sk u n p))), .int (tk u n (sk u n p)), .int gw, .int m_readFault, .int m_readPlace, .int m_value, .long m_n, .long m_c, .long m_d, .long m_s, .long m_e, .long m_k, .long m_x, .long m_y, .long m_g, .long m_a, .ref 1012, .ref 1013, .ref 1014, .int m_curveMany, .ref 1015, .int m_cornerMany, .int m_straightAt, .ref 1016, .long m_fitUp, .long m_fitDown, .long m_worstUp, .long m_worstDown, .ref 1017, .int m_walkLink, .int m_walkAngle, .int m_walkBranch, .int m_walkMany, .ref 1018, .ref 1019, .int m_lined, .ref 1020, .int m_actMany], z1, z2, ia 700 q3, z4, z5, z6, z7, z8, z9, z10, z11, z12, z13, z14, z15, z16, z17, z18, z19, z20]) (fun r w' => ((wd_4 u n (sk u n p)) ∧ r = some (.int 1) ∧ w' = (wc, [ob 9 [.int m_thrown, .int m_trouble, .int m_fault, .int m_where, .ref 1001, .ref 1002, .int 40, .ref 1003, .int m_taped, .int m_linkMany, .int m_tracerMany, .int m_pointMany, .int m_pairMany, .ref 1004, .ref 1005, .ref 1006, .ref 1007, .int m_readLinks, .int m_readTracers, .int m_readPoints, .int m_readPairs, .ref 1008, .ref 1009, .ref 1010, .ref 1011, .int (nI n), .int (nI (sk u n p)), .int (nI (tE u n (sk u n p))), .int (tk u n (sk u n p)), .int gw, .int m_readFault, .int m_readPlace, .int m_value, .long m_n, .long m_c, .long m_d, .long m_s, .long m_e, .long m_k, .long m_x, .long m_y, .long m_g, .long m_a, .ref 1012, .ref 1013, .ref 1014, .int m_curveMany, .ref 1015, .int m_cornerMany, .int m_straightAt, .ref 1016, .long m_fitUp, .long m_fitDown, .long m_worstUp, .long m_worstDown, .ref 1017, .int m_walkLink, .int m_walkAngle, .int m_walkBranch, .int m_walkMany, .ref 1018, .ref 1019, .int m_lined, .ref 1020, .int m_actMany], z1, z2, ia 700 q3, z4, z5, z6, z7, z8, z9, z10, z11, z12, z13, z14, z15, z16, z17, z18, z19, z20])) ∨ ((¬ wd_4 u n (sk u n p)) ∧ r = some (.int 0) ∧ w' = (wc, [ob 9 [.int m_thrown, .int m_trouble, .int m_fault, .int m_where, .ref 1001, .ref 1002, .int 40, .ref 1003, .int m_taped, .int m_linkMany, .int m_tracerMany, .int m_pointMany, .int m_pairMany, .ref 1004, .ref 1005, .ref 1006, .ref 1007, .int m_readLinks, .int m_readTracers, .int m_readPoints, .int m_readPairs, .ref 1008, .ref 1009, .ref 1010, .ref 1011, .int (nI n), .int (nI (sk u n p)), .int (nI (tE u n (sk u n p))), .int (tk u n (sk u n p)), .int gw, .int m_readFault, .int m_readPlace, .int m_value, .long m_n, .long m_c, .long m_d, .long m_s, .long m_e, .long m_k, .long m_x, .long m_y, .long m_g, .long m_a, .ref 1012, .ref 1013, .ref 1014, .int m_curveMany, .ref 1015, .int m_cornerMany, .int m_straightAt, .ref 1016, .long m_fitUp, .long m_fitDown, .long m_worstUp, .long m_worstDown, .ref 1017, .int m_walkLink, .int m_walkAngle, .int m_walkBranch, .int m_walkMany, .ref 1018, .ref 1019, .int m_lined, .ref 1020, .int m_actMany], z1, z2, ia 700 q3, z4, z5, z6, z7, z8, z9, z10, z11, z12, z13, z14, z15, z16, z17, z18, z19, z20]))) := by
  refine ct_of ⟨by decide, rfl⟩ (Nat.le_of_ble_eq_true rfl) ?_
  refine ab_aload_n dX11_isWord_0 rfl ?_
  refine ab_getf dX11_isWord_1 fl_X11_137 rfl rfl ?_
  refine ab_iconst (v := 2) dX11_isWord_4 (by decide) ?_
  refine ab_icmpne 24 dX11_isWord_5 (by decide) (fun h_1 => ?_) (fun h_1 => ?_)
  · refine ab_iconst (v := 0) dX11_isWord_24 (by decide) ?_
    exact ab_zret dX11_isWord_25 rfl rfl (by decide) (Or.inr (⟨fun z => h_1 (wdm_4.mp z).1, rfl, rfl⟩))
  · refine ab_aload_n dX11_isWord_8 rfl ?_
    refine ab_getf dX11_isWord_9 fl_X11_128 rfl rfl ?_
    refine ab_aload_n dX11_isWord_12 rfl ?_
    refine ab_getf dX11_isWord_13 fl_X11_134 rfl rfl ?_
    refine ab_isub dX11_isWord_16 ?_
    refine ab_topi (v := (nI ((tE u n (sk u n p)) - (sk u n p)))) (pk_sub (by omega)) ?_
    refine ab_aload_n dX11_isWord_17 rfl ?_
    refine ab_callT (j := 4) (As := []) (rest := [.int (nI ((tE u n (sk u n p)) - (sk u n p)))]) dX11_isWord_18 mT_J0_length_8abf5 ml_X11_143 ⟨by decide, by decide, rfl, rfl, rfl⟩ (by decide) rfl rfl (Nat.le_of_ble_eq_true rfl) (by decide) c_slen_4 ?_
    rintro r w' ⟨rfl, rfl⟩
    refine ab_icmpeq 26 dX11_isWord_21 (by decide) (fun h_2 => ?_) (fun h_2 => ?_)
    · have h_2n := (nI_eq (a := ((tE u n (sk u n p)) - (sk u n p))) (b := 6) (by omega) (by omega)).mp h_2
      refine ab_iconst (v := 0) dX11_isWord_26 (by decide) ?_
      refine ab_istore_n (la' := [(2, .int 0), (0, .ref 1000), (1, .ref 3004)]) dX11_isWord_27 (by decide) rfl ?_
      refine ab_iload_n dX11_isWord_28 rfl ?_
      refine ab_aload_n dX11_isWord_29 rfl ?_
      refine ab_callT (j := 4) (As := []) (rest := [.int 0]) dX11_isWord_30 mT_J0_length_8abf5 ml_X11_143 ⟨by decide, by decide, rfl, rfl, rfl⟩ (by decide) rfl rfl (Nat.le_of_ble_eq_true rfl) (by decide) c_slen_4 ?_
      rintro r w' ⟨rfl, rfl⟩
      refine ab_icmpge 63 dX11_isWord_33 (by decide) (fun h_3 => absurd h_3 (by decide)) (fun h_3 => ?_)
      refine ab_aload_n dX11_isWord_36 rfl ?_
      refine ab_getf dX11_isWord_37 fl_X11_39 rfl rfl ?_
      refine ab_aload_n dX11_isWord_40 rfl ?_
      refine ab_getf dX11_isWord_41 fl_X11_134 rfl rfl ?_
      refine ab_iload_n dX11_isWord_44 rfl ?_
      refine ab_iadd dX11_isWord_45 ?_
      refine ab_topi (v := (nI (sk u n p))) (Int32.add_zero _) ?_
      refine ab_iald (j := (sk u n p)) dX11_isWord_46 rfl (ix_nI (by omega) (by decide)) ?_
      refine ab_topi (v := (nI (u ((sk u n p) + 0)))) (h_v (sk u n p) (by omega)).2 ?_
      refine ab_aload_n dX11_isWord_47 rfl ?_
      refine ab_iload_n dX11_isWord_48 rfl ?_
      refine ab_callT (j := 4) (As := [.int 0]) (rest := [.int (nI (u ((sk u n p) + 0)))]) dX11_isWord_49 mT_J0_charAt_5068e ml_X11_149 ⟨by decide, by decide, rfl, rfl, rfl⟩ (by decide) rfl rfl (Nat.le_of_ble_eq_true rfl) (by decide) c_chr_4_0 ?_
      rintro r w' ⟨rfl, rfl⟩
      refine ab_icmpeq 57 dX11_isWord_52 (by decide) (fun h_4 => ?_) (fun h_4 => ?_)
      · refine ab_iinc (v := 1) (la' := [(2, .int 1), (0, .ref 1000), (1, .ref 3004)]) dX11_isWord_57 rfl (by decide) (by decide) rfl ?_
        refine ab_goto 28 dX11_isWord_60 (by decide) ?_
        refine ab_iload_n dX11_isWord_28 rfl ?_
        refine ab_aload_n dX11_isWord_29 rfl ?_
        refine ab_callT (j := 4) (As := []) (rest := [.int 1]) dX11_isWord_30 mT_J0_length_8abf5 ml_X11_143 ⟨by decide, by decide, rfl, rfl, rfl⟩ (by decide) rfl rfl (Nat.le_of_ble_eq_true rfl) (by decide) c_slen_4 ?_
        rintro r w' ⟨rfl, rfl⟩
        refine ab_icmpge 63 dX11_isWord_33 (by decide) (fun h_5 => absurd h_5 (by decide)) (fun h_5 => ?_)
        refine ab_aload_n dX11_isWord_36 rfl ?_
        refine ab_getf dX11_isWord_37 fl_X11_39 rfl rfl ?_
        refine ab_aload_n dX11_isWord_40 rfl ?_
        refine ab_getf dX11_isWord_41 fl_X11_134 rfl rfl ?_
        refine ab_iload_n dX11_isWord_44 rfl ?_
        refine ab_iadd dX11_isWord_45 ?_
        refine ab_topi (v := (nI ((sk u n p) + 1))) (nI_1 _) ?_
        refine ab_iald (j := ((sk u n p) + 1)) dX11_isWord_46 rfl (ix_nI (by omega) (by decide)) ?_
        refine ab_topi (v := (nI (u ((sk u n p) + 1)))) (h_v ((sk u n p) + 1) (by omega)).2 ?_
        refine ab_aload_n dX11_isWord_47 rfl ?_
        refine ab_iload_n dX11_isWord_48 rfl ?_
        refine ab_callT (j := 4) (As := [.int 1]) (rest := [.int (nI (u ((sk u n p) + 1)))]) dX11_isWord_49 mT_J0_charAt_5068e ml_X11_149 ⟨by decide, by decide, rfl, rfl, rfl⟩ (by decide) rfl rfl (Nat.le_of_ble_eq_true rfl) (by decide) c_chr_4_1 ?_
        rintro r w' ⟨rfl, rfl⟩
        refine ab_icmpeq 57 dX11_isWord_52 (by decide) (fun h_6 => ?_) (fun h_6 => ?_)
        · refine ab_iinc (v := 2) (la' := [(2, .int 2), (0, .ref 1000), (1, .ref 3004)]) dX11_isWord_57 rfl (by decide) (by decide) rfl ?_
          refine ab_goto 28 dX11_isWord_60 (by decide) ?_
          refine ab_iload_n dX11_isWord_28 rfl ?_
          refine ab_aload_n dX11_isWord_29 rfl ?_
          refine ab_callT (j := 4) (As := []) (rest := [.int 2]) dX11_isWord_30 mT_J0_length_8abf5 ml_X11_143 ⟨by decide, by decide, rfl, rfl, rfl⟩ (by decide) rfl rfl (Nat.le_of_ble_eq_true rfl) (by decide) c_slen_4 ?_
          rintro r w' ⟨rfl, rfl⟩
          refine ab_icmpge 63 dX11_isWord_33 (by decide) (fun h_7 => absurd h_7 (by decide)) (fun h_7 => ?_)
          refine ab_aload_n dX11_isWord_36 rfl ?_
          refine ab_getf dX11_isWord_37 fl_X11_39 rfl rfl ?_
          refine ab_aload_n dX11_isWord_40 rfl ?_
          refine ab_getf dX11_isWord_41 fl_X11_134 rfl rfl ?_
          refine ab_iload_n dX11_isWord_44 rfl ?_
          refine ab_iadd dX11_isWord_45 ?_
          refine ab_topi (v := (nI ((sk u n p) + 2))) (nI_add _ 2) ?_
          refine ab_iald (j := ((sk u n p) + 2)) dX11_isWord_46 rfl (ix_nI (by omega) (by decide)) ?_
          refine ab_topi (v := (nI (u ((sk u n p) + 2)))) (h_v ((sk u n p) + 2) (by omega)).2 ?_
          refine ab_aload_n dX11_isWord_47 rfl ?_
          refine ab_iload_n dX11_isWord_48 rfl ?_
          refine ab_callT (j := 4) (As := [.int 2]) (rest := [.int (nI (u ((sk u n p) + 2)))]) dX11_isWord_49 mT_J0_charAt_5068e ml_X11_149 ⟨by decide, by decide, rfl, rfl, rfl⟩ (by decide) rfl rfl (Nat.le_of_ble_eq_true rfl) (by decide) c_chr_4_2 ?_
          rintro r w' ⟨rfl, rfl⟩
          refine ab_icmpeq 57 dX11_isWord_52 (by decide) (fun h_8 => ?_) (fun h_8 => ?_)
          · refine ab_iinc (v := 3) (la' := [(2, .int 3), (0, .ref 1000), (1, .ref 3004)]) dX11_isWord_57 rfl (by decide) (by decide) rfl ?_
            refine ab_goto 28 dX11_isWord_60 (by decide) ?_
            refine ab_iload_n dX11_isWord_28 rfl ?_
            refine ab_aload_n dX11_isWord_29 rfl ?_
            refine ab_callT (j := 4) (As := []) (rest := [.int 3]) dX11_isWord_30 mT_J0_length_8abf5 ml_X11_143 ⟨by decide, by decide, rfl, rfl, rfl⟩ (by decide) rfl rfl (Nat.le_of_ble_eq_true rfl) (by decide) c_slen_4 ?_
            rintro r w' ⟨rfl, rfl⟩
            refine ab_icmpge 63 dX11_isWord_33 (by decide) (fun h_9 => absurd h_9 (by decide)) (fun h_9 => ?_)
            refine ab_aload_n dX11_isWord_36 rfl ?_
            refine ab_getf dX11_isWord_37 fl_X11_39 rfl rfl ?_
            refine ab_aload_n dX11_isWord_40 rfl ?_
            refine ab_getf dX11_isWord_41 fl_X11_134 rfl rfl ?_
            refine ab_iload_n dX11_isWord_44 rfl ?_
            refine ab_iadd dX11_isWord_45 ?_
            refine ab_topi (v := (nI ((sk u n p) + 3))) (nI_add _ 3) ?_
            refine ab_iald (j := ((sk u n p) + 3)) dX11_isWord_46 rfl (ix_nI (by omega) (by decide)) ?_
            refine ab_topi (v := (nI (u ((sk u n p) + 3)))) (h_v ((sk u n p) + 3) (by omega)).2 ?_
            refine ab_aload_n dX11_isWord_47 rfl ?_
            refine ab_iload_n dX11_isWord_48 rfl ?_
            refine ab_callT (j := 4) (As := [.int 3]) (rest := [.int (nI (u ((sk u n p) + 3)))]) dX11_isWord_49 mT_J0_charAt_5068e ml_X11_149 ⟨by decide, by decide, rfl, rfl, rfl⟩ (by decide) rfl rfl (Nat.le_of_ble_eq_true rfl) (by decide) c_chr_4_3 ?_
            rintro r w' ⟨rfl, rfl⟩
            refine ab_icmpeq 57 dX11_isWord_52 (by decide) (fun h_10 => ?_) (fun h_10 => ?_)
            · refine ab_iinc (v := 4) (la' := [(2, .int 4), (0, .ref 1000), (1, .ref 3004)]) dX11_isWord_57 rfl (by decide) (by decide) rfl ?_
              refine ab_goto 28 dX11_isWord_60 (by decide) ?_
              refine ab_iload_n dX11_isWord_28 rfl ?_
              refine ab_aload_n dX11_isWord_29 rfl ?_
              refine ab_callT (j := 4) (As := []) (rest := [.int 4]) dX11_isWord_30 mT_J0_length_8abf5 ml_X11_143 ⟨by decide, by decide, rfl, rfl, rfl⟩ (by decide) rfl rfl (Nat.le_of_ble_eq_true rfl) (by decide) c_slen_4 ?_
              rintro r w' ⟨rfl, rfl⟩
              refine ab_icmpge 63 dX11_isWord_33 (by decide) (fun h_11 => absurd h_11 (by decide)) (fun h_11 => ?_)
              refine ab_aload_n dX11_isWord_36 rfl ?_
              refine ab_getf dX11_isWord_37 fl_X11_39 rfl rfl ?_
              refine ab_aload_n dX11_isWord_40 rfl ?_
              refine ab_getf dX11_isWord_41 fl_X11_134 rfl rfl ?_
              refine ab_iload_n dX11_isWord_44 rfl ?_
              refine ab_iadd dX11_isWord_45 ?_
              refine ab_topi (v := (nI ((sk u n p) + 4))) (nI_add _ 4) ?_
              refine ab_iald (j := ((sk u n p) + 4)) dX11_isWord_46 rfl (ix_nI (by omega) (by decide)) ?_
              refine ab_topi (v := (nI (u ((sk u n p) + 4)))) (h_v ((sk u n p) + 4) (by omega)).2 ?_
              refine ab_aload_n dX11_isWord_47 rfl ?_
              refine ab_iload_n dX11_isWord_48 rfl ?_
              refine ab_callT (j := 4) (As := [.int 4]) (rest := [.int (nI (u ((sk u n p) + 4)))]) dX11_isWord_49 mT_J0_charAt_5068e ml_X11_149 ⟨by decide, by decide, rfl, rfl, rfl⟩ (by decide) rfl rfl (Nat.le_of_ble_eq_true rfl) (by decide) c_chr_4_4 ?_
              rintro r w' ⟨rfl, rfl⟩
              refine ab_icmpeq 57 dX11_isWord_52 (by decide) (fun h_12 => ?_) (fun h_12 => ?_)
              · refine ab_iinc (v := 5) (la' := [(2, .int 5), (0, .ref 1000), (1, .ref 3004)]) dX11_isWord_57 rfl (by decide) (by decide) rfl ?_
                refine ab_goto 28 dX11_isWord_60 (by decide) ?_
                refine ab_iload_n dX11_isWord_28 rfl ?_
                refine ab_aload_n dX11_isWord_29 rfl ?_
                refine ab_callT (j := 4) (As := []) (rest := [.int 5]) dX11_isWord_30 mT_J0_length_8abf5 ml_X11_143 ⟨by decide, by decide, rfl, rfl, rfl⟩ (by decide) rfl rfl (Nat.le_of_ble_eq_true rfl) (by decide) c_slen_4 ?_
                rintro r w' ⟨rfl, rfl⟩
                refine ab_icmpge 63 dX11_isWord_33 (by decide) (fun h_13 => absurd h_13 (by decide)) (fun h_13 => ?_)
                refine ab_aload_n dX11_isWord_36 rfl ?_
                refine ab_getf dX11_isWord_37 fl_X11_39 rfl rfl ?_
                refine ab_aload_n dX11_isWord_40 rfl ?_
                refine ab_getf dX11_isWord_41 fl_X11_134 rfl rfl ?_
                refine ab_iload_n dX11_isWord_44 rfl ?_
                refine ab_iadd dX11_isWord_45 ?_
                refine ab_topi (v := (nI ((sk u n p) + 5))) (nI_add _ 5) ?_
                refine ab_iald (j := ((sk u n p) + 5)) dX11_isWord_46 rfl (ix_nI (by omega) (by decide)) ?_
                refine ab_topi (v := (nI (u ((sk u n p) + 5)))) (h_v ((sk u n p) + 5) (by omega)).2 ?_
                refine ab_aload_n dX11_isWord_47 rfl ?_
                refine ab_iload_n dX11_isWord_48 rfl ?_
                refine ab_callT (j := 4) (As := [.int 5]) (rest := [.int (nI (u ((sk u n p) + 5)))]) dX11_isWord_49 mT_J0_charAt_5068e ml_X11_149 ⟨by decide, by decide, rfl, rfl, rfl⟩ (by decide) rfl rfl (Nat.le_of_ble_eq_true rfl) (by decide) c_chr_4_5 ?_
                rintro r w' ⟨rfl, rfl⟩
                refine ab_icmpeq 57 dX11_isWord_52 (by decide) (fun h_14 => ?_) (fun h_14 => ?_)
                · refine ab_iinc (v := 6) (la' := [(2, .int 6), (0, .ref 1000), (1, .ref 3004)]) dX11_isWord_57 rfl (by decide) (by decide) rfl ?_
                  refine ab_goto 28 dX11_isWord_60 (by decide) ?_
                  refine ab_iload_n dX11_isWord_28 rfl ?_
                  refine ab_aload_n dX11_isWord_29 rfl ?_
                  refine ab_callT (j := 4) (As := []) (rest := [.int 6]) dX11_isWord_30 mT_J0_length_8abf5 ml_X11_143 ⟨by decide, by decide, rfl, rfl, rfl⟩ (by decide) rfl rfl (Nat.le_of_ble_eq_true rfl) (by decide) c_slen_4 ?_
                  rintro r w' ⟨rfl, rfl⟩
                  refine ab_icmpge 63 dX11_isWord_33 (by decide) (fun h_15 => ?_) (fun h_15 => absurd (by decide) h_15)
                  refine ab_iconst (v := 1) dX11_isWord_63 (by decide) ?_
                  exact ab_zret dX11_isWord_64 rfl rfl (by decide) (Or.inl (⟨wdm_4.mpr ⟨h_1, by omega, (nI_c (c := 103) (h_v _ (by omega)).1 (by decide)).mp h_4, (nI_c (c := 114) (h_v _ (by omega)).1 (by decide)).mp h_6, (nI_c (c := 111) (h_v _ (by omega)).1 (by decide)).mp h_8, (nI_c (c := 117) (h_v _ (by omega)).1 (by decide)).mp h_10, (nI_c (c := 110) (h_v _ (by omega)).1 (by decide)).mp h_12, (nI_c (c := 100) (h_v _ (by omega)).1 (by decide)).mp h_14⟩, rfl, rfl⟩))
                · refine ab_iconst (v := 0) dX11_isWord_55 (by decide) ?_
                  exact ab_zret dX11_isWord_56 rfl rfl (by decide) (Or.inr (⟨fun z => h_14 ((nI_c (c := 100) (h_v _ (by omega)).1 (by decide)).mpr (wdm_4.mp z).2.2.2.2.2.2.2), rfl, rfl⟩))
              · refine ab_iconst (v := 0) dX11_isWord_55 (by decide) ?_
                exact ab_zret dX11_isWord_56 rfl rfl (by decide) (Or.inr (⟨fun z => h_12 ((nI_c (c := 110) (h_v _ (by omega)).1 (by decide)).mpr (wdm_4.mp z).2.2.2.2.2.2.1), rfl, rfl⟩))
            · refine ab_iconst (v := 0) dX11_isWord_55 (by decide) ?_
              exact ab_zret dX11_isWord_56 rfl rfl (by decide) (Or.inr (⟨fun z => h_10 ((nI_c (c := 117) (h_v _ (by omega)).1 (by decide)).mpr (wdm_4.mp z).2.2.2.2.2.1), rfl, rfl⟩))
          · refine ab_iconst (v := 0) dX11_isWord_55 (by decide) ?_
            exact ab_zret dX11_isWord_56 rfl rfl (by decide) (Or.inr (⟨fun z => h_8 ((nI_c (c := 111) (h_v _ (by omega)).1 (by decide)).mpr (wdm_4.mp z).2.2.2.2.1), rfl, rfl⟩))
        · refine ab_iconst (v := 0) dX11_isWord_55 (by decide) ?_
          exact ab_zret dX11_isWord_56 rfl rfl (by decide) (Or.inr (⟨fun z => h_6 ((nI_c (c := 114) (h_v _ (by omega)).1 (by decide)).mpr (wdm_4.mp z).2.2.2.1), rfl, rfl⟩))
      · refine ab_iconst (v := 0) dX11_isWord_55 (by decide) ?_
        exact ab_zret dX11_isWord_56 rfl rfl (by decide) (Or.inr (⟨fun z => h_4 ((nI_c (c := 103) (h_v _ (by omega)).1 (by decide)).mpr (wdm_4.mp z).2.2.1), rfl, rfl⟩))
    · have h_2n : ¬ _ := fun z => h_2 ((nI_eq (a := ((tE u n (sk u n p)) - (sk u n p))) (b := 6) (by omega) (by omega)).mpr z)
      refine ab_iconst (v := 0) dX11_isWord_24 (by decide) ?_
      exact ab_zret dX11_isWord_25 rfl rfl (by decide) (Or.inr (⟨fun z => absurd (wdm_4.mp z).2.1 (by omega), rfl, rfl⟩))
theorem c_X11_isWord_5 {wc : List ax_E} {m_thrown m_trouble m_fault m_where m_taped m_linkMany m_tracerMany m_pointMany m_pairMany m_readLinks m_readTracers m_readPoints m_readPairs gw m_readFault m_readPlace m_value m_curveMany m_cornerMany m_straightAt m_walkLink m_walkAngle m_walkBranch m_walkMany m_lined m_actMany : Int32} {m_n m_c m_d m_s m_e m_k m_x m_y m_g m_a m_fitUp m_fitDown m_worstUp m_worstDown : Int64} {z1 z2 z4 z5 z6 z7 z8 z9 z10 z11 z12 z13 z14 z15 z16 z17 z18 z19 z20 : ax_E} {q3 : Nat → Int32} {u : Nat → Nat} {n p : Nat} (h_n : n ≤ 700) (h_v : ∀ k, k < n → u k < 256 ∧ q3 k = nI (u k)) (h_p : p ≤ n) (h_t : sk u n p ≤ tE u n (sk u n p) ∧ tE u n (sk u n p) ≤ n) : Ct M_X11_isWord [.ref 1000, .ref 3005] (wc, [ob 9 [.int m_thrown, .int m_trouble, .int m_fault, .int m_where, .ref 1001, .ref 1002, .int 40, .ref 1003, .int m_taped, .int m_linkMany, .int m_tracerMany, .int m_pointMany, .int m_pairMany, .ref 1004, .ref 1005, .ref 1006, .ref 1007, .int m_readLinks, .int m_readTracers, .int m_readPoints, .int m_readPairs, .ref 1008, .ref 1009, .ref 1010, .ref 1011, .int (nI n), .int (nI (sk u n p)), .int (nI (tE u n (sk u n p))), .int (tk u n (sk u n p)), .int gw, .int m_readFault, .int m_readPlace, .int m_value, .long m_n, .long m_c, .long m_d, .long m_s, .long m_e, .long m_k, .long m_x, .long m_y, .long m_g, .long m_a, .ref 1012, .ref 1013, .ref 1014, .int m_curveMany, .ref 1015, .int m_cornerMany, .int m_straightAt, .ref 1016, .long m_fitUp, .long m_fitDown, .long m_worstUp, .long m_worstDown, .ref 1017, .int m_walkLink, .int m_walkAngle, .int m_walkBranch, .int m_walkMany, .ref 1018, .ref 1019, .int m_lined, .ref 1020, .int m_actMany], z1, z2, ia 700 q3, z4, z5, z6, z7, z8, z9, z10, z11, z12, z13, z14, z15, z16, z17, z18, z19, z20]) (fun r w' => ((wd_5 u n (sk u n p)) ∧ r = some (.int 1) ∧ w' = (wc, [ob 9 [.int m_thrown, .int m_trouble, .int m_fault, .int m_where, .ref 1001, .ref 1002, .int 40, .ref 1003, .int m_taped, .int m_linkMany, .int m_tracerMany, .int m_pointMany, .int m_pairMany, .ref 1004, .ref 1005, .ref 1006, .ref 1007, .int m_readLinks, .int m_readTracers, .int m_readPoints, .int m_readPairs, .ref 1008, .ref 1009, .ref 1010, .ref 1011, .int (nI n), .int (nI (sk u n p)), .int (nI (tE u n (sk u n p))), .int (tk u n (sk u n p)), .int gw, .int m_readFault, .int m_readPlace, .int m_value, .long m_n, .long m_c, .long m_d, .long m_s, .long m_e, .long m_k, .long m_x, .long m_y, .long m_g, .long m_a, .ref 1012, .ref 1013, .ref 1014, .int m_curveMany, .ref 1015, .int m_cornerMany, .int m_straightAt, .ref 1016, .long m_fitUp, .long m_fitDown, .long m_worstUp, .long m_worstDown, .ref 1017, .int m_walkLink, .int m_walkAngle, .int m_walkBranch, .int m_walkMany, .ref 1018, .ref 1019, .int m_lined, .ref 1020, .int m_actMany], z1, z2, ia 700 q3, z4, z5, z6, z7, z8, z9, z10, z11, z12, z13, z14, z15, z16, z17, z18, z19, z20])) ∨ ((¬ wd_5 u n (sk u n p)) ∧ r = some (.int 0) ∧ w' = (wc, [ob 9 [.int m_thrown, .int m_trouble, .int m_fault, .int m_where, .ref 1001, .ref 1002, .int 40, .ref 1003, .int m_taped, .int m_linkMany, .int m_tracerMany, .int m_pointMany, .int m_pairMany, .ref 1004, .ref 1005, .ref 1006, .ref 1007, .int m_readLinks, .int m_readTracers, .int m_readPoints, .int m_readPairs, .ref 1008, .ref 1009, .ref 1010, .ref 1011, .int (nI n), .int (nI (sk u n p)), .int (nI (tE u n (sk u n p))), .int (tk u n (sk u n p)), .int gw, .int m_readFault, .int m_readPlace, .int m_value, .long m_n, .long m_c, .long m_d, .long m_s, .long m_e, .long m_k, .long m_x, .long m_y, .long m_g, .long m_a, .ref 1012, .ref 1013, .ref 1014, .int m_curveMany, .ref 1015, .int m_cornerMany, .int m_straightAt, .ref 1016, .long m_fitUp, .long m_fitDown, .long m_worstUp, .long m_worstDown, .ref 1017, .int m_walkLink, .int m_walkAngle, .int m_walkBranch, .int m_walkMany, .ref 1018, .ref 1019, .int m_lined, .ref 1020, .int m_actMany], z1, z2, ia 700 q3, z4, z5, z6, z7, z8, z9, z10, z11, z12, z13, z14, z15, z16, z17, z18, z19, z20]))) := by
  refine ct_of ⟨by decide, rfl⟩ (Nat.le_of_ble_eq_true rfl) ?_
  refine ab_aload_n dX11_isWord_0 rfl ?_
  refine ab_getf dX11_isWord_1 fl_X11_137 rfl rfl ?_
  refine ab_iconst (v := 2) dX11_isWord_4 (by decide) ?_
  refine ab_icmpne 24 dX11_isWord_5 (by decide) (fun h_1 => ?_) (fun h_1 => ?_)
  · refine ab_iconst (v := 0) dX11_isWord_24 (by decide) ?_
    exact ab_zret dX11_isWord_25 rfl rfl (by decide) (Or.inr (⟨fun z => h_1 (wdm_5.mp z).1, rfl, rfl⟩))
  · refine ab_aload_n dX11_isWord_8 rfl ?_
    refine ab_getf dX11_isWord_9 fl_X11_128 rfl rfl ?_
    refine ab_aload_n dX11_isWord_12 rfl ?_
    refine ab_getf dX11_isWord_13 fl_X11_134 rfl rfl ?_
    refine ab_isub dX11_isWord_16 ?_
    refine ab_topi (v := (nI ((tE u n (sk u n p)) - (sk u n p)))) (pk_sub (by omega)) ?_
    refine ab_aload_n dX11_isWord_17 rfl ?_
    refine ab_callT (j := 5) (As := []) (rest := [.int (nI ((tE u n (sk u n p)) - (sk u n p)))]) dX11_isWord_18 mT_J0_length_8abf5 ml_X11_143 ⟨by decide, by decide, rfl, rfl, rfl⟩ (by decide) rfl rfl (Nat.le_of_ble_eq_true rfl) (by decide) c_slen_5 ?_
    rintro r w' ⟨rfl, rfl⟩
    refine ab_icmpeq 26 dX11_isWord_21 (by decide) (fun h_2 => ?_) (fun h_2 => ?_)
    · have h_2n := (nI_eq (a := ((tE u n (sk u n p)) - (sk u n p))) (b := 5) (by omega) (by omega)).mp h_2
      refine ab_iconst (v := 0) dX11_isWord_26 (by decide) ?_
      refine ab_istore_n (la' := [(2, .int 0), (0, .ref 1000), (1, .ref 3005)]) dX11_isWord_27 (by decide) rfl ?_
      refine ab_iload_n dX11_isWord_28 rfl ?_
      refine ab_aload_n dX11_isWord_29 rfl ?_
      refine ab_callT (j := 5) (As := []) (rest := [.int 0]) dX11_isWord_30 mT_J0_length_8abf5 ml_X11_143 ⟨by decide, by decide, rfl, rfl, rfl⟩ (by decide) rfl rfl (Nat.le_of_ble_eq_true rfl) (by decide) c_slen_5 ?_
      rintro r w' ⟨rfl, rfl⟩
      refine ab_icmpge 63 dX11_isWord_33 (by decide) (fun h_3 => absurd h_3 (by decide)) (fun h_3 => ?_)
      refine ab_aload_n dX11_isWord_36 rfl ?_
      refine ab_getf dX11_isWord_37 fl_X11_39 rfl rfl ?_
      refine ab_aload_n dX11_isWord_40 rfl ?_
      refine ab_getf dX11_isWord_41 fl_X11_134 rfl rfl ?_
      refine ab_iload_n dX11_isWord_44 rfl ?_
      refine ab_iadd dX11_isWord_45 ?_
      refine ab_topi (v := (nI (sk u n p))) (Int32.add_zero _) ?_
      refine ab_iald (j := (sk u n p)) dX11_isWord_46 rfl (ix_nI (by omega) (by decide)) ?_
      refine ab_topi (v := (nI (u ((sk u n p) + 0)))) (h_v (sk u n p) (by omega)).2 ?_
      refine ab_aload_n dX11_isWord_47 rfl ?_
      refine ab_iload_n dX11_isWord_48 rfl ?_
      refine ab_callT (j := 5) (As := [.int 0]) (rest := [.int (nI (u ((sk u n p) + 0)))]) dX11_isWord_49 mT_J0_charAt_5068e ml_X11_149 ⟨by decide, by decide, rfl, rfl, rfl⟩ (by decide) rfl rfl (Nat.le_of_ble_eq_true rfl) (by decide) c_chr_5_0 ?_
      rintro r w' ⟨rfl, rfl⟩
      refine ab_icmpeq 57 dX11_isWord_52 (by decide) (fun h_4 => ?_) (fun h_4 => ?_)
      · refine ab_iinc (v := 1) (la' := [(2, .int 1), (0, .ref 1000), (1, .ref 3005)]) dX11_isWord_57 rfl (by decide) (by decide) rfl ?_
        refine ab_goto 28 dX11_isWord_60 (by decide) ?_
        refine ab_iload_n dX11_isWord_28 rfl ?_
        refine ab_aload_n dX11_isWord_29 rfl ?_
        refine ab_callT (j := 5) (As := []) (rest := [.int 1]) dX11_isWord_30 mT_J0_length_8abf5 ml_X11_143 ⟨by decide, by decide, rfl, rfl, rfl⟩ (by decide) rfl rfl (Nat.le_of_ble_eq_true rfl) (by decide) c_slen_5 ?_
        rintro r w' ⟨rfl, rfl⟩
        refine ab_icmpge 63 dX11_isWord_33 (by decide) (fun h_5 => absurd h_5 (by decide)) (fun h_5 => ?_)
        refine ab_aload_n dX11_isWord_36 rfl ?_
        refine ab_getf dX11_isWord_37 fl_X11_39 rfl rfl ?_
        refine ab_aload_n dX11_isWord_40 rfl ?_
        refine ab_getf dX11_isWord_41 fl_X11_134 rfl rfl ?_
        refine ab_iload_n dX11_isWord_44 rfl ?_
        refine ab_iadd dX11_isWord_45 ?_
        refine ab_topi (v := (nI ((sk u n p) + 1))) (nI_1 _) ?_
        refine ab_iald (j := ((sk u n p) + 1)) dX11_isWord_46 rfl (ix_nI (by omega) (by decide)) ?_
        refine ab_topi (v := (nI (u ((sk u n p) + 1)))) (h_v ((sk u n p) + 1) (by omega)).2 ?_
        refine ab_aload_n dX11_isWord_47 rfl ?_
        refine ab_iload_n dX11_isWord_48 rfl ?_
        refine ab_callT (j := 5) (As := [.int 1]) (rest := [.int (nI (u ((sk u n p) + 1)))]) dX11_isWord_49 mT_J0_charAt_5068e ml_X11_149 ⟨by decide, by decide, rfl, rfl, rfl⟩ (by decide) rfl rfl (Nat.le_of_ble_eq_true rfl) (by decide) c_chr_5_1 ?_
        rintro r w' ⟨rfl, rfl⟩
        refine ab_icmpeq 57 dX11_isWord_52 (by decide) (fun h_6 => ?_) (fun h_6 => ?_)
        · refine ab_iinc (v := 2) (la' := [(2, .int 2), (0, .ref 1000), (1, .ref 3005)]) dX11_isWord_57 rfl (by decide) (by decide) rfl ?_
          refine ab_goto 28 dX11_isWord_60 (by decide) ?_
          refine ab_iload_n dX11_isWord_28 rfl ?_
          refine ab_aload_n dX11_isWord_29 rfl ?_
          refine ab_callT (j := 5) (As := []) (rest := [.int 2]) dX11_isWord_30 mT_J0_length_8abf5 ml_X11_143 ⟨by decide, by decide, rfl, rfl, rfl⟩ (by decide) rfl rfl (Nat.le_of_ble_eq_true rfl) (by decide) c_slen_5 ?_
          rintro r w' ⟨rfl, rfl⟩
          refine ab_icmpge 63 dX11_isWord_33 (by decide) (fun h_7 => absurd h_7 (by decide)) (fun h_7 => ?_)
          refine ab_aload_n dX11_isWord_36 rfl ?_
          refine ab_getf dX11_isWord_37 fl_X11_39 rfl rfl ?_
          refine ab_aload_n dX11_isWord_40 rfl ?_
          refine ab_getf dX11_isWord_41 fl_X11_134 rfl rfl ?_
          refine ab_iload_n dX11_isWord_44 rfl ?_
          refine ab_iadd dX11_isWord_45 ?_
          refine ab_topi (v := (nI ((sk u n p) + 2))) (nI_add _ 2) ?_
          refine ab_iald (j := ((sk u n p) + 2)) dX11_isWord_46 rfl (ix_nI (by omega) (by decide)) ?_
          refine ab_topi (v := (nI (u ((sk u n p) + 2)))) (h_v ((sk u n p) + 2) (by omega)).2 ?_
          refine ab_aload_n dX11_isWord_47 rfl ?_
          refine ab_iload_n dX11_isWord_48 rfl ?_
          refine ab_callT (j := 5) (As := [.int 2]) (rest := [.int (nI (u ((sk u n p) + 2)))]) dX11_isWord_49 mT_J0_charAt_5068e ml_X11_149 ⟨by decide, by decide, rfl, rfl, rfl⟩ (by decide) rfl rfl (Nat.le_of_ble_eq_true rfl) (by decide) c_chr_5_2 ?_
          rintro r w' ⟨rfl, rfl⟩
          refine ab_icmpeq 57 dX11_isWord_52 (by decide) (fun h_8 => ?_) (fun h_8 => ?_)
          · refine ab_iinc (v := 3) (la' := [(2, .int 3), (0, .ref 1000), (1, .ref 3005)]) dX11_isWord_57 rfl (by decide) (by decide) rfl ?_
            refine ab_goto 28 dX11_isWord_60 (by decide) ?_
            refine ab_iload_n dX11_isWord_28 rfl ?_
            refine ab_aload_n dX11_isWord_29 rfl ?_
            refine ab_callT (j := 5) (As := []) (rest := [.int 3]) dX11_isWord_30 mT_J0_length_8abf5 ml_X11_143 ⟨by decide, by decide, rfl, rfl, rfl⟩ (by decide) rfl rfl (Nat.le_of_ble_eq_true rfl) (by decide) c_slen_5 ?_
            rintro r w' ⟨rfl, rfl⟩
            refine ab_icmpge 63 dX11_isWord_33 (by decide) (fun h_9 => absurd h_9 (by decide)) (fun h_9 => ?_)
            refine ab_aload_n dX11_isWord_36 rfl ?_
            refine ab_getf dX11_isWord_37 fl_X11_39 rfl rfl ?_
            refine ab_aload_n dX11_isWord_40 rfl ?_
            refine ab_getf dX11_isWord_41 fl_X11_134 rfl rfl ?_
            refine ab_iload_n dX11_isWord_44 rfl ?_
            refine ab_iadd dX11_isWord_45 ?_
            refine ab_topi (v := (nI ((sk u n p) + 3))) (nI_add _ 3) ?_
            refine ab_iald (j := ((sk u n p) + 3)) dX11_isWord_46 rfl (ix_nI (by omega) (by decide)) ?_
            refine ab_topi (v := (nI (u ((sk u n p) + 3)))) (h_v ((sk u n p) + 3) (by omega)).2 ?_
            refine ab_aload_n dX11_isWord_47 rfl ?_
            refine ab_iload_n dX11_isWord_48 rfl ?_
            refine ab_callT (j := 5) (As := [.int 3]) (rest := [.int (nI (u ((sk u n p) + 3)))]) dX11_isWord_49 mT_J0_charAt_5068e ml_X11_149 ⟨by decide, by decide, rfl, rfl, rfl⟩ (by decide) rfl rfl (Nat.le_of_ble_eq_true rfl) (by decide) c_chr_5_3 ?_
            rintro r w' ⟨rfl, rfl⟩
            refine ab_icmpeq 57 dX11_isWord_52 (by decide) (fun h_10 => ?_) (fun h_10 => ?_)
            · refine ab_iinc (v := 4) (la' := [(2, .int 4), (0, .ref 1000), (1, .ref 3005)]) dX11_isWord_57 rfl (by decide) (by decide) rfl ?_
              refine ab_goto 28 dX11_isWord_60 (by decide) ?_
              refine ab_iload_n dX11_isWord_28 rfl ?_
              refine ab_aload_n dX11_isWord_29 rfl ?_
              refine ab_callT (j := 5) (As := []) (rest := [.int 4]) dX11_isWord_30 mT_J0_length_8abf5 ml_X11_143 ⟨by decide, by decide, rfl, rfl, rfl⟩ (by decide) rfl rfl (Nat.le_of_ble_eq_true rfl) (by decide) c_slen_5 ?_
              rintro r w' ⟨rfl, rfl⟩
              refine ab_icmpge 63 dX11_isWord_33 (by decide) (fun h_11 => absurd h_11 (by decide)) (fun h_11 => ?_)
              refine ab_aload_n dX11_isWord_36 rfl ?_
              refine ab_getf dX11_isWord_37 fl_X11_39 rfl rfl ?_
              refine ab_aload_n dX11_isWord_40 rfl ?_
              refine ab_getf dX11_isWord_41 fl_X11_134 rfl rfl ?_
              refine ab_iload_n dX11_isWord_44 rfl ?_
              refine ab_iadd dX11_isWord_45 ?_
              refine ab_topi (v := (nI ((sk u n p) + 4))) (nI_add _ 4) ?_
              refine ab_iald (j := ((sk u n p) + 4)) dX11_isWord_46 rfl (ix_nI (by omega) (by decide)) ?_
              refine ab_topi (v := (nI (u ((sk u n p) + 4)))) (h_v ((sk u n p) + 4) (by omega)).2 ?_
              refine ab_aload_n dX11_isWord_47 rfl ?_
              refine ab_iload_n dX11_isWord_48 rfl ?_
              refine ab_callT (j := 5) (As := [.int 4]) (rest := [.int (nI (u ((sk u n p) + 4)))]) dX11_isWord_49 mT_J0_charAt_5068e ml_X11_149 ⟨by decide, by decide, rfl, rfl, rfl⟩ (by decide) rfl rfl (Nat.le_of_ble_eq_true rfl) (by decide) c_chr_5_4 ?_
              rintro r w' ⟨rfl, rfl⟩
              refine ab_icmpeq 57 dX11_isWord_52 (by decide) (fun h_12 => ?_) (fun h_12 => ?_)
              · refine ab_iinc (v := 5) (la' := [(2, .int 5), (0, .ref 1000), (1, .ref 3005)]) dX11_isWord_57 rfl (by decide) (by decide) rfl ?_
                refine ab_goto 28 dX11_isWord_60 (by decide) ?_
                refine ab_iload_n dX11_isWord_28 rfl ?_
                refine ab_aload_n dX11_isWord_29 rfl ?_
                refine ab_callT (j := 5) (As := []) (rest := [.int 5]) dX11_isWord_30 mT_J0_length_8abf5 ml_X11_143 ⟨by decide, by decide, rfl, rfl, rfl⟩ (by decide) rfl rfl (Nat.le_of_ble_eq_true rfl) (by decide) c_slen_5 ?_
                rintro r w' ⟨rfl, rfl⟩
                refine ab_icmpge 63 dX11_isWord_33 (by decide) (fun h_13 => ?_) (fun h_13 => absurd (by decide) h_13)
                refine ab_iconst (v := 1) dX11_isWord_63 (by decide) ?_
                exact ab_zret dX11_isWord_64 rfl rfl (by decide) (Or.inl (⟨wdm_5.mpr ⟨h_1, by omega, (nI_c (c := 99) (h_v _ (by omega)).1 (by decide)).mp h_4, (nI_c (c := 114) (h_v _ (by omega)).1 (by decide)).mp h_6, (nI_c (c := 97) (h_v _ (by omega)).1 (by decide)).mp h_8, (nI_c (c := 110) (h_v _ (by omega)).1 (by decide)).mp h_10, (nI_c (c := 107) (h_v _ (by omega)).1 (by decide)).mp h_12⟩, rfl, rfl⟩))
              · refine ab_iconst (v := 0) dX11_isWord_55 (by decide) ?_
                exact ab_zret dX11_isWord_56 rfl rfl (by decide) (Or.inr (⟨fun z => h_12 ((nI_c (c := 107) (h_v _ (by omega)).1 (by decide)).mpr (wdm_5.mp z).2.2.2.2.2.2), rfl, rfl⟩))
            · refine ab_iconst (v := 0) dX11_isWord_55 (by decide) ?_
              exact ab_zret dX11_isWord_56 rfl rfl (by decide) (Or.inr (⟨fun z => h_10 ((nI_c (c := 110) (h_v _ (by omega)).1 (by decide)).mpr (wdm_5.mp z).2.2.2.2.2.1), rfl, rfl⟩))
          · refine ab_iconst (v := 0) dX11_isWord_55 (by decide) ?_
            exact ab_zret dX11_isWord_56 rfl rfl (by decide) (Or.inr (⟨fun z => h_8 ((nI_c (c := 97) (h_v _ (by omega)).1 (by decide)).mpr (wdm_5.mp z).2.2.2.2.1), rfl, rfl⟩))
        · refine ab_iconst (v := 0) dX11_isWord_55 (by decide) ?_
          exact ab_zret dX11_isWord_56 rfl rfl (by decide) (Or.inr (⟨fun z => h_6 ((nI_c (c := 114) (h_v _ (by omega)).1 (by decide)).mpr (wdm_5.mp z).2.2.2.1), rfl, rfl⟩))
      · refine ab_iconst (v := 0) dX11_isWord_55 (by decide) ?_
        exact ab_zret dX11_isWord_56 rfl rfl (by decide) (Or.inr (⟨fun z => h_4 ((nI_c (c := 99) (h_v _ (by omega)).1 (by decide)).mpr (wdm_5.mp z).2.2.1), rfl, rfl⟩))
    · have h_2n : ¬ _ := fun z => h_2 ((nI_eq (a := ((tE u n (sk u n p)) - (sk u n p))) (b := 5) (by omega) (by omega)).mpr z)
      refine ab_iconst (v := 0) dX11_isWord_24 (by decide) ?_
      exact ab_zret dX11_isWord_25 rfl rfl (by decide) (Or.inr (⟨fun z => absurd (wdm_5.mp z).2.1 (by omega), rfl, rfl⟩))
theorem c_X11_isWord_6 {wc : List ax_E} {m_thrown m_trouble m_fault m_where m_taped m_linkMany m_tracerMany m_pointMany m_pairMany m_readLinks m_readTracers m_readPoints m_readPairs gw m_readFault m_readPlace m_value m_curveMany m_cornerMany m_straightAt m_walkLink m_walkAngle m_walkBranch m_walkMany m_lined m_actMany : Int32} {m_n m_c m_d m_s m_e m_k m_x m_y m_g m_a m_fitUp m_fitDown m_worstUp m_worstDown : Int64} {z1 z2 z4 z5 z6 z7 z8 z9 z10 z11 z12 z13 z14 z15 z16 z17 z18 z19 z20 : ax_E} {q3 : Nat → Int32} {u : Nat → Nat} {n p : Nat} (h_n : n ≤ 700) (h_v : ∀ k, k < n → u k < 256 ∧ q3 k = nI (u k)) (h_p : p ≤ n) (h_t : sk u n p ≤ tE u n (sk u n p) ∧ tE u n (sk u n p) ≤ n) : Ct M_X11_isWord [.ref 1000, .ref 3006] (wc, [ob 9 [.int m_thrown, .int m_trouble, .int m_fault, .int m_where, .ref 1001, .ref 1002, .int 40, .ref 1003, .int m_taped, .int m_linkMany, .int m_tracerMany, .int m_pointMany, .int m_pairMany, .ref 1004, .ref 1005, .ref 1006, .ref 1007, .int m_readLinks, .int m_readTracers, .int m_readPoints, .int m_readPairs, .ref 1008, .ref 1009, .ref 1010, .ref 1011, .int (nI n), .int (nI (sk u n p)), .int (nI (tE u n (sk u n p))), .int (tk u n (sk u n p)), .int gw, .int m_readFault, .int m_readPlace, .int m_value, .long m_n, .long m_c, .long m_d, .long m_s, .long m_e, .long m_k, .long m_x, .long m_y, .long m_g, .long m_a, .ref 1012, .ref 1013, .ref 1014, .int m_curveMany, .ref 1015, .int m_cornerMany, .int m_straightAt, .ref 1016, .long m_fitUp, .long m_fitDown, .long m_worstUp, .long m_worstDown, .ref 1017, .int m_walkLink, .int m_walkAngle, .int m_walkBranch, .int m_walkMany, .ref 1018, .ref 1019, .int m_lined, .ref 1020, .int m_actMany], z1, z2, ia 700 q3, z4, z5, z6, z7, z8, z9, z10, z11, z12, z13, z14, z15, z16, z17, z18, z19, z20]) (fun r w' => ((wd_6 u n (sk u n p)) ∧ r = some (.int 1) ∧ w' = (wc, [ob 9 [.int m_thrown, .int m_trouble, .int m_fault, .int m_where, .ref 1001, .ref 1002, .int 40, .ref 1003, .int m_taped, .int m_linkMany, .int m_tracerMany, .int m_pointMany, .int m_pairMany, .ref 1004, .ref 1005, .ref 1006, .ref 1007, .int m_readLinks, .int m_readTracers, .int m_readPoints, .int m_readPairs, .ref 1008, .ref 1009, .ref 1010, .ref 1011, .int (nI n), .int (nI (sk u n p)), .int (nI (tE u n (sk u n p))), .int (tk u n (sk u n p)), .int gw, .int m_readFault, .int m_readPlace, .int m_value, .long m_n, .long m_c, .long m_d, .long m_s, .long m_e, .long m_k, .long m_x, .long m_y, .long m_g, .long m_a, .ref 1012, .ref 1013, .ref 1014, .int m_curveMany, .ref 1015, .int m_cornerMany, .int m_straightAt, .ref 1016, .long m_fitUp, .long m_fitDown, .long m_worstUp, .long m_worstDown, .ref 1017, .int m_walkLink, .int m_walkAngle, .int m_walkBranch, .int m_walkMany, .ref 1018, .ref 1019, .int m_lined, .ref 1020, .int m_actMany], z1, z2, ia 700 q3, z4, z5, z6, z7, z8, z9, z10, z11, z12, z13, z14, z15, z16, z17, z18, z19, z20])) ∨ ((¬ wd_6 u n (sk u n p)) ∧ r = some (.int 0) ∧ w' = (wc, [ob 9 [.int m_thrown, .int m_trouble, .int m_fault, .int m_where, .ref 1001, .ref 1002, .int 40, .ref 1003, .int m_taped, .int m_linkMany, .int m_tracerMany, .int m_pointMany, .int m_pairMany, .ref 1004, .ref 1005, .ref 1006, .ref 1007, .int m_readLinks, .int m_readTracers, .int m_readPoints, .int m_readPairs, .ref 1008, .ref 1009, .ref 1010, .ref 1011, .int (nI n), .int (nI (sk u n p)), .int (nI (tE u n (sk u n p))), .int (tk u n (sk u n p)), .int gw, .int m_readFault, .int m_readPlace, .int m_value, .long m_n, .long m_c, .long m_d, .long m_s, .long m_e, .long m_k, .long m_x, .long m_y, .long m_g, .long m_a, .ref 1012, .ref 1013, .ref 1014, .int m_curveMany, .ref 1015, .int m_cornerMany, .int m_straightAt, .ref 1016, .long m_fitUp, .long m_fitDown, .long m_worstUp, .long m_worstDown, .ref 1017, .int m_walkLink, .int m_walkAngle, .int m_walkBranch, .int m_walkMany, .ref 1018, .ref 1019, .int m_lined, .ref 1020, .int m_actMany], z1, z2, ia 700 q3, z4, z5, z6, z7, z8, z9, z10, z11, z12, z13, z14, z15, z16, z17, z18, z19, z20]))) := by
  refine ct_of ⟨by decide, rfl⟩ (Nat.le_of_ble_eq_true rfl) ?_
  refine ab_aload_n dX11_isWord_0 rfl ?_
  refine ab_getf dX11_isWord_1 fl_X11_137 rfl rfl ?_
  refine ab_iconst (v := 2) dX11_isWord_4 (by decide) ?_
  refine ab_icmpne 24 dX11_isWord_5 (by decide) (fun h_1 => ?_) (fun h_1 => ?_)
  · refine ab_iconst (v := 0) dX11_isWord_24 (by decide) ?_
    exact ab_zret dX11_isWord_25 rfl rfl (by decide) (Or.inr (⟨fun z => h_1 (wdm_6.mp z).1, rfl, rfl⟩))
  · refine ab_aload_n dX11_isWord_8 rfl ?_
    refine ab_getf dX11_isWord_9 fl_X11_128 rfl rfl ?_
    refine ab_aload_n dX11_isWord_12 rfl ?_
    refine ab_getf dX11_isWord_13 fl_X11_134 rfl rfl ?_
    refine ab_isub dX11_isWord_16 ?_
    refine ab_topi (v := (nI ((tE u n (sk u n p)) - (sk u n p)))) (pk_sub (by omega)) ?_
    refine ab_aload_n dX11_isWord_17 rfl ?_
    refine ab_callT (j := 6) (As := []) (rest := [.int (nI ((tE u n (sk u n p)) - (sk u n p)))]) dX11_isWord_18 mT_J0_length_8abf5 ml_X11_143 ⟨by decide, by decide, rfl, rfl, rfl⟩ (by decide) rfl rfl (Nat.le_of_ble_eq_true rfl) (by decide) c_slen_6 ?_
    rintro r w' ⟨rfl, rfl⟩
    refine ab_icmpeq 26 dX11_isWord_21 (by decide) (fun h_2 => ?_) (fun h_2 => ?_)
    · have h_2n := (nI_eq (a := ((tE u n (sk u n p)) - (sk u n p))) (b := 3) (by omega) (by omega)).mp h_2
      refine ab_iconst (v := 0) dX11_isWord_26 (by decide) ?_
      refine ab_istore_n (la' := [(2, .int 0), (0, .ref 1000), (1, .ref 3006)]) dX11_isWord_27 (by decide) rfl ?_
      refine ab_iload_n dX11_isWord_28 rfl ?_
      refine ab_aload_n dX11_isWord_29 rfl ?_
      refine ab_callT (j := 6) (As := []) (rest := [.int 0]) dX11_isWord_30 mT_J0_length_8abf5 ml_X11_143 ⟨by decide, by decide, rfl, rfl, rfl⟩ (by decide) rfl rfl (Nat.le_of_ble_eq_true rfl) (by decide) c_slen_6 ?_
      rintro r w' ⟨rfl, rfl⟩
      refine ab_icmpge 63 dX11_isWord_33 (by decide) (fun h_3 => absurd h_3 (by decide)) (fun h_3 => ?_)
      refine ab_aload_n dX11_isWord_36 rfl ?_
      refine ab_getf dX11_isWord_37 fl_X11_39 rfl rfl ?_
      refine ab_aload_n dX11_isWord_40 rfl ?_
      refine ab_getf dX11_isWord_41 fl_X11_134 rfl rfl ?_
      refine ab_iload_n dX11_isWord_44 rfl ?_
      refine ab_iadd dX11_isWord_45 ?_
      refine ab_topi (v := (nI (sk u n p))) (Int32.add_zero _) ?_
      refine ab_iald (j := (sk u n p)) dX11_isWord_46 rfl (ix_nI (by omega) (by decide)) ?_
      refine ab_topi (v := (nI (u ((sk u n p) + 0)))) (h_v (sk u n p) (by omega)).2 ?_
      refine ab_aload_n dX11_isWord_47 rfl ?_
      refine ab_iload_n dX11_isWord_48 rfl ?_
      refine ab_callT (j := 6) (As := [.int 0]) (rest := [.int (nI (u ((sk u n p) + 0)))]) dX11_isWord_49 mT_J0_charAt_5068e ml_X11_149 ⟨by decide, by decide, rfl, rfl, rfl⟩ (by decide) rfl rfl (Nat.le_of_ble_eq_true rfl) (by decide) c_chr_6_0 ?_
      rintro r w' ⟨rfl, rfl⟩
      refine ab_icmpeq 57 dX11_isWord_52 (by decide) (fun h_4 => ?_) (fun h_4 => ?_)
      · refine ab_iinc (v := 1) (la' := [(2, .int 1), (0, .ref 1000), (1, .ref 3006)]) dX11_isWord_57 rfl (by decide) (by decide) rfl ?_
        refine ab_goto 28 dX11_isWord_60 (by decide) ?_
        refine ab_iload_n dX11_isWord_28 rfl ?_
        refine ab_aload_n dX11_isWord_29 rfl ?_
        refine ab_callT (j := 6) (As := []) (rest := [.int 1]) dX11_isWord_30 mT_J0_length_8abf5 ml_X11_143 ⟨by decide, by decide, rfl, rfl, rfl⟩ (by decide) rfl rfl (Nat.le_of_ble_eq_true rfl) (by decide) c_slen_6 ?_
        rintro r w' ⟨rfl, rfl⟩
        refine ab_icmpge 63 dX11_isWord_33 (by decide) (fun h_5 => absurd h_5 (by decide)) (fun h_5 => ?_)
        refine ab_aload_n dX11_isWord_36 rfl ?_
        refine ab_getf dX11_isWord_37 fl_X11_39 rfl rfl ?_
        refine ab_aload_n dX11_isWord_40 rfl ?_
        refine ab_getf dX11_isWord_41 fl_X11_134 rfl rfl ?_
        refine ab_iload_n dX11_isWord_44 rfl ?_
        refine ab_iadd dX11_isWord_45 ?_
        refine ab_topi (v := (nI ((sk u n p) + 1))) (nI_1 _) ?_
        refine ab_iald (j := ((sk u n p) + 1)) dX11_isWord_46 rfl (ix_nI (by omega) (by decide)) ?_
        refine ab_topi (v := (nI (u ((sk u n p) + 1)))) (h_v ((sk u n p) + 1) (by omega)).2 ?_
        refine ab_aload_n dX11_isWord_47 rfl ?_
        refine ab_iload_n dX11_isWord_48 rfl ?_
        refine ab_callT (j := 6) (As := [.int 1]) (rest := [.int (nI (u ((sk u n p) + 1)))]) dX11_isWord_49 mT_J0_charAt_5068e ml_X11_149 ⟨by decide, by decide, rfl, rfl, rfl⟩ (by decide) rfl rfl (Nat.le_of_ble_eq_true rfl) (by decide) c_chr_6_1 ?_
        rintro r w' ⟨rfl, rfl⟩
        refine ab_icmpeq 57 dX11_isWord_52 (by decide) (fun h_6 => ?_) (fun h_6 => ?_)
        · refine ab_iinc (v := 2) (la' := [(2, .int 2), (0, .ref 1000), (1, .ref 3006)]) dX11_isWord_57 rfl (by decide) (by decide) rfl ?_
          refine ab_goto 28 dX11_isWord_60 (by decide) ?_
          refine ab_iload_n dX11_isWord_28 rfl ?_
          refine ab_aload_n dX11_isWord_29 rfl ?_
          refine ab_callT (j := 6) (As := []) (rest := [.int 2]) dX11_isWord_30 mT_J0_length_8abf5 ml_X11_143 ⟨by decide, by decide, rfl, rfl, rfl⟩ (by decide) rfl rfl (Nat.le_of_ble_eq_true rfl) (by decide) c_slen_6 ?_
          rintro r w' ⟨rfl, rfl⟩
          refine ab_icmpge 63 dX11_isWord_33 (by decide) (fun h_7 => absurd h_7 (by decide)) (fun h_7 => ?_)
          refine ab_aload_n dX11_isWord_36 rfl ?_
          refine ab_getf dX11_isWord_37 fl_X11_39 rfl rfl ?_
          refine ab_aload_n dX11_isWord_40 rfl ?_
          refine ab_getf dX11_isWord_41 fl_X11_134 rfl rfl ?_
          refine ab_iload_n dX11_isWord_44 rfl ?_
          refine ab_iadd dX11_isWord_45 ?_
          refine ab_topi (v := (nI ((sk u n p) + 2))) (nI_add _ 2) ?_
          refine ab_iald (j := ((sk u n p) + 2)) dX11_isWord_46 rfl (ix_nI (by omega) (by decide)) ?_
          refine ab_topi (v := (nI (u ((sk u n p) + 2)))) (h_v ((sk u n p) + 2) (by omega)).2 ?_
          refine ab_aload_n dX11_isWord_47 rfl ?_
          refine ab_iload_n dX11_isWord_48 rfl ?_
          refine ab_callT (j := 6) (As := [.int 2]) (rest := [.int (nI (u ((sk u n p) + 2)))]) dX11_isWord_49 mT_J0_charAt_5068e ml_X11_149 ⟨by decide, by decide, rfl, rfl, rfl⟩ (by decide) rfl rfl (Nat.le_of_ble_eq_true rfl) (by decide) c_chr_6_2 ?_
          rintro r w' ⟨rfl, rfl⟩
          refine ab_icmpeq 57 dX11_isWord_52 (by decide) (fun h_8 => ?_) (fun h_8 => ?_)
          · refine ab_iinc (v := 3) (la' := [(2, .int 3), (0, .ref 1000), (1, .ref 3006)]) dX11_isWord_57 rfl (by decide) (by decide) rfl ?_
            refine ab_goto 28 dX11_isWord_60 (by decide) ?_
            refine ab_iload_n dX11_isWord_28 rfl ?_
            refine ab_aload_n dX11_isWord_29 rfl ?_
            refine ab_callT (j := 6) (As := []) (rest := [.int 3]) dX11_isWord_30 mT_J0_length_8abf5 ml_X11_143 ⟨by decide, by decide, rfl, rfl, rfl⟩ (by decide) rfl rfl (Nat.le_of_ble_eq_true rfl) (by decide) c_slen_6 ?_
            rintro r w' ⟨rfl, rfl⟩
            refine ab_icmpge 63 dX11_isWord_33 (by decide) (fun h_9 => ?_) (fun h_9 => absurd (by decide) h_9)
            refine ab_iconst (v := 1) dX11_isWord_63 (by decide) ?_
            exact ab_zret dX11_isWord_64 rfl rfl (by decide) (Or.inl (⟨wdm_6.mpr ⟨h_1, by omega, (nI_c (c := 114) (h_v _ (by omega)).1 (by decide)).mp h_4, (nI_c (c := 111) (h_v _ (by omega)).1 (by decide)).mp h_6, (nI_c (c := 100) (h_v _ (by omega)).1 (by decide)).mp h_8⟩, rfl, rfl⟩))
          · refine ab_iconst (v := 0) dX11_isWord_55 (by decide) ?_
            exact ab_zret dX11_isWord_56 rfl rfl (by decide) (Or.inr (⟨fun z => h_8 ((nI_c (c := 100) (h_v _ (by omega)).1 (by decide)).mpr (wdm_6.mp z).2.2.2.2), rfl, rfl⟩))
        · refine ab_iconst (v := 0) dX11_isWord_55 (by decide) ?_
          exact ab_zret dX11_isWord_56 rfl rfl (by decide) (Or.inr (⟨fun z => h_6 ((nI_c (c := 111) (h_v _ (by omega)).1 (by decide)).mpr (wdm_6.mp z).2.2.2.1), rfl, rfl⟩))
      · refine ab_iconst (v := 0) dX11_isWord_55 (by decide) ?_
        exact ab_zret dX11_isWord_56 rfl rfl (by decide) (Or.inr (⟨fun z => h_4 ((nI_c (c := 114) (h_v _ (by omega)).1 (by decide)).mpr (wdm_6.mp z).2.2.1), rfl, rfl⟩))
    · have h_2n : ¬ _ := fun z => h_2 ((nI_eq (a := ((tE u n (sk u n p)) - (sk u n p))) (b := 3) (by omega) (by omega)).mpr z)
      refine ab_iconst (v := 0) dX11_isWord_24 (by decide) ?_
      exact ab_zret dX11_isWord_25 rfl rfl (by decide) (Or.inr (⟨fun z => absurd (wdm_6.mp z).2.1 (by omega), rfl, rfl⟩))
theorem c_X11_isWord_7 {wc : List ax_E} {m_thrown m_trouble m_fault m_where m_taped m_linkMany m_tracerMany m_pointMany m_pairMany m_readLinks m_readTracers m_readPoints m_readPairs gw m_readFault m_readPlace m_value m_curveMany m_cornerMany m_straightAt m_walkLink m_walkAngle m_walkBranch m_walkMany m_lined m_actMany : Int32} {m_n m_c m_d m_s m_e m_k m_x m_y m_g m_a m_fitUp m_fitDown m_worstUp m_worstDown : Int64} {z1 z2 z4 z5 z6 z7 z8 z9 z10 z11 z12 z13 z14 z15 z16 z17 z18 z19 z20 : ax_E} {q3 : Nat → Int32} {u : Nat → Nat} {n p : Nat} (h_n : n ≤ 700) (h_v : ∀ k, k < n → u k < 256 ∧ q3 k = nI (u k)) (h_p : p ≤ n) (h_t : sk u n p ≤ tE u n (sk u n p) ∧ tE u n (sk u n p) ≤ n) : Ct M_X11_isWord [.ref 1000, .ref 3007] (wc, [ob 9 [.int m_thrown, .int m_trouble, .int m_fault, .int m_where, .ref 1001, .ref 1002, .int 40, .ref 1003, .int m_taped, .int m_linkMany, .int m_tracerMany, .int m_pointMany, .int m_pairMany, .ref 1004, .ref 1005, .ref 1006, .ref 1007, .int m_readLinks, .int m_readTracers, .int m_readPoints, .int m_readPairs, .ref 1008, .ref 1009, .ref 1010, .ref 1011, .int (nI n), .int (nI (sk u n p)), .int (nI (tE u n (sk u n p))), .int (tk u n (sk u n p)), .int gw, .int m_readFault, .int m_readPlace, .int m_value, .long m_n, .long m_c, .long m_d, .long m_s, .long m_e, .long m_k, .long m_x, .long m_y, .long m_g, .long m_a, .ref 1012, .ref 1013, .ref 1014, .int m_curveMany, .ref 1015, .int m_cornerMany, .int m_straightAt, .ref 1016, .long m_fitUp, .long m_fitDown, .long m_worstUp, .long m_worstDown, .ref 1017, .int m_walkLink, .int m_walkAngle, .int m_walkBranch, .int m_walkMany, .ref 1018, .ref 1019, .int m_lined, .ref 1020, .int m_actMany], z1, z2, ia 700 q3, z4, z5, z6, z7, z8, z9, z10, z11, z12, z13, z14, z15, z16, z17, z18, z19, z20]) (fun r w' => ((wd_7 u n (sk u n p)) ∧ r = some (.int 1) ∧ w' = (wc, [ob 9 [.int m_thrown, .int m_trouble, .int m_fault, .int m_where, .ref 1001, .ref 1002, .int 40, .ref 1003, .int m_taped, .int m_linkMany, .int m_tracerMany, .int m_pointMany, .int m_pairMany, .ref 1004, .ref 1005, .ref 1006, .ref 1007, .int m_readLinks, .int m_readTracers, .int m_readPoints, .int m_readPairs, .ref 1008, .ref 1009, .ref 1010, .ref 1011, .int (nI n), .int (nI (sk u n p)), .int (nI (tE u n (sk u n p))), .int (tk u n (sk u n p)), .int gw, .int m_readFault, .int m_readPlace, .int m_value, .long m_n, .long m_c, .long m_d, .long m_s, .long m_e, .long m_k, .long m_x, .long m_y, .long m_g, .long m_a, .ref 1012, .ref 1013, .ref 1014, .int m_curveMany, .ref 1015, .int m_cornerMany, .int m_straightAt, .ref 1016, .long m_fitUp, .long m_fitDown, .long m_worstUp, .long m_worstDown, .ref 1017, .int m_walkLink, .int m_walkAngle, .int m_walkBranch, .int m_walkMany, .ref 1018, .ref 1019, .int m_lined, .ref 1020, .int m_actMany], z1, z2, ia 700 q3, z4, z5, z6, z7, z8, z9, z10, z11, z12, z13, z14, z15, z16, z17, z18, z19, z20])) ∨ ((¬ wd_7 u n (sk u n p)) ∧ r = some (.int 0) ∧ w' = (wc, [ob 9 [.int m_thrown, .int m_trouble, .int m_fault, .int m_where, .ref 1001, .ref 1002, .int 40, .ref 1003, .int m_taped, .int m_linkMany, .int m_tracerMany, .int m_pointMany, .int m_pairMany, .ref 1004, .ref 1005, .ref 1006, .ref 1007, .int m_readLinks, .int m_readTracers, .int m_readPoints, .int m_readPairs, .ref 1008, .ref 1009, .ref 1010, .ref 1011, .int (nI n), .int (nI (sk u n p)), .int (nI (tE u n (sk u n p))), .int (tk u n (sk u n p)), .int gw, .int m_readFault, .int m_readPlace, .int m_value, .long m_n, .long m_c, .long m_d, .long m_s, .long m_e, .long m_k, .long m_x, .long m_y, .long m_g, .long m_a, .ref 1012, .ref 1013, .ref 1014, .int m_curveMany, .ref 1015, .int m_cornerMany, .int m_straightAt, .ref 1016, .long m_fitUp, .long m_fitDown, .long m_worstUp, .long m_worstDown, .ref 1017, .int m_walkLink, .int m_walkAngle, .int m_walkBranch, .int m_walkMany, .ref 1018, .ref 1019, .int m_lined, .ref 1020, .int m_actMany], z1, z2, ia 700 q3, z4, z5, z6, z7, z8, z9, z10, z11, z12, z13, z14, z15, z16, z17, z18, z19, z20]))) := by
  refine ct_of ⟨by decide, rfl⟩ (Nat.le_of_ble_eq_true rfl) ?_
  refine ab_aload_n dX11_isWord_0 rfl ?_
  refine ab_getf dX11_isWord_1 fl_X11_137 rfl rfl ?_
  refine ab_iconst (v := 2) dX11_isWord_4 (by decide) ?_
  refine ab_icmpne 24 dX11_isWord_5 (by decide) (fun h_1 => ?_) (fun h_1 => ?_)
  · refine ab_iconst (v := 0) dX11_isWord_24 (by decide) ?_
    exact ab_zret dX11_isWord_25 rfl rfl (by decide) (Or.inr (⟨fun z => h_1 (wdm_7.mp z).1, rfl, rfl⟩))
  · refine ab_aload_n dX11_isWord_8 rfl ?_
    refine ab_getf dX11_isWord_9 fl_X11_128 rfl rfl ?_
    refine ab_aload_n dX11_isWord_12 rfl ?_
    refine ab_getf dX11_isWord_13 fl_X11_134 rfl rfl ?_
    refine ab_isub dX11_isWord_16 ?_
    refine ab_topi (v := (nI ((tE u n (sk u n p)) - (sk u n p)))) (pk_sub (by omega)) ?_
    refine ab_aload_n dX11_isWord_17 rfl ?_
    refine ab_callT (j := 7) (As := []) (rest := [.int (nI ((tE u n (sk u n p)) - (sk u n p)))]) dX11_isWord_18 mT_J0_length_8abf5 ml_X11_143 ⟨by decide, by decide, rfl, rfl, rfl⟩ (by decide) rfl rfl (Nat.le_of_ble_eq_true rfl) (by decide) c_slen_7 ?_
    rintro r w' ⟨rfl, rfl⟩
    refine ab_icmpeq 26 dX11_isWord_21 (by decide) (fun h_2 => ?_) (fun h_2 => ?_)
    · have h_2n := (nI_eq (a := ((tE u n (sk u n p)) - (sk u n p))) (b := 3) (by omega) (by omega)).mp h_2
      refine ab_iconst (v := 0) dX11_isWord_26 (by decide) ?_
      refine ab_istore_n (la' := [(2, .int 0), (0, .ref 1000), (1, .ref 3007)]) dX11_isWord_27 (by decide) rfl ?_
      refine ab_iload_n dX11_isWord_28 rfl ?_
      refine ab_aload_n dX11_isWord_29 rfl ?_
      refine ab_callT (j := 7) (As := []) (rest := [.int 0]) dX11_isWord_30 mT_J0_length_8abf5 ml_X11_143 ⟨by decide, by decide, rfl, rfl, rfl⟩ (by decide) rfl rfl (Nat.le_of_ble_eq_true rfl) (by decide) c_slen_7 ?_
      rintro r w' ⟨rfl, rfl⟩
      refine ab_icmpge 63 dX11_isWord_33 (by decide) (fun h_3 => absurd h_3 (by decide)) (fun h_3 => ?_)
      refine ab_aload_n dX11_isWord_36 rfl ?_
      refine ab_getf dX11_isWord_37 fl_X11_39 rfl rfl ?_
      refine ab_aload_n dX11_isWord_40 rfl ?_
      refine ab_getf dX11_isWord_41 fl_X11_134 rfl rfl ?_
      refine ab_iload_n dX11_isWord_44 rfl ?_
      refine ab_iadd dX11_isWord_45 ?_
      refine ab_topi (v := (nI (sk u n p))) (Int32.add_zero _) ?_
      refine ab_iald (j := (sk u n p)) dX11_isWord_46 rfl (ix_nI (by omega) (by decide)) ?_
      refine ab_topi (v := (nI (u ((sk u n p) + 0)))) (h_v (sk u n p) (by omega)).2 ?_
      refine ab_aload_n dX11_isWord_47 rfl ?_
      refine ab_iload_n dX11_isWord_48 rfl ?_
      refine ab_callT (j := 7) (As := [.int 0]) (rest := [.int (nI (u ((sk u n p) + 0)))]) dX11_isWord_49 mT_J0_charAt_5068e ml_X11_149 ⟨by decide, by decide, rfl, rfl, rfl⟩ (by decide) rfl rfl (Nat.le_of_ble_eq_true rfl) (by decide) c_chr_7_0 ?_
      rintro r w' ⟨rfl, rfl⟩
      refine ab_icmpeq 57 dX11_isWord_52 (by decide) (fun h_4 => ?_) (fun h_4 => ?_)
      · refine ab_iinc (v := 1) (la' := [(2, .int 1), (0, .ref 1000), (1, .ref 3007)]) dX11_isWord_57 rfl (by decide) (by decide) rfl ?_
        refine ab_goto 28 dX11_isWord_60 (by decide) ?_
        refine ab_iload_n dX11_isWord_28 rfl ?_
        refine ab_aload_n dX11_isWord_29 rfl ?_
        refine ab_callT (j := 7) (As := []) (rest := [.int 1]) dX11_isWord_30 mT_J0_length_8abf5 ml_X11_143 ⟨by decide, by decide, rfl, rfl, rfl⟩ (by decide) rfl rfl (Nat.le_of_ble_eq_true rfl) (by decide) c_slen_7 ?_
        rintro r w' ⟨rfl, rfl⟩
        refine ab_icmpge 63 dX11_isWord_33 (by decide) (fun h_5 => absurd h_5 (by decide)) (fun h_5 => ?_)
        refine ab_aload_n dX11_isWord_36 rfl ?_
        refine ab_getf dX11_isWord_37 fl_X11_39 rfl rfl ?_
        refine ab_aload_n dX11_isWord_40 rfl ?_
        refine ab_getf dX11_isWord_41 fl_X11_134 rfl rfl ?_
        refine ab_iload_n dX11_isWord_44 rfl ?_
        refine ab_iadd dX11_isWord_45 ?_
        refine ab_topi (v := (nI ((sk u n p) + 1))) (nI_1 _) ?_
        refine ab_iald (j := ((sk u n p) + 1)) dX11_isWord_46 rfl (ix_nI (by omega) (by decide)) ?_
        refine ab_topi (v := (nI (u ((sk u n p) + 1)))) (h_v ((sk u n p) + 1) (by omega)).2 ?_
        refine ab_aload_n dX11_isWord_47 rfl ?_
        refine ab_iload_n dX11_isWord_48 rfl ?_
        refine ab_callT (j := 7) (As := [.int 1]) (rest := [.int (nI (u ((sk u n p) + 1)))]) dX11_isWord_49 mT_J0_charAt_5068e ml_X11_149 ⟨by decide, by decide, rfl, rfl, rfl⟩ (by decide) rfl rfl (Nat.le_of_ble_eq_true rfl) (by decide) c_chr_7_1 ?_
        rintro r w' ⟨rfl, rfl⟩
        refine ab_icmpeq 57 dX11_isWord_52 (by decide) (fun h_6 => ?_) (fun h_6 => ?_)
        · refine ab_iinc (v := 2) (la' := [(2, .int 2), (0, .ref 1000), (1, .ref 3007)]) dX11_isWord_57 rfl (by decide) (by decide) rfl ?_
          refine ab_goto 28 dX11_isWord_60 (by decide) ?_
          refine ab_iload_n dX11_isWord_28 rfl ?_
          refine ab_aload_n dX11_isWord_29 rfl ?_
          refine ab_callT (j := 7) (As := []) (rest := [.int 2]) dX11_isWord_30 mT_J0_length_8abf5 ml_X11_143 ⟨by decide, by decide, rfl, rfl, rfl⟩ (by decide) rfl rfl (Nat.le_of_ble_eq_true rfl) (by decide) c_slen_7 ?_
          rintro r w' ⟨rfl, rfl⟩
          refine ab_icmpge 63 dX11_isWord_33 (by decide) (fun h_7 => absurd h_7 (by decide)) (fun h_7 => ?_)
          refine ab_aload_n dX11_isWord_36 rfl ?_
          refine ab_getf dX11_isWord_37 fl_X11_39 rfl rfl ?_
          refine ab_aload_n dX11_isWord_40 rfl ?_
          refine ab_getf dX11_isWord_41 fl_X11_134 rfl rfl ?_
          refine ab_iload_n dX11_isWord_44 rfl ?_
          refine ab_iadd dX11_isWord_45 ?_
          refine ab_topi (v := (nI ((sk u n p) + 2))) (nI_add _ 2) ?_
          refine ab_iald (j := ((sk u n p) + 2)) dX11_isWord_46 rfl (ix_nI (by omega) (by decide)) ?_
          refine ab_topi (v := (nI (u ((sk u n p) + 2)))) (h_v ((sk u n p) + 2) (by omega)).2 ?_
          refine ab_aload_n dX11_isWord_47 rfl ?_
          refine ab_iload_n dX11_isWord_48 rfl ?_
          refine ab_callT (j := 7) (As := [.int 2]) (rest := [.int (nI (u ((sk u n p) + 2)))]) dX11_isWord_49 mT_J0_charAt_5068e ml_X11_149 ⟨by decide, by decide, rfl, rfl, rfl⟩ (by decide) rfl rfl (Nat.le_of_ble_eq_true rfl) (by decide) c_chr_7_2 ?_
          rintro r w' ⟨rfl, rfl⟩
          refine ab_icmpeq 57 dX11_isWord_52 (by decide) (fun h_8 => ?_) (fun h_8 => ?_)
          · refine ab_iinc (v := 3) (la' := [(2, .int 3), (0, .ref 1000), (1, .ref 3007)]) dX11_isWord_57 rfl (by decide) (by decide) rfl ?_
            refine ab_goto 28 dX11_isWord_60 (by decide) ?_
            refine ab_iload_n dX11_isWord_28 rfl ?_
            refine ab_aload_n dX11_isWord_29 rfl ?_
            refine ab_callT (j := 7) (As := []) (rest := [.int 3]) dX11_isWord_30 mT_J0_length_8abf5 ml_X11_143 ⟨by decide, by decide, rfl, rfl, rfl⟩ (by decide) rfl rfl (Nat.le_of_ble_eq_true rfl) (by decide) c_slen_7 ?_
            rintro r w' ⟨rfl, rfl⟩
            refine ab_icmpge 63 dX11_isWord_33 (by decide) (fun h_9 => ?_) (fun h_9 => absurd (by decide) h_9)
            refine ab_iconst (v := 1) dX11_isWord_63 (by decide) ?_
            exact ab_zret dX11_isWord_64 rfl rfl (by decide) (Or.inl (⟨wdm_7.mpr ⟨h_1, by omega, (nI_c (c := 97) (h_v _ (by omega)).1 (by decide)).mp h_4, (nI_c (c := 114) (h_v _ (by omega)).1 (by decide)).mp h_6, (nI_c (c := 109) (h_v _ (by omega)).1 (by decide)).mp h_8⟩, rfl, rfl⟩))
          · refine ab_iconst (v := 0) dX11_isWord_55 (by decide) ?_
            exact ab_zret dX11_isWord_56 rfl rfl (by decide) (Or.inr (⟨fun z => h_8 ((nI_c (c := 109) (h_v _ (by omega)).1 (by decide)).mpr (wdm_7.mp z).2.2.2.2), rfl, rfl⟩))
        · refine ab_iconst (v := 0) dX11_isWord_55 (by decide) ?_
          exact ab_zret dX11_isWord_56 rfl rfl (by decide) (Or.inr (⟨fun z => h_6 ((nI_c (c := 114) (h_v _ (by omega)).1 (by decide)).mpr (wdm_7.mp z).2.2.2.1), rfl, rfl⟩))
      · refine ab_iconst (v := 0) dX11_isWord_55 (by decide) ?_
        exact ab_zret dX11_isWord_56 rfl rfl (by decide) (Or.inr (⟨fun z => h_4 ((nI_c (c := 97) (h_v _ (by omega)).1 (by decide)).mpr (wdm_7.mp z).2.2.1), rfl, rfl⟩))
    · have h_2n : ¬ _ := fun z => h_2 ((nI_eq (a := ((tE u n (sk u n p)) - (sk u n p))) (b := 3) (by omega) (by omega)).mpr z)
      refine ab_iconst (v := 0) dX11_isWord_24 (by decide) ?_
      exact ab_zret dX11_isWord_25 rfl rfl (by decide) (Or.inr (⟨fun z => absurd (wdm_7.mp z).2.1 (by omega), rfl, rfl⟩))
