/-! WAYS: the search, as both do it: how far each place is, the line of places reached, its length -/
abbrev BS := (Nat → Int32) × (Nat → Nat) × Nat
def mtS (law : Nat → Bool) (pl : Nat) (v : Int32) (s : BS) : BS := if s.1 pl = -2 ∧ law (pl / 2) = true then (upd s.1 pl v, updN s.2.1 s.2.2 pl, s.2.2 + 1) else s
def bsB (law dead : Nat → Bool) (pl : Nat) (v : Int32) (s : BS) : BS := if dead (pl / 2) = true then mtS law (pl / 2 * 2 + 1 - pl % 2) v (mtS law (2 * pv (pl / 2) + pl % 2) v (mtS law (2 * nx (pl / 2) + pl % 2) v s)) else mtS law (2 * pv (pl / 2) + pl % 2) v (mtS law (2 * nx (pl / 2) + pl % 2) v s)
def bsS (law dead : Nat → Bool) (i : Nat) (s : BS) : BS := if i < s.2.2 then bsB law dead (s.2.1 i) (s.1 (s.2.1 i) + 1) s else s
theorem mtS_t {law : Nat → Bool} {pl : Nat} {v : Int32} {s : BS} (h1 : s.1 pl = -2) (h2 : law (pl / 2) = true) : mtS law pl v s = (upd s.1 pl v, updN s.2.1 s.2.2 pl, s.2.2 + 1) := by unfold mtS; rw [if_pos ⟨h1, h2⟩]
theorem mtS_f {law : Nat → Bool} {pl : Nat} {v : Int32} {s : BS} (h : ¬ (s.1 pl = -2 ∧ law (pl / 2) = true)) : mtS law pl v s = s := by unfold mtS; rw [if_neg h]
/-- one row over another, below n -/
def ovl (f : Nat → Int32) (n : Nat) (r : Nat → Int32) : Nat → Int32 := fun i => if i < n then f i else r i
theorem ovl_lt {f r : Nat → Int32} {n i : Nat} (h : i < n) : ovl f n r i = f i := by unfold ovl; rw [if_pos h]
theorem ovl_upd {f r : Nat → Int32} {n j : Nat} {v : Int32} (h : j < n) : upd (ovl f n r) j v = ovl (upd f j v) n r := by
  funext i
  by_cases e : i = j
  · subst e; simp [upd, ovl, h]
  · simp [upd, ovl, e]
theorem putA_u {r : Nat → Int32} {A : Nat → Nat} {m x : Nat} : upd (putA r A m) m (nI x) = putA r (updN A m x) (m + 1) := by
  funext i
  unfold upd putA updN
  by_cases e : i = m
  · subst e; rw [if_pos rfl, if_pos (by omega), if_pos rfl]
  · rw [if_neg e, if_neg e]
    by_cases q : i < m
    · rw [if_pos q, if_pos (by omega)]
    · rw [if_neg q, if_neg (by omega)]
/-- how many places are reached -/
def vis (f : Nat → Int32) (k : Nat) : Bool := !decide (f k = -2)
theorem cn_upd {f : Nat → Int32} {pl : Nat} {v : Int32} (h : f pl = -2) (hv : ¬ v = -2) : ∀ n, Cn (vis (upd f pl v)) n = Cn (vis f) n + (if pl < n then 1 else 0)
  | 0 => by rw [if_neg (by omega)]; rfl
  | n + 1 => by
    have ih := cn_upd h hv n
    by_cases e : n = pl
    · subst e
      have a1 : vis (upd f n v) n = true := by unfold vis upd; rw [if_pos rfl]; simp [hv]
      have a2 : ¬ vis f n = true := by unfold vis; rw [h]; decide
      rw [cn_t a1, cn_f a2, ih, if_neg (by omega), if_pos (by omega)]
    · have a0 : vis (upd f pl v) n = vis f n := by unfold vis upd; rw [if_neg e]
      by_cases q : vis f n = true
      · rw [cn_t (a0.trans q), cn_t q, ih]
        by_cases z : pl < n
        · rw [if_pos z, if_pos (by omega)]
        · rw [if_neg z, if_neg (by omega)]
      · rw [cn_f (by rw [a0]; exact q), cn_f q, ih]
        by_cases z : pl < n
        · rw [if_pos z, if_pos (by omega)]
        · rw [if_neg z, if_neg (by omega)]
theorem cn_lt {p : Nat → Bool} {pl : Nat} (h : ¬ p pl = true) : ∀ n, pl < n → Cn p n < n
  | 0, z => absurd z (by omega)
  | n + 1, z => by
    by_cases e : pl = n
    · subst e; rw [cn_f h]; have := cn_le p pl; omega
    · have := cn_lt h n (by omega)
      by_cases q : p n = true
      · rw [cn_t q]; omega
      · rw [cn_f q]; omega
/-- what holds of a search, behind b steps -/
def JS (b : Nat) (s : BS) : Prop := s.2.2 = Cn (vis s.1) 80 ∧ (∀ j, j < s.2.2 → s.2.1 j < 80 ∧ ¬ s.1 (s.2.1 j) = -2) ∧ ∀ k, s.1 k = -2 ∨ ∃ n, n ≤ b ∧ s.1 k = nI n
theorem nI_nm2 {n : Nat} (h : n < 1000) : ¬ nI n = -2 := by
  intro z
  have e := congrArg Int32.toInt z
  rw [nI_toInt (by omega)] at e
  have : (-2 : Int32).toInt = -2 := rfl
  rw [this] at e; omega
theorem jS_0 : JS 0 (fun _ => -2, fun _ => 0, 0) := by
  refine ⟨?_, fun j h => absurd h (Nat.not_lt_zero j), fun k => Or.inl rfl⟩
  have : ∀ n, Cn (vis (fun _ => -2)) n = 0 := by
    intro n
    induction n with
    | zero => rfl
    | succ n ih => rw [cn_f (by simp [vis]), ih]
  exact (this 80).symm
theorem jS_le {b c : Nat} {s : BS} (h : JS b s) (hb : b ≤ c) : JS c s := ⟨h.1, h.2.1, fun k => (h.2.2 k).imp id (fun ⟨n, a, e⟩ => ⟨n, by omega, e⟩)⟩
theorem jS_80 {b : Nat} {s : BS} (h : JS b s) : s.2.2 ≤ 80 := by rw [h.1]; exact cn_le _ 80
theorem jS_lt {b pl : Nat} {s : BS} (h : JS b s) (hp : pl < 80) (hs : s.1 pl = -2) : s.2.2 < 80 := by
  rw [h.1]; exact cn_lt (by unfold vis; rw [hs]; decide) 80 hp
theorem jS_mt {law : Nat → Bool} {b pl : Nat} {v : Int32} {s : BS} (h : JS b s) (hp : pl < 80) (hb : b < 900) (hv : ∃ n, n ≤ b ∧ v = nI n) : JS b (mtS law pl v s) := by
  by_cases c : s.1 pl = -2 ∧ law (pl / 2) = true
  · rw [mtS_t c.1 c.2]
    obtain ⟨n, hn, rfl⟩ := hv
    have nv : ¬ nI n = -2 := nI_nm2 (by omega)
    refine ⟨?_, fun j hj => ?_, fun k => ?_⟩
    · show s.2.2 + 1 = Cn (vis (upd s.1 pl (nI n))) 80
      rw [cn_upd c.1 nv, if_pos hp, h.1]
    · show updN s.2.1 s.2.2 pl j < 80 ∧ ¬ upd s.1 pl (nI n) (updN s.2.1 s.2.2 pl j) = -2
      have hj' : j < s.2.2 + 1 := hj
      unfold updN upd
      by_cases e : j = s.2.2
      · rw [if_pos e, if_pos rfl]; exact ⟨hp, nv⟩
      · rw [if_neg e]
        have q := h.2.1 j (by omega)
        refine ⟨q.1, ?_⟩
        by_cases e2 : s.2.1 j = pl
        · rw [if_pos e2]; exact nv
        · rw [if_neg e2]; exact q.2
    · show upd s.1 pl (nI n) k = -2 ∨ ∃ m, m ≤ b ∧ upd s.1 pl (nI n) k = nI m
      unfold upd
      by_cases e : k = pl
      · rw [if_pos e]; exact Or.inr ⟨n, hn, rfl⟩
      · rw [if_neg e]; exact h.2.2 k
  · rw [mtS_f c]; exact h
theorem jS_v {i : Nat} {s : BS} (h : JS i s) (hi : i < s.2.2) : ∃ n, n ≤ i + 1 ∧ s.1 (s.2.1 i) + 1 = nI n := by
  rcases h.2.2 (s.2.1 i) with z | ⟨n, hn, e⟩
  · exact absurd z (h.2.1 i hi).2
  · exact ⟨n + 1, by omega, by rw [e, nI_1]⟩
theorem bs_stop {law dead : Nat → Bool} : ∀ (n i : Nat) (s : BS), ¬ i < s.2.2 → itr (bsS law dead) n i s = s
  | 0, i, s, _ => itr_0 _ i s
  | n + 1, i, s, h => by rw [itr_s, show bsS law dead i s = s by unfold bsS; rw [if_neg h]]; exact bs_stop n (i + 1) s (by omega)
theorem c_X11_meets {wc : List ax_E} {m_thrown m_trouble m_fault m_where m_taped m_linkMany m_tracerMany m_pointMany m_pairMany m_readLinks m_readTracers m_readPoints m_readPairs m_textLong m_at m_spot m_token m_whole m_readFault m_readPlace m_value m_curveMany m_cornerMany m_straightAt m_walkLink m_walkMany m_actMany a2 : Int32} {m_fitUp m_fitDown m_worstUp m_worstDown : Int64} {z3 z5 z6 z7 z8 z9 z10 z11 z12 z13 z14 z15 z16 z17 z20 : ax_E} {q4 q18 q19 : Nat → Int32} {S : BS} {pl a b : Nat} {gm : Nat → Int64} {p : Nat → Bool} (h_i : 0 ≤ m_walkLink ∧ m_walkLink < m_linkMany) (h_l : 0 ≤ m_linkMany ∧ m_linkMany ≤ nI 4) (h_p : ∀ k, p k = true ↔ lawM q4 m_walkLink k) (hp : pl < 80) (hJ : S.1 pl = -2 → S.2.2 < 80) : Ct M_X11_meets [.ref 1000, .int (nI pl), .int a2] (wc, [ob 9 [.int m_thrown, .int m_trouble, .int m_fault, .int m_where, .ref 1001, .ref 1002, .int 40, .ref 1003, .int m_taped, .int m_linkMany, .int m_tracerMany, .int m_pointMany, .int m_pairMany, .ref 1004, .ref 1005, .ref 1006, .ref 1007, .int m_readLinks, .int m_readTracers, .int m_readPoints, .int m_readPairs, .ref 1008, .ref 1009, .ref 1010, .ref 1011, .int m_textLong, .int m_at, .int m_spot, .int m_token, .int m_whole, .int m_readFault, .int m_readPlace, .int m_value, .long (gm 33), .long (gm 34), .long (gm 35), .long (gm 36), .long (gm 37), .long (gm 38), .long (gm 39), .long (gm 40), .long (gm 41), .long (gm 42), .ref 1012, .ref 1013, .ref 1014, .int m_curveMany, .ref 1015, .int m_cornerMany, .int m_straightAt, .ref 1016, .long m_fitUp, .long m_fitDown, .long m_worstUp, .long m_worstDown, .ref 1017, .int m_walkLink, .int (nI a), .int (nI b), .int m_walkMany, .ref 1018, .ref 1019, .int (nI S.2.2), .ref 1020, .int m_actMany], ia 64 (ax_tab 0), ia 64 (ax_tab 1), z3, ia 16 q4, z5, z6, z7, z8, z9, z10, z11, z12, z13, z14, z15, z16, z17, ia 128 (ovl S.1 128 q18), ia 128 (putA q19 S.2.1 S.2.2), z20]) (fun r w' => ∃ gn : Nat → Int64, r = none ∧ w' = (wc, [ob 9 [.int m_thrown, .int m_trouble, .int m_fault, .int m_where, .ref 1001, .ref 1002, .int 40, .ref 1003, .int m_taped, .int m_linkMany, .int m_tracerMany, .int m_pointMany, .int m_pairMany, .ref 1004, .ref 1005, .ref 1006, .ref 1007, .int m_readLinks, .int m_readTracers, .int m_readPoints, .int m_readPairs, .ref 1008, .ref 1009, .ref 1010, .ref 1011, .int m_textLong, .int m_at, .int m_spot, .int m_token, .int m_whole, .int m_readFault, .int m_readPlace, .int m_value, .long (gn 33), .long (gn 34), .long (gn 35), .long (gn 36), .long (gn 37), .long (gn 38), .long (gn 39), .long (gn 40), .long (gn 41), .long (gn 42), .ref 1012, .ref 1013, .ref 1014, .int m_curveMany, .ref 1015, .int m_cornerMany, .int m_straightAt, .ref 1016, .long m_fitUp, .long m_fitDown, .long m_worstUp, .long m_worstDown, .ref 1017, .int m_walkLink, .int (nI a), .int (nI b), .int m_walkMany, .ref 1018, .ref 1019, .int (nI (mtS p pl a2 S).2.2), .ref 1020, .int m_actMany], ia 64 (ax_tab 0), ia 64 (ax_tab 1), z3, ia 16 q4, z5, z6, z7, z8, z9, z10, z11, z12, z13, z14, z15, z16, z17, ia 128 (ovl (mtS p pl a2 S).1 128 q18), ia 128 (putA q19 (mtS p pl a2 S).2.1 (mtS p pl a2 S).2.2), z20])) := by
  refine ct_of ⟨by decide, rfl⟩ (Nat.le_of_ble_eq_true rfl) ?_
  refine ab_aload_n dX11_meets_0 rfl ?_
  refine ab_getf dX11_meets_1 fl_X11_88 rfl rfl ?_
  refine ab_iload_n dX11_meets_4 rfl ?_
  refine ab_iald (j := pl) dX11_meets_5 rfl (ix_nI (by omega) (by decide)) ?_
  refine ab_topi (v := (S.1 pl)) (ovl_lt (by omega)) ?_
  refine ab_bipush (v := -2) dX11_meets_6 (by decide) ?_
  refine ab_icmpne 25 dX11_meets_8 (by decide) (fun h_1 => ?_) (fun h_1 => ?_)
  · exact ab_vret dX11_meets_25 rfl (by decide) ⟨gm, rfl, by rw [mtS_f (fun z => h_1 z.1)]⟩
  · refine ab_aload_n dX11_meets_11 rfl ?_
    refine ab_aload_n dX11_meets_12 rfl ?_
    refine ab_getf dX11_meets_13 fl_X11_85 rfl rfl ?_
    refine ab_iload_n dX11_meets_16 rfl ?_
    refine ab_iconst (v := 2) dX11_meets_17 (by decide) ?_
    refine ab_idiv dX11_meets_18 (by decide) ?_
    refine ab_topi (v := (nI (pl / 2))) (pk_div (d := 2) (by omega) (by decide) (by decide)) ?_
    refine ab_callV (As := [.int m_walkLink, .int (nI (pl / 2))]) (rest := []) dX11_meets_19 mv_X11_isLawful ml_X11_318 ⟨by decide, by decide, rfl, rfl, rfl⟩ (by decide) rfl rfl (Nat.le_of_ble_eq_true rfl) rfl (c_X11_isLawful h_i h_l (⟨nI_pos' (by omega), nI_lt (b := 40) (by omega) (by decide)⟩)) ?_
    rintro r w' (⟨c_2, rfl, rfl⟩ | ⟨c_3, rfl, rfl⟩)
    · refine ab_ifne 26 dX11_meets_22 (by decide) (fun h_4 => ?_) (fun h_4 => absurd h_4 (by decide))
      refine ab_aload_n dX11_meets_26 rfl ?_
      refine ab_getf dX11_meets_27 fl_X11_88 rfl rfl ?_
      refine ab_iload_n dX11_meets_30 rfl ?_
      refine ab_iload_n dX11_meets_31 rfl ?_
      refine ab_iast (w1 := (wc, [ob 9 [.int m_thrown, .int m_trouble, .int m_fault, .int m_where, .ref 1001, .ref 1002, .int 40, .ref 1003, .int m_taped, .int m_linkMany, .int m_tracerMany, .int m_pointMany, .int m_pairMany, .ref 1004, .ref 1005, .ref 1006, .ref 1007, .int m_readLinks, .int m_readTracers, .int m_readPoints, .int m_readPairs, .ref 1008, .ref 1009, .ref 1010, .ref 1011, .int m_textLong, .int m_at, .int m_spot, .int m_token, .int m_whole, .int m_readFault, .int m_readPlace, .int m_value, .long (Ml_n (nI (pl / 2))), .long (Ml_c (nI (pl / 2))), .long (Ml_d (nI (pl / 2))), .long (Ml_s q4 m_walkLink (nI (pl / 2))), .long (Ml_e q4 m_walkLink (nI (pl / 2))), .long (Ml_k q4 m_walkLink (nI (pl / 2))), .long (Ml_x q4 m_walkLink (nI (pl / 2))), .long (Ml_y q4 m_walkLink (nI (pl / 2))), .long (Int32.toInt64 (Bg q4 m_walkLink)), .long (Int32.toInt64 (Ba q4 m_walkLink)), .ref 1012, .ref 1013, .ref 1014, .int m_curveMany, .ref 1015, .int m_cornerMany, .int m_straightAt, .ref 1016, .long m_fitUp, .long m_fitDown, .long m_worstUp, .long m_worstDown, .ref 1017, .int m_walkLink, .int (nI a), .int (nI b), .int m_walkMany, .ref 1018, .ref 1019, .int (nI S.2.2), .ref 1020, .int m_actMany], ia 64 (ax_tab 0), ia 64 (ax_tab 1), z3, ia 16 q4, z5, z6, z7, z8, z9, z10, z11, z12, z13, z14, z15, z16, z17, ia 128 (upd (ovl S.1 128 q18) pl a2), ia 128 (putA q19 S.2.1 S.2.2), z20])) dX11_meets_32 rfl (ix_nI (by omega) (by decide)) rfl ?_
      refine ab_aload_n dX11_meets_33 rfl ?_
      refine ab_getf dX11_meets_34 fl_X11_91 rfl rfl ?_
      refine ab_aload_n dX11_meets_37 rfl ?_
      refine ab_getf dX11_meets_38 fl_X11_544 rfl rfl ?_
      refine ab_iload_n dX11_meets_41 rfl ?_
      refine ab_iast (w1 := (wc, [ob 9 [.int m_thrown, .int m_trouble, .int m_fault, .int m_where, .ref 1001, .ref 1002, .int 40, .ref 1003, .int m_taped, .int m_linkMany, .int m_tracerMany, .int m_pointMany, .int m_pairMany, .ref 1004, .ref 1005, .ref 1006, .ref 1007, .int m_readLinks, .int m_readTracers, .int m_readPoints, .int m_readPairs, .ref 1008, .ref 1009, .ref 1010, .ref 1011, .int m_textLong, .int m_at, .int m_spot, .int m_token, .int m_whole, .int m_readFault, .int m_readPlace, .int m_value, .long (Ml_n (nI (pl / 2))), .long (Ml_c (nI (pl / 2))), .long (Ml_d (nI (pl / 2))), .long (Ml_s q4 m_walkLink (nI (pl / 2))), .long (Ml_e q4 m_walkLink (nI (pl / 2))), .long (Ml_k q4 m_walkLink (nI (pl / 2))), .long (Ml_x q4 m_walkLink (nI (pl / 2))), .long (Ml_y q4 m_walkLink (nI (pl / 2))), .long (Int32.toInt64 (Bg q4 m_walkLink)), .long (Int32.toInt64 (Ba q4 m_walkLink)), .ref 1012, .ref 1013, .ref 1014, .int m_curveMany, .ref 1015, .int m_cornerMany, .int m_straightAt, .ref 1016, .long m_fitUp, .long m_fitDown, .long m_worstUp, .long m_worstDown, .ref 1017, .int m_walkLink, .int (nI a), .int (nI b), .int m_walkMany, .ref 1018, .ref 1019, .int (nI S.2.2), .ref 1020, .int m_actMany], ia 64 (ax_tab 0), ia 64 (ax_tab 1), z3, ia 16 q4, z5, z6, z7, z8, z9, z10, z11, z12, z13, z14, z15, z16, z17, ia 128 (upd (ovl S.1 128 q18) pl a2), ia 128 (upd (putA q19 S.2.1 S.2.2) S.2.2 (nI pl)), z20])) dX11_meets_42 rfl (ix_nI (by have := hJ h_1; omega) (by decide)) rfl ?_
      refine ab_aload_n dX11_meets_43 rfl ?_
      refine ab_dup rfl dX11_meets_44 ?_
      refine ab_getf dX11_meets_45 fl_X11_544 rfl rfl ?_
      refine ab_iconst (v := 1) dX11_meets_48 (by decide) ?_
      refine ab_iadd dX11_meets_49 ?_
      refine ab_topi (v := (nI (S.2.2 + 1))) (nI_1 _) ?_
      refine ab_putf (w1 := (wc, [ob 9 [.int m_thrown, .int m_trouble, .int m_fault, .int m_where, .ref 1001, .ref 1002, .int 40, .ref 1003, .int m_taped, .int m_linkMany, .int m_tracerMany, .int m_pointMany, .int m_pairMany, .ref 1004, .ref 1005, .ref 1006, .ref 1007, .int m_readLinks, .int m_readTracers, .int m_readPoints, .int m_readPairs, .ref 1008, .ref 1009, .ref 1010, .ref 1011, .int m_textLong, .int m_at, .int m_spot, .int m_token, .int m_whole, .int m_readFault, .int m_readPlace, .int m_value, .long (Ml_n (nI (pl / 2))), .long (Ml_c (nI (pl / 2))), .long (Ml_d (nI (pl / 2))), .long (Ml_s q4 m_walkLink (nI (pl / 2))), .long (Ml_e q4 m_walkLink (nI (pl / 2))), .long (Ml_k q4 m_walkLink (nI (pl / 2))), .long (Ml_x q4 m_walkLink (nI (pl / 2))), .long (Ml_y q4 m_walkLink (nI (pl / 2))), .long (Int32.toInt64 (Bg q4 m_walkLink)), .long (Int32.toInt64 (Ba q4 m_walkLink)), .ref 1012, .ref 1013, .ref 1014, .int m_curveMany, .ref 1015, .int m_cornerMany, .int m_straightAt, .ref 1016, .long m_fitUp, .long m_fitDown, .long m_worstUp, .long m_worstDown, .ref 1017, .int m_walkLink, .int (nI a), .int (nI b), .int m_walkMany, .ref 1018, .ref 1019, .int (nI (S.2.2 + 1)), .ref 1020, .int m_actMany], ia 64 (ax_tab 0), ia 64 (ax_tab 1), z3, ia 16 q4, z5, z6, z7, z8, z9, z10, z11, z12, z13, z14, z15, z16, z17, ia 128 (upd (ovl S.1 128 q18) pl a2), ia 128 (upd (putA q19 S.2.1 S.2.2) S.2.2 (nI pl)), z20])) dX11_meets_50 fl_X11_544 rfl (Nat.le_of_ble_eq_true rfl) (fun _ => ⟨rfl, rfl⟩) rfl ?_
      exact ab_vret dX11_meets_53 rfl (by decide) ⟨(fun i => [(Ml_n (nI (pl / 2))), (Ml_c (nI (pl / 2))), (Ml_d (nI (pl / 2))), (Ml_s q4 m_walkLink (nI (pl / 2))), (Ml_e q4 m_walkLink (nI (pl / 2))), (Ml_k q4 m_walkLink (nI (pl / 2))), (Ml_x q4 m_walkLink (nI (pl / 2))), (Ml_y q4 m_walkLink (nI (pl / 2))), (Int32.toInt64 (Bg q4 m_walkLink)), (Int32.toInt64 (Ba q4 m_walkLink))].getD (i - 33) 0), rfl, by rw [mtS_t h_1 ((h_p _).mpr c_2), ovl_upd (by omega), putA_u]; rfl⟩
    · refine ab_ifne 26 dX11_meets_22 (by decide) (fun h_5 => absurd (by decide) h_5) (fun h_5 => ?_)
      exact ab_vret dX11_meets_25 rfl (by decide) ⟨(fun i => [(Ml_n (nI (pl / 2))), (Ml_c (nI (pl / 2))), (Ml_d (nI (pl / 2))), (Ml_s q4 m_walkLink (nI (pl / 2))), (Ml_e q4 m_walkLink (nI (pl / 2))), (Ml_k q4 m_walkLink (nI (pl / 2))), (Ml_x q4 m_walkLink (nI (pl / 2))), (Ml_y q4 m_walkLink (nI (pl / 2))), (Int32.toInt64 (Bg q4 m_walkLink)), (Int32.toInt64 (Ba q4 m_walkLink))].getD (i - 33) 0), rfl, by rw [mtS_f (fun z => c_3 ((h_p _).mp z.2))]; rfl⟩
set_option maxHeartbeats 800000 in
theorem lp_aw {wc : List ax_E} {m_thrown m_trouble m_fault m_where m_taped m_linkMany m_tracerMany m_pointMany m_pairMany m_readLinks m_readTracers m_readPoints m_readPairs m_textLong m_at m_spot m_token m_whole m_readFault m_readPlace m_value m_curveMany m_cornerMany m_straightAt m_walkLink m_walkMany m_actMany a1 a2 : Int32} {m_fitUp m_fitDown m_worstUp m_worstDown : Int64} {z3 z5 z6 z7 z8 z9 z10 z11 z12 z13 z14 z15 z16 z17 z20 : ax_E} {q4 q18 q19 : Nat → Int32} {a b : Nat} {p d : Nat → Bool} {Q : Option Value → ax_W → Prop} (h_i : 0 ≤ m_walkLink ∧ m_walkLink < m_linkMany) (h_l : 0 ≤ m_linkMany ∧ m_linkMany ≤ nI 4) (h_p : ∀ k, p k = true ↔ lawM q4 m_walkLink k) (h_d : ∀ k, d k = true ↔ lawM q4 m_walkLink k ∧ Ml_k q4 m_walkLink (nI k) = 0) : ∀ (n i : Nat) (s : BS) (gm : Nat → Int64), i + n = 80 → JS i s → (∀ gm : Nat → Int64, Ab M_X11_away Q (0, 0) 194 [(2, .int a2), (1, .int a1), (0, .ref 1000)] [] (wc, [ob 9 [.int m_thrown, .int m_trouble, .int m_fault, .int m_where, .ref 1001, .ref 1002, .int 40, .ref 1003, .int m_taped, .int m_linkMany, .int m_tracerMany, .int m_pointMany, .int m_pairMany, .ref 1004, .ref 1005, .ref 1006, .ref 1007, .int m_readLinks, .int m_readTracers, .int m_readPoints, .int m_readPairs, .ref 1008, .ref 1009, .ref 1010, .ref 1011, .int m_textLong, .int m_at, .int m_spot, .int m_token, .int m_whole, .int m_readFault, .int m_readPlace, .int m_value, .long (gm 33), .long (gm 34), .long (gm 35), .long (gm 36), .long (gm 37), .long (gm 38), .long (gm 39), .long (gm 40), .long (gm 41), .long (gm 42), .ref 1012, .ref 1013, .ref 1014, .int m_curveMany, .ref 1015, .int m_cornerMany, .int m_straightAt, .ref 1016, .long m_fitUp, .long m_fitDown, .long m_worstUp, .long m_worstDown, .ref 1017, .int m_walkLink, .int (nI a), .int (nI b), .int m_walkMany, .ref 1018, .ref 1019, .int (nI (itr (bsS p d) n i s).2.2), .ref 1020, .int m_actMany], ia 64 (ax_tab 0), ia 64 (ax_tab 1), z3, ia 16 q4, z5, z6, z7, z8, z9, z10, z11, z12, z13, z14, z15, z16, z17, ia 128 (ovl (itr (bsS p d) n i s).1 128 q18), ia 128 (putA q19 (itr (bsS p d) n i s).2.1 (itr (bsS p d) n i s).2.2), z20])) → Ab M_X11_away Q (0, 0) 87 [(3, .int (nI i)), (2, .int a2), (1, .int a1), (0, .ref 1000)] [] (wc, [ob 9 [.int m_thrown, .int m_trouble, .int m_fault, .int m_where, .ref 1001, .ref 1002, .int 40, .ref 1003, .int m_taped, .int m_linkMany, .int m_tracerMany, .int m_pointMany, .int m_pairMany, .ref 1004, .ref 1005, .ref 1006, .ref 1007, .int m_readLinks, .int m_readTracers, .int m_readPoints, .int m_readPairs, .ref 1008, .ref 1009, .ref 1010, .ref 1011, .int m_textLong, .int m_at, .int m_spot, .int m_token, .int m_whole, .int m_readFault, .int m_readPlace, .int m_value, .long (gm 33), .long (gm 34), .long (gm 35), .long (gm 36), .long (gm 37), .long (gm 38), .long (gm 39), .long (gm 40), .long (gm 41), .long (gm 42), .ref 1012, .ref 1013, .ref 1014, .int m_curveMany, .ref 1015, .int m_cornerMany, .int m_straightAt, .ref 1016, .long m_fitUp, .long m_fitDown, .long m_worstUp, .long m_worstDown, .ref 1017, .int m_walkLink, .int (nI a), .int (nI b), .int m_walkMany, .ref 1018, .ref 1019, .int (nI s.2.2), .ref 1020, .int m_actMany], ia 64 (ax_tab 0), ia 64 (ax_tab 1), z3, ia 16 q4, z5, z6, z7, z8, z9, z10, z11, z12, z13, z14, z15, z16, z17, ia 128 (ovl s.1 128 q18), ia 128 (putA q19 s.2.1 s.2.2), z20]) := by
  intro n
  induction n with
  | zero =>
    intro i s gm hi hJ hx
    have h80 := jS_80 hJ
    refine ab_iload_n dX11_away_87 rfl ?_
    refine ab_aload_n dX11_away_88 rfl ?_
    refine ab_getf dX11_away_89 fl_X11_544 rfl rfl ?_
    refine ab_icmpge 194 dX11_away_92 (by decide) (fun h_1 => ?_) (fun h_1 => absurd (nI_le (by omega) (by omega)) h_1)
    rw [bs_stop _ _ _ (by omega)] at hx
    refine ab_pick [1, 2, 3] rfl ?_
    exact hx gm
  | succ n ih =>
    intro i s gm hi hJ hx
    have h80 := jS_80 hJ
    by_cases hlt : i < s.2.2
    case neg =>
      refine ab_iload_n dX11_away_87 rfl ?_
      refine ab_aload_n dX11_away_88 rfl ?_
      refine ab_getf dX11_away_89 fl_X11_544 rfl rfl ?_
      refine ab_icmpge 194 dX11_away_92 (by decide) (fun h_1 => ?_) (fun h_1 => absurd (nI_le (by omega) (by omega)) h_1)
      rw [bs_stop _ _ _ (by omega)] at hx
      refine ab_pick [1, 2, 3] rfl ?_
      exact hx gm
    obtain ⟨pl, hpl⟩ : ∃ pl, pl = s.2.1 i := ⟨_, rfl⟩
    have hp8 : pl < 80 := by rw [hpl]; exact (hJ.2.1 i hlt).1
    have hv := jS_v hJ hlt
    rw [← hpl] at hv
    have hnx := nx_lt (a := pl / 2) (by omega)
    have hpv := pv_lt (a := pl / 2) (by omega)
    have hJ0 := jS_le hJ (show i ≤ i + 1 by omega)
    have hJ1 := jS_mt (law := p) (pl := 2 * nx (pl / 2) + pl % 2) hJ0 (by omega) (by omega) hv
    have hJ2 := jS_mt (law := p) (pl := 2 * pv (pl / 2) + pl % 2) hJ1 (by omega) (by omega) hv
    have hJ3 := jS_mt (law := p) (pl := pl / 2 * 2 + 1 - pl % 2) hJ2 (by omega) (by omega) hv
    refine ab_iload_n dX11_away_87 rfl ?_
    refine ab_aload_n dX11_away_88 rfl ?_
    refine ab_getf dX11_away_89 fl_X11_544 rfl rfl ?_
    refine ab_icmpge 194 dX11_away_92 (by decide) (fun h_1 => absurd h_1 (nI_ge (by omega) (by omega))) (fun h_1 => ?_)
    refine ab_aload_n dX11_away_95 rfl ?_
    refine ab_getf dX11_away_96 fl_X11_91 rfl rfl ?_
    refine ab_iload_n dX11_away_99 rfl ?_
    refine ab_iald (j := i) dX11_away_100 rfl (ix_nI (by omega) (by decide)) ?_
    refine ab_topi (v := (nI pl)) (by rw [putA_lt (by omega), hpl]) ?_
    refine ab_istore (la' := [(4, .int (nI pl)), (3, .int (nI i)), (2, .int a2), (1, .int a1), (0, .ref 1000)]) dX11_away_101 (by decide) rfl ?_
    refine ab_aload_n dX11_away_103 rfl ?_
    refine ab_getf dX11_away_104 fl_X11_88 rfl rfl ?_
    refine ab_iload dX11_away_107 rfl ?_
    refine ab_iald (j := pl) dX11_away_109 rfl (ix_nI (by omega) (by decide)) ?_
    refine ab_topi (v := (s.1 pl)) (ovl_lt (by omega)) ?_
    refine ab_iconst (v := 1) dX11_away_110 (by decide) ?_
    refine ab_iadd dX11_away_111 ?_
    refine ab_istore (la' := [(5, .int ((s.1 pl) + 1)), (4, .int (nI pl)), (3, .int (nI i)), (2, .int a2), (1, .int a1), (0, .ref 1000)]) dX11_away_112 (by decide) rfl ?_
    refine ab_aload_n dX11_away_114 rfl ?_
    refine ab_iconst (v := 2) dX11_away_115 (by decide) ?_
    refine ab_aload_n dX11_away_116 rfl ?_
    refine ab_iload dX11_away_117 rfl ?_
    refine ab_iconst (v := 2) dX11_away_119 (by decide) ?_
    refine ab_idiv dX11_away_120 (by decide) ?_
    refine ab_topi (v := (nI (pl / 2))) (pk_div (d := 2) (by omega) (by decide) (by decide)) ?_
    refine ab_iconst (v := 1) dX11_away_121 (by decide) ?_
    refine ab_callV (As := [.int (nI (pl / 2)), .int 1]) (rest := [.int 2, .ref 1000]) dX11_away_122 mv_X11_nextAngle ml_X11_337 ⟨by decide, by decide, rfl, rfl, rfl⟩ (by decide) rfl rfl (Nat.le_of_ble_eq_true rfl) rfl c_X11_nextAngle_p ?_
    rintro r w' ⟨rfl, rfl⟩
    refine ab_topi (v := (nI (nx (pl / 2)))) (mn_next_nI (by omega)) ?_
    refine ab_imul dX11_away_125 ?_
    refine ab_topi (v := (nI (2 * (nx (pl / 2))))) (pk_mul 2 _) ?_
    refine ab_iload dX11_away_126 rfl ?_
    refine ab_iconst (v := 2) dX11_away_128 (by decide) ?_
    refine ab_irem dX11_away_129 (by decide) ?_
    refine ab_topi (v := (nI (pl % 2))) (pk_rem (d := 2) (by omega) (by decide) (by decide)) ?_
    refine ab_iadd dX11_away_130 ?_
    refine ab_topi (v := (nI ((2 * (nx (pl / 2))) + (pl % 2)))) (nI_add _ _) ?_
    refine ab_iload dX11_away_131 rfl ?_
    refine ab_callV (As := [.int (nI ((2 * (nx (pl / 2))) + (pl % 2))), .int ((s.1 pl) + 1)]) (rest := []) dX11_away_133 mv_X11_meets ml_X11_547 ⟨by decide, by decide, rfl, rfl, rfl⟩ (by decide) rfl rfl (Nat.le_of_ble_eq_true rfl) rfl (c_X11_meets (S := s) (pl := ((2 * (nx (pl / 2))) + (pl % 2))) (gm := gm) (q18 := q18) (q19 := q19) (p := p) h_i h_l h_p (by omega) (jS_lt hJ0 (by omega))) ?_
    rintro r w' ⟨gn_2, rfl, rfl⟩
    refine ab_aload_n dX11_away_136 rfl ?_
    refine ab_iconst (v := 2) dX11_away_137 (by decide) ?_
    refine ab_aload_n dX11_away_138 rfl ?_
    refine ab_iload dX11_away_139 rfl ?_
    refine ab_iconst (v := 2) dX11_away_141 (by decide) ?_
    refine ab_idiv dX11_away_142 (by decide) ?_
    refine ab_topi (v := (nI (pl / 2))) (pk_div (d := 2) (by omega) (by decide) (by decide)) ?_
    refine ab_iconst (v := -1) dX11_away_143 (by decide) ?_
    refine ab_callV (As := [.int (nI (pl / 2)), .int (-1)]) (rest := [.int 2, .ref 1000]) dX11_away_144 mv_X11_nextAngle ml_X11_337 ⟨by decide, by decide, rfl, rfl, rfl⟩ (by decide) rfl rfl (Nat.le_of_ble_eq_true rfl) rfl c_X11_nextAngle_m ?_
    rintro r w' ⟨rfl, rfl⟩
    refine ab_topi (v := (nI (pv (pl / 2)))) (mn_prev_nI (by omega)) ?_
    refine ab_imul dX11_away_147 ?_
    refine ab_topi (v := (nI (2 * (pv (pl / 2))))) (pk_mul 2 _) ?_
    refine ab_iload dX11_away_148 rfl ?_
    refine ab_iconst (v := 2) dX11_away_150 (by decide) ?_
    refine ab_irem dX11_away_151 (by decide) ?_
    refine ab_topi (v := (nI (pl % 2))) (pk_rem (d := 2) (by omega) (by decide) (by decide)) ?_
    refine ab_iadd dX11_away_152 ?_
    refine ab_topi (v := (nI ((2 * (pv (pl / 2))) + (pl % 2)))) (nI_add _ _) ?_
    refine ab_iload dX11_away_153 rfl ?_
    refine ab_callV (As := [.int (nI ((2 * (pv (pl / 2))) + (pl % 2))), .int ((s.1 pl) + 1)]) (rest := []) dX11_away_155 mv_X11_meets ml_X11_547 ⟨by decide, by decide, rfl, rfl, rfl⟩ (by decide) rfl rfl (Nat.le_of_ble_eq_true rfl) rfl (c_X11_meets (S := (mtS p ((2 * (nx (pl / 2))) + (pl % 2)) ((s.1 pl) + 1) s)) (pl := ((2 * (pv (pl / 2))) + (pl % 2))) (gm := gn_2) (q18 := q18) (q19 := q19) (p := p) h_i h_l h_p (by omega) (jS_lt hJ1 (by omega))) ?_
    rintro r w' ⟨gn_3, rfl, rfl⟩
    refine ab_aload_n dX11_away_158 rfl ?_
    refine ab_iload dX11_away_159 rfl ?_
    refine ab_iconst (v := 2) dX11_away_161 (by decide) ?_
    refine ab_idiv dX11_away_162 (by decide) ?_
    refine ab_topi (v := (nI (pl / 2))) (pk_div (d := 2) (by omega) (by decide) (by decide)) ?_
    refine ab_callV (As := [.int (nI (pl / 2))]) (rest := []) dX11_away_163 mv_X11_isDead ml_X11_541 ⟨by decide, by decide, rfl, rfl, rfl⟩ (by decide) rfl rfl (Nat.le_of_ble_eq_true rfl) rfl (c_X11_isDead h_i h_l (⟨nI_pos' (by omega), nI_lt (b := 40) (by omega) (by decide)⟩)) ?_
    rintro r w' (⟨c_4, c_5, rfl, rfl⟩ | ⟨c_6, c_7, rfl, rfl⟩ | ⟨c_8, rfl, rfl⟩)
    · refine ab_ifeq 188 dX11_away_166 (by decide) (fun h_9 => ?_) (fun h_9 => absurd (by decide) h_9)
      refine ab_iinc (v := (nI (i + 1))) (la' := [(3, .int (nI (i + 1))), (5, .int ((s.1 pl) + 1)), (4, .int (nI pl)), (2, .int a2), (1, .int a1), (0, .ref 1000)]) dX11_away_188 rfl (nI_1 _) (by decide) rfl ?_
      refine ab_goto 87 dX11_away_191 (by decide) ?_
      have e : bsS p d i s = (mtS p ((2 * (pv (pl / 2))) + (pl % 2)) ((s.1 pl) + 1) (mtS p ((2 * (nx (pl / 2))) + (pl % 2)) ((s.1 pl) + 1) s)) := by unfold bsS; rw [if_pos hlt, ← hpl]; unfold bsB; rw [if_neg (fun z => c_5 ((h_d _).mp z).2)]
      rw [itr_s, e] at hx
      refine ab_pick [0, 3, 4, 5] rfl ?_
      exact ih (i + 1) (mtS p ((2 * (pv (pl / 2))) + (pl % 2)) ((s.1 pl) + 1) (mtS p ((2 * (nx (pl / 2))) + (pl % 2)) ((s.1 pl) + 1) s)) (fun i => [(Ml_n (nI (pl / 2))), (Ml_c (nI (pl / 2))), (Ml_d (nI (pl / 2))), (Ml_s q4 m_walkLink (nI (pl / 2))), (Ml_e q4 m_walkLink (nI (pl / 2))), (Ml_k q4 m_walkLink (nI (pl / 2))), (Ml_x q4 m_walkLink (nI (pl / 2))), (Ml_y q4 m_walkLink (nI (pl / 2))), (Int32.toInt64 (Bg q4 m_walkLink)), (Int32.toInt64 (Ba q4 m_walkLink))].getD (i - 33) 0) (by omega) hJ2 hx
    · refine ab_ifeq 188 dX11_away_166 (by decide) (fun h_10 => absurd h_10 (by decide)) (fun h_10 => ?_)
      refine ab_aload_n dX11_away_169 rfl ?_
      refine ab_iload dX11_away_170 rfl ?_
      refine ab_iconst (v := 2) dX11_away_172 (by decide) ?_
      refine ab_idiv dX11_away_173 (by decide) ?_
      refine ab_topi (v := (nI (pl / 2))) (pk_div (d := 2) (by omega) (by decide) (by decide)) ?_
      refine ab_iconst (v := 2) dX11_away_174 (by decide) ?_
      refine ab_imul dX11_away_175 ?_
      refine ab_topi (v := (nI ((pl / 2) * 2))) (pk_mul _ 2) ?_
      refine ab_iconst (v := 1) dX11_away_176 (by decide) ?_
      refine ab_iadd dX11_away_177 ?_
      refine ab_topi (v := (nI (((pl / 2) * 2) + 1))) (nI_1 _) ?_
      refine ab_iload dX11_away_178 rfl ?_
      refine ab_iconst (v := 2) dX11_away_180 (by decide) ?_
      refine ab_irem dX11_away_181 (by decide) ?_
      refine ab_topi (v := (nI (pl % 2))) (pk_rem (d := 2) (by omega) (by decide) (by decide)) ?_
      refine ab_isub dX11_away_182 ?_
      refine ab_topi (v := (nI ((((pl / 2) * 2) + 1) - (pl % 2)))) (pk_sub (by omega)) ?_
      refine ab_iload dX11_away_183 rfl ?_
      refine ab_callV (As := [.int (nI ((((pl / 2) * 2) + 1) - (pl % 2))), .int ((s.1 pl) + 1)]) (rest := []) dX11_away_185 mv_X11_meets ml_X11_547 ⟨by decide, by decide, rfl, rfl, rfl⟩ (by decide) rfl rfl (Nat.le_of_ble_eq_true rfl) rfl (c_X11_meets (S := (mtS p ((2 * (pv (pl / 2))) + (pl % 2)) ((s.1 pl) + 1) (mtS p ((2 * (nx (pl / 2))) + (pl % 2)) ((s.1 pl) + 1) s))) (pl := ((((pl / 2) * 2) + 1) - (pl % 2))) (gm := (fun i => [(Ml_n (nI (pl / 2))), (Ml_c (nI (pl / 2))), (Ml_d (nI (pl / 2))), (Ml_s q4 m_walkLink (nI (pl / 2))), (Ml_e q4 m_walkLink (nI (pl / 2))), (Ml_k q4 m_walkLink (nI (pl / 2))), (Ml_x q4 m_walkLink (nI (pl / 2))), (Ml_y q4 m_walkLink (nI (pl / 2))), (Int32.toInt64 (Bg q4 m_walkLink)), (Int32.toInt64 (Ba q4 m_walkLink))].getD (i - 33) 0)) (q18 := q18) (q19 := q19) (p := p) h_i h_l h_p (by omega) (jS_lt hJ2 (by omega))) ?_
      rintro r w' ⟨gn_11, rfl, rfl⟩
      refine ab_iinc (v := (nI (i + 1))) (la' := [(3, .int (nI (i + 1))), (5, .int ((s.1 pl) + 1)), (4, .int (nI pl)), (2, .int a2), (1, .int a1), (0, .ref 1000)]) dX11_away_188 rfl (nI_1 _) (by decide) rfl ?_
      refine ab_goto 87 dX11_away_191 (by decide) ?_
      have e : bsS p d i s = (mtS p ((((pl / 2) * 2) + 1) - (pl % 2)) ((s.1 pl) + 1) (mtS p ((2 * (pv (pl / 2))) + (pl % 2)) ((s.1 pl) + 1) (mtS p ((2 * (nx (pl / 2))) + (pl % 2)) ((s.1 pl) + 1) s))) := by unfold bsS; rw [if_pos hlt, ← hpl]; unfold bsB; rw [if_pos ((h_d _).mpr ⟨c_6, c_7⟩)]
      rw [itr_s, e] at hx
      refine ab_pick [0, 3, 4, 5] rfl ?_
      exact ih (i + 1) (mtS p ((((pl / 2) * 2) + 1) - (pl % 2)) ((s.1 pl) + 1) (mtS p ((2 * (pv (pl / 2))) + (pl % 2)) ((s.1 pl) + 1) (mtS p ((2 * (nx (pl / 2))) + (pl % 2)) ((s.1 pl) + 1) s))) gn_11 (by omega) hJ3 hx
    · refine ab_ifeq 188 dX11_away_166 (by decide) (fun h_12 => ?_) (fun h_12 => absurd (by decide) h_12)
      refine ab_iinc (v := (nI (i + 1))) (la' := [(3, .int (nI (i + 1))), (5, .int ((s.1 pl) + 1)), (4, .int (nI pl)), (2, .int a2), (1, .int a1), (0, .ref 1000)]) dX11_away_188 rfl (nI_1 _) (by decide) rfl ?_
      refine ab_goto 87 dX11_away_191 (by decide) ?_
      have e : bsS p d i s = (mtS p ((2 * (pv (pl / 2))) + (pl % 2)) ((s.1 pl) + 1) (mtS p ((2 * (nx (pl / 2))) + (pl % 2)) ((s.1 pl) + 1) s)) := by unfold bsS; rw [if_pos hlt, ← hpl]; unfold bsB; rw [if_neg (fun z => c_8 ((h_d _).mp z).1)]
      rw [itr_s, e] at hx
      refine ab_pick [0, 3, 4, 5] rfl ?_
      exact ih (i + 1) (mtS p ((2 * (pv (pl / 2))) + (pl % 2)) ((s.1 pl) + 1) (mtS p ((2 * (nx (pl / 2))) + (pl % 2)) ((s.1 pl) + 1) s)) (fun i => [(Ml_n (nI (pl / 2))), (Ml_c (nI (pl / 2))), (Ml_d (nI (pl / 2))), (Ml_s q4 m_walkLink (nI (pl / 2))), (Ml_e q4 m_walkLink (nI (pl / 2))), (Ml_k q4 m_walkLink (nI (pl / 2))), (Ml_x q4 m_walkLink (nI (pl / 2))), (Ml_y q4 m_walkLink (nI (pl / 2))), (Int32.toInt64 (Bg q4 m_walkLink)), (Int32.toInt64 (Ba q4 m_walkLink))].getD (i - 33) 0) (by omega) hJ2 hx
