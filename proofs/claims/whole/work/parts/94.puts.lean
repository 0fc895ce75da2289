abbrev WC0 : List ax_E := [ob 8 [.int 0, .ref 1, .ref 4, .ref 7, .ref 10, .ref 11, .ref 12, .ref 18, .ref 25, .ref 29], ob 6 [.ref 2, .ref 3, .int 0, .int 0, .int 0, .int 0, .int (-1)], ba 700 (fun _ => 0), ia 4 (fun _ => 0), ob 2 [.ref 5, .ref 6], ia 56 (fun _ => 0), ia 4 (fun _ => 0), ob 2 [.ref 8, .ref 9], ia 56 (fun _ => 0), ia 4 (fun _ => 0), ob 3 [.int 1, .int 1, .int 1, .int 1], ob 5 [.long 1, .long 0, .long 0, .long 0, .long 1, .long 1, .long 1, .long 1, .long 1, .long 0, .long 0, .long 0, .long 0, .long 0, .long 0, .long 0], ob 1 [.ref 13, .ref 14, .ref 15, .ref 16, .ref 17, .int 0, .int 0, .int 0, .int 0, .int 0], ia 40 (fun _ => 0), ia 40 (fun _ => 0), ia 40 (fun _ => 0), ia 40 (fun _ => 0), ia 81 (fun _ => 0), ob 4 [.ref 19, .ref 20, .ref 21, .ref 22, .ref 23, .ref 24, .int 0, .int 0, .int 0, .int 0, .int 0, .long 1, .long 0], ja 4 (fun _ => 0), ja 4 (fun _ => 0), ja 4 (fun _ => 0), ja 4 (fun _ => 0), ja 19 (fun _ => 0), ja 19 (fun _ => 0), ob 7 [.ref 26, .ref 27, .ref 28, .int 0, .int (-1), .int 0, .int 0, .int 0], ia 40 (fun _ => 0), ia 80 (fun _ => 0), ia 80 (fun _ => 0), ob 0 [.ref 30, .ref 31, .ref 32, .int 0, .int 0], ia 10 (fun _ => 0), ia 10 (fun _ => 0), ia 10 (fun _ => 0)]
/-! the turn, as the reference makes it -/
def insP (p q : Int32) : Nat → (Nat → Int32) → (Nat → Int32) → (Nat → Int32) × (Nat → Int32)
  | 0, f, g => (upd f 0 p, upd g 0 q)
  | k + 1, f, g => if p * g k < f k * q then insP p q k (upd f (k + 1) (f k)) (upd g (k + 1) (g k)) else (upd f (k + 1) p, upd g (k + 1) q)
def lf (L : List Int32) : Nat → Int32 := fun j => L.getD j 0
def setX (L : List Int32) (k : Nat) (v : Int32) : List Int32 := if k < L.length then L.set k v else L ++ [v]
def insL (p q : Int32) : Nat → List Int32 → List Int32 → List Int32 × List Int32
  | 0, L, M => (setX L 0 p, setX M 0 q)
  | k + 1, L, M => if p * M.getD k 0 < L.getD k 0 * q then insL p q k (setX L (k + 1) (L.getD k 0)) (setX M (k + 1) (M.getD k 0)) else (setX L (k + 1) p, setX M (k + 1) q)
theorem upd_lf {L : List Int32} {k : Nat} {v : Int32} (h : k ≤ L.length) : upd (lf L) k v = lf (setX L k v) := by
  funext j
  unfold upd lf setX
  by_cases c : k < L.length
  · rw [if_pos c]
    by_cases e : j = k
    · subst e; rw [if_pos rfl]; simp [List.getD, c]
    · rw [if_neg e]; simp [List.getD, List.getElem?_set, Ne.symm e]
  · rw [if_neg c]
    have ek : k = L.length := by omega
    by_cases e : j = k
    · subst e; rw [if_pos rfl]; simp [List.getD, ek]
    · rw [if_neg e]
      by_cases z : j < L.length
      · simp [List.getD, List.getElem?_append_left z]
      · have z2 : L.length + 1 ≤ j := by omega
        simp [List.getD, List.getElem?_eq_none (by omega : L.length ≤ j), List.getElem?_eq_none (by simp; omega : (L ++ [v]).length ≤ j)]
theorem setX_len {L : List Int32} {k : Nat} {v : Int32} : L.length ≤ (setX L k v).length := by
  unfold setX; split <;> simp
theorem ins_lf (p q : Int32) : ∀ (k : Nat) (L M : List Int32), k ≤ L.length → k ≤ M.length → insP p q k (lf L) (lf M) = (lf (insL p q k L M).1, lf (insL p q k L M).2)
  | 0, L, M, h1, h2 => by
    show (upd (lf L) 0 p, upd (lf M) 0 q) = (lf (setX L 0 p), lf (setX M 0 q))
    rw [upd_lf h1, upd_lf h2]
  | k + 1, L, M, h1, h2 => by
    show (if p * lf M k < lf L k * q then _ else _) = _
    unfold insL
    by_cases c : p * M.getD k 0 < L.getD k 0 * q
    · rw [if_pos (show p * lf M k < lf L k * q from c), if_pos c, upd_lf h1, upd_lf h2]
      exact ins_lf p q k _ _ (Nat.le_trans (by omega) (setX_len (L := L))) (Nat.le_trans (by omega) (setX_len (L := M)))
    · rw [if_neg (show ¬ p * lf M k < lf L k * q from c), if_neg c, upd_lf h1, upd_lf h2]
theorem lp_puts {wc : List ax_E} {m_thrown m_trouble m_fault m_where m_taped m_linkMany m_tracerMany m_pointMany m_pairMany m_readLinks m_readTracers m_readPoints m_readPairs m_textLong m_at m_spot m_token m_whole m_readFault m_readPlace m_value m_curveMany m_cornerMany m_straightAt m_walkLink m_walkAngle m_walkBranch m_walkMany m_lined m_actMany a1 a2 : Int32} {m_n m_c m_d m_s m_e m_k m_x m_y m_g m_a m_fitUp m_fitDown m_worstUp m_worstDown : Int64} {z3 z4 z5 z6 z7 z8 z9 z10 z11 z12 z13 z14 z15 z16 z17 z18 z19 z20 : ax_E} {n : Nat} {Q : Option Value → ax_W → Prop} (hn : n < 64) : ∀ (k : Nat) (f g : Nat → Int32), k ≤ n → Q none (wc, [ob 9 [.int m_thrown, .int m_trouble, .int m_fault, .int m_where, .ref 1001, .ref 1002, .int (nI (n + 1)), .ref 1003, .int m_taped, .int m_linkMany, .int m_tracerMany, .int m_pointMany, .int m_pairMany, .ref 1004, .ref 1005, .ref 1006, .ref 1007, .int m_readLinks, .int m_readTracers, .int m_readPoints, .int m_readPairs, .ref 1008, .ref 1009, .ref 1010, .ref 1011, .int m_textLong, .int m_at, .int m_spot, .int m_token, .int m_whole, .int m_readFault, .int m_readPlace, .int m_value, .long m_n, .long m_c, .long m_d, .long m_s, .long m_e, .long m_k, .long m_x, .long m_y, .long m_g, .long m_a, .ref 1012, .ref 1013, .ref 1014, .int m_curveMany, .ref 1015, .int m_cornerMany, .int m_straightAt, .ref 1016, .long m_fitUp, .long m_fitDown, .long m_worstUp, .long m_worstDown, .ref 1017, .int m_walkLink, .int m_walkAngle, .int m_walkBranch, .int m_walkMany, .ref 1018, .ref 1019, .int m_lined, .ref 1020, .int m_actMany], ia 64 ((insP a1 a2 k f g).1), ia 64 ((insP a1 a2 k f g).2), z3, z4, z5, z6, z7, z8, z9, z10, z11, z12, z13, z14, z15, z16, z17, z18, z19, z20]) → Ab M_X11_puts Q (0, 0) 5 [(3, .int (nI k)), (2, .int a2), (1, .int a1), (0, .ref 1000)] [] (wc, [ob 9 [.int m_thrown, .int m_trouble, .int m_fault, .int m_where, .ref 1001, .ref 1002, .int (nI n), .ref 1003, .int m_taped, .int m_linkMany, .int m_tracerMany, .int m_pointMany, .int m_pairMany, .ref 1004, .ref 1005, .ref 1006, .ref 1007, .int m_readLinks, .int m_readTracers, .int m_readPoints, .int m_readPairs, .ref 1008, .ref 1009, .ref 1010, .ref 1011, .int m_textLong, .int m_at, .int m_spot, .int m_token, .int m_whole, .int m_readFault, .int m_readPlace, .int m_value, .long m_n, .long m_c, .long m_d, .long m_s, .long m_e, .long m_k, .long m_x, .long m_y, .long m_g, .long m_a, .ref 1012, .ref 1013, .ref 1014, .int m_curveMany, .ref 1015, .int m_cornerMany, .int m_straightAt, .ref 1016, .long m_fitUp, .long m_fitDown, .long m_worstUp, .long m_worstDown, .ref 1017, .int m_walkLink, .int m_walkAngle, .int m_walkBranch, .int m_walkMany, .ref 1018, .ref 1019, .int m_lined, .ref 1020, .int m_actMany], ia 64 f, ia 64 g, z3, z4, z5, z6, z7, z8, z9, z10, z11, z12, z13, z14, z15, z16, z17, z18, z19, z20]) := by
  intro k
  induction k with
  | zero =>
    intro f g hk hx
    refine ab_iload_n dX11_puts_5 rfl ?_
    refine ab_ifle 66 dX11_puts_6 (by decide) (fun h_1 => ?_) (fun h_1 => absurd (by decide) h_1)
    refine ab_aload_n dX11_puts_66 rfl ?_
    refine ab_getf dX11_puts_67 fl_X11_32 rfl rfl ?_
    refine ab_iload_n dX11_puts_70 rfl ?_
    refine ab_iload_n dX11_puts_71 rfl ?_
    refine ab_iast (w1 := (wc, [ob 9 [.int m_thrown, .int m_trouble, .int m_fault, .int m_where, .ref 1001, .ref 1002, .int (nI n), .ref 1003, .int m_taped, .int m_linkMany, .int m_tracerMany, .int m_pointMany, .int m_pairMany, .ref 1004, .ref 1005, .ref 1006, .ref 1007, .int m_readLinks, .int m_readTracers, .int m_readPoints, .int m_readPairs, .ref 1008, .ref 1009, .ref 1010, .ref 1011, .int m_textLong, .int m_at, .int m_spot, .int m_token, .int m_whole, .int m_readFault, .int m_readPlace, .int m_value, .long m_n, .long m_c, .long m_d, .long m_s, .long m_e, .long m_k, .long m_x, .long m_y, .long m_g, .long m_a, .ref 1012, .ref 1013, .ref 1014, .int m_curveMany, .ref 1015, .int m_cornerMany, .int m_straightAt, .ref 1016, .long m_fitUp, .long m_fitDown, .long m_worstUp, .long m_worstDown, .ref 1017, .int m_walkLink, .int m_walkAngle, .int m_walkBranch, .int m_walkMany, .ref 1018, .ref 1019, .int m_lined, .ref 1020, .int m_actMany], ia 64 (upd f 0 a1), ia 64 g, z3, z4, z5, z6, z7, z8, z9, z10, z11, z12, z13, z14, z15, z16, z17, z18, z19, z20])) dX11_puts_72 rfl (ix_c (by decide)) rfl ?_
    refine ab_aload_n dX11_puts_73 rfl ?_
    refine ab_getf dX11_puts_74 fl_X11_36 rfl rfl ?_
    refine ab_iload_n dX11_puts_77 rfl ?_
    refine ab_iload_n dX11_puts_78 rfl ?_
    refine ab_iast (w1 := (wc, [ob 9 [.int m_thrown, .int m_trouble, .int m_fault, .int m_where, .ref 1001, .ref 1002, .int (nI n), .ref 1003, .int m_taped, .int m_linkMany, .int m_tracerMany, .int m_pointMany, .int m_pairMany, .ref 1004, .ref 1005, .ref 1006, .ref 1007, .int m_readLinks, .int m_readTracers, .int m_readPoints, .int m_readPairs, .ref 1008, .ref 1009, .ref 1010, .ref 1011, .int m_textLong, .int m_at, .int m_spot, .int m_token, .int m_whole, .int m_readFault, .int m_readPlace, .int m_value, .long m_n, .long m_c, .long m_d, .long m_s, .long m_e, .long m_k, .long m_x, .long m_y, .long m_g, .long m_a, .ref 1012, .ref 1013, .ref 1014, .int m_curveMany, .ref 1015, .int m_cornerMany, .int m_straightAt, .ref 1016, .long m_fitUp, .long m_fitDown, .long m_worstUp, .long m_worstDown, .ref 1017, .int m_walkLink, .int m_walkAngle, .int m_walkBranch, .int m_walkMany, .ref 1018, .ref 1019, .int m_lined, .ref 1020, .int m_actMany], ia 64 (upd f 0 a1), ia 64 (upd g 0 a2), z3, z4, z5, z6, z7, z8, z9, z10, z11, z12, z13, z14, z15, z16, z17, z18, z19, z20])) dX11_puts_79 rfl (ix_c (by decide)) rfl ?_
    refine ab_aload_n dX11_puts_80 rfl ?_
    refine ab_dup rfl dX11_puts_81 ?_
    refine ab_getf dX11_puts_82 fl_X11_101 rfl rfl ?_
    refine ab_iconst (v := 1) dX11_puts_85 (by decide) ?_
    refine ab_iadd dX11_puts_86 ?_
    refine ab_topi (v := (nI (n + 1))) (nI_1 _) ?_
    refine ab_putf (w1 := (wc, [ob 9 [.int m_thrown, .int m_trouble, .int m_fault, .int m_where, .ref 1001, .ref 1002, .int (nI (n + 1)), .ref 1003, .int m_taped, .int m_linkMany, .int m_tracerMany, .int m_pointMany, .int m_pairMany, .ref 1004, .ref 1005, .ref 1006, .ref 1007, .int m_readLinks, .int m_readTracers, .int m_readPoints, .int m_readPairs, .ref 1008, .ref 1009, .ref 1010, .ref 1011, .int m_textLong, .int m_at, .int m_spot, .int m_token, .int m_whole, .int m_readFault, .int m_readPlace, .int m_value, .long m_n, .long m_c, .long m_d, .long m_s, .long m_e, .long m_k, .long m_x, .long m_y, .long m_g, .long m_a, .ref 1012, .ref 1013, .ref 1014, .int m_curveMany, .ref 1015, .int m_cornerMany, .int m_straightAt, .ref 1016, .long m_fitUp, .long m_fitDown, .long m_worstUp, .long m_worstDown, .ref 1017, .int m_walkLink, .int m_walkAngle, .int m_walkBranch, .int m_walkMany, .ref 1018, .ref 1019, .int m_lined, .ref 1020, .int m_actMany], ia 64 (upd f 0 a1), ia 64 (upd g 0 a2), z3, z4, z5, z6, z7, z8, z9, z10, z11, z12, z13, z14, z15, z16, z17, z18, z19, z20])) dX11_puts_87 fl_X11_101 rfl (Nat.le_of_ble_eq_true rfl) (fun _ => ⟨rfl, rfl⟩) rfl ?_
    exact ab_vret dX11_puts_90 rfl (by decide) hx
  | succ k ih =>
    intro f g hk hx
    refine ab_iload_n dX11_puts_5 rfl ?_
    refine ab_ifle 66 dX11_puts_6 (by decide) (fun h_1 => absurd h_1 (nI_nle (by omega) (by omega))) (fun h_1 => ?_)
    refine ab_iload_n dX11_puts_9 rfl ?_
    refine ab_aload_n dX11_puts_10 rfl ?_
    refine ab_getf dX11_puts_11 fl_X11_36 rfl rfl ?_
    refine ab_iload_n dX11_puts_14 rfl ?_
    refine ab_iconst (v := 1) dX11_puts_15 (by decide) ?_
    refine ab_isub dX11_puts_16 ?_
    refine ab_topi (v := (nI ((k + 1) - 1))) (pk_sub (b := 1) (by omega)) ?_
    refine ab_topi (v := (nI k)) rfl ?_
    refine ab_iald (j := k) dX11_puts_17 rfl (ix_nI (by omega) (by decide)) ?_
    refine ab_imul dX11_puts_18 ?_
    refine ab_aload_n dX11_puts_19 rfl ?_
    refine ab_getf dX11_puts_20 fl_X11_32 rfl rfl ?_
    refine ab_iload_n dX11_puts_23 rfl ?_
    refine ab_iconst (v := 1) dX11_puts_24 (by decide) ?_
    refine ab_isub dX11_puts_25 ?_
    refine ab_topi (v := (nI ((k + 1) - 1))) (pk_sub (b := 1) (by omega)) ?_
    refine ab_topi (v := (nI k)) rfl ?_
    refine ab_iald (j := k) dX11_puts_26 rfl (ix_nI (by omega) (by decide)) ?_
    refine ab_iload_n dX11_puts_27 rfl ?_
    refine ab_imul dX11_puts_28 ?_
    refine ab_icmpge 66 dX11_puts_29 (by decide) (fun h_2 => ?_) (fun h_2 => ?_)
    · refine ab_aload_n dX11_puts_66 rfl ?_
      refine ab_getf dX11_puts_67 fl_X11_32 rfl rfl ?_
      refine ab_iload_n dX11_puts_70 rfl ?_
      refine ab_iload_n dX11_puts_71 rfl ?_
      refine ab_iast (w1 := (wc, [ob 9 [.int m_thrown, .int m_trouble, .int m_fault, .int m_where, .ref 1001, .ref 1002, .int (nI n), .ref 1003, .int m_taped, .int m_linkMany, .int m_tracerMany, .int m_pointMany, .int m_pairMany, .ref 1004, .ref 1005, .ref 1006, .ref 1007, .int m_readLinks, .int m_readTracers, .int m_readPoints, .int m_readPairs, .ref 1008, .ref 1009, .ref 1010, .ref 1011, .int m_textLong, .int m_at, .int m_spot, .int m_token, .int m_whole, .int m_readFault, .int m_readPlace, .int m_value, .long m_n, .long m_c, .long m_d, .long m_s, .long m_e, .long m_k, .long m_x, .long m_y, .long m_g, .long m_a, .ref 1012, .ref 1013, .ref 1014, .int m_curveMany, .ref 1015, .int m_cornerMany, .int m_straightAt, .ref 1016, .long m_fitUp, .long m_fitDown, .long m_worstUp, .long m_worstDown, .ref 1017, .int m_walkLink, .int m_walkAngle, .int m_walkBranch, .int m_walkMany, .ref 1018, .ref 1019, .int m_lined, .ref 1020, .int m_actMany], ia 64 (upd f (k + 1) a1), ia 64 g, z3, z4, z5, z6, z7, z8, z9, z10, z11, z12, z13, z14, z15, z16, z17, z18, z19, z20])) dX11_puts_72 rfl (ix_nI (by omega) (by decide)) rfl ?_
      refine ab_aload_n dX11_puts_73 rfl ?_
      refine ab_getf dX11_puts_74 fl_X11_36 rfl rfl ?_
      refine ab_iload_n dX11_puts_77 rfl ?_
      refine ab_iload_n dX11_puts_78 rfl ?_
      refine ab_iast (w1 := (wc, [ob 9 [.int m_thrown, .int m_trouble, .int m_fault, .int m_where, .ref 1001, .ref 1002, .int (nI n), .ref 1003, .int m_taped, .int m_linkMany, .int m_tracerMany, .int m_pointMany, .int m_pairMany, .ref 1004, .ref 1005, .ref 1006, .ref 1007, .int m_readLinks, .int m_readTracers, .int m_readPoints, .int m_readPairs, .ref 1008, .ref 1009, .ref 1010, .ref 1011, .int m_textLong, .int m_at, .int m_spot, .int m_token, .int m_whole, .int m_readFault, .int m_readPlace, .int m_value, .long m_n, .long m_c, .long m_d, .long m_s, .long m_e, .long m_k, .long m_x, .long m_y, .long m_g, .long m_a, .ref 1012, .ref 1013, .ref 1014, .int m_curveMany, .ref 1015, .int m_cornerMany, .int m_straightAt, .ref 1016, .long m_fitUp, .long m_fitDown, .long m_worstUp, .long m_worstDown, .ref 1017, .int m_walkLink, .int m_walkAngle, .int m_walkBranch, .int m_walkMany, .ref 1018, .ref 1019, .int m_lined, .ref 1020, .int m_actMany], ia 64 (upd f (k + 1) a1), ia 64 (upd g (k + 1) a2), z3, z4, z5, z6, z7, z8, z9, z10, z11, z12, z13, z14, z15, z16, z17, z18, z19, z20])) dX11_puts_79 rfl (ix_nI (by omega) (by decide)) rfl ?_
      refine ab_aload_n dX11_puts_80 rfl ?_
      refine ab_dup rfl dX11_puts_81 ?_
      refine ab_getf dX11_puts_82 fl_X11_101 rfl rfl ?_
      refine ab_iconst (v := 1) dX11_puts_85 (by decide) ?_
      refine ab_iadd dX11_puts_86 ?_
      refine ab_topi (v := (nI (n + 1))) (nI_1 _) ?_
      refine ab_putf (w1 := (wc, [ob 9 [.int m_thrown, .int m_trouble, .int m_fault, .int m_where, .ref 1001, .ref 1002, .int (nI (n + 1)), .ref 1003, .int m_taped, .int m_linkMany, .int m_tracerMany, .int m_pointMany, .int m_pairMany, .ref 1004, .ref 1005, .ref 1006, .ref 1007, .int m_readLinks, .int m_readTracers, .int m_readPoints, .int m_readPairs, .ref 1008, .ref 1009, .ref 1010, .ref 1011, .int m_textLong, .int m_at, .int m_spot, .int m_token, .int m_whole, .int m_readFault, .int m_readPlace, .int m_value, .long m_n, .long m_c, .long m_d, .long m_s, .long m_e, .long m_k, .long m_x, .long m_y, .long m_g, .long m_a, .ref 1012, .ref 1013, .ref 1014, .int m_curveMany, .ref 1015, .int m_cornerMany, .int m_straightAt, .ref 1016, .long m_fitUp, .long m_fitDown, .long m_worstUp, .long m_worstDown, .ref 1017, .int m_walkLink, .int m_walkAngle, .int m_walkBranch, .int m_walkMany, .ref 1018, .ref 1019, .int m_lined, .ref 1020, .int m_actMany], ia 64 (upd f (k + 1) a1), ia 64 (upd g (k + 1) a2), z3, z4, z5, z6, z7, z8, z9, z10, z11, z12, z13, z14, z15, z16, z17, z18, z19, z20])) dX11_puts_87 fl_X11_101 rfl (Nat.le_of_ble_eq_true rfl) (fun _ => ⟨rfl, rfl⟩) rfl ?_
      exact ab_vret dX11_puts_90 rfl (by decide) (by rw [show insP a1 a2 (k + 1) f g = (upd f (k + 1) a1, upd g (k + 1) a2) from if_neg (Int32.not_lt.mpr h_2)] at hx; exact hx)
    · refine ab_aload_n dX11_puts_32 rfl ?_
      refine ab_getf dX11_puts_33 fl_X11_32 rfl rfl ?_
      refine ab_iload_n dX11_puts_36 rfl ?_
      refine ab_aload_n dX11_puts_37 rfl ?_
      refine ab_getf dX11_puts_38 fl_X11_32 rfl rfl ?_
      refine ab_iload_n dX11_puts_41 rfl ?_
      refine ab_iconst (v := 1) dX11_puts_42 (by decide) ?_
      refine ab_isub dX11_puts_43 ?_
      refine ab_topi (v := (nI ((k + 1) - 1))) (pk_sub (b := 1) (by omega)) ?_
      refine ab_topi (v := (nI k)) rfl ?_
      refine ab_iald (j := k) dX11_puts_44 rfl (ix_nI (by omega) (by decide)) ?_
      refine ab_iast (w1 := (wc, [ob 9 [.int m_thrown, .int m_trouble, .int m_fault, .int m_where, .ref 1001, .ref 1002, .int (nI n), .ref 1003, .int m_taped, .int m_linkMany, .int m_tracerMany, .int m_pointMany, .int m_pairMany, .ref 1004, .ref 1005, .ref 1006, .ref 1007, .int m_readLinks, .int m_readTracers, .int m_readPoints, .int m_readPairs, .ref 1008, .ref 1009, .ref 1010, .ref 1011, .int m_textLong, .int m_at, .int m_spot, .int m_token, .int m_whole, .int m_readFault, .int m_readPlace, .int m_value, .long m_n, .long m_c, .long m_d, .long m_s, .long m_e, .long m_k, .long m_x, .long m_y, .long m_g, .long m_a, .ref 1012, .ref 1013, .ref 1014, .int m_curveMany, .ref 1015, .int m_cornerMany, .int m_straightAt, .ref 1016, .long m_fitUp, .long m_fitDown, .long m_worstUp, .long m_worstDown, .ref 1017, .int m_walkLink, .int m_walkAngle, .int m_walkBranch, .int m_walkMany, .ref 1018, .ref 1019, .int m_lined, .ref 1020, .int m_actMany], ia 64 (upd f (k + 1) (f k)), ia 64 g, z3, z4, z5, z6, z7, z8, z9, z10, z11, z12, z13, z14, z15, z16, z17, z18, z19, z20])) dX11_puts_45 rfl (ix_nI (by omega) (by decide)) rfl ?_
      refine ab_aload_n dX11_puts_46 rfl ?_
      refine ab_getf dX11_puts_47 fl_X11_36 rfl rfl ?_
      refine ab_iload_n dX11_puts_50 rfl ?_
      refine ab_aload_n dX11_puts_51 rfl ?_
      refine ab_getf dX11_puts_52 fl_X11_36 rfl rfl ?_
      refine ab_iload_n dX11_puts_55 rfl ?_
      refine ab_iconst (v := 1) dX11_puts_56 (by decide) ?_
      refine ab_isub dX11_puts_57 ?_
      refine ab_topi (v := (nI ((k + 1) - 1))) (pk_sub (b := 1) (by omega)) ?_
      refine ab_topi (v := (nI k)) rfl ?_
      refine ab_iald (j := k) dX11_puts_58 rfl (ix_nI (by omega) (by decide)) ?_
      refine ab_iast (w1 := (wc, [ob 9 [.int m_thrown, .int m_trouble, .int m_fault, .int m_where, .ref 1001, .ref 1002, .int (nI n), .ref 1003, .int m_taped, .int m_linkMany, .int m_tracerMany, .int m_pointMany, .int m_pairMany, .ref 1004, .ref 1005, .ref 1006, .ref 1007, .int m_readLinks, .int m_readTracers, .int m_readPoints, .int m_readPairs, .ref 1008, .ref 1009, .ref 1010, .ref 1011, .int m_textLong, .int m_at, .int m_spot, .int m_token, .int m_whole, .int m_readFault, .int m_readPlace, .int m_value, .long m_n, .long m_c, .long m_d, .long m_s, .long m_e, .long m_k, .long m_x, .long m_y, .long m_g, .long m_a, .ref 1012, .ref 1013, .ref 1014, .int m_curveMany, .ref 1015, .int m_cornerMany, .int m_straightAt, .ref 1016, .long m_fitUp, .long m_fitDown, .long m_worstUp, .long m_worstDown, .ref 1017, .int m_walkLink, .int m_walkAngle, .int m_walkBranch, .int m_walkMany, .ref 1018, .ref 1019, .int m_lined, .ref 1020, .int m_actMany], ia 64 (upd f (k + 1) (f k)), ia 64 (upd g (k + 1) (g k)), z3, z4, z5, z6, z7, z8, z9, z10, z11, z12, z13, z14, z15, z16, z17, z18, z19, z20])) dX11_puts_59 rfl (ix_nI (by omega) (by decide)) rfl ?_
      refine ab_iinc (v := ((nI (k + 1)) + (-1))) (la' := [(3, .int ((nI (k + 1)) + (-1))), (2, .int a2), (1, .int a1), (0, .ref 1000)]) dX11_puts_60 rfl rfl (by decide) rfl ?_
      refine ab_goto 5 dX11_puts_63 (by decide) ?_
      refine ab_pick [0, 1, 2, 3] rfl ?_
      rw [pk_m1]
      rw [show insP a1 a2 (k + 1) f g = insP a1 a2 k (upd f (k + 1) (f k)) (upd g (k + 1) (g k)) from if_pos (Int32.not_le.mp h_2)] at hx
      exact ih _ _ (by omega) hx
theorem c_X11_puts {wc : List ax_E} {m_thrown m_trouble m_fault m_where m_taped m_linkMany m_tracerMany m_pointMany m_pairMany m_readLinks m_readTracers m_readPoints m_readPairs m_textLong m_at m_spot m_token m_whole m_readFault m_readPlace m_value m_curveMany m_cornerMany m_straightAt m_walkLink m_walkAngle m_walkBranch m_walkMany m_lined m_actMany a1 a2 : Int32} {m_n m_c m_d m_s m_e m_k m_x m_y m_g m_a m_fitUp m_fitDown m_worstUp m_worstDown : Int64} {f g : Nat → Int32} {z3 z4 z5 z6 z7 z8 z9 z10 z11 z12 z13 z14 z15 z16 z17 z18 z19 z20 : ax_E} {n : Nat} (hn : n < 64) : Ct M_X11_puts [.ref 1000, .int a1, .int a2] (wc, [ob 9 [.int m_thrown, .int m_trouble, .int m_fault, .int m_where, .ref 1001, .ref 1002, .int (nI n), .ref 1003, .int m_taped, .int m_linkMany, .int m_tracerMany, .int m_pointMany, .int m_pairMany, .ref 1004, .ref 1005, .ref 1006, .ref 1007, .int m_readLinks, .int m_readTracers, .int m_readPoints, .int m_readPairs, .ref 1008, .ref 1009, .ref 1010, .ref 1011, .int m_textLong, .int m_at, .int m_spot, .int m_token, .int m_whole, .int m_readFault, .int m_readPlace, .int m_value, .long m_n, .long m_c, .long m_d, .long m_s, .long m_e, .long m_k, .long m_x, .long m_y, .long m_g, .long m_a, .ref 1012, .ref 1013, .ref 1014, .int m_curveMany, .ref 1015, .int m_cornerMany, .int m_straightAt, .ref 1016, .long m_fitUp, .long m_fitDown, .long m_worstUp, .long m_worstDown, .ref 1017, .int m_walkLink, .int m_walkAngle, .int m_walkBranch, .int m_walkMany, .ref 1018, .ref 1019, .int m_lined, .ref 1020, .int m_actMany], ia 64 f, ia 64 g, z3, z4, z5, z6, z7, z8, z9, z10, z11, z12, z13, z14, z15, z16, z17, z18, z19, z20]) (fun r w' => r = none ∧ w' = (wc, [ob 9 [.int m_thrown, .int m_trouble, .int m_fault, .int m_where, .ref 1001, .ref 1002, .int (nI (n + 1)), .ref 1003, .int m_taped, .int m_linkMany, .int m_tracerMany, .int m_pointMany, .int m_pairMany, .ref 1004, .ref 1005, .ref 1006, .ref 1007, .int m_readLinks, .int m_readTracers, .int m_readPoints, .int m_readPairs, .ref 1008, .ref 1009, .ref 1010, .ref 1011, .int m_textLong, .int m_at, .int m_spot, .int m_token, .int m_whole, .int m_readFault, .int m_readPlace, .int m_value, .long m_n, .long m_c, .long m_d, .long m_s, .long m_e, .long m_k, .long m_x, .long m_y, .long m_g, .long m_a, .ref 1012, .ref 1013, .ref 1014, .int m_curveMany, .ref 1015, .int m_cornerMany, .int m_straightAt, .ref 1016, .long m_fitUp, .long m_fitDown, .long m_worstUp, .long m_worstDown, .ref 1017, .int m_walkLink, .int m_walkAngle, .int m_walkBranch, .int m_walkMany, .ref 1018, .ref 1019, .int m_lined, .ref 1020, .int m_actMany], ia 64 ((insP a1 a2 n f g).1), ia 64 ((insP a1 a2 n f g).2), z3, z4, z5, z6, z7, z8, z9, z10, z11, z12, z13, z14, z15, z16, z17, z18, z19, z20])) := by
  refine ct_of ⟨by decide, rfl⟩ (Nat.le_of_ble_eq_true rfl) ?_
  refine ab_aload_n dX11_puts_0 rfl ?_
  refine ab_getf dX11_puts_1 fl_X11_101 rfl rfl ?_
  refine ab_istore_n (la' := [(3, .int (nI n)), (0, .ref 1000), (1, .int a1), (2, .int a2)]) dX11_puts_4 (by decide) rfl ?_
  refine ab_pick [0, 3, 2, 1] rfl ?_
  exact lp_puts hn n f g (Nat.le_refl n) ⟨rfl, rfl⟩
