theorem l2i_lN (n : Nat) : (lN n).toInt32 = nI n := lN_i n
theorem nI_neg {n : Nat} (h1 : 2 ^ 31 ≤ n) (h2 : n < 2 ^ 32) : nI n < 0 := by
  rw [Int32.lt_iff_toInt_lt]
  have e : (nI n).toInt = (n : Int) - 2 ^ 32 := by
    show (BitVec.ofNat 32 n).toInt = _
    rw [BitVec.toInt_ofNat']
    rw [Int.bmod_def]
    omega
  rw [e]
  have e2 : (0 : Int32).toInt = 0 := rfl
  rw [e2]; omega
theorem nlz_up {n z : Nat} (hz : z ≤ 31) (h : n / 4294967296 < 2 ^ (32 - z)) : n < 2 ^ (64 - z) := by
  have h2 : n < 4294967296 * 2 ^ (32 - z) := by
    have := Nat.div_add_mod n 4294967296
    have h3 := Nat.mod_lt n (show 4294967296 > 0 by decide)
    have h4 : 4294967296 * (n / 4294967296 + 1) ≤ 4294967296 * 2 ^ (32 - z) := Nat.mul_le_mul_left _ h
    omega
  rw [show (4294967296 : Nat) = 2 ^ 32 by decide, ← Nat.pow_add, show 32 + (32 - z) = 64 - z by omega] at h2
  exact h2
theorem c_J13_nlz {w : ax_W} {n : Nat} (h0 : 0 < n) (hn : n < 2 ^ 63) : Ct M_J13_numberOfLeadingZeros_95d88 [.long (lN n)] w (fun r w' => ∃ z : Nat, (z ≤ 64) ∧ (n < 2 ^ (64 - z)) ∧ r = some (.int (nI z)) ∧ w' = w) := by
  refine ct_ofF ⟨by decide +kernel, rfl⟩ (Nat.le_of_ble_eq_true rfl) ?_
  rcases (show 4294967296 ≤ n ∨ n < 2147483648 ∨ (2147483648 ≤ n ∧ n < 4294967296) by omega) with hc | hc | hc
  · refine ab_lload_n dJ13_numberOfLeadingZeros_95d88_0 rfl ?_
    refine ab_bipush (v := 32) dJ13_numberOfLeadingZeros_95d88_1 (by decide) ?_
    refine ab_lushr dJ13_numberOfLeadingZeros_95d88_3 ?_
    refine ab_topl (v := (lN (n / 4294967296))) (wb_shr (k := 32) (by omega) (by decide)) ?_
    refine ab_l2i dJ13_numberOfLeadingZeros_95d88_4 ?_
    refine ab_topi (v := (nI (n / 4294967296))) (l2i_lN _) ?_
    refine ab_istore_n (la' := [(2, .int (nI (n / 4294967296))), (0, .long (lN n))]) dJ13_numberOfLeadingZeros_95d88_5 (by decide) rfl ?_
    refine ab_iload_n dJ13_numberOfLeadingZeros_95d88_6 rfl ?_
    refine ab_ifne 21 dJ13_numberOfLeadingZeros_95d88_7 (by decide) (fun h_1 => ?_) (fun h_1 => absurd ((nI_eq (b := 0) (by omega) (by decide)).mp h_1) (by omega))
    refine ab_iload_n dJ13_numberOfLeadingZeros_95d88_21 rfl ?_
    refine ab_callS (As := [.int (nI (n / 4294967296))]) (rest := []) dJ13_numberOfLeadingZeros_95d88_22 ms_J6_numberOfLeadingZeros_0f7a4 ml_J13_308 ⟨by decide, by decide, rfl, rfl, rfl⟩ (by decide) rfl rfl (Nat.le_of_ble_eq_true rfl) (c_J6_nlz (m := (n / 4294967296)) (by omega) (by omega)) ?_
    rintro r w' ⟨z_2, c_3, c_4, rfl, rfl⟩
    exact ab_iret dJ13_numberOfLeadingZeros_95d88_25 rfl (by decide) ⟨z_2, by omega, nlz_up (by omega) (by assumption), rfl, rfl⟩
  · refine ab_lload_n dJ13_numberOfLeadingZeros_95d88_0 rfl ?_
    refine ab_bipush (v := 32) dJ13_numberOfLeadingZeros_95d88_1 (by decide) ?_
    refine ab_lushr dJ13_numberOfLeadingZeros_95d88_3 ?_
    refine ab_topl (v := (lN (n / 4294967296))) (wb_shr (k := 32) (by omega) (by decide)) ?_
    refine ab_l2i dJ13_numberOfLeadingZeros_95d88_4 ?_
    refine ab_topi (v := (nI (n / 4294967296))) (l2i_lN _) ?_
    refine ab_istore_n (la' := [(2, .int (nI (n / 4294967296))), (0, .long (lN n))]) dJ13_numberOfLeadingZeros_95d88_5 (by decide) rfl ?_
    refine ab_iload_n dJ13_numberOfLeadingZeros_95d88_6 rfl ?_
    refine ab_ifne 21 dJ13_numberOfLeadingZeros_95d88_7 (by decide) (fun h_1 => absurd (show nI (n / 4294967296) = 0 from by rw [show n / 4294967296 = 0 by omega]; rfl) h_1) (fun h_1 => ?_)
    refine ab_bipush (v := 32) dJ13_numberOfLeadingZeros_95d88_10 (by decide) ?_
    refine ab_lload_n dJ13_numberOfLeadingZeros_95d88_12 rfl ?_
    refine ab_l2i dJ13_numberOfLeadingZeros_95d88_13 ?_
    refine ab_topi (v := (nI n)) (l2i_lN _) ?_
    refine ab_callS (As := [.int (nI n)]) (rest := [.int 32]) dJ13_numberOfLeadingZeros_95d88_14 ms_J6_numberOfLeadingZeros_0f7a4 ml_J13_308 ⟨by decide, by decide, rfl, rfl, rfl⟩ (by decide) rfl rfl (Nat.le_of_ble_eq_true rfl) (c_J6_nlz (m := n) (by omega) (by omega)) ?_
    rintro r w' ⟨z_2, c_3, c_4, rfl, rfl⟩
    refine ab_iadd dJ13_numberOfLeadingZeros_95d88_17 ?_
    refine ab_topi (v := (nI (32 + z_2))) (nI_add 32 _) ?_
    refine ab_goto 25 dJ13_numberOfLeadingZeros_95d88_18 (by decide) ?_
    exact ab_iret dJ13_numberOfLeadingZeros_95d88_25 rfl (by decide) ⟨32 + z_2, by omega, by rw [show 64 - (32 + z_2) = 32 - z_2 by omega]; assumption, rfl, rfl⟩
  · refine ab_lload_n dJ13_numberOfLeadingZeros_95d88_0 rfl ?_
    refine ab_bipush (v := 32) dJ13_numberOfLeadingZeros_95d88_1 (by decide) ?_
    refine ab_lushr dJ13_numberOfLeadingZeros_95d88_3 ?_
    refine ab_topl (v := (lN (n / 4294967296))) (wb_shr (k := 32) (by omega) (by decide)) ?_
    refine ab_l2i dJ13_numberOfLeadingZeros_95d88_4 ?_
    refine ab_topi (v := (nI (n / 4294967296))) (l2i_lN _) ?_
    refine ab_istore_n (la' := [(2, .int (nI (n / 4294967296))), (0, .long (lN n))]) dJ13_numberOfLeadingZeros_95d88_5 (by decide) rfl ?_
    refine ab_iload_n dJ13_numberOfLeadingZeros_95d88_6 rfl ?_
    refine ab_ifne 21 dJ13_numberOfLeadingZeros_95d88_7 (by decide) (fun h_1 => absurd (show nI (n / 4294967296) = 0 from by rw [show n / 4294967296 = 0 by omega]; rfl) h_1) (fun h_1 => ?_)
    refine ab_bipush (v := 32) dJ13_numberOfLeadingZeros_95d88_10 (by decide) ?_
    refine ab_lload_n dJ13_numberOfLeadingZeros_95d88_12 rfl ?_
    refine ab_l2i dJ13_numberOfLeadingZeros_95d88_13 ?_
    refine ab_topi (v := (nI n)) (l2i_lN _) ?_
    refine ab_callS (As := [.int (nI n)]) (rest := [.int 32]) dJ13_numberOfLeadingZeros_95d88_14 ms_J6_numberOfLeadingZeros_0f7a4 ml_J13_308 ⟨by decide, by decide, rfl, rfl, rfl⟩ (by decide) rfl rfl (Nat.le_of_ble_eq_true rfl) (c_J6_nlz_neg (nI_neg (by omega) (by omega))) ?_
    rintro r w' ⟨rfl, rfl⟩
    refine ab_iadd dJ13_numberOfLeadingZeros_95d88_17 ?_
    refine ab_topi (v := 32) (by decide) ?_
    refine ab_goto 25 dJ13_numberOfLeadingZeros_95d88_18 (by decide) ?_
    exact ab_iret dJ13_numberOfLeadingZeros_95d88_25 rfl (by decide) ⟨32, by omega, by omega, rfl, rfl⟩
/-- Newton's step from above the root -/
theorem nw_lo {n s r : Nat} (h1 : s * s ≤ n) (hr : s ≤ r) (h0 : 0 < r) : s ≤ (r + n / r) / 2 := by
  rcases Nat.lt_or_ge ((r + n / r) / 2) s with q | q
  · exfalso
    obtain ⟨t, rfl⟩ : ∃ t, r = s + t := ⟨r - s, by omega⟩
    have hq : 0 ≤ n / (s + t) := Nat.zero_le _
    have h3 : n / (s + t) < s - t := by omega
    have h4 : n < (s - t) * (s + t) := (Nat.div_lt_iff_lt_mul h0).mp h3
    obtain ⟨u, rfl⟩ : ∃ u, s = t + u := ⟨s - t, by omega⟩
    rw [show t + u - t = u by omega] at h4
    have h5 : u * (t + u + t) + t * t = (t + u) * (t + u) := by grind
    omega
  · exact q
theorem nw_hi {n s r : Nat} (h2 : n < (s + 1) * (s + 1)) (hr : s < r) : n / r ≤ s := by
  have h3 : n < (s + 1) * r := Nat.lt_of_lt_of_le h2 (Nat.mul_le_mul_left _ hr)
  exact Nat.le_of_lt_succ ((Nat.div_lt_iff_lt_mul (by omega)).mpr h3)
theorem p2_half {d f : Nat} (h : d < 2 ^ (f + 1)) : d / 2 < 2 ^ f := by rw [Nat.pow_succ] at h; omega
theorem rt_pos {n : Nat} (h0 : 0 < n) (h : n < 2 ^ 63) : 0 < rt n := by
  have := (rt_spec h).2
  rcases Nat.eq_zero_or_pos (rt n) with q | q
  · rw [q] at this; omega
  · exact q
theorem root0 {n z : Nat} (hz : z ≤ 64) (h : n < 2 ^ (64 - z)) (hn : n < 2 ^ 62) : rt n ≤ 1 * 2 ^ ((65 - z) / 2) ∧ 1 * 2 ^ ((65 - z) / 2) ≤ 2 ^ 32 := by
  rw [Nat.one_mul]
  refine ⟨Nat.le_of_lt (sq_lt ?_), p2 (by omega)⟩
  rw [← Nat.pow_add]
  have h1 := (rt_spec (n := n) (by omega)).1
  have h2 := p2 (show 64 - z ≤ (65 - z) / 2 + (65 - z) / 2 by omega)
  omega
theorem lp_newton {w : ax_W} {n : Nat} (h0 : 0 < n) (hn : n < 2 ^ 62) : ∀ (f i r : Nat), i + (f + 1) = 64 → rt n ≤ r → r - rt n < 2 ^ f → r ≤ 2 ^ 32 → Ab M_X9_rootOf (fun z w' => z = some (.long (lN (rt n))) ∧ w' = w) (0, 0) 23 [(4, .int (nI i)), (2, .long (lN r)), (0, .long (lN n))] [] w := by
  intro f
  have hs1 := (rt_spec (n := n) (by omega)).1
  have hs2 := (rt_spec (n := n) (by omega)).2
  have hs0 := rt_pos h0 (by omega)
  induction f with
  | zero =>
    intro i r hi hr hd hb
    have h7 := nw_lo hs1 hr (by omega)
    have h6 := Nat.div_le_self n r
    refine ab_iload dX9_rootOf_23 rfl ?_
    refine ab_bipush (v := 64) dX9_rootOf_25 (by decide) ?_
    refine ab_icmpge 65 dX9_rootOf_27 (by decide) (fun h_1 => absurd h_1 (nI_ge (b := 64) (by omega) (by decide))) (fun h_1 => ?_)
    refine ab_lload_n dX9_rootOf_30 rfl ?_
    refine ab_lconst (v := 0) dX9_rootOf_31 (by decide) ?_
    refine ab_lcmple 65 dX9_rootOf_32 dX9_rootOf_33 (by decide) (fun h_2 => absurd ((pk_lLE (b := 0) (by omega) (by decide)).mp h_2) (by omega)) (fun h_2 => ?_)
    refine ab_lload_n dX9_rootOf_36 rfl ?_
    refine ab_lload_n dX9_rootOf_37 rfl ?_
    refine ab_lload_n dX9_rootOf_38 rfl ?_
    refine ab_ldiv dX9_rootOf_39 (fun z => absurd ((pk_lEQ (b := 0) (by omega) (by decide)).mp z) (by omega)) ?_
    refine ab_topl (v := (lN (n / r))) (pk_lDiv (a := n) (b := r) (by omega) (by omega) (by omega)) ?_
    refine ab_ladd dX9_rootOf_40 ?_
    refine ab_topl (v := (lN (r + (n / r)))) (lN_add r (n / r)) ?_
    refine ab_ldc2 dX9_rootOf_41 kl_X9_25 ?_
    refine ab_ldiv dX9_rootOf_44 (by decide) ?_
    refine ab_topl (v := (lN ((r + (n / r)) / 2))) (pk_lDiv (a := (r + (n / r))) (b := 2) (by omega) (by omega) (by omega)) ?_
    refine ab_lstore (la' := [(5, .long (lN ((r + (n / r)) / 2))), (4, .int (nI i)), (2, .long (lN r)), (0, .long (lN n))]) dX9_rootOf_45 (by decide) rfl ?_
    refine ab_lload dX9_rootOf_47 rfl ?_
    refine ab_lload_n dX9_rootOf_49 rfl ?_
    refine ab_lcmplt 56 dX9_rootOf_50 dX9_rootOf_51 (by decide) (fun h_3 => ?_) (fun h_3 => ?_)
    · have h_3n := (pk_lLT (a := ((r + (n / r)) / 2)) (b := r) (by omega) (by omega)).mp h_3
      refine ab_lload dX9_rootOf_56 rfl ?_
      refine ab_lstore_n (la' := [(2, .long (lN ((r + (n / r)) / 2))), (5, .long (lN ((r + (n / r)) / 2))), (4, .int (nI i)), (0, .long (lN n))]) dX9_rootOf_58 (by decide) rfl ?_
      refine ab_iinc (v := (nI (i + 1))) (la' := [(4, .int (nI (i + 1))), (2, .long (lN ((r + (n / r)) / 2))), (5, .long (lN ((r + (n / r)) / 2))), (0, .long (lN n))]) dX9_rootOf_59 rfl (nI_1 _) (by decide) rfl ?_
      refine ab_goto 23 dX9_rootOf_62 (by decide) ?_
      have h9 : r = rt n := by omega
      omega
    · have h_3n : ¬ _ := fun z => h_3 ((pk_lLT (a := ((r + (n / r)) / 2)) (b := r) (by omega) (by omega)).mpr z)
      refine ab_lload_n dX9_rootOf_54 rfl ?_
      exact ab_lret dX9_rootOf_55 rfl (by decide) ⟨by rw [show r = rt n by rcases Nat.lt_or_ge (rt n) r with q | q; (have := nw_hi hs2 q; omega); omega], rfl⟩
  | succ f ih =>
    intro i r hi hr hd hb
    have h7 := nw_lo hs1 hr (by omega)
    have h6 := Nat.div_le_self n r
    refine ab_iload dX9_rootOf_23 rfl ?_
    refine ab_bipush (v := 64) dX9_rootOf_25 (by decide) ?_
    refine ab_icmpge 65 dX9_rootOf_27 (by decide) (fun h_1 => absurd h_1 (nI_ge (b := 64) (by omega) (by decide))) (fun h_1 => ?_)
    refine ab_lload_n dX9_rootOf_30 rfl ?_
    refine ab_lconst (v := 0) dX9_rootOf_31 (by decide) ?_
    refine ab_lcmple 65 dX9_rootOf_32 dX9_rootOf_33 (by decide) (fun h_2 => absurd ((pk_lLE (b := 0) (by omega) (by decide)).mp h_2) (by omega)) (fun h_2 => ?_)
    refine ab_lload_n dX9_rootOf_36 rfl ?_
    refine ab_lload_n dX9_rootOf_37 rfl ?_
    refine ab_lload_n dX9_rootOf_38 rfl ?_
    refine ab_ldiv dX9_rootOf_39 (fun z => absurd ((pk_lEQ (b := 0) (by omega) (by decide)).mp z) (by omega)) ?_
    refine ab_topl (v := (lN (n / r))) (pk_lDiv (a := n) (b := r) (by omega) (by omega) (by omega)) ?_
    refine ab_ladd dX9_rootOf_40 ?_
    refine ab_topl (v := (lN (r + (n / r)))) (lN_add r (n / r)) ?_
    refine ab_ldc2 dX9_rootOf_41 kl_X9_25 ?_
    refine ab_ldiv dX9_rootOf_44 (by decide) ?_
    refine ab_topl (v := (lN ((r + (n / r)) / 2))) (pk_lDiv (a := (r + (n / r))) (b := 2) (by omega) (by omega) (by omega)) ?_
    refine ab_lstore (la' := [(5, .long (lN ((r + (n / r)) / 2))), (4, .int (nI i)), (2, .long (lN r)), (0, .long (lN n))]) dX9_rootOf_45 (by decide) rfl ?_
    refine ab_lload dX9_rootOf_47 rfl ?_
    refine ab_lload_n dX9_rootOf_49 rfl ?_
    refine ab_lcmplt 56 dX9_rootOf_50 dX9_rootOf_51 (by decide) (fun h_3 => ?_) (fun h_3 => ?_)
    · have h_3n := (pk_lLT (a := ((r + (n / r)) / 2)) (b := r) (by omega) (by omega)).mp h_3
      refine ab_lload dX9_rootOf_56 rfl ?_
      refine ab_lstore_n (la' := [(2, .long (lN ((r + (n / r)) / 2))), (5, .long (lN ((r + (n / r)) / 2))), (4, .int (nI i)), (0, .long (lN n))]) dX9_rootOf_58 (by decide) rfl ?_
      refine ab_iinc (v := (nI (i + 1))) (la' := [(4, .int (nI (i + 1))), (2, .long (lN ((r + (n / r)) / 2))), (5, .long (lN ((r + (n / r)) / 2))), (0, .long (lN n))]) dX9_rootOf_59 rfl (nI_1 _) (by decide) rfl ?_
      refine ab_goto 23 dX9_rootOf_62 (by decide) ?_
      refine ab_pick [0, 1, 3] rfl ?_
      have h8 : rt n < r := by rcases Nat.lt_or_ge (rt n) r with q | q; exact q; omega
      have h9 := nw_hi hs2 h8
      refine ih (i + 1) ((r + n / r) / 2) (by omega) h7 ?_ (by omega)
      have := p2_half hd
      omega
    · have h_3n : ¬ _ := fun z => h_3 ((pk_lLT (a := ((r + (n / r)) / 2)) (b := r) (by omega) (by omega)).mpr z)
      refine ab_lload_n dX9_rootOf_54 rfl ?_
      exact ab_lret dX9_rootOf_55 rfl (by decide) ⟨by rw [show r = rt n by rcases Nat.lt_or_ge (rt n) r with q | q; (have := nw_hi hs2 q; omega); omega], rfl⟩
theorem c_X9_rootOf {w : ax_W} {n : Nat} (h0 : 0 < n) (hn : n < 2 ^ 62) : Ct M_X9_rootOf [.long (lN n)] w (fun r w' => r = some (.long (lN (rt n))) ∧ w' = w) := by
  refine ct_of ⟨by decide, rfl⟩ (Nat.le_of_ble_eq_true rfl) ?_
  refine ab_lload_n dX9_rootOf_0 rfl ?_
  refine ab_lconst (v := 0) dX9_rootOf_1 (by decide) ?_
  refine ab_lcmpgt 8 dX9_rootOf_2 dX9_rootOf_3 (by decide) (fun h_1 => ?_) (fun h_1 => absurd ((pk_lLT (a := 0) (by decide) (by omega)).mpr h0) h_1)
  refine ab_lconst (v := 1) dX9_rootOf_8 (by decide) ?_
  refine ab_bipush (v := 65) dX9_rootOf_9 (by decide) ?_
  refine ab_lload_n dX9_rootOf_11 rfl ?_
  refine ab_callS (As := [.long (lN n)]) (rest := [.int 65, .long 1]) dX9_rootOf_12 ms_J13_numberOfLeadingZeros_95d88 ml_X9_19 ⟨by decide, by decide, rfl, rfl, rfl⟩ (by decide) rfl rfl (Nat.le_of_ble_eq_true rfl) (c_J13_nlz (by omega) (by omega)) ?_
  rintro r w' ⟨z_2, c_3, c_4, rfl, rfl⟩
  refine ab_isub dX9_rootOf_15 ?_
  refine ab_topi (v := (nI (65 - z_2))) (pk_sub (a := 65) (by omega)) ?_
  refine ab_iconst (v := 2) dX9_rootOf_16 (by decide) ?_
  refine ab_idiv dX9_rootOf_17 (by decide) ?_
  refine ab_topi (v := (nI ((65 - z_2) / 2))) (pk_div (d := 2) (by omega) (by decide) (by decide)) ?_
  refine ab_lshl dX9_rootOf_18 ?_
  refine ab_topl (v := (lN (1 * 2 ^ ((65 - z_2) / 2)))) (wb_shl 1 (by omega)) ?_
  refine ab_lstore_n (la' := [(2, .long (lN (1 * 2 ^ ((65 - z_2) / 2)))), (0, .long (lN n))]) dX9_rootOf_19 (by decide) rfl ?_
  refine ab_iconst (v := 0) dX9_rootOf_20 (by decide) ?_
  refine ab_istore (la' := [(4, .int 0), (2, .long (lN (1 * 2 ^ ((65 - z_2) / 2)))), (0, .long (lN n))]) dX9_rootOf_21 (by decide) rfl ?_
  refine ab_pick [0, 1, 2] rfl ?_
  have h5 := root0 (z := z_2) (by omega) (by assumption) hn
  have h6 := rt_lt hn
  exact lp_newton h0 hn 63 0 _ (by omega) h5.1 (by omega) h5.2
theorem c_X9_rootOf_0 {w : ax_W}  : Ct M_X9_rootOf [.long 0] w (fun r w' => r = some (.long 0) ∧ w' = w) := by
  refine ct_of ⟨by decide, rfl⟩ (Nat.le_of_ble_eq_true rfl) ?_
  refine ab_lload_n dX9_rootOf_0 rfl ?_
  refine ab_lconst (v := 0) dX9_rootOf_1 (by decide) ?_
  refine ab_lcmpgt 8 dX9_rootOf_2 dX9_rootOf_3 (by decide) (fun h_1 => absurd h_1 (by decide)) (fun h_1 => ?_)
  refine ab_lconst (v := 0) dX9_rootOf_6 (by decide) ?_
  exact ab_lret dX9_rootOf_7 rfl (by decide) (⟨rfl, rfl⟩)
