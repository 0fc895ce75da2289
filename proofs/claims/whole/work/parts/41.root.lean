theorem wb_tb (n : Nat) : (lN n).toBitVec = BitVec.ofNat 64 n := rfl
theorem wb_inj {a b : Int64} (h : a.toBitVec = b.toBitVec) : a = b := Int64.toBitVec_inj.mp h
theorem wb_tn {n : Nat} (h : n < 2 ^ 64) : (lN n).toBitVec.toNat = n := by rw [wb_tb, BitVec.toNat_ofNat, Nat.mod_eq_of_lt h]
theorem wb_of (x : Int64) : ∃ n, n < 2 ^ 64 ∧ x = lN n := ⟨x.toBitVec.toNat, x.toBitVec.isLt, wb_inj (by rw [wb_tb]; simp)⟩
theorem wb_of32 (x : Int32) : ∃ n, n < 2 ^ 32 ∧ x = nI n := ⟨x.toBitVec.toNat, x.toBitVec.isLt, Int32.toBitVec_inj.mp (by show _ = BitVec.ofNat 32 _; simp)⟩
theorem wb_c : ∀ k, k < 64 → ((nI k).toInt64 &&& 63) = lN k := by decide +kernel
theorem wb_cu : ∀ k, k < 64 → ((nI k).toInt64.toUInt64 &&& Int64.toUInt64 63) = UInt64.ofNat k := by decide +kernel
theorem wb_sm : ∀ k, k < 64 → (BitVec.ofNat 64 k).smod 64 = BitVec.ofNat 64 k := by decide +kernel
theorem wb_pw {a b : Nat} (h : a ≤ b) : 2 ^ b = 2 ^ a * 2 ^ (b - a) := by rw [← Nat.pow_add]; congr 1; omega
theorem wb_lt2 {a b : Nat} (h : a < b) : 2 ^ a < 2 ^ b := Nat.pow_lt_pow_right (by decide) h
theorem wb_mod (n : Nat) : lN n = lN (n % 2 ^ 64) := wb_inj (by rw [wb_tb, wb_tb]; apply BitVec.eq_of_toNat_eq; rw [BitVec.toNat_ofNat, BitVec.toNat_ofNat, Nat.mod_mod])
theorem wb_shr {n k : Nat} (hn : n < 2 ^ 64) (hk : k < 64) : ((lN n).toUInt64 >>> ((nI k).toInt64.toUInt64 &&& Int64.toUInt64 63)).toInt64 = lN (n / 2 ^ k) := by
  rw [wb_cu k hk]
  apply wb_inj
  apply BitVec.eq_of_toNat_eq
  show ((lN n).toUInt64 >>> UInt64.ofNat k).toNat = (BitVec.ofNat 64 _).toNat
  have h1 : (UInt64.ofNat k).toNat = k := by
    show (BitVec.ofNat 64 k).toNat = k
    rw [BitVec.toNat_ofNat, Nat.mod_eq_of_lt (by omega)]
  have h2 : (lN n).toUInt64.toNat = n := wb_tn hn
  rw [UInt64.toNat_shiftRight, h1, h2, Nat.mod_eq_of_lt hk, Nat.shiftRight_eq_div_pow, BitVec.toNat_ofNat, Nat.mod_eq_of_lt (Nat.lt_of_le_of_lt (Nat.div_le_self _ _) hn)]
theorem wb_shl (n : Nat) {k : Nat} (hk : k < 64) : lN n <<< ((nI k).toInt64 &&& 63) = lN (n * 2 ^ k) := by
  rw [wb_c k hk]
  apply wb_inj
  rw [Int64.toBitVec_shiftLeft, wb_tb, wb_tb, wb_tb, wb_sm k hk]
  apply BitVec.eq_of_toNat_eq
  rw [BitVec.shiftLeft_eq', BitVec.toNat_shiftLeft, BitVec.toNat_ofNat, BitVec.toNat_ofNat, BitVec.toNat_ofNat, Nat.mod_eq_of_lt (show k < 2 ^ 64 by omega), Nat.shiftLeft_eq, Nat.mul_mod, Nat.mod_mod, ← Nat.mul_mod]
/-- the greatest number whose square is no more than n, by bits from above -/
def rtF (n : Nat) : Nat → Nat → Nat
  | 0, r => r
  | b + 1, r => if (r + 2 ^ b) * (r + 2 ^ b) ≤ n then rtF n b (r + 2 ^ b) else rtF n b r
def rt (n : Nat) : Nat := rtF n 32 0
theorem rtF_spec (n : Nat) : ∀ b r, r * r ≤ n → n < (r + 2 ^ b) * (r + 2 ^ b) → rtF n b r * rtF n b r ≤ n ∧ n < (rtF n b r + 1) * (rtF n b r + 1)
  | 0, r, h1, h2 => ⟨h1, h2⟩
  | b + 1, r, h1, h2 => by
    unfold rtF
    by_cases h : (r + 2 ^ b) * (r + 2 ^ b) ≤ n
    · rw [if_pos h]
      refine rtF_spec n b _ h ?_
      rw [show r + 2 ^ b + 2 ^ b = r + 2 ^ (b + 1) by rw [Nat.pow_succ]; omega]
      exact h2
    · rw [if_neg h]
      exact rtF_spec n b r h1 (by omega)
theorem rt_spec {n : Nat} (h : n < 2 ^ 63) : rt n * rt n ≤ n ∧ n < (rt n + 1) * (rt n + 1) := rtF_spec n 32 0 (Nat.zero_le _) (by
  have : (0 + 2 ^ 32) * (0 + 2 ^ 32) = 2 ^ 64 := by decide
  omega)
theorem sq_lt {a b : Nat} (h : a * a < b * b) : a < b := by
  rcases Nat.lt_or_ge a b with q | q
  · exact q
  · exact absurd (Nat.mul_le_mul q q) (by omega)
theorem rt_uniq {n s : Nat} (h : n < 2 ^ 63) (h1 : s * s ≤ n) (h2 : n < (s + 1) * (s + 1)) : rt n = s := by
  obtain ⟨g1, g2⟩ := rt_spec h
  have q1 : rt n < s + 1 := sq_lt (by omega)
  have q2 : s < rt n + 1 := sq_lt (by omega)
  omega
theorem rt_lt {n : Nat} (h : n < 2 ^ 62) : rt n < 2 ^ 31 := sq_lt (by
  have := (rt_spec (n := n) (by omega)).1
  have e : (2 : Nat) ^ 31 * 2 ^ 31 = 2 ^ 62 := by decide
  omega)
theorem sh1 : ∀ b, b < 32 → lN (2 ^ b) >>> (Int32.toInt64 1 &&& 63) = lN (2 ^ b / 2) := by decide +kernel
theorem le_div {m n : Nat} (h : 0 < m) : n / m < m ↔ ¬ m * m ≤ n := by
  rw [← Nat.le_div_iff_mul_le h]; omega
theorem lp_root {w : ax_W} {n : Nat} (hn : n < 2 ^ 63) : ∀ (b r : Nat), b ≤ 32 → r + 2 ^ b ≤ 2 ^ 32 → Ab M_X11_root (fun z w' => z = some (.long (lN (rtF n b r))) ∧ w' = w) (0, 0) 7 [(4, .long (lN (2 ^ b / 2))), (2, .long (lN r)), (0, .long (lN n))] [] w := by
  intro b
  induction b with
  | zero =>
    intro r hb hr
    refine ab_lload dX11_root_7 rfl ?_
    refine ab_lconst (v := 0) dX11_root_9 (by decide) ?_
    refine ab_lcmple 42 dX11_root_10 dX11_root_11 (by decide) (fun h_1 => ?_) (fun h_1 => absurd (by decide) h_1)
    refine ab_lload_n dX11_root_42 rfl ?_
    exact ab_lret dX11_root_43 rfl (by decide) ⟨rfl, rfl⟩
  | succ b ih =>
    intro r hb hr
    have e0 : 2 ^ (b + 1) / 2 = 2 ^ b := by rw [Nat.pow_succ]; omega
    have e1 : 2 ^ (b + 1) = 2 ^ b + 2 ^ b := by rw [Nat.pow_succ]; omega
    have e2 := Nat.two_pow_pos b
    have e3 := Nat.div_le_self n (r + 2 ^ b)
    rw [e0]
    rw [e1] at hr
    refine ab_lload dX11_root_7 rfl ?_
    refine ab_lconst (v := 0) dX11_root_9 (by decide) ?_
    refine ab_lcmple 42 dX11_root_10 dX11_root_11 (by decide) (fun h_1 => absurd ((pk_lLE (b := 0) (by omega) (by decide)).mp h_1) (by omega)) (fun h_1 => ?_)
    refine ab_lload_n dX11_root_14 rfl ?_
    refine ab_lload dX11_root_15 rfl ?_
    refine ab_ladd dX11_root_17 ?_
    refine ab_topl (v := (lN (r + (2 ^ b)))) (lN_add r (2 ^ b)) ?_
    refine ab_lstore (la' := [(6, .long (lN (r + (2 ^ b)))), (4, .long (lN (2 ^ b))), (2, .long (lN r)), (0, .long (lN n))]) dX11_root_18 (by decide) rfl ?_
    refine ab_lload dX11_root_20 rfl ?_
    refine ab_lload_n dX11_root_22 rfl ?_
    refine ab_lload dX11_root_23 rfl ?_
    refine ab_ldiv dX11_root_25 (fun z => absurd ((pk_lEQ (b := 0) (by omega) (by decide)).mp z) (by omega)) ?_
    refine ab_topl (v := (lN (n / (r + (2 ^ b))))) (pk_lDiv (a := n) (b := (r + (2 ^ b))) (by omega) (by omega) (by omega)) ?_
    refine ab_lcmpgt 33 dX11_root_26 dX11_root_27 (by decide) (fun h_2 => ?_) (fun h_2 => ?_)
    · have h_2n := (pk_lLT (a := (n / (r + (2 ^ b)))) (b := (r + (2 ^ b))) (by omega) (by omega)).mp h_2
      refine ab_lload dX11_root_33 rfl ?_
      refine ab_iconst (v := 1) dX11_root_35 (by decide) ?_
      refine ab_lshr dX11_root_36 ?_
      refine ab_topl (v := (lN (2 ^ b / 2))) (sh1 b (by omega)) ?_
      refine ab_lstore (la' := [(4, .long (lN (2 ^ b / 2))), (6, .long (lN (r + (2 ^ b)))), (2, .long (lN r)), (0, .long (lN n))]) dX11_root_37 (by decide) rfl ?_
      refine ab_goto 7 dX11_root_39 (by decide) ?_
      refine ab_pick [0, 2, 3] rfl ?_
      rw [show rtF n (b + 1) r = rtF n b r from if_neg ((le_div (by omega)).mp h_2n)]
      exact ih r (by omega) (by omega)
    · have h_2n := fun z => h_2 ((pk_lLT (a := (n / (r + (2 ^ b)))) (b := (r + (2 ^ b))) (by omega) (by omega)).mpr z)
      refine ab_lload dX11_root_30 rfl ?_
      refine ab_lstore_n (la' := [(2, .long (lN (r + (2 ^ b)))), (6, .long (lN (r + (2 ^ b)))), (4, .long (lN (2 ^ b))), (0, .long (lN n))]) dX11_root_32 (by decide) rfl ?_
      refine ab_lload dX11_root_33 rfl ?_
      refine ab_iconst (v := 1) dX11_root_35 (by decide) ?_
      refine ab_lshr dX11_root_36 ?_
      refine ab_topl (v := (lN (2 ^ b / 2))) (sh1 b (by omega)) ?_
      refine ab_lstore (la' := [(4, .long (lN (2 ^ b / 2))), (2, .long (lN (r + (2 ^ b)))), (6, .long (lN (r + (2 ^ b)))), (0, .long (lN n))]) dX11_root_37 (by decide) rfl ?_
      refine ab_goto 7 dX11_root_39 (by decide) ?_
      refine ab_pick [0, 1, 3] rfl ?_
      rw [show rtF n (b + 1) r = rtF n b (r + 2 ^ b) from if_pos (Decidable.not_not.mp (fun z => h_2n ((le_div (by omega)).mpr z)))]
      exact ih (r + 2 ^ b) (by omega) (by omega)
theorem c_X11_root {w : ax_W} {n : Nat} (hn : n < 2 ^ 63) : Ct M_X11_root [.long (lN n)] w (fun r w' => r = some (.long (lN (rt n))) ∧ w' = w) := by
  refine ct_of ⟨by decide, rfl⟩ (Nat.le_of_ble_eq_true rfl) ?_
  refine ab_lconst (v := 0) dX11_root_0 (by decide) ?_
  refine ab_lstore_n (la' := [(2, .long 0), (0, .long (lN n))]) dX11_root_1 (by decide) rfl ?_
  refine ab_ldc2 dX11_root_2 kl_X11_369 ?_
  refine ab_lstore (la' := [(4, .long 2147483648), (2, .long 0), (0, .long (lN n))]) dX11_root_5 (by decide) rfl ?_
  refine ab_pick [0, 1, 2] rfl ?_
  exact lp_root hn 32 0 (by omega) (by decide)
