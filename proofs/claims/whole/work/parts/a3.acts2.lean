/-! bars changed, acts kept and taken back, the tape fed: the invariant -/
theorem updv_eq {f : Nat → Int32} {k : Nat} {x : Int32} : upd f k x k = x := by unfold upd; rw [if_pos rfl]
theorem updv_ne {f : Nat → Int32} {k j : Nat} {x : Int32} (h : ¬ j = k) : upd f k x j = f j := by unfold upd; rw [if_neg h]
theorem dk_upd {nl nt np nr : Nat} {r5 r6 q4 q5 q6 q7 : Nat → Int32} (h : DkR nl nt np nr r5 r6 q4 q5 q6 q7) {a i : Int32} {v : Int32} (ha : 0 ≤ a ∧ a < nI nl) (hi : 0 ≤ i ∧ i < nI 4) (hv : b18 v.toInt) : DkR nl nt np nr (upd r5 (0 + Int32.toNatClampNeg a * 4 + Int32.toNatClampNeg i) v) r6 (upd q4 (0 + Int32.toNatClampNeg a * 4 + Int32.toNatClampNeg i) v) q5 q6 q7 := by
  have k1 := cl_lt (dk_l4 h) ha
  have k2 := cl_lt (c := 4) (by decide) hi
  have n4 := h.2.1.1
  obtain ⟨h1, h2, h3, h4, h5, h6, h7⟩ := h
  generalize Int32.toNatClampNeg a = A at *
  generalize Int32.toNatClampNeg i = I at *
  refine ⟨h1, h2, fun x y hx hy => ?_, fun x y hx hy => ?_, fun x y hx hy => ?_, fun x y hx hy => ?_, h7⟩
  · by_cases c : 0 + x * 4 + y = 0 + A * 4 + I
    · rw [c, updv_eq, updv_eq]; exact ⟨rfl, hv⟩
    · rw [updv_ne c, updv_ne c]; exact h3 x y hx hy
  · rw [updv_ne (by omega)]; exact h4 x y hx hy
  · rw [updv_ne (by omega)]; exact h5 x y hx hy
  · rw [updv_ne (by omega)]; exact h6 x y hx hy
section ACTS
variable {nl f n : Nat} {r30 r31 r32 q20 : Nat → Int32}
theorem ac_push (h : AcR nl f n r30 r31 r32 q20) (hn : n < 10) {a i v : Int32} (ha : 0 ≤ a ∧ a < nI nl) (hi : 0 ≤ i ∧ i < nI 4) (hv : b18 v.toInt) : AcR nl f (n + 1) (upd r30 ((f + n) % 10) a) (upd r31 ((f + n) % 10) i) (upd r32 ((f + n) % 10) v) (upd (upd (upd q20 (3 * n) a) (3 * n + 1) i) (3 * n + 2) v) := by
  obtain ⟨h1, h2, h3⟩ := h
  refine ⟨h1, by omega, fun j hj => ?_⟩
  by_cases c : j = n
  · subst c
    rw [updv_eq, updv_eq, updv_eq, updv_ne (show ¬ 3 * j = 3 * j + 2 by omega), updv_ne (show ¬ 3 * j = 3 * j + 1 by omega), updv_eq, updv_ne (show ¬ 3 * j + 1 = 3 * j + 2 by omega), updv_eq, updv_eq]
    exact ⟨⟨rfl, rfl, rfl⟩, ha, hi, hv⟩
  · have e : ¬ (f + j) % 10 = (f + n) % 10 := by omega
    rw [updv_ne e, updv_ne e, updv_ne e, updv_ne (show ¬ 3 * j = 3 * n + 2 by omega), updv_ne (show ¬ 3 * j = 3 * n + 1 by omega), updv_ne (show ¬ 3 * j = 3 * n by omega), updv_ne (show ¬ 3 * j + 1 = 3 * n + 2 by omega), updv_ne (show ¬ 3 * j + 1 = 3 * n + 1 by omega), updv_ne (show ¬ 3 * j + 1 = 3 * n by omega), updv_ne (show ¬ 3 * j + 2 = 3 * n + 2 by omega), updv_ne (show ¬ 3 * j + 2 = 3 * n + 1 by omega), updv_ne (show ¬ 3 * j + 2 = 3 * n by omega)]
    exact h3 j (by omega)
theorem ac_full (h : AcR nl f 10 r30 r31 r32 q20) {a i v : Int32} (ha : 0 ≤ a ∧ a < nI nl) (hi : 0 ≤ i ∧ i < nI 4) (hv : b18 v.toInt) : AcR nl ((f + 1) % 10) 10 (upd r30 ((f + 10) % 10) a) (upd r31 ((f + 10) % 10) i) (upd r32 ((f + 10) % 10) v) (upd (upd (upd (shf q20 30) 27 a) 28 i) 29 v) := by
  obtain ⟨h1, h2, h3⟩ := h
  refine ⟨Nat.mod_lt _ (by decide), Nat.le_refl 10, fun j hj => ?_⟩
  by_cases c : j = 9
  · subst c
    have e : ((f + 1) % 10 + 9) % 10 = (f + 10) % 10 := by omega
    rw [e, updv_eq, updv_eq, updv_eq]
    rw [updv_ne (show ¬ 3 * 9 = 29 by omega), updv_ne (show ¬ 3 * 9 = 28 by omega), updv_ne (show ¬ 3 * 9 + 1 = 29 by omega)]
    exact ⟨⟨rfl, rfl, rfl⟩, ha, hi, hv⟩
  · have e : ((f + 1) % 10 + j) % 10 = (f + (j + 1)) % 10 := by omega
    have e2 : ¬ (f + (j + 1)) % 10 = (f + 10) % 10 := by omega
    have s : ∀ t, t < 27 → upd (upd (upd (shf q20 30) 27 a) 28 i) 29 v t = q20 (t + 3) := by
      intro t ht
      rw [updv_ne (by omega), updv_ne (by omega), updv_ne (by omega)]
      unfold shf
      rw [if_pos (by omega)]
    rw [e, updv_ne e2, updv_ne e2, updv_ne e2, s _ (by omega), s _ (by omega), s _ (by omega)]
    have := h3 (j + 1) (by omega)
    rw [show 3 * (j + 1) = 3 * j + 3 by omega, show 3 * j + 3 + 1 = 3 * j + 1 + 3 by omega, show 3 * j + 3 + 2 = 3 * j + 2 + 3 by omega] at this
    exact this
theorem ac_pop (h : AcR nl f n r30 r31 r32 q20) : AcR nl f (n - 1) r30 r31 r32 q20 := ⟨h.1, by have := h.2.1; omega, fun j hj => h.2.2 j (by omega)⟩
end ACTS
/-! the tape -/
theorem and255 (x : Int32) : x &&& 255 = nI (x.toBitVec.toNat % 256) := by
  apply Int32.toBitVec_inj.mp
  apply BitVec.eq_of_toNat_eq
  rw [Int32.toBitVec_and, BitVec.toNat_and]
  show x.toBitVec.toNat &&& 255 = (BitVec.ofNat 32 (x.toBitVec.toNat % 256)).toNat
  rw [BitVec.toNat_ofNat, show (255 : Nat) = 2 ^ 8 - 1 by decide, Nat.and_two_pow_sub_one_eq_mod]
  omega
theorem byte_sgn (x : Int32) : vp_nar .byte (Int8.toInt32 (Int32.toInt8 x)) = sgn (x.toBitVec.toNat % 256) := by
  rw [vp_nar_byte, ← Int32.toInt_inj, sgn_T (by omega)]
  have e1 : ∀ y : Int8, y.toInt32.toInt = y.toInt := fun y => Int8.toInt_toInt32 y
  have e2 : ∀ y : Int32, y.toInt8.toInt = y.toInt.bmod 256 := fun y => Int32.toInt_toInt8 y
  rw [e1, e2, e1, e2]
  have e3 : x.toInt = x.toBitVec.toInt := rfl
  rw [e3, BitVec.toInt_eq_toNat_bmod]
  have hb := x.toBitVec.isLt
  generalize x.toBitVec.toNat = N at *
  simp only [Int.bmod_def]
  omega
theorem tp_put {L : Nat} {r2 q3 : Nat → Int32} (h : TpR L r2 q3) (hL : L + 1 ≤ 700) (x : Int32) : TpR (L + 1) (upd r2 L (vp_nar .byte (Int8.toInt32 (Int32.toInt8 x)))) (upd q3 L (x &&& 255)) := by
  obtain ⟨h1, u, h2, h3⟩ := h
  refine ⟨hL, fun k => if k = L then x.toBitVec.toNat % 256 else u k, fun k hk => ?_, fun k hk => ?_⟩
  · by_cases c : k = L
    · subst c
      simp only [if_true]
      rw [updv_eq]
      exact ⟨Nat.mod_lt _ (by decide), byte_sgn x⟩
    · simp only [if_neg c]
      rw [updv_ne c]; exact h2 k hk
  · by_cases c : k = L
    · subst c
      simp only [if_true]
      rw [updv_eq]; exact and255 x
    · simp only [if_neg c]
      rw [updv_ne c]; exact h3 k (by omega)
/-! splits -/
theorem st_split (a : Int32) : (∃ m : Nat, m ≤ 100 ∧ a = nI m) ∨ (∃ m : Nat, (0 < m ∧ m ≤ 100) ∧ a = -(nI m)) ∨ ((a < (-100) ∨ 100 < a) ∧ ¬ ((-100) ≤ a ∧ a ≤ 100)) := by
  by_cases c1 : 0 ≤ a ∧ a ≤ 100
  · obtain ⟨m, hm, e⟩ := nI_in2 (c := 101) (by decide) c1.1 (by have := c1.2; show a < nI 101; have e : nI 101 = 101 := rfl; rw [e]; grind)
    exact Or.inl ⟨m, by omega, e⟩
  · by_cases c2 : (-100) ≤ a ∧ a ≤ 100
    · have p : 0 ≤ -a ∧ -a < nI 101 := by have e : nI 101 = 101 := rfl; rw [e]; grind
      obtain ⟨m, hm, e⟩ := nI_in2 (c := 101) (by decide) p.1 p.2
      refine Or.inr (Or.inl ⟨m, ⟨?_, by omega⟩, by rw [← e, Int32.neg_neg]⟩)
      rcases Nat.eq_zero_or_pos m with z | z
      · subst z
        exfalso
        have e2 : -a = 0 := e
        have e3 : a = 0 := by rw [← Int32.neg_neg (a := a), e2]; rfl
        rw [e3] at c1
        exact c1 (by decide)
      · exact z
    · exact Or.inr (Or.inr ⟨by grind, c2⟩)
theorem aw_split (a b : Int32) (P : Prop) : (∃ j : Nat, j < 40 ∧ (¬ P ∧ b = 0 ∧ a = nI j)) ∨ (∃ j : Nat, j < 40 ∧ (¬ P ∧ b = 1 ∧ a = nI j)) ∨ (∃ j : Nat, j < 40 ∧ (P ∧ b = 0 ∧ a = nI j)) ∨ (∃ j : Nat, j < 40 ∧ (P ∧ b = 1 ∧ a = nI j)) ∨ (¬ (0 ≤ a ∧ a < 40)) ∨ ((0 ≤ a ∧ a < 40) ∧ ¬ (0 ≤ b ∧ b < 2) ∧ ¬ (0 ≤ b ∧ b ≤ 1)) := by
  by_cases c : 0 ≤ a ∧ a < 40
  · obtain ⟨j, hj, e⟩ := nI_in2 (c := 40) (by decide) c.1 c.2
    by_cases b0 : b = 0
    · by_cases p : P
      · exact Or.inr (Or.inr (Or.inl ⟨j, hj, p, b0, e⟩))
      · exact Or.inl ⟨j, hj, p, b0, e⟩
    · by_cases b1 : b = 1
      · by_cases p : P
        · exact Or.inr (Or.inr (Or.inr (Or.inl ⟨j, hj, p, b1, e⟩)))
        · exact Or.inr (Or.inl ⟨j, hj, p, b1, e⟩)
      · exact Or.inr (Or.inr (Or.inr (Or.inr (Or.inr ⟨c, (n01 b0 b1).2, (n01 b0 b1).1⟩))))
  · exact Or.inr (Or.inr (Or.inr (Or.inr (Or.inl c))))
theorem br_e {b : Nat} (h : b < 2) : (if nI b = 0 then (0 : Int32) else 1) = nI b ∧ 1 - nI b = nI (1 - b) := by
  have : b = 0 ∨ b = 1 := by omega
  rcases this with rfl | rfl
  · exact ⟨rfl, rfl⟩
  · exact ⟨rfl, rfl⟩
