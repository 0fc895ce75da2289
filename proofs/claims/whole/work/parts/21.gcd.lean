/-! GREATEST COMMON DIVISORS -/
theorem i64_neg {a : Int64} (h : a.toInt ≠ -2 ^ 63) : (-a).toInt = -a.toInt := by
  have h1 := a.toInt_lt
  have h2 := a.le_toInt
  rw [Int64.toInt_neg, Int.bmod_eq_of_le (by omega) (by omega)]
theorem i64_abs_nn {a : Int64} (h : 0 ≤ a) : a = lN a.toInt.natAbs := by
  apply Int64.toInt_inj.mp
  have h0 : 0 ≤ a.toInt := by simpa using Int64.le_iff_toInt_le.mp h
  have h1 := a.toInt_lt
  rw [pk_lT (by omega)]
  omega
theorem i64_abs_neg {a : Int64} (hm : a.toInt ≠ -2 ^ 63) (h : ¬ 0 ≤ a) : -a = lN a.toInt.natAbs := by
  apply Int64.toInt_inj.mp
  have h0 : ¬ 0 ≤ a.toInt := fun q => h (Int64.le_iff_toInt_le.mpr (by simpa using q))
  have h1 := a.le_toInt
  rw [i64_neg hm, pk_lT (by omega)]
  omega
theorem ab64_lN {a : Int64} (h : a.toInt ≠ -2 ^ 63) : Ab64 a = lN a.toInt.natAbs := by
  unfold Ab64
  by_cases h0 : 0 ≤ a
  · rw [if_pos h0]; exact i64_abs_nn h0
  · rw [if_neg h0]; exact i64_abs_neg h h0
theorem mabs_lN {a : Int64} (h : a.toInt ≠ -2 ^ 63) : (if 0 < a then a else -a) = lN a.toInt.natAbs := by
  by_cases h0 : 0 < a
  · rw [if_pos h0]; exact i64_abs_nn (Int64.le_of_lt h0)
  · rw [if_neg h0]
    by_cases h1 : 0 ≤ a
    · have : a = 0 := Int64.le_antisymm (Int64.not_lt.mp h0) h1
      subst this; rfl
    · exact i64_abs_neg h h1
theorem abs_lt {a : Int64} (h : a.toInt ≠ -2 ^ 63) : a.toInt.natAbs < 2 ^ 63 := by
  have h1 := a.toInt_lt
  have h2 := a.le_toInt
  omega
/-- Euclid's steps -/
def eu : Nat → Nat → Nat → Nat × Nat
  | 0, g, r => (g, r)
  | n + 1, g, r => if r = 0 then (g, 0) else eu n r (g % r)
def fb : Nat → Nat
  | 0 => 0
  | 1 => 1
  | n + 2 => fb n + fb (n + 1)
theorem eu_gcd : ∀ (n g r : Nat), Nat.gcd (eu n g r).1 (eu n g r).2 = Nat.gcd g r
  | 0, _, _ => rfl
  | n + 1, g, r => by
    unfold eu
    by_cases h : r = 0
    · simp [h]
    · rw [if_neg h, eu_gcd n r (g % r), Nat.gcd_comm r (g % r), ← Nat.gcd_rec, Nat.gcd_comm]
theorem eu_fb : ∀ (n g r : Nat), r < g → (eu n g r).2 ≠ 0 → fb (n + 1) ≤ r ∧ fb (n + 2) ≤ g
  | 0, g, r, h, h2 => by
    have h3 : r ≠ 0 := h2
    show 1 ≤ r ∧ 0 + 1 ≤ g
    omega
  | n + 1, g, r, h, h2 => by
    unfold eu at h2
    by_cases h0 : r = 0
    · rw [if_pos h0] at h2; exact absurd rfl h2
    · rw [if_neg h0] at h2
      obtain ⟨a, b⟩ := eu_fb n r (g % r) (Nat.mod_lt _ (by omega)) h2
      refine ⟨b, ?_⟩
      show fb (n + 1) + fb (n + 2) ≤ g
      have h4 : r * (g / r) + g % r = g := Nat.div_add_mod g r
      have h5 : 1 ≤ g / r := Nat.div_pos (Nat.le_of_lt h) (by omega)
      have h6 : r * 1 ≤ r * (g / r) := Nat.mul_le_mul_left r h5
      omega
theorem fb99 : 2 ^ 63 ≤ fb 100 := by decide +kernel
theorem eu_zero : ∀ (n g : Nat), eu n g 0 = (g, 0)
  | 0, _ => rfl
  | n + 1, _ => by unfold eu; simp
theorem eu_done {g r : Nat} (hr : r < 2 ^ 63) (hg : g < 2 ^ 63) : (eu 100 g r).2 = 0 := by
  by_cases h : r < g
  · by_cases h2 : (eu 100 g r).2 = 0
    · exact h2
    · have h3 := (eu_fb 100 g r h h2).1
      have h4 := fb99
      have h5 : fb 100 ≤ fb (100 + 1) := by show fb 100 ≤ fb 99 + fb 100; omega
      omega
  · unfold eu
    by_cases h0 : r = 0
    · rw [if_pos h0]
    · rw [if_neg h0]
      by_cases h2 : (eu 99 r (g % r)).2 = 0
      · exact h2
      · have h3 := (eu_fb 99 r (g % r) (Nat.mod_lt _ (by omega)) h2).1
        have h4 := fb99
        have h5 : g % r < r := Nat.mod_lt _ (by omega)
        have h6 : fb (99 + 1) = fb 100 := rfl
        omega
theorem eu_100 {g r : Nat} (hr : r < 2 ^ 63) (hg : g < 2 ^ 63) : (eu 100 g r).1 = Nat.gcd g r := by
  have h := eu_gcd 100 g r
  rw [eu_done hr hg, Nat.gcd_zero_right] at h
  exact h
