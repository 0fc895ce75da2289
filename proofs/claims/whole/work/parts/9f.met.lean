theorem i64_z {a : Int64} : a = 0 ↔ a.toInt = 0 := by
  rw [← Int64.toInt_inj]
  have e : (0 : Int64).toInt = 0 := rfl
  rw [e]
theorem i64_pos {a : Int64} : 0 < a ↔ 0 < a.toInt := Int64.lt_iff_toInt_lt
theorem ab64_T {a : Int64} (h : a.toInt ≠ -2 ^ 63) : (Ab64 a).toInt = (a.toInt.natAbs : Int) := by
  unfold Ab64
  by_cases c : 0 ≤ a
  · rw [if_pos c]; have := (i64_zle a).mp c; omega
  · rw [if_neg c, i64_neg h]
    have : ¬ 0 ≤ a.toInt := fun z => c ((i64_zle a).mpr z)
    omega
theorem isw_isj {u v w t k : Int64} (hs : okS v k) (hvk : (v * v * k).toInt = v.toInt * v.toInt * k.toInt) (hk : 0 ≤ k.toInt) (hR : (t * w - u).toInt = t.toInt * w.toInt - u.toInt) (hW : (w * t).toInt = w.toInt * t.toInt) (hu : u.toInt.natAbs < 2 ^ 61) (hT : (t.toInt * w.toInt).natAbs < 2 ^ 61) : IsW u v k (w * t) ↔ IsJ u v w t k := by
  have hN : (sqN v k : Int) = v.toInt * v.toInt * k.toInt := by
    unfold sqN; rw [← hvk]; have := hs.1; omega
  have hN2 : sqN v k < 2 ^ 62 := okS_lt hs
  have hsp := rt_spec (n := sqN v k) (by omega)
  have hrl := rt_lt hN2
  have key := met_i (R := t.toInt * w.toInt - u.toInt) hN hk hsp.1 hsp.2 (by omega)
  have lq : lN (rt (sqN v k)) * lN (rt (sqN v k)) = lN (sqN v k) ↔ rt (sqN v k) * rt (sqN v k) = sqN v k := by
    rw [lN_mul, ← Int64.toInt_inj, pk_lT (by omega), pk_lT (by omega)]
    omega
  have hlr : (lN (rt (sqN v k))).toInt = (rt (sqN v k) : Int) := pk_lT (by omega)
  have e2 : (if 0 ≤ v then u + lN (rt (sqN v k)) else u - lN (rt (sqN v k))) = w * t ↔ (if 0 ≤ v.toInt then (rt (sqN v k) : Int) else -(rt (sqN v k) : Int)) = t.toInt * w.toInt - u.toInt := by
    have hc : w.toInt * t.toInt = t.toInt * w.toInt := Int.mul_comm _ _
    by_cases c : 0 ≤ v
    · rw [if_pos c, if_pos ((i64_zle v).mp c), ← Int64.toInt_inj, hW, hc, Int64.toInt_add, hlr, Int.bmod_eq_of_le (by omega) (by omega)]
      omega
    · have c' : ¬ 0 ≤ v.toInt := fun z => c ((i64_zle v).mpr z)
      rw [if_neg c, if_neg c', ← Int64.toInt_inj, hW, hc, Int64.toInt_sub, hlr, Int.bmod_eq_of_le (by omega) (by omega)]
      omega
  have hnm : (t * w - u).toInt ≠ -2 ^ 63 := by rw [hR]; omega
  have hl3 : Ab64 (t * w - u) < 3000000000 ↔ (t.toInt * w.toInt - u.toInt).natAbs < 3000000000 := by
    rw [Int64.lt_iff_toInt_lt, ab64_T hnm, hR]
    have e : (3000000000 : Int64).toInt = 3000000000 := rfl
    rw [e]; omega
  have hsq : (t.toInt * w.toInt - u.toInt).natAbs < 3000000000 → ((t * w - u) * (t * w - u) = v * v * k ↔ (t.toInt * w.toInt - u.toInt) * (t.toInt * w.toInt - u.toInt) = v.toInt * v.toInt * k.toInt) := by
    intro hb
    have m := am (x := t.toInt * w.toInt - u.toInt) (y := t.toInt * w.toInt - u.toInt) (a := 3000000000) (b := 3000000000) (by omega) (by omega)
    have n := sq_nn (t.toInt * w.toInt - u.toInt)
    rw [← Int64.toInt_inj, i64_mul (by rw [hR]; omega) (by rw [hR]; omega), hR, hvk]
  unfold IsW IsJ
  rw [lq, e2, key, i64_z, i64_z (a := v), i64_z (a := k), i64_pos, i64_pos (a := v), hl3, hR]
  constructor
  · rintro (h | ⟨a, b, c, d⟩)
    · exact Or.inl h
    · exact Or.inr ⟨a, b, c, (hsq c).mpr d⟩
  · rintro (h | ⟨a, b, c, d⟩)
    · exact Or.inl h
    · exact Or.inr ⟨a, b, c, (hsq c).mp d⟩
