/-! exact and rate: bounds, and both sides -/
theorem posw_ne {w : Int64} (h : 0 < w) : ¬ w = 0 := fun z => by rw [z] at h; exact absurd h (by decide)
theorem sg_I (b : Int32) : ∃ s : Int, Sgn b = Int64.ofInt s ∧ s.natAbs ≤ 1 := by
  rw [sgn_sq]
  exact ⟨_, rfl, by split <;> decide⟩
theorem ex_ne {q : Nat → Int32} {l a : Int32} (b : Int32) (hB : okB q l) (ha : 0 ≤ a ∧ a < 40) : ((((2 * (Int32.toInt64 (Ba q l))) * (Ps_c a)) * (Ps_s (Bg q l) (Ba q l) a)) + ((Ps_e (Bg q l) (Ba q l) (Bb q l) (Bc q l) a) * (Ps_x (Bg q l) (Ba q l) a))).toInt ≠ -2 ^ 63 ∧ ((((2 * (Int32.toInt64 (Ba q l))) * (Ps_d a)) * (Ps_s (Bg q l) (Ba q l) a)) + ((Ps_e (Bg q l) (Ba q l) (Bb q l) (Bc q l) a) * (Ps_y (Ba q l) a))).toInt ≠ -2 ^ 63 ∧ ((-(Ps_y (Ba q l) a)) * (Sgn b)).toInt ≠ -2 ^ 63 ∧ ((Ps_x (Bg q l) (Ba q l) a) * (Sgn b)).toInt ≠ -2 ^ 63 ∧ ((2 * (Ps_s (Bg q l) (Ba q l) a)) * (Ps_n a)).toInt ≠ -2 ^ 63 := by
  obtain ⟨k, hk, rfl⟩ := nI_in2 (c := 40) (by decide) ha.1 ha.2
  obtain ⟨h1, h2, h3, h4⟩ := hB
  obtain ⟨s, es, bs⟩ := sg_I b
  have t := tab_ncd k hk
  have bS := s_le h1 h2 hk
  have bE := e_le h1 h2 h3 h4 hk
  have bX := x_le h1 h2 hk
  have ba := b18a h2
  rw [es, ps_c k hk, ps_d k hk, ps_n k hk, ps_s _ _ hk, ps_e _ _ _ _ hk, ps_x _ _ hk, ps_y _ hk, i64_of32, lq2]
  simp only [← Int64.ofInt_mul, ← Int64.ofInt_add, ← Int64.ofInt_neg]
  generalize iS (Bg q l).toInt (Ba q l).toInt k = S at *
  generalize iE (Bg q l).toInt (Ba q l).toInt (Bb q l).toInt (Bc q l).toInt k = E at *
  generalize iX (Bg q l).toInt (Ba q l).toInt k = X at *
  generalize iY (Ba q l).toInt k = Y at *
  have m1 := am (x := 2 * (Ba q l).toInt) (y := iC k) (a := 36) (b := 41) (by omega) t.2.2.2.1
  have m2 := am m1 bS
  have m3 := am bE bX.1
  have m4 := am (x := 2 * (Ba q l).toInt) (y := iD k) (a := 36) (b := 41) (by omega) t.2.2.2.2.2.1
  have m5 := am m4 bS
  have m6 := am bE bX.2
  have m7 := am (x := -Y) (y := s) (a := 738) (b := 1) (by omega) bs
  have m8 := am bX.1 bs
  have m9 := am (x := 2 * S) (y := iN k) (a := 106272) (b := 41) (by omega) t.2.2.1
  rw [ofI_T (by omega) (by omega), ofI_T (by omega) (by omega), ofI_T (by omega) (by omega), ofI_T (by omega) (by omega), ofI_T (by omega) (by omega)]
  omega
section HELPE
variable {nl nt np nr : Nat} {r5 r6 q4 q5 q6 q7 : Nat → Int32}
theorem ex_e (h : DkR nl nt np nr r5 r6 q4 q5 q6 q7) {l a : Int32} (b : Int32) (hl : 0 ≤ l ∧ l < nI nl) (ha : 0 ≤ a ∧ a < 40) : (Mj_u0 (Ml_c a) (Ml_s q4 l a) (Ml_e q4 l a) (Ml_x q4 l a) (Int32.toInt64 (Ba q4 l))) = ((((2 * (Int32.toInt64 (Ba r5 l))) * (Ps_c a)) * (Ps_s (Bg r5 l) (Ba r5 l) a)) + ((Ps_e (Bg r5 l) (Ba r5 l) (Bb r5 l) (Bc r5 l) a) * (Ps_x (Bg r5 l) (Ba r5 l) a))) ∧ (Mj_u1 (Ml_d a) (Ml_s q4 l a) (Ml_e q4 l a) (Ml_y q4 l a) (Int32.toInt64 (Ba q4 l))) = ((((2 * (Int32.toInt64 (Ba r5 l))) * (Ps_d a)) * (Ps_s (Bg r5 l) (Ba r5 l) a)) + ((Ps_e (Bg r5 l) (Ba r5 l) (Bb r5 l) (Bc r5 l) a) * (Ps_y (Ba r5 l) a))) ∧ (Mj_v0 (Ml_y q4 l a) b) = ((-(Ps_y (Ba r5 l) a)) * (Sgn b)) ∧ (Mj_v1 (Ml_x q4 l a) b) = ((Ps_x (Bg r5 l) (Ba r5 l) a) * (Sgn b)) ∧ ((2 * (Ml_s q4 l a)) * (Ml_n a)) = ((2 * (Ps_s (Bg r5 l) (Ba r5 l) a)) * (Ps_n a)) := by
  obtain ⟨k, hk, rfl⟩ := nI_in2 (c := 40) (by decide) ha.1 ha.2
  obtain ⟨b1, b2, b3, b4, b5⟩ := dk_bars h hl
  rw [b1, b2, b3, b4]
  exact ⟨x_u0 hk, x_u1 hk, x_v0 hk, x_v1 hk, by rw [m_s hk, m_n k hk]⟩
theorem mex (h : DkR nl nt np nr r5 r6 q4 q5 q6 q7) {l a : Int32} (b : Int32) (hl : 0 ≤ l ∧ l < nI nl) (ha : 0 ≤ a ∧ a < 40) : (Mj_u0 (Ml_c a) (Ml_s q4 l a) (Ml_e q4 l a) (Ml_x q4 l a) (Int32.toInt64 (Ba q4 l))).toInt ≠ -2 ^ 63 ∧ (Mj_u1 (Ml_d a) (Ml_s q4 l a) (Ml_e q4 l a) (Ml_y q4 l a) (Int32.toInt64 (Ba q4 l))).toInt ≠ -2 ^ 63 ∧ (Mj_v0 (Ml_y q4 l a) b).toInt ≠ -2 ^ 63 ∧ (Mj_v1 (Ml_x q4 l a) b).toInt ≠ -2 ^ 63 ∧ ((2 * (Ml_s q4 l a)) * (Ml_n a)).toInt ≠ -2 ^ 63 := by
  obtain ⟨e1, e2, e3, e4, e5⟩ := ex_e h b hl ha
  rw [e1, e2, e3, e4, e5]
  exact ex_ne b (dk_okB h hl) ha
theorem g2_ne {u v : Int64} (hu : u.toInt ≠ -2 ^ 63) (hv : v.toInt ≠ -2 ^ 63) : (lN (Nat.gcd u.toInt.natAbs v.toInt.natAbs)).toInt ≠ -2 ^ 63 := by
  rw [pk_lT (gcd_lt hu hv)]; omega
end HELPE
theorem rt_I {q : Nat → Int32} {l : Int32} {k : Nat} (b : Int32) (hB : okB q l) (hk : k < 40) : ∃ U V W : Int, (((Int32.toInt64 (Ba q l)) * (((Int32.toInt64 (Ba q l)) * (Ps_n (nI k))) - ((Int32.toInt64 (Bg q l)) * (Ps_c (nI k))))) * (Ps_k (Bg q l) (Ba q l) (Bb q l) (Bc q l) (nI k))) = Int64.ofInt U ∧ (((((Int32.toInt64 (Ba q l)) * (Int32.toInt64 (Bg q l))) * (Ps_d (nI k))) * (Ps_e (Bg q l) (Ba q l) (Bb q l) (Bc q l) (nI k))) * (Sgn b)) = Int64.ofInt V ∧ ((Ps_s (Bg q l) (Ba q l) (nI k)) * (Ps_k (Bg q l) (Ba q l) (Bb q l) (Bc q l) (nI k))) = Int64.ofInt W ∧ U.natAbs ≤ 265680000000000 ∧ V.natAbs ≤ 1058787936 ∧ W.natAbs ≤ 531360000000000 := by
  obtain ⟨h1, h2, h3, h4⟩ := hB
  obtain ⟨s, es, bs⟩ := sg_I b
  have t := tab_ncd k hk
  have bS := s_le h1 h2 hk
  have bE := e_le h1 h2 h3 h4 hk
  have bK := k_ge h1 h2 h3 h4 hk
  have ba := b18a h2
  have bg := b18a h1
  rw [es, ps_c k hk, ps_d k hk, ps_n k hk, ps_s _ _ hk, ps_e _ _ _ _ hk, ps_k _ _ _ _ hk, i64_of32, i64_of32]
  simp only [← Int64.ofInt_mul, ← Int64.ofInt_add, ← Int64.ofInt_sub]
  refine ⟨_, _, _, rfl, rfl, rfl, ?_⟩
  generalize iS (Bg q l).toInt (Ba q l).toInt k = S at *
  generalize iE (Bg q l).toInt (Ba q l).toInt (Bb q l).toInt (Bc q l).toInt k = E at *
  generalize iK (Bg q l).toInt (Ba q l).toInt (Bb q l).toInt (Bc q l).toInt k = K at *
  have m1 := am ba t.2.2.1
  have m2 := am bg t.2.2.2.1
  have m3 := am (x := (Ba q l).toInt) (y := (Ba q l).toInt * iN k - (Bg q l).toInt * iC k) (a := 18) (b := 1476) ba (by omega)
  have m4 := am m3 bK
  have m5 := am ba bg
  have m6 := am m5 t.2.2.2.2.2.1
  have m7 := am m6 bE
  have m8 := am m7 bs
  have m9 := am bS bK
  omega
theorem kr_ne {q : Nat → Int32} {l a : Int32} (b : Int32) (hB : okB q l) (ha : 0 ≤ a ∧ a < 40) : (((Int32.toInt64 (Ba q l)) * (((Int32.toInt64 (Ba q l)) * (Ps_n a)) - ((Int32.toInt64 (Bg q l)) * (Ps_c a)))) * (Ps_k (Bg q l) (Ba q l) (Bb q l) (Bc q l) a)).toInt ≠ -2 ^ 63 ∧ (((((Int32.toInt64 (Ba q l)) * (Int32.toInt64 (Bg q l))) * (Ps_d a)) * (Ps_e (Bg q l) (Ba q l) (Bb q l) (Bc q l) a)) * (Sgn b)).toInt ≠ -2 ^ 63 ∧ ((Ps_s (Bg q l) (Ba q l) a) * (Ps_k (Bg q l) (Ba q l) (Bb q l) (Bc q l) a)).toInt ≠ -2 ^ 63 := by
  obtain ⟨k, hk, rfl⟩ := nI_in2 (c := 40) (by decide) ha.1 ha.2
  obtain ⟨U, V, W, e1, e2, e3, b1, b2, b3⟩ := rt_I b hB hk
  rw [e1, e2, e3, ofI_T (by omega) (by omega), ofI_T (by omega) (by omega), ofI_T (by omega) (by omega)]
  omega
theorem rate_T {q : Nat → Int32} {l a : Int32} (b : Int32) {c : Int64} (hc : c = -2 * Sgn b) (hB : okB q l) (ha : 0 ≤ a ∧ a < 40) : ∃ t : Nat, 0 < t ∧ (((c * (Int32.toInt64 (Ba q l))) * (((Ml_c a) * (Mj_v1 (Ml_x q l a) b)) - ((Ml_d a) * (Mj_v0 (Ml_y q l a) b)))) * (Ml_k q l a)).toInt = t * (((Int32.toInt64 (Ba q l)) * (((Int32.toInt64 (Ba q l)) * (Ps_n a)) - ((Int32.toInt64 (Bg q l)) * (Ps_c a)))) * (Ps_k (Bg q l) (Ba q l) (Bb q l) (Bc q l) a)).toInt ∧ ((c * (Int32.toInt64 (Ba q l))) * (((Ml_c a) * (Mj_u1 (Ml_d a) (Ml_s q l a) (Ml_e q l a) (Ml_y q l a) (Int32.toInt64 (Ba q l)))) - ((Ml_d a) * (Mj_u0 (Ml_c a) (Ml_s q l a) (Ml_e q l a) (Ml_x q l a) (Int32.toInt64 (Ba q l)))))).toInt = t * (((((Int32.toInt64 (Ba q l)) * (Int32.toInt64 (Bg q l))) * (Ps_d a)) * (Ps_e (Bg q l) (Ba q l) (Bb q l) (Bc q l) a)) * (Sgn b)).toInt ∧ (((2 * (Ml_s q l a)) * (Ml_n a)) * (Ml_k q l a)).toInt = t * ((Ps_s (Bg q l) (Ba q l) a) * (Ps_k (Bg q l) (Ba q l) (Bb q l) (Bc q l) a)).toInt ∧ (((c * (Int32.toInt64 (Ba q l))) * (((Ml_c a) * (Mj_v1 (Ml_x q l a) b)) - ((Ml_d a) * (Mj_v0 (Ml_y q l a) b)))) * (Ml_k q l a)).toInt ≠ -2 ^ 63 ∧ ((c * (Int32.toInt64 (Ba q l))) * (((Ml_c a) * (Mj_u1 (Ml_d a) (Ml_s q l a) (Ml_e q l a) (Ml_y q l a) (Int32.toInt64 (Ba q l)))) - ((Ml_d a) * (Mj_u0 (Ml_c a) (Ml_s q l a) (Ml_e q l a) (Ml_x q l a) (Int32.toInt64 (Ba q l)))))).toInt ≠ -2 ^ 63 ∧ (((2 * (Ml_s q l a)) * (Ml_n a)) * (Ml_k q l a)).toInt ≠ -2 ^ 63 := by
  obtain ⟨k, hk, rfl⟩ := nI_in2 (c := 40) (by decide) ha.1 ha.2
  obtain ⟨U, V, W, e1, e2, e3, b1, b2, b3⟩ := rt_I b hB hk
  have t := tab_ncd k hk
  rw [hc, r_u hk, r_v hk, r_w hk, e1, e2, e3, ps_n k hk, lq2]
  simp only [← Int64.ofInt_mul]
  have m1 := am (x := 2 * iN k) (y := U) (a := 82) (b := 265680000000000) (by omega) b1
  have m2 := am (x := 2 * iN k) (y := V) (a := 82) (b := 1058787936) (by omega) b2
  have m3 := am (x := 2 * iN k) (y := W) (a := 82) (b := 531360000000000) (by omega) b3
  have tn : (((2 * iN k).natAbs : Nat) : Int) = 2 * iN k := by omega
  refine ⟨(2 * iN k).natAbs, by omega, ?_⟩
  rw [tn, ofI_T (by omega) (by omega), ofI_T (by omega) (by omega), ofI_T (by omega) (by omega), ofI_T (by omega) (by omega), ofI_T (by omega) (by omega), ofI_T (by omega) (by omega)]
  exact ⟨rfl, rfl, rfl, by omega, by omega, by omega⟩
theorem kw_ne {q : Nat → Int32} {l a : Int32} (hB : okB q l) (ha : 0 ≤ a ∧ a < 40) (hs : 0 < (Ps_s (Bg q l) (Ba q l) a)) (hk0 : ¬ (Ps_k (Bg q l) (Ba q l) (Bb q l) (Bc q l) a) = 0) : ¬ ((Ps_s (Bg q l) (Ba q l) a) * (Ps_k (Bg q l) (Ba q l) (Bb q l) (Bc q l) a)) = 0 := by
  obtain ⟨k, hk, rfl⟩ := nI_in2 (c := 40) (by decide) ha.1 ha.2
  obtain ⟨h1, h2, h3, h4⟩ := hB
  have bS := s_le h1 h2 hk
  have bK := k_ge h1 h2 h3 h4 hk
  have m9 := am bS bK
  rw [i64_z, ps_k _ _ _ _ hk, ofI_T (by omega) (by omega)] at hk0
  rw [i64_pos, ps_s _ _ hk, ofI_T (by omega) (by omega)] at hs
  rw [i64_z, ps_s _ _ hk, ps_k _ _ _ _ hk, ← Int64.ofInt_mul, ofI_T (by omega) (by omega)]
  intro z
  rcases Int.mul_eq_zero.mp z with y | y
  · omega
  · exact hk0 y
theorem rate_q {q : Nat → Int32} {l a : Int32} (b : Int32) {c : Int64} (hc : c = -2 * Sgn b) (hB : okB q l) (ha : 0 ≤ a ∧ a < 40) (hs : 0 < (Ps_s (Bg q l) (Ba q l) a)) (hk0 : ¬ (Ps_k (Bg q l) (Ba q l) (Bb q l) (Bc q l) a) = 0) : ((((c * (Int32.toInt64 (Ba q l))) * (((Ml_c a) * (Mj_v1 (Ml_x q l a) b)) - ((Ml_d a) * (Mj_v0 (Ml_y q l a) b)))) * (Ml_k q l a)).toInt ≠ -2 ^ 63 ∧ ((c * (Int32.toInt64 (Ba q l))) * (((Ml_c a) * (Mj_u1 (Ml_d a) (Ml_s q l a) (Ml_e q l a) (Ml_y q l a) (Int32.toInt64 (Ba q l)))) - ((Ml_d a) * (Mj_u0 (Ml_c a) (Ml_s q l a) (Ml_e q l a) (Ml_x q l a) (Int32.toInt64 (Ba q l)))))).toInt ≠ -2 ^ 63 ∧ (((2 * (Ml_s q l a)) * (Ml_n a)) * (Ml_k q l a)).toInt ≠ -2 ^ 63 ∧ ¬ G3 (((c * (Int32.toInt64 (Ba q l))) * (((Ml_c a) * (Mj_v1 (Ml_x q l a) b)) - ((Ml_d a) * (Mj_v0 (Ml_y q l a) b)))) * (Ml_k q l a)) ((c * (Int32.toInt64 (Ba q l))) * (((Ml_c a) * (Mj_u1 (Ml_d a) (Ml_s q l a) (Ml_e q l a) (Ml_y q l a) (Int32.toInt64 (Ba q l)))) - ((Ml_d a) * (Mj_u0 (Ml_c a) (Ml_s q l a) (Ml_e q l a) (Ml_x q l a) (Int32.toInt64 (Ba q l)))))) (((2 * (Ml_s q l a)) * (Ml_n a)) * (Ml_k q l a)) = 0) ∧ (((c * (Int32.toInt64 (Ba q l))) * (((Ml_c a) * (Mj_v1 (Ml_x q l a) b)) - ((Ml_d a) * (Mj_v0 (Ml_y q l a) b)))) * (Ml_k q l a)) / G3 (((c * (Int32.toInt64 (Ba q l))) * (((Ml_c a) * (Mj_v1 (Ml_x q l a) b)) - ((Ml_d a) * (Mj_v0 (Ml_y q l a) b)))) * (Ml_k q l a)) ((c * (Int32.toInt64 (Ba q l))) * (((Ml_c a) * (Mj_u1 (Ml_d a) (Ml_s q l a) (Ml_e q l a) (Ml_y q l a) (Int32.toInt64 (Ba q l)))) - ((Ml_d a) * (Mj_u0 (Ml_c a) (Ml_s q l a) (Ml_e q l a) (Ml_x q l a) (Int32.toInt64 (Ba q l)))))) (((2 * (Ml_s q l a)) * (Ml_n a)) * (Ml_k q l a)) = Rd3 (((Int32.toInt64 (Ba q l)) * (((Int32.toInt64 (Ba q l)) * (Ps_n a)) - ((Int32.toInt64 (Bg q l)) * (Ps_c a)))) * (Ps_k (Bg q l) (Ba q l) (Bb q l) (Bc q l) a)) (((((Int32.toInt64 (Ba q l)) * (Int32.toInt64 (Bg q l))) * (Ps_d a)) * (Ps_e (Bg q l) (Ba q l) (Bb q l) (Bc q l) a)) * (Sgn b)) ((Ps_s (Bg q l) (Ba q l) a) * (Ps_k (Bg q l) (Ba q l) (Bb q l) (Bc q l) a)) 0 ∧ ((c * (Int32.toInt64 (Ba q l))) * (((Ml_c a) * (Mj_u1 (Ml_d a) (Ml_s q l a) (Ml_e q l a) (Ml_y q l a) (Int32.toInt64 (Ba q l)))) - ((Ml_d a) * (Mj_u0 (Ml_c a) (Ml_s q l a) (Ml_e q l a) (Ml_x q l a) (Int32.toInt64 (Ba q l)))))) / G3 (((c * (Int32.toInt64 (Ba q l))) * (((Ml_c a) * (Mj_v1 (Ml_x q l a) b)) - ((Ml_d a) * (Mj_v0 (Ml_y q l a) b)))) * (Ml_k q l a)) ((c * (Int32.toInt64 (Ba q l))) * (((Ml_c a) * (Mj_u1 (Ml_d a) (Ml_s q l a) (Ml_e q l a) (Ml_y q l a) (Int32.toInt64 (Ba q l)))) - ((Ml_d a) * (Mj_u0 (Ml_c a) (Ml_s q l a) (Ml_e q l a) (Ml_x q l a) (Int32.toInt64 (Ba q l)))))) (((2 * (Ml_s q l a)) * (Ml_n a)) * (Ml_k q l a)) = Rd3 (((Int32.toInt64 (Ba q l)) * (((Int32.toInt64 (Ba q l)) * (Ps_n a)) - ((Int32.toInt64 (Bg q l)) * (Ps_c a)))) * (Ps_k (Bg q l) (Ba q l) (Bb q l) (Bc q l) a)) (((((Int32.toInt64 (Ba q l)) * (Int32.toInt64 (Bg q l))) * (Ps_d a)) * (Ps_e (Bg q l) (Ba q l) (Bb q l) (Bc q l) a)) * (Sgn b)) ((Ps_s (Bg q l) (Ba q l) a) * (Ps_k (Bg q l) (Ba q l) (Bb q l) (Bc q l) a)) 1 ∧ (((2 * (Ml_s q l a)) * (Ml_n a)) * (Ml_k q l a)) / G3 (((c * (Int32.toInt64 (Ba q l))) * (((Ml_c a) * (Mj_v1 (Ml_x q l a) b)) - ((Ml_d a) * (Mj_v0 (Ml_y q l a) b)))) * (Ml_k q l a)) ((c * (Int32.toInt64 (Ba q l))) * (((Ml_c a) * (Mj_u1 (Ml_d a) (Ml_s q l a) (Ml_e q l a) (Ml_y q l a) (Int32.toInt64 (Ba q l)))) - ((Ml_d a) * (Mj_u0 (Ml_c a) (Ml_s q l a) (Ml_e q l a) (Ml_x q l a) (Int32.toInt64 (Ba q l)))))) (((2 * (Ml_s q l a)) * (Ml_n a)) * (Ml_k q l a)) = Rd3 (((Int32.toInt64 (Ba q l)) * (((Int32.toInt64 (Ba q l)) * (Ps_n a)) - ((Int32.toInt64 (Bg q l)) * (Ps_c a)))) * (Ps_k (Bg q l) (Ba q l) (Bb q l) (Bc q l) a)) (((((Int32.toInt64 (Ba q l)) * (Int32.toInt64 (Bg q l))) * (Ps_d a)) * (Ps_e (Bg q l) (Ba q l) (Bb q l) (Bc q l) a)) * (Sgn b)) ((Ps_s (Bg q l) (Ba q l) a) * (Ps_k (Bg q l) (Ba q l) (Bb q l) (Bc q l) a)) 2 := by
  obtain ⟨t, t0, e1, e2, e3, n1, n2, n3⟩ := rate_T b hc hB ha
  obtain ⟨k1, k2, k3⟩ := kr_ne b hB ha
  have w0 := kw_ne hB ha hs hk0
  have g0 := g3_ne k1 k2 k3 w0
  have w1 : ¬ (((2 * (Ml_s q l a)) * (Ml_n a)) * (Ml_k q l a)) = 0 := by
    intro z
    rw [z] at e3
    have z0 : (0 : Int64).toInt = 0 := rfl
    rw [z0] at e3
    rcases Int.mul_eq_zero.mp e3.symm with y | y
    · omega
    · exact w0 (i64_z.mpr y)
  rw [rd3_0 g0, rd3_1 g0, rd3_2 g0]
  exact ⟨⟨n1, n2, n3, g3_ne n1 n2 n3 w1⟩, sc_G t0 e1 e2 e3 w0 k1 k2 k3 n1 n2 n3 _ _ e1, sc_G t0 e1 e2 e3 w0 k1 k2 k3 n1 n2 n3 _ _ e2, sc_G t0 e1 e2 e3 w0 k1 k2 k3 n1 n2 n3 _ _ e3⟩
theorem rate_m {q : Nat → Int32} {l a : Int32} (b : Int32) {c : Int64} (hc : c = -2 * Sgn b) (hB : okB q l) (ha : 0 ≤ a ∧ a < 40) (hs : 0 < Ml_s q l a ∧ 0 ≤ Ml_k q l a) (hk0 : ¬ Ml_k q l a = 0) : ((((c * (Int32.toInt64 (Ba q l))) * (((Ml_c a) * (Mj_v1 (Ml_x q l a) b)) - ((Ml_d a) * (Mj_v0 (Ml_y q l a) b)))) * (Ml_k q l a)).toInt ≠ -2 ^ 63 ∧ ((c * (Int32.toInt64 (Ba q l))) * (((Ml_c a) * (Mj_u1 (Ml_d a) (Ml_s q l a) (Ml_e q l a) (Ml_y q l a) (Int32.toInt64 (Ba q l)))) - ((Ml_d a) * (Mj_u0 (Ml_c a) (Ml_s q l a) (Ml_e q l a) (Ml_x q l a) (Int32.toInt64 (Ba q l)))))).toInt ≠ -2 ^ 63 ∧ (((2 * (Ml_s q l a)) * (Ml_n a)) * (Ml_k q l a)).toInt ≠ -2 ^ 63 ∧ ¬ G3 (((c * (Int32.toInt64 (Ba q l))) * (((Ml_c a) * (Mj_v1 (Ml_x q l a) b)) - ((Ml_d a) * (Mj_v0 (Ml_y q l a) b)))) * (Ml_k q l a)) ((c * (Int32.toInt64 (Ba q l))) * (((Ml_c a) * (Mj_u1 (Ml_d a) (Ml_s q l a) (Ml_e q l a) (Ml_y q l a) (Int32.toInt64 (Ba q l)))) - ((Ml_d a) * (Mj_u0 (Ml_c a) (Ml_s q l a) (Ml_e q l a) (Ml_x q l a) (Int32.toInt64 (Ba q l)))))) (((2 * (Ml_s q l a)) * (Ml_n a)) * (Ml_k q l a)) = 0) ∧ (((c * (Int32.toInt64 (Ba q l))) * (((Ml_c a) * (Mj_v1 (Ml_x q l a) b)) - ((Ml_d a) * (Mj_v0 (Ml_y q l a) b)))) * (Ml_k q l a)) / G3 (((c * (Int32.toInt64 (Ba q l))) * (((Ml_c a) * (Mj_v1 (Ml_x q l a) b)) - ((Ml_d a) * (Mj_v0 (Ml_y q l a) b)))) * (Ml_k q l a)) ((c * (Int32.toInt64 (Ba q l))) * (((Ml_c a) * (Mj_u1 (Ml_d a) (Ml_s q l a) (Ml_e q l a) (Ml_y q l a) (Int32.toInt64 (Ba q l)))) - ((Ml_d a) * (Mj_u0 (Ml_c a) (Ml_s q l a) (Ml_e q l a) (Ml_x q l a) (Int32.toInt64 (Ba q l)))))) (((2 * (Ml_s q l a)) * (Ml_n a)) * (Ml_k q l a)) = Rd3 (((Int32.toInt64 (Ba q l)) * (((Int32.toInt64 (Ba q l)) * (Ps_n a)) - ((Int32.toInt64 (Bg q l)) * (Ps_c a)))) * (Ps_k (Bg q l) (Ba q l) (Bb q l) (Bc q l) a)) (((((Int32.toInt64 (Ba q l)) * (Int32.toInt64 (Bg q l))) * (Ps_d a)) * (Ps_e (Bg q l) (Ba q l) (Bb q l) (Bc q l) a)) * (Sgn b)) ((Ps_s (Bg q l) (Ba q l) a) * (Ps_k (Bg q l) (Ba q l) (Bb q l) (Bc q l) a)) 0 ∧ ((c * (Int32.toInt64 (Ba q l))) * (((Ml_c a) * (Mj_u1 (Ml_d a) (Ml_s q l a) (Ml_e q l a) (Ml_y q l a) (Int32.toInt64 (Ba q l)))) - ((Ml_d a) * (Mj_u0 (Ml_c a) (Ml_s q l a) (Ml_e q l a) (Ml_x q l a) (Int32.toInt64 (Ba q l)))))) / G3 (((c * (Int32.toInt64 (Ba q l))) * (((Ml_c a) * (Mj_v1 (Ml_x q l a) b)) - ((Ml_d a) * (Mj_v0 (Ml_y q l a) b)))) * (Ml_k q l a)) ((c * (Int32.toInt64 (Ba q l))) * (((Ml_c a) * (Mj_u1 (Ml_d a) (Ml_s q l a) (Ml_e q l a) (Ml_y q l a) (Int32.toInt64 (Ba q l)))) - ((Ml_d a) * (Mj_u0 (Ml_c a) (Ml_s q l a) (Ml_e q l a) (Ml_x q l a) (Int32.toInt64 (Ba q l)))))) (((2 * (Ml_s q l a)) * (Ml_n a)) * (Ml_k q l a)) = Rd3 (((Int32.toInt64 (Ba q l)) * (((Int32.toInt64 (Ba q l)) * (Ps_n a)) - ((Int32.toInt64 (Bg q l)) * (Ps_c a)))) * (Ps_k (Bg q l) (Ba q l) (Bb q l) (Bc q l) a)) (((((Int32.toInt64 (Ba q l)) * (Int32.toInt64 (Bg q l))) * (Ps_d a)) * (Ps_e (Bg q l) (Ba q l) (Bb q l) (Bc q l) a)) * (Sgn b)) ((Ps_s (Bg q l) (Ba q l) a) * (Ps_k (Bg q l) (Ba q l) (Bb q l) (Bc q l) a)) 1 ∧ (((2 * (Ml_s q l a)) * (Ml_n a)) * (Ml_k q l a)) / G3 (((c * (Int32.toInt64 (Ba q l))) * (((Ml_c a) * (Mj_v1 (Ml_x q l a) b)) - ((Ml_d a) * (Mj_v0 (Ml_y q l a) b)))) * (Ml_k q l a)) ((c * (Int32.toInt64 (Ba q l))) * (((Ml_c a) * (Mj_u1 (Ml_d a) (Ml_s q l a) (Ml_e q l a) (Ml_y q l a) (Int32.toInt64 (Ba q l)))) - ((Ml_d a) * (Mj_u0 (Ml_c a) (Ml_s q l a) (Ml_e q l a) (Ml_x q l a) (Int32.toInt64 (Ba q l)))))) (((2 * (Ml_s q l a)) * (Ml_n a)) * (Ml_k q l a)) = Rd3 (((Int32.toInt64 (Ba q l)) * (((Int32.toInt64 (Ba q l)) * (Ps_n a)) - ((Int32.toInt64 (Bg q l)) * (Ps_c a)))) * (Ps_k (Bg q l) (Ba q l) (Bb q l) (Bc q l) a)) (((((Int32.toInt64 (Ba q l)) * (Int32.toInt64 (Bg q l))) * (Ps_d a)) * (Ps_e (Bg q l) (Ba q l) (Bb q l) (Bc q l) a)) * (Sgn b)) ((Ps_s (Bg q l) (Ba q l) a) * (Ps_k (Bg q l) (Ba q l) (Bb q l) (Bc q l) a)) 2 := by
  refine rate_q b hc hB ha ?_ ?_
  · obtain ⟨k, hk, rfl⟩ := nI_in2 (c := 40) (by decide) ha.1 ha.2
    rw [← m_s hk]; exact hs.1
  · obtain ⟨k, hk, rfl⟩ := nI_in2 (c := 40) (by decide) ha.1 ha.2
    rw [← m_k hk]; exact hk0
theorem st1 {s k : Int64} : Ps_state s k = 1 ↔ ((0 < s ∧ 0 ≤ k) ∧ ¬ k = 0) := by
  unfold Ps_state
  by_cases c : 0 < s ∧ 0 ≤ k
  · rw [if_pos c]
    by_cases d : k = 0
    · rw [if_pos d]; exact ⟨fun z => absurd z (by decide), fun z => absurd d z.2⟩
    · rw [if_neg d]; exact ⟨fun _ => ⟨c, d⟩, fun _ => rfl⟩
  · rw [if_neg c]; exact ⟨fun z => absurd z (by decide), fun z => absurd z.1 c⟩
theorem sg_0 : (-2 : Int64) = -2 * Sgn 0 := by decide
theorem sg_n {b : Int32} (h : ¬ b = 0) : (2 : Int64) = -2 * Sgn b := by unfold Sgn; rw [if_neg h]; decide
theorem n01 {a : Int32} (h0 : ¬ a = 0) (h1 : ¬ a = 1) : ¬ (0 ≤ a ∧ a ≤ 1) ∧ ¬ (0 ≤ a ∧ a < 2) := by grind
theorem n02 {a : Int32} (h0 : ¬ a = 0) (h1 : ¬ a = 1) (h2 : ¬ a = 2) : ¬ (0 ≤ a ∧ a ≤ 2) ∧ ¬ (0 ≤ a ∧ a < 3) := by grind
theorem n03 {a : Int32} (h0 : ¬ a = 0) (h1 : ¬ a = 1) (h2 : ¬ a = 2) (h3 : ¬ a = 3) : ¬ (0 ≤ a ∧ a ≤ 3) ∧ ¬ (0 ≤ a ∧ a < 4) := by grind
theorem n05 {a : Int32} (h0 : ¬ a = 0) (h1 : ¬ a = 1) (h2 : ¬ a = 2) (h3 : ¬ a = 3) (h4 : ¬ a = 4) (h5 : ¬ a = 5) : ¬ (0 ≤ a ∧ a ≤ 5) ∧ ¬ (0 ≤ a ∧ a < 6) := by grind
theorem dk_t20 {nl nt np nr : Nat} {r5 r6 q4 q5 q6 q7 : Nat → Int32} (h : DkR nl nt np nr r5 r6 q4 q5 q6 q7) {i : Int32} (hi : 0 ≤ i ∧ i < nI nt) : t20 (Cm r5 i) ∧ t20 (Cq r5 i) := by
  obtain ⟨c1, c2, c3, c4⟩ := dk_tr h hi
  rw [c1, c2]; exact ⟨c3, c4⟩
