/-! GREATEST COMMON DIVISORS -/
theorem i64_neg {a : Int64} (h : a.toInt ≠ -2 ^ 63) : (-a).toInt = -a.toInt := by
  have h1 := a.toInt_lt
  have h2 := a.le_toInt
  rw [Int64.toInt_neg, Int.bmod_eq_of_le (by omega) (by omega)]
theorem i64_abs_nn {a : Int64} (h : 0 ≤ a) : a = lN a.toInt.natAbs := by
  apply Int64.toInt_inj.mp
  have h0 : 0 ≤ a.toInt := by simpa using Int64.le_iff_toInt_le.mp h
  have h1 := a.toInt_lt
  rw [pk_lT (by omega)]
  omega
theorem i64_abs_neg {a : Int64} (hm : a.toInt ≠ -2 ^ 63) (h : ¬ 0 ≤ a) : -a = lN a.toInt.natAbs := by
  apply Int64.toInt_inj.mp
  have h0 : ¬ 0 ≤ a.toInt := fun q => h (Int64.le_iff_toInt_le.mpr (by simpa using q))
  have h1 := a.le_toInt
  rw [i64_neg hm, pk_lT (by omega)]
  omega
theorem ab64_lN {a : Int64} (h : a.toInt ≠ -2 ^ 63) : Ab64 a = lN a.toInt.natAbs := by
  unfold Ab64
  by_cases h0 : 0 ≤ a
  · rw [if_pos h0]; exact i64_abs_nn h0
  · rw [if_neg h0]; exact i64_abs_neg h h0
theorem mabs_lN {a : Int64} (h : a.toInt ≠ -2 ^ 63) : (if 0 < a then a else -a) = lN a.toInt.natAbs := by
  by_cases h0 : 0 < a
  · rw [if_pos h0]; exact i64_abs_nn (Int64.le_of_lt h0)
  · rw [if_neg h0]
    by_cases h1 : 0 ≤ a
    · have : a = 0 := Int64.le_antisymm (Int64.not_lt.mp h0) h1
      subst this; rfl
    · exact i64_abs_neg h h1
theorem abs_lt {a : Int64} (h : a.toInt ≠ -2 ^ 63) : a.toInt.natAbs < 2 ^ 63 := by
  have h1 := a.toInt_lt
  have h2 := a.le_toInt
  omega
/-- Euclid's steps -/
def eu : Nat → Nat → Nat → Nat × Nat
  | 0, g, r => (g, r)
  | n + 1, g, r => if r = 0 then (g, 0) else eu n r (g % r)
def fb : Nat → Nat
  | 0 => 0
  | 1 => 1
  | n + 2 => fb n + fb (n + 1)
theorem eu_gcd : ∀ (n g r : Nat), Nat.gcd (eu n g r).1 (eu n g r).2 = Nat.gcd g r
  | 0, _, _ => rfl
  | n + 1, g, r => by
    unfold eu
    by_cases h : r = 0
    · simp [h]
    · rw [if_neg h, eu_gcd n r (g % r), Nat.gcd_comm r (g % r), ← Nat.gcd_rec, Nat.gcd_comm]
theorem eu_fb : ∀ (n g r : Nat), r < g → (eu n g r).2 ≠ 0 → fb (n + 1) ≤ r ∧ fb (n + 2) ≤ g
  | 0, g, r, h, h2 => by
    have h3 : r ≠ 0 := h2
    show 1 ≤ r ∧ 0 + 1 ≤ g
    omega
  | n + 1, g, r, h, h2 => by
    unfold eu at h2
    by_cases h0 : r = 0
    · rw [if_pos h0] at h2; exact absurd rfl h2
    · rw [if_neg h0] at h2
      obtain ⟨a, b⟩ := eu_fb n r (g % r) (Nat.mod_lt _ (by omega)) h2
      refine ⟨b, ?_⟩
      show fb (n + 1) + fb (n + 2) ≤ g
      have h4 : r * (g / r) + g % r = g := Nat.div_add_mod g r
      have h5 : 1 ≤ g / r := Nat.div_pos (Nat.le_of_lt h) (by omega)
      have h6 : r * 1 ≤ r * (g / r) := Nat.mul_le_mul_left r h5
      omega
theorem fb99 : 2 ^ 63 ≤ fb 100 := by decide +kernel
theorem eu_zero : ∀ (n g : Nat), eu n g 0 = (g, 0)
  | 0, _ => rfl
  | n + 1, _ => by unfold eu; simp
theorem eu_done {g r : Nat} (hr : r < 2 ^ 63) (hg : g < 2 ^ 63) : (eu 100 g r).2 = 0 := by
  by_cases h : r < g
  · by_cases h2 : (eu 100 g r).2 = 0
    · exact h2
    · have h3 := (eu_fb 100 g r h h2).1
      have h4 := fb99
      have h5 : fb 100 ≤ fb (100 + 1) := by show fb 100 ≤ fb 99 + fb 100; omega
      omega
  · unfold eu
    by_cases h0 : r = 0
    · rw [if_pos h0]
    · rw [if_neg h0]
      by_cases h2 : (eu 99 r (g % r)).2 = 0
      · exact h2
      · have h3 := (eu_fb 99 r (g % r) (Nat.mod_lt _ (by omega)) h2).1
        have h4 := fb99
        have h5 : g % r < r := Nat.mod_lt _ (by omega)
        have h6 : fb (99 + 1) = fb 100 := rfl
        omega
theorem eu_100 {g r : Nat} (hr : r < 2 ^ 63) (hg : g < 2 ^ 63) : (eu 100 g r).1 = Nat.gcd g r := by
  have h := eu_gcd 100 g r
  rw [eu_done hr hg, Nat.gcd_zero_right] at h
  exact h
theorem ax_pickmap (ad : Nat → Nat) (la : List (Nat × Value)) : ∀ ks : List Nat, lv_pick (la.map fun q => (q.1, ax_v ad q.2)) ks = (lv_pick la ks).map fun q => (q.1, ax_v ad q.2)
  | [] => rfl
  | k :: ks => by
    have ih := ax_pickmap ad la ks
    unfold lv_pick at ih ⊢
    rw [List.filterMap_cons, List.filterMap_cons, List.getElem?_map]
    cases la[k]? with
    | none => exact ih
    | some q => exact congrArg _ ih
theorem ab_pick {Y : ax_M} {Q : Option Value → ax_W → Prop} {kn : Nat × Nat} {pc : Nat} {la la1 : List (Nat × Value)} {st : List Value} {w : ax_W} (ks : List Nat) (h : lv_pick la ks = la1) (k : Ab Y Q kn pc la1 st w) : Ab Y Q kn pc la st w :=
  fun p l e R s m args below meth c D ca ad A Qf H locs ls hC hP hl hE => k p l e R s m args below meth c D ca ad A Qf H locs ls hC hP (lv_sub hl ks ((ax_pickmap ad la ks).trans (by rw [h]))) hE
theorem lp_cd {w : ax_W} : ∀ (n g r : Nat), g < 2 ^ 63 → r < 2 ^ 63 → n ≤ 100 → Ab M_X9_commonDivisor (fun z w' => z = some (.long (lN (eu n g r).1)) ∧ w' = w) (0, 0) 15 [(8, .int (nI (100 - n))), (6, .long (lN r)), (4, .long (lN g))] [] w := by
  intro n
  induction n with
  | zero =>
    intro g r hg hr hn
    refine ab_iload dX9_commonDivisor_15 rfl ?_
    refine ab_bipush (v := 100) dX9_commonDivisor_17 (by decide) ?_
    refine ab_icmpge 50 dX9_commonDivisor_19 (by decide) (fun h_1 => ?_) (fun h_1 => absurd (by decide) h_1)
    refine ab_lload dX9_commonDivisor_50 rfl ?_
    exact ab_lret dX9_commonDivisor_52 rfl (by decide) ⟨rfl, rfl⟩
  | succ n ih =>
    intro g r hg hr hn
    refine ab_iload dX9_commonDivisor_15 rfl ?_
    refine ab_bipush (v := 100) dX9_commonDivisor_17 (by decide) ?_
    refine ab_icmpge 50 dX9_commonDivisor_19 (by decide) (fun h_1 => absurd h_1 (nI_ge (b := 100) (by omega) (by decide))) (fun h_1 => ?_)
    refine ab_lload dX9_commonDivisor_22 rfl ?_
    refine ab_lconst (v := 0) dX9_commonDivisor_24 (by decide) ?_
    refine ab_lcmpeq 50 dX9_commonDivisor_25 dX9_commonDivisor_26 (by decide) (fun h_2 => ?_) (fun h_2 => ?_)
    · refine ab_lload dX9_commonDivisor_50 rfl ?_
      exact ab_lret dX9_commonDivisor_52 rfl (by decide) ⟨by rw [show r = 0 from (pk_lEQ hr (by decide)).mp h_2, eu_zero], rfl⟩
    · refine ab_lload dX9_commonDivisor_29 rfl ?_
      refine ab_lload dX9_commonDivisor_31 rfl ?_
      refine ab_lrem dX9_commonDivisor_33 h_2 ?_
      refine ab_lstore (la' := [(9, .long ((lN g) - (lN g) / (lN r) * (lN r))), (8, .int (nI (100 - (n + 1)))), (6, .long (lN r)), (4, .long (lN g))]) dX9_commonDivisor_34 (by decide) rfl ?_
      refine ab_lload dX9_commonDivisor_36 rfl ?_
      refine ab_lstore (la' := [(4, .long (lN r)), (9, .long ((lN g) - (lN g) / (lN r) * (lN r))), (8, .int (nI (100 - (n + 1)))), (6, .long (lN r))]) dX9_commonDivisor_38 (by decide) rfl ?_
      refine ab_lload dX9_commonDivisor_40 rfl ?_
      refine ab_lstore (la' := [(6, .long ((lN g) - (lN g) / (lN r) * (lN r))), (4, .long (lN r)), (9, .long ((lN g) - (lN g) / (lN r) * (lN r))), (8, .int (nI (100 - (n + 1))))]) dX9_commonDivisor_42 (by decide) rfl ?_
      refine ab_iinc (v := ((nI (100 - (n + 1))) + 1)) (la' := [(8, .int ((nI (100 - (n + 1))) + 1)), (6, .long ((lN g) - (lN g) / (lN r) * (lN r))), (4, .long (lN r)), (9, .long ((lN g) - (lN g) / (lN r) * (lN r)))]) dX9_commonDivisor_44 rfl rfl (by decide) rfl ?_
      refine ab_goto 15 dX9_commonDivisor_47 (by decide) ?_
      have hr0 : r ≠ 0 := fun q => h_2 (by rw [q]; rfl)
      refine ab_pick [0, 1, 2] rfl ?_
      have e1 : lN g - lN g / lN r * lN r = lN (g % r) := pk_lRem hg (Nat.pos_of_ne_zero hr0) hr
      have e2 : nI (100 - (n + 1)) + 1 = nI (100 - n) := by rw [nI_1, show 100 - (n + 1) + 1 = 100 - n by omega]
      rw [e1, e2]
      unfold eu
      rw [if_neg hr0]
      exact ih r (g % r) hr (Nat.lt_trans (Nat.mod_lt _ (Nat.pos_of_ne_zero hr0)) hr) (by omega)
theorem c_X9_commonDivisor {w : ax_W} {a1 a2 : Int64} (ha : a1.toInt ≠ -2 ^ 63) (hb : a2.toInt ≠ -2 ^ 63) : Ct M_X9_commonDivisor [.long a1, .long a2] w (fun r w' => r = some (.long (lN (Nat.gcd a1.toInt.natAbs a2.toInt.natAbs))) ∧ w' = w) := by
  refine ct_of ⟨by decide, rfl⟩ (Nat.le_of_ble_eq_true rfl) ?_
  refine ab_lload_n dX9_commonDivisor_0 rfl ?_
  refine ab_mabsL dX9_commonDivisor_1 ml_X9_7 ⟨by decide, Nat.le_of_ble_eq_true rfl⟩ (by decide) ?_
  refine ab_lstore (la' := [(4, .long (if 0 < a1 then a1 else -a1)), (0, .long a1), (2, .long a2)]) dX9_commonDivisor_4 (by decide) rfl ?_
  refine ab_lload_n dX9_commonDivisor_6 rfl ?_
  refine ab_mabsL dX9_commonDivisor_7 ml_X9_7 ⟨by decide, Nat.le_of_ble_eq_true rfl⟩ (by decide) ?_
  refine ab_lstore (la' := [(6, .long (if 0 < a2 then a2 else -a2)), (4, .long (if 0 < a1 then a1 else -a1)), (0, .long a1), (2, .long a2)]) dX9_commonDivisor_10 (by decide) rfl ?_
  refine ab_iconst (v := 0) dX9_commonDivisor_12 (by decide) ?_
  refine ab_istore (la' := [(8, .int 0), (6, .long (if 0 < a2 then a2 else -a2)), (4, .long (if 0 < a1 then a1 else -a1)), (0, .long a1), (2, .long a2)]) dX9_commonDivisor_13 (by decide) rfl ?_
  refine ab_pick [0, 1, 2] rfl ?_
  rw [mabs_lN ha, mabs_lN hb, ← eu_100 (abs_lt hb) (abs_lt ha)]
  exact lp_cd 100 _ _ (abs_lt ha) (abs_lt hb) (Nat.le_refl _)
theorem lp_cm {w : ax_W} : ∀ (r g : Nat), g < 2 ^ 63 → r < 2 ^ 63 → Ab M_X11_common (fun z w' => z = some (.long (lN (Nat.gcd g r))) ∧ w' = w) (0, 0) 12 [(6, .long (lN r)), (4, .long (lN g))] [] w := by
  intro r
  induction r using Nat.strongRecOn with
  | ind r ih =>
    intro g hg hr
    refine ab_lload dX11_common_12 rfl ?_
    refine ab_lconst (v := 0) dX11_common_14 (by decide) ?_
    refine ab_lcmpeq 37 dX11_common_15 dX11_common_16 (by decide) (fun h_1 => ?_) (fun h_1 => ?_)
    · refine ab_lload dX11_common_37 rfl ?_
      exact ab_lret dX11_common_39 rfl (by decide) ⟨by rw [show r = 0 from (pk_lEQ hr (by decide)).mp h_1, Nat.gcd_zero_right], rfl⟩
    · refine ab_lload dX11_common_19 rfl ?_
      refine ab_lload dX11_common_21 rfl ?_
      refine ab_lrem dX11_common_23 h_1 ?_
      refine ab_lstore (la' := [(8, .long ((lN g) - (lN g) / (lN r) * (lN r))), (6, .long (lN r)), (4, .long (lN g))]) dX11_common_24 (by decide) rfl ?_
      refine ab_lload dX11_common_26 rfl ?_
      refine ab_lstore (la' := [(4, .long (lN r)), (8, .long ((lN g) - (lN g) / (lN r) * (lN r))), (6, .long (lN r))]) dX11_common_28 (by decide) rfl ?_
      refine ab_lload dX11_common_30 rfl ?_
      refine ab_lstore (la' := [(6, .long ((lN g) - (lN g) / (lN r) * (lN r))), (4, .long (lN r)), (8, .long ((lN g) - (lN g) / (lN r) * (lN r)))]) dX11_common_32 (by decide) rfl ?_
      refine ab_goto 12 dX11_common_34 (by decide) ?_
      have hr0 : r ≠ 0 := fun q => h_1 (by rw [q]; rfl)
      refine ab_pick [0, 1] rfl ?_
      have e1 : lN g - lN g / lN r * lN r = lN (g % r) := pk_lRem hg (Nat.pos_of_ne_zero hr0) hr
      rw [e1, show Nat.gcd g r = Nat.gcd r (g % r) by rw [Nat.gcd_comm r, ← Nat.gcd_rec, Nat.gcd_comm]]
      exact ih (g % r) (Nat.mod_lt _ (Nat.pos_of_ne_zero hr0)) r hr (Nat.lt_trans (Nat.mod_lt _ (Nat.pos_of_ne_zero hr0)) hr)
theorem c_X11_common {w : ax_W} {a1 a2 : Int64} (ha : a1.toInt ≠ -2 ^ 63) (hb : a2.toInt ≠ -2 ^ 63) : Ct M_X11_common [.long a1, .long a2] w (fun r w' => r = some (.long (lN (Nat.gcd a1.toInt.natAbs a2.toInt.natAbs))) ∧ w' = w) := by
  refine ct_of ⟨by decide, rfl⟩ (Nat.le_of_ble_eq_true rfl) ?_
  refine ab_lload_n dX11_common_0 rfl ?_
  refine ab_callS (As := [.long a1]) (rest := []) dX11_common_1 ms_X11_plain ml_X11_7 ⟨by decide, by decide, rfl, rfl, rfl⟩ (by decide) rfl rfl (Nat.le_of_ble_eq_true rfl) c_X11_plain_t ?_
  rintro r w' ⟨rfl, rfl⟩
  refine ab_lstore (la' := [(4, .long (Ab64 a1)), (0, .long a1), (2, .long a2)]) dX11_common_4 (by decide) rfl ?_
  refine ab_lload_n dX11_common_6 rfl ?_
  refine ab_callS (As := [.long a2]) (rest := []) dX11_common_7 ms_X11_plain ml_X11_7 ⟨by decide, by decide, rfl, rfl, rfl⟩ (by decide) rfl rfl (Nat.le_of_ble_eq_true rfl) c_X11_plain_t ?_
  rintro r w' ⟨rfl, rfl⟩
  refine ab_lstore (la' := [(6, .long (Ab64 a2)), (4, .long (Ab64 a1)), (0, .long a1), (2, .long a2)]) dX11_common_10 (by decide) rfl ?_
  refine ab_pick [0, 1] rfl ?_
  rw [ab64_lN ha, ab64_lN hb]
  exact lp_cm _ _ (abs_lt ha) (abs_lt hb)
