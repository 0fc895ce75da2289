/-! THE LAW'S LOOP (gl9.py) -/
def Zlaw : ZT := fun p l e R s m args below meth c _ _ _ A Qf => ax_EX A s s.heap ∧ ∀ (H : Heap) (locs : List Loc) (ls : Array Slot) (k n : Nat), k ≤ 1080 → n ≤ 11187 → va_S A s.heap H locs → W p l e R s m args below meth c H locs k n Qf (F0 m 2802 ls [.int 1])
theorem zi_law : ZI Zlaw := fun _ _ _ _ _ _ _ _ _ _ _ _ _ _ _ _ h => h
theorem and63 (x : Int32) : ∃ k, k < 64 ∧ x &&& 63 = nI k := by
  refine ⟨(x &&& 63).toBitVec.toNat, ?_, ?_⟩
  · rw [Int32.toBitVec_and, BitVec.toNat_and]
    exact Nat.lt_of_le_of_lt Nat.and_le_right (by decide)
  · apply Int32.toBitVec_inj.mp
    show _ = BitVec.ofNat 32 _
    rw [BitVec.ofNat_toNat, BitVec.setWidth_eq]
theorem lw_lt {L i : Nat} (hL : L ≤ 3072) (hi : i ≤ L) : (Int32.ofNat L - 6 < nI i) ↔ L < i + 6 := by
  have t1 : (Int32.ofNat L).toInt = (L : Int) := Int32.toInt_ofNat_of_lt (by omega)
  have t2 : (nI i).toInt = (i : Int) := Int32.toInt_ofNat_of_lt (by omega)
  have t3 : (6 : Int32).toInt = 6 := by decide
  rw [Int32.lt_iff_toInt_lt, Int32.toInt_sub, t1, t2, t3, Int.bmod_eq_of_le (by omega) (by omega)]
  omega
theorem nI_t64 {k : Nat} (h : k < 64) : (nI k).toInt = (k : Int) := Int32.toInt_ofNat_of_lt (by omega)
theorem nI_6 (i : Nat) : nI i + Int32.ofInt 6 = nI (i + 6) := (Int32.ofNat_add i 6).symm
/-- one round of the loop -/
theorem lw_sw {L : Nat} {xs : Nat → Int32} {kn : Nat × Nat} {i : Nat} {w : ax_W} {sg : Nat → Nat} {f : Nat → Int64} (hsg : isSg sg) (hI : INV w) (hi : i + 6 ≤ L) (hL : L ≤ 3072) (hk : kn.1 + 1 ≤ 1080 ∧ kn.2 + 6 ≤ 11187)
    (kk : ∀ (sg : Nat → Nat) (w : ax_W) (f : Nat → Int64) (kn1 : Nat × Nat), isSg sg → INV w → kn1.1 ≤ kn.1 + 1 ∧ kn1.2 ≤ kn.2 + 6 → AbZ Zlaw (M_law L xs) kn1 2795 (lwL i) [] (upW sg (ja 1 f) w)) : ∀ k, k < 64 → AbZ Zlaw (M_law L xs) kn 40 (lwL i) [.int (nI k)] (upW sg (ja 1 f) w) := by
  have hk0 : kn.1 ≤ 1080 ∧ kn.2 ≤ 11187 := ⟨by omega, by omega⟩
  have k0 : ∀ (sg : Nat → Nat) (w : ax_W), isSg sg → INV w → AbZ Zlaw (M_law L xs) kn 2795 (lwL i) [] (upW sg (ja 1 f) w) := fun sg w h1 h2 => kk sg w f kn h1 h2 ⟨by omega, by omega⟩
  intro k hk64
  by_cases e0 : k = 0
  · subst e0
    exact az_tabIn (off := 252) 292 dL_law_40 (by decide) (by decide) (by decide) (by decide) (lc_0 hsg hI hi hL hk0 k0)
  by_cases e1 : k = 1
  · subst e1
    exact az_tabIn (off := 325) 365 dL_law_40 (by decide) (by decide) (by decide) (by decide) (lc_1 hsg hI hi hL hk0 k0)
  by_cases e2 : k = 2
  · subst e2
    exact az_tabIn (off := 350) 390 dL_law_40 (by decide) (by decide) (by decide) (by decide) (lc_2 hsg hI hi hL hk0 k0)
  by_cases e3 : k = 3
  · subst e3
    exact az_tabIn (off := 363) 403 dL_law_40 (by decide) (by decide) (by decide) (by decide) (lc_3 hsg hI hi hL hk0 k0)
  by_cases e4 : k = 4
  · subst e4
    exact az_tabIn (off := 376) 416 dL_law_40 (by decide) (by decide) (by decide) (by decide) (lc_4 hsg hI hi hL hk0 k0)
  by_cases e5 : k = 5
  · subst e5
    exact az_tabIn (off := 389) 429 dL_law_40 (by decide) (by decide) (by decide) (by decide) (lc_5 hsg hI hi hL hk0 k0)
  by_cases e6 : k = 6
  · subst e6
    exact az_tabIn (off := 426) 466 dL_law_40 (by decide) (by decide) (by decide) (by decide) (lc_6 hsg hI hi hL hk0 k0)
  by_cases e7 : k = 7
  · subst e7
    exact az_tabIn (off := 463) 503 dL_law_40 (by decide) (by decide) (by decide) (by decide) (lc_7 hsg hI hi hL hk0 k0)
  by_cases e8 : k = 8
  · subst e8
    exact az_tabIn (off := 500) 540 dL_law_40 (by decide) (by decide) (by decide) (by decide) (lc_8 hsg hI hi hL hk0 k0)
  by_cases e9 : k = 9
  · subst e9
    exact az_tabIn (off := 525) 565 dL_law_40 (by decide) (by decide) (by decide) (by decide) (lc_9 hsg hI hi hL hk0 k0)
  by_cases e10 : k = 10
  · subst e10
    exact az_tabIn (off := 550) 590 dL_law_40 (by decide) (by decide) (by decide) (by decide) (lc_10 hsg hI hi hL hk0 k0)
  by_cases e11 : k = 11
  · subst e11
    exact az_tabIn (off := 587) 627 dL_law_40 (by decide) (by decide) (by decide) (by decide) (lc_11 hsg hI hi hL hk0 k0)
  by_cases e12 : k = 12
  · subst e12
    exact az_tabIn (off := 641) 681 dL_law_40 (by decide) (by decide) (by decide) (by decide) (lc_12 hsg hI hi hL hk0 k0)
  by_cases e13 : k = 13
  · subst e13
    exact az_tabIn (off := 695) 735 dL_law_40 (by decide) (by decide) (by decide) (by decide) (lc_13 hsg hI hi hL hk0 k0)
  by_cases e14 : k = 14
  · subst e14
    exact az_tabIn (off := 720) 760 dL_law_40 (by decide) (by decide) (by decide) (by decide) (lc_14 hsg hI hi hL hk0 k0)
  by_cases e15 : k = 15
  · subst e15
    exact az_tabIn (off := 745) 785 dL_law_40 (by decide) (by decide) (by decide) (by decide) (lc_15 hsg hI hi hL hk0 k0)
  by_cases e16 : k = 16
  · subst e16
    exact az_tabIn (off := 770) 810 dL_law_40 (by decide) (by decide) (by decide) (by decide) (lc_16 hsg hI hi hL hk0 k0)
  by_cases e17 : k = 17
  · subst e17
    exact az_tabIn (off := 807) 847 dL_law_40 (by decide) (by decide) (by decide) (by decide) (lc_17 hsg hI hi hL hk0 k0)
  by_cases e18 : k = 18
  · subst e18
    exact az_tabIn (off := 832) 872 dL_law_40 (by decide) (by decide) (by decide) (by decide) (lc_18 hsg hI hi hL hk0 k0)
  by_cases e19 : k = 19
  · subst e19
    exact az_tabIn (off := 857) 897 dL_law_40 (by decide) (by decide) (by decide) (by decide) (lc_19 hsg hI hi hL hk0 k0)
  by_cases e20 : k = 20
  · subst e20
    exact az_tabIn (off := 894) 934 dL_law_40 (by decide) (by decide) (by decide) (by decide) (lc_20 hsg hI hi hL hk0 k0)
  by_cases e21 : k = 21
  · subst e21
    exact az_tabIn (off := 960) 1000 dL_law_40 (by decide) (by decide) (by decide) (by decide) (lc_21 hsg hI hi hL hk0 k0)
  by_cases e22 : k = 22
  · subst e22
    exact az_tabIn (off := 998) 1038 dL_law_40 (by decide) (by decide) (by decide) (by decide) (lc_22 hsg hI hi hL hk0 k0)
  by_cases e23 : k = 23
  · subst e23
    exact az_tabIn (off := 1059) 1099 dL_law_40 (by decide) (by decide) (by decide) (by decide) (lc_23 hsg hI hi hL hk0 k0)
  by_cases e24 : k = 24
  · subst e24
    exact az_tabIn (off := 1121) 1161 dL_law_40 (by decide) (by decide) (by decide) (by decide) (lc_24 hsg hI hi hL hk0 k0)
  by_cases e25 : k = 25
  · subst e25
    exact az_tabIn (off := 1170) 1210 dL_law_40 (by decide) (by decide) (by decide) (by decide) (lc_25 hsg hI hi hL hk0 k0)
  by_cases e26 : k = 26
  · subst e26
    exact az_tabIn (off := 1236) 1276 dL_law_40 (by decide) (by decide) (by decide) (by decide) (lc_26 hsg hI hi hL hk0 k0)
  by_cases e27 : k = 27
  · subst e27
    exact az_tabIn (off := 1261) 1301 dL_law_40 (by decide) (by decide) (by decide) (by decide) (lc_27 hsg hI hi hL hk0 k0)
  by_cases e28 : k = 28
  · subst e28
    exact az_tabIn (off := 1343) 1383 dL_law_40 (by decide) (by decide) (by decide) (by decide) (lc_28 hsg hI hi hL hk0 k0)
  by_cases e29 : k = 29
  · subst e29
    exact az_tabIn (off := 1405) 1445 dL_law_40 (by decide) (by decide) (by decide) (by decide) (lc_29 hsg hI hi hL hk0 k0)
  by_cases e30 : k = 30
  · subst e30
    exact az_tabIn (off := 1442) 1482 dL_law_40 (by decide) (by decide) (by decide) (by decide) (lc_30 hsg hI hi hL hk0 k0)
  by_cases e31 : k = 31
  · subst e31
    exact az_tabIn (off := 1479) 1519 dL_law_40 (by decide) (by decide) (by decide) (by decide) (lc_31 hsg hI hi hL hk0 k0)
  by_cases e32 : k = 32
  · subst e32
    exact az_tabIn (off := 1552) 1592 dL_law_40 (by decide) (by decide) (by decide) (by decide) (lc_32 hsg hI hi hL hk0 k0)
  by_cases e33 : k = 33
  · subst e33
    exact az_tabIn (off := 1613) 1653 dL_law_40 (by decide) (by decide) (by decide) (by decide) (lc_33 hsg hI hi hL hk0 k0)
  by_cases e34 : k = 34
  · subst e34
    exact az_tabIn (off := 1663) 1703 dL_law_40 (by decide) (by decide) (by decide) (by decide) (lc_34 hsg hI hi hL hk0 k0)
  by_cases e35 : k = 35
  · subst e35
    exact az_tabIn (off := 1712) 1752 dL_law_40 (by decide) (by decide) (by decide) (by decide) (lc_35 hsg hI hi hL hk0 k0)
  by_cases e36 : k = 36
  · subst e36
    exact az_tabIn (off := 1761) 1801 dL_law_40 (by decide) (by decide) (by decide) (by decide) (lc_36 hsg hI hi hL hk0 k0)
  by_cases e37 : k = 37
  · subst e37
    exact az_tabIn (off := 1822) 1862 dL_law_40 (by decide) (by decide) (by decide) (by decide) (lc_37 hsg hI hi hL hk0 k0)
  by_cases e38 : k = 38
  · subst e38
    exact az_tabIn (off := 1872) 1912 dL_law_40 (by decide) (by decide) (by decide) (by decide) (lc_38 hsg hI hi hL hk0 k0)
  by_cases e39 : k = 39
  · subst e39
    exact az_tabIn (off := 1933) 1973 dL_law_40 (by decide) (by decide) (by decide) (by decide) (lc_39 hsg hI hi hL hk0 k0)
  by_cases e40 : k = 40
  · subst e40
    exact az_tabIn (off := 1994) 2034 dL_law_40 (by decide) (by decide) (by decide) (by decide) (lc_40 hsg hI hi hL hk0 k0)
  by_cases e41 : k = 41
  · subst e41
    exact az_tabIn (off := 2067) 2107 dL_law_40 (by decide) (by decide) (by decide) (by decide) (lc_41 hsg hI hi hL hk0 k0)
  by_cases e42 : k = 42
  · subst e42
    exact az_tabIn (off := 2128) 2168 dL_law_40 (by decide) (by decide) (by decide) (by decide) (lc_42 hsg hI hi hL hk0 k0)
  by_cases e43 : k = 43
  · subst e43
    exact az_tabIn (off := 2189) 2229 dL_law_40 (by decide) (by decide) (by decide) (by decide) (lc_43 hsg hI hi hL hk0 k0)
  by_cases e44 : k = 44
  · subst e44
    exact az_tabIn (off := 2226) 2266 dL_law_40 (by decide) (by decide) (by decide) (by decide) (lc_44 hsg hI hi hL hk0 k0)
  by_cases e45 : k = 45
  · subst e45
    exact az_tabIn (off := 2263) 2303 dL_law_40 (by decide) (by decide) (by decide) (by decide) (lc_45 hsg hI hi hL hk0 k0)
  by_cases e46 : k = 46
  · subst e46
    exact az_tabIn (off := 2329) 2369 dL_law_40 (by decide) (by decide) (by decide) (by decide) (lc_46 hsg hI hi hL hk0 k0)
  by_cases e47 : k = 47
  · subst e47
    exact az_tabIn (off := 2354) 2394 dL_law_40 (by decide) (by decide) (by decide) (by decide) (lc_47 hsg hI hi hL hk0 k0)
  by_cases e48 : k = 48
  · subst e48
    exact az_tabIn (off := 2396) 2436 dL_law_40 (by decide) (by decide) (by decide) (by decide) (lc_48 hsg hI hi hL hk0 k0)
  by_cases e49 : k = 49
  · subst e49
    exact az_tabIn (off := 2450) 2490 dL_law_40 (by decide) (by decide) (by decide) (by decide) (lc_49 hsg hI hi hL hk0 k0)
  by_cases e50 : k = 50
  · subst e50
    exact az_tabIn (off := 2499) 2539 dL_law_40 (by decide) (by decide) (by decide) (by decide) (lc_50 hsg hI hi hL hk0 k0)
  by_cases e51 : k = 51
  · subst e51
    exact az_tabIn (off := 2524) 2564 dL_law_40 (by decide) (by decide) (by decide) (by decide) (lc_51 hsg hI hi hL hk0 k0)
  by_cases e52 : k = 52
  · subst e52
    exact az_tabIn (off := 2549) 2589 dL_law_40 (by decide) (by decide) (by decide) (by decide) (lc_52 hsg hI hi hL hk0 k0)
  by_cases e53 : k = 53
  · subst e53
    exact az_tabIn (off := 2562) 2602 dL_law_40 (by decide) (by decide) (by decide) (by decide) (lc_53 hsg hI hi hL hk0 k0)
  by_cases e54 : k = 54
  · subst e54
    exact az_tabIn (off := 2599) 2639 dL_law_40 (by decide) (by decide) (by decide) (by decide) (lc_54 hsg hI hi hL hk0 k0)
  by_cases e55 : k = 55
  · subst e55
    exact az_tabIn (off := 2648) 2688 dL_law_40 (by decide) (by decide) (by decide) (by decide) (lc_55 hsg hI hi hL hk0 k0)
  by_cases e56 : k = 56
  · subst e56
    exact az_tabIn (off := 2661) 2701 dL_law_40 (by decide) (by decide) (by decide) (by decide) (lc_56 hsg hI hi hL hk (fun _ _ _ _ _ _ _ _ _ _ _ _ _ _ _ h => h.1) (fun sg w f h1 h2 => kk sg w f _ h1 h2 ⟨Nat.le_refl _, Nat.le_refl _⟩))
  by_cases e57 : k = 57
  · subst e57
    exact az_tabIn (off := 2717) 2757 dL_law_40 (by decide) (by decide) (by decide) (by decide) (lc_57 hsg hI hi hL hk0 k0)
  by_cases e58 : k = 58
  · subst e58
    exact az_tabIn (off := 2742) 2782 dL_law_40 (by decide) (by decide) (by decide) (by decide) (lc_58 hsg hI hi hL hk0 k0)
  exact az_tabOut 2795 dL_law_40 (Or.inr (by rw [nI_t64 hk64]; omega)) (by decide) (k0 sg w hsg hI)
theorem lw_loop {L : Nat} {xs : Nat → Int32} (hL : L ≤ 3072) : ∀ (n i : Nat) (kn : Nat × Nat) (sg : Nat → Nat) (w : ax_W) (f : Nat → Int64), isSg sg → INV w → i ≤ L → L < i + 6 * n + 6 → kn.1 + n ≤ 1080 → kn.2 + 6 * n ≤ 11187 → AbZ Zlaw (M_law L xs) kn 23 (lwL i) [] (upW sg (ja 1 f) w) := by
  intro n
  induction n with
  | zero =>
    intro i kn sg w f hsg hI hi hn h1 h2
    refine az_iload dL_law_23 (x := nI i) rfl (az_aload_n dL_law_25 (x := 5000) rfl (az_slen dL_law_26 rfl (az_bipush (v := 6) dL_law_27 (by decide) (az_isub dL_law_29 ?_))))
    refine az_icmpgt 2801 dL_law_30 (by decide) (fun _ => ?_) (fun h => absurd ((lw_lt hL hi).mpr (by omega)) h)
    refine az_iconst (v := 1) dL_law_2801 (by decide) ?_
    exact fun _ _ _ _ _ _ _ _ _ _ _ _ _ _ _ H locs ls _ hP _ hE => hE.2 H locs ls _ _ (by omega) (by omega) hP.2.2
  | succ n ih =>
    intro i kn sg w f hsg hI hi hn h1 h2
    refine az_iload dL_law_23 (x := nI i) rfl (az_aload_n dL_law_25 (x := 5000) rfl (az_slen dL_law_26 rfl (az_bipush (v := 6) dL_law_27 (by decide) (az_isub dL_law_29 ?_))))
    refine az_icmpgt 2801 dL_law_30 (by decide) (fun _ => ?_) (fun h => ?_)
    · refine az_iconst (v := 1) dL_law_2801 (by decide) ?_
      exact fun _ _ _ _ _ _ _ _ _ _ _ _ _ _ _ H locs ls _ hP _ hE => hE.2 H locs ls _ _ (by omega) (by omega) hP.2.2
    · have hi6 : i + 6 ≤ L := by
        rcases Nat.lt_or_ge L (i + 6) with z | z
        · exact absurd ((lw_lt hL hi).mpr z) h
        · exact z
      refine az_aload_n dL_law_33 (x := 5000) rfl (az_iload dL_law_34 (x := nI i) rfl (az_sld dL_law_36 rfl (ix_nI (by omega) (by omega)) (az_bipush (v := 63) dL_law_37 (by decide) (az_iand dL_law_39 ?_))))
      obtain ⟨k, hk64, e⟩ := and63 (xs i)
      rw [e]
      refine lw_sw hsg hI hi6 hL ⟨by omega, by omega⟩ ?_ k hk64
      intro sg w f kn1 hsg hI hkn
      refine az_iinc (v := nI (i + 6)) (la' := [(4, .int (nI (i + 6))), (0, .ref 5000), (1, .ref 0), (2, .ref 1000), (3, .ref 1021)]) dL_law_2795 rfl (nI_6 i) (Nat.le_of_ble_eq_true rfl) rfl ?_
      refine az_goto 23 dL_law_2798 (by decide) ?_
      refine az_pick [1, 2, 3, 4, 0] rfl ?_
      exact ih (i + 6) kn1 sg w f hsg hI hi6 (by omega) (by omega) (by omega)
