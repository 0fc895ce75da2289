/-! DESK: what a text tells keeps its bounds -/
theorem sb_inv {α β : Type} {x : (Nat × Nat) ⊕ α} {f : α → (Nat × Nat) ⊕ β} {b : β} (h : sb x f = .inr b) : ∃ a, x = .inr a ∧ f a = .inr b := by
  cases x with
  | inl e => cases h
  | inr a => exact ⟨a, rfl, h⟩
theorem pWh_ok {u : Nat → Nat} {n p lo hi : Nat} {r : Nat × Nat} (h : pWh u n p lo hi = .inr r) : lo ≤ r.1 ∧ r.1 ≤ hi := by
  unfold pWh at h
  split at h
  · cases h
  · split at h
    · cases h
    · next h1 =>
      cases h
      show lo ≤ _ ∧ _ ≤ hi
      omega
theorem pSg_ok {u : Nat → Nat} {n p hi : Nat} {r : Int32 × Nat} (hh : hi ≤ 1000) (h : pSg u n p hi = .inr r) : r.1.toInt.natAbs ≤ hi := by
  unfold pSg at h
  split at h
  · obtain ⟨a, e1, e2⟩ := sb_inv h
    have b := pWh_ok e1
    cases e2
    show (-(nI a.1)).toInt.natAbs ≤ hi
    have t : (nI a.1).toInt = a.1 := nI_toInt (by omega)
    rw [i32_neg (by rw [t]; omega), t]; omega
  · obtain ⟨a, e1, e2⟩ := sb_inv h
    have b := pWh_ok e1
    cases e2
    show (nI a.1).toInt.natAbs ≤ hi
    have t : (nI a.1).toInt = a.1 := nI_toInt (by omega)
    rw [t]; omega
theorem pTwo_ok {u : Nat → Nat} {n p hi : Nat} {r : Int32 × Int32 × Nat} (hh : hi ≤ 1000) (h : pTwo u n p hi = .inr r) : r.1.toInt.natAbs ≤ hi ∧ r.2.1.toInt.natAbs ≤ hi := by
  unfold pTwo at h
  obtain ⟨a, e1, e2⟩ := sb_inv h
  obtain ⟨b, e3, e4⟩ := sb_inv e2
  cases e4
  exact ⟨pSg_ok hh e1, pSg_ok hh e3⟩
abbrev okQ (p q : Int32) : Prop := p.toInt.natAbs ≤ 5 ∧ q.toInt.natAbs ≤ 5 ∧ ¬ (p.toInt = 0 ∧ q.toInt = 0)
theorem pAng_ok {u : Nat → Nat} {n p : Nat} {r : Int32 × Int32 × Nat} (h : pAng u n p = .inr r) : okQ r.1 r.2.1 := by
  unfold pAng at h
  obtain ⟨a, e1, e2⟩ := sb_inv h
  obtain ⟨b, e3, e4⟩ := sb_inv e2
  cases e4
  have b1 := pSg_ok (by decide) e1
  have b2 := pWh_ok e3
  have t : (nI b.1).toInt = b.1 := nI_toInt (by omega)
  refine ⟨b1, by show (nI b.1).toInt.natAbs ≤ 5; rw [t]; omega, ?_⟩
  rintro ⟨z1, z2⟩
  have z2 : (nI b.1).toInt = 0 := z2
  have z1 : a.1 = 0 := by rw [← Int32.toInt_inj]; exact z1
  rw [if_pos z1] at b2
  rw [t] at z2
  omega
theorem pPair_ok {u : Nat → Nat} {n p : Nat} {r : Int32 × Int32 × Int32 × Int32 × Nat} (h : pPair u n p = .inr r) : okQ r.1 r.2.1 ∧ okQ r.2.2.1 r.2.2.2.1 := by
  unfold pPair at h
  obtain ⟨a, e1, e2⟩ := sb_inv h
  obtain ⟨b, e3, e4⟩ := sb_inv e2
  cases e4
  exact ⟨pAng_ok e1, pAng_ok e3⟩
theorem b18_nI {x : Nat} (h : 1 ≤ x ∧ x ≤ 18) : b18 (nI x).toInt := by
  have t : (nI x).toInt = x := nI_toInt (by omega)
  rw [t]; exact ⟨by omega, by omega⟩
theorem pB_0 {u : Nat → Nat} {n p : Nat} {r : Nat × Nat} (h : pBar_0 u n p = .inr r) : b18 (nI r.1).toInt := by
  unfold pBar_0 at h
  split at h
  · exact b18_nI (pWh_ok h)
  · cases h
theorem pB_1 {u : Nat → Nat} {n p : Nat} {r : Nat × Nat} (h : pBar_1 u n p = .inr r) : b18 (nI r.1).toInt := by
  unfold pBar_1 at h
  split at h
  · exact b18_nI (pWh_ok h)
  · cases h
theorem pB_2 {u : Nat → Nat} {n p : Nat} {r : Nat × Nat} (h : pBar_2 u n p = .inr r) : b18 (nI r.1).toInt := by
  unfold pBar_2 at h
  split at h
  · exact b18_nI (pWh_ok h)
  · cases h
theorem pB_3 {u : Nat → Nat} {n p : Nat} {r : Nat × Nat} (h : pBar_3 u n p = .inr r) : b18 (nI r.1).toInt := by
  unfold pBar_3 at h
  split at h
  · exact b18_nI (pWh_ok h)
  · cases h
theorem pBars_ok {u : Nat → Nat} {n p : Nat} {r : Int32 × Int32 × Int32 × Int32 × Nat} (h : pBars u n p = .inr r) : b18 r.1.toInt ∧ b18 r.2.1.toInt ∧ b18 r.2.2.1.toInt ∧ b18 r.2.2.2.1.toInt := by
  unfold pBars at h
  obtain ⟨a, e1, h⟩ := sb_inv h
  obtain ⟨b, e2, h⟩ := sb_inv h
  obtain ⟨c, e3, h⟩ := sb_inv h
  obtain ⟨d, e4, h⟩ := sb_inv h
  cases h
  exact ⟨pB_0 e1, pB_1 e2, pB_2 e3, pB_3 e4⟩
theorem p4_at {m : Nat → Int32} {k : Nat} {a b c d : Int32} : put4 m k a b c d k = a ∧ put4 m k a b c d (k + 1) = b ∧ put4 m k a b c d (k + 2) = c ∧ put4 m k a b c d (k + 3) = d := by
  unfold put4
  refine ⟨?_, ?_, ?_, updv_eq⟩
  · rw [updv_ne (by omega), updv_ne (by omega), updv_ne (by omega), updv_eq]
  · rw [updv_ne (by omega), updv_ne (by omega), updv_eq]
  · rw [updv_ne (by omega), updv_eq]
theorem p2_at {m : Nat → Int32} {k : Nat} {a b : Int32} : put2 m k a b k = a ∧ put2 m k a b (k + 1) = b := by
  unfold put2
  exact ⟨by rw [updv_ne (by omega), updv_eq], updv_eq⟩
def okT (c : Nat → Nat) (m : Nat → Int32) : Prop := Bcn c ∧ (∀ i j, i < c 0 → j < 4 → b18 (m (0 + i * 4 + j)).toInt) ∧ (∀ i j, i < c 1 → j < 2 → (m (16 + i * 2 + j)).toInt.natAbs ≤ 20) ∧ (∀ i j, i < c 2 → j < 2 → (m (24 + i * 2 + j)).toInt.natAbs ≤ 999) ∧ ∀ i, i < c 3 → okQ (m (40 + i * 4)) (m (40 + i * 4 + 1)) ∧ okQ (m (40 + i * 4 + 2)) (m (40 + i * 4 + 3))
theorem un_e {c : Nat → Nat} {k x : Nat} : updN c k x k = x := by unfold updN; rw [if_pos rfl]
theorem un_n {c : Nat → Nat} {k x j : Nat} (h : ¬ j = k) : updN c k x j = c j := by unfold updN; rw [if_neg h]
theorem okT_0 {c : Nat → Nat} {m : Nat → Int32} (h : okT c m) (hc : c 0 < 4) {v0 v1 v2 v3 : Int32} (h0 : b18 v0.toInt) (h1 : b18 v1.toInt) (h2 : b18 v2.toInt) (h3 : b18 v3.toInt) : okT (updN c 0 (c 0 + 1)) (put4 m (0 + c 0 * 4) v0 v1 v2 v3) := by
  obtain ⟨⟨c0, c1, c2, c3⟩, g0, g1, g2, g3⟩ := h
  have e1 : updN c 0 (c 0 + 1) 1 = c 1 := un_n (by decide)
  have e2 : updN c 0 (c 0 + 1) 2 = c 2 := un_n (by decide)
  have e3 : updN c 0 (c 0 + 1) 3 = c 3 := un_n (by decide)
  unfold okT Bcn
  rw [un_e, e1, e2, e3]
  refine ⟨⟨by omega, c1, c2, c3⟩, fun i j hi hj => ?_, fun i j hi hj => ?_, fun i j hi hj => ?_, fun i hi => ?_⟩
  · by_cases e : i = c 0
    · subst e
      obtain ⟨a0, a1, a2, a3⟩ := p4_at (m := m) (k := 0 + c 0 * 4) (a := v0) (b := v1) (c := v2) (d := v3)
      have : j = 0 ∨ j = 1 ∨ j = 2 ∨ j = 3 := by omega
      rcases this with rfl | rfl | rfl | rfl
      · rw [Nat.add_zero, a0]; exact h0
      · rw [a1]; exact h1
      · rw [a2]; exact h2
      · rw [a3]; exact h3
    · rw [put4_out (by omega)]; exact g0 i j (by omega) hj
  · rw [put4_out (by omega)]; exact g1 i j hi hj
  · rw [put4_out (by omega)]; exact g2 i j hi hj
  · rw [put4_out (by omega), put4_out (by omega), put4_out (by omega), put4_out (by omega)]; exact g3 i hi
theorem okT_1 {c : Nat → Nat} {m : Nat → Int32} (h : okT c m) (hc : c 1 < 4) {v0 v1 : Int32} (h0 : v0.toInt.natAbs ≤ 20) (h1 : v1.toInt.natAbs ≤ 20) : okT (updN c 1 (c 1 + 1)) (put2 m (16 + c 1 * 2) v0 v1) := by
  obtain ⟨⟨c0, c1, c2, c3⟩, g0, g1, g2, g3⟩ := h
  have e1 : updN c 1 (c 1 + 1) 0 = c 0 := un_n (by decide)
  have e2 : updN c 1 (c 1 + 1) 2 = c 2 := un_n (by decide)
  have e3 : updN c 1 (c 1 + 1) 3 = c 3 := un_n (by decide)
  unfold okT Bcn
  rw [un_e, e1, e2, e3]
  refine ⟨⟨c0, by omega, c2, c3⟩, fun i j hi hj => ?_, fun i j hi hj => ?_, fun i j hi hj => ?_, fun i hi => ?_⟩
  · rw [put2_out (by omega)]; exact g0 i j hi hj
  · by_cases e : i = c 1
    · subst e
      obtain ⟨a0, a1⟩ := p2_at (m := m) (k := 16 + c 1 * 2) (a := v0) (b := v1)
      have : j = 0 ∨ j = 1 := by omega
      rcases this with rfl | rfl
      · rw [Nat.add_zero, a0]; exact h0
      · rw [a1]; exact h1
    · rw [put2_out (by omega)]; exact g1 i j (by omega) hj
  · rw [put2_out (by omega)]; exact g2 i j hi hj
  · rw [put2_out (by omega), put2_out (by omega), put2_out (by omega), put2_out (by omega)]; exact g3 i hi
theorem okT_2 {c : Nat → Nat} {m : Nat → Int32} (h : okT c m) (hc : c 2 < 8) {v0 v1 : Int32} (h0 : v0.toInt.natAbs ≤ 999) (h1 : v1.toInt.natAbs ≤ 999) : okT (updN c 2 (c 2 + 1)) (put2 m (24 + c 2 * 2) v0 v1) := by
  obtain ⟨⟨c0, c1, c2, c3⟩, g0, g1, g2, g3⟩ := h
  have e1 : updN c 2 (c 2 + 1) 0 = c 0 := un_n (by decide)
  have e2 : updN c 2 (c 2 + 1) 1 = c 1 := un_n (by decide)
  have e3 : updN c 2 (c 2 + 1) 3 = c 3 := un_n (by decide)
  unfold okT Bcn
  rw [un_e, e1, e2, e3]
  refine ⟨⟨c0, c1, by omega, c3⟩, fun i j hi hj => ?_, fun i j hi hj => ?_, fun i j hi hj => ?_, fun i hi => ?_⟩
  · rw [put2_out (by omega)]; exact g0 i j hi hj
  · rw [put2_out (by omega)]; exact g1 i j hi hj
  · by_cases e : i = c 2
    · subst e
      obtain ⟨a0, a1⟩ := p2_at (m := m) (k := 24 + c 2 * 2) (a := v0) (b := v1)
      have : j = 0 ∨ j = 1 := by omega
      rcases this with rfl | rfl
      · rw [Nat.add_zero, a0]; exact h0
      · rw [a1]; exact h1
    · rw [put2_out (by omega)]; exact g2 i j (by omega) hj
  · rw [put2_out (by omega), put2_out (by omega), put2_out (by omega), put2_out (by omega)]; exact g3 i hi
theorem okT_3 {c : Nat → Nat} {m : Nat → Int32} (h : okT c m) (hc : c 3 < 4) {v0 v1 v2 v3 : Int32} (h0 : okQ v0 v1) (h1 : okQ v2 v3) : okT (updN c 3 (c 3 + 1)) (put4 m (40 + c 3 * 4) v0 v1 v2 v3) := by
  obtain ⟨⟨c0, c1, c2, c3⟩, g0, g1, g2, g3⟩ := h
  have e1 : updN c 3 (c 3 + 1) 0 = c 0 := un_n (by decide)
  have e2 : updN c 3 (c 3 + 1) 1 = c 1 := un_n (by decide)
  have e3 : updN c 3 (c 3 + 1) 2 = c 2 := un_n (by decide)
  unfold okT Bcn
  rw [un_e, e1, e2, e3]
  refine ⟨⟨c0, c1, c2, by omega⟩, fun i j hi hj => ?_, fun i j hi hj => ?_, fun i j hi hj => ?_, fun i hi => ?_⟩
  · rw [put4_out (by omega)]; exact g0 i j hi hj
  · rw [put4_out (by omega)]; exact g1 i j hi hj
  · rw [put4_out (by omega)]; exact g2 i j hi hj
  · by_cases e : i = c 3
    · subst e
      obtain ⟨a0, a1, a2, a3⟩ := p4_at (m := m) (k := 40 + c 3 * 4) (a := v0) (b := v1) (c := v2) (d := v3)
      rw [a0, a1, a2, a3]
      exact ⟨h0, h1⟩
    · rw [put4_out (by omega), put4_out (by omega), put4_out (by omega), put4_out (by omega)]; exact g3 i (by omega)
theorem pLn_ok {u : Nat → Nat} {n : Nat} {s s' : PS} (hs : okT s.2.1 s.2.2) (h : pLn u n s = .inr s') : okT s'.2.1 s'.2.2 := by
  unfold pLn at h
  split at h
  · split at h
    · cases h
    · obtain ⟨r, e1, e2⟩ := sb_inv h
      cases e2
      obtain ⟨b0, b1, b2, b3⟩ := pBars_ok e1
      exact okT_0 hs (by omega) b0 b1 b2 b3
  · split at h
    · split at h
      · cases h
      · obtain ⟨r, e1, e2⟩ := sb_inv h
        cases e2
        obtain ⟨b0, b1⟩ := pTwo_ok (by decide) e1
        exact okT_1 hs (by omega) b0 b1
    · split at h
      · split at h
        · cases h
        · obtain ⟨r, e1, e2⟩ := sb_inv h
          cases e2
          obtain ⟨b0, b1⟩ := pTwo_ok (by decide) e1
          exact okT_2 hs (by omega) b0 b1
      · split at h
        · split at h
          · cases h
          · obtain ⟨r, e1, e2⟩ := sb_inv h
            cases e2
            obtain ⟨b0, b1⟩ := pPair_ok e1
            exact okT_3 hs (by omega) b0 b1
        · cases h
theorem pAll_ok {u : Nat → Nat} {n : Nat} : ∀ (f : Nat) (s s' : PS), okT s.2.1 s.2.2 → pAll u n f s = .inr s' → okT s'.2.1 s'.2.2 ∧ 0 < s'.2.1 0
  | 0, s, s', _, h => by cases h
  | f + 1, s, s', hs, h => by
    obtain ⟨s1, e1, e2⟩ := sb_inv (show sb (pLn u n s) _ = _ from h)
    have h1 := pLn_ok hs e1
    split at e2
    · split at e2
      · next hp =>
        cases e2
        exact ⟨h1, hp⟩
      · cases e2
    · split at e2
      · exact pAll_ok f (sk u n s1.1 + 1, s1.2) s' h1 e2
      · cases e2
theorem pT_ok {u : Nat → Nat} {n : Nat} {s : PS} (h : pT u n = .inr s) : okT s.2.1 s.2.2 ∧ 0 < s.2.1 0 := pAll_ok (n + 1) _ s ⟨⟨by decide, by decide, by decide, by decide⟩, fun i j hi => absurd hi (Nat.not_lt_zero i), fun i j hi => absurd hi (Nat.not_lt_zero i), fun i j hi => absurd hi (Nat.not_lt_zero i), fun i hi => absurd hi (Nat.not_lt_zero i)⟩ h
/-- the desk that both have read -/
theorem dk_read {s : PS} {g8 a8 a9 a10 a11 r9 q4 q5 q6 q7 : Nat → Int32} (h : okT s.2.1 s.2.2) (hx : Ag s.2.1 s.2.2 g8) (hm : Agm s.2.1 s.2.2 a8 a9 a10 a11) : DkR (s.2.1 0) (s.2.1 1) (s.2.1 2) (s.2.1 3) g8 (ovl (nIf s.2.1) 4 r9) (ovl a8 16 q4) (ovl a9 8 q5) (ovl a10 16 q6) (ovl a11 16 q7) := by
  obtain ⟨⟨c0, c1, c2, c3⟩, g0, g1, g2, g3⟩ := h
  obtain ⟨x0, x1, x2, x3⟩ := hx
  obtain ⟨m0, m1, m2, m3⟩ := hm
  have o : ∀ (f r : Nat → Int32) (n i : Nat), i < n → ovl f n r i = f i := fun f r n i hi => by unfold ovl; rw [if_pos hi]
  refine ⟨⟨o _ _ _ _ (by decide), o _ _ _ _ (by decide), o _ _ _ _ (by decide), o _ _ _ _ (by decide)⟩, ⟨c0, c1, c2, c3⟩, fun i j hi hj => ?_, fun i j hi hj => ?_, fun i j hi hj => ?_, fun i j hi hj => ?_, fun i hi => ?_⟩
  · rw [x0 i j hi hj, o _ _ _ _ (by omega), show 0 + i * 4 + j = i * 4 + j by omega, m0 i j hi hj, show 0 + (i * 4 + j) = 0 + i * 4 + j by omega, show i * 4 + j = 0 + i * 4 + j by omega]
    exact ⟨rfl, g0 i j hi hj⟩
  · rw [x1 i j hi hj, o _ _ _ _ (by omega), show 0 + i * 2 + j = i * 2 + j by omega, m1 i j hi hj, show 16 + (i * 2 + j) = 16 + i * 2 + j by omega]
    have := g1 i j hi hj
    exact ⟨rfl, by omega, by omega⟩
  · rw [x2 i j hi hj, o _ _ _ _ (by omega), show 0 + i * 2 + j = i * 2 + j by omega, m2 i j hi hj, show 24 + (i * 2 + j) = 24 + i * 2 + j by omega]
    exact ⟨rfl, g2 i j hi hj⟩
  · rw [x3 i j hi hj, o _ _ _ _ (by omega), show 0 + i * 4 + j = i * 4 + j by omega, m3 i j hi hj, show 40 + (i * 4 + j) = 40 + i * 4 + j by omega]
  · have k : Int32.toNatClampNeg (nI i) = i := nI_clamp (by omega)
    have e : ∀ j, j < 4 → ovl a11 16 q7 (0 + i * 4 + j) = s.2.2 (40 + i * 4 + j) := fun j hj => by
      rw [o _ _ _ _ (by omega), show 0 + i * 4 + j = i * 4 + j by omega, m3 i j hi hj, show 40 + (i * 4 + j) = 40 + i * 4 + j by omega]
    unfold okP
    rw [k, e 0 (by decide), e 1 (by decide), e 2 (by decide), e 3 (by decide)]
    exact g3 i hi
theorem take_e {g8 q7 : Nat → Int32} (r19 r20 r21 r22 : Nat → Int64) {nr : Nat} (hn : nr ≤ 4) (h : ∀ i j, i < nr → j < 4 → g8 (40 + i * 4 + j) = q7 (0 + i * 4 + j)) : prR q7 nr (itr (fun k s => lp_take7_st g8 k s.1 s.2.1 s.2.2.1 s.2.2.2.1 s.2.2.2.2) nr 0 (r19, r20, r21, r22, 1)).1 (itr (fun k s => lp_take7_st g8 k s.1 s.2.1 s.2.2.1 s.2.2.2.1 s.2.2.2.2) nr 0 (r19, r20, r21, r22, 1)).2.1 (itr (fun k s => lp_take7_st g8 k s.1 s.2.1 s.2.2.1 s.2.2.2.1 s.2.2.2.2) nr 0 (r19, r20, r21, r22, 1)).2.2.1 (itr (fun k s => lp_take7_st g8 k s.1 s.2.1 s.2.2.1 s.2.2.2.1 s.2.2.2.2) nr 0 (r19, r20, r21, r22, 1)).2.2.2.1 ∧ (itr (fun k s => lp_take7_st g8 k s.1 s.2.1 s.2.2.1 s.2.2.2.1 s.2.2.2.2) nr 0 (r19, r20, r21, r22, 1)).2.2.2.2 = Int64.ofInt (zU q7 nr) := by
  have key := itr_inv' (fun k (s : (Nat → Int64) × (Nat → Int64) × (Nat → Int64) × (Nat → Int64) × Int64) => prR q7 k s.1 s.2.1 s.2.2.1 s.2.2.2.1 ∧ s.2.2.2.2 = Int64.ofInt (zU q7 k)) (fun k s => lp_take7_st g8 k s.1 s.2.1 s.2.2.1 s.2.2.2.1 s.2.2.2.2) nr 0 (r19, r20, r21, r22, 1) ⟨fun k hk => absurd hk (Nat.not_lt_zero k), rfl⟩ (fun k s h1 h2 hs => by
    obtain ⟨p, e⟩ := hs
    have hk : k < nr := by omega
    have cl : Int32.toNatClampNeg (nI k) = k := nI_clamp (by omega)
    have v0 := h k 0 hk (by decide)
    have v1 := h k 1 hk (by decide)
    have v2 := h k 2 hk (by decide)
    have v3 := h k 3 hk (by decide)
    rw [Nat.add_zero] at v0
    unfold lp_take7_st
    simp only
    rw [v0, v1, v2, v3, vu_eq, e]
    constructor
    · intro i hi
      by_cases c : i = k
      · subst c
        rw [vu_eq, vu_eq, vu_eq, vu_eq]
        unfold Mq_c0 Mq_n2 Mq_c2 Mq_n0 Mq_b Mq_by Mq_c0 Mq_c2 Mq_s0 Mq_s2 Mq_n0 Mq_n2
        rw [cl]
        exact ⟨rfl, rfl, rfl, rfl⟩
      · rw [vu_ne c, vu_ne c, vu_ne c, vu_ne c]
        exact p i (by omega)
    · show _ = Int64.ofInt (zU q7 k * zA q7 k)
      rw [Int64.ofInt_mul]
      congr 1
      unfold zA Mq_by Mq_n0 Mq_n2
      rw [cl, ← i64_of32])
  rw [Nat.zero_add] at key
  exact key
