/-! THE HULL: chain and march -/
theorem hull_e {x y : Nat → Int32} {c : Nat} (so ch : Nat → Nat) (hc : c ≤ 40) (h0 : 0 < c) (bx : ∀ j, j < c → Bx (x j)) (by_ : ∀ j, j < c → Bx (y j)) :
    itr (lp_wf_st x y) (c - 1) 1 0 = (hlS x y c so ch).2 0 ∧ 1 ≤ hlN x y c so ch ∧ hlN x y c so ch ≤ 40 ∧ (∀ i, i < hlN x y c so ch → (hlS x y c so ch).2 i < c) ∧ (∀ i, i + 1 < hlN x y c so ch → cbM x y c ((hlS x y c so ch).2 i) = (hlS x y c so ch).2 (i + 1)) ∧ cbM x y c ((hlS x y c so ch).2 (hlN x y c so ch - 1)) = (hlS x y c so ch).2 0 ∧ ∀ i, 0 < i → i < hlN x y c so ch → ¬ sP x y ((hlS x y c so ch).2 i) ((hlS x y c so ch).2 0) := by
  obtain ⟨s1, s2, s3, s4⟩ := sr_ok (x := x) (y := y) so hc
  unfold hlN hlS
  generalize srtS x y c so = S at *
  obtain ⟨e, P⟩ := S
  simp only at s1 s2 s3 s4 ⊢
  have hP : 0 < P := by
    obtain ⟨a, b, _⟩ := s4 0 h0
    omega
  have hbr : ∀ i j k, i < c → j < c → k < c → (Cv_bend x y i j k ≤ 0 ↔ hB (tI x) (tI y) i j k ≤ 0) := fun i j k a b d => by
    rw [Int64.le_iff_toInt_le, bend_T (bx i a) (bx j b) (bx k d) (by_ i a) (by_ j b) (by_ k d)]
    exact Iff.rfl
  have hbr' : ∀ i j k, i < c → j < c → k < c → (Cv_bend x y i j k ≤ 0 ↔ hB (fun j => -tI x j) (fun j => -tI y j) i j k ≤ 0) := fun i j k a b d => by
    rw [hB_neg]; exact hbr i j k a b d
  have so1 : ∀ a b, a < b → b < P → hL (tI x) (tI y) (e a) (e b) := fun a b p q => ls_hL.mp (s2 a b p q)
  have so2 : ∀ a b, a < b → b < P → hL (fun j => -tI x j) (fun j => -tI y j) (e (P - 1 - a)) (e (P - 1 - b)) := fun a b p q => hL_neg.mpr (so1 (P - 1 - b) (P - 1 - a) (by omega) (by omega))
  have L := low_ok (ch := ch) hbr (fun m hm => (s3 m hm).1) so1 hP
  generalize w1S x y e P ch = W1 at *
  obtain ⟨K1, c1⟩ := W1
  obtain ⟨⟨j1, j2, j3, j4, j5⟩, tp1, cv1⟩ := L
  simp only at j1 j2 j3 j4 j5 tp1 cv1 ⊢
  have U0 : hS (fun j => -tI x j) (fun j => -tI y j) (fun t => e (P - 1 - t)) (K1 - 1) (P - 1 - (P - 1)) (K1, c1) := by
    rw [Nat.sub_self]
    refine ⟨⟨by simp only; omega, by simp only; rw [Nat.sub_zero]; exact tp1, fun j a b => absurd b (by simp only; omega), fun j a b => absurd b (by simp only; omega), fun j a b => ⟨0, Nat.le_refl 0, ?_⟩⟩, ?_, fun m hm => Or.inl ?_⟩
    · simp only at b ⊢
      rw [Nat.sub_zero, show j = K1 - 1 by omega]; exact tp1
    · simp only; rw [Nat.sub_zero]; exact tp1
    · simp only
      rw [show m = 0 by omega, Nat.sub_zero]; exact tp1.symm
  have U := upp_ok (e := fun t => e (P - 1 - t)) hbr' (fun t ht => rfl) (fun m hm => (s3 (P - 1 - m) (by omega)).1) so2 (P - 1) (K1, c1) (by omega) U0
  generalize w2S x y e (K1 - 1) (P - 1) (K1, c1) = W2 at *
  obtain ⟨K2, c2⟩ := W2
  obtain ⟨⟨⟨i1, i2, i3, i4, i5⟩, tp, cv⟩, keep⟩ := U
  simp only at i1 i2 i3 i4 i5 tp cv keep ⊢
  have hIu : hI (fun j => -tI x j) (fun j => -tI y j) (fun t => e (P - 1 - t)) (K1 - 1) (P - 1) K2 c2 := ⟨i1, i2, i3, i4, i5⟩
  have hIl : hI (tI x) (tI y) e 0 (P - 1) K1 c1 := ⟨j1, j2, j3, j4, j5⟩
  have ep : ∀ a, a < P → e (P - 1 - (P - 1 - a)) = e a := fun a ha => by rw [show P - 1 - (P - 1 - a) = a by omega]
  have up : ∀ j a, K1 - 1 ≤ j → j + 1 < K2 → a < P → e a = c2 j ∨ 0 < hB (fun j => -tI x j) (fun j => -tI y j) (c2 j) (c2 (j + 1)) (e a) ∨ (hB (fun j => -tI x j) (fun j => -tI y j) (c2 j) (c2 (j + 1)) (e a) = 0 ∧ hL (fun j => -tI x j) (fun j => -tI y j) (c2 j) (e a) ∧ (e a = c2 (j + 1) ∨ hL (fun j => -tI x j) (fun j => -tI y j) (e a) (c2 (j + 1)))) := by
    intro j a p q ha
    have r := hu_all hIu (cv (P - 1 - a) (by omega)) p q
    rw [ep a ha] at r
    exact r
  have c0 : c2 0 = e 0 := (keep 0 (by omega)).trans j2
  have inc : ∀ j, j < K2 → c2 j < c ∧ ∃ a, a < P ∧ c2 j = e a := by
    intro j hj
    by_cases q : j < K1
    · obtain ⟨m, a, b⟩ := j5 j (by omega) q
      rw [keep j (by omega), b]
      exact ⟨(s3 m (by omega)).1, m, by omega, rfl⟩
    · obtain ⟨m, a, b⟩ := i5 j (by omega) hj
      rw [b]
      exact ⟨(s3 (P - 1 - m) (by omega)).1, P - 1 - m, by omega, rfl⟩
  have ed : ∀ i, i + 1 < K2 → cbM x y c (c2 i) = c2 (i + 1) := by
    intro i hi
    obtain ⟨hf, a1, ha1, b1⟩ := inc i (by omega)
    obtain ⟨ht, a2, ha2, b2⟩ := inc (i + 1) hi
    have fi : ∀ j, j < c2 (i + 1) → ¬ sP x y j (c2 (i + 1)) := by rw [b2]; exact (s3 a2 ha2).2
    by_cases ci : i < K1 - 1
    · have k1 := keep i (by omega)
      have k2 := keep (i + 1) (by omega)
      refine cb_spec hc hf ht (fun z => s2_ne (Or.inl ⟨rfl, rfl⟩) (j3 i (by omega) (by omega)) ⟨by rw [← k1, ← k2]; exact z.1.symm, by rw [← k1, ← k2]; exact z.2.symm⟩) fi (fun j hj => ?_)
      obtain ⟨a, ha, haj⟩ := s4 j hj
      have r := hu_all hIl (cv1 a (by omega)) (Nat.zero_le i) (by omega)
      rw [← k1, ← k2] at r
      exact edge_ok (Or.inl ⟨rfl, rfl⟩) bx by_ hf ht (s3 a ha).1 haj r
    · refine cb_spec hc hf ht (fun z => s2_ne (Or.inr ⟨rfl, rfl⟩) (i3 i (by omega) hi) ⟨z.1.symm, z.2.symm⟩) fi (fun j hj => ?_)
      obtain ⟨a, ha, haj⟩ := s4 j hj
      exact edge_ok (Or.inr ⟨rfl, rfl⟩) bx by_ hf ht (s3 a ha).1 haj (up i a (by omega) hi ha)
  have wf : itr (lp_wf_st x y) (c - 1) 1 0 = e 0 := wf_spec (s3 0 hP).1 (s3 0 hP).2 (fun j hj => by
    obtain ⟨a, ha, haj⟩ := s4 j hj
    by_cases z : a = 0
    · rw [z] at haj; exact Or.inl haj
    · refine Or.inr ?_
      have := s2 0 a (by omega) ha
      unfold lsC at this ⊢
      rw [← haj.1, ← haj.2]; exact this)
  by_cases p1 : P = 1
  · subst p1
    have k1 : K1 = 1 := by
      refine Nat.le_antisymm (Nat.not_lt.mp fun z => ?_) j1
      have l := j3 0 (Nat.le_refl 0) z
      obtain ⟨m, a, b⟩ := j5 (0 + 1) (by omega) z
      rw [b, show m = 0 by omega, j2] at l
      exact hL_ne l ⟨rfl, rfl⟩
    subst k1
    have k2 : K2 = 1 := by
      refine Nat.le_antisymm (Nat.not_lt.mp fun z => ?_) i1
      have l := i3 0 (Nat.le_refl 0) z
      obtain ⟨m, a, b⟩ := i5 (0 + 1) (by omega) z
      rw [b, show m = 0 by omega, c0] at l
      exact hL_ne l ⟨rfl, rfl⟩
    subst k2
    rw [if_neg (by omega), wf, c0]
    refine ⟨rfl, by omega, by omega, fun i hi => (inc i hi).1, fun i hi => absurd hi (by omega), ?_, fun i h1 h2 => absurd h2 (by omega)⟩
    refine cb_same (fun j hj => ?_)
    obtain ⟨a, ha, haj⟩ := s4 j hj
    rw [show a = 0 by omega] at haj
    exact ⟨haj.1.symm, haj.2.symm⟩
  · have k1 : 2 ≤ K1 := by
      refine Nat.not_lt.mp fun z => ?_
      rw [show K1 - 1 = 0 by omega, j2] at tp1
      have l := so1 0 (P - 1) (by omega) (by omega)
      rw [tp1] at l
      exact hL_ne l ⟨rfl, rfl⟩
    rw [Nat.sub_zero] at i2
    rw [Nat.sub_self] at tp
    have k2 : K1 + 1 ≤ K2 := by
      refine Nat.not_lt.mp fun z => ?_
      rw [show K2 - 1 = K1 - 1 by omega, i2] at tp
      have l := so1 0 (P - 1) (by omega) (by omega)
      rw [tp] at l
      exact hL_ne l ⟨rfl, rfl⟩
    rw [if_pos (by omega), wf, c0]
    have nb : ∀ i, 0 < i → i < K2 - 1 → ¬ sP x y (c2 i) (e 0) := by
      intro i h1 h2 z
      by_cases q : i ≤ K1 - 1
      · have l := hu_inc (X := tI x) (Y := tI y) (K := K1) j3 (Nat.le_refl 0) (i - 1) (by omega)
        rw [show 0 + (i - 1) + 1 = i by omega, j2, ← keep i q] at l
        exact s2_ne (Or.inl ⟨rfl, rfl⟩) l ⟨z.1.symm, z.2.symm⟩
      · have l := hu_inc (K := K2) i3 (show K1 - 1 ≤ i by omega) (K2 - 1 - i - 1) (by omega)
        rw [show i + (K2 - 1 - i - 1) + 1 = K2 - 1 by omega, tp] at l
        exact s2_ne (Or.inr ⟨rfl, rfl⟩) l z
    refine ⟨rfl, by omega, ?_, fun i hi => (inc i (by omega)).1, fun i hi => ed i (by omega), ?_, fun i h1 h2 => nb i h1 h2⟩
    · refine Nat.not_lt.mp fun big => ?_
      obtain ⟨i, j, h1, h2, h3⟩ := php 40 c2 (fun i hi => by have := (inc i (by omega)).1; omega)
      by_cases q : j ≤ K1 - 1
      · have l := hu_inc (X := tI x) (Y := tI y) (K := K1) j3 (Nat.zero_le i) (j - i - 1) (by omega)
        rw [show i + (j - i - 1) + 1 = j by omega, ← keep i (by omega), ← keep j q, h3] at l
        exact hL_ne l ⟨rfl, rfl⟩
      · by_cases q2 : K1 - 1 ≤ i
        · have l := hu_inc (K := K2) i3 q2 (j - i - 1) (by omega)
          rw [show i + (j - i - 1) + 1 = j by omega, h3] at l
          exact hL_ne l ⟨rfl, rfl⟩
        · by_cases q3 : i = 0
          · refine nb j (by omega) (by omega) ?_
            rw [← h3, q3, c0]; exact ⟨rfl, rfl⟩
          · have e1 : i - 1 + 1 = i := by omega
            have e2 : i - 1 + 2 = i + 1 := by omega
            have e3 : j - 1 + 1 = j := by omega
            have e4 : j - 1 + 2 = j + 1 := by omega
            have a1 := j3 (i - 1) (by omega) (by omega)
            have a2 := j3 i (by omega) (by omega)
            have a3 := hL_neg.mp (i3 (j - 1) (by omega) (by omega))
            have a4 := hL_neg.mp (i3 j (by omega) (by omega))
            have a5 := j4 (i - 1) (by omega) (by omega)
            have a6 := i4 (j - 1) (by omega) (by omega)
            rw [hB_neg] at a6
            rw [e1] at a1 a5
            rw [e2] at a5
            rw [e3] at a3 a6
            rw [e4] at a6
            obtain ⟨m1, hm1, b1⟩ := j5 (i - 1) (by omega) (by omega)
            obtain ⟨m2, hm2, b2⟩ := j5 (i + 1) (by omega) (by omega)
            have ki := keep i (by omega)
            rw [← ki, h3] at a1 a2 a5
            have s1' : 0 ≤ hB (tI x) (tI y) (c2 j) (c2 (j + 1)) (c1 (i - 1)) := by
              rw [b1]
              rcases up j m1 (by omega) (by omega) (by omega) with r | r | r
              · rw [r, hB_0.1]; omega
              · rw [hB_neg] at r; omega
              · rw [hB_neg] at r; omega
            have s2' : 0 ≤ hB (tI x) (tI y) (c2 (j - 1)) (c2 j) (c1 (i + 1)) := by
              rw [b2]
              have r := up (j - 1) m2 (by omega) (by omega) (by omega)
              rw [e3] at r
              rcases r with r | r | r
              · rw [r, hB_0.1]; omega
              · rw [hB_neg] at r; omega
              · rw [hB_neg] at r; omega
            exact hu_two a1 a2 a3 a4 a5 a6 s1' s2'
    · have := ed (K2 - 2) (by omega)
      rw [show K2 - 2 + 1 = K2 - 1 by omega, tp] at this
      rw [show K2 - 1 - 1 = K2 - 2 by omega]
      exact this
/-- the march -/
def marA (x y : Nat → Int32) (c t : Nat) : Nat → Nat
  | 0 => t
  | i + 1 => cbM x y c (marA x y c t i)
theorem mar_e {x y : Nat → Int32} {c : Nat} (so ch : Nat → Nat) (hc : c ≤ 40) (h0 : 0 < c) (bx : ∀ j, j < c → Bx (x j)) (by_ : ∀ j, j < c → Bx (y j)) :
    (∀ i, i < hlN x y c so ch → marA x y c (itr (lp_wf_st x y) (c - 1) 1 0) i = (hlS x y c so ch).2 i) ∧ marA x y c (itr (lp_wf_st x y) (c - 1) 1 0) (hlN x y c so ch) = (hlS x y c so ch).2 0 := by
  obtain ⟨h1, h2, h3, h4, h5, h6, h7⟩ := hull_e (x := x) (y := y) so ch hc h0 bx by_
  have key : ∀ i, i < hlN x y c so ch → marA x y c (itr (lp_wf_st x y) (c - 1) 1 0) i = (hlS x y c so ch).2 i := by
    intro i
    induction i with
    | zero => intro _; exact h1
    | succ i ih =>
      intro hi
      show cbM x y c (marA x y c (itr (lp_wf_st x y) (c - 1) 1 0) i) = _
      rw [ih (by omega)]; exact h5 i hi
  refine ⟨key, ?_⟩
  obtain ⟨n, en⟩ : ∃ n, hlN x y c so ch = n + 1 := ⟨hlN x y c so ch - 1, by omega⟩
  have k := key n (by omega)
  rw [en, Nat.add_sub_cancel] at h6
  rw [en]
  show cbM x y c (marA x y c (itr (lp_wf_st x y) (c - 1) 1 0) n) = _
  rw [k]; exact h6
