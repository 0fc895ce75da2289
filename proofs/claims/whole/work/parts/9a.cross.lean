/-! sums, and crossings -/
def Sm (f : Nat → Nat) : Nat → Nat
  | 0 => 0
  | n + 1 => Sm f n + f n
theorem sm_cong {f g : Nat → Nat} : ∀ n, (∀ i, i < n → f i = g i) → Sm f n = Sm g n
  | 0, _ => rfl
  | n + 1, h => by show Sm f n + f n = Sm g n + g n; rw [sm_cong n (fun i hi => h i (by omega)), h n (by omega)]
theorem sm_add (f g : Nat → Nat) : ∀ n, Sm (fun i => f i + g i) n = Sm f n + Sm g n
  | 0 => rfl
  | n + 1 => by
    show Sm (fun i => f i + g i) n + (f n + g n) = (Sm f n + f n) + (Sm g n + g n)
    rw [sm_add f g n]; omega
theorem sm_zero : ∀ n, Sm (fun _ => 0) n = 0
  | 0 => rfl
  | n + 1 => by show Sm (fun _ => 0) n + 0 = 0; rw [sm_zero n]
theorem sm_swap (g : Nat → Nat → Nat) (m : Nat) : ∀ n, Sm (fun i => Sm (fun j => g i j) m) n = Sm (fun j => Sm (fun i => g i j) n) m
  | 0 => (sm_zero m).symm
  | n + 1 => by
    show Sm (fun i => Sm (fun j => g i j) m) n + Sm (fun j => g n j) m = Sm (fun j => Sm (fun i => g i j) n + g n j) m
    rw [sm_swap g m n, sm_add]
theorem sm_from (f : Nat → Nat) (a : Nat) : ∀ c, Sm (fun j => f (a + j)) (c - a) = Sm (fun j => if a ≤ j then f j else 0) c
  | 0 => by rw [Nat.zero_sub]; rfl
  | c + 1 => by
    have ih := sm_from f a c
    show _ = Sm (fun j => if a ≤ j then f j else 0) c + (if a ≤ c then f c else 0)
    by_cases h : a ≤ c
    · rw [if_pos h, ← ih, show c + 1 - a = (c - a) + 1 by omega]
      show Sm (fun j => f (a + j)) (c - a) + f (a + (c - a)) = _
      rw [show a + (c - a) = c by omega]
    · rw [if_neg h, ← ih, show c + 1 - a = 0 by omega, show c - a = 0 by omega, Nat.add_zero]
theorem sm_below (f : Nat → Nat) (j : Nat) : ∀ c, j ≤ c → Sm f j = Sm (fun o => if o < j then f o else 0) c
  | 0, h => by rw [show j = 0 by omega]; rfl
  | c + 1, h => by
    show _ = Sm (fun o => if o < j then f o else 0) c + (if c < j then f c else 0)
    by_cases e : j = c + 1
    · subst e
      rw [if_pos (by omega)]
      show Sm f c + f c = _
      rw [sm_cong (f := f) (g := fun o => if o < c + 1 then f o else 0) c (fun i hi => by rw [if_pos (by omega)])]
    · rw [if_neg (by omega), Nat.add_zero]
      exact sm_below f j c (by omega)
theorem itr_sum {st : Nat → Int32 → Int32} {g : Nat → Nat} : ∀ (n k : Nat) (s : Int32), (∀ j s, k ≤ j → j < k + n → st j s = s + nI (g j)) → itr st n k s = s + nI (Sm (fun j => g (k + j)) n)
  | 0, k, s, _ => by rw [itr_0]; exact (Int32.add_zero s).symm
  | n + 1, k, s, h => by
    have hsplit : Sm (fun j => g (k + j)) (n + 1) = g k + Sm (fun j => g (k + 1 + j)) n := by
      have key : ∀ m, Sm (fun j => g (k + j)) (m + 1) = g k + Sm (fun j => g (k + 1 + j)) m := by
        intro m
        induction m with
        | zero => show 0 + g k = g k + 0; omega
        | succ m ih =>
          show Sm (fun j => g (k + j)) (m + 1) + g (k + (m + 1)) = g k + (Sm (fun j => g (k + 1 + j)) m + g (k + 1 + m))
          rw [ih, show k + (m + 1) = k + 1 + m by omega]; omega
      exact key n
    rw [itr_s, h k s (Nat.le_refl k) (by omega), itr_sum n (k + 1) _ (fun j s h1 h2 => h j s (by omega) (by omega)), hsplit, ← nI_add, Int32.add_assoc]
abbrev Pt2 (a b : Int64) : Prop := (0 < a ∧ b < 0) ∨ (a < 0 ∧ 0 < b)
theorem sg3_pt {a b : Int64} : Sg3 a * Sg3 b < 0 ↔ Pt2 a b := by
  unfold Sg3 Pt2
  by_cases a0 : 0 ≤ a
  · by_cases a1 : a ≤ 0
    · rw [if_pos a0, if_pos a1]
      constructor
      · intro h; rw [Int32.zero_mul] at h; exact absurd h (by decide)
      · rintro (h | h)
        · exact absurd h.1 (Int64.not_lt.mpr a1)
        · exact absurd h.1 (Int64.not_lt.mpr a0)
    · rw [if_pos a0, if_neg a1]
      by_cases b0 : 0 ≤ b
      · have nb : ¬ b < 0 := Int64.not_lt.mpr b0
        have na : ¬ a < 0 := Int64.not_lt.mpr a0
        rw [if_pos b0]
        split
        · exact ⟨fun h => absurd h (by decide), fun h => h.elim (fun z => absurd z.2 nb) (fun z => absurd z.1 na)⟩
        · exact ⟨fun h => absurd h (by decide), fun h => h.elim (fun z => absurd z.2 nb) (fun z => absurd z.1 na)⟩
      · rw [if_neg b0]
        exact ⟨fun _ => Or.inl ⟨Int64.not_le.mp a1, Int64.not_le.mp b0⟩, fun _ => by decide⟩
  · rw [if_neg a0]
    have na : ¬ 0 < a := fun z => a0 (Int64.le_of_lt z)
    by_cases b0 : 0 ≤ b
    · rw [if_pos b0]
      by_cases b1 : b ≤ 0
      · rw [if_pos b1]
        exact ⟨fun h => absurd h (by decide), fun h => h.elim (fun z => absurd z.1 na) (fun z => absurd z.2 (Int64.not_lt.mpr b1))⟩
      · rw [if_neg b1]
        exact ⟨fun _ => Or.inr ⟨Int64.not_le.mp a0, Int64.not_le.mp b1⟩, fun _ => by decide⟩
    · rw [if_neg b0]
      have nb : ¬ 0 < b := fun z => b0 (Int64.le_of_lt z)
      exact ⟨fun h => absurd h (by decide), fun h => h.elim (fun z => absurd z.1 na) (fun z => absurd z.2 nb)⟩
abbrev CcP (x y : Nat → Int32) (c i j : Nat) : Prop := ¬ nxc c j = i ∧ Pt2 (Cv_bend x y i (nxc c i) j) (Cv_bend x y i (nxc c i) (nxc c j)) ∧ Pt2 (Cv_bend x y j (nxc c j) i) (Cv_bend x y j (nxc c j) (nxc c i))
theorem xcm_cc {x y : Nat → Int32} {c o j : Nat} (h1 : o < j) (h2 : j < c) : XcM x y c j o ↔ (o + 2 ≤ j ∧ CcP x y c o j) := by
  have e1 : nxc c o = o + 1 := by unfold nxc; rw [if_pos (by omega)]
  have e2 : ¬ nxc c j = nxc c o := by rw [e1]; unfold nxc; split <;> omega
  unfold XcM CcP
  rw [sg3_pt, sg3_pt]
  constructor
  · rintro ⟨a, b, d, e, f, g⟩
    exact ⟨by rw [e1] at b; omega, d, g, f⟩
  · rintro ⟨a, d, g, f⟩
    exact ⟨by omega, by rw [e1]; omega, d, e2, f, g⟩
theorem cutI_st {x y : Nat → Int32} {c i j : Nat} {s : Int32} (hi : i < c) (hj : j < c) (hc : c ≤ 40) : lp_cutI_st x y c i j s = s + nI (if CcP x y c i j then 1 else 0) := by
  have hn := nxc_lt hj
  have e : nI (nxc c j) = nI i ↔ nxc c j = i := nI_eq (by omega) (by omega)
  unfold lp_cutI_st
  by_cases c1 : nxc c j = i
  · rw [if_pos (e.mpr c1), if_neg (fun z => z.1 c1)]; exact (Int32.add_zero s).symm
  · rw [if_neg (fun z => c1 (e.mp z))]
    by_cases c2 : Pt2 (Cv_bend x y i (nxc c i) j) (Cv_bend x y i (nxc c i) (nxc c j))
    · rw [if_pos c2]
      by_cases c3 : Pt2 (Cv_bend x y j (nxc c j) i) (Cv_bend x y j (nxc c j) (nxc c i))
      · rw [if_pos c3, if_pos ⟨c1, c2, c3⟩]; rfl
      · rw [if_neg c3, if_neg (fun z => c3 z.2.2)]; exact (Int32.add_zero s).symm
    · rw [if_neg c2, if_neg (fun z => c2 z.2.1)]; exact (Int32.add_zero s).symm
theorem e_cross {x y : Nat → Int32} {c : Nat} (hc : c ≤ 40) : itr (lp_cutO_st x y c) c 0 0 = itr (lp_mcrO_st x y c) c 0 0 := by
  have hC : itr (lp_cutO_st x y c) c 0 0 = 0 + nI (Sm (fun i => Sm (fun j => if i + 2 ≤ 0 + j ∧ CcP x y c (0 + i) j then 1 else 0) c) c) := by
    refine (itr_sum (g := fun i => Sm (fun j => if i + 2 ≤ 0 + j ∧ CcP x y c i j then 1 else 0) c) c 0 0 (fun i s h1 h2 => ?_)).trans ?_
    · show cutI x y c i s = _
      unfold cutI
      rw [itr_sum (g := fun j => if CcP x y c i j then 1 else 0) (c - (i + 2)) (i + 2) s (fun j s h3 h4 => cutI_st (by omega) (by omega) hc), sm_from (fun j => if CcP x y c i j then 1 else 0) (i + 2) c]
      congr 2
      refine sm_cong c (fun j hj => ?_)
      by_cases a : i + 2 ≤ j
      · by_cases b : CcP x y c i j
        · rw [if_pos a, if_pos b, if_pos ⟨by omega, b⟩]
        · rw [if_pos a, if_neg b, if_neg (fun z => b z.2)]
      · rw [if_neg a, if_neg (fun z => a (by have := z.1; omega))]
    · congr 2
      exact sm_cong c (fun i hi => sm_cong c (fun j hj => by rw [Nat.zero_add]))
  have hM : itr (lp_mcrO_st x y c) c 0 0 = 0 + nI (Sm (fun j => Sm (fun o => if o + 2 ≤ 0 + j ∧ CcP x y c (0 + o) j then 1 else 0) c) c) := by
    refine (itr_sum (g := fun j => Sm (fun o => if o + 2 ≤ j ∧ CcP x y c o j then 1 else 0) c) c 0 0 (fun j s h1 h2 => ?_)).trans ?_
    · show itr (lp_mcrI_st x y c j) j 0 s = _
      rw [itr_sum (g := fun o => if XcM x y c j o then 1 else 0) j 0 s (fun o s h3 h4 => by unfold lp_mcrI_st; split <;> rfl), sm_below _ j c (by omega)]
      congr 2
      refine sm_cong c (fun o ho => ?_)
      rw [Nat.zero_add]
      by_cases a : o < j
      · rw [if_pos a]
        by_cases b : XcM x y c j o
        · rw [if_pos b, if_pos ((xcm_cc a (by omega)).mp b)]
        · rw [if_neg b, if_neg (fun z => b ((xcm_cc a (by omega)).mpr z))]
      · rw [if_neg a, if_neg (fun z => a (by have := z.1; omega))]
    · congr 2
      exact sm_cong c (fun j hj => sm_cong c (fun o ho => by rw [Nat.zero_add, Nat.zero_add]))
  rw [hC, hM, sm_swap]
