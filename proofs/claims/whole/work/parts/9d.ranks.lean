/-! ranks -/
/-- no n + 1 things have each a place of its own among n -/
theorem php : ∀ (n : Nat) (f : Nat → Nat), (∀ i, i < n + 1 → f i < n) → ∃ i j, i < j ∧ j < n + 1 ∧ f i = f j
  | 0, f, h => absurd (h 0 (by omega)) (by omega)
  | n + 1, f, h => by
    by_cases c : ∃ i, i < n + 1 ∧ f i = f (n + 1)
    · obtain ⟨i, h1, h2⟩ := c
      exact ⟨i, n + 1, h1, by omega, h2⟩
    · have c' : ∀ i, i < n + 1 → ¬ f i = f (n + 1) := fun i hi z => c ⟨i, hi, z⟩
      have hl := h (n + 1) (by omega)
      obtain ⟨i, j, h1, h2, h3⟩ := php n (fun i => if f i < f (n + 1) then f i else f i - 1) (fun i hi => by
        have a := h i (by omega)
        have b := c' i hi
        show (if f i < f (n + 1) then f i else f i - 1) < n
        split <;> omega)
      refine ⟨i, j, h1, by omega, ?_⟩
      have bi := c' i (by omega)
      have bj := c' j h2
      have h3 : (if f i < f (n + 1) then f i else f i - 1) = (if f j < f (n + 1) then f j else f j - 1) := h3
      split at h3 <;> split at h3 <;> omega
theorem surj {c : Nat} {f : Nat → Nat} (h : ∀ i, i < c → f i < c) (hi : ∀ i j, i < j → j < c → ¬ f i = f j) {v : Nat} (hv : v < c) : ∃ i, i < c ∧ f i = v := by
  apply Classical.byContradiction
  intro hn
  have hn' : ∀ i, i < c → ¬ f i = v := fun i hi z => hn ⟨i, hi, z⟩
  obtain ⟨n, rfl⟩ : ∃ n, c = n + 1 := ⟨c - 1, by omega⟩
  obtain ⟨i, j, h1, h2, h3⟩ := php n (fun i => if f i < v then f i else f i - 1) (fun i hi => by
    have a := h i hi
    have b := hn' i hi
    show (if f i < v then f i else f i - 1) < n
    split <;> omega)
  have bi := hn' i (by omega)
  have bj := hn' j h2
  have h3 : (if f i < v then f i else f i - 1) = (if f j < v then f j else f j - 1) := h3
  refine hi i j h1 h2 ?_
  split at h3 <;> split at h3 <;> omega
/-- one ahead of another: nearer, or as near and before it -/
abbrev Ah (d : Nat → Int32) (k i : Nat) : Prop := d k < d i ∨ (d k = d i ∧ k < i)
def Rk (d : Nat → Int32) (c i : Nat) : Nat := Sm (fun k => if Ah d k i then 1 else 0) c
theorem sm_le {f g : Nat → Nat} : ∀ n, (∀ i, i < n → f i ≤ g i) → Sm f n ≤ Sm g n
  | 0, _ => Nat.le_refl 0
  | n + 1, h => by
    have a := sm_le n (fun i hi => h i (by omega))
    have b := h n (by omega)
    show Sm f n + f n ≤ Sm g n + g n
    omega
theorem sm_lt {f g : Nat → Nat} : ∀ n, (∀ i, i < n → f i ≤ g i) → ∀ k, k < n → f k < g k → Sm f n < Sm g n
  | 0, _, k, hk, _ => absurd hk (by omega)
  | n + 1, h, k, hk, hl => by
    show Sm f n + f n < Sm g n + g n
    by_cases e : k = n
    · subst e
      have a := sm_le k (fun i hi => h i (by omega))
      omega
    · have a := sm_lt n (fun i hi => h i (by omega)) k (by omega) hl
      have b := h n (by omega)
      omega
theorem sm_one : ∀ n, Sm (fun _ => 1) n = n
  | 0 => rfl
  | n + 1 => by show Sm (fun _ => 1) n + 1 = n + 1; rw [sm_one n]
theorem ah_irr {d : Nat → Int32} {i : Nat} : ¬ Ah d i i := by
  rintro (h | h)
  · exact absurd h (Int32.lt_irrefl)
  · omega
theorem ah_tr {d : Nat → Int32} {i j k : Nat} (h1 : Ah d i j) (h2 : Ah d j k) : Ah d i k := by
  unfold Ah at *
  grind
theorem ah_tot {d : Nat → Int32} {i j : Nat} (h : ¬ i = j) : Ah d i j ∨ Ah d j i := by
  unfold Ah
  grind
theorem rk_lt {d : Nat → Int32} {c i : Nat} (hi : i < c) : Rk d c i < c := by
  have h := sm_lt (f := fun k => if Ah d k i then 1 else 0) (g := fun _ => 1) c (fun k hk => by show (if Ah d k i then 1 else 0) ≤ 1; split <;> omega) i hi (by show (if Ah d i i then 1 else 0) < 1; rw [if_neg ah_irr]; omega)
  rw [sm_one] at h
  exact h
theorem rk_mono {d : Nat → Int32} {c i j : Nat} (hi : i < c) (h : Ah d i j) : Rk d c i < Rk d c j := by
  refine sm_lt c (fun k hk => ?_) i hi ?_
  · show (if Ah d k i then 1 else 0) ≤ (if Ah d k j then 1 else 0)
    by_cases z : Ah d k i
    · rw [if_pos z, if_pos (ah_tr z h)]; omega
    · rw [if_neg z]; omega
  · show (if Ah d i i then 1 else 0) < (if Ah d i j then 1 else 0)
    rw [if_neg ah_irr, if_pos h]; omega
theorem rk_surj {d : Nat → Int32} {c v : Nat} (hv : v < c) : ∃ i, i < c ∧ Rk d c i = v := by
  refine surj (fun i hi => rk_lt hi) (fun i j h1 h2 z => ?_) hv
  rcases ah_tot (d := d) (i := i) (j := j) (by omega) with h | h
  · have := rk_mono (c := c) (by omega) h; omega
  · have := rk_mono (c := c) h2 h; omega
theorem pm_rk {x y : Nat → Int32} {a b : Int32} {c i : Nat} (hc : c ≤ 40) (hi : i < c) : itr (lp_pm_st x y b a i) c 0 0 = nI (Rk (fun k => Cv_sq x y a b k) c i) := by
  rw [itr_sum (g := fun k => if Ah (fun k => Cv_sq x y a b k) k i then 1 else 0) c 0 0 (fun k s h1 h2 => ?_), Int32.zero_add]
  · unfold Rk
    congr 1
    exact sm_cong c (fun k hk => by rw [Nat.zero_add])
  · have e : nI i ≤ nI k ↔ i ≤ k := nI_leI (by omega) (by omega)
    unfold lp_pm_st
    by_cases c1 : Cv_sq x y a b k < Cv_sq x y a b i
    · rw [if_pos c1, if_pos (Or.inl c1)]; rfl
    · rw [if_neg c1]
      by_cases c2 : Cv_sq x y a b k = Cv_sq x y a b i
      · rw [if_pos c2]
        by_cases c3 : nI i ≤ nI k
        · rw [if_pos c3, if_neg (fun z => z.elim c1 (fun w => by have := e.mp c3; omega))]; exact (Int32.add_zero s).symm
        · rw [if_neg c3, if_pos (Or.inr ⟨c2, by have : ¬ i ≤ k := fun z => c3 (e.mpr z); omega⟩)]; rfl
      · rw [if_neg c2, if_neg (fun z => z.elim c1 (fun w => c2 w.1))]; exact (Int32.add_zero s).symm
theorem mah_pm {x x' y y' q : Nat → Int32} {a b i : Int32} {c j : Nat} (hj : j < c) (hx : ∀ j, j < c → x j = x' j) (hy : ∀ j, j < c → y j = y' j) (ea : Tm q i = a) (eb : Tn q i = b) : itr (lp_mah_st q x' y' i j) c 0 0 = itr (lp_pm_st x y b a j) c 0 0 := by
  have es : ∀ j, j < c → Cv_sq x' y' (Tm q i) (Tn q i) j = Cv_sq x y a b j := fun j hj => by unfold Cv_sq; rw [← hx j hj, ← hy j hj, ea, eb]
  refine itr_cong _ _ _ (fun k s h1 h2 => ?_)
  unfold lp_mah_st lp_pm_st
  rw [es k (by omega), es j hj, Int32.add_zero]
