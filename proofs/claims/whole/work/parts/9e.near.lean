/-! near -/
theorem itx_some {σ ρ : Type} {f : Nat → Unit → Unit ⊕ ρ} {P : Nat → Prop} {v : Nat → ρ} (hf : ∀ k, (P k → f k () = .inr (v k)) ∧ (¬ P k → f k () = .inl ())) : ∀ (n k : Nat), (∃ j, k ≤ j ∧ j < k + n ∧ P j) → ∃ r, itx f n k () = .inr r
  | 0, k, ⟨j, h1, h2, _⟩ => absurd h2 (by omega)
  | n + 1, k, ⟨j, h1, h2, h3⟩ => by
    by_cases c : P k
    · exact ⟨v k, itx_r ((hf k).1 c)⟩
    · rw [itx_l ((hf k).2 c)]
      exact itx_some (σ := σ) hf n (k + 1) ⟨j, by have : ¬ j = k := fun z => c (z ▸ h3); omega, by omega, h3⟩
theorem itx_none {σ ρ : Type} {f : Nat → Unit → Unit ⊕ ρ} {P : Nat → Prop} (hf : ∀ k, ¬ P k → f k () = .inl ()) : ∀ (n k : Nat), (∀ j, k ≤ j → j < k + n → ¬ P j) → itx f n k () = .inl ()
  | 0, k, _ => itx_0 f k ()
  | n + 1, k, h => by
    rw [itx_l (hf k (h k (Nat.le_refl k) (by omega)))]
    exact itx_none (σ := σ) hf n (k + 1) (fun j h1 h2 => h j (by omega) (by omega))
theorem e_nearA {x x' y y' nn nn' q : Nat → Int32} {a b i pl : Int32} {c : Nat} (hx : ∀ j, j < c → x j = x' j) (hy : ∀ j, j < c → y j = y' j) (hn : ∀ j, j < c → nn j = nn' j) (ea : Tm q i = a) (eb : Tn q i = b) : itx (lp_mnear_st q x' y' nn' pl i c) c 0 () = itx (lp_am_st x y nn pl b a c) c 0 () := by
  refine itx_cong _ _ _ (fun k s h1 h2 => ?_)
  have hk : k < c := by omega
  unfold lp_mnear_st lp_am_st
  rw [mah_pm hk hx hy ea eb, hn k hk]
theorem near_in {x y nn : Nat → Int32} {a b pl : Int32} {c : Nat} (hc : c ≤ 40) (h : 0 ≤ pl ∧ pl < nI c) : ∃ r, itx (lp_am_st x y nn pl b a c) c 0 () = .inr r := by
  obtain ⟨v, hv, rfl⟩ := nI_in2 (by omega) h.1 h.2
  obtain ⟨i, hi, e⟩ := rk_surj (d := fun k => Cv_sq x y a b k) hv
  refine itx_some (σ := Unit) (P := fun k => itr (lp_pm_st x y b a k) c 0 0 = nI v) (v := nn) (fun k => ⟨fun z => if_pos z, fun z => if_neg z⟩) c 0 ⟨i, by omega, by omega, ?_⟩
  show itr (lp_pm_st x y b a i) c 0 0 = nI v
  rw [pm_rk hc hi, e]
theorem near_out {x y nn : Nat → Int32} {a b pl : Int32} {c : Nat} (hc : c ≤ 40) (h : ¬ (0 ≤ pl ∧ pl < nI c)) : itx (lp_am_st x y nn pl b a c) c 0 () = .inl () := by
  refine itx_none (σ := Unit) (P := fun k => itr (lp_pm_st x y b a k) c 0 0 = pl) (fun k z => if_neg z) c 0 (fun j h1 h2 z => ?_)
  have z : itr (lp_pm_st x y b a j) c 0 0 = pl := z
  have hj : j < c := by omega
  rw [pm_rk hc hj] at z
  have hr := rk_lt (d := fun k => Cv_sq x y a b k) hj
  exact h ⟨by rw [← z]; exact nI_pos' (by omega), by rw [← z]; exact nI_lt hr (by omega)⟩
/-! met -/
theorem met_i {R V K : Int} {N r : Nat} (hN : (N : Int) = V * V * K) (hK : 0 ≤ K) (h1 : r * r ≤ N) (h2 : N < (r + 1) * (r + 1)) (hr : r < 3000000000) :
    (r * r = N ∧ (if 0 ≤ V then (r : Int) else -(r : Int)) = R) ↔ (((R = 0 ∨ V = 0 ∨ K = 0) ∧ R = 0 ∧ (V = 0 ∨ K = 0)) ∨ (¬ (R = 0 ∨ V = 0 ∨ K = 0) ∧ (0 < R ↔ 0 < V) ∧ R.natAbs < 3000000000 ∧ R * R = V * V * K)) := by
  by_cases z : V = 0 ∨ K = 0
  · have hz : V * V * K = 0 := by
      rcases z with z | z
      · rw [z]; omega
      · rw [z]; omega
    have hn0 : N = 0 := by rw [hz] at hN; omega
    have r0 : r = 0 := by
      rcases Nat.eq_zero_or_pos r with y | y
      · exact y
      · have := Nat.mul_pos y y; omega
    subst r0
    constructor
    · rintro ⟨_, e⟩
      have e : R = 0 := by split at e <;> omega
      exact Or.inl ⟨Or.inl e, e, z⟩
    · rintro (⟨_, e, _⟩ | ⟨nz, _⟩)
      · refine ⟨by omega, ?_⟩
        split <;> omega
      · exact absurd (Or.inr z) nz
  · have hV : ¬ V = 0 := fun y => z (Or.inl y)
    have hK0 : ¬ K = 0 := fun y => z (Or.inr y)
    have hvv : 0 < V * V := by
      have := sq_nn V
      rcases Int.lt_or_eq_of_le this with y | y
      · exact y
      · exact absurd ((Int.mul_eq_zero.mp y.symm).elim id id) hV
    have hpos : 0 < V * V * K := Int.mul_pos hvv (by omega)
    have hNp : 0 < N := by omega
    constructor
    · rintro ⟨e1, e2⟩
      have rp : 0 < r := by
        rcases Nat.eq_zero_or_pos r with y | y
        · rw [y] at e1; omega
        · exact y
      have e1' : (r : Int) * r = N := by exact_mod_cast e1
      refine Or.inr ⟨?_, ?_, ?_, ?_⟩
      · rintro (y | y)
        · split at e2 <;> omega
        · exact z y
      · split at e2 <;> omega
      · split at e2 <;> omega
      · rw [← hN, ← e1', ← e2]
        split
        · rfl
        · rw [Int.neg_mul_neg]
    · rintro (⟨_, _, y⟩ | ⟨_, s, b, e⟩)
      · exact absurd y z
      · have en : R.natAbs * R.natAbs = N := by
          have h3 : ((R.natAbs * R.natAbs : Nat) : Int) = R * R := by rw [Int.natCast_mul]; exact Int.natAbs_mul_self' R
          omega
        have er : R.natAbs = r := by
          have a : R.natAbs ≤ r := by
            rcases Nat.lt_or_ge r R.natAbs with y | y
            · have := Nat.mul_le_mul (show r + 1 ≤ R.natAbs from y) (show r + 1 ≤ R.natAbs from y); omega
            · exact y
          have b2 : r ≤ R.natAbs := by
            rcases Nat.lt_or_ge R.natAbs r with y | y
            · have h4 := Nat.mul_le_mul (show R.natAbs + 1 ≤ r from y) (show R.natAbs + 1 ≤ r from y)
              have h5 : (R.natAbs + 1) * (R.natAbs + 1) = R.natAbs * R.natAbs + 2 * R.natAbs + 1 := by rw [Nat.add_mul, Nat.mul_add]; omega
              omega
            · exact y
          omega
        refine ⟨by rw [← er]; exact en, ?_⟩
        split <;> omega
