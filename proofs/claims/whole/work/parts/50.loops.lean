/-! LOOPS: a step done for k, k + 1, .. -/
def itr {σ : Type} (f : Nat → σ → σ) : Nat → Nat → σ → σ
  | 0, _, s => s
  | n + 1, k, s => itr f n (k + 1) (f k s)
termination_by n _ _ => n
theorem itr_0 {σ : Type} (f : Nat → σ → σ) (k : Nat) (s : σ) : itr f 0 k s = s := by rw [itr]
theorem itr_s {σ : Type} (f : Nat → σ → σ) (n k : Nat) (s : σ) : itr f (n + 1) k s = itr f n (k + 1) (f k s) := by rw [itr]
theorem itr_cong {σ : Type} {f g : Nat → σ → σ} : ∀ (n k : Nat) (s : σ), (∀ j s, k ≤ j → j < k + n → f j s = g j s) → itr f n k s = itr g n k s
  | 0, k, s, _ => by rw [itr_0, itr_0]
  | n + 1, k, s, h => by
    rw [itr_s, itr_s, h k s (Nat.le_refl k) (by omega)]
    exact itr_cong n (k + 1) _ (fun j s h1 h2 => h j s (by omega) (by omega))
/-- with a way out -/
def itx {σ ρ : Type} (f : Nat → σ → σ ⊕ ρ) : Nat → Nat → σ → σ ⊕ ρ
  | 0, _, s => .inl s
  | n + 1, k, s => (f k s).elim (fun s' => itx f n (k + 1) s') (fun r => .inr r)
termination_by n _ _ => n
theorem itx_0 {σ ρ : Type} (f : Nat → σ → σ ⊕ ρ) (k : Nat) (s : σ) : itx f 0 k s = .inl s := by rw [itx]
theorem itx_l {σ ρ : Type} {f : Nat → σ → σ ⊕ ρ} {n k : Nat} {s s' : σ} (h : f k s = .inl s') : itx f (n + 1) k s = itx f n (k + 1) s' := by rw [itx, h]; rfl
theorem itx_r {σ ρ : Type} {f : Nat → σ → σ ⊕ ρ} {n k : Nat} {s : σ} {r : ρ} (h : f k s = .inr r) : itx f (n + 1) k s = .inr r := by rw [itx, h]; rfl
theorem itx_cong {σ ρ : Type} {f g : Nat → σ → σ ⊕ ρ} : ∀ (n k : Nat) (s : σ), (∀ j s, k ≤ j → j < k + n → f j s = g j s) → itx f n k s = itx g n k s
  | 0, k, s, _ => by rw [itx_0, itx_0]
  | n + 1, k, s, h => by
    cases hf : f k s with
    | inl s' =>
      rw [itx_l hf, itx_l ((h k s (Nat.le_refl k) (by omega)).symm.trans hf)]
      exact itx_cong n (k + 1) s' (fun j s h1 h2 => h j s (by omega) (by omega))
    | inr r => rw [itx_r hf, itx_r ((h k s (Nat.le_refl k) (by omega)).symm.trans hf)]
