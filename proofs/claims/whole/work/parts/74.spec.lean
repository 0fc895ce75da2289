/-! THE TEXT: what both read, by places; u: the bytes, n: how many -/
def sgn (x : Nat) : Int32 := if x < 128 then nI x else nI x - 256
theorem sgn_T {x : Nat} (h : x < 256) : (sgn x).toInt = if x < 128 then (x : Int) else (x : Int) - 256 := by
  unfold sgn
  by_cases c : x < 128
  · rw [if_pos c, if_pos c, nI_toInt (by omega)]
  · rw [if_neg c, if_neg c, Int32.toInt_sub, nI_toInt (by omega)]
    have e : (256 : Int32).toInt = 256 := rfl
    rw [e, Int.bmod_eq_of_le (by omega) (by omega)]
theorem sgn_eq {x c : Nat} (h : x < 256) (hc : c < 128) : sgn x = nI c ↔ x = c := by
  rw [← Int32.toInt_inj, sgn_T h, nI_toInt (by omega)]
  by_cases q : x < 128
  · rw [if_pos q]; omega
  · rw [if_neg q]; omega
theorem sgn_in {x a b : Nat} (h : x < 256) (ha : a < 128) (hb : b < 128) : (nI a ≤ sgn x ∧ sgn x ≤ nI b) ↔ (a ≤ x ∧ x ≤ b) := by
  rw [Int32.le_iff_toInt_le, Int32.le_iff_toInt_le, sgn_T h, nI_toInt (by omega), nI_toInt (by omega)]
  by_cases q : x < 128
  · rw [if_pos q]; omega
  · rw [if_neg q]; omega
def run (q : Nat → Bool) (n a : Nat) : Nat := if _h : a < n ∧ q a = true then run q n (a + 1) else a
termination_by n - a
decreasing_by omega
theorem run_t {q : Nat → Bool} {n a : Nat} (h : a < n) (hq : q a = true) : run q n a = run q n (a + 1) := by rw [run, dif_pos ⟨h, hq⟩]
theorem run_f {q : Nat → Bool} {n a : Nat} (h : ¬ (a < n ∧ q a = true)) : run q n a = a := by rw [run, dif_neg h]
theorem run_ge {q : Nat → Bool} {n : Nat} : ∀ (m a : Nat), n - a = m → a ≤ run q n a
  | 0, a, h => by rw [run_f (by omega)]; exact Nat.le_refl a
  | m + 1, a, h => by
    by_cases c : a < n ∧ q a = true
    · rw [run_t c.1 c.2]; have := run_ge (q := q) (n := n) m (a + 1) (by omega); omega
    · rw [run_f c]; exact Nat.le_refl a
theorem run_le {q : Nat → Bool} {n : Nat} : ∀ (m a : Nat), n - a = m → a ≤ n → run q n a ≤ n
  | 0, a, h, hn => by rw [run_f (by omega)]; exact hn
  | m + 1, a, h, hn => by
    by_cases c : a < n ∧ q a = true
    · rw [run_t c.1 c.2]; exact run_le (q := q) m (a + 1) (by omega) (by omega)
    · rw [run_f c]; exact hn
theorem run_all {q : Nat → Bool} {n : Nat} : ∀ (m a : Nat), n - a = m → ∀ j, a ≤ j → j < run q n a → j < n ∧ q j = true
  | 0, a, h, j, h1, h2 => by rw [run_f (by omega)] at h2; omega
  | m + 1, a, h, j, h1, h2 => by
    by_cases c : a < n ∧ q a = true
    · rw [run_t c.1 c.2] at h2
      by_cases e : j = a
      · rw [e]; exact c
      · exact run_all (q := q) m (a + 1) (by omega) j (by omega) h2
    · rw [run_f c] at h2; omega
theorem run_stop {q : Nat → Bool} {n : Nat} : ∀ (m a : Nat), n - a = m → ¬ (run q n a < n ∧ q (run q n a) = true)
  | 0, a, h => by rw [run_f (by omega)]; omega
  | m + 1, a, h => by
    by_cases c : a < n ∧ q a = true
    · rw [run_t c.1 c.2]; exact run_stop (q := q) m (a + 1) (by omega)
    · rw [run_f c]; exact c
def isB (u : Nat → Nat) (k : Nat) : Bool := decide (u k = 32)
def isD (u : Nat → Nat) (k : Nat) : Bool := decide (48 ≤ u k ∧ u k ≤ 57)
def isL (u : Nat → Nat) (k : Nat) : Bool := decide (97 ≤ u k ∧ u k ≤ 122)
theorem isB_iff {u : Nat → Nat} {k : Nat} : isB u k = true ↔ u k = 32 := by simp [isB]
theorem isD_iff {u : Nat → Nat} {k : Nat} : isD u k = true ↔ (48 ≤ u k ∧ u k ≤ 57) := by simp [isD]
theorem isL_iff {u : Nat → Nat} {k : Nat} : isL u k = true ↔ (97 ≤ u k ∧ u k ≤ 122) := by simp [isL]
def sk (u : Nat → Nat) (n a : Nat) : Nat := run (isB u) n a
def dE (u : Nat → Nat) (n a : Nat) : Nat := run (isD u) n a
def lE (u : Nat → Nat) (n a : Nat) : Nat := run (isL u) n a
theorem sk_ge {u : Nat → Nat} {n a : Nat} : a ≤ sk u n a := run_ge _ a rfl
theorem sk_le {u : Nat → Nat} {n a : Nat} (h : a ≤ n) : sk u n a ≤ n := run_le _ a rfl h
theorem sk_sk {u : Nat → Nat} {n a : Nat} : sk u n (sk u n a) = sk u n a := run_f (run_stop _ a rfl)
theorem dE_ge {u : Nat → Nat} {n a : Nat} : a ≤ dE u n a := run_ge _ a rfl
theorem dE_le {u : Nat → Nat} {n a : Nat} (h : a ≤ n) : dE u n a ≤ n := run_le _ a rfl h
theorem lE_ge {u : Nat → Nat} {n a : Nat} : a ≤ lE u n a := run_ge _ a rfl
theorem lE_le {u : Nat → Nat} {n a : Nat} (h : a ≤ n) : lE u n a ≤ n := run_le _ a rfl h
/-- the value of k digits -/
def vl (u : Nat → Nat) (a : Nat) : Nat → Nat
  | 0 => 0
  | k + 1 => vl u a k * 10 + (u (a + k) - 48)
/-- one step behind another; the first fault stays -/
def sb {α β : Type} (x : (Nat × Nat) ⊕ α) (f : α → (Nat × Nat) ⊕ β) : (Nat × Nat) ⊕ β := x.elim .inl f
theorem sb_l {α β : Type} {x : (Nat × Nat) ⊕ α} {e : Nat × Nat} {f : α → (Nat × Nat) ⊕ β} (h : x = .inl e) : sb x f = .inl e := by rw [h]; rfl
theorem sb_r {α β : Type} {x : (Nat × Nat) ⊕ α} {a : α} {f : α → (Nat × Nat) ⊕ β} (h : x = .inr a) : sb x f = f a := by rw [h]; rfl
/-- a whole from p on: its value, and where it ends -/
def pWh (u : Nat → Nat) (n p lo hi : Nat) : (Nat × Nat) ⊕ (Nat × Nat) :=
  if dE u n (sk u n p) = sk u n p ∨ 3 < dE u n (sk u n p) - sk u n p then .inl (1, sk u n p)
  else if vl u (sk u n p) (dE u n (sk u n p) - sk u n p) < lo ∨ hi < vl u (sk u n p) (dE u n (sk u n p) - sk u n p) then .inl (2, sk u n p)
  else .inr (vl u (sk u n p) (dE u n (sk u n p) - sk u n p), dE u n (sk u n p))
theorem pWh_sk {u : Nat → Nat} {n p lo hi : Nat} : pWh u n (sk u n p) lo hi = pWh u n p lo hi := by unfold pWh; rw [sk_sk]
def pSg (u : Nat → Nat) (n p hi : Nat) : (Nat × Nat) ⊕ (Int32 × Nat) :=
  if sk u n p < n ∧ u (sk u n p) = 45 then sb (pWh u n (sk u n p + 1) 0 hi) (fun r => .inr (-(nI r.1), r.2))
  else sb (pWh u n p 0 hi) (fun r => .inr (nI r.1, r.2))
def pTwo (u : Nat → Nat) (n p hi : Nat) : (Nat × Nat) ⊕ (Int32 × Int32 × Nat) := sb (pSg u n p hi) (fun a => sb (pSg u n a.2 hi) (fun b => .inr (a.1, b.1, b.2)))
def pAng (u : Nat → Nat) (n p : Nat) : (Nat × Nat) ⊕ (Int32 × Int32 × Nat) := sb (pSg u n p 5) (fun a => sb (pWh u n a.2 (if a.1 = 0 then 1 else 0) 5) (fun b => .inr (a.1, nI b.1, b.2)))
def pPair (u : Nat → Nat) (n p : Nat) : (Nat × Nat) ⊕ (Int32 × Int32 × Int32 × Int32 × Nat) := sb (pAng u n p) (fun a => sb (pAng u n a.2.2) (fun b => .inr (a.1, a.2.1, b.1, b.2.1, b.2.2)))
/-- the word bars stands at a, whole -/
abbrev wd_0 (u : Nat → Nat) (n a : Nat) : Prop := a + 4 ≤ n ∧ ¬ (a + 4 < n ∧ isL u (a + 4) = true) ∧ u (a + 0) = 98 ∧ u (a + 1) = 97 ∧ u (a + 2) = 114 ∧ u (a + 3) = 115
/-- the word tracer stands at a, whole -/
abbrev wd_1 (u : Nat → Nat) (n a : Nat) : Prop := a + 6 ≤ n ∧ ¬ (a + 6 < n ∧ isL u (a + 6) = true) ∧ u (a + 0) = 116 ∧ u (a + 1) = 114 ∧ u (a + 2) = 97 ∧ u (a + 3) = 99 ∧ u (a + 4) = 101 ∧ u (a + 5) = 114
/-- the word point stands at a, whole -/
abbrev wd_2 (u : Nat → Nat) (n a : Nat) : Prop := a + 5 ≤ n ∧ ¬ (a + 5 < n ∧ isL u (a + 5) = true) ∧ u (a + 0) = 112 ∧ u (a + 1) = 111 ∧ u (a + 2) = 105 ∧ u (a + 3) = 110 ∧ u (a + 4) = 116
/-- the word pair stands at a, whole -/
abbrev wd_3 (u : Nat → Nat) (n a : Nat) : Prop := a + 4 ≤ n ∧ ¬ (a + 4 < n ∧ isL u (a + 4) = true) ∧ u (a + 0) = 112 ∧ u (a + 1) = 97 ∧ u (a + 2) = 105 ∧ u (a + 3) = 114
/-- the word ground stands at a, whole -/
abbrev wd_4 (u : Nat → Nat) (n a : Nat) : Prop := a + 6 ≤ n ∧ ¬ (a + 6 < n ∧ isL u (a + 6) = true) ∧ u (a + 0) = 103 ∧ u (a + 1) = 114 ∧ u (a + 2) = 111 ∧ u (a + 3) = 117 ∧ u (a + 4) = 110 ∧ u (a + 5) = 100
/-- the word crank stands at a, whole -/
abbrev wd_5 (u : Nat → Nat) (n a : Nat) : Prop := a + 5 ≤ n ∧ ¬ (a + 5 < n ∧ isL u (a + 5) = true) ∧ u (a + 0) = 99 ∧ u (a + 1) = 114 ∧ u (a + 2) = 97 ∧ u (a + 3) = 110 ∧ u (a + 4) = 107
/-- the word rod stands at a, whole -/
abbrev wd_6 (u : Nat → Nat) (n a : Nat) : Prop := a + 3 ≤ n ∧ ¬ (a + 3 < n ∧ isL u (a + 3) = true) ∧ u (a + 0) = 114 ∧ u (a + 1) = 111 ∧ u (a + 2) = 100
/-- the word arm stands at a, whole -/
abbrev wd_7 (u : Nat → Nat) (n a : Nat) : Prop := a + 3 ≤ n ∧ ¬ (a + 3 < n ∧ isL u (a + 3) = true) ∧ u (a + 0) = 97 ∧ u (a + 1) = 114 ∧ u (a + 2) = 109
def pBar_0 (u : Nat → Nat) (n p : Nat) : (Nat × Nat) ⊕ (Nat × Nat) := if wd_4 u n (sk u n p) then pWh u n (sk u n p + 6) 1 18 else .inl (1, sk u n p)
def pBar_1 (u : Nat → Nat) (n p : Nat) : (Nat × Nat) ⊕ (Nat × Nat) := if wd_5 u n (sk u n p) then pWh u n (sk u n p + 5) 1 18 else .inl (1, sk u n p)
def pBar_2 (u : Nat → Nat) (n p : Nat) : (Nat × Nat) ⊕ (Nat × Nat) := if wd_6 u n (sk u n p) then pWh u n (sk u n p + 3) 1 18 else .inl (1, sk u n p)
def pBar_3 (u : Nat → Nat) (n p : Nat) : (Nat × Nat) ⊕ (Nat × Nat) := if wd_7 u n (sk u n p) then pWh u n (sk u n p + 3) 1 18 else .inl (1, sk u n p)
def pBars (u : Nat → Nat) (n p : Nat) : (Nat × Nat) ⊕ (Int32 × Int32 × Int32 × Int32 × Nat) := sb (pBar_0 u n p) (fun a => sb (pBar_1 u n a.2) (fun b => sb (pBar_2 u n b.2) (fun c => sb (pBar_3 u n c.2) (fun d => .inr (nI a.1, nI b.1, nI c.1, nI d.1, d.2)))))
/-- a line: the counts and the numbers behind it -/
abbrev PS := Nat × (Nat → Nat) × (Nat → Int32)
def put2 (f : Nat → Int32) (k : Nat) (a b : Int32) : Nat → Int32 := upd (upd f k a) (k + 1) b
def put4 (f : Nat → Int32) (k : Nat) (a b c d : Int32) : Nat → Int32 := upd (upd (upd (upd f k a) (k + 1) b) (k + 2) c) (k + 3) d
def pLn (u : Nat → Nat) (n : Nat) (s : PS) : (Nat × Nat) ⊕ PS :=
  if wd_0 u n (sk u n s.1) then (if 4 ≤ s.2.1 0 then .inl (3, sk u n s.1) else sb (pBars u n (sk u n s.1 + 4)) (fun r => .inr (r.2.2.2.2, updN s.2.1 0 (s.2.1 0 + 1), put4 s.2.2 (0 + s.2.1 0 * 4) r.1 r.2.1 r.2.2.1 r.2.2.2.1)))
  else if wd_1 u n (sk u n s.1) then (if 4 ≤ s.2.1 1 then .inl (3, sk u n s.1) else sb (pTwo u n (sk u n s.1 + 6) 20) (fun r => .inr (r.2.2, updN s.2.1 1 (s.2.1 1 + 1), put2 s.2.2 (16 + s.2.1 1 * 2) r.1 r.2.1)))
  else if wd_2 u n (sk u n s.1) then (if 8 ≤ s.2.1 2 then .inl (3, sk u n s.1) else sb (pTwo u n (sk u n s.1 + 5) 999) (fun r => .inr (r.2.2, updN s.2.1 2 (s.2.1 2 + 1), put2 s.2.2 (24 + s.2.1 2 * 2) r.1 r.2.1)))
  else if wd_3 u n (sk u n s.1) then (if 4 ≤ s.2.1 3 then .inl (3, sk u n s.1) else sb (pPair u n (sk u n s.1 + 4)) (fun r => .inr (r.2.2.2.2, updN s.2.1 3 (s.2.1 3 + 1), put4 s.2.2 (40 + s.2.1 3 * 4) r.1 r.2.1 r.2.2.1 r.2.2.2.1)))
  else .inl (1, sk u n s.1)
/-- all lines -/
def pAll (u : Nat → Nat) (n : Nat) : Nat → PS → (Nat × Nat) ⊕ PS
  | 0, _ => .inl (1, n)
  | f + 1, s => sb (pLn u n s) (fun s1 => if n ≤ sk u n s1.1 then (if 0 < s1.2.1 0 then .inr s1 else .inl (4, sk u n s1.1)) else if u (sk u n s1.1) = 59 then pAll u n f (sk u n s1.1 + 1, s1.2) else .inl (1, sk u n s1.1))
