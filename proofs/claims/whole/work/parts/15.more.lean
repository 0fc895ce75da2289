/-! RULES: Math, arraycopy; small helps -/
theorem ix_c {x : Int32} {n j : Nat} (h : x.toInt = (j : Int) ∧ j < n) : ax_ix x n j := by
  have h1 : x.toNatClampNeg = j := by
    show x.toInt.toNat = j
    rw [h.1]; simp
  refine ⟨?_, h1⟩
  intro q
  rcases q with q | q
  · have := Int32.lt_iff_toInt_lt.mp q
    rw [h.1, Int32.toInt_zero] at this
    omega
  · rw [h1] at q
    have := h.2
    omega
theorem ix_in {x : Int32} {n : Nat} (h1 : 0 ≤ x.toInt) (h2 : x.toInt < n) : ax_ix x n x.toNatClampNeg := ⟨vp_in_iff.mpr ⟨h1, h2⟩, rfl⟩
/-- what a table holds at a place -/
def ax_tab (t j : Nat) : Int32 := ((ax_st.getD t ("", "", [])).2.2).getD j 0
theorem sw_0_2 (x : Int32) : x = 0 ∨ x = 1 ∨ x = 2 ∨ (x.toInt < 0 ∨ 2 < x.toInt) := by
  by_cases h : x.toInt < 0 ∨ 2 < x.toInt
  · exact Or.inr (Or.inr (Or.inr h))
  · have h3 : x.toInt = 0 ∨ x.toInt = 1 ∨ x.toInt = 2 := by omega
    rcases h3 with h3 | h3 | h3
    · exact Or.inl (Int32.toInt_inj.mp (by rw [h3]; rfl))
    · exact Or.inr (Or.inl (Int32.toInt_inj.mp (by rw [h3]; rfl)))
    · exact Or.inr (Or.inr (Or.inl (Int32.toInt_inj.mp (by rw [h3]; rfl))))
theorem sw_0_5 (x : Int32) : x = 0 ∨ x = 1 ∨ x = 2 ∨ x = 3 ∨ x = 4 ∨ x = 5 ∨ (x.toInt < 0 ∨ 5 < x.toInt) := by
  by_cases h : x.toInt < 0 ∨ 5 < x.toInt
  · exact Or.inr (Or.inr (Or.inr (Or.inr (Or.inr (Or.inr h)))))
  · have h3 : x.toInt = 0 ∨ x.toInt = 1 ∨ x.toInt = 2 ∨ x.toInt = 3 ∨ x.toInt = 4 ∨ x.toInt = 5 := by omega
    rcases h3 with h3 | h3 | h3 | h3 | h3 | h3
    · exact Or.inl (Int32.toInt_inj.mp (by rw [h3]; rfl))
    · exact Or.inr (Or.inl (Int32.toInt_inj.mp (by rw [h3]; rfl)))
    · exact Or.inr (Or.inr (Or.inl (Int32.toInt_inj.mp (by rw [h3]; rfl))))
    · exact Or.inr (Or.inr (Or.inr (Or.inl (Int32.toInt_inj.mp (by rw [h3]; rfl)))))
    · exact Or.inr (Or.inr (Or.inr (Or.inr (Or.inl (Int32.toInt_inj.mp (by rw [h3]; rfl))))))
    · exact Or.inr (Or.inr (Or.inr (Or.inr (Or.inr (Or.inl (Int32.toInt_inj.mp (by rw [h3]; rfl)))))))
theorem wi_Math : Cond.initialized "java/lang/Math" ∈ TB := tb_of 11 (by decide +kernel) rfl
theorem wm_max : Cond.static Lib.Math.max.name ∈ TB ∧ Cond.code Lib.Math.max.name Lib.Math.max.code 2 (some .int) ∈ TB := ⟨tb_of 364 (by decide +kernel) rfl, tb_of 365 (by decide +kernel) rfl⟩
theorem wm_min : Cond.static Lib.Math.min.name ∈ TB ∧ Cond.code Lib.Math.min.name Lib.Math.min.code 2 (some .int) ∈ TB := ⟨tb_of 361 (by decide +kernel) rfl, tb_of 362 (by decide +kernel) rfl⟩
theorem wm_abs : Cond.static Lib.Math.abs.name ∈ TB ∧ Cond.code Lib.Math.abs.name Lib.Math.abs.code 1 (some .int) ∈ TB := ⟨tb_of 650 (by decide +kernel) rfl, tb_of 651 (by decide +kernel) rfl⟩
theorem wm_maxL : Cond.static Lib.MathLoose.max_long.x ∈ TB ∧ Cond.code Lib.MathLoose.max_long.x Lib.MathLoose.max_long.code 4 (some .long) ∈ TB := ⟨tb_of 1139 (by decide +kernel) rfl, tb_of 1140 (by decide +kernel) rfl⟩
theorem wm_minL : Cond.static Lib.MathLoose.min_long.x ∈ TB ∧ Cond.code Lib.MathLoose.min_long.x Lib.MathLoose.min_long.code 4 (some .long) ∈ TB := ⟨tb_of 1136 (by decide +kernel) rfl, tb_of 1137 (by decide +kernel) rfl⟩
theorem wm_absL : Cond.static Lib.MathLoose.abs_long.x ∈ TB ∧ Cond.code Lib.MathLoose.abs_long.x Lib.MathLoose.abs_long.code 2 (some .long) ∈ TB := ⟨tb_of 695 (by decide +kernel) rfl, tb_of 696 (by decide +kernel) rfl⟩
theorem wm_copy : Cond.static arraycopyName ∈ TB ∧ Cond.native arraycopyName ∈ TB ∧ Cond.initialized "java/lang/System" ∈ TB := ⟨tb_of 497 (by decide +kernel) rfl, tb_of 498 (by decide +kernel) rfl, tb_of 17 (by decide +kernel) rfl⟩
section MATH
variable {Y : ax_M} {Q : Option Value → ax_W → Prop} {kn : Nat × Nat} {pc idx : Nat} {la la' : List (Nat × Value)} {rest : List Value} {w w1 : ax_W}
theorem ab_mmax {x y : Int32} (d : decode Y.2.1 pc = .ok (.invokestatic idx, 3)) (hlk : Cond.methodLink Y.1.cls idx Lib.Math.max.name ∈ TB) (hr : 1 ≤ Y.2.2.2.2.1.frames ∧ (rest.map fun v => v.category).sum + 13 ≤ Y.2.2.2.2.1.locals) (hk : kn.1 ≤ Y.2.2.2.2.1.cells ∧ kn.2 ≤ Y.2.2.2.2.1.slots) (k : Ab Y Q kn (pc + 3) la (.int (if x < y then y else x) :: rest) w) : Ab Y Q kn pc la (.int y :: .int x :: rest) w := by
  intro p l e R s m args below meth c D ca ad A Qf H locs ls hC hP hl hE
  have hRR : R = Y.2.2.2.2.1 := hC.2.2.2.2.2.2.2.2.1
  have hts := hC.2.2.2.2.2.1
  exact va_mmax hC.1 hC.2.1 (hC.2.2.1.trans hl.1.symm) hC.2.2.2.2.1 (hts _ hlk) (hts _ wm_max.1) (hts _ wi_Math) (hts _ wm_max.2) (by rw [hRR]; exact hr.1) (by rw [hRR, ax_catsum]; exact hr.2) (by rw [hRR]; exact hk.1) (by rw [hRR]; exact hk.2) d (k p l e R s m args below meth c D ca ad A Qf H locs ls hC hP hl hE)
theorem ab_mmin {x y : Int32} (d : decode Y.2.1 pc = .ok (.invokestatic idx, 3)) (hlk : Cond.methodLink Y.1.cls idx Lib.Math.min.name ∈ TB) (hr : 1 ≤ Y.2.2.2.2.1.frames ∧ (rest.map fun v => v.category).sum + 13 ≤ Y.2.2.2.2.1.locals) (hk : kn.1 ≤ Y.2.2.2.2.1.cells ∧ kn.2 ≤ Y.2.2.2.2.1.slots) (k : Ab Y Q kn (pc + 3) la (.int (if y < x then y else x) :: rest) w) : Ab Y Q kn pc la (.int y :: .int x :: rest) w := by
  intro p l e R s m args below meth c D ca ad A Qf H locs ls hC hP hl hE
  have hRR : R = Y.2.2.2.2.1 := hC.2.2.2.2.2.2.2.2.1
  have hts := hC.2.2.2.2.2.1
  exact va_mmin hC.1 hC.2.1 (hC.2.2.1.trans hl.1.symm) hC.2.2.2.2.1 (hts _ hlk) (hts _ wm_min.1) (hts _ wi_Math) (hts _ wm_min.2) (by rw [hRR]; exact hr.1) (by rw [hRR, ax_catsum]; exact hr.2) (by rw [hRR]; exact hk.1) (by rw [hRR]; exact hk.2) d (k p l e R s m args below meth c D ca ad A Qf H locs ls hC hP hl hE)
theorem ab_mabs {x : Int32} (d : decode Y.2.1 pc = .ok (.invokestatic idx, 3)) (hlk : Cond.methodLink Y.1.cls idx Lib.Math.abs.name ∈ TB) (hr : 1 ≤ Y.2.2.2.2.1.frames ∧ (rest.map fun v => v.category).sum + 13 ≤ Y.2.2.2.2.1.locals) (hk : kn.1 ≤ Y.2.2.2.2.1.cells ∧ kn.2 ≤ Y.2.2.2.2.1.slots) (k : Ab Y Q kn (pc + 3) la (.int (if 0 ≤ x then x else 0 - x) :: rest) w) : Ab Y Q kn pc la (.int x :: rest) w := by
  intro p l e R s m args below meth c D ca ad A Qf H locs ls hC hP hl hE
  have hRR : R = Y.2.2.2.2.1 := hC.2.2.2.2.2.2.2.2.1
  have hts := hC.2.2.2.2.2.1
  exact va_mabs hC.1 hC.2.1 (hC.2.2.1.trans hl.1.symm) hC.2.2.2.2.1 (hts _ hlk) (hts _ wm_abs.1) (hts _ wi_Math) (hts _ wm_abs.2) (by rw [hRR]; exact hr.1) (by rw [hRR, ax_catsum]; exact hr.2) (by rw [hRR]; exact hk.1) (by rw [hRR]; exact hk.2) d (k p l e R s m args below meth c D ca ad A Qf H locs ls hC hP hl hE)
theorem ab_mmaxL {x y : Int64} (d : decode Y.2.1 pc = .ok (.invokestatic idx, 3)) (hlk : Cond.methodLink Y.1.cls idx Lib.MathLoose.max_long.x ∈ TB) (hr : 1 ≤ Y.2.2.2.2.1.frames ∧ (rest.map fun v => v.category).sum + 15 ≤ Y.2.2.2.2.1.locals) (hk : kn.1 ≤ Y.2.2.2.2.1.cells ∧ kn.2 ≤ Y.2.2.2.2.1.slots) (k : Ab Y Q kn (pc + 3) la (.long (if y < x then x else y) :: rest) w) : Ab Y Q kn pc la (.long y :: .long x :: rest) w := by
  intro p l e R s m args below meth c D ca ad A Qf H locs ls hC hP hl hE
  have hRR : R = Y.2.2.2.2.1 := hC.2.2.2.2.2.2.2.2.1
  have hts := hC.2.2.2.2.2.1
  exact va_mmax_long hC.1 hC.2.1 (hC.2.2.1.trans hl.1.symm) hC.2.2.2.2.1 (hts _ hlk) (hts _ wm_maxL.1) (hts _ wi_Math) (hts _ wm_maxL.2) (by rw [hRR]; exact hr.1) (by rw [hRR, ax_catsum]; exact hr.2) (by rw [hRR]; exact hk.1) (by rw [hRR]; exact hk.2) d (k p l e R s m args below meth c D ca ad A Qf H locs ls hC hP hl hE)
theorem ab_mminL {x y : Int64} (d : decode Y.2.1 pc = .ok (.invokestatic idx, 3)) (hlk : Cond.methodLink Y.1.cls idx Lib.MathLoose.min_long.x ∈ TB) (hr : 1 ≤ Y.2.2.2.2.1.frames ∧ (rest.map fun v => v.category).sum + 15 ≤ Y.2.2.2.2.1.locals) (hk : kn.1 ≤ Y.2.2.2.2.1.cells ∧ kn.2 ≤ Y.2.2.2.2.1.slots) (k : Ab Y Q kn (pc + 3) la (.long (if y < x then y else x) :: rest) w) : Ab Y Q kn pc la (.long y :: .long x :: rest) w := by
  intro p l e R s m args below meth c D ca ad A Qf H locs ls hC hP hl hE
  have hRR : R = Y.2.2.2.2.1 := hC.2.2.2.2.2.2.2.2.1
  have hts := hC.2.2.2.2.2.1
  exact va_mmin_long hC.1 hC.2.1 (hC.2.2.1.trans hl.1.symm) hC.2.2.2.2.1 (hts _ hlk) (hts _ wm_minL.1) (hts _ wi_Math) (hts _ wm_minL.2) (by rw [hRR]; exact hr.1) (by rw [hRR, ax_catsum]; exact hr.2) (by rw [hRR]; exact hk.1) (by rw [hRR]; exact hk.2) d (k p l e R s m args below meth c D ca ad A Qf H locs ls hC hP hl hE)
theorem ab_mabsL {x : Int64} (d : decode Y.2.1 pc = .ok (.invokestatic idx, 3)) (hlk : Cond.methodLink Y.1.cls idx Lib.MathLoose.abs_long.x ∈ TB) (hr : 1 ≤ Y.2.2.2.2.1.frames ∧ (rest.map fun v => v.category).sum + 13 ≤ Y.2.2.2.2.1.locals) (hk : kn.1 ≤ Y.2.2.2.2.1.cells ∧ kn.2 ≤ Y.2.2.2.2.1.slots) (k : Ab Y Q kn (pc + 3) la (.long (if 0 < x then x else -x) :: rest) w) : Ab Y Q kn pc la (.long x :: rest) w := by
  intro p l e R s m args below meth c D ca ad A Qf H locs ls hC hP hl hE
  have hRR : R = Y.2.2.2.2.1 := hC.2.2.2.2.2.2.2.2.1
  have hts := hC.2.2.2.2.2.1
  exact va_mabs_long hC.1 hC.2.1 (hC.2.2.1.trans hl.1.symm) hC.2.2.2.2.1 (hts _ hlk) (hts _ wm_absL.1) (hts _ wi_Math) (hts _ wm_absL.2) (by rw [hRR]; exact hr.1) (by rw [hRR, ax_catsum]; exact hr.2) (by rw [hRR]; exact hk.1) (by rw [hRR]; exact hk.2) d (k p l e R s m args below meth c D ca ad A Qf H locs ls hC hP hl hE)
theorem ab_copyi {i0 i1 n0 n1 : Nat} {f g : Nat → Int32} {sp dp n : Int32} (d : decode Y.2.1 pc = .ok (.invokestatic idx, 3)) (hlk : Cond.methodLink Y.1.cls idx arraycopyName ∈ TB) (hr : 1 ≤ Y.2.2.2.2.1.frames ∧ (rest.map fun v => v.category).sum + 18 ≤ Y.2.2.2.2.1.locals) (h0 : ax_get w i0 = some (ia n0 f)) (h1 : ax_get w i1 = some (ia n1 g)) (hp : ¬ sp < 0 ∧ ¬ dp < 0 ∧ ¬ n < 0 ∧ sp.toNatClampNeg + n.toNatClampNeg ≤ n0 ∧ dp.toNatClampNeg + n.toNatClampNeg ≤ n1) (hs : ax_set w i1 (ia n1 (va_cpy f g sp.toNatClampNeg dp.toNatClampNeg n.toNatClampNeg)) = w1) (kk : Ab Y Q kn (pc + 3) la rest w1) : Ab Y Q kn pc la (.int n :: .int dp :: .ref i1 :: .int sp :: .ref i0 :: rest) w := by
  intro p l e R s m args below meth c D ca ad A Qf H locs ls hC hP hl hE
  have hRR : R = Y.2.2.2.2.1 := hC.2.2.2.2.2.2.2.2.1
  have hts := hC.2.2.2.2.2.1
  obtain ⟨q0, hq0, -⟩ := ax_at (ca := ca) (ad := ad) h0
  obtain ⟨q1, hq1, hset⟩ := ax_at (ca := ca) (ad := ad) h1
  obtain ⟨p1, p2, p3, p4, p5⟩ := hp
  refine va_copyi hC.1 hC.2.1 (hC.2.2.1.trans hl.1.symm) hC.2.2.2.2.1 (hts _ hlk) (hts _ wm_copy.2.1) (hts _ wm_copy.1) (hts _ wm_copy.2.2) hC.2.2.2.2.2.2.2.2.2.1 hP.1 hP.2.1 hP.2.2 q0 q1 0 0 (ty := .int) hq0 hq1 rfl rfl rfl p1 p2 p3 p4 p5 (fun _ _ => rfl) (by rw [hRR]; exact hr.1) (by rw [hRR, ax_catsum]; exact hr.2) d (fun H1 locs1 hP1 hD1 hS1 => ?_)
  have e1 : ax_w ca ad w1 = (ax_w ca ad w).set q1 (ad i1, .inl (ca 0, n1, .inl (va_cpy f g sp.toNatClampNeg dp.toNatClampNeg n.toNatClampNeg))) := by rw [← hs]; exact hset _
  rw [← e1] at hP1 hD1
  exact kk p l e R s m args below meth c D ca ad A Qf H1 locs1 ls hC ⟨hP1, hD1, hS1⟩ hl (ax_Zset hs hE)
end MATH
theorem ab_topi {Y : ax_M} {Q : Option Value → ax_W → Prop} {kn : Nat × Nat} {pc : Nat} {la : List (Nat × Value)} {rest : List Value} {w : ax_W} {x v : Int32} (h : x = v) (k : Ab Y Q kn pc la (.int v :: rest) w) : Ab Y Q kn pc la (.int x :: rest) w := by rw [h]; exact k
theorem ab_topl {Y : ax_M} {Q : Option Value → ax_W → Prop} {kn : Nat × Nat} {pc : Nat} {la : List (Nat × Value)} {rest : List Value} {w : ax_W} {x v : Int64} (h : x = v) (k : Ab Y Q kn pc la (.long v :: rest) w) : Ab Y Q kn pc la (.long x :: rest) w := by rw [h]; exact k
