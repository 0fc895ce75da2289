/-! RULES of making: new, newarray, constructors. The first list grows while the second is empty; then the second. -/
def ax_nv (j : Nat) : Value → Bool
  | .ref i => i != j
  | _ => true
def ax_nE (j : Nat) : ax_E → Bool
  | .inr (.inr (_, fs)) => fs.all (ax_nv j)
  | _ => true
def ax_up (ad : Nat → Nat) (j q : Nat) : Nat → Nat := fun i => if i = j then q else ad i
theorem ax_v_up {ad : Nat → Nat} {j q : Nat} {v : Value} (h : ax_nv j v = true) : ax_v (ax_up ad j q) v = ax_v ad v := by
  cases v with
  | ref i =>
    have h1 : i ≠ j := by simpa [ax_nv] using h
    show Value.ref (if i = j then q else ad i) = _
    rw [if_neg h1]; rfl
  | _ => rfl
theorem ax_vs_up {ad : Nat → Nat} {j q : Nat} {vs : List Value} (h : vs.all (ax_nv j) = true) : vs.map (ax_v (ax_up ad j q)) = vs.map (ax_v ad) :=
  List.map_congr_left fun v hv => ax_v_up (List.all_eq_true.mp h v hv)
theorem ax_e_up {ca : Nat → ClassId} {ad : Nat → Nat} {j q : Nat} {x : ax_E} (h : ax_nE j x = true) : ax_e ca (ax_up ad j q) x = ax_e ca ad x := by
  rcases x with ⟨t, n, f⟩ | ⟨n, f⟩ | ⟨c, fs⟩
  · rfl
  · rfl
  · show Sum.inr (c, fs.map (ax_v (ax_up ad j q))) = Sum.inr (c, fs.map (ax_v ad))
    rw [ax_vs_up h]
theorem ax_x_up {ca : Nat → ClassId} {ad : Nat → Nat} {j q : Nat} : ∀ (o : Nat) (xs : List ax_E), xs.all (ax_nE j) = true → (∀ k, k < xs.length → o + k ≠ j) → ax_x ca (ax_up ad j q) o xs = ax_x ca ad o xs
  | _, [], _, _ => rfl
  | o, x :: xs, h, hk => by
    simp only [List.all_cons, Bool.and_eq_true] at h
    have h0 : o ≠ j := by simpa using hk 0 (by simp)
    show (ax_up ad j q o, _) :: _ = (ad o, _) :: _
    rw [ax_e_up h.1, ax_x_up (o + 1) xs h.2 (fun k hk2 => by have := hk (k + 1) (by simpa using hk2); omega)]
    show ((if o = j then q else ad o), _) :: _ = _
    rw [if_neg h0]
theorem ax_x_app {ca : Nat → ClassId} {ad : Nat → Nat} (y : ax_E) : ∀ (o : Nat) (xs : List ax_E), ax_x ca ad o (xs ++ [y]) = ax_x ca ad o xs ++ [(ad (o + xs.length), ax_e ca ad y)]
  | _, [] => rfl
  | o, x :: xs => by
    show (ad o, _) :: ax_x ca ad (o + 1) (xs ++ [y]) = (ad o, _) :: (ax_x ca ad (o + 1) xs ++ _)
    rw [ax_x_app y (o + 1) xs, show o + 1 + xs.length = o + (x :: xs).length by simp; omega]
/-- where the next cell goes: its place, and the world with it -/
def ax_nxt (w : ax_W) : Nat := if w.1.length < 33 then w.1.length else 1000 + w.2.length
def ax_add (w : ax_W) (x : ax_E) : ax_W := if w.1.length < 33 then (w.1 ++ [x], w.2) else (w.1, w.2 ++ [x])
def ax_okn (la : List (Nat × Value)) (st : List Value) (w : ax_W) (x : ax_E) : Bool :=
  (decide (w.1.length < 33) && decide (w.2.length = 0) || decide (w.1.length = 33) && decide (w.2.length < 900)) && la.all (fun q => ax_nv (ax_nxt w) q.2) && st.all (ax_nv (ax_nxt w)) && w.1.all (ax_nE (ax_nxt w)) && w.2.all (ax_nE (ax_nxt w)) && ax_nE (ax_nxt w) x
theorem ax_w_add {ca : Nat → ClassId} {ad : Nat → Nat} {q : Nat} {la : List (Nat × Value)} {st : List Value} {w : ax_W} {x : ax_E} (h : ax_okn la st w x = true) : ax_w ca (ax_up ad (ax_nxt w) q) (ax_add w x) = ax_w ca ad w ++ [(q, ax_e ca ad x)] := by
  unfold ax_okn at h
  simp only [Bool.and_eq_true, Bool.or_eq_true, decide_eq_true_eq] at h
  obtain ⟨⟨⟨⟨⟨h0, -⟩, -⟩, h3⟩, h4⟩, h5⟩ := h
  have hq : ax_up ad (ax_nxt w) q (ax_nxt w) = q := by unfold ax_up; rw [if_pos rfl]
  rcases h0 with ⟨h1, h2⟩ | ⟨h1, h2⟩
  · have hw2 : w.2 = [] := List.eq_nil_of_length_eq_zero h2
    have hn : ax_nxt w = w.1.length := by unfold ax_nxt; rw [if_pos h1]
    have ha : ax_add w x = (w.1 ++ [x], w.2) := by unfold ax_add; rw [if_pos h1]
    rw [ha]
    unfold ax_w
    show ax_x ca _ 0 (w.1 ++ [x]) ++ ax_x ca _ 1000 w.2 = _
    rw [hw2]
    show ax_x ca _ 0 (w.1 ++ [x]) ++ [] = (ax_x ca ad 0 w.1 ++ []) ++ _
    rw [List.append_nil, List.append_nil, ax_x_app, ax_x_up 0 w.1 h3 (fun k hk => by rw [hn]; omega), ax_e_up h5, Nat.zero_add, ← hn, hq]
  · have hn : ax_nxt w = 1000 + w.2.length := by unfold ax_nxt; rw [if_neg (by omega)]
    have ha : ax_add w x = (w.1, w.2 ++ [x]) := by unfold ax_add; rw [if_neg (by omega)]
    rw [ha]
    unfold ax_w
    show ax_x ca _ 0 w.1 ++ ax_x ca _ 1000 (w.2 ++ [x]) = _
    rw [ax_x_app, ax_x_up 0 w.1 h3 (fun k hk => by rw [hn]; omega), ax_x_up 1000 w.2 h4 (fun k hk => by rw [hn]; omega), ax_e_up h5, ← hn, hq, List.append_assoc]
theorem ax_add_len {la : List (Nat × Value)} {st : List Value} {w : ax_W} {x : ax_E} (h : ax_okn la st w x = true) : w.1.length ≤ (ax_add w x).1.length ∧ w.2.length ≤ (ax_add w x).2.length ∧ ∀ (ad : Nat → Nat) (q i : Nat), ax_old w.1.length w.2.length i → ax_up ad (ax_nxt w) q i = ad i := by
  unfold ax_okn at h
  simp only [Bool.and_eq_true, Bool.or_eq_true, decide_eq_true_eq] at h
  obtain ⟨⟨⟨⟨⟨h0, -⟩, -⟩, -⟩, -⟩, -⟩ := h
  refine ⟨?_, ?_, fun ad q i hi => ?_⟩
  · unfold ax_add; split <;> simp
  · unfold ax_add; split <;> simp
  · unfold ax_up ax_nxt
    rw [if_neg]
    unfold ax_old at hi
    split <;> omega
theorem ax_C.moved {Y : ax_M} {p : Program} {l : Launch} {R : Room} {s : State} {m : MethodId} {args : Array Value} {meth : Method} {c : Code} {D : va_G} {ca : Nat → ClassId} {ad ad1 : Nat → Nat} {A : Nat → Prop} (h : ax_C Y p l R s m args meth c D ca ad A) (he : ∀ i, 2000 ≤ i → ad1 i = ad i) : ax_C Y p l R s m args meth c D ca ad1 A := by
  obtain ⟨h1, h2, h3, h4, h5, h6, h7, h8, h9, h10, h11, h12, h13, h14⟩ := h
  exact ⟨h1, h2, h3, h4, h5, h6, h7, h8, h9, h10, h11, h12.map he, h13, fun L xs hX => by rw [he 5000 (by omega)]; exact h14 L xs hX⟩
section NEW
variable {Y Y1 : ax_M} {Q Q1 : Option Value → ax_W → Prop} {kn : Nat × Nat} {pc idx : Nat} {la la' : List (Nat × Value)} {rest : List Value} {w w1 : ax_W}
theorem w_oi : Cond.instanceMethod Lib.objectInit ∈ TB ∧ Cond.code Lib.objectInit ⟨#[0xb1]⟩ 1 none ∈ TB := ⟨tb_of 33 (by decide +kernel) rfl, tb_of 34 (by decide +kernel) rfl⟩
theorem ab_oinit {i : Nat} (d : decode Y.2.1 pc = .ok (.invokespecial idx, 3)) (hlk : Cond.methodLink Y.1.cls idx Lib.objectInit ∈ TB) (hr : 1 ≤ Y.2.2.2.2.1.frames ∧ (rest.map fun v => v.category).sum + 12 ≤ Y.2.2.2.2.1.locals) (k : Ab Y Q kn (pc + 3) la rest w) : Ab Y Q kn pc la (.ref i :: rest) w := by
  intro p l e R s m args below meth c D ca ad A Qf H locs ls hC hP hl hE
  have hRR : R = Y.2.2.2.2.1 := hC.2.2.2.2.2.2.2.2.1
  have hts := hC.2.2.2.2.2.1
  refine W.objInit hC.1 hC.2.1 hC.2.2.2.2.1 (hts _ hlk) (hts _ w_oi.1) (hts _ w_oi.2) rfl (by rw [hC.2.2.1]; exact hl.1) (a := ad i) (rest := rest.map (ax_v ad)) rfl d (by rw [hRR]; exact hr.1) (by rw [hRR, ax_catsum]; show 2 * 0 + _ + 12 ≤ _; have := hr.2; omega) ?_
  exact k p l e R s m args below meth c D ca ad A Qf H locs ls hC hP hl hE
theorem ax_lamap {ad : Nat → Nat} {j q : Nat} {la : List (Nat × Value)} (h : la.all (fun x => ax_nv j x.2) = true) : (la.map fun x => (x.1, ax_v (ax_up ad j q) x.2)) = la.map fun x => (x.1, ax_v ad x.2) :=
  List.map_congr_left fun x hx => by rw [ax_v_up (List.all_eq_true.mp h x hx)]
/-- behind a new cell -/
theorem ax_grown {x : ax_E} {p : Program} {l : Launch} {e : Env} {R : Room} {s : State} {m : MethodId} {args : Array Value} {below : List Frame} {meth : Method} {c : Code} {D : va_G} {ca : Nat → ClassId} {ad : Nat → Nat} {A : Nat → Prop} {Qf : State → Prop} {H : Heap} {locs : List Loc} {ls : Array Slot} {kn1 : Nat × Nat} {pc1 q : Nat} (hal : Y.2.2.2.2.2.1 = true) (hok : ax_okn la rest w x = true) (hs : ax_add w x = w1) (hC : ax_C Y p l R s m args meth c D ca ad A) (hl : lv_has ls Y.2.2.1 (la.map fun z => (z.1, ax_v ad z.2))) (hE : ax_Z Y Q p l e R s m args below meth c D ca ad A Qf w.1.length w.2.length)
    (hP1 : va_P D ax_cl (ax_w ca ad w ++ [(q, ax_e ca ad x)]) H) (hD1 : va_D A (ax_w ca ad w ++ [(q, ax_e ca ad x)])) (hS1 : va_S A s.heap H locs) (k : Ab Y Q kn1 pc1 la (.ref (ax_nxt w) :: rest) w1) : W p l e R s m args below meth c H locs kn1.1 kn1.2 Qf (F0 m pc1 ls (.ref q :: rest.map (ax_v ad))) := by
  obtain ⟨g1, g2, g3⟩ := ax_add_len hok
  have hw := ax_w_add (ca := ca) (ad := ad) (q := q) hok
  rw [hs] at hw g1 g2
  rw [← hw] at hP1 hD1
  have hn : ax_nxt w < 2000 := by
    unfold ax_okn at hok
    simp only [Bool.and_eq_true, Bool.or_eq_true, decide_eq_true_eq] at hok
    obtain ⟨⟨⟨⟨⟨h0, -⟩, -⟩, -⟩, -⟩, -⟩ := hok
    unfold ax_nxt
    split <;> omega
  have hok2 := hok
  unfold ax_okn at hok2
  simp only [Bool.and_eq_true] at hok2
  obtain ⟨⟨⟨⟨⟨-, hla⟩, hst⟩, -⟩, -⟩, -⟩ := hok2
  have hC1 : ax_C Y p l R s m args meth c D ca (ax_up ad (ax_nxt w) q) A := hC.moved (fun i hi => by unfold ax_up; rw [if_neg (by omega)])
  have h9 := k p l e R s m args below meth c D ca (ax_up ad (ax_nxt w) q) A Qf H locs ls hC1 ⟨hP1, hD1, hS1⟩ (by rw [ax_lamap hla]; exact hl) (hE.moved g1 g2 hal (g3 ad q))
  have e1 : (Value.ref (ax_nxt w) :: rest).map (ax_v (ax_up ad (ax_nxt w) q)) = .ref q :: rest.map (ax_v ad) := by
    rw [List.map_cons, ax_vs_up hst]
    show Value.ref (ax_up ad (ax_nxt w) q (ax_nxt w)) :: _ = _
    unfold ax_up
    rw [if_pos rfl]
  rw [e1] at h9
  exact h9
theorem ab_new {ci N : Nat} {C : String} {T : u_T} {tys : Nat → FieldType} {fs : List Value} (d : decode Y.2.1 pc = .ok (.new idx, 3)) (hcl : ax_cl[ci]? = some (C, T, N)) (hw : Cond.classLink Y.1.cls idx C ∈ TB ∧ Cond.instantiable C N ∈ TB ∧ Cond.initialized C ∈ TB ∧ ∀ x ∈ u_ws C T N, x ∈ TB) (hty : ∀ k, k < N → parseFieldDescriptor (T k).2.2.1 = some (tys k)) (hfs : ∀ j, j < N → defaultValue (tys j) = vp_V fs j) (hnf : ∀ ad, fs.map (ax_v ad) = fs) (hal : Y.2.2.2.2.2.1 = true) (hk : kn.1 + 1 ≤ Y.2.2.2.2.1.cells ∧ kn.2 + N ≤ Y.2.2.2.2.1.slots) (hok : ax_okn la rest w (ob ci fs) = true) (hs : ax_add w (ob ci fs) = w1) (k : Ab Y Q (kn.1 + 1, kn.2 + N) (pc + 3) la (.ref (ax_nxt w) :: rest) w1) : Ab Y Q kn pc la rest w := by
  intro p l e R s m args below meth c D ca ad A Qf H locs ls hC hP hl hE
  have hRR : R = Y.2.2.2.2.1 := hC.2.2.2.2.2.2.2.2.1
  have hts := hC.2.2.2.2.2.1
  refine va_new (ci := ci) (fs := fs) hC.1 hC.2.1 hts hw.2.2.2 tys hty hC.2.2.2.2.1 (hts _ hw.1) (hts _ hw.2.1) (hts _ hw.2.2.1) hC.2.2.2.2.2.2.2.2.2.1 hP.1 hP.2.1 hP.2.2 hC.2.2.2.2.2.2.2.2.2.2.1 hcl hfs (by rw [hRR]; exact hk.1) (by rw [hRR]; exact hk.2) d (fun q H1 hP1 hD1 hS1 => ?_)
  have e1 : ax_e ca ad (ob ci fs) = .inr (ci, fs) := by show Sum.inr (ci, fs.map (ax_v ad)) = _; rw [hnf]
  rw [← e1] at hP1 hD1
  exact ax_grown (kn1 := (kn.1 + 1, kn.2 + N)) hal hok hs hC hl hE hP1 hD1 hS1 k
theorem ax_arrid {D : va_G} {U : State} {cA cB : ClassId} {ty : FieldType} (ht : ∀ C, ty ≠ .object C) (h1 : va_RA U cA ty) (h2 : va_RA U cB ty) : cA = cB := by
  cases ty with
  | object C => exact absurd rfl (ht C)
  | _ => exact Option.some.inj (h1.symm.trans h2)
theorem ab_newi {n : Int32} {N : Nat} (d : decode Y.2.1 pc = .ok (.newarray .int, 2)) (hn : ¬ n < 0 ∧ n.toNatClampNeg = N ∧ N * 4 ≤ 536870912) (hw : Cond.arrayClass .int ∈ TB) (hal : Y.2.2.2.2.2.1 = true) (hk : kn.1 + 1 ≤ Y.2.2.2.2.1.cells ∧ kn.2 + N ≤ Y.2.2.2.2.1.slots) (hok : ax_okn la rest w (ia N (fun _ => 0)) = true) (hs : ax_add w (ia N (fun _ => 0)) = w1) (k : Ab Y Q (kn.1 + 1, kn.2 + N) (pc + 2) la (.ref (ax_nxt w) :: rest) w1) : Ab Y Q kn pc la (.int n :: rest) w := by
  intro p l e R s m args below meth c D ca ad A Qf H locs ls hC hP hl hE
  have hRR : R = Y.2.2.2.2.1 := hC.2.2.2.2.2.2.2.2.1
  have hts := hC.2.2.2.2.2.1
  have hK := hC.2.2.2.2.2.2.2.2.2.1
  refine va_newa (atype := .int) (a0 := (N, .inl (fun _ => 0))) hC.1 hC.2.1 (hts _ hw) rfl hK hP.1 hP.2.1 hP.2.2 hC.2.2.2.2.2.2.2.2.2.2.1 (fun _ => rfl) hn.1 hn.2.1 hn.2.2 (by rw [hRR]; exact hk.1) (by rw [hRR]; exact hk.2) d (fun q cA H1 hK1 hP1 hD1 hS1 => ?_)
  have e0 : cA = ca 0 := ax_arrid (D := D) (fun _ h => by cases h) (hK1.2 3 (cA, .int) rfl).2 (hK.2 0 _ rfl).2
  subst e0
  exact ax_grown (x := ia N (fun _ => 0)) (kn1 := (kn.1 + 1, kn.2 + N)) hal hok hs hC hl hE hP1 hD1 hS1 k
theorem ab_newb {n : Int32} {N : Nat} (d : decode Y.2.1 pc = .ok (.newarray .byte, 2)) (hn : ¬ n < 0 ∧ n.toNatClampNeg = N ∧ N * 1 ≤ 536870912) (hw : Cond.arrayClass .byte ∈ TB) (hal : Y.2.2.2.2.2.1 = true) (hk : kn.1 + 1 ≤ Y.2.2.2.2.1.cells ∧ kn.2 + N ≤ Y.2.2.2.2.1.slots) (hok : ax_okn la rest w (ba N (fun _ => 0)) = true) (hs : ax_add w (ba N (fun _ => 0)) = w1) (k : Ab Y Q (kn.1 + 1, kn.2 + N) (pc + 2) la (.ref (ax_nxt w) :: rest) w1) : Ab Y Q kn pc la (.int n :: rest) w := by
  intro p l e R s m args below meth c D ca ad A Qf H locs ls hC hP hl hE
  have hRR : R = Y.2.2.2.2.1 := hC.2.2.2.2.2.2.2.2.1
  have hts := hC.2.2.2.2.2.1
  have hK := hC.2.2.2.2.2.2.2.2.2.1
  refine va_newa (atype := .byte) (a0 := (N, .inl (fun _ => 0))) hC.1 hC.2.1 (hts _ hw) rfl hK hP.1 hP.2.1 hP.2.2 hC.2.2.2.2.2.2.2.2.2.2.1 (fun _ => rfl) hn.1 hn.2.1 hn.2.2 (by rw [hRR]; exact hk.1) (by rw [hRR]; exact hk.2) d (fun q cA H1 hK1 hP1 hD1 hS1 => ?_)
  have e0 : cA = ca 1 := ax_arrid (D := D) (fun _ h => by cases h) (hK1.2 3 (cA, .byte) rfl).2 (hK.2 1 _ rfl).2
  subst e0
  exact ax_grown (x := ba N (fun _ => 0)) (kn1 := (kn.1 + 1, kn.2 + N)) hal hok hs hC hl hE hP1 hD1 hS1 k
theorem ab_newl {n : Int32} {N : Nat} (d : decode Y.2.1 pc = .ok (.newarray .long, 2)) (hn : ¬ n < 0 ∧ n.toNatClampNeg = N ∧ N * 8 ≤ 536870912) (hw : Cond.arrayClass .long ∈ TB) (hal : Y.2.2.2.2.2.1 = true) (hk : kn.1 + 1 ≤ Y.2.2.2.2.1.cells ∧ kn.2 + N ≤ Y.2.2.2.2.1.slots) (hok : ax_okn la rest w (ja N (fun _ => 0)) = true) (hs : ax_add w (ja N (fun _ => 0)) = w1) (k : Ab Y Q (kn.1 + 1, kn.2 + N) (pc + 2) la (.ref (ax_nxt w) :: rest) w1) : Ab Y Q kn pc la (.int n :: rest) w := by
  intro p l e R s m args below meth c D ca ad A Qf H locs ls hC hP hl hE
  have hRR : R = Y.2.2.2.2.1 := hC.2.2.2.2.2.2.2.2.1
  have hts := hC.2.2.2.2.2.1
  have hK := hC.2.2.2.2.2.2.2.2.2.1
  refine va_newa (atype := .long) (a0 := (N, .inr (.inl (fun _ => 0)))) hC.1 hC.2.1 (hts _ hw) rfl hK hP.1 hP.2.1 hP.2.2 hC.2.2.2.2.2.2.2.2.2.2.1 (fun _ => rfl) hn.1 hn.2.1 hn.2.2 (by rw [hRR]; exact hk.1) (by rw [hRR]; exact hk.2) d (fun q cA H1 hK1 hP1 hD1 hS1 => ?_)
  have e0 : cA = ca 2 := ax_arrid (D := D) (fun _ h => by cases h) (hK1.2 3 (cA, .long) rfl).2 (hK.2 2 _ rfl).2
  subst e0
  exact ax_grown (x := ja N (fun _ => 0)) (kn1 := (kn.1 + 1, kn.2 + N)) hal hok hs hC hl hE hP1 hD1 hS1 k
end NEW
/-! calls of constructors -/
def ax_ov (n1 n2 : Nat) : Value → Bool
  | .ref i => decide (i < n1) || (decide (1000 ≤ i) && decide (i < 1000 + n2)) || decide (2000 ≤ i)
  | _ => true
theorem ax_v_ov {ad ad1 : Nat → Nat} {n1 n2 : Nat} {v : Value} (hg : ∀ i, ax_old n1 n2 i → ad1 i = ad i) (h : ax_ov n1 n2 v = true) : ax_v ad1 v = ax_v ad v := by
  cases v with
  | ref i =>
    show Value.ref (ad1 i) = Value.ref (ad i)
    rw [hg i]
    simp only [ax_ov, Bool.or_eq_true, Bool.and_eq_true, decide_eq_true_eq] at h
    rcases h with (h | h) | h
    · exact Or.inl h
    · exact Or.inr (Or.inl h)
    · exact Or.inr (Or.inr h)
  | _ => rfl
/-- what the tables say of a constructor; it has no arguments -/
def ax_mi (Y : ax_M) : Prop := Cond.instanceMethod Y.1 ∈ TB ∧ Cond.initialized Y.1.cls ∈ TB ∧ Cond.code Y.1 Y.2.1 Y.2.2.1 none ∈ TB ∧ (Y.1.cls ≠ "java/lang/invoke/MethodHandle" ∧ Y.1.cls ≠ "java/lang/invoke/VarHandle" ∧ (parseMethodDescriptor Y.1.desc).map (fun d => d.parameters.length) = some 0) ∧ Y.1.name = "<init>" ∧ Y.2.2.2.1 = none
section CALLN
variable {Y Y1 : ax_M} {Q Q1 : Option Value → ax_W → Prop} {kn : Nat × Nat} {pc idx : Nat} {la la' : List (Nat × Value)} {rest : List Value} {w w1 : ax_W}
theorem ax_backN {p : Program} {l : Launch} {e : Env} {R : Room} {s : State} {m : MethodId} {args : Array Value} {below : List Frame} {meth : Method} {c : Code} {D : va_G} {ca : Nat → ClassId} {ad : Nat → Nat} {A : Nat → Prop} {Qf : State → Prop} {H : Heap} {locs : List Loc} {ls : Array Slot} {a : Array Value} {st0 : List Value} {mc ms : Nat} (hal : Y.2.2.2.2.2.1 = true) (hC : ax_C Y p l R s m args meth c D ca ad A) (hP : ax_P D ca ad A w H s.heap locs) (hl : lv_has ls Y.2.2.1 (la.map fun q => (q.1, ax_v ad q.2))) (hE : ax_Z Y Q p l e R s m args below meth c D ca ad A Qf w.1.length w.2.length)
    (hla : la.all (fun q => ax_ov w.1.length w.2.length q.2) = true) (hst : rest.all (ax_ov w.1.length w.2.length) = true)
    (hr : va_Run p l e R s m args below meth c H locs kn.1 kn.2 mc ms (F0 m pc ls st0) (rest.map (ax_v ad)) (ax_Qc true D ca ad w H.size (fun r w' => r = none ∧ Q1 r w') a) (va_A (ax_w ca ad w) H.size))
    (kk : ∀ (w' : ax_W), Q1 none w' → Ab Y Q (kn.1 + mc, kn.2 + ms) (pc + 3) la rest w') : W p l e R s m args below meth c H locs kn.1 kn.2 Qf (F0 m pc ls st0) := by
  intro T hT X
  obtain ⟨v, st₀, t, T', L, h0, X', hL, e1, e2, ⟨⟨r, w', ad', hv, ⟨hr0, hq⟩, hag, g1, g2, hP1, hD1⟩, hz, hkp⟩, stp⟩ := hr T hT X
  have hag : ∀ i, ax_old w.1.length w.2.length i → ad' i = ad i := hag
  subst hr0
  cases hv
  rw [h0] at hz hkp
  have hfr := ax_free hP hC.2.2.2.2.2.2.2.2.2.2.1
  have hS1 : va_S A s.heap T'.heap (locs ++ L) := ⟨Nat.le_trans hP.2.2.1 (by rw [e1]; exact hz), fun q h1 h2 => by
      rw [e1, hkp q (Nat.lt_of_lt_of_le h1 hP.2.2.1) (fun z => h2 (hfr q z))]
      exact hP.2.2.2.1 q h1 h2, fun q hq2 => by
      rcases List.mem_append.mp hq2 with h | h
      · exact hP.2.2.2.2 q h
      · exact hfr _ (hL q h)⟩
  have e4 : (la.map fun q => (q.1, ax_v ad' q.2)) = la.map fun q => (q.1, ax_v ad q.2) := List.map_congr_left fun x hx => by rw [ax_v_ov hag (List.all_eq_true.mp hla x hx)]
  have e5 : rest.map (ax_v ad') = rest.map (ax_v ad) := List.map_congr_left fun x hx => ax_v_ov hag (List.all_eq_true.mp hst x hx)
  obtain ⟨t2, a1, b1⟩ := kk w' hq p l e R s m args below meth c D ca ad' A Qf T'.heap (locs ++ L) ls (hC.moved (fun i hi => hag i (Or.inr (Or.inr hi)))) ⟨by rw [e1]; exact hP1, hD1.weaken (fun k q _ h => hfr q.1 h), hS1⟩ (by rw [e4]; exact hl) (hE.moved g1 g2 hal hag) T' rfl X'
  refine ⟨t2, stp t2 ?_, b1⟩
  rw [e5] at a1
  exact a1
theorem ab_callN {b j : Nat} (d : decode Y.2.1 pc = .ok (.invokespecial idx, 3)) (hm : ax_mi Y1) (hown : Y.1.cls = "CrankBranches") (hj : ax_nw[j]? = some (idx, Y1.1)) (hal : Y.2.2.2.2.2.1 = true ∧ Y1.2.2.2.2.2.1 = true) (hr : Y1.2.2.2.2.1.frames + 1 ≤ Y.2.2.2.2.1.frames ∧ 8 + (Y1.2.2.1 + 11) + Y1.2.2.2.2.1.locals ≤ Y.2.2.2.2.1.locals) (hk : kn.1 + Y1.2.2.2.2.1.cells ≤ Y.2.2.2.2.1.cells ∧ kn.2 + Y1.2.2.2.2.1.slots ≤ Y.2.2.2.2.1.slots) (hcat : (rest.map fun v => v.category).sum ≤ 8) (hla : la.all (fun q => ax_ov w.1.length w.2.length q.2) = true) (hst : rest.all (ax_ov w.1.length w.2.length) = true) (hct : Ct Y1 [.ref b] w (fun r w' => r = none ∧ Q1 r w')) (kk : ∀ (w' : ax_W), Q1 none w' → Ab Y Q (kn.1 + Y1.2.2.2.2.1.cells, kn.2 + Y1.2.2.2.2.1.slots) (pc + 3) la rest w') : Ab Y Q kn pc la (.ref b :: rest) w := by
  intro p l e R s m args below meth c D ca ad A Qf H locs ls hC hP hl hE
  obtain ⟨m1, m3, m4, m5, m6, m7⟩ := hm
  have hRR : R = Y.2.2.2.2.1 := hC.2.2.2.2.2.2.2.2.1
  have hMet := hct l hC.2.2.2.2.2.2.2.2.2.2.2.2.1 D ca ad H.size
  rw [hal.2, m7] at hMet
  have hN : va_Nw (.methodLinkNest Y.1.cls idx Y1.1 "CrankBranches") s := by rw [hown]; exact hC.2.2.2.2.2.2.2.2.2.2.2.1.2.2.2.2.2 j _ hj
  have hts := hC.2.2.2.2.2.1
  refine ax_backN hal.1 hC hP hl hE hla hst (va_runIN (b := ad b) (As := []) (n := 0) ⟨hC.1, hC.2.1, hC.2.2.1, hC.2.2.2.2.1, hts⟩ hMet ⟨va_cnB 0 hts (tb_goodIn (fun x hx => by rcases List.mem_cons.mp hx with q | q; (rw [q]; exact m4); exact q)) rfl rfl rfl hN (hts _ m3) m5 (by rw [hRR]; exact hr), m6, hts _ m1⟩ ⟨ax_blind, ax_pre hC hP [.ref b]⟩ rfl rfl hl.1 rfl (by rw [ax_catsum]; exact lv_room hcat) d (by rw [hRR]; exact hk)) kk
theorem ab_callI {b : Nat} (d : decode Y.2.1 pc = .ok (.invokespecial idx, 3)) (hm : ax_mi Y1) (hlk : Cond.methodLink Y.1.cls idx Y1.1 ∈ TB) (hal : Y.2.2.2.2.2.1 = true ∧ Y1.2.2.2.2.2.1 = true) (hr : Y1.2.2.2.2.1.frames + 1 ≤ Y.2.2.2.2.1.frames ∧ 8 + (Y1.2.2.1 + 11) + Y1.2.2.2.2.1.locals ≤ Y.2.2.2.2.1.locals) (hk : kn.1 + Y1.2.2.2.2.1.cells ≤ Y.2.2.2.2.1.cells ∧ kn.2 + Y1.2.2.2.2.1.slots ≤ Y.2.2.2.2.1.slots) (hcat : (rest.map fun v => v.category).sum ≤ 8) (hla : la.all (fun q => ax_ov w.1.length w.2.length q.2) = true) (hst : rest.all (ax_ov w.1.length w.2.length) = true) (hct : Ct Y1 [.ref b] w (fun r w' => r = none ∧ Q1 r w')) (kk : ∀ (w' : ax_W), Q1 none w' → Ab Y Q (kn.1 + Y1.2.2.2.2.1.cells, kn.2 + Y1.2.2.2.2.1.slots) (pc + 3) la rest w') : Ab Y Q kn pc la (.ref b :: rest) w := by
  intro p l e R s m args below meth c D ca ad A Qf H locs ls hC hP hl hE
  obtain ⟨m1, m3, m4, m5, m6, m7⟩ := hm
  have hRR : R = Y.2.2.2.2.1 := hC.2.2.2.2.2.2.2.2.1
  have hMet := hct l hC.2.2.2.2.2.2.2.2.2.2.2.2.1 D ca ad H.size
  rw [hal.2, m7] at hMet
  have hts := hC.2.2.2.2.2.1
  refine ax_backN hal.1 hC hP hl hE hla hst (va_runI (b := ad b) (As := []) (n := 0) ⟨hC.1, hC.2.1, hC.2.2.1, hC.2.2.2.2.1, hts⟩ hMet (cwI 0 hts (tb_goodIn (fun x hx => by rcases List.mem_cons.mp hx with q | q; (rw [q]; exact m4); exact q)) rfl rfl rfl (hts _ m3) (hts _ hlk) (hts _ m1) m6 m5 (by rw [hRR]; exact hr)) ⟨ax_blind, ax_pre hC hP [.ref b]⟩ rfl rfl hl.1 rfl (by rw [ax_catsum]; exact lv_room hcat) d (by rw [hRR]; exact hk)) kk
end CALLN
