/-! THE JUDGEMENT: from a place in a method's code, with these locals, this stack and this world, the machine comes to a return, with an answer and a world of which Q holds. -/
def ax_old (n1 n2 i : Nat) : Prop := i < n1 ∨ (1000 ≤ i ∧ i < 1000 + n2) ∨ 2000 ≤ i
def ax_ag (al : Bool) (n1 n2 : Nat) (ad ad' : Nat → Nat) : Prop := match al with
  | true => ∀ i, ax_old n1 n2 i → ad' i = ad i
  | false => ad' = ad
theorem ax_ag.rf {al : Bool} {n1 n2 : Nat} {ad : Nat → Nat} : ax_ag al n1 n2 ad ad := by
  cases al
  · rfl
  · exact fun _ _ => rfl
/-- what holds in a method's body from its entry on -/
def ax_C (Y : ax_M) (p : Program) (l : Launch) (R : Room) (s : State) (m : MethodId) (args : Array Value) (meth : Method) (c : Code) (D : va_G) (ca : Nat → ClassId) (ad : Nat → Nat) (A : Nat → Prop) : Prop :=
  p.tables.exec = Jvm.exec ∧ c.code = Y.2.1 ∧ c.maxLocals = Y.2.2.1 ∧ meth.sig.returnType = Y.2.2.2.1 ∧ s.vm.findClass Y.1.cls = some m.cls ∧ (∀ w ∈ TB, w.before args s = true) ∧ meth.locks = false ∧ meth.name = Y.1.name ∧ R = Y.2.2.2.2.1 ∧ va_K D ax_cl (ax_t ca) s ∧ (∀ q, s.heap.size ≤ q → A q) ∧ ax_RO ad A s s.heap ∧ l.flags = flags0 ∧ ∀ L xs, Y.2.2.2.2.2.2 = some (L, xs) → va_X (ad 5000) L xs s s.heap ∧ ad 5000 < s.heap.size ∧ ¬ A (ad 5000)
def ax_P (D : va_G) (ca : Nat → ClassId) (ad : Nat → Nat) (A : Nat → Prop) (w : ax_W) (H H0 : Heap) (locs : List Loc) : Prop :=
  va_P D ax_cl (ax_w ca ad w) H ∧ va_D A (ax_w ca ad w) ∧ va_S A H0 H locs
/-- a return instruction, what is on the stack there, the answer -/
def ax_ret (Y : ax_M) (pc : Nat) (st : List Value) (r : Option Value) : Prop :=
  (∃ (v : Int32) (ty : FieldType), decode Y.2.1 pc = .ok (.ireturn, 1) ∧ st = [.int v] ∧ r = some (.int v) ∧ Y.2.2.2.1 = some ty ∧ narrow ty (.int v) = .int v) ∨
  (∃ v : Int64, decode Y.2.1 pc = .ok (.lreturn, 1) ∧ st = [.long v] ∧ r = some (.long v) ∧ Y.2.2.2.1 = some .long) ∨
  (decode Y.2.1 pc = .ok (.return_, 1) ∧ st = [] ∧ r = none ∧ Y.2.2.2.1 = none) ∨
  (∃ (i : Nat) (nm : String), decode Y.2.1 pc = .ok (.areturn, 1) ∧ st = [.ref i] ∧ r = some (.ref i) ∧ Y.2.2.2.1 = some (.object nm))
/-- from where a return goes on -/
def ax_Z (Y : ax_M) (Q : Option Value → ax_W → Prop) (p : Program) (l : Launch) (e : Env) (R : Room) (s : State) (m : MethodId) (args : Array Value) (below : List Frame) (meth : Method) (c : Code) (D : va_G) (ca : Nat → ClassId) (ad : Nat → Nat) (A : Nat → Prop) (Qf : State → Prop) (n1 n2 : Nat) : Prop :=
  ∀ (H : Heap) (locs : List Loc) (ls : Array Slot) (k n : Nat) (ad' : Nat → Nat) (pc : Nat) (st : List Value) (r : Option Value) (w : ax_W), Q r w → ax_ret Y pc st r → ax_ag Y.2.2.2.2.2.1 n1 n2 ad ad' → ax_P D ca ad' A w H s.heap locs → k ≤ R.cells → n ≤ R.slots → n1 ≤ w.1.length → n2 ≤ w.2.length → W p l e R s m args below meth c H locs k n Qf (F0 m pc ls (st.map (ax_v ad')))
def Ab (Y : ax_M) (Q : Option Value → ax_W → Prop) (kn : Nat × Nat) (pc : Nat) (la : List (Nat × Value)) (st : List Value) (w : ax_W) : Prop :=
  ∀ (p : Program) (l : Launch) (e : Env) (R : Room) (s : State) (m : MethodId) (args : Array Value) (below : List Frame) (meth : Method) (c : Code) (D : va_G) (ca : Nat → ClassId) (ad : Nat → Nat) (A : Nat → Prop) (Qf : State → Prop) (H : Heap) (locs : List Loc) (ls : Array Slot),
    ax_C Y p l R s m args meth c D ca ad A → ax_P D ca ad A w H s.heap locs → lv_has ls Y.2.2.1 (la.map fun q => (q.1, ax_v ad q.2)) → ax_Z Y Q p l e R s m args below meth c D ca ad A Qf w.1.length w.2.length →
    W p l e R s m args below meth c H locs kn.1 kn.2 Qf (F0 m pc ls (st.map (ax_v ad)))
def ax_Qc (al : Bool) (D : va_G) (ca : Nat → ClassId) (ad : Nat → Nat) (w : ax_W) (sz : Nat) (Q : Option Value → ax_W → Prop) : Array Value → State → Outcome → State → Prop := fun _ st o t =>
  (∃ (r : Option Value) (w' : ax_W) (ad' : Nat → Nat), o = .returned (r.map (ax_v ad')) ∧ Q r w' ∧ ax_ag al w.1.length w.2.length ad ad' ∧ w.1.length ≤ w'.1.length ∧ w.2.length ≤ w'.2.length ∧ va_P D ax_cl (ax_w ca ad' w') t.heap ∧ va_D (va_A (ax_w ca ad w) sz) (ax_w ca ad' w')) ∧ va_F (va_A (ax_w ca ad w) sz) st t
def ax_Pc (D : va_G) (ca : Nat → ClassId) (ad : Nat → Nat) (w : ax_W) (sz : Nat) (as : List Value) : Array Value → State → Prop :=
  va_Pc (as.map (ax_v ad)) (fun U => U.heap.size = sz ∧ va_P D ax_cl (ax_w ca ad w) U.heap ∧ va_K D ax_cl (ax_t ca) U ∧ va_D (fun _ => True) (ax_w ca ad w) ∧ ax_RO ad (va_A (ax_w ca ad w) sz) U U.heap)
/-- A CONTRACT: called with these arguments in this world, the method returns an answer and leaves a world of which Q holds -/
def Ct (Y : ax_M) (as : List Value) (w : ax_W) (Q : Option Value → ax_W → Prop) : Prop :=
  ∀ (l : Launch), l.flags = flags0 → ∀ (D : va_G) (ca : Nat → ClassId) (ad : Nat → Nat) (sz : Nat), Met l Y.1 (.code Y.1 Y.2.1 Y.2.2.1 Y.2.2.2.1 :: TB) Y.2.2.2.2.1 (ax_Pc D ca ad w sz as) (ax_Qc Y.2.2.2.2.2.1 D ca ad w sz Q) Y.2.2.2.2.1.cells Y.2.2.2.2.1.slots (va_A (ax_w ca ad w) sz)
theorem ax_lvargs (ad : Nat → Nat) : ∀ (i : Nat) (vs : List Value), lv_args i (vs.map (ax_v ad)) = (lv_args i vs).map (fun q => (q.1, ax_v ad q.2))
  | _, [] => rfl
  | i, v :: vs => by
    have hc : (ax_v ad v).category = v.category := by cases v <;> rfl
    show lv_args i (ax_v ad v :: vs.map (ax_v ad)) = _
    simp only [lv_args, List.map_cons, hc, ax_lvargs ad]
theorem ax_sllen (ad : Nat → Nat) : ∀ (vs : List Value), (lg_sl (vs.map (ax_v ad))).length = (lg_sl vs).length
  | [] => rfl
  | v :: vs => by
    have hc : (ax_v ad v).category = v.category := by cases v <;> rfl
    have ih := ax_sllen ad vs
    unfold lg_sl at ih ⊢
    simp only [List.map_cons, List.flatMap_cons, List.length_append, hc, ih]
    by_cases h : v.category = 2
    · simp [h]
    · simp [h]
/-- a contract by a walk of the body -/
theorem ct_of {Y : ax_M} {as : List Value} {w : ax_W} {Q : Option Value → ax_W → Prop} (hp : plainName Y.1.cls = true ∧ Y.2.2.2.2.2.2 = none) (hn : (lg_sl as).length ≤ Y.2.2.1) (h : Ab Y Q (0, 0) 0 (lv_args 0 as) [] w) : Ct Y as w Q := by
  intro l hfl D ca ad sz
  refine Met.ofW (cc := Y.2.1) (maxL := Y.2.2.1) (ret := Y.2.2.2.1) hp.1 rfl ?_
  intro p e s m args below meth c s₁ B hml hv
  obtain ⟨rfl, hsz, hP, hK, hD0, hRO⟩ := hv
  have hts := atoms_spec (ws := .code Y.1 Y.2.1 Y.2.2.1 Y.2.2.2.1 :: TB) B.pre
  have hown : s.vm.findClass Y.1.cls = some m.cls := findClass_of_methodNamed B.named
  subst hsz
  have hD := hD0.self (sz := s.heap.size)
  have hl := lv_entry (as.map (ax_v ad)) (n := Y.2.2.1) (by rw [ax_sllen]; exact hn)
  rw [lg_entry_eq]
  rw [ax_lvargs] at hl
  refine h p l e _ s m _ below meth c D ca ad (va_A (ax_w ca ad w) s.heap.size) _ s.heap [] _ ⟨B.exec, B.bytes, hml, B.returns, hown, fun x hx => hts x (List.mem_cons_of_mem _ hx), B.notSynchronized, (name_of_methodNamed B.named B.method).1, rfl, hK, fun q hq => Or.inr hq, hRO, hfl, fun L xs hX => by rw [hp.2] at hX; cases hX⟩ ⟨hP, hD, va_S.rf⟩ hl ?_
  intro H locs ls k n ad' pc st r w' hq hret hag hrep hk hn2 hg1 hg2
  obtain ⟨hP', hD', hS'⟩ := hrep
  refine W.widen (k := Y.2.2.2.2.1.cells) (n := Y.2.2.2.2.1.slots) hk hn2 ?_
  have key : ∀ t : State, t.heap = H → ∀ o, o = .returned (r.map (ax_v ad')) → ax_Qc Y.2.2.2.2.2.1 D ca ad w s.heap.size Q (as.map (ax_v ad)).toArray s o t := fun t ht o ho =>
    ⟨⟨r, w', ad', ho, hq, hag, hg1, hg2, by rw [ht]; exact hP', hD'⟩, hS'.F ht⟩
  rcases hret with ⟨v, ty, d, rfl, rfl, hty, hnar⟩ | ⟨v, d, rfl, rfl, hty⟩ | ⟨d, rfl, rfl, hty⟩ | ⟨i, nm, d, rfl, rfl, hty⟩
  · exact W.zret B.exec B.bytes (B.returns.trans hty) hnar (fun t ht hW => key t ht _ rfl) hS'.2.2 d B.notSynchronized
  · exact W.lret B.exec B.bytes (B.returns.trans hty) (fun t ht hW => key t ht _ rfl) hS'.2.2 d B.notSynchronized
  · exact W.vret B.exec B.bytes (B.returns.trans hty) (fun t ht hW => key t ht _ rfl) hS'.2.2 d B.notSynchronized
  · exact W.aret B.exec B.bytes (B.returns.trans hty) (Or.inl ⟨nm, rfl⟩) (Or.inr ⟨_, rfl⟩) (fun t ht hW => key t ht _ rfl) hS'.2.2 d B.notSynchronized
theorem Ct.mono {Y : ax_M} {as : List Value} {w : ax_W} {Q Q' : Option Value → ax_W → Prop} (h : Ab Y Q (0, 0) 0 (lv_args 0 as) [] w) (hq : ∀ r w', Q r w' → Q' r w') : Ab Y Q' (0, 0) 0 (lv_args 0 as) [] w :=
  fun p l e R s m args below meth c D ca ad A Qf H locs ls hC hP hl hE => h p l e R s m args below meth c D ca ad A Qf H locs ls hC hP hl (fun H locs ls k n ad' pc st r w hQ => hE H locs ls k n ad' pc st r w (hq r w hQ))
theorem ax_Z.mono {Y : ax_M} {Q : Option Value → ax_W → Prop} {p : Program} {l : Launch} {e : Env} {R : Room} {s : State} {m : MethodId} {args : Array Value} {below : List Frame} {meth : Method} {c : Code} {D : va_G} {ca : Nat → ClassId} {ad : Nat → Nat} {A : Nat → Prop} {Qf : State → Prop} {n1 n2 n3 n4 : Nat} (h : ax_Z Y Q p l e R s m args below meth c D ca ad A Qf n1 n2) (h1 : n1 ≤ n3) (h2 : n2 ≤ n4) : ax_Z Y Q p l e R s m args below meth c D ca ad A Qf n3 n4 := by
  intro H locs ls k n ad' pc st r w hq hret hag hrep hk hn g1 g2
  refine h H locs ls k n ad' pc st r w hq hret ?_ hrep hk hn (Nat.le_trans h1 g1) (Nat.le_trans h2 g2)
  cases ha : Y.2.2.2.2.2.1 with
  | false => rw [ha] at hag; exact hag
  | true =>
    rw [ha] at hag
    intro i hi
    refine hag i ?_
    rcases hi with q | q | q
    · exact Or.inl (Nat.lt_of_lt_of_le q h1)
    · exact Or.inr (Or.inl ⟨q.1, Nat.lt_of_lt_of_le q.2 (Nat.add_le_add_left h2 _)⟩)
    · exact Or.inr (Or.inr q)
/-- with more cells, at another map of places that agrees on the old ones -/
theorem ax_Z.moved {Y : ax_M} {Q : Option Value → ax_W → Prop} {p : Program} {l : Launch} {e : Env} {R : Room} {s : State} {m : MethodId} {args : Array Value} {below : List Frame} {meth : Method} {c : Code} {D : va_G} {ca : Nat → ClassId} {ad ad1 : Nat → Nat} {A : Nat → Prop} {Qf : State → Prop} {n1 n2 n3 n4 : Nat} (h : ax_Z Y Q p l e R s m args below meth c D ca ad A Qf n1 n2) (h1 : n1 ≤ n3) (h2 : n2 ≤ n4) (ha : Y.2.2.2.2.2.1 = true) (hg : ∀ i, ax_old n1 n2 i → ad1 i = ad i) : ax_Z Y Q p l e R s m args below meth c D ca ad1 A Qf n3 n4 := by
  intro H locs ls k n ad' pc st r w hq hret hag hrep hk hn g1 g2
  refine h H locs ls k n ad' pc st r w hq hret ?_ hrep hk hn (Nat.le_trans h1 g1) (Nat.le_trans h2 g2)
  rw [ha] at hag ⊢
  intro i hi
  rw [← hg i hi]
  refine hag i ?_
  rcases hi with q | q | q
  · exact Or.inl (Nat.lt_of_lt_of_le q h1)
  · exact Or.inr (Or.inl ⟨q.1, Nat.lt_of_lt_of_le q.2 (Nat.add_le_add_left h2 _)⟩)
  · exact Or.inr (Or.inr q)
