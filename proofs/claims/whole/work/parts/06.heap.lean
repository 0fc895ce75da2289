/-! RULES that read or write cells. -/
/-- a field by its place in the pool of the class that names it -/
def ax_fl (own : String) (idx ci k : Nat) (ty : FieldType) (fin : Bool) : Prop :=
  ∃ (C : String) (T : u_T) (N : Nat), ax_cl[ci]? = some (C, T, N) ∧ k < N ∧ (∀ x ∈ u_ws C T N, x ∈ TB) ∧ Cond.fieldLink own idx (T k).1 (T k).2.1 (T k).2.2.1 ∈ TB ∧ parseFieldDescriptor (T k).2.2.1 = some ty ∧ (T k).2.2.2 = fin ∧ (T k).1 = C ∧ (∀ a, a < N → ∀ b, b < N → a ≠ b → (T a).2.1 ≠ (T b).2.1) ∧ ∃ tys : Nat → FieldType, ∀ j, j < N → parseFieldDescriptor (T j).2.2.1 = some (tys j)
/-- an index within a row -/
def ax_ix (x : Int32) (n j : Nat) : Prop := vp_in x n ∧ x.toNatClampNeg = j
theorem ix_nI {j n : Nat} (h : j < n) (hn : n < 2 ^ 31) : ax_ix (nI j) n j := ⟨vp_in_nI h hn, nI_clamp (Nat.lt_trans h hn)⟩
theorem ix_of {x : Int32} {n : Nat} (h : vp_in x n) : ax_ix x n x.toNatClampNeg := ⟨h, rfl⟩
section HEAP
variable {Y : ax_M} {Q : Option Value → ax_W → Prop} {kn : Nat × Nat} {pc : Nat} {la la' : List (Nat × Value)} {rest : List Value} {w w1 : ax_W} {i : Nat}
theorem ab_getf {idx ci k : Nat} {ty : FieldType} {fin : Bool} {fs : List Value} {v : Value} (d : decode Y.2.1 pc = .ok (.getfield idx, 3)) (hf : ax_fl Y.1.cls idx ci k ty fin) (hg : ax_get w i = some (ob ci fs)) (hv : fs[k]? = some v) (kk : Ab Y Q kn (pc + 3) la (v :: rest) w) : Ab Y Q kn pc la (.ref i :: rest) w := by
  intro p l e R s m args below meth c D ca ad A Qf H locs ls hC hP hl hE
  obtain ⟨C, T, N, hc, hk, hin, hlk, -⟩ := hf
  obtain ⟨q, hq, -⟩ := ax_at (ca := ca) (ad := ad) hg
  exact va_get hC.1 hC.2.1 hC.2.2.2.2.2.1 hin hC.2.2.2.2.1 hC.2.2.2.2.2.2.2.2.2.1 hP.1 q hq hc k hk (hC.2.2.2.2.2.1 _ hlk) (fun _ h => h) (v := ax_v ad v) (by rw [List.getElem?_map, hv]; rfl) d (kk p l e R s m args below meth c D ca ad A Qf H locs ls hC hP hl hE)
theorem ax_Zset {p : Program} {l : Launch} {e : Env} {R : Room} {s : State} {m : MethodId} {args : Array Value} {below : List Frame} {meth : Method} {c : Code} {D : va_G} {ca : Nat → ClassId} {ad : Nat → Nat} {A : Nat → Prop} {Qf : State → Prop} {x : ax_E} (hs : ax_set w i x = w1) (hE : ax_Z Y Q p l e R s m args below meth c D ca ad A Qf w.1.length w.2.length) : ax_Z Y Q p l e R s m args below meth c D ca ad A Qf w1.1.length w1.2.length := by
  rw [← hs, ax_set_len.1, ax_set_len.2]
  exact hE
theorem ax_mapset (ad : Nat → Nat) (fs : List Value) (k : Nat) (v : Value) : (fs.map (ax_v ad)).set k (ax_v ad v) = (fs.set k v).map (ax_v ad) := by
  rw [List.map_set]
theorem ab_putf {idx ci k : Nat} {ty : FieldType} {fs : List Value} {v : Value} (d : decode Y.2.1 pc = .ok (.putfield idx, 3)) (hf : ax_fl Y.1.cls idx ci k ty false) (hg : ax_get w i = some (ob ci fs)) (hk2 : k < fs.length) (hn : ∀ ad, narrow ty (ax_v ad v) = ax_v ad v ∧ fits ty (ax_v ad v) = true) (hs : ax_set w i (ob ci (fs.set k v)) = w1) (kk : Ab Y Q kn (pc + 3) la rest w1) : Ab Y Q kn pc la (v :: .ref i :: rest) w := by
  intro p l e R s m args below meth c D ca ad A Qf H locs ls hC hP hl hE
  obtain ⟨C, T, N, hc, hk, hin, hlk, hd, hfin, -, hnm, tys, hty⟩ := hf
  obtain ⟨q, hq, hset⟩ := ax_at (ca := ca) (ad := ad) hg
  refine va_put hC.1 hC.2.1 hC.2.2.2.2.2.1 hin tys hty hnm hC.2.2.2.2.1 hC.2.2.2.2.2.2.2.2.2.1 hP.1 hP.2.1 hP.2.2 q hq hc k hk (hC.2.2.2.2.2.1 _ hlk) (fun _ h => h) hfin (v := ax_v ad v) hd (hn ad).1 (hn ad).2 (by rw [List.length_map]; exact hk2) d (fun H1 locs1 hP1 hD1 hS1 => ?_)
  rw [ax_mapset] at hP1 hD1
  have e1 : ax_w ca ad w1 = (ax_w ca ad w).set q (ad i, .inr (ci, (fs.set k v).map (ax_v ad))) := by rw [← hs]; exact hset _
  rw [← e1] at hP1 hD1
  exact kk p l e R s m args below meth c D ca ad A Qf H1 locs1 ls hC ⟨hP1, hD1, hS1⟩ hl (ax_Zset hs hE)
theorem ab_putF {idx ci k : Nat} {ty : FieldType} {fs : List Value} {v : Value} (d : decode Y.2.1 pc = .ok (.putfield idx, 3)) (hf : ax_fl Y.1.cls idx ci k ty true) (hi : Y.1.name = "<init>") (hcl : (ax_cl[ci]?).map (fun q => q.1) = some Y.1.cls) (hg : ax_get w i = some (ob ci fs)) (hk2 : k < fs.length) (hn : ∀ ad, narrow ty (ax_v ad v) = ax_v ad v ∧ fits ty (ax_v ad v) = true) (hs : ax_set w i (ob ci (fs.set k v)) = w1) (kk : Ab Y Q kn (pc + 3) la rest w1) : Ab Y Q kn pc la (v :: .ref i :: rest) w := by
  intro p l e R s m args below meth c D ca ad A Qf H locs ls hC hP hl hE
  obtain ⟨C, T, N, hc, hk, hin, hlk, hd, hfin, hdecl, hnm, tys, hty⟩ := hf
  obtain ⟨q, hq, hset⟩ := ax_at (ca := ca) (ad := ad) hg
  rw [hc] at hcl
  have hCe : C = Y.1.cls := Option.some.inj hcl
  refine va_putF hC.1 hC.2.1 hC.2.2.2.2.2.1 hin tys hty hnm hC.2.2.2.2.1 hC.2.2.2.2.2.2.2.2.2.1 hP.1 hP.2.1 hP.2.2 q hq hc k hk (hC.2.2.2.2.2.1 _ hlk) (fun _ h => h) hfin (hC.2.2.2.2.2.2.2.1.trans hi) (hdecl.trans hCe) (v := ax_v ad v) hd (hn ad).1 (hn ad).2 (by rw [List.length_map]; exact hk2) d (fun H1 locs1 hP1 hD1 hS1 => ?_)
  rw [ax_mapset] at hP1 hD1
  have e1 : ax_w ca ad w1 = (ax_w ca ad w).set q (ad i, .inr (ci, (fs.set k v).map (ax_v ad))) := by rw [← hs]; exact hset _
  rw [← e1] at hP1 hD1
  exact kk p l e R s m args below meth c D ca ad A Qf H1 locs1 ls hC ⟨hP1, hD1, hS1⟩ hl (ax_Zset hs hE)
theorem ab_iald {n j : Nat} {f : Nat → Int32} {x : Int32} (d : decode Y.2.1 pc = .ok (.iaload, 1)) (hg : ax_get w i = some (ia n f)) (hx : ax_ix x n j) (kk : Ab Y Q kn (pc + 1) la (.int (f j) :: rest) w) : Ab Y Q kn pc la (.int x :: .ref i :: rest) w := by
  intro p l e R s m args below meth c D ca ad A Qf H locs ls hC hP hl hE
  obtain ⟨q, hq, -⟩ := ax_at (ca := ca) (ad := ad) hg
  have kk := kk p l e R s m args below meth c D ca ad A Qf H locs ls hC hP hl hE
  rw [← hx.2] at kk
  exact va_iald hC.1 hC.2.1 hC.2.2.2.2.2.2.2.2.2.1 hP.1 q 0 hq rfl hx.1 d kk
theorem ab_bald {n j : Nat} {f : Nat → Int32} {x : Int32} (d : decode Y.2.1 pc = .ok (.baload, 1)) (hg : ax_get w i = some (ba n f)) (hx : ax_ix x n j) (kk : Ab Y Q kn (pc + 1) la (.int (f j) :: rest) w) : Ab Y Q kn pc la (.int x :: .ref i :: rest) w := by
  intro p l e R s m args below meth c D ca ad A Qf H locs ls hC hP hl hE
  obtain ⟨q, hq, -⟩ := ax_at (ca := ca) (ad := ad) hg
  have kk := kk p l e R s m args below meth c D ca ad A Qf H locs ls hC hP hl hE
  rw [← hx.2] at kk
  exact va_bald hC.1 hC.2.1 hC.2.2.2.2.2.2.2.2.2.1 hP.1 q 1 hq rfl hx.1 d kk
theorem ab_lald {n j : Nat} {f : Nat → Int64} {x : Int32} (d : decode Y.2.1 pc = .ok (.laload, 1)) (hg : ax_get w i = some (ja n f)) (hx : ax_ix x n j) (kk : Ab Y Q kn (pc + 1) la (.long (f j) :: rest) w) : Ab Y Q kn pc la (.int x :: .ref i :: rest) w := by
  intro p l e R s m args below meth c D ca ad A Qf H locs ls hC hP hl hE
  obtain ⟨q, hq, -⟩ := ax_at (ca := ca) (ad := ad) hg
  have kk := kk p l e R s m args below meth c D ca ad A Qf H locs ls hC hP hl hE
  rw [← hx.2] at kk
  exact va_lald hC.1 hC.2.1 hC.2.2.2.2.2.2.2.2.2.1 hP.1 q 2 hq rfl hx.1 d kk
theorem ab_iast {n j : Nat} {f : Nat → Int32} {x v : Int32} (d : decode Y.2.1 pc = .ok (.iastore, 1)) (hg : ax_get w i = some (ia n f)) (hx : ax_ix x n j) (hs : ax_set w i (ia n (upd f j v)) = w1) (kk : Ab Y Q kn (pc + 1) la rest w1) : Ab Y Q kn pc la (.int v :: .int x :: .ref i :: rest) w := by
  intro p l e R s m args below meth c D ca ad A Qf H locs ls hC hP hl hE
  obtain ⟨q, hq, hset⟩ := ax_at (ca := ca) (ad := ad) hg
  refine va_iast hC.1 hC.2.1 hC.2.2.2.2.2.2.2.2.2.1 hP.1 hP.2.1 hP.2.2 q 0 hq rfl hx.1 d (fun H1 locs1 hP1 hD1 hS1 => ?_)
  rw [hx.2] at hP1 hD1
  have e1 : ax_w ca ad w1 = (ax_w ca ad w).set q (ad i, .inl (ca 0, n, .inl (upd f j v))) := by rw [← hs]; exact hset _
  rw [← e1] at hP1 hD1
  exact kk p l e R s m args below meth c D ca ad A Qf H1 locs1 ls hC ⟨hP1, hD1, hS1⟩ hl (ax_Zset hs hE)
theorem ab_bast {n j : Nat} {f : Nat → Int32} {x v : Int32} (d : decode Y.2.1 pc = .ok (.bastore, 1)) (hg : ax_get w i = some (ba n f)) (hx : ax_ix x n j) (hs : ax_set w i (ba n (upd f j (vp_nar .byte v))) = w1) (kk : Ab Y Q kn (pc + 1) la rest w1) : Ab Y Q kn pc la (.int v :: .int x :: .ref i :: rest) w := by
  intro p l e R s m args below meth c D ca ad A Qf H locs ls hC hP hl hE
  obtain ⟨q, hq, hset⟩ := ax_at (ca := ca) (ad := ad) hg
  refine va_bast hC.1 hC.2.1 hC.2.2.2.2.2.2.2.2.2.1 hP.1 hP.2.1 hP.2.2 q 1 hq rfl hx.1 d (fun H1 locs1 hP1 hD1 hS1 => ?_)
  rw [hx.2] at hP1 hD1
  have e1 : ax_w ca ad w1 = (ax_w ca ad w).set q (ad i, .inl (ca 1, n, .inl (upd f j (vp_nar .byte v)))) := by rw [← hs]; exact hset _
  rw [← e1] at hP1 hD1
  exact kk p l e R s m args below meth c D ca ad A Qf H1 locs1 ls hC ⟨hP1, hD1, hS1⟩ hl (ax_Zset hs hE)
theorem ab_last {n j : Nat} {f : Nat → Int64} {x : Int32} {v : Int64} (d : decode Y.2.1 pc = .ok (.lastore, 1)) (hg : ax_get w i = some (ja n f)) (hx : ax_ix x n j) (hs : ax_set w i (ja n (vp_updL f j v)) = w1) (kk : Ab Y Q kn (pc + 1) la rest w1) : Ab Y Q kn pc la (.long v :: .int x :: .ref i :: rest) w := by
  intro p l e R s m args below meth c D ca ad A Qf H locs ls hC hP hl hE
  obtain ⟨q, hq, hset⟩ := ax_at (ca := ca) (ad := ad) hg
  refine va_last hC.1 hC.2.1 hC.2.2.2.2.2.2.2.2.2.1 hP.1 hP.2.1 hP.2.2 q 2 hq rfl hx.1 d (fun H1 locs1 hP1 hD1 hS1 => ?_)
  rw [hx.2] at hP1 hD1
  have e1 : ax_w ca ad w1 = (ax_w ca ad w).set q (ad i, .inl (ca 2, n, .inr (.inl (vp_updL f j v)))) := by rw [← hs]; exact hset _
  rw [← e1] at hP1 hD1
  exact kk p l e R s m args below meth c D ca ad A Qf H1 locs1 ls hC ⟨hP1, hD1, hS1⟩ hl (ax_Zset hs hE)
theorem ab_ialen {n : Nat} {f : Nat → Int32} {v : Int32} (d : decode Y.2.1 pc = .ok (.arraylength, 1)) (hg : ax_get w i = some (ia n f)) (hv : Int32.ofNat n = v) (kk : Ab Y Q kn (pc + 1) la (.int v :: rest) w) : Ab Y Q kn pc la (.ref i :: rest) w := by
  intro p l e R s m args below meth c D ca ad A Qf H locs ls hC hP hl hE
  obtain ⟨q, hq, -⟩ := ax_at (ca := ca) (ad := ad) hg
  exact va_alen hC.1 hC.2.1 hC.2.2.2.2.2.2.2.2.2.1 hP.1 q 0 hq rfl hv d (kk p l e R s m args below meth c D ca ad A Qf H locs ls hC hP hl hE)
/-- a table: a static row that nobody writes -/
theorem ab_tbl {idx j : Nat} {q : String × String × List Int32} (d : decode Y.2.1 pc = .ok (.getstatic idx, 3)) (hj : ax_st[j]? = some q) (hw : Cond.fieldLink Y.1.cls idx q.1 q.2.1 "[I" ∈ TB) (kk : Ab Y Q kn (pc + 3) la (.ref (2000 + j) :: rest) w) : Ab Y Q kn pc la rest w := by
  intro p l e R s m args below meth c D ca ad A Qf H locs ls hC hP hl hE
  exact va_gets hC.1 hC.2.1 (hC.2.2.2.2.2.2.2.2.2.2.2.1.1 j q hj).1 hP.2.2 hC.2.2.2.2.1 (hC.2.2.2.2.2.1 _ hw) (fun _ h => h) d (kk p l e R s m args below meth c D ca ad A Qf H locs ls hC hP hl hE)
theorem ab_tald {j t : Nat} {q : String × String × List Int32} {x v : Int32} (d : decode Y.2.1 pc = .ok (.iaload, 1)) (hj : ax_st[j]? = some q) (hx : ax_ix x q.2.2.length t) (hv : q.2.2.getD t 0 = v) (kk : Ab Y Q kn (pc + 1) la (.int v :: rest) w) : Ab Y Q kn pc la (.int x :: .ref (2000 + j) :: rest) w := by
  intro p l e R s m args below meth c D ca ad A Qf H locs ls hC hP hl hE
  exact va_ti hC.1 hC.2.1 (hC.2.2.2.2.2.2.2.2.2.2.2.1.1 j q hj).2 hP.2.2 hx.1 (v := .int v) (by rw [hx.2, hv]) d (kk p l e R s m args below meth c D ca ad A Qf H locs ls hC hP hl hE)
/-- the law's script -/
theorem ab_sld {L t : Nat} {xs : Nat → Int32} {x : Int32} (d : decode Y.2.1 pc = .ok (.iaload, 1)) (hY : Y.2.2.2.2.2.2 = some (L, xs)) (hx : ax_ix x L t) (kk : Ab Y Q kn (pc + 1) la (.int (xs t) :: rest) w) : Ab Y Q kn pc la (.int x :: .ref 5000 :: rest) w := by
  intro p l e R s m args below meth c D ca ad A Qf H locs ls hC hP hl hE
  obtain ⟨h1, h2, h3⟩ := hC.2.2.2.2.2.2.2.2.2.2.2.2.2 L xs hY
  have kk := kk p l e R s m args below meth c D ca ad A Qf H locs ls hC hP hl hE
  rw [← hx.2] at kk
  exact va_sld hC.1 hC.2.1 h1 h2 h3 hP.2.2 hx.1 d kk
theorem ab_slen {L : Nat} {xs : Nat → Int32} (d : decode Y.2.1 pc = .ok (.arraylength, 1)) (hY : Y.2.2.2.2.2.2 = some (L, xs)) (kk : Ab Y Q kn (pc + 1) la (.int (Int32.ofNat L) :: rest) w) : Ab Y Q kn pc la (.ref 5000 :: rest) w := by
  intro p l e R s m args below meth c D ca ad A Qf H locs ls hC hP hl hE
  obtain ⟨h1, h2, h3⟩ := hC.2.2.2.2.2.2.2.2.2.2.2.2.2 L xs hY
  exact va_slen hC.1 hC.2.1 h1 h2 h3 hP.2.2 d (kk p l e R s m args below meth c D ca ad A Qf H locs ls hC hP hl hE)
end HEAP
/-! CALLS -/
/-- what the tables say of a callee; n arguments beside the receiver -/
def ax_mv (Y : ax_M) (ci n : Nat) : Prop := Cond.instanceMethod Y.1 ∈ TB ∧ Cond.selects Y.1.cls Y.1 Y.1 ∈ TB ∧ Cond.initialized Y.1.cls ∈ TB ∧ Cond.code Y.1 Y.2.1 Y.2.2.1 Y.2.2.2.1 ∈ TB ∧ (Y.1.cls ≠ "java/lang/invoke/MethodHandle" ∧ Y.1.cls ≠ "java/lang/invoke/VarHandle" ∧ (parseMethodDescriptor Y.1.desc).map (fun d => d.parameters.length) = some n) ∧ ∃ (T : u_T) (N : Nat), ax_cl[ci]? = some (Y.1.cls, T, N)
def ax_ms (Y : ax_M) (n : Nat) : Prop := Cond.static Y.1 ∈ TB ∧ Cond.initialized Y.1.cls ∈ TB ∧ Cond.code Y.1 Y.2.1 Y.2.2.1 Y.2.2.2.1 ∈ TB ∧ (Y.1.cls ≠ "java/lang/invoke/MethodHandle" ∧ Y.1.cls ≠ "java/lang/invoke/VarHandle" ∧ (parseMethodDescriptor Y.1.desc).map (fun d => d.parameters.length) = some n)
/-- room for a callee that makes no cells -/
def ax_rm (Y Y1 : ax_M) : Prop := Y1.2.2.2.2.1.frames + 1 ≤ Y.2.2.2.2.1.frames ∧ 8 + (Y1.2.2.1 + 11) + Y1.2.2.2.2.1.locals ≤ Y.2.2.2.2.1.locals ∧ Y1.2.2.2.2.1.cells = 0 ∧ Y1.2.2.2.2.1.slots = 0 ∧ Y1.2.2.2.2.2.1 = false
section CALL
variable {Y Y1 : ax_M} {Q Q1 : Option Value → ax_W → Prop} {kn : Nat × Nat} {pc : Nat} {la la' : List (Nat × Value)} {st rest As : List Value} {w w1 : ax_W} {i idx n ci b : Nat} {fs : List Value}
theorem ax_blind {D : va_G} {ca : Nat → ClassId} {ad : Nat → Nat} {w : ax_W} {sz : Nat} {as : List Value} : FrameBlind (ax_Pc D ca ad w sz as) := by
  intro a U g mk h
  obtain ⟨h1, h2, h3, h4, h5, h6⟩ := h
  exact ⟨h1, h2, h3, va_K.moved (u := U) (U := U.calling g mk a) (Vm.Alike.refl U.vm) h4, h5, ax_RO.same (u := U) (U := U.calling g mk a) rfl h6⟩
theorem ax_free {D : va_G} {ca : Nat → ClassId} {ad : Nat → Nat} {A : Nat → Prop} {w : ax_W} {H H0 : Heap} {locs : List Loc} (hP : ax_P D ca ad A w H H0 locs) (hA : ∀ q, H0.size ≤ q → A q) : ∀ q, va_A (ax_w ca ad w) H.size q → A q := by
  intro q h
  rcases h with ⟨k, x, h⟩ | h
  · exact hP.2.1.2 k (q, x) h
  · exact hA q (Nat.le_trans hP.2.2.1 h)
/-- what a caller hands its callee -/
theorem ax_pre {p : Program} {l : Launch} {R : Room} {s : State} {m : MethodId} {args : Array Value} {meth : Method} {c : Code} {D : va_G} {ca : Nat → ClassId} {ad : Nat → Nat} {A : Nat → Prop} {H : Heap} {locs : List Loc} (hC : ax_C Y p l R s m args meth c D ca ad A) (hP : ax_P D ca ad A w H s.heap locs) (as : List Value) : ∀ U : State, U.heap = H → s.WarmedH U.vm → ax_Pc D ca ad w H.size as (as.map (ax_v ad)).toArray U := by
  intro U hU hW
  refine ⟨rfl, by rw [hU], by rw [hU]; exact hP.1, va_K.moved hW.alike hC.2.2.2.2.2.2.2.2.2.1, hP.2.1.weaken (fun _ _ _ _ => trivial), ?_⟩
  rw [hU]
  exact ((hC.2.2.2.2.2.2.2.2.2.2.2.1.kept hP.2.2.2.1).warm hW).narrow (ax_free hP hC.2.2.2.2.2.2.2.2.2.2.1)
/-- behind a call of a method that makes no cells -/
theorem ax_back {p : Program} {l : Launch} {e : Env} {R : Room} {s : State} {m : MethodId} {args : Array Value} {below : List Frame} {meth : Method} {c : Code} {D : va_G} {ca : Nat → ClassId} {ad : Nat → Nat} {A : Nat → Prop} {Qf : State → Prop} {H : Heap} {locs : List Loc} {ls : Array Slot} {a : Array Value} {st0 : List Value} (hC : ax_C Y p l R s m args meth c D ca ad A) (hP : ax_P D ca ad A w H s.heap locs) (hl : lv_has ls Y.2.2.1 (la.map fun q => (q.1, ax_v ad q.2))) (hE : ax_Z Y Q p l e R s m args below meth c D ca ad A Qf w.1.length w.2.length)
    (hr : va_Run p l e R s m args below meth c H locs kn.1 kn.2 0 0 (F0 m pc ls st0) (rest.map (ax_v ad)) (ax_Qc false D ca ad w H.size Q1 a) (va_A (ax_w ca ad w) H.size))
    (kk : ∀ (r : Option Value) (w' : ax_W), Q1 r w' → Ab Y Q kn (pc + 3) la (r.toList ++ rest) w') : W p l e R s m args below meth c H locs kn.1 kn.2 Qf (F0 m pc ls st0) := by
  intro T hT X
  obtain ⟨v, st₀, t, T', L, h0, X', hL, e1, e2, ⟨⟨r, w', ad', hv, hq, hag, g1, g2, hP1, hD1⟩, hz, hkp⟩, stp⟩ := hr T hT X
  have hag : ad' = ad := hag
  subst hag
  cases hv
  rw [h0] at hz hkp
  have hfr := ax_free hP hC.2.2.2.2.2.2.2.2.2.2.1
  have hS1 : va_S A s.heap T'.heap (locs ++ L) := ⟨Nat.le_trans hP.2.2.1 (by rw [e1]; exact hz), fun q h1 h2 => by
      rw [e1, hkp q (Nat.lt_of_lt_of_le h1 hP.2.2.1) (fun z => h2 (hfr q z))]
      exact hP.2.2.2.1 q h1 h2, fun q hq2 => by
      rcases List.mem_append.mp hq2 with h | h
      · exact hP.2.2.2.2 q h
      · exact hfr _ (hL q h)⟩
  obtain ⟨t2, a1, b1⟩ := kk r w' hq p l e R s m args below meth c D ca ad' A Qf T'.heap (locs ++ L) ls hC ⟨by rw [e1]; exact hP1, hD1.weaken (fun k q _ h => hfr q.1 h), hS1⟩ hl (hE.mono g1 g2) T' rfl X'
  refine ⟨t2, stp t2 ?_, b1⟩
  have e3 : (r.map (ax_v ad')).toList ++ rest.map (ax_v ad') = (r.toList ++ rest).map (ax_v ad') := by cases r <;> rfl
  rw [e3]
  exact a1
theorem ax_words {L : List Cond} (h1 : ∀ x ∈ L, x ∈ TB) (h2 : Cond.code Y1.1 Y1.2.1 Y1.2.2.1 Y1.2.2.2.1 ∈ TB) : GoodIn TB (L ++ (Cond.code Y1.1 Y1.2.1 Y1.2.2.1 Y1.2.2.2.1 :: TB)) := tb_goodIn (fun x hx => by
  rcases List.mem_append.mp hx with q | q
  · exact h1 x q
  · rcases List.mem_cons.mp q with q | q
    · rw [q]; exact h2
    · exact q)
theorem ax_catsum (ad : Nat → Nat) (vs : List Value) : ((vs.map (ax_v ad)).map fun v => v.category).sum = (vs.map fun v => v.category).sum := by
  rw [List.map_map]
  congr 1
  apply List.map_congr_left
  intro v _
  exact ax_cat ad v
theorem ab_callV (d : decode Y.2.1 pc = .ok (.invokevirtual idx, 3)) (hm : ax_mv Y1 ci n) (hlk : Cond.methodLink Y.1.cls idx Y1.1 ∈ TB) (hr : ax_rm Y Y1) (hk : kn.1 ≤ Y.2.2.2.2.1.cells ∧ kn.2 ≤ Y.2.2.2.2.1.slots) (hst : st = As.reverse ++ .ref b :: rest) (hn : As.length = n) (hcat : (rest.map fun v => v.category).sum ≤ 8) (hg : ax_get w b = some (ob ci fs)) (hct : Ct Y1 (.ref b :: As) w Q1) (kk : ∀ (r : Option Value) (w' : ax_W), Q1 r w' → Ab Y Q kn (pc + 3) la (r.toList ++ rest) w') : Ab Y Q kn pc la st w := by
  intro p l e R s m args below meth c D ca ad A Qf H locs ls hC hP hl hE
  obtain ⟨m1, m2, m3, m4, m5, T, N, m6⟩ := hm
  obtain ⟨r1, r2, r3, r4, r5⟩ := hr
  obtain ⟨q, hq, -⟩ := ax_at (ca := ca) (ad := ad) hg
  have hRR : R = Y.2.2.2.2.1 := hC.2.2.2.2.2.2.2.2.1
  have hMet := hct l hC.2.2.2.2.2.2.2.2.2.2.2.2.1 D ca ad H.size
  rw [r3, r4, r5] at hMet
  have hK := hC.2.2.2.2.2.2.2.2.2.1
  refine ax_back hC hP hl hE (va_runV (C := Y1.1.cls) (b := ad b) (As := As.map (ax_v ad)) (n := n) ⟨hC.1, hC.2.1, hC.2.2.1, hC.2.2.2.2.1, hC.2.2.2.2.2.1⟩ hMet (cwV n hC.2.2.2.2.2.1 (ax_words (by intro x hx; simp only [List.mem_cons, List.not_mem_nil, or_false] at hx; rcases hx with rfl | rfl | rfl | rfl <;> assumption) m4) rfl r3 r4 ⟨rfl, m5⟩ (by rw [hRR]; exact ⟨r1, r2⟩)) ⟨ax_blind, va_recv hK hP.1 m6 hq, ax_pre hC hP (.ref b :: As)⟩ rfl (by rw [List.length_map]; exact hn) hl.1 (by rw [hst]; simp [F0, ax_v]) (by rw [ax_catsum]; exact lv_room hcat) d (by rw [hRR]; exact hk)) kk
theorem ab_callS (d : decode Y.2.1 pc = .ok (.invokestatic idx, 3)) (hm : ax_ms Y1 n) (hlk : Cond.methodLink Y.1.cls idx Y1.1 ∈ TB) (hr : ax_rm Y Y1) (hk : kn.1 ≤ Y.2.2.2.2.1.cells ∧ kn.2 ≤ Y.2.2.2.2.1.slots) (hst : st = As.reverse ++ rest) (hn : As.length = n) (hcat : (rest.map fun v => v.category).sum ≤ 8) (hct : Ct Y1 As w Q1) (kk : ∀ (r : Option Value) (w' : ax_W), Q1 r w' → Ab Y Q kn (pc + 3) la (r.toList ++ rest) w') : Ab Y Q kn pc la st w := by
  intro p l e R s m args below meth c D ca ad A Qf H locs ls hC hP hl hE
  obtain ⟨m1, m3, m4, m5⟩ := hm
  obtain ⟨r1, r2, r3, r4, r5⟩ := hr
  have hRR : R = Y.2.2.2.2.1 := hC.2.2.2.2.2.2.2.2.1
  have hMet := hct l hC.2.2.2.2.2.2.2.2.2.2.2.2.1 D ca ad H.size
  rw [r3, r4, r5] at hMet
  refine ax_back hC hP hl hE (va_runS (As := As.map (ax_v ad)) (n := n) ⟨hC.1, hC.2.1, hC.2.2.1, hC.2.2.2.2.1, hC.2.2.2.2.2.1⟩ hMet (va_cwS n hC.2.2.2.2.2.1 (ax_words (by intro x hx; simp only [List.mem_cons, List.not_mem_nil, or_false] at hx; rcases hx with rfl | rfl | rfl <;> assumption) m4) rfl r3 r4 m5 (by rw [hRR]; exact ⟨r1, r2⟩)) ⟨ax_blind, ax_pre hC hP As⟩ rfl (by rw [List.length_map]; exact hn) hl.1 (by rw [hst]; simp [F0]) (by rw [ax_catsum]; exact lv_room hcat) d (by rw [hRR]; exact hk)) kk
end CALL
