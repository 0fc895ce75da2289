/-! RULES: one an instruction. -/
abbrev ob (c : Nat) (fs : List Value) : ax_E := .inr (.inr (c, fs))
abbrev ia (n : Nat) (f : Nat → Int32) : ax_E := .inl (0, n, f)
abbrev ba (n : Nat) (f : Nat → Int32) : ax_E := .inl (1, n, f)
abbrev ja (n : Nat) (f : Nat → Int64) : ax_E := .inr (.inl (n, f))
def ax_lv (la : List (Nat × Value)) (i : Nat) : Option Value := (la.find? (fun q => q.1 == i)).map (fun q => q.2)
theorem ax_lv_at {ad : Nat → Nat} {ls : Array Slot} {nL : Nat} {la : List (Nat × Value)} {i : Nat} {v : Value} (hl : lv_has ls nL (la.map fun q => (q.1, ax_v ad q.2))) (h : ax_lv la i = some v) : ls[i]? = some (.val (ax_v ad v)) := by
  unfold ax_lv at h
  cases hf : la.find? (fun q => q.1 == i) with
  | none => rw [hf] at h; cases h
  | some q =>
    rw [hf] at h
    have hm := List.mem_of_find?_eq_some hf
    have hk := List.find?_some hf
    simp only [beq_iff_eq] at hk
    have hv : q.2 = v := Option.some.inj h
    have h9 := hl.2.2 (q.1, ax_v ad q.2) (List.mem_map.mpr ⟨q, hm, rfl⟩)
    rw [hk, hv] at h9
    exact h9
def ax_s1 (la : List (Nat × Value)) (i : Nat) (v : Value) : List (Nat × Value) := (i, v) :: la.filter (fun q => !(q.1 == i) && !(q.1 + 1 == i && q.2.category == 2))
def ax_s2 (la : List (Nat × Value)) (i : Nat) (v : Value) : List (Nat × Value) := (i, v) :: la.filter (fun q => !(q.1 == i) && (!(q.1 == i + 1) && !(q.1 + 1 == i && q.2.category == 2)))
theorem ax_cat (ad : Nat → Nat) (v : Value) : (ax_v ad v).category = v.category := by cases v <;> rfl
theorem ax_s1_map (ad : Nat → Nat) (la : List (Nat × Value)) (i : Nat) (v : Value) : (i, ax_v ad v) :: (la.map fun q => (q.1, ax_v ad q.2)).filter (fun q => !(q.1 == i) && !(q.1 + 1 == i && q.2.category == 2)) = (ax_s1 la i v).map fun q => (q.1, ax_v ad q.2) := by
  unfold ax_s1
  rw [List.map_cons, List.filter_map]
  congr 2
  apply List.filter_congr
  intro q _
  simp only [Function.comp, ax_cat]
theorem ax_s2_map (ad : Nat → Nat) (la : List (Nat × Value)) (i : Nat) (v : Value) : (i, ax_v ad v) :: (la.map fun q => (q.1, ax_v ad q.2)).filter (fun q => !(q.1 == i) && (!(q.1 == i + 1) && !(q.1 + 1 == i && q.2.category == 2))) = (ax_s2 la i v).map fun q => (q.1, ax_v ad q.2) := by
  unfold ax_s2
  rw [List.map_cons, List.filter_map]
  congr 2
  apply List.filter_congr
  intro q _
  simp only [Function.comp, ax_cat]
section RULES
variable {Y : ax_M} {Q : Option Value → ax_W → Prop} {kn : Nat × Nat} {pc : Nat} {la la' : List (Nat × Value)} {rest : List Value} {w : ax_W}
theorem ab_iconst {n : Int} {v : Int32} (d : decode Y.2.1 pc = .ok (.iconst n, 1)) (hv : Int32.ofInt n = v) (k : Ab Y Q kn (pc + 1) la (.int v :: rest) w) : Ab Y Q kn pc la rest w :=
  fun p l e R s m args below meth c D ca ad A Qf H locs ls hC hP hl hE => lv_iconst hC.1 hC.2.1 d hv (k p l e R s m args below meth c D ca ad A Qf H locs ls hC hP hl hE)
theorem ab_bipush {n : Int} {v : Int32} (d : decode Y.2.1 pc = .ok (.bipush n, 2)) (hv : (Int8.ofInt n).toInt32 = v) (k : Ab Y Q kn (pc + 2) la (.int v :: rest) w) : Ab Y Q kn pc la rest w :=
  fun p l e R s m args below meth c D ca ad A Qf H locs ls hC hP hl hE => lv_bipush hC.1 hC.2.1 d hv (k p l e R s m args below meth c D ca ad A Qf H locs ls hC hP hl hE)
theorem ab_sipush {n : Int} {v : Int32} (d : decode Y.2.1 pc = .ok (.sipush n, 3)) (hv : (Int16.ofInt n).toInt32 = v) (k : Ab Y Q kn (pc + 3) la (.int v :: rest) w) : Ab Y Q kn pc la rest w :=
  fun p l e R s m args below meth c D ca ad A Qf H locs ls hC hP hl hE => lv_sipush hC.1 hC.2.1 d hv (k p l e R s m args below meth c D ca ad A Qf H locs ls hC hP hl hE)
theorem ab_lconst {n : Fin 2} {v : Int64} (d : decode Y.2.1 pc = .ok (.lconst n, 1)) (hv : Int64.ofNat (n : Nat) = v) (k : Ab Y Q kn (pc + 1) la (.long v :: rest) w) : Ab Y Q kn pc la rest w :=
  fun p l e R s m args below meth c D ca ad A Qf H locs ls hC hP hl hE => lv_lconst hC.1 hC.2.1 d hv (k p l e R s m args below meth c D ca ad A Qf H locs ls hC hP hl hE)
theorem ab_ldc {i : Nat} {v : Int32} (d : decode Y.2.1 pc = .ok (.ldc i, 2)) (hw : Cond.constant Y.1.cls i v ∈ TB) (k : Ab Y Q kn (pc + 2) la (.int v :: rest) w) : Ab Y Q kn pc la rest w :=
  fun p l e R s m args below meth c D ca ad A Qf H locs ls hC hP hl hE => lv_ldc hC.1 hC.2.1 hC.2.2.2.2.1 (hC.2.2.2.2.2.1 _ hw) d (k p l e R s m args below meth c D ca ad A Qf H locs ls hC hP hl hE)
theorem ab_ldc2 {i : Nat} {v : Int64} (d : decode Y.2.1 pc = .ok (.ldc2_w i, 3)) (hw : Cond.constantLong Y.1.cls i v ∈ TB) (k : Ab Y Q kn (pc + 3) la (.long v :: rest) w) : Ab Y Q kn pc la rest w :=
  fun p l e R s m args below meth c D ca ad A Qf H locs ls hC hP hl hE => lv_ldc2 hC.1 hC.2.1 hC.2.2.2.2.1 (hC.2.2.2.2.2.1 _ hw) d (k p l e R s m args below meth c D ca ad A Qf H locs ls hC hP hl hE)
theorem ab_ldcS {i j : Nat} {tx : String} {a : Nat} (d : decode Y.2.1 pc = .ok (.ldc i, 2)) (hj : ax_sr[j]? = some (Y.1.cls, i, tx, a)) (k : Ab Y Q kn (pc + 2) la (.ref (3000 + a) :: rest) w) : Ab Y Q kn pc la rest w :=
  fun p l e R s m args below meth c D ca ad A Qf H locs ls hC hP hl hE => va_ldcS (tx := tx) hC.1 hC.2.1 hC.2.2.2.2.1 (hC.2.2.2.2.2.2.2.2.2.2.2.1.2.2.1 j _ hj) d (k p l e R s m args below meth c D ca ad A Qf H locs ls hC hP hl hE)
theorem ab_iload_n {j : Fin 4} {x : Int32} (d : decode Y.2.1 pc = .ok (.iload_n j, 1)) (h : ax_lv la j = some (.int x)) (k : Ab Y Q kn (pc + 1) la (.int x :: rest) w) : Ab Y Q kn pc la rest w :=
  fun p l e R s m args below meth c D ca ad A Qf H locs ls hC hP hl hE => lv_iload_n hC.1 hC.2.1 d rfl (ax_lv_at hl h) (k p l e R s m args below meth c D ca ad A Qf H locs ls hC hP hl hE)
theorem ab_iload {i : Nat} {x : Int32} (d : decode Y.2.1 pc = .ok (.iload i, 2)) (h : ax_lv la i = some (.int x)) (k : Ab Y Q kn (pc + 2) la (.int x :: rest) w) : Ab Y Q kn pc la rest w :=
  fun p l e R s m args below meth c D ca ad A Qf H locs ls hC hP hl hE => lv_iload hC.1 hC.2.1 d (ax_lv_at hl h) (k p l e R s m args below meth c D ca ad A Qf H locs ls hC hP hl hE)
theorem ab_istore_n {i : Fin 4} {x : Int32} (d : decode Y.2.1 pc = .ok (.istore_n i, 1)) (hn : (i : Nat) < Y.2.2.1) (hs : ax_s1 la i (.int x) = la') (k : Ab Y Q kn (pc + 1) la' rest w) : Ab Y Q kn pc la (.int x :: rest) w :=
  fun p l e R s m args below meth c D ca ad A Qf H locs ls hC hP hl hE => lv_istore_n hC.1 hC.2.1 d rfl hl hn ((ax_s1_map ad la i (.int x)).trans (by rw [hs])) (fun ls1 hl1 => k p l e R s m args below meth c D ca ad A Qf H locs ls1 hC hP hl1 hE)
theorem ab_istore {i : Nat} {x : Int32} (d : decode Y.2.1 pc = .ok (.istore i, 2)) (hn : (i : Nat) < Y.2.2.1) (hs : ax_s1 la i (.int x) = la') (k : Ab Y Q kn (pc + 2) la' rest w) : Ab Y Q kn pc la (.int x :: rest) w :=
  fun p l e R s m args below meth c D ca ad A Qf H locs ls hC hP hl hE => lv_istore hC.1 hC.2.1 d hl hn ((ax_s1_map ad la i (.int x)).trans (by rw [hs])) (fun ls1 hl1 => k p l e R s m args below meth c D ca ad A Qf H locs ls1 hC hP hl1 hE)
theorem ab_lload_n {j : Fin 4} {x : Int64} (d : decode Y.2.1 pc = .ok (.lload_n j, 1)) (h : ax_lv la j = some (.long x)) (k : Ab Y Q kn (pc + 1) la (.long x :: rest) w) : Ab Y Q kn pc la rest w :=
  fun p l e R s m args below meth c D ca ad A Qf H locs ls hC hP hl hE => lv_lload_n hC.1 hC.2.1 d rfl (ax_lv_at hl h) (k p l e R s m args below meth c D ca ad A Qf H locs ls hC hP hl hE)
theorem ab_lload {i : Nat} {x : Int64} (d : decode Y.2.1 pc = .ok (.lload i, 2)) (h : ax_lv la i = some (.long x)) (k : Ab Y Q kn (pc + 2) la (.long x :: rest) w) : Ab Y Q kn pc la rest w :=
  fun p l e R s m args below meth c D ca ad A Qf H locs ls hC hP hl hE => lv_lload hC.1 hC.2.1 d (ax_lv_at hl h) (k p l e R s m args below meth c D ca ad A Qf H locs ls hC hP hl hE)
theorem ab_lstore_n {i : Fin 4} {x : Int64} (d : decode Y.2.1 pc = .ok (.lstore_n i, 1)) (hn : (i : Nat) + 1 < Y.2.2.1) (hs : ax_s2 la i (.long x) = la') (k : Ab Y Q kn (pc + 1) la' rest w) : Ab Y Q kn pc la (.long x :: rest) w :=
  fun p l e R s m args below meth c D ca ad A Qf H locs ls hC hP hl hE => lv_lstore_n hC.1 hC.2.1 d rfl hl hn ((ax_s2_map ad la i (.long x)).trans (by rw [hs])) (fun ls1 hl1 => k p l e R s m args below meth c D ca ad A Qf H locs ls1 hC hP hl1 hE)
theorem ab_lstore {i : Nat} {x : Int64} (d : decode Y.2.1 pc = .ok (.lstore i, 2)) (hn : (i : Nat) + 1 < Y.2.2.1) (hs : ax_s2 la i (.long x) = la') (k : Ab Y Q kn (pc + 2) la' rest w) : Ab Y Q kn pc la (.long x :: rest) w :=
  fun p l e R s m args below meth c D ca ad A Qf H locs ls hC hP hl hE => lv_lstore hC.1 hC.2.1 d hl hn ((ax_s2_map ad la i (.long x)).trans (by rw [hs])) (fun ls1 hl1 => k p l e R s m args below meth c D ca ad A Qf H locs ls1 hC hP hl1 hE)
theorem ab_aload_n {j : Fin 4} {x : Nat} (d : decode Y.2.1 pc = .ok (.aload_n j, 1)) (h : ax_lv la j = some (.ref x)) (k : Ab Y Q kn (pc + 1) la (.ref x :: rest) w) : Ab Y Q kn pc la rest w :=
  fun p l e R s m args below meth c D ca ad A Qf H locs ls hC hP hl hE => lv_aload_n hC.1 hC.2.1 d rfl (ax_lv_at hl h) (k p l e R s m args below meth c D ca ad A Qf H locs ls hC hP hl hE)
theorem ab_aload {i : Nat} {x : Nat} (d : decode Y.2.1 pc = .ok (.aload i, 2)) (h : ax_lv la i = some (.ref x)) (k : Ab Y Q kn (pc + 2) la (.ref x :: rest) w) : Ab Y Q kn pc la rest w :=
  fun p l e R s m args below meth c D ca ad A Qf H locs ls hC hP hl hE => lv_aload hC.1 hC.2.1 d (ax_lv_at hl h) (k p l e R s m args below meth c D ca ad A Qf H locs ls hC hP hl hE)
theorem ab_astore_n {i : Fin 4} {x : Nat} (d : decode Y.2.1 pc = .ok (.astore_n i, 1)) (hn : (i : Nat) < Y.2.2.1) (hs : ax_s1 la i (.ref x) = la') (k : Ab Y Q kn (pc + 1) la' rest w) : Ab Y Q kn pc la (.ref x :: rest) w :=
  fun p l e R s m args below meth c D ca ad A Qf H locs ls hC hP hl hE => lv_astore_n hC.1 hC.2.1 d rfl hl hn ((ax_s1_map ad la i (.ref x)).trans (by rw [hs])) (fun ls1 hl1 => k p l e R s m args below meth c D ca ad A Qf H locs ls1 hC hP hl1 hE)
theorem ab_astore {i : Nat} {x : Nat} (d : decode Y.2.1 pc = .ok (.astore i, 2)) (hn : (i : Nat) < Y.2.2.1) (hs : ax_s1 la i (.ref x) = la') (k : Ab Y Q kn (pc + 2) la' rest w) : Ab Y Q kn pc la (.ref x :: rest) w :=
  fun p l e R s m args below meth c D ca ad A Qf H locs ls hC hP hl hE => lv_astore hC.1 hC.2.1 d hl hn ((ax_s1_map ad la i (.ref x)).trans (by rw [hs])) (fun ls1 hl1 => k p l e R s m args below meth c D ca ad A Qf H locs ls1 hC hP hl1 hE)
theorem ab_iinc {i : Nat} {n : Int} {x v : Int32} (d : decode Y.2.1 pc = .ok (.iinc i n, 3)) (h : ax_lv la i = some (.int x)) (hv : x + Int32.ofInt n = v) (hn : i < Y.2.2.1) (hs : ax_s1 la i (.int v) = la') (k : Ab Y Q kn (pc + 3) la' rest w) : Ab Y Q kn pc la rest w := by
  intro p l e R s m args below meth c D ca ad A Qf H locs ls hC hP hl hE
  unfold ax_lv at h
  cases hf : la.find? (fun q => q.1 == i) with
  | none => rw [hf] at h; cases h
  | some q =>
    rw [hf] at h
    have hm := List.mem_of_find?_eq_some hf
    have hk := List.find?_some hf
    simp only [beq_iff_eq] at hk
    have hq : q.2 = .int x := Option.some.inj h
    obtain ⟨j, hj⟩ := List.getElem?_of_mem hm
    have hj2 : (la.map fun q => (q.1, ax_v ad q.2))[j]? = some (i, .int x) := by
      rw [List.getElem?_map, hj]
      show some (q.1, ax_v ad q.2) = _
      rw [hk, hq]; rfl
    exact lv_iinc hC.1 hC.2.1 d hl hj2 hv hn ((ax_s1_map ad la i (.int v)).trans (by rw [hs])) (fun ls1 hl1 => k p l e R s m args below meth c D ca ad A Qf H locs ls1 hC hP hl1 hE)
theorem ab_iadd {x y : Int32} (d : decode Y.2.1 pc = .ok (.iadd, 1)) (k : Ab Y Q kn (pc + 1) la (.int (x + y) :: rest) w) : Ab Y Q kn pc la (.int y :: .int x :: rest) w :=
  fun p l e R s m args below meth c D ca ad A Qf H locs ls hC hP hl hE => lv_iadd hC.1 hC.2.1 d (k p l e R s m args below meth c D ca ad A Qf H locs ls hC hP hl hE)
theorem ab_isub {x y : Int32} (d : decode Y.2.1 pc = .ok (.isub, 1)) (k : Ab Y Q kn (pc + 1) la (.int (x - y) :: rest) w) : Ab Y Q kn pc la (.int y :: .int x :: rest) w :=
  fun p l e R s m args below meth c D ca ad A Qf H locs ls hC hP hl hE => lv_isub hC.1 hC.2.1 d (k p l e R s m args below meth c D ca ad A Qf H locs ls hC hP hl hE)
theorem ab_imul {x y : Int32} (d : decode Y.2.1 pc = .ok (.imul, 1)) (k : Ab Y Q kn (pc + 1) la (.int (x * y) :: rest) w) : Ab Y Q kn pc la (.int y :: .int x :: rest) w :=
  fun p l e R s m args below meth c D ca ad A Qf H locs ls hC hP hl hE => lv_imul hC.1 hC.2.1 d (k p l e R s m args below meth c D ca ad A Qf H locs ls hC hP hl hE)
theorem ab_iand {x y : Int32} (d : decode Y.2.1 pc = .ok (.iand, 1)) (k : Ab Y Q kn (pc + 1) la (.int (x &&& y) :: rest) w) : Ab Y Q kn pc la (.int y :: .int x :: rest) w :=
  fun p l e R s m args below meth c D ca ad A Qf H locs ls hC hP hl hE => lv_iand hC.1 hC.2.1 d (k p l e R s m args below meth c D ca ad A Qf H locs ls hC hP hl hE)
theorem ab_ior {x y : Int32} (d : decode Y.2.1 pc = .ok (.ior, 1)) (k : Ab Y Q kn (pc + 1) la (.int (x ||| y) :: rest) w) : Ab Y Q kn pc la (.int y :: .int x :: rest) w :=
  fun p l e R s m args below meth c D ca ad A Qf H locs ls hC hP hl hE => lv_ior hC.1 hC.2.1 d (k p l e R s m args below meth c D ca ad A Qf H locs ls hC hP hl hE)
theorem ab_ixor {x y : Int32} (d : decode Y.2.1 pc = .ok (.ixor, 1)) (k : Ab Y Q kn (pc + 1) la (.int (x ^^^ y) :: rest) w) : Ab Y Q kn pc la (.int y :: .int x :: rest) w :=
  fun p l e R s m args below meth c D ca ad A Qf H locs ls hC hP hl hE => lv_ixor hC.1 hC.2.1 d (k p l e R s m args below meth c D ca ad A Qf H locs ls hC hP hl hE)
theorem ab_ishl {x y : Int32} (d : decode Y.2.1 pc = .ok (.ishl, 1)) (k : Ab Y Q kn (pc + 1) la (.int (x <<< (y &&& 31)) :: rest) w) : Ab Y Q kn pc la (.int y :: .int x :: rest) w :=
  fun p l e R s m args below meth c D ca ad A Qf H locs ls hC hP hl hE => lv_ishl hC.1 hC.2.1 d (k p l e R s m args below meth c D ca ad A Qf H locs ls hC hP hl hE)
theorem ab_ishr {x y : Int32} (d : decode Y.2.1 pc = .ok (.ishr, 1)) (k : Ab Y Q kn (pc + 1) la (.int (x >>> (y &&& 31)) :: rest) w) : Ab Y Q kn pc la (.int y :: .int x :: rest) w :=
  fun p l e R s m args below meth c D ca ad A Qf H locs ls hC hP hl hE => lv_ishr hC.1 hC.2.1 d (k p l e R s m args below meth c D ca ad A Qf H locs ls hC hP hl hE)
theorem ab_ladd {x y : Int64} (d : decode Y.2.1 pc = .ok (.ladd, 1)) (k : Ab Y Q kn (pc + 1) la (.long (x + y) :: rest) w) : Ab Y Q kn pc la (.long y :: .long x :: rest) w :=
  fun p l e R s m args below meth c D ca ad A Qf H locs ls hC hP hl hE => lv_ladd hC.1 hC.2.1 d (k p l e R s m args below meth c D ca ad A Qf H locs ls hC hP hl hE)
theorem ab_lsub {x y : Int64} (d : decode Y.2.1 pc = .ok (.lsub, 1)) (k : Ab Y Q kn (pc + 1) la (.long (x - y) :: rest) w) : Ab Y Q kn pc la (.long y :: .long x :: rest) w :=
  fun p l e R s m args below meth c D ca ad A Qf H locs ls hC hP hl hE => lv_lsub hC.1 hC.2.1 d (k p l e R s m args below meth c D ca ad A Qf H locs ls hC hP hl hE)
theorem ab_lmul {x y : Int64} (d : decode Y.2.1 pc = .ok (.lmul, 1)) (k : Ab Y Q kn (pc + 1) la (.long (x * y) :: rest) w) : Ab Y Q kn pc la (.long y :: .long x :: rest) w :=
  fun p l e R s m args below meth c D ca ad A Qf H locs ls hC hP hl hE => lv_lmul hC.1 hC.2.1 d (k p l e R s m args below meth c D ca ad A Qf H locs ls hC hP hl hE)
theorem ab_land {x y : Int64} (d : decode Y.2.1 pc = .ok (.land, 1)) (k : Ab Y Q kn (pc + 1) la (.long (x &&& y) :: rest) w) : Ab Y Q kn pc la (.long y :: .long x :: rest) w :=
  fun p l e R s m args below meth c D ca ad A Qf H locs ls hC hP hl hE => lv_land hC.1 hC.2.1 d (k p l e R s m args below meth c D ca ad A Qf H locs ls hC hP hl hE)
theorem ab_lor {x y : Int64} (d : decode Y.2.1 pc = .ok (.lor, 1)) (k : Ab Y Q kn (pc + 1) la (.long (x ||| y) :: rest) w) : Ab Y Q kn pc la (.long y :: .long x :: rest) w :=
  fun p l e R s m args below meth c D ca ad A Qf H locs ls hC hP hl hE => lv_lor hC.1 hC.2.1 d (k p l e R s m args below meth c D ca ad A Qf H locs ls hC hP hl hE)
theorem ab_lxor {x y : Int64} (d : decode Y.2.1 pc = .ok (.lxor, 1)) (k : Ab Y Q kn (pc + 1) la (.long (x ^^^ y) :: rest) w) : Ab Y Q kn pc la (.long y :: .long x :: rest) w :=
  fun p l e R s m args below meth c D ca ad A Qf H locs ls hC hP hl hE => lv_lxor hC.1 hC.2.1 d (k p l e R s m args below meth c D ca ad A Qf H locs ls hC hP hl hE)
theorem ab_idiv {x y : Int32} (d : decode Y.2.1 pc = .ok (.idiv, 1)) (hne : ¬ y = 0) (k : Ab Y Q kn (pc + 1) la (.int (x / y) :: rest) w) : Ab Y Q kn pc la (.int y :: .int x :: rest) w :=
  fun p l e R s m args below meth c D ca ad A Qf H locs ls hC hP hl hE => lv_idiv hC.1 hC.2.1 d hne (k p l e R s m args below meth c D ca ad A Qf H locs ls hC hP hl hE)
theorem ab_irem {x y : Int32} (d : decode Y.2.1 pc = .ok (.irem, 1)) (hne : ¬ y = 0) (k : Ab Y Q kn (pc + 1) la (.int (x - x / y * y) :: rest) w) : Ab Y Q kn pc la (.int y :: .int x :: rest) w :=
  fun p l e R s m args below meth c D ca ad A Qf H locs ls hC hP hl hE => lv_irem hC.1 hC.2.1 d hne (k p l e R s m args below meth c D ca ad A Qf H locs ls hC hP hl hE)
theorem ab_ldiv {x y : Int64} (d : decode Y.2.1 pc = .ok (.ldiv, 1)) (hne : ¬ y = 0) (k : Ab Y Q kn (pc + 1) la (.long (x / y) :: rest) w) : Ab Y Q kn pc la (.long y :: .long x :: rest) w :=
  fun p l e R s m args below meth c D ca ad A Qf H locs ls hC hP hl hE => lv_ldiv hC.1 hC.2.1 d hne (k p l e R s m args below meth c D ca ad A Qf H locs ls hC hP hl hE)
theorem ab_lrem {x y : Int64} (d : decode Y.2.1 pc = .ok (.lrem, 1)) (hne : ¬ y = 0) (k : Ab Y Q kn (pc + 1) la (.long (x - x / y * y) :: rest) w) : Ab Y Q kn pc la (.long y :: .long x :: rest) w :=
  fun p l e R s m args below meth c D ca ad A Qf H locs ls hC hP hl hE => lv_lrem hC.1 hC.2.1 d hne (k p l e R s m args below meth c D ca ad A Qf H locs ls hC hP hl hE)
theorem ab_ineg {x : Int32} (d : decode Y.2.1 pc = .ok (.ineg, 1)) (k : Ab Y Q kn (pc + 1) la (.int (-x) :: rest) w) : Ab Y Q kn pc la (.int x :: rest) w :=
  fun p l e R s m args below meth c D ca ad A Qf H locs ls hC hP hl hE => lv_ineg hC.1 hC.2.1 d (k p l e R s m args below meth c D ca ad A Qf H locs ls hC hP hl hE)
theorem ab_lneg {x : Int64} (d : decode Y.2.1 pc = .ok (.lneg, 1)) (k : Ab Y Q kn (pc + 1) la (.long (-x) :: rest) w) : Ab Y Q kn pc la (.long x :: rest) w :=
  fun p l e R s m args below meth c D ca ad A Qf H locs ls hC hP hl hE => lv_lneg hC.1 hC.2.1 d (k p l e R s m args below meth c D ca ad A Qf H locs ls hC hP hl hE)
theorem ab_i2l {x : Int32} (d : decode Y.2.1 pc = .ok (.i2l, 1)) (k : Ab Y Q kn (pc + 1) la (.long x.toInt64 :: rest) w) : Ab Y Q kn pc la (.int x :: rest) w :=
  fun p l e R s m args below meth c D ca ad A Qf H locs ls hC hP hl hE => lv_i2l hC.1 hC.2.1 d rfl (k p l e R s m args below meth c D ca ad A Qf H locs ls hC hP hl hE)
theorem ab_l2i {x : Int64} (d : decode Y.2.1 pc = .ok (.l2i, 1)) (k : Ab Y Q kn (pc + 1) la (.int x.toInt32 :: rest) w) : Ab Y Q kn pc la (.long x :: rest) w :=
  fun p l e R s m args below meth c D ca ad A Qf H locs ls hC hP hl hE => lv_l2i hC.1 hC.2.1 d rfl (k p l e R s m args below meth c D ca ad A Qf H locs ls hC hP hl hE)
theorem ab_i2b {x : Int32} (d : decode Y.2.1 pc = .ok (.i2b, 1)) (k : Ab Y Q kn (pc + 1) la (.int x.toInt8.toInt32 :: rest) w) : Ab Y Q kn pc la (.int x :: rest) w :=
  fun p l e R s m args below meth c D ca ad A Qf H locs ls hC hP hl hE => lv_i2b hC.1 hC.2.1 d rfl (k p l e R s m args below meth c D ca ad A Qf H locs ls hC hP hl hE)
theorem ab_i2c {x : Int32} (d : decode Y.2.1 pc = .ok (.i2c, 1)) (k : Ab Y Q kn (pc + 1) la (.int (x.toUInt32 % 65536).toInt32 :: rest) w) : Ab Y Q kn pc la (.int x :: rest) w :=
  fun p l e R s m args below meth c D ca ad A Qf H locs ls hC hP hl hE => lv_i2c hC.1 hC.2.1 d rfl (k p l e R s m args below meth c D ca ad A Qf H locs ls hC hP hl hE)
theorem ab_iushr {x y : Int32} (d : decode Y.2.1 pc = .ok (.iushr, 1)) (k : Ab Y Q kn (pc + 1) la (.int (x.toUInt32 >>> (y.toUInt32 &&& Int32.toUInt32 31)).toInt32 :: rest) w) : Ab Y Q kn pc la (.int y :: .int x :: rest) w :=
  fun p l e R s m args below meth c D ca ad A Qf H locs ls hC hP hl hE => lv_iushr hC.1 hC.2.1 d rfl (k p l e R s m args below meth c D ca ad A Qf H locs ls hC hP hl hE)
theorem ab_lushr {x : Int64} {y : Int32} (d : decode Y.2.1 pc = .ok (.lushr, 1)) (k : Ab Y Q kn (pc + 1) la (.long (x.toUInt64 >>> (y.toInt64.toUInt64 &&& Int64.toUInt64 63)).toInt64 :: rest) w) : Ab Y Q kn pc la (.int y :: .long x :: rest) w :=
  fun p l e R s m args below meth c D ca ad A Qf H locs ls hC hP hl hE => lv_lushr hC.1 hC.2.1 d rfl (k p l e R s m args below meth c D ca ad A Qf H locs ls hC hP hl hE)
theorem ab_lshl {x : Int64} {y : Int32} (d : decode Y.2.1 pc = .ok (.lshl, 1)) (k : Ab Y Q kn (pc + 1) la (.long (x <<< (y.toInt64 &&& 63)) :: rest) w) : Ab Y Q kn pc la (.int y :: .long x :: rest) w :=
  fun p l e R s m args below meth c D ca ad A Qf H locs ls hC hP hl hE => lv_lshl hC.1 hC.2.1 d rfl (k p l e R s m args below meth c D ca ad A Qf H locs ls hC hP hl hE)
theorem ab_lshr {x : Int64} {y : Int32} (d : decode Y.2.1 pc = .ok (.lshr, 1)) (k : Ab Y Q kn (pc + 1) la (.long (x >>> (y.toInt64 &&& 63)) :: rest) w) : Ab Y Q kn pc la (.int y :: .long x :: rest) w :=
  fun p l e R s m args below meth c D ca ad A Qf H locs ls hC hP hl hE => lv_lshr hC.1 hC.2.1 d rfl (k p l e R s m args below meth c D ca ad A Qf H locs ls hC hP hl hE)
theorem ab_dup {v : Value} (hv : v.category = 1) (d : decode Y.2.1 pc = .ok (.dup, 1)) (k : Ab Y Q kn (pc + 1) la (v :: v :: rest) w) : Ab Y Q kn pc la (v :: rest) w :=
  fun p l e R s m args below meth c D ca ad A Qf H locs ls hC hP hl hE => lv_dup hC.1 hC.2.1 d ((ax_cat ad v).trans hv) (k p l e R s m args below meth c D ca ad A Qf H locs ls hC hP hl hE)
theorem ab_pop {v : Value} (hv : v.category = 1) (d : decode Y.2.1 pc = .ok (.pop, 1)) (k : Ab Y Q kn (pc + 1) la rest w) : Ab Y Q kn pc la (v :: rest) w :=
  fun p l e R s m args below meth c D ca ad A Qf H locs ls hC hP hl hE => lv_pop hC.1 hC.2.1 d ((ax_cat ad v).trans hv) (k p l e R s m args below meth c D ca ad A Qf H locs ls hC hP hl hE)
theorem ab_dup2 {u v : Value} (hu : u.category = 1) (hv : v.category = 1) (d : decode Y.2.1 pc = .ok (.dup2, 1)) (k : Ab Y Q kn (pc + 1) la (v :: u :: v :: u :: rest) w) : Ab Y Q kn pc la (v :: u :: rest) w :=
  fun p l e R s m args below meth c D ca ad A Qf H locs ls hC hP hl hE => lv_dup2_11 hC.1 hC.2.1 d ((ax_cat ad v).trans hv) ((ax_cat ad u).trans hu) (k p l e R s m args below meth c D ca ad A Qf H locs ls hC hP hl hE)
theorem ab_ifeq {x : Int32} {off : Int} (tgt : Nat) (d : decode Y.2.1 pc = .ok (.ifCond .eq off, 3)) (ht : (pc : Int) + off = (tgt : Int)) (kt : x = 0 → Ab Y Q kn tgt la rest w) (kf : ¬ (x = 0) → Ab Y Q kn (pc + 3) la rest w) : Ab Y Q kn pc la (.int x :: rest) w :=
  fun p l e R s m args below meth c D ca ad A Qf H locs ls hC hP hl hE => lv_if_eq hC.1 hC.2.1 d ht (fun h => kt h p l e R s m args below meth c D ca ad A Qf H locs ls hC hP hl hE) (fun h => kf h p l e R s m args below meth c D ca ad A Qf H locs ls hC hP hl hE)
theorem ab_icmpeq {x y : Int32} {off : Int} (tgt : Nat) (d : decode Y.2.1 pc = .ok (.if_icmp .eq off, 3)) (ht : (pc : Int) + off = (tgt : Int)) (kt : x = y → Ab Y Q kn tgt la rest w) (kf : ¬ (x = y) → Ab Y Q kn (pc + 3) la rest w) : Ab Y Q kn pc la (.int y :: .int x :: rest) w :=
  fun p l e R s m args below meth c D ca ad A Qf H locs ls hC hP hl hE => lv_icmp_eq hC.1 hC.2.1 d ht (fun h => kt h p l e R s m args below meth c D ca ad A Qf H locs ls hC hP hl hE) (fun h => kf h p l e R s m args below meth c D ca ad A Qf H locs ls hC hP hl hE)
theorem ab_ifne {x : Int32} {off : Int} (tgt : Nat) (d : decode Y.2.1 pc = .ok (.ifCond .ne off, 3)) (ht : (pc : Int) + off = (tgt : Int)) (kt : ¬ x = 0 → Ab Y Q kn tgt la rest w) (kf : x = 0 → Ab Y Q kn (pc + 3) la rest w) : Ab Y Q kn pc la (.int x :: rest) w :=
  fun p l e R s m args below meth c D ca ad A Qf H locs ls hC hP hl hE => lv_if_ne hC.1 hC.2.1 d ht (fun h => kt h p l e R s m args below meth c D ca ad A Qf H locs ls hC hP hl hE) (fun h => kf h p l e R s m args below meth c D ca ad A Qf H locs ls hC hP hl hE)
theorem ab_icmpne {x y : Int32} {off : Int} (tgt : Nat) (d : decode Y.2.1 pc = .ok (.if_icmp .ne off, 3)) (ht : (pc : Int) + off = (tgt : Int)) (kt : ¬ x = y → Ab Y Q kn tgt la rest w) (kf : x = y → Ab Y Q kn (pc + 3) la rest w) : Ab Y Q kn pc la (.int y :: .int x :: rest) w :=
  fun p l e R s m args below meth c D ca ad A Qf H locs ls hC hP hl hE => lv_icmp_ne hC.1 hC.2.1 d ht (fun h => kt h p l e R s m args below meth c D ca ad A Qf H locs ls hC hP hl hE) (fun h => kf h p l e R s m args below meth c D ca ad A Qf H locs ls hC hP hl hE)
theorem ab_iflt {x : Int32} {off : Int} (tgt : Nat) (d : decode Y.2.1 pc = .ok (.ifCond .lt off, 3)) (ht : (pc : Int) + off = (tgt : Int)) (kt : x < 0 → Ab Y Q kn tgt la rest w) (kf : ¬ (x < 0) → Ab Y Q kn (pc + 3) la rest w) : Ab Y Q kn pc la (.int x :: rest) w :=
  fun p l e R s m args below meth c D ca ad A Qf H locs ls hC hP hl hE => lv_if_lt hC.1 hC.2.1 d ht (fun h => kt h p l e R s m args below meth c D ca ad A Qf H locs ls hC hP hl hE) (fun h => kf h p l e R s m args below meth c D ca ad A Qf H locs ls hC hP hl hE)
theorem ab_icmplt {x y : Int32} {off : Int} (tgt : Nat) (d : decode Y.2.1 pc = .ok (.if_icmp .lt off, 3)) (ht : (pc : Int) + off = (tgt : Int)) (kt : x < y → Ab Y Q kn tgt la rest w) (kf : ¬ (x < y) → Ab Y Q kn (pc + 3) la rest w) : Ab Y Q kn pc la (.int y :: .int x :: rest) w :=
  fun p l e R s m args below meth c D ca ad A Qf H locs ls hC hP hl hE => lv_icmp_lt hC.1 hC.2.1 d ht (fun h => kt h p l e R s m args below meth c D ca ad A Qf H locs ls hC hP hl hE) (fun h => kf h p l e R s m args below meth c D ca ad A Qf H locs ls hC hP hl hE)
theorem ab_ifge {x : Int32} {off : Int} (tgt : Nat) (d : decode Y.2.1 pc = .ok (.ifCond .ge off, 3)) (ht : (pc : Int) + off = (tgt : Int)) (kt : 0 ≤ x → Ab Y Q kn tgt la rest w) (kf : ¬ (0 ≤ x) → Ab Y Q kn (pc + 3) la rest w) : Ab Y Q kn pc la (.int x :: rest) w :=
  fun p l e R s m args below meth c D ca ad A Qf H locs ls hC hP hl hE => lv_if_ge hC.1 hC.2.1 d ht (fun h => kt h p l e R s m args below meth c D ca ad A Qf H locs ls hC hP hl hE) (fun h => kf h p l e R s m args below meth c D ca ad A Qf H locs ls hC hP hl hE)
theorem ab_icmpge {x y : Int32} {off : Int} (tgt : Nat) (d : decode Y.2.1 pc = .ok (.if_icmp .ge off, 3)) (ht : (pc : Int) + off = (tgt : Int)) (kt : y ≤ x → Ab Y Q kn tgt la rest w) (kf : ¬ (y ≤ x) → Ab Y Q kn (pc + 3) la rest w) : Ab Y Q kn pc la (.int y :: .int x :: rest) w :=
  fun p l e R s m args below meth c D ca ad A Qf H locs ls hC hP hl hE => lv_icmp_ge hC.1 hC.2.1 d ht (fun h => kt h p l e R s m args below meth c D ca ad A Qf H locs ls hC hP hl hE) (fun h => kf h p l e R s m args below meth c D ca ad A Qf H locs ls hC hP hl hE)
theorem ab_ifgt {x : Int32} {off : Int} (tgt : Nat) (d : decode Y.2.1 pc = .ok (.ifCond .gt off, 3)) (ht : (pc : Int) + off = (tgt : Int)) (kt : 0 < x → Ab Y Q kn tgt la rest w) (kf : ¬ (0 < x) → Ab Y Q kn (pc + 3) la rest w) : Ab Y Q kn pc la (.int x :: rest) w :=
  fun p l e R s m args below meth c D ca ad A Qf H locs ls hC hP hl hE => lv_if_gt hC.1 hC.2.1 d ht (fun h => kt h p l e R s m args below meth c D ca ad A Qf H locs ls hC hP hl hE) (fun h => kf h p l e R s m args below meth c D ca ad A Qf H locs ls hC hP hl hE)
theorem ab_icmpgt {x y : Int32} {off : Int} (tgt : Nat) (d : decode Y.2.1 pc = .ok (.if_icmp .gt off, 3)) (ht : (pc : Int) + off = (tgt : Int)) (kt : y < x → Ab Y Q kn tgt la rest w) (kf : ¬ (y < x) → Ab Y Q kn (pc + 3) la rest w) : Ab Y Q kn pc la (.int y :: .int x :: rest) w :=
  fun p l e R s m args below meth c D ca ad A Qf H locs ls hC hP hl hE => lv_icmp_gt hC.1 hC.2.1 d ht (fun h => kt h p l e R s m args below meth c D ca ad A Qf H locs ls hC hP hl hE) (fun h => kf h p l e R s m args below meth c D ca ad A Qf H locs ls hC hP hl hE)
theorem ab_ifle {x : Int32} {off : Int} (tgt : Nat) (d : decode Y.2.1 pc = .ok (.ifCond .le off, 3)) (ht : (pc : Int) + off = (tgt : Int)) (kt : x ≤ 0 → Ab Y Q kn tgt la rest w) (kf : ¬ (x ≤ 0) → Ab Y Q kn (pc + 3) la rest w) : Ab Y Q kn pc la (.int x :: rest) w :=
  fun p l e R s m args below meth c D ca ad A Qf H locs ls hC hP hl hE => lv_if_le hC.1 hC.2.1 d ht (fun h => kt h p l e R s m args below meth c D ca ad A Qf H locs ls hC hP hl hE) (fun h => kf h p l e R s m args below meth c D ca ad A Qf H locs ls hC hP hl hE)
theorem ab_icmple {x y : Int32} {off : Int} (tgt : Nat) (d : decode Y.2.1 pc = .ok (.if_icmp .le off, 3)) (ht : (pc : Int) + off = (tgt : Int)) (kt : x ≤ y → Ab Y Q kn tgt la rest w) (kf : ¬ (x ≤ y) → Ab Y Q kn (pc + 3) la rest w) : Ab Y Q kn pc la (.int y :: .int x :: rest) w :=
  fun p l e R s m args below meth c D ca ad A Qf H locs ls hC hP hl hE => lv_icmp_le hC.1 hC.2.1 d ht (fun h => kt h p l e R s m args below meth c D ca ad A Qf H locs ls hC hP hl hE) (fun h => kf h p l e R s m args below meth c D ca ad A Qf H locs ls hC hP hl hE)
theorem ab_goto {off : Int} (tgt : Nat) (d : decode Y.2.1 pc = .ok (.goto off, 3)) (ht : (pc : Int) + off = (tgt : Int)) (k : Ab Y Q kn tgt la rest w) : Ab Y Q kn pc la rest w :=
  fun p l e R s m args below meth c D ca ad A Qf H locs ls hC hP hl hE => lv_goto hC.1 hC.2.1 d ht (k p l e R s m args below meth c D ca ad A Qf H locs ls hC hP hl hE)
theorem ab_tabOut {dflt lo hi : Int} {offs : Array Int} {len : Nat} {x : Int32} (tgt : Nat) (d : decode Y.2.1 pc = .ok (.tableswitch dflt lo hi offs, len)) (h : x.toInt < lo ∨ hi < x.toInt) (ht : (pc : Int) + dflt = (tgt : Int)) (k : Ab Y Q kn tgt la rest w) : Ab Y Q kn pc la (.int x :: rest) w :=
  fun p l e R s m args below meth c D ca ad A Qf H locs ls hC hP hl hE => lv_tableOut hC.1 hC.2.1 d h ht (k p l e R s m args below meth c D ca ad A Qf H locs ls hC hP hl hE)
theorem ab_tabIn {dflt lo hi : Int} {offs : Array Int} {len : Nat} {x : Int32} {off : Int} (tgt : Nat) (d : decode Y.2.1 pc = .ok (.tableswitch dflt lo hi offs, len)) (h1 : ¬ x.toInt < lo) (h2 : ¬ hi < x.toInt) (ho : offs[(x.toInt - lo).toNat]? = some off) (ht : (pc : Int) + off = (tgt : Int)) (k : Ab Y Q kn tgt la rest w) : Ab Y Q kn pc la (.int x :: rest) w :=
  fun p l e R s m args below meth c D ca ad A Qf H locs ls hC hP hl hE => lv_tableIn hC.1 hC.2.1 d h1 h2 ho ht (k p l e R s m args below meth c D ca ad A Qf H locs ls hC hP hl hE)
theorem ab_lcmp {x y : Int64} (d : decode Y.2.1 pc = .ok (.lcmp, 1)) (k : Ab Y Q kn (pc + 1) la (.int (lg_cmp x y) :: rest) w) : Ab Y Q kn pc la (.long y :: .long x :: rest) w :=
  fun p l e R s m args below meth c D ca ad A Qf H locs ls hC hP hl hE => W.lcmp hC.1 hC.2.1 d (k p l e R s m args below meth c D ca ad A Qf H locs ls hC hP hl hE)
theorem ab_lcmpeq {x y : Int64} {off : Int} (tgt : Nat) (d : decode Y.2.1 pc = .ok (.lcmp, 1)) (d2 : decode Y.2.1 (pc + 1) = .ok (.ifCond .eq off, 3)) (ht : ((pc + 1 : Nat) : Int) + off = (tgt : Int)) (kt : x = y → Ab Y Q kn tgt la rest w) (kf : ¬ x = y → Ab Y Q kn (pc + 4) la rest w) : Ab Y Q kn pc la (.long y :: .long x :: rest) w :=
  ab_lcmp d (ab_ifeq tgt d2 ht (fun h => kt ((lg_cmp_eq x y).mp h)) (fun h => kf (fun q => h ((lg_cmp_eq x y).mpr q))))
theorem ab_lcmplt {x y : Int64} {off : Int} (tgt : Nat) (d : decode Y.2.1 pc = .ok (.lcmp, 1)) (d2 : decode Y.2.1 (pc + 1) = .ok (.ifCond .lt off, 3)) (ht : ((pc + 1 : Nat) : Int) + off = (tgt : Int)) (kt : x < y → Ab Y Q kn tgt la rest w) (kf : ¬ x < y → Ab Y Q kn (pc + 4) la rest w) : Ab Y Q kn pc la (.long y :: .long x :: rest) w :=
  ab_lcmp d (ab_iflt tgt d2 ht (fun h => kt ((lg_cmp_lt x y).mp h)) (fun h => kf (fun q => h ((lg_cmp_lt x y).mpr q))))
theorem ab_lcmpge {x y : Int64} {off : Int} (tgt : Nat) (d : decode Y.2.1 pc = .ok (.lcmp, 1)) (d2 : decode Y.2.1 (pc + 1) = .ok (.ifCond .ge off, 3)) (ht : ((pc + 1 : Nat) : Int) + off = (tgt : Int)) (kt : y ≤ x → Ab Y Q kn tgt la rest w) (kf : ¬ y ≤ x → Ab Y Q kn (pc + 4) la rest w) : Ab Y Q kn pc la (.long y :: .long x :: rest) w :=
  ab_lcmp d (ab_ifge tgt d2 ht (fun h => kt ((lg_cmp_ge x y).mp h)) (fun h => kf (fun q => h ((lg_cmp_ge x y).mpr q))))
theorem ab_lcmpgt {x y : Int64} {off : Int} (tgt : Nat) (d : decode Y.2.1 pc = .ok (.lcmp, 1)) (d2 : decode Y.2.1 (pc + 1) = .ok (.ifCond .gt off, 3)) (ht : ((pc + 1 : Nat) : Int) + off = (tgt : Int)) (kt : y < x → Ab Y Q kn tgt la rest w) (kf : ¬ y < x → Ab Y Q kn (pc + 4) la rest w) : Ab Y Q kn pc la (.long y :: .long x :: rest) w :=
  ab_lcmp d (ab_ifgt tgt d2 ht (fun h => kt ((lg_cmp_gt x y).mp h)) (fun h => kf (fun q => h ((lg_cmp_gt x y).mpr q))))
theorem ab_lcmple {x y : Int64} {off : Int} (tgt : Nat) (d : decode Y.2.1 pc = .ok (.lcmp, 1)) (d2 : decode Y.2.1 (pc + 1) = .ok (.ifCond .le off, 3)) (ht : ((pc + 1 : Nat) : Int) + off = (tgt : Int)) (kt : x ≤ y → Ab Y Q kn tgt la rest w) (kf : ¬ x ≤ y → Ab Y Q kn (pc + 4) la rest w) : Ab Y Q kn pc la (.long y :: .long x :: rest) w :=
  ab_lcmp d (ab_ifle tgt d2 ht (fun h => kt ((lg_cmp_le x y).mp h)) (fun h => kf (fun q => h ((lg_cmp_le x y).mpr q))))
theorem ab_lcmpne {x y : Int64} {off : Int} (tgt : Nat) (d : decode Y.2.1 pc = .ok (.lcmp, 1)) (d2 : decode Y.2.1 (pc + 1) = .ok (.ifCond .ne off, 3)) (ht : ((pc + 1 : Nat) : Int) + off = (tgt : Int)) (kt : ¬ x = y → Ab Y Q kn tgt la rest w) (kf : x = y → Ab Y Q kn (pc + 4) la rest w) : Ab Y Q kn pc la (.long y :: .long x :: rest) w :=
  ab_lcmp d (ab_ifne tgt d2 ht (fun h => kt (fun q => h ((lg_cmp_eq x y).mpr q))) (fun h => kf ((lg_cmp_eq x y).mp h)))
theorem ab_iret {v : Int32} (d : decode Y.2.1 pc = .ok (.ireturn, 1)) (hr : Y.2.2.2.1 = some .int) (hk : kn.1 ≤ Y.2.2.2.2.1.cells ∧ kn.2 ≤ Y.2.2.2.2.1.slots) (hq : Q (some (.int v)) w) : Ab Y Q kn pc la [.int v] w :=
  fun p l e R s m args below meth c D ca ad A Qf H locs ls hC hP hl hE => hE H locs ls kn.1 kn.2 ad pc [.int v] _ w hq (Or.inl ⟨v, _, d, rfl, rfl, hr, rfl⟩) ax_ag.rf hP (by rw [hC.2.2.2.2.2.2.2.2.1]; exact hk.1) (by rw [hC.2.2.2.2.2.2.2.2.1]; exact hk.2) (Nat.le_refl _) (Nat.le_refl _)
theorem ab_zret {v : Int32} {ty : FieldType} (d : decode Y.2.1 pc = .ok (.ireturn, 1)) (hr : Y.2.2.2.1 = some ty) (hn : narrow ty (.int v) = .int v) (hk : kn.1 ≤ Y.2.2.2.2.1.cells ∧ kn.2 ≤ Y.2.2.2.2.1.slots) (hq : Q (some (.int v)) w) : Ab Y Q kn pc la [.int v] w :=
  fun p l e R s m args below meth c D ca ad A Qf H locs ls hC hP hl hE => hE H locs ls kn.1 kn.2 ad pc [.int v] _ w hq (Or.inl ⟨v, _, d, rfl, rfl, hr, hn⟩) ax_ag.rf hP (by rw [hC.2.2.2.2.2.2.2.2.1]; exact hk.1) (by rw [hC.2.2.2.2.2.2.2.2.1]; exact hk.2) (Nat.le_refl _) (Nat.le_refl _)
theorem ab_lret {v : Int64} (d : decode Y.2.1 pc = .ok (.lreturn, 1)) (hr : Y.2.2.2.1 = some .long) (hk : kn.1 ≤ Y.2.2.2.2.1.cells ∧ kn.2 ≤ Y.2.2.2.2.1.slots) (hq : Q (some (.long v)) w) : Ab Y Q kn pc la [.long v] w :=
  fun p l e R s m args below meth c D ca ad A Qf H locs ls hC hP hl hE => hE H locs ls kn.1 kn.2 ad pc [.long v] _ w hq (Or.inr (Or.inl ⟨v, d, rfl, rfl, hr⟩)) ax_ag.rf hP (by rw [hC.2.2.2.2.2.2.2.2.1]; exact hk.1) (by rw [hC.2.2.2.2.2.2.2.2.1]; exact hk.2) (Nat.le_refl _) (Nat.le_refl _)
theorem ab_vret (d : decode Y.2.1 pc = .ok (.return_, 1)) (hr : Y.2.2.2.1 = none) (hk : kn.1 ≤ Y.2.2.2.2.1.cells ∧ kn.2 ≤ Y.2.2.2.2.1.slots) (hq : Q none w) : Ab Y Q kn pc la [] w :=
  fun p l e R s m args below meth c D ca ad A Qf H locs ls hC hP hl hE => hE H locs ls kn.1 kn.2 ad pc [] _ w hq (Or.inr (Or.inr (Or.inl ⟨d, rfl, rfl, hr⟩))) ax_ag.rf hP (by rw [hC.2.2.2.2.2.2.2.2.1]; exact hk.1) (by rw [hC.2.2.2.2.2.2.2.2.1]; exact hk.2) (Nat.le_refl _) (Nat.le_refl _)
theorem ab_aret {i : Nat} {nm : String} (d : decode Y.2.1 pc = .ok (.areturn, 1)) (hr : Y.2.2.2.1 = some (.object nm)) (hk : kn.1 ≤ Y.2.2.2.2.1.cells ∧ kn.2 ≤ Y.2.2.2.2.1.slots) (hq : Q (some (.ref i)) w) : Ab Y Q kn pc la [.ref i] w :=
  fun p l e R s m args below meth c D ca ad A Qf H locs ls hC hP hl hE => hE H locs ls kn.1 kn.2 ad pc [.ref i] _ w hq (Or.inr (Or.inr (Or.inr ⟨i, nm, d, rfl, rfl, hr⟩))) ax_ag.rf hP (by rw [hC.2.2.2.2.2.2.2.2.1]; exact hk.1) (by rw [hC.2.2.2.2.2.2.2.2.1]; exact hk.2) (Nat.le_refl _) (Nat.le_refl _)
end RULES
