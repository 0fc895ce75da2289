/-! A JUDGEMENT WITH ITS END CONDITIONS AS A PARAMETER (rules copied by program from my own parts: gl2.py) -/
abbrev ZT : Type := Program → Launch → Env → Room → State → MethodId → Array Value → List Frame → Method → Code → va_G → (Nat → ClassId) → (Nat → Nat) → (Nat → Prop) → (State → Prop) → Prop
def ZI (Z : ZT) : Prop := ∀ p l e R s m args below meth c D ca ad ad1 A Qf, Z p l e R s m args below meth c D ca ad A Qf → Z p l e R s m args below meth c D ca ad1 A Qf
def AbZ (Z : ZT) (Y : ax_M) (kn : Nat × Nat) (pc : Nat) (la : List (Nat × Value)) (st : List Value) (w : ax_W) : Prop :=
  ∀ (p : Program) (l : Launch) (e : Env) (R : Room) (s : State) (m : MethodId) (args : Array Value) (below : List Frame) (meth : Method) (c : Code) (D : va_G) (ca : Nat → ClassId) (ad : Nat → Nat) (A : Nat → Prop) (Qf : State → Prop) (H : Heap) (locs : List Loc) (ls : Array Slot),
    ax_C Y p l R s m args meth c D ca ad A → ax_P D ca ad A w H s.heap locs → lv_has ls Y.2.2.1 (la.map fun q => (q.1, ax_v ad q.2)) → Z p l e R s m args below meth c D ca ad A Qf →
    W p l e R s m args below meth c H locs kn.1 kn.2 Qf (F0 m pc ls (st.map (ax_v ad)))
section ZRULES
variable {Z : ZT} {Y Y1 : ax_M} {Q1 : Option Value → ax_W → Prop} {kn : Nat × Nat} {pc : Nat} {la la' : List (Nat × Value)} {st rest As : List Value} {w w1 : ax_W} {i idx n ci b : Nat} {fs : List Value} {sg : Nat → Nat} {o : ax_E}
theorem az_iconst {n : Int} {v : Int32} (d : decode Y.2.1 pc = .ok (.iconst n, 1)) (hv : Int32.ofInt n = v) (k : AbZ Z Y kn (pc + 1) la (.int v :: rest) w) : AbZ Z Y kn pc la rest w :=
  fun p l e R s m args below meth c D ca ad A Qf H locs ls hC hP hl hE => lv_iconst hC.1 hC.2.1 d hv (k p l e R s m args below meth c D ca ad A Qf H locs ls hC hP hl hE)
theorem az_bipush {n : Int} {v : Int32} (d : decode Y.2.1 pc = .ok (.bipush n, 2)) (hv : (Int8.ofInt n).toInt32 = v) (k : AbZ Z Y kn (pc + 2) la (.int v :: rest) w) : AbZ Z Y kn pc la rest w :=
  fun p l e R s m args below meth c D ca ad A Qf H locs ls hC hP hl hE => lv_bipush hC.1 hC.2.1 d hv (k p l e R s m args below meth c D ca ad A Qf H locs ls hC hP hl hE)
theorem az_iload {i : Nat} {x : Int32} (d : decode Y.2.1 pc = .ok (.iload i, 2)) (h : ax_lv la i = some (.int x)) (k : AbZ Z Y kn (pc + 2) la (.int x :: rest) w) : AbZ Z Y kn pc la rest w :=
  fun p l e R s m args below meth c D ca ad A Qf H locs ls hC hP hl hE => lv_iload hC.1 hC.2.1 d (ax_lv_at hl h) (k p l e R s m args below meth c D ca ad A Qf H locs ls hC hP hl hE)
theorem az_iload_n {j : Fin 4} {x : Int32} (d : decode Y.2.1 pc = .ok (.iload_n j, 1)) (h : ax_lv la j = some (.int x)) (k : AbZ Z Y kn (pc + 1) la (.int x :: rest) w) : AbZ Z Y kn pc la rest w :=
  fun p l e R s m args below meth c D ca ad A Qf H locs ls hC hP hl hE => lv_iload_n hC.1 hC.2.1 d rfl (ax_lv_at hl h) (k p l e R s m args below meth c D ca ad A Qf H locs ls hC hP hl hE)
theorem az_istore_n {i : Fin 4} {x : Int32} (d : decode Y.2.1 pc = .ok (.istore_n i, 1)) (hn : (i : Nat) < Y.2.2.1) (hs : ax_s1 la i (.int x) = la') (k : AbZ Z Y kn (pc + 1) la' rest w) : AbZ Z Y kn pc la (.int x :: rest) w :=
  fun p l e R s m args below meth c D ca ad A Qf H locs ls hC hP hl hE => lv_istore_n hC.1 hC.2.1 d rfl hl hn ((ax_s1_map ad la i (.int x)).trans (by rw [hs])) (fun ls1 hl1 => k p l e R s m args below meth c D ca ad A Qf H locs ls1 hC hP hl1 hE)
theorem az_istore {i : Nat} {x : Int32} (d : decode Y.2.1 pc = .ok (.istore i, 2)) (hn : (i : Nat) < Y.2.2.1) (hs : ax_s1 la i (.int x) = la') (k : AbZ Z Y kn (pc + 2) la' rest w) : AbZ Z Y kn pc la (.int x :: rest) w :=
  fun p l e R s m args below meth c D ca ad A Qf H locs ls hC hP hl hE => lv_istore hC.1 hC.2.1 d hl hn ((ax_s1_map ad la i (.int x)).trans (by rw [hs])) (fun ls1 hl1 => k p l e R s m args below meth c D ca ad A Qf H locs ls1 hC hP hl1 hE)
theorem az_aload_n {j : Fin 4} {x : Nat} (d : decode Y.2.1 pc = .ok (.aload_n j, 1)) (h : ax_lv la j = some (.ref x)) (k : AbZ Z Y kn (pc + 1) la (.ref x :: rest) w) : AbZ Z Y kn pc la rest w :=
  fun p l e R s m args below meth c D ca ad A Qf H locs ls hC hP hl hE => lv_aload_n hC.1 hC.2.1 d rfl (ax_lv_at hl h) (k p l e R s m args below meth c D ca ad A Qf H locs ls hC hP hl hE)
theorem az_astore_n {i : Fin 4} {x : Nat} (d : decode Y.2.1 pc = .ok (.astore_n i, 1)) (hn : (i : Nat) < Y.2.2.1) (hs : ax_s1 la i (.ref x) = la') (k : AbZ Z Y kn (pc + 1) la' rest w) : AbZ Z Y kn pc la (.ref x :: rest) w :=
  fun p l e R s m args below meth c D ca ad A Qf H locs ls hC hP hl hE => lv_astore_n hC.1 hC.2.1 d rfl hl hn ((ax_s1_map ad la i (.ref x)).trans (by rw [hs])) (fun ls1 hl1 => k p l e R s m args below meth c D ca ad A Qf H locs ls1 hC hP hl1 hE)
theorem az_iinc {i : Nat} {n : Int} {x v : Int32} (d : decode Y.2.1 pc = .ok (.iinc i n, 3)) (h : ax_lv la i = some (.int x)) (hv : x + Int32.ofInt n = v) (hn : i < Y.2.2.1) (hs : ax_s1 la i (.int v) = la') (k : AbZ Z Y kn (pc + 3) la' rest w) : AbZ Z Y kn pc la rest w := by
  intro p l e R s m args below meth c D ca ad A Qf H locs ls hC hP hl hE
  unfold ax_lv at h
  cases hf : la.find? (fun q => q.1 == i) with
  | none => rw [hf] at h; cases h
  | some q =>
    rw [hf] at h
    have hm := List.mem_of_find?_eq_some hf
    have hk := List.find?_some hf
    simp only [beq_iff_eq] at hk
    have hq : q.2 = .int x := Option.some.inj h
    obtain ⟨j, hj⟩ := List.getElem?_of_mem hm
    have hj2 : (la.map fun q => (q.1, ax_v ad q.2))[j]? = some (i, .int x) := by
      rw [List.getElem?_map, hj]
      show some (q.1, ax_v ad q.2) = _
      rw [hk, hq]; rfl
    exact lv_iinc hC.1 hC.2.1 d hl hj2 hv hn ((ax_s1_map ad la i (.int v)).trans (by rw [hs])) (fun ls1 hl1 => k p l e R s m args below meth c D ca ad A Qf H locs ls1 hC hP hl1 hE)
theorem az_iadd {x y : Int32} (d : decode Y.2.1 pc = .ok (.iadd, 1)) (k : AbZ Z Y kn (pc + 1) la (.int (x + y) :: rest) w) : AbZ Z Y kn pc la (.int y :: .int x :: rest) w :=
  fun p l e R s m args below meth c D ca ad A Qf H locs ls hC hP hl hE => lv_iadd hC.1 hC.2.1 d (k p l e R s m args below meth c D ca ad A Qf H locs ls hC hP hl hE)
theorem az_isub {x y : Int32} (d : decode Y.2.1 pc = .ok (.isub, 1)) (k : AbZ Z Y kn (pc + 1) la (.int (x - y) :: rest) w) : AbZ Z Y kn pc la (.int y :: .int x :: rest) w :=
  fun p l e R s m args below meth c D ca ad A Qf H locs ls hC hP hl hE => lv_isub hC.1 hC.2.1 d (k p l e R s m args below meth c D ca ad A Qf H locs ls hC hP hl hE)
theorem az_iand {x y : Int32} (d : decode Y.2.1 pc = .ok (.iand, 1)) (k : AbZ Z Y kn (pc + 1) la (.int (x &&& y) :: rest) w) : AbZ Z Y kn pc la (.int y :: .int x :: rest) w :=
  fun p l e R s m args below meth c D ca ad A Qf H locs ls hC hP hl hE => lv_iand hC.1 hC.2.1 d (k p l e R s m args below meth c D ca ad A Qf H locs ls hC hP hl hE)
theorem az_i2l {x : Int32} (d : decode Y.2.1 pc = .ok (.i2l, 1)) (k : AbZ Z Y kn (pc + 1) la (.long x.toInt64 :: rest) w) : AbZ Z Y kn pc la (.int x :: rest) w :=
  fun p l e R s m args below meth c D ca ad A Qf H locs ls hC hP hl hE => lv_i2l hC.1 hC.2.1 d rfl (k p l e R s m args below meth c D ca ad A Qf H locs ls hC hP hl hE)
theorem az_dup {v : Value} (hv : v.category = 1) (d : decode Y.2.1 pc = .ok (.dup, 1)) (k : AbZ Z Y kn (pc + 1) la (v :: v :: rest) w) : AbZ Z Y kn pc la (v :: rest) w :=
  fun p l e R s m args below meth c D ca ad A Qf H locs ls hC hP hl hE => lv_dup hC.1 hC.2.1 d ((ax_cat ad v).trans hv) (k p l e R s m args below meth c D ca ad A Qf H locs ls hC hP hl hE)
theorem az_ifeq {x : Int32} {off : Int} (tgt : Nat) (d : decode Y.2.1 pc = .ok (.ifCond .eq off, 3)) (ht : (pc : Int) + off = (tgt : Int)) (kt : x = 0 → AbZ Z Y kn tgt la rest w) (kf : ¬ (x = 0) → AbZ Z Y kn (pc + 3) la rest w) : AbZ Z Y kn pc la (.int x :: rest) w :=
  fun p l e R s m args below meth c D ca ad A Qf H locs ls hC hP hl hE => lv_if_eq hC.1 hC.2.1 d ht (fun h => kt h p l e R s m args below meth c D ca ad A Qf H locs ls hC hP hl hE) (fun h => kf h p l e R s m args below meth c D ca ad A Qf H locs ls hC hP hl hE)
theorem az_ifne {x : Int32} {off : Int} (tgt : Nat) (d : decode Y.2.1 pc = .ok (.ifCond .ne off, 3)) (ht : (pc : Int) + off = (tgt : Int)) (kt : ¬ x = 0 → AbZ Z Y kn tgt la rest w) (kf : x = 0 → AbZ Z Y kn (pc + 3) la rest w) : AbZ Z Y kn pc la (.int x :: rest) w :=
  fun p l e R s m args below meth c D ca ad A Qf H locs ls hC hP hl hE => lv_if_ne hC.1 hC.2.1 d ht (fun h => kt h p l e R s m args below meth c D ca ad A Qf H locs ls hC hP hl hE) (fun h => kf h p l e R s m args below meth c D ca ad A Qf H locs ls hC hP hl hE)
theorem az_icmpeq {x y : Int32} {off : Int} (tgt : Nat) (d : decode Y.2.1 pc = .ok (.if_icmp .eq off, 3)) (ht : (pc : Int) + off = (tgt : Int)) (kt : x = y → AbZ Z Y kn tgt la rest w) (kf : ¬ (x = y) → AbZ Z Y kn (pc + 3) la rest w) : AbZ Z Y kn pc la (.int y :: .int x :: rest) w :=
  fun p l e R s m args below meth c D ca ad A Qf H locs ls hC hP hl hE => lv_icmp_eq hC.1 hC.2.1 d ht (fun h => kt h p l e R s m args below meth c D ca ad A Qf H locs ls hC hP hl hE) (fun h => kf h p l e R s m args below meth c D ca ad A Qf H locs ls hC hP hl hE)
theorem az_icmpne {x y : Int32} {off : Int} (tgt : Nat) (d : decode Y.2.1 pc = .ok (.if_icmp .ne off, 3)) (ht : (pc : Int) + off = (tgt : Int)) (kt : ¬ x = y → AbZ Z Y kn tgt la rest w) (kf : x = y → AbZ Z Y kn (pc + 3) la rest w) : AbZ Z Y kn pc la (.int y :: .int x :: rest) w :=
  fun p l e R s m args below meth c D ca ad A Qf H locs ls hC hP hl hE => lv_icmp_ne hC.1 hC.2.1 d ht (fun h => kt h p l e R s m args below meth c D ca ad A Qf H locs ls hC hP hl hE) (fun h => kf h p l e R s m args below meth c D ca ad A Qf H locs ls hC hP hl hE)
theorem az_icmpge {x y : Int32} {off : Int} (tgt : Nat) (d : decode Y.2.1 pc = .ok (.if_icmp .ge off, 3)) (ht : (pc : Int) + off = (tgt : Int)) (kt : y ≤ x → AbZ Z Y kn tgt la rest w) (kf : ¬ (y ≤ x) → AbZ Z Y kn (pc + 3) la rest w) : AbZ Z Y kn pc la (.int y :: .int x :: rest) w :=
  fun p l e R s m args below meth c D ca ad A Qf H locs ls hC hP hl hE => lv_icmp_ge hC.1 hC.2.1 d ht (fun h => kt h p l e R s m args below meth c D ca ad A Qf H locs ls hC hP hl hE) (fun h => kf h p l e R s m args below meth c D ca ad A Qf H locs ls hC hP hl hE)
theorem az_icmpgt {x y : Int32} {off : Int} (tgt : Nat) (d : decode Y.2.1 pc = .ok (.if_icmp .gt off, 3)) (ht : (pc : Int) + off = (tgt : Int)) (kt : y < x → AbZ Z Y kn tgt la rest w) (kf : ¬ (y < x) → AbZ Z Y kn (pc + 3) la rest w) : AbZ Z Y kn pc la (.int y :: .int x :: rest) w :=
  fun p l e R s m args below meth c D ca ad A Qf H locs ls hC hP hl hE => lv_icmp_gt hC.1 hC.2.1 d ht (fun h => kt h p l e R s m args below meth c D ca ad A Qf H locs ls hC hP hl hE) (fun h => kf h p l e R s m args below meth c D ca ad A Qf H locs ls hC hP hl hE)
theorem az_goto {off : Int} (tgt : Nat) (d : decode Y.2.1 pc = .ok (.goto off, 3)) (ht : (pc : Int) + off = (tgt : Int)) (k : AbZ Z Y kn tgt la rest w) : AbZ Z Y kn pc la rest w :=
  fun p l e R s m args below meth c D ca ad A Qf H locs ls hC hP hl hE => lv_goto hC.1 hC.2.1 d ht (k p l e R s m args below meth c D ca ad A Qf H locs ls hC hP hl hE)
theorem az_tabOut {dflt lo hi : Int} {offs : Array Int} {len : Nat} {x : Int32} (tgt : Nat) (d : decode Y.2.1 pc = .ok (.tableswitch dflt lo hi offs, len)) (h : x.toInt < lo ∨ hi < x.toInt) (ht : (pc : Int) + dflt = (tgt : Int)) (k : AbZ Z Y kn tgt la rest w) : AbZ Z Y kn pc la (.int x :: rest) w :=
  fun p l e R s m args below meth c D ca ad A Qf H locs ls hC hP hl hE => lv_tableOut hC.1 hC.2.1 d h ht (k p l e R s m args below meth c D ca ad A Qf H locs ls hC hP hl hE)
theorem az_tabIn {dflt lo hi : Int} {offs : Array Int} {len : Nat} {x : Int32} {off : Int} (tgt : Nat) (d : decode Y.2.1 pc = .ok (.tableswitch dflt lo hi offs, len)) (h1 : ¬ x.toInt < lo) (h2 : ¬ hi < x.toInt) (ho : offs[(x.toInt - lo).toNat]? = some off) (ht : (pc : Int) + off = (tgt : Int)) (k : AbZ Z Y kn tgt la rest w) : AbZ Z Y kn pc la (.int x :: rest) w :=
  fun p l e R s m args below meth c D ca ad A Qf H locs ls hC hP hl hE => lv_tableIn hC.1 hC.2.1 d h1 h2 ho ht (k p l e R s m args below meth c D ca ad A Qf H locs ls hC hP hl hE)
theorem az_lcmp {x y : Int64} (d : decode Y.2.1 pc = .ok (.lcmp, 1)) (k : AbZ Z Y kn (pc + 1) la (.int (lg_cmp x y) :: rest) w) : AbZ Z Y kn pc la (.long y :: .long x :: rest) w :=
  fun p l e R s m args below meth c D ca ad A Qf H locs ls hC hP hl hE => W.lcmp hC.1 hC.2.1 d (k p l e R s m args below meth c D ca ad A Qf H locs ls hC hP hl hE)
theorem az_lcmpeq {x y : Int64} {off : Int} (tgt : Nat) (d : decode Y.2.1 pc = .ok (.lcmp, 1)) (d2 : decode Y.2.1 (pc + 1) = .ok (.ifCond .eq off, 3)) (ht : ((pc + 1 : Nat) : Int) + off = (tgt : Int)) (kt : x = y → AbZ Z Y kn tgt la rest w) (kf : ¬ x = y → AbZ Z Y kn (pc + 4) la rest w) : AbZ Z Y kn pc la (.long y :: .long x :: rest) w :=
  az_lcmp d (az_ifeq tgt d2 ht (fun h => kt ((lg_cmp_eq x y).mp h)) (fun h => kf (fun q => h ((lg_cmp_eq x y).mpr q))))
theorem az_getf {idx ci k : Nat} {ty : FieldType} {fin : Bool} {fs : List Value} {v : Value} (d : decode Y.2.1 pc = .ok (.getfield idx, 3)) (hf : ax_fl Y.1.cls idx ci k ty fin) (hg : ax_get w i = some (ob ci fs)) (hv : fs[k]? = some v) (kk : AbZ Z Y kn (pc + 3) la (v :: rest) w) : AbZ Z Y kn pc la (.ref i :: rest) w := by
  intro p l e R s m args below meth c D ca ad A Qf H locs ls hC hP hl hE
  obtain ⟨C, T, N, hc, hk, hin, hlk, -⟩ := hf
  obtain ⟨q, hq, -⟩ := ax_at (ca := ca) (ad := ad) hg
  exact va_get hC.1 hC.2.1 hC.2.2.2.2.2.1 hin hC.2.2.2.2.1 hC.2.2.2.2.2.2.2.2.2.1 hP.1 q hq hc k hk (hC.2.2.2.2.2.1 _ hlk) (fun _ h => h) (v := ax_v ad v) (by rw [List.getElem?_map, hv]; rfl) d (kk p l e R s m args below meth c D ca ad A Qf H locs ls hC hP hl hE)
theorem az_lald {n j : Nat} {f : Nat → Int64} {x : Int32} (d : decode Y.2.1 pc = .ok (.laload, 1)) (hg : ax_get w i = some (ja n f)) (hx : ax_ix x n j) (kk : AbZ Z Y kn (pc + 1) la (.long (f j) :: rest) w) : AbZ Z Y kn pc la (.int x :: .ref i :: rest) w := by
  intro p l e R s m args below meth c D ca ad A Qf H locs ls hC hP hl hE
  obtain ⟨q, hq, -⟩ := ax_at (ca := ca) (ad := ad) hg
  have kk := kk p l e R s m args below meth c D ca ad A Qf H locs ls hC hP hl hE
  rw [← hx.2] at kk
  exact va_lald hC.1 hC.2.1 hC.2.2.2.2.2.2.2.2.2.1 hP.1 q 2 hq rfl hx.1 d kk
theorem az_last {n j : Nat} {f : Nat → Int64} {x : Int32} {v : Int64} (d : decode Y.2.1 pc = .ok (.lastore, 1)) (hg : ax_get w i = some (ja n f)) (hx : ax_ix x n j) (hs : ax_set w i (ja n (vp_updL f j v)) = w1) (kk : AbZ Z Y kn (pc + 1) la rest w1) : AbZ Z Y kn pc la (.long v :: .int x :: .ref i :: rest) w := by
  intro p l e R s m args below meth c D ca ad A Qf H locs ls hC hP hl hE
  obtain ⟨q, hq, hset⟩ := ax_at (ca := ca) (ad := ad) hg
  refine va_last hC.1 hC.2.1 hC.2.2.2.2.2.2.2.2.2.1 hP.1 hP.2.1 hP.2.2 q 2 hq rfl hx.1 d (fun H1 locs1 hP1 hD1 hS1 => ?_)
  rw [hx.2] at hP1 hD1
  have e1 : ax_w ca ad w1 = (ax_w ca ad w).set q (ad i, .inl (ca 2, n, .inr (.inl (vp_updL f j v)))) := by rw [← hs]; exact hset _
  rw [← e1] at hP1 hD1
  exact kk p l e R s m args below meth c D ca ad A Qf H1 locs1 ls hC ⟨hP1, hD1, hS1⟩ hl hE
theorem az_sld {L t : Nat} {xs : Nat → Int32} {x : Int32} (d : decode Y.2.1 pc = .ok (.iaload, 1)) (hY : Y.2.2.2.2.2.2 = some (L, xs)) (hx : ax_ix x L t) (kk : AbZ Z Y kn (pc + 1) la (.int (xs t) :: rest) w) : AbZ Z Y kn pc la (.int x :: .ref 5000 :: rest) w := by
  intro p l e R s m args below meth c D ca ad A Qf H locs ls hC hP hl hE
  obtain ⟨h1, h2, h3⟩ := hC.2.2.2.2.2.2.2.2.2.2.2.2.2 L xs hY
  have kk := kk p l e R s m args below meth c D ca ad A Qf H locs ls hC hP hl hE
  rw [← hx.2] at kk
  exact va_sld hC.1 hC.2.1 h1 h2 h3 hP.2.2 hx.1 d kk
theorem az_slen {L : Nat} {xs : Nat → Int32} (d : decode Y.2.1 pc = .ok (.arraylength, 1)) (hY : Y.2.2.2.2.2.2 = some (L, xs)) (kk : AbZ Z Y kn (pc + 1) la (.int (Int32.ofNat L) :: rest) w) : AbZ Z Y kn pc la (.ref 5000 :: rest) w := by
  intro p l e R s m args below meth c D ca ad A Qf H locs ls hC hP hl hE
  obtain ⟨h1, h2, h3⟩ := hC.2.2.2.2.2.2.2.2.2.2.2.2.2 L xs hY
  exact va_slen hC.1 hC.2.1 h1 h2 h3 hP.2.2 d (kk p l e R s m args below meth c D ca ad A Qf H locs ls hC hP hl hE)
theorem az_back {p : Program} {l : Launch} {e : Env} {R : Room} {s : State} {m : MethodId} {args : Array Value} {below : List Frame} {meth : Method} {c : Code} {D : va_G} {ca : Nat → ClassId} {ad : Nat → Nat} {A : Nat → Prop} {Qf : State → Prop} {H : Heap} {locs : List Loc} {ls : Array Slot} {a : Array Value} {st0 : List Value} (hC : ax_C Y p l R s m args meth c D ca ad A) (hP : ax_P D ca ad A w H s.heap locs) (hl : lv_has ls Y.2.2.1 (la.map fun q => (q.1, ax_v ad q.2))) (hE : Z p l e R s m args below meth c D ca ad A Qf)
    (hr : va_Run p l e R s m args below meth c H locs kn.1 kn.2 0 0 (F0 m pc ls st0) (rest.map (ax_v ad)) (ax_Qc false D ca ad w H.size Q1 a) (va_A (ax_w ca ad w) H.size))
    (kk : ∀ (r : Option Value) (w' : ax_W), Q1 r w' → AbZ Z Y kn (pc + 3) la (r.toList ++ rest) w') : W p l e R s m args below meth c H locs kn.1 kn.2 Qf (F0 m pc ls st0) := by
  intro T hT X
  obtain ⟨v, st₀, t, T', L, h0, X', hL, e1, e2, ⟨⟨r, w', ad', hv, hq, hag, g1, g2, hP1, hD1⟩, hz, hkp⟩, stp⟩ := hr T hT X
  have hag : ad' = ad := hag
  subst hag
  cases hv
  rw [h0] at hz hkp
  have hfr := ax_free hP hC.2.2.2.2.2.2.2.2.2.2.1
  have hS1 : va_S A s.heap T'.heap (locs ++ L) := ⟨Nat.le_trans hP.2.2.1 (by rw [e1]; exact hz), fun q h1 h2 => by
      rw [e1, hkp q (Nat.lt_of_lt_of_le h1 hP.2.2.1) (fun z => h2 (hfr q z))]
      exact hP.2.2.2.1 q h1 h2, fun q hq2 => by
      rcases List.mem_append.mp hq2 with h | h
      · exact hP.2.2.2.2 q h
      · exact hfr _ (hL q h)⟩
  obtain ⟨t2, a1, b1⟩ := kk r w' hq p l e R s m args below meth c D ca ad' A Qf T'.heap (locs ++ L) ls hC ⟨by rw [e1]; exact hP1, hD1.weaken (fun k q _ h => hfr q.1 h), hS1⟩ hl hE T' rfl X'
  refine ⟨t2, stp t2 ?_, b1⟩
  have e3 : (r.map (ax_v ad')).toList ++ rest.map (ax_v ad') = (r.toList ++ rest).map (ax_v ad') := by cases r <;> rfl
  rw [e3]
  exact a1
theorem az_callV (d : decode Y.2.1 pc = .ok (.invokevirtual idx, 3)) (hm : ax_mv Y1 ci n) (hlk : Cond.methodLink Y.1.cls idx Y1.1 ∈ TB) (hr : ax_rm Y Y1) (hk : kn.1 ≤ Y.2.2.2.2.1.cells ∧ kn.2 ≤ Y.2.2.2.2.1.slots) (hst : st = As.reverse ++ .ref b :: rest) (hn : As.length = n) (hcat : (rest.map fun v => v.category).sum ≤ 8) (hg : ax_get w b = some (ob ci fs)) (hct : Ct Y1 (.ref b :: As) w Q1) (kk : ∀ (r : Option Value) (w' : ax_W), Q1 r w' → AbZ Z Y kn (pc + 3) la (r.toList ++ rest) w') : AbZ Z Y kn pc la st w := by
  intro p l e R s m args below meth c D ca ad A Qf H locs ls hC hP hl hE
  obtain ⟨m1, m2, m3, m4, m5, T, N, m6⟩ := hm
  obtain ⟨r1, r2, r3, r4, r5⟩ := hr
  obtain ⟨q, hq, -⟩ := ax_at (ca := ca) (ad := ad) hg
  have hRR : R = Y.2.2.2.2.1 := hC.2.2.2.2.2.2.2.2.1
  have hMet := hct l hC.2.2.2.2.2.2.2.2.2.2.2.2.1 D ca ad H.size
  rw [r3, r4, r5] at hMet
  have hK := hC.2.2.2.2.2.2.2.2.2.1
  refine az_back hC hP hl hE (va_runV (C := Y1.1.cls) (b := ad b) (As := As.map (ax_v ad)) (n := n) ⟨hC.1, hC.2.1, hC.2.2.1, hC.2.2.2.2.1, hC.2.2.2.2.2.1⟩ hMet (cwV n hC.2.2.2.2.2.1 (ax_words (by intro x hx; simp only [List.mem_cons, List.not_mem_nil, or_false] at hx; rcases hx with rfl | rfl | rfl | rfl <;> assumption) m4) rfl r3 r4 ⟨rfl, m5⟩ (by rw [hRR]; exact ⟨r1, r2⟩)) ⟨ax_blind, va_recv hK hP.1 m6 hq, ax_pre hC hP (.ref b :: As)⟩ rfl (by rw [List.length_map]; exact hn) hl.1 (by rw [hst]; simp [F0, ax_v]) (by rw [ax_catsum]; exact lv_room hcat) d (by rw [hRR]; exact hk)) kk
theorem az_pick {Y : ax_M} {Z : ZT} {kn : Nat × Nat} {pc : Nat} {la la1 : List (Nat × Value)} {st : List Value} {w : ax_W} (ks : List Nat) (h : lv_pick la ks = la1) (k : AbZ Z Y kn pc la1 st w) : AbZ Z Y kn pc la st w :=
  fun p l e R s m args below meth c D ca ad A Qf H locs ls hC hP hl hE => k p l e R s m args below meth c D ca ad A Qf H locs ls hC hP (lv_sub hl ks ((ax_pickmap ad la ks).trans (by rw [h]))) hE
theorem az_grown {x : ax_E} {p : Program} {l : Launch} {e : Env} {R : Room} {s : State} {m : MethodId} {args : Array Value} {below : List Frame} {meth : Method} {c : Code} {D : va_G} {ca : Nat → ClassId} {ad : Nat → Nat} {A : Nat → Prop} {Qf : State → Prop} {H : Heap} {locs : List Loc} {ls : Array Slot} {kn1 : Nat × Nat} {pc1 q : Nat} (hal : Y.2.2.2.2.2.1 = true) (hZ : ZI Z) (hok : ax_okn la rest w x = true) (hs : ax_add w x = w1) (hC : ax_C Y p l R s m args meth c D ca ad A) (hl : lv_has ls Y.2.2.1 (la.map fun z => (z.1, ax_v ad z.2))) (hE : Z p l e R s m args below meth c D ca ad A Qf)
    (hP1 : va_P D ax_cl (ax_w ca ad w ++ [(q, ax_e ca ad x)]) H) (hD1 : va_D A (ax_w ca ad w ++ [(q, ax_e ca ad x)])) (hS1 : va_S A s.heap H locs) (k : AbZ Z Y kn1 pc1 la (.ref (ax_nxt w) :: rest) w1) : W p l e R s m args below meth c H locs kn1.1 kn1.2 Qf (F0 m pc1 ls (.ref q :: rest.map (ax_v ad))) := by
  obtain ⟨g1, g2, g3⟩ := ax_add_len hok
  have hw := ax_w_add (ca := ca) (ad := ad) (q := q) hok
  rw [hs] at hw g1 g2
  rw [← hw] at hP1 hD1
  have hn : ax_nxt w < 2000 := by
    unfold ax_okn at hok
    simp only [Bool.and_eq_true, Bool.or_eq_true, decide_eq_true_eq] at hok
    obtain ⟨⟨⟨⟨⟨h0, -⟩, -⟩, -⟩, -⟩, -⟩ := hok
    unfold ax_nxt
    split <;> omega
  have hok2 := hok
  unfold ax_okn at hok2
  simp only [Bool.and_eq_true] at hok2
  obtain ⟨⟨⟨⟨⟨-, hla⟩, hst⟩, -⟩, -⟩, -⟩ := hok2
  have hC1 : ax_C Y p l R s m args meth c D ca (ax_up ad (ax_nxt w) q) A := hC.moved (fun i hi => by unfold ax_up; rw [if_neg (by omega)])
  have h9 := k p l e R s m args below meth c D ca (ax_up ad (ax_nxt w) q) A Qf H locs ls hC1 ⟨hP1, hD1, hS1⟩ (by rw [ax_lamap hla]; exact hl) (hZ _ _ _ _ _ _ _ _ _ _ _ _ _ _ _ _ hE)
  have e1 : (Value.ref (ax_nxt w) :: rest).map (ax_v (ax_up ad (ax_nxt w) q)) = .ref q :: rest.map (ax_v ad) := by
    rw [List.map_cons, ax_vs_up hst]
    show Value.ref (ax_up ad (ax_nxt w) q (ax_nxt w)) :: _ = _
    unfold ax_up
    rw [if_pos rfl]
  rw [e1] at h9
  exact h9
theorem az_new {ci N : Nat} {C : String} {T : u_T} {tys : Nat → FieldType} {fs : List Value} (d : decode Y.2.1 pc = .ok (.new idx, 3)) (hcl : ax_cl[ci]? = some (C, T, N)) (hw : Cond.classLink Y.1.cls idx C ∈ TB ∧ Cond.instantiable C N ∈ TB ∧ Cond.initialized C ∈ TB ∧ ∀ x ∈ u_ws C T N, x ∈ TB) (hty : ∀ k, k < N → parseFieldDescriptor (T k).2.2.1 = some (tys k)) (hfs : ∀ j, j < N → defaultValue (tys j) = vp_V fs j) (hnf : ∀ ad, fs.map (ax_v ad) = fs) (hal : Y.2.2.2.2.2.1 = true) (hZ : ZI Z) (hk : kn.1 + 1 ≤ Y.2.2.2.2.1.cells ∧ kn.2 + N ≤ Y.2.2.2.2.1.slots) (hok : ax_okn la rest w (ob ci fs) = true) (hs : ax_add w (ob ci fs) = w1) (k : AbZ Z Y (kn.1 + 1, kn.2 + N) (pc + 3) la (.ref (ax_nxt w) :: rest) w1) : AbZ Z Y kn pc la rest w := by
  intro p l e R s m args below meth c D ca ad A Qf H locs ls hC hP hl hE
  have hRR : R = Y.2.2.2.2.1 := hC.2.2.2.2.2.2.2.2.1
  have hts := hC.2.2.2.2.2.1
  refine va_new (ci := ci) (fs := fs) hC.1 hC.2.1 hts hw.2.2.2 tys hty hC.2.2.2.2.1 (hts _ hw.1) (hts _ hw.2.1) (hts _ hw.2.2.1) hC.2.2.2.2.2.2.2.2.2.1 hP.1 hP.2.1 hP.2.2 hC.2.2.2.2.2.2.2.2.2.2.1 hcl hfs (by rw [hRR]; exact hk.1) (by rw [hRR]; exact hk.2) d (fun q H1 hP1 hD1 hS1 => ?_)
  have e1 : ax_e ca ad (ob ci fs) = .inr (ci, fs) := by show Sum.inr (ci, fs.map (ax_v ad)) = _; rw [hnf]
  rw [← e1] at hP1 hD1
  exact az_grown (kn1 := (kn.1 + 1, kn.2 + N)) hal hZ hok hs hC hl hE hP1 hD1 hS1 k
theorem az_newl {n : Int32} {N : Nat} (d : decode Y.2.1 pc = .ok (.newarray .long, 2)) (hn : ¬ n < 0 ∧ n.toNatClampNeg = N ∧ N * 8 ≤ 536870912) (hw : Cond.arrayClass .long ∈ TB) (hal : Y.2.2.2.2.2.1 = true) (hZ : ZI Z) (hk : kn.1 + 1 ≤ Y.2.2.2.2.1.cells ∧ kn.2 + N ≤ Y.2.2.2.2.1.slots) (hok : ax_okn la rest w (ja N (fun _ => 0)) = true) (hs : ax_add w (ja N (fun _ => 0)) = w1) (k : AbZ Z Y (kn.1 + 1, kn.2 + N) (pc + 2) la (.ref (ax_nxt w) :: rest) w1) : AbZ Z Y kn pc la (.int n :: rest) w := by
  intro p l e R s m args below meth c D ca ad A Qf H locs ls hC hP hl hE
  have hRR : R = Y.2.2.2.2.1 := hC.2.2.2.2.2.2.2.2.1
  have hts := hC.2.2.2.2.2.1
  have hK := hC.2.2.2.2.2.2.2.2.2.1
  refine va_newa (atype := .long) (a0 := (N, .inr (.inl (fun _ => 0)))) hC.1 hC.2.1 (hts _ hw) rfl hK hP.1 hP.2.1 hP.2.2 hC.2.2.2.2.2.2.2.2.2.2.1 (fun _ => rfl) hn.1 hn.2.1 hn.2.2 (by rw [hRR]; exact hk.1) (by rw [hRR]; exact hk.2) d (fun q cA H1 hK1 hP1 hD1 hS1 => ?_)
  have e0 : cA = ca 2 := ax_arrid (D := D) (fun _ h => by cases h) (hK1.2 3 (cA, .long) rfl).2 (hK.2 2 _ rfl).2
  subst e0
  exact az_grown (x := ja N (fun _ => 0)) (kn1 := (kn.1 + 1, kn.2 + N)) hal hZ hok hs hC hl hE hP1 hD1 hS1 k
theorem az_backN {p : Program} {l : Launch} {e : Env} {R : Room} {s : State} {m : MethodId} {args : Array Value} {below : List Frame} {meth : Method} {c : Code} {D : va_G} {ca : Nat → ClassId} {ad : Nat → Nat} {A : Nat → Prop} {Qf : State → Prop} {H : Heap} {locs : List Loc} {ls : Array Slot} {a : Array Value} {st0 : List Value} {mc ms : Nat} (hal : Y.2.2.2.2.2.1 = true) (hZ : ZI Z) (hC : ax_C Y p l R s m args meth c D ca ad A) (hP : ax_P D ca ad A w H s.heap locs) (hl : lv_has ls Y.2.2.1 (la.map fun q => (q.1, ax_v ad q.2))) (hE : Z p l e R s m args below meth c D ca ad A Qf)
    (hla : la.all (fun q => ax_ov w.1.length w.2.length q.2) = true) (hst : rest.all (ax_ov w.1.length w.2.length) = true)
    (hr : va_Run p l e R s m args below meth c H locs kn.1 kn.2 mc ms (F0 m pc ls st0) (rest.map (ax_v ad)) (ax_Qc true D ca ad w H.size (fun r w' => r = none ∧ Q1 r w') a) (va_A (ax_w ca ad w) H.size))
    (kk : ∀ (w' : ax_W), Q1 none w' → AbZ Z Y (kn.1 + mc, kn.2 + ms) (pc + 3) la rest w') : W p l e R s m args below meth c H locs kn.1 kn.2 Qf (F0 m pc ls st0) := by
  intro T hT X
  obtain ⟨v, st₀, t, T', L, h0, X', hL, e1, e2, ⟨⟨r, w', ad', hv, ⟨hr0, hq⟩, hag, g1, g2, hP1, hD1⟩, hz, hkp⟩, stp⟩ := hr T hT X
  have hag : ∀ i, ax_old w.1.length w.2.length i → ad' i = ad i := hag
  subst hr0
  cases hv
  rw [h0] at hz hkp
  have hfr := ax_free hP hC.2.2.2.2.2.2.2.2.2.2.1
  have hS1 : va_S A s.heap T'.heap (locs ++ L) := ⟨Nat.le_trans hP.2.2.1 (by rw [e1]; exact hz), fun q h1 h2 => by
      rw [e1, hkp q (Nat.lt_of_lt_of_le h1 hP.2.2.1) (fun z => h2 (hfr q z))]
      exact hP.2.2.2.1 q h1 h2, fun q hq2 => by
      rcases List.mem_append.mp hq2 with h | h
      · exact hP.2.2.2.2 q h
      · exact hfr _ (hL q h)⟩
  have e4 : (la.map fun q => (q.1, ax_v ad' q.2)) = la.map fun q => (q.1, ax_v ad q.2) := List.map_congr_left fun x hx => by rw [ax_v_ov hag (List.all_eq_true.mp hla x hx)]
  have e5 : rest.map (ax_v ad') = rest.map (ax_v ad) := List.map_congr_left fun x hx => ax_v_ov hag (List.all_eq_true.mp hst x hx)
  obtain ⟨t2, a1, b1⟩ := kk w' hq p l e R s m args below meth c D ca ad' A Qf T'.heap (locs ++ L) ls (hC.moved (fun i hi => hag i (Or.inr (Or.inr hi)))) ⟨by rw [e1]; exact hP1, hD1.weaken (fun k q _ h => hfr q.1 h), hS1⟩ (by rw [e4]; exact hl) (hZ _ _ _ _ _ _ _ _ _ _ _ _ _ _ _ _ hE) T' rfl X'
  refine ⟨t2, stp t2 ?_, b1⟩
  rw [e5] at a1
  exact a1
theorem az_callI {b : Nat} (d : decode Y.2.1 pc = .ok (.invokespecial idx, 3)) (hm : ax_mi Y1) (hlk : Cond.methodLink Y.1.cls idx Y1.1 ∈ TB) (hal : Y.2.2.2.2.2.1 = true ∧ Y1.2.2.2.2.2.1 = true) (hZ : ZI Z) (hr : Y1.2.2.2.2.1.frames + 1 ≤ Y.2.2.2.2.1.frames ∧ 8 + (Y1.2.2.1 + 11) + Y1.2.2.2.2.1.locals ≤ Y.2.2.2.2.1.locals) (hk : kn.1 + Y1.2.2.2.2.1.cells ≤ Y.2.2.2.2.1.cells ∧ kn.2 + Y1.2.2.2.2.1.slots ≤ Y.2.2.2.2.1.slots) (hcat : (rest.map fun v => v.category).sum ≤ 8) (hla : la.all (fun q => ax_ov w.1.length w.2.length q.2) = true) (hst : rest.all (ax_ov w.1.length w.2.length) = true) (hct : Ct Y1 [.ref b] w (fun r w' => r = none ∧ Q1 r w')) (kk : ∀ (w' : ax_W), Q1 none w' → AbZ Z Y (kn.1 + Y1.2.2.2.2.1.cells, kn.2 + Y1.2.2.2.2.1.slots) (pc + 3) la rest w') : AbZ Z Y kn pc la (.ref b :: rest) w := by
  intro p l e R s m args below meth c D ca ad A Qf H locs ls hC hP hl hE
  obtain ⟨m1, m3, m4, m5, m6, m7⟩ := hm
  have hRR : R = Y.2.2.2.2.1 := hC.2.2.2.2.2.2.2.2.1
  have hMet := hct l hC.2.2.2.2.2.2.2.2.2.2.2.2.1 D ca ad H.size
  rw [hal.2, m7] at hMet
  have hts := hC.2.2.2.2.2.1
  refine az_backN hal.1 hZ hC hP hl hE hla hst (va_runI (b := ad b) (As := []) (n := 0) ⟨hC.1, hC.2.1, hC.2.2.1, hC.2.2.2.2.1, hts⟩ hMet (cwI 0 hts (tb_goodIn (fun x hx => by rcases List.mem_cons.mp hx with q | q; (rw [q]; exact m4); exact q)) rfl rfl rfl (hts _ m3) (hts _ hlk) (hts _ m1) m6 m5 (by rw [hRR]; exact hr)) ⟨ax_blind, ax_pre hC hP [.ref b]⟩ rfl rfl hl.1 rfl (by rw [ax_catsum]; exact lv_room hcat) d (by rw [hRR]; exact hk)) kk
theorem az_newJ {ci N j : Nat} {C : String} {T : u_T} {tys : Nat → FieldType} {fs : List Value} (d : decode Y.2.1 pc = .ok (.new idx, 3)) (hcl : ax_cl[ci]? = some (C, T, N)) (hw : Cond.classLink Y.1.cls idx C ∈ TB ∧ Cond.instantiable C N ∈ TB ∧ Cond.initialized C ∈ TB ∧ ∀ x ∈ u_ws C T N, x ∈ TB) (hty : ∀ k, k < N → parseFieldDescriptor (T k).2.2.1 = some (tys k)) (hfs : ∀ j, j < N → defaultValue (tys j) = vp_V fs j) (hnf : ∀ ad, fs.map (ax_v ad) = fs) (hal : Y.2.2.2.2.2.1 = true) (hZ : ZI Z) (hk : kn.1 + 1 ≤ Y.2.2.2.2.1.cells ∧ kn.2 + N ≤ Y.2.2.2.2.1.slots) (hok : ax_okn la rest w (ob ci fs) = true) (hs : ax_add w (ob ci fs) = w1) (hj : ax_nxt w = j) (k : AbZ Z Y (kn.1 + 1, kn.2 + N) (pc + 3) la (.ref j :: rest) w1) : AbZ Z Y kn pc la rest w := az_new d hcl hw hty hfs hnf hal hZ hk hok hs (by rw [hj]; exact k)
theorem az_newlJ {n : Int32} {N j : Nat} (d : decode Y.2.1 pc = .ok (.newarray .long, 2)) (hn : ¬ n < 0 ∧ n.toNatClampNeg = N ∧ N * 8 ≤ 536870912) (hw : Cond.arrayClass .long ∈ TB) (hal : Y.2.2.2.2.2.1 = true) (hZ : ZI Z) (hk : kn.1 + 1 ≤ Y.2.2.2.2.1.cells ∧ kn.2 + N ≤ Y.2.2.2.2.1.slots) (hok : ax_okn la rest w (ja N (fun _ => 0)) = true) (hs : ax_add w (ja N (fun _ => 0)) = w1) (hj : ax_nxt w = j) (k : AbZ Z Y (kn.1 + 1, kn.2 + N) (pc + 2) la (.ref j :: rest) w1) : AbZ Z Y kn pc la (.int n :: rest) w := az_newl d hn hw hal hZ hk hok hs (by rw [hj]; exact k)
theorem gz_back {p : Program} {l : Launch} {e : Env} {R : Room} {s : State} {m : MethodId} {args : Array Value} {below : List Frame} {meth : Method} {c : Code} {D : va_G} {ca : Nat → ClassId} {ad : Nat → Nat} {A : Nat → Prop} {Qf : State → Prop} {H : Heap} {locs : List Loc} {ls : Array Slot} {a : Array Value} {st0 : List Value} (hs : sgOk sg) (h1 : w.1.length = 33) (h2 : w.2.length = 21) (hC : ax_C Y p l R s m args meth c D ca ad A) (hP : ax_P D ca ad A (upW sg o w) H s.heap locs) (hl : lv_has ls Y.2.2.1 (la.map fun q => (q.1, ax_v ad q.2))) (hE : Z p l e R s m args below meth c D ca ad A Qf)
    (hr : va_Run p l e R s m args below meth c H locs kn.1 kn.2 0 0 (F0 m pc ls st0) (rest.map (ax_v ad)) (ax_Qc false D ca (fun i => ad (sg i)) w H.size Q1 a) (va_A (ax_w ca (fun i => ad (sg i)) w) H.size))
    (kk : ∀ (r : Option Value) (w' : ax_W), Q1 r w' → (w'.1.length = 33 ∧ w'.2.length = 21) ∧ AbZ Z Y kn (pc + 3) la ((r.map (rnV sg)).toList ++ rest) (upW sg o w')) : W p l e R s m args below meth c H locs kn.1 kn.2 Qf (F0 m pc ls st0) := by
  intro T hT X
  obtain ⟨v, st₀, t, T', L, h0, X', hL, e1, e2, ⟨⟨r, w', ad', hv, hq, hag, g1, g2, hP1, hD1⟩, hz, hkp⟩, stp⟩ := hr T hT X
  have hag : ad' = (fun i => ad (sg i)) := hag
  subst hag
  cases hv
  obtain ⟨⟨l1, l2⟩, kk2⟩ := kk r w' hq
  rw [h0] at hz hkp
  have hD2 : va_D A (ax_w ca (fun i => ad (sg i)) w) := hP.2.1.by _ (up_in hs h1 h2 ca ad) (fun i j _ _ e => by
    by_cases ci : i < 33
    · by_cases cj : j < 33
      · rw [if_pos ci, if_pos cj] at e
        rw [← hs.1 i, ← hs.1 j, e]
      · rw [if_pos ci, if_neg cj] at e
        have := hs.2.2 i ci; omega
    · by_cases cj : j < 33
      · rw [if_neg ci, if_pos cj] at e
        have := hs.2.2 j cj; omega
      · rw [if_neg ci, if_neg cj] at e; exact e)
  have hfr : ∀ q, va_A (ax_w ca (fun i => ad (sg i)) w) H.size q → A q := by
    intro q h
    rcases h with ⟨k, x, h⟩ | h
    · exact hD2.2 k (q, x) h
    · exact hC.2.2.2.2.2.2.2.2.2.2.1 q (Nat.le_trans hP.2.2.1 h)
  have hS1 : va_S A s.heap T'.heap (locs ++ L) := ⟨Nat.le_trans hP.2.2.1 (by rw [e1]; exact hz), fun q h1 h2 => by
      rw [e1, hkp q (Nat.lt_of_lt_of_le h1 hP.2.2.1) (fun z => h2 (hfr q z))]
      exact hP.2.2.2.1 q h1 h2, fun q hq2 => by
      rcases List.mem_append.mp hq2 with h | h
      · exact hP.2.2.2.2 q h
      · exact hfr _ (hL q h)⟩
  have hlast := up_last (s := sg) (o := o) h2 ca ad
  have hat := hP.1 54 _ hlast
  have hnA : ¬ va_A (ax_w ca (fun i => ad (sg i)) w) H.size (ad 1021) := by
    intro h
    rcases h with ⟨k, x, h⟩ | h
    · have h3 := up_in (o := o) hs h1 h2 ca ad k _ h
      have h4 := hP.2.1.1 _ _ _ _ h3 hlast rfl
      have hk : k < 54 := by
        rcases Nat.lt_or_ge k 54 with z | z
        · exact z
        · rw [List.getElem?_eq_none (by unfold ax_w; rw [List.length_append, ax_x_len, ax_x_len]; omega)] at h; cases h
      by_cases c3 : k < 33
      · rw [if_pos c3] at h4
        have := hs.2.2 k c3; omega
      · rw [if_neg c3] at h4; omega
    · exact absurd h (Nat.not_le.mpr hat.lt)
  have hP3 : va_P D ax_cl (ax_w ca ad (upW sg o w')) t.heap := by
    intro k q hq3
    by_cases c4 : k = 54
    · subst c4
      rw [up_last l2 ca ad] at hq3
      cases hq3
      exact hat.kept (hkp _ hat.lt hnA)
    · exact hP1 _ q (up_out hs l1 l2 ca ad k q c4 hq3)
  have hD3 : va_D A (ax_w ca ad (upW sg o w')) := D_ad hP.2.1 (up_ad h2 l2 ca ad)
  obtain ⟨t2, a1, b1⟩ := kk2 p l e R s m args below meth c D ca ad A Qf T'.heap (locs ++ L) ls hC ⟨by rw [e1]; exact hP3, hD3, hS1⟩ hl hE T' rfl X'
  refine ⟨t2, stp t2 ?_, b1⟩
  have e3 : (r.map (ax_v fun i => ad (sg i))).toList ++ rest.map (ax_v ad) = ((r.map (rnV sg)).toList ++ rest).map (ax_v ad) := by
    rw [List.map_append]
    congr 1
    cases r with
    | none => rfl
    | some v =>
      show [ax_v (fun i => ad (sg i)) v] = [ax_v ad (rnV sg v)]
      rw [← rn_v ad sg v]
  rw [e3]
  exact a1
theorem az_callVL (hs : sgOk sg) (h1 : w.1.length = 33) (h2 : w.2.length = 21) (d : decode Y.2.1 pc = .ok (.invokevirtual idx, 3)) (hm : ax_mv Y1 ci n) (hlk : Cond.methodLink Y.1.cls idx Y1.1 ∈ TB) (hr : ax_rm Y Y1) (hk : kn.1 ≤ Y.2.2.2.2.1.cells ∧ kn.2 ≤ Y.2.2.2.2.1.slots) (hst : st = As.reverse ++ .ref b :: rest) (hb : sg b = b) (hAs : As.map (rnV sg) = As) (hn : As.length = n) (hcat : (rest.map fun v => v.category).sum ≤ 8) (hg : ax_get w b = some (ob ci fs)) (hct : Ct Y1 (.ref b :: As) w Q1) (kk : ∀ (r : Option Value) (w' : ax_W), Q1 r w' → (w'.1.length = 33 ∧ w'.2.length = 21) ∧ AbZ Z Y kn (pc + 3) la ((r.map (rnV sg)).toList ++ rest) (upW sg o w')) : AbZ Z Y kn pc la st (upW sg o w) := by
  intro p l e R s m args below meth c D ca ad A Qf H locs ls hC hP hl hE
  obtain ⟨m1, m2, m3, m4, m5, T, N, m6⟩ := hm
  obtain ⟨r1, r2, r3, r4, r5⟩ := hr
  obtain ⟨q, hq, -⟩ := ax_at (ca := ca) (ad := fun i => ad (sg i)) hg
  have hRR : R = Y.2.2.2.2.1 := hC.2.2.2.2.2.2.2.2.1
  have hMet := hct l hC.2.2.2.2.2.2.2.2.2.2.2.2.1 D ca (fun i => ad (sg i)) H.size
  rw [r3, r4, r5] at hMet
  have hK := hC.2.2.2.2.2.2.2.2.2.1
  have hP2 : va_P D ax_cl (ax_w ca (fun i => ad (sg i)) w) H := hP.1.by _ (up_in hs h1 h2 ca ad)
  have eAs : As.map (ax_v fun i => ad (sg i)) = As.map (ax_v ad) := by
    conv => rhs; rw [← hAs, List.map_map]
    apply List.map_congr_left
    intro v _
    exact (rn_v ad sg v).symm
  refine gz_back hs h1 h2 hC hP hl hE (va_runV (C := Y1.1.cls) (b := ad (sg b)) (As := As.map (ax_v fun i => ad (sg i))) (n := n) ⟨hC.1, hC.2.1, hC.2.2.1, hC.2.2.2.2.1, hC.2.2.2.2.2.1⟩ hMet (cwV n hC.2.2.2.2.2.1 (ax_words (by intro x hx; simp only [List.mem_cons, List.not_mem_nil, or_false] at hx; rcases hx with rfl | rfl | rfl | rfl <;> assumption) m4) rfl r3 r4 ⟨rfl, m5⟩ (by rw [hRR]; exact ⟨r1, r2⟩)) ⟨ax_blind, va_recv hK hP2 m6 hq, gp_pre hs h1 h2 hC hP (.ref b :: As)⟩ rfl (by rw [List.length_map]; exact hn) hl.1 (by rw [hst, eAs, hb]; simp [F0, ax_v]) (by rw [ax_catsum]; exact lv_room hcat) d (by rw [hRR]; exact hk)) kk
end ZRULES
/-! THE LAW'S RULES -/
abbrev M_law (L : Nat) (xs : Nat → Int32) : ax_M := (yL_law, code, 7, some .boolean, room_1, true, some (L, xs))
abbrev lwL (i : Nat) : List (Nat × Value) := [(0, .ref 5000), (1, .ref 0), (2, .ref 1000), (3, .ref 1021), (4, .int (nI i))]
theorem sg_c {sg : Nat → Nat} (h : isSg sg) : sgOk sg ∧ sg 0 = 0 ∧ sg 1000 = 1000 := by
  rcases h with rfl | rfl
  · exact ⟨sid_ok, rfl, rfl⟩
  · exact ⟨sw_ok, rfl, rfl⟩
theorem lw_ix {L i k : Nat} {c : Int} (h : i + k < L) (hL : L ≤ 3072) (hc : Int32.ofInt c = nI k) : ax_ix (nI i + Int32.ofInt c) L (i + k) := by
  have e : nI i + Int32.ofInt c = nI (i + k) := by
    rw [hc]
    exact (Int32.ofNat_add i k).symm
  rw [e]
  exact ix_nI h (by omega)
section LAWR
variable {L : Nat} {xs : Nat → Int32} {Z : ZT} {kn : Nat × Nat} {pc i : Nat} {la : List (Nat × Value)} {rest : List Value} {w : ax_W}
theorem lw_arg (k : Nat) {c : Int} (hx : ax_ix (nI i + Int32.ofInt c) L (i + k)) (d0 : decode code pc = .ok (.aload_n 0, 1)) (d1 : decode code (pc + 1) = .ok (.iload 4, 2)) (d3 : decode code (pc + 1 + 2) = .ok (.iconst c, 1)) (d4 : decode code (pc + 1 + 2 + 1) = .ok (.iadd, 1)) (d5 : decode code (pc + 1 + 2 + 1 + 1) = .ok (.iaload, 1)) (kk : AbZ Z (M_law L xs) kn (pc + 6) (lwL i) (.int (xs (i + k)) :: rest) w) : AbZ Z (M_law L xs) kn pc (lwL i) rest w :=
  az_aload_n d0 rfl (az_iload d1 rfl (az_iconst d3 rfl (az_iadd d4 (az_sld d5 rfl hx kk))))
theorem lw_bool {x : Int32} (d0 : decode code pc = .ok (.ifCond .eq 7, 3)) (d3 : decode code (pc + 3) = .ok (.iconst 1, 1)) (d4 : decode code (pc + 3 + 1) = .ok (.goto 4, 3)) (d7 : decode code (pc + 7) = .ok (.iconst 0, 1)) (kk : AbZ Z (M_law L xs) kn (pc + 8) la (.int (if x = 0 then 0 else 1) :: rest) w) : AbZ Z (M_law L xs) kn pc la (.int x :: rest) w := by
  refine az_ifeq (pc + 7) d0 (by omega) (fun h => ?_) (fun h => ?_)
  · refine az_iconst d7 (v := 0) (by decide) ?_
    rw [if_pos h] at kk
    exact kk
  · refine az_iconst d3 (v := 1) (by decide) (az_goto (pc + 8) d4 (by omega) ?_)
    rw [if_neg h] at kk
    exact kk
theorem lw_cat (r : Option Value) : ((r.toList).map fun v => v.category).sum ≤ 8 := by
  cases r with
  | none => decide
  | some v => cases v <;> exact Nat.le_of_ble_eq_true rfl
/-- behind both calls: the same numbers, so the law goes on -/
theorem lw_eqI {tgt : Nat} {off : Int} {r r2 : Option Value} {sg : Nat → Nat} (he : r2 = r ∧ ∃ v : Int32, r = some (.int v)) (d : decode code pc = .ok (.if_icmp .eq off, 3)) (ht : (pc : Int) + off = (tgt : Int)) (kk : AbZ Z (M_law L xs) kn tgt la [] w) : AbZ Z (M_law L xs) kn pc la ((r2.map (rnV sg)).toList ++ (r.map (rnV sg)).toList) w := by
  obtain ⟨rfl, v, rfl⟩ := he
  exact az_icmpeq tgt d ht (fun _ => kk) (fun h => absurd rfl h)
theorem lw_eqL {tgt : Nat} {off : Int} {r r2 : Option Value} {sg : Nat → Nat} (he : r2 = r ∧ ∃ v : Int64, r = some (.long v)) (d : decode code pc = .ok (.lcmp, 1)) (d2 : decode code (pc + 1) = .ok (.ifCond .eq off, 3)) (ht : ((pc + 1 : Nat) : Int) + off = (tgt : Int)) (kk : AbZ Z (M_law L xs) kn tgt la [] w) : AbZ Z (M_law L xs) kn pc la ((r2.map (rnV sg)).toList ++ (r.map (rnV sg)).toList) w := by
  obtain ⟨rfl, v, rfl⟩ := he
  exact az_lcmpeq tgt d d2 ht (fun _ => kk) (fun h => absurd rfl h)
/-- the class's call -/
theorem lw_x {Y1 : ax_M} {idx n : Nat} {As : List Value} {Q1 : Option Value → ax_W → Prop} {sg : Nat → Nat} {o : ax_E} (hsg : isSg sg) (hI : INV w) (d : decode code pc = .ok (.invokevirtual idx, 3)) (hm : ax_mv Y1 8 n) (hlk : Cond.methodLink RL idx Y1.1 ∈ TB) (hr : ax_rm (M_law L xs) Y1) (hk : kn.1 ≤ 1080 ∧ kn.2 ≤ 11187) (hAs : As.map (rnV sg) = As) (hn : As.length = n) (hct : Ct Y1 (.ref 0 :: As) w Q1) (kk : ∀ (r : Option Value) (w' : ax_W), Q1 r w' → (w'.1.length = 33 ∧ w'.2.length = 21) ∧ AbZ Z (M_law L xs) kn (pc + 3) la (r.map (rnV sg)).toList (upW sg o w')) : AbZ Z (M_law L xs) kn pc la (As.reverse ++ [.ref 0]) (upW sg o w) := by
  obtain ⟨l1, l2, ⟨fs, hg⟩, -⟩ := inv_w hI
  refine az_callVL (sg_c hsg).1 l1 l2 d hm hlk hr hk rfl (sg_c hsg).2.1 hAs hn (by decide) hg hct (fun r w' q => ⟨(kk r w' q).1, ?_⟩)
  rw [List.append_nil]
  exact (kk r w' q).2
/-- the reference's call -/
theorem lw_m {Y1 : ax_M} {idx n : Nat} {As : List Value} {Q1 : Option Value → ax_W → Prop} {sg : Nat → Nat} {o : ax_E} {r : Option Value} (hsg : isSg sg) (l1 : w.1.length = 33) (l2 : w.2.length = 21) (hg : ∃ fs, ax_get w 1000 = some (ob 9 fs)) (d : decode code pc = .ok (.invokevirtual idx, 3)) (hm : ax_mv Y1 9 n) (hlk : Cond.methodLink RL idx Y1.1 ∈ TB) (hr : ax_rm (M_law L xs) Y1) (hk : kn.1 ≤ 1080 ∧ kn.2 ≤ 11187) (hAs : As.map (rnV sg) = As) (hn : As.length = n) (hct : Ct Y1 (.ref 1000 :: As) w Q1) (kk : ∀ (r2 : Option Value) (w' : ax_W), Q1 r2 w' → (w'.1.length = 33 ∧ w'.2.length = 21) ∧ AbZ Z (M_law L xs) kn (pc + 3) la ((r2.map (rnV sg)).toList ++ (r.map (rnV sg)).toList) (upW sg o w')) : AbZ Z (M_law L xs) kn pc la (As.reverse ++ .ref 1000 :: (r.map (rnV sg)).toList) (upW sg o w) := by
  obtain ⟨fs, hg⟩ := hg
  exact az_callVL (sg_c hsg).1 l1 l2 d hm hlk hr hk rfl (sg_c hsg).2.2 hAs hn (lw_cat _) hg hct kk
end LAWR
