/-! THE ABSTRACT MACHINE: a world is two lists of cells (the class's, the reference's); a reference is a place: below 1000 in the first list, from 1000 on in the second, from 2000 on what nobody writes (2000.. tables, 3000.. texts, 4000.. their bytes, 5000 the script). 'ad' says where a place lies. -/
def TB : List Cond := lw_tbl.filter goodWord
theorem tb_good {w : Cond} (h : w ∈ TB) : (w.onTables && w.keeps) = true ∨ ∃ ty, w = .arrayClass ty := good_of_word (List.mem_filter.mp h).2
theorem tb_of {w : Cond} (i : Nat) (h : tables_1[i]? = some w) (g : goodWord w = true) : w ∈ TB := List.mem_filter.mpr ⟨List.mem_append_right _ (List.mem_of_getElem? h), g⟩
theorem tb_sel {w : Cond} (i : Nat) (h : (k2_sels lw_privs)[i]? = some w) (g : goodWord w = true) : w ∈ TB := List.mem_filter.mpr ⟨List.mem_append_left _ (List.mem_of_getElem? h), g⟩
theorem tb_goodIn {ws : List Cond} (h : ∀ w ∈ ws, w ∈ TB) : GoodIn TB ws := fun w hw => ⟨h w hw, tb_good (h w hw)⟩
abbrev ax_E : Type := (Nat × Nat × (Nat → Int32)) ⊕ ((Nat × (Nat → Int64)) ⊕ (Nat × List Value))
abbrev ax_W : Type := List ax_E × List ax_E
/-- a method: name, code, locals, answer's type, room, whether it makes cells, the script that it reads (the law alone) -/
abbrev ax_M : Type := MethodName × ByteArray × Nat × Option FieldType × Room × Bool × Option (Nat × (Nat → Int32))
abbrev ax_cl : List vw_C := [(RX0, TX0, 5), (RX1, TX1, 10), (RX2, TX2, 2), (RX3, TX3, 4), (RX4, TX4, 13), (RX5, TX5, 16), (RX6, TX6, 7), (RX8, TX8, 8), (RX10, TX10, 10), (RX11, TX11, 65)]
def ax_v (ad : Nat → Nat) : Value → Value
  | .ref i => .ref (ad i)
  | .int x => .int x
  | .long x => .long x
  | .float x => .float x
  | .double x => .double x
  | .null => .null
  | .retAddr x => .retAddr x
def ax_e (ca : Nat → ClassId) (ad : Nat → Nat) : ax_E → va_E
  | .inl (t, n, f) => .inl (ca t, n, .inl f)
  | .inr (.inl (n, f)) => .inl (ca 2, n, .inr (.inl f))
  | .inr (.inr (c, fs)) => .inr (c, fs.map (ax_v ad))
def ax_x (ca : Nat → ClassId) (ad : Nat → Nat) : Nat → List ax_E → va_W
  | _, [] => []
  | o, x :: xs => (ad o, ax_e ca ad x) :: ax_x ca ad (o + 1) xs
def ax_w (ca : Nat → ClassId) (ad : Nat → Nat) (w : ax_W) : va_W := ax_x ca ad 0 w.1 ++ ax_x ca ad 1000 w.2
def ax_get (w : ax_W) (i : Nat) : Option ax_E := if i < 1000 then w.1[i]? else w.2[i - 1000]?
def ax_set (w : ax_W) (i : Nat) (x : ax_E) : ax_W := if i < 1000 then (w.1.set i x, w.2) else (w.1, w.2.set (i - 1000) x)
abbrev ax_t (ca : Nat → ClassId) : List (ClassId × FieldType) := [(ca 0, .int), (ca 1, .byte), (ca 2, .long)]
theorem ax_x_len {ca : Nat → ClassId} {ad : Nat → Nat} : ∀ (o : Nat) (xs : List ax_E), (ax_x ca ad o xs).length = xs.length
  | _, [] => rfl
  | o, _ :: xs => congrArg (· + 1) (ax_x_len (o + 1) xs)
theorem ax_x_get {ca : Nat → ClassId} {ad : Nat → Nat} : ∀ (o : Nat) (xs : List ax_E) (k : Nat), (ax_x ca ad o xs)[k]? = xs[k]?.map (fun x => (ad (o + k), ax_e ca ad x))
  | _, [], k => by simp [ax_x]
  | o, x :: xs, 0 => by simp [ax_x]
  | o, x :: xs, k + 1 => by
    show (ax_x ca ad (o + 1) xs)[k]? = _
    rw [ax_x_get (o + 1) xs k]
    simp only [List.getElem?_cons_succ]
    rw [show o + 1 + k = o + (k + 1) by omega]
theorem ax_x_set {ca : Nat → ClassId} {ad : Nat → Nat} (y : ax_E) : ∀ (o : Nat) (xs : List ax_E) (k : Nat), ax_x ca ad o (xs.set k y) = (ax_x ca ad o xs).set k (ad (o + k), ax_e ca ad y)
  | _, [], k => by simp [ax_x]
  | o, x :: xs, 0 => by simp [ax_x]
  | o, x :: xs, k + 1 => by
    show (ad o, _) :: ax_x ca ad (o + 1) (xs.set k y) = (ad o, _) :: (ax_x ca ad (o + 1) xs).set k _
    rw [ax_x_set y (o + 1) xs k, show o + 1 + k = o + (k + 1) by omega]
theorem ax_at {ca : Nat → ClassId} {ad : Nat → Nat} {w : ax_W} {i : Nat} {x : ax_E} (h : ax_get w i = some x) :
    ∃ q : Nat, (ax_w ca ad w)[q]? = some (ad i, ax_e ca ad x) ∧ ∀ y : ax_E, ax_w ca ad (ax_set w i y) = (ax_w ca ad w).set q (ad i, ax_e ca ad y) := by
  unfold ax_get at h
  by_cases hi : i < 1000
  · rw [if_pos hi] at h
    have hl : i < w.1.length := (List.getElem?_eq_some_iff.mp h).1
    refine ⟨i, ?_, fun y => ?_⟩
    · unfold ax_w
      rw [List.getElem?_append_left (by rw [ax_x_len]; exact hl), ax_x_get, h]
      simp
    · unfold ax_w ax_set
      rw [if_pos hi]
      show ax_x ca ad 0 (w.1.set i y) ++ ax_x ca ad 1000 w.2 = _
      rw [ax_x_set, List.set_append_left _ _ (by rw [ax_x_len]; exact hl)]
      simp
  · rw [if_neg hi] at h
    have hl : i - 1000 < w.2.length := (List.getElem?_eq_some_iff.mp h).1
    have e : 1000 + (i - 1000) = i := by omega
    refine ⟨w.1.length + (i - 1000), ?_, fun y => ?_⟩
    · unfold ax_w
      rw [List.getElem?_append_right (by rw [ax_x_len]; omega), ax_x_get, ax_x_len, show w.1.length + (i - 1000) - w.1.length = i - 1000 by omega, h, e]
      simp
    · unfold ax_w ax_set
      rw [if_neg hi]
      show ax_x ca ad 0 w.1 ++ ax_x ca ad 1000 (w.2.set (i - 1000) y) = _
      rw [ax_x_set, e, List.set_append_right _ _ (by rw [ax_x_len]; omega), ax_x_len, show w.1.length + (i - 1000) - w.1.length = i - 1000 by omega]
theorem ax_set_len {w : ax_W} {i : Nat} {x : ax_E} : (ax_set w i x).1.length = w.1.length ∧ (ax_set w i x).2.length = w.2.length := by
  unfold ax_set
  by_cases hi : i < 1000
  · rw [if_pos hi]; simp
  · rw [if_neg hi]; simp
/-- what nobody writes: tables, texts, and words that aren't on the tables -/
abbrev ax_st : List (String × String × List Int32) := [("CrankBranches$Turn", "RISES", [-5, -4, -3, -5, -2, -5, -3, -4, -5, -1, -4, -3, -2, -3, -1, -2, -1, -1, -1, 0, 1, 1, 1, 2, 1, 3, 2, 3, 4, 1, 5, 4, 3, 5, 2, 5, 3, 4, 5, 1]), ("CrankBranches$Turn", "RUNS", [1, 1, 1, 2, 1, 3, 2, 3, 4, 1, 5, 4, 3, 5, 2, 5, 3, 4, 5, 1, 5, 4, 3, 5, 2, 5, 3, 4, 5, 1, 4, 3, 2, 3, 1, 2, 1, 1, 1, 0]), ("CrankBranches$Desk", "ROOMS", [4, 4, 8, 4]), ("CrankBranches$Desk", "WIDTHS", [4, 2, 2, 4]), ("CrankBranches$Desk", "STARTS", [0, 16, 24, 40])]
abbrev ax_sl : List Nat := [4, 6, 5, 4, 6, 5, 3, 3, 15]
abbrev ax_sb : List (List Int32) := [[98, 97, 114, 115], [116, 114, 97, 99, 101, 114], [112, 111, 105, 110, 116], [112, 97, 105, 114], [103, 114, 111, 117, 110, 100], [99, 114, 97, 110, 107], [114, 111, 100], [97, 114, 109], [110, 111, 32, 115, 117, 99, 104, 32, 108, 105, 110, 107, 97, 103, 101]]
abbrev ax_sr : List (String × Nat × String × Nat) := [("CrankBranches$Tape", 83, "bars", 0), ("CrankBranches$Tape", 85, "tracer", 1), ("CrankBranches$Tape", 87, "point", 2), ("CrankBranches$Tape", 89, "pair", 3), ("CrankBranches$Tape", 91, "ground", 4), ("CrankBranches$Tape", 93, "crank", 5), ("CrankBranches$Tape", 95, "rod", 6), ("CrankBranches$Tape", 97, "arm", 7), ("CrankBranches", 384, "no such linkage", 8), ("CrankBranchesModel", 204, "bars", 0), ("CrankBranchesModel", 209, "tracer", 1), ("CrankBranchesModel", 214, "point", 2), ("CrankBranchesModel", 219, "pair", 3), ("CrankBranchesModel", 180, "ground", 4), ("CrankBranchesModel", 186, "crank", 5), ("CrankBranchesModel", 188, "rod", 6), ("CrankBranchesModel", 190, "arm", 7)]
def ax_RT (ad : Nat → Nat) (A : Nat → Prop) (U : State) (H : Heap) : Prop := ∀ (j : Nat) (q : String × String × List Int32), ax_st[j]? = some q → va_Z q.1 q.2.1 "[I" (.ref (ad (2000 + j))) A U H ∧ va_T .int (ad (2000 + j)) q.2.2.length (fun i => .int (q.2.2.getD i 0)) A U H
def ax_RS (ad : Nat → Nat) (U : State) : Prop := ∀ (j : Nat) (q : String × Nat × String × Nat), ax_sr[j]? = some q → vk_R q.1 q.2.1 q.2.2.1 (ad (3000 + q.2.2.2)) U
abbrev ax_nw : List (Nat × MethodName) := [(15, yX6_init), (22, yX2_init), (32, yX3_init), (39, yX5_init), (46, yX1_init), (53, yX4_init), (60, yX8_init), (67, yX0_init)]
def ax_RN (U : State) : Prop := ∀ (j : Nat) (q : Nat × MethodName), ax_nw[j]? = some q → va_Nw (.methodLinkNest "CrankBranches" q.1 q.2 "CrankBranches") U
def ax_RF (ad : Nat → Nat) (A : Nat → Prop) (U : State) (H : Heap) : Prop := va_Z "jdk/internal/util/Preconditions" "SIOOBE_FORMATTER" "Ljava/util/function/BiFunction;" .null A U H ∨ va_Z "jdk/internal/util/Preconditions" "SIOOBE_FORMATTER" "Ljava/util/function/BiFunction;" (.ref (ad 6000)) A U H
def ax_RO (ad : Nat → Nat) (A : Nat → Prop) (U : State) (H : Heap) : Prop :=
  ax_RT ad A U H ∧ vk_S 9 ax_sl ax_sb (fun i => ad (3000 + i)) (fun i => ad (4000 + i)) A U H ∧ ax_RS ad U ∧ va_Z "java/lang/String" "COMPACT_STRINGS" "Z" (.int 1) A U H ∧ ax_RF ad A U H ∧ ax_RN U
theorem ax_RO.warm {ad : Nat → Nat} {A : Nat → Prop} {s U : State} {H : Heap} (hW : s.WarmedH U.vm) (h : ax_RO ad A s H) : ax_RO ad A U H := by
  obtain ⟨h1, h2, h3, h4, h5, h6⟩ := h
  exact ⟨fun j q hq => ⟨va_Z.moved hW.alike (h1 j q hq).1, va_T.moved hW.alike (h1 j q hq).2⟩, vk_S.moved hW.alike h2, fun j q hq => vk_R.warm hW (h3 j q hq), va_Z.moved hW.alike h4, h5.imp (va_Z.moved hW.alike) (va_Z.moved hW.alike), fun j q hq => va_Nw.warmM hW (h6 j q hq)⟩
theorem ax_RO.same {ad : Nat → Nat} {A : Nat → Prop} {u U : State} {H : Heap} (hv : U.vm = u.vm) (h : ax_RO ad A u H) : ax_RO ad A U H := by
  obtain ⟨h1, h2, h3, h4, h5, h6⟩ := h
  have ha : u.vm.Alike U.vm := by rw [hv]; exact Vm.Alike.refl _
  exact ⟨fun j q hq => ⟨va_Z.moved ha (h1 j q hq).1, va_T.moved ha (h1 j q hq).2⟩, vk_S.moved ha h2, fun j q hq => vk_R.same hv (h3 j q hq), va_Z.moved ha h4, h5.imp (va_Z.moved ha) (va_Z.moved ha), fun j q hq => va_Nw.same rfl hv.symm (h6 j q hq)⟩
theorem ax_RO.kept {ad : Nat → Nat} {A : Nat → Prop} {U : State} {H H1 : Heap} (h : ax_RO ad A U H) (hq : ∀ a : Nat, a < H.size → ¬ A a → H1[a]? = H[a]?) : ax_RO ad A U H1 := by
  obtain ⟨h1, h2, h3, h4, h5, h6⟩ := h
  exact ⟨fun j q hj => ⟨(h1 j q hj).1.kept hq, (h1 j q hj).2.kept hq⟩, h2.kept hq, h3, h4.kept hq, h5.imp (fun z => z.kept hq) (fun z => z.kept hq), h6⟩
theorem ax_RO.narrow {ad : Nat → Nat} {A B : Nat → Prop} {U : State} {H : Heap} (h : ax_RO ad A U H) (hAB : ∀ q, B q → A q) : ax_RO ad B U H := by
  obtain ⟨h1, h2, h3, h4, h5, h6⟩ := h
  exact ⟨fun j q hj => ⟨(h1 j q hj).1.narrow hAB, (h1 j q hj).2.narrow hAB⟩, h2.narrow hAB, h3, h4.narrow hAB, h5.imp (fun z => z.narrow hAB) (fun z => z.narrow hAB), h6⟩
/-- another map of places, the same from 2000 on -/
theorem ax_RO.map {ad ad' : Nat → Nat} {A : Nat → Prop} {U : State} {H : Heap} (h : ax_RO ad A U H) (he : ∀ i, 2000 ≤ i → ad' i = ad i) : ax_RO ad' A U H := by
  obtain ⟨h1, h2, h3, h4, h5, h6⟩ := h
  refine ⟨fun j q hj => ?_, ?_, fun j q hj => ?_, h4, ?_, h6⟩
  · rw [he (2000 + j) (by omega)]; exact h1 j q hj
  · have e1 : (fun i => ad' (3000 + i)) = (fun i => ad (3000 + i)) := funext fun i => he _ (by omega)
    have e2 : (fun i => ad' (4000 + i)) = (fun i => ad (4000 + i)) := funext fun i => he _ (by omega)
    rw [e1, e2]; exact h2
  · rw [he _ (by omega)]; exact h3 j q hj
  · unfold ax_RF
    rw [he 6000 (by omega)]; exact h5
