/-! what is carried of the start for a throw: two static fields of Throwable, four words that the tables decide -/
def ubB : List Cond := [.castable NSE NSE, .declares (Bundle.initS RTE), .declares (Bundle.initS EXC), .declares (Bundle.initS Bundle.tN)]
def ax_EX (A : Nat → Prop) (U : State) (H : Heap) : Prop := vx_Zq Bundle.tN "UNASSIGNED_STACK" Bundle.steD A U H ∧ vx_Zq Bundle.tN "SUPPRESSED_SENTINEL" Bundle.listD A U H ∧ ∀ w ∈ ubB, va_Nw w U
theorem ubB_all {C : Cond → Prop} (h1 : C (.castable NSE NSE)) (h2 : ∀ x, (Cond.declares x) ∈ ubB → C (.declares x)) : ∀ w ∈ ubB, C w := by
  intro w hw
  have hw2 := hw
  unfold ubB at hw
  simp only [List.mem_cons, List.not_mem_nil, or_false] at hw
  rcases hw with rfl | rfl | rfl | rfl
  · exact h1
  · exact h2 _ hw2
  · exact h2 _ hw2
  · exact h2 _ hw2
theorem ax_EX.warm {A : Nat → Prop} {s U : State} {H : Heap} (hW : s.WarmedH U.vm) (h : ax_EX A s H) : ax_EX A U H :=
  ⟨vx_Zq.moved hW.alike h.1, vx_Zq.moved hW.alike h.2.1, ubB_all (va_Nw.warmC hW (h.2.2 _ List.mem_cons_self)) (fun x hx => va_Nw.warmD hW (h.2.2 _ hx))⟩
theorem ax_EX.kept {A : Nat → Prop} {U : State} {H H1 : Heap} (h : ax_EX A U H) (hq : ∀ a : Nat, a < H.size → ¬ A a → H1[a]? = H[a]?) : ax_EX A U H1 := ⟨h.1.kept hq, h.2.1.kept hq, h.2.2⟩
theorem ax_EX.narrow {A B : Nat → Prop} {U : State} {H : Heap} (h : ax_EX A U H) (hAB : ∀ q, B q → A q) : ax_EX B U H := ⟨h.1.narrow hAB, h.2.1.narrow hAB, h.2.2⟩
theorem ubB_tab : ∀ w ∈ ubB, w.onTables = true := ubB_all rfl (fun _ _ => rfl)
