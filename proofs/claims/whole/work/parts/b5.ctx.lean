/-! THE CONTRACT OF X10.unbuilt: it returns, or throws NoSuchElementException -/
theorem fl_tr {l : Launch} (h : l.flags = flags0) : l.stackTraces = false := by
  unfold Launch.stackTraces
  rw [h]
  decide +kernel
def ub_Pc (D : va_G) (ca : Nat → ClassId) (ad : Nat → Nat) (w : ax_W) (sz : Nat) (as : List Value) : Array Value → State → Prop := fun a U => ax_Pc D ca ad w sz as a U ∧ ax_EX (va_A (ax_w ca ad w) sz) U U.heap
theorem ax_EX.same {A : Nat → Prop} {u U : State} {H : Heap} (hv : U.vm = u.vm) (h : ax_EX A u H) : ax_EX A U H := by
  have ha : u.vm.Alike U.vm := by rw [hv]; exact Vm.Alike.refl _
  exact ⟨vx_Zq.moved ha h.1, vx_Zq.moved ha h.2.1, fun w hw => va_Nw.same (ubB_tab w hw) hv.symm (h.2.2 w hw)⟩
theorem ub_blind {D : va_G} {ca : Nat → ClassId} {ad : Nat → Nat} {w : ax_W} {sz : Nat} {as : List Value} : FrameBlind (ub_Pc D ca ad w sz as) := by
  intro a U g mk h
  exact ⟨ax_blind a U g mk h.1, ax_EX.same (u := U) (U := U.calling g mk a) rfl h.2⟩
def ub_XC (D : va_G) (ca : Nat → ClassId) (ad : Nat → Nat) (w : ax_W) (sz : Nat) (QX : ax_W → Prop) : String → State → State → Prop := fun E st t =>
  E = NSE ∧ (∃ w' : ax_W, QX w' ∧ va_P D ax_cl (ax_w ca ad w') t.heap ∧ va_D (va_A (ax_w ca ad w) sz) (ax_w ca ad w')) ∧ va_F (va_A (ax_w ca ad w) sz) st t
def CtX (Y : ax_M) (as : List Value) (w : ax_W) (QR : Int32 → ax_W → Prop) (QX : ax_W → Prop) : Prop :=
  ∀ (l : Launch), l.flags = flags0 → ∀ (D : va_G) (ca : Nat → ClassId) (ad : Nat → Nat) (sz : Nat), vx_Met l Y.1 (.code Y.1 Y.2.1 Y.2.2.1 Y.2.2.2.1 :: TB) Y.2.2.2.2.1 (ub_Pc D ca ad w sz as) (ax_Qc false D ca ad w sz (fun r w' => ∃ v : Int32, r = some (.int v) ∧ QR v w')) (ub_XC D ca ad w sz QX) 1 6 (va_A (ax_w ca ad w) sz)
theorem va_P_more {D : va_G} {ws : va_W} {H H1 : Heap} (h : va_P D ax_cl ws H) (hk : ∀ q : Nat, q < H.size → H1[q]? = H[q]?) : va_P D ax_cl ws H1 := fun k q hq => (h k q hq).kept (hk _ (h k q hq).lt)
theorem ub_met {as : List Value} {w : ax_W} {QR : Int32 → ax_W → Prop} {QX : ax_W → Prop} (hn : (lg_sl as).length ≤ 4) (hq1 : ∀ r w', QR r w' → w.1.length ≤ w'.1.length ∧ w.2.length ≤ w'.2.length) (h : AbZ (Zub QR QX) M_ub (0, 0) 0 (lv_args 0 as) [] w) : CtX M_ub as w QR QX := by
  intro l hfl D ca ad sz
  refine vx_ofW (cc := cX10_unbuilt) (maxL := 4) (ret := some .int) (by decide) rfl ?_
  intro p e s m args below meth c s₁ B hml htab hv
  obtain ⟨⟨rfl, hsz, hP, hK, hD0, hRO⟩, hEX⟩ := hv
  have hts := atoms_spec (ws := .code M_ub.1 M_ub.2.1 M_ub.2.2.1 M_ub.2.2.2.1 :: TB) B.pre
  have hown : s.vm.findClass M_ub.1.cls = some m.cls := findClass_of_methodNamed B.named
  subst hsz
  have hD := hD0.self (sz := s.heap.size)
  have hl := lv_entry (as.map (ax_v ad)) (n := 4) (by rw [ax_sllen]; exact hn)
  rw [lg_entry_eq]
  rw [ax_lvargs] at hl
  refine h p l e _ s m _ below meth c D ca ad (va_A (ax_w ca ad w) s.heap.size) _ s.heap [] _ ⟨B.exec, B.bytes, hml, B.returns, hown, fun x hx => hts x (List.mem_cons_of_mem _ hx), B.notSynchronized, (name_of_methodNamed B.named B.method).1, rfl, hK, fun q hq => Or.inr hq, hRO, hfl, fun L xs hX => by cases hX⟩ ⟨hP, hD, va_S.rf⟩ hl ⟨?_, ?_⟩
  · intro H locs ls r w' hq hP'
    obtain ⟨hP2, hD2, hS2⟩ := hP'
    refine vx_ret (W.widen (k := 1) (n := 6) (Nat.zero_le _) (Nat.zero_le _) ?_)
    exact W.zret B.exec B.bytes (ty := .int) B.returns rfl (fun t ht hW => ⟨⟨some (.int r), w', ad, rfl, ⟨r, rfl, hq⟩, rfl, (hq1 r w' hq).1, (hq1 r w' hq).2, by rw [ht]; exact hP2, hD2⟩, hS2.F ht⟩) hS2.2.2 dX10_unbuilt_33 B.notSynchronized
  · intro H locs ls w' hq hP' hls
    obtain ⟨hP2, hD2, hS2⟩ := hP'
    exact ub_throw (cc := cX10_unbuilt) (pc := 43) (mc := 1) (ms := 6) (text := "no such linkage") (A := va_A (ax_w ca ad w) s.heap.size) B.exec B.bytes (fl_tr hfl) hown (fun x hx => hts x (List.mem_cons_of_mem _ hx)) hEX (hRO.2.2.1 8 _ rfl) hS2 (hls.trans hml.symm) dX10_unbuilt_43 dX10_unbuilt_46 dX10_unbuilt_47 dX10_unbuilt_50 dX10_unbuilt_53 (fun x hx => (htab x hx).elim) (Nat.le_of_ble_eq_true rfl) (Nat.le_of_ble_eq_true rfl) (Nat.le_of_ble_eq_true rfl) (Nat.le_of_ble_eq_true rfl) B.notSynchronized
      (fun t ha hz hk => ⟨rfl, ⟨w', hq, va_P_more hP2 hk, hD2⟩, Nat.le_trans hS2.1 hz, fun q h1 h2 => (hk q (Nat.lt_of_lt_of_le h1 hS2.1)).trans (hS2.2.1 q h1 h2)⟩) hS2.2.2 (Nat.le_refl _) (Nat.le_refl _)
