/-! THE HELPER'S CONTRACT, ITS CALL, AND THE LAW'S CASE 56 -/
def CtH (as : List Value) (w : ax_W) (QH : Int32 → ax_W → Prop) : Prop :=
  ∀ (l : Launch), l.flags = flags0 → ∀ (D : va_G) (ca : Nat → ClassId) (ad : Nat → Nat) (sz : Nat), vx_Met l yL_unbuilt (.codeWith yL_unbuilt method_3_code 4 (some .int) [(0, 9, 12, 13)] :: TB) M_Lunb.2.2.2.2.1 (ub_Pc D ca ad w sz as) (ax_Qc false D ca ad w sz (fun r w' => ∃ v : Int32, r = some (.int v) ∧ QH v w')) (fun _ _ _ => False) 1 6 (va_A (ax_w ca ad w) sz)
theorem h_met {as : List Value} {w : ax_W} {QH : Int32 → ax_W → Prop} (hn : (lg_sl as).length ≤ 4) (hq1 : ∀ r w', QH r w' → w.1.length ≤ w'.1.length ∧ w.2.length ≤ w'.2.length) (h : AbZ (Zh QH) M_Lunb (0, 0) 0 (lv_args 0 as) [] w) : CtH as w QH := by
  intro l hfl D ca ad sz
  refine vx_ofWH (cc := method_3_code) (maxL := 4) (ret := some .int) (hh := [(0, 9, 12, 13)]) (by decide) rfl ?_
  intro p e s m args below meth c s₁ B hml hv
  obtain ⟨⟨rfl, hsz, hP, hK, hD0, hRO⟩, hEX⟩ := hv
  have hts := atoms_spec (ws := .codeWith yL_unbuilt method_3_code 4 (some .int) [(0, 9, 12, 13)] :: TB) B.pre
  have htab := vx_table (x := yL_unbuilt) B (hts _ List.mem_cons_self)
  have hown : s.vm.findClass M_Lunb.1.cls = some m.cls := findClass_of_methodNamed B.named
  subst hsz
  have hD := hD0.self (sz := s.heap.size)
  have hl := lv_entry (as.map (ax_v ad)) (n := 4) (by rw [ax_sllen]; exact hn)
  rw [lg_entry_eq]
  rw [ax_lvargs] at hl
  refine h p l e _ s m _ below meth c D ca ad (va_A (ax_w ca ad w) s.heap.size) _ s.heap [] _ ⟨B.exec, B.bytes, hml, B.returns, hown, fun x hx => hts x (List.mem_cons_of_mem _ hx), B.notSynchronized, (name_of_methodNamed B.named B.method).1, rfl, hK, fun q hq => Or.inr hq, hRO, hfl, fun L xs hX => by cases hX⟩ ⟨hP, hD, va_S.rf⟩ hl ⟨hEX, htab, ?_, ?_⟩
  · intro H locs ls w' hq hP'
    obtain ⟨hP2, hD2, hS2⟩ := hP'
    exact vx_ret (W.zret B.exec B.bytes (ty := .int) B.returns rfl (fun t ht hW => ⟨⟨some (.int 1), w', ad, rfl, ⟨1, rfl, hq⟩, rfl, (hq1 1 w' hq).1, (hq1 1 w' hq).2, by rw [ht]; exact hP2, hD2⟩, hS2.F ht⟩) hS2.2.2 dL_unbuilt_14 B.notSynchronized)
  · intro H locs ls w' hq hP'
    obtain ⟨hP2, hD2, hS2⟩ := hP'
    exact vx_ret (W.zret B.exec B.bytes (ty := .int) B.returns rfl (fun t ht hW => ⟨⟨some (.int 0), w', ad, rfl, ⟨0, rfl, hq⟩, rfl, (hq1 0 w' hq).1, (hq1 0 w' hq).2, by rw [ht]; exact hP2, hD2⟩, hS2.F ht⟩) hS2.2.2 dL_unbuilt_16 B.notSynchronized)
section CALLH
variable {Z : ZT} {Y : ax_M} {kn : Nat × Nat} {pc : Nat} {la : List (Nat × Value)} {st rest As : List Value} {w : ax_W} {idx : Nat} {QH : Int32 → ax_W → Prop}
theorem az_callH (d : decode Y.2.1 pc = .ok (.invokestatic idx, 3)) (hlk : Cond.methodLink Y.1.cls idx yL_unbuilt ∈ TB) (hr : M_Lunb.2.2.2.2.1.frames + 1 ≤ Y.2.2.2.2.1.frames ∧ 8 + (4 + 11) + M_Lunb.2.2.2.2.1.locals ≤ Y.2.2.2.2.1.locals) (hk : kn.1 + 1 ≤ Y.2.2.2.2.1.cells ∧ kn.2 + 6 ≤ Y.2.2.2.2.1.slots) (hst : st = As.reverse ++ rest) (hn : As.length = 3) (hcat : (rest.map fun v => v.category).sum ≤ 8) (hct : CtH As w QH)
    (hZ : ∀ p l e R s m args below meth c D ca ad A Qf, Z p l e R s m args below meth c D ca ad A Qf → ax_EX A s s.heap)
    (kk : ∀ (r : Int32) (w' : ax_W), QH r w' → AbZ Z Y (kn.1 + 1, kn.2 + 6) (pc + 3) la (.int r :: rest) w') : AbZ Z Y kn pc la st w := by
  intro p l e R s m args below meth c D ca ad A Qf H locs ls hC hP hl hE
  have hRR : R = Y.2.2.2.2.1 := hC.2.2.2.2.2.2.2.2.1
  have hMet := hct l hC.2.2.2.2.2.2.2.2.2.2.2.2.1 D ca ad H.size
  have hEX := hZ p l e R s m args below meth c D ca ad A Qf hE
  have hfr := ax_free hP hC.2.2.2.2.2.2.2.2.2.2.1
  have hpre : ∀ U : State, U.heap = H → s.WarmedH U.vm → ub_Pc D ca ad w H.size As (As.map (ax_v ad)).toArray U := by
    intro U hU hW
    refine ⟨ax_pre hC hP As U hU hW, ?_⟩
    rw [hU]
    exact ((hEX.kept hP.2.2.2.1).warm hW).narrow hfr
  have hrun := vx_runSX (R := R) (meth := meth) (As := As.map (ax_v ad)) (n := 3) (rest := rest.map (ax_v ad)) (H := H) (locs := locs) (cells := kn.1) (slots := kn.2) (below := below) (e := e) (g := F0 m pc ls (st.map (ax_v ad))) ⟨hC.1, hC.2.1, hC.2.2.1, hC.2.2.2.2.1, hC.2.2.2.2.2.1⟩ hMet (vx_cwSW 3 hC.2.2.2.2.2.1 (tb_goodIn (fun x hx => by
      unfold va_wsS at hx
      simp only [List.mem_append, List.mem_cons, List.not_mem_nil, or_false] at hx
      rcases hx with (q | q | q) | q | q
      · rw [q]; exact hlk
      · rw [q]; exact st_L
      · rw [q]; exact in_L
      · rw [q]; exact cw_L
      · exact q)) rfl rfl rfl ⟨by decide, by decide, by decide +kernel⟩ (by rw [hRR]; exact hr)) ⟨ub_blind, hpre⟩ rfl (by rw [List.length_map]; exact hn) hl.1 (by rw [hst]; simp [F0]) (by rw [ax_catsum]; exact lv_room hcat) d (by rw [hRR]; exact hk)
  intro T hT X
  rcases hrun T hT X with ⟨v, st₀, t, T', L, h0, X', hL, e1, e2, ⟨⟨r, w', ad', hv, ⟨r0, hr0, hq⟩, hag, g1, g2, hP1, hD1⟩, hz, hkp⟩, stp⟩ | ⟨q, st₀, t, T', L, E, ce, h0, X', hL, e1, e2, hF, -⟩
  · have hag : ad' = ad := hag
    subst hag
    subst hr0
    cases hv
    rw [h0] at hz hkp
    have hS1 : va_S A s.heap T'.heap (locs ++ L) := ⟨Nat.le_trans hP.2.2.1 (by rw [e1]; exact hz), fun q h1 h2 => by
        rw [e1, hkp q (Nat.lt_of_lt_of_le h1 hP.2.2.1) (fun z => h2 (hfr q z))]
        exact hP.2.2.2.1 q h1 h2, fun q hq2 => by
        rcases List.mem_append.mp hq2 with h | h
        · exact hP.2.2.2.2 q h
        · exact hfr _ (hL q h)⟩
    obtain ⟨t2, a1, b1⟩ := kk r0 w' hq p l e R s m args below meth c D ca ad' A Qf T'.heap (locs ++ L) ls hC ⟨by rw [e1]; exact hP1, hD1.weaken (fun k q _ h => hfr q.1 h), hS1⟩ hl hE T' rfl X'
    exact ⟨t2, stp t2 a1, b1⟩
  · exact hF.elim
end CALLH
theorem lc_56 {Z : ZT} {L : Nat} {xs : Nat → Int32} {kn : Nat × Nat} {i : Nat} {w : ax_W} {sg : Nat → Nat} {f : Nat → Int64} (hsg : isSg sg) (hI : INV w) (hi : i + 6 ≤ L) (hL : L ≤ 3072) (hk : kn.1 + 1 ≤ 1080 ∧ kn.2 + 6 ≤ 11187) (hZ : ∀ p l e R s m args below meth c D ca ad A Qf, Z p l e R s m args below meth c D ca ad A Qf → ax_EX A s s.heap) (kk : ∀ (sg : Nat → Nat) (w : ax_W) (f : Nat → Int64), isSg sg → INV w → AbZ Z (M_law L xs) (kn.1 + 1, kn.2 + 6) 2795 (lwL i) [] (upW sg (ja 1 f) w)) : AbZ Z (M_law L xs) kn 2701 (lwL i) [] (upW sg (ja 1 f) w) := by
  obtain ⟨QR, QX, c1, hr, hx⟩ := pr_unb hI (xs (i + 1))
  obtain ⟨l1, l2, ⟨fs, hg⟩, -⟩ := inv_w hI
  have hct : CtH [.ref 0, .int (xs (i + 1)), .ref 1021] (upW sg (ja 1 f) w) (fun v W' => (v = 0 ∧ ∃ r w', QR r w' ∧ W' = upW sg (ja 1 (vp_updL f 0 r.toInt64)) w') ∨ (v = 1 ∧ ∃ w', QX w' ∧ W' = upW sg (ja 1 f) w')) := by
    refine h_met (Nat.le_of_ble_eq_true rfl) ?_ (z_h hsg l1 l2 hg c1 (fun r w' q => ⟨(hr r w' q).1, Or.inl ⟨rfl, r, w', q, rfl⟩⟩) (fun w' q => ⟨(hx w' q).1, Or.inr ⟨rfl, w', q, rfl⟩⟩))
    rintro r W' (⟨-, r0, w', q, rfl⟩ | ⟨-, w', q, rfl⟩)
    · rw [up_len1, up_len1, up_len2, up_len2, l2, (hr r0 w' q).1.2]; exact ⟨Nat.le_refl _, Nat.le_refl _⟩
    · rw [up_len1, up_len1, up_len2, up_len2, l2, (hx w' q).1.2]; exact ⟨Nat.le_refl _, Nat.le_refl _⟩
  have key : ∀ (t v : Int32) (w2 : ax_W) (g : Nat → Int64), (t = 0 ∧ g 0 = v.toInt64) ∨ t = 1 → INV w2 → ubT t w2 → AbZ Z (M_law L xs) (kn.1 + 1, kn.2 + 6) 2726 [(6, .int v), (5, .int t), (0, .ref 5000), (1, .ref 0), (2, .ref 1000), (3, .ref 1021), (4, .int (nI i))] [] (upW sg (ja 1 g) w2) := by
    intro t v w2 g ht h2 hT
    obtain ⟨Q3, c3, h3⟩ := hT
    obtain ⟨m1, m2, -, ⟨fs2, hg2⟩⟩ := inv_w h2
    refine az_aload_n dL_law_2726 (x := 1000) rfl ?_
    refine az_callVL (As := []) (rest := []) (sg_c hsg).1 m1 m2 dL_law_2727 mv_X11_thrown ml_L_263 ⟨Nat.le_of_ble_eq_true rfl, Nat.le_of_ble_eq_true rfl, rfl, rfl, rfl⟩ hk rfl (sg_c hsg).2.2 rfl rfl (by decide) hg2 c3 (fun r w' q => ?_)
    obtain ⟨rfl, rfl⟩ := h3 r w' q
    refine ⟨⟨m1, m2⟩, ?_⟩
    refine az_iload dL_law_2730 (x := t) rfl ?_
    refine az_icmpeq 2737 dL_law_2732 (by decide) (fun _ => ?_) (fun h => absurd rfl h)
    refine az_iload dL_law_2737 (x := t) rfl ?_
    have fin : AbZ Z (M_law L xs) (kn.1 + 1, kn.2 + 6) 2754 [(6, .int v), (5, .int t), (0, .ref 5000), (1, .ref 0), (2, .ref 1000), (3, .ref 1021), (4, .int (nI i))] [] (upW sg (ja 1 g) w') := by
      refine az_goto 2795 dL_law_2754 (by decide) ?_
      refine az_pick [2, 3, 4, 5, 6] rfl ?_
      exact kk sg w' g hsg h2
    refine az_ifne 2754 dL_law_2739 (by decide) (fun _ => fin) (fun h0 => ?_)
    refine az_aload_n dL_law_2742 (x := 1021) rfl ?_
    refine az_iconst (v := 0) dL_law_2743 (by decide) ?_
    refine az_lald (n := 1) (j := 0) (f := g) dL_law_2744 (up_g m2) (ix_nI (j := 0) (by decide) (by decide)) ?_
    refine az_iload dL_law_2745 (x := v) rfl ?_
    refine az_i2l dL_law_2747 ?_
    refine az_lcmpeq 2754 dL_law_2748 dL_law_2749 (by decide) (fun _ => fin) (fun h => ?_)
    rcases ht with ⟨-, hv⟩ | ht
    · exact absurd hv h
    · rw [ht] at h0; exact absurd h0 (by decide)
  refine az_aload_n dL_law_2701 (x := 0) rfl ?_
  refine lw_arg 1 (lw_ix (by omega) hL (by decide)) dL_law_2702 dL_law_2703 dL_law_2705 dL_law_2706 dL_law_2707 ?_
  refine az_aload_n dL_law_2708 (x := 1021) rfl ?_
  refine az_callH (As := [.ref 0, .int (xs (i + 1)), .ref 1021]) (rest := []) dL_law_2709 ml_L_257 ⟨Nat.le_of_ble_eq_true rfl, Nat.le_of_ble_eq_true rfl⟩ hk rfl rfl (by decide) hct hZ (fun v W' hq => ?_)
  refine az_istore (la' := [(5, .int v), (0, .ref 5000), (1, .ref 0), (2, .ref 1000), (3, .ref 1021), (4, .int (nI i))]) dL_law_2712 (Nat.le_of_ble_eq_true rfl) rfl ?_
  refine az_aload_n dL_law_2714 (x := 1000) rfl ?_
  refine az_aload_n dL_law_2715 (x := 5000) rfl (az_iload dL_law_2716 (x := nI i) rfl (az_iconst dL_law_2718 rfl (az_iadd dL_law_2719 (az_sld dL_law_2720 rfl (lw_ix (i := i) (k := 1) (by omega) hL (by decide)) ?_))))
  rcases hq with ⟨rfl, r, w', q, rfl⟩ | ⟨rfl, w', q, rfl⟩
  · obtain ⟨⟨n1, n2⟩, ⟨fs3, hg3⟩, Q2, c2, h2⟩ := hr r w' q
    refine az_callVL (As := [.int (xs (i + 1))]) (rest := []) (sg_c hsg).1 n1 n2 dL_law_2721 mv_X11_unbuilt ml_L_262 ⟨Nat.le_of_ble_eq_true rfl, Nat.le_of_ble_eq_true rfl, rfl, rfl, rfl⟩ hk rfl (sg_c hsg).2.2 rfl rfl (by decide) hg3 c2 (fun r2 w2 q2 => ?_)
    obtain ⟨rfl, i2, t2⟩ := h2 r2 w2 q2
    refine ⟨⟨(inv_w i2).1, (inv_w i2).2.1⟩, ?_⟩
    refine az_istore (la' := [(6, .int r), (5, .int 0), (0, .ref 5000), (1, .ref 0), (2, .ref 1000), (3, .ref 1021), (4, .int (nI i))]) dL_law_2724 (Nat.le_of_ble_eq_true rfl) rfl ?_
    exact key 0 r w2 _ (Or.inl ⟨rfl, by unfold vp_updL; rfl⟩) i2 t2
  · obtain ⟨⟨n1, n2⟩, ⟨fs3, hg3⟩, Q2, c2, h2⟩ := hx w' q
    refine az_callVL (As := [.int (xs (i + 1))]) (rest := []) (sg_c hsg).1 n1 n2 dL_law_2721 mv_X11_unbuilt ml_L_262 ⟨Nat.le_of_ble_eq_true rfl, Nat.le_of_ble_eq_true rfl, rfl, rfl, rfl⟩ hk rfl (sg_c hsg).2.2 rfl rfl (by decide) hg3 c2 (fun r2 w2 q2 => ?_)
    obtain ⟨⟨v, rfl⟩, i2, t2⟩ := h2 r2 w2 q2
    refine ⟨⟨(inv_w i2).1, (inv_w i2).2.1⟩, ?_⟩
    refine az_istore (la' := [(6, .int v), (5, .int 1), (0, .ref 5000), (1, .ref 0), (2, .ref 1000), (3, .ref 1021), (4, .int (nI i))]) dL_law_2724 (Nat.le_of_ble_eq_true rfl) rfl ?_
    exact key 1 v w2 _ (Or.inr rfl) i2 t2
