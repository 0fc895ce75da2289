/-! A CALL THAT MAY THROW, out of a greater world -/
section UBX
variable {Z : ZT} {Y : ax_M} {kn : Nat × Nat} {pc : Nat} {la : List (Nat × Value)} {st rest As : List Value} {w w' : ax_W} {idx n ci b : Nat} {fs : List Value} {sg : Nat → Nat} {o : ax_E} {QR : Int32 → ax_W → Prop} {QX : ax_W → Prop}
theorem up_fr {D : va_G} {ca : Nat → ClassId} {ad : Nat → Nat} {A : Nat → Prop} {H H0 : Heap} {locs : List Loc} (hs : sgOk sg) (h1 : w.1.length = 33) (h2 : w.2.length = 21) (hA : ∀ q, H0.size ≤ q → A q) (hP : ax_P D ca ad A (upW sg o w) H H0 locs) : ∀ q, va_A (ax_w ca (fun i => ad (sg i)) w) H.size q → A q := by
  have hD2 : va_D A (ax_w ca (fun i => ad (sg i)) w) := hP.2.1.by _ (up_in hs h1 h2 ca ad) (fun i j _ _ e => by
    by_cases ci : i < 33
    · by_cases cj : j < 33
      · rw [if_pos ci, if_pos cj] at e
        rw [← hs.1 i, ← hs.1 j, e]
      · rw [if_pos ci, if_neg cj] at e
        have := hs.2.2 i ci; omega
    · by_cases cj : j < 33
      · rw [if_neg ci, if_pos cj] at e
        have := hs.2.2 j cj; omega
      · rw [if_neg ci, if_neg cj] at e; exact e)
  intro q h
  rcases h with ⟨k, x, h⟩ | h
  · exact hD2.2 k (q, x) h
  · exact hA q (Nat.le_trans hP.2.2.1 h)
theorem up_back {D : va_G} {ca : Nat → ClassId} {ad : Nat → Nat} {A : Nat → Prop} {H H0 H1 : Heap} {locs L : List Loc} (hs : sgOk sg) (h1 : w.1.length = 33) (h2 : w.2.length = 21) (hA : ∀ q, H0.size ≤ q → A q) (hP : ax_P D ca ad A (upW sg o w) H H0 locs) (l1 : w'.1.length = 33) (l2 : w'.2.length = 21) (hz : H.size ≤ H1.size) (hkp : ∀ q : Nat, q < H.size → ¬ va_A (ax_w ca (fun i => ad (sg i)) w) H.size q → H1[q]? = H[q]?) (hP1 : va_P D ax_cl (ax_w ca (fun i => ad (sg i)) w') H1) (hL : ∀ q ∈ L, va_A (ax_w ca (fun i => ad (sg i)) w) H.size q.base) : ax_P D ca ad A (upW sg o w') H1 H0 (locs ++ L) := by
  have hfr := up_fr hs h1 h2 hA hP
  have hlast := up_last (s := sg) (o := o) h2 ca ad
  have hat := hP.1 54 _ hlast
  have hnA : ¬ va_A (ax_w ca (fun i => ad (sg i)) w) H.size (ad 1021) := by
    intro h
    rcases h with ⟨k, x, h⟩ | h
    · have h3 := up_in (o := o) hs h1 h2 ca ad k _ h
      have h4 := hP.2.1.1 _ _ _ _ h3 hlast rfl
      have hk : k < 54 := by
        rcases Nat.lt_or_ge k 54 with z | z
        · exact z
        · rw [List.getElem?_eq_none (by unfold ax_w; rw [List.length_append, ax_x_len, ax_x_len]; omega)] at h; cases h
      by_cases c3 : k < 33
      · rw [if_pos c3] at h4
        have := hs.2.2 k c3; omega
      · rw [if_neg c3] at h4; omega
    · exact absurd h (Nat.not_le.mpr hat.lt)
  refine ⟨?_, D_ad hP.2.1 (up_ad h2 l2 ca ad), Nat.le_trans hP.2.2.1 hz, fun q h3 h4 => ?_, fun q hq2 => ?_⟩
  · intro k q hq3
    by_cases c4 : k = 54
    · subst c4
      rw [up_last l2 ca ad] at hq3
      cases hq3
      exact hat.kept (hkp _ hat.lt hnA)
    · exact hP1 _ q (up_out hs l1 l2 ca ad k q c4 hq3)
  · rw [hkp q (Nat.lt_of_lt_of_le h3 hP.2.2.1) (fun z => h4 (hfr q z))]
    exact hP.2.2.2.1 q h3 h4
  · rcases List.mem_append.mp hq2 with h | h
    · exact hP.2.2.2.2 q h
    · exact hfr _ (hL q h)
theorem az_callX (hs : sgOk sg) (h1 : w.1.length = 33) (h2 : w.2.length = 21) (d : decode Y.2.1 pc = .ok (.invokevirtual idx, 3)) (hm : ax_mv M_ub ci n) (hlk : Cond.methodLink Y.1.cls idx M_ub.1 ∈ TB) (hr : M_ub.2.2.2.2.1.frames + 1 ≤ Y.2.2.2.2.1.frames ∧ 8 + (M_ub.2.2.1 + 11) + M_ub.2.2.2.2.1.locals ≤ Y.2.2.2.2.1.locals) (hk : kn.1 + 1 ≤ Y.2.2.2.2.1.cells ∧ kn.2 + 6 ≤ Y.2.2.2.2.1.slots) (hst : st = As.reverse ++ .ref b :: rest) (hb : sg b = b) (hAs : As.map (rnV sg) = As) (hn : As.length = n) (hcat : (rest.map fun v => v.category).sum ≤ 8) (hg : ax_get w b = some (ob ci fs)) (hct : CtX M_ub (.ref b :: As) w QR QX)
    (hZ : ∀ p l e R s m args below meth c D ca ad A Qf, Z p l e R s m args below meth c D ca ad A Qf → ax_EX A s s.heap)
    (kk : ∀ (r : Int32) (w' : ax_W), QR r w' → (w'.1.length = 33 ∧ w'.2.length = 21) ∧ AbZ Z Y (kn.1 + 1, kn.2 + 6) (pc + 3) la (.int r :: rest) (upW sg o w'))
    (kx : ∀ (w' : ax_W), QX w' → (w'.1.length = 33 ∧ w'.2.length = 21) ∧ ∀ (p : Program) (l : Launch) (e : Env) (R : Room) (s : State) (m : MethodId) (args : Array Value) (below : List Frame) (meth : Method) (c : Code) (D : va_G) (ca : Nat → ClassId) (ad : Nat → Nat) (A : Nat → Prop) (Qf : State → Prop) (H : Heap) (locs : List Loc) (ls : Array Slot) (q : Addr) (ce : Cell), ax_C Y p l R s m args meth c D ca ad A → ax_P D ca ad A (upW sg o w') H s.heap locs → lv_has ls Y.2.2.1 (la.map fun q => (q.1, ax_v ad q.2)) → Z p l e R s m args below meth c D ca ad A Qf → H[q]? = some ce → ce.vm = .none → s.vm.findClass NSE = some ce.cls → vx_W p l e R s m args below meth c H locs (kn.1 + 1) (kn.2 + 6) Qf (F0 m pc ls (rest.map (ax_v ad))) q) : AbZ Z Y kn pc la st (upW sg o w) := by
  intro p l e R s m args below meth c D ca ad A Qf H locs ls hC hP hl hE
  obtain ⟨m1, m2, m3, m4, m5, T, N, m6⟩ := hm
  obtain ⟨q0, hq0, -⟩ := ax_at (ca := ca) (ad := fun i => ad (sg i)) hg
  have hRR : R = Y.2.2.2.2.1 := hC.2.2.2.2.2.2.2.2.1
  have hMet := hct l hC.2.2.2.2.2.2.2.2.2.2.2.2.1 D ca (fun i => ad (sg i)) H.size
  have hK := hC.2.2.2.2.2.2.2.2.2.1
  have hAq := hC.2.2.2.2.2.2.2.2.2.2.1
  have hP2 : va_P D ax_cl (ax_w ca (fun i => ad (sg i)) w) H := hP.1.by _ (up_in hs h1 h2 ca ad)
  have hfr := up_fr hs h1 h2 hAq hP
  have hEX := hZ p l e R s m args below meth c D ca ad A Qf hE
  have eAs : As.map (ax_v fun i => ad (sg i)) = As.map (ax_v ad) := by
    conv => rhs; rw [← hAs, List.map_map]
    apply List.map_congr_left
    intro v _
    exact (rn_v ad sg v).symm
  have hpre : ∀ U : State, U.heap = H → s.WarmedH U.vm → ub_Pc D ca (fun i => ad (sg i)) w H.size (.ref b :: As) ((Value.ref b :: As).map (ax_v fun i => ad (sg i))).toArray U := by
    intro U hU hW
    refine ⟨gp_pre hs h1 h2 hC hP (.ref b :: As) U hU hW, ?_⟩
    rw [hU]
    exact ((hEX.kept hP.2.2.2.1).warm hW).narrow hfr
  have hrun := vx_runV (R := R) (meth := meth) (C := M_ub.1.cls) (b := ad (sg b)) (As := As.map (ax_v fun i => ad (sg i))) (n := n) (rest := rest.map (ax_v ad)) (H := H) (locs := locs) (cells := kn.1) (slots := kn.2) (below := below) (e := e) (g := F0 m pc ls (st.map (ax_v ad))) ⟨hC.1, hC.2.1, hC.2.2.1, hC.2.2.2.2.1, hC.2.2.2.2.2.1⟩ hMet (cwV n hC.2.2.2.2.2.1 (ax_words (by intro x hx; simp only [List.mem_cons, List.not_mem_nil, or_false] at hx; rcases hx with rfl | rfl | rfl | rfl <;> assumption) m4) rfl rfl rfl ⟨rfl, m5⟩ (by rw [hRR]; exact hr)) ⟨ub_blind, va_recv hK hP2 m6 hq0, hpre⟩ rfl (by rw [List.length_map]; exact hn) hl.1 (by rw [hst, eAs, hb]; simp [F0, ax_v]) (by rw [ax_catsum]; exact lv_room hcat) d (by rw [hRR]; exact hk)
  intro T hT X
  rcases hrun T hT X with ⟨v, st₀, t, T', L, h0, X', hL, e1, e2, ⟨⟨r, w', ad', hv, ⟨r0, hr0, hq⟩, hag, g1, g2, hP1, hD1⟩, hz, hkp⟩, stp⟩ | ⟨q, st₀, t, T', L, E, ce, h0, X', hL, e1, e2, ⟨hE0, ⟨w', hq, hP1, hD1⟩, hz, hkp⟩, hce, hcv, hcl, stp⟩
  · have hag : ad' = (fun i => ad (sg i)) := hag
    subst hag
    subst hr0
    cases hv
    rw [h0] at hz hkp
    obtain ⟨⟨l1, l2⟩, kk2⟩ := kk r0 w' hq
    have hPn := up_back (L := L) (H1 := T'.heap) hs h1 h2 hAq hP l1 l2 (by rw [e1]; exact hz) (fun q a b => by rw [e1]; exact hkp q a b) (by rw [e1]; exact hP1) hL
    obtain ⟨t2, a1, b1⟩ := kk2 p l e R s m args below meth c D ca ad A Qf T'.heap (locs ++ L) ls hC hPn hl hE T' rfl X'
    exact ⟨t2, stp t2 a1, b1⟩
  · subst hE0
    rw [h0] at hz hkp
    obtain ⟨⟨l1, l2⟩, kx2⟩ := kx w' hq
    have hPn := up_back (L := L) (H1 := T'.heap) hs h1 h2 hAq hP l1 l2 (by rw [e1]; exact hz) (fun q a b => by rw [e1]; exact hkp q a b) (by rw [e1]; exact hP1) hL
    obtain ⟨t2, a1, b1⟩ := kx2 p l e R s m args below meth c D ca ad A Qf T'.heap (locs ++ L) ls q ce hC hPn hl hE (by rw [e1]; exact hce) hcv hcl T' rfl X'
    exact ⟨t2, stp.trans a1, b1⟩
end UBX
