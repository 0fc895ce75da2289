/-! CALLS OUT OF A GREATER WORLD: the places of the small one renamed by s, one more cell at the end -/
def rnV (s : Nat → Nat) : Value → Value
  | .ref i => .ref (s i)
  | .int x => .int x
  | .long x => .long x
  | .float x => .float x
  | .double x => .double x
  | .null => .null
  | .retAddr x => .retAddr x
def rnE (s : Nat → Nat) : ax_E → ax_E
  | .inl x => .inl x
  | .inr (.inl x) => .inr (.inl x)
  | .inr (.inr (c, fs)) => .inr (.inr (c, fs.map (rnV s)))
theorem rn_v (ad s : Nat → Nat) (v : Value) : ax_v ad (rnV s v) = ax_v (fun i => ad (s i)) v := by cases v <;> rfl
theorem rn_e (ca : Nat → ClassId) (ad s : Nat → Nat) (x : ax_E) : ax_e ca ad (rnE s x) = ax_e ca (fun i => ad (s i)) x := by
  rcases x with x | x | ⟨c, fs⟩
  · rfl
  · rfl
  · show Sum.inr (c, (fs.map (rnV s)).map (ax_v ad)) = Sum.inr (c, fs.map (ax_v fun i => ad (s i)))
    rw [List.map_map]
    congr 2
    apply List.map_congr_left
    intro v _
    exact rn_v ad s v
def pmL (s : Nat → Nat) (l : List ax_E) : List ax_E := (List.range 33).map (fun i => l.getD (s i) (ia 0 z0))
def upW (s : Nat → Nat) (o : ax_E) (w : ax_W) : ax_W := (pmL s (w.1.map (rnE s)), w.2.map (rnE s) ++ [o])
/-- a renaming of the class's places -/
def sgOk (s : Nat → Nat) : Prop := (∀ i, s (s i) = i) ∧ (∀ i, 33 ≤ i → s i = i) ∧ ∀ i, i < 33 → s i < 33
theorem up_len1 (s : Nat → Nat) (o : ax_E) (w : ax_W) : (upW s o w).1.length = 33 := by simp [upW, pmL]
theorem up_len2 (s : Nat → Nat) (o : ax_E) (w : ax_W) : (upW s o w).2.length = w.2.length + 1 := by simp [upW]
theorem up_1 {s : Nat → Nat} {o : ax_E} {w : ax_W} (hs : sgOk s) (h1 : w.1.length = 33) {k : Nat} (hk : k < 33) : (upW s o w).1[k]? = (w.1[s k]?).map (rnE s) := by
  have h2 := hs.2.2 k hk
  simp [upW, pmL, List.getElem?_range, hk, List.getD, h1, h2]
/-- a cell of the small world stands in the greater one -/
theorem up_in {s : Nat → Nat} {o : ax_E} {w : ax_W} (hs : sgOk s) (h1 : w.1.length = 33) (h2 : w.2.length = 21) (ca : Nat → ClassId) (ad : Nat → Nat) (k : Nat) (q : Nat × va_E) (hq : (ax_w ca (fun i => ad (s i)) w)[k]? = some q) : (ax_w ca ad (upW s o w))[if k < 33 then s k else k]? = some q := by
  unfold ax_w at hq ⊢
  by_cases c : k < 33
  · rw [if_pos c]
    rw [List.getElem?_append_left (by rw [ax_x_len]; omega), ax_x_get] at hq
    rw [List.getElem?_append_left (by rw [ax_x_len, up_len1]; exact hs.2.2 k c), ax_x_get, up_1 hs h1 (hs.2.2 k c), hs.1 k]
    rw [← hq]
    cases w.1[k]? with
    | none => rfl
    | some x => simp [rn_e]
  · rw [if_neg c]
    rw [List.getElem?_append_right (by rw [ax_x_len]; omega), ax_x_get, ax_x_len, h1] at hq
    rw [List.getElem?_append_right (by rw [ax_x_len, up_len1]; omega), ax_x_get, ax_x_len, up_len1]
    have hk : k - 33 < 21 := by
      rcases Nat.lt_or_ge (k - 33) 21 with z | z
      · exact z
      · rw [List.getElem?_eq_none (by omega)] at hq; cases hq
    rw [← hq]
    show Option.map _ ((w.2.map (rnE s) ++ [o])[k - 33]?) = _
    rw [List.getElem?_append_left (by simp; omega), List.getElem?_map]
    cases w.2[k - 33]? with
    | none => rfl
    | some x => simp [rn_e, hs.2.1 (1000 + (k - 33)) (by omega)]
/-- and every cell of the greater one, but the last, in the small one -/
theorem up_out {s : Nat → Nat} {o : ax_E} {w : ax_W} (hs : sgOk s) (h1 : w.1.length = 33) (h2 : w.2.length = 21) (ca : Nat → ClassId) (ad : Nat → Nat) (k : Nat) (q : Nat × va_E) (hk : ¬ k = 54) (hq : (ax_w ca ad (upW s o w))[k]? = some q) : (ax_w ca (fun i => ad (s i)) w)[if k < 33 then s k else k]? = some q := by
  unfold ax_w at hq ⊢
  by_cases c : k < 33
  · rw [if_pos c]
    rw [List.getElem?_append_left (by rw [ax_x_len, up_len1]; exact c), ax_x_get, up_1 hs h1 c] at hq
    rw [List.getElem?_append_left (by rw [ax_x_len, h1]; exact hs.2.2 k c), ax_x_get]
    rw [← hq]
    cases w.1[s k]? with
    | none => rfl
    | some x => simp [rn_e, hs.1 k]
  · rw [if_neg c]
    rw [List.getElem?_append_right (by rw [ax_x_len, up_len1]; omega), ax_x_get, ax_x_len, up_len1] at hq
    rw [List.getElem?_append_right (by rw [ax_x_len]; omega), ax_x_get, ax_x_len, h1]
    have hk2 : k - 33 < 21 := by
      rcases Nat.lt_or_ge (k - 33) 22 with z | z
      · omega
      · rw [List.getElem?_eq_none (by rw [up_len2]; omega)] at hq; cases hq
    have hq : Option.map _ ((w.2.map (rnE s) ++ [o])[k - 33]?) = some q := hq
    rw [List.getElem?_append_left (by simp; omega), List.getElem?_map] at hq
    rw [← hq]
    cases w.2[k - 33]? with
    | none => rfl
    | some x => simp [rn_e, hs.2.1 (1000 + (k - 33)) (by omega)]
theorem up_last {s : Nat → Nat} {o : ax_E} {w : ax_W} (h2 : w.2.length = 21) (ca : Nat → ClassId) (ad : Nat → Nat) : (ax_w ca ad (upW s o w))[54]? = some (ad 1021, ax_e ca ad o) := by
  unfold ax_w
  rw [List.getElem?_append_right (by rw [ax_x_len, up_len1]; omega), ax_x_get, ax_x_len, up_len1]
  show Option.map _ ((w.2.map (rnE s) ++ [o])[54 - 33]?) = _
  rw [List.getElem?_append_right (by simp; omega)]
  simp [h2]
theorem up_ad {s : Nat → Nat} {o : ax_E} {w w' : ax_W} (h2 : w.2.length = 21) (h2' : w'.2.length = 21) (ca : Nat → ClassId) (ad : Nat → Nat) (k : Nat) : ((ax_w ca ad (upW s o w'))[k]?).map (fun q => q.1) = ((ax_w ca ad (upW s o w))[k]?).map (fun q => q.1) := by
  unfold ax_w
  have el : ∀ v : ax_W, (upW s o v).1.length = 33 := up_len1 s o
  by_cases c : k < 33
  · rw [List.getElem?_append_left (by rw [ax_x_len, el]; exact c), List.getElem?_append_left (by rw [ax_x_len, el]; exact c), ax_x_get, ax_x_get]
    rw [List.getElem?_eq_getElem (by rw [el]; exact c), List.getElem?_eq_getElem (by rw [el]; exact c)]
    rfl
  · rw [List.getElem?_append_right (by rw [ax_x_len, el]; omega), List.getElem?_append_right (by rw [ax_x_len, el]; omega), ax_x_len, ax_x_len, el, el, ax_x_get, ax_x_get]
    by_cases c2 : k - 33 < 22
    · rw [List.getElem?_eq_getElem (by rw [up_len2]; omega), List.getElem?_eq_getElem (by rw [up_len2]; omega)]
      rfl
    · rw [List.getElem?_eq_none (by rw [up_len2]; omega), List.getElem?_eq_none (by rw [up_len2]; omega)]
theorem D_ad {A : Nat → Prop} {ws ws' : va_W} (h : va_D A ws) (he : ∀ k : Nat, (ws'[k]?).map (fun q : Nat × va_E => q.1) = (ws[k]?).map (fun q : Nat × va_E => q.1)) : va_D A ws' := by
  have key : ∀ (k : Nat) (q : Nat × va_E), ws'[k]? = some q → ∃ q' : Nat × va_E, ws[k]? = some q' ∧ q'.1 = q.1 := by
    intro k q hq
    have e := he k
    rw [hq] at e
    cases hw : ws[k]? with
    | none => rw [hw] at e; cases e
    | some q' => rw [hw] at e; exact ⟨q', rfl, (Option.some.inj e).symm⟩
  refine ⟨fun i j p q hp hq e => ?_, fun k q hq => ?_⟩
  · obtain ⟨p', h1, e1⟩ := key i p hp
    obtain ⟨q', h2, e2⟩ := key j q hq
    exact h.1 i j p' q' h1 h2 (by rw [e1, e2]; exact e)
  · obtain ⟨q', h1, e1⟩ := key k q hq
    rw [← e1]; exact h.2 k q' h1
section GCALL
variable {Y Y1 : ax_M} {Q Q1 : Option Value → ax_W → Prop} {kn : Nat × Nat} {pc : Nat} {la la' : List (Nat × Value)} {st rest As : List Value} {w w1 : ax_W} {i idx n ci b : Nat} {fs : List Value} {sg : Nat → Nat} {o : ax_E}
theorem gp_pre {p : Program} {l : Launch} {R : Room} {s : State} {m : MethodId} {args : Array Value} {meth : Method} {c : Code} {D : va_G} {ca : Nat → ClassId} {ad : Nat → Nat} {A : Nat → Prop} {H : Heap} {locs : List Loc} (hs : sgOk sg) (h1 : w.1.length = 33) (h2 : w.2.length = 21) (hC : ax_C Y p l R s m args meth c D ca ad A) (hP : ax_P D ca ad A (upW sg o w) H s.heap locs) (as : List Value) : ∀ U : State, U.heap = H → s.WarmedH U.vm → ax_Pc D ca (fun i => ad (sg i)) w H.size as (as.map (ax_v fun i => ad (sg i))).toArray U := by
  intro U hU hW
  have hP2 : va_P D ax_cl (ax_w ca (fun i => ad (sg i)) w) H := hP.1.by _ (up_in hs h1 h2 ca ad)
  have hD2 : va_D A (ax_w ca (fun i => ad (sg i)) w) := hP.2.1.by _ (up_in hs h1 h2 ca ad) (fun i j _ _ e => by
    by_cases ci : i < 33
    · by_cases cj : j < 33
      · rw [if_pos ci, if_pos cj] at e
        rw [← hs.1 i, ← hs.1 j, e]
      · rw [if_pos ci, if_neg cj] at e
        have := hs.2.2 i ci; omega
    · by_cases cj : j < 33
      · rw [if_neg ci, if_pos cj] at e
        have := hs.2.2 j cj; omega
      · rw [if_neg ci, if_neg cj] at e; exact e)
  refine ⟨rfl, by rw [hU], by rw [hU]; exact hP2, va_K.moved hW.alike hC.2.2.2.2.2.2.2.2.2.1, hD2.weaken (fun _ _ _ _ => trivial), ?_⟩
  rw [hU]
  refine (((hC.2.2.2.2.2.2.2.2.2.2.2.1.kept hP.2.2.2.1).warm hW).narrow ?_).map (fun i hi => by show ad (sg i) = ad i; rw [hs.2.1 i (by omega)])
  intro q hq
  rcases hq with ⟨k, x, hq⟩ | hq
  · exact hD2.2 k (q, x) hq
  · exact hC.2.2.2.2.2.2.2.2.2.2.1 q (Nat.le_trans hP.2.2.1 hq)
theorem gp_back {p : Program} {l : Launch} {e : Env} {R : Room} {s : State} {m : MethodId} {args : Array Value} {below : List Frame} {meth : Method} {c : Code} {D : va_G} {ca : Nat → ClassId} {ad : Nat → Nat} {A : Nat → Prop} {Qf : State → Prop} {H : Heap} {locs : List Loc} {ls : Array Slot} {a : Array Value} {st0 : List Value} (hs : sgOk sg) (h1 : w.1.length = 33) (h2 : w.2.length = 21) (hC : ax_C Y p l R s m args meth c D ca ad A) (hP : ax_P D ca ad A (upW sg o w) H s.heap locs) (hl : lv_has ls Y.2.2.1 (la.map fun q => (q.1, ax_v ad q.2))) (hE : ax_Z Y Q p l e R s m args below meth c D ca ad A Qf (upW sg o w).1.length (upW sg o w).2.length)
    (hr : va_Run p l e R s m args below meth c H locs kn.1 kn.2 0 0 (F0 m pc ls st0) (rest.map (ax_v ad)) (ax_Qc false D ca (fun i => ad (sg i)) w H.size Q1 a) (va_A (ax_w ca (fun i => ad (sg i)) w) H.size))
    (kk : ∀ (r : Option Value) (w' : ax_W), Q1 r w' → (w'.1.length = 33 ∧ w'.2.length = 21 ∧ r.map (rnV sg) = r) ∧ Ab Y Q kn (pc + 3) la (r.toList ++ rest) (upW sg o w')) : W p l e R s m args below meth c H locs kn.1 kn.2 Qf (F0 m pc ls st0) := by
  intro T hT X
  obtain ⟨v, st₀, t, T', L, h0, X', hL, e1, e2, ⟨⟨r, w', ad', hv, hq, hag, g1, g2, hP1, hD1⟩, hz, hkp⟩, stp⟩ := hr T hT X
  have hag : ad' = (fun i => ad (sg i)) := hag
  subst hag
  cases hv
  obtain ⟨⟨l1, l2, hrr⟩, kk2⟩ := kk r w' hq
  rw [h0] at hz hkp
  have hD2 : va_D A (ax_w ca (fun i => ad (sg i)) w) := hP.2.1.by _ (up_in hs h1 h2 ca ad) (fun i j _ _ e => by
    by_cases ci : i < 33
    · by_cases cj : j < 33
      · rw [if_pos ci, if_pos cj] at e
        rw [← hs.1 i, ← hs.1 j, e]
      · rw [if_pos ci, if_neg cj] at e
        have := hs.2.2 i ci; omega
    · by_cases cj : j < 33
      · rw [if_neg ci, if_pos cj] at e
        have := hs.2.2 j cj; omega
      · rw [if_neg ci, if_neg cj] at e; exact e)
  have hfr : ∀ q, va_A (ax_w ca (fun i => ad (sg i)) w) H.size q → A q := by
    intro q h
    rcases h with ⟨k, x, h⟩ | h
    · exact hD2.2 k (q, x) h
    · exact hC.2.2.2.2.2.2.2.2.2.2.1 q (Nat.le_trans hP.2.2.1 h)
  have hS1 : va_S A s.heap T'.heap (locs ++ L) := ⟨Nat.le_trans hP.2.2.1 (by rw [e1]; exact hz), fun q h1 h2 => by
      rw [e1, hkp q (Nat.lt_of_lt_of_le h1 hP.2.2.1) (fun z => h2 (hfr q z))]
      exact hP.2.2.2.1 q h1 h2, fun q hq2 => by
      rcases List.mem_append.mp hq2 with h | h
      · exact hP.2.2.2.2 q h
      · exact hfr _ (hL q h)⟩
  have hlast := up_last (s := sg) (o := o) h2 ca ad
  have hat := hP.1 54 _ hlast
  have hnA : ¬ va_A (ax_w ca (fun i => ad (sg i)) w) H.size (ad 1021) := by
    intro h
    rcases h with ⟨k, x, h⟩ | h
    · have h3 := up_in (o := o) hs h1 h2 ca ad k _ h
      have h4 := hP.2.1.1 _ _ _ _ h3 hlast rfl
      have hk : k < 54 := by
        rcases Nat.lt_or_ge k 54 with z | z
        · exact z
        · rw [List.getElem?_eq_none (by unfold ax_w; rw [List.length_append, ax_x_len, ax_x_len]; omega)] at h; cases h
      by_cases c3 : k < 33
      · rw [if_pos c3] at h4
        have := hs.2.2 k c3; omega
      · rw [if_neg c3] at h4; omega
    · exact absurd h (Nat.not_le.mpr hat.lt)
  have hP3 : va_P D ax_cl (ax_w ca ad (upW sg o w')) t.heap := by
    intro k q hq3
    by_cases c4 : k = 54
    · subst c4
      rw [up_last l2 ca ad] at hq3
      cases hq3
      exact hat.kept (hkp _ hat.lt hnA)
    · exact hP1 _ q (up_out hs l1 l2 ca ad k q c4 hq3)
  have hD3 : va_D A (ax_w ca ad (upW sg o w')) := D_ad hP.2.1 (up_ad h2 l2 ca ad)
  obtain ⟨t2, a1, b1⟩ := kk2 p l e R s m args below meth c D ca ad A Qf T'.heap (locs ++ L) ls hC ⟨by rw [e1]; exact hP3, hD3, hS1⟩ hl (by rw [up_len1, up_len2] at hE ⊢; rw [h2] at hE; rw [l2]; exact hE) T' rfl X'
  refine ⟨t2, stp t2 ?_, b1⟩
  have e3 : (r.map (ax_v fun i => ad (sg i))).toList ++ rest.map (ax_v ad) = (r.toList ++ rest).map (ax_v ad) := by
    rw [List.map_append]
    congr 1
    cases r with
    | none => rfl
    | some v =>
      have hv : rnV sg v = v := Option.some.inj hrr
      show [ax_v (fun i => ad (sg i)) v] = [ax_v ad v]
      rw [← rn_v ad sg v, hv]
  rw [e3]
  exact a1
theorem ab_callVL (hs : sgOk sg) (h1 : w.1.length = 33) (h2 : w.2.length = 21) (d : decode Y.2.1 pc = .ok (.invokevirtual idx, 3)) (hm : ax_mv Y1 ci n) (hlk : Cond.methodLink Y.1.cls idx Y1.1 ∈ TB) (hr : ax_rm Y Y1) (hk : kn.1 ≤ Y.2.2.2.2.1.cells ∧ kn.2 ≤ Y.2.2.2.2.1.slots) (hst : st = As.reverse ++ .ref b :: rest) (hb : sg b = b) (hAs : As.map (rnV sg) = As) (hn : As.length = n) (hcat : (rest.map fun v => v.category).sum ≤ 8) (hg : ax_get w b = some (ob ci fs)) (hct : Ct Y1 (.ref b :: As) w Q1) (kk : ∀ (r : Option Value) (w' : ax_W), Q1 r w' → (w'.1.length = 33 ∧ w'.2.length = 21 ∧ r.map (rnV sg) = r) ∧ Ab Y Q kn (pc + 3) la (r.toList ++ rest) (upW sg o w')) : Ab Y Q kn pc la st (upW sg o w) := by
  intro p l e R s m args below meth c D ca ad A Qf H locs ls hC hP hl hE
  obtain ⟨m1, m2, m3, m4, m5, T, N, m6⟩ := hm
  obtain ⟨r1, r2, r3, r4, r5⟩ := hr
  obtain ⟨q, hq, -⟩ := ax_at (ca := ca) (ad := fun i => ad (sg i)) hg
  have hRR : R = Y.2.2.2.2.1 := hC.2.2.2.2.2.2.2.2.1
  have hMet := hct l hC.2.2.2.2.2.2.2.2.2.2.2.2.1 D ca (fun i => ad (sg i)) H.size
  rw [r3, r4, r5] at hMet
  have hK := hC.2.2.2.2.2.2.2.2.2.1
  have hP2 : va_P D ax_cl (ax_w ca (fun i => ad (sg i)) w) H := hP.1.by _ (up_in hs h1 h2 ca ad)
  have eAs : As.map (ax_v fun i => ad (sg i)) = As.map (ax_v ad) := by
    conv => rhs; rw [← hAs, List.map_map]
    apply List.map_congr_left
    intro v _
    exact (rn_v ad sg v).symm
  refine gp_back hs h1 h2 hC hP hl hE (va_runV (C := Y1.1.cls) (b := ad (sg b)) (As := As.map (ax_v fun i => ad (sg i))) (n := n) ⟨hC.1, hC.2.1, hC.2.2.1, hC.2.2.2.2.1, hC.2.2.2.2.2.1⟩ hMet (cwV n hC.2.2.2.2.2.1 (ax_words (by intro x hx; simp only [List.mem_cons, List.not_mem_nil, or_false] at hx; rcases hx with rfl | rfl | rfl | rfl <;> assumption) m4) rfl r3 r4 ⟨rfl, m5⟩ (by rw [hRR]; exact ⟨r1, r2⟩)) ⟨ax_blind, va_recv hK hP2 m6 hq, gp_pre hs h1 h2 hC hP (.ref b :: As)⟩ rfl (by rw [List.length_map]; exact hn) hl.1 (by rw [hst, eAs, hb]; simp [F0, ax_v]) (by rw [ax_catsum]; exact lv_room hcat) d (by rw [hRR]; exact hk)) kk
end GCALL
