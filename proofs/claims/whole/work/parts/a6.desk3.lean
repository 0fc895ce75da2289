/-! DESK on both sides; the two desks of the class change places -/
def sw (i : Nat) : Nat := if i = 4 then 7 else if i = 5 then 8 else if i = 6 then 9 else if i = 7 then 4 else if i = 8 then 5 else if i = 9 then 6 else i
def sid (i : Nat) : Nat := i
theorem sid_ok : sgOk sid := ⟨fun _ => rfl, fun _ _ => rfl, fun _ h => h⟩
theorem sw_out {i : Nat} (h : 10 ≤ i) : sw i = i := by
  unfold sw
  rw [if_neg (by omega), if_neg (by omega), if_neg (by omega), if_neg (by omega), if_neg (by omega), if_neg (by omega)]
theorem sw_in : ∀ i, i < 10 → sw (sw i) = i ∧ sw i < 33 := by decide
theorem sw_ok : sgOk sw := by
  refine ⟨fun i => ?_, fun i hi => sw_out (by omega), fun i hi => ?_⟩
  · rcases Nat.lt_or_ge i 10 with c | c
    · exact (sw_in i c).1
    · rw [sw_out c, sw_out c]
  · rcases Nat.lt_or_ge i 10 with c | c
    · exact (sw_in i c).2
    · rw [sw_out c]; exact hi
def isSg (sg : Nat → Nat) : Prop := sg = sid ∨ sg = sw
/-- worlds of the law that hold a world with the invariant -/
def INX (w : ax_W) : Prop := w.1.length = 33 ∧ w.2.length = 21 ∧ ∃ w3, INV w3 ∧ ∀ sg o, isSg sg → ∃ sg', isSg sg' ∧ upW sg o w = upW sg' o w3
theorem inx_of {w : ax_W} (h : INV w) : INX w := ⟨(inv_w h).1, (inv_w h).2.1, w, h, fun sg _ hs => ⟨sg, hs, rfl⟩⟩
def PrX (Yx Ym : ax_M) (as : List Value) (w : ax_W) : Prop := ∃ Q1, Ct Yx (.ref 0 :: as) w Q1 ∧ ∀ r w', Q1 r w' → w'.1.length = 33 ∧ w'.2.length = 21 ∧ (∃ fs, ax_get w' 1000 = some (ob 9 fs)) ∧ ∃ Q2, Ct Ym (.ref 1000 :: as) w' Q2 ∧ ∀ r2 w2, Q2 r2 w2 → r2 = r ∧ (∃ v : Int32, r = some (.int v)) ∧ INX w2
theorem prx_of {Yx Ym : ax_M} {as : List Value} {w : ax_W} (h : PrI Yx Ym as w) : PrX Yx Ym as w := by
  obtain ⟨Q1, c1, h⟩ := h
  refine ⟨Q1, c1, fun r w' q => ?_⟩
  obtain ⟨l1, l2, g, Q2, c2, k⟩ := h r w' q
  exact ⟨l1, l2, g, Q2, c2, fun r2 w2 q2 => ⟨(k r2 w2 q2).1, (k r2 w2 q2).2.1, inx_of (k r2 w2 q2).2.2⟩⟩
set_option maxRecDepth 100000 in
theorem pr_desk {w : ax_W} (hI : INV w) (a1 : Int32) : PrX M_X10_desk M_X11_desk [.int a1] w := by
  refine hI (fun w => PrX M_X10_desk M_X11_desk [.int a1] w) ?_
  intro tr fl pl wl wd f1_3 f1_4 f10_0 f10_1 f10_2 f10_3 f12_5 f12_6 f12_7 f12_8 f12_9 f18_7 f18_8 f18_9 f18_10 f25_3 m_thrown m_where m_readLinks m_readTracers m_readPoints m_readPairs m_textLong m_at m_spot m_token m_whole m_readFault m_readPlace m_value m_curveMany m_cornerMany m_straightAt m_lined f11_0 f11_1 f11_2 f11_3 f11_4 f11_5 f11_6 f11_7 f11_8 f11_9 f11_10 f11_11 f11_12 f11_13 f11_14 f11_15 f18_11 f18_12 m_n m_c m_d m_s m_e m_k m_x m_y m_g m_a m_fitUp m_fitDown m_worstUp m_worstDown r2 r3 r5 r6 r8 r9 r13 r14 r15 r26 r27 r28 r30 r31 r32 q3 q4 q5 q6 q7 q8 q9 q10 q11 q12 q13 q14 q15 q16 q18 q19 q20 r19 r20 r21 r22 r23 r24 q17 L nl nt np nr wa wb f n so ch hW hT hD hP hK hA
  by_cases ho : 0 ≤ a1 ∧ a1 ≤ nI L
  · have hL := hT.1
    obtain ⟨-, u, hu, hv⟩ := hT
    obtain ⟨m, hm, rfl⟩ : ∃ m : Nat, m ≤ L ∧ a1 = nI m := by
      obtain ⟨m, hm, e⟩ := nI_in2 (c := L + 1) (by omega) ho.1 (by have q := nI_lt (a := L) (b := L + 1) (by omega) (by omega); have := ho.2; grind)
      exact ⟨m, by omega, e⟩
    refine ⟨_, c_X10_desk_i (u := u) (n := m) (L := L) (h_n := by omega) (h_u := hu) (h_L := hm) (h_L7 := hL), ?_⟩
    rintro r w' (⟨e, ga, gr, g8, gc, f1, rfl, rfl⟩ | ⟨s, ga, gr, g8, f1, f2, f3, rfl, rfl⟩)
    · refine ⟨rfl, rfl, ⟨_, rfl⟩, _, c_X11_desk_i (u := u) (n := m) (L := L) (h_n := by omega) (h_v := fun k hk => ⟨(hu k (by omega)).1, hv k (by omega)⟩) (h_k := ho), ?_⟩
      rintro r2 w2 (⟨e2, y1, y2, y3, y4, y5, y6, y7, y8, y9, y10, y11, y12, y13, g1, rfl, rfl⟩ | ⟨s2, y1, y2, y3, y4, y5, y6, y7, y8, y9, g1, g2, g3, rfl, rfl⟩)
      · rw [f1] at g1
        have ei := Sum.inl.inj g1
        subst ei
        exact ⟨rfl, ⟨_, rfl⟩, inx_of (inv_mk (L := 0) (fun _ => rfl) ⟨by omega, u, hu, fun k hk => absurd hk (Nat.not_lt_zero k)⟩ hD hP hK hA)⟩
      · rw [f1] at g1; cases g1
    · refine ⟨rfl, rfl, ⟨_, rfl⟩, _, c_X11_desk_i (u := u) (n := m) (L := L) (h_n := by omega) (h_v := fun k hk => ⟨(hu k (by omega)).1, hv k (by omega)⟩) (h_k := ho), ?_⟩
      rintro r2 w2 (⟨e2, y1, y2, y3, y4, y5, y6, y7, y8, y9, y10, y11, y12, y13, g1, rfl, rfl⟩ | ⟨s2, y1, y2, y3, y4, y5, y6, y7, y8, y9, g1, g2, g3, rfl, rfl⟩)
      · rw [f1] at g1; cases g1
      · rw [f1] at g1
        have ei := Sum.inr.inj g1
        subst ei
        have ok := pT_ok f1
        have dk := dk_read (r9 := r9) (q4 := q4) (q5 := q5) (q6 := q6) (q7 := q7) ok.1 f2 g2
        have tk := take_e (g8 := g8) (q7 := ovl y9 16 q7) r19 r20 r21 r22 f3.2.2.2 dk.2.2.2.2.2.1
        have iv := inv_mk (L := 0) (n := 0) (f := f) (nl := s.2.1 0) (nt := s.2.1 1) (np := s.2.1 2) (nr := s.2.1 3) (tr := 0) (fl := 0) (pl := -1) (wl := -1) (wa := wa) (wb := wb) (wd := wd) (f1_3 := nI m) (f1_4 := ga) (r2 := r2) (r3 := gr) (r5 := g8) (r6 := ovl (nIf s.2.1) 4 r9) (r8 := r5) (r9 := r6) (so := so) (ch := ch) (f10_0 := f10_0) (f10_1 := f10_1) (f10_2 := f10_2) (f10_3 := f10_3) (f12_5 := f12_5) (f12_6 := f12_6) (f12_7 := f12_7) (f12_8 := f12_8) (f12_9 := f12_9) (f18_8 := f18_8) (f18_9 := f18_9) (f18_10 := f18_10) (f25_3 := f25_3) (f11_0 := f11_0) (f11_1 := f11_1) (f11_2 := f11_2) (f11_3 := f11_3) (f11_4 := f11_4) (f11_5 := f11_5) (f11_6 := f11_6) (f11_7 := f11_7) (f11_8 := f11_8) (f11_9 := f11_9) (f11_10 := f11_10) (f11_11 := f11_11) (f11_12 := f11_12) (f11_13 := f11_13) (f11_14 := f11_14) (f11_15 := f11_15) (f18_12 := f18_12) (f18_7 := 0) (f18_11 := (itr (fun k s => lp_take7_st g8 k s.1 s.2.1 s.2.2.1 s.2.2.2.1 s.2.2.2.2) (s.2.1 3) 0 (r19, r20, r21, r22, 1)).2.2.2.2) (r19 := (itr (fun k s => lp_take7_st g8 k s.1 s.2.1 s.2.2.1 s.2.2.2.1 s.2.2.2.2) (s.2.1 3) 0 (r19, r20, r21, r22, 1)).1) (r20 := (itr (fun k s => lp_take7_st g8 k s.1 s.2.1 s.2.2.1 s.2.2.2.1 s.2.2.2.2) (s.2.1 3) 0 (r19, r20, r21, r22, 1)).2.1) (r21 := (itr (fun k s => lp_take7_st g8 k s.1 s.2.1 s.2.2.1 s.2.2.2.1 s.2.2.2.2) (s.2.1 3) 0 (r19, r20, r21, r22, 1)).2.2.1) (r22 := (itr (fun k s => lp_take7_st g8 k s.1 s.2.1 s.2.2.1 s.2.2.2.1 s.2.2.2.2) (s.2.1 3) 0 (r19, r20, r21, r22, 1)).2.2.2.1) (r23 := r23) (r24 := r24) (r13 := r13) (r14 := r14) (r15 := r15) (r26 := r26) (r27 := r27) (r28 := r28) (r30 := r30) (r31 := r31) (r32 := r32) (q3 := q3) (q12 := q12) (q13 := q13) (q14 := q14) (q15 := q15) (q16 := q16) (q17 := q17) (q18 := q18) (q19 := q19) (q20 := q20) (q4 := ovl y6 16 q4) (q5 := ovl y7 8 q5) (q6 := ovl y8 16 q6) (q7 := ovl y9 16 q7) (q8 := y6) (q9 := y7) (q10 := y8) (q11 := y9) (m_thrown := 0) (m_where := -1) (m_readLinks := nI (s.2.1 0)) (m_readTracers := nI (s.2.1 1)) (m_readPoints := nI (s.2.1 2)) (m_readPairs := nI (s.2.1 3)) (m_textLong := nI m) (m_at := y1) (m_spot := y2) (m_token := y3) (m_whole := y4) (m_value := y5) (m_readFault := m_readFault) (m_readPlace := m_readPlace) (m_curveMany := m_curveMany) (m_cornerMany := m_cornerMany) (m_straightAt := m_straightAt) (m_lined := m_lined) (m_n := m_n) (m_c := m_c) (m_d := m_d) (m_s := m_s) (m_e := m_e) (m_k := m_k) (m_x := m_x) (m_y := m_y) (m_g := m_g) (m_a := m_a) (m_fitUp := m_fitUp) (m_fitDown := m_fitDown) (m_worstUp := m_worstUp) (m_worstDown := m_worstDown) (fun _ => rfl) ⟨by omega, u, hu, fun k hk => absurd hk (Nat.not_lt_zero k)⟩ dk ⟨tk.1, tk.2, Or.inl rfl⟩ ⟨hK.1, hK.2.1, fun z => absurd rfl z⟩ ⟨hA.1, by omega, fun j hj => absurd hj (Nat.not_lt_zero j)⟩
        refine ⟨?_, ⟨_, rfl⟩, rfl, rfl, _, iv, fun sg o hs => ?_⟩
        · rw [← dk.1.1]
        · rcases hs with rfl | rfl
          · exact ⟨sw, Or.inr rfl, rfl⟩
          · exact ⟨sid, Or.inl rfl, rfl⟩
  · refine ⟨_, c_X10_desk_o (h_o := ho), ?_⟩
    rintro r w' (⟨f1, rfl, rfl⟩ | ⟨f1, rfl, rfl⟩)
    · refine ⟨rfl, rfl, ⟨_, rfl⟩, _, c_X11_desk_o (h_o := ho), ?_⟩
      rintro r2 w2 ⟨rfl, rfl⟩
      exact ⟨rfl, ⟨_, rfl⟩, inx_of (inv_mk (fun z => absurd z (by decide)) hT hD hP hK hA)⟩
    · refine ⟨rfl, rfl, ⟨_, rfl⟩, _, c_X11_desk_o (h_o := ho), ?_⟩
      rintro r2 w2 ⟨rfl, rfl⟩
      exact ⟨rfl, ⟨_, rfl⟩, inx_of (inv_mk (fun z => absurd z (by decide)) hT hD hP hK hA)⟩
