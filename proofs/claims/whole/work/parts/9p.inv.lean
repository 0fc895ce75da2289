/-! THE INVARIANT: what the class's world and the reference's have in common between two calls -/
def TpR (L : Nat) (r2 q3 : Nat → Int32) : Prop := L ≤ 700 ∧ ∃ u : Nat → Nat, (∀ k, k < 700 → u k < 256 ∧ r2 k = sgn (u k)) ∧ ∀ k, k < L → q3 k = nI (u k)
def DkR (nl nt np nr : Nat) (r5 r6 q4 q5 q6 q7 : Nat → Int32) : Prop :=
  (r6 0 = nI nl ∧ r6 1 = nI nt ∧ r6 2 = nI np ∧ r6 3 = nI nr) ∧ (nl ≤ 4 ∧ nt ≤ 4 ∧ np ≤ 8 ∧ nr ≤ 4) ∧
  (∀ i j, i < nl → j < 4 → r5 (0 + i * 4 + j) = q4 (0 + i * 4 + j) ∧ b18 (q4 (0 + i * 4 + j)).toInt) ∧
  (∀ i j, i < nt → j < 2 → r5 (16 + i * 2 + j) = q5 (0 + i * 2 + j) ∧ t20 (q5 (0 + i * 2 + j))) ∧
  (∀ i j, i < np → j < 2 → r5 (24 + i * 2 + j) = q6 (0 + i * 2 + j) ∧ (q6 (0 + i * 2 + j)).toInt.natAbs ≤ 999) ∧
  (∀ i j, i < nr → j < 4 → r5 (40 + i * 4 + j) = q7 (0 + i * 4 + j)) ∧ (∀ i, i < nr → okP q7 (nI i))
def PrR (q7 : Nat → Int32) (nr : Nat) (r19 r20 r21 r22 : Nat → Int64) (un : Int64) (fg fc fr fa : Int32) (fe : Int64) : Prop :=
  prR q7 nr r19 r20 r21 r22 ∧ un = Int64.ofInt (zU q7 nr) ∧ (fg = 0 ∨ ∃ (x y : Nat → Int64) (c1 c2 c3 : Int32), (fc, fr, fa, fe) = (FB r19 r20 r21 r22 x y nr un fg c1 c2 c3).2.2)
def WkR (nl wa wb : Nat) (wl : Int32) (r5 r26 : Nat → Int32) : Prop := wa < 40 ∧ wb < 2 ∧ (¬ wl = -1 → (0 ≤ wl ∧ wl < nI nl) ∧ ∀ k, k < 40 → r26 k = stA r5 wl k)
def AcR (nl f n : Nat) (r30 r31 r32 q20 : Nat → Int32) : Prop := f < 10 ∧ n ≤ 10 ∧ ∀ i, i < n → (r30 ((f + i) % 10) = q20 (3 * i) ∧ r31 ((f + i) % 10) = q20 (3 * i + 1) ∧ r32 ((f + i) % 10) = q20 (3 * i + 2)) ∧ (0 ≤ q20 (3 * i) ∧ q20 (3 * i) < nI nl) ∧ (0 ≤ q20 (3 * i + 1) ∧ q20 (3 * i + 1) < nI 4) ∧ b18 (q20 (3 * i + 2)).toInt
section INVL
variable {nl nt np nr : Nat} {r5 r6 q4 q5 q6 q7 : Nat → Int32}
theorem dk_c0 (h : DkR nl nt np nr r5 r6 q4 q5 q6 q7) : r6 0 ≤ nI 4 := by rw [h.1.1]; exact nI_le h.2.1.1 (by decide)
theorem dk_c1 (h : DkR nl nt np nr r5 r6 q4 q5 q6 q7) : r6 1 ≤ nI 4 := by rw [h.1.2.1]; exact nI_le h.2.1.2.1 (by decide)
theorem dk_c2 (h : DkR nl nt np nr r5 r6 q4 q5 q6 q7) : r6 2 ≤ nI 8 := by rw [h.1.2.2.1]; exact nI_le h.2.1.2.2.1 (by decide)
theorem dk_c3 (h : DkR nl nt np nr r5 r6 q4 q5 q6 q7) : r6 3 ≤ nI 4 := by rw [h.1.2.2.2]; exact nI_le h.2.1.2.2.2 (by decide)
theorem dk_m0 (h : DkR nl nt np nr r5 r6 q4 q5 q6 q7) : 0 ≤ nI nl ∧ nI nl ≤ nI 4 := nI_bd h.2.1.1 (by decide)
theorem dk_m1 (h : DkR nl nt np nr r5 r6 q4 q5 q6 q7) : 0 ≤ nI nt ∧ nI nt ≤ nI 4 := nI_bd h.2.1.2.1 (by decide)
theorem dk_m2 (h : DkR nl nt np nr r5 r6 q4 q5 q6 q7) : 0 ≤ nI np ∧ nI np ≤ nI 8 := nI_bd h.2.1.2.2.1 (by decide)
theorem dk_m3 (h : DkR nl nt np nr r5 r6 q4 q5 q6 q7) : 0 ≤ nI nr ∧ nI nr ≤ nI 4 := nI_bd h.2.1.2.2.2 (by decide)
theorem cl_lt {l : Int32} {c : Nat} (hc : c ≤ 40) (h : 0 ≤ l ∧ l < nI c) : Int32.toNatClampNeg l < c := by
  obtain ⟨k, hk, rfl⟩ := nI_in2 (by omega) h.1 h.2
  rw [nI_clamp (by omega)]; exact hk
theorem dk_bars (h : DkR nl nt np nr r5 r6 q4 q5 q6 q7) {l : Int32} (hl : 0 ≤ l ∧ l < nI nl) : Bg r5 l = Bg q4 l ∧ Ba r5 l = Ba q4 l ∧ Bb r5 l = Bb q4 l ∧ Bc r5 l = Bc q4 l ∧ okB q4 l := by
  have hk := cl_lt (by have := h.2.1.1; omega) hl
  have b := h.2.2.1
  have b0 := b _ 0 hk (by decide)
  have b1 := b _ 1 hk (by decide)
  have b2 := b _ 2 hk (by decide)
  have b3 := b _ 3 hk (by decide)
  exact ⟨b0.1, b1.1, b2.1, b3.1, b0.2, b1.2, b2.2, b3.2⟩
theorem dk_okB (h : DkR nl nt np nr r5 r6 q4 q5 q6 q7) {l : Int32} (hl : 0 ≤ l ∧ l < nI nl) : okB r5 l := by
  obtain ⟨b1, b2, b3, b4, b5⟩ := dk_bars h hl
  unfold okB
  rw [b1, b2, b3, b4]; exact b5
theorem dk_bar (h : DkR nl nt np nr r5 r6 q4 q5 q6 q7) {l i : Int32} (hl : 0 ≤ l ∧ l < nI nl) (hi : 0 ≤ i ∧ i < 4) : r5 (0 + Int32.toNatClampNeg l * 4 + Int32.toNatClampNeg i) = q4 (0 + Int32.toNatClampNeg l * 4 + Int32.toNatClampNeg i) := (h.2.2.1 _ _ (cl_lt (by have := h.2.1.1; omega) hl) (cl_lt (c := 4) (by decide) hi)).1
theorem dk_tr (h : DkR nl nt np nr r5 r6 q4 q5 q6 q7) {i : Int32} (hi : 0 ≤ i ∧ i < nI nt) : Cm r5 i = Tm q5 i ∧ Cq r5 i = Tn q5 i ∧ t20 (Tm q5 i) ∧ t20 (Tn q5 i) := by
  have hk := cl_lt (by have := h.2.1.2.1; omega) hi
  have b0 := h.2.2.2.1 _ 0 hk (by decide)
  have b1 := h.2.2.2.1 _ 1 hk (by decide)
  exact ⟨b0.1, b1.1, b0.2, b1.2⟩
theorem dk_trc (h : DkR nl nt np nr r5 r6 q4 q5 q6 q7) {l i : Int32} (hl : 0 ≤ l ∧ l < nI nt) (hi : 0 ≤ i ∧ i < 2) : r5 (16 + Int32.toNatClampNeg l * 2 + Int32.toNatClampNeg i) = q5 (0 + Int32.toNatClampNeg l * 2 + Int32.toNatClampNeg i) := (h.2.2.2.1 _ _ (cl_lt (by have := h.2.1.2.1; omega) hl) (cl_lt (c := 2) (by decide) hi)).1
theorem dk_ptc (h : DkR nl nt np nr r5 r6 q4 q5 q6 q7) {l i : Int32} (hl : 0 ≤ l ∧ l < nI np) (hi : 0 ≤ i ∧ i < 2) : r5 (24 + Int32.toNatClampNeg l * 2 + Int32.toNatClampNeg i) = q6 (0 + Int32.toNatClampNeg l * 2 + Int32.toNatClampNeg i) := (h.2.2.2.2.1 _ _ (cl_lt (by have := h.2.1.2.2.1; omega) hl) (cl_lt (c := 2) (by decide) hi)).1
theorem dk_prc (h : DkR nl nt np nr r5 r6 q4 q5 q6 q7) {l i : Int32} (hl : 0 ≤ l ∧ l < nI nr) (hi : 0 ≤ i ∧ i < 4) : r5 (40 + Int32.toNatClampNeg l * 4 + Int32.toNatClampNeg i) = q7 (0 + Int32.toNatClampNeg l * 4 + Int32.toNatClampNeg i) := h.2.2.2.2.2.1 _ _ (cl_lt (by have := h.2.1.2.2.2; omega) hl) (cl_lt (c := 4) (by decide) hi)
theorem dk_pt (h : DkR nl nt np nr r5 r6 q4 q5 q6 q7) {i : Int32} (hi : 0 ≤ i ∧ i < nI np) : r5 (24 + Int32.toNatClampNeg i * 2 + 0) = Tm q6 i ∧ r5 (24 + Int32.toNatClampNeg i * 2 + 1) = Tn q6 i ∧ Bx (Tm q6 i) ∧ Bx (Tn q6 i) := by
  have hk := cl_lt (by have := h.2.1.2.2.1; omega) hi
  have b0 := h.2.2.2.2.1 _ 0 hk (by decide)
  have b1 := h.2.2.2.2.1 _ 1 hk (by decide)
  exact ⟨b0.1, b1.1, Nat.le_trans b0.2 (by decide), Nat.le_trans b1.2 (by decide)⟩
theorem law_e (h : DkR nl nt np nr r5 r6 q4 q5 q6 q7) {l a : Int32} (hl : 0 ≤ l ∧ l < nI nl) (ha : 0 ≤ a ∧ a < 40) : (0 < Ml_s q4 l a ∧ 0 ≤ Ml_k q4 l a) ↔ (0 < (Ps_s (Bg r5 l) (Ba r5 l) a) ∧ 0 ≤ (Ps_k (Bg r5 l) (Ba r5 l) (Bb r5 l) (Bc r5 l) a)) := by
  obtain ⟨k, hk, rfl⟩ := nI_in2 (c := 40) (by decide) ha.1 ha.2
  obtain ⟨b1, b2, b3, b4, b5⟩ := dk_bars h hl
  rw [b1, b2, b3, b4, m_s hk, m_k hk]
theorem st_e (h : DkR nl nt np nr r5 r6 q4 q5 q6 q7) {l : Int32} (hl : 0 ≤ l ∧ l < nI nl) (k : Nat) : stA r5 l k = stA q4 l k := by
  obtain ⟨b1, b2, b3, b4, b5⟩ := dk_bars h hl
  unfold stA
  rw [b1, b2, b3, b4]
theorem lawP_e (h : DkR nl nt np nr r5 r6 q4 q5 q6 q7) {l : Int32} (hl : 0 ≤ l ∧ l < nI nl) (k : Nat) : lawP r5 l k ↔ lawP q4 l k := by
  obtain ⟨b1, b2, b3, b4, b5⟩ := dk_bars h hl
  unfold lawP
  rw [b1, b2, b3, b4]
theorem kk_e (h : DkR nl nt np nr r5 r6 q4 q5 q6 q7) {l a : Int32} (hl : 0 ≤ l ∧ l < nI nl) (ha : 0 ≤ a ∧ a < 40) : Ml_k q4 l a = Ps_k (Bg r5 l) (Ba r5 l) (Bb r5 l) (Bc r5 l) a ∧ Ml_s q4 l a = Ps_s (Bg r5 l) (Ba r5 l) a ∧ Ml_n a = Ps_n a ∧ Ml_c a = Ps_c a ∧ Ml_d a = Ps_d a ∧ Ml_e q4 l a = Ps_e (Bg r5 l) (Ba r5 l) (Bb r5 l) (Bc r5 l) a ∧ Ml_x q4 l a = Ps_x (Bg r5 l) (Ba r5 l) a ∧ Ml_y q4 l a = Ps_y (Ba r5 l) a := by
  obtain ⟨k, hk, rfl⟩ := nI_in2 (c := 40) (by decide) ha.1 ha.2
  obtain ⟨b1, b2, b3, b4, b5⟩ := dk_bars h hl
  rw [b1, b2, b3, b4]
  exact ⟨m_k hk, m_s hk, m_n k hk, m_c k hk, m_d k hk, m_e hk, m_x hk, m_y hk⟩
end INVL
theorem le1 {a : Int32} : a ≤ 1 ↔ a < 2 := by grind
theorem le2 {a : Int32} : a ≤ 2 ↔ a < 3 := by grind
theorem le3 {a : Int32} : a ≤ 3 ↔ a < 4 := by grind
theorem le5 {a : Int32} : a ≤ 5 ↔ a < 6 := by grind
theorem le39 {a : Int32} : a ≤ 39 ↔ a < 40 := by grind
set_option maxRecDepth 100000 in
def INV (w : ax_W) : Prop := ∀ C : ax_W → Prop, (∀ (tr fl pl wl wd f1_3 f1_4 f10_0 f10_1 f10_2 f10_3 f12_5 f12_6 f12_7 f12_8 f12_9 f18_7 f18_8 f18_9 f18_10 f25_3 m_thrown m_where m_readLinks m_readTracers m_readPoints m_readPairs m_textLong m_at m_spot m_token m_whole m_readFault m_readPlace m_value m_curveMany m_cornerMany m_straightAt m_lined : Int32) (f11_0 f11_1 f11_2 f11_3 f11_4 f11_5 f11_6 f11_7 f11_8 f11_9 f11_10 f11_11 f11_12 f11_13 f11_14 f11_15 f18_11 f18_12 m_n m_c m_d m_s m_e m_k m_x m_y m_g m_a m_fitUp m_fitDown m_worstUp m_worstDown : Int64) (r2 r3 r5 r6 r8 r9 r13 r14 r15 r26 r27 r28 r30 r31 r32 q3 q4 q5 q6 q7 q8 q9 q10 q11 q12 q13 q14 q15 q16 q18 q19 q20 : Nat → Int32) (r19 r20 r21 r22 r23 r24 q17 : Nat → Int64) (L nl nt np nr wa wb f n : Nat) (so ch : Nat → Nat), (tr = 4 → m_where = pl) → TpR L r2 q3 → DkR nl nt np nr r5 r6 q4 q5 q6 q7 → PrR q7 nr r19 r20 r21 r22 f18_11 f18_7 f18_8 f18_9 f18_10 f18_12 → WkR nl wa wb wl r5 r26 → AcR nl f n r30 r31 r32 q20 → C ([ob 8 [.int tr, .ref 1, .ref 4, .ref 7, .ref 10, .ref 11, .ref 12, .ref 18, .ref 25, .ref 29], ob 6 [.ref 2, .ref 3, .int (nI L), .int f1_3, .int f1_4, .int fl, .int pl], ba 700 r2, ia 4 r3, ob 2 [.ref 5, .ref 6], ia 56 r5, ia 4 r6, ob 2 [.ref 8, .ref 9], ia 56 r8, ia 4 r9, ob 3 [.int f10_0, .int f10_1, .int f10_2, .int f10_3], ob 5 [.long f11_0, .long f11_1, .long f11_2, .long f11_3, .long f11_4, .long f11_5, .long f11_6, .long f11_7, .long f11_8, .long f11_9, .long f11_10, .long f11_11, .long f11_12, .long f11_13, .long f11_14, .long f11_15], ob 1 [.ref 13, .ref 14, .ref 15, .ref 16, .ref 17, .int f12_5, .int f12_6, .int f12_7, .int f12_8, .int f12_9], ia 40 r13, ia 40 r14, ia 40 r15, ia 40 (nIf so), ia 81 (nIf ch), ob 4 [.ref 19, .ref 20, .ref 21, .ref 22, .ref 23, .ref 24, .int (nI nr), .int f18_7, .int f18_8, .int f18_9, .int f18_10, .long f18_11, .long f18_12], ja 4 r19, ja 4 r20, ja 4 r21, ja 4 r22, ja 19 r23, ja 19 r24, ob 7 [.ref 26, .ref 27, .ref 28, .int f25_3, .int wl, .int (nI wa), .int (nI wb), .int wd], ia 40 r26, ia 80 r27, ia 80 r28, ob 0 [.ref 30, .ref 31, .ref 32, .int (nI f), .int (nI n)], ia 10 r30, ia 10 r31, ia 10 r32], [ob 9 [.int m_thrown, .int tr, .int fl, .int m_where, .ref 1001, .ref 1002, .int 40, .ref 1003, .int (nI L), .int (nI nl), .int (nI nt), .int (nI np), .int (nI nr), .ref 1004, .ref 1005, .ref 1006, .ref 1007, .int m_readLinks, .int m_readTracers, .int m_readPoints, .int m_readPairs, .ref 1008, .ref 1009, .ref 1010, .ref 1011, .int m_textLong, .int m_at, .int m_spot, .int m_token, .int m_whole, .int m_readFault, .int m_readPlace, .int m_value, .long m_n, .long m_c, .long m_d, .long m_s, .long m_e, .long m_k, .long m_x, .long m_y, .long m_g, .long m_a, .ref 1012, .ref 1013, .ref 1014, .int m_curveMany, .ref 1015, .int m_cornerMany, .int m_straightAt, .ref 1016, .long m_fitUp, .long m_fitDown, .long m_worstUp, .long m_worstDown, .ref 1017, .int wl, .int (nI wa), .int (nI wb), .int wd, .ref 1018, .ref 1019, .int m_lined, .ref 1020, .int (nI n)], ia 64 (ax_tab 0), ia 64 (ax_tab 1), ia 700 q3, ia 16 q4, ia 8 q5, ia 16 q6, ia 16 q7, ia 16 q8, ia 8 q9, ia 16 q10, ia 16 q11, ia 64 q12, ia 64 q13, ia 64 q14, ia 64 q15, ia 3 q16, ja 12 q17, ia 128 q18, ia 128 q19, ia 30 q20])) → C w
set_option maxRecDepth 100000 in
theorem inv_mk {tr fl pl wl wd f1_3 f1_4 f10_0 f10_1 f10_2 f10_3 f12_5 f12_6 f12_7 f12_8 f12_9 f18_7 f18_8 f18_9 f18_10 f25_3 m_thrown m_where m_readLinks m_readTracers m_readPoints m_readPairs m_textLong m_at m_spot m_token m_whole m_readFault m_readPlace m_value m_curveMany m_cornerMany m_straightAt m_lined : Int32} {f11_0 f11_1 f11_2 f11_3 f11_4 f11_5 f11_6 f11_7 f11_8 f11_9 f11_10 f11_11 f11_12 f11_13 f11_14 f11_15 f18_11 f18_12 m_n m_c m_d m_s m_e m_k m_x m_y m_g m_a m_fitUp m_fitDown m_worstUp m_worstDown : Int64} {r2 r3 r5 r6 r8 r9 r13 r14 r15 r26 r27 r28 r30 r31 r32 q3 q4 q5 q6 q7 q8 q9 q10 q11 q12 q13 q14 q15 q16 q18 q19 q20 : Nat → Int32} {r19 r20 r21 r22 r23 r24 q17 : Nat → Int64} {L nl nt np nr wa wb f n : Nat} {so ch : Nat → Nat} (hW : (tr = 4 → m_where = pl)) (hT : TpR L r2 q3) (hD : DkR nl nt np nr r5 r6 q4 q5 q6 q7) (hP : PrR q7 nr r19 r20 r21 r22 f18_11 f18_7 f18_8 f18_9 f18_10 f18_12) (hK : WkR nl wa wb wl r5 r26) (hA : AcR nl f n r30 r31 r32 q20) : INV ([ob 8 [.int tr, .ref 1, .ref 4, .ref 7, .ref 10, .ref 11, .ref 12, .ref 18, .ref 25, .ref 29], ob 6 [.ref 2, .ref 3, .int (nI L), .int f1_3, .int f1_4, .int fl, .int pl], ba 700 r2, ia 4 r3, ob 2 [.ref 5, .ref 6], ia 56 r5, ia 4 r6, ob 2 [.ref 8, .ref 9], ia 56 r8, ia 4 r9, ob 3 [.int f10_0, .int f10_1, .int f10_2, .int f10_3], ob 5 [.long f11_0, .long f11_1, .long f11_2, .long f11_3, .long f11_4, .long f11_5, .long f11_6, .long f11_7, .long f11_8, .long f11_9, .long f11_10, .long f11_11, .long f11_12, .long f11_13, .long f11_14, .long f11_15], ob 1 [.ref 13, .ref 14, .ref 15, .ref 16, .ref 17, .int f12_5, .int f12_6, .int f12_7, .int f12_8, .int f12_9], ia 40 r13, ia 40 r14, ia 40 r15, ia 40 (nIf so), ia 81 (nIf ch), ob 4 [.ref 19, .ref 20, .ref 21, .ref 22, .ref 23, .ref 24, .int (nI nr), .int f18_7, .int f18_8, .int f18_9, .int f18_10, .long f18_11, .long f18_12], ja 4 r19, ja 4 r20, ja 4 r21, ja 4 r22, ja 19 r23, ja 19 r24, ob 7 [.ref 26, .ref 27, .ref 28, .int f25_3, .int wl, .int (nI wa), .int (nI wb), .int wd], ia 40 r26, ia 80 r27, ia 80 r28, ob 0 [.ref 30, .ref 31, .ref 32, .int (nI f), .int (nI n)], ia 10 r30, ia 10 r31, ia 10 r32], [ob 9 [.int m_thrown, .int tr, .int fl, .int m_where, .ref 1001, .ref 1002, .int 40, .ref 1003, .int (nI L), .int (nI nl), .int (nI nt), .int (nI np), .int (nI nr), .ref 1004, .ref 1005, .ref 1006, .ref 1007, .int m_readLinks, .int m_readTracers, .int m_readPoints, .int m_readPairs, .ref 1008, .ref 1009, .ref 1010, .ref 1011, .int m_textLong, .int m_at, .int m_spot, .int m_token, .int m_whole, .int m_readFault, .int m_readPlace, .int m_value, .long m_n, .long m_c, .long m_d, .long m_s, .long m_e, .long m_k, .long m_x, .long m_y, .long m_g, .long m_a, .ref 1012, .ref 1013, .ref 1014, .int m_curveMany, .ref 1015, .int m_cornerMany, .int m_straightAt, .ref 1016, .long m_fitUp, .long m_fitDown, .long m_worstUp, .long m_worstDown, .ref 1017, .int wl, .int (nI wa), .int (nI wb), .int wd, .ref 1018, .ref 1019, .int m_lined, .ref 1020, .int (nI n)], ia 64 (ax_tab 0), ia 64 (ax_tab 1), ia 700 q3, ia 16 q4, ia 8 q5, ia 16 q6, ia 16 q7, ia 16 q8, ia 8 q9, ia 16 q10, ia 16 q11, ia 64 q12, ia 64 q13, ia 64 q14, ia 64 q15, ia 3 q16, ja 12 q17, ia 128 q18, ia 128 q19, ia 30 q20]) := fun _ k => k tr fl pl wl wd f1_3 f1_4 f10_0 f10_1 f10_2 f10_3 f12_5 f12_6 f12_7 f12_8 f12_9 f18_7 f18_8 f18_9 f18_10 f25_3 m_thrown m_where m_readLinks m_readTracers m_readPoints m_readPairs m_textLong m_at m_spot m_token m_whole m_readFault m_readPlace m_value m_curveMany m_cornerMany m_straightAt m_lined f11_0 f11_1 f11_2 f11_3 f11_4 f11_5 f11_6 f11_7 f11_8 f11_9 f11_10 f11_11 f11_12 f11_13 f11_14 f11_15 f18_11 f18_12 m_n m_c m_d m_s m_e m_k m_x m_y m_g m_a m_fitUp m_fitDown m_worstUp m_worstDown r2 r3 r5 r6 r8 r9 r13 r14 r15 r26 r27 r28 r30 r31 r32 q3 q4 q5 q6 q7 q8 q9 q10 q11 q12 q13 q14 q15 q16 q18 q19 q20 r19 r20 r21 r22 r23 r24 q17 L nl nt np nr wa wb f n so ch hW hT hD hP hK hA
set_option maxRecDepth 100000 in
theorem inv_w {w : ax_W} (h : INV w) : w.1.length = 33 ∧ w.2.length = 21 ∧ (∃ fs, ax_get w 0 = some (ob 8 fs)) ∧ ∃ fs, ax_get w 1000 = some (ob 9 fs) := h (fun w => w.1.length = 33 ∧ w.2.length = 21 ∧ (∃ fs, ax_get w 0 = some (ob 8 fs)) ∧ ∃ fs, ax_get w 1000 = some (ob 9 fs)) (fun _ _ _ _ _ _ _ _ _ _ _ _ _ _ _ _ _ _ _ _ _ _ _ _ _ _ _ _ _ _ _ _ _ _ _ _ _ _ _ _ _ _ _ _ _ _ _ _ _ _ _ _ _ _ _ _ _ _ _ _ _ _ _ _ _ _ _ _ _ _ _ _ _ _ _ _ _ _ _ _ _ _ _ _ _ _ _ _ _ _ _ _ _ _ _ _ _ _ _ _ _ _ _ _ _ _ _ _ _ _ _ _ _ _ _ _ _ _ _ _ _ _ _ _ _ _ _ => ⟨rfl, rfl, ⟨_, rfl⟩, ⟨_, rfl⟩⟩)
/-- a call on both sides: the same answer, and the invariant behind it -/
def PrI (Yx Ym : ax_M) (as : List Value) (w : ax_W) : Prop := ∃ Q1, Ct Yx (.ref 0 :: as) w Q1 ∧ ∀ r w', Q1 r w' → w'.1.length = 33 ∧ w'.2.length = 21 ∧ (∃ fs, ax_get w' 1000 = some (ob 9 fs)) ∧ ∃ Q2, Ct Ym (.ref 1000 :: as) w' Q2 ∧ ∀ r2 w2, Q2 r2 w2 → r2 = r ∧ (∃ v : Int32, r = some (.int v)) ∧ INV w2
def PrL (Yx Ym : ax_M) (as : List Value) (w : ax_W) : Prop := ∃ Q1, Ct Yx (.ref 0 :: as) w Q1 ∧ ∀ r w', Q1 r w' → w'.1.length = 33 ∧ w'.2.length = 21 ∧ (∃ fs, ax_get w' 1000 = some (ob 9 fs)) ∧ ∃ Q2, Ct Ym (.ref 1000 :: as) w' Q2 ∧ ∀ r2 w2, Q2 r2 w2 → r2 = r ∧ (∃ v : Int64, r = some (.long v)) ∧ INV w2
