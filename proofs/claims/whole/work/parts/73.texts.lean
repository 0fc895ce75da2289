/-! TEXTS -/
section TEXTS
variable {Y Y1 : ax_M} {Q Q1 : Option Value → ax_W → Prop} {kn : Nat × Nat} {pc : Nat} {la la' : List (Nat × Value)} {st rest As : List Value} {w w1 : ax_W} {i idx n ci b : Nat} {fs : List Value}
theorem ab_cs (d : decode Y.2.1 pc = .ok (.getstatic idx, 3)) (hw : Cond.fieldLink Y.1.cls idx "java/lang/String" "COMPACT_STRINGS" "Z" ∈ TB) (kk : Ab Y Q kn (pc + 3) la (.int 1 :: rest) w) : Ab Y Q kn pc la rest w := by
  intro p l e R s m args below meth c D ca ad A Qf H locs ls hC hP hl hE
  exact va_gets hC.1 hC.2.1 hC.2.2.2.2.2.2.2.2.2.2.2.1.2.2.2.1 hP.2.2 hC.2.2.2.2.1 (hC.2.2.2.2.2.1 _ hw) (fun _ h => h) d (kk p l e R s m args below meth c D ca ad A Qf H locs ls hC hP hl hE)
theorem ab_fmt (d : decode Y.2.1 pc = .ok (.getstatic idx, 3)) (hw : Cond.fieldLink Y.1.cls idx "jdk/internal/util/Preconditions" "SIOOBE_FORMATTER" "Ljava/util/function/BiFunction;" ∈ TB) (k1 : Ab Y Q kn (pc + 3) la (.null :: rest) w) (k2 : Ab Y Q kn (pc + 3) la (.ref 6000 :: rest) w) : Ab Y Q kn pc la rest w := by
  intro p l e R s m args below meth c D ca ad A Qf H locs ls hC hP hl hE
  rcases hC.2.2.2.2.2.2.2.2.2.2.2.1.2.2.2.2.1 with z | z
  · exact va_gets hC.1 hC.2.1 z hP.2.2 hC.2.2.2.2.1 (hC.2.2.2.2.2.1 _ hw) (fun _ h => h) d (k1 p l e R s m args below meth c D ca ad A Qf H locs ls hC hP hl hE)
  · exact va_gets hC.1 hC.2.1 z hP.2.2 hC.2.2.2.2.1 (hC.2.2.2.2.2.1 _ hw) (fun _ h => h) d (k2 p l e R s m args below meth c D ca ad A Qf H locs ls hC hP hl hE)
theorem ab_sval {j : Nat} (d : decode Y.2.1 pc = .ok (.getfield idx, 3)) (hw : Cond.fieldLink Y.1.cls idx "java/lang/String" "value" "[B" ∈ TB) (hj : j < 9) (kk : Ab Y Q kn (pc + 3) la (.ref (4000 + j) :: rest) w) : Ab Y Q kn pc la (.ref (3000 + j) :: rest) w := by
  intro p l e R s m args below meth c D ca ad A Qf H locs ls hC hP hl hE
  exact vk_getf hC.1 hC.2.1 (hC.2.2.2.2.2.2.2.2.2.2.2.1.2.1.1 j hj).2.2.1 hP.2.2 hC.2.2.2.2.1 (hC.2.2.2.2.2.1 _ hw) (fun _ h => h) d (kk p l e R s m args below meth c D ca ad A Qf H locs ls hC hP hl hE)
theorem ab_scod {j : Nat} (d : decode Y.2.1 pc = .ok (.getfield idx, 3)) (hw : Cond.fieldLink Y.1.cls idx "java/lang/String" "coder" "B" ∈ TB) (hj : j < 9) (kk : Ab Y Q kn (pc + 3) la (.int 0 :: rest) w) : Ab Y Q kn pc la (.ref (3000 + j) :: rest) w := by
  intro p l e R s m args below meth c D ca ad A Qf H locs ls hC hP hl hE
  exact vk_getf hC.1 hC.2.1 (hC.2.2.2.2.2.2.2.2.2.2.2.1.2.1.1 j hj).2.1 hP.2.2 hC.2.2.2.2.1 (hC.2.2.2.2.2.1 _ hw) (fun _ h => h) d (kk p l e R s m args below meth c D ca ad A Qf H locs ls hC hP hl hE)
theorem ab_sblen {j : Nat} {v : Int32} (d : decode Y.2.1 pc = .ok (.arraylength, 1)) (hj : j < 9) (hv : Int32.ofNat (ax_sl.getD j 0) = v) (kk : Ab Y Q kn (pc + 1) la (.int v :: rest) w) : Ab Y Q kn pc la (.ref (4000 + j) :: rest) w := by
  intro p l e R s m args below meth c D ca ad A Qf H locs ls hC hP hl hE
  exact va_tlen hC.1 hC.2.1 (hC.2.2.2.2.2.2.2.2.2.2.2.1.2.1.1 j hj).2.2.2 hP.2.2 hv d (kk p l e R s m args below meth c D ca ad A Qf H locs ls hC hP hl hE)
theorem ab_sbld {j t : Nat} {x v : Int32} (d : decode Y.2.1 pc = .ok (.baload, 1)) (hj : j < 9) (hx : ax_ix x (ax_sl.getD j 0) t) (hv : (ax_sb.getD j []).getD t 0 = v) (kk : Ab Y Q kn (pc + 1) la (.int v :: rest) w) : Ab Y Q kn pc la (.int x :: .ref (4000 + j) :: rest) w := by
  intro p l e R s m args below meth c D ca ad A Qf H locs ls hC hP hl hE
  exact va_tb hC.1 hC.2.1 (hC.2.2.2.2.2.2.2.2.2.2.2.1.2.1.1 j hj).2.2.2 hP.2.2 hx.1 (v := .int v) (by rw [hx.2, hv]) d (kk p l e R s m args below meth c D ca ad A Qf H locs ls hC hP hl hE)
/-- what the tables say of String's own -/
def ax_mT (Y : ax_M) (n : Nat) : Prop := Cond.instanceMethod Y.1 ∈ TB ∧ Cond.selects Y.1.cls Y.1 Y.1 ∈ TB ∧ Cond.initialized Y.1.cls ∈ TB ∧ Cond.code Y.1 Y.2.1 Y.2.2.1 Y.2.2.2.1 ∈ TB ∧ (Y.1.cls ≠ "java/lang/invoke/MethodHandle" ∧ Y.1.cls ≠ "java/lang/invoke/VarHandle" ∧ (parseMethodDescriptor Y.1.desc).map (fun d => d.parameters.length) = some n) ∧ Y.1.cls = "java/lang/String"
theorem ab_callT {j : Nat} (d : decode Y.2.1 pc = .ok (.invokevirtual idx, 3)) (hm : ax_mT Y1 n) (hlk : Cond.methodLink Y.1.cls idx Y1.1 ∈ TB) (hr : ax_rm Y Y1) (hk : kn.1 ≤ Y.2.2.2.2.1.cells ∧ kn.2 ≤ Y.2.2.2.2.1.slots) (hst : st = As.reverse ++ .ref (3000 + j) :: rest) (hn : As.length = n) (hcat : (rest.map fun v => v.category).sum ≤ 8) (hj : j < 9) (hct : Ct Y1 (.ref (3000 + j) :: As) w Q1) (kk : ∀ (r : Option Value) (w' : ax_W), Q1 r w' → Ab Y Q kn (pc + 3) la (r.toList ++ rest) w') : Ab Y Q kn pc la st w := by
  intro p l e R s m args below meth c D ca ad A Qf H locs ls hC hP hl hE
  obtain ⟨m1, m2, m3, m4, m5, m6⟩ := hm
  obtain ⟨r1, r2, r3, r4, r5⟩ := hr
  have hRR : R = Y.2.2.2.2.1 := hC.2.2.2.2.2.2.2.2.1
  have hMet := hct l hC.2.2.2.2.2.2.2.2.2.2.2.2.1 D ca ad H.size
  rw [r3, r4, r5] at hMet
  have hrec := vk_recv hC.2.2.2.2.2.2.2.2.2.2.2.1.2.1 hj hP.2.2
  rw [← m6] at hrec
  refine ax_back hC hP hl hE (va_runV (C := Y1.1.cls) (b := ad (3000 + j)) (As := As.map (ax_v ad)) (n := n) ⟨hC.1, hC.2.1, hC.2.2.1, hC.2.2.2.2.1, hC.2.2.2.2.2.1⟩ hMet (cwV n hC.2.2.2.2.2.1 (ax_words (by intro x hx; simp only [List.mem_cons, List.not_mem_nil, or_false] at hx; rcases hx with rfl | rfl | rfl | rfl <;> assumption) m4) rfl r3 r4 ⟨rfl, m5⟩ (by rw [hRR]; exact ⟨r1, r2⟩)) ⟨ax_blind, hrec, ax_pre hC hP (.ref (3000 + j) :: As)⟩ rfl (by rw [List.length_map]; exact hn) hl.1 (by rw [hst]; simp [F0, ax_v]) (by rw [ax_catsum]; exact lv_room hcat) d (by rw [hRR]; exact hk)) kk
end TEXTS
theorem mT_J0_length_8abf5 : ax_mT M_J0_length_8abf5 0 := ⟨tb_of 393 (by decide +kernel) rfl, tb_of 394 (by decide +kernel) rfl, tb_of 13 (by decide +kernel) rfl, tb_of 395 (by decide +kernel) rfl, by decide +kernel, rfl⟩
theorem mT_J0_charAt_5068e : ax_mT M_J0_charAt_5068e 1 := ⟨tb_of 406 (by decide +kernel) rfl, tb_of 407 (by decide +kernel) rfl, tb_of 13 (by decide +kernel) rfl, tb_of 408 (by decide +kernel) rfl, by decide +kernel, rfl⟩
theorem mT_J0_coder_7d493 : ax_mT M_J0_coder_7d493 0 := ⟨tb_of 397 (by decide +kernel) rfl, tb_of 398 (by decide +kernel) rfl, tb_of 13 (by decide +kernel) rfl, tb_of 399 (by decide +kernel) rfl, by decide +kernel, rfl⟩
theorem mT_J0_isLatin1_aae02 : ax_mT M_J0_isLatin1_aae02 0 := ⟨tb_of 410 (by decide +kernel) rfl, tb_of 411 (by decide +kernel) rfl, tb_of 13 (by decide +kernel) rfl, tb_of 412 (by decide +kernel) rfl, by decide +kernel, rfl⟩
theorem c_coder_0 {w : ax_W}  : Ct M_J0_coder_7d493 [.ref 3000] w (fun r w' => r = some (.int 0) ∧ w' = w) := by
  refine ct_ofF ⟨by decide +kernel, rfl⟩ (Nat.le_of_ble_eq_true rfl) ?_
  refine ab_cs dJ0_coder_7d493_0 fs_J0_38 ?_
  refine ab_ifeq 13 dJ0_coder_7d493_3 (by decide) (fun h_1 => absurd h_1 (by decide)) (fun h_1 => ?_)
  refine ab_aload_n dJ0_coder_7d493_6 rfl ?_
  refine ab_scod (j := 0) dJ0_coder_7d493_7 fs_J0_15 (by decide) ?_
  refine ab_goto 14 dJ0_coder_7d493_10 (by decide) ?_
  exact ab_zret dJ0_coder_7d493_14 rfl rfl (by decide) (⟨rfl, rfl⟩)
theorem c_latin_0 {w : ax_W}  : Ct M_J0_isLatin1_aae02 [.ref 3000] w (fun r w' => r = some (.int 1) ∧ w' = w) := by
  refine ct_ofF ⟨by decide +kernel, rfl⟩ (Nat.le_of_ble_eq_true rfl) ?_
  refine ab_cs dJ0_isLatin1_aae02_0 fs_J0_38 ?_
  refine ab_ifeq 17 dJ0_isLatin1_aae02_3 (by decide) (fun h_1 => absurd h_1 (by decide)) (fun h_1 => ?_)
  refine ab_aload_n dJ0_isLatin1_aae02_6 rfl ?_
  refine ab_scod (j := 0) dJ0_isLatin1_aae02_7 fs_J0_15 (by decide) ?_
  refine ab_ifne 17 dJ0_isLatin1_aae02_10 (by decide) (fun h_2 => absurd (by decide) h_2) (fun h_2 => ?_)
  refine ab_iconst (v := 1) dJ0_isLatin1_aae02_13 (by decide) ?_
  refine ab_goto 18 dJ0_isLatin1_aae02_14 (by decide) ?_
  exact ab_zret dJ0_isLatin1_aae02_18 rfl rfl (by decide) (⟨rfl, rfl⟩)
theorem c_slen_0 {w : ax_W}  : Ct M_J0_length_8abf5 [.ref 3000] w (fun r w' => r = some (.int 4) ∧ w' = w) := by
  refine ct_ofF ⟨by decide +kernel, rfl⟩ (Nat.le_of_ble_eq_true rfl) ?_
  refine ab_aload_n dJ0_length_8abf5_0 rfl ?_
  refine ab_sval (j := 0) dJ0_length_8abf5_1 fs_J0_9 (by decide) ?_
  refine ab_sblen (j := 0) (v := 4) dJ0_length_8abf5_4 (by decide) rfl ?_
  refine ab_aload_n dJ0_length_8abf5_5 rfl ?_
  refine ab_callT (j := 0) (As := []) (rest := [.int 4]) dJ0_length_8abf5_6 mT_J0_coder_7d493 ml_J0_335 ⟨by decide, by decide, rfl, rfl, rfl⟩ (by decide) rfl rfl (Nat.le_of_ble_eq_true rfl) (by decide) c_coder_0 ?_
  rintro r w' ⟨rfl, rfl⟩
  refine ab_ishr dJ0_length_8abf5_9 ?_
  refine ab_topi (v := 4) (by decide) ?_
  exact ab_iret dJ0_length_8abf5_10 rfl (by decide) (⟨rfl, rfl⟩)
theorem c_coder_1 {w : ax_W}  : Ct M_J0_coder_7d493 [.ref 3001] w (fun r w' => r = some (.int 0) ∧ w' = w) := by
  refine ct_ofF ⟨by decide +kernel, rfl⟩ (Nat.le_of_ble_eq_true rfl) ?_
  refine ab_cs dJ0_coder_7d493_0 fs_J0_38 ?_
  refine ab_ifeq 13 dJ0_coder_7d493_3 (by decide) (fun h_1 => absurd h_1 (by decide)) (fun h_1 => ?_)
  refine ab_aload_n dJ0_coder_7d493_6 rfl ?_
  refine ab_scod (j := 1) dJ0_coder_7d493_7 fs_J0_15 (by decide) ?_
  refine ab_goto 14 dJ0_coder_7d493_10 (by decide) ?_
  exact ab_zret dJ0_coder_7d493_14 rfl rfl (by decide) (⟨rfl, rfl⟩)
theorem c_latin_1 {w : ax_W}  : Ct M_J0_isLatin1_aae02 [.ref 3001] w (fun r w' => r = some (.int 1) ∧ w' = w) := by
  refine ct_ofF ⟨by decide +kernel, rfl⟩ (Nat.le_of_ble_eq_true rfl) ?_
  refine ab_cs dJ0_isLatin1_aae02_0 fs_J0_38 ?_
  refine ab_ifeq 17 dJ0_isLatin1_aae02_3 (by decide) (fun h_1 => absurd h_1 (by decide)) (fun h_1 => ?_)
  refine ab_aload_n dJ0_isLatin1_aae02_6 rfl ?_
  refine ab_scod (j := 1) dJ0_isLatin1_aae02_7 fs_J0_15 (by decide) ?_
  refine ab_ifne 17 dJ0_isLatin1_aae02_10 (by decide) (fun h_2 => absurd (by decide) h_2) (fun h_2 => ?_)
  refine ab_iconst (v := 1) dJ0_isLatin1_aae02_13 (by decide) ?_
  refine ab_goto 18 dJ0_isLatin1_aae02_14 (by decide) ?_
  exact ab_zret dJ0_isLatin1_aae02_18 rfl rfl (by decide) (⟨rfl, rfl⟩)
theorem c_slen_1 {w : ax_W}  : Ct M_J0_length_8abf5 [.ref 3001] w (fun r w' => r = some (.int 6) ∧ w' = w) := by
  refine ct_ofF ⟨by decide +kernel, rfl⟩ (Nat.le_of_ble_eq_true rfl) ?_
  refine ab_aload_n dJ0_length_8abf5_0 rfl ?_
  refine ab_sval (j := 1) dJ0_length_8abf5_1 fs_J0_9 (by decide) ?_
  refine ab_sblen (j := 1) (v := 6) dJ0_length_8abf5_4 (by decide) rfl ?_
  refine ab_aload_n dJ0_length_8abf5_5 rfl ?_
  refine ab_callT (j := 1) (As := []) (rest := [.int 6]) dJ0_length_8abf5_6 mT_J0_coder_7d493 ml_J0_335 ⟨by decide, by decide, rfl, rfl, rfl⟩ (by decide) rfl rfl (Nat.le_of_ble_eq_true rfl) (by decide) c_coder_1 ?_
  rintro r w' ⟨rfl, rfl⟩
  refine ab_ishr dJ0_length_8abf5_9 ?_
  refine ab_topi (v := 6) (by decide) ?_
  exact ab_iret dJ0_length_8abf5_10 rfl (by decide) (⟨rfl, rfl⟩)
theorem c_coder_2 {w : ax_W}  : Ct M_J0_coder_7d493 [.ref 3002] w (fun r w' => r = some (.int 0) ∧ w' = w) := by
  refine ct_ofF ⟨by decide +kernel, rfl⟩ (Nat.le_of_ble_eq_true rfl) ?_
  refine ab_cs dJ0_coder_7d493_0 fs_J0_38 ?_
  refine ab_ifeq 13 dJ0_coder_7d493_3 (by decide) (fun h_1 => absurd h_1 (by decide)) (fun h_1 => ?_)
  refine ab_aload_n dJ0_coder_7d493_6 rfl ?_
  refine ab_scod (j := 2) dJ0_coder_7d493_7 fs_J0_15 (by decide) ?_
  refine ab_goto 14 dJ0_coder_7d493_10 (by decide) ?_
  exact ab_zret dJ0_coder_7d493_14 rfl rfl (by decide) (⟨rfl, rfl⟩)
theorem c_latin_2 {w : ax_W}  : Ct M_J0_isLatin1_aae02 [.ref 3002] w (fun r w' => r = some (.int 1) ∧ w' = w) := by
  refine ct_ofF ⟨by decide +kernel, rfl⟩ (Nat.le_of_ble_eq_true rfl) ?_
  refine ab_cs dJ0_isLatin1_aae02_0 fs_J0_38 ?_
  refine ab_ifeq 17 dJ0_isLatin1_aae02_3 (by decide) (fun h_1 => absurd h_1 (by decide)) (fun h_1 => ?_)
  refine ab_aload_n dJ0_isLatin1_aae02_6 rfl ?_
  refine ab_scod (j := 2) dJ0_isLatin1_aae02_7 fs_J0_15 (by decide) ?_
  refine ab_ifne 17 dJ0_isLatin1_aae02_10 (by decide) (fun h_2 => absurd (by decide) h_2) (fun h_2 => ?_)
  refine ab_iconst (v := 1) dJ0_isLatin1_aae02_13 (by decide) ?_
  refine ab_goto 18 dJ0_isLatin1_aae02_14 (by decide) ?_
  exact ab_zret dJ0_isLatin1_aae02_18 rfl rfl (by decide) (⟨rfl, rfl⟩)
theorem c_slen_2 {w : ax_W}  : Ct M_J0_length_8abf5 [.ref 3002] w (fun r w' => r = some (.int 5) ∧ w' = w) := by
  refine ct_ofF ⟨by decide +kernel, rfl⟩ (Nat.le_of_ble_eq_true rfl) ?_
  refine ab_aload_n dJ0_length_8abf5_0 rfl ?_
  refine ab_sval (j := 2) dJ0_length_8abf5_1 fs_J0_9 (by decide) ?_
  refine ab_sblen (j := 2) (v := 5) dJ0_length_8abf5_4 (by decide) rfl ?_
  refine ab_aload_n dJ0_length_8abf5_5 rfl ?_
  refine ab_callT (j := 2) (As := []) (rest := [.int 5]) dJ0_length_8abf5_6 mT_J0_coder_7d493 ml_J0_335 ⟨by decide, by decide, rfl, rfl, rfl⟩ (by decide) rfl rfl (Nat.le_of_ble_eq_true rfl) (by decide) c_coder_2 ?_
  rintro r w' ⟨rfl, rfl⟩
  refine ab_ishr dJ0_length_8abf5_9 ?_
  refine ab_topi (v := 5) (by decide) ?_
  exact ab_iret dJ0_length_8abf5_10 rfl (by decide) (⟨rfl, rfl⟩)
theorem c_coder_3 {w : ax_W}  : Ct M_J0_coder_7d493 [.ref 3003] w (fun r w' => r = some (.int 0) ∧ w' = w) := by
  refine ct_ofF ⟨by decide +kernel, rfl⟩ (Nat.le_of_ble_eq_true rfl) ?_
  refine ab_cs dJ0_coder_7d493_0 fs_J0_38 ?_
  refine ab_ifeq 13 dJ0_coder_7d493_3 (by decide) (fun h_1 => absurd h_1 (by decide)) (fun h_1 => ?_)
  refine ab_aload_n dJ0_coder_7d493_6 rfl ?_
  refine ab_scod (j := 3) dJ0_coder_7d493_7 fs_J0_15 (by decide) ?_
  refine ab_goto 14 dJ0_coder_7d493_10 (by decide) ?_
  exact ab_zret dJ0_coder_7d493_14 rfl rfl (by decide) (⟨rfl, rfl⟩)
theorem c_latin_3 {w : ax_W}  : Ct M_J0_isLatin1_aae02 [.ref 3003] w (fun r w' => r = some (.int 1) ∧ w' = w) := by
  refine ct_ofF ⟨by decide +kernel, rfl⟩ (Nat.le_of_ble_eq_true rfl) ?_
  refine ab_cs dJ0_isLatin1_aae02_0 fs_J0_38 ?_
  refine ab_ifeq 17 dJ0_isLatin1_aae02_3 (by decide) (fun h_1 => absurd h_1 (by decide)) (fun h_1 => ?_)
  refine ab_aload_n dJ0_isLatin1_aae02_6 rfl ?_
  refine ab_scod (j := 3) dJ0_isLatin1_aae02_7 fs_J0_15 (by decide) ?_
  refine ab_ifne 17 dJ0_isLatin1_aae02_10 (by decide) (fun h_2 => absurd (by decide) h_2) (fun h_2 => ?_)
  refine ab_iconst (v := 1) dJ0_isLatin1_aae02_13 (by decide) ?_
  refine ab_goto 18 dJ0_isLatin1_aae02_14 (by decide) ?_
  exact ab_zret dJ0_isLatin1_aae02_18 rfl rfl (by decide) (⟨rfl, rfl⟩)
theorem c_slen_3 {w : ax_W}  : Ct M_J0_length_8abf5 [.ref 3003] w (fun r w' => r = some (.int 4) ∧ w' = w) := by
  refine ct_ofF ⟨by decide +kernel, rfl⟩ (Nat.le_of_ble_eq_true rfl) ?_
  refine ab_aload_n dJ0_length_8abf5_0 rfl ?_
  refine ab_sval (j := 3) dJ0_length_8abf5_1 fs_J0_9 (by decide) ?_
  refine ab_sblen (j := 3) (v := 4) dJ0_length_8abf5_4 (by decide) rfl ?_
  refine ab_aload_n dJ0_length_8abf5_5 rfl ?_
  refine ab_callT (j := 3) (As := []) (rest := [.int 4]) dJ0_length_8abf5_6 mT_J0_coder_7d493 ml_J0_335 ⟨by decide, by decide, rfl, rfl, rfl⟩ (by decide) rfl rfl (Nat.le_of_ble_eq_true rfl) (by decide) c_coder_3 ?_
  rintro r w' ⟨rfl, rfl⟩
  refine ab_ishr dJ0_length_8abf5_9 ?_
  refine ab_topi (v := 4) (by decide) ?_
  exact ab_iret dJ0_length_8abf5_10 rfl (by decide) (⟨rfl, rfl⟩)
theorem c_coder_4 {w : ax_W}  : Ct M_J0_coder_7d493 [.ref 3004] w (fun r w' => r = some (.int 0) ∧ w' = w) := by
  refine ct_ofF ⟨by decide +kernel, rfl⟩ (Nat.le_of_ble_eq_true rfl) ?_
  refine ab_cs dJ0_coder_7d493_0 fs_J0_38 ?_
  refine ab_ifeq 13 dJ0_coder_7d493_3 (by decide) (fun h_1 => absurd h_1 (by decide)) (fun h_1 => ?_)
  refine ab_aload_n dJ0_coder_7d493_6 rfl ?_
  refine ab_scod (j := 4) dJ0_coder_7d493_7 fs_J0_15 (by decide) ?_
  refine ab_goto 14 dJ0_coder_7d493_10 (by decide) ?_
  exact ab_zret dJ0_coder_7d493_14 rfl rfl (by decide) (⟨rfl, rfl⟩)
theorem c_latin_4 {w : ax_W}  : Ct M_J0_isLatin1_aae02 [.ref 3004] w (fun r w' => r = some (.int 1) ∧ w' = w) := by
  refine ct_ofF ⟨by decide +kernel, rfl⟩ (Nat.le_of_ble_eq_true rfl) ?_
  refine ab_cs dJ0_isLatin1_aae02_0 fs_J0_38 ?_
  refine ab_ifeq 17 dJ0_isLatin1_aae02_3 (by decide) (fun h_1 => absurd h_1 (by decide)) (fun h_1 => ?_)
  refine ab_aload_n dJ0_isLatin1_aae02_6 rfl ?_
  refine ab_scod (j := 4) dJ0_isLatin1_aae02_7 fs_J0_15 (by decide) ?_
  refine ab_ifne 17 dJ0_isLatin1_aae02_10 (by decide) (fun h_2 => absurd (by decide) h_2) (fun h_2 => ?_)
  refine ab_iconst (v := 1) dJ0_isLatin1_aae02_13 (by decide) ?_
  refine ab_goto 18 dJ0_isLatin1_aae02_14 (by decide) ?_
  exact ab_zret dJ0_isLatin1_aae02_18 rfl rfl (by decide) (⟨rfl, rfl⟩)
theorem c_slen_4 {w : ax_W}  : Ct M_J0_length_8abf5 [.ref 3004] w (fun r w' => r = some (.int 6) ∧ w' = w) := by
  refine ct_ofF ⟨by decide +kernel, rfl⟩ (Nat.le_of_ble_eq_true rfl) ?_
  refine ab_aload_n dJ0_length_8abf5_0 rfl ?_
  refine ab_sval (j := 4) dJ0_length_8abf5_1 fs_J0_9 (by decide) ?_
  refine ab_sblen (j := 4) (v := 6) dJ0_length_8abf5_4 (by decide) rfl ?_
  refine ab_aload_n dJ0_length_8abf5_5 rfl ?_
  refine ab_callT (j := 4) (As := []) (rest := [.int 6]) dJ0_length_8abf5_6 mT_J0_coder_7d493 ml_J0_335 ⟨by decide, by decide, rfl, rfl, rfl⟩ (by decide) rfl rfl (Nat.le_of_ble_eq_true rfl) (by decide) c_coder_4 ?_
  rintro r w' ⟨rfl, rfl⟩
  refine ab_ishr dJ0_length_8abf5_9 ?_
  refine ab_topi (v := 6) (by decide) ?_
  exact ab_iret dJ0_length_8abf5_10 rfl (by decide) (⟨rfl, rfl⟩)
theorem c_coder_5 {w : ax_W}  : Ct M_J0_coder_7d493 [.ref 3005] w (fun r w' => r = some (.int 0) ∧ w' = w) := by
  refine ct_ofF ⟨by decide +kernel, rfl⟩ (Nat.le_of_ble_eq_true rfl) ?_
  refine ab_cs dJ0_coder_7d493_0 fs_J0_38 ?_
  refine ab_ifeq 13 dJ0_coder_7d493_3 (by decide) (fun h_1 => absurd h_1 (by decide)) (fun h_1 => ?_)
  refine ab_aload_n dJ0_coder_7d493_6 rfl ?_
  refine ab_scod (j := 5) dJ0_coder_7d493_7 fs_J0_15 (by decide) ?_
  refine ab_goto 14 dJ0_coder_7d493_10 (by decide) ?_
  exact ab_zret dJ0_coder_7d493_14 rfl rfl (by decide) (⟨rfl, rfl⟩)
theorem c_latin_5 {w : ax_W}  : Ct M_J0_isLatin1_aae02 [.ref 3005] w (fun r w' => r = some (.int 1) ∧ w' = w) := by
  refine ct_ofF ⟨by decide +kernel, rfl⟩ (Nat.le_of_ble_eq_true rfl) ?_
  refine ab_cs dJ0_isLatin1_aae02_0 fs_J0_38 ?_
  refine ab_ifeq 17 dJ0_isLatin1_aae02_3 (by decide) (fun h_1 => absurd h_1 (by decide)) (fun h_1 => ?_)
  refine ab_aload_n dJ0_isLatin1_aae02_6 rfl ?_
  refine ab_scod (j := 5) dJ0_isLatin1_aae02_7 fs_J0_15 (by decide) ?_
  refine ab_ifne 17 dJ0_isLatin1_aae02_10 (by decide) (fun h_2 => absurd (by decide) h_2) (fun h_2 => ?_)
  refine ab_iconst (v := 1) dJ0_isLatin1_aae02_13 (by decide) ?_
  refine ab_goto 18 dJ0_isLatin1_aae02_14 (by decide) ?_
  exact ab_zret dJ0_isLatin1_aae02_18 rfl rfl (by decide) (⟨rfl, rfl⟩)
theorem c_slen_5 {w : ax_W}  : Ct M_J0_length_8abf5 [.ref 3005] w (fun r w' => r = some (.int 5) ∧ w' = w) := by
  refine ct_ofF ⟨by decide +kernel, rfl⟩ (Nat.le_of_ble_eq_true rfl) ?_
  refine ab_aload_n dJ0_length_8abf5_0 rfl ?_
  refine ab_sval (j := 5) dJ0_length_8abf5_1 fs_J0_9 (by decide) ?_
  refine ab_sblen (j := 5) (v := 5) dJ0_length_8abf5_4 (by decide) rfl ?_
  refine ab_aload_n dJ0_length_8abf5_5 rfl ?_
  refine ab_callT (j := 5) (As := []) (rest := [.int 5]) dJ0_length_8abf5_6 mT_J0_coder_7d493 ml_J0_335 ⟨by decide, by decide, rfl, rfl, rfl⟩ (by decide) rfl rfl (Nat.le_of_ble_eq_true rfl) (by decide) c_coder_5 ?_
  rintro r w' ⟨rfl, rfl⟩
  refine ab_ishr dJ0_length_8abf5_9 ?_
  refine ab_topi (v := 5) (by decide) ?_
  exact ab_iret dJ0_length_8abf5_10 rfl (by decide) (⟨rfl, rfl⟩)
theorem c_coder_6 {w : ax_W}  : Ct M_J0_coder_7d493 [.ref 3006] w (fun r w' => r = some (.int 0) ∧ w' = w) := by
  refine ct_ofF ⟨by decide +kernel, rfl⟩ (Nat.le_of_ble_eq_true rfl) ?_
  refine ab_cs dJ0_coder_7d493_0 fs_J0_38 ?_
  refine ab_ifeq 13 dJ0_coder_7d493_3 (by decide) (fun h_1 => absurd h_1 (by decide)) (fun h_1 => ?_)
  refine ab_aload_n dJ0_coder_7d493_6 rfl ?_
  refine ab_scod (j := 6) dJ0_coder_7d493_7 fs_J0_15 (by decide) ?_
  refine ab_goto 14 dJ0_coder_7d493_10 (by decide) ?_
  exact ab_zret dJ0_coder_7d493_14 rfl rfl (by decide) (⟨rfl, rfl⟩)
theorem c_latin_6 {w : ax_W}  : Ct M_J0_isLatin1_aae02 [.ref 3006] w (fun r w' => r = some (.int 1) ∧ w' = w) := by
  refine ct_ofF ⟨by decide +kernel, rfl⟩ (Nat.le_of_ble_eq_true rfl) ?_
  refine ab_cs dJ0_isLatin1_aae02_0 fs_J0_38 ?_
  refine ab_ifeq 17 dJ0_isLatin1_aae02_3 (by decide) (fun h_1 => absurd h_1 (by decide)) (fun h_1 => ?_)
  refine ab_aload_n dJ0_isLatin1_aae02_6 rfl ?_
  refine ab_scod (j := 6) dJ0_isLatin1_aae02_7 fs_J0_15 (by decide) ?_
  refine ab_ifne 17 dJ0_isLatin1_aae02_10 (by decide) (fun h_2 => absurd (by decide) h_2) (fun h_2 => ?_)
  refine ab_iconst (v := 1) dJ0_isLatin1_aae02_13 (by decide) ?_
  refine ab_goto 18 dJ0_isLatin1_aae02_14 (by decide) ?_
  exact ab_zret dJ0_isLatin1_aae02_18 rfl rfl (by decide) (⟨rfl, rfl⟩)
theorem c_slen_6 {w : ax_W}  : Ct M_J0_length_8abf5 [.ref 3006] w (fun r w' => r = some (.int 3) ∧ w' = w) := by
  refine ct_ofF ⟨by decide +kernel, rfl⟩ (Nat.le_of_ble_eq_true rfl) ?_
  refine ab_aload_n dJ0_length_8abf5_0 rfl ?_
  refine ab_sval (j := 6) dJ0_length_8abf5_1 fs_J0_9 (by decide) ?_
  refine ab_sblen (j := 6) (v := 3) dJ0_length_8abf5_4 (by decide) rfl ?_
  refine ab_aload_n dJ0_length_8abf5_5 rfl ?_
  refine ab_callT (j := 6) (As := []) (rest := [.int 3]) dJ0_length_8abf5_6 mT_J0_coder_7d493 ml_J0_335 ⟨by decide, by decide, rfl, rfl, rfl⟩ (by decide) rfl rfl (Nat.le_of_ble_eq_true rfl) (by decide) c_coder_6 ?_
  rintro r w' ⟨rfl, rfl⟩
  refine ab_ishr dJ0_length_8abf5_9 ?_
  refine ab_topi (v := 3) (by decide) ?_
  exact ab_iret dJ0_length_8abf5_10 rfl (by decide) (⟨rfl, rfl⟩)
theorem c_coder_7 {w : ax_W}  : Ct M_J0_coder_7d493 [.ref 3007] w (fun r w' => r = some (.int 0) ∧ w' = w) := by
  refine ct_ofF ⟨by decide +kernel, rfl⟩ (Nat.le_of_ble_eq_true rfl) ?_
  refine ab_cs dJ0_coder_7d493_0 fs_J0_38 ?_
  refine ab_ifeq 13 dJ0_coder_7d493_3 (by decide) (fun h_1 => absurd h_1 (by decide)) (fun h_1 => ?_)
  refine ab_aload_n dJ0_coder_7d493_6 rfl ?_
  refine ab_scod (j := 7) dJ0_coder_7d493_7 fs_J0_15 (by decide) ?_
  refine ab_goto 14 dJ0_coder_7d493_10 (by decide) ?_
  exact ab_zret dJ0_coder_7d493_14 rfl rfl (by decide) (⟨rfl, rfl⟩)
theorem c_latin_7 {w : ax_W}  : Ct M_J0_isLatin1_aae02 [.ref 3007] w (fun r w' => r = some (.int 1) ∧ w' = w) := by
  refine ct_ofF ⟨by decide +kernel, rfl⟩ (Nat.le_of_ble_eq_true rfl) ?_
  refine ab_cs dJ0_isLatin1_aae02_0 fs_J0_38 ?_
  refine ab_ifeq 17 dJ0_isLatin1_aae02_3 (by decide) (fun h_1 => absurd h_1 (by decide)) (fun h_1 => ?_)
  refine ab_aload_n dJ0_isLatin1_aae02_6 rfl ?_
  refine ab_scod (j := 7) dJ0_isLatin1_aae02_7 fs_J0_15 (by decide) ?_
  refine ab_ifne 17 dJ0_isLatin1_aae02_10 (by decide) (fun h_2 => absurd (by decide) h_2) (fun h_2 => ?_)
  refine ab_iconst (v := 1) dJ0_isLatin1_aae02_13 (by decide) ?_
  refine ab_goto 18 dJ0_isLatin1_aae02_14 (by decide) ?_
  exact ab_zret dJ0_isLatin1_aae02_18 rfl rfl (by decide) (⟨rfl, rfl⟩)
theorem c_slen_7 {w : ax_W}  : Ct M_J0_length_8abf5 [.ref 3007] w (fun r w' => r = some (.int 3) ∧ w' = w) := by
  refine ct_ofF ⟨by decide +kernel, rfl⟩ (Nat.le_of_ble_eq_true rfl) ?_
  refine ab_aload_n dJ0_length_8abf5_0 rfl ?_
  refine ab_sval (j := 7) dJ0_length_8abf5_1 fs_J0_9 (by decide) ?_
  refine ab_sblen (j := 7) (v := 3) dJ0_length_8abf5_4 (by decide) rfl ?_
  refine ab_aload_n dJ0_length_8abf5_5 rfl ?_
  refine ab_callT (j := 7) (As := []) (rest := [.int 3]) dJ0_length_8abf5_6 mT_J0_coder_7d493 ml_J0_335 ⟨by decide, by decide, rfl, rfl, rfl⟩ (by decide) rfl rfl (Nat.le_of_ble_eq_true rfl) (by decide) c_coder_7 ?_
  rintro r w' ⟨rfl, rfl⟩
  refine ab_ishr dJ0_length_8abf5_9 ?_
  refine ab_topi (v := 3) (by decide) ?_
  exact ab_iret dJ0_length_8abf5_10 rfl (by decide) (⟨rfl, rfl⟩)
theorem c_ck3_n {w : ax_W} {a1 a2 : Int32} (h_i : 0 ≤ a1 ∧ a1 < a2) : Ct M_J3_checkIndex_8e157 [.int a1, .int a2, .null] w (fun r w' => r = some (.int a1) ∧ w' = w) := by
  refine ct_ofF ⟨by decide +kernel, rfl⟩ (Nat.le_of_ble_eq_true rfl) ?_
  refine ab_iload_n dJ3_checkIndex_8e157_0 rfl ?_
  refine ab_iflt 9 dJ3_checkIndex_8e157_1 (by decide) (fun h_1 => absurd h_i.1 (Int32.not_le.mpr h_1)) (fun h_1 => ?_)
  refine ab_iload_n dJ3_checkIndex_8e157_4 rfl ?_
  refine ab_iload_n dJ3_checkIndex_8e157_5 rfl ?_
  refine ab_icmplt 16 dJ3_checkIndex_8e157_6 (by decide) (fun h_2 => ?_) (fun h_2 => absurd h_i.2 h_2)
  refine ab_iload_n dJ3_checkIndex_8e157_16 rfl ?_
  exact ab_iret dJ3_checkIndex_8e157_17 rfl (by decide) (⟨rfl, rfl⟩)
theorem c_ck3_r {w : ax_W} {a1 a2 : Int32} (h_i : 0 ≤ a1 ∧ a1 < a2) : Ct M_J3_checkIndex_8e157 [.int a1, .int a2, .ref 6000] w (fun r w' => r = some (.int a1) ∧ w' = w) := by
  refine ct_ofF ⟨by decide +kernel, rfl⟩ (Nat.le_of_ble_eq_true rfl) ?_
  refine ab_iload_n dJ3_checkIndex_8e157_0 rfl ?_
  refine ab_iflt 9 dJ3_checkIndex_8e157_1 (by decide) (fun h_1 => absurd h_i.1 (Int32.not_le.mpr h_1)) (fun h_1 => ?_)
  refine ab_iload_n dJ3_checkIndex_8e157_4 rfl ?_
  refine ab_iload_n dJ3_checkIndex_8e157_5 rfl ?_
  refine ab_icmplt 16 dJ3_checkIndex_8e157_6 (by decide) (fun h_2 => ?_) (fun h_2 => absurd h_i.2 h_2)
  refine ab_iload_n dJ3_checkIndex_8e157_16 rfl ?_
  exact ab_iret dJ3_checkIndex_8e157_17 rfl (by decide) (⟨rfl, rfl⟩)
theorem c_ck0 {w : ax_W} {a1 a2 : Int32} (h_i : 0 ≤ a1 ∧ a1 < a2) : Ct M_J0_checkIndex_df160 [.int a1, .int a2] w (fun r w' => r = none ∧ w' = w) := by
  refine ct_ofF ⟨by decide +kernel, rfl⟩ (Nat.le_of_ble_eq_true rfl) ?_
  refine ab_iload_n dJ0_checkIndex_df160_0 rfl ?_
  refine ab_iload_n dJ0_checkIndex_df160_1 rfl ?_
  refine ab_fmt dJ0_checkIndex_df160_2 fs_J0_1053 ?_ ?_
  · refine ab_callS (As := [.int a1, .int a2, .null]) (rest := []) dJ0_checkIndex_df160_5 ms_J3_checkIndex_8e157 ml_J0_1059 ⟨by decide, by decide, rfl, rfl, rfl⟩ (by decide) rfl rfl (Nat.le_of_ble_eq_true rfl) (c_ck3_n h_i) ?_
    rintro r w' ⟨rfl, rfl⟩
    refine ab_pop rfl dJ0_checkIndex_df160_8 ?_
    exact ab_vret dJ0_checkIndex_df160_9 rfl (by decide) (⟨rfl, rfl⟩)
  · refine ab_callS (As := [.int a1, .int a2, .ref 6000]) (rest := []) dJ0_checkIndex_df160_5 ms_J3_checkIndex_8e157 ml_J0_1059 ⟨by decide, by decide, rfl, rfl, rfl⟩ (by decide) rfl rfl (Nat.le_of_ble_eq_true rfl) (c_ck3_r h_i) ?_
    rintro r w' ⟨rfl, rfl⟩
    refine ab_pop rfl dJ0_checkIndex_df160_8 ?_
    exact ab_vret dJ0_checkIndex_df160_9 rfl (by decide) (⟨rfl, rfl⟩)
theorem c_lat_0_0 {w : ax_W}  : Ct M_J1_charAt_3b067 [.ref 4000, .int 0] w (fun r w' => r = some (.int 98) ∧ w' = w) := by
  refine ct_ofF ⟨by decide +kernel, rfl⟩ (Nat.le_of_ble_eq_true rfl) ?_
  refine ab_iload_n dJ1_charAt_3b067_0 rfl ?_
  refine ab_aload_n dJ1_charAt_3b067_1 rfl ?_
  refine ab_sblen (j := 0) (v := 4) dJ1_charAt_3b067_2 (by decide) rfl ?_
  refine ab_callS (As := [.int 0, .int 4]) (rest := []) dJ1_charAt_3b067_3 ms_J0_checkIndex_df160 ml_J1_9 ⟨by decide, by decide, rfl, rfl, rfl⟩ (by decide) rfl rfl (Nat.le_of_ble_eq_true rfl) (c_ck0 (by decide)) ?_
  rintro r w' ⟨rfl, rfl⟩
  refine ab_aload_n dJ1_charAt_3b067_6 rfl ?_
  refine ab_iload_n dJ1_charAt_3b067_7 rfl ?_
  refine ab_sbld (j := 0) (t := 0) (v := 98) dJ1_charAt_3b067_8 (by decide) (ix_c (by decide)) rfl ?_
  refine ab_sipush (v := 255) dJ1_charAt_3b067_9 (by decide) ?_
  refine ab_iand dJ1_charAt_3b067_12 ?_
  refine ab_topi (v := 98) (by decide) ?_
  refine ab_i2c dJ1_charAt_3b067_13 ?_
  refine ab_topi (v := 98) (by decide) ?_
  exact ab_zret dJ1_charAt_3b067_14 rfl rfl (by decide) (⟨rfl, rfl⟩)
theorem c_chr_0_0 {w : ax_W}  : Ct M_J0_charAt_5068e [.ref 3000, .int 0] w (fun r w' => r = some (.int 98) ∧ w' = w) := by
  refine ct_ofF ⟨by decide +kernel, rfl⟩ (Nat.le_of_ble_eq_true rfl) ?_
  refine ab_aload_n dJ0_charAt_5068e_0 rfl ?_
  refine ab_callT (j := 0) (As := []) (rest := []) dJ0_charAt_5068e_1 mT_J0_isLatin1_aae02 ml_J0_492 ⟨by decide, by decide, rfl, rfl, rfl⟩ (by decide) rfl rfl (Nat.le_of_ble_eq_true rfl) (by decide) c_latin_0 ?_
  rintro r w' ⟨rfl, rfl⟩
  refine ab_ifeq 16 dJ0_charAt_5068e_4 (by decide) (fun h_1 => absurd h_1 (by decide)) (fun h_1 => ?_)
  refine ab_aload_n dJ0_charAt_5068e_7 rfl ?_
  refine ab_sval (j := 0) dJ0_charAt_5068e_8 fs_J0_9 (by decide) ?_
  refine ab_iload_n dJ0_charAt_5068e_11 rfl ?_
  refine ab_callS (As := [.ref 4000, .int 0]) (rest := []) dJ0_charAt_5068e_12 ms_J1_charAt_3b067 ml_J0_495 ⟨by decide, by decide, rfl, rfl, rfl⟩ (by decide) rfl rfl (Nat.le_of_ble_eq_true rfl) c_lat_0_0 ?_
  rintro r w' ⟨rfl, rfl⟩
  exact ab_zret dJ0_charAt_5068e_15 rfl rfl (by decide) (⟨rfl, rfl⟩)
theorem c_lat_0_1 {w : ax_W}  : Ct M_J1_charAt_3b067 [.ref 4000, .int 1] w (fun r w' => r = some (.int 97) ∧ w' = w) := by
  refine ct_ofF ⟨by decide +kernel, rfl⟩ (Nat.le_of_ble_eq_true rfl) ?_
  refine ab_iload_n dJ1_charAt_3b067_0 rfl ?_
  refine ab_aload_n dJ1_charAt_3b067_1 rfl ?_
  refine ab_sblen (j := 0) (v := 4) dJ1_charAt_3b067_2 (by decide) rfl ?_
  refine ab_callS (As := [.int 1, .int 4]) (rest := []) dJ1_charAt_3b067_3 ms_J0_checkIndex_df160 ml_J1_9 ⟨by decide, by decide, rfl, rfl, rfl⟩ (by decide) rfl rfl (Nat.le_of_ble_eq_true rfl) (c_ck0 (by decide)) ?_
  rintro r w' ⟨rfl, rfl⟩
  refine ab_aload_n dJ1_charAt_3b067_6 rfl ?_
  refine ab_iload_n dJ1_charAt_3b067_7 rfl ?_
  refine ab_sbld (j := 0) (t := 1) (v := 97) dJ1_charAt_3b067_8 (by decide) (ix_c (by decide)) rfl ?_
  refine ab_sipush (v := 255) dJ1_charAt_3b067_9 (by decide) ?_
  refine ab_iand dJ1_charAt_3b067_12 ?_
  refine ab_topi (v := 97) (by decide) ?_
  refine ab_i2c dJ1_charAt_3b067_13 ?_
  refine ab_topi (v := 97) (by decide) ?_
  exact ab_zret dJ1_charAt_3b067_14 rfl rfl (by decide) (⟨rfl, rfl⟩)
theorem c_chr_0_1 {w : ax_W}  : Ct M_J0_charAt_5068e [.ref 3000, .int 1] w (fun r w' => r = some (.int 97) ∧ w' = w) := by
  refine ct_ofF ⟨by decide +kernel, rfl⟩ (Nat.le_of_ble_eq_true rfl) ?_
  refine ab_aload_n dJ0_charAt_5068e_0 rfl ?_
  refine ab_callT (j := 0) (As := []) (rest := []) dJ0_charAt_5068e_1 mT_J0_isLatin1_aae02 ml_J0_492 ⟨by decide, by decide, rfl, rfl, rfl⟩ (by decide) rfl rfl (Nat.le_of_ble_eq_true rfl) (by decide) c_latin_0 ?_
  rintro r w' ⟨rfl, rfl⟩
  refine ab_ifeq 16 dJ0_charAt_5068e_4 (by decide) (fun h_1 => absurd h_1 (by decide)) (fun h_1 => ?_)
  refine ab_aload_n dJ0_charAt_5068e_7 rfl ?_
  refine ab_sval (j := 0) dJ0_charAt_5068e_8 fs_J0_9 (by decide) ?_
  refine ab_iload_n dJ0_charAt_5068e_11 rfl ?_
  refine ab_callS (As := [.ref 4000, .int 1]) (rest := []) dJ0_charAt_5068e_12 ms_J1_charAt_3b067 ml_J0_495 ⟨by decide, by decide, rfl, rfl, rfl⟩ (by decide) rfl rfl (Nat.le_of_ble_eq_true rfl) c_lat_0_1 ?_
  rintro r w' ⟨rfl, rfl⟩
  exact ab_zret dJ0_charAt_5068e_15 rfl rfl (by decide) (⟨rfl, rfl⟩)
theorem c_lat_0_2 {w : ax_W}  : Ct M_J1_charAt_3b067 [.ref 4000, .int 2] w (fun r w' => r = some (.int 114) ∧ w' = w) := by
  refine ct_ofF ⟨by decide +kernel, rfl⟩ (Nat.le_of_ble_eq_true rfl) ?_
  refine ab_iload_n dJ1_charAt_3b067_0 rfl ?_
  refine ab_aload_n dJ1_charAt_3b067_1 rfl ?_
  refine ab_sblen (j := 0) (v := 4) dJ1_charAt_3b067_2 (by decide) rfl ?_
  refine ab_callS (As := [.int 2, .int 4]) (rest := []) dJ1_charAt_3b067_3 ms_J0_checkIndex_df160 ml_J1_9 ⟨by decide, by decide, rfl, rfl, rfl⟩ (by decide) rfl rfl (Nat.le_of_ble_eq_true rfl) (c_ck0 (by decide)) ?_
  rintro r w' ⟨rfl, rfl⟩
  refine ab_aload_n dJ1_charAt_3b067_6 rfl ?_
  refine ab_iload_n dJ1_charAt_3b067_7 rfl ?_
  refine ab_sbld (j := 0) (t := 2) (v := 114) dJ1_charAt_3b067_8 (by decide) (ix_c (by decide)) rfl ?_
  refine ab_sipush (v := 255) dJ1_charAt_3b067_9 (by decide) ?_
  refine ab_iand dJ1_charAt_3b067_12 ?_
  refine ab_topi (v := 114) (by decide) ?_
  refine ab_i2c dJ1_charAt_3b067_13 ?_
  refine ab_topi (v := 114) (by decide) ?_
  exact ab_zret dJ1_charAt_3b067_14 rfl rfl (by decide) (⟨rfl, rfl⟩)
theorem c_chr_0_2 {w : ax_W}  : Ct M_J0_charAt_5068e [.ref 3000, .int 2] w (fun r w' => r = some (.int 114) ∧ w' = w) := by
  refine ct_ofF ⟨by decide +kernel, rfl⟩ (Nat.le_of_ble_eq_true rfl) ?_
  refine ab_aload_n dJ0_charAt_5068e_0 rfl ?_
  refine ab_callT (j := 0) (As := []) (rest := []) dJ0_charAt_5068e_1 mT_J0_isLatin1_aae02 ml_J0_492 ⟨by decide, by decide, rfl, rfl, rfl⟩ (by decide) rfl rfl (Nat.le_of_ble_eq_true rfl) (by decide) c_latin_0 ?_
  rintro r w' ⟨rfl, rfl⟩
  refine ab_ifeq 16 dJ0_charAt_5068e_4 (by decide) (fun h_1 => absurd h_1 (by decide)) (fun h_1 => ?_)
  refine ab_aload_n dJ0_charAt_5068e_7 rfl ?_
  refine ab_sval (j := 0) dJ0_charAt_5068e_8 fs_J0_9 (by decide) ?_
  refine ab_iload_n dJ0_charAt_5068e_11 rfl ?_
  refine ab_callS (As := [.ref 4000, .int 2]) (rest := []) dJ0_charAt_5068e_12 ms_J1_charAt_3b067 ml_J0_495 ⟨by decide, by decide, rfl, rfl, rfl⟩ (by decide) rfl rfl (Nat.le_of_ble_eq_true rfl) c_lat_0_2 ?_
  rintro r w' ⟨rfl, rfl⟩
  exact ab_zret dJ0_charAt_5068e_15 rfl rfl (by decide) (⟨rfl, rfl⟩)
theorem c_lat_0_3 {w : ax_W}  : Ct M_J1_charAt_3b067 [.ref 4000, .int 3] w (fun r w' => r = some (.int 115) ∧ w' = w) := by
  refine ct_ofF ⟨by decide +kernel, rfl⟩ (Nat.le_of_ble_eq_true rfl) ?_
  refine ab_iload_n dJ1_charAt_3b067_0 rfl ?_
  refine ab_aload_n dJ1_charAt_3b067_1 rfl ?_
  refine ab_sblen (j := 0) (v := 4) dJ1_charAt_3b067_2 (by decide) rfl ?_
  refine ab_callS (As := [.int 3, .int 4]) (rest := []) dJ1_charAt_3b067_3 ms_J0_checkIndex_df160 ml_J1_9 ⟨by decide, by decide, rfl, rfl, rfl⟩ (by decide) rfl rfl (Nat.le_of_ble_eq_true rfl) (c_ck0 (by decide)) ?_
  rintro r w' ⟨rfl, rfl⟩
  refine ab_aload_n dJ1_charAt_3b067_6 rfl ?_
  refine ab_iload_n dJ1_charAt_3b067_7 rfl ?_
  refine ab_sbld (j := 0) (t := 3) (v := 115) dJ1_charAt_3b067_8 (by decide) (ix_c (by decide)) rfl ?_
  refine ab_sipush (v := 255) dJ1_charAt_3b067_9 (by decide) ?_
  refine ab_iand dJ1_charAt_3b067_12 ?_
  refine ab_topi (v := 115) (by decide) ?_
  refine ab_i2c dJ1_charAt_3b067_13 ?_
  refine ab_topi (v := 115) (by decide) ?_
  exact ab_zret dJ1_charAt_3b067_14 rfl rfl (by decide) (⟨rfl, rfl⟩)
theorem c_chr_0_3 {w : ax_W}  : Ct M_J0_charAt_5068e [.ref 3000, .int 3] w (fun r w' => r = some (.int 115) ∧ w' = w) := by
  refine ct_ofF ⟨by decide +kernel, rfl⟩ (Nat.le_of_ble_eq_true rfl) ?_
  refine ab_aload_n dJ0_charAt_5068e_0 rfl ?_
  refine ab_callT (j := 0) (As := []) (rest := []) dJ0_charAt_5068e_1 mT_J0_isLatin1_aae02 ml_J0_492 ⟨by decide, by decide, rfl, rfl, rfl⟩ (by decide) rfl rfl (Nat.le_of_ble_eq_true rfl) (by decide) c_latin_0 ?_
  rintro r w' ⟨rfl, rfl⟩
  refine ab_ifeq 16 dJ0_charAt_5068e_4 (by decide) (fun h_1 => absurd h_1 (by decide)) (fun h_1 => ?_)
  refine ab_aload_n dJ0_charAt_5068e_7 rfl ?_
  refine ab_sval (j := 0) dJ0_charAt_5068e_8 fs_J0_9 (by decide) ?_
  refine ab_iload_n dJ0_charAt_5068e_11 rfl ?_
  refine ab_callS (As := [.ref 4000, .int 3]) (rest := []) dJ0_charAt_5068e_12 ms_J1_charAt_3b067 ml_J0_495 ⟨by decide, by decide, rfl, rfl, rfl⟩ (by decide) rfl rfl (Nat.le_of_ble_eq_true rfl) c_lat_0_3 ?_
  rintro r w' ⟨rfl, rfl⟩
  exact ab_zret dJ0_charAt_5068e_15 rfl rfl (by decide) (⟨rfl, rfl⟩)
theorem c_lat_1_0 {w : ax_W}  : Ct M_J1_charAt_3b067 [.ref 4001, .int 0] w (fun r w' => r = some (.int 116) ∧ w' = w) := by
  refine ct_ofF ⟨by decide +kernel, rfl⟩ (Nat.le_of_ble_eq_true rfl) ?_
  refine ab_iload_n dJ1_charAt_3b067_0 rfl ?_
  refine ab_aload_n dJ1_charAt_3b067_1 rfl ?_
  refine ab_sblen (j := 1) (v := 6) dJ1_charAt_3b067_2 (by decide) rfl ?_
  refine ab_callS (As := [.int 0, .int 6]) (rest := []) dJ1_charAt_3b067_3 ms_J0_checkIndex_df160 ml_J1_9 ⟨by decide, by decide, rfl, rfl, rfl⟩ (by decide) rfl rfl (Nat.le_of_ble_eq_true rfl) (c_ck0 (by decide)) ?_
  rintro r w' ⟨rfl, rfl⟩
  refine ab_aload_n dJ1_charAt_3b067_6 rfl ?_
  refine ab_iload_n dJ1_charAt_3b067_7 rfl ?_
  refine ab_sbld (j := 1) (t := 0) (v := 116) dJ1_charAt_3b067_8 (by decide) (ix_c (by decide)) rfl ?_
  refine ab_sipush (v := 255) dJ1_charAt_3b067_9 (by decide) ?_
  refine ab_iand dJ1_charAt_3b067_12 ?_
  refine ab_topi (v := 116) (by decide) ?_
  refine ab_i2c dJ1_charAt_3b067_13 ?_
  refine ab_topi (v := 116) (by decide) ?_
  exact ab_zret dJ1_charAt_3b067_14 rfl rfl (by decide) (⟨rfl, rfl⟩)
theorem c_chr_1_0 {w : ax_W}  : Ct M_J0_charAt_5068e [.ref 3001, .int 0] w (fun r w' => r = some (.int 116) ∧ w' = w) := by
  refine ct_ofF ⟨by decide +kernel, rfl⟩ (Nat.le_of_ble_eq_true rfl) ?_
  refine ab_aload_n dJ0_charAt_5068e_0 rfl ?_
  refine ab_callT (j := 1) (As := []) (rest := []) dJ0_charAt_5068e_1 mT_J0_isLatin1_aae02 ml_J0_492 ⟨by decide, by decide, rfl, rfl, rfl⟩ (by decide) rfl rfl (Nat.le_of_ble_eq_true rfl) (by decide) c_latin_1 ?_
  rintro r w' ⟨rfl, rfl⟩
  refine ab_ifeq 16 dJ0_charAt_5068e_4 (by decide) (fun h_1 => absurd h_1 (by decide)) (fun h_1 => ?_)
  refine ab_aload_n dJ0_charAt_5068e_7 rfl ?_
  refine ab_sval (j := 1) dJ0_charAt_5068e_8 fs_J0_9 (by decide) ?_
  refine ab_iload_n dJ0_charAt_5068e_11 rfl ?_
  refine ab_callS (As := [.ref 4001, .int 0]) (rest := []) dJ0_charAt_5068e_12 ms_J1_charAt_3b067 ml_J0_495 ⟨by decide, by decide, rfl, rfl, rfl⟩ (by decide) rfl rfl (Nat.le_of_ble_eq_true rfl) c_lat_1_0 ?_
  rintro r w' ⟨rfl, rfl⟩
  exact ab_zret dJ0_charAt_5068e_15 rfl rfl (by decide) (⟨rfl, rfl⟩)
theorem c_lat_1_1 {w : ax_W}  : Ct M_J1_charAt_3b067 [.ref 4001, .int 1] w (fun r w' => r = some (.int 114) ∧ w' = w) := by
  refine ct_ofF ⟨by decide +kernel, rfl⟩ (Nat.le_of_ble_eq_true rfl) ?_
  refine ab_iload_n dJ1_charAt_3b067_0 rfl ?_
  refine ab_aload_n dJ1_charAt_3b067_1 rfl ?_
  refine ab_sblen (j := 1) (v := 6) dJ1_charAt_3b067_2 (by decide) rfl ?_
  refine ab_callS (As := [.int 1, .int 6]) (rest := []) dJ1_charAt_3b067_3 ms_J0_checkIndex_df160 ml_J1_9 ⟨by decide, by decide, rfl, rfl, rfl⟩ (by decide) rfl rfl (Nat.le_of_ble_eq_true rfl) (c_ck0 (by decide)) ?_
  rintro r w' ⟨rfl, rfl⟩
  refine ab_aload_n dJ1_charAt_3b067_6 rfl ?_
  refine ab_iload_n dJ1_charAt_3b067_7 rfl ?_
  refine ab_sbld (j := 1) (t := 1) (v := 114) dJ1_charAt_3b067_8 (by decide) (ix_c (by decide)) rfl ?_
  refine ab_sipush (v := 255) dJ1_charAt_3b067_9 (by decide) ?_
  refine ab_iand dJ1_charAt_3b067_12 ?_
  refine ab_topi (v := 114) (by decide) ?_
  refine ab_i2c dJ1_charAt_3b067_13 ?_
  refine ab_topi (v := 114) (by decide) ?_
  exact ab_zret dJ1_charAt_3b067_14 rfl rfl (by decide) (⟨rfl, rfl⟩)
theorem c_chr_1_1 {w : ax_W}  : Ct M_J0_charAt_5068e [.ref 3001, .int 1] w (fun r w' => r = some (.int 114) ∧ w' = w) := by
  refine ct_ofF ⟨by decide +kernel, rfl⟩ (Nat.le_of_ble_eq_true rfl) ?_
  refine ab_aload_n dJ0_charAt_5068e_0 rfl ?_
  refine ab_callT (j := 1) (As := []) (rest := []) dJ0_charAt_5068e_1 mT_J0_isLatin1_aae02 ml_J0_492 ⟨by decide, by decide, rfl, rfl, rfl⟩ (by decide) rfl rfl (Nat.le_of_ble_eq_true rfl) (by decide) c_latin_1 ?_
  rintro r w' ⟨rfl, rfl⟩
  refine ab_ifeq 16 dJ0_charAt_5068e_4 (by decide) (fun h_1 => absurd h_1 (by decide)) (fun h_1 => ?_)
  refine ab_aload_n dJ0_charAt_5068e_7 rfl ?_
  refine ab_sval (j := 1) dJ0_charAt_5068e_8 fs_J0_9 (by decide) ?_
  refine ab_iload_n dJ0_charAt_5068e_11 rfl ?_
  refine ab_callS (As := [.ref 4001, .int 1]) (rest := []) dJ0_charAt_5068e_12 ms_J1_charAt_3b067 ml_J0_495 ⟨by decide, by decide, rfl, rfl, rfl⟩ (by decide) rfl rfl (Nat.le_of_ble_eq_true rfl) c_lat_1_1 ?_
  rintro r w' ⟨rfl, rfl⟩
  exact ab_zret dJ0_charAt_5068e_15 rfl rfl (by decide) (⟨rfl, rfl⟩)
theorem c_lat_1_2 {w : ax_W}  : Ct M_J1_charAt_3b067 [.ref 4001, .int 2] w (fun r w' => r = some (.int 97) ∧ w' = w) := by
  refine ct_ofF ⟨by decide +kernel, rfl⟩ (Nat.le_of_ble_eq_true rfl) ?_
  refine ab_iload_n dJ1_charAt_3b067_0 rfl ?_
  refine ab_aload_n dJ1_charAt_3b067_1 rfl ?_
  refine ab_sblen (j := 1) (v := 6) dJ1_charAt_3b067_2 (by decide) rfl ?_
  refine ab_callS (As := [.int 2, .int 6]) (rest := []) dJ1_charAt_3b067_3 ms_J0_checkIndex_df160 ml_J1_9 ⟨by decide, by decide, rfl, rfl, rfl⟩ (by decide) rfl rfl (Nat.le_of_ble_eq_true rfl) (c_ck0 (by decide)) ?_
  rintro r w' ⟨rfl, rfl⟩
  refine ab_aload_n dJ1_charAt_3b067_6 rfl ?_
  refine ab_iload_n dJ1_charAt_3b067_7 rfl ?_
  refine ab_sbld (j := 1) (t := 2) (v := 97) dJ1_charAt_3b067_8 (by decide) (ix_c (by decide)) rfl ?_
  refine ab_sipush (v := 255) dJ1_charAt_3b067_9 (by decide) ?_
  refine ab_iand dJ1_charAt_3b067_12 ?_
  refine ab_topi (v := 97) (by decide) ?_
  refine ab_i2c dJ1_charAt_3b067_13 ?_
  refine ab_topi (v := 97) (by decide) ?_
  exact ab_zret dJ1_charAt_3b067_14 rfl rfl (by decide) (⟨rfl, rfl⟩)
theorem c_chr_1_2 {w : ax_W}  : Ct M_J0_charAt_5068e [.ref 3001, .int 2] w (fun r w' => r = some (.int 97) ∧ w' = w) := by
  refine ct_ofF ⟨by decide +kernel, rfl⟩ (Nat.le_of_ble_eq_true rfl) ?_
  refine ab_aload_n dJ0_charAt_5068e_0 rfl ?_
  refine ab_callT (j := 1) (As := []) (rest := []) dJ0_charAt_5068e_1 mT_J0_isLatin1_aae02 ml_J0_492 ⟨by decide, by decide, rfl, rfl, rfl⟩ (by decide) rfl rfl (Nat.le_of_ble_eq_true rfl) (by decide) c_latin_1 ?_
  rintro r w' ⟨rfl, rfl⟩
  refine ab_ifeq 16 dJ0_charAt_5068e_4 (by decide) (fun h_1 => absurd h_1 (by decide)) (fun h_1 => ?_)
  refine ab_aload_n dJ0_charAt_5068e_7 rfl ?_
  refine ab_sval (j := 1) dJ0_charAt_5068e_8 fs_J0_9 (by decide) ?_
  refine ab_iload_n dJ0_charAt_5068e_11 rfl ?_
  refine ab_callS (As := [.ref 4001, .int 2]) (rest := []) dJ0_charAt_5068e_12 ms_J1_charAt_3b067 ml_J0_495 ⟨by decide, by decide, rfl, rfl, rfl⟩ (by decide) rfl rfl (Nat.le_of_ble_eq_true rfl) c_lat_1_2 ?_
  rintro r w' ⟨rfl, rfl⟩
  exact ab_zret dJ0_charAt_5068e_15 rfl rfl (by decide) (⟨rfl, rfl⟩)
theorem c_lat_1_3 {w : ax_W}  : Ct M_J1_charAt_3b067 [.ref 4001, .int 3] w (fun r w' => r = some (.int 99) ∧ w' = w) := by
  refine ct_ofF ⟨by decide +kernel, rfl⟩ (Nat.le_of_ble_eq_true rfl) ?_
  refine ab_iload_n dJ1_charAt_3b067_0 rfl ?_
  refine ab_aload_n dJ1_charAt_3b067_1 rfl ?_
  refine ab_sblen (j := 1) (v := 6) dJ1_charAt_3b067_2 (by decide) rfl ?_
  refine ab_callS (As := [.int 3, .int 6]) (rest := []) dJ1_charAt_3b067_3 ms_J0_checkIndex_df160 ml_J1_9 ⟨by decide, by decide, rfl, rfl, rfl⟩ (by decide) rfl rfl (Nat.le_of_ble_eq_true rfl) (c_ck0 (by decide)) ?_
  rintro r w' ⟨rfl, rfl⟩
  refine ab_aload_n dJ1_charAt_3b067_6 rfl ?_
  refine ab_iload_n dJ1_charAt_3b067_7 rfl ?_
  refine ab_sbld (j := 1) (t := 3) (v := 99) dJ1_charAt_3b067_8 (by decide) (ix_c (by decide)) rfl ?_
  refine ab_sipush (v := 255) dJ1_charAt_3b067_9 (by decide) ?_
  refine ab_iand dJ1_charAt_3b067_12 ?_
  refine ab_topi (v := 99) (by decide) ?_
  refine ab_i2c dJ1_charAt_3b067_13 ?_
  refine ab_topi (v := 99) (by decide) ?_
  exact ab_zret dJ1_charAt_3b067_14 rfl rfl (by decide) (⟨rfl, rfl⟩)
theorem c_chr_1_3 {w : ax_W}  : Ct M_J0_charAt_5068e [.ref 3001, .int 3] w (fun r w' => r = some (.int 99) ∧ w' = w) := by
  refine ct_ofF ⟨by decide +kernel, rfl⟩ (Nat.le_of_ble_eq_true rfl) ?_
  refine ab_aload_n dJ0_charAt_5068e_0 rfl ?_
  refine ab_callT (j := 1) (As := []) (rest := []) dJ0_charAt_5068e_1 mT_J0_isLatin1_aae02 ml_J0_492 ⟨by decide, by decide, rfl, rfl, rfl⟩ (by decide) rfl rfl (Nat.le_of_ble_eq_true rfl) (by decide) c_latin_1 ?_
  rintro r w' ⟨rfl, rfl⟩
  refine ab_ifeq 16 dJ0_charAt_5068e_4 (by decide) (fun h_1 => absurd h_1 (by decide)) (fun h_1 => ?_)
  refine ab_aload_n dJ0_charAt_5068e_7 rfl ?_
  refine ab_sval (j := 1) dJ0_charAt_5068e_8 fs_J0_9 (by decide) ?_
  refine ab_iload_n dJ0_charAt_5068e_11 rfl ?_
  refine ab_callS (As := [.ref 4001, .int 3]) (rest := []) dJ0_charAt_5068e_12 ms_J1_charAt_3b067 ml_J0_495 ⟨by decide, by decide, rfl, rfl, rfl⟩ (by decide) rfl rfl (Nat.le_of_ble_eq_true rfl) c_lat_1_3 ?_
  rintro r w' ⟨rfl, rfl⟩
  exact ab_zret dJ0_charAt_5068e_15 rfl rfl (by decide) (⟨rfl, rfl⟩)
theorem c_lat_1_4 {w : ax_W}  : Ct M_J1_charAt_3b067 [.ref 4001, .int 4] w (fun r w' => r = some (.int 101) ∧ w' = w) := by
  refine ct_ofF ⟨by decide +kernel, rfl⟩ (Nat.le_of_ble_eq_true rfl) ?_
  refine ab_iload_n dJ1_charAt_3b067_0 rfl ?_
  refine ab_aload_n dJ1_charAt_3b067_1 rfl ?_
  refine ab_sblen (j := 1) (v := 6) dJ1_charAt_3b067_2 (by decide) rfl ?_
  refine ab_callS (As := [.int 4, .int 6]) (rest := []) dJ1_charAt_3b067_3 ms_J0_checkIndex_df160 ml_J1_9 ⟨by decide, by decide, rfl, rfl, rfl⟩ (by decide) rfl rfl (Nat.le_of_ble_eq_true rfl) (c_ck0 (by decide)) ?_
  rintro r w' ⟨rfl, rfl⟩
  refine ab_aload_n dJ1_charAt_3b067_6 rfl ?_
  refine ab_iload_n dJ1_charAt_3b067_7 rfl ?_
  refine ab_sbld (j := 1) (t := 4) (v := 101) dJ1_charAt_3b067_8 (by decide) (ix_c (by decide)) rfl ?_
  refine ab_sipush (v := 255) dJ1_charAt_3b067_9 (by decide) ?_
  refine ab_iand dJ1_charAt_3b067_12 ?_
  refine ab_topi (v := 101) (by decide) ?_
  refine ab_i2c dJ1_charAt_3b067_13 ?_
  refine ab_topi (v := 101) (by decide) ?_
  exact ab_zret dJ1_charAt_3b067_14 rfl rfl (by decide) (⟨rfl, rfl⟩)
theorem c_chr_1_4 {w : ax_W}  : Ct M_J0_charAt_5068e [.ref 3001, .int 4] w (fun r w' => r = some (.int 101) ∧ w' = w) := by
  refine ct_ofF ⟨by decide +kernel, rfl⟩ (Nat.le_of_ble_eq_true rfl) ?_
  refine ab_aload_n dJ0_charAt_5068e_0 rfl ?_
  refine ab_callT (j := 1) (As := []) (rest := []) dJ0_charAt_5068e_1 mT_J0_isLatin1_aae02 ml_J0_492 ⟨by decide, by decide, rfl, rfl, rfl⟩ (by decide) rfl rfl (Nat.le_of_ble_eq_true rfl) (by decide) c_latin_1 ?_
  rintro r w' ⟨rfl, rfl⟩
  refine ab_ifeq 16 dJ0_charAt_5068e_4 (by decide) (fun h_1 => absurd h_1 (by decide)) (fun h_1 => ?_)
  refine ab_aload_n dJ0_charAt_5068e_7 rfl ?_
  refine ab_sval (j := 1) dJ0_charAt_5068e_8 fs_J0_9 (by decide) ?_
  refine ab_iload_n dJ0_charAt_5068e_11 rfl ?_
  refine ab_callS (As := [.ref 4001, .int 4]) (rest := []) dJ0_charAt_5068e_12 ms_J1_charAt_3b067 ml_J0_495 ⟨by decide, by decide, rfl, rfl, rfl⟩ (by decide) rfl rfl (Nat.le_of_ble_eq_true rfl) c_lat_1_4 ?_
  rintro r w' ⟨rfl, rfl⟩
  exact ab_zret dJ0_charAt_5068e_15 rfl rfl (by decide) (⟨rfl, rfl⟩)
theorem c_lat_1_5 {w : ax_W}  : Ct M_J1_charAt_3b067 [.ref 4001, .int 5] w (fun r w' => r = some (.int 114) ∧ w' = w) := by
  refine ct_ofF ⟨by decide +kernel, rfl⟩ (Nat.le_of_ble_eq_true rfl) ?_
  refine ab_iload_n dJ1_charAt_3b067_0 rfl ?_
  refine ab_aload_n dJ1_charAt_3b067_1 rfl ?_
  refine ab_sblen (j := 1) (v := 6) dJ1_charAt_3b067_2 (by decide) rfl ?_
  refine ab_callS (As := [.int 5, .int 6]) (rest := []) dJ1_charAt_3b067_3 ms_J0_checkIndex_df160 ml_J1_9 ⟨by decide, by decide, rfl, rfl, rfl⟩ (by decide) rfl rfl (Nat.le_of_ble_eq_true rfl) (c_ck0 (by decide)) ?_
  rintro r w' ⟨rfl, rfl⟩
  refine ab_aload_n dJ1_charAt_3b067_6 rfl ?_
  refine ab_iload_n dJ1_charAt_3b067_7 rfl ?_
  refine ab_sbld (j := 1) (t := 5) (v := 114) dJ1_charAt_3b067_8 (by decide) (ix_c (by decide)) rfl ?_
  refine ab_sipush (v := 255) dJ1_charAt_3b067_9 (by decide) ?_
  refine ab_iand dJ1_charAt_3b067_12 ?_
  refine ab_topi (v := 114) (by decide) ?_
  refine ab_i2c dJ1_charAt_3b067_13 ?_
  refine ab_topi (v := 114) (by decide) ?_
  exact ab_zret dJ1_charAt_3b067_14 rfl rfl (by decide) (⟨rfl, rfl⟩)
theorem c_chr_1_5 {w : ax_W}  : Ct M_J0_charAt_5068e [.ref 3001, .int 5] w (fun r w' => r = some (.int 114) ∧ w' = w) := by
  refine ct_ofF ⟨by decide +kernel, rfl⟩ (Nat.le_of_ble_eq_true rfl) ?_
  refine ab_aload_n dJ0_charAt_5068e_0 rfl ?_
  refine ab_callT (j := 1) (As := []) (rest := []) dJ0_charAt_5068e_1 mT_J0_isLatin1_aae02 ml_J0_492 ⟨by decide, by decide, rfl, rfl, rfl⟩ (by decide) rfl rfl (Nat.le_of_ble_eq_true rfl) (by decide) c_latin_1 ?_
  rintro r w' ⟨rfl, rfl⟩
  refine ab_ifeq 16 dJ0_charAt_5068e_4 (by decide) (fun h_1 => absurd h_1 (by decide)) (fun h_1 => ?_)
  refine ab_aload_n dJ0_charAt_5068e_7 rfl ?_
  refine ab_sval (j := 1) dJ0_charAt_5068e_8 fs_J0_9 (by decide) ?_
  refine ab_iload_n dJ0_charAt_5068e_11 rfl ?_
  refine ab_callS (As := [.ref 4001, .int 5]) (rest := []) dJ0_charAt_5068e_12 ms_J1_charAt_3b067 ml_J0_495 ⟨by decide, by decide, rfl, rfl, rfl⟩ (by decide) rfl rfl (Nat.le_of_ble_eq_true rfl) c_lat_1_5 ?_
  rintro r w' ⟨rfl, rfl⟩
  exact ab_zret dJ0_charAt_5068e_15 rfl rfl (by decide) (⟨rfl, rfl⟩)
theorem c_lat_2_0 {w : ax_W}  : Ct M_J1_charAt_3b067 [.ref 4002, .int 0] w (fun r w' => r = some (.int 112) ∧ w' = w) := by
  refine ct_ofF ⟨by decide +kernel, rfl⟩ (Nat.le_of_ble_eq_true rfl) ?_
  refine ab_iload_n dJ1_charAt_3b067_0 rfl ?_
  refine ab_aload_n dJ1_charAt_3b067_1 rfl ?_
  refine ab_sblen (j := 2) (v := 5) dJ1_charAt_3b067_2 (by decide) rfl ?_
  refine ab_callS (As := [.int 0, .int 5]) (rest := []) dJ1_charAt_3b067_3 ms_J0_checkIndex_df160 ml_J1_9 ⟨by decide, by decide, rfl, rfl, rfl⟩ (by decide) rfl rfl (Nat.le_of_ble_eq_true rfl) (c_ck0 (by decide)) ?_
  rintro r w' ⟨rfl, rfl⟩
  refine ab_aload_n dJ1_charAt_3b067_6 rfl ?_
  refine ab_iload_n dJ1_charAt_3b067_7 rfl ?_
  refine ab_sbld (j := 2) (t := 0) (v := 112) dJ1_charAt_3b067_8 (by decide) (ix_c (by decide)) rfl ?_
  refine ab_sipush (v := 255) dJ1_charAt_3b067_9 (by decide) ?_
  refine ab_iand dJ1_charAt_3b067_12 ?_
  refine ab_topi (v := 112) (by decide) ?_
  refine ab_i2c dJ1_charAt_3b067_13 ?_
  refine ab_topi (v := 112) (by decide) ?_
  exact ab_zret dJ1_charAt_3b067_14 rfl rfl (by decide) (⟨rfl, rfl⟩)
theorem c_chr_2_0 {w : ax_W}  : Ct M_J0_charAt_5068e [.ref 3002, .int 0] w (fun r w' => r = some (.int 112) ∧ w' = w) := by
  refine ct_ofF ⟨by decide +kernel, rfl⟩ (Nat.le_of_ble_eq_true rfl) ?_
  refine ab_aload_n dJ0_charAt_5068e_0 rfl ?_
  refine ab_callT (j := 2) (As := []) (rest := []) dJ0_charAt_5068e_1 mT_J0_isLatin1_aae02 ml_J0_492 ⟨by decide, by decide, rfl, rfl, rfl⟩ (by decide) rfl rfl (Nat.le_of_ble_eq_true rfl) (by decide) c_latin_2 ?_
  rintro r w' ⟨rfl, rfl⟩
  refine ab_ifeq 16 dJ0_charAt_5068e_4 (by decide) (fun h_1 => absurd h_1 (by decide)) (fun h_1 => ?_)
  refine ab_aload_n dJ0_charAt_5068e_7 rfl ?_
  refine ab_sval (j := 2) dJ0_charAt_5068e_8 fs_J0_9 (by decide) ?_
  refine ab_iload_n dJ0_charAt_5068e_11 rfl ?_
  refine ab_callS (As := [.ref 4002, .int 0]) (rest := []) dJ0_charAt_5068e_12 ms_J1_charAt_3b067 ml_J0_495 ⟨by decide, by decide, rfl, rfl, rfl⟩ (by decide) rfl rfl (Nat.le_of_ble_eq_true rfl) c_lat_2_0 ?_
  rintro r w' ⟨rfl, rfl⟩
  exact ab_zret dJ0_charAt_5068e_15 rfl rfl (by decide) (⟨rfl, rfl⟩)
theorem c_lat_2_1 {w : ax_W}  : Ct M_J1_charAt_3b067 [.ref 4002, .int 1] w (fun r w' => r = some (.int 111) ∧ w' = w) := by
  refine ct_ofF ⟨by decide +kernel, rfl⟩ (Nat.le_of_ble_eq_true rfl) ?_
  refine ab_iload_n dJ1_charAt_3b067_0 rfl ?_
  refine ab_aload_n dJ1_charAt_3b067_1 rfl ?_
  refine ab_sblen (j := 2) (v := 5) dJ1_charAt_3b067_2 (by decide) rfl ?_
  refine ab_callS (As := [.int 1, .int 5]) (rest := []) dJ1_charAt_3b067_3 ms_J0_checkIndex_df160 ml_J1_9 ⟨by decide, by decide, rfl, rfl, rfl⟩ (by decide) rfl rfl (Nat.le_of_ble_eq_true rfl) (c_ck0 (by decide)) ?_
  rintro r w' ⟨rfl, rfl⟩
  refine ab_aload_n dJ1_charAt_3b067_6 rfl ?_
  refine ab_iload_n dJ1_charAt_3b067_7 rfl ?_
  refine ab_sbld (j := 2) (t := 1) (v := 111) dJ1_charAt_3b067_8 (by decide) (ix_c (by decide)) rfl ?_
  refine ab_sipush (v := 255) dJ1_charAt_3b067_9 (by decide) ?_
  refine ab_iand dJ1_charAt_3b067_12 ?_
  refine ab_topi (v := 111) (by decide) ?_
  refine ab_i2c dJ1_charAt_3b067_13 ?_
  refine ab_topi (v := 111) (by decide) ?_
  exact ab_zret dJ1_charAt_3b067_14 rfl rfl (by decide) (⟨rfl, rfl⟩)
theorem c_chr_2_1 {w : ax_W}  : Ct M_J0_charAt_5068e [.ref 3002, .int 1] w (fun r w' => r = some (.int 111) ∧ w' = w) := by
  refine ct_ofF ⟨by decide +kernel, rfl⟩ (Nat.le_of_ble_eq_true rfl) ?_
  refine ab_aload_n dJ0_charAt_5068e_0 rfl ?_
  refine ab_callT (j := 2) (As := []) (rest := []) dJ0_charAt_5068e_1 mT_J0_isLatin1_aae02 ml_J0_492 ⟨by decide, by decide, rfl, rfl, rfl⟩ (by decide) rfl rfl (Nat.le_of_ble_eq_true rfl) (by decide) c_latin_2 ?_
  rintro r w' ⟨rfl, rfl⟩
  refine ab_ifeq 16 dJ0_charAt_5068e_4 (by decide) (fun h_1 => absurd h_1 (by decide)) (fun h_1 => ?_)
  refine ab_aload_n dJ0_charAt_5068e_7 rfl ?_
  refine ab_sval (j := 2) dJ0_charAt_5068e_8 fs_J0_9 (by decide) ?_
  refine ab_iload_n dJ0_charAt_5068e_11 rfl ?_
  refine ab_callS (As := [.ref 4002, .int 1]) (rest := []) dJ0_charAt_5068e_12 ms_J1_charAt_3b067 ml_J0_495 ⟨by decide, by decide, rfl, rfl, rfl⟩ (by decide) rfl rfl (Nat.le_of_ble_eq_true rfl) c_lat_2_1 ?_
  rintro r w' ⟨rfl, rfl⟩
  exact ab_zret dJ0_charAt_5068e_15 rfl rfl (by decide) (⟨rfl, rfl⟩)
theorem c_lat_2_2 {w : ax_W}  : Ct M_J1_charAt_3b067 [.ref 4002, .int 2] w (fun r w' => r = some (.int 105) ∧ w' = w) := by
  refine ct_ofF ⟨by decide +kernel, rfl⟩ (Nat.le_of_ble_eq_true rfl) ?_
  refine ab_iload_n dJ1_charAt_3b067_0 rfl ?_
  refine ab_aload_n dJ1_charAt_3b067_1 rfl ?_
  refine ab_sblen (j := 2) (v := 5) dJ1_charAt_3b067_2 (by decide) rfl ?_
  refine ab_callS (As := [.int 2, .int 5]) (rest := []) dJ1_charAt_3b067_3 ms_J0_checkIndex_df160 ml_J1_9 ⟨by decide, by decide, rfl, rfl, rfl⟩ (by decide) rfl rfl (Nat.le_of_ble_eq_true rfl) (c_ck0 (by decide)) ?_
  rintro r w' ⟨rfl, rfl⟩
  refine ab_aload_n dJ1_charAt_3b067_6 rfl ?_
  refine ab_iload_n dJ1_charAt_3b067_7 rfl ?_
  refine ab_sbld (j := 2) (t := 2) (v := 105) dJ1_charAt_3b067_8 (by decide) (ix_c (by decide)) rfl ?_
  refine ab_sipush (v := 255) dJ1_charAt_3b067_9 (by decide) ?_
  refine ab_iand dJ1_charAt_3b067_12 ?_
  refine ab_topi (v := 105) (by decide) ?_
  refine ab_i2c dJ1_charAt_3b067_13 ?_
  refine ab_topi (v := 105) (by decide) ?_
  exact ab_zret dJ1_charAt_3b067_14 rfl rfl (by decide) (⟨rfl, rfl⟩)
theorem c_chr_2_2 {w : ax_W}  : Ct M_J0_charAt_5068e [.ref 3002, .int 2] w (fun r w' => r = some (.int 105) ∧ w' = w) := by
  refine ct_ofF ⟨by decide +kernel, rfl⟩ (Nat.le_of_ble_eq_true rfl) ?_
  refine ab_aload_n dJ0_charAt_5068e_0 rfl ?_
  refine ab_callT (j := 2) (As := []) (rest := []) dJ0_charAt_5068e_1 mT_J0_isLatin1_aae02 ml_J0_492 ⟨by decide, by decide, rfl, rfl, rfl⟩ (by decide) rfl rfl (Nat.le_of_ble_eq_true rfl) (by decide) c_latin_2 ?_
  rintro r w' ⟨rfl, rfl⟩
  refine ab_ifeq 16 dJ0_charAt_5068e_4 (by decide) (fun h_1 => absurd h_1 (by decide)) (fun h_1 => ?_)
  refine ab_aload_n dJ0_charAt_5068e_7 rfl ?_
  refine ab_sval (j := 2) dJ0_charAt_5068e_8 fs_J0_9 (by decide) ?_
  refine ab_iload_n dJ0_charAt_5068e_11 rfl ?_
  refine ab_callS (As := [.ref 4002, .int 2]) (rest := []) dJ0_charAt_5068e_12 ms_J1_charAt_3b067 ml_J0_495 ⟨by decide, by decide, rfl, rfl, rfl⟩ (by decide) rfl rfl (Nat.le_of_ble_eq_true rfl) c_lat_2_2 ?_
  rintro r w' ⟨rfl, rfl⟩
  exact ab_zret dJ0_charAt_5068e_15 rfl rfl (by decide) (⟨rfl, rfl⟩)
theorem c_lat_2_3 {w : ax_W}  : Ct M_J1_charAt_3b067 [.ref 4002, .int 3] w (fun r w' => r = some (.int 110) ∧ w' = w) := by
  refine ct_ofF ⟨by decide +kernel, rfl⟩ (Nat.le_of_ble_eq_true rfl) ?_
  refine ab_iload_n dJ1_charAt_3b067_0 rfl ?_
  refine ab_aload_n dJ1_charAt_3b067_1 rfl ?_
  refine ab_sblen (j := 2) (v := 5) dJ1_charAt_3b067_2 (by decide) rfl ?_
  refine ab_callS (As := [.int 3, .int 5]) (rest := []) dJ1_charAt_3b067_3 ms_J0_checkIndex_df160 ml_J1_9 ⟨by decide, by decide, rfl, rfl, rfl⟩ (by decide) rfl rfl (Nat.le_of_ble_eq_true rfl) (c_ck0 (by decide)) ?_
  rintro r w' ⟨rfl, rfl⟩
  refine ab_aload_n dJ1_charAt_3b067_6 rfl ?_
  refine ab_iload_n dJ1_charAt_3b067_7 rfl ?_
  refine ab_sbld (j := 2) (t := 3) (v := 110) dJ1_charAt_3b067_8 (by decide) (ix_c (by decide)) rfl ?_
  refine ab_sipush (v := 255) dJ1_charAt_3b067_9 (by decide) ?_
  refine ab_iand dJ1_charAt_3b067_12 ?_
  refine ab_topi (v := 110) (by decide) ?_
  refine ab_i2c dJ1_charAt_3b067_13 ?_
  refine ab_topi (v := 110) (by decide) ?_
  exact ab_zret dJ1_charAt_3b067_14 rfl rfl (by decide) (⟨rfl, rfl⟩)
theorem c_chr_2_3 {w : ax_W}  : Ct M_J0_charAt_5068e [.ref 3002, .int 3] w (fun r w' => r = some (.int 110) ∧ w' = w) := by
  refine ct_ofF ⟨by decide +kernel, rfl⟩ (Nat.le_of_ble_eq_true rfl) ?_
  refine ab_aload_n dJ0_charAt_5068e_0 rfl ?_
  refine ab_callT (j := 2) (As := []) (rest := []) dJ0_charAt_5068e_1 mT_J0_isLatin1_aae02 ml_J0_492 ⟨by decide, by decide, rfl, rfl, rfl⟩ (by decide) rfl rfl (Nat.le_of_ble_eq_true rfl) (by decide) c_latin_2 ?_
  rintro r w' ⟨rfl, rfl⟩
  refine ab_ifeq 16 dJ0_charAt_5068e_4 (by decide) (fun h_1 => absurd h_1 (by decide)) (fun h_1 => ?_)
  refine ab_aload_n dJ0_charAt_5068e_7 rfl ?_
  refine ab_sval (j := 2) dJ0_charAt_5068e_8 fs_J0_9 (by decide) ?_
  refine ab_iload_n dJ0_charAt_5068e_11 rfl ?_
  refine ab_callS (As := [.ref 4002, .int 3]) (rest := []) dJ0_charAt_5068e_12 ms_J1_charAt_3b067 ml_J0_495 ⟨by decide, by decide, rfl, rfl, rfl⟩ (by decide) rfl rfl (Nat.le_of_ble_eq_true rfl) c_lat_2_3 ?_
  rintro r w' ⟨rfl, rfl⟩
  exact ab_zret dJ0_charAt_5068e_15 rfl rfl (by decide) (⟨rfl, rfl⟩)
theorem c_lat_2_4 {w : ax_W}  : Ct M_J1_charAt_3b067 [.ref 4002, .int 4] w (fun r w' => r = some (.int 116) ∧ w' = w) := by
  refine ct_ofF ⟨by decide +kernel, rfl⟩ (Nat.le_of_ble_eq_true rfl) ?_
  refine ab_iload_n dJ1_charAt_3b067_0 rfl ?_
  refine ab_aload_n dJ1_charAt_3b067_1 rfl ?_
  refine ab_sblen (j := 2) (v := 5) dJ1_charAt_3b067_2 (by decide) rfl ?_
  refine ab_callS (As := [.int 4, .int 5]) (rest := []) dJ1_charAt_3b067_3 ms_J0_checkIndex_df160 ml_J1_9 ⟨by decide, by decide, rfl, rfl, rfl⟩ (by decide) rfl rfl (Nat.le_of_ble_eq_true rfl) (c_ck0 (by decide)) ?_
  rintro r w' ⟨rfl, rfl⟩
  refine ab_aload_n dJ1_charAt_3b067_6 rfl ?_
  refine ab_iload_n dJ1_charAt_3b067_7 rfl ?_
  refine ab_sbld (j := 2) (t := 4) (v := 116) dJ1_charAt_3b067_8 (by decide) (ix_c (by decide)) rfl ?_
  refine ab_sipush (v := 255) dJ1_charAt_3b067_9 (by decide) ?_
  refine ab_iand dJ1_charAt_3b067_12 ?_
  refine ab_topi (v := 116) (by decide) ?_
  refine ab_i2c dJ1_charAt_3b067_13 ?_
  refine ab_topi (v := 116) (by decide) ?_
  exact ab_zret dJ1_charAt_3b067_14 rfl rfl (by decide) (⟨rfl, rfl⟩)
theorem c_chr_2_4 {w : ax_W}  : Ct M_J0_charAt_5068e [.ref 3002, .int 4] w (fun r w' => r = some (.int 116) ∧ w' = w) := by
  refine ct_ofF ⟨by decide +kernel, rfl⟩ (Nat.le_of_ble_eq_true rfl) ?_
  refine ab_aload_n dJ0_charAt_5068e_0 rfl ?_
  refine ab_callT (j := 2) (As := []) (rest := []) dJ0_charAt_5068e_1 mT_J0_isLatin1_aae02 ml_J0_492 ⟨by decide, by decide, rfl, rfl, rfl⟩ (by decide) rfl rfl (Nat.le_of_ble_eq_true rfl) (by decide) c_latin_2 ?_
  rintro r w' ⟨rfl, rfl⟩
  refine ab_ifeq 16 dJ0_charAt_5068e_4 (by decide) (fun h_1 => absurd h_1 (by decide)) (fun h_1 => ?_)
  refine ab_aload_n dJ0_charAt_5068e_7 rfl ?_
  refine ab_sval (j := 2) dJ0_charAt_5068e_8 fs_J0_9 (by decide) ?_
  refine ab_iload_n dJ0_charAt_5068e_11 rfl ?_
  refine ab_callS (As := [.ref 4002, .int 4]) (rest := []) dJ0_charAt_5068e_12 ms_J1_charAt_3b067 ml_J0_495 ⟨by decide, by decide, rfl, rfl, rfl⟩ (by decide) rfl rfl (Nat.le_of_ble_eq_true rfl) c_lat_2_4 ?_
  rintro r w' ⟨rfl, rfl⟩
  exact ab_zret dJ0_charAt_5068e_15 rfl rfl (by decide) (⟨rfl, rfl⟩)
theorem c_lat_3_0 {w : ax_W}  : Ct M_J1_charAt_3b067 [.ref 4003, .int 0] w (fun r w' => r = some (.int 112) ∧ w' = w) := by
  refine ct_ofF ⟨by decide +kernel, rfl⟩ (Nat.le_of_ble_eq_true rfl) ?_
  refine ab_iload_n dJ1_charAt_3b067_0 rfl ?_
  refine ab_aload_n dJ1_charAt_3b067_1 rfl ?_
  refine ab_sblen (j := 3) (v := 4) dJ1_charAt_3b067_2 (by decide) rfl ?_
  refine ab_callS (As := [.int 0, .int 4]) (rest := []) dJ1_charAt_3b067_3 ms_J0_checkIndex_df160 ml_J1_9 ⟨by decide, by decide, rfl, rfl, rfl⟩ (by decide) rfl rfl (Nat.le_of_ble_eq_true rfl) (c_ck0 (by decide)) ?_
  rintro r w' ⟨rfl, rfl⟩
  refine ab_aload_n dJ1_charAt_3b067_6 rfl ?_
  refine ab_iload_n dJ1_charAt_3b067_7 rfl ?_
  refine ab_sbld (j := 3) (t := 0) (v := 112) dJ1_charAt_3b067_8 (by decide) (ix_c (by decide)) rfl ?_
  refine ab_sipush (v := 255) dJ1_charAt_3b067_9 (by decide) ?_
  refine ab_iand dJ1_charAt_3b067_12 ?_
  refine ab_topi (v := 112) (by decide) ?_
  refine ab_i2c dJ1_charAt_3b067_13 ?_
  refine ab_topi (v := 112) (by decide) ?_
  exact ab_zret dJ1_charAt_3b067_14 rfl rfl (by decide) (⟨rfl, rfl⟩)
theorem c_chr_3_0 {w : ax_W}  : Ct M_J0_charAt_5068e [.ref 3003, .int 0] w (fun r w' => r = some (.int 112) ∧ w' = w) := by
  refine ct_ofF ⟨by decide +kernel, rfl⟩ (Nat.le_of_ble_eq_true rfl) ?_
  refine ab_aload_n dJ0_charAt_5068e_0 rfl ?_
  refine ab_callT (j := 3) (As := []) (rest := []) dJ0_charAt_5068e_1 mT_J0_isLatin1_aae02 ml_J0_492 ⟨by decide, by decide, rfl, rfl, rfl⟩ (by decide) rfl rfl (Nat.le_of_ble_eq_true rfl) (by decide) c_latin_3 ?_
  rintro r w' ⟨rfl, rfl⟩
  refine ab_ifeq 16 dJ0_charAt_5068e_4 (by decide) (fun h_1 => absurd h_1 (by decide)) (fun h_1 => ?_)
  refine ab_aload_n dJ0_charAt_5068e_7 rfl ?_
  refine ab_sval (j := 3) dJ0_charAt_5068e_8 fs_J0_9 (by decide) ?_
  refine ab_iload_n dJ0_charAt_5068e_11 rfl ?_
  refine ab_callS (As := [.ref 4003, .int 0]) (rest := []) dJ0_charAt_5068e_12 ms_J1_charAt_3b067 ml_J0_495 ⟨by decide, by decide, rfl, rfl, rfl⟩ (by decide) rfl rfl (Nat.le_of_ble_eq_true rfl) c_lat_3_0 ?_
  rintro r w' ⟨rfl, rfl⟩
  exact ab_zret dJ0_charAt_5068e_15 rfl rfl (by decide) (⟨rfl, rfl⟩)
theorem c_lat_3_1 {w : ax_W}  : Ct M_J1_charAt_3b067 [.ref 4003, .int 1] w (fun r w' => r = some (.int 97) ∧ w' = w) := by
  refine ct_ofF ⟨by decide +kernel, rfl⟩ (Nat.le_of_ble_eq_true rfl) ?_
  refine ab_iload_n dJ1_charAt_3b067_0 rfl ?_
  refine ab_aload_n dJ1_charAt_3b067_1 rfl ?_
  refine ab_sblen (j := 3) (v := 4) dJ1_charAt_3b067_2 (by decide) rfl ?_
  refine ab_callS (As := [.int 1, .int 4]) (rest := []) dJ1_charAt_3b067_3 ms_J0_checkIndex_df160 ml_J1_9 ⟨by decide, by decide, rfl, rfl, rfl⟩ (by decide) rfl rfl (Nat.le_of_ble_eq_true rfl) (c_ck0 (by decide)) ?_
  rintro r w' ⟨rfl, rfl⟩
  refine ab_aload_n dJ1_charAt_3b067_6 rfl ?_
  refine ab_iload_n dJ1_charAt_3b067_7 rfl ?_
  refine ab_sbld (j := 3) (t := 1) (v := 97) dJ1_charAt_3b067_8 (by decide) (ix_c (by decide)) rfl ?_
  refine ab_sipush (v := 255) dJ1_charAt_3b067_9 (by decide) ?_
  refine ab_iand dJ1_charAt_3b067_12 ?_
  refine ab_topi (v := 97) (by decide) ?_
  refine ab_i2c dJ1_charAt_3b067_13 ?_
  refine ab_topi (v := 97) (by decide) ?_
  exact ab_zret dJ1_charAt_3b067_14 rfl rfl (by decide) (⟨rfl, rfl⟩)
theorem c_chr_3_1 {w : ax_W}  : Ct M_J0_charAt_5068e [.ref 3003, .int 1] w (fun r w' => r = some (.int 97) ∧ w' = w) := by
  refine ct_ofF ⟨by decide +kernel, rfl⟩ (Nat.le_of_ble_eq_true rfl) ?_
  refine ab_aload_n dJ0_charAt_5068e_0 rfl ?_
  refine ab_callT (j := 3) (As := []) (rest := []) dJ0_charAt_5068e_1 mT_J0_isLatin1_aae02 ml_J0_492 ⟨by decide, by decide, rfl, rfl, rfl⟩ (by decide) rfl rfl (Nat.le_of_ble_eq_true rfl) (by decide) c_latin_3 ?_
  rintro r w' ⟨rfl, rfl⟩
  refine ab_ifeq 16 dJ0_charAt_5068e_4 (by decide) (fun h_1 => absurd h_1 (by decide)) (fun h_1 => ?_)
  refine ab_aload_n dJ0_charAt_5068e_7 rfl ?_
  refine ab_sval (j := 3) dJ0_charAt_5068e_8 fs_J0_9 (by decide) ?_
  refine ab_iload_n dJ0_charAt_5068e_11 rfl ?_
  refine ab_callS (As := [.ref 4003, .int 1]) (rest := []) dJ0_charAt_5068e_12 ms_J1_charAt_3b067 ml_J0_495 ⟨by decide, by decide, rfl, rfl, rfl⟩ (by decide) rfl rfl (Nat.le_of_ble_eq_true rfl) c_lat_3_1 ?_
  rintro r w' ⟨rfl, rfl⟩
  exact ab_zret dJ0_charAt_5068e_15 rfl rfl (by decide) (⟨rfl, rfl⟩)
theorem c_lat_3_2 {w : ax_W}  : Ct M_J1_charAt_3b067 [.ref 4003, .int 2] w (fun r w' => r = some (.int 105) ∧ w' = w) := by
  refine ct_ofF ⟨by decide +kernel, rfl⟩ (Nat.le_of_ble_eq_true rfl) ?_
  refine ab_iload_n dJ1_charAt_3b067_0 rfl ?_
  refine ab_aload_n dJ1_charAt_3b067_1 rfl ?_
  refine ab_sblen (j := 3) (v := 4) dJ1_charAt_3b067_2 (by decide) rfl ?_
  refine ab_callS (As := [.int 2, .int 4]) (rest := []) dJ1_charAt_3b067_3 ms_J0_checkIndex_df160 ml_J1_9 ⟨by decide, by decide, rfl, rfl, rfl⟩ (by decide) rfl rfl (Nat.le_of_ble_eq_true rfl) (c_ck0 (by decide)) ?_
  rintro r w' ⟨rfl, rfl⟩
  refine ab_aload_n dJ1_charAt_3b067_6 rfl ?_
  refine ab_iload_n dJ1_charAt_3b067_7 rfl ?_
  refine ab_sbld (j := 3) (t := 2) (v := 105) dJ1_charAt_3b067_8 (by decide) (ix_c (by decide)) rfl ?_
  refine ab_sipush (v := 255) dJ1_charAt_3b067_9 (by decide) ?_
  refine ab_iand dJ1_charAt_3b067_12 ?_
  refine ab_topi (v := 105) (by decide) ?_
  refine ab_i2c dJ1_charAt_3b067_13 ?_
  refine ab_topi (v := 105) (by decide) ?_
  exact ab_zret dJ1_charAt_3b067_14 rfl rfl (by decide) (⟨rfl, rfl⟩)
theorem c_chr_3_2 {w : ax_W}  : Ct M_J0_charAt_5068e [.ref 3003, .int 2] w (fun r w' => r = some (.int 105) ∧ w' = w) := by
  refine ct_ofF ⟨by decide +kernel, rfl⟩ (Nat.le_of_ble_eq_true rfl) ?_
  refine ab_aload_n dJ0_charAt_5068e_0 rfl ?_
  refine ab_callT (j := 3) (As := []) (rest := []) dJ0_charAt_5068e_1 mT_J0_isLatin1_aae02 ml_J0_492 ⟨by decide, by decide, rfl, rfl, rfl⟩ (by decide) rfl rfl (Nat.le_of_ble_eq_true rfl) (by decide) c_latin_3 ?_
  rintro r w' ⟨rfl, rfl⟩
  refine ab_ifeq 16 dJ0_charAt_5068e_4 (by decide) (fun h_1 => absurd h_1 (by decide)) (fun h_1 => ?_)
  refine ab_aload_n dJ0_charAt_5068e_7 rfl ?_
  refine ab_sval (j := 3) dJ0_charAt_5068e_8 fs_J0_9 (by decide) ?_
  refine ab_iload_n dJ0_charAt_5068e_11 rfl ?_
  refine ab_callS (As := [.ref 4003, .int 2]) (rest := []) dJ0_charAt_5068e_12 ms_J1_charAt_3b067 ml_J0_495 ⟨by decide, by decide, rfl, rfl, rfl⟩ (by decide) rfl rfl (Nat.le_of_ble_eq_true rfl) c_lat_3_2 ?_
  rintro r w' ⟨rfl, rfl⟩
  exact ab_zret dJ0_charAt_5068e_15 rfl rfl (by decide) (⟨rfl, rfl⟩)
theorem c_lat_3_3 {w : ax_W}  : Ct M_J1_charAt_3b067 [.ref 4003, .int 3] w (fun r w' => r = some (.int 114) ∧ w' = w) := by
  refine ct_ofF ⟨by decide +kernel, rfl⟩ (Nat.le_of_ble_eq_true rfl) ?_
  refine ab_iload_n dJ1_charAt_3b067_0 rfl ?_
  refine ab_aload_n dJ1_charAt_3b067_1 rfl ?_
  refine ab_sblen (j := 3) (v := 4) dJ1_charAt_3b067_2 (by decide) rfl ?_
  refine ab_callS (As := [.int 3, .int 4]) (rest := []) dJ1_charAt_3b067_3 ms_J0_checkIndex_df160 ml_J1_9 ⟨by decide, by decide, rfl, rfl, rfl⟩ (by decide) rfl rfl (Nat.le_of_ble_eq_true rfl) (c_ck0 (by decide)) ?_
  rintro r w' ⟨rfl, rfl⟩
  refine ab_aload_n dJ1_charAt_3b067_6 rfl ?_
  refine ab_iload_n dJ1_charAt_3b067_7 rfl ?_
  refine ab_sbld (j := 3) (t := 3) (v := 114) dJ1_charAt_3b067_8 (by decide) (ix_c (by decide)) rfl ?_
  refine ab_sipush (v := 255) dJ1_charAt_3b067_9 (by decide) ?_
  refine ab_iand dJ1_charAt_3b067_12 ?_
  refine ab_topi (v := 114) (by decide) ?_
  refine ab_i2c dJ1_charAt_3b067_13 ?_
  refine ab_topi (v := 114) (by decide) ?_
  exact ab_zret dJ1_charAt_3b067_14 rfl rfl (by decide) (⟨rfl, rfl⟩)
theorem c_chr_3_3 {w : ax_W}  : Ct M_J0_charAt_5068e [.ref 3003, .int 3] w (fun r w' => r = some (.int 114) ∧ w' = w) := by
  refine ct_ofF ⟨by decide +kernel, rfl⟩ (Nat.le_of_ble_eq_true rfl) ?_
  refine ab_aload_n dJ0_charAt_5068e_0 rfl ?_
  refine ab_callT (j := 3) (As := []) (rest := []) dJ0_charAt_5068e_1 mT_J0_isLatin1_aae02 ml_J0_492 ⟨by decide, by decide, rfl, rfl, rfl⟩ (by decide) rfl rfl (Nat.le_of_ble_eq_true rfl) (by decide) c_latin_3 ?_
  rintro r w' ⟨rfl, rfl⟩
  refine ab_ifeq 16 dJ0_charAt_5068e_4 (by decide) (fun h_1 => absurd h_1 (by decide)) (fun h_1 => ?_)
  refine ab_aload_n dJ0_charAt_5068e_7 rfl ?_
  refine ab_sval (j := 3) dJ0_charAt_5068e_8 fs_J0_9 (by decide) ?_
  refine ab_iload_n dJ0_charAt_5068e_11 rfl ?_
  refine ab_callS (As := [.ref 4003, .int 3]) (rest := []) dJ0_charAt_5068e_12 ms_J1_charAt_3b067 ml_J0_495 ⟨by decide, by decide, rfl, rfl, rfl⟩ (by decide) rfl rfl (Nat.le_of_ble_eq_true rfl) c_lat_3_3 ?_
  rintro r w' ⟨rfl, rfl⟩
  exact ab_zret dJ0_charAt_5068e_15 rfl rfl (by decide) (⟨rfl, rfl⟩)
theorem c_lat_4_0 {w : ax_W}  : Ct M_J1_charAt_3b067 [.ref 4004, .int 0] w (fun r w' => r = some (.int 103) ∧ w' = w) := by
  refine ct_ofF ⟨by decide +kernel, rfl⟩ (Nat.le_of_ble_eq_true rfl) ?_
  refine ab_iload_n dJ1_charAt_3b067_0 rfl ?_
  refine ab_aload_n dJ1_charAt_3b067_1 rfl ?_
  refine ab_sblen (j := 4) (v := 6) dJ1_charAt_3b067_2 (by decide) rfl ?_
  refine ab_callS (As := [.int 0, .int 6]) (rest := []) dJ1_charAt_3b067_3 ms_J0_checkIndex_df160 ml_J1_9 ⟨by decide, by decide, rfl, rfl, rfl⟩ (by decide) rfl rfl (Nat.le_of_ble_eq_true rfl) (c_ck0 (by decide)) ?_
  rintro r w' ⟨rfl, rfl⟩
  refine ab_aload_n dJ1_charAt_3b067_6 rfl ?_
  refine ab_iload_n dJ1_charAt_3b067_7 rfl ?_
  refine ab_sbld (j := 4) (t := 0) (v := 103) dJ1_charAt_3b067_8 (by decide) (ix_c (by decide)) rfl ?_
  refine ab_sipush (v := 255) dJ1_charAt_3b067_9 (by decide) ?_
  refine ab_iand dJ1_charAt_3b067_12 ?_
  refine ab_topi (v := 103) (by decide) ?_
  refine ab_i2c dJ1_charAt_3b067_13 ?_
  refine ab_topi (v := 103) (by decide) ?_
  exact ab_zret dJ1_charAt_3b067_14 rfl rfl (by decide) (⟨rfl, rfl⟩)
theorem c_chr_4_0 {w : ax_W}  : Ct M_J0_charAt_5068e [.ref 3004, .int 0] w (fun r w' => r = some (.int 103) ∧ w' = w) := by
  refine ct_ofF ⟨by decide +kernel, rfl⟩ (Nat.le_of_ble_eq_true rfl) ?_
  refine ab_aload_n dJ0_charAt_5068e_0 rfl ?_
  refine ab_callT (j := 4) (As := []) (rest := []) dJ0_charAt_5068e_1 mT_J0_isLatin1_aae02 ml_J0_492 ⟨by decide, by decide, rfl, rfl, rfl⟩ (by decide) rfl rfl (Nat.le_of_ble_eq_true rfl) (by decide) c_latin_4 ?_
  rintro r w' ⟨rfl, rfl⟩
  refine ab_ifeq 16 dJ0_charAt_5068e_4 (by decide) (fun h_1 => absurd h_1 (by decide)) (fun h_1 => ?_)
  refine ab_aload_n dJ0_charAt_5068e_7 rfl ?_
  refine ab_sval (j := 4) dJ0_charAt_5068e_8 fs_J0_9 (by decide) ?_
  refine ab_iload_n dJ0_charAt_5068e_11 rfl ?_
  refine ab_callS (As := [.ref 4004, .int 0]) (rest := []) dJ0_charAt_5068e_12 ms_J1_charAt_3b067 ml_J0_495 ⟨by decide, by decide, rfl, rfl, rfl⟩ (by decide) rfl rfl (Nat.le_of_ble_eq_true rfl) c_lat_4_0 ?_
  rintro r w' ⟨rfl, rfl⟩
  exact ab_zret dJ0_charAt_5068e_15 rfl rfl (by decide) (⟨rfl, rfl⟩)
theorem c_lat_4_1 {w : ax_W}  : Ct M_J1_charAt_3b067 [.ref 4004, .int 1] w (fun r w' => r = some (.int 114) ∧ w' = w) := by
  refine ct_ofF ⟨by decide +kernel, rfl⟩ (Nat.le_of_ble_eq_true rfl) ?_
  refine ab_iload_n dJ1_charAt_3b067_0 rfl ?_
  refine ab_aload_n dJ1_charAt_3b067_1 rfl ?_
  refine ab_sblen (j := 4) (v := 6) dJ1_charAt_3b067_2 (by decide) rfl ?_
  refine ab_callS (As := [.int 1, .int 6]) (rest := []) dJ1_charAt_3b067_3 ms_J0_checkIndex_df160 ml_J1_9 ⟨by decide, by decide, rfl, rfl, rfl⟩ (by decide) rfl rfl (Nat.le_of_ble_eq_true rfl) (c_ck0 (by decide)) ?_
  rintro r w' ⟨rfl, rfl⟩
  refine ab_aload_n dJ1_charAt_3b067_6 rfl ?_
  refine ab_iload_n dJ1_charAt_3b067_7 rfl ?_
  refine ab_sbld (j := 4) (t := 1) (v := 114) dJ1_charAt_3b067_8 (by decide) (ix_c (by decide)) rfl ?_
  refine ab_sipush (v := 255) dJ1_charAt_3b067_9 (by decide) ?_
  refine ab_iand dJ1_charAt_3b067_12 ?_
  refine ab_topi (v := 114) (by decide) ?_
  refine ab_i2c dJ1_charAt_3b067_13 ?_
  refine ab_topi (v := 114) (by decide) ?_
  exact ab_zret dJ1_charAt_3b067_14 rfl rfl (by decide) (⟨rfl, rfl⟩)
theorem c_chr_4_1 {w : ax_W}  : Ct M_J0_charAt_5068e [.ref 3004, .int 1] w (fun r w' => r = some (.int 114) ∧ w' = w) := by
  refine ct_ofF ⟨by decide +kernel, rfl⟩ (Nat.le_of_ble_eq_true rfl) ?_
  refine ab_aload_n dJ0_charAt_5068e_0 rfl ?_
  refine ab_callT (j := 4) (As := []) (rest := []) dJ0_charAt_5068e_1 mT_J0_isLatin1_aae02 ml_J0_492 ⟨by decide, by decide, rfl, rfl, rfl⟩ (by decide) rfl rfl (Nat.le_of_ble_eq_true rfl) (by decide) c_latin_4 ?_
  rintro r w' ⟨rfl, rfl⟩
  refine ab_ifeq 16 dJ0_charAt_5068e_4 (by decide) (fun h_1 => absurd h_1 (by decide)) (fun h_1 => ?_)
  refine ab_aload_n dJ0_charAt_5068e_7 rfl ?_
  refine ab_sval (j := 4) dJ0_charAt_5068e_8 fs_J0_9 (by decide) ?_
  refine ab_iload_n dJ0_charAt_5068e_11 rfl ?_
  refine ab_callS (As := [.ref 4004, .int 1]) (rest := []) dJ0_charAt_5068e_12 ms_J1_charAt_3b067 ml_J0_495 ⟨by decide, by decide, rfl, rfl, rfl⟩ (by decide) rfl rfl (Nat.le_of_ble_eq_true rfl) c_lat_4_1 ?_
  rintro r w' ⟨rfl, rfl⟩
  exact ab_zret dJ0_charAt_5068e_15 rfl rfl (by decide) (⟨rfl, rfl⟩)
theorem c_lat_4_2 {w : ax_W}  : Ct M_J1_charAt_3b067 [.ref 4004, .int 2] w (fun r w' => r = some (.int 111) ∧ w' = w) := by
  refine ct_ofF ⟨by decide +kernel, rfl⟩ (Nat.le_of_ble_eq_true rfl) ?_
  refine ab_iload_n dJ1_charAt_3b067_0 rfl ?_
  refine ab_aload_n dJ1_charAt_3b067_1 rfl ?_
  refine ab_sblen (j := 4) (v := 6) dJ1_charAt_3b067_2 (by decide) rfl ?_
  refine ab_callS (As := [.int 2, .int 6]) (rest := []) dJ1_charAt_3b067_3 ms_J0_checkIndex_df160 ml_J1_9 ⟨by decide, by decide, rfl, rfl, rfl⟩ (by decide) rfl rfl (Nat.le_of_ble_eq_true rfl) (c_ck0 (by decide)) ?_
  rintro r w' ⟨rfl, rfl⟩
  refine ab_aload_n dJ1_charAt_3b067_6 rfl ?_
  refine ab_iload_n dJ1_charAt_3b067_7 rfl ?_
  refine ab_sbld (j := 4) (t := 2) (v := 111) dJ1_charAt_3b067_8 (by decide) (ix_c (by decide)) rfl ?_
  refine ab_sipush (v := 255) dJ1_charAt_3b067_9 (by decide) ?_
  refine ab_iand dJ1_charAt_3b067_12 ?_
  refine ab_topi (v := 111) (by decide) ?_
  refine ab_i2c dJ1_charAt_3b067_13 ?_
  refine ab_topi (v := 111) (by decide) ?_
  exact ab_zret dJ1_charAt_3b067_14 rfl rfl (by decide) (⟨rfl, rfl⟩)
theorem c_chr_4_2 {w : ax_W}  : Ct M_J0_charAt_5068e [.ref 3004, .int 2] w (fun r w' => r = some (.int 111) ∧ w' = w) := by
  refine ct_ofF ⟨by decide +kernel, rfl⟩ (Nat.le_of_ble_eq_true rfl) ?_
  refine ab_aload_n dJ0_charAt_5068e_0 rfl ?_
  refine ab_callT (j := 4) (As := []) (rest := []) dJ0_charAt_5068e_1 mT_J0_isLatin1_aae02 ml_J0_492 ⟨by decide, by decide, rfl, rfl, rfl⟩ (by decide) rfl rfl (Nat.le_of_ble_eq_true rfl) (by decide) c_latin_4 ?_
  rintro r w' ⟨rfl, rfl⟩
  refine ab_ifeq 16 dJ0_charAt_5068e_4 (by decide) (fun h_1 => absurd h_1 (by decide)) (fun h_1 => ?_)
  refine ab_aload_n dJ0_charAt_5068e_7 rfl ?_
  refine ab_sval (j := 4) dJ0_charAt_5068e_8 fs_J0_9 (by decide) ?_
  refine ab_iload_n dJ0_charAt_5068e_11 rfl ?_
  refine ab_callS (As := [.ref 4004, .int 2]) (rest := []) dJ0_charAt_5068e_12 ms_J1_charAt_3b067 ml_J0_495 ⟨by decide, by decide, rfl, rfl, rfl⟩ (by decide) rfl rfl (Nat.le_of_ble_eq_true rfl) c_lat_4_2 ?_
  rintro r w' ⟨rfl, rfl⟩
  exact ab_zret dJ0_charAt_5068e_15 rfl rfl (by decide) (⟨rfl, rfl⟩)
theorem c_lat_4_3 {w : ax_W}  : Ct M_J1_charAt_3b067 [.ref 4004, .int 3] w (fun r w' => r = some (.int 117) ∧ w' = w) := by
  refine ct_ofF ⟨by decide +kernel, rfl⟩ (Nat.le_of_ble_eq_true rfl) ?_
  refine ab_iload_n dJ1_charAt_3b067_0 rfl ?_
  refine ab_aload_n dJ1_charAt_3b067_1 rfl ?_
  refine ab_sblen (j := 4) (v := 6) dJ1_charAt_3b067_2 (by decide) rfl ?_
  refine ab_callS (As := [.int 3, .int 6]) (rest := []) dJ1_charAt_3b067_3 ms_J0_checkIndex_df160 ml_J1_9 ⟨by decide, by decide, rfl, rfl, rfl⟩ (by decide) rfl rfl (Nat.le_of_ble_eq_true rfl) (c_ck0 (by decide)) ?_
  rintro r w' ⟨rfl, rfl⟩
  refine ab_aload_n dJ1_charAt_3b067_6 rfl ?_
  refine ab_iload_n dJ1_charAt_3b067_7 rfl ?_
  refine ab_sbld (j := 4) (t := 3) (v := 117) dJ1_charAt_3b067_8 (by decide) (ix_c (by decide)) rfl ?_
  refine ab_sipush (v := 255) dJ1_charAt_3b067_9 (by decide) ?_
  refine ab_iand dJ1_charAt_3b067_12 ?_
  refine ab_topi (v := 117) (by decide) ?_
  refine ab_i2c dJ1_charAt_3b067_13 ?_
  refine ab_topi (v := 117) (by decide) ?_
  exact ab_zret dJ1_charAt_3b067_14 rfl rfl (by decide) (⟨rfl, rfl⟩)
theorem c_chr_4_3 {w : ax_W}  : Ct M_J0_charAt_5068e [.ref 3004, .int 3] w (fun r w' => r = some (.int 117) ∧ w' = w) := by
  refine ct_ofF ⟨by decide +kernel, rfl⟩ (Nat.le_of_ble_eq_true rfl) ?_
  refine ab_aload_n dJ0_charAt_5068e_0 rfl ?_
  refine ab_callT (j := 4) (As := []) (rest := []) dJ0_charAt_5068e_1 mT_J0_isLatin1_aae02 ml_J0_492 ⟨by decide, by decide, rfl, rfl, rfl⟩ (by decide) rfl rfl (Nat.le_of_ble_eq_true rfl) (by decide) c_latin_4 ?_
  rintro r w' ⟨rfl, rfl⟩
  refine ab_ifeq 16 dJ0_charAt_5068e_4 (by decide) (fun h_1 => absurd h_1 (by decide)) (fun h_1 => ?_)
  refine ab_aload_n dJ0_charAt_5068e_7 rfl ?_
  refine ab_sval (j := 4) dJ0_charAt_5068e_8 fs_J0_9 (by decide) ?_
  refine ab_iload_n dJ0_charAt_5068e_11 rfl ?_
  refine ab_callS (As := [.ref 4004, .int 3]) (rest := []) dJ0_charAt_5068e_12 ms_J1_charAt_3b067 ml_J0_495 ⟨by decide, by decide, rfl, rfl, rfl⟩ (by decide) rfl rfl (Nat.le_of_ble_eq_true rfl) c_lat_4_3 ?_
  rintro r w' ⟨rfl, rfl⟩
  exact ab_zret dJ0_charAt_5068e_15 rfl rfl (by decide) (⟨rfl, rfl⟩)
theorem c_lat_4_4 {w : ax_W}  : Ct M_J1_charAt_3b067 [.ref 4004, .int 4] w (fun r w' => r = some (.int 110) ∧ w' = w) := by
  refine ct_ofF ⟨by decide +kernel, rfl⟩ (Nat.le_of_ble_eq_true rfl) ?_
  refine ab_iload_n dJ1_charAt_3b067_0 rfl ?_
  refine ab_aload_n dJ1_charAt_3b067_1 rfl ?_
  refine ab_sblen (j := 4) (v := 6) dJ1_charAt_3b067_2 (by decide) rfl ?_
  refine ab_callS (As := [.int 4, .int 6]) (rest := []) dJ1_charAt_3b067_3 ms_J0_checkIndex_df160 ml_J1_9 ⟨by decide, by decide, rfl, rfl, rfl⟩ (by decide) rfl rfl (Nat.le_of_ble_eq_true rfl) (c_ck0 (by decide)) ?_
  rintro r w' ⟨rfl, rfl⟩
  refine ab_aload_n dJ1_charAt_3b067_6 rfl ?_
  refine ab_iload_n dJ1_charAt_3b067_7 rfl ?_
  refine ab_sbld (j := 4) (t := 4) (v := 110) dJ1_charAt_3b067_8 (by decide) (ix_c (by decide)) rfl ?_
  refine ab_sipush (v := 255) dJ1_charAt_3b067_9 (by decide) ?_
  refine ab_iand dJ1_charAt_3b067_12 ?_
  refine ab_topi (v := 110) (by decide) ?_
  refine ab_i2c dJ1_charAt_3b067_13 ?_
  refine ab_topi (v := 110) (by decide) ?_
  exact ab_zret dJ1_charAt_3b067_14 rfl rfl (by decide) (⟨rfl, rfl⟩)
theorem c_chr_4_4 {w : ax_W}  : Ct M_J0_charAt_5068e [.ref 3004, .int 4] w (fun r w' => r = some (.int 110) ∧ w' = w) := by
  refine ct_ofF ⟨by decide +kernel, rfl⟩ (Nat.le_of_ble_eq_true rfl) ?_
  refine ab_aload_n dJ0_charAt_5068e_0 rfl ?_
  refine ab_callT (j := 4) (As := []) (rest := []) dJ0_charAt_5068e_1 mT_J0_isLatin1_aae02 ml_J0_492 ⟨by decide, by decide, rfl, rfl, rfl⟩ (by decide) rfl rfl (Nat.le_of_ble_eq_true rfl) (by decide) c_latin_4 ?_
  rintro r w' ⟨rfl, rfl⟩
  refine ab_ifeq 16 dJ0_charAt_5068e_4 (by decide) (fun h_1 => absurd h_1 (by decide)) (fun h_1 => ?_)
  refine ab_aload_n dJ0_charAt_5068e_7 rfl ?_
  refine ab_sval (j := 4) dJ0_charAt_5068e_8 fs_J0_9 (by decide) ?_
  refine ab_iload_n dJ0_charAt_5068e_11 rfl ?_
  refine ab_callS (As := [.ref 4004, .int 4]) (rest := []) dJ0_charAt_5068e_12 ms_J1_charAt_3b067 ml_J0_495 ⟨by decide, by decide, rfl, rfl, rfl⟩ (by decide) rfl rfl (Nat.le_of_ble_eq_true rfl) c_lat_4_4 ?_
  rintro r w' ⟨rfl, rfl⟩
  exact ab_zret dJ0_charAt_5068e_15 rfl rfl (by decide) (⟨rfl, rfl⟩)
theorem c_lat_4_5 {w : ax_W}  : Ct M_J1_charAt_3b067 [.ref 4004, .int 5] w (fun r w' => r = some (.int 100) ∧ w' = w) := by
  refine ct_ofF ⟨by decide +kernel, rfl⟩ (Nat.le_of_ble_eq_true rfl) ?_
  refine ab_iload_n dJ1_charAt_3b067_0 rfl ?_
  refine ab_aload_n dJ1_charAt_3b067_1 rfl ?_
  refine ab_sblen (j := 4) (v := 6) dJ1_charAt_3b067_2 (by decide) rfl ?_
  refine ab_callS (As := [.int 5, .int 6]) (rest := []) dJ1_charAt_3b067_3 ms_J0_checkIndex_df160 ml_J1_9 ⟨by decide, by decide, rfl, rfl, rfl⟩ (by decide) rfl rfl (Nat.le_of_ble_eq_true rfl) (c_ck0 (by decide)) ?_
  rintro r w' ⟨rfl, rfl⟩
  refine ab_aload_n dJ1_charAt_3b067_6 rfl ?_
  refine ab_iload_n dJ1_charAt_3b067_7 rfl ?_
  refine ab_sbld (j := 4) (t := 5) (v := 100) dJ1_charAt_3b067_8 (by decide) (ix_c (by decide)) rfl ?_
  refine ab_sipush (v := 255) dJ1_charAt_3b067_9 (by decide) ?_
  refine ab_iand dJ1_charAt_3b067_12 ?_
  refine ab_topi (v := 100) (by decide) ?_
  refine ab_i2c dJ1_charAt_3b067_13 ?_
  refine ab_topi (v := 100) (by decide) ?_
  exact ab_zret dJ1_charAt_3b067_14 rfl rfl (by decide) (⟨rfl, rfl⟩)
theorem c_chr_4_5 {w : ax_W}  : Ct M_J0_charAt_5068e [.ref 3004, .int 5] w (fun r w' => r = some (.int 100) ∧ w' = w) := by
  refine ct_ofF ⟨by decide +kernel, rfl⟩ (Nat.le_of_ble_eq_true rfl) ?_
  refine ab_aload_n dJ0_charAt_5068e_0 rfl ?_
  refine ab_callT (j := 4) (As := []) (rest := []) dJ0_charAt_5068e_1 mT_J0_isLatin1_aae02 ml_J0_492 ⟨by decide, by decide, rfl, rfl, rfl⟩ (by decide) rfl rfl (Nat.le_of_ble_eq_true rfl) (by decide) c_latin_4 ?_
  rintro r w' ⟨rfl, rfl⟩
  refine ab_ifeq 16 dJ0_charAt_5068e_4 (by decide) (fun h_1 => absurd h_1 (by decide)) (fun h_1 => ?_)
  refine ab_aload_n dJ0_charAt_5068e_7 rfl ?_
  refine ab_sval (j := 4) dJ0_charAt_5068e_8 fs_J0_9 (by decide) ?_
  refine ab_iload_n dJ0_charAt_5068e_11 rfl ?_
  refine ab_callS (As := [.ref 4004, .int 5]) (rest := []) dJ0_charAt_5068e_12 ms_J1_charAt_3b067 ml_J0_495 ⟨by decide, by decide, rfl, rfl, rfl⟩ (by decide) rfl rfl (Nat.le_of_ble_eq_true rfl) c_lat_4_5 ?_
  rintro r w' ⟨rfl, rfl⟩
  exact ab_zret dJ0_charAt_5068e_15 rfl rfl (by decide) (⟨rfl, rfl⟩)
theorem c_lat_5_0 {w : ax_W}  : Ct M_J1_charAt_3b067 [.ref 4005, .int 0] w (fun r w' => r = some (.int 99) ∧ w' = w) := by
  refine ct_ofF ⟨by decide +kernel, rfl⟩ (Nat.le_of_ble_eq_true rfl) ?_
  refine ab_iload_n dJ1_charAt_3b067_0 rfl ?_
  refine ab_aload_n dJ1_charAt_3b067_1 rfl ?_
  refine ab_sblen (j := 5) (v := 5) dJ1_charAt_3b067_2 (by decide) rfl ?_
  refine ab_callS (As := [.int 0, .int 5]) (rest := []) dJ1_charAt_3b067_3 ms_J0_checkIndex_df160 ml_J1_9 ⟨by decide, by decide, rfl, rfl, rfl⟩ (by decide) rfl rfl (Nat.le_of_ble_eq_true rfl) (c_ck0 (by decide)) ?_
  rintro r w' ⟨rfl, rfl⟩
  refine ab_aload_n dJ1_charAt_3b067_6 rfl ?_
  refine ab_iload_n dJ1_charAt_3b067_7 rfl ?_
  refine ab_sbld (j := 5) (t := 0) (v := 99) dJ1_charAt_3b067_8 (by decide) (ix_c (by decide)) rfl ?_
  refine ab_sipush (v := 255) dJ1_charAt_3b067_9 (by decide) ?_
  refine ab_iand dJ1_charAt_3b067_12 ?_
  refine ab_topi (v := 99) (by decide) ?_
  refine ab_i2c dJ1_charAt_3b067_13 ?_
  refine ab_topi (v := 99) (by decide) ?_
  exact ab_zret dJ1_charAt_3b067_14 rfl rfl (by decide) (⟨rfl, rfl⟩)
theorem c_chr_5_0 {w : ax_W}  : Ct M_J0_charAt_5068e [.ref 3005, .int 0] w (fun r w' => r = some (.int 99) ∧ w' = w) := by
  refine ct_ofF ⟨by decide +kernel, rfl⟩ (Nat.le_of_ble_eq_true rfl) ?_
  refine ab_aload_n dJ0_charAt_5068e_0 rfl ?_
  refine ab_callT (j := 5) (As := []) (rest := []) dJ0_charAt_5068e_1 mT_J0_isLatin1_aae02 ml_J0_492 ⟨by decide, by decide, rfl, rfl, rfl⟩ (by decide) rfl rfl (Nat.le_of_ble_eq_true rfl) (by decide) c_latin_5 ?_
  rintro r w' ⟨rfl, rfl⟩
  refine ab_ifeq 16 dJ0_charAt_5068e_4 (by decide) (fun h_1 => absurd h_1 (by decide)) (fun h_1 => ?_)
  refine ab_aload_n dJ0_charAt_5068e_7 rfl ?_
  refine ab_sval (j := 5) dJ0_charAt_5068e_8 fs_J0_9 (by decide) ?_
  refine ab_iload_n dJ0_charAt_5068e_11 rfl ?_
  refine ab_callS (As := [.ref 4005, .int 0]) (rest := []) dJ0_charAt_5068e_12 ms_J1_charAt_3b067 ml_J0_495 ⟨by decide, by decide, rfl, rfl, rfl⟩ (by decide) rfl rfl (Nat.le_of_ble_eq_true rfl) c_lat_5_0 ?_
  rintro r w' ⟨rfl, rfl⟩
  exact ab_zret dJ0_charAt_5068e_15 rfl rfl (by decide) (⟨rfl, rfl⟩)
theorem c_lat_5_1 {w : ax_W}  : Ct M_J1_charAt_3b067 [.ref 4005, .int 1] w (fun r w' => r = some (.int 114) ∧ w' = w) := by
  refine ct_ofF ⟨by decide +kernel, rfl⟩ (Nat.le_of_ble_eq_true rfl) ?_
  refine ab_iload_n dJ1_charAt_3b067_0 rfl ?_
  refine ab_aload_n dJ1_charAt_3b067_1 rfl ?_
  refine ab_sblen (j := 5) (v := 5) dJ1_charAt_3b067_2 (by decide) rfl ?_
  refine ab_callS (As := [.int 1, .int 5]) (rest := []) dJ1_charAt_3b067_3 ms_J0_checkIndex_df160 ml_J1_9 ⟨by decide, by decide, rfl, rfl, rfl⟩ (by decide) rfl rfl (Nat.le_of_ble_eq_true rfl) (c_ck0 (by decide)) ?_
  rintro r w' ⟨rfl, rfl⟩
  refine ab_aload_n dJ1_charAt_3b067_6 rfl ?_
  refine ab_iload_n dJ1_charAt_3b067_7 rfl ?_
  refine ab_sbld (j := 5) (t := 1) (v := 114) dJ1_charAt_3b067_8 (by decide) (ix_c (by decide)) rfl ?_
  refine ab_sipush (v := 255) dJ1_charAt_3b067_9 (by decide) ?_
  refine ab_iand dJ1_charAt_3b067_12 ?_
  refine ab_topi (v := 114) (by decide) ?_
  refine ab_i2c dJ1_charAt_3b067_13 ?_
  refine ab_topi (v := 114) (by decide) ?_
  exact ab_zret dJ1_charAt_3b067_14 rfl rfl (by decide) (⟨rfl, rfl⟩)
theorem c_chr_5_1 {w : ax_W}  : Ct M_J0_charAt_5068e [.ref 3005, .int 1] w (fun r w' => r = some (.int 114) ∧ w' = w) := by
  refine ct_ofF ⟨by decide +kernel, rfl⟩ (Nat.le_of_ble_eq_true rfl) ?_
  refine ab_aload_n dJ0_charAt_5068e_0 rfl ?_
  refine ab_callT (j := 5) (As := []) (rest := []) dJ0_charAt_5068e_1 mT_J0_isLatin1_aae02 ml_J0_492 ⟨by decide, by decide, rfl, rfl, rfl⟩ (by decide) rfl rfl (Nat.le_of_ble_eq_true rfl) (by decide) c_latin_5 ?_
  rintro r w' ⟨rfl, rfl⟩
  refine ab_ifeq 16 dJ0_charAt_5068e_4 (by decide) (fun h_1 => absurd h_1 (by decide)) (fun h_1 => ?_)
  refine ab_aload_n dJ0_charAt_5068e_7 rfl ?_
  refine ab_sval (j := 5) dJ0_charAt_5068e_8 fs_J0_9 (by decide) ?_
  refine ab_iload_n dJ0_charAt_5068e_11 rfl ?_
  refine ab_callS (As := [.ref 4005, .int 1]) (rest := []) dJ0_charAt_5068e_12 ms_J1_charAt_3b067 ml_J0_495 ⟨by decide, by decide, rfl, rfl, rfl⟩ (by decide) rfl rfl (Nat.le_of_ble_eq_true rfl) c_lat_5_1 ?_
  rintro r w' ⟨rfl, rfl⟩
  exact ab_zret dJ0_charAt_5068e_15 rfl rfl (by decide) (⟨rfl, rfl⟩)
theorem c_lat_5_2 {w : ax_W}  : Ct M_J1_charAt_3b067 [.ref 4005, .int 2] w (fun r w' => r = some (.int 97) ∧ w' = w) := by
  refine ct_ofF ⟨by decide +kernel, rfl⟩ (Nat.le_of_ble_eq_true rfl) ?_
  refine ab_iload_n dJ1_charAt_3b067_0 rfl ?_
  refine ab_aload_n dJ1_charAt_3b067_1 rfl ?_
  refine ab_sblen (j := 5) (v := 5) dJ1_charAt_3b067_2 (by decide) rfl ?_
  refine ab_callS (As := [.int 2, .int 5]) (rest := []) dJ1_charAt_3b067_3 ms_J0_checkIndex_df160 ml_J1_9 ⟨by decide, by decide, rfl, rfl, rfl⟩ (by decide) rfl rfl (Nat.le_of_ble_eq_true rfl) (c_ck0 (by decide)) ?_
  rintro r w' ⟨rfl, rfl⟩
  refine ab_aload_n dJ1_charAt_3b067_6 rfl ?_
  refine ab_iload_n dJ1_charAt_3b067_7 rfl ?_
  refine ab_sbld (j := 5) (t := 2) (v := 97) dJ1_charAt_3b067_8 (by decide) (ix_c (by decide)) rfl ?_
  refine ab_sipush (v := 255) dJ1_charAt_3b067_9 (by decide) ?_
  refine ab_iand dJ1_charAt_3b067_12 ?_
  refine ab_topi (v := 97) (by decide) ?_
  refine ab_i2c dJ1_charAt_3b067_13 ?_
  refine ab_topi (v := 97) (by decide) ?_
  exact ab_zret dJ1_charAt_3b067_14 rfl rfl (by decide) (⟨rfl, rfl⟩)
theorem c_chr_5_2 {w : ax_W}  : Ct M_J0_charAt_5068e [.ref 3005, .int 2] w (fun r w' => r = some (.int 97) ∧ w' = w) := by
  refine ct_ofF ⟨by decide +kernel, rfl⟩ (Nat.le_of_ble_eq_true rfl) ?_
  refine ab_aload_n dJ0_charAt_5068e_0 rfl ?_
  refine ab_callT (j := 5) (As := []) (rest := []) dJ0_charAt_5068e_1 mT_J0_isLatin1_aae02 ml_J0_492 ⟨by decide, by decide, rfl, rfl, rfl⟩ (by decide) rfl rfl (Nat.le_of_ble_eq_true rfl) (by decide) c_latin_5 ?_
  rintro r w' ⟨rfl, rfl⟩
  refine ab_ifeq 16 dJ0_charAt_5068e_4 (by decide) (fun h_1 => absurd h_1 (by decide)) (fun h_1 => ?_)
  refine ab_aload_n dJ0_charAt_5068e_7 rfl ?_
  refine ab_sval (j := 5) dJ0_charAt_5068e_8 fs_J0_9 (by decide) ?_
  refine ab_iload_n dJ0_charAt_5068e_11 rfl ?_
  refine ab_callS (As := [.ref 4005, .int 2]) (rest := []) dJ0_charAt_5068e_12 ms_J1_charAt_3b067 ml_J0_495 ⟨by decide, by decide, rfl, rfl, rfl⟩ (by decide) rfl rfl (Nat.le_of_ble_eq_true rfl) c_lat_5_2 ?_
  rintro r w' ⟨rfl, rfl⟩
  exact ab_zret dJ0_charAt_5068e_15 rfl rfl (by decide) (⟨rfl, rfl⟩)
theorem c_lat_5_3 {w : ax_W}  : Ct M_J1_charAt_3b067 [.ref 4005, .int 3] w (fun r w' => r = some (.int 110) ∧ w' = w) := by
  refine ct_ofF ⟨by decide +kernel, rfl⟩ (Nat.le_of_ble_eq_true rfl) ?_
  refine ab_iload_n dJ1_charAt_3b067_0 rfl ?_
  refine ab_aload_n dJ1_charAt_3b067_1 rfl ?_
  refine ab_sblen (j := 5) (v := 5) dJ1_charAt_3b067_2 (by decide) rfl ?_
  refine ab_callS (As := [.int 3, .int 5]) (rest := []) dJ1_charAt_3b067_3 ms_J0_checkIndex_df160 ml_J1_9 ⟨by decide, by decide, rfl, rfl, rfl⟩ (by decide) rfl rfl (Nat.le_of_ble_eq_true rfl) (c_ck0 (by decide)) ?_
  rintro r w' ⟨rfl, rfl⟩
  refine ab_aload_n dJ1_charAt_3b067_6 rfl ?_
  refine ab_iload_n dJ1_charAt_3b067_7 rfl ?_
  refine ab_sbld (j := 5) (t := 3) (v := 110) dJ1_charAt_3b067_8 (by decide) (ix_c (by decide)) rfl ?_
  refine ab_sipush (v := 255) dJ1_charAt_3b067_9 (by decide) ?_
  refine ab_iand dJ1_charAt_3b067_12 ?_
  refine ab_topi (v := 110) (by decide) ?_
  refine ab_i2c dJ1_charAt_3b067_13 ?_
  refine ab_topi (v := 110) (by decide) ?_
  exact ab_zret dJ1_charAt_3b067_14 rfl rfl (by decide) (⟨rfl, rfl⟩)
theorem c_chr_5_3 {w : ax_W}  : Ct M_J0_charAt_5068e [.ref 3005, .int 3] w (fun r w' => r = some (.int 110) ∧ w' = w) := by
  refine ct_ofF ⟨by decide +kernel, rfl⟩ (Nat.le_of_ble_eq_true rfl) ?_
  refine ab_aload_n dJ0_charAt_5068e_0 rfl ?_
  refine ab_callT (j := 5) (As := []) (rest := []) dJ0_charAt_5068e_1 mT_J0_isLatin1_aae02 ml_J0_492 ⟨by decide, by decide, rfl, rfl, rfl⟩ (by decide) rfl rfl (Nat.le_of_ble_eq_true rfl) (by decide) c_latin_5 ?_
  rintro r w' ⟨rfl, rfl⟩
  refine ab_ifeq 16 dJ0_charAt_5068e_4 (by decide) (fun h_1 => absurd h_1 (by decide)) (fun h_1 => ?_)
  refine ab_aload_n dJ0_charAt_5068e_7 rfl ?_
  refine ab_sval (j := 5) dJ0_charAt_5068e_8 fs_J0_9 (by decide) ?_
  refine ab_iload_n dJ0_charAt_5068e_11 rfl ?_
  refine ab_callS (As := [.ref 4005, .int 3]) (rest := []) dJ0_charAt_5068e_12 ms_J1_charAt_3b067 ml_J0_495 ⟨by decide, by decide, rfl, rfl, rfl⟩ (by decide) rfl rfl (Nat.le_of_ble_eq_true rfl) c_lat_5_3 ?_
  rintro r w' ⟨rfl, rfl⟩
  exact ab_zret dJ0_charAt_5068e_15 rfl rfl (by decide) (⟨rfl, rfl⟩)
theorem c_lat_5_4 {w : ax_W}  : Ct M_J1_charAt_3b067 [.ref 4005, .int 4] w (fun r w' => r = some (.int 107) ∧ w' = w) := by
  refine ct_ofF ⟨by decide +kernel, rfl⟩ (Nat.le_of_ble_eq_true rfl) ?_
  refine ab_iload_n dJ1_charAt_3b067_0 rfl ?_
  refine ab_aload_n dJ1_charAt_3b067_1 rfl ?_
  refine ab_sblen (j := 5) (v := 5) dJ1_charAt_3b067_2 (by decide) rfl ?_
  refine ab_callS (As := [.int 4, .int 5]) (rest := []) dJ1_charAt_3b067_3 ms_J0_checkIndex_df160 ml_J1_9 ⟨by decide, by decide, rfl, rfl, rfl⟩ (by decide) rfl rfl (Nat.le_of_ble_eq_true rfl) (c_ck0 (by decide)) ?_
  rintro r w' ⟨rfl, rfl⟩
  refine ab_aload_n dJ1_charAt_3b067_6 rfl ?_
  refine ab_iload_n dJ1_charAt_3b067_7 rfl ?_
  refine ab_sbld (j := 5) (t := 4) (v := 107) dJ1_charAt_3b067_8 (by decide) (ix_c (by decide)) rfl ?_
  refine ab_sipush (v := 255) dJ1_charAt_3b067_9 (by decide) ?_
  refine ab_iand dJ1_charAt_3b067_12 ?_
  refine ab_topi (v := 107) (by decide) ?_
  refine ab_i2c dJ1_charAt_3b067_13 ?_
  refine ab_topi (v := 107) (by decide) ?_
  exact ab_zret dJ1_charAt_3b067_14 rfl rfl (by decide) (⟨rfl, rfl⟩)
theorem c_chr_5_4 {w : ax_W}  : Ct M_J0_charAt_5068e [.ref 3005, .int 4] w (fun r w' => r = some (.int 107) ∧ w' = w) := by
  refine ct_ofF ⟨by decide +kernel, rfl⟩ (Nat.le_of_ble_eq_true rfl) ?_
  refine ab_aload_n dJ0_charAt_5068e_0 rfl ?_
  refine ab_callT (j := 5) (As := []) (rest := []) dJ0_charAt_5068e_1 mT_J0_isLatin1_aae02 ml_J0_492 ⟨by decide, by decide, rfl, rfl, rfl⟩ (by decide) rfl rfl (Nat.le_of_ble_eq_true rfl) (by decide) c_latin_5 ?_
  rintro r w' ⟨rfl, rfl⟩
  refine ab_ifeq 16 dJ0_charAt_5068e_4 (by decide) (fun h_1 => absurd h_1 (by decide)) (fun h_1 => ?_)
  refine ab_aload_n dJ0_charAt_5068e_7 rfl ?_
  refine ab_sval (j := 5) dJ0_charAt_5068e_8 fs_J0_9 (by decide) ?_
  refine ab_iload_n dJ0_charAt_5068e_11 rfl ?_
  refine ab_callS (As := [.ref 4005, .int 4]) (rest := []) dJ0_charAt_5068e_12 ms_J1_charAt_3b067 ml_J0_495 ⟨by decide, by decide, rfl, rfl, rfl⟩ (by decide) rfl rfl (Nat.le_of_ble_eq_true rfl) c_lat_5_4 ?_
  rintro r w' ⟨rfl, rfl⟩
  exact ab_zret dJ0_charAt_5068e_15 rfl rfl (by decide) (⟨rfl, rfl⟩)
theorem c_lat_6_0 {w : ax_W}  : Ct M_J1_charAt_3b067 [.ref 4006, .int 0] w (fun r w' => r = some (.int 114) ∧ w' = w) := by
  refine ct_ofF ⟨by decide +kernel, rfl⟩ (Nat.le_of_ble_eq_true rfl) ?_
  refine ab_iload_n dJ1_charAt_3b067_0 rfl ?_
  refine ab_aload_n dJ1_charAt_3b067_1 rfl ?_
  refine ab_sblen (j := 6) (v := 3) dJ1_charAt_3b067_2 (by decide) rfl ?_
  refine ab_callS (As := [.int 0, .int 3]) (rest := []) dJ1_charAt_3b067_3 ms_J0_checkIndex_df160 ml_J1_9 ⟨by decide, by decide, rfl, rfl, rfl⟩ (by decide) rfl rfl (Nat.le_of_ble_eq_true rfl) (c_ck0 (by decide)) ?_
  rintro r w' ⟨rfl, rfl⟩
  refine ab_aload_n dJ1_charAt_3b067_6 rfl ?_
  refine ab_iload_n dJ1_charAt_3b067_7 rfl ?_
  refine ab_sbld (j := 6) (t := 0) (v := 114) dJ1_charAt_3b067_8 (by decide) (ix_c (by decide)) rfl ?_
  refine ab_sipush (v := 255) dJ1_charAt_3b067_9 (by decide) ?_
  refine ab_iand dJ1_charAt_3b067_12 ?_
  refine ab_topi (v := 114) (by decide) ?_
  refine ab_i2c dJ1_charAt_3b067_13 ?_
  refine ab_topi (v := 114) (by decide) ?_
  exact ab_zret dJ1_charAt_3b067_14 rfl rfl (by decide) (⟨rfl, rfl⟩)
theorem c_chr_6_0 {w : ax_W}  : Ct M_J0_charAt_5068e [.ref 3006, .int 0] w (fun r w' => r = some (.int 114) ∧ w' = w) := by
  refine ct_ofF ⟨by decide +kernel, rfl⟩ (Nat.le_of_ble_eq_true rfl) ?_
  refine ab_aload_n dJ0_charAt_5068e_0 rfl ?_
  refine ab_callT (j := 6) (As := []) (rest := []) dJ0_charAt_5068e_1 mT_J0_isLatin1_aae02 ml_J0_492 ⟨by decide, by decide, rfl, rfl, rfl⟩ (by decide) rfl rfl (Nat.le_of_ble_eq_true rfl) (by decide) c_latin_6 ?_
  rintro r w' ⟨rfl, rfl⟩
  refine ab_ifeq 16 dJ0_charAt_5068e_4 (by decide) (fun h_1 => absurd h_1 (by decide)) (fun h_1 => ?_)
  refine ab_aload_n dJ0_charAt_5068e_7 rfl ?_
  refine ab_sval (j := 6) dJ0_charAt_5068e_8 fs_J0_9 (by decide) ?_
  refine ab_iload_n dJ0_charAt_5068e_11 rfl ?_
  refine ab_callS (As := [.ref 4006, .int 0]) (rest := []) dJ0_charAt_5068e_12 ms_J1_charAt_3b067 ml_J0_495 ⟨by decide, by decide, rfl, rfl, rfl⟩ (by decide) rfl rfl (Nat.le_of_ble_eq_true rfl) c_lat_6_0 ?_
  rintro r w' ⟨rfl, rfl⟩
  exact ab_zret dJ0_charAt_5068e_15 rfl rfl (by decide) (⟨rfl, rfl⟩)
theorem c_lat_6_1 {w : ax_W}  : Ct M_J1_charAt_3b067 [.ref 4006, .int 1] w (fun r w' => r = some (.int 111) ∧ w' = w) := by
  refine ct_ofF ⟨by decide +kernel, rfl⟩ (Nat.le_of_ble_eq_true rfl) ?_
  refine ab_iload_n dJ1_charAt_3b067_0 rfl ?_
  refine ab_aload_n dJ1_charAt_3b067_1 rfl ?_
  refine ab_sblen (j := 6) (v := 3) dJ1_charAt_3b067_2 (by decide) rfl ?_
  refine ab_callS (As := [.int 1, .int 3]) (rest := []) dJ1_charAt_3b067_3 ms_J0_checkIndex_df160 ml_J1_9 ⟨by decide, by decide, rfl, rfl, rfl⟩ (by decide) rfl rfl (Nat.le_of_ble_eq_true rfl) (c_ck0 (by decide)) ?_
  rintro r w' ⟨rfl, rfl⟩
  refine ab_aload_n dJ1_charAt_3b067_6 rfl ?_
  refine ab_iload_n dJ1_charAt_3b067_7 rfl ?_
  refine ab_sbld (j := 6) (t := 1) (v := 111) dJ1_charAt_3b067_8 (by decide) (ix_c (by decide)) rfl ?_
  refine ab_sipush (v := 255) dJ1_charAt_3b067_9 (by decide) ?_
  refine ab_iand dJ1_charAt_3b067_12 ?_
  refine ab_topi (v := 111) (by decide) ?_
  refine ab_i2c dJ1_charAt_3b067_13 ?_
  refine ab_topi (v := 111) (by decide) ?_
  exact ab_zret dJ1_charAt_3b067_14 rfl rfl (by decide) (⟨rfl, rfl⟩)
theorem c_chr_6_1 {w : ax_W}  : Ct M_J0_charAt_5068e [.ref 3006, .int 1] w (fun r w' => r = some (.int 111) ∧ w' = w) := by
  refine ct_ofF ⟨by decide +kernel, rfl⟩ (Nat.le_of_ble_eq_true rfl) ?_
  refine ab_aload_n dJ0_charAt_5068e_0 rfl ?_
  refine ab_callT (j := 6) (As := []) (rest := []) dJ0_charAt_5068e_1 mT_J0_isLatin1_aae02 ml_J0_492 ⟨by decide, by decide, rfl, rfl, rfl⟩ (by decide) rfl rfl (Nat.le_of_ble_eq_true rfl) (by decide) c_latin_6 ?_
  rintro r w' ⟨rfl, rfl⟩
  refine ab_ifeq 16 dJ0_charAt_5068e_4 (by decide) (fun h_1 => absurd h_1 (by decide)) (fun h_1 => ?_)
  refine ab_aload_n dJ0_charAt_5068e_7 rfl ?_
  refine ab_sval (j := 6) dJ0_charAt_5068e_8 fs_J0_9 (by decide) ?_
  refine ab_iload_n dJ0_charAt_5068e_11 rfl ?_
  refine ab_callS (As := [.ref 4006, .int 1]) (rest := []) dJ0_charAt_5068e_12 ms_J1_charAt_3b067 ml_J0_495 ⟨by decide, by decide, rfl, rfl, rfl⟩ (by decide) rfl rfl (Nat.le_of_ble_eq_true rfl) c_lat_6_1 ?_
  rintro r w' ⟨rfl, rfl⟩
  exact ab_zret dJ0_charAt_5068e_15 rfl rfl (by decide) (⟨rfl, rfl⟩)
theorem c_lat_6_2 {w : ax_W}  : Ct M_J1_charAt_3b067 [.ref 4006, .int 2] w (fun r w' => r = some (.int 100) ∧ w' = w) := by
  refine ct_ofF ⟨by decide +kernel, rfl⟩ (Nat.le_of_ble_eq_true rfl) ?_
  refine ab_iload_n dJ1_charAt_3b067_0 rfl ?_
  refine ab_aload_n dJ1_charAt_3b067_1 rfl ?_
  refine ab_sblen (j := 6) (v := 3) dJ1_charAt_3b067_2 (by decide) rfl ?_
  refine ab_callS (As := [.int 2, .int 3]) (rest := []) dJ1_charAt_3b067_3 ms_J0_checkIndex_df160 ml_J1_9 ⟨by decide, by decide, rfl, rfl, rfl⟩ (by decide) rfl rfl (Nat.le_of_ble_eq_true rfl) (c_ck0 (by decide)) ?_
  rintro r w' ⟨rfl, rfl⟩
  refine ab_aload_n dJ1_charAt_3b067_6 rfl ?_
  refine ab_iload_n dJ1_charAt_3b067_7 rfl ?_
  refine ab_sbld (j := 6) (t := 2) (v := 100) dJ1_charAt_3b067_8 (by decide) (ix_c (by decide)) rfl ?_
  refine ab_sipush (v := 255) dJ1_charAt_3b067_9 (by decide) ?_
  refine ab_iand dJ1_charAt_3b067_12 ?_
  refine ab_topi (v := 100) (by decide) ?_
  refine ab_i2c dJ1_charAt_3b067_13 ?_
  refine ab_topi (v := 100) (by decide) ?_
  exact ab_zret dJ1_charAt_3b067_14 rfl rfl (by decide) (⟨rfl, rfl⟩)
theorem c_chr_6_2 {w : ax_W}  : Ct M_J0_charAt_5068e [.ref 3006, .int 2] w (fun r w' => r = some (.int 100) ∧ w' = w) := by
  refine ct_ofF ⟨by decide +kernel, rfl⟩ (Nat.le_of_ble_eq_true rfl) ?_
  refine ab_aload_n dJ0_charAt_5068e_0 rfl ?_
  refine ab_callT (j := 6) (As := []) (rest := []) dJ0_charAt_5068e_1 mT_J0_isLatin1_aae02 ml_J0_492 ⟨by decide, by decide, rfl, rfl, rfl⟩ (by decide) rfl rfl (Nat.le_of_ble_eq_true rfl) (by decide) c_latin_6 ?_
  rintro r w' ⟨rfl, rfl⟩
  refine ab_ifeq 16 dJ0_charAt_5068e_4 (by decide) (fun h_1 => absurd h_1 (by decide)) (fun h_1 => ?_)
  refine ab_aload_n dJ0_charAt_5068e_7 rfl ?_
  refine ab_sval (j := 6) dJ0_charAt_5068e_8 fs_J0_9 (by decide) ?_
  refine ab_iload_n dJ0_charAt_5068e_11 rfl ?_
  refine ab_callS (As := [.ref 4006, .int 2]) (rest := []) dJ0_charAt_5068e_12 ms_J1_charAt_3b067 ml_J0_495 ⟨by decide, by decide, rfl, rfl, rfl⟩ (by decide) rfl rfl (Nat.le_of_ble_eq_true rfl) c_lat_6_2 ?_
  rintro r w' ⟨rfl, rfl⟩
  exact ab_zret dJ0_charAt_5068e_15 rfl rfl (by decide) (⟨rfl, rfl⟩)
theorem c_lat_7_0 {w : ax_W}  : Ct M_J1_charAt_3b067 [.ref 4007, .int 0] w (fun r w' => r = some (.int 97) ∧ w' = w) := by
  refine ct_ofF ⟨by decide +kernel, rfl⟩ (Nat.le_of_ble_eq_true rfl) ?_
  refine ab_iload_n dJ1_charAt_3b067_0 rfl ?_
  refine ab_aload_n dJ1_charAt_3b067_1 rfl ?_
  refine ab_sblen (j := 7) (v := 3) dJ1_charAt_3b067_2 (by decide) rfl ?_
  refine ab_callS (As := [.int 0, .int 3]) (rest := []) dJ1_charAt_3b067_3 ms_J0_checkIndex_df160 ml_J1_9 ⟨by decide, by decide, rfl, rfl, rfl⟩ (by decide) rfl rfl (Nat.le_of_ble_eq_true rfl) (c_ck0 (by decide)) ?_
  rintro r w' ⟨rfl, rfl⟩
  refine ab_aload_n dJ1_charAt_3b067_6 rfl ?_
  refine ab_iload_n dJ1_charAt_3b067_7 rfl ?_
  refine ab_sbld (j := 7) (t := 0) (v := 97) dJ1_charAt_3b067_8 (by decide) (ix_c (by decide)) rfl ?_
  refine ab_sipush (v := 255) dJ1_charAt_3b067_9 (by decide) ?_
  refine ab_iand dJ1_charAt_3b067_12 ?_
  refine ab_topi (v := 97) (by decide) ?_
  refine ab_i2c dJ1_charAt_3b067_13 ?_
  refine ab_topi (v := 97) (by decide) ?_
  exact ab_zret dJ1_charAt_3b067_14 rfl rfl (by decide) (⟨rfl, rfl⟩)
theorem c_chr_7_0 {w : ax_W}  : Ct M_J0_charAt_5068e [.ref 3007, .int 0] w (fun r w' => r = some (.int 97) ∧ w' = w) := by
  refine ct_ofF ⟨by decide +kernel, rfl⟩ (Nat.le_of_ble_eq_true rfl) ?_
  refine ab_aload_n dJ0_charAt_5068e_0 rfl ?_
  refine ab_callT (j := 7) (As := []) (rest := []) dJ0_charAt_5068e_1 mT_J0_isLatin1_aae02 ml_J0_492 ⟨by decide, by decide, rfl, rfl, rfl⟩ (by decide) rfl rfl (Nat.le_of_ble_eq_true rfl) (by decide) c_latin_7 ?_
  rintro r w' ⟨rfl, rfl⟩
  refine ab_ifeq 16 dJ0_charAt_5068e_4 (by decide) (fun h_1 => absurd h_1 (by decide)) (fun h_1 => ?_)
  refine ab_aload_n dJ0_charAt_5068e_7 rfl ?_
  refine ab_sval (j := 7) dJ0_charAt_5068e_8 fs_J0_9 (by decide) ?_
  refine ab_iload_n dJ0_charAt_5068e_11 rfl ?_
  refine ab_callS (As := [.ref 4007, .int 0]) (rest := []) dJ0_charAt_5068e_12 ms_J1_charAt_3b067 ml_J0_495 ⟨by decide, by decide, rfl, rfl, rfl⟩ (by decide) rfl rfl (Nat.le_of_ble_eq_true rfl) c_lat_7_0 ?_
  rintro r w' ⟨rfl, rfl⟩
  exact ab_zret dJ0_charAt_5068e_15 rfl rfl (by decide) (⟨rfl, rfl⟩)
theorem c_lat_7_1 {w : ax_W}  : Ct M_J1_charAt_3b067 [.ref 4007, .int 1] w (fun r w' => r = some (.int 114) ∧ w' = w) := by
  refine ct_ofF ⟨by decide +kernel, rfl⟩ (Nat.le_of_ble_eq_true rfl) ?_
  refine ab_iload_n dJ1_charAt_3b067_0 rfl ?_
  refine ab_aload_n dJ1_charAt_3b067_1 rfl ?_
  refine ab_sblen (j := 7) (v := 3) dJ1_charAt_3b067_2 (by decide) rfl ?_
  refine ab_callS (As := [.int 1, .int 3]) (rest := []) dJ1_charAt_3b067_3 ms_J0_checkIndex_df160 ml_J1_9 ⟨by decide, by decide, rfl, rfl, rfl⟩ (by decide) rfl rfl (Nat.le_of_ble_eq_true rfl) (c_ck0 (by decide)) ?_
  rintro r w' ⟨rfl, rfl⟩
  refine ab_aload_n dJ1_charAt_3b067_6 rfl ?_
  refine ab_iload_n dJ1_charAt_3b067_7 rfl ?_
  refine ab_sbld (j := 7) (t := 1) (v := 114) dJ1_charAt_3b067_8 (by decide) (ix_c (by decide)) rfl ?_
  refine ab_sipush (v := 255) dJ1_charAt_3b067_9 (by decide) ?_
  refine ab_iand dJ1_charAt_3b067_12 ?_
  refine ab_topi (v := 114) (by decide) ?_
  refine ab_i2c dJ1_charAt_3b067_13 ?_
  refine ab_topi (v := 114) (by decide) ?_
  exact ab_zret dJ1_charAt_3b067_14 rfl rfl (by decide) (⟨rfl, rfl⟩)
theorem c_chr_7_1 {w : ax_W}  : Ct M_J0_charAt_5068e [.ref 3007, .int 1] w (fun r w' => r = some (.int 114) ∧ w' = w) := by
  refine ct_ofF ⟨by decide +kernel, rfl⟩ (Nat.le_of_ble_eq_true rfl) ?_
  refine ab_aload_n dJ0_charAt_5068e_0 rfl ?_
  refine ab_callT (j := 7) (As := []) (rest := []) dJ0_charAt_5068e_1 mT_J0_isLatin1_aae02 ml_J0_492 ⟨by decide, by decide, rfl, rfl, rfl⟩ (by decide) rfl rfl (Nat.le_of_ble_eq_true rfl) (by decide) c_latin_7 ?_
  rintro r w' ⟨rfl, rfl⟩
  refine ab_ifeq 16 dJ0_charAt_5068e_4 (by decide) (fun h_1 => absurd h_1 (by decide)) (fun h_1 => ?_)
  refine ab_aload_n dJ0_charAt_5068e_7 rfl ?_
  refine ab_sval (j := 7) dJ0_charAt_5068e_8 fs_J0_9 (by decide) ?_
  refine ab_iload_n dJ0_charAt_5068e_11 rfl ?_
  refine ab_callS (As := [.ref 4007, .int 1]) (rest := []) dJ0_charAt_5068e_12 ms_J1_charAt_3b067 ml_J0_495 ⟨by decide, by decide, rfl, rfl, rfl⟩ (by decide) rfl rfl (Nat.le_of_ble_eq_true rfl) c_lat_7_1 ?_
  rintro r w' ⟨rfl, rfl⟩
  exact ab_zret dJ0_charAt_5068e_15 rfl rfl (by decide) (⟨rfl, rfl⟩)
theorem c_lat_7_2 {w : ax_W}  : Ct M_J1_charAt_3b067 [.ref 4007, .int 2] w (fun r w' => r = some (.int 109) ∧ w' = w) := by
  refine ct_ofF ⟨by decide +kernel, rfl⟩ (Nat.le_of_ble_eq_true rfl) ?_
  refine ab_iload_n dJ1_charAt_3b067_0 rfl ?_
  refine ab_aload_n dJ1_charAt_3b067_1 rfl ?_
  refine ab_sblen (j := 7) (v := 3) dJ1_charAt_3b067_2 (by decide) rfl ?_
  refine ab_callS (As := [.int 2, .int 3]) (rest := []) dJ1_charAt_3b067_3 ms_J0_checkIndex_df160 ml_J1_9 ⟨by decide, by decide, rfl, rfl, rfl⟩ (by decide) rfl rfl (Nat.le_of_ble_eq_true rfl) (c_ck0 (by decide)) ?_
  rintro r w' ⟨rfl, rfl⟩
  refine ab_aload_n dJ1_charAt_3b067_6 rfl ?_
  refine ab_iload_n dJ1_charAt_3b067_7 rfl ?_
  refine ab_sbld (j := 7) (t := 2) (v := 109) dJ1_charAt_3b067_8 (by decide) (ix_c (by decide)) rfl ?_
  refine ab_sipush (v := 255) dJ1_charAt_3b067_9 (by decide) ?_
  refine ab_iand dJ1_charAt_3b067_12 ?_
  refine ab_topi (v := 109) (by decide) ?_
  refine ab_i2c dJ1_charAt_3b067_13 ?_
  refine ab_topi (v := 109) (by decide) ?_
  exact ab_zret dJ1_charAt_3b067_14 rfl rfl (by decide) (⟨rfl, rfl⟩)
theorem c_chr_7_2 {w : ax_W}  : Ct M_J0_charAt_5068e [.ref 3007, .int 2] w (fun r w' => r = some (.int 109) ∧ w' = w) := by
  refine ct_ofF ⟨by decide +kernel, rfl⟩ (Nat.le_of_ble_eq_true rfl) ?_
  refine ab_aload_n dJ0_charAt_5068e_0 rfl ?_
  refine ab_callT (j := 7) (As := []) (rest := []) dJ0_charAt_5068e_1 mT_J0_isLatin1_aae02 ml_J0_492 ⟨by decide, by decide, rfl, rfl, rfl⟩ (by decide) rfl rfl (Nat.le_of_ble_eq_true rfl) (by decide) c_latin_7 ?_
  rintro r w' ⟨rfl, rfl⟩
  refine ab_ifeq 16 dJ0_charAt_5068e_4 (by decide) (fun h_1 => absurd h_1 (by decide)) (fun h_1 => ?_)
  refine ab_aload_n dJ0_charAt_5068e_7 rfl ?_
  refine ab_sval (j := 7) dJ0_charAt_5068e_8 fs_J0_9 (by decide) ?_
  refine ab_iload_n dJ0_charAt_5068e_11 rfl ?_
  refine ab_callS (As := [.ref 4007, .int 2]) (rest := []) dJ0_charAt_5068e_12 ms_J1_charAt_3b067 ml_J0_495 ⟨by decide, by decide, rfl, rfl, rfl⟩ (by decide) rfl rfl (Nat.le_of_ble_eq_true rfl) c_lat_7_2 ?_
  rintro r w' ⟨rfl, rfl⟩
  exact ab_zret dJ0_charAt_5068e_15 rfl rfl (by decide) (⟨rfl, rfl⟩)
