/-! THE LAW'S HELPER, which catches (gl8.py) -/
abbrev M_Lunb : ax_M := (yL_unbuilt, method_3_code, 4, some .int, { frames := 9, cells := 1, slots := 6, locals := 340 }, false, none)
theorem dL_unbuilt_0 : decode method_3_code 0 = .ok (.aload_n 2, 1) := by decide +kernel
theorem dL_unbuilt_1 : decode method_3_code 1 = .ok (.iconst 0, 1) := by decide +kernel
theorem dL_unbuilt_2 : decode method_3_code 2 = .ok (.aload_n 0, 1) := by decide +kernel
theorem dL_unbuilt_3 : decode method_3_code 3 = .ok (.iload_n 1, 1) := by decide +kernel
theorem dL_unbuilt_4 : decode method_3_code 4 = .ok (.invokevirtual 7, 3) := by decide +kernel
theorem dL_unbuilt_7 : decode method_3_code 7 = .ok (.i2l, 1) := by decide +kernel
theorem dL_unbuilt_8 : decode method_3_code 8 = .ok (.lastore, 1) := by decide +kernel
theorem dL_unbuilt_9 : decode method_3_code 9 = .ok (.goto 6, 3) := by decide +kernel
theorem dL_unbuilt_12 : decode method_3_code 12 = .ok (.astore_n 3, 1) := by decide +kernel
theorem dL_unbuilt_13 : decode method_3_code 13 = .ok (.iconst 1, 1) := by decide +kernel
theorem dL_unbuilt_14 : decode method_3_code 14 = .ok (.ireturn, 1) := by decide +kernel
theorem dL_unbuilt_15 : decode method_3_code 15 = .ok (.iconst 0, 1) := by decide +kernel
theorem dL_unbuilt_16 : decode method_3_code 16 = .ok (.ireturn, 1) := by decide +kernel
theorem cl_L_13 : Cond.classLink RL 13 NSE ∈ TB := tb_of 1276 (by decide +kernel) rfl
theorem cw_L : Cond.codeWith yL_unbuilt method_3_code 4 (some .int) [(0, 9, 12, 13)] ∈ TB := tb_of 1275 (by decide +kernel) rfl
theorem st_L : Cond.static yL_unbuilt ∈ TB := tb_of 1274 (by decide +kernel) rfl
theorem in_L : Cond.initialized RL ∈ TB := tb_of 0 (by decide +kernel) rfl
theorem up_g {sg : Nat → Nat} {o : ax_E} {w : ax_W} (h : w.2.length = 21) : ax_get (upW sg o w) 1021 = some o := by
  unfold ax_get upW
  rw [if_neg (by decide)]
  show (w.2.map (rnE sg) ++ [o])[21]? = some o
  rw [List.getElem?_append_right (by rw [List.length_map]; omega), List.length_map, h]
  rfl
theorem up_s {sg : Nat → Nat} {o x : ax_E} {w : ax_W} (h : w.2.length = 21) : ax_set (upW sg o w) 1021 x = upW sg x w := by
  unfold ax_set upW
  rw [if_neg (by decide)]
  show (_, (w.2.map (rnE sg) ++ [o]).set 21 x) = _
  rw [List.set_append_right _ _ (by rw [List.length_map]; omega), List.length_map, h]
  rfl
def Zh (QH : Int32 → ax_W → Prop) : ZT := fun p l e R s m args below meth c D ca ad A Qf =>
  ax_EX A s s.heap ∧ c.exceptionTable.toList = tableOf [(0, 9, 12, 13)] ∧
  (∀ (H : Heap) (locs : List Loc) (ls : Array Slot) (w' : ax_W), QH 1 w' → ax_P D ca ad A w' H s.heap locs → W p l e R s m args below meth c H locs 1 6 Qf (F0 m 14 ls [.int 1])) ∧
  (∀ (H : Heap) (locs : List Loc) (ls : Array Slot) (w' : ax_W), QH 0 w' → ax_P D ca ad A w' H s.heap locs → W p l e R s m args below meth c H locs 1 6 Qf (F0 m 16 ls [.int 0]))
theorem z_h {sg : Nat → Nat} {w : ax_W} {f : Nat → Int64} {a1 : Int32} {QR : Int32 → ax_W → Prop} {QX : ax_W → Prop} {QH : Int32 → ax_W → Prop} {fs : List Value} (hsg : isSg sg) (l1 : w.1.length = 33) (l2 : w.2.length = 21) (hg : ax_get w 0 = some (ob 8 fs)) (hct : CtX M_ub [.ref 0, .int a1] w QR QX)
    (hr : ∀ r w', QR r w' → (w'.1.length = 33 ∧ w'.2.length = 21) ∧ QH 0 (upW sg (ja 1 (vp_updL f 0 r.toInt64)) w')) (hx : ∀ w', QX w' → (w'.1.length = 33 ∧ w'.2.length = 21) ∧ QH 1 (upW sg (ja 1 f) w')) : AbZ (Zh QH) M_Lunb (0, 0) 0 [(0, .ref 0), (1, .int a1), (2, .ref 1021)] [] (upW sg (ja 1 f) w) := by
  refine az_aload_n dL_unbuilt_0 rfl ?_
  refine az_iconst (v := 0) dL_unbuilt_1 (by decide) ?_
  refine az_aload_n dL_unbuilt_2 rfl ?_
  refine az_iload_n dL_unbuilt_3 rfl ?_
  refine az_callX (As := [.int a1]) (rest := [.int 0, .ref 1021]) (sg_c hsg).1 l1 l2 dL_unbuilt_4 mv_X10_unbuilt ml_L_7 ⟨by decide, by decide⟩ ⟨by decide, by decide⟩ rfl (sg_c hsg).2.1 rfl rfl (by decide) hg hct (fun _ _ _ _ _ _ _ _ _ _ _ _ _ _ _ h => h.1) ?_ ?_
  · intro r w' q
    refine ⟨(hr r w' q).1, ?_⟩
    refine az_i2l dL_unbuilt_7 ?_
    refine az_last (n := 1) (j := 0) (f := f) (w1 := upW sg (ja 1 (vp_updL f 0 r.toInt64)) w') dL_unbuilt_8 (up_g (hr r w' q).1.2) (ix_nI (j := 0) (by decide) (by decide)) (up_s (hr r w' q).1.2) ?_
    refine az_goto 15 dL_unbuilt_9 (by decide) ?_
    refine az_iconst (v := 0) dL_unbuilt_15 (by decide) ?_
    exact fun _ _ _ _ _ _ _ _ _ _ _ _ _ _ _ H locs ls _ hP _ hE => hE.2.2.2 H locs ls _ (hr r w' q).2 hP
  · intro w' q
    refine ⟨(hx w' q).1, ?_⟩
    intro p l e R s m args below meth c D ca ad A Qf H locs ls q9 ce hC hP hl hE hce hcv hcl
    refine vx_catch (own := RL) (name := NSE) hC.2.2.2.2.1 [] _ [] (by rw [hE.2.1]; rfl) (fun z hz => nomatch hz) (by decide) (by decide) (hC.2.2.2.2.2.1 _ cl_L_13) (va_Nw.use rfl (hE.1.2.2 _ List.mem_cons_self)) hce hcv hcl ?_
    refine lv_astore_n hC.1 hC.2.1 dL_unbuilt_12 rfl (lv_sub hl [] rfl) (by decide) rfl (fun ls1 hl1 => ?_)
    have k1 : AbZ (Zh QH) M_Lunb (1, 6) 13 [] [] (upW sg (ja 1 f) w') := az_iconst (v := 1) dL_unbuilt_13 (by decide) (fun _ _ _ _ _ _ _ _ _ _ _ _ _ _ _ H locs ls _ hP _ hE => hE.2.2.1 H locs ls _ (hx w' q).2 hP)
    exact k1 p l e R s m args below meth c D ca ad A Qf H locs ls1 hC hP (lv_sub hl1 [] rfl) hE
