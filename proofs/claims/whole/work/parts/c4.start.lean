/-! THE LAW FROM ITS ENTRY TO ITS END -/
theorem whole_start {p : Program} {e : Env} {s : State} {m : MethodId} {below : List Frame} {meth : Method} {c : Code} (l : Launch) (hflags : l.flags = flags0) {b L : Nat} {xs : Nat → Int32} (hL : L ≤ 3072) (hnm : meth.name = "law") (C0 : lw_At p s m meth c b L xs) : W p l e room_1 s m #[Value.ref b] below meth c s.heap [] 0 0 (lw_Z below #[Value.ref b] s) (entryFrame m ([Value.ref b] : List Value).toArray 7) := by
  obtain ⟨hx, hb, hr, hml, hown, hts, hX, hbl, hlocks, hgv⟩ := C0
  have hA : ∀ a : Nat, a < s.heap.size → ¬ (fun q : Nat => s.heap.size ≤ q) a := fun a h h2 => Nat.not_le.mpr h h2
  obtain ⟨D, ca, hK⟩ := gv_K hts
  obtain ⟨ad, h5, hRO⟩ := gv_RO (A := fun q : Nat => s.heap.size ≤ q) hgv hts hA
  have hEX := gv_EX (A := fun q : Nat => s.heap.size ≤ q) hgv hts hA
  have hl := lv_entry ([.ref b]) (n := 7) (Nat.le_of_ble_eq_true rfl)
  rw [lg_entry_eq]
  generalize (lg_sl ([.ref b]) ++ List.replicate (7 - (lg_sl ([.ref b])).length) Slot.unset).toArray = ls at hl ⊢
  have hl : lv_has ls 7 [(0, .ref b)] := hl
  have hl2 : lv_has ls 7 [(0, .ref (ad 5000))] := by rw [h5]; exact hl
  have hC : ax_C (M_law L xs) p l room_1 s m #[Value.ref b] meth c D ca ad (fun q : Nat => s.heap.size ≤ q) :=
    ⟨hx, hb, hml, hr, hown, gv_tb hts, hlocks, hnm, rfl, hK, fun _ h => h, hRO, hflags, fun L' xs' hX' => by
      cases hX'
      rw [h5]
      exact ⟨hX, hbl, Nat.not_le.mpr hbl⟩⟩
  have hP : ax_P D ca ad (fun q : Nat => s.heap.size ≤ q) ([], []) s.heap s.heap [] :=
    ⟨fun k q h => by simp [ax_w, ax_x] at h, ⟨fun i j p q h => by simp [ax_w, ax_x] at h, fun k q h => by simp [ax_w, ax_x] at h⟩, va_S.rf⟩
  refine lw_entry hL p l e room_1 s m #[Value.ref b] below meth c D ca ad _ _ s.heap [] ls hC hP hl2 ⟨hEX, ?_⟩
  intro H locs ls k n hk hn hS
  exact W.widen (k := 1080) (n := 11187) hk hn (va_forget (fun q hq => hS.2.2 q hq) (lw_ret hx hb hr hlocks dL_law_2802))
