/-! THE LAW'S CASES (written by program: gl3.py) -/
theorem lc_0 {Z : ZT} {L : Nat} {xs : Nat → Int32} {kn : Nat × Nat} {i : Nat} {w : ax_W} {sg : Nat → Nat} {o : ax_E} (hsg : isSg sg) (hI : INV w) (hi : i + 6 ≤ L) (hL : L ≤ 3072) (hk : kn.1 ≤ 1080 ∧ kn.2 ≤ 11187) (kk : ∀ (sg : Nat → Nat) (w : ax_W), isSg sg → INV w → AbZ Z (M_law L xs) kn 2795 (lwL i) [] (upW sg o w)) : AbZ Z (M_law L xs) kn 292 (lwL i) [] (upW sg o w) := by
  obtain ⟨Q1, c1, h⟩ := prx_of (pr_feed hI (xs (i + 1)) (xs (i + 2)) (xs (i + 3)) (xs (i + 4)) (xs (i + 5)))
  refine az_aload_n dL_law_292 (x := 0) rfl ?_
  refine lw_arg 1 (lw_ix (by omega) hL (by decide)) dL_law_293 dL_law_294 dL_law_296 dL_law_297 dL_law_298 ?_
  refine lw_arg 2 (lw_ix (by omega) hL (by decide)) dL_law_299 dL_law_300 dL_law_302 dL_law_303 dL_law_304 ?_
  refine lw_arg 3 (lw_ix (by omega) hL (by decide)) dL_law_305 dL_law_306 dL_law_308 dL_law_309 dL_law_310 ?_
  refine lw_arg 4 (lw_ix (by omega) hL (by decide)) dL_law_311 dL_law_312 dL_law_314 dL_law_315 dL_law_316 ?_
  refine lw_arg 5 (lw_ix (by omega) hL (by decide)) dL_law_317 dL_law_318 dL_law_320 dL_law_321 dL_law_322 ?_
  refine lw_x hsg hI dL_law_323 mv_X10_feed ml_L_19 ⟨Nat.le_of_ble_eq_true rfl, Nat.le_of_ble_eq_true rfl, rfl, rfl, rfl⟩ hk (As := [.int (xs (i + 1)), .int (xs (i + 2)), .int (xs (i + 3)), .int (xs (i + 4)), .int (xs (i + 5))]) rfl rfl c1 (fun r w' q => ?_)
  obtain ⟨l1, l2, hg, Q2, c2, h2⟩ := h r w' q
  refine ⟨⟨l1, l2⟩, ?_⟩
  refine az_aload_n dL_law_326 (x := 1000) rfl ?_
  refine lw_arg 1 (lw_ix (by omega) hL (by decide)) dL_law_327 dL_law_328 dL_law_330 dL_law_331 dL_law_332 ?_
  refine lw_arg 2 (lw_ix (by omega) hL (by decide)) dL_law_333 dL_law_334 dL_law_336 dL_law_337 dL_law_338 ?_
  refine lw_arg 3 (lw_ix (by omega) hL (by decide)) dL_law_339 dL_law_340 dL_law_342 dL_law_343 dL_law_344 ?_
  refine lw_arg 4 (lw_ix (by omega) hL (by decide)) dL_law_345 dL_law_346 dL_law_348 dL_law_349 dL_law_350 ?_
  refine lw_arg 5 (lw_ix (by omega) hL (by decide)) dL_law_351 dL_law_352 dL_law_354 dL_law_355 dL_law_356 ?_
  refine lw_m hsg l1 l2 hg dL_law_357 mv_X11_feed ml_L_23 ⟨Nat.le_of_ble_eq_true rfl, Nat.le_of_ble_eq_true rfl, rfl, rfl, rfl⟩ hk (As := [.int (xs (i + 1)), .int (xs (i + 2)), .int (xs (i + 3)), .int (xs (i + 4)), .int (xs (i + 5))]) rfl rfl c2 (fun r2 w2 q2 => ?_)
  obtain ⟨e1, e2, e3⟩ := h2 r2 w2 q2
  obtain ⟨m1, m2, w3, i3, e4⟩ := e3
  obtain ⟨sg2, s2, e5⟩ := e4 sg o hsg
  refine ⟨⟨m1, m2⟩, lw_eqI (tgt := 2795) ⟨e1, e2⟩ dL_law_360 (by decide) ?_⟩
  rw [e5]
  exact kk sg2 w3 s2 i3
theorem lc_1 {Z : ZT} {L : Nat} {xs : Nat → Int32} {kn : Nat × Nat} {i : Nat} {w : ax_W} {sg : Nat → Nat} {o : ax_E} (hsg : isSg sg) (hI : INV w) (hi : i + 6 ≤ L) (hL : L ≤ 3072) (hk : kn.1 ≤ 1080 ∧ kn.2 ≤ 11187) (kk : ∀ (sg : Nat → Nat) (w : ax_W), isSg sg → INV w → AbZ Z (M_law L xs) kn 2795 (lwL i) [] (upW sg o w)) : AbZ Z (M_law L xs) kn 365 (lwL i) [] (upW sg o w) := by
  obtain ⟨Q1, c1, h⟩ := pr_desk hI (xs (i + 1))
  refine az_aload_n dL_law_365 (x := 0) rfl ?_
  refine lw_arg 1 (lw_ix (by omega) hL (by decide)) dL_law_366 dL_law_367 dL_law_369 dL_law_370 dL_law_371 ?_
  refine lw_x hsg hI dL_law_372 mv_X10_desk ml_L_24 ⟨Nat.le_of_ble_eq_true rfl, Nat.le_of_ble_eq_true rfl, rfl, rfl, rfl⟩ hk (As := [.int (xs (i + 1))]) rfl rfl c1 (fun r w' q => ?_)
  obtain ⟨l1, l2, hg, Q2, c2, h2⟩ := h r w' q
  refine ⟨⟨l1, l2⟩, ?_⟩
  refine az_aload_n dL_law_375 (x := 1000) rfl ?_
  refine lw_arg 1 (lw_ix (by omega) hL (by decide)) dL_law_376 dL_law_377 dL_law_379 dL_law_380 dL_law_381 ?_
  refine lw_m hsg l1 l2 hg dL_law_382 mv_X11_desk ml_L_27 ⟨Nat.le_of_ble_eq_true rfl, Nat.le_of_ble_eq_true rfl, rfl, rfl, rfl⟩ hk (As := [.int (xs (i + 1))]) rfl rfl c2 (fun r2 w2 q2 => ?_)
  obtain ⟨e1, e2, e3⟩ := h2 r2 w2 q2
  obtain ⟨m1, m2, w3, i3, e4⟩ := e3
  obtain ⟨sg2, s2, e5⟩ := e4 sg o hsg
  refine ⟨⟨m1, m2⟩, lw_eqI (tgt := 2795) ⟨e1, e2⟩ dL_law_385 (by decide) ?_⟩
  rw [e5]
  exact kk sg2 w3 s2 i3
theorem lc_2 {Z : ZT} {L : Nat} {xs : Nat → Int32} {kn : Nat × Nat} {i : Nat} {w : ax_W} {sg : Nat → Nat} {o : ax_E} (hsg : isSg sg) (hI : INV w) (hi : i + 6 ≤ L) (hL : L ≤ 3072) (hk : kn.1 ≤ 1080 ∧ kn.2 ≤ 11187) (kk : ∀ (sg : Nat → Nat) (w : ax_W), isSg sg → INV w → AbZ Z (M_law L xs) kn 2795 (lwL i) [] (upW sg o w)) : AbZ Z (M_law L xs) kn 390 (lwL i) [] (upW sg o w) := by
  obtain ⟨Q1, c1, h⟩ := prx_of (pr_fault hI)
  refine az_aload_n dL_law_390 (x := 0) rfl ?_
  refine lw_x hsg hI dL_law_391 mv_X10_fault ml_L_28 ⟨Nat.le_of_ble_eq_true rfl, Nat.le_of_ble_eq_true rfl, rfl, rfl, rfl⟩ hk (As := []) rfl rfl c1 (fun r w' q => ?_)
  obtain ⟨l1, l2, hg, Q2, c2, h2⟩ := h r w' q
  refine ⟨⟨l1, l2⟩, ?_⟩
  refine az_aload_n dL_law_394 (x := 1000) rfl ?_
  refine lw_m hsg l1 l2 hg dL_law_395 mv_X11_fault ml_L_32 ⟨Nat.le_of_ble_eq_true rfl, Nat.le_of_ble_eq_true rfl, rfl, rfl, rfl⟩ hk (As := []) rfl rfl c2 (fun r2 w2 q2 => ?_)
  obtain ⟨e1, e2, e3⟩ := h2 r2 w2 q2
  obtain ⟨m1, m2, w3, i3, e4⟩ := e3
  obtain ⟨sg2, s2, e5⟩ := e4 sg o hsg
  refine ⟨⟨m1, m2⟩, lw_eqI (tgt := 2795) ⟨e1, e2⟩ dL_law_398 (by decide) ?_⟩
  rw [e5]
  exact kk sg2 w3 s2 i3
theorem lc_3 {Z : ZT} {L : Nat} {xs : Nat → Int32} {kn : Nat × Nat} {i : Nat} {w : ax_W} {sg : Nat → Nat} {o : ax_E} (hsg : isSg sg) (hI : INV w) (hi : i + 6 ≤ L) (hL : L ≤ 3072) (hk : kn.1 ≤ 1080 ∧ kn.2 ≤ 11187) (kk : ∀ (sg : Nat → Nat) (w : ax_W), isSg sg → INV w → AbZ Z (M_law L xs) kn 2795 (lwL i) [] (upW sg o w)) : AbZ Z (M_law L xs) kn 403 (lwL i) [] (upW sg o w) := by
  obtain ⟨Q1, c1, h⟩ := prx_of (pr_where hI)
  refine az_aload_n dL_law_403 (x := 0) rfl ?_
  refine lw_x hsg hI dL_law_404 mv_X10_where ml_L_33 ⟨Nat.le_of_ble_eq_true rfl, Nat.le_of_ble_eq_true rfl, rfl, rfl, rfl⟩ hk (As := []) rfl rfl c1 (fun r w' q => ?_)
  obtain ⟨l1, l2, hg, Q2, c2, h2⟩ := h r w' q
  refine ⟨⟨l1, l2⟩, ?_⟩
  refine az_aload_n dL_law_407 (x := 1000) rfl ?_
  refine lw_m hsg l1 l2 hg dL_law_408 mv_X11_where ml_L_36 ⟨Nat.le_of_ble_eq_true rfl, Nat.le_of_ble_eq_true rfl, rfl, rfl, rfl⟩ hk (As := []) rfl rfl c2 (fun r2 w2 q2 => ?_)
  obtain ⟨e1, e2, e3⟩ := h2 r2 w2 q2
  obtain ⟨m1, m2, w3, i3, e4⟩ := e3
  obtain ⟨sg2, s2, e5⟩ := e4 sg o hsg
  refine ⟨⟨m1, m2⟩, lw_eqI (tgt := 2795) ⟨e1, e2⟩ dL_law_411 (by decide) ?_⟩
  rw [e5]
  exact kk sg2 w3 s2 i3
theorem lc_4 {Z : ZT} {L : Nat} {xs : Nat → Int32} {kn : Nat × Nat} {i : Nat} {w : ax_W} {sg : Nat → Nat} {o : ax_E} (hsg : isSg sg) (hI : INV w) (hi : i + 6 ≤ L) (hL : L ≤ 3072) (hk : kn.1 ≤ 1080 ∧ kn.2 ≤ 11187) (kk : ∀ (sg : Nat → Nat) (w : ax_W), isSg sg → INV w → AbZ Z (M_law L xs) kn 2795 (lwL i) [] (upW sg o w)) : AbZ Z (M_law L xs) kn 416 (lwL i) [] (upW sg o w) := by
  obtain ⟨Q1, c1, h⟩ := prx_of (pr_angles hI)
  refine az_aload_n dL_law_416 (x := 0) rfl ?_
  refine lw_x hsg hI dL_law_417 mv_X10_angles ml_L_37 ⟨Nat.le_of_ble_eq_true rfl, Nat.le_of_ble_eq_true rfl, rfl, rfl, rfl⟩ hk (As := []) rfl rfl c1 (fun r w' q => ?_)
  obtain ⟨l1, l2, hg, Q2, c2, h2⟩ := h r w' q
  refine ⟨⟨l1, l2⟩, ?_⟩
  refine az_aload_n dL_law_420 (x := 1000) rfl ?_
  refine lw_m hsg l1 l2 hg dL_law_421 mv_X11_angles ml_L_40 ⟨Nat.le_of_ble_eq_true rfl, Nat.le_of_ble_eq_true rfl, rfl, rfl, rfl⟩ hk (As := []) rfl rfl c2 (fun r2 w2 q2 => ?_)
  obtain ⟨e1, e2, e3⟩ := h2 r2 w2 q2
  obtain ⟨m1, m2, w3, i3, e4⟩ := e3
  obtain ⟨sg2, s2, e5⟩ := e4 sg o hsg
  refine ⟨⟨m1, m2⟩, lw_eqI (tgt := 2795) ⟨e1, e2⟩ dL_law_424 (by decide) ?_⟩
  rw [e5]
  exact kk sg2 w3 s2 i3
theorem lc_5 {Z : ZT} {L : Nat} {xs : Nat → Int32} {kn : Nat × Nat} {i : Nat} {w : ax_W} {sg : Nat → Nat} {o : ax_E} (hsg : isSg sg) (hI : INV w) (hi : i + 6 ≤ L) (hL : L ≤ 3072) (hk : kn.1 ≤ 1080 ∧ kn.2 ≤ 11187) (kk : ∀ (sg : Nat → Nat) (w : ax_W), isSg sg → INV w → AbZ Z (M_law L xs) kn 2795 (lwL i) [] (upW sg o w)) : AbZ Z (M_law L xs) kn 429 (lwL i) [] (upW sg o w) := by
  obtain ⟨Q1, c1, h⟩ := prx_of (pr_angle hI (xs (i + 1)) (xs (i + 2)))
  refine az_aload_n dL_law_429 (x := 0) rfl ?_
  refine lw_arg 1 (lw_ix (by omega) hL (by decide)) dL_law_430 dL_law_431 dL_law_433 dL_law_434 dL_law_435 ?_
  refine lw_arg 2 (lw_ix (by omega) hL (by decide)) dL_law_436 dL_law_437 dL_law_439 dL_law_440 dL_law_441 ?_
  refine lw_x hsg hI dL_law_442 mv_X10_angle ml_L_41 ⟨Nat.le_of_ble_eq_true rfl, Nat.le_of_ble_eq_true rfl, rfl, rfl, rfl⟩ hk (As := [.int (xs (i + 1)), .int (xs (i + 2))]) rfl rfl c1 (fun r w' q => ?_)
  obtain ⟨l1, l2, hg, Q2, c2, h2⟩ := h r w' q
  refine ⟨⟨l1, l2⟩, ?_⟩
  refine az_aload_n dL_law_445 (x := 1000) rfl ?_
  refine lw_arg 1 (lw_ix (by omega) hL (by decide)) dL_law_446 dL_law_447 dL_law_449 dL_law_450 dL_law_451 ?_
  refine lw_arg 2 (lw_ix (by omega) hL (by decide)) dL_law_452 dL_law_453 dL_law_455 dL_law_456 dL_law_457 ?_
  refine lw_m hsg l1 l2 hg dL_law_458 mv_X11_angle ml_L_45 ⟨Nat.le_of_ble_eq_true rfl, Nat.le_of_ble_eq_true rfl, rfl, rfl, rfl⟩ hk (As := [.int (xs (i + 1)), .int (xs (i + 2))]) rfl rfl c2 (fun r2 w2 q2 => ?_)
  obtain ⟨e1, e2, e3⟩ := h2 r2 w2 q2
  obtain ⟨m1, m2, w3, i3, e4⟩ := e3
  obtain ⟨sg2, s2, e5⟩ := e4 sg o hsg
  refine ⟨⟨m1, m2⟩, lw_eqI (tgt := 2795) ⟨e1, e2⟩ dL_law_461 (by decide) ?_⟩
  rw [e5]
  exact kk sg2 w3 s2 i3
theorem lc_6 {Z : ZT} {L : Nat} {xs : Nat → Int32} {kn : Nat × Nat} {i : Nat} {w : ax_W} {sg : Nat → Nat} {o : ax_E} (hsg : isSg sg) (hI : INV w) (hi : i + 6 ≤ L) (hL : L ≤ 3072) (hk : kn.1 ≤ 1080 ∧ kn.2 ≤ 11187) (kk : ∀ (sg : Nat → Nat) (w : ax_W), isSg sg → INV w → AbZ Z (M_law L xs) kn 2795 (lwL i) [] (upW sg o w)) : AbZ Z (M_law L xs) kn 466 (lwL i) [] (upW sg o w) := by
  obtain ⟨Q1, c1, h⟩ := prx_of (pr_which hI (xs (i + 1)) (xs (i + 2)))
  refine az_aload_n dL_law_466 (x := 0) rfl ?_
  refine lw_arg 1 (lw_ix (by omega) hL (by decide)) dL_law_467 dL_law_468 dL_law_470 dL_law_471 dL_law_472 ?_
  refine lw_arg 2 (lw_ix (by omega) hL (by decide)) dL_law_473 dL_law_474 dL_law_476 dL_law_477 dL_law_478 ?_
  refine lw_x hsg hI dL_law_479 mv_X10_which ml_L_46 ⟨Nat.le_of_ble_eq_true rfl, Nat.le_of_ble_eq_true rfl, rfl, rfl, rfl⟩ hk (As := [.int (xs (i + 1)), .int (xs (i + 2))]) rfl rfl c1 (fun r w' q => ?_)
  obtain ⟨l1, l2, hg, Q2, c2, h2⟩ := h r w' q
  refine ⟨⟨l1, l2⟩, ?_⟩
  refine az_aload_n dL_law_482 (x := 1000) rfl ?_
  refine lw_arg 1 (lw_ix (by omega) hL (by decide)) dL_law_483 dL_law_484 dL_law_486 dL_law_487 dL_law_488 ?_
  refine lw_arg 2 (lw_ix (by omega) hL (by decide)) dL_law_489 dL_law_490 dL_law_492 dL_law_493 dL_law_494 ?_
  refine lw_m hsg l1 l2 hg dL_law_495 mv_X11_which ml_L_49 ⟨Nat.le_of_ble_eq_true rfl, Nat.le_of_ble_eq_true rfl, rfl, rfl, rfl⟩ hk (As := [.int (xs (i + 1)), .int (xs (i + 2))]) rfl rfl c2 (fun r2 w2 q2 => ?_)
  obtain ⟨e1, e2, e3⟩ := h2 r2 w2 q2
  obtain ⟨m1, m2, w3, i3, e4⟩ := e3
  obtain ⟨sg2, s2, e5⟩ := e4 sg o hsg
  refine ⟨⟨m1, m2⟩, lw_eqI (tgt := 2795) ⟨e1, e2⟩ dL_law_498 (by decide) ?_⟩
  rw [e5]
  exact kk sg2 w3 s2 i3
theorem lc_7 {Z : ZT} {L : Nat} {xs : Nat → Int32} {kn : Nat × Nat} {i : Nat} {w : ax_W} {sg : Nat → Nat} {o : ax_E} (hsg : isSg sg) (hI : INV w) (hi : i + 6 ≤ L) (hL : L ≤ 3072) (hk : kn.1 ≤ 1080 ∧ kn.2 ≤ 11187) (kk : ∀ (sg : Nat → Nat) (w : ax_W), isSg sg → INV w → AbZ Z (M_law L xs) kn 2795 (lwL i) [] (upW sg o w)) : AbZ Z (M_law L xs) kn 503 (lwL i) [] (upW sg o w) := by
  obtain ⟨Q1, c1, h⟩ := prx_of (pr_bar hI (xs (i + 1)) (xs (i + 2)))
  refine az_aload_n dL_law_503 (x := 0) rfl ?_
  refine lw_arg 1 (lw_ix (by omega) hL (by decide)) dL_law_504 dL_law_505 dL_law_507 dL_law_508 dL_law_509 ?_
  refine lw_arg 2 (lw_ix (by omega) hL (by decide)) dL_law_510 dL_law_511 dL_law_513 dL_law_514 dL_law_515 ?_
  refine lw_x hsg hI dL_law_516 mv_X10_bar ml_L_50 ⟨Nat.le_of_ble_eq_true rfl, Nat.le_of_ble_eq_true rfl, rfl, rfl, rfl⟩ hk (As := [.int (xs (i + 1)), .int (xs (i + 2))]) rfl rfl c1 (fun r w' q => ?_)
  obtain ⟨l1, l2, hg, Q2, c2, h2⟩ := h r w' q
  refine ⟨⟨l1, l2⟩, ?_⟩
  refine az_aload_n dL_law_519 (x := 1000) rfl ?_
  refine lw_arg 1 (lw_ix (by omega) hL (by decide)) dL_law_520 dL_law_521 dL_law_523 dL_law_524 dL_law_525 ?_
  refine lw_arg 2 (lw_ix (by omega) hL (by decide)) dL_law_526 dL_law_527 dL_law_529 dL_law_530 dL_law_531 ?_
  refine lw_m hsg l1 l2 hg dL_law_532 mv_X11_bar ml_L_53 ⟨Nat.le_of_ble_eq_true rfl, Nat.le_of_ble_eq_true rfl, rfl, rfl, rfl⟩ hk (As := [.int (xs (i + 1)), .int (xs (i + 2))]) rfl rfl c2 (fun r2 w2 q2 => ?_)
  obtain ⟨e1, e2, e3⟩ := h2 r2 w2 q2
  obtain ⟨m1, m2, w3, i3, e4⟩ := e3
  obtain ⟨sg2, s2, e5⟩ := e4 sg o hsg
  refine ⟨⟨m1, m2⟩, lw_eqI (tgt := 2795) ⟨e1, e2⟩ dL_law_535 (by decide) ?_⟩
  rw [e5]
  exact kk sg2 w3 s2 i3
theorem lc_8 {Z : ZT} {L : Nat} {xs : Nat → Int32} {kn : Nat × Nat} {i : Nat} {w : ax_W} {sg : Nat → Nat} {o : ax_E} (hsg : isSg sg) (hI : INV w) (hi : i + 6 ≤ L) (hL : L ≤ 3072) (hk : kn.1 ≤ 1080 ∧ kn.2 ≤ 11187) (kk : ∀ (sg : Nat → Nat) (w : ax_W), isSg sg → INV w → AbZ Z (M_law L xs) kn 2795 (lwL i) [] (upW sg o w)) : AbZ Z (M_law L xs) kn 540 (lwL i) [] (upW sg o w) := by
  obtain ⟨Q1, c1, h⟩ := prx_of (pr_sums hI (xs (i + 1)))
  refine az_aload_n dL_law_540 (x := 0) rfl ?_
  refine lw_arg 1 (lw_ix (by omega) hL (by decide)) dL_law_541 dL_law_542 dL_law_544 dL_law_545 dL_law_546 ?_
  refine lw_x hsg hI dL_law_547 mv_X10_sums ml_L_54 ⟨Nat.le_of_ble_eq_true rfl, Nat.le_of_ble_eq_true rfl, rfl, rfl, rfl⟩ hk (As := [.int (xs (i + 1))]) rfl rfl c1 (fun r w' q => ?_)
  obtain ⟨l1, l2, hg, Q2, c2, h2⟩ := h r w' q
  refine ⟨⟨l1, l2⟩, ?_⟩
  refine az_aload_n dL_law_550 (x := 1000) rfl ?_
  refine lw_arg 1 (lw_ix (by omega) hL (by decide)) dL_law_551 dL_law_552 dL_law_554 dL_law_555 dL_law_556 ?_
  refine lw_m hsg l1 l2 hg dL_law_557 mv_X11_sums ml_L_57 ⟨Nat.le_of_ble_eq_true rfl, Nat.le_of_ble_eq_true rfl, rfl, rfl, rfl⟩ hk (As := [.int (xs (i + 1))]) rfl rfl c2 (fun r2 w2 q2 => ?_)
  obtain ⟨e1, e2, e3⟩ := h2 r2 w2 q2
  obtain ⟨m1, m2, w3, i3, e4⟩ := e3
  obtain ⟨sg2, s2, e5⟩ := e4 sg o hsg
  refine ⟨⟨m1, m2⟩, lw_eqI (tgt := 2795) ⟨e1, e2⟩ dL_law_560 (by decide) ?_⟩
  rw [e5]
  exact kk sg2 w3 s2 i3
theorem lc_9 {Z : ZT} {L : Nat} {xs : Nat → Int32} {kn : Nat × Nat} {i : Nat} {w : ax_W} {sg : Nat → Nat} {o : ax_E} (hsg : isSg sg) (hI : INV w) (hi : i + 6 ≤ L) (hL : L ≤ 3072) (hk : kn.1 ≤ 1080 ∧ kn.2 ≤ 11187) (kk : ∀ (sg : Nat → Nat) (w : ax_W), isSg sg → INV w → AbZ Z (M_law L xs) kn 2795 (lwL i) [] (upW sg o w)) : AbZ Z (M_law L xs) kn 565 (lwL i) [] (upW sg o w) := by
  obtain ⟨Q1, c1, h⟩ := prx_of (pr_kind hI (xs (i + 1)))
  refine az_aload_n dL_law_565 (x := 0) rfl ?_
  refine lw_arg 1 (lw_ix (by omega) hL (by decide)) dL_law_566 dL_law_567 dL_law_569 dL_law_570 dL_law_571 ?_
  refine lw_x hsg hI dL_law_572 mv_X10_kind ml_L_58 ⟨Nat.le_of_ble_eq_true rfl, Nat.le_of_ble_eq_true rfl, rfl, rfl, rfl⟩ hk (As := [.int (xs (i + 1))]) rfl rfl c1 (fun r w' q => ?_)
  obtain ⟨l1, l2, hg, Q2, c2, h2⟩ := h r w' q
  refine ⟨⟨l1, l2⟩, ?_⟩
  refine az_aload_n dL_law_575 (x := 1000) rfl ?_
  refine lw_arg 1 (lw_ix (by omega) hL (by decide)) dL_law_576 dL_law_577 dL_law_579 dL_law_580 dL_law_581 ?_
  refine lw_m hsg l1 l2 hg dL_law_582 mv_X11_kind ml_L_61 ⟨Nat.le_of_ble_eq_true rfl, Nat.le_of_ble_eq_true rfl, rfl, rfl, rfl⟩ hk (As := [.int (xs (i + 1))]) rfl rfl c2 (fun r2 w2 q2 => ?_)
  obtain ⟨e1, e2, e3⟩ := h2 r2 w2 q2
  obtain ⟨m1, m2, w3, i3, e4⟩ := e3
  obtain ⟨sg2, s2, e5⟩ := e4 sg o hsg
  refine ⟨⟨m1, m2⟩, lw_eqI (tgt := 2795) ⟨e1, e2⟩ dL_law_585 (by decide) ?_⟩
  rw [e5]
  exact kk sg2 w3 s2 i3
theorem lc_10 {Z : ZT} {L : Nat} {xs : Nat → Int32} {kn : Nat × Nat} {i : Nat} {w : ax_W} {sg : Nat → Nat} {o : ax_E} (hsg : isSg sg) (hI : INV w) (hi : i + 6 ≤ L) (hL : L ≤ 3072) (hk : kn.1 ≤ 1080 ∧ kn.2 ≤ 11187) (kk : ∀ (sg : Nat → Nat) (w : ax_W), isSg sg → INV w → AbZ Z (M_law L xs) kn 2795 (lwL i) [] (upW sg o w)) : AbZ Z (M_law L xs) kn 590 (lwL i) [] (upW sg o w) := by
  obtain ⟨Q1, c1, h⟩ := prx_of (pr_round hI (xs (i + 1)) (xs (i + 2)))
  refine az_aload_n dL_law_590 (x := 0) rfl ?_
  refine lw_arg 1 (lw_ix (by omega) hL (by decide)) dL_law_591 dL_law_592 dL_law_594 dL_law_595 dL_law_596 ?_
  refine lw_arg 2 (lw_ix (by omega) hL (by decide)) dL_law_597 dL_law_598 dL_law_600 dL_law_601 dL_law_602 ?_
  refine lw_x hsg hI dL_law_603 mv_X10_round ml_L_62 ⟨Nat.le_of_ble_eq_true rfl, Nat.le_of_ble_eq_true rfl, rfl, rfl, rfl⟩ hk (As := [.int (xs (i + 1)), .int (xs (i + 2))]) rfl rfl c1 (fun r w' q => ?_)
  obtain ⟨l1, l2, hg, Q2, c2, h2⟩ := h r w' q
  refine ⟨⟨l1, l2⟩, ?_⟩
  refine az_aload_n dL_law_606 (x := 1000) rfl ?_
  refine lw_arg 1 (lw_ix (by omega) hL (by decide)) dL_law_607 dL_law_608 dL_law_610 dL_law_611 dL_law_612 ?_
  refine lw_arg 2 (lw_ix (by omega) hL (by decide)) dL_law_613 dL_law_614 dL_law_616 dL_law_617 dL_law_618 ?_
  refine lw_m hsg l1 l2 hg dL_law_619 mv_X11_round ml_L_65 ⟨Nat.le_of_ble_eq_true rfl, Nat.le_of_ble_eq_true rfl, rfl, rfl, rfl⟩ hk (As := [.int (xs (i + 1)), .int (xs (i + 2))]) rfl rfl c2 (fun r2 w2 q2 => ?_)
  obtain ⟨e1, e2, e3⟩ := h2 r2 w2 q2
  obtain ⟨m1, m2, w3, i3, e4⟩ := e3
  obtain ⟨sg2, s2, e5⟩ := e4 sg o hsg
  refine ⟨⟨m1, m2⟩, lw_eqI (tgt := 2795) ⟨e1, e2⟩ dL_law_622 (by decide) ?_⟩
  rw [e5]
  exact kk sg2 w3 s2 i3
theorem lc_11 {Z : ZT} {L : Nat} {xs : Nat → Int32} {kn : Nat × Nat} {i : Nat} {w : ax_W} {sg : Nat → Nat} {o : ax_E} (hsg : isSg sg) (hI : INV w) (hi : i + 6 ≤ L) (hL : L ≤ 3072) (hk : kn.1 ≤ 1080 ∧ kn.2 ≤ 11187) (kk : ∀ (sg : Nat → Nat) (w : ax_W), isSg sg → INV w → AbZ Z (M_law L xs) kn 2795 (lwL i) [] (upW sg o w)) : AbZ Z (M_law L xs) kn 627 (lwL i) [] (upW sg o w) := by
  obtain ⟨Q1, c1, h⟩ := pr_least hI (xs (i + 1)) (if xs (i + 2) = 0 then 0 else 1)
  refine az_aload_n dL_law_627 (x := 0) rfl ?_
  refine lw_arg 1 (lw_ix (by omega) hL (by decide)) dL_law_628 dL_law_629 dL_law_631 dL_law_632 dL_law_633 ?_
  refine lw_arg 2 (lw_ix (by omega) hL (by decide)) dL_law_634 dL_law_635 dL_law_637 dL_law_638 dL_law_639 ?_
  refine lw_bool dL_law_640 dL_law_643 dL_law_644 dL_law_647 ?_
  refine lw_x hsg hI dL_law_648 mv_X10_least ml_L_66 ⟨Nat.le_of_ble_eq_true rfl, Nat.le_of_ble_eq_true rfl, rfl, rfl, rfl⟩ hk (As := [.int (xs (i + 1)), .int (if xs (i + 2) = 0 then 0 else 1)]) rfl rfl c1 (fun r w' q => ?_)
  obtain ⟨l1, l2, hg, Q2, c2, h2⟩ := h r w' q
  refine ⟨⟨l1, l2⟩, ?_⟩
  refine az_aload_n dL_law_651 (x := 1000) rfl ?_
  refine lw_arg 1 (lw_ix (by omega) hL (by decide)) dL_law_652 dL_law_653 dL_law_655 dL_law_656 dL_law_657 ?_
  refine lw_arg 2 (lw_ix (by omega) hL (by decide)) dL_law_658 dL_law_659 dL_law_661 dL_law_662 dL_law_663 ?_
  refine lw_bool dL_law_664 dL_law_667 dL_law_668 dL_law_671 ?_
  refine lw_m hsg l1 l2 hg dL_law_672 mv_X11_least ml_L_70 ⟨Nat.le_of_ble_eq_true rfl, Nat.le_of_ble_eq_true rfl, rfl, rfl, rfl⟩ hk (As := [.int (xs (i + 1)), .int (if xs (i + 2) = 0 then 0 else 1)]) rfl rfl c2 (fun r2 w2 q2 => ?_)
  obtain ⟨e1, e2, e3⟩ := h2 r2 w2 q2
  exact ⟨⟨(inv_w e3).1, (inv_w e3).2.1⟩, lw_eqL (tgt := 2795) ⟨e1, e2⟩ dL_law_675 dL_law_676 (by decide) (kk sg w2 hsg e3)⟩
theorem lc_12 {Z : ZT} {L : Nat} {xs : Nat → Int32} {kn : Nat × Nat} {i : Nat} {w : ax_W} {sg : Nat → Nat} {o : ax_E} (hsg : isSg sg) (hI : INV w) (hi : i + 6 ≤ L) (hL : L ≤ 3072) (hk : kn.1 ≤ 1080 ∧ kn.2 ≤ 11187) (kk : ∀ (sg : Nat → Nat) (w : ax_W), isSg sg → INV w → AbZ Z (M_law L xs) kn 2795 (lwL i) [] (upW sg o w)) : AbZ Z (M_law L xs) kn 681 (lwL i) [] (upW sg o w) := by
  obtain ⟨Q1, c1, h⟩ := pr_most hI (xs (i + 1)) (if xs (i + 2) = 0 then 0 else 1)
  refine az_aload_n dL_law_681 (x := 0) rfl ?_
  refine lw_arg 1 (lw_ix (by omega) hL (by decide)) dL_law_682 dL_law_683 dL_law_685 dL_law_686 dL_law_687 ?_
  refine lw_arg 2 (lw_ix (by omega) hL (by decide)) dL_law_688 dL_law_689 dL_law_691 dL_law_692 dL_law_693 ?_
  refine lw_bool dL_law_694 dL_law_697 dL_law_698 dL_law_701 ?_
  refine lw_x hsg hI dL_law_702 mv_X10_most ml_L_71 ⟨Nat.le_of_ble_eq_true rfl, Nat.le_of_ble_eq_true rfl, rfl, rfl, rfl⟩ hk (As := [.int (xs (i + 1)), .int (if xs (i + 2) = 0 then 0 else 1)]) rfl rfl c1 (fun r w' q => ?_)
  obtain ⟨l1, l2, hg, Q2, c2, h2⟩ := h r w' q
  refine ⟨⟨l1, l2⟩, ?_⟩
  refine az_aload_n dL_law_705 (x := 1000) rfl ?_
  refine lw_arg 1 (lw_ix (by omega) hL (by decide)) dL_law_706 dL_law_707 dL_law_709 dL_law_710 dL_law_711 ?_
  refine lw_arg 2 (lw_ix (by omega) hL (by decide)) dL_law_712 dL_law_713 dL_law_715 dL_law_716 dL_law_717 ?_
  refine lw_bool dL_law_718 dL_law_721 dL_law_722 dL_law_725 ?_
  refine lw_m hsg l1 l2 hg dL_law_726 mv_X11_most ml_L_74 ⟨Nat.le_of_ble_eq_true rfl, Nat.le_of_ble_eq_true rfl, rfl, rfl, rfl⟩ hk (As := [.int (xs (i + 1)), .int (if xs (i + 2) = 0 then 0 else 1)]) rfl rfl c2 (fun r2 w2 q2 => ?_)
  obtain ⟨e1, e2, e3⟩ := h2 r2 w2 q2
  exact ⟨⟨(inv_w e3).1, (inv_w e3).2.1⟩, lw_eqL (tgt := 2795) ⟨e1, e2⟩ dL_law_729 dL_law_730 (by decide) (kk sg w2 hsg e3)⟩
theorem lc_13 {Z : ZT} {L : Nat} {xs : Nat → Int32} {kn : Nat × Nat} {i : Nat} {w : ax_W} {sg : Nat → Nat} {o : ax_E} (hsg : isSg sg) (hI : INV w) (hi : i + 6 ≤ L) (hL : L ≤ 3072) (hk : kn.1 ≤ 1080 ∧ kn.2 ≤ 11187) (kk : ∀ (sg : Nat → Nat) (w : ax_W), isSg sg → INV w → AbZ Z (M_law L xs) kn 2795 (lwL i) [] (upW sg o w)) : AbZ Z (M_law L xs) kn 735 (lwL i) [] (upW sg o w) := by
  obtain ⟨Q1, c1, h⟩ := prx_of (pr_ends hI (xs (i + 1)))
  refine az_aload_n dL_law_735 (x := 0) rfl ?_
  refine lw_arg 1 (lw_ix (by omega) hL (by decide)) dL_law_736 dL_law_737 dL_law_739 dL_law_740 dL_law_741 ?_
  refine lw_x hsg hI dL_law_742 mv_X10_ends ml_L_75 ⟨Nat.le_of_ble_eq_true rfl, Nat.le_of_ble_eq_true rfl, rfl, rfl, rfl⟩ hk (As := [.int (xs (i + 1))]) rfl rfl c1 (fun r w' q => ?_)
  obtain ⟨l1, l2, hg, Q2, c2, h2⟩ := h r w' q
  refine ⟨⟨l1, l2⟩, ?_⟩
  refine az_aload_n dL_law_745 (x := 1000) rfl ?_
  refine lw_arg 1 (lw_ix (by omega) hL (by decide)) dL_law_746 dL_law_747 dL_law_749 dL_law_750 dL_law_751 ?_
  refine lw_m hsg l1 l2 hg dL_law_752 mv_X11_ends ml_L_78 ⟨Nat.le_of_ble_eq_true rfl, Nat.le_of_ble_eq_true rfl, rfl, rfl, rfl⟩ hk (As := [.int (xs (i + 1))]) rfl rfl c2 (fun r2 w2 q2 => ?_)
  obtain ⟨e1, e2, e3⟩ := h2 r2 w2 q2
  obtain ⟨m1, m2, w3, i3, e4⟩ := e3
  obtain ⟨sg2, s2, e5⟩ := e4 sg o hsg
  refine ⟨⟨m1, m2⟩, lw_eqI (tgt := 2795) ⟨e1, e2⟩ dL_law_755 (by decide) ?_⟩
  rw [e5]
  exact kk sg2 w3 s2 i3
theorem lc_14 {Z : ZT} {L : Nat} {xs : Nat → Int32} {kn : Nat × Nat} {i : Nat} {w : ax_W} {sg : Nat → Nat} {o : ax_E} (hsg : isSg sg) (hI : INV w) (hi : i + 6 ≤ L) (hL : L ≤ 3072) (hk : kn.1 ≤ 1080 ∧ kn.2 ≤ 11187) (kk : ∀ (sg : Nat → Nat) (w : ax_W), isSg sg → INV w → AbZ Z (M_law L xs) kn 2795 (lwL i) [] (upW sg o w)) : AbZ Z (M_law L xs) kn 760 (lwL i) [] (upW sg o w) := by
  obtain ⟨Q1, c1, h⟩ := prx_of (pr_arcs hI (xs (i + 1)))
  refine az_aload_n dL_law_760 (x := 0) rfl ?_
  refine lw_arg 1 (lw_ix (by omega) hL (by decide)) dL_law_761 dL_law_762 dL_law_764 dL_law_765 dL_law_766 ?_
  refine lw_x hsg hI dL_law_767 mv_X10_arcs ml_L_79 ⟨Nat.le_of_ble_eq_true rfl, Nat.le_of_ble_eq_true rfl, rfl, rfl, rfl⟩ hk (As := [.int (xs (i + 1))]) rfl rfl c1 (fun r w' q => ?_)
  obtain ⟨l1, l2, hg, Q2, c2, h2⟩ := h r w' q
  refine ⟨⟨l1, l2⟩, ?_⟩
  refine az_aload_n dL_law_770 (x := 1000) rfl ?_
  refine lw_arg 1 (lw_ix (by omega) hL (by decide)) dL_law_771 dL_law_772 dL_law_774 dL_law_775 dL_law_776 ?_
  refine lw_m hsg l1 l2 hg dL_law_777 mv_X11_arcs ml_L_82 ⟨Nat.le_of_ble_eq_true rfl, Nat.le_of_ble_eq_true rfl, rfl, rfl, rfl⟩ hk (As := [.int (xs (i + 1))]) rfl rfl c2 (fun r2 w2 q2 => ?_)
  obtain ⟨e1, e2, e3⟩ := h2 r2 w2 q2
  obtain ⟨m1, m2, w3, i3, e4⟩ := e3
  obtain ⟨sg2, s2, e5⟩ := e4 sg o hsg
  refine ⟨⟨m1, m2⟩, lw_eqI (tgt := 2795) ⟨e1, e2⟩ dL_law_780 (by decide) ?_⟩
  rw [e5]
  exact kk sg2 w3 s2 i3
theorem lc_15 {Z : ZT} {L : Nat} {xs : Nat → Int32} {kn : Nat × Nat} {i : Nat} {w : ax_W} {sg : Nat → Nat} {o : ax_E} (hsg : isSg sg) (hI : INV w) (hi : i + 6 ≤ L) (hL : L ≤ 3072) (hk : kn.1 ≤ 1080 ∧ kn.2 ≤ 11187) (kk : ∀ (sg : Nat → Nat) (w : ax_W), isSg sg → INV w → AbZ Z (M_law L xs) kn 2795 (lwL i) [] (upW sg o w)) : AbZ Z (M_law L xs) kn 785 (lwL i) [] (upW sg o w) := by
  obtain ⟨Q1, c1, h⟩ := prx_of (pr_circuits hI (xs (i + 1)))
  refine az_aload_n dL_law_785 (x := 0) rfl ?_
  refine lw_arg 1 (lw_ix (by omega) hL (by decide)) dL_law_786 dL_law_787 dL_law_789 dL_law_790 dL_law_791 ?_
  refine lw_x hsg hI dL_law_792 mv_X10_circuits ml_L_83 ⟨Nat.le_of_ble_eq_true rfl, Nat.le_of_ble_eq_true rfl, rfl, rfl, rfl⟩ hk (As := [.int (xs (i + 1))]) rfl rfl c1 (fun r w' q => ?_)
  obtain ⟨l1, l2, hg, Q2, c2, h2⟩ := h r w' q
  refine ⟨⟨l1, l2⟩, ?_⟩
  refine az_aload_n dL_law_795 (x := 1000) rfl ?_
  refine lw_arg 1 (lw_ix (by omega) hL (by decide)) dL_law_796 dL_law_797 dL_law_799 dL_law_800 dL_law_801 ?_
  refine lw_m hsg l1 l2 hg dL_law_802 mv_X11_circuits ml_L_86 ⟨Nat.le_of_ble_eq_true rfl, Nat.le_of_ble_eq_true rfl, rfl, rfl, rfl⟩ hk (As := [.int (xs (i + 1))]) rfl rfl c2 (fun r2 w2 q2 => ?_)
  obtain ⟨e1, e2, e3⟩ := h2 r2 w2 q2
  obtain ⟨m1, m2, w3, i3, e4⟩ := e3
  obtain ⟨sg2, s2, e5⟩ := e4 sg o hsg
  refine ⟨⟨m1, m2⟩, lw_eqI (tgt := 2795) ⟨e1, e2⟩ dL_law_805 (by decide) ?_⟩
  rw [e5]
  exact kk sg2 w3 s2 i3
theorem lc_16 {Z : ZT} {L : Nat} {xs : Nat → Int32} {kn : Nat × Nat} {i : Nat} {w : ax_W} {sg : Nat → Nat} {o : ax_E} (hsg : isSg sg) (hI : INV w) (hi : i + 6 ≤ L) (hL : L ≤ 3072) (hk : kn.1 ≤ 1080 ∧ kn.2 ≤ 11187) (kk : ∀ (sg : Nat → Nat) (w : ax_W), isSg sg → INV w → AbZ Z (M_law L xs) kn 2795 (lwL i) [] (upW sg o w)) : AbZ Z (M_law L xs) kn 810 (lwL i) [] (upW sg o w) := by
  obtain ⟨Q1, c1, h⟩ := prx_of (pr_lawful hI (xs (i + 1)) (xs (i + 2)))
  refine az_aload_n dL_law_810 (x := 0) rfl ?_
  refine lw_arg 1 (lw_ix (by omega) hL (by decide)) dL_law_811 dL_law_812 dL_law_814 dL_law_815 dL_law_816 ?_
  refine lw_arg 2 (lw_ix (by omega) hL (by decide)) dL_law_817 dL_law_818 dL_law_820 dL_law_821 dL_law_822 ?_
  refine lw_x hsg hI dL_law_823 mv_X10_lawful ml_L_87 ⟨Nat.le_of_ble_eq_true rfl, Nat.le_of_ble_eq_true rfl, rfl, rfl, rfl⟩ hk (As := [.int (xs (i + 1)), .int (xs (i + 2))]) rfl rfl c1 (fun r w' q => ?_)
  obtain ⟨l1, l2, hg, Q2, c2, h2⟩ := h r w' q
  refine ⟨⟨l1, l2⟩, ?_⟩
  refine az_aload_n dL_law_826 (x := 1000) rfl ?_
  refine lw_arg 1 (lw_ix (by omega) hL (by decide)) dL_law_827 dL_law_828 dL_law_830 dL_law_831 dL_law_832 ?_
  refine lw_arg 2 (lw_ix (by omega) hL (by decide)) dL_law_833 dL_law_834 dL_law_836 dL_law_837 dL_law_838 ?_
  refine lw_m hsg l1 l2 hg dL_law_839 mv_X11_lawful ml_L_90 ⟨Nat.le_of_ble_eq_true rfl, Nat.le_of_ble_eq_true rfl, rfl, rfl, rfl⟩ hk (As := [.int (xs (i + 1)), .int (xs (i + 2))]) rfl rfl c2 (fun r2 w2 q2 => ?_)
  obtain ⟨e1, e2, e3⟩ := h2 r2 w2 q2
  obtain ⟨m1, m2, w3, i3, e4⟩ := e3
  obtain ⟨sg2, s2, e5⟩ := e4 sg o hsg
  refine ⟨⟨m1, m2⟩, lw_eqI (tgt := 2795) ⟨e1, e2⟩ dL_law_842 (by decide) ?_⟩
  rw [e5]
  exact kk sg2 w3 s2 i3
theorem lc_17 {Z : ZT} {L : Nat} {xs : Nat → Int32} {kn : Nat × Nat} {i : Nat} {w : ax_W} {sg : Nat → Nat} {o : ax_E} (hsg : isSg sg) (hI : INV w) (hi : i + 6 ≤ L) (hL : L ≤ 3072) (hk : kn.1 ≤ 1080 ∧ kn.2 ≤ 11187) (kk : ∀ (sg : Nat → Nat) (w : ax_W), isSg sg → INV w → AbZ Z (M_law L xs) kn 2795 (lwL i) [] (upW sg o w)) : AbZ Z (M_law L xs) kn 847 (lwL i) [] (upW sg o w) := by
  obtain ⟨Q1, c1, h⟩ := prx_of (pr_lawfuls hI (xs (i + 1)))
  refine az_aload_n dL_law_847 (x := 0) rfl ?_
  refine lw_arg 1 (lw_ix (by omega) hL (by decide)) dL_law_848 dL_law_849 dL_law_851 dL_law_852 dL_law_853 ?_
  refine lw_x hsg hI dL_law_854 mv_X10_lawfuls ml_L_91 ⟨Nat.le_of_ble_eq_true rfl, Nat.le_of_ble_eq_true rfl, rfl, rfl, rfl⟩ hk (As := [.int (xs (i + 1))]) rfl rfl c1 (fun r w' q => ?_)
  obtain ⟨l1, l2, hg, Q2, c2, h2⟩ := h r w' q
  refine ⟨⟨l1, l2⟩, ?_⟩
  refine az_aload_n dL_law_857 (x := 1000) rfl ?_
  refine lw_arg 1 (lw_ix (by omega) hL (by decide)) dL_law_858 dL_law_859 dL_law_861 dL_law_862 dL_law_863 ?_
  refine lw_m hsg l1 l2 hg dL_law_864 mv_X11_lawfuls ml_L_94 ⟨Nat.le_of_ble_eq_true rfl, Nat.le_of_ble_eq_true rfl, rfl, rfl, rfl⟩ hk (As := [.int (xs (i + 1))]) rfl rfl c2 (fun r2 w2 q2 => ?_)
  obtain ⟨e1, e2, e3⟩ := h2 r2 w2 q2
  obtain ⟨m1, m2, w3, i3, e4⟩ := e3
  obtain ⟨sg2, s2, e5⟩ := e4 sg o hsg
  refine ⟨⟨m1, m2⟩, lw_eqI (tgt := 2795) ⟨e1, e2⟩ dL_law_867 (by decide) ?_⟩
  rw [e5]
  exact kk sg2 w3 s2 i3
theorem lc_18 {Z : ZT} {L : Nat} {xs : Nat → Int32} {kn : Nat × Nat} {i : Nat} {w : ax_W} {sg : Nat → Nat} {o : ax_E} (hsg : isSg sg) (hI : INV w) (hi : i + 6 ≤ L) (hL : L ≤ 3072) (hk : kn.1 ≤ 1080 ∧ kn.2 ≤ 11187) (kk : ∀ (sg : Nat → Nat) (w : ax_W), isSg sg → INV w → AbZ Z (M_law L xs) kn 2795 (lwL i) [] (upW sg o w)) : AbZ Z (M_law L xs) kn 872 (lwL i) [] (upW sg o w) := by
  obtain ⟨Q1, c1, h⟩ := prx_of (pr_deads hI (xs (i + 1)))
  refine az_aload_n dL_law_872 (x := 0) rfl ?_
  refine lw_arg 1 (lw_ix (by omega) hL (by decide)) dL_law_873 dL_law_874 dL_law_876 dL_law_877 dL_law_878 ?_
  refine lw_x hsg hI dL_law_879 mv_X10_deads ml_L_95 ⟨Nat.le_of_ble_eq_true rfl, Nat.le_of_ble_eq_true rfl, rfl, rfl, rfl⟩ hk (As := [.int (xs (i + 1))]) rfl rfl c1 (fun r w' q => ?_)
  obtain ⟨l1, l2, hg, Q2, c2, h2⟩ := h r w' q
  refine ⟨⟨l1, l2⟩, ?_⟩
  refine az_aload_n dL_law_882 (x := 1000) rfl ?_
  refine lw_arg 1 (lw_ix (by omega) hL (by decide)) dL_law_883 dL_law_884 dL_law_886 dL_law_887 dL_law_888 ?_
  refine lw_m hsg l1 l2 hg dL_law_889 mv_X11_deads ml_L_98 ⟨Nat.le_of_ble_eq_true rfl, Nat.le_of_ble_eq_true rfl, rfl, rfl, rfl⟩ hk (As := [.int (xs (i + 1))]) rfl rfl c2 (fun r2 w2 q2 => ?_)
  obtain ⟨e1, e2, e3⟩ := h2 r2 w2 q2
  obtain ⟨m1, m2, w3, i3, e4⟩ := e3
  obtain ⟨sg2, s2, e5⟩ := e4 sg o hsg
  refine ⟨⟨m1, m2⟩, lw_eqI (tgt := 2795) ⟨e1, e2⟩ dL_law_892 (by decide) ?_⟩
  rw [e5]
  exact kk sg2 w3 s2 i3
theorem lc_19 {Z : ZT} {L : Nat} {xs : Nat → Int32} {kn : Nat × Nat} {i : Nat} {w : ax_W} {sg : Nat → Nat} {o : ax_E} (hsg : isSg sg) (hI : INV w) (hi : i + 6 ≤ L) (hL : L ≤ 3072) (hk : kn.1 ≤ 1080 ∧ kn.2 ≤ 11187) (kk : ∀ (sg : Nat → Nat) (w : ax_W), isSg sg → INV w → AbZ Z (M_law L xs) kn 2795 (lwL i) [] (upW sg o w)) : AbZ Z (M_law L xs) kn 897 (lwL i) [] (upW sg o w) := by
  obtain ⟨Q1, c1, h⟩ := prx_of (pr_between hI (xs (i + 1)) (xs (i + 2)))
  refine az_aload_n dL_law_897 (x := 0) rfl ?_
  refine lw_arg 1 (lw_ix (by omega) hL (by decide)) dL_law_898 dL_law_899 dL_law_901 dL_law_902 dL_law_903 ?_
  refine lw_arg 2 (lw_ix (by omega) hL (by decide)) dL_law_904 dL_law_905 dL_law_907 dL_law_908 dL_law_909 ?_
  refine lw_x hsg hI dL_law_910 mv_X10_between ml_L_99 ⟨Nat.le_of_ble_eq_true rfl, Nat.le_of_ble_eq_true rfl, rfl, rfl, rfl⟩ hk (As := [.int (xs (i + 1)), .int (xs (i + 2))]) rfl rfl c1 (fun r w' q => ?_)
  obtain ⟨l1, l2, hg, Q2, c2, h2⟩ := h r w' q
  refine ⟨⟨l1, l2⟩, ?_⟩
  refine az_aload_n dL_law_913 (x := 1000) rfl ?_
  refine lw_arg 1 (lw_ix (by omega) hL (by decide)) dL_law_914 dL_law_915 dL_law_917 dL_law_918 dL_law_919 ?_
  refine lw_arg 2 (lw_ix (by omega) hL (by decide)) dL_law_920 dL_law_921 dL_law_923 dL_law_924 dL_law_925 ?_
  refine lw_m hsg l1 l2 hg dL_law_926 mv_X11_between ml_L_102 ⟨Nat.le_of_ble_eq_true rfl, Nat.le_of_ble_eq_true rfl, rfl, rfl, rfl⟩ hk (As := [.int (xs (i + 1)), .int (xs (i + 2))]) rfl rfl c2 (fun r2 w2 q2 => ?_)
  obtain ⟨e1, e2, e3⟩ := h2 r2 w2 q2
  obtain ⟨m1, m2, w3, i3, e4⟩ := e3
  obtain ⟨sg2, s2, e5⟩ := e4 sg o hsg
  refine ⟨⟨m1, m2⟩, lw_eqI (tgt := 2795) ⟨e1, e2⟩ dL_law_929 (by decide) ?_⟩
  rw [e5]
  exact kk sg2 w3 s2 i3
theorem lc_20 {Z : ZT} {L : Nat} {xs : Nat → Int32} {kn : Nat × Nat} {i : Nat} {w : ax_W} {sg : Nat → Nat} {o : ax_E} (hsg : isSg sg) (hI : INV w) (hi : i + 6 ≤ L) (hL : L ≤ 3072) (hk : kn.1 ≤ 1080 ∧ kn.2 ≤ 11187) (kk : ∀ (sg : Nat → Nat) (w : ax_W), isSg sg → INV w → AbZ Z (M_law L xs) kn 2795 (lwL i) [] (upW sg o w)) : AbZ Z (M_law L xs) kn 934 (lwL i) [] (upW sg o w) := by
  obtain ⟨Q1, c1, h⟩ := pr_span hI (xs (i + 1)) (xs (i + 2)) (if xs (i + 3) = 0 then 0 else 1)
  refine az_aload_n dL_law_934 (x := 0) rfl ?_
  refine lw_arg 1 (lw_ix (by omega) hL (by decide)) dL_law_935 dL_law_936 dL_law_938 dL_law_939 dL_law_940 ?_
  refine lw_arg 2 (lw_ix (by omega) hL (by decide)) dL_law_941 dL_law_942 dL_law_944 dL_law_945 dL_law_946 ?_
  refine lw_arg 3 (lw_ix (by omega) hL (by decide)) dL_law_947 dL_law_948 dL_law_950 dL_law_951 dL_law_952 ?_
  refine lw_bool dL_law_953 dL_law_956 dL_law_957 dL_law_960 ?_
  refine lw_x hsg hI dL_law_961 mv_X10_span ml_L_103 ⟨Nat.le_of_ble_eq_true rfl, Nat.le_of_ble_eq_true rfl, rfl, rfl, rfl⟩ hk (As := [.int (xs (i + 1)), .int (xs (i + 2)), .int (if xs (i + 3) = 0 then 0 else 1)]) rfl rfl c1 (fun r w' q => ?_)
  obtain ⟨l1, l2, hg, Q2, c2, h2⟩ := h r w' q
  refine ⟨⟨l1, l2⟩, ?_⟩
  refine az_aload_n dL_law_964 (x := 1000) rfl ?_
  refine lw_arg 1 (lw_ix (by omega) hL (by decide)) dL_law_965 dL_law_966 dL_law_968 dL_law_969 dL_law_970 ?_
  refine lw_arg 2 (lw_ix (by omega) hL (by decide)) dL_law_971 dL_law_972 dL_law_974 dL_law_975 dL_law_976 ?_
  refine lw_arg 3 (lw_ix (by omega) hL (by decide)) dL_law_977 dL_law_978 dL_law_980 dL_law_981 dL_law_982 ?_
  refine lw_bool dL_law_983 dL_law_986 dL_law_987 dL_law_990 ?_
  refine lw_m hsg l1 l2 hg dL_law_991 mv_X11_span ml_L_107 ⟨Nat.le_of_ble_eq_true rfl, Nat.le_of_ble_eq_true rfl, rfl, rfl, rfl⟩ hk (As := [.int (xs (i + 1)), .int (xs (i + 2)), .int (if xs (i + 3) = 0 then 0 else 1)]) rfl rfl c2 (fun r2 w2 q2 => ?_)
  obtain ⟨e1, e2, e3⟩ := h2 r2 w2 q2
  exact ⟨⟨(inv_w e3).1, (inv_w e3).2.1⟩, lw_eqL (tgt := 2795) ⟨e1, e2⟩ dL_law_994 dL_law_995 (by decide) (kk sg w2 hsg e3)⟩
theorem lc_21 {Z : ZT} {L : Nat} {xs : Nat → Int32} {kn : Nat × Nat} {i : Nat} {w : ax_W} {sg : Nat → Nat} {o : ax_E} (hsg : isSg sg) (hI : INV w) (hi : i + 6 ≤ L) (hL : L ≤ 3072) (hk : kn.1 ≤ 1080 ∧ kn.2 ≤ 11187) (kk : ∀ (sg : Nat → Nat) (w : ax_W), isSg sg → INV w → AbZ Z (M_law L xs) kn 2795 (lwL i) [] (upW sg o w)) : AbZ Z (M_law L xs) kn 1000 (lwL i) [] (upW sg o w) := by
  obtain ⟨Q1, c1, h⟩ := pr_under hI (xs (i + 1)) (xs (i + 2))
  refine az_aload_n dL_law_1000 (x := 0) rfl ?_
  refine lw_arg 1 (lw_ix (by omega) hL (by decide)) dL_law_1001 dL_law_1002 dL_law_1004 dL_law_1005 dL_law_1006 ?_
  refine lw_arg 2 (lw_ix (by omega) hL (by decide)) dL_law_1007 dL_law_1008 dL_law_1010 dL_law_1011 dL_law_1012 ?_
  refine lw_x hsg hI dL_law_1013 mv_X10_under ml_L_108 ⟨Nat.le_of_ble_eq_true rfl, Nat.le_of_ble_eq_true rfl, rfl, rfl, rfl⟩ hk (As := [.int (xs (i + 1)), .int (xs (i + 2))]) rfl rfl c1 (fun r w' q => ?_)
  obtain ⟨l1, l2, hg, Q2, c2, h2⟩ := h r w' q
  refine ⟨⟨l1, l2⟩, ?_⟩
  refine az_aload_n dL_law_1016 (x := 1000) rfl ?_
  refine lw_arg 1 (lw_ix (by omega) hL (by decide)) dL_law_1017 dL_law_1018 dL_law_1020 dL_law_1021 dL_law_1022 ?_
  refine lw_arg 2 (lw_ix (by omega) hL (by decide)) dL_law_1023 dL_law_1024 dL_law_1026 dL_law_1027 dL_law_1028 ?_
  refine lw_m hsg l1 l2 hg dL_law_1029 mv_X11_under ml_L_112 ⟨Nat.le_of_ble_eq_true rfl, Nat.le_of_ble_eq_true rfl, rfl, rfl, rfl⟩ hk (As := [.int (xs (i + 1)), .int (xs (i + 2))]) rfl rfl c2 (fun r2 w2 q2 => ?_)
  obtain ⟨e1, e2, e3⟩ := h2 r2 w2 q2
  exact ⟨⟨(inv_w e3).1, (inv_w e3).2.1⟩, lw_eqL (tgt := 2795) ⟨e1, e2⟩ dL_law_1032 dL_law_1033 (by decide) (kk sg w2 hsg e3)⟩
theorem lc_22 {Z : ZT} {L : Nat} {xs : Nat → Int32} {kn : Nat × Nat} {i : Nat} {w : ax_W} {sg : Nat → Nat} {o : ax_E} (hsg : isSg sg) (hI : INV w) (hi : i + 6 ≤ L) (hL : L ≤ 3072) (hk : kn.1 ≤ 1080 ∧ kn.2 ≤ 11187) (kk : ∀ (sg : Nat → Nat) (w : ax_W), isSg sg → INV w → AbZ Z (M_law L xs) kn 2795 (lwL i) [] (upW sg o w)) : AbZ Z (M_law L xs) kn 1038 (lwL i) [] (upW sg o w) := by
  obtain ⟨Q1, c1, h⟩ := prx_of (pr_joint hI (xs (i + 1)) (xs (i + 2)) (xs (i + 3)) (xs (i + 4)))
  refine az_aload_n dL_law_1038 (x := 0) rfl ?_
  refine lw_arg 1 (lw_ix (by omega) hL (by decide)) dL_law_1039 dL_law_1040 dL_law_1042 dL_law_1043 dL_law_1044 ?_
  refine lw_arg 2 (lw_ix (by omega) hL (by decide)) dL_law_1045 dL_law_1046 dL_law_1048 dL_law_1049 dL_law_1050 ?_
  refine lw_arg 3 (lw_ix (by omega) hL (by decide)) dL_law_1051 dL_law_1052 dL_law_1054 dL_law_1055 dL_law_1056 ?_
  refine lw_arg 4 (lw_ix (by omega) hL (by decide)) dL_law_1057 dL_law_1058 dL_law_1060 dL_law_1061 dL_law_1062 ?_
  refine lw_x hsg hI dL_law_1063 mv_X10_joint ml_L_113 ⟨Nat.le_of_ble_eq_true rfl, Nat.le_of_ble_eq_true rfl, rfl, rfl, rfl⟩ hk (As := [.int (xs (i + 1)), .int (xs (i + 2)), .int (xs (i + 3)), .int (xs (i + 4))]) rfl rfl c1 (fun r w' q => ?_)
  obtain ⟨l1, l2, hg, Q2, c2, h2⟩ := h r w' q
  refine ⟨⟨l1, l2⟩, ?_⟩
  refine az_aload_n dL_law_1066 (x := 1000) rfl ?_
  refine lw_arg 1 (lw_ix (by omega) hL (by decide)) dL_law_1067 dL_law_1068 dL_law_1070 dL_law_1071 dL_law_1072 ?_
  refine lw_arg 2 (lw_ix (by omega) hL (by decide)) dL_law_1073 dL_law_1074 dL_law_1076 dL_law_1077 dL_law_1078 ?_
  refine lw_arg 3 (lw_ix (by omega) hL (by decide)) dL_law_1079 dL_law_1080 dL_law_1082 dL_law_1083 dL_law_1084 ?_
  refine lw_arg 4 (lw_ix (by omega) hL (by decide)) dL_law_1085 dL_law_1086 dL_law_1088 dL_law_1089 dL_law_1090 ?_
  refine lw_m hsg l1 l2 hg dL_law_1091 mv_X11_joint ml_L_117 ⟨Nat.le_of_ble_eq_true rfl, Nat.le_of_ble_eq_true rfl, rfl, rfl, rfl⟩ hk (As := [.int (xs (i + 1)), .int (xs (i + 2)), .int (xs (i + 3)), .int (xs (i + 4))]) rfl rfl c2 (fun r2 w2 q2 => ?_)
  obtain ⟨e1, e2, e3⟩ := h2 r2 w2 q2
  obtain ⟨m1, m2, w3, i3, e4⟩ := e3
  obtain ⟨sg2, s2, e5⟩ := e4 sg o hsg
  refine ⟨⟨m1, m2⟩, lw_eqI (tgt := 2795) ⟨e1, e2⟩ dL_law_1094 (by decide) ?_⟩
  rw [e5]
  exact kk sg2 w3 s2 i3
theorem lc_23 {Z : ZT} {L : Nat} {xs : Nat → Int32} {kn : Nat × Nat} {i : Nat} {w : ax_W} {sg : Nat → Nat} {o : ax_E} (hsg : isSg sg) (hI : INV w) (hi : i + 6 ≤ L) (hL : L ≤ 3072) (hk : kn.1 ≤ 1080 ∧ kn.2 ≤ 11187) (kk : ∀ (sg : Nat → Nat) (w : ax_W), isSg sg → INV w → AbZ Z (M_law L xs) kn 2795 (lwL i) [] (upW sg o w)) : AbZ Z (M_law L xs) kn 1099 (lwL i) [] (upW sg o w) := by
  obtain ⟨Q1, c1, h⟩ := pr_exact hI (xs (i + 1)) (xs (i + 2)) (xs (i + 3)) (xs (i + 4))
  refine az_aload_n dL_law_1099 (x := 0) rfl ?_
  refine lw_arg 1 (lw_ix (by omega) hL (by decide)) dL_law_1100 dL_law_1101 dL_law_1103 dL_law_1104 dL_law_1105 ?_
  refine lw_arg 2 (lw_ix (by omega) hL (by decide)) dL_law_1106 dL_law_1107 dL_law_1109 dL_law_1110 dL_law_1111 ?_
  refine lw_arg 3 (lw_ix (by omega) hL (by decide)) dL_law_1112 dL_law_1113 dL_law_1115 dL_law_1116 dL_law_1117 ?_
  refine lw_arg 4 (lw_ix (by omega) hL (by decide)) dL_law_1118 dL_law_1119 dL_law_1121 dL_law_1122 dL_law_1123 ?_
  refine lw_x hsg hI dL_law_1124 mv_X10_exact ml_L_118 ⟨Nat.le_of_ble_eq_true rfl, Nat.le_of_ble_eq_true rfl, rfl, rfl, rfl⟩ hk (As := [.int (xs (i + 1)), .int (xs (i + 2)), .int (xs (i + 3)), .int (xs (i + 4))]) rfl rfl c1 (fun r w' q => ?_)
  obtain ⟨l1, l2, hg, Q2, c2, h2⟩ := h r w' q
  refine ⟨⟨l1, l2⟩, ?_⟩
  refine az_aload_n dL_law_1127 (x := 1000) rfl ?_
  refine lw_arg 1 (lw_ix (by omega) hL (by decide)) dL_law_1128 dL_law_1129 dL_law_1131 dL_law_1132 dL_law_1133 ?_
  refine lw_arg 2 (lw_ix (by omega) hL (by decide)) dL_law_1134 dL_law_1135 dL_law_1137 dL_law_1138 dL_law_1139 ?_
  refine lw_arg 3 (lw_ix (by omega) hL (by decide)) dL_law_1140 dL_law_1141 dL_law_1143 dL_law_1144 dL_law_1145 ?_
  refine lw_arg 4 (lw_ix (by omega) hL (by decide)) dL_law_1146 dL_law_1147 dL_law_1149 dL_law_1150 dL_law_1151 ?_
  refine lw_m hsg l1 l2 hg dL_law_1152 mv_X11_exact ml_L_122 ⟨Nat.le_of_ble_eq_true rfl, Nat.le_of_ble_eq_true rfl, rfl, rfl, rfl⟩ hk (As := [.int (xs (i + 1)), .int (xs (i + 2)), .int (xs (i + 3)), .int (xs (i + 4))]) rfl rfl c2 (fun r2 w2 q2 => ?_)
  obtain ⟨e1, e2, e3⟩ := h2 r2 w2 q2
  exact ⟨⟨(inv_w e3).1, (inv_w e3).2.1⟩, lw_eqL (tgt := 2795) ⟨e1, e2⟩ dL_law_1155 dL_law_1156 (by decide) (kk sg w2 hsg e3)⟩
theorem lc_24 {Z : ZT} {L : Nat} {xs : Nat → Int32} {kn : Nat × Nat} {i : Nat} {w : ax_W} {sg : Nat → Nat} {o : ax_E} (hsg : isSg sg) (hI : INV w) (hi : i + 6 ≤ L) (hL : L ≤ 3072) (hk : kn.1 ≤ 1080 ∧ kn.2 ≤ 11187) (kk : ∀ (sg : Nat → Nat) (w : ax_W), isSg sg → INV w → AbZ Z (M_law L xs) kn 2795 (lwL i) [] (upW sg o w)) : AbZ Z (M_law L xs) kn 1161 (lwL i) [] (upW sg o w) := by
  obtain ⟨Q1, c1, h⟩ := prx_of (pr_circuit hI (xs (i + 1)) (xs (i + 2)) (xs (i + 3)))
  refine az_aload_n dL_law_1161 (x := 0) rfl ?_
  refine lw_arg 1 (lw_ix (by omega) hL (by decide)) dL_law_1162 dL_law_1163 dL_law_1165 dL_law_1166 dL_law_1167 ?_
  refine lw_arg 2 (lw_ix (by omega) hL (by decide)) dL_law_1168 dL_law_1169 dL_law_1171 dL_law_1172 dL_law_1173 ?_
  refine lw_arg 3 (lw_ix (by omega) hL (by decide)) dL_law_1174 dL_law_1175 dL_law_1177 dL_law_1178 dL_law_1179 ?_
  refine lw_x hsg hI dL_law_1180 mv_X10_circuit ml_L_123 ⟨Nat.le_of_ble_eq_true rfl, Nat.le_of_ble_eq_true rfl, rfl, rfl, rfl⟩ hk (As := [.int (xs (i + 1)), .int (xs (i + 2)), .int (xs (i + 3))]) rfl rfl c1 (fun r w' q => ?_)
  obtain ⟨l1, l2, hg, Q2, c2, h2⟩ := h r w' q
  refine ⟨⟨l1, l2⟩, ?_⟩
  refine az_aload_n dL_law_1183 (x := 1000) rfl ?_
  refine lw_arg 1 (lw_ix (by omega) hL (by decide)) dL_law_1184 dL_law_1185 dL_law_1187 dL_law_1188 dL_law_1189 ?_
  refine lw_arg 2 (lw_ix (by omega) hL (by decide)) dL_law_1190 dL_law_1191 dL_law_1193 dL_law_1194 dL_law_1195 ?_
  refine lw_arg 3 (lw_ix (by omega) hL (by decide)) dL_law_1196 dL_law_1197 dL_law_1199 dL_law_1200 dL_law_1201 ?_
  refine lw_m hsg l1 l2 hg dL_law_1202 mv_X11_circuit ml_L_127 ⟨Nat.le_of_ble_eq_true rfl, Nat.le_of_ble_eq_true rfl, rfl, rfl, rfl⟩ hk (As := [.int (xs (i + 1)), .int (xs (i + 2)), .int (xs (i + 3))]) rfl rfl c2 (fun r2 w2 q2 => ?_)
  obtain ⟨e1, e2, e3⟩ := h2 r2 w2 q2
  obtain ⟨m1, m2, w3, i3, e4⟩ := e3
  obtain ⟨sg2, s2, e5⟩ := e4 sg o hsg
  refine ⟨⟨m1, m2⟩, lw_eqI (tgt := 2795) ⟨e1, e2⟩ dL_law_1205 (by decide) ?_⟩
  rw [e5]
  exact kk sg2 w3 s2 i3
theorem lc_25 {Z : ZT} {L : Nat} {xs : Nat → Int32} {kn : Nat × Nat} {i : Nat} {w : ax_W} {sg : Nat → Nat} {o : ax_E} (hsg : isSg sg) (hI : INV w) (hi : i + 6 ≤ L) (hL : L ≤ 3072) (hk : kn.1 ≤ 1080 ∧ kn.2 ≤ 11187) (kk : ∀ (sg : Nat → Nat) (w : ax_W), isSg sg → INV w → AbZ Z (M_law L xs) kn 2795 (lwL i) [] (upW sg o w)) : AbZ Z (M_law L xs) kn 1210 (lwL i) [] (upW sg o w) := by
  obtain ⟨Q1, c1, h⟩ := pr_force hI (xs (i + 1)) (xs (i + 2)) (if xs (i + 3) = 0 then 0 else 1)
  refine az_aload_n dL_law_1210 (x := 0) rfl ?_
  refine lw_arg 1 (lw_ix (by omega) hL (by decide)) dL_law_1211 dL_law_1212 dL_law_1214 dL_law_1215 dL_law_1216 ?_
  refine lw_arg 2 (lw_ix (by omega) hL (by decide)) dL_law_1217 dL_law_1218 dL_law_1220 dL_law_1221 dL_law_1222 ?_
  refine lw_arg 3 (lw_ix (by omega) hL (by decide)) dL_law_1223 dL_law_1224 dL_law_1226 dL_law_1227 dL_law_1228 ?_
  refine lw_bool dL_law_1229 dL_law_1232 dL_law_1233 dL_law_1236 ?_
  refine lw_x hsg hI dL_law_1237 mv_X10_force ml_L_128 ⟨Nat.le_of_ble_eq_true rfl, Nat.le_of_ble_eq_true rfl, rfl, rfl, rfl⟩ hk (As := [.int (xs (i + 1)), .int (xs (i + 2)), .int (if xs (i + 3) = 0 then 0 else 1)]) rfl rfl c1 (fun r w' q => ?_)
  obtain ⟨l1, l2, hg, Q2, c2, h2⟩ := h r w' q
  refine ⟨⟨l1, l2⟩, ?_⟩
  refine az_aload_n dL_law_1240 (x := 1000) rfl ?_
  refine lw_arg 1 (lw_ix (by omega) hL (by decide)) dL_law_1241 dL_law_1242 dL_law_1244 dL_law_1245 dL_law_1246 ?_
  refine lw_arg 2 (lw_ix (by omega) hL (by decide)) dL_law_1247 dL_law_1248 dL_law_1250 dL_law_1251 dL_law_1252 ?_
  refine lw_arg 3 (lw_ix (by omega) hL (by decide)) dL_law_1253 dL_law_1254 dL_law_1256 dL_law_1257 dL_law_1258 ?_
  refine lw_bool dL_law_1259 dL_law_1262 dL_law_1263 dL_law_1266 ?_
  refine lw_m hsg l1 l2 hg dL_law_1267 mv_X11_force ml_L_131 ⟨Nat.le_of_ble_eq_true rfl, Nat.le_of_ble_eq_true rfl, rfl, rfl, rfl⟩ hk (As := [.int (xs (i + 1)), .int (xs (i + 2)), .int (if xs (i + 3) = 0 then 0 else 1)]) rfl rfl c2 (fun r2 w2 q2 => ?_)
  obtain ⟨e1, e2, e3⟩ := h2 r2 w2 q2
  exact ⟨⟨(inv_w e3).1, (inv_w e3).2.1⟩, lw_eqL (tgt := 2795) ⟨e1, e2⟩ dL_law_1270 dL_law_1271 (by decide) (kk sg w2 hsg e3)⟩
theorem lc_26 {Z : ZT} {L : Nat} {xs : Nat → Int32} {kn : Nat × Nat} {i : Nat} {w : ax_W} {sg : Nat → Nat} {o : ax_E} (hsg : isSg sg) (hI : INV w) (hi : i + 6 ≤ L) (hL : L ≤ 3072) (hk : kn.1 ≤ 1080 ∧ kn.2 ≤ 11187) (kk : ∀ (sg : Nat → Nat) (w : ax_W), isSg sg → INV w → AbZ Z (M_law L xs) kn 2795 (lwL i) [] (upW sg o w)) : AbZ Z (M_law L xs) kn 1276 (lwL i) [] (upW sg o w) := by
  obtain ⟨Q1, c1, h⟩ := prx_of (pr_easiest hI (xs (i + 1)))
  refine az_aload_n dL_law_1276 (x := 0) rfl ?_
  refine lw_arg 1 (lw_ix (by omega) hL (by decide)) dL_law_1277 dL_law_1278 dL_law_1280 dL_law_1281 dL_law_1282 ?_
  refine lw_x hsg hI dL_law_1283 mv_X10_easiest ml_L_132 ⟨Nat.le_of_ble_eq_true rfl, Nat.le_of_ble_eq_true rfl, rfl, rfl, rfl⟩ hk (As := [.int (xs (i + 1))]) rfl rfl c1 (fun r w' q => ?_)
  obtain ⟨l1, l2, hg, Q2, c2, h2⟩ := h r w' q
  refine ⟨⟨l1, l2⟩, ?_⟩
  refine az_aload_n dL_law_1286 (x := 1000) rfl ?_
  refine lw_arg 1 (lw_ix (by omega) hL (by decide)) dL_law_1287 dL_law_1288 dL_law_1290 dL_law_1291 dL_law_1292 ?_
  refine lw_m hsg l1 l2 hg dL_law_1293 mv_X11_easiest ml_L_135 ⟨Nat.le_of_ble_eq_true rfl, Nat.le_of_ble_eq_true rfl, rfl, rfl, rfl⟩ hk (As := [.int (xs (i + 1))]) rfl rfl c2 (fun r2 w2 q2 => ?_)
  obtain ⟨e1, e2, e3⟩ := h2 r2 w2 q2
  obtain ⟨m1, m2, w3, i3, e4⟩ := e3
  obtain ⟨sg2, s2, e5⟩ := e4 sg o hsg
  refine ⟨⟨m1, m2⟩, lw_eqI (tgt := 2795) ⟨e1, e2⟩ dL_law_1296 (by decide) ?_⟩
  rw [e5]
  exact kk sg2 w3 s2 i3
theorem lc_27 {Z : ZT} {L : Nat} {xs : Nat → Int32} {kn : Nat × Nat} {i : Nat} {w : ax_W} {sg : Nat → Nat} {o : ax_E} (hsg : isSg sg) (hI : INV w) (hi : i + 6 ≤ L) (hL : L ≤ 3072) (hk : kn.1 ≤ 1080 ∧ kn.2 ≤ 11187) (kk : ∀ (sg : Nat → Nat) (w : ax_W), isSg sg → INV w → AbZ Z (M_law L xs) kn 2795 (lwL i) [] (upW sg o w)) : AbZ Z (M_law L xs) kn 1301 (lwL i) [] (upW sg o w) := by
  obtain ⟨Q1, c1, h⟩ := pr_swing hI (xs (i + 1)) (if xs (i + 2) = 0 then 0 else 1) (if xs (i + 3) = 0 then 0 else 1)
  refine az_aload_n dL_law_1301 (x := 0) rfl ?_
  refine lw_arg 1 (lw_ix (by omega) hL (by decide)) dL_law_1302 dL_law_1303 dL_law_1305 dL_law_1306 dL_law_1307 ?_
  refine lw_arg 2 (lw_ix (by omega) hL (by decide)) dL_law_1308 dL_law_1309 dL_law_1311 dL_law_1312 dL_law_1313 ?_
  refine lw_bool dL_law_1314 dL_law_1317 dL_law_1318 dL_law_1321 ?_
  refine lw_arg 3 (lw_ix (by omega) hL (by decide)) dL_law_1322 dL_law_1323 dL_law_1325 dL_law_1326 dL_law_1327 ?_
  refine lw_bool dL_law_1328 dL_law_1331 dL_law_1332 dL_law_1335 ?_
  refine lw_x hsg hI dL_law_1336 mv_X10_swing ml_L_136 ⟨Nat.le_of_ble_eq_true rfl, Nat.le_of_ble_eq_true rfl, rfl, rfl, rfl⟩ hk (As := [.int (xs (i + 1)), .int (if xs (i + 2) = 0 then 0 else 1), .int (if xs (i + 3) = 0 then 0 else 1)]) rfl rfl c1 (fun r w' q => ?_)
  obtain ⟨l1, l2, hg, Q2, c2, h2⟩ := h r w' q
  refine ⟨⟨l1, l2⟩, ?_⟩
  refine az_aload_n dL_law_1339 (x := 1000) rfl ?_
  refine lw_arg 1 (lw_ix (by omega) hL (by decide)) dL_law_1340 dL_law_1341 dL_law_1343 dL_law_1344 dL_law_1345 ?_
  refine lw_arg 2 (lw_ix (by omega) hL (by decide)) dL_law_1346 dL_law_1347 dL_law_1349 dL_law_1350 dL_law_1351 ?_
  refine lw_bool dL_law_1352 dL_law_1355 dL_law_1356 dL_law_1359 ?_
  refine lw_arg 3 (lw_ix (by omega) hL (by decide)) dL_law_1360 dL_law_1361 dL_law_1363 dL_law_1364 dL_law_1365 ?_
  refine lw_bool dL_law_1366 dL_law_1369 dL_law_1370 dL_law_1373 ?_
  refine lw_m hsg l1 l2 hg dL_law_1374 mv_X11_swing ml_L_140 ⟨Nat.le_of_ble_eq_true rfl, Nat.le_of_ble_eq_true rfl, rfl, rfl, rfl⟩ hk (As := [.int (xs (i + 1)), .int (if xs (i + 2) = 0 then 0 else 1), .int (if xs (i + 3) = 0 then 0 else 1)]) rfl rfl c2 (fun r2 w2 q2 => ?_)
  obtain ⟨e1, e2, e3⟩ := h2 r2 w2 q2
  exact ⟨⟨(inv_w e3).1, (inv_w e3).2.1⟩, lw_eqL (tgt := 2795) ⟨e1, e2⟩ dL_law_1377 dL_law_1378 (by decide) (kk sg w2 hsg e3)⟩
theorem lc_28 {Z : ZT} {L : Nat} {xs : Nat → Int32} {kn : Nat × Nat} {i : Nat} {w : ax_W} {sg : Nat → Nat} {o : ax_E} (hsg : isSg sg) (hI : INV w) (hi : i + 6 ≤ L) (hL : L ≤ 3072) (hk : kn.1 ≤ 1080 ∧ kn.2 ≤ 11187) (kk : ∀ (sg : Nat → Nat) (w : ax_W), isSg sg → INV w → AbZ Z (M_law L xs) kn 2795 (lwL i) [] (upW sg o w)) : AbZ Z (M_law L xs) kn 1383 (lwL i) [] (upW sg o w) := by
  obtain ⟨Q1, c1, h⟩ := pr_rate hI (xs (i + 1)) (xs (i + 2)) (xs (i + 3)) (xs (i + 4))
  refine az_aload_n dL_law_1383 (x := 0) rfl ?_
  refine lw_arg 1 (lw_ix (by omega) hL (by decide)) dL_law_1384 dL_law_1385 dL_law_1387 dL_law_1388 dL_law_1389 ?_
  refine lw_arg 2 (lw_ix (by omega) hL (by decide)) dL_law_1390 dL_law_1391 dL_law_1393 dL_law_1394 dL_law_1395 ?_
  refine lw_arg 3 (lw_ix (by omega) hL (by decide)) dL_law_1396 dL_law_1397 dL_law_1399 dL_law_1400 dL_law_1401 ?_
  refine lw_arg 4 (lw_ix (by omega) hL (by decide)) dL_law_1402 dL_law_1403 dL_law_1405 dL_law_1406 dL_law_1407 ?_
  refine lw_x hsg hI dL_law_1408 mv_X10_rate ml_L_141 ⟨Nat.le_of_ble_eq_true rfl, Nat.le_of_ble_eq_true rfl, rfl, rfl, rfl⟩ hk (As := [.int (xs (i + 1)), .int (xs (i + 2)), .int (xs (i + 3)), .int (xs (i + 4))]) rfl rfl c1 (fun r w' q => ?_)
  obtain ⟨l1, l2, hg, Q2, c2, h2⟩ := h r w' q
  refine ⟨⟨l1, l2⟩, ?_⟩
  refine az_aload_n dL_law_1411 (x := 1000) rfl ?_
  refine lw_arg 1 (lw_ix (by omega) hL (by decide)) dL_law_1412 dL_law_1413 dL_law_1415 dL_law_1416 dL_law_1417 ?_
  refine lw_arg 2 (lw_ix (by omega) hL (by decide)) dL_law_1418 dL_law_1419 dL_law_1421 dL_law_1422 dL_law_1423 ?_
  refine lw_arg 3 (lw_ix (by omega) hL (by decide)) dL_law_1424 dL_law_1425 dL_law_1427 dL_law_1428 dL_law_1429 ?_
  refine lw_arg 4 (lw_ix (by omega) hL (by decide)) dL_law_1430 dL_law_1431 dL_law_1433 dL_law_1434 dL_law_1435 ?_
  refine lw_m hsg l1 l2 hg dL_law_1436 mv_X11_rate ml_L_144 ⟨Nat.le_of_ble_eq_true rfl, Nat.le_of_ble_eq_true rfl, rfl, rfl, rfl⟩ hk (As := [.int (xs (i + 1)), .int (xs (i + 2)), .int (xs (i + 3)), .int (xs (i + 4))]) rfl rfl c2 (fun r2 w2 q2 => ?_)
  obtain ⟨e1, e2, e3⟩ := h2 r2 w2 q2
  exact ⟨⟨(inv_w e3).1, (inv_w e3).2.1⟩, lw_eqL (tgt := 2795) ⟨e1, e2⟩ dL_law_1439 dL_law_1440 (by decide) (kk sg w2 hsg e3)⟩
theorem lc_29 {Z : ZT} {L : Nat} {xs : Nat → Int32} {kn : Nat × Nat} {i : Nat} {w : ax_W} {sg : Nat → Nat} {o : ax_E} (hsg : isSg sg) (hI : INV w) (hi : i + 6 ≤ L) (hL : L ≤ 3072) (hk : kn.1 ≤ 1080 ∧ kn.2 ≤ 11187) (kk : ∀ (sg : Nat → Nat) (w : ax_W), isSg sg → INV w → AbZ Z (M_law L xs) kn 2795 (lwL i) [] (upW sg o w)) : AbZ Z (M_law L xs) kn 1445 (lwL i) [] (upW sg o w) := by
  obtain ⟨Q1, c1, h⟩ := prx_of (pr_tracer hI (xs (i + 1)) (xs (i + 2)))
  refine az_aload_n dL_law_1445 (x := 0) rfl ?_
  refine lw_arg 1 (lw_ix (by omega) hL (by decide)) dL_law_1446 dL_law_1447 dL_law_1449 dL_law_1450 dL_law_1451 ?_
  refine lw_arg 2 (lw_ix (by omega) hL (by decide)) dL_law_1452 dL_law_1453 dL_law_1455 dL_law_1456 dL_law_1457 ?_
  refine lw_x hsg hI dL_law_1458 mv_X10_tracer ml_L_145 ⟨Nat.le_of_ble_eq_true rfl, Nat.le_of_ble_eq_true rfl, rfl, rfl, rfl⟩ hk (As := [.int (xs (i + 1)), .int (xs (i + 2))]) rfl rfl c1 (fun r w' q => ?_)
  obtain ⟨l1, l2, hg, Q2, c2, h2⟩ := h r w' q
  refine ⟨⟨l1, l2⟩, ?_⟩
  refine az_aload_n dL_law_1461 (x := 1000) rfl ?_
  refine lw_arg 1 (lw_ix (by omega) hL (by decide)) dL_law_1462 dL_law_1463 dL_law_1465 dL_law_1466 dL_law_1467 ?_
  refine lw_arg 2 (lw_ix (by omega) hL (by decide)) dL_law_1468 dL_law_1469 dL_law_1471 dL_law_1472 dL_law_1473 ?_
  refine lw_m hsg l1 l2 hg dL_law_1474 mv_X11_tracer ml_L_148 ⟨Nat.le_of_ble_eq_true rfl, Nat.le_of_ble_eq_true rfl, rfl, rfl, rfl⟩ hk (As := [.int (xs (i + 1)), .int (xs (i + 2))]) rfl rfl c2 (fun r2 w2 q2 => ?_)
  obtain ⟨e1, e2, e3⟩ := h2 r2 w2 q2
  obtain ⟨m1, m2, w3, i3, e4⟩ := e3
  obtain ⟨sg2, s2, e5⟩ := e4 sg o hsg
  refine ⟨⟨m1, m2⟩, lw_eqI (tgt := 2795) ⟨e1, e2⟩ dL_law_1477 (by decide) ?_⟩
  rw [e5]
  exact kk sg2 w3 s2 i3
theorem lc_30 {Z : ZT} {L : Nat} {xs : Nat → Int32} {kn : Nat × Nat} {i : Nat} {w : ax_W} {sg : Nat → Nat} {o : ax_E} (hsg : isSg sg) (hI : INV w) (hi : i + 6 ≤ L) (hL : L ≤ 3072) (hk : kn.1 ≤ 1080 ∧ kn.2 ≤ 11187) (kk : ∀ (sg : Nat → Nat) (w : ax_W), isSg sg → INV w → AbZ Z (M_law L xs) kn 2795 (lwL i) [] (upW sg o w)) : AbZ Z (M_law L xs) kn 1482 (lwL i) [] (upW sg o w) := by
  obtain ⟨Q1, c1, h⟩ := prx_of (pr_point hI (xs (i + 1)) (xs (i + 2)))
  refine az_aload_n dL_law_1482 (x := 0) rfl ?_
  refine lw_arg 1 (lw_ix (by omega) hL (by decide)) dL_law_1483 dL_law_1484 dL_law_1486 dL_law_1487 dL_law_1488 ?_
  refine lw_arg 2 (lw_ix (by omega) hL (by decide)) dL_law_1489 dL_law_1490 dL_law_1492 dL_law_1493 dL_law_1494 ?_
  refine lw_x hsg hI dL_law_1495 mv_X10_point ml_L_149 ⟨Nat.le_of_ble_eq_true rfl, Nat.le_of_ble_eq_true rfl, rfl, rfl, rfl⟩ hk (As := [.int (xs (i + 1)), .int (xs (i + 2))]) rfl rfl c1 (fun r w' q => ?_)
  obtain ⟨l1, l2, hg, Q2, c2, h2⟩ := h r w' q
  refine ⟨⟨l1, l2⟩, ?_⟩
  refine az_aload_n dL_law_1498 (x := 1000) rfl ?_
  refine lw_arg 1 (lw_ix (by omega) hL (by decide)) dL_law_1499 dL_law_1500 dL_law_1502 dL_law_1503 dL_law_1504 ?_
  refine lw_arg 2 (lw_ix (by omega) hL (by decide)) dL_law_1505 dL_law_1506 dL_law_1508 dL_law_1509 dL_law_1510 ?_
  refine lw_m hsg l1 l2 hg dL_law_1511 mv_X11_point ml_L_152 ⟨Nat.le_of_ble_eq_true rfl, Nat.le_of_ble_eq_true rfl, rfl, rfl, rfl⟩ hk (As := [.int (xs (i + 1)), .int (xs (i + 2))]) rfl rfl c2 (fun r2 w2 q2 => ?_)
  obtain ⟨e1, e2, e3⟩ := h2 r2 w2 q2
  obtain ⟨m1, m2, w3, i3, e4⟩ := e3
  obtain ⟨sg2, s2, e5⟩ := e4 sg o hsg
  refine ⟨⟨m1, m2⟩, lw_eqI (tgt := 2795) ⟨e1, e2⟩ dL_law_1514 (by decide) ?_⟩
  rw [e5]
  exact kk sg2 w3 s2 i3
theorem lc_31 {Z : ZT} {L : Nat} {xs : Nat → Int32} {kn : Nat × Nat} {i : Nat} {w : ax_W} {sg : Nat → Nat} {o : ax_E} (hsg : isSg sg) (hI : INV w) (hi : i + 6 ≤ L) (hL : L ≤ 3072) (hk : kn.1 ≤ 1080 ∧ kn.2 ≤ 11187) (kk : ∀ (sg : Nat → Nat) (w : ax_W), isSg sg → INV w → AbZ Z (M_law L xs) kn 2795 (lwL i) [] (upW sg o w)) : AbZ Z (M_law L xs) kn 1519 (lwL i) [] (upW sg o w) := by
  obtain ⟨Q1, c1, h⟩ := prx_of (pr_traced hI (xs (i + 1)) (xs (i + 2)) (xs (i + 3)) (xs (i + 4)) (xs (i + 5)))
  refine az_aload_n dL_law_1519 (x := 0) rfl ?_
  refine lw_arg 1 (lw_ix (by omega) hL (by decide)) dL_law_1520 dL_law_1521 dL_law_1523 dL_law_1524 dL_law_1525 ?_
  refine lw_arg 2 (lw_ix (by omega) hL (by decide)) dL_law_1526 dL_law_1527 dL_law_1529 dL_law_1530 dL_law_1531 ?_
  refine lw_arg 3 (lw_ix (by omega) hL (by decide)) dL_law_1532 dL_law_1533 dL_law_1535 dL_law_1536 dL_law_1537 ?_
  refine lw_arg 4 (lw_ix (by omega) hL (by decide)) dL_law_1538 dL_law_1539 dL_law_1541 dL_law_1542 dL_law_1543 ?_
  refine lw_arg 5 (lw_ix (by omega) hL (by decide)) dL_law_1544 dL_law_1545 dL_law_1547 dL_law_1548 dL_law_1549 ?_
  refine lw_x hsg hI dL_law_1550 mv_X10_traced ml_L_153 ⟨Nat.le_of_ble_eq_true rfl, Nat.le_of_ble_eq_true rfl, rfl, rfl, rfl⟩ hk (As := [.int (xs (i + 1)), .int (xs (i + 2)), .int (xs (i + 3)), .int (xs (i + 4)), .int (xs (i + 5))]) rfl rfl c1 (fun r w' q => ?_)
  obtain ⟨l1, l2, hg, Q2, c2, h2⟩ := h r w' q
  refine ⟨⟨l1, l2⟩, ?_⟩
  refine az_aload_n dL_law_1553 (x := 1000) rfl ?_
  refine lw_arg 1 (lw_ix (by omega) hL (by decide)) dL_law_1554 dL_law_1555 dL_law_1557 dL_law_1558 dL_law_1559 ?_
  refine lw_arg 2 (lw_ix (by omega) hL (by decide)) dL_law_1560 dL_law_1561 dL_law_1563 dL_law_1564 dL_law_1565 ?_
  refine lw_arg 3 (lw_ix (by omega) hL (by decide)) dL_law_1566 dL_law_1567 dL_law_1569 dL_law_1570 dL_law_1571 ?_
  refine lw_arg 4 (lw_ix (by omega) hL (by decide)) dL_law_1572 dL_law_1573 dL_law_1575 dL_law_1576 dL_law_1577 ?_
  refine lw_arg 5 (lw_ix (by omega) hL (by decide)) dL_law_1578 dL_law_1579 dL_law_1581 dL_law_1582 dL_law_1583 ?_
  refine lw_m hsg l1 l2 hg dL_law_1584 mv_X11_traced ml_L_156 ⟨Nat.le_of_ble_eq_true rfl, Nat.le_of_ble_eq_true rfl, rfl, rfl, rfl⟩ hk (As := [.int (xs (i + 1)), .int (xs (i + 2)), .int (xs (i + 3)), .int (xs (i + 4)), .int (xs (i + 5))]) rfl rfl c2 (fun r2 w2 q2 => ?_)
  obtain ⟨e1, e2, e3⟩ := h2 r2 w2 q2
  obtain ⟨m1, m2, w3, i3, e4⟩ := e3
  obtain ⟨sg2, s2, e5⟩ := e4 sg o hsg
  refine ⟨⟨m1, m2⟩, lw_eqI (tgt := 2795) ⟨e1, e2⟩ dL_law_1587 (by decide) ?_⟩
  rw [e5]
  exact kk sg2 w3 s2 i3
theorem lc_32 {Z : ZT} {L : Nat} {xs : Nat → Int32} {kn : Nat × Nat} {i : Nat} {w : ax_W} {sg : Nat → Nat} {o : ax_E} (hsg : isSg sg) (hI : INV w) (hi : i + 6 ≤ L) (hL : L ≤ 3072) (hk : kn.1 ≤ 1080 ∧ kn.2 ≤ 11187) (kk : ∀ (sg : Nat → Nat) (w : ax_W), isSg sg → INV w → AbZ Z (M_law L xs) kn 2795 (lwL i) [] (upW sg o w)) : AbZ Z (M_law L xs) kn 1592 (lwL i) [] (upW sg o w) := by
  obtain ⟨Q1, c1, h⟩ := prx_of (pr_box hI (xs (i + 1)) (xs (i + 2)) (xs (i + 3)) (xs (i + 4)))
  refine az_aload_n dL_law_1592 (x := 0) rfl ?_
  refine lw_arg 1 (lw_ix (by omega) hL (by decide)) dL_law_1593 dL_law_1594 dL_law_1596 dL_law_1597 dL_law_1598 ?_
  refine lw_arg 2 (lw_ix (by omega) hL (by decide)) dL_law_1599 dL_law_1600 dL_law_1602 dL_law_1603 dL_law_1604 ?_
  refine lw_arg 3 (lw_ix (by omega) hL (by decide)) dL_law_1605 dL_law_1606 dL_law_1608 dL_law_1609 dL_law_1610 ?_
  refine lw_arg 4 (lw_ix (by omega) hL (by decide)) dL_law_1611 dL_law_1612 dL_law_1614 dL_law_1615 dL_law_1616 ?_
  refine lw_x hsg hI dL_law_1617 mv_X10_box ml_L_157 ⟨Nat.le_of_ble_eq_true rfl, Nat.le_of_ble_eq_true rfl, rfl, rfl, rfl⟩ hk (As := [.int (xs (i + 1)), .int (xs (i + 2)), .int (xs (i + 3)), .int (xs (i + 4))]) rfl rfl c1 (fun r w' q => ?_)
  obtain ⟨l1, l2, hg, Q2, c2, h2⟩ := h r w' q
  refine ⟨⟨l1, l2⟩, ?_⟩
  refine az_aload_n dL_law_1620 (x := 1000) rfl ?_
  refine lw_arg 1 (lw_ix (by omega) hL (by decide)) dL_law_1621 dL_law_1622 dL_law_1624 dL_law_1625 dL_law_1626 ?_
  refine lw_arg 2 (lw_ix (by omega) hL (by decide)) dL_law_1627 dL_law_1628 dL_law_1630 dL_law_1631 dL_law_1632 ?_
  refine lw_arg 3 (lw_ix (by omega) hL (by decide)) dL_law_1633 dL_law_1634 dL_law_1636 dL_law_1637 dL_law_1638 ?_
  refine lw_arg 4 (lw_ix (by omega) hL (by decide)) dL_law_1639 dL_law_1640 dL_law_1642 dL_law_1643 dL_law_1644 ?_
  refine lw_m hsg l1 l2 hg dL_law_1645 mv_X11_box ml_L_160 ⟨Nat.le_of_ble_eq_true rfl, Nat.le_of_ble_eq_true rfl, rfl, rfl, rfl⟩ hk (As := [.int (xs (i + 1)), .int (xs (i + 2)), .int (xs (i + 3)), .int (xs (i + 4))]) rfl rfl c2 (fun r2 w2 q2 => ?_)
  obtain ⟨e1, e2, e3⟩ := h2 r2 w2 q2
  obtain ⟨m1, m2, w3, i3, e4⟩ := e3
  obtain ⟨sg2, s2, e5⟩ := e4 sg o hsg
  refine ⟨⟨m1, m2⟩, lw_eqI (tgt := 2795) ⟨e1, e2⟩ dL_law_1648 (by decide) ?_⟩
  rw [e5]
  exact kk sg2 w3 s2 i3
theorem lc_33 {Z : ZT} {L : Nat} {xs : Nat → Int32} {kn : Nat × Nat} {i : Nat} {w : ax_W} {sg : Nat → Nat} {o : ax_E} (hsg : isSg sg) (hI : INV w) (hi : i + 6 ≤ L) (hL : L ≤ 3072) (hk : kn.1 ≤ 1080 ∧ kn.2 ≤ 11187) (kk : ∀ (sg : Nat → Nat) (w : ax_W), isSg sg → INV w → AbZ Z (M_law L xs) kn 2795 (lwL i) [] (upW sg o w)) : AbZ Z (M_law L xs) kn 1653 (lwL i) [] (upW sg o w) := by
  obtain ⟨Q1, c1, h⟩ := pr_area hI (xs (i + 1)) (xs (i + 2)) (xs (i + 3))
  refine az_aload_n dL_law_1653 (x := 0) rfl ?_
  refine lw_arg 1 (lw_ix (by omega) hL (by decide)) dL_law_1654 dL_law_1655 dL_law_1657 dL_law_1658 dL_law_1659 ?_
  refine lw_arg 2 (lw_ix (by omega) hL (by decide)) dL_law_1660 dL_law_1661 dL_law_1663 dL_law_1664 dL_law_1665 ?_
  refine lw_arg 3 (lw_ix (by omega) hL (by decide)) dL_law_1666 dL_law_1667 dL_law_1669 dL_law_1670 dL_law_1671 ?_
  refine lw_x hsg hI dL_law_1672 mv_X10_area ml_L_161 ⟨Nat.le_of_ble_eq_true rfl, Nat.le_of_ble_eq_true rfl, rfl, rfl, rfl⟩ hk (As := [.int (xs (i + 1)), .int (xs (i + 2)), .int (xs (i + 3))]) rfl rfl c1 (fun r w' q => ?_)
  obtain ⟨l1, l2, hg, Q2, c2, h2⟩ := h r w' q
  refine ⟨⟨l1, l2⟩, ?_⟩
  refine az_aload_n dL_law_1675 (x := 1000) rfl ?_
  refine lw_arg 1 (lw_ix (by omega) hL (by decide)) dL_law_1676 dL_law_1677 dL_law_1679 dL_law_1680 dL_law_1681 ?_
  refine lw_arg 2 (lw_ix (by omega) hL (by decide)) dL_law_1682 dL_law_1683 dL_law_1685 dL_law_1686 dL_law_1687 ?_
  refine lw_arg 3 (lw_ix (by omega) hL (by decide)) dL_law_1688 dL_law_1689 dL_law_1691 dL_law_1692 dL_law_1693 ?_
  refine lw_m hsg l1 l2 hg dL_law_1694 mv_X11_area ml_L_165 ⟨Nat.le_of_ble_eq_true rfl, Nat.le_of_ble_eq_true rfl, rfl, rfl, rfl⟩ hk (As := [.int (xs (i + 1)), .int (xs (i + 2)), .int (xs (i + 3))]) rfl rfl c2 (fun r2 w2 q2 => ?_)
  obtain ⟨e1, e2, e3⟩ := h2 r2 w2 q2
  exact ⟨⟨(inv_w e3).1, (inv_w e3).2.1⟩, lw_eqL (tgt := 2795) ⟨e1, e2⟩ dL_law_1697 dL_law_1698 (by decide) (kk sg w2 hsg e3)⟩
theorem lc_34 {Z : ZT} {L : Nat} {xs : Nat → Int32} {kn : Nat × Nat} {i : Nat} {w : ax_W} {sg : Nat → Nat} {o : ax_E} (hsg : isSg sg) (hI : INV w) (hi : i + 6 ≤ L) (hL : L ≤ 3072) (hk : kn.1 ≤ 1080 ∧ kn.2 ≤ 11187) (kk : ∀ (sg : Nat → Nat) (w : ax_W), isSg sg → INV w → AbZ Z (M_law L xs) kn 2795 (lwL i) [] (upW sg o w)) : AbZ Z (M_law L xs) kn 1703 (lwL i) [] (upW sg o w) := by
  obtain ⟨Q1, c1, h⟩ := prx_of (pr_crossings hI (xs (i + 1)) (xs (i + 2)) (xs (i + 3)))
  refine az_aload_n dL_law_1703 (x := 0) rfl ?_
  refine lw_arg 1 (lw_ix (by omega) hL (by decide)) dL_law_1704 dL_law_1705 dL_law_1707 dL_law_1708 dL_law_1709 ?_
  refine lw_arg 2 (lw_ix (by omega) hL (by decide)) dL_law_1710 dL_law_1711 dL_law_1713 dL_law_1714 dL_law_1715 ?_
  refine lw_arg 3 (lw_ix (by omega) hL (by decide)) dL_law_1716 dL_law_1717 dL_law_1719 dL_law_1720 dL_law_1721 ?_
  refine lw_x hsg hI dL_law_1722 mv_X10_crossings ml_L_166 ⟨Nat.le_of_ble_eq_true rfl, Nat.le_of_ble_eq_true rfl, rfl, rfl, rfl⟩ hk (As := [.int (xs (i + 1)), .int (xs (i + 2)), .int (xs (i + 3))]) rfl rfl c1 (fun r w' q => ?_)
  obtain ⟨l1, l2, hg, Q2, c2, h2⟩ := h r w' q
  refine ⟨⟨l1, l2⟩, ?_⟩
  refine az_aload_n dL_law_1725 (x := 1000) rfl ?_
  refine lw_arg 1 (lw_ix (by omega) hL (by decide)) dL_law_1726 dL_law_1727 dL_law_1729 dL_law_1730 dL_law_1731 ?_
  refine lw_arg 2 (lw_ix (by omega) hL (by decide)) dL_law_1732 dL_law_1733 dL_law_1735 dL_law_1736 dL_law_1737 ?_
  refine lw_arg 3 (lw_ix (by omega) hL (by decide)) dL_law_1738 dL_law_1739 dL_law_1741 dL_law_1742 dL_law_1743 ?_
  refine lw_m hsg l1 l2 hg dL_law_1744 mv_X11_crossings ml_L_169 ⟨Nat.le_of_ble_eq_true rfl, Nat.le_of_ble_eq_true rfl, rfl, rfl, rfl⟩ hk (As := [.int (xs (i + 1)), .int (xs (i + 2)), .int (xs (i + 3))]) rfl rfl c2 (fun r2 w2 q2 => ?_)
  obtain ⟨e1, e2, e3⟩ := h2 r2 w2 q2
  obtain ⟨m1, m2, w3, i3, e4⟩ := e3
  obtain ⟨sg2, s2, e5⟩ := e4 sg o hsg
  refine ⟨⟨m1, m2⟩, lw_eqI (tgt := 2795) ⟨e1, e2⟩ dL_law_1747 (by decide) ?_⟩
  rw [e5]
  exact kk sg2 w3 s2 i3
theorem lc_35 {Z : ZT} {L : Nat} {xs : Nat → Int32} {kn : Nat × Nat} {i : Nat} {w : ax_W} {sg : Nat → Nat} {o : ax_E} (hsg : isSg sg) (hI : INV w) (hi : i + 6 ≤ L) (hL : L ≤ 3072) (hk : kn.1 ≤ 1080 ∧ kn.2 ≤ 11187) (kk : ∀ (sg : Nat → Nat) (w : ax_W), isSg sg → INV w → AbZ Z (M_law L xs) kn 2795 (lwL i) [] (upW sg o w)) : AbZ Z (M_law L xs) kn 1752 (lwL i) [] (upW sg o w) := by
  obtain ⟨Q1, c1, h⟩ := prx_of (pr_hull hI (xs (i + 1)) (xs (i + 2)) (xs (i + 3)))
  refine az_aload_n dL_law_1752 (x := 0) rfl ?_
  refine lw_arg 1 (lw_ix (by omega) hL (by decide)) dL_law_1753 dL_law_1754 dL_law_1756 dL_law_1757 dL_law_1758 ?_
  refine lw_arg 2 (lw_ix (by omega) hL (by decide)) dL_law_1759 dL_law_1760 dL_law_1762 dL_law_1763 dL_law_1764 ?_
  refine lw_arg 3 (lw_ix (by omega) hL (by decide)) dL_law_1765 dL_law_1766 dL_law_1768 dL_law_1769 dL_law_1770 ?_
  refine lw_x hsg hI dL_law_1771 mv_X10_hull ml_L_170 ⟨Nat.le_of_ble_eq_true rfl, Nat.le_of_ble_eq_true rfl, rfl, rfl, rfl⟩ hk (As := [.int (xs (i + 1)), .int (xs (i + 2)), .int (xs (i + 3))]) rfl rfl c1 (fun r w' q => ?_)
  obtain ⟨l1, l2, hg, Q2, c2, h2⟩ := h r w' q
  refine ⟨⟨l1, l2⟩, ?_⟩
  refine az_aload_n dL_law_1774 (x := 1000) rfl ?_
  refine lw_arg 1 (lw_ix (by omega) hL (by decide)) dL_law_1775 dL_law_1776 dL_law_1778 dL_law_1779 dL_law_1780 ?_
  refine lw_arg 2 (lw_ix (by omega) hL (by decide)) dL_law_1781 dL_law_1782 dL_law_1784 dL_law_1785 dL_law_1786 ?_
  refine lw_arg 3 (lw_ix (by omega) hL (by decide)) dL_law_1787 dL_law_1788 dL_law_1790 dL_law_1791 dL_law_1792 ?_
  refine lw_m hsg l1 l2 hg dL_law_1793 mv_X11_hull ml_L_173 ⟨Nat.le_of_ble_eq_true rfl, Nat.le_of_ble_eq_true rfl, rfl, rfl, rfl⟩ hk (As := [.int (xs (i + 1)), .int (xs (i + 2)), .int (xs (i + 3))]) rfl rfl c2 (fun r2 w2 q2 => ?_)
  obtain ⟨e1, e2, e3⟩ := h2 r2 w2 q2
  obtain ⟨m1, m2, w3, i3, e4⟩ := e3
  obtain ⟨sg2, s2, e5⟩ := e4 sg o hsg
  refine ⟨⟨m1, m2⟩, lw_eqI (tgt := 2795) ⟨e1, e2⟩ dL_law_1796 (by decide) ?_⟩
  rw [e5]
  exact kk sg2 w3 s2 i3
theorem lc_36 {Z : ZT} {L : Nat} {xs : Nat → Int32} {kn : Nat × Nat} {i : Nat} {w : ax_W} {sg : Nat → Nat} {o : ax_E} (hsg : isSg sg) (hI : INV w) (hi : i + 6 ≤ L) (hL : L ≤ 3072) (hk : kn.1 ≤ 1080 ∧ kn.2 ≤ 11187) (kk : ∀ (sg : Nat → Nat) (w : ax_W), isSg sg → INV w → AbZ Z (M_law L xs) kn 2795 (lwL i) [] (upW sg o w)) : AbZ Z (M_law L xs) kn 1801 (lwL i) [] (upW sg o w) := by
  obtain ⟨Q1, c1, h⟩ := prx_of (pr_corner hI (xs (i + 1)) (xs (i + 2)) (xs (i + 3)) (xs (i + 4)))
  refine az_aload_n dL_law_1801 (x := 0) rfl ?_
  refine lw_arg 1 (lw_ix (by omega) hL (by decide)) dL_law_1802 dL_law_1803 dL_law_1805 dL_law_1806 dL_law_1807 ?_
  refine lw_arg 2 (lw_ix (by omega) hL (by decide)) dL_law_1808 dL_law_1809 dL_law_1811 dL_law_1812 dL_law_1813 ?_
  refine lw_arg 3 (lw_ix (by omega) hL (by decide)) dL_law_1814 dL_law_1815 dL_law_1817 dL_law_1818 dL_law_1819 ?_
  refine lw_arg 4 (lw_ix (by omega) hL (by decide)) dL_law_1820 dL_law_1821 dL_law_1823 dL_law_1824 dL_law_1825 ?_
  refine lw_x hsg hI dL_law_1826 mv_X10_corner ml_L_174 ⟨Nat.le_of_ble_eq_true rfl, Nat.le_of_ble_eq_true rfl, rfl, rfl, rfl⟩ hk (As := [.int (xs (i + 1)), .int (xs (i + 2)), .int (xs (i + 3)), .int (xs (i + 4))]) rfl rfl c1 (fun r w' q => ?_)
  obtain ⟨l1, l2, hg, Q2, c2, h2⟩ := h r w' q
  refine ⟨⟨l1, l2⟩, ?_⟩
  refine az_aload_n dL_law_1829 (x := 1000) rfl ?_
  refine lw_arg 1 (lw_ix (by omega) hL (by decide)) dL_law_1830 dL_law_1831 dL_law_1833 dL_law_1834 dL_law_1835 ?_
  refine lw_arg 2 (lw_ix (by omega) hL (by decide)) dL_law_1836 dL_law_1837 dL_law_1839 dL_law_1840 dL_law_1841 ?_
  refine lw_arg 3 (lw_ix (by omega) hL (by decide)) dL_law_1842 dL_law_1843 dL_law_1845 dL_law_1846 dL_law_1847 ?_
  refine lw_arg 4 (lw_ix (by omega) hL (by decide)) dL_law_1848 dL_law_1849 dL_law_1851 dL_law_1852 dL_law_1853 ?_
  refine lw_m hsg l1 l2 hg dL_law_1854 mv_X11_corner ml_L_177 ⟨Nat.le_of_ble_eq_true rfl, Nat.le_of_ble_eq_true rfl, rfl, rfl, rfl⟩ hk (As := [.int (xs (i + 1)), .int (xs (i + 2)), .int (xs (i + 3)), .int (xs (i + 4))]) rfl rfl c2 (fun r2 w2 q2 => ?_)
  obtain ⟨e1, e2, e3⟩ := h2 r2 w2 q2
  obtain ⟨m1, m2, w3, i3, e4⟩ := e3
  obtain ⟨sg2, s2, e5⟩ := e4 sg o hsg
  refine ⟨⟨m1, m2⟩, lw_eqI (tgt := 2795) ⟨e1, e2⟩ dL_law_1857 (by decide) ?_⟩
  rw [e5]
  exact kk sg2 w3 s2 i3
theorem lc_37 {Z : ZT} {L : Nat} {xs : Nat → Int32} {kn : Nat × Nat} {i : Nat} {w : ax_W} {sg : Nat → Nat} {o : ax_E} (hsg : isSg sg) (hI : INV w) (hi : i + 6 ≤ L) (hL : L ≤ 3072) (hk : kn.1 ≤ 1080 ∧ kn.2 ≤ 11187) (kk : ∀ (sg : Nat → Nat) (w : ax_W), isSg sg → INV w → AbZ Z (M_law L xs) kn 2795 (lwL i) [] (upW sg o w)) : AbZ Z (M_law L xs) kn 1862 (lwL i) [] (upW sg o w) := by
  obtain ⟨Q1, c1, h⟩ := pr_hullArea hI (xs (i + 1)) (xs (i + 2)) (xs (i + 3))
  refine az_aload_n dL_law_1862 (x := 0) rfl ?_
  refine lw_arg 1 (lw_ix (by omega) hL (by decide)) dL_law_1863 dL_law_1864 dL_law_1866 dL_law_1867 dL_law_1868 ?_
  refine lw_arg 2 (lw_ix (by omega) hL (by decide)) dL_law_1869 dL_law_1870 dL_law_1872 dL_law_1873 dL_law_1874 ?_
  refine lw_arg 3 (lw_ix (by omega) hL (by decide)) dL_law_1875 dL_law_1876 dL_law_1878 dL_law_1879 dL_law_1880 ?_
  refine lw_x hsg hI dL_law_1881 mv_X10_hullArea ml_L_178 ⟨Nat.le_of_ble_eq_true rfl, Nat.le_of_ble_eq_true rfl, rfl, rfl, rfl⟩ hk (As := [.int (xs (i + 1)), .int (xs (i + 2)), .int (xs (i + 3))]) rfl rfl c1 (fun r w' q => ?_)
  obtain ⟨l1, l2, hg, Q2, c2, h2⟩ := h r w' q
  refine ⟨⟨l1, l2⟩, ?_⟩
  refine az_aload_n dL_law_1884 (x := 1000) rfl ?_
  refine lw_arg 1 (lw_ix (by omega) hL (by decide)) dL_law_1885 dL_law_1886 dL_law_1888 dL_law_1889 dL_law_1890 ?_
  refine lw_arg 2 (lw_ix (by omega) hL (by decide)) dL_law_1891 dL_law_1892 dL_law_1894 dL_law_1895 dL_law_1896 ?_
  refine lw_arg 3 (lw_ix (by omega) hL (by decide)) dL_law_1897 dL_law_1898 dL_law_1900 dL_law_1901 dL_law_1902 ?_
  refine lw_m hsg l1 l2 hg dL_law_1903 mv_X11_hullArea ml_L_181 ⟨Nat.le_of_ble_eq_true rfl, Nat.le_of_ble_eq_true rfl, rfl, rfl, rfl⟩ hk (As := [.int (xs (i + 1)), .int (xs (i + 2)), .int (xs (i + 3))]) rfl rfl c2 (fun r2 w2 q2 => ?_)
  obtain ⟨e1, e2, e3⟩ := h2 r2 w2 q2
  exact ⟨⟨(inv_w e3).1, (inv_w e3).2.1⟩, lw_eqL (tgt := 2795) ⟨e1, e2⟩ dL_law_1906 dL_law_1907 (by decide) (kk sg w2 hsg e3)⟩
theorem lc_38 {Z : ZT} {L : Nat} {xs : Nat → Int32} {kn : Nat × Nat} {i : Nat} {w : ax_W} {sg : Nat → Nat} {o : ax_E} (hsg : isSg sg) (hI : INV w) (hi : i + 6 ≤ L) (hL : L ≤ 3072) (hk : kn.1 ≤ 1080 ∧ kn.2 ≤ 11187) (kk : ∀ (sg : Nat → Nat) (w : ax_W), isSg sg → INV w → AbZ Z (M_law L xs) kn 2795 (lwL i) [] (upW sg o w)) : AbZ Z (M_law L xs) kn 1912 (lwL i) [] (upW sg o w) := by
  obtain ⟨Q1, c1, h⟩ := prx_of (pr_straight hI (xs (i + 1)) (xs (i + 2)) (xs (i + 3)) (xs (i + 4)))
  refine az_aload_n dL_law_1912 (x := 0) rfl ?_
  refine lw_arg 1 (lw_ix (by omega) hL (by decide)) dL_law_1913 dL_law_1914 dL_law_1916 dL_law_1917 dL_law_1918 ?_
  refine lw_arg 2 (lw_ix (by omega) hL (by decide)) dL_law_1919 dL_law_1920 dL_law_1922 dL_law_1923 dL_law_1924 ?_
  refine lw_arg 3 (lw_ix (by omega) hL (by decide)) dL_law_1925 dL_law_1926 dL_law_1928 dL_law_1929 dL_law_1930 ?_
  refine lw_arg 4 (lw_ix (by omega) hL (by decide)) dL_law_1931 dL_law_1932 dL_law_1934 dL_law_1935 dL_law_1936 ?_
  refine lw_x hsg hI dL_law_1937 mv_X10_straight ml_L_182 ⟨Nat.le_of_ble_eq_true rfl, Nat.le_of_ble_eq_true rfl, rfl, rfl, rfl⟩ hk (As := [.int (xs (i + 1)), .int (xs (i + 2)), .int (xs (i + 3)), .int (xs (i + 4))]) rfl rfl c1 (fun r w' q => ?_)
  obtain ⟨l1, l2, hg, Q2, c2, h2⟩ := h r w' q
  refine ⟨⟨l1, l2⟩, ?_⟩
  refine az_aload_n dL_law_1940 (x := 1000) rfl ?_
  refine lw_arg 1 (lw_ix (by omega) hL (by decide)) dL_law_1941 dL_law_1942 dL_law_1944 dL_law_1945 dL_law_1946 ?_
  refine lw_arg 2 (lw_ix (by omega) hL (by decide)) dL_law_1947 dL_law_1948 dL_law_1950 dL_law_1951 dL_law_1952 ?_
  refine lw_arg 3 (lw_ix (by omega) hL (by decide)) dL_law_1953 dL_law_1954 dL_law_1956 dL_law_1957 dL_law_1958 ?_
  refine lw_arg 4 (lw_ix (by omega) hL (by decide)) dL_law_1959 dL_law_1960 dL_law_1962 dL_law_1963 dL_law_1964 ?_
  refine lw_m hsg l1 l2 hg dL_law_1965 mv_X11_straight ml_L_185 ⟨Nat.le_of_ble_eq_true rfl, Nat.le_of_ble_eq_true rfl, rfl, rfl, rfl⟩ hk (As := [.int (xs (i + 1)), .int (xs (i + 2)), .int (xs (i + 3)), .int (xs (i + 4))]) rfl rfl c2 (fun r2 w2 q2 => ?_)
  obtain ⟨e1, e2, e3⟩ := h2 r2 w2 q2
  obtain ⟨m1, m2, w3, i3, e4⟩ := e3
  obtain ⟨sg2, s2, e5⟩ := e4 sg o hsg
  refine ⟨⟨m1, m2⟩, lw_eqI (tgt := 2795) ⟨e1, e2⟩ dL_law_1968 (by decide) ?_⟩
  rw [e5]
  exact kk sg2 w3 s2 i3
theorem lc_39 {Z : ZT} {L : Nat} {xs : Nat → Int32} {kn : Nat × Nat} {i : Nat} {w : ax_W} {sg : Nat → Nat} {o : ax_E} (hsg : isSg sg) (hI : INV w) (hi : i + 6 ≤ L) (hL : L ≤ 3072) (hk : kn.1 ≤ 1080 ∧ kn.2 ≤ 11187) (kk : ∀ (sg : Nat → Nat) (w : ax_W), isSg sg → INV w → AbZ Z (M_law L xs) kn 2795 (lwL i) [] (upW sg o w)) : AbZ Z (M_law L xs) kn 1973 (lwL i) [] (upW sg o w) := by
  obtain ⟨Q1, c1, h⟩ := prx_of (pr_straightFrom hI (xs (i + 1)) (xs (i + 2)) (xs (i + 3)) (xs (i + 4)))
  refine az_aload_n dL_law_1973 (x := 0) rfl ?_
  refine lw_arg 1 (lw_ix (by omega) hL (by decide)) dL_law_1974 dL_law_1975 dL_law_1977 dL_law_1978 dL_law_1979 ?_
  refine lw_arg 2 (lw_ix (by omega) hL (by decide)) dL_law_1980 dL_law_1981 dL_law_1983 dL_law_1984 dL_law_1985 ?_
  refine lw_arg 3 (lw_ix (by omega) hL (by decide)) dL_law_1986 dL_law_1987 dL_law_1989 dL_law_1990 dL_law_1991 ?_
  refine lw_arg 4 (lw_ix (by omega) hL (by decide)) dL_law_1992 dL_law_1993 dL_law_1995 dL_law_1996 dL_law_1997 ?_
  refine lw_x hsg hI dL_law_1998 mv_X10_straightFrom ml_L_186 ⟨Nat.le_of_ble_eq_true rfl, Nat.le_of_ble_eq_true rfl, rfl, rfl, rfl⟩ hk (As := [.int (xs (i + 1)), .int (xs (i + 2)), .int (xs (i + 3)), .int (xs (i + 4))]) rfl rfl c1 (fun r w' q => ?_)
  obtain ⟨l1, l2, hg, Q2, c2, h2⟩ := h r w' q
  refine ⟨⟨l1, l2⟩, ?_⟩
  refine az_aload_n dL_law_2001 (x := 1000) rfl ?_
  refine lw_arg 1 (lw_ix (by omega) hL (by decide)) dL_law_2002 dL_law_2003 dL_law_2005 dL_law_2006 dL_law_2007 ?_
  refine lw_arg 2 (lw_ix (by omega) hL (by decide)) dL_law_2008 dL_law_2009 dL_law_2011 dL_law_2012 dL_law_2013 ?_
  refine lw_arg 3 (lw_ix (by omega) hL (by decide)) dL_law_2014 dL_law_2015 dL_law_2017 dL_law_2018 dL_law_2019 ?_
  refine lw_arg 4 (lw_ix (by omega) hL (by decide)) dL_law_2020 dL_law_2021 dL_law_2023 dL_law_2024 dL_law_2025 ?_
  refine lw_m hsg l1 l2 hg dL_law_2026 mv_X11_straightFrom ml_L_189 ⟨Nat.le_of_ble_eq_true rfl, Nat.le_of_ble_eq_true rfl, rfl, rfl, rfl⟩ hk (As := [.int (xs (i + 1)), .int (xs (i + 2)), .int (xs (i + 3)), .int (xs (i + 4))]) rfl rfl c2 (fun r2 w2 q2 => ?_)
  obtain ⟨e1, e2, e3⟩ := h2 r2 w2 q2
  obtain ⟨m1, m2, w3, i3, e4⟩ := e3
  obtain ⟨sg2, s2, e5⟩ := e4 sg o hsg
  refine ⟨⟨m1, m2⟩, lw_eqI (tgt := 2795) ⟨e1, e2⟩ dL_law_2029 (by decide) ?_⟩
  rw [e5]
  exact kk sg2 w3 s2 i3
theorem lc_40 {Z : ZT} {L : Nat} {xs : Nat → Int32} {kn : Nat × Nat} {i : Nat} {w : ax_W} {sg : Nat → Nat} {o : ax_E} (hsg : isSg sg) (hI : INV w) (hi : i + 6 ≤ L) (hL : L ≤ 3072) (hk : kn.1 ≤ 1080 ∧ kn.2 ≤ 11187) (kk : ∀ (sg : Nat → Nat) (w : ax_W), isSg sg → INV w → AbZ Z (M_law L xs) kn 2795 (lwL i) [] (upW sg o w)) : AbZ Z (M_law L xs) kn 2034 (lwL i) [] (upW sg o w) := by
  obtain ⟨Q1, c1, h⟩ := prx_of (pr_near hI (xs (i + 1)) (xs (i + 2)) (xs (i + 3)) (xs (i + 4)) (xs (i + 5)))
  refine az_aload_n dL_law_2034 (x := 0) rfl ?_
  refine lw_arg 1 (lw_ix (by omega) hL (by decide)) dL_law_2035 dL_law_2036 dL_law_2038 dL_law_2039 dL_law_2040 ?_
  refine lw_arg 2 (lw_ix (by omega) hL (by decide)) dL_law_2041 dL_law_2042 dL_law_2044 dL_law_2045 dL_law_2046 ?_
  refine lw_arg 3 (lw_ix (by omega) hL (by decide)) dL_law_2047 dL_law_2048 dL_law_2050 dL_law_2051 dL_law_2052 ?_
  refine lw_arg 4 (lw_ix (by omega) hL (by decide)) dL_law_2053 dL_law_2054 dL_law_2056 dL_law_2057 dL_law_2058 ?_
  refine lw_arg 5 (lw_ix (by omega) hL (by decide)) dL_law_2059 dL_law_2060 dL_law_2062 dL_law_2063 dL_law_2064 ?_
  refine lw_x hsg hI dL_law_2065 mv_X10_near ml_L_190 ⟨Nat.le_of_ble_eq_true rfl, Nat.le_of_ble_eq_true rfl, rfl, rfl, rfl⟩ hk (As := [.int (xs (i + 1)), .int (xs (i + 2)), .int (xs (i + 3)), .int (xs (i + 4)), .int (xs (i + 5))]) rfl rfl c1 (fun r w' q => ?_)
  obtain ⟨l1, l2, hg, Q2, c2, h2⟩ := h r w' q
  refine ⟨⟨l1, l2⟩, ?_⟩
  refine az_aload_n dL_law_2068 (x := 1000) rfl ?_
  refine lw_arg 1 (lw_ix (by omega) hL (by decide)) dL_law_2069 dL_law_2070 dL_law_2072 dL_law_2073 dL_law_2074 ?_
  refine lw_arg 2 (lw_ix (by omega) hL (by decide)) dL_law_2075 dL_law_2076 dL_law_2078 dL_law_2079 dL_law_2080 ?_
  refine lw_arg 3 (lw_ix (by omega) hL (by decide)) dL_law_2081 dL_law_2082 dL_law_2084 dL_law_2085 dL_law_2086 ?_
  refine lw_arg 4 (lw_ix (by omega) hL (by decide)) dL_law_2087 dL_law_2088 dL_law_2090 dL_law_2091 dL_law_2092 ?_
  refine lw_arg 5 (lw_ix (by omega) hL (by decide)) dL_law_2093 dL_law_2094 dL_law_2096 dL_law_2097 dL_law_2098 ?_
  refine lw_m hsg l1 l2 hg dL_law_2099 mv_X11_near ml_L_193 ⟨Nat.le_of_ble_eq_true rfl, Nat.le_of_ble_eq_true rfl, rfl, rfl, rfl⟩ hk (As := [.int (xs (i + 1)), .int (xs (i + 2)), .int (xs (i + 3)), .int (xs (i + 4)), .int (xs (i + 5))]) rfl rfl c2 (fun r2 w2 q2 => ?_)
  obtain ⟨e1, e2, e3⟩ := h2 r2 w2 q2
  obtain ⟨m1, m2, w3, i3, e4⟩ := e3
  obtain ⟨sg2, s2, e5⟩ := e4 sg o hsg
  refine ⟨⟨m1, m2⟩, lw_eqI (tgt := 2795) ⟨e1, e2⟩ dL_law_2102 (by decide) ?_⟩
  rw [e5]
  exact kk sg2 w3 s2 i3
theorem lc_41 {Z : ZT} {L : Nat} {xs : Nat → Int32} {kn : Nat × Nat} {i : Nat} {w : ax_W} {sg : Nat → Nat} {o : ax_E} (hsg : isSg sg) (hI : INV w) (hi : i + 6 ≤ L) (hL : L ≤ 3072) (hk : kn.1 ≤ 1080 ∧ kn.2 ≤ 11187) (kk : ∀ (sg : Nat → Nat) (w : ax_W), isSg sg → INV w → AbZ Z (M_law L xs) kn 2795 (lwL i) [] (upW sg o w)) : AbZ Z (M_law L xs) kn 2107 (lwL i) [] (upW sg o w) := by
  obtain ⟨Q1, c1, h⟩ := prx_of (pr_miss hI (xs (i + 1)) (xs (i + 2)) (xs (i + 3)) (xs (i + 4)))
  refine az_aload_n dL_law_2107 (x := 0) rfl ?_
  refine lw_arg 1 (lw_ix (by omega) hL (by decide)) dL_law_2108 dL_law_2109 dL_law_2111 dL_law_2112 dL_law_2113 ?_
  refine lw_arg 2 (lw_ix (by omega) hL (by decide)) dL_law_2114 dL_law_2115 dL_law_2117 dL_law_2118 dL_law_2119 ?_
  refine lw_arg 3 (lw_ix (by omega) hL (by decide)) dL_law_2120 dL_law_2121 dL_law_2123 dL_law_2124 dL_law_2125 ?_
  refine lw_arg 4 (lw_ix (by omega) hL (by decide)) dL_law_2126 dL_law_2127 dL_law_2129 dL_law_2130 dL_law_2131 ?_
  refine lw_x hsg hI dL_law_2132 mv_X10_miss ml_L_194 ⟨Nat.le_of_ble_eq_true rfl, Nat.le_of_ble_eq_true rfl, rfl, rfl, rfl⟩ hk (As := [.int (xs (i + 1)), .int (xs (i + 2)), .int (xs (i + 3)), .int (xs (i + 4))]) rfl rfl c1 (fun r w' q => ?_)
  obtain ⟨l1, l2, hg, Q2, c2, h2⟩ := h r w' q
  refine ⟨⟨l1, l2⟩, ?_⟩
  refine az_aload_n dL_law_2135 (x := 1000) rfl ?_
  refine lw_arg 1 (lw_ix (by omega) hL (by decide)) dL_law_2136 dL_law_2137 dL_law_2139 dL_law_2140 dL_law_2141 ?_
  refine lw_arg 2 (lw_ix (by omega) hL (by decide)) dL_law_2142 dL_law_2143 dL_law_2145 dL_law_2146 dL_law_2147 ?_
  refine lw_arg 3 (lw_ix (by omega) hL (by decide)) dL_law_2148 dL_law_2149 dL_law_2151 dL_law_2152 dL_law_2153 ?_
  refine lw_arg 4 (lw_ix (by omega) hL (by decide)) dL_law_2154 dL_law_2155 dL_law_2157 dL_law_2158 dL_law_2159 ?_
  refine lw_m hsg l1 l2 hg dL_law_2160 mv_X11_miss ml_L_197 ⟨Nat.le_of_ble_eq_true rfl, Nat.le_of_ble_eq_true rfl, rfl, rfl, rfl⟩ hk (As := [.int (xs (i + 1)), .int (xs (i + 2)), .int (xs (i + 3)), .int (xs (i + 4))]) rfl rfl c2 (fun r2 w2 q2 => ?_)
  obtain ⟨e1, e2, e3⟩ := h2 r2 w2 q2
  obtain ⟨m1, m2, w3, i3, e4⟩ := e3
  obtain ⟨sg2, s2, e5⟩ := e4 sg o hsg
  refine ⟨⟨m1, m2⟩, lw_eqI (tgt := 2795) ⟨e1, e2⟩ dL_law_2163 (by decide) ?_⟩
  rw [e5]
  exact kk sg2 w3 s2 i3
theorem lc_42 {Z : ZT} {L : Nat} {xs : Nat → Int32} {kn : Nat × Nat} {i : Nat} {w : ax_W} {sg : Nat → Nat} {o : ax_E} (hsg : isSg sg) (hI : INV w) (hi : i + 6 ≤ L) (hL : L ≤ 3072) (hk : kn.1 ≤ 1080 ∧ kn.2 ≤ 11187) (kk : ∀ (sg : Nat → Nat) (w : ax_W), isSg sg → INV w → AbZ Z (M_law L xs) kn 2795 (lwL i) [] (upW sg o w)) : AbZ Z (M_law L xs) kn 2168 (lwL i) [] (upW sg o w) := by
  obtain ⟨Q1, c1, h⟩ := prx_of (pr_met hI (xs (i + 1)) (xs (i + 2)) (xs (i + 3)) (xs (i + 4)))
  refine az_aload_n dL_law_2168 (x := 0) rfl ?_
  refine lw_arg 1 (lw_ix (by omega) hL (by decide)) dL_law_2169 dL_law_2170 dL_law_2172 dL_law_2173 dL_law_2174 ?_
  refine lw_arg 2 (lw_ix (by omega) hL (by decide)) dL_law_2175 dL_law_2176 dL_law_2178 dL_law_2179 dL_law_2180 ?_
  refine lw_arg 3 (lw_ix (by omega) hL (by decide)) dL_law_2181 dL_law_2182 dL_law_2184 dL_law_2185 dL_law_2186 ?_
  refine lw_arg 4 (lw_ix (by omega) hL (by decide)) dL_law_2187 dL_law_2188 dL_law_2190 dL_law_2191 dL_law_2192 ?_
  refine lw_x hsg hI dL_law_2193 mv_X10_met ml_L_198 ⟨Nat.le_of_ble_eq_true rfl, Nat.le_of_ble_eq_true rfl, rfl, rfl, rfl⟩ hk (As := [.int (xs (i + 1)), .int (xs (i + 2)), .int (xs (i + 3)), .int (xs (i + 4))]) rfl rfl c1 (fun r w' q => ?_)
  obtain ⟨l1, l2, hg, Q2, c2, h2⟩ := h r w' q
  refine ⟨⟨l1, l2⟩, ?_⟩
  refine az_aload_n dL_law_2196 (x := 1000) rfl ?_
  refine lw_arg 1 (lw_ix (by omega) hL (by decide)) dL_law_2197 dL_law_2198 dL_law_2200 dL_law_2201 dL_law_2202 ?_
  refine lw_arg 2 (lw_ix (by omega) hL (by decide)) dL_law_2203 dL_law_2204 dL_law_2206 dL_law_2207 dL_law_2208 ?_
  refine lw_arg 3 (lw_ix (by omega) hL (by decide)) dL_law_2209 dL_law_2210 dL_law_2212 dL_law_2213 dL_law_2214 ?_
  refine lw_arg 4 (lw_ix (by omega) hL (by decide)) dL_law_2215 dL_law_2216 dL_law_2218 dL_law_2219 dL_law_2220 ?_
  refine lw_m hsg l1 l2 hg dL_law_2221 mv_X11_met ml_L_201 ⟨Nat.le_of_ble_eq_true rfl, Nat.le_of_ble_eq_true rfl, rfl, rfl, rfl⟩ hk (As := [.int (xs (i + 1)), .int (xs (i + 2)), .int (xs (i + 3)), .int (xs (i + 4))]) rfl rfl c2 (fun r2 w2 q2 => ?_)
  obtain ⟨e1, e2, e3⟩ := h2 r2 w2 q2
  obtain ⟨m1, m2, w3, i3, e4⟩ := e3
  obtain ⟨sg2, s2, e5⟩ := e4 sg o hsg
  refine ⟨⟨m1, m2⟩, lw_eqI (tgt := 2795) ⟨e1, e2⟩ dL_law_2224 (by decide) ?_⟩
  rw [e5]
  exact kk sg2 w3 s2 i3
theorem lc_43 {Z : ZT} {L : Nat} {xs : Nat → Int32} {kn : Nat × Nat} {i : Nat} {w : ax_W} {sg : Nat → Nat} {o : ax_E} (hsg : isSg sg) (hI : INV w) (hi : i + 6 ≤ L) (hL : L ≤ 3072) (hk : kn.1 ≤ 1080 ∧ kn.2 ≤ 11187) (kk : ∀ (sg : Nat → Nat) (w : ax_W), isSg sg → INV w → AbZ Z (M_law L xs) kn 2795 (lwL i) [] (upW sg o w)) : AbZ Z (M_law L xs) kn 2229 (lwL i) [] (upW sg o w) := by
  obtain ⟨Q1, c1, h⟩ := prx_of (pr_best hI (xs (i + 1)) (xs (i + 2)))
  refine az_aload_n dL_law_2229 (x := 0) rfl ?_
  refine lw_arg 1 (lw_ix (by omega) hL (by decide)) dL_law_2230 dL_law_2231 dL_law_2233 dL_law_2234 dL_law_2235 ?_
  refine lw_arg 2 (lw_ix (by omega) hL (by decide)) dL_law_2236 dL_law_2237 dL_law_2239 dL_law_2240 dL_law_2241 ?_
  refine lw_x hsg hI dL_law_2242 mv_X10_best ml_L_202 ⟨Nat.le_of_ble_eq_true rfl, Nat.le_of_ble_eq_true rfl, rfl, rfl, rfl⟩ hk (As := [.int (xs (i + 1)), .int (xs (i + 2))]) rfl rfl c1 (fun r w' q => ?_)
  obtain ⟨l1, l2, hg, Q2, c2, h2⟩ := h r w' q
  refine ⟨⟨l1, l2⟩, ?_⟩
  refine az_aload_n dL_law_2245 (x := 1000) rfl ?_
  refine lw_arg 1 (lw_ix (by omega) hL (by decide)) dL_law_2246 dL_law_2247 dL_law_2249 dL_law_2250 dL_law_2251 ?_
  refine lw_arg 2 (lw_ix (by omega) hL (by decide)) dL_law_2252 dL_law_2253 dL_law_2255 dL_law_2256 dL_law_2257 ?_
  refine lw_m hsg l1 l2 hg dL_law_2258 mv_X11_best ml_L_205 ⟨Nat.le_of_ble_eq_true rfl, Nat.le_of_ble_eq_true rfl, rfl, rfl, rfl⟩ hk (As := [.int (xs (i + 1)), .int (xs (i + 2))]) rfl rfl c2 (fun r2 w2 q2 => ?_)
  obtain ⟨e1, e2, e3⟩ := h2 r2 w2 q2
  obtain ⟨m1, m2, w3, i3, e4⟩ := e3
  obtain ⟨sg2, s2, e5⟩ := e4 sg o hsg
  refine ⟨⟨m1, m2⟩, lw_eqI (tgt := 2795) ⟨e1, e2⟩ dL_law_2261 (by decide) ?_⟩
  rw [e5]
  exact kk sg2 w3 s2 i3
theorem lc_44 {Z : ZT} {L : Nat} {xs : Nat → Int32} {kn : Nat × Nat} {i : Nat} {w : ax_W} {sg : Nat → Nat} {o : ax_E} (hsg : isSg sg) (hI : INV w) (hi : i + 6 ≤ L) (hL : L ≤ 3072) (hk : kn.1 ≤ 1080 ∧ kn.2 ≤ 11187) (kk : ∀ (sg : Nat → Nat) (w : ax_W), isSg sg → INV w → AbZ Z (M_law L xs) kn 2795 (lwL i) [] (upW sg o w)) : AbZ Z (M_law L xs) kn 2266 (lwL i) [] (upW sg o w) := by
  obtain ⟨Q1, c1, h⟩ := prx_of (pr_pair hI (xs (i + 1)) (xs (i + 2)))
  refine az_aload_n dL_law_2266 (x := 0) rfl ?_
  refine lw_arg 1 (lw_ix (by omega) hL (by decide)) dL_law_2267 dL_law_2268 dL_law_2270 dL_law_2271 dL_law_2272 ?_
  refine lw_arg 2 (lw_ix (by omega) hL (by decide)) dL_law_2273 dL_law_2274 dL_law_2276 dL_law_2277 dL_law_2278 ?_
  refine lw_x hsg hI dL_law_2279 mv_X10_pair ml_L_206 ⟨Nat.le_of_ble_eq_true rfl, Nat.le_of_ble_eq_true rfl, rfl, rfl, rfl⟩ hk (As := [.int (xs (i + 1)), .int (xs (i + 2))]) rfl rfl c1 (fun r w' q => ?_)
  obtain ⟨l1, l2, hg, Q2, c2, h2⟩ := h r w' q
  refine ⟨⟨l1, l2⟩, ?_⟩
  refine az_aload_n dL_law_2282 (x := 1000) rfl ?_
  refine lw_arg 1 (lw_ix (by omega) hL (by decide)) dL_law_2283 dL_law_2284 dL_law_2286 dL_law_2287 dL_law_2288 ?_
  refine lw_arg 2 (lw_ix (by omega) hL (by decide)) dL_law_2289 dL_law_2290 dL_law_2292 dL_law_2293 dL_law_2294 ?_
  refine lw_m hsg l1 l2 hg dL_law_2295 mv_X11_pair ml_L_209 ⟨Nat.le_of_ble_eq_true rfl, Nat.le_of_ble_eq_true rfl, rfl, rfl, rfl⟩ hk (As := [.int (xs (i + 1)), .int (xs (i + 2))]) rfl rfl c2 (fun r2 w2 q2 => ?_)
  obtain ⟨e1, e2, e3⟩ := h2 r2 w2 q2
  obtain ⟨m1, m2, w3, i3, e4⟩ := e3
  obtain ⟨sg2, s2, e5⟩ := e4 sg o hsg
  refine ⟨⟨m1, m2⟩, lw_eqI (tgt := 2795) ⟨e1, e2⟩ dL_law_2298 (by decide) ?_⟩
  rw [e5]
  exact kk sg2 w3 s2 i3
theorem lc_45 {Z : ZT} {L : Nat} {xs : Nat → Int32} {kn : Nat × Nat} {i : Nat} {w : ax_W} {sg : Nat → Nat} {o : ax_E} (hsg : isSg sg) (hI : INV w) (hi : i + 6 ≤ L) (hL : L ≤ 3072) (hk : kn.1 ≤ 1080 ∧ kn.2 ≤ 11187) (kk : ∀ (sg : Nat → Nat) (w : ax_W), isSg sg → INV w → AbZ Z (M_law L xs) kn 2795 (lwL i) [] (upW sg o w)) : AbZ Z (M_law L xs) kn 2303 (lwL i) [] (upW sg o w) := by
  obtain ⟨Q1, c1, h⟩ := pr_closing hI (xs (i + 1)) (xs (i + 2)) (if xs (i + 3) = 0 then 0 else 1)
  refine az_aload_n dL_law_2303 (x := 0) rfl ?_
  refine lw_arg 1 (lw_ix (by omega) hL (by decide)) dL_law_2304 dL_law_2305 dL_law_2307 dL_law_2308 dL_law_2309 ?_
  refine lw_arg 2 (lw_ix (by omega) hL (by decide)) dL_law_2310 dL_law_2311 dL_law_2313 dL_law_2314 dL_law_2315 ?_
  refine lw_arg 3 (lw_ix (by omega) hL (by decide)) dL_law_2316 dL_law_2317 dL_law_2319 dL_law_2320 dL_law_2321 ?_
  refine lw_bool dL_law_2322 dL_law_2325 dL_law_2326 dL_law_2329 ?_
  refine lw_x hsg hI dL_law_2330 mv_X10_closing ml_L_210 ⟨Nat.le_of_ble_eq_true rfl, Nat.le_of_ble_eq_true rfl, rfl, rfl, rfl⟩ hk (As := [.int (xs (i + 1)), .int (xs (i + 2)), .int (if xs (i + 3) = 0 then 0 else 1)]) rfl rfl c1 (fun r w' q => ?_)
  obtain ⟨l1, l2, hg, Q2, c2, h2⟩ := h r w' q
  refine ⟨⟨l1, l2⟩, ?_⟩
  refine az_aload_n dL_law_2333 (x := 1000) rfl ?_
  refine lw_arg 1 (lw_ix (by omega) hL (by decide)) dL_law_2334 dL_law_2335 dL_law_2337 dL_law_2338 dL_law_2339 ?_
  refine lw_arg 2 (lw_ix (by omega) hL (by decide)) dL_law_2340 dL_law_2341 dL_law_2343 dL_law_2344 dL_law_2345 ?_
  refine lw_arg 3 (lw_ix (by omega) hL (by decide)) dL_law_2346 dL_law_2347 dL_law_2349 dL_law_2350 dL_law_2351 ?_
  refine lw_bool dL_law_2352 dL_law_2355 dL_law_2356 dL_law_2359 ?_
  refine lw_m hsg l1 l2 hg dL_law_2360 mv_X11_closing ml_L_213 ⟨Nat.le_of_ble_eq_true rfl, Nat.le_of_ble_eq_true rfl, rfl, rfl, rfl⟩ hk (As := [.int (xs (i + 1)), .int (xs (i + 2)), .int (if xs (i + 3) = 0 then 0 else 1)]) rfl rfl c2 (fun r2 w2 q2 => ?_)
  obtain ⟨e1, e2, e3⟩ := h2 r2 w2 q2
  exact ⟨⟨(inv_w e3).1, (inv_w e3).2.1⟩, lw_eqL (tgt := 2795) ⟨e1, e2⟩ dL_law_2363 dL_law_2364 (by decide) (kk sg w2 hsg e3)⟩
theorem lc_46 {Z : ZT} {L : Nat} {xs : Nat → Int32} {kn : Nat × Nat} {i : Nat} {w : ax_W} {sg : Nat → Nat} {o : ax_E} (hsg : isSg sg) (hI : INV w) (hi : i + 6 ≤ L) (hL : L ≤ 3072) (hk : kn.1 ≤ 1080 ∧ kn.2 ≤ 11187) (kk : ∀ (sg : Nat → Nat) (w : ax_W), isSg sg → INV w → AbZ Z (M_law L xs) kn 2795 (lwL i) [] (upW sg o w)) : AbZ Z (M_law L xs) kn 2369 (lwL i) [] (upW sg o w) := by
  obtain ⟨Q1, c1, h⟩ := prx_of (pr_fit hI (xs (i + 1)))
  refine az_aload_n dL_law_2369 (x := 0) rfl ?_
  refine lw_arg 1 (lw_ix (by omega) hL (by decide)) dL_law_2370 dL_law_2371 dL_law_2373 dL_law_2374 dL_law_2375 ?_
  refine lw_x hsg hI dL_law_2376 mv_X10_fit ml_L_214 ⟨Nat.le_of_ble_eq_true rfl, Nat.le_of_ble_eq_true rfl, rfl, rfl, rfl⟩ hk (As := [.int (xs (i + 1))]) rfl rfl c1 (fun r w' q => ?_)
  obtain ⟨l1, l2, hg, Q2, c2, h2⟩ := h r w' q
  refine ⟨⟨l1, l2⟩, ?_⟩
  refine az_aload_n dL_law_2379 (x := 1000) rfl ?_
  refine lw_arg 1 (lw_ix (by omega) hL (by decide)) dL_law_2380 dL_law_2381 dL_law_2383 dL_law_2384 dL_law_2385 ?_
  refine lw_m hsg l1 l2 hg dL_law_2386 mv_X11_fit ml_L_217 ⟨Nat.le_of_ble_eq_true rfl, Nat.le_of_ble_eq_true rfl, rfl, rfl, rfl⟩ hk (As := [.int (xs (i + 1))]) rfl rfl c2 (fun r2 w2 q2 => ?_)
  obtain ⟨e1, e2, e3⟩ := h2 r2 w2 q2
  obtain ⟨m1, m2, w3, i3, e4⟩ := e3
  obtain ⟨sg2, s2, e5⟩ := e4 sg o hsg
  refine ⟨⟨m1, m2⟩, lw_eqI (tgt := 2795) ⟨e1, e2⟩ dL_law_2389 (by decide) ?_⟩
  rw [e5]
  exact kk sg2 w3 s2 i3
theorem lc_47 {Z : ZT} {L : Nat} {xs : Nat → Int32} {kn : Nat × Nat} {i : Nat} {w : ax_W} {sg : Nat → Nat} {o : ax_E} (hsg : isSg sg) (hI : INV w) (hi : i + 6 ≤ L) (hL : L ≤ 3072) (hk : kn.1 ≤ 1080 ∧ kn.2 ≤ 11187) (kk : ∀ (sg : Nat → Nat) (w : ax_W), isSg sg → INV w → AbZ Z (M_law L xs) kn 2795 (lwL i) [] (upW sg o w)) : AbZ Z (M_law L xs) kn 2394 (lwL i) [] (upW sg o w) := by
  obtain ⟨Q1, c1, h⟩ := pr_fitMiss hI (if xs (i + 1) = 0 then 0 else 1)
  refine az_aload_n dL_law_2394 (x := 0) rfl ?_
  refine lw_arg 1 (lw_ix (by omega) hL (by decide)) dL_law_2395 dL_law_2396 dL_law_2398 dL_law_2399 dL_law_2400 ?_
  refine lw_bool dL_law_2401 dL_law_2404 dL_law_2405 dL_law_2408 ?_
  refine lw_x hsg hI dL_law_2409 mv_X10_fitMiss ml_L_218 ⟨Nat.le_of_ble_eq_true rfl, Nat.le_of_ble_eq_true rfl, rfl, rfl, rfl⟩ hk (As := [.int (if xs (i + 1) = 0 then 0 else 1)]) rfl rfl c1 (fun r w' q => ?_)
  obtain ⟨l1, l2, hg, Q2, c2, h2⟩ := h r w' q
  refine ⟨⟨l1, l2⟩, ?_⟩
  refine az_aload_n dL_law_2412 (x := 1000) rfl ?_
  refine lw_arg 1 (lw_ix (by omega) hL (by decide)) dL_law_2413 dL_law_2414 dL_law_2416 dL_law_2417 dL_law_2418 ?_
  refine lw_bool dL_law_2419 dL_law_2422 dL_law_2423 dL_law_2426 ?_
  refine lw_m hsg l1 l2 hg dL_law_2427 mv_X11_fitMiss ml_L_222 ⟨Nat.le_of_ble_eq_true rfl, Nat.le_of_ble_eq_true rfl, rfl, rfl, rfl⟩ hk (As := [.int (if xs (i + 1) = 0 then 0 else 1)]) rfl rfl c2 (fun r2 w2 q2 => ?_)
  obtain ⟨e1, e2, e3⟩ := h2 r2 w2 q2
  exact ⟨⟨(inv_w e3).1, (inv_w e3).2.1⟩, lw_eqL (tgt := 2795) ⟨e1, e2⟩ dL_law_2430 dL_law_2431 (by decide) (kk sg w2 hsg e3)⟩
theorem lc_48 {Z : ZT} {L : Nat} {xs : Nat → Int32} {kn : Nat × Nat} {i : Nat} {w : ax_W} {sg : Nat → Nat} {o : ax_E} (hsg : isSg sg) (hI : INV w) (hi : i + 6 ≤ L) (hL : L ≤ 3072) (hk : kn.1 ≤ 1080 ∧ kn.2 ≤ 11187) (kk : ∀ (sg : Nat → Nat) (w : ax_W), isSg sg → INV w → AbZ Z (M_law L xs) kn 2795 (lwL i) [] (upW sg o w)) : AbZ Z (M_law L xs) kn 2436 (lwL i) [] (upW sg o w) := by
  obtain ⟨Q1, c1, h⟩ := pr_three hI (xs (i + 1)) (if xs (i + 2) = 0 then 0 else 1)
  refine az_aload_n dL_law_2436 (x := 0) rfl ?_
  refine lw_arg 1 (lw_ix (by omega) hL (by decide)) dL_law_2437 dL_law_2438 dL_law_2440 dL_law_2441 dL_law_2442 ?_
  refine lw_arg 2 (lw_ix (by omega) hL (by decide)) dL_law_2443 dL_law_2444 dL_law_2446 dL_law_2447 dL_law_2448 ?_
  refine lw_bool dL_law_2449 dL_law_2452 dL_law_2453 dL_law_2456 ?_
  refine lw_x hsg hI dL_law_2457 mv_X10_three ml_L_223 ⟨Nat.le_of_ble_eq_true rfl, Nat.le_of_ble_eq_true rfl, rfl, rfl, rfl⟩ hk (As := [.int (xs (i + 1)), .int (if xs (i + 2) = 0 then 0 else 1)]) rfl rfl c1 (fun r w' q => ?_)
  obtain ⟨l1, l2, hg, Q2, c2, h2⟩ := h r w' q
  refine ⟨⟨l1, l2⟩, ?_⟩
  refine az_aload_n dL_law_2460 (x := 1000) rfl ?_
  refine lw_arg 1 (lw_ix (by omega) hL (by decide)) dL_law_2461 dL_law_2462 dL_law_2464 dL_law_2465 dL_law_2466 ?_
  refine lw_arg 2 (lw_ix (by omega) hL (by decide)) dL_law_2467 dL_law_2468 dL_law_2470 dL_law_2471 dL_law_2472 ?_
  refine lw_bool dL_law_2473 dL_law_2476 dL_law_2477 dL_law_2480 ?_
  refine lw_m hsg l1 l2 hg dL_law_2481 mv_X11_three ml_L_226 ⟨Nat.le_of_ble_eq_true rfl, Nat.le_of_ble_eq_true rfl, rfl, rfl, rfl⟩ hk (As := [.int (xs (i + 1)), .int (if xs (i + 2) = 0 then 0 else 1)]) rfl rfl c2 (fun r2 w2 q2 => ?_)
  obtain ⟨e1, e2, e3⟩ := h2 r2 w2 q2
  exact ⟨⟨(inv_w e3).1, (inv_w e3).2.1⟩, lw_eqL (tgt := 2795) ⟨e1, e2⟩ dL_law_2484 dL_law_2485 (by decide) (kk sg w2 hsg e3)⟩
theorem lc_49 {Z : ZT} {L : Nat} {xs : Nat → Int32} {kn : Nat × Nat} {i : Nat} {w : ax_W} {sg : Nat → Nat} {o : ax_E} (hsg : isSg sg) (hI : INV w) (hi : i + 6 ≤ L) (hL : L ≤ 3072) (hk : kn.1 ≤ 1080 ∧ kn.2 ≤ 11187) (kk : ∀ (sg : Nat → Nat) (w : ax_W), isSg sg → INV w → AbZ Z (M_law L xs) kn 2795 (lwL i) [] (upW sg o w)) : AbZ Z (M_law L xs) kn 2490 (lwL i) [] (upW sg o w) := by
  obtain ⟨Q1, c1, h⟩ := prx_of (pr_begin hI (xs (i + 1)) (xs (i + 2)) (xs (i + 3)))
  refine az_aload_n dL_law_2490 (x := 0) rfl ?_
  refine lw_arg 1 (lw_ix (by omega) hL (by decide)) dL_law_2491 dL_law_2492 dL_law_2494 dL_law_2495 dL_law_2496 ?_
  refine lw_arg 2 (lw_ix (by omega) hL (by decide)) dL_law_2497 dL_law_2498 dL_law_2500 dL_law_2501 dL_law_2502 ?_
  refine lw_arg 3 (lw_ix (by omega) hL (by decide)) dL_law_2503 dL_law_2504 dL_law_2506 dL_law_2507 dL_law_2508 ?_
  refine lw_x hsg hI dL_law_2509 mv_X10_begin ml_L_227 ⟨Nat.le_of_ble_eq_true rfl, Nat.le_of_ble_eq_true rfl, rfl, rfl, rfl⟩ hk (As := [.int (xs (i + 1)), .int (xs (i + 2)), .int (xs (i + 3))]) rfl rfl c1 (fun r w' q => ?_)
  obtain ⟨l1, l2, hg, Q2, c2, h2⟩ := h r w' q
  refine ⟨⟨l1, l2⟩, ?_⟩
  refine az_aload_n dL_law_2512 (x := 1000) rfl ?_
  refine lw_arg 1 (lw_ix (by omega) hL (by decide)) dL_law_2513 dL_law_2514 dL_law_2516 dL_law_2517 dL_law_2518 ?_
  refine lw_arg 2 (lw_ix (by omega) hL (by decide)) dL_law_2519 dL_law_2520 dL_law_2522 dL_law_2523 dL_law_2524 ?_
  refine lw_arg 3 (lw_ix (by omega) hL (by decide)) dL_law_2525 dL_law_2526 dL_law_2528 dL_law_2529 dL_law_2530 ?_
  refine lw_m hsg l1 l2 hg dL_law_2531 mv_X11_begin ml_L_231 ⟨Nat.le_of_ble_eq_true rfl, Nat.le_of_ble_eq_true rfl, rfl, rfl, rfl⟩ hk (As := [.int (xs (i + 1)), .int (xs (i + 2)), .int (xs (i + 3))]) rfl rfl c2 (fun r2 w2 q2 => ?_)
  obtain ⟨e1, e2, e3⟩ := h2 r2 w2 q2
  obtain ⟨m1, m2, w3, i3, e4⟩ := e3
  obtain ⟨sg2, s2, e5⟩ := e4 sg o hsg
  refine ⟨⟨m1, m2⟩, lw_eqI (tgt := 2795) ⟨e1, e2⟩ dL_law_2534 (by decide) ?_⟩
  rw [e5]
  exact kk sg2 w3 s2 i3
theorem lc_50 {Z : ZT} {L : Nat} {xs : Nat → Int32} {kn : Nat × Nat} {i : Nat} {w : ax_W} {sg : Nat → Nat} {o : ax_E} (hsg : isSg sg) (hI : INV w) (hi : i + 6 ≤ L) (hL : L ≤ 3072) (hk : kn.1 ≤ 1080 ∧ kn.2 ≤ 11187) (kk : ∀ (sg : Nat → Nat) (w : ax_W), isSg sg → INV w → AbZ Z (M_law L xs) kn 2795 (lwL i) [] (upW sg o w)) : AbZ Z (M_law L xs) kn 2539 (lwL i) [] (upW sg o w) := by
  obtain ⟨Q1, c1, h⟩ := prx_of (pr_walk hI (xs (i + 1)))
  refine az_aload_n dL_law_2539 (x := 0) rfl ?_
  refine lw_arg 1 (lw_ix (by omega) hL (by decide)) dL_law_2540 dL_law_2541 dL_law_2543 dL_law_2544 dL_law_2545 ?_
  refine lw_x hsg hI dL_law_2546 mv_X10_walk ml_L_232 ⟨Nat.le_of_ble_eq_true rfl, Nat.le_of_ble_eq_true rfl, rfl, rfl, rfl⟩ hk (As := [.int (xs (i + 1))]) rfl rfl c1 (fun r w' q => ?_)
  obtain ⟨l1, l2, hg, Q2, c2, h2⟩ := h r w' q
  refine ⟨⟨l1, l2⟩, ?_⟩
  refine az_aload_n dL_law_2549 (x := 1000) rfl ?_
  refine lw_arg 1 (lw_ix (by omega) hL (by decide)) dL_law_2550 dL_law_2551 dL_law_2553 dL_law_2554 dL_law_2555 ?_
  refine lw_m hsg l1 l2 hg dL_law_2556 mv_X11_walk ml_L_235 ⟨Nat.le_of_ble_eq_true rfl, Nat.le_of_ble_eq_true rfl, rfl, rfl, rfl⟩ hk (As := [.int (xs (i + 1))]) rfl rfl c2 (fun r2 w2 q2 => ?_)
  obtain ⟨e1, e2, e3⟩ := h2 r2 w2 q2
  obtain ⟨m1, m2, w3, i3, e4⟩ := e3
  obtain ⟨sg2, s2, e5⟩ := e4 sg o hsg
  refine ⟨⟨m1, m2⟩, lw_eqI (tgt := 2795) ⟨e1, e2⟩ dL_law_2559 (by decide) ?_⟩
  rw [e5]
  exact kk sg2 w3 s2 i3
theorem lc_51 {Z : ZT} {L : Nat} {xs : Nat → Int32} {kn : Nat × Nat} {i : Nat} {w : ax_W} {sg : Nat → Nat} {o : ax_E} (hsg : isSg sg) (hI : INV w) (hi : i + 6 ≤ L) (hL : L ≤ 3072) (hk : kn.1 ≤ 1080 ∧ kn.2 ≤ 11187) (kk : ∀ (sg : Nat → Nat) (w : ax_W), isSg sg → INV w → AbZ Z (M_law L xs) kn 2795 (lwL i) [] (upW sg o w)) : AbZ Z (M_law L xs) kn 2564 (lwL i) [] (upW sg o w) := by
  obtain ⟨Q1, c1, h⟩ := prx_of (pr_steps hI (xs (i + 1)))
  refine az_aload_n dL_law_2564 (x := 0) rfl ?_
  refine lw_arg 1 (lw_ix (by omega) hL (by decide)) dL_law_2565 dL_law_2566 dL_law_2568 dL_law_2569 dL_law_2570 ?_
  refine lw_x hsg hI dL_law_2571 mv_X10_steps ml_L_236 ⟨Nat.le_of_ble_eq_true rfl, Nat.le_of_ble_eq_true rfl, rfl, rfl, rfl⟩ hk (As := [.int (xs (i + 1))]) rfl rfl c1 (fun r w' q => ?_)
  obtain ⟨l1, l2, hg, Q2, c2, h2⟩ := h r w' q
  refine ⟨⟨l1, l2⟩, ?_⟩
  refine az_aload_n dL_law_2574 (x := 1000) rfl ?_
  refine lw_arg 1 (lw_ix (by omega) hL (by decide)) dL_law_2575 dL_law_2576 dL_law_2578 dL_law_2579 dL_law_2580 ?_
  refine lw_m hsg l1 l2 hg dL_law_2581 mv_X11_steps ml_L_239 ⟨Nat.le_of_ble_eq_true rfl, Nat.le_of_ble_eq_true rfl, rfl, rfl, rfl⟩ hk (As := [.int (xs (i + 1))]) rfl rfl c2 (fun r2 w2 q2 => ?_)
  obtain ⟨e1, e2, e3⟩ := h2 r2 w2 q2
  obtain ⟨m1, m2, w3, i3, e4⟩ := e3
  obtain ⟨sg2, s2, e5⟩ := e4 sg o hsg
  refine ⟨⟨m1, m2⟩, lw_eqI (tgt := 2795) ⟨e1, e2⟩ dL_law_2584 (by decide) ?_⟩
  rw [e5]
  exact kk sg2 w3 s2 i3
theorem lc_52 {Z : ZT} {L : Nat} {xs : Nat → Int32} {kn : Nat × Nat} {i : Nat} {w : ax_W} {sg : Nat → Nat} {o : ax_E} (hsg : isSg sg) (hI : INV w) (hi : i + 6 ≤ L) (hL : L ≤ 3072) (hk : kn.1 ≤ 1080 ∧ kn.2 ≤ 11187) (kk : ∀ (sg : Nat → Nat) (w : ax_W), isSg sg → INV w → AbZ Z (M_law L xs) kn 2795 (lwL i) [] (upW sg o w)) : AbZ Z (M_law L xs) kn 2589 (lwL i) [] (upW sg o w) := by
  obtain ⟨Q1, c1, h⟩ := prx_of (pr_flip hI)
  refine az_aload_n dL_law_2589 (x := 0) rfl ?_
  refine lw_x hsg hI dL_law_2590 mv_X10_flip ml_L_240 ⟨Nat.le_of_ble_eq_true rfl, Nat.le_of_ble_eq_true rfl, rfl, rfl, rfl⟩ hk (As := []) rfl rfl c1 (fun r w' q => ?_)
  obtain ⟨l1, l2, hg, Q2, c2, h2⟩ := h r w' q
  refine ⟨⟨l1, l2⟩, ?_⟩
  refine az_aload_n dL_law_2593 (x := 1000) rfl ?_
  refine lw_m hsg l1 l2 hg dL_law_2594 mv_X11_flip ml_L_243 ⟨Nat.le_of_ble_eq_true rfl, Nat.le_of_ble_eq_true rfl, rfl, rfl, rfl⟩ hk (As := []) rfl rfl c2 (fun r2 w2 q2 => ?_)
  obtain ⟨e1, e2, e3⟩ := h2 r2 w2 q2
  obtain ⟨m1, m2, w3, i3, e4⟩ := e3
  obtain ⟨sg2, s2, e5⟩ := e4 sg o hsg
  refine ⟨⟨m1, m2⟩, lw_eqI (tgt := 2795) ⟨e1, e2⟩ dL_law_2597 (by decide) ?_⟩
  rw [e5]
  exact kk sg2 w3 s2 i3
theorem lc_53 {Z : ZT} {L : Nat} {xs : Nat → Int32} {kn : Nat × Nat} {i : Nat} {w : ax_W} {sg : Nat → Nat} {o : ax_E} (hsg : isSg sg) (hI : INV w) (hi : i + 6 ≤ L) (hL : L ≤ 3072) (hk : kn.1 ≤ 1080 ∧ kn.2 ≤ 11187) (kk : ∀ (sg : Nat → Nat) (w : ax_W), isSg sg → INV w → AbZ Z (M_law L xs) kn 2795 (lwL i) [] (upW sg o w)) : AbZ Z (M_law L xs) kn 2602 (lwL i) [] (upW sg o w) := by
  obtain ⟨Q1, c1, h⟩ := prx_of (pr_away hI (xs (i + 1)) (xs (i + 2)))
  refine az_aload_n dL_law_2602 (x := 0) rfl ?_
  refine lw_arg 1 (lw_ix (by omega) hL (by decide)) dL_law_2603 dL_law_2604 dL_law_2606 dL_law_2607 dL_law_2608 ?_
  refine lw_arg 2 (lw_ix (by omega) hL (by decide)) dL_law_2609 dL_law_2610 dL_law_2612 dL_law_2613 dL_law_2614 ?_
  refine lw_x hsg hI dL_law_2615 mv_X10_away ml_L_244 ⟨Nat.le_of_ble_eq_true rfl, Nat.le_of_ble_eq_true rfl, rfl, rfl, rfl⟩ hk (As := [.int (xs (i + 1)), .int (xs (i + 2))]) rfl rfl c1 (fun r w' q => ?_)
  obtain ⟨l1, l2, hg, Q2, c2, h2⟩ := h r w' q
  refine ⟨⟨l1, l2⟩, ?_⟩
  refine az_aload_n dL_law_2618 (x := 1000) rfl ?_
  refine lw_arg 1 (lw_ix (by omega) hL (by decide)) dL_law_2619 dL_law_2620 dL_law_2622 dL_law_2623 dL_law_2624 ?_
  refine lw_arg 2 (lw_ix (by omega) hL (by decide)) dL_law_2625 dL_law_2626 dL_law_2628 dL_law_2629 dL_law_2630 ?_
  refine lw_m hsg l1 l2 hg dL_law_2631 mv_X11_away ml_L_247 ⟨Nat.le_of_ble_eq_true rfl, Nat.le_of_ble_eq_true rfl, rfl, rfl, rfl⟩ hk (As := [.int (xs (i + 1)), .int (xs (i + 2))]) rfl rfl c2 (fun r2 w2 q2 => ?_)
  obtain ⟨e1, e2, e3⟩ := h2 r2 w2 q2
  obtain ⟨m1, m2, w3, i3, e4⟩ := e3
  obtain ⟨sg2, s2, e5⟩ := e4 sg o hsg
  refine ⟨⟨m1, m2⟩, lw_eqI (tgt := 2795) ⟨e1, e2⟩ dL_law_2634 (by decide) ?_⟩
  rw [e5]
  exact kk sg2 w3 s2 i3
theorem lc_54 {Z : ZT} {L : Nat} {xs : Nat → Int32} {kn : Nat × Nat} {i : Nat} {w : ax_W} {sg : Nat → Nat} {o : ax_E} (hsg : isSg sg) (hI : INV w) (hi : i + 6 ≤ L) (hL : L ≤ 3072) (hk : kn.1 ≤ 1080 ∧ kn.2 ≤ 11187) (kk : ∀ (sg : Nat → Nat) (w : ax_W), isSg sg → INV w → AbZ Z (M_law L xs) kn 2795 (lwL i) [] (upW sg o w)) : AbZ Z (M_law L xs) kn 2639 (lwL i) [] (upW sg o w) := by
  obtain ⟨Q1, c1, h⟩ := prx_of (pr_reshape hI (xs (i + 1)) (xs (i + 2)) (xs (i + 3)))
  refine az_aload_n dL_law_2639 (x := 0) rfl ?_
  refine lw_arg 1 (lw_ix (by omega) hL (by decide)) dL_law_2640 dL_law_2641 dL_law_2643 dL_law_2644 dL_law_2645 ?_
  refine lw_arg 2 (lw_ix (by omega) hL (by decide)) dL_law_2646 dL_law_2647 dL_law_2649 dL_law_2650 dL_law_2651 ?_
  refine lw_arg 3 (lw_ix (by omega) hL (by decide)) dL_law_2652 dL_law_2653 dL_law_2655 dL_law_2656 dL_law_2657 ?_
  refine lw_x hsg hI dL_law_2658 mv_X10_reshape ml_L_248 ⟨Nat.le_of_ble_eq_true rfl, Nat.le_of_ble_eq_true rfl, rfl, rfl, rfl⟩ hk (As := [.int (xs (i + 1)), .int (xs (i + 2)), .int (xs (i + 3))]) rfl rfl c1 (fun r w' q => ?_)
  obtain ⟨l1, l2, hg, Q2, c2, h2⟩ := h r w' q
  refine ⟨⟨l1, l2⟩, ?_⟩
  refine az_aload_n dL_law_2661 (x := 1000) rfl ?_
  refine lw_arg 1 (lw_ix (by omega) hL (by decide)) dL_law_2662 dL_law_2663 dL_law_2665 dL_law_2666 dL_law_2667 ?_
  refine lw_arg 2 (lw_ix (by omega) hL (by decide)) dL_law_2668 dL_law_2669 dL_law_2671 dL_law_2672 dL_law_2673 ?_
  refine lw_arg 3 (lw_ix (by omega) hL (by decide)) dL_law_2674 dL_law_2675 dL_law_2677 dL_law_2678 dL_law_2679 ?_
  refine lw_m hsg l1 l2 hg dL_law_2680 mv_X11_reshape ml_L_251 ⟨Nat.le_of_ble_eq_true rfl, Nat.le_of_ble_eq_true rfl, rfl, rfl, rfl⟩ hk (As := [.int (xs (i + 1)), .int (xs (i + 2)), .int (xs (i + 3))]) rfl rfl c2 (fun r2 w2 q2 => ?_)
  obtain ⟨e1, e2, e3⟩ := h2 r2 w2 q2
  obtain ⟨m1, m2, w3, i3, e4⟩ := e3
  obtain ⟨sg2, s2, e5⟩ := e4 sg o hsg
  refine ⟨⟨m1, m2⟩, lw_eqI (tgt := 2795) ⟨e1, e2⟩ dL_law_2683 (by decide) ?_⟩
  rw [e5]
  exact kk sg2 w3 s2 i3
theorem lc_55 {Z : ZT} {L : Nat} {xs : Nat → Int32} {kn : Nat × Nat} {i : Nat} {w : ax_W} {sg : Nat → Nat} {o : ax_E} (hsg : isSg sg) (hI : INV w) (hi : i + 6 ≤ L) (hL : L ≤ 3072) (hk : kn.1 ≤ 1080 ∧ kn.2 ≤ 11187) (kk : ∀ (sg : Nat → Nat) (w : ax_W), isSg sg → INV w → AbZ Z (M_law L xs) kn 2795 (lwL i) [] (upW sg o w)) : AbZ Z (M_law L xs) kn 2688 (lwL i) [] (upW sg o w) := by
  obtain ⟨Q1, c1, h⟩ := prx_of (pr_undo hI)
  refine az_aload_n dL_law_2688 (x := 0) rfl ?_
  refine lw_x hsg hI dL_law_2689 mv_X10_undo ml_L_252 ⟨Nat.le_of_ble_eq_true rfl, Nat.le_of_ble_eq_true rfl, rfl, rfl, rfl⟩ hk (As := []) rfl rfl c1 (fun r w' q => ?_)
  obtain ⟨l1, l2, hg, Q2, c2, h2⟩ := h r w' q
  refine ⟨⟨l1, l2⟩, ?_⟩
  refine az_aload_n dL_law_2692 (x := 1000) rfl ?_
  refine lw_m hsg l1 l2 hg dL_law_2693 mv_X11_undo ml_L_256 ⟨Nat.le_of_ble_eq_true rfl, Nat.le_of_ble_eq_true rfl, rfl, rfl, rfl⟩ hk (As := []) rfl rfl c2 (fun r2 w2 q2 => ?_)
  obtain ⟨e1, e2, e3⟩ := h2 r2 w2 q2
  obtain ⟨m1, m2, w3, i3, e4⟩ := e3
  obtain ⟨sg2, s2, e5⟩ := e4 sg o hsg
  refine ⟨⟨m1, m2⟩, lw_eqI (tgt := 2795) ⟨e1, e2⟩ dL_law_2696 (by decide) ?_⟩
  rw [e5]
  exact kk sg2 w3 s2 i3
theorem lc_57 {Z : ZT} {L : Nat} {xs : Nat → Int32} {kn : Nat × Nat} {i : Nat} {w : ax_W} {sg : Nat → Nat} {o : ax_E} (hsg : isSg sg) (hI : INV w) (hi : i + 6 ≤ L) (hL : L ≤ 3072) (hk : kn.1 ≤ 1080 ∧ kn.2 ≤ 11187) (kk : ∀ (sg : Nat → Nat) (w : ax_W), isSg sg → INV w → AbZ Z (M_law L xs) kn 2795 (lwL i) [] (upW sg o w)) : AbZ Z (M_law L xs) kn 2757 (lwL i) [] (upW sg o w) := by
  obtain ⟨Q1, c1, h⟩ := prx_of (pr_size hI (xs (i + 1)))
  refine az_aload_n dL_law_2757 (x := 0) rfl ?_
  refine lw_arg 1 (lw_ix (by omega) hL (by decide)) dL_law_2758 dL_law_2759 dL_law_2761 dL_law_2762 dL_law_2763 ?_
  refine lw_x hsg hI dL_law_2764 mv_X10_size ml_L_266 ⟨Nat.le_of_ble_eq_true rfl, Nat.le_of_ble_eq_true rfl, rfl, rfl, rfl⟩ hk (As := [.int (xs (i + 1))]) rfl rfl c1 (fun r w' q => ?_)
  obtain ⟨l1, l2, hg, Q2, c2, h2⟩ := h r w' q
  refine ⟨⟨l1, l2⟩, ?_⟩
  refine az_aload_n dL_law_2767 (x := 1000) rfl ?_
  refine lw_arg 1 (lw_ix (by omega) hL (by decide)) dL_law_2768 dL_law_2769 dL_law_2771 dL_law_2772 dL_law_2773 ?_
  refine lw_m hsg l1 l2 hg dL_law_2774 mv_X11_size ml_L_269 ⟨Nat.le_of_ble_eq_true rfl, Nat.le_of_ble_eq_true rfl, rfl, rfl, rfl⟩ hk (As := [.int (xs (i + 1))]) rfl rfl c2 (fun r2 w2 q2 => ?_)
  obtain ⟨e1, e2, e3⟩ := h2 r2 w2 q2
  obtain ⟨m1, m2, w3, i3, e4⟩ := e3
  obtain ⟨sg2, s2, e5⟩ := e4 sg o hsg
  refine ⟨⟨m1, m2⟩, lw_eqI (tgt := 2795) ⟨e1, e2⟩ dL_law_2777 (by decide) ?_⟩
  rw [e5]
  exact kk sg2 w3 s2 i3
theorem lc_58 {Z : ZT} {L : Nat} {xs : Nat → Int32} {kn : Nat × Nat} {i : Nat} {w : ax_W} {sg : Nat → Nat} {o : ax_E} (hsg : isSg sg) (hI : INV w) (hi : i + 6 ≤ L) (hL : L ≤ 3072) (hk : kn.1 ≤ 1080 ∧ kn.2 ≤ 11187) (kk : ∀ (sg : Nat → Nat) (w : ax_W), isSg sg → INV w → AbZ Z (M_law L xs) kn 2795 (lwL i) [] (upW sg o w)) : AbZ Z (M_law L xs) kn 2782 (lwL i) [] (upW sg o w) := by
  obtain ⟨Q1, c1, h⟩ := prx_of (pr_trouble hI)
  refine az_aload_n dL_law_2782 (x := 0) rfl ?_
  refine lw_x hsg hI dL_law_2783 mv_X10_trouble ml_L_270 ⟨Nat.le_of_ble_eq_true rfl, Nat.le_of_ble_eq_true rfl, rfl, rfl, rfl⟩ hk (As := []) rfl rfl c1 (fun r w' q => ?_)
  obtain ⟨l1, l2, hg, Q2, c2, h2⟩ := h r w' q
  refine ⟨⟨l1, l2⟩, ?_⟩
  refine az_aload_n dL_law_2786 (x := 1000) rfl ?_
  refine lw_m hsg l1 l2 hg dL_law_2787 mv_X11_trouble ml_L_273 ⟨Nat.le_of_ble_eq_true rfl, Nat.le_of_ble_eq_true rfl, rfl, rfl, rfl⟩ hk (As := []) rfl rfl c2 (fun r2 w2 q2 => ?_)
  obtain ⟨e1, e2, e3⟩ := h2 r2 w2 q2
  obtain ⟨m1, m2, w3, i3, e4⟩ := e3
  obtain ⟨sg2, s2, e5⟩ := e4 sg o hsg
  refine ⟨⟨m1, m2⟩, lw_eqI (tgt := 2795) ⟨e1, e2⟩ dL_law_2790 (by decide) ?_⟩
  rw [e5]
  exact kk sg2 w3 s2 i3
