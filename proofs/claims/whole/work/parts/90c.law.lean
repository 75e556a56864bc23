/-! THE LAW: its cases. Laid by gen/p31.py. -/
set_option maxHeartbeats 4000000 in
set_option maxRecDepth 100000 in
theorem lc_segment {p : Program} {l : Launch} {e : Env} {s : State} {m : MethodId} {args : Array Value} {below : List Frame} {meth : Method} {c : Code} {cells slots : Nat} {Q : State → Prop} {Γ : gX} {b L : Nat} {xs : Nat → Int32} (hst : l.stackTraces = false) (C : LCx p s m args c Γ b L xs) {i : Int32} (h1 : vp_in (i + 1) L) (h2 : vp_in (i + 2) L) (h3 : vp_in (i + 3) L) {u : Nat} (hu : 1998 * (u + 5000) < 2 ^ 31) (hc : cells + 1 ≤ 601024 ∧ slots + 6 ≤ 7293033) {H : Heap} {locs : List Loc} {ls : Array Slot} {R : Nat → Nat → Option Nat} {O : Int64} {Z : Nat → Nat → Int32} (S : LSt s Γ b i u H locs ls R O Z) (next : ∀ (H : Heap) (locs : List Loc) (ls : Array Slot) (R : Nat → Nat → Option Nat) (O : Int64) (Z : Nat → Nat → Int32), LSt s Γ b i (u + 850) H locs ls R O Z → W p l e room_1 s m args below meth c H locs (cells + 1) (slots + 6) Q (F0 m 1859 ls [])) : W p l e room_1 s m args below meth c H locs cells slots Q (F0 m 350 ls []) := by
  obtain ⟨hx, hb, hml, hown, hts, hXs, hbl, hbA, hK, hZ, hX, hY, hcs, hall⟩ := C
  obtain ⟨hG, hS, hl, hI⟩ := S
  have hF : CallFix p m c cL_law 7 s args wsL_law RL := ⟨hx, hb, hml, hown, hts⟩
  have h483 := hI.g483
  have h475 := hI.g475
  obtain ⟨kk, bb, Z1, Z2, R1, O1, fr, lo, hfr, hlo, wrp, ref, hz, heq, inv⟩ := st_segment (l := l) (O := O) hst hcs hall hI hu (xs (i + 1).toNatClampNeg) (xs (i + 2).toNatClampNeg)
  have thr := inv.thr (l := l) (O := O1)
  rw [hz] at thr
  refine lv_aload_n hx hb dL_law_350 rfl (lv_at hl 1 rfl) ?_
  refine lv_aload_n hx hb dL_law_351 rfl (lv_at hl 0 rfl) ?_
  refine lv_iload hx hb dL_law_352 (lv_at hl 4 rfl) ?_
  refine lv_iconst (v := 1) hx hb dL_law_354 (by decide) ?_
  refine lv_iadd hx hb dL_law_355 ?_
  refine va_sld hx hb hXs hbl hbA hS h1 dL_law_356 ?_
  refine lv_aload_n hx hb dL_law_357 rfl (lv_at hl 0 rfl) ?_
  refine lv_iload hx hb dL_law_358 (lv_at hl 4 rfl) ?_
  refine lv_iconst (v := 2) hx hb dL_law_360 (by decide) ?_
  refine lv_iadd hx hb dL_law_361 ?_
  refine va_sld hx hb hXs hbl hbA hS h2 dL_law_362 ?_
  refine lv_aload_n hx hb dL_law_363 rfl (lv_at hl 3 rfl) ?_
  refine g_callW (As := [.ref (gad Γ 475), .int (xs (i + 1).toNatClampNeg), .int (xs (i + 2).toNatClampNeg), .ref (gad Γ 491)]) (rest := []) (st1 := [.int kk]) hF wrp (vx_cwSW 4 hts gL_law_L_segment rfl rfl rfl (by decide +kernel) ⟨Nat.le_of_ble_eq_true rfl, Nat.le_of_ble_eq_true rfl⟩) hK hZ hX hY hG hS rfl hl.1 (Nat.le_of_ble_eq_true rfl) dL_law_364 hc rfl rfl (fun H locs hG hS => ?_)
  refine lv_istore (lv' := [(5, .int kk), (0, .ref b), (1, .ref (gad Γ 475)), (2, .ref (gad Γ 483)), (3, .ref (gad Γ 491)), (4, .int i)]) hx hb dL_law_367 hl (by decide) rfl (fun ls hl => ?_)
  refine lv_aload_n hx hb dL_law_369 rfl (lv_at hl 3 rfl) ?_
  refine lv_aload_n hx hb dL_law_370 rfl (lv_at hl 1 rfl) ?_
  refine lv_iload hx hb dL_law_371 (lv_at hl 5 rfl) ?_
  refine lv_iconst (v := 1) hx hb dL_law_373 (by decide) ?_
  refine lv_iadd hx hb dL_law_374 ?_
  refine va_sld hx hb hXs hbl hbA hS h1 dL_law_375 ?_
  refine lv_aload_n hx hb dL_law_376 rfl (lv_at hl 1 rfl) ?_
  refine lv_iload hx hb dL_law_377 (lv_at hl 5 rfl) ?_
  refine lv_iconst (v := 2) hx hb dL_law_379 (by decide) ?_
  refine lv_iadd hx hb dL_law_380 ?_
  refine va_sld hx hb hXs hbl hbA hS h2 dL_law_381 ?_
  refine g_callV (As := [.int (xs (i + 1).toNatClampNeg), .int (xs (i + 2).toNatClampNeg)]) (rest := []) (st1 := [.int bb]) hF ref (cwV 2 hts gL_law_X7_segment rfl rfl rfl (by decide +kernel) ⟨(by show fr + 1 ≤ 12; omega), (by show 8 + (_ + 11) + lo ≤ 426; omega)⟩) hK hZ hG hS h483 (show gC 483 = (7, 24, 0) from rfl) (by decide) rfl rfl hl.1 (Nat.le_of_ble_eq_true rfl) dL_law_382 hc rfl rfl (fun H locs hG hS => ?_)
  refine lv_istore (lv' := [(6, .int bb), (5, .int kk), (0, .ref b), (1, .ref (gad Γ 475)), (2, .ref (gad Γ 483)), (3, .ref (gad Γ 491)), (4, .int i)]) hx hb dL_law_385 hl (by decide) rfl (fun ls hl => ?_)
  refine lv_aload_n hx hb dL_law_387 rfl (lv_at hl 4 rfl) ?_
  refine g_callV (As := []) (rest := []) (st1 := [.int kk]) hF thr (cwV 0 hts gL_law_X7_thrown rfl rfl rfl (by decide +kernel) ⟨Nat.le_of_ble_eq_true rfl, Nat.le_of_ble_eq_true rfl⟩) hK hZ hG hS h483 (show gC 483 = (7, 24, 0) from rfl) (by decide) rfl rfl hl.1 (Nat.le_of_ble_eq_true rfl) dL_law_388 hc rfl rfl (fun H locs hG hS => ?_)
  refine lv_iload hx hb dL_law_391 (lv_at hl 1 rfl) ?_
  refine lv_icmp_eq (tgt := 398) hx hb dL_law_393 (by decide) (fun _ => ?_) (fun q => absurd rfl q)
  refine lv_iload hx hb dL_law_398 (lv_at hl 1 rfl) ?_
  have fin : W p l e room_1 s m args below meth c H locs (cells + 1) (slots + 6) Q (F0 m 415 ls []) := lv_goto (tgt := 1859) hx hb dL_law_415 (by decide) (next _ _ _ _ _ _ ⟨hG, hS, lv_sub hl [2, 3, 4, 5, 6] rfl, inv⟩)
  refine lv_if_ne (tgt := 415) hx hb dL_law_400 (by decide) (fun _ => fin) (fun q => ?_)
  refine lv_aload_n hx hb dL_law_403 rfl (lv_at hl 5 rfl) ?_
  refine lv_iconst (v := 0) hx hb dL_law_404 (by decide) ?_
  refine g_lald hx hb hK hG hcs dL_law_405 ?_
  refine lv_iload hx hb dL_law_406 (lv_at hl 0 rfl) ?_
  refine lv_i2l hx hb dL_law_408 rfl ?_
  refine W.lcmp hx hb dL_law_409 ?_
  exact gl_eq (tgt := 415) hx hb dL_law_410 (by decide) (fun _ => fin) (fun q9 => absurd (heq q) q9)
set_option maxHeartbeats 4000000 in
set_option maxRecDepth 100000 in
theorem lc_house {p : Program} {l : Launch} {e : Env} {s : State} {m : MethodId} {args : Array Value} {below : List Frame} {meth : Method} {c : Code} {cells slots : Nat} {Q : State → Prop} {Γ : gX} {b L : Nat} {xs : Nat → Int32} (hst : l.stackTraces = false) (C : LCx p s m args c Γ b L xs) {i : Int32} (h1 : vp_in (i + 1) L) (h2 : vp_in (i + 2) L) (h3 : vp_in (i + 3) L) {u : Nat} (hu : 1998 * (u + 5000) < 2 ^ 31) (hc : cells + 1 ≤ 601024 ∧ slots + 6 ≤ 7293033) {H : Heap} {locs : List Loc} {ls : Array Slot} {R : Nat → Nat → Option Nat} {O : Int64} {Z : Nat → Nat → Int32} (S : LSt s Γ b i u H locs ls R O Z) (next : ∀ (H : Heap) (locs : List Loc) (ls : Array Slot) (R : Nat → Nat → Option Nat) (O : Int64) (Z : Nat → Nat → Int32), LSt s Γ b i (u + 850) H locs ls R O Z → W p l e room_1 s m args below meth c H locs (cells + 1) (slots + 6) Q (F0 m 1859 ls [])) : W p l e room_1 s m args below meth c H locs cells slots Q (F0 m 418 ls []) := by
  obtain ⟨hx, hb, hml, hown, hts, hXs, hbl, hbA, hK, hZ, hX, hY, hcs, hall⟩ := C
  obtain ⟨hG, hS, hl, hI⟩ := S
  have hF : CallFix p m c cL_law 7 s args wsL_law RL := ⟨hx, hb, hml, hown, hts⟩
  have h483 := hI.g483
  have h475 := hI.g475
  obtain ⟨kk, bb, Z1, Z2, R1, O1, fr, lo, hfr, hlo, wrp, ref, hz, heq, inv⟩ := st_house (l := l) (O := O) hst hcs hall hI hu (xs (i + 1).toNatClampNeg) (xs (i + 2).toNatClampNeg)
  have thr := inv.thr (l := l) (O := O1)
  rw [hz] at thr
  refine lv_aload_n hx hb dL_law_418 rfl (lv_at hl 1 rfl) ?_
  refine lv_aload_n hx hb dL_law_419 rfl (lv_at hl 0 rfl) ?_
  refine lv_iload hx hb dL_law_420 (lv_at hl 4 rfl) ?_
  refine lv_iconst (v := 1) hx hb dL_law_422 (by decide) ?_
  refine lv_iadd hx hb dL_law_423 ?_
  refine va_sld hx hb hXs hbl hbA hS h1 dL_law_424 ?_
  refine lv_aload_n hx hb dL_law_425 rfl (lv_at hl 0 rfl) ?_
  refine lv_iload hx hb dL_law_426 (lv_at hl 4 rfl) ?_
  refine lv_iconst (v := 2) hx hb dL_law_428 (by decide) ?_
  refine lv_iadd hx hb dL_law_429 ?_
  refine va_sld hx hb hXs hbl hbA hS h2 dL_law_430 ?_
  refine lv_aload_n hx hb dL_law_431 rfl (lv_at hl 3 rfl) ?_
  refine g_callW (As := [.ref (gad Γ 475), .int (xs (i + 1).toNatClampNeg), .int (xs (i + 2).toNatClampNeg), .ref (gad Γ 491)]) (rest := []) (st1 := [.int kk]) hF wrp (vx_cwSW 4 hts gL_law_L_house rfl rfl rfl (by decide +kernel) ⟨Nat.le_of_ble_eq_true rfl, Nat.le_of_ble_eq_true rfl⟩) hK hZ hX hY hG hS rfl hl.1 (Nat.le_of_ble_eq_true rfl) dL_law_432 hc rfl rfl (fun H locs hG hS => ?_)
  refine lv_istore (lv' := [(5, .int kk), (0, .ref b), (1, .ref (gad Γ 475)), (2, .ref (gad Γ 483)), (3, .ref (gad Γ 491)), (4, .int i)]) hx hb dL_law_435 hl (by decide) rfl (fun ls hl => ?_)
  refine lv_aload_n hx hb dL_law_437 rfl (lv_at hl 3 rfl) ?_
  refine lv_aload_n hx hb dL_law_438 rfl (lv_at hl 1 rfl) ?_
  refine lv_iload hx hb dL_law_439 (lv_at hl 5 rfl) ?_
  refine lv_iconst (v := 1) hx hb dL_law_441 (by decide) ?_
  refine lv_iadd hx hb dL_law_442 ?_
  refine va_sld hx hb hXs hbl hbA hS h1 dL_law_443 ?_
  refine lv_aload_n hx hb dL_law_444 rfl (lv_at hl 1 rfl) ?_
  refine lv_iload hx hb dL_law_445 (lv_at hl 5 rfl) ?_
  refine lv_iconst (v := 2) hx hb dL_law_447 (by decide) ?_
  refine lv_iadd hx hb dL_law_448 ?_
  refine va_sld hx hb hXs hbl hbA hS h2 dL_law_449 ?_
  refine g_callV (As := [.int (xs (i + 1).toNatClampNeg), .int (xs (i + 2).toNatClampNeg)]) (rest := []) (st1 := [.int bb]) hF ref (cwV 2 hts gL_law_X7_house rfl rfl rfl (by decide +kernel) ⟨(by show fr + 1 ≤ 12; omega), (by show 8 + (_ + 11) + lo ≤ 426; omega)⟩) hK hZ hG hS h483 (show gC 483 = (7, 24, 0) from rfl) (by decide) rfl rfl hl.1 (Nat.le_of_ble_eq_true rfl) dL_law_450 hc rfl rfl (fun H locs hG hS => ?_)
  refine lv_istore (lv' := [(6, .int bb), (5, .int kk), (0, .ref b), (1, .ref (gad Γ 475)), (2, .ref (gad Γ 483)), (3, .ref (gad Γ 491)), (4, .int i)]) hx hb dL_law_453 hl (by decide) rfl (fun ls hl => ?_)
  refine lv_aload_n hx hb dL_law_455 rfl (lv_at hl 4 rfl) ?_
  refine g_callV (As := []) (rest := []) (st1 := [.int kk]) hF thr (cwV 0 hts gL_law_X7_thrown rfl rfl rfl (by decide +kernel) ⟨Nat.le_of_ble_eq_true rfl, Nat.le_of_ble_eq_true rfl⟩) hK hZ hG hS h483 (show gC 483 = (7, 24, 0) from rfl) (by decide) rfl rfl hl.1 (Nat.le_of_ble_eq_true rfl) dL_law_456 hc rfl rfl (fun H locs hG hS => ?_)
  refine lv_iload hx hb dL_law_459 (lv_at hl 1 rfl) ?_
  refine lv_icmp_eq (tgt := 466) hx hb dL_law_461 (by decide) (fun _ => ?_) (fun q => absurd rfl q)
  refine lv_iload hx hb dL_law_466 (lv_at hl 1 rfl) ?_
  have fin : W p l e room_1 s m args below meth c H locs (cells + 1) (slots + 6) Q (F0 m 483 ls []) := lv_goto (tgt := 1859) hx hb dL_law_483 (by decide) (next _ _ _ _ _ _ ⟨hG, hS, lv_sub hl [2, 3, 4, 5, 6] rfl, inv⟩)
  refine lv_if_ne (tgt := 483) hx hb dL_law_468 (by decide) (fun _ => fin) (fun q => ?_)
  refine lv_aload_n hx hb dL_law_471 rfl (lv_at hl 5 rfl) ?_
  refine lv_iconst (v := 0) hx hb dL_law_472 (by decide) ?_
  refine g_lald hx hb hK hG hcs dL_law_473 ?_
  refine lv_iload hx hb dL_law_474 (lv_at hl 0 rfl) ?_
  refine lv_i2l hx hb dL_law_476 rfl ?_
  refine W.lcmp hx hb dL_law_477 ?_
  exact gl_eq (tgt := 483) hx hb dL_law_478 (by decide) (fun _ => fin) (fun q9 => absurd (heq q) q9)
set_option maxHeartbeats 4000000 in
set_option maxRecDepth 100000 in
theorem lc_wagon {p : Program} {l : Launch} {e : Env} {s : State} {m : MethodId} {args : Array Value} {below : List Frame} {meth : Method} {c : Code} {cells slots : Nat} {Q : State → Prop} {Γ : gX} {b L : Nat} {xs : Nat → Int32} (hst : l.stackTraces = false) (C : LCx p s m args c Γ b L xs) {i : Int32} (h1 : vp_in (i + 1) L) (h2 : vp_in (i + 2) L) (h3 : vp_in (i + 3) L) {u : Nat} (hu : 1998 * (u + 5000) < 2 ^ 31) (hc : cells + 1 ≤ 601024 ∧ slots + 6 ≤ 7293033) {H : Heap} {locs : List Loc} {ls : Array Slot} {R : Nat → Nat → Option Nat} {O : Int64} {Z : Nat → Nat → Int32} (S : LSt s Γ b i u H locs ls R O Z) (next : ∀ (H : Heap) (locs : List Loc) (ls : Array Slot) (R : Nat → Nat → Option Nat) (O : Int64) (Z : Nat → Nat → Int32), LSt s Γ b i (u + 850) H locs ls R O Z → W p l e room_1 s m args below meth c H locs (cells + 1) (slots + 6) Q (F0 m 1859 ls [])) : W p l e room_1 s m args below meth c H locs cells slots Q (F0 m 486 ls []) := by
  obtain ⟨hx, hb, hml, hown, hts, hXs, hbl, hbA, hK, hZ, hX, hY, hcs, hall⟩ := C
  obtain ⟨hG, hS, hl, hI⟩ := S
  have hF : CallFix p m c cL_law 7 s args wsL_law RL := ⟨hx, hb, hml, hown, hts⟩
  have h483 := hI.g483
  have h475 := hI.g475
  obtain ⟨kk, bb, Z1, Z2, R1, O1, fr, lo, hfr, hlo, wrp, ref, hz, heq, inv⟩ := st_wagon (l := l) (O := O) hst hcs hall hI hu (xs (i + 1).toNatClampNeg) (xs (i + 2).toNatClampNeg)
  have thr := inv.thr (l := l) (O := O1)
  rw [hz] at thr
  refine lv_aload_n hx hb dL_law_486 rfl (lv_at hl 1 rfl) ?_
  refine lv_aload_n hx hb dL_law_487 rfl (lv_at hl 0 rfl) ?_
  refine lv_iload hx hb dL_law_488 (lv_at hl 4 rfl) ?_
  refine lv_iconst (v := 1) hx hb dL_law_490 (by decide) ?_
  refine lv_iadd hx hb dL_law_491 ?_
  refine va_sld hx hb hXs hbl hbA hS h1 dL_law_492 ?_
  refine lv_aload_n hx hb dL_law_493 rfl (lv_at hl 0 rfl) ?_
  refine lv_iload hx hb dL_law_494 (lv_at hl 4 rfl) ?_
  refine lv_iconst (v := 2) hx hb dL_law_496 (by decide) ?_
  refine lv_iadd hx hb dL_law_497 ?_
  refine va_sld hx hb hXs hbl hbA hS h2 dL_law_498 ?_
  refine lv_aload_n hx hb dL_law_499 rfl (lv_at hl 3 rfl) ?_
  refine g_callW (As := [.ref (gad Γ 475), .int (xs (i + 1).toNatClampNeg), .int (xs (i + 2).toNatClampNeg), .ref (gad Γ 491)]) (rest := []) (st1 := [.int kk]) hF wrp (vx_cwSW 4 hts gL_law_L_wagon rfl rfl rfl (by decide +kernel) ⟨Nat.le_of_ble_eq_true rfl, Nat.le_of_ble_eq_true rfl⟩) hK hZ hX hY hG hS rfl hl.1 (Nat.le_of_ble_eq_true rfl) dL_law_500 hc rfl rfl (fun H locs hG hS => ?_)
  refine lv_istore (lv' := [(5, .int kk), (0, .ref b), (1, .ref (gad Γ 475)), (2, .ref (gad Γ 483)), (3, .ref (gad Γ 491)), (4, .int i)]) hx hb dL_law_503 hl (by decide) rfl (fun ls hl => ?_)
  refine lv_aload_n hx hb dL_law_505 rfl (lv_at hl 3 rfl) ?_
  refine lv_aload_n hx hb dL_law_506 rfl (lv_at hl 1 rfl) ?_
  refine lv_iload hx hb dL_law_507 (lv_at hl 5 rfl) ?_
  refine lv_iconst (v := 1) hx hb dL_law_509 (by decide) ?_
  refine lv_iadd hx hb dL_law_510 ?_
  refine va_sld hx hb hXs hbl hbA hS h1 dL_law_511 ?_
  refine lv_aload_n hx hb dL_law_512 rfl (lv_at hl 1 rfl) ?_
  refine lv_iload hx hb dL_law_513 (lv_at hl 5 rfl) ?_
  refine lv_iconst (v := 2) hx hb dL_law_515 (by decide) ?_
  refine lv_iadd hx hb dL_law_516 ?_
  refine va_sld hx hb hXs hbl hbA hS h2 dL_law_517 ?_
  refine g_callV (As := [.int (xs (i + 1).toNatClampNeg), .int (xs (i + 2).toNatClampNeg)]) (rest := []) (st1 := [.int bb]) hF ref (cwV 2 hts gL_law_X7_wagon rfl rfl rfl (by decide +kernel) ⟨(by show fr + 1 ≤ 12; omega), (by show 8 + (_ + 11) + lo ≤ 426; omega)⟩) hK hZ hG hS h483 (show gC 483 = (7, 24, 0) from rfl) (by decide) rfl rfl hl.1 (Nat.le_of_ble_eq_true rfl) dL_law_518 hc rfl rfl (fun H locs hG hS => ?_)
  refine lv_istore (lv' := [(6, .int bb), (5, .int kk), (0, .ref b), (1, .ref (gad Γ 475)), (2, .ref (gad Γ 483)), (3, .ref (gad Γ 491)), (4, .int i)]) hx hb dL_law_521 hl (by decide) rfl (fun ls hl => ?_)
  refine lv_aload_n hx hb dL_law_523 rfl (lv_at hl 4 rfl) ?_
  refine g_callV (As := []) (rest := []) (st1 := [.int kk]) hF thr (cwV 0 hts gL_law_X7_thrown rfl rfl rfl (by decide +kernel) ⟨Nat.le_of_ble_eq_true rfl, Nat.le_of_ble_eq_true rfl⟩) hK hZ hG hS h483 (show gC 483 = (7, 24, 0) from rfl) (by decide) rfl rfl hl.1 (Nat.le_of_ble_eq_true rfl) dL_law_524 hc rfl rfl (fun H locs hG hS => ?_)
  refine lv_iload hx hb dL_law_527 (lv_at hl 1 rfl) ?_
  refine lv_icmp_eq (tgt := 534) hx hb dL_law_529 (by decide) (fun _ => ?_) (fun q => absurd rfl q)
  refine lv_iload hx hb dL_law_534 (lv_at hl 1 rfl) ?_
  have fin : W p l e room_1 s m args below meth c H locs (cells + 1) (slots + 6) Q (F0 m 551 ls []) := lv_goto (tgt := 1859) hx hb dL_law_551 (by decide) (next _ _ _ _ _ _ ⟨hG, hS, lv_sub hl [2, 3, 4, 5, 6] rfl, inv⟩)
  refine lv_if_ne (tgt := 551) hx hb dL_law_536 (by decide) (fun _ => fin) (fun q => ?_)
  refine lv_aload_n hx hb dL_law_539 rfl (lv_at hl 5 rfl) ?_
  refine lv_iconst (v := 0) hx hb dL_law_540 (by decide) ?_
  refine g_lald hx hb hK hG hcs dL_law_541 ?_
  refine lv_iload hx hb dL_law_542 (lv_at hl 0 rfl) ?_
  refine lv_i2l hx hb dL_law_544 rfl ?_
  refine W.lcmp hx hb dL_law_545 ?_
  exact gl_eq (tgt := 551) hx hb dL_law_546 (by decide) (fun _ => fin) (fun q9 => absurd (heq q) q9)
set_option maxHeartbeats 4000000 in
set_option maxRecDepth 100000 in
theorem lc_addHouse {p : Program} {l : Launch} {e : Env} {s : State} {m : MethodId} {args : Array Value} {below : List Frame} {meth : Method} {c : Code} {cells slots : Nat} {Q : State → Prop} {Γ : gX} {b L : Nat} {xs : Nat → Int32} (hst : l.stackTraces = false) (C : LCx p s m args c Γ b L xs) {i : Int32} (h1 : vp_in (i + 1) L) (h2 : vp_in (i + 2) L) (h3 : vp_in (i + 3) L) {u : Nat} (hu : 1998 * (u + 5000) < 2 ^ 31) (hc : cells + 1 ≤ 601024 ∧ slots + 6 ≤ 7293033) {H : Heap} {locs : List Loc} {ls : Array Slot} {R : Nat → Nat → Option Nat} {O : Int64} {Z : Nat → Nat → Int32} (S : LSt s Γ b i u H locs ls R O Z) (next : ∀ (H : Heap) (locs : List Loc) (ls : Array Slot) (R : Nat → Nat → Option Nat) (O : Int64) (Z : Nat → Nat → Int32), LSt s Γ b i (u + 850) H locs ls R O Z → W p l e room_1 s m args below meth c H locs (cells + 1) (slots + 6) Q (F0 m 1859 ls [])) : W p l e room_1 s m args below meth c H locs cells slots Q (F0 m 554 ls []) := by
  obtain ⟨hx, hb, hml, hown, hts, hXs, hbl, hbA, hK, hZ, hX, hY, hcs, hall⟩ := C
  obtain ⟨hG, hS, hl, hI⟩ := S
  have hF : CallFix p m c cL_law 7 s args wsL_law RL := ⟨hx, hb, hml, hown, hts⟩
  have h483 := hI.g483
  have h475 := hI.g475
  obtain ⟨kk, bb, Z1, Z2, R1, O1, fr, lo, hfr, hlo, wrp, ref, hz, heq, inv⟩ := st_addHouse (l := l) (O := O) hst hcs hall hI hu (xs (i + 1).toNatClampNeg) (xs (i + 2).toNatClampNeg)
  have thr := inv.thr (l := l) (O := O1)
  rw [hz] at thr
  refine lv_aload_n hx hb dL_law_554 rfl (lv_at hl 1 rfl) ?_
  refine lv_aload_n hx hb dL_law_555 rfl (lv_at hl 0 rfl) ?_
  refine lv_iload hx hb dL_law_556 (lv_at hl 4 rfl) ?_
  refine lv_iconst (v := 1) hx hb dL_law_558 (by decide) ?_
  refine lv_iadd hx hb dL_law_559 ?_
  refine va_sld hx hb hXs hbl hbA hS h1 dL_law_560 ?_
  refine lv_aload_n hx hb dL_law_561 rfl (lv_at hl 0 rfl) ?_
  refine lv_iload hx hb dL_law_562 (lv_at hl 4 rfl) ?_
  refine lv_iconst (v := 2) hx hb dL_law_564 (by decide) ?_
  refine lv_iadd hx hb dL_law_565 ?_
  refine va_sld hx hb hXs hbl hbA hS h2 dL_law_566 ?_
  refine lv_aload_n hx hb dL_law_567 rfl (lv_at hl 3 rfl) ?_
  refine g_callW (As := [.ref (gad Γ 475), .int (xs (i + 1).toNatClampNeg), .int (xs (i + 2).toNatClampNeg), .ref (gad Γ 491)]) (rest := []) (st1 := [.int kk]) hF wrp (vx_cwSW 4 hts gL_law_L_addHouse rfl rfl rfl (by decide +kernel) ⟨Nat.le_of_ble_eq_true rfl, Nat.le_of_ble_eq_true rfl⟩) hK hZ hX hY hG hS rfl hl.1 (Nat.le_of_ble_eq_true rfl) dL_law_568 hc rfl rfl (fun H locs hG hS => ?_)
  refine lv_istore (lv' := [(5, .int kk), (0, .ref b), (1, .ref (gad Γ 475)), (2, .ref (gad Γ 483)), (3, .ref (gad Γ 491)), (4, .int i)]) hx hb dL_law_571 hl (by decide) rfl (fun ls hl => ?_)
  refine lv_aload_n hx hb dL_law_573 rfl (lv_at hl 3 rfl) ?_
  refine lv_aload_n hx hb dL_law_574 rfl (lv_at hl 1 rfl) ?_
  refine lv_iload hx hb dL_law_575 (lv_at hl 5 rfl) ?_
  refine lv_iconst (v := 1) hx hb dL_law_577 (by decide) ?_
  refine lv_iadd hx hb dL_law_578 ?_
  refine va_sld hx hb hXs hbl hbA hS h1 dL_law_579 ?_
  refine lv_aload_n hx hb dL_law_580 rfl (lv_at hl 1 rfl) ?_
  refine lv_iload hx hb dL_law_581 (lv_at hl 5 rfl) ?_
  refine lv_iconst (v := 2) hx hb dL_law_583 (by decide) ?_
  refine lv_iadd hx hb dL_law_584 ?_
  refine va_sld hx hb hXs hbl hbA hS h2 dL_law_585 ?_
  refine g_callV (As := [.int (xs (i + 1).toNatClampNeg), .int (xs (i + 2).toNatClampNeg)]) (rest := []) (st1 := [.int bb]) hF ref (cwV 2 hts gL_law_X7_addHouse rfl rfl rfl (by decide +kernel) ⟨(by show fr + 1 ≤ 12; omega), (by show 8 + (_ + 11) + lo ≤ 426; omega)⟩) hK hZ hG hS h483 (show gC 483 = (7, 24, 0) from rfl) (by decide) rfl rfl hl.1 (Nat.le_of_ble_eq_true rfl) dL_law_586 hc rfl rfl (fun H locs hG hS => ?_)
  refine lv_istore (lv' := [(6, .int bb), (5, .int kk), (0, .ref b), (1, .ref (gad Γ 475)), (2, .ref (gad Γ 483)), (3, .ref (gad Γ 491)), (4, .int i)]) hx hb dL_law_589 hl (by decide) rfl (fun ls hl => ?_)
  refine lv_aload_n hx hb dL_law_591 rfl (lv_at hl 4 rfl) ?_
  refine g_callV (As := []) (rest := []) (st1 := [.int kk]) hF thr (cwV 0 hts gL_law_X7_thrown rfl rfl rfl (by decide +kernel) ⟨Nat.le_of_ble_eq_true rfl, Nat.le_of_ble_eq_true rfl⟩) hK hZ hG hS h483 (show gC 483 = (7, 24, 0) from rfl) (by decide) rfl rfl hl.1 (Nat.le_of_ble_eq_true rfl) dL_law_592 hc rfl rfl (fun H locs hG hS => ?_)
  refine lv_iload hx hb dL_law_595 (lv_at hl 1 rfl) ?_
  refine lv_icmp_eq (tgt := 602) hx hb dL_law_597 (by decide) (fun _ => ?_) (fun q => absurd rfl q)
  refine lv_iload hx hb dL_law_602 (lv_at hl 1 rfl) ?_
  have fin : W p l e room_1 s m args below meth c H locs (cells + 1) (slots + 6) Q (F0 m 619 ls []) := lv_goto (tgt := 1859) hx hb dL_law_619 (by decide) (next _ _ _ _ _ _ ⟨hG, hS, lv_sub hl [2, 3, 4, 5, 6] rfl, inv⟩)
  refine lv_if_ne (tgt := 619) hx hb dL_law_604 (by decide) (fun _ => fin) (fun q => ?_)
  refine lv_aload_n hx hb dL_law_607 rfl (lv_at hl 5 rfl) ?_
  refine lv_iconst (v := 0) hx hb dL_law_608 (by decide) ?_
  refine g_lald hx hb hK hG hcs dL_law_609 ?_
  refine lv_iload hx hb dL_law_610 (lv_at hl 0 rfl) ?_
  refine lv_i2l hx hb dL_law_612 rfl ?_
  refine W.lcmp hx hb dL_law_613 ?_
  exact gl_eq (tgt := 619) hx hb dL_law_614 (by decide) (fun _ => fin) (fun q9 => absurd (heq q) q9)
set_option maxHeartbeats 4000000 in
set_option maxRecDepth 100000 in
theorem lc_addWagon {p : Program} {l : Launch} {e : Env} {s : State} {m : MethodId} {args : Array Value} {below : List Frame} {meth : Method} {c : Code} {cells slots : Nat} {Q : State → Prop} {Γ : gX} {b L : Nat} {xs : Nat → Int32} (hst : l.stackTraces = false) (C : LCx p s m args c Γ b L xs) {i : Int32} (h1 : vp_in (i + 1) L) (h2 : vp_in (i + 2) L) (h3 : vp_in (i + 3) L) {u : Nat} (hu : 1998 * (u + 5000) < 2 ^ 31) (hc : cells + 1 ≤ 601024 ∧ slots + 6 ≤ 7293033) {H : Heap} {locs : List Loc} {ls : Array Slot} {R : Nat → Nat → Option Nat} {O : Int64} {Z : Nat → Nat → Int32} (S : LSt s Γ b i u H locs ls R O Z) (next : ∀ (H : Heap) (locs : List Loc) (ls : Array Slot) (R : Nat → Nat → Option Nat) (O : Int64) (Z : Nat → Nat → Int32), LSt s Γ b i (u + 850) H locs ls R O Z → W p l e room_1 s m args below meth c H locs (cells + 1) (slots + 6) Q (F0 m 1859 ls [])) : W p l e room_1 s m args below meth c H locs cells slots Q (F0 m 622 ls []) := by
  obtain ⟨hx, hb, hml, hown, hts, hXs, hbl, hbA, hK, hZ, hX, hY, hcs, hall⟩ := C
  obtain ⟨hG, hS, hl, hI⟩ := S
  have hF : CallFix p m c cL_law 7 s args wsL_law RL := ⟨hx, hb, hml, hown, hts⟩
  have h483 := hI.g483
  have h475 := hI.g475
  obtain ⟨kk, bb, Z1, Z2, R1, O1, fr, lo, hfr, hlo, wrp, ref, hz, heq, inv⟩ := st_addWagon (l := l) (O := O) hst hcs hall hI hu (xs (i + 1).toNatClampNeg)
  have thr := inv.thr (l := l) (O := O1)
  rw [hz] at thr
  refine lv_aload_n hx hb dL_law_622 rfl (lv_at hl 1 rfl) ?_
  refine lv_aload_n hx hb dL_law_623 rfl (lv_at hl 0 rfl) ?_
  refine lv_iload hx hb dL_law_624 (lv_at hl 4 rfl) ?_
  refine lv_iconst (v := 1) hx hb dL_law_626 (by decide) ?_
  refine lv_iadd hx hb dL_law_627 ?_
  refine va_sld hx hb hXs hbl hbA hS h1 dL_law_628 ?_
  refine lv_aload_n hx hb dL_law_629 rfl (lv_at hl 3 rfl) ?_
  refine g_callW (As := [.ref (gad Γ 475), .int (xs (i + 1).toNatClampNeg), .ref (gad Γ 491)]) (rest := []) (st1 := [.int kk]) hF wrp (vx_cwSW 3 hts gL_law_L_addWagon rfl rfl rfl (by decide +kernel) ⟨Nat.le_of_ble_eq_true rfl, Nat.le_of_ble_eq_true rfl⟩) hK hZ hX hY hG hS rfl hl.1 (Nat.le_of_ble_eq_true rfl) dL_law_630 hc rfl rfl (fun H locs hG hS => ?_)
  refine lv_istore (lv' := [(5, .int kk), (0, .ref b), (1, .ref (gad Γ 475)), (2, .ref (gad Γ 483)), (3, .ref (gad Γ 491)), (4, .int i)]) hx hb dL_law_633 hl (by decide) rfl (fun ls hl => ?_)
  refine lv_aload_n hx hb dL_law_635 rfl (lv_at hl 3 rfl) ?_
  refine lv_aload_n hx hb dL_law_636 rfl (lv_at hl 1 rfl) ?_
  refine lv_iload hx hb dL_law_637 (lv_at hl 5 rfl) ?_
  refine lv_iconst (v := 1) hx hb dL_law_639 (by decide) ?_
  refine lv_iadd hx hb dL_law_640 ?_
  refine va_sld hx hb hXs hbl hbA hS h1 dL_law_641 ?_
  refine g_callV (As := [.int (xs (i + 1).toNatClampNeg)]) (rest := []) (st1 := [.int bb]) hF ref (cwV 1 hts gL_law_X7_addWagon rfl rfl rfl (by decide +kernel) ⟨(by show fr + 1 ≤ 12; omega), (by show 8 + (_ + 11) + lo ≤ 426; omega)⟩) hK hZ hG hS h483 (show gC 483 = (7, 24, 0) from rfl) (by decide) rfl rfl hl.1 (Nat.le_of_ble_eq_true rfl) dL_law_642 hc rfl rfl (fun H locs hG hS => ?_)
  refine lv_istore (lv' := [(6, .int bb), (5, .int kk), (0, .ref b), (1, .ref (gad Γ 475)), (2, .ref (gad Γ 483)), (3, .ref (gad Γ 491)), (4, .int i)]) hx hb dL_law_645 hl (by decide) rfl (fun ls hl => ?_)
  refine lv_aload_n hx hb dL_law_647 rfl (lv_at hl 4 rfl) ?_
  refine g_callV (As := []) (rest := []) (st1 := [.int kk]) hF thr (cwV 0 hts gL_law_X7_thrown rfl rfl rfl (by decide +kernel) ⟨Nat.le_of_ble_eq_true rfl, Nat.le_of_ble_eq_true rfl⟩) hK hZ hG hS h483 (show gC 483 = (7, 24, 0) from rfl) (by decide) rfl rfl hl.1 (Nat.le_of_ble_eq_true rfl) dL_law_648 hc rfl rfl (fun H locs hG hS => ?_)
  refine lv_iload hx hb dL_law_651 (lv_at hl 1 rfl) ?_
  refine lv_icmp_eq (tgt := 658) hx hb dL_law_653 (by decide) (fun _ => ?_) (fun q => absurd rfl q)
  refine lv_iload hx hb dL_law_658 (lv_at hl 1 rfl) ?_
  have fin : W p l e room_1 s m args below meth c H locs (cells + 1) (slots + 6) Q (F0 m 675 ls []) := lv_goto (tgt := 1859) hx hb dL_law_675 (by decide) (next _ _ _ _ _ _ ⟨hG, hS, lv_sub hl [2, 3, 4, 5, 6] rfl, inv⟩)
  refine lv_if_ne (tgt := 675) hx hb dL_law_660 (by decide) (fun _ => fin) (fun q => ?_)
  refine lv_aload_n hx hb dL_law_663 rfl (lv_at hl 5 rfl) ?_
  refine lv_iconst (v := 0) hx hb dL_law_664 (by decide) ?_
  refine g_lald hx hb hK hG hcs dL_law_665 ?_
  refine lv_iload hx hb dL_law_666 (lv_at hl 0 rfl) ?_
  refine lv_i2l hx hb dL_law_668 rfl ?_
  refine W.lcmp hx hb dL_law_669 ?_
  exact gl_eq (tgt := 675) hx hb dL_law_670 (by decide) (fun _ => fin) (fun q9 => absurd (heq q) q9)
