/-! THE LAW: its cases. Laid by gen/p31.py. -/
set_option maxHeartbeats 4000000 in
set_option maxRecDepth 100000 in
theorem lc_waterFor {p : Program} {l : Launch} {e : Env} {s : State} {m : MethodId} {args : Array Value} {below : List Frame} {meth : Method} {c : Code} {cells slots : Nat} {Q : State → Prop} {Γ : gX} {b L : Nat} {xs : Nat → Int32} (hst : l.stackTraces = false) (C : LCx p s m args c Γ b L xs) {i : Int32} (h1 : vp_in (i + 1) L) (h2 : vp_in (i + 2) L) (h3 : vp_in (i + 3) L) {u : Nat} (hu : 1998 * (u + 5000) < 2 ^ 31) (hc : cells + 1 ≤ 601024 ∧ slots + 6 ≤ 7293033) {H : Heap} {locs : List Loc} {ls : Array Slot} {R : Nat → Nat → Option Nat} {O : Int64} {Z : Nat → Nat → Int32} (S : LSt s Γ b i u H locs ls R O Z) (next : ∀ (H : Heap) (locs : List Loc) (ls : Array Slot) (R : Nat → Nat → Option Nat) (O : Int64) (Z : Nat → Nat → Int32), LSt s Γ b i (u + 850) H locs ls R O Z → W p l e room_1 s m args below meth c H locs (cells + 1) (slots + 6) Q (F0 m 1859 ls [])) : W p l e room_1 s m args below meth c H locs cells slots Q (F0 m 1298 ls []) := by
  obtain ⟨hx, hb, hml, hown, hts, hXs, hbl, hbA, hK, hZ, hX, hY, hcs, hall⟩ := C
  obtain ⟨hG, hS, hl, hI⟩ := S
  have hF : CallFix p m c cL_law 7 s args wsL_law RL := ⟨hx, hb, hml, hown, hts⟩
  have h483 := hI.g483
  have h475 := hI.g475
  obtain ⟨kk, bb, Z1, Z2, R1, O1, fr, lo, hfr, hlo, wrp, ref, hz, heq, inv⟩ := st_waterFor (l := l) (O := O) hst hcs hall hI hu (xs (i + 1).toNatClampNeg)
  have thr := inv.thr (l := l) (O := O1)
  rw [hz] at thr
  refine lv_aload_n hx hb dL_law_1298 rfl (lv_at hl 1 rfl) ?_
  refine lv_aload_n hx hb dL_law_1299 rfl (lv_at hl 0 rfl) ?_
  refine lv_iload hx hb dL_law_1300 (lv_at hl 4 rfl) ?_
  refine lv_iconst (v := 1) hx hb dL_law_1302 (by decide) ?_
  refine lv_iadd hx hb dL_law_1303 ?_
  refine va_sld hx hb hXs hbl hbA hS h1 dL_law_1304 ?_
  refine lv_aload_n hx hb dL_law_1305 rfl (lv_at hl 3 rfl) ?_
  refine g_callW (As := [.ref (gad Γ 475), .int (xs (i + 1).toNatClampNeg), .ref (gad Γ 491)]) (rest := []) (st1 := [.int kk]) hF wrp (vx_cwSW 3 hts gL_law_L_waterFor rfl rfl rfl (by decide +kernel) ⟨Nat.le_of_ble_eq_true rfl, Nat.le_of_ble_eq_true rfl⟩) hK hZ hX hY hG hS rfl hl.1 (Nat.le_of_ble_eq_true rfl) dL_law_1306 hc rfl rfl (fun H locs hG hS => ?_)
  refine lv_istore (lv' := [(5, .int kk), (0, .ref b), (1, .ref (gad Γ 475)), (2, .ref (gad Γ 483)), (3, .ref (gad Γ 491)), (4, .int i)]) hx hb dL_law_1309 hl (by decide) rfl (fun ls hl => ?_)
  refine lv_aload_n hx hb dL_law_1311 rfl (lv_at hl 3 rfl) ?_
  refine lv_aload_n hx hb dL_law_1312 rfl (lv_at hl 1 rfl) ?_
  refine lv_iload hx hb dL_law_1313 (lv_at hl 5 rfl) ?_
  refine lv_iconst (v := 1) hx hb dL_law_1315 (by decide) ?_
  refine lv_iadd hx hb dL_law_1316 ?_
  refine va_sld hx hb hXs hbl hbA hS h1 dL_law_1317 ?_
  refine g_callV (As := [.int (xs (i + 1).toNatClampNeg)]) (rest := []) (st1 := [.int bb]) hF ref (cwV 1 hts gL_law_X7_waterFor rfl rfl rfl (by decide +kernel) ⟨(by show fr + 1 ≤ 12; omega), (by show 8 + (_ + 11) + lo ≤ 426; omega)⟩) hK hZ hG hS h483 (show gC 483 = (7, 24, 0) from rfl) (by decide) rfl rfl hl.1 (Nat.le_of_ble_eq_true rfl) dL_law_1318 hc rfl rfl (fun H locs hG hS => ?_)
  refine lv_istore (lv' := [(6, .int bb), (5, .int kk), (0, .ref b), (1, .ref (gad Γ 475)), (2, .ref (gad Γ 483)), (3, .ref (gad Γ 491)), (4, .int i)]) hx hb dL_law_1321 hl (by decide) rfl (fun ls hl => ?_)
  refine lv_aload_n hx hb dL_law_1323 rfl (lv_at hl 4 rfl) ?_
  refine g_callV (As := []) (rest := []) (st1 := [.int kk]) hF thr (cwV 0 hts gL_law_X7_thrown rfl rfl rfl (by decide +kernel) ⟨Nat.le_of_ble_eq_true rfl, Nat.le_of_ble_eq_true rfl⟩) hK hZ hG hS h483 (show gC 483 = (7, 24, 0) from rfl) (by decide) rfl rfl hl.1 (Nat.le_of_ble_eq_true rfl) dL_law_1324 hc rfl rfl (fun H locs hG hS => ?_)
  refine lv_iload hx hb dL_law_1327 (lv_at hl 1 rfl) ?_
  refine lv_icmp_eq (tgt := 1334) hx hb dL_law_1329 (by decide) (fun _ => ?_) (fun q => absurd rfl q)
  refine lv_iload hx hb dL_law_1334 (lv_at hl 1 rfl) ?_
  have fin : W p l e room_1 s m args below meth c H locs (cells + 1) (slots + 6) Q (F0 m 1351 ls []) := lv_goto (tgt := 1859) hx hb dL_law_1351 (by decide) (next _ _ _ _ _ _ ⟨hG, hS, lv_sub hl [2, 3, 4, 5, 6] rfl, inv⟩)
  refine lv_if_ne (tgt := 1351) hx hb dL_law_1336 (by decide) (fun _ => fin) (fun q => ?_)
  refine lv_aload_n hx hb dL_law_1339 rfl (lv_at hl 5 rfl) ?_
  refine lv_iconst (v := 0) hx hb dL_law_1340 (by decide) ?_
  refine g_lald hx hb hK hG hcs dL_law_1341 ?_
  refine lv_iload hx hb dL_law_1342 (lv_at hl 0 rfl) ?_
  refine lv_i2l hx hb dL_law_1344 rfl ?_
  refine W.lcmp hx hb dL_law_1345 ?_
  exact gl_eq (tgt := 1351) hx hb dL_law_1346 (by decide) (fun _ => fin) (fun q9 => absurd (heq q) q9)
set_option maxHeartbeats 4000000 in
set_option maxRecDepth 100000 in
theorem lc_limitFor {p : Program} {l : Launch} {e : Env} {s : State} {m : MethodId} {args : Array Value} {below : List Frame} {meth : Method} {c : Code} {cells slots : Nat} {Q : State → Prop} {Γ : gX} {b L : Nat} {xs : Nat → Int32} (hst : l.stackTraces = false) (C : LCx p s m args c Γ b L xs) {i : Int32} (h1 : vp_in (i + 1) L) (h2 : vp_in (i + 2) L) (h3 : vp_in (i + 3) L) {u : Nat} (hu : 1998 * (u + 5000) < 2 ^ 31) (hc : cells + 1 ≤ 601024 ∧ slots + 6 ≤ 7293033) {H : Heap} {locs : List Loc} {ls : Array Slot} {R : Nat → Nat → Option Nat} {O : Int64} {Z : Nat → Nat → Int32} (S : LSt s Γ b i u H locs ls R O Z) (next : ∀ (H : Heap) (locs : List Loc) (ls : Array Slot) (R : Nat → Nat → Option Nat) (O : Int64) (Z : Nat → Nat → Int32), LSt s Γ b i (u + 850) H locs ls R O Z → W p l e room_1 s m args below meth c H locs (cells + 1) (slots + 6) Q (F0 m 1859 ls [])) : W p l e room_1 s m args below meth c H locs cells slots Q (F0 m 1354 ls []) := by
  obtain ⟨hx, hb, hml, hown, hts, hXs, hbl, hbA, hK, hZ, hX, hY, hcs, hall⟩ := C
  obtain ⟨hG, hS, hl, hI⟩ := S
  have hF : CallFix p m c cL_law 7 s args wsL_law RL := ⟨hx, hb, hml, hown, hts⟩
  have h483 := hI.g483
  have h475 := hI.g475
  obtain ⟨kk, bb, Z1, Z2, R1, O1, fr, lo, hfr, hlo, wrp, ref, hz, heq, inv⟩ := st_limitFor (l := l) (O := O) hst hcs hall hI hu (xs (i + 1).toNatClampNeg)
  have thr := inv.thr (l := l) (O := O1)
  rw [hz] at thr
  refine lv_aload_n hx hb dL_law_1354 rfl (lv_at hl 1 rfl) ?_
  refine lv_aload_n hx hb dL_law_1355 rfl (lv_at hl 0 rfl) ?_
  refine lv_iload hx hb dL_law_1356 (lv_at hl 4 rfl) ?_
  refine lv_iconst (v := 1) hx hb dL_law_1358 (by decide) ?_
  refine lv_iadd hx hb dL_law_1359 ?_
  refine va_sld hx hb hXs hbl hbA hS h1 dL_law_1360 ?_
  refine lv_aload_n hx hb dL_law_1361 rfl (lv_at hl 3 rfl) ?_
  refine g_callW (As := [.ref (gad Γ 475), .int (xs (i + 1).toNatClampNeg), .ref (gad Γ 491)]) (rest := []) (st1 := [.int kk]) hF wrp (vx_cwSW 3 hts gL_law_L_limitFor rfl rfl rfl (by decide +kernel) ⟨Nat.le_of_ble_eq_true rfl, Nat.le_of_ble_eq_true rfl⟩) hK hZ hX hY hG hS rfl hl.1 (Nat.le_of_ble_eq_true rfl) dL_law_1362 hc rfl rfl (fun H locs hG hS => ?_)
  refine lv_istore (lv' := [(5, .int kk), (0, .ref b), (1, .ref (gad Γ 475)), (2, .ref (gad Γ 483)), (3, .ref (gad Γ 491)), (4, .int i)]) hx hb dL_law_1365 hl (by decide) rfl (fun ls hl => ?_)
  refine lv_aload_n hx hb dL_law_1367 rfl (lv_at hl 3 rfl) ?_
  refine lv_aload_n hx hb dL_law_1368 rfl (lv_at hl 1 rfl) ?_
  refine lv_iload hx hb dL_law_1369 (lv_at hl 5 rfl) ?_
  refine lv_iconst (v := 1) hx hb dL_law_1371 (by decide) ?_
  refine lv_iadd hx hb dL_law_1372 ?_
  refine va_sld hx hb hXs hbl hbA hS h1 dL_law_1373 ?_
  refine g_callV (As := [.int (xs (i + 1).toNatClampNeg)]) (rest := []) (st1 := [.int bb]) hF ref (cwV 1 hts gL_law_X7_limitFor rfl rfl rfl (by decide +kernel) ⟨(by show fr + 1 ≤ 12; omega), (by show 8 + (_ + 11) + lo ≤ 426; omega)⟩) hK hZ hG hS h483 (show gC 483 = (7, 24, 0) from rfl) (by decide) rfl rfl hl.1 (Nat.le_of_ble_eq_true rfl) dL_law_1374 hc rfl rfl (fun H locs hG hS => ?_)
  refine lv_istore (lv' := [(6, .int bb), (5, .int kk), (0, .ref b), (1, .ref (gad Γ 475)), (2, .ref (gad Γ 483)), (3, .ref (gad Γ 491)), (4, .int i)]) hx hb dL_law_1377 hl (by decide) rfl (fun ls hl => ?_)
  refine lv_aload_n hx hb dL_law_1379 rfl (lv_at hl 4 rfl) ?_
  refine g_callV (As := []) (rest := []) (st1 := [.int kk]) hF thr (cwV 0 hts gL_law_X7_thrown rfl rfl rfl (by decide +kernel) ⟨Nat.le_of_ble_eq_true rfl, Nat.le_of_ble_eq_true rfl⟩) hK hZ hG hS h483 (show gC 483 = (7, 24, 0) from rfl) (by decide) rfl rfl hl.1 (Nat.le_of_ble_eq_true rfl) dL_law_1380 hc rfl rfl (fun H locs hG hS => ?_)
  refine lv_iload hx hb dL_law_1383 (lv_at hl 1 rfl) ?_
  refine lv_icmp_eq (tgt := 1390) hx hb dL_law_1385 (by decide) (fun _ => ?_) (fun q => absurd rfl q)
  refine lv_iload hx hb dL_law_1390 (lv_at hl 1 rfl) ?_
  have fin : W p l e room_1 s m args below meth c H locs (cells + 1) (slots + 6) Q (F0 m 1407 ls []) := lv_goto (tgt := 1859) hx hb dL_law_1407 (by decide) (next _ _ _ _ _ _ ⟨hG, hS, lv_sub hl [2, 3, 4, 5, 6] rfl, inv⟩)
  refine lv_if_ne (tgt := 1407) hx hb dL_law_1392 (by decide) (fun _ => fin) (fun q => ?_)
  refine lv_aload_n hx hb dL_law_1395 rfl (lv_at hl 5 rfl) ?_
  refine lv_iconst (v := 0) hx hb dL_law_1396 (by decide) ?_
  refine g_lald hx hb hK hG hcs dL_law_1397 ?_
  refine lv_iload hx hb dL_law_1398 (lv_at hl 0 rfl) ?_
  refine lv_i2l hx hb dL_law_1400 rfl ?_
  refine W.lcmp hx hb dL_law_1401 ?_
  exact gl_eq (tgt := 1407) hx hb dL_law_1402 (by decide) (fun _ => fin) (fun q9 => absurd (heq q) q9)
set_option maxHeartbeats 4000000 in
set_option maxRecDepth 100000 in
theorem lc_bestSpray {p : Program} {l : Launch} {e : Env} {s : State} {m : MethodId} {args : Array Value} {below : List Frame} {meth : Method} {c : Code} {cells slots : Nat} {Q : State → Prop} {Γ : gX} {b L : Nat} {xs : Nat → Int32} (hst : l.stackTraces = false) (C : LCx p s m args c Γ b L xs) {i : Int32} (h1 : vp_in (i + 1) L) (h2 : vp_in (i + 2) L) (h3 : vp_in (i + 3) L) {u : Nat} (hu : 1998 * (u + 5000) < 2 ^ 31) (hc : cells + 1 ≤ 601024 ∧ slots + 6 ≤ 7293033) {H : Heap} {locs : List Loc} {ls : Array Slot} {R : Nat → Nat → Option Nat} {O : Int64} {Z : Nat → Nat → Int32} (S : LSt s Γ b i u H locs ls R O Z) (next : ∀ (H : Heap) (locs : List Loc) (ls : Array Slot) (R : Nat → Nat → Option Nat) (O : Int64) (Z : Nat → Nat → Int32), LSt s Γ b i (u + 850) H locs ls R O Z → W p l e room_1 s m args below meth c H locs (cells + 1) (slots + 6) Q (F0 m 1859 ls [])) : W p l e room_1 s m args below meth c H locs cells slots Q (F0 m 1410 ls []) := by
  obtain ⟨hx, hb, hml, hown, hts, hXs, hbl, hbA, hK, hZ, hX, hY, hcs, hall⟩ := C
  obtain ⟨hG, hS, hl, hI⟩ := S
  have hF : CallFix p m c cL_law 7 s args wsL_law RL := ⟨hx, hb, hml, hown, hts⟩
  have h483 := hI.g483
  have h475 := hI.g475
  obtain ⟨kk, bb, Z1, Z2, R1, O1, fr, lo, hfr, hlo, wrp, ref, hz, heq, inv⟩ := st_bestSpray (l := l) (O := O) hst hcs hall hI hu (xs (i + 1).toNatClampNeg) (xs (i + 2).toNatClampNeg)
  have thr := inv.thr (l := l) (O := O1)
  rw [hz] at thr
  refine lv_aload_n hx hb dL_law_1410 rfl (lv_at hl 1 rfl) ?_
  refine lv_aload_n hx hb dL_law_1411 rfl (lv_at hl 0 rfl) ?_
  refine lv_iload hx hb dL_law_1412 (lv_at hl 4 rfl) ?_
  refine lv_iconst (v := 1) hx hb dL_law_1414 (by decide) ?_
  refine lv_iadd hx hb dL_law_1415 ?_
  refine va_sld hx hb hXs hbl hbA hS h1 dL_law_1416 ?_
  refine lv_aload_n hx hb dL_law_1417 rfl (lv_at hl 0 rfl) ?_
  refine lv_iload hx hb dL_law_1418 (lv_at hl 4 rfl) ?_
  refine lv_iconst (v := 2) hx hb dL_law_1420 (by decide) ?_
  refine lv_iadd hx hb dL_law_1421 ?_
  refine va_sld hx hb hXs hbl hbA hS h2 dL_law_1422 ?_
  refine lv_aload_n hx hb dL_law_1423 rfl (lv_at hl 3 rfl) ?_
  refine g_callW (As := [.ref (gad Γ 475), .int (xs (i + 1).toNatClampNeg), .int (xs (i + 2).toNatClampNeg), .ref (gad Γ 491)]) (rest := []) (st1 := [.int kk]) hF wrp (vx_cwSW 4 hts gL_law_L_bestSpray rfl rfl rfl (by decide +kernel) ⟨Nat.le_of_ble_eq_true rfl, Nat.le_of_ble_eq_true rfl⟩) hK hZ hX hY hG hS rfl hl.1 (Nat.le_of_ble_eq_true rfl) dL_law_1424 hc rfl rfl (fun H locs hG hS => ?_)
  refine lv_istore (lv' := [(5, .int kk), (0, .ref b), (1, .ref (gad Γ 475)), (2, .ref (gad Γ 483)), (3, .ref (gad Γ 491)), (4, .int i)]) hx hb dL_law_1427 hl (by decide) rfl (fun ls hl => ?_)
  refine lv_aload_n hx hb dL_law_1429 rfl (lv_at hl 3 rfl) ?_
  refine lv_aload_n hx hb dL_law_1430 rfl (lv_at hl 1 rfl) ?_
  refine lv_iload hx hb dL_law_1431 (lv_at hl 5 rfl) ?_
  refine lv_iconst (v := 1) hx hb dL_law_1433 (by decide) ?_
  refine lv_iadd hx hb dL_law_1434 ?_
  refine va_sld hx hb hXs hbl hbA hS h1 dL_law_1435 ?_
  refine lv_aload_n hx hb dL_law_1436 rfl (lv_at hl 1 rfl) ?_
  refine lv_iload hx hb dL_law_1437 (lv_at hl 5 rfl) ?_
  refine lv_iconst (v := 2) hx hb dL_law_1439 (by decide) ?_
  refine lv_iadd hx hb dL_law_1440 ?_
  refine va_sld hx hb hXs hbl hbA hS h2 dL_law_1441 ?_
  refine g_callV (As := [.int (xs (i + 1).toNatClampNeg), .int (xs (i + 2).toNatClampNeg)]) (rest := []) (st1 := [.int bb]) hF ref (cwV 2 hts gL_law_X7_bestSpray rfl rfl rfl (by decide +kernel) ⟨(by show fr + 1 ≤ 12; omega), (by show 8 + (_ + 11) + lo ≤ 426; omega)⟩) hK hZ hG hS h483 (show gC 483 = (7, 24, 0) from rfl) (by decide) rfl rfl hl.1 (Nat.le_of_ble_eq_true rfl) dL_law_1442 hc rfl rfl (fun H locs hG hS => ?_)
  refine lv_istore (lv' := [(6, .int bb), (5, .int kk), (0, .ref b), (1, .ref (gad Γ 475)), (2, .ref (gad Γ 483)), (3, .ref (gad Γ 491)), (4, .int i)]) hx hb dL_law_1445 hl (by decide) rfl (fun ls hl => ?_)
  refine lv_aload_n hx hb dL_law_1447 rfl (lv_at hl 4 rfl) ?_
  refine g_callV (As := []) (rest := []) (st1 := [.int kk]) hF thr (cwV 0 hts gL_law_X7_thrown rfl rfl rfl (by decide +kernel) ⟨Nat.le_of_ble_eq_true rfl, Nat.le_of_ble_eq_true rfl⟩) hK hZ hG hS h483 (show gC 483 = (7, 24, 0) from rfl) (by decide) rfl rfl hl.1 (Nat.le_of_ble_eq_true rfl) dL_law_1448 hc rfl rfl (fun H locs hG hS => ?_)
  refine lv_iload hx hb dL_law_1451 (lv_at hl 1 rfl) ?_
  refine lv_icmp_eq (tgt := 1458) hx hb dL_law_1453 (by decide) (fun _ => ?_) (fun q => absurd rfl q)
  refine lv_iload hx hb dL_law_1458 (lv_at hl 1 rfl) ?_
  have fin : W p l e room_1 s m args below meth c H locs (cells + 1) (slots + 6) Q (F0 m 1475 ls []) := lv_goto (tgt := 1859) hx hb dL_law_1475 (by decide) (next _ _ _ _ _ _ ⟨hG, hS, lv_sub hl [2, 3, 4, 5, 6] rfl, inv⟩)
  refine lv_if_ne (tgt := 1475) hx hb dL_law_1460 (by decide) (fun _ => fin) (fun q => ?_)
  refine lv_aload_n hx hb dL_law_1463 rfl (lv_at hl 5 rfl) ?_
  refine lv_iconst (v := 0) hx hb dL_law_1464 (by decide) ?_
  refine g_lald hx hb hK hG hcs dL_law_1465 ?_
  refine lv_iload hx hb dL_law_1466 (lv_at hl 0 rfl) ?_
  refine lv_i2l hx hb dL_law_1468 rfl ?_
  refine W.lcmp hx hb dL_law_1469 ?_
  exact gl_eq (tgt := 1475) hx hb dL_law_1470 (by decide) (fun _ => fin) (fun q9 => absurd (heq q) q9)
set_option maxHeartbeats 4000000 in
set_option maxRecDepth 100000 in
theorem lc_complainsIn {p : Program} {l : Launch} {e : Env} {s : State} {m : MethodId} {args : Array Value} {below : List Frame} {meth : Method} {c : Code} {cells slots : Nat} {Q : State → Prop} {Γ : gX} {b L : Nat} {xs : Nat → Int32} (hst : l.stackTraces = false) (C : LCx p s m args c Γ b L xs) {i : Int32} (h1 : vp_in (i + 1) L) (h2 : vp_in (i + 2) L) (h3 : vp_in (i + 3) L) {u : Nat} (hu : 1998 * (u + 5000) < 2 ^ 31) (hc : cells + 1 ≤ 601024 ∧ slots + 6 ≤ 7293033) {H : Heap} {locs : List Loc} {ls : Array Slot} {R : Nat → Nat → Option Nat} {O : Int64} {Z : Nat → Nat → Int32} (S : LSt s Γ b i u H locs ls R O Z) (next : ∀ (H : Heap) (locs : List Loc) (ls : Array Slot) (R : Nat → Nat → Option Nat) (O : Int64) (Z : Nat → Nat → Int32), LSt s Γ b i (u + 850) H locs ls R O Z → W p l e room_1 s m args below meth c H locs (cells + 1) (slots + 6) Q (F0 m 1859 ls [])) : W p l e room_1 s m args below meth c H locs cells slots Q (F0 m 1478 ls []) := by
  obtain ⟨hx, hb, hml, hown, hts, hXs, hbl, hbA, hK, hZ, hX, hY, hcs, hall⟩ := C
  obtain ⟨hG, hS, hl, hI⟩ := S
  have hF : CallFix p m c cL_law 7 s args wsL_law RL := ⟨hx, hb, hml, hown, hts⟩
  have h483 := hI.g483
  have h475 := hI.g475
  obtain ⟨kk, bb, Z1, Z2, R1, O1, fr, lo, hfr, hlo, wrp, ref, hz, heq, inv⟩ := st_complainsIn (l := l) (O := O) hst hcs hall hI hu (xs (i + 1).toNatClampNeg)
  have thr := inv.thr (l := l) (O := O1)
  rw [hz] at thr
  refine lv_aload_n hx hb dL_law_1478 rfl (lv_at hl 1 rfl) ?_
  refine lv_aload_n hx hb dL_law_1479 rfl (lv_at hl 0 rfl) ?_
  refine lv_iload hx hb dL_law_1480 (lv_at hl 4 rfl) ?_
  refine lv_iconst (v := 1) hx hb dL_law_1482 (by decide) ?_
  refine lv_iadd hx hb dL_law_1483 ?_
  refine va_sld hx hb hXs hbl hbA hS h1 dL_law_1484 ?_
  refine lv_aload_n hx hb dL_law_1485 rfl (lv_at hl 3 rfl) ?_
  refine g_callW (As := [.ref (gad Γ 475), .int (xs (i + 1).toNatClampNeg), .ref (gad Γ 491)]) (rest := []) (st1 := [.int kk]) hF wrp (vx_cwSW 3 hts gL_law_L_complainsIn rfl rfl rfl (by decide +kernel) ⟨Nat.le_of_ble_eq_true rfl, Nat.le_of_ble_eq_true rfl⟩) hK hZ hX hY hG hS rfl hl.1 (Nat.le_of_ble_eq_true rfl) dL_law_1486 hc rfl rfl (fun H locs hG hS => ?_)
  refine lv_istore (lv' := [(5, .int kk), (0, .ref b), (1, .ref (gad Γ 475)), (2, .ref (gad Γ 483)), (3, .ref (gad Γ 491)), (4, .int i)]) hx hb dL_law_1489 hl (by decide) rfl (fun ls hl => ?_)
  refine lv_aload_n hx hb dL_law_1491 rfl (lv_at hl 3 rfl) ?_
  refine lv_aload_n hx hb dL_law_1492 rfl (lv_at hl 1 rfl) ?_
  refine lv_iload hx hb dL_law_1493 (lv_at hl 5 rfl) ?_
  refine lv_iconst (v := 1) hx hb dL_law_1495 (by decide) ?_
  refine lv_iadd hx hb dL_law_1496 ?_
  refine va_sld hx hb hXs hbl hbA hS h1 dL_law_1497 ?_
  refine g_callV (As := [.int (xs (i + 1).toNatClampNeg)]) (rest := []) (st1 := [.int bb]) hF ref (cwV 1 hts gL_law_X7_complainsIn rfl rfl rfl (by decide +kernel) ⟨(by show fr + 1 ≤ 12; omega), (by show 8 + (_ + 11) + lo ≤ 426; omega)⟩) hK hZ hG hS h483 (show gC 483 = (7, 24, 0) from rfl) (by decide) rfl rfl hl.1 (Nat.le_of_ble_eq_true rfl) dL_law_1498 hc rfl rfl (fun H locs hG hS => ?_)
  refine lv_istore (lv' := [(6, .int bb), (5, .int kk), (0, .ref b), (1, .ref (gad Γ 475)), (2, .ref (gad Γ 483)), (3, .ref (gad Γ 491)), (4, .int i)]) hx hb dL_law_1501 hl (by decide) rfl (fun ls hl => ?_)
  refine lv_aload_n hx hb dL_law_1503 rfl (lv_at hl 4 rfl) ?_
  refine g_callV (As := []) (rest := []) (st1 := [.int kk]) hF thr (cwV 0 hts gL_law_X7_thrown rfl rfl rfl (by decide +kernel) ⟨Nat.le_of_ble_eq_true rfl, Nat.le_of_ble_eq_true rfl⟩) hK hZ hG hS h483 (show gC 483 = (7, 24, 0) from rfl) (by decide) rfl rfl hl.1 (Nat.le_of_ble_eq_true rfl) dL_law_1504 hc rfl rfl (fun H locs hG hS => ?_)
  refine lv_iload hx hb dL_law_1507 (lv_at hl 1 rfl) ?_
  refine lv_icmp_eq (tgt := 1514) hx hb dL_law_1509 (by decide) (fun _ => ?_) (fun q => absurd rfl q)
  refine lv_iload hx hb dL_law_1514 (lv_at hl 1 rfl) ?_
  have fin : W p l e room_1 s m args below meth c H locs (cells + 1) (slots + 6) Q (F0 m 1531 ls []) := lv_goto (tgt := 1859) hx hb dL_law_1531 (by decide) (next _ _ _ _ _ _ ⟨hG, hS, lv_sub hl [2, 3, 4, 5, 6] rfl, inv⟩)
  refine lv_if_ne (tgt := 1531) hx hb dL_law_1516 (by decide) (fun _ => fin) (fun q => ?_)
  refine lv_aload_n hx hb dL_law_1519 rfl (lv_at hl 5 rfl) ?_
  refine lv_iconst (v := 0) hx hb dL_law_1520 (by decide) ?_
  refine g_lald hx hb hK hG hcs dL_law_1521 ?_
  refine lv_iload hx hb dL_law_1522 (lv_at hl 0 rfl) ?_
  refine lv_i2l hx hb dL_law_1524 rfl ?_
  refine W.lcmp hx hb dL_law_1525 ?_
  exact gl_eq (tgt := 1531) hx hb dL_law_1526 (by decide) (fun _ => fin) (fun q9 => absurd (heq q) q9)
set_option maxHeartbeats 4000000 in
set_option maxRecDepth 100000 in
theorem lc_dustiest {p : Program} {l : Launch} {e : Env} {s : State} {m : MethodId} {args : Array Value} {below : List Frame} {meth : Method} {c : Code} {cells slots : Nat} {Q : State → Prop} {Γ : gX} {b L : Nat} {xs : Nat → Int32} (hst : l.stackTraces = false) (C : LCx p s m args c Γ b L xs) {i : Int32} (h1 : vp_in (i + 1) L) (h2 : vp_in (i + 2) L) (h3 : vp_in (i + 3) L) {u : Nat} (hu : 1998 * (u + 5000) < 2 ^ 31) (hc : cells + 1 ≤ 601024 ∧ slots + 6 ≤ 7293033) {H : Heap} {locs : List Loc} {ls : Array Slot} {R : Nat → Nat → Option Nat} {O : Int64} {Z : Nat → Nat → Int32} (S : LSt s Γ b i u H locs ls R O Z) (next : ∀ (H : Heap) (locs : List Loc) (ls : Array Slot) (R : Nat → Nat → Option Nat) (O : Int64) (Z : Nat → Nat → Int32), LSt s Γ b i (u + 850) H locs ls R O Z → W p l e room_1 s m args below meth c H locs (cells + 1) (slots + 6) Q (F0 m 1859 ls [])) : W p l e room_1 s m args below meth c H locs cells slots Q (F0 m 1534 ls []) := by
  obtain ⟨hx, hb, hml, hown, hts, hXs, hbl, hbA, hK, hZ, hX, hY, hcs, hall⟩ := C
  obtain ⟨hG, hS, hl, hI⟩ := S
  have hF : CallFix p m c cL_law 7 s args wsL_law RL := ⟨hx, hb, hml, hown, hts⟩
  have h483 := hI.g483
  have h475 := hI.g475
  obtain ⟨bb, Z1, Z2, fr, lo, fr2, lo2, ⟨hfr, hlo⟩, ⟨hfr2, hlo2⟩, cls, ref, inv⟩ := st_dustiest (l := l) (O := O) hI hu
  refine lv_aload_n hx hb dL_law_1534 rfl (lv_at hl 1 rfl) ?_
  refine g_callV (As := []) (rest := []) (st1 := [.int bb]) hF cls (cwV 0 hts gL_law_X6_dustiest rfl rfl rfl (by decide +kernel) ⟨(by show fr + 1 ≤ 12; omega), (by show 8 + (_ + 11) + lo ≤ 426; omega)⟩) hK hZ hG hS h475 (show gC 475 = (6, 32, 0) from rfl) (by decide) rfl rfl hl.1 (Nat.le_of_ble_eq_true rfl) dL_law_1535 ⟨by show cells ≤ 601024; omega, by show slots ≤ 7293033; omega⟩ rfl rfl (fun H locs hG hS => ?_)
  refine lv_aload_n hx hb dL_law_1538 rfl (lv_at hl 2 rfl) ?_
  refine g_callV (As := []) (rest := [.int bb]) (st1 := [.int bb, .int bb]) hF ref (cwV 0 hts gL_law_X7_dustiest rfl rfl rfl (by decide +kernel) ⟨(by show fr2 + 1 ≤ 12; omega), (by show 8 + (_ + 11) + lo2 ≤ 426; omega)⟩) hK hZ hG hS h483 (show gC 483 = (7, 24, 0) from rfl) (by decide) rfl rfl hl.1 (Nat.le_of_ble_eq_true rfl) dL_law_1539 ⟨by show cells ≤ 601024; omega, by show slots ≤ 7293033; omega⟩ rfl rfl (fun H locs hG hS => ?_)
  refine lv_icmp_eq (tgt := 1859) hx hb dL_law_1542 (by decide) (fun _ => ?_) (fun q => absurd rfl q)
  refine W.widen (k := cells + 1) (n := slots + 6) (by omega) (by omega) ?_
  exact next _ _ _ _ _ _ ⟨hG, hS, hl, inv⟩
