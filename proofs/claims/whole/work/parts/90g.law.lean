/-! THE LAW: its cases. Laid by gen/p31.py. -/
set_option maxHeartbeats 4000000 in
set_option maxRecDepth 100000 in
theorem lc_runScript {p : Program} {l : Launch} {e : Env} {s : State} {m : MethodId} {args : Array Value} {below : List Frame} {meth : Method} {c : Code} {cells slots : Nat} {Q : State → Prop} {Γ : gX} {b L : Nat} {xs : Nat → Int32} (hst : l.stackTraces = false) (C : LCx p s m args c Γ b L xs) {i : Int32} (h1 : vp_in (i + 1) L) (h2 : vp_in (i + 2) L) (h3 : vp_in (i + 3) L) {u : Nat} (hu : 1998 * (u + 5000) < 2 ^ 31) (hc : cells + 1 ≤ 601024 ∧ slots + 6 ≤ 7293033) {H : Heap} {locs : List Loc} {ls : Array Slot} {R : Nat → Nat → Option Nat} {O : Int64} {Z : Nat → Nat → Int32} (S : LSt s Γ b i u H locs ls R O Z) (next : ∀ (H : Heap) (locs : List Loc) (ls : Array Slot) (R : Nat → Nat → Option Nat) (O : Int64) (Z : Nat → Nat → Int32), LSt s Γ b i (u + 850) H locs ls R O Z → W p l e room_1 s m args below meth c H locs (cells + 1) (slots + 6) Q (F0 m 1859 ls [])) : W p l e room_1 s m args below meth c H locs cells slots Q (F0 m 1547 ls []) := by
  obtain ⟨hx, hb, hml, hown, hts, hXs, hbl, hbA, hK, hZ, hX, hY, hcs, hall⟩ := C
  obtain ⟨hG, hS, hl, hI⟩ := S
  have hF : CallFix p m c cL_law 7 s args wsL_law RL := ⟨hx, hb, hml, hown, hts⟩
  have h483 := hI.g483
  have h475 := hI.g475
  obtain ⟨kk, bb, Z1, Z2, R1, O1, fr, lo, hfr, hlo, wrp, ref, hz, heq, inv⟩ := st_runScript (l := l) (O := O) hst hcs hall hI hu (xs (i + 1).toNatClampNeg) (((xs (i + 2).toNatClampNeg).toInt64 <<< ((32 : Int32).toInt64 &&& 63)) ||| ((xs (i + 3).toNatClampNeg).toInt64 &&& 4294967295))
  have thr := inv.thr (l := l) (O := O1)
  rw [hz] at thr
  refine lv_aload_n hx hb dL_law_1547 rfl (lv_at hl 1 rfl) ?_
  refine lv_aload_n hx hb dL_law_1548 rfl (lv_at hl 0 rfl) ?_
  refine lv_iload hx hb dL_law_1549 (lv_at hl 4 rfl) ?_
  refine lv_iconst (v := 1) hx hb dL_law_1551 (by decide) ?_
  refine lv_iadd hx hb dL_law_1552 ?_
  refine va_sld hx hb hXs hbl hbA hS h1 dL_law_1553 ?_
  refine lv_aload_n hx hb dL_law_1554 rfl (lv_at hl 0 rfl) ?_
  refine lv_iload hx hb dL_law_1555 (lv_at hl 4 rfl) ?_
  refine lv_iconst (v := 2) hx hb dL_law_1557 (by decide) ?_
  refine lv_iadd hx hb dL_law_1558 ?_
  refine va_sld hx hb hXs hbl hbA hS h2 dL_law_1559 ?_
  refine lv_i2l hx hb dL_law_1560 rfl ?_
  refine lv_bipush (v := 32) hx hb dL_law_1561 (by decide) ?_
  refine lv_lshl hx hb dL_law_1563 rfl ?_
  refine lv_aload_n hx hb dL_law_1564 rfl (lv_at hl 0 rfl) ?_
  refine lv_iload hx hb dL_law_1565 (lv_at hl 4 rfl) ?_
  refine lv_iconst (v := 3) hx hb dL_law_1567 (by decide) ?_
  refine lv_iadd hx hb dL_law_1568 ?_
  refine va_sld hx hb hXs hbl hbA hS h3 dL_law_1569 ?_
  refine lv_i2l hx hb dL_law_1570 rfl ?_
  refine lv_ldc2 (v := 4294967295) hx hb hown (hts (.constantLong RL 188 4294967295) (by decide +kernel)) dL_law_1571 ?_
  refine lv_land hx hb dL_law_1574 ?_
  refine lv_lor hx hb dL_law_1575 ?_
  refine lv_aload_n hx hb dL_law_1576 rfl (lv_at hl 3 rfl) ?_
  refine g_callW (As := [.ref (gad Γ 475), .int (xs (i + 1).toNatClampNeg), .long (((xs (i + 2).toNatClampNeg).toInt64 <<< ((32 : Int32).toInt64 &&& 63)) ||| ((xs (i + 3).toNatClampNeg).toInt64 &&& 4294967295)), .ref (gad Γ 491)]) (rest := []) (st1 := [.int kk]) hF wrp (vx_cwSW 4 hts gL_law_L_runScript rfl rfl rfl (by decide +kernel) ⟨Nat.le_of_ble_eq_true rfl, Nat.le_of_ble_eq_true rfl⟩) hK hZ hX hY hG hS rfl hl.1 (Nat.le_of_ble_eq_true rfl) dL_law_1577 hc rfl rfl (fun H locs hG hS => ?_)
  refine lv_istore (lv' := [(5, .int kk), (0, .ref b), (1, .ref (gad Γ 475)), (2, .ref (gad Γ 483)), (3, .ref (gad Γ 491)), (4, .int i)]) hx hb dL_law_1580 hl (by decide) rfl (fun ls hl => ?_)
  refine lv_aload_n hx hb dL_law_1582 rfl (lv_at hl 3 rfl) ?_
  refine lv_aload_n hx hb dL_law_1583 rfl (lv_at hl 1 rfl) ?_
  refine lv_iload hx hb dL_law_1584 (lv_at hl 5 rfl) ?_
  refine lv_iconst (v := 1) hx hb dL_law_1586 (by decide) ?_
  refine lv_iadd hx hb dL_law_1587 ?_
  refine va_sld hx hb hXs hbl hbA hS h1 dL_law_1588 ?_
  refine lv_aload_n hx hb dL_law_1589 rfl (lv_at hl 1 rfl) ?_
  refine lv_iload hx hb dL_law_1590 (lv_at hl 5 rfl) ?_
  refine lv_iconst (v := 2) hx hb dL_law_1592 (by decide) ?_
  refine lv_iadd hx hb dL_law_1593 ?_
  refine va_sld hx hb hXs hbl hbA hS h2 dL_law_1594 ?_
  refine lv_i2l hx hb dL_law_1595 rfl ?_
  refine lv_bipush (v := 32) hx hb dL_law_1596 (by decide) ?_
  refine lv_lshl hx hb dL_law_1598 rfl ?_
  refine lv_aload_n hx hb dL_law_1599 rfl (lv_at hl 1 rfl) ?_
  refine lv_iload hx hb dL_law_1600 (lv_at hl 5 rfl) ?_
  refine lv_iconst (v := 3) hx hb dL_law_1602 (by decide) ?_
  refine lv_iadd hx hb dL_law_1603 ?_
  refine va_sld hx hb hXs hbl hbA hS h3 dL_law_1604 ?_
  refine lv_i2l hx hb dL_law_1605 rfl ?_
  refine lv_ldc2 (v := 4294967295) hx hb hown (hts (.constantLong RL 188 4294967295) (by decide +kernel)) dL_law_1606 ?_
  refine lv_land hx hb dL_law_1609 ?_
  refine lv_lor hx hb dL_law_1610 ?_
  refine g_callV (As := [.int (xs (i + 1).toNatClampNeg), .long (((xs (i + 2).toNatClampNeg).toInt64 <<< ((32 : Int32).toInt64 &&& 63)) ||| ((xs (i + 3).toNatClampNeg).toInt64 &&& 4294967295))]) (rest := []) (st1 := [.int bb]) hF ref (cwV 2 hts gL_law_X7_runScript rfl rfl rfl (by decide +kernel) ⟨(by show fr + 1 ≤ 12; omega), (by show 8 + (_ + 11) + lo ≤ 426; omega)⟩) hK hZ hG hS h483 (show gC 483 = (7, 24, 0) from rfl) (by decide) rfl rfl hl.1 (Nat.le_of_ble_eq_true rfl) dL_law_1611 hc rfl rfl (fun H locs hG hS => ?_)
  refine lv_istore (lv' := [(6, .int bb), (5, .int kk), (0, .ref b), (1, .ref (gad Γ 475)), (2, .ref (gad Γ 483)), (3, .ref (gad Γ 491)), (4, .int i)]) hx hb dL_law_1614 hl (by decide) rfl (fun ls hl => ?_)
  refine lv_aload_n hx hb dL_law_1616 rfl (lv_at hl 4 rfl) ?_
  refine g_callV (As := []) (rest := []) (st1 := [.int kk]) hF thr (cwV 0 hts gL_law_X7_thrown rfl rfl rfl (by decide +kernel) ⟨Nat.le_of_ble_eq_true rfl, Nat.le_of_ble_eq_true rfl⟩) hK hZ hG hS h483 (show gC 483 = (7, 24, 0) from rfl) (by decide) rfl rfl hl.1 (Nat.le_of_ble_eq_true rfl) dL_law_1617 hc rfl rfl (fun H locs hG hS => ?_)
  refine lv_iload hx hb dL_law_1620 (lv_at hl 1 rfl) ?_
  refine lv_icmp_eq (tgt := 1627) hx hb dL_law_1622 (by decide) (fun _ => ?_) (fun q => absurd rfl q)
  refine lv_iload hx hb dL_law_1627 (lv_at hl 1 rfl) ?_
  have fin : W p l e room_1 s m args below meth c H locs (cells + 1) (slots + 6) Q (F0 m 1644 ls []) := lv_goto (tgt := 1859) hx hb dL_law_1644 (by decide) (next _ _ _ _ _ _ ⟨hG, hS, lv_sub hl [2, 3, 4, 5, 6] rfl, inv⟩)
  refine lv_if_ne (tgt := 1644) hx hb dL_law_1629 (by decide) (fun _ => fin) (fun q => ?_)
  refine lv_aload_n hx hb dL_law_1632 rfl (lv_at hl 5 rfl) ?_
  refine lv_iconst (v := 0) hx hb dL_law_1633 (by decide) ?_
  refine g_lald hx hb hK hG hcs dL_law_1634 ?_
  refine lv_iload hx hb dL_law_1635 (lv_at hl 0 rfl) ?_
  refine lv_i2l hx hb dL_law_1637 rfl ?_
  refine W.lcmp hx hb dL_law_1638 ?_
  exact gl_eq (tgt := 1644) hx hb dL_law_1639 (by decide) (fun _ => fin) (fun q9 => absurd (heq q) q9)
set_option maxHeartbeats 4000000 in
set_option maxRecDepth 100000 in
theorem lc_simulate {p : Program} {l : Launch} {e : Env} {s : State} {m : MethodId} {args : Array Value} {below : List Frame} {meth : Method} {c : Code} {cells slots : Nat} {Q : State → Prop} {Γ : gX} {b L : Nat} {xs : Nat → Int32} (hst : l.stackTraces = false) (C : LCx p s m args c Γ b L xs) {i : Int32} (h1 : vp_in (i + 1) L) (h2 : vp_in (i + 2) L) (h3 : vp_in (i + 3) L) {u : Nat} (hu : 1998 * (u + 5000) < 2 ^ 31) (hc : cells + 1 ≤ 601024 ∧ slots + 6 ≤ 7293033) {H : Heap} {locs : List Loc} {ls : Array Slot} {R : Nat → Nat → Option Nat} {O : Int64} {Z : Nat → Nat → Int32} (S : LSt s Γ b i u H locs ls R O Z) (next : ∀ (H : Heap) (locs : List Loc) (ls : Array Slot) (R : Nat → Nat → Option Nat) (O : Int64) (Z : Nat → Nat → Int32), LSt s Γ b i (u + 850) H locs ls R O Z → W p l e room_1 s m args below meth c H locs (cells + 1) (slots + 6) Q (F0 m 1859 ls [])) : W p l e room_1 s m args below meth c H locs cells slots Q (F0 m 1647 ls []) := by
  obtain ⟨hx, hb, hml, hown, hts, hXs, hbl, hbA, hK, hZ, hX, hY, hcs, hall⟩ := C
  obtain ⟨hG, hS, hl, hI⟩ := S
  have hF : CallFix p m c cL_law 7 s args wsL_law RL := ⟨hx, hb, hml, hown, hts⟩
  have h483 := hI.g483
  have h475 := hI.g475
  obtain ⟨kk, bb, Z1, Z2, R1, O1, fr, lo, hfr, hlo, wrp, ref, hz, heq, inv⟩ := st_simulate (l := l) (O := O) hst hcs hall hI hu (((xs (i + 1).toNatClampNeg).toInt64 <<< ((32 : Int32).toInt64 &&& 63)) ||| ((xs (i + 2).toNatClampNeg).toInt64 &&& 4294967295)) (xs (i + 3).toNatClampNeg)
  have thr := inv.thr (l := l) (O := O1)
  rw [hz] at thr
  refine lv_aload_n hx hb dL_law_1647 rfl (lv_at hl 1 rfl) ?_
  refine lv_aload_n hx hb dL_law_1648 rfl (lv_at hl 0 rfl) ?_
  refine lv_iload hx hb dL_law_1649 (lv_at hl 4 rfl) ?_
  refine lv_iconst (v := 1) hx hb dL_law_1651 (by decide) ?_
  refine lv_iadd hx hb dL_law_1652 ?_
  refine va_sld hx hb hXs hbl hbA hS h1 dL_law_1653 ?_
  refine lv_i2l hx hb dL_law_1654 rfl ?_
  refine lv_bipush (v := 32) hx hb dL_law_1655 (by decide) ?_
  refine lv_lshl hx hb dL_law_1657 rfl ?_
  refine lv_aload_n hx hb dL_law_1658 rfl (lv_at hl 0 rfl) ?_
  refine lv_iload hx hb dL_law_1659 (lv_at hl 4 rfl) ?_
  refine lv_iconst (v := 2) hx hb dL_law_1661 (by decide) ?_
  refine lv_iadd hx hb dL_law_1662 ?_
  refine va_sld hx hb hXs hbl hbA hS h2 dL_law_1663 ?_
  refine lv_i2l hx hb dL_law_1664 rfl ?_
  refine lv_ldc2 (v := 4294967295) hx hb hown (hts (.constantLong RL 188 4294967295) (by decide +kernel)) dL_law_1665 ?_
  refine lv_land hx hb dL_law_1668 ?_
  refine lv_lor hx hb dL_law_1669 ?_
  refine lv_aload_n hx hb dL_law_1670 rfl (lv_at hl 0 rfl) ?_
  refine lv_iload hx hb dL_law_1671 (lv_at hl 4 rfl) ?_
  refine lv_iconst (v := 3) hx hb dL_law_1673 (by decide) ?_
  refine lv_iadd hx hb dL_law_1674 ?_
  refine va_sld hx hb hXs hbl hbA hS h3 dL_law_1675 ?_
  refine lv_aload_n hx hb dL_law_1676 rfl (lv_at hl 3 rfl) ?_
  refine g_callW (As := [.ref (gad Γ 475), .long (((xs (i + 1).toNatClampNeg).toInt64 <<< ((32 : Int32).toInt64 &&& 63)) ||| ((xs (i + 2).toNatClampNeg).toInt64 &&& 4294967295)), .int (xs (i + 3).toNatClampNeg), .ref (gad Γ 491)]) (rest := []) (st1 := [.int kk]) hF wrp (vx_cwSW 4 hts gL_law_L_simulate rfl rfl rfl (by decide +kernel) ⟨Nat.le_of_ble_eq_true rfl, Nat.le_of_ble_eq_true rfl⟩) hK hZ hX hY hG hS rfl hl.1 (Nat.le_of_ble_eq_true rfl) dL_law_1677 hc rfl rfl (fun H locs hG hS => ?_)
  refine lv_istore (lv' := [(5, .int kk), (0, .ref b), (1, .ref (gad Γ 475)), (2, .ref (gad Γ 483)), (3, .ref (gad Γ 491)), (4, .int i)]) hx hb dL_law_1680 hl (by decide) rfl (fun ls hl => ?_)
  refine lv_aload_n hx hb dL_law_1682 rfl (lv_at hl 3 rfl) ?_
  refine lv_aload_n hx hb dL_law_1683 rfl (lv_at hl 1 rfl) ?_
  refine lv_iload hx hb dL_law_1684 (lv_at hl 5 rfl) ?_
  refine lv_iconst (v := 1) hx hb dL_law_1686 (by decide) ?_
  refine lv_iadd hx hb dL_law_1687 ?_
  refine va_sld hx hb hXs hbl hbA hS h1 dL_law_1688 ?_
  refine lv_i2l hx hb dL_law_1689 rfl ?_
  refine lv_bipush (v := 32) hx hb dL_law_1690 (by decide) ?_
  refine lv_lshl hx hb dL_law_1692 rfl ?_
  refine lv_aload_n hx hb dL_law_1693 rfl (lv_at hl 1 rfl) ?_
  refine lv_iload hx hb dL_law_1694 (lv_at hl 5 rfl) ?_
  refine lv_iconst (v := 2) hx hb dL_law_1696 (by decide) ?_
  refine lv_iadd hx hb dL_law_1697 ?_
  refine va_sld hx hb hXs hbl hbA hS h2 dL_law_1698 ?_
  refine lv_i2l hx hb dL_law_1699 rfl ?_
  refine lv_ldc2 (v := 4294967295) hx hb hown (hts (.constantLong RL 188 4294967295) (by decide +kernel)) dL_law_1700 ?_
  refine lv_land hx hb dL_law_1703 ?_
  refine lv_lor hx hb dL_law_1704 ?_
  refine lv_aload_n hx hb dL_law_1705 rfl (lv_at hl 1 rfl) ?_
  refine lv_iload hx hb dL_law_1706 (lv_at hl 5 rfl) ?_
  refine lv_iconst (v := 3) hx hb dL_law_1708 (by decide) ?_
  refine lv_iadd hx hb dL_law_1709 ?_
  refine va_sld hx hb hXs hbl hbA hS h3 dL_law_1710 ?_
  refine g_callV (As := [.long (((xs (i + 1).toNatClampNeg).toInt64 <<< ((32 : Int32).toInt64 &&& 63)) ||| ((xs (i + 2).toNatClampNeg).toInt64 &&& 4294967295)), .int (xs (i + 3).toNatClampNeg)]) (rest := []) (st1 := [.int bb]) hF ref (cwV 2 hts gL_law_X7_simulate rfl rfl rfl (by decide +kernel) ⟨(by show fr + 1 ≤ 12; omega), (by show 8 + (_ + 11) + lo ≤ 426; omega)⟩) hK hZ hG hS h483 (show gC 483 = (7, 24, 0) from rfl) (by decide) rfl rfl hl.1 (Nat.le_of_ble_eq_true rfl) dL_law_1711 hc rfl rfl (fun H locs hG hS => ?_)
  refine lv_istore (lv' := [(6, .int bb), (5, .int kk), (0, .ref b), (1, .ref (gad Γ 475)), (2, .ref (gad Γ 483)), (3, .ref (gad Γ 491)), (4, .int i)]) hx hb dL_law_1714 hl (by decide) rfl (fun ls hl => ?_)
  refine lv_aload_n hx hb dL_law_1716 rfl (lv_at hl 4 rfl) ?_
  refine g_callV (As := []) (rest := []) (st1 := [.int kk]) hF thr (cwV 0 hts gL_law_X7_thrown rfl rfl rfl (by decide +kernel) ⟨Nat.le_of_ble_eq_true rfl, Nat.le_of_ble_eq_true rfl⟩) hK hZ hG hS h483 (show gC 483 = (7, 24, 0) from rfl) (by decide) rfl rfl hl.1 (Nat.le_of_ble_eq_true rfl) dL_law_1717 hc rfl rfl (fun H locs hG hS => ?_)
  refine lv_iload hx hb dL_law_1720 (lv_at hl 1 rfl) ?_
  refine lv_icmp_eq (tgt := 1727) hx hb dL_law_1722 (by decide) (fun _ => ?_) (fun q => absurd rfl q)
  refine lv_iload hx hb dL_law_1727 (lv_at hl 1 rfl) ?_
  have fin : W p l e room_1 s m args below meth c H locs (cells + 1) (slots + 6) Q (F0 m 1744 ls []) := lv_goto (tgt := 1859) hx hb dL_law_1744 (by decide) (next _ _ _ _ _ _ ⟨hG, hS, lv_sub hl [2, 3, 4, 5, 6] rfl, inv⟩)
  refine lv_if_ne (tgt := 1744) hx hb dL_law_1729 (by decide) (fun _ => fin) (fun q => ?_)
  refine lv_aload_n hx hb dL_law_1732 rfl (lv_at hl 5 rfl) ?_
  refine lv_iconst (v := 0) hx hb dL_law_1733 (by decide) ?_
  refine g_lald hx hb hK hG hcs dL_law_1734 ?_
  refine lv_iload hx hb dL_law_1735 (lv_at hl 0 rfl) ?_
  refine lv_i2l hx hb dL_law_1737 rfl ?_
  refine W.lcmp hx hb dL_law_1738 ?_
  exact gl_eq (tgt := 1744) hx hb dL_law_1739 (by decide) (fun _ => fin) (fun q9 => absurd (heq q) q9)
set_option maxHeartbeats 4000000 in
set_option maxRecDepth 100000 in
theorem lc_save {p : Program} {l : Launch} {e : Env} {s : State} {m : MethodId} {args : Array Value} {below : List Frame} {meth : Method} {c : Code} {cells slots : Nat} {Q : State → Prop} {Γ : gX} {b L : Nat} {xs : Nat → Int32} (hst : l.stackTraces = false) (C : LCx p s m args c Γ b L xs) {i : Int32} (h1 : vp_in (i + 1) L) (h2 : vp_in (i + 2) L) (h3 : vp_in (i + 3) L) {u : Nat} (hu : 1998 * (u + 5000) < 2 ^ 31) (hc : cells + 1 ≤ 601024 ∧ slots + 6 ≤ 7293033) {H : Heap} {locs : List Loc} {ls : Array Slot} {R : Nat → Nat → Option Nat} {O : Int64} {Z : Nat → Nat → Int32} (S : LSt s Γ b i u H locs ls R O Z) (next : ∀ (H : Heap) (locs : List Loc) (ls : Array Slot) (R : Nat → Nat → Option Nat) (O : Int64) (Z : Nat → Nat → Int32), LSt s Γ b i (u + 850) H locs ls R O Z → W p l e room_1 s m args below meth c H locs (cells + 1) (slots + 6) Q (F0 m 1859 ls [])) : W p l e room_1 s m args below meth c H locs cells slots Q (F0 m 1747 ls []) := by
  obtain ⟨hx, hb, hml, hown, hts, hXs, hbl, hbA, hK, hZ, hX, hY, hcs, hall⟩ := C
  obtain ⟨hG, hS, hl, hI⟩ := S
  have hF : CallFix p m c cL_law 7 s args wsL_law RL := ⟨hx, hb, hml, hown, hts⟩
  have h483 := hI.g483
  have h475 := hI.g475
  obtain ⟨kk, bb, Z1, Z2, R1, O1, fr, lo, hfr, hlo, wrp, ref, hz, heq, inv⟩ := st_save (l := l) (O := O) hst hcs hall hI hu (xs (i + 1).toNatClampNeg)
  have thr := inv.thr (l := l) (O := O1)
  rw [hz] at thr
  refine lv_aload_n hx hb dL_law_1747 rfl (lv_at hl 1 rfl) ?_
  refine lv_aload_n hx hb dL_law_1748 rfl (lv_at hl 0 rfl) ?_
  refine lv_iload hx hb dL_law_1749 (lv_at hl 4 rfl) ?_
  refine lv_iconst (v := 1) hx hb dL_law_1751 (by decide) ?_
  refine lv_iadd hx hb dL_law_1752 ?_
  refine va_sld hx hb hXs hbl hbA hS h1 dL_law_1753 ?_
  refine lv_aload_n hx hb dL_law_1754 rfl (lv_at hl 3 rfl) ?_
  refine g_callW (As := [.ref (gad Γ 475), .int (xs (i + 1).toNatClampNeg), .ref (gad Γ 491)]) (rest := []) (st1 := [.int kk]) hF wrp (vx_cwSW 3 hts gL_law_L_save rfl rfl rfl (by decide +kernel) ⟨Nat.le_of_ble_eq_true rfl, Nat.le_of_ble_eq_true rfl⟩) hK hZ hX hY hG hS rfl hl.1 (Nat.le_of_ble_eq_true rfl) dL_law_1755 hc rfl rfl (fun H locs hG hS => ?_)
  refine lv_istore (lv' := [(5, .int kk), (0, .ref b), (1, .ref (gad Γ 475)), (2, .ref (gad Γ 483)), (3, .ref (gad Γ 491)), (4, .int i)]) hx hb dL_law_1758 hl (by decide) rfl (fun ls hl => ?_)
  refine lv_aload_n hx hb dL_law_1760 rfl (lv_at hl 3 rfl) ?_
  refine lv_aload_n hx hb dL_law_1761 rfl (lv_at hl 1 rfl) ?_
  refine lv_iload hx hb dL_law_1762 (lv_at hl 5 rfl) ?_
  refine lv_iconst (v := 1) hx hb dL_law_1764 (by decide) ?_
  refine lv_iadd hx hb dL_law_1765 ?_
  refine va_sld hx hb hXs hbl hbA hS h1 dL_law_1766 ?_
  refine g_callV (As := [.int (xs (i + 1).toNatClampNeg)]) (rest := []) (st1 := [.int bb]) hF ref (cwV 1 hts gL_law_X7_save rfl rfl rfl (by decide +kernel) ⟨(by show fr + 1 ≤ 12; omega), (by show 8 + (_ + 11) + lo ≤ 426; omega)⟩) hK hZ hG hS h483 (show gC 483 = (7, 24, 0) from rfl) (by decide) rfl rfl hl.1 (Nat.le_of_ble_eq_true rfl) dL_law_1767 hc rfl rfl (fun H locs hG hS => ?_)
  refine lv_istore (lv' := [(6, .int bb), (5, .int kk), (0, .ref b), (1, .ref (gad Γ 475)), (2, .ref (gad Γ 483)), (3, .ref (gad Γ 491)), (4, .int i)]) hx hb dL_law_1770 hl (by decide) rfl (fun ls hl => ?_)
  refine lv_aload_n hx hb dL_law_1772 rfl (lv_at hl 4 rfl) ?_
  refine g_callV (As := []) (rest := []) (st1 := [.int kk]) hF thr (cwV 0 hts gL_law_X7_thrown rfl rfl rfl (by decide +kernel) ⟨Nat.le_of_ble_eq_true rfl, Nat.le_of_ble_eq_true rfl⟩) hK hZ hG hS h483 (show gC 483 = (7, 24, 0) from rfl) (by decide) rfl rfl hl.1 (Nat.le_of_ble_eq_true rfl) dL_law_1773 hc rfl rfl (fun H locs hG hS => ?_)
  refine lv_iload hx hb dL_law_1776 (lv_at hl 1 rfl) ?_
  refine lv_icmp_eq (tgt := 1783) hx hb dL_law_1778 (by decide) (fun _ => ?_) (fun q => absurd rfl q)
  refine lv_iload hx hb dL_law_1783 (lv_at hl 1 rfl) ?_
  have fin : W p l e room_1 s m args below meth c H locs (cells + 1) (slots + 6) Q (F0 m 1800 ls []) := lv_goto (tgt := 1859) hx hb dL_law_1800 (by decide) (next _ _ _ _ _ _ ⟨hG, hS, lv_sub hl [2, 3, 4, 5, 6] rfl, inv⟩)
  refine lv_if_ne (tgt := 1800) hx hb dL_law_1785 (by decide) (fun _ => fin) (fun q => ?_)
  refine lv_aload_n hx hb dL_law_1788 rfl (lv_at hl 5 rfl) ?_
  refine lv_iconst (v := 0) hx hb dL_law_1789 (by decide) ?_
  refine g_lald hx hb hK hG hcs dL_law_1790 ?_
  refine lv_iload hx hb dL_law_1791 (lv_at hl 0 rfl) ?_
  refine lv_i2l hx hb dL_law_1793 rfl ?_
  refine W.lcmp hx hb dL_law_1794 ?_
  exact gl_eq (tgt := 1800) hx hb dL_law_1795 (by decide) (fun _ => fin) (fun q9 => absurd (heq q) q9)
set_option maxHeartbeats 4000000 in
set_option maxRecDepth 100000 in
theorem lc_restore {p : Program} {l : Launch} {e : Env} {s : State} {m : MethodId} {args : Array Value} {below : List Frame} {meth : Method} {c : Code} {cells slots : Nat} {Q : State → Prop} {Γ : gX} {b L : Nat} {xs : Nat → Int32} (hst : l.stackTraces = false) (C : LCx p s m args c Γ b L xs) {i : Int32} (h1 : vp_in (i + 1) L) (h2 : vp_in (i + 2) L) (h3 : vp_in (i + 3) L) {u : Nat} (hu : 1998 * (u + 5000) < 2 ^ 31) (hc : cells + 1 ≤ 601024 ∧ slots + 6 ≤ 7293033) {H : Heap} {locs : List Loc} {ls : Array Slot} {R : Nat → Nat → Option Nat} {O : Int64} {Z : Nat → Nat → Int32} (S : LSt s Γ b i u H locs ls R O Z) (next : ∀ (H : Heap) (locs : List Loc) (ls : Array Slot) (R : Nat → Nat → Option Nat) (O : Int64) (Z : Nat → Nat → Int32), LSt s Γ b i (u + 850) H locs ls R O Z → W p l e room_1 s m args below meth c H locs (cells + 1) (slots + 6) Q (F0 m 1859 ls [])) : W p l e room_1 s m args below meth c H locs cells slots Q (F0 m 1803 ls []) := by
  obtain ⟨hx, hb, hml, hown, hts, hXs, hbl, hbA, hK, hZ, hX, hY, hcs, hall⟩ := C
  obtain ⟨hG, hS, hl, hI⟩ := S
  have hF : CallFix p m c cL_law 7 s args wsL_law RL := ⟨hx, hb, hml, hown, hts⟩
  have h483 := hI.g483
  have h475 := hI.g475
  obtain ⟨kk, bb, Z1, Z2, R1, O1, fr, lo, hfr, hlo, wrp, ref, hz, heq, inv⟩ := st_restore (l := l) (O := O) hst hcs hall hI hu (xs (i + 1).toNatClampNeg)
  have thr := inv.thr (l := l) (O := O1)
  rw [hz] at thr
  refine lv_aload_n hx hb dL_law_1803 rfl (lv_at hl 1 rfl) ?_
  refine lv_aload_n hx hb dL_law_1804 rfl (lv_at hl 0 rfl) ?_
  refine lv_iload hx hb dL_law_1805 (lv_at hl 4 rfl) ?_
  refine lv_iconst (v := 1) hx hb dL_law_1807 (by decide) ?_
  refine lv_iadd hx hb dL_law_1808 ?_
  refine va_sld hx hb hXs hbl hbA hS h1 dL_law_1809 ?_
  refine lv_aload_n hx hb dL_law_1810 rfl (lv_at hl 3 rfl) ?_
  refine g_callW (As := [.ref (gad Γ 475), .int (xs (i + 1).toNatClampNeg), .ref (gad Γ 491)]) (rest := []) (st1 := [.int kk]) hF wrp (vx_cwSW 3 hts gL_law_L_restore rfl rfl rfl (by decide +kernel) ⟨Nat.le_of_ble_eq_true rfl, Nat.le_of_ble_eq_true rfl⟩) hK hZ hX hY hG hS rfl hl.1 (Nat.le_of_ble_eq_true rfl) dL_law_1811 hc rfl rfl (fun H locs hG hS => ?_)
  refine lv_istore (lv' := [(5, .int kk), (0, .ref b), (1, .ref (gad Γ 475)), (2, .ref (gad Γ 483)), (3, .ref (gad Γ 491)), (4, .int i)]) hx hb dL_law_1814 hl (by decide) rfl (fun ls hl => ?_)
  refine lv_aload_n hx hb dL_law_1816 rfl (lv_at hl 3 rfl) ?_
  refine lv_aload_n hx hb dL_law_1817 rfl (lv_at hl 1 rfl) ?_
  refine lv_iload hx hb dL_law_1818 (lv_at hl 5 rfl) ?_
  refine lv_iconst (v := 1) hx hb dL_law_1820 (by decide) ?_
  refine lv_iadd hx hb dL_law_1821 ?_
  refine va_sld hx hb hXs hbl hbA hS h1 dL_law_1822 ?_
  refine g_callV (As := [.int (xs (i + 1).toNatClampNeg)]) (rest := []) (st1 := [.int bb]) hF ref (cwV 1 hts gL_law_X7_restore rfl rfl rfl (by decide +kernel) ⟨(by show fr + 1 ≤ 12; omega), (by show 8 + (_ + 11) + lo ≤ 426; omega)⟩) hK hZ hG hS h483 (show gC 483 = (7, 24, 0) from rfl) (by decide) rfl rfl hl.1 (Nat.le_of_ble_eq_true rfl) dL_law_1823 hc rfl rfl (fun H locs hG hS => ?_)
  refine lv_istore (lv' := [(6, .int bb), (5, .int kk), (0, .ref b), (1, .ref (gad Γ 475)), (2, .ref (gad Γ 483)), (3, .ref (gad Γ 491)), (4, .int i)]) hx hb dL_law_1826 hl (by decide) rfl (fun ls hl => ?_)
  refine lv_aload_n hx hb dL_law_1828 rfl (lv_at hl 4 rfl) ?_
  refine g_callV (As := []) (rest := []) (st1 := [.int kk]) hF thr (cwV 0 hts gL_law_X7_thrown rfl rfl rfl (by decide +kernel) ⟨Nat.le_of_ble_eq_true rfl, Nat.le_of_ble_eq_true rfl⟩) hK hZ hG hS h483 (show gC 483 = (7, 24, 0) from rfl) (by decide) rfl rfl hl.1 (Nat.le_of_ble_eq_true rfl) dL_law_1829 hc rfl rfl (fun H locs hG hS => ?_)
  refine lv_iload hx hb dL_law_1832 (lv_at hl 1 rfl) ?_
  refine lv_icmp_eq (tgt := 1839) hx hb dL_law_1834 (by decide) (fun _ => ?_) (fun q => absurd rfl q)
  refine lv_iload hx hb dL_law_1839 (lv_at hl 1 rfl) ?_
  have fin : W p l e room_1 s m args below meth c H locs (cells + 1) (slots + 6) Q (F0 m 1856 ls []) := lv_goto (tgt := 1859) hx hb dL_law_1856 (by decide) (next _ _ _ _ _ _ ⟨hG, hS, lv_sub hl [2, 3, 4, 5, 6] rfl, inv⟩)
  refine lv_if_ne (tgt := 1856) hx hb dL_law_1841 (by decide) (fun _ => fin) (fun q => ?_)
  refine lv_aload_n hx hb dL_law_1844 rfl (lv_at hl 5 rfl) ?_
  refine lv_iconst (v := 0) hx hb dL_law_1845 (by decide) ?_
  refine g_lald hx hb hK hG hcs dL_law_1846 ?_
  refine lv_iload hx hb dL_law_1847 (lv_at hl 0 rfl) ?_
  refine lv_i2l hx hb dL_law_1849 rfl ?_
  refine W.lcmp hx hb dL_law_1850 ?_
  exact gl_eq (tgt := 1856) hx hb dL_law_1851 (by decide) (fun _ => fin) (fun q9 => absurd (heq q) q9)
