/-! THE LAW: its cases. Laid by gen/p31.py. -/
set_option maxHeartbeats 4000000 in
set_option maxRecDepth 100000 in
theorem lc_setSurface {p : Program} {l : Launch} {e : Env} {s : State} {m : MethodId} {args : Array Value} {below : List Frame} {meth : Method} {c : Code} {cells slots : Nat} {Q : State → Prop} {Γ : gX} {b L : Nat} {xs : Nat → Int32} (hst : l.stackTraces = false) (C : LCx p s m args c Γ b L xs) {i : Int32} (h1 : vp_in (i + 1) L) (h2 : vp_in (i + 2) L) (h3 : vp_in (i + 3) L) {u : Nat} (hu : 1998 * (u + 5000) < 2 ^ 31) (hc : cells + 1 ≤ 601024 ∧ slots + 6 ≤ 7293033) {H : Heap} {locs : List Loc} {ls : Array Slot} {R : Nat → Nat → Option Nat} {O : Int64} {Z : Nat → Nat → Int32} (S : LSt s Γ b i u H locs ls R O Z) (next : ∀ (H : Heap) (locs : List Loc) (ls : Array Slot) (R : Nat → Nat → Option Nat) (O : Int64) (Z : Nat → Nat → Int32), LSt s Γ b i (u + 850) H locs ls R O Z → W p l e room_1 s m args below meth c H locs (cells + 1) (slots + 6) Q (F0 m 1859 ls [])) : W p l e room_1 s m args below meth c H locs cells slots Q (F0 m 678 ls []) := by
  obtain ⟨hx, hb, hml, hown, hts, hXs, hbl, hbA, hK, hZ, hX, hY, hcs, hall⟩ := C
  obtain ⟨hG, hS, hl, hI⟩ := S
  have hF : CallFix p m c cL_law 7 s args wsL_law RL := ⟨hx, hb, hml, hown, hts⟩
  have h483 := hI.g483
  have h475 := hI.g475
  obtain ⟨kk, bb, Z1, Z2, R1, O1, fr, lo, hfr, hlo, wrp, ref, hz, heq, inv⟩ := st_setSurface (l := l) (O := O) hst hcs hall hI hu (xs (i + 1).toNatClampNeg) (xs (i + 2).toNatClampNeg)
  have thr := inv.thr (l := l) (O := O1)
  rw [hz] at thr
  refine lv_aload_n hx hb dL_law_678 rfl (lv_at hl 1 rfl) ?_
  refine lv_aload_n hx hb dL_law_679 rfl (lv_at hl 0 rfl) ?_
  refine lv_iload hx hb dL_law_680 (lv_at hl 4 rfl) ?_
  refine lv_iconst (v := 1) hx hb dL_law_682 (by decide) ?_
  refine lv_iadd hx hb dL_law_683 ?_
  refine va_sld hx hb hXs hbl hbA hS h1 dL_law_684 ?_
  refine lv_aload_n hx hb dL_law_685 rfl (lv_at hl 0 rfl) ?_
  refine lv_iload hx hb dL_law_686 (lv_at hl 4 rfl) ?_
  refine lv_iconst (v := 2) hx hb dL_law_688 (by decide) ?_
  refine lv_iadd hx hb dL_law_689 ?_
  refine va_sld hx hb hXs hbl hbA hS h2 dL_law_690 ?_
  refine lv_aload_n hx hb dL_law_691 rfl (lv_at hl 3 rfl) ?_
  refine g_callW (As := [.ref (gad Γ 475), .int (xs (i + 1).toNatClampNeg), .int (xs (i + 2).toNatClampNeg), .ref (gad Γ 491)]) (rest := []) (st1 := [.int kk]) hF wrp (vx_cwSW 4 hts gL_law_L_setSurface rfl rfl rfl (by decide +kernel) ⟨Nat.le_of_ble_eq_true rfl, Nat.le_of_ble_eq_true rfl⟩) hK hZ hX hY hG hS rfl hl.1 (Nat.le_of_ble_eq_true rfl) dL_law_692 hc rfl rfl (fun H locs hG hS => ?_)
  refine lv_istore (lv' := [(5, .int kk), (0, .ref b), (1, .ref (gad Γ 475)), (2, .ref (gad Γ 483)), (3, .ref (gad Γ 491)), (4, .int i)]) hx hb dL_law_695 hl (by decide) rfl (fun ls hl => ?_)
  refine lv_aload_n hx hb dL_law_697 rfl (lv_at hl 3 rfl) ?_
  refine lv_aload_n hx hb dL_law_698 rfl (lv_at hl 1 rfl) ?_
  refine lv_iload hx hb dL_law_699 (lv_at hl 5 rfl) ?_
  refine lv_iconst (v := 1) hx hb dL_law_701 (by decide) ?_
  refine lv_iadd hx hb dL_law_702 ?_
  refine va_sld hx hb hXs hbl hbA hS h1 dL_law_703 ?_
  refine lv_aload_n hx hb dL_law_704 rfl (lv_at hl 1 rfl) ?_
  refine lv_iload hx hb dL_law_705 (lv_at hl 5 rfl) ?_
  refine lv_iconst (v := 2) hx hb dL_law_707 (by decide) ?_
  refine lv_iadd hx hb dL_law_708 ?_
  refine va_sld hx hb hXs hbl hbA hS h2 dL_law_709 ?_
  refine g_callV (As := [.int (xs (i + 1).toNatClampNeg), .int (xs (i + 2).toNatClampNeg)]) (rest := []) (st1 := [.int bb]) hF ref (cwV 2 hts gL_law_X7_setSurface rfl rfl rfl (by decide +kernel) ⟨(by show fr + 1 ≤ 12; omega), (by show 8 + (_ + 11) + lo ≤ 426; omega)⟩) hK hZ hG hS h483 (show gC 483 = (7, 24, 0) from rfl) (by decide) rfl rfl hl.1 (Nat.le_of_ble_eq_true rfl) dL_law_710 hc rfl rfl (fun H locs hG hS => ?_)
  refine lv_istore (lv' := [(6, .int bb), (5, .int kk), (0, .ref b), (1, .ref (gad Γ 475)), (2, .ref (gad Γ 483)), (3, .ref (gad Γ 491)), (4, .int i)]) hx hb dL_law_713 hl (by decide) rfl (fun ls hl => ?_)
  refine lv_aload_n hx hb dL_law_715 rfl (lv_at hl 4 rfl) ?_
  refine g_callV (As := []) (rest := []) (st1 := [.int kk]) hF thr (cwV 0 hts gL_law_X7_thrown rfl rfl rfl (by decide +kernel) ⟨Nat.le_of_ble_eq_true rfl, Nat.le_of_ble_eq_true rfl⟩) hK hZ hG hS h483 (show gC 483 = (7, 24, 0) from rfl) (by decide) rfl rfl hl.1 (Nat.le_of_ble_eq_true rfl) dL_law_716 hc rfl rfl (fun H locs hG hS => ?_)
  refine lv_iload hx hb dL_law_719 (lv_at hl 1 rfl) ?_
  refine lv_icmp_eq (tgt := 726) hx hb dL_law_721 (by decide) (fun _ => ?_) (fun q => absurd rfl q)
  refine lv_iload hx hb dL_law_726 (lv_at hl 1 rfl) ?_
  have fin : W p l e room_1 s m args below meth c H locs (cells + 1) (slots + 6) Q (F0 m 743 ls []) := lv_goto (tgt := 1859) hx hb dL_law_743 (by decide) (next _ _ _ _ _ _ ⟨hG, hS, lv_sub hl [2, 3, 4, 5, 6] rfl, inv⟩)
  refine lv_if_ne (tgt := 743) hx hb dL_law_728 (by decide) (fun _ => fin) (fun q => ?_)
  refine lv_aload_n hx hb dL_law_731 rfl (lv_at hl 5 rfl) ?_
  refine lv_iconst (v := 0) hx hb dL_law_732 (by decide) ?_
  refine g_lald hx hb hK hG hcs dL_law_733 ?_
  refine lv_iload hx hb dL_law_734 (lv_at hl 0 rfl) ?_
  refine lv_i2l hx hb dL_law_736 rfl ?_
  refine W.lcmp hx hb dL_law_737 ?_
  exact gl_eq (tgt := 743) hx hb dL_law_738 (by decide) (fun _ => fin) (fun q9 => absurd (heq q) q9)
set_option maxHeartbeats 4000000 in
set_option maxRecDepth 100000 in
theorem lc_setLimit {p : Program} {l : Launch} {e : Env} {s : State} {m : MethodId} {args : Array Value} {below : List Frame} {meth : Method} {c : Code} {cells slots : Nat} {Q : State → Prop} {Γ : gX} {b L : Nat} {xs : Nat → Int32} (hst : l.stackTraces = false) (C : LCx p s m args c Γ b L xs) {i : Int32} (h1 : vp_in (i + 1) L) (h2 : vp_in (i + 2) L) (h3 : vp_in (i + 3) L) {u : Nat} (hu : 1998 * (u + 5000) < 2 ^ 31) (hc : cells + 1 ≤ 601024 ∧ slots + 6 ≤ 7293033) {H : Heap} {locs : List Loc} {ls : Array Slot} {R : Nat → Nat → Option Nat} {O : Int64} {Z : Nat → Nat → Int32} (S : LSt s Γ b i u H locs ls R O Z) (next : ∀ (H : Heap) (locs : List Loc) (ls : Array Slot) (R : Nat → Nat → Option Nat) (O : Int64) (Z : Nat → Nat → Int32), LSt s Γ b i (u + 850) H locs ls R O Z → W p l e room_1 s m args below meth c H locs (cells + 1) (slots + 6) Q (F0 m 1859 ls [])) : W p l e room_1 s m args below meth c H locs cells slots Q (F0 m 746 ls []) := by
  obtain ⟨hx, hb, hml, hown, hts, hXs, hbl, hbA, hK, hZ, hX, hY, hcs, hall⟩ := C
  obtain ⟨hG, hS, hl, hI⟩ := S
  have hF : CallFix p m c cL_law 7 s args wsL_law RL := ⟨hx, hb, hml, hown, hts⟩
  have h483 := hI.g483
  have h475 := hI.g475
  obtain ⟨kk, bb, Z1, Z2, R1, O1, fr, lo, hfr, hlo, wrp, ref, hz, heq, inv⟩ := st_setLimit (l := l) (O := O) hst hcs hall hI hu (xs (i + 1).toNatClampNeg) (xs (i + 2).toNatClampNeg)
  have thr := inv.thr (l := l) (O := O1)
  rw [hz] at thr
  refine lv_aload_n hx hb dL_law_746 rfl (lv_at hl 1 rfl) ?_
  refine lv_aload_n hx hb dL_law_747 rfl (lv_at hl 0 rfl) ?_
  refine lv_iload hx hb dL_law_748 (lv_at hl 4 rfl) ?_
  refine lv_iconst (v := 1) hx hb dL_law_750 (by decide) ?_
  refine lv_iadd hx hb dL_law_751 ?_
  refine va_sld hx hb hXs hbl hbA hS h1 dL_law_752 ?_
  refine lv_aload_n hx hb dL_law_753 rfl (lv_at hl 0 rfl) ?_
  refine lv_iload hx hb dL_law_754 (lv_at hl 4 rfl) ?_
  refine lv_iconst (v := 2) hx hb dL_law_756 (by decide) ?_
  refine lv_iadd hx hb dL_law_757 ?_
  refine va_sld hx hb hXs hbl hbA hS h2 dL_law_758 ?_
  refine lv_aload_n hx hb dL_law_759 rfl (lv_at hl 3 rfl) ?_
  refine g_callW (As := [.ref (gad Γ 475), .int (xs (i + 1).toNatClampNeg), .int (xs (i + 2).toNatClampNeg), .ref (gad Γ 491)]) (rest := []) (st1 := [.int kk]) hF wrp (vx_cwSW 4 hts gL_law_L_setLimit rfl rfl rfl (by decide +kernel) ⟨Nat.le_of_ble_eq_true rfl, Nat.le_of_ble_eq_true rfl⟩) hK hZ hX hY hG hS rfl hl.1 (Nat.le_of_ble_eq_true rfl) dL_law_760 hc rfl rfl (fun H locs hG hS => ?_)
  refine lv_istore (lv' := [(5, .int kk), (0, .ref b), (1, .ref (gad Γ 475)), (2, .ref (gad Γ 483)), (3, .ref (gad Γ 491)), (4, .int i)]) hx hb dL_law_763 hl (by decide) rfl (fun ls hl => ?_)
  refine lv_aload_n hx hb dL_law_765 rfl (lv_at hl 3 rfl) ?_
  refine lv_aload_n hx hb dL_law_766 rfl (lv_at hl 1 rfl) ?_
  refine lv_iload hx hb dL_law_767 (lv_at hl 5 rfl) ?_
  refine lv_iconst (v := 1) hx hb dL_law_769 (by decide) ?_
  refine lv_iadd hx hb dL_law_770 ?_
  refine va_sld hx hb hXs hbl hbA hS h1 dL_law_771 ?_
  refine lv_aload_n hx hb dL_law_772 rfl (lv_at hl 1 rfl) ?_
  refine lv_iload hx hb dL_law_773 (lv_at hl 5 rfl) ?_
  refine lv_iconst (v := 2) hx hb dL_law_775 (by decide) ?_
  refine lv_iadd hx hb dL_law_776 ?_
  refine va_sld hx hb hXs hbl hbA hS h2 dL_law_777 ?_
  refine g_callV (As := [.int (xs (i + 1).toNatClampNeg), .int (xs (i + 2).toNatClampNeg)]) (rest := []) (st1 := [.int bb]) hF ref (cwV 2 hts gL_law_X7_setLimit rfl rfl rfl (by decide +kernel) ⟨(by show fr + 1 ≤ 12; omega), (by show 8 + (_ + 11) + lo ≤ 426; omega)⟩) hK hZ hG hS h483 (show gC 483 = (7, 24, 0) from rfl) (by decide) rfl rfl hl.1 (Nat.le_of_ble_eq_true rfl) dL_law_778 hc rfl rfl (fun H locs hG hS => ?_)
  refine lv_istore (lv' := [(6, .int bb), (5, .int kk), (0, .ref b), (1, .ref (gad Γ 475)), (2, .ref (gad Γ 483)), (3, .ref (gad Γ 491)), (4, .int i)]) hx hb dL_law_781 hl (by decide) rfl (fun ls hl => ?_)
  refine lv_aload_n hx hb dL_law_783 rfl (lv_at hl 4 rfl) ?_
  refine g_callV (As := []) (rest := []) (st1 := [.int kk]) hF thr (cwV 0 hts gL_law_X7_thrown rfl rfl rfl (by decide +kernel) ⟨Nat.le_of_ble_eq_true rfl, Nat.le_of_ble_eq_true rfl⟩) hK hZ hG hS h483 (show gC 483 = (7, 24, 0) from rfl) (by decide) rfl rfl hl.1 (Nat.le_of_ble_eq_true rfl) dL_law_784 hc rfl rfl (fun H locs hG hS => ?_)
  refine lv_iload hx hb dL_law_787 (lv_at hl 1 rfl) ?_
  refine lv_icmp_eq (tgt := 794) hx hb dL_law_789 (by decide) (fun _ => ?_) (fun q => absurd rfl q)
  refine lv_iload hx hb dL_law_794 (lv_at hl 1 rfl) ?_
  have fin : W p l e room_1 s m args below meth c H locs (cells + 1) (slots + 6) Q (F0 m 811 ls []) := lv_goto (tgt := 1859) hx hb dL_law_811 (by decide) (next _ _ _ _ _ _ ⟨hG, hS, lv_sub hl [2, 3, 4, 5, 6] rfl, inv⟩)
  refine lv_if_ne (tgt := 811) hx hb dL_law_796 (by decide) (fun _ => fin) (fun q => ?_)
  refine lv_aload_n hx hb dL_law_799 rfl (lv_at hl 5 rfl) ?_
  refine lv_iconst (v := 0) hx hb dL_law_800 (by decide) ?_
  refine g_lald hx hb hK hG hcs dL_law_801 ?_
  refine lv_iload hx hb dL_law_802 (lv_at hl 0 rfl) ?_
  refine lv_i2l hx hb dL_law_804 rfl ?_
  refine W.lcmp hx hb dL_law_805 ?_
  exact gl_eq (tgt := 811) hx hb dL_law_806 (by decide) (fun _ => fin) (fun q9 => absurd (heq q) q9)
set_option maxHeartbeats 4000000 in
set_option maxRecDepth 100000 in
theorem lc_set {p : Program} {l : Launch} {e : Env} {s : State} {m : MethodId} {args : Array Value} {below : List Frame} {meth : Method} {c : Code} {cells slots : Nat} {Q : State → Prop} {Γ : gX} {b L : Nat} {xs : Nat → Int32} (hst : l.stackTraces = false) (C : LCx p s m args c Γ b L xs) {i : Int32} (h1 : vp_in (i + 1) L) (h2 : vp_in (i + 2) L) (h3 : vp_in (i + 3) L) {u : Nat} (hu : 1998 * (u + 5000) < 2 ^ 31) (hc : cells + 1 ≤ 601024 ∧ slots + 6 ≤ 7293033) {H : Heap} {locs : List Loc} {ls : Array Slot} {R : Nat → Nat → Option Nat} {O : Int64} {Z : Nat → Nat → Int32} (S : LSt s Γ b i u H locs ls R O Z) (next : ∀ (H : Heap) (locs : List Loc) (ls : Array Slot) (R : Nat → Nat → Option Nat) (O : Int64) (Z : Nat → Nat → Int32), LSt s Γ b i (u + 850) H locs ls R O Z → W p l e room_1 s m args below meth c H locs (cells + 1) (slots + 6) Q (F0 m 1859 ls [])) : W p l e room_1 s m args below meth c H locs cells slots Q (F0 m 814 ls []) := by
  obtain ⟨hx, hb, hml, hown, hts, hXs, hbl, hbA, hK, hZ, hX, hY, hcs, hall⟩ := C
  obtain ⟨hG, hS, hl, hI⟩ := S
  have hF : CallFix p m c cL_law 7 s args wsL_law RL := ⟨hx, hb, hml, hown, hts⟩
  have h483 := hI.g483
  have h475 := hI.g475
  obtain ⟨kk, bb, Z1, Z2, R1, O1, fr, lo, hfr, hlo, wrp, ref, hz, heq, inv⟩ := st_set (l := l) (O := O) hst hcs hall hI hu (xs (i + 1).toNatClampNeg) (xs (i + 2).toNatClampNeg)
  have thr := inv.thr (l := l) (O := O1)
  rw [hz] at thr
  refine lv_aload_n hx hb dL_law_814 rfl (lv_at hl 1 rfl) ?_
  refine lv_aload_n hx hb dL_law_815 rfl (lv_at hl 0 rfl) ?_
  refine lv_iload hx hb dL_law_816 (lv_at hl 4 rfl) ?_
  refine lv_iconst (v := 1) hx hb dL_law_818 (by decide) ?_
  refine lv_iadd hx hb dL_law_819 ?_
  refine va_sld hx hb hXs hbl hbA hS h1 dL_law_820 ?_
  refine lv_aload_n hx hb dL_law_821 rfl (lv_at hl 0 rfl) ?_
  refine lv_iload hx hb dL_law_822 (lv_at hl 4 rfl) ?_
  refine lv_iconst (v := 2) hx hb dL_law_824 (by decide) ?_
  refine lv_iadd hx hb dL_law_825 ?_
  refine va_sld hx hb hXs hbl hbA hS h2 dL_law_826 ?_
  refine lv_aload_n hx hb dL_law_827 rfl (lv_at hl 3 rfl) ?_
  refine g_callW (As := [.ref (gad Γ 475), .int (xs (i + 1).toNatClampNeg), .int (xs (i + 2).toNatClampNeg), .ref (gad Γ 491)]) (rest := []) (st1 := [.int kk]) hF wrp (vx_cwSW 4 hts gL_law_L_set rfl rfl rfl (by decide +kernel) ⟨Nat.le_of_ble_eq_true rfl, Nat.le_of_ble_eq_true rfl⟩) hK hZ hX hY hG hS rfl hl.1 (Nat.le_of_ble_eq_true rfl) dL_law_828 hc rfl rfl (fun H locs hG hS => ?_)
  refine lv_istore (lv' := [(5, .int kk), (0, .ref b), (1, .ref (gad Γ 475)), (2, .ref (gad Γ 483)), (3, .ref (gad Γ 491)), (4, .int i)]) hx hb dL_law_831 hl (by decide) rfl (fun ls hl => ?_)
  refine lv_aload_n hx hb dL_law_833 rfl (lv_at hl 3 rfl) ?_
  refine lv_aload_n hx hb dL_law_834 rfl (lv_at hl 1 rfl) ?_
  refine lv_iload hx hb dL_law_835 (lv_at hl 5 rfl) ?_
  refine lv_iconst (v := 1) hx hb dL_law_837 (by decide) ?_
  refine lv_iadd hx hb dL_law_838 ?_
  refine va_sld hx hb hXs hbl hbA hS h1 dL_law_839 ?_
  refine lv_aload_n hx hb dL_law_840 rfl (lv_at hl 1 rfl) ?_
  refine lv_iload hx hb dL_law_841 (lv_at hl 5 rfl) ?_
  refine lv_iconst (v := 2) hx hb dL_law_843 (by decide) ?_
  refine lv_iadd hx hb dL_law_844 ?_
  refine va_sld hx hb hXs hbl hbA hS h2 dL_law_845 ?_
  refine g_callV (As := [.int (xs (i + 1).toNatClampNeg), .int (xs (i + 2).toNatClampNeg)]) (rest := []) (st1 := [.int bb]) hF ref (cwV 2 hts gL_law_X7_set rfl rfl rfl (by decide +kernel) ⟨(by show fr + 1 ≤ 12; omega), (by show 8 + (_ + 11) + lo ≤ 426; omega)⟩) hK hZ hG hS h483 (show gC 483 = (7, 24, 0) from rfl) (by decide) rfl rfl hl.1 (Nat.le_of_ble_eq_true rfl) dL_law_846 hc rfl rfl (fun H locs hG hS => ?_)
  refine lv_istore (lv' := [(6, .int bb), (5, .int kk), (0, .ref b), (1, .ref (gad Γ 475)), (2, .ref (gad Γ 483)), (3, .ref (gad Γ 491)), (4, .int i)]) hx hb dL_law_849 hl (by decide) rfl (fun ls hl => ?_)
  refine lv_aload_n hx hb dL_law_851 rfl (lv_at hl 4 rfl) ?_
  refine g_callV (As := []) (rest := []) (st1 := [.int kk]) hF thr (cwV 0 hts gL_law_X7_thrown rfl rfl rfl (by decide +kernel) ⟨Nat.le_of_ble_eq_true rfl, Nat.le_of_ble_eq_true rfl⟩) hK hZ hG hS h483 (show gC 483 = (7, 24, 0) from rfl) (by decide) rfl rfl hl.1 (Nat.le_of_ble_eq_true rfl) dL_law_852 hc rfl rfl (fun H locs hG hS => ?_)
  refine lv_iload hx hb dL_law_855 (lv_at hl 1 rfl) ?_
  refine lv_icmp_eq (tgt := 862) hx hb dL_law_857 (by decide) (fun _ => ?_) (fun q => absurd rfl q)
  refine lv_iload hx hb dL_law_862 (lv_at hl 1 rfl) ?_
  have fin : W p l e room_1 s m args below meth c H locs (cells + 1) (slots + 6) Q (F0 m 879 ls []) := lv_goto (tgt := 1859) hx hb dL_law_879 (by decide) (next _ _ _ _ _ _ ⟨hG, hS, lv_sub hl [2, 3, 4, 5, 6] rfl, inv⟩)
  refine lv_if_ne (tgt := 879) hx hb dL_law_864 (by decide) (fun _ => fin) (fun q => ?_)
  refine lv_aload_n hx hb dL_law_867 rfl (lv_at hl 5 rfl) ?_
  refine lv_iconst (v := 0) hx hb dL_law_868 (by decide) ?_
  refine g_lald hx hb hK hG hcs dL_law_869 ?_
  refine lv_iload hx hb dL_law_870 (lv_at hl 0 rfl) ?_
  refine lv_i2l hx hb dL_law_872 rfl ?_
  refine W.lcmp hx hb dL_law_873 ?_
  exact gl_eq (tgt := 879) hx hb dL_law_874 (by decide) (fun _ => fin) (fun q9 => absurd (heq q) q9)
set_option maxHeartbeats 4000000 in
set_option maxRecDepth 100000 in
theorem lc_drive {p : Program} {l : Launch} {e : Env} {s : State} {m : MethodId} {args : Array Value} {below : List Frame} {meth : Method} {c : Code} {cells slots : Nat} {Q : State → Prop} {Γ : gX} {b L : Nat} {xs : Nat → Int32} (hst : l.stackTraces = false) (C : LCx p s m args c Γ b L xs) {i : Int32} (h1 : vp_in (i + 1) L) (h2 : vp_in (i + 2) L) (h3 : vp_in (i + 3) L) {u : Nat} (hu : 1998 * (u + 5000) < 2 ^ 31) (hc : cells + 1 ≤ 601024 ∧ slots + 6 ≤ 7293033) {H : Heap} {locs : List Loc} {ls : Array Slot} {R : Nat → Nat → Option Nat} {O : Int64} {Z : Nat → Nat → Int32} (S : LSt s Γ b i u H locs ls R O Z) (next : ∀ (H : Heap) (locs : List Loc) (ls : Array Slot) (R : Nat → Nat → Option Nat) (O : Int64) (Z : Nat → Nat → Int32), LSt s Γ b i (u + 850) H locs ls R O Z → W p l e room_1 s m args below meth c H locs (cells + 1) (slots + 6) Q (F0 m 1859 ls [])) : W p l e room_1 s m args below meth c H locs cells slots Q (F0 m 882 ls []) := by
  obtain ⟨hx, hb, hml, hown, hts, hXs, hbl, hbA, hK, hZ, hX, hY, hcs, hall⟩ := C
  obtain ⟨hG, hS, hl, hI⟩ := S
  have hF : CallFix p m c cL_law 7 s args wsL_law RL := ⟨hx, hb, hml, hown, hts⟩
  have h483 := hI.g483
  have h475 := hI.g475
  obtain ⟨kk, bb, Z1, Z2, R1, O1, fr, lo, hfr, hlo, wrp, ref, hz, heq, inv⟩ := st_drive (l := l) (O := O) hst hcs hall hI hu (xs (i + 1).toNatClampNeg) (xs (i + 2).toNatClampNeg)
  have thr := inv.thr (l := l) (O := O1)
  rw [hz] at thr
  refine lv_aload_n hx hb dL_law_882 rfl (lv_at hl 1 rfl) ?_
  refine lv_aload_n hx hb dL_law_883 rfl (lv_at hl 0 rfl) ?_
  refine lv_iload hx hb dL_law_884 (lv_at hl 4 rfl) ?_
  refine lv_iconst (v := 1) hx hb dL_law_886 (by decide) ?_
  refine lv_iadd hx hb dL_law_887 ?_
  refine va_sld hx hb hXs hbl hbA hS h1 dL_law_888 ?_
  refine lv_aload_n hx hb dL_law_889 rfl (lv_at hl 0 rfl) ?_
  refine lv_iload hx hb dL_law_890 (lv_at hl 4 rfl) ?_
  refine lv_iconst (v := 2) hx hb dL_law_892 (by decide) ?_
  refine lv_iadd hx hb dL_law_893 ?_
  refine va_sld hx hb hXs hbl hbA hS h2 dL_law_894 ?_
  refine lv_aload_n hx hb dL_law_895 rfl (lv_at hl 3 rfl) ?_
  refine g_callW (As := [.ref (gad Γ 475), .int (xs (i + 1).toNatClampNeg), .int (xs (i + 2).toNatClampNeg), .ref (gad Γ 491)]) (rest := []) (st1 := [.int kk]) hF wrp (vx_cwSW 4 hts gL_law_L_drive rfl rfl rfl (by decide +kernel) ⟨Nat.le_of_ble_eq_true rfl, Nat.le_of_ble_eq_true rfl⟩) hK hZ hX hY hG hS rfl hl.1 (Nat.le_of_ble_eq_true rfl) dL_law_896 hc rfl rfl (fun H locs hG hS => ?_)
  refine lv_istore (lv' := [(5, .int kk), (0, .ref b), (1, .ref (gad Γ 475)), (2, .ref (gad Γ 483)), (3, .ref (gad Γ 491)), (4, .int i)]) hx hb dL_law_899 hl (by decide) rfl (fun ls hl => ?_)
  refine lv_aload_n hx hb dL_law_901 rfl (lv_at hl 3 rfl) ?_
  refine lv_aload_n hx hb dL_law_902 rfl (lv_at hl 1 rfl) ?_
  refine lv_iload hx hb dL_law_903 (lv_at hl 5 rfl) ?_
  refine lv_iconst (v := 1) hx hb dL_law_905 (by decide) ?_
  refine lv_iadd hx hb dL_law_906 ?_
  refine va_sld hx hb hXs hbl hbA hS h1 dL_law_907 ?_
  refine lv_aload_n hx hb dL_law_908 rfl (lv_at hl 1 rfl) ?_
  refine lv_iload hx hb dL_law_909 (lv_at hl 5 rfl) ?_
  refine lv_iconst (v := 2) hx hb dL_law_911 (by decide) ?_
  refine lv_iadd hx hb dL_law_912 ?_
  refine va_sld hx hb hXs hbl hbA hS h2 dL_law_913 ?_
  refine g_callV (As := [.int (xs (i + 1).toNatClampNeg), .int (xs (i + 2).toNatClampNeg)]) (rest := []) (st1 := [.int bb]) hF ref (cwV 2 hts gL_law_X7_drive rfl rfl rfl (by decide +kernel) ⟨(by show fr + 1 ≤ 12; omega), (by show 8 + (_ + 11) + lo ≤ 426; omega)⟩) hK hZ hG hS h483 (show gC 483 = (7, 24, 0) from rfl) (by decide) rfl rfl hl.1 (Nat.le_of_ble_eq_true rfl) dL_law_914 hc rfl rfl (fun H locs hG hS => ?_)
  refine lv_istore (lv' := [(6, .int bb), (5, .int kk), (0, .ref b), (1, .ref (gad Γ 475)), (2, .ref (gad Γ 483)), (3, .ref (gad Γ 491)), (4, .int i)]) hx hb dL_law_917 hl (by decide) rfl (fun ls hl => ?_)
  refine lv_aload_n hx hb dL_law_919 rfl (lv_at hl 4 rfl) ?_
  refine g_callV (As := []) (rest := []) (st1 := [.int kk]) hF thr (cwV 0 hts gL_law_X7_thrown rfl rfl rfl (by decide +kernel) ⟨Nat.le_of_ble_eq_true rfl, Nat.le_of_ble_eq_true rfl⟩) hK hZ hG hS h483 (show gC 483 = (7, 24, 0) from rfl) (by decide) rfl rfl hl.1 (Nat.le_of_ble_eq_true rfl) dL_law_920 hc rfl rfl (fun H locs hG hS => ?_)
  refine lv_iload hx hb dL_law_923 (lv_at hl 1 rfl) ?_
  refine lv_icmp_eq (tgt := 930) hx hb dL_law_925 (by decide) (fun _ => ?_) (fun q => absurd rfl q)
  refine lv_iload hx hb dL_law_930 (lv_at hl 1 rfl) ?_
  have fin : W p l e room_1 s m args below meth c H locs (cells + 1) (slots + 6) Q (F0 m 947 ls []) := lv_goto (tgt := 1859) hx hb dL_law_947 (by decide) (next _ _ _ _ _ _ ⟨hG, hS, lv_sub hl [2, 3, 4, 5, 6] rfl, inv⟩)
  refine lv_if_ne (tgt := 947) hx hb dL_law_932 (by decide) (fun _ => fin) (fun q => ?_)
  refine lv_aload_n hx hb dL_law_935 rfl (lv_at hl 5 rfl) ?_
  refine lv_iconst (v := 0) hx hb dL_law_936 (by decide) ?_
  refine g_lald hx hb hK hG hcs dL_law_937 ?_
  refine lv_iload hx hb dL_law_938 (lv_at hl 0 rfl) ?_
  refine lv_i2l hx hb dL_law_940 rfl ?_
  refine W.lcmp hx hb dL_law_941 ?_
  exact gl_eq (tgt := 947) hx hb dL_law_942 (by decide) (fun _ => fin) (fun q9 => absurd (heq q) q9)
set_option maxHeartbeats 4000000 in
set_option maxRecDepth 100000 in
theorem lc_spray {p : Program} {l : Launch} {e : Env} {s : State} {m : MethodId} {args : Array Value} {below : List Frame} {meth : Method} {c : Code} {cells slots : Nat} {Q : State → Prop} {Γ : gX} {b L : Nat} {xs : Nat → Int32} (hst : l.stackTraces = false) (C : LCx p s m args c Γ b L xs) {i : Int32} (h1 : vp_in (i + 1) L) (h2 : vp_in (i + 2) L) (h3 : vp_in (i + 3) L) {u : Nat} (hu : 1998 * (u + 5000) < 2 ^ 31) (hc : cells + 1 ≤ 601024 ∧ slots + 6 ≤ 7293033) {H : Heap} {locs : List Loc} {ls : Array Slot} {R : Nat → Nat → Option Nat} {O : Int64} {Z : Nat → Nat → Int32} (S : LSt s Γ b i u H locs ls R O Z) (next : ∀ (H : Heap) (locs : List Loc) (ls : Array Slot) (R : Nat → Nat → Option Nat) (O : Int64) (Z : Nat → Nat → Int32), LSt s Γ b i (u + 850) H locs ls R O Z → W p l e room_1 s m args below meth c H locs (cells + 1) (slots + 6) Q (F0 m 1859 ls [])) : W p l e room_1 s m args below meth c H locs cells slots Q (F0 m 950 ls []) := by
  obtain ⟨hx, hb, hml, hown, hts, hXs, hbl, hbA, hK, hZ, hX, hY, hcs, hall⟩ := C
  obtain ⟨hG, hS, hl, hI⟩ := S
  have hF : CallFix p m c cL_law 7 s args wsL_law RL := ⟨hx, hb, hml, hown, hts⟩
  have h483 := hI.g483
  have h475 := hI.g475
  obtain ⟨kk, bb, Z1, Z2, R1, O1, fr, lo, hfr, hlo, wrp, ref, hz, heq, inv⟩ := st_spray (l := l) (O := O) hst hcs hall hI hu (xs (i + 1).toNatClampNeg) (xs (i + 2).toNatClampNeg)
  have thr := inv.thr (l := l) (O := O1)
  rw [hz] at thr
  refine lv_aload_n hx hb dL_law_950 rfl (lv_at hl 1 rfl) ?_
  refine lv_aload_n hx hb dL_law_951 rfl (lv_at hl 0 rfl) ?_
  refine lv_iload hx hb dL_law_952 (lv_at hl 4 rfl) ?_
  refine lv_iconst (v := 1) hx hb dL_law_954 (by decide) ?_
  refine lv_iadd hx hb dL_law_955 ?_
  refine va_sld hx hb hXs hbl hbA hS h1 dL_law_956 ?_
  refine lv_aload_n hx hb dL_law_957 rfl (lv_at hl 0 rfl) ?_
  refine lv_iload hx hb dL_law_958 (lv_at hl 4 rfl) ?_
  refine lv_iconst (v := 2) hx hb dL_law_960 (by decide) ?_
  refine lv_iadd hx hb dL_law_961 ?_
  refine va_sld hx hb hXs hbl hbA hS h2 dL_law_962 ?_
  refine lv_aload_n hx hb dL_law_963 rfl (lv_at hl 3 rfl) ?_
  refine g_callW (As := [.ref (gad Γ 475), .int (xs (i + 1).toNatClampNeg), .int (xs (i + 2).toNatClampNeg), .ref (gad Γ 491)]) (rest := []) (st1 := [.int kk]) hF wrp (vx_cwSW 4 hts gL_law_L_spray rfl rfl rfl (by decide +kernel) ⟨Nat.le_of_ble_eq_true rfl, Nat.le_of_ble_eq_true rfl⟩) hK hZ hX hY hG hS rfl hl.1 (Nat.le_of_ble_eq_true rfl) dL_law_964 hc rfl rfl (fun H locs hG hS => ?_)
  refine lv_istore (lv' := [(5, .int kk), (0, .ref b), (1, .ref (gad Γ 475)), (2, .ref (gad Γ 483)), (3, .ref (gad Γ 491)), (4, .int i)]) hx hb dL_law_967 hl (by decide) rfl (fun ls hl => ?_)
  refine lv_aload_n hx hb dL_law_969 rfl (lv_at hl 3 rfl) ?_
  refine lv_aload_n hx hb dL_law_970 rfl (lv_at hl 1 rfl) ?_
  refine lv_iload hx hb dL_law_971 (lv_at hl 5 rfl) ?_
  refine lv_iconst (v := 1) hx hb dL_law_973 (by decide) ?_
  refine lv_iadd hx hb dL_law_974 ?_
  refine va_sld hx hb hXs hbl hbA hS h1 dL_law_975 ?_
  refine lv_aload_n hx hb dL_law_976 rfl (lv_at hl 1 rfl) ?_
  refine lv_iload hx hb dL_law_977 (lv_at hl 5 rfl) ?_
  refine lv_iconst (v := 2) hx hb dL_law_979 (by decide) ?_
  refine lv_iadd hx hb dL_law_980 ?_
  refine va_sld hx hb hXs hbl hbA hS h2 dL_law_981 ?_
  refine g_callV (As := [.int (xs (i + 1).toNatClampNeg), .int (xs (i + 2).toNatClampNeg)]) (rest := []) (st1 := [.int bb]) hF ref (cwV 2 hts gL_law_X7_spray rfl rfl rfl (by decide +kernel) ⟨(by show fr + 1 ≤ 12; omega), (by show 8 + (_ + 11) + lo ≤ 426; omega)⟩) hK hZ hG hS h483 (show gC 483 = (7, 24, 0) from rfl) (by decide) rfl rfl hl.1 (Nat.le_of_ble_eq_true rfl) dL_law_982 hc rfl rfl (fun H locs hG hS => ?_)
  refine lv_istore (lv' := [(6, .int bb), (5, .int kk), (0, .ref b), (1, .ref (gad Γ 475)), (2, .ref (gad Γ 483)), (3, .ref (gad Γ 491)), (4, .int i)]) hx hb dL_law_985 hl (by decide) rfl (fun ls hl => ?_)
  refine lv_aload_n hx hb dL_law_987 rfl (lv_at hl 4 rfl) ?_
  refine g_callV (As := []) (rest := []) (st1 := [.int kk]) hF thr (cwV 0 hts gL_law_X7_thrown rfl rfl rfl (by decide +kernel) ⟨Nat.le_of_ble_eq_true rfl, Nat.le_of_ble_eq_true rfl⟩) hK hZ hG hS h483 (show gC 483 = (7, 24, 0) from rfl) (by decide) rfl rfl hl.1 (Nat.le_of_ble_eq_true rfl) dL_law_988 hc rfl rfl (fun H locs hG hS => ?_)
  refine lv_iload hx hb dL_law_991 (lv_at hl 1 rfl) ?_
  refine lv_icmp_eq (tgt := 998) hx hb dL_law_993 (by decide) (fun _ => ?_) (fun q => absurd rfl q)
  refine lv_iload hx hb dL_law_998 (lv_at hl 1 rfl) ?_
  have fin : W p l e room_1 s m args below meth c H locs (cells + 1) (slots + 6) Q (F0 m 1015 ls []) := lv_goto (tgt := 1859) hx hb dL_law_1015 (by decide) (next _ _ _ _ _ _ ⟨hG, hS, lv_sub hl [2, 3, 4, 5, 6] rfl, inv⟩)
  refine lv_if_ne (tgt := 1015) hx hb dL_law_1000 (by decide) (fun _ => fin) (fun q => ?_)
  refine lv_aload_n hx hb dL_law_1003 rfl (lv_at hl 5 rfl) ?_
  refine lv_iconst (v := 0) hx hb dL_law_1004 (by decide) ?_
  refine g_lald hx hb hK hG hcs dL_law_1005 ?_
  refine lv_iload hx hb dL_law_1006 (lv_at hl 0 rfl) ?_
  refine lv_i2l hx hb dL_law_1008 rfl ?_
  refine W.lcmp hx hb dL_law_1009 ?_
  exact gl_eq (tgt := 1015) hx hb dL_law_1010 (by decide) (fun _ => fin) (fun q9 => absurd (heq q) q9)
