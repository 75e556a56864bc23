/-! THE LAW: water. Laid by gen/r95.py. -/
set_option maxRecDepth 16384
theorem ne_st (n : Nat) (h : n < 100) : ¬ nI n = -9999003 := fun e => by
  have := nI_nlt (a := n) (b := 0) (Nat.zero_le _) (by omega)
  rw [e] at this
  exact this (by decide)
set_option maxHeartbeats 4000000 in
set_option maxRecDepth 100000 in
theorem L_water_F {l : Launch} {Γ : gX} (hst : l.stackTraces = false) {u : Nat} {N : Nat → Int32} {Hy : Nat → Nat → Int32} {k : Nat} {w : WO} (hN : PI u N) (hu : 1998 * (u + 10000) < 2 ^ 31) (hk : k ≤ 14) {i sg : Nat} (hi : i < (N 1).toNatClampNeg) (esg : N (82 + 5 * i) = nI sg) (hsg : sg < (N 0).toNatClampNeg) (hfull : N 2 = 3) : lM l Γ yL_water wqL_water 13 296 392 [.ref (gad Γ 475), .int (nI i)] (SH Γ N Hy k w) (some (.int 1)) (SH Γ N Hy k w) := by
  refine l_start (cc := cL_water) (maxL := 10) (ret := (some .boolean)) (by decide) rfl (Nat.le_of_ble_eq_true rfl) ?_
  intro p e s m below meth c ls hx hb hml hrt hts hown hlocks hK hZ hX hY hG hS hl
  have hl : lv_has ls 10 [(0, .ref (gad Γ 475)), (1, .int (nI i))] := hl
  have hown : s.vm.findClass RL = some m.cls := hown
  have hF : CallFix p m c cL_water 10 s _ wqL_water RL := ⟨hx, hb, hml, hown, hts⟩
  have k_1 : (Cond.constant RL 26 (-9999003)).before _ s = true := hts _ (by decide +kernel)
  have b1 := hN.h8.2
  have b0 := hN.s10.2
  have s10 : sg < 10 := by omega
  have hu0 : 1998 * (u + 5000) < 2 ^ 31 := by omega
  refine lv_aload_n hx hb dL_water_0 rfl (lv_at hl 0 rfl) ?_
  refine l_call (X := 0) (K := 176) (CC := 392) (As := [.ref (gad Γ 475)]) (rest := []) (st1 := [.long (sumF N)]) hF (L_sum (N := N) (Hy := Hy) (k := k) (w := w) hst hN hu0) (va_cwS 1 hts qL_sum rfl rfl rfl (by decide +kernel) ⟨Nat.le_of_ble_eq_true rfl, Nat.le_of_ble_eq_true rfl⟩) hK hZ hX hY hG hS rfl hl.1 (Nat.le_of_ble_eq_true rfl) dL_water_1 ⟨Nat.le_of_ble_eq_true rfl, Nat.le_of_ble_eq_true rfl⟩ (by omega) (by omega) rfl rfl (fun H locs hG hS => ?_)
  refine lv_lstore_n (lv' := [(2, .long (sumF N)), (0, .ref (gad Γ 475)), (1, .int (nI i))]) hx hb dL_water_4 rfl hl (by decide) rfl (fun ls hl => ?_)
  refine lv_aload_n hx hb dL_water_5 rfl (lv_at hl 1 rfl) ?_
  refine lv_iload_n hx hb dL_water_6 rfl (lv_at hl 2 rfl) ?_
  refine lv_iconst (v := 0) hx hb dL_water_7 (by decide) ?_
  refine l_call (X := 176) (K := 177) (CC := 392) (As := [.ref (gad Γ 475), .int (nI i), .int 0]) (rest := []) (st1 := [.int (N (82 + 5 * i + 0))]) hF (r_house (N := N) (Hy := Hy) (k := k) (w := w) hst hN hu0 (a := (nI i)) (d := 0) (i := i) (j := 0) rfl rfl hi (by decide)) (va_cwS 3 hts qL_house rfl rfl rfl (by decide +kernel) ⟨Nat.le_of_ble_eq_true rfl, Nat.le_of_ble_eq_true rfl⟩) hK hZ hX hY hG hS rfl hl.1 (Nat.le_of_ble_eq_true rfl) dL_water_8 ⟨Nat.le_of_ble_eq_true rfl, Nat.le_of_ble_eq_true rfl⟩ (by omega) (by omega) rfl rfl (fun H locs hG hS => ?_)
  refine g_top (y := (nI sg)) esg ?_
  refine lv_istore (lv' := [(4, .int (nI sg)), (2, .long (sumF N)), (0, .ref (gad Γ 475)), (1, .int (nI i))]) hx hb dL_water_11 hl (by decide) rfl (fun ls hl => ?_)
  refine lv_aload_n hx hb dL_water_13 rfl (lv_at hl 2 rfl) ?_
  refine lv_bipush (v := 18) hx hb dL_water_14 (by decide) ?_
  refine lv_iload_n hx hb dL_water_16 rfl (lv_at hl 3 rfl) ?_
  refine lv_iconst (v := 0) hx hb dL_water_17 (by decide) ?_
  refine lv_iconst (v := 0) hx hb dL_water_18 (by decide) ?_
  refine lv_iconst (v := 0) hx hb dL_water_19 (by decide) ?_
  refine l_call (X := 177) (K := 178) (CC := 392) (As := [.ref (gad Γ 475), .int 18, .int (nI i), .int 0, .int 0, .int 0]) (rest := []) (st1 := [.int (v_waterFor N (nI i))]) hF (q_water (l := l) (Γ := Γ) (N := N) (Hy := Hy) (k := k) (w := w) hst hN hu0 (a := (nI i)) rfl 0 hi) (va_cwS 6 hts qL_call rfl rfl rfl (by decide +kernel) ⟨Nat.le_of_ble_eq_true rfl, Nat.le_of_ble_eq_true rfl⟩) hK hZ hX hY hG hS rfl hl.1 (Nat.le_of_ble_eq_true rfl) dL_water_20 ⟨Nat.le_of_ble_eq_true rfl, Nat.le_of_ble_eq_true rfl⟩ (by omega) (by omega) rfl rfl (fun H locs hG hS => ?_)
  refine lv_istore (lv' := [(5, .int (v_waterFor N (nI i))), (4, .int (nI sg)), (2, .long (sumF N)), (0, .ref (gad Γ 475)), (1, .int (nI i))]) hx hb dL_water_23 hl (by decide) rfl (fun ls hl => ?_)
  refine lv_aload_n hx hb dL_water_25 rfl (lv_at hl 3 rfl) ?_
  refine lv_iload_n hx hb dL_water_26 rfl (lv_at hl 4 rfl) ?_
  refine lv_iconst (v := 3) hx hb dL_water_27 (by decide) ?_
  refine l_call (X := 178) (K := 179) (CC := 392) (As := [.ref (gad Γ 475), .int (nI i), .int 3]) (rest := []) (st1 := [.int (N (82 + 5 * i + 3))]) hF (r_house (N := N) (Hy := Hy) (k := k) (w := w) hst hN hu0 (a := (nI i)) (d := 3) (i := i) (j := 3) rfl rfl hi (by decide)) (va_cwS 3 hts qL_house rfl rfl rfl (by decide +kernel) ⟨Nat.le_of_ble_eq_true rfl, Nat.le_of_ble_eq_true rfl⟩) hK hZ hX hY hG hS rfl hl.1 (Nat.le_of_ble_eq_true rfl) dL_water_28 ⟨Nat.le_of_ble_eq_true rfl, Nat.le_of_ble_eq_true rfl⟩ (by omega) (by omega) rfl rfl (fun H locs hG hS => ?_)
  refine lv_istore (lv' := [(6, .int (N (82 + 5 * i + 3))), (5, .int (v_waterFor N (nI i))), (4, .int (nI sg)), (2, .long (sumF N)), (0, .ref (gad Γ 475)), (1, .int (nI i))]) hx hb dL_water_31 hl (by decide) rfl (fun ls hl => ?_)
  refine lv_aload_n hx hb dL_water_33 rfl (lv_at hl 4 rfl) ?_
  refine lv_bipush (v := 7) hx hb dL_water_34 (by decide) ?_
  refine lv_iload hx hb dL_water_36 (lv_at hl 2 rfl) ?_
  refine lv_iconst (v := 0) hx hb dL_water_38 (by decide) ?_
  refine lv_iconst (v := 0) hx hb dL_water_39 (by decide) ?_
  refine lv_iconst (v := 0) hx hb dL_water_40 (by decide) ?_
  refine l_call (X := 179) (K := 180) (CC := 392) (As := [.ref (gad Γ 475), .int 7, .int (nI sg), .int 0, .int 0, .int 0]) (rest := []) (st1 := [.int (-9999003)]) hF (q_bring_no (l := l) (Γ := Γ) (N := N) (Hy := Hy) (k := k) (w := w) hst hN hu0 (a := (nI sg)) rfl 0 hsg hfull) (va_cwS 6 hts qL_call rfl rfl rfl (by decide +kernel) ⟨Nat.le_of_ble_eq_true rfl, Nat.le_of_ble_eq_true rfl⟩) hK hZ hX hY hG hS rfl hl.1 (Nat.le_of_ble_eq_true rfl) dL_water_41 ⟨Nat.le_of_ble_eq_true rfl, Nat.le_of_ble_eq_true rfl⟩ (by omega) (by omega) rfl rfl (fun H locs hG hS => ?_)
  refine lv_istore (lv' := [(7, .int (-9999003)), (6, .int (N (82 + 5 * i + 3))), (5, .int (v_waterFor N (nI i))), (4, .int (nI sg)), (2, .long (sumF N)), (0, .ref (gad Γ 475)), (1, .int (nI i))]) hx hb dL_water_44 hl (by decide) rfl (fun ls hl => ?_)
  refine lv_iload hx hb dL_water_46 (lv_at hl 0 rfl) ?_
  refine lv_ldc hx hb hown k_1 dL_water_48 ?_
  refine lv_icmp_ne (tgt := 77) hx hb dL_water_50 (by decide) (fun c_1 => absurd (by decide) c_1) (fun c_1 => ?_)
  refine lv_aload_n hx hb dL_water_53 rfl (lv_at hl 5 rfl) ?_
  refine lv_iconst (v := 2) hx hb dL_water_54 (by decide) ?_
  refine l_call (X := 180) (K := 181) (CC := 392) (As := [.ref (gad Γ 475), .int 2]) (rest := []) (st1 := [.int (N 2)]) hF (r_about (N := N) (Hy := Hy) (k := k) (w := w) hst hN hu0 (a := 2) (j := 2) rfl (by decide)) (va_cwS 2 hts qL_about rfl rfl rfl (by decide +kernel) ⟨Nat.le_of_ble_eq_true rfl, Nat.le_of_ble_eq_true rfl⟩) hK hZ hX hY hG hS rfl hl.1 (Nat.le_of_ble_eq_true rfl) dL_water_55 ⟨Nat.le_of_ble_eq_true rfl, Nat.le_of_ble_eq_true rfl⟩ (by omega) (by omega) rfl rfl (fun H locs hG hS => ?_)
  refine lv_iconst (v := 3) hx hb dL_water_58 (by decide) ?_
  refine lv_icmp_ne (tgt := 75) hx hb dL_water_59 (by decide) (fun c_2 => absurd hfull c_2) (fun c_2 => ?_)
  refine lv_aload_n hx hb dL_water_62 rfl (lv_at hl 5 rfl) ?_
  refine l_call (X := 181) (K := 357) (CC := 392) (As := [.ref (gad Γ 475)]) (rest := []) (st1 := [.long (sumF N)]) hF (L_sum (N := N) (Hy := Hy) (k := k) (w := w) hst hN hu0) (va_cwS 1 hts qL_sum rfl rfl rfl (by decide +kernel) ⟨Nat.le_of_ble_eq_true rfl, Nat.le_of_ble_eq_true rfl⟩) hK hZ hX hY hG hS rfl hl.1 (Nat.le_of_ble_eq_true rfl) dL_water_63 ⟨Nat.le_of_ble_eq_true rfl, Nat.le_of_ble_eq_true rfl⟩ (by omega) (by omega) rfl rfl (fun H locs hG hS => ?_)
  refine lv_lload_n hx hb dL_water_66 rfl (lv_at hl 4 rfl) ?_
  refine W.lcmp hx hb dL_water_67 ?_
  refine gl_ne (tgt := 75) hx hb dL_water_68 (by decide) (fun c_3 => absurd rfl c_3) (fun c_3 => ?_)
  refine lv_iconst (v := 1) hx hb dL_water_71 (by decide) ?_
  refine lv_goto (tgt := 76) hx hb dL_water_72 (by decide) ?_
  exact l_zret hx hb hrt hlocks hS hG (by decide) rfl (by omega) dL_water_76

set_option maxHeartbeats 4000000 in
set_option maxRecDepth 100000 in
theorem L_water_Z {l : Launch} {Γ : gX} (hst : l.stackTraces = false) {u : Nat} {N : Nat → Int32} {Hy : Nat → Nat → Int32} {k : Nat} {w : WO} (hN : PI u N) (hu : 1998 * (u + 10000) < 2 ^ 31) (hk : k ≤ 14) {i sg : Nat} (hi : i < (N 1).toNatClampNeg) (esg : N (82 + 5 * i) = nI sg) (hsg : sg < (N 0).toNatClampNeg) (h3 : ¬ N 2 = 3) (hc1 : ¬ N 7 ≤ fX7_hourOn_P (fX7_wet_P N sg (nI 0)) (82 + 5 * i + 4)) (hw : v_waterFor N (nI i) = 0) : lM l Γ yL_water wqL_water 13 296 392 [.ref (gad Γ 475), .int (nI i)] (SH Γ N Hy k w) (some (.int 1)) (SH Γ N Hy (kM 12 k) w) := by
  refine l_start (cc := cL_water) (maxL := 10) (ret := (some .boolean)) (by decide) rfl (Nat.le_of_ble_eq_true rfl) ?_
  intro p e s m below meth c ls hx hb hml hrt hts hown hlocks hK hZ hX hY hG hS hl
  have hl : lv_has ls 10 [(0, .ref (gad Γ 475)), (1, .int (nI i))] := hl
  have hown : s.vm.findClass RL = some m.cls := hown
  have hF : CallFix p m c cL_water 10 s _ wqL_water RL := ⟨hx, hb, hml, hown, hts⟩
  have k_1 : (Cond.constant RL 26 (-9999003)).before _ s = true := hts _ (by decide +kernel)
  have b1 := hN.h8.2
  have b0 := hN.s10.2
  have s10 : sg < 10 := by omega
  have hu0 : 1998 * (u + 5000) < 2 ^ 31 := by omega
  have l3 := w3_lt hN h3
  obtain ⟨hW, e2⟩ := wg_PI hN h3 hsg
  obtain ⟨a0, a1, a2⟩ := wg_at N sg
  have e2n : (wgN N sg 2).toNatClampNeg = (N 2).toNatClampNeg + 1 := by rw [e2, nI_clamp (by omega)]
  have hw2 : (N 2).toNatClampNeg < (wgN N sg 2).toNatClampNeg := by rw [e2n]; omega
  have hu1 : 1998 * (u + 1 + 5000) < 2 ^ 31 := by omega
  have huQ : 1998 * (u + 1 + 17 * 1 + 5000) < 2 ^ 31 := by omega
  have ew2 : N 2 = nI (N 2).toNatClampNeg := hN.w3.1
  have hSP : PI (u + 1) (wgN N sg) := (show wgX N sg 0 = _ from (wgX_0 N sg)) ▸ wgX_PI hN (by omega) h3 hsg (x := 0) (by omega)
  have hQS := pass_PI hSP 1 (by omega)
  have hiS : i < (fX7_pass_L (wgN N sg) 1 1).toNatClampNeg := by
    rw [pass_hd hSP (j := 1) (by decide) (by decide) 1 (by omega), ← wgX_0 N sg]
    exact wgX_hi hN hi _
  have c1 := wat_no hN (by omega) h3 hsg (x := 0) (by omega) hi hc1
  rw [wgX_0] at c1
  refine lv_aload_n hx hb dL_water_0 rfl (lv_at hl 0 rfl) ?_
  refine l_call (X := 0) (K := 176) (CC := 392) (As := [.ref (gad Γ 475)]) (rest := []) (st1 := [.long (sumF N)]) hF (L_sum (N := N) (Hy := Hy) (k := k) (w := w) hst hN hu0) (va_cwS 1 hts qL_sum rfl rfl rfl (by decide +kernel) ⟨Nat.le_of_ble_eq_true rfl, Nat.le_of_ble_eq_true rfl⟩) hK hZ hX hY hG hS rfl hl.1 (Nat.le_of_ble_eq_true rfl) dL_water_1 ⟨Nat.le_of_ble_eq_true rfl, Nat.le_of_ble_eq_true rfl⟩ (by omega) (by omega) rfl rfl (fun H locs hG hS => ?_)
  refine lv_lstore_n (lv' := [(2, .long (sumF N)), (0, .ref (gad Γ 475)), (1, .int (nI i))]) hx hb dL_water_4 rfl hl (by decide) rfl (fun ls hl => ?_)
  refine lv_aload_n hx hb dL_water_5 rfl (lv_at hl 1 rfl) ?_
  refine lv_iload_n hx hb dL_water_6 rfl (lv_at hl 2 rfl) ?_
  refine lv_iconst (v := 0) hx hb dL_water_7 (by decide) ?_
  refine l_call (X := 176) (K := 177) (CC := 392) (As := [.ref (gad Γ 475), .int (nI i), .int 0]) (rest := []) (st1 := [.int (N (82 + 5 * i + 0))]) hF (r_house (N := N) (Hy := Hy) (k := k) (w := w) hst hN hu0 (a := (nI i)) (d := 0) (i := i) (j := 0) rfl rfl hi (by decide)) (va_cwS 3 hts qL_house rfl rfl rfl (by decide +kernel) ⟨Nat.le_of_ble_eq_true rfl, Nat.le_of_ble_eq_true rfl⟩) hK hZ hX hY hG hS rfl hl.1 (Nat.le_of_ble_eq_true rfl) dL_water_8 ⟨Nat.le_of_ble_eq_true rfl, Nat.le_of_ble_eq_true rfl⟩ (by omega) (by omega) rfl rfl (fun H locs hG hS => ?_)
  refine g_top (y := (nI sg)) esg ?_
  refine lv_istore (lv' := [(4, .int (nI sg)), (2, .long (sumF N)), (0, .ref (gad Γ 475)), (1, .int (nI i))]) hx hb dL_water_11 hl (by decide) rfl (fun ls hl => ?_)
  refine lv_aload_n hx hb dL_water_13 rfl (lv_at hl 2 rfl) ?_
  refine lv_bipush (v := 18) hx hb dL_water_14 (by decide) ?_
  refine lv_iload_n hx hb dL_water_16 rfl (lv_at hl 3 rfl) ?_
  refine lv_iconst (v := 0) hx hb dL_water_17 (by decide) ?_
  refine lv_iconst (v := 0) hx hb dL_water_18 (by decide) ?_
  refine lv_iconst (v := 0) hx hb dL_water_19 (by decide) ?_
  refine l_call (X := 177) (K := 178) (CC := 392) (As := [.ref (gad Γ 475), .int 18, .int (nI i), .int 0, .int 0, .int 0]) (rest := []) (st1 := [.int (v_waterFor N (nI i))]) hF (q_water (l := l) (Γ := Γ) (N := N) (Hy := Hy) (k := k) (w := w) hst hN hu0 (a := (nI i)) rfl 0 hi) (va_cwS 6 hts qL_call rfl rfl rfl (by decide +kernel) ⟨Nat.le_of_ble_eq_true rfl, Nat.le_of_ble_eq_true rfl⟩) hK hZ hX hY hG hS rfl hl.1 (Nat.le_of_ble_eq_true rfl) dL_water_20 ⟨Nat.le_of_ble_eq_true rfl, Nat.le_of_ble_eq_true rfl⟩ (by omega) (by omega) rfl rfl (fun H locs hG hS => ?_)
  refine g_top (y := 0) hw ?_
  refine lv_istore (lv' := [(5, .int 0), (4, .int (nI sg)), (2, .long (sumF N)), (0, .ref (gad Γ 475)), (1, .int (nI i))]) hx hb dL_water_23 hl (by decide) rfl (fun ls hl => ?_)
  refine lv_aload_n hx hb dL_water_25 rfl (lv_at hl 3 rfl) ?_
  refine lv_iload_n hx hb dL_water_26 rfl (lv_at hl 4 rfl) ?_
  refine lv_iconst (v := 3) hx hb dL_water_27 (by decide) ?_
  refine l_call (X := 178) (K := 179) (CC := 392) (As := [.ref (gad Γ 475), .int (nI i), .int 3]) (rest := []) (st1 := [.int (N (82 + 5 * i + 3))]) hF (r_house (N := N) (Hy := Hy) (k := k) (w := w) hst hN hu0 (a := (nI i)) (d := 3) (i := i) (j := 3) rfl rfl hi (by decide)) (va_cwS 3 hts qL_house rfl rfl rfl (by decide +kernel) ⟨Nat.le_of_ble_eq_true rfl, Nat.le_of_ble_eq_true rfl⟩) hK hZ hX hY hG hS rfl hl.1 (Nat.le_of_ble_eq_true rfl) dL_water_28 ⟨Nat.le_of_ble_eq_true rfl, Nat.le_of_ble_eq_true rfl⟩ (by omega) (by omega) rfl rfl (fun H locs hG hS => ?_)
  refine lv_istore (lv' := [(6, .int (N (82 + 5 * i + 3))), (5, .int 0), (4, .int (nI sg)), (2, .long (sumF N)), (0, .ref (gad Γ 475)), (1, .int (nI i))]) hx hb dL_water_31 hl (by decide) rfl (fun ls hl => ?_)
  refine lv_aload_n hx hb dL_water_33 rfl (lv_at hl 4 rfl) ?_
  refine lv_bipush (v := 7) hx hb dL_water_34 (by decide) ?_
  refine lv_iload hx hb dL_water_36 (lv_at hl 2 rfl) ?_
  refine lv_iconst (v := 0) hx hb dL_water_38 (by decide) ?_
  refine lv_iconst (v := 0) hx hb dL_water_39 (by decide) ?_
  refine lv_iconst (v := 0) hx hb dL_water_40 (by decide) ?_
  refine l_call (X := 179) (K := 180) (CC := 392) (As := [.ref (gad Γ 475), .int 7, .int (nI sg), .int 0, .int 0, .int 0]) (rest := []) (st1 := [.int (N 2)]) hF (q_bring (l := l) (Γ := Γ) (N := N) (Hy := Hy) (k := k) (w := w) hst hN hu0 (a := (nI sg)) rfl 0 hsg h3 (kN_0 hk)) (va_cwS 6 hts qL_call rfl rfl rfl (by decide +kernel) ⟨Nat.le_of_ble_eq_true rfl, Nat.le_of_ble_eq_true rfl⟩) hK hZ hX hY hG hS rfl hl.1 (Nat.le_of_ble_eq_true rfl) dL_water_41 ⟨Nat.le_of_ble_eq_true rfl, Nat.le_of_ble_eq_true rfl⟩ (by omega) (by omega) rfl rfl (fun H locs hG hS => ?_)
  refine g_top (y := (nI ((N 2).toNatClampNeg))) ew2 ?_
  refine lv_istore (lv' := [(7, .int (nI ((N 2).toNatClampNeg))), (6, .int (N (82 + 5 * i + 3))), (5, .int 0), (4, .int (nI sg)), (2, .long (sumF N)), (0, .ref (gad Γ 475)), (1, .int (nI i))]) hx hb dL_water_44 hl (by decide) rfl (fun ls hl => ?_)
  refine lv_iload hx hb dL_water_46 (lv_at hl 0 rfl) ?_
  refine lv_ldc hx hb hown k_1 dL_water_48 ?_
  refine lv_icmp_ne (tgt := 77) hx hb dL_water_50 (by decide) (fun c_1 => ?_) (fun c_1 => absurd c_1 (ne_st _ (by omega)))
  refine lv_aload_n hx hb dL_water_77 rfl (lv_at hl 5 rfl) ?_
  refine lv_iload hx hb dL_water_78 (lv_at hl 0 rfl) ?_
  refine lv_iconst (v := 1) hx hb dL_water_80 (by decide) ?_
  refine l_call (X := 180) (K := 181) (CC := 392) (As := [.ref (gad Γ 475), .int (nI ((N 2).toNatClampNeg)), .int 1]) (rest := []) (st1 := [.int ((wgN N sg) (122 + 3 * ((N 2).toNatClampNeg) + 1))]) hF (r_wagon (N := wgN N sg) (Hy := cons N Hy) (k := kM 13 k + 1) (w := w) hst hW hu0 (a := (nI ((N 2).toNatClampNeg))) (d := 1) (i := ((N 2).toNatClampNeg)) (j := 1) rfl rfl hw2 (by decide)) (va_cwS 3 hts qL_wagon rfl rfl rfl (by decide +kernel) ⟨Nat.le_of_ble_eq_true rfl, Nat.le_of_ble_eq_true rfl⟩) hK hZ hX hY hG hS rfl hl.1 (Nat.le_of_ble_eq_true rfl) dL_water_81 ⟨Nat.le_of_ble_eq_true rfl, Nat.le_of_ble_eq_true rfl⟩ (by omega) (by omega) rfl rfl (fun H locs hG hS => ?_)
  refine g_top (y := 20) a1 ?_
  refine lv_bipush (v := 20) hx hb dL_water_84 (by decide) ?_
  refine lv_icmp_ne (tgt := 104) hx hb dL_water_86 (by decide) (fun c_2 => absurd (by decide) c_2) (fun c_2 => ?_)
  refine lv_aload_n hx hb dL_water_89 rfl (lv_at hl 5 rfl) ?_
  refine lv_iload hx hb dL_water_90 (lv_at hl 0 rfl) ?_
  refine lv_iconst (v := 2) hx hb dL_water_92 (by decide) ?_
  refine l_call (X := 181) (K := 182) (CC := 392) (As := [.ref (gad Γ 475), .int (nI ((N 2).toNatClampNeg)), .int 2]) (rest := []) (st1 := [.int ((wgN N sg) (122 + 3 * ((N 2).toNatClampNeg) + 2))]) hF (r_wagon (N := wgN N sg) (Hy := cons N Hy) (k := kM 13 k + 1) (w := w) hst hW hu0 (a := (nI ((N 2).toNatClampNeg))) (d := 2) (i := ((N 2).toNatClampNeg)) (j := 2) rfl rfl hw2 (by decide)) (va_cwS 3 hts qL_wagon rfl rfl rfl (by decide +kernel) ⟨Nat.le_of_ble_eq_true rfl, Nat.le_of_ble_eq_true rfl⟩) hK hZ hX hY hG hS rfl hl.1 (Nat.le_of_ble_eq_true rfl) dL_water_93 ⟨Nat.le_of_ble_eq_true rfl, Nat.le_of_ble_eq_true rfl⟩ (by omega) (by omega) rfl rfl (fun H locs hG hS => ?_)
  refine g_top (y := 4) a2 ?_
  refine lv_iconst (v := 4) hx hb dL_water_96 (by decide) ?_
  refine lv_icmp_ne (tgt := 104) hx hb dL_water_97 (by decide) (fun c_3 => absurd (by decide) c_3) (fun c_3 => ?_)
  refine lv_iconst (v := 1) hx hb dL_water_100 (by decide) ?_
  refine lv_goto (tgt := 105) hx hb dL_water_101 (by decide) ?_
  refine lv_istore (lv' := [(8, .int 1), (7, .int (nI ((N 2).toNatClampNeg))), (6, .int (N (82 + 5 * i + 3))), (5, .int 0), (4, .int (nI sg)), (2, .long (sumF N)), (0, .ref (gad Γ 475)), (1, .int (nI i))]) hx hb dL_water_105 hl (by decide) rfl (fun ls hl => ?_)
  refine lv_iload hx hb dL_water_107 (lv_at hl 3 rfl) ?_
  refine lv_if_le (tgt := 139) hx hb dL_water_109 (by decide) (fun c_4 => ?_) (fun c_4 => absurd (by decide) c_4)
  refine lv_aload_n hx hb dL_water_139 rfl (lv_at hl 6 rfl) ?_
  refine lv_bipush (v := 14) hx hb dL_water_140 (by decide) ?_
  refine lv_iconst (v := 1) hx hb dL_water_142 (by decide) ?_
  refine lv_iconst (v := 0) hx hb dL_water_143 (by decide) ?_
  refine lv_iconst (v := 0) hx hb dL_water_144 (by decide) ?_
  refine lv_iconst (v := 0) hx hb dL_water_145 (by decide) ?_
  refine l_call (X := 182) (K := 183) (CC := 392) (As := [.ref (gad Γ 475), .int 14, .int 1, .int 0, .int 0, .int 0]) (rest := []) (st1 := [.int (fX7_pass_L (wgN N sg) 1 10 - (wgN N sg) 10)]) hF (q_pass (l := l) (Γ := Γ) (N := wgN N sg) (Hy := cons N Hy) (k := kM 13 k + 1) (w := w) hst hW hu0 (a := 1) rfl 0 (by decide) (by decide) (kN_M (d := 13) (d' := 12) (n := 1) (k := k) (by decide) (by decide) (by decide))) (va_cwS 6 hts qL_call rfl rfl rfl (by decide +kernel) ⟨Nat.le_of_ble_eq_true rfl, Nat.le_of_ble_eq_true rfl⟩) hK hZ hX hY hG hS rfl hl.1 (Nat.le_of_ble_eq_true rfl) dL_water_146 ⟨Nat.le_of_ble_eq_true rfl, Nat.le_of_ble_eq_true rfl⟩ (by omega) (by omega) rfl rfl (fun H locs hG hS => ?_)
  refine lv_istore (lv' := [(9, .int (fX7_pass_L (wgN N sg) 1 10 - (wgN N sg) 10)), (8, .int 1), (7, .int (nI ((N 2).toNatClampNeg))), (6, .int (N (82 + 5 * i + 3))), (5, .int 0), (4, .int (nI sg)), (2, .long (sumF N)), (0, .ref (gad Γ 475)), (1, .int (nI i))]) hx hb dL_water_149 hl (by decide) rfl (fun ls hl => ?_)
  refine lv_iload hx hb dL_water_151 (lv_at hl 1 rfl) ?_
  refine lv_iload hx hb dL_water_153 (lv_at hl 0 rfl) ?_
  refine lv_if_lt (tgt := 193) hx hb dL_water_155 (by decide) (fun c_5 => absurd c_5 (sub_nneg (hQS.n10) (hSP.n10) (by omega) (pass_10 hSP 1 (by omega)).1)) (fun c_5 => ?_)
  refine lv_aload_n hx hb dL_water_158 rfl (lv_at hl 7 rfl) ?_
  refine lv_iload_n hx hb dL_water_159 rfl (lv_at hl 8 rfl) ?_
  refine lv_iconst (v := 3) hx hb dL_water_160 (by decide) ?_
  refine l_call (X := 183) (K := 184) (CC := 392) (As := [.ref (gad Γ 475), .int (nI i), .int 3]) (rest := [.int 1]) (st1 := [.int ((fX7_pass_L (wgN N sg) 1) (82 + 5 * i + 3)), .int 1]) hF (r_house (N := fX7_pass_L (wgN N sg) 1) (Hy := cons (wgN N sg) (cons N Hy)) (k := kM 12 k + 2) (w := w) hst hQS huQ (a := (nI i)) (d := 3) (i := i) (j := 3) rfl rfl hiS (by decide)) (va_cwS 3 hts qL_house rfl rfl rfl (by decide +kernel) ⟨Nat.le_of_ble_eq_true rfl, Nat.le_of_ble_eq_true rfl⟩) hK hZ hX hY hG hS rfl hl.1 (Nat.le_of_ble_eq_true rfl) dL_water_161 ⟨Nat.le_of_ble_eq_true rfl, Nat.le_of_ble_eq_true rfl⟩ (by omega) (by omega) rfl rfl (fun H locs hG hS => ?_)
  refine lv_iload hx hb dL_water_164 (lv_at hl 3 rfl) ?_
  refine lv_icmp_ne (tgt := 173) hx hb dL_water_166 (by decide) (fun c_6 => absurd c1 c_6) (fun c_6 => ?_)
  refine lv_iconst (v := 1) hx hb dL_water_169 (by decide) ?_
  refine lv_goto (tgt := 174) hx hb dL_water_170 (by decide) ?_
  refine lv_iload hx hb dL_water_174 (lv_at hl 4 rfl) ?_
  refine lv_bipush (v := (-9)) hx hb dL_water_176 (by decide) ?_
  refine lv_icmp_eq (tgt := 185) hx hb dL_water_178 (by decide) (fun c_7 => absurd c_7 (by decide)) (fun c_7 => ?_)
  refine lv_iconst (v := 1) hx hb dL_water_181 (by decide) ?_
  refine lv_goto (tgt := 186) hx hb dL_water_182 (by decide) ?_
  refine lv_icmp_ne (tgt := 193) hx hb dL_water_186 (by decide) (fun c_8 => absurd (by decide) c_8) (fun c_8 => ?_)
  refine lv_iconst (v := 1) hx hb dL_water_189 (by decide) ?_
  refine lv_goto (tgt := 194) hx hb dL_water_190 (by decide) ?_
  refine lv_iand hx hb dL_water_194 ?_
  refine g_top (y := 1) (show (1 &&& 1 : Int32) = 1 from rfl) ?_
  refine lv_istore (lv' := [(8, .int 1), (9, .int (fX7_pass_L (wgN N sg) 1 10 - (wgN N sg) 10)), (7, .int (nI ((N 2).toNatClampNeg))), (6, .int (N (82 + 5 * i + 3))), (5, .int 0), (4, .int (nI sg)), (2, .long (sumF N)), (0, .ref (gad Γ 475)), (1, .int (nI i))]) hx hb dL_water_195 hl (by decide) rfl (fun ls hl => ?_)
  refine lv_iload hx hb dL_water_197 (lv_at hl 0 rfl) ?_
  refine lv_aload_n hx hb dL_water_199 rfl (lv_at hl 7 rfl) ?_
  refine lv_bipush (v := 15) hx hb dL_water_200 (by decide) ?_
  refine lv_iconst (v := 0) hx hb dL_water_202 (by decide) ?_
  refine lv_iconst (v := 0) hx hb dL_water_203 (by decide) ?_
  refine lv_iconst (v := 0) hx hb dL_water_204 (by decide) ?_
  refine lv_iconst (v := 0) hx hb dL_water_205 (by decide) ?_
  refine l_call (X := 184) (K := 185) (CC := 392) (As := [.ref (gad Γ 475), .int 15, .int 0, .int 0, .int 0, .int 0]) (rest := [.int 1]) (st1 := [.int (nI (kM 12 k + 1)), .int 1]) hF (q_undo (l := l) (Γ := Γ) (N := (wgN N sg)) (Hy := (cons N Hy)) (k := (kM 12 k + 1)) (w := w) (P := (fX7_pass_L (wgN N sg) 1)) hW 0 0) (va_cwS 6 hts qL_call rfl rfl rfl (by decide +kernel) ⟨Nat.le_of_ble_eq_true rfl, Nat.le_of_ble_eq_true rfl⟩) hK hZ hX hY hG hS rfl hl.1 (Nat.le_of_ble_eq_true rfl) dL_water_206 ⟨Nat.le_of_ble_eq_true rfl, Nat.le_of_ble_eq_true rfl⟩ (by omega) (by omega) rfl rfl (fun H locs hG hS => ?_)
  refine lv_if_lt (tgt := 234) hx hb dL_water_209 (by decide) (fun c_9 => absurd c_9 (kM_nn 12 1 k (by decide))) (fun c_9 => ?_)
  refine lv_iload hx hb dL_water_212 (lv_at hl 4 rfl) ?_
  refine lv_if_le (tgt := 230) hx hb dL_water_214 (by decide) (fun c_10 => ?_) (fun c_10 => absurd (by decide) c_10)
  refine lv_iconst (v := 1) hx hb dL_water_230 (by decide) ?_
  refine lv_goto (tgt := 235) hx hb dL_water_231 (by decide) ?_
  refine lv_iand hx hb dL_water_235 ?_
  refine g_top (y := 1) (show (1 &&& 1 : Int32) = 1 from rfl) ?_
  refine lv_istore (lv' := [(8, .int 1), (9, .int (fX7_pass_L (wgN N sg) 1 10 - (wgN N sg) 10)), (7, .int (nI ((N 2).toNatClampNeg))), (6, .int (N (82 + 5 * i + 3))), (5, .int 0), (4, .int (nI sg)), (2, .long (sumF N)), (0, .ref (gad Γ 475)), (1, .int (nI i))]) hx hb dL_water_236 hl (by decide) rfl (fun ls hl => ?_)
  refine lv_iload hx hb dL_water_238 (lv_at hl 4 rfl) ?_
  refine lv_if_le (tgt := 334) hx hb dL_water_240 (by decide) (fun c_11 => ?_) (fun c_11 => absurd (by decide) c_11)
  refine lv_iload hx hb dL_water_334 (lv_at hl 0 rfl) ?_
  refine lv_if_eq (tgt := 365) hx hb dL_water_336 (by decide) (fun c_12 => absurd c_12 (by decide)) (fun c_12 => ?_)
  refine lv_aload_n hx hb dL_water_339 rfl (lv_at hl 7 rfl) ?_
  refine lv_bipush (v := 15) hx hb dL_water_340 (by decide) ?_
  refine lv_iconst (v := 0) hx hb dL_water_342 (by decide) ?_
  refine lv_iconst (v := 0) hx hb dL_water_343 (by decide) ?_
  refine lv_iconst (v := 0) hx hb dL_water_344 (by decide) ?_
  refine lv_iconst (v := 0) hx hb dL_water_345 (by decide) ?_
  refine l_call (X := 185) (K := 186) (CC := 392) (As := [.ref (gad Γ 475), .int 15, .int 0, .int 0, .int 0, .int 0]) (rest := []) (st1 := [.int (nI (kM 12 k))]) hF (q_undo (l := l) (Γ := Γ) (N := N) (Hy := Hy) (k := (kM 12 k)) (w := w) (P := (wgN N sg)) hN 0 0) (va_cwS 6 hts qL_call rfl rfl rfl (by decide +kernel) ⟨Nat.le_of_ble_eq_true rfl, Nat.le_of_ble_eq_true rfl⟩) hK hZ hX hY hG hS rfl hl.1 (Nat.le_of_ble_eq_true rfl) dL_water_346 ⟨Nat.le_of_ble_eq_true rfl, Nat.le_of_ble_eq_true rfl⟩ (by omega) (by omega) rfl rfl (fun H locs hG hS => ?_)
  refine lv_if_lt (tgt := 365) hx hb dL_water_349 (by decide) (fun c_13 => absurd c_13 (kM_nn 12 0 k (by decide))) (fun c_13 => ?_)
  refine lv_aload_n hx hb dL_water_352 rfl (lv_at hl 7 rfl) ?_
  refine l_call (X := 186) (K := 362) (CC := 392) (As := [.ref (gad Γ 475)]) (rest := []) (st1 := [.long (sumF N)]) hF (L_sum (N := N) (Hy := Hy) (k := kM 12 k) (w := w) hst hN hu0) (va_cwS 1 hts qL_sum rfl rfl rfl (by decide +kernel) ⟨Nat.le_of_ble_eq_true rfl, Nat.le_of_ble_eq_true rfl⟩) hK hZ hX hY hG hS rfl hl.1 (Nat.le_of_ble_eq_true rfl) dL_water_353 ⟨Nat.le_of_ble_eq_true rfl, Nat.le_of_ble_eq_true rfl⟩ (by omega) (by omega) rfl rfl (fun H locs hG hS => ?_)
  refine lv_lload_n hx hb dL_water_356 rfl (lv_at hl 6 rfl) ?_
  refine W.lcmp hx hb dL_water_357 ?_
  refine gl_ne (tgt := 365) hx hb dL_water_358 (by decide) (fun c_14 => absurd rfl c_14) (fun c_14 => ?_)
  refine lv_iconst (v := 1) hx hb dL_water_361 (by decide) ?_
  refine lv_goto (tgt := 366) hx hb dL_water_362 (by decide) ?_
  exact l_zret hx hb hrt hlocks hS hG (by decide) rfl (by omega) dL_water_366

set_option maxHeartbeats 4000000 in
set_option maxRecDepth 100000 in
theorem L_water_NO {l : Launch} {Γ : gX} (hst : l.stackTraces = false) {u : Nat} {N : Nat → Int32} {Hy : Nat → Nat → Int32} {k : Nat} {w : WO} (hN : PI u N) (hu : 1998 * (u + 10000) < 2 ^ 31) (hk : k ≤ 14) {i sg : Nat} (hi : i < (N 1).toNatClampNeg) (esg : N (82 + 5 * i) = nI sg) (hsg : sg < (N 0).toNatClampNeg) (h3 : ¬ N 2 = 3) (hc1 : N 7 ≤ fX7_hourOn_P (fX7_wet_P N sg (nI 0)) (82 + 5 * i + 4)) (hw : v_waterFor N (nI i) = (-9)) : lM l Γ yL_water wqL_water 13 296 392 [.ref (gad Γ 475), .int (nI i)] (SH Γ N Hy k w) (some (.int 1)) (SH Γ N Hy (kM 12 k) w) := by
  refine l_start (cc := cL_water) (maxL := 10) (ret := (some .boolean)) (by decide) rfl (Nat.le_of_ble_eq_true rfl) ?_
  intro p e s m below meth c ls hx hb hml hrt hts hown hlocks hK hZ hX hY hG hS hl
  have hl : lv_has ls 10 [(0, .ref (gad Γ 475)), (1, .int (nI i))] := hl
  have hown : s.vm.findClass RL = some m.cls := hown
  have hF : CallFix p m c cL_water 10 s _ wqL_water RL := ⟨hx, hb, hml, hown, hts⟩
  have k_1 : (Cond.constant RL 26 (-9999003)).before _ s = true := hts _ (by decide +kernel)
  have b1 := hN.h8.2
  have b0 := hN.s10.2
  have s10 : sg < 10 := by omega
  have hu0 : 1998 * (u + 5000) < 2 ^ 31 := by omega
  have l3 := w3_lt hN h3
  obtain ⟨hW, e2⟩ := wg_PI hN h3 hsg
  obtain ⟨a0, a1, a2⟩ := wg_at N sg
  have e2n : (wgN N sg 2).toNatClampNeg = (N 2).toNatClampNeg + 1 := by rw [e2, nI_clamp (by omega)]
  have hw2 : (N 2).toNatClampNeg < (wgN N sg 2).toNatClampNeg := by rw [e2n]; omega
  have hu1 : 1998 * (u + 1 + 5000) < 2 ^ 31 := by omega
  have huQ : 1998 * (u + 1 + 17 * 1 + 5000) < 2 ^ 31 := by omega
  have ew2 : N 2 = nI (N 2).toNatClampNeg := hN.w3.1
  have hSP : PI (u + 1) (wgN N sg) := (show wgX N sg 0 = _ from (wgX_0 N sg)) ▸ wgX_PI hN (by omega) h3 hsg (x := 0) (by omega)
  have hQS := pass_PI hSP 1 (by omega)
  have hiS : i < (fX7_pass_L (wgN N sg) 1 1).toNatClampNeg := by
    rw [pass_hd hSP (j := 1) (by decide) (by decide) 1 (by omega), ← wgX_0 N sg]
    exact wgX_hi hN hi _
  have c1 := (wat_yes hN (by omega) h3 hsg (x := 0) (by omega) hi hc1).1
  rw [wgX_0] at c1
  have c1n : ¬ fX7_pass_L (wgN N sg) 1 (82 + 5 * i + 3) = N (82 + 5 * i + 3) := by
    rw [c1]
    exact (hN.nh (by omega) 3 u (by omega) rfl rfl).succ_ne (by omega)
  refine lv_aload_n hx hb dL_water_0 rfl (lv_at hl 0 rfl) ?_
  refine l_call (X := 0) (K := 176) (CC := 392) (As := [.ref (gad Γ 475)]) (rest := []) (st1 := [.long (sumF N)]) hF (L_sum (N := N) (Hy := Hy) (k := k) (w := w) hst hN hu0) (va_cwS 1 hts qL_sum rfl rfl rfl (by decide +kernel) ⟨Nat.le_of_ble_eq_true rfl, Nat.le_of_ble_eq_true rfl⟩) hK hZ hX hY hG hS rfl hl.1 (Nat.le_of_ble_eq_true rfl) dL_water_1 ⟨Nat.le_of_ble_eq_true rfl, Nat.le_of_ble_eq_true rfl⟩ (by omega) (by omega) rfl rfl (fun H locs hG hS => ?_)
  refine lv_lstore_n (lv' := [(2, .long (sumF N)), (0, .ref (gad Γ 475)), (1, .int (nI i))]) hx hb dL_water_4 rfl hl (by decide) rfl (fun ls hl => ?_)
  refine lv_aload_n hx hb dL_water_5 rfl (lv_at hl 1 rfl) ?_
  refine lv_iload_n hx hb dL_water_6 rfl (lv_at hl 2 rfl) ?_
  refine lv_iconst (v := 0) hx hb dL_water_7 (by decide) ?_
  refine l_call (X := 176) (K := 177) (CC := 392) (As := [.ref (gad Γ 475), .int (nI i), .int 0]) (rest := []) (st1 := [.int (N (82 + 5 * i + 0))]) hF (r_house (N := N) (Hy := Hy) (k := k) (w := w) hst hN hu0 (a := (nI i)) (d := 0) (i := i) (j := 0) rfl rfl hi (by decide)) (va_cwS 3 hts qL_house rfl rfl rfl (by decide +kernel) ⟨Nat.le_of_ble_eq_true rfl, Nat.le_of_ble_eq_true rfl⟩) hK hZ hX hY hG hS rfl hl.1 (Nat.le_of_ble_eq_true rfl) dL_water_8 ⟨Nat.le_of_ble_eq_true rfl, Nat.le_of_ble_eq_true rfl⟩ (by omega) (by omega) rfl rfl (fun H locs hG hS => ?_)
  refine g_top (y := (nI sg)) esg ?_
  refine lv_istore (lv' := [(4, .int (nI sg)), (2, .long (sumF N)), (0, .ref (gad Γ 475)), (1, .int (nI i))]) hx hb dL_water_11 hl (by decide) rfl (fun ls hl => ?_)
  refine lv_aload_n hx hb dL_water_13 rfl (lv_at hl 2 rfl) ?_
  refine lv_bipush (v := 18) hx hb dL_water_14 (by decide) ?_
  refine lv_iload_n hx hb dL_water_16 rfl (lv_at hl 3 rfl) ?_
  refine lv_iconst (v := 0) hx hb dL_water_17 (by decide) ?_
  refine lv_iconst (v := 0) hx hb dL_water_18 (by decide) ?_
  refine lv_iconst (v := 0) hx hb dL_water_19 (by decide) ?_
  refine l_call (X := 177) (K := 178) (CC := 392) (As := [.ref (gad Γ 475), .int 18, .int (nI i), .int 0, .int 0, .int 0]) (rest := []) (st1 := [.int (v_waterFor N (nI i))]) hF (q_water (l := l) (Γ := Γ) (N := N) (Hy := Hy) (k := k) (w := w) hst hN hu0 (a := (nI i)) rfl 0 hi) (va_cwS 6 hts qL_call rfl rfl rfl (by decide +kernel) ⟨Nat.le_of_ble_eq_true rfl, Nat.le_of_ble_eq_true rfl⟩) hK hZ hX hY hG hS rfl hl.1 (Nat.le_of_ble_eq_true rfl) dL_water_20 ⟨Nat.le_of_ble_eq_true rfl, Nat.le_of_ble_eq_true rfl⟩ (by omega) (by omega) rfl rfl (fun H locs hG hS => ?_)
  refine g_top (y := (-9)) hw ?_
  refine lv_istore (lv' := [(5, .int (-9)), (4, .int (nI sg)), (2, .long (sumF N)), (0, .ref (gad Γ 475)), (1, .int (nI i))]) hx hb dL_water_23 hl (by decide) rfl (fun ls hl => ?_)
  refine lv_aload_n hx hb dL_water_25 rfl (lv_at hl 3 rfl) ?_
  refine lv_iload_n hx hb dL_water_26 rfl (lv_at hl 4 rfl) ?_
  refine lv_iconst (v := 3) hx hb dL_water_27 (by decide) ?_
  refine l_call (X := 178) (K := 179) (CC := 392) (As := [.ref (gad Γ 475), .int (nI i), .int 3]) (rest := []) (st1 := [.int (N (82 + 5 * i + 3))]) hF (r_house (N := N) (Hy := Hy) (k := k) (w := w) hst hN hu0 (a := (nI i)) (d := 3) (i := i) (j := 3) rfl rfl hi (by decide)) (va_cwS 3 hts qL_house rfl rfl rfl (by decide +kernel) ⟨Nat.le_of_ble_eq_true rfl, Nat.le_of_ble_eq_true rfl⟩) hK hZ hX hY hG hS rfl hl.1 (Nat.le_of_ble_eq_true rfl) dL_water_28 ⟨Nat.le_of_ble_eq_true rfl, Nat.le_of_ble_eq_true rfl⟩ (by omega) (by omega) rfl rfl (fun H locs hG hS => ?_)
  refine lv_istore (lv' := [(6, .int (N (82 + 5 * i + 3))), (5, .int (-9)), (4, .int (nI sg)), (2, .long (sumF N)), (0, .ref (gad Γ 475)), (1, .int (nI i))]) hx hb dL_water_31 hl (by decide) rfl (fun ls hl => ?_)
  refine lv_aload_n hx hb dL_water_33 rfl (lv_at hl 4 rfl) ?_
  refine lv_bipush (v := 7) hx hb dL_water_34 (by decide) ?_
  refine lv_iload hx hb dL_water_36 (lv_at hl 2 rfl) ?_
  refine lv_iconst (v := 0) hx hb dL_water_38 (by decide) ?_
  refine lv_iconst (v := 0) hx hb dL_water_39 (by decide) ?_
  refine lv_iconst (v := 0) hx hb dL_water_40 (by decide) ?_
  refine l_call (X := 179) (K := 180) (CC := 392) (As := [.ref (gad Γ 475), .int 7, .int (nI sg), .int 0, .int 0, .int 0]) (rest := []) (st1 := [.int (N 2)]) hF (q_bring (l := l) (Γ := Γ) (N := N) (Hy := Hy) (k := k) (w := w) hst hN hu0 (a := (nI sg)) rfl 0 hsg h3 (kN_0 hk)) (va_cwS 6 hts qL_call rfl rfl rfl (by decide +kernel) ⟨Nat.le_of_ble_eq_true rfl, Nat.le_of_ble_eq_true rfl⟩) hK hZ hX hY hG hS rfl hl.1 (Nat.le_of_ble_eq_true rfl) dL_water_41 ⟨Nat.le_of_ble_eq_true rfl, Nat.le_of_ble_eq_true rfl⟩ (by omega) (by omega) rfl rfl (fun H locs hG hS => ?_)
  refine g_top (y := (nI ((N 2).toNatClampNeg))) ew2 ?_
  refine lv_istore (lv' := [(7, .int (nI ((N 2).toNatClampNeg))), (6, .int (N (82 + 5 * i + 3))), (5, .int (-9)), (4, .int (nI sg)), (2, .long (sumF N)), (0, .ref (gad Γ 475)), (1, .int (nI i))]) hx hb dL_water_44 hl (by decide) rfl (fun ls hl => ?_)
  refine lv_iload hx hb dL_water_46 (lv_at hl 0 rfl) ?_
  refine lv_ldc hx hb hown k_1 dL_water_48 ?_
  refine lv_icmp_ne (tgt := 77) hx hb dL_water_50 (by decide) (fun c_1 => ?_) (fun c_1 => absurd c_1 (ne_st _ (by omega)))
  refine lv_aload_n hx hb dL_water_77 rfl (lv_at hl 5 rfl) ?_
  refine lv_iload hx hb dL_water_78 (lv_at hl 0 rfl) ?_
  refine lv_iconst (v := 1) hx hb dL_water_80 (by decide) ?_
  refine l_call (X := 180) (K := 181) (CC := 392) (As := [.ref (gad Γ 475), .int (nI ((N 2).toNatClampNeg)), .int 1]) (rest := []) (st1 := [.int ((wgN N sg) (122 + 3 * ((N 2).toNatClampNeg) + 1))]) hF (r_wagon (N := wgN N sg) (Hy := cons N Hy) (k := kM 13 k + 1) (w := w) hst hW hu0 (a := (nI ((N 2).toNatClampNeg))) (d := 1) (i := ((N 2).toNatClampNeg)) (j := 1) rfl rfl hw2 (by decide)) (va_cwS 3 hts qL_wagon rfl rfl rfl (by decide +kernel) ⟨Nat.le_of_ble_eq_true rfl, Nat.le_of_ble_eq_true rfl⟩) hK hZ hX hY hG hS rfl hl.1 (Nat.le_of_ble_eq_true rfl) dL_water_81 ⟨Nat.le_of_ble_eq_true rfl, Nat.le_of_ble_eq_true rfl⟩ (by omega) (by omega) rfl rfl (fun H locs hG hS => ?_)
  refine g_top (y := 20) a1 ?_
  refine lv_bipush (v := 20) hx hb dL_water_84 (by decide) ?_
  refine lv_icmp_ne (tgt := 104) hx hb dL_water_86 (by decide) (fun c_2 => absurd (by decide) c_2) (fun c_2 => ?_)
  refine lv_aload_n hx hb dL_water_89 rfl (lv_at hl 5 rfl) ?_
  refine lv_iload hx hb dL_water_90 (lv_at hl 0 rfl) ?_
  refine lv_iconst (v := 2) hx hb dL_water_92 (by decide) ?_
  refine l_call (X := 181) (K := 182) (CC := 392) (As := [.ref (gad Γ 475), .int (nI ((N 2).toNatClampNeg)), .int 2]) (rest := []) (st1 := [.int ((wgN N sg) (122 + 3 * ((N 2).toNatClampNeg) + 2))]) hF (r_wagon (N := wgN N sg) (Hy := cons N Hy) (k := kM 13 k + 1) (w := w) hst hW hu0 (a := (nI ((N 2).toNatClampNeg))) (d := 2) (i := ((N 2).toNatClampNeg)) (j := 2) rfl rfl hw2 (by decide)) (va_cwS 3 hts qL_wagon rfl rfl rfl (by decide +kernel) ⟨Nat.le_of_ble_eq_true rfl, Nat.le_of_ble_eq_true rfl⟩) hK hZ hX hY hG hS rfl hl.1 (Nat.le_of_ble_eq_true rfl) dL_water_93 ⟨Nat.le_of_ble_eq_true rfl, Nat.le_of_ble_eq_true rfl⟩ (by omega) (by omega) rfl rfl (fun H locs hG hS => ?_)
  refine g_top (y := 4) a2 ?_
  refine lv_iconst (v := 4) hx hb dL_water_96 (by decide) ?_
  refine lv_icmp_ne (tgt := 104) hx hb dL_water_97 (by decide) (fun c_3 => absurd (by decide) c_3) (fun c_3 => ?_)
  refine lv_iconst (v := 1) hx hb dL_water_100 (by decide) ?_
  refine lv_goto (tgt := 105) hx hb dL_water_101 (by decide) ?_
  refine lv_istore (lv' := [(8, .int 1), (7, .int (nI ((N 2).toNatClampNeg))), (6, .int (N (82 + 5 * i + 3))), (5, .int (-9)), (4, .int (nI sg)), (2, .long (sumF N)), (0, .ref (gad Γ 475)), (1, .int (nI i))]) hx hb dL_water_105 hl (by decide) rfl (fun ls hl => ?_)
  refine lv_iload hx hb dL_water_107 (lv_at hl 3 rfl) ?_
  refine lv_if_le (tgt := 139) hx hb dL_water_109 (by decide) (fun c_4 => ?_) (fun c_4 => absurd (by decide) c_4)
  refine lv_aload_n hx hb dL_water_139 rfl (lv_at hl 6 rfl) ?_
  refine lv_bipush (v := 14) hx hb dL_water_140 (by decide) ?_
  refine lv_iconst (v := 1) hx hb dL_water_142 (by decide) ?_
  refine lv_iconst (v := 0) hx hb dL_water_143 (by decide) ?_
  refine lv_iconst (v := 0) hx hb dL_water_144 (by decide) ?_
  refine lv_iconst (v := 0) hx hb dL_water_145 (by decide) ?_
  refine l_call (X := 182) (K := 183) (CC := 392) (As := [.ref (gad Γ 475), .int 14, .int 1, .int 0, .int 0, .int 0]) (rest := []) (st1 := [.int (fX7_pass_L (wgN N sg) 1 10 - (wgN N sg) 10)]) hF (q_pass (l := l) (Γ := Γ) (N := wgN N sg) (Hy := cons N Hy) (k := kM 13 k + 1) (w := w) hst hW hu0 (a := 1) rfl 0 (by decide) (by decide) (kN_M (d := 13) (d' := 12) (n := 1) (k := k) (by decide) (by decide) (by decide))) (va_cwS 6 hts qL_call rfl rfl rfl (by decide +kernel) ⟨Nat.le_of_ble_eq_true rfl, Nat.le_of_ble_eq_true rfl⟩) hK hZ hX hY hG hS rfl hl.1 (Nat.le_of_ble_eq_true rfl) dL_water_146 ⟨Nat.le_of_ble_eq_true rfl, Nat.le_of_ble_eq_true rfl⟩ (by omega) (by omega) rfl rfl (fun H locs hG hS => ?_)
  refine lv_istore (lv' := [(9, .int (fX7_pass_L (wgN N sg) 1 10 - (wgN N sg) 10)), (8, .int 1), (7, .int (nI ((N 2).toNatClampNeg))), (6, .int (N (82 + 5 * i + 3))), (5, .int (-9)), (4, .int (nI sg)), (2, .long (sumF N)), (0, .ref (gad Γ 475)), (1, .int (nI i))]) hx hb dL_water_149 hl (by decide) rfl (fun ls hl => ?_)
  refine lv_iload hx hb dL_water_151 (lv_at hl 1 rfl) ?_
  refine lv_iload hx hb dL_water_153 (lv_at hl 0 rfl) ?_
  refine lv_if_lt (tgt := 193) hx hb dL_water_155 (by decide) (fun c_5 => absurd c_5 (sub_nneg (hQS.n10) (hSP.n10) (by omega) (pass_10 hSP 1 (by omega)).1)) (fun c_5 => ?_)
  refine lv_aload_n hx hb dL_water_158 rfl (lv_at hl 7 rfl) ?_
  refine lv_iload_n hx hb dL_water_159 rfl (lv_at hl 8 rfl) ?_
  refine lv_iconst (v := 3) hx hb dL_water_160 (by decide) ?_
  refine l_call (X := 183) (K := 184) (CC := 392) (As := [.ref (gad Γ 475), .int (nI i), .int 3]) (rest := [.int 1]) (st1 := [.int ((fX7_pass_L (wgN N sg) 1) (82 + 5 * i + 3)), .int 1]) hF (r_house (N := fX7_pass_L (wgN N sg) 1) (Hy := cons (wgN N sg) (cons N Hy)) (k := kM 12 k + 2) (w := w) hst hQS huQ (a := (nI i)) (d := 3) (i := i) (j := 3) rfl rfl hiS (by decide)) (va_cwS 3 hts qL_house rfl rfl rfl (by decide +kernel) ⟨Nat.le_of_ble_eq_true rfl, Nat.le_of_ble_eq_true rfl⟩) hK hZ hX hY hG hS rfl hl.1 (Nat.le_of_ble_eq_true rfl) dL_water_161 ⟨Nat.le_of_ble_eq_true rfl, Nat.le_of_ble_eq_true rfl⟩ (by omega) (by omega) rfl rfl (fun H locs hG hS => ?_)
  refine lv_iload hx hb dL_water_164 (lv_at hl 3 rfl) ?_
  refine lv_icmp_ne (tgt := 173) hx hb dL_water_166 (by decide) (fun c_6 => ?_) (fun c_6 => absurd c_6 c1n)
  refine lv_iconst (v := 0) hx hb dL_water_173 (by decide) ?_
  refine lv_iload hx hb dL_water_174 (lv_at hl 4 rfl) ?_
  refine lv_bipush (v := (-9)) hx hb dL_water_176 (by decide) ?_
  refine lv_icmp_eq (tgt := 185) hx hb dL_water_178 (by decide) (fun c_7 => ?_) (fun c_7 => absurd (by decide) c_7)
  refine lv_iconst (v := 0) hx hb dL_water_185 (by decide) ?_
  refine lv_icmp_ne (tgt := 193) hx hb dL_water_186 (by decide) (fun c_8 => absurd (by decide) c_8) (fun c_8 => ?_)
  refine lv_iconst (v := 1) hx hb dL_water_189 (by decide) ?_
  refine lv_goto (tgt := 194) hx hb dL_water_190 (by decide) ?_
  refine lv_iand hx hb dL_water_194 ?_
  refine g_top (y := 1) (show (1 &&& 1 : Int32) = 1 from rfl) ?_
  refine lv_istore (lv' := [(8, .int 1), (9, .int (fX7_pass_L (wgN N sg) 1 10 - (wgN N sg) 10)), (7, .int (nI ((N 2).toNatClampNeg))), (6, .int (N (82 + 5 * i + 3))), (5, .int (-9)), (4, .int (nI sg)), (2, .long (sumF N)), (0, .ref (gad Γ 475)), (1, .int (nI i))]) hx hb dL_water_195 hl (by decide) rfl (fun ls hl => ?_)
  refine lv_iload hx hb dL_water_197 (lv_at hl 0 rfl) ?_
  refine lv_aload_n hx hb dL_water_199 rfl (lv_at hl 7 rfl) ?_
  refine lv_bipush (v := 15) hx hb dL_water_200 (by decide) ?_
  refine lv_iconst (v := 0) hx hb dL_water_202 (by decide) ?_
  refine lv_iconst (v := 0) hx hb dL_water_203 (by decide) ?_
  refine lv_iconst (v := 0) hx hb dL_water_204 (by decide) ?_
  refine lv_iconst (v := 0) hx hb dL_water_205 (by decide) ?_
  refine l_call (X := 184) (K := 185) (CC := 392) (As := [.ref (gad Γ 475), .int 15, .int 0, .int 0, .int 0, .int 0]) (rest := [.int 1]) (st1 := [.int (nI (kM 12 k + 1)), .int 1]) hF (q_undo (l := l) (Γ := Γ) (N := (wgN N sg)) (Hy := (cons N Hy)) (k := (kM 12 k + 1)) (w := w) (P := (fX7_pass_L (wgN N sg) 1)) hW 0 0) (va_cwS 6 hts qL_call rfl rfl rfl (by decide +kernel) ⟨Nat.le_of_ble_eq_true rfl, Nat.le_of_ble_eq_true rfl⟩) hK hZ hX hY hG hS rfl hl.1 (Nat.le_of_ble_eq_true rfl) dL_water_206 ⟨Nat.le_of_ble_eq_true rfl, Nat.le_of_ble_eq_true rfl⟩ (by omega) (by omega) rfl rfl (fun H locs hG hS => ?_)
  refine lv_if_lt (tgt := 234) hx hb dL_water_209 (by decide) (fun c_9 => absurd c_9 (kM_nn 12 1 k (by decide))) (fun c_9 => ?_)
  refine lv_iload hx hb dL_water_212 (lv_at hl 4 rfl) ?_
  refine lv_if_le (tgt := 230) hx hb dL_water_214 (by decide) (fun c_10 => ?_) (fun c_10 => absurd (by decide) c_10)
  refine lv_iconst (v := 1) hx hb dL_water_230 (by decide) ?_
  refine lv_goto (tgt := 235) hx hb dL_water_231 (by decide) ?_
  refine lv_iand hx hb dL_water_235 ?_
  refine g_top (y := 1) (show (1 &&& 1 : Int32) = 1 from rfl) ?_
  refine lv_istore (lv' := [(8, .int 1), (9, .int (fX7_pass_L (wgN N sg) 1 10 - (wgN N sg) 10)), (7, .int (nI ((N 2).toNatClampNeg))), (6, .int (N (82 + 5 * i + 3))), (5, .int (-9)), (4, .int (nI sg)), (2, .long (sumF N)), (0, .ref (gad Γ 475)), (1, .int (nI i))]) hx hb dL_water_236 hl (by decide) rfl (fun ls hl => ?_)
  refine lv_iload hx hb dL_water_238 (lv_at hl 4 rfl) ?_
  refine lv_if_le (tgt := 334) hx hb dL_water_240 (by decide) (fun c_11 => ?_) (fun c_11 => absurd (by decide) c_11)
  refine lv_iload hx hb dL_water_334 (lv_at hl 0 rfl) ?_
  refine lv_if_eq (tgt := 365) hx hb dL_water_336 (by decide) (fun c_12 => absurd c_12 (by decide)) (fun c_12 => ?_)
  refine lv_aload_n hx hb dL_water_339 rfl (lv_at hl 7 rfl) ?_
  refine lv_bipush (v := 15) hx hb dL_water_340 (by decide) ?_
  refine lv_iconst (v := 0) hx hb dL_water_342 (by decide) ?_
  refine lv_iconst (v := 0) hx hb dL_water_343 (by decide) ?_
  refine lv_iconst (v := 0) hx hb dL_water_344 (by decide) ?_
  refine lv_iconst (v := 0) hx hb dL_water_345 (by decide) ?_
  refine l_call (X := 185) (K := 186) (CC := 392) (As := [.ref (gad Γ 475), .int 15, .int 0, .int 0, .int 0, .int 0]) (rest := []) (st1 := [.int (nI (kM 12 k))]) hF (q_undo (l := l) (Γ := Γ) (N := N) (Hy := Hy) (k := (kM 12 k)) (w := w) (P := (wgN N sg)) hN 0 0) (va_cwS 6 hts qL_call rfl rfl rfl (by decide +kernel) ⟨Nat.le_of_ble_eq_true rfl, Nat.le_of_ble_eq_true rfl⟩) hK hZ hX hY hG hS rfl hl.1 (Nat.le_of_ble_eq_true rfl) dL_water_346 ⟨Nat.le_of_ble_eq_true rfl, Nat.le_of_ble_eq_true rfl⟩ (by omega) (by omega) rfl rfl (fun H locs hG hS => ?_)
  refine lv_if_lt (tgt := 365) hx hb dL_water_349 (by decide) (fun c_13 => absurd c_13 (kM_nn 12 0 k (by decide))) (fun c_13 => ?_)
  refine lv_aload_n hx hb dL_water_352 rfl (lv_at hl 7 rfl) ?_
  refine l_call (X := 186) (K := 362) (CC := 392) (As := [.ref (gad Γ 475)]) (rest := []) (st1 := [.long (sumF N)]) hF (L_sum (N := N) (Hy := Hy) (k := kM 12 k) (w := w) hst hN hu0) (va_cwS 1 hts qL_sum rfl rfl rfl (by decide +kernel) ⟨Nat.le_of_ble_eq_true rfl, Nat.le_of_ble_eq_true rfl⟩) hK hZ hX hY hG hS rfl hl.1 (Nat.le_of_ble_eq_true rfl) dL_water_353 ⟨Nat.le_of_ble_eq_true rfl, Nat.le_of_ble_eq_true rfl⟩ (by omega) (by omega) rfl rfl (fun H locs hG hS => ?_)
  refine lv_lload_n hx hb dL_water_356 rfl (lv_at hl 6 rfl) ?_
  refine W.lcmp hx hb dL_water_357 ?_
  refine gl_ne (tgt := 365) hx hb dL_water_358 (by decide) (fun c_14 => absurd rfl c_14) (fun c_14 => ?_)
  refine lv_iconst (v := 1) hx hb dL_water_361 (by decide) ?_
  refine lv_goto (tgt := 366) hx hb dL_water_362 (by decide) ?_
  exact l_zret hx hb hrt hlocks hS hG (by decide) rfl (by omega) dL_water_366

set_option maxHeartbeats 4000000 in
set_option maxRecDepth 100000 in
theorem L_water_P1 {l : Launch} {Γ : gX} (hst : l.stackTraces = false) {u : Nat} {N : Nat → Int32} {Hy : Nat → Nat → Int32} {k : Nat} {w : WO} (hN : PI u N) (hu : 1998 * (u + 10000) < 2 ^ 31) (hk : k ≤ 14) {i sg : Nat} (hi : i < (N 1).toNatClampNeg) (esg : N (82 + 5 * i) = nI sg) (hsg : sg < (N 0).toNatClampNeg) (h3 : ¬ N 2 = 3) (hc1 : ¬ N 7 ≤ fX7_hourOn_P (fX7_wet_P N sg (nI 1)) (82 + 5 * i + 4)) (hc2 : N 7 ≤ fX7_hourOn_P (fX7_wet_P N sg (nI 0)) (82 + 5 * i + 4)) (hw : v_waterFor N (nI i) = 1) : lM l Γ yL_water wqL_water 13 296 392 [.ref (gad Γ 475), .int (nI i)] (SH Γ N Hy k w) (some (.int 1)) (SH Γ N Hy (kM 11 k) w) := by
  refine l_start (cc := cL_water) (maxL := 10) (ret := (some .boolean)) (by decide) rfl (Nat.le_of_ble_eq_true rfl) ?_
  intro p e s m below meth c ls hx hb hml hrt hts hown hlocks hK hZ hX hY hG hS hl
  have hl : lv_has ls 10 [(0, .ref (gad Γ 475)), (1, .int (nI i))] := hl
  have hown : s.vm.findClass RL = some m.cls := hown
  have hF : CallFix p m c cL_water 10 s _ wqL_water RL := ⟨hx, hb, hml, hown, hts⟩
  have k_1 : (Cond.constant RL 26 (-9999003)).before _ s = true := hts _ (by decide +kernel)
  have b1 := hN.h8.2
  have b0 := hN.s10.2
  have s10 : sg < 10 := by omega
  have hu0 : 1998 * (u + 5000) < 2 ^ 31 := by omega
  have l3 := w3_lt hN h3
  obtain ⟨hW, e2⟩ := wg_PI hN h3 hsg
  obtain ⟨a0, a1, a2⟩ := wg_at N sg
  have e2n : (wgN N sg 2).toNatClampNeg = (N 2).toNatClampNeg + 1 := by rw [e2, nI_clamp (by omega)]
  have hw2 : (N 2).toNatClampNeg < (wgN N sg 2).toNatClampNeg := by rw [e2n]; omega
  have hu1 : 1998 * (u + 1 + 5000) < 2 ^ 31 := by omega
  have huQ : 1998 * (u + 1 + 17 * 1 + 5000) < 2 ^ 31 := by omega
  have ew2 : N 2 = nI (N 2).toNatClampNeg := hN.w3.1
  have hSP : PI (u + 1) (spS (wgN N sg) (N 2).toNatClampNeg sg (nI 1)) := (show wgX N sg 1 = _ from (wgX_1 N sg (x := 1) (by omega))) ▸ wgX_PI hN (by omega) h3 hsg (x := 1) (by omega)
  have hQS := pass_PI hSP 1 (by omega)
  have hiS : i < (fX7_pass_L (spS (wgN N sg) (N 2).toNatClampNeg sg (nI 1)) 1 1).toNatClampNeg := by
    rw [pass_hd hSP (j := 1) (by decide) (by decide) 1 (by omega), ← wgX_1 N sg (x := 1) (by omega)]
    exact wgX_hi hN hi _
  have hT : PI (u + 1) (wgN N sg) := (show wgX N sg 0 = _ from (wgX_0 N sg)) ▸ wgX_PI hN (by omega) h3 hsg (x := 0) (by omega)
  have hQT := pass_PI hT 1 (by omega)
  have hiT : i < (fX7_pass_L (wgN N sg) 1 1).toNatClampNeg := by
    rw [pass_hd hT (j := 1) (by decide) (by decide) 1 (by omega), ← wgX_0 N sg]
    exact wgX_hi hN hi _
  have c1 := wat_no hN (by omega) h3 hsg (x := 1) (by omega) hi hc1
  rw [wgX_1 N sg (by omega)] at c1
  have c2 := wat_yes hN (by omega) h3 hsg (x := 0) (by omega) hi hc2
  rw [wgX_0] at c2
  have g1 := wat_ge hN s10 (x := 1) (by omega) (by omega)
  refine lv_aload_n hx hb dL_water_0 rfl (lv_at hl 0 rfl) ?_
  refine l_call (X := 0) (K := 176) (CC := 392) (As := [.ref (gad Γ 475)]) (rest := []) (st1 := [.long (sumF N)]) hF (L_sum (N := N) (Hy := Hy) (k := k) (w := w) hst hN hu0) (va_cwS 1 hts qL_sum rfl rfl rfl (by decide +kernel) ⟨Nat.le_of_ble_eq_true rfl, Nat.le_of_ble_eq_true rfl⟩) hK hZ hX hY hG hS rfl hl.1 (Nat.le_of_ble_eq_true rfl) dL_water_1 ⟨Nat.le_of_ble_eq_true rfl, Nat.le_of_ble_eq_true rfl⟩ (by omega) (by omega) rfl rfl (fun H locs hG hS => ?_)
  refine lv_lstore_n (lv' := [(2, .long (sumF N)), (0, .ref (gad Γ 475)), (1, .int (nI i))]) hx hb dL_water_4 rfl hl (by decide) rfl (fun ls hl => ?_)
  refine lv_aload_n hx hb dL_water_5 rfl (lv_at hl 1 rfl) ?_
  refine lv_iload_n hx hb dL_water_6 rfl (lv_at hl 2 rfl) ?_
  refine lv_iconst (v := 0) hx hb dL_water_7 (by decide) ?_
  refine l_call (X := 176) (K := 177) (CC := 392) (As := [.ref (gad Γ 475), .int (nI i), .int 0]) (rest := []) (st1 := [.int (N (82 + 5 * i + 0))]) hF (r_house (N := N) (Hy := Hy) (k := k) (w := w) hst hN hu0 (a := (nI i)) (d := 0) (i := i) (j := 0) rfl rfl hi (by decide)) (va_cwS 3 hts qL_house rfl rfl rfl (by decide +kernel) ⟨Nat.le_of_ble_eq_true rfl, Nat.le_of_ble_eq_true rfl⟩) hK hZ hX hY hG hS rfl hl.1 (Nat.le_of_ble_eq_true rfl) dL_water_8 ⟨Nat.le_of_ble_eq_true rfl, Nat.le_of_ble_eq_true rfl⟩ (by omega) (by omega) rfl rfl (fun H locs hG hS => ?_)
  refine g_top (y := (nI sg)) esg ?_
  refine lv_istore (lv' := [(4, .int (nI sg)), (2, .long (sumF N)), (0, .ref (gad Γ 475)), (1, .int (nI i))]) hx hb dL_water_11 hl (by decide) rfl (fun ls hl => ?_)
  refine lv_aload_n hx hb dL_water_13 rfl (lv_at hl 2 rfl) ?_
  refine lv_bipush (v := 18) hx hb dL_water_14 (by decide) ?_
  refine lv_iload_n hx hb dL_water_16 rfl (lv_at hl 3 rfl) ?_
  refine lv_iconst (v := 0) hx hb dL_water_17 (by decide) ?_
  refine lv_iconst (v := 0) hx hb dL_water_18 (by decide) ?_
  refine lv_iconst (v := 0) hx hb dL_water_19 (by decide) ?_
  refine l_call (X := 177) (K := 178) (CC := 392) (As := [.ref (gad Γ 475), .int 18, .int (nI i), .int 0, .int 0, .int 0]) (rest := []) (st1 := [.int (v_waterFor N (nI i))]) hF (q_water (l := l) (Γ := Γ) (N := N) (Hy := Hy) (k := k) (w := w) hst hN hu0 (a := (nI i)) rfl 0 hi) (va_cwS 6 hts qL_call rfl rfl rfl (by decide +kernel) ⟨Nat.le_of_ble_eq_true rfl, Nat.le_of_ble_eq_true rfl⟩) hK hZ hX hY hG hS rfl hl.1 (Nat.le_of_ble_eq_true rfl) dL_water_20 ⟨Nat.le_of_ble_eq_true rfl, Nat.le_of_ble_eq_true rfl⟩ (by omega) (by omega) rfl rfl (fun H locs hG hS => ?_)
  refine g_top (y := 1) hw ?_
  refine lv_istore (lv' := [(5, .int 1), (4, .int (nI sg)), (2, .long (sumF N)), (0, .ref (gad Γ 475)), (1, .int (nI i))]) hx hb dL_water_23 hl (by decide) rfl (fun ls hl => ?_)
  refine lv_aload_n hx hb dL_water_25 rfl (lv_at hl 3 rfl) ?_
  refine lv_iload_n hx hb dL_water_26 rfl (lv_at hl 4 rfl) ?_
  refine lv_iconst (v := 3) hx hb dL_water_27 (by decide) ?_
  refine l_call (X := 178) (K := 179) (CC := 392) (As := [.ref (gad Γ 475), .int (nI i), .int 3]) (rest := []) (st1 := [.int (N (82 + 5 * i + 3))]) hF (r_house (N := N) (Hy := Hy) (k := k) (w := w) hst hN hu0 (a := (nI i)) (d := 3) (i := i) (j := 3) rfl rfl hi (by decide)) (va_cwS 3 hts qL_house rfl rfl rfl (by decide +kernel) ⟨Nat.le_of_ble_eq_true rfl, Nat.le_of_ble_eq_true rfl⟩) hK hZ hX hY hG hS rfl hl.1 (Nat.le_of_ble_eq_true rfl) dL_water_28 ⟨Nat.le_of_ble_eq_true rfl, Nat.le_of_ble_eq_true rfl⟩ (by omega) (by omega) rfl rfl (fun H locs hG hS => ?_)
  refine lv_istore (lv' := [(6, .int (N (82 + 5 * i + 3))), (5, .int 1), (4, .int (nI sg)), (2, .long (sumF N)), (0, .ref (gad Γ 475)), (1, .int (nI i))]) hx hb dL_water_31 hl (by decide) rfl (fun ls hl => ?_)
  refine lv_aload_n hx hb dL_water_33 rfl (lv_at hl 4 rfl) ?_
  refine lv_bipush (v := 7) hx hb dL_water_34 (by decide) ?_
  refine lv_iload hx hb dL_water_36 (lv_at hl 2 rfl) ?_
  refine lv_iconst (v := 0) hx hb dL_water_38 (by decide) ?_
  refine lv_iconst (v := 0) hx hb dL_water_39 (by decide) ?_
  refine lv_iconst (v := 0) hx hb dL_water_40 (by decide) ?_
  refine l_call (X := 179) (K := 180) (CC := 392) (As := [.ref (gad Γ 475), .int 7, .int (nI sg), .int 0, .int 0, .int 0]) (rest := []) (st1 := [.int (N 2)]) hF (q_bring (l := l) (Γ := Γ) (N := N) (Hy := Hy) (k := k) (w := w) hst hN hu0 (a := (nI sg)) rfl 0 hsg h3 (kN_0 hk)) (va_cwS 6 hts qL_call rfl rfl rfl (by decide +kernel) ⟨Nat.le_of_ble_eq_true rfl, Nat.le_of_ble_eq_true rfl⟩) hK hZ hX hY hG hS rfl hl.1 (Nat.le_of_ble_eq_true rfl) dL_water_41 ⟨Nat.le_of_ble_eq_true rfl, Nat.le_of_ble_eq_true rfl⟩ (by omega) (by omega) rfl rfl (fun H locs hG hS => ?_)
  refine g_top (y := (nI ((N 2).toNatClampNeg))) ew2 ?_
  refine lv_istore (lv' := [(7, .int (nI ((N 2).toNatClampNeg))), (6, .int (N (82 + 5 * i + 3))), (5, .int 1), (4, .int (nI sg)), (2, .long (sumF N)), (0, .ref (gad Γ 475)), (1, .int (nI i))]) hx hb dL_water_44 hl (by decide) rfl (fun ls hl => ?_)
  refine lv_iload hx hb dL_water_46 (lv_at hl 0 rfl) ?_
  refine lv_ldc hx hb hown k_1 dL_water_48 ?_
  refine lv_icmp_ne (tgt := 77) hx hb dL_water_50 (by decide) (fun c_1 => ?_) (fun c_1 => absurd c_1 (ne_st _ (by omega)))
  refine lv_aload_n hx hb dL_water_77 rfl (lv_at hl 5 rfl) ?_
  refine lv_iload hx hb dL_water_78 (lv_at hl 0 rfl) ?_
  refine lv_iconst (v := 1) hx hb dL_water_80 (by decide) ?_
  refine l_call (X := 180) (K := 181) (CC := 392) (As := [.ref (gad Γ 475), .int (nI ((N 2).toNatClampNeg)), .int 1]) (rest := []) (st1 := [.int ((wgN N sg) (122 + 3 * ((N 2).toNatClampNeg) + 1))]) hF (r_wagon (N := wgN N sg) (Hy := cons N Hy) (k := kM 13 k + 1) (w := w) hst hW hu0 (a := (nI ((N 2).toNatClampNeg))) (d := 1) (i := ((N 2).toNatClampNeg)) (j := 1) rfl rfl hw2 (by decide)) (va_cwS 3 hts qL_wagon rfl rfl rfl (by decide +kernel) ⟨Nat.le_of_ble_eq_true rfl, Nat.le_of_ble_eq_true rfl⟩) hK hZ hX hY hG hS rfl hl.1 (Nat.le_of_ble_eq_true rfl) dL_water_81 ⟨Nat.le_of_ble_eq_true rfl, Nat.le_of_ble_eq_true rfl⟩ (by omega) (by omega) rfl rfl (fun H locs hG hS => ?_)
  refine g_top (y := 20) a1 ?_
  refine lv_bipush (v := 20) hx hb dL_water_84 (by decide) ?_
  refine lv_icmp_ne (tgt := 104) hx hb dL_water_86 (by decide) (fun c_2 => absurd (by decide) c_2) (fun c_2 => ?_)
  refine lv_aload_n hx hb dL_water_89 rfl (lv_at hl 5 rfl) ?_
  refine lv_iload hx hb dL_water_90 (lv_at hl 0 rfl) ?_
  refine lv_iconst (v := 2) hx hb dL_water_92 (by decide) ?_
  refine l_call (X := 181) (K := 182) (CC := 392) (As := [.ref (gad Γ 475), .int (nI ((N 2).toNatClampNeg)), .int 2]) (rest := []) (st1 := [.int ((wgN N sg) (122 + 3 * ((N 2).toNatClampNeg) + 2))]) hF (r_wagon (N := wgN N sg) (Hy := cons N Hy) (k := kM 13 k + 1) (w := w) hst hW hu0 (a := (nI ((N 2).toNatClampNeg))) (d := 2) (i := ((N 2).toNatClampNeg)) (j := 2) rfl rfl hw2 (by decide)) (va_cwS 3 hts qL_wagon rfl rfl rfl (by decide +kernel) ⟨Nat.le_of_ble_eq_true rfl, Nat.le_of_ble_eq_true rfl⟩) hK hZ hX hY hG hS rfl hl.1 (Nat.le_of_ble_eq_true rfl) dL_water_93 ⟨Nat.le_of_ble_eq_true rfl, Nat.le_of_ble_eq_true rfl⟩ (by omega) (by omega) rfl rfl (fun H locs hG hS => ?_)
  refine g_top (y := 4) a2 ?_
  refine lv_iconst (v := 4) hx hb dL_water_96 (by decide) ?_
  refine lv_icmp_ne (tgt := 104) hx hb dL_water_97 (by decide) (fun c_3 => absurd (by decide) c_3) (fun c_3 => ?_)
  refine lv_iconst (v := 1) hx hb dL_water_100 (by decide) ?_
  refine lv_goto (tgt := 105) hx hb dL_water_101 (by decide) ?_
  refine lv_istore (lv' := [(8, .int 1), (7, .int (nI ((N 2).toNatClampNeg))), (6, .int (N (82 + 5 * i + 3))), (5, .int 1), (4, .int (nI sg)), (2, .long (sumF N)), (0, .ref (gad Γ 475)), (1, .int (nI i))]) hx hb dL_water_105 hl (by decide) rfl (fun ls hl => ?_)
  refine lv_iload hx hb dL_water_107 (lv_at hl 3 rfl) ?_
  refine lv_if_le (tgt := 139) hx hb dL_water_109 (by decide) (fun c_4 => absurd c_4 (by decide)) (fun c_4 => ?_)
  refine lv_iload hx hb dL_water_112 (lv_at hl 0 rfl) ?_
  refine lv_aload_n hx hb dL_water_114 rfl (lv_at hl 6 rfl) ?_
  refine lv_bipush (v := 12) hx hb dL_water_115 (by decide) ?_
  refine lv_iload hx hb dL_water_117 (lv_at hl 1 rfl) ?_
  refine lv_iload hx hb dL_water_119 (lv_at hl 3 rfl) ?_
  refine lv_iconst (v := 0) hx hb dL_water_121 (by decide) ?_
  refine lv_iconst (v := 0) hx hb dL_water_122 (by decide) ?_
  refine l_call (X := 182) (K := 183) (CC := 392) (As := [.ref (gad Γ 475), .int 12, .int (nI ((N 2).toNatClampNeg)), .int 1, .int 0, .int 0]) (rest := [.int 1]) (st1 := [.int ((spS (wgN N sg) ((N 2).toNatClampNeg) sg (nI 1)) (12 + 7 * sg + 4)), .int 1]) hF (q_spray (l := l) (Γ := Γ) (N := wgN N sg) (Hy := cons N Hy) (k := kM 13 k + 1) (w := w) hst hW hu0 (a := (nI ((N 2).toNatClampNeg))) (d := 1) (x := 1) rfl rfl hw2 (by omega) (by omega) (by rw [a2]; decide) (by rw [a1]; exact nI_le (a := 1) (b := 20) (by omega) (by decide)) (by rw [a0]; exact nI_clamp (by omega)) (kN_M (d := 13) (d' := 12) (n := 1) (k := k) (by decide) (by decide) (by decide))) (va_cwS 6 hts qL_call rfl rfl rfl (by decide +kernel) ⟨Nat.le_of_ble_eq_true rfl, Nat.le_of_ble_eq_true rfl⟩) hK hZ hX hY hG hS rfl hl.1 (Nat.le_of_ble_eq_true rfl) dL_water_123 ⟨Nat.le_of_ble_eq_true rfl, Nat.le_of_ble_eq_true rfl⟩ (by omega) (by omega) rfl rfl (fun H locs hG hS => ?_)
  refine lv_iload hx hb dL_water_126 (lv_at hl 3 rfl) ?_
  refine lv_icmp_lt (tgt := 135) hx hb dL_water_128 (by decide) (fun c_5 => absurd c_5 g1.1) (fun c_5 => ?_)
  refine lv_iconst (v := 1) hx hb dL_water_131 (by decide) ?_
  refine lv_goto (tgt := 136) hx hb dL_water_132 (by decide) ?_
  refine lv_iand hx hb dL_water_136 ?_
  refine g_top (y := 1) (show (1 &&& 1 : Int32) = 1 from rfl) ?_
  refine lv_istore (lv' := [(8, .int 1), (7, .int (nI ((N 2).toNatClampNeg))), (6, .int (N (82 + 5 * i + 3))), (5, .int 1), (4, .int (nI sg)), (2, .long (sumF N)), (0, .ref (gad Γ 475)), (1, .int (nI i))]) hx hb dL_water_137 hl (by decide) rfl (fun ls hl => ?_)
  refine lv_aload_n hx hb dL_water_139 rfl (lv_at hl 6 rfl) ?_
  refine lv_bipush (v := 14) hx hb dL_water_140 (by decide) ?_
  refine lv_iconst (v := 1) hx hb dL_water_142 (by decide) ?_
  refine lv_iconst (v := 0) hx hb dL_water_143 (by decide) ?_
  refine lv_iconst (v := 0) hx hb dL_water_144 (by decide) ?_
  refine lv_iconst (v := 0) hx hb dL_water_145 (by decide) ?_
  refine l_call (X := 183) (K := 184) (CC := 392) (As := [.ref (gad Γ 475), .int 14, .int 1, .int 0, .int 0, .int 0]) (rest := []) (st1 := [.int (fX7_pass_L (spS (wgN N sg) ((N 2).toNatClampNeg) sg (nI 1)) 1 10 - (spS (wgN N sg) ((N 2).toNatClampNeg) sg (nI 1)) 10)]) hF (q_pass (l := l) (Γ := Γ) (N := spS (wgN N sg) ((N 2).toNatClampNeg) sg (nI 1)) (Hy := cons (wgN N sg) (cons N Hy)) (k := kM 12 k + 2) (w := w) hst hSP hu1 (a := 1) (h := 1) rfl 0 (by decide) (by decide) (kN_M (d := 12) (d' := 11) (n := 2) (k := k) (by decide) (by decide) (by decide))) (va_cwS 6 hts qL_call rfl rfl rfl (by decide +kernel) ⟨Nat.le_of_ble_eq_true rfl, Nat.le_of_ble_eq_true rfl⟩) hK hZ hX hY hG hS rfl hl.1 (Nat.le_of_ble_eq_true rfl) dL_water_146 ⟨Nat.le_of_ble_eq_true rfl, Nat.le_of_ble_eq_true rfl⟩ (by omega) (by omega) rfl rfl (fun H locs hG hS => ?_)
  refine lv_istore (lv' := [(9, .int (fX7_pass_L (spS (wgN N sg) ((N 2).toNatClampNeg) sg (nI 1)) 1 10 - (spS (wgN N sg) ((N 2).toNatClampNeg) sg (nI 1)) 10)), (8, .int 1), (7, .int (nI ((N 2).toNatClampNeg))), (6, .int (N (82 + 5 * i + 3))), (5, .int 1), (4, .int (nI sg)), (2, .long (sumF N)), (0, .ref (gad Γ 475)), (1, .int (nI i))]) hx hb dL_water_149 hl (by decide) rfl (fun ls hl => ?_)
  refine lv_iload hx hb dL_water_151 (lv_at hl 1 rfl) ?_
  refine lv_iload hx hb dL_water_153 (lv_at hl 0 rfl) ?_
  refine lv_if_lt (tgt := 193) hx hb dL_water_155 (by decide) (fun c_6 => absurd c_6 (sub_nneg (hQS.n10) (hSP.n10) (by omega) (pass_10 hSP 1 (by omega)).1)) (fun c_6 => ?_)
  refine lv_aload_n hx hb dL_water_158 rfl (lv_at hl 7 rfl) ?_
  refine lv_iload_n hx hb dL_water_159 rfl (lv_at hl 8 rfl) ?_
  refine lv_iconst (v := 3) hx hb dL_water_160 (by decide) ?_
  refine l_call (X := 184) (K := 185) (CC := 392) (As := [.ref (gad Γ 475), .int (nI i), .int 3]) (rest := [.int 1]) (st1 := [.int ((fX7_pass_L (spS (wgN N sg) ((N 2).toNatClampNeg) sg (nI 1)) 1) (82 + 5 * i + 3)), .int 1]) hF (r_house (N := fX7_pass_L (spS (wgN N sg) ((N 2).toNatClampNeg) sg (nI 1)) 1) (Hy := cons (spS (wgN N sg) ((N 2).toNatClampNeg) sg (nI 1)) (cons (wgN N sg) (cons N Hy))) (k := kM 11 k + 3) (w := w) hst hQS huQ (a := (nI i)) (d := 3) (i := i) (j := 3) rfl rfl hiS (by decide)) (va_cwS 3 hts qL_house rfl rfl rfl (by decide +kernel) ⟨Nat.le_of_ble_eq_true rfl, Nat.le_of_ble_eq_true rfl⟩) hK hZ hX hY hG hS rfl hl.1 (Nat.le_of_ble_eq_true rfl) dL_water_161 ⟨Nat.le_of_ble_eq_true rfl, Nat.le_of_ble_eq_true rfl⟩ (by omega) (by omega) rfl rfl (fun H locs hG hS => ?_)
  refine lv_iload hx hb dL_water_164 (lv_at hl 3 rfl) ?_
  refine lv_icmp_ne (tgt := 173) hx hb dL_water_166 (by decide) (fun c_7 => absurd c1 c_7) (fun c_7 => ?_)
  refine lv_iconst (v := 1) hx hb dL_water_169 (by decide) ?_
  refine lv_goto (tgt := 174) hx hb dL_water_170 (by decide) ?_
  refine lv_iload hx hb dL_water_174 (lv_at hl 4 rfl) ?_
  refine lv_bipush (v := (-9)) hx hb dL_water_176 (by decide) ?_
  refine lv_icmp_eq (tgt := 185) hx hb dL_water_178 (by decide) (fun c_8 => absurd c_8 (by decide)) (fun c_8 => ?_)
  refine lv_iconst (v := 1) hx hb dL_water_181 (by decide) ?_
  refine lv_goto (tgt := 186) hx hb dL_water_182 (by decide) ?_
  refine lv_icmp_ne (tgt := 193) hx hb dL_water_186 (by decide) (fun c_9 => absurd (by decide) c_9) (fun c_9 => ?_)
  refine lv_iconst (v := 1) hx hb dL_water_189 (by decide) ?_
  refine lv_goto (tgt := 194) hx hb dL_water_190 (by decide) ?_
  refine lv_iand hx hb dL_water_194 ?_
  refine g_top (y := 1) (show (1 &&& 1 : Int32) = 1 from rfl) ?_
  refine lv_istore (lv' := [(8, .int 1), (9, .int (fX7_pass_L (spS (wgN N sg) ((N 2).toNatClampNeg) sg (nI 1)) 1 10 - (spS (wgN N sg) ((N 2).toNatClampNeg) sg (nI 1)) 10)), (7, .int (nI ((N 2).toNatClampNeg))), (6, .int (N (82 + 5 * i + 3))), (5, .int 1), (4, .int (nI sg)), (2, .long (sumF N)), (0, .ref (gad Γ 475)), (1, .int (nI i))]) hx hb dL_water_195 hl (by decide) rfl (fun ls hl => ?_)
  refine lv_iload hx hb dL_water_197 (lv_at hl 0 rfl) ?_
  refine lv_aload_n hx hb dL_water_199 rfl (lv_at hl 7 rfl) ?_
  refine lv_bipush (v := 15) hx hb dL_water_200 (by decide) ?_
  refine lv_iconst (v := 0) hx hb dL_water_202 (by decide) ?_
  refine lv_iconst (v := 0) hx hb dL_water_203 (by decide) ?_
  refine lv_iconst (v := 0) hx hb dL_water_204 (by decide) ?_
  refine lv_iconst (v := 0) hx hb dL_water_205 (by decide) ?_
  refine l_call (X := 185) (K := 186) (CC := 392) (As := [.ref (gad Γ 475), .int 15, .int 0, .int 0, .int 0, .int 0]) (rest := [.int 1]) (st1 := [.int (nI (kM 11 k + 2)), .int 1]) hF (q_undo (l := l) (Γ := Γ) (N := (spS (wgN N sg) ((N 2).toNatClampNeg) sg (nI 1))) (Hy := (cons (wgN N sg) (cons N Hy))) (k := (kM 11 k + 2)) (w := w) (P := (fX7_pass_L (spS (wgN N sg) ((N 2).toNatClampNeg) sg (nI 1)) 1)) hSP 0 0) (va_cwS 6 hts qL_call rfl rfl rfl (by decide +kernel) ⟨Nat.le_of_ble_eq_true rfl, Nat.le_of_ble_eq_true rfl⟩) hK hZ hX hY hG hS rfl hl.1 (Nat.le_of_ble_eq_true rfl) dL_water_206 ⟨Nat.le_of_ble_eq_true rfl, Nat.le_of_ble_eq_true rfl⟩ (by omega) (by omega) rfl rfl (fun H locs hG hS => ?_)
  refine lv_if_lt (tgt := 234) hx hb dL_water_209 (by decide) (fun c_10 => absurd c_10 (kM_nn 11 2 k (by decide))) (fun c_10 => ?_)
  refine lv_iload hx hb dL_water_212 (lv_at hl 4 rfl) ?_
  refine lv_if_le (tgt := 230) hx hb dL_water_214 (by decide) (fun c_11 => absurd c_11 (by decide)) (fun c_11 => ?_)
  refine lv_aload_n hx hb dL_water_217 rfl (lv_at hl 7 rfl) ?_
  refine lv_bipush (v := 15) hx hb dL_water_218 (by decide) ?_
  refine lv_iconst (v := 0) hx hb dL_water_220 (by decide) ?_
  refine lv_iconst (v := 0) hx hb dL_water_221 (by decide) ?_
  refine lv_iconst (v := 0) hx hb dL_water_222 (by decide) ?_
  refine lv_iconst (v := 0) hx hb dL_water_223 (by decide) ?_
  refine l_call (X := 186) (K := 187) (CC := 392) (As := [.ref (gad Γ 475), .int 15, .int 0, .int 0, .int 0, .int 0]) (rest := [.int 1]) (st1 := [.int (nI (kM 11 k + 1)), .int 1]) hF (q_undo (l := l) (Γ := Γ) (N := (wgN N sg)) (Hy := (cons N Hy)) (k := (kM 11 k + 1)) (w := w) (P := (spS (wgN N sg) ((N 2).toNatClampNeg) sg (nI 1))) hW 0 0) (va_cwS 6 hts qL_call rfl rfl rfl (by decide +kernel) ⟨Nat.le_of_ble_eq_true rfl, Nat.le_of_ble_eq_true rfl⟩) hK hZ hX hY hG hS rfl hl.1 (Nat.le_of_ble_eq_true rfl) dL_water_224 ⟨Nat.le_of_ble_eq_true rfl, Nat.le_of_ble_eq_true rfl⟩ (by omega) (by omega) rfl rfl (fun H locs hG hS => ?_)
  refine lv_if_lt (tgt := 234) hx hb dL_water_227 (by decide) (fun c_12 => absurd c_12 (kM_nn 11 1 k (by decide))) (fun c_12 => ?_)
  refine lv_iconst (v := 1) hx hb dL_water_230 (by decide) ?_
  refine lv_goto (tgt := 235) hx hb dL_water_231 (by decide) ?_
  refine lv_iand hx hb dL_water_235 ?_
  refine g_top (y := 1) (show (1 &&& 1 : Int32) = 1 from rfl) ?_
  refine lv_istore (lv' := [(8, .int 1), (9, .int (fX7_pass_L (spS (wgN N sg) ((N 2).toNatClampNeg) sg (nI 1)) 1 10 - (spS (wgN N sg) ((N 2).toNatClampNeg) sg (nI 1)) 10)), (7, .int (nI ((N 2).toNatClampNeg))), (6, .int (N (82 + 5 * i + 3))), (5, .int 1), (4, .int (nI sg)), (2, .long (sumF N)), (0, .ref (gad Γ 475)), (1, .int (nI i))]) hx hb dL_water_236 hl (by decide) rfl (fun ls hl => ?_)
  refine lv_iload hx hb dL_water_238 (lv_at hl 4 rfl) ?_
  refine lv_if_le (tgt := 334) hx hb dL_water_240 (by decide) (fun c_13 => absurd c_13 (by decide)) (fun c_13 => ?_)
  refine lv_iload hx hb dL_water_243 (lv_at hl 0 rfl) ?_
  refine lv_iload hx hb dL_water_245 (lv_at hl 4 rfl) ?_
  refine lv_iconst (v := 1) hx hb dL_water_247 (by decide) ?_
  refine lv_icmp_eq (tgt := 268) hx hb dL_water_248 (by decide) (fun c_14 => ?_) (fun c_14 => absurd (by decide) c_14)
  refine lv_aload_n hx hb dL_water_268 rfl (lv_at hl 7 rfl) ?_
  refine lv_bipush (v := 14) hx hb dL_water_269 (by decide) ?_
  refine lv_iconst (v := 1) hx hb dL_water_271 (by decide) ?_
  refine lv_iconst (v := 0) hx hb dL_water_272 (by decide) ?_
  refine lv_iconst (v := 0) hx hb dL_water_273 (by decide) ?_
  refine lv_iconst (v := 0) hx hb dL_water_274 (by decide) ?_
  refine l_call (X := 187) (K := 188) (CC := 392) (As := [.ref (gad Γ 475), .int 14, .int 1, .int 0, .int 0, .int 0]) (rest := [.int 1]) (st1 := [.int (fX7_pass_L (wgN N sg) 1 10 - (wgN N sg) 10), .int 1]) hF (q_pass (l := l) (Γ := Γ) (N := wgN N sg) (Hy := cons N Hy) (k := kM 11 k + 1) (w := w) hst hW hu0 (a := 1) rfl 0 (by decide) (by decide) (kN_M (d := 11) (d' := 11) (n := 1) (k := k) (by decide) (by decide) (by decide))) (va_cwS 6 hts qL_call rfl rfl rfl (by decide +kernel) ⟨Nat.le_of_ble_eq_true rfl, Nat.le_of_ble_eq_true rfl⟩) hK hZ hX hY hG hS rfl hl.1 (Nat.le_of_ble_eq_true rfl) dL_water_275 ⟨Nat.le_of_ble_eq_true rfl, Nat.le_of_ble_eq_true rfl⟩ (by omega) (by omega) rfl rfl (fun H locs hG hS => ?_)
  refine lv_if_le (tgt := 330) hx hb dL_water_278 (by decide) (fun c_15 => absurd c_15 ((sub_pos (hQT.n10) (hT.n10) (by omega) c2.2).1)) (fun c_15 => ?_)
  refine lv_aload_n hx hb dL_water_281 rfl (lv_at hl 7 rfl) ?_
  refine lv_iload_n hx hb dL_water_282 rfl (lv_at hl 8 rfl) ?_
  refine lv_iconst (v := 3) hx hb dL_water_283 (by decide) ?_
  refine l_call (X := 188) (K := 189) (CC := 392) (As := [.ref (gad Γ 475), .int (nI i), .int 3]) (rest := [.int 1]) (st1 := [.int ((fX7_pass_L (wgN N sg) 1) (82 + 5 * i + 3)), .int 1]) hF (r_house (N := fX7_pass_L (wgN N sg) 1) (Hy := cons (wgN N sg) (cons N Hy)) (k := kM 11 k + 2) (w := w) hst hQT huQ (a := (nI i)) (d := 3) (i := i) (j := 3) rfl rfl hiT (by decide)) (va_cwS 3 hts qL_house rfl rfl rfl (by decide +kernel) ⟨Nat.le_of_ble_eq_true rfl, Nat.le_of_ble_eq_true rfl⟩) hK hZ hX hY hG hS rfl hl.1 (Nat.le_of_ble_eq_true rfl) dL_water_284 ⟨Nat.le_of_ble_eq_true rfl, Nat.le_of_ble_eq_true rfl⟩ (by omega) (by omega) rfl rfl (fun H locs hG hS => ?_)
  refine lv_iload hx hb dL_water_287 (lv_at hl 3 rfl) ?_
  refine lv_iconst (v := 1) hx hb dL_water_289 (by decide) ?_
  refine lv_iadd hx hb dL_water_290 ?_
  refine lv_icmp_ne (tgt := 330) hx hb dL_water_291 (by decide) (fun c_16 => absurd c2.1 c_16) (fun c_16 => ?_)
  refine lv_aload_n hx hb dL_water_294 rfl (lv_at hl 7 rfl) ?_
  refine lv_bipush (v := 15) hx hb dL_water_295 (by decide) ?_
  refine lv_iconst (v := 0) hx hb dL_water_297 (by decide) ?_
  refine lv_iconst (v := 0) hx hb dL_water_298 (by decide) ?_
  refine lv_iconst (v := 0) hx hb dL_water_299 (by decide) ?_
  refine lv_iconst (v := 0) hx hb dL_water_300 (by decide) ?_
  refine l_call (X := 189) (K := 190) (CC := 392) (As := [.ref (gad Γ 475), .int 15, .int 0, .int 0, .int 0, .int 0]) (rest := [.int 1]) (st1 := [.int (nI (kM 11 k + 1)), .int 1]) hF (q_undo (l := l) (Γ := Γ) (N := (wgN N sg)) (Hy := (cons N Hy)) (k := (kM 11 k + 1)) (w := w) (P := (fX7_pass_L (wgN N sg) 1)) hW 0 0) (va_cwS 6 hts qL_call rfl rfl rfl (by decide +kernel) ⟨Nat.le_of_ble_eq_true rfl, Nat.le_of_ble_eq_true rfl⟩) hK hZ hX hY hG hS rfl hl.1 (Nat.le_of_ble_eq_true rfl) dL_water_301 ⟨Nat.le_of_ble_eq_true rfl, Nat.le_of_ble_eq_true rfl⟩ (by omega) (by omega) rfl rfl (fun H locs hG hS => ?_)
  refine lv_if_lt (tgt := 330) hx hb dL_water_304 (by decide) (fun c_17 => absurd c_17 (kM_nn 11 1 k (by decide))) (fun c_17 => ?_)
  refine lv_iload hx hb dL_water_307 (lv_at hl 4 rfl) ?_
  refine lv_iconst (v := 1) hx hb dL_water_309 (by decide) ?_
  refine lv_icmp_eq (tgt := 326) hx hb dL_water_310 (by decide) (fun c_18 => ?_) (fun c_18 => absurd (by decide) c_18)
  refine lv_iconst (v := 1) hx hb dL_water_326 (by decide) ?_
  refine lv_goto (tgt := 331) hx hb dL_water_327 (by decide) ?_
  refine lv_iand hx hb dL_water_331 ?_
  refine g_top (y := 1) (show (1 &&& 1 : Int32) = 1 from rfl) ?_
  refine lv_istore (lv' := [(8, .int 1), (9, .int (fX7_pass_L (spS (wgN N sg) ((N 2).toNatClampNeg) sg (nI 1)) 1 10 - (spS (wgN N sg) ((N 2).toNatClampNeg) sg (nI 1)) 10)), (7, .int (nI ((N 2).toNatClampNeg))), (6, .int (N (82 + 5 * i + 3))), (5, .int 1), (4, .int (nI sg)), (2, .long (sumF N)), (0, .ref (gad Γ 475)), (1, .int (nI i))]) hx hb dL_water_332 hl (by decide) rfl (fun ls hl => ?_)
  refine lv_iload hx hb dL_water_334 (lv_at hl 0 rfl) ?_
  refine lv_if_eq (tgt := 365) hx hb dL_water_336 (by decide) (fun c_19 => absurd c_19 (by decide)) (fun c_19 => ?_)
  refine lv_aload_n hx hb dL_water_339 rfl (lv_at hl 7 rfl) ?_
  refine lv_bipush (v := 15) hx hb dL_water_340 (by decide) ?_
  refine lv_iconst (v := 0) hx hb dL_water_342 (by decide) ?_
  refine lv_iconst (v := 0) hx hb dL_water_343 (by decide) ?_
  refine lv_iconst (v := 0) hx hb dL_water_344 (by decide) ?_
  refine lv_iconst (v := 0) hx hb dL_water_345 (by decide) ?_
  refine l_call (X := 190) (K := 191) (CC := 392) (As := [.ref (gad Γ 475), .int 15, .int 0, .int 0, .int 0, .int 0]) (rest := []) (st1 := [.int (nI (kM 11 k))]) hF (q_undo (l := l) (Γ := Γ) (N := N) (Hy := Hy) (k := (kM 11 k)) (w := w) (P := (wgN N sg)) hN 0 0) (va_cwS 6 hts qL_call rfl rfl rfl (by decide +kernel) ⟨Nat.le_of_ble_eq_true rfl, Nat.le_of_ble_eq_true rfl⟩) hK hZ hX hY hG hS rfl hl.1 (Nat.le_of_ble_eq_true rfl) dL_water_346 ⟨Nat.le_of_ble_eq_true rfl, Nat.le_of_ble_eq_true rfl⟩ (by omega) (by omega) rfl rfl (fun H locs hG hS => ?_)
  refine lv_if_lt (tgt := 365) hx hb dL_water_349 (by decide) (fun c_20 => absurd c_20 (kM_nn 11 0 k (by decide))) (fun c_20 => ?_)
  refine lv_aload_n hx hb dL_water_352 rfl (lv_at hl 7 rfl) ?_
  refine l_call (X := 191) (K := 367) (CC := 392) (As := [.ref (gad Γ 475)]) (rest := []) (st1 := [.long (sumF N)]) hF (L_sum (N := N) (Hy := Hy) (k := kM 11 k) (w := w) hst hN hu0) (va_cwS 1 hts qL_sum rfl rfl rfl (by decide +kernel) ⟨Nat.le_of_ble_eq_true rfl, Nat.le_of_ble_eq_true rfl⟩) hK hZ hX hY hG hS rfl hl.1 (Nat.le_of_ble_eq_true rfl) dL_water_353 ⟨Nat.le_of_ble_eq_true rfl, Nat.le_of_ble_eq_true rfl⟩ (by omega) (by omega) rfl rfl (fun H locs hG hS => ?_)
  refine lv_lload_n hx hb dL_water_356 rfl (lv_at hl 6 rfl) ?_
  refine W.lcmp hx hb dL_water_357 ?_
  refine gl_ne (tgt := 365) hx hb dL_water_358 (by decide) (fun c_21 => absurd rfl c_21) (fun c_21 => ?_)
  refine lv_iconst (v := 1) hx hb dL_water_361 (by decide) ?_
  refine lv_goto (tgt := 366) hx hb dL_water_362 (by decide) ?_
  exact l_zret hx hb hrt hlocks hS hG (by decide) rfl (by omega) dL_water_366

set_option maxHeartbeats 4000000 in
set_option maxRecDepth 100000 in
theorem L_water_P2 {l : Launch} {Γ : gX} (hst : l.stackTraces = false) {u : Nat} {N : Nat → Int32} {Hy : Nat → Nat → Int32} {k : Nat} {w : WO} (hN : PI u N) (hu : 1998 * (u + 10000) < 2 ^ 31) (hk : k ≤ 14) {i sg : Nat} (hi : i < (N 1).toNatClampNeg) (esg : N (82 + 5 * i) = nI sg) (hsg : sg < (N 0).toNatClampNeg) (h3 : ¬ N 2 = 3) {kx : Nat} (hk0 : 1 < kx) (hk9 : kx < 10) (hc1 : ¬ N 7 ≤ fX7_hourOn_P (fX7_wet_P N sg (nI kx)) (82 + 5 * i + 4)) (hc2 : N 7 ≤ fX7_hourOn_P (fX7_wet_P N sg (nI (kx - 1))) (82 + 5 * i + 4)) (hw : v_waterFor N (nI i) = nI kx) : lM l Γ yL_water wqL_water 13 296 392 [.ref (gad Γ 475), .int (nI i)] (SH Γ N Hy k w) (some (.int 1)) (SH Γ N Hy (kM 11 k) w) := by
  refine l_start (cc := cL_water) (maxL := 10) (ret := (some .boolean)) (by decide) rfl (Nat.le_of_ble_eq_true rfl) ?_
  intro p e s m below meth c ls hx hb hml hrt hts hown hlocks hK hZ hX hY hG hS hl
  have hl : lv_has ls 10 [(0, .ref (gad Γ 475)), (1, .int (nI i))] := hl
  have hown : s.vm.findClass RL = some m.cls := hown
  have hF : CallFix p m c cL_water 10 s _ wqL_water RL := ⟨hx, hb, hml, hown, hts⟩
  have k_1 : (Cond.constant RL 26 (-9999003)).before _ s = true := hts _ (by decide +kernel)
  have b1 := hN.h8.2
  have b0 := hN.s10.2
  have s10 : sg < 10 := by omega
  have hu0 : 1998 * (u + 5000) < 2 ^ 31 := by omega
  have l3 := w3_lt hN h3
  obtain ⟨hW, e2⟩ := wg_PI hN h3 hsg
  obtain ⟨a0, a1, a2⟩ := wg_at N sg
  have e2n : (wgN N sg 2).toNatClampNeg = (N 2).toNatClampNeg + 1 := by rw [e2, nI_clamp (by omega)]
  have hw2 : (N 2).toNatClampNeg < (wgN N sg 2).toNatClampNeg := by rw [e2n]; omega
  have hu1 : 1998 * (u + 1 + 5000) < 2 ^ 31 := by omega
  have huQ : 1998 * (u + 1 + 17 * 1 + 5000) < 2 ^ 31 := by omega
  have ew2 : N 2 = nI (N 2).toNatClampNeg := hN.w3.1
  have hSP : PI (u + 1) (spS (wgN N sg) (N 2).toNatClampNeg sg (nI kx)) := (show wgX N sg kx = _ from (wgX_1 N sg (x := kx) (by omega))) ▸ wgX_PI hN (by omega) h3 hsg (x := kx) (by omega)
  have hQS := pass_PI hSP 1 (by omega)
  have hiS : i < (fX7_pass_L (spS (wgN N sg) (N 2).toNatClampNeg sg (nI kx)) 1 1).toNatClampNeg := by
    rw [pass_hd hSP (j := 1) (by decide) (by decide) 1 (by omega), ← wgX_1 N sg (x := kx) (by omega)]
    exact wgX_hi hN hi _
  have hT : PI (u + 1) (spS (wgN N sg) (N 2).toNatClampNeg sg (nI (kx - 1))) := (show wgX N sg (kx - 1) = _ from (wgX_1 N sg (x := kx - 1) (by omega))) ▸ wgX_PI hN (by omega) h3 hsg (x := (kx - 1)) (by omega)
  have hQT := pass_PI hT 1 (by omega)
  have hiT : i < (fX7_pass_L (spS (wgN N sg) (N 2).toNatClampNeg sg (nI (kx - 1))) 1 1).toNatClampNeg := by
    rw [pass_hd hT (j := 1) (by decide) (by decide) 1 (by omega), ← wgX_1 N sg (x := kx - 1) (by omega)]
    exact wgX_hi hN hi _
  have c1 := wat_no hN (by omega) h3 hsg (x := kx) (by omega) hi hc1
  rw [wgX_1 N sg (by omega)] at c1
  have c2 := wat_yes hN (by omega) h3 hsg (x := kx - 1) (by omega) hi hc2
  rw [wgX_1 N sg (by omega)] at c2
  have g1 := wat_ge hN s10 (x := kx) (by omega) (by omega)
  have g2 := wat_ge hN s10 (x := kx - 1) (by omega) (by omega)
  refine lv_aload_n hx hb dL_water_0 rfl (lv_at hl 0 rfl) ?_
  refine l_call (X := 0) (K := 176) (CC := 392) (As := [.ref (gad Γ 475)]) (rest := []) (st1 := [.long (sumF N)]) hF (L_sum (N := N) (Hy := Hy) (k := k) (w := w) hst hN hu0) (va_cwS 1 hts qL_sum rfl rfl rfl (by decide +kernel) ⟨Nat.le_of_ble_eq_true rfl, Nat.le_of_ble_eq_true rfl⟩) hK hZ hX hY hG hS rfl hl.1 (Nat.le_of_ble_eq_true rfl) dL_water_1 ⟨Nat.le_of_ble_eq_true rfl, Nat.le_of_ble_eq_true rfl⟩ (by omega) (by omega) rfl rfl (fun H locs hG hS => ?_)
  refine lv_lstore_n (lv' := [(2, .long (sumF N)), (0, .ref (gad Γ 475)), (1, .int (nI i))]) hx hb dL_water_4 rfl hl (by decide) rfl (fun ls hl => ?_)
  refine lv_aload_n hx hb dL_water_5 rfl (lv_at hl 1 rfl) ?_
  refine lv_iload_n hx hb dL_water_6 rfl (lv_at hl 2 rfl) ?_
  refine lv_iconst (v := 0) hx hb dL_water_7 (by decide) ?_
  refine l_call (X := 176) (K := 177) (CC := 392) (As := [.ref (gad Γ 475), .int (nI i), .int 0]) (rest := []) (st1 := [.int (N (82 + 5 * i + 0))]) hF (r_house (N := N) (Hy := Hy) (k := k) (w := w) hst hN hu0 (a := (nI i)) (d := 0) (i := i) (j := 0) rfl rfl hi (by decide)) (va_cwS 3 hts qL_house rfl rfl rfl (by decide +kernel) ⟨Nat.le_of_ble_eq_true rfl, Nat.le_of_ble_eq_true rfl⟩) hK hZ hX hY hG hS rfl hl.1 (Nat.le_of_ble_eq_true rfl) dL_water_8 ⟨Nat.le_of_ble_eq_true rfl, Nat.le_of_ble_eq_true rfl⟩ (by omega) (by omega) rfl rfl (fun H locs hG hS => ?_)
  refine g_top (y := (nI sg)) esg ?_
  refine lv_istore (lv' := [(4, .int (nI sg)), (2, .long (sumF N)), (0, .ref (gad Γ 475)), (1, .int (nI i))]) hx hb dL_water_11 hl (by decide) rfl (fun ls hl => ?_)
  refine lv_aload_n hx hb dL_water_13 rfl (lv_at hl 2 rfl) ?_
  refine lv_bipush (v := 18) hx hb dL_water_14 (by decide) ?_
  refine lv_iload_n hx hb dL_water_16 rfl (lv_at hl 3 rfl) ?_
  refine lv_iconst (v := 0) hx hb dL_water_17 (by decide) ?_
  refine lv_iconst (v := 0) hx hb dL_water_18 (by decide) ?_
  refine lv_iconst (v := 0) hx hb dL_water_19 (by decide) ?_
  refine l_call (X := 177) (K := 178) (CC := 392) (As := [.ref (gad Γ 475), .int 18, .int (nI i), .int 0, .int 0, .int 0]) (rest := []) (st1 := [.int (v_waterFor N (nI i))]) hF (q_water (l := l) (Γ := Γ) (N := N) (Hy := Hy) (k := k) (w := w) hst hN hu0 (a := (nI i)) rfl 0 hi) (va_cwS 6 hts qL_call rfl rfl rfl (by decide +kernel) ⟨Nat.le_of_ble_eq_true rfl, Nat.le_of_ble_eq_true rfl⟩) hK hZ hX hY hG hS rfl hl.1 (Nat.le_of_ble_eq_true rfl) dL_water_20 ⟨Nat.le_of_ble_eq_true rfl, Nat.le_of_ble_eq_true rfl⟩ (by omega) (by omega) rfl rfl (fun H locs hG hS => ?_)
  refine g_top (y := (nI kx)) hw ?_
  refine lv_istore (lv' := [(5, .int (nI kx)), (4, .int (nI sg)), (2, .long (sumF N)), (0, .ref (gad Γ 475)), (1, .int (nI i))]) hx hb dL_water_23 hl (by decide) rfl (fun ls hl => ?_)
  refine lv_aload_n hx hb dL_water_25 rfl (lv_at hl 3 rfl) ?_
  refine lv_iload_n hx hb dL_water_26 rfl (lv_at hl 4 rfl) ?_
  refine lv_iconst (v := 3) hx hb dL_water_27 (by decide) ?_
  refine l_call (X := 178) (K := 179) (CC := 392) (As := [.ref (gad Γ 475), .int (nI i), .int 3]) (rest := []) (st1 := [.int (N (82 + 5 * i + 3))]) hF (r_house (N := N) (Hy := Hy) (k := k) (w := w) hst hN hu0 (a := (nI i)) (d := 3) (i := i) (j := 3) rfl rfl hi (by decide)) (va_cwS 3 hts qL_house rfl rfl rfl (by decide +kernel) ⟨Nat.le_of_ble_eq_true rfl, Nat.le_of_ble_eq_true rfl⟩) hK hZ hX hY hG hS rfl hl.1 (Nat.le_of_ble_eq_true rfl) dL_water_28 ⟨Nat.le_of_ble_eq_true rfl, Nat.le_of_ble_eq_true rfl⟩ (by omega) (by omega) rfl rfl (fun H locs hG hS => ?_)
  refine lv_istore (lv' := [(6, .int (N (82 + 5 * i + 3))), (5, .int (nI kx)), (4, .int (nI sg)), (2, .long (sumF N)), (0, .ref (gad Γ 475)), (1, .int (nI i))]) hx hb dL_water_31 hl (by decide) rfl (fun ls hl => ?_)
  refine lv_aload_n hx hb dL_water_33 rfl (lv_at hl 4 rfl) ?_
  refine lv_bipush (v := 7) hx hb dL_water_34 (by decide) ?_
  refine lv_iload hx hb dL_water_36 (lv_at hl 2 rfl) ?_
  refine lv_iconst (v := 0) hx hb dL_water_38 (by decide) ?_
  refine lv_iconst (v := 0) hx hb dL_water_39 (by decide) ?_
  refine lv_iconst (v := 0) hx hb dL_water_40 (by decide) ?_
  refine l_call (X := 179) (K := 180) (CC := 392) (As := [.ref (gad Γ 475), .int 7, .int (nI sg), .int 0, .int 0, .int 0]) (rest := []) (st1 := [.int (N 2)]) hF (q_bring (l := l) (Γ := Γ) (N := N) (Hy := Hy) (k := k) (w := w) hst hN hu0 (a := (nI sg)) rfl 0 hsg h3 (kN_0 hk)) (va_cwS 6 hts qL_call rfl rfl rfl (by decide +kernel) ⟨Nat.le_of_ble_eq_true rfl, Nat.le_of_ble_eq_true rfl⟩) hK hZ hX hY hG hS rfl hl.1 (Nat.le_of_ble_eq_true rfl) dL_water_41 ⟨Nat.le_of_ble_eq_true rfl, Nat.le_of_ble_eq_true rfl⟩ (by omega) (by omega) rfl rfl (fun H locs hG hS => ?_)
  refine g_top (y := (nI ((N 2).toNatClampNeg))) ew2 ?_
  refine lv_istore (lv' := [(7, .int (nI ((N 2).toNatClampNeg))), (6, .int (N (82 + 5 * i + 3))), (5, .int (nI kx)), (4, .int (nI sg)), (2, .long (sumF N)), (0, .ref (gad Γ 475)), (1, .int (nI i))]) hx hb dL_water_44 hl (by decide) rfl (fun ls hl => ?_)
  refine lv_iload hx hb dL_water_46 (lv_at hl 0 rfl) ?_
  refine lv_ldc hx hb hown k_1 dL_water_48 ?_
  refine lv_icmp_ne (tgt := 77) hx hb dL_water_50 (by decide) (fun c_1 => ?_) (fun c_1 => absurd c_1 (ne_st _ (by omega)))
  refine lv_aload_n hx hb dL_water_77 rfl (lv_at hl 5 rfl) ?_
  refine lv_iload hx hb dL_water_78 (lv_at hl 0 rfl) ?_
  refine lv_iconst (v := 1) hx hb dL_water_80 (by decide) ?_
  refine l_call (X := 180) (K := 181) (CC := 392) (As := [.ref (gad Γ 475), .int (nI ((N 2).toNatClampNeg)), .int 1]) (rest := []) (st1 := [.int ((wgN N sg) (122 + 3 * ((N 2).toNatClampNeg) + 1))]) hF (r_wagon (N := wgN N sg) (Hy := cons N Hy) (k := kM 13 k + 1) (w := w) hst hW hu0 (a := (nI ((N 2).toNatClampNeg))) (d := 1) (i := ((N 2).toNatClampNeg)) (j := 1) rfl rfl hw2 (by decide)) (va_cwS 3 hts qL_wagon rfl rfl rfl (by decide +kernel) ⟨Nat.le_of_ble_eq_true rfl, Nat.le_of_ble_eq_true rfl⟩) hK hZ hX hY hG hS rfl hl.1 (Nat.le_of_ble_eq_true rfl) dL_water_81 ⟨Nat.le_of_ble_eq_true rfl, Nat.le_of_ble_eq_true rfl⟩ (by omega) (by omega) rfl rfl (fun H locs hG hS => ?_)
  refine g_top (y := 20) a1 ?_
  refine lv_bipush (v := 20) hx hb dL_water_84 (by decide) ?_
  refine lv_icmp_ne (tgt := 104) hx hb dL_water_86 (by decide) (fun c_2 => absurd (by decide) c_2) (fun c_2 => ?_)
  refine lv_aload_n hx hb dL_water_89 rfl (lv_at hl 5 rfl) ?_
  refine lv_iload hx hb dL_water_90 (lv_at hl 0 rfl) ?_
  refine lv_iconst (v := 2) hx hb dL_water_92 (by decide) ?_
  refine l_call (X := 181) (K := 182) (CC := 392) (As := [.ref (gad Γ 475), .int (nI ((N 2).toNatClampNeg)), .int 2]) (rest := []) (st1 := [.int ((wgN N sg) (122 + 3 * ((N 2).toNatClampNeg) + 2))]) hF (r_wagon (N := wgN N sg) (Hy := cons N Hy) (k := kM 13 k + 1) (w := w) hst hW hu0 (a := (nI ((N 2).toNatClampNeg))) (d := 2) (i := ((N 2).toNatClampNeg)) (j := 2) rfl rfl hw2 (by decide)) (va_cwS 3 hts qL_wagon rfl rfl rfl (by decide +kernel) ⟨Nat.le_of_ble_eq_true rfl, Nat.le_of_ble_eq_true rfl⟩) hK hZ hX hY hG hS rfl hl.1 (Nat.le_of_ble_eq_true rfl) dL_water_93 ⟨Nat.le_of_ble_eq_true rfl, Nat.le_of_ble_eq_true rfl⟩ (by omega) (by omega) rfl rfl (fun H locs hG hS => ?_)
  refine g_top (y := 4) a2 ?_
  refine lv_iconst (v := 4) hx hb dL_water_96 (by decide) ?_
  refine lv_icmp_ne (tgt := 104) hx hb dL_water_97 (by decide) (fun c_3 => absurd (by decide) c_3) (fun c_3 => ?_)
  refine lv_iconst (v := 1) hx hb dL_water_100 (by decide) ?_
  refine lv_goto (tgt := 105) hx hb dL_water_101 (by decide) ?_
  refine lv_istore (lv' := [(8, .int 1), (7, .int (nI ((N 2).toNatClampNeg))), (6, .int (N (82 + 5 * i + 3))), (5, .int (nI kx)), (4, .int (nI sg)), (2, .long (sumF N)), (0, .ref (gad Γ 475)), (1, .int (nI i))]) hx hb dL_water_105 hl (by decide) rfl (fun ls hl => ?_)
  refine lv_iload hx hb dL_water_107 (lv_at hl 3 rfl) ?_
  refine lv_if_le (tgt := 139) hx hb dL_water_109 (by decide) (fun c_4 => absurd c_4 (nI_ge (a := 0) (b := kx) (by omega) (by omega))) (fun c_4 => ?_)
  refine lv_iload hx hb dL_water_112 (lv_at hl 0 rfl) ?_
  refine lv_aload_n hx hb dL_water_114 rfl (lv_at hl 6 rfl) ?_
  refine lv_bipush (v := 12) hx hb dL_water_115 (by decide) ?_
  refine lv_iload hx hb dL_water_117 (lv_at hl 1 rfl) ?_
  refine lv_iload hx hb dL_water_119 (lv_at hl 3 rfl) ?_
  refine lv_iconst (v := 0) hx hb dL_water_121 (by decide) ?_
  refine lv_iconst (v := 0) hx hb dL_water_122 (by decide) ?_
  refine l_call (X := 182) (K := 183) (CC := 392) (As := [.ref (gad Γ 475), .int 12, .int (nI ((N 2).toNatClampNeg)), .int (nI kx), .int 0, .int 0]) (rest := [.int 1]) (st1 := [.int ((spS (wgN N sg) ((N 2).toNatClampNeg) sg (nI kx)) (12 + 7 * sg + 4)), .int 1]) hF (q_spray (l := l) (Γ := Γ) (N := wgN N sg) (Hy := cons N Hy) (k := kM 13 k + 1) (w := w) hst hW hu0 (a := (nI ((N 2).toNatClampNeg))) (d := (nI kx)) rfl rfl hw2 (by omega) (by omega) (by rw [a2]; decide) (by rw [a1]; exact nI_le (a := kx) (b := 20) (by omega) (by decide)) (by rw [a0]; exact nI_clamp (by omega)) (kN_M (d := 13) (d' := 12) (n := 1) (k := k) (by decide) (by decide) (by decide))) (va_cwS 6 hts qL_call rfl rfl rfl (by decide +kernel) ⟨Nat.le_of_ble_eq_true rfl, Nat.le_of_ble_eq_true rfl⟩) hK hZ hX hY hG hS rfl hl.1 (Nat.le_of_ble_eq_true rfl) dL_water_123 ⟨Nat.le_of_ble_eq_true rfl, Nat.le_of_ble_eq_true rfl⟩ (by omega) (by omega) rfl rfl (fun H locs hG hS => ?_)
  refine lv_iload hx hb dL_water_126 (lv_at hl 3 rfl) ?_
  refine lv_icmp_lt (tgt := 135) hx hb dL_water_128 (by decide) (fun c_5 => absurd c_5 g1.1) (fun c_5 => ?_)
  refine lv_iconst (v := 1) hx hb dL_water_131 (by decide) ?_
  refine lv_goto (tgt := 136) hx hb dL_water_132 (by decide) ?_
  refine lv_iand hx hb dL_water_136 ?_
  refine g_top (y := 1) (show (1 &&& 1 : Int32) = 1 from rfl) ?_
  refine lv_istore (lv' := [(8, .int 1), (7, .int (nI ((N 2).toNatClampNeg))), (6, .int (N (82 + 5 * i + 3))), (5, .int (nI kx)), (4, .int (nI sg)), (2, .long (sumF N)), (0, .ref (gad Γ 475)), (1, .int (nI i))]) hx hb dL_water_137 hl (by decide) rfl (fun ls hl => ?_)
  refine lv_aload_n hx hb dL_water_139 rfl (lv_at hl 6 rfl) ?_
  refine lv_bipush (v := 14) hx hb dL_water_140 (by decide) ?_
  refine lv_iconst (v := 1) hx hb dL_water_142 (by decide) ?_
  refine lv_iconst (v := 0) hx hb dL_water_143 (by decide) ?_
  refine lv_iconst (v := 0) hx hb dL_water_144 (by decide) ?_
  refine lv_iconst (v := 0) hx hb dL_water_145 (by decide) ?_
  refine l_call (X := 183) (K := 184) (CC := 392) (As := [.ref (gad Γ 475), .int 14, .int 1, .int 0, .int 0, .int 0]) (rest := []) (st1 := [.int (fX7_pass_L (spS (wgN N sg) ((N 2).toNatClampNeg) sg (nI kx)) 1 10 - (spS (wgN N sg) ((N 2).toNatClampNeg) sg (nI kx)) 10)]) hF (q_pass (l := l) (Γ := Γ) (N := spS (wgN N sg) ((N 2).toNatClampNeg) sg (nI kx)) (Hy := cons (wgN N sg) (cons N Hy)) (k := kM 12 k + 2) (w := w) hst hSP hu1 (a := 1) (h := 1) rfl 0 (by decide) (by decide) (kN_M (d := 12) (d' := 11) (n := 2) (k := k) (by decide) (by decide) (by decide))) (va_cwS 6 hts qL_call rfl rfl rfl (by decide +kernel) ⟨Nat.le_of_ble_eq_true rfl, Nat.le_of_ble_eq_true rfl⟩) hK hZ hX hY hG hS rfl hl.1 (Nat.le_of_ble_eq_true rfl) dL_water_146 ⟨Nat.le_of_ble_eq_true rfl, Nat.le_of_ble_eq_true rfl⟩ (by omega) (by omega) rfl rfl (fun H locs hG hS => ?_)
  refine lv_istore (lv' := [(9, .int (fX7_pass_L (spS (wgN N sg) ((N 2).toNatClampNeg) sg (nI kx)) 1 10 - (spS (wgN N sg) ((N 2).toNatClampNeg) sg (nI kx)) 10)), (8, .int 1), (7, .int (nI ((N 2).toNatClampNeg))), (6, .int (N (82 + 5 * i + 3))), (5, .int (nI kx)), (4, .int (nI sg)), (2, .long (sumF N)), (0, .ref (gad Γ 475)), (1, .int (nI i))]) hx hb dL_water_149 hl (by decide) rfl (fun ls hl => ?_)
  refine lv_iload hx hb dL_water_151 (lv_at hl 1 rfl) ?_
  refine lv_iload hx hb dL_water_153 (lv_at hl 0 rfl) ?_
  refine lv_if_lt (tgt := 193) hx hb dL_water_155 (by decide) (fun c_6 => absurd c_6 (sub_nneg (hQS.n10) (hSP.n10) (by omega) (pass_10 hSP 1 (by omega)).1)) (fun c_6 => ?_)
  refine lv_aload_n hx hb dL_water_158 rfl (lv_at hl 7 rfl) ?_
  refine lv_iload_n hx hb dL_water_159 rfl (lv_at hl 8 rfl) ?_
  refine lv_iconst (v := 3) hx hb dL_water_160 (by decide) ?_
  refine l_call (X := 184) (K := 185) (CC := 392) (As := [.ref (gad Γ 475), .int (nI i), .int 3]) (rest := [.int 1]) (st1 := [.int ((fX7_pass_L (spS (wgN N sg) ((N 2).toNatClampNeg) sg (nI kx)) 1) (82 + 5 * i + 3)), .int 1]) hF (r_house (N := fX7_pass_L (spS (wgN N sg) ((N 2).toNatClampNeg) sg (nI kx)) 1) (Hy := cons (spS (wgN N sg) ((N 2).toNatClampNeg) sg (nI kx)) (cons (wgN N sg) (cons N Hy))) (k := kM 11 k + 3) (w := w) hst hQS huQ (a := (nI i)) (d := 3) (i := i) (j := 3) rfl rfl hiS (by decide)) (va_cwS 3 hts qL_house rfl rfl rfl (by decide +kernel) ⟨Nat.le_of_ble_eq_true rfl, Nat.le_of_ble_eq_true rfl⟩) hK hZ hX hY hG hS rfl hl.1 (Nat.le_of_ble_eq_true rfl) dL_water_161 ⟨Nat.le_of_ble_eq_true rfl, Nat.le_of_ble_eq_true rfl⟩ (by omega) (by omega) rfl rfl (fun H locs hG hS => ?_)
  refine lv_iload hx hb dL_water_164 (lv_at hl 3 rfl) ?_
  refine lv_icmp_ne (tgt := 173) hx hb dL_water_166 (by decide) (fun c_7 => absurd c1 c_7) (fun c_7 => ?_)
  refine lv_iconst (v := 1) hx hb dL_water_169 (by decide) ?_
  refine lv_goto (tgt := 174) hx hb dL_water_170 (by decide) ?_
  refine lv_iload hx hb dL_water_174 (lv_at hl 4 rfl) ?_
  refine lv_bipush (v := (-9)) hx hb dL_water_176 (by decide) ?_
  refine lv_icmp_eq (tgt := 185) hx hb dL_water_178 (by decide) (fun c_8 => absurd c_8 (wx_m9 (by omega))) (fun c_8 => ?_)
  refine lv_iconst (v := 1) hx hb dL_water_181 (by decide) ?_
  refine lv_goto (tgt := 186) hx hb dL_water_182 (by decide) ?_
  refine lv_icmp_ne (tgt := 193) hx hb dL_water_186 (by decide) (fun c_9 => absurd (by decide) c_9) (fun c_9 => ?_)
  refine lv_iconst (v := 1) hx hb dL_water_189 (by decide) ?_
  refine lv_goto (tgt := 194) hx hb dL_water_190 (by decide) ?_
  refine lv_iand hx hb dL_water_194 ?_
  refine g_top (y := 1) (show (1 &&& 1 : Int32) = 1 from rfl) ?_
  refine lv_istore (lv' := [(8, .int 1), (9, .int (fX7_pass_L (spS (wgN N sg) ((N 2).toNatClampNeg) sg (nI kx)) 1 10 - (spS (wgN N sg) ((N 2).toNatClampNeg) sg (nI kx)) 10)), (7, .int (nI ((N 2).toNatClampNeg))), (6, .int (N (82 + 5 * i + 3))), (5, .int (nI kx)), (4, .int (nI sg)), (2, .long (sumF N)), (0, .ref (gad Γ 475)), (1, .int (nI i))]) hx hb dL_water_195 hl (by decide) rfl (fun ls hl => ?_)
  refine lv_iload hx hb dL_water_197 (lv_at hl 0 rfl) ?_
  refine lv_aload_n hx hb dL_water_199 rfl (lv_at hl 7 rfl) ?_
  refine lv_bipush (v := 15) hx hb dL_water_200 (by decide) ?_
  refine lv_iconst (v := 0) hx hb dL_water_202 (by decide) ?_
  refine lv_iconst (v := 0) hx hb dL_water_203 (by decide) ?_
  refine lv_iconst (v := 0) hx hb dL_water_204 (by decide) ?_
  refine lv_iconst (v := 0) hx hb dL_water_205 (by decide) ?_
  refine l_call (X := 185) (K := 186) (CC := 392) (As := [.ref (gad Γ 475), .int 15, .int 0, .int 0, .int 0, .int 0]) (rest := [.int 1]) (st1 := [.int (nI (kM 11 k + 2)), .int 1]) hF (q_undo (l := l) (Γ := Γ) (N := (spS (wgN N sg) ((N 2).toNatClampNeg) sg (nI kx))) (Hy := (cons (wgN N sg) (cons N Hy))) (k := (kM 11 k + 2)) (w := w) (P := (fX7_pass_L (spS (wgN N sg) ((N 2).toNatClampNeg) sg (nI kx)) 1)) hSP 0 0) (va_cwS 6 hts qL_call rfl rfl rfl (by decide +kernel) ⟨Nat.le_of_ble_eq_true rfl, Nat.le_of_ble_eq_true rfl⟩) hK hZ hX hY hG hS rfl hl.1 (Nat.le_of_ble_eq_true rfl) dL_water_206 ⟨Nat.le_of_ble_eq_true rfl, Nat.le_of_ble_eq_true rfl⟩ (by omega) (by omega) rfl rfl (fun H locs hG hS => ?_)
  refine lv_if_lt (tgt := 234) hx hb dL_water_209 (by decide) (fun c_10 => absurd c_10 (kM_nn 11 2 k (by decide))) (fun c_10 => ?_)
  refine lv_iload hx hb dL_water_212 (lv_at hl 4 rfl) ?_
  refine lv_if_le (tgt := 230) hx hb dL_water_214 (by decide) (fun c_11 => absurd c_11 (nI_ge (a := 0) (b := kx) (by omega) (by omega))) (fun c_11 => ?_)
  refine lv_aload_n hx hb dL_water_217 rfl (lv_at hl 7 rfl) ?_
  refine lv_bipush (v := 15) hx hb dL_water_218 (by decide) ?_
  refine lv_iconst (v := 0) hx hb dL_water_220 (by decide) ?_
  refine lv_iconst (v := 0) hx hb dL_water_221 (by decide) ?_
  refine lv_iconst (v := 0) hx hb dL_water_222 (by decide) ?_
  refine lv_iconst (v := 0) hx hb dL_water_223 (by decide) ?_
  refine l_call (X := 186) (K := 187) (CC := 392) (As := [.ref (gad Γ 475), .int 15, .int 0, .int 0, .int 0, .int 0]) (rest := [.int 1]) (st1 := [.int (nI (kM 11 k + 1)), .int 1]) hF (q_undo (l := l) (Γ := Γ) (N := (wgN N sg)) (Hy := (cons N Hy)) (k := (kM 11 k + 1)) (w := w) (P := (spS (wgN N sg) ((N 2).toNatClampNeg) sg (nI kx))) hW 0 0) (va_cwS 6 hts qL_call rfl rfl rfl (by decide +kernel) ⟨Nat.le_of_ble_eq_true rfl, Nat.le_of_ble_eq_true rfl⟩) hK hZ hX hY hG hS rfl hl.1 (Nat.le_of_ble_eq_true rfl) dL_water_224 ⟨Nat.le_of_ble_eq_true rfl, Nat.le_of_ble_eq_true rfl⟩ (by omega) (by omega) rfl rfl (fun H locs hG hS => ?_)
  refine lv_if_lt (tgt := 234) hx hb dL_water_227 (by decide) (fun c_12 => absurd c_12 (kM_nn 11 1 k (by decide))) (fun c_12 => ?_)
  refine lv_iconst (v := 1) hx hb dL_water_230 (by decide) ?_
  refine lv_goto (tgt := 235) hx hb dL_water_231 (by decide) ?_
  refine lv_iand hx hb dL_water_235 ?_
  refine g_top (y := 1) (show (1 &&& 1 : Int32) = 1 from rfl) ?_
  refine lv_istore (lv' := [(8, .int 1), (9, .int (fX7_pass_L (spS (wgN N sg) ((N 2).toNatClampNeg) sg (nI kx)) 1 10 - (spS (wgN N sg) ((N 2).toNatClampNeg) sg (nI kx)) 10)), (7, .int (nI ((N 2).toNatClampNeg))), (6, .int (N (82 + 5 * i + 3))), (5, .int (nI kx)), (4, .int (nI sg)), (2, .long (sumF N)), (0, .ref (gad Γ 475)), (1, .int (nI i))]) hx hb dL_water_236 hl (by decide) rfl (fun ls hl => ?_)
  refine lv_iload hx hb dL_water_238 (lv_at hl 4 rfl) ?_
  refine lv_if_le (tgt := 334) hx hb dL_water_240 (by decide) (fun c_13 => absurd c_13 (nI_ge (a := 0) (b := kx) (by omega) (by omega))) (fun c_13 => ?_)
  refine lv_iload hx hb dL_water_243 (lv_at hl 0 rfl) ?_
  refine lv_iload hx hb dL_water_245 (lv_at hl 4 rfl) ?_
  refine lv_iconst (v := 1) hx hb dL_water_247 (by decide) ?_
  refine lv_icmp_eq (tgt := 268) hx hb dL_water_248 (by decide) (fun c_14 => absurd c_14 (fun e => by have := (nI_eq (a := kx) (b := 1) (by omega) (by decide)).mp e; omega)) (fun c_14 => ?_)
  refine lv_aload_n hx hb dL_water_251 rfl (lv_at hl 7 rfl) ?_
  refine lv_bipush (v := 12) hx hb dL_water_252 (by decide) ?_
  refine lv_iload hx hb dL_water_254 (lv_at hl 2 rfl) ?_
  refine lv_iload hx hb dL_water_256 (lv_at hl 4 rfl) ?_
  refine lv_iconst (v := 1) hx hb dL_water_258 (by decide) ?_
  refine lv_isub hx hb dL_water_259 ?_
  refine g_top (y := (nI (kx - 1))) (by rw [show (1 : Int32) = nI 1 from rfl, pk_sub (by omega)]) ?_
  refine lv_iconst (v := 0) hx hb dL_water_260 (by decide) ?_
  refine lv_iconst (v := 0) hx hb dL_water_261 (by decide) ?_
  refine l_call (X := 187) (K := 188) (CC := 392) (As := [.ref (gad Γ 475), .int 12, .int (nI ((N 2).toNatClampNeg)), .int (nI (kx - 1)), .int 0, .int 0]) (rest := [.int 1]) (st1 := [.int ((spS (wgN N sg) ((N 2).toNatClampNeg) sg (nI (kx - 1))) (12 + 7 * sg + 4)), .int 1]) hF (q_spray (l := l) (Γ := Γ) (N := wgN N sg) (Hy := cons N Hy) (k := kM 11 k + 1) (w := w) hst hW hu0 (a := (nI ((N 2).toNatClampNeg))) (d := (nI (kx - 1))) rfl rfl hw2 (by omega) (by omega) (by rw [a2]; decide) (by rw [a1]; exact nI_le (a := kx - 1) (b := 20) (by omega) (by decide)) (by rw [a0]; exact nI_clamp (by omega)) (kN_M (d := 11) (d' := 11) (n := 1) (k := k) (by decide) (by decide) (by decide))) (va_cwS 6 hts qL_call rfl rfl rfl (by decide +kernel) ⟨Nat.le_of_ble_eq_true rfl, Nat.le_of_ble_eq_true rfl⟩) hK hZ hX hY hG hS rfl hl.1 (Nat.le_of_ble_eq_true rfl) dL_water_262 ⟨Nat.le_of_ble_eq_true rfl, Nat.le_of_ble_eq_true rfl⟩ (by omega) (by omega) rfl rfl (fun H locs hG hS => ?_)
  refine lv_if_lt (tgt := 330) hx hb dL_water_265 (by decide) (fun c_15 => absurd c_15 g2.2) (fun c_15 => ?_)
  refine lv_aload_n hx hb dL_water_268 rfl (lv_at hl 7 rfl) ?_
  refine lv_bipush (v := 14) hx hb dL_water_269 (by decide) ?_
  refine lv_iconst (v := 1) hx hb dL_water_271 (by decide) ?_
  refine lv_iconst (v := 0) hx hb dL_water_272 (by decide) ?_
  refine lv_iconst (v := 0) hx hb dL_water_273 (by decide) ?_
  refine lv_iconst (v := 0) hx hb dL_water_274 (by decide) ?_
  refine l_call (X := 188) (K := 189) (CC := 392) (As := [.ref (gad Γ 475), .int 14, .int 1, .int 0, .int 0, .int 0]) (rest := [.int 1]) (st1 := [.int (fX7_pass_L (spS (wgN N sg) ((N 2).toNatClampNeg) sg (nI (kx - 1))) 1 10 - (spS (wgN N sg) ((N 2).toNatClampNeg) sg (nI (kx - 1))) 10), .int 1]) hF (q_pass (l := l) (Γ := Γ) (N := spS (wgN N sg) ((N 2).toNatClampNeg) sg (nI (kx - 1))) (Hy := cons (wgN N sg) (cons N Hy)) (k := kM 11 k + 2) (w := w) hst hT hu1 (a := 1) (h := 1) rfl 0 (by decide) (by decide) (kN_M (d := 11) (d' := 11) (n := 2) (k := k) (by decide) (by decide) (by decide))) (va_cwS 6 hts qL_call rfl rfl rfl (by decide +kernel) ⟨Nat.le_of_ble_eq_true rfl, Nat.le_of_ble_eq_true rfl⟩) hK hZ hX hY hG hS rfl hl.1 (Nat.le_of_ble_eq_true rfl) dL_water_275 ⟨Nat.le_of_ble_eq_true rfl, Nat.le_of_ble_eq_true rfl⟩ (by omega) (by omega) rfl rfl (fun H locs hG hS => ?_)
  refine lv_if_le (tgt := 330) hx hb dL_water_278 (by decide) (fun c_16 => absurd c_16 ((sub_pos (hQT.n10) (hT.n10) (by omega) c2.2).1)) (fun c_16 => ?_)
  refine lv_aload_n hx hb dL_water_281 rfl (lv_at hl 7 rfl) ?_
  refine lv_iload_n hx hb dL_water_282 rfl (lv_at hl 8 rfl) ?_
  refine lv_iconst (v := 3) hx hb dL_water_283 (by decide) ?_
  refine l_call (X := 189) (K := 190) (CC := 392) (As := [.ref (gad Γ 475), .int (nI i), .int 3]) (rest := [.int 1]) (st1 := [.int ((fX7_pass_L (spS (wgN N sg) ((N 2).toNatClampNeg) sg (nI (kx - 1))) 1) (82 + 5 * i + 3)), .int 1]) hF (r_house (N := fX7_pass_L (spS (wgN N sg) ((N 2).toNatClampNeg) sg (nI (kx - 1))) 1) (Hy := cons (spS (wgN N sg) ((N 2).toNatClampNeg) sg (nI (kx - 1))) (cons (wgN N sg) (cons N Hy))) (k := kM 11 k + 3) (w := w) hst hQT huQ (a := (nI i)) (d := 3) (i := i) (j := 3) rfl rfl hiT (by decide)) (va_cwS 3 hts qL_house rfl rfl rfl (by decide +kernel) ⟨Nat.le_of_ble_eq_true rfl, Nat.le_of_ble_eq_true rfl⟩) hK hZ hX hY hG hS rfl hl.1 (Nat.le_of_ble_eq_true rfl) dL_water_284 ⟨Nat.le_of_ble_eq_true rfl, Nat.le_of_ble_eq_true rfl⟩ (by omega) (by omega) rfl rfl (fun H locs hG hS => ?_)
  refine lv_iload hx hb dL_water_287 (lv_at hl 3 rfl) ?_
  refine lv_iconst (v := 1) hx hb dL_water_289 (by decide) ?_
  refine lv_iadd hx hb dL_water_290 ?_
  refine lv_icmp_ne (tgt := 330) hx hb dL_water_291 (by decide) (fun c_17 => absurd c2.1 c_17) (fun c_17 => ?_)
  refine lv_aload_n hx hb dL_water_294 rfl (lv_at hl 7 rfl) ?_
  refine lv_bipush (v := 15) hx hb dL_water_295 (by decide) ?_
  refine lv_iconst (v := 0) hx hb dL_water_297 (by decide) ?_
  refine lv_iconst (v := 0) hx hb dL_water_298 (by decide) ?_
  refine lv_iconst (v := 0) hx hb dL_water_299 (by decide) ?_
  refine lv_iconst (v := 0) hx hb dL_water_300 (by decide) ?_
  refine l_call (X := 190) (K := 191) (CC := 392) (As := [.ref (gad Γ 475), .int 15, .int 0, .int 0, .int 0, .int 0]) (rest := [.int 1]) (st1 := [.int (nI (kM 11 k + 2)), .int 1]) hF (q_undo (l := l) (Γ := Γ) (N := (spS (wgN N sg) ((N 2).toNatClampNeg) sg (nI (kx - 1)))) (Hy := (cons (wgN N sg) (cons N Hy))) (k := (kM 11 k + 2)) (w := w) (P := (fX7_pass_L (spS (wgN N sg) ((N 2).toNatClampNeg) sg (nI (kx - 1))) 1)) hT 0 0) (va_cwS 6 hts qL_call rfl rfl rfl (by decide +kernel) ⟨Nat.le_of_ble_eq_true rfl, Nat.le_of_ble_eq_true rfl⟩) hK hZ hX hY hG hS rfl hl.1 (Nat.le_of_ble_eq_true rfl) dL_water_301 ⟨Nat.le_of_ble_eq_true rfl, Nat.le_of_ble_eq_true rfl⟩ (by omega) (by omega) rfl rfl (fun H locs hG hS => ?_)
  refine lv_if_lt (tgt := 330) hx hb dL_water_304 (by decide) (fun c_18 => absurd c_18 (kM_nn 11 2 k (by decide))) (fun c_18 => ?_)
  refine lv_iload hx hb dL_water_307 (lv_at hl 4 rfl) ?_
  refine lv_iconst (v := 1) hx hb dL_water_309 (by decide) ?_
  refine lv_icmp_eq (tgt := 326) hx hb dL_water_310 (by decide) (fun c_19 => absurd c_19 (fun e => by have := (nI_eq (a := kx) (b := 1) (by omega) (by decide)).mp e; omega)) (fun c_19 => ?_)
  refine lv_aload_n hx hb dL_water_313 rfl (lv_at hl 7 rfl) ?_
  refine lv_bipush (v := 15) hx hb dL_water_314 (by decide) ?_
  refine lv_iconst (v := 0) hx hb dL_water_316 (by decide) ?_
  refine lv_iconst (v := 0) hx hb dL_water_317 (by decide) ?_
  refine lv_iconst (v := 0) hx hb dL_water_318 (by decide) ?_
  refine lv_iconst (v := 0) hx hb dL_water_319 (by decide) ?_
  refine l_call (X := 191) (K := 192) (CC := 392) (As := [.ref (gad Γ 475), .int 15, .int 0, .int 0, .int 0, .int 0]) (rest := [.int 1]) (st1 := [.int (nI (kM 11 k + 1)), .int 1]) hF (q_undo (l := l) (Γ := Γ) (N := (wgN N sg)) (Hy := (cons N Hy)) (k := (kM 11 k + 1)) (w := w) (P := (spS (wgN N sg) ((N 2).toNatClampNeg) sg (nI (kx - 1)))) hW 0 0) (va_cwS 6 hts qL_call rfl rfl rfl (by decide +kernel) ⟨Nat.le_of_ble_eq_true rfl, Nat.le_of_ble_eq_true rfl⟩) hK hZ hX hY hG hS rfl hl.1 (Nat.le_of_ble_eq_true rfl) dL_water_320 ⟨Nat.le_of_ble_eq_true rfl, Nat.le_of_ble_eq_true rfl⟩ (by omega) (by omega) rfl rfl (fun H locs hG hS => ?_)
  refine lv_if_lt (tgt := 330) hx hb dL_water_323 (by decide) (fun c_20 => absurd c_20 (kM_nn 11 1 k (by decide))) (fun c_20 => ?_)
  refine lv_iconst (v := 1) hx hb dL_water_326 (by decide) ?_
  refine lv_goto (tgt := 331) hx hb dL_water_327 (by decide) ?_
  refine lv_iand hx hb dL_water_331 ?_
  refine g_top (y := 1) (show (1 &&& 1 : Int32) = 1 from rfl) ?_
  refine lv_istore (lv' := [(8, .int 1), (9, .int (fX7_pass_L (spS (wgN N sg) ((N 2).toNatClampNeg) sg (nI kx)) 1 10 - (spS (wgN N sg) ((N 2).toNatClampNeg) sg (nI kx)) 10)), (7, .int (nI ((N 2).toNatClampNeg))), (6, .int (N (82 + 5 * i + 3))), (5, .int (nI kx)), (4, .int (nI sg)), (2, .long (sumF N)), (0, .ref (gad Γ 475)), (1, .int (nI i))]) hx hb dL_water_332 hl (by decide) rfl (fun ls hl => ?_)
  refine lv_iload hx hb dL_water_334 (lv_at hl 0 rfl) ?_
  refine lv_if_eq (tgt := 365) hx hb dL_water_336 (by decide) (fun c_21 => absurd c_21 (by decide)) (fun c_21 => ?_)
  refine lv_aload_n hx hb dL_water_339 rfl (lv_at hl 7 rfl) ?_
  refine lv_bipush (v := 15) hx hb dL_water_340 (by decide) ?_
  refine lv_iconst (v := 0) hx hb dL_water_342 (by decide) ?_
  refine lv_iconst (v := 0) hx hb dL_water_343 (by decide) ?_
  refine lv_iconst (v := 0) hx hb dL_water_344 (by decide) ?_
  refine lv_iconst (v := 0) hx hb dL_water_345 (by decide) ?_
  refine l_call (X := 192) (K := 193) (CC := 392) (As := [.ref (gad Γ 475), .int 15, .int 0, .int 0, .int 0, .int 0]) (rest := []) (st1 := [.int (nI (kM 11 k))]) hF (q_undo (l := l) (Γ := Γ) (N := N) (Hy := Hy) (k := (kM 11 k)) (w := w) (P := (wgN N sg)) hN 0 0) (va_cwS 6 hts qL_call rfl rfl rfl (by decide +kernel) ⟨Nat.le_of_ble_eq_true rfl, Nat.le_of_ble_eq_true rfl⟩) hK hZ hX hY hG hS rfl hl.1 (Nat.le_of_ble_eq_true rfl) dL_water_346 ⟨Nat.le_of_ble_eq_true rfl, Nat.le_of_ble_eq_true rfl⟩ (by omega) (by omega) rfl rfl (fun H locs hG hS => ?_)
  refine lv_if_lt (tgt := 365) hx hb dL_water_349 (by decide) (fun c_22 => absurd c_22 (kM_nn 11 0 k (by decide))) (fun c_22 => ?_)
  refine lv_aload_n hx hb dL_water_352 rfl (lv_at hl 7 rfl) ?_
  refine l_call (X := 193) (K := 369) (CC := 392) (As := [.ref (gad Γ 475)]) (rest := []) (st1 := [.long (sumF N)]) hF (L_sum (N := N) (Hy := Hy) (k := kM 11 k) (w := w) hst hN hu0) (va_cwS 1 hts qL_sum rfl rfl rfl (by decide +kernel) ⟨Nat.le_of_ble_eq_true rfl, Nat.le_of_ble_eq_true rfl⟩) hK hZ hX hY hG hS rfl hl.1 (Nat.le_of_ble_eq_true rfl) dL_water_353 ⟨Nat.le_of_ble_eq_true rfl, Nat.le_of_ble_eq_true rfl⟩ (by omega) (by omega) rfl rfl (fun H locs hG hS => ?_)
  refine lv_lload_n hx hb dL_water_356 rfl (lv_at hl 6 rfl) ?_
  refine W.lcmp hx hb dL_water_357 ?_
  refine gl_ne (tgt := 365) hx hb dL_water_358 (by decide) (fun c_23 => absurd rfl c_23) (fun c_23 => ?_)
  refine lv_iconst (v := 1) hx hb dL_water_361 (by decide) ?_
  refine lv_goto (tgt := 366) hx hb dL_water_362 (by decide) ?_
  exact l_zret hx hb hrt hlocks hS hG (by decide) rfl (by omega) dL_water_366

/-- what is left of the remembered states -/
noncomputable def kW (N : Nat → Int32) (i k : Nat) : Nat := if N 2 = 3 then k else if 0 < lst (CW N i) 10 ∧ lst (CW N i) 10 < 10 then kM 11 k else kM 12 k
theorem kW_14 (N : Nat → Int32) (i : Nat) {k : Nat} (h : k ≤ 14) : kW N i k ≤ 14 := by
  unfold kW
  (repeat' split) <;> first | exact h | exact kM_14 _ h
theorem L_water {l : Launch} {Γ : gX} (hst : l.stackTraces = false) {u : Nat} {N : Nat → Int32} {Hy : Nat → Nat → Int32} {k : Nat} {w : WO} (hN : PI u N) (hu : 1998 * (u + 10000) < 2 ^ 31) (hk : k ≤ 14) {i : Nat} (hi : i < (N 1).toNatClampNeg) : lM l Γ yL_water wqL_water 13 296 392 [.ref (gad Γ 475), .int (nI i)] (SH Γ N Hy k w) (some (.int 1)) (SH Γ N Hy (kW N i k) w) := by
  have b1 := hN.h8.2
  have i8 : i < 8 := by omega
  have hsg := hN.2.2.1 i i8
  have esg := (hN.nh i8 0 9 (by omega) rfl (j := 82 + 5 * i) rfl).1
  have hv : v_waterFor N (nI i) = if lst (CW N i) 10 < 10 then nI (lst (CW N i) 10) else -9 := by
    unfold v_waterFor
    rw [nI_clamp (by omega)]
  unfold kW
  by_cases h3 : N 2 = 3
  · rw [if_pos h3]
    exact L_water_F hst hN hu hk hi esg hsg h3
  rw [if_neg h3]
  obtain ⟨s1, s2, s3⟩ := lst_spec (CW N i) 10
  generalize lst (CW N i) 10 = kx at hv s1 s2 s3 ⊢
  by_cases q : kx < 10
  · rw [if_pos q] at hv
    have c1 := s3 q
    by_cases z : kx = 0
    · subst z
      rw [if_neg (by omega)]
      exact L_water_Z hst hN hu hk hi esg hsg h3 c1 hv
    · rw [if_pos ⟨by omega, q⟩]
      have c2 := Decidable.of_not_not (s2 (kx - 1) (by omega))
      by_cases y : kx = 1
      · subst y
        exact L_water_P1 hst hN hu hk hi esg hsg h3 c1 c2 hv
      · exact L_water_P2 hst hN hu hk hi esg hsg h3 (by omega) q c1 c2 hv
  · rw [if_neg q] at hv
    rw [if_neg (by omega)]
    exact L_water_NO hst hN hu hk hi esg hsg h3 (Decidable.of_not_not (s2 0 (by omega))) hv
