/-! THE LAW: limits. Laid by gen/r94.py. -/
set_option maxRecDepth 16384
section Lim
variable {u : Nat} {N : Nat → Int32} {i sg x : Nat}
theorem lim_PI (hN : PI u N) (hs : sg < 10) (hx : x ≤ 5) : PI u (upd N (12 + 7 * sg + 1) (nI x)) := hN.us hs 1 5 (by omega) rfl (nn.of rfl hx (by decide))
theorem lim_hi (N : Nat → Int32) (sg : Nat) (v : Int32) {j : Nat} (hj : j < 12 ∨ 82 ≤ j) (hs : sg < 10) : upd N (12 + 7 * sg + 1) v j = N j := pk_un (by omega)
theorem lim_no (hN : PI u N) (hu : 1998 * (u + 17) < 2 ^ 31) (hs : sg < 10) (hx : x ≤ 5) (hi : i < (N 1).toNatClampNeg) (hc : ¬ N 7 ≤ fX7_hourOn_P (upd N (12 + 7 * sg + 1) (nI x)) (82 + 5 * i + 4)) : fX7_pass_L (upd N (12 + 7 * sg + 1) (nI x)) 1 (82 + 5 * i + 3) = N (82 + 5 * i + 3) := by
  have p := lim_PI hN hs hx
  show fX7_hourOn_P (upd N (12 + 7 * sg + 1) (nI x)) (82 + 5 * i + 3) = _
  rw [hour_c3 p hu (by rw [lim_hi N sg _ (by omega) hs]; exact hi), lim_hi N sg _ (show 7 < 12 ∨ 82 ≤ 7 by omega) hs, if_pos (Int32.not_le.mp hc), lim_hi N sg _ (by omega) hs]
theorem lim_yes (hN : PI u N) (hu : 1998 * (u + 17) < 2 ^ 31) (hs : sg < 10) (hx : x ≤ 5) (hi : i < (N 1).toNatClampNeg) (hc : N 7 ≤ fX7_hourOn_P (upd N (12 + 7 * sg + 1) (nI x)) (82 + 5 * i + 4)) : fX7_pass_L (upd N (12 + 7 * sg + 1) (nI x)) 1 (82 + 5 * i + 3) = N (82 + 5 * i + 3) + 1 ∧ (upd N (12 + 7 * sg + 1) (nI x) 10).toNatClampNeg < (fX7_pass_L (upd N (12 + 7 * sg + 1) (nI x)) 1 10).toNatClampNeg := by
  have p := lim_PI hN hs hx
  have h1 : i < (upd N (12 + 7 * sg + 1) (nI x) 1).toNatClampNeg := by rw [lim_hi N sg _ (by omega) hs]; exact hi
  have e7 : upd N (12 + 7 * sg + 1) (nI x) 7 = N 7 := lim_hi N sg _ (by omega) hs
  constructor
  · show fX7_hourOn_P (upd N (12 + 7 * sg + 1) (nI x)) (82 + 5 * i + 3) = _
    rw [hour_c3 p hu h1, e7, if_neg (Int32.not_lt.mpr hc), lim_hi N sg _ (by omega) hs]
  · exact hour_10s p hu h1 (by rw [e7]; exact Int32.not_lt.mpr hc)
theorem lx_m9 {k : Nat} (h : k ≤ 5) : ¬ nI k = -9 := fun e => by
  have := nI_nlt (a := k) (b := 0) (Nat.zero_le _) (by omega)
  rw [e] at this
  exact this (by decide)
end Lim
set_option maxHeartbeats 4000000 in
set_option maxRecDepth 100000 in
theorem L_limits_A {l : Launch} {Γ : gX} (hst : l.stackTraces = false) {u : Nat} {N : Nat → Int32} {Hy : Nat → Nat → Int32} {k : Nat} {w : WO} (hN : PI u N) (hu : 1998 * (u + 10000) < 2 ^ 31) (hG0 : GD N) (hk : k ≤ 14) {i sg r : Nat} (hi : i < (N 1).toNatClampNeg) (esg : N (82 + 5 * i) = nI sg) (hsg : sg < (N 0).toNatClampNeg) (hr : r ≤ 4) (e5 : 5 - N (12 + 7 * sg + 2) = nI (5 - r)) {kx : Nat} (hw : v_limitFor N (nI i) = nI (5 - kx)) (hk5 : kx < 5) (hkr : r < kx) (hc1 : ¬ N 7 ≤ fX7_hourOn_P (upd N (12 + 7 * sg + 1) (nI (5 - kx))) (82 + 5 * i + 4)) (hc2 : N 7 ≤ fX7_hourOn_P (upd N (12 + 7 * sg + 1) (nI (6 - kx))) (82 + 5 * i + 4)) : lM l Γ yL_limits wqL_limits 13 296 392 [.ref (gad Γ 475), .int (nI i)] (SH Γ N Hy k w) (some (.int 1)) (SH Γ N Hy (kM 12 k) w) := by
  refine l_start (cc := cL_limits) (maxL := 10) (ret := (some .boolean)) (by decide) rfl (Nat.le_of_ble_eq_true rfl) ?_
  intro p e s m below meth c ls hx hb hml hrt hts hown hlocks hK hZ hX hY hG hS hl
  have hl : lv_has ls 10 [(0, .ref (gad Γ 475)), (1, .int (nI i))] := hl
  have hown : s.vm.findClass RL = some m.cls := hown
  have hF : CallFix p m c cL_limits 10 s _ wqL_limits RL := ⟨hx, hb, hml, hown, hts⟩
  have b1 := hN.h8.2
  have b0 := hN.s10.2
  have s10 : sg < 10 := by omega
  have hu0 : 1998 * (u + 5000) < 2 ^ 31 := by omega
  have huQ : 1998 * (u + 17 * 1 + 5000) < 2 ^ 31 := by omega
  have hl0 : ¬ N (12 + 7 * sg + 1) ≤ 0 := by
    have q := (hG0.1 sg hsg).1
    obtain ⟨y, hy, ey, -⟩ := (hN.ns s10 1 5 (by omega) rfl rfl).ex
    rw [ey] at q ⊢
    exact nI_ge (a := 0) (b := y) (Nat.pos_of_ne_zero (fun z => q (by rw [z]; decide))) (by omega)
  have hL1 : PI u (upd N (12 + 7 * sg + 1) (nI (5 - kx))) := lim_PI hN s10 (by omega)
  have hQ1 := pass_PI hL1 1 (by omega)
  have hiQ1 : i < (fX7_pass_L (upd N (12 + 7 * sg + 1) (nI (5 - kx))) 1 1).toNatClampNeg := by rw [pass_hd hL1 (j := 1) (by decide) (by decide) 1 (by omega), lim_hi N sg _ (by omega) s10]; exact hi
  have c1 := lim_no hN (by omega) s10 (x := 5 - kx) (by omega) hi hc1
  have hL2 : PI u (upd N (12 + 7 * sg + 1) (nI (6 - kx))) := lim_PI hN s10 (by omega)
  have hQ2 := pass_PI hL2 1 (by omega)
  have hiQ2 : i < (fX7_pass_L (upd N (12 + 7 * sg + 1) (nI (6 - kx))) 1 1).toNatClampNeg := by rw [pass_hd hL2 (j := 1) (by decide) (by decide) 1 (by omega), lim_hi N sg _ (by omega) s10]; exact hi
  have c2 := lim_yes hN (by omega) s10 (x := 6 - kx) (by omega) hi hc2
  refine lv_aload_n hx hb dL_limits_0 rfl (lv_at hl 0 rfl) ?_
  refine l_call (X := 0) (K := 176) (CC := 392) (As := [.ref (gad Γ 475)]) (rest := []) (st1 := [.long (sumF N)]) hF (L_sum (N := N) (Hy := Hy) (k := k) (w := w) hst hN hu0) (va_cwS 1 hts qL_sum rfl rfl rfl (by decide +kernel) ⟨Nat.le_of_ble_eq_true rfl, Nat.le_of_ble_eq_true rfl⟩) hK hZ hX hY hG hS rfl hl.1 (Nat.le_of_ble_eq_true rfl) dL_limits_1 ⟨Nat.le_of_ble_eq_true rfl, Nat.le_of_ble_eq_true rfl⟩ (by omega) (by omega) rfl rfl (fun H locs hG hS => ?_)
  refine lv_lstore_n (lv' := [(2, .long (sumF N)), (0, .ref (gad Γ 475)), (1, .int (nI i))]) hx hb dL_limits_4 rfl hl (by decide) rfl (fun ls hl => ?_)
  refine lv_aload_n hx hb dL_limits_5 rfl (lv_at hl 1 rfl) ?_
  refine lv_iload_n hx hb dL_limits_6 rfl (lv_at hl 2 rfl) ?_
  refine lv_iconst (v := 0) hx hb dL_limits_7 (by decide) ?_
  refine l_call (X := 176) (K := 177) (CC := 392) (As := [.ref (gad Γ 475), .int (nI i), .int 0]) (rest := []) (st1 := [.int (N (82 + 5 * i + 0))]) hF (r_house (N := N) (Hy := Hy) (k := k) (w := w) hst hN hu0 (a := (nI i)) (d := 0) (i := i) (j := 0) rfl rfl hi (by decide)) (va_cwS 3 hts qL_house rfl rfl rfl (by decide +kernel) ⟨Nat.le_of_ble_eq_true rfl, Nat.le_of_ble_eq_true rfl⟩) hK hZ hX hY hG hS rfl hl.1 (Nat.le_of_ble_eq_true rfl) dL_limits_8 ⟨Nat.le_of_ble_eq_true rfl, Nat.le_of_ble_eq_true rfl⟩ (by omega) (by omega) rfl rfl (fun H locs hG hS => ?_)
  refine g_top (y := (nI sg)) esg ?_
  refine lv_istore (lv' := [(4, .int (nI sg)), (2, .long (sumF N)), (0, .ref (gad Γ 475)), (1, .int (nI i))]) hx hb dL_limits_11 hl (by decide) rfl (fun ls hl => ?_)
  refine lv_aload_n hx hb dL_limits_13 rfl (lv_at hl 2 rfl) ?_
  refine lv_bipush (v := 19) hx hb dL_limits_14 (by decide) ?_
  refine lv_iload_n hx hb dL_limits_16 rfl (lv_at hl 3 rfl) ?_
  refine lv_iconst (v := 0) hx hb dL_limits_17 (by decide) ?_
  refine lv_iconst (v := 0) hx hb dL_limits_18 (by decide) ?_
  refine lv_iconst (v := 0) hx hb dL_limits_19 (by decide) ?_
  refine l_call (X := 177) (K := 178) (CC := 392) (As := [.ref (gad Γ 475), .int 19, .int (nI i), .int 0, .int 0, .int 0]) (rest := []) (st1 := [.int (v_limitFor N (nI i))]) hF (q_slow (l := l) (Γ := Γ) (N := N) (Hy := Hy) (k := k) (w := w) hst hN hu0 (a := (nI i)) rfl 0 hi) (va_cwS 6 hts qL_call rfl rfl rfl (by decide +kernel) ⟨Nat.le_of_ble_eq_true rfl, Nat.le_of_ble_eq_true rfl⟩) hK hZ hX hY hG hS rfl hl.1 (Nat.le_of_ble_eq_true rfl) dL_limits_20 ⟨Nat.le_of_ble_eq_true rfl, Nat.le_of_ble_eq_true rfl⟩ (by omega) (by omega) rfl rfl (fun H locs hG hS => ?_)
  refine g_top (y := (nI (5 - kx))) hw ?_
  refine lv_istore (lv' := [(5, .int (nI (5 - kx))), (4, .int (nI sg)), (2, .long (sumF N)), (0, .ref (gad Γ 475)), (1, .int (nI i))]) hx hb dL_limits_23 hl (by decide) rfl (fun ls hl => ?_)
  refine lv_iconst (v := 5) hx hb dL_limits_25 (by decide) ?_
  refine lv_aload_n hx hb dL_limits_26 rfl (lv_at hl 3 rfl) ?_
  refine lv_iload hx hb dL_limits_27 (lv_at hl 1 rfl) ?_
  refine lv_iconst (v := 2) hx hb dL_limits_29 (by decide) ?_
  refine l_call (X := 178) (K := 179) (CC := 392) (As := [.ref (gad Γ 475), .int (nI sg), .int 2]) (rest := [.int 5]) (st1 := [.int (N (12 + 7 * sg + 2)), .int 5]) hF (r_segment (N := N) (Hy := Hy) (k := k) (w := w) hst hN hu0 (a := (nI sg)) (d := 2) (i := sg) (j := 2) rfl rfl hsg (by decide)) (va_cwS 3 hts qL_segment rfl rfl rfl (by decide +kernel) ⟨Nat.le_of_ble_eq_true rfl, Nat.le_of_ble_eq_true rfl⟩) hK hZ hX hY hG hS rfl hl.1 (Nat.le_of_ble_eq_true rfl) dL_limits_30 ⟨Nat.le_of_ble_eq_true rfl, Nat.le_of_ble_eq_true rfl⟩ (by omega) (by omega) rfl rfl (fun H locs hG hS => ?_)
  refine lv_isub hx hb dL_limits_33 ?_
  refine g_top (y := (nI (5 - r))) e5 ?_
  refine lv_istore (lv' := [(6, .int (nI (5 - r))), (5, .int (nI (5 - kx))), (4, .int (nI sg)), (2, .long (sumF N)), (0, .ref (gad Γ 475)), (1, .int (nI i))]) hx hb dL_limits_34 hl (by decide) rfl (fun ls hl => ?_)
  refine lv_aload_n hx hb dL_limits_36 rfl (lv_at hl 4 rfl) ?_
  refine lv_iload_n hx hb dL_limits_37 rfl (lv_at hl 5 rfl) ?_
  refine lv_iconst (v := 3) hx hb dL_limits_38 (by decide) ?_
  refine l_call (X := 179) (K := 180) (CC := 392) (As := [.ref (gad Γ 475), .int (nI i), .int 3]) (rest := []) (st1 := [.int (N (82 + 5 * i + 3))]) hF (r_house (N := N) (Hy := Hy) (k := k) (w := w) hst hN hu0 (a := (nI i)) (d := 3) (i := i) (j := 3) rfl rfl hi (by decide)) (va_cwS 3 hts qL_house rfl rfl rfl (by decide +kernel) ⟨Nat.le_of_ble_eq_true rfl, Nat.le_of_ble_eq_true rfl⟩) hK hZ hX hY hG hS rfl hl.1 (Nat.le_of_ble_eq_true rfl) dL_limits_39 ⟨Nat.le_of_ble_eq_true rfl, Nat.le_of_ble_eq_true rfl⟩ (by omega) (by omega) rfl rfl (fun H locs hG hS => ?_)
  refine lv_istore (lv' := [(7, .int (N (82 + 5 * i + 3))), (6, .int (nI (5 - r))), (5, .int (nI (5 - kx))), (4, .int (nI sg)), (2, .long (sumF N)), (0, .ref (gad Γ 475)), (1, .int (nI i))]) hx hb dL_limits_42 hl (by decide) rfl (fun ls hl => ?_)
  refine lv_iload hx hb dL_limits_44 (lv_at hl 2 rfl) ?_
  refine lv_bipush (v := (-9)) hx hb dL_limits_46 (by decide) ?_
  refine lv_icmp_eq (tgt := 64) hx hb dL_limits_48 (by decide) (fun c_1 => absurd c_1 (lx_m9 (by omega))) (fun c_1 => ?_)
  refine lv_iload hx hb dL_limits_51 (lv_at hl 2 rfl) ?_
  refine lv_iconst (v := 1) hx hb dL_limits_53 (by decide) ?_
  refine lv_icmp_lt (tgt := 68) hx hb dL_limits_54 (by decide) (fun c_2 => absurd c_2 (nI_nlt (a := 5 - kx) (b := 1) (by omega) (by omega))) (fun c_2 => ?_)
  refine lv_iload hx hb dL_limits_57 (lv_at hl 2 rfl) ?_
  refine lv_iload hx hb dL_limits_59 (lv_at hl 1 rfl) ?_
  refine lv_icmp_gt (tgt := 68) hx hb dL_limits_61 (by decide) (fun c_3 => absurd c_3 (nI_nlt (a := 5 - r) (b := 5 - kx) (by omega) (by omega))) (fun c_3 => ?_)
  refine lv_iconst (v := 1) hx hb dL_limits_64 (by decide) ?_
  refine lv_goto (tgt := 69) hx hb dL_limits_65 (by decide) ?_
  refine lv_istore (lv' := [(8, .int 1), (7, .int (N (82 + 5 * i + 3))), (6, .int (nI (5 - r))), (5, .int (nI (5 - kx))), (4, .int (nI sg)), (2, .long (sumF N)), (0, .ref (gad Γ 475)), (1, .int (nI i))]) hx hb dL_limits_69 hl (by decide) rfl (fun ls hl => ?_)
  refine lv_iload hx hb dL_limits_71 (lv_at hl 3 rfl) ?_
  refine lv_bipush (v := (-9)) hx hb dL_limits_73 (by decide) ?_
  refine lv_icmp_eq (tgt := 153) hx hb dL_limits_75 (by decide) (fun c_4 => absurd c_4 (lx_m9 (by omega))) (fun c_4 => ?_)
  refine lv_iload hx hb dL_limits_78 (lv_at hl 0 rfl) ?_
  refine lv_aload_n hx hb dL_limits_80 rfl (lv_at hl 6 rfl) ?_
  refine lv_bipush (v := 9) hx hb dL_limits_81 (by decide) ?_
  refine lv_iload hx hb dL_limits_83 (lv_at hl 4 rfl) ?_
  refine lv_iload hx hb dL_limits_85 (lv_at hl 3 rfl) ?_
  refine lv_iconst (v := 0) hx hb dL_limits_87 (by decide) ?_
  refine lv_iconst (v := 0) hx hb dL_limits_88 (by decide) ?_
  refine l_call (X := 180) (K := 181) (CC := 392) (As := [.ref (gad Γ 475), .int 9, .int (nI sg), .int (nI (5 - kx)), .int 0, .int 0]) (rest := [.int 1]) (st1 := [.int (N (12 + 7 * sg + 1)), .int 1]) hF (q_limit (l := l) (Γ := Γ) (N := N) (Hy := Hy) (k := k) (w := w) hst hN hu0 (a := (nI sg)) (d := (nI (5 - kx))) rfl rfl hsg (by omega) (by omega) (by rw [e5]; exact nI_le (a := 5 - kx) (by omega) (by omega)) (kN_0 hk)) (va_cwS 6 hts qL_call rfl rfl rfl (by decide +kernel) ⟨Nat.le_of_ble_eq_true rfl, Nat.le_of_ble_eq_true rfl⟩) hK hZ hX hY hG hS rfl hl.1 (Nat.le_of_ble_eq_true rfl) dL_limits_89 ⟨Nat.le_of_ble_eq_true rfl, Nat.le_of_ble_eq_true rfl⟩ (by omega) (by omega) rfl rfl (fun H locs hG hS => ?_)
  refine lv_if_le (tgt := 149) hx hb dL_limits_92 (by decide) (fun c_5 => absurd c_5 hl0) (fun c_5 => ?_)
  refine lv_aload_n hx hb dL_limits_95 rfl (lv_at hl 6 rfl) ?_
  refine lv_bipush (v := 14) hx hb dL_limits_96 (by decide) ?_
  refine lv_iconst (v := 1) hx hb dL_limits_98 (by decide) ?_
  refine lv_iconst (v := 0) hx hb dL_limits_99 (by decide) ?_
  refine lv_iconst (v := 0) hx hb dL_limits_100 (by decide) ?_
  refine lv_iconst (v := 0) hx hb dL_limits_101 (by decide) ?_
  refine l_call (X := 181) (K := 182) (CC := 392) (As := [.ref (gad Γ 475), .int 14, .int 1, .int 0, .int 0, .int 0]) (rest := [.int 1]) (st1 := [.int (fX7_pass_L (upd N (12 + 7 * sg + 1) (nI (5 - kx))) 1 10 - (upd N (12 + 7 * sg + 1) (nI (5 - kx))) 10), .int 1]) hF (q_pass (l := l) (Γ := Γ) (N := upd N (12 + 7 * sg + 1) (nI (5 - kx))) (Hy := cons N Hy) (k := kM 13 k + 1) (w := w) hst hL1 hu0 (a := 1) rfl 0 (by decide) (by decide) (kN_M (d := 13) (d' := 12) (n := 1) (k := k) (by decide) (by decide) (by decide))) (va_cwS 6 hts qL_call rfl rfl rfl (by decide +kernel) ⟨Nat.le_of_ble_eq_true rfl, Nat.le_of_ble_eq_true rfl⟩) hK hZ hX hY hG hS rfl hl.1 (Nat.le_of_ble_eq_true rfl) dL_limits_102 ⟨Nat.le_of_ble_eq_true rfl, Nat.le_of_ble_eq_true rfl⟩ (by omega) (by omega) rfl rfl (fun H locs hG hS => ?_)
  refine lv_if_lt (tgt := 149) hx hb dL_limits_105 (by decide) (fun c_6 => absurd c_6 (sub_nneg (hQ1.n10) (hL1.n10) (by omega) (pass_10 hL1 1 (by omega)).1)) (fun c_6 => ?_)
  refine lv_aload_n hx hb dL_limits_108 rfl (lv_at hl 6 rfl) ?_
  refine lv_iload_n hx hb dL_limits_109 rfl (lv_at hl 7 rfl) ?_
  refine lv_iconst (v := 3) hx hb dL_limits_110 (by decide) ?_
  refine l_call (X := 182) (K := 183) (CC := 392) (As := [.ref (gad Γ 475), .int (nI i), .int 3]) (rest := [.int 1]) (st1 := [.int ((fX7_pass_L (upd N (12 + 7 * sg + 1) (nI (5 - kx))) 1) (82 + 5 * i + 3)), .int 1]) hF (r_house (N := fX7_pass_L (upd N (12 + 7 * sg + 1) (nI (5 - kx))) 1) (Hy := cons (upd N (12 + 7 * sg + 1) (nI (5 - kx))) (cons N Hy)) (k := kM 12 k + 2) (w := w) hst hQ1 huQ (a := (nI i)) (d := 3) (i := i) (j := 3) rfl rfl hiQ1 (by decide)) (va_cwS 3 hts qL_house rfl rfl rfl (by decide +kernel) ⟨Nat.le_of_ble_eq_true rfl, Nat.le_of_ble_eq_true rfl⟩) hK hZ hX hY hG hS rfl hl.1 (Nat.le_of_ble_eq_true rfl) dL_limits_111 ⟨Nat.le_of_ble_eq_true rfl, Nat.le_of_ble_eq_true rfl⟩ (by omega) (by omega) rfl rfl (fun H locs hG hS => ?_)
  refine lv_iload hx hb dL_limits_114 (lv_at hl 1 rfl) ?_
  refine lv_icmp_ne (tgt := 149) hx hb dL_limits_116 (by decide) (fun c_7 => absurd c1 c_7) (fun c_7 => ?_)
  refine lv_aload_n hx hb dL_limits_119 rfl (lv_at hl 6 rfl) ?_
  refine lv_bipush (v := 15) hx hb dL_limits_120 (by decide) ?_
  refine lv_iconst (v := 0) hx hb dL_limits_122 (by decide) ?_
  refine lv_iconst (v := 0) hx hb dL_limits_123 (by decide) ?_
  refine lv_iconst (v := 0) hx hb dL_limits_124 (by decide) ?_
  refine lv_iconst (v := 0) hx hb dL_limits_125 (by decide) ?_
  refine l_call (X := 183) (K := 184) (CC := 392) (As := [.ref (gad Γ 475), .int 15, .int 0, .int 0, .int 0, .int 0]) (rest := [.int 1]) (st1 := [.int (nI (kM 12 k + 1)), .int 1]) hF (q_undo (l := l) (Γ := Γ) (N := (upd N (12 + 7 * sg + 1) (nI (5 - kx)))) (Hy := (cons N Hy)) (k := (kM 12 k + 1)) (w := w) (P := (fX7_pass_L (upd N (12 + 7 * sg + 1) (nI (5 - kx))) 1)) hL1 0 0) (va_cwS 6 hts qL_call rfl rfl rfl (by decide +kernel) ⟨Nat.le_of_ble_eq_true rfl, Nat.le_of_ble_eq_true rfl⟩) hK hZ hX hY hG hS rfl hl.1 (Nat.le_of_ble_eq_true rfl) dL_limits_126 ⟨Nat.le_of_ble_eq_true rfl, Nat.le_of_ble_eq_true rfl⟩ (by omega) (by omega) rfl rfl (fun H locs hG hS => ?_)
  refine lv_if_lt (tgt := 149) hx hb dL_limits_129 (by decide) (fun c_8 => absurd c_8 (kM_nn 12 1 k (by decide))) (fun c_8 => ?_)
  refine lv_aload_n hx hb dL_limits_132 rfl (lv_at hl 6 rfl) ?_
  refine lv_bipush (v := 15) hx hb dL_limits_133 (by decide) ?_
  refine lv_iconst (v := 0) hx hb dL_limits_135 (by decide) ?_
  refine lv_iconst (v := 0) hx hb dL_limits_136 (by decide) ?_
  refine lv_iconst (v := 0) hx hb dL_limits_137 (by decide) ?_
  refine lv_iconst (v := 0) hx hb dL_limits_138 (by decide) ?_
  refine l_call (X := 184) (K := 185) (CC := 392) (As := [.ref (gad Γ 475), .int 15, .int 0, .int 0, .int 0, .int 0]) (rest := [.int 1]) (st1 := [.int (nI (kM 12 k)), .int 1]) hF (q_undo (l := l) (Γ := Γ) (N := N) (Hy := Hy) (k := (kM 12 k)) (w := w) (P := (upd N (12 + 7 * sg + 1) (nI (5 - kx)))) hN 0 0) (va_cwS 6 hts qL_call rfl rfl rfl (by decide +kernel) ⟨Nat.le_of_ble_eq_true rfl, Nat.le_of_ble_eq_true rfl⟩) hK hZ hX hY hG hS rfl hl.1 (Nat.le_of_ble_eq_true rfl) dL_limits_139 ⟨Nat.le_of_ble_eq_true rfl, Nat.le_of_ble_eq_true rfl⟩ (by omega) (by omega) rfl rfl (fun H locs hG hS => ?_)
  refine lv_if_lt (tgt := 149) hx hb dL_limits_142 (by decide) (fun c_9 => absurd c_9 (kM_nn 12 0 k (by decide))) (fun c_9 => ?_)
  refine lv_iconst (v := 1) hx hb dL_limits_145 (by decide) ?_
  refine lv_goto (tgt := 150) hx hb dL_limits_146 (by decide) ?_
  refine lv_iand hx hb dL_limits_150 ?_
  refine g_top (y := 1) (show (1 &&& 1 : Int32) = 1 from rfl) ?_
  refine lv_istore (lv' := [(8, .int 1), (7, .int (N (82 + 5 * i + 3))), (6, .int (nI (5 - r))), (5, .int (nI (5 - kx))), (4, .int (nI sg)), (2, .long (sumF N)), (0, .ref (gad Γ 475)), (1, .int (nI i))]) hx hb dL_limits_151 hl (by decide) rfl (fun ls hl => ?_)
  refine lv_iload hx hb dL_limits_153 (lv_at hl 3 rfl) ?_
  refine lv_bipush (v := (-9)) hx hb dL_limits_155 (by decide) ?_
  refine lv_icmp_ne (tgt := 164) hx hb dL_limits_157 (by decide) (fun c_10 => ?_) (fun c_10 => absurd c_10 (lx_m9 (by omega)))
  refine lv_iload hx hb dL_limits_164 (lv_at hl 3 rfl) ?_
  refine lv_iconst (v := 1) hx hb dL_limits_166 (by decide) ?_
  refine lv_iadd hx hb dL_limits_167 ?_
  refine g_top (y := (nI (6 - kx))) ((nI_1 _).trans (congrArg nI (by omega))) ?_
  refine lv_istore (lv' := [(9, .int (nI (6 - kx))), (8, .int 1), (7, .int (N (82 + 5 * i + 3))), (6, .int (nI (5 - r))), (5, .int (nI (5 - kx))), (4, .int (nI sg)), (2, .long (sumF N)), (0, .ref (gad Γ 475)), (1, .int (nI i))]) hx hb dL_limits_168 hl (by decide) rfl (fun ls hl => ?_)
  refine lv_iload hx hb dL_limits_170 (lv_at hl 0 rfl) ?_
  refine lv_iload hx hb dL_limits_172 (lv_at hl 3 rfl) ?_
  refine lv_icmp_gt (tgt := 254) hx hb dL_limits_174 (by decide) (fun c_11 => absurd c_11 (nI_nlt (a := 5 - r) (b := 6 - kx) (by omega) (by omega))) (fun c_11 => ?_)
  refine lv_iload hx hb dL_limits_177 (lv_at hl 1 rfl) ?_
  refine lv_aload_n hx hb dL_limits_179 rfl (lv_at hl 7 rfl) ?_
  refine lv_bipush (v := 9) hx hb dL_limits_180 (by decide) ?_
  refine lv_iload hx hb dL_limits_182 (lv_at hl 5 rfl) ?_
  refine lv_iload hx hb dL_limits_184 (lv_at hl 0 rfl) ?_
  refine lv_iconst (v := 0) hx hb dL_limits_186 (by decide) ?_
  refine lv_iconst (v := 0) hx hb dL_limits_187 (by decide) ?_
  refine l_call (X := 185) (K := 186) (CC := 392) (As := [.ref (gad Γ 475), .int 9, .int (nI sg), .int (nI (6 - kx)), .int 0, .int 0]) (rest := [.int 1]) (st1 := [.int (N (12 + 7 * sg + 1)), .int 1]) hF (q_limit (l := l) (Γ := Γ) (N := N) (Hy := Hy) (k := kM 12 k) (w := w) hst hN hu0 (a := (nI sg)) (d := (nI (6 - kx))) rfl rfl hsg (by omega) (by omega) (by rw [e5]; exact nI_le (a := 6 - kx) (by omega) (by omega)) (kN_M (d := 12) (d' := 12) (n := 0) (k := k) (by decide) (by decide) (by decide))) (va_cwS 6 hts qL_call rfl rfl rfl (by decide +kernel) ⟨Nat.le_of_ble_eq_true rfl, Nat.le_of_ble_eq_true rfl⟩) hK hZ hX hY hG hS rfl hl.1 (Nat.le_of_ble_eq_true rfl) dL_limits_188 ⟨Nat.le_of_ble_eq_true rfl, Nat.le_of_ble_eq_true rfl⟩ (by omega) (by omega) rfl rfl (fun H locs hG hS => ?_)
  refine lv_if_le (tgt := 250) hx hb dL_limits_191 (by decide) (fun c_12 => absurd c_12 hl0) (fun c_12 => ?_)
  refine lv_aload_n hx hb dL_limits_194 rfl (lv_at hl 7 rfl) ?_
  refine lv_bipush (v := 14) hx hb dL_limits_195 (by decide) ?_
  refine lv_iconst (v := 1) hx hb dL_limits_197 (by decide) ?_
  refine lv_iconst (v := 0) hx hb dL_limits_198 (by decide) ?_
  refine lv_iconst (v := 0) hx hb dL_limits_199 (by decide) ?_
  refine lv_iconst (v := 0) hx hb dL_limits_200 (by decide) ?_
  refine l_call (X := 186) (K := 187) (CC := 392) (As := [.ref (gad Γ 475), .int 14, .int 1, .int 0, .int 0, .int 0]) (rest := [.int 1]) (st1 := [.int (fX7_pass_L (upd N (12 + 7 * sg + 1) (nI (6 - kx))) 1 10 - (upd N (12 + 7 * sg + 1) (nI (6 - kx))) 10), .int 1]) hF (q_pass (l := l) (Γ := Γ) (N := upd N (12 + 7 * sg + 1) (nI (6 - kx))) (Hy := cons N Hy) (k := kM 12 k + 1) (w := w) hst hL2 hu0 (a := 1) rfl 0 (by decide) (by decide) (kN_M (d := 12) (d' := 12) (n := 1) (k := k) (by decide) (by decide) (by decide))) (va_cwS 6 hts qL_call rfl rfl rfl (by decide +kernel) ⟨Nat.le_of_ble_eq_true rfl, Nat.le_of_ble_eq_true rfl⟩) hK hZ hX hY hG hS rfl hl.1 (Nat.le_of_ble_eq_true rfl) dL_limits_201 ⟨Nat.le_of_ble_eq_true rfl, Nat.le_of_ble_eq_true rfl⟩ (by omega) (by omega) rfl rfl (fun H locs hG hS => ?_)
  refine lv_if_le (tgt := 250) hx hb dL_limits_204 (by decide) (fun c_13 => absurd c_13 ((sub_pos (hQ2.n10) (hL2.n10) (by omega) c2.2).1)) (fun c_13 => ?_)
  refine lv_aload_n hx hb dL_limits_207 rfl (lv_at hl 7 rfl) ?_
  refine lv_iload_n hx hb dL_limits_208 rfl (lv_at hl 8 rfl) ?_
  refine lv_iconst (v := 3) hx hb dL_limits_209 (by decide) ?_
  refine l_call (X := 187) (K := 188) (CC := 392) (As := [.ref (gad Γ 475), .int (nI i), .int 3]) (rest := [.int 1]) (st1 := [.int ((fX7_pass_L (upd N (12 + 7 * sg + 1) (nI (6 - kx))) 1) (82 + 5 * i + 3)), .int 1]) hF (r_house (N := fX7_pass_L (upd N (12 + 7 * sg + 1) (nI (6 - kx))) 1) (Hy := cons (upd N (12 + 7 * sg + 1) (nI (6 - kx))) (cons N Hy)) (k := kM 12 k + 2) (w := w) hst hQ2 huQ (a := (nI i)) (d := 3) (i := i) (j := 3) rfl rfl hiQ2 (by decide)) (va_cwS 3 hts qL_house rfl rfl rfl (by decide +kernel) ⟨Nat.le_of_ble_eq_true rfl, Nat.le_of_ble_eq_true rfl⟩) hK hZ hX hY hG hS rfl hl.1 (Nat.le_of_ble_eq_true rfl) dL_limits_210 ⟨Nat.le_of_ble_eq_true rfl, Nat.le_of_ble_eq_true rfl⟩ (by omega) (by omega) rfl rfl (fun H locs hG hS => ?_)
  refine lv_iload hx hb dL_limits_213 (lv_at hl 2 rfl) ?_
  refine lv_iconst (v := 1) hx hb dL_limits_215 (by decide) ?_
  refine lv_iadd hx hb dL_limits_216 ?_
  refine lv_icmp_ne (tgt := 250) hx hb dL_limits_217 (by decide) (fun c_14 => absurd c2.1 c_14) (fun c_14 => ?_)
  refine lv_aload_n hx hb dL_limits_220 rfl (lv_at hl 7 rfl) ?_
  refine lv_bipush (v := 15) hx hb dL_limits_221 (by decide) ?_
  refine lv_iconst (v := 0) hx hb dL_limits_223 (by decide) ?_
  refine lv_iconst (v := 0) hx hb dL_limits_224 (by decide) ?_
  refine lv_iconst (v := 0) hx hb dL_limits_225 (by decide) ?_
  refine lv_iconst (v := 0) hx hb dL_limits_226 (by decide) ?_
  refine l_call (X := 188) (K := 189) (CC := 392) (As := [.ref (gad Γ 475), .int 15, .int 0, .int 0, .int 0, .int 0]) (rest := [.int 1]) (st1 := [.int (nI (kM 12 k + 1)), .int 1]) hF (q_undo (l := l) (Γ := Γ) (N := (upd N (12 + 7 * sg + 1) (nI (6 - kx)))) (Hy := (cons N Hy)) (k := (kM 12 k + 1)) (w := w) (P := (fX7_pass_L (upd N (12 + 7 * sg + 1) (nI (6 - kx))) 1)) hL2 0 0) (va_cwS 6 hts qL_call rfl rfl rfl (by decide +kernel) ⟨Nat.le_of_ble_eq_true rfl, Nat.le_of_ble_eq_true rfl⟩) hK hZ hX hY hG hS rfl hl.1 (Nat.le_of_ble_eq_true rfl) dL_limits_227 ⟨Nat.le_of_ble_eq_true rfl, Nat.le_of_ble_eq_true rfl⟩ (by omega) (by omega) rfl rfl (fun H locs hG hS => ?_)
  refine lv_if_lt (tgt := 250) hx hb dL_limits_230 (by decide) (fun c_15 => absurd c_15 (kM_nn 12 1 k (by decide))) (fun c_15 => ?_)
  refine lv_aload_n hx hb dL_limits_233 rfl (lv_at hl 7 rfl) ?_
  refine lv_bipush (v := 15) hx hb dL_limits_234 (by decide) ?_
  refine lv_iconst (v := 0) hx hb dL_limits_236 (by decide) ?_
  refine lv_iconst (v := 0) hx hb dL_limits_237 (by decide) ?_
  refine lv_iconst (v := 0) hx hb dL_limits_238 (by decide) ?_
  refine lv_iconst (v := 0) hx hb dL_limits_239 (by decide) ?_
  refine l_call (X := 189) (K := 190) (CC := 392) (As := [.ref (gad Γ 475), .int 15, .int 0, .int 0, .int 0, .int 0]) (rest := [.int 1]) (st1 := [.int (nI (kM 12 k)), .int 1]) hF (q_undo (l := l) (Γ := Γ) (N := N) (Hy := Hy) (k := (kM 12 k)) (w := w) (P := (upd N (12 + 7 * sg + 1) (nI (6 - kx)))) hN 0 0) (va_cwS 6 hts qL_call rfl rfl rfl (by decide +kernel) ⟨Nat.le_of_ble_eq_true rfl, Nat.le_of_ble_eq_true rfl⟩) hK hZ hX hY hG hS rfl hl.1 (Nat.le_of_ble_eq_true rfl) dL_limits_240 ⟨Nat.le_of_ble_eq_true rfl, Nat.le_of_ble_eq_true rfl⟩ (by omega) (by omega) rfl rfl (fun H locs hG hS => ?_)
  refine lv_if_lt (tgt := 250) hx hb dL_limits_243 (by decide) (fun c_16 => absurd c_16 (kM_nn 12 0 k (by decide))) (fun c_16 => ?_)
  refine lv_iconst (v := 1) hx hb dL_limits_246 (by decide) ?_
  refine lv_goto (tgt := 251) hx hb dL_limits_247 (by decide) ?_
  refine lv_iand hx hb dL_limits_251 ?_
  refine g_top (y := 1) (show (1 &&& 1 : Int32) = 1 from rfl) ?_
  refine lv_istore (lv' := [(8, .int 1), (9, .int (nI (6 - kx))), (7, .int (N (82 + 5 * i + 3))), (6, .int (nI (5 - r))), (5, .int (nI (5 - kx))), (4, .int (nI sg)), (2, .long (sumF N)), (0, .ref (gad Γ 475)), (1, .int (nI i))]) hx hb dL_limits_252 hl (by decide) rfl (fun ls hl => ?_)
  refine lv_iload hx hb dL_limits_254 (lv_at hl 0 rfl) ?_
  refine lv_if_eq (tgt := 272) hx hb dL_limits_256 (by decide) (fun c_17 => absurd c_17 (by decide)) (fun c_17 => ?_)
  refine lv_aload_n hx hb dL_limits_259 rfl (lv_at hl 7 rfl) ?_
  refine l_call (X := 190) (K := 366) (CC := 392) (As := [.ref (gad Γ 475)]) (rest := []) (st1 := [.long (sumF N)]) hF (L_sum (N := N) (Hy := Hy) (k := kM 12 k) (w := w) hst hN hu0) (va_cwS 1 hts qL_sum rfl rfl rfl (by decide +kernel) ⟨Nat.le_of_ble_eq_true rfl, Nat.le_of_ble_eq_true rfl⟩) hK hZ hX hY hG hS rfl hl.1 (Nat.le_of_ble_eq_true rfl) dL_limits_260 ⟨Nat.le_of_ble_eq_true rfl, Nat.le_of_ble_eq_true rfl⟩ (by omega) (by omega) rfl rfl (fun H locs hG hS => ?_)
  refine lv_lload_n hx hb dL_limits_263 rfl (lv_at hl 6 rfl) ?_
  refine W.lcmp hx hb dL_limits_264 ?_
  refine gl_ne (tgt := 272) hx hb dL_limits_265 (by decide) (fun c_18 => absurd rfl c_18) (fun c_18 => ?_)
  refine lv_iconst (v := 1) hx hb dL_limits_268 (by decide) ?_
  refine lv_goto (tgt := 273) hx hb dL_limits_269 (by decide) ?_
  exact l_zret hx hb hrt hlocks hS hG (by decide) rfl (by omega) dL_limits_273

set_option maxHeartbeats 4000000 in
set_option maxRecDepth 100000 in
theorem L_limits_B {l : Launch} {Γ : gX} (hst : l.stackTraces = false) {u : Nat} {N : Nat → Int32} {Hy : Nat → Nat → Int32} {k : Nat} {w : WO} (hN : PI u N) (hu : 1998 * (u + 10000) < 2 ^ 31) (hG0 : GD N) (hk : k ≤ 14) {i sg r : Nat} (hi : i < (N 1).toNatClampNeg) (esg : N (82 + 5 * i) = nI sg) (hsg : sg < (N 0).toNatClampNeg) (hr : r ≤ 4) (e5 : 5 - N (12 + 7 * sg + 2) = nI (5 - r)) {kx : Nat} (hw : v_limitFor N (nI i) = nI (5 - kx)) (hk5 : kx < 5) (hkr : r = kx) (hc1 : ¬ N 7 ≤ fX7_hourOn_P (upd N (12 + 7 * sg + 1) (nI (5 - kx))) (82 + 5 * i + 4)) : lM l Γ yL_limits wqL_limits 13 296 392 [.ref (gad Γ 475), .int (nI i)] (SH Γ N Hy k w) (some (.int 1)) (SH Γ N Hy (kM 12 k) w) := by
  refine l_start (cc := cL_limits) (maxL := 10) (ret := (some .boolean)) (by decide) rfl (Nat.le_of_ble_eq_true rfl) ?_
  intro p e s m below meth c ls hx hb hml hrt hts hown hlocks hK hZ hX hY hG hS hl
  have hl : lv_has ls 10 [(0, .ref (gad Γ 475)), (1, .int (nI i))] := hl
  have hown : s.vm.findClass RL = some m.cls := hown
  have hF : CallFix p m c cL_limits 10 s _ wqL_limits RL := ⟨hx, hb, hml, hown, hts⟩
  have b1 := hN.h8.2
  have b0 := hN.s10.2
  have s10 : sg < 10 := by omega
  have hu0 : 1998 * (u + 5000) < 2 ^ 31 := by omega
  have huQ : 1998 * (u + 17 * 1 + 5000) < 2 ^ 31 := by omega
  have hl0 : ¬ N (12 + 7 * sg + 1) ≤ 0 := by
    have q := (hG0.1 sg hsg).1
    obtain ⟨y, hy, ey, -⟩ := (hN.ns s10 1 5 (by omega) rfl rfl).ex
    rw [ey] at q ⊢
    exact nI_ge (a := 0) (b := y) (Nat.pos_of_ne_zero (fun z => q (by rw [z]; decide))) (by omega)
  have hL1 : PI u (upd N (12 + 7 * sg + 1) (nI (5 - kx))) := lim_PI hN s10 (by omega)
  have hQ1 := pass_PI hL1 1 (by omega)
  have hiQ1 : i < (fX7_pass_L (upd N (12 + 7 * sg + 1) (nI (5 - kx))) 1 1).toNatClampNeg := by rw [pass_hd hL1 (j := 1) (by decide) (by decide) 1 (by omega), lim_hi N sg _ (by omega) s10]; exact hi
  have c1 := lim_no hN (by omega) s10 (x := 5 - kx) (by omega) hi hc1
  refine lv_aload_n hx hb dL_limits_0 rfl (lv_at hl 0 rfl) ?_
  refine l_call (X := 0) (K := 176) (CC := 392) (As := [.ref (gad Γ 475)]) (rest := []) (st1 := [.long (sumF N)]) hF (L_sum (N := N) (Hy := Hy) (k := k) (w := w) hst hN hu0) (va_cwS 1 hts qL_sum rfl rfl rfl (by decide +kernel) ⟨Nat.le_of_ble_eq_true rfl, Nat.le_of_ble_eq_true rfl⟩) hK hZ hX hY hG hS rfl hl.1 (Nat.le_of_ble_eq_true rfl) dL_limits_1 ⟨Nat.le_of_ble_eq_true rfl, Nat.le_of_ble_eq_true rfl⟩ (by omega) (by omega) rfl rfl (fun H locs hG hS => ?_)
  refine lv_lstore_n (lv' := [(2, .long (sumF N)), (0, .ref (gad Γ 475)), (1, .int (nI i))]) hx hb dL_limits_4 rfl hl (by decide) rfl (fun ls hl => ?_)
  refine lv_aload_n hx hb dL_limits_5 rfl (lv_at hl 1 rfl) ?_
  refine lv_iload_n hx hb dL_limits_6 rfl (lv_at hl 2 rfl) ?_
  refine lv_iconst (v := 0) hx hb dL_limits_7 (by decide) ?_
  refine l_call (X := 176) (K := 177) (CC := 392) (As := [.ref (gad Γ 475), .int (nI i), .int 0]) (rest := []) (st1 := [.int (N (82 + 5 * i + 0))]) hF (r_house (N := N) (Hy := Hy) (k := k) (w := w) hst hN hu0 (a := (nI i)) (d := 0) (i := i) (j := 0) rfl rfl hi (by decide)) (va_cwS 3 hts qL_house rfl rfl rfl (by decide +kernel) ⟨Nat.le_of_ble_eq_true rfl, Nat.le_of_ble_eq_true rfl⟩) hK hZ hX hY hG hS rfl hl.1 (Nat.le_of_ble_eq_true rfl) dL_limits_8 ⟨Nat.le_of_ble_eq_true rfl, Nat.le_of_ble_eq_true rfl⟩ (by omega) (by omega) rfl rfl (fun H locs hG hS => ?_)
  refine g_top (y := (nI sg)) esg ?_
  refine lv_istore (lv' := [(4, .int (nI sg)), (2, .long (sumF N)), (0, .ref (gad Γ 475)), (1, .int (nI i))]) hx hb dL_limits_11 hl (by decide) rfl (fun ls hl => ?_)
  refine lv_aload_n hx hb dL_limits_13 rfl (lv_at hl 2 rfl) ?_
  refine lv_bipush (v := 19) hx hb dL_limits_14 (by decide) ?_
  refine lv_iload_n hx hb dL_limits_16 rfl (lv_at hl 3 rfl) ?_
  refine lv_iconst (v := 0) hx hb dL_limits_17 (by decide) ?_
  refine lv_iconst (v := 0) hx hb dL_limits_18 (by decide) ?_
  refine lv_iconst (v := 0) hx hb dL_limits_19 (by decide) ?_
  refine l_call (X := 177) (K := 178) (CC := 392) (As := [.ref (gad Γ 475), .int 19, .int (nI i), .int 0, .int 0, .int 0]) (rest := []) (st1 := [.int (v_limitFor N (nI i))]) hF (q_slow (l := l) (Γ := Γ) (N := N) (Hy := Hy) (k := k) (w := w) hst hN hu0 (a := (nI i)) rfl 0 hi) (va_cwS 6 hts qL_call rfl rfl rfl (by decide +kernel) ⟨Nat.le_of_ble_eq_true rfl, Nat.le_of_ble_eq_true rfl⟩) hK hZ hX hY hG hS rfl hl.1 (Nat.le_of_ble_eq_true rfl) dL_limits_20 ⟨Nat.le_of_ble_eq_true rfl, Nat.le_of_ble_eq_true rfl⟩ (by omega) (by omega) rfl rfl (fun H locs hG hS => ?_)
  refine g_top (y := (nI (5 - kx))) hw ?_
  refine lv_istore (lv' := [(5, .int (nI (5 - kx))), (4, .int (nI sg)), (2, .long (sumF N)), (0, .ref (gad Γ 475)), (1, .int (nI i))]) hx hb dL_limits_23 hl (by decide) rfl (fun ls hl => ?_)
  refine lv_iconst (v := 5) hx hb dL_limits_25 (by decide) ?_
  refine lv_aload_n hx hb dL_limits_26 rfl (lv_at hl 3 rfl) ?_
  refine lv_iload hx hb dL_limits_27 (lv_at hl 1 rfl) ?_
  refine lv_iconst (v := 2) hx hb dL_limits_29 (by decide) ?_
  refine l_call (X := 178) (K := 179) (CC := 392) (As := [.ref (gad Γ 475), .int (nI sg), .int 2]) (rest := [.int 5]) (st1 := [.int (N (12 + 7 * sg + 2)), .int 5]) hF (r_segment (N := N) (Hy := Hy) (k := k) (w := w) hst hN hu0 (a := (nI sg)) (d := 2) (i := sg) (j := 2) rfl rfl hsg (by decide)) (va_cwS 3 hts qL_segment rfl rfl rfl (by decide +kernel) ⟨Nat.le_of_ble_eq_true rfl, Nat.le_of_ble_eq_true rfl⟩) hK hZ hX hY hG hS rfl hl.1 (Nat.le_of_ble_eq_true rfl) dL_limits_30 ⟨Nat.le_of_ble_eq_true rfl, Nat.le_of_ble_eq_true rfl⟩ (by omega) (by omega) rfl rfl (fun H locs hG hS => ?_)
  refine lv_isub hx hb dL_limits_33 ?_
  refine g_top (y := (nI (5 - r))) e5 ?_
  refine lv_istore (lv' := [(6, .int (nI (5 - r))), (5, .int (nI (5 - kx))), (4, .int (nI sg)), (2, .long (sumF N)), (0, .ref (gad Γ 475)), (1, .int (nI i))]) hx hb dL_limits_34 hl (by decide) rfl (fun ls hl => ?_)
  refine lv_aload_n hx hb dL_limits_36 rfl (lv_at hl 4 rfl) ?_
  refine lv_iload_n hx hb dL_limits_37 rfl (lv_at hl 5 rfl) ?_
  refine lv_iconst (v := 3) hx hb dL_limits_38 (by decide) ?_
  refine l_call (X := 179) (K := 180) (CC := 392) (As := [.ref (gad Γ 475), .int (nI i), .int 3]) (rest := []) (st1 := [.int (N (82 + 5 * i + 3))]) hF (r_house (N := N) (Hy := Hy) (k := k) (w := w) hst hN hu0 (a := (nI i)) (d := 3) (i := i) (j := 3) rfl rfl hi (by decide)) (va_cwS 3 hts qL_house rfl rfl rfl (by decide +kernel) ⟨Nat.le_of_ble_eq_true rfl, Nat.le_of_ble_eq_true rfl⟩) hK hZ hX hY hG hS rfl hl.1 (Nat.le_of_ble_eq_true rfl) dL_limits_39 ⟨Nat.le_of_ble_eq_true rfl, Nat.le_of_ble_eq_true rfl⟩ (by omega) (by omega) rfl rfl (fun H locs hG hS => ?_)
  refine lv_istore (lv' := [(7, .int (N (82 + 5 * i + 3))), (6, .int (nI (5 - r))), (5, .int (nI (5 - kx))), (4, .int (nI sg)), (2, .long (sumF N)), (0, .ref (gad Γ 475)), (1, .int (nI i))]) hx hb dL_limits_42 hl (by decide) rfl (fun ls hl => ?_)
  refine lv_iload hx hb dL_limits_44 (lv_at hl 2 rfl) ?_
  refine lv_bipush (v := (-9)) hx hb dL_limits_46 (by decide) ?_
  refine lv_icmp_eq (tgt := 64) hx hb dL_limits_48 (by decide) (fun c_1 => absurd c_1 (lx_m9 (by omega))) (fun c_1 => ?_)
  refine lv_iload hx hb dL_limits_51 (lv_at hl 2 rfl) ?_
  refine lv_iconst (v := 1) hx hb dL_limits_53 (by decide) ?_
  refine lv_icmp_lt (tgt := 68) hx hb dL_limits_54 (by decide) (fun c_2 => absurd c_2 (nI_nlt (a := 5 - kx) (b := 1) (by omega) (by omega))) (fun c_2 => ?_)
  refine lv_iload hx hb dL_limits_57 (lv_at hl 2 rfl) ?_
  refine lv_iload hx hb dL_limits_59 (lv_at hl 1 rfl) ?_
  refine lv_icmp_gt (tgt := 68) hx hb dL_limits_61 (by decide) (fun c_3 => absurd c_3 (nI_nlt (a := 5 - r) (b := 5 - kx) (by omega) (by omega))) (fun c_3 => ?_)
  refine lv_iconst (v := 1) hx hb dL_limits_64 (by decide) ?_
  refine lv_goto (tgt := 69) hx hb dL_limits_65 (by decide) ?_
  refine lv_istore (lv' := [(8, .int 1), (7, .int (N (82 + 5 * i + 3))), (6, .int (nI (5 - r))), (5, .int (nI (5 - kx))), (4, .int (nI sg)), (2, .long (sumF N)), (0, .ref (gad Γ 475)), (1, .int (nI i))]) hx hb dL_limits_69 hl (by decide) rfl (fun ls hl => ?_)
  refine lv_iload hx hb dL_limits_71 (lv_at hl 3 rfl) ?_
  refine lv_bipush (v := (-9)) hx hb dL_limits_73 (by decide) ?_
  refine lv_icmp_eq (tgt := 153) hx hb dL_limits_75 (by decide) (fun c_4 => absurd c_4 (lx_m9 (by omega))) (fun c_4 => ?_)
  refine lv_iload hx hb dL_limits_78 (lv_at hl 0 rfl) ?_
  refine lv_aload_n hx hb dL_limits_80 rfl (lv_at hl 6 rfl) ?_
  refine lv_bipush (v := 9) hx hb dL_limits_81 (by decide) ?_
  refine lv_iload hx hb dL_limits_83 (lv_at hl 4 rfl) ?_
  refine lv_iload hx hb dL_limits_85 (lv_at hl 3 rfl) ?_
  refine lv_iconst (v := 0) hx hb dL_limits_87 (by decide) ?_
  refine lv_iconst (v := 0) hx hb dL_limits_88 (by decide) ?_
  refine l_call (X := 180) (K := 181) (CC := 392) (As := [.ref (gad Γ 475), .int 9, .int (nI sg), .int (nI (5 - kx)), .int 0, .int 0]) (rest := [.int 1]) (st1 := [.int (N (12 + 7 * sg + 1)), .int 1]) hF (q_limit (l := l) (Γ := Γ) (N := N) (Hy := Hy) (k := k) (w := w) hst hN hu0 (a := (nI sg)) (d := (nI (5 - kx))) rfl rfl hsg (by omega) (by omega) (by rw [e5]; exact nI_le (a := 5 - kx) (by omega) (by omega)) (kN_0 hk)) (va_cwS 6 hts qL_call rfl rfl rfl (by decide +kernel) ⟨Nat.le_of_ble_eq_true rfl, Nat.le_of_ble_eq_true rfl⟩) hK hZ hX hY hG hS rfl hl.1 (Nat.le_of_ble_eq_true rfl) dL_limits_89 ⟨Nat.le_of_ble_eq_true rfl, Nat.le_of_ble_eq_true rfl⟩ (by omega) (by omega) rfl rfl (fun H locs hG hS => ?_)
  refine lv_if_le (tgt := 149) hx hb dL_limits_92 (by decide) (fun c_5 => absurd c_5 hl0) (fun c_5 => ?_)
  refine lv_aload_n hx hb dL_limits_95 rfl (lv_at hl 6 rfl) ?_
  refine lv_bipush (v := 14) hx hb dL_limits_96 (by decide) ?_
  refine lv_iconst (v := 1) hx hb dL_limits_98 (by decide) ?_
  refine lv_iconst (v := 0) hx hb dL_limits_99 (by decide) ?_
  refine lv_iconst (v := 0) hx hb dL_limits_100 (by decide) ?_
  refine lv_iconst (v := 0) hx hb dL_limits_101 (by decide) ?_
  refine l_call (X := 181) (K := 182) (CC := 392) (As := [.ref (gad Γ 475), .int 14, .int 1, .int 0, .int 0, .int 0]) (rest := [.int 1]) (st1 := [.int (fX7_pass_L (upd N (12 + 7 * sg + 1) (nI (5 - kx))) 1 10 - (upd N (12 + 7 * sg + 1) (nI (5 - kx))) 10), .int 1]) hF (q_pass (l := l) (Γ := Γ) (N := upd N (12 + 7 * sg + 1) (nI (5 - kx))) (Hy := cons N Hy) (k := kM 13 k + 1) (w := w) hst hL1 hu0 (a := 1) rfl 0 (by decide) (by decide) (kN_M (d := 13) (d' := 12) (n := 1) (k := k) (by decide) (by decide) (by decide))) (va_cwS 6 hts qL_call rfl rfl rfl (by decide +kernel) ⟨Nat.le_of_ble_eq_true rfl, Nat.le_of_ble_eq_true rfl⟩) hK hZ hX hY hG hS rfl hl.1 (Nat.le_of_ble_eq_true rfl) dL_limits_102 ⟨Nat.le_of_ble_eq_true rfl, Nat.le_of_ble_eq_true rfl⟩ (by omega) (by omega) rfl rfl (fun H locs hG hS => ?_)
  refine lv_if_lt (tgt := 149) hx hb dL_limits_105 (by decide) (fun c_6 => absurd c_6 (sub_nneg (hQ1.n10) (hL1.n10) (by omega) (pass_10 hL1 1 (by omega)).1)) (fun c_6 => ?_)
  refine lv_aload_n hx hb dL_limits_108 rfl (lv_at hl 6 rfl) ?_
  refine lv_iload_n hx hb dL_limits_109 rfl (lv_at hl 7 rfl) ?_
  refine lv_iconst (v := 3) hx hb dL_limits_110 (by decide) ?_
  refine l_call (X := 182) (K := 183) (CC := 392) (As := [.ref (gad Γ 475), .int (nI i), .int 3]) (rest := [.int 1]) (st1 := [.int ((fX7_pass_L (upd N (12 + 7 * sg + 1) (nI (5 - kx))) 1) (82 + 5 * i + 3)), .int 1]) hF (r_house (N := fX7_pass_L (upd N (12 + 7 * sg + 1) (nI (5 - kx))) 1) (Hy := cons (upd N (12 + 7 * sg + 1) (nI (5 - kx))) (cons N Hy)) (k := kM 12 k + 2) (w := w) hst hQ1 huQ (a := (nI i)) (d := 3) (i := i) (j := 3) rfl rfl hiQ1 (by decide)) (va_cwS 3 hts qL_house rfl rfl rfl (by decide +kernel) ⟨Nat.le_of_ble_eq_true rfl, Nat.le_of_ble_eq_true rfl⟩) hK hZ hX hY hG hS rfl hl.1 (Nat.le_of_ble_eq_true rfl) dL_limits_111 ⟨Nat.le_of_ble_eq_true rfl, Nat.le_of_ble_eq_true rfl⟩ (by omega) (by omega) rfl rfl (fun H locs hG hS => ?_)
  refine lv_iload hx hb dL_limits_114 (lv_at hl 1 rfl) ?_
  refine lv_icmp_ne (tgt := 149) hx hb dL_limits_116 (by decide) (fun c_7 => absurd c1 c_7) (fun c_7 => ?_)
  refine lv_aload_n hx hb dL_limits_119 rfl (lv_at hl 6 rfl) ?_
  refine lv_bipush (v := 15) hx hb dL_limits_120 (by decide) ?_
  refine lv_iconst (v := 0) hx hb dL_limits_122 (by decide) ?_
  refine lv_iconst (v := 0) hx hb dL_limits_123 (by decide) ?_
  refine lv_iconst (v := 0) hx hb dL_limits_124 (by decide) ?_
  refine lv_iconst (v := 0) hx hb dL_limits_125 (by decide) ?_
  refine l_call (X := 183) (K := 184) (CC := 392) (As := [.ref (gad Γ 475), .int 15, .int 0, .int 0, .int 0, .int 0]) (rest := [.int 1]) (st1 := [.int (nI (kM 12 k + 1)), .int 1]) hF (q_undo (l := l) (Γ := Γ) (N := (upd N (12 + 7 * sg + 1) (nI (5 - kx)))) (Hy := (cons N Hy)) (k := (kM 12 k + 1)) (w := w) (P := (fX7_pass_L (upd N (12 + 7 * sg + 1) (nI (5 - kx))) 1)) hL1 0 0) (va_cwS 6 hts qL_call rfl rfl rfl (by decide +kernel) ⟨Nat.le_of_ble_eq_true rfl, Nat.le_of_ble_eq_true rfl⟩) hK hZ hX hY hG hS rfl hl.1 (Nat.le_of_ble_eq_true rfl) dL_limits_126 ⟨Nat.le_of_ble_eq_true rfl, Nat.le_of_ble_eq_true rfl⟩ (by omega) (by omega) rfl rfl (fun H locs hG hS => ?_)
  refine lv_if_lt (tgt := 149) hx hb dL_limits_129 (by decide) (fun c_8 => absurd c_8 (kM_nn 12 1 k (by decide))) (fun c_8 => ?_)
  refine lv_aload_n hx hb dL_limits_132 rfl (lv_at hl 6 rfl) ?_
  refine lv_bipush (v := 15) hx hb dL_limits_133 (by decide) ?_
  refine lv_iconst (v := 0) hx hb dL_limits_135 (by decide) ?_
  refine lv_iconst (v := 0) hx hb dL_limits_136 (by decide) ?_
  refine lv_iconst (v := 0) hx hb dL_limits_137 (by decide) ?_
  refine lv_iconst (v := 0) hx hb dL_limits_138 (by decide) ?_
  refine l_call (X := 184) (K := 185) (CC := 392) (As := [.ref (gad Γ 475), .int 15, .int 0, .int 0, .int 0, .int 0]) (rest := [.int 1]) (st1 := [.int (nI (kM 12 k)), .int 1]) hF (q_undo (l := l) (Γ := Γ) (N := N) (Hy := Hy) (k := (kM 12 k)) (w := w) (P := (upd N (12 + 7 * sg + 1) (nI (5 - kx)))) hN 0 0) (va_cwS 6 hts qL_call rfl rfl rfl (by decide +kernel) ⟨Nat.le_of_ble_eq_true rfl, Nat.le_of_ble_eq_true rfl⟩) hK hZ hX hY hG hS rfl hl.1 (Nat.le_of_ble_eq_true rfl) dL_limits_139 ⟨Nat.le_of_ble_eq_true rfl, Nat.le_of_ble_eq_true rfl⟩ (by omega) (by omega) rfl rfl (fun H locs hG hS => ?_)
  refine lv_if_lt (tgt := 149) hx hb dL_limits_142 (by decide) (fun c_9 => absurd c_9 (kM_nn 12 0 k (by decide))) (fun c_9 => ?_)
  refine lv_iconst (v := 1) hx hb dL_limits_145 (by decide) ?_
  refine lv_goto (tgt := 150) hx hb dL_limits_146 (by decide) ?_
  refine lv_iand hx hb dL_limits_150 ?_
  refine g_top (y := 1) (show (1 &&& 1 : Int32) = 1 from rfl) ?_
  refine lv_istore (lv' := [(8, .int 1), (7, .int (N (82 + 5 * i + 3))), (6, .int (nI (5 - r))), (5, .int (nI (5 - kx))), (4, .int (nI sg)), (2, .long (sumF N)), (0, .ref (gad Γ 475)), (1, .int (nI i))]) hx hb dL_limits_151 hl (by decide) rfl (fun ls hl => ?_)
  refine lv_iload hx hb dL_limits_153 (lv_at hl 3 rfl) ?_
  refine lv_bipush (v := (-9)) hx hb dL_limits_155 (by decide) ?_
  refine lv_icmp_ne (tgt := 164) hx hb dL_limits_157 (by decide) (fun c_10 => ?_) (fun c_10 => absurd c_10 (lx_m9 (by omega)))
  refine lv_iload hx hb dL_limits_164 (lv_at hl 3 rfl) ?_
  refine lv_iconst (v := 1) hx hb dL_limits_166 (by decide) ?_
  refine lv_iadd hx hb dL_limits_167 ?_
  refine g_top (y := (nI (6 - kx))) ((nI_1 _).trans (congrArg nI (by omega))) ?_
  refine lv_istore (lv' := [(9, .int (nI (6 - kx))), (8, .int 1), (7, .int (N (82 + 5 * i + 3))), (6, .int (nI (5 - r))), (5, .int (nI (5 - kx))), (4, .int (nI sg)), (2, .long (sumF N)), (0, .ref (gad Γ 475)), (1, .int (nI i))]) hx hb dL_limits_168 hl (by decide) rfl (fun ls hl => ?_)
  refine lv_iload hx hb dL_limits_170 (lv_at hl 0 rfl) ?_
  refine lv_iload hx hb dL_limits_172 (lv_at hl 3 rfl) ?_
  refine lv_icmp_gt (tgt := 254) hx hb dL_limits_174 (by decide) (fun c_11 => ?_) (fun c_11 => absurd (nI_lt (a := 5 - r) (b := 6 - kx) (by omega) (by omega)) c_11)
  refine lv_iload hx hb dL_limits_254 (lv_at hl 1 rfl) ?_
  refine lv_if_eq (tgt := 272) hx hb dL_limits_256 (by decide) (fun c_12 => absurd c_12 (by decide)) (fun c_12 => ?_)
  refine lv_aload_n hx hb dL_limits_259 rfl (lv_at hl 7 rfl) ?_
  refine l_call (X := 185) (K := 361) (CC := 392) (As := [.ref (gad Γ 475)]) (rest := []) (st1 := [.long (sumF N)]) hF (L_sum (N := N) (Hy := Hy) (k := kM 12 k) (w := w) hst hN hu0) (va_cwS 1 hts qL_sum rfl rfl rfl (by decide +kernel) ⟨Nat.le_of_ble_eq_true rfl, Nat.le_of_ble_eq_true rfl⟩) hK hZ hX hY hG hS rfl hl.1 (Nat.le_of_ble_eq_true rfl) dL_limits_260 ⟨Nat.le_of_ble_eq_true rfl, Nat.le_of_ble_eq_true rfl⟩ (by omega) (by omega) rfl rfl (fun H locs hG hS => ?_)
  refine lv_lload_n hx hb dL_limits_263 rfl (lv_at hl 6 rfl) ?_
  refine W.lcmp hx hb dL_limits_264 ?_
  refine gl_ne (tgt := 272) hx hb dL_limits_265 (by decide) (fun c_13 => absurd rfl c_13) (fun c_13 => ?_)
  refine lv_iconst (v := 1) hx hb dL_limits_268 (by decide) ?_
  refine lv_goto (tgt := 273) hx hb dL_limits_269 (by decide) ?_
  exact l_zret hx hb hrt hlocks hS hG (by decide) rfl (by omega) dL_limits_273

set_option maxHeartbeats 4000000 in
set_option maxRecDepth 100000 in
theorem L_limits_C {l : Launch} {Γ : gX} (hst : l.stackTraces = false) {u : Nat} {N : Nat → Int32} {Hy : Nat → Nat → Int32} {k : Nat} {w : WO} (hN : PI u N) (hu : 1998 * (u + 10000) < 2 ^ 31) (hG0 : GD N) (hk : k ≤ 14) {i sg r : Nat} (hi : i < (N 1).toNatClampNeg) (esg : N (82 + 5 * i) = nI sg) (hsg : sg < (N 0).toNatClampNeg) (hr : r ≤ 4) (e5 : 5 - N (12 + 7 * sg + 2) = nI (5 - r)) (hw : v_limitFor N (nI i) = -9) (hc2 : N 7 ≤ fX7_hourOn_P (upd N (12 + 7 * sg + 1) (nI 1)) (82 + 5 * i + 4)) : lM l Γ yL_limits wqL_limits 13 296 392 [.ref (gad Γ 475), .int (nI i)] (SH Γ N Hy k w) (some (.int 1)) (SH Γ N Hy (kM 12 k) w) := by
  refine l_start (cc := cL_limits) (maxL := 10) (ret := (some .boolean)) (by decide) rfl (Nat.le_of_ble_eq_true rfl) ?_
  intro p e s m below meth c ls hx hb hml hrt hts hown hlocks hK hZ hX hY hG hS hl
  have hl : lv_has ls 10 [(0, .ref (gad Γ 475)), (1, .int (nI i))] := hl
  have hown : s.vm.findClass RL = some m.cls := hown
  have hF : CallFix p m c cL_limits 10 s _ wqL_limits RL := ⟨hx, hb, hml, hown, hts⟩
  have b1 := hN.h8.2
  have b0 := hN.s10.2
  have s10 : sg < 10 := by omega
  have hu0 : 1998 * (u + 5000) < 2 ^ 31 := by omega
  have huQ : 1998 * (u + 17 * 1 + 5000) < 2 ^ 31 := by omega
  have hl0 : ¬ N (12 + 7 * sg + 1) ≤ 0 := by
    have q := (hG0.1 sg hsg).1
    obtain ⟨y, hy, ey, -⟩ := (hN.ns s10 1 5 (by omega) rfl rfl).ex
    rw [ey] at q ⊢
    exact nI_ge (a := 0) (b := y) (Nat.pos_of_ne_zero (fun z => q (by rw [z]; decide))) (by omega)
  have hL2 : PI u (upd N (12 + 7 * sg + 1) (nI 1)) := lim_PI hN s10 (by omega)
  have hQ2 := pass_PI hL2 1 (by omega)
  have hiQ2 : i < (fX7_pass_L (upd N (12 + 7 * sg + 1) (nI 1)) 1 1).toNatClampNeg := by rw [pass_hd hL2 (j := 1) (by decide) (by decide) 1 (by omega), lim_hi N sg _ (by omega) s10]; exact hi
  have c2 := lim_yes hN (by omega) s10 (x := 1) (by omega) hi hc2
  refine lv_aload_n hx hb dL_limits_0 rfl (lv_at hl 0 rfl) ?_
  refine l_call (X := 0) (K := 176) (CC := 392) (As := [.ref (gad Γ 475)]) (rest := []) (st1 := [.long (sumF N)]) hF (L_sum (N := N) (Hy := Hy) (k := k) (w := w) hst hN hu0) (va_cwS 1 hts qL_sum rfl rfl rfl (by decide +kernel) ⟨Nat.le_of_ble_eq_true rfl, Nat.le_of_ble_eq_true rfl⟩) hK hZ hX hY hG hS rfl hl.1 (Nat.le_of_ble_eq_true rfl) dL_limits_1 ⟨Nat.le_of_ble_eq_true rfl, Nat.le_of_ble_eq_true rfl⟩ (by omega) (by omega) rfl rfl (fun H locs hG hS => ?_)
  refine lv_lstore_n (lv' := [(2, .long (sumF N)), (0, .ref (gad Γ 475)), (1, .int (nI i))]) hx hb dL_limits_4 rfl hl (by decide) rfl (fun ls hl => ?_)
  refine lv_aload_n hx hb dL_limits_5 rfl (lv_at hl 1 rfl) ?_
  refine lv_iload_n hx hb dL_limits_6 rfl (lv_at hl 2 rfl) ?_
  refine lv_iconst (v := 0) hx hb dL_limits_7 (by decide) ?_
  refine l_call (X := 176) (K := 177) (CC := 392) (As := [.ref (gad Γ 475), .int (nI i), .int 0]) (rest := []) (st1 := [.int (N (82 + 5 * i + 0))]) hF (r_house (N := N) (Hy := Hy) (k := k) (w := w) hst hN hu0 (a := (nI i)) (d := 0) (i := i) (j := 0) rfl rfl hi (by decide)) (va_cwS 3 hts qL_house rfl rfl rfl (by decide +kernel) ⟨Nat.le_of_ble_eq_true rfl, Nat.le_of_ble_eq_true rfl⟩) hK hZ hX hY hG hS rfl hl.1 (Nat.le_of_ble_eq_true rfl) dL_limits_8 ⟨Nat.le_of_ble_eq_true rfl, Nat.le_of_ble_eq_true rfl⟩ (by omega) (by omega) rfl rfl (fun H locs hG hS => ?_)
  refine g_top (y := (nI sg)) esg ?_
  refine lv_istore (lv' := [(4, .int (nI sg)), (2, .long (sumF N)), (0, .ref (gad Γ 475)), (1, .int (nI i))]) hx hb dL_limits_11 hl (by decide) rfl (fun ls hl => ?_)
  refine lv_aload_n hx hb dL_limits_13 rfl (lv_at hl 2 rfl) ?_
  refine lv_bipush (v := 19) hx hb dL_limits_14 (by decide) ?_
  refine lv_iload_n hx hb dL_limits_16 rfl (lv_at hl 3 rfl) ?_
  refine lv_iconst (v := 0) hx hb dL_limits_17 (by decide) ?_
  refine lv_iconst (v := 0) hx hb dL_limits_18 (by decide) ?_
  refine lv_iconst (v := 0) hx hb dL_limits_19 (by decide) ?_
  refine l_call (X := 177) (K := 178) (CC := 392) (As := [.ref (gad Γ 475), .int 19, .int (nI i), .int 0, .int 0, .int 0]) (rest := []) (st1 := [.int (v_limitFor N (nI i))]) hF (q_slow (l := l) (Γ := Γ) (N := N) (Hy := Hy) (k := k) (w := w) hst hN hu0 (a := (nI i)) rfl 0 hi) (va_cwS 6 hts qL_call rfl rfl rfl (by decide +kernel) ⟨Nat.le_of_ble_eq_true rfl, Nat.le_of_ble_eq_true rfl⟩) hK hZ hX hY hG hS rfl hl.1 (Nat.le_of_ble_eq_true rfl) dL_limits_20 ⟨Nat.le_of_ble_eq_true rfl, Nat.le_of_ble_eq_true rfl⟩ (by omega) (by omega) rfl rfl (fun H locs hG hS => ?_)
  refine g_top (y := (-9)) hw ?_
  refine lv_istore (lv' := [(5, .int (-9)), (4, .int (nI sg)), (2, .long (sumF N)), (0, .ref (gad Γ 475)), (1, .int (nI i))]) hx hb dL_limits_23 hl (by decide) rfl (fun ls hl => ?_)
  refine lv_iconst (v := 5) hx hb dL_limits_25 (by decide) ?_
  refine lv_aload_n hx hb dL_limits_26 rfl (lv_at hl 3 rfl) ?_
  refine lv_iload hx hb dL_limits_27 (lv_at hl 1 rfl) ?_
  refine lv_iconst (v := 2) hx hb dL_limits_29 (by decide) ?_
  refine l_call (X := 178) (K := 179) (CC := 392) (As := [.ref (gad Γ 475), .int (nI sg), .int 2]) (rest := [.int 5]) (st1 := [.int (N (12 + 7 * sg + 2)), .int 5]) hF (r_segment (N := N) (Hy := Hy) (k := k) (w := w) hst hN hu0 (a := (nI sg)) (d := 2) (i := sg) (j := 2) rfl rfl hsg (by decide)) (va_cwS 3 hts qL_segment rfl rfl rfl (by decide +kernel) ⟨Nat.le_of_ble_eq_true rfl, Nat.le_of_ble_eq_true rfl⟩) hK hZ hX hY hG hS rfl hl.1 (Nat.le_of_ble_eq_true rfl) dL_limits_30 ⟨Nat.le_of_ble_eq_true rfl, Nat.le_of_ble_eq_true rfl⟩ (by omega) (by omega) rfl rfl (fun H locs hG hS => ?_)
  refine lv_isub hx hb dL_limits_33 ?_
  refine g_top (y := (nI (5 - r))) e5 ?_
  refine lv_istore (lv' := [(6, .int (nI (5 - r))), (5, .int (-9)), (4, .int (nI sg)), (2, .long (sumF N)), (0, .ref (gad Γ 475)), (1, .int (nI i))]) hx hb dL_limits_34 hl (by decide) rfl (fun ls hl => ?_)
  refine lv_aload_n hx hb dL_limits_36 rfl (lv_at hl 4 rfl) ?_
  refine lv_iload_n hx hb dL_limits_37 rfl (lv_at hl 5 rfl) ?_
  refine lv_iconst (v := 3) hx hb dL_limits_38 (by decide) ?_
  refine l_call (X := 179) (K := 180) (CC := 392) (As := [.ref (gad Γ 475), .int (nI i), .int 3]) (rest := []) (st1 := [.int (N (82 + 5 * i + 3))]) hF (r_house (N := N) (Hy := Hy) (k := k) (w := w) hst hN hu0 (a := (nI i)) (d := 3) (i := i) (j := 3) rfl rfl hi (by decide)) (va_cwS 3 hts qL_house rfl rfl rfl (by decide +kernel) ⟨Nat.le_of_ble_eq_true rfl, Nat.le_of_ble_eq_true rfl⟩) hK hZ hX hY hG hS rfl hl.1 (Nat.le_of_ble_eq_true rfl) dL_limits_39 ⟨Nat.le_of_ble_eq_true rfl, Nat.le_of_ble_eq_true rfl⟩ (by omega) (by omega) rfl rfl (fun H locs hG hS => ?_)
  refine lv_istore (lv' := [(7, .int (N (82 + 5 * i + 3))), (6, .int (nI (5 - r))), (5, .int (-9)), (4, .int (nI sg)), (2, .long (sumF N)), (0, .ref (gad Γ 475)), (1, .int (nI i))]) hx hb dL_limits_42 hl (by decide) rfl (fun ls hl => ?_)
  refine lv_iload hx hb dL_limits_44 (lv_at hl 2 rfl) ?_
  refine lv_bipush (v := (-9)) hx hb dL_limits_46 (by decide) ?_
  refine lv_icmp_eq (tgt := 64) hx hb dL_limits_48 (by decide) (fun c_1 => ?_) (fun c_1 => absurd (by decide) c_1)
  refine lv_iconst (v := 1) hx hb dL_limits_64 (by decide) ?_
  refine lv_goto (tgt := 69) hx hb dL_limits_65 (by decide) ?_
  refine lv_istore (lv' := [(8, .int 1), (7, .int (N (82 + 5 * i + 3))), (6, .int (nI (5 - r))), (5, .int (-9)), (4, .int (nI sg)), (2, .long (sumF N)), (0, .ref (gad Γ 475)), (1, .int (nI i))]) hx hb dL_limits_69 hl (by decide) rfl (fun ls hl => ?_)
  refine lv_iload hx hb dL_limits_71 (lv_at hl 3 rfl) ?_
  refine lv_bipush (v := (-9)) hx hb dL_limits_73 (by decide) ?_
  refine lv_icmp_eq (tgt := 153) hx hb dL_limits_75 (by decide) (fun c_2 => ?_) (fun c_2 => absurd (by decide) c_2)
  refine lv_iload hx hb dL_limits_153 (lv_at hl 3 rfl) ?_
  refine lv_bipush (v := (-9)) hx hb dL_limits_155 (by decide) ?_
  refine lv_icmp_ne (tgt := 164) hx hb dL_limits_157 (by decide) (fun c_3 => absurd (by decide) c_3) (fun c_3 => ?_)
  refine lv_iconst (v := 1) hx hb dL_limits_160 (by decide) ?_
  refine lv_goto (tgt := 168) hx hb dL_limits_161 (by decide) ?_
  refine lv_istore (lv' := [(9, .int 1), (8, .int 1), (7, .int (N (82 + 5 * i + 3))), (6, .int (nI (5 - r))), (5, .int (-9)), (4, .int (nI sg)), (2, .long (sumF N)), (0, .ref (gad Γ 475)), (1, .int (nI i))]) hx hb dL_limits_168 hl (by decide) rfl (fun ls hl => ?_)
  refine lv_iload hx hb dL_limits_170 (lv_at hl 0 rfl) ?_
  refine lv_iload hx hb dL_limits_172 (lv_at hl 3 rfl) ?_
  refine lv_icmp_gt (tgt := 254) hx hb dL_limits_174 (by decide) (fun c_4 => absurd c_4 (nI_nlt (a := 5 - r) (b := 1) (by omega) (by omega))) (fun c_4 => ?_)
  refine lv_iload hx hb dL_limits_177 (lv_at hl 1 rfl) ?_
  refine lv_aload_n hx hb dL_limits_179 rfl (lv_at hl 7 rfl) ?_
  refine lv_bipush (v := 9) hx hb dL_limits_180 (by decide) ?_
  refine lv_iload hx hb dL_limits_182 (lv_at hl 5 rfl) ?_
  refine lv_iload hx hb dL_limits_184 (lv_at hl 0 rfl) ?_
  refine lv_iconst (v := 0) hx hb dL_limits_186 (by decide) ?_
  refine lv_iconst (v := 0) hx hb dL_limits_187 (by decide) ?_
  refine l_call (X := 180) (K := 181) (CC := 392) (As := [.ref (gad Γ 475), .int 9, .int (nI sg), .int 1, .int 0, .int 0]) (rest := [.int 1]) (st1 := [.int (N (12 + 7 * sg + 1)), .int 1]) hF (q_limit (l := l) (Γ := Γ) (N := N) (Hy := Hy) (k := k) (w := w) hst hN hu0 (a := (nI sg)) (d := 1) rfl rfl hsg (by decide) (by decide) (by rw [e5]; exact nI_le (a := 1) (by omega) (by omega)) (kN_0 hk)) (va_cwS 6 hts qL_call rfl rfl rfl (by decide +kernel) ⟨Nat.le_of_ble_eq_true rfl, Nat.le_of_ble_eq_true rfl⟩) hK hZ hX hY hG hS rfl hl.1 (Nat.le_of_ble_eq_true rfl) dL_limits_188 ⟨Nat.le_of_ble_eq_true rfl, Nat.le_of_ble_eq_true rfl⟩ (by omega) (by omega) rfl rfl (fun H locs hG hS => ?_)
  refine lv_if_le (tgt := 250) hx hb dL_limits_191 (by decide) (fun c_5 => absurd c_5 hl0) (fun c_5 => ?_)
  refine lv_aload_n hx hb dL_limits_194 rfl (lv_at hl 7 rfl) ?_
  refine lv_bipush (v := 14) hx hb dL_limits_195 (by decide) ?_
  refine lv_iconst (v := 1) hx hb dL_limits_197 (by decide) ?_
  refine lv_iconst (v := 0) hx hb dL_limits_198 (by decide) ?_
  refine lv_iconst (v := 0) hx hb dL_limits_199 (by decide) ?_
  refine lv_iconst (v := 0) hx hb dL_limits_200 (by decide) ?_
  refine l_call (X := 181) (K := 182) (CC := 392) (As := [.ref (gad Γ 475), .int 14, .int 1, .int 0, .int 0, .int 0]) (rest := [.int 1]) (st1 := [.int (fX7_pass_L (upd N (12 + 7 * sg + 1) (nI 1)) 1 10 - (upd N (12 + 7 * sg + 1) (nI 1)) 10), .int 1]) hF (q_pass (l := l) (Γ := Γ) (N := upd N (12 + 7 * sg + 1) (nI 1)) (Hy := cons N Hy) (k := kM 13 k + 1) (w := w) hst hL2 hu0 (a := 1) rfl 0 (by decide) (by decide) (kN_M (d := 13) (d' := 12) (n := 1) (k := k) (by decide) (by decide) (by decide))) (va_cwS 6 hts qL_call rfl rfl rfl (by decide +kernel) ⟨Nat.le_of_ble_eq_true rfl, Nat.le_of_ble_eq_true rfl⟩) hK hZ hX hY hG hS rfl hl.1 (Nat.le_of_ble_eq_true rfl) dL_limits_201 ⟨Nat.le_of_ble_eq_true rfl, Nat.le_of_ble_eq_true rfl⟩ (by omega) (by omega) rfl rfl (fun H locs hG hS => ?_)
  refine lv_if_le (tgt := 250) hx hb dL_limits_204 (by decide) (fun c_6 => absurd c_6 ((sub_pos (hQ2.n10) (hL2.n10) (by omega) c2.2).1)) (fun c_6 => ?_)
  refine lv_aload_n hx hb dL_limits_207 rfl (lv_at hl 7 rfl) ?_
  refine lv_iload_n hx hb dL_limits_208 rfl (lv_at hl 8 rfl) ?_
  refine lv_iconst (v := 3) hx hb dL_limits_209 (by decide) ?_
  refine l_call (X := 182) (K := 183) (CC := 392) (As := [.ref (gad Γ 475), .int (nI i), .int 3]) (rest := [.int 1]) (st1 := [.int ((fX7_pass_L (upd N (12 + 7 * sg + 1) (nI 1)) 1) (82 + 5 * i + 3)), .int 1]) hF (r_house (N := fX7_pass_L (upd N (12 + 7 * sg + 1) (nI 1)) 1) (Hy := cons (upd N (12 + 7 * sg + 1) (nI 1)) (cons N Hy)) (k := kM 12 k + 2) (w := w) hst hQ2 huQ (a := (nI i)) (d := 3) (i := i) (j := 3) rfl rfl hiQ2 (by decide)) (va_cwS 3 hts qL_house rfl rfl rfl (by decide +kernel) ⟨Nat.le_of_ble_eq_true rfl, Nat.le_of_ble_eq_true rfl⟩) hK hZ hX hY hG hS rfl hl.1 (Nat.le_of_ble_eq_true rfl) dL_limits_210 ⟨Nat.le_of_ble_eq_true rfl, Nat.le_of_ble_eq_true rfl⟩ (by omega) (by omega) rfl rfl (fun H locs hG hS => ?_)
  refine lv_iload hx hb dL_limits_213 (lv_at hl 2 rfl) ?_
  refine lv_iconst (v := 1) hx hb dL_limits_215 (by decide) ?_
  refine lv_iadd hx hb dL_limits_216 ?_
  refine lv_icmp_ne (tgt := 250) hx hb dL_limits_217 (by decide) (fun c_7 => absurd c2.1 c_7) (fun c_7 => ?_)
  refine lv_aload_n hx hb dL_limits_220 rfl (lv_at hl 7 rfl) ?_
  refine lv_bipush (v := 15) hx hb dL_limits_221 (by decide) ?_
  refine lv_iconst (v := 0) hx hb dL_limits_223 (by decide) ?_
  refine lv_iconst (v := 0) hx hb dL_limits_224 (by decide) ?_
  refine lv_iconst (v := 0) hx hb dL_limits_225 (by decide) ?_
  refine lv_iconst (v := 0) hx hb dL_limits_226 (by decide) ?_
  refine l_call (X := 183) (K := 184) (CC := 392) (As := [.ref (gad Γ 475), .int 15, .int 0, .int 0, .int 0, .int 0]) (rest := [.int 1]) (st1 := [.int (nI (kM 12 k + 1)), .int 1]) hF (q_undo (l := l) (Γ := Γ) (N := (upd N (12 + 7 * sg + 1) (nI 1))) (Hy := (cons N Hy)) (k := (kM 12 k + 1)) (w := w) (P := (fX7_pass_L (upd N (12 + 7 * sg + 1) (nI 1)) 1)) hL2 0 0) (va_cwS 6 hts qL_call rfl rfl rfl (by decide +kernel) ⟨Nat.le_of_ble_eq_true rfl, Nat.le_of_ble_eq_true rfl⟩) hK hZ hX hY hG hS rfl hl.1 (Nat.le_of_ble_eq_true rfl) dL_limits_227 ⟨Nat.le_of_ble_eq_true rfl, Nat.le_of_ble_eq_true rfl⟩ (by omega) (by omega) rfl rfl (fun H locs hG hS => ?_)
  refine lv_if_lt (tgt := 250) hx hb dL_limits_230 (by decide) (fun c_8 => absurd c_8 (kM_nn 12 1 k (by decide))) (fun c_8 => ?_)
  refine lv_aload_n hx hb dL_limits_233 rfl (lv_at hl 7 rfl) ?_
  refine lv_bipush (v := 15) hx hb dL_limits_234 (by decide) ?_
  refine lv_iconst (v := 0) hx hb dL_limits_236 (by decide) ?_
  refine lv_iconst (v := 0) hx hb dL_limits_237 (by decide) ?_
  refine lv_iconst (v := 0) hx hb dL_limits_238 (by decide) ?_
  refine lv_iconst (v := 0) hx hb dL_limits_239 (by decide) ?_
  refine l_call (X := 184) (K := 185) (CC := 392) (As := [.ref (gad Γ 475), .int 15, .int 0, .int 0, .int 0, .int 0]) (rest := [.int 1]) (st1 := [.int (nI (kM 12 k)), .int 1]) hF (q_undo (l := l) (Γ := Γ) (N := N) (Hy := Hy) (k := (kM 12 k)) (w := w) (P := (upd N (12 + 7 * sg + 1) (nI 1))) hN 0 0) (va_cwS 6 hts qL_call rfl rfl rfl (by decide +kernel) ⟨Nat.le_of_ble_eq_true rfl, Nat.le_of_ble_eq_true rfl⟩) hK hZ hX hY hG hS rfl hl.1 (Nat.le_of_ble_eq_true rfl) dL_limits_240 ⟨Nat.le_of_ble_eq_true rfl, Nat.le_of_ble_eq_true rfl⟩ (by omega) (by omega) rfl rfl (fun H locs hG hS => ?_)
  refine lv_if_lt (tgt := 250) hx hb dL_limits_243 (by decide) (fun c_9 => absurd c_9 (kM_nn 12 0 k (by decide))) (fun c_9 => ?_)
  refine lv_iconst (v := 1) hx hb dL_limits_246 (by decide) ?_
  refine lv_goto (tgt := 251) hx hb dL_limits_247 (by decide) ?_
  refine lv_iand hx hb dL_limits_251 ?_
  refine g_top (y := 1) (show (1 &&& 1 : Int32) = 1 from rfl) ?_
  refine lv_istore (lv' := [(8, .int 1), (9, .int 1), (7, .int (N (82 + 5 * i + 3))), (6, .int (nI (5 - r))), (5, .int (-9)), (4, .int (nI sg)), (2, .long (sumF N)), (0, .ref (gad Γ 475)), (1, .int (nI i))]) hx hb dL_limits_252 hl (by decide) rfl (fun ls hl => ?_)
  refine lv_iload hx hb dL_limits_254 (lv_at hl 0 rfl) ?_
  refine lv_if_eq (tgt := 272) hx hb dL_limits_256 (by decide) (fun c_10 => absurd c_10 (by decide)) (fun c_10 => ?_)
  refine lv_aload_n hx hb dL_limits_259 rfl (lv_at hl 7 rfl) ?_
  refine l_call (X := 185) (K := 361) (CC := 392) (As := [.ref (gad Γ 475)]) (rest := []) (st1 := [.long (sumF N)]) hF (L_sum (N := N) (Hy := Hy) (k := kM 12 k) (w := w) hst hN hu0) (va_cwS 1 hts qL_sum rfl rfl rfl (by decide +kernel) ⟨Nat.le_of_ble_eq_true rfl, Nat.le_of_ble_eq_true rfl⟩) hK hZ hX hY hG hS rfl hl.1 (Nat.le_of_ble_eq_true rfl) dL_limits_260 ⟨Nat.le_of_ble_eq_true rfl, Nat.le_of_ble_eq_true rfl⟩ (by omega) (by omega) rfl rfl (fun H locs hG hS => ?_)
  refine lv_lload_n hx hb dL_limits_263 rfl (lv_at hl 6 rfl) ?_
  refine W.lcmp hx hb dL_limits_264 ?_
  refine gl_ne (tgt := 272) hx hb dL_limits_265 (by decide) (fun c_11 => absurd rfl c_11) (fun c_11 => ?_)
  refine lv_iconst (v := 1) hx hb dL_limits_268 (by decide) ?_
  refine lv_goto (tgt := 273) hx hb dL_limits_269 (by decide) ?_
  exact l_zret hx hb hrt hlocks hS hG (by decide) rfl (by omega) dL_limits_273

theorem L_limits {l : Launch} {Γ : gX} (hst : l.stackTraces = false) {u : Nat} {N : Nat → Int32} {Hy : Nat → Nat → Int32} {k : Nat} {w : WO} (hN : PI u N) (hu : 1998 * (u + 10000) < 2 ^ 31) (hG0 : GD N) (hk : k ≤ 14) {i : Nat} (hi : i < (N 1).toNatClampNeg) : lM l Γ yL_limits wqL_limits 13 296 392 [.ref (gad Γ 475), .int (nI i)] (SH Γ N Hy k w) (some (.int 1)) (SH Γ N Hy (kM 12 k) w) := by
  have b1 := hN.h8.2
  have i8 : i < 8 := by omega
  have hsg := hN.2.2.1 i i8
  have esg := (hN.nh i8 0 9 (by omega) rfl (j := 82 + 5 * i) rfl).1
  obtain ⟨r, hr, er, e5⟩ := lf_l0 hN i8
  have hv : v_limitFor N (nI i) = if lst (CL N i) 5 < 5 then nI (5 - lst (CL N i) 5) else -9 := by
    unfold v_limitFor
    rw [nI_clamp (by omega)]
  obtain ⟨s1, s2, s3⟩ := lst_spec (CL N i) 5
  have no : ∀ j, j < lst (CL N i) 5 → r ≤ j → j < 5 → N 7 ≤ fX7_hourOn_P (upd N (12 + 7 * (N (82 + 5 * i)).toNatClampNeg + 1) (nI (5 - j))) (82 + 5 * i + 4) := by
    intro j hj hrj h5
    refine Decidable.of_not_not (fun q => s2 j hj ⟨?_, q⟩)
    rw [er]
    exact nI_le hrj (by omega)
  generalize lst (CL N i) 5 = kx at hv s1 s2 s3 no
  by_cases q : kx < 5
  · rw [if_pos q] at hv
    obtain ⟨c1, c2⟩ := s3 q
    rw [er, nI_leI (by omega) (by omega)] at c1
    by_cases z : r = kx
    · exact L_limits_B hst hN hu hG0 hk hi esg hsg hr e5 hv q z c2
    · have n := no (kx - 1) (by omega) (by omega) (by omega)
      rw [show 5 - (kx - 1) = 6 - kx by omega] at n
      exact L_limits_A hst hN hu hG0 hk hi esg hsg hr e5 hv q (by omega) c2 n
  · rw [if_neg q] at hv
    exact L_limits_C hst hN hu hG0 hk hi esg hsg hr e5 hv (no 4 (by omega) hr (by omega))
