/-! THE LAW: hours. Laid by gen/r93.py. -/
set_option maxRecDepth 16384
theorem ge_of_lt {a b : Nat} {x y : Int32} (h : nn a x) (h2 : nn b y) (ha : a < 2 ^ 31) (hb : b < 2 ^ 31) (hl : y.toNatClampNeg < x.toNatClampNeg) : ¬ x ≤ y := by
  have b1 := h.2
  have b2 := h2.2
  rw [h.1, h2.1]
  exact nI_ge hl (by omega)
theorem le_of_eq32 {x y : Int32} (h : x = y) : x ≤ y := by rw [h]; exact Int32.le_refl _
theorem kx_m9 {k : Nat} (h : k < 50) : ¬ nI (k + 1) = -9 := fun e => by
  have := nI_nlt (a := k + 1) (b := 0) (Nat.zero_le _) (by omega)
  rw [e] at this
  exact this (by decide)
set_option maxHeartbeats 4000000 in
set_option maxRecDepth 100000 in
theorem L_hours_A {l : Launch} {Γ : gX} (hst : l.stackTraces = false) {u : Nat} {N : Nat → Int32} {Hy : Nat → Nat → Int32} {k : Nat} {w : WO} (hN : PI u N) (hu : 1998 * (u + 10000) < 2 ^ 31) (hG0 : GD N) (hk : k ≤ 14) {i h : Nat} (hi : i < (N 1).toNatClampNeg) (h1 : 1 ≤ h) (h2 : h ≤ 20) (hkx : ¬ lst (CC N i) 50 < 50) (hw : v_complainsIn N (nI i) = -9) : lM l Γ yL_hours wqL_hours 13 296 763 [.ref (gad Γ 475), .int (nI i), .int (nI h)] (SH Γ N Hy k w) (some (.int 1)) (SH Γ N Hy (kM 13 k) w) := by
  refine l_start (cc := cL_hours) (maxL := 12) (ret := (some .boolean)) (by decide) rfl (Nat.le_of_ble_eq_true rfl) ?_
  intro p e s m below meth c ls hx hb hml hrt hts hown hlocks hK hZ hX hY hG hS hl
  have hl : lv_has ls 12 [(0, .ref (gad Γ 475)), (1, .int (nI i)), (2, .int (nI h))] := hl
  have hown : s.vm.findClass RL = some m.cls := hown
  have hF : CallFix p m c cL_hours 12 s _ wqL_hours RL := ⟨hx, hb, hml, hown, hts⟩
  have hkl := (lst_spec (CC N i) 50).1
  have b1 := hN.h8.2
  have i8 : i < 8 := by omega
  have hu0 : 1998 * (u + 5000) < 2 ^ 31 := by omega
  have hP := pass_PI hN h (by omega)
  have huP : 1998 * (u + 17 * h + 5000) < 2 ^ 31 := by omega
  have hiP : i < (fX7_pass_L N h 1).toNatClampNeg := by rw [pass_hd hN (j := 1) (by decide) (by decide) h (by omega)]; exact hi
  have hgP := pass_GD hN hG0 h (by omega)
  have cE := pass_c0 hN hi (by omega) h (by omega)
  refine lv_aload_n hx hb dL_hours_0 rfl (lv_at hl 0 rfl) ?_
  refine l_call (X := 0) (K := 176) (CC := 763) (As := [.ref (gad Γ 475)]) (rest := []) (st1 := [.long (sumF N)]) hF (L_sum (N := N) (Hy := Hy) (k := k) (w := w) hst hN hu0) (va_cwS 1 hts qL_sum rfl rfl rfl (by decide +kernel) ⟨Nat.le_of_ble_eq_true rfl, Nat.le_of_ble_eq_true rfl⟩) hK hZ hX hY hG hS rfl hl.1 (Nat.le_of_ble_eq_true rfl) dL_hours_1 ⟨Nat.le_of_ble_eq_true rfl, Nat.le_of_ble_eq_true rfl⟩ (by omega) (by omega) rfl rfl (fun H locs hG hS => ?_)
  refine lv_lstore_n (lv' := [(3, .long (sumF N)), (0, .ref (gad Γ 475)), (1, .int (nI i)), (2, .int (nI h))]) hx hb dL_hours_4 rfl hl (by decide) rfl (fun ls hl => ?_)
  refine lv_aload_n hx hb dL_hours_5 rfl (lv_at hl 1 rfl) ?_
  refine lv_bipush (v := 17) hx hb dL_hours_6 (by decide) ?_
  refine lv_iload_n hx hb dL_hours_8 rfl (lv_at hl 2 rfl) ?_
  refine lv_iload_n hx hb dL_hours_9 rfl (lv_at hl 3 rfl) ?_
  refine lv_iconst (v := 0) hx hb dL_hours_10 (by decide) ?_
  refine lv_iconst (v := 0) hx hb dL_hours_11 (by decide) ?_
  refine l_call (X := 176) (K := 177) (CC := 763) (As := [.ref (gad Γ 475), .int 17, .int (nI i), .int (nI h), .int 0, .int 0]) (rest := []) (st1 := [.int (fX7_pass_L N h (82 + 5 * i + 4))]) hF (q_ahead (l := l) (Γ := Γ) (N := N) (Hy := Hy) (k := k) (w := w) hst hN hu0 (a := (nI i)) (d := (nI h)) rfl rfl hi h1 h2) (va_cwS 6 hts qL_call rfl rfl rfl (by decide +kernel) ⟨Nat.le_of_ble_eq_true rfl, Nat.le_of_ble_eq_true rfl⟩) hK hZ hX hY hG hS rfl hl.1 (Nat.le_of_ble_eq_true rfl) dL_hours_12 ⟨Nat.le_of_ble_eq_true rfl, Nat.le_of_ble_eq_true rfl⟩ (by omega) (by omega) rfl rfl (fun H locs hG hS => ?_)
  refine lv_istore (lv' := [(5, .int (fX7_pass_L N h (82 + 5 * i + 4))), (3, .long (sumF N)), (0, .ref (gad Γ 475)), (1, .int (nI i)), (2, .int (nI h))]) hx hb dL_hours_15 hl (by decide) rfl (fun ls hl => ?_)
  refine lv_aload_n hx hb dL_hours_17 rfl (lv_at hl 2 rfl) ?_
  refine lv_bipush (v := 21) hx hb dL_hours_18 (by decide) ?_
  refine lv_iload_n hx hb dL_hours_20 rfl (lv_at hl 3 rfl) ?_
  refine lv_iconst (v := 0) hx hb dL_hours_21 (by decide) ?_
  refine lv_iconst (v := 0) hx hb dL_hours_22 (by decide) ?_
  refine lv_iconst (v := 0) hx hb dL_hours_23 (by decide) ?_
  refine l_call (X := 177) (K := 178) (CC := 763) (As := [.ref (gad Γ 475), .int 21, .int (nI i), .int 0, .int 0, .int 0]) (rest := []) (st1 := [.int (v_complainsIn N (nI i))]) hF (q_when (l := l) (Γ := Γ) (N := N) (Hy := Hy) (k := k) (w := w) hst hN hu0 (a := (nI i)) rfl 0 hi) (va_cwS 6 hts qL_call rfl rfl rfl (by decide +kernel) ⟨Nat.le_of_ble_eq_true rfl, Nat.le_of_ble_eq_true rfl⟩) hK hZ hX hY hG hS rfl hl.1 (Nat.le_of_ble_eq_true rfl) dL_hours_24 ⟨Nat.le_of_ble_eq_true rfl, Nat.le_of_ble_eq_true rfl⟩ (by omega) (by omega) rfl rfl (fun H locs hG hS => ?_)
  refine g_top (y := (-9)) hw ?_
  refine lv_istore (lv' := [(6, .int (-9)), (5, .int (fX7_pass_L N h (82 + 5 * i + 4))), (3, .long (sumF N)), (0, .ref (gad Γ 475)), (1, .int (nI i)), (2, .int (nI h))]) hx hb dL_hours_27 hl (by decide) rfl (fun ls hl => ?_)
  refine lv_aload_n hx hb dL_hours_29 rfl (lv_at hl 3 rfl) ?_
  refine lv_iload_n hx hb dL_hours_30 rfl (lv_at hl 4 rfl) ?_
  refine lv_iconst (v := 3) hx hb dL_hours_31 (by decide) ?_
  refine l_call (X := 178) (K := 179) (CC := 763) (As := [.ref (gad Γ 475), .int (nI i), .int 3]) (rest := []) (st1 := [.int (N (82 + 5 * i + 3))]) hF (r_house (N := N) (Hy := Hy) (k := k) (w := w) hst hN hu0 (a := (nI i)) (d := 3) (i := i) (j := 3) rfl rfl hi (by decide)) (va_cwS 3 hts qL_house rfl rfl rfl (by decide +kernel) ⟨Nat.le_of_ble_eq_true rfl, Nat.le_of_ble_eq_true rfl⟩) hK hZ hX hY hG hS rfl hl.1 (Nat.le_of_ble_eq_true rfl) dL_hours_32 ⟨Nat.le_of_ble_eq_true rfl, Nat.le_of_ble_eq_true rfl⟩ (by omega) (by omega) rfl rfl (fun H locs hG hS => ?_)
  refine lv_istore (lv' := [(7, .int (N (82 + 5 * i + 3))), (6, .int (-9)), (5, .int (fX7_pass_L N h (82 + 5 * i + 4))), (3, .long (sumF N)), (0, .ref (gad Γ 475)), (1, .int (nI i)), (2, .int (nI h))]) hx hb dL_hours_35 hl (by decide) rfl (fun ls hl => ?_)
  refine lv_aload_n hx hb dL_hours_37 rfl (lv_at hl 4 rfl) ?_
  refine lv_bipush (v := 10) hx hb dL_hours_38 (by decide) ?_
  refine l_call (X := 179) (K := 180) (CC := 763) (As := [.ref (gad Γ 475), .int 10]) (rest := []) (st1 := [.int (N 10)]) hF (r_about (N := N) (Hy := Hy) (k := k) (w := w) hst hN hu0 (a := 10) (j := 10) rfl (by decide)) (va_cwS 2 hts qL_about rfl rfl rfl (by decide +kernel) ⟨Nat.le_of_ble_eq_true rfl, Nat.le_of_ble_eq_true rfl⟩) hK hZ hX hY hG hS rfl hl.1 (Nat.le_of_ble_eq_true rfl) dL_hours_40 ⟨Nat.le_of_ble_eq_true rfl, Nat.le_of_ble_eq_true rfl⟩ (by omega) (by omega) rfl rfl (fun H locs hG hS => ?_)
  refine lv_istore (lv' := [(8, .int (N 10)), (7, .int (N (82 + 5 * i + 3))), (6, .int (-9)), (5, .int (fX7_pass_L N h (82 + 5 * i + 4))), (3, .long (sumF N)), (0, .ref (gad Γ 475)), (1, .int (nI i)), (2, .int (nI h))]) hx hb dL_hours_43 hl (by decide) rfl (fun ls hl => ?_)
  refine lv_bipush (v := 10) hx hb dL_hours_45 (by decide) ?_
  refine lv_aload_n hx hb dL_hours_47 rfl (lv_at hl 5 rfl) ?_
  refine lv_iconst (v := 3) hx hb dL_hours_48 (by decide) ?_
  refine l_call (X := 180) (K := 181) (CC := 763) (As := [.ref (gad Γ 475), .int 3]) (rest := [.int 10]) (st1 := [.int (N 3), .int 10]) hF (r_about (N := N) (Hy := Hy) (k := k) (w := w) hst hN hu0 (a := 3) (j := 3) rfl (by decide)) (va_cwS 2 hts qL_about rfl rfl rfl (by decide +kernel) ⟨Nat.le_of_ble_eq_true rfl, Nat.le_of_ble_eq_true rfl⟩) hK hZ hX hY hG hS rfl hl.1 (Nat.le_of_ble_eq_true rfl) dL_hours_49 ⟨Nat.le_of_ble_eq_true rfl, Nat.le_of_ble_eq_true rfl⟩ (by omega) (by omega) rfl rfl (fun H locs hG hS => ?_)
  refine lv_imul hx hb dL_hours_52 ?_
  refine lv_aload_n hx hb dL_hours_53 rfl (lv_at hl 5 rfl) ?_
  refine lv_iconst (v := 4) hx hb dL_hours_54 (by decide) ?_
  refine l_call (X := 181) (K := 182) (CC := 763) (As := [.ref (gad Γ 475), .int 4]) (rest := [.int (10 * (N 3))]) (st1 := [.int (N 4), .int (10 * (N 3))]) hF (r_about (N := N) (Hy := Hy) (k := k) (w := w) hst hN hu0 (a := 4) (j := 4) rfl (by decide)) (va_cwS 2 hts qL_about rfl rfl rfl (by decide +kernel) ⟨Nat.le_of_ble_eq_true rfl, Nat.le_of_ble_eq_true rfl⟩) hK hZ hX hY hG hS rfl hl.1 (Nat.le_of_ble_eq_true rfl) dL_hours_55 ⟨Nat.le_of_ble_eq_true rfl, Nat.le_of_ble_eq_true rfl⟩ (by omega) (by omega) rfl rfl (fun H locs hG hS => ?_)
  refine lv_iadd hx hb dL_hours_58 ?_
  refine lv_istore (lv' := [(9, .int ((10 * (N 3)) + (N 4))), (8, .int (N 10)), (7, .int (N (82 + 5 * i + 3))), (6, .int (-9)), (5, .int (fX7_pass_L N h (82 + 5 * i + 4))), (3, .long (sumF N)), (0, .ref (gad Γ 475)), (1, .int (nI i)), (2, .int (nI h))]) hx hb dL_hours_59 hl (by decide) rfl (fun ls hl => ?_)
  refine lv_aload_n hx hb dL_hours_61 rfl (lv_at hl 6 rfl) ?_
  refine lv_bipush (v := 14) hx hb dL_hours_62 (by decide) ?_
  refine lv_iload_n hx hb dL_hours_64 rfl (lv_at hl 8 rfl) ?_
  refine lv_iconst (v := 0) hx hb dL_hours_65 (by decide) ?_
  refine lv_iconst (v := 0) hx hb dL_hours_66 (by decide) ?_
  refine lv_iconst (v := 0) hx hb dL_hours_67 (by decide) ?_
  refine l_call (X := 182) (K := 183) (CC := 763) (As := [.ref (gad Γ 475), .int 14, .int (nI h), .int 0, .int 0, .int 0]) (rest := []) (st1 := [.int (fX7_pass_L N h 10 - N 10)]) hF (q_pass (l := l) (Γ := Γ) (N := N) (Hy := Hy) (k := k) (w := w) hst hN hu0 (a := (nI h)) (h := h) rfl 0 h1 (by omega) (kN_0 hk)) (va_cwS 6 hts qL_call rfl rfl rfl (by decide +kernel) ⟨Nat.le_of_ble_eq_true rfl, Nat.le_of_ble_eq_true rfl⟩) hK hZ hX hY hG hS rfl hl.1 (Nat.le_of_ble_eq_true rfl) dL_hours_68 ⟨Nat.le_of_ble_eq_true rfl, Nat.le_of_ble_eq_true rfl⟩ (by omega) (by omega) rfl rfl (fun H locs hG hS => ?_)
  refine lv_istore (lv' := [(10, .int (fX7_pass_L N h 10 - N 10)), (9, .int ((10 * (N 3)) + (N 4))), (8, .int (N 10)), (7, .int (N (82 + 5 * i + 3))), (6, .int (-9)), (5, .int (fX7_pass_L N h (82 + 5 * i + 4))), (3, .long (sumF N)), (0, .ref (gad Γ 475)), (1, .int (nI i)), (2, .int (nI h))]) hx hb dL_hours_71 hl (by decide) rfl (fun ls hl => ?_)
  refine lv_aload_n hx hb dL_hours_73 rfl (lv_at hl 7 rfl) ?_
  refine lv_iload_n hx hb dL_hours_74 rfl (lv_at hl 8 rfl) ?_
  refine lv_iconst (v := 4) hx hb dL_hours_75 (by decide) ?_
  refine l_call (X := 183) (K := 184) (CC := 763) (As := [.ref (gad Γ 475), .int (nI i), .int 4]) (rest := []) (st1 := [.int ((fX7_pass_L N h) (82 + 5 * i + 4))]) hF (r_house (N := fX7_pass_L N h) (Hy := cons N Hy) (k := kM 13 k + 1) (w := w) hst hP huP (a := (nI i)) (d := 4) (i := i) (j := 4) rfl rfl hiP (by decide)) (va_cwS 3 hts qL_house rfl rfl rfl (by decide +kernel) ⟨Nat.le_of_ble_eq_true rfl, Nat.le_of_ble_eq_true rfl⟩) hK hZ hX hY hG hS rfl hl.1 (Nat.le_of_ble_eq_true rfl) dL_hours_76 ⟨Nat.le_of_ble_eq_true rfl, Nat.le_of_ble_eq_true rfl⟩ (by omega) (by omega) rfl rfl (fun H locs hG hS => ?_)
  refine lv_iload hx hb dL_hours_79 (lv_at hl 5 rfl) ?_
  refine lv_icmp_ne (tgt := 167) hx hb dL_hours_81 (by decide) (fun c_1 => absurd rfl c_1) (fun c_1 => ?_)
  refine lv_iload hx hb dL_hours_84 (lv_at hl 0 rfl) ?_
  refine lv_aload_n hx hb dL_hours_86 rfl (lv_at hl 7 rfl) ?_
  refine lv_bipush (v := 10) hx hb dL_hours_87 (by decide) ?_
  refine l_call (X := 184) (K := 185) (CC := 763) (As := [.ref (gad Γ 475), .int 10]) (rest := [.int (fX7_pass_L N h 10 - N 10)]) (st1 := [.int ((fX7_pass_L N h) 10), .int (fX7_pass_L N h 10 - N 10)]) hF (r_about (N := fX7_pass_L N h) (Hy := cons N Hy) (k := kM 13 k + 1) (w := w) hst hP huP (a := 10) (j := 10) rfl (by decide)) (va_cwS 2 hts qL_about rfl rfl rfl (by decide +kernel) ⟨Nat.le_of_ble_eq_true rfl, Nat.le_of_ble_eq_true rfl⟩) hK hZ hX hY hG hS rfl hl.1 (Nat.le_of_ble_eq_true rfl) dL_hours_89 ⟨Nat.le_of_ble_eq_true rfl, Nat.le_of_ble_eq_true rfl⟩ (by omega) (by omega) rfl rfl (fun H locs hG hS => ?_)
  refine lv_iload hx hb dL_hours_92 (lv_at hl 2 rfl) ?_
  refine lv_isub hx hb dL_hours_94 ?_
  refine lv_icmp_ne (tgt := 167) hx hb dL_hours_95 (by decide) (fun c_2 => absurd rfl c_2) (fun c_2 => ?_)
  refine lv_aload_n hx hb dL_hours_98 rfl (lv_at hl 7 rfl) ?_
  refine lv_iload_n hx hb dL_hours_99 rfl (lv_at hl 8 rfl) ?_
  refine lv_iconst (v := 3) hx hb dL_hours_100 (by decide) ?_
  refine l_call (X := 185) (K := 186) (CC := 763) (As := [.ref (gad Γ 475), .int (nI i), .int 3]) (rest := []) (st1 := [.int ((fX7_pass_L N h) (82 + 5 * i + 3))]) hF (r_house (N := fX7_pass_L N h) (Hy := cons N Hy) (k := kM 13 k + 1) (w := w) hst hP huP (a := (nI i)) (d := 3) (i := i) (j := 3) rfl rfl hiP (by decide)) (va_cwS 3 hts qL_house rfl rfl rfl (by decide +kernel) ⟨Nat.le_of_ble_eq_true rfl, Nat.le_of_ble_eq_true rfl⟩) hK hZ hX hY hG hS rfl hl.1 (Nat.le_of_ble_eq_true rfl) dL_hours_101 ⟨Nat.le_of_ble_eq_true rfl, Nat.le_of_ble_eq_true rfl⟩ (by omega) (by omega) rfl rfl (fun H locs hG hS => ?_)
  refine lv_iload hx hb dL_hours_104 (lv_at hl 3 rfl) ?_
  refine lv_icmp_le (tgt := 113) hx hb dL_hours_106 (by decide) (fun c_3 => ?_) (fun c_3 => absurd (le_of_eq32 cE) c_3)
  refine lv_iconst (v := 0) hx hb dL_hours_113 (by decide) ?_
  refine lv_iload hx hb dL_hours_114 (lv_at hl 4 rfl) ?_
  refine lv_bipush (v := (-9)) hx hb dL_hours_116 (by decide) ?_
  refine lv_icmp_eq (tgt := 131) hx hb dL_hours_118 (by decide) (fun c_4 => ?_) (fun c_4 => absurd (by decide) c_4)
  refine lv_iconst (v := 0) hx hb dL_hours_131 (by decide) ?_
  refine lv_icmp_ne (tgt := 167) hx hb dL_hours_132 (by decide) (fun c_5 => absurd (by decide) c_5) (fun c_5 => ?_)
  refine lv_bipush (v := 10) hx hb dL_hours_135 (by decide) ?_
  refine lv_aload_n hx hb dL_hours_137 rfl (lv_at hl 7 rfl) ?_
  refine lv_iconst (v := 3) hx hb dL_hours_138 (by decide) ?_
  refine l_call (X := 186) (K := 187) (CC := 763) (As := [.ref (gad Γ 475), .int 3]) (rest := [.int 10]) (st1 := [.int ((fX7_pass_L N h) 3), .int 10]) hF (r_about (N := fX7_pass_L N h) (Hy := cons N Hy) (k := kM 13 k + 1) (w := w) hst hP huP (a := 3) (j := 3) rfl (by decide)) (va_cwS 2 hts qL_about rfl rfl rfl (by decide +kernel) ⟨Nat.le_of_ble_eq_true rfl, Nat.le_of_ble_eq_true rfl⟩) hK hZ hX hY hG hS rfl hl.1 (Nat.le_of_ble_eq_true rfl) dL_hours_139 ⟨Nat.le_of_ble_eq_true rfl, Nat.le_of_ble_eq_true rfl⟩ (by omega) (by omega) rfl rfl (fun H locs hG hS => ?_)
  refine lv_imul hx hb dL_hours_142 ?_
  refine lv_aload_n hx hb dL_hours_143 rfl (lv_at hl 7 rfl) ?_
  refine lv_iconst (v := 4) hx hb dL_hours_144 (by decide) ?_
  refine l_call (X := 187) (K := 188) (CC := 763) (As := [.ref (gad Γ 475), .int 4]) (rest := [.int (10 * ((fX7_pass_L N h) 3))]) (st1 := [.int ((fX7_pass_L N h) 4), .int (10 * ((fX7_pass_L N h) 3))]) hF (r_about (N := fX7_pass_L N h) (Hy := cons N Hy) (k := kM 13 k + 1) (w := w) hst hP huP (a := 4) (j := 4) rfl (by decide)) (va_cwS 2 hts qL_about rfl rfl rfl (by decide +kernel) ⟨Nat.le_of_ble_eq_true rfl, Nat.le_of_ble_eq_true rfl⟩) hK hZ hX hY hG hS rfl hl.1 (Nat.le_of_ble_eq_true rfl) dL_hours_145 ⟨Nat.le_of_ble_eq_true rfl, Nat.le_of_ble_eq_true rfl⟩ (by omega) (by omega) rfl rfl (fun H locs hG hS => ?_)
  refine lv_iadd hx hb dL_hours_148 ?_
  refine lv_iload hx hb dL_hours_149 (lv_at hl 1 rfl) ?_
  refine lv_iload_n hx hb dL_hours_151 rfl (lv_at hl 9 rfl) ?_
  refine lv_iadd hx hb dL_hours_152 ?_
  refine lv_icmp_ne (tgt := 167) hx hb dL_hours_153 (by decide) (fun c_6 => absurd (pass_time hN h (by omega)) c_6) (fun c_6 => ?_)
  refine lv_aload_n hx hb dL_hours_156 rfl (lv_at hl 7 rfl) ?_
  refine l_call (X := 188) (K := 383) (CC := 763) (As := [.ref (gad Γ 475)]) (rest := []) (st1 := [.int 1]) hF (L_numbers (N := fX7_pass_L N h) (Hy := cons N Hy) (k := kM 13 k + 1) (w := w) hst hP huP hgP) (va_cwS 1 hts qL_numbers rfl rfl rfl (by decide +kernel) ⟨Nat.le_of_ble_eq_true rfl, Nat.le_of_ble_eq_true rfl⟩) hK hZ hX hY hG hS rfl hl.1 (Nat.le_of_ble_eq_true rfl) dL_hours_157 ⟨Nat.le_of_ble_eq_true rfl, Nat.le_of_ble_eq_true rfl⟩ (by omega) (by omega) rfl rfl (fun H locs hG hS => ?_)
  refine lv_if_eq (tgt := 167) hx hb dL_hours_160 (by decide) (fun c_7 => absurd c_7 (by decide)) (fun c_7 => ?_)
  refine lv_iconst (v := 1) hx hb dL_hours_163 (by decide) ?_
  refine lv_goto (tgt := 168) hx hb dL_hours_164 (by decide) ?_
  refine lv_istore (lv' := [(11, .int 1), (10, .int (fX7_pass_L N h 10 - N 10)), (9, .int ((10 * (N 3)) + (N 4))), (8, .int (N 10)), (7, .int (N (82 + 5 * i + 3))), (6, .int (-9)), (5, .int (fX7_pass_L N h (82 + 5 * i + 4))), (3, .long (sumF N)), (0, .ref (gad Γ 475)), (1, .int (nI i)), (2, .int (nI h))]) hx hb dL_hours_168 hl (by decide) rfl (fun ls hl => ?_)
  refine lv_iload hx hb dL_hours_170 (lv_at hl 0 rfl) ?_
  refine lv_aload_n hx hb dL_hours_172 rfl (lv_at hl 8 rfl) ?_
  refine lv_bipush (v := 15) hx hb dL_hours_173 (by decide) ?_
  refine lv_iconst (v := 0) hx hb dL_hours_175 (by decide) ?_
  refine lv_iconst (v := 0) hx hb dL_hours_176 (by decide) ?_
  refine lv_iconst (v := 0) hx hb dL_hours_177 (by decide) ?_
  refine lv_iconst (v := 0) hx hb dL_hours_178 (by decide) ?_
  refine l_call (X := 383) (K := 384) (CC := 763) (As := [.ref (gad Γ 475), .int 15, .int 0, .int 0, .int 0, .int 0]) (rest := [.int 1]) (st1 := [.int (nI (kM 13 k)), .int 1]) hF (q_undo (l := l) (Γ := Γ) (N := N) (Hy := Hy) (k := (kM 13 k)) (w := w) (P := (fX7_pass_L N h)) hN 0 0) (va_cwS 6 hts qL_call rfl rfl rfl (by decide +kernel) ⟨Nat.le_of_ble_eq_true rfl, Nat.le_of_ble_eq_true rfl⟩) hK hZ hX hY hG hS rfl hl.1 (Nat.le_of_ble_eq_true rfl) dL_hours_179 ⟨Nat.le_of_ble_eq_true rfl, Nat.le_of_ble_eq_true rfl⟩ (by omega) (by omega) rfl rfl (fun H locs hG hS => ?_)
  refine lv_if_lt (tgt := 198) hx hb dL_hours_182 (by decide) (fun c_8 => absurd c_8 (kM_nn 13 0 k (by decide))) (fun c_8 => ?_)
  refine lv_aload_n hx hb dL_hours_185 rfl (lv_at hl 8 rfl) ?_
  refine l_call (X := 384) (K := 560) (CC := 763) (As := [.ref (gad Γ 475)]) (rest := [.int 1]) (st1 := [.long (sumF N), .int 1]) hF (L_sum (N := N) (Hy := Hy) (k := kM 13 k) (w := w) hst hN hu0) (va_cwS 1 hts qL_sum rfl rfl rfl (by decide +kernel) ⟨Nat.le_of_ble_eq_true rfl, Nat.le_of_ble_eq_true rfl⟩) hK hZ hX hY hG hS rfl hl.1 (Nat.le_of_ble_eq_true rfl) dL_hours_186 ⟨Nat.le_of_ble_eq_true rfl, Nat.le_of_ble_eq_true rfl⟩ (by omega) (by omega) rfl rfl (fun H locs hG hS => ?_)
  refine lv_lload_n hx hb dL_hours_189 rfl (lv_at hl 7 rfl) ?_
  refine W.lcmp hx hb dL_hours_190 ?_
  refine gl_ne (tgt := 198) hx hb dL_hours_191 (by decide) (fun c_9 => absurd rfl c_9) (fun c_9 => ?_)
  refine lv_iconst (v := 1) hx hb dL_hours_194 (by decide) ?_
  refine lv_goto (tgt := 199) hx hb dL_hours_195 (by decide) ?_
  refine lv_iand hx hb dL_hours_199 ?_
  refine g_top (y := 1) (show (1 &&& 1 : Int32) = 1 from rfl) ?_
  refine lv_istore (lv' := [(11, .int 1), (10, .int (fX7_pass_L N h 10 - N 10)), (9, .int ((10 * (N 3)) + (N 4))), (8, .int (N 10)), (7, .int (N (82 + 5 * i + 3))), (6, .int (-9)), (5, .int (fX7_pass_L N h (82 + 5 * i + 4))), (3, .long (sumF N)), (0, .ref (gad Γ 475)), (1, .int (nI i)), (2, .int (nI h))]) hx hb dL_hours_200 hl (by decide) rfl (fun ls hl => ?_)
  refine lv_iload hx hb dL_hours_202 (lv_at hl 5 rfl) ?_
  refine lv_bipush (v := (-9)) hx hb dL_hours_204 (by decide) ?_
  refine lv_icmp_eq (tgt := 334) hx hb dL_hours_206 (by decide) (fun c_10 => ?_) (fun c_10 => absurd (by decide) c_10)
  refine lv_iload hx hb dL_hours_334 (lv_at hl 0 rfl) ?_
  refine lv_if_eq (tgt := 352) hx hb dL_hours_336 (by decide) (fun c_11 => absurd c_11 (by decide)) (fun c_11 => ?_)
  refine lv_aload_n hx hb dL_hours_339 rfl (lv_at hl 8 rfl) ?_
  refine l_call (X := 560) (K := 736) (CC := 763) (As := [.ref (gad Γ 475)]) (rest := []) (st1 := [.long (sumF N)]) hF (L_sum (N := N) (Hy := Hy) (k := kM 13 k) (w := w) hst hN hu0) (va_cwS 1 hts qL_sum rfl rfl rfl (by decide +kernel) ⟨Nat.le_of_ble_eq_true rfl, Nat.le_of_ble_eq_true rfl⟩) hK hZ hX hY hG hS rfl hl.1 (Nat.le_of_ble_eq_true rfl) dL_hours_340 ⟨Nat.le_of_ble_eq_true rfl, Nat.le_of_ble_eq_true rfl⟩ (by omega) (by omega) rfl rfl (fun H locs hG hS => ?_)
  refine lv_lload_n hx hb dL_hours_343 rfl (lv_at hl 7 rfl) ?_
  refine W.lcmp hx hb dL_hours_344 ?_
  refine gl_ne (tgt := 352) hx hb dL_hours_345 (by decide) (fun c_12 => absurd rfl c_12) (fun c_12 => ?_)
  refine lv_iconst (v := 1) hx hb dL_hours_348 (by decide) ?_
  refine lv_goto (tgt := 353) hx hb dL_hours_349 (by decide) ?_
  exact l_zret hx hb hrt hlocks hS hG (by decide) rfl (by omega) dL_hours_353

set_option maxHeartbeats 4000000 in
set_option maxRecDepth 100000 in
theorem L_hours_B {l : Launch} {Γ : gX} (hst : l.stackTraces = false) {u : Nat} {N : Nat → Int32} {Hy : Nat → Nat → Int32} {k : Nat} {w : WO} (hN : PI u N) (hu : 1998 * (u + 10000) < 2 ^ 31) (hG0 : GD N) (hk : k ≤ 14) {i h : Nat} (hi : i < (N 1).toNatClampNeg) (h1 : 1 ≤ h) (h2 : h ≤ 20) (hkx : 0 = lst (CC N i) 50) (hw : v_complainsIn N (nI i) = 1) : lM l Γ yL_hours wqL_hours 13 296 763 [.ref (gad Γ 475), .int (nI i), .int (nI h)] (SH Γ N Hy k w) (some (.int 1)) (SH Γ N Hy (kM 13 k) w) := by
  refine l_start (cc := cL_hours) (maxL := 12) (ret := (some .boolean)) (by decide) rfl (Nat.le_of_ble_eq_true rfl) ?_
  intro p e s m below meth c ls hx hb hml hrt hts hown hlocks hK hZ hX hY hG hS hl
  have hl : lv_has ls 12 [(0, .ref (gad Γ 475)), (1, .int (nI i)), (2, .int (nI h))] := hl
  have hown : s.vm.findClass RL = some m.cls := hown
  have hF : CallFix p m c cL_hours 12 s _ wqL_hours RL := ⟨hx, hb, hml, hown, hts⟩
  have b1 := hN.h8.2
  have i8 : i < 8 := by omega
  have hu0 : 1998 * (u + 5000) < 2 ^ 31 := by omega
  have hP := pass_PI hN h (by omega)
  have huP : 1998 * (u + 17 * h + 5000) < 2 ^ 31 := by omega
  have hiP : i < (fX7_pass_L N h 1).toNatClampNeg := by rw [pass_hd hN (j := 1) (by decide) (by decide) h (by omega)]; exact hi
  have hgP := pass_GD hN hG0 h (by omega)
  have hP2 := pass_PI hN (1) (by omega)
  have huP2 : 1998 * (u + 17 * (1) + 5000) < 2 ^ 31 := by omega
  have hiP2 : i < (fX7_pass_L N (1) 1).toNatClampNeg := by rw [pass_hd hN (j := 1) (by decide) (by decide) (1) (by omega)]; exact hi
  have cN : fX7_pass_L N (1) (82 + 5 * i + 3) = N (82 + 5 * i + 3) + 1 ∧ ¬ fX7_pass_L N (1) (82 + 5 * i + 4) < fX7_pass_L N (1) 7 := by
    have c := pass_c1 hN hi (by omega) (by omega)
    rw [← hkx] at c
    rw [pass_hd hN (j := 7) (by decide) (by decide) _ (by omega)]
    exact c
  have c10 : (N 10).toNatClampNeg < (fX7_pass_L N (1) 10).toNatClampNeg := by
    have c := pass_10s hN hi (by omega) (by omega)
    rw [← hkx] at c
    exact c
  have cL : ¬ fX7_pass_L N h (82 + 5 * i + 3) ≤ N (82 + 5 * i + 3) := by
    have c := pass_c2 hN hi (by omega) i8 (by omega) (h - 1 - 0) (by omega)
    rw [← hkx, show 0 + 1 + (h - 1 - 0) = h by omega] at c
    exact ge_of_lt (hP.nh3 i8) (hN.nh i8 3 u (by omega) rfl rfl) (by omega) (by omega) c
  refine lv_aload_n hx hb dL_hours_0 rfl (lv_at hl 0 rfl) ?_
  refine l_call (X := 0) (K := 176) (CC := 763) (As := [.ref (gad Γ 475)]) (rest := []) (st1 := [.long (sumF N)]) hF (L_sum (N := N) (Hy := Hy) (k := k) (w := w) hst hN hu0) (va_cwS 1 hts qL_sum rfl rfl rfl (by decide +kernel) ⟨Nat.le_of_ble_eq_true rfl, Nat.le_of_ble_eq_true rfl⟩) hK hZ hX hY hG hS rfl hl.1 (Nat.le_of_ble_eq_true rfl) dL_hours_1 ⟨Nat.le_of_ble_eq_true rfl, Nat.le_of_ble_eq_true rfl⟩ (by omega) (by omega) rfl rfl (fun H locs hG hS => ?_)
  refine lv_lstore_n (lv' := [(3, .long (sumF N)), (0, .ref (gad Γ 475)), (1, .int (nI i)), (2, .int (nI h))]) hx hb dL_hours_4 rfl hl (by decide) rfl (fun ls hl => ?_)
  refine lv_aload_n hx hb dL_hours_5 rfl (lv_at hl 1 rfl) ?_
  refine lv_bipush (v := 17) hx hb dL_hours_6 (by decide) ?_
  refine lv_iload_n hx hb dL_hours_8 rfl (lv_at hl 2 rfl) ?_
  refine lv_iload_n hx hb dL_hours_9 rfl (lv_at hl 3 rfl) ?_
  refine lv_iconst (v := 0) hx hb dL_hours_10 (by decide) ?_
  refine lv_iconst (v := 0) hx hb dL_hours_11 (by decide) ?_
  refine l_call (X := 176) (K := 177) (CC := 763) (As := [.ref (gad Γ 475), .int 17, .int (nI i), .int (nI h), .int 0, .int 0]) (rest := []) (st1 := [.int (fX7_pass_L N h (82 + 5 * i + 4))]) hF (q_ahead (l := l) (Γ := Γ) (N := N) (Hy := Hy) (k := k) (w := w) hst hN hu0 (a := (nI i)) (d := (nI h)) rfl rfl hi h1 h2) (va_cwS 6 hts qL_call rfl rfl rfl (by decide +kernel) ⟨Nat.le_of_ble_eq_true rfl, Nat.le_of_ble_eq_true rfl⟩) hK hZ hX hY hG hS rfl hl.1 (Nat.le_of_ble_eq_true rfl) dL_hours_12 ⟨Nat.le_of_ble_eq_true rfl, Nat.le_of_ble_eq_true rfl⟩ (by omega) (by omega) rfl rfl (fun H locs hG hS => ?_)
  refine lv_istore (lv' := [(5, .int (fX7_pass_L N h (82 + 5 * i + 4))), (3, .long (sumF N)), (0, .ref (gad Γ 475)), (1, .int (nI i)), (2, .int (nI h))]) hx hb dL_hours_15 hl (by decide) rfl (fun ls hl => ?_)
  refine lv_aload_n hx hb dL_hours_17 rfl (lv_at hl 2 rfl) ?_
  refine lv_bipush (v := 21) hx hb dL_hours_18 (by decide) ?_
  refine lv_iload_n hx hb dL_hours_20 rfl (lv_at hl 3 rfl) ?_
  refine lv_iconst (v := 0) hx hb dL_hours_21 (by decide) ?_
  refine lv_iconst (v := 0) hx hb dL_hours_22 (by decide) ?_
  refine lv_iconst (v := 0) hx hb dL_hours_23 (by decide) ?_
  refine l_call (X := 177) (K := 178) (CC := 763) (As := [.ref (gad Γ 475), .int 21, .int (nI i), .int 0, .int 0, .int 0]) (rest := []) (st1 := [.int (v_complainsIn N (nI i))]) hF (q_when (l := l) (Γ := Γ) (N := N) (Hy := Hy) (k := k) (w := w) hst hN hu0 (a := (nI i)) rfl 0 hi) (va_cwS 6 hts qL_call rfl rfl rfl (by decide +kernel) ⟨Nat.le_of_ble_eq_true rfl, Nat.le_of_ble_eq_true rfl⟩) hK hZ hX hY hG hS rfl hl.1 (Nat.le_of_ble_eq_true rfl) dL_hours_24 ⟨Nat.le_of_ble_eq_true rfl, Nat.le_of_ble_eq_true rfl⟩ (by omega) (by omega) rfl rfl (fun H locs hG hS => ?_)
  refine g_top (y := 1) hw ?_
  refine lv_istore (lv' := [(6, .int 1), (5, .int (fX7_pass_L N h (82 + 5 * i + 4))), (3, .long (sumF N)), (0, .ref (gad Γ 475)), (1, .int (nI i)), (2, .int (nI h))]) hx hb dL_hours_27 hl (by decide) rfl (fun ls hl => ?_)
  refine lv_aload_n hx hb dL_hours_29 rfl (lv_at hl 3 rfl) ?_
  refine lv_iload_n hx hb dL_hours_30 rfl (lv_at hl 4 rfl) ?_
  refine lv_iconst (v := 3) hx hb dL_hours_31 (by decide) ?_
  refine l_call (X := 178) (K := 179) (CC := 763) (As := [.ref (gad Γ 475), .int (nI i), .int 3]) (rest := []) (st1 := [.int (N (82 + 5 * i + 3))]) hF (r_house (N := N) (Hy := Hy) (k := k) (w := w) hst hN hu0 (a := (nI i)) (d := 3) (i := i) (j := 3) rfl rfl hi (by decide)) (va_cwS 3 hts qL_house rfl rfl rfl (by decide +kernel) ⟨Nat.le_of_ble_eq_true rfl, Nat.le_of_ble_eq_true rfl⟩) hK hZ hX hY hG hS rfl hl.1 (Nat.le_of_ble_eq_true rfl) dL_hours_32 ⟨Nat.le_of_ble_eq_true rfl, Nat.le_of_ble_eq_true rfl⟩ (by omega) (by omega) rfl rfl (fun H locs hG hS => ?_)
  refine lv_istore (lv' := [(7, .int (N (82 + 5 * i + 3))), (6, .int 1), (5, .int (fX7_pass_L N h (82 + 5 * i + 4))), (3, .long (sumF N)), (0, .ref (gad Γ 475)), (1, .int (nI i)), (2, .int (nI h))]) hx hb dL_hours_35 hl (by decide) rfl (fun ls hl => ?_)
  refine lv_aload_n hx hb dL_hours_37 rfl (lv_at hl 4 rfl) ?_
  refine lv_bipush (v := 10) hx hb dL_hours_38 (by decide) ?_
  refine l_call (X := 179) (K := 180) (CC := 763) (As := [.ref (gad Γ 475), .int 10]) (rest := []) (st1 := [.int (N 10)]) hF (r_about (N := N) (Hy := Hy) (k := k) (w := w) hst hN hu0 (a := 10) (j := 10) rfl (by decide)) (va_cwS 2 hts qL_about rfl rfl rfl (by decide +kernel) ⟨Nat.le_of_ble_eq_true rfl, Nat.le_of_ble_eq_true rfl⟩) hK hZ hX hY hG hS rfl hl.1 (Nat.le_of_ble_eq_true rfl) dL_hours_40 ⟨Nat.le_of_ble_eq_true rfl, Nat.le_of_ble_eq_true rfl⟩ (by omega) (by omega) rfl rfl (fun H locs hG hS => ?_)
  refine lv_istore (lv' := [(8, .int (N 10)), (7, .int (N (82 + 5 * i + 3))), (6, .int 1), (5, .int (fX7_pass_L N h (82 + 5 * i + 4))), (3, .long (sumF N)), (0, .ref (gad Γ 475)), (1, .int (nI i)), (2, .int (nI h))]) hx hb dL_hours_43 hl (by decide) rfl (fun ls hl => ?_)
  refine lv_bipush (v := 10) hx hb dL_hours_45 (by decide) ?_
  refine lv_aload_n hx hb dL_hours_47 rfl (lv_at hl 5 rfl) ?_
  refine lv_iconst (v := 3) hx hb dL_hours_48 (by decide) ?_
  refine l_call (X := 180) (K := 181) (CC := 763) (As := [.ref (gad Γ 475), .int 3]) (rest := [.int 10]) (st1 := [.int (N 3), .int 10]) hF (r_about (N := N) (Hy := Hy) (k := k) (w := w) hst hN hu0 (a := 3) (j := 3) rfl (by decide)) (va_cwS 2 hts qL_about rfl rfl rfl (by decide +kernel) ⟨Nat.le_of_ble_eq_true rfl, Nat.le_of_ble_eq_true rfl⟩) hK hZ hX hY hG hS rfl hl.1 (Nat.le_of_ble_eq_true rfl) dL_hours_49 ⟨Nat.le_of_ble_eq_true rfl, Nat.le_of_ble_eq_true rfl⟩ (by omega) (by omega) rfl rfl (fun H locs hG hS => ?_)
  refine lv_imul hx hb dL_hours_52 ?_
  refine lv_aload_n hx hb dL_hours_53 rfl (lv_at hl 5 rfl) ?_
  refine lv_iconst (v := 4) hx hb dL_hours_54 (by decide) ?_
  refine l_call (X := 181) (K := 182) (CC := 763) (As := [.ref (gad Γ 475), .int 4]) (rest := [.int (10 * (N 3))]) (st1 := [.int (N 4), .int (10 * (N 3))]) hF (r_about (N := N) (Hy := Hy) (k := k) (w := w) hst hN hu0 (a := 4) (j := 4) rfl (by decide)) (va_cwS 2 hts qL_about rfl rfl rfl (by decide +kernel) ⟨Nat.le_of_ble_eq_true rfl, Nat.le_of_ble_eq_true rfl⟩) hK hZ hX hY hG hS rfl hl.1 (Nat.le_of_ble_eq_true rfl) dL_hours_55 ⟨Nat.le_of_ble_eq_true rfl, Nat.le_of_ble_eq_true rfl⟩ (by omega) (by omega) rfl rfl (fun H locs hG hS => ?_)
  refine lv_iadd hx hb dL_hours_58 ?_
  refine lv_istore (lv' := [(9, .int ((10 * (N 3)) + (N 4))), (8, .int (N 10)), (7, .int (N (82 + 5 * i + 3))), (6, .int 1), (5, .int (fX7_pass_L N h (82 + 5 * i + 4))), (3, .long (sumF N)), (0, .ref (gad Γ 475)), (1, .int (nI i)), (2, .int (nI h))]) hx hb dL_hours_59 hl (by decide) rfl (fun ls hl => ?_)
  refine lv_aload_n hx hb dL_hours_61 rfl (lv_at hl 6 rfl) ?_
  refine lv_bipush (v := 14) hx hb dL_hours_62 (by decide) ?_
  refine lv_iload_n hx hb dL_hours_64 rfl (lv_at hl 8 rfl) ?_
  refine lv_iconst (v := 0) hx hb dL_hours_65 (by decide) ?_
  refine lv_iconst (v := 0) hx hb dL_hours_66 (by decide) ?_
  refine lv_iconst (v := 0) hx hb dL_hours_67 (by decide) ?_
  refine l_call (X := 182) (K := 183) (CC := 763) (As := [.ref (gad Γ 475), .int 14, .int (nI h), .int 0, .int 0, .int 0]) (rest := []) (st1 := [.int (fX7_pass_L N h 10 - N 10)]) hF (q_pass (l := l) (Γ := Γ) (N := N) (Hy := Hy) (k := k) (w := w) hst hN hu0 (a := (nI h)) (h := h) rfl 0 h1 (by omega) (kN_0 hk)) (va_cwS 6 hts qL_call rfl rfl rfl (by decide +kernel) ⟨Nat.le_of_ble_eq_true rfl, Nat.le_of_ble_eq_true rfl⟩) hK hZ hX hY hG hS rfl hl.1 (Nat.le_of_ble_eq_true rfl) dL_hours_68 ⟨Nat.le_of_ble_eq_true rfl, Nat.le_of_ble_eq_true rfl⟩ (by omega) (by omega) rfl rfl (fun H locs hG hS => ?_)
  refine lv_istore (lv' := [(10, .int (fX7_pass_L N h 10 - N 10)), (9, .int ((10 * (N 3)) + (N 4))), (8, .int (N 10)), (7, .int (N (82 + 5 * i + 3))), (6, .int 1), (5, .int (fX7_pass_L N h (82 + 5 * i + 4))), (3, .long (sumF N)), (0, .ref (gad Γ 475)), (1, .int (nI i)), (2, .int (nI h))]) hx hb dL_hours_71 hl (by decide) rfl (fun ls hl => ?_)
  refine lv_aload_n hx hb dL_hours_73 rfl (lv_at hl 7 rfl) ?_
  refine lv_iload_n hx hb dL_hours_74 rfl (lv_at hl 8 rfl) ?_
  refine lv_iconst (v := 4) hx hb dL_hours_75 (by decide) ?_
  refine l_call (X := 183) (K := 184) (CC := 763) (As := [.ref (gad Γ 475), .int (nI i), .int 4]) (rest := []) (st1 := [.int ((fX7_pass_L N h) (82 + 5 * i + 4))]) hF (r_house (N := fX7_pass_L N h) (Hy := cons N Hy) (k := kM 13 k + 1) (w := w) hst hP huP (a := (nI i)) (d := 4) (i := i) (j := 4) rfl rfl hiP (by decide)) (va_cwS 3 hts qL_house rfl rfl rfl (by decide +kernel) ⟨Nat.le_of_ble_eq_true rfl, Nat.le_of_ble_eq_true rfl⟩) hK hZ hX hY hG hS rfl hl.1 (Nat.le_of_ble_eq_true rfl) dL_hours_76 ⟨Nat.le_of_ble_eq_true rfl, Nat.le_of_ble_eq_true rfl⟩ (by omega) (by omega) rfl rfl (fun H locs hG hS => ?_)
  refine lv_iload hx hb dL_hours_79 (lv_at hl 5 rfl) ?_
  refine lv_icmp_ne (tgt := 167) hx hb dL_hours_81 (by decide) (fun c_1 => absurd rfl c_1) (fun c_1 => ?_)
  refine lv_iload hx hb dL_hours_84 (lv_at hl 0 rfl) ?_
  refine lv_aload_n hx hb dL_hours_86 rfl (lv_at hl 7 rfl) ?_
  refine lv_bipush (v := 10) hx hb dL_hours_87 (by decide) ?_
  refine l_call (X := 184) (K := 185) (CC := 763) (As := [.ref (gad Γ 475), .int 10]) (rest := [.int (fX7_pass_L N h 10 - N 10)]) (st1 := [.int ((fX7_pass_L N h) 10), .int (fX7_pass_L N h 10 - N 10)]) hF (r_about (N := fX7_pass_L N h) (Hy := cons N Hy) (k := kM 13 k + 1) (w := w) hst hP huP (a := 10) (j := 10) rfl (by decide)) (va_cwS 2 hts qL_about rfl rfl rfl (by decide +kernel) ⟨Nat.le_of_ble_eq_true rfl, Nat.le_of_ble_eq_true rfl⟩) hK hZ hX hY hG hS rfl hl.1 (Nat.le_of_ble_eq_true rfl) dL_hours_89 ⟨Nat.le_of_ble_eq_true rfl, Nat.le_of_ble_eq_true rfl⟩ (by omega) (by omega) rfl rfl (fun H locs hG hS => ?_)
  refine lv_iload hx hb dL_hours_92 (lv_at hl 2 rfl) ?_
  refine lv_isub hx hb dL_hours_94 ?_
  refine lv_icmp_ne (tgt := 167) hx hb dL_hours_95 (by decide) (fun c_2 => absurd rfl c_2) (fun c_2 => ?_)
  refine lv_aload_n hx hb dL_hours_98 rfl (lv_at hl 7 rfl) ?_
  refine lv_iload_n hx hb dL_hours_99 rfl (lv_at hl 8 rfl) ?_
  refine lv_iconst (v := 3) hx hb dL_hours_100 (by decide) ?_
  refine l_call (X := 185) (K := 186) (CC := 763) (As := [.ref (gad Γ 475), .int (nI i), .int 3]) (rest := []) (st1 := [.int ((fX7_pass_L N h) (82 + 5 * i + 3))]) hF (r_house (N := fX7_pass_L N h) (Hy := cons N Hy) (k := kM 13 k + 1) (w := w) hst hP huP (a := (nI i)) (d := 3) (i := i) (j := 3) rfl rfl hiP (by decide)) (va_cwS 3 hts qL_house rfl rfl rfl (by decide +kernel) ⟨Nat.le_of_ble_eq_true rfl, Nat.le_of_ble_eq_true rfl⟩) hK hZ hX hY hG hS rfl hl.1 (Nat.le_of_ble_eq_true rfl) dL_hours_101 ⟨Nat.le_of_ble_eq_true rfl, Nat.le_of_ble_eq_true rfl⟩ (by omega) (by omega) rfl rfl (fun H locs hG hS => ?_)
  refine lv_iload hx hb dL_hours_104 (lv_at hl 3 rfl) ?_
  refine lv_icmp_le (tgt := 113) hx hb dL_hours_106 (by decide) (fun c_3 => absurd c_3 cL) (fun c_3 => ?_)
  refine lv_iconst (v := 1) hx hb dL_hours_109 (by decide) ?_
  refine lv_goto (tgt := 114) hx hb dL_hours_110 (by decide) ?_
  refine lv_iload hx hb dL_hours_114 (lv_at hl 4 rfl) ?_
  refine lv_bipush (v := (-9)) hx hb dL_hours_116 (by decide) ?_
  refine lv_icmp_eq (tgt := 131) hx hb dL_hours_118 (by decide) (fun c_4 => absurd c_4 (by decide)) (fun c_4 => ?_)
  refine lv_iload hx hb dL_hours_121 (lv_at hl 4 rfl) ?_
  refine lv_iload_n hx hb dL_hours_123 rfl (lv_at hl 9 rfl) ?_
  refine lv_icmp_gt (tgt := 131) hx hb dL_hours_124 (by decide) (fun c_5 => absurd c_5 (nI_nlt (a := h) (b := 1) h1 (by omega))) (fun c_5 => ?_)
  refine lv_iconst (v := 1) hx hb dL_hours_127 (by decide) ?_
  refine lv_goto (tgt := 132) hx hb dL_hours_128 (by decide) ?_
  refine lv_icmp_ne (tgt := 167) hx hb dL_hours_132 (by decide) (fun c_6 => absurd (by decide) c_6) (fun c_6 => ?_)
  refine lv_bipush (v := 10) hx hb dL_hours_135 (by decide) ?_
  refine lv_aload_n hx hb dL_hours_137 rfl (lv_at hl 7 rfl) ?_
  refine lv_iconst (v := 3) hx hb dL_hours_138 (by decide) ?_
  refine l_call (X := 186) (K := 187) (CC := 763) (As := [.ref (gad Γ 475), .int 3]) (rest := [.int 10]) (st1 := [.int ((fX7_pass_L N h) 3), .int 10]) hF (r_about (N := fX7_pass_L N h) (Hy := cons N Hy) (k := kM 13 k + 1) (w := w) hst hP huP (a := 3) (j := 3) rfl (by decide)) (va_cwS 2 hts qL_about rfl rfl rfl (by decide +kernel) ⟨Nat.le_of_ble_eq_true rfl, Nat.le_of_ble_eq_true rfl⟩) hK hZ hX hY hG hS rfl hl.1 (Nat.le_of_ble_eq_true rfl) dL_hours_139 ⟨Nat.le_of_ble_eq_true rfl, Nat.le_of_ble_eq_true rfl⟩ (by omega) (by omega) rfl rfl (fun H locs hG hS => ?_)
  refine lv_imul hx hb dL_hours_142 ?_
  refine lv_aload_n hx hb dL_hours_143 rfl (lv_at hl 7 rfl) ?_
  refine lv_iconst (v := 4) hx hb dL_hours_144 (by decide) ?_
  refine l_call (X := 187) (K := 188) (CC := 763) (As := [.ref (gad Γ 475), .int 4]) (rest := [.int (10 * ((fX7_pass_L N h) 3))]) (st1 := [.int ((fX7_pass_L N h) 4), .int (10 * ((fX7_pass_L N h) 3))]) hF (r_about (N := fX7_pass_L N h) (Hy := cons N Hy) (k := kM 13 k + 1) (w := w) hst hP huP (a := 4) (j := 4) rfl (by decide)) (va_cwS 2 hts qL_about rfl rfl rfl (by decide +kernel) ⟨Nat.le_of_ble_eq_true rfl, Nat.le_of_ble_eq_true rfl⟩) hK hZ hX hY hG hS rfl hl.1 (Nat.le_of_ble_eq_true rfl) dL_hours_145 ⟨Nat.le_of_ble_eq_true rfl, Nat.le_of_ble_eq_true rfl⟩ (by omega) (by omega) rfl rfl (fun H locs hG hS => ?_)
  refine lv_iadd hx hb dL_hours_148 ?_
  refine lv_iload hx hb dL_hours_149 (lv_at hl 1 rfl) ?_
  refine lv_iload_n hx hb dL_hours_151 rfl (lv_at hl 9 rfl) ?_
  refine lv_iadd hx hb dL_hours_152 ?_
  refine lv_icmp_ne (tgt := 167) hx hb dL_hours_153 (by decide) (fun c_7 => absurd (pass_time hN h (by omega)) c_7) (fun c_7 => ?_)
  refine lv_aload_n hx hb dL_hours_156 rfl (lv_at hl 7 rfl) ?_
  refine l_call (X := 188) (K := 383) (CC := 763) (As := [.ref (gad Γ 475)]) (rest := []) (st1 := [.int 1]) hF (L_numbers (N := fX7_pass_L N h) (Hy := cons N Hy) (k := kM 13 k + 1) (w := w) hst hP huP hgP) (va_cwS 1 hts qL_numbers rfl rfl rfl (by decide +kernel) ⟨Nat.le_of_ble_eq_true rfl, Nat.le_of_ble_eq_true rfl⟩) hK hZ hX hY hG hS rfl hl.1 (Nat.le_of_ble_eq_true rfl) dL_hours_157 ⟨Nat.le_of_ble_eq_true rfl, Nat.le_of_ble_eq_true rfl⟩ (by omega) (by omega) rfl rfl (fun H locs hG hS => ?_)
  refine lv_if_eq (tgt := 167) hx hb dL_hours_160 (by decide) (fun c_8 => absurd c_8 (by decide)) (fun c_8 => ?_)
  refine lv_iconst (v := 1) hx hb dL_hours_163 (by decide) ?_
  refine lv_goto (tgt := 168) hx hb dL_hours_164 (by decide) ?_
  refine lv_istore (lv' := [(11, .int 1), (10, .int (fX7_pass_L N h 10 - N 10)), (9, .int ((10 * (N 3)) + (N 4))), (8, .int (N 10)), (7, .int (N (82 + 5 * i + 3))), (6, .int 1), (5, .int (fX7_pass_L N h (82 + 5 * i + 4))), (3, .long (sumF N)), (0, .ref (gad Γ 475)), (1, .int (nI i)), (2, .int (nI h))]) hx hb dL_hours_168 hl (by decide) rfl (fun ls hl => ?_)
  refine lv_iload hx hb dL_hours_170 (lv_at hl 0 rfl) ?_
  refine lv_aload_n hx hb dL_hours_172 rfl (lv_at hl 8 rfl) ?_
  refine lv_bipush (v := 15) hx hb dL_hours_173 (by decide) ?_
  refine lv_iconst (v := 0) hx hb dL_hours_175 (by decide) ?_
  refine lv_iconst (v := 0) hx hb dL_hours_176 (by decide) ?_
  refine lv_iconst (v := 0) hx hb dL_hours_177 (by decide) ?_
  refine lv_iconst (v := 0) hx hb dL_hours_178 (by decide) ?_
  refine l_call (X := 383) (K := 384) (CC := 763) (As := [.ref (gad Γ 475), .int 15, .int 0, .int 0, .int 0, .int 0]) (rest := [.int 1]) (st1 := [.int (nI (kM 13 k)), .int 1]) hF (q_undo (l := l) (Γ := Γ) (N := N) (Hy := Hy) (k := (kM 13 k)) (w := w) (P := (fX7_pass_L N h)) hN 0 0) (va_cwS 6 hts qL_call rfl rfl rfl (by decide +kernel) ⟨Nat.le_of_ble_eq_true rfl, Nat.le_of_ble_eq_true rfl⟩) hK hZ hX hY hG hS rfl hl.1 (Nat.le_of_ble_eq_true rfl) dL_hours_179 ⟨Nat.le_of_ble_eq_true rfl, Nat.le_of_ble_eq_true rfl⟩ (by omega) (by omega) rfl rfl (fun H locs hG hS => ?_)
  refine lv_if_lt (tgt := 198) hx hb dL_hours_182 (by decide) (fun c_9 => absurd c_9 (kM_nn 13 0 k (by decide))) (fun c_9 => ?_)
  refine lv_aload_n hx hb dL_hours_185 rfl (lv_at hl 8 rfl) ?_
  refine l_call (X := 384) (K := 560) (CC := 763) (As := [.ref (gad Γ 475)]) (rest := [.int 1]) (st1 := [.long (sumF N), .int 1]) hF (L_sum (N := N) (Hy := Hy) (k := kM 13 k) (w := w) hst hN hu0) (va_cwS 1 hts qL_sum rfl rfl rfl (by decide +kernel) ⟨Nat.le_of_ble_eq_true rfl, Nat.le_of_ble_eq_true rfl⟩) hK hZ hX hY hG hS rfl hl.1 (Nat.le_of_ble_eq_true rfl) dL_hours_186 ⟨Nat.le_of_ble_eq_true rfl, Nat.le_of_ble_eq_true rfl⟩ (by omega) (by omega) rfl rfl (fun H locs hG hS => ?_)
  refine lv_lload_n hx hb dL_hours_189 rfl (lv_at hl 7 rfl) ?_
  refine W.lcmp hx hb dL_hours_190 ?_
  refine gl_ne (tgt := 198) hx hb dL_hours_191 (by decide) (fun c_10 => absurd rfl c_10) (fun c_10 => ?_)
  refine lv_iconst (v := 1) hx hb dL_hours_194 (by decide) ?_
  refine lv_goto (tgt := 199) hx hb dL_hours_195 (by decide) ?_
  refine lv_iand hx hb dL_hours_199 ?_
  refine g_top (y := 1) (show (1 &&& 1 : Int32) = 1 from rfl) ?_
  refine lv_istore (lv' := [(11, .int 1), (10, .int (fX7_pass_L N h 10 - N 10)), (9, .int ((10 * (N 3)) + (N 4))), (8, .int (N 10)), (7, .int (N (82 + 5 * i + 3))), (6, .int 1), (5, .int (fX7_pass_L N h (82 + 5 * i + 4))), (3, .long (sumF N)), (0, .ref (gad Γ 475)), (1, .int (nI i)), (2, .int (nI h))]) hx hb dL_hours_200 hl (by decide) rfl (fun ls hl => ?_)
  refine lv_iload hx hb dL_hours_202 (lv_at hl 5 rfl) ?_
  refine lv_bipush (v := (-9)) hx hb dL_hours_204 (by decide) ?_
  refine lv_icmp_eq (tgt := 334) hx hb dL_hours_206 (by decide) (fun c_11 => absurd c_11 (by decide)) (fun c_11 => ?_)
  refine lv_iload hx hb dL_hours_209 (lv_at hl 0 rfl) ?_
  refine lv_if_eq (tgt := 334) hx hb dL_hours_211 (by decide) (fun c_12 => absurd c_12 (by decide)) (fun c_12 => ?_)
  refine lv_iload hx hb dL_hours_214 (lv_at hl 5 rfl) ?_
  refine lv_iconst (v := 1) hx hb dL_hours_216 (by decide) ?_
  refine lv_icmp_le (tgt := 267) hx hb dL_hours_217 (by decide) (fun c_13 => ?_) (fun c_13 => absurd (by decide) c_13)
  refine lv_iload hx hb dL_hours_267 (lv_at hl 0 rfl) ?_
  refine lv_if_eq (tgt := 331) hx hb dL_hours_269 (by decide) (fun c_14 => absurd c_14 (by decide)) (fun c_14 => ?_)
  refine lv_aload_n hx hb dL_hours_272 rfl (lv_at hl 8 rfl) ?_
  refine lv_bipush (v := 14) hx hb dL_hours_273 (by decide) ?_
  refine lv_iload hx hb dL_hours_275 (lv_at hl 5 rfl) ?_
  refine lv_iconst (v := 0) hx hb dL_hours_277 (by decide) ?_
  refine lv_iconst (v := 0) hx hb dL_hours_278 (by decide) ?_
  refine lv_iconst (v := 0) hx hb dL_hours_279 (by decide) ?_
  refine l_call (X := 560) (K := 561) (CC := 763) (As := [.ref (gad Γ 475), .int 14, .int 1, .int 0, .int 0, .int 0]) (rest := []) (st1 := [.int (fX7_pass_L N 1 10 - N 10)]) hF (q_pass (l := l) (Γ := Γ) (N := N) (Hy := Hy) (k := kM 13 k) (w := w) hst hN hu0 (a := 1) (h := 1) rfl 0 (by omega) (by omega) (kN_M (d := 13) (d' := 13) (n := 0) (k := k) (by decide) (by decide) (by decide))) (va_cwS 6 hts qL_call rfl rfl rfl (by decide +kernel) ⟨Nat.le_of_ble_eq_true rfl, Nat.le_of_ble_eq_true rfl⟩) hK hZ hX hY hG hS rfl hl.1 (Nat.le_of_ble_eq_true rfl) dL_hours_280 ⟨Nat.le_of_ble_eq_true rfl, Nat.le_of_ble_eq_true rfl⟩ (by omega) (by omega) rfl rfl (fun H locs hG hS => ?_)
  refine lv_if_le (tgt := 331) hx hb dL_hours_283 (by decide) (fun c_15 => absurd c_15 ((sub_pos (hP2.n10) (hN.n10) (by omega) c10).1)) (fun c_15 => ?_)
  refine lv_aload_n hx hb dL_hours_286 rfl (lv_at hl 8 rfl) ?_
  refine lv_iload_n hx hb dL_hours_287 rfl (lv_at hl 9 rfl) ?_
  refine lv_iconst (v := 3) hx hb dL_hours_288 (by decide) ?_
  refine l_call (X := 561) (K := 562) (CC := 763) (As := [.ref (gad Γ 475), .int (nI i), .int 3]) (rest := []) (st1 := [.int ((fX7_pass_L N 1) (82 + 5 * i + 3))]) hF (r_house (N := fX7_pass_L N 1) (Hy := cons N Hy) (k := kM 13 k + 1) (w := w) hst hP2 huP2 (a := (nI i)) (d := 3) (i := i) (j := 3) rfl rfl hiP2 (by decide)) (va_cwS 3 hts qL_house rfl rfl rfl (by decide +kernel) ⟨Nat.le_of_ble_eq_true rfl, Nat.le_of_ble_eq_true rfl⟩) hK hZ hX hY hG hS rfl hl.1 (Nat.le_of_ble_eq_true rfl) dL_hours_289 ⟨Nat.le_of_ble_eq_true rfl, Nat.le_of_ble_eq_true rfl⟩ (by omega) (by omega) rfl rfl (fun H locs hG hS => ?_)
  refine lv_iload hx hb dL_hours_292 (lv_at hl 4 rfl) ?_
  refine lv_iconst (v := 1) hx hb dL_hours_294 (by decide) ?_
  refine lv_iadd hx hb dL_hours_295 ?_
  refine lv_icmp_ne (tgt := 331) hx hb dL_hours_296 (by decide) (fun c_16 => absurd cN.1 c_16) (fun c_16 => ?_)
  refine lv_aload_n hx hb dL_hours_299 rfl (lv_at hl 8 rfl) ?_
  refine lv_iload_n hx hb dL_hours_300 rfl (lv_at hl 9 rfl) ?_
  refine lv_iconst (v := 4) hx hb dL_hours_301 (by decide) ?_
  refine l_call (X := 562) (K := 563) (CC := 763) (As := [.ref (gad Γ 475), .int (nI i), .int 4]) (rest := []) (st1 := [.int ((fX7_pass_L N 1) (82 + 5 * i + 4))]) hF (r_house (N := fX7_pass_L N 1) (Hy := cons N Hy) (k := kM 13 k + 1) (w := w) hst hP2 huP2 (a := (nI i)) (d := 4) (i := i) (j := 4) rfl rfl hiP2 (by decide)) (va_cwS 3 hts qL_house rfl rfl rfl (by decide +kernel) ⟨Nat.le_of_ble_eq_true rfl, Nat.le_of_ble_eq_true rfl⟩) hK hZ hX hY hG hS rfl hl.1 (Nat.le_of_ble_eq_true rfl) dL_hours_302 ⟨Nat.le_of_ble_eq_true rfl, Nat.le_of_ble_eq_true rfl⟩ (by omega) (by omega) rfl rfl (fun H locs hG hS => ?_)
  refine lv_aload_n hx hb dL_hours_305 rfl (lv_at hl 8 rfl) ?_
  refine lv_bipush (v := 7) hx hb dL_hours_306 (by decide) ?_
  refine l_call (X := 563) (K := 564) (CC := 763) (As := [.ref (gad Γ 475), .int 7]) (rest := [.int ((fX7_pass_L N 1) (82 + 5 * i + 4))]) (st1 := [.int ((fX7_pass_L N 1) 7), .int ((fX7_pass_L N 1) (82 + 5 * i + 4))]) hF (r_about (N := fX7_pass_L N 1) (Hy := cons N Hy) (k := kM 13 k + 1) (w := w) hst hP2 huP2 (a := 7) (j := 7) rfl (by decide)) (va_cwS 2 hts qL_about rfl rfl rfl (by decide +kernel) ⟨Nat.le_of_ble_eq_true rfl, Nat.le_of_ble_eq_true rfl⟩) hK hZ hX hY hG hS rfl hl.1 (Nat.le_of_ble_eq_true rfl) dL_hours_308 ⟨Nat.le_of_ble_eq_true rfl, Nat.le_of_ble_eq_true rfl⟩ (by omega) (by omega) rfl rfl (fun H locs hG hS => ?_)
  refine lv_icmp_lt (tgt := 331) hx hb dL_hours_311 (by decide) (fun c_17 => absurd c_17 cN.2) (fun c_17 => ?_)
  refine lv_aload_n hx hb dL_hours_314 rfl (lv_at hl 8 rfl) ?_
  refine lv_bipush (v := 15) hx hb dL_hours_315 (by decide) ?_
  refine lv_iconst (v := 0) hx hb dL_hours_317 (by decide) ?_
  refine lv_iconst (v := 0) hx hb dL_hours_318 (by decide) ?_
  refine lv_iconst (v := 0) hx hb dL_hours_319 (by decide) ?_
  refine lv_iconst (v := 0) hx hb dL_hours_320 (by decide) ?_
  refine l_call (X := 564) (K := 565) (CC := 763) (As := [.ref (gad Γ 475), .int 15, .int 0, .int 0, .int 0, .int 0]) (rest := []) (st1 := [.int (nI (kM 13 k))]) hF (q_undo (l := l) (Γ := Γ) (N := N) (Hy := Hy) (k := (kM 13 k)) (w := w) (P := (fX7_pass_L N 1)) hN 0 0) (va_cwS 6 hts qL_call rfl rfl rfl (by decide +kernel) ⟨Nat.le_of_ble_eq_true rfl, Nat.le_of_ble_eq_true rfl⟩) hK hZ hX hY hG hS rfl hl.1 (Nat.le_of_ble_eq_true rfl) dL_hours_321 ⟨Nat.le_of_ble_eq_true rfl, Nat.le_of_ble_eq_true rfl⟩ (by omega) (by omega) rfl rfl (fun H locs hG hS => ?_)
  refine lv_if_lt (tgt := 331) hx hb dL_hours_324 (by decide) (fun c_18 => absurd c_18 (kM_nn 13 0 k (by decide))) (fun c_18 => ?_)
  refine lv_iconst (v := 1) hx hb dL_hours_327 (by decide) ?_
  refine lv_goto (tgt := 332) hx hb dL_hours_328 (by decide) ?_
  refine lv_istore (lv' := [(11, .int 1), (10, .int (fX7_pass_L N h 10 - N 10)), (9, .int ((10 * (N 3)) + (N 4))), (8, .int (N 10)), (7, .int (N (82 + 5 * i + 3))), (6, .int 1), (5, .int (fX7_pass_L N h (82 + 5 * i + 4))), (3, .long (sumF N)), (0, .ref (gad Γ 475)), (1, .int (nI i)), (2, .int (nI h))]) hx hb dL_hours_332 hl (by decide) rfl (fun ls hl => ?_)
  refine lv_iload hx hb dL_hours_334 (lv_at hl 0 rfl) ?_
  refine lv_if_eq (tgt := 352) hx hb dL_hours_336 (by decide) (fun c_19 => absurd c_19 (by decide)) (fun c_19 => ?_)
  refine lv_aload_n hx hb dL_hours_339 rfl (lv_at hl 8 rfl) ?_
  refine l_call (X := 565) (K := 741) (CC := 763) (As := [.ref (gad Γ 475)]) (rest := []) (st1 := [.long (sumF N)]) hF (L_sum (N := N) (Hy := Hy) (k := kM 13 k) (w := w) hst hN hu0) (va_cwS 1 hts qL_sum rfl rfl rfl (by decide +kernel) ⟨Nat.le_of_ble_eq_true rfl, Nat.le_of_ble_eq_true rfl⟩) hK hZ hX hY hG hS rfl hl.1 (Nat.le_of_ble_eq_true rfl) dL_hours_340 ⟨Nat.le_of_ble_eq_true rfl, Nat.le_of_ble_eq_true rfl⟩ (by omega) (by omega) rfl rfl (fun H locs hG hS => ?_)
  refine lv_lload_n hx hb dL_hours_343 rfl (lv_at hl 7 rfl) ?_
  refine W.lcmp hx hb dL_hours_344 ?_
  refine gl_ne (tgt := 352) hx hb dL_hours_345 (by decide) (fun c_20 => absurd rfl c_20) (fun c_20 => ?_)
  refine lv_iconst (v := 1) hx hb dL_hours_348 (by decide) ?_
  refine lv_goto (tgt := 353) hx hb dL_hours_349 (by decide) ?_
  exact l_zret hx hb hrt hlocks hS hG (by decide) rfl (by omega) dL_hours_353

set_option maxHeartbeats 4000000 in
set_option maxRecDepth 100000 in
theorem L_hours_C1 {l : Launch} {Γ : gX} (hst : l.stackTraces = false) {u : Nat} {N : Nat → Int32} {Hy : Nat → Nat → Int32} {k : Nat} {w : WO} (hN : PI u N) (hu : 1998 * (u + 10000) < 2 ^ 31) (hG0 : GD N) (hk : k ≤ 14) {i h : Nat} (hi : i < (N 1).toNatClampNeg) (h1 : 1 ≤ h) (h2 : h ≤ 20) {kx : Nat} (hkx : kx = lst (CC N i) 50) (hk0 : 0 < kx) (hk5 : kx < 50) (hw : v_complainsIn N (nI i) = nI (kx + 1)) (hh : h ≤ kx) : lM l Γ yL_hours wqL_hours 13 296 763 [.ref (gad Γ 475), .int (nI i), .int (nI h)] (SH Γ N Hy k w) (some (.int 1)) (SH Γ N Hy (kM 13 k) w) := by
  refine l_start (cc := cL_hours) (maxL := 12) (ret := (some .boolean)) (by decide) rfl (Nat.le_of_ble_eq_true rfl) ?_
  intro p e s m below meth c ls hx hb hml hrt hts hown hlocks hK hZ hX hY hG hS hl
  have hl : lv_has ls 12 [(0, .ref (gad Γ 475)), (1, .int (nI i)), (2, .int (nI h))] := hl
  have hown : s.vm.findClass RL = some m.cls := hown
  have hF : CallFix p m c cL_hours 12 s _ wqL_hours RL := ⟨hx, hb, hml, hown, hts⟩
  have b1 := hN.h8.2
  have i8 : i < 8 := by omega
  have hu0 : 1998 * (u + 5000) < 2 ^ 31 := by omega
  have hP := pass_PI hN h (by omega)
  have huP : 1998 * (u + 17 * h + 5000) < 2 ^ 31 := by omega
  have hiP : i < (fX7_pass_L N h 1).toNatClampNeg := by rw [pass_hd hN (j := 1) (by decide) (by decide) h (by omega)]; exact hi
  have hgP := pass_GD hN hG0 h (by omega)
  have hP1 := pass_PI hN kx (by omega)
  have huP1 : 1998 * (u + 17 * kx + 5000) < 2 ^ 31 := by omega
  have hiP1 : i < (fX7_pass_L N kx 1).toNatClampNeg := by rw [pass_hd hN (j := 1) (by decide) (by decide) kx (by omega)]; exact hi
  have cE1 := pass_c0 hN hi (by omega) kx (by omega)
  have hP2 := pass_PI hN (kx + 1) (by omega)
  have huP2 : 1998 * (u + 17 * (kx + 1) + 5000) < 2 ^ 31 := by omega
  have hiP2 : i < (fX7_pass_L N (kx + 1) 1).toNatClampNeg := by rw [pass_hd hN (j := 1) (by decide) (by decide) (kx + 1) (by omega)]; exact hi
  have cN : fX7_pass_L N (kx + 1) (82 + 5 * i + 3) = N (82 + 5 * i + 3) + 1 ∧ ¬ fX7_pass_L N (kx + 1) (82 + 5 * i + 4) < fX7_pass_L N (kx + 1) 7 := by
    have c := pass_c1 hN hi (by omega) (by omega)
    rw [← hkx] at c
    rw [pass_hd hN (j := 7) (by decide) (by decide) _ (by omega)]
    exact c
  have c10 : (N 10).toNatClampNeg < (fX7_pass_L N (kx + 1) 10).toNatClampNeg := by
    have c := pass_10s hN hi (by omega) (by omega)
    rw [← hkx] at c
    exact c
  have cE := pass_c0 hN hi (by omega) h (by omega)
  refine lv_aload_n hx hb dL_hours_0 rfl (lv_at hl 0 rfl) ?_
  refine l_call (X := 0) (K := 176) (CC := 763) (As := [.ref (gad Γ 475)]) (rest := []) (st1 := [.long (sumF N)]) hF (L_sum (N := N) (Hy := Hy) (k := k) (w := w) hst hN hu0) (va_cwS 1 hts qL_sum rfl rfl rfl (by decide +kernel) ⟨Nat.le_of_ble_eq_true rfl, Nat.le_of_ble_eq_true rfl⟩) hK hZ hX hY hG hS rfl hl.1 (Nat.le_of_ble_eq_true rfl) dL_hours_1 ⟨Nat.le_of_ble_eq_true rfl, Nat.le_of_ble_eq_true rfl⟩ (by omega) (by omega) rfl rfl (fun H locs hG hS => ?_)
  refine lv_lstore_n (lv' := [(3, .long (sumF N)), (0, .ref (gad Γ 475)), (1, .int (nI i)), (2, .int (nI h))]) hx hb dL_hours_4 rfl hl (by decide) rfl (fun ls hl => ?_)
  refine lv_aload_n hx hb dL_hours_5 rfl (lv_at hl 1 rfl) ?_
  refine lv_bipush (v := 17) hx hb dL_hours_6 (by decide) ?_
  refine lv_iload_n hx hb dL_hours_8 rfl (lv_at hl 2 rfl) ?_
  refine lv_iload_n hx hb dL_hours_9 rfl (lv_at hl 3 rfl) ?_
  refine lv_iconst (v := 0) hx hb dL_hours_10 (by decide) ?_
  refine lv_iconst (v := 0) hx hb dL_hours_11 (by decide) ?_
  refine l_call (X := 176) (K := 177) (CC := 763) (As := [.ref (gad Γ 475), .int 17, .int (nI i), .int (nI h), .int 0, .int 0]) (rest := []) (st1 := [.int (fX7_pass_L N h (82 + 5 * i + 4))]) hF (q_ahead (l := l) (Γ := Γ) (N := N) (Hy := Hy) (k := k) (w := w) hst hN hu0 (a := (nI i)) (d := (nI h)) rfl rfl hi h1 h2) (va_cwS 6 hts qL_call rfl rfl rfl (by decide +kernel) ⟨Nat.le_of_ble_eq_true rfl, Nat.le_of_ble_eq_true rfl⟩) hK hZ hX hY hG hS rfl hl.1 (Nat.le_of_ble_eq_true rfl) dL_hours_12 ⟨Nat.le_of_ble_eq_true rfl, Nat.le_of_ble_eq_true rfl⟩ (by omega) (by omega) rfl rfl (fun H locs hG hS => ?_)
  refine lv_istore (lv' := [(5, .int (fX7_pass_L N h (82 + 5 * i + 4))), (3, .long (sumF N)), (0, .ref (gad Γ 475)), (1, .int (nI i)), (2, .int (nI h))]) hx hb dL_hours_15 hl (by decide) rfl (fun ls hl => ?_)
  refine lv_aload_n hx hb dL_hours_17 rfl (lv_at hl 2 rfl) ?_
  refine lv_bipush (v := 21) hx hb dL_hours_18 (by decide) ?_
  refine lv_iload_n hx hb dL_hours_20 rfl (lv_at hl 3 rfl) ?_
  refine lv_iconst (v := 0) hx hb dL_hours_21 (by decide) ?_
  refine lv_iconst (v := 0) hx hb dL_hours_22 (by decide) ?_
  refine lv_iconst (v := 0) hx hb dL_hours_23 (by decide) ?_
  refine l_call (X := 177) (K := 178) (CC := 763) (As := [.ref (gad Γ 475), .int 21, .int (nI i), .int 0, .int 0, .int 0]) (rest := []) (st1 := [.int (v_complainsIn N (nI i))]) hF (q_when (l := l) (Γ := Γ) (N := N) (Hy := Hy) (k := k) (w := w) hst hN hu0 (a := (nI i)) rfl 0 hi) (va_cwS 6 hts qL_call rfl rfl rfl (by decide +kernel) ⟨Nat.le_of_ble_eq_true rfl, Nat.le_of_ble_eq_true rfl⟩) hK hZ hX hY hG hS rfl hl.1 (Nat.le_of_ble_eq_true rfl) dL_hours_24 ⟨Nat.le_of_ble_eq_true rfl, Nat.le_of_ble_eq_true rfl⟩ (by omega) (by omega) rfl rfl (fun H locs hG hS => ?_)
  refine g_top (y := (nI (kx + 1))) hw ?_
  refine lv_istore (lv' := [(6, .int (nI (kx + 1))), (5, .int (fX7_pass_L N h (82 + 5 * i + 4))), (3, .long (sumF N)), (0, .ref (gad Γ 475)), (1, .int (nI i)), (2, .int (nI h))]) hx hb dL_hours_27 hl (by decide) rfl (fun ls hl => ?_)
  refine lv_aload_n hx hb dL_hours_29 rfl (lv_at hl 3 rfl) ?_
  refine lv_iload_n hx hb dL_hours_30 rfl (lv_at hl 4 rfl) ?_
  refine lv_iconst (v := 3) hx hb dL_hours_31 (by decide) ?_
  refine l_call (X := 178) (K := 179) (CC := 763) (As := [.ref (gad Γ 475), .int (nI i), .int 3]) (rest := []) (st1 := [.int (N (82 + 5 * i + 3))]) hF (r_house (N := N) (Hy := Hy) (k := k) (w := w) hst hN hu0 (a := (nI i)) (d := 3) (i := i) (j := 3) rfl rfl hi (by decide)) (va_cwS 3 hts qL_house rfl rfl rfl (by decide +kernel) ⟨Nat.le_of_ble_eq_true rfl, Nat.le_of_ble_eq_true rfl⟩) hK hZ hX hY hG hS rfl hl.1 (Nat.le_of_ble_eq_true rfl) dL_hours_32 ⟨Nat.le_of_ble_eq_true rfl, Nat.le_of_ble_eq_true rfl⟩ (by omega) (by omega) rfl rfl (fun H locs hG hS => ?_)
  refine lv_istore (lv' := [(7, .int (N (82 + 5 * i + 3))), (6, .int (nI (kx + 1))), (5, .int (fX7_pass_L N h (82 + 5 * i + 4))), (3, .long (sumF N)), (0, .ref (gad Γ 475)), (1, .int (nI i)), (2, .int (nI h))]) hx hb dL_hours_35 hl (by decide) rfl (fun ls hl => ?_)
  refine lv_aload_n hx hb dL_hours_37 rfl (lv_at hl 4 rfl) ?_
  refine lv_bipush (v := 10) hx hb dL_hours_38 (by decide) ?_
  refine l_call (X := 179) (K := 180) (CC := 763) (As := [.ref (gad Γ 475), .int 10]) (rest := []) (st1 := [.int (N 10)]) hF (r_about (N := N) (Hy := Hy) (k := k) (w := w) hst hN hu0 (a := 10) (j := 10) rfl (by decide)) (va_cwS 2 hts qL_about rfl rfl rfl (by decide +kernel) ⟨Nat.le_of_ble_eq_true rfl, Nat.le_of_ble_eq_true rfl⟩) hK hZ hX hY hG hS rfl hl.1 (Nat.le_of_ble_eq_true rfl) dL_hours_40 ⟨Nat.le_of_ble_eq_true rfl, Nat.le_of_ble_eq_true rfl⟩ (by omega) (by omega) rfl rfl (fun H locs hG hS => ?_)
  refine lv_istore (lv' := [(8, .int (N 10)), (7, .int (N (82 + 5 * i + 3))), (6, .int (nI (kx + 1))), (5, .int (fX7_pass_L N h (82 + 5 * i + 4))), (3, .long (sumF N)), (0, .ref (gad Γ 475)), (1, .int (nI i)), (2, .int (nI h))]) hx hb dL_hours_43 hl (by decide) rfl (fun ls hl => ?_)
  refine lv_bipush (v := 10) hx hb dL_hours_45 (by decide) ?_
  refine lv_aload_n hx hb dL_hours_47 rfl (lv_at hl 5 rfl) ?_
  refine lv_iconst (v := 3) hx hb dL_hours_48 (by decide) ?_
  refine l_call (X := 180) (K := 181) (CC := 763) (As := [.ref (gad Γ 475), .int 3]) (rest := [.int 10]) (st1 := [.int (N 3), .int 10]) hF (r_about (N := N) (Hy := Hy) (k := k) (w := w) hst hN hu0 (a := 3) (j := 3) rfl (by decide)) (va_cwS 2 hts qL_about rfl rfl rfl (by decide +kernel) ⟨Nat.le_of_ble_eq_true rfl, Nat.le_of_ble_eq_true rfl⟩) hK hZ hX hY hG hS rfl hl.1 (Nat.le_of_ble_eq_true rfl) dL_hours_49 ⟨Nat.le_of_ble_eq_true rfl, Nat.le_of_ble_eq_true rfl⟩ (by omega) (by omega) rfl rfl (fun H locs hG hS => ?_)
  refine lv_imul hx hb dL_hours_52 ?_
  refine lv_aload_n hx hb dL_hours_53 rfl (lv_at hl 5 rfl) ?_
  refine lv_iconst (v := 4) hx hb dL_hours_54 (by decide) ?_
  refine l_call (X := 181) (K := 182) (CC := 763) (As := [.ref (gad Γ 475), .int 4]) (rest := [.int (10 * (N 3))]) (st1 := [.int (N 4), .int (10 * (N 3))]) hF (r_about (N := N) (Hy := Hy) (k := k) (w := w) hst hN hu0 (a := 4) (j := 4) rfl (by decide)) (va_cwS 2 hts qL_about rfl rfl rfl (by decide +kernel) ⟨Nat.le_of_ble_eq_true rfl, Nat.le_of_ble_eq_true rfl⟩) hK hZ hX hY hG hS rfl hl.1 (Nat.le_of_ble_eq_true rfl) dL_hours_55 ⟨Nat.le_of_ble_eq_true rfl, Nat.le_of_ble_eq_true rfl⟩ (by omega) (by omega) rfl rfl (fun H locs hG hS => ?_)
  refine lv_iadd hx hb dL_hours_58 ?_
  refine lv_istore (lv' := [(9, .int ((10 * (N 3)) + (N 4))), (8, .int (N 10)), (7, .int (N (82 + 5 * i + 3))), (6, .int (nI (kx + 1))), (5, .int (fX7_pass_L N h (82 + 5 * i + 4))), (3, .long (sumF N)), (0, .ref (gad Γ 475)), (1, .int (nI i)), (2, .int (nI h))]) hx hb dL_hours_59 hl (by decide) rfl (fun ls hl => ?_)
  refine lv_aload_n hx hb dL_hours_61 rfl (lv_at hl 6 rfl) ?_
  refine lv_bipush (v := 14) hx hb dL_hours_62 (by decide) ?_
  refine lv_iload_n hx hb dL_hours_64 rfl (lv_at hl 8 rfl) ?_
  refine lv_iconst (v := 0) hx hb dL_hours_65 (by decide) ?_
  refine lv_iconst (v := 0) hx hb dL_hours_66 (by decide) ?_
  refine lv_iconst (v := 0) hx hb dL_hours_67 (by decide) ?_
  refine l_call (X := 182) (K := 183) (CC := 763) (As := [.ref (gad Γ 475), .int 14, .int (nI h), .int 0, .int 0, .int 0]) (rest := []) (st1 := [.int (fX7_pass_L N h 10 - N 10)]) hF (q_pass (l := l) (Γ := Γ) (N := N) (Hy := Hy) (k := k) (w := w) hst hN hu0 (a := (nI h)) (h := h) rfl 0 h1 (by omega) (kN_0 hk)) (va_cwS 6 hts qL_call rfl rfl rfl (by decide +kernel) ⟨Nat.le_of_ble_eq_true rfl, Nat.le_of_ble_eq_true rfl⟩) hK hZ hX hY hG hS rfl hl.1 (Nat.le_of_ble_eq_true rfl) dL_hours_68 ⟨Nat.le_of_ble_eq_true rfl, Nat.le_of_ble_eq_true rfl⟩ (by omega) (by omega) rfl rfl (fun H locs hG hS => ?_)
  refine lv_istore (lv' := [(10, .int (fX7_pass_L N h 10 - N 10)), (9, .int ((10 * (N 3)) + (N 4))), (8, .int (N 10)), (7, .int (N (82 + 5 * i + 3))), (6, .int (nI (kx + 1))), (5, .int (fX7_pass_L N h (82 + 5 * i + 4))), (3, .long (sumF N)), (0, .ref (gad Γ 475)), (1, .int (nI i)), (2, .int (nI h))]) hx hb dL_hours_71 hl (by decide) rfl (fun ls hl => ?_)
  refine lv_aload_n hx hb dL_hours_73 rfl (lv_at hl 7 rfl) ?_
  refine lv_iload_n hx hb dL_hours_74 rfl (lv_at hl 8 rfl) ?_
  refine lv_iconst (v := 4) hx hb dL_hours_75 (by decide) ?_
  refine l_call (X := 183) (K := 184) (CC := 763) (As := [.ref (gad Γ 475), .int (nI i), .int 4]) (rest := []) (st1 := [.int ((fX7_pass_L N h) (82 + 5 * i + 4))]) hF (r_house (N := fX7_pass_L N h) (Hy := cons N Hy) (k := kM 13 k + 1) (w := w) hst hP huP (a := (nI i)) (d := 4) (i := i) (j := 4) rfl rfl hiP (by decide)) (va_cwS 3 hts qL_house rfl rfl rfl (by decide +kernel) ⟨Nat.le_of_ble_eq_true rfl, Nat.le_of_ble_eq_true rfl⟩) hK hZ hX hY hG hS rfl hl.1 (Nat.le_of_ble_eq_true rfl) dL_hours_76 ⟨Nat.le_of_ble_eq_true rfl, Nat.le_of_ble_eq_true rfl⟩ (by omega) (by omega) rfl rfl (fun H locs hG hS => ?_)
  refine lv_iload hx hb dL_hours_79 (lv_at hl 5 rfl) ?_
  refine lv_icmp_ne (tgt := 167) hx hb dL_hours_81 (by decide) (fun c_1 => absurd rfl c_1) (fun c_1 => ?_)
  refine lv_iload hx hb dL_hours_84 (lv_at hl 0 rfl) ?_
  refine lv_aload_n hx hb dL_hours_86 rfl (lv_at hl 7 rfl) ?_
  refine lv_bipush (v := 10) hx hb dL_hours_87 (by decide) ?_
  refine l_call (X := 184) (K := 185) (CC := 763) (As := [.ref (gad Γ 475), .int 10]) (rest := [.int (fX7_pass_L N h 10 - N 10)]) (st1 := [.int ((fX7_pass_L N h) 10), .int (fX7_pass_L N h 10 - N 10)]) hF (r_about (N := fX7_pass_L N h) (Hy := cons N Hy) (k := kM 13 k + 1) (w := w) hst hP huP (a := 10) (j := 10) rfl (by decide)) (va_cwS 2 hts qL_about rfl rfl rfl (by decide +kernel) ⟨Nat.le_of_ble_eq_true rfl, Nat.le_of_ble_eq_true rfl⟩) hK hZ hX hY hG hS rfl hl.1 (Nat.le_of_ble_eq_true rfl) dL_hours_89 ⟨Nat.le_of_ble_eq_true rfl, Nat.le_of_ble_eq_true rfl⟩ (by omega) (by omega) rfl rfl (fun H locs hG hS => ?_)
  refine lv_iload hx hb dL_hours_92 (lv_at hl 2 rfl) ?_
  refine lv_isub hx hb dL_hours_94 ?_
  refine lv_icmp_ne (tgt := 167) hx hb dL_hours_95 (by decide) (fun c_2 => absurd rfl c_2) (fun c_2 => ?_)
  refine lv_aload_n hx hb dL_hours_98 rfl (lv_at hl 7 rfl) ?_
  refine lv_iload_n hx hb dL_hours_99 rfl (lv_at hl 8 rfl) ?_
  refine lv_iconst (v := 3) hx hb dL_hours_100 (by decide) ?_
  refine l_call (X := 185) (K := 186) (CC := 763) (As := [.ref (gad Γ 475), .int (nI i), .int 3]) (rest := []) (st1 := [.int ((fX7_pass_L N h) (82 + 5 * i + 3))]) hF (r_house (N := fX7_pass_L N h) (Hy := cons N Hy) (k := kM 13 k + 1) (w := w) hst hP huP (a := (nI i)) (d := 3) (i := i) (j := 3) rfl rfl hiP (by decide)) (va_cwS 3 hts qL_house rfl rfl rfl (by decide +kernel) ⟨Nat.le_of_ble_eq_true rfl, Nat.le_of_ble_eq_true rfl⟩) hK hZ hX hY hG hS rfl hl.1 (Nat.le_of_ble_eq_true rfl) dL_hours_101 ⟨Nat.le_of_ble_eq_true rfl, Nat.le_of_ble_eq_true rfl⟩ (by omega) (by omega) rfl rfl (fun H locs hG hS => ?_)
  refine lv_iload hx hb dL_hours_104 (lv_at hl 3 rfl) ?_
  refine lv_icmp_le (tgt := 113) hx hb dL_hours_106 (by decide) (fun c_3 => ?_) (fun c_3 => absurd (le_of_eq32 cE) c_3)
  refine lv_iconst (v := 0) hx hb dL_hours_113 (by decide) ?_
  refine lv_iload hx hb dL_hours_114 (lv_at hl 4 rfl) ?_
  refine lv_bipush (v := (-9)) hx hb dL_hours_116 (by decide) ?_
  refine lv_icmp_eq (tgt := 131) hx hb dL_hours_118 (by decide) (fun c_4 => absurd c_4 (kx_m9 (by omega))) (fun c_4 => ?_)
  refine lv_iload hx hb dL_hours_121 (lv_at hl 4 rfl) ?_
  refine lv_iload_n hx hb dL_hours_123 rfl (lv_at hl 9 rfl) ?_
  refine lv_icmp_gt (tgt := 131) hx hb dL_hours_124 (by decide) (fun c_5 => ?_) (fun c_5 => absurd (nI_lt (a := h) (b := kx + 1) (by omega) (by omega)) c_5)
  refine lv_iconst (v := 0) hx hb dL_hours_131 (by decide) ?_
  refine lv_icmp_ne (tgt := 167) hx hb dL_hours_132 (by decide) (fun c_6 => absurd (by decide) c_6) (fun c_6 => ?_)
  refine lv_bipush (v := 10) hx hb dL_hours_135 (by decide) ?_
  refine lv_aload_n hx hb dL_hours_137 rfl (lv_at hl 7 rfl) ?_
  refine lv_iconst (v := 3) hx hb dL_hours_138 (by decide) ?_
  refine l_call (X := 186) (K := 187) (CC := 763) (As := [.ref (gad Γ 475), .int 3]) (rest := [.int 10]) (st1 := [.int ((fX7_pass_L N h) 3), .int 10]) hF (r_about (N := fX7_pass_L N h) (Hy := cons N Hy) (k := kM 13 k + 1) (w := w) hst hP huP (a := 3) (j := 3) rfl (by decide)) (va_cwS 2 hts qL_about rfl rfl rfl (by decide +kernel) ⟨Nat.le_of_ble_eq_true rfl, Nat.le_of_ble_eq_true rfl⟩) hK hZ hX hY hG hS rfl hl.1 (Nat.le_of_ble_eq_true rfl) dL_hours_139 ⟨Nat.le_of_ble_eq_true rfl, Nat.le_of_ble_eq_true rfl⟩ (by omega) (by omega) rfl rfl (fun H locs hG hS => ?_)
  refine lv_imul hx hb dL_hours_142 ?_
  refine lv_aload_n hx hb dL_hours_143 rfl (lv_at hl 7 rfl) ?_
  refine lv_iconst (v := 4) hx hb dL_hours_144 (by decide) ?_
  refine l_call (X := 187) (K := 188) (CC := 763) (As := [.ref (gad Γ 475), .int 4]) (rest := [.int (10 * ((fX7_pass_L N h) 3))]) (st1 := [.int ((fX7_pass_L N h) 4), .int (10 * ((fX7_pass_L N h) 3))]) hF (r_about (N := fX7_pass_L N h) (Hy := cons N Hy) (k := kM 13 k + 1) (w := w) hst hP huP (a := 4) (j := 4) rfl (by decide)) (va_cwS 2 hts qL_about rfl rfl rfl (by decide +kernel) ⟨Nat.le_of_ble_eq_true rfl, Nat.le_of_ble_eq_true rfl⟩) hK hZ hX hY hG hS rfl hl.1 (Nat.le_of_ble_eq_true rfl) dL_hours_145 ⟨Nat.le_of_ble_eq_true rfl, Nat.le_of_ble_eq_true rfl⟩ (by omega) (by omega) rfl rfl (fun H locs hG hS => ?_)
  refine lv_iadd hx hb dL_hours_148 ?_
  refine lv_iload hx hb dL_hours_149 (lv_at hl 1 rfl) ?_
  refine lv_iload_n hx hb dL_hours_151 rfl (lv_at hl 9 rfl) ?_
  refine lv_iadd hx hb dL_hours_152 ?_
  refine lv_icmp_ne (tgt := 167) hx hb dL_hours_153 (by decide) (fun c_7 => absurd (pass_time hN h (by omega)) c_7) (fun c_7 => ?_)
  refine lv_aload_n hx hb dL_hours_156 rfl (lv_at hl 7 rfl) ?_
  refine l_call (X := 188) (K := 383) (CC := 763) (As := [.ref (gad Γ 475)]) (rest := []) (st1 := [.int 1]) hF (L_numbers (N := fX7_pass_L N h) (Hy := cons N Hy) (k := kM 13 k + 1) (w := w) hst hP huP hgP) (va_cwS 1 hts qL_numbers rfl rfl rfl (by decide +kernel) ⟨Nat.le_of_ble_eq_true rfl, Nat.le_of_ble_eq_true rfl⟩) hK hZ hX hY hG hS rfl hl.1 (Nat.le_of_ble_eq_true rfl) dL_hours_157 ⟨Nat.le_of_ble_eq_true rfl, Nat.le_of_ble_eq_true rfl⟩ (by omega) (by omega) rfl rfl (fun H locs hG hS => ?_)
  refine lv_if_eq (tgt := 167) hx hb dL_hours_160 (by decide) (fun c_8 => absurd c_8 (by decide)) (fun c_8 => ?_)
  refine lv_iconst (v := 1) hx hb dL_hours_163 (by decide) ?_
  refine lv_goto (tgt := 168) hx hb dL_hours_164 (by decide) ?_
  refine lv_istore (lv' := [(11, .int 1), (10, .int (fX7_pass_L N h 10 - N 10)), (9, .int ((10 * (N 3)) + (N 4))), (8, .int (N 10)), (7, .int (N (82 + 5 * i + 3))), (6, .int (nI (kx + 1))), (5, .int (fX7_pass_L N h (82 + 5 * i + 4))), (3, .long (sumF N)), (0, .ref (gad Γ 475)), (1, .int (nI i)), (2, .int (nI h))]) hx hb dL_hours_168 hl (by decide) rfl (fun ls hl => ?_)
  refine lv_iload hx hb dL_hours_170 (lv_at hl 0 rfl) ?_
  refine lv_aload_n hx hb dL_hours_172 rfl (lv_at hl 8 rfl) ?_
  refine lv_bipush (v := 15) hx hb dL_hours_173 (by decide) ?_
  refine lv_iconst (v := 0) hx hb dL_hours_175 (by decide) ?_
  refine lv_iconst (v := 0) hx hb dL_hours_176 (by decide) ?_
  refine lv_iconst (v := 0) hx hb dL_hours_177 (by decide) ?_
  refine lv_iconst (v := 0) hx hb dL_hours_178 (by decide) ?_
  refine l_call (X := 383) (K := 384) (CC := 763) (As := [.ref (gad Γ 475), .int 15, .int 0, .int 0, .int 0, .int 0]) (rest := [.int 1]) (st1 := [.int (nI (kM 13 k)), .int 1]) hF (q_undo (l := l) (Γ := Γ) (N := N) (Hy := Hy) (k := (kM 13 k)) (w := w) (P := (fX7_pass_L N h)) hN 0 0) (va_cwS 6 hts qL_call rfl rfl rfl (by decide +kernel) ⟨Nat.le_of_ble_eq_true rfl, Nat.le_of_ble_eq_true rfl⟩) hK hZ hX hY hG hS rfl hl.1 (Nat.le_of_ble_eq_true rfl) dL_hours_179 ⟨Nat.le_of_ble_eq_true rfl, Nat.le_of_ble_eq_true rfl⟩ (by omega) (by omega) rfl rfl (fun H locs hG hS => ?_)
  refine lv_if_lt (tgt := 198) hx hb dL_hours_182 (by decide) (fun c_9 => absurd c_9 (kM_nn 13 0 k (by decide))) (fun c_9 => ?_)
  refine lv_aload_n hx hb dL_hours_185 rfl (lv_at hl 8 rfl) ?_
  refine l_call (X := 384) (K := 560) (CC := 763) (As := [.ref (gad Γ 475)]) (rest := [.int 1]) (st1 := [.long (sumF N), .int 1]) hF (L_sum (N := N) (Hy := Hy) (k := kM 13 k) (w := w) hst hN hu0) (va_cwS 1 hts qL_sum rfl rfl rfl (by decide +kernel) ⟨Nat.le_of_ble_eq_true rfl, Nat.le_of_ble_eq_true rfl⟩) hK hZ hX hY hG hS rfl hl.1 (Nat.le_of_ble_eq_true rfl) dL_hours_186 ⟨Nat.le_of_ble_eq_true rfl, Nat.le_of_ble_eq_true rfl⟩ (by omega) (by omega) rfl rfl (fun H locs hG hS => ?_)
  refine lv_lload_n hx hb dL_hours_189 rfl (lv_at hl 7 rfl) ?_
  refine W.lcmp hx hb dL_hours_190 ?_
  refine gl_ne (tgt := 198) hx hb dL_hours_191 (by decide) (fun c_10 => absurd rfl c_10) (fun c_10 => ?_)
  refine lv_iconst (v := 1) hx hb dL_hours_194 (by decide) ?_
  refine lv_goto (tgt := 199) hx hb dL_hours_195 (by decide) ?_
  refine lv_iand hx hb dL_hours_199 ?_
  refine g_top (y := 1) (show (1 &&& 1 : Int32) = 1 from rfl) ?_
  refine lv_istore (lv' := [(11, .int 1), (10, .int (fX7_pass_L N h 10 - N 10)), (9, .int ((10 * (N 3)) + (N 4))), (8, .int (N 10)), (7, .int (N (82 + 5 * i + 3))), (6, .int (nI (kx + 1))), (5, .int (fX7_pass_L N h (82 + 5 * i + 4))), (3, .long (sumF N)), (0, .ref (gad Γ 475)), (1, .int (nI i)), (2, .int (nI h))]) hx hb dL_hours_200 hl (by decide) rfl (fun ls hl => ?_)
  refine lv_iload hx hb dL_hours_202 (lv_at hl 5 rfl) ?_
  refine lv_bipush (v := (-9)) hx hb dL_hours_204 (by decide) ?_
  refine lv_icmp_eq (tgt := 334) hx hb dL_hours_206 (by decide) (fun c_11 => absurd c_11 (kx_m9 (by omega))) (fun c_11 => ?_)
  refine lv_iload hx hb dL_hours_209 (lv_at hl 0 rfl) ?_
  refine lv_if_eq (tgt := 334) hx hb dL_hours_211 (by decide) (fun c_12 => absurd c_12 (by decide)) (fun c_12 => ?_)
  refine lv_iload hx hb dL_hours_214 (lv_at hl 5 rfl) ?_
  refine lv_iconst (v := 1) hx hb dL_hours_216 (by decide) ?_
  refine lv_icmp_le (tgt := 267) hx hb dL_hours_217 (by decide) (fun c_13 => absurd c_13 (nI_ge (a := 1) (b := kx + 1) (by omega) (by omega))) (fun c_13 => ?_)
  refine lv_aload_n hx hb dL_hours_220 rfl (lv_at hl 8 rfl) ?_
  refine lv_bipush (v := 14) hx hb dL_hours_221 (by decide) ?_
  refine lv_iload hx hb dL_hours_223 (lv_at hl 5 rfl) ?_
  refine lv_iconst (v := 1) hx hb dL_hours_225 (by decide) ?_
  refine lv_isub hx hb dL_hours_226 ?_
  refine g_top (y := (nI kx)) (nI_pred kx) ?_
  refine lv_iconst (v := 0) hx hb dL_hours_227 (by decide) ?_
  refine lv_iconst (v := 0) hx hb dL_hours_228 (by decide) ?_
  refine lv_iconst (v := 0) hx hb dL_hours_229 (by decide) ?_
  refine l_call (X := 560) (K := 561) (CC := 763) (As := [.ref (gad Γ 475), .int 14, .int (nI kx), .int 0, .int 0, .int 0]) (rest := []) (st1 := [.int (fX7_pass_L N kx 10 - N 10)]) hF (q_pass (l := l) (Γ := Γ) (N := N) (Hy := Hy) (k := kM 13 k) (w := w) hst hN hu0 (a := (nI kx)) (h := kx) rfl 0 (by omega) (by omega) (kN_M (d := 13) (d' := 13) (n := 0) (k := k) (by decide) (by decide) (by decide))) (va_cwS 6 hts qL_call rfl rfl rfl (by decide +kernel) ⟨Nat.le_of_ble_eq_true rfl, Nat.le_of_ble_eq_true rfl⟩) hK hZ hX hY hG hS rfl hl.1 (Nat.le_of_ble_eq_true rfl) dL_hours_230 ⟨Nat.le_of_ble_eq_true rfl, Nat.le_of_ble_eq_true rfl⟩ (by omega) (by omega) rfl rfl (fun H locs hG hS => ?_)
  refine lv_if_lt (tgt := 264) hx hb dL_hours_233 (by decide) (fun c_14 => absurd c_14 (sub_nneg (hP1.n10) (hN.n10) (by omega) (pass_10 hN kx (by omega)).1)) (fun c_14 => ?_)
  refine lv_aload_n hx hb dL_hours_236 rfl (lv_at hl 8 rfl) ?_
  refine lv_iload_n hx hb dL_hours_237 rfl (lv_at hl 9 rfl) ?_
  refine lv_iconst (v := 3) hx hb dL_hours_238 (by decide) ?_
  refine l_call (X := 561) (K := 562) (CC := 763) (As := [.ref (gad Γ 475), .int (nI i), .int 3]) (rest := []) (st1 := [.int ((fX7_pass_L N kx) (82 + 5 * i + 3))]) hF (r_house (N := fX7_pass_L N kx) (Hy := cons N Hy) (k := kM 13 k + 1) (w := w) hst hP1 huP1 (a := (nI i)) (d := 3) (i := i) (j := 3) rfl rfl hiP1 (by decide)) (va_cwS 3 hts qL_house rfl rfl rfl (by decide +kernel) ⟨Nat.le_of_ble_eq_true rfl, Nat.le_of_ble_eq_true rfl⟩) hK hZ hX hY hG hS rfl hl.1 (Nat.le_of_ble_eq_true rfl) dL_hours_239 ⟨Nat.le_of_ble_eq_true rfl, Nat.le_of_ble_eq_true rfl⟩ (by omega) (by omega) rfl rfl (fun H locs hG hS => ?_)
  refine lv_iload hx hb dL_hours_242 (lv_at hl 4 rfl) ?_
  refine lv_icmp_ne (tgt := 264) hx hb dL_hours_244 (by decide) (fun c_15 => absurd cE1 c_15) (fun c_15 => ?_)
  refine lv_aload_n hx hb dL_hours_247 rfl (lv_at hl 8 rfl) ?_
  refine lv_bipush (v := 15) hx hb dL_hours_248 (by decide) ?_
  refine lv_iconst (v := 0) hx hb dL_hours_250 (by decide) ?_
  refine lv_iconst (v := 0) hx hb dL_hours_251 (by decide) ?_
  refine lv_iconst (v := 0) hx hb dL_hours_252 (by decide) ?_
  refine lv_iconst (v := 0) hx hb dL_hours_253 (by decide) ?_
  refine l_call (X := 562) (K := 563) (CC := 763) (As := [.ref (gad Γ 475), .int 15, .int 0, .int 0, .int 0, .int 0]) (rest := []) (st1 := [.int (nI (kM 13 k))]) hF (q_undo (l := l) (Γ := Γ) (N := N) (Hy := Hy) (k := (kM 13 k)) (w := w) (P := (fX7_pass_L N kx)) hN 0 0) (va_cwS 6 hts qL_call rfl rfl rfl (by decide +kernel) ⟨Nat.le_of_ble_eq_true rfl, Nat.le_of_ble_eq_true rfl⟩) hK hZ hX hY hG hS rfl hl.1 (Nat.le_of_ble_eq_true rfl) dL_hours_254 ⟨Nat.le_of_ble_eq_true rfl, Nat.le_of_ble_eq_true rfl⟩ (by omega) (by omega) rfl rfl (fun H locs hG hS => ?_)
  refine lv_if_lt (tgt := 264) hx hb dL_hours_257 (by decide) (fun c_16 => absurd c_16 (kM_nn 13 0 k (by decide))) (fun c_16 => ?_)
  refine lv_iconst (v := 1) hx hb dL_hours_260 (by decide) ?_
  refine lv_goto (tgt := 265) hx hb dL_hours_261 (by decide) ?_
  refine lv_istore (lv' := [(11, .int 1), (10, .int (fX7_pass_L N h 10 - N 10)), (9, .int ((10 * (N 3)) + (N 4))), (8, .int (N 10)), (7, .int (N (82 + 5 * i + 3))), (6, .int (nI (kx + 1))), (5, .int (fX7_pass_L N h (82 + 5 * i + 4))), (3, .long (sumF N)), (0, .ref (gad Γ 475)), (1, .int (nI i)), (2, .int (nI h))]) hx hb dL_hours_265 hl (by decide) rfl (fun ls hl => ?_)
  refine lv_iload hx hb dL_hours_267 (lv_at hl 0 rfl) ?_
  refine lv_if_eq (tgt := 331) hx hb dL_hours_269 (by decide) (fun c_17 => absurd c_17 (by decide)) (fun c_17 => ?_)
  refine lv_aload_n hx hb dL_hours_272 rfl (lv_at hl 8 rfl) ?_
  refine lv_bipush (v := 14) hx hb dL_hours_273 (by decide) ?_
  refine lv_iload hx hb dL_hours_275 (lv_at hl 5 rfl) ?_
  refine lv_iconst (v := 0) hx hb dL_hours_277 (by decide) ?_
  refine lv_iconst (v := 0) hx hb dL_hours_278 (by decide) ?_
  refine lv_iconst (v := 0) hx hb dL_hours_279 (by decide) ?_
  refine l_call (X := 563) (K := 564) (CC := 763) (As := [.ref (gad Γ 475), .int 14, .int (nI (kx + 1)), .int 0, .int 0, .int 0]) (rest := []) (st1 := [.int (fX7_pass_L N (kx + 1) 10 - N 10)]) hF (q_pass (l := l) (Γ := Γ) (N := N) (Hy := Hy) (k := kM 13 k) (w := w) hst hN hu0 (a := (nI (kx + 1))) (h := kx + 1) rfl 0 (by omega) (by omega) (kN_M (d := 13) (d' := 13) (n := 0) (k := k) (by decide) (by decide) (by decide))) (va_cwS 6 hts qL_call rfl rfl rfl (by decide +kernel) ⟨Nat.le_of_ble_eq_true rfl, Nat.le_of_ble_eq_true rfl⟩) hK hZ hX hY hG hS rfl hl.1 (Nat.le_of_ble_eq_true rfl) dL_hours_280 ⟨Nat.le_of_ble_eq_true rfl, Nat.le_of_ble_eq_true rfl⟩ (by omega) (by omega) rfl rfl (fun H locs hG hS => ?_)
  refine lv_if_le (tgt := 331) hx hb dL_hours_283 (by decide) (fun c_18 => absurd c_18 ((sub_pos (hP2.n10) (hN.n10) (by omega) c10).1)) (fun c_18 => ?_)
  refine lv_aload_n hx hb dL_hours_286 rfl (lv_at hl 8 rfl) ?_
  refine lv_iload_n hx hb dL_hours_287 rfl (lv_at hl 9 rfl) ?_
  refine lv_iconst (v := 3) hx hb dL_hours_288 (by decide) ?_
  refine l_call (X := 564) (K := 565) (CC := 763) (As := [.ref (gad Γ 475), .int (nI i), .int 3]) (rest := []) (st1 := [.int ((fX7_pass_L N (kx + 1)) (82 + 5 * i + 3))]) hF (r_house (N := fX7_pass_L N (kx + 1)) (Hy := cons N Hy) (k := kM 13 k + 1) (w := w) hst hP2 huP2 (a := (nI i)) (d := 3) (i := i) (j := 3) rfl rfl hiP2 (by decide)) (va_cwS 3 hts qL_house rfl rfl rfl (by decide +kernel) ⟨Nat.le_of_ble_eq_true rfl, Nat.le_of_ble_eq_true rfl⟩) hK hZ hX hY hG hS rfl hl.1 (Nat.le_of_ble_eq_true rfl) dL_hours_289 ⟨Nat.le_of_ble_eq_true rfl, Nat.le_of_ble_eq_true rfl⟩ (by omega) (by omega) rfl rfl (fun H locs hG hS => ?_)
  refine lv_iload hx hb dL_hours_292 (lv_at hl 4 rfl) ?_
  refine lv_iconst (v := 1) hx hb dL_hours_294 (by decide) ?_
  refine lv_iadd hx hb dL_hours_295 ?_
  refine lv_icmp_ne (tgt := 331) hx hb dL_hours_296 (by decide) (fun c_19 => absurd cN.1 c_19) (fun c_19 => ?_)
  refine lv_aload_n hx hb dL_hours_299 rfl (lv_at hl 8 rfl) ?_
  refine lv_iload_n hx hb dL_hours_300 rfl (lv_at hl 9 rfl) ?_
  refine lv_iconst (v := 4) hx hb dL_hours_301 (by decide) ?_
  refine l_call (X := 565) (K := 566) (CC := 763) (As := [.ref (gad Γ 475), .int (nI i), .int 4]) (rest := []) (st1 := [.int ((fX7_pass_L N (kx + 1)) (82 + 5 * i + 4))]) hF (r_house (N := fX7_pass_L N (kx + 1)) (Hy := cons N Hy) (k := kM 13 k + 1) (w := w) hst hP2 huP2 (a := (nI i)) (d := 4) (i := i) (j := 4) rfl rfl hiP2 (by decide)) (va_cwS 3 hts qL_house rfl rfl rfl (by decide +kernel) ⟨Nat.le_of_ble_eq_true rfl, Nat.le_of_ble_eq_true rfl⟩) hK hZ hX hY hG hS rfl hl.1 (Nat.le_of_ble_eq_true rfl) dL_hours_302 ⟨Nat.le_of_ble_eq_true rfl, Nat.le_of_ble_eq_true rfl⟩ (by omega) (by omega) rfl rfl (fun H locs hG hS => ?_)
  refine lv_aload_n hx hb dL_hours_305 rfl (lv_at hl 8 rfl) ?_
  refine lv_bipush (v := 7) hx hb dL_hours_306 (by decide) ?_
  refine l_call (X := 566) (K := 567) (CC := 763) (As := [.ref (gad Γ 475), .int 7]) (rest := [.int ((fX7_pass_L N (kx + 1)) (82 + 5 * i + 4))]) (st1 := [.int ((fX7_pass_L N (kx + 1)) 7), .int ((fX7_pass_L N (kx + 1)) (82 + 5 * i + 4))]) hF (r_about (N := fX7_pass_L N (kx + 1)) (Hy := cons N Hy) (k := kM 13 k + 1) (w := w) hst hP2 huP2 (a := 7) (j := 7) rfl (by decide)) (va_cwS 2 hts qL_about rfl rfl rfl (by decide +kernel) ⟨Nat.le_of_ble_eq_true rfl, Nat.le_of_ble_eq_true rfl⟩) hK hZ hX hY hG hS rfl hl.1 (Nat.le_of_ble_eq_true rfl) dL_hours_308 ⟨Nat.le_of_ble_eq_true rfl, Nat.le_of_ble_eq_true rfl⟩ (by omega) (by omega) rfl rfl (fun H locs hG hS => ?_)
  refine lv_icmp_lt (tgt := 331) hx hb dL_hours_311 (by decide) (fun c_20 => absurd c_20 cN.2) (fun c_20 => ?_)
  refine lv_aload_n hx hb dL_hours_314 rfl (lv_at hl 8 rfl) ?_
  refine lv_bipush (v := 15) hx hb dL_hours_315 (by decide) ?_
  refine lv_iconst (v := 0) hx hb dL_hours_317 (by decide) ?_
  refine lv_iconst (v := 0) hx hb dL_hours_318 (by decide) ?_
  refine lv_iconst (v := 0) hx hb dL_hours_319 (by decide) ?_
  refine lv_iconst (v := 0) hx hb dL_hours_320 (by decide) ?_
  refine l_call (X := 567) (K := 568) (CC := 763) (As := [.ref (gad Γ 475), .int 15, .int 0, .int 0, .int 0, .int 0]) (rest := []) (st1 := [.int (nI (kM 13 k))]) hF (q_undo (l := l) (Γ := Γ) (N := N) (Hy := Hy) (k := (kM 13 k)) (w := w) (P := (fX7_pass_L N (kx + 1))) hN 0 0) (va_cwS 6 hts qL_call rfl rfl rfl (by decide +kernel) ⟨Nat.le_of_ble_eq_true rfl, Nat.le_of_ble_eq_true rfl⟩) hK hZ hX hY hG hS rfl hl.1 (Nat.le_of_ble_eq_true rfl) dL_hours_321 ⟨Nat.le_of_ble_eq_true rfl, Nat.le_of_ble_eq_true rfl⟩ (by omega) (by omega) rfl rfl (fun H locs hG hS => ?_)
  refine lv_if_lt (tgt := 331) hx hb dL_hours_324 (by decide) (fun c_21 => absurd c_21 (kM_nn 13 0 k (by decide))) (fun c_21 => ?_)
  refine lv_iconst (v := 1) hx hb dL_hours_327 (by decide) ?_
  refine lv_goto (tgt := 332) hx hb dL_hours_328 (by decide) ?_
  refine lv_istore (lv' := [(11, .int 1), (10, .int (fX7_pass_L N h 10 - N 10)), (9, .int ((10 * (N 3)) + (N 4))), (8, .int (N 10)), (7, .int (N (82 + 5 * i + 3))), (6, .int (nI (kx + 1))), (5, .int (fX7_pass_L N h (82 + 5 * i + 4))), (3, .long (sumF N)), (0, .ref (gad Γ 475)), (1, .int (nI i)), (2, .int (nI h))]) hx hb dL_hours_332 hl (by decide) rfl (fun ls hl => ?_)
  refine lv_iload hx hb dL_hours_334 (lv_at hl 0 rfl) ?_
  refine lv_if_eq (tgt := 352) hx hb dL_hours_336 (by decide) (fun c_22 => absurd c_22 (by decide)) (fun c_22 => ?_)
  refine lv_aload_n hx hb dL_hours_339 rfl (lv_at hl 8 rfl) ?_
  refine l_call (X := 568) (K := 744) (CC := 763) (As := [.ref (gad Γ 475)]) (rest := []) (st1 := [.long (sumF N)]) hF (L_sum (N := N) (Hy := Hy) (k := kM 13 k) (w := w) hst hN hu0) (va_cwS 1 hts qL_sum rfl rfl rfl (by decide +kernel) ⟨Nat.le_of_ble_eq_true rfl, Nat.le_of_ble_eq_true rfl⟩) hK hZ hX hY hG hS rfl hl.1 (Nat.le_of_ble_eq_true rfl) dL_hours_340 ⟨Nat.le_of_ble_eq_true rfl, Nat.le_of_ble_eq_true rfl⟩ (by omega) (by omega) rfl rfl (fun H locs hG hS => ?_)
  refine lv_lload_n hx hb dL_hours_343 rfl (lv_at hl 7 rfl) ?_
  refine W.lcmp hx hb dL_hours_344 ?_
  refine gl_ne (tgt := 352) hx hb dL_hours_345 (by decide) (fun c_23 => absurd rfl c_23) (fun c_23 => ?_)
  refine lv_iconst (v := 1) hx hb dL_hours_348 (by decide) ?_
  refine lv_goto (tgt := 353) hx hb dL_hours_349 (by decide) ?_
  exact l_zret hx hb hrt hlocks hS hG (by decide) rfl (by omega) dL_hours_353

set_option maxHeartbeats 4000000 in
set_option maxRecDepth 100000 in
theorem L_hours_C2 {l : Launch} {Γ : gX} (hst : l.stackTraces = false) {u : Nat} {N : Nat → Int32} {Hy : Nat → Nat → Int32} {k : Nat} {w : WO} (hN : PI u N) (hu : 1998 * (u + 10000) < 2 ^ 31) (hG0 : GD N) (hk : k ≤ 14) {i h : Nat} (hi : i < (N 1).toNatClampNeg) (h1 : 1 ≤ h) (h2 : h ≤ 20) {kx : Nat} (hkx : kx = lst (CC N i) 50) (hk0 : 0 < kx) (hk5 : kx < 50) (hw : v_complainsIn N (nI i) = nI (kx + 1)) (hh : kx < h) : lM l Γ yL_hours wqL_hours 13 296 763 [.ref (gad Γ 475), .int (nI i), .int (nI h)] (SH Γ N Hy k w) (some (.int 1)) (SH Γ N Hy (kM 13 k) w) := by
  refine l_start (cc := cL_hours) (maxL := 12) (ret := (some .boolean)) (by decide) rfl (Nat.le_of_ble_eq_true rfl) ?_
  intro p e s m below meth c ls hx hb hml hrt hts hown hlocks hK hZ hX hY hG hS hl
  have hl : lv_has ls 12 [(0, .ref (gad Γ 475)), (1, .int (nI i)), (2, .int (nI h))] := hl
  have hown : s.vm.findClass RL = some m.cls := hown
  have hF : CallFix p m c cL_hours 12 s _ wqL_hours RL := ⟨hx, hb, hml, hown, hts⟩
  have b1 := hN.h8.2
  have i8 : i < 8 := by omega
  have hu0 : 1998 * (u + 5000) < 2 ^ 31 := by omega
  have hP := pass_PI hN h (by omega)
  have huP : 1998 * (u + 17 * h + 5000) < 2 ^ 31 := by omega
  have hiP : i < (fX7_pass_L N h 1).toNatClampNeg := by rw [pass_hd hN (j := 1) (by decide) (by decide) h (by omega)]; exact hi
  have hgP := pass_GD hN hG0 h (by omega)
  have hP1 := pass_PI hN kx (by omega)
  have huP1 : 1998 * (u + 17 * kx + 5000) < 2 ^ 31 := by omega
  have hiP1 : i < (fX7_pass_L N kx 1).toNatClampNeg := by rw [pass_hd hN (j := 1) (by decide) (by decide) kx (by omega)]; exact hi
  have cE1 := pass_c0 hN hi (by omega) kx (by omega)
  have hP2 := pass_PI hN (kx + 1) (by omega)
  have huP2 : 1998 * (u + 17 * (kx + 1) + 5000) < 2 ^ 31 := by omega
  have hiP2 : i < (fX7_pass_L N (kx + 1) 1).toNatClampNeg := by rw [pass_hd hN (j := 1) (by decide) (by decide) (kx + 1) (by omega)]; exact hi
  have cN : fX7_pass_L N (kx + 1) (82 + 5 * i + 3) = N (82 + 5 * i + 3) + 1 ∧ ¬ fX7_pass_L N (kx + 1) (82 + 5 * i + 4) < fX7_pass_L N (kx + 1) 7 := by
    have c := pass_c1 hN hi (by omega) (by omega)
    rw [← hkx] at c
    rw [pass_hd hN (j := 7) (by decide) (by decide) _ (by omega)]
    exact c
  have c10 : (N 10).toNatClampNeg < (fX7_pass_L N (kx + 1) 10).toNatClampNeg := by
    have c := pass_10s hN hi (by omega) (by omega)
    rw [← hkx] at c
    exact c
  have cL : ¬ fX7_pass_L N h (82 + 5 * i + 3) ≤ N (82 + 5 * i + 3) := by
    have c := pass_c2 hN hi (by omega) i8 (by omega) (h - 1 - kx) (by omega)
    rw [← hkx, show kx + 1 + (h - 1 - kx) = h by omega] at c
    exact ge_of_lt (hP.nh3 i8) (hN.nh i8 3 u (by omega) rfl rfl) (by omega) (by omega) c
  refine lv_aload_n hx hb dL_hours_0 rfl (lv_at hl 0 rfl) ?_
  refine l_call (X := 0) (K := 176) (CC := 763) (As := [.ref (gad Γ 475)]) (rest := []) (st1 := [.long (sumF N)]) hF (L_sum (N := N) (Hy := Hy) (k := k) (w := w) hst hN hu0) (va_cwS 1 hts qL_sum rfl rfl rfl (by decide +kernel) ⟨Nat.le_of_ble_eq_true rfl, Nat.le_of_ble_eq_true rfl⟩) hK hZ hX hY hG hS rfl hl.1 (Nat.le_of_ble_eq_true rfl) dL_hours_1 ⟨Nat.le_of_ble_eq_true rfl, Nat.le_of_ble_eq_true rfl⟩ (by omega) (by omega) rfl rfl (fun H locs hG hS => ?_)
  refine lv_lstore_n (lv' := [(3, .long (sumF N)), (0, .ref (gad Γ 475)), (1, .int (nI i)), (2, .int (nI h))]) hx hb dL_hours_4 rfl hl (by decide) rfl (fun ls hl => ?_)
  refine lv_aload_n hx hb dL_hours_5 rfl (lv_at hl 1 rfl) ?_
  refine lv_bipush (v := 17) hx hb dL_hours_6 (by decide) ?_
  refine lv_iload_n hx hb dL_hours_8 rfl (lv_at hl 2 rfl) ?_
  refine lv_iload_n hx hb dL_hours_9 rfl (lv_at hl 3 rfl) ?_
  refine lv_iconst (v := 0) hx hb dL_hours_10 (by decide) ?_
  refine lv_iconst (v := 0) hx hb dL_hours_11 (by decide) ?_
  refine l_call (X := 176) (K := 177) (CC := 763) (As := [.ref (gad Γ 475), .int 17, .int (nI i), .int (nI h), .int 0, .int 0]) (rest := []) (st1 := [.int (fX7_pass_L N h (82 + 5 * i + 4))]) hF (q_ahead (l := l) (Γ := Γ) (N := N) (Hy := Hy) (k := k) (w := w) hst hN hu0 (a := (nI i)) (d := (nI h)) rfl rfl hi h1 h2) (va_cwS 6 hts qL_call rfl rfl rfl (by decide +kernel) ⟨Nat.le_of_ble_eq_true rfl, Nat.le_of_ble_eq_true rfl⟩) hK hZ hX hY hG hS rfl hl.1 (Nat.le_of_ble_eq_true rfl) dL_hours_12 ⟨Nat.le_of_ble_eq_true rfl, Nat.le_of_ble_eq_true rfl⟩ (by omega) (by omega) rfl rfl (fun H locs hG hS => ?_)
  refine lv_istore (lv' := [(5, .int (fX7_pass_L N h (82 + 5 * i + 4))), (3, .long (sumF N)), (0, .ref (gad Γ 475)), (1, .int (nI i)), (2, .int (nI h))]) hx hb dL_hours_15 hl (by decide) rfl (fun ls hl => ?_)
  refine lv_aload_n hx hb dL_hours_17 rfl (lv_at hl 2 rfl) ?_
  refine lv_bipush (v := 21) hx hb dL_hours_18 (by decide) ?_
  refine lv_iload_n hx hb dL_hours_20 rfl (lv_at hl 3 rfl) ?_
  refine lv_iconst (v := 0) hx hb dL_hours_21 (by decide) ?_
  refine lv_iconst (v := 0) hx hb dL_hours_22 (by decide) ?_
  refine lv_iconst (v := 0) hx hb dL_hours_23 (by decide) ?_
  refine l_call (X := 177) (K := 178) (CC := 763) (As := [.ref (gad Γ 475), .int 21, .int (nI i), .int 0, .int 0, .int 0]) (rest := []) (st1 := [.int (v_complainsIn N (nI i))]) hF (q_when (l := l) (Γ := Γ) (N := N) (Hy := Hy) (k := k) (w := w) hst hN hu0 (a := (nI i)) rfl 0 hi) (va_cwS 6 hts qL_call rfl rfl rfl (by decide +kernel) ⟨Nat.le_of_ble_eq_true rfl, Nat.le_of_ble_eq_true rfl⟩) hK hZ hX hY hG hS rfl hl.1 (Nat.le_of_ble_eq_true rfl) dL_hours_24 ⟨Nat.le_of_ble_eq_true rfl, Nat.le_of_ble_eq_true rfl⟩ (by omega) (by omega) rfl rfl (fun H locs hG hS => ?_)
  refine g_top (y := (nI (kx + 1))) hw ?_
  refine lv_istore (lv' := [(6, .int (nI (kx + 1))), (5, .int (fX7_pass_L N h (82 + 5 * i + 4))), (3, .long (sumF N)), (0, .ref (gad Γ 475)), (1, .int (nI i)), (2, .int (nI h))]) hx hb dL_hours_27 hl (by decide) rfl (fun ls hl => ?_)
  refine lv_aload_n hx hb dL_hours_29 rfl (lv_at hl 3 rfl) ?_
  refine lv_iload_n hx hb dL_hours_30 rfl (lv_at hl 4 rfl) ?_
  refine lv_iconst (v := 3) hx hb dL_hours_31 (by decide) ?_
  refine l_call (X := 178) (K := 179) (CC := 763) (As := [.ref (gad Γ 475), .int (nI i), .int 3]) (rest := []) (st1 := [.int (N (82 + 5 * i + 3))]) hF (r_house (N := N) (Hy := Hy) (k := k) (w := w) hst hN hu0 (a := (nI i)) (d := 3) (i := i) (j := 3) rfl rfl hi (by decide)) (va_cwS 3 hts qL_house rfl rfl rfl (by decide +kernel) ⟨Nat.le_of_ble_eq_true rfl, Nat.le_of_ble_eq_true rfl⟩) hK hZ hX hY hG hS rfl hl.1 (Nat.le_of_ble_eq_true rfl) dL_hours_32 ⟨Nat.le_of_ble_eq_true rfl, Nat.le_of_ble_eq_true rfl⟩ (by omega) (by omega) rfl rfl (fun H locs hG hS => ?_)
  refine lv_istore (lv' := [(7, .int (N (82 + 5 * i + 3))), (6, .int (nI (kx + 1))), (5, .int (fX7_pass_L N h (82 + 5 * i + 4))), (3, .long (sumF N)), (0, .ref (gad Γ 475)), (1, .int (nI i)), (2, .int (nI h))]) hx hb dL_hours_35 hl (by decide) rfl (fun ls hl => ?_)
  refine lv_aload_n hx hb dL_hours_37 rfl (lv_at hl 4 rfl) ?_
  refine lv_bipush (v := 10) hx hb dL_hours_38 (by decide) ?_
  refine l_call (X := 179) (K := 180) (CC := 763) (As := [.ref (gad Γ 475), .int 10]) (rest := []) (st1 := [.int (N 10)]) hF (r_about (N := N) (Hy := Hy) (k := k) (w := w) hst hN hu0 (a := 10) (j := 10) rfl (by decide)) (va_cwS 2 hts qL_about rfl rfl rfl (by decide +kernel) ⟨Nat.le_of_ble_eq_true rfl, Nat.le_of_ble_eq_true rfl⟩) hK hZ hX hY hG hS rfl hl.1 (Nat.le_of_ble_eq_true rfl) dL_hours_40 ⟨Nat.le_of_ble_eq_true rfl, Nat.le_of_ble_eq_true rfl⟩ (by omega) (by omega) rfl rfl (fun H locs hG hS => ?_)
  refine lv_istore (lv' := [(8, .int (N 10)), (7, .int (N (82 + 5 * i + 3))), (6, .int (nI (kx + 1))), (5, .int (fX7_pass_L N h (82 + 5 * i + 4))), (3, .long (sumF N)), (0, .ref (gad Γ 475)), (1, .int (nI i)), (2, .int (nI h))]) hx hb dL_hours_43 hl (by decide) rfl (fun ls hl => ?_)
  refine lv_bipush (v := 10) hx hb dL_hours_45 (by decide) ?_
  refine lv_aload_n hx hb dL_hours_47 rfl (lv_at hl 5 rfl) ?_
  refine lv_iconst (v := 3) hx hb dL_hours_48 (by decide) ?_
  refine l_call (X := 180) (K := 181) (CC := 763) (As := [.ref (gad Γ 475), .int 3]) (rest := [.int 10]) (st1 := [.int (N 3), .int 10]) hF (r_about (N := N) (Hy := Hy) (k := k) (w := w) hst hN hu0 (a := 3) (j := 3) rfl (by decide)) (va_cwS 2 hts qL_about rfl rfl rfl (by decide +kernel) ⟨Nat.le_of_ble_eq_true rfl, Nat.le_of_ble_eq_true rfl⟩) hK hZ hX hY hG hS rfl hl.1 (Nat.le_of_ble_eq_true rfl) dL_hours_49 ⟨Nat.le_of_ble_eq_true rfl, Nat.le_of_ble_eq_true rfl⟩ (by omega) (by omega) rfl rfl (fun H locs hG hS => ?_)
  refine lv_imul hx hb dL_hours_52 ?_
  refine lv_aload_n hx hb dL_hours_53 rfl (lv_at hl 5 rfl) ?_
  refine lv_iconst (v := 4) hx hb dL_hours_54 (by decide) ?_
  refine l_call (X := 181) (K := 182) (CC := 763) (As := [.ref (gad Γ 475), .int 4]) (rest := [.int (10 * (N 3))]) (st1 := [.int (N 4), .int (10 * (N 3))]) hF (r_about (N := N) (Hy := Hy) (k := k) (w := w) hst hN hu0 (a := 4) (j := 4) rfl (by decide)) (va_cwS 2 hts qL_about rfl rfl rfl (by decide +kernel) ⟨Nat.le_of_ble_eq_true rfl, Nat.le_of_ble_eq_true rfl⟩) hK hZ hX hY hG hS rfl hl.1 (Nat.le_of_ble_eq_true rfl) dL_hours_55 ⟨Nat.le_of_ble_eq_true rfl, Nat.le_of_ble_eq_true rfl⟩ (by omega) (by omega) rfl rfl (fun H locs hG hS => ?_)
  refine lv_iadd hx hb dL_hours_58 ?_
  refine lv_istore (lv' := [(9, .int ((10 * (N 3)) + (N 4))), (8, .int (N 10)), (7, .int (N (82 + 5 * i + 3))), (6, .int (nI (kx + 1))), (5, .int (fX7_pass_L N h (82 + 5 * i + 4))), (3, .long (sumF N)), (0, .ref (gad Γ 475)), (1, .int (nI i)), (2, .int (nI h))]) hx hb dL_hours_59 hl (by decide) rfl (fun ls hl => ?_)
  refine lv_aload_n hx hb dL_hours_61 rfl (lv_at hl 6 rfl) ?_
  refine lv_bipush (v := 14) hx hb dL_hours_62 (by decide) ?_
  refine lv_iload_n hx hb dL_hours_64 rfl (lv_at hl 8 rfl) ?_
  refine lv_iconst (v := 0) hx hb dL_hours_65 (by decide) ?_
  refine lv_iconst (v := 0) hx hb dL_hours_66 (by decide) ?_
  refine lv_iconst (v := 0) hx hb dL_hours_67 (by decide) ?_
  refine l_call (X := 182) (K := 183) (CC := 763) (As := [.ref (gad Γ 475), .int 14, .int (nI h), .int 0, .int 0, .int 0]) (rest := []) (st1 := [.int (fX7_pass_L N h 10 - N 10)]) hF (q_pass (l := l) (Γ := Γ) (N := N) (Hy := Hy) (k := k) (w := w) hst hN hu0 (a := (nI h)) (h := h) rfl 0 h1 (by omega) (kN_0 hk)) (va_cwS 6 hts qL_call rfl rfl rfl (by decide +kernel) ⟨Nat.le_of_ble_eq_true rfl, Nat.le_of_ble_eq_true rfl⟩) hK hZ hX hY hG hS rfl hl.1 (Nat.le_of_ble_eq_true rfl) dL_hours_68 ⟨Nat.le_of_ble_eq_true rfl, Nat.le_of_ble_eq_true rfl⟩ (by omega) (by omega) rfl rfl (fun H locs hG hS => ?_)
  refine lv_istore (lv' := [(10, .int (fX7_pass_L N h 10 - N 10)), (9, .int ((10 * (N 3)) + (N 4))), (8, .int (N 10)), (7, .int (N (82 + 5 * i + 3))), (6, .int (nI (kx + 1))), (5, .int (fX7_pass_L N h (82 + 5 * i + 4))), (3, .long (sumF N)), (0, .ref (gad Γ 475)), (1, .int (nI i)), (2, .int (nI h))]) hx hb dL_hours_71 hl (by decide) rfl (fun ls hl => ?_)
  refine lv_aload_n hx hb dL_hours_73 rfl (lv_at hl 7 rfl) ?_
  refine lv_iload_n hx hb dL_hours_74 rfl (lv_at hl 8 rfl) ?_
  refine lv_iconst (v := 4) hx hb dL_hours_75 (by decide) ?_
  refine l_call (X := 183) (K := 184) (CC := 763) (As := [.ref (gad Γ 475), .int (nI i), .int 4]) (rest := []) (st1 := [.int ((fX7_pass_L N h) (82 + 5 * i + 4))]) hF (r_house (N := fX7_pass_L N h) (Hy := cons N Hy) (k := kM 13 k + 1) (w := w) hst hP huP (a := (nI i)) (d := 4) (i := i) (j := 4) rfl rfl hiP (by decide)) (va_cwS 3 hts qL_house rfl rfl rfl (by decide +kernel) ⟨Nat.le_of_ble_eq_true rfl, Nat.le_of_ble_eq_true rfl⟩) hK hZ hX hY hG hS rfl hl.1 (Nat.le_of_ble_eq_true rfl) dL_hours_76 ⟨Nat.le_of_ble_eq_true rfl, Nat.le_of_ble_eq_true rfl⟩ (by omega) (by omega) rfl rfl (fun H locs hG hS => ?_)
  refine lv_iload hx hb dL_hours_79 (lv_at hl 5 rfl) ?_
  refine lv_icmp_ne (tgt := 167) hx hb dL_hours_81 (by decide) (fun c_1 => absurd rfl c_1) (fun c_1 => ?_)
  refine lv_iload hx hb dL_hours_84 (lv_at hl 0 rfl) ?_
  refine lv_aload_n hx hb dL_hours_86 rfl (lv_at hl 7 rfl) ?_
  refine lv_bipush (v := 10) hx hb dL_hours_87 (by decide) ?_
  refine l_call (X := 184) (K := 185) (CC := 763) (As := [.ref (gad Γ 475), .int 10]) (rest := [.int (fX7_pass_L N h 10 - N 10)]) (st1 := [.int ((fX7_pass_L N h) 10), .int (fX7_pass_L N h 10 - N 10)]) hF (r_about (N := fX7_pass_L N h) (Hy := cons N Hy) (k := kM 13 k + 1) (w := w) hst hP huP (a := 10) (j := 10) rfl (by decide)) (va_cwS 2 hts qL_about rfl rfl rfl (by decide +kernel) ⟨Nat.le_of_ble_eq_true rfl, Nat.le_of_ble_eq_true rfl⟩) hK hZ hX hY hG hS rfl hl.1 (Nat.le_of_ble_eq_true rfl) dL_hours_89 ⟨Nat.le_of_ble_eq_true rfl, Nat.le_of_ble_eq_true rfl⟩ (by omega) (by omega) rfl rfl (fun H locs hG hS => ?_)
  refine lv_iload hx hb dL_hours_92 (lv_at hl 2 rfl) ?_
  refine lv_isub hx hb dL_hours_94 ?_
  refine lv_icmp_ne (tgt := 167) hx hb dL_hours_95 (by decide) (fun c_2 => absurd rfl c_2) (fun c_2 => ?_)
  refine lv_aload_n hx hb dL_hours_98 rfl (lv_at hl 7 rfl) ?_
  refine lv_iload_n hx hb dL_hours_99 rfl (lv_at hl 8 rfl) ?_
  refine lv_iconst (v := 3) hx hb dL_hours_100 (by decide) ?_
  refine l_call (X := 185) (K := 186) (CC := 763) (As := [.ref (gad Γ 475), .int (nI i), .int 3]) (rest := []) (st1 := [.int ((fX7_pass_L N h) (82 + 5 * i + 3))]) hF (r_house (N := fX7_pass_L N h) (Hy := cons N Hy) (k := kM 13 k + 1) (w := w) hst hP huP (a := (nI i)) (d := 3) (i := i) (j := 3) rfl rfl hiP (by decide)) (va_cwS 3 hts qL_house rfl rfl rfl (by decide +kernel) ⟨Nat.le_of_ble_eq_true rfl, Nat.le_of_ble_eq_true rfl⟩) hK hZ hX hY hG hS rfl hl.1 (Nat.le_of_ble_eq_true rfl) dL_hours_101 ⟨Nat.le_of_ble_eq_true rfl, Nat.le_of_ble_eq_true rfl⟩ (by omega) (by omega) rfl rfl (fun H locs hG hS => ?_)
  refine lv_iload hx hb dL_hours_104 (lv_at hl 3 rfl) ?_
  refine lv_icmp_le (tgt := 113) hx hb dL_hours_106 (by decide) (fun c_3 => absurd c_3 cL) (fun c_3 => ?_)
  refine lv_iconst (v := 1) hx hb dL_hours_109 (by decide) ?_
  refine lv_goto (tgt := 114) hx hb dL_hours_110 (by decide) ?_
  refine lv_iload hx hb dL_hours_114 (lv_at hl 4 rfl) ?_
  refine lv_bipush (v := (-9)) hx hb dL_hours_116 (by decide) ?_
  refine lv_icmp_eq (tgt := 131) hx hb dL_hours_118 (by decide) (fun c_4 => absurd c_4 (kx_m9 (by omega))) (fun c_4 => ?_)
  refine lv_iload hx hb dL_hours_121 (lv_at hl 4 rfl) ?_
  refine lv_iload_n hx hb dL_hours_123 rfl (lv_at hl 9 rfl) ?_
  refine lv_icmp_gt (tgt := 131) hx hb dL_hours_124 (by decide) (fun c_5 => absurd c_5 (nI_nlt (a := h) (b := kx + 1) (by omega) (by omega))) (fun c_5 => ?_)
  refine lv_iconst (v := 1) hx hb dL_hours_127 (by decide) ?_
  refine lv_goto (tgt := 132) hx hb dL_hours_128 (by decide) ?_
  refine lv_icmp_ne (tgt := 167) hx hb dL_hours_132 (by decide) (fun c_6 => absurd (by decide) c_6) (fun c_6 => ?_)
  refine lv_bipush (v := 10) hx hb dL_hours_135 (by decide) ?_
  refine lv_aload_n hx hb dL_hours_137 rfl (lv_at hl 7 rfl) ?_
  refine lv_iconst (v := 3) hx hb dL_hours_138 (by decide) ?_
  refine l_call (X := 186) (K := 187) (CC := 763) (As := [.ref (gad Γ 475), .int 3]) (rest := [.int 10]) (st1 := [.int ((fX7_pass_L N h) 3), .int 10]) hF (r_about (N := fX7_pass_L N h) (Hy := cons N Hy) (k := kM 13 k + 1) (w := w) hst hP huP (a := 3) (j := 3) rfl (by decide)) (va_cwS 2 hts qL_about rfl rfl rfl (by decide +kernel) ⟨Nat.le_of_ble_eq_true rfl, Nat.le_of_ble_eq_true rfl⟩) hK hZ hX hY hG hS rfl hl.1 (Nat.le_of_ble_eq_true rfl) dL_hours_139 ⟨Nat.le_of_ble_eq_true rfl, Nat.le_of_ble_eq_true rfl⟩ (by omega) (by omega) rfl rfl (fun H locs hG hS => ?_)
  refine lv_imul hx hb dL_hours_142 ?_
  refine lv_aload_n hx hb dL_hours_143 rfl (lv_at hl 7 rfl) ?_
  refine lv_iconst (v := 4) hx hb dL_hours_144 (by decide) ?_
  refine l_call (X := 187) (K := 188) (CC := 763) (As := [.ref (gad Γ 475), .int 4]) (rest := [.int (10 * ((fX7_pass_L N h) 3))]) (st1 := [.int ((fX7_pass_L N h) 4), .int (10 * ((fX7_pass_L N h) 3))]) hF (r_about (N := fX7_pass_L N h) (Hy := cons N Hy) (k := kM 13 k + 1) (w := w) hst hP huP (a := 4) (j := 4) rfl (by decide)) (va_cwS 2 hts qL_about rfl rfl rfl (by decide +kernel) ⟨Nat.le_of_ble_eq_true rfl, Nat.le_of_ble_eq_true rfl⟩) hK hZ hX hY hG hS rfl hl.1 (Nat.le_of_ble_eq_true rfl) dL_hours_145 ⟨Nat.le_of_ble_eq_true rfl, Nat.le_of_ble_eq_true rfl⟩ (by omega) (by omega) rfl rfl (fun H locs hG hS => ?_)
  refine lv_iadd hx hb dL_hours_148 ?_
  refine lv_iload hx hb dL_hours_149 (lv_at hl 1 rfl) ?_
  refine lv_iload_n hx hb dL_hours_151 rfl (lv_at hl 9 rfl) ?_
  refine lv_iadd hx hb dL_hours_152 ?_
  refine lv_icmp_ne (tgt := 167) hx hb dL_hours_153 (by decide) (fun c_7 => absurd (pass_time hN h (by omega)) c_7) (fun c_7 => ?_)
  refine lv_aload_n hx hb dL_hours_156 rfl (lv_at hl 7 rfl) ?_
  refine l_call (X := 188) (K := 383) (CC := 763) (As := [.ref (gad Γ 475)]) (rest := []) (st1 := [.int 1]) hF (L_numbers (N := fX7_pass_L N h) (Hy := cons N Hy) (k := kM 13 k + 1) (w := w) hst hP huP hgP) (va_cwS 1 hts qL_numbers rfl rfl rfl (by decide +kernel) ⟨Nat.le_of_ble_eq_true rfl, Nat.le_of_ble_eq_true rfl⟩) hK hZ hX hY hG hS rfl hl.1 (Nat.le_of_ble_eq_true rfl) dL_hours_157 ⟨Nat.le_of_ble_eq_true rfl, Nat.le_of_ble_eq_true rfl⟩ (by omega) (by omega) rfl rfl (fun H locs hG hS => ?_)
  refine lv_if_eq (tgt := 167) hx hb dL_hours_160 (by decide) (fun c_8 => absurd c_8 (by decide)) (fun c_8 => ?_)
  refine lv_iconst (v := 1) hx hb dL_hours_163 (by decide) ?_
  refine lv_goto (tgt := 168) hx hb dL_hours_164 (by decide) ?_
  refine lv_istore (lv' := [(11, .int 1), (10, .int (fX7_pass_L N h 10 - N 10)), (9, .int ((10 * (N 3)) + (N 4))), (8, .int (N 10)), (7, .int (N (82 + 5 * i + 3))), (6, .int (nI (kx + 1))), (5, .int (fX7_pass_L N h (82 + 5 * i + 4))), (3, .long (sumF N)), (0, .ref (gad Γ 475)), (1, .int (nI i)), (2, .int (nI h))]) hx hb dL_hours_168 hl (by decide) rfl (fun ls hl => ?_)
  refine lv_iload hx hb dL_hours_170 (lv_at hl 0 rfl) ?_
  refine lv_aload_n hx hb dL_hours_172 rfl (lv_at hl 8 rfl) ?_
  refine lv_bipush (v := 15) hx hb dL_hours_173 (by decide) ?_
  refine lv_iconst (v := 0) hx hb dL_hours_175 (by decide) ?_
  refine lv_iconst (v := 0) hx hb dL_hours_176 (by decide) ?_
  refine lv_iconst (v := 0) hx hb dL_hours_177 (by decide) ?_
  refine lv_iconst (v := 0) hx hb dL_hours_178 (by decide) ?_
  refine l_call (X := 383) (K := 384) (CC := 763) (As := [.ref (gad Γ 475), .int 15, .int 0, .int 0, .int 0, .int 0]) (rest := [.int 1]) (st1 := [.int (nI (kM 13 k)), .int 1]) hF (q_undo (l := l) (Γ := Γ) (N := N) (Hy := Hy) (k := (kM 13 k)) (w := w) (P := (fX7_pass_L N h)) hN 0 0) (va_cwS 6 hts qL_call rfl rfl rfl (by decide +kernel) ⟨Nat.le_of_ble_eq_true rfl, Nat.le_of_ble_eq_true rfl⟩) hK hZ hX hY hG hS rfl hl.1 (Nat.le_of_ble_eq_true rfl) dL_hours_179 ⟨Nat.le_of_ble_eq_true rfl, Nat.le_of_ble_eq_true rfl⟩ (by omega) (by omega) rfl rfl (fun H locs hG hS => ?_)
  refine lv_if_lt (tgt := 198) hx hb dL_hours_182 (by decide) (fun c_9 => absurd c_9 (kM_nn 13 0 k (by decide))) (fun c_9 => ?_)
  refine lv_aload_n hx hb dL_hours_185 rfl (lv_at hl 8 rfl) ?_
  refine l_call (X := 384) (K := 560) (CC := 763) (As := [.ref (gad Γ 475)]) (rest := [.int 1]) (st1 := [.long (sumF N), .int 1]) hF (L_sum (N := N) (Hy := Hy) (k := kM 13 k) (w := w) hst hN hu0) (va_cwS 1 hts qL_sum rfl rfl rfl (by decide +kernel) ⟨Nat.le_of_ble_eq_true rfl, Nat.le_of_ble_eq_true rfl⟩) hK hZ hX hY hG hS rfl hl.1 (Nat.le_of_ble_eq_true rfl) dL_hours_186 ⟨Nat.le_of_ble_eq_true rfl, Nat.le_of_ble_eq_true rfl⟩ (by omega) (by omega) rfl rfl (fun H locs hG hS => ?_)
  refine lv_lload_n hx hb dL_hours_189 rfl (lv_at hl 7 rfl) ?_
  refine W.lcmp hx hb dL_hours_190 ?_
  refine gl_ne (tgt := 198) hx hb dL_hours_191 (by decide) (fun c_10 => absurd rfl c_10) (fun c_10 => ?_)
  refine lv_iconst (v := 1) hx hb dL_hours_194 (by decide) ?_
  refine lv_goto (tgt := 199) hx hb dL_hours_195 (by decide) ?_
  refine lv_iand hx hb dL_hours_199 ?_
  refine g_top (y := 1) (show (1 &&& 1 : Int32) = 1 from rfl) ?_
  refine lv_istore (lv' := [(11, .int 1), (10, .int (fX7_pass_L N h 10 - N 10)), (9, .int ((10 * (N 3)) + (N 4))), (8, .int (N 10)), (7, .int (N (82 + 5 * i + 3))), (6, .int (nI (kx + 1))), (5, .int (fX7_pass_L N h (82 + 5 * i + 4))), (3, .long (sumF N)), (0, .ref (gad Γ 475)), (1, .int (nI i)), (2, .int (nI h))]) hx hb dL_hours_200 hl (by decide) rfl (fun ls hl => ?_)
  refine lv_iload hx hb dL_hours_202 (lv_at hl 5 rfl) ?_
  refine lv_bipush (v := (-9)) hx hb dL_hours_204 (by decide) ?_
  refine lv_icmp_eq (tgt := 334) hx hb dL_hours_206 (by decide) (fun c_11 => absurd c_11 (kx_m9 (by omega))) (fun c_11 => ?_)
  refine lv_iload hx hb dL_hours_209 (lv_at hl 0 rfl) ?_
  refine lv_if_eq (tgt := 334) hx hb dL_hours_211 (by decide) (fun c_12 => absurd c_12 (by decide)) (fun c_12 => ?_)
  refine lv_iload hx hb dL_hours_214 (lv_at hl 5 rfl) ?_
  refine lv_iconst (v := 1) hx hb dL_hours_216 (by decide) ?_
  refine lv_icmp_le (tgt := 267) hx hb dL_hours_217 (by decide) (fun c_13 => absurd c_13 (nI_ge (a := 1) (b := kx + 1) (by omega) (by omega))) (fun c_13 => ?_)
  refine lv_aload_n hx hb dL_hours_220 rfl (lv_at hl 8 rfl) ?_
  refine lv_bipush (v := 14) hx hb dL_hours_221 (by decide) ?_
  refine lv_iload hx hb dL_hours_223 (lv_at hl 5 rfl) ?_
  refine lv_iconst (v := 1) hx hb dL_hours_225 (by decide) ?_
  refine lv_isub hx hb dL_hours_226 ?_
  refine g_top (y := (nI kx)) (nI_pred kx) ?_
  refine lv_iconst (v := 0) hx hb dL_hours_227 (by decide) ?_
  refine lv_iconst (v := 0) hx hb dL_hours_228 (by decide) ?_
  refine lv_iconst (v := 0) hx hb dL_hours_229 (by decide) ?_
  refine l_call (X := 560) (K := 561) (CC := 763) (As := [.ref (gad Γ 475), .int 14, .int (nI kx), .int 0, .int 0, .int 0]) (rest := []) (st1 := [.int (fX7_pass_L N kx 10 - N 10)]) hF (q_pass (l := l) (Γ := Γ) (N := N) (Hy := Hy) (k := kM 13 k) (w := w) hst hN hu0 (a := (nI kx)) (h := kx) rfl 0 (by omega) (by omega) (kN_M (d := 13) (d' := 13) (n := 0) (k := k) (by decide) (by decide) (by decide))) (va_cwS 6 hts qL_call rfl rfl rfl (by decide +kernel) ⟨Nat.le_of_ble_eq_true rfl, Nat.le_of_ble_eq_true rfl⟩) hK hZ hX hY hG hS rfl hl.1 (Nat.le_of_ble_eq_true rfl) dL_hours_230 ⟨Nat.le_of_ble_eq_true rfl, Nat.le_of_ble_eq_true rfl⟩ (by omega) (by omega) rfl rfl (fun H locs hG hS => ?_)
  refine lv_if_lt (tgt := 264) hx hb dL_hours_233 (by decide) (fun c_14 => absurd c_14 (sub_nneg (hP1.n10) (hN.n10) (by omega) (pass_10 hN kx (by omega)).1)) (fun c_14 => ?_)
  refine lv_aload_n hx hb dL_hours_236 rfl (lv_at hl 8 rfl) ?_
  refine lv_iload_n hx hb dL_hours_237 rfl (lv_at hl 9 rfl) ?_
  refine lv_iconst (v := 3) hx hb dL_hours_238 (by decide) ?_
  refine l_call (X := 561) (K := 562) (CC := 763) (As := [.ref (gad Γ 475), .int (nI i), .int 3]) (rest := []) (st1 := [.int ((fX7_pass_L N kx) (82 + 5 * i + 3))]) hF (r_house (N := fX7_pass_L N kx) (Hy := cons N Hy) (k := kM 13 k + 1) (w := w) hst hP1 huP1 (a := (nI i)) (d := 3) (i := i) (j := 3) rfl rfl hiP1 (by decide)) (va_cwS 3 hts qL_house rfl rfl rfl (by decide +kernel) ⟨Nat.le_of_ble_eq_true rfl, Nat.le_of_ble_eq_true rfl⟩) hK hZ hX hY hG hS rfl hl.1 (Nat.le_of_ble_eq_true rfl) dL_hours_239 ⟨Nat.le_of_ble_eq_true rfl, Nat.le_of_ble_eq_true rfl⟩ (by omega) (by omega) rfl rfl (fun H locs hG hS => ?_)
  refine lv_iload hx hb dL_hours_242 (lv_at hl 4 rfl) ?_
  refine lv_icmp_ne (tgt := 264) hx hb dL_hours_244 (by decide) (fun c_15 => absurd cE1 c_15) (fun c_15 => ?_)
  refine lv_aload_n hx hb dL_hours_247 rfl (lv_at hl 8 rfl) ?_
  refine lv_bipush (v := 15) hx hb dL_hours_248 (by decide) ?_
  refine lv_iconst (v := 0) hx hb dL_hours_250 (by decide) ?_
  refine lv_iconst (v := 0) hx hb dL_hours_251 (by decide) ?_
  refine lv_iconst (v := 0) hx hb dL_hours_252 (by decide) ?_
  refine lv_iconst (v := 0) hx hb dL_hours_253 (by decide) ?_
  refine l_call (X := 562) (K := 563) (CC := 763) (As := [.ref (gad Γ 475), .int 15, .int 0, .int 0, .int 0, .int 0]) (rest := []) (st1 := [.int (nI (kM 13 k))]) hF (q_undo (l := l) (Γ := Γ) (N := N) (Hy := Hy) (k := (kM 13 k)) (w := w) (P := (fX7_pass_L N kx)) hN 0 0) (va_cwS 6 hts qL_call rfl rfl rfl (by decide +kernel) ⟨Nat.le_of_ble_eq_true rfl, Nat.le_of_ble_eq_true rfl⟩) hK hZ hX hY hG hS rfl hl.1 (Nat.le_of_ble_eq_true rfl) dL_hours_254 ⟨Nat.le_of_ble_eq_true rfl, Nat.le_of_ble_eq_true rfl⟩ (by omega) (by omega) rfl rfl (fun H locs hG hS => ?_)
  refine lv_if_lt (tgt := 264) hx hb dL_hours_257 (by decide) (fun c_16 => absurd c_16 (kM_nn 13 0 k (by decide))) (fun c_16 => ?_)
  refine lv_iconst (v := 1) hx hb dL_hours_260 (by decide) ?_
  refine lv_goto (tgt := 265) hx hb dL_hours_261 (by decide) ?_
  refine lv_istore (lv' := [(11, .int 1), (10, .int (fX7_pass_L N h 10 - N 10)), (9, .int ((10 * (N 3)) + (N 4))), (8, .int (N 10)), (7, .int (N (82 + 5 * i + 3))), (6, .int (nI (kx + 1))), (5, .int (fX7_pass_L N h (82 + 5 * i + 4))), (3, .long (sumF N)), (0, .ref (gad Γ 475)), (1, .int (nI i)), (2, .int (nI h))]) hx hb dL_hours_265 hl (by decide) rfl (fun ls hl => ?_)
  refine lv_iload hx hb dL_hours_267 (lv_at hl 0 rfl) ?_
  refine lv_if_eq (tgt := 331) hx hb dL_hours_269 (by decide) (fun c_17 => absurd c_17 (by decide)) (fun c_17 => ?_)
  refine lv_aload_n hx hb dL_hours_272 rfl (lv_at hl 8 rfl) ?_
  refine lv_bipush (v := 14) hx hb dL_hours_273 (by decide) ?_
  refine lv_iload hx hb dL_hours_275 (lv_at hl 5 rfl) ?_
  refine lv_iconst (v := 0) hx hb dL_hours_277 (by decide) ?_
  refine lv_iconst (v := 0) hx hb dL_hours_278 (by decide) ?_
  refine lv_iconst (v := 0) hx hb dL_hours_279 (by decide) ?_
  refine l_call (X := 563) (K := 564) (CC := 763) (As := [.ref (gad Γ 475), .int 14, .int (nI (kx + 1)), .int 0, .int 0, .int 0]) (rest := []) (st1 := [.int (fX7_pass_L N (kx + 1) 10 - N 10)]) hF (q_pass (l := l) (Γ := Γ) (N := N) (Hy := Hy) (k := kM 13 k) (w := w) hst hN hu0 (a := (nI (kx + 1))) (h := kx + 1) rfl 0 (by omega) (by omega) (kN_M (d := 13) (d' := 13) (n := 0) (k := k) (by decide) (by decide) (by decide))) (va_cwS 6 hts qL_call rfl rfl rfl (by decide +kernel) ⟨Nat.le_of_ble_eq_true rfl, Nat.le_of_ble_eq_true rfl⟩) hK hZ hX hY hG hS rfl hl.1 (Nat.le_of_ble_eq_true rfl) dL_hours_280 ⟨Nat.le_of_ble_eq_true rfl, Nat.le_of_ble_eq_true rfl⟩ (by omega) (by omega) rfl rfl (fun H locs hG hS => ?_)
  refine lv_if_le (tgt := 331) hx hb dL_hours_283 (by decide) (fun c_18 => absurd c_18 ((sub_pos (hP2.n10) (hN.n10) (by omega) c10).1)) (fun c_18 => ?_)
  refine lv_aload_n hx hb dL_hours_286 rfl (lv_at hl 8 rfl) ?_
  refine lv_iload_n hx hb dL_hours_287 rfl (lv_at hl 9 rfl) ?_
  refine lv_iconst (v := 3) hx hb dL_hours_288 (by decide) ?_
  refine l_call (X := 564) (K := 565) (CC := 763) (As := [.ref (gad Γ 475), .int (nI i), .int 3]) (rest := []) (st1 := [.int ((fX7_pass_L N (kx + 1)) (82 + 5 * i + 3))]) hF (r_house (N := fX7_pass_L N (kx + 1)) (Hy := cons N Hy) (k := kM 13 k + 1) (w := w) hst hP2 huP2 (a := (nI i)) (d := 3) (i := i) (j := 3) rfl rfl hiP2 (by decide)) (va_cwS 3 hts qL_house rfl rfl rfl (by decide +kernel) ⟨Nat.le_of_ble_eq_true rfl, Nat.le_of_ble_eq_true rfl⟩) hK hZ hX hY hG hS rfl hl.1 (Nat.le_of_ble_eq_true rfl) dL_hours_289 ⟨Nat.le_of_ble_eq_true rfl, Nat.le_of_ble_eq_true rfl⟩ (by omega) (by omega) rfl rfl (fun H locs hG hS => ?_)
  refine lv_iload hx hb dL_hours_292 (lv_at hl 4 rfl) ?_
  refine lv_iconst (v := 1) hx hb dL_hours_294 (by decide) ?_
  refine lv_iadd hx hb dL_hours_295 ?_
  refine lv_icmp_ne (tgt := 331) hx hb dL_hours_296 (by decide) (fun c_19 => absurd cN.1 c_19) (fun c_19 => ?_)
  refine lv_aload_n hx hb dL_hours_299 rfl (lv_at hl 8 rfl) ?_
  refine lv_iload_n hx hb dL_hours_300 rfl (lv_at hl 9 rfl) ?_
  refine lv_iconst (v := 4) hx hb dL_hours_301 (by decide) ?_
  refine l_call (X := 565) (K := 566) (CC := 763) (As := [.ref (gad Γ 475), .int (nI i), .int 4]) (rest := []) (st1 := [.int ((fX7_pass_L N (kx + 1)) (82 + 5 * i + 4))]) hF (r_house (N := fX7_pass_L N (kx + 1)) (Hy := cons N Hy) (k := kM 13 k + 1) (w := w) hst hP2 huP2 (a := (nI i)) (d := 4) (i := i) (j := 4) rfl rfl hiP2 (by decide)) (va_cwS 3 hts qL_house rfl rfl rfl (by decide +kernel) ⟨Nat.le_of_ble_eq_true rfl, Nat.le_of_ble_eq_true rfl⟩) hK hZ hX hY hG hS rfl hl.1 (Nat.le_of_ble_eq_true rfl) dL_hours_302 ⟨Nat.le_of_ble_eq_true rfl, Nat.le_of_ble_eq_true rfl⟩ (by omega) (by omega) rfl rfl (fun H locs hG hS => ?_)
  refine lv_aload_n hx hb dL_hours_305 rfl (lv_at hl 8 rfl) ?_
  refine lv_bipush (v := 7) hx hb dL_hours_306 (by decide) ?_
  refine l_call (X := 566) (K := 567) (CC := 763) (As := [.ref (gad Γ 475), .int 7]) (rest := [.int ((fX7_pass_L N (kx + 1)) (82 + 5 * i + 4))]) (st1 := [.int ((fX7_pass_L N (kx + 1)) 7), .int ((fX7_pass_L N (kx + 1)) (82 + 5 * i + 4))]) hF (r_about (N := fX7_pass_L N (kx + 1)) (Hy := cons N Hy) (k := kM 13 k + 1) (w := w) hst hP2 huP2 (a := 7) (j := 7) rfl (by decide)) (va_cwS 2 hts qL_about rfl rfl rfl (by decide +kernel) ⟨Nat.le_of_ble_eq_true rfl, Nat.le_of_ble_eq_true rfl⟩) hK hZ hX hY hG hS rfl hl.1 (Nat.le_of_ble_eq_true rfl) dL_hours_308 ⟨Nat.le_of_ble_eq_true rfl, Nat.le_of_ble_eq_true rfl⟩ (by omega) (by omega) rfl rfl (fun H locs hG hS => ?_)
  refine lv_icmp_lt (tgt := 331) hx hb dL_hours_311 (by decide) (fun c_20 => absurd c_20 cN.2) (fun c_20 => ?_)
  refine lv_aload_n hx hb dL_hours_314 rfl (lv_at hl 8 rfl) ?_
  refine lv_bipush (v := 15) hx hb dL_hours_315 (by decide) ?_
  refine lv_iconst (v := 0) hx hb dL_hours_317 (by decide) ?_
  refine lv_iconst (v := 0) hx hb dL_hours_318 (by decide) ?_
  refine lv_iconst (v := 0) hx hb dL_hours_319 (by decide) ?_
  refine lv_iconst (v := 0) hx hb dL_hours_320 (by decide) ?_
  refine l_call (X := 567) (K := 568) (CC := 763) (As := [.ref (gad Γ 475), .int 15, .int 0, .int 0, .int 0, .int 0]) (rest := []) (st1 := [.int (nI (kM 13 k))]) hF (q_undo (l := l) (Γ := Γ) (N := N) (Hy := Hy) (k := (kM 13 k)) (w := w) (P := (fX7_pass_L N (kx + 1))) hN 0 0) (va_cwS 6 hts qL_call rfl rfl rfl (by decide +kernel) ⟨Nat.le_of_ble_eq_true rfl, Nat.le_of_ble_eq_true rfl⟩) hK hZ hX hY hG hS rfl hl.1 (Nat.le_of_ble_eq_true rfl) dL_hours_321 ⟨Nat.le_of_ble_eq_true rfl, Nat.le_of_ble_eq_true rfl⟩ (by omega) (by omega) rfl rfl (fun H locs hG hS => ?_)
  refine lv_if_lt (tgt := 331) hx hb dL_hours_324 (by decide) (fun c_21 => absurd c_21 (kM_nn 13 0 k (by decide))) (fun c_21 => ?_)
  refine lv_iconst (v := 1) hx hb dL_hours_327 (by decide) ?_
  refine lv_goto (tgt := 332) hx hb dL_hours_328 (by decide) ?_
  refine lv_istore (lv' := [(11, .int 1), (10, .int (fX7_pass_L N h 10 - N 10)), (9, .int ((10 * (N 3)) + (N 4))), (8, .int (N 10)), (7, .int (N (82 + 5 * i + 3))), (6, .int (nI (kx + 1))), (5, .int (fX7_pass_L N h (82 + 5 * i + 4))), (3, .long (sumF N)), (0, .ref (gad Γ 475)), (1, .int (nI i)), (2, .int (nI h))]) hx hb dL_hours_332 hl (by decide) rfl (fun ls hl => ?_)
  refine lv_iload hx hb dL_hours_334 (lv_at hl 0 rfl) ?_
  refine lv_if_eq (tgt := 352) hx hb dL_hours_336 (by decide) (fun c_22 => absurd c_22 (by decide)) (fun c_22 => ?_)
  refine lv_aload_n hx hb dL_hours_339 rfl (lv_at hl 8 rfl) ?_
  refine l_call (X := 568) (K := 744) (CC := 763) (As := [.ref (gad Γ 475)]) (rest := []) (st1 := [.long (sumF N)]) hF (L_sum (N := N) (Hy := Hy) (k := kM 13 k) (w := w) hst hN hu0) (va_cwS 1 hts qL_sum rfl rfl rfl (by decide +kernel) ⟨Nat.le_of_ble_eq_true rfl, Nat.le_of_ble_eq_true rfl⟩) hK hZ hX hY hG hS rfl hl.1 (Nat.le_of_ble_eq_true rfl) dL_hours_340 ⟨Nat.le_of_ble_eq_true rfl, Nat.le_of_ble_eq_true rfl⟩ (by omega) (by omega) rfl rfl (fun H locs hG hS => ?_)
  refine lv_lload_n hx hb dL_hours_343 rfl (lv_at hl 7 rfl) ?_
  refine W.lcmp hx hb dL_hours_344 ?_
  refine gl_ne (tgt := 352) hx hb dL_hours_345 (by decide) (fun c_23 => absurd rfl c_23) (fun c_23 => ?_)
  refine lv_iconst (v := 1) hx hb dL_hours_348 (by decide) ?_
  refine lv_goto (tgt := 353) hx hb dL_hours_349 (by decide) ?_
  exact l_zret hx hb hrt hlocks hS hG (by decide) rfl (by omega) dL_hours_353

theorem L_hours {l : Launch} {Γ : gX} (hst : l.stackTraces = false) {u : Nat} {N : Nat → Int32} {Hy : Nat → Nat → Int32} {k : Nat} {w : WO} (hN : PI u N) (hu : 1998 * (u + 10000) < 2 ^ 31) (hG0 : GD N) (hk : k ≤ 14) {i h : Nat} (hi : i < (N 1).toNatClampNeg) (h1 : 1 ≤ h) (h2 : h ≤ 20) : lM l Γ yL_hours wqL_hours 13 296 763 [.ref (gad Γ 475), .int (nI i), .int (nI h)] (SH Γ N Hy k w) (some (.int 1)) (SH Γ N Hy (kM 13 k) w) := by
  have b1 := hN.h8.2
  have hv : v_complainsIn N (nI i) = if lst (CC N i) 50 < 50 then nI (lst (CC N i) 50 + 1) else -9 := by
    unfold v_complainsIn
    rw [nI_clamp (by omega)]
  by_cases q : lst (CC N i) 50 < 50
  · rw [if_pos q] at hv
    by_cases z : lst (CC N i) 50 = 0
    · rw [z] at hv
      exact L_hours_B hst hN hu hG0 hk hi h1 h2 z.symm hv
    · rcases Nat.lt_or_ge (lst (CC N i) 50) h with y | y
      · exact L_hours_C2 hst hN hu hG0 hk hi h1 h2 rfl (by omega) q hv y
      · exact L_hours_C1 hst hN hu hG0 hk hi h1 h2 rfl (by omega) q hv y
  · rw [if_neg q] at hv
    exact L_hours_A hst hN hu hG0 hk hi h1 h2 q hv
