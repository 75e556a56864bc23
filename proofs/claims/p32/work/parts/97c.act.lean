/-! THE LAW: act. Laid by gen/r99.py. -/
set_option maxRecDepth 16384
set_option maxHeartbeats 4000000 in
set_option maxRecDepth 100000 in
theorem L_act_0 {l : Launch} {Γ : gX} (hst : l.stackTraces = false) {u : Nat} {N : Nat → Int32} {Hy : Nat → Nat → Int32} {k : Nat} {w : WO} (hN : PI u N) (hu : 1998 * (u + 10000) < 2 ^ 31) {x y : Nat} (hx0 : x < 2 ^ 31) (hy0 : y < 2 ^ 31) (hc : x % 16 = 0) : lM l Γ yL_act wqL_act 12 262 3 [.ref (gad Γ 475), .int (nI x), .int (nI y)] (SH Γ N Hy k w) (some (.int (vA (rfAH N (nI (y % (N 0).toNatClampNeg)) (nI (y / 16 % 10))) ecS (v_addHouse N (nI (y % (N 0).toNatClampNeg)) (nI (y / 16 % 10)))))) (SH Γ (n_addHouse N (nI (y % (N 0).toNatClampNeg)) (nI (y / 16 % 10))) (hA (rfAH N (nI (y % (N 0).toNatClampNeg)) (nI (y / 16 % 10))) N Hy) (kA (rfAH N (nI (y % (N 0).toNatClampNeg)) (nI (y / 16 % 10))) k) w) := by
  refine l_start (cc := cL_act) (maxL := 5) (ret := (some .int)) (by decide) rfl (Nat.le_of_ble_eq_true rfl) ?_
  intro p e s m below meth c ls hx hb hml hrt hts hown hlocks hK hZ hX hY hG hS hl
  have hl : lv_has ls 5 [(0, .ref (gad Γ 475)), (1, .int (nI x)), (2, .int (nI y))] := hl
  have hown : s.vm.findClass RL = some m.cls := hown
  have hF : CallFix p m c cL_act 5 s _ wqL_act RL := ⟨hx, hb, hml, hown, hts⟩
  have hu0 : 1998 * (u + 5000) < 2 ^ 31 := by omega
  have b0 := hN.s10.2
  have hSe := hN.s10.1
  have hSp : 0 < (N 0).toNatClampNeg := hN.2.1
  have hS31 : (N 0).toNatClampNeg < 2 ^ 31 := by omega
  have hS0 : ¬ nI (N 0).toNatClampNeg = 0 := nI_ne0 hSp hS31
  refine lv_aload_n hx hb dL_act_0 rfl (lv_at hl 0 rfl) ?_
  refine lv_iconst (v := 0) hx hb dL_act_1 (by decide) ?_
  refine l_call (X := 0) (K := 1) (CC := 3) (As := [.ref (gad Γ 475), .int 0]) (rest := []) (st1 := [.int (N 0)]) hF (r_about (N := N) (Hy := Hy) (k := k) (w := w) hst hN hu0 (a := 0) (j := 0) rfl (by decide)) (va_cwS 2 hts qL_about rfl rfl rfl (by decide +kernel) ⟨Nat.le_of_ble_eq_true rfl, Nat.le_of_ble_eq_true rfl⟩) hK hZ hX hY hG hS rfl hl.1 (Nat.le_of_ble_eq_true rfl) dL_act_2 ⟨Nat.le_of_ble_eq_true rfl, Nat.le_of_ble_eq_true rfl⟩ (by omega) (by omega) rfl rfl (fun H locs hG hS => ?_)
  refine g_top (y := (nI (N 0).toNatClampNeg)) hSe ?_
  refine lv_istore_n (lv' := [(3, .int (nI (N 0).toNatClampNeg)), (0, .ref (gad Γ 475)), (1, .int (nI x)), (2, .int (nI y))]) hx hb dL_act_5 rfl hl (by decide) rfl (fun ls hl => ?_)
  refine lv_iload_n hx hb dL_act_6 rfl (lv_at hl 3 rfl) ?_
  refine lv_bipush (v := 16) hx hb dL_act_7 (by decide) ?_
  refine lv_idiv hx hb dL_act_9 (by decide) ?_
  refine g_top (y := nI (y / 16)) (pk_div (a := y) (d := 16) (by omega) (by decide) (by decide)) ?_
  refine lv_iconst (v := 3) hx hb dL_act_10 (by decide) ?_
  refine lv_irem hx hb dL_act_11 (by decide) ?_
  refine g_top (y := nI ((y / 16) % 3)) (pk_rem (a := (y / 16)) (d := 3) (by omega) (by decide) (by decide)) ?_
  refine lv_istore (lv' := [(4, .int (nI ((y / 16) % 3))), (3, .int (nI (N 0).toNatClampNeg)), (0, .ref (gad Γ 475)), (1, .int (nI x)), (2, .int (nI y))]) hx hb dL_act_12 hl (by decide) rfl (fun ls hl => ?_)
  refine lv_iload_n hx hb dL_act_14 rfl (lv_at hl 3 rfl) ?_
  refine lv_bipush (v := 16) hx hb dL_act_15 (by decide) ?_
  refine lv_irem hx hb dL_act_17 (by decide) ?_
  refine g_top (y := 0) ((pk_rem (a := x) (d := 16) (by omega) (by decide) (by decide)).trans (congrArg nI hc)) ?_
  refine lv_tableIn (tgt := 92) hx hb dL_act_18 (by decide) (by decide) rfl (by decide) ?_
  refine lv_aload_n hx hb dL_act_92 rfl (lv_at hl 2 rfl) ?_
  refine lv_bipush (v := 6) hx hb dL_act_93 (by decide) ?_
  refine lv_iload_n hx hb dL_act_95 rfl (lv_at hl 4 rfl) ?_
  refine lv_iload_n hx hb dL_act_96 rfl (lv_at hl 1 rfl) ?_
  refine lv_irem hx hb dL_act_97 hS0 ?_
  refine g_top (y := nI (y % ((N 0).toNatClampNeg))) (pk_rem (a := y) (d := ((N 0).toNatClampNeg)) (by omega) hSp hS31) ?_
  refine lv_iload_n hx hb dL_act_98 rfl (lv_at hl 4 rfl) ?_
  refine lv_bipush (v := 16) hx hb dL_act_99 (by decide) ?_
  refine lv_idiv hx hb dL_act_101 (by decide) ?_
  refine g_top (y := nI (y / 16)) (pk_div (a := y) (d := 16) (by omega) (by decide) (by decide)) ?_
  refine lv_bipush (v := 10) hx hb dL_act_102 (by decide) ?_
  refine lv_irem hx hb dL_act_104 (by decide) ?_
  refine g_top (y := nI ((y / 16) % 10)) (pk_rem (a := (y / 16)) (d := 10) (by omega) (by decide) (by decide)) ?_
  refine lv_iconst (v := 0) hx hb dL_act_105 (by decide) ?_
  refine lv_iconst (v := 0) hx hb dL_act_106 (by decide) ?_
  refine l_call (X := 1) (K := 2) (CC := 3) (As := [.ref (gad Γ 475), .int 6, .int (nI (y % ((N 0).toNatClampNeg))), .int (nI ((y / 16) % 10)), .int 0, .int 0]) (rest := []) (st1 := [.int (vA (rfAH N (nI (y % (N 0).toNatClampNeg)) (nI (y / 16 % 10))) ecS (v_addHouse N (nI (y % (N 0).toNatClampNeg)) (nI (y / 16 % 10))))]) hF (lc_tryBuild (nI (y % (N 0).toNatClampNeg)) (nI (y / 16 % 10)) 0 0 (cl_addHouse (l := l) (Γ := Γ) hst (H := Hy) (k := k) (w := w) hN hu0 (nI (y % (N 0).toNatClampNeg)) (nI (y / 16 % 10)))) (va_cwS 6 hts qL_call rfl rfl rfl (by decide +kernel) ⟨Nat.le_of_ble_eq_true rfl, Nat.le_of_ble_eq_true rfl⟩) hK hZ hX hY hG hS rfl hl.1 (Nat.le_of_ble_eq_true rfl) dL_act_107 ⟨Nat.le_of_ble_eq_true rfl, Nat.le_of_ble_eq_true rfl⟩ (by omega) (by omega) rfl rfl (fun H locs hG hS => ?_)
  exact l_iret hx hb hrt hlocks hS hG rfl (by omega) dL_act_110

set_option maxHeartbeats 4000000 in
set_option maxRecDepth 100000 in
theorem L_act_1 {l : Launch} {Γ : gX} (hst : l.stackTraces = false) {u : Nat} {N : Nat → Int32} {Hy : Nat → Nat → Int32} {k : Nat} {w : WO} (hN : PI u N) (hu : 1998 * (u + 10000) < 2 ^ 31) {x y : Nat} (hx0 : x < 2 ^ 31) (hy0 : y < 2 ^ 31) (hc : x % 16 = 1) : lM l Γ yL_act wqL_act 12 262 3 [.ref (gad Γ 475), .int (nI x), .int (nI y)] (SH Γ N Hy k w) (some (.int (vA (rfAW N (nI (y % (N 0).toNatClampNeg))) ecT (v_addWagon N (nI (y % (N 0).toNatClampNeg)))))) (SH Γ (n_addWagon N (nI (y % (N 0).toNatClampNeg))) (hA (rfAW N (nI (y % (N 0).toNatClampNeg))) N Hy) (kA (rfAW N (nI (y % (N 0).toNatClampNeg))) k) w) := by
  refine l_start (cc := cL_act) (maxL := 5) (ret := (some .int)) (by decide) rfl (Nat.le_of_ble_eq_true rfl) ?_
  intro p e s m below meth c ls hx hb hml hrt hts hown hlocks hK hZ hX hY hG hS hl
  have hl : lv_has ls 5 [(0, .ref (gad Γ 475)), (1, .int (nI x)), (2, .int (nI y))] := hl
  have hown : s.vm.findClass RL = some m.cls := hown
  have hF : CallFix p m c cL_act 5 s _ wqL_act RL := ⟨hx, hb, hml, hown, hts⟩
  have hu0 : 1998 * (u + 5000) < 2 ^ 31 := by omega
  have b0 := hN.s10.2
  have hSe := hN.s10.1
  have hSp : 0 < (N 0).toNatClampNeg := hN.2.1
  have hS31 : (N 0).toNatClampNeg < 2 ^ 31 := by omega
  have hS0 : ¬ nI (N 0).toNatClampNeg = 0 := nI_ne0 hSp hS31
  refine lv_aload_n hx hb dL_act_0 rfl (lv_at hl 0 rfl) ?_
  refine lv_iconst (v := 0) hx hb dL_act_1 (by decide) ?_
  refine l_call (X := 0) (K := 1) (CC := 3) (As := [.ref (gad Γ 475), .int 0]) (rest := []) (st1 := [.int (N 0)]) hF (r_about (N := N) (Hy := Hy) (k := k) (w := w) hst hN hu0 (a := 0) (j := 0) rfl (by decide)) (va_cwS 2 hts qL_about rfl rfl rfl (by decide +kernel) ⟨Nat.le_of_ble_eq_true rfl, Nat.le_of_ble_eq_true rfl⟩) hK hZ hX hY hG hS rfl hl.1 (Nat.le_of_ble_eq_true rfl) dL_act_2 ⟨Nat.le_of_ble_eq_true rfl, Nat.le_of_ble_eq_true rfl⟩ (by omega) (by omega) rfl rfl (fun H locs hG hS => ?_)
  refine g_top (y := (nI (N 0).toNatClampNeg)) hSe ?_
  refine lv_istore_n (lv' := [(3, .int (nI (N 0).toNatClampNeg)), (0, .ref (gad Γ 475)), (1, .int (nI x)), (2, .int (nI y))]) hx hb dL_act_5 rfl hl (by decide) rfl (fun ls hl => ?_)
  refine lv_iload_n hx hb dL_act_6 rfl (lv_at hl 3 rfl) ?_
  refine lv_bipush (v := 16) hx hb dL_act_7 (by decide) ?_
  refine lv_idiv hx hb dL_act_9 (by decide) ?_
  refine g_top (y := nI (y / 16)) (pk_div (a := y) (d := 16) (by omega) (by decide) (by decide)) ?_
  refine lv_iconst (v := 3) hx hb dL_act_10 (by decide) ?_
  refine lv_irem hx hb dL_act_11 (by decide) ?_
  refine g_top (y := nI ((y / 16) % 3)) (pk_rem (a := (y / 16)) (d := 3) (by omega) (by decide) (by decide)) ?_
  refine lv_istore (lv' := [(4, .int (nI ((y / 16) % 3))), (3, .int (nI (N 0).toNatClampNeg)), (0, .ref (gad Γ 475)), (1, .int (nI x)), (2, .int (nI y))]) hx hb dL_act_12 hl (by decide) rfl (fun ls hl => ?_)
  refine lv_iload_n hx hb dL_act_14 rfl (lv_at hl 3 rfl) ?_
  refine lv_bipush (v := 16) hx hb dL_act_15 (by decide) ?_
  refine lv_irem hx hb dL_act_17 (by decide) ?_
  refine g_top (y := 1) ((pk_rem (a := x) (d := 16) (by omega) (by decide) (by decide)).trans (congrArg nI hc)) ?_
  refine lv_tableIn (tgt := 111) hx hb dL_act_18 (by decide) (by decide) rfl (by decide) ?_
  refine lv_aload_n hx hb dL_act_111 rfl (lv_at hl 2 rfl) ?_
  refine lv_bipush (v := 7) hx hb dL_act_112 (by decide) ?_
  refine lv_iload_n hx hb dL_act_114 rfl (lv_at hl 4 rfl) ?_
  refine lv_iload_n hx hb dL_act_115 rfl (lv_at hl 1 rfl) ?_
  refine lv_irem hx hb dL_act_116 hS0 ?_
  refine g_top (y := nI (y % ((N 0).toNatClampNeg))) (pk_rem (a := y) (d := ((N 0).toNatClampNeg)) (by omega) hSp hS31) ?_
  refine lv_iconst (v := 0) hx hb dL_act_117 (by decide) ?_
  refine lv_iconst (v := 0) hx hb dL_act_118 (by decide) ?_
  refine lv_iconst (v := 0) hx hb dL_act_119 (by decide) ?_
  refine l_call (X := 1) (K := 2) (CC := 3) (As := [.ref (gad Γ 475), .int 7, .int (nI (y % ((N 0).toNatClampNeg))), .int 0, .int 0, .int 0]) (rest := []) (st1 := [.int (vA (rfAW N (nI (y % (N 0).toNatClampNeg))) ecT (v_addWagon N (nI (y % (N 0).toNatClampNeg))))]) hF (lc_tryBring (nI (y % (N 0).toNatClampNeg)) 0 0 0 (cl_addWagon (l := l) (Γ := Γ) hst (H := Hy) (k := k) (w := w) hN hu0 (nI (y % (N 0).toNatClampNeg)))) (va_cwS 6 hts qL_call rfl rfl rfl (by decide +kernel) ⟨Nat.le_of_ble_eq_true rfl, Nat.le_of_ble_eq_true rfl⟩) hK hZ hX hY hG hS rfl hl.1 (Nat.le_of_ble_eq_true rfl) dL_act_120 ⟨Nat.le_of_ble_eq_true rfl, Nat.le_of_ble_eq_true rfl⟩ (by omega) (by omega) rfl rfl (fun H locs hG hS => ?_)
  exact l_iret hx hb hrt hlocks hS hG rfl (by omega) dL_act_123

set_option maxHeartbeats 4000000 in
set_option maxRecDepth 100000 in
theorem L_act_2 {l : Launch} {Γ : gX} (hst : l.stackTraces = false) {u : Nat} {N : Nat → Int32} {Hy : Nat → Nat → Int32} {k : Nat} {w : WO} (hN : PI u N) (hu : 1998 * (u + 10000) < 2 ^ 31) {x y : Nat} (hx0 : x < 2 ^ 31) (hy0 : y < 2 ^ 31) (hc : x % 16 = 2) : lM l Γ yL_act wqL_act 12 262 3 [.ref (gad Γ 475), .int (nI x), .int (nI y)] (SH Γ N Hy k w) (some (.int (vA (rfSS N (nI (y % (N 0).toNatClampNeg)) (nI (y / 16 % 3))) ecS (v_setSurface N (nI (y % (N 0).toNatClampNeg)) (nI (y / 16 % 3)))))) (SH Γ (n_setSurface N (nI (y % (N 0).toNatClampNeg)) (nI (y / 16 % 3))) (hA (rfSS N (nI (y % (N 0).toNatClampNeg)) (nI (y / 16 % 3))) N Hy) (kA (rfSS N (nI (y % (N 0).toNatClampNeg)) (nI (y / 16 % 3))) k) w) := by
  refine l_start (cc := cL_act) (maxL := 5) (ret := (some .int)) (by decide) rfl (Nat.le_of_ble_eq_true rfl) ?_
  intro p e s m below meth c ls hx hb hml hrt hts hown hlocks hK hZ hX hY hG hS hl
  have hl : lv_has ls 5 [(0, .ref (gad Γ 475)), (1, .int (nI x)), (2, .int (nI y))] := hl
  have hown : s.vm.findClass RL = some m.cls := hown
  have hF : CallFix p m c cL_act 5 s _ wqL_act RL := ⟨hx, hb, hml, hown, hts⟩
  have hu0 : 1998 * (u + 5000) < 2 ^ 31 := by omega
  have b0 := hN.s10.2
  have hSe := hN.s10.1
  have hSp : 0 < (N 0).toNatClampNeg := hN.2.1
  have hS31 : (N 0).toNatClampNeg < 2 ^ 31 := by omega
  have hS0 : ¬ nI (N 0).toNatClampNeg = 0 := nI_ne0 hSp hS31
  refine lv_aload_n hx hb dL_act_0 rfl (lv_at hl 0 rfl) ?_
  refine lv_iconst (v := 0) hx hb dL_act_1 (by decide) ?_
  refine l_call (X := 0) (K := 1) (CC := 3) (As := [.ref (gad Γ 475), .int 0]) (rest := []) (st1 := [.int (N 0)]) hF (r_about (N := N) (Hy := Hy) (k := k) (w := w) hst hN hu0 (a := 0) (j := 0) rfl (by decide)) (va_cwS 2 hts qL_about rfl rfl rfl (by decide +kernel) ⟨Nat.le_of_ble_eq_true rfl, Nat.le_of_ble_eq_true rfl⟩) hK hZ hX hY hG hS rfl hl.1 (Nat.le_of_ble_eq_true rfl) dL_act_2 ⟨Nat.le_of_ble_eq_true rfl, Nat.le_of_ble_eq_true rfl⟩ (by omega) (by omega) rfl rfl (fun H locs hG hS => ?_)
  refine g_top (y := (nI (N 0).toNatClampNeg)) hSe ?_
  refine lv_istore_n (lv' := [(3, .int (nI (N 0).toNatClampNeg)), (0, .ref (gad Γ 475)), (1, .int (nI x)), (2, .int (nI y))]) hx hb dL_act_5 rfl hl (by decide) rfl (fun ls hl => ?_)
  refine lv_iload_n hx hb dL_act_6 rfl (lv_at hl 3 rfl) ?_
  refine lv_bipush (v := 16) hx hb dL_act_7 (by decide) ?_
  refine lv_idiv hx hb dL_act_9 (by decide) ?_
  refine g_top (y := nI (y / 16)) (pk_div (a := y) (d := 16) (by omega) (by decide) (by decide)) ?_
  refine lv_iconst (v := 3) hx hb dL_act_10 (by decide) ?_
  refine lv_irem hx hb dL_act_11 (by decide) ?_
  refine g_top (y := nI ((y / 16) % 3)) (pk_rem (a := (y / 16)) (d := 3) (by omega) (by decide) (by decide)) ?_
  refine lv_istore (lv' := [(4, .int (nI ((y / 16) % 3))), (3, .int (nI (N 0).toNatClampNeg)), (0, .ref (gad Γ 475)), (1, .int (nI x)), (2, .int (nI y))]) hx hb dL_act_12 hl (by decide) rfl (fun ls hl => ?_)
  refine lv_iload_n hx hb dL_act_14 rfl (lv_at hl 3 rfl) ?_
  refine lv_bipush (v := 16) hx hb dL_act_15 (by decide) ?_
  refine lv_irem hx hb dL_act_17 (by decide) ?_
  refine g_top (y := 2) ((pk_rem (a := x) (d := 16) (by omega) (by decide) (by decide)).trans (congrArg nI hc)) ?_
  refine lv_tableIn (tgt := 124) hx hb dL_act_18 (by decide) (by decide) rfl (by decide) ?_
  refine lv_aload_n hx hb dL_act_124 rfl (lv_at hl 2 rfl) ?_
  refine lv_bipush (v := 8) hx hb dL_act_125 (by decide) ?_
  refine lv_iload_n hx hb dL_act_127 rfl (lv_at hl 4 rfl) ?_
  refine lv_iload_n hx hb dL_act_128 rfl (lv_at hl 1 rfl) ?_
  refine lv_irem hx hb dL_act_129 hS0 ?_
  refine g_top (y := nI (y % ((N 0).toNatClampNeg))) (pk_rem (a := y) (d := ((N 0).toNatClampNeg)) (by omega) hSp hS31) ?_
  refine lv_iload_n hx hb dL_act_130 rfl (lv_at hl 4 rfl) ?_
  refine lv_bipush (v := 16) hx hb dL_act_131 (by decide) ?_
  refine lv_idiv hx hb dL_act_133 (by decide) ?_
  refine g_top (y := nI (y / 16)) (pk_div (a := y) (d := 16) (by omega) (by decide) (by decide)) ?_
  refine lv_iconst (v := 3) hx hb dL_act_134 (by decide) ?_
  refine lv_irem hx hb dL_act_135 (by decide) ?_
  refine g_top (y := nI ((y / 16) % 3)) (pk_rem (a := (y / 16)) (d := 3) (by omega) (by decide) (by decide)) ?_
  refine lv_iconst (v := 0) hx hb dL_act_136 (by decide) ?_
  refine lv_iconst (v := 0) hx hb dL_act_137 (by decide) ?_
  refine l_call (X := 1) (K := 2) (CC := 3) (As := [.ref (gad Γ 475), .int 8, .int (nI (y % ((N 0).toNatClampNeg))), .int (nI ((y / 16) % 3)), .int 0, .int 0]) (rest := []) (st1 := [.int (vA (rfSS N (nI (y % (N 0).toNatClampNeg)) (nI (y / 16 % 3))) ecS (v_setSurface N (nI (y % (N 0).toNatClampNeg)) (nI (y / 16 % 3))))]) hF (lc_trySurface (nI (y % (N 0).toNatClampNeg)) (nI (y / 16 % 3)) 0 0 (cl_setSurface (l := l) (Γ := Γ) hst (H := Hy) (k := k) (w := w) hN hu0 (nI (y % (N 0).toNatClampNeg)) (nI (y / 16 % 3)))) (va_cwS 6 hts qL_call rfl rfl rfl (by decide +kernel) ⟨Nat.le_of_ble_eq_true rfl, Nat.le_of_ble_eq_true rfl⟩) hK hZ hX hY hG hS rfl hl.1 (Nat.le_of_ble_eq_true rfl) dL_act_138 ⟨Nat.le_of_ble_eq_true rfl, Nat.le_of_ble_eq_true rfl⟩ (by omega) (by omega) rfl rfl (fun H locs hG hS => ?_)
  exact l_iret hx hb hrt hlocks hS hG rfl (by omega) dL_act_141

set_option maxHeartbeats 4000000 in
set_option maxRecDepth 100000 in
theorem L_act_3 {l : Launch} {Γ : gX} (hst : l.stackTraces = false) {u : Nat} {N : Nat → Int32} {Hy : Nat → Nat → Int32} {k : Nat} {w : WO} (hN : PI u N) (hu : 1998 * (u + 10000) < 2 ^ 31) {x y : Nat} (hx0 : x < 2 ^ 31) (hy0 : y < 2 ^ 31) (hc : x % 16 = 3) : lM l Γ yL_act wqL_act 12 262 3 [.ref (gad Γ 475), .int (nI x), .int (nI y)] (SH Γ N Hy k w) (some (.int (vA (rfSL N (nI (y % (N 0).toNatClampNeg)) (nI (1 + y / 16 % 5))) ecS (v_setLimit N (nI (y % (N 0).toNatClampNeg)) (nI (1 + y / 16 % 5)))))) (SH Γ (n_setLimit N (nI (y % (N 0).toNatClampNeg)) (nI (1 + y / 16 % 5))) (hA (rfSL N (nI (y % (N 0).toNatClampNeg)) (nI (1 + y / 16 % 5))) N Hy) (kA (rfSL N (nI (y % (N 0).toNatClampNeg)) (nI (1 + y / 16 % 5))) k) w) := by
  refine l_start (cc := cL_act) (maxL := 5) (ret := (some .int)) (by decide) rfl (Nat.le_of_ble_eq_true rfl) ?_
  intro p e s m below meth c ls hx hb hml hrt hts hown hlocks hK hZ hX hY hG hS hl
  have hl : lv_has ls 5 [(0, .ref (gad Γ 475)), (1, .int (nI x)), (2, .int (nI y))] := hl
  have hown : s.vm.findClass RL = some m.cls := hown
  have hF : CallFix p m c cL_act 5 s _ wqL_act RL := ⟨hx, hb, hml, hown, hts⟩
  have hu0 : 1998 * (u + 5000) < 2 ^ 31 := by omega
  have b0 := hN.s10.2
  have hSe := hN.s10.1
  have hSp : 0 < (N 0).toNatClampNeg := hN.2.1
  have hS31 : (N 0).toNatClampNeg < 2 ^ 31 := by omega
  have hS0 : ¬ nI (N 0).toNatClampNeg = 0 := nI_ne0 hSp hS31
  refine lv_aload_n hx hb dL_act_0 rfl (lv_at hl 0 rfl) ?_
  refine lv_iconst (v := 0) hx hb dL_act_1 (by decide) ?_
  refine l_call (X := 0) (K := 1) (CC := 3) (As := [.ref (gad Γ 475), .int 0]) (rest := []) (st1 := [.int (N 0)]) hF (r_about (N := N) (Hy := Hy) (k := k) (w := w) hst hN hu0 (a := 0) (j := 0) rfl (by decide)) (va_cwS 2 hts qL_about rfl rfl rfl (by decide +kernel) ⟨Nat.le_of_ble_eq_true rfl, Nat.le_of_ble_eq_true rfl⟩) hK hZ hX hY hG hS rfl hl.1 (Nat.le_of_ble_eq_true rfl) dL_act_2 ⟨Nat.le_of_ble_eq_true rfl, Nat.le_of_ble_eq_true rfl⟩ (by omega) (by omega) rfl rfl (fun H locs hG hS => ?_)
  refine g_top (y := (nI (N 0).toNatClampNeg)) hSe ?_
  refine lv_istore_n (lv' := [(3, .int (nI (N 0).toNatClampNeg)), (0, .ref (gad Γ 475)), (1, .int (nI x)), (2, .int (nI y))]) hx hb dL_act_5 rfl hl (by decide) rfl (fun ls hl => ?_)
  refine lv_iload_n hx hb dL_act_6 rfl (lv_at hl 3 rfl) ?_
  refine lv_bipush (v := 16) hx hb dL_act_7 (by decide) ?_
  refine lv_idiv hx hb dL_act_9 (by decide) ?_
  refine g_top (y := nI (y / 16)) (pk_div (a := y) (d := 16) (by omega) (by decide) (by decide)) ?_
  refine lv_iconst (v := 3) hx hb dL_act_10 (by decide) ?_
  refine lv_irem hx hb dL_act_11 (by decide) ?_
  refine g_top (y := nI ((y / 16) % 3)) (pk_rem (a := (y / 16)) (d := 3) (by omega) (by decide) (by decide)) ?_
  refine lv_istore (lv' := [(4, .int (nI ((y / 16) % 3))), (3, .int (nI (N 0).toNatClampNeg)), (0, .ref (gad Γ 475)), (1, .int (nI x)), (2, .int (nI y))]) hx hb dL_act_12 hl (by decide) rfl (fun ls hl => ?_)
  refine lv_iload_n hx hb dL_act_14 rfl (lv_at hl 3 rfl) ?_
  refine lv_bipush (v := 16) hx hb dL_act_15 (by decide) ?_
  refine lv_irem hx hb dL_act_17 (by decide) ?_
  refine g_top (y := 3) ((pk_rem (a := x) (d := 16) (by omega) (by decide) (by decide)).trans (congrArg nI hc)) ?_
  refine lv_tableIn (tgt := 142) hx hb dL_act_18 (by decide) (by decide) rfl (by decide) ?_
  refine lv_aload_n hx hb dL_act_142 rfl (lv_at hl 2 rfl) ?_
  refine lv_bipush (v := 9) hx hb dL_act_143 (by decide) ?_
  refine lv_iload_n hx hb dL_act_145 rfl (lv_at hl 4 rfl) ?_
  refine lv_iload_n hx hb dL_act_146 rfl (lv_at hl 1 rfl) ?_
  refine lv_irem hx hb dL_act_147 hS0 ?_
  refine g_top (y := nI (y % ((N 0).toNatClampNeg))) (pk_rem (a := y) (d := ((N 0).toNatClampNeg)) (by omega) hSp hS31) ?_
  refine lv_iconst (v := 1) hx hb dL_act_148 (by decide) ?_
  refine lv_iload_n hx hb dL_act_149 rfl (lv_at hl 4 rfl) ?_
  refine lv_bipush (v := 16) hx hb dL_act_150 (by decide) ?_
  refine lv_idiv hx hb dL_act_152 (by decide) ?_
  refine g_top (y := nI (y / 16)) (pk_div (a := y) (d := 16) (by omega) (by decide) (by decide)) ?_
  refine lv_iconst (v := 5) hx hb dL_act_153 (by decide) ?_
  refine lv_irem hx hb dL_act_154 (by decide) ?_
  refine g_top (y := nI ((y / 16) % 5)) (pk_rem (a := (y / 16)) (d := 5) (by omega) (by decide) (by decide)) ?_
  refine lv_iadd hx hb dL_act_155 ?_
  refine g_top (show _ = nI (1 + ((y / 16) % 5)) from nI_add _ _) ?_
  refine lv_iconst (v := 0) hx hb dL_act_156 (by decide) ?_
  refine lv_iconst (v := 0) hx hb dL_act_157 (by decide) ?_
  refine l_call (X := 1) (K := 2) (CC := 3) (As := [.ref (gad Γ 475), .int 9, .int (nI (y % ((N 0).toNatClampNeg))), .int (nI (1 + ((y / 16) % 5))), .int 0, .int 0]) (rest := []) (st1 := [.int (vA (rfSL N (nI (y % (N 0).toNatClampNeg)) (nI (1 + y / 16 % 5))) ecS (v_setLimit N (nI (y % (N 0).toNatClampNeg)) (nI (1 + y / 16 % 5))))]) hF (lc_tryLimit (nI (y % (N 0).toNatClampNeg)) (nI (1 + y / 16 % 5)) 0 0 (cl_setLimit (l := l) (Γ := Γ) hst (H := Hy) (k := k) (w := w) hN hu0 (nI (y % (N 0).toNatClampNeg)) (nI (1 + y / 16 % 5)))) (va_cwS 6 hts qL_call rfl rfl rfl (by decide +kernel) ⟨Nat.le_of_ble_eq_true rfl, Nat.le_of_ble_eq_true rfl⟩) hK hZ hX hY hG hS rfl hl.1 (Nat.le_of_ble_eq_true rfl) dL_act_158 ⟨Nat.le_of_ble_eq_true rfl, Nat.le_of_ble_eq_true rfl⟩ (by omega) (by omega) rfl rfl (fun H locs hG hS => ?_)
  exact l_iret hx hb hrt hlocks hS hG rfl (by omega) dL_act_161

set_option maxHeartbeats 4000000 in
set_option maxRecDepth 100000 in
theorem L_act_4a {l : Launch} {Γ : gX} (hst : l.stackTraces = false) {u : Nat} {N : Nat → Int32} {Hy : Nat → Nat → Int32} {k : Nat} {w : WO} (hN : PI u N) (hu : 1998 * (u + 10000) < 2 ^ 31) {x y : Nat} (hx0 : x < 2 ^ 31) (hy0 : y < 2 ^ 31) (hc : x % 16 = 4) (h4 : y % 4 = 0) : lM l Γ yL_act wqL_act 12 262 3 [.ref (gad Γ 475), .int (nI x), .int (nI y)] (SH Γ N Hy k w) (some (.int (vA (rfST (nI (5 + y % 4)) (nI (1 + y / 4 % 20))) ecA (v_set N (nI (5 + y % 4)) (nI (1 + y / 4 % 20)))))) (SH Γ (n_set N (nI (5 + y % 4)) (nI (1 + y / 4 % 20))) (hA (rfST (nI (5 + y % 4)) (nI (1 + y / 4 % 20))) N Hy) (kA (rfST (nI (5 + y % 4)) (nI (1 + y / 4 % 20))) k) w) := by
  refine l_start (cc := cL_act) (maxL := 5) (ret := (some .int)) (by decide) rfl (Nat.le_of_ble_eq_true rfl) ?_
  intro p e s m below meth c ls hx hb hml hrt hts hown hlocks hK hZ hX hY hG hS hl
  have hl : lv_has ls 5 [(0, .ref (gad Γ 475)), (1, .int (nI x)), (2, .int (nI y))] := hl
  have hown : s.vm.findClass RL = some m.cls := hown
  have hF : CallFix p m c cL_act 5 s _ wqL_act RL := ⟨hx, hb, hml, hown, hts⟩
  have hu0 : 1998 * (u + 5000) < 2 ^ 31 := by omega
  have b0 := hN.s10.2
  have hSe := hN.s10.1
  have hSp : 0 < (N 0).toNatClampNeg := hN.2.1
  have hS31 : (N 0).toNatClampNeg < 2 ^ 31 := by omega
  have hS0 : ¬ nI (N 0).toNatClampNeg = 0 := nI_ne0 hSp hS31
  refine lv_aload_n hx hb dL_act_0 rfl (lv_at hl 0 rfl) ?_
  refine lv_iconst (v := 0) hx hb dL_act_1 (by decide) ?_
  refine l_call (X := 0) (K := 1) (CC := 3) (As := [.ref (gad Γ 475), .int 0]) (rest := []) (st1 := [.int (N 0)]) hF (r_about (N := N) (Hy := Hy) (k := k) (w := w) hst hN hu0 (a := 0) (j := 0) rfl (by decide)) (va_cwS 2 hts qL_about rfl rfl rfl (by decide +kernel) ⟨Nat.le_of_ble_eq_true rfl, Nat.le_of_ble_eq_true rfl⟩) hK hZ hX hY hG hS rfl hl.1 (Nat.le_of_ble_eq_true rfl) dL_act_2 ⟨Nat.le_of_ble_eq_true rfl, Nat.le_of_ble_eq_true rfl⟩ (by omega) (by omega) rfl rfl (fun H locs hG hS => ?_)
  refine g_top (y := (nI (N 0).toNatClampNeg)) hSe ?_
  refine lv_istore_n (lv' := [(3, .int (nI (N 0).toNatClampNeg)), (0, .ref (gad Γ 475)), (1, .int (nI x)), (2, .int (nI y))]) hx hb dL_act_5 rfl hl (by decide) rfl (fun ls hl => ?_)
  refine lv_iload_n hx hb dL_act_6 rfl (lv_at hl 3 rfl) ?_
  refine lv_bipush (v := 16) hx hb dL_act_7 (by decide) ?_
  refine lv_idiv hx hb dL_act_9 (by decide) ?_
  refine g_top (y := nI (y / 16)) (pk_div (a := y) (d := 16) (by omega) (by decide) (by decide)) ?_
  refine lv_iconst (v := 3) hx hb dL_act_10 (by decide) ?_
  refine lv_irem hx hb dL_act_11 (by decide) ?_
  refine g_top (y := nI ((y / 16) % 3)) (pk_rem (a := (y / 16)) (d := 3) (by omega) (by decide) (by decide)) ?_
  refine lv_istore (lv' := [(4, .int (nI ((y / 16) % 3))), (3, .int (nI (N 0).toNatClampNeg)), (0, .ref (gad Γ 475)), (1, .int (nI x)), (2, .int (nI y))]) hx hb dL_act_12 hl (by decide) rfl (fun ls hl => ?_)
  refine lv_iload_n hx hb dL_act_14 rfl (lv_at hl 3 rfl) ?_
  refine lv_bipush (v := 16) hx hb dL_act_15 (by decide) ?_
  refine lv_irem hx hb dL_act_17 (by decide) ?_
  refine g_top (y := 4) ((pk_rem (a := x) (d := 16) (by omega) (by decide) (by decide)).trans (congrArg nI hc)) ?_
  refine lv_tableIn (tgt := 162) hx hb dL_act_18 (by decide) (by decide) rfl (by decide) ?_
  refine lv_aload_n hx hb dL_act_162 rfl (lv_at hl 2 rfl) ?_
  refine lv_bipush (v := 10) hx hb dL_act_163 (by decide) ?_
  refine lv_iconst (v := 5) hx hb dL_act_165 (by decide) ?_
  refine lv_iload_n hx hb dL_act_166 rfl (lv_at hl 4 rfl) ?_
  refine lv_iconst (v := 4) hx hb dL_act_167 (by decide) ?_
  refine lv_irem hx hb dL_act_168 (by decide) ?_
  refine g_top (y := nI (y % 4)) (pk_rem (a := y) (d := 4) (by omega) (by decide) (by decide)) ?_
  refine lv_iadd hx hb dL_act_169 ?_
  refine g_top (show _ = nI (5 + (y % 4)) from nI_add _ _) ?_
  refine lv_iconst (v := 1) hx hb dL_act_170 (by decide) ?_
  refine lv_iload_n hx hb dL_act_171 rfl (lv_at hl 4 rfl) ?_
  refine lv_iconst (v := 4) hx hb dL_act_172 (by decide) ?_
  refine lv_idiv hx hb dL_act_173 (by decide) ?_
  refine g_top (y := nI (y / 4)) (pk_div (a := y) (d := 4) (by omega) (by decide) (by decide)) ?_
  refine lv_iload_n hx hb dL_act_174 rfl (lv_at hl 4 rfl) ?_
  refine lv_iconst (v := 4) hx hb dL_act_175 (by decide) ?_
  refine lv_irem hx hb dL_act_176 (by decide) ?_
  refine g_top (y := nI (y % 4)) (pk_rem (a := y) (d := 4) (by omega) (by decide) (by decide)) ?_
  refine lv_if_ne (tgt := 185) hx hb dL_act_177 (by decide) (fun c_1 => absurd (by rw [h4]; rfl) c_1) (fun c_1 => ?_)
  refine lv_bipush (v := 20) hx hb dL_act_180 (by decide) ?_
  refine lv_goto (tgt := 199) hx hb dL_act_182 (by decide) ?_
  refine lv_irem hx hb dL_act_199 (by decide) ?_
  refine g_top (y := nI ((y / 4) % 20)) (pk_rem (a := (y / 4)) (d := 20) (by omega) (by decide) (by decide)) ?_
  refine lv_iadd hx hb dL_act_200 ?_
  refine g_top (show _ = nI (1 + ((y / 4) % 20)) from nI_add _ _) ?_
  refine lv_iconst (v := 0) hx hb dL_act_201 (by decide) ?_
  refine lv_iconst (v := 0) hx hb dL_act_202 (by decide) ?_
  refine l_call (X := 1) (K := 2) (CC := 3) (As := [.ref (gad Γ 475), .int 10, .int (nI (5 + (y % 4))), .int (nI (1 + ((y / 4) % 20))), .int 0, .int 0]) (rest := []) (st1 := [.int (vA (rfST (nI (5 + y % 4)) (nI (1 + y / 4 % 20))) ecA (v_set N (nI (5 + y % 4)) (nI (1 + y / 4 % 20))))]) hF (lc_trySet (nI (5 + y % 4)) (nI (1 + y / 4 % 20)) 0 0 (cl_set (l := l) (Γ := Γ) hst (H := Hy) (k := k) (w := w) hN hu0 (nI (5 + y % 4)) (nI (1 + y / 4 % 20)))) (va_cwS 6 hts qL_call rfl rfl rfl (by decide +kernel) ⟨Nat.le_of_ble_eq_true rfl, Nat.le_of_ble_eq_true rfl⟩) hK hZ hX hY hG hS rfl hl.1 (Nat.le_of_ble_eq_true rfl) dL_act_203 ⟨Nat.le_of_ble_eq_true rfl, Nat.le_of_ble_eq_true rfl⟩ (by omega) (by omega) rfl rfl (fun H locs hG hS => ?_)
  exact l_iret hx hb hrt hlocks hS hG rfl (by omega) dL_act_206

set_option maxHeartbeats 4000000 in
set_option maxRecDepth 100000 in
theorem L_act_4b {l : Launch} {Γ : gX} (hst : l.stackTraces = false) {u : Nat} {N : Nat → Int32} {Hy : Nat → Nat → Int32} {k : Nat} {w : WO} (hN : PI u N) (hu : 1998 * (u + 10000) < 2 ^ 31) {x y : Nat} (hx0 : x < 2 ^ 31) (hy0 : y < 2 ^ 31) (hc : x % 16 = 4) (h4 : y % 4 = 1) : lM l Γ yL_act wqL_act 12 262 3 [.ref (gad Γ 475), .int (nI x), .int (nI y)] (SH Γ N Hy k w) (some (.int (vA (rfST (nI (5 + y % 4)) (nI (1 + y / 4 % 9))) ecA (v_set N (nI (5 + y % 4)) (nI (1 + y / 4 % 9)))))) (SH Γ (n_set N (nI (5 + y % 4)) (nI (1 + y / 4 % 9))) (hA (rfST (nI (5 + y % 4)) (nI (1 + y / 4 % 9))) N Hy) (kA (rfST (nI (5 + y % 4)) (nI (1 + y / 4 % 9))) k) w) := by
  refine l_start (cc := cL_act) (maxL := 5) (ret := (some .int)) (by decide) rfl (Nat.le_of_ble_eq_true rfl) ?_
  intro p e s m below meth c ls hx hb hml hrt hts hown hlocks hK hZ hX hY hG hS hl
  have hl : lv_has ls 5 [(0, .ref (gad Γ 475)), (1, .int (nI x)), (2, .int (nI y))] := hl
  have hown : s.vm.findClass RL = some m.cls := hown
  have hF : CallFix p m c cL_act 5 s _ wqL_act RL := ⟨hx, hb, hml, hown, hts⟩
  have hu0 : 1998 * (u + 5000) < 2 ^ 31 := by omega
  have b0 := hN.s10.2
  have hSe := hN.s10.1
  have hSp : 0 < (N 0).toNatClampNeg := hN.2.1
  have hS31 : (N 0).toNatClampNeg < 2 ^ 31 := by omega
  have hS0 : ¬ nI (N 0).toNatClampNeg = 0 := nI_ne0 hSp hS31
  refine lv_aload_n hx hb dL_act_0 rfl (lv_at hl 0 rfl) ?_
  refine lv_iconst (v := 0) hx hb dL_act_1 (by decide) ?_
  refine l_call (X := 0) (K := 1) (CC := 3) (As := [.ref (gad Γ 475), .int 0]) (rest := []) (st1 := [.int (N 0)]) hF (r_about (N := N) (Hy := Hy) (k := k) (w := w) hst hN hu0 (a := 0) (j := 0) rfl (by decide)) (va_cwS 2 hts qL_about rfl rfl rfl (by decide +kernel) ⟨Nat.le_of_ble_eq_true rfl, Nat.le_of_ble_eq_true rfl⟩) hK hZ hX hY hG hS rfl hl.1 (Nat.le_of_ble_eq_true rfl) dL_act_2 ⟨Nat.le_of_ble_eq_true rfl, Nat.le_of_ble_eq_true rfl⟩ (by omega) (by omega) rfl rfl (fun H locs hG hS => ?_)
  refine g_top (y := (nI (N 0).toNatClampNeg)) hSe ?_
  refine lv_istore_n (lv' := [(3, .int (nI (N 0).toNatClampNeg)), (0, .ref (gad Γ 475)), (1, .int (nI x)), (2, .int (nI y))]) hx hb dL_act_5 rfl hl (by decide) rfl (fun ls hl => ?_)
  refine lv_iload_n hx hb dL_act_6 rfl (lv_at hl 3 rfl) ?_
  refine lv_bipush (v := 16) hx hb dL_act_7 (by decide) ?_
  refine lv_idiv hx hb dL_act_9 (by decide) ?_
  refine g_top (y := nI (y / 16)) (pk_div (a := y) (d := 16) (by omega) (by decide) (by decide)) ?_
  refine lv_iconst (v := 3) hx hb dL_act_10 (by decide) ?_
  refine lv_irem hx hb dL_act_11 (by decide) ?_
  refine g_top (y := nI ((y / 16) % 3)) (pk_rem (a := (y / 16)) (d := 3) (by omega) (by decide) (by decide)) ?_
  refine lv_istore (lv' := [(4, .int (nI ((y / 16) % 3))), (3, .int (nI (N 0).toNatClampNeg)), (0, .ref (gad Γ 475)), (1, .int (nI x)), (2, .int (nI y))]) hx hb dL_act_12 hl (by decide) rfl (fun ls hl => ?_)
  refine lv_iload_n hx hb dL_act_14 rfl (lv_at hl 3 rfl) ?_
  refine lv_bipush (v := 16) hx hb dL_act_15 (by decide) ?_
  refine lv_irem hx hb dL_act_17 (by decide) ?_
  refine g_top (y := 4) ((pk_rem (a := x) (d := 16) (by omega) (by decide) (by decide)).trans (congrArg nI hc)) ?_
  refine lv_tableIn (tgt := 162) hx hb dL_act_18 (by decide) (by decide) rfl (by decide) ?_
  refine lv_aload_n hx hb dL_act_162 rfl (lv_at hl 2 rfl) ?_
  refine lv_bipush (v := 10) hx hb dL_act_163 (by decide) ?_
  refine lv_iconst (v := 5) hx hb dL_act_165 (by decide) ?_
  refine lv_iload_n hx hb dL_act_166 rfl (lv_at hl 4 rfl) ?_
  refine lv_iconst (v := 4) hx hb dL_act_167 (by decide) ?_
  refine lv_irem hx hb dL_act_168 (by decide) ?_
  refine g_top (y := nI (y % 4)) (pk_rem (a := y) (d := 4) (by omega) (by decide) (by decide)) ?_
  refine lv_iadd hx hb dL_act_169 ?_
  refine g_top (show _ = nI (5 + (y % 4)) from nI_add _ _) ?_
  refine lv_iconst (v := 1) hx hb dL_act_170 (by decide) ?_
  refine lv_iload_n hx hb dL_act_171 rfl (lv_at hl 4 rfl) ?_
  refine lv_iconst (v := 4) hx hb dL_act_172 (by decide) ?_
  refine lv_idiv hx hb dL_act_173 (by decide) ?_
  refine g_top (y := nI (y / 4)) (pk_div (a := y) (d := 4) (by omega) (by decide) (by decide)) ?_
  refine lv_iload_n hx hb dL_act_174 rfl (lv_at hl 4 rfl) ?_
  refine lv_iconst (v := 4) hx hb dL_act_175 (by decide) ?_
  refine lv_irem hx hb dL_act_176 (by decide) ?_
  refine g_top (y := nI (y % 4)) (pk_rem (a := y) (d := 4) (by omega) (by decide) (by decide)) ?_
  refine lv_if_ne (tgt := 185) hx hb dL_act_177 (by decide) (fun c_1 => ?_) (fun c_1 => absurd c_1 (by rw [h4]; decide))
  refine lv_iload_n hx hb dL_act_185 rfl (lv_at hl 4 rfl) ?_
  refine lv_iconst (v := 4) hx hb dL_act_186 (by decide) ?_
  refine lv_irem hx hb dL_act_187 (by decide) ?_
  refine g_top (y := nI (y % 4)) (pk_rem (a := y) (d := 4) (by omega) (by decide) (by decide)) ?_
  refine lv_iconst (v := 1) hx hb dL_act_188 (by decide) ?_
  refine lv_icmp_ne (tgt := 197) hx hb dL_act_189 (by decide) (fun c_2 => absurd (by rw [h4]; rfl) c_2) (fun c_2 => ?_)
  refine lv_bipush (v := 9) hx hb dL_act_192 (by decide) ?_
  refine lv_goto (tgt := 199) hx hb dL_act_194 (by decide) ?_
  refine lv_irem hx hb dL_act_199 (by decide) ?_
  refine g_top (y := nI ((y / 4) % 9)) (pk_rem (a := (y / 4)) (d := 9) (by omega) (by decide) (by decide)) ?_
  refine lv_iadd hx hb dL_act_200 ?_
  refine g_top (show _ = nI (1 + ((y / 4) % 9)) from nI_add _ _) ?_
  refine lv_iconst (v := 0) hx hb dL_act_201 (by decide) ?_
  refine lv_iconst (v := 0) hx hb dL_act_202 (by decide) ?_
  refine l_call (X := 1) (K := 2) (CC := 3) (As := [.ref (gad Γ 475), .int 10, .int (nI (5 + (y % 4))), .int (nI (1 + ((y / 4) % 9))), .int 0, .int 0]) (rest := []) (st1 := [.int (vA (rfST (nI (5 + y % 4)) (nI (1 + y / 4 % 9))) ecA (v_set N (nI (5 + y % 4)) (nI (1 + y / 4 % 9))))]) hF (lc_trySet (nI (5 + y % 4)) (nI (1 + y / 4 % 9)) 0 0 (cl_set (l := l) (Γ := Γ) hst (H := Hy) (k := k) (w := w) hN hu0 (nI (5 + y % 4)) (nI (1 + y / 4 % 9)))) (va_cwS 6 hts qL_call rfl rfl rfl (by decide +kernel) ⟨Nat.le_of_ble_eq_true rfl, Nat.le_of_ble_eq_true rfl⟩) hK hZ hX hY hG hS rfl hl.1 (Nat.le_of_ble_eq_true rfl) dL_act_203 ⟨Nat.le_of_ble_eq_true rfl, Nat.le_of_ble_eq_true rfl⟩ (by omega) (by omega) rfl rfl (fun H locs hG hS => ?_)
  exact l_iret hx hb hrt hlocks hS hG rfl (by omega) dL_act_206

set_option maxHeartbeats 4000000 in
set_option maxRecDepth 100000 in
theorem L_act_4c {l : Launch} {Γ : gX} (hst : l.stackTraces = false) {u : Nat} {N : Nat → Int32} {Hy : Nat → Nat → Int32} {k : Nat} {w : WO} (hN : PI u N) (hu : 1998 * (u + 10000) < 2 ^ 31) {x y : Nat} (hx0 : x < 2 ^ 31) (hy0 : y < 2 ^ 31) (hc : x % 16 = 4) (h4 : 2 ≤ y % 4) : lM l Γ yL_act wqL_act 12 262 3 [.ref (gad Γ 475), .int (nI x), .int (nI y)] (SH Γ N Hy k w) (some (.int (vA (rfST (nI (5 + y % 4)) (nI (1 + y / 4 % 99))) ecA (v_set N (nI (5 + y % 4)) (nI (1 + y / 4 % 99)))))) (SH Γ (n_set N (nI (5 + y % 4)) (nI (1 + y / 4 % 99))) (hA (rfST (nI (5 + y % 4)) (nI (1 + y / 4 % 99))) N Hy) (kA (rfST (nI (5 + y % 4)) (nI (1 + y / 4 % 99))) k) w) := by
  refine l_start (cc := cL_act) (maxL := 5) (ret := (some .int)) (by decide) rfl (Nat.le_of_ble_eq_true rfl) ?_
  intro p e s m below meth c ls hx hb hml hrt hts hown hlocks hK hZ hX hY hG hS hl
  have hl : lv_has ls 5 [(0, .ref (gad Γ 475)), (1, .int (nI x)), (2, .int (nI y))] := hl
  have hown : s.vm.findClass RL = some m.cls := hown
  have hF : CallFix p m c cL_act 5 s _ wqL_act RL := ⟨hx, hb, hml, hown, hts⟩
  have hu0 : 1998 * (u + 5000) < 2 ^ 31 := by omega
  have b0 := hN.s10.2
  have hSe := hN.s10.1
  have hSp : 0 < (N 0).toNatClampNeg := hN.2.1
  have hS31 : (N 0).toNatClampNeg < 2 ^ 31 := by omega
  have hS0 : ¬ nI (N 0).toNatClampNeg = 0 := nI_ne0 hSp hS31
  refine lv_aload_n hx hb dL_act_0 rfl (lv_at hl 0 rfl) ?_
  refine lv_iconst (v := 0) hx hb dL_act_1 (by decide) ?_
  refine l_call (X := 0) (K := 1) (CC := 3) (As := [.ref (gad Γ 475), .int 0]) (rest := []) (st1 := [.int (N 0)]) hF (r_about (N := N) (Hy := Hy) (k := k) (w := w) hst hN hu0 (a := 0) (j := 0) rfl (by decide)) (va_cwS 2 hts qL_about rfl rfl rfl (by decide +kernel) ⟨Nat.le_of_ble_eq_true rfl, Nat.le_of_ble_eq_true rfl⟩) hK hZ hX hY hG hS rfl hl.1 (Nat.le_of_ble_eq_true rfl) dL_act_2 ⟨Nat.le_of_ble_eq_true rfl, Nat.le_of_ble_eq_true rfl⟩ (by omega) (by omega) rfl rfl (fun H locs hG hS => ?_)
  refine g_top (y := (nI (N 0).toNatClampNeg)) hSe ?_
  refine lv_istore_n (lv' := [(3, .int (nI (N 0).toNatClampNeg)), (0, .ref (gad Γ 475)), (1, .int (nI x)), (2, .int (nI y))]) hx hb dL_act_5 rfl hl (by decide) rfl (fun ls hl => ?_)
  refine lv_iload_n hx hb dL_act_6 rfl (lv_at hl 3 rfl) ?_
  refine lv_bipush (v := 16) hx hb dL_act_7 (by decide) ?_
  refine lv_idiv hx hb dL_act_9 (by decide) ?_
  refine g_top (y := nI (y / 16)) (pk_div (a := y) (d := 16) (by omega) (by decide) (by decide)) ?_
  refine lv_iconst (v := 3) hx hb dL_act_10 (by decide) ?_
  refine lv_irem hx hb dL_act_11 (by decide) ?_
  refine g_top (y := nI ((y / 16) % 3)) (pk_rem (a := (y / 16)) (d := 3) (by omega) (by decide) (by decide)) ?_
  refine lv_istore (lv' := [(4, .int (nI ((y / 16) % 3))), (3, .int (nI (N 0).toNatClampNeg)), (0, .ref (gad Γ 475)), (1, .int (nI x)), (2, .int (nI y))]) hx hb dL_act_12 hl (by decide) rfl (fun ls hl => ?_)
  refine lv_iload_n hx hb dL_act_14 rfl (lv_at hl 3 rfl) ?_
  refine lv_bipush (v := 16) hx hb dL_act_15 (by decide) ?_
  refine lv_irem hx hb dL_act_17 (by decide) ?_
  refine g_top (y := 4) ((pk_rem (a := x) (d := 16) (by omega) (by decide) (by decide)).trans (congrArg nI hc)) ?_
  refine lv_tableIn (tgt := 162) hx hb dL_act_18 (by decide) (by decide) rfl (by decide) ?_
  refine lv_aload_n hx hb dL_act_162 rfl (lv_at hl 2 rfl) ?_
  refine lv_bipush (v := 10) hx hb dL_act_163 (by decide) ?_
  refine lv_iconst (v := 5) hx hb dL_act_165 (by decide) ?_
  refine lv_iload_n hx hb dL_act_166 rfl (lv_at hl 4 rfl) ?_
  refine lv_iconst (v := 4) hx hb dL_act_167 (by decide) ?_
  refine lv_irem hx hb dL_act_168 (by decide) ?_
  refine g_top (y := nI (y % 4)) (pk_rem (a := y) (d := 4) (by omega) (by decide) (by decide)) ?_
  refine lv_iadd hx hb dL_act_169 ?_
  refine g_top (show _ = nI (5 + (y % 4)) from nI_add _ _) ?_
  refine lv_iconst (v := 1) hx hb dL_act_170 (by decide) ?_
  refine lv_iload_n hx hb dL_act_171 rfl (lv_at hl 4 rfl) ?_
  refine lv_iconst (v := 4) hx hb dL_act_172 (by decide) ?_
  refine lv_idiv hx hb dL_act_173 (by decide) ?_
  refine g_top (y := nI (y / 4)) (pk_div (a := y) (d := 4) (by omega) (by decide) (by decide)) ?_
  refine lv_iload_n hx hb dL_act_174 rfl (lv_at hl 4 rfl) ?_
  refine lv_iconst (v := 4) hx hb dL_act_175 (by decide) ?_
  refine lv_irem hx hb dL_act_176 (by decide) ?_
  refine g_top (y := nI (y % 4)) (pk_rem (a := y) (d := 4) (by omega) (by decide) (by decide)) ?_
  refine lv_if_ne (tgt := 185) hx hb dL_act_177 (by decide) (fun c_1 => ?_) (fun c_1 => absurd c_1 (fun e => by have := (nI_eq (a := y % 4) (b := 0) (by omega) (by decide)).mp e; omega))
  refine lv_iload_n hx hb dL_act_185 rfl (lv_at hl 4 rfl) ?_
  refine lv_iconst (v := 4) hx hb dL_act_186 (by decide) ?_
  refine lv_irem hx hb dL_act_187 (by decide) ?_
  refine g_top (y := nI (y % 4)) (pk_rem (a := y) (d := 4) (by omega) (by decide) (by decide)) ?_
  refine lv_iconst (v := 1) hx hb dL_act_188 (by decide) ?_
  refine lv_icmp_ne (tgt := 197) hx hb dL_act_189 (by decide) (fun c_2 => ?_) (fun c_2 => absurd c_2 (fun e => by have := (nI_eq (a := y % 4) (b := 1) (by omega) (by decide)).mp e; omega))
  refine lv_bipush (v := 99) hx hb dL_act_197 (by decide) ?_
  refine lv_irem hx hb dL_act_199 (by decide) ?_
  refine g_top (y := nI ((y / 4) % 99)) (pk_rem (a := (y / 4)) (d := 99) (by omega) (by decide) (by decide)) ?_
  refine lv_iadd hx hb dL_act_200 ?_
  refine g_top (show _ = nI (1 + ((y / 4) % 99)) from nI_add _ _) ?_
  refine lv_iconst (v := 0) hx hb dL_act_201 (by decide) ?_
  refine lv_iconst (v := 0) hx hb dL_act_202 (by decide) ?_
  refine l_call (X := 1) (K := 2) (CC := 3) (As := [.ref (gad Γ 475), .int 10, .int (nI (5 + (y % 4))), .int (nI (1 + ((y / 4) % 99))), .int 0, .int 0]) (rest := []) (st1 := [.int (vA (rfST (nI (5 + y % 4)) (nI (1 + y / 4 % 99))) ecA (v_set N (nI (5 + y % 4)) (nI (1 + y / 4 % 99))))]) hF (lc_trySet (nI (5 + y % 4)) (nI (1 + y / 4 % 99)) 0 0 (cl_set (l := l) (Γ := Γ) hst (H := Hy) (k := k) (w := w) hN hu0 (nI (5 + y % 4)) (nI (1 + y / 4 % 99)))) (va_cwS 6 hts qL_call rfl rfl rfl (by decide +kernel) ⟨Nat.le_of_ble_eq_true rfl, Nat.le_of_ble_eq_true rfl⟩) hK hZ hX hY hG hS rfl hl.1 (Nat.le_of_ble_eq_true rfl) dL_act_203 ⟨Nat.le_of_ble_eq_true rfl, Nat.le_of_ble_eq_true rfl⟩ (by omega) (by omega) rfl rfl (fun H locs hG hS => ?_)
  exact l_iret hx hb hrt hlocks hS hG rfl (by omega) dL_act_206

set_option maxHeartbeats 4000000 in
set_option maxRecDepth 100000 in
theorem L_act_5 {l : Launch} {Γ : gX} (hst : l.stackTraces = false) {u : Nat} {N : Nat → Int32} {Hy : Nat → Nat → Int32} {k : Nat} {w : WO} (hN : PI u N) (hu : 1998 * (u + 10000) < 2 ^ 31) {x y : Nat} (hx0 : x < 2 ^ 31) (hy0 : y < 2 ^ 31) (hc : x % 16 = 5) : lM l Γ yL_act wqL_act 12 262 3 [.ref (gad Γ 475), .int (nI x), .int (nI y)] (SH Γ N Hy k w) (some (.int (vA (rfDR N (nI (y / 16 % 3)) (nI (y % (N 0).toNatClampNeg))) ecT (v_drive N (nI (y / 16 % 3)) (nI (y % (N 0).toNatClampNeg)))))) (SH Γ (n_drive N (nI (y / 16 % 3)) (nI (y % (N 0).toNatClampNeg))) (hA (rfDR N (nI (y / 16 % 3)) (nI (y % (N 0).toNatClampNeg))) N Hy) (kA (rfDR N (nI (y / 16 % 3)) (nI (y % (N 0).toNatClampNeg))) k) w) := by
  refine l_start (cc := cL_act) (maxL := 5) (ret := (some .int)) (by decide) rfl (Nat.le_of_ble_eq_true rfl) ?_
  intro p e s m below meth c ls hx hb hml hrt hts hown hlocks hK hZ hX hY hG hS hl
  have hl : lv_has ls 5 [(0, .ref (gad Γ 475)), (1, .int (nI x)), (2, .int (nI y))] := hl
  have hown : s.vm.findClass RL = some m.cls := hown
  have hF : CallFix p m c cL_act 5 s _ wqL_act RL := ⟨hx, hb, hml, hown, hts⟩
  have hu0 : 1998 * (u + 5000) < 2 ^ 31 := by omega
  have b0 := hN.s10.2
  have hSe := hN.s10.1
  have hSp : 0 < (N 0).toNatClampNeg := hN.2.1
  have hS31 : (N 0).toNatClampNeg < 2 ^ 31 := by omega
  have hS0 : ¬ nI (N 0).toNatClampNeg = 0 := nI_ne0 hSp hS31
  refine lv_aload_n hx hb dL_act_0 rfl (lv_at hl 0 rfl) ?_
  refine lv_iconst (v := 0) hx hb dL_act_1 (by decide) ?_
  refine l_call (X := 0) (K := 1) (CC := 3) (As := [.ref (gad Γ 475), .int 0]) (rest := []) (st1 := [.int (N 0)]) hF (r_about (N := N) (Hy := Hy) (k := k) (w := w) hst hN hu0 (a := 0) (j := 0) rfl (by decide)) (va_cwS 2 hts qL_about rfl rfl rfl (by decide +kernel) ⟨Nat.le_of_ble_eq_true rfl, Nat.le_of_ble_eq_true rfl⟩) hK hZ hX hY hG hS rfl hl.1 (Nat.le_of_ble_eq_true rfl) dL_act_2 ⟨Nat.le_of_ble_eq_true rfl, Nat.le_of_ble_eq_true rfl⟩ (by omega) (by omega) rfl rfl (fun H locs hG hS => ?_)
  refine g_top (y := (nI (N 0).toNatClampNeg)) hSe ?_
  refine lv_istore_n (lv' := [(3, .int (nI (N 0).toNatClampNeg)), (0, .ref (gad Γ 475)), (1, .int (nI x)), (2, .int (nI y))]) hx hb dL_act_5 rfl hl (by decide) rfl (fun ls hl => ?_)
  refine lv_iload_n hx hb dL_act_6 rfl (lv_at hl 3 rfl) ?_
  refine lv_bipush (v := 16) hx hb dL_act_7 (by decide) ?_
  refine lv_idiv hx hb dL_act_9 (by decide) ?_
  refine g_top (y := nI (y / 16)) (pk_div (a := y) (d := 16) (by omega) (by decide) (by decide)) ?_
  refine lv_iconst (v := 3) hx hb dL_act_10 (by decide) ?_
  refine lv_irem hx hb dL_act_11 (by decide) ?_
  refine g_top (y := nI ((y / 16) % 3)) (pk_rem (a := (y / 16)) (d := 3) (by omega) (by decide) (by decide)) ?_
  refine lv_istore (lv' := [(4, .int (nI ((y / 16) % 3))), (3, .int (nI (N 0).toNatClampNeg)), (0, .ref (gad Γ 475)), (1, .int (nI x)), (2, .int (nI y))]) hx hb dL_act_12 hl (by decide) rfl (fun ls hl => ?_)
  refine lv_iload_n hx hb dL_act_14 rfl (lv_at hl 3 rfl) ?_
  refine lv_bipush (v := 16) hx hb dL_act_15 (by decide) ?_
  refine lv_irem hx hb dL_act_17 (by decide) ?_
  refine g_top (y := 5) ((pk_rem (a := x) (d := 16) (by omega) (by decide) (by decide)).trans (congrArg nI hc)) ?_
  refine lv_tableIn (tgt := 207) hx hb dL_act_18 (by decide) (by decide) rfl (by decide) ?_
  refine lv_aload_n hx hb dL_act_207 rfl (lv_at hl 2 rfl) ?_
  refine lv_bipush (v := 11) hx hb dL_act_208 (by decide) ?_
  refine lv_iload hx hb dL_act_210 (lv_at hl 0 rfl) ?_
  refine lv_iload_n hx hb dL_act_212 rfl (lv_at hl 4 rfl) ?_
  refine lv_iload_n hx hb dL_act_213 rfl (lv_at hl 1 rfl) ?_
  refine lv_irem hx hb dL_act_214 hS0 ?_
  refine g_top (y := nI (y % ((N 0).toNatClampNeg))) (pk_rem (a := y) (d := ((N 0).toNatClampNeg)) (by omega) hSp hS31) ?_
  refine lv_iconst (v := 0) hx hb dL_act_215 (by decide) ?_
  refine lv_iconst (v := 0) hx hb dL_act_216 (by decide) ?_
  refine l_call (X := 1) (K := 2) (CC := 3) (As := [.ref (gad Γ 475), .int 11, .int (nI ((y / 16) % 3)), .int (nI (y % ((N 0).toNatClampNeg))), .int 0, .int 0]) (rest := []) (st1 := [.int (vA (rfDR N (nI (y / 16 % 3)) (nI (y % (N 0).toNatClampNeg))) ecT (v_drive N (nI (y / 16 % 3)) (nI (y % (N 0).toNatClampNeg))))]) hF (lc_tryDrive (nI (y / 16 % 3)) (nI (y % (N 0).toNatClampNeg)) 0 0 (cl_drive (l := l) (Γ := Γ) hst (H := Hy) (k := k) (w := w) hN hu0 (nI (y / 16 % 3)) (nI (y % (N 0).toNatClampNeg)))) (va_cwS 6 hts qL_call rfl rfl rfl (by decide +kernel) ⟨Nat.le_of_ble_eq_true rfl, Nat.le_of_ble_eq_true rfl⟩) hK hZ hX hY hG hS rfl hl.1 (Nat.le_of_ble_eq_true rfl) dL_act_217 ⟨Nat.le_of_ble_eq_true rfl, Nat.le_of_ble_eq_true rfl⟩ (by omega) (by omega) rfl rfl (fun H locs hG hS => ?_)
  exact l_iret hx hb hrt hlocks hS hG rfl (by omega) dL_act_220

set_option maxHeartbeats 4000000 in
set_option maxRecDepth 100000 in
theorem L_act_6 {l : Launch} {Γ : gX} (hst : l.stackTraces = false) {u : Nat} {N : Nat → Int32} {Hy : Nat → Nat → Int32} {k : Nat} {w : WO} (hN : PI u N) (hu : 1998 * (u + 10000) < 2 ^ 31) {x y : Nat} (hx0 : x < 2 ^ 31) (hy0 : y < 2 ^ 31) (hc : x % 16 = 6) : lM l Γ yL_act wqL_act 12 262 3 [.ref (gad Γ 475), .int (nI x), .int (nI y)] (SH Γ N Hy k w) (some (.int (vA (rfDR N (nI (y / 16 % 3)) (nI (y % (N 0).toNatClampNeg))) ecT (v_drive N (nI (y / 16 % 3)) (nI (y % (N 0).toNatClampNeg)))))) (SH Γ (n_drive N (nI (y / 16 % 3)) (nI (y % (N 0).toNatClampNeg))) (hA (rfDR N (nI (y / 16 % 3)) (nI (y % (N 0).toNatClampNeg))) N Hy) (kA (rfDR N (nI (y / 16 % 3)) (nI (y % (N 0).toNatClampNeg))) k) w) := by
  refine l_start (cc := cL_act) (maxL := 5) (ret := (some .int)) (by decide) rfl (Nat.le_of_ble_eq_true rfl) ?_
  intro p e s m below meth c ls hx hb hml hrt hts hown hlocks hK hZ hX hY hG hS hl
  have hl : lv_has ls 5 [(0, .ref (gad Γ 475)), (1, .int (nI x)), (2, .int (nI y))] := hl
  have hown : s.vm.findClass RL = some m.cls := hown
  have hF : CallFix p m c cL_act 5 s _ wqL_act RL := ⟨hx, hb, hml, hown, hts⟩
  have hu0 : 1998 * (u + 5000) < 2 ^ 31 := by omega
  have b0 := hN.s10.2
  have hSe := hN.s10.1
  have hSp : 0 < (N 0).toNatClampNeg := hN.2.1
  have hS31 : (N 0).toNatClampNeg < 2 ^ 31 := by omega
  have hS0 : ¬ nI (N 0).toNatClampNeg = 0 := nI_ne0 hSp hS31
  refine lv_aload_n hx hb dL_act_0 rfl (lv_at hl 0 rfl) ?_
  refine lv_iconst (v := 0) hx hb dL_act_1 (by decide) ?_
  refine l_call (X := 0) (K := 1) (CC := 3) (As := [.ref (gad Γ 475), .int 0]) (rest := []) (st1 := [.int (N 0)]) hF (r_about (N := N) (Hy := Hy) (k := k) (w := w) hst hN hu0 (a := 0) (j := 0) rfl (by decide)) (va_cwS 2 hts qL_about rfl rfl rfl (by decide +kernel) ⟨Nat.le_of_ble_eq_true rfl, Nat.le_of_ble_eq_true rfl⟩) hK hZ hX hY hG hS rfl hl.1 (Nat.le_of_ble_eq_true rfl) dL_act_2 ⟨Nat.le_of_ble_eq_true rfl, Nat.le_of_ble_eq_true rfl⟩ (by omega) (by omega) rfl rfl (fun H locs hG hS => ?_)
  refine g_top (y := (nI (N 0).toNatClampNeg)) hSe ?_
  refine lv_istore_n (lv' := [(3, .int (nI (N 0).toNatClampNeg)), (0, .ref (gad Γ 475)), (1, .int (nI x)), (2, .int (nI y))]) hx hb dL_act_5 rfl hl (by decide) rfl (fun ls hl => ?_)
  refine lv_iload_n hx hb dL_act_6 rfl (lv_at hl 3 rfl) ?_
  refine lv_bipush (v := 16) hx hb dL_act_7 (by decide) ?_
  refine lv_idiv hx hb dL_act_9 (by decide) ?_
  refine g_top (y := nI (y / 16)) (pk_div (a := y) (d := 16) (by omega) (by decide) (by decide)) ?_
  refine lv_iconst (v := 3) hx hb dL_act_10 (by decide) ?_
  refine lv_irem hx hb dL_act_11 (by decide) ?_
  refine g_top (y := nI ((y / 16) % 3)) (pk_rem (a := (y / 16)) (d := 3) (by omega) (by decide) (by decide)) ?_
  refine lv_istore (lv' := [(4, .int (nI ((y / 16) % 3))), (3, .int (nI (N 0).toNatClampNeg)), (0, .ref (gad Γ 475)), (1, .int (nI x)), (2, .int (nI y))]) hx hb dL_act_12 hl (by decide) rfl (fun ls hl => ?_)
  refine lv_iload_n hx hb dL_act_14 rfl (lv_at hl 3 rfl) ?_
  refine lv_bipush (v := 16) hx hb dL_act_15 (by decide) ?_
  refine lv_irem hx hb dL_act_17 (by decide) ?_
  refine g_top (y := 6) ((pk_rem (a := x) (d := 16) (by omega) (by decide) (by decide)).trans (congrArg nI hc)) ?_
  refine lv_tableIn (tgt := 207) hx hb dL_act_18 (by decide) (by decide) rfl (by decide) ?_
  refine lv_aload_n hx hb dL_act_207 rfl (lv_at hl 2 rfl) ?_
  refine lv_bipush (v := 11) hx hb dL_act_208 (by decide) ?_
  refine lv_iload hx hb dL_act_210 (lv_at hl 0 rfl) ?_
  refine lv_iload_n hx hb dL_act_212 rfl (lv_at hl 4 rfl) ?_
  refine lv_iload_n hx hb dL_act_213 rfl (lv_at hl 1 rfl) ?_
  refine lv_irem hx hb dL_act_214 hS0 ?_
  refine g_top (y := nI (y % ((N 0).toNatClampNeg))) (pk_rem (a := y) (d := ((N 0).toNatClampNeg)) (by omega) hSp hS31) ?_
  refine lv_iconst (v := 0) hx hb dL_act_215 (by decide) ?_
  refine lv_iconst (v := 0) hx hb dL_act_216 (by decide) ?_
  refine l_call (X := 1) (K := 2) (CC := 3) (As := [.ref (gad Γ 475), .int 11, .int (nI ((y / 16) % 3)), .int (nI (y % ((N 0).toNatClampNeg))), .int 0, .int 0]) (rest := []) (st1 := [.int (vA (rfDR N (nI (y / 16 % 3)) (nI (y % (N 0).toNatClampNeg))) ecT (v_drive N (nI (y / 16 % 3)) (nI (y % (N 0).toNatClampNeg))))]) hF (lc_tryDrive (nI (y / 16 % 3)) (nI (y % (N 0).toNatClampNeg)) 0 0 (cl_drive (l := l) (Γ := Γ) hst (H := Hy) (k := k) (w := w) hN hu0 (nI (y / 16 % 3)) (nI (y % (N 0).toNatClampNeg)))) (va_cwS 6 hts qL_call rfl rfl rfl (by decide +kernel) ⟨Nat.le_of_ble_eq_true rfl, Nat.le_of_ble_eq_true rfl⟩) hK hZ hX hY hG hS rfl hl.1 (Nat.le_of_ble_eq_true rfl) dL_act_217 ⟨Nat.le_of_ble_eq_true rfl, Nat.le_of_ble_eq_true rfl⟩ (by omega) (by omega) rfl rfl (fun H locs hG hS => ?_)
  exact l_iret hx hb hrt hlocks hS hG rfl (by omega) dL_act_220

set_option maxHeartbeats 4000000 in
set_option maxRecDepth 100000 in
theorem L_act_7 {l : Launch} {Γ : gX} (hst : l.stackTraces = false) {u : Nat} {N : Nat → Int32} {Hy : Nat → Nat → Int32} {k : Nat} {w : WO} (hN : PI u N) (hu : 1998 * (u + 10000) < 2 ^ 31) {x y : Nat} (hx0 : x < 2 ^ 31) (hy0 : y < 2 ^ 31) (hc : x % 16 = 7) : lM l Γ yL_act wqL_act 12 262 3 [.ref (gad Γ 475), .int (nI x), .int (nI y)] (SH Γ N Hy k w) (some (.int (vA (rfSP N (nI (y / 16 % 3)) (nI (1 + y / 64 % 9))) ecS (v_spray N (nI (y / 16 % 3)) (nI (1 + y / 64 % 9)))))) (SH Γ (n_spray N (nI (y / 16 % 3)) (nI (1 + y / 64 % 9))) (hA (rfSP N (nI (y / 16 % 3)) (nI (1 + y / 64 % 9))) N Hy) (kA (rfSP N (nI (y / 16 % 3)) (nI (1 + y / 64 % 9))) k) w) := by
  refine l_start (cc := cL_act) (maxL := 5) (ret := (some .int)) (by decide) rfl (Nat.le_of_ble_eq_true rfl) ?_
  intro p e s m below meth c ls hx hb hml hrt hts hown hlocks hK hZ hX hY hG hS hl
  have hl : lv_has ls 5 [(0, .ref (gad Γ 475)), (1, .int (nI x)), (2, .int (nI y))] := hl
  have hown : s.vm.findClass RL = some m.cls := hown
  have hF : CallFix p m c cL_act 5 s _ wqL_act RL := ⟨hx, hb, hml, hown, hts⟩
  have hu0 : 1998 * (u + 5000) < 2 ^ 31 := by omega
  have b0 := hN.s10.2
  have hSe := hN.s10.1
  have hSp : 0 < (N 0).toNatClampNeg := hN.2.1
  have hS31 : (N 0).toNatClampNeg < 2 ^ 31 := by omega
  have hS0 : ¬ nI (N 0).toNatClampNeg = 0 := nI_ne0 hSp hS31
  refine lv_aload_n hx hb dL_act_0 rfl (lv_at hl 0 rfl) ?_
  refine lv_iconst (v := 0) hx hb dL_act_1 (by decide) ?_
  refine l_call (X := 0) (K := 1) (CC := 3) (As := [.ref (gad Γ 475), .int 0]) (rest := []) (st1 := [.int (N 0)]) hF (r_about (N := N) (Hy := Hy) (k := k) (w := w) hst hN hu0 (a := 0) (j := 0) rfl (by decide)) (va_cwS 2 hts qL_about rfl rfl rfl (by decide +kernel) ⟨Nat.le_of_ble_eq_true rfl, Nat.le_of_ble_eq_true rfl⟩) hK hZ hX hY hG hS rfl hl.1 (Nat.le_of_ble_eq_true rfl) dL_act_2 ⟨Nat.le_of_ble_eq_true rfl, Nat.le_of_ble_eq_true rfl⟩ (by omega) (by omega) rfl rfl (fun H locs hG hS => ?_)
  refine g_top (y := (nI (N 0).toNatClampNeg)) hSe ?_
  refine lv_istore_n (lv' := [(3, .int (nI (N 0).toNatClampNeg)), (0, .ref (gad Γ 475)), (1, .int (nI x)), (2, .int (nI y))]) hx hb dL_act_5 rfl hl (by decide) rfl (fun ls hl => ?_)
  refine lv_iload_n hx hb dL_act_6 rfl (lv_at hl 3 rfl) ?_
  refine lv_bipush (v := 16) hx hb dL_act_7 (by decide) ?_
  refine lv_idiv hx hb dL_act_9 (by decide) ?_
  refine g_top (y := nI (y / 16)) (pk_div (a := y) (d := 16) (by omega) (by decide) (by decide)) ?_
  refine lv_iconst (v := 3) hx hb dL_act_10 (by decide) ?_
  refine lv_irem hx hb dL_act_11 (by decide) ?_
  refine g_top (y := nI ((y / 16) % 3)) (pk_rem (a := (y / 16)) (d := 3) (by omega) (by decide) (by decide)) ?_
  refine lv_istore (lv' := [(4, .int (nI ((y / 16) % 3))), (3, .int (nI (N 0).toNatClampNeg)), (0, .ref (gad Γ 475)), (1, .int (nI x)), (2, .int (nI y))]) hx hb dL_act_12 hl (by decide) rfl (fun ls hl => ?_)
  refine lv_iload_n hx hb dL_act_14 rfl (lv_at hl 3 rfl) ?_
  refine lv_bipush (v := 16) hx hb dL_act_15 (by decide) ?_
  refine lv_irem hx hb dL_act_17 (by decide) ?_
  refine g_top (y := 7) ((pk_rem (a := x) (d := 16) (by omega) (by decide) (by decide)).trans (congrArg nI hc)) ?_
  refine lv_tableIn (tgt := 221) hx hb dL_act_18 (by decide) (by decide) rfl (by decide) ?_
  refine lv_aload_n hx hb dL_act_221 rfl (lv_at hl 2 rfl) ?_
  refine lv_bipush (v := 12) hx hb dL_act_222 (by decide) ?_
  refine lv_iload hx hb dL_act_224 (lv_at hl 0 rfl) ?_
  refine lv_iconst (v := 1) hx hb dL_act_226 (by decide) ?_
  refine lv_iload_n hx hb dL_act_227 rfl (lv_at hl 4 rfl) ?_
  refine lv_bipush (v := 64) hx hb dL_act_228 (by decide) ?_
  refine lv_idiv hx hb dL_act_230 (by decide) ?_
  refine g_top (y := nI (y / 64)) (pk_div (a := y) (d := 64) (by omega) (by decide) (by decide)) ?_
  refine lv_bipush (v := 9) hx hb dL_act_231 (by decide) ?_
  refine lv_irem hx hb dL_act_233 (by decide) ?_
  refine g_top (y := nI ((y / 64) % 9)) (pk_rem (a := (y / 64)) (d := 9) (by omega) (by decide) (by decide)) ?_
  refine lv_iadd hx hb dL_act_234 ?_
  refine g_top (show _ = nI (1 + ((y / 64) % 9)) from nI_add _ _) ?_
  refine lv_iconst (v := 0) hx hb dL_act_235 (by decide) ?_
  refine lv_iconst (v := 0) hx hb dL_act_236 (by decide) ?_
  refine l_call (X := 1) (K := 2) (CC := 3) (As := [.ref (gad Γ 475), .int 12, .int (nI ((y / 16) % 3)), .int (nI (1 + ((y / 64) % 9))), .int 0, .int 0]) (rest := []) (st1 := [.int (vA (rfSP N (nI (y / 16 % 3)) (nI (1 + y / 64 % 9))) ecS (v_spray N (nI (y / 16 % 3)) (nI (1 + y / 64 % 9))))]) hF (lc_trySpray (nI (y / 16 % 3)) (nI (1 + y / 64 % 9)) 0 0 (cl_spray (l := l) (Γ := Γ) hst (H := Hy) (k := k) (w := w) hN hu0 (nI (y / 16 % 3)) (nI (1 + y / 64 % 9)))) (va_cwS 6 hts qL_call rfl rfl rfl (by decide +kernel) ⟨Nat.le_of_ble_eq_true rfl, Nat.le_of_ble_eq_true rfl⟩) hK hZ hX hY hG hS rfl hl.1 (Nat.le_of_ble_eq_true rfl) dL_act_237 ⟨Nat.le_of_ble_eq_true rfl, Nat.le_of_ble_eq_true rfl⟩ (by omega) (by omega) rfl rfl (fun H locs hG hS => ?_)
  exact l_iret hx hb hrt hlocks hS hG rfl (by omega) dL_act_240

set_option maxHeartbeats 4000000 in
set_option maxRecDepth 100000 in
theorem L_act_8 {l : Launch} {Γ : gX} (hst : l.stackTraces = false) {u : Nat} {N : Nat → Int32} {Hy : Nat → Nat → Int32} {k : Nat} {w : WO} (hN : PI u N) (hu : 1998 * (u + 10000) < 2 ^ 31) {x y : Nat} (hx0 : x < 2 ^ 31) (hy0 : y < 2 ^ 31) (hc : x % 16 = 8) : lM l Γ yL_act wqL_act 12 262 3 [.ref (gad Γ 475), .int (nI x), .int (nI y)] (SH Γ N Hy k w) (some (.int (vA (rfSP N (nI (y / 16 % 3)) (nI (1 + y / 64 % 9))) ecS (v_spray N (nI (y / 16 % 3)) (nI (1 + y / 64 % 9)))))) (SH Γ (n_spray N (nI (y / 16 % 3)) (nI (1 + y / 64 % 9))) (hA (rfSP N (nI (y / 16 % 3)) (nI (1 + y / 64 % 9))) N Hy) (kA (rfSP N (nI (y / 16 % 3)) (nI (1 + y / 64 % 9))) k) w) := by
  refine l_start (cc := cL_act) (maxL := 5) (ret := (some .int)) (by decide) rfl (Nat.le_of_ble_eq_true rfl) ?_
  intro p e s m below meth c ls hx hb hml hrt hts hown hlocks hK hZ hX hY hG hS hl
  have hl : lv_has ls 5 [(0, .ref (gad Γ 475)), (1, .int (nI x)), (2, .int (nI y))] := hl
  have hown : s.vm.findClass RL = some m.cls := hown
  have hF : CallFix p m c cL_act 5 s _ wqL_act RL := ⟨hx, hb, hml, hown, hts⟩
  have hu0 : 1998 * (u + 5000) < 2 ^ 31 := by omega
  have b0 := hN.s10.2
  have hSe := hN.s10.1
  have hSp : 0 < (N 0).toNatClampNeg := hN.2.1
  have hS31 : (N 0).toNatClampNeg < 2 ^ 31 := by omega
  have hS0 : ¬ nI (N 0).toNatClampNeg = 0 := nI_ne0 hSp hS31
  refine lv_aload_n hx hb dL_act_0 rfl (lv_at hl 0 rfl) ?_
  refine lv_iconst (v := 0) hx hb dL_act_1 (by decide) ?_
  refine l_call (X := 0) (K := 1) (CC := 3) (As := [.ref (gad Γ 475), .int 0]) (rest := []) (st1 := [.int (N 0)]) hF (r_about (N := N) (Hy := Hy) (k := k) (w := w) hst hN hu0 (a := 0) (j := 0) rfl (by decide)) (va_cwS 2 hts qL_about rfl rfl rfl (by decide +kernel) ⟨Nat.le_of_ble_eq_true rfl, Nat.le_of_ble_eq_true rfl⟩) hK hZ hX hY hG hS rfl hl.1 (Nat.le_of_ble_eq_true rfl) dL_act_2 ⟨Nat.le_of_ble_eq_true rfl, Nat.le_of_ble_eq_true rfl⟩ (by omega) (by omega) rfl rfl (fun H locs hG hS => ?_)
  refine g_top (y := (nI (N 0).toNatClampNeg)) hSe ?_
  refine lv_istore_n (lv' := [(3, .int (nI (N 0).toNatClampNeg)), (0, .ref (gad Γ 475)), (1, .int (nI x)), (2, .int (nI y))]) hx hb dL_act_5 rfl hl (by decide) rfl (fun ls hl => ?_)
  refine lv_iload_n hx hb dL_act_6 rfl (lv_at hl 3 rfl) ?_
  refine lv_bipush (v := 16) hx hb dL_act_7 (by decide) ?_
  refine lv_idiv hx hb dL_act_9 (by decide) ?_
  refine g_top (y := nI (y / 16)) (pk_div (a := y) (d := 16) (by omega) (by decide) (by decide)) ?_
  refine lv_iconst (v := 3) hx hb dL_act_10 (by decide) ?_
  refine lv_irem hx hb dL_act_11 (by decide) ?_
  refine g_top (y := nI ((y / 16) % 3)) (pk_rem (a := (y / 16)) (d := 3) (by omega) (by decide) (by decide)) ?_
  refine lv_istore (lv' := [(4, .int (nI ((y / 16) % 3))), (3, .int (nI (N 0).toNatClampNeg)), (0, .ref (gad Γ 475)), (1, .int (nI x)), (2, .int (nI y))]) hx hb dL_act_12 hl (by decide) rfl (fun ls hl => ?_)
  refine lv_iload_n hx hb dL_act_14 rfl (lv_at hl 3 rfl) ?_
  refine lv_bipush (v := 16) hx hb dL_act_15 (by decide) ?_
  refine lv_irem hx hb dL_act_17 (by decide) ?_
  refine g_top (y := 8) ((pk_rem (a := x) (d := 16) (by omega) (by decide) (by decide)).trans (congrArg nI hc)) ?_
  refine lv_tableIn (tgt := 221) hx hb dL_act_18 (by decide) (by decide) rfl (by decide) ?_
  refine lv_aload_n hx hb dL_act_221 rfl (lv_at hl 2 rfl) ?_
  refine lv_bipush (v := 12) hx hb dL_act_222 (by decide) ?_
  refine lv_iload hx hb dL_act_224 (lv_at hl 0 rfl) ?_
  refine lv_iconst (v := 1) hx hb dL_act_226 (by decide) ?_
  refine lv_iload_n hx hb dL_act_227 rfl (lv_at hl 4 rfl) ?_
  refine lv_bipush (v := 64) hx hb dL_act_228 (by decide) ?_
  refine lv_idiv hx hb dL_act_230 (by decide) ?_
  refine g_top (y := nI (y / 64)) (pk_div (a := y) (d := 64) (by omega) (by decide) (by decide)) ?_
  refine lv_bipush (v := 9) hx hb dL_act_231 (by decide) ?_
  refine lv_irem hx hb dL_act_233 (by decide) ?_
  refine g_top (y := nI ((y / 64) % 9)) (pk_rem (a := (y / 64)) (d := 9) (by omega) (by decide) (by decide)) ?_
  refine lv_iadd hx hb dL_act_234 ?_
  refine g_top (show _ = nI (1 + ((y / 64) % 9)) from nI_add _ _) ?_
  refine lv_iconst (v := 0) hx hb dL_act_235 (by decide) ?_
  refine lv_iconst (v := 0) hx hb dL_act_236 (by decide) ?_
  refine l_call (X := 1) (K := 2) (CC := 3) (As := [.ref (gad Γ 475), .int 12, .int (nI ((y / 16) % 3)), .int (nI (1 + ((y / 64) % 9))), .int 0, .int 0]) (rest := []) (st1 := [.int (vA (rfSP N (nI (y / 16 % 3)) (nI (1 + y / 64 % 9))) ecS (v_spray N (nI (y / 16 % 3)) (nI (1 + y / 64 % 9))))]) hF (lc_trySpray (nI (y / 16 % 3)) (nI (1 + y / 64 % 9)) 0 0 (cl_spray (l := l) (Γ := Γ) hst (H := Hy) (k := k) (w := w) hN hu0 (nI (y / 16 % 3)) (nI (1 + y / 64 % 9)))) (va_cwS 6 hts qL_call rfl rfl rfl (by decide +kernel) ⟨Nat.le_of_ble_eq_true rfl, Nat.le_of_ble_eq_true rfl⟩) hK hZ hX hY hG hS rfl hl.1 (Nat.le_of_ble_eq_true rfl) dL_act_237 ⟨Nat.le_of_ble_eq_true rfl, Nat.le_of_ble_eq_true rfl⟩ (by omega) (by omega) rfl rfl (fun H locs hG hS => ?_)
  exact l_iret hx hb hrt hlocks hS hG rfl (by omega) dL_act_240

set_option maxHeartbeats 4000000 in
set_option maxRecDepth 100000 in
theorem L_act_9 {l : Launch} {Γ : gX} (hst : l.stackTraces = false) {u : Nat} {N : Nat → Int32} {Hy : Nat → Nat → Int32} {k : Nat} {w : WO} (hN : PI u N) (hu : 1998 * (u + 10000) < 2 ^ 31) {x y : Nat} (hx0 : x < 2 ^ 31) (hy0 : y < 2 ^ 31) (hc : x % 16 = 9) : lM l Γ yL_act wqL_act 12 262 3 [.ref (gad Γ 475), .int (nI x), .int (nI y)] (SH Γ N Hy k w) (some (.int (vA (rfFI N (nI (y / 16 % 3))) ecT (v_fill N (nI (y / 16 % 3)))))) (SH Γ (n_fill N (nI (y / 16 % 3))) (hA (rfFI N (nI (y / 16 % 3))) N Hy) (kA (rfFI N (nI (y / 16 % 3))) k) w) := by
  refine l_start (cc := cL_act) (maxL := 5) (ret := (some .int)) (by decide) rfl (Nat.le_of_ble_eq_true rfl) ?_
  intro p e s m below meth c ls hx hb hml hrt hts hown hlocks hK hZ hX hY hG hS hl
  have hl : lv_has ls 5 [(0, .ref (gad Γ 475)), (1, .int (nI x)), (2, .int (nI y))] := hl
  have hown : s.vm.findClass RL = some m.cls := hown
  have hF : CallFix p m c cL_act 5 s _ wqL_act RL := ⟨hx, hb, hml, hown, hts⟩
  have hu0 : 1998 * (u + 5000) < 2 ^ 31 := by omega
  have b0 := hN.s10.2
  have hSe := hN.s10.1
  have hSp : 0 < (N 0).toNatClampNeg := hN.2.1
  have hS31 : (N 0).toNatClampNeg < 2 ^ 31 := by omega
  have hS0 : ¬ nI (N 0).toNatClampNeg = 0 := nI_ne0 hSp hS31
  refine lv_aload_n hx hb dL_act_0 rfl (lv_at hl 0 rfl) ?_
  refine lv_iconst (v := 0) hx hb dL_act_1 (by decide) ?_
  refine l_call (X := 0) (K := 1) (CC := 3) (As := [.ref (gad Γ 475), .int 0]) (rest := []) (st1 := [.int (N 0)]) hF (r_about (N := N) (Hy := Hy) (k := k) (w := w) hst hN hu0 (a := 0) (j := 0) rfl (by decide)) (va_cwS 2 hts qL_about rfl rfl rfl (by decide +kernel) ⟨Nat.le_of_ble_eq_true rfl, Nat.le_of_ble_eq_true rfl⟩) hK hZ hX hY hG hS rfl hl.1 (Nat.le_of_ble_eq_true rfl) dL_act_2 ⟨Nat.le_of_ble_eq_true rfl, Nat.le_of_ble_eq_true rfl⟩ (by omega) (by omega) rfl rfl (fun H locs hG hS => ?_)
  refine g_top (y := (nI (N 0).toNatClampNeg)) hSe ?_
  refine lv_istore_n (lv' := [(3, .int (nI (N 0).toNatClampNeg)), (0, .ref (gad Γ 475)), (1, .int (nI x)), (2, .int (nI y))]) hx hb dL_act_5 rfl hl (by decide) rfl (fun ls hl => ?_)
  refine lv_iload_n hx hb dL_act_6 rfl (lv_at hl 3 rfl) ?_
  refine lv_bipush (v := 16) hx hb dL_act_7 (by decide) ?_
  refine lv_idiv hx hb dL_act_9 (by decide) ?_
  refine g_top (y := nI (y / 16)) (pk_div (a := y) (d := 16) (by omega) (by decide) (by decide)) ?_
  refine lv_iconst (v := 3) hx hb dL_act_10 (by decide) ?_
  refine lv_irem hx hb dL_act_11 (by decide) ?_
  refine g_top (y := nI ((y / 16) % 3)) (pk_rem (a := (y / 16)) (d := 3) (by omega) (by decide) (by decide)) ?_
  refine lv_istore (lv' := [(4, .int (nI ((y / 16) % 3))), (3, .int (nI (N 0).toNatClampNeg)), (0, .ref (gad Γ 475)), (1, .int (nI x)), (2, .int (nI y))]) hx hb dL_act_12 hl (by decide) rfl (fun ls hl => ?_)
  refine lv_iload_n hx hb dL_act_14 rfl (lv_at hl 3 rfl) ?_
  refine lv_bipush (v := 16) hx hb dL_act_15 (by decide) ?_
  refine lv_irem hx hb dL_act_17 (by decide) ?_
  refine g_top (y := 9) ((pk_rem (a := x) (d := 16) (by omega) (by decide) (by decide)).trans (congrArg nI hc)) ?_
  refine lv_tableIn (tgt := 241) hx hb dL_act_18 (by decide) (by decide) rfl (by decide) ?_
  refine lv_aload_n hx hb dL_act_241 rfl (lv_at hl 2 rfl) ?_
  refine lv_bipush (v := 13) hx hb dL_act_242 (by decide) ?_
  refine lv_iload hx hb dL_act_244 (lv_at hl 0 rfl) ?_
  refine lv_iconst (v := 0) hx hb dL_act_246 (by decide) ?_
  refine lv_iconst (v := 0) hx hb dL_act_247 (by decide) ?_
  refine lv_iconst (v := 0) hx hb dL_act_248 (by decide) ?_
  refine l_call (X := 1) (K := 2) (CC := 3) (As := [.ref (gad Γ 475), .int 13, .int (nI ((y / 16) % 3)), .int 0, .int 0, .int 0]) (rest := []) (st1 := [.int (vA (rfFI N (nI (y / 16 % 3))) ecT (v_fill N (nI (y / 16 % 3))))]) hF (lc_tryFill (nI (y / 16 % 3)) 0 0 0 (cl_fill (l := l) (Γ := Γ) hst (H := Hy) (k := k) (w := w) hN hu0 (nI (y / 16 % 3)))) (va_cwS 6 hts qL_call rfl rfl rfl (by decide +kernel) ⟨Nat.le_of_ble_eq_true rfl, Nat.le_of_ble_eq_true rfl⟩) hK hZ hX hY hG hS rfl hl.1 (Nat.le_of_ble_eq_true rfl) dL_act_249 ⟨Nat.le_of_ble_eq_true rfl, Nat.le_of_ble_eq_true rfl⟩ (by omega) (by omega) rfl rfl (fun H locs hG hS => ?_)
  exact l_iret hx hb hrt hlocks hS hG rfl (by omega) dL_act_252

set_option maxHeartbeats 4000000 in
set_option maxRecDepth 100000 in
theorem L_act_10 {l : Launch} {Γ : gX} (hst : l.stackTraces = false) {u : Nat} {N : Nat → Int32} {Hy : Nat → Nat → Int32} {k : Nat} {w : WO} (hN : PI u N) (hu : 1998 * (u + 10000) < 2 ^ 31) {x y : Nat} (hx0 : x < 2 ^ 31) (hy0 : y < 2 ^ 31) (hc : x % 16 = 10) : lM l Γ yL_act wqL_act 12 262 3 [.ref (gad Γ 475), .int (nI x), .int (nI y)] (SH Γ N Hy k w) (some (.int (vA (rfPA (nI (1 + y % 9))) ecA (v_pass N (nI (1 + y % 9)))))) (SH Γ (n_pass N (nI (1 + y % 9))) (hA (rfPA (nI (1 + y % 9))) N Hy) (kA (rfPA (nI (1 + y % 9))) k) w) := by
  refine l_start (cc := cL_act) (maxL := 5) (ret := (some .int)) (by decide) rfl (Nat.le_of_ble_eq_true rfl) ?_
  intro p e s m below meth c ls hx hb hml hrt hts hown hlocks hK hZ hX hY hG hS hl
  have hl : lv_has ls 5 [(0, .ref (gad Γ 475)), (1, .int (nI x)), (2, .int (nI y))] := hl
  have hown : s.vm.findClass RL = some m.cls := hown
  have hF : CallFix p m c cL_act 5 s _ wqL_act RL := ⟨hx, hb, hml, hown, hts⟩
  have hu0 : 1998 * (u + 5000) < 2 ^ 31 := by omega
  have b0 := hN.s10.2
  have hSe := hN.s10.1
  have hSp : 0 < (N 0).toNatClampNeg := hN.2.1
  have hS31 : (N 0).toNatClampNeg < 2 ^ 31 := by omega
  have hS0 : ¬ nI (N 0).toNatClampNeg = 0 := nI_ne0 hSp hS31
  refine lv_aload_n hx hb dL_act_0 rfl (lv_at hl 0 rfl) ?_
  refine lv_iconst (v := 0) hx hb dL_act_1 (by decide) ?_
  refine l_call (X := 0) (K := 1) (CC := 3) (As := [.ref (gad Γ 475), .int 0]) (rest := []) (st1 := [.int (N 0)]) hF (r_about (N := N) (Hy := Hy) (k := k) (w := w) hst hN hu0 (a := 0) (j := 0) rfl (by decide)) (va_cwS 2 hts qL_about rfl rfl rfl (by decide +kernel) ⟨Nat.le_of_ble_eq_true rfl, Nat.le_of_ble_eq_true rfl⟩) hK hZ hX hY hG hS rfl hl.1 (Nat.le_of_ble_eq_true rfl) dL_act_2 ⟨Nat.le_of_ble_eq_true rfl, Nat.le_of_ble_eq_true rfl⟩ (by omega) (by omega) rfl rfl (fun H locs hG hS => ?_)
  refine g_top (y := (nI (N 0).toNatClampNeg)) hSe ?_
  refine lv_istore_n (lv' := [(3, .int (nI (N 0).toNatClampNeg)), (0, .ref (gad Γ 475)), (1, .int (nI x)), (2, .int (nI y))]) hx hb dL_act_5 rfl hl (by decide) rfl (fun ls hl => ?_)
  refine lv_iload_n hx hb dL_act_6 rfl (lv_at hl 3 rfl) ?_
  refine lv_bipush (v := 16) hx hb dL_act_7 (by decide) ?_
  refine lv_idiv hx hb dL_act_9 (by decide) ?_
  refine g_top (y := nI (y / 16)) (pk_div (a := y) (d := 16) (by omega) (by decide) (by decide)) ?_
  refine lv_iconst (v := 3) hx hb dL_act_10 (by decide) ?_
  refine lv_irem hx hb dL_act_11 (by decide) ?_
  refine g_top (y := nI ((y / 16) % 3)) (pk_rem (a := (y / 16)) (d := 3) (by omega) (by decide) (by decide)) ?_
  refine lv_istore (lv' := [(4, .int (nI ((y / 16) % 3))), (3, .int (nI (N 0).toNatClampNeg)), (0, .ref (gad Γ 475)), (1, .int (nI x)), (2, .int (nI y))]) hx hb dL_act_12 hl (by decide) rfl (fun ls hl => ?_)
  refine lv_iload_n hx hb dL_act_14 rfl (lv_at hl 3 rfl) ?_
  refine lv_bipush (v := 16) hx hb dL_act_15 (by decide) ?_
  refine lv_irem hx hb dL_act_17 (by decide) ?_
  refine g_top (y := 10) ((pk_rem (a := x) (d := 16) (by omega) (by decide) (by decide)).trans (congrArg nI hc)) ?_
  refine lv_tableIn (tgt := 253) hx hb dL_act_18 (by decide) (by decide) rfl (by decide) ?_
  refine lv_aload_n hx hb dL_act_253 rfl (lv_at hl 2 rfl) ?_
  refine lv_bipush (v := 14) hx hb dL_act_254 (by decide) ?_
  refine lv_iconst (v := 1) hx hb dL_act_256 (by decide) ?_
  refine lv_iload_n hx hb dL_act_257 rfl (lv_at hl 4 rfl) ?_
  refine lv_bipush (v := 9) hx hb dL_act_258 (by decide) ?_
  refine lv_irem hx hb dL_act_260 (by decide) ?_
  refine g_top (y := nI (y % 9)) (pk_rem (a := y) (d := 9) (by omega) (by decide) (by decide)) ?_
  refine lv_iadd hx hb dL_act_261 ?_
  refine g_top (show _ = nI (1 + (y % 9)) from nI_add _ _) ?_
  refine lv_iconst (v := 0) hx hb dL_act_262 (by decide) ?_
  refine lv_iconst (v := 0) hx hb dL_act_263 (by decide) ?_
  refine lv_iconst (v := 0) hx hb dL_act_264 (by decide) ?_
  refine l_call (X := 1) (K := 2) (CC := 3) (As := [.ref (gad Γ 475), .int 14, .int (nI (1 + (y % 9))), .int 0, .int 0, .int 0]) (rest := []) (st1 := [.int (vA (rfPA (nI (1 + y % 9))) ecA (v_pass N (nI (1 + y % 9))))]) hF (lc_tryPass (nI (1 + y % 9)) 0 0 0 (cl_pass (l := l) (Γ := Γ) hst (H := Hy) (k := k) (w := w) hN hu0 (nI (1 + y % 9)))) (va_cwS 6 hts qL_call rfl rfl rfl (by decide +kernel) ⟨Nat.le_of_ble_eq_true rfl, Nat.le_of_ble_eq_true rfl⟩) hK hZ hX hY hG hS rfl hl.1 (Nat.le_of_ble_eq_true rfl) dL_act_265 ⟨Nat.le_of_ble_eq_true rfl, Nat.le_of_ble_eq_true rfl⟩ (by omega) (by omega) rfl rfl (fun H locs hG hS => ?_)
  exact l_iret hx hb hrt hlocks hS hG rfl (by omega) dL_act_268

set_option maxHeartbeats 4000000 in
set_option maxRecDepth 100000 in
theorem L_act_11 {l : Launch} {Γ : gX} (hst : l.stackTraces = false) {u : Nat} {N : Nat → Int32} {Hy : Nat → Nat → Int32} {k : Nat} {w : WO} (hN : PI u N) (hu : 1998 * (u + 10000) < 2 ^ 31) {x y : Nat} (hx0 : x < 2 ^ 31) (hy0 : y < 2 ^ 31) (hc : x % 16 = 11) : lM l Γ yL_act wqL_act 12 262 3 [.ref (gad Γ 475), .int (nI x), .int (nI y)] (SH Γ N Hy k w) (some (.int (vA (rfPA (nI (1 + y % 9))) ecA (v_pass N (nI (1 + y % 9)))))) (SH Γ (n_pass N (nI (1 + y % 9))) (hA (rfPA (nI (1 + y % 9))) N Hy) (kA (rfPA (nI (1 + y % 9))) k) w) := by
  refine l_start (cc := cL_act) (maxL := 5) (ret := (some .int)) (by decide) rfl (Nat.le_of_ble_eq_true rfl) ?_
  intro p e s m below meth c ls hx hb hml hrt hts hown hlocks hK hZ hX hY hG hS hl
  have hl : lv_has ls 5 [(0, .ref (gad Γ 475)), (1, .int (nI x)), (2, .int (nI y))] := hl
  have hown : s.vm.findClass RL = some m.cls := hown
  have hF : CallFix p m c cL_act 5 s _ wqL_act RL := ⟨hx, hb, hml, hown, hts⟩
  have hu0 : 1998 * (u + 5000) < 2 ^ 31 := by omega
  have b0 := hN.s10.2
  have hSe := hN.s10.1
  have hSp : 0 < (N 0).toNatClampNeg := hN.2.1
  have hS31 : (N 0).toNatClampNeg < 2 ^ 31 := by omega
  have hS0 : ¬ nI (N 0).toNatClampNeg = 0 := nI_ne0 hSp hS31
  refine lv_aload_n hx hb dL_act_0 rfl (lv_at hl 0 rfl) ?_
  refine lv_iconst (v := 0) hx hb dL_act_1 (by decide) ?_
  refine l_call (X := 0) (K := 1) (CC := 3) (As := [.ref (gad Γ 475), .int 0]) (rest := []) (st1 := [.int (N 0)]) hF (r_about (N := N) (Hy := Hy) (k := k) (w := w) hst hN hu0 (a := 0) (j := 0) rfl (by decide)) (va_cwS 2 hts qL_about rfl rfl rfl (by decide +kernel) ⟨Nat.le_of_ble_eq_true rfl, Nat.le_of_ble_eq_true rfl⟩) hK hZ hX hY hG hS rfl hl.1 (Nat.le_of_ble_eq_true rfl) dL_act_2 ⟨Nat.le_of_ble_eq_true rfl, Nat.le_of_ble_eq_true rfl⟩ (by omega) (by omega) rfl rfl (fun H locs hG hS => ?_)
  refine g_top (y := (nI (N 0).toNatClampNeg)) hSe ?_
  refine lv_istore_n (lv' := [(3, .int (nI (N 0).toNatClampNeg)), (0, .ref (gad Γ 475)), (1, .int (nI x)), (2, .int (nI y))]) hx hb dL_act_5 rfl hl (by decide) rfl (fun ls hl => ?_)
  refine lv_iload_n hx hb dL_act_6 rfl (lv_at hl 3 rfl) ?_
  refine lv_bipush (v := 16) hx hb dL_act_7 (by decide) ?_
  refine lv_idiv hx hb dL_act_9 (by decide) ?_
  refine g_top (y := nI (y / 16)) (pk_div (a := y) (d := 16) (by omega) (by decide) (by decide)) ?_
  refine lv_iconst (v := 3) hx hb dL_act_10 (by decide) ?_
  refine lv_irem hx hb dL_act_11 (by decide) ?_
  refine g_top (y := nI ((y / 16) % 3)) (pk_rem (a := (y / 16)) (d := 3) (by omega) (by decide) (by decide)) ?_
  refine lv_istore (lv' := [(4, .int (nI ((y / 16) % 3))), (3, .int (nI (N 0).toNatClampNeg)), (0, .ref (gad Γ 475)), (1, .int (nI x)), (2, .int (nI y))]) hx hb dL_act_12 hl (by decide) rfl (fun ls hl => ?_)
  refine lv_iload_n hx hb dL_act_14 rfl (lv_at hl 3 rfl) ?_
  refine lv_bipush (v := 16) hx hb dL_act_15 (by decide) ?_
  refine lv_irem hx hb dL_act_17 (by decide) ?_
  refine g_top (y := 11) ((pk_rem (a := x) (d := 16) (by omega) (by decide) (by decide)).trans (congrArg nI hc)) ?_
  refine lv_tableIn (tgt := 253) hx hb dL_act_18 (by decide) (by decide) rfl (by decide) ?_
  refine lv_aload_n hx hb dL_act_253 rfl (lv_at hl 2 rfl) ?_
  refine lv_bipush (v := 14) hx hb dL_act_254 (by decide) ?_
  refine lv_iconst (v := 1) hx hb dL_act_256 (by decide) ?_
  refine lv_iload_n hx hb dL_act_257 rfl (lv_at hl 4 rfl) ?_
  refine lv_bipush (v := 9) hx hb dL_act_258 (by decide) ?_
  refine lv_irem hx hb dL_act_260 (by decide) ?_
  refine g_top (y := nI (y % 9)) (pk_rem (a := y) (d := 9) (by omega) (by decide) (by decide)) ?_
  refine lv_iadd hx hb dL_act_261 ?_
  refine g_top (show _ = nI (1 + (y % 9)) from nI_add _ _) ?_
  refine lv_iconst (v := 0) hx hb dL_act_262 (by decide) ?_
  refine lv_iconst (v := 0) hx hb dL_act_263 (by decide) ?_
  refine lv_iconst (v := 0) hx hb dL_act_264 (by decide) ?_
  refine l_call (X := 1) (K := 2) (CC := 3) (As := [.ref (gad Γ 475), .int 14, .int (nI (1 + (y % 9))), .int 0, .int 0, .int 0]) (rest := []) (st1 := [.int (vA (rfPA (nI (1 + y % 9))) ecA (v_pass N (nI (1 + y % 9))))]) hF (lc_tryPass (nI (1 + y % 9)) 0 0 0 (cl_pass (l := l) (Γ := Γ) hst (H := Hy) (k := k) (w := w) hN hu0 (nI (1 + y % 9)))) (va_cwS 6 hts qL_call rfl rfl rfl (by decide +kernel) ⟨Nat.le_of_ble_eq_true rfl, Nat.le_of_ble_eq_true rfl⟩) hK hZ hX hY hG hS rfl hl.1 (Nat.le_of_ble_eq_true rfl) dL_act_265 ⟨Nat.le_of_ble_eq_true rfl, Nat.le_of_ble_eq_true rfl⟩ (by omega) (by omega) rfl rfl (fun H locs hG hS => ?_)
  exact l_iret hx hb hrt hlocks hS hG rfl (by omega) dL_act_268

set_option maxHeartbeats 4000000 in
set_option maxRecDepth 100000 in
theorem L_act_12 {l : Launch} {Γ : gX} (hst : l.stackTraces = false) {u : Nat} {N : Nat → Int32} {Hy : Nat → Nat → Int32} {k : Nat} {w : WO} (hN : PI u N) (hu : 1998 * (u + 10000) < 2 ^ 31) {x y : Nat} (hx0 : x < 2 ^ 31) (hy0 : y < 2 ^ 31) (hc : x % 16 = 12) : lM l Γ yL_act wqL_act 12 262 3 [.ref (gad Γ 475), .int (nI x), .int (nI y)] (SH Γ N Hy k w) (some (.int (vA (rfPA (nI (1 + y % 9))) ecA (v_pass N (nI (1 + y % 9)))))) (SH Γ (n_pass N (nI (1 + y % 9))) (hA (rfPA (nI (1 + y % 9))) N Hy) (kA (rfPA (nI (1 + y % 9))) k) w) := by
  refine l_start (cc := cL_act) (maxL := 5) (ret := (some .int)) (by decide) rfl (Nat.le_of_ble_eq_true rfl) ?_
  intro p e s m below meth c ls hx hb hml hrt hts hown hlocks hK hZ hX hY hG hS hl
  have hl : lv_has ls 5 [(0, .ref (gad Γ 475)), (1, .int (nI x)), (2, .int (nI y))] := hl
  have hown : s.vm.findClass RL = some m.cls := hown
  have hF : CallFix p m c cL_act 5 s _ wqL_act RL := ⟨hx, hb, hml, hown, hts⟩
  have hu0 : 1998 * (u + 5000) < 2 ^ 31 := by omega
  have b0 := hN.s10.2
  have hSe := hN.s10.1
  have hSp : 0 < (N 0).toNatClampNeg := hN.2.1
  have hS31 : (N 0).toNatClampNeg < 2 ^ 31 := by omega
  have hS0 : ¬ nI (N 0).toNatClampNeg = 0 := nI_ne0 hSp hS31
  refine lv_aload_n hx hb dL_act_0 rfl (lv_at hl 0 rfl) ?_
  refine lv_iconst (v := 0) hx hb dL_act_1 (by decide) ?_
  refine l_call (X := 0) (K := 1) (CC := 3) (As := [.ref (gad Γ 475), .int 0]) (rest := []) (st1 := [.int (N 0)]) hF (r_about (N := N) (Hy := Hy) (k := k) (w := w) hst hN hu0 (a := 0) (j := 0) rfl (by decide)) (va_cwS 2 hts qL_about rfl rfl rfl (by decide +kernel) ⟨Nat.le_of_ble_eq_true rfl, Nat.le_of_ble_eq_true rfl⟩) hK hZ hX hY hG hS rfl hl.1 (Nat.le_of_ble_eq_true rfl) dL_act_2 ⟨Nat.le_of_ble_eq_true rfl, Nat.le_of_ble_eq_true rfl⟩ (by omega) (by omega) rfl rfl (fun H locs hG hS => ?_)
  refine g_top (y := (nI (N 0).toNatClampNeg)) hSe ?_
  refine lv_istore_n (lv' := [(3, .int (nI (N 0).toNatClampNeg)), (0, .ref (gad Γ 475)), (1, .int (nI x)), (2, .int (nI y))]) hx hb dL_act_5 rfl hl (by decide) rfl (fun ls hl => ?_)
  refine lv_iload_n hx hb dL_act_6 rfl (lv_at hl 3 rfl) ?_
  refine lv_bipush (v := 16) hx hb dL_act_7 (by decide) ?_
  refine lv_idiv hx hb dL_act_9 (by decide) ?_
  refine g_top (y := nI (y / 16)) (pk_div (a := y) (d := 16) (by omega) (by decide) (by decide)) ?_
  refine lv_iconst (v := 3) hx hb dL_act_10 (by decide) ?_
  refine lv_irem hx hb dL_act_11 (by decide) ?_
  refine g_top (y := nI ((y / 16) % 3)) (pk_rem (a := (y / 16)) (d := 3) (by omega) (by decide) (by decide)) ?_
  refine lv_istore (lv' := [(4, .int (nI ((y / 16) % 3))), (3, .int (nI (N 0).toNatClampNeg)), (0, .ref (gad Γ 475)), (1, .int (nI x)), (2, .int (nI y))]) hx hb dL_act_12 hl (by decide) rfl (fun ls hl => ?_)
  refine lv_iload_n hx hb dL_act_14 rfl (lv_at hl 3 rfl) ?_
  refine lv_bipush (v := 16) hx hb dL_act_15 (by decide) ?_
  refine lv_irem hx hb dL_act_17 (by decide) ?_
  refine g_top (y := 12) ((pk_rem (a := x) (d := 16) (by omega) (by decide) (by decide)).trans (congrArg nI hc)) ?_
  refine lv_tableIn (tgt := 253) hx hb dL_act_18 (by decide) (by decide) rfl (by decide) ?_
  refine lv_aload_n hx hb dL_act_253 rfl (lv_at hl 2 rfl) ?_
  refine lv_bipush (v := 14) hx hb dL_act_254 (by decide) ?_
  refine lv_iconst (v := 1) hx hb dL_act_256 (by decide) ?_
  refine lv_iload_n hx hb dL_act_257 rfl (lv_at hl 4 rfl) ?_
  refine lv_bipush (v := 9) hx hb dL_act_258 (by decide) ?_
  refine lv_irem hx hb dL_act_260 (by decide) ?_
  refine g_top (y := nI (y % 9)) (pk_rem (a := y) (d := 9) (by omega) (by decide) (by decide)) ?_
  refine lv_iadd hx hb dL_act_261 ?_
  refine g_top (show _ = nI (1 + (y % 9)) from nI_add _ _) ?_
  refine lv_iconst (v := 0) hx hb dL_act_262 (by decide) ?_
  refine lv_iconst (v := 0) hx hb dL_act_263 (by decide) ?_
  refine lv_iconst (v := 0) hx hb dL_act_264 (by decide) ?_
  refine l_call (X := 1) (K := 2) (CC := 3) (As := [.ref (gad Γ 475), .int 14, .int (nI (1 + (y % 9))), .int 0, .int 0, .int 0]) (rest := []) (st1 := [.int (vA (rfPA (nI (1 + y % 9))) ecA (v_pass N (nI (1 + y % 9))))]) hF (lc_tryPass (nI (1 + y % 9)) 0 0 0 (cl_pass (l := l) (Γ := Γ) hst (H := Hy) (k := k) (w := w) hN hu0 (nI (1 + y % 9)))) (va_cwS 6 hts qL_call rfl rfl rfl (by decide +kernel) ⟨Nat.le_of_ble_eq_true rfl, Nat.le_of_ble_eq_true rfl⟩) hK hZ hX hY hG hS rfl hl.1 (Nat.le_of_ble_eq_true rfl) dL_act_265 ⟨Nat.le_of_ble_eq_true rfl, Nat.le_of_ble_eq_true rfl⟩ (by omega) (by omega) rfl rfl (fun H locs hG hS => ?_)
  exact l_iret hx hb hrt hlocks hS hG rfl (by omega) dL_act_268

set_option maxHeartbeats 4000000 in
set_option maxRecDepth 100000 in
theorem L_act_13 {l : Launch} {Γ : gX} (hst : l.stackTraces = false) {u : Nat} {N : Nat → Int32} {Hy : Nat → Nat → Int32} {k : Nat} {w : WO} (hN : PI u N) (hu : 1998 * (u + 10000) < 2 ^ 31) {x y : Nat} (hx0 : x < 2 ^ 31) (hy0 : y < 2 ^ 31) (hc : x % 16 = 13) : lM l Γ yL_act wqL_act 12 262 3 [.ref (gad Γ 475), .int (nI x), .int (nI y)] (SH Γ N Hy k w) (some (.int (vA (rfPA (nI (1 + y % 9))) ecA (v_pass N (nI (1 + y % 9)))))) (SH Γ (n_pass N (nI (1 + y % 9))) (hA (rfPA (nI (1 + y % 9))) N Hy) (kA (rfPA (nI (1 + y % 9))) k) w) := by
  refine l_start (cc := cL_act) (maxL := 5) (ret := (some .int)) (by decide) rfl (Nat.le_of_ble_eq_true rfl) ?_
  intro p e s m below meth c ls hx hb hml hrt hts hown hlocks hK hZ hX hY hG hS hl
  have hl : lv_has ls 5 [(0, .ref (gad Γ 475)), (1, .int (nI x)), (2, .int (nI y))] := hl
  have hown : s.vm.findClass RL = some m.cls := hown
  have hF : CallFix p m c cL_act 5 s _ wqL_act RL := ⟨hx, hb, hml, hown, hts⟩
  have hu0 : 1998 * (u + 5000) < 2 ^ 31 := by omega
  have b0 := hN.s10.2
  have hSe := hN.s10.1
  have hSp : 0 < (N 0).toNatClampNeg := hN.2.1
  have hS31 : (N 0).toNatClampNeg < 2 ^ 31 := by omega
  have hS0 : ¬ nI (N 0).toNatClampNeg = 0 := nI_ne0 hSp hS31
  refine lv_aload_n hx hb dL_act_0 rfl (lv_at hl 0 rfl) ?_
  refine lv_iconst (v := 0) hx hb dL_act_1 (by decide) ?_
  refine l_call (X := 0) (K := 1) (CC := 3) (As := [.ref (gad Γ 475), .int 0]) (rest := []) (st1 := [.int (N 0)]) hF (r_about (N := N) (Hy := Hy) (k := k) (w := w) hst hN hu0 (a := 0) (j := 0) rfl (by decide)) (va_cwS 2 hts qL_about rfl rfl rfl (by decide +kernel) ⟨Nat.le_of_ble_eq_true rfl, Nat.le_of_ble_eq_true rfl⟩) hK hZ hX hY hG hS rfl hl.1 (Nat.le_of_ble_eq_true rfl) dL_act_2 ⟨Nat.le_of_ble_eq_true rfl, Nat.le_of_ble_eq_true rfl⟩ (by omega) (by omega) rfl rfl (fun H locs hG hS => ?_)
  refine g_top (y := (nI (N 0).toNatClampNeg)) hSe ?_
  refine lv_istore_n (lv' := [(3, .int (nI (N 0).toNatClampNeg)), (0, .ref (gad Γ 475)), (1, .int (nI x)), (2, .int (nI y))]) hx hb dL_act_5 rfl hl (by decide) rfl (fun ls hl => ?_)
  refine lv_iload_n hx hb dL_act_6 rfl (lv_at hl 3 rfl) ?_
  refine lv_bipush (v := 16) hx hb dL_act_7 (by decide) ?_
  refine lv_idiv hx hb dL_act_9 (by decide) ?_
  refine g_top (y := nI (y / 16)) (pk_div (a := y) (d := 16) (by omega) (by decide) (by decide)) ?_
  refine lv_iconst (v := 3) hx hb dL_act_10 (by decide) ?_
  refine lv_irem hx hb dL_act_11 (by decide) ?_
  refine g_top (y := nI ((y / 16) % 3)) (pk_rem (a := (y / 16)) (d := 3) (by omega) (by decide) (by decide)) ?_
  refine lv_istore (lv' := [(4, .int (nI ((y / 16) % 3))), (3, .int (nI (N 0).toNatClampNeg)), (0, .ref (gad Γ 475)), (1, .int (nI x)), (2, .int (nI y))]) hx hb dL_act_12 hl (by decide) rfl (fun ls hl => ?_)
  refine lv_iload_n hx hb dL_act_14 rfl (lv_at hl 3 rfl) ?_
  refine lv_bipush (v := 16) hx hb dL_act_15 (by decide) ?_
  refine lv_irem hx hb dL_act_17 (by decide) ?_
  refine g_top (y := 13) ((pk_rem (a := x) (d := 16) (by omega) (by decide) (by decide)).trans (congrArg nI hc)) ?_
  refine lv_tableIn (tgt := 253) hx hb dL_act_18 (by decide) (by decide) rfl (by decide) ?_
  refine lv_aload_n hx hb dL_act_253 rfl (lv_at hl 2 rfl) ?_
  refine lv_bipush (v := 14) hx hb dL_act_254 (by decide) ?_
  refine lv_iconst (v := 1) hx hb dL_act_256 (by decide) ?_
  refine lv_iload_n hx hb dL_act_257 rfl (lv_at hl 4 rfl) ?_
  refine lv_bipush (v := 9) hx hb dL_act_258 (by decide) ?_
  refine lv_irem hx hb dL_act_260 (by decide) ?_
  refine g_top (y := nI (y % 9)) (pk_rem (a := y) (d := 9) (by omega) (by decide) (by decide)) ?_
  refine lv_iadd hx hb dL_act_261 ?_
  refine g_top (show _ = nI (1 + (y % 9)) from nI_add _ _) ?_
  refine lv_iconst (v := 0) hx hb dL_act_262 (by decide) ?_
  refine lv_iconst (v := 0) hx hb dL_act_263 (by decide) ?_
  refine lv_iconst (v := 0) hx hb dL_act_264 (by decide) ?_
  refine l_call (X := 1) (K := 2) (CC := 3) (As := [.ref (gad Γ 475), .int 14, .int (nI (1 + (y % 9))), .int 0, .int 0, .int 0]) (rest := []) (st1 := [.int (vA (rfPA (nI (1 + y % 9))) ecA (v_pass N (nI (1 + y % 9))))]) hF (lc_tryPass (nI (1 + y % 9)) 0 0 0 (cl_pass (l := l) (Γ := Γ) hst (H := Hy) (k := k) (w := w) hN hu0 (nI (1 + y % 9)))) (va_cwS 6 hts qL_call rfl rfl rfl (by decide +kernel) ⟨Nat.le_of_ble_eq_true rfl, Nat.le_of_ble_eq_true rfl⟩) hK hZ hX hY hG hS rfl hl.1 (Nat.le_of_ble_eq_true rfl) dL_act_265 ⟨Nat.le_of_ble_eq_true rfl, Nat.le_of_ble_eq_true rfl⟩ (by omega) (by omega) rfl rfl (fun H locs hG hS => ?_)
  exact l_iret hx hb hrt hlocks hS hG rfl (by omega) dL_act_268

set_option maxHeartbeats 4000000 in
set_option maxRecDepth 100000 in
theorem L_act_14a {l : Launch} {Γ : gX} (hst : l.stackTraces = false) {u : Nat} {N : Nat → Int32} {Hy : Nat → Nat → Int32} {k : Nat} {w : WO} (hN : PI u N) (hu : 1998 * (u + 10000) < 2 ^ 31) {x y : Nat} (hx0 : x < 2 ^ 31) (hy0 : y < 2 ^ 31) (hc : x % 16 = 14) : lM l Γ yL_act wqL_act 12 262 3 [.ref (gad Γ 475), .int (nI x), .int (nI y)] (SH Γ N Hy 0 w) (some (.int ((-9999003)))) (SH Γ N Hy 0 w) := by
  refine l_start (cc := cL_act) (maxL := 5) (ret := (some .int)) (by decide) rfl (Nat.le_of_ble_eq_true rfl) ?_
  intro p e s m below meth c ls hx hb hml hrt hts hown hlocks hK hZ hX hY hG hS hl
  have hl : lv_has ls 5 [(0, .ref (gad Γ 475)), (1, .int (nI x)), (2, .int (nI y))] := hl
  have hown : s.vm.findClass RL = some m.cls := hown
  have hF : CallFix p m c cL_act 5 s _ wqL_act RL := ⟨hx, hb, hml, hown, hts⟩
  have hu0 : 1998 * (u + 5000) < 2 ^ 31 := by omega
  have b0 := hN.s10.2
  have hSe := hN.s10.1
  have hSp : 0 < (N 0).toNatClampNeg := hN.2.1
  have hS31 : (N 0).toNatClampNeg < 2 ^ 31 := by omega
  have hS0 : ¬ nI (N 0).toNatClampNeg = 0 := nI_ne0 hSp hS31
  refine lv_aload_n hx hb dL_act_0 rfl (lv_at hl 0 rfl) ?_
  refine lv_iconst (v := 0) hx hb dL_act_1 (by decide) ?_
  refine l_call (X := 0) (K := 1) (CC := 3) (As := [.ref (gad Γ 475), .int 0]) (rest := []) (st1 := [.int (N 0)]) hF (r_about (N := N) (Hy := Hy) (k := 0) (w := w) hst hN hu0 (a := 0) (j := 0) rfl (by decide)) (va_cwS 2 hts qL_about rfl rfl rfl (by decide +kernel) ⟨Nat.le_of_ble_eq_true rfl, Nat.le_of_ble_eq_true rfl⟩) hK hZ hX hY hG hS rfl hl.1 (Nat.le_of_ble_eq_true rfl) dL_act_2 ⟨Nat.le_of_ble_eq_true rfl, Nat.le_of_ble_eq_true rfl⟩ (by omega) (by omega) rfl rfl (fun H locs hG hS => ?_)
  refine g_top (y := (nI (N 0).toNatClampNeg)) hSe ?_
  refine lv_istore_n (lv' := [(3, .int (nI (N 0).toNatClampNeg)), (0, .ref (gad Γ 475)), (1, .int (nI x)), (2, .int (nI y))]) hx hb dL_act_5 rfl hl (by decide) rfl (fun ls hl => ?_)
  refine lv_iload_n hx hb dL_act_6 rfl (lv_at hl 3 rfl) ?_
  refine lv_bipush (v := 16) hx hb dL_act_7 (by decide) ?_
  refine lv_idiv hx hb dL_act_9 (by decide) ?_
  refine g_top (y := nI (y / 16)) (pk_div (a := y) (d := 16) (by omega) (by decide) (by decide)) ?_
  refine lv_iconst (v := 3) hx hb dL_act_10 (by decide) ?_
  refine lv_irem hx hb dL_act_11 (by decide) ?_
  refine g_top (y := nI ((y / 16) % 3)) (pk_rem (a := (y / 16)) (d := 3) (by omega) (by decide) (by decide)) ?_
  refine lv_istore (lv' := [(4, .int (nI ((y / 16) % 3))), (3, .int (nI (N 0).toNatClampNeg)), (0, .ref (gad Γ 475)), (1, .int (nI x)), (2, .int (nI y))]) hx hb dL_act_12 hl (by decide) rfl (fun ls hl => ?_)
  refine lv_iload_n hx hb dL_act_14 rfl (lv_at hl 3 rfl) ?_
  refine lv_bipush (v := 16) hx hb dL_act_15 (by decide) ?_
  refine lv_irem hx hb dL_act_17 (by decide) ?_
  refine g_top (y := 14) ((pk_rem (a := x) (d := 16) (by omega) (by decide) (by decide)).trans (congrArg nI hc)) ?_
  refine lv_tableIn (tgt := 269) hx hb dL_act_18 (by decide) (by decide) rfl (by decide) ?_
  refine lv_aload_n hx hb dL_act_269 rfl (lv_at hl 2 rfl) ?_
  refine lv_bipush (v := 15) hx hb dL_act_270 (by decide) ?_
  refine lv_iconst (v := 0) hx hb dL_act_272 (by decide) ?_
  refine lv_iconst (v := 0) hx hb dL_act_273 (by decide) ?_
  refine lv_iconst (v := 0) hx hb dL_act_274 (by decide) ?_
  refine lv_iconst (v := 0) hx hb dL_act_275 (by decide) ?_
  refine l_call (X := 1) (K := 2) (CC := 3) (As := [.ref (gad Γ 475), .int 15, .int 0, .int 0, .int 0, .int 0]) (rest := []) (st1 := [.int (-9999003)]) hF (lc_tryUndo 0 0 0 0 (cl_undo0 (l := l) (Γ := Γ) hst (N := N) (H := Hy) (w := w))) (va_cwS 6 hts qL_call rfl rfl rfl (by decide +kernel) ⟨Nat.le_of_ble_eq_true rfl, Nat.le_of_ble_eq_true rfl⟩) hK hZ hX hY hG hS rfl hl.1 (Nat.le_of_ble_eq_true rfl) dL_act_276 ⟨Nat.le_of_ble_eq_true rfl, Nat.le_of_ble_eq_true rfl⟩ (by omega) (by omega) rfl rfl (fun H locs hG hS => ?_)
  exact l_iret hx hb hrt hlocks hS hG rfl (by omega) dL_act_279

set_option maxHeartbeats 4000000 in
set_option maxRecDepth 100000 in
theorem L_act_14b {l : Launch} {Γ : gX} (hst : l.stackTraces = false) {u : Nat} {N : Nat → Int32} {Hy : Nat → Nat → Int32} {k : Nat} {w : WO} (hN : PI u N) (hu : 1998 * (u + 10000) < 2 ^ 31) {x y : Nat} (hx0 : x < 2 ^ 31) (hy0 : y < 2 ^ 31) (hc : x % 16 = 14) {v : Nat} (hH : PI v (Hy 0)) : lM l Γ yL_act wqL_act 12 262 3 [.ref (gad Γ 475), .int (nI x), .int (nI y)] (SH Γ N Hy (k + 1) w) (some (.int (nI k))) (SH Γ (Hy 0) (fun i => Hy (i + 1)) k w) := by
  refine l_start (cc := cL_act) (maxL := 5) (ret := (some .int)) (by decide) rfl (Nat.le_of_ble_eq_true rfl) ?_
  intro p e s m below meth c ls hx hb hml hrt hts hown hlocks hK hZ hX hY hG hS hl
  have hl : lv_has ls 5 [(0, .ref (gad Γ 475)), (1, .int (nI x)), (2, .int (nI y))] := hl
  have hown : s.vm.findClass RL = some m.cls := hown
  have hF : CallFix p m c cL_act 5 s _ wqL_act RL := ⟨hx, hb, hml, hown, hts⟩
  have hu0 : 1998 * (u + 5000) < 2 ^ 31 := by omega
  have b0 := hN.s10.2
  have hSe := hN.s10.1
  have hSp : 0 < (N 0).toNatClampNeg := hN.2.1
  have hS31 : (N 0).toNatClampNeg < 2 ^ 31 := by omega
  have hS0 : ¬ nI (N 0).toNatClampNeg = 0 := nI_ne0 hSp hS31
  refine lv_aload_n hx hb dL_act_0 rfl (lv_at hl 0 rfl) ?_
  refine lv_iconst (v := 0) hx hb dL_act_1 (by decide) ?_
  refine l_call (X := 0) (K := 1) (CC := 3) (As := [.ref (gad Γ 475), .int 0]) (rest := []) (st1 := [.int (N 0)]) hF (r_about (N := N) (Hy := Hy) (k := (k + 1)) (w := w) hst hN hu0 (a := 0) (j := 0) rfl (by decide)) (va_cwS 2 hts qL_about rfl rfl rfl (by decide +kernel) ⟨Nat.le_of_ble_eq_true rfl, Nat.le_of_ble_eq_true rfl⟩) hK hZ hX hY hG hS rfl hl.1 (Nat.le_of_ble_eq_true rfl) dL_act_2 ⟨Nat.le_of_ble_eq_true rfl, Nat.le_of_ble_eq_true rfl⟩ (by omega) (by omega) rfl rfl (fun H locs hG hS => ?_)
  refine g_top (y := (nI (N 0).toNatClampNeg)) hSe ?_
  refine lv_istore_n (lv' := [(3, .int (nI (N 0).toNatClampNeg)), (0, .ref (gad Γ 475)), (1, .int (nI x)), (2, .int (nI y))]) hx hb dL_act_5 rfl hl (by decide) rfl (fun ls hl => ?_)
  refine lv_iload_n hx hb dL_act_6 rfl (lv_at hl 3 rfl) ?_
  refine lv_bipush (v := 16) hx hb dL_act_7 (by decide) ?_
  refine lv_idiv hx hb dL_act_9 (by decide) ?_
  refine g_top (y := nI (y / 16)) (pk_div (a := y) (d := 16) (by omega) (by decide) (by decide)) ?_
  refine lv_iconst (v := 3) hx hb dL_act_10 (by decide) ?_
  refine lv_irem hx hb dL_act_11 (by decide) ?_
  refine g_top (y := nI ((y / 16) % 3)) (pk_rem (a := (y / 16)) (d := 3) (by omega) (by decide) (by decide)) ?_
  refine lv_istore (lv' := [(4, .int (nI ((y / 16) % 3))), (3, .int (nI (N 0).toNatClampNeg)), (0, .ref (gad Γ 475)), (1, .int (nI x)), (2, .int (nI y))]) hx hb dL_act_12 hl (by decide) rfl (fun ls hl => ?_)
  refine lv_iload_n hx hb dL_act_14 rfl (lv_at hl 3 rfl) ?_
  refine lv_bipush (v := 16) hx hb dL_act_15 (by decide) ?_
  refine lv_irem hx hb dL_act_17 (by decide) ?_
  refine g_top (y := 14) ((pk_rem (a := x) (d := 16) (by omega) (by decide) (by decide)).trans (congrArg nI hc)) ?_
  refine lv_tableIn (tgt := 269) hx hb dL_act_18 (by decide) (by decide) rfl (by decide) ?_
  refine lv_aload_n hx hb dL_act_269 rfl (lv_at hl 2 rfl) ?_
  refine lv_bipush (v := 15) hx hb dL_act_270 (by decide) ?_
  refine lv_iconst (v := 0) hx hb dL_act_272 (by decide) ?_
  refine lv_iconst (v := 0) hx hb dL_act_273 (by decide) ?_
  refine lv_iconst (v := 0) hx hb dL_act_274 (by decide) ?_
  refine lv_iconst (v := 0) hx hb dL_act_275 (by decide) ?_
  refine l_call (X := 1) (K := 2) (CC := 3) (As := [.ref (gad Γ 475), .int 15, .int 0, .int 0, .int 0, .int 0]) (rest := []) (st1 := [.int (nI k)]) hF (lc_tryUndo 0 0 0 0 (cl_undo (l := l) (Γ := Γ) (N := N) (H := Hy) (k := k) (w := w) hH)) (va_cwS 6 hts qL_call rfl rfl rfl (by decide +kernel) ⟨Nat.le_of_ble_eq_true rfl, Nat.le_of_ble_eq_true rfl⟩) hK hZ hX hY hG hS rfl hl.1 (Nat.le_of_ble_eq_true rfl) dL_act_276 ⟨Nat.le_of_ble_eq_true rfl, Nat.le_of_ble_eq_true rfl⟩ (by omega) (by omega) rfl rfl (fun H locs hG hS => ?_)
  exact l_iret hx hb hrt hlocks hS hG rfl (by omega) dL_act_279

set_option maxHeartbeats 4000000 in
set_option maxRecDepth 100000 in
theorem L_act_15a {l : Launch} {Γ : gX} (hst : l.stackTraces = false) {u : Nat} {N : Nat → Int32} {Hy : Nat → Nat → Int32} {k : Nat} {w : WO} (hN : PI u N) (hu : 1998 * (u + 10000) < 2 ^ 31) {x y : Nat} (hx0 : x < 2 ^ 31) (hy0 : y < 2 ^ 31) (hc : x % 16 = 15) (h2 : y % 2 = 0) : lM l Γ yL_act wqL_act 12 262 3 [.ref (gad Γ 475), .int (nI x), .int (nI y)] (SH Γ N Hy k w) (some (.int (v_time N))) (SH Γ N Hy k (va_up w.1 1 (some N), w.2)) := by
  refine l_start (cc := cL_act) (maxL := 5) (ret := (some .int)) (by decide) rfl (Nat.le_of_ble_eq_true rfl) ?_
  intro p e s m below meth c ls hx hb hml hrt hts hown hlocks hK hZ hX hY hG hS hl
  have hl : lv_has ls 5 [(0, .ref (gad Γ 475)), (1, .int (nI x)), (2, .int (nI y))] := hl
  have hown : s.vm.findClass RL = some m.cls := hown
  have hF : CallFix p m c cL_act 5 s _ wqL_act RL := ⟨hx, hb, hml, hown, hts⟩
  have hu0 : 1998 * (u + 5000) < 2 ^ 31 := by omega
  have b0 := hN.s10.2
  have hSe := hN.s10.1
  have hSp : 0 < (N 0).toNatClampNeg := hN.2.1
  have hS31 : (N 0).toNatClampNeg < 2 ^ 31 := by omega
  have hS0 : ¬ nI (N 0).toNatClampNeg = 0 := nI_ne0 hSp hS31
  refine lv_aload_n hx hb dL_act_0 rfl (lv_at hl 0 rfl) ?_
  refine lv_iconst (v := 0) hx hb dL_act_1 (by decide) ?_
  refine l_call (X := 0) (K := 1) (CC := 3) (As := [.ref (gad Γ 475), .int 0]) (rest := []) (st1 := [.int (N 0)]) hF (r_about (N := N) (Hy := Hy) (k := k) (w := w) hst hN hu0 (a := 0) (j := 0) rfl (by decide)) (va_cwS 2 hts qL_about rfl rfl rfl (by decide +kernel) ⟨Nat.le_of_ble_eq_true rfl, Nat.le_of_ble_eq_true rfl⟩) hK hZ hX hY hG hS rfl hl.1 (Nat.le_of_ble_eq_true rfl) dL_act_2 ⟨Nat.le_of_ble_eq_true rfl, Nat.le_of_ble_eq_true rfl⟩ (by omega) (by omega) rfl rfl (fun H locs hG hS => ?_)
  refine g_top (y := (nI (N 0).toNatClampNeg)) hSe ?_
  refine lv_istore_n (lv' := [(3, .int (nI (N 0).toNatClampNeg)), (0, .ref (gad Γ 475)), (1, .int (nI x)), (2, .int (nI y))]) hx hb dL_act_5 rfl hl (by decide) rfl (fun ls hl => ?_)
  refine lv_iload_n hx hb dL_act_6 rfl (lv_at hl 3 rfl) ?_
  refine lv_bipush (v := 16) hx hb dL_act_7 (by decide) ?_
  refine lv_idiv hx hb dL_act_9 (by decide) ?_
  refine g_top (y := nI (y / 16)) (pk_div (a := y) (d := 16) (by omega) (by decide) (by decide)) ?_
  refine lv_iconst (v := 3) hx hb dL_act_10 (by decide) ?_
  refine lv_irem hx hb dL_act_11 (by decide) ?_
  refine g_top (y := nI ((y / 16) % 3)) (pk_rem (a := (y / 16)) (d := 3) (by omega) (by decide) (by decide)) ?_
  refine lv_istore (lv' := [(4, .int (nI ((y / 16) % 3))), (3, .int (nI (N 0).toNatClampNeg)), (0, .ref (gad Γ 475)), (1, .int (nI x)), (2, .int (nI y))]) hx hb dL_act_12 hl (by decide) rfl (fun ls hl => ?_)
  refine lv_iload_n hx hb dL_act_14 rfl (lv_at hl 3 rfl) ?_
  refine lv_bipush (v := 16) hx hb dL_act_15 (by decide) ?_
  refine lv_irem hx hb dL_act_17 (by decide) ?_
  refine g_top (y := 15) ((pk_rem (a := x) (d := 16) (by omega) (by decide) (by decide)).trans (congrArg nI hc)) ?_
  refine lv_tableOut (tgt := 280) hx hb dL_act_18 (by decide) (by decide) ?_
  refine lv_iload_n hx hb dL_act_280 rfl (lv_at hl 4 rfl) ?_
  refine lv_iconst (v := 2) hx hb dL_act_281 (by decide) ?_
  refine lv_irem hx hb dL_act_282 (by decide) ?_
  refine g_top (y := nI (y % 2)) (pk_rem (a := y) (d := 2) (by omega) (by decide) (by decide)) ?_
  refine lv_if_ne (tgt := 299) hx hb dL_act_283 (by decide) (fun c_1 => absurd (by rw [h2]; rfl) c_1) (fun c_1 => ?_)
  refine lv_aload_n hx hb dL_act_286 rfl (lv_at hl 2 rfl) ?_
  refine lv_bipush (v := 22) hx hb dL_act_287 (by decide) ?_
  refine lv_iconst (v := 1) hx hb dL_act_289 (by decide) ?_
  refine lv_iconst (v := 0) hx hb dL_act_290 (by decide) ?_
  refine lv_iconst (v := 0) hx hb dL_act_291 (by decide) ?_
  refine lv_iconst (v := 0) hx hb dL_act_292 (by decide) ?_
  refine l_call (X := 1) (K := 2) (CC := 3) (As := [.ref (gad Γ 475), .int 22, .int 1, .int 0, .int 0, .int 0]) (rest := []) (st1 := [.int (v_time N)]) hF (lc_trySave 1 0 0 0 (cl_save (l := l) (Γ := Γ) (H := Hy) (k := k) (sl := w.1) (t := w.2.1) (T := w.2.2) hN)) (va_cwS 6 hts qL_call rfl rfl rfl (by decide +kernel) ⟨Nat.le_of_ble_eq_true rfl, Nat.le_of_ble_eq_true rfl⟩) hK hZ hX hY hG hS rfl hl.1 (Nat.le_of_ble_eq_true rfl) dL_act_293 ⟨Nat.le_of_ble_eq_true rfl, Nat.le_of_ble_eq_true rfl⟩ (by omega) (by omega) rfl rfl (fun H locs hG hS => ?_)
  refine lv_goto (tgt := 309) hx hb dL_act_296 (by decide) ?_
  exact l_iret hx hb hrt hlocks hS hG rfl (by omega) dL_act_309

set_option maxHeartbeats 4000000 in
set_option maxRecDepth 100000 in
theorem L_act_15b {l : Launch} {Γ : gX} (hst : l.stackTraces = false) {u : Nat} {N : Nat → Int32} {Hy : Nat → Nat → Int32} {k : Nat} {w : WO} (hN : PI u N) (hu : 1998 * (u + 10000) < 2 ^ 31) {x y : Nat} (hx0 : x < 2 ^ 31) (hy0 : y < 2 ^ 31) (hc : x % 16 = 15) (h2 : y % 2 = 1) (hs : w.1 1 = none) : lM l Γ yL_act wqL_act 12 262 3 [.ref (gad Γ 475), .int (nI x), .int (nI y)] (SH Γ N Hy k w) (some (.int ((-9999003)))) (SH Γ N Hy k w) := by
  refine l_start (cc := cL_act) (maxL := 5) (ret := (some .int)) (by decide) rfl (Nat.le_of_ble_eq_true rfl) ?_
  intro p e s m below meth c ls hx hb hml hrt hts hown hlocks hK hZ hX hY hG hS hl
  have hl : lv_has ls 5 [(0, .ref (gad Γ 475)), (1, .int (nI x)), (2, .int (nI y))] := hl
  have hown : s.vm.findClass RL = some m.cls := hown
  have hF : CallFix p m c cL_act 5 s _ wqL_act RL := ⟨hx, hb, hml, hown, hts⟩
  have hu0 : 1998 * (u + 5000) < 2 ^ 31 := by omega
  have b0 := hN.s10.2
  have hSe := hN.s10.1
  have hSp : 0 < (N 0).toNatClampNeg := hN.2.1
  have hS31 : (N 0).toNatClampNeg < 2 ^ 31 := by omega
  have hS0 : ¬ nI (N 0).toNatClampNeg = 0 := nI_ne0 hSp hS31
  refine lv_aload_n hx hb dL_act_0 rfl (lv_at hl 0 rfl) ?_
  refine lv_iconst (v := 0) hx hb dL_act_1 (by decide) ?_
  refine l_call (X := 0) (K := 1) (CC := 3) (As := [.ref (gad Γ 475), .int 0]) (rest := []) (st1 := [.int (N 0)]) hF (r_about (N := N) (Hy := Hy) (k := k) (w := w) hst hN hu0 (a := 0) (j := 0) rfl (by decide)) (va_cwS 2 hts qL_about rfl rfl rfl (by decide +kernel) ⟨Nat.le_of_ble_eq_true rfl, Nat.le_of_ble_eq_true rfl⟩) hK hZ hX hY hG hS rfl hl.1 (Nat.le_of_ble_eq_true rfl) dL_act_2 ⟨Nat.le_of_ble_eq_true rfl, Nat.le_of_ble_eq_true rfl⟩ (by omega) (by omega) rfl rfl (fun H locs hG hS => ?_)
  refine g_top (y := (nI (N 0).toNatClampNeg)) hSe ?_
  refine lv_istore_n (lv' := [(3, .int (nI (N 0).toNatClampNeg)), (0, .ref (gad Γ 475)), (1, .int (nI x)), (2, .int (nI y))]) hx hb dL_act_5 rfl hl (by decide) rfl (fun ls hl => ?_)
  refine lv_iload_n hx hb dL_act_6 rfl (lv_at hl 3 rfl) ?_
  refine lv_bipush (v := 16) hx hb dL_act_7 (by decide) ?_
  refine lv_idiv hx hb dL_act_9 (by decide) ?_
  refine g_top (y := nI (y / 16)) (pk_div (a := y) (d := 16) (by omega) (by decide) (by decide)) ?_
  refine lv_iconst (v := 3) hx hb dL_act_10 (by decide) ?_
  refine lv_irem hx hb dL_act_11 (by decide) ?_
  refine g_top (y := nI ((y / 16) % 3)) (pk_rem (a := (y / 16)) (d := 3) (by omega) (by decide) (by decide)) ?_
  refine lv_istore (lv' := [(4, .int (nI ((y / 16) % 3))), (3, .int (nI (N 0).toNatClampNeg)), (0, .ref (gad Γ 475)), (1, .int (nI x)), (2, .int (nI y))]) hx hb dL_act_12 hl (by decide) rfl (fun ls hl => ?_)
  refine lv_iload_n hx hb dL_act_14 rfl (lv_at hl 3 rfl) ?_
  refine lv_bipush (v := 16) hx hb dL_act_15 (by decide) ?_
  refine lv_irem hx hb dL_act_17 (by decide) ?_
  refine g_top (y := 15) ((pk_rem (a := x) (d := 16) (by omega) (by decide) (by decide)).trans (congrArg nI hc)) ?_
  refine lv_tableOut (tgt := 280) hx hb dL_act_18 (by decide) (by decide) ?_
  refine lv_iload_n hx hb dL_act_280 rfl (lv_at hl 4 rfl) ?_
  refine lv_iconst (v := 2) hx hb dL_act_281 (by decide) ?_
  refine lv_irem hx hb dL_act_282 (by decide) ?_
  refine g_top (y := nI (y % 2)) (pk_rem (a := y) (d := 2) (by omega) (by decide) (by decide)) ?_
  refine lv_if_ne (tgt := 299) hx hb dL_act_283 (by decide) (fun c_1 => ?_) (fun c_1 => absurd c_1 (by rw [h2]; decide))
  refine lv_aload_n hx hb dL_act_299 rfl (lv_at hl 2 rfl) ?_
  refine lv_bipush (v := 23) hx hb dL_act_300 (by decide) ?_
  refine lv_iconst (v := 1) hx hb dL_act_302 (by decide) ?_
  refine lv_iconst (v := 0) hx hb dL_act_303 (by decide) ?_
  refine lv_iconst (v := 0) hx hb dL_act_304 (by decide) ?_
  refine lv_iconst (v := 0) hx hb dL_act_305 (by decide) ?_
  refine l_call (X := 1) (K := 2) (CC := 3) (As := [.ref (gad Γ 475), .int 23, .int 1, .int 0, .int 0, .int 0]) (rest := []) (st1 := [.int (-9999003)]) hF (lc_tryRestore 1 0 0 0 (cl_restore_n (l := l) (Γ := Γ) hst (N := N) (H := Hy) (k := k) (w := w) hs)) (va_cwS 6 hts qL_call rfl rfl rfl (by decide +kernel) ⟨Nat.le_of_ble_eq_true rfl, Nat.le_of_ble_eq_true rfl⟩) hK hZ hX hY hG hS rfl hl.1 (Nat.le_of_ble_eq_true rfl) dL_act_306 ⟨Nat.le_of_ble_eq_true rfl, Nat.le_of_ble_eq_true rfl⟩ (by omega) (by omega) rfl rfl (fun H locs hG hS => ?_)
  exact l_iret hx hb hrt hlocks hS hG rfl (by omega) dL_act_309

set_option maxHeartbeats 4000000 in
set_option maxRecDepth 100000 in
theorem L_act_15c {l : Launch} {Γ : gX} (hst : l.stackTraces = false) {u : Nat} {N : Nat → Int32} {Hy : Nat → Nat → Int32} {k : Nat} {w : WO} (hN : PI u N) (hu : 1998 * (u + 10000) < 2 ^ 31) {x y : Nat} (hx0 : x < 2 ^ 31) (hy0 : y < 2 ^ 31) (hc : x % 16 = 15) (h2 : y % 2 = 1) {v : Nat} {K : Nat → Int32} (hs : w.1 1 = some K) (hKv : PI v K) : lM l Γ yL_act wqL_act 12 262 3 [.ref (gad Γ 475), .int (nI x), .int (nI y)] (SH Γ N Hy k w) (some (.int (v_time K))) (SH Γ K Hy 0 w) := by
  refine l_start (cc := cL_act) (maxL := 5) (ret := (some .int)) (by decide) rfl (Nat.le_of_ble_eq_true rfl) ?_
  intro p e s m below meth c ls hx hb hml hrt hts hown hlocks hK hZ hX hY hG hS hl
  have hl : lv_has ls 5 [(0, .ref (gad Γ 475)), (1, .int (nI x)), (2, .int (nI y))] := hl
  have hown : s.vm.findClass RL = some m.cls := hown
  have hF : CallFix p m c cL_act 5 s _ wqL_act RL := ⟨hx, hb, hml, hown, hts⟩
  have hu0 : 1998 * (u + 5000) < 2 ^ 31 := by omega
  have b0 := hN.s10.2
  have hSe := hN.s10.1
  have hSp : 0 < (N 0).toNatClampNeg := hN.2.1
  have hS31 : (N 0).toNatClampNeg < 2 ^ 31 := by omega
  have hS0 : ¬ nI (N 0).toNatClampNeg = 0 := nI_ne0 hSp hS31
  refine lv_aload_n hx hb dL_act_0 rfl (lv_at hl 0 rfl) ?_
  refine lv_iconst (v := 0) hx hb dL_act_1 (by decide) ?_
  refine l_call (X := 0) (K := 1) (CC := 3) (As := [.ref (gad Γ 475), .int 0]) (rest := []) (st1 := [.int (N 0)]) hF (r_about (N := N) (Hy := Hy) (k := k) (w := w) hst hN hu0 (a := 0) (j := 0) rfl (by decide)) (va_cwS 2 hts qL_about rfl rfl rfl (by decide +kernel) ⟨Nat.le_of_ble_eq_true rfl, Nat.le_of_ble_eq_true rfl⟩) hK hZ hX hY hG hS rfl hl.1 (Nat.le_of_ble_eq_true rfl) dL_act_2 ⟨Nat.le_of_ble_eq_true rfl, Nat.le_of_ble_eq_true rfl⟩ (by omega) (by omega) rfl rfl (fun H locs hG hS => ?_)
  refine g_top (y := (nI (N 0).toNatClampNeg)) hSe ?_
  refine lv_istore_n (lv' := [(3, .int (nI (N 0).toNatClampNeg)), (0, .ref (gad Γ 475)), (1, .int (nI x)), (2, .int (nI y))]) hx hb dL_act_5 rfl hl (by decide) rfl (fun ls hl => ?_)
  refine lv_iload_n hx hb dL_act_6 rfl (lv_at hl 3 rfl) ?_
  refine lv_bipush (v := 16) hx hb dL_act_7 (by decide) ?_
  refine lv_idiv hx hb dL_act_9 (by decide) ?_
  refine g_top (y := nI (y / 16)) (pk_div (a := y) (d := 16) (by omega) (by decide) (by decide)) ?_
  refine lv_iconst (v := 3) hx hb dL_act_10 (by decide) ?_
  refine lv_irem hx hb dL_act_11 (by decide) ?_
  refine g_top (y := nI ((y / 16) % 3)) (pk_rem (a := (y / 16)) (d := 3) (by omega) (by decide) (by decide)) ?_
  refine lv_istore (lv' := [(4, .int (nI ((y / 16) % 3))), (3, .int (nI (N 0).toNatClampNeg)), (0, .ref (gad Γ 475)), (1, .int (nI x)), (2, .int (nI y))]) hx hb dL_act_12 hl (by decide) rfl (fun ls hl => ?_)
  refine lv_iload_n hx hb dL_act_14 rfl (lv_at hl 3 rfl) ?_
  refine lv_bipush (v := 16) hx hb dL_act_15 (by decide) ?_
  refine lv_irem hx hb dL_act_17 (by decide) ?_
  refine g_top (y := 15) ((pk_rem (a := x) (d := 16) (by omega) (by decide) (by decide)).trans (congrArg nI hc)) ?_
  refine lv_tableOut (tgt := 280) hx hb dL_act_18 (by decide) (by decide) ?_
  refine lv_iload_n hx hb dL_act_280 rfl (lv_at hl 4 rfl) ?_
  refine lv_iconst (v := 2) hx hb dL_act_281 (by decide) ?_
  refine lv_irem hx hb dL_act_282 (by decide) ?_
  refine g_top (y := nI (y % 2)) (pk_rem (a := y) (d := 2) (by omega) (by decide) (by decide)) ?_
  refine lv_if_ne (tgt := 299) hx hb dL_act_283 (by decide) (fun c_1 => ?_) (fun c_1 => absurd c_1 (by rw [h2]; decide))
  refine lv_aload_n hx hb dL_act_299 rfl (lv_at hl 2 rfl) ?_
  refine lv_bipush (v := 23) hx hb dL_act_300 (by decide) ?_
  refine lv_iconst (v := 1) hx hb dL_act_302 (by decide) ?_
  refine lv_iconst (v := 0) hx hb dL_act_303 (by decide) ?_
  refine lv_iconst (v := 0) hx hb dL_act_304 (by decide) ?_
  refine lv_iconst (v := 0) hx hb dL_act_305 (by decide) ?_
  refine l_call (X := 1) (K := 2) (CC := 3) (As := [.ref (gad Γ 475), .int 23, .int 1, .int 0, .int 0, .int 0]) (rest := []) (st1 := [.int (v_time K)]) hF (lc_tryRestore 1 0 0 0 (cl_restore (l := l) (Γ := Γ) (N := N) (H := Hy) (k := k) (w := w) hs hKv)) (va_cwS 6 hts qL_call rfl rfl rfl (by decide +kernel) ⟨Nat.le_of_ble_eq_true rfl, Nat.le_of_ble_eq_true rfl⟩) hK hZ hX hY hG hS rfl hl.1 (Nat.le_of_ble_eq_true rfl) dL_act_306 ⟨Nat.le_of_ble_eq_true rfl, Nat.le_of_ble_eq_true rfl⟩ (by omega) (by omega) rfl rfl (fun H locs hG hS => ?_)
  exact l_iret hx hb hrt hlocks hS hG rfl (by omega) dL_act_309

