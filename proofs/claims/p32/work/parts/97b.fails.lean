/-! THE LAW: fails. Laid by gen/r98.py. -/
set_option maxRecDepth 16384
set_option maxHeartbeats 4000000 in
set_option maxRecDepth 100000 in
theorem L_fails {l : Launch} {Γ : gX} (hst : l.stackTraces = false) {u : Nat} {N : Nat → Int32} {Hy : Nat → Nat → Int32} {k : Nat} {w : WO} (hN : PI u N) (hu : 1998 * (u + 10000) < 2 ^ 31) {x : Nat} (hx0 : x < 2 ^ 31) : lM l Γ yL_fails wqL_fails 12 262 50 [.ref (gad Γ 475), .int (nI x)] (SH Γ N Hy k w) (some (.int 1)) (SH Γ N Hy k w) := by
  refine l_start (cc := cL_fails) (maxL := 4) (ret := (some .boolean)) (by decide) rfl (Nat.le_of_ble_eq_true rfl) ?_
  intro p e s m below meth c ls hx hb hml hrt hts hown hlocks hK hZ hX hY hG hS hl
  have hl : lv_has ls 4 [(0, .ref (gad Γ 475)), (1, .int (nI x))] := hl
  have hown : s.vm.findClass RL = some m.cls := hown
  have hF : CallFix p m c cL_fails 4 s _ wqL_fails RL := ⟨hx, hb, hml, hown, hts⟩
  have k_1 : (Cond.constant RL 15 (-9999002)).before _ s = true := hts _ (by decide +kernel)
  have k_2 : (Cond.constant RL 40 (-9999001)).before _ s = true := hts _ (by decide +kernel)
  have k_3 : (Cond.constantLong RL 213 (10000)).before _ s = true := hts _ (by decide +kernel)
  have k_4 : (Cond.constantLong RL 215 (-1)).before _ s = true := hts _ (by decide +kernel)
  have hu0 : 1998 * (u + 5000) < 2 ^ 31 := by omega
  refine lv_aload_n hx hb dL_fails_0 rfl (lv_at hl 0 rfl) ?_
  refine lv_iconst (v := 0) hx hb dL_fails_1 (by decide) ?_
  refine l_call (X := 0) (K := 1) (CC := 50) (As := [.ref (gad Γ 475), .int 0]) (rest := []) (st1 := [.int (N 0)]) hF (r_about (N := N) (Hy := Hy) (k := k) (w := w) hst hN hu0 (a := 0) (j := 0) rfl (by decide)) (va_cwS 2 hts qL_about rfl rfl rfl (by decide +kernel) ⟨Nat.le_of_ble_eq_true rfl, Nat.le_of_ble_eq_true rfl⟩) hK hZ hX hY hG hS rfl hl.1 (Nat.le_of_ble_eq_true rfl) dL_fails_2 ⟨Nat.le_of_ble_eq_true rfl, Nat.le_of_ble_eq_true rfl⟩ (by omega) (by omega) rfl rfl (fun H locs hG hS => ?_)
  refine lv_istore_n (lv' := [(2, .int (N 0)), (0, .ref (gad Γ 475)), (1, .int (nI x))]) hx hb dL_fails_5 rfl hl (by decide) rfl (fun ls hl => ?_)
  refine lv_aload_n hx hb dL_fails_6 rfl (lv_at hl 1 rfl) ?_
  refine lv_iconst (v := 0) hx hb dL_fails_7 (by decide) ?_
  refine lv_sipush (v := 256) hx hb dL_fails_8 (by decide) ?_
  refine lv_iload_n hx hb dL_fails_11 rfl (lv_at hl 2 rfl) ?_
  refine lv_bipush (v := 9) hx hb dL_fails_12 (by decide) ?_
  refine lv_irem hx hb dL_fails_14 (by decide) ?_
  refine lv_iadd hx hb dL_fails_15 ?_
  refine lv_iconst (v := 0) hx hb dL_fails_16 (by decide) ?_
  refine lv_iconst (v := 0) hx hb dL_fails_17 (by decide) ?_
  refine lv_iconst (v := 0) hx hb dL_fails_18 (by decide) ?_
  refine l_call (X := 1) (K := 2) (CC := 50) (As := [.ref (gad Γ 475), .int 0, .int (256 + (remI (nI x) 9)), .int 0, .int 0, .int 0]) (rest := []) (st1 := [.int (-9999002)]) hF (rj_append (l := l) (Γ := Γ) (N := N) (Hy := Hy) (k := k) (w := w) hst hx0 0) (va_cwS 6 hts qL_call rfl rfl rfl (by decide +kernel) ⟨Nat.le_of_ble_eq_true rfl, Nat.le_of_ble_eq_true rfl⟩) hK hZ hX hY hG hS rfl hl.1 (Nat.le_of_ble_eq_true rfl) dL_fails_19 ⟨Nat.le_of_ble_eq_true rfl, Nat.le_of_ble_eq_true rfl⟩ (by omega) (by omega) rfl rfl (fun H locs hG hS => ?_)
  refine lv_ldc hx hb hown k_1 dL_fails_22 ?_
  refine lv_icmp_ne (tgt := 126) hx hb dL_fails_24 (by decide) (fun c_1 => absurd (by decide) c_1) (fun c_1 => ?_)
  refine lv_aload_n hx hb dL_fails_27 rfl (lv_at hl 1 rfl) ?_
  refine lv_bipush (v := 13) hx hb dL_fails_28 (by decide) ?_
  refine l_call (X := 2) (K := 3) (CC := 50) (As := [.ref (gad Γ 475), .int 13]) (rest := []) (st1 := [.int (-9999002)]) hF (rj_about (l := l) (Γ := Γ) (N := N) (Hy := Hy) (k := k) (w := w) hst hN hu0 13 (j := 0) rfl rfl) (va_cwS 2 hts qL_about rfl rfl rfl (by decide +kernel) ⟨Nat.le_of_ble_eq_true rfl, Nat.le_of_ble_eq_true rfl⟩) hK hZ hX hY hG hS rfl hl.1 (Nat.le_of_ble_eq_true rfl) dL_fails_30 ⟨Nat.le_of_ble_eq_true rfl, Nat.le_of_ble_eq_true rfl⟩ (by omega) (by omega) rfl rfl (fun H locs hG hS => ?_)
  refine lv_ldc hx hb hown k_1 dL_fails_33 ?_
  refine lv_icmp_ne (tgt := 126) hx hb dL_fails_35 (by decide) (fun c_2 => absurd (by decide) c_2) (fun c_2 => ?_)
  refine lv_aload_n hx hb dL_fails_38 rfl (lv_at hl 1 rfl) ?_
  refine lv_iload_n hx hb dL_fails_39 rfl (lv_at hl 0 rfl) ?_
  refine lv_iconst (v := 0) hx hb dL_fails_40 (by decide) ?_
  refine l_call (X := 3) (K := 4) (CC := 50) (As := [.ref (gad Γ 475), .int (N 0), .int 0]) (rest := []) (st1 := [.int (-9999001)]) hF (rj_segment (l := l) (Γ := Γ) (N := N) (Hy := Hy) (k := k) (w := w) hst hN hu0 (N 0) 0 (j := 0) (if_pos (sg_no hN)) rfl) (va_cwS 3 hts qL_segment rfl rfl rfl (by decide +kernel) ⟨Nat.le_of_ble_eq_true rfl, Nat.le_of_ble_eq_true rfl⟩) hK hZ hX hY hG hS rfl hl.1 (Nat.le_of_ble_eq_true rfl) dL_fails_41 ⟨Nat.le_of_ble_eq_true rfl, Nat.le_of_ble_eq_true rfl⟩ (by omega) (by omega) rfl rfl (fun H locs hG hS => ?_)
  refine lv_ldc hx hb hown k_2 dL_fails_44 ?_
  refine lv_icmp_ne (tgt := 126) hx hb dL_fails_46 (by decide) (fun c_3 => absurd (by decide) c_3) (fun c_3 => ?_)
  refine lv_aload_n hx hb dL_fails_49 rfl (lv_at hl 1 rfl) ?_
  refine lv_iconst (v := 0) hx hb dL_fails_50 (by decide) ?_
  refine lv_bipush (v := 7) hx hb dL_fails_51 (by decide) ?_
  refine l_call (X := 4) (K := 5) (CC := 50) (As := [.ref (gad Γ 475), .int 0, .int 7]) (rest := []) (st1 := [.int (-9999002)]) hF (rj_segment (l := l) (Γ := Γ) (N := N) (Hy := Hy) (k := k) (w := w) hst hN hu0 0 7 (j := 1) ((if_neg (sg_0 hN)).trans (if_pos (by decide))) rfl) (va_cwS 3 hts qL_segment rfl rfl rfl (by decide +kernel) ⟨Nat.le_of_ble_eq_true rfl, Nat.le_of_ble_eq_true rfl⟩) hK hZ hX hY hG hS rfl hl.1 (Nat.le_of_ble_eq_true rfl) dL_fails_53 ⟨Nat.le_of_ble_eq_true rfl, Nat.le_of_ble_eq_true rfl⟩ (by omega) (by omega) rfl rfl (fun H locs hG hS => ?_)
  refine lv_ldc hx hb hown k_1 dL_fails_56 ?_
  refine lv_icmp_ne (tgt := 126) hx hb dL_fails_58 (by decide) (fun c_4 => absurd (by decide) c_4) (fun c_4 => ?_)
  refine lv_aload_n hx hb dL_fails_61 rfl (lv_at hl 1 rfl) ?_
  refine lv_aload_n hx hb dL_fails_62 rfl (lv_at hl 1 rfl) ?_
  refine lv_iconst (v := 1) hx hb dL_fails_63 (by decide) ?_
  refine l_call (X := 5) (K := 6) (CC := 50) (As := [.ref (gad Γ 475), .int 1]) (rest := [.ref (gad Γ 475)]) (st1 := [.int (N 1), .ref (gad Γ 475)]) hF (r_about (N := N) (Hy := Hy) (k := k) (w := w) hst hN hu0 (a := 1) (j := 1) rfl (by decide)) (va_cwS 2 hts qL_about rfl rfl rfl (by decide +kernel) ⟨Nat.le_of_ble_eq_true rfl, Nat.le_of_ble_eq_true rfl⟩) hK hZ hX hY hG hS rfl hl.1 (Nat.le_of_ble_eq_true rfl) dL_fails_64 ⟨Nat.le_of_ble_eq_true rfl, Nat.le_of_ble_eq_true rfl⟩ (by omega) (by omega) rfl rfl (fun H locs hG hS => ?_)
  refine lv_iconst (v := 0) hx hb dL_fails_67 (by decide) ?_
  refine l_call (X := 6) (K := 7) (CC := 50) (As := [.ref (gad Γ 475), .int (N 1), .int 0]) (rest := []) (st1 := [.int (-9999001)]) hF (rj_house (l := l) (Γ := Γ) (N := N) (Hy := Hy) (k := k) (w := w) hst hN hu0 (N 1) 0 (j := 0) (if_pos (ho_no hN)) rfl) (va_cwS 3 hts qL_house rfl rfl rfl (by decide +kernel) ⟨Nat.le_of_ble_eq_true rfl, Nat.le_of_ble_eq_true rfl⟩) hK hZ hX hY hG hS rfl hl.1 (Nat.le_of_ble_eq_true rfl) dL_fails_68 ⟨Nat.le_of_ble_eq_true rfl, Nat.le_of_ble_eq_true rfl⟩ (by omega) (by omega) rfl rfl (fun H locs hG hS => ?_)
  refine lv_ldc hx hb hown k_2 dL_fails_71 ?_
  refine lv_icmp_ne (tgt := 126) hx hb dL_fails_73 (by decide) (fun c_5 => absurd (by decide) c_5) (fun c_5 => ?_)
  refine lv_aload_n hx hb dL_fails_76 rfl (lv_at hl 1 rfl) ?_
  refine lv_aload_n hx hb dL_fails_77 rfl (lv_at hl 1 rfl) ?_
  refine lv_iconst (v := 2) hx hb dL_fails_78 (by decide) ?_
  refine l_call (X := 7) (K := 8) (CC := 50) (As := [.ref (gad Γ 475), .int 2]) (rest := [.ref (gad Γ 475)]) (st1 := [.int (N 2), .ref (gad Γ 475)]) hF (r_about (N := N) (Hy := Hy) (k := k) (w := w) hst hN hu0 (a := 2) (j := 2) rfl (by decide)) (va_cwS 2 hts qL_about rfl rfl rfl (by decide +kernel) ⟨Nat.le_of_ble_eq_true rfl, Nat.le_of_ble_eq_true rfl⟩) hK hZ hX hY hG hS rfl hl.1 (Nat.le_of_ble_eq_true rfl) dL_fails_79 ⟨Nat.le_of_ble_eq_true rfl, Nat.le_of_ble_eq_true rfl⟩ (by omega) (by omega) rfl rfl (fun H locs hG hS => ?_)
  refine lv_iconst (v := 0) hx hb dL_fails_82 (by decide) ?_
  refine l_call (X := 8) (K := 9) (CC := 50) (As := [.ref (gad Γ 475), .int (N 2), .int 0]) (rest := []) (st1 := [.int (-9999001)]) hF (rj_wagon (l := l) (Γ := Γ) (N := N) (Hy := Hy) (k := k) (w := w) hst hN hu0 (N 2) 0 (j := 0) (if_pos (wa_no hN)) rfl) (va_cwS 3 hts qL_wagon rfl rfl rfl (by decide +kernel) ⟨Nat.le_of_ble_eq_true rfl, Nat.le_of_ble_eq_true rfl⟩) hK hZ hX hY hG hS rfl hl.1 (Nat.le_of_ble_eq_true rfl) dL_fails_83 ⟨Nat.le_of_ble_eq_true rfl, Nat.le_of_ble_eq_true rfl⟩ (by omega) (by omega) rfl rfl (fun H locs hG hS => ?_)
  refine lv_ldc hx hb hown k_2 dL_fails_86 ?_
  refine lv_icmp_ne (tgt := 126) hx hb dL_fails_88 (by decide) (fun c_6 => absurd (by decide) c_6) (fun c_6 => ?_)
  refine lv_aload_n hx hb dL_fails_91 rfl (lv_at hl 1 rfl) ?_
  refine lv_bipush (v := 6) hx hb dL_fails_92 (by decide) ?_
  refine lv_iload_n hx hb dL_fails_94 rfl (lv_at hl 0 rfl) ?_
  refine lv_iconst (v := 0) hx hb dL_fails_95 (by decide) ?_
  refine lv_iconst (v := 0) hx hb dL_fails_96 (by decide) ?_
  refine lv_iconst (v := 0) hx hb dL_fails_97 (by decide) ?_
  refine l_call (X := 9) (K := 10) (CC := 50) (As := [.ref (gad Γ 475), .int 6, .int (N 0), .int 0, .int 0, .int 0]) (rest := []) (st1 := [.int (-9999001)]) hF (rj_addHouse (l := l) (Γ := Γ) (N := N) (Hy := Hy) (k := k) (w := w) hst hN hu0 (N 0) 0 (j := 0) (if_pos (sg_no hN)) rfl) (va_cwS 6 hts qL_call rfl rfl rfl (by decide +kernel) ⟨Nat.le_of_ble_eq_true rfl, Nat.le_of_ble_eq_true rfl⟩) hK hZ hX hY hG hS rfl hl.1 (Nat.le_of_ble_eq_true rfl) dL_fails_98 ⟨Nat.le_of_ble_eq_true rfl, Nat.le_of_ble_eq_true rfl⟩ (by omega) (by omega) rfl rfl (fun H locs hG hS => ?_)
  refine lv_ldc hx hb hown k_2 dL_fails_101 ?_
  refine lv_icmp_ne (tgt := 126) hx hb dL_fails_103 (by decide) (fun c_7 => absurd (by decide) c_7) (fun c_7 => ?_)
  refine lv_aload_n hx hb dL_fails_106 rfl (lv_at hl 1 rfl) ?_
  refine lv_bipush (v := 6) hx hb dL_fails_107 (by decide) ?_
  refine lv_iconst (v := 0) hx hb dL_fails_109 (by decide) ?_
  refine lv_bipush (v := 10) hx hb dL_fails_110 (by decide) ?_
  refine lv_iconst (v := 0) hx hb dL_fails_112 (by decide) ?_
  refine lv_iconst (v := 0) hx hb dL_fails_113 (by decide) ?_
  refine l_call (X := 10) (K := 11) (CC := 50) (As := [.ref (gad Γ 475), .int 6, .int 0, .int 10, .int 0, .int 0]) (rest := []) (st1 := [.int (-9999002)]) hF (rj_addHouse (l := l) (Γ := Γ) (N := N) (Hy := Hy) (k := k) (w := w) hst hN hu0 0 10 (j := 1) ((if_neg (sg_0 hN)).trans (if_pos (by decide))) rfl) (va_cwS 6 hts qL_call rfl rfl rfl (by decide +kernel) ⟨Nat.le_of_ble_eq_true rfl, Nat.le_of_ble_eq_true rfl⟩) hK hZ hX hY hG hS rfl hl.1 (Nat.le_of_ble_eq_true rfl) dL_fails_114 ⟨Nat.le_of_ble_eq_true rfl, Nat.le_of_ble_eq_true rfl⟩ (by omega) (by omega) rfl rfl (fun H locs hG hS => ?_)
  refine lv_ldc hx hb hown k_1 dL_fails_117 ?_
  refine lv_icmp_ne (tgt := 126) hx hb dL_fails_119 (by decide) (fun c_8 => absurd (by decide) c_8) (fun c_8 => ?_)
  refine lv_iconst (v := 1) hx hb dL_fails_122 (by decide) ?_
  refine lv_goto (tgt := 127) hx hb dL_fails_123 (by decide) ?_
  refine lv_istore_n (lv' := [(3, .int 1), (2, .int (N 0)), (0, .ref (gad Γ 475)), (1, .int (nI x))]) hx hb dL_fails_127 rfl hl (by decide) rfl (fun ls hl => ?_)
  refine lv_iload_n hx hb dL_fails_128 rfl (lv_at hl 0 rfl) ?_
  refine lv_aload_n hx hb dL_fails_129 rfl (lv_at hl 2 rfl) ?_
  refine lv_bipush (v := 7) hx hb dL_fails_130 (by decide) ?_
  refine lv_iload_n hx hb dL_fails_132 rfl (lv_at hl 1 rfl) ?_
  refine lv_iconst (v := 0) hx hb dL_fails_133 (by decide) ?_
  refine lv_iconst (v := 0) hx hb dL_fails_134 (by decide) ?_
  refine lv_iconst (v := 0) hx hb dL_fails_135 (by decide) ?_
  refine l_call (X := 11) (K := 12) (CC := 50) (As := [.ref (gad Γ 475), .int 7, .int (N 0), .int 0, .int 0, .int 0]) (rest := [.int 1]) (st1 := [.int (-9999001), .int 1]) hF (rj_addWagon (l := l) (Γ := Γ) (N := N) (Hy := Hy) (k := k) (w := w) hst hN hu0 (N 0) 0 (j := 0) (if_pos (sg_no hN)) rfl) (va_cwS 6 hts qL_call rfl rfl rfl (by decide +kernel) ⟨Nat.le_of_ble_eq_true rfl, Nat.le_of_ble_eq_true rfl⟩) hK hZ hX hY hG hS rfl hl.1 (Nat.le_of_ble_eq_true rfl) dL_fails_136 ⟨Nat.le_of_ble_eq_true rfl, Nat.le_of_ble_eq_true rfl⟩ (by omega) (by omega) rfl rfl (fun H locs hG hS => ?_)
  refine lv_ldc hx hb hown k_2 dL_fails_139 ?_
  refine lv_icmp_ne (tgt := 258) hx hb dL_fails_141 (by decide) (fun c_9 => absurd (by decide) c_9) (fun c_9 => ?_)
  refine lv_aload_n hx hb dL_fails_144 rfl (lv_at hl 2 rfl) ?_
  refine lv_bipush (v := 8) hx hb dL_fails_145 (by decide) ?_
  refine lv_iconst (v := 0) hx hb dL_fails_147 (by decide) ?_
  refine lv_iconst (v := 3) hx hb dL_fails_148 (by decide) ?_
  refine lv_iconst (v := 0) hx hb dL_fails_149 (by decide) ?_
  refine lv_iconst (v := 0) hx hb dL_fails_150 (by decide) ?_
  refine l_call (X := 12) (K := 13) (CC := 50) (As := [.ref (gad Γ 475), .int 8, .int 0, .int 3, .int 0, .int 0]) (rest := [.int 1]) (st1 := [.int (-9999002), .int 1]) hF (rj_setSurface (l := l) (Γ := Γ) (N := N) (Hy := Hy) (k := k) (w := w) hst hN hu0 0 3 (j := 1) ((if_neg (sg_0 hN)).trans (if_pos (by decide))) rfl) (va_cwS 6 hts qL_call rfl rfl rfl (by decide +kernel) ⟨Nat.le_of_ble_eq_true rfl, Nat.le_of_ble_eq_true rfl⟩) hK hZ hX hY hG hS rfl hl.1 (Nat.le_of_ble_eq_true rfl) dL_fails_151 ⟨Nat.le_of_ble_eq_true rfl, Nat.le_of_ble_eq_true rfl⟩ (by omega) (by omega) rfl rfl (fun H locs hG hS => ?_)
  refine lv_ldc hx hb hown k_1 dL_fails_154 ?_
  refine lv_icmp_ne (tgt := 258) hx hb dL_fails_156 (by decide) (fun c_10 => absurd (by decide) c_10) (fun c_10 => ?_)
  refine lv_aload_n hx hb dL_fails_159 rfl (lv_at hl 2 rfl) ?_
  refine lv_bipush (v := 9) hx hb dL_fails_160 (by decide) ?_
  refine lv_iconst (v := 0) hx hb dL_fails_162 (by decide) ?_
  refine lv_bipush (v := 6) hx hb dL_fails_163 (by decide) ?_
  refine lv_iconst (v := 0) hx hb dL_fails_165 (by decide) ?_
  refine lv_iconst (v := 0) hx hb dL_fails_166 (by decide) ?_
  refine l_call (X := 13) (K := 14) (CC := 50) (As := [.ref (gad Γ 475), .int 9, .int 0, .int 6, .int 0, .int 0]) (rest := [.int 1]) (st1 := [.int (-9999002), .int 1]) hF (rj_setLimit (l := l) (Γ := Γ) (N := N) (Hy := Hy) (k := k) (w := w) hst hN hu0 0 6 (j := 1) ((if_neg (sg_0 hN)).trans (if_pos (by decide))) rfl) (va_cwS 6 hts qL_call rfl rfl rfl (by decide +kernel) ⟨Nat.le_of_ble_eq_true rfl, Nat.le_of_ble_eq_true rfl⟩) hK hZ hX hY hG hS rfl hl.1 (Nat.le_of_ble_eq_true rfl) dL_fails_167 ⟨Nat.le_of_ble_eq_true rfl, Nat.le_of_ble_eq_true rfl⟩ (by omega) (by omega) rfl rfl (fun H locs hG hS => ?_)
  refine lv_ldc hx hb hown k_1 dL_fails_170 ?_
  refine lv_icmp_ne (tgt := 258) hx hb dL_fails_172 (by decide) (fun c_11 => absurd (by decide) c_11) (fun c_11 => ?_)
  refine lv_aload_n hx hb dL_fails_175 rfl (lv_at hl 2 rfl) ?_
  refine lv_bipush (v := 9) hx hb dL_fails_176 (by decide) ?_
  refine lv_iload_n hx hb dL_fails_178 rfl (lv_at hl 1 rfl) ?_
  refine lv_iconst (v := 1) hx hb dL_fails_179 (by decide) ?_
  refine lv_iconst (v := 0) hx hb dL_fails_180 (by decide) ?_
  refine lv_iconst (v := 0) hx hb dL_fails_181 (by decide) ?_
  refine l_call (X := 14) (K := 15) (CC := 50) (As := [.ref (gad Γ 475), .int 9, .int (N 0), .int 1, .int 0, .int 0]) (rest := [.int 1]) (st1 := [.int (-9999001), .int 1]) hF (rj_setLimit (l := l) (Γ := Γ) (N := N) (Hy := Hy) (k := k) (w := w) hst hN hu0 (N 0) 1 (j := 0) (if_pos (sg_no hN)) rfl) (va_cwS 6 hts qL_call rfl rfl rfl (by decide +kernel) ⟨Nat.le_of_ble_eq_true rfl, Nat.le_of_ble_eq_true rfl⟩) hK hZ hX hY hG hS rfl hl.1 (Nat.le_of_ble_eq_true rfl) dL_fails_182 ⟨Nat.le_of_ble_eq_true rfl, Nat.le_of_ble_eq_true rfl⟩ (by omega) (by omega) rfl rfl (fun H locs hG hS => ?_)
  refine lv_ldc hx hb hown k_2 dL_fails_185 ?_
  refine lv_icmp_ne (tgt := 258) hx hb dL_fails_187 (by decide) (fun c_12 => absurd (by decide) c_12) (fun c_12 => ?_)
  refine lv_aload_n hx hb dL_fails_190 rfl (lv_at hl 2 rfl) ?_
  refine lv_bipush (v := 10) hx hb dL_fails_191 (by decide) ?_
  refine lv_iconst (v := 4) hx hb dL_fails_193 (by decide) ?_
  refine lv_iconst (v := 1) hx hb dL_fails_194 (by decide) ?_
  refine lv_iconst (v := 0) hx hb dL_fails_195 (by decide) ?_
  refine lv_iconst (v := 0) hx hb dL_fails_196 (by decide) ?_
  refine l_call (X := 15) (K := 16) (CC := 50) (As := [.ref (gad Γ 475), .int 10, .int 4, .int 1, .int 0, .int 0]) (rest := [.int 1]) (st1 := [.int (-9999002), .int 1]) hF (rj_set (l := l) (Γ := Γ) (N := N) (Hy := Hy) (k := k) (w := w) hst hN hu0 4 1 (j := 0) (if_pos (by decide)) rfl) (va_cwS 6 hts qL_call rfl rfl rfl (by decide +kernel) ⟨Nat.le_of_ble_eq_true rfl, Nat.le_of_ble_eq_true rfl⟩) hK hZ hX hY hG hS rfl hl.1 (Nat.le_of_ble_eq_true rfl) dL_fails_197 ⟨Nat.le_of_ble_eq_true rfl, Nat.le_of_ble_eq_true rfl⟩ (by omega) (by omega) rfl rfl (fun H locs hG hS => ?_)
  refine lv_ldc hx hb hown k_1 dL_fails_200 ?_
  refine lv_icmp_ne (tgt := 258) hx hb dL_fails_202 (by decide) (fun c_13 => absurd (by decide) c_13) (fun c_13 => ?_)
  refine lv_aload_n hx hb dL_fails_205 rfl (lv_at hl 2 rfl) ?_
  refine lv_bipush (v := 10) hx hb dL_fails_206 (by decide) ?_
  refine lv_iconst (v := 5) hx hb dL_fails_208 (by decide) ?_
  refine lv_bipush (v := 21) hx hb dL_fails_209 (by decide) ?_
  refine lv_iconst (v := 0) hx hb dL_fails_211 (by decide) ?_
  refine lv_iconst (v := 0) hx hb dL_fails_212 (by decide) ?_
  refine l_call (X := 16) (K := 17) (CC := 50) (As := [.ref (gad Γ 475), .int 10, .int 5, .int 21, .int 0, .int 0]) (rest := [.int 1]) (st1 := [.int (-9999002), .int 1]) hF (rj_set (l := l) (Γ := Γ) (N := N) (Hy := Hy) (k := k) (w := w) hst hN hu0 5 21 (j := 0) (if_pos (by decide)) rfl) (va_cwS 6 hts qL_call rfl rfl rfl (by decide +kernel) ⟨Nat.le_of_ble_eq_true rfl, Nat.le_of_ble_eq_true rfl⟩) hK hZ hX hY hG hS rfl hl.1 (Nat.le_of_ble_eq_true rfl) dL_fails_213 ⟨Nat.le_of_ble_eq_true rfl, Nat.le_of_ble_eq_true rfl⟩ (by omega) (by omega) rfl rfl (fun H locs hG hS => ?_)
  refine lv_ldc hx hb hown k_1 dL_fails_216 ?_
  refine lv_icmp_ne (tgt := 258) hx hb dL_fails_218 (by decide) (fun c_14 => absurd (by decide) c_14) (fun c_14 => ?_)
  refine lv_aload_n hx hb dL_fails_221 rfl (lv_at hl 2 rfl) ?_
  refine lv_bipush (v := 10) hx hb dL_fails_222 (by decide) ?_
  refine lv_bipush (v := 7) hx hb dL_fails_224 (by decide) ?_
  refine lv_iconst (v := 0) hx hb dL_fails_226 (by decide) ?_
  refine lv_iconst (v := 0) hx hb dL_fails_227 (by decide) ?_
  refine lv_iconst (v := 0) hx hb dL_fails_228 (by decide) ?_
  refine l_call (X := 17) (K := 18) (CC := 50) (As := [.ref (gad Γ 475), .int 10, .int 7, .int 0, .int 0, .int 0]) (rest := [.int 1]) (st1 := [.int (-9999002), .int 1]) hF (rj_set (l := l) (Γ := Γ) (N := N) (Hy := Hy) (k := k) (w := w) hst hN hu0 7 0 (j := 0) (if_pos (by decide)) rfl) (va_cwS 6 hts qL_call rfl rfl rfl (by decide +kernel) ⟨Nat.le_of_ble_eq_true rfl, Nat.le_of_ble_eq_true rfl⟩) hK hZ hX hY hG hS rfl hl.1 (Nat.le_of_ble_eq_true rfl) dL_fails_229 ⟨Nat.le_of_ble_eq_true rfl, Nat.le_of_ble_eq_true rfl⟩ (by omega) (by omega) rfl rfl (fun H locs hG hS => ?_)
  refine lv_ldc hx hb hown k_1 dL_fails_232 ?_
  refine lv_icmp_ne (tgt := 258) hx hb dL_fails_234 (by decide) (fun c_15 => absurd (by decide) c_15) (fun c_15 => ?_)
  refine lv_aload_n hx hb dL_fails_237 rfl (lv_at hl 2 rfl) ?_
  refine lv_bipush (v := 10) hx hb dL_fails_238 (by decide) ?_
  refine lv_bipush (v := 8) hx hb dL_fails_240 (by decide) ?_
  refine lv_bipush (v := 100) hx hb dL_fails_242 (by decide) ?_
  refine lv_iconst (v := 0) hx hb dL_fails_244 (by decide) ?_
  refine lv_iconst (v := 0) hx hb dL_fails_245 (by decide) ?_
  refine l_call (X := 18) (K := 19) (CC := 50) (As := [.ref (gad Γ 475), .int 10, .int 8, .int 100, .int 0, .int 0]) (rest := [.int 1]) (st1 := [.int (-9999002), .int 1]) hF (rj_set (l := l) (Γ := Γ) (N := N) (Hy := Hy) (k := k) (w := w) hst hN hu0 8 100 (j := 0) (if_pos (by decide)) rfl) (va_cwS 6 hts qL_call rfl rfl rfl (by decide +kernel) ⟨Nat.le_of_ble_eq_true rfl, Nat.le_of_ble_eq_true rfl⟩) hK hZ hX hY hG hS rfl hl.1 (Nat.le_of_ble_eq_true rfl) dL_fails_246 ⟨Nat.le_of_ble_eq_true rfl, Nat.le_of_ble_eq_true rfl⟩ (by omega) (by omega) rfl rfl (fun H locs hG hS => ?_)
  refine lv_ldc hx hb hown k_1 dL_fails_249 ?_
  refine lv_icmp_ne (tgt := 258) hx hb dL_fails_251 (by decide) (fun c_16 => absurd (by decide) c_16) (fun c_16 => ?_)
  refine lv_iconst (v := 1) hx hb dL_fails_254 (by decide) ?_
  refine lv_goto (tgt := 259) hx hb dL_fails_255 (by decide) ?_
  refine lv_iand hx hb dL_fails_259 ?_
  refine g_top (y := 1) (show (1 &&& 1 : Int32) = 1 from rfl) ?_
  refine lv_istore_n (lv' := [(3, .int 1), (2, .int (N 0)), (0, .ref (gad Γ 475)), (1, .int (nI x))]) hx hb dL_fails_260 rfl hl (by decide) rfl (fun ls hl => ?_)
  refine lv_iload_n hx hb dL_fails_261 rfl (lv_at hl 0 rfl) ?_
  refine lv_aload_n hx hb dL_fails_262 rfl (lv_at hl 2 rfl) ?_
  refine lv_bipush (v := 11) hx hb dL_fails_263 (by decide) ?_
  refine lv_iconst (v := 3) hx hb dL_fails_265 (by decide) ?_
  refine lv_iconst (v := 0) hx hb dL_fails_266 (by decide) ?_
  refine lv_iconst (v := 0) hx hb dL_fails_267 (by decide) ?_
  refine lv_iconst (v := 0) hx hb dL_fails_268 (by decide) ?_
  refine l_call (X := 19) (K := 20) (CC := 50) (As := [.ref (gad Γ 475), .int 11, .int 3, .int 0, .int 0, .int 0]) (rest := [.int 1]) (st1 := [.int (-9999001), .int 1]) hF (rj_drive (l := l) (Γ := Γ) (N := N) (Hy := Hy) (k := k) (w := w) hst hN hu0 3 0 (j := 0) (if_pos (wa_3 hN)) rfl) (va_cwS 6 hts qL_call rfl rfl rfl (by decide +kernel) ⟨Nat.le_of_ble_eq_true rfl, Nat.le_of_ble_eq_true rfl⟩) hK hZ hX hY hG hS rfl hl.1 (Nat.le_of_ble_eq_true rfl) dL_fails_269 ⟨Nat.le_of_ble_eq_true rfl, Nat.le_of_ble_eq_true rfl⟩ (by omega) (by omega) rfl rfl (fun H locs hG hS => ?_)
  refine lv_ldc hx hb hown k_2 dL_fails_272 ?_
  refine lv_icmp_ne (tgt := 373) hx hb dL_fails_274 (by decide) (fun c_17 => absurd (by decide) c_17) (fun c_17 => ?_)
  refine lv_aload_n hx hb dL_fails_277 rfl (lv_at hl 2 rfl) ?_
  refine lv_bipush (v := 12) hx hb dL_fails_278 (by decide) ?_
  refine lv_iconst (v := 3) hx hb dL_fails_280 (by decide) ?_
  refine lv_iconst (v := 1) hx hb dL_fails_281 (by decide) ?_
  refine lv_iconst (v := 0) hx hb dL_fails_282 (by decide) ?_
  refine lv_iconst (v := 0) hx hb dL_fails_283 (by decide) ?_
  refine l_call (X := 20) (K := 21) (CC := 50) (As := [.ref (gad Γ 475), .int 12, .int 3, .int 1, .int 0, .int 0]) (rest := [.int 1]) (st1 := [.int (-9999001), .int 1]) hF (rj_spray (l := l) (Γ := Γ) (N := N) (Hy := Hy) (k := k) (w := w) hst hN hu0 3 1 (j := 0) (if_pos (wa_3 hN)) rfl) (va_cwS 6 hts qL_call rfl rfl rfl (by decide +kernel) ⟨Nat.le_of_ble_eq_true rfl, Nat.le_of_ble_eq_true rfl⟩) hK hZ hX hY hG hS rfl hl.1 (Nat.le_of_ble_eq_true rfl) dL_fails_284 ⟨Nat.le_of_ble_eq_true rfl, Nat.le_of_ble_eq_true rfl⟩ (by omega) (by omega) rfl rfl (fun H locs hG hS => ?_)
  refine lv_ldc hx hb hown k_2 dL_fails_287 ?_
  refine lv_icmp_ne (tgt := 373) hx hb dL_fails_289 (by decide) (fun c_18 => absurd (by decide) c_18) (fun c_18 => ?_)
  refine lv_aload_n hx hb dL_fails_292 rfl (lv_at hl 2 rfl) ?_
  refine lv_bipush (v := 13) hx hb dL_fails_293 (by decide) ?_
  refine lv_iconst (v := (-1)) hx hb dL_fails_295 (by decide) ?_
  refine lv_iconst (v := 0) hx hb dL_fails_296 (by decide) ?_
  refine lv_iconst (v := 0) hx hb dL_fails_297 (by decide) ?_
  refine lv_iconst (v := 0) hx hb dL_fails_298 (by decide) ?_
  refine l_call (X := 21) (K := 22) (CC := 50) (As := [.ref (gad Γ 475), .int 13, .int (-1), .int 0, .int 0, .int 0]) (rest := [.int 1]) (st1 := [.int (-9999001), .int 1]) hF (rj_fill (l := l) (Γ := Γ) (N := N) (Hy := Hy) (k := k) (w := w) hst hN hu0 (-1) 0 (j := 0) (if_pos (wa_m hN)) rfl) (va_cwS 6 hts qL_call rfl rfl rfl (by decide +kernel) ⟨Nat.le_of_ble_eq_true rfl, Nat.le_of_ble_eq_true rfl⟩) hK hZ hX hY hG hS rfl hl.1 (Nat.le_of_ble_eq_true rfl) dL_fails_299 ⟨Nat.le_of_ble_eq_true rfl, Nat.le_of_ble_eq_true rfl⟩ (by omega) (by omega) rfl rfl (fun H locs hG hS => ?_)
  refine lv_ldc hx hb hown k_2 dL_fails_302 ?_
  refine lv_icmp_ne (tgt := 373) hx hb dL_fails_304 (by decide) (fun c_19 => absurd (by decide) c_19) (fun c_19 => ?_)
  refine lv_aload_n hx hb dL_fails_307 rfl (lv_at hl 2 rfl) ?_
  refine lv_bipush (v := 14) hx hb dL_fails_308 (by decide) ?_
  refine lv_iconst (v := 0) hx hb dL_fails_310 (by decide) ?_
  refine lv_iconst (v := 0) hx hb dL_fails_311 (by decide) ?_
  refine lv_iconst (v := 0) hx hb dL_fails_312 (by decide) ?_
  refine lv_iconst (v := 0) hx hb dL_fails_313 (by decide) ?_
  refine l_call (X := 22) (K := 23) (CC := 50) (As := [.ref (gad Γ 475), .int 14, .int 0, .int 0, .int 0, .int 0]) (rest := [.int 1]) (st1 := [.int (-9999002), .int 1]) hF (rj_pass (l := l) (Γ := Γ) (N := N) (Hy := Hy) (k := k) (w := w) hst hN hu0 0 0 (j := 0) (if_pos (by decide)) rfl) (va_cwS 6 hts qL_call rfl rfl rfl (by decide +kernel) ⟨Nat.le_of_ble_eq_true rfl, Nat.le_of_ble_eq_true rfl⟩) hK hZ hX hY hG hS rfl hl.1 (Nat.le_of_ble_eq_true rfl) dL_fails_314 ⟨Nat.le_of_ble_eq_true rfl, Nat.le_of_ble_eq_true rfl⟩ (by omega) (by omega) rfl rfl (fun H locs hG hS => ?_)
  refine lv_ldc hx hb hown k_1 dL_fails_317 ?_
  refine lv_icmp_ne (tgt := 373) hx hb dL_fails_319 (by decide) (fun c_20 => absurd (by decide) c_20) (fun c_20 => ?_)
  refine lv_aload_n hx hb dL_fails_322 rfl (lv_at hl 2 rfl) ?_
  refine lv_bipush (v := 14) hx hb dL_fails_323 (by decide) ?_
  refine lv_bipush (v := 51) hx hb dL_fails_325 (by decide) ?_
  refine lv_iconst (v := 0) hx hb dL_fails_327 (by decide) ?_
  refine lv_iconst (v := 0) hx hb dL_fails_328 (by decide) ?_
  refine lv_iconst (v := 0) hx hb dL_fails_329 (by decide) ?_
  refine l_call (X := 23) (K := 24) (CC := 50) (As := [.ref (gad Γ 475), .int 14, .int 51, .int 0, .int 0, .int 0]) (rest := [.int 1]) (st1 := [.int (-9999002), .int 1]) hF (rj_pass (l := l) (Γ := Γ) (N := N) (Hy := Hy) (k := k) (w := w) hst hN hu0 51 0 (j := 0) (if_pos (by decide)) rfl) (va_cwS 6 hts qL_call rfl rfl rfl (by decide +kernel) ⟨Nat.le_of_ble_eq_true rfl, Nat.le_of_ble_eq_true rfl⟩) hK hZ hX hY hG hS rfl hl.1 (Nat.le_of_ble_eq_true rfl) dL_fails_330 ⟨Nat.le_of_ble_eq_true rfl, Nat.le_of_ble_eq_true rfl⟩ (by omega) (by omega) rfl rfl (fun H locs hG hS => ?_)
  refine lv_ldc hx hb hown k_1 dL_fails_333 ?_
  refine lv_icmp_ne (tgt := 373) hx hb dL_fails_335 (by decide) (fun c_21 => absurd (by decide) c_21) (fun c_21 => ?_)
  refine lv_aload_n hx hb dL_fails_338 rfl (lv_at hl 2 rfl) ?_
  refine lv_bipush (v := 16) hx hb dL_fails_339 (by decide) ?_
  refine lv_iconst (v := 3) hx hb dL_fails_341 (by decide) ?_
  refine lv_iconst (v := 0) hx hb dL_fails_342 (by decide) ?_
  refine lv_iconst (v := 0) hx hb dL_fails_343 (by decide) ?_
  refine lv_iconst (v := 0) hx hb dL_fails_344 (by decide) ?_
  refine l_call (X := 24) (K := 25) (CC := 50) (As := [.ref (gad Γ 475), .int 16, .int 3, .int 0, .int 0, .int 0]) (rest := [.int 1]) (st1 := [.int (-9999001), .int 1]) hF (rj_whyNoFill (l := l) (Γ := Γ) (N := N) (Hy := Hy) (k := k) (w := w) hst hN hu0 3 0 (j := 0) (if_pos (wa_3 hN)) rfl) (va_cwS 6 hts qL_call rfl rfl rfl (by decide +kernel) ⟨Nat.le_of_ble_eq_true rfl, Nat.le_of_ble_eq_true rfl⟩) hK hZ hX hY hG hS rfl hl.1 (Nat.le_of_ble_eq_true rfl) dL_fails_345 ⟨Nat.le_of_ble_eq_true rfl, Nat.le_of_ble_eq_true rfl⟩ (by omega) (by omega) rfl rfl (fun H locs hG hS => ?_)
  refine lv_ldc hx hb hown k_2 dL_fails_348 ?_
  refine lv_icmp_ne (tgt := 373) hx hb dL_fails_350 (by decide) (fun c_22 => absurd (by decide) c_22) (fun c_22 => ?_)
  refine lv_aload_n hx hb dL_fails_353 rfl (lv_at hl 2 rfl) ?_
  refine lv_bipush (v := 17) hx hb dL_fails_354 (by decide) ?_
  refine lv_bipush (v := 8) hx hb dL_fails_356 (by decide) ?_
  refine lv_iconst (v := 1) hx hb dL_fails_358 (by decide) ?_
  refine lv_iconst (v := 0) hx hb dL_fails_359 (by decide) ?_
  refine lv_iconst (v := 0) hx hb dL_fails_360 (by decide) ?_
  refine l_call (X := 25) (K := 26) (CC := 50) (As := [.ref (gad Γ 475), .int 17, .int 8, .int 1, .int 0, .int 0]) (rest := [.int 1]) (st1 := [.int (-9999001), .int 1]) hF (rj_ahead (l := l) (Γ := Γ) (N := N) (Hy := Hy) (k := k) (w := w) hst hN hu0 8 1 (j := 0) (if_pos (ho_8 hN)) rfl) (va_cwS 6 hts qL_call rfl rfl rfl (by decide +kernel) ⟨Nat.le_of_ble_eq_true rfl, Nat.le_of_ble_eq_true rfl⟩) hK hZ hX hY hG hS rfl hl.1 (Nat.le_of_ble_eq_true rfl) dL_fails_361 ⟨Nat.le_of_ble_eq_true rfl, Nat.le_of_ble_eq_true rfl⟩ (by omega) (by omega) rfl rfl (fun H locs hG hS => ?_)
  refine lv_ldc hx hb hown k_2 dL_fails_364 ?_
  refine lv_icmp_ne (tgt := 373) hx hb dL_fails_366 (by decide) (fun c_23 => absurd (by decide) c_23) (fun c_23 => ?_)
  refine lv_iconst (v := 1) hx hb dL_fails_369 (by decide) ?_
  refine lv_goto (tgt := 374) hx hb dL_fails_370 (by decide) ?_
  refine lv_iand hx hb dL_fails_374 ?_
  refine g_top (y := 1) (show (1 &&& 1 : Int32) = 1 from rfl) ?_
  refine lv_istore_n (lv' := [(3, .int 1), (2, .int (N 0)), (0, .ref (gad Γ 475)), (1, .int (nI x))]) hx hb dL_fails_375 rfl hl (by decide) rfl (fun ls hl => ?_)
  refine lv_iload_n hx hb dL_fails_376 rfl (lv_at hl 0 rfl) ?_
  refine lv_aload_n hx hb dL_fails_377 rfl (lv_at hl 2 rfl) ?_
  refine lv_bipush (v := 18) hx hb dL_fails_378 (by decide) ?_
  refine lv_bipush (v := 8) hx hb dL_fails_380 (by decide) ?_
  refine lv_iconst (v := 0) hx hb dL_fails_382 (by decide) ?_
  refine lv_iconst (v := 0) hx hb dL_fails_383 (by decide) ?_
  refine lv_iconst (v := 0) hx hb dL_fails_384 (by decide) ?_
  refine l_call (X := 26) (K := 27) (CC := 50) (As := [.ref (gad Γ 475), .int 18, .int 8, .int 0, .int 0, .int 0]) (rest := [.int 1]) (st1 := [.int (-9999001), .int 1]) hF (rj_waterFor (l := l) (Γ := Γ) (N := N) (Hy := Hy) (k := k) (w := w) hst hN hu0 8 0 (j := 0) (if_pos (ho_8 hN)) rfl) (va_cwS 6 hts qL_call rfl rfl rfl (by decide +kernel) ⟨Nat.le_of_ble_eq_true rfl, Nat.le_of_ble_eq_true rfl⟩) hK hZ hX hY hG hS rfl hl.1 (Nat.le_of_ble_eq_true rfl) dL_fails_385 ⟨Nat.le_of_ble_eq_true rfl, Nat.le_of_ble_eq_true rfl⟩ (by omega) (by omega) rfl rfl (fun H locs hG hS => ?_)
  refine lv_ldc hx hb hown k_2 dL_fails_388 ?_
  refine lv_icmp_ne (tgt := 473) hx hb dL_fails_390 (by decide) (fun c_24 => absurd (by decide) c_24) (fun c_24 => ?_)
  refine lv_aload_n hx hb dL_fails_393 rfl (lv_at hl 2 rfl) ?_
  refine lv_bipush (v := 19) hx hb dL_fails_394 (by decide) ?_
  refine lv_iconst (v := (-1)) hx hb dL_fails_396 (by decide) ?_
  refine lv_iconst (v := 0) hx hb dL_fails_397 (by decide) ?_
  refine lv_iconst (v := 0) hx hb dL_fails_398 (by decide) ?_
  refine lv_iconst (v := 0) hx hb dL_fails_399 (by decide) ?_
  refine l_call (X := 27) (K := 28) (CC := 50) (As := [.ref (gad Γ 475), .int 19, .int (-1), .int 0, .int 0, .int 0]) (rest := [.int 1]) (st1 := [.int (-9999001), .int 1]) hF (rj_limitFor (l := l) (Γ := Γ) (N := N) (Hy := Hy) (k := k) (w := w) hst hN hu0 (-1) 0 (j := 0) (if_pos (ho_m hN)) rfl) (va_cwS 6 hts qL_call rfl rfl rfl (by decide +kernel) ⟨Nat.le_of_ble_eq_true rfl, Nat.le_of_ble_eq_true rfl⟩) hK hZ hX hY hG hS rfl hl.1 (Nat.le_of_ble_eq_true rfl) dL_fails_400 ⟨Nat.le_of_ble_eq_true rfl, Nat.le_of_ble_eq_true rfl⟩ (by omega) (by omega) rfl rfl (fun H locs hG hS => ?_)
  refine lv_ldc hx hb hown k_2 dL_fails_403 ?_
  refine lv_icmp_ne (tgt := 473) hx hb dL_fails_405 (by decide) (fun c_25 => absurd (by decide) c_25) (fun c_25 => ?_)
  refine lv_aload_n hx hb dL_fails_408 rfl (lv_at hl 2 rfl) ?_
  refine lv_bipush (v := 20) hx hb dL_fails_409 (by decide) ?_
  refine lv_iconst (v := 3) hx hb dL_fails_411 (by decide) ?_
  refine lv_iconst (v := 1) hx hb dL_fails_412 (by decide) ?_
  refine lv_iconst (v := 0) hx hb dL_fails_413 (by decide) ?_
  refine lv_iconst (v := 0) hx hb dL_fails_414 (by decide) ?_
  refine l_call (X := 28) (K := 29) (CC := 50) (As := [.ref (gad Γ 475), .int 20, .int 3, .int 1, .int 0, .int 0]) (rest := [.int 1]) (st1 := [.int (-9999001), .int 1]) hF (rj_bestSpray (l := l) (Γ := Γ) (N := N) (Hy := Hy) (k := k) (w := w) hst hN hu0 3 1 (j := 0) (if_pos (wa_3 hN)) rfl) (va_cwS 6 hts qL_call rfl rfl rfl (by decide +kernel) ⟨Nat.le_of_ble_eq_true rfl, Nat.le_of_ble_eq_true rfl⟩) hK hZ hX hY hG hS rfl hl.1 (Nat.le_of_ble_eq_true rfl) dL_fails_415 ⟨Nat.le_of_ble_eq_true rfl, Nat.le_of_ble_eq_true rfl⟩ (by omega) (by omega) rfl rfl (fun H locs hG hS => ?_)
  refine lv_ldc hx hb hown k_2 dL_fails_418 ?_
  refine lv_icmp_ne (tgt := 473) hx hb dL_fails_420 (by decide) (fun c_26 => absurd (by decide) c_26) (fun c_26 => ?_)
  refine lv_aload_n hx hb dL_fails_423 rfl (lv_at hl 2 rfl) ?_
  refine lv_bipush (v := 21) hx hb dL_fails_424 (by decide) ?_
  refine lv_bipush (v := 8) hx hb dL_fails_426 (by decide) ?_
  refine lv_iconst (v := 0) hx hb dL_fails_428 (by decide) ?_
  refine lv_iconst (v := 0) hx hb dL_fails_429 (by decide) ?_
  refine lv_iconst (v := 0) hx hb dL_fails_430 (by decide) ?_
  refine l_call (X := 29) (K := 30) (CC := 50) (As := [.ref (gad Γ 475), .int 21, .int 8, .int 0, .int 0, .int 0]) (rest := [.int 1]) (st1 := [.int (-9999001), .int 1]) hF (rj_complainsIn (l := l) (Γ := Γ) (N := N) (Hy := Hy) (k := k) (w := w) hst hN hu0 8 0 (j := 0) (if_pos (ho_8 hN)) rfl) (va_cwS 6 hts qL_call rfl rfl rfl (by decide +kernel) ⟨Nat.le_of_ble_eq_true rfl, Nat.le_of_ble_eq_true rfl⟩) hK hZ hX hY hG hS rfl hl.1 (Nat.le_of_ble_eq_true rfl) dL_fails_431 ⟨Nat.le_of_ble_eq_true rfl, Nat.le_of_ble_eq_true rfl⟩ (by omega) (by omega) rfl rfl (fun H locs hG hS => ?_)
  refine lv_ldc hx hb hown k_2 dL_fails_434 ?_
  refine lv_icmp_ne (tgt := 473) hx hb dL_fails_436 (by decide) (fun c_27 => absurd (by decide) c_27) (fun c_27 => ?_)
  refine lv_aload_n hx hb dL_fails_439 rfl (lv_at hl 2 rfl) ?_
  refine lv_bipush (v := 22) hx hb dL_fails_440 (by decide) ?_
  refine lv_iconst (v := 2) hx hb dL_fails_442 (by decide) ?_
  refine lv_iconst (v := 0) hx hb dL_fails_443 (by decide) ?_
  refine lv_iconst (v := 0) hx hb dL_fails_444 (by decide) ?_
  refine lv_iconst (v := 0) hx hb dL_fails_445 (by decide) ?_
  refine l_call (X := 30) (K := 31) (CC := 50) (As := [.ref (gad Γ 475), .int 22, .int 2, .int 0, .int 0, .int 0]) (rest := [.int 1]) (st1 := [.int (-9999001), .int 1]) hF (rj_save (l := l) (Γ := Γ) (N := N) (Hy := Hy) (k := k) (w := w) hst 0) (va_cwS 6 hts qL_call rfl rfl rfl (by decide +kernel) ⟨Nat.le_of_ble_eq_true rfl, Nat.le_of_ble_eq_true rfl⟩) hK hZ hX hY hG hS rfl hl.1 (Nat.le_of_ble_eq_true rfl) dL_fails_446 ⟨Nat.le_of_ble_eq_true rfl, Nat.le_of_ble_eq_true rfl⟩ (by omega) (by omega) rfl rfl (fun H locs hG hS => ?_)
  refine lv_ldc hx hb hown k_2 dL_fails_449 ?_
  refine lv_icmp_ne (tgt := 473) hx hb dL_fails_451 (by decide) (fun c_28 => absurd (by decide) c_28) (fun c_28 => ?_)
  refine lv_aload_n hx hb dL_fails_454 rfl (lv_at hl 2 rfl) ?_
  refine lv_bipush (v := 23) hx hb dL_fails_455 (by decide) ?_
  refine lv_iconst (v := (-1)) hx hb dL_fails_457 (by decide) ?_
  refine lv_iconst (v := 0) hx hb dL_fails_458 (by decide) ?_
  refine lv_iconst (v := 0) hx hb dL_fails_459 (by decide) ?_
  refine lv_iconst (v := 0) hx hb dL_fails_460 (by decide) ?_
  refine l_call (X := 31) (K := 32) (CC := 50) (As := [.ref (gad Γ 475), .int 23, .int (-1), .int 0, .int 0, .int 0]) (rest := [.int 1]) (st1 := [.int (-9999001), .int 1]) hF (rj_restore (l := l) (Γ := Γ) (N := N) (Hy := Hy) (k := k) (w := w) hst 0) (va_cwS 6 hts qL_call rfl rfl rfl (by decide +kernel) ⟨Nat.le_of_ble_eq_true rfl, Nat.le_of_ble_eq_true rfl⟩) hK hZ hX hY hG hS rfl hl.1 (Nat.le_of_ble_eq_true rfl) dL_fails_461 ⟨Nat.le_of_ble_eq_true rfl, Nat.le_of_ble_eq_true rfl⟩ (by omega) (by omega) rfl rfl (fun H locs hG hS => ?_)
  refine lv_ldc hx hb hown k_2 dL_fails_464 ?_
  refine lv_icmp_ne (tgt := 473) hx hb dL_fails_466 (by decide) (fun c_29 => absurd (by decide) c_29) (fun c_29 => ?_)
  refine lv_iconst (v := 1) hx hb dL_fails_469 (by decide) ?_
  refine lv_goto (tgt := 474) hx hb dL_fails_470 (by decide) ?_
  refine lv_iand hx hb dL_fails_474 ?_
  refine g_top (y := 1) (show (1 &&& 1 : Int32) = 1 from rfl) ?_
  refine lv_istore_n (lv' := [(3, .int 1), (2, .int (N 0)), (0, .ref (gad Γ 475)), (1, .int (nI x))]) hx hb dL_fails_475 rfl hl (by decide) rfl (fun ls hl => ?_)
  refine lv_iload_n hx hb dL_fails_476 rfl (lv_at hl 0 rfl) ?_
  refine lv_if_eq (tgt := 546) hx hb dL_fails_477 (by decide) (fun c_30 => absurd c_30 (by decide)) (fun c_30 => ?_)
  refine lv_aload_n hx hb dL_fails_480 rfl (lv_at hl 2 rfl) ?_
  refine lv_iconst (v := 5) hx hb dL_fails_481 (by decide) ?_
  refine lv_lconst (v := 0) hx hb dL_fails_482 (by decide) ?_
  refine l_callW (X := 32) (K := 33) (CC := 50) (As := [.ref (gad Γ 475), .int 5, .long 0]) (rest := []) (st1 := [.int (-9999002)]) hF (cl_script_a (l := l) (Γ := Γ) (N := N) (H := Hy) (k := k) (w := w) hst) (vx_cwSW 3 hts qL_tryScript rfl rfl rfl (by decide +kernel) ⟨Nat.le_of_ble_eq_true rfl, Nat.le_of_ble_eq_true rfl⟩) hK hZ hX hY hG hS rfl hl.1 (Nat.le_of_ble_eq_true rfl) dL_fails_483 ⟨Nat.le_of_ble_eq_true rfl, Nat.le_of_ble_eq_true rfl⟩ (by omega) (by omega) rfl rfl (fun H locs hG hS => ?_)
  refine lv_ldc hx hb hown k_1 dL_fails_486 ?_
  refine lv_icmp_ne (tgt := 546) hx hb dL_fails_488 (by decide) (fun c_31 => absurd (by decide) c_31) (fun c_31 => ?_)
  refine lv_aload_n hx hb dL_fails_491 rfl (lv_at hl 2 rfl) ?_
  refine lv_iconst (v := 1) hx hb dL_fails_492 (by decide) ?_
  refine lv_ldc2 hx hb hown k_3 dL_fails_493 ?_
  refine l_callW (X := 33) (K := 34) (CC := 50) (As := [.ref (gad Γ 475), .int 1, .long 10000]) (rest := []) (st1 := [.int (-9999002)]) hF (cl_script_b (l := l) (Γ := Γ) (N := N) (H := Hy) (k := k) (w := w) hst) (vx_cwSW 3 hts qL_tryScript rfl rfl rfl (by decide +kernel) ⟨Nat.le_of_ble_eq_true rfl, Nat.le_of_ble_eq_true rfl⟩) hK hZ hX hY hG hS rfl hl.1 (Nat.le_of_ble_eq_true rfl) dL_fails_496 ⟨Nat.le_of_ble_eq_true rfl, Nat.le_of_ble_eq_true rfl⟩ (by omega) (by omega) rfl rfl (fun H locs hG hS => ?_)
  refine lv_ldc hx hb hown k_1 dL_fails_499 ?_
  refine lv_icmp_ne (tgt := 546) hx hb dL_fails_501 (by decide) (fun c_32 => absurd (by decide) c_32) (fun c_32 => ?_)
  refine lv_aload_n hx hb dL_fails_504 rfl (lv_at hl 2 rfl) ?_
  refine lv_iconst (v := 2) hx hb dL_fails_505 (by decide) ?_
  refine lv_ldc2 hx hb hown k_4 dL_fails_506 ?_
  refine l_callW (X := 34) (K := 35) (CC := 50) (As := [.ref (gad Γ 475), .int 2, .long (-1)]) (rest := []) (st1 := [.int (-9999002)]) hF (cl_script_c (l := l) (Γ := Γ) (N := N) (H := Hy) (k := k) (w := w) hst) (vx_cwSW 3 hts qL_tryScript rfl rfl rfl (by decide +kernel) ⟨Nat.le_of_ble_eq_true rfl, Nat.le_of_ble_eq_true rfl⟩) hK hZ hX hY hG hS rfl hl.1 (Nat.le_of_ble_eq_true rfl) dL_fails_509 ⟨Nat.le_of_ble_eq_true rfl, Nat.le_of_ble_eq_true rfl⟩ (by omega) (by omega) rfl rfl (fun H locs hG hS => ?_)
  refine lv_ldc hx hb hown k_1 dL_fails_512 ?_
  refine lv_icmp_ne (tgt := 546) hx hb dL_fails_514 (by decide) (fun c_33 => absurd (by decide) c_33) (fun c_33 => ?_)
  refine lv_aload_n hx hb dL_fails_517 rfl (lv_at hl 2 rfl) ?_
  refine lv_iload_n hx hb dL_fails_518 rfl (lv_at hl 3 rfl) ?_
  refine lv_i2l hx hb dL_fails_519 rfl ?_
  refine lv_iconst (v := 0) hx hb dL_fails_520 (by decide) ?_
  refine l_callW (X := 35) (K := 36) (CC := 50) (As := [.ref (gad Γ 475), .long ((nI x).toInt64), .int 0]) (rest := []) (st1 := [.int (-9999002)]) hF (rj_simulate (l := l) (Γ := Γ) (N := N) (Hy := Hy) (k := k) (w := w) hst hN hu0 (nI x).toInt64 0 (by decide)) (vx_cwSW 3 hts qL_trySimulate rfl rfl rfl (by decide +kernel) ⟨Nat.le_of_ble_eq_true rfl, Nat.le_of_ble_eq_true rfl⟩) hK hZ hX hY hG hS rfl hl.1 (Nat.le_of_ble_eq_true rfl) dL_fails_521 ⟨Nat.le_of_ble_eq_true rfl, Nat.le_of_ble_eq_true rfl⟩ (by omega) (by omega) rfl rfl (fun H locs hG hS => ?_)
  refine lv_ldc hx hb hown k_1 dL_fails_524 ?_
  refine lv_icmp_ne (tgt := 546) hx hb dL_fails_526 (by decide) (fun c_34 => absurd (by decide) c_34) (fun c_34 => ?_)
  refine lv_aload_n hx hb dL_fails_529 rfl (lv_at hl 2 rfl) ?_
  refine lv_iload_n hx hb dL_fails_530 rfl (lv_at hl 3 rfl) ?_
  refine lv_i2l hx hb dL_fails_531 rfl ?_
  refine lv_bipush (v := 100) hx hb dL_fails_532 (by decide) ?_
  refine l_callW (X := 36) (K := 37) (CC := 50) (As := [.ref (gad Γ 475), .long ((nI x).toInt64), .int 100]) (rest := []) (st1 := [.int (-9999002)]) hF (rj_simulate (l := l) (Γ := Γ) (N := N) (Hy := Hy) (k := k) (w := w) hst hN hu0 (nI x).toInt64 100 (by decide)) (vx_cwSW 3 hts qL_trySimulate rfl rfl rfl (by decide +kernel) ⟨Nat.le_of_ble_eq_true rfl, Nat.le_of_ble_eq_true rfl⟩) hK hZ hX hY hG hS rfl hl.1 (Nat.le_of_ble_eq_true rfl) dL_fails_534 ⟨Nat.le_of_ble_eq_true rfl, Nat.le_of_ble_eq_true rfl⟩ (by omega) (by omega) rfl rfl (fun H locs hG hS => ?_)
  refine lv_ldc hx hb hown k_1 dL_fails_537 ?_
  refine lv_icmp_ne (tgt := 546) hx hb dL_fails_539 (by decide) (fun c_35 => absurd (by decide) c_35) (fun c_35 => ?_)
  refine lv_iconst (v := 1) hx hb dL_fails_542 (by decide) ?_
  refine lv_goto (tgt := 547) hx hb dL_fails_543 (by decide) ?_
  exact l_zret hx hb hrt hlocks hS hG (by decide) rfl (by omega) dL_fails_547
