/-! THE LAW: its cases. Laid by gen/p31.py. -/
set_option maxHeartbeats 4000000 in
set_option maxRecDepth 100000 in
theorem lc_fill {p : Program} {l : Launch} {e : Env} {s : State} {m : MethodId} {args : Array Value} {below : List Frame} {meth : Method} {c : Code} {cells slots : Nat} {Q : State → Prop} {Γ : gX} {b L : Nat} {xs : Nat → Int32} (hst : l.stackTraces = false) (C : LCx p s m args c Γ b L xs) {i : Int32} (h1 : vp_in (i + 1) L) (h2 : vp_in (i + 2) L) (h3 : vp_in (i + 3) L) {u : Nat} (hu : 1998 * (u + 5000) < 2 ^ 31) (hc : cells + 1 ≤ 601024 ∧ slots + 6 ≤ 7293033) {H : Heap} {locs : List Loc} {ls : Array Slot} {R : Nat → Nat → Option Nat} {O : Int64} {Z : Nat → Nat → Int32} (S : LSt s Γ b i u H locs ls R O Z) (next : ∀ (H : Heap) (locs : List Loc) (ls : Array Slot) (R : Nat → Nat → Option Nat) (O : Int64) (Z : Nat → Nat → Int32), LSt s Γ b i (u + 850) H locs ls R O Z → W p l e room_1 s m args below meth c H locs (cells + 1) (slots + 6) Q (F0 m 1859 ls [])) : W p l e room_1 s m args below meth c H locs cells slots Q (F0 m 1018 ls []) := by
  obtain ⟨hx, hb, hml, hown, hts, hXs, hbl, hbA, hK, hZ, hX, hY, hcs, hall⟩ := C
  obtain ⟨hG, hS, hl, hI⟩ := S
  have hF : CallFix p m c cL_law 7 s args wsL_law RL := ⟨hx, hb, hml, hown, hts⟩
  have h483 := hI.g483
  have h475 := hI.g475
  obtain ⟨kk, bb, Z1, Z2, R1, O1, fr, lo, hfr, hlo, wrp, ref, hz, heq, inv⟩ := st_fill (l := l) (O := O) hst hcs hall hI hu (xs (i + 1).toNatClampNeg)
  have thr := inv.thr (l := l) (O := O1)
  rw [hz] at thr
  refine lv_aload_n hx hb dL_law_1018 rfl (lv_at hl 1 rfl) ?_
  refine lv_aload_n hx hb dL_law_1019 rfl (lv_at hl 0 rfl) ?_
  refine lv_iload hx hb dL_law_1020 (lv_at hl 4 rfl) ?_
  refine lv_iconst (v := 1) hx hb dL_law_1022 (by decide) ?_
  refine lv_iadd hx hb dL_law_1023 ?_
  refine va_sld hx hb hXs hbl hbA hS h1 dL_law_1024 ?_
  refine lv_aload_n hx hb dL_law_1025 rfl (lv_at hl 3 rfl) ?_
  refine g_callW (As := [.ref (gad Γ 475), .int (xs (i + 1).toNatClampNeg), .ref (gad Γ 491)]) (rest := []) (st1 := [.int kk]) hF wrp (vx_cwSW 3 hts gL_law_L_fill rfl rfl rfl (by decide +kernel) ⟨Nat.le_of_ble_eq_true rfl, Nat.le_of_ble_eq_true rfl⟩) hK hZ hX hY hG hS rfl hl.1 (Nat.le_of_ble_eq_true rfl) dL_law_1026 hc rfl rfl (fun H locs hG hS => ?_)
  refine lv_istore (lv' := [(5, .int kk), (0, .ref b), (1, .ref (gad Γ 475)), (2, .ref (gad Γ 483)), (3, .ref (gad Γ 491)), (4, .int i)]) hx hb dL_law_1029 hl (by decide) rfl (fun ls hl => ?_)
  refine lv_aload_n hx hb dL_law_1031 rfl (lv_at hl 3 rfl) ?_
  refine lv_aload_n hx hb dL_law_1032 rfl (lv_at hl 1 rfl) ?_
  refine lv_iload hx hb dL_law_1033 (lv_at hl 5 rfl) ?_
  refine lv_iconst (v := 1) hx hb dL_law_1035 (by decide) ?_
  refine lv_iadd hx hb dL_law_1036 ?_
  refine va_sld hx hb hXs hbl hbA hS h1 dL_law_1037 ?_
  refine g_callV (As := [.int (xs (i + 1).toNatClampNeg)]) (rest := []) (st1 := [.int bb]) hF ref (cwV 1 hts gL_law_X7_fill rfl rfl rfl (by decide +kernel) ⟨(by show fr + 1 ≤ 12; omega), (by show 8 + (_ + 11) + lo ≤ 426; omega)⟩) hK hZ hG hS h483 (show gC 483 = (7, 24, 0) from rfl) (by decide) rfl rfl hl.1 (Nat.le_of_ble_eq_true rfl) dL_law_1038 hc rfl rfl (fun H locs hG hS => ?_)
  refine lv_istore (lv' := [(6, .int bb), (5, .int kk), (0, .ref b), (1, .ref (gad Γ 475)), (2, .ref (gad Γ 483)), (3, .ref (gad Γ 491)), (4, .int i)]) hx hb dL_law_1041 hl (by decide) rfl (fun ls hl => ?_)
  refine lv_aload_n hx hb dL_law_1043 rfl (lv_at hl 4 rfl) ?_
  refine g_callV (As := []) (rest := []) (st1 := [.int kk]) hF thr (cwV 0 hts gL_law_X7_thrown rfl rfl rfl (by decide +kernel) ⟨Nat.le_of_ble_eq_true rfl, Nat.le_of_ble_eq_true rfl⟩) hK hZ hG hS h483 (show gC 483 = (7, 24, 0) from rfl) (by decide) rfl rfl hl.1 (Nat.le_of_ble_eq_true rfl) dL_law_1044 hc rfl rfl (fun H locs hG hS => ?_)
  refine lv_iload hx hb dL_law_1047 (lv_at hl 1 rfl) ?_
  refine lv_icmp_eq (tgt := 1054) hx hb dL_law_1049 (by decide) (fun _ => ?_) (fun q => absurd rfl q)
  refine lv_iload hx hb dL_law_1054 (lv_at hl 1 rfl) ?_
  have fin : W p l e room_1 s m args below meth c H locs (cells + 1) (slots + 6) Q (F0 m 1071 ls []) := lv_goto (tgt := 1859) hx hb dL_law_1071 (by decide) (next _ _ _ _ _ _ ⟨hG, hS, lv_sub hl [2, 3, 4, 5, 6] rfl, inv⟩)
  refine lv_if_ne (tgt := 1071) hx hb dL_law_1056 (by decide) (fun _ => fin) (fun q => ?_)
  refine lv_aload_n hx hb dL_law_1059 rfl (lv_at hl 5 rfl) ?_
  refine lv_iconst (v := 0) hx hb dL_law_1060 (by decide) ?_
  refine g_lald hx hb hK hG hcs dL_law_1061 ?_
  refine lv_iload hx hb dL_law_1062 (lv_at hl 0 rfl) ?_
  refine lv_i2l hx hb dL_law_1064 rfl ?_
  refine W.lcmp hx hb dL_law_1065 ?_
  exact gl_eq (tgt := 1071) hx hb dL_law_1066 (by decide) (fun _ => fin) (fun q9 => absurd (heq q) q9)
set_option maxHeartbeats 4000000 in
set_option maxRecDepth 100000 in
theorem lc_pass {p : Program} {l : Launch} {e : Env} {s : State} {m : MethodId} {args : Array Value} {below : List Frame} {meth : Method} {c : Code} {cells slots : Nat} {Q : State → Prop} {Γ : gX} {b L : Nat} {xs : Nat → Int32} (hst : l.stackTraces = false) (C : LCx p s m args c Γ b L xs) {i : Int32} (h1 : vp_in (i + 1) L) (h2 : vp_in (i + 2) L) (h3 : vp_in (i + 3) L) {u : Nat} (hu : 1998 * (u + 5000) < 2 ^ 31) (hc : cells + 1 ≤ 601024 ∧ slots + 6 ≤ 7293033) {H : Heap} {locs : List Loc} {ls : Array Slot} {R : Nat → Nat → Option Nat} {O : Int64} {Z : Nat → Nat → Int32} (S : LSt s Γ b i u H locs ls R O Z) (next : ∀ (H : Heap) (locs : List Loc) (ls : Array Slot) (R : Nat → Nat → Option Nat) (O : Int64) (Z : Nat → Nat → Int32), LSt s Γ b i (u + 850) H locs ls R O Z → W p l e room_1 s m args below meth c H locs (cells + 1) (slots + 6) Q (F0 m 1859 ls [])) : W p l e room_1 s m args below meth c H locs cells slots Q (F0 m 1074 ls []) := by
  obtain ⟨hx, hb, hml, hown, hts, hXs, hbl, hbA, hK, hZ, hX, hY, hcs, hall⟩ := C
  obtain ⟨hG, hS, hl, hI⟩ := S
  have hF : CallFix p m c cL_law 7 s args wsL_law RL := ⟨hx, hb, hml, hown, hts⟩
  have h483 := hI.g483
  have h475 := hI.g475
  obtain ⟨kk, bb, Z1, Z2, R1, O1, fr, lo, hfr, hlo, wrp, ref, hz, heq, inv⟩ := st_pass (l := l) (O := O) hst hcs hall hI hu (xs (i + 1).toNatClampNeg)
  have thr := inv.thr (l := l) (O := O1)
  rw [hz] at thr
  refine lv_aload_n hx hb dL_law_1074 rfl (lv_at hl 1 rfl) ?_
  refine lv_aload_n hx hb dL_law_1075 rfl (lv_at hl 0 rfl) ?_
  refine lv_iload hx hb dL_law_1076 (lv_at hl 4 rfl) ?_
  refine lv_iconst (v := 1) hx hb dL_law_1078 (by decide) ?_
  refine lv_iadd hx hb dL_law_1079 ?_
  refine va_sld hx hb hXs hbl hbA hS h1 dL_law_1080 ?_
  refine lv_aload_n hx hb dL_law_1081 rfl (lv_at hl 3 rfl) ?_
  refine g_callW (As := [.ref (gad Γ 475), .int (xs (i + 1).toNatClampNeg), .ref (gad Γ 491)]) (rest := []) (st1 := [.int kk]) hF wrp (vx_cwSW 3 hts gL_law_L_pass rfl rfl rfl (by decide +kernel) ⟨Nat.le_of_ble_eq_true rfl, Nat.le_of_ble_eq_true rfl⟩) hK hZ hX hY hG hS rfl hl.1 (Nat.le_of_ble_eq_true rfl) dL_law_1082 hc rfl rfl (fun H locs hG hS => ?_)
  refine lv_istore (lv' := [(5, .int kk), (0, .ref b), (1, .ref (gad Γ 475)), (2, .ref (gad Γ 483)), (3, .ref (gad Γ 491)), (4, .int i)]) hx hb dL_law_1085 hl (by decide) rfl (fun ls hl => ?_)
  refine lv_aload_n hx hb dL_law_1087 rfl (lv_at hl 3 rfl) ?_
  refine lv_aload_n hx hb dL_law_1088 rfl (lv_at hl 1 rfl) ?_
  refine lv_iload hx hb dL_law_1089 (lv_at hl 5 rfl) ?_
  refine lv_iconst (v := 1) hx hb dL_law_1091 (by decide) ?_
  refine lv_iadd hx hb dL_law_1092 ?_
  refine va_sld hx hb hXs hbl hbA hS h1 dL_law_1093 ?_
  refine g_callV (As := [.int (xs (i + 1).toNatClampNeg)]) (rest := []) (st1 := [.int bb]) hF ref (cwV 1 hts gL_law_X7_pass rfl rfl rfl (by decide +kernel) ⟨(by show fr + 1 ≤ 12; omega), (by show 8 + (_ + 11) + lo ≤ 426; omega)⟩) hK hZ hG hS h483 (show gC 483 = (7, 24, 0) from rfl) (by decide) rfl rfl hl.1 (Nat.le_of_ble_eq_true rfl) dL_law_1094 hc rfl rfl (fun H locs hG hS => ?_)
  refine lv_istore (lv' := [(6, .int bb), (5, .int kk), (0, .ref b), (1, .ref (gad Γ 475)), (2, .ref (gad Γ 483)), (3, .ref (gad Γ 491)), (4, .int i)]) hx hb dL_law_1097 hl (by decide) rfl (fun ls hl => ?_)
  refine lv_aload_n hx hb dL_law_1099 rfl (lv_at hl 4 rfl) ?_
  refine g_callV (As := []) (rest := []) (st1 := [.int kk]) hF thr (cwV 0 hts gL_law_X7_thrown rfl rfl rfl (by decide +kernel) ⟨Nat.le_of_ble_eq_true rfl, Nat.le_of_ble_eq_true rfl⟩) hK hZ hG hS h483 (show gC 483 = (7, 24, 0) from rfl) (by decide) rfl rfl hl.1 (Nat.le_of_ble_eq_true rfl) dL_law_1100 hc rfl rfl (fun H locs hG hS => ?_)
  refine lv_iload hx hb dL_law_1103 (lv_at hl 1 rfl) ?_
  refine lv_icmp_eq (tgt := 1110) hx hb dL_law_1105 (by decide) (fun _ => ?_) (fun q => absurd rfl q)
  refine lv_iload hx hb dL_law_1110 (lv_at hl 1 rfl) ?_
  have fin : W p l e room_1 s m args below meth c H locs (cells + 1) (slots + 6) Q (F0 m 1127 ls []) := lv_goto (tgt := 1859) hx hb dL_law_1127 (by decide) (next _ _ _ _ _ _ ⟨hG, hS, lv_sub hl [2, 3, 4, 5, 6] rfl, inv⟩)
  refine lv_if_ne (tgt := 1127) hx hb dL_law_1112 (by decide) (fun _ => fin) (fun q => ?_)
  refine lv_aload_n hx hb dL_law_1115 rfl (lv_at hl 5 rfl) ?_
  refine lv_iconst (v := 0) hx hb dL_law_1116 (by decide) ?_
  refine g_lald hx hb hK hG hcs dL_law_1117 ?_
  refine lv_iload hx hb dL_law_1118 (lv_at hl 0 rfl) ?_
  refine lv_i2l hx hb dL_law_1120 rfl ?_
  refine W.lcmp hx hb dL_law_1121 ?_
  exact gl_eq (tgt := 1127) hx hb dL_law_1122 (by decide) (fun _ => fin) (fun q9 => absurd (heq q) q9)
set_option maxHeartbeats 4000000 in
set_option maxRecDepth 100000 in
theorem lc_undo {p : Program} {l : Launch} {e : Env} {s : State} {m : MethodId} {args : Array Value} {below : List Frame} {meth : Method} {c : Code} {cells slots : Nat} {Q : State → Prop} {Γ : gX} {b L : Nat} {xs : Nat → Int32} (hst : l.stackTraces = false) (C : LCx p s m args c Γ b L xs) {i : Int32} (h1 : vp_in (i + 1) L) (h2 : vp_in (i + 2) L) (h3 : vp_in (i + 3) L) {u : Nat} (hu : 1998 * (u + 5000) < 2 ^ 31) (hc : cells + 1 ≤ 601024 ∧ slots + 6 ≤ 7293033) {H : Heap} {locs : List Loc} {ls : Array Slot} {R : Nat → Nat → Option Nat} {O : Int64} {Z : Nat → Nat → Int32} (S : LSt s Γ b i u H locs ls R O Z) (next : ∀ (H : Heap) (locs : List Loc) (ls : Array Slot) (R : Nat → Nat → Option Nat) (O : Int64) (Z : Nat → Nat → Int32), LSt s Γ b i (u + 850) H locs ls R O Z → W p l e room_1 s m args below meth c H locs (cells + 1) (slots + 6) Q (F0 m 1859 ls [])) : W p l e room_1 s m args below meth c H locs cells slots Q (F0 m 1130 ls []) := by
  obtain ⟨hx, hb, hml, hown, hts, hXs, hbl, hbA, hK, hZ, hX, hY, hcs, hall⟩ := C
  obtain ⟨hG, hS, hl, hI⟩ := S
  have hF : CallFix p m c cL_law 7 s args wsL_law RL := ⟨hx, hb, hml, hown, hts⟩
  have h483 := hI.g483
  have h475 := hI.g475
  obtain ⟨kk, bb, Z1, Z2, R1, O1, fr, lo, hfr, hlo, wrp, ref, hz, heq, inv⟩ := st_undo (l := l) (O := O) hst hcs hall hI hu 
  have thr := inv.thr (l := l) (O := O1)
  rw [hz] at thr
  refine lv_aload_n hx hb dL_law_1130 rfl (lv_at hl 1 rfl) ?_
  refine lv_aload_n hx hb dL_law_1131 rfl (lv_at hl 3 rfl) ?_
  refine g_callW (As := [.ref (gad Γ 475), .ref (gad Γ 491)]) (rest := []) (st1 := [.int kk]) hF wrp (vx_cwSW 2 hts gL_law_L_undo rfl rfl rfl (by decide +kernel) ⟨Nat.le_of_ble_eq_true rfl, Nat.le_of_ble_eq_true rfl⟩) hK hZ hX hY hG hS rfl hl.1 (Nat.le_of_ble_eq_true rfl) dL_law_1132 hc rfl rfl (fun H locs hG hS => ?_)
  refine lv_istore (lv' := [(5, .int kk), (0, .ref b), (1, .ref (gad Γ 475)), (2, .ref (gad Γ 483)), (3, .ref (gad Γ 491)), (4, .int i)]) hx hb dL_law_1135 hl (by decide) rfl (fun ls hl => ?_)
  refine lv_aload_n hx hb dL_law_1137 rfl (lv_at hl 3 rfl) ?_
  refine g_callV (As := []) (rest := []) (st1 := [.int bb]) hF ref (cwV 0 hts gL_law_X7_undo rfl rfl rfl (by decide +kernel) ⟨(by show fr + 1 ≤ 12; omega), (by show 8 + (_ + 11) + lo ≤ 426; omega)⟩) hK hZ hG hS h483 (show gC 483 = (7, 24, 0) from rfl) (by decide) rfl rfl hl.1 (Nat.le_of_ble_eq_true rfl) dL_law_1138 hc rfl rfl (fun H locs hG hS => ?_)
  refine lv_istore (lv' := [(6, .int bb), (5, .int kk), (0, .ref b), (1, .ref (gad Γ 475)), (2, .ref (gad Γ 483)), (3, .ref (gad Γ 491)), (4, .int i)]) hx hb dL_law_1141 hl (by decide) rfl (fun ls hl => ?_)
  refine lv_aload_n hx hb dL_law_1143 rfl (lv_at hl 4 rfl) ?_
  refine g_callV (As := []) (rest := []) (st1 := [.int kk]) hF thr (cwV 0 hts gL_law_X7_thrown rfl rfl rfl (by decide +kernel) ⟨Nat.le_of_ble_eq_true rfl, Nat.le_of_ble_eq_true rfl⟩) hK hZ hG hS h483 (show gC 483 = (7, 24, 0) from rfl) (by decide) rfl rfl hl.1 (Nat.le_of_ble_eq_true rfl) dL_law_1144 hc rfl rfl (fun H locs hG hS => ?_)
  refine lv_iload hx hb dL_law_1147 (lv_at hl 1 rfl) ?_
  refine lv_icmp_eq (tgt := 1154) hx hb dL_law_1149 (by decide) (fun _ => ?_) (fun q => absurd rfl q)
  refine lv_iload hx hb dL_law_1154 (lv_at hl 1 rfl) ?_
  have fin : W p l e room_1 s m args below meth c H locs (cells + 1) (slots + 6) Q (F0 m 1171 ls []) := lv_goto (tgt := 1859) hx hb dL_law_1171 (by decide) (next _ _ _ _ _ _ ⟨hG, hS, lv_sub hl [2, 3, 4, 5, 6] rfl, inv⟩)
  refine lv_if_ne (tgt := 1171) hx hb dL_law_1156 (by decide) (fun _ => fin) (fun q => ?_)
  refine lv_aload_n hx hb dL_law_1159 rfl (lv_at hl 5 rfl) ?_
  refine lv_iconst (v := 0) hx hb dL_law_1160 (by decide) ?_
  refine g_lald hx hb hK hG hcs dL_law_1161 ?_
  refine lv_iload hx hb dL_law_1162 (lv_at hl 0 rfl) ?_
  refine lv_i2l hx hb dL_law_1164 rfl ?_
  refine W.lcmp hx hb dL_law_1165 ?_
  exact gl_eq (tgt := 1171) hx hb dL_law_1166 (by decide) (fun _ => fin) (fun q9 => absurd (heq q) q9)
set_option maxHeartbeats 4000000 in
set_option maxRecDepth 100000 in
theorem lc_whyNoFill {p : Program} {l : Launch} {e : Env} {s : State} {m : MethodId} {args : Array Value} {below : List Frame} {meth : Method} {c : Code} {cells slots : Nat} {Q : State → Prop} {Γ : gX} {b L : Nat} {xs : Nat → Int32} (hst : l.stackTraces = false) (C : LCx p s m args c Γ b L xs) {i : Int32} (h1 : vp_in (i + 1) L) (h2 : vp_in (i + 2) L) (h3 : vp_in (i + 3) L) {u : Nat} (hu : 1998 * (u + 5000) < 2 ^ 31) (hc : cells + 1 ≤ 601024 ∧ slots + 6 ≤ 7293033) {H : Heap} {locs : List Loc} {ls : Array Slot} {R : Nat → Nat → Option Nat} {O : Int64} {Z : Nat → Nat → Int32} (S : LSt s Γ b i u H locs ls R O Z) (next : ∀ (H : Heap) (locs : List Loc) (ls : Array Slot) (R : Nat → Nat → Option Nat) (O : Int64) (Z : Nat → Nat → Int32), LSt s Γ b i (u + 850) H locs ls R O Z → W p l e room_1 s m args below meth c H locs (cells + 1) (slots + 6) Q (F0 m 1859 ls [])) : W p l e room_1 s m args below meth c H locs cells slots Q (F0 m 1174 ls []) := by
  obtain ⟨hx, hb, hml, hown, hts, hXs, hbl, hbA, hK, hZ, hX, hY, hcs, hall⟩ := C
  obtain ⟨hG, hS, hl, hI⟩ := S
  have hF : CallFix p m c cL_law 7 s args wsL_law RL := ⟨hx, hb, hml, hown, hts⟩
  have h483 := hI.g483
  have h475 := hI.g475
  obtain ⟨kk, bb, Z1, Z2, R1, O1, fr, lo, hfr, hlo, wrp, ref, hz, heq, inv⟩ := st_whyNoFill (l := l) (O := O) hst hcs hall hI hu (xs (i + 1).toNatClampNeg)
  have thr := inv.thr (l := l) (O := O1)
  rw [hz] at thr
  refine lv_aload_n hx hb dL_law_1174 rfl (lv_at hl 1 rfl) ?_
  refine lv_aload_n hx hb dL_law_1175 rfl (lv_at hl 0 rfl) ?_
  refine lv_iload hx hb dL_law_1176 (lv_at hl 4 rfl) ?_
  refine lv_iconst (v := 1) hx hb dL_law_1178 (by decide) ?_
  refine lv_iadd hx hb dL_law_1179 ?_
  refine va_sld hx hb hXs hbl hbA hS h1 dL_law_1180 ?_
  refine lv_aload_n hx hb dL_law_1181 rfl (lv_at hl 3 rfl) ?_
  refine g_callW (As := [.ref (gad Γ 475), .int (xs (i + 1).toNatClampNeg), .ref (gad Γ 491)]) (rest := []) (st1 := [.int kk]) hF wrp (vx_cwSW 3 hts gL_law_L_whyNoFill rfl rfl rfl (by decide +kernel) ⟨Nat.le_of_ble_eq_true rfl, Nat.le_of_ble_eq_true rfl⟩) hK hZ hX hY hG hS rfl hl.1 (Nat.le_of_ble_eq_true rfl) dL_law_1182 hc rfl rfl (fun H locs hG hS => ?_)
  refine lv_istore (lv' := [(5, .int kk), (0, .ref b), (1, .ref (gad Γ 475)), (2, .ref (gad Γ 483)), (3, .ref (gad Γ 491)), (4, .int i)]) hx hb dL_law_1185 hl (by decide) rfl (fun ls hl => ?_)
  refine lv_aload_n hx hb dL_law_1187 rfl (lv_at hl 3 rfl) ?_
  refine lv_aload_n hx hb dL_law_1188 rfl (lv_at hl 1 rfl) ?_
  refine lv_iload hx hb dL_law_1189 (lv_at hl 5 rfl) ?_
  refine lv_iconst (v := 1) hx hb dL_law_1191 (by decide) ?_
  refine lv_iadd hx hb dL_law_1192 ?_
  refine va_sld hx hb hXs hbl hbA hS h1 dL_law_1193 ?_
  refine g_callV (As := [.int (xs (i + 1).toNatClampNeg)]) (rest := []) (st1 := [.int bb]) hF ref (cwV 1 hts gL_law_X7_whyNoFill rfl rfl rfl (by decide +kernel) ⟨(by show fr + 1 ≤ 12; omega), (by show 8 + (_ + 11) + lo ≤ 426; omega)⟩) hK hZ hG hS h483 (show gC 483 = (7, 24, 0) from rfl) (by decide) rfl rfl hl.1 (Nat.le_of_ble_eq_true rfl) dL_law_1194 hc rfl rfl (fun H locs hG hS => ?_)
  refine lv_istore (lv' := [(6, .int bb), (5, .int kk), (0, .ref b), (1, .ref (gad Γ 475)), (2, .ref (gad Γ 483)), (3, .ref (gad Γ 491)), (4, .int i)]) hx hb dL_law_1197 hl (by decide) rfl (fun ls hl => ?_)
  refine lv_aload_n hx hb dL_law_1199 rfl (lv_at hl 4 rfl) ?_
  refine g_callV (As := []) (rest := []) (st1 := [.int kk]) hF thr (cwV 0 hts gL_law_X7_thrown rfl rfl rfl (by decide +kernel) ⟨Nat.le_of_ble_eq_true rfl, Nat.le_of_ble_eq_true rfl⟩) hK hZ hG hS h483 (show gC 483 = (7, 24, 0) from rfl) (by decide) rfl rfl hl.1 (Nat.le_of_ble_eq_true rfl) dL_law_1200 hc rfl rfl (fun H locs hG hS => ?_)
  refine lv_iload hx hb dL_law_1203 (lv_at hl 1 rfl) ?_
  refine lv_icmp_eq (tgt := 1210) hx hb dL_law_1205 (by decide) (fun _ => ?_) (fun q => absurd rfl q)
  refine lv_iload hx hb dL_law_1210 (lv_at hl 1 rfl) ?_
  have fin : W p l e room_1 s m args below meth c H locs (cells + 1) (slots + 6) Q (F0 m 1227 ls []) := lv_goto (tgt := 1859) hx hb dL_law_1227 (by decide) (next _ _ _ _ _ _ ⟨hG, hS, lv_sub hl [2, 3, 4, 5, 6] rfl, inv⟩)
  refine lv_if_ne (tgt := 1227) hx hb dL_law_1212 (by decide) (fun _ => fin) (fun q => ?_)
  refine lv_aload_n hx hb dL_law_1215 rfl (lv_at hl 5 rfl) ?_
  refine lv_iconst (v := 0) hx hb dL_law_1216 (by decide) ?_
  refine g_lald hx hb hK hG hcs dL_law_1217 ?_
  refine lv_iload hx hb dL_law_1218 (lv_at hl 0 rfl) ?_
  refine lv_i2l hx hb dL_law_1220 rfl ?_
  refine W.lcmp hx hb dL_law_1221 ?_
  exact gl_eq (tgt := 1227) hx hb dL_law_1222 (by decide) (fun _ => fin) (fun q9 => absurd (heq q) q9)
set_option maxHeartbeats 4000000 in
set_option maxRecDepth 100000 in
theorem lc_ahead {p : Program} {l : Launch} {e : Env} {s : State} {m : MethodId} {args : Array Value} {below : List Frame} {meth : Method} {c : Code} {cells slots : Nat} {Q : State → Prop} {Γ : gX} {b L : Nat} {xs : Nat → Int32} (hst : l.stackTraces = false) (C : LCx p s m args c Γ b L xs) {i : Int32} (h1 : vp_in (i + 1) L) (h2 : vp_in (i + 2) L) (h3 : vp_in (i + 3) L) {u : Nat} (hu : 1998 * (u + 5000) < 2 ^ 31) (hc : cells + 1 ≤ 601024 ∧ slots + 6 ≤ 7293033) {H : Heap} {locs : List Loc} {ls : Array Slot} {R : Nat → Nat → Option Nat} {O : Int64} {Z : Nat → Nat → Int32} (S : LSt s Γ b i u H locs ls R O Z) (next : ∀ (H : Heap) (locs : List Loc) (ls : Array Slot) (R : Nat → Nat → Option Nat) (O : Int64) (Z : Nat → Nat → Int32), LSt s Γ b i (u + 850) H locs ls R O Z → W p l e room_1 s m args below meth c H locs (cells + 1) (slots + 6) Q (F0 m 1859 ls [])) : W p l e room_1 s m args below meth c H locs cells slots Q (F0 m 1230 ls []) := by
  obtain ⟨hx, hb, hml, hown, hts, hXs, hbl, hbA, hK, hZ, hX, hY, hcs, hall⟩ := C
  obtain ⟨hG, hS, hl, hI⟩ := S
  have hF : CallFix p m c cL_law 7 s args wsL_law RL := ⟨hx, hb, hml, hown, hts⟩
  have h483 := hI.g483
  have h475 := hI.g475
  obtain ⟨kk, bb, Z1, Z2, R1, O1, fr, lo, hfr, hlo, wrp, ref, hz, heq, inv⟩ := st_ahead (l := l) (O := O) hst hcs hall hI hu (xs (i + 1).toNatClampNeg) (xs (i + 2).toNatClampNeg)
  have thr := inv.thr (l := l) (O := O1)
  rw [hz] at thr
  refine lv_aload_n hx hb dL_law_1230 rfl (lv_at hl 1 rfl) ?_
  refine lv_aload_n hx hb dL_law_1231 rfl (lv_at hl 0 rfl) ?_
  refine lv_iload hx hb dL_law_1232 (lv_at hl 4 rfl) ?_
  refine lv_iconst (v := 1) hx hb dL_law_1234 (by decide) ?_
  refine lv_iadd hx hb dL_law_1235 ?_
  refine va_sld hx hb hXs hbl hbA hS h1 dL_law_1236 ?_
  refine lv_aload_n hx hb dL_law_1237 rfl (lv_at hl 0 rfl) ?_
  refine lv_iload hx hb dL_law_1238 (lv_at hl 4 rfl) ?_
  refine lv_iconst (v := 2) hx hb dL_law_1240 (by decide) ?_
  refine lv_iadd hx hb dL_law_1241 ?_
  refine va_sld hx hb hXs hbl hbA hS h2 dL_law_1242 ?_
  refine lv_aload_n hx hb dL_law_1243 rfl (lv_at hl 3 rfl) ?_
  refine g_callW (As := [.ref (gad Γ 475), .int (xs (i + 1).toNatClampNeg), .int (xs (i + 2).toNatClampNeg), .ref (gad Γ 491)]) (rest := []) (st1 := [.int kk]) hF wrp (vx_cwSW 4 hts gL_law_L_ahead rfl rfl rfl (by decide +kernel) ⟨Nat.le_of_ble_eq_true rfl, Nat.le_of_ble_eq_true rfl⟩) hK hZ hX hY hG hS rfl hl.1 (Nat.le_of_ble_eq_true rfl) dL_law_1244 hc rfl rfl (fun H locs hG hS => ?_)
  refine lv_istore (lv' := [(5, .int kk), (0, .ref b), (1, .ref (gad Γ 475)), (2, .ref (gad Γ 483)), (3, .ref (gad Γ 491)), (4, .int i)]) hx hb dL_law_1247 hl (by decide) rfl (fun ls hl => ?_)
  refine lv_aload_n hx hb dL_law_1249 rfl (lv_at hl 3 rfl) ?_
  refine lv_aload_n hx hb dL_law_1250 rfl (lv_at hl 1 rfl) ?_
  refine lv_iload hx hb dL_law_1251 (lv_at hl 5 rfl) ?_
  refine lv_iconst (v := 1) hx hb dL_law_1253 (by decide) ?_
  refine lv_iadd hx hb dL_law_1254 ?_
  refine va_sld hx hb hXs hbl hbA hS h1 dL_law_1255 ?_
  refine lv_aload_n hx hb dL_law_1256 rfl (lv_at hl 1 rfl) ?_
  refine lv_iload hx hb dL_law_1257 (lv_at hl 5 rfl) ?_
  refine lv_iconst (v := 2) hx hb dL_law_1259 (by decide) ?_
  refine lv_iadd hx hb dL_law_1260 ?_
  refine va_sld hx hb hXs hbl hbA hS h2 dL_law_1261 ?_
  refine g_callV (As := [.int (xs (i + 1).toNatClampNeg), .int (xs (i + 2).toNatClampNeg)]) (rest := []) (st1 := [.int bb]) hF ref (cwV 2 hts gL_law_X7_ahead rfl rfl rfl (by decide +kernel) ⟨(by show fr + 1 ≤ 12; omega), (by show 8 + (_ + 11) + lo ≤ 426; omega)⟩) hK hZ hG hS h483 (show gC 483 = (7, 24, 0) from rfl) (by decide) rfl rfl hl.1 (Nat.le_of_ble_eq_true rfl) dL_law_1262 hc rfl rfl (fun H locs hG hS => ?_)
  refine lv_istore (lv' := [(6, .int bb), (5, .int kk), (0, .ref b), (1, .ref (gad Γ 475)), (2, .ref (gad Γ 483)), (3, .ref (gad Γ 491)), (4, .int i)]) hx hb dL_law_1265 hl (by decide) rfl (fun ls hl => ?_)
  refine lv_aload_n hx hb dL_law_1267 rfl (lv_at hl 4 rfl) ?_
  refine g_callV (As := []) (rest := []) (st1 := [.int kk]) hF thr (cwV 0 hts gL_law_X7_thrown rfl rfl rfl (by decide +kernel) ⟨Nat.le_of_ble_eq_true rfl, Nat.le_of_ble_eq_true rfl⟩) hK hZ hG hS h483 (show gC 483 = (7, 24, 0) from rfl) (by decide) rfl rfl hl.1 (Nat.le_of_ble_eq_true rfl) dL_law_1268 hc rfl rfl (fun H locs hG hS => ?_)
  refine lv_iload hx hb dL_law_1271 (lv_at hl 1 rfl) ?_
  refine lv_icmp_eq (tgt := 1278) hx hb dL_law_1273 (by decide) (fun _ => ?_) (fun q => absurd rfl q)
  refine lv_iload hx hb dL_law_1278 (lv_at hl 1 rfl) ?_
  have fin : W p l e room_1 s m args below meth c H locs (cells + 1) (slots + 6) Q (F0 m 1295 ls []) := lv_goto (tgt := 1859) hx hb dL_law_1295 (by decide) (next _ _ _ _ _ _ ⟨hG, hS, lv_sub hl [2, 3, 4, 5, 6] rfl, inv⟩)
  refine lv_if_ne (tgt := 1295) hx hb dL_law_1280 (by decide) (fun _ => fin) (fun q => ?_)
  refine lv_aload_n hx hb dL_law_1283 rfl (lv_at hl 5 rfl) ?_
  refine lv_iconst (v := 0) hx hb dL_law_1284 (by decide) ?_
  refine g_lald hx hb hK hG hcs dL_law_1285 ?_
  refine lv_iload hx hb dL_law_1286 (lv_at hl 0 rfl) ?_
  refine lv_i2l hx hb dL_law_1288 rfl ?_
  refine W.lcmp hx hb dL_law_1289 ?_
  exact gl_eq (tgt := 1295) hx hb dL_law_1290 (by decide) (fun _ => fin) (fun q9 => absurd (heq q) q9)
