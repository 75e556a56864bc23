/-! THE LAW: a turn, all turns. Laid by gen/p31.py. -/
theorem ne_i {y k : Int32} {z : Int} (hk : k.toInt = z) (h : ¬ y = k) : y.toInt ≠ z := fun e => h (Int32.toInt_inj.mp (e.trans hk.symm))
set_option maxHeartbeats 4000000 in
set_option maxRecDepth 100000 in
theorem lc_all {p : Program} {l : Launch} {e : Env} {s : State} {m : MethodId} {args : Array Value} {below : List Frame} {meth : Method} {c : Code} {cells slots : Nat} {Q : State → Prop} {Γ : gX} {b L : Nat} {xs : Nat → Int32} (hst : l.stackTraces = false) (C : LCx p s m args c Γ b L xs) {i : Int32} (h1 : vp_in (i + 1) L) (h2 : vp_in (i + 2) L) (h3 : vp_in (i + 3) L) {u : Nat} (hu : 1998 * (u + 5000) < 2 ^ 31) (hc : cells + 1 ≤ 601024 ∧ slots + 6 ≤ 7293033) {H : Heap} {locs : List Loc} {ls : Array Slot} {R : Nat → Nat → Option Nat} {O : Int64} {Z : Nat → Nat → Int32} (S : LSt s Γ b i u H locs ls R O Z) (next : ∀ (H : Heap) (locs : List Loc) (ls : Array Slot) (R : Nat → Nat → Option Nat) (O : Int64) (Z : Nat → Nat → Int32), LSt s Γ b i (u + 850) H locs ls R O Z → W p l e room_1 s m args below meth c H locs (cells + 1) (slots + 6) Q (F0 m 1859 ls [])) {y : Int32} : W p l e room_1 s m args below meth c H locs cells slots Q (F0 m 39 ls [.int y]) := by
  have hx := C.1
  have hb := C.2.1
  by_cases q0 : y = 0
  · exact lv_tableIn (tgt := 168) hx hb dL_law_39 (by rw [q0]; decide) (by rw [q0]; decide) (by rw [q0]; rfl) (by decide) (lc_append hst C h1 h2 h3 hu hc S next)
  by_cases q1 : y = 1
  · exact lv_tableIn (tgt := 224) hx hb dL_law_39 (by rw [q1]; decide) (by rw [q1]; decide) (by rw [q1]; rfl) (by decide) (lc_clearText hst C h1 h2 h3 hu hc S next)
  by_cases q2 : y = 2
  · exact lv_tableIn (tgt := 237) hx hb dL_law_39 (by rw [q2]; decide) (by rw [q2]; decide) (by rw [q2]; rfl) (by decide) (lc_errorPosition hst C h1 h2 h3 hu hc S next)
  by_cases q3 : y = 3
  · exact lv_tableIn (tgt := 250) hx hb dL_law_39 (by rw [q3]; decide) (by rw [q3]; decide) (by rw [q3]; rfl) (by decide) (lc_load hst C h1 h2 h3 hu hc S next)
  by_cases q4 : y = 4
  · exact lv_tableIn (tgt := 294) hx hb dL_law_39 (by rw [q4]; decide) (by rw [q4]; decide) (by rw [q4]; rfl) (by decide) (lc_about hst C h1 h2 h3 hu hc S next)
  by_cases q5 : y = 5
  · exact lv_tableIn (tgt := 350) hx hb dL_law_39 (by rw [q5]; decide) (by rw [q5]; decide) (by rw [q5]; rfl) (by decide) (lc_segment hst C h1 h2 h3 hu hc S next)
  by_cases q6 : y = 6
  · exact lv_tableIn (tgt := 418) hx hb dL_law_39 (by rw [q6]; decide) (by rw [q6]; decide) (by rw [q6]; rfl) (by decide) (lc_house hst C h1 h2 h3 hu hc S next)
  by_cases q7 : y = 7
  · exact lv_tableIn (tgt := 486) hx hb dL_law_39 (by rw [q7]; decide) (by rw [q7]; decide) (by rw [q7]; rfl) (by decide) (lc_wagon hst C h1 h2 h3 hu hc S next)
  by_cases q8 : y = 8
  · exact lv_tableIn (tgt := 554) hx hb dL_law_39 (by rw [q8]; decide) (by rw [q8]; decide) (by rw [q8]; rfl) (by decide) (lc_addHouse hst C h1 h2 h3 hu hc S next)
  by_cases q9 : y = 9
  · exact lv_tableIn (tgt := 622) hx hb dL_law_39 (by rw [q9]; decide) (by rw [q9]; decide) (by rw [q9]; rfl) (by decide) (lc_addWagon hst C h1 h2 h3 hu hc S next)
  by_cases q10 : y = 10
  · exact lv_tableIn (tgt := 678) hx hb dL_law_39 (by rw [q10]; decide) (by rw [q10]; decide) (by rw [q10]; rfl) (by decide) (lc_setSurface hst C h1 h2 h3 hu hc S next)
  by_cases q11 : y = 11
  · exact lv_tableIn (tgt := 746) hx hb dL_law_39 (by rw [q11]; decide) (by rw [q11]; decide) (by rw [q11]; rfl) (by decide) (lc_setLimit hst C h1 h2 h3 hu hc S next)
  by_cases q12 : y = 12
  · exact lv_tableIn (tgt := 814) hx hb dL_law_39 (by rw [q12]; decide) (by rw [q12]; decide) (by rw [q12]; rfl) (by decide) (lc_set hst C h1 h2 h3 hu hc S next)
  by_cases q13 : y = 13
  · exact lv_tableIn (tgt := 882) hx hb dL_law_39 (by rw [q13]; decide) (by rw [q13]; decide) (by rw [q13]; rfl) (by decide) (lc_drive hst C h1 h2 h3 hu hc S next)
  by_cases q14 : y = 14
  · exact lv_tableIn (tgt := 950) hx hb dL_law_39 (by rw [q14]; decide) (by rw [q14]; decide) (by rw [q14]; rfl) (by decide) (lc_spray hst C h1 h2 h3 hu hc S next)
  by_cases q15 : y = 15
  · exact lv_tableIn (tgt := 1018) hx hb dL_law_39 (by rw [q15]; decide) (by rw [q15]; decide) (by rw [q15]; rfl) (by decide) (lc_fill hst C h1 h2 h3 hu hc S next)
  by_cases q16 : y = 16
  · exact lv_tableIn (tgt := 1074) hx hb dL_law_39 (by rw [q16]; decide) (by rw [q16]; decide) (by rw [q16]; rfl) (by decide) (lc_pass hst C h1 h2 h3 hu hc S next)
  by_cases q17 : y = 17
  · exact lv_tableIn (tgt := 1130) hx hb dL_law_39 (by rw [q17]; decide) (by rw [q17]; decide) (by rw [q17]; rfl) (by decide) (lc_undo hst C h1 h2 h3 hu hc S next)
  by_cases q18 : y = 18
  · exact lv_tableIn (tgt := 1174) hx hb dL_law_39 (by rw [q18]; decide) (by rw [q18]; decide) (by rw [q18]; rfl) (by decide) (lc_whyNoFill hst C h1 h2 h3 hu hc S next)
  by_cases q19 : y = 19
  · exact lv_tableIn (tgt := 1230) hx hb dL_law_39 (by rw [q19]; decide) (by rw [q19]; decide) (by rw [q19]; rfl) (by decide) (lc_ahead hst C h1 h2 h3 hu hc S next)
  by_cases q20 : y = 20
  · exact lv_tableIn (tgt := 1298) hx hb dL_law_39 (by rw [q20]; decide) (by rw [q20]; decide) (by rw [q20]; rfl) (by decide) (lc_waterFor hst C h1 h2 h3 hu hc S next)
  by_cases q21 : y = 21
  · exact lv_tableIn (tgt := 1354) hx hb dL_law_39 (by rw [q21]; decide) (by rw [q21]; decide) (by rw [q21]; rfl) (by decide) (lc_limitFor hst C h1 h2 h3 hu hc S next)
  by_cases q22 : y = 22
  · exact lv_tableIn (tgt := 1410) hx hb dL_law_39 (by rw [q22]; decide) (by rw [q22]; decide) (by rw [q22]; rfl) (by decide) (lc_bestSpray hst C h1 h2 h3 hu hc S next)
  by_cases q23 : y = 23
  · exact lv_tableIn (tgt := 1478) hx hb dL_law_39 (by rw [q23]; decide) (by rw [q23]; decide) (by rw [q23]; rfl) (by decide) (lc_complainsIn hst C h1 h2 h3 hu hc S next)
  by_cases q24 : y = 24
  · exact lv_tableIn (tgt := 1534) hx hb dL_law_39 (by rw [q24]; decide) (by rw [q24]; decide) (by rw [q24]; rfl) (by decide) (lc_dustiest hst C h1 h2 h3 hu hc S next)
  by_cases q25 : y = 25
  · exact lv_tableIn (tgt := 1547) hx hb dL_law_39 (by rw [q25]; decide) (by rw [q25]; decide) (by rw [q25]; rfl) (by decide) (lc_runScript hst C h1 h2 h3 hu hc S next)
  by_cases q26 : y = 26
  · exact lv_tableIn (tgt := 1647) hx hb dL_law_39 (by rw [q26]; decide) (by rw [q26]; decide) (by rw [q26]; rfl) (by decide) (lc_simulate hst C h1 h2 h3 hu hc S next)
  by_cases q27 : y = 27
  · exact lv_tableIn (tgt := 1747) hx hb dL_law_39 (by rw [q27]; decide) (by rw [q27]; decide) (by rw [q27]; rfl) (by decide) (lc_save hst C h1 h2 h3 hu hc S next)
  by_cases q28 : y = 28
  · exact lv_tableIn (tgt := 1803) hx hb dL_law_39 (by rw [q28]; decide) (by rw [q28]; decide) (by rw [q28]; rfl) (by decide) (lc_restore hst C h1 h2 h3 hu hc S next)
  have z0 := ne_i (z := 0) (by decide) q0
  have z1 := ne_i (z := 1) (by decide) q1
  have z2 := ne_i (z := 2) (by decide) q2
  have z3 := ne_i (z := 3) (by decide) q3
  have z4 := ne_i (z := 4) (by decide) q4
  have z5 := ne_i (z := 5) (by decide) q5
  have z6 := ne_i (z := 6) (by decide) q6
  have z7 := ne_i (z := 7) (by decide) q7
  have z8 := ne_i (z := 8) (by decide) q8
  have z9 := ne_i (z := 9) (by decide) q9
  have z10 := ne_i (z := 10) (by decide) q10
  have z11 := ne_i (z := 11) (by decide) q11
  have z12 := ne_i (z := 12) (by decide) q12
  have z13 := ne_i (z := 13) (by decide) q13
  have z14 := ne_i (z := 14) (by decide) q14
  have z15 := ne_i (z := 15) (by decide) q15
  have z16 := ne_i (z := 16) (by decide) q16
  have z17 := ne_i (z := 17) (by decide) q17
  have z18 := ne_i (z := 18) (by decide) q18
  have z19 := ne_i (z := 19) (by decide) q19
  have z20 := ne_i (z := 20) (by decide) q20
  have z21 := ne_i (z := 21) (by decide) q21
  have z22 := ne_i (z := 22) (by decide) q22
  have z23 := ne_i (z := 23) (by decide) q23
  have z24 := ne_i (z := 24) (by decide) q24
  have z25 := ne_i (z := 25) (by decide) q25
  have z26 := ne_i (z := 26) (by decide) q26
  have z27 := ne_i (z := 27) (by decide) q27
  have z28 := ne_i (z := 28) (by decide) q28
  refine lv_tableOut (tgt := 1859) hx hb dL_law_39 (by omega) (by decide) ?_
  refine W.widen (k := cells + 1) (n := slots + 6) (by omega) (by omega) ?_
  exact next _ _ _ _ _ _ ⟨S.1, S.2.1, S.2.2.1, S.2.2.2.le (by omega)⟩
set_option maxHeartbeats 4000000 in
set_option maxRecDepth 100000 in
theorem law_step {p : Program} {l : Launch} {e : Env} {s : State} {m : MethodId} {args : Array Value} {below : List Frame} {meth : Method} {c : Code} {Q : State → Prop} {Γ : gX} {b L : Nat} {xs : Nat → Int32} (hst : l.stackTraces = false) (C : LCx p s m args c Γ b L xs) (hL : L ≤ 2048) (hend : ∀ (H : Heap) (locs : List Loc) (cells slots : Nat) (ls : Array Slot), va_S (gA Γ) s.heap H locs → cells ≤ 601024 → slots ≤ 7293033 → W p l e room_1 s m args below meth c H locs cells slots Q (F0 m 1865 ls [])) {t cells slots : Nat} (ht : t ≤ 512) (hce : cells ≤ 601024 ∧ slots ≤ 7293033) (hc : t < 512 → cells + 1 ≤ 601024 ∧ slots + 6 ≤ 7293033) (next : t < 512 → ∀ (H : Heap) (locs : List Loc) (ls : Array Slot) (R : Nat → Nat → Option Nat) (O : Int64) (Z : Nat → Nat → Int32), LSt s Γ b (nI (4 * (t + 1))) (850 * (t + 1)) H locs ls R O Z → W p l e room_1 s m args below meth c H locs (cells + 1) (slots + 6) Q (F0 m 23 ls [])) {H : Heap} {locs : List Loc} {ls : Array Slot} {R : Nat → Nat → Option Nat} {O : Int64} {Z : Nat → Nat → Int32} (S : LSt s Γ b (nI (4 * t)) (850 * t) H locs ls R O Z) : W p l e room_1 s m args below meth c H locs cells slots Q (F0 m 23 ls []) := by
  have C0 := C
  have S0 := S
  obtain ⟨hx, hb, hml, hown, hts, hXs, hbl, hbA, hK, hZ, hX, hY, hcs, hall⟩ := C0
  obtain ⟨hG, hS, hl, hI⟩ := S0
  refine lv_iload hx hb dL_law_23 (lv_at hl 4 rfl) ?_
  refine lv_aload_n hx hb dL_law_25 rfl (lv_at hl 0 rfl) ?_
  refine va_slen hx hb hXs hbl hbA hS dL_law_26 ?_
  refine lv_iconst (v := 4) hx hb dL_law_27 (by decide) ?_
  refine lv_isub hx hb dL_law_28 ?_
  refine lv_icmp_gt (tgt := 1865) hx hb dL_law_29 (by decide) (fun _ => hend _ _ _ _ _ hS hce.1 hce.2) (fun q => ?_)
  have h4 : 4 * t + 4 ≤ L := by
    rcases Nat.lt_or_ge L (4 * t + 4) with z | z
    · exfalso
      apply q
      show nI L - nI 4 < nI (4 * t)
      rw [Int32.lt_iff_toInt_lt, pk_sub_toInt (by omega) (by omega), nI_toInt (by omega)]
      omega
    · exact z
  have hin : ∀ k, k < 4 → vp_in (nI (4 * t) + nI k) L := fun k hk => by rw [nI_add]; exact vp_in_nI (by omega) (by omega)
  refine lv_aload_n hx hb dL_law_32 rfl (lv_at hl 0 rfl) ?_
  refine lv_iload hx hb dL_law_33 (lv_at hl 4 rfl) ?_
  refine va_sld hx hb hXs hbl hbA hS (vp_in_nI (by omega) (by omega)) dL_law_35 ?_
  refine lv_bipush (v := 31) hx hb dL_law_36 (by decide) ?_
  refine lv_iand hx hb dL_law_38 ?_
  refine lc_all hst C (hin 1 (by decide)) (hin 2 (by decide)) (hin 3 (by decide)) (by omega) (hc (by omega)) S (fun H locs ls R O Z S => ?_)
  obtain ⟨hG, hS, hl, hI⟩ := S
  refine lv_iinc (k := 4) (v := nI (4 * (t + 1))) (lv' := [(4, .int (nI (4 * (t + 1)))), (0, .ref b), (1, .ref (gad Γ 475)), (2, .ref (gad Γ 483)), (3, .ref (gad Γ 491))]) hx hb dL_law_1859 hl rfl (nI_add (4 * t) 4) (by decide) rfl (fun ls hl => ?_)
  refine lv_goto (tgt := 23) hx hb dL_law_1862 (by decide) ?_
  exact next (by omega) _ _ _ _ _ _ ⟨hG, hS, lv_sub hl [1, 2, 3, 4, 0] rfl, hI⟩
theorem law_loop {p : Program} {l : Launch} {e : Env} {s : State} {m : MethodId} {args : Array Value} {below : List Frame} {meth : Method} {c : Code} {Q : State → Prop} {Γ : gX} {b L : Nat} {xs : Nat → Int32} (hst : l.stackTraces = false) (C : LCx p s m args c Γ b L xs) (hL : L ≤ 2048) (hend : ∀ (H : Heap) (locs : List Loc) (cells slots : Nat) (ls : Array Slot), va_S (gA Γ) s.heap H locs → cells ≤ 601024 → slots ≤ 7293033 → W p l e room_1 s m args below meth c H locs cells slots Q (F0 m 1865 ls [])) : ∀ (n t : Nat), t + n = 512 → ∀ (cells slots : Nat), cells + n ≤ 601024 → slots + 6 * n ≤ 7293033 → ∀ (H : Heap) (locs : List Loc) (ls : Array Slot) (R : Nat → Nat → Option Nat) (O : Int64) (Z : Nat → Nat → Int32), LSt s Γ b (nI (4 * t)) (850 * t) H locs ls R O Z → W p l e room_1 s m args below meth c H locs cells slots Q (F0 m 23 ls [])
  | 0, t, ht, cells, slots, h1, h2, H, locs, ls, R, O, Z, S => law_step hst C hL hend (t := t) (by omega) ⟨by omega, by omega⟩ (fun q => absurd q (by omega)) (fun q => absurd q (by omega)) S
  | n + 1, t, ht, cells, slots, h1, h2, H, locs, ls, R, O, Z, S => law_step hst C hL hend (t := t) (by omega) ⟨by omega, by omega⟩ (fun _ => ⟨by omega, by omega⟩) (fun _ H locs ls R O Z S => law_loop hst C hL hend n (t + 1) (by omega) (cells + 1) (slots + 6) (by omega) (by omega) H locs ls R O Z S) S
