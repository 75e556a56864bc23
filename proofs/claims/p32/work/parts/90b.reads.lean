/-! THE LAW: about, segment, house, wagon. Laid by gen/r90.py. -/
theorem lt_cnt {b i : Nat} {x : Int32} (h : nn b x) (hb : b < 2 ^ 31) (hi : i < x.toNatClampNeg) : ¬ x ≤ nI i := by
  have h2 := h.2
  rw [h.1]
  exact nI_ge hi (by omega)
theorem ge_cnt {b : Nat} {x : Int32} (h : nn b x) (hb : b < 2 ^ 31) : x ≤ nI x.toNatClampNeg := by
  have h2 := h.2
  conv => lhs; rw [h.1]
  exact nI_le (Nat.le_refl _) (by omega)
theorem ok_cnt {b i : Nat} {x y : Int32} (h : nn b x) (hb : b < 2 ^ 31) (hy : y = nI b) (hi : i < x.toNatClampNeg) : okI (nI i) x y := okI_nI (i := i) h.1 hy hi h.2 hb
theorem in_nI {i hi : Nat} (h : i ≤ hi) (hb : hi < 2 ^ 31) : ¬ fX6_within_v (nI i) (nI 0) (nI hi) = 0 := by
  unfold fX6_within_v
  rw [if_neg (nI_nlt (a := i) (b := 0) (Nat.zero_le _) (by omega)), if_neg (nI_nlt (a := hi) (b := i) h (by omega))]
  decide
set_option maxHeartbeats 4000000 in
set_option maxRecDepth 100000 in
theorem lr_about {l : Launch} {Γ : gX} {Sh Sh1 : Heap → Prop} {v : Int32} (a : Int32) (hM : lW l Γ yL_tryAbout wsL_tryAbout [.ref (gad Γ 475), .int a] Sh v Sh1) : lM l Γ yL_about wqL_about 11 230 1 [.ref (gad Γ 475), .int a] (Sh) (some (.int v)) (Sh1) := by
  refine l_start (cc := cL_about) (maxL := 2) (ret := (some .int)) (by decide) rfl (Nat.le_of_ble_eq_true rfl) ?_
  intro p e s m below meth c ls hx hb hml hrt hts hown hlocks hK hZ hX hY hG hS hl
  have hl : lv_has ls 2 [(0, .ref (gad Γ 475)), (1, .int a)] := hl
  have hown : s.vm.findClass RL = some m.cls := hown
  have hF : CallFix p m c cL_about 2 s _ wqL_about RL := ⟨hx, hb, hml, hown, hts⟩
  refine lv_aload_n hx hb dL_about_0 rfl (lv_at hl 0 rfl) ?_
  refine lv_iconst (v := 2) hx hb dL_about_1 (by decide) ?_
  refine lv_iload_n hx hb dL_about_2 rfl (lv_at hl 1 rfl) ?_
  refine lv_iconst (v := 0) hx hb dL_about_3 (by decide) ?_
  refine lv_iconst (v := 0) hx hb dL_about_4 (by decide) ?_
  refine lv_iconst (v := 0) hx hb dL_about_5 (by decide) ?_
  refine l_call (X := 0) (K := 1) (CC := 1) (As := [.ref (gad Γ 475), .int 2, .int a, .int 0, .int 0, .int 0]) (rest := []) (st1 := [.int v]) hF (lc_tryAbout a 0 0 0 hM) (va_cwS 6 hts qL_call rfl rfl rfl (by decide +kernel) ⟨Nat.le_of_ble_eq_true rfl, Nat.le_of_ble_eq_true rfl⟩) hK hZ hX hY hG hS rfl hl.1 (Nat.le_of_ble_eq_true rfl) dL_about_6 ⟨Nat.le_of_ble_eq_true rfl, Nat.le_of_ble_eq_true rfl⟩ (by omega) (by omega) rfl rfl (fun H locs hG hS => ?_)
  exact l_iret hx hb hrt hlocks hS hG rfl (by omega) dL_about_9

set_option maxHeartbeats 4000000 in
set_option maxRecDepth 100000 in
theorem lr_segment {l : Launch} {Γ : gX} {Sh Sh1 : Heap → Prop} {v : Int32} (a d : Int32) (hM : lW l Γ yL_trySegment wsL_trySegment [.ref (gad Γ 475), .int a, .int d] Sh v Sh1) : lM l Γ yL_segment wqL_segment 11 230 1 [.ref (gad Γ 475), .int a, .int d] (Sh) (some (.int v)) (Sh1) := by
  refine l_start (cc := cL_segment) (maxL := 3) (ret := (some .int)) (by decide) rfl (Nat.le_of_ble_eq_true rfl) ?_
  intro p e s m below meth c ls hx hb hml hrt hts hown hlocks hK hZ hX hY hG hS hl
  have hl : lv_has ls 3 [(0, .ref (gad Γ 475)), (1, .int a), (2, .int d)] := hl
  have hown : s.vm.findClass RL = some m.cls := hown
  have hF : CallFix p m c cL_segment 3 s _ wqL_segment RL := ⟨hx, hb, hml, hown, hts⟩
  refine lv_aload_n hx hb dL_segment_0 rfl (lv_at hl 0 rfl) ?_
  refine lv_iconst (v := 3) hx hb dL_segment_1 (by decide) ?_
  refine lv_iload_n hx hb dL_segment_2 rfl (lv_at hl 1 rfl) ?_
  refine lv_iload_n hx hb dL_segment_3 rfl (lv_at hl 2 rfl) ?_
  refine lv_iconst (v := 0) hx hb dL_segment_4 (by decide) ?_
  refine lv_iconst (v := 0) hx hb dL_segment_5 (by decide) ?_
  refine l_call (X := 0) (K := 1) (CC := 1) (As := [.ref (gad Γ 475), .int 3, .int a, .int d, .int 0, .int 0]) (rest := []) (st1 := [.int v]) hF (lc_trySegment a d 0 0 hM) (va_cwS 6 hts qL_call rfl rfl rfl (by decide +kernel) ⟨Nat.le_of_ble_eq_true rfl, Nat.le_of_ble_eq_true rfl⟩) hK hZ hX hY hG hS rfl hl.1 (Nat.le_of_ble_eq_true rfl) dL_segment_6 ⟨Nat.le_of_ble_eq_true rfl, Nat.le_of_ble_eq_true rfl⟩ (by omega) (by omega) rfl rfl (fun H locs hG hS => ?_)
  exact l_iret hx hb hrt hlocks hS hG rfl (by omega) dL_segment_9

set_option maxHeartbeats 4000000 in
set_option maxRecDepth 100000 in
theorem lr_house {l : Launch} {Γ : gX} {Sh Sh1 : Heap → Prop} {v : Int32} (a d : Int32) (hM : lW l Γ yL_tryHouse wsL_tryHouse [.ref (gad Γ 475), .int a, .int d] Sh v Sh1) : lM l Γ yL_house wqL_house 11 230 1 [.ref (gad Γ 475), .int a, .int d] (Sh) (some (.int v)) (Sh1) := by
  refine l_start (cc := cL_house) (maxL := 3) (ret := (some .int)) (by decide) rfl (Nat.le_of_ble_eq_true rfl) ?_
  intro p e s m below meth c ls hx hb hml hrt hts hown hlocks hK hZ hX hY hG hS hl
  have hl : lv_has ls 3 [(0, .ref (gad Γ 475)), (1, .int a), (2, .int d)] := hl
  have hown : s.vm.findClass RL = some m.cls := hown
  have hF : CallFix p m c cL_house 3 s _ wqL_house RL := ⟨hx, hb, hml, hown, hts⟩
  refine lv_aload_n hx hb dL_house_0 rfl (lv_at hl 0 rfl) ?_
  refine lv_iconst (v := 4) hx hb dL_house_1 (by decide) ?_
  refine lv_iload_n hx hb dL_house_2 rfl (lv_at hl 1 rfl) ?_
  refine lv_iload_n hx hb dL_house_3 rfl (lv_at hl 2 rfl) ?_
  refine lv_iconst (v := 0) hx hb dL_house_4 (by decide) ?_
  refine lv_iconst (v := 0) hx hb dL_house_5 (by decide) ?_
  refine l_call (X := 0) (K := 1) (CC := 1) (As := [.ref (gad Γ 475), .int 4, .int a, .int d, .int 0, .int 0]) (rest := []) (st1 := [.int v]) hF (lc_tryHouse a d 0 0 hM) (va_cwS 6 hts qL_call rfl rfl rfl (by decide +kernel) ⟨Nat.le_of_ble_eq_true rfl, Nat.le_of_ble_eq_true rfl⟩) hK hZ hX hY hG hS rfl hl.1 (Nat.le_of_ble_eq_true rfl) dL_house_6 ⟨Nat.le_of_ble_eq_true rfl, Nat.le_of_ble_eq_true rfl⟩ (by omega) (by omega) rfl rfl (fun H locs hG hS => ?_)
  exact l_iret hx hb hrt hlocks hS hG rfl (by omega) dL_house_9

set_option maxHeartbeats 4000000 in
set_option maxRecDepth 100000 in
theorem lr_wagon {l : Launch} {Γ : gX} {Sh Sh1 : Heap → Prop} {v : Int32} (a d : Int32) (hM : lW l Γ yL_tryWagon wsL_tryWagon [.ref (gad Γ 475), .int a, .int d] Sh v Sh1) : lM l Γ yL_wagon wqL_wagon 11 230 1 [.ref (gad Γ 475), .int a, .int d] (Sh) (some (.int v)) (Sh1) := by
  refine l_start (cc := cL_wagon) (maxL := 3) (ret := (some .int)) (by decide) rfl (Nat.le_of_ble_eq_true rfl) ?_
  intro p e s m below meth c ls hx hb hml hrt hts hown hlocks hK hZ hX hY hG hS hl
  have hl : lv_has ls 3 [(0, .ref (gad Γ 475)), (1, .int a), (2, .int d)] := hl
  have hown : s.vm.findClass RL = some m.cls := hown
  have hF : CallFix p m c cL_wagon 3 s _ wqL_wagon RL := ⟨hx, hb, hml, hown, hts⟩
  refine lv_aload_n hx hb dL_wagon_0 rfl (lv_at hl 0 rfl) ?_
  refine lv_iconst (v := 5) hx hb dL_wagon_1 (by decide) ?_
  refine lv_iload_n hx hb dL_wagon_2 rfl (lv_at hl 1 rfl) ?_
  refine lv_iload_n hx hb dL_wagon_3 rfl (lv_at hl 2 rfl) ?_
  refine lv_iconst (v := 0) hx hb dL_wagon_4 (by decide) ?_
  refine lv_iconst (v := 0) hx hb dL_wagon_5 (by decide) ?_
  refine l_call (X := 0) (K := 1) (CC := 1) (As := [.ref (gad Γ 475), .int 5, .int a, .int d, .int 0, .int 0]) (rest := []) (st1 := [.int v]) hF (lc_tryWagon a d 0 0 hM) (va_cwS 6 hts qL_call rfl rfl rfl (by decide +kernel) ⟨Nat.le_of_ble_eq_true rfl, Nat.le_of_ble_eq_true rfl⟩) hK hZ hX hY hG hS rfl hl.1 (Nat.le_of_ble_eq_true rfl) dL_wagon_6 ⟨Nat.le_of_ble_eq_true rfl, Nat.le_of_ble_eq_true rfl⟩ (by omega) (by omega) rfl rfl (fun H locs hG hS => ?_)
  exact l_iret hx hb hrt hlocks hS hG rfl (by omega) dL_wagon_9

/-- the dust of all segments -/
abbrev dAll (N : Nat → Int32) : Int32 := fX7_about_A2 N (fun _ => 0) (N 0).toNatClampNeg
theorem r_about {l : Launch} {Γ : gX} (hst : l.stackTraces = false) {u : Nat} {N : Nat → Int32} {Hy : Nat → Nat → Int32} {k : Nat} {w : WO} (hN : PI u N) (hu : 1998 * (u + 5000) < 2 ^ 31) {a : Int32} {j : Nat} (ha : a = nI j) (hj : j < 12) : lM l Γ yL_about wqL_about 11 230 1 [.ref (gad Γ 475), .int a] (SH Γ N Hy k w) (some (.int (N j))) (SH Γ N Hy k w) := by
  have hM := cl_about (l := l) (Γ := Γ) hst (H := Hy) (k := k) (w := w) hN hu a
  subst ha
  have c1 : ¬ fX7_in_v (nI j).toInt64 0 12 = 0 := by rw [w_012]; exact in_nI (hi := 12) (by omega) (by decide)
  rw [show vA (rfAb (nI j)) ecA (v_about N (nI j)) = N j from by
    unfold vA rfAb v_about
    rw [if_neg c1, if_pos rfl, if_neg c1, if_neg (show ¬ 12 ≤ nI j from nI_ge (a := j) (b := 12) hj (by decide)), nI_clamp (by omega)]] at hM
  exact lr_about _ hM
theorem r_about12 {l : Launch} {Γ : gX} (hst : l.stackTraces = false) {u : Nat} {N : Nat → Int32} {Hy : Nat → Nat → Int32} {k : Nat} {w : WO} (hN : PI u N) (hu : 1998 * (u + 5000) < 2 ^ 31) : lM l Γ yL_about wqL_about 11 230 1 [.ref (gad Γ 475), .int 12] (SH Γ N Hy k w) (some (.int (dAll N))) (SH Γ N Hy k w) := by
  have hM := cl_about (l := l) (Γ := Γ) hst (H := Hy) (k := k) (w := w) hN hu 12
  rw [show vA (rfAb 12) ecA (v_about N 12) = dAll N from rfl] at hM
  exact lr_about _ hM
theorem r_segment {l : Launch} {Γ : gX} (hst : l.stackTraces = false) {u : Nat} {N : Nat → Int32} {Hy : Nat → Nat → Int32} {k : Nat} {w : WO} (hN : PI u N) (hu : 1998 * (u + 5000) < 2 ^ 31) {a d : Int32} {i j : Nat} (ha : a = nI i) (hd : d = nI j) (hi : i < (N 0).toNatClampNeg) (hj : j < 7) : lM l Γ yL_segment wqL_segment 11 230 1 [.ref (gad Γ 475), .int a, .int d] (SH Γ N Hy k w) (some (.int (N (12 + 7 * i + j)))) (SH Γ N Hy k w) := by
  have hM := cl_segment (l := l) (Γ := Γ) hst (H := Hy) (k := k) (w := w) hN hu a d
  have hb := hN.s10.2
  subst ha
  subst hd
  have c1 : ¬ fX7_isSegment_v N (nI i) = 0 := by rw [sg_ok hN]; exact fun q => q (ok_cnt hN.s10 (by decide) rfl hi)
  have c2 : ¬ fX7_in_v (nI j).toInt64 0 6 = 0 := by rw [w_06]; exact in_nI (hi := 6) (by omega) (by decide)
  rw [show vA (rfSg N (nI i) (nI j)) ecS (v_segment N (nI i) (nI j)) = N (12 + 7 * i + j) from by
    unfold vA rfSg v_segment
    rw [if_neg c1, if_neg c2, if_pos rfl, if_neg c1, if_neg c2, nI_clamp (by omega), nI_clamp (by omega)]] at hM
  exact lr_segment _ _ hM
theorem r_house {l : Launch} {Γ : gX} (hst : l.stackTraces = false) {u : Nat} {N : Nat → Int32} {Hy : Nat → Nat → Int32} {k : Nat} {w : WO} (hN : PI u N) (hu : 1998 * (u + 5000) < 2 ^ 31) {a d : Int32} {i j : Nat} (ha : a = nI i) (hd : d = nI j) (hi : i < (N 1).toNatClampNeg) (hj : j < 5) : lM l Γ yL_house wqL_house 11 230 1 [.ref (gad Γ 475), .int a, .int d] (SH Γ N Hy k w) (some (.int (N (82 + 5 * i + j)))) (SH Γ N Hy k w) := by
  have hM := cl_house (l := l) (Γ := Γ) hst (H := Hy) (k := k) (w := w) hN hu a d
  have hb := hN.h8.2
  subst ha
  subst hd
  have c1 : ¬ fX7_isHouse_v N (nI i) = 0 := by rw [ho_ok hN]; exact fun q => q (ok_cnt hN.h8 (by decide) rfl hi)
  have c2 : ¬ fX7_in_v (nI j).toInt64 0 4 = 0 := by rw [w_04]; exact in_nI (hi := 4) (by omega) (by decide)
  rw [show vA (rfHo N (nI i) (nI j)) ecS (v_house N (nI i) (nI j)) = N (82 + 5 * i + j) from by
    unfold vA rfHo v_house
    rw [if_neg c1, if_neg c2, if_pos rfl, if_neg c1, if_neg c2, nI_clamp (by omega), nI_clamp (by omega)]] at hM
  exact lr_house _ _ hM
theorem r_wagon {l : Launch} {Γ : gX} (hst : l.stackTraces = false) {u : Nat} {N : Nat → Int32} {Hy : Nat → Nat → Int32} {k : Nat} {w : WO} (hN : PI u N) (hu : 1998 * (u + 5000) < 2 ^ 31) {a d : Int32} {i j : Nat} (ha : a = nI i) (hd : d = nI j) (hi : i < (N 2).toNatClampNeg) (hj : j < 3) : lM l Γ yL_wagon wqL_wagon 11 230 1 [.ref (gad Γ 475), .int a, .int d] (SH Γ N Hy k w) (some (.int (N (122 + 3 * i + j)))) (SH Γ N Hy k w) := by
  have hM := cl_wagon (l := l) (Γ := Γ) hst (H := Hy) (k := k) (w := w) hN hu a d
  have hb := hN.w3.2
  subst ha
  subst hd
  have c1 : ¬ fX7_isWagon_v N (nI i) = 0 := by rw [wa_ok hN]; exact fun q => q (ok_cnt hN.w3 (by decide) rfl hi)
  have c2 : ¬ fX7_in_v (nI j).toInt64 0 2 = 0 := by rw [w_02]; exact in_nI (hi := 2) (by omega) (by decide)
  rw [show vA (rfWa N (nI i) (nI j)) ecS (v_wagon N (nI i) (nI j)) = N (122 + 3 * i + j) from by
    unfold vA rfWa v_wagon
    rw [if_neg c1, if_neg c2, if_pos rfl, if_neg c1, if_neg c2, nI_clamp (by omega), nI_clamp (by omega)]] at hM
  exact lr_wagon _ _ hM
