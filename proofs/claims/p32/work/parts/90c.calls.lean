/-! THE LAW: its calls that are done, by the model's page. -/
def kU (k : Nat) : Nat := if k = 14 then 13 else k
theorem kN_U (k : Nat) : kN k = kU k + 1 := by unfold kN kU; split <;> omega
theorem kU_le {k : Nat} (h : k ≤ 14) : kU k ≤ 13 ∨ kU k ≤ 14 := by unfold kU; split <;> omega
theorem kU_14 {k : Nat} (h : k ≤ 14) : kU k ≤ 14 := by unfold kU; split <;> omega
abbrev CALL (l : Launch) (Γ : gX) (what a d : Int32) (Sh : Heap → Prop) (v : Int32) (Sh1 : Heap → Prop) : Prop := lM l Γ yL_call wsL_call 10 204 1 [.ref (gad Γ 475), .int what, .int a, .int d, .int 0, .int 0] Sh (some (.int v)) Sh1
section Qs
variable {l : Launch} {Γ : gX} {u : Nat} {N : Nat → Int32} {H : Nat → Nat → Int32} {k : Nat} {w : WO}
theorem in_lo {i lo hi : Nat} (h1 : lo ≤ i) (h : i ≤ hi) (hb : hi < 2 ^ 31) : ¬ fX6_within_v (nI i) (nI lo) (nI hi) = 0 := by
  unfold fX6_within_v
  rw [if_neg (nI_nlt (a := i) (b := lo) h1 (by omega)), if_neg (nI_nlt (a := hi) (b := i) h (by omega))]
  decide
theorem seg_ok (hN : PI u N) {s : Nat} (hs : s < (N 0).toNatClampNeg) : ¬ fX7_isSegment_v N (nI s) = 0 := by rw [sg_ok hN]; exact fun q => q (ok_cnt hN.s10 (by decide) rfl hs)
theorem hou_ok (hN : PI u N) {s : Nat} (hs : s < (N 1).toNatClampNeg) : ¬ fX7_isHouse_v N (nI s) = 0 := by rw [ho_ok hN]; exact fun q => q (ok_cnt hN.h8 (by decide) rfl hs)
theorem wag_ok (hN : PI u N) {s : Nat} (hs : s < (N 2).toNatClampNeg) : ¬ fX7_isWagon_v N (nI s) = 0 := by rw [wa_ok hN]; exact fun q => q (ok_cnt hN.w3 (by decide) rfl hs)
theorem q_undo (hN : PI u N) {P : Nat → Int32} (a d : Int32) : CALL l Γ 15 a d (SH Γ P (cons N H) (kN k) w) (nI (kU k)) (SH Γ N H (kU k) w) := by
  rw [kN_U]
  exact lc_tryUndo a d 0 0 (cl_undo (H := cons N H) (k := kU k) hN)
theorem q_undo_nn (hk : k ≤ 14) : ¬ nI (kU k) < 0 := by
  have := kU_14 hk
  exact nI_nlt (b := 0) (Nat.zero_le _) (by omega)
theorem q_ahead (hst : l.stackTraces = false) (hN : PI u N) (hu : 1998 * (u + 5000) < 2 ^ 31) {a d : Int32} {i h : Nat} (ha : a = nI i) (hd : d = nI h) (hi : i < (N 1).toNatClampNeg) (h1 : 1 ≤ h) (h2 : h ≤ 20) : CALL l Γ 17 a d (SH Γ N H k w) (fX7_pass_L N h (82 + 5 * i + 4)) (SH Γ N H k w) := by
  have b1 := hN.h8.2
  subst ha; subst hd
  have hM := cl_ahead (l := l) (Γ := Γ) hst (H := H) (k := k) (w := w) hN hu (nI i) (nI h)
  rw [show vA (rfAhd N (nI i) (nI h)) ecS (v_ahead N (nI i) (nI h)) = fX7_pass_L N h (82 + 5 * i + 4) from by
    unfold vA rfAhd v_ahead
    rw [w_120, if_neg (hou_ok hN hi), if_neg (in_lo (lo := 1) (hi := 20) h1 h2 (by decide)), if_pos rfl, nI_clamp (by omega), nI_clamp (by omega)]] at hM
  exact lc_tryAhead _ _ 0 0 hM
theorem q_when (hst : l.stackTraces = false) (hN : PI u N) (hu : 1998 * (u + 5000) < 2 ^ 31) {a : Int32} {i : Nat} (ha : a = nI i) (d : Int32) (hi : i < (N 1).toNatClampNeg) : CALL l Γ 21 a d (SH Γ N H k w) (v_complainsIn N (nI i)) (SH Γ N H k w) := by
  subst ha
  have hM := cl_complainsIn (l := l) (Γ := Γ) hst (H := H) (k := k) (w := w) hN hu (nI i)
  rw [show vA (rfHs N (nI i)) ecO (v_complainsIn N (nI i)) = v_complainsIn N (nI i) from by
    unfold vA rfHs
    rw [if_neg (hou_ok hN hi), if_pos rfl]] at hM
  exact lc_tryWhen _ d 0 0 hM
theorem q_slow (hst : l.stackTraces = false) (hN : PI u N) (hu : 1998 * (u + 5000) < 2 ^ 31) {a : Int32} {i : Nat} (ha : a = nI i) (d : Int32) (hi : i < (N 1).toNatClampNeg) : CALL l Γ 19 a d (SH Γ N H k w) (v_limitFor N (nI i)) (SH Γ N H k w) := by
  subst ha
  have hM := cl_limitFor (l := l) (Γ := Γ) hst (H := H) (k := k) (w := w) hN hu (nI i)
  rw [show vA (rfHs N (nI i)) ecO (v_limitFor N (nI i)) = v_limitFor N (nI i) from by
    unfold vA rfHs
    rw [if_neg (hou_ok hN hi), if_pos rfl]] at hM
  exact lc_trySlow _ d 0 0 hM
theorem q_water (hst : l.stackTraces = false) (hN : PI u N) (hu : 1998 * (u + 5000) < 2 ^ 31) {a : Int32} {i : Nat} (ha : a = nI i) (d : Int32) (hi : i < (N 1).toNatClampNeg) : CALL l Γ 18 a d (SH Γ N H k w) (v_waterFor N (nI i)) (SH Γ N H k w) := by
  subst ha
  have hM := cl_waterFor (l := l) (Γ := Γ) hst (H := H) (k := k) (w := w) hN hu (nI i)
  rw [show vA (rfHs N (nI i)) ecO (v_waterFor N (nI i)) = v_waterFor N (nI i) from by
    unfold vA rfHs
    rw [if_neg (hou_ok hN hi), if_pos rfl]] at hM
  exact lc_tryWater _ d 0 0 hM
theorem q_best (hst : l.stackTraces = false) (hN : PI u N) (hu : 1998 * (u + 5000) < 2 ^ 31) {a d : Int32} {i h : Nat} (ha : a = nI i) (hd : d = nI h) (hi : i < (N 2).toNatClampNeg) (h1 : 1 ≤ h) (h2 : h ≤ 9) : CALL l Γ 20 a d (SH Γ N H k w) (v_bestSpray N (nI i) (nI h)) (SH Γ N H k w) := by
  subst ha; subst hd
  have hM := cl_bestSpray (l := l) (Γ := Γ) hst (H := H) (k := k) (w := w) hN hu (nI i) (nI h)
  rw [show vA (rfBe N (nI i) (nI h)) ecS (v_bestSpray N (nI i) (nI h)) = v_bestSpray N (nI i) (nI h) from by
    unfold vA rfBe
    rw [w_19, if_neg (wag_ok hN hi), if_neg (in_lo (lo := 1) (hi := 9) h1 h2 (by decide)), if_pos rfl]] at hM
  exact lc_tryBest _ _ 0 0 hM
theorem q_why (hst : l.stackTraces = false) (hN : PI u N) (hu : 1998 * (u + 5000) < 2 ^ 31) {a : Int32} {i : Nat} (ha : a = nI i) (d : Int32) (hi : i < (N 2).toNatClampNeg) : CALL l Γ 16 a d (SH Γ N H k w) (fX7_why_v N i) (SH Γ N H k w) := by
  have b1 := hN.w3.2
  subst ha
  have hM := cl_whyNoFill (l := l) (Γ := Γ) hst (H := H) (k := k) (w := w) hN hu (nI i)
  rw [show vA (rfWh N (nI i)) ecO (v_whyNoFill N (nI i)) = fX7_why_v N i from by
    unfold vA rfWh v_whyNoFill
    rw [if_neg (wag_ok hN hi), if_pos rfl, if_neg (wag_ok hN hi), nI_clamp (by omega)]] at hM
  exact lc_tryWhy _ d 0 0 hM
theorem q_pass (hst : l.stackTraces = false) (hN : PI u N) (hu : 1998 * (u + 5000) < 2 ^ 31) {a : Int32} {h : Nat} (ha : a = nI h) (d : Int32) (h1 : 1 ≤ h) (h2 : h ≤ 50) : CALL l Γ 14 a d (SH Γ N H k w) (fX7_pass_L N h 10 - N 10) (SH Γ (fX7_pass_L N h) (cons N H) (kN k) w) := by
  subst ha
  have hM := cl_pass (l := l) (Γ := Γ) hst (H := H) (k := k) (w := w) hN hu (nI h)
  have c1 : ¬ fX7_in_v (nI h).toInt64 1 50 = 0 := by rw [w_150]; exact in_lo (lo := 1) (hi := 50) h1 h2 (by decide)
  have r0 : rfPA (nI h) = 0 := if_neg c1
  rw [r0, show vA 0 ecA (v_pass N (nI h)) = fX7_pass_L N h 10 - N 10 from by
    unfold vA v_pass
    rw [if_pos rfl, if_neg c1, nI_clamp (by omega)], show n_pass N (nI h) = fX7_pass_L N h from by
    unfold n_pass
    rw [if_neg c1, nI_clamp (by omega)]] at hM
  exact lc_tryPass _ d 0 0 hM
theorem q_limit (hst : l.stackTraces = false) (hN : PI u N) (hu : 1998 * (u + 5000) < 2 ^ 31) {a d : Int32} {s x : Nat} (ha : a = nI s) (hd : d = nI x) (hs : s < (N 0).toNatClampNeg) (h1 : 1 ≤ x) (h2 : x ≤ 5) (h3 : nI x ≤ 5 - N (12 + 7 * s + 2)) : CALL l Γ 9 a d (SH Γ N H k w) (N (12 + 7 * s + 1)) (SH Γ (upd N (12 + 7 * s + 1) (nI x)) (cons N H) (kN k) w) := by
  have b1 := hN.s10.2
  subst ha; subst hd
  have hM := cl_setLimit (l := l) (Γ := Γ) hst (H := H) (k := k) (w := w) hN hu (nI s) (nI x)
  have c1 := seg_ok hN hs
  have c2 : ¬ fX7_in_v (nI x).toInt64 1 5 = 0 := by rw [w_15]; exact in_lo (lo := 1) (hi := 5) h1 h2 (by decide)
  have es : (nI s).toNatClampNeg = s := nI_clamp (by omega)
  have c3 : nI x ≤ 5 - N (12 + 7 * (nI s).toNatClampNeg + 2) := by rw [es]; exact h3
  have r0 : rfSL N (nI s) (nI x) = 0 := by unfold rfSL; rw [if_neg c1, if_neg c2, if_pos c3]
  rw [r0, show vA 0 ecS (v_setLimit N (nI s) (nI x)) = N (12 + 7 * s + 1) from by
    unfold vA v_setLimit
    rw [if_pos rfl, if_neg c1, if_neg c2, if_pos c3, es], show n_setLimit N (nI s) (nI x) = upd N (12 + 7 * s + 1) (nI x) from by
    unfold n_setLimit
    rw [if_neg c1, if_neg c2, if_pos c3, es]] at hM
  exact lc_tryLimit _ _ 0 0 hM
theorem q_bring (hst : l.stackTraces = false) (hN : PI u N) (hu : 1998 * (u + 5000) < 2 ^ 31) {a : Int32} {s : Nat} (ha : a = nI s) (d : Int32) (hs : s < (N 0).toNatClampNeg) (h3 : ¬ N 2 = 3) : CALL l Γ 7 a d (SH Γ N H k w) (N 2) (SH Γ (wgS N (N 2).toNatClampNeg (nI s)) (cons N H) (kN k) w) := by
  subst ha
  have hM := cl_addWagon (l := l) (Γ := Γ) hst (H := H) (k := k) (w := w) hN hu (nI s)
  have c1 := seg_ok hN hs
  have r0 : rfAW N (nI s) = 0 := by unfold rfAW; rw [if_neg c1, if_neg h3]
  rw [r0, show vA 0 ecT (v_addWagon N (nI s)) = N 2 from by
    unfold vA v_addWagon
    rw [if_pos rfl, if_neg c1, if_neg h3, wgS_ref N (nI s) rfl]
    unfold wgS
    rw [pk_us, Int32.add_sub_cancel], show n_addWagon N (nI s) = wgS N (N 2).toNatClampNeg (nI s) from by
    unfold n_addWagon
    rw [if_neg c1, if_neg h3, wgS_ref N (nI s) rfl]] at hM
  exact lc_tryBring _ d 0 0 hM
theorem q_bring_no (hst : l.stackTraces = false) (hN : PI u N) (hu : 1998 * (u + 5000) < 2 ^ 31) {a : Int32} {s : Nat} (ha : a = nI s) (d : Int32) (hs : s < (N 0).toNatClampNeg) (h3 : N 2 = 3) : CALL l Γ 7 a d (SH Γ N H k w) (-9999003) (SH Γ N H k w) := by
  subst ha
  have hM := cl_addWagon (l := l) (Γ := Γ) hst (H := H) (k := k) (w := w) hN hu (nI s)
  have c1 := seg_ok hN hs
  have r0 : rfAW N (nI s) = 2 := by unfold rfAW; rw [if_neg c1, if_pos h3]
  rw [r0, show n_addWagon N (nI s) = N from by
    unfold n_addWagon
    rw [if_neg c1, if_pos h3]] at hM
  exact lc_tryBring _ d 0 0 hM
/-- the page after a wagon i has sprayed x liters -/
theorem q_spray (hst : l.stackTraces = false) (hN : PI u N) (hu : 1998 * (u + 5000) < 2 ^ 31) {a d : Int32} {i x s : Nat} (ha : a = nI i) (hd : d = nI x) (hi : i < (N 2).toNatClampNeg) (h1 : 1 ≤ x) (h2 : x ≤ 9) (hm : ¬ N (122 + 3 * i + 2) = 0) (hl : nI x ≤ N (122 + 3 * i + 1)) (hs : (N (122 + 3 * i)).toNatClampNeg = s) : CALL l Γ 12 a d (SH Γ N H k w) (spS N i s (nI x) (12 + 7 * s + 4)) (SH Γ (spS N i s (nI x)) (cons N H) (kN k) w) := by
  have b1 := hN.w3.2
  have b0 := hN.s10.2
  have i3 : i < 3 := by omega
  have s10 : s < 10 := by have := hN.2.2.2 i i3; omega
  subst ha; subst hd
  have hM := cl_spray (l := l) (Γ := Γ) hst (H := H) (k := k) (w := w) hN hu (nI i) (nI x)
  have c1 := wag_ok hN hi
  have c2 : ¬ fX7_in_v (nI x).toInt64 1 9 = 0 := by rw [w_19]; exact in_lo (lo := 1) (hi := 9) h1 h2 (by decide)
  have es : (nI i).toNatClampNeg = i := nI_clamp (by omega)
  have r0 : rfSP N (nI i) (nI x) = 0 := by unfold rfSP; rw [es, if_neg c1, if_neg c2, if_neg hm, if_pos hl]
  have eP : fX7_sprayOn_P N i (nI x) = spS N i s (nI x) := by rw [spS_ref N i3 s10 hs (nI x), if_neg hm, if_pos hl]
  have e122 : spS N i s (nI x) (122 + 3 * i) = N (122 + 3 * i) := by unfold spS; simp (disch := omega) only [pk_un]
  rw [r0, show vA 0 ecS (v_spray N (nI i) (nI x)) = spS N i s (nI x) (12 + 7 * s + 4) from by
    unfold vA v_spray
    rw [if_pos rfl, es, if_neg c1, if_neg c2, if_neg hm, if_pos hl, eP, e122, hs], show n_spray N (nI i) (nI x) = spS N i s (nI x) from by
    unfold n_spray
    rw [es, if_neg c1, if_neg c2, if_neg hm, if_pos hl, eP]] at hM
  exact lc_trySpray _ _ 0 0 hM
end Qs
