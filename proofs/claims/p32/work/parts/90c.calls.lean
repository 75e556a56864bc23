/-! THE LAW: its calls that are done, by the model's page. -/
/-- how many states are remembered: at most d, then n more -/
def kM (d k : Nat) : Nat := if k ≤ d then k else d
theorem kM_le (d k : Nat) : kM d k ≤ d := by unfold kM; split <;> omega
theorem kN_0 {k : Nat} (h : k ≤ 14) : kN k = kM 13 k + 1 := by unfold kN kM; split <;> split <;> omega
theorem kN_M {d d' n k : Nat} (h : d' = if d + n = 14 then d - 1 else d) (h2 : d + n ≤ 14) (h1 : 1 ≤ d) : kN (kM d k + n) = kM d' k + (n + 1) := by
  unfold kN
  by_cases z : d + n = 14
  · rw [if_pos z] at h
    subst h
    by_cases a : k ≤ d
    · rw [show kM d k = k from if_pos a]
      by_cases b : k ≤ d - 1
      · rw [show kM (d - 1) k = k from if_pos b, if_neg (by omega)]; omega
      · rw [show kM (d - 1) k = d - 1 from if_neg b, if_pos (by omega)]; omega
    · rw [show kM d k = d from if_neg a, show kM (d - 1) k = d - 1 from if_neg (by omega), if_pos (by omega)]; omega
  · rw [if_neg z] at h
    subst h
    have := kM_le d' k
    rw [if_neg (by omega)]; omega
theorem kM_nn (d n k : Nat) (h : d + n < 100) : ¬ nI (kM d k + n) < 0 := by
  have := kM_le d k
  exact nI_nlt (b := 0) (Nat.zero_le _) (by omega)
abbrev CALL (l : Launch) (Γ : gX) (what a d : Int32) (Sh : Heap → Prop) (v : Int32) (Sh1 : Heap → Prop) : Prop := lM l Γ yL_call wqL_call 10 204 1 [.ref (gad Γ 475), .int what, .int a, .int d, .int 0, .int 0] Sh (some (.int v)) Sh1
section Qs
variable {l : Launch} {Γ : gX} {u : Nat} {N : Nat → Int32} {Hy : Nat → Nat → Int32} {k : Nat} {w : WO}
theorem in_lo {i lo hi : Nat} (h1 : lo ≤ i) (h : i ≤ hi) (hb : hi < 2 ^ 31) : ¬ fX6_within_v (nI i) (nI lo) (nI hi) = 0 := by
  unfold fX6_within_v
  rw [if_neg (nI_nlt (a := i) (b := lo) h1 (by omega)), if_neg (nI_nlt (a := hi) (b := i) h (by omega))]
  decide
theorem seg_ok (hN : PI u N) {s : Nat} (hs : s < (N 0).toNatClampNeg) : ¬ fX7_isSegment_v N (nI s) = 0 := by rw [sg_ok hN]; exact fun q => q (ok_cnt hN.s10 (by decide) rfl hs)
theorem hou_ok (hN : PI u N) {s : Nat} (hs : s < (N 1).toNatClampNeg) : ¬ fX7_isHouse_v N (nI s) = 0 := by rw [ho_ok hN]; exact fun q => q (ok_cnt hN.h8 (by decide) rfl hs)
theorem wag_ok (hN : PI u N) {s : Nat} (hs : s < (N 2).toNatClampNeg) : ¬ fX7_isWagon_v N (nI s) = 0 := by rw [wa_ok hN]; exact fun q => q (ok_cnt hN.w3 (by decide) rfl hs)
theorem q_undo (hN : PI u N) {P : Nat → Int32} (a d : Int32) : CALL l Γ 15 a d (SH Γ P (cons N Hy) (k + 1) w) (nI k) (SH Γ N Hy k w) := lc_tryUndo a d 0 0 (cl_undo (H := cons N Hy) (k := k) hN)
theorem q_ahead (hst : l.stackTraces = false) (hN : PI u N) (hu : 1998 * (u + 5000) < 2 ^ 31) {a d : Int32} {i h : Nat} (ha : a = nI i) (hd : d = nI h) (hi : i < (N 1).toNatClampNeg) (h1 : 1 ≤ h) (h2 : h ≤ 20) : CALL l Γ 17 a d (SH Γ N Hy k w) (fX7_pass_L N h (82 + 5 * i + 4)) (SH Γ N Hy k w) := by
  have b1 := hN.h8.2
  subst ha; subst hd
  have hM := cl_ahead (l := l) (Γ := Γ) hst (H := Hy) (k := k) (w := w) hN hu (nI i) (nI h)
  rw [show vA (rfAhd N (nI i) (nI h)) ecS (v_ahead N (nI i) (nI h)) = fX7_pass_L N h (82 + 5 * i + 4) from by
    unfold vA rfAhd v_ahead
    rw [w_120, if_neg (hou_ok hN hi), if_neg (show ¬ fX6_within_v (nI h) 1 20 = 0 from in_lo (lo := 1) (hi := 20) h1 h2 (by decide)), if_pos rfl, nI_clamp (by omega), nI_clamp (by omega)]] at hM
  exact lc_tryAhead _ _ 0 0 hM
theorem q_when (hst : l.stackTraces = false) (hN : PI u N) (hu : 1998 * (u + 5000) < 2 ^ 31) {a : Int32} {i : Nat} (ha : a = nI i) (d : Int32) (hi : i < (N 1).toNatClampNeg) : CALL l Γ 21 a d (SH Γ N Hy k w) (v_complainsIn N (nI i)) (SH Γ N Hy k w) := by
  subst ha
  have hM := cl_complainsIn (l := l) (Γ := Γ) hst (H := Hy) (k := k) (w := w) hN hu (nI i)
  rw [show vA (rfHs N (nI i)) ecO (v_complainsIn N (nI i)) = v_complainsIn N (nI i) from by
    unfold vA rfHs
    rw [if_neg (hou_ok hN hi), if_pos rfl]] at hM
  exact lc_tryWhen _ d 0 0 hM
theorem q_slow (hst : l.stackTraces = false) (hN : PI u N) (hu : 1998 * (u + 5000) < 2 ^ 31) {a : Int32} {i : Nat} (ha : a = nI i) (d : Int32) (hi : i < (N 1).toNatClampNeg) : CALL l Γ 19 a d (SH Γ N Hy k w) (v_limitFor N (nI i)) (SH Γ N Hy k w) := by
  subst ha
  have hM := cl_limitFor (l := l) (Γ := Γ) hst (H := Hy) (k := k) (w := w) hN hu (nI i)
  rw [show vA (rfHs N (nI i)) ecO (v_limitFor N (nI i)) = v_limitFor N (nI i) from by
    unfold vA rfHs
    rw [if_neg (hou_ok hN hi), if_pos rfl]] at hM
  exact lc_trySlow _ d 0 0 hM
theorem q_water (hst : l.stackTraces = false) (hN : PI u N) (hu : 1998 * (u + 5000) < 2 ^ 31) {a : Int32} {i : Nat} (ha : a = nI i) (d : Int32) (hi : i < (N 1).toNatClampNeg) : CALL l Γ 18 a d (SH Γ N Hy k w) (v_waterFor N (nI i)) (SH Γ N Hy k w) := by
  subst ha
  have hM := cl_waterFor (l := l) (Γ := Γ) hst (H := Hy) (k := k) (w := w) hN hu (nI i)
  rw [show vA (rfHs N (nI i)) ecO (v_waterFor N (nI i)) = v_waterFor N (nI i) from by
    unfold vA rfHs
    rw [if_neg (hou_ok hN hi), if_pos rfl]] at hM
  exact lc_tryWater _ d 0 0 hM
theorem q_best (hst : l.stackTraces = false) (hN : PI u N) (hu : 1998 * (u + 5000) < 2 ^ 31) {a d : Int32} {i h : Nat} (ha : a = nI i) (hd : d = nI h) (hi : i < (N 2).toNatClampNeg) (h1 : 1 ≤ h) (h2 : h ≤ 9) : CALL l Γ 20 a d (SH Γ N Hy k w) (v_bestSpray N (nI i) (nI h)) (SH Γ N Hy k w) := by
  subst ha; subst hd
  have hM := cl_bestSpray (l := l) (Γ := Γ) hst (H := Hy) (k := k) (w := w) hN hu (nI i) (nI h)
  rw [show vA (rfBe N (nI i) (nI h)) ecS (v_bestSpray N (nI i) (nI h)) = v_bestSpray N (nI i) (nI h) from by
    unfold vA rfBe
    rw [w_19, if_neg (wag_ok hN hi), if_neg (show ¬ fX6_within_v (nI h) 1 9 = 0 from in_lo (lo := 1) (hi := 9) h1 h2 (by decide)), if_pos rfl]] at hM
  exact lc_tryBest _ _ 0 0 hM
theorem q_why (hst : l.stackTraces = false) (hN : PI u N) (hu : 1998 * (u + 5000) < 2 ^ 31) {a : Int32} {i : Nat} (ha : a = nI i) (d : Int32) (hi : i < (N 2).toNatClampNeg) : CALL l Γ 16 a d (SH Γ N Hy k w) (fX7_why_v N i) (SH Γ N Hy k w) := by
  have b1 := hN.w3.2
  subst ha
  have hM := cl_whyNoFill (l := l) (Γ := Γ) hst (H := Hy) (k := k) (w := w) hN hu (nI i)
  rw [show vA (rfWh N (nI i)) ecO (v_whyNoFill N (nI i)) = fX7_why_v N i from by
    unfold vA rfWh v_whyNoFill
    rw [if_neg (wag_ok hN hi), if_pos rfl, if_neg (wag_ok hN hi), nI_clamp (by omega)]] at hM
  exact lc_tryWhy _ d 0 0 hM
theorem q_pass (hst : l.stackTraces = false) (hN : PI u N) (hu : 1998 * (u + 5000) < 2 ^ 31) {a : Int32} {h : Nat} (ha : a = nI h) (d : Int32) (h1 : 1 ≤ h) (h2 : h ≤ 50) {K : Nat} (eK : kN k = K) : CALL l Γ 14 a d (SH Γ N Hy k w) (fX7_pass_L N h 10 - N 10) (SH Γ (fX7_pass_L N h) (cons N Hy) K w) := by
  subst ha; subst eK
  have hM := cl_pass (l := l) (Γ := Γ) hst (H := Hy) (k := k) (w := w) hN hu (nI h)
  have c1 : ¬ fX7_in_v (nI h).toInt64 1 50 = 0 := by rw [w_150]; exact in_lo (lo := 1) (hi := 50) h1 h2 (by decide)
  have r0 : rfPA (nI h) = 0 := if_neg c1
  rw [r0, show vA 0 ecA (v_pass N (nI h)) = fX7_pass_L N h 10 - N 10 from by
    unfold vA v_pass
    rw [if_pos rfl, if_neg c1, nI_clamp (by omega)], show n_pass N (nI h) = fX7_pass_L N h from by
    unfold n_pass
    rw [if_neg c1, nI_clamp (by omega)]] at hM
  exact lc_tryPass _ d 0 0 hM
theorem q_limit (hst : l.stackTraces = false) (hN : PI u N) (hu : 1998 * (u + 5000) < 2 ^ 31) {a d : Int32} {s x : Nat} (ha : a = nI s) (hd : d = nI x) (hs : s < (N 0).toNatClampNeg) (h1 : 1 ≤ x) (h2 : x ≤ 5) (h3 : nI x ≤ 5 - N (12 + 7 * s + 2)) {K : Nat} (eK : kN k = K) : CALL l Γ 9 a d (SH Γ N Hy k w) (N (12 + 7 * s + 1)) (SH Γ (upd N (12 + 7 * s + 1) (nI x)) (cons N Hy) K w) := by
  have b1 := hN.s10.2
  subst ha; subst hd; subst eK
  have hM := cl_setLimit (l := l) (Γ := Γ) hst (H := Hy) (k := k) (w := w) hN hu (nI s) (nI x)
  have c1 := seg_ok hN hs
  have c2 : ¬ fX7_in_v (nI x).toInt64 1 5 = 0 := by rw [w_15]; exact in_lo (lo := 1) (hi := 5) h1 h2 (by decide)
  have es : (nI s).toNatClampNeg = s := nI_clamp (by omega)
  have c3 : nI x ≤ 5 - N (12 + 7 * (nI s).toNatClampNeg + 2) := by rw [es]; exact h3
  have r0 : rfSL N (nI s) (nI x) = 0 := by unfold rfSL; rw [if_neg c1, if_neg c2, if_pos c3]
  rw [r0, show vA 0 ecS (v_setLimit N (nI s) (nI x)) = N (12 + 7 * s + 1) from by
    unfold vA v_setLimit
    rw [if_pos rfl, if_neg c1, if_neg c2, if_pos c3, es], show n_setLimit N (nI s) (nI x) = upd N (12 + 7 * s + 1) (nI x) from by
    unfold n_setLimit
    rw [if_neg c1, if_neg c2, if_pos c3, es]] at hM
  exact lc_tryLimit _ _ 0 0 hM
theorem q_bring (hst : l.stackTraces = false) (hN : PI u N) (hu : 1998 * (u + 5000) < 2 ^ 31) {a : Int32} {s : Nat} (ha : a = nI s) (d : Int32) (hs : s < (N 0).toNatClampNeg) (h3 : ¬ N 2 = 3) {K : Nat} (eK : kN k = K) : CALL l Γ 7 a d (SH Γ N Hy k w) (N 2) (SH Γ (wgS N (N 2).toNatClampNeg (nI s)) (cons N Hy) K w) := by
  subst ha; subst eK
  have hM := cl_addWagon (l := l) (Γ := Γ) hst (H := Hy) (k := k) (w := w) hN hu (nI s)
  have c1 := seg_ok hN hs
  have r0 : rfAW N (nI s) = 0 := by unfold rfAW; rw [if_neg c1, if_neg h3]
  rw [r0, show vA 0 ecT (v_addWagon N (nI s)) = N 2 from by
    unfold vA v_addWagon
    rw [if_pos rfl, if_neg c1, if_neg h3, wgS_ref N (nI s) rfl]
    unfold wgS
    rw [pk_us, Int32.add_sub_cancel], show n_addWagon N (nI s) = wgS N (N 2).toNatClampNeg (nI s) from by
    unfold n_addWagon
    rw [if_neg c1, if_neg h3, wgS_ref N (nI s) rfl]] at hM
  exact lc_tryBring _ d 0 0 hM
theorem q_bring_no (hst : l.stackTraces = false) (hN : PI u N) (hu : 1998 * (u + 5000) < 2 ^ 31) {a : Int32} {s : Nat} (ha : a = nI s) (d : Int32) (hs : s < (N 0).toNatClampNeg) (h3 : N 2 = 3) : CALL l Γ 7 a d (SH Γ N Hy k w) (-9999003) (SH Γ N Hy k w) := by
  subst ha
  have hM := cl_addWagon (l := l) (Γ := Γ) hst (H := Hy) (k := k) (w := w) hN hu (nI s)
  have c1 := seg_ok hN hs
  have r0 : rfAW N (nI s) = 2 := by unfold rfAW; rw [if_neg c1, if_pos h3]
  rw [r0, show n_addWagon N (nI s) = N from by
    unfold n_addWagon
    rw [if_neg c1, if_pos h3]] at hM
  exact lc_tryBring _ d 0 0 hM
/-- the page after a wagon i has sprayed x liters -/
theorem q_spray (hst : l.stackTraces = false) (hN : PI u N) (hu : 1998 * (u + 5000) < 2 ^ 31) {a d : Int32} {i x s : Nat} (ha : a = nI i) (hd : d = nI x) (hi : i < (N 2).toNatClampNeg) (h1 : 1 ≤ x) (h2 : x ≤ 9) (hm : ¬ N (122 + 3 * i + 2) = 0) (hl : nI x ≤ N (122 + 3 * i + 1)) (hs : (N (122 + 3 * i)).toNatClampNeg = s) {K : Nat} (eK : kN k = K) : CALL l Γ 12 a d (SH Γ N Hy k w) (spS N i s (nI x) (12 + 7 * s + 4)) (SH Γ (spS N i s (nI x)) (cons N Hy) K w) := by
  have b1 := hN.w3.2
  have b0 := hN.s10.2
  have i3 : i < 3 := by omega
  have s10 : s < 10 := by have := hN.2.2.2 i i3; omega
  subst ha; subst hd; subst eK
  have hM := cl_spray (l := l) (Γ := Γ) hst (H := Hy) (k := k) (w := w) hN hu (nI i) (nI x)
  have c1 := wag_ok hN hi
  have c2 : ¬ fX7_in_v (nI x).toInt64 1 9 = 0 := by rw [w_19]; exact in_lo (lo := 1) (hi := 9) h1 h2 (by decide)
  have es : (nI i).toNatClampNeg = i := nI_clamp (by omega)
  have r0 : rfSP N (nI i) (nI x) = 0 := by unfold rfSP; rw [es, if_neg c1, if_neg c2, if_neg hm, if_pos hl]
  have eP : fX7_sprayOn_P N i (nI x) = spS N i s (nI x) := by rw [spS_ref N i3 s10 hs (nI x), if_neg hm, if_pos hl]
  have e122 : spS N i s (nI x) (122 + 3 * i) = N (122 + 3 * i) := by unfold spS; simp (disch := omega) only [pk_un]
  rw [r0, show vA 0 ecS (v_spray N (nI i) (nI x)) = spS N i s (nI x) (12 + 7 * s + 4) from by
    unfold vA v_spray
    rw [if_pos rfl, es, if_neg c1, if_neg c2, if_neg hm, if_pos hl, eP, e122, hs], show n_spray N (nI i) (nI x) = spS N i s (nI x) from by
    unfold n_spray
    rw [es, if_neg c1, if_neg c2, if_neg hm, if_pos hl, eP]] at hM
  exact lc_trySpray _ _ 0 0 hM
theorem q_drive (hst : l.stackTraces = false) (hN : PI u N) (hu : 1998 * (u + 5000) < 2 ^ 31) {a d : Int32} {i x : Nat} (ha : a = nI i) (hd : d = nI x) (hi : i < (N 2).toNatClampNeg) (hx : x < (N 0).toNatClampNeg) (hv : ¬ fX7_driveOn_v N i (nI x) = 0) {K : Nat} (eK : kN k = K) : CALL l Γ 11 a d (SH Γ N Hy k w) (fX7_driveOn_P N i (nI x) (122 + 3 * i + 2)) (SH Γ (fX7_driveOn_P N i (nI x)) (cons N Hy) K w) := by
  have b1 := hN.w3.2
  subst ha; subst hd; subst eK
  have hM := cl_drive (l := l) (Γ := Γ) hst (H := Hy) (k := k) (w := w) hN hu (nI i) (nI x)
  have c1 := wag_ok hN hi
  have c2 := seg_ok hN hx
  have es : (nI i).toNatClampNeg = i := nI_clamp (by omega)
  have c3 : fX7_far_v N i (nI x) ≤ N (122 + 3 * i + 2) := by
    unfold fX7_driveOn_v at hv
    by_cases q : fX7_far_v N i (nI x) ≤ N (122 + 3 * i + 2)
    · exact q
    · rw [if_neg q] at hv; exact absurd rfl hv
  have r0 : rfDR N (nI i) (nI x) = 0 := by unfold rfDR; rw [es, if_neg c1, if_neg c2, if_pos c3]
  rw [r0, show vA 0 ecT (v_drive N (nI i) (nI x)) = fX7_driveOn_P N i (nI x) (122 + 3 * i + 2) from by
    unfold vA v_drive
    rw [if_pos rfl, es, if_neg c1, if_neg c2, if_pos c3], show n_drive N (nI i) (nI x) = fX7_driveOn_P N i (nI x) from by
    unfold n_drive
    rw [es, if_neg c1, if_neg c2, if_pos c3]] at hM
  exact lc_tryDrive _ _ 0 0 hM
theorem q_drive_no (hst : l.stackTraces = false) (hN : PI u N) (hu : 1998 * (u + 5000) < 2 ^ 31) {a d : Int32} {i x : Nat} (ha : a = nI i) (hd : d = nI x) (hi : i < (N 2).toNatClampNeg) (hx : x < (N 0).toNatClampNeg) (hv : fX7_driveOn_v N i (nI x) = 0) : CALL l Γ 11 a d (SH Γ N Hy k w) (-9999003) (SH Γ N Hy k w) := by
  have b1 := hN.w3.2
  subst ha; subst hd
  have hM := cl_drive (l := l) (Γ := Γ) hst (H := Hy) (k := k) (w := w) hN hu (nI i) (nI x)
  have c1 := wag_ok hN hi
  have c2 := seg_ok hN hx
  have es : (nI i).toNatClampNeg = i := nI_clamp (by omega)
  have c3 : ¬ fX7_far_v N i (nI x) ≤ N (122 + 3 * i + 2) := by
    intro q
    unfold fX7_driveOn_v at hv
    rw [if_pos q] at hv
    exact absurd hv (by decide)
  have r0 : rfDR N (nI i) (nI x) = 2 := by unfold rfDR; rw [es, if_neg c1, if_neg c2, if_neg c3]
  rw [r0, show n_drive N (nI i) (nI x) = N from by
    unfold n_drive
    rw [es, if_neg c1, if_neg c2, if_neg c3]] at hM
  exact lc_tryDrive _ _ 0 0 hM
theorem q_spray_no (hst : l.stackTraces = false) (hN : PI u N) (hu : 1998 * (u + 5000) < 2 ^ 31) {a d : Int32} {i x : Nat} (ha : a = nI i) (hd : d = nI x) (hi : i < (N 2).toNatClampNeg) (h1 : 1 ≤ x) (h2 : x ≤ 9) (hv : fX7_sprayOn_v N i (nI x) = 0) : CALL l Γ 12 a d (SH Γ N Hy k w) (-9999003) (SH Γ N Hy k w) := by
  have b1 := hN.w3.2
  subst ha; subst hd
  have hM := cl_spray (l := l) (Γ := Γ) hst (H := Hy) (k := k) (w := w) hN hu (nI i) (nI x)
  have c1 := wag_ok hN hi
  have c2 : ¬ fX7_in_v (nI x).toInt64 1 9 = 0 := by rw [w_19]; exact in_lo (lo := 1) (hi := 9) h1 h2 (by decide)
  have es : (nI i).toNatClampNeg = i := nI_clamp (by omega)
  unfold fX7_sprayOn_v at hv
  by_cases hm : N (122 + 3 * i + 2) = 0
  · have r0 : rfSP N (nI i) (nI x) = 3 := by unfold rfSP; rw [es, if_neg c1, if_neg c2, if_pos hm]
    rw [r0, show n_spray N (nI i) (nI x) = N from by
      unfold n_spray
      rw [es, if_neg c1, if_neg c2, if_pos hm]] at hM
    exact lc_trySpray _ _ 0 0 hM
  · rw [if_neg hm] at hv
    have hl : ¬ nI x ≤ N (122 + 3 * i + 1) := by
      intro q
      rw [if_pos q] at hv
      exact absurd hv (by decide)
    have r0 : rfSP N (nI i) (nI x) = 3 := by unfold rfSP; rw [es, if_neg c1, if_neg c2, if_neg hm, if_neg hl]
    rw [r0, show n_spray N (nI i) (nI x) = N from by
      unfold n_spray
      rw [es, if_neg c1, if_neg c2, if_neg hm, if_neg hl]] at hM
    exact lc_trySpray _ _ 0 0 hM
/-- spraying, by the model's own words -/
theorem q_sprayO (hst : l.stackTraces = false) (hN : PI u N) (hu : 1998 * (u + 5000) < 2 ^ 31) {a d : Int32} {i x : Nat} (ha : a = nI i) (hd : d = nI x) (hi : i < (N 2).toNatClampNeg) (h1 : 1 ≤ x) (h2 : x ≤ 9) (hv : ¬ fX7_sprayOn_v N i (nI x) = 0) {K : Nat} (eK : kN k = K) : CALL l Γ 12 a d (SH Γ N Hy k w) (v_spray N (nI i) (nI x)) (SH Γ (fX7_sprayOn_P N i (nI x)) (cons N Hy) K w) := by
  have b1 := hN.w3.2
  subst ha; subst hd; subst eK
  have hM := cl_spray (l := l) (Γ := Γ) hst (H := Hy) (k := k) (w := w) hN hu (nI i) (nI x)
  have c1 := wag_ok hN hi
  have c2 : ¬ fX7_in_v (nI x).toInt64 1 9 = 0 := by rw [w_19]; exact in_lo (lo := 1) (hi := 9) h1 h2 (by decide)
  have es : (nI i).toNatClampNeg = i := nI_clamp (by omega)
  unfold fX7_sprayOn_v at hv
  have hm : ¬ N (122 + 3 * i + 2) = 0 := fun q => hv (if_pos q)
  rw [if_neg hm] at hv
  have hl : nI x ≤ N (122 + 3 * i + 1) := by
    by_cases q : nI x ≤ N (122 + 3 * i + 1)
    · exact q
    · exact absurd (if_neg q) hv
  have r0 : rfSP N (nI i) (nI x) = 0 := by unfold rfSP; rw [es, if_neg c1, if_neg c2, if_neg hm, if_pos hl]
  rw [r0, show vA 0 ecS (v_spray N (nI i) (nI x)) = v_spray N (nI i) (nI x) from if_pos rfl, show n_spray N (nI i) (nI x) = fX7_sprayOn_P N i (nI x) from by
    unfold n_spray
    rw [es, if_neg c1, if_neg c2, if_neg hm, if_pos hl]] at hM
  exact lc_trySpray _ _ 0 0 hM
theorem q_sprayO_nn (hN : PI u N) (hu : 1998 * (u + 5000) < 2 ^ 31) {i x : Nat} (hi : i < (N 2).toNatClampNeg) (h1 : 1 ≤ x) (h2 : x ≤ 9) (hv : ¬ fX7_sprayOn_v N i (nI x) = 0) : ¬ v_spray N (nI i) (nI x) < 0 := by
  have b1 := hN.w3.2
  have c1 := wag_ok hN hi
  have c2 : ¬ fX7_in_v (nI x).toInt64 1 9 = 0 := by rw [w_19]; exact in_lo (lo := 1) (hi := 9) h1 h2 (by decide)
  have es : (nI i).toNatClampNeg = i := nI_clamp (by omega)
  unfold fX7_sprayOn_v at hv
  have hm : ¬ N (122 + 3 * i + 2) = 0 := fun q => hv (if_pos q)
  rw [if_neg hm] at hv
  have hl : nI x ≤ N (122 + 3 * i + 1) := by
    by_cases q : nI x ≤ N (122 + 3 * i + 1)
    · exact q
    · exact absurd (if_neg q) hv
  exact po_spray hN hu _ _ (by unfold rfSP; rw [es, if_neg c1, if_neg c2, if_neg hm, if_pos hl])
theorem q_driveO_nn (hN : PI u N) (hu : 1998 * (u + 5000) < 2 ^ 31) {i x : Nat} (hi : i < (N 2).toNatClampNeg) (hx : x < (N 0).toNatClampNeg) (hv : ¬ fX7_driveOn_v N i (nI x) = 0) : ¬ fX7_driveOn_P N i (nI x) (122 + 3 * i + 2) < 0 := by
  have b1 := hN.w3.2
  have c1 := wag_ok hN hi
  have c2 := seg_ok hN hx
  have es : (nI i).toNatClampNeg = i := nI_clamp (by omega)
  have c3 : fX7_far_v N i (nI x) ≤ N (122 + 3 * i + 2) := by
    unfold fX7_driveOn_v at hv
    by_cases q : fX7_far_v N i (nI x) ≤ N (122 + 3 * i + 2)
    · exact q
    · rw [if_neg q] at hv; exact absurd rfl hv
  have := po_drive hN hu (nI i) (nI x) (by unfold rfDR; rw [es, if_neg c1, if_neg c2, if_pos c3])
  unfold v_drive at this
  rw [es, if_neg c1, if_neg c2, if_pos c3] at this
  exact this
theorem q_fill (hst : l.stackTraces = false) (hN : PI u N) (hu : 1998 * (u + 5000) < 2 ^ 31) {a : Int32} {i : Nat} (ha : a = nI i) (d : Int32) (hi : i < (N 2).toNatClampNeg) (hy : fX7_why_v N i = 0) {K : Nat} (eK : kN k = K) : CALL l Γ 13 a d (SH Γ N Hy k w) (fX7_fillOn_v N i) (SH Γ (fiS N i (fX7_fillOn_v N i)) (cons N Hy) K w) := by
  have b1 := hN.w3.2
  subst ha; subst eK
  have hM := cl_fill (l := l) (Γ := Γ) hst (H := Hy) (k := k) (w := w) hN hu (nI i)
  have c1 := wag_ok hN hi
  have es : (nI i).toNatClampNeg = i := nI_clamp (by omega)
  have r0 : rfFI N (nI i) = 0 := by unfold rfFI; rw [es, if_neg c1, if_pos hy]
  rw [r0, show vA 0 ecT (v_fill N (nI i)) = fX7_fillOn_v N i from by
    unfold vA v_fill
    rw [if_pos rfl, es, if_neg c1, if_pos hy], show n_fill N (nI i) = fiS N i (fX7_fillOn_v N i) from by
    unfold n_fill
    rw [es, if_neg c1, if_pos hy, fiS_ref N (by omega)]] at hM
  exact lc_tryFill _ d 0 0 hM
theorem q_fill_no (hst : l.stackTraces = false) (hN : PI u N) (hu : 1998 * (u + 5000) < 2 ^ 31) {a : Int32} {i : Nat} (ha : a = nI i) (d : Int32) (hi : i < (N 2).toNatClampNeg) (hy : ¬ fX7_why_v N i = 0) : CALL l Γ 13 a d (SH Γ N Hy k w) (-9999003) (SH Γ N Hy k w) := by
  have b1 := hN.w3.2
  subst ha
  have hM := cl_fill (l := l) (Γ := Γ) hst (H := Hy) (k := k) (w := w) hN hu (nI i)
  have c1 := wag_ok hN hi
  have es : (nI i).toNatClampNeg = i := nI_clamp (by omega)
  have r0 : rfFI N (nI i) = 2 := by unfold rfFI; rw [es, if_neg c1, if_neg hy]
  rw [r0, show n_fill N (nI i) = N from by
    unfold n_fill
    rw [es, if_neg c1, if_neg hy]] at hM
  exact lc_tryFill _ d 0 0 hM
end Qs
