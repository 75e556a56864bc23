/-! THE LAW: its calls that are refused. Laid by gen/r98.py. -/
section Rj
variable {l : Launch} {Γ : gX} {u : Nat} {N : Nat → Int32} {Hy : Nat → Nat → Int32} {k : Nat} {w : WO}
theorem sg_no (hN : PI u N) : fX7_isSegment_v N (N 0) = 0 := by rw [sg_ok hN]; exact fun q => Int32.lt_irrefl q.2.1
theorem ho_no (hN : PI u N) : fX7_isHouse_v N (N 1) = 0 := by rw [ho_ok hN]; exact fun q => Int32.lt_irrefl q.2.1
theorem wa_no (hN : PI u N) : fX7_isWagon_v N (N 2) = 0 := by rw [wa_ok hN]; exact fun q => Int32.lt_irrefl q.2.1
theorem ho_8 (hN : PI u N) : fX7_isHouse_v N 8 = 0 := by rw [ho_ok hN]; exact fun q => absurd q.2.2 (by decide)
theorem ho_m (hN : PI u N) : fX7_isHouse_v N (-1) = 0 := by rw [ho_ok hN]; exact fun q => absurd q.1 (by decide)
theorem wa_3 (hN : PI u N) : fX7_isWagon_v N 3 = 0 := by rw [wa_ok hN]; exact fun q => absurd q.2.2 (by decide)
theorem wa_m (hN : PI u N) : fX7_isWagon_v N (-1) = 0 := by rw [wa_ok hN]; exact fun q => absurd q.1 (by decide)
theorem sg_0 (hN : PI u N) : ¬ fX7_isSegment_v N 0 = 0 := seg_ok (s := 0) hN (Nat.lt_of_lt_of_le (by decide) hN.2.1)
theorem rj_addHouse (hst : l.stackTraces = false) (hN : PI u N) (hu : 1998 * (u + 5000) < 2 ^ 31) (a d : Int32) {j : Nat} {v : Int32} (h : rfAH N a d = j + 1) (hv : ecS (j + 1) = v) : CALL l Γ 6 a d (SH Γ N Hy k w) v (SH Γ N Hy k w) := by
  subst hv
  have hM := cl_addHouse (l := l) (Γ := Γ) hst (H := Hy) (k := k) (w := w) hN hu a d
  rw [no_addHouse hN hu a d (by omega), h] at hM
  exact lc_tryBuild a d 0 0 hM
theorem rj_addWagon (hst : l.stackTraces = false) (hN : PI u N) (hu : 1998 * (u + 5000) < 2 ^ 31) (a d : Int32) {j : Nat} {v : Int32} (h : rfAW N a = j + 1) (hv : ecT (j + 1) = v) : CALL l Γ 7 a d (SH Γ N Hy k w) v (SH Γ N Hy k w) := by
  subst hv
  have hM := cl_addWagon (l := l) (Γ := Γ) hst (H := Hy) (k := k) (w := w) hN hu a
  rw [no_addWagon hN hu a (by omega), h] at hM
  exact lc_tryBring a d 0 0 hM
theorem rj_setSurface (hst : l.stackTraces = false) (hN : PI u N) (hu : 1998 * (u + 5000) < 2 ^ 31) (a d : Int32) {j : Nat} {v : Int32} (h : rfSS N a d = j + 1) (hv : ecS (j + 1) = v) : CALL l Γ 8 a d (SH Γ N Hy k w) v (SH Γ N Hy k w) := by
  subst hv
  have hM := cl_setSurface (l := l) (Γ := Γ) hst (H := Hy) (k := k) (w := w) hN hu a d
  rw [no_setSurface hN hu a d (by omega), h] at hM
  exact lc_trySurface a d 0 0 hM
theorem rj_setLimit (hst : l.stackTraces = false) (hN : PI u N) (hu : 1998 * (u + 5000) < 2 ^ 31) (a d : Int32) {j : Nat} {v : Int32} (h : rfSL N a d = j + 1) (hv : ecS (j + 1) = v) : CALL l Γ 9 a d (SH Γ N Hy k w) v (SH Γ N Hy k w) := by
  subst hv
  have hM := cl_setLimit (l := l) (Γ := Γ) hst (H := Hy) (k := k) (w := w) hN hu a d
  rw [no_setLimit hN hu a d (by omega), h] at hM
  exact lc_tryLimit a d 0 0 hM
theorem rj_set (hst : l.stackTraces = false) (hN : PI u N) (hu : 1998 * (u + 5000) < 2 ^ 31) (a d : Int32) {j : Nat} {v : Int32} (h : rfST a d = j + 1) (hv : ecA (j + 1) = v) : CALL l Γ 10 a d (SH Γ N Hy k w) v (SH Γ N Hy k w) := by
  subst hv
  have hM := cl_set (l := l) (Γ := Γ) hst (H := Hy) (k := k) (w := w) hN hu a d
  rw [no_set hN hu a d (by omega), h] at hM
  exact lc_trySet a d 0 0 hM
theorem rj_drive (hst : l.stackTraces = false) (hN : PI u N) (hu : 1998 * (u + 5000) < 2 ^ 31) (a d : Int32) {j : Nat} {v : Int32} (h : rfDR N a d = j + 1) (hv : ecT (j + 1) = v) : CALL l Γ 11 a d (SH Γ N Hy k w) v (SH Γ N Hy k w) := by
  subst hv
  have hM := cl_drive (l := l) (Γ := Γ) hst (H := Hy) (k := k) (w := w) hN hu a d
  rw [no_drive hN hu a d (by omega), h] at hM
  exact lc_tryDrive a d 0 0 hM
theorem rj_spray (hst : l.stackTraces = false) (hN : PI u N) (hu : 1998 * (u + 5000) < 2 ^ 31) (a d : Int32) {j : Nat} {v : Int32} (h : rfSP N a d = j + 1) (hv : ecS (j + 1) = v) : CALL l Γ 12 a d (SH Γ N Hy k w) v (SH Γ N Hy k w) := by
  subst hv
  have hM := cl_spray (l := l) (Γ := Γ) hst (H := Hy) (k := k) (w := w) hN hu a d
  rw [no_spray hN hu a d (by omega), h] at hM
  exact lc_trySpray a d 0 0 hM
theorem rj_fill (hst : l.stackTraces = false) (hN : PI u N) (hu : 1998 * (u + 5000) < 2 ^ 31) (a d : Int32) {j : Nat} {v : Int32} (h : rfFI N a = j + 1) (hv : ecT (j + 1) = v) : CALL l Γ 13 a d (SH Γ N Hy k w) v (SH Γ N Hy k w) := by
  subst hv
  have hM := cl_fill (l := l) (Γ := Γ) hst (H := Hy) (k := k) (w := w) hN hu a
  rw [no_fill hN hu a (by omega), h] at hM
  exact lc_tryFill a d 0 0 hM
theorem rj_pass (hst : l.stackTraces = false) (hN : PI u N) (hu : 1998 * (u + 5000) < 2 ^ 31) (a d : Int32) {j : Nat} {v : Int32} (h : rfPA a = j + 1) (hv : ecA (j + 1) = v) : CALL l Γ 14 a d (SH Γ N Hy k w) v (SH Γ N Hy k w) := by
  subst hv
  have hM := cl_pass (l := l) (Γ := Γ) hst (H := Hy) (k := k) (w := w) hN hu a
  rw [no_pass hN hu a (by omega), h] at hM
  exact lc_tryPass a d 0 0 hM
theorem rj_whyNoFill (hst : l.stackTraces = false) (hN : PI u N) (hu : 1998 * (u + 5000) < 2 ^ 31) (a d : Int32) {j : Nat} {v : Int32} (h : rfWh N a = j + 1) (hv : ecO (j + 1) = v) : CALL l Γ 16 a d (SH Γ N Hy k w) v (SH Γ N Hy k w) := by
  subst hv
  have hM := cl_whyNoFill (l := l) (Γ := Γ) hst (H := Hy) (k := k) (w := w) hN hu a
  rw [h] at hM
  exact lc_tryWhy a d 0 0 hM
theorem rj_ahead (hst : l.stackTraces = false) (hN : PI u N) (hu : 1998 * (u + 5000) < 2 ^ 31) (a d : Int32) {j : Nat} {v : Int32} (h : rfAhd N a d = j + 1) (hv : ecS (j + 1) = v) : CALL l Γ 17 a d (SH Γ N Hy k w) v (SH Γ N Hy k w) := by
  subst hv
  have hM := cl_ahead (l := l) (Γ := Γ) hst (H := Hy) (k := k) (w := w) hN hu a d
  rw [h] at hM
  exact lc_tryAhead a d 0 0 hM
theorem rj_waterFor (hst : l.stackTraces = false) (hN : PI u N) (hu : 1998 * (u + 5000) < 2 ^ 31) (a d : Int32) {j : Nat} {v : Int32} (h : rfHs N a = j + 1) (hv : ecO (j + 1) = v) : CALL l Γ 18 a d (SH Γ N Hy k w) v (SH Γ N Hy k w) := by
  subst hv
  have hM := cl_waterFor (l := l) (Γ := Γ) hst (H := Hy) (k := k) (w := w) hN hu a
  rw [h] at hM
  exact lc_tryWater a d 0 0 hM
theorem rj_limitFor (hst : l.stackTraces = false) (hN : PI u N) (hu : 1998 * (u + 5000) < 2 ^ 31) (a d : Int32) {j : Nat} {v : Int32} (h : rfHs N a = j + 1) (hv : ecO (j + 1) = v) : CALL l Γ 19 a d (SH Γ N Hy k w) v (SH Γ N Hy k w) := by
  subst hv
  have hM := cl_limitFor (l := l) (Γ := Γ) hst (H := Hy) (k := k) (w := w) hN hu a
  rw [h] at hM
  exact lc_trySlow a d 0 0 hM
theorem rj_bestSpray (hst : l.stackTraces = false) (hN : PI u N) (hu : 1998 * (u + 5000) < 2 ^ 31) (a d : Int32) {j : Nat} {v : Int32} (h : rfBe N a d = j + 1) (hv : ecS (j + 1) = v) : CALL l Γ 20 a d (SH Γ N Hy k w) v (SH Γ N Hy k w) := by
  subst hv
  have hM := cl_bestSpray (l := l) (Γ := Γ) hst (H := Hy) (k := k) (w := w) hN hu a d
  rw [h] at hM
  exact lc_tryBest a d 0 0 hM
theorem rj_complainsIn (hst : l.stackTraces = false) (hN : PI u N) (hu : 1998 * (u + 5000) < 2 ^ 31) (a d : Int32) {j : Nat} {v : Int32} (h : rfHs N a = j + 1) (hv : ecO (j + 1) = v) : CALL l Γ 21 a d (SH Γ N Hy k w) v (SH Γ N Hy k w) := by
  subst hv
  have hM := cl_complainsIn (l := l) (Γ := Γ) hst (H := Hy) (k := k) (w := w) hN hu a
  rw [h] at hM
  exact lc_tryWhen a d 0 0 hM
theorem rj_about (hst : l.stackTraces = false) (hN : PI u N) (hu : 1998 * (u + 5000) < 2 ^ 31) (a : Int32) {j : Nat} {v : Int32} (h : rfAb a = j + 1) (hv : ecA (j + 1) = v) : lM l Γ yL_about wqL_about 11 230 1 [.ref (gad Γ 475), .int a] (SH Γ N Hy k w) (some (.int v)) (SH Γ N Hy k w) := by
  subst hv
  have hM := cl_about (l := l) (Γ := Γ) hst (H := Hy) (k := k) (w := w) hN hu a
  rw [h] at hM
  exact lr_about _ hM
theorem rj_segment (hst : l.stackTraces = false) (hN : PI u N) (hu : 1998 * (u + 5000) < 2 ^ 31) (a d : Int32) {j : Nat} {v : Int32} (h : rfSg N a d = j + 1) (hv : ecS (j + 1) = v) : lM l Γ yL_segment wqL_segment 11 230 1 [.ref (gad Γ 475), .int a, .int d] (SH Γ N Hy k w) (some (.int v)) (SH Γ N Hy k w) := by
  subst hv
  have hM := cl_segment (l := l) (Γ := Γ) hst (H := Hy) (k := k) (w := w) hN hu a d
  rw [h] at hM
  exact lr_segment _ _ hM
theorem rj_house (hst : l.stackTraces = false) (hN : PI u N) (hu : 1998 * (u + 5000) < 2 ^ 31) (a d : Int32) {j : Nat} {v : Int32} (h : rfHo N a d = j + 1) (hv : ecS (j + 1) = v) : lM l Γ yL_house wqL_house 11 230 1 [.ref (gad Γ 475), .int a, .int d] (SH Γ N Hy k w) (some (.int v)) (SH Γ N Hy k w) := by
  subst hv
  have hM := cl_house (l := l) (Γ := Γ) hst (H := Hy) (k := k) (w := w) hN hu a d
  rw [h] at hM
  exact lr_house _ _ hM
theorem rj_wagon (hst : l.stackTraces = false) (hN : PI u N) (hu : 1998 * (u + 5000) < 2 ^ 31) (a d : Int32) {j : Nat} {v : Int32} (h : rfWa N a d = j + 1) (hv : ecS (j + 1) = v) : lM l Γ yL_wagon wqL_wagon 11 230 1 [.ref (gad Γ 475), .int a, .int d] (SH Γ N Hy k w) (some (.int v)) (SH Γ N Hy k w) := by
  subst hv
  have hM := cl_wagon (l := l) (Γ := Γ) hst (H := Hy) (k := k) (w := w) hN hu a d
  rw [h] at hM
  exact lr_wagon _ _ hM
theorem rj_append (hst : l.stackTraces = false) {x : Nat} (hx : x < 2 ^ 31) (d : Int32) : CALL l Γ 0 (256 + remI (nI x) 9) d (SH Γ N Hy k w) (-9999002) (SH Γ N Hy k w) := by
  have e : 256 + remI (nI x) 9 = nI (256 + x % 9) := by
    rw [show (9 : Int32) = nI 9 from rfl, show remI (nI x) (nI 9) = nI (x % 9) from pk_rem hx (by decide) (by decide), show (256 : Int32) = nI 256 from rfl, nI_add]
  have hm : x % 9 < 9 := Nat.mod_lt _ (by decide)
  refine lc_tryAppend _ d 0 0 (cl_append_x hst _ ?_)
  rw [e]
  unfold fX6_within_v
  rw [if_neg (show ¬ nI (256 + x % 9) < 0 from nI_nlt (a := 256 + x % 9) (b := 0) (Nat.zero_le _) (by omega)), if_pos (show (255 : Int32) < nI (256 + x % 9) from nI_lt (a := 255) (by omega) (by omega))]
theorem rj_save (hst : l.stackTraces = false) (d : Int32) : CALL l Γ 22 2 d (SH Γ N Hy k w) (-9999001) (SH Γ N Hy k w) := lc_trySave 2 d 0 0 (cl_save_x hst 2 (Or.inr (by decide)))
theorem rj_restore (hst : l.stackTraces = false) (d : Int32) : CALL l Γ 23 (-1) d (SH Γ N Hy k w) (-9999001) (SH Γ N Hy k w) := lc_tryRestore (-1) d 0 0 (cl_restore_x hst (-1) (Or.inl (by decide)))
theorem rj_simulate (hst : l.stackTraces = false) (hN : PI u N) (hu : 1998 * (u + 5000) < 2 ^ 31) (a : Int64) (d : Int32) (h : rfSi d = 1) : lW l Γ yL_trySimulate wsL_trySimulate [.ref (gad Γ 475), .long a, .int d] (SH Γ N Hy k w) (-9999002) (SH Γ N Hy k w) := by
  have hM := cl_simulate (l := l) (Γ := Γ) hst (H := Hy) (k := k) (w := w) hN hu a d
  rw [h] at hM
  exact hM
end Rj
