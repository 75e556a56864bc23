/-! THE STEPS: what there is, by the model's page. Laid by gen/q29.py. -/
def v_about (N : Nat → Int32) (a : Int32) : Int32 := if fX7_in_v a.toInt64 0 12 = 0 then 0 else if 12 ≤ a then fX7_about_A2 N (fun _ => 0) (N 0).toNatClampNeg else N a.toNatClampNeg
theorem rL_about (N : Nat → Int32) (a : Int32) : rfAb a ≤ 1 := by
  unfold rfAb
  (repeat' split) <;> omega
set_option maxRecDepth 100000 in
theorem cl_about {l : Launch} {Γ : gX} (hst : l.stackTraces = false) {u : Nat} {N : Nat → Int32} {H : Nat → Nat → Int32} {k : Nat} {w : WO} (hN : PI u N) (hu : 1998 * (u + 5000) < 2 ^ 31) (a : Int32) : lW l Γ yL_tryAbout wsL_tryAbout [.ref (gad Γ 475), .int a] (SH Γ N H k w) (vA (rfAb a) ecA (v_about N a)) (SH Γ N H k w) := by
  refine lW_of (fun Z R h => ?_)
  obtain ⟨M, X, G, J, S, C, P, Q, pm, rfl, hC, hI⟩ := h
  have hPG := hI.pr.pg hN
  have h475 := hC.1 475 (by decide) (by decide)
  have hk := hI.2.1
  have hJ := hI.2.2.1
  have hRE : RE (fX2_number_v P a) (v_about N a) (rfAb a) (EE xIA xIA xIA) := re_about hPG.1 hN (by omega) (fun _ => 0) a
  have hLe := rL_about N a
  have inv : INC Γ R (cS M X G J S C P Q) N H k w := ⟨_, _, _, _, _, _, _, _, _, rfl, hC, hI⟩
  rcases hRE with ⟨r0, x1, ev⟩ | ⟨r1, r3, x1⟩
  · have cls := mX6_about (l := l) M R 0 hC X G J S C P Q a x1
    rw [show vA (rfAb a) ecA (v_about N a) = (fX2_number_v P a) from (if_pos r0).trans ev]
    exact ⟨_, _, wL_tryAbout h475 (by decide) (by decide) a cls, inv⟩
  · have r0 : ¬ rfAb a = 0 := by omega
    rw [show vA (rfAb a) ecA (v_about N a) = ecA (rfAb a) from if_neg r0]
    have q0 : rfAb a = 1 := by omega
    rw [q0, EE_1] at x1
    rw [q0]
    have cls := tX6_about (l := l) hst M R 0 hC X G J S C P Q a x1
    exact ⟨_, _, wL_tryAbout_t1 h475 (by decide) (by decide) a cls, inv⟩
def v_segment (N : Nat → Int32) (a : Int32) (d : Int32) : Int32 := if fX7_isSegment_v N a = 0 then 0 else if fX7_in_v d.toInt64 0 6 = 0 then 0 else N (12 + 7 * a.toNatClampNeg + d.toNatClampNeg)
theorem rL_segment (N : Nat → Int32) (a : Int32) (d : Int32) : rfSg N a d ≤ 2 := by
  unfold rfSg
  (repeat' split) <;> omega
set_option maxRecDepth 100000 in
theorem cl_segment {l : Launch} {Γ : gX} (hst : l.stackTraces = false) {u : Nat} {N : Nat → Int32} {H : Nat → Nat → Int32} {k : Nat} {w : WO} (hN : PI u N) (hu : 1998 * (u + 5000) < 2 ^ 31) (a : Int32) (d : Int32) : lW l Γ yL_trySegment wsL_trySegment [.ref (gad Γ 475), .int a, .int d] (SH Γ N H k w) (vA (rfSg N a d) ecS (v_segment N a d)) (SH Γ N H k w) := by
  refine lW_of (fun Z R h => ?_)
  obtain ⟨M, X, G, J, S, C, P, Q, pm, rfl, hC, hI⟩ := h
  have hPG := hI.pr.pg hN
  have h475 := hC.1 475 (by decide) (by decide)
  have hk := hI.2.1
  have hJ := hI.2.2.1
  have hRE : RE (fX6_segment_v X G J S C P Q a d) (v_segment N a d) (rfSg N a d) (EE xIO xIA xIS) := re_segment hPG.1 hN (by omega) a d
  have hLe := rL_segment N a d
  have inv : INC Γ R (cS M X G J S C P Q) N H k w := ⟨_, _, _, _, _, _, _, _, _, rfl, hC, hI⟩
  rcases hRE with ⟨r0, x1, ev⟩ | ⟨r1, r3, x1⟩
  · have cls := mX6_segment (l := l) M R 0 hC X G J S C P Q a d x1
    rw [show vA (rfSg N a d) ecS (v_segment N a d) = (fX6_segment_v X G J S C P Q a d) from (if_pos r0).trans ev]
    exact ⟨_, _, wL_trySegment h475 (by decide) (by decide) a d cls, inv⟩
  · have r0 : ¬ rfSg N a d = 0 := by omega
    rw [show vA (rfSg N a d) ecS (v_segment N a d) = ecS (rfSg N a d) from if_neg r0]
    by_cases q0 : rfSg N a d = 1
    · rw [q0, EE_1] at x1
      rw [q0]
      have cls := tX6_segment (l := l) hst M R 0 hC X G J S C P Q a d x1
      exact ⟨_, _, wL_trySegment_t1 h475 (by decide) (by decide) a d cls, inv⟩
    have q1 : rfSg N a d = 2 := by omega
    rw [q1, EE_2] at x1
    rw [q1]
    have cls := tX6_segment (l := l) hst M R 0 hC X G J S C P Q a d x1
    exact ⟨_, _, wL_trySegment_t2 h475 (by decide) (by decide) a d cls, inv⟩
def v_house (N : Nat → Int32) (a : Int32) (d : Int32) : Int32 := if fX7_isHouse_v N a = 0 then 0 else if fX7_in_v d.toInt64 0 4 = 0 then 0 else N (82 + 5 * a.toNatClampNeg + d.toNatClampNeg)
theorem rL_house (N : Nat → Int32) (a : Int32) (d : Int32) : rfHo N a d ≤ 2 := by
  unfold rfHo
  (repeat' split) <;> omega
set_option maxRecDepth 100000 in
theorem cl_house {l : Launch} {Γ : gX} (hst : l.stackTraces = false) {u : Nat} {N : Nat → Int32} {H : Nat → Nat → Int32} {k : Nat} {w : WO} (hN : PI u N) (hu : 1998 * (u + 5000) < 2 ^ 31) (a : Int32) (d : Int32) : lW l Γ yL_tryHouse wsL_tryHouse [.ref (gad Γ 475), .int a, .int d] (SH Γ N H k w) (vA (rfHo N a d) ecS (v_house N a d)) (SH Γ N H k w) := by
  refine lW_of (fun Z R h => ?_)
  obtain ⟨M, X, G, J, S, C, P, Q, pm, rfl, hC, hI⟩ := h
  have hPG := hI.pr.pg hN
  have h475 := hC.1 475 (by decide) (by decide)
  have hk := hI.2.1
  have hJ := hI.2.2.1
  have hRE : RE (fX6_house_v X G J S C P Q a d) (v_house N a d) (rfHo N a d) (EE xIO xIA xIS) := re_house hPG.1 hN (by omega) a d
  have hLe := rL_house N a d
  have inv : INC Γ R (cS M X G J S C P Q) N H k w := ⟨_, _, _, _, _, _, _, _, _, rfl, hC, hI⟩
  rcases hRE with ⟨r0, x1, ev⟩ | ⟨r1, r3, x1⟩
  · have cls := mX6_house (l := l) M R 0 hC X G J S C P Q a d x1
    rw [show vA (rfHo N a d) ecS (v_house N a d) = (fX6_house_v X G J S C P Q a d) from (if_pos r0).trans ev]
    exact ⟨_, _, wL_tryHouse h475 (by decide) (by decide) a d cls, inv⟩
  · have r0 : ¬ rfHo N a d = 0 := by omega
    rw [show vA (rfHo N a d) ecS (v_house N a d) = ecS (rfHo N a d) from if_neg r0]
    by_cases q0 : rfHo N a d = 1
    · rw [q0, EE_1] at x1
      rw [q0]
      have cls := tX6_house (l := l) hst M R 0 hC X G J S C P Q a d x1
      exact ⟨_, _, wL_tryHouse_t1 h475 (by decide) (by decide) a d cls, inv⟩
    have q1 : rfHo N a d = 2 := by omega
    rw [q1, EE_2] at x1
    rw [q1]
    have cls := tX6_house (l := l) hst M R 0 hC X G J S C P Q a d x1
    exact ⟨_, _, wL_tryHouse_t2 h475 (by decide) (by decide) a d cls, inv⟩
def v_wagon (N : Nat → Int32) (a : Int32) (d : Int32) : Int32 := if fX7_isWagon_v N a = 0 then 0 else if fX7_in_v d.toInt64 0 2 = 0 then 0 else N (122 + 3 * a.toNatClampNeg + d.toNatClampNeg)
theorem rL_wagon (N : Nat → Int32) (a : Int32) (d : Int32) : rfWa N a d ≤ 2 := by
  unfold rfWa
  (repeat' split) <;> omega
set_option maxRecDepth 100000 in
theorem cl_wagon {l : Launch} {Γ : gX} (hst : l.stackTraces = false) {u : Nat} {N : Nat → Int32} {H : Nat → Nat → Int32} {k : Nat} {w : WO} (hN : PI u N) (hu : 1998 * (u + 5000) < 2 ^ 31) (a : Int32) (d : Int32) : lW l Γ yL_tryWagon wsL_tryWagon [.ref (gad Γ 475), .int a, .int d] (SH Γ N H k w) (vA (rfWa N a d) ecS (v_wagon N a d)) (SH Γ N H k w) := by
  refine lW_of (fun Z R h => ?_)
  obtain ⟨M, X, G, J, S, C, P, Q, pm, rfl, hC, hI⟩ := h
  have hPG := hI.pr.pg hN
  have h475 := hC.1 475 (by decide) (by decide)
  have hk := hI.2.1
  have hJ := hI.2.2.1
  have hRE : RE (fX6_wagon_v X G J S C P Q a d) (v_wagon N a d) (rfWa N a d) (EE xIO xIA xIS) := re_wagon hPG.1 hN a d
  have hLe := rL_wagon N a d
  have inv : INC Γ R (cS M X G J S C P Q) N H k w := ⟨_, _, _, _, _, _, _, _, _, rfl, hC, hI⟩
  rcases hRE with ⟨r0, x1, ev⟩ | ⟨r1, r3, x1⟩
  · have cls := mX6_wagon (l := l) M R 0 hC X G J S C P Q a d x1
    rw [show vA (rfWa N a d) ecS (v_wagon N a d) = (fX6_wagon_v X G J S C P Q a d) from (if_pos r0).trans ev]
    exact ⟨_, _, wL_tryWagon h475 (by decide) (by decide) a d cls, inv⟩
  · have r0 : ¬ rfWa N a d = 0 := by omega
    rw [show vA (rfWa N a d) ecS (v_wagon N a d) = ecS (rfWa N a d) from if_neg r0]
    by_cases q0 : rfWa N a d = 1
    · rw [q0, EE_1] at x1
      rw [q0]
      have cls := tX6_wagon (l := l) hst M R 0 hC X G J S C P Q a d x1
      exact ⟨_, _, wL_tryWagon_t1 h475 (by decide) (by decide) a d cls, inv⟩
    have q1 : rfWa N a d = 2 := by omega
    rw [q1, EE_2] at x1
    rw [q1]
    have cls := tX6_wagon (l := l) hst M R 0 hC X G J S C P Q a d x1
    exact ⟨_, _, wL_tryWagon_t2 h475 (by decide) (by decide) a d cls, inv⟩
def v_whyNoFill (N : Nat → Int32) (a : Int32) : Int32 := if fX7_isWagon_v N a = 0 then 0 else fX7_why_v N a.toNatClampNeg
theorem rL_whyNoFill (N : Nat → Int32) (a : Int32) : rfWh N a ≤ 1 := by
  unfold rfWh
  (repeat' split) <;> omega
set_option maxRecDepth 100000 in
theorem cl_whyNoFill {l : Launch} {Γ : gX} (hst : l.stackTraces = false) {u : Nat} {N : Nat → Int32} {H : Nat → Nat → Int32} {k : Nat} {w : WO} (hN : PI u N) (hu : 1998 * (u + 5000) < 2 ^ 31) (a : Int32) : lW l Γ yL_tryWhy wsL_tryWhy [.ref (gad Γ 475), .int a] (SH Γ N H k w) (vA (rfWh N a) ecO (v_whyNoFill N a)) (SH Γ N H k w) := by
  refine lW_of (fun Z R h => ?_)
  obtain ⟨M, X, G, J, S, C, P, Q, pm, rfl, hC, hI⟩ := h
  have hPG := hI.pr.pg hN
  have h475 := hC.1 475 (by decide) (by decide)
  have hk := hI.2.1
  have hJ := hI.2.2.1
  have hRE : RE (fX6_whyNoFill_v X G J S C P Q a) (v_whyNoFill N a) (rfWh N a) (EE xIO xIO xIO) := re_why hPG.1 hN a
  have hLe := rL_whyNoFill N a
  have inv : INC Γ R (cS M X G J S C P Q) N H k w := ⟨_, _, _, _, _, _, _, _, _, rfl, hC, hI⟩
  rcases hRE with ⟨r0, x1, ev⟩ | ⟨r1, r3, x1⟩
  · have cls := mX6_whyNoFill (l := l) M R 0 hC X G J S C P Q a x1
    rw [show vA (rfWh N a) ecO (v_whyNoFill N a) = (fX6_whyNoFill_v X G J S C P Q a) from (if_pos r0).trans ev]
    exact ⟨_, _, wL_tryWhy h475 (by decide) (by decide) a cls, inv⟩
  · have r0 : ¬ rfWh N a = 0 := by omega
    rw [show vA (rfWh N a) ecO (v_whyNoFill N a) = ecO (rfWh N a) from if_neg r0]
    have q0 : rfWh N a = 1 := by omega
    rw [q0, EE_1] at x1
    rw [q0]
    have cls := tX6_whyNoFill (l := l) hst M R 0 hC X G J S C P Q a x1
    exact ⟨_, _, wL_tryWhy_t1 h475 (by decide) (by decide) a cls, inv⟩
