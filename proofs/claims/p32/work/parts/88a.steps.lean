/-! THE STEPS: the actions, by the model's page. Laid by gen/q29.py. -/
theorem EE_1 (a b c : String) : EE a b c 1 = a := rfl
theorem EE_2 (a b c : String) : EE a b c 2 = b := rfl
theorem EE_3 (a b c : String) : EE a b c 3 = c := rfl
/-- what a call answers: a number, or what is refused -/
def vA (rf : Nat) (E : Nat → Int32) (v : Int32) : Int32 := if rf = 0 then v else E rf
def ecS (k : Nat) : Int32 := if k = 1 then -9999001 else if k = 2 then -9999002 else -9999003
def ecT (k : Nat) : Int32 := if k = 1 then -9999001 else -9999003
def ecA (_ : Nat) : Int32 := -9999002
def ecO (_ : Nat) : Int32 := -9999001
def hA (rf : Nat) (N : Nat → Int32) (H : Nat → Nat → Int32) : Nat → Nat → Int32 := if rf = 0 then cons N H else H
def kA (rf k : Nat) : Nat := if rf = 0 then kN k else k
def v_addHouse (N : Nat → Int32) (a : Int32) (d : Int32) : Int32 := if fX7_isSegment_v N a = 0 then 0 else if fX7_in_v d.toInt64 0 9 = 0 then 0 else if N 1 = 8 then 0 else fX7_houseOn_P N a d 1 - 1
def n_addHouse (N : Nat → Int32) (a : Int32) (d : Int32) : Nat → Int32 := if fX7_isSegment_v N a = 0 then N else if fX7_in_v d.toInt64 0 9 = 0 then N else if N 1 = 8 then N else fX7_houseOn_P N a d
theorem rL_addHouse (N : Nat → Int32) (a : Int32) (d : Int32) : rfAH N a d ≤ 3 := by
  unfold rfAH
  (repeat' split) <;> omega
set_option maxRecDepth 100000 in
theorem ac2_addHouse {u : Nat} {P N : Nat → Int32} (h : Rl P N) (hN : PI u N) (hu : 1998 * (u + 5000) < 2 ^ 31) (a : Int32) (d : Int32) : AC u P N (fX2_buildHouse_v P a d) (fX2_buildHouse_P P a d) (v_addHouse N a d) (n_addHouse N a d) (rfAH N a d) (EE xIO xIA xIS) := ac_addHouse h hN a d
theorem pi_addHouse {u : Nat} {N : Nat → Int32} (hN : PI u N) (hu : 1998 * (u + 5000) < 2 ^ 31) (a : Int32) (d : Int32) : PI (u + 850) (n_addHouse N a d) := by
  rcases ac2_addHouse (P := N) (fun _ _ => rfl) hN hu a d with ⟨-, -, -, -, h⟩ | ⟨-, -, -, -, h⟩
  · exact h
  · rw [h]; exact hN.le (by omega)
theorem no_addHouse {u : Nat} {N : Nat → Int32} (hN : PI u N) (hu : 1998 * (u + 5000) < 2 ^ 31) (a : Int32) (d : Int32) (h0 : ¬ rfAH N a d = 0) : n_addHouse N a d = N := by
  rcases ac2_addHouse (P := N) (fun _ _ => rfl) hN hu a d with ⟨r, -⟩ | ⟨-, -, -, -, h⟩
  · exact absurd r h0
  · exact h
theorem po_addHouse {u : Nat} {N : Nat → Int32} (hN : PI u N) (hu : 1998 * (u + 5000) < 2 ^ 31) (a : Int32) (d : Int32) (h0 : rfAH N a d = 0) : ¬ v_addHouse N a d < 0 := by
  rcases ac2_addHouse (P := N) (fun _ _ => rfl) hN hu a d with ⟨-, ⟨-, x⟩, e, -⟩ | ⟨r, -⟩
  · rw [e]; exact x
  · omega
set_option maxRecDepth 100000 in
theorem cl_addHouse {l : Launch} {Γ : gX} (hst : l.stackTraces = false) {u : Nat} {N : Nat → Int32} {H : Nat → Nat → Int32} {k : Nat} {w : WO} (hN : PI u N) (hu : 1998 * (u + 5000) < 2 ^ 31) (a : Int32) (d : Int32) : lW l Γ yL_tryBuild wsL_tryBuild [.ref (gad Γ 475), .int a, .int d] (SH Γ N H k w) (vA (rfAH N a d) ecS (v_addHouse N a d)) (SH Γ (n_addHouse N a d) (hA (rfAH N a d) N H) (kA (rfAH N a d) k) w) := by
  refine lW_of (fun Z R h => ?_)
  obtain ⟨M, X, G, J, S, C, P, Q, pm, rfl, hC, hI⟩ := h
  have hPG := hI.pr.pg hN
  have h475 := hC.1 475 (by decide) (by decide)
  have hk := hI.2.1
  have hJ := hI.2.2.1
  have hp := hI.1.1
  have lo := hI.pmlo (i := k) (by omega)
  have hLe := rL_addHouse N a d
  rcases ac2_addHouse hPG.1 hN hu a d with ⟨r0, ⟨x1, -⟩, ev, rl, pi⟩ | ⟨r1, r3, x1, eP, eN⟩
  · have cls := mX6_addHouse (l := l) M R 0 hC X G J S C P Q pm hp k hJ hk hPG.2.2 a d x1
    rw [show vA (rfAH N a d) ecS (v_addHouse N a d) = fX2_buildHouse_v P a d from (if_pos r0).trans ev, show hA (rfAH N a d) N H = cons N H from if_pos r0, show kA (rfAH N a d) k = kN k from if_pos r0]
    exact ⟨_, _, wL_tryBuild h475 (by decide) (by decide) a d cls, _, _, _, _, _, _, _, _, _, rfl, keepR_LC hC hJ hk, hI.act hN rl (hPG.2.2.of (fun i hi => fl_house P a d hi))⟩
  · have r0 : ¬ rfAH N a d = 0 := by omega
    rw [show vA (rfAH N a d) ecS (v_addHouse N a d) = ecS (rfAH N a d) from if_neg r0, show hA (rfAH N a d) N H = H from if_neg r0, show kA (rfAH N a d) k = k from if_neg r0, eN]
    have inv : INC Γ R (cS (va_up M (pm k) (fX2_copyFrom_P P (M (pm k)))) X G J S C P Q) N H k w := ⟨_, _, _, _, _, _, _, _, _, rfl, hC, hI.draft _⟩
    by_cases q0 : rfAH N a d = 1
    · rw [q0, EE_1] at x1
      rw [q0]
      have cls := tX6_addHouse (l := l) hst M R 0 hC X G J S C P Q pm hp k hJ hk hPG.2.2 a d x1
      rw [eP] at cls
      exact ⟨_, _, wL_tryBuild_t1 h475 (by decide) (by decide) a d cls, inv⟩
    by_cases q1 : rfAH N a d = 2
    · rw [q1, EE_2] at x1
      rw [q1]
      have cls := tX6_addHouse (l := l) hst M R 0 hC X G J S C P Q pm hp k hJ hk hPG.2.2 a d x1
      rw [eP] at cls
      exact ⟨_, _, wL_tryBuild_t2 h475 (by decide) (by decide) a d cls, inv⟩
    have q2 : rfAH N a d = 3 := by omega
    rw [q2, EE_3] at x1
    rw [q2]
    have cls := tX6_addHouse (l := l) hst M R 0 hC X G J S C P Q pm hp k hJ hk hPG.2.2 a d x1
    rw [eP] at cls
    exact ⟨_, _, wL_tryBuild_t3 h475 (by decide) (by decide) a d cls, inv⟩
def v_addWagon (N : Nat → Int32) (a : Int32) : Int32 := if fX7_isSegment_v N a = 0 then 0 else if N 2 = 3 then 0 else fX7_wagonOn_P N a 2 - 1
def n_addWagon (N : Nat → Int32) (a : Int32) : Nat → Int32 := if fX7_isSegment_v N a = 0 then N else if N 2 = 3 then N else fX7_wagonOn_P N a
theorem rL_addWagon (N : Nat → Int32) (a : Int32) : rfAW N a ≤ 2 := by
  unfold rfAW
  (repeat' split) <;> omega
set_option maxRecDepth 100000 in
theorem ac2_addWagon {u : Nat} {P N : Nat → Int32} (h : Rl P N) (hN : PI u N) (hu : 1998 * (u + 5000) < 2 ^ 31) (a : Int32) : AC u P N (fX2_bringWagon_v P a) (fX2_bringWagon_P P a) (v_addWagon N a) (n_addWagon N a) (rfAW N a) (EE xIO xIS xIS) := ac_addWagon h hN a
theorem pi_addWagon {u : Nat} {N : Nat → Int32} (hN : PI u N) (hu : 1998 * (u + 5000) < 2 ^ 31) (a : Int32) : PI (u + 850) (n_addWagon N a) := by
  rcases ac2_addWagon (P := N) (fun _ _ => rfl) hN hu a with ⟨-, -, -, -, h⟩ | ⟨-, -, -, -, h⟩
  · exact h
  · rw [h]; exact hN.le (by omega)
theorem no_addWagon {u : Nat} {N : Nat → Int32} (hN : PI u N) (hu : 1998 * (u + 5000) < 2 ^ 31) (a : Int32) (h0 : ¬ rfAW N a = 0) : n_addWagon N a = N := by
  rcases ac2_addWagon (P := N) (fun _ _ => rfl) hN hu a with ⟨r, -⟩ | ⟨-, -, -, -, h⟩
  · exact absurd r h0
  · exact h
theorem po_addWagon {u : Nat} {N : Nat → Int32} (hN : PI u N) (hu : 1998 * (u + 5000) < 2 ^ 31) (a : Int32) (h0 : rfAW N a = 0) : ¬ v_addWagon N a < 0 := by
  rcases ac2_addWagon (P := N) (fun _ _ => rfl) hN hu a with ⟨-, ⟨-, x⟩, e, -⟩ | ⟨r, -⟩
  · rw [e]; exact x
  · omega
set_option maxRecDepth 100000 in
theorem cl_addWagon {l : Launch} {Γ : gX} (hst : l.stackTraces = false) {u : Nat} {N : Nat → Int32} {H : Nat → Nat → Int32} {k : Nat} {w : WO} (hN : PI u N) (hu : 1998 * (u + 5000) < 2 ^ 31) (a : Int32) : lW l Γ yL_tryBring wsL_tryBring [.ref (gad Γ 475), .int a] (SH Γ N H k w) (vA (rfAW N a) ecT (v_addWagon N a)) (SH Γ (n_addWagon N a) (hA (rfAW N a) N H) (kA (rfAW N a) k) w) := by
  refine lW_of (fun Z R h => ?_)
  obtain ⟨M, X, G, J, S, C, P, Q, pm, rfl, hC, hI⟩ := h
  have hPG := hI.pr.pg hN
  have h475 := hC.1 475 (by decide) (by decide)
  have hk := hI.2.1
  have hJ := hI.2.2.1
  have hp := hI.1.1
  have lo := hI.pmlo (i := k) (by omega)
  have hLe := rL_addWagon N a
  rcases ac2_addWagon hPG.1 hN hu a with ⟨r0, ⟨x1, -⟩, ev, rl, pi⟩ | ⟨r1, r3, x1, eP, eN⟩
  · have cls := mX6_addWagon (l := l) M R 0 hC X G J S C P Q pm hp k hJ hk hPG.2.2 a x1
    rw [show vA (rfAW N a) ecT (v_addWagon N a) = fX2_bringWagon_v P a from (if_pos r0).trans ev, show hA (rfAW N a) N H = cons N H from if_pos r0, show kA (rfAW N a) k = kN k from if_pos r0]
    exact ⟨_, _, wL_tryBring h475 (by decide) (by decide) a cls, _, _, _, _, _, _, _, _, _, rfl, keepR_LC hC hJ hk, hI.act hN rl (hPG.2.2.of (fun i hi => fl_wagon P a hi))⟩
  · have r0 : ¬ rfAW N a = 0 := by omega
    rw [show vA (rfAW N a) ecT (v_addWagon N a) = ecT (rfAW N a) from if_neg r0, show hA (rfAW N a) N H = H from if_neg r0, show kA (rfAW N a) k = k from if_neg r0, eN]
    have inv : INC Γ R (cS (va_up M (pm k) (fX2_copyFrom_P P (M (pm k)))) X G J S C P Q) N H k w := ⟨_, _, _, _, _, _, _, _, _, rfl, hC, hI.draft _⟩
    by_cases q0 : rfAW N a = 1
    · rw [q0, EE_1] at x1
      rw [q0]
      have cls := tX6_addWagon (l := l) hst M R 0 hC X G J S C P Q pm hp k hJ hk hPG.2.2 a x1
      rw [eP] at cls
      exact ⟨_, _, wL_tryBring_t1 h475 (by decide) (by decide) a cls, inv⟩
    have q1 : rfAW N a = 2 := by omega
    rw [q1, EE_2] at x1
    rw [q1]
    have cls := tX6_addWagon (l := l) hst M R 0 hC X G J S C P Q pm hp k hJ hk hPG.2.2 a x1
    rw [eP] at cls
    exact ⟨_, _, wL_tryBring_t2 h475 (by decide) (by decide) a cls, inv⟩
def v_setSurface (N : Nat → Int32) (a : Int32) (d : Int32) : Int32 := if fX7_isSegment_v N a = 0 then 0 else if fX7_in_v d.toInt64 0 2 = 0 then 0 else N (12 + 7 * a.toNatClampNeg)
def n_setSurface (N : Nat → Int32) (a : Int32) (d : Int32) : Nat → Int32 := if fX7_isSegment_v N a = 0 then N else if fX7_in_v d.toInt64 0 2 = 0 then N else upd N (12 + 7 * a.toNatClampNeg) d
theorem rL_setSurface (N : Nat → Int32) (a : Int32) (d : Int32) : rfSS N a d ≤ 2 := by
  unfold rfSS
  (repeat' split) <;> omega
set_option maxRecDepth 100000 in
theorem ac2_setSurface {u : Nat} {P N : Nat → Int32} (h : Rl P N) (hN : PI u N) (hu : 1998 * (u + 5000) < 2 ^ 31) (a : Int32) (d : Int32) : AC u P N (fX2_changeSurface_v P a d) (fX2_changeSurface_P P a d) (v_setSurface N a d) (n_setSurface N a d) (rfSS N a d) (EE xIO xIA xIS) := ac_setSurface h hN a d
theorem pi_setSurface {u : Nat} {N : Nat → Int32} (hN : PI u N) (hu : 1998 * (u + 5000) < 2 ^ 31) (a : Int32) (d : Int32) : PI (u + 850) (n_setSurface N a d) := by
  rcases ac2_setSurface (P := N) (fun _ _ => rfl) hN hu a d with ⟨-, -, -, -, h⟩ | ⟨-, -, -, -, h⟩
  · exact h
  · rw [h]; exact hN.le (by omega)
theorem no_setSurface {u : Nat} {N : Nat → Int32} (hN : PI u N) (hu : 1998 * (u + 5000) < 2 ^ 31) (a : Int32) (d : Int32) (h0 : ¬ rfSS N a d = 0) : n_setSurface N a d = N := by
  rcases ac2_setSurface (P := N) (fun _ _ => rfl) hN hu a d with ⟨r, -⟩ | ⟨-, -, -, -, h⟩
  · exact absurd r h0
  · exact h
theorem po_setSurface {u : Nat} {N : Nat → Int32} (hN : PI u N) (hu : 1998 * (u + 5000) < 2 ^ 31) (a : Int32) (d : Int32) (h0 : rfSS N a d = 0) : ¬ v_setSurface N a d < 0 := by
  rcases ac2_setSurface (P := N) (fun _ _ => rfl) hN hu a d with ⟨-, ⟨-, x⟩, e, -⟩ | ⟨r, -⟩
  · rw [e]; exact x
  · omega
set_option maxRecDepth 100000 in
theorem cl_setSurface {l : Launch} {Γ : gX} (hst : l.stackTraces = false) {u : Nat} {N : Nat → Int32} {H : Nat → Nat → Int32} {k : Nat} {w : WO} (hN : PI u N) (hu : 1998 * (u + 5000) < 2 ^ 31) (a : Int32) (d : Int32) : lW l Γ yL_trySurface wsL_trySurface [.ref (gad Γ 475), .int a, .int d] (SH Γ N H k w) (vA (rfSS N a d) ecS (v_setSurface N a d)) (SH Γ (n_setSurface N a d) (hA (rfSS N a d) N H) (kA (rfSS N a d) k) w) := by
  refine lW_of (fun Z R h => ?_)
  obtain ⟨M, X, G, J, S, C, P, Q, pm, rfl, hC, hI⟩ := h
  have hPG := hI.pr.pg hN
  have h475 := hC.1 475 (by decide) (by decide)
  have hk := hI.2.1
  have hJ := hI.2.2.1
  have hp := hI.1.1
  have lo := hI.pmlo (i := k) (by omega)
  have hLe := rL_setSurface N a d
  rcases ac2_setSurface hPG.1 hN hu a d with ⟨r0, ⟨x1, -⟩, ev, rl, pi⟩ | ⟨r1, r3, x1, eP, eN⟩
  · have cls := mX6_setSurface (l := l) M R 0 hC X G J S C P Q pm hp k hJ hk hPG.2.2 a d x1
    rw [show vA (rfSS N a d) ecS (v_setSurface N a d) = fX2_changeSurface_v P a d from (if_pos r0).trans ev, show hA (rfSS N a d) N H = cons N H from if_pos r0, show kA (rfSS N a d) k = kN k from if_pos r0]
    exact ⟨_, _, wL_trySurface h475 (by decide) (by decide) a d cls, _, _, _, _, _, _, _, _, _, rfl, keepR_LC hC hJ hk, hI.act hN rl (hPG.2.2.of (fun i hi => fl_surface P a d hi))⟩
  · have r0 : ¬ rfSS N a d = 0 := by omega
    rw [show vA (rfSS N a d) ecS (v_setSurface N a d) = ecS (rfSS N a d) from if_neg r0, show hA (rfSS N a d) N H = H from if_neg r0, show kA (rfSS N a d) k = k from if_neg r0, eN]
    have inv : INC Γ R (cS (va_up M (pm k) (fX2_copyFrom_P P (M (pm k)))) X G J S C P Q) N H k w := ⟨_, _, _, _, _, _, _, _, _, rfl, hC, hI.draft _⟩
    by_cases q0 : rfSS N a d = 1
    · rw [q0, EE_1] at x1
      rw [q0]
      have cls := tX6_setSurface (l := l) hst M R 0 hC X G J S C P Q pm hp k hJ hk hPG.2.2 a d x1
      rw [eP] at cls
      exact ⟨_, _, wL_trySurface_t1 h475 (by decide) (by decide) a d cls, inv⟩
    have q1 : rfSS N a d = 2 := by omega
    rw [q1, EE_2] at x1
    rw [q1]
    have cls := tX6_setSurface (l := l) hst M R 0 hC X G J S C P Q pm hp k hJ hk hPG.2.2 a d x1
    rw [eP] at cls
    exact ⟨_, _, wL_trySurface_t2 h475 (by decide) (by decide) a d cls, inv⟩
def v_setLimit (N : Nat → Int32) (a : Int32) (d : Int32) : Int32 := if fX7_isSegment_v N a = 0 then 0 else if fX7_in_v d.toInt64 1 5 = 0 then 0 else if d ≤ 5 - N (12 + 7 * a.toNatClampNeg + 2) then N (12 + 7 * a.toNatClampNeg + 1) else 0
def n_setLimit (N : Nat → Int32) (a : Int32) (d : Int32) : Nat → Int32 := if fX7_isSegment_v N a = 0 then N else if fX7_in_v d.toInt64 1 5 = 0 then N else if d ≤ 5 - N (12 + 7 * a.toNatClampNeg + 2) then upd N (12 + 7 * a.toNatClampNeg + 1) d else N
theorem rL_setLimit (N : Nat → Int32) (a : Int32) (d : Int32) : rfSL N a d ≤ 3 := by
  unfold rfSL
  (repeat' split) <;> omega
set_option maxRecDepth 100000 in
theorem ac2_setLimit {u : Nat} {P N : Nat → Int32} (h : Rl P N) (hN : PI u N) (hu : 1998 * (u + 5000) < 2 ^ 31) (a : Int32) (d : Int32) : AC u P N (fX2_changeLimit_v P a d) (fX2_changeLimit_P P a d) (v_setLimit N a d) (n_setLimit N a d) (rfSL N a d) (EE xIO xIA xIS) := ac_setLimit h hN a d
theorem pi_setLimit {u : Nat} {N : Nat → Int32} (hN : PI u N) (hu : 1998 * (u + 5000) < 2 ^ 31) (a : Int32) (d : Int32) : PI (u + 850) (n_setLimit N a d) := by
  rcases ac2_setLimit (P := N) (fun _ _ => rfl) hN hu a d with ⟨-, -, -, -, h⟩ | ⟨-, -, -, -, h⟩
  · exact h
  · rw [h]; exact hN.le (by omega)
theorem no_setLimit {u : Nat} {N : Nat → Int32} (hN : PI u N) (hu : 1998 * (u + 5000) < 2 ^ 31) (a : Int32) (d : Int32) (h0 : ¬ rfSL N a d = 0) : n_setLimit N a d = N := by
  rcases ac2_setLimit (P := N) (fun _ _ => rfl) hN hu a d with ⟨r, -⟩ | ⟨-, -, -, -, h⟩
  · exact absurd r h0
  · exact h
theorem po_setLimit {u : Nat} {N : Nat → Int32} (hN : PI u N) (hu : 1998 * (u + 5000) < 2 ^ 31) (a : Int32) (d : Int32) (h0 : rfSL N a d = 0) : ¬ v_setLimit N a d < 0 := by
  rcases ac2_setLimit (P := N) (fun _ _ => rfl) hN hu a d with ⟨-, ⟨-, x⟩, e, -⟩ | ⟨r, -⟩
  · rw [e]; exact x
  · omega
set_option maxRecDepth 100000 in
theorem cl_setLimit {l : Launch} {Γ : gX} (hst : l.stackTraces = false) {u : Nat} {N : Nat → Int32} {H : Nat → Nat → Int32} {k : Nat} {w : WO} (hN : PI u N) (hu : 1998 * (u + 5000) < 2 ^ 31) (a : Int32) (d : Int32) : lW l Γ yL_tryLimit wsL_tryLimit [.ref (gad Γ 475), .int a, .int d] (SH Γ N H k w) (vA (rfSL N a d) ecS (v_setLimit N a d)) (SH Γ (n_setLimit N a d) (hA (rfSL N a d) N H) (kA (rfSL N a d) k) w) := by
  refine lW_of (fun Z R h => ?_)
  obtain ⟨M, X, G, J, S, C, P, Q, pm, rfl, hC, hI⟩ := h
  have hPG := hI.pr.pg hN
  have h475 := hC.1 475 (by decide) (by decide)
  have hk := hI.2.1
  have hJ := hI.2.2.1
  have hp := hI.1.1
  have lo := hI.pmlo (i := k) (by omega)
  have hLe := rL_setLimit N a d
  rcases ac2_setLimit hPG.1 hN hu a d with ⟨r0, ⟨x1, -⟩, ev, rl, pi⟩ | ⟨r1, r3, x1, eP, eN⟩
  · have cls := mX6_setLimit (l := l) M R 0 hC X G J S C P Q pm hp k hJ hk hPG.2.2 a d x1
    rw [show vA (rfSL N a d) ecS (v_setLimit N a d) = fX2_changeLimit_v P a d from (if_pos r0).trans ev, show hA (rfSL N a d) N H = cons N H from if_pos r0, show kA (rfSL N a d) k = kN k from if_pos r0]
    exact ⟨_, _, wL_tryLimit h475 (by decide) (by decide) a d cls, _, _, _, _, _, _, _, _, _, rfl, keepR_LC hC hJ hk, hI.act hN rl (hPG.2.2.of (fun i hi => fl_limit P a d hi))⟩
  · have r0 : ¬ rfSL N a d = 0 := by omega
    rw [show vA (rfSL N a d) ecS (v_setLimit N a d) = ecS (rfSL N a d) from if_neg r0, show hA (rfSL N a d) N H = H from if_neg r0, show kA (rfSL N a d) k = k from if_neg r0, eN]
    have inv : INC Γ R (cS (va_up M (pm k) (fX2_copyFrom_P P (M (pm k)))) X G J S C P Q) N H k w := ⟨_, _, _, _, _, _, _, _, _, rfl, hC, hI.draft _⟩
    by_cases q0 : rfSL N a d = 1
    · rw [q0, EE_1] at x1
      rw [q0]
      have cls := tX6_setLimit (l := l) hst M R 0 hC X G J S C P Q pm hp k hJ hk hPG.2.2 a d x1
      rw [eP] at cls
      exact ⟨_, _, wL_tryLimit_t1 h475 (by decide) (by decide) a d cls, inv⟩
    by_cases q1 : rfSL N a d = 2
    · rw [q1, EE_2] at x1
      rw [q1]
      have cls := tX6_setLimit (l := l) hst M R 0 hC X G J S C P Q pm hp k hJ hk hPG.2.2 a d x1
      rw [eP] at cls
      exact ⟨_, _, wL_tryLimit_t2 h475 (by decide) (by decide) a d cls, inv⟩
    have q2 : rfSL N a d = 3 := by omega
    rw [q2, EE_3] at x1
    rw [q2]
    have cls := tX6_setLimit (l := l) hst M R 0 hC X G J S C P Q pm hp k hJ hk hPG.2.2 a d x1
    rw [eP] at cls
    exact ⟨_, _, wL_tryLimit_t3 h475 (by decide) (by decide) a d cls, inv⟩
def v_set (N : Nat → Int32) (a : Int32) (d : Int32) : Int32 := if fX7_isSetting_v a d = 0 then 0 else N a.toNatClampNeg
def n_set (N : Nat → Int32) (a : Int32) (d : Int32) : Nat → Int32 := if fX7_isSetting_v a d = 0 then N else upd N a.toNatClampNeg d
theorem rL_set (N : Nat → Int32) (a : Int32) (d : Int32) : rfST a d ≤ 1 := by
  unfold rfST
  (repeat' split) <;> omega
set_option maxRecDepth 100000 in
theorem ac2_set {u : Nat} {P N : Nat → Int32} (h : Rl P N) (hN : PI u N) (hu : 1998 * (u + 5000) < 2 ^ 31) (a : Int32) (d : Int32) : AC u P N (fX2_changeNumber_v P a d) (fX2_changeNumber_P P a d) (v_set N a d) (n_set N a d) (rfST a d) (EE xIA xIA xIA) := ac_set h hN a d
theorem pi_set {u : Nat} {N : Nat → Int32} (hN : PI u N) (hu : 1998 * (u + 5000) < 2 ^ 31) (a : Int32) (d : Int32) : PI (u + 850) (n_set N a d) := by
  rcases ac2_set (P := N) (fun _ _ => rfl) hN hu a d with ⟨-, -, -, -, h⟩ | ⟨-, -, -, -, h⟩
  · exact h
  · rw [h]; exact hN.le (by omega)
theorem no_set {u : Nat} {N : Nat → Int32} (hN : PI u N) (hu : 1998 * (u + 5000) < 2 ^ 31) (a : Int32) (d : Int32) (h0 : ¬ rfST a d = 0) : n_set N a d = N := by
  rcases ac2_set (P := N) (fun _ _ => rfl) hN hu a d with ⟨r, -⟩ | ⟨-, -, -, -, h⟩
  · exact absurd r h0
  · exact h
theorem po_set {u : Nat} {N : Nat → Int32} (hN : PI u N) (hu : 1998 * (u + 5000) < 2 ^ 31) (a : Int32) (d : Int32) (h0 : rfST a d = 0) : ¬ v_set N a d < 0 := by
  rcases ac2_set (P := N) (fun _ _ => rfl) hN hu a d with ⟨-, ⟨-, x⟩, e, -⟩ | ⟨r, -⟩
  · rw [e]; exact x
  · omega
set_option maxRecDepth 100000 in
theorem cl_set {l : Launch} {Γ : gX} (hst : l.stackTraces = false) {u : Nat} {N : Nat → Int32} {H : Nat → Nat → Int32} {k : Nat} {w : WO} (hN : PI u N) (hu : 1998 * (u + 5000) < 2 ^ 31) (a : Int32) (d : Int32) : lW l Γ yL_trySet wsL_trySet [.ref (gad Γ 475), .int a, .int d] (SH Γ N H k w) (vA (rfST a d) ecA (v_set N a d)) (SH Γ (n_set N a d) (hA (rfST a d) N H) (kA (rfST a d) k) w) := by
  refine lW_of (fun Z R h => ?_)
  obtain ⟨M, X, G, J, S, C, P, Q, pm, rfl, hC, hI⟩ := h
  have hPG := hI.pr.pg hN
  have h475 := hC.1 475 (by decide) (by decide)
  have hk := hI.2.1
  have hJ := hI.2.2.1
  have hp := hI.1.1
  have lo := hI.pmlo (i := k) (by omega)
  have hLe := rL_set N a d
  rcases ac2_set hPG.1 hN hu a d with ⟨r0, ⟨x1, -⟩, ev, rl, pi⟩ | ⟨r1, r3, x1, eP, eN⟩
  · have cls := mX6_set (l := l) M R 0 hC X G J S C P Q pm hp k hJ hk hPG.2.2 a d x1
    rw [show vA (rfST a d) ecA (v_set N a d) = fX2_changeNumber_v P a d from (if_pos r0).trans ev, show hA (rfST a d) N H = cons N H from if_pos r0, show kA (rfST a d) k = kN k from if_pos r0]
    exact ⟨_, _, wL_trySet h475 (by decide) (by decide) a d cls, _, _, _, _, _, _, _, _, _, rfl, keepR_LC hC hJ hk, hI.act hN rl (hPG.2.2.of (fun i hi => fl_set P a d hi))⟩
  · have r0 : ¬ rfST a d = 0 := by omega
    rw [show vA (rfST a d) ecA (v_set N a d) = ecA (rfST a d) from if_neg r0, show hA (rfST a d) N H = H from if_neg r0, show kA (rfST a d) k = k from if_neg r0, eN]
    have inv : INC Γ R (cS (va_up M (pm k) (fX2_copyFrom_P P (M (pm k)))) X G J S C P Q) N H k w := ⟨_, _, _, _, _, _, _, _, _, rfl, hC, hI.draft _⟩
    have q0 : rfST a d = 1 := by omega
    rw [q0, EE_1] at x1
    rw [q0]
    have cls := tX6_set (l := l) hst M R 0 hC X G J S C P Q pm hp k hJ hk hPG.2.2 a d x1
    rw [eP] at cls
    exact ⟨_, _, wL_trySet_t1 h475 (by decide) (by decide) a d cls, inv⟩
def v_drive (N : Nat → Int32) (a : Int32) (d : Int32) : Int32 := if fX7_isWagon_v N a = 0 then 0 else if fX7_isSegment_v N d = 0 then 0 else if fX7_far_v N a.toNatClampNeg d ≤ N (122 + 3 * a.toNatClampNeg + 2) then fX7_driveOn_P N a.toNatClampNeg d (122 + 3 * a.toNatClampNeg + 2) else 0
def n_drive (N : Nat → Int32) (a : Int32) (d : Int32) : Nat → Int32 := if fX7_isWagon_v N a = 0 then N else if fX7_isSegment_v N d = 0 then N else if fX7_far_v N a.toNatClampNeg d ≤ N (122 + 3 * a.toNatClampNeg + 2) then fX7_driveOn_P N a.toNatClampNeg d else N
theorem rL_drive (N : Nat → Int32) (a : Int32) (d : Int32) : rfDR N a d ≤ 2 := by
  unfold rfDR
  (repeat' split) <;> omega
set_option maxRecDepth 100000 in
theorem ac2_drive {u : Nat} {P N : Nat → Int32} (h : Rl P N) (hN : PI u N) (hu : 1998 * (u + 5000) < 2 ^ 31) (a : Int32) (d : Int32) : AC u P N (fX2_moveWagon_v P a d) (fX2_moveWagon_P P a d) (v_drive N a d) (n_drive N a d) (rfDR N a d) (EE xIO xIS xIS) := ac_drive h hN a d
theorem pi_drive {u : Nat} {N : Nat → Int32} (hN : PI u N) (hu : 1998 * (u + 5000) < 2 ^ 31) (a : Int32) (d : Int32) : PI (u + 850) (n_drive N a d) := by
  rcases ac2_drive (P := N) (fun _ _ => rfl) hN hu a d with ⟨-, -, -, -, h⟩ | ⟨-, -, -, -, h⟩
  · exact h
  · rw [h]; exact hN.le (by omega)
theorem no_drive {u : Nat} {N : Nat → Int32} (hN : PI u N) (hu : 1998 * (u + 5000) < 2 ^ 31) (a : Int32) (d : Int32) (h0 : ¬ rfDR N a d = 0) : n_drive N a d = N := by
  rcases ac2_drive (P := N) (fun _ _ => rfl) hN hu a d with ⟨r, -⟩ | ⟨-, -, -, -, h⟩
  · exact absurd r h0
  · exact h
theorem po_drive {u : Nat} {N : Nat → Int32} (hN : PI u N) (hu : 1998 * (u + 5000) < 2 ^ 31) (a : Int32) (d : Int32) (h0 : rfDR N a d = 0) : ¬ v_drive N a d < 0 := by
  rcases ac2_drive (P := N) (fun _ _ => rfl) hN hu a d with ⟨-, ⟨-, x⟩, e, -⟩ | ⟨r, -⟩
  · rw [e]; exact x
  · omega
set_option maxRecDepth 100000 in
theorem cl_drive {l : Launch} {Γ : gX} (hst : l.stackTraces = false) {u : Nat} {N : Nat → Int32} {H : Nat → Nat → Int32} {k : Nat} {w : WO} (hN : PI u N) (hu : 1998 * (u + 5000) < 2 ^ 31) (a : Int32) (d : Int32) : lW l Γ yL_tryDrive wsL_tryDrive [.ref (gad Γ 475), .int a, .int d] (SH Γ N H k w) (vA (rfDR N a d) ecT (v_drive N a d)) (SH Γ (n_drive N a d) (hA (rfDR N a d) N H) (kA (rfDR N a d) k) w) := by
  refine lW_of (fun Z R h => ?_)
  obtain ⟨M, X, G, J, S, C, P, Q, pm, rfl, hC, hI⟩ := h
  have hPG := hI.pr.pg hN
  have h475 := hC.1 475 (by decide) (by decide)
  have hk := hI.2.1
  have hJ := hI.2.2.1
  have hp := hI.1.1
  have lo := hI.pmlo (i := k) (by omega)
  have hLe := rL_drive N a d
  rcases ac2_drive hPG.1 hN hu a d with ⟨r0, ⟨x1, -⟩, ev, rl, pi⟩ | ⟨r1, r3, x1, eP, eN⟩
  · have cls := mX6_drive (l := l) M R 0 hC X G J S C P Q pm hp k hJ hk hPG.2.2 a d x1
    rw [show vA (rfDR N a d) ecT (v_drive N a d) = fX2_moveWagon_v P a d from (if_pos r0).trans ev, show hA (rfDR N a d) N H = cons N H from if_pos r0, show kA (rfDR N a d) k = kN k from if_pos r0]
    exact ⟨_, _, wL_tryDrive h475 (by decide) (by decide) a d cls, _, _, _, _, _, _, _, _, _, rfl, keepR_LC hC hJ hk, hI.act hN rl (hPG.2.2.of (fun i hi => fl_drive P a d hi))⟩
  · have r0 : ¬ rfDR N a d = 0 := by omega
    rw [show vA (rfDR N a d) ecT (v_drive N a d) = ecT (rfDR N a d) from if_neg r0, show hA (rfDR N a d) N H = H from if_neg r0, show kA (rfDR N a d) k = k from if_neg r0, eN]
    have inv : INC Γ R (cS (va_up M (pm k) (fX2_copyFrom_P P (M (pm k)))) X G J S C P Q) N H k w := ⟨_, _, _, _, _, _, _, _, _, rfl, hC, hI.draft _⟩
    by_cases q0 : rfDR N a d = 1
    · rw [q0, EE_1] at x1
      rw [q0]
      have cls := tX6_drive (l := l) hst M R 0 hC X G J S C P Q pm hp k hJ hk hPG.2.2 a d x1
      rw [eP] at cls
      exact ⟨_, _, wL_tryDrive_t1 h475 (by decide) (by decide) a d cls, inv⟩
    have q1 : rfDR N a d = 2 := by omega
    rw [q1, EE_2] at x1
    rw [q1]
    have cls := tX6_drive (l := l) hst M R 0 hC X G J S C P Q pm hp k hJ hk hPG.2.2 a d x1
    rw [eP] at cls
    exact ⟨_, _, wL_tryDrive_t2 h475 (by decide) (by decide) a d cls, inv⟩
def v_spray (N : Nat → Int32) (a : Int32) (d : Int32) : Int32 := if fX7_isWagon_v N a = 0 then 0 else if fX7_in_v d.toInt64 1 9 = 0 then 0 else if N (122 + 3 * a.toNatClampNeg + 2) = 0 then 0 else if d ≤ N (122 + 3 * a.toNatClampNeg + 1) then fX7_sprayOn_P N a.toNatClampNeg d (12 + 7 * (fX7_sprayOn_P N a.toNatClampNeg d (122 + 3 * a.toNatClampNeg)).toNatClampNeg + 4) else 0
def n_spray (N : Nat → Int32) (a : Int32) (d : Int32) : Nat → Int32 := if fX7_isWagon_v N a = 0 then N else if fX7_in_v d.toInt64 1 9 = 0 then N else if N (122 + 3 * a.toNatClampNeg + 2) = 0 then N else if d ≤ N (122 + 3 * a.toNatClampNeg + 1) then fX7_sprayOn_P N a.toNatClampNeg d else N
theorem rL_spray (N : Nat → Int32) (a : Int32) (d : Int32) : rfSP N a d ≤ 3 := by
  unfold rfSP
  (repeat' split) <;> omega
set_option maxRecDepth 100000 in
theorem ac2_spray {u : Nat} {P N : Nat → Int32} (h : Rl P N) (hN : PI u N) (hu : 1998 * (u + 5000) < 2 ^ 31) (a : Int32) (d : Int32) : AC u P N (fX2_sprayFrom_v P a d) (fX2_sprayFrom_P P a d) (v_spray N a d) (n_spray N a d) (rfSP N a d) (EE xIO xIA xIS) := ac_spray h hN (by omega) a d
theorem pi_spray {u : Nat} {N : Nat → Int32} (hN : PI u N) (hu : 1998 * (u + 5000) < 2 ^ 31) (a : Int32) (d : Int32) : PI (u + 850) (n_spray N a d) := by
  rcases ac2_spray (P := N) (fun _ _ => rfl) hN hu a d with ⟨-, -, -, -, h⟩ | ⟨-, -, -, -, h⟩
  · exact h
  · rw [h]; exact hN.le (by omega)
theorem no_spray {u : Nat} {N : Nat → Int32} (hN : PI u N) (hu : 1998 * (u + 5000) < 2 ^ 31) (a : Int32) (d : Int32) (h0 : ¬ rfSP N a d = 0) : n_spray N a d = N := by
  rcases ac2_spray (P := N) (fun _ _ => rfl) hN hu a d with ⟨r, -⟩ | ⟨-, -, -, -, h⟩
  · exact absurd r h0
  · exact h
theorem po_spray {u : Nat} {N : Nat → Int32} (hN : PI u N) (hu : 1998 * (u + 5000) < 2 ^ 31) (a : Int32) (d : Int32) (h0 : rfSP N a d = 0) : ¬ v_spray N a d < 0 := by
  rcases ac2_spray (P := N) (fun _ _ => rfl) hN hu a d with ⟨-, ⟨-, x⟩, e, -⟩ | ⟨r, -⟩
  · rw [e]; exact x
  · omega
set_option maxRecDepth 100000 in
theorem cl_spray {l : Launch} {Γ : gX} (hst : l.stackTraces = false) {u : Nat} {N : Nat → Int32} {H : Nat → Nat → Int32} {k : Nat} {w : WO} (hN : PI u N) (hu : 1998 * (u + 5000) < 2 ^ 31) (a : Int32) (d : Int32) : lW l Γ yL_trySpray wsL_trySpray [.ref (gad Γ 475), .int a, .int d] (SH Γ N H k w) (vA (rfSP N a d) ecS (v_spray N a d)) (SH Γ (n_spray N a d) (hA (rfSP N a d) N H) (kA (rfSP N a d) k) w) := by
  refine lW_of (fun Z R h => ?_)
  obtain ⟨M, X, G, J, S, C, P, Q, pm, rfl, hC, hI⟩ := h
  have hPG := hI.pr.pg hN
  have h475 := hC.1 475 (by decide) (by decide)
  have hk := hI.2.1
  have hJ := hI.2.2.1
  have hp := hI.1.1
  have lo := hI.pmlo (i := k) (by omega)
  have hLe := rL_spray N a d
  rcases ac2_spray hPG.1 hN hu a d with ⟨r0, ⟨x1, -⟩, ev, rl, pi⟩ | ⟨r1, r3, x1, eP, eN⟩
  · have cls := mX6_spray (l := l) M R 0 hC X G J S C P Q pm hp k hJ hk hPG.2.2 a d x1
    rw [show vA (rfSP N a d) ecS (v_spray N a d) = fX2_sprayFrom_v P a d from (if_pos r0).trans ev, show hA (rfSP N a d) N H = cons N H from if_pos r0, show kA (rfSP N a d) k = kN k from if_pos r0]
    exact ⟨_, _, wL_trySpray h475 (by decide) (by decide) a d cls, _, _, _, _, _, _, _, _, _, rfl, keepR_LC hC hJ hk, hI.act hN rl (hPG.2.2.of (fun i hi => fl_spray P a d hi))⟩
  · have r0 : ¬ rfSP N a d = 0 := by omega
    rw [show vA (rfSP N a d) ecS (v_spray N a d) = ecS (rfSP N a d) from if_neg r0, show hA (rfSP N a d) N H = H from if_neg r0, show kA (rfSP N a d) k = k from if_neg r0, eN]
    have inv : INC Γ R (cS (va_up M (pm k) (fX2_copyFrom_P P (M (pm k)))) X G J S C P Q) N H k w := ⟨_, _, _, _, _, _, _, _, _, rfl, hC, hI.draft _⟩
    by_cases q0 : rfSP N a d = 1
    · rw [q0, EE_1] at x1
      rw [q0]
      have cls := tX6_spray (l := l) hst M R 0 hC X G J S C P Q pm hp k hJ hk hPG.2.2 a d x1
      rw [eP] at cls
      exact ⟨_, _, wL_trySpray_t1 h475 (by decide) (by decide) a d cls, inv⟩
    by_cases q1 : rfSP N a d = 2
    · rw [q1, EE_2] at x1
      rw [q1]
      have cls := tX6_spray (l := l) hst M R 0 hC X G J S C P Q pm hp k hJ hk hPG.2.2 a d x1
      rw [eP] at cls
      exact ⟨_, _, wL_trySpray_t2 h475 (by decide) (by decide) a d cls, inv⟩
    have q2 : rfSP N a d = 3 := by omega
    rw [q2, EE_3] at x1
    rw [q2]
    have cls := tX6_spray (l := l) hst M R 0 hC X G J S C P Q pm hp k hJ hk hPG.2.2 a d x1
    rw [eP] at cls
    exact ⟨_, _, wL_trySpray_t3 h475 (by decide) (by decide) a d cls, inv⟩
def v_fill (N : Nat → Int32) (a : Int32) : Int32 := if fX7_isWagon_v N a = 0 then 0 else if fX7_why_v N a.toNatClampNeg = 0 then fX7_fillOn_v N a.toNatClampNeg else 0
def n_fill (N : Nat → Int32) (a : Int32) : Nat → Int32 := if fX7_isWagon_v N a = 0 then N else if fX7_why_v N a.toNatClampNeg = 0 then fX7_fillOn_P N a.toNatClampNeg else N
theorem rL_fill (N : Nat → Int32) (a : Int32) : rfFI N a ≤ 2 := by
  unfold rfFI
  (repeat' split) <;> omega
set_option maxRecDepth 100000 in
theorem ac2_fill {u : Nat} {P N : Nat → Int32} (h : Rl P N) (hN : PI u N) (hu : 1998 * (u + 5000) < 2 ^ 31) (a : Int32) : AC u P N (fX2_fillTank_v P a) (fX2_fillTank_P P a) (v_fill N a) (n_fill N a) (rfFI N a) (EE xIO xIS xIS) := ac_fill h hN a
theorem pi_fill {u : Nat} {N : Nat → Int32} (hN : PI u N) (hu : 1998 * (u + 5000) < 2 ^ 31) (a : Int32) : PI (u + 850) (n_fill N a) := by
  rcases ac2_fill (P := N) (fun _ _ => rfl) hN hu a with ⟨-, -, -, -, h⟩ | ⟨-, -, -, -, h⟩
  · exact h
  · rw [h]; exact hN.le (by omega)
theorem no_fill {u : Nat} {N : Nat → Int32} (hN : PI u N) (hu : 1998 * (u + 5000) < 2 ^ 31) (a : Int32) (h0 : ¬ rfFI N a = 0) : n_fill N a = N := by
  rcases ac2_fill (P := N) (fun _ _ => rfl) hN hu a with ⟨r, -⟩ | ⟨-, -, -, -, h⟩
  · exact absurd r h0
  · exact h
theorem po_fill {u : Nat} {N : Nat → Int32} (hN : PI u N) (hu : 1998 * (u + 5000) < 2 ^ 31) (a : Int32) (h0 : rfFI N a = 0) : ¬ v_fill N a < 0 := by
  rcases ac2_fill (P := N) (fun _ _ => rfl) hN hu a with ⟨-, ⟨-, x⟩, e, -⟩ | ⟨r, -⟩
  · rw [e]; exact x
  · omega
set_option maxRecDepth 100000 in
theorem cl_fill {l : Launch} {Γ : gX} (hst : l.stackTraces = false) {u : Nat} {N : Nat → Int32} {H : Nat → Nat → Int32} {k : Nat} {w : WO} (hN : PI u N) (hu : 1998 * (u + 5000) < 2 ^ 31) (a : Int32) : lW l Γ yL_tryFill wsL_tryFill [.ref (gad Γ 475), .int a] (SH Γ N H k w) (vA (rfFI N a) ecT (v_fill N a)) (SH Γ (n_fill N a) (hA (rfFI N a) N H) (kA (rfFI N a) k) w) := by
  refine lW_of (fun Z R h => ?_)
  obtain ⟨M, X, G, J, S, C, P, Q, pm, rfl, hC, hI⟩ := h
  have hPG := hI.pr.pg hN
  have h475 := hC.1 475 (by decide) (by decide)
  have hk := hI.2.1
  have hJ := hI.2.2.1
  have hp := hI.1.1
  have lo := hI.pmlo (i := k) (by omega)
  have hLe := rL_fill N a
  rcases ac2_fill hPG.1 hN hu a with ⟨r0, ⟨x1, -⟩, ev, rl, pi⟩ | ⟨r1, r3, x1, eP, eN⟩
  · have cls := mX6_fill (l := l) M R 0 hC X G J S C P Q pm hp k hJ hk hPG.2.2 a x1
    rw [show vA (rfFI N a) ecT (v_fill N a) = fX2_fillTank_v P a from (if_pos r0).trans ev, show hA (rfFI N a) N H = cons N H from if_pos r0, show kA (rfFI N a) k = kN k from if_pos r0]
    exact ⟨_, _, wL_tryFill h475 (by decide) (by decide) a cls, _, _, _, _, _, _, _, _, _, rfl, keepR_LC hC hJ hk, hI.act hN rl (hPG.2.2.of (fun i hi => fl_fill P a hi))⟩
  · have r0 : ¬ rfFI N a = 0 := by omega
    rw [show vA (rfFI N a) ecT (v_fill N a) = ecT (rfFI N a) from if_neg r0, show hA (rfFI N a) N H = H from if_neg r0, show kA (rfFI N a) k = k from if_neg r0, eN]
    have inv : INC Γ R (cS (va_up M (pm k) (fX2_copyFrom_P P (M (pm k)))) X G J S C P Q) N H k w := ⟨_, _, _, _, _, _, _, _, _, rfl, hC, hI.draft _⟩
    by_cases q0 : rfFI N a = 1
    · rw [q0, EE_1] at x1
      rw [q0]
      have cls := tX6_fill (l := l) hst M R 0 hC X G J S C P Q pm hp k hJ hk hPG.2.2 a x1
      rw [eP] at cls
      exact ⟨_, _, wL_tryFill_t1 h475 (by decide) (by decide) a cls, inv⟩
    have q1 : rfFI N a = 2 := by omega
    rw [q1, EE_2] at x1
    rw [q1]
    have cls := tX6_fill (l := l) hst M R 0 hC X G J S C P Q pm hp k hJ hk hPG.2.2 a x1
    rw [eP] at cls
    exact ⟨_, _, wL_tryFill_t2 h475 (by decide) (by decide) a cls, inv⟩
def v_pass (N : Nat → Int32) (a : Int32) : Int32 := if fX7_in_v a.toInt64 1 50 = 0 then 0 else fX7_pass_L N a.toNatClampNeg 10 - N 10
def n_pass (N : Nat → Int32) (a : Int32) : Nat → Int32 := if fX7_in_v a.toInt64 1 50 = 0 then N else fX7_pass_L N a.toNatClampNeg
theorem rL_pass (N : Nat → Int32) (a : Int32) : rfPA a ≤ 1 := by
  unfold rfPA
  (repeat' split) <;> omega
set_option maxRecDepth 100000 in
theorem ac2_pass {u : Nat} {P N : Nat → Int32} (h : Rl P N) (hN : PI u N) (hu : 1998 * (u + 5000) < 2 ^ 31) (a : Int32) : AC u P N (fX2_goHours_v P a) (fX2_goHours_P P a) (v_pass N a) (n_pass N a) (rfPA a) (EE xIA xIA xIA) := ac_pass h hN (by omega) a
theorem pi_pass {u : Nat} {N : Nat → Int32} (hN : PI u N) (hu : 1998 * (u + 5000) < 2 ^ 31) (a : Int32) : PI (u + 850) (n_pass N a) := by
  rcases ac2_pass (P := N) (fun _ _ => rfl) hN hu a with ⟨-, -, -, -, h⟩ | ⟨-, -, -, -, h⟩
  · exact h
  · rw [h]; exact hN.le (by omega)
theorem no_pass {u : Nat} {N : Nat → Int32} (hN : PI u N) (hu : 1998 * (u + 5000) < 2 ^ 31) (a : Int32) (h0 : ¬ rfPA a = 0) : n_pass N a = N := by
  rcases ac2_pass (P := N) (fun _ _ => rfl) hN hu a with ⟨r, -⟩ | ⟨-, -, -, -, h⟩
  · exact absurd r h0
  · exact h
theorem po_pass {u : Nat} {N : Nat → Int32} (hN : PI u N) (hu : 1998 * (u + 5000) < 2 ^ 31) (a : Int32) (h0 : rfPA a = 0) : ¬ v_pass N a < 0 := by
  rcases ac2_pass (P := N) (fun _ _ => rfl) hN hu a with ⟨-, ⟨-, x⟩, e, -⟩ | ⟨r, -⟩
  · rw [e]; exact x
  · omega
set_option maxRecDepth 100000 in
theorem cl_pass {l : Launch} {Γ : gX} (hst : l.stackTraces = false) {u : Nat} {N : Nat → Int32} {H : Nat → Nat → Int32} {k : Nat} {w : WO} (hN : PI u N) (hu : 1998 * (u + 5000) < 2 ^ 31) (a : Int32) : lW l Γ yL_tryPass wsL_tryPass [.ref (gad Γ 475), .int a] (SH Γ N H k w) (vA (rfPA a) ecA (v_pass N a)) (SH Γ (n_pass N a) (hA (rfPA a) N H) (kA (rfPA a) k) w) := by
  refine lW_of (fun Z R h => ?_)
  obtain ⟨M, X, G, J, S, C, P, Q, pm, rfl, hC, hI⟩ := h
  have hPG := hI.pr.pg hN
  have h475 := hC.1 475 (by decide) (by decide)
  have hk := hI.2.1
  have hJ := hI.2.2.1
  have hp := hI.1.1
  have lo := hI.pmlo (i := k) (by omega)
  have hLe := rL_pass N a
  rcases ac2_pass hPG.1 hN hu a with ⟨r0, ⟨x1, -⟩, ev, rl, pi⟩ | ⟨r1, r3, x1, eP, eN⟩
  · have cls := mX6_pass (l := l) M R 0 hC X G J S C P Q pm hp k hJ hk hPG.2.2 a (by rw [hPG.1.hd (show 1 < 12 by decide)]; exact hN.h8.2) x1
    rw [show vA (rfPA a) ecA (v_pass N a) = fX2_goHours_v P a from (if_pos r0).trans ev, show hA (rfPA a) N H = cons N H from if_pos r0, show kA (rfPA a) k = kN k from if_pos r0]
    exact ⟨_, _, wL_tryPass h475 (by decide) (by decide) a cls, _, _, _, _, _, _, _, _, _, rfl, keepR_LC hC hJ hk, hI.act hN rl (hPG.2.2.of (fun i hi => fl_pass P a hi))⟩
  · have r0 : ¬ rfPA a = 0 := by omega
    rw [show vA (rfPA a) ecA (v_pass N a) = ecA (rfPA a) from if_neg r0, show hA (rfPA a) N H = H from if_neg r0, show kA (rfPA a) k = k from if_neg r0, eN]
    have inv : INC Γ R (cS (va_up M (pm k) (fX2_copyFrom_P P (M (pm k)))) X G J S C P Q) N H k w := ⟨_, _, _, _, _, _, _, _, _, rfl, hC, hI.draft _⟩
    have q0 : rfPA a = 1 := by omega
    rw [q0, EE_1] at x1
    rw [q0]
    have cls := tX6_pass (l := l) hst M R 0 hC X G J S C P Q pm hp k hJ hk hPG.2.2 a (by rw [hPG.1.hd (show 1 < 12 by decide)]; exact hN.h8.2) x1
    rw [eP] at cls
    exact ⟨_, _, wL_tryPass_t1 h475 (by decide) (by decide) a cls, inv⟩
