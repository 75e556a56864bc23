/-! THE STEPS: what would be, by the model's page. -/
/-- the least number below n for which C holds, or n -/
noncomputable def lst (C : Nat → Prop) (n : Nat) : Nat := Classical.choose (bsearch C n)
theorem lst_spec (C : Nat → Prop) (n : Nat) : lst C n ≤ n ∧ (∀ j, j < lst C n → ¬ C j) ∧ (lst C n < n → C (lst C n)) := Classical.choose_spec (bsearch C n)
theorem lst_eq {C : Nat → Prop} {n k : Nat} (h1 : k ≤ n) (h2 : ∀ j, j < k → ¬ C j) (h3 : k < n → C k) : k = lst C n := by
  obtain ⟨a1, a2, a3⟩ := lst_spec C n
  rcases Nat.lt_trichotomy k (lst C n) with q | q | q
  · exact absurd (h3 (by omega)) (a2 k q)
  · exact q
  · exact absurd (a3 (by omega)) (h2 _ q)
/-- the page copied onto itself -/
theorem cp_self (N : Nat → Int32) : fX7_copyPage_P N N 0 0 = N := by
  funext j
  rw [cp_at]
  by_cases q : 0 ≤ j ∧ j < 0 + 131
  · rw [if_pos (by omega)]
    exact congrArg N (by omega)
  · rw [if_neg (by omega)]
/-- the segment of a house -/
abbrev hsg (N : Nat → Int32) (i : Nat) : Nat := (N (82 + 5 * i)).toNatClampNeg
/-- with k liters the house doesn't complain in the next hour -/
def CW (N : Nat → Int32) (i k : Nat) : Prop := ¬ N 7 ≤ fX7_hourOn_P (fX7_wet_P N (hsg N i) (nI k)) (82 + 5 * i + 4)
/-- with the limit 5 - k -/
def CL (N : Nat → Int32) (i k : Nat) : Prop := N (12 + 7 * hsg N i + 2) ≤ nI k ∧ ¬ N 7 ≤ fX7_hourOn_P (upd N (12 + 7 * hsg N i + 1) (nI (5 - k))) (82 + 5 * i + 4)
/-- it complains in the hour k + 1 -/
def CC (N : Nat → Int32) (i k : Nat) : Prop := ¬ fX7_pass_L N (k + 1) (82 + 5 * i + 4) < N 7
theorem CW_eq (N : Nat → Int32) (a : Int32) (k : Nat) : fX7_waterFor_C N a N k = CW N a.toNatClampNeg k := by
  unfold fX7_waterFor_C CW
  rw [cp_self]
theorem CL_eq (N : Nat → Int32) (a : Int32) {r k : Nat} (hr : r ≤ 4) (er : N (12 + 7 * hsg N a.toNatClampNeg + 2) = nI r) (hk : k < 5) : (r ≤ k ∧ fX7_limitFor_C N a (5 - r) N (k - r)) ↔ CL N a.toNatClampNeg k := by
  unfold fX7_limitFor_C CL
  rw [cp_self, er, nI_leI (by omega) (by omega)]
  constructor
  · rintro ⟨h1, h2⟩
    rw [show 5 - r - (k - r) = 5 - k by omega] at h2
    exact ⟨h1, h2⟩
  · rintro ⟨h1, h2⟩
    rw [show 5 - r - (k - r) = 5 - k by omega]
    exact ⟨h1, h2⟩
def rfHs (N : Nat → Int32) (a : Int32) : Nat := if fX7_isHouse_v N a = 0 then 1 else 0
noncomputable def v_waterFor (N : Nat → Int32) (a : Int32) : Int32 := if lst (CW N a.toNatClampNeg) 10 < 10 then nI (lst (CW N a.toNatClampNeg) 10) else -9
noncomputable def v_limitFor (N : Nat → Int32) (a : Int32) : Int32 := if lst (CL N a.toNatClampNeg) 5 < 5 then nI (5 - lst (CL N a.toNatClampNeg) 5) else -9
noncomputable def v_complainsIn (N : Nat → Int32) (a : Int32) : Int32 := if lst (CC N a.toNatClampNeg) 50 < 50 then nI (lst (CC N a.toNatClampNeg) 50 + 1) else -9
def v_ahead (N : Nat → Int32) (a d : Int32) : Int32 := fX7_pass_L N d.toNatClampNeg (82 + 5 * a.toNatClampNeg + 4)
/-- what all houses get if the wagon i sprays in the segment k -/
def gV (N : Nat → Int32) (i : Nat) (d : Int32) (k : Nat) : Int32 := fX7_nextForAll_A1 (fX7_hourOn_P (fX7_sprayOn_P (fX7_driveOn_P N i (nI k)) i d)) (fX7_hourOn_P (fX7_sprayOn_P (fX7_driveOn_P N i (nI k)) i d) 1).toNatClampNeg
/-- it can't -/
def gN (N : Nat → Int32) (i : Nat) (d : Int32) (k : Nat) : Prop := fX7_driveOn_v N i (nI k) = 0 ∨ fX7_sprayOn_v (fX7_driveOn_P N i (nI k)) i d = 0
/-- the best segment among the first n, and what they get then -/
noncomputable def gB (N : Nat → Int32) (i : Nat) (d : Int32) : Nat → Int32 × Int32
  | 0 => (-9, 0)
  | k + 1 => (if fX7_driveOn_v N i (nI k) = 0 then (gB N i d k).1 else if fX7_sprayOn_v (fX7_driveOn_P N i (nI k)) i d = 0 then (gB N i d k).1 else if (gB N i d k).1 = -9 then nI k else if gV N i d k < (gB N i d k).2 then nI k else if gV N i d k = (gB N i d k).2 then if fX7_far_v N i (gB N i d k).1 ≤ fX7_far_v N i (nI k) then (gB N i d k).1 else nI k else (gB N i d k).1, if fX7_driveOn_v N i (nI k) = 0 then (gB N i d k).2 else if fX7_sprayOn_v (fX7_driveOn_P N i (nI k)) i d = 0 then (gB N i d k).2 else if (gB N i d k).1 = -9 then gV N i d k else if gV N i d k < (gB N i d k).2 then gV N i d k else if gV N i d k = (gB N i d k).2 then if fX7_far_v N i (gB N i d k).1 ≤ fX7_far_v N i (nI k) then (gB N i d k).2 else gV N i d k else (gB N i d k).2)
theorem bs_own {u : Nat} {P N : Nat → Int32} (h : PG u P N) (hu : 1998 * (u + 18) < 2 ^ 31) (X : Nat → Int32) {i : Nat} {d : Int32} (hi : i < (N 2).toNatClampNeg) (hd : nn 9 d) : ∀ n, n ≤ (N 0).toNatClampNeg → fX6_best_A P i d X n = gB N i d n ∧ ((gB N i d n).1 = -9 ∨ ∃ k, k < n ∧ (gB N i d n).1 = nI k)
  | 0, _ => ⟨rfl, Or.inl rfl⟩
  | n + 1, hn => by
    obtain ⟨e, inv⟩ := bs_own h hu X hi hd n (by omega)
    have w3 := h.2.1.w3.2
    have s10 := h.2.1.s10.2
    have hi3 : i < 3 := by omega
    have e0 : P (122 + 3 * i) = N (122 + 3 * i) := h.1.wa hi (show 0 < 3 by decide) rfl
    have hw0 := h.2.1.nw hi3 0 9 (by omega) rfl (j := 122 + 3 * i) rfl
    have wk := (way_far (P := P) (N := N) (i := i) (a := nI n) e0 hw0 (nn.of rfl (by omega) (by decide))).1
    have cs := bs_could h N hi (k := n) (by omega) d
    have sm := bs_sum h hu (fX6_best_L P i d X n) N hi (k := n) (by omega) hd
    rw [cp_self] at cs sm
    unfold fX6_best_A gB fX6_best_T4 fX6_best_T5
    rw [e]
    generalize gB N i d n = B at inv ⊢
    generalize fX6_best_L P i d X n = LX at sm ⊢
    by_cases g : fX5_couldSpray_v P i (nI n) d = 0
    · rw [if_pos g, if_pos g]
      rcases cs.mp g with g1 | g2
      · rw [if_pos g1, if_pos g1]
        exact ⟨rfl, inv.imp id (fun ⟨k, h1, h2⟩ => ⟨k, by omega, h2⟩)⟩
      · by_cases g1 : fX7_driveOn_v N i (nI n) = 0
        · rw [if_pos g1, if_pos g1]
          exact ⟨rfl, inv.imp id (fun ⟨k, h1, h2⟩ => ⟨k, by omega, h2⟩)⟩
        · rw [if_neg g1, if_neg g1, if_pos g2, if_pos g2]
          exact ⟨rfl, inv.imp id (fun ⟨k, h1, h2⟩ => ⟨k, by omega, h2⟩)⟩
    · have g1 : ¬ fX7_driveOn_v N i (nI n) = 0 := fun q => g (cs.mpr (Or.inl q))
      have g2 : ¬ fX7_sprayOn_v (fX7_driveOn_P N i (nI n)) i d = 0 := fun q => g (cs.mpr (Or.inr q))
      have sm : fX2_dustForAll_v (fX6_tryWater_Q P LX (nI n) d) = gV N i d n := sm g1 g2
      rw [if_neg g, if_neg g, if_neg g1, if_neg g1, if_neg g2, if_neg g2, sm]
      generalize gV N i d n = S
      have up : ∀ x : Int32, (x = B.1 ∨ x = nI n) → x = -9 ∨ ∃ k, k < n + 1 ∧ x = nI k := by
        intro x hx
        rcases hx with hx | hx
        · rw [hx]; exact inv.imp id (fun ⟨k, h1, h2⟩ => ⟨k, by omega, h2⟩)
        · exact Or.inr ⟨n, by omega, hx⟩
      by_cases b9 : B.1 = -9
      · rw [if_pos b9, if_pos b9, if_pos b9, if_pos b9]
        exact ⟨rfl, up _ (Or.inr rfl)⟩
      · rw [if_neg b9, if_neg b9, if_neg b9, if_neg b9]
        obtain ⟨k, hk, ek⟩ := inv.resolve_left b9
        have wB := (way_far (P := P) (N := N) (i := i) (a := nI k) e0 hw0 (nn.of rfl (by omega) (by decide))).1
        rw [← ek] at wB
        rw [wB, wk]
        generalize fX7_far_v N i B.1 = f1
        generalize fX7_far_v N i (nI n) = f2
        by_cases q1 : S < B.2
        · simp only [if_pos q1, ite_self]
          exact ⟨trivial, up _ (Or.inr rfl)⟩
        · by_cases q2 : S = B.2
          · by_cases q3 : f1 ≤ f2
            · simp only [if_neg q1, if_pos q2, if_pos q3]
              exact ⟨trivial, up _ (Or.inl rfl)⟩
            · simp only [if_neg q1, if_pos q2, if_neg q3]
              exact ⟨trivial, up _ (Or.inr rfl)⟩
          · simp only [if_neg q1, if_neg q2, ite_self]
            exact ⟨trivial, up _ (Or.inl rfl)⟩
noncomputable def v_bestSpray (N : Nat → Int32) (a d : Int32) : Int32 := (gB N a.toNatClampNeg d (N 0).toNatClampNeg).1
def rfBe (N : Nat → Int32) (a d : Int32) : Nat := if fX7_isWagon_v N a = 0 then 1 else if fX7_in_v d.toInt64 1 9 = 0 then 2 else 0
def v_simulate (N : Nat → Int32) (a : Int64) (d : Int32) : Int32 := if N 1 = 0 then 10000 * (fX7_sim_L a N d.toNatClampNeg 10 - N 10) + fX7_less_v 0 9999 else 10000 * (fX7_sim_L a N d.toNatClampNeg 10 - N 10) + fX7_less_v (fX7_sim_L a N d.toNatClampNeg 84 - N 84) 9999
def rfSi (d : Int32) : Nat := if fX7_in_v d.toInt64 1 99 = 0 then 1 else 0
set_option maxRecDepth 100000 in
theorem cl_ahead {l : Launch} {Γ : gX} (hst : l.stackTraces = false) {u : Nat} {N : Nat → Int32} {H : Nat → Nat → Int32} {k : Nat} {w : WO} (hN : PI u N) (hu : 1998 * (u + 5000) < 2 ^ 31) (a d : Int32) : lW l Γ yL_tryAhead wsL_tryAhead [.ref (gad Γ 475), .int a, .int d] (SH Γ N H k w) (vA (rfAhd N a d) ecS (v_ahead N a d)) (SH Γ N H k w) := by
  refine lW_of (fun Z R h => ?_)
  obtain ⟨M, X, G, J, S, C, P, Q, pm, rfl, hC, hI⟩ := h
  have hPG := hI.pr.pg hN
  have h475 := hC.1 475 (by decide) (by decide)
  have e1 : P 1 = N 1 := hPG.1.hd (by decide)
  have c1e : fX2_copyFrom_P P Q 1 = N 1 := (ccp P Q (by decide)).trans e1
  have h8 : (P 1).toNatClampNeg ≤ 8 := by rw [e1]; exact hPG.2.1.h8.2
  unfold vA rfAhd
  rw [w_120]
  by_cases c1 : okI a (N 1) 8
  · have c1' : ¬ fX7_isHouse_v N a = 0 := by rw [ho_ok hPG.2.1]; exact fun q => q c1
    have c1q : okI a (fX2_copyFrom_P P Q 1) 8 := by rw [c1e]; exact c1
    rw [if_neg c1']
    by_cases c2 : fX6_within_v d 1 20 = 0
    · rw [if_pos c2]
      have cls := tX6_ahead_2 (l := l) hst M R 0 hC X G J S C P Q hPG.2.2 a d c1q c2
      exact ⟨_, _, wL_tryAhead_t2 h475 (by decide) (by decide) a d cls, _, _, _, _, _, _, _, _, _, rfl, hC, hI⟩
    · rw [if_neg c2]
      have cls := mX6_ahead (l := l) M R 0 hC X G J S C P Q hPG.2.2 a d h8 c1q c2
      have cp := (hI.pr.cp hN Q).pg hN
      have hd := (wi_nn (lo := 1) (hi := 20) c2 (by decide) (by decide)).1.2
      have hi := (okI.nn c1 hN.h8 (by decide)).2
      obtain ⟨r1, r2⟩ := hours_Rl cp.1 hN d.toNatClampNeg (by omega)
      have ev : fX2_goHours_P (fX2_copyFrom_P P Q) d (82 + 5 * a.toNatClampNeg + 4) = v_ahead N a d := by
        unfold fX2_goHours_P v_ahead
        rw [if_neg (fun q => c2 (by
          obtain ⟨n, hn, en, en'⟩ := (wi_nn (lo := 1) (hi := 20) c2 (by decide) (by decide)).1.ex
          have h1 := (wi_nn (lo := 1) (hi := 20) c2 (by decide) (by decide)).2
          exfalso
          rw [en'] at h1
          unfold fX6_within_v at q
          rw [en, if_neg (show ¬ nI n < 1 from nI_nlt (a := n) (b := 1) h1 (by omega)), if_neg (show ¬ 50 < nI n from nI_nlt (a := 50) (b := n) (by omega) (by omega))] at q
          exact absurd q (by decide)))]
        refine r1.ho ?_ (show 4 < 5 by decide) rfl
        rw [pass_hd hN (j := 1) (by decide) (by decide) _ (by omega)]
        exact hi
      rw [ev] at cls
      exact ⟨_, _, wL_tryAhead h475 (by decide) (by decide) a d cls, _, _, _, _, _, _, _, _, _, rfl, hC, hI⟩
  · have c1' : fX7_isHouse_v N a = 0 := by rw [ho_ok hPG.2.1]; exact c1
    rw [if_pos c1']
    have cls := tX6_ahead_1 (l := l) hst M R 0 hC X G J S C P Q hPG.2.2 a d (by rw [c1e]; exact c1)
    exact ⟨_, _, wL_tryAhead_t1 h475 (by decide) (by decide) a d cls, _, _, _, _, _, _, _, _, _, rfl, hC, hI⟩
set_option maxRecDepth 100000 in
theorem cl_waterFor {l : Launch} {Γ : gX} (hst : l.stackTraces = false) {u : Nat} {N : Nat → Int32} {H : Nat → Nat → Int32} {k : Nat} {w : WO} (hN : PI u N) (hu : 1998 * (u + 5000) < 2 ^ 31) (a : Int32) : lW l Γ yL_tryWater wsL_tryWater [.ref (gad Γ 475), .int a] (SH Γ N H k w) (vA (rfHs N a) ecO (v_waterFor N a)) (SH Γ N H k w) := by
  refine lW_of (fun Z R h => ?_)
  obtain ⟨M, X, G, J, S, C, P, Q, pm, rfl, hC, hI⟩ := h
  have hPG := hI.pr.pg hN
  have h475 := hC.1 475 (by decide) (by decide)
  have e1 : P 1 = N 1 := hPG.1.hd (by decide)
  unfold vA rfHs
  by_cases c1 : okI a (N 1) 8
  · have c1' : ¬ fX7_isHouse_v N a = 0 := by rw [ho_ok hPG.2.1]; exact fun q => q c1
    rw [if_neg c1']
    obtain ⟨s1, s2, s3⟩ := lst_spec (CW N a.toNatClampNeg) 10
    have cls := mX6_waterFor (l := l) M R 0 hC X G J S C P Q hPG.2.2 a (by rw [e1]; exact c1) (lst (CW N a.toNatClampNeg) 10) s1 (fun j hj q => s2 j hj (by rw [← CW_eq]; exact (wf_eq hPG (by omega) _ _ c1 (by omega)).mp q)) (fun q => (wf_eq hPG (by omega) _ _ c1 q).mpr (by rw [CW_eq]; exact s3 q))
    exact ⟨_, _, wL_tryWater h475 (by decide) (by decide) a cls, _, _, _, _, _, _, _, _, _, rfl, hC, hI⟩
  · have c1' : fX7_isHouse_v N a = 0 := by rw [ho_ok hPG.2.1]; exact c1
    rw [if_pos c1']
    have cls := tX6_waterFor (l := l) hst M R 0 hC X G J S C P Q a (by rw [e1]; exact c1)
    exact ⟨_, _, wL_tryWater_t1 h475 (by decide) (by decide) a cls, _, _, _, _, _, _, _, _, _, rfl, hC, hI⟩
set_option maxRecDepth 100000 in
theorem cl_limitFor {l : Launch} {Γ : gX} (hst : l.stackTraces = false) {u : Nat} {N : Nat → Int32} {H : Nat → Nat → Int32} {k : Nat} {w : WO} (hN : PI u N) (hu : 1998 * (u + 5000) < 2 ^ 31) (a : Int32) : lW l Γ yL_trySlow wsL_trySlow [.ref (gad Γ 475), .int a] (SH Γ N H k w) (vA (rfHs N a) ecO (v_limitFor N a)) (SH Γ N H k w) := by
  refine lW_of (fun Z R h => ?_)
  obtain ⟨M, X, G, J, S, C, P, Q, pm, rfl, hC, hI⟩ := h
  have hPG := hI.pr.pg hN
  have h475 := hC.1 475 (by decide) (by decide)
  have e1 : P 1 = N 1 := hPG.1.hd (by decide)
  unfold vA rfHs
  by_cases c1 : okI a (N 1) 8
  · have c1' : ¬ fX7_isHouse_v N a = 0 := by rw [ho_ok hPG.2.1]; exact fun q => q c1
    rw [if_neg c1']
    have i8 : a.toNatClampNeg < 8 := by have := (okI.nn c1 hN.h8 (by decide)).2; have := hN.h8.2; omega
    obtain ⟨r, hr, er, -⟩ := lf_l0 hN i8
    obtain ⟨s1, s2, s3⟩ := lst_spec (CL N a.toNatClampNeg) 5
    have cls := mX6_limitFor (l := l) M R 0 hC X G J S C P Q hPG.2.2 a (by rw [e1]; exact c1) (lst (CL N a.toNatClampNeg) 5) s1 (fun j hj q => s2 j hj ((CL_eq N a hr er (by omega)).mp ((lf_eq hPG (by omega) _ _ c1 hr er (by omega)).mp q))) (fun q => (lf_eq hPG (by omega) _ _ c1 hr er q).mpr ((CL_eq N a hr er q).mpr (s3 q)))
    exact ⟨_, _, wL_trySlow h475 (by decide) (by decide) a cls, _, _, _, _, _, _, _, _, _, rfl, hC, hI⟩
  · have c1' : fX7_isHouse_v N a = 0 := by rw [ho_ok hPG.2.1]; exact c1
    rw [if_pos c1']
    have cls := tX6_limitFor (l := l) hst M R 0 hC X G J S C P Q a (by rw [e1]; exact c1)
    exact ⟨_, _, wL_trySlow_t1 h475 (by decide) (by decide) a cls, _, _, _, _, _, _, _, _, _, rfl, hC, hI⟩
set_option maxRecDepth 100000 in
theorem cl_complainsIn {l : Launch} {Γ : gX} (hst : l.stackTraces = false) {u : Nat} {N : Nat → Int32} {H : Nat → Nat → Int32} {k : Nat} {w : WO} (hN : PI u N) (hu : 1998 * (u + 5000) < 2 ^ 31) (a : Int32) : lW l Γ yL_tryWhen wsL_tryWhen [.ref (gad Γ 475), .int a] (SH Γ N H k w) (vA (rfHs N a) ecO (v_complainsIn N a)) (SH Γ N H k w) := by
  refine lW_of (fun Z R h => ?_)
  obtain ⟨M, X, G, J, S, C, P, Q, pm, rfl, hC, hI⟩ := h
  have hPG := hI.pr.pg hN
  have h475 := hC.1 475 (by decide) (by decide)
  have e1 : P 1 = N 1 := hPG.1.hd (by decide)
  have c1e : fX2_copyFrom_P P Q 1 = N 1 := (ccp P Q (by decide)).trans e1
  have h8 : (P 1).toNatClampNeg ≤ 8 := by rw [e1]; exact hPG.2.1.h8.2
  unfold vA rfHs
  by_cases c1 : okI a (N 1) 8
  · have c1' : ¬ fX7_isHouse_v N a = 0 := by rw [ho_ok hPG.2.1]; exact fun q => q c1
    rw [if_neg c1']
    obtain ⟨kx, hkx, ⟨f1, f2⟩, g1, g2⟩ := ma_complainsIn hPG (by omega) Q N c1
    rw [cp_self] at g1 g2
    have ek : kx = lst (CC N a.toNatClampNeg) 50 := by
      refine lst_eq hkx (fun j hj q => g1 j hj ?_) (fun q => ?_)
      · rw [cI_R]; exact q
      · have := g2 q
        rw [cI_R] at this; exact this
    have cls := mX6_complainsIn (l := l) M R 0 hC X G J S C P Q hPG.2.2 a h8 (by rw [c1e]; exact c1) kx hkx f1 f2
    rw [show (if kx < 50 then nI (kx + 1) else (-9 : Int32)) = v_complainsIn N a by rw [ek]; rfl] at cls
    exact ⟨_, _, wL_tryWhen h475 (by decide) (by decide) a cls, _, _, _, _, _, _, _, _, _, rfl, hC, hI⟩
  · have c1' : fX7_isHouse_v N a = 0 := by rw [ho_ok hPG.2.1]; exact c1
    rw [if_pos c1']
    have cls := tX6_complainsIn (l := l) hst M R 0 hC X G J S C P Q hPG.2.2 a (by rw [c1e]; exact c1)
    exact ⟨_, _, wL_tryWhen_t1 h475 (by decide) (by decide) a cls, _, _, _, _, _, _, _, _, _, rfl, hC, hI⟩
set_option maxRecDepth 100000 in
theorem cl_bestSpray {l : Launch} {Γ : gX} (hst : l.stackTraces = false) {u : Nat} {N : Nat → Int32} {H : Nat → Nat → Int32} {k : Nat} {w : WO} (hN : PI u N) (hu : 1998 * (u + 5000) < 2 ^ 31) (a d : Int32) : lW l Γ yL_tryBest wsL_tryBest [.ref (gad Γ 475), .int a, .int d] (SH Γ N H k w) (vA (rfBe N a d) ecS (v_bestSpray N a d)) (SH Γ N H k w) := by
  refine lW_of (fun Z R h => ?_)
  obtain ⟨M, X, G, J, S, C, P, Q, pm, rfl, hC, hI⟩ := h
  have hPG := hI.pr.pg hN
  have h475 := hC.1 475 (by decide) (by decide)
  have e0 : P 0 = N 0 := hPG.1.hd (by decide)
  have e1 : P 1 = N 1 := hPG.1.hd (by decide)
  have e2 : P 2 = N 2 := hPG.1.hd (by decide)
  have h8 : (P 1).toNatClampNeg ≤ 8 := by rw [e1]; exact hPG.2.1.h8.2
  unfold vA rfBe
  rw [w_19]
  by_cases c1 : okI a (N 2) 3
  · have c1' : ¬ fX7_isWagon_v N a = 0 := by rw [wa_ok hPG.2.1]; exact fun q => q c1
    have c1q : okI a (P 2) 3 := by rw [e2]; exact c1
    rw [if_neg c1']
    by_cases c2 : fX6_within_v d 1 9 = 0
    · rw [if_pos c2]
      have cls := tX6_bestSpray_2 (l := l) hst M R 0 hC X G J S C P Q a d c1q c2
      exact ⟨_, _, wL_tryBest_t2 h475 (by decide) (by decide) a d cls, _, _, _, _, _, _, _, _, _, rfl, hC, hI⟩
    · rw [if_neg c2]
      have hd := (wi_nn (lo := 1) (hi := 9) c2 (by decide) (by decide)).1
      have bs := (bs_own hPG (by omega) Q (okI.nn c1 hPG.2.1.w3 (by decide)).2 hd (N 0).toNatClampNeg (Nat.le_refl _)).1
      have cls := mX6_bestSpray (l := l) M R 0 hC X G J S C P Q hPG.2.2 h8 a d c1q c2
      rw [e0, show (fX6_best_A P a.toNatClampNeg d Q (N 0).toNatClampNeg).1 = v_bestSpray N a d from congrArg Prod.fst bs] at cls
      exact ⟨_, _, wL_tryBest h475 (by decide) (by decide) a d cls, _, _, _, _, _, _, _, _, _, rfl, hC, hI⟩
  · have c1' : fX7_isWagon_v N a = 0 := by rw [wa_ok hPG.2.1]; exact c1
    rw [if_pos c1']
    have cls := tX6_bestSpray_1 (l := l) hst M R 0 hC X G J S C P Q a d (by rw [e2]; exact c1)
    exact ⟨_, _, wL_tryBest_t1 h475 (by decide) (by decide) a d cls, _, _, _, _, _, _, _, _, _, rfl, hC, hI⟩
set_option maxRecDepth 100000 in
theorem cl_simulate {l : Launch} {Γ : gX} (hst : l.stackTraces = false) {u : Nat} {N : Nat → Int32} {H : Nat → Nat → Int32} {k : Nat} {w : WO} (hN : PI u N) (hu : 1998 * (u + 5000) < 2 ^ 31) (a : Int64) (d : Int32) : lW l Γ yL_trySimulate wsL_trySimulate [.ref (gad Γ 475), .long a, .int d] (SH Γ N H k w) (vA (rfSi d) ecA (v_simulate N a d)) (SH Γ N H k w) := by
  refine lW_of (fun Z R h => ?_)
  obtain ⟨M, X, G, J, S, C, P, Q, pm, rfl, hC, hI⟩ := h
  have hPG := hI.pr.pg hN
  have h475 := hC.1 475 (by decide) (by decide)
  have e1 : P 1 = N 1 := hPG.1.hd (by decide)
  have c1e : fX2_copyFrom_P P Q 1 = N 1 := (ccp P Q (by decide)).trans e1
  have h8 : (P 1).toNatClampNeg ≤ 8 := by rw [e1]; exact hPG.2.1.h8.2
  have e10 : P 10 = N 10 := hPG.1.hd (by decide)
  unfold vA rfSi
  rw [w_199]
  by_cases c1 : fX6_within_v d 1 99 = 0
  · rw [if_pos c1]
    have cls := tX6_simulate (l := l) hst M R 0 hC X G J S C P Q a d c1
    exact ⟨_, _, wL_trySimulate_t1 h475 (by decide) (by decide) a d cls, _, _, _, _, _, _, _, _, _, rfl, hC, hI⟩
  · rw [if_neg c1]
    have hd := (wi_nn (lo := 1) (hi := 99) c1 (by decide) (by decide)).1.2
    have cp := (hI.pr.cp hN Q).pg hN
    obtain ⟨s1, -, -, s4⟩ := sim_Rl cp.1 cp.2.1 a d.toNatClampNeg (by omega)
    have s10 := s1.hd (show 10 < 12 by decide)
    have key : ∀ x : Int32, (if x < 9999 then x else 9999) = fX7_less_v x 9999 := by
      intro x
      unfold fX7_less_v
      by_cases q : x < 9999
      · rw [if_pos q, if_neg (Int32.not_le.mpr q)]
      · rw [if_neg q, if_pos (Int32.not_lt.mp q)]
    by_cases c2 : N 1 = 0
    · have ok : ¬ okI 0 (fX2_copyFrom_P P Q 1) 8 := by rw [c1e, c2]; exact fun q => absurd q.2.1 (by decide)
      have cls := mX6_simulate_n (l := l) M R 0 hC X G J S C P Q hPG.2.2 h8 a d c1 ok
      rw [key, simn_0, simn_h, s10, e10] at cls
      rw [show v_simulate N a d = 10000 * (fX7_sim_L a N d.toNatClampNeg 10 - N 10) + fX7_less_v 0 9999 from if_pos c2]
      exact ⟨_, _, wL_trySimulate h475 (by decide) (by decide) a d cls, _, _, _, _, _, _, _, _, _, rfl, hC, hI⟩
    · obtain ⟨n1, hn1, en1, en1'⟩ := hPG.2.1.h8.ex
      have p1 : 0 < n1 := Nat.pos_of_ne_zero (fun q => c2 (by rw [en1, q]; rfl))
      have ok : okI 0 (fX2_copyFrom_P P Q 1) 8 := by rw [c1e]; exact okI_nI (i := 0) en1 rfl p1 hn1 (by decide)
      have s7 := s4 (by rw [en1']; exact p1)
      have cls := mX6_simulate_h (l := l) M R 0 hC X G J S C P Q hPG.2.2 h8 a d c1 ok
      rw [key, s7, s10, e10] at cls
      rw [show v_simulate N a d = 10000 * (fX7_sim_L a N d.toNatClampNeg 10 - N 10) + fX7_less_v (fX7_sim_L a N d.toNatClampNeg 84 - N 84) 9999 from if_neg c2]
      exact ⟨_, _, wL_trySimulate h475 (by decide) (by decide) a d cls, _, _, _, _, _, _, _, _, _, rfl, hC, hI⟩
