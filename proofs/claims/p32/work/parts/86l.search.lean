/-! MATH: waterFor, limitFor, complainsIn. -/
theorem df2 {Q P : Nat → Int32} {i : Nat} (e0 : Q (82 + 5 * i) = P (82 + 5 * i)) (e1 : Q (82 + 5 * i + 1) = P (82 + 5 * i + 1)) : fX2_dustFor2_v Q P i = fX2_dustFor_v P i := by
  unfold fX2_dustFor2_v fX2_dustFor_v
  rw [e0, e1]
theorem rd_hi (P : Nat → Int32) {j : Nat} (hj : j < 12 ∨ 82 ≤ j) : fX2_raiseDust_P P j = P j := (rd_L P 10).1 j (fun k hk => by omega)
/-- what a house gets in the next hour: by the class's raised dust, by the reference's hour -/
theorem nx {u : Nat} {P N : Nat → Int32} (h : Rl P N) (hN : PI u N) (hu : 1998 * (u + 17) < 2 ^ 31) {i : Nat} (hi : i < (N 1).toNatClampNeg) : fX2_dustFor_v (fX2_raiseDust_P P) i = fX7_hourOn_P N (82 + 5 * i + 4) := by
  have p := PI_rise hN
  have h8 := hN.h8.2
  rw [(hour_house hN hu hi).1]
  exact dustFor_Rl (raise_Rl h hN.s10.2 hN.su) p.s10 (by rw [raise_hd N (by omega)]; exact hi) (p.nh (by omega) 1 9 (by omega) rfl rfl)
theorem wet_Rl {u : Nat} {P N : Nat → Int32} (h : Rl P N) (hN : PI u N) {s : Nat} (hs : s < (N 0).toNatClampNeg) {d : Int32} (hd : nn 9 d) : Rl (fX3_wet_P P s d) (fX7_wet_P N s d) ∧ PI u (fX7_wet_P N s d) := by
  have s10 := hN.s10.2
  unfold fX3_wet_P fX7_wet_P
  rw [less_min, h.sg hs (show 4 < 7 by decide) rfl]
  exact ⟨h.up (by omega) rfl, hN.us (i := s) (by omega) 4 9 (by omega) rfl (nn.min (k := 9) ((hN.ns (i := s) (by omega) 4 9 (by omega) rfl rfl).add hd (by decide)) (by decide) (by decide))⟩
theorem wf_eq {u : Nat} {P N : Nat → Int32} (h : PG u P N) (hu : 1998 * (u + 17) < 2 ^ 31) (X Y : Nat → Int32) {a : Int32} (h1 : okI a (N 1) 8) {k : Nat} (hk : k < 10) : fX6_waterFor_C P a.toNatClampNeg X k ↔ fX7_waterFor_C N a Y k := by
  obtain ⟨-, hi⟩ := h1.nn h.2.1.h8 (by decide)
  have h8 := h.2.1.h8.2
  have i8 : a.toNatClampNeg < 8 := by omega
  have c := h.copy X Y
  have e0 : P (82 + 5 * a.toNatClampNeg) = N (82 + 5 * a.toNatClampNeg) := h.1.ho hi (show 0 < 5 by decide) rfl
  have n0 : fX7_copyPage_P N Y 0 0 0 = N 0 := rcp0 N Y (by omega)
  have n1 : fX7_copyPage_P N Y 0 0 1 = N 1 := rcp0 N Y (by omega)
  have hsg := h.2.1.2.2.1 _ i8
  have s10 := h.2.1.s10.2
  obtain ⟨r1, r2⟩ := wet_Rl c.1 c.2.1 (s := (N (82 + 5 * a.toNatClampNeg)).toNatClampNeg) (by rw [n0]; exact hsg) (d := nI k) (nn.of rfl (by omega) (by decide))
  have w1 : fX7_wet_P (fX7_copyPage_P N Y 0 0) (N (82 + 5 * a.toNatClampNeg)).toNatClampNeg (nI k) 1 = N 1 := by
    unfold fX7_wet_P
    rw [pk_un (by omega)]; exact n1
  have ok : okI (N (82 + 5 * a.toNatClampNeg)) (fX2_copyFrom_P P X 0) 10 := by
    rw [ccp P X (by omega), h.1.hd (show 0 < 12 by decide)]
    exact h.2.1.okh i8
  have eT : fX6_tryWater_Q P X (P (82 + 5 * a.toNatClampNeg)) (nI k) = fX2_raiseDust_P (fX3_wet_P (fX2_copyFrom_P P X) (N (82 + 5 * a.toNatClampNeg)).toNatClampNeg (nI k)) := by
    unfold fX6_tryWater_Q
    rw [e0, if_pos ok]
  have wt : ∀ j, 82 ≤ j → j < 131 → fX2_raiseDust_P (fX3_wet_P (fX2_copyFrom_P P X) (N (82 + 5 * a.toNatClampNeg)).toNatClampNeg (nI k)) j = P j := by
    intro j h82 hj
    generalize (N (82 + 5 * a.toNatClampNeg)).toNatClampNeg = s at hsg ⊢
    rw [rd_hi _ (Or.inr h82)]
    unfold fX3_wet_P
    rw [pk_un (by omega)]
    exact ccp P X hj
  have e7 : fX2_raiseDust_P (fX3_wet_P (fX2_copyFrom_P P X) (N (82 + 5 * a.toNatClampNeg)).toNatClampNeg (nI k)) 7 = N 7 := by
    generalize (N (82 + 5 * a.toNatClampNeg)).toNatClampNeg = s at hsg ⊢
    rw [rd_hi _ (Or.inl (by omega))]
    unfold fX3_wet_P
    rw [pk_un (by omega), ccp P X (by omega)]
    exact h.1.hd (by decide)
  unfold fX6_waterFor_C fX7_waterFor_C
  rw [eT, df2 (wt _ (by omega) (by omega)).symm (wt _ (by omega) (by omega)).symm, nx r1 r2 hu (by rw [w1]; exact hi), e7]
theorem ma_waterFor {u : Nat} {P N : Nat → Int32} (h : PG u P N) (hu : 1998 * (u + 17) < 2 ^ 31) (X Y : Nat → Int32) {a : Int32} (h1 : okI a (N 1) 8) : ∃ kx, kx ≤ 10 ∧ ((∀ j, j < kx → ¬ fX6_waterFor_C P a.toNatClampNeg (fX6_waterFor_L P a.toNatClampNeg X j) j) ∧ (kx < 10 → fX6_waterFor_C P a.toNatClampNeg (fX6_waterFor_L P a.toNatClampNeg X kx) kx)) ∧ ((∀ j, j < kx → ¬ fX7_waterFor_C N a (fX7_waterFor_L N a Y j) j) ∧ (kx < 10 → fX7_waterFor_C N a (fX7_waterFor_L N a Y kx) kx)) := by
  obtain ⟨kx, h2, h3, h4⟩ := bsearch (fun k => fX7_waterFor_C N a (fX7_waterFor_L N a Y k) k) 10
  exact ⟨kx, h2, ⟨fun j hj q => h3 j hj ((wf_eq h hu _ _ h1 (by omega)).mp q), fun q => (wf_eq h hu _ _ h1 q).mpr (h4 q)⟩, h3, h4⟩
/-- the limit that the reference begins with -/
theorem lf_l0 {u : Nat} {N : Nat → Int32} (hN : PI u N) {i : Nat} (hi : i < 8) : ∃ r, r ≤ 4 ∧ N (12 + 7 * (N (82 + 5 * i)).toNatClampNeg + 2) = nI r ∧ 5 - N (12 + 7 * (N (82 + 5 * i)).toNatClampNeg + 2) = nI (5 - r) := by
  obtain ⟨r, hr, e, -⟩ := (hN.ns (hN.sh hi) 2 4 (by omega) rfl rfl).ex
  exact ⟨r, hr, e, by rw [e, show (5 : Int32) = nI 5 from rfl, pk_sub (by omega)]⟩
theorem lf_eq {u : Nat} {P N : Nat → Int32} (h : PG u P N) (hu : 1998 * (u + 17) < 2 ^ 31) (X Y : Nat → Int32) {a : Int32} (h1 : okI a (N 1) 8) {r : Nat} (hr : r ≤ 4) (er : N (12 + 7 * (N (82 + 5 * a.toNatClampNeg)).toNatClampNeg + 2) = nI r) {k : Nat} (hk : k < 5) : fX6_limitFor_C P a.toNatClampNeg X k ↔ r ≤ k ∧ fX7_limitFor_C N a (5 - r) Y (k - r) := by
  obtain ⟨-, hi⟩ := h1.nn h.2.1.h8 (by decide)
  have h8 := h.2.1.h8.2
  have i8 : a.toNatClampNeg < 8 := by omega
  have c := h.copy X Y
  have e0 : P (82 + 5 * a.toNatClampNeg) = N (82 + 5 * a.toNatClampNeg) := h.1.ho hi (show 0 < 5 by decide) rfl
  have n0 : fX7_copyPage_P N Y 0 0 0 = N 0 := rcp0 N Y (by omega)
  have n1 : fX7_copyPage_P N Y 0 0 1 = N 1 := rcp0 N Y (by omega)
  have hsg := h.2.1.2.2.1 _ i8
  have s10 := h.2.1.s10.2
  have ok : okI (N (82 + 5 * a.toNatClampNeg)) (fX2_copyFrom_P P X 0) 10 := by
    rw [ccp P X (by omega), h.1.hd (show 0 < 12 by decide)]
    exact h.2.1.okh i8
  have wi : ¬ fX6_within_v (nI (5 - k)) 1 5 = 0 := by
    unfold fX6_within_v
    rw [if_neg (show ¬ nI (5 - k) < 1 from nI_nlt (a := 5 - k) (b := 1) (by omega) (by omega)), if_neg (show ¬ 5 < nI (5 - k) from nI_nlt (a := 5) (b := 5 - k) (by omega) (by omega))]
    decide
  have gl : fX3_greatestLimit_v (fX2_copyFrom_P P X) (N (82 + 5 * a.toNatClampNeg)).toNatClampNeg = nI (5 - r) := by
    unfold fX3_greatestLimit_v
    rw [ccp P X (by omega), h.1.sg hsg (show 2 < 7 by decide) rfl, er, show (5 : Int32) = nI 5 from rfl, pk_sub (by omega)]
  unfold fX6_limitFor_C fX7_limitFor_C fX2_changeLimit_v fX2_changeLimit_P
  rw [e0]
  simp only [if_pos ok, if_neg wi, gl]
  by_cases q : r ≤ k
  · have q2 : nI (5 - k) ≤ nI (5 - r) := nI_le (by omega) (by omega)
    simp only [if_pos q2, q, true_and]
    have ek : 5 - r - (k - r) = 5 - k := by omega
    rw [ek]
    have b1 := h.2.1.ns (i := (N (82 + 5 * a.toNatClampNeg)).toNatClampNeg) (by omega) 1 5 (by omega) rfl rfl
    have v1 : ¬ fX2_copyFrom_P P X (12 + 7 * (N (82 + 5 * a.toNatClampNeg)).toNatClampNeg + 1) < 0 := by
      rw [ccp P X (by omega), h.1.sg hsg (show 1 < 7 by decide) rfl]
      exact b1.not_neg (by decide)
    simp only [v1, not_false_eq_true, true_and]
    have r1 : Rl (upd (fX2_copyFrom_P P X) (12 + 7 * (N (82 + 5 * a.toNatClampNeg)).toNatClampNeg + 1) (nI (5 - k))) (upd (fX7_copyPage_P N Y 0 0) (12 + 7 * (N (82 + 5 * a.toNatClampNeg)).toNatClampNeg + 1) (nI (5 - k))) := c.1.up (by omega) rfl
    have r2 : PI u (upd (fX7_copyPage_P N Y 0 0) (12 + 7 * (N (82 + 5 * a.toNatClampNeg)).toNatClampNeg + 1) (nI (5 - k))) := c.2.1.us (by omega) 1 5 (by omega) rfl (nn.of rfl (by omega) (by decide))
    have wt : ∀ j, 82 ≤ j → j < 131 → fX2_raiseDust_P (upd (fX2_copyFrom_P P X) (12 + 7 * (N (82 + 5 * a.toNatClampNeg)).toNatClampNeg + 1) (nI (5 - k))) j = P j := by
      intro j h82 hj
      generalize (N (82 + 5 * a.toNatClampNeg)).toNatClampNeg = s at hsg ⊢
      rw [rd_hi _ (Or.inr h82), pk_un (by omega)]
      exact ccp P X hj
    have e7 : fX2_raiseDust_P (upd (fX2_copyFrom_P P X) (12 + 7 * (N (82 + 5 * a.toNatClampNeg)).toNatClampNeg + 1) (nI (5 - k))) 7 = N 7 := by
      generalize (N (82 + 5 * a.toNatClampNeg)).toNatClampNeg = s at hsg ⊢
      rw [rd_hi _ (Or.inl (by omega)), pk_un (by omega), ccp P X (by omega)]
      exact h.1.hd (by decide)
    rw [df2 (wt _ (by omega) (by omega)).symm (wt _ (by omega) (by omega)).symm, nx r1 r2 hu (by rw [pk_un (by omega), n1]; exact hi), e7]
  · have q2 : ¬ nI (5 - k) ≤ nI (5 - r) := nI_ge (by omega) (by omega)
    simp only [if_neg q2, q, false_and, iff_false, not_and]
    intro z
    exact absurd (show (-3 : Int32) < 0 by decide) z
theorem ma_limitFor {u : Nat} {P N : Nat → Int32} (h : PG u P N) (hu : 1998 * (u + 17) < 2 ^ 31) (X Y : Nat → Int32) {a : Int32} (h1 : okI a (N 1) 8) : ∃ r kx, r ≤ 4 ∧ 5 - N (12 + 7 * (N (82 + 5 * a.toNatClampNeg)).toNatClampNeg + 2) = nI (5 - r) ∧ kx ≤ 5 - r ∧ ((∀ j, j < r + kx → ¬ fX6_limitFor_C P a.toNatClampNeg (fX6_limitFor_L P a.toNatClampNeg X j) j) ∧ (r + kx < 5 → fX6_limitFor_C P a.toNatClampNeg (fX6_limitFor_L P a.toNatClampNeg X (r + kx)) (r + kx))) ∧ ((∀ j, j < kx → ¬ fX7_limitFor_C N a (5 - r) (fX7_limitFor_L N a (5 - r) Y j) j) ∧ (kx < 5 - r → fX7_limitFor_C N a (5 - r) (fX7_limitFor_L N a (5 - r) Y kx) kx)) := by
  obtain ⟨-, hi⟩ := h1.nn h.2.1.h8 (by decide)
  have h8 := h.2.1.h8.2
  obtain ⟨r, hr, er, e5⟩ := lf_l0 h.2.1 (i := a.toNatClampNeg) (by omega)
  obtain ⟨kx, h2, h3, h4⟩ := bsearch (fun k => fX7_limitFor_C N a (5 - r) (fX7_limitFor_L N a (5 - r) Y k) k) (5 - r)
  refine ⟨r, kx, hr, e5, h2, ⟨fun j hj q => ?_, fun q => ?_⟩, h3, h4⟩
  · obtain ⟨z1, z2⟩ := (lf_eq h hu _ (fX7_limitFor_L N a (5 - r) Y (j - r)) h1 hr er (by omega)).mp q
    exact h3 (j - r) (by omega) z2
  · refine (lf_eq h hu _ (fX7_limitFor_L N a (5 - r) Y kx) h1 hr er q).mpr ⟨by omega, ?_⟩
    rw [show r + kx - r = kx by omega]
    exact h4 (by omega)
theorem cI_L (i : Nat) (e0 : Int32) (P : Nat → Int32) : ∀ k, fX6_complainsIn_L i e0 P k = fX2_goHours_L P k
  | 0 => rfl
  | k + 1 => by unfold fX6_complainsIn_L fX2_goHours_L fX6_complainsIn_S fX2_goHours_S; rw [cI_L i e0 P k]
theorem cI_R (N : Nat → Int32) (a : Int32) (P : Nat → Int32) : ∀ k, fX7_complainsIn_L N a P k = fX7_pass_L P k
  | 0 => rfl
  | k + 1 => by unfold fX7_complainsIn_L fX7_pass_L fX7_complainsIn_S fX7_pass_S; rw [cI_R N a P k]
theorem nn.succ_ne {b : Nat} {x : Int32} (h : nn b x) (hb : b + 1 < 2 ^ 31) : ¬ x + 1 = x := by
  have h2 := h.2
  rw [h.1, nI_1]
  intro e
  have := (nI_eq (a := x.toNatClampNeg + 1) (b := x.toNatClampNeg) (by omega) (by omega)).mp e
  omega
theorem cm_step {u : Nat} {P0 N0 : Nat → Int32} (r1 : Rl P0 N0) (r2 : PI u N0) (hu : 1998 * (u + 17) < 2 ^ 31) {i : Nat} (hi : i < (N0 1).toNatClampNeg) : ((¬ fX2_goHour_P P0 (82 + 5 * i + 3) = N0 (82 + 5 * i + 3)) ↔ ¬ fX7_hourOn_P N0 (82 + 5 * i + 4) < N0 7) ∧ (¬ (¬ fX7_hourOn_P N0 (82 + 5 * i + 4) < N0 7) → fX7_hourOn_P N0 (82 + 5 * i + 3) = N0 (82 + 5 * i + 3)) := by
  have h8 := r2.h8.2
  obtain ⟨g4, g3, -⟩ := hour_house r2 hu hi
  obtain ⟨q1, q2⟩ := hour_Rl r1 r2 hu
  have hm1 : fX7_hourOn_P N0 1 = N0 1 := hour_hd r2 hu (by omega) (by omega)
  have f3 := q1.ho (i := i) (by rw [hm1]; exact hi) (show 3 < 5 by decide) rfl
  have b := r2.nh (i := i) (by omega) 3 u (by omega) rfl rfl
  rw [f3, g4, g3]
  by_cases z : fX7_gets_v (fX7_raise_P (fX7_dry_P N0)) i < N0 7
  · rw [if_pos z]
    exact ⟨⟨fun q => absurd rfl q, fun q => absurd z q⟩, fun _ => rfl⟩
  · rw [if_neg z]
    exact ⟨⟨fun _ => z, fun _ => b.succ_ne (by omega)⟩, fun q => absurd z q⟩
theorem cm_all {u : Nat} {P0 N0 : Nat → Int32} (r1 : Rl P0 N0) (r2 : PI u N0) (hu : 1998 * (u + 867) < 2 ^ 31) {i : Nat} (hi : i < (N0 1).toNatClampNeg) : ∃ kx, kx ≤ 50 ∧ ((∀ j, j < kx → ¬ ¬ fX2_goHour_P (fX2_goHours_L P0 j) (82 + 5 * i + 3) = N0 (82 + 5 * i + 3)) ∧ (kx < 50 → ¬ fX2_goHour_P (fX2_goHours_L P0 kx) (82 + 5 * i + 3) = N0 (82 + 5 * i + 3))) ∧ ((∀ j, j < kx → ¬ ¬ fX7_hourOn_P (fX7_pass_L N0 j) (82 + 5 * i + 4) < N0 7) ∧ (kx < 50 → ¬ fX7_hourOn_P (fX7_pass_L N0 kx) (82 + 5 * i + 4) < N0 7)) := by
  obtain ⟨kx, h2, h3, h4⟩ := bsearch (fun k => ¬ fX7_hourOn_P (fX7_pass_L N0 k) (82 + 5 * i + 4) < N0 7) 50
  have step : ∀ k, k < 50 → fX7_pass_L N0 k (82 + 5 * i + 3) = N0 (82 + 5 * i + 3) → ((¬ fX2_goHour_P (fX2_goHours_L P0 k) (82 + 5 * i + 3) = N0 (82 + 5 * i + 3)) ↔ ¬ fX7_hourOn_P (fX7_pass_L N0 k) (82 + 5 * i + 4) < N0 7) ∧ (¬ (¬ fX7_hourOn_P (fX7_pass_L N0 k) (82 + 5 * i + 4) < N0 7) → fX7_hourOn_P (fX7_pass_L N0 k) (82 + 5 * i + 3) = N0 (82 + 5 * i + 3)) := by
    intro k hk ek
    obtain ⟨a1, a2⟩ := hours_Rl r1 r2 k (by omega)
    have m1 : fX7_pass_L N0 k 1 = N0 1 := pass_hd r2 (by omega) (by omega) k (by omega)
    have m7 : fX7_pass_L N0 k 7 = N0 7 := pass_hd r2 (by omega) (by omega) k (by omega)
    have c := cm_step a1 a2 (by omega) (i := i) (by rw [m1]; exact hi)
    rw [ek, m7] at c
    exact c
  have all : ∀ k, k ≤ kx → fX7_pass_L N0 k (82 + 5 * i + 3) = N0 (82 + 5 * i + 3) := by
    intro k
    induction k with
    | zero => intro _; rfl
    | succ k ih =>
      intro hk
      rw [pass_s]
      exact (step k (by omega) (ih (by omega))).2 (h3 k (by omega))
  exact ⟨kx, h2, ⟨fun j hj q => h3 j hj ((step j (by omega) (all j (by omega))).1.mp q), fun q => (step kx q (all kx (Nat.le_refl _))).1.mpr (h4 q)⟩, h3, h4⟩
set_option maxRecDepth 100000 in
theorem ma_complainsIn {u : Nat} {P N : Nat → Int32} (h : PG u P N) (hu : 1998 * (u + 900) < 2 ^ 31) (X Y : Nat → Int32) {a : Int32} (h1 : okI a (N 1) 8) : ∃ kx, kx ≤ 50 ∧ ((∀ j, j < kx → ¬ fX6_complainsIn_C a.toNatClampNeg (fX2_copyFrom_P P X (82 + 5 * a.toNatClampNeg + 3)) (fX6_complainsIn_L a.toNatClampNeg (fX2_copyFrom_P P X (82 + 5 * a.toNatClampNeg + 3)) (fX2_copyFrom_P P X) j) j) ∧ (kx < 50 → fX6_complainsIn_C a.toNatClampNeg (fX2_copyFrom_P P X (82 + 5 * a.toNatClampNeg + 3)) (fX6_complainsIn_L a.toNatClampNeg (fX2_copyFrom_P P X (82 + 5 * a.toNatClampNeg + 3)) (fX2_copyFrom_P P X) kx) kx)) ∧ ((∀ j, j < kx → ¬ fX7_complainsIn_C N a (fX7_complainsIn_L N a (fX7_copyPage_P N Y 0 0) j) j) ∧ (kx < 50 → fX7_complainsIn_C N a (fX7_complainsIn_L N a (fX7_copyPage_P N Y 0 0) kx) kx)) := by
  obtain ⟨-, hi⟩ := h1.nn h.2.1.h8 (by decide)
  have c := h.copy X Y
  have n1 : fX7_copyPage_P N Y 0 0 1 = N 1 := rcp0 N Y (by omega)
  have n7 : fX7_copyPage_P N Y 0 0 7 = N 7 := rcp0 N Y (by omega)
  have e3 : fX2_copyFrom_P P X (82 + 5 * a.toNatClampNeg + 3) = fX7_copyPage_P N Y 0 0 (82 + 5 * a.toNatClampNeg + 3) := c.1.ho (by rw [n1]; exact hi) (show 3 < 5 by decide) rfl
  have hi0 : a.toNatClampNeg < (fX7_copyPage_P N Y 0 0 1).toNatClampNeg := by rw [n1]; exact hi
  have k := cm_all (P0 := fX2_copyFrom_P P X) (N0 := fX7_copyPage_P N Y 0 0) c.1 c.2.1 (by omega) hi0
  rw [← e3, n7] at k
  simp only [cI_L, cI_R]
  unfold fX6_complainsIn_C fX7_complainsIn_C
  exact k
