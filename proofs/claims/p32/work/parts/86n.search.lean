/-! MATH: bestSpray, dustiest, as a whole. -/
theorem bs_sum {u : Nat} {P N : Nat → Int32} (h : PG u P N) (hu : 1998 * (u + 18) < 2 ^ 31) (X Y : Nat → Int32) {i : Nat} (hi : i < (N 2).toNatClampNeg) {k : Nat} (hk : k < (N 0).toNatClampNeg) {d : Int32} (hd : nn 9 d) (g1 : ¬ fX7_driveOn_v (fX7_copyPage_P N Y 0 0) i (nI k) = 0) (g2 : ¬ fX7_sprayOn_v (fX7_driveOn_P (fX7_copyPage_P N Y 0 0) i (nI k)) i d = 0) : fX2_dustForAll_v (fX6_tryWater_Q P X (nI k) d) = fX7_nextForAll_A1 (fX7_hourOn_P (fX7_sprayOn_P (fX7_driveOn_P (fX7_copyPage_P N Y 0 0) i (nI k)) i d)) (fX7_hourOn_P (fX7_sprayOn_P (fX7_driveOn_P (fX7_copyPage_P N Y 0 0) i (nI k)) i d) 1).toNatClampNeg := by
  have w3 := h.2.1.w3.2
  have s10 := h.2.1.s10.2
  have hi3 : i < 3 := by omega
  have c := h.copy X Y
  have cw : ∀ j, j < 131 → fX7_copyPage_P N Y 0 0 j = N j := fun j hj => rcp0 N Y hj
  generalize fX7_copyPage_P N Y 0 0 = C at c cw g1 g2 ⊢
  have hiC : i < (C 2).toNatClampNeg := by rw [cw 2 (by omega)]; exact hi
  have hkC : k < (C 0).toNatClampNeg := by rw [cw 0 (by omega)]; exact hk
  have k9 : nn 9 (nI k) := nn.of rfl (by omega) (by decide)
  have kc : (nI k).toNatClampNeg = k := nI_clamp (by omega)
  -- the drive
  have q1 : fX7_far_v C i (nI k) ≤ C (122 + 3 * i + 2) := by
    unfold fX7_driveOn_v at g1
    by_cases q : fX7_far_v C i (nI k) ≤ C (122 + 3 * i + 2)
    · exact q
    · rw [if_neg q] at g1; exact absurd rfl g1
  have eD : fX7_driveOn_P C i (nI k) = upd (upd C (122 + 3 * i + 2) (C (122 + 3 * i + 2) - fX7_far_v C i (nI k))) (122 + 3 * i) (nI k) := by
    unfold fX7_driveOn_P
    exact if_pos q1
  obtain ⟨-, d2, -⟩ := driveOn_Rl (P := C) (N := C) (fun _ _ => rfl) c.2.1 hiC k9 (by rw [kc]; exact hkC) q1
  rw [eD] at g2 ⊢
  have dS : upd (upd C (122 + 3 * i + 2) (C (122 + 3 * i + 2) - fX7_far_v C i (nI k))) (122 + 3 * i) (nI k) (122 + 3 * i) = nI k := pk_us
  have dO : ∀ j, j < 122 → upd (upd C (122 + 3 * i + 2) (C (122 + 3 * i + 2) - fX7_far_v C i (nI k))) (122 + 3 * i) (nI k) j = C j := fun j hj => by simp (disch := omega) only [pk_un]
  have dW : upd (upd C (122 + 3 * i + 2) (C (122 + 3 * i + 2) - fX7_far_v C i (nI k))) (122 + 3 * i) (nI k) 2 = C 2 := dO 2 (by omega)
  generalize upd (upd C (122 + 3 * i + 2) (C (122 + 3 * i + 2) - fX7_far_v C i (nI k))) (122 + 3 * i) (nI k) = D at d2 dS dO dW g2 ⊢
  -- the spray
  have q2 : ¬ D (122 + 3 * i + 2) = 0 ∧ d ≤ D (122 + 3 * i + 1) := by
    unfold fX7_sprayOn_v at g2
    by_cases q : D (122 + 3 * i + 2) = 0
    · rw [if_pos q] at g2; exact absurd rfl g2
    · rw [if_neg q] at g2
      by_cases z : d ≤ D (122 + 3 * i + 1)
      · exact ⟨q, z⟩
      · rw [if_neg z] at g2; exact absurd rfl g2
  have eZ : fX7_sprayOn_P D i d = spS D i k d := by
    rw [spS_ref D hi3 (show k < 10 by omega) (by rw [dS, kc]) d, if_neg q2.1, if_pos q2.2]
  rw [eZ]
  obtain ⟨-, z2, -⟩ := spS_Rl (P := D) (N := D) (fun _ _ => rfl) d2 (by omega) (i := i) (by rw [dW]; exact hiC) (s := k) (by rw [dO 0 (by omega)]; exact hkC) hd q2.1 q2.2
  obtain ⟨r1, r2⟩ := wet_Rl c.1 c.2.1 hkC hd
  have zO : ∀ j, j < 122 → j ≠ 11 → spS D i k d j = fX7_wet_P C k d j := by
    intro j hj h11
    unfold spS fX7_wet_P
    rw [less_min, dO (12 + 7 * k + 4) (by omega)]
    by_cases q : j = 12 + 7 * k + 4
    · rw [q, pk_us, pk_us]
    · simp (disch := omega) only [pk_un]
      exact dO j hj
  have w1 : fX7_wet_P C k d 1 = N 1 := by
    unfold fX7_wet_P
    rw [pk_un (by omega)]; exact cw 1 (by omega)
  have z1 : spS D i k d 1 = N 1 := (zO 1 (by omega) (by omega)).trans w1
  have eh : fX7_hourOn_P (spS D i k d) 1 = N 1 := (hour_hd z2 (by omega) (by omega) (by omega)).trans z1
  have ok : okI (nI k) (fX2_copyFrom_P P X 0) 10 := by
    rw [ccp P X (by omega), h.1.hd (show 0 < 12 by decide), h.2.1.s10.1]
    exact ⟨nI_pos' (by omega), nI_lt hk (by omega), nI_lt (show k < 10 by omega) (by decide)⟩
  have eT : fX6_tryWater_Q P X (nI k) d = fX2_raiseDust_P (fX3_wet_P (fX2_copyFrom_P P X) k d) := by
    unfold fX6_tryWater_Q
    rw [if_pos ok, kc]
  have t1 : fX2_raiseDust_P (fX3_wet_P (fX2_copyFrom_P P X) k d) 1 = N 1 := by
    rw [rd_hi _ (Or.inl (by omega))]
    unfold fX3_wet_P
    rw [pk_un (by omega), ccp P X (by omega)]
    exact h.1.hd (by decide)
  rw [eT, eh]
  unfold fX2_dustForAll_v
  rw [t1]
  refine sum_nx _ (fun j hj => ?_)
  have hjw : j < (fX7_wet_P C k d 1).toNatClampNeg := by rw [w1]; exact hj
  rw [nx r1 r2 (by omega) hjw]
  exact (nx_same r2 z2 (by omega) (by omega) (fun m hm => zO m (by omega) (by omega)) (fun m h12 hm => zO m hm (by omega)) hjw).symm
theorem bs_all {u : Nat} {P N : Nat → Int32} (h : PG u P N) (hu : 1998 * (u + 18) < 2 ^ 31) (X Y : Nat → Int32) {a d : Int32} (hi : a.toNatClampNeg < (N 2).toNatClampNeg) (hd : nn 9 d) : ∀ n, n ≤ (N 0).toNatClampNeg → fX6_best_A P a.toNatClampNeg d X n = fX7_best_A N a d Y n ∧ ((fX7_best_A N a d Y n).1 = -9 ∨ ∃ k, k < n ∧ (fX7_best_A N a d Y n).1 = nI k)
  | 0, _ => ⟨rfl, Or.inl rfl⟩
  | n + 1, hn => by
    obtain ⟨e, inv⟩ := bs_all h hu X Y hi hd n (by omega)
    have w3 := h.2.1.w3.2
    have s10 := h.2.1.s10.2
    have hi3 : a.toNatClampNeg < 3 := by omega
    have e0 : P (122 + 3 * a.toNatClampNeg) = N (122 + 3 * a.toNatClampNeg) := h.1.wa hi (show 0 < 3 by decide) rfl
    have hw0 := h.2.1.nw hi3 0 9 (by omega) rfl (j := 122 + 3 * a.toNatClampNeg) rfl
    have wk := (way_far (P := P) (N := N) (i := a.toNatClampNeg) (a := nI n) e0 hw0 (nn.of rfl (by omega) (by decide))).1
    have cs := bs_could h (fX7_best_L N a d Y n) hi (k := n) (by omega) d
    have sm := bs_sum h hu (fX6_best_L P a.toNatClampNeg d X n) (fX7_best_L N a d Y n) hi (k := n) (by omega) hd
    unfold fX6_best_A fX7_best_A fX6_best_T4 fX6_best_T5 fX7_best_T3 fX7_best_T4
    rw [e]
    generalize fX7_best_A N a d Y n = B at inv ⊢
    generalize fX7_best_L N a d Y n = LY at cs sm ⊢
    generalize fX6_best_L P a.toNatClampNeg d X n = LX at sm ⊢
    by_cases g : fX5_couldSpray_v P a.toNatClampNeg (nI n) d = 0
    · rw [if_pos g, if_pos g]
      rcases cs.mp g with g1 | g2
      · rw [if_pos g1, if_pos g1]
        exact ⟨rfl, inv.imp id (fun ⟨k, h1, h2⟩ => ⟨k, by omega, h2⟩)⟩
      · by_cases g1 : fX7_driveOn_v (fX7_copyPage_P N LY 0 0) a.toNatClampNeg (nI n) = 0
        · rw [if_pos g1, if_pos g1]
          exact ⟨rfl, inv.imp id (fun ⟨k, h1, h2⟩ => ⟨k, by omega, h2⟩)⟩
        · rw [if_neg g1, if_neg g1, if_pos g2, if_pos g2]
          exact ⟨rfl, inv.imp id (fun ⟨k, h1, h2⟩ => ⟨k, by omega, h2⟩)⟩
    · have g1 : ¬ fX7_driveOn_v (fX7_copyPage_P N LY 0 0) a.toNatClampNeg (nI n) = 0 := fun q => g (cs.mpr (Or.inl q))
      have g2 : ¬ fX7_sprayOn_v (fX7_driveOn_P (fX7_copyPage_P N LY 0 0) a.toNatClampNeg (nI n)) a.toNatClampNeg d = 0 := fun q => g (cs.mpr (Or.inr q))
      have sm := sm g1 g2
      rw [if_neg g, if_neg g, if_neg g1, if_neg g1, if_neg g2, if_neg g2, sm]
      generalize fX7_nextForAll_A1 (fX7_hourOn_P (fX7_sprayOn_P (fX7_driveOn_P (fX7_copyPage_P N LY 0 0) a.toNatClampNeg (nI n)) a.toNatClampNeg d)) (fX7_hourOn_P (fX7_sprayOn_P (fX7_driveOn_P (fX7_copyPage_P N LY 0 0) a.toNatClampNeg (nI n)) a.toNatClampNeg d) 1).toNatClampNeg = S
      have up : ∀ x : Int32, (x = B.1 ∨ x = nI n) → x = -9 ∨ ∃ k, k < n + 1 ∧ x = nI k := by
        intro x hx
        rcases hx with hx | hx
        · rw [hx]; exact inv.imp id (fun ⟨k, h1, h2⟩ => ⟨k, by omega, h2⟩)
        · exact Or.inr ⟨n, by omega, hx⟩
      by_cases b9 : B.1 = -9
      · rw [if_pos b9, if_pos b9, if_pos b9, if_pos b9]
        exact ⟨rfl, up _ (Or.inr rfl)⟩
      · rw [if_neg b9, if_neg b9, if_neg b9, if_neg b9]
        obtain ⟨k, hk, ek⟩ := inv.resolve_left b9
        have wB := (way_far (P := P) (N := N) (i := a.toNatClampNeg) (a := nI k) e0 hw0 (nn.of rfl (by omega) (by decide))).1
        rw [← ek] at wB
        rw [wB, wk]
        generalize fX7_far_v N a.toNatClampNeg B.1 = f1
        generalize fX7_far_v N a.toNatClampNeg (nI n) = f2
        by_cases q1 : S < B.2
        · simp only [if_pos q1, ite_self]
          exact ⟨trivial, up _ (Or.inr rfl)⟩
        · by_cases q2 : S = B.2
          · by_cases q3 : f1 ≤ f2
            · simp only [if_neg q1, if_pos q2, if_pos q3]
              exact ⟨trivial, up _ (Or.inl rfl)⟩
            · simp only [if_neg q1, if_pos q2, if_neg q3]
              exact ⟨trivial, up _ (Or.inr rfl)⟩
          · simp only [if_neg q1, if_neg q2, ite_self]
            exact ⟨trivial, up _ (Or.inl rfl)⟩
theorem ds_sum {u : Nat} {P N : Nat → Int32} (h : PG u P N) (X Y : Nat → Int32) {s : Nat} (hs : s < (N 0).toNatClampNeg) : fX2_dustWithout_v (fX2_raiseDust_P (fX2_copyFrom_P P X)) (nI s) = fX7_du_A4 (upd (fX7_raise_P (fX7_dry_P (fX7_copyPage_P N Y 0 0))) (12 + 7 * s + 3) 0) (N 1).toNatClampNeg := by
  have s10 := h.2.1.s10.2
  have c := h.copy X Y
  have cw : ∀ j, j < 131 → fX7_copyPage_P N Y 0 0 j = N j := fun j hj => rcp0 N Y hj
  generalize fX7_copyPage_P N Y 0 0 = C at c cw ⊢
  have r1 := raise_Rl c.1 c.2.1.s10.2 c.2.1.su
  have p1 := PI_rise c.2.1
  have z0 : fX7_raise_P (fX7_dry_P C) 0 = N 0 := (raise_hd C (by omega)).trans (cw 0 (by omega))
  have z1 : fX7_raise_P (fX7_dry_P C) 1 = N 1 := (raise_hd C (by omega)).trans (cw 1 (by omega))
  generalize fX7_raise_P (fX7_dry_P C) = C2 at r1 p1 z0 z1 ⊢
  generalize fX2_raiseDust_P (fX2_copyFrom_P P X) = T at r1 ⊢
  have t0 : T 0 = N 0 := (r1.hd (by decide)).trans z0
  have t1 : T 1 = N 1 := (r1.hd (by decide)).trans z1
  have ok : okI (nI s) (T 0) 10 := by
    rw [t0, h.2.1.s10.1]
    exact ⟨nI_pos' (by omega), nI_lt hs (by omega), nI_lt (show s < 10 by omega) (by decide)⟩
  unfold fX2_dustWithout_v
  rw [if_pos ok, nI_clamp (by omega)]
  unfold fX2_dustForAll_v
  rw [pk_un (by omega), t1]
  have r2 : Rl (upd T (12 + 7 * s + 3) 0) (upd C2 (12 + 7 * s + 3) 0) := r1.up (by omega) rfl
  have p2 : PI u (upd C2 (12 + 7 * s + 3) 0) := p1.us (i := s) (by omega) 3 999 (by omega) rfl (nn.of nI_0.symm (by omega) (by decide))
  have h8 := h.2.1.h8.2
  exact sum_gt _ (fun i hi => dustFor_Rl r2 p2.s10 (by rw [pk_un (by omega), z1]; exact hi) (p2.nh (by omega) 1 9 (by omega) rfl rfl))
theorem ds_all {u : Nat} {P N : Nat → Int32} (h : PG u P N) (X Y : Nat → Int32) : ∀ n, n + 1 ≤ (N 0).toNatClampNeg → fX6_dus_A (fX2_raiseDust_P (fX2_copyFrom_P P X)) n = fX7_dus_A N Y (n + 1)
  | 0, hn => by
    have e := ds_sum h X Y (s := 0) (by omega)
    unfold fX6_dus_A fX7_dus_A fX7_dus_T1 fX7_dus_T2
    rw [if_pos (show nI 0 = 0 from rfl), if_pos (show nI 0 = 0 from rfl)]
    exact Prod.ext rfl e
  | n + 1, hn => by
    have s10 := h.2.1.s10.2
    have ih := ds_all h X Y n (by omega)
    have e := ds_sum h X (fX7_dus_L N Y (n + 1)) (s := n + 1) (by omega)
    have l : fX7_dus_A N Y (n + 2) = (fX7_dus_T1 N (fX7_dus_L N Y (n + 1)) (n + 1) (fX7_dus_A N Y (n + 1)).1 (fX7_dus_A N Y (n + 1)).2, fX7_dus_T2 N (fX7_dus_L N Y (n + 1)) (n + 1) (fX7_dus_A N Y (n + 1)).1 (fX7_dus_A N Y (n + 1)).2) := rfl
    rw [l, ← ih]
    unfold fX7_dus_T1 fX7_dus_T2
    rw [if_neg (nI_ne0 (show 0 < n + 1 by omega) (by omega)), if_neg (nI_ne0 (show 0 < n + 1 by omega) (by omega)), ← e]
    rfl
