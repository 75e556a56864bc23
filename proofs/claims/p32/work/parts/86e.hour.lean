/-! MATH: an hour, hours. -/
theorem set_out (Q : Nat → Int32) (k j : Nat) (h : ¬ sW k j) : fX2_goHour_S Q k j = Q j := by
  unfold fX2_goHour_S fX3_settle_P
  exact pk_un (by omega)
theorem set_in (Q Q' : Nat → Int32) (k : Nat) (_ : ∀ j, j < 12 → Q j = Q' j) (hw : ∀ j, sW k j → Q j = Q' j) (j : Nat) (hj : sW k j) : fX2_goHour_S Q k j = fX2_goHour_S Q' k j := by
  have e3 := hw (12 + 7 * k + 3) (by omega)
  have ej := hw j hj
  unfold fX2_goHour_S fX3_settle_P upd
  rw [e3, ej]
theorem hS_out (Q : Nat → Int32) (k j : Nat) (h : ¬ sW k j) : fX7_hourS_S Q k j = Q j := set_out Q k j h
theorem set_L (P : Nat → Int32) : lpT sW fX2_goHour_S (fX2_goHour_L P) P := lp sW_d sW_h (S := fX2_goHour_S) (L := fX2_goHour_L P) (P := P) rfl (fun _ => rfl) set_out set_in
theorem hS_L (P : Nat → Int32) : lpT sW fX7_hourS_S (fX7_hourS_L P) P := lp sW_d sW_h (S := fX7_hourS_S) (L := fX7_hourS_L P) (P := P) rfl (fun _ => rfl) set_out set_in
theorem clk_out (Q : Nat → Int32) (k j : Nat) (h : ¬ wW k j) : fX2_turnClock_S Q k j = Q j := by
  unfold fX2_turnClock_S
  exact pk_un (by omega)
theorem clk_in (Q Q' : Nat → Int32) (k : Nat) (_ : ∀ j, j < 12 → Q j = Q' j) (hw : ∀ j, wW k j → Q j = Q' j) (j : Nat) (hj : wW k j) : fX2_turnClock_S Q k j = fX2_turnClock_S Q' k j := by
  have ej := hw j hj
  unfold fX2_turnClock_S upd
  rw [ej]
theorem clk_L (P : Nat → Int32) : lpT wW fX2_turnClock_S (fX2_turnClock_L P) P := lp wW_d wW_h (S := fX2_turnClock_S) (L := fX2_turnClock_L P) (P := P) rfl (fun _ => rfl) clk_out clk_in
theorem hW_L (P : Nat → Int32) : lpT wW fX7_hourW_S (fX7_hourW_L P) P := lp wW_d wW_h (S := fX7_hourW_S) (L := fX7_hourW_L P) (P := P) rfl (fun _ => rfl) clk_out clk_in
theorem settle_Rl {P N : Nat → Int32} (h : Rl P N) (h10 : (N 0).toNatClampNeg ≤ 10) : Rl (fX2_goHour_L P 10) (fX7_hourS_L N (N 0).toNatClampNeg) := by
  have zz : ∀ j, j < 12 → fX7_hourS_L N (N 0).toNatClampNeg j = N j := fun j hj => (hS_L N _).1 j (fun k _ => by omega)
  refine Rl.of (P := P) (N := N) (zz 0 (by omega)) (zz 1 (by omega)) (zz 2 (by omega)) (fun j hj => ?_)
  by_cases hw : ∃ i, i < (N 0).toNatClampNeg ∧ sW i j
  · obtain ⟨i, hi, hw⟩ := hw
    rw [(set_L P 10).2 i (by omega) j hw, (hS_L N _).2 i hi j hw]
    exact set_in P N i (fun k hk => h.hd hk) (fun k hk => h k (Or.inr (Or.inl (by omega)))) j hw
  · have hn : j < 12 ∨ 82 ≤ j := by
      rcases hj with q | q | q | q
      · exact Or.inl q
      · exact absurd ⟨(j - 12) / 7, by omega, by omega⟩ hw
      · omega
      · omega
    rw [(set_L P 10).1 j (fun k hk => by omega), (hS_L N _).1 j (fun k hk => by omega)]
    exact h j hj
theorem clock_Rl {P N : Nat → Int32} (h : Rl P N) (h10 : (N 0).toNatClampNeg ≤ 10) (h8 : (N 1).toNatClampNeg ≤ 8) (h3 : (N 2).toNatClampNeg ≤ 3) : Rl (fX2_turnClock_L P 3) (fX7_hourW_L N (N 2).toNatClampNeg) := by
  have zz : ∀ j, j < 12 → fX7_hourW_L N (N 2).toNatClampNeg j = N j := fun j hj => (hW_L N _).1 j (fun k _ => by omega)
  refine Rl.of (P := P) (N := N) (zz 0 (by omega)) (zz 1 (by omega)) (zz 2 (by omega)) (fun j hj => ?_)
  by_cases hw : ∃ i, i < (N 2).toNatClampNeg ∧ wW i j
  · obtain ⟨i, hi, hw⟩ := hw
    rw [(clk_L P 3).2 i (by omega) j hw, (hW_L N _).2 i hi j hw]
    exact clk_in P N i (fun k hk => h.hd hk) (fun k hk => h k (Or.inr (Or.inr (Or.inr (by omega))))) j hw
  · by_cases hn : j < 122
    · rw [(clk_L P 3).1 j (fun k hk => by omega), (hW_L N _).1 j (fun k hk => by omega)]
      exact h j hj
    · rcases hj with q | q | q | q
      · omega
      · omega
      · omega
      · exact absurd ⟨(j - 122) / 3, by omega, by omega⟩ hw
def dayS (N : Nat → Int32) : Nat → Int32 := if N 4 + 1 = 10 then upd (upd (upd (upd N 4 (N 4 + 1)) 4 0) 3 (N 3 + 1)) 9 0 else upd N 4 (N 4 + 1)
theorem hourOn_eq (N : Nat → Int32) : fX7_hourOn_P N = fX7_hourW_L (dayS (fX7_hourS_L (fX7_hourH_L (fX7_raise_P (fX7_dry_P N)) (fX7_raise_P (fX7_dry_P N) 1).toNatClampNeg) (fX7_hourH_L (fX7_raise_P (fX7_dry_P N)) (fX7_raise_P (fX7_dry_P N) 1).toNatClampNeg 0).toNatClampNeg)) (dayS (fX7_hourS_L (fX7_hourH_L (fX7_raise_P (fX7_dry_P N)) (fX7_raise_P (fX7_dry_P N) 1).toNatClampNeg) (fX7_hourH_L (fX7_raise_P (fX7_dry_P N)) (fX7_raise_P (fX7_dry_P N) 1).toNatClampNeg 0).toNatClampNeg) 2).toNatClampNeg := by
  unfold fX7_hourOn_P
  generalize fX7_hourS_L (fX7_hourH_L (fX7_raise_P (fX7_dry_P N)) (fX7_raise_P (fX7_dry_P N) 1).toNatClampNeg) (fX7_hourH_L (fX7_raise_P (fX7_dry_P N)) (fX7_raise_P (fX7_dry_P N) 1).toNatClampNeg 0).toNatClampNeg = X
  unfold dayS
  simp (disch := omega) only [pk_us, pk_un]
  by_cases q : X 4 + 1 = 10
  · simp only [q, if_true]
    simp (disch := omega) only [pk_un]
  · simp only [q, if_false]
    simp (disch := omega) only [pk_un]
theorem clk_eq {u : Nat} {N : Nat → Int32} {P : Nat → Int32} (h : Rl P N) (hN : PI u N) : fX2_turnClock_P P = fX2_turnClock_L (if N 4 + 1 = 10 then upd (upd (upd (upd P 4 (P 4 + 1)) 4 0) 3 (P 3 + 1)) 9 0 else upd P 4 (P 4 + 1)) 3 := by
  have h4 := hN.n0 4 9 (by omega) rfl
  obtain ⟨n, hn, e, -⟩ := h4.ex
  unfold fX2_turnClock_P
  simp (disch := omega) only [pk_us, pk_un]
  rw [h.hd (show 4 < 12 by decide), e, nI_1]
  by_cases q : n = 9
  · subst q
    rw [if_neg (by decide), if_pos (by decide)]
  · rw [if_pos (show nI (n + 1) < 10 from nI_lt (show n + 1 < 10 by omega) (by decide)), if_neg (show ¬ nI (n + 1) = 10 from fun z => q (by have := (nI_eq (a := n + 1) (b := 10) (by omega) (by decide)).mp z; omega))]
theorem day_Rl {P N : Nat → Int32} (h : Rl P N) : Rl (if N 4 + 1 = 10 then upd (upd (upd (upd P 4 (P 4 + 1)) 4 0) 3 (P 3 + 1)) 9 0 else upd P 4 (P 4 + 1)) (dayS N) := by
  unfold dayS
  rw [h.hd (show 4 < 12 by decide), h.hd (show 3 < 12 by decide)]
  by_cases q : N 4 + 1 = 10
  · rw [if_pos q, if_pos q]
    exact (((h.up (by omega) rfl).up (by omega) rfl).up (by omega) rfl).up (by omega) rfl
  · rw [if_neg q, if_neg q]
    exact h.up (by omega) rfl
theorem PI_day {u : Nat} {N : Nat → Int32} (h : PI u N) (hu : u + 1 < 2 ^ 31) : PI (u + 1) (dayS N) := by
  have h4 := h.n0 4 9 (by omega) rfl
  have hP := h.le (Nat.le_succ u)
  obtain ⟨n, hn, e, -⟩ := h4.ex
  unfold dayS
  by_cases q : N 4 + 1 = 10
  · rw [if_pos q, upd_same]
    exact ((hP.u0 4 9 (by omega) (by omega) rfl (nn.of nI_0.symm (by omega) (by decide))).u0 3 (u + 1) (by omega) (by omega) rfl ((h.n0 3 u (by omega) rfl).add (nn.lit 1 (by decide)) hu)).u0 9 99 (by omega) (by omega) rfl (nn.of nI_0.symm (by omega) (by decide))
  · rw [if_neg q]
    refine hP.u0 4 9 (by omega) (by omega) rfl ?_
    rw [e, nI_1] at q ⊢
    exact nn.of rfl (by
      rcases Nat.lt_or_ge n 9 with z | z
      · omega
      · exact absurd (by rw [show n + 1 = 10 by omega]; rfl) q) (by decide)
theorem PI_set {u : Nat} {N : Nat → Int32} (h : PI u N) : PI u (fX7_hourS_L N (N 0).toNatClampNeg) := PI_L (S := fX7_hourS_S) (L := fX7_hourS_L N) (m := 10) rfl (fun _ => rfl) h (fun Q k hk hq => by
  unfold fX7_hourS_S
  exact hq.us hk 3 999 (by omega) rfl ((((hq.ns hk 3 999 (by omega) rfl rfl).mul (nn.lit 3 (by decide)) (by decide)).div (d := 4) (by decide) (by decide) (by decide)).le (by decide))) _ h.s10.2
theorem PI_clk {u : Nat} {N : Nat → Int32} (h : PI u N) : PI u (fX7_hourW_L N (N 2).toNatClampNeg) := PI_L (S := fX7_hourW_S) (L := fX7_hourW_L N) (m := 3) rfl (fun _ => rfl) h (fun Q k hk hq => by
  unfold fX7_hourW_S
  exact hq.uw hk 2 4 (by omega) (by omega) rfl (nn.lit 4 (by decide))) _ h.w3.2
/-- AN HOUR: class and reference -/
theorem hour_Rl {u : Nat} {P N : Nat → Int32} (h : Rl P N) (hN : PI u N) (hu : 1998 * (u + 17) < 2 ^ 31) : Rl (fX2_goHour_P P) (fX7_hourOn_P N) ∧ PI (u + 17) (fX7_hourOn_P N) := by
  have h1 := raise_Rl h hN.s10.2 hN.su
  have p1 := PI_rise hN
  have eP1 : (fX2_raiseDust_P P 1) = fX7_raise_P (fX7_dry_P N) 1 := h1.hd (show 1 < 12 by decide)
  have h8 := p1.h8.2
  obtain ⟨h2, p2, c2⟩ := reachAll h1 p1 (by omega) _ (Nat.le_refl _)
  have e0 : fX2_reachHouses_P (fX2_raiseDust_P P) = fX2_reachHouses_L (fX2_raiseDust_P P) (fX7_raise_P (fX7_dry_P N) 1).toNatClampNeg := by unfold fX2_reachHouses_P; rw [eP1]
  rw [hourOn_eq]
  unfold fX2_goHour_P
  rw [e0]
  generalize fX7_hourH_L (fX7_raise_P (fX7_dry_P N)) (fX7_raise_P (fX7_dry_P N) 1).toNatClampNeg = N2 at h2 p2 ⊢
  generalize fX2_reachHouses_L (fX2_raiseDust_P P) (fX7_raise_P (fX7_dry_P N) 1).toNatClampNeg = P2 at h2 ⊢
  have h3 := settle_Rl h2 p2.s10.2
  have p3 := PI_set p2
  generalize fX7_hourS_L N2 (N2 0).toNatClampNeg = N3 at h3 p3 ⊢
  generalize fX2_goHour_L P2 10 = P3 at h3 ⊢
  have p4 := (PI_day p3 (by omega)).le (show _ ≤ u + 17 by omega)
  rw [clk_eq h3 p3]
  exact ⟨clock_Rl (day_Rl h3) p4.s10.2 p4.h8.2 p4.w3.2, PI_clk p4⟩
theorem hours_Rl {u : Nat} {P N : Nat → Int32} (h : Rl P N) (hN : PI u N) : ∀ k, 1998 * (u + 17 * k) < 2 ^ 31 → Rl (fX2_goHours_L P k) (fX7_pass_L N k) ∧ PI (u + 17 * k) (fX7_pass_L N k)
  | 0, _ => ⟨h, hN⟩
  | k + 1, hu => by
    obtain ⟨a, b⟩ := hours_Rl h hN k (by omega)
    have := hour_Rl a b (by omega)
    exact ⟨this.1, this.2.le (by omega)⟩
