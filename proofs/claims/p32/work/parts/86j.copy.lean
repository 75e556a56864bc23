/-! MATH: copies, pages, what stays. -/
theorem cS3_at (Q P : Nat → Int32) (i j : Nat) : fX3_copyFrom_P Q P i j = if sW i j then Q j else P j := by
  unfold fX3_copyFrom_P
  by_cases h : sW i j
  · rw [if_pos h]
    rcases sW_k h with rfl | rfl | rfl | rfl | rfl | rfl | rfl <;> simp (disch := omega) only [pk_us, pk_un]
  · rw [if_neg h]
    simp (disch := omega) only [pk_un]
theorem cS1_at (Q P : Nat → Int32) (i j : Nat) : fX1_copyFrom_P Q P i j = if 82 + 5 * i ≤ j ∧ j < 82 + 5 * i + 5 then Q j else P j := by
  unfold fX1_copyFrom_P
  by_cases h : 82 + 5 * i ≤ j ∧ j < 82 + 5 * i + 5
  · rw [if_pos h]
    rcases (show j = 82 + 5 * i ∨ j = 82 + 5 * i + 1 ∨ j = 82 + 5 * i + 2 ∨ j = 82 + 5 * i + 3 ∨ j = 82 + 5 * i + 4 by omega) with rfl | rfl | rfl | rfl | rfl <;> simp (disch := omega) only [pk_us, pk_un]
  · rw [if_neg h]
    simp (disch := omega) only [pk_un]
theorem cS5_at (Q P : Nat → Int32) (i j : Nat) : fX5_copyFrom_P Q P i j = if wW i j then Q j else P j := by
  unfold fX5_copyFrom_P
  by_cases h : wW i j
  · rw [if_pos h]
    rcases (show j = 122 + 3 * i ∨ j = 122 + 3 * i + 1 ∨ j = 122 + 3 * i + 2 by omega) with rfl | rfl | rfl <;> simp (disch := omega) only [pk_us, pk_un]
  · rw [if_neg h]
    simp (disch := omega) only [pk_un]
theorem cpS_at (Q P : Nat → Int32) (j : Nat) : ∀ k, fX2_cpS_L Q P k j = if 12 ≤ j ∧ j < 12 + 7 * k then Q j else P j
  | 0 => by rw [if_neg (by omega)]; rfl
  | k + 1 => by
    show fX3_copyFrom_P Q (fX2_cpS_L Q P k) k j = _
    rw [cS3_at, cpS_at Q P j k]
    (repeat' split) <;> first | rfl | omega
theorem cpH_at (Q P : Nat → Int32) (j : Nat) : ∀ k, fX2_cpH_L Q P k j = if 82 ≤ j ∧ j < 82 + 5 * k then Q j else P j
  | 0 => by rw [if_neg (by omega)]; rfl
  | k + 1 => by
    show fX1_copyFrom_P Q (fX2_cpH_L Q P k) k j = _
    rw [cS1_at, cpH_at Q P j k]
    (repeat' split) <;> first | rfl | omega
theorem cpW_at (Q P : Nat → Int32) (j : Nat) : ∀ k, fX2_cpW_L Q P k j = if 122 ≤ j ∧ j < 122 + 3 * k then Q j else P j
  | 0 => by rw [if_neg (by omega)]; rfl
  | k + 1 => by
    show fX5_copyFrom_P Q (fX2_cpW_L Q P k) k j = _
    rw [cS5_at, cpW_at Q P j k]
    (repeat' split) <;> first | rfl | omega
/-- the class's copy -/
theorem ccp (Q P : Nat → Int32) {j : Nat} (hj : j < 131) : fX2_copyFrom_P Q P j = Q j := by
  unfold fX2_copyFrom_P
  rw [cpW_at, cpH_at, cpS_at]
  by_cases h1 : 122 ≤ j
  · rw [if_pos (by omega)]
  by_cases h2 : 82 ≤ j
  · rw [if_neg (by omega), if_pos (by omega)]
  by_cases h3 : 12 ≤ j
  · rw [if_neg (by omega), if_neg (by omega), if_pos (by omega)]
  · rw [if_neg (by omega), if_neg (by omega), if_neg (by omega)]
    rcases (show j = 0 ∨ j = 1 ∨ j = 2 ∨ j = 3 ∨ j = 4 ∨ j = 5 ∨ j = 6 ∨ j = 7 ∨ j = 8 ∨ j = 9 ∨ j = 10 ∨ j = 11 by omega) with rfl | rfl | rfl | rfl | rfl | rfl | rfl | rfl | rfl | rfl | rfl | rfl <;> rfl
/-- the reference's copy, to the head -/
theorem rcp (Q P : Nat → Int32) (fa : Nat) {j : Nat} (hj : j < 131) : fX7_copyPage_P Q P fa 0 j = Q (fa + j) := by
  rw [cp_at, if_pos (by omega)]
  rfl
theorem rcp0 (Q P : Nat → Int32) {j : Nat} (hj : j < 131) : fX7_copyPage_P Q P 0 0 j = Q j := by
  rw [rcp Q P 0 hj, Nat.zero_add]
/-- a page of the class, one of the reference, its bounds -/
def PG (u : Nat) (P N : Nat → Int32) : Prop := Rl P N ∧ PI u N ∧ BL P
theorem PI.cong {u : Nat} {N N' : Nat → Int32} (h : PI u N) (e : ∀ j, j < 131 → N' j = N j) : PI u N' := by
  refine ⟨fun j hj => by rw [e j hj]; exact h.1 j hj, by rw [e 0 (by omega)]; exact h.2.1, fun i hi => ?_, fun i hi => ?_⟩
  · rw [e _ (by omega), e 0 (by omega)]; exact h.2.2.1 i hi
  · rw [e _ (by omega), e 0 (by omega)]; exact h.2.2.2 i hi
theorem Rl.cong {u : Nat} {P P' N N' : Nat → Int32} (h : Rl P N) (hN : PI u N) (e : ∀ j, j < 131 → N' j = N j) (e2 : ∀ j, j < 131 → P' j = P j) : Rl P' N' := by
  intro j hj
  rw [e 0 (by omega), e 1 (by omega), e 2 (by omega)] at hj
  have h1 := hN.s10.2
  have h2 := hN.h8.2
  have h3 := hN.w3.2
  have h131 : j < 131 := by unfold lv at hj; omega
  rw [e j h131, e2 j h131]
  exact h j hj
theorem BL.of {P P' : Nat → Int32} (h : BL P) (e : ∀ i, i < 10 → P' (12 + 7 * i + 5) = P (12 + 7 * i + 5)) : BL P' := fun i hi => by rw [e i hi]; exact h i hi
theorem PG.cong {u : Nat} {P P' N N' : Nat → Int32} (h : PG u P N) (e : ∀ j, j < 131 → N' j = N j) (e2 : ∀ j, j < 131 → P' j = P j) : PG u P' N' := ⟨h.1.cong h.2.1 e e2, h.2.1.cong e, h.2.2.of (fun i hi => e2 _ (by omega))⟩
theorem PG.le {u v : Nat} {P N : Nat → Int32} (h : PG u P N) (hv : u ≤ v) : PG v P N := ⟨h.1, h.2.1.le hv, h.2.2⟩
theorem PG.copy {u : Nat} {P N : Nat → Int32} (h : PG u P N) (Q V : Nat → Int32) : PG u (fX2_copyFrom_P P Q) (fX7_copyPage_P N V 0 0) := h.cong (fun _ hj => rcp0 N V hj) (fun _ hj => ccp P Q hj)
theorem PI.ws {u : Nat} {N : Nat → Int32} (h : PI u N) : WS N := by
  refine ⟨h.s10, h.h8, h.w3, fun i hi => ?_, fun i hi => ?_⟩
  · have h1 := h.nh hi 0 9 (by omega) rfl (j := 82 + 5 * i) rfl
    have h2 := h.nh hi 1 9 (by omega) rfl rfl
    have h3 := h2.2
    exact ⟨h1.1, h.sh hi, two_ne h2.1 (by omega)⟩
  · have h1 := h.nw hi 0 9 (by omega) rfl (j := 122 + 3 * i) rfl
    have h3 := h1.2
    exact ⟨h1.1, by omega⟩
-- the filling flags of the class stay
theorem fl_ite {c : Prop} [Decidable c] {f g : Nat → Int32} {j : Nat} {x : Int32} (h1 : f j = x) (h2 : g j = x) : (if c then f else g) j = x := by
  by_cases h : c
  · rw [if_pos h]; exact h1
  · rw [if_neg h]; exact h2
theorem fl_house (P : Nat → Int32) (a b : Int32) {i : Nat} (hi : i < 10) : fX2_buildHouse_P P a b (12 + 7 * i + 5) = P (12 + 7 * i + 5) := by
  unfold fX2_buildHouse_P fX1_beNew_P
  (repeat' (refine fl_ite ?_ ?_)) <;> simp (disch := omega) only [pk_un]
theorem fl_wagon (P : Nat → Int32) (a : Int32) {i : Nat} (hi : i < 10) : fX2_bringWagon_P P a (12 + 7 * i + 5) = P (12 + 7 * i + 5) := by
  unfold fX2_bringWagon_P fX5_beNew_P
  (repeat' (refine fl_ite ?_ ?_)) <;> simp (disch := omega) only [pk_un]
theorem fl_surface (P : Nat → Int32) (a b : Int32) {i : Nat} (hi : i < 10) : fX2_changeSurface_P P a b (12 + 7 * i + 5) = P (12 + 7 * i + 5) := by
  unfold fX2_changeSurface_P
  (repeat' (refine fl_ite ?_ ?_)) <;> simp (disch := omega) only [pk_un]
theorem fl_limit (P : Nat → Int32) (a b : Int32) {i : Nat} (hi : i < 10) : fX2_changeLimit_P P a b (12 + 7 * i + 5) = P (12 + 7 * i + 5) := by
  unfold fX2_changeLimit_P
  (repeat' (refine fl_ite ?_ ?_)) <;> simp (disch := omega) only [pk_un]
theorem fl_set (P : Nat → Int32) (a b : Int32) {i : Nat} (hi : i < 10) : fX2_changeNumber_P P a b (12 + 7 * i + 5) = P (12 + 7 * i + 5) := by
  unfold fX2_changeNumber_P
  (repeat' (refine fl_ite ?_ ?_)) <;> simp (disch := omega) only [pk_un]
theorem fl_drive (P : Nat → Int32) (a b : Int32) {i : Nat} (hi : i < 10) : fX2_moveWagon_P P a b (12 + 7 * i + 5) = P (12 + 7 * i + 5) := by
  unfold fX2_moveWagon_P
  (repeat' (refine fl_ite ?_ ?_)) <;> simp (disch := omega) only [pk_un]
theorem fl_wet (P : Nat → Int32) (s : Nat) (d : Int32) {i : Nat} : fX3_wet_P P s d (12 + 7 * i + 5) = P (12 + 7 * i + 5) := by
  unfold fX3_wet_P
  exact pk_un (by omega)
theorem fl_spray (P : Nat → Int32) (a b : Int32) {i : Nat} (hi : i < 10) : fX2_sprayFrom_P P a b (12 + 7 * i + 5) = P (12 + 7 * i + 5) := by
  unfold fX2_sprayFrom_P
  (repeat' (refine fl_ite ?_ ?_)) <;> first | rfl | (rw [fl_wet]; simp (disch := omega) only [pk_un])
theorem fl_fill (P : Nat → Int32) (a : Int32) {i : Nat} (hi : i < 10) : fX2_fillTank_P P a (12 + 7 * i + 5) = P (12 + 7 * i + 5) := by
  unfold fX2_fillTank_P
  (repeat' (refine fl_ite ?_ ?_)) <;> simp (disch := omega) only [pk_un]
theorem fl_raise (P : Nat → Int32) (i : Nat) : ∀ k, fX2_raiseDust_L P k (12 + 7 * i + 5) = P (12 + 7 * i + 5)
  | 0 => rfl
  | k + 1 => by
    refine Eq.trans ?_ (fl_raise P i k)
    show fX2_raiseDust_S _ k _ = _
    unfold fX2_raiseDust_S fX3_raise_P fX3_dry_P
    simp (disch := omega) only [pk_un]
theorem fl_cmS (P : Nat → Int32) (s i : Nat) : cmS P s (12 + 7 * i + 5) = P (12 + 7 * i + 5) := by
  unfold cmS
  (repeat' (refine fl_ite ?_ ?_)) <;> simp (disch := omega) only [pk_un]
theorem fl_reach (P : Nat → Int32) {i : Nat} (hi : i < 10) : ∀ k, fX2_reachHouses_L P k (12 + 7 * i + 5) = P (12 + 7 * i + 5)
  | 0 => rfl
  | k + 1 => by
    refine Eq.trans ?_ (fl_reach P hi k)
    show fX2_reachHouses_S _ k _ = _
    unfold fX2_reachHouses_S
    (repeat' (refine fl_ite ?_ ?_)) <;> first | rfl | (rw [hear_eq, fl_cmS]; simp (disch := omega) only [pk_un]) | simp (disch := omega) only [pk_un]
theorem fl_settle (P : Nat → Int32) (i : Nat) : ∀ k, fX2_goHour_L P k (12 + 7 * i + 5) = P (12 + 7 * i + 5)
  | 0 => rfl
  | k + 1 => by
    refine Eq.trans ?_ (fl_settle P i k)
    show fX2_goHour_S _ k _ = _
    unfold fX2_goHour_S fX3_settle_P
    simp (disch := omega) only [pk_un]
theorem fl_clk (P : Nat → Int32) {i : Nat} (hi : i < 10) : fX2_turnClock_P P (12 + 7 * i + 5) = P (12 + 7 * i + 5) := by
  have key : ∀ (Q : Nat → Int32) k, fX2_turnClock_L Q k (12 + 7 * i + 5) = Q (12 + 7 * i + 5) := fun Q k => (clk_L Q k).1 _ (fun k' _ => by omega)
  unfold fX2_turnClock_P
  refine fl_ite ?_ ?_
  · rw [key]; simp (disch := omega) only [pk_un]
  · rw [key]; simp (disch := omega) only [pk_un]
theorem fl_hour (P : Nat → Int32) {i : Nat} (hi : i < 10) : fX2_goHour_P P (12 + 7 * i + 5) = P (12 + 7 * i + 5) := by
  unfold fX2_goHour_P
  rw [fl_clk _ hi, fl_settle]
  exact (fl_reach _ hi _).trans (fl_raise P i 10)
theorem fl_hours (P : Nat → Int32) {i : Nat} (hi : i < 10) : ∀ k, fX2_goHours_L P k (12 + 7 * i + 5) = P (12 + 7 * i + 5)
  | 0 => rfl
  | k + 1 => (fl_hour _ hi).trans (fl_hours P hi k)
theorem fl_pass (P : Nat → Int32) (a : Int32) {i : Nat} (hi : i < 10) : fX2_goHours_P P a (12 + 7 * i + 5) = P (12 + 7 * i + 5) := by
  unfold fX2_goHours_P
  exact fl_ite rfl (fl_hours P hi _)
