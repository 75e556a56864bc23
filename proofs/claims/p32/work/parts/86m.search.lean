/-! MATH: bestSpray, dustiest. -/
theorem rd_val {N N' : Nat → Int32} (h0 : N' 0 = N 0) (h5 : N' 5 = N 5) (h6 : N' 6 = N 6) {s : Nat} (hs : s < (N 0).toNatClampNeg) (e0 : N' (12 + 7 * s) = N (12 + 7 * s)) (e1 : N' (12 + 7 * s + 1) = N (12 + 7 * s + 1)) (e3 : N' (12 + 7 * s + 3) = N (12 + 7 * s + 3)) (e4 : N' (12 + 7 * s + 4) = N (12 + 7 * s + 4)) : fX7_raise_P (fX7_dry_P N') (12 + 7 * s + 3) = fX7_raise_P (fX7_dry_P N) (12 + 7 * s + 3) := by
  have key : ∀ X : Nat → Int32, s < (X 0).toNatClampNeg → fX7_raise_P (fX7_dry_P X) (12 + 7 * s + 3) = fX7_raise_S (fX7_dry_S X s) s (12 + 7 * s + 3) := by
    intro X hX
    have z0 : fX7_dry_P X 0 = X 0 := fX7_dry_L0 X 0 (by omega) _
    have e2 : fX7_raise_P (fX7_dry_P X) (12 + 7 * s + 3) = fX7_raise_S (fX7_dry_P X) s (12 + 7 * s + 3) := (rai_L (fX7_dry_P X) _).2 s (by rw [z0]; exact hX) _ (by omega)
    rw [e2]
    exact rai_in _ _ s (fun k hk => (fX7_dry_L0 X k hk _).trans (fX7_dry_S0 X s k hk).symm) (fun k hk => (dry_L X _).2 s hX k hk) _ (by omega)
  rw [key N hs, key N' (by rw [h0]; exact hs)]
  unfold fX7_raise_S fX7_dry_S
  rw [e0, e4, h5, h6]
  by_cases q0 : N (12 + 7 * s) = 0
  · simp (disch := omega) only [pk_us, pk_un, q0, if_true, e0, e1, e3, h5]
  · by_cases q1 : N (12 + 7 * s) = 1
    · simp (disch := omega) only [pk_us, pk_un, if_neg q0, if_pos q1, e0, e1, e3, h5]
    · by_cases q5 : N 5 ≤ 0
      · simp (disch := omega) only [pk_us, pk_un, if_neg q0, if_neg q1, if_pos q5, e0, e1, e3, h5]
      · simp (disch := omega) only [pk_us, pk_un, if_neg q0, if_neg q1, if_neg q5, e0, e1, e3, h5]
/-- pages that differ in wagons and what is sprayed alone: their houses get the same -/
theorem nx_same {u v : Nat} {N N' : Nat → Int32} (hN : PI u N) (hN' : PI v N') (hu : 1998 * (u + 17) < 2 ^ 31) (hv : 1998 * (v + 17) < 2 ^ 31) (hd : ∀ j, j < 7 → N' j = N j) (hw : ∀ j, 12 ≤ j → j < 122 → N' j = N j) {i : Nat} (hi : i < (N 1).toNatClampNeg) : fX7_hourOn_P N' (82 + 5 * i + 4) = fX7_hourOn_P N (82 + 5 * i + 4) := by
  have s10 := hN.s10.2
  have h8 := hN.h8.2
  have p := PI_rise hN
  rw [(hour_house hN hu hi).1, (hour_house hN' hv (by rw [hd 1 (by omega)]; exact hi)).1]
  have e0 : N' 0 = N 0 := hd 0 (by omega)
  have eD : ∀ a : Int32, fX7_dustOf_v (fX7_raise_P (fX7_dry_P N')) a = fX7_dustOf_v (fX7_raise_P (fX7_dry_P N)) a := by
    intro a
    unfold fX7_dustOf_v fX7_isSegment_v
    rw [raise_hd N' (show 0 < 12 by omega), raise_hd N (show 0 < 12 by omega), e0]
    by_cases q : fX7_in_v a.toInt64 0 (N 0 - 1).toInt64 = 0
    · rw [if_pos q, if_pos q]
    · rw [if_neg q, if_neg q]
      have h2 := isPl hN.s10.1 (Nat.lt_of_le_of_lt hN.s10.2 (by decide)) q
      exact rd_val e0 (hd 5 (by omega)) (hd 6 (by omega)) h2.2 (hw _ (by omega) (by omega)) (hw _ (by omega) (by omega)) (hw _ (by omega) (by omega)) (hw _ (by omega) (by omega))
  unfold fX7_gets_v
  have s10' : (N' 0).toNatClampNeg ≤ 10 := by rw [e0]; exact s10
  rw [raise_hi N' s10' (show 82 ≤ 82 + 5 * i by omega), raise_hi N' s10' (show 82 ≤ 82 + 5 * i + 1 by omega), raise_hi N s10 (show 82 ≤ 82 + 5 * i by omega), raise_hi N s10 (show 82 ≤ 82 + 5 * i + 1 by omega), hw _ (show 12 ≤ 82 + 5 * i by omega) (by omega), hw _ (show 12 ≤ 82 + 5 * i + 1 by omega) (by omega), eD, eD, eD]
theorem sum_nx {P N : Nat → Int32} : ∀ n, (∀ i, i < n → fX2_dustFor_v P i = N (82 + 5 * i + 4)) → fX2_dustForAll_A1 P n = fX7_nextForAll_A1 N n
  | 0, _ => rfl
  | n + 1, h => by
    unfold fX2_dustForAll_A1 fX7_nextForAll_A1 fX2_dustForAll_T1 fX7_nextForAll_T1
    rw [sum_nx n (fun i hi => h i (by omega)), h n (by omega)]
theorem sum_gt {P N : Nat → Int32} : ∀ n, (∀ i, i < n → fX2_dustFor_v P i = fX7_gets_v N i) → fX2_dustForAll_A1 P n = fX7_du_A4 N n
  | 0, _ => rfl
  | n + 1, h => by
    unfold fX2_dustForAll_A1 fX7_du_A4 fX2_dustForAll_T1 fX7_du_T4
    rw [sum_gt n (fun i hi => h i (by omega)), h n (by omega)]
/-- the ways a wagon could go, and spray there -/
theorem bs_could {u : Nat} {P N : Nat → Int32} (h : PG u P N) (Y : Nat → Int32) {i : Nat} (hi : i < (N 2).toNatClampNeg) {k : Nat} (hk : k < (N 0).toNatClampNeg) (d : Int32) : (fX5_couldSpray_v P i (nI k) d = 0) ↔ (fX7_driveOn_v (fX7_copyPage_P N Y 0 0) i (nI k) = 0 ∨ fX7_sprayOn_v (fX7_driveOn_P (fX7_copyPage_P N Y 0 0) i (nI k)) i d = 0) := by
  have w3 := h.2.1.w3.2
  have s10 := h.2.1.s10.2
  have hi3 : i < 3 := by omega
  have hm := h.2.1.nw hi3 2 4 (by omega) rfl rfl
  have hn := h.2.1.nw hi3 0 9 (by omega) rfl (j := 122 + 3 * i) rfl
  have e0 : P (122 + 3 * i) = N (122 + 3 * i) := h.1.wa hi (show 0 < 3 by decide) rfl
  obtain ⟨ew, hw⟩ := way_far (P := P) (N := N) (i := i) (a := nI k) e0 hn (nn.of rfl (by omega) (by decide))
  have c0 : ∀ m, m < 3 → fX7_copyPage_P N Y 0 0 (122 + 3 * i + m) = N (122 + 3 * i + m) := fun m hm => rcp0 N Y (by omega)
  have ef : fX7_far_v (fX7_copyPage_P N Y 0 0) i (nI k) = fX7_far_v N i (nI k) := by
    unfold fX7_far_v
    rw [show fX7_copyPage_P N Y 0 0 (122 + 3 * i) = N (122 + 3 * i) from c0 0 (by omega)]
  unfold fX5_couldSpray_v fX7_driveOn_v fX7_driveOn_P fX7_sprayOn_v
  rw [ew, ef, c0 2 (by omega), h.1.wa hi (show 2 < 3 by decide) rfl, h.1.wa hi (show 1 < 3 by decide) rfl]
  generalize fX7_far_v N i (nI k) = w at hw ⊢
  generalize hM : N (122 + 3 * i + 2) = m at hm ⊢
  by_cases q : w ≤ m
  · rw [if_pos q, if_pos q]
    simp (disch := omega) only [pk_us, pk_un]
    rw [c0 1 (by omega)]
    have eq0 : (m - w = 0) ↔ m ≤ w := by
      constructor
      · intro z
        have : m = w := by
          have := congrArg (fun x => x + w) z
          simpa using this
        rw [this]; exact Int32.le_refl _
      · intro z
        rw [Int32.le_antisymm z q]
        exact Int32.sub_self _
    by_cases z : m ≤ w
    · rw [if_pos z, if_pos (eq0.mpr z)]
      exact ⟨fun _ => Or.inr rfl, fun _ => rfl⟩
    · rw [if_neg z, if_neg (fun y => z (eq0.mp y))]
      by_cases y : N (122 + 3 * i + 1) < d
      · rw [if_pos y, if_neg (i32_lt_nle y)]
        exact ⟨fun _ => Or.inr rfl, fun _ => rfl⟩
      · rw [if_neg y, if_pos (i32_nlt y)]
        exact ⟨fun t => absurd t (by decide), fun t => t.elim (fun t => absurd t (by decide)) (fun t => absurd t (by decide))⟩
  · rw [if_pos (Int32.le_of_lt (i32_nle q)), if_neg q]
    exact ⟨fun _ => Or.inl rfl, fun _ => rfl⟩
