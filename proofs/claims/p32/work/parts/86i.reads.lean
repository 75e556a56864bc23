/-! MATH: what there is. -/
/-- a question: answered by both, or refused by both -/
def RE (cv rv : Int32) (rf : Nat) (E : Nat → String) : Prop := (rf = 0 ∧ xOf cv = none ∧ rv = cv) ∨ (1 ≤ rf ∧ rf ≤ 3 ∧ xOf cv = some (E rf))
theorem num_cases {d : Int32} {hi : Nat} (h : ¬ fX6_within_v d (nI 0) (nI hi) = 0) (hh : hi < 2 ^ 31) : ∃ k, k ≤ hi ∧ d = nI k ∧ d.toNatClampNeg = k := by
  obtain ⟨q, -⟩ := wi_nn h hh (Nat.zero_le _)
  exact ⟨_, q.2, q.1, rfl⟩
theorem out_ne {d : Int32} {hi : Nat} (h : fX6_within_v d (nI 0) (nI hi) = 0) (hh : hi < 2 ^ 31) {k : Nat} (hk : k ≤ hi) : ¬ d = nI k := by
  intro e
  subst e
  unfold fX6_within_v at h
  rw [if_neg (nI_nlt (Nat.zero_le k) (by omega)), if_neg (nI_nlt hk hh)] at h
  exact absurd h (by decide)
def rfSg (N : Nat → Int32) (a d : Int32) : Nat := if fX7_isSegment_v N a = 0 then 1 else if fX7_in_v d.toInt64 0 6 = 0 then 2 else 0
theorem re_segment {u : Nat} {P N : Nat → Int32} (h : Rl P N) (hN : PI u N) (hu : u < 2 ^ 31) (a d : Int32) : RE (if okI a (P 0) 10 then fX3_number_v P a.toNatClampNeg d else -1) (if fX7_isSegment_v N a = 0 then 0 else if fX7_in_v d.toInt64 0 6 = 0 then 0 else N (12 + 7 * a.toNatClampNeg + d.toNatClampNeg)) (rfSg N a d) (EE xIO xIA xIS) := by
  unfold RE rfSg
  rw [w_06, h.hd (show 0 < 12 by decide)]
  simp only [sg_ok hN]
  by_cases h1 : okI a (N 0) 10
  · rw [if_pos h1]
    simp only [not_not_intro h1, if_false]
    obtain ⟨ha, hl⟩ := h1.nn hN.s10 (by decide)
    have s10 := hN.s10.2
    have hi : a.toNatClampNeg < 10 := by omega
    by_cases h2 : fX6_within_v d 0 6 = 0
    · simp only [h2, if_true]
      refine Or.inr ⟨by decide, by decide, ?_⟩
      unfold fX3_number_v
      rw [if_neg (show ¬ d = 0 from out_ne h2 (by decide) (show 0 ≤ 6 by decide)), if_neg (show ¬ d = 1 from out_ne h2 (by decide) (show 1 ≤ 6 by decide)), if_neg (show ¬ d = 2 from out_ne h2 (by decide) (show 2 ≤ 6 by decide)), if_neg (show ¬ d = 3 from out_ne h2 (by decide) (show 3 ≤ 6 by decide)), if_neg (show ¬ d = 4 from out_ne h2 (by decide) (show 4 ≤ 6 by decide)), if_neg (show ¬ d = 5 from out_ne h2 (by decide) (show 5 ≤ 6 by decide)), if_neg (show ¬ d = 6 from out_ne h2 (by decide) (show 6 ≤ 6 by decide))]
      rfl
    · simp only [h2, if_false]
      obtain ⟨k, hk, e, ek⟩ := num_cases (hi := 6) h2 (by decide)
      rw [ek]
      have key : fX3_number_v P a.toNatClampNeg d = N (12 + 7 * a.toNatClampNeg + k) := by
        subst e
        unfold fX3_number_v
        rcases (show k = 0 ∨ k = 1 ∨ k = 2 ∨ k = 3 ∨ k = 4 ∨ k = 5 ∨ k = 6 by omega) with rfl | rfl | rfl | rfl | rfl | rfl | rfl
        · rw [if_pos (by decide)]; exact h.sg hl (show 0 < 7 by decide) rfl
        · rw [if_neg (by decide), if_pos (by decide)]; exact h.sg hl (by decide) rfl
        · rw [if_neg (by decide), if_neg (by decide), if_pos (by decide)]; exact h.sg hl (by decide) rfl
        · rw [if_neg (by decide), if_neg (by decide), if_neg (by decide), if_pos (by decide)]; exact h.sg hl (by decide) rfl
        · rw [if_neg (by decide), if_neg (by decide), if_neg (by decide), if_neg (by decide), if_pos (by decide)]; exact h.sg hl (by decide) rfl
        · rw [if_neg (by decide), if_neg (by decide), if_neg (by decide), if_neg (by decide), if_neg (by decide), if_pos (by decide), h.sg hl (show 5 < 7 by decide) rfl]
          obtain ⟨n, hn, en, -⟩ := (hN.ns hi 5 1 (by omega) rfl rfl).ex
          rw [en]
          rcases (show n = 0 ∨ n = 1 by omega) with rfl | rfl <;> rfl
        · rw [if_neg (by decide), if_neg (by decide), if_neg (by decide), if_neg (by decide), if_neg (by decide), if_neg (by decide), if_pos (by decide)]; exact h.sg hl (by decide) rfl
      rw [key]
      have hb : us u k ≤ u + 999 := by unfold us; (repeat' split) <;> omega
      have hb2 : us u k < 2 ^ 31 := by unfold us; (repeat' split) <;> omega
      exact Or.inl ⟨trivial, xof_nn (hN.ns hi k _ (by omega) rfl rfl) hb2, rfl⟩
  · rw [if_neg h1]
    simp only [h1, not_false_eq_true, if_true]
    exact Or.inr ⟨by decide, by decide, rfl⟩
def rfHo (N : Nat → Int32) (a d : Int32) : Nat := if fX7_isHouse_v N a = 0 then 1 else if fX7_in_v d.toInt64 0 4 = 0 then 2 else 0
theorem re_house {u : Nat} {P N : Nat → Int32} (h : Rl P N) (hN : PI u N) (hu : 1998 * u < 2 ^ 31) (a d : Int32) : RE (if okI a (P 1) 8 then fX1_number_v P a.toNatClampNeg d else -1) (if fX7_isHouse_v N a = 0 then 0 else if fX7_in_v d.toInt64 0 4 = 0 then 0 else N (82 + 5 * a.toNatClampNeg + d.toNatClampNeg)) (rfHo N a d) (EE xIO xIA xIS) := by
  unfold RE rfHo
  rw [w_04, h.hd (show 1 < 12 by decide)]
  simp only [ho_ok hN]
  by_cases h1 : okI a (N 1) 8
  · rw [if_pos h1]
    simp only [not_not_intro h1, if_false]
    obtain ⟨ha, hl⟩ := h1.nn hN.h8 (by decide)
    have s8 := hN.h8.2
    have hi : a.toNatClampNeg < 8 := by omega
    by_cases h2 : fX6_within_v d 0 4 = 0
    · simp only [h2, if_true]
      refine Or.inr ⟨by decide, by decide, ?_⟩
      unfold fX1_number_v
      rw [if_neg (show ¬ d = 0 from out_ne h2 (by decide) (show 0 ≤ 4 by decide)), if_neg (show ¬ d = 1 from out_ne h2 (by decide) (show 1 ≤ 4 by decide)), if_neg (show ¬ d = 2 from out_ne h2 (by decide) (show 2 ≤ 4 by decide)), if_neg (show ¬ d = 3 from out_ne h2 (by decide) (show 3 ≤ 4 by decide)), if_neg (show ¬ d = 4 from out_ne h2 (by decide) (show 4 ≤ 4 by decide))]
      rfl
    · simp only [h2, if_false]
      obtain ⟨k, hk, e, ek⟩ := num_cases (hi := 4) h2 (by decide)
      rw [ek]
      have key : fX1_number_v P a.toNatClampNeg d = N (82 + 5 * a.toNatClampNeg + k) := by
        subst e
        unfold fX1_number_v
        rcases (show k = 0 ∨ k = 1 ∨ k = 2 ∨ k = 3 ∨ k = 4 by omega) with rfl | rfl | rfl | rfl | rfl
        · rw [if_pos (by decide)]; exact h.ho hl (show 0 < 5 by decide) rfl
        · rw [if_neg (by decide), if_pos (by decide)]; exact h.ho hl (by decide) rfl
        · rw [if_neg (by decide), if_neg (by decide), if_pos (by decide)]; exact h.ho hl (by decide) rfl
        · rw [if_neg (by decide), if_neg (by decide), if_neg (by decide), if_pos (by decide)]; exact h.ho hl (by decide) rfl
        · rw [if_neg (by decide), if_neg (by decide), if_neg (by decide), if_neg (by decide), if_pos (by decide)]; exact h.ho hl (by decide) rfl
      rw [key]
      have hb2 : uh u k < 2 ^ 31 := by unfold uh; (repeat' split) <;> omega
      exact Or.inl ⟨trivial, xof_nn (hN.nh hi k _ (by omega) rfl rfl) hb2, rfl⟩
  · rw [if_neg h1]
    simp only [h1, not_false_eq_true, if_true]
    exact Or.inr ⟨by decide, by decide, rfl⟩
def rfWa (N : Nat → Int32) (a d : Int32) : Nat := if fX7_isWagon_v N a = 0 then 1 else if fX7_in_v d.toInt64 0 2 = 0 then 2 else 0
theorem re_wagon {u : Nat} {P N : Nat → Int32} (h : Rl P N) (hN : PI u N) (a d : Int32) : RE (if okI a (P 2) 3 then fX5_number_v P a.toNatClampNeg d else -1) (if fX7_isWagon_v N a = 0 then 0 else if fX7_in_v d.toInt64 0 2 = 0 then 0 else N (122 + 3 * a.toNatClampNeg + d.toNatClampNeg)) (rfWa N a d) (EE xIO xIA xIS) := by
  unfold RE rfWa
  rw [w_02, h.hd (show 2 < 12 by decide)]
  simp only [wa_ok hN]
  by_cases h1 : okI a (N 2) 3
  · rw [if_pos h1]
    simp only [not_not_intro h1, if_false]
    obtain ⟨ha, hl⟩ := h1.nn hN.w3 (by decide)
    have s3 := hN.w3.2
    have hi : a.toNatClampNeg < 3 := by omega
    by_cases h2 : fX6_within_v d 0 2 = 0
    · simp only [h2, if_true]
      refine Or.inr ⟨by decide, by decide, ?_⟩
      unfold fX5_number_v
      rw [if_neg (show ¬ d = 0 from out_ne h2 (by decide) (show 0 ≤ 2 by decide)), if_neg (show ¬ d = 1 from out_ne h2 (by decide) (show 1 ≤ 2 by decide)), if_neg (show ¬ d = 2 from out_ne h2 (by decide) (show 2 ≤ 2 by decide))]
      rfl
    · simp only [h2, if_false]
      obtain ⟨k, hk, e, ek⟩ := num_cases (hi := 2) h2 (by decide)
      rw [ek]
      have key : fX5_number_v P a.toNatClampNeg d = N (122 + 3 * a.toNatClampNeg + k) := by
        subst e
        unfold fX5_number_v
        rcases (show k = 0 ∨ k = 1 ∨ k = 2 by omega) with rfl | rfl | rfl
        · rw [if_pos (by decide)]; exact h.wa hl (show 0 < 3 by decide) rfl
        · rw [if_neg (by decide), if_pos (by decide)]; exact h.wa hl (by decide) rfl
        · rw [if_neg (by decide), if_neg (by decide), if_pos (by decide)]; exact h.wa hl (by decide) rfl
      rw [key]
      have hb2 : uw k < 2 ^ 31 := by unfold uw; (repeat' split) <;> omega
      exact Or.inl ⟨trivial, xof_nn (hN.nw hi k _ (by omega) rfl rfl) hb2, rfl⟩
  · rw [if_neg h1]
    simp only [h1, not_false_eq_true, if_true]
    exact Or.inr ⟨by decide, by decide, rfl⟩
theorem all_dust {u : Nat} {P N : Nat → Int32} (h : Rl P N) (hN : PI u N) (X : Nat → Int32) : ∀ k, k ≤ 10 → fX2_dustOfAll_A1 P k = fX7_about_A2 N X k ∧ nn (999 * k) (fX7_about_A2 N X k)
  | 0, _ => ⟨rfl, nn.of nI_0.symm (by omega) (by omega)⟩
  | k + 1, hk => by
    obtain ⟨a, b⟩ := all_dust h hN X k (by omega)
    have e := dustAt_Rl h hN.s10 (nI k)
    refine ⟨?_, ?_⟩
    · show fX2_dustOfAll_A1 P k + fX2_dustAt_v P (nI k) = fX7_about_A2 N X k + fX7_dustOf_v N (nI k)
      rw [a, e]
    · exact (b.add (dustOf_nn hN (nI k)) (by omega)).le (by omega)
def rfAb (a : Int32) : Nat := if fX7_in_v a.toInt64 0 12 = 0 then 1 else 0
theorem re_about {u : Nat} {P N : Nat → Int32} (h : Rl P N) (hN : PI u N) (hu : 9 * u < 2 ^ 31) (X : Nat → Int32) (a : Int32) : RE (fX2_number_v P a) (if fX7_in_v a.toInt64 0 12 = 0 then 0 else if 12 ≤ a then fX7_about_A2 N X (N 0).toNatClampNeg else N a.toNatClampNeg) (rfAb a) (EE xIA xIA xIA) := by
  unfold RE rfAb
  rw [w_012]
  by_cases h2 : fX6_within_v a 0 12 = 0
  · simp only [h2, if_true]
    refine Or.inr ⟨by decide, by decide, ?_⟩
    unfold fX2_number_v
    rw [if_neg (show ¬ a = 0 from out_ne h2 (by decide) (show 0 ≤ 12 by decide)), if_neg (show ¬ a = 1 from out_ne h2 (by decide) (show 1 ≤ 12 by decide)), if_neg (show ¬ a = 2 from out_ne h2 (by decide) (show 2 ≤ 12 by decide)), if_neg (show ¬ a = 3 from out_ne h2 (by decide) (show 3 ≤ 12 by decide)), if_neg (show ¬ a = 4 from out_ne h2 (by decide) (show 4 ≤ 12 by decide)), if_neg (show ¬ a = 5 from out_ne h2 (by decide) (show 5 ≤ 12 by decide)), if_neg (show ¬ a = 6 from out_ne h2 (by decide) (show 6 ≤ 12 by decide)), if_neg (show ¬ a = 7 from out_ne h2 (by decide) (show 7 ≤ 12 by decide)), if_neg (show ¬ a = 8 from out_ne h2 (by decide) (show 8 ≤ 12 by decide)), if_neg (show ¬ a = 9 from out_ne h2 (by decide) (show 9 ≤ 12 by decide)), if_neg (show ¬ a = 10 from out_ne h2 (by decide) (show 10 ≤ 12 by decide)), if_neg (show ¬ a = 11 from out_ne h2 (by decide) (show 11 ≤ 12 by decide)), if_neg (show ¬ a = 12 from out_ne h2 (by decide) (show 12 ≤ 12 by decide))]
    rfl
  · simp only [h2, if_false]
    obtain ⟨k, hk, e, ek⟩ := num_cases (hi := 12) h2 (by decide)
    rw [ek]
    by_cases h12 : k = 12
    · subst h12
      have s10 := hN.s10.2
      obtain ⟨c1, c2⟩ := all_dust h hN X (N 0).toNatClampNeg s10
      have e1 : fX2_number_v P a = fX7_about_A2 N X (N 0).toNatClampNeg := by
        subst e
        unfold fX2_number_v
        simp (decide := true) only [if_false, if_true]
        unfold fX2_dustOfAll_v
        rw [h.hd (show 0 < 12 by decide), c1]
      rw [if_pos (by rw [e]; decide), e1]
      exact Or.inl ⟨trivial, xof_nn c2 (by omega), rfl⟩
    · rw [if_neg (by rw [e]; exact nI_ge (show k < 12 by omega) (by decide))]
      have key : fX2_number_v P a = N k := by
        subst e
        unfold fX2_number_v
        rcases (show k = 0 ∨ k = 1 ∨ k = 2 ∨ k = 3 ∨ k = 4 ∨ k = 5 ∨ k = 6 ∨ k = 7 ∨ k = 8 ∨ k = 9 ∨ k = 10 ∨ k = 11 by omega) with rfl | rfl | rfl | rfl | rfl | rfl | rfl | rfl | rfl | rfl | rfl | rfl
        all_goals
          simp (decide := true) only [if_false, if_true]
          exact h.hd (by decide)
      rw [key]
      have hb2 : u0 u k < 2 ^ 31 := by unfold u0; (repeat' split) <;> omega
      exact Or.inl ⟨trivial, xof_nn (hN.n0 k _ (by omega) rfl) hb2, rfl⟩
def rfWh (N : Nat → Int32) (a : Int32) : Nat := if fX7_isWagon_v N a = 0 then 1 else 0
theorem re_why {u : Nat} {P N : Nat → Int32} (h : Rl P N) (hN : PI u N) (a : Int32) : RE (if okI a (P 2) 3 then fX2_whyNoWater_v P a.toNatClampNeg else -1) (if fX7_isWagon_v N a = 0 then 0 else fX7_why_v N a.toNatClampNeg) (rfWh N a) (EE xIO xIO xIO) := by
  unfold RE rfWh
  rw [h.hd (show 2 < 12 by decide)]
  simp only [wa_ok hN]
  by_cases h1 : okI a (N 2) 3
  · rw [if_pos h1]
    simp only [not_not_intro h1, if_false]
    obtain ⟨ha, hl⟩ := h1.nn hN.w3 (by decide)
    rw [why_eq h hN hl]
    exact Or.inl ⟨trivial, xof_nn (why_nn _ _) (by decide), rfl⟩
  · rw [if_neg h1]
    simp only [h1, not_false_eq_true, if_true]
    exact Or.inr ⟨by decide, by decide, rfl⟩
