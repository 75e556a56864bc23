/-! MATH: a command of a script. -/
/-- a command: succeeds with both, or fails with both -/
def OB (u : Nat) (cv : Int32) (cP : Nat → Int32) (rv : Int32) (rV : Nat → Int32) : Prop := (cv = 0 ∧ rv = 0) ∨ (¬ cv = 0 ∧ ¬ rv = 0 ∧ Rl cP rV ∧ PI (u + 850) rV)
theorem ob_ac {u : Nat} {P N : Nat → Int32} {cv : Int32} {cP : Nat → Int32} {rv : Int32} {rN : Nat → Int32} {rf : Nat} {E : Nat → String} (h : AC u P N cv cP rv rN rf E) {x : Int32} {X : Nat → Int32} (h1 : rf = 0 → x = 1 ∧ X = rN) (h2 : 1 ≤ rf → x = 0) : OB u (if cv < 0 then 0 else 1) (if cv < 0 then cP else cP) x X := by
  rcases h with ⟨q, ⟨-, q2⟩, -, q3, q4⟩ | ⟨q, -, q2, -, -⟩
  · obtain ⟨e1, e2⟩ := h1 q
    rw [if_neg q2, if_neg q2, e1, e2]
    exact Or.inr ⟨by decide, by decide, q3, q4⟩
  · rw [if_pos (xof_neg q2), h2 q]
    exact Or.inl ⟨rfl, rfl⟩
theorem doh_pass (P : Nat → Int32) : ∀ k, fX7_doh_L P k = fX7_pass_L P k
  | 0 => rfl
  | k + 1 => by unfold fX7_doh_L fX7_pass_L fX7_doh_S fX7_pass_S; rw [doh_pass P k]
theorem dg_div {g d : Nat} (hg : g < 10000) (h0 : 0 < d) (hd : d < 2 ^ 31) : nI g / nI d = nI (g / d) := pk_div (by omega) h0 hd
theorem dg_rem {g d : Nat} (hg : g < 10000) (h0 : 0 < d) (hd : d < 2 ^ 31) : remI (nI g) (nI d) = nI (g % d) := pk_rem (by omega) h0 hd
/-- the parts of a command -/
theorem dg_all {g : Nat} (hg : g < 10000) : nI g / 1000 = nI (g / 1000) ∧ remI (nI g / 100) 10 = nI (g / 100 % 10) ∧ remI (nI g) 100 = nI (g % 100) ∧ remI (nI g) 10 = nI (g % 10) := by
  refine ⟨dg_div hg (d := 1000) (by omega) (by omega), ?_, dg_rem hg (d := 100) (by omega) (by omega), dg_rem hg (d := 10) (by omega) (by omega)⟩
  rw [show nI g / 100 = nI (g / 100) from dg_div hg (d := 100) (by omega) (by omega)]
  exact dg_rem (g := g / 100) (d := 10) (by omega) (by omega) (by omega)
section OBs
variable {u : Nat} {P N : Nat → Int32} {a t : Nat}
theorem ob_1 (h : Rl P N) (hN : PI u N) (hu : 1998 * (u + 850) < 2 ^ 31) : OB u (if nI a = 0 then if fX2_goHours_v P (nI t) < 0 then 0 else 1 else 0) (if nI a = 0 then if fX2_goHours_v P (nI t) < 0 then fX2_goHours_P P (nI t) else fX2_goHours_P P (nI t) else P) (if nI a = 0 then if fX7_in_v (nI t).toInt64 1 50 = 0 then 0 else 1 else 0) (if nI a = 0 then if fX7_in_v (nI t).toInt64 1 50 = 0 then N else fX7_doh_L N (nI t).toNatClampNeg else N) := by
  by_cases q : nI a = 0
  · simp only [if_pos q]
    refine ob_ac (ac_pass h hN hu (nI t)) (fun z => ?_) (fun z => ?_)
    · unfold rfPA at z
      by_cases y : fX7_in_v (nI t).toInt64 1 50 = 0
      · rw [if_pos y] at z; exact absurd z (by decide)
      · simp only [if_neg y, doh_pass]; exact ⟨trivial, trivial⟩
    · unfold rfPA at z
      by_cases y : fX7_in_v (nI t).toInt64 1 50 = 0
      · rw [if_pos y]
      · rw [if_neg y] at z; exact absurd z (by decide)
  · simp only [if_neg q]
    exact Or.inl ⟨rfl, rfl⟩
theorem ob_2 (h : Rl P N) (hN : PI u N) (ht : t < 10) : OB u (if fX2_moveWagon_v P (nI a) (nI t) < 0 then 0 else 1) (if fX2_moveWagon_v P (nI a) (nI t) < 0 then fX2_moveWagon_P P (nI a) (nI t) else fX2_moveWagon_P P (nI a) (nI t)) (if fX7_isWagon_v N (nI a) = 0 then 0 else if fX7_isSegment_v N (nI t) = 0 then 0 else if 10 ≤ nI t then 0 else if fX7_driveOn_v N (nI a).toNatClampNeg (nI t) = 0 then 0 else 1) (if fX7_isWagon_v N (nI a) = 0 then N else if fX7_isSegment_v N (nI t) = 0 then N else if 10 ≤ nI t then N else if fX7_driveOn_v N (nI a).toNatClampNeg (nI t) = 0 then fX7_driveOn_P N (nI a).toNatClampNeg (nI t) else fX7_driveOn_P N (nI a).toNatClampNeg (nI t)) := by
  have t10 : ¬ 10 ≤ nI t := nI_ge (a := t) (b := 10) ht (by decide)
  refine ob_ac (ac_drive h hN (nI a) (nI t)) (fun z => ?_) (fun z => ?_)
  · unfold rfDR at z
    by_cases y1 : fX7_isWagon_v N (nI a) = 0
    · rw [if_pos y1] at z; exact absurd z (by decide)
    · by_cases y2 : fX7_isSegment_v N (nI t) = 0
      · rw [if_neg y1, if_pos y2] at z; exact absurd z (by decide)
      · by_cases y3 : fX7_far_v N (nI a).toNatClampNeg (nI t) ≤ N (122 + 3 * (nI a).toNatClampNeg + 2)
        · have y4 : ¬ fX7_driveOn_v N (nI a).toNatClampNeg (nI t) = 0 := by unfold fX7_driveOn_v; rw [if_pos y3]; decide
          simp only [if_neg y1, if_neg y2, if_neg t10, if_neg y4, if_pos y3]
          exact ⟨trivial, trivial⟩
        · rw [if_neg y1, if_neg y2, if_neg y3] at z; exact absurd z (by decide)
  · unfold rfDR at z
    by_cases y1 : fX7_isWagon_v N (nI a) = 0
    · rw [if_pos y1]
    · by_cases y2 : fX7_isSegment_v N (nI t) = 0
      · rw [if_neg y1, if_pos y2]
      · by_cases y3 : fX7_far_v N (nI a).toNatClampNeg (nI t) ≤ N (122 + 3 * (nI a).toNatClampNeg + 2)
        · rw [if_neg y1, if_neg y2, if_pos y3] at z; exact absurd z (by decide)
        · have y4 : fX7_driveOn_v N (nI a).toNatClampNeg (nI t) = 0 := by unfold fX7_driveOn_v; rw [if_neg y3]
          rw [if_neg y1, if_neg y2, if_neg t10, if_pos y4]
theorem ob_2' (ht : 10 ≤ t) (ht2 : t < 100) : OB u 0 P (if fX7_isWagon_v N (nI a) = 0 then 0 else if fX7_isSegment_v N (nI t) = 0 then 0 else if 10 ≤ nI t then 0 else if fX7_driveOn_v N (nI a).toNatClampNeg (nI t) = 0 then 0 else 1) (if fX7_isWagon_v N (nI a) = 0 then N else if fX7_isSegment_v N (nI t) = 0 then N else if 10 ≤ nI t then N else if fX7_driveOn_v N (nI a).toNatClampNeg (nI t) = 0 then fX7_driveOn_P N (nI a).toNatClampNeg (nI t) else fX7_driveOn_P N (nI a).toNatClampNeg (nI t)) := by
  have t10 : 10 ≤ nI t := nI_le (a := 10) (b := t) ht (by omega)
  simp only [if_pos t10, ite_self]
  exact Or.inl ⟨rfl, rfl⟩
theorem ob_3 (h : Rl P N) (hN : PI u N) (hu : 9 * (u + 1) < 2 ^ 31) : OB u (if fX2_sprayFrom_v P (nI a) (nI t) < 0 then 0 else 1) (if fX2_sprayFrom_v P (nI a) (nI t) < 0 then fX2_sprayFrom_P P (nI a) (nI t) else fX2_sprayFrom_P P (nI a) (nI t)) (if fX7_isWagon_v N (nI a) = 0 then 0 else if fX7_in_v (nI t).toInt64 1 9 = 0 then 0 else if fX7_sprayOn_v N (nI a).toNatClampNeg (nI t) = 0 then 0 else 1) (if fX7_isWagon_v N (nI a) = 0 then N else if fX7_in_v (nI t).toInt64 1 9 = 0 then N else if fX7_sprayOn_v N (nI a).toNatClampNeg (nI t) = 0 then fX7_sprayOn_P N (nI a).toNatClampNeg (nI t) else fX7_sprayOn_P N (nI a).toNatClampNeg (nI t)) := by
  refine ob_ac (ac_spray h hN hu (nI a) (nI t)) (fun z => ?_) (fun z => ?_)
  · unfold rfSP at z
    by_cases y1 : fX7_isWagon_v N (nI a) = 0
    · rw [if_pos y1] at z; exact absurd z (by decide)
    · by_cases y2 : fX7_in_v (nI t).toInt64 1 9 = 0
      · rw [if_neg y1, if_pos y2] at z; exact absurd z (by decide)
      · by_cases y3 : N (122 + 3 * (nI a).toNatClampNeg + 2) = 0
        · rw [if_neg y1, if_neg y2, if_pos y3] at z; exact absurd z (by decide)
        · by_cases y5 : nI t ≤ N (122 + 3 * (nI a).toNatClampNeg + 1)
          · have y4 : ¬ fX7_sprayOn_v N (nI a).toNatClampNeg (nI t) = 0 := by unfold fX7_sprayOn_v; rw [if_neg y3, if_pos y5]; decide
            simp only [if_neg y1, if_neg y2, if_neg y4, if_neg y3, if_pos y5]
            exact ⟨trivial, trivial⟩
          · rw [if_neg y1, if_neg y2, if_neg y3, if_neg y5] at z; exact absurd z (by decide)
  · unfold rfSP at z
    by_cases y1 : fX7_isWagon_v N (nI a) = 0
    · rw [if_pos y1]
    · by_cases y2 : fX7_in_v (nI t).toInt64 1 9 = 0
      · rw [if_neg y1, if_pos y2]
      · rw [if_neg y1, if_neg y2]
        by_cases y3 : N (122 + 3 * (nI a).toNatClampNeg + 2) = 0
        · exact if_pos (by unfold fX7_sprayOn_v; rw [if_pos y3])
        · by_cases y5 : nI t ≤ N (122 + 3 * (nI a).toNatClampNeg + 1)
          · rw [if_neg y1, if_neg y2, if_neg y3, if_pos y5] at z; exact absurd z (by decide)
          · exact if_pos (by unfold fX7_sprayOn_v; rw [if_neg y3, if_neg y5])
theorem in_big {lo hi : Nat} (ht : hi < t) (ht2 : t < 100) (hl : lo ≤ t) : fX6_within_v (nI t) (nI lo) (nI hi) = 0 := by
  unfold fX6_within_v
  rw [if_neg (nI_nlt hl (by omega)), if_pos (nI_lt ht (by omega))]
theorem ob_3' (ht : 10 ≤ t) (ht2 : t < 100) : OB u 0 P (if fX7_isWagon_v N (nI a) = 0 then 0 else if fX7_in_v (nI t).toInt64 1 9 = 0 then 0 else if fX7_sprayOn_v N (nI a).toNatClampNeg (nI t) = 0 then 0 else 1) (if fX7_isWagon_v N (nI a) = 0 then N else if fX7_in_v (nI t).toInt64 1 9 = 0 then N else if fX7_sprayOn_v N (nI a).toNatClampNeg (nI t) = 0 then fX7_sprayOn_P N (nI a).toNatClampNeg (nI t) else fX7_sprayOn_P N (nI a).toNatClampNeg (nI t)) := by
  have y : fX7_in_v (nI t).toInt64 1 9 = 0 := by rw [w_19]; exact in_big (lo := 1) (hi := 9) (by omega) ht2 (by omega)
  simp only [if_pos y, ite_self]
  exact Or.inl ⟨rfl, rfl⟩
theorem ob_4 (h : Rl P N) (hN : PI u N) : OB u (if nI t = 0 then if fX2_fillTank_v P (nI a) < 0 then 0 else 1 else 0) (if nI t = 0 then if fX2_fillTank_v P (nI a) < 0 then fX2_fillTank_P P (nI a) else fX2_fillTank_P P (nI a) else P) (if fX7_isWagon_v N (nI a) = 0 then 0 else if nI t = 0 then if fX7_why_v N (nI a).toNatClampNeg = 0 then if fX7_fillOn_v N (nI a).toNatClampNeg ≤ 0 then 0 else 1 else 0 else 0) (if fX7_isWagon_v N (nI a) = 0 then N else if nI t = 0 then if fX7_why_v N (nI a).toNatClampNeg = 0 then if fX7_fillOn_v N (nI a).toNatClampNeg ≤ 0 then fX7_fillOn_P N (nI a).toNatClampNeg else fX7_fillOn_P N (nI a).toNatClampNeg else N else N) := by
  by_cases q : nI t = 0
  · simp only [if_pos q]
    refine ob_ac (ac_fill h hN (nI a)) (fun z => ?_) (fun z => ?_)
    · unfold rfFI at z
      by_cases y1 : fX7_isWagon_v N (nI a) = 0
      · rw [if_pos y1] at z; exact absurd z (by decide)
      · by_cases y2 : fX7_why_v N (nI a).toNatClampNeg = 0
        · have y1' := y1
          rw [wa_ok hN] at y1'
          have hi := ((Classical.not_not.mp y1').nn hN.w3 (by decide)).2
          obtain ⟨-, -, y3, y4⟩ := fiS_Rl h hN hi y2
          have y5 : ¬ fX7_fillOn_v N (nI a).toNatClampNeg ≤ 0 := fun e => y4 ((not_le0 y3 (by decide)).1.mp e)
          simp only [if_neg y1, if_pos y2, if_neg y5]
          exact ⟨trivial, trivial⟩
        · rw [if_neg y1, if_neg y2] at z; exact absurd z (by decide)
    · unfold rfFI at z
      by_cases y1 : fX7_isWagon_v N (nI a) = 0
      · rw [if_pos y1]
      · by_cases y2 : fX7_why_v N (nI a).toNatClampNeg = 0
        · rw [if_neg y1, if_pos y2] at z; exact absurd z (by decide)
        · rw [if_neg y1, if_neg y2]
  · simp only [if_neg q, ite_self]
    exact Or.inl ⟨rfl, rfl⟩
theorem lim_in {u : Nat} {N : Nat → Int32} (hN : PI u N) {s : Nat} (hs : s < 10) (d : Int32) : (fX7_in_v d.toInt64 1 (5 - N (12 + 7 * s + 2)).toInt64 = 0) ↔ (fX6_within_v d 1 5 = 0 ∨ ¬ d ≤ 5 - N (12 + 7 * s + 2)) := by
  rw [show fX7_in_v d.toInt64 1 (5 - N (12 + 7 * s + 2)).toInt64 = fX6_within_v d 1 (5 - N (12 + 7 * s + 2)) from wi_eq d 1 _]
  have h5 := nn_5m (hN.ns hs 2 4 (by omega) rfl rfl)
  generalize 5 - N (12 + 7 * s + 2) = m at h5 ⊢
  have m5 : m ≤ 5 := by
    have := h5.2
    rw [h5.1]
    exact nI_le (show _ ≤ 5 from this) (by decide)
  unfold fX6_within_v
  by_cases q1 : d < 1
  · rw [if_pos q1, if_pos q1]; exact ⟨fun _ => Or.inl rfl, fun _ => rfl⟩
  · rw [if_neg q1, if_neg q1]
    by_cases q2 : m < d
    · rw [if_pos q2]; exact ⟨fun _ => Or.inr (i32_lt_nle q2), fun _ => rfl⟩
    · rw [if_neg q2, if_neg (fun z => q2 (Int32.lt_of_le_of_lt m5 z))]
      exact ⟨fun z => absurd z (by decide), fun z => z.elim (fun y => absurd y (by decide)) (fun y => absurd (i32_nlt q2) y)⟩
theorem ob_5 (h : Rl P N) (hN : PI u N) : OB u (if fX2_changeLimit_v P (nI a) (nI t) < 0 then 0 else 1) (if fX2_changeLimit_v P (nI a) (nI t) < 0 then fX2_changeLimit_P P (nI a) (nI t) else fX2_changeLimit_P P (nI a) (nI t)) (if fX7_isSegment_v N (nI a) = 0 then 0 else if fX7_in_v (nI t).toInt64 1 (5 - N (12 + 7 * (nI a).toNatClampNeg + 2)).toInt64 = 0 then 0 else 1) (if fX7_isSegment_v N (nI a) = 0 then N else if fX7_in_v (nI t).toInt64 1 (5 - N (12 + 7 * (nI a).toNatClampNeg + 2)).toInt64 = 0 then N else upd N (12 + 7 * (nI a).toNatClampNeg + 1) (nI t)) := by
  refine ob_ac (ac_setLimit h hN (nI a) (nI t)) (fun z => ?_) (fun z => ?_)
  all_goals
    unfold rfSL at z
    by_cases y1 : fX7_isSegment_v N (nI a) = 0
    · first
        | (rw [if_pos y1] at z; exact absurd z (by decide))
        | rw [if_pos y1]
    · have y1' := y1
      rw [sg_ok hN] at y1'
      have hs := ((Classical.not_not.mp y1').nn hN.s10 (by decide)).2
      have s10 := hN.s10.2
      have li := lim_in hN (s := (nI a).toNatClampNeg) (by omega) (nI t)
      rw [← w_15] at li
      by_cases y2 : fX7_in_v (nI t).toInt64 1 5 = 0
      · first
          | (rw [if_neg y1, if_pos y2] at z; exact absurd z (by decide))
          | rw [if_neg y1, if_pos (li.mpr (Or.inl y2))]
      · by_cases y3 : nI t ≤ 5 - N (12 + 7 * (nI a).toNatClampNeg + 2)
        · first
            | (rw [if_neg y1, if_neg y2, if_pos y3] at z; exact absurd z (by decide))
            | (have y4 : ¬ fX7_in_v (nI t).toInt64 1 (5 - N (12 + 7 * (nI a).toNatClampNeg + 2)).toInt64 = 0 := fun e => (li.mp e).elim y2 (fun f => f y3)
               simp only [if_neg y1, if_neg y2, if_pos y3, if_neg y4]
               exact ⟨trivial, trivial⟩)
        · first
            | (rw [if_neg y1, if_neg y2, if_neg y3] at z; exact absurd z (by decide))
            | rw [if_neg y1, if_pos (li.mpr (Or.inr y3))]
theorem ob_5' (hN : PI u N) (ht : 10 ≤ t) (ht2 : t < 100) : OB u 0 P (if fX7_isSegment_v N (nI a) = 0 then 0 else if fX7_in_v (nI t).toInt64 1 (5 - N (12 + 7 * (nI a).toNatClampNeg + 2)).toInt64 = 0 then 0 else 1) (if fX7_isSegment_v N (nI a) = 0 then N else if fX7_in_v (nI t).toInt64 1 (5 - N (12 + 7 * (nI a).toNatClampNeg + 2)).toInt64 = 0 then N else upd N (12 + 7 * (nI a).toNatClampNeg + 1) (nI t)) := by
  by_cases y1 : fX7_isSegment_v N (nI a) = 0
  · rw [if_pos y1]; exact Or.inl ⟨rfl, rfl⟩
  · have y1' := y1
    rw [sg_ok hN] at y1'
    have hs := ((Classical.not_not.mp y1').nn hN.s10 (by decide)).2
    have s10 := hN.s10.2
    have li := (lim_in hN (s := (nI a).toNatClampNeg) (by omega) (nI t)).mpr (Or.inl (in_big (lo := 1) (hi := 5) (by omega) ht2 (by omega)))
    rw [if_neg y1, if_pos li]; exact Or.inl ⟨rfl, rfl⟩
theorem two_in (ht2 : t < 100) : (fX7_in_v (nI t).toInt64 0 2 = 0) ↔ ¬ nI t ≤ 2 := by
  rw [w_02]
  by_cases q : t ≤ 2
  · have e : nI t ≤ 2 := nI_le (b := 2) q (by decide)
    refine ⟨fun z => ?_, fun z => absurd e z⟩
    unfold fX6_within_v at z
    rw [if_neg (show ¬ nI t < 0 from nI_pos (by omega)), if_neg (i32_le_nlt e)] at z
    exact absurd z (by decide)
  · exact ⟨fun _ => nI_ge (a := 2) (by omega) (by omega), fun _ => in_big (lo := 0) (hi := 2) (by omega) ht2 (by omega)⟩
theorem ob_6 (h : Rl P N) (hN : PI u N) (ht2 : t < 100) : OB u (if fX2_changeSurface_v P (nI a) (nI t) < 0 then 0 else 1) (if fX2_changeSurface_v P (nI a) (nI t) < 0 then fX2_changeSurface_P P (nI a) (nI t) else fX2_changeSurface_P P (nI a) (nI t)) (if fX7_isSegment_v N (nI a) = 0 then 0 else if nI t ≤ 2 then 1 else 0) (if fX7_isSegment_v N (nI a) = 0 then N else if nI t ≤ 2 then upd N (12 + 7 * (nI a).toNatClampNeg) (nI t) else N) := by
  have li := two_in ht2
  refine ob_ac (ac_setSurface h hN (nI a) (nI t)) (fun z => ?_) (fun z => ?_)
  · unfold rfSS at z
    by_cases y1 : fX7_isSegment_v N (nI a) = 0
    · rw [if_pos y1] at z; exact absurd z (by decide)
    · by_cases y2 : nI t ≤ 2
      · have y3 : ¬ fX7_in_v (nI t).toInt64 0 2 = 0 := fun e => li.mp e y2
        simp only [if_neg y1, if_pos y2, if_neg y3]
        exact ⟨trivial, trivial⟩
      · rw [if_neg y1, if_pos (li.mpr y2)] at z; exact absurd z (by decide)
  · unfold rfSS at z
    by_cases y1 : fX7_isSegment_v N (nI a) = 0
    · rw [if_pos y1]
    · by_cases y2 : nI t ≤ 2
      · rw [if_neg y1, if_neg (fun e => li.mp e y2)] at z; exact absurd z (by decide)
      · rw [if_neg y1, if_neg y2]
theorem ob_6' (ht : 10 ≤ t) (ht2 : t < 100) : OB u 0 P (if fX7_isSegment_v N (nI a) = 0 then 0 else if nI t ≤ 2 then 1 else 0) (if fX7_isSegment_v N (nI a) = 0 then N else if nI t ≤ 2 then upd N (12 + 7 * (nI a).toNatClampNeg) (nI t) else N) := by
  have y2 : ¬ nI t ≤ 2 := nI_ge (a := 2) (by omega) (by omega)
  simp only [if_neg y2, ite_self]
  exact Or.inl ⟨rfl, rfl⟩
theorem ob_7 (h : Rl P N) (hN : PI u N) : OB u (if nI a = 0 then if fX2_changeNumber_v P 5 (nI t) < 0 then 0 else 1 else 0) (if nI a = 0 then if fX2_changeNumber_v P 5 (nI t) < 0 then fX2_changeNumber_P P 5 (nI t) else fX2_changeNumber_P P 5 (nI t) else P) (if nI a = 0 then if fX7_isSetting_v 5 (nI t) = 0 then 0 else 1 else 0) (if nI a = 0 then if fX7_isSetting_v 5 (nI t) = 0 then N else upd N 5 (nI t) else N) := by
  by_cases q : nI a = 0
  · simp only [if_pos q]
    refine ob_ac (ac_set h hN 5 (nI t)) (fun z => ?_) (fun z => ?_)
    · unfold rfST at z
      by_cases y : fX7_isSetting_v 5 (nI t) = 0
      · rw [if_pos y] at z; exact absurd z (by decide)
      · simp only [if_neg y]; exact ⟨trivial, rfl⟩
    · unfold rfST at z
      by_cases y : fX7_isSetting_v 5 (nI t) = 0
      · rw [if_pos y]
      · rw [if_neg y] at z; exact absurd z (by decide)
  · simp only [if_neg q]
    exact Or.inl ⟨rfl, rfl⟩
theorem ob_8 (h : Rl P N) (hN : PI u N) : OB u (fX2_complainsAtMost_v P (nI a) (nI t)) P (if fX7_isHouse_v N (nI a) = 0 then 0 else if nI t < N (82 + 5 * (nI a).toNatClampNeg + 3) then 0 else 1) (if fX7_isHouse_v N (nI a) = 0 then N else if nI t < N (82 + 5 * (nI a).toNatClampNeg + 3) then N else N) := by
  unfold fX2_complainsAtMost_v
  rw [h.hd (show 1 < 12 by decide)]
  by_cases q : okI (nI a) (N 1) 8
  · have q2 : ¬ fX7_isHouse_v N (nI a) = 0 := by rw [ho_ok hN]; exact not_not_intro q
    have hi := (q.nn hN.h8 (by decide)).2
    rw [if_pos q, if_neg q2, if_neg q2, h.ho hi (show 3 < 5 by decide) rfl]
    by_cases z : nI t < N (82 + 5 * (nI a).toNatClampNeg + 3)
    · rw [if_pos z]; exact Or.inl ⟨rfl, rfl⟩
    · rw [if_neg z, if_neg z]; exact Or.inr ⟨by decide, by decide, h, hN.up850⟩
  · rw [if_neg q, if_pos (by rw [ho_ok hN]; exact q)]
    exact Or.inl ⟨rfl, rfl⟩
theorem ob_9 (h : Rl P N) (hN : PI u N) : OB u (if okI (nI a) (P 0) 10 then if 10 * nI t < fX2_dustAt_v P (nI a) then 0 else 1 else 0) P (if fX7_isSegment_v N (nI a) = 0 then 0 else if 10 * nI t < fX7_dustOf_v N (nI a) then 0 else 1) (if fX7_isSegment_v N (nI a) = 0 then N else if 10 * nI t < fX7_dustOf_v N (nI a) then N else N) := by
  rw [h.hd (show 0 < 12 by decide), dustAt_Rl h hN.s10]
  by_cases q : okI (nI a) (N 0) 10
  · have q2 : ¬ fX7_isSegment_v N (nI a) = 0 := by rw [sg_ok hN]; exact not_not_intro q
    rw [if_pos q, if_neg q2, if_neg q2]
    by_cases z : 10 * nI t < fX7_dustOf_v N (nI a)
    · rw [if_pos z]; exact Or.inl ⟨rfl, rfl⟩
    · rw [if_neg z, if_neg z]; exact Or.inr ⟨by decide, by decide, h, hN.up850⟩
  · rw [if_neg q, if_pos (by rw [sg_ok hN]; exact q)]
    exact Or.inl ⟨rfl, rfl⟩
end OBs
