/-! MATH: the actions, continued. -/
theorem PI.up850 {u : Nat} {N : Nat → Int32} (h : PI u N) : PI (u + 850) N := h.le (by omega)
def rfAW (N : Nat → Int32) (a : Int32) : Nat := if fX7_isSegment_v N a = 0 then 1 else if N 2 = 3 then 2 else 0
theorem ac_addWagon {u : Nat} {P N : Nat → Int32} (h : Rl P N) (hN : PI u N) (a : Int32) : AC u P N (fX2_bringWagon_v P a) (fX2_bringWagon_P P a) (if fX7_isSegment_v N a = 0 then 0 else if N 2 = 3 then 0 else fX7_wagonOn_P N a 2 - 1) (if fX7_isSegment_v N a = 0 then N else if N 2 = 3 then N else fX7_wagonOn_P N a) (rfAW N a) (EE xIO xIS xIS) := by
  unfold AC rfAW fX2_bringWagon_v fX2_bringWagon_P
  rw [h.hd (show 0 < 12 by decide), h.hd (show 2 < 12 by decide)]
  simp only [sg_ok hN]
  by_cases h1 : okI a (N 0) 10
  · rw [if_pos h1, if_pos h1]
    simp only [not_not_intro h1, if_false]
    rw [if_neg (hN.w3.not_neg (by decide)), if_neg (hN.w3.not_neg (by decide))]
    rcases full_iff hN.w3 (by decide) with ⟨q, q2⟩ | ⟨q, q2, q3⟩
    · rw [if_neg (show ¬ N 2 < 3 from q2), if_neg (show ¬ N 2 < 3 from q2)]
      simp only [show N 2 = 3 from q, if_true]
      exact Or.inr ⟨by decide, by decide, rfl, trivial, trivial⟩
    · have q' : ¬ N 2 = 3 := q
      rw [if_pos (show N 2 < 3 from q2), if_pos (show N 2 < 3 from q2)]
      simp only [q', if_false]
      obtain ⟨ha, hl⟩ := h1.nn hN.s10 (by decide)
      have s10 := hN.s10.2
      obtain ⟨r1, r2, r3⟩ := wgS_Rl h hN rfl q3 (nn.of ha.1 (show _ ≤ 9 by omega) (by decide)) hl
      have ec : upd (fX5_beNew_P P (N 2).toNatClampNeg a) 2 (fX5_beNew_P P (N 2).toNatClampNeg a 2 + 1) = wgS P (N 2).toNatClampNeg a := by
        unfold fX5_beNew_P wgS
        simp (disch := omega) only [pk_un]
      have ev : wgS P (N 2).toNatClampNeg a 2 - 1 = nI (N 2).toNatClampNeg := by
        rw [r1.hd (show 2 < 12 by decide), r3, nI_pred]
      rw [ec, wgS_ref N a rfl]
      refine Or.inl ⟨trivial, ?_, ?_, r1, r2.up850⟩
      · rw [ev]; exact xof_n2 (b := 3) (nn.of rfl (by omega) (by decide)) (by decide)
      · rw [ev, r3, nI_pred]
  · rw [if_neg h1, if_neg h1]
    simp only [h1, not_false_eq_true, if_true]
    exact Or.inr ⟨by decide, by decide, rfl, trivial, trivial⟩
def rfSS (N : Nat → Int32) (a d : Int32) : Nat := if fX7_isSegment_v N a = 0 then 1 else if fX7_in_v d.toInt64 0 2 = 0 then 2 else 0
theorem ac_setSurface {u : Nat} {P N : Nat → Int32} (h : Rl P N) (hN : PI u N) (a d : Int32) : AC u P N (fX2_changeSurface_v P a d) (fX2_changeSurface_P P a d) (if fX7_isSegment_v N a = 0 then 0 else if fX7_in_v d.toInt64 0 2 = 0 then 0 else N (12 + 7 * a.toNatClampNeg)) (if fX7_isSegment_v N a = 0 then N else if fX7_in_v d.toInt64 0 2 = 0 then N else upd N (12 + 7 * a.toNatClampNeg) d) (rfSS N a d) (EE xIO xIA xIS) := by
  unfold AC rfSS fX2_changeSurface_v fX2_changeSurface_P
  rw [w_02, h.hd (show 0 < 12 by decide)]
  simp only [sg_ok hN]
  by_cases h1 : okI a (N 0) 10
  · rw [if_pos h1, if_pos h1]
    simp only [not_not_intro h1, if_false]
    by_cases h2 : fX6_within_v d 0 2 = 0
    · simp only [h2, if_true]
      exact Or.inr ⟨by decide, by decide, rfl, trivial, trivial⟩
    · simp only [h2, if_false]
      obtain ⟨ha, hl⟩ := h1.nn hN.s10 (by decide)
      have s10 := hN.s10.2
      have hd := (wi_nn (lo := 0) (hi := 2) h2 (by decide) (by decide)).1
      rw [h.sg hl (show 0 < 7 by decide) (show 12 + 7 * a.toNatClampNeg = 12 + 7 * a.toNatClampNeg + 0 from rfl)]
      exact Or.inl ⟨trivial, xof_n2 (hN.ns (i := a.toNatClampNeg) (by omega) 0 2 (by omega) rfl rfl) (by decide), rfl, h.up (by omega) rfl, (hN.us (i := a.toNatClampNeg) (by omega) 0 2 (by omega) rfl hd).up850⟩
  · rw [if_neg h1, if_neg h1]
    simp only [h1, not_false_eq_true, if_true]
    exact Or.inr ⟨by decide, by decide, rfl, trivial, trivial⟩
def rfSL (N : Nat → Int32) (a d : Int32) : Nat := if fX7_isSegment_v N a = 0 then 1 else if fX7_in_v d.toInt64 1 5 = 0 then 2 else if d ≤ 5 - N (12 + 7 * a.toNatClampNeg + 2) then 0 else 3
theorem ac_setLimit {u : Nat} {P N : Nat → Int32} (h : Rl P N) (hN : PI u N) (a d : Int32) : AC u P N (fX2_changeLimit_v P a d) (fX2_changeLimit_P P a d) (if fX7_isSegment_v N a = 0 then 0 else if fX7_in_v d.toInt64 1 5 = 0 then 0 else if d ≤ 5 - N (12 + 7 * a.toNatClampNeg + 2) then N (12 + 7 * a.toNatClampNeg + 1) else 0) (if fX7_isSegment_v N a = 0 then N else if fX7_in_v d.toInt64 1 5 = 0 then N else if d ≤ 5 - N (12 + 7 * a.toNatClampNeg + 2) then upd N (12 + 7 * a.toNatClampNeg + 1) d else N) (rfSL N a d) (EE xIO xIA xIS) := by
  unfold AC rfSL fX2_changeLimit_v fX2_changeLimit_P fX3_greatestLimit_v
  rw [w_15, h.hd (show 0 < 12 by decide)]
  simp only [sg_ok hN]
  by_cases h1 : okI a (N 0) 10
  · rw [if_pos h1, if_pos h1]
    simp only [not_not_intro h1, if_false]
    by_cases h2 : fX6_within_v d 1 5 = 0
    · simp only [h2, if_true]
      exact Or.inr ⟨by decide, by decide, rfl, trivial, trivial⟩
    · simp only [h2, if_false]
      obtain ⟨ha, hl⟩ := h1.nn hN.s10 (by decide)
      have s10 := hN.s10.2
      have hd := (wi_nn (lo := 1) (hi := 5) h2 (by decide) (by decide)).1
      rw [h.sg hl (show 2 < 7 by decide) rfl, h.sg hl (show 1 < 7 by decide) rfl]
      by_cases h3 : d ≤ 5 - N (12 + 7 * a.toNatClampNeg + 2)
      · simp only [h3, if_true]
        exact Or.inl ⟨trivial, xof_n2 (hN.ns (i := a.toNatClampNeg) (by omega) 1 5 (by omega) rfl rfl) (by decide), trivial, h.up (by omega) rfl, (hN.us (i := a.toNatClampNeg) (by omega) 1 5 (by omega) rfl hd).up850⟩
      · simp only [h3, if_false]
        exact Or.inr ⟨by decide, by decide, rfl, trivial, trivial⟩
  · rw [if_neg h1, if_neg h1]
    simp only [h1, not_false_eq_true, if_true]
    exact Or.inr ⟨by decide, by decide, rfl, trivial, trivial⟩
def rfST (a d : Int32) : Nat := if fX7_isSetting_v a d = 0 then 1 else 0
theorem ac_set {u : Nat} {P N : Nat → Int32} (h : Rl P N) (hN : PI u N) (a d : Int32) : AC u P N (fX2_changeNumber_v P a d) (fX2_changeNumber_P P a d) (if fX7_isSetting_v a d = 0 then 0 else N a.toNatClampNeg) (if fX7_isSetting_v a d = 0 then N else upd N a.toNatClampNeg d) (rfST a d) (EE xIA xIA xIA) := by
  have key : ∀ (j b lo hi : Nat), 5 ≤ j → j < 9 → a = nI j → hi < 2 ^ 31 → lo ≤ hi → u0 u j = hi → b = hi → fX7_isSetting_v a d = fX6_within_v d (nI lo) (nI hi) → (fX2_changeNumber_v P a d = if fX6_within_v d (nI lo) (nI hi) = 0 then -2 else P j) → (fX2_changeNumber_P P a d = if fX6_within_v d (nI lo) (nI hi) = 0 then P else upd P j d) → AC u P N (fX2_changeNumber_v P a d) (fX2_changeNumber_P P a d) (if fX7_isSetting_v a d = 0 then 0 else N a.toNatClampNeg) (if fX7_isSetting_v a d = 0 then N else upd N a.toNatClampNeg d) (rfST a d) (EE xIA xIA xIA) := by
    intro j b lo hi h5 h9 ea hh hl eu eb e1 e2 e3
    unfold AC rfST
    rw [e1, e2, e3]
    by_cases q : fX6_within_v d (nI lo) (nI hi) = 0
    · simp only [q, if_true]
      exact Or.inr ⟨by decide, by decide, rfl, trivial, trivial⟩
    · simp only [q, if_false]
      have hd := (wi_nn q hh hl).1
      rw [show a.toNatClampNeg = j by rw [ea, nI_clamp (by omega)], h.hd (show j < 12 by omega)]
      exact Or.inl ⟨trivial, xof_n2 (hN.n0 j hi (by omega) eu) hh, rfl, h.up (by omega) rfl, (hN.u0 j hi (by omega) (by omega) eu hd).up850⟩
  by_cases h5 : a = 5
  · subst h5
    refine key 5 20 0 20 (by decide) (by decide) rfl (by decide) (by decide) rfl rfl ?_ ?_ ?_
    · unfold fX7_isSetting_v; rw [if_pos rfl, w_020]; rfl
    · unfold fX2_changeNumber_v fX2_number_v
      simp (decide := true) only [if_true, if_false]
      rfl
    · unfold fX2_changeNumber_P
      simp (decide := true) only [if_true, if_false]
      rfl
  by_cases h6 : a = 6
  · subst h6
    refine key 6 9 0 9 (by decide) (by decide) rfl (by decide) (by decide) rfl rfl ?_ ?_ ?_
    · unfold fX7_isSetting_v; rw [if_neg h5, if_pos rfl, w_09]; rfl
    · unfold fX2_changeNumber_v fX2_number_v
      simp (decide := true) only [if_true, if_false]
      rfl
    · unfold fX2_changeNumber_P
      simp (decide := true) only [if_true, if_false]
      rfl
  by_cases h7 : a = 7
  · subst h7
    refine key 7 200 1 200 (by decide) (by decide) rfl (by decide) (by decide) rfl rfl ?_ ?_ ?_
    · unfold fX7_isSetting_v; rw [if_neg h5, if_neg h6, if_pos rfl, w_1200]; rfl
    · unfold fX2_changeNumber_v fX2_number_v
      simp (decide := true) only [if_true, if_false]
      rfl
    · unfold fX2_changeNumber_P
      simp (decide := true) only [if_true, if_false]
      rfl
  by_cases h8 : a = 8
  · subst h8
    refine key 8 99 0 99 (by decide) (by decide) rfl (by decide) (by decide) rfl rfl ?_ ?_ ?_
    · unfold fX7_isSetting_v; rw [if_neg h5, if_neg h6, if_neg h7, if_pos rfl, w_099]; rfl
    · unfold fX2_changeNumber_v fX2_number_v
      simp (decide := true) only [if_true, if_false]
      rfl
    · unfold fX2_changeNumber_P
      simp (decide := true) only [if_true, if_false]
      rfl
  · unfold AC rfST fX7_isSetting_v fX2_changeNumber_v fX2_changeNumber_P
    simp only [h5, h6, h7, h8, if_false, if_true]
    exact Or.inr ⟨by decide, by decide, rfl, trivial, trivial⟩
/-- the way of a wagon -/
theorem way_far {P N : Nat → Int32} {i : Nat} {a : Int32} (h : P (122 + 3 * i) = N (122 + 3 * i)) (hn : nn 9 (N (122 + 3 * i))) (ha : nn 9 a) : fX5_wayTo_v P i a = fX7_far_v N i a ∧ nn 9 (fX7_far_v N i a) := by
  obtain ⟨m, hm, e, -⟩ := hn.ex
  obtain ⟨n, hn', e2, -⟩ := ha.ex
  unfold fX5_wayTo_v fX7_far_v
  rw [h, e, e2]
  have z : ∀ x y : Int32, 0 - (x - y) = y - x := fun x y => by rw [Int32.zero_sub, Int32.neg_sub]
  have z2 : ∀ x y : Int32, -(x - y) = y - x := fun x y => Int32.neg_sub
  rcases Nat.lt_trichotomy n m with q | q | q
  · rw [if_neg (i32_lt_nle (pk_sneg (by omega) q)), if_pos (by rw [pk_sub (by omega)]; exact nI_pos' (by omega)), z, pk_sub (by omega)]
    exact ⟨rfl, nn.of rfl (by omega) (by decide)⟩
  · subst q
    rw [pk_sub (Nat.le_refl _), Nat.sub_self, if_pos (by decide), if_pos (by decide)]
    exact ⟨rfl, nn.of rfl (by omega) (by decide)⟩
  · rw [if_pos (by rw [pk_sub (by omega)]; exact nI_pos' (by omega)), if_neg (i32_lt_nle (pk_sneg (by omega) q)), z2, pk_sub (by omega)]
    exact ⟨rfl, nn.of rfl (by omega) (by decide)⟩
theorem driveOn_Rl {u : Nat} {P N : Nat → Int32} (h : Rl P N) (hN : PI u N) {i : Nat} (hi : i < (N 2).toNatClampNeg) {a : Int32} (ha : nn 9 a) (hl : a.toNatClampNeg < (N 0).toNatClampNeg) (hle : fX7_far_v N i a ≤ N (122 + 3 * i + 2)) : Rl (upd (upd P (122 + 3 * i + 2) (P (122 + 3 * i + 2) - fX7_far_v N i a)) (122 + 3 * i) a) (upd (upd N (122 + 3 * i + 2) (N (122 + 3 * i + 2) - fX7_far_v N i a)) (122 + 3 * i) a) ∧ PI u (upd (upd N (122 + 3 * i + 2) (N (122 + 3 * i + 2) - fX7_far_v N i a)) (122 + 3 * i) a) ∧ nn 4 (N (122 + 3 * i + 2) - fX7_far_v N i a) := by
  have h3 := hN.w3.2
  have hm := hN.nw (i := i) (by omega) 2 4 (by omega) rfl rfl
  have hf := (way_far (P := N) (i := i) rfl (hN.nw (i := i) (by omega) 0 9 (by omega) rfl rfl) ha).2
  have hle2 : (fX7_far_v N i a).toNatClampNeg ≤ (N (122 + 3 * i + 2)).toNatClampNeg := by
    have h1 := hm.2
    have h2 := hf.2
    rw [hm.1, hf.1, nI_leI (by omega) (by omega)] at hle
    exact hle
  have h4 : nn 4 (N (122 + 3 * i + 2) - fX7_far_v N i a) := hm.sub (b := (fX7_far_v N i a).toNatClampNeg) ⟨hf.1, Nat.le_refl _⟩ (Nat.le_trans hle2 hm.2) hle2 (by decide)
  refine ⟨(h.up (by omega) (by rw [h.wa hi (show 2 < 3 by decide) rfl])).up (by omega) rfl, ?_, h4⟩
  exact (hN.uw (i := i) (by omega) 2 4 (by omega) (by omega) rfl h4).wag (by omega) ha (by rw [pk_un (by omega)]; exact hl)
def rfDR (N : Nat → Int32) (a d : Int32) : Nat := if fX7_isWagon_v N a = 0 then 1 else if fX7_isSegment_v N d = 0 then 1 else if fX7_far_v N a.toNatClampNeg d ≤ N (122 + 3 * a.toNatClampNeg + 2) then 0 else 2
theorem ac_drive {u : Nat} {P N : Nat → Int32} (h : Rl P N) (hN : PI u N) (a d : Int32) : AC u P N (fX2_moveWagon_v P a d) (fX2_moveWagon_P P a d) (if fX7_isWagon_v N a = 0 then 0 else if fX7_isSegment_v N d = 0 then 0 else if fX7_far_v N a.toNatClampNeg d ≤ N (122 + 3 * a.toNatClampNeg + 2) then fX7_driveOn_P N a.toNatClampNeg d (122 + 3 * a.toNatClampNeg + 2) else 0) (if fX7_isWagon_v N a = 0 then N else if fX7_isSegment_v N d = 0 then N else if fX7_far_v N a.toNatClampNeg d ≤ N (122 + 3 * a.toNatClampNeg + 2) then fX7_driveOn_P N a.toNatClampNeg d else N) (rfDR N a d) (EE xIO xIS xIS) := by
  unfold AC rfDR fX2_moveWagon_v fX2_moveWagon_P
  rw [h.hd (show 0 < 12 by decide), h.hd (show 2 < 12 by decide)]
  simp only [sg_ok hN, wa_ok hN]
  by_cases h1 : okI a (N 2) 3
  · rw [if_pos h1, if_pos h1]
    simp only [not_not_intro h1, if_false]
    by_cases h2 : okI d (N 0) 10
    · rw [if_pos h2, if_pos h2]
      simp only [not_not_intro h2, if_false]
      obtain ⟨ha, hi⟩ := h1.nn hN.w3 (by decide)
      obtain ⟨hd, hl⟩ := h2.nn hN.s10 (by decide)
      have s10 := hN.s10.2
      have w3 := hN.w3.2
      have hd9 : nn 9 d := nn.of hd.1 (show _ ≤ 9 by omega) (by decide)
      obtain ⟨ew, -⟩ := way_far (P := P) (N := N) (i := a.toNatClampNeg) (h.wa hi (show 0 < 3 by decide) rfl) (hN.nw (i := a.toNatClampNeg) (by omega) 0 9 (by omega) rfl rfl) hd9
      rw [ew, h.wa hi (show 2 < 3 by decide) rfl]
      unfold fX7_driveOn_P
      by_cases h3 : fX7_far_v N a.toNatClampNeg d ≤ N (122 + 3 * a.toNatClampNeg + 2)
      · simp only [h3, if_true]
        obtain ⟨r1, r2, r3⟩ := driveOn_Rl h hN hi hd9 hl h3
        rw [h.wa hi (show 2 < 3 by decide) rfl] at r1
        simp (disch := omega) only [pk_us, pk_un]
        exact Or.inl ⟨trivial, xof_n2 r3 (by decide), trivial, r1, r2.up850⟩
      · simp only [h3, if_false]
        exact Or.inr ⟨by decide, by decide, rfl, trivial, trivial⟩
    · rw [if_neg h2, if_neg h2]
      simp only [h2, not_false_eq_true, if_true]
      exact Or.inr ⟨by decide, by decide, rfl, trivial, trivial⟩
  · rw [if_neg h1, if_neg h1]
    simp only [h1, not_false_eq_true, if_true]
    exact Or.inr ⟨by decide, by decide, rfl, trivial, trivial⟩
