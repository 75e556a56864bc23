/-! MATH: spray, fill, pass. -/
theorem not_le0 {b : Nat} {x : Int32} (h : nn b x) (hb : b < 2 ^ 31) : (x ≤ 0 ↔ x = 0) ∧ (0 < x ↔ ¬ x = 0) := by
  have h0 := h.not_neg hb
  constructor
  · exact ⟨fun q => Int32.le_antisymm q (i32_nlt h0), fun q => by rw [q]; exact Int32.le_refl _⟩
  · refine ⟨fun q e => ?_, fun q => i32_nle (fun z => q (Int32.le_antisymm z (i32_nlt h0)))⟩
    rw [e] at q
    exact absurd q (by decide)
theorem nn.pos {b : Nat} {x : Int32} (h : nn b x) (h0 : ¬ x = 0) : 1 ≤ x.toNatClampNeg := by
  rcases Nat.eq_zero_or_pos x.toNatClampNeg with q | q
  · exact absurd (by rw [h.1, q]; rfl) h0
  · exact q
def spS (P : Nat → Int32) (i s : Nat) (d : Int32) : Nat → Int32 := upd (upd (upd (upd P (122 + 3 * i + 2) (P (122 + 3 * i + 2) - 1)) (122 + 3 * i + 1) (P (122 + 3 * i + 1) - d)) 11 (P 11 + d)) (12 + 7 * s + 4) (if P (12 + 7 * s + 4) + d < 9 then P (12 + 7 * s + 4) + d else 9)
theorem spS_cls (P : Nat → Int32) {i s : Nat} (hi : i < 3) (hs : s < 10) (d : Int32) : fX3_wet_P (upd (upd (upd P (122 + 3 * i + 2) (P (122 + 3 * i + 2) - 1)) (122 + 3 * i + 1) (upd P (122 + 3 * i + 2) (P (122 + 3 * i + 2) - 1) (122 + 3 * i + 1) - d)) 11 (upd (upd P (122 + 3 * i + 2) (P (122 + 3 * i + 2) - 1)) (122 + 3 * i + 1) (upd P (122 + 3 * i + 2) (P (122 + 3 * i + 2) - 1) (122 + 3 * i + 1) - d) 11 + d)) s d = spS P i s d := by
  unfold fX3_wet_P spS
  simp (disch := omega) only [pk_us, pk_un]
theorem spS_ref (N : Nat → Int32) {i s : Nat} (hi : i < 3) (hs : s < 10) (es : (N (122 + 3 * i)).toNatClampNeg = s) (d : Int32) : fX7_sprayOn_P N i d = if N (122 + 3 * i + 2) = 0 then N else if d ≤ N (122 + 3 * i + 1) then spS N i s d else N := by
  unfold fX7_sprayOn_P fX7_wet_P spS
  simp (disch := omega) only [pk_us, pk_un, es, less_min]
theorem spS_Rl {u : Nat} {P N : Nat → Int32} (h : Rl P N) (hN : PI u N) (hu : 9 * (u + 1) < 2 ^ 31) {i : Nat} (hi : i < (N 2).toNatClampNeg) {s : Nat} (hs : s < (N 0).toNatClampNeg) {d : Int32} (hd : nn 9 d) (h0 : ¬ N (122 + 3 * i + 2) = 0) (hle : d ≤ N (122 + 3 * i + 1)) : Rl (spS P i s d) (spS N i s d) ∧ PI (u + 1) (spS N i s d) ∧ nn 9 (spS N i s d (12 + 7 * s + 4)) := by
  have w3 := hN.w3.2
  have s10 := hN.s10.2
  have hm := hN.nw (i := i) (by omega) 2 4 (by omega) rfl rfl
  have hl := hN.nw (i := i) (by omega) 1 20 (by omega) rfl rfl
  have hw := hN.ns (i := s) (by omega) 4 9 (by omega) rfl rfl
  have h4 : nn 9 (if N (12 + 7 * s + 4) + d < 9 then N (12 + 7 * s + 4) + d else 9) := nn.min (k := 9) (hw.add hd (by decide)) (by decide) (by decide)
  have hle2 : d.toNatClampNeg ≤ (N (122 + 3 * i + 1)).toNatClampNeg := by
    have h1 := hl.2
    have h2 := hd.2
    rw [hl.1, hd.1, nI_leI (by omega) (by omega)] at hle
    exact hle
  unfold spS
  rw [h.wa hi (show 2 < 3 by decide) rfl, h.wa hi (show 1 < 3 by decide) rfl, h.sg hs (show 4 < 7 by decide) rfl, h.hd (show 11 < 12 by decide)]
  refine ⟨(((h.up (by omega) rfl).up (by omega) rfl).up (by omega) rfl).up (by omega) rfl, ?_, by rw [pk_us]; exact h4⟩
  have hP := hN.le (Nat.le_succ u)
  have p1 := hP.uw (i := i) (by omega) 2 4 (by omega) (by omega) rfl (hm.sub (b := 1) (nn.lit 1 (by decide)) (by decide) (by rw [show nI 1 = (1 : Int32) from rfl]; exact hm.pos h0) (by decide))
  have p2 := p1.uw (i := i) (by omega) 1 20 (by omega) (by omega) rfl (hl.sub (b := d.toNatClampNeg) ⟨hd.1, Nat.le_refl _⟩ (Nat.le_trans hd.2 (by decide)) hle2 (by decide))
  have p3 := p2.u0 11 (9 * (u + 1)) (by omega) (by omega) rfl (((hN.n0 11 (9 * u) (by omega) rfl).add hd (by omega)).le (by omega))
  exact p3.us (i := s) (by omega) 4 9 (by omega) rfl h4
theorem cs_eq {P N : Nat → Int32} {i : Nat} {d : Int32} (e0 : P (122 + 3 * i) = N (122 + 3 * i)) (e1 : P (122 + 3 * i + 1) = N (122 + 3 * i + 1)) (e2 : P (122 + 3 * i + 2) = N (122 + 3 * i + 2)) (hm : nn 4 (N (122 + 3 * i + 2))) : (fX5_couldSpray_v P i (P (122 + 3 * i)) d = 0) = (N (122 + 3 * i + 2) = 0 ∨ ¬ d ≤ N (122 + 3 * i + 1)) := by
  have z : fX5_wayTo_v P i (P (122 + 3 * i)) = 0 := by
    unfold fX5_wayTo_v
    rw [Int32.sub_self]
    rfl
  unfold fX5_couldSpray_v
  rw [z, e1, e2]
  by_cases h1 : N (122 + 3 * i + 2) ≤ 0
  · rw [if_pos h1]
    exact propext ⟨fun _ => Or.inl ((not_le0 hm (by decide)).1.mp h1), fun _ => rfl⟩
  · rw [if_neg h1]
    by_cases h2 : N (122 + 3 * i + 1) < d
    · rw [if_pos h2]
      exact propext ⟨fun _ => Or.inr (i32_lt_nle h2), fun _ => rfl⟩
    · rw [if_neg h2]
      refine propext ⟨fun q => absurd q (by decide), fun q => ?_⟩
      rcases q with q | q
      · exact absurd ((not_le0 hm (by decide)).1.mpr q) h1
      · exact absurd (i32_nlt h2) q
def rfSP (N : Nat → Int32) (a d : Int32) : Nat := if fX7_isWagon_v N a = 0 then 1 else if fX7_in_v d.toInt64 1 9 = 0 then 2 else if N (122 + 3 * a.toNatClampNeg + 2) = 0 then 3 else if d ≤ N (122 + 3 * a.toNatClampNeg + 1) then 0 else 3
theorem PI.okw {u : Nat} {N : Nat → Int32} (h : PI u N) {k : Nat} (hk : k < 3) : okI (N (122 + 3 * k)) (N 0) 10 := by
  have h1 := h.nw hk 0 9 (by omega) rfl (j := 122 + 3 * k) rfl
  have h2 := h.2.2.2 k hk
  have h10 := h.s10.2
  rw [h1.1, h.s10.1]
  exact ⟨nI_pos' (by omega), nI_lt h2 (by omega), nI_lt (show _ < 10 by omega) (by decide)⟩
theorem ac_spray {u : Nat} {P N : Nat → Int32} (h : Rl P N) (hN : PI u N) (hu : 9 * (u + 1) < 2 ^ 31) (a d : Int32) : AC u P N (fX2_sprayFrom_v P a d) (fX2_sprayFrom_P P a d) (if fX7_isWagon_v N a = 0 then 0 else if fX7_in_v d.toInt64 1 9 = 0 then 0 else if N (122 + 3 * a.toNatClampNeg + 2) = 0 then 0 else if d ≤ N (122 + 3 * a.toNatClampNeg + 1) then fX7_sprayOn_P N a.toNatClampNeg d (12 + 7 * (fX7_sprayOn_P N a.toNatClampNeg d (122 + 3 * a.toNatClampNeg)).toNatClampNeg + 4) else 0) (if fX7_isWagon_v N a = 0 then N else if fX7_in_v d.toInt64 1 9 = 0 then N else if N (122 + 3 * a.toNatClampNeg + 2) = 0 then N else if d ≤ N (122 + 3 * a.toNatClampNeg + 1) then fX7_sprayOn_P N a.toNatClampNeg d else N) (rfSP N a d) (EE xIO xIA xIS) := by
  unfold AC rfSP fX2_sprayFrom_v fX2_sprayFrom_P
  rw [w_19, h.hd (show 0 < 12 by decide), h.hd (show 2 < 12 by decide)]
  simp only [wa_ok hN]
  by_cases h1 : okI a (N 2) 3
  · rw [if_pos h1, if_pos h1]
    simp only [not_not_intro h1, if_false]
    obtain ⟨ha, hi⟩ := h1.nn hN.w3 (by decide)
    have s10 := hN.s10.2
    have w3 := hN.w3.2
    have hi3 : a.toNatClampNeg < 3 := by omega
    have e0 : P (122 + 3 * a.toNatClampNeg) = N (122 + 3 * a.toNatClampNeg) := h.wa hi (show 0 < 3 by decide) rfl
    have e1 := h.wa hi (show 1 < 3 by decide) rfl
    have e2 := h.wa hi (show 2 < 3 by decide) rfl
    have hm := hN.nw (i := a.toNatClampNeg) hi3 2 4 (by omega) rfl rfl
    have hok := hN.okw hi3
    have hsg := hN.2.2.2 _ hi3
    have hok' : okI (P (122 + 3 * a.toNatClampNeg)) (N 0) 10 := by rw [e0]; exact hok
    rw [if_pos hok', if_pos hok']
    by_cases h2 : fX6_within_v d 1 9 = 0
    · simp only [h2, if_true]
      exact Or.inr ⟨by decide, by decide, rfl, trivial, trivial⟩
    · simp only [h2, if_false]
      have hd := (wi_nn (lo := 1) (hi := 9) h2 (by decide) (by decide)).1
      simp only [cs_eq e0 e1 e2 hm]
      by_cases h3 : N (122 + 3 * a.toNatClampNeg + 2) = 0
      · simp only [h3, true_or, if_true]
        exact Or.inr ⟨by decide, by decide, rfl, trivial, trivial⟩
      · by_cases h4 : d ≤ N (122 + 3 * a.toNatClampNeg + 1)
        · simp only [h3, h4, not_true_eq_false, false_or, if_true, if_false]
          rw [spS_cls P hi3 (by rw [e0]; omega) d, spS_ref N hi3 (show (N (122 + 3 * a.toNatClampNeg)).toNatClampNeg < 10 by omega) rfl d, if_neg h3, if_pos h4, e0]
          obtain ⟨r1, r2, r3⟩ := spS_Rl h hN hu hi hsg hd h3 h4
          have es : spS N a.toNatClampNeg (N (122 + 3 * a.toNatClampNeg)).toNatClampNeg d (122 + 3 * a.toNatClampNeg) = N (122 + 3 * a.toNatClampNeg) := by
            generalize (N (122 + 3 * a.toNatClampNeg)).toNatClampNeg = s at hsg
            unfold spS
            simp (disch := omega) only [pk_un]
          have ev : spS P a.toNatClampNeg (N (122 + 3 * a.toNatClampNeg)).toNatClampNeg d (12 + 7 * (N (122 + 3 * a.toNatClampNeg)).toNatClampNeg + 4) = spS N a.toNatClampNeg (N (122 + 3 * a.toNatClampNeg)).toNatClampNeg d (12 + 7 * (N (122 + 3 * a.toNatClampNeg)).toNatClampNeg + 4) := by
            unfold spS
            rw [pk_us, pk_us, h.sg hsg (show 4 < 7 by decide) rfl]
          rw [es, ev]
          exact Or.inl ⟨trivial, xof_n2 r3 (by decide), rfl, r1, r2.le (by omega)⟩
        · simp only [h3, h4, not_false_eq_true, or_true, if_true, if_false]
          exact Or.inr ⟨by decide, by decide, rfl, trivial, trivial⟩
  · rw [if_neg h1, if_neg h1]
    simp only [h1, not_false_eq_true, if_true]
    exact Or.inr ⟨by decide, by decide, rfl, trivial, trivial⟩
theorem why_eq {u : Nat} {P N : Nat → Int32} (h : Rl P N) (hN : PI u N) {i : Nat} (hi : i < (N 2).toNatClampNeg) : fX2_whyNoWater_v P i = fX7_why_v N i := by
  have w3 := hN.w3.2
  have hi3 : i < 3 := by omega
  have hm := hN.nw hi3 2 4 (by omega) rfl rfl
  have hl := hN.nw hi3 1 20 (by omega) rfl rfl
  have e0 : P (122 + 3 * i) = N (122 + 3 * i) := h.wa hi (show 0 < 3 by decide) rfl
  unfold fX2_whyNoWater_v fX7_why_v
  rw [e0, h.wa hi (show 1 < 3 by decide) rfl, h.wa hi (show 2 < 3 by decide) rfl, h.hd (show 0 < 12 by decide), h.hd (show 8 < 12 by decide), h.hd (show 9 < 12 by decide), if_pos (hN.okw hi3), h.sg (hN.2.2.2 _ hi3) (show 5 < 7 by decide) rfl]
  by_cases h1 : N (122 + 3 * i + 2) = 0
  · rw [if_neg (fun q => (not_le0 hm (by decide)).2.mp q h1), if_pos h1]
  · rw [if_pos ((not_le0 hm (by decide)).2.mpr h1), if_neg h1]
    by_cases h2 : N (12 + 7 * (N (122 + 3 * i)).toNatClampNeg + 5) = 0
    · rw [if_pos h2, if_pos h2]
    · rw [if_neg h2, if_neg h2]
      rcases full_iff hl (by decide) with ⟨q, q2⟩ | ⟨q, q2, q3⟩
      · rw [if_neg (show ¬ N (122 + 3 * i + 1) < 20 from q2), if_pos (show N (122 + 3 * i + 1) = 20 from q)]
      · rw [if_pos (show N (122 + 3 * i + 1) < 20 from q2), if_neg (show ¬ N (122 + 3 * i + 1) = 20 from q)]
theorem why_nn (N : Nat → Int32) (i : Nat) : nn 4 (fX7_why_v N i) := by
  unfold fX7_why_v
  (repeat' split)
  · exact nn.of (n := 1) rfl (by decide) (by decide)
  · exact nn.of (n := 2) rfl (by decide) (by decide)
  · exact nn.of (n := 3) rfl (by decide) (by decide)
  · exact nn.of (n := 0) rfl (by decide) (by decide)
  · exact nn.of (n := 4) rfl (by decide) (by decide)
/-- why not, 0: room in the tank, and in the right -/
theorem why0 {u : Nat} {N : Nat → Int32} (hN : PI u N) {i : Nat} (hi3 : i < 3) (h : fX7_why_v N i = 0) : ¬ N (122 + 3 * i + 2) = 0 ∧ ¬ N (122 + 3 * i + 1) = 20 ∧ N 9 < N 8 := by
  unfold fX7_why_v at h
  by_cases h1 : N (122 + 3 * i + 2) = 0
  · rw [if_pos h1] at h; exact absurd h (by decide)
  · rw [if_neg h1] at h
    by_cases h2 : N (12 + 7 * (N (122 + 3 * i)).toNatClampNeg + 5) = 0
    · rw [if_pos h2] at h; exact absurd h (by decide)
    · rw [if_neg h2] at h
      by_cases h3 : N (122 + 3 * i + 1) = 20
      · rw [if_pos h3] at h; exact absurd h (by decide)
      · rw [if_neg h3] at h
        by_cases h4 : N 9 < N 8
        · exact ⟨h1, h3, h4⟩
        · rw [if_neg h4] at h; exact absurd h (by decide)
def fiS (P : Nat → Int32) (i : Nat) (x : Int32) : Nat → Int32 := upd (upd (upd P (122 + 3 * i + 2) (P (122 + 3 * i + 2) - 1)) (122 + 3 * i + 1) (P (122 + 3 * i + 1) + x)) 9 (P 9 + x)
theorem fillOn_v_eq (N : Nat → Int32) (i : Nat) : fX7_fillOn_v N i = if N 8 - N 9 < 20 - N (122 + 3 * i + 1) then N 8 - N 9 else 20 - N (122 + 3 * i + 1) := by
  unfold fX7_fillOn_v
  exact less_min _ _
theorem fiS_ref (N : Nat → Int32) {i : Nat} (hi : i < 3) : fX7_fillOn_P N i = fiS N i (fX7_fillOn_v N i) := by
  unfold fX7_fillOn_P fiS fX7_fillOn_v
  simp (disch := omega) only [pk_un]
  rw [upd_comm N _ _ (show 122 + 3 * i + 1 ≠ 122 + 3 * i + 2 by omega)]
theorem fiS_Rl {u : Nat} {P N : Nat → Int32} (h : Rl P N) (hN : PI u N) {i : Nat} (hi : i < (N 2).toNatClampNeg) (h0 : fX7_why_v N i = 0) : Rl (fiS P i (fX7_fillOn_v N i)) (fiS N i (fX7_fillOn_v N i)) ∧ PI u (fiS N i (fX7_fillOn_v N i)) ∧ nn 20 (fX7_fillOn_v N i) ∧ ¬ fX7_fillOn_v N i = 0 := by
  have w3 := hN.w3.2
  have hi3 : i < 3 := by omega
  have hm := hN.nw hi3 2 4 (by omega) rfl rfl
  have hl := hN.nw hi3 1 20 (by omega) rfl rfl
  have h8 := hN.n0 8 99 (by omega) rfl
  have h9 := hN.n0 9 99 (by omega) rfl
  obtain ⟨y1, y2, y3⟩ := why0 hN hi3 h0
  rw [nn.lt h9 h8 (by decide) (by decide)] at y3
  obtain ⟨r, hr, er, er'⟩ := h8.ex
  obtain ⟨f, hf, ef, ef'⟩ := h9.ex
  obtain ⟨t, ht, et, et'⟩ := hl.ex
  have ht2 : t < 20 := by
    rcases Nat.lt_or_ge t 20 with q | q
    · exact q
    · exact absurd (by rw [et, show t = 20 by omega]; rfl) y2
  have ex : ∃ x, 1 ≤ x ∧ t + x ≤ 20 ∧ f + x ≤ 99 ∧ fX7_fillOn_v N i = nI x := by
    rw [fillOn_v_eq, er, ef, et, show (20 : Int32) = nI 20 from rfl, pk_sub (by omega), pk_sub (by omega)]
    by_cases q : nI (r - f) < nI (20 - t)
    · rw [if_pos q]
      have := (nI_ltI (a := r - f) (b := 20 - t) (by omega) (by omega)).mp q
      exact ⟨r - f, by omega, by omega, by omega, rfl⟩
    · rw [if_neg q]
      have : ¬ r - f < 20 - t := fun z => q (nI_lt z (by omega))
      exact ⟨20 - t, by omega, by omega, by omega, rfl⟩
  obtain ⟨x, hx1, hx2, hx3, exx⟩ := ex
  have hx : nn 20 (fX7_fillOn_v N i) := nn.of exx (by omega) (by decide)
  refine ⟨?_, ?_, hx, by rw [exx]; exact nI_ne0 (by omega) (by omega)⟩
  · unfold fiS
    rw [h.wa hi (show 2 < 3 by decide) rfl, h.wa hi (show 1 < 3 by decide) rfl, h.hd (show 9 < 12 by decide)]
    exact ((h.up (by omega) rfl).up (by omega) rfl).up (by omega) rfl
  · unfold fiS
    have p1 := hN.uw (i := i) hi3 2 4 (by omega) (by omega) rfl (hm.sub (b := 1) (nn.lit 1 (by decide)) (by decide) (by rw [show nI 1 = (1 : Int32) from rfl]; exact hm.pos y1) (by decide))
    have p2 := p1.uw (i := i) hi3 1 20 (by omega) (by omega) rfl (x := N (122 + 3 * i + 1) + fX7_fillOn_v N i) (nn.of (n := t + x) (by rw [et, exx, nI_add]) (by omega) (by decide))
    exact p2.u0 9 99 (by omega) (by omega) rfl (nn.of (n := f + x) (by rw [ef, exx, nI_add]) (by omega) (by decide))
def rfFI (N : Nat → Int32) (a : Int32) : Nat := if fX7_isWagon_v N a = 0 then 1 else if fX7_why_v N a.toNatClampNeg = 0 then 0 else 2
theorem fill_cls {P : Nat → Int32} {a : Int32} (h1 : okI a (P 2) 3) (hi : a.toNatClampNeg < 3) (h2 : fX2_whyNoWater_v P a.toNatClampNeg = 0) : fX2_fillTank_v P a = fX7_fillOn_v P a.toNatClampNeg ∧ fX2_fillTank_P P a = fiS P a.toNatClampNeg (fX7_fillOn_v P a.toNatClampNeg) := by
  unfold fX2_fillTank_v fX2_fillTank_P fiS
  rw [fillOn_v_eq, if_pos h1, if_pos h2, if_pos h1, if_pos h2]
  simp (disch := omega) only [pk_un]
  exact ⟨trivial, trivial⟩
theorem fo_eq {P N : Nat → Int32} (h : Rl P N) {i : Nat} (hi : i < (N 2).toNatClampNeg) : fX7_fillOn_v P i = fX7_fillOn_v N i := by
  unfold fX7_fillOn_v
  rw [h.wa hi (show 1 < 3 by decide) rfl, h.hd (show 8 < 12 by decide), h.hd (show 9 < 12 by decide)]
theorem ac_fill {u : Nat} {P N : Nat → Int32} (h : Rl P N) (hN : PI u N) (a : Int32) : AC u P N (fX2_fillTank_v P a) (fX2_fillTank_P P a) (if fX7_isWagon_v N a = 0 then 0 else if fX7_why_v N a.toNatClampNeg = 0 then fX7_fillOn_v N a.toNatClampNeg else 0) (if fX7_isWagon_v N a = 0 then N else if fX7_why_v N a.toNatClampNeg = 0 then fX7_fillOn_P N a.toNatClampNeg else N) (rfFI N a) (EE xIO xIS xIS) := by
  unfold AC rfFI
  simp only [wa_ok hN]
  by_cases h1 : okI a (N 2) 3
  · simp only [not_not_intro h1, if_false]
    obtain ⟨ha, hi⟩ := h1.nn hN.w3 (by decide)
    have w3 := hN.w3.2
    have h1' : okI a (P 2) 3 := by rw [h.hd (show 2 < 12 by decide)]; exact h1
    by_cases h2 : fX7_why_v N a.toNatClampNeg = 0
    · simp only [h2, if_true]
      obtain ⟨c1, c2⟩ := fill_cls h1' (by omega) (by rw [why_eq h hN hi]; exact h2)
      obtain ⟨r1, r2, r3, -⟩ := fiS_Rl h hN hi h2
      rw [c1, c2, fo_eq h hi, fiS_ref N (by omega)]
      exact Or.inl ⟨trivial, xof_n2 r3 (by decide), rfl, r1, r2.up850⟩
    · simp only [h2, if_false]
      have h2' : ¬ fX2_whyNoWater_v P a.toNatClampNeg = 0 := by rw [why_eq h hN hi]; exact h2
      unfold fX2_fillTank_v fX2_fillTank_P
      rw [if_pos h1', if_neg h2', if_pos h1', if_neg h2']
      exact Or.inr ⟨by decide, by decide, rfl, rfl, trivial⟩
  · have h1' : ¬ okI a (P 2) 3 := by rw [h.hd (show 2 < 12 by decide)]; exact h1
    simp only [h1, not_false_eq_true, if_true]
    unfold fX2_fillTank_v fX2_fillTank_P
    rw [if_neg h1', if_neg h1']
    exact Or.inr ⟨by decide, by decide, rfl, rfl, trivial⟩
/-- complaints don't become fewer -/
theorem hourH_10 {u : Nat} {N : Nat → Int32} (h : PI u N) (hu : 1998 * (u + 2) < 2 ^ 31) {k : Nat} (hk : k < 8) : (N 10).toNatClampNeg ≤ (fX7_hourH_S N k 10).toNatClampNeg := by
  have h10 := h.n0 10 u (by omega) rfl
  have e1 : (N 10 + 1).toNatClampNeg = (N 10).toNatClampNeg + 1 := by
    have := h10.2
    conv => lhs; rw [h10.1, nI_1]
    exact nI_clamp (by omega)
  rw [hourH_eq hk rfl (h.sh hk)]
  have hs := h.sh hk
  generalize (N (82 + 5 * k)).toNatClampNeg = s at hs ⊢
  unfold cmS gtS
  (repeat' split) <;> simp (disch := omega) only [pk_us, pk_un] <;> omega
theorem hour_10 {u : Nat} {N : Nat → Int32} (hN : PI u N) (hu : 1998 * (u + 17) < 2 ^ 31) : (N 10).toNatClampNeg ≤ (fX7_hourOn_P N 10).toNatClampNeg := by
  have p1 := PI_rise hN
  have e1 : fX7_raise_P (fX7_dry_P N) 10 = N 10 := (fX7_raise_L0 _ 10 (by omega) _).trans (fX7_dry_L0 N 10 (by omega) _)
  have h8 := p1.h8.2
  have key : ∀ k, k ≤ (fX7_raise_P (fX7_dry_P N) 1).toNatClampNeg → (N 10).toNatClampNeg ≤ (fX7_hourH_L (fX7_raise_P (fX7_dry_P N)) k 10).toNatClampNeg := by
    intro k
    induction k with
    | zero => intro _; show _ ≤ (fX7_raise_P (fX7_dry_P N) 10).toNatClampNeg; rw [e1]; exact Nat.le_refl _
    | succ k ih =>
      intro hk
      have b := (reachAll (P := fX7_raise_P (fX7_dry_P N)) (fun _ _ => rfl) p1 (by omega) k (by omega)).2.1
      exact Nat.le_trans (ih (by omega)) (hourH_10 b (by omega) (by omega))
  have k1 := key _ (Nat.le_refl _)
  rw [hourOn_eq]
  generalize fX7_hourH_L (fX7_raise_P (fX7_dry_P N)) (fX7_raise_P (fX7_dry_P N) 1).toNatClampNeg = N2 at k1 ⊢
  have e3 : fX7_hourS_L N2 (N2 0).toNatClampNeg 10 = N2 10 := (hS_L N2 _).1 10 (fun k _ => by omega)
  generalize fX7_hourS_L N2 (N2 0).toNatClampNeg = N3 at e3 ⊢
  have e4 : dayS N3 10 = N3 10 := by
    unfold dayS
    split <;> simp (disch := omega) only [pk_un]
  rw [show fX7_hourW_L (dayS N3) (dayS N3 2).toNatClampNeg 10 = dayS N3 10 from (hW_L _ _).1 10 (fun k _ => by omega), e4, e3]
  exact k1
theorem pass_10 {u : Nat} {N : Nat → Int32} (hN : PI u N) : ∀ k, 1998 * (u + 17 * k) < 2 ^ 31 → (N 10).toNatClampNeg ≤ (fX7_pass_L N k 10).toNatClampNeg ∧ PI (u + 17 * k) (fX7_pass_L N k)
  | 0, _ => ⟨Nat.le_refl _, hN⟩
  | k + 1, hu => by
    obtain ⟨a, b⟩ := pass_10 hN k (by omega)
    have c := (hour_Rl (P := fX7_pass_L N k) (fun _ _ => rfl) b (by omega)).2
    exact ⟨Nat.le_trans a (hour_10 b (by omega)), c.le (by omega)⟩
def rfPA (a : Int32) : Nat := if fX7_in_v a.toInt64 1 50 = 0 then 1 else 0
theorem ac_pass {u : Nat} {P N : Nat → Int32} (h : Rl P N) (hN : PI u N) (hu : 1998 * (u + 850) < 2 ^ 31) (a : Int32) : AC u P N (fX2_goHours_v P a) (fX2_goHours_P P a) (if fX7_in_v a.toInt64 1 50 = 0 then 0 else fX7_pass_L N a.toNatClampNeg 10 - N 10) (if fX7_in_v a.toInt64 1 50 = 0 then N else fX7_pass_L N a.toNatClampNeg) (rfPA a) (EE xIA xIA xIA) := by
  unfold AC rfPA fX2_goHours_v fX2_goHours_P
  rw [w_150]
  by_cases h1 : fX6_within_v a 1 50 = 0
  · simp only [h1, if_true]
    exact Or.inr ⟨by decide, by decide, rfl, trivial, trivial⟩
  · simp only [h1, if_false]
    obtain ⟨ha, -⟩ := wi_nn (lo := 1) (hi := 50) h1 (by decide) (by decide)
    have ha2 := ha.2
    obtain ⟨r1, r2⟩ := hours_Rl h hN a.toNatClampNeg (by omega)
    obtain ⟨m1, -⟩ := pass_10 hN a.toNatClampNeg (by omega)
    rw [r1.hd (show 10 < 12 by decide), h.hd (show 10 < 12 by decide)]
    have b1 := (r2.n0 10 _ (by omega) rfl).le (show u + 17 * a.toNatClampNeg ≤ u + 850 by omega)
    have b2 := (hN.n0 10 u (by omega) rfl).le (show u ≤ u + 850 by omega)
    exact Or.inl ⟨trivial, xof_n2 (b1.sub b2 (Nat.le_refl _) m1 (by omega)) (by omega), rfl, r1, r2.le (by omega)⟩
