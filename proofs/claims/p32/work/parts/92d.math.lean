/-! MATH: pages whose roads are the same; a wagon more, water sprayed. -/
set_option maxRecDepth 16384
theorem nxw {u v : Nat} {N N' : Nat → Int32} (hN : PI u N) (hN' : PI v N') (hu : 1998 * (u + 17) < 2 ^ 31) (hv : 1998 * (v + 17) < 2 ^ 31) (e0 : N' 0 = N 0) (e1 : N' 1 = N 1) (e5 : N' 5 = N 5) (e6 : N' 6 = N 6) (hw : ∀ j, 12 ≤ j → j < 122 → N' j = N j) {i : Nat} (hi : i < (N 1).toNatClampNeg) : fX7_hourOn_P N' (82 + 5 * i + 4) = fX7_hourOn_P N (82 + 5 * i + 4) := by
  have s10 := hN.s10.2
  have h8 := hN.h8.2
  have p := PI_rise hN
  rw [(hour_house hN hu hi).1, (hour_house hN' hv (by rw [e1]; exact hi)).1]
  have eD : ∀ a : Int32, fX7_dustOf_v (fX7_raise_P (fX7_dry_P N')) a = fX7_dustOf_v (fX7_raise_P (fX7_dry_P N)) a := by
    intro a
    unfold fX7_dustOf_v fX7_isSegment_v
    rw [raise_hd N' (show 0 < 12 by omega), raise_hd N (show 0 < 12 by omega), e0]
    by_cases q : fX7_in_v a.toInt64 0 (N 0 - 1).toInt64 = 0
    · rw [if_pos q, if_pos q]
    · rw [if_neg q, if_neg q]
      have h2 := isPl hN.s10.1 (Nat.lt_of_le_of_lt hN.s10.2 (by decide)) q
      exact rd_val e0 e5 e6 h2.2 (hw _ (by omega) (by omega)) (hw _ (by omega) (by omega)) (hw _ (by omega) (by omega)) (hw _ (by omega) (by omega))
  unfold fX7_gets_v
  have s10' : (N' 0).toNatClampNeg ≤ 10 := by rw [e0]; exact s10
  rw [raise_hi N' s10' (show 82 ≤ 82 + 5 * i by omega), raise_hi N' s10' (show 82 ≤ 82 + 5 * i + 1 by omega), raise_hi N s10 (show 82 ≤ 82 + 5 * i by omega), raise_hi N s10 (show 82 ≤ 82 + 5 * i + 1 by omega), hw _ (show 12 ≤ 82 + 5 * i by omega) (by omega), hw _ (show 12 ≤ 82 + 5 * i + 1 by omega) (by omega), eD, eD, eD]
/-- a wagon more in the segment s -/
def wgN (N : Nat → Int32) (s : Nat) : Nat → Int32 := wgS N (N 2).toNatClampNeg (nI s)
section Wat
variable {u : Nat} {N : Nat → Int32} {i s : Nat}
theorem w3_lt (hN : PI u N) (h3 : ¬ N 2 = 3) : (N 2).toNatClampNeg < 3 := by
  obtain ⟨n, hn, en, en'⟩ := hN.w3.ex
  rw [en']
  rcases Nat.lt_or_ge n 3 with q | q
  · exact q
  · exact absurd (by rw [en, show n = 3 by omega]; rfl) h3
theorem wg_PI (hN : PI u N) (h3 : ¬ N 2 = 3) (hs : s < (N 0).toNatClampNeg) : PI u (wgN N s) ∧ wgN N s 2 = nI ((N 2).toNatClampNeg + 1) := by
  have b0 := hN.s10.2
  have es : (nI s).toNatClampNeg = s := nI_clamp (by omega)
  exact (wgS_Rl (P := N) (fun _ _ => rfl) hN rfl (w3_lt hN h3) (nn.of rfl (by omega) (by decide)) (by rw [es]; exact hs)).2
theorem wg_at (N : Nat → Int32) (s : Nat) : wgN N s (122 + 3 * (N 2).toNatClampNeg) = nI s ∧ wgN N s (122 + 3 * (N 2).toNatClampNeg + 1) = 20 ∧ wgN N s (122 + 3 * (N 2).toNatClampNeg + 2) = 4 := by
  unfold wgN
  generalize (N 2).toNatClampNeg = n
  unfold wgS
  refine ⟨?_, ?_, ?_⟩ <;> simp (disch := omega) only [pk_us, pk_un]
theorem wg_off (N : Nat → Int32) (s : Nat) {j : Nat} (h : j < 122) (h2 : j ≠ 2) : wgN N s j = N j := by
  unfold wgN wgS
  simp (disch := omega) only [pk_un]
/-- the page after this wagon has sprayed x liters, or none -/
def wgX (N : Nat → Int32) (s x : Nat) : Nat → Int32 := if x = 0 then wgN N s else spS (wgN N s) (N 2).toNatClampNeg s (nI x)
theorem wgX_0 (N : Nat → Int32) (s : Nat) : wgX N s 0 = wgN N s := if_pos rfl
theorem wgX_1 (N : Nat → Int32) (s : Nat) {x : Nat} (h : 0 < x) : wgX N s x = spS (wgN N s) (N 2).toNatClampNeg s (nI x) := if_neg (by omega)
theorem wgX_PI (hN : PI u N) (hu : 1998 * (u + 18) < 2 ^ 31) (h3 : ¬ N 2 = 3) (hs : s < (N 0).toNatClampNeg) {x : Nat} (hx : x < 10) : PI (u + 1) (wgX N s x) := by
  obtain ⟨p, e2⟩ := wg_PI hN h3 hs
  obtain ⟨a0, a1, a2⟩ := wg_at N s
  have l3 := w3_lt hN h3
  unfold wgX
  by_cases q : x = 0
  · rw [if_pos q]; exact p.le (by omega)
  · rw [if_neg q]
    refine (spS_Rl (P := wgN N s) (fun _ _ => rfl) p (by omega) ?_ ?_ (nn.of rfl (by omega) (by decide)) ?_ ?_).2.1
    · rw [e2, nI_clamp (by omega)]; omega
    · rw [wg_off N s (by decide) (by decide)]; exact hs
    · rw [a2]; decide
    · rw [a1]; exact nI_le (a := x) (b := 20) (by omega) (by decide)
theorem wgX_off (N : Nat → Int32) (s x : Nat) {j : Nat} (h : j < 122) (h2 : j ≠ 2) (h11 : j ≠ 11) (h4 : j ≠ 12 + 7 * s + 4) : wgX N s x j = N j := by
  unfold wgX
  split
  · exact wg_off N s h h2
  · unfold spS
    simp (disch := omega) only [pk_un]
    exact wg_off N s h h2
theorem wet_at (N : Nat → Int32) (s : Nat) (d : Int32) : fX7_wet_P N s d = upd N (12 + 7 * s + 4) (if N (12 + 7 * s + 4) + d < 9 then N (12 + 7 * s + 4) + d else 9) := by
  unfold fX7_wet_P
  rw [less_min]
theorem min9 {x : Int32} (h : nn 9 x) : (if x + nI 0 < 9 then x + nI 0 else 9) = x := by
  obtain ⟨n, hn, en, -⟩ := h.ex
  rw [en, nI_add, show (9 : Int32) = nI 9 from rfl]
  by_cases q : n < 9
  · rw [if_pos (nI_lt (a := n + 0) (b := 9) (by omega) (by decide))]
    rfl
  · rw [if_neg (nI_nlt (a := n + 0) (b := 9) (by omega) (by omega)), show n = 9 by omega]
theorem wgX_wet (hN : PI u N) (h3 : ¬ N 2 = 3) (hs : s < 10) (x : Nat) {j : Nat} (h : 12 ≤ j) (h2 : j < 122) : wgX N s x j = fX7_wet_P N s (nI x) j := by
  rw [wet_at]
  by_cases q : j = 12 + 7 * s + 4
  · subst q
    rw [pk_us]
    unfold wgX
    by_cases z : x = 0
    · subst z
      rw [if_pos rfl, wg_off N s (by omega) (by omega), min9 (hN.ns hs 4 9 (by omega) rfl rfl)]
    · rw [if_neg z]
      unfold spS
      rw [pk_us, wg_off N s (by omega) (by omega)]
  · rw [pk_un q]
    exact wgX_off N s x h2 (by omega) (by omega) q
/-- what the house gets then -/
theorem wgX_gets (hN : PI u N) (hu : 1998 * (u + 18) < 2 ^ 31) (h3 : ¬ N 2 = 3) (hs : s < (N 0).toNatClampNeg) {x : Nat} (hx : x < 10) (hi : i < (N 1).toNatClampNeg) : fX7_hourOn_P (wgX N s x) (82 + 5 * i + 4) = fX7_hourOn_P (fX7_wet_P N s (nI x)) (82 + 5 * i + 4) := by
  have b0 := hN.s10.2
  have pw := (wet_Rl (P := N) (fun _ _ => rfl) hN hs (d := nI x) (nn.of rfl (by omega) (by decide))).2
  have e : ∀ j, j < 12 → fX7_wet_P N s (nI x) j = N j := fun j hj => by rw [wet_at]; exact pk_un (by omega)
  refine nxw pw (wgX_PI hN hu h3 hs hx) (by omega) (by omega) ?_ ?_ ?_ ?_ (fun j h1 h2 => wgX_wet hN h3 (by omega) x h1 h2) (by rw [e 1 (by omega)]; exact hi)
  · rw [e 0 (by omega)]; exact wgX_off N s x (by omega) (by omega) (by omega) (by omega)
  · rw [e 1 (by omega)]; exact wgX_off N s x (by omega) (by omega) (by omega) (by omega)
  · rw [e 5 (by omega)]; exact wgX_off N s x (by omega) (by omega) (by omega) (by omega)
  · rw [e 6 (by omega)]; exact wgX_off N s x (by omega) (by omega) (by omega) (by omega)
theorem wgX_hi (hN : PI u N) (hi : i < (N 1).toNatClampNeg) (x : Nat) : i < (wgX N s x 1).toNatClampNeg := by rw [wgX_off N s x (by omega) (by omega) (by omega) (by omega)]; exact hi
theorem wat_no (hN : PI u N) (hu : 1998 * (u + 18) < 2 ^ 31) (h3 : ¬ N 2 = 3) (hs : s < (N 0).toNatClampNeg) {x : Nat} (hx : x < 10) (hi : i < (N 1).toNatClampNeg) (hc : ¬ N 7 ≤ fX7_hourOn_P (fX7_wet_P N s (nI x)) (82 + 5 * i + 4)) : fX7_pass_L (wgX N s x) 1 (82 + 5 * i + 3) = N (82 + 5 * i + 3) := by
  have b0 := hN.s10.2
  have b1 := hN.h8.2
  show fX7_hourOn_P (wgX N s x) (82 + 5 * i + 3) = _
  rw [hour_c3 (wgX_PI hN hu h3 hs hx) (by omega) (wgX_hi hN hi x), wgX_gets hN hu h3 hs hx hi, wgX_off N s x (show 7 < 122 by omega) (by omega) (by omega) (by omega), if_pos (Int32.not_le.mp hc)]
  exact wgX_off N s x (by omega) (by omega) (by omega) (by omega)
theorem wat_yes (hN : PI u N) (hu : 1998 * (u + 18) < 2 ^ 31) (h3 : ¬ N 2 = 3) (hs : s < (N 0).toNatClampNeg) {x : Nat} (hx : x < 10) (hi : i < (N 1).toNatClampNeg) (hc : N 7 ≤ fX7_hourOn_P (fX7_wet_P N s (nI x)) (82 + 5 * i + 4)) : fX7_pass_L (wgX N s x) 1 (82 + 5 * i + 3) = N (82 + 5 * i + 3) + 1 ∧ (wgX N s x 10).toNatClampNeg < (fX7_pass_L (wgX N s x) 1 10).toNatClampNeg := by
  have b0 := hN.s10.2
  have b1 := hN.h8.2
  have p := wgX_PI hN hu h3 hs hx
  have e7 : wgX N s x 7 = N 7 := wgX_off N s x (by omega) (by omega) (by omega) (by omega)
  constructor
  · show fX7_hourOn_P (wgX N s x) (82 + 5 * i + 3) = _
    rw [hour_c3 p (by omega) (wgX_hi hN hi x), wgX_gets hN hu h3 hs hx hi, e7, if_neg (Int32.not_lt.mpr hc)]
    exact congrArg (· + 1) (wgX_off N s x (by omega) (by omega) (by omega) (by omega))
  · exact hour_10s p (by omega) (wgX_hi hN hi x) (by rw [wgX_gets hN hu h3 hs hx hi, e7]; exact Int32.not_lt.mpr hc)
/-- the water there then is no less than what was sprayed -/
theorem wat_ge (hN : PI u N) (hs : s < 10) {x : Nat} (h0 : 0 < x) (hx : x < 10) : ¬ spS (wgN N s) (N 2).toNatClampNeg s (nI x) (12 + 7 * s + 4) < nI x ∧ ¬ spS (wgN N s) (N 2).toNatClampNeg s (nI x) (12 + 7 * s + 4) < 0 := by
  unfold spS
  rw [pk_us, wg_off N s (by omega) (by omega)]
  obtain ⟨n, hn, en, -⟩ := (hN.ns hs 4 9 (by omega) rfl rfl).ex
  rw [en, nI_add, show (9 : Int32) = nI 9 from rfl]
  by_cases q : n + x < 9
  · rw [if_pos (nI_lt (a := n + x) (b := 9) q (by decide))]
    exact ⟨nI_nlt (by omega) (by omega), nI_nlt (b := 0) (Nat.zero_le _) (by omega)⟩
  · rw [if_neg (nI_nlt (a := n + x) (b := 9) (by omega) (by omega))]
    exact ⟨nI_nlt (a := 9) (b := x) (by omega) (by omega), by decide⟩
end Wat
