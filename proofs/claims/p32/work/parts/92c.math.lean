/-! MATH: the actions keep the numbers well. -/
set_option maxRecDepth 16384
section GDa
variable {u : Nat} {N : Nat → Int32}
theorem gd_addHouse (hN : PI u N) (h : GD N) (a d : Int32) : GD (n_addHouse N a d) := by
  unfold n_addHouse
  by_cases c1 : fX7_isSegment_v N a = 0
  · rw [if_pos c1]; exact h
  by_cases c2 : fX7_in_v d.toInt64 0 9 = 0
  · rw [if_neg c1, if_pos c2]; exact h
  by_cases c3 : N 1 = 8
  · rw [if_neg c1, if_neg c2, if_pos c3]; exact h
  rw [if_neg c1, if_neg c2, if_neg c3, hsS_ref N a d rfl]
  have b0 := hN.s10.2
  obtain ⟨n, hn, en, en'⟩ := hN.h8.ex
  have n8 : n < 8 := by
    rcases Nat.lt_or_ge n 8 with q | q
    · exact q
    · exact absurd (by rw [en, show n = 8 by omega]; rfl) c3
  rw [en']
  have e1 : hsS N n a d 1 = nI (n + 1) := by unfold hsS; rw [pk_us, en, nI_1]
  have e0 : hsS N n a d 0 = N 0 := by unfold hsS; simp (disch := omega) only [pk_un]
  have e10 : hsS N n a d 10 = N 10 := by unfold hsS; simp (disch := omega) only [pk_un]
  have es : ∀ s m, s < 10 → m < 7 → hsS N n a d (12 + 7 * s + m) = N (12 + 7 * s + m) := fun s m hs hm => by unfold hsS; simp (disch := omega) only [pk_un]
  have eh : ∀ i m, i < n → m < 5 → hsS N n a d (82 + 5 * i + m) = N (82 + 5 * i + m) := fun i m hi hm => by unfold hsS; simp (disch := omega) only [pk_un]
  have z2 : hsS N n a d (82 + 5 * n + 2) = 0 := by unfold hsS; simp (disch := omega) only [pk_us, pk_un]
  have z3 : hsS N n a d (82 + 5 * n + 3) = 0 := by unfold hsS; simp (disch := omega) only [pk_us, pk_un]
  have z4 : hsS N n a d (82 + 5 * n + 4) = 0 := by unfold hsS; simp (disch := omega) only [pk_us, pk_un]
  have h1 := h
  unfold GD at h1 ⊢
  rw [en'] at h1
  rw [e0, e1, e10, nI_clamp (by omega)]
  refine ⟨fun s q => ?_, fun i q => ?_, ?_, ?_⟩
  · rw [es s 1 (by omega) (by omega), es s 2 (by omega) (by omega), es s 6 (by omega) (by omega)]
    exact h1.1 s q
  · by_cases z : i = n
    · subst z
      rw [z2, z4]; decide
    · rw [eh i 2 (by omega) (by omega), eh i 4 (by omega) (by omega)]
      exact h1.2.1 i (by omega)
  · rw [aF_cong _ (fun i hi => es i 6 (by omega) (by omega))]
    exact h1.2.2.1
  · show aF (hsS N n a d) 82 5 3 n + hsS N n a d (82 + 5 * n + 3) = N 10
    rw [z3, Int32.add_zero, aF_cong _ (fun i hi => eh i 3 hi (by omega))]
    exact h1.2.2.2
theorem gd_addWagon (hN : PI u N) (h : GD N) (a : Int32) : GD (n_addWagon N a) := by
  unfold n_addWagon
  by_cases c1 : fX7_isSegment_v N a = 0
  · rw [if_pos c1]; exact h
  by_cases c2 : N 2 = 3
  · rw [if_neg c1, if_pos c2]; exact h
  rw [if_neg c1, if_neg c2, wgS_ref N a rfl]
  have e : ∀ j, j < 122 → j ≠ 2 → wgS N (N 2).toNatClampNeg a j = N j := fun j h1 h2 => by unfold wgS; simp (disch := omega) only [pk_un]
  exact h.cong hN (e 0 (by omega) (by omega)) (e 1 (by omega) (by omega)) (e 10 (by omega) (by omega)) (fun s hs => ⟨e _ (by omega) (by omega), e _ (by omega) (by omega), e _ (by omega) (by omega)⟩) (fun i hi => ⟨e _ (by omega) (by omega), e _ (by omega) (by omega), e _ (by omega) (by omega)⟩)
theorem seg_lt (hN : PI u N) {a : Int32} (c1 : ¬ fX7_isSegment_v N a = 0) : a.toNatClampNeg < (N 0).toNatClampNeg ∧ a.toNatClampNeg < 10 ∧ nn 9 a := by
  rw [sg_ok hN] at c1
  have b0 := hN.s10.2
  obtain ⟨q1, q2⟩ := okI.nn (Decidable.of_not_not c1) hN.s10 (by decide)
  exact ⟨q2, by omega, ⟨q1.1, by omega⟩⟩
theorem wag_lt (hN : PI u N) {a : Int32} (c1 : ¬ fX7_isWagon_v N a = 0) : a.toNatClampNeg < (N 2).toNatClampNeg ∧ a.toNatClampNeg < 3 := by
  rw [wa_ok hN] at c1
  have b0 := hN.w3.2
  obtain ⟨q1, q2⟩ := okI.nn (Decidable.of_not_not c1) hN.w3 (by decide)
  exact ⟨q2, by omega⟩
theorem gd_setSurface (hN : PI u N) (h : GD N) (a d : Int32) : GD (n_setSurface N a d) := by
  unfold n_setSurface
  by_cases c1 : fX7_isSegment_v N a = 0
  · rw [if_pos c1]; exact h
  by_cases c2 : fX7_in_v d.toInt64 0 2 = 0
  · rw [if_neg c1, if_pos c2]; exact h
  rw [if_neg c1, if_neg c2]
  have hl := (seg_lt hN c1).2.1
  exact h.cong hN (pk_un (by omega)) (pk_un (by omega)) (pk_un (by omega)) (fun s hs => ⟨pk_un (by omega), pk_un (by omega), pk_un (by omega)⟩) (fun i hi => ⟨pk_un (by omega), pk_un (by omega), pk_un (by omega)⟩)
theorem gd_limit (hN : PI u N) (h : GD N) {s : Nat} (hs : s < (N 0).toNatClampNeg) {d : Int32} (h1 : ¬ d < 1) (h2 : ¬ 5 < d + N (12 + 7 * s + 2)) : GD (upd N (12 + 7 * s + 1) d) := by
  have b0 := hN.s10.2
  have b1 := hN.h8.2
  unfold GD
  rw [pk_un (show 0 ≠ 12 + 7 * s + 1 by omega), pk_un (show 1 ≠ 12 + 7 * s + 1 by omega), pk_un (show 10 ≠ 12 + 7 * s + 1 by omega)]
  refine ⟨fun s' q => ?_, fun i q => ?_, ?_, ?_⟩
  · by_cases z : s' = s
    · subst z
      rw [pk_us, pk_un (by omega), pk_un (by omega)]
      exact ⟨h1, h2, (h.1 s' q).2.2⟩
    · rw [pk_un (by omega), pk_un (by omega), pk_un (by omega)]
      exact h.1 s' q
  · rw [pk_un (by omega), pk_un (by omega)]
    exact h.2.1 i q
  · rw [aF_cong _ (fun i hi => pk_un (by omega))]
    exact h.2.2.1
  · rw [aF_cong _ (fun i hi => pk_un (by omega))]
    exact h.2.2.2
theorem lim_ok (hN : PI u N) {s : Nat} (hs : s < 10) {d : Int32} (hd : nn 5 d) (h1 : 1 ≤ d.toNatClampNeg) (h2 : d ≤ 5 - N (12 + 7 * s + 2)) : ¬ d < 1 ∧ ¬ 5 < d + N (12 + 7 * s + 2) := by
  obtain ⟨x, hx, ex, ex'⟩ := hd.ex
  obtain ⟨r, hr, er, -⟩ := (hN.ns hs 2 4 (by omega) rfl rfl).ex
  rw [ex'] at h1
  rw [ex, er, show (5 : Int32) = nI 5 from rfl, pk_sub (by omega), nI_leI (by omega) (by omega)] at h2
  rw [ex, er, nI_add, show (5 : Int32) = nI 5 from rfl, show (1 : Int32) = nI 1 from rfl]
  exact ⟨nI_nlt (by omega) (by omega), nI_nlt (by omega) (by omega)⟩
theorem gd_setLimit (hN : PI u N) (h : GD N) (a d : Int32) : GD (n_setLimit N a d) := by
  unfold n_setLimit
  by_cases c1 : fX7_isSegment_v N a = 0
  · rw [if_pos c1]; exact h
  by_cases c2 : fX7_in_v d.toInt64 1 5 = 0
  · rw [if_neg c1, if_pos c2]; exact h
  by_cases c3 : d ≤ 5 - N (12 + 7 * a.toNatClampNeg + 2)
  · rw [if_neg c1, if_neg c2, if_pos c3]
    have hl := seg_lt hN c1
    rw [w_15] at c2
    obtain ⟨hd, h1⟩ := wi_nn (lo := 1) (hi := 5) c2 (by decide) (by decide)
    obtain ⟨l1, l2⟩ := lim_ok hN hl.2.1 hd h1 c3
    exact gd_limit hN h hl.1 l1 l2
  · rw [if_neg c1, if_neg c2, if_neg c3]; exact h
theorem gd_set (hN : PI u N) (h : GD N) (a d : Int32) : GD (n_set N a d) := by
  unfold n_set
  by_cases c1 : fX7_isSetting_v a d = 0
  · rw [if_pos c1]; exact h
  rw [if_neg c1]
  have ha : 5 ≤ a.toNatClampNeg ∧ a.toNatClampNeg ≤ 8 := by
    unfold fX7_isSetting_v at c1
    by_cases q5 : a = 5
    · rw [q5]; decide
    by_cases q6 : a = 6
    · rw [q6]; decide
    by_cases q7 : a = 7
    · rw [q7]; decide
    by_cases q8 : a = 8
    · rw [q8]; decide
    rw [if_neg q5, if_neg q6, if_neg q7, if_neg q8] at c1
    exact absurd rfl c1
  exact h.cong hN (pk_un (by omega)) (pk_un (by omega)) (pk_un (by omega)) (fun s hs => ⟨pk_un (by omega), pk_un (by omega), pk_un (by omega)⟩) (fun i hi => ⟨pk_un (by omega), pk_un (by omega), pk_un (by omega)⟩)
theorem gd_driveOn (hN : PI u N) (h : GD N) (i : Nat) (d : Int32) : GD (fX7_driveOn_P N i d) := by
  unfold fX7_driveOn_P
  split
  · exact h.cong hN ((pk_un (by omega)).trans (pk_un (by omega))) ((pk_un (by omega)).trans (pk_un (by omega))) ((pk_un (by omega)).trans (pk_un (by omega))) (fun s hs => ⟨(pk_un (by omega)).trans (pk_un (by omega)), (pk_un (by omega)).trans (pk_un (by omega)), (pk_un (by omega)).trans (pk_un (by omega))⟩) (fun i hi => ⟨(pk_un (by omega)).trans (pk_un (by omega)), (pk_un (by omega)).trans (pk_un (by omega)), (pk_un (by omega)).trans (pk_un (by omega))⟩)
  · exact h
theorem gd_drive (hN : PI u N) (h : GD N) (a d : Int32) : GD (n_drive N a d) := by
  unfold n_drive
  (repeat' split) <;> first | exact h | exact gd_driveOn hN h _ _
theorem gd_sprayOn (hN : PI u N) (h : GD N) {i : Nat} (hi : i < 3) (d : Int32) : GD (fX7_sprayOn_P N i d) := by
  have hs := Nat.lt_of_lt_of_le (hN.2.2.2 i hi) hN.s10.2
  rw [spS_ref N hi hs rfl d]
  generalize (N (122 + 3 * i)).toNatClampNeg = s at hs ⊢
  (repeat' split)
  · exact h
  · have e : ∀ j, j < 122 → j ≠ 11 → j ≠ 12 + 7 * s + 4 → spS N i s d j = N j := fun j h1 h2 h3 => by unfold spS; simp (disch := omega) only [pk_un]
    exact h.cong hN (e 0 (by omega) (by omega) (by omega)) (e 1 (by omega) (by omega) (by omega)) (e 10 (by omega) (by omega) (by omega)) (fun s hs => ⟨e _ (by omega) (by omega) (by omega), e _ (by omega) (by omega) (by omega), e _ (by omega) (by omega) (by omega)⟩) (fun i hi => ⟨e _ (by omega) (by omega) (by omega), e _ (by omega) (by omega) (by omega), e _ (by omega) (by omega) (by omega)⟩)
  · exact h
theorem gd_spray (hN : PI u N) (h : GD N) (a d : Int32) : GD (n_spray N a d) := by
  unfold n_spray
  by_cases c1 : fX7_isWagon_v N a = 0
  · rw [if_pos c1]; exact h
  rw [if_neg c1]
  (repeat' split) <;> first | exact h | exact gd_sprayOn hN h (wag_lt hN c1).2 d
theorem gd_fill (hN : PI u N) (h : GD N) (a : Int32) : GD (n_fill N a) := by
  unfold n_fill
  by_cases c1 : fX7_isWagon_v N a = 0
  · rw [if_pos c1]; exact h
  by_cases c2 : fX7_why_v N a.toNatClampNeg = 0
  · rw [if_neg c1, if_pos c2, fiS_ref N (wag_lt hN c1).2]
    have e : ∀ j, j < 122 → j ≠ 9 → fiS N a.toNatClampNeg (fX7_fillOn_v N a.toNatClampNeg) j = N j := fun j h1 h2 => by unfold fiS; simp (disch := omega) only [pk_un]
    exact h.cong hN (e 0 (by omega) (by omega)) (e 1 (by omega) (by omega)) (e 10 (by omega) (by omega)) (fun s hs => ⟨e _ (by omega) (by omega), e _ (by omega) (by omega), e _ (by omega) (by omega)⟩) (fun i hi => ⟨e _ (by omega) (by omega), e _ (by omega) (by omega), e _ (by omega) (by omega)⟩)
  · rw [if_neg c1, if_neg c2]; exact h
theorem gd_pass (hN : PI u N) (hu : 1998 * (u + 867) < 2 ^ 31) (h : GD N) (a : Int32) : GD (n_pass N a) := by
  unfold n_pass
  by_cases c1 : fX7_in_v a.toInt64 1 50 = 0
  · rw [if_pos c1]; exact h
  rw [if_neg c1]
  rw [w_150] at c1
  have hd := (wi_nn (lo := 1) (hi := 50) c1 (by decide) (by decide)).1.2
  exact pass_GD hN h _ (by omega)
end GDa
