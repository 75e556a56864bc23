/-! MATH: part 3 of an hour: complaints. -/
def cmS (N : Nat → Int32) (s : Nat) : Nat → Int32 := if remI (N (12 + 7 * s + 6) + 1) 3 = 0 then upd (upd (upd N (12 + 7 * s + 6) (N (12 + 7 * s + 6) + 1)) (12 + 7 * s + 2) (if N (12 + 7 * s + 2) + 1 < 4 then N (12 + 7 * s + 2) + 1 else 4)) (12 + 7 * s + 1) (if 5 - (if N (12 + 7 * s + 2) + 1 < 4 then N (12 + 7 * s + 2) + 1 else 4) < N (12 + 7 * s + 1) then 5 - (if N (12 + 7 * s + 2) + 1 < 4 then N (12 + 7 * s + 2) + 1 else 4) else N (12 + 7 * s + 1)) else upd N (12 + 7 * s + 6) (N (12 + 7 * s + 6) + 1)
theorem hear_eq (P : Nat → Int32) (s : Nat) : fX3_hearComplaint_P P s = cmS P s := by
  unfold fX3_hearComplaint_P cmS fX3_greatestLimit_v
  simp (disch := omega) only [pk_us, pk_un]
theorem complain_eq {N : Nat → Int32} {k : Nat} (hk : k < 8) {s : Nat} (hs : (N (82 + 5 * k)).toNatClampNeg = s) (h10 : s < 10) : fX7_complain_P N k = cmS (upd (upd N (82 + 5 * k + 3) (N (82 + 5 * k + 3) + 1)) 10 (N 10 + 1)) s := by
  unfold fX7_complain_P cmS
  simp (disch := omega) only [hs, pk_us, pk_un, less_min]
theorem cmS_Rl {P N : Nat → Int32} (h : Rl P N) {s : Nat} (hs : s < (N 0).toNatClampNeg) : Rl (cmS P s) (cmS N s) := by
  unfold cmS
  rw [h.sg hs (show 6 < 7 by decide) rfl, h.sg hs (show 2 < 7 by decide) rfl, h.sg hs (show 1 < 7 by decide) rfl]
  by_cases q : remI (N (12 + 7 * s + 6) + 1) 3 = 0
  · rw [if_pos q, if_pos q]
    exact ((h.up (by omega) rfl).up (by omega) rfl).up (by omega) rfl
  · rw [if_neg q, if_neg q]
    exact h.up (by omega) rfl
def gtS (N : Nat → Int32) (k : Nat) (g : Int32) : Nat → Int32 := upd (upd N (82 + 5 * k + 4) g) (82 + 5 * k + 2) (N (82 + 5 * k + 2) + g)
theorem reach_eq {P : Nat → Int32} {k s : Nat} (hk : k < 8) (hok : okI (P (82 + 5 * k)) (P 0) 10) (hs : (P (82 + 5 * k)).toNatClampNeg = s) : fX2_reachHouses_S P k = if fX2_dustFor_v P k < P 7 then gtS P k (fX2_dustFor_v P k) else cmS (upd (upd (gtS P k (fX2_dustFor_v P k)) 10 (P 10 + 1)) (82 + 5 * k + 3) (P (82 + 5 * k + 3) + 1)) s := by
  unfold fX2_reachHouses_S gtS
  rw [if_pos hok]
  simp (disch := omega) only [hs, hear_eq, pk_us, pk_un]
theorem hourH_eq {N : Nat → Int32} {k s : Nat} (hk : k < 8) (hs : (N (82 + 5 * k)).toNatClampNeg = s) (h10 : s < 10) : fX7_hourH_S N k = if fX7_gets_v N k < N 7 then gtS N k (fX7_gets_v N k) else cmS (upd (upd (gtS N k (fX7_gets_v N k)) (82 + 5 * k + 3) (N (82 + 5 * k + 3) + 1)) 10 (N 10 + 1)) s := by
  have e : (upd (upd N (82 + 5 * k + 4) (fX7_gets_v N k)) (82 + 5 * k + 2) (N (82 + 5 * k + 2) + fX7_gets_v N k) (82 + 5 * k)).toNatClampNeg = s := by
    rw [pk_un (by omega), pk_un (by omega)]; exact hs
  unfold fX7_hourH_S gtS
  simp (disch := omega) only [pk_us, pk_un]
  rw [complain_eq hk e h10]
  simp (disch := omega) only [pk_us, pk_un]
theorem gtS_Rl {P N : Nat → Int32} (h : Rl P N) {k : Nat} (hk : k < (N 1).toNatClampNeg) (g : Int32) : Rl (gtS P k g) (gtS N k g) := by
  unfold gtS
  rw [h.ho hk (show 2 < 5 by decide) rfl]
  exact (h.up (by omega) rfl).up (by omega) rfl
theorem PI.sh {u : Nat} {N : Nat → Int32} (h : PI u N) {k : Nat} (hk : k < 8) : (N (82 + 5 * k)).toNatClampNeg < 10 := Nat.lt_of_lt_of_le (h.2.2.1 k hk) h.s10.2
theorem PI.okh {u : Nat} {N : Nat → Int32} (h : PI u N) {k : Nat} (hk : k < 8) : okI (N (82 + 5 * k)) (N 0) 10 := by
  have h1 := h.nh hk 0 9 (by omega) rfl (j := 82 + 5 * k) rfl
  have h2 := h.2.2.1 k hk
  have h10 := h.s10.2
  rw [h1.1, h.s10.1]
  exact ⟨nI_pos' (by omega), nI_lt h2 (by omega), nI_lt (show _ < 10 by omega) (by decide)⟩
theorem reach_Rl {u : Nat} {P N : Nat → Int32} (h : Rl P N) (hN : PI u N) {k : Nat} (hk : k < (N 1).toNatClampNeg) : Rl (fX2_reachHouses_S P k) (fX7_hourH_S N k) := by
  have h8 := hN.h8.2
  have e0 : P (82 + 5 * k) = N (82 + 5 * k) := h.ho hk (show 0 < 5 by decide) rfl
  rw [reach_eq (by omega) (by rw [e0, h.hd (show 0 < 12 by decide)]; exact hN.okh (by omega)) (by rw [e0]), hourH_eq (by omega) rfl (hN.sh (by omega)), dustFor_Rl h hN.s10 hk (hN.nh (by omega) 1 9 (by omega) rfl rfl), h.hd (show 7 < 12 by decide), h.hd (show 10 < 12 by decide), h.ho hk (show 3 < 5 by decide) rfl]
  by_cases q : fX7_gets_v N k < N 7
  · rw [if_pos q, if_pos q]
    exact gtS_Rl h hk _
  · rw [if_neg q, if_neg q, upd_comm _ _ _ (show 82 + 5 * k + 3 ≠ 10 by omega)]
    refine cmS_Rl (((gtS_Rl h hk _).up (by omega) rfl).up (by omega) rfl) ?_
    unfold gtS
    simp (disch := omega) only [pk_un]
    exact hN.2.2.1 k (by omega)
theorem PI_cmS {u : Nat} {N : Nat → Int32} (h : PI u N) (hu : 1998 * (u + 1) < 2 ^ 31) {s : Nat} (hs : s < 10) : PI (u + 1) (cmS N s) := by
  have c6 : nn (u + 1) (N (12 + 7 * s + 6) + 1) := (h.ns hs 6 u (by omega) rfl rfl).add (nn.lit 1 (by decide)) (by omega)
  have c2 : nn 4 (if N (12 + 7 * s + 2) + 1 < 4 then N (12 + 7 * s + 2) + 1 else 4) := nn.min (k := 4) ((h.ns hs 2 4 (by omega) rfl rfl).add (nn.lit 1 (by decide)) (by decide)) (by decide) (by decide)
  have c1 := h.ns hs 1 5 (by omega) rfl rfl
  have hP := h.le (Nat.le_succ u)
  unfold cmS
  by_cases q : remI (N (12 + 7 * s + 6) + 1) 3 = 0
  · rw [if_pos q]
    refine ((hP.us hs 6 (u + 1) (by omega) rfl c6).us hs 2 4 (by omega) rfl c2).us hs 1 5 (by omega) rfl ?_
    by_cases z : 5 - (if N (12 + 7 * s + 2) + 1 < 4 then N (12 + 7 * s + 2) + 1 else 4) < N (12 + 7 * s + 1)
    · rw [if_pos z]; exact nn_5m c2
    · rw [if_neg z]; exact c1
  · rw [if_neg q]
    exact hP.us hs 6 (u + 1) (by omega) rfl c6
theorem PI_reach {u : Nat} {N : Nat → Int32} (h : PI u N) (hu : 1998 * (u + 2) < 2 ^ 31) {k : Nat} (hk : k < 8) : PI (u + 2) (fX7_hourH_S N k) := by
  have hg := gets_nn h hk
  have c2 : nn (1998 * (u + 1)) (N (82 + 5 * k + 2) + fX7_gets_v N k) := ((h.nh hk 2 (1998 * u) (by omega) rfl rfl).add hg (by omega)).le (by omega)
  have hP := h.le (Nat.le_succ u)
  have hG : PI (u + 1) (gtS N k (fX7_gets_v N k)) := (hP.uh hk 4 1998 (by omega) (by omega) rfl hg).uh hk 2 (1998 * (u + 1)) (by omega) (by omega) rfl c2
  rw [hourH_eq hk rfl (h.sh hk)]
  by_cases q : fX7_gets_v N k < N 7
  · rw [if_pos q]; exact hG.le (Nat.le_succ _)
  · rw [if_neg q]
    have c3 : nn (u + 1) (N (82 + 5 * k + 3) + 1) := (h.nh hk 3 u (by omega) rfl rfl).add (nn.lit 1 (by decide)) (by omega)
    have c10 : nn (u + 1) (N 10 + 1) := (h.n0 10 u (by omega) rfl).add (nn.lit 1 (by decide)) (by omega)
    exact PI_cmS ((hG.uh hk 3 (u + 1) (by omega) (by omega) rfl c3).u0 10 (u + 1) (by omega) (by omega) rfl c10) (by omega) (h.sh hk)
theorem hourH_hd {N : Nat → Int32} {k j : Nat} (hk : k < 8) (h10 : (N (82 + 5 * k)).toNatClampNeg < 10) (hj : j < 3) : fX7_hourH_S N k j = N j := by
  rw [hourH_eq hk rfl h10]
  generalize (N (82 + 5 * k)).toNatClampNeg = s at h10 ⊢
  unfold cmS gtS
  (repeat' split) <;> simp (disch := omega) only [pk_un]
theorem reachAll {u : Nat} {P N : Nat → Int32} (h : Rl P N) (hN : PI u N) (hu : 1998 * (u + 16) < 2 ^ 31) : ∀ k, k ≤ (N 1).toNatClampNeg → Rl (fX2_reachHouses_L P k) (fX7_hourH_L N k) ∧ PI (u + 2 * k) (fX7_hourH_L N k) ∧ (∀ j, j < 3 → fX7_hourH_L N k j = N j)
  | 0, _ => ⟨h, hN, fun _ _ => rfl⟩
  | k + 1, hk => by
    obtain ⟨a, b, c⟩ := reachAll h hN hu k (by omega)
    have h8 := hN.h8.2
    refine ⟨reach_Rl a b (by rw [c 1 (by omega)]; omega), PI_reach b (by omega) (by omega), fun j hj => ?_⟩
    exact (hourH_hd (by omega) (b.sh (by omega)) hj).trans (c j hj)
