/-! MATH: what a house gets in an hour; ahead, waterFor, limitFor, complainsIn. -/
/-- two pages with the same dust, houses at the same places -/
def sd (N N' : Nat → Int32) : Prop := N' 0 = N 0 ∧ (∀ s, s < 10 → N' (12 + 7 * s + 3) = N (12 + 7 * s + 3)) ∧ (∀ i, i < 8 → N' (82 + 5 * i) = N (82 + 5 * i) ∧ N' (82 + 5 * i + 1) = N (82 + 5 * i + 1))
theorem sd_dust {u : Nat} {N N' : Nat → Int32} (hN : PI u N) (h : sd N N') (a : Int32) : fX7_dustOf_v N' a = fX7_dustOf_v N a := by
  unfold fX7_dustOf_v fX7_isSegment_v
  rw [h.1]
  by_cases q : fX7_in_v a.toInt64 0 (N 0 - 1).toInt64 = 0
  · rw [if_pos q, if_pos q]
  · rw [if_neg q, if_neg q]
    have h2 := isPl hN.s10.1 (Nat.lt_of_le_of_lt hN.s10.2 (by decide)) q
    have h10 := hN.s10.2
    exact h.2.1 _ (by omega)
theorem sd_gets {u : Nat} {N N' : Nat → Int32} (hN : PI u N) (h : sd N N') {i : Nat} (hi : i < 8) : fX7_gets_v N' i = fX7_gets_v N i := by
  unfold fX7_gets_v
  rw [(h.2.2 i hi).1, (h.2.2 i hi).2, sd_dust hN h, sd_dust hN h, sd_dust hN h]
theorem sd_step {u : Nat} {N : Nat → Int32} (hN : PI u N) {k : Nat} (hk : k < 8) : sd N (fX7_hourH_S N k) := by
  have hs := hN.sh hk
  rw [hourH_eq hk rfl hs]
  generalize (N (82 + 5 * k)).toNatClampNeg = s at hs ⊢
  unfold cmS gtS
  refine ⟨?_, fun s' h' => ?_, fun i hi => ⟨?_, ?_⟩⟩
  all_goals (repeat' (refine fl_ite ?_ ?_)) <;> simp (disch := omega) only [pk_un]
theorem sd.trans {N N' N'' : Nat → Int32} (h : sd N N') (h2 : sd N' N'') : sd N N'' := ⟨h2.1.trans h.1, fun s hs => (h2.2.1 s hs).trans (h.2.1 s hs), fun i hi => ⟨(h2.2.2 i hi).1.trans (h.2.2 i hi).1, (h2.2.2 i hi).2.trans (h.2.2 i hi).2⟩⟩
theorem hs_off {u : Nat} {N : Nat → Int32} (hN : PI u N) {k i m : Nat} (hk : k < 8) (hi : i < 8) (hne : i ≠ k) (hm : m < 5) : fX7_hourH_S N k (82 + 5 * i + m) = N (82 + 5 * i + m) := by
  have hs := hN.sh hk
  rw [hourH_eq hk rfl hs]
  generalize (N (82 + 5 * k)).toNatClampNeg = s at hs ⊢
  unfold cmS gtS
  (repeat' (refine fl_ite ?_ ?_)) <;> simp (disch := omega) only [pk_un]
theorem hs_4 {u : Nat} {N : Nat → Int32} (hN : PI u N) {k : Nat} (hk : k < 8) : fX7_hourH_S N k (82 + 5 * k + 4) = fX7_gets_v N k := by
  have hs := hN.sh hk
  rw [hourH_eq hk rfl hs]
  generalize (N (82 + 5 * k)).toNatClampNeg = s at hs ⊢
  unfold cmS gtS
  (repeat' (refine fl_ite ?_ ?_)) <;> simp (disch := omega) only [pk_us, pk_un]
theorem hs_3 {u : Nat} {N : Nat → Int32} (hN : PI u N) {k : Nat} (hk : k < 8) : fX7_hourH_S N k (82 + 5 * k + 3) = if fX7_gets_v N k < N 7 then N (82 + 5 * k + 3) else N (82 + 5 * k + 3) + 1 := by
  have hs := hN.sh hk
  rw [hourH_eq hk rfl hs]
  generalize (N (82 + 5 * k)).toNatClampNeg = s at hs ⊢
  by_cases q : fX7_gets_v N k < N 7
  · rw [if_pos q, if_pos q]
    unfold gtS
    simp (disch := omega) only [pk_un]
  · rw [if_neg q, if_neg q]
    unfold cmS gtS
    (repeat' (refine fl_ite ?_ ?_)) <;> simp (disch := omega) only [pk_us, pk_un]
theorem hs_2 {u : Nat} {N : Nat → Int32} (hN : PI u N) {k : Nat} (hk : k < 8) : fX7_hourH_S N k (82 + 5 * k + 2) = N (82 + 5 * k + 2) + fX7_gets_v N k := by
  have hs := hN.sh hk
  rw [hourH_eq hk rfl hs]
  generalize (N (82 + 5 * k)).toNatClampNeg = s at hs ⊢
  unfold cmS gtS
  (repeat' (refine fl_ite ?_ ?_)) <;> simp (disch := omega) only [pk_us, pk_un]
theorem hs_7 {u : Nat} {N : Nat → Int32} (hN : PI u N) {k j : Nat} (hk : k < 8) (hj : j < 12) (h10 : j ≠ 10) : fX7_hourH_S N k j = N j := by
  have hs := hN.sh hk
  rw [hourH_eq hk rfl hs]
  generalize (N (82 + 5 * k)).toNatClampNeg = s at hs ⊢
  unfold cmS gtS
  (repeat' (refine fl_ite ?_ ?_)) <;> simp (disch := omega) only [pk_un]
/-- the houses' part of an hour, house by house -/
theorem hH_all {u : Nat} {N : Nat → Int32} (hN : PI u N) (hu : 1998 * (u + 16) < 2 ^ 31) : ∀ k, k ≤ (N 1).toNatClampNeg → sd N (fX7_hourH_L N k) ∧ (∀ j, j < 12 → j ≠ 10 → fX7_hourH_L N k j = N j) ∧ (∀ i, i < 8 → k ≤ i → ∀ m, m < 5 → fX7_hourH_L N k (82 + 5 * i + m) = N (82 + 5 * i + m)) ∧ (∀ i, i < k → fX7_hourH_L N k (82 + 5 * i + 4) = fX7_gets_v N i ∧ fX7_hourH_L N k (82 + 5 * i + 3) = (if fX7_gets_v N i < N 7 then N (82 + 5 * i + 3) else N (82 + 5 * i + 3) + 1) ∧ fX7_hourH_L N k (82 + 5 * i + 2) = N (82 + 5 * i + 2) + fX7_gets_v N i)
  | 0, _ => ⟨⟨rfl, fun _ _ => rfl, fun _ _ => ⟨rfl, rfl⟩⟩, fun _ _ _ => rfl, fun _ _ _ _ _ => rfl, fun i hi => absurd hi (Nat.not_lt_zero _)⟩
  | k + 1, hk => by
    have h8 := hN.h8.2
    obtain ⟨a, b, c, d⟩ := hH_all hN hu k (by omega)
    have p := (reachAll (P := N) (fun _ _ => rfl) hN hu k (by omega)).2.1
    have hk8 : k < 8 := by omega
    have g : fX7_gets_v (fX7_hourH_L N k) k = fX7_gets_v N k := sd_gets hN a hk8
    refine ⟨a.trans (sd_step p hk8), fun j hj h10 => ?_, fun i hi hik m hm => ?_, fun i hi => ?_⟩
    · exact (hs_7 p hk8 hj h10).trans (b j hj h10)
    · exact (hs_off p hk8 hi (by omega) hm).trans (c i hi (by omega) m hm)
    · by_cases q : i = k
      · subst q
        refine ⟨(hs_4 p hk8).trans g, ?_, ?_⟩
        · refine (hs_3 p hk8).trans ?_
          rw [g, b 7 (by omega) (by omega), c i hk8 (Nat.le_refl _) 3 (by omega)]
        · refine (hs_2 p hk8).trans ?_
          rw [g, c i hk8 (Nat.le_refl _) 2 (by omega)]
      · obtain ⟨d1, d2, d3⟩ := d i (by omega)
        exact ⟨(hs_off p hk8 (by omega) q (by omega)).trans d1, (hs_off p hk8 (by omega) q (by omega)).trans d2, (hs_off p hk8 (by omega) q (by omega)).trans d3⟩
theorem dayS_hi (N : Nat → Int32) {j : Nat} (hj : 12 ≤ j) : dayS N j = N j := by
  unfold dayS
  refine fl_ite ?_ ?_ <;> simp (disch := omega) only [pk_un]
theorem raise_hi (N : Nat → Int32) (h10 : (N 0).toNatClampNeg ≤ 10) {j : Nat} (hj : 82 ≤ j) : fX7_raise_P (fX7_dry_P N) j = N j := by
  have z0 : fX7_dry_P N 0 = N 0 := fX7_dry_L0 N 0 (by omega) _
  exact ((rai_L (fX7_dry_P N) _).1 j (fun k hk => by rw [z0] at hk; omega)).trans ((dry_L N _).1 j (fun k hk => by omega))
theorem raise_hd (N : Nat → Int32) {j : Nat} (hj : j < 12) : fX7_raise_P (fX7_dry_P N) j = N j := (fX7_raise_L0 _ j hj _).trans (fX7_dry_L0 N j hj _)
/-- what an hour does to a house -/
theorem hour_house {u : Nat} {N : Nat → Int32} (hN : PI u N) (hu : 1998 * (u + 17) < 2 ^ 31) {i : Nat} (hi : i < (N 1).toNatClampNeg) : fX7_hourOn_P N (82 + 5 * i + 4) = fX7_gets_v (fX7_raise_P (fX7_dry_P N)) i ∧ fX7_hourOn_P N (82 + 5 * i + 3) = (if fX7_gets_v (fX7_raise_P (fX7_dry_P N)) i < N 7 then N (82 + 5 * i + 3) else N (82 + 5 * i + 3) + 1) ∧ fX7_hourOn_P N (82 + 5 * i + 2) = N (82 + 5 * i + 2) + fX7_gets_v (fX7_raise_P (fX7_dry_P N)) i := by
  have p1 := PI_rise hN
  have e1 : fX7_raise_P (fX7_dry_P N) 1 = N 1 := raise_hd N (by omega)
  have h8 := hN.h8.2
  have s10 := hN.s10.2
  obtain ⟨a, b, -, d⟩ := hH_all p1 (by omega) _ (Nat.le_refl _)
  obtain ⟨d1, d2, d3⟩ := d i (by rw [e1]; exact hi)
  rw [raise_hd N (show 7 < 12 by omega), raise_hi N s10 (show 82 ≤ 82 + 5 * i + 3 by omega)] at d2
  rw [raise_hi N s10 (show 82 ≤ 82 + 5 * i + 2 by omega)] at d3
  have key : ∀ m, 1 ≤ m → m < 5 → fX7_hourOn_P N (82 + 5 * i + m) = fX7_hourH_L (fX7_raise_P (fX7_dry_P N)) (fX7_raise_P (fX7_dry_P N) 1).toNatClampNeg (82 + 5 * i + m) := by
    intro m h1 hm
    have p2 := (reachAll (P := fX7_raise_P (fX7_dry_P N)) (fun _ _ => rfl) p1 (by omega) _ (Nat.le_refl _)).2.1
    rw [hourOn_eq]
    generalize fX7_hourH_L (fX7_raise_P (fX7_dry_P N)) (fX7_raise_P (fX7_dry_P N) 1).toNatClampNeg = N2 at p2 ⊢
    have q10 := p2.s10.2
    rw [show fX7_hourW_L (dayS (fX7_hourS_L N2 (N2 0).toNatClampNeg)) (dayS (fX7_hourS_L N2 (N2 0).toNatClampNeg) 2).toNatClampNeg (82 + 5 * i + m) = dayS (fX7_hourS_L N2 (N2 0).toNatClampNeg) (82 + 5 * i + m) from (hW_L _ _).1 _ (fun k _ => by omega), dayS_hi _ (by omega)]
    exact (hS_L N2 _).1 _ (fun k hk => by omega)
  exact ⟨(key 4 (by omega) (by omega)).trans d1, (key 3 (by omega) (by omega)).trans d2, (key 2 (by omega) (by omega)).trans d3⟩
theorem hour_hd {u : Nat} {N : Nat → Int32} (hN : PI u N) (hu : 1998 * (u + 17) < 2 ^ 31) {j : Nat} (hj : j < 12) (h : j ≠ 3 ∧ j ≠ 4 ∧ j ≠ 9 ∧ j ≠ 10) : fX7_hourOn_P N j = N j := by
  have p1 := PI_rise hN
  obtain ⟨a, b, -, d⟩ := hH_all p1 (by omega) _ (Nat.le_refl _)
  have b' := (b j hj h.2.2.2).trans (raise_hd N hj)
  rw [hourOn_eq]
  generalize fX7_hourH_L (fX7_raise_P (fX7_dry_P N)) (fX7_raise_P (fX7_dry_P N) 1).toNatClampNeg = N2 at b' ⊢
  rw [show fX7_hourW_L (dayS (fX7_hourS_L N2 (N2 0).toNatClampNeg)) (dayS (fX7_hourS_L N2 (N2 0).toNatClampNeg) 2).toNatClampNeg j = dayS (fX7_hourS_L N2 (N2 0).toNatClampNeg) j from (hW_L _ _).1 _ (fun k _ => by omega)]
  have e : dayS (fX7_hourS_L N2 (N2 0).toNatClampNeg) j = fX7_hourS_L N2 (N2 0).toNatClampNeg j := by
    obtain ⟨h3, h4, h9, h10⟩ := h
    unfold dayS
    refine fl_ite ?_ ?_ <;> simp (disch := omega) only [pk_un]
  rw [e]
  exact ((hS_L N2 _).1 _ (fun k hk => by omega)).trans b'
theorem ahead_pass (P : Nat → Int32) : ∀ k, fX7_ahead_L P k = fX7_pass_L P k
  | 0 => rfl
  | k + 1 => by unfold fX7_ahead_L fX7_pass_L fX7_ahead_S fX7_pass_S; rw [ahead_pass P k]
theorem pass_s (P : Nat → Int32) (k : Nat) : fX7_pass_L P (k + 1) = fX7_hourOn_P (fX7_pass_L P k) := rfl
theorem pass_hd {u : Nat} {N : Nat → Int32} (hN : PI u N) {j : Nat} (hj : j < 12) (h : j ≠ 3 ∧ j ≠ 4 ∧ j ≠ 9 ∧ j ≠ 10) : ∀ k, 1998 * (u + 17 * k) < 2 ^ 31 → fX7_pass_L N k j = N j
  | 0, _ => rfl
  | k + 1, hk => by
    have p := (pass_10 hN k (by omega)).2
    rw [pass_s, hour_hd p (by omega) hj h]
    exact pass_hd hN hj h k (by omega)
/-- the least number below n, or n -/
theorem bsearch (C : Nat → Prop) : ∀ n, ∃ kx, kx ≤ n ∧ (∀ j, j < kx → ¬ C j) ∧ (kx < n → C kx)
  | 0 => ⟨0, Nat.le_refl _, fun j hj => absurd hj (Nat.not_lt_zero _), fun h => absurd h (Nat.lt_irrefl _)⟩
  | n + 1 => by
    obtain ⟨kx, h1, h2, h3⟩ := bsearch C n
    by_cases q : kx < n
    · exact ⟨kx, by omega, h2, fun _ => h3 q⟩
    · have e : kx = n := by omega
      subst e
      by_cases c : C kx
      · exact ⟨kx, by omega, h2, fun _ => c⟩
      · refine ⟨kx + 1, Nat.le_refl _, fun j hj => ?_, fun h => absurd h (Nat.lt_irrefl _)⟩
        by_cases z : j = kx
        · subst z; exact c
        · exact h2 j (by omega)
def rfAhd (N : Nat → Int32) (a d : Int32) : Nat := if fX7_isHouse_v N a = 0 then 1 else if fX7_in_v d.toInt64 1 20 = 0 then 2 else 0
theorem ma_ahead {u : Nat} {P N : Nat → Int32} (h : PG u P N) (hu : 1998 * (u + 850) < 2 ^ 31) (Q V : Nat → Int32) {a d : Int32} (h1 : okI a (N 1) 8) (h2 : ¬ fX6_within_v d 1 20 = 0) : fX2_goHours_P (fX2_copyFrom_P P Q) d (82 + 5 * a.toNatClampNeg + 4) = fX7_ahead_L (fX7_copyPage_P N V 0 0) d.toNatClampNeg (82 + 5 * a.toNatClampNeg + 4) := by
  obtain ⟨hd, -⟩ := wi_nn (lo := 1) (hi := 20) h2 (by decide) (by decide)
  have hd2 := hd.2
  obtain ⟨-, hi⟩ := h1.nn h.2.1.h8 (by decide)
  have c := h.copy Q V
  obtain ⟨r1, r2⟩ := hours_Rl c.1 c.2.1 d.toNatClampNeg (by omega)
  have e1 : ¬ fX6_within_v d 1 50 = 0 := by
    have hd1 := (wi_nn (lo := 1) (hi := 20) h2 (by decide) (by decide)).2
    unfold fX6_within_v
    rw [hd.1, if_neg (show ¬ nI d.toNatClampNeg < 1 from nI_nlt (a := d.toNatClampNeg) (b := 1) hd1 (by omega)), if_neg (show ¬ 50 < nI d.toNatClampNeg from nI_nlt (a := 50) (b := d.toNatClampNeg) (by omega) (by omega))]
    decide
  unfold fX2_goHours_P
  rw [if_neg e1, ahead_pass]
  have e2 : (fX7_pass_L (fX7_copyPage_P N V 0 0) d.toNatClampNeg 1) = N 1 := (pass_hd c.2.1 (by omega) (by omega) _ (by omega)).trans (rcp0 N V (by omega))
  exact r1.ho (by rw [e2]; exact hi) (show 4 < 5 by decide) rfl
