/-! MATH: an hour keeps the numbers well; complaints along the hours. -/
set_option maxRecDepth 16384
theorem hs_10 {u : Nat} {N : Nat → Int32} (hN : PI u N) {k : Nat} (hk : k < 8) : fX7_hourH_S N k 10 = if fX7_gets_v N k < N 7 then N 10 else N 10 + 1 := by
  have hs := hN.sh hk
  rw [hourH_eq hk rfl hs]
  generalize (N (82 + 5 * k)).toNatClampNeg = s at hs ⊢
  by_cases q : fX7_gets_v N k < N 7
  · rw [if_pos q, if_pos q]
    unfold gtS
    simp (disch := omega) only [pk_un]
  · rw [if_neg q, if_neg q]
    unfold cmS
    split <;> simp (disch := omega) only [pk_us, pk_un]
theorem hH_GD {u : Nat} {N : Nat → Int32} (hN : PI u N) (hu : 1998 * (u + 20) < 2 ^ 31) (h : GD N) : ∀ k, k ≤ (N 1).toNatClampNeg → GD (fX7_hourH_L N k)
  | 0, _ => h
  | k + 1, hk => by
    have b1 := hN.h8.2
    have g := hH_GD hN hu h k (by omega)
    obtain ⟨r, p, hd⟩ := reachAll (P := N) (fun _ _ => rfl) hN (by omega) k (by omega)
    show GD (fX7_hourH_S (fX7_hourH_L N k) k)
    have k8 : k < 8 := by omega
    clear r
    generalize fX7_hourH_L N k = X at g p hd ⊢
    have k1 : k < (X 1).toNatClampNeg := by rw [hd 1 (by decide)]; omega
    have gn := gets_nn p k8
    have sg := p.2.2.1 k k8
    rw [hourH_eq k8 rfl (p.sh k8)]
    have g2 := gtS_GD p (by omega) g k8 gn
    by_cases q : fX7_gets_v X k < X 7
    · rw [if_pos q]; exact g2
    · rw [if_neg q]
      generalize fX7_gets_v X k = y at gn g2 ⊢
      have e0 : gtS X k y 0 = X 0 := by unfold gtS; simp (disch := omega) only [pk_un]
      have e1 : gtS X k y 1 = X 1 := by unfold gtS; simp (disch := omega) only [pk_un]
      have e3 : gtS X k y (82 + 5 * k + 3) = X (82 + 5 * k + 3) := by unfold gtS; simp (disch := omega) only [pk_un]
      have e10 : gtS X k y 10 = X 10 := by unfold gtS; simp (disch := omega) only [pk_un]
      have pY : PI (u + 2 * k + 1) (gtS X k y) := by
        unfold gtS
        have a1 := p.nh k8 2 (1998 * (u + 2 * k)) (by omega) rfl rfl
        exact ((p.le (show u + 2 * k ≤ u + 2 * k + 1 by omega)).uh k8 4 1998 (by omega) (by omega) rfl gn).uh k8 2 (1998 * (u + 2 * k + 1)) (by omega) (by omega) rfl ((a1.add gn (by omega)).le (by omega))
      have := cmS_GD pY (by omega) g2 (k := k) (s := (X (82 + 5 * k)).toNatClampNeg) (by rw [e1]; exact k1) (by rw [e0]; exact sg)
      rw [e3, e10] at this
      exact this
theorem raiL_off (P : Nat → Int32) {j : Nat} (h : ∀ i, j ≠ 12 + 7 * i + 3) : ∀ k, fX7_raise_L P k j = P j
  | 0 => rfl
  | k + 1 => by
    show fX7_raise_S (fX7_raise_L P k) k j = P j
    unfold fX7_raise_S
    rw [pk_un (h k)]
    exact raiL_off P h k
theorem dryL_off (P : Nat → Int32) {j : Nat} (h : ∀ i, j ≠ 12 + 7 * i + 4) : ∀ k, fX7_dry_L P k j = P j
  | 0 => rfl
  | k + 1 => by
    show fX7_dry_S (fX7_dry_L P k) k j = P j
    have ih := dryL_off P h k
    unfold fX7_dry_S
    have hk := h k
    (repeat' split) <;> rw [pk_un hk, ih]
theorem hSL_off (P : Nat → Int32) {j : Nat} (h : ∀ i, i < 10 → j ≠ 12 + 7 * i + 3) : ∀ k, k ≤ 10 → fX7_hourS_L P k j = P j
  | 0, _ => rfl
  | k + 1, hk => by
    show fX7_hourS_S (fX7_hourS_L P k) k j = P j
    unfold fX7_hourS_S
    rw [pk_un (h k (by omega))]
    exact hSL_off P h k (by omega)
theorem rise_sg (N : Nat → Int32) {s m : Nat} (hm : m < 7) (h3 : m ≠ 3) (h4 : m ≠ 4) : fX7_raise_P (fX7_dry_P N) (12 + 7 * s + m) = N (12 + 7 * s + m) := (raiL_off (fX7_dry_P N) (fun i => by omega) _).trans (dryL_off N (fun i => by omega) _)
theorem hour_GD {u : Nat} {N : Nat → Int32} (hN : PI u N) (hu : 1998 * (u + 20) < 2 ^ 31) (h : GD N) : GD (fX7_hourOn_P N) := by
  have p1 := PI_rise hN
  have s10 := hN.s10.2
  have g1 : GD (fX7_raise_P (fX7_dry_P N)) := h.cong hN (raise_hd N (by decide)) (raise_hd N (by decide)) (raise_hd N (by decide)) (fun s hs => ⟨rise_sg N (by decide) (by decide) (by decide), rise_sg N (by decide) (by decide) (by decide), rise_sg N (by decide) (by decide) (by decide)⟩) (fun i hi => ⟨raise_hi N s10 (by omega), raise_hi N s10 (by omega), raise_hi N s10 (by omega)⟩)
  have g2 := hH_GD p1 hu g1 _ (Nat.le_refl _)
  have p2 := (reachAll (P := fX7_raise_P (fX7_dry_P N)) (fun _ _ => rfl) p1 (by omega) _ (Nat.le_refl _)).2.1
  rw [hourOn_eq]
  generalize fX7_hourH_L (fX7_raise_P (fX7_dry_P N)) (fX7_raise_P (fX7_dry_P N) 1).toNatClampNeg = X at g2 p2 ⊢
  have e : ∀ j, j < 122 → j ≠ 3 → j ≠ 4 → j ≠ 9 → (∀ i, i < 10 → j ≠ 12 + 7 * i + 3) → fX7_hourW_L (dayS (fX7_hourS_L X (X 0).toNatClampNeg)) (dayS (fX7_hourS_L X (X 0).toNatClampNeg) 2).toNatClampNeg j = X j := by
    intro j h1 h3 h4 h9 h7
    rw [(hW_L _ _).1 j (fun k _ => by omega), ← hSL_off X h7 (X 0).toNatClampNeg p2.s10.2]
    generalize fX7_hourS_L X (X 0).toNatClampNeg = Y
    unfold dayS
    refine fl_ite ?_ ?_ <;> simp (disch := omega) only [pk_un]
  exact g2.cong p2 (e 0 (by omega) (by omega) (by omega) (by omega) (fun i _ => by omega)) (e 1 (by omega) (by omega) (by omega) (by omega) (fun i _ => by omega)) (e 10 (by omega) (by omega) (by omega) (by omega) (fun i _ => by omega)) (fun s hs => ⟨e _ (by omega) (by omega) (by omega) (by omega) (fun i _ => by omega), e _ (by omega) (by omega) (by omega) (by omega) (fun i _ => by omega), e _ (by omega) (by omega) (by omega) (by omega) (fun i _ => by omega)⟩) (fun i hi => ⟨e _ (by omega) (by omega) (by omega) (by omega) (fun i _ => by omega), e _ (by omega) (by omega) (by omega) (by omega) (fun i _ => by omega), e _ (by omega) (by omega) (by omega) (by omega) (fun i _ => by omega)⟩)
theorem pass_PI {u : Nat} {N : Nat → Int32} (hN : PI u N) (k : Nat) (hk : 1998 * (u + 17 * k) < 2 ^ 31) : PI (u + 17 * k) (fX7_pass_L N k) := (pass_10 hN k hk).2
theorem pass_GD {u : Nat} {N : Nat → Int32} (hN : PI u N) (h : GD N) : ∀ k, 1998 * (u + 17 * k + 3) < 2 ^ 31 → GD (fX7_pass_L N k)
  | 0, _ => h
  | k + 1, hk => by
    rw [pass_s]
    exact hour_GD (pass_PI hN k (by omega)) (by omega) (pass_GD hN h k (by omega))
/-- a house's complaints, an hour on -/
theorem hour_c3 {u : Nat} {N : Nat → Int32} (hN : PI u N) (hu : 1998 * (u + 17) < 2 ^ 31) {i : Nat} (hi : i < (N 1).toNatClampNeg) : fX7_hourOn_P N (82 + 5 * i + 3) = if fX7_hourOn_P N (82 + 5 * i + 4) < N 7 then N (82 + 5 * i + 3) else N (82 + 5 * i + 3) + 1 := by
  obtain ⟨a, b, -⟩ := hour_house hN hu hi
  rw [a]
  exact b
/-- who complains is counted -/
theorem hour_10s {u : Nat} {N : Nat → Int32} (hN : PI u N) (hu : 1998 * (u + 17) < 2 ^ 31) {i : Nat} (hi : i < (N 1).toNatClampNeg) (hc : ¬ fX7_hourOn_P N (82 + 5 * i + 4) < N 7) : (N 10).toNatClampNeg < (fX7_hourOn_P N 10).toNatClampNeg := by
  have p1 := PI_rise hN
  have e1 : fX7_raise_P (fX7_dry_P N) 10 = N 10 := raise_hd N (by decide)
  have e7 : fX7_raise_P (fX7_dry_P N) 7 = N 7 := raise_hd N (by decide)
  have e11 : fX7_raise_P (fX7_dry_P N) 1 = N 1 := raise_hd N (by decide)
  rw [(hour_house hN hu hi).1] at hc
  have h8 := p1.h8.2
  have key : ∀ k, k ≤ (fX7_raise_P (fX7_dry_P N) 1).toNatClampNeg → (N 10).toNatClampNeg ≤ (fX7_hourH_L (fX7_raise_P (fX7_dry_P N)) k 10).toNatClampNeg ∧ (i < k → (N 10).toNatClampNeg < (fX7_hourH_L (fX7_raise_P (fX7_dry_P N)) k 10).toNatClampNeg) := by
    intro k
    induction k with
    | zero => intro _; exact ⟨by show _ ≤ (fX7_raise_P (fX7_dry_P N) 10).toNatClampNeg; rw [e1]; exact Nat.le_refl _, fun q => absurd q (Nat.not_lt_zero i)⟩
    | succ k ih =>
      intro hk
      obtain ⟨a, b, -, -⟩ := hH_all p1 (by omega) k (by omega)
      have p := (reachAll (P := fX7_raise_P (fX7_dry_P N)) (fun _ _ => rfl) p1 (by omega) k (by omega)).2.1
      have m := hourH_10 p (by omega) (k := k) (by omega)
      obtain ⟨i1, i2⟩ := ih (by omega)
      refine ⟨Nat.le_trans i1 m, fun q => ?_⟩
      by_cases z : i = k
      · subst z
        have g : fX7_gets_v (fX7_hourH_L (fX7_raise_P (fX7_dry_P N)) i) i = fX7_gets_v (fX7_raise_P (fX7_dry_P N)) i := sd_gets p1 a (by omega)
        show _ < (fX7_hourH_S (fX7_hourH_L (fX7_raise_P (fX7_dry_P N)) i) i 10).toNatClampNeg
        rw [hs_10 p (by omega), g, b 7 (by decide) (by decide), e7, if_neg hc]
        have h10 := p.n0 10 (u + 2 * i) (by omega) rfl
        have b10 := h10.2
        rw [h10.1, nI_1, nI_clamp (by omega)]
        omega
      · exact Nat.lt_of_lt_of_le (i2 (by omega)) m
  have k1 := (key _ (Nat.le_refl _)).2 (by rw [e11]; exact hi)
  rw [hourOn_eq]
  generalize fX7_hourH_L (fX7_raise_P (fX7_dry_P N)) (fX7_raise_P (fX7_dry_P N) 1).toNatClampNeg = N2 at k1 ⊢
  have e3 : fX7_hourS_L N2 (N2 0).toNatClampNeg 10 = N2 10 := (hS_L N2 _).1 10 (fun k _ => by omega)
  generalize fX7_hourS_L N2 (N2 0).toNatClampNeg = N3 at e3 ⊢
  have e4 : dayS N3 10 = N3 10 := by
    unfold dayS
    split <;> simp (disch := omega) only [pk_un]
  rw [show fX7_hourW_L (dayS N3) (dayS N3 2).toNatClampNeg 10 = dayS N3 10 from (hW_L _ _).1 10 (fun k _ => by omega), e4, e3]
  exact k1
section PassC
variable {u : Nat} {N : Nat → Int32} {i : Nat}
theorem pass_c (hN : PI u N) (hi : i < (N 1).toNatClampNeg) (h : Nat) (hu : 1998 * (u + 17 * (h + 1)) < 2 ^ 31) : (fX7_pass_L N (h + 1) (82 + 5 * i + 3) = if fX7_pass_L N (h + 1) (82 + 5 * i + 4) < N 7 then fX7_pass_L N h (82 + 5 * i + 3) else fX7_pass_L N h (82 + 5 * i + 3) + 1) := by
  have p := pass_PI hN h (by omega)
  have e := hour_c3 p (by omega) (i := i) (by rw [pass_hd hN (j := 1) (by decide) (by decide) h (by omega)]; exact hi)
  rw [pass_hd hN (j := 7) (by decide) (by decide) h (by omega)] at e
  exact e
/-- no complaint up to then -/
theorem pass_c0 (hN : PI u N) (hi : i < (N 1).toNatClampNeg) (hu : 1998 * (u + 850) < 2 ^ 31) : ∀ h, h ≤ lst (CC N i) 50 → fX7_pass_L N h (82 + 5 * i + 3) = N (82 + 5 * i + 3)
  | 0, _ => rfl
  | h + 1, hh => by
    obtain ⟨s1, s2, -⟩ := lst_spec (CC N i) 50
    have c := s2 h (by omega)
    rw [pass_c hN hi h (by omega), if_pos (Decidable.of_not_not c)]
    exact pass_c0 hN hi hu h (by omega)
theorem pass_c1 (hN : PI u N) (hi : i < (N 1).toNatClampNeg) (hu : 1998 * (u + 850) < 2 ^ 31) (hk : lst (CC N i) 50 < 50) : fX7_pass_L N (lst (CC N i) 50 + 1) (82 + 5 * i + 3) = N (82 + 5 * i + 3) + 1 ∧ ¬ fX7_pass_L N (lst (CC N i) 50 + 1) (82 + 5 * i + 4) < N 7 := by
  obtain ⟨s1, -, s3⟩ := lst_spec (CC N i) 50
  have c := s3 hk
  rw [pass_c hN hi _ (by omega), if_neg c, pass_c0 hN hi hu _ (Nat.le_refl _)]
  exact ⟨rfl, c⟩
/-- complaints later on -/
theorem pass_c2 (hN : PI u N) (hi : i < (N 1).toNatClampNeg) (hu : 1998 * (u + 850) < 2 ^ 31) (h8 : i < 8) (hk : lst (CC N i) 50 < 50) : ∀ d, lst (CC N i) 50 + 1 + d ≤ 50 → (N (82 + 5 * i + 3)).toNatClampNeg < (fX7_pass_L N (lst (CC N i) 50 + 1 + d) (82 + 5 * i + 3)).toNatClampNeg
  | 0, _ => by
    have b := hN.nh h8 3 u (by omega) rfl rfl
    have b2 := b.2
    show _ < (fX7_pass_L N (lst (CC N i) 50 + 1) (82 + 5 * i + 3)).toNatClampNeg
    rw [(pass_c1 hN hi hu hk).1]
    conv => rhs; rw [b.1]
    rw [nI_1, nI_clamp (by omega)]
    omega
  | d + 1, hd => by
    have ih := pass_c2 hN hi hu h8 hk d (by omega)
    rw [show lst (CC N i) 50 + 1 + (d + 1) = (lst (CC N i) 50 + 1 + d) + 1 by omega, pass_c hN hi _ (by omega)]
    split
    · exact ih
    · have b := (pass_PI hN (lst (CC N i) 50 + 1 + d) (by omega)).nh h8 3 (u + 17 * (lst (CC N i) 50 + 1 + d)) (by omega) rfl rfl
      have b2 := b.2
      conv => rhs; rw [b.1]
      rw [nI_1, nI_clamp (by omega)]
      omega
theorem pass_10s (hN : PI u N) (hi : i < (N 1).toNatClampNeg) (hu : 1998 * (u + 867) < 2 ^ 31) (hk : lst (CC N i) 50 < 50) : (N 10).toNatClampNeg < (fX7_pass_L N (lst (CC N i) 50 + 1) 10).toNatClampNeg := by
  have c := (pass_c1 hN hi (by omega) hk).2
  have p := pass_10 hN (lst (CC N i) 50) (by omega)
  refine Nat.lt_of_le_of_lt p.1 ?_
  rw [pass_s] at c ⊢
  refine hour_10s p.2 (by omega) (i := i) ?_ ?_
  · rw [pass_hd hN (j := 1) (by decide) (by decide) _ (by omega)]; exact hi
  · rw [pass_hd hN (j := 7) (by decide) (by decide) _ (by omega)]; exact c
end PassC
theorem sub_pos {a b : Nat} {x y : Int32} (h : nn a x) (h2 : nn b y) (ha : a < 2 ^ 31) (hl : y.toNatClampNeg < x.toNatClampNeg) : ¬ x - y ≤ 0 ∧ ¬ x - y < 0 := by
  have b1 := h.2
  rw [h.1, h2.1]
  rw [pk_sub (by omega), show (0 : Int32) = nI 0 from rfl]
  exact ⟨nI_ge (by omega) (by omega), nI_nlt (Nat.zero_le _) (by omega)⟩
theorem sub_nneg {a b : Nat} {x y : Int32} (h : nn a x) (h2 : nn b y) (ha : a < 2 ^ 31) (hl : y.toNatClampNeg ≤ x.toNatClampNeg) : ¬ x - y < 0 := by
  have b1 := h.2
  rw [h.1, h2.1]
  rw [pk_sub (by omega), show (0 : Int32) = nI 0 from rfl]
  exact nI_nlt (Nat.zero_le _) (by omega)
