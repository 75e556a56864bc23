/-! MATH: chance, simulations. -/
theorem okI_nI {i n b : Nat} {x y : Int32} (hx : x = nI n) (hy : y = nI b) (hi : i < n) (hn : n ≤ b) (hb : b < 2 ^ 31) : okI (nI i) x y := by
  subst hx; subst hy
  exact ⟨nI_pos' (by omega), nI_lt hi (by omega), nI_lt (by omega) hb⟩
theorem mv_Rl {u : Nat} {P N : Nat → Int32} (h : Rl P N) (hN : PI u N) {i : Nat} (hi : i < (N 2).toNatClampNeg) {sg : Int32} (hs : nn 9 sg) (hl : sg.toNatClampNeg < (N 0).toNatClampNeg) : Rl (fX2_moveWagon_P P (nI i) sg) (fX7_driveOn_P N i sg) ∧ PI u (fX7_driveOn_P N i sg) ∧ (∀ j, j < 122 → fX7_driveOn_P N i sg j = N j) ∧ fX7_driveOn_P N i sg (122 + 3 * i + 1) = N (122 + 3 * i + 1) := by
  have w3 := hN.w3.2
  have s10 := hN.s10.2
  have ec : (nI i).toNatClampNeg = i := nI_clamp (by omega)
  have o1 : okI (nI i) (P 2) 3 := okI_nI (b := 3) (by rw [h.hd (show 2 < 12 by decide)]; exact hN.w3.1) rfl hi w3 (by decide)
  have o2 : okI sg (P 0) 10 := by
    rw [hs.1]
    exact okI_nI (b := 10) (by rw [h.hd (show 0 < 12 by decide)]; exact hN.s10.1) rfl hl s10 (by decide)
  have e0 : P (122 + 3 * i) = N (122 + 3 * i) := h.wa hi (show 0 < 3 by decide) rfl
  have ew := (way_far (P := P) (N := N) (i := i) e0 (hN.nw (i := i) (by omega) 0 9 (by omega) rfl rfl) hs).1
  unfold fX2_moveWagon_P fX7_driveOn_P
  rw [if_pos o1, if_pos o2, ec, ew, h.wa hi (show 2 < 3 by decide) rfl]
  by_cases q : fX7_far_v N i sg ≤ N (122 + 3 * i + 2)
  · simp only [if_pos q]
    obtain ⟨r1, r2, -⟩ := driveOn_Rl h hN hi hs hl q
    rw [h.wa hi (show 2 < 3 by decide) rfl] at r1
    exact ⟨r1, r2, fun j hj => by simp (disch := omega) only [pk_un], by simp (disch := omega) only [pk_un]⟩
  · simp only [if_neg q]
    exact ⟨h, hN, fun _ _ => trivial, trivial⟩
theorem sp_Rl {u : Nat} {P N : Nat → Int32} (h : Rl P N) (hN : PI u N) (hu : 9 * (u + 1) < 2 ^ 31) {i : Nat} (hi : i < (N 2).toNatClampNeg) {d : Int32} (hd : nn 9 d) (h1 : 1 ≤ d.toNatClampNeg) : Rl (fX2_sprayFrom_P P (nI i) d) (fX7_sprayOn_P N i d) ∧ PI (u + 1) (fX7_sprayOn_P N i d) ∧ (∀ j, (j < 11 ∨ (82 ≤ j ∧ j < 122)) → fX7_sprayOn_P N i d j = N j) := by
  have w3 := hN.w3.2
  have s10 := hN.s10.2
  have hi3 : i < 3 := by omega
  have ec : (nI i).toNatClampNeg = i := nI_clamp (by omega)
  have o1 : okI (nI i) (P 2) 3 := okI_nI (b := 3) (by rw [h.hd (show 2 < 12 by decide)]; exact hN.w3.1) rfl hi w3 (by decide)
  have e0 : P (122 + 3 * i) = N (122 + 3 * i) := h.wa hi (show 0 < 3 by decide) rfl
  have e1 := h.wa hi (show 1 < 3 by decide) rfl
  have e2 := h.wa hi (show 2 < 3 by decide) rfl
  have hm := hN.nw hi3 2 4 (by omega) rfl rfl
  have hsg := hN.2.2.2 _ hi3
  have o2 : okI (P (122 + 3 * i)) (P 0) 10 := by rw [e0, h.hd (show 0 < 12 by decide)]; exact hN.okw hi3
  have wi : ¬ fX6_within_v d 1 9 = 0 := by
    unfold fX6_within_v
    have := hd.2
    rw [hd.1, if_neg (show ¬ nI d.toNatClampNeg < 1 from nI_nlt (b := 1) h1 (by omega)), if_neg (show ¬ 9 < nI d.toNatClampNeg from nI_nlt (a := 9) (by omega) (by omega))]
    decide
  unfold fX2_sprayFrom_P
  rw [if_pos o1, ec, if_pos o2, if_neg wi, spS_ref N hi3 (show (N (122 + 3 * i)).toNatClampNeg < 10 by omega) rfl d]
  have cs := cs_eq (d := d) e0 e1 e2 hm
  by_cases q : fX5_couldSpray_v P i (P (122 + 3 * i)) d = 0
  · rw [if_pos q]
    have q' := q
    rw [cs] at q'
    have eN : (if N (122 + 3 * i + 2) = 0 then N else if d ≤ N (122 + 3 * i + 1) then spS N i (N (122 + 3 * i)).toNatClampNeg d else N) = N := by
      rcases q' with q' | q'
      · rw [if_pos q']
      · rw [if_neg q', ite_self]
    rw [eN]
    exact ⟨h, hN.le (Nat.le_succ u), fun _ _ => rfl⟩
  · rw [if_neg q]
    have q' := q
    rw [cs] at q'
    have n1 : ¬ N (122 + 3 * i + 2) = 0 := fun e => q' (Or.inl e)
    have n2 : d ≤ N (122 + 3 * i + 1) := by
      by_cases z : d ≤ N (122 + 3 * i + 1)
      · exact z
      · exact absurd (Or.inr z) q'
    rw [if_neg n1, if_pos n2, spS_cls P hi3 (by rw [e0]; omega) d, e0]
    obtain ⟨r1, r2, -⟩ := spS_Rl h hN hu hi hsg hd n1 n2
    refine ⟨r1, r2, fun j hj => ?_⟩
    generalize (N (122 + 3 * i)).toNatClampNeg = s at hsg ⊢
    unfold spS
    simp (disch := omega) only [pk_un]
theorem chg_Rl {u : Nat} {P N : Nat → Int32} (h : Rl P N) (hN : PI u N) (hu : 9 * (u + 1) < 2 ^ 31) {ρ : Nat} (hρ : ρ < 2 ^ 31) : Rl (fX2_meetChance_P P (nI ρ)) (fX7_chg N ρ) ∧ PI (u + 1) (fX7_chg N ρ) ∧ (∀ j, ((j < 11 ∧ j ≠ 5 ∧ j ≠ 6) ∨ (82 ≤ j ∧ j < 122)) → fX7_chg N ρ j = N j) := by
  have w3 := hN.w3.2
  have s10 := hN.s10.2
  have s1 := hN.2.1
  have c5 : remI (nI ρ) 21 = nI (ρ % 21) := pk_rem (d := 21) hρ (by decide) (by decide)
  have c6 : remI (nI ρ / 32) 10 = nI (ρ / 32 % 10) := by
    rw [show nI ρ / 32 = nI (ρ / 32) from pk_div (d := 32) hρ (by decide) (by decide)]
    exact pk_rem (d := 10) (by omega) (by decide) (by decide)
  have hX : Rl (upd (upd P 5 (remI (nI ρ) 21)) 6 (remI (nI ρ / 32) 10)) (upd (upd N 5 (remI (nI ρ) 21)) 6 (remI (nI ρ / 32) 10)) := (h.up (by omega) rfl).up (by omega) rfl
  have pX : PI u (upd (upd N 5 (remI (nI ρ) 21)) 6 (remI (nI ρ / 32) 10)) := by
    rw [c5, c6]
    exact (hN.u0 5 20 (by omega) (by omega) rfl (nn.of rfl (by omega) (by decide))).u0 6 9 (by omega) (by omega) rfl (nn.of rfl (by omega) (by decide))
  have eX : ∀ j, j ≠ 5 → j ≠ 6 → upd (upd N 5 (remI (nI ρ) 21)) 6 (remI (nI ρ / 32) 10) j = N j := fun j h5 h6 => by rw [pk_un h6, pk_un h5]
  have eP : ∀ j, j ≠ 5 → j ≠ 6 → upd (upd P 5 (remI (nI ρ) 21)) 6 (remI (nI ρ / 32) 10) j = P j := fun j h5 h6 => by rw [pk_un h6, pk_un h5]
  unfold fX2_meetChance_P fX7_chg fX7_change_V
  generalize upd (upd P 5 (remI (nI ρ) 21)) 6 (remI (nI ρ / 32) 10) = X1 at hX eP ⊢
  generalize upd (upd N 5 (remI (nI ρ) 21)) 6 (remI (nI ρ / 32) 10) = V1 at hX pX eX ⊢
  rw [eP 2 (by omega) (by omega), eP 0 (by omega) (by omega), eX 2 (by omega) (by omega), eX 0 (by omega) (by omega), h.hd (show 2 < 12 by decide), h.hd (show 0 < 12 by decide)]
  have base : Rl X1 V1 ∧ PI (u + 1) V1 ∧ (∀ j, ((j < 11 ∧ j ≠ 5 ∧ j ≠ 6) ∨ (82 ≤ j ∧ j < 122)) → V1 j = N j) := ⟨hX, pX.le (Nat.le_succ u), fun j hj => eX j (by omega) (by omega)⟩
  by_cases q2 : N 2 = 0
  · rw [if_pos ((not_le0 hN.w3 (by decide)).1.mpr q2), if_pos q2]
    exact base
  · rw [if_neg (fun z => q2 ((not_le0 hN.w3 (by decide)).1.mp z)), if_neg q2]
    have s0 : ¬ N 0 ≤ 0 := by rw [hN.s10.1]; exact nI_nle s1 (by omega)
    have wpos := hN.w3.pos q2
    have r1 : remI (nI ρ / 512) (N 2) = nI (ρ / 512 % (N 2).toNatClampNeg) := rem_pl hρ (d := 512) (by decide) (by decide) hN.w3.1 wpos (by omega)
    have r2 : remI (nI ρ / 2048) (N 0) = nI (ρ / 2048 % (N 0).toNatClampNeg) := rem_pl hρ (d := 2048) (by decide) (by decide) hN.s10.1 s1 (by omega)
    have hi : ρ / 512 % (N 2).toNatClampNeg < (N 2).toNatClampNeg := Nat.mod_lt _ wpos
    have hs : ρ / 2048 % (N 0).toNatClampNeg < (N 0).toNatClampNeg := Nat.mod_lt _ s1
    rw [if_neg s0, r1, r2]
    generalize ρ / 512 % (N 2).toNatClampNeg = i at hi ⊢
    generalize ρ / 2048 % (N 0).toNatClampNeg = sg at hs ⊢
    have ec : (nI i).toNatClampNeg = i := nI_clamp (by omega)
    rw [if_pos (show okI (nI i) (N 2) 3 from okI_nI (b := 3) hN.w3.1 rfl hi w3 (by decide)), ec, less_min]
    have hi1 : i < (V1 2).toNatClampNeg := by rw [eX 2 (by omega) (by omega)]; exact hi
    have hL := pX.nw (i := i) (by omega) 1 20 (by omega) rfl rfl
    have eL : X1 (122 + 3 * i + 1) = V1 (122 + 3 * i + 1) := hX.wa hi1 (show 1 < 3 by decide) rfl
    rw [eL]
    by_cases q3 : V1 (122 + 3 * i + 1) = 0
    · rw [if_pos ((not_le0 hL (by decide)).1.mpr q3), if_pos (by rw [q3]; decide)]
      exact base
    · have hmin : nn 5 (if V1 (122 + 3 * i + 1) < 5 then V1 (122 + 3 * i + 1) else 5) := nn.min (k := 5) hL (by decide) (by decide)
      have hpos : 1 ≤ (if V1 (122 + 3 * i + 1) < 5 then V1 (122 + 3 * i + 1) else 5 : Int32).toNatClampNeg := by
        by_cases z : V1 (122 + 3 * i + 1) < 5
        · rw [if_pos z]; exact hL.pos q3
        · rw [if_neg z]; decide
      have hmin0 : ¬ (if V1 (122 + 3 * i + 1) < 5 then V1 (122 + 3 * i + 1) else 5 : Int32) ≤ 0 := by
        intro z
        have := (not_le0 hmin (by decide)).1.mp z
        rw [this] at hpos
        exact absurd hpos (by decide)
      rw [if_neg (fun z => q3 ((not_le0 hL (by decide)).1.mp z)), if_neg hmin0]
      obtain ⟨m1, m2, m3, m4⟩ := mv_Rl hX pX hi1 (sg := nI sg) (nn.of rfl (by omega) (by decide)) (by rw [nI_clamp (by omega), eX 0 (by omega) (by omega)]; exact hs)
      have hi2 : i < (fX7_driveOn_P V1 i (nI sg) 2).toNatClampNeg := by rw [m3 2 (by omega)]; exact hi1
      have eM : fX2_moveWagon_P X1 (nI i) (nI sg) (122 + 3 * i + 1) = V1 (122 + 3 * i + 1) := (m1.wa hi2 (show 1 < 3 by decide) rfl).trans m4
      rw [eM]
      obtain ⟨t1, t2, t3⟩ := sp_Rl m1 m2 hu hi2 (hmin.le (by decide)) hpos
      exact ⟨t1, t2, fun j hj => (t3 j (by omega)).trans ((m3 j (by omega)).trans (eX j (by omega) (by omega)))⟩
theorem simn_h (sd : Int64) (P : Nat → Int32) : ∀ k, fX6_simn_L sd P k = fX6_simh_L sd P k
  | 0 => rfl
  | k + 1 => by unfold fX6_simn_L fX6_simh_L fX6_simn_S fX6_simh_S; rw [simn_h sd P k]
theorem simn_0 (sd : Int64) (P : Nat → Int32) : ∀ k, fX6_simn_A7 sd P k = 0
  | 0 => rfl
  | k + 1 => by unfold fX6_simn_A7 fX6_simn_T7; rw [simn_0 sd P k]; rfl
theorem sim_s (x : Int64) (N : Nat → Int32) (k : Nat) : fX7_sim_L x N (k + 1) = fX7_hourOn_P (fX7_chg (fX7_sim_L x N k) (rho (lcg x (k + 1)))) := rfl
theorem simh_s (x : Int64) (P : Nat → Int32) (k : Nat) : fX6_simh_L x P (k + 1) = fX2_goHour_P (fX2_meetChance_P (fX6_simh_L x P k) (nI (rho (lcg x (k + 1))))) := rfl
theorem simh_a (x : Int64) (P : Nat → Int32) (k : Nat) : fX6_simh_A7 x P (k + 1) = fX6_simh_A7 x P k + fX2_goHour_P (fX2_meetChance_P (fX6_simh_L x P k) (nI (rho (lcg x (k + 1))))) 86 := rfl
theorem i32_sub (x y g : Int32) : x - y + g = x + g - y := by
  rw [Int32.sub_eq_add_neg, Int32.sub_eq_add_neg, Int32.add_assoc, Int32.add_comm (-y) g, ← Int32.add_assoc]
theorem sim_Rl {u : Nat} {P N : Nat → Int32} (h : Rl P N) (hN : PI u N) (x : Int64) : ∀ k, 1998 * (u + 18 * k) < 2 ^ 31 → Rl (fX6_simh_L x P k) (fX7_sim_L x N k) ∧ PI (u + 18 * k) (fX7_sim_L x N k) ∧ fX7_sim_L x N k 1 = N 1 ∧ (0 < (N 1).toNatClampNeg → fX6_simh_A7 x P k = fX7_sim_L x N k 84 - N 84)
  | 0, _ => ⟨h, hN, rfl, fun _ => (Int32.sub_self _).symm⟩
  | k + 1, hk => by
    obtain ⟨a, b, c, d⟩ := sim_Rl h hN x k (by omega)
    have hr := rho_lt (lcg x (k + 1))
    rw [sim_s, simh_s, simh_a]
    generalize rho (lcg x (k + 1)) = ρ at hr ⊢
    generalize fX7_sim_L x N k = V at a b c d ⊢
    generalize fX6_simh_L x P k = T at a ⊢
    obtain ⟨e1, e2, e3⟩ := chg_Rl a b (by omega) hr
    obtain ⟨f1, f2⟩ := hour_Rl e1 e2 (by omega)
    have g1 : fX7_hourOn_P (fX7_chg V ρ) 1 = N 1 := (hour_hd e2 (by omega) (by omega) (by omega)).trans ((e3 1 (by omega)).trans c)
    refine ⟨f1, f2.le (by omega), g1, fun h0 => ?_⟩
    have c1 : fX7_chg V ρ 1 = N 1 := (e3 1 (by omega)).trans c
    obtain ⟨i1, -, i3⟩ := hour_house e2 (by omega) (i := 0) (by rw [c1]; exact h0)
    have k86 : fX2_goHour_P (fX2_meetChance_P T (nI ρ)) 86 = fX7_gets_v (fX7_raise_P (fX7_dry_P (fX7_chg V ρ))) 0 := (f1.ho (i := 0) (k := 4) (j := 86) (by rw [g1]; exact h0) (by omega) (by omega)).trans i1
    have k84 : fX7_hourOn_P (fX7_chg V ρ) 84 = V 84 + fX7_gets_v (fX7_raise_P (fX7_dry_P (fX7_chg V ρ))) 0 := i3.trans (by rw [show fX7_chg V ρ (82 + 5 * 0 + 2) = V 84 from e3 84 (by omega)])
    rw [k86, k84, d h0]
    exact i32_sub _ _ _
