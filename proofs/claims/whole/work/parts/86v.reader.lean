/-! MATH: the reader as a whole. -/
theorem RA.nn {A : Nat → Int32} (h : RA A) : nn 70 (A 3) := ⟨h.2.1, h.2.2⟩
theorem RA.no9 {A : Nat → Int32} (h : RA A) : ¬ A 3 = -9 := fun e => h.nn.not_neg (by decide) (by rw [e]; decide)
/-- the size, and what the reference makes of it -/
def SZ (X G Q A T D : Nat → Int32) : Prop :=
  (∃ X2 A2, fX4_takeSize_v X G Q = 0 ∧ fX4_takeSize_X X G Q = X2 ∧ rrM 0 A T D A2 D ∧ tx X2 G A2 T ∧ ∀ j, j ≠ 3 → A2 j = A j) ∨
  (∃ X2 A2 n, 1 ≤ n ∧ n ≤ 10 ∧ ¬ fX4_takeSize_v X G Q = 0 ∧ fX4_takeSize_X X G Q = X2 ∧ fX4_takeSize_Q X G Q = upd Q 0 (nI n) ∧ tx X2 G A2 T ∧ X2 3 = X 3 ∧ (∀ j, j ≠ 3 → A2 j = A j) ∧
    ((∀ j, j < n → ¬ qX7_digit_v (fX7_sur_L T A2 (fX7_clear_P D n) j).1 T 0 2 = -9) → rrM 1 A T D (fX7_sur_L T A2 (fX7_clear_P D n) n).1 (fX7_sur_L T A2 (fX7_clear_P D n) n).2) ∧
    (∀ kx, kx < n → (∀ j, j < kx → ¬ qX7_digit_v (fX7_sur_L T A2 (fX7_clear_P D n) j).1 T 0 2 = -9) → qX7_digit_v (fX7_sur_L T A2 (fX7_clear_P D n) kx).1 T 0 2 = -9 → rrM 0 A T D (qX7_digit_A (fX7_sur_L T A2 (fX7_clear_P D n) kx).1 T 0 2) (fX7_sur_L T A2 (fX7_clear_P D n) kx).2))
theorem up3_o (A : Nat → Int32) {j : Nat} (h : j ≠ 3) : up3 A j = A j := up3_ne A h
theorem sz_all {X G A T : Nat → Int32} (h : tx X G A T) (Q : Nat → Int32) {D : Nat → Int32} (hD : WS D) : SZ X G Q A T D := by
  have hA := h.2.2.1
  unfold SZ fX4_takeSize_v fX4_takeSize_X fX4_takeSize_Q
  rcases tk_digit h alw_2 with ⟨c, ev, eX⟩ | ⟨c, ev, eX⟩
  · obtain ⟨dv, dA⟩ := digit_y c
    have h' := h.up c.1
    obtain ⟨t, ht9, et, et'⟩ := (dig_nn c).ex
    have t1 : t ≤ 1 := by
      have := c.2.2.2
      rw [et] at this
      exact (nI_leI (a := t) (b := 1) (by omega) (by decide)).mp this
    have n9 : ¬ nI t = -1 := fun e => nI_pos (n := t) (by omega) (by rw [e]; decide)
    have n9' : ¬ nI t = -9 := fun e => nI_pos (n := t) (by omega) (by rw [e]; decide)
    rw [ev, eX, et, if_neg n9, if_neg n9, if_neg n9]
    have g1 : ¬ qX7_digit_v A T 0 1 = -9 := by rw [dv, et]; exact n9'
    rcases (show t = 0 ∨ t = 1 by omega) with rfl | rfl
    · have g2 : qX7_digit_v A T 0 1 = 0 := by rw [dv, et]; rfl
      rw [if_pos (show nI 0 = 0 from rfl), if_pos (show nI 0 = 0 from rfl), if_pos (show nI 0 = 0 from rfl)]
      rcases tk_digit h' alw_19 with ⟨c2, ev2, eX2⟩ | ⟨c2, ev2, eX2⟩
      · obtain ⟨dv2, dA2⟩ := digit_y c2
        obtain ⟨o, ho9, eo, eo'⟩ := (dig_nn c2).ex
        have o1 : 1 ≤ o := by
          have := c2.2.2.1
          rw [eo] at this
          exact (nI_leI (a := 1) (b := o) (by decide) (by omega)).mp this
        have m9 : ¬ nI o = -1 := fun e => nI_pos (n := o) (by omega) (by rw [e]; decide)
        have m9' : ¬ nI o = -9 := fun e => nI_pos (n := o) (by omega) (by rw [e]; decide)
        have es : 10 * nI 0 + nI o = nI o := by rw [show (10 : Int32) = nI 10 from rfl, pk_mul, nI_add, Nat.mul_zero, Nat.zero_add]
        have eD : qX7_digit_v (qX7_digit_A A T 0 1) T 1 9 = nI o := by rw [dA, dv2, eo]
        have eA : qX7_digit_A (qX7_digit_A A T 0 1) T 1 9 = up3 (up3 A) := by rw [dA, dA2]
        have en : (10 * qX7_digit_v A T 0 1 + qX7_digit_v (qX7_digit_A A T 0 1) T 1 9).toNatClampNeg = o := by rw [dv, et, eD, es, nI_clamp (by omega)]
        rw [ev2, eX2, eo, if_neg m9, if_neg m9, if_neg m9, es]
        refine Or.inr ⟨_, up3 (up3 A), o, o1, by omega, by decide, rfl, rfl, h'.up c2.1, by rw [up2X_3, up2X_3], fun j hj => by rw [up3_o _ hj, up3_o _ hj], fun hno => ?_, fun kx hk hno hy => ?_⟩
        · intro l Γ M R O hL N V I K B
          have := mX7_readRoad_ya (l := l) M R O hL A T D N V I K B hA hD g1 g2 (by rw [eD]; exact m9') (by rw [en, eA]; exact hno)
          rw [en, eA] at this
          exact this
        · intro l Γ M R O hL N V I K B
          have := mX7_readRoad_fa (l := l) M R O hL A T D N V I K B hA hD g1 g2 (by rw [eD]; exact m9') kx (by rw [en]; exact hk) (by rw [en, eA]; exact hno) (by rw [en, eA]; exact hy)
          rw [en, eA] at this
          exact this
      · obtain ⟨dv2, dA2⟩ := digit_n c2
        rw [ev2, eX2, if_pos rfl, if_pos rfl]
        refine Or.inl ⟨_, up3 A, rfl, rfl, ?_, h', fun j hj => up3_o _ hj⟩
        intro l Γ M R O hL N V I K B
        have := mX7_readRoad_na (l := l) M R O hL A T D N V I K B hA hD g1 g2 (by rw [dA]; exact dv2)
        rw [dA, dA2] at this
        exact this
    · have g2 : ¬ qX7_digit_v A T 0 1 = 0 := by rw [dv, et]; decide
      rw [if_neg (show ¬ nI 1 = 0 by decide), if_neg (show ¬ nI 1 = 0 by decide), if_neg (show ¬ nI 1 = 0 by decide)]
      rcases tk_digit h' alw_1 with ⟨c2, ev2, eX2⟩ | ⟨c2, ev2, eX2⟩
      · obtain ⟨dv2, dA2⟩ := digit_y c2
        obtain ⟨o, ho9, eo, eo'⟩ := (dig_nn c2).ex
        have o0 : o = 0 := by
          have := c2.2.2.2
          rw [eo] at this
          have := (nI_leI (a := o) (b := 0) (by omega) (by decide)).mp this
          omega
        subst o0
        have eD : qX7_digit_v (qX7_digit_A A T 0 1) T 0 0 = nI 0 := by rw [dA, dv2, eo]
        have eA : qX7_digit_A (qX7_digit_A A T 0 1) T 0 0 = up3 (up3 A) := by rw [dA, dA2]
        have en : (10 * qX7_digit_v A T 0 1 + qX7_digit_v (qX7_digit_A A T 0 1) T 0 0).toNatClampNeg = 10 := by rw [dv, et, eD]; rfl
        have m9' : ¬ nI 0 = -9 := by decide
        rw [ev2, eX2, eo, if_neg (show ¬ nI 0 = -1 by decide), if_neg (show ¬ nI 0 = -1 by decide), if_neg (show ¬ nI 0 = -1 by decide)]
        refine Or.inr ⟨_, up3 (up3 A), 10, by decide, by decide, by decide, rfl, rfl, h'.up c2.1, by rw [up2X_3, up2X_3], fun j hj => by rw [up3_o _ hj, up3_o _ hj], fun hno => ?_, fun kx hk hno hy => ?_⟩
        · intro l Γ M R O hL N V I K B
          have := mX7_readRoad_yb (l := l) M R O hL A T D N V I K B hA hD g1 g2 (by rw [eD]; exact m9') (by rw [en, eA]; exact hno)
          rw [en, eA] at this
          exact this
        · intro l Γ M R O hL N V I K B
          have := mX7_readRoad_fb (l := l) M R O hL A T D N V I K B hA hD g1 g2 (by rw [eD]; exact m9') kx (by rw [en]; exact hk) (by rw [en, eA]; exact hno) (by rw [en, eA]; exact hy)
          rw [en, eA] at this
          exact this
      · obtain ⟨dv2, dA2⟩ := digit_n c2
        rw [ev2, eX2, if_pos rfl, if_pos rfl]
        refine Or.inl ⟨_, up3 A, rfl, rfl, ?_, h', fun j hj => up3_o _ hj⟩
        intro l Γ M R O hL N V I K B
        have := mX7_readRoad_nb (l := l) M R O hL A T D N V I K B hA hD g1 g2 (by rw [dA]; exact dv2)
        rw [dA, dA2] at this
        exact this
  · obtain ⟨dv, dA⟩ := digit_n c
    rw [ev, eX, if_pos rfl, if_pos rfl]
    refine Or.inl ⟨_, A, rfl, rfl, ?_, h, fun j hj => rfl⟩
    intro l Γ M R O hL N V I K B
    have := mX7_readRoad_n1 (l := l) M R O hL A T D N V I K B hA hD dv
    rw [dA] at this
    exact this
/-- the surfaces, one by one -/
theorem su_all {X G A T Q D : Nat → Int32} (h : tx X G A T) (r : rq X Q D) {n : Nat} (hn : (D 0).toNatClampNeg = n) : ∀ k, k ≤ n → (∀ j, j < k → ¬ qX7_digit_v (fX7_sur_L T A D j).1 T 0 2 = -9) → tx (fX4_sur_L G X Q k).1 G (fX7_sur_L T A D k).1 T ∧ rq (fX4_sur_L G X Q k).1 (fX4_sur_L G X Q k).2 (fX7_sur_L T A D k).2 ∧ (fX7_sur_L T A D k).2 0 = D 0 ∧ (∀ j, j ≠ 3 → (fX7_sur_L T A D k).1 j = A j) ∧ (∀ j, j < k → ¬ fX4_takeDigit_v (fX4_sur_L G X Q j).1 G (fX4_below_v 3) = -1)
  | 0, _, _ => ⟨h, r, rfl, fun _ _ => rfl, fun j hj => absurd hj (Nat.not_lt_zero _)⟩
  | k + 1, hk, hno => by
    obtain ⟨a, b, c, d, e⟩ := su_all h r hn k (by omega) (fun j hj => hno j (by omega))
    have dg := digit_ge (hno k (by omega))
    rcases tk_digit a alw_3 with ⟨c2, ev, eX⟩ | ⟨c2, -, -⟩
    · obtain ⟨dv, dA⟩ := digit_y dg
      have d2 : nn 2 (T ((fX7_sur_L T A D k).1 3).toNatClampNeg - 48) := by
        obtain ⟨m, hm, em, -⟩ := (dig_nn dg).ex
        have := dg.2.2.2
        rw [em] at this ⊢
        exact nn.of rfl ((nI_leI (a := m) (b := 2) (by omega) (by decide)).mp this) (by decide)
      obtain ⟨s1, s2⟩ := b.surf (k := k) (by rw [c, hn]; omega) d2
      have l1 : fX4_sur_L G X Q (k + 1) = (up2X (fX4_sur_L G X Q k).1, upd (fX4_sur_L G X Q k).2 (12 + 7 * k) (T ((fX7_sur_L T A D k).1 3).toNatClampNeg - 48)) := by
        show fX4_sur_S G (fX4_sur_L G X Q k) k = _
        unfold fX4_sur_S
        rw [ev, eX, s1]
      have l2 : fX7_sur_L T A D (k + 1) = (up3 (fX7_sur_L T A D k).1, upd (fX7_sur_L T A D k).2 (12 + 7 * k) (T ((fX7_sur_L T A D k).1 3).toNatClampNeg - 48)) := by
        show fX7_sur_S T (fX7_sur_L T A D k) k = _
        unfold fX7_sur_S
        rw [dv, dA]
      rw [l1, l2]
      refine ⟨a.up dg.1, s2.X (up2X_3 _), (pk_un (by omega)).trans c, fun j hj => (up3_o _ hj).trans (d j hj), fun j hj => ?_⟩
      by_cases q : j = k
      · subst q
        rw [ev]
        exact fun z => (dig_nn dg).not_neg (by decide) (by rw [z]; decide)
      · exact e j (by omega)
    · exact absurd dg c2
theorem su_fail {X G A T : Nat → Int32} (h : tx X G A T) (hf : qX7_digit_v A T 0 2 = -9) : fX4_takeDigit_v X G (fX4_below_v 3) = -1 ∧ fX4_takeDigit_X X G (fX4_below_v 3) = X ∧ qX7_digit_A A T 0 2 = A := by
  rcases tk_digit h alw_3 with ⟨c, -, -⟩ | ⟨c, ev, eX⟩
  · exact absurd hf (digit_ne c)
  · exact ⟨ev, eX, (digit_n c).2⟩
/-- the parts, one by one -/
theorem pa_all {X G A T Q D : Nat → Int32} (h : tx X G A T) (r : rq X Q D) : ∀ k, (∀ j, j < k → (¬ (fX7_par_L T A D j).1 2 ≤ (fX7_par_L T A D j).1 3) ∧ ¬ qX7_readPart_v (fX7_par_L T A D j).1 T (fX7_par_L T A D j).2 = 0) → tx (fX4_par_L G X Q k).1 G (fX7_par_L T A D k).1 T ∧ rq (fX4_par_L G X Q k).1 (fX4_par_L G X Q k).2 (fX7_par_L T A D k).2 ∧ k ≤ ((fX7_par_L T A D k).1 3).toNatClampNeg ∧ (∀ j, j < k → (¬ (fX4_par_L G X Q j).1 1 ≤ (fX4_par_L G X Q j).1 2) ∧ ¬ fX4_takePart_v (fX4_par_L G X Q j).1 G (fX4_par_L G X Q j).2 = 0)
  | 0, _ => ⟨h, r, Nat.zero_le _, fun j hj => absurd hj (Nat.not_lt_zero _)⟩
  | k + 1, hno => by
    obtain ⟨a, b, c, d⟩ := pa_all h r k (fun j hj => hno j (by omega))
    obtain ⟨n1, n2⟩ := hno k (by omega)
    have kp := (rp_keeps a.2.2.1 b.2.1.ws).2.2 n2
    have l1 : fX4_par_L G X Q (k + 1) = (fX4_takePart_X (fX4_par_L G X Q k).1 G (fX4_par_L G X Q k).2, fX4_takePart_Q (fX4_par_L G X Q k).1 G (fX4_par_L G X Q k).2) := rfl
    have l2 : fX7_par_L T A D (k + 1) = (qX7_readPart_A (fX7_par_L T A D k).1 T (fX7_par_L T A D k).2, qX7_readPart_D (fX7_par_L T A D k).1 T (fX7_par_L T A D k).2) := rfl
    rw [l1, l2]
    rcases pt_part a b with ⟨-, z, -⟩ | ⟨p1, p2, p3, p4⟩
    · exact absurd z n2
    · refine ⟨p3, p4, Nat.succ_le_of_lt (Nat.lt_of_le_of_lt c kp), fun j hj => ?_⟩
      by_cases q : j = k
      · subst q
        exact ⟨by rw [a.1, a.2.1]; exact n1, p1⟩
      · exact d j (by omega)
theorem par_o {A T D : Nat → Int32} (hA : ∀ (A T D : Nat → Int32) (j : Nat), j ≠ 3 → qX7_readPart_A A T D j = A j) : ∀ k j, j ≠ 3 → (fX7_par_L T A D k).1 j = A j
  | 0, _, _ => rfl
  | k + 1, j, hj => (hA _ T _ j hj).trans (par_o hA k j hj)
