/-! THE REFERENCE: what a part read keeps. Laid by gen/p15.py. -/
theorem two_ne {d : Int32} (h : d = nI d.toNatClampNeg) (h2 : d.toNatClampNeg < 10) : ¬ 2 * (1 + d) = 0 := by
  have e : ∀ k : Fin 10, ¬ 2 * (1 + nI k.1) = 0 := by decide
  rw [h]
  exact e ⟨_, h2⟩
theorem nw {j k : Nat} (h : k < 10) : ¬ kw (12 + 7 * k) ∧ ¬ kw (12 + 7 * k + 5) ∧ ¬ kw (12 + 7 * k + 1) := by
  unfold kw
  refine ⟨?_, ?_, ?_⟩ <;> omega
theorem rp_keeps {A T D : Nat → Int32} (hA : RA A) (hD : WS D) : WS (qX7_readPart_D A T D) ∧ RA (qX7_readPart_A A T D) ∧ (¬ qX7_readPart_v A T D = 0 → (A 3).toNatClampNeg < (qX7_readPart_A A T D 3).toNatClampNeg) := by
  have d0 := hD.1.2
  have d1 := hD.2.1.2
  have d2 := hD.2.2.1.2
  by_cases hh : ¬ 8 ≤ D 1 ∧ eatC A T 104
  · obtain ⟨e1, e2, e3⟩ := rp_h hh.1 hh.2
    have hU := RA_up3 hA hh.2.1
    have u := up3_at hA
    rw [e1, e2, e3]
    by_cases c1 : digC (up3 A) T 0 (D 0 - 1)
    · have hU2 := RA_up3 hU c1.1
      have u2 := up3_at hU
      by_cases c2 : digC (up3 (up3 A)) T 0 9
      · have hU3 := RA_up3 hU2 c2.1
        have u3 := up3_at hU2
        obtain ⟨f1, f2, f3⟩ := rh_y c1 c2
        rw [f1, f2, f3]
        have p1 := digit_pl (digit_ne c1)
        have p2 := digit_pl (digit_ne c2)
        exact ⟨WS_ho hD (by have := lt_pl (x := 8) (n := 8) rfl hD.2.1.1 (by omega) (by decide) hh.1; omega) p1.1 p1.2.1 (two_ne p2.1 p2.2.1), hU3, fun _ => by omega⟩
      · obtain ⟨f1, f2, f3⟩ := rh_n2 c1 c2
        rw [f1, f2, f3]
        exact ⟨hD, hU2, fun _ => by omega⟩
    · obtain ⟨f1, f2, f3⟩ := rh_n1 c1
      rw [f1, f2, f3]
      exact ⟨hD, hU, fun _ => by omega⟩
  · by_cases hw : ¬ 3 ≤ D 2 ∧ eatC A T 119
    · obtain ⟨e1, e2, e3⟩ := rp_w hh hw.1 hw.2
      have hU := RA_up3 hA hw.2.1
      have u := up3_at hA
      rw [e1, e2, e3]
      by_cases c1 : digC (up3 A) T 0 (D 0 - 1)
      · have hU2 := RA_up3 hU c1.1
        have u2 := up3_at hU
        obtain ⟨f1, f2, f3⟩ := rw_y c1
        rw [f1, f2, f3]
        have p1 := digit_pl (digit_ne c1)
        exact ⟨WS_wo hD (by have := lt_pl (x := 3) (n := 3) rfl hD.2.2.1.1 (by omega) (by decide) hw.1; omega) p1.1 p1.2.1, hU2, fun _ => by omega⟩
      · obtain ⟨f1, f2, f3⟩ := rw_n c1
        rw [f1, f2, f3]
        exact ⟨hD, hU, fun _ => by omega⟩
    · by_cases hf : ¬ D 0 ≤ qX7_filling_v D ∧ eatC A T 102
      · obtain ⟨e1, e2, e3⟩ := rp_f hh hw hf.1 hf.2
        have hU := RA_up3 hA hf.2.1
        have u := up3_at hA
        rw [e1, e2, e3]
        by_cases c1 : digC (up3 A) T 0 (D 0 - 1)
        · have hU2 := RA_up3 hU c1.1
          have u2 := up3_at hU
          by_cases c2 : D (rfi (up3 A) T D) = 1
          · obtain ⟨f1, f2, f3⟩ := rf_m c1 c2
            rw [f1, f2, f3]
            exact ⟨hD, hU, fun _ => by omega⟩
          · obtain ⟨f1, f2, f3⟩ := rf_y c1 c2
            rw [f1, f2, f3]
            have p1 := digit_lt hD.1.1 (by omega) (digit_ne c1)
            exact ⟨WS.up (nw (j := 0) (by omega)).2.1 hD, hU2, fun _ => by omega⟩
        · obtain ⟨f1, f2, f3⟩ := rf_n c1
          rw [f1, f2, f3]
          exact ⟨hD, hU, fun _ => by omega⟩
      · obtain ⟨e1, e2, e3⟩ := rp_n hh hw hf
        rw [e1, e2, e3]
        exact ⟨hD, hA, fun q => absurd rfl q⟩
