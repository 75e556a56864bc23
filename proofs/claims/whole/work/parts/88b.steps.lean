/-! THE STEPS: what there is. Laid by gen/p29.py. -/
theorem rA_about (A T D N V I K B : Nat → Int32) (a : Int32) : fX7_about_A A T D N V I K B a = upd A 0 (nI (rfAb a)) := by
  unfold fX7_about_A rfAb
  by_cases c0 : fX7_in_v a.toInt64 0 12 = 0
  · simp only [if_pos c0]; rfl
  · skip
    simp only [if_neg c0, ite_self]; rfl
theorem rL_about (N : Nat → Int32) (a : Int32) : rfAb a ≤ 1 := by
  unfold rfAb
  (repeat' split) <;> omega
set_option maxRecDepth 100000 in
theorem st_about {l : Launch} {Γ : gX} (hst : l.stackTraces = false) (hcs : 491 ∈ gcs Γ) (hall : ∀ c ∈ gcs Γ, c < 492) {u : Nat} {R : Nat → Nat → Option Nat} {O : Int64} {Z : Nat → Nat → Int32} (h : INV u Γ R Z) (hu : 1998 * (u + 5000) < 2 ^ 31) (a : Int32) : STEP l Γ (u + 850) yL_about wsL_about yX7_about wsX7_about [.int a] R O Z := by
  obtain ⟨M, X, G, J, S, C, P, Q, A, T, D, N, V, I, K, B, pm, k, rfl, hC, hL, hI⟩ := h
  have hPG := hI.pg
  have hA8 := hI.a8
  have h475 := hC.1 475 (by decide) (by decide)
  have hRE := re_about hPG.1 hPG.2.1 (by omega) (upd A 0 0) a
  have hLe := rL_about N a
  have eA := rA_about A T D N V I K B a
  have inv : INV (u + 850) Γ R (ZZ M X G J S C P Q (upd A 0 (nI (rfAb a))) T D N V I K B) := ⟨_, _, _, _, _, _, _, _, _, _, _, _, _, _, _, _, _, _, rfl, hC, hL, (hI.ref (nI (rfAb a))).le (by omega)⟩
  have ref := fun O1 => mX7_about (l := l) (Γ := Γ) (cS M X G J S C P Q) R O1 hL A T D N V I K B a hPG.2.1.ws
  simp only [eA] at ref
  rcases hRE with ⟨r0, x1, ev⟩ | ⟨r1, r3, x1⟩
  · have cls := mX6_about (l := l) (mS M A T D N V I K B) R O hC X G J S C P Q a x1
    have wrp := wL_about hcs h475 hall (by decide) (by decide) a cls
    rw [r0] at ref inv
    have ref := ref (fX2_number_v P a).toInt64
    rw [show fX7_about_v A T D N V I K B a = fX2_number_v P a from ev] at ref
    rw [← ZZ_m, ← ZZ_m] at ref
    refine ⟨0, _, _, _, _, _, _, _, ?_, ?_, wrp, ref, ?_, fun _ => rfl, inv⟩
    · decide
    · decide
    · rw [ZZ_24]; rfl
  · have ref := ref O
    rw [← ZZ_m, ← ZZ_m] at ref
    have q0 : rfAb a = 1 := by omega
    rw [q0, EE_1] at x1
    rw [q0] at ref inv
    have cls := tX6_about (l := l) hst (mS M A T D N V I K B) R O hC X G J S C P Q a x1
    have wrp := wL_about_t1 hcs h475 (by decide) (by decide) a cls
    refine ⟨1, _, _, _, _, _, _, _, ?_, ?_, wrp, ref, ?_, fun e => absurd e (by decide), inv⟩
    · decide
    · decide
    · rw [ZZ_24]; rfl
theorem rA_segment (A T D N V I K B : Nat → Int32) (a : Int32) (d : Int32) : fX7_segment_A A T D N V I K B a d = upd A 0 (nI (rfSg N a d)) := by
  unfold fX7_segment_A rfSg
  by_cases c0 : fX7_isSegment_v N a = 0
  · simp only [if_pos c0]; rfl
  · skip
    by_cases c1 : fX7_in_v d.toInt64 0 6 = 0
    · simp only [if_neg c0, if_pos c1]; rfl
    · skip
      simp only [if_neg c0, if_neg c1]; rfl
theorem rL_segment (N : Nat → Int32) (a : Int32) (d : Int32) : rfSg N a d ≤ 2 := by
  unfold rfSg
  (repeat' split) <;> omega
set_option maxRecDepth 100000 in
theorem st_segment {l : Launch} {Γ : gX} (hst : l.stackTraces = false) (hcs : 491 ∈ gcs Γ) (hall : ∀ c ∈ gcs Γ, c < 492) {u : Nat} {R : Nat → Nat → Option Nat} {O : Int64} {Z : Nat → Nat → Int32} (h : INV u Γ R Z) (hu : 1998 * (u + 5000) < 2 ^ 31) (a : Int32) (d : Int32) : STEP l Γ (u + 850) yL_segment wsL_segment yX7_segment wsX7_segment [.int a, .int d] R O Z := by
  obtain ⟨M, X, G, J, S, C, P, Q, A, T, D, N, V, I, K, B, pm, k, rfl, hC, hL, hI⟩ := h
  have hPG := hI.pg
  have hA8 := hI.a8
  have h475 := hC.1 475 (by decide) (by decide)
  have hRE := re_segment hPG.1 hPG.2.1 (by omega) a d
  have hLe := rL_segment N a d
  have eA := rA_segment A T D N V I K B a d
  have inv : INV (u + 850) Γ R (ZZ M X G J S C P Q (upd A 0 (nI (rfSg N a d))) T D N V I K B) := ⟨_, _, _, _, _, _, _, _, _, _, _, _, _, _, _, _, _, _, rfl, hC, hL, (hI.ref (nI (rfSg N a d))).le (by omega)⟩
  have ref := fun O1 => mX7_segment (l := l) (Γ := Γ) (cS M X G J S C P Q) R O1 hL A T D N V I K B a d hPG.2.1.ws
  simp only [eA] at ref
  rcases hRE with ⟨r0, x1, ev⟩ | ⟨r1, r3, x1⟩
  · have cls := mX6_segment (l := l) (mS M A T D N V I K B) R O hC X G J S C P Q a d x1
    have wrp := wL_segment hcs h475 hall (by decide) (by decide) a d cls
    rw [r0] at ref inv
    have ref := ref (fX6_segment_v X G J S C P Q a d).toInt64
    rw [show fX7_segment_v A T D N V I K B a d = fX6_segment_v X G J S C P Q a d from ev] at ref
    rw [← ZZ_m, ← ZZ_m] at ref
    refine ⟨0, _, _, _, _, _, _, _, ?_, ?_, wrp, ref, ?_, fun _ => rfl, inv⟩
    · decide
    · decide
    · rw [ZZ_24]; rfl
  · have ref := ref O
    rw [← ZZ_m, ← ZZ_m] at ref
    by_cases q0 : rfSg N a d = 1
    · rw [q0, EE_1] at x1
      rw [q0] at ref inv
      have cls := tX6_segment (l := l) hst (mS M A T D N V I K B) R O hC X G J S C P Q a d x1
      have wrp := wL_segment_t1 hcs h475 (by decide) (by decide) a d cls
      refine ⟨1, _, _, _, _, _, _, _, ?_, ?_, wrp, ref, ?_, fun e => absurd e (by decide), inv⟩
      · decide
      · decide
      · rw [ZZ_24]; rfl
    have q1 : rfSg N a d = 2 := by omega
    rw [q1, EE_2] at x1
    rw [q1] at ref inv
    have cls := tX6_segment (l := l) hst (mS M A T D N V I K B) R O hC X G J S C P Q a d x1
    have wrp := wL_segment_t2 hcs h475 (by decide) (by decide) a d cls
    refine ⟨2, _, _, _, _, _, _, _, ?_, ?_, wrp, ref, ?_, fun e => absurd e (by decide), inv⟩
    · decide
    · decide
    · rw [ZZ_24]; rfl
theorem rA_house (A T D N V I K B : Nat → Int32) (a : Int32) (d : Int32) : fX7_house_A A T D N V I K B a d = upd A 0 (nI (rfHo N a d)) := by
  unfold fX7_house_A rfHo
  by_cases c0 : fX7_isHouse_v N a = 0
  · simp only [if_pos c0]; rfl
  · skip
    by_cases c1 : fX7_in_v d.toInt64 0 4 = 0
    · simp only [if_neg c0, if_pos c1]; rfl
    · skip
      simp only [if_neg c0, if_neg c1]; rfl
theorem rL_house (N : Nat → Int32) (a : Int32) (d : Int32) : rfHo N a d ≤ 2 := by
  unfold rfHo
  (repeat' split) <;> omega
set_option maxRecDepth 100000 in
theorem st_house {l : Launch} {Γ : gX} (hst : l.stackTraces = false) (hcs : 491 ∈ gcs Γ) (hall : ∀ c ∈ gcs Γ, c < 492) {u : Nat} {R : Nat → Nat → Option Nat} {O : Int64} {Z : Nat → Nat → Int32} (h : INV u Γ R Z) (hu : 1998 * (u + 5000) < 2 ^ 31) (a : Int32) (d : Int32) : STEP l Γ (u + 850) yL_house wsL_house yX7_house wsX7_house [.int a, .int d] R O Z := by
  obtain ⟨M, X, G, J, S, C, P, Q, A, T, D, N, V, I, K, B, pm, k, rfl, hC, hL, hI⟩ := h
  have hPG := hI.pg
  have hA8 := hI.a8
  have h475 := hC.1 475 (by decide) (by decide)
  have hRE := re_house hPG.1 hPG.2.1 (by omega) a d
  have hLe := rL_house N a d
  have eA := rA_house A T D N V I K B a d
  have inv : INV (u + 850) Γ R (ZZ M X G J S C P Q (upd A 0 (nI (rfHo N a d))) T D N V I K B) := ⟨_, _, _, _, _, _, _, _, _, _, _, _, _, _, _, _, _, _, rfl, hC, hL, (hI.ref (nI (rfHo N a d))).le (by omega)⟩
  have ref := fun O1 => mX7_house (l := l) (Γ := Γ) (cS M X G J S C P Q) R O1 hL A T D N V I K B a d hPG.2.1.ws
  simp only [eA] at ref
  rcases hRE with ⟨r0, x1, ev⟩ | ⟨r1, r3, x1⟩
  · have cls := mX6_house (l := l) (mS M A T D N V I K B) R O hC X G J S C P Q a d x1
    have wrp := wL_house hcs h475 hall (by decide) (by decide) a d cls
    rw [r0] at ref inv
    have ref := ref (fX6_house_v X G J S C P Q a d).toInt64
    rw [show fX7_house_v A T D N V I K B a d = fX6_house_v X G J S C P Q a d from ev] at ref
    rw [← ZZ_m, ← ZZ_m] at ref
    refine ⟨0, _, _, _, _, _, _, _, ?_, ?_, wrp, ref, ?_, fun _ => rfl, inv⟩
    · decide
    · decide
    · rw [ZZ_24]; rfl
  · have ref := ref O
    rw [← ZZ_m, ← ZZ_m] at ref
    by_cases q0 : rfHo N a d = 1
    · rw [q0, EE_1] at x1
      rw [q0] at ref inv
      have cls := tX6_house (l := l) hst (mS M A T D N V I K B) R O hC X G J S C P Q a d x1
      have wrp := wL_house_t1 hcs h475 (by decide) (by decide) a d cls
      refine ⟨1, _, _, _, _, _, _, _, ?_, ?_, wrp, ref, ?_, fun e => absurd e (by decide), inv⟩
      · decide
      · decide
      · rw [ZZ_24]; rfl
    have q1 : rfHo N a d = 2 := by omega
    rw [q1, EE_2] at x1
    rw [q1] at ref inv
    have cls := tX6_house (l := l) hst (mS M A T D N V I K B) R O hC X G J S C P Q a d x1
    have wrp := wL_house_t2 hcs h475 (by decide) (by decide) a d cls
    refine ⟨2, _, _, _, _, _, _, _, ?_, ?_, wrp, ref, ?_, fun e => absurd e (by decide), inv⟩
    · decide
    · decide
    · rw [ZZ_24]; rfl
theorem rA_wagon (A T D N V I K B : Nat → Int32) (a : Int32) (d : Int32) : fX7_wagon_A A T D N V I K B a d = upd A 0 (nI (rfWa N a d)) := by
  unfold fX7_wagon_A rfWa
  by_cases c0 : fX7_isWagon_v N a = 0
  · simp only [if_pos c0]; rfl
  · skip
    by_cases c1 : fX7_in_v d.toInt64 0 2 = 0
    · simp only [if_neg c0, if_pos c1]; rfl
    · skip
      simp only [if_neg c0, if_neg c1]; rfl
theorem rL_wagon (N : Nat → Int32) (a : Int32) (d : Int32) : rfWa N a d ≤ 2 := by
  unfold rfWa
  (repeat' split) <;> omega
set_option maxRecDepth 100000 in
theorem st_wagon {l : Launch} {Γ : gX} (hst : l.stackTraces = false) (hcs : 491 ∈ gcs Γ) (hall : ∀ c ∈ gcs Γ, c < 492) {u : Nat} {R : Nat → Nat → Option Nat} {O : Int64} {Z : Nat → Nat → Int32} (h : INV u Γ R Z) (hu : 1998 * (u + 5000) < 2 ^ 31) (a : Int32) (d : Int32) : STEP l Γ (u + 850) yL_wagon wsL_wagon yX7_wagon wsX7_wagon [.int a, .int d] R O Z := by
  obtain ⟨M, X, G, J, S, C, P, Q, A, T, D, N, V, I, K, B, pm, k, rfl, hC, hL, hI⟩ := h
  have hPG := hI.pg
  have hA8 := hI.a8
  have h475 := hC.1 475 (by decide) (by decide)
  have hRE := re_wagon hPG.1 hPG.2.1 a d
  have hLe := rL_wagon N a d
  have eA := rA_wagon A T D N V I K B a d
  have inv : INV (u + 850) Γ R (ZZ M X G J S C P Q (upd A 0 (nI (rfWa N a d))) T D N V I K B) := ⟨_, _, _, _, _, _, _, _, _, _, _, _, _, _, _, _, _, _, rfl, hC, hL, (hI.ref (nI (rfWa N a d))).le (by omega)⟩
  have ref := fun O1 => mX7_wagon (l := l) (Γ := Γ) (cS M X G J S C P Q) R O1 hL A T D N V I K B a d hPG.2.1.ws
  simp only [eA] at ref
  rcases hRE with ⟨r0, x1, ev⟩ | ⟨r1, r3, x1⟩
  · have cls := mX6_wagon (l := l) (mS M A T D N V I K B) R O hC X G J S C P Q a d x1
    have wrp := wL_wagon hcs h475 hall (by decide) (by decide) a d cls
    rw [r0] at ref inv
    have ref := ref (fX6_wagon_v X G J S C P Q a d).toInt64
    rw [show fX7_wagon_v A T D N V I K B a d = fX6_wagon_v X G J S C P Q a d from ev] at ref
    rw [← ZZ_m, ← ZZ_m] at ref
    refine ⟨0, _, _, _, _, _, _, _, ?_, ?_, wrp, ref, ?_, fun _ => rfl, inv⟩
    · decide
    · decide
    · rw [ZZ_24]; rfl
  · have ref := ref O
    rw [← ZZ_m, ← ZZ_m] at ref
    by_cases q0 : rfWa N a d = 1
    · rw [q0, EE_1] at x1
      rw [q0] at ref inv
      have cls := tX6_wagon (l := l) hst (mS M A T D N V I K B) R O hC X G J S C P Q a d x1
      have wrp := wL_wagon_t1 hcs h475 (by decide) (by decide) a d cls
      refine ⟨1, _, _, _, _, _, _, _, ?_, ?_, wrp, ref, ?_, fun e => absurd e (by decide), inv⟩
      · decide
      · decide
      · rw [ZZ_24]; rfl
    have q1 : rfWa N a d = 2 := by omega
    rw [q1, EE_2] at x1
    rw [q1] at ref inv
    have cls := tX6_wagon (l := l) hst (mS M A T D N V I K B) R O hC X G J S C P Q a d x1
    have wrp := wL_wagon_t2 hcs h475 (by decide) (by decide) a d cls
    refine ⟨2, _, _, _, _, _, _, _, ?_, ?_, wrp, ref, ?_, fun e => absurd e (by decide), inv⟩
    · decide
    · decide
    · rw [ZZ_24]; rfl
theorem rA_whyNoFill (A T D N V I K B : Nat → Int32) (a : Int32) : fX7_whyNoFill_A A T D N V I K B a = upd A 0 (nI (rfWh N a)) := by
  unfold fX7_whyNoFill_A rfWh
  by_cases c0 : fX7_isWagon_v N a = 0
  · simp only [if_pos c0]; rfl
  · skip
    simp only [if_neg c0]; rfl
theorem rL_whyNoFill (N : Nat → Int32) (a : Int32) : rfWh N a ≤ 1 := by
  unfold rfWh
  (repeat' split) <;> omega
set_option maxRecDepth 100000 in
theorem st_whyNoFill {l : Launch} {Γ : gX} (hst : l.stackTraces = false) (hcs : 491 ∈ gcs Γ) (hall : ∀ c ∈ gcs Γ, c < 492) {u : Nat} {R : Nat → Nat → Option Nat} {O : Int64} {Z : Nat → Nat → Int32} (h : INV u Γ R Z) (hu : 1998 * (u + 5000) < 2 ^ 31) (a : Int32) : STEP l Γ (u + 850) yL_whyNoFill wsL_whyNoFill yX7_whyNoFill wsX7_whyNoFill [.int a] R O Z := by
  obtain ⟨M, X, G, J, S, C, P, Q, A, T, D, N, V, I, K, B, pm, k, rfl, hC, hL, hI⟩ := h
  have hPG := hI.pg
  have hA8 := hI.a8
  have h475 := hC.1 475 (by decide) (by decide)
  have hRE := re_why hPG.1 hPG.2.1 a
  have hLe := rL_whyNoFill N a
  have eA := rA_whyNoFill A T D N V I K B a
  have inv : INV (u + 850) Γ R (ZZ M X G J S C P Q (upd A 0 (nI (rfWh N a))) T D N V I K B) := ⟨_, _, _, _, _, _, _, _, _, _, _, _, _, _, _, _, _, _, rfl, hC, hL, (hI.ref (nI (rfWh N a))).le (by omega)⟩
  have ref := fun O1 => mX7_whyNoFill (l := l) (Γ := Γ) (cS M X G J S C P Q) R O1 hL A T D N V I K B a hPG.2.1.ws
  simp only [eA] at ref
  rcases hRE with ⟨r0, x1, ev⟩ | ⟨r1, r3, x1⟩
  · have cls := mX6_whyNoFill (l := l) (mS M A T D N V I K B) R O hC X G J S C P Q a x1
    have wrp := wL_whyNoFill hcs h475 hall (by decide) (by decide) a cls
    rw [r0] at ref inv
    have ref := ref (fX6_whyNoFill_v X G J S C P Q a).toInt64
    rw [show fX7_whyNoFill_v A T D N V I K B a = fX6_whyNoFill_v X G J S C P Q a from ev] at ref
    rw [← ZZ_m, ← ZZ_m] at ref
    refine ⟨0, _, _, _, _, _, _, _, ?_, ?_, wrp, ref, ?_, fun _ => rfl, inv⟩
    · decide
    · decide
    · rw [ZZ_24]; rfl
  · have ref := ref O
    rw [← ZZ_m, ← ZZ_m] at ref
    have q0 : rfWh N a = 1 := by omega
    rw [q0, EE_1] at x1
    rw [q0] at ref inv
    have cls := tX6_whyNoFill (l := l) hst (mS M A T D N V I K B) R O hC X G J S C P Q a x1
    have wrp := wL_whyNoFill_t1 hcs h475 (by decide) (by decide) a cls
    refine ⟨1, _, _, _, _, _, _, _, ?_, ?_, wrp, ref, ?_, fun e => absurd e (by decide), inv⟩
    · decide
    · decide
    · rw [ZZ_24]; rfl
