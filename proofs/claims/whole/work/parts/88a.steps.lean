/-! THE STEPS: a call of both, method by method. Laid by gen/p29.py. -/
def STEP (l : Launch) (Γ : gX) (v : Nat) (yW : MethodName) (wsW : List Cond) (yM : MethodName) (wsM : List Cond) (a1 : List Value) (R : Nat → Nat → Option Nat) (O : Int64) (Z : Nat → Nat → Int32) : Prop := ∃ (kk b : Int32) (Z1 Z2 : Nat → Nat → Int32) (R1 : Nat → Nat → Option Nat) (O1 : Int64) (fr lo : Nat), fr ≤ 8 ∧ lo ≤ 140 ∧ gWrp l Γ yW wsW 9 180 (.ref (gad Γ 475) :: (a1 ++ [.ref (gad Γ 491)])) Z R O (some (.int kk)) Z1 R1 O1 ∧ gMet l Γ yM wsM fr lo (.ref (gad Γ 483) :: a1) Z1 R1 O1 (some (.int b)) Z2 R1 O1 ∧ Z2 24 0 = kk ∧ (kk = 0 → O1 = b.toInt64) ∧ INV v Γ R1 Z2
/-- a call that doesn't throw, compared at once -/
def STEP0 (l : Launch) (Γ : gX) (v : Nat) (yC : MethodName) (wsC : List Cond) (yM : MethodName) (wsM : List Cond) (R : Nat → Nat → Option Nat) (O : Int64) (Z : Nat → Nat → Int32) : Prop := ∃ (b : Int32) (Z1 Z2 : Nat → Nat → Int32) (fr lo fr2 lo2 : Nat), (fr ≤ 8 ∧ lo ≤ 140) ∧ (fr2 ≤ 8 ∧ lo2 ≤ 140) ∧ gMet l Γ yC wsC fr lo [.ref (gad Γ 475)] Z R O (some (.int b)) Z1 R O ∧ gMet l Γ yM wsM fr2 lo2 [.ref (gad Γ 483)] Z1 R O (some (.int b)) Z2 R O ∧ INV v Γ R Z2
theorem EE_1 (a b c : String) : EE a b c 1 = a := rfl
theorem EE_2 (a b c : String) : EE a b c 2 = b := rfl
theorem EE_3 (a b c : String) : EE a b c 3 = c := rfl
theorem rA_addHouse (A T D N V I K B : Nat → Int32) (a : Int32) (d : Int32) : fX7_addHouse_A A T D N V I K B a d = if rfAH N a d = 0 then fX7_note_A (upd A 0 0) T D N V I K B else upd A 0 (nI (rfAH N a d)) := by
  unfold fX7_addHouse_A rfAH
  by_cases c0 : fX7_isSegment_v N a = 0
  · simp only [if_pos c0]; rfl
  · skip
    by_cases c1 : fX7_in_v d.toInt64 0 9 = 0
    · simp only [if_neg c0, if_pos c1]; rfl
    · skip
      by_cases c2 : N 1 = 8
      · simp only [if_neg c0, if_neg c1, if_pos c2]; rfl
      · skip
        simp only [if_neg c0, if_neg c1, if_neg c2]; rfl
theorem rI_addHouse (A T D N V I K B : Nat → Int32) (a : Int32) (d : Int32) : fX7_addHouse_I A T D N V I K B a d = if rfAH N a d = 0 then fX7_note_I (upd A 0 0) T D N V I K B else I := by
  unfold fX7_addHouse_I rfAH
  by_cases c0 : fX7_isSegment_v N a = 0
  · simp only [if_pos c0]; rfl
  · skip
    by_cases c1 : fX7_in_v d.toInt64 0 9 = 0
    · simp only [if_neg c0, if_pos c1]; rfl
    · skip
      by_cases c2 : N 1 = 8
      · simp only [if_neg c0, if_neg c1, if_pos c2]; rfl
      · skip
        simp only [if_neg c0, if_neg c1, if_neg c2]; rfl
theorem rL_addHouse (N : Nat → Int32) (a : Int32) (d : Int32) : rfAH N a d ≤ 3 := by
  unfold rfAH
  (repeat' split) <;> omega
set_option maxRecDepth 100000 in
theorem st_addHouse {l : Launch} {Γ : gX} (hst : l.stackTraces = false) (hcs : 491 ∈ gcs Γ) (hall : ∀ c ∈ gcs Γ, c < 492) {u : Nat} {R : Nat → Nat → Option Nat} {O : Int64} {Z : Nat → Nat → Int32} (h : INV u Γ R Z) (hu : 1998 * (u + 5000) < 2 ^ 31) (a : Int32) (d : Int32) : STEP l Γ (u + 850) yL_addHouse wsL_addHouse yX7_addHouse wsX7_addHouse [.int a, .int d] R O Z := by
  obtain ⟨M, X, G, J, S, C, P, Q, A, T, D, N, V, I, K, B, pm, k, rfl, hC, hL, hI⟩ := h
  have hPG := hI.pg
  have hA8 := hI.a8
  have h475 := hC.1 475 (by decide) (by decide)
  have hk := hI.2.1
  have hJ := hI.2.2.1
  have hp := hI.1.1
  have lo := hI.pmlo (i := k) (by omega)
  have rv : fX7_addHouse_v A T D N V I K B a d = _ := rfl
  have hAC := ac_addHouse hPG.1 hPG.2.1 a d
  have hLe := rL_addHouse N a d
  have eA := rA_addHouse A T D N V I K B a d
  have eI := rI_addHouse A T D N V I K B a d
  rcases hAC with ⟨r0, ⟨x1, -⟩, ev, rl, pi⟩ | ⟨r1, r3, x1, eP, eN⟩
  · rw [if_pos r0] at eA eI
    have cls := mX6_addHouse (l := l) (mS M A T D N V I K B) R O hC X G J S C P Q pm hp k hJ hk hPG.2.2 a d x1
    rw [mS_lo _ _ _ _ _ _ _ _ _ (show pm k < 24 by omega), ZZ_up _ _ _ _ _ _ _ _ _ _ _ _ _ _ _ _ _ (show pm k < 24 by omega)] at cls
    have wrp := wL_addHouse hcs h475 hall (by decide) (by decide) a d cls
    have ref := mX7_addHouse (l := l) (cS (va_up M (pm k) (fX2_copyFrom_P P (M (pm k)))) X G (keepJ J) S C (fX2_buildHouse_P P a d) Q) (keepR R J) (fX2_buildHouse_v P a d).toInt64 (keepR_LM hL hJ hk) A T D N V I K B a d hPG.2.1.ws hA8.1 hA8.2
    rw [eA, eI, show fX7_addHouse_v A T D N V I K B a d = fX2_buildHouse_v P a d from ev] at ref
    rw [← ZZ_m, ← ZZ_m] at ref
    refine ⟨0, _, _, _, _, _, _, _, ?_, ?_, wrp, ref, ?_, fun _ => rfl, _, _, _, _, _, _, _, _, _, _, _, _, _, _, _, _, _, _, rfl, keepR_LC hC hJ hk, keepR_LM hL hJ hk, hI.act rl pi (hPG.2.2.of (fun i hi => fl_house P a d hi))⟩
    · decide
    · decide
    · rw [ZZ_24, noteA_o _ _ _ _ _ _ _ _ (by decide)]; rfl
  · have r0 : ¬ rfAH N a d = 0 := by omega
    rw [if_neg r0] at eA eI
    have ref := fun R1 O1 M1 hL1 => mX7_addHouse (l := l) (Γ := Γ) (cS M1 X G J S C P Q) R1 O1 hL1 A T D N V I K B a d hPG.2.1.ws hA8.1 hA8.2
    simp only [eA, eI, show fX7_addHouse_N A T D N V I K B a d = N from eN] at ref
    have inv : INV (u + 850) Γ R (ZZ (va_up M (pm k) (fX2_copyFrom_P P (M (pm k)))) X G J S C P Q (upd A 0 (nI (rfAH N a d))) T D N V I K B) := ⟨_, _, _, _, _, _, _, _, _, _, _, _, _, _, _, _, _, _, rfl, hC, hL, ((hI.draft (fX2_copyFrom_P P (M (pm k)))).ref (nI (rfAH N a d))).le (by omega)⟩
    by_cases q0 : rfAH N a d = 1
    · rw [q0, EE_1] at x1
      rw [q0] at ref inv
      have cls := tX6_addHouse (l := l) hst (mS M A T D N V I K B) R O hC X G J S C P Q pm hp k hJ hk hPG.2.2 a d x1
      rw [mS_lo _ _ _ _ _ _ _ _ _ (show pm k < 24 by omega), ZZ_up _ _ _ _ _ _ _ _ _ _ _ _ _ _ _ _ _ (show pm k < 24 by omega), eP] at cls
      have wrp := wL_addHouse_t1 hcs h475 (by decide) (by decide) a d cls
      have ref := ref R O (va_up M (pm k) (fX2_copyFrom_P P (M (pm k)))) hL
      rw [← ZZ_m, ← ZZ_m] at ref
      refine ⟨1, _, _, _, _, _, _, _, ?_, ?_, wrp, ref, ?_, fun e => absurd e (by decide), inv⟩
      · decide
      · decide
      · rw [ZZ_24]; rfl
    by_cases q1 : rfAH N a d = 2
    · rw [q1, EE_2] at x1
      rw [q1] at ref inv
      have cls := tX6_addHouse (l := l) hst (mS M A T D N V I K B) R O hC X G J S C P Q pm hp k hJ hk hPG.2.2 a d x1
      rw [mS_lo _ _ _ _ _ _ _ _ _ (show pm k < 24 by omega), ZZ_up _ _ _ _ _ _ _ _ _ _ _ _ _ _ _ _ _ (show pm k < 24 by omega), eP] at cls
      have wrp := wL_addHouse_t2 hcs h475 (by decide) (by decide) a d cls
      have ref := ref R O (va_up M (pm k) (fX2_copyFrom_P P (M (pm k)))) hL
      rw [← ZZ_m, ← ZZ_m] at ref
      refine ⟨2, _, _, _, _, _, _, _, ?_, ?_, wrp, ref, ?_, fun e => absurd e (by decide), inv⟩
      · decide
      · decide
      · rw [ZZ_24]; rfl
    have q2 : rfAH N a d = 3 := by omega
    rw [q2, EE_3] at x1
    rw [q2] at ref inv
    have cls := tX6_addHouse (l := l) hst (mS M A T D N V I K B) R O hC X G J S C P Q pm hp k hJ hk hPG.2.2 a d x1
    rw [mS_lo _ _ _ _ _ _ _ _ _ (show pm k < 24 by omega), ZZ_up _ _ _ _ _ _ _ _ _ _ _ _ _ _ _ _ _ (show pm k < 24 by omega), eP] at cls
    have wrp := wL_addHouse_t3 hcs h475 (by decide) (by decide) a d cls
    have ref := ref R O (va_up M (pm k) (fX2_copyFrom_P P (M (pm k)))) hL
    rw [← ZZ_m, ← ZZ_m] at ref
    refine ⟨3, _, _, _, _, _, _, _, ?_, ?_, wrp, ref, ?_, fun e => absurd e (by decide), inv⟩
    · decide
    · decide
    · rw [ZZ_24]; rfl
theorem rA_addWagon (A T D N V I K B : Nat → Int32) (a : Int32) : fX7_addWagon_A A T D N V I K B a = if rfAW N a = 0 then fX7_note_A (upd A 0 0) T D N V I K B else upd A 0 (nI (rfAW N a)) := by
  unfold fX7_addWagon_A rfAW
  by_cases c0 : fX7_isSegment_v N a = 0
  · simp only [if_pos c0]; rfl
  · skip
    by_cases c1 : N 2 = 3
    · simp only [if_neg c0, if_pos c1]; rfl
    · skip
      simp only [if_neg c0, if_neg c1]; rfl
theorem rI_addWagon (A T D N V I K B : Nat → Int32) (a : Int32) : fX7_addWagon_I A T D N V I K B a = if rfAW N a = 0 then fX7_note_I (upd A 0 0) T D N V I K B else I := by
  unfold fX7_addWagon_I rfAW
  by_cases c0 : fX7_isSegment_v N a = 0
  · simp only [if_pos c0]; rfl
  · skip
    by_cases c1 : N 2 = 3
    · simp only [if_neg c0, if_pos c1]; rfl
    · skip
      simp only [if_neg c0, if_neg c1]; rfl
theorem rL_addWagon (N : Nat → Int32) (a : Int32) : rfAW N a ≤ 2 := by
  unfold rfAW
  (repeat' split) <;> omega
set_option maxRecDepth 100000 in
theorem st_addWagon {l : Launch} {Γ : gX} (hst : l.stackTraces = false) (hcs : 491 ∈ gcs Γ) (hall : ∀ c ∈ gcs Γ, c < 492) {u : Nat} {R : Nat → Nat → Option Nat} {O : Int64} {Z : Nat → Nat → Int32} (h : INV u Γ R Z) (hu : 1998 * (u + 5000) < 2 ^ 31) (a : Int32) : STEP l Γ (u + 850) yL_addWagon wsL_addWagon yX7_addWagon wsX7_addWagon [.int a] R O Z := by
  obtain ⟨M, X, G, J, S, C, P, Q, A, T, D, N, V, I, K, B, pm, k, rfl, hC, hL, hI⟩ := h
  have hPG := hI.pg
  have hA8 := hI.a8
  have h475 := hC.1 475 (by decide) (by decide)
  have hk := hI.2.1
  have hJ := hI.2.2.1
  have hp := hI.1.1
  have lo := hI.pmlo (i := k) (by omega)
  have rv : fX7_addWagon_v A T D N V I K B a = _ := rfl
  have hAC := ac_addWagon hPG.1 hPG.2.1 a
  have hLe := rL_addWagon N a
  have eA := rA_addWagon A T D N V I K B a
  have eI := rI_addWagon A T D N V I K B a
  rcases hAC with ⟨r0, ⟨x1, -⟩, ev, rl, pi⟩ | ⟨r1, r3, x1, eP, eN⟩
  · rw [if_pos r0] at eA eI
    have cls := mX6_addWagon (l := l) (mS M A T D N V I K B) R O hC X G J S C P Q pm hp k hJ hk hPG.2.2 a x1
    rw [mS_lo _ _ _ _ _ _ _ _ _ (show pm k < 24 by omega), ZZ_up _ _ _ _ _ _ _ _ _ _ _ _ _ _ _ _ _ (show pm k < 24 by omega)] at cls
    have wrp := wL_addWagon hcs h475 hall (by decide) (by decide) a cls
    have ref := mX7_addWagon (l := l) (cS (va_up M (pm k) (fX2_copyFrom_P P (M (pm k)))) X G (keepJ J) S C (fX2_bringWagon_P P a) Q) (keepR R J) (fX2_bringWagon_v P a).toInt64 (keepR_LM hL hJ hk) A T D N V I K B a hPG.2.1.ws hA8.1 hA8.2
    rw [eA, eI, show fX7_addWagon_v A T D N V I K B a = fX2_bringWagon_v P a from ev] at ref
    rw [← ZZ_m, ← ZZ_m] at ref
    refine ⟨0, _, _, _, _, _, _, _, ?_, ?_, wrp, ref, ?_, fun _ => rfl, _, _, _, _, _, _, _, _, _, _, _, _, _, _, _, _, _, _, rfl, keepR_LC hC hJ hk, keepR_LM hL hJ hk, hI.act rl pi (hPG.2.2.of (fun i hi => fl_wagon P a hi))⟩
    · decide
    · decide
    · rw [ZZ_24, noteA_o _ _ _ _ _ _ _ _ (by decide)]; rfl
  · have r0 : ¬ rfAW N a = 0 := by omega
    rw [if_neg r0] at eA eI
    have ref := fun R1 O1 M1 hL1 => mX7_addWagon (l := l) (Γ := Γ) (cS M1 X G J S C P Q) R1 O1 hL1 A T D N V I K B a hPG.2.1.ws hA8.1 hA8.2
    simp only [eA, eI, show fX7_addWagon_N A T D N V I K B a = N from eN] at ref
    have inv : INV (u + 850) Γ R (ZZ (va_up M (pm k) (fX2_copyFrom_P P (M (pm k)))) X G J S C P Q (upd A 0 (nI (rfAW N a))) T D N V I K B) := ⟨_, _, _, _, _, _, _, _, _, _, _, _, _, _, _, _, _, _, rfl, hC, hL, ((hI.draft (fX2_copyFrom_P P (M (pm k)))).ref (nI (rfAW N a))).le (by omega)⟩
    by_cases q0 : rfAW N a = 1
    · rw [q0, EE_1] at x1
      rw [q0] at ref inv
      have cls := tX6_addWagon (l := l) hst (mS M A T D N V I K B) R O hC X G J S C P Q pm hp k hJ hk hPG.2.2 a x1
      rw [mS_lo _ _ _ _ _ _ _ _ _ (show pm k < 24 by omega), ZZ_up _ _ _ _ _ _ _ _ _ _ _ _ _ _ _ _ _ (show pm k < 24 by omega), eP] at cls
      have wrp := wL_addWagon_t1 hcs h475 (by decide) (by decide) a cls
      have ref := ref R O (va_up M (pm k) (fX2_copyFrom_P P (M (pm k)))) hL
      rw [← ZZ_m, ← ZZ_m] at ref
      refine ⟨1, _, _, _, _, _, _, _, ?_, ?_, wrp, ref, ?_, fun e => absurd e (by decide), inv⟩
      · decide
      · decide
      · rw [ZZ_24]; rfl
    have q1 : rfAW N a = 2 := by omega
    rw [q1, EE_2] at x1
    rw [q1] at ref inv
    have cls := tX6_addWagon (l := l) hst (mS M A T D N V I K B) R O hC X G J S C P Q pm hp k hJ hk hPG.2.2 a x1
    rw [mS_lo _ _ _ _ _ _ _ _ _ (show pm k < 24 by omega), ZZ_up _ _ _ _ _ _ _ _ _ _ _ _ _ _ _ _ _ (show pm k < 24 by omega), eP] at cls
    have wrp := wL_addWagon_t2 hcs h475 (by decide) (by decide) a cls
    have ref := ref R O (va_up M (pm k) (fX2_copyFrom_P P (M (pm k)))) hL
    rw [← ZZ_m, ← ZZ_m] at ref
    refine ⟨2, _, _, _, _, _, _, _, ?_, ?_, wrp, ref, ?_, fun e => absurd e (by decide), inv⟩
    · decide
    · decide
    · rw [ZZ_24]; rfl
theorem rA_setSurface (A T D N V I K B : Nat → Int32) (a : Int32) (d : Int32) : fX7_setSurface_A A T D N V I K B a d = if rfSS N a d = 0 then fX7_note_A (upd A 0 0) T D N V I K B else upd A 0 (nI (rfSS N a d)) := by
  unfold fX7_setSurface_A rfSS
  by_cases c0 : fX7_isSegment_v N a = 0
  · simp only [if_pos c0]; rfl
  · skip
    by_cases c1 : fX7_in_v d.toInt64 0 2 = 0
    · simp only [if_neg c0, if_pos c1]; rfl
    · skip
      simp only [if_neg c0, if_neg c1]; rfl
theorem rI_setSurface (A T D N V I K B : Nat → Int32) (a : Int32) (d : Int32) : fX7_setSurface_I A T D N V I K B a d = if rfSS N a d = 0 then fX7_note_I (upd A 0 0) T D N V I K B else I := by
  unfold fX7_setSurface_I rfSS
  by_cases c0 : fX7_isSegment_v N a = 0
  · simp only [if_pos c0]; rfl
  · skip
    by_cases c1 : fX7_in_v d.toInt64 0 2 = 0
    · simp only [if_neg c0, if_pos c1]; rfl
    · skip
      simp only [if_neg c0, if_neg c1]; rfl
theorem rL_setSurface (N : Nat → Int32) (a : Int32) (d : Int32) : rfSS N a d ≤ 2 := by
  unfold rfSS
  (repeat' split) <;> omega
set_option maxRecDepth 100000 in
theorem st_setSurface {l : Launch} {Γ : gX} (hst : l.stackTraces = false) (hcs : 491 ∈ gcs Γ) (hall : ∀ c ∈ gcs Γ, c < 492) {u : Nat} {R : Nat → Nat → Option Nat} {O : Int64} {Z : Nat → Nat → Int32} (h : INV u Γ R Z) (hu : 1998 * (u + 5000) < 2 ^ 31) (a : Int32) (d : Int32) : STEP l Γ (u + 850) yL_setSurface wsL_setSurface yX7_setSurface wsX7_setSurface [.int a, .int d] R O Z := by
  obtain ⟨M, X, G, J, S, C, P, Q, A, T, D, N, V, I, K, B, pm, k, rfl, hC, hL, hI⟩ := h
  have hPG := hI.pg
  have hA8 := hI.a8
  have h475 := hC.1 475 (by decide) (by decide)
  have hk := hI.2.1
  have hJ := hI.2.2.1
  have hp := hI.1.1
  have lo := hI.pmlo (i := k) (by omega)
  have rv : fX7_setSurface_v A T D N V I K B a d = _ := rfl
  have hAC := ac_setSurface hPG.1 hPG.2.1 a d
  have hLe := rL_setSurface N a d
  have eA := rA_setSurface A T D N V I K B a d
  have eI := rI_setSurface A T D N V I K B a d
  rcases hAC with ⟨r0, ⟨x1, -⟩, ev, rl, pi⟩ | ⟨r1, r3, x1, eP, eN⟩
  · rw [if_pos r0] at eA eI
    have cls := mX6_setSurface (l := l) (mS M A T D N V I K B) R O hC X G J S C P Q pm hp k hJ hk hPG.2.2 a d x1
    rw [mS_lo _ _ _ _ _ _ _ _ _ (show pm k < 24 by omega), ZZ_up _ _ _ _ _ _ _ _ _ _ _ _ _ _ _ _ _ (show pm k < 24 by omega)] at cls
    have wrp := wL_setSurface hcs h475 hall (by decide) (by decide) a d cls
    have ref := mX7_setSurface (l := l) (cS (va_up M (pm k) (fX2_copyFrom_P P (M (pm k)))) X G (keepJ J) S C (fX2_changeSurface_P P a d) Q) (keepR R J) (fX2_changeSurface_v P a d).toInt64 (keepR_LM hL hJ hk) A T D N V I K B a d hPG.2.1.ws hA8.1 hA8.2
    rw [eA, eI, show fX7_setSurface_v A T D N V I K B a d = fX2_changeSurface_v P a d from ev] at ref
    rw [← ZZ_m, ← ZZ_m] at ref
    refine ⟨0, _, _, _, _, _, _, _, ?_, ?_, wrp, ref, ?_, fun _ => rfl, _, _, _, _, _, _, _, _, _, _, _, _, _, _, _, _, _, _, rfl, keepR_LC hC hJ hk, keepR_LM hL hJ hk, hI.act rl pi (hPG.2.2.of (fun i hi => fl_surface P a d hi))⟩
    · decide
    · decide
    · rw [ZZ_24, noteA_o _ _ _ _ _ _ _ _ (by decide)]; rfl
  · have r0 : ¬ rfSS N a d = 0 := by omega
    rw [if_neg r0] at eA eI
    have ref := fun R1 O1 M1 hL1 => mX7_setSurface (l := l) (Γ := Γ) (cS M1 X G J S C P Q) R1 O1 hL1 A T D N V I K B a d hPG.2.1.ws hA8.1 hA8.2
    simp only [eA, eI, show fX7_setSurface_N A T D N V I K B a d = N from eN] at ref
    have inv : INV (u + 850) Γ R (ZZ (va_up M (pm k) (fX2_copyFrom_P P (M (pm k)))) X G J S C P Q (upd A 0 (nI (rfSS N a d))) T D N V I K B) := ⟨_, _, _, _, _, _, _, _, _, _, _, _, _, _, _, _, _, _, rfl, hC, hL, ((hI.draft (fX2_copyFrom_P P (M (pm k)))).ref (nI (rfSS N a d))).le (by omega)⟩
    by_cases q0 : rfSS N a d = 1
    · rw [q0, EE_1] at x1
      rw [q0] at ref inv
      have cls := tX6_setSurface (l := l) hst (mS M A T D N V I K B) R O hC X G J S C P Q pm hp k hJ hk hPG.2.2 a d x1
      rw [mS_lo _ _ _ _ _ _ _ _ _ (show pm k < 24 by omega), ZZ_up _ _ _ _ _ _ _ _ _ _ _ _ _ _ _ _ _ (show pm k < 24 by omega), eP] at cls
      have wrp := wL_setSurface_t1 hcs h475 (by decide) (by decide) a d cls
      have ref := ref R O (va_up M (pm k) (fX2_copyFrom_P P (M (pm k)))) hL
      rw [← ZZ_m, ← ZZ_m] at ref
      refine ⟨1, _, _, _, _, _, _, _, ?_, ?_, wrp, ref, ?_, fun e => absurd e (by decide), inv⟩
      · decide
      · decide
      · rw [ZZ_24]; rfl
    have q1 : rfSS N a d = 2 := by omega
    rw [q1, EE_2] at x1
    rw [q1] at ref inv
    have cls := tX6_setSurface (l := l) hst (mS M A T D N V I K B) R O hC X G J S C P Q pm hp k hJ hk hPG.2.2 a d x1
    rw [mS_lo _ _ _ _ _ _ _ _ _ (show pm k < 24 by omega), ZZ_up _ _ _ _ _ _ _ _ _ _ _ _ _ _ _ _ _ (show pm k < 24 by omega), eP] at cls
    have wrp := wL_setSurface_t2 hcs h475 (by decide) (by decide) a d cls
    have ref := ref R O (va_up M (pm k) (fX2_copyFrom_P P (M (pm k)))) hL
    rw [← ZZ_m, ← ZZ_m] at ref
    refine ⟨2, _, _, _, _, _, _, _, ?_, ?_, wrp, ref, ?_, fun e => absurd e (by decide), inv⟩
    · decide
    · decide
    · rw [ZZ_24]; rfl
theorem rA_setLimit (A T D N V I K B : Nat → Int32) (a : Int32) (d : Int32) : fX7_setLimit_A A T D N V I K B a d = if rfSL N a d = 0 then fX7_note_A (upd A 0 0) T D N V I K B else upd A 0 (nI (rfSL N a d)) := by
  unfold fX7_setLimit_A rfSL
  by_cases c0 : fX7_isSegment_v N a = 0
  · simp only [if_pos c0]; rfl
  · skip
    by_cases c1 : fX7_in_v d.toInt64 1 5 = 0
    · simp only [if_neg c0, if_pos c1]; rfl
    · skip
      by_cases c2 : d ≤ 5 - N (12 + 7 * a.toNatClampNeg + 2)
      rotate_left
      · simp only [if_neg c0, if_neg c1, if_neg c2]; rfl
      · skip
        simp only [if_neg c0, if_neg c1, if_pos c2]; rfl
theorem rI_setLimit (A T D N V I K B : Nat → Int32) (a : Int32) (d : Int32) : fX7_setLimit_I A T D N V I K B a d = if rfSL N a d = 0 then fX7_note_I (upd A 0 0) T D N V I K B else I := by
  unfold fX7_setLimit_I rfSL
  by_cases c0 : fX7_isSegment_v N a = 0
  · simp only [if_pos c0]; rfl
  · skip
    by_cases c1 : fX7_in_v d.toInt64 1 5 = 0
    · simp only [if_neg c0, if_pos c1]; rfl
    · skip
      by_cases c2 : d ≤ 5 - N (12 + 7 * a.toNatClampNeg + 2)
      rotate_left
      · simp only [if_neg c0, if_neg c1, if_neg c2]; rfl
      · skip
        simp only [if_neg c0, if_neg c1, if_pos c2]; rfl
theorem rL_setLimit (N : Nat → Int32) (a : Int32) (d : Int32) : rfSL N a d ≤ 3 := by
  unfold rfSL
  (repeat' split) <;> omega
set_option maxRecDepth 100000 in
theorem st_setLimit {l : Launch} {Γ : gX} (hst : l.stackTraces = false) (hcs : 491 ∈ gcs Γ) (hall : ∀ c ∈ gcs Γ, c < 492) {u : Nat} {R : Nat → Nat → Option Nat} {O : Int64} {Z : Nat → Nat → Int32} (h : INV u Γ R Z) (hu : 1998 * (u + 5000) < 2 ^ 31) (a : Int32) (d : Int32) : STEP l Γ (u + 850) yL_setLimit wsL_setLimit yX7_setLimit wsX7_setLimit [.int a, .int d] R O Z := by
  obtain ⟨M, X, G, J, S, C, P, Q, A, T, D, N, V, I, K, B, pm, k, rfl, hC, hL, hI⟩ := h
  have hPG := hI.pg
  have hA8 := hI.a8
  have h475 := hC.1 475 (by decide) (by decide)
  have hk := hI.2.1
  have hJ := hI.2.2.1
  have hp := hI.1.1
  have lo := hI.pmlo (i := k) (by omega)
  have rv : fX7_setLimit_v A T D N V I K B a d = _ := rfl
  have hAC := ac_setLimit hPG.1 hPG.2.1 a d
  have hLe := rL_setLimit N a d
  have eA := rA_setLimit A T D N V I K B a d
  have eI := rI_setLimit A T D N V I K B a d
  rcases hAC with ⟨r0, ⟨x1, -⟩, ev, rl, pi⟩ | ⟨r1, r3, x1, eP, eN⟩
  · rw [if_pos r0] at eA eI
    have cls := mX6_setLimit (l := l) (mS M A T D N V I K B) R O hC X G J S C P Q pm hp k hJ hk hPG.2.2 a d x1
    rw [mS_lo _ _ _ _ _ _ _ _ _ (show pm k < 24 by omega), ZZ_up _ _ _ _ _ _ _ _ _ _ _ _ _ _ _ _ _ (show pm k < 24 by omega)] at cls
    have wrp := wL_setLimit hcs h475 hall (by decide) (by decide) a d cls
    have ref := mX7_setLimit (l := l) (cS (va_up M (pm k) (fX2_copyFrom_P P (M (pm k)))) X G (keepJ J) S C (fX2_changeLimit_P P a d) Q) (keepR R J) (fX2_changeLimit_v P a d).toInt64 (keepR_LM hL hJ hk) A T D N V I K B a d hPG.2.1.ws hA8.1 hA8.2
    rw [eA, eI, show fX7_setLimit_v A T D N V I K B a d = fX2_changeLimit_v P a d from ev] at ref
    rw [← ZZ_m, ← ZZ_m] at ref
    refine ⟨0, _, _, _, _, _, _, _, ?_, ?_, wrp, ref, ?_, fun _ => rfl, _, _, _, _, _, _, _, _, _, _, _, _, _, _, _, _, _, _, rfl, keepR_LC hC hJ hk, keepR_LM hL hJ hk, hI.act rl pi (hPG.2.2.of (fun i hi => fl_limit P a d hi))⟩
    · decide
    · decide
    · rw [ZZ_24, noteA_o _ _ _ _ _ _ _ _ (by decide)]; rfl
  · have r0 : ¬ rfSL N a d = 0 := by omega
    rw [if_neg r0] at eA eI
    have ref := fun R1 O1 M1 hL1 => mX7_setLimit (l := l) (Γ := Γ) (cS M1 X G J S C P Q) R1 O1 hL1 A T D N V I K B a d hPG.2.1.ws hA8.1 hA8.2
    simp only [eA, eI, show fX7_setLimit_N A T D N V I K B a d = N from eN] at ref
    have inv : INV (u + 850) Γ R (ZZ (va_up M (pm k) (fX2_copyFrom_P P (M (pm k)))) X G J S C P Q (upd A 0 (nI (rfSL N a d))) T D N V I K B) := ⟨_, _, _, _, _, _, _, _, _, _, _, _, _, _, _, _, _, _, rfl, hC, hL, ((hI.draft (fX2_copyFrom_P P (M (pm k)))).ref (nI (rfSL N a d))).le (by omega)⟩
    by_cases q0 : rfSL N a d = 1
    · rw [q0, EE_1] at x1
      rw [q0] at ref inv
      have cls := tX6_setLimit (l := l) hst (mS M A T D N V I K B) R O hC X G J S C P Q pm hp k hJ hk hPG.2.2 a d x1
      rw [mS_lo _ _ _ _ _ _ _ _ _ (show pm k < 24 by omega), ZZ_up _ _ _ _ _ _ _ _ _ _ _ _ _ _ _ _ _ (show pm k < 24 by omega), eP] at cls
      have wrp := wL_setLimit_t1 hcs h475 (by decide) (by decide) a d cls
      have ref := ref R O (va_up M (pm k) (fX2_copyFrom_P P (M (pm k)))) hL
      rw [← ZZ_m, ← ZZ_m] at ref
      refine ⟨1, _, _, _, _, _, _, _, ?_, ?_, wrp, ref, ?_, fun e => absurd e (by decide), inv⟩
      · decide
      · decide
      · rw [ZZ_24]; rfl
    by_cases q1 : rfSL N a d = 2
    · rw [q1, EE_2] at x1
      rw [q1] at ref inv
      have cls := tX6_setLimit (l := l) hst (mS M A T D N V I K B) R O hC X G J S C P Q pm hp k hJ hk hPG.2.2 a d x1
      rw [mS_lo _ _ _ _ _ _ _ _ _ (show pm k < 24 by omega), ZZ_up _ _ _ _ _ _ _ _ _ _ _ _ _ _ _ _ _ (show pm k < 24 by omega), eP] at cls
      have wrp := wL_setLimit_t2 hcs h475 (by decide) (by decide) a d cls
      have ref := ref R O (va_up M (pm k) (fX2_copyFrom_P P (M (pm k)))) hL
      rw [← ZZ_m, ← ZZ_m] at ref
      refine ⟨2, _, _, _, _, _, _, _, ?_, ?_, wrp, ref, ?_, fun e => absurd e (by decide), inv⟩
      · decide
      · decide
      · rw [ZZ_24]; rfl
    have q2 : rfSL N a d = 3 := by omega
    rw [q2, EE_3] at x1
    rw [q2] at ref inv
    have cls := tX6_setLimit (l := l) hst (mS M A T D N V I K B) R O hC X G J S C P Q pm hp k hJ hk hPG.2.2 a d x1
    rw [mS_lo _ _ _ _ _ _ _ _ _ (show pm k < 24 by omega), ZZ_up _ _ _ _ _ _ _ _ _ _ _ _ _ _ _ _ _ (show pm k < 24 by omega), eP] at cls
    have wrp := wL_setLimit_t3 hcs h475 (by decide) (by decide) a d cls
    have ref := ref R O (va_up M (pm k) (fX2_copyFrom_P P (M (pm k)))) hL
    rw [← ZZ_m, ← ZZ_m] at ref
    refine ⟨3, _, _, _, _, _, _, _, ?_, ?_, wrp, ref, ?_, fun e => absurd e (by decide), inv⟩
    · decide
    · decide
    · rw [ZZ_24]; rfl
theorem rA_set (A T D N V I K B : Nat → Int32) (a : Int32) (d : Int32) : fX7_set_A A T D N V I K B a d = if rfST a d = 0 then fX7_note_A (upd A 0 0) T D N V I K B else upd A 0 (nI (rfST a d)) := by
  unfold fX7_set_A rfST
  by_cases c0 : fX7_isSetting_v a d = 0
  · simp only [if_pos c0]; rfl
  · skip
    simp only [if_neg c0]; rfl
theorem rI_set (A T D N V I K B : Nat → Int32) (a : Int32) (d : Int32) : fX7_set_I A T D N V I K B a d = if rfST a d = 0 then fX7_note_I (upd A 0 0) T D N V I K B else I := by
  unfold fX7_set_I rfST
  by_cases c0 : fX7_isSetting_v a d = 0
  · simp only [if_pos c0]; rfl
  · skip
    simp only [if_neg c0]; rfl
theorem rL_set (N : Nat → Int32) (a : Int32) (d : Int32) : rfST a d ≤ 1 := by
  unfold rfST
  (repeat' split) <;> omega
set_option maxRecDepth 100000 in
theorem st_set {l : Launch} {Γ : gX} (hst : l.stackTraces = false) (hcs : 491 ∈ gcs Γ) (hall : ∀ c ∈ gcs Γ, c < 492) {u : Nat} {R : Nat → Nat → Option Nat} {O : Int64} {Z : Nat → Nat → Int32} (h : INV u Γ R Z) (hu : 1998 * (u + 5000) < 2 ^ 31) (a : Int32) (d : Int32) : STEP l Γ (u + 850) yL_set wsL_set yX7_set wsX7_set [.int a, .int d] R O Z := by
  obtain ⟨M, X, G, J, S, C, P, Q, A, T, D, N, V, I, K, B, pm, k, rfl, hC, hL, hI⟩ := h
  have hPG := hI.pg
  have hA8 := hI.a8
  have h475 := hC.1 475 (by decide) (by decide)
  have hk := hI.2.1
  have hJ := hI.2.2.1
  have hp := hI.1.1
  have lo := hI.pmlo (i := k) (by omega)
  have rv : fX7_set_v A T D N V I K B a d = _ := rfl
  have hAC := ac_set hPG.1 hPG.2.1 a d
  have hLe := rL_set N a d
  have eA := rA_set A T D N V I K B a d
  have eI := rI_set A T D N V I K B a d
  rcases hAC with ⟨r0, ⟨x1, -⟩, ev, rl, pi⟩ | ⟨r1, r3, x1, eP, eN⟩
  · rw [if_pos r0] at eA eI
    have cls := mX6_set (l := l) (mS M A T D N V I K B) R O hC X G J S C P Q pm hp k hJ hk hPG.2.2 a d x1
    rw [mS_lo _ _ _ _ _ _ _ _ _ (show pm k < 24 by omega), ZZ_up _ _ _ _ _ _ _ _ _ _ _ _ _ _ _ _ _ (show pm k < 24 by omega)] at cls
    have wrp := wL_set hcs h475 hall (by decide) (by decide) a d cls
    have ref := mX7_set (l := l) (cS (va_up M (pm k) (fX2_copyFrom_P P (M (pm k)))) X G (keepJ J) S C (fX2_changeNumber_P P a d) Q) (keepR R J) (fX2_changeNumber_v P a d).toInt64 (keepR_LM hL hJ hk) A T D N V I K B a d hPG.2.1.ws hA8.1 hA8.2
    rw [eA, eI, show fX7_set_v A T D N V I K B a d = fX2_changeNumber_v P a d from ev] at ref
    rw [← ZZ_m, ← ZZ_m] at ref
    refine ⟨0, _, _, _, _, _, _, _, ?_, ?_, wrp, ref, ?_, fun _ => rfl, _, _, _, _, _, _, _, _, _, _, _, _, _, _, _, _, _, _, rfl, keepR_LC hC hJ hk, keepR_LM hL hJ hk, hI.act rl pi (hPG.2.2.of (fun i hi => fl_set P a d hi))⟩
    · decide
    · decide
    · rw [ZZ_24, noteA_o _ _ _ _ _ _ _ _ (by decide)]; rfl
  · have r0 : ¬ rfST a d = 0 := by omega
    rw [if_neg r0] at eA eI
    have ref := fun R1 O1 M1 hL1 => mX7_set (l := l) (Γ := Γ) (cS M1 X G J S C P Q) R1 O1 hL1 A T D N V I K B a d hPG.2.1.ws hA8.1 hA8.2
    simp only [eA, eI, show fX7_set_N A T D N V I K B a d = N from eN] at ref
    have inv : INV (u + 850) Γ R (ZZ (va_up M (pm k) (fX2_copyFrom_P P (M (pm k)))) X G J S C P Q (upd A 0 (nI (rfST a d))) T D N V I K B) := ⟨_, _, _, _, _, _, _, _, _, _, _, _, _, _, _, _, _, _, rfl, hC, hL, ((hI.draft (fX2_copyFrom_P P (M (pm k)))).ref (nI (rfST a d))).le (by omega)⟩
    have q0 : rfST a d = 1 := by omega
    rw [q0, EE_1] at x1
    rw [q0] at ref inv
    have cls := tX6_set (l := l) hst (mS M A T D N V I K B) R O hC X G J S C P Q pm hp k hJ hk hPG.2.2 a d x1
    rw [mS_lo _ _ _ _ _ _ _ _ _ (show pm k < 24 by omega), ZZ_up _ _ _ _ _ _ _ _ _ _ _ _ _ _ _ _ _ (show pm k < 24 by omega), eP] at cls
    have wrp := wL_set_t1 hcs h475 (by decide) (by decide) a d cls
    have ref := ref R O (va_up M (pm k) (fX2_copyFrom_P P (M (pm k)))) hL
    rw [← ZZ_m, ← ZZ_m] at ref
    refine ⟨1, _, _, _, _, _, _, _, ?_, ?_, wrp, ref, ?_, fun e => absurd e (by decide), inv⟩
    · decide
    · decide
    · rw [ZZ_24]; rfl
theorem rA_drive (A T D N V I K B : Nat → Int32) (a : Int32) (d : Int32) : fX7_drive_A A T D N V I K B a d = if rfDR N a d = 0 then fX7_note_A (upd A 0 0) T D N V I K B else upd A 0 (nI (rfDR N a d)) := by
  unfold fX7_drive_A rfDR
  by_cases c0 : fX7_isWagon_v N a = 0
  · simp only [if_pos c0]; rfl
  · skip
    by_cases c1 : fX7_isSegment_v N d = 0
    · simp only [if_neg c0, if_pos c1]; rfl
    · skip
      by_cases c2 : fX7_far_v N a.toNatClampNeg d ≤ N (122 + 3 * a.toNatClampNeg + 2)
      rotate_left
      · simp only [if_neg c0, if_neg c1, if_neg c2]; rfl
      · skip
        simp only [if_neg c0, if_neg c1, if_pos c2]; rfl
theorem rI_drive (A T D N V I K B : Nat → Int32) (a : Int32) (d : Int32) : fX7_drive_I A T D N V I K B a d = if rfDR N a d = 0 then fX7_note_I (upd A 0 0) T D N V I K B else I := by
  unfold fX7_drive_I rfDR
  by_cases c0 : fX7_isWagon_v N a = 0
  · simp only [if_pos c0]; rfl
  · skip
    by_cases c1 : fX7_isSegment_v N d = 0
    · simp only [if_neg c0, if_pos c1]; rfl
    · skip
      by_cases c2 : fX7_far_v N a.toNatClampNeg d ≤ N (122 + 3 * a.toNatClampNeg + 2)
      rotate_left
      · simp only [if_neg c0, if_neg c1, if_neg c2]; rfl
      · skip
        simp only [if_neg c0, if_neg c1, if_pos c2]; rfl
theorem rL_drive (N : Nat → Int32) (a : Int32) (d : Int32) : rfDR N a d ≤ 2 := by
  unfold rfDR
  (repeat' split) <;> omega
set_option maxRecDepth 100000 in
theorem st_drive {l : Launch} {Γ : gX} (hst : l.stackTraces = false) (hcs : 491 ∈ gcs Γ) (hall : ∀ c ∈ gcs Γ, c < 492) {u : Nat} {R : Nat → Nat → Option Nat} {O : Int64} {Z : Nat → Nat → Int32} (h : INV u Γ R Z) (hu : 1998 * (u + 5000) < 2 ^ 31) (a : Int32) (d : Int32) : STEP l Γ (u + 850) yL_drive wsL_drive yX7_drive wsX7_drive [.int a, .int d] R O Z := by
  obtain ⟨M, X, G, J, S, C, P, Q, A, T, D, N, V, I, K, B, pm, k, rfl, hC, hL, hI⟩ := h
  have hPG := hI.pg
  have hA8 := hI.a8
  have h475 := hC.1 475 (by decide) (by decide)
  have hk := hI.2.1
  have hJ := hI.2.2.1
  have hp := hI.1.1
  have lo := hI.pmlo (i := k) (by omega)
  have rv : fX7_drive_v A T D N V I K B a d = _ := rfl
  have hAC := ac_drive hPG.1 hPG.2.1 a d
  have hLe := rL_drive N a d
  have eA := rA_drive A T D N V I K B a d
  have eI := rI_drive A T D N V I K B a d
  rcases hAC with ⟨r0, ⟨x1, -⟩, ev, rl, pi⟩ | ⟨r1, r3, x1, eP, eN⟩
  · rw [if_pos r0] at eA eI
    have cls := mX6_drive (l := l) (mS M A T D N V I K B) R O hC X G J S C P Q pm hp k hJ hk hPG.2.2 a d x1
    rw [mS_lo _ _ _ _ _ _ _ _ _ (show pm k < 24 by omega), ZZ_up _ _ _ _ _ _ _ _ _ _ _ _ _ _ _ _ _ (show pm k < 24 by omega)] at cls
    have wrp := wL_drive hcs h475 hall (by decide) (by decide) a d cls
    have ref := mX7_drive (l := l) (cS (va_up M (pm k) (fX2_copyFrom_P P (M (pm k)))) X G (keepJ J) S C (fX2_moveWagon_P P a d) Q) (keepR R J) (fX2_moveWagon_v P a d).toInt64 (keepR_LM hL hJ hk) A T D N V I K B a d hPG.2.1.ws hA8.1 hA8.2
    rw [eA, eI, show fX7_drive_v A T D N V I K B a d = fX2_moveWagon_v P a d from ev] at ref
    rw [← ZZ_m, ← ZZ_m] at ref
    refine ⟨0, _, _, _, _, _, _, _, ?_, ?_, wrp, ref, ?_, fun _ => rfl, _, _, _, _, _, _, _, _, _, _, _, _, _, _, _, _, _, _, rfl, keepR_LC hC hJ hk, keepR_LM hL hJ hk, hI.act rl pi (hPG.2.2.of (fun i hi => fl_drive P a d hi))⟩
    · decide
    · decide
    · rw [ZZ_24, noteA_o _ _ _ _ _ _ _ _ (by decide)]; rfl
  · have r0 : ¬ rfDR N a d = 0 := by omega
    rw [if_neg r0] at eA eI
    have ref := fun R1 O1 M1 hL1 => mX7_drive (l := l) (Γ := Γ) (cS M1 X G J S C P Q) R1 O1 hL1 A T D N V I K B a d hPG.2.1.ws hA8.1 hA8.2
    simp only [eA, eI, show fX7_drive_N A T D N V I K B a d = N from eN] at ref
    have inv : INV (u + 850) Γ R (ZZ (va_up M (pm k) (fX2_copyFrom_P P (M (pm k)))) X G J S C P Q (upd A 0 (nI (rfDR N a d))) T D N V I K B) := ⟨_, _, _, _, _, _, _, _, _, _, _, _, _, _, _, _, _, _, rfl, hC, hL, ((hI.draft (fX2_copyFrom_P P (M (pm k)))).ref (nI (rfDR N a d))).le (by omega)⟩
    by_cases q0 : rfDR N a d = 1
    · rw [q0, EE_1] at x1
      rw [q0] at ref inv
      have cls := tX6_drive (l := l) hst (mS M A T D N V I K B) R O hC X G J S C P Q pm hp k hJ hk hPG.2.2 a d x1
      rw [mS_lo _ _ _ _ _ _ _ _ _ (show pm k < 24 by omega), ZZ_up _ _ _ _ _ _ _ _ _ _ _ _ _ _ _ _ _ (show pm k < 24 by omega), eP] at cls
      have wrp := wL_drive_t1 hcs h475 (by decide) (by decide) a d cls
      have ref := ref R O (va_up M (pm k) (fX2_copyFrom_P P (M (pm k)))) hL
      rw [← ZZ_m, ← ZZ_m] at ref
      refine ⟨1, _, _, _, _, _, _, _, ?_, ?_, wrp, ref, ?_, fun e => absurd e (by decide), inv⟩
      · decide
      · decide
      · rw [ZZ_24]; rfl
    have q1 : rfDR N a d = 2 := by omega
    rw [q1, EE_2] at x1
    rw [q1] at ref inv
    have cls := tX6_drive (l := l) hst (mS M A T D N V I K B) R O hC X G J S C P Q pm hp k hJ hk hPG.2.2 a d x1
    rw [mS_lo _ _ _ _ _ _ _ _ _ (show pm k < 24 by omega), ZZ_up _ _ _ _ _ _ _ _ _ _ _ _ _ _ _ _ _ (show pm k < 24 by omega), eP] at cls
    have wrp := wL_drive_t2 hcs h475 (by decide) (by decide) a d cls
    have ref := ref R O (va_up M (pm k) (fX2_copyFrom_P P (M (pm k)))) hL
    rw [← ZZ_m, ← ZZ_m] at ref
    refine ⟨2, _, _, _, _, _, _, _, ?_, ?_, wrp, ref, ?_, fun e => absurd e (by decide), inv⟩
    · decide
    · decide
    · rw [ZZ_24]; rfl
theorem rA_spray (A T D N V I K B : Nat → Int32) (a : Int32) (d : Int32) : fX7_spray_A A T D N V I K B a d = if rfSP N a d = 0 then fX7_note_A (upd A 0 0) T D N V I K B else upd A 0 (nI (rfSP N a d)) := by
  unfold fX7_spray_A rfSP
  by_cases c0 : fX7_isWagon_v N a = 0
  · simp only [if_pos c0]; rfl
  · skip
    by_cases c1 : fX7_in_v d.toInt64 1 9 = 0
    · simp only [if_neg c0, if_pos c1]; rfl
    · skip
      by_cases c2 : N (122 + 3 * a.toNatClampNeg + 2) = 0
      · simp only [if_neg c0, if_neg c1, if_pos c2]; rfl
      · skip
        by_cases c3 : d ≤ N (122 + 3 * a.toNatClampNeg + 1)
        rotate_left
        · simp only [if_neg c0, if_neg c1, if_neg c2, if_neg c3]; rfl
        · skip
          simp only [if_neg c0, if_neg c1, if_neg c2, if_pos c3]; rfl
theorem rI_spray (A T D N V I K B : Nat → Int32) (a : Int32) (d : Int32) : fX7_spray_I A T D N V I K B a d = if rfSP N a d = 0 then fX7_note_I (upd A 0 0) T D N V I K B else I := by
  unfold fX7_spray_I rfSP
  by_cases c0 : fX7_isWagon_v N a = 0
  · simp only [if_pos c0]; rfl
  · skip
    by_cases c1 : fX7_in_v d.toInt64 1 9 = 0
    · simp only [if_neg c0, if_pos c1]; rfl
    · skip
      by_cases c2 : N (122 + 3 * a.toNatClampNeg + 2) = 0
      · simp only [if_neg c0, if_neg c1, if_pos c2]; rfl
      · skip
        by_cases c3 : d ≤ N (122 + 3 * a.toNatClampNeg + 1)
        rotate_left
        · simp only [if_neg c0, if_neg c1, if_neg c2, if_neg c3]; rfl
        · skip
          simp only [if_neg c0, if_neg c1, if_neg c2, if_pos c3]; rfl
theorem rL_spray (N : Nat → Int32) (a : Int32) (d : Int32) : rfSP N a d ≤ 3 := by
  unfold rfSP
  (repeat' split) <;> omega
set_option maxRecDepth 100000 in
theorem st_spray {l : Launch} {Γ : gX} (hst : l.stackTraces = false) (hcs : 491 ∈ gcs Γ) (hall : ∀ c ∈ gcs Γ, c < 492) {u : Nat} {R : Nat → Nat → Option Nat} {O : Int64} {Z : Nat → Nat → Int32} (h : INV u Γ R Z) (hu : 1998 * (u + 5000) < 2 ^ 31) (a : Int32) (d : Int32) : STEP l Γ (u + 850) yL_spray wsL_spray yX7_spray wsX7_spray [.int a, .int d] R O Z := by
  obtain ⟨M, X, G, J, S, C, P, Q, A, T, D, N, V, I, K, B, pm, k, rfl, hC, hL, hI⟩ := h
  have hPG := hI.pg
  have hA8 := hI.a8
  have h475 := hC.1 475 (by decide) (by decide)
  have hk := hI.2.1
  have hJ := hI.2.2.1
  have hp := hI.1.1
  have lo := hI.pmlo (i := k) (by omega)
  have rv : fX7_spray_v A T D N V I K B a d = _ := rfl
  have hAC := ac_spray hPG.1 hPG.2.1 (by omega) a d
  have hLe := rL_spray N a d
  have eA := rA_spray A T D N V I K B a d
  have eI := rI_spray A T D N V I K B a d
  rcases hAC with ⟨r0, ⟨x1, -⟩, ev, rl, pi⟩ | ⟨r1, r3, x1, eP, eN⟩
  · rw [if_pos r0] at eA eI
    have cls := mX6_spray (l := l) (mS M A T D N V I K B) R O hC X G J S C P Q pm hp k hJ hk hPG.2.2 a d x1
    rw [mS_lo _ _ _ _ _ _ _ _ _ (show pm k < 24 by omega), ZZ_up _ _ _ _ _ _ _ _ _ _ _ _ _ _ _ _ _ (show pm k < 24 by omega)] at cls
    have wrp := wL_spray hcs h475 hall (by decide) (by decide) a d cls
    have ref := mX7_spray (l := l) (cS (va_up M (pm k) (fX2_copyFrom_P P (M (pm k)))) X G (keepJ J) S C (fX2_sprayFrom_P P a d) Q) (keepR R J) (fX2_sprayFrom_v P a d).toInt64 (keepR_LM hL hJ hk) A T D N V I K B a d hPG.2.1.ws hA8.1 hA8.2
    rw [eA, eI, show fX7_spray_v A T D N V I K B a d = fX2_sprayFrom_v P a d from ev] at ref
    rw [← ZZ_m, ← ZZ_m] at ref
    refine ⟨0, _, _, _, _, _, _, _, ?_, ?_, wrp, ref, ?_, fun _ => rfl, _, _, _, _, _, _, _, _, _, _, _, _, _, _, _, _, _, _, rfl, keepR_LC hC hJ hk, keepR_LM hL hJ hk, hI.act rl pi (hPG.2.2.of (fun i hi => fl_spray P a d hi))⟩
    · decide
    · decide
    · rw [ZZ_24, noteA_o _ _ _ _ _ _ _ _ (by decide)]; rfl
  · have r0 : ¬ rfSP N a d = 0 := by omega
    rw [if_neg r0] at eA eI
    have ref := fun R1 O1 M1 hL1 => mX7_spray (l := l) (Γ := Γ) (cS M1 X G J S C P Q) R1 O1 hL1 A T D N V I K B a d hPG.2.1.ws hA8.1 hA8.2
    simp only [eA, eI, show fX7_spray_N A T D N V I K B a d = N from eN] at ref
    have inv : INV (u + 850) Γ R (ZZ (va_up M (pm k) (fX2_copyFrom_P P (M (pm k)))) X G J S C P Q (upd A 0 (nI (rfSP N a d))) T D N V I K B) := ⟨_, _, _, _, _, _, _, _, _, _, _, _, _, _, _, _, _, _, rfl, hC, hL, ((hI.draft (fX2_copyFrom_P P (M (pm k)))).ref (nI (rfSP N a d))).le (by omega)⟩
    by_cases q0 : rfSP N a d = 1
    · rw [q0, EE_1] at x1
      rw [q0] at ref inv
      have cls := tX6_spray (l := l) hst (mS M A T D N V I K B) R O hC X G J S C P Q pm hp k hJ hk hPG.2.2 a d x1
      rw [mS_lo _ _ _ _ _ _ _ _ _ (show pm k < 24 by omega), ZZ_up _ _ _ _ _ _ _ _ _ _ _ _ _ _ _ _ _ (show pm k < 24 by omega), eP] at cls
      have wrp := wL_spray_t1 hcs h475 (by decide) (by decide) a d cls
      have ref := ref R O (va_up M (pm k) (fX2_copyFrom_P P (M (pm k)))) hL
      rw [← ZZ_m, ← ZZ_m] at ref
      refine ⟨1, _, _, _, _, _, _, _, ?_, ?_, wrp, ref, ?_, fun e => absurd e (by decide), inv⟩
      · decide
      · decide
      · rw [ZZ_24]; rfl
    by_cases q1 : rfSP N a d = 2
    · rw [q1, EE_2] at x1
      rw [q1] at ref inv
      have cls := tX6_spray (l := l) hst (mS M A T D N V I K B) R O hC X G J S C P Q pm hp k hJ hk hPG.2.2 a d x1
      rw [mS_lo _ _ _ _ _ _ _ _ _ (show pm k < 24 by omega), ZZ_up _ _ _ _ _ _ _ _ _ _ _ _ _ _ _ _ _ (show pm k < 24 by omega), eP] at cls
      have wrp := wL_spray_t2 hcs h475 (by decide) (by decide) a d cls
      have ref := ref R O (va_up M (pm k) (fX2_copyFrom_P P (M (pm k)))) hL
      rw [← ZZ_m, ← ZZ_m] at ref
      refine ⟨2, _, _, _, _, _, _, _, ?_, ?_, wrp, ref, ?_, fun e => absurd e (by decide), inv⟩
      · decide
      · decide
      · rw [ZZ_24]; rfl
    have q2 : rfSP N a d = 3 := by omega
    rw [q2, EE_3] at x1
    rw [q2] at ref inv
    have cls := tX6_spray (l := l) hst (mS M A T D N V I K B) R O hC X G J S C P Q pm hp k hJ hk hPG.2.2 a d x1
    rw [mS_lo _ _ _ _ _ _ _ _ _ (show pm k < 24 by omega), ZZ_up _ _ _ _ _ _ _ _ _ _ _ _ _ _ _ _ _ (show pm k < 24 by omega), eP] at cls
    have wrp := wL_spray_t3 hcs h475 (by decide) (by decide) a d cls
    have ref := ref R O (va_up M (pm k) (fX2_copyFrom_P P (M (pm k)))) hL
    rw [← ZZ_m, ← ZZ_m] at ref
    refine ⟨3, _, _, _, _, _, _, _, ?_, ?_, wrp, ref, ?_, fun e => absurd e (by decide), inv⟩
    · decide
    · decide
    · rw [ZZ_24]; rfl
theorem rA_fill (A T D N V I K B : Nat → Int32) (a : Int32) : fX7_fill_A A T D N V I K B a = if rfFI N a = 0 then fX7_note_A (upd A 0 0) T D N V I K B else upd A 0 (nI (rfFI N a)) := by
  unfold fX7_fill_A rfFI
  by_cases c0 : fX7_isWagon_v N a = 0
  · simp only [if_pos c0]; rfl
  · skip
    by_cases c1 : fX7_why_v N a.toNatClampNeg = 0
    rotate_left
    · simp only [if_neg c0, if_neg c1]; rfl
    · skip
      simp only [if_neg c0, if_pos c1]; rfl
theorem rI_fill (A T D N V I K B : Nat → Int32) (a : Int32) : fX7_fill_I A T D N V I K B a = if rfFI N a = 0 then fX7_note_I (upd A 0 0) T D N V I K B else I := by
  unfold fX7_fill_I rfFI
  by_cases c0 : fX7_isWagon_v N a = 0
  · simp only [if_pos c0]; rfl
  · skip
    by_cases c1 : fX7_why_v N a.toNatClampNeg = 0
    rotate_left
    · simp only [if_neg c0, if_neg c1]; rfl
    · skip
      simp only [if_neg c0, if_pos c1]; rfl
theorem rL_fill (N : Nat → Int32) (a : Int32) : rfFI N a ≤ 2 := by
  unfold rfFI
  (repeat' split) <;> omega
set_option maxRecDepth 100000 in
theorem st_fill {l : Launch} {Γ : gX} (hst : l.stackTraces = false) (hcs : 491 ∈ gcs Γ) (hall : ∀ c ∈ gcs Γ, c < 492) {u : Nat} {R : Nat → Nat → Option Nat} {O : Int64} {Z : Nat → Nat → Int32} (h : INV u Γ R Z) (hu : 1998 * (u + 5000) < 2 ^ 31) (a : Int32) : STEP l Γ (u + 850) yL_fill wsL_fill yX7_fill wsX7_fill [.int a] R O Z := by
  obtain ⟨M, X, G, J, S, C, P, Q, A, T, D, N, V, I, K, B, pm, k, rfl, hC, hL, hI⟩ := h
  have hPG := hI.pg
  have hA8 := hI.a8
  have h475 := hC.1 475 (by decide) (by decide)
  have hk := hI.2.1
  have hJ := hI.2.2.1
  have hp := hI.1.1
  have lo := hI.pmlo (i := k) (by omega)
  have rv : fX7_fill_v A T D N V I K B a = _ := rfl
  have hAC := ac_fill hPG.1 hPG.2.1 a
  have hLe := rL_fill N a
  have eA := rA_fill A T D N V I K B a
  have eI := rI_fill A T D N V I K B a
  rcases hAC with ⟨r0, ⟨x1, -⟩, ev, rl, pi⟩ | ⟨r1, r3, x1, eP, eN⟩
  · rw [if_pos r0] at eA eI
    have cls := mX6_fill (l := l) (mS M A T D N V I K B) R O hC X G J S C P Q pm hp k hJ hk hPG.2.2 a x1
    rw [mS_lo _ _ _ _ _ _ _ _ _ (show pm k < 24 by omega), ZZ_up _ _ _ _ _ _ _ _ _ _ _ _ _ _ _ _ _ (show pm k < 24 by omega)] at cls
    have wrp := wL_fill hcs h475 hall (by decide) (by decide) a cls
    have ref := mX7_fill (l := l) (cS (va_up M (pm k) (fX2_copyFrom_P P (M (pm k)))) X G (keepJ J) S C (fX2_fillTank_P P a) Q) (keepR R J) (fX2_fillTank_v P a).toInt64 (keepR_LM hL hJ hk) A T D N V I K B a hPG.2.1.ws hA8.1 hA8.2
    rw [eA, eI, show fX7_fill_v A T D N V I K B a = fX2_fillTank_v P a from ev] at ref
    rw [← ZZ_m, ← ZZ_m] at ref
    refine ⟨0, _, _, _, _, _, _, _, ?_, ?_, wrp, ref, ?_, fun _ => rfl, _, _, _, _, _, _, _, _, _, _, _, _, _, _, _, _, _, _, rfl, keepR_LC hC hJ hk, keepR_LM hL hJ hk, hI.act rl pi (hPG.2.2.of (fun i hi => fl_fill P a hi))⟩
    · decide
    · decide
    · rw [ZZ_24, noteA_o _ _ _ _ _ _ _ _ (by decide)]; rfl
  · have r0 : ¬ rfFI N a = 0 := by omega
    rw [if_neg r0] at eA eI
    have ref := fun R1 O1 M1 hL1 => mX7_fill (l := l) (Γ := Γ) (cS M1 X G J S C P Q) R1 O1 hL1 A T D N V I K B a hPG.2.1.ws hA8.1 hA8.2
    simp only [eA, eI, show fX7_fill_N A T D N V I K B a = N from eN] at ref
    have inv : INV (u + 850) Γ R (ZZ (va_up M (pm k) (fX2_copyFrom_P P (M (pm k)))) X G J S C P Q (upd A 0 (nI (rfFI N a))) T D N V I K B) := ⟨_, _, _, _, _, _, _, _, _, _, _, _, _, _, _, _, _, _, rfl, hC, hL, ((hI.draft (fX2_copyFrom_P P (M (pm k)))).ref (nI (rfFI N a))).le (by omega)⟩
    by_cases q0 : rfFI N a = 1
    · rw [q0, EE_1] at x1
      rw [q0] at ref inv
      have cls := tX6_fill (l := l) hst (mS M A T D N V I K B) R O hC X G J S C P Q pm hp k hJ hk hPG.2.2 a x1
      rw [mS_lo _ _ _ _ _ _ _ _ _ (show pm k < 24 by omega), ZZ_up _ _ _ _ _ _ _ _ _ _ _ _ _ _ _ _ _ (show pm k < 24 by omega), eP] at cls
      have wrp := wL_fill_t1 hcs h475 (by decide) (by decide) a cls
      have ref := ref R O (va_up M (pm k) (fX2_copyFrom_P P (M (pm k)))) hL
      rw [← ZZ_m, ← ZZ_m] at ref
      refine ⟨1, _, _, _, _, _, _, _, ?_, ?_, wrp, ref, ?_, fun e => absurd e (by decide), inv⟩
      · decide
      · decide
      · rw [ZZ_24]; rfl
    have q1 : rfFI N a = 2 := by omega
    rw [q1, EE_2] at x1
    rw [q1] at ref inv
    have cls := tX6_fill (l := l) hst (mS M A T D N V I K B) R O hC X G J S C P Q pm hp k hJ hk hPG.2.2 a x1
    rw [mS_lo _ _ _ _ _ _ _ _ _ (show pm k < 24 by omega), ZZ_up _ _ _ _ _ _ _ _ _ _ _ _ _ _ _ _ _ (show pm k < 24 by omega), eP] at cls
    have wrp := wL_fill_t2 hcs h475 (by decide) (by decide) a cls
    have ref := ref R O (va_up M (pm k) (fX2_copyFrom_P P (M (pm k)))) hL
    rw [← ZZ_m, ← ZZ_m] at ref
    refine ⟨2, _, _, _, _, _, _, _, ?_, ?_, wrp, ref, ?_, fun e => absurd e (by decide), inv⟩
    · decide
    · decide
    · rw [ZZ_24]; rfl
theorem rA_pass (A T D N V I K B : Nat → Int32) (a : Int32) : fX7_pass_A A T D N V I K B a = if rfPA a = 0 then fX7_note_A (upd A 0 0) T D N V I K B else upd A 0 (nI (rfPA a)) := by
  unfold fX7_pass_A rfPA
  by_cases c0 : fX7_in_v a.toInt64 1 50 = 0
  · simp only [if_pos c0]; rfl
  · skip
    simp only [if_neg c0]; rfl
theorem rI_pass (A T D N V I K B : Nat → Int32) (a : Int32) : fX7_pass_I A T D N V I K B a = if rfPA a = 0 then fX7_note_I (upd A 0 0) T D N V I K B else I := by
  unfold fX7_pass_I rfPA
  by_cases c0 : fX7_in_v a.toInt64 1 50 = 0
  · simp only [if_pos c0]; rfl
  · skip
    simp only [if_neg c0]; rfl
theorem rL_pass (N : Nat → Int32) (a : Int32) : rfPA a ≤ 1 := by
  unfold rfPA
  (repeat' split) <;> omega
set_option maxRecDepth 100000 in
theorem st_pass {l : Launch} {Γ : gX} (hst : l.stackTraces = false) (hcs : 491 ∈ gcs Γ) (hall : ∀ c ∈ gcs Γ, c < 492) {u : Nat} {R : Nat → Nat → Option Nat} {O : Int64} {Z : Nat → Nat → Int32} (h : INV u Γ R Z) (hu : 1998 * (u + 5000) < 2 ^ 31) (a : Int32) : STEP l Γ (u + 850) yL_pass wsL_pass yX7_pass wsX7_pass [.int a] R O Z := by
  obtain ⟨M, X, G, J, S, C, P, Q, A, T, D, N, V, I, K, B, pm, k, rfl, hC, hL, hI⟩ := h
  have hPG := hI.pg
  have hA8 := hI.a8
  have h475 := hC.1 475 (by decide) (by decide)
  have hk := hI.2.1
  have hJ := hI.2.2.1
  have hp := hI.1.1
  have lo := hI.pmlo (i := k) (by omega)
  have rv : fX7_pass_v A T D N V I K B a = _ := rfl
  have hAC := ac_pass hPG.1 hPG.2.1 (by omega) a
  have hLe := rL_pass N a
  have eA := rA_pass A T D N V I K B a
  have eI := rI_pass A T D N V I K B a
  rcases hAC with ⟨r0, ⟨x1, -⟩, ev, rl, pi⟩ | ⟨r1, r3, x1, eP, eN⟩
  · rw [if_pos r0] at eA eI
    have cls := mX6_pass (l := l) (mS M A T D N V I K B) R O hC X G J S C P Q pm hp k hJ hk hPG.2.2 a (by rw [hPG.1.hd (show 1 < 12 by decide)]; exact hPG.2.1.h8.2) x1
    rw [mS_lo _ _ _ _ _ _ _ _ _ (show pm k < 24 by omega), ZZ_up _ _ _ _ _ _ _ _ _ _ _ _ _ _ _ _ _ (show pm k < 24 by omega)] at cls
    have wrp := wL_pass hcs h475 hall (by decide) (by decide) a cls
    have ref := mX7_pass (l := l) (cS (va_up M (pm k) (fX2_copyFrom_P P (M (pm k)))) X G (keepJ J) S C (fX2_goHours_P P a) Q) (keepR R J) (fX2_goHours_v P a).toInt64 (keepR_LM hL hJ hk) A T D N V I K B a hPG.2.1.ws hA8.1 hA8.2
    rw [eA, eI, show fX7_pass_v A T D N V I K B a = fX2_goHours_v P a from ev] at ref
    rw [← ZZ_m, ← ZZ_m] at ref
    refine ⟨0, _, _, _, _, _, _, _, ?_, ?_, wrp, ref, ?_, fun _ => rfl, _, _, _, _, _, _, _, _, _, _, _, _, _, _, _, _, _, _, rfl, keepR_LC hC hJ hk, keepR_LM hL hJ hk, hI.act rl pi (hPG.2.2.of (fun i hi => fl_pass P a hi))⟩
    · decide
    · decide
    · rw [ZZ_24, noteA_o _ _ _ _ _ _ _ _ (by decide)]; rfl
  · have r0 : ¬ rfPA a = 0 := by omega
    rw [if_neg r0] at eA eI
    have ref := fun R1 O1 M1 hL1 => mX7_pass (l := l) (Γ := Γ) (cS M1 X G J S C P Q) R1 O1 hL1 A T D N V I K B a hPG.2.1.ws hA8.1 hA8.2
    simp only [eA, eI, show fX7_pass_N A T D N V I K B a = N from eN] at ref
    have inv : INV (u + 850) Γ R (ZZ (va_up M (pm k) (fX2_copyFrom_P P (M (pm k)))) X G J S C P Q (upd A 0 (nI (rfPA a))) T D N V I K B) := ⟨_, _, _, _, _, _, _, _, _, _, _, _, _, _, _, _, _, _, rfl, hC, hL, ((hI.draft (fX2_copyFrom_P P (M (pm k)))).ref (nI (rfPA a))).le (by omega)⟩
    have q0 : rfPA a = 1 := by omega
    rw [q0, EE_1] at x1
    rw [q0] at ref inv
    have cls := tX6_pass (l := l) hst (mS M A T D N V I K B) R O hC X G J S C P Q pm hp k hJ hk hPG.2.2 a (by rw [hPG.1.hd (show 1 < 12 by decide)]; exact hPG.2.1.h8.2) x1
    rw [mS_lo _ _ _ _ _ _ _ _ _ (show pm k < 24 by omega), ZZ_up _ _ _ _ _ _ _ _ _ _ _ _ _ _ _ _ _ (show pm k < 24 by omega), eP] at cls
    have wrp := wL_pass_t1 hcs h475 (by decide) (by decide) a cls
    have ref := ref R O (va_up M (pm k) (fX2_copyFrom_P P (M (pm k)))) hL
    rw [← ZZ_m, ← ZZ_m] at ref
    refine ⟨1, _, _, _, _, _, _, _, ?_, ?_, wrp, ref, ?_, fun e => absurd e (by decide), inv⟩
    · decide
    · decide
    · rw [ZZ_24]; rfl
