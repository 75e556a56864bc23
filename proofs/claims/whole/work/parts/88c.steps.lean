/-! THE STEPS: the text, a step back. Laid by gen/p30.py. -/
theorem TXT.nn {X G A T : Nat → Int32} (h : TXT X G A T) : nn 70 (A 2) := h.2.1.1
set_option maxRecDepth 100000 in
theorem st_append {l : Launch} {Γ : gX} (hst : l.stackTraces = false) (hcs : 491 ∈ gcs Γ) (hall : ∀ c ∈ gcs Γ, c < 492) {u : Nat} {R : Nat → Nat → Option Nat} {O : Int64} {Z : Nat → Nat → Int32} (h : INV u Γ R Z) (hu : 1998 * (u + 5000) < 2 ^ 31) (a : Int32) : STEP l Γ (u + 850) yL_append wsL_append yX7_append wsX7_append [.int a] R O Z := by
  obtain ⟨M, X, G, J, S, C, P, Q, A, T, D, N, V, I, K, B, pm, k, rfl, hC, hL, hI⟩ := h
  have hPG := hI.pg
  have h475 := hC.1 475 (by decide) (by decide)
  have hk := hI.2.1
  have hJ := hI.2.2.1
  have hA := hI.2.2.2.1
  have tx := hI.tx
  have tn := tx.nn
  have eX : X 1 = A 2 := tx.1
  have hX0 : ¬ X 1 < 0 := by rw [eX]; exact tn.not_neg (by decide)
  by_cases c1 : fX6_within_v a 0 255 = 0
  · have c1' : fX7_in_v a.toInt64 0 255 = 0 := by rw [w_0255]; exact c1
    have ev : fX4_put_v X G a = -2 := if_pos c1
    have cls := tX6_append (l := l) hst (mS M A T D N V I K B) R O hC X G J S C P Q a (En := "java/lang/IllegalArgumentException") (by rw [ev]; rfl)
    rw [show fX4_put_X X G a = X from if_pos c1, show fX4_put_G X G a = G from if_pos c1] at cls
    have ref := mX7_append (l := l) (cS M X G J S C P Q) R O hL A T D N V I K B a tn.1 tn.2
    rw [show fX7_append_A A T D N V I K B a = upd A 0 1 from if_pos c1', show fX7_append_T A T D N V I K B a = T from if_pos c1'] at ref
    simp only [← ZZ_m] at ref
    refine ⟨1, _, _, _, _, _, _, _, ?_, ?_, wL_append_t1 hcs h475 (by decide) (by decide) a cls, ref, ?_, fun e => absurd e (by decide), _, _, _, _, _, _, _, _, _, _, _, _, _, _, _, _, _, _, rfl, hC, hL, (hI.ref 1).le (by omega)⟩
    · decide
    · decide
    · rw [ZZ_24]; rfl
  · have c1' : ¬ fX7_in_v a.toInt64 0 255 = 0 := by rw [w_0255]; exact c1
    by_cases c2 : A 2 = 70
    · have x70 : ¬ X 1 < 70 := by rw [eX, c2]; decide
      have ev : fX4_put_v X G a = -3 := by unfold fX4_put_v; rw [if_neg c1, if_neg hX0, if_neg x70]
      have cls := tX6_append (l := l) hst (mS M A T D N V I K B) R O hC X G J S C P Q a (En := "java/lang/IllegalStateException") (by rw [ev]; rfl)
      rw [show fX4_put_X X G a = X by unfold fX4_put_X; rw [if_neg c1, if_neg hX0, if_neg x70], show fX4_put_G X G a = G by unfold fX4_put_G; rw [if_neg c1, if_neg hX0, if_neg x70]] at cls
      have ref := mX7_append (l := l) (cS M X G J S C P Q) R O hL A T D N V I K B a tn.1 tn.2
      rw [show fX7_append_A A T D N V I K B a = upd A 0 2 from (if_neg c1').trans (if_pos c2), show fX7_append_T A T D N V I K B a = T from (if_neg c1').trans (if_pos c2)] at ref
      simp only [← ZZ_m] at ref
      refine ⟨2, _, _, _, _, _, _, _, ?_, ?_, wL_append_t2 hcs h475 (by decide) (by decide) a cls, ref, ?_, fun e => absurd e (by decide), _, _, _, _, _, _, _, _, _, _, _, _, _, _, _, _, _, _, rfl, hC, hL, (hI.ref 2).le (by omega)⟩
      · decide
      · decide
      · rw [ZZ_24]; rfl
    · obtain ⟨n, hn, en, en'⟩ := tn.ex
      have n70 : n ≠ 70 := fun q => c2 (by rw [en, q]; rfl)
      have x70 : X 1 < 70 := by rw [eX, en]; exact (nI_ltI (by omega) (by decide)).mpr (show n < 70 by omega)
      have ev : fX4_put_v X G a = nI (n + 1) := by unfold fX4_put_v; rw [if_neg c1, if_neg hX0, if_pos x70, pk_us, eX, en, nI_1]
      have cls := mX6_append (l := l) (mS M A T D N V I K B) R O hC X G J S C P Q a (by rw [ev]; exact xof_nn (nn.lit (n + 1) (by omega)) (by omega))
      rw [ev, show fX4_put_X X G a = upd X 1 (X 1 + 1) by unfold fX4_put_X; rw [if_neg c1, if_neg hX0, if_pos x70], show fX4_put_G X G a = upd G ((X 1).toNatClampNeg) a by unfold fX4_put_G; rw [if_neg c1, if_neg hX0, if_pos x70]] at cls
      have ref := mX7_append (l := l) (cS M (upd X 1 (X 1 + 1)) (upd G ((X 1).toNatClampNeg) a) J S C P Q) R (nI (n + 1)).toInt64 hL A T D N V I K B a tn.1 tn.2
      have e2 : upd A 0 0 2 = nI n := (pk_un (by decide)).trans en
      rw [show fX7_append_A A T D N V I K B a = upd (upd A 0 0) 2 (nI (n + 1)) by unfold fX7_append_A; rw [if_neg c1', if_neg c2, e2, nI_1], show fX7_append_T A T D N V I K B a = upd T ((A 2).toNatClampNeg) a from (if_neg c1').trans (if_neg c2), show fX7_append_v A T D N V I K B a = nI (n + 1) by unfold fX7_append_v; rw [if_neg c1', if_neg c2, pk_us, e2, nI_1]] at ref
      simp only [← ZZ_m] at ref
      have a2 : upd (upd A 0 0) 2 (nI (n + 1)) 2 = nI (n + 1) := pk_us
      have a3 : upd (upd A 0 0) 2 (nI (n + 1)) 3 = A 3 := (pk_un (by decide)).trans (pk_un (by decide))
      have a8 : upd (upd A 0 0) 2 (nI (n + 1)) 8 = A 8 := (pk_un (by decide)).trans (pk_un (by decide))
      have hl := hI.le (show u ≤ u + 850 by omega)
      refine ⟨0, _, _, _, _, _, _, _, ?_, ?_, wL_append hcs h475 hall (by decide) (by decide) a cls, ref, ?_, fun _ => rfl, _, _, _, _, _, _, _, _, _, _, _, _, _, _, _, _, _, _, rfl, hC, hL, hl.1, hk, hJ, a8.trans hA, ⟨?_, ⟨?_, ?_⟩, fun i hi => ?_⟩, hl.2.2.2.2.2⟩
      · decide
      · decide
      · rw [ZZ_24]; rfl
      · rw [pk_us, a2, eX, en, nI_1]
      · rw [a2]; exact nn.of rfl (by omega) (by decide)
      · rw [a3]; exact tx.2.1.2
      · rw [a2, nI_clamp (by omega)] at hi
        rw [eX]
        by_cases q : i = (A 2).toNatClampNeg
        · rw [q, pk_us, pk_us]
        · rw [pk_un q, pk_un q]
          exact tx.2.2 i (by omega)
set_option maxRecDepth 100000 in
theorem st_undo {l : Launch} {Γ : gX} (hst : l.stackTraces = false) (hcs : 491 ∈ gcs Γ) (hall : ∀ c ∈ gcs Γ, c < 492) {u : Nat} {R : Nat → Nat → Option Nat} {O : Int64} {Z : Nat → Nat → Int32} (h : INV u Γ R Z) (hu : 1998 * (u + 5000) < 2 ^ 31)  : STEP l Γ (u + 850) yL_undo wsL_undo yX7_undo wsX7_undo [] R O Z := by
  obtain ⟨M, X, G, J, S, C, P, Q, A, T, D, N, V, I, K, B, pm, k, rfl, hC, hL, hI⟩ := h
  have hPG := hI.pg
  have h475 := hC.1 475 (by decide) (by decide)
  have hk := hI.2.1
  have hJ := hI.2.2.1
  have hA := hI.2.2.2.1
  have tx := hI.tx
  have a8 := hI.a8
  by_cases q : k = 0
  · subst q
    have cls := tX6_undo (l := l) hst (mS M A T D N V I K B) R O hC X G J S C P Q hJ
    have ref := mX7_undo (l := l) (cS M X G J S C P Q) R O hL A T D N V I K B a8.1 a8.2
    have z : A 8 = 0 := hA
    rw [show fX7_undo_A A T D N V I K B = upd A 0 1 from if_pos z, show fX7_undo_N A T D N V I K B = N from if_pos z] at ref
    simp only [← ZZ_m] at ref
    refine ⟨1, _, _, _, _, _, _, _, ?_, ?_, wL_undo_t1 hcs h475 (by decide) (by decide) cls, ref, ?_, fun e => absurd e (by decide), _, _, _, _, _, _, _, _, _, _, _, _, _, _, _, _, _, _, rfl, hC, hL, (hI.ref 1).le (by omega)⟩
    · decide
    · decide
    · rw [ZZ_24]; rfl
  · obtain ⟨k, rfl⟩ : ∃ k', k = k' + 1 := ⟨k - 1, by omega⟩
    have lo := hI.pmlo (i := k) (by omega)
    have hi := hI.2.2.2.2.2.2.2.1 k (by omega)
    have em : mS M A T D N V I K B (pm k) = M (pm k) := mS_lo _ _ _ _ _ _ _ _ _ (by omega)
    have cls := mX6_undo (l := l) (mS M A T D N V I K B) R O hC X G J S C P Q pm hI.1.1 k hJ hk (by rw [em]; exact hi.2.2)
    rw [em] at cls
    have ref := mX7_undo (l := l) (cS M X G (upd J 1 (J 1 - 1)) S C (fX2_copyFrom_P (M (pm k)) P) Q) R (upd J 1 (J 1 - 1) 1).toInt64 hL A T D N V I K B a8.1 a8.2
    have z : ¬ A 8 = 0 := by rw [hA]; exact nI_ne0 (by omega) (by omega)
    have z8 : upd A 0 0 8 = nI (k + 1) := (pk_un (by decide)).trans hA
    have s8 : nI (k + 1) - 1 = nI k := (pk_sub (b := 1) (by omega)).trans rfl
    rw [show fX7_undo_A A T D N V I K B = upd (upd A 0 0) 8 (nI k) by unfold fX7_undo_A; rw [if_neg z, z8, s8], show fX7_undo_N A T D N V I K B = fX7_copyPage_P I N (131 * k) 0 by unfold fX7_undo_N; rw [if_neg z, hA, nI_clamp (by omega)]; rfl, show fX7_undo_v A T D N V I K B = nI k by unfold fX7_undo_v; rw [if_neg z, pk_us, z8, s8]] at ref
    simp only [← ZZ_m] at ref
    have hl := hI.le (show u ≤ u + 850 by omega)
    have e : ∀ j, j ≠ 0 → j ≠ 8 → upd (upd A 0 0) 8 (nI k) j = A j := fun j h0 h8 => (pk_un h8).trans (pk_un h0)
    have j1 : upd J 1 (J 1 - 1) 1 = nI k := by rw [pk_us, hJ, s8]
    refine ⟨0, _, _, _, _, _, _, _, ?_, ?_, wL_undo hcs h475 hall (by decide) (by decide) cls, ref, ?_, fun _ => congrArg Int32.toInt64 j1, _, _, _, _, _, _, _, _, _, _, _, _, _, _, _, _, _, k, rfl, hC, hL, hl.1, by omega, j1, pk_us, ⟨?_, ⟨?_, ?_⟩, fun i hi => ?_⟩, hl.2.2.2.2.2.1, ?_, fun i hi => hl.2.2.2.2.2.2.2.1 i (by omega), hl.2.2.2.2.2.2.2.2⟩
    · decide
    · decide
    · rw [ZZ_24]; rfl
    · rw [e 2 (by decide) (by decide)]; exact tx.1
    · rw [e 2 (by decide) (by decide)]; exact tx.2.1.1
    · rw [e 3 (by decide) (by decide)]; exact tx.2.1.2
    · rw [e 2 (by decide) (by decide)] at hi; exact tx.2.2 i hi
    · exact (hi.le (by omega)).cong (fun j hj => rcp I N (131 * k) hj) (fun j hj => ccp _ _ hj)
