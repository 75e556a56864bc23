/-! THE STEPS: the slots, the text read. Laid by gen/p30.py. -/
theorem wi_01 {a : Int32} (h : fX6_within_v a 0 1 = 0) : a < 0 ∨ ¬ a < 2 := by
  unfold fX6_within_v at h
  by_cases c : a < 0
  · exact Or.inl c
  · rw [if_neg c] at h
    by_cases d : 1 < a
    · right
      obtain ⟨j, hj, e⟩ := nI_of c
      subst e
      rw [show (1 : Int32) = nI 1 from rfl, nI_ltI (by decide) hj] at d
      rw [show (2 : Int32) = nI 2 from rfl, nI_ltI hj (by decide)]
      omega
    · rw [if_neg d] at h
      exact absurd h (by decide)
theorem wi_02 {a : Int32} (h : ¬ fX6_within_v a 0 1 = 0) : a = 0 ∨ a = 1 := by
  obtain ⟨n, hn, e, -⟩ := (wi_nn (lo := 0) (hi := 1) h (by decide) (by decide)).1.ex
  rcases Nat.lt_or_ge n 1 with q | q
  · left; rw [e, show n = 0 by omega]; rfl
  · right; rw [e, show n = 1 by omega]; rfl
section INs
variable {u k : Nat} {R : Nat → Nat → Option Nat} {pm : Nat → Nat} {M : Nat → Nat → Int32} {X G J S P A T D N I K B : Nat → Int32}
/-- a slot kept -/
theorem IN.keep (h : IN u R pm k M X G J S P A T D N I K B) {i : Nat} (hi : i < 2) : IN u R pm k (va_up M (2 + i) (fX2_copyFrom_P P (M (2 + i)))) X G J (upd S i 1) P (upd A 0 0) T D N I (fX7_copyPage_P N K 0 (131 * i)) (upd B i 1) := by
  have r := h.ref 0
  refine ⟨r.1, r.2.1, r.2.2.1, r.2.2.2.1, r.2.2.2.2.1, r.2.2.2.2.2.1, r.2.2.2.2.2.2.1, fun j hj => ?_, fun j hj => ?_⟩
  · have lo := h.pmlo (i := j) (by have := h.2.1; omega)
    rw [va_up_ne _ _ (show pm j ≠ 2 + i by omega)]
    exact r.2.2.2.2.2.2.2.1 j hj
  · by_cases q : j = i
    · subst q
      rw [pk_us, pk_us, va_up_eq]
      refine ⟨Iff.rfl, fun _ => h.pg.cong (fun m hm => ?_) (fun m hm => ccp _ _ hm)⟩
      show fX7_copyPage_P N K 0 (131 * j) (131 * j + m) = N m
      rw [cp_at, if_pos (by omega)]
      congr 1
      omega
    · rw [pk_un q, pk_un q, va_up_ne _ _ (show 2 + j ≠ 2 + i by omega)]
      have o := r.2.2.2.2.2.2.2.2 j hj
      refine ⟨o.1, fun z => (o.2 z).cong (fun m hm => ?_) (fun _ _ => rfl)⟩
      show fX7_copyPage_P N K 0 (131 * i) (131 * j + m) = K (131 * j + m)
      rw [cp_at, if_neg (by omega)]
/-- a slot fetched -/
theorem IN.fetch (h : IN u R pm k M X G J S P A T D N I K B) {i : Nat} (hi : i < 2) (hs : ¬ S i = 0) : IN u R pm 0 M X G (fX0_forgetAll_J J) S (fX2_copyFrom_P (M (2 + i)) P) (upd (upd A 0 0) 8 0) T D (fX7_copyPage_P K N (131 * i) 0) I K B := by
  have r := h.ref 0
  have o := r.2.2.2.2.2.2.2.2 i hi
  refine ⟨r.1, by omega, pk_us, pk_us, r.2.2.2.2.1.up 0 (by decide) (by decide), r.2.2.2.2.2.1, (o.2 hs).cong (fun m hm => rcp K N (131 * i) hm) (fun m hm => ccp _ _ hm), fun j hj => absurd hj (Nat.not_lt_zero j), r.2.2.2.2.2.2.2.2⟩
end INs
set_option maxRecDepth 100000 in
theorem st_save {l : Launch} {Γ : gX} (hst : l.stackTraces = false) (hcs : 491 ∈ gcs Γ) (hall : ∀ c ∈ gcs Γ, c < 492) {u : Nat} {R : Nat → Nat → Option Nat} {O : Int64} {Z : Nat → Nat → Int32} (h : INV u Γ R Z) (hu : 1998 * (u + 5000) < 2 ^ 31) (a : Int32) : STEP l Γ (u + 850) yL_save wsL_save yX7_save wsX7_save [.int a] R O Z := by
  obtain ⟨M, X, G, J, S, C, P, Q, A, T, D, N, V, I, K, B, pm, k, rfl, hC, hL, hI⟩ := h
  have hPG := hI.pg
  have h475 := hC.1 475 (by decide) (by decide)
  have hk := hI.2.1
  have hJ := hI.2.2.1
  have hA := hI.2.2.2.1
  have tx := hI.tx
  have e3 : P 3 = N 3 := hPG.1.hd (by decide)
  have e4 : P 4 = N 4 := hPG.1.hd (by decide)
  have ev : fX2_time_v P = 10 * N 3 + N 4 := by unfold fX2_time_v; rw [e3, e4]
  by_cases c1 : fX6_within_v a 0 1 = 0
  · have c1' : fX7_in_v a.toInt64 0 1 = 0 := by rw [w_01]; exact c1
    have cls := tX6_save (l := l) hst (mS M A T D N V I K B) R O hC X G J S C P Q a (wi_01 c1)
    have ref := mX7_save (l := l) (cS M X G J S C P Q) R O hL A T D N V I K B a
    rw [show fX7_save_A A T D N V I K B a = upd A 0 1 from if_pos c1', show fX7_save_K A T D N V I K B a = K from if_pos c1', show fX7_save_B A T D N V I K B a = B from if_pos c1'] at ref
    simp only [← ZZ_m] at ref
    refine ⟨1, _, _, _, _, _, _, _, ?_, ?_, wL_save_t1 hcs h475 (by decide) (by decide) a cls, ref, ?_, fun e => absurd e (by decide), _, _, _, _, _, _, _, _, _, _, _, _, _, _, _, _, _, _, rfl, hC, hL, (hI.ref 1).le (by omega)⟩
    · decide
    · decide
    · rw [ZZ_24]; rfl
  · have c1' : ¬ fX7_in_v a.toInt64 0 1 = 0 := by rw [w_01]; exact c1
    rcases wi_02 c1 with rfl | rfl
    · have cls := mX6_save_0 (l := l) (mS M A T D N V I K B) R O hC X G J S C P Q hPG.2.2
      rw [mS_lo _ _ _ _ _ _ _ _ _ (show 2 < 24 by decide), ZZ_up _ _ _ _ _ _ _ _ _ _ _ _ _ _ _ _ _ (show 2 < 24 by decide)] at cls
      have ref := mX7_save (l := l) (cS (va_up M 2 (fX2_copyFrom_P P (M 2))) X G J (upd S 0 1) C P Q) R (fX2_time_v P).toInt64 hL A T D N V I K B 0
      rw [show fX7_save_A A T D N V I K B 0 = upd A 0 0 from if_neg c1', show fX7_save_K A T D N V I K B 0 = fX7_copyPage_P N K 0 (131 * 0) from if_neg c1', show fX7_save_B A T D N V I K B 0 = upd B 0 1 from if_neg c1', show fX7_save_v A T D N V I K B 0 = 10 * N 3 + N 4 from if_neg c1'] at ref
      simp only [← ZZ_m] at ref
      refine ⟨0, _, _, _, _, _, _, _, ?_, ?_, wL_save hcs h475 hall (by decide) (by decide) 0 cls, ref, ?_, fun _ => congrArg Int32.toInt64 ev, _, _, _, _, _, _, _, _, _, _, _, _, _, _, _, _, _, _, rfl, hC, hL, (hI.keep (i := 0) (by decide)).le (by omega)⟩
      · decide
      · decide
      · rw [ZZ_24]; rfl
    · have cls := mX6_save_1 (l := l) (mS M A T D N V I K B) R O hC X G J S C P Q hPG.2.2
      rw [mS_lo _ _ _ _ _ _ _ _ _ (show 3 < 24 by decide), ZZ_up _ _ _ _ _ _ _ _ _ _ _ _ _ _ _ _ _ (show 3 < 24 by decide)] at cls
      have ref := mX7_save (l := l) (cS (va_up M 3 (fX2_copyFrom_P P (M 3))) X G J (upd S 1 1) C P Q) R (fX2_time_v P).toInt64 hL A T D N V I K B 1
      rw [show fX7_save_A A T D N V I K B 1 = upd A 0 0 from if_neg c1', show fX7_save_K A T D N V I K B 1 = fX7_copyPage_P N K 0 (131 * 1) from if_neg c1', show fX7_save_B A T D N V I K B 1 = upd B 1 1 from if_neg c1', show fX7_save_v A T D N V I K B 1 = 10 * N 3 + N 4 from if_neg c1'] at ref
      simp only [← ZZ_m] at ref
      refine ⟨0, _, _, _, _, _, _, _, ?_, ?_, wL_save hcs h475 hall (by decide) (by decide) 1 cls, ref, ?_, fun _ => congrArg Int32.toInt64 ev, _, _, _, _, _, _, _, _, _, _, _, _, _, _, _, _, _, _, rfl, hC, hL, (hI.keep (i := 1) (by decide)).le (by omega)⟩
      · decide
      · decide
      · rw [ZZ_24]; rfl
set_option maxRecDepth 100000 in
theorem st_restore {l : Launch} {Γ : gX} (hst : l.stackTraces = false) (hcs : 491 ∈ gcs Γ) (hall : ∀ c ∈ gcs Γ, c < 492) {u : Nat} {R : Nat → Nat → Option Nat} {O : Int64} {Z : Nat → Nat → Int32} (h : INV u Γ R Z) (hu : 1998 * (u + 5000) < 2 ^ 31) (a : Int32) : STEP l Γ (u + 850) yL_restore wsL_restore yX7_restore wsX7_restore [.int a] R O Z := by
  obtain ⟨M, X, G, J, S, C, P, Q, A, T, D, N, V, I, K, B, pm, k, rfl, hC, hL, hI⟩ := h
  have hPG := hI.pg
  have h475 := hC.1 475 (by decide) (by decide)
  have hk := hI.2.1
  have hJ := hI.2.2.1
  have hA := hI.2.2.2.1
  have tx := hI.tx
  by_cases c1 : fX6_within_v a 0 1 = 0
  · have c1' : fX7_in_v a.toInt64 0 1 = 0 := by rw [w_01]; exact c1
    have cls := tX6_restore (l := l) hst (mS M A T D N V I K B) R O hC X G J S C P Q a (wi_01 c1)
    have ref := mX7_restore (l := l) (cS M X G J S C P Q) R O hL A T D N V I K B a
    rw [show fX7_restore_A A T D N V I K B a = upd A 0 1 from if_pos c1', show fX7_restore_N A T D N V I K B a = N from if_pos c1'] at ref
    simp only [← ZZ_m] at ref
    refine ⟨1, _, _, _, _, _, _, _, ?_, ?_, wL_restore_t1 hcs h475 (by decide) (by decide) a cls, ref, ?_, fun e => absurd e (by decide), _, _, _, _, _, _, _, _, _, _, _, _, _, _, _, _, _, _, rfl, hC, hL, (hI.ref 1).le (by omega)⟩
    · decide
    · decide
    · rw [ZZ_24]; rfl
  · have c1' : ¬ fX7_in_v a.toInt64 0 1 = 0 := by rw [w_01]; exact c1
    rcases wi_02 c1 with rfl | rfl
    · have sl := hI.2.2.2.2.2.2.2.2 0 (by decide)
      by_cases c2 : S 0 = 0
      · have c2' : B 0 = 0 := sl.1.mp c2
        have cls := tX6_restore_n0 (l := l) hst (mS M A T D N V I K B) R O hC X G J S C P Q c2
        have ref := mX7_restore (l := l) (cS M X G J S C P Q) R O hL A T D N V I K B 0
        rw [show fX7_restore_A A T D N V I K B 0 = upd A 0 2 from (if_neg c1').trans (if_pos c2'), show fX7_restore_N A T D N V I K B 0 = N from (if_neg c1').trans (if_pos c2')] at ref
        simp only [← ZZ_m] at ref
        refine ⟨2, _, _, _, _, _, _, _, ?_, ?_, wL_restore_t2 hcs h475 (by decide) (by decide) 0 cls, ref, ?_, fun e => absurd e (by decide), _, _, _, _, _, _, _, _, _, _, _, _, _, _, _, _, _, _, rfl, hC, hL, (hI.ref 2).le (by omega)⟩
        · decide
        · decide
        · rw [ZZ_24]; rfl
      · have c2' : ¬ B 0 = 0 := fun q => c2 (sl.1.mpr q)
        have pg := (sl.2 c2).cong (fun m hm => rcp K N (131 * 0) hm) (fun m hm => ccp (M 2) P hm)
        have ev : fX2_time_v (fX2_copyFrom_P (M 2) P) = 10 * fX7_copyPage_P K N (131 * 0) 0 3 + fX7_copyPage_P K N (131 * 0) 0 4 := by
          unfold fX2_time_v
          rw [pg.1.hd (show 3 < 12 by decide), pg.1.hd (show 4 < 12 by decide)]
        have em : mS M A T D N V I K B 2 = M 2 := mS_lo _ _ _ _ _ _ _ _ _ (by decide)
        have cls := mX6_restore_0 (l := l) (mS M A T D N V I K B) R O hC X G J S C P Q (by rw [em]; exact (sl.2 c2).2.2) c2
        rw [em] at cls
        have ref := mX7_restore (l := l) (cS M X G (fX0_forgetAll_J J) S C (fX2_copyFrom_P (M 2) P) Q) R (fX2_time_v (fX2_copyFrom_P (M 2) P)).toInt64 hL A T D N V I K B 0
        rw [show fX7_restore_A A T D N V I K B 0 = upd (upd A 0 0) 8 0 from (if_neg c1').trans (if_neg c2'), show fX7_restore_N A T D N V I K B 0 = fX7_copyPage_P K N (131 * 0) 0 from (if_neg c1').trans (if_neg c2'), show fX7_restore_v A T D N V I K B 0 = 10 * fX7_copyPage_P K N (131 * 0) 0 3 + fX7_copyPage_P K N (131 * 0) 0 4 from (if_neg c1').trans (if_neg c2')] at ref
        simp only [← ZZ_m] at ref
        refine ⟨0, _, _, _, _, _, _, _, ?_, ?_, wL_restore hcs h475 hall (by decide) (by decide) 0 cls, ref, ?_, fun _ => congrArg Int32.toInt64 ev, _, _, _, _, _, _, _, _, _, _, _, _, _, _, _, _, _, _, rfl, hC, hL, (hI.fetch (i := 0) (by decide) c2).le (by omega)⟩
        · decide
        · decide
        · rw [ZZ_24]; rfl
    · have sl := hI.2.2.2.2.2.2.2.2 1 (by decide)
      by_cases c2 : S 1 = 0
      · have c2' : B 1 = 0 := sl.1.mp c2
        have cls := tX6_restore_n1 (l := l) hst (mS M A T D N V I K B) R O hC X G J S C P Q c2
        have ref := mX7_restore (l := l) (cS M X G J S C P Q) R O hL A T D N V I K B 1
        rw [show fX7_restore_A A T D N V I K B 1 = upd A 0 2 from (if_neg c1').trans (if_pos c2'), show fX7_restore_N A T D N V I K B 1 = N from (if_neg c1').trans (if_pos c2')] at ref
        simp only [← ZZ_m] at ref
        refine ⟨2, _, _, _, _, _, _, _, ?_, ?_, wL_restore_t2 hcs h475 (by decide) (by decide) 1 cls, ref, ?_, fun e => absurd e (by decide), _, _, _, _, _, _, _, _, _, _, _, _, _, _, _, _, _, _, rfl, hC, hL, (hI.ref 2).le (by omega)⟩
        · decide
        · decide
        · rw [ZZ_24]; rfl
      · have c2' : ¬ B 1 = 0 := fun q => c2 (sl.1.mpr q)
        have pg := (sl.2 c2).cong (fun m hm => rcp K N (131 * 1) hm) (fun m hm => ccp (M 3) P hm)
        have ev : fX2_time_v (fX2_copyFrom_P (M 3) P) = 10 * fX7_copyPage_P K N (131 * 1) 0 3 + fX7_copyPage_P K N (131 * 1) 0 4 := by
          unfold fX2_time_v
          rw [pg.1.hd (show 3 < 12 by decide), pg.1.hd (show 4 < 12 by decide)]
        have em : mS M A T D N V I K B 3 = M 3 := mS_lo _ _ _ _ _ _ _ _ _ (by decide)
        have cls := mX6_restore_1 (l := l) (mS M A T D N V I K B) R O hC X G J S C P Q (by rw [em]; exact (sl.2 c2).2.2) c2
        rw [em] at cls
        have ref := mX7_restore (l := l) (cS M X G (fX0_forgetAll_J J) S C (fX2_copyFrom_P (M 3) P) Q) R (fX2_time_v (fX2_copyFrom_P (M 3) P)).toInt64 hL A T D N V I K B 1
        rw [show fX7_restore_A A T D N V I K B 1 = upd (upd A 0 0) 8 0 from (if_neg c1').trans (if_neg c2'), show fX7_restore_N A T D N V I K B 1 = fX7_copyPage_P K N (131 * 1) 0 from (if_neg c1').trans (if_neg c2'), show fX7_restore_v A T D N V I K B 1 = 10 * fX7_copyPage_P K N (131 * 1) 0 3 + fX7_copyPage_P K N (131 * 1) 0 4 from (if_neg c1').trans (if_neg c2')] at ref
        simp only [← ZZ_m] at ref
        refine ⟨0, _, _, _, _, _, _, _, ?_, ?_, wL_restore hcs h475 hall (by decide) (by decide) 1 cls, ref, ?_, fun _ => congrArg Int32.toInt64 ev, _, _, _, _, _, _, _, _, _, _, _, _, _, _, _, _, _, _, rfl, hC, hL, (hI.fetch (i := 1) (by decide) c2).le (by omega)⟩
        · decide
        · decide
        · rw [ZZ_24]; rfl
set_option maxRecDepth 100000 in
theorem st_load {l : Launch} {Γ : gX} (hst : l.stackTraces = false) (hcs : 491 ∈ gcs Γ) (hall : ∀ c ∈ gcs Γ, c < 492) {u : Nat} {R : Nat → Nat → Option Nat} {O : Int64} {Z : Nat → Nat → Int32} (h : INV u Γ R Z) (hu : 1998 * (u + 5000) < 2 ^ 31)  : STEP l Γ (u + 850) yL_load wsL_load yX7_load wsX7_load [] R O Z := by
  obtain ⟨M, X, G, J, S, C, P, Q, A, T, D, N, V, I, K, B, pm, k, rfl, hC, hL, hI⟩ := h
  have hPG := hI.pg
  have h475 := hC.1 475 (by decide) (by decide)
  have hk := hI.2.1
  have hJ := hI.2.2.1
  have hA := hI.2.2.2.1
  have tx := hI.tx
  obtain ⟨v, w, X1, Q1, A1, D1, ri, ra, x1, aj, rA, ws1, ou⟩ := rd_all Q tx.1 tx.2.1 tx.2.2 hI.2.2.2.2.2.1
  have a12 : A1 2 = A 2 := aj 2 (by decide)
  have tx1 : TXT X1 G A1 T := ⟨by rw [x1, a12]; exact tx.1, rA, fun i hi => tx.2.2 i (by rw [a12] at hi; exact hi)⟩
  have hl := hI.le (show u ≤ u + 850 by omega)
  rcases ou with ⟨rfl, -, ne⟩ | ⟨rfl, rfl, pg⟩
  · have cls := tX6_load (l := l) hst (mS M A T D N V I K B) R O hC X G J S C P Q X1 Q1 v ri ne
    have ref := mX7_load_n (l := l) (cS M X1 G J S C P Q1) R O hL A T D N V I K B A1 D1 ra
    simp only [← ZZ_m] at ref
    refine ⟨1, _, _, _, _, _, _, _, ?_, ?_, wL_load_t1 hcs h475 (by decide) (by decide) cls, ref, ?_, fun e => absurd e (by decide), _, _, _, _, _, _, _, _, _, _, _, _, _, _, _, _, _, _, rfl, hC, hL, hl.1, hk, hJ, ?_, tx1.up 1 (by decide) (by decide), ws1, hl.2.2.2.2.2.2⟩
    · decide
    · decide
    · rw [ZZ_24]; rfl
    · rw [pk_un (by decide), aj 8 (by decide)]; exact hA
  · have cls := mX6_load (l := l) (mS M A T D N V I K B) R O hC X G J S C P Q X1 Q1 ri pg.2.2
    have ref := mX7_load_y (l := l) (cS M X1 G (fX0_forgetAll_J J) (fX6_load_L S 2) C (fX2_copyFrom_P Q1 P) Q1) R (fX2_copyFrom_P Q1 P 0).toInt64 hL A T D N V I K B A1 D1 ra
    simp only [← ZZ_m] at ref
    have pg' := (pg.le (Nat.zero_le (u + 850))).cong (fun m hm => rcp0 D1 N hm) (fun m hm => ccp Q1 P hm)
    refine ⟨0, _, _, _, _, _, _, _, ?_, ?_, wL_load hcs h475 hall (by decide) (by decide) cls, ref, ?_, fun _ => congrArg Int32.toInt64 (pg'.1.hd (show 0 < 12 by decide)), _, _, _, _, _, _, _, _, _, _, _, _, _, _, _, _, _, 0, rfl, hC, hL, hl.1, by omega, pk_us, pk_us, (tx1.up 0 (by decide) (by decide)).up 0 (by decide) (by decide), ws1, pg', fun j hj => absurd hj (Nat.not_lt_zero j), fun j hj => ?_⟩
    · decide
    · decide
    · rw [ZZ_24]; rfl
    · have s0 : fX6_load_L S 2 j = 0 := by
        rcases Nat.lt_or_ge j 1 with q | q
        · rw [show j = 0 by omega]; rfl
        · rw [show j = 1 by omega]; rfl
      have b0 : upd (upd B 0 0) 1 0 j = 0 := by
        rcases Nat.lt_or_ge j 1 with q | q
        · rw [show j = 0 by omega]; rfl
        · rw [show j = 1 by omega]; rfl
      rw [s0, b0]
      exact ⟨Iff.rfl, fun e => absurd rfl e⟩
set_option maxRecDepth 100000 in
theorem st_clearText {l : Launch} {Γ : gX} {u : Nat} {R : Nat → Nat → Option Nat} {O : Int64} {Z : Nat → Nat → Int32} (h : INV u Γ R Z) (hu : 1998 * (u + 5000) < 2 ^ 31) : STEP0 l Γ (u + 850) yX6_clearText wsX6_clearText yX7_clearText wsX7_clearText R O Z := by
  obtain ⟨M, X, G, J, S, C, P, Q, A, T, D, N, V, I, K, B, pm, k, rfl, hC, hL, hI⟩ := h
  have hPG := hI.pg
  have h475 := hC.1 475 (by decide) (by decide)
  have hk := hI.2.1
  have hJ := hI.2.2.1
  have hA := hI.2.2.2.1
  have tx := hI.tx
  have cls := mX6_clearText (l := l) (mS M A T D N V I K B) R O hC X G J S C P Q
  have ref := mX7_clearText (l := l) (cS M (fX4_makeEmpty_X X) G J S C P Q) R O hL A T D N V I K B
  simp only [← ZZ_m] at ref
  rw [show fX7_clearText_v A T D N V I K B = fX4_makeEmpty_v X from (pk_un (by decide)).trans tx.1.symm] at ref
  have hl := (hI.ref 0).le (show u ≤ u + 850 by omega)
  refine ⟨_, _, _, _, _, _, _, ⟨by decide, by decide⟩, ⟨by decide, by decide⟩, cls, ref, _, _, _, _, _, _, _, _, _, _, _, _, _, _, _, _, _, _, rfl, hC, hL, hl.1, hk, hJ, (pk_un (by decide)).trans hl.2.2.2.1, ⟨?_, ⟨?_, ?_⟩, fun i hi => ?_⟩, hl.2.2.2.2.2⟩
  · exact pk_us.trans pk_us.symm
  · rw [show fX7_clearText_A A T D N V I K B 2 = 0 from pk_us]; exact nn.of (n := 0) rfl (by omega) (by decide)
  · rw [show fX7_clearText_A A T D N V I K B 3 = A 3 from (pk_un (by decide)).trans (pk_un (by decide))]; exact tx.2.1.2
  · rw [show fX7_clearText_A A T D N V I K B 2 = 0 from pk_us] at hi; exact absurd hi (Nat.not_lt_zero i)
set_option maxRecDepth 100000 in
theorem st_errorPosition {l : Launch} {Γ : gX} {u : Nat} {R : Nat → Nat → Option Nat} {O : Int64} {Z : Nat → Nat → Int32} (h : INV u Γ R Z) (hu : 1998 * (u + 5000) < 2 ^ 31) : STEP0 l Γ (u + 850) yX6_errorPosition wsX6_errorPosition yX7_errorPosition wsX7_errorPosition R O Z := by
  obtain ⟨M, X, G, J, S, C, P, Q, A, T, D, N, V, I, K, B, pm, k, rfl, hC, hL, hI⟩ := h
  have hPG := hI.pg
  have h475 := hC.1 475 (by decide) (by decide)
  have hk := hI.2.1
  have hJ := hI.2.2.1
  have hA := hI.2.2.2.1
  have tx := hI.tx
  have tx0 := (hI.ref 0).tx
  obtain ⟨v, w, X1, Q1, A1, D1, ri, ra, x1, aj, rA, ws1, ou⟩ := rd_all Q tx0.1 tx0.2.1 tx0.2.2 hI.2.2.2.2.2.1
  have a12 : A1 2 = upd A 0 0 2 := aj 2 (by decide)
  have tx1 : TXT X1 G A1 T := ⟨by rw [x1, a12]; exact tx0.1, rA, fun i hi => tx0.2.2 i (by rw [a12] at hi; exact hi)⟩
  have hl := hI.le (show u ≤ u + 850 by omega)
  have a8 : A1 8 = nI k := (aj 8 (by decide)).trans ((pk_un (by decide)).trans hA)
  have cls := mX6_errorPosition (l := l) (mS M A T D N V I K B) R O hC X G J S C P Q X1 Q1 v ri
  rcases ou with ⟨rfl, rfl, ne⟩ | ⟨rfl, rfl, pg⟩
  · have ref := mX7_errorPosition_n (l := l) (cS M X1 G J S C P Q1) R O hL A T D N V I K B A1 D1 ra
    simp only [← ZZ_m] at ref
    exact ⟨_, _, _, _, _, _, _, ⟨by decide, by decide⟩, ⟨by decide, by decide⟩, cls, ref, _, _, _, _, _, _, _, _, _, _, _, _, _, _, _, _, _, _, rfl, hC, hL, hl.1, hk, hJ, a8, tx1, ws1, hl.2.2.2.2.2.2⟩
  · have ref := mX7_errorPosition_y (l := l) (cS M X1 G J S C P Q1) R O hL A T D N V I K B A1 D1 ra
    simp only [← ZZ_m] at ref
    exact ⟨_, _, _, _, _, _, _, ⟨by decide, by decide⟩, ⟨by decide, by decide⟩, cls, ref, _, _, _, _, _, _, _, _, _, _, _, _, _, _, _, _, _, _, rfl, hC, hL, hl.1, hk, hJ, a8, tx1, ws1, hl.2.2.2.2.2.2⟩
set_option maxRecDepth 100000 in
theorem st_dustiest {l : Launch} {Γ : gX} {u : Nat} {R : Nat → Nat → Option Nat} {O : Int64} {Z : Nat → Nat → Int32} (h : INV u Γ R Z) (hu : 1998 * (u + 5000) < 2 ^ 31) : STEP0 l Γ (u + 850) yX6_dustiest wsX6_dustiest yX7_dustiest wsX7_dustiest R O Z := by
  obtain ⟨M, X, G, J, S, C, P, Q, A, T, D, N, V, I, K, B, pm, k, rfl, hC, hL, hI⟩ := h
  have hPG := hI.pg
  have h475 := hC.1 475 (by decide) (by decide)
  have hk := hI.2.1
  have hJ := hI.2.2.1
  have hA := hI.2.2.2.1
  have tx := hI.tx
  have e0 : P 0 = N 0 := hPG.1.hd (by decide)
  have e1 : P 1 = N 1 := hPG.1.hd (by decide)
  have h8 : (P 1).toNatClampNeg ≤ 8 := by rw [e1]; exact hPG.2.1.h8.2
  have h1 : 1 ≤ (P 0).toNatClampNeg := by rw [e0]; exact hPG.2.1.2.1
  have ds := ds_all hPG Q V ((P 0).toNatClampNeg - 1) (by rw [e0] at h1 ⊢; omega)
  have cls := mX6_dustiest (l := l) (mS M A T D N V I K B) R O hC X G J S C P Q hPG.2.2 h8 h1
  have ref := mX7_dustiest (l := l) (cS M X G J S C P (fX2_raiseDust_P (fX2_copyFrom_P P Q))) R O hL A T D N V I K B hPG.2.1.ws
  simp only [← ZZ_m] at ref
  rw [show fX7_dustiest_v A T D N V I K B = (fX6_dus_A (fX2_raiseDust_P (fX2_copyFrom_P P Q)) ((P 0).toNatClampNeg - 1)).1 by rw [ds, Nat.sub_add_cancel h1, e0]; rfl] at ref
  exact ⟨_, _, _, _, _, _, _, ⟨by decide, by decide⟩, ⟨by decide, by decide⟩, cls, ref, _, _, _, _, _, _, _, _, _, _, _, _, _, _, _, _, _, _, rfl, hC, hL, (hI.ref 0).le (by omega)⟩
