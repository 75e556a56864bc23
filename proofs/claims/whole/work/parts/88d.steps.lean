/-! THE STEPS: what would be. Laid by gen/p30.py. -/
set_option maxRecDepth 100000 in
theorem st_ahead {l : Launch} {Γ : gX} (hst : l.stackTraces = false) (hcs : 491 ∈ gcs Γ) (hall : ∀ c ∈ gcs Γ, c < 492) {u : Nat} {R : Nat → Nat → Option Nat} {O : Int64} {Z : Nat → Nat → Int32} (h : INV u Γ R Z) (hu : 1998 * (u + 5000) < 2 ^ 31) (a d : Int32) : STEP l Γ (u + 850) yL_ahead wsL_ahead yX7_ahead wsX7_ahead [.int a, .int d] R O Z := by
  obtain ⟨M, X, G, J, S, C, P, Q, A, T, D, N, V, I, K, B, pm, k, rfl, hC, hL, hI⟩ := h
  have hPG := hI.pg
  have h475 := hC.1 475 (by decide) (by decide)
  have hk := hI.2.1
  have hJ := hI.2.2.1
  have hA := hI.2.2.2.1
  have tx := hI.tx
  have e1 : P 1 = N 1 := hPG.1.hd (by decide)
  have c1e : fX2_copyFrom_P P Q 1 = N 1 := (ccp P Q (by decide)).trans e1
  have h8 : (P 1).toNatClampNeg ≤ 8 := by rw [e1]; exact hPG.2.1.h8.2
  by_cases c1 : okI a (N 1) 8
  · have c1' : ¬ fX7_isHouse_v N a = 0 := by rw [ho_ok hPG.2.1]; exact fun q => q c1
    have c1q : okI a (fX2_copyFrom_P P Q 1) 8 := by rw [c1e]; exact c1
    by_cases c2 : fX6_within_v d 1 20 = 0
    · have c2' : fX7_in_v d.toInt64 1 20 = 0 := by rw [w_120]; exact c2
      have cls := tX6_ahead_2 (l := l) hst (mS M A T D N V I K B) R O hC X G J S C P Q hPG.2.2 a d c1q c2
      have ref := mX7_ahead (l := l) (cS M X G J S C P (fX2_copyFrom_P P Q)) R O hL A T D N V I K B a d hPG.2.1.ws
      rw [show fX7_ahead_A A T D N V I K B a d = upd A 0 2 from (if_neg c1').trans (if_pos c2')] at ref
      simp only [← ZZ_m] at ref
      refine ⟨2, _, _, _, _, _, _, _, ?_, ?_, wL_ahead_t2 hcs h475 (by decide) (by decide) a d cls, ref, ?_, fun e => absurd e (by decide), _, _, _, _, _, _, _, _, _, _, _, _, _, _, _, _, _, _, rfl, hC, hL, (hI.ref 2).le (by omega)⟩
      · decide
      · decide
      · rw [ZZ_24]; rfl
    · have c2' : ¬ fX7_in_v d.toInt64 1 20 = 0 := by rw [w_120]; exact c2
      have cls := mX6_ahead (l := l) (mS M A T D N V I K B) R O hC X G J S C P Q hPG.2.2 a d h8 c1q c2
      have ref := mX7_ahead (l := l) (cS M X G J S C P (fX2_goHours_P (fX2_copyFrom_P P Q) d)) R (fX2_goHours_P (fX2_copyFrom_P P Q) d (82 + 5 * a.toNatClampNeg + 4)).toInt64 hL A T D N V I K B a d hPG.2.1.ws
      rw [show fX7_ahead_A A T D N V I K B a d = upd A 0 0 from (if_neg c1').trans (if_neg c2'), show fX7_ahead_v A T D N V I K B a d = _ from (if_neg c1').trans (if_neg c2')] at ref
      simp only [← ZZ_m] at ref
      refine ⟨0, _, _, _, _, _, _, _, ?_, ?_, wL_ahead hcs h475 hall (by decide) (by decide) a d cls, ref, ?_, fun _ => congrArg Int32.toInt64 (ma_ahead hPG (by omega) Q V c1 c2), _, _, _, _, _, _, _, _, _, _, _, _, _, _, _, _, _, _, rfl, hC, hL, (hI.ref 0).le (by omega)⟩
      · decide
      · decide
      · rw [ZZ_24]; rfl
  · have c1' : fX7_isHouse_v N a = 0 := by rw [ho_ok hPG.2.1]; exact c1
    have cls := tX6_ahead_1 (l := l) hst (mS M A T D N V I K B) R O hC X G J S C P Q hPG.2.2 a d (by rw [c1e]; exact c1)
    have ref := mX7_ahead (l := l) (cS M X G J S C P (fX2_copyFrom_P P Q)) R O hL A T D N V I K B a d hPG.2.1.ws
    rw [show fX7_ahead_A A T D N V I K B a d = upd A 0 1 from if_pos c1'] at ref
    simp only [← ZZ_m] at ref
    refine ⟨1, _, _, _, _, _, _, _, ?_, ?_, wL_ahead_t1 hcs h475 (by decide) (by decide) a d cls, ref, ?_, fun e => absurd e (by decide), _, _, _, _, _, _, _, _, _, _, _, _, _, _, _, _, _, _, rfl, hC, hL, (hI.ref 1).le (by omega)⟩
    · decide
    · decide
    · rw [ZZ_24]; rfl
set_option maxRecDepth 100000 in
theorem st_waterFor {l : Launch} {Γ : gX} (hst : l.stackTraces = false) (hcs : 491 ∈ gcs Γ) (hall : ∀ c ∈ gcs Γ, c < 492) {u : Nat} {R : Nat → Nat → Option Nat} {O : Int64} {Z : Nat → Nat → Int32} (h : INV u Γ R Z) (hu : 1998 * (u + 5000) < 2 ^ 31) (a : Int32) : STEP l Γ (u + 850) yL_waterFor wsL_waterFor yX7_waterFor wsX7_waterFor [.int a] R O Z := by
  obtain ⟨M, X, G, J, S, C, P, Q, A, T, D, N, V, I, K, B, pm, k, rfl, hC, hL, hI⟩ := h
  have hPG := hI.pg
  have h475 := hC.1 475 (by decide) (by decide)
  have hk := hI.2.1
  have hJ := hI.2.2.1
  have hA := hI.2.2.2.1
  have tx := hI.tx
  have e1 : P 1 = N 1 := hPG.1.hd (by decide)
  by_cases c1 : okI a (N 1) 8
  · have c1' : ¬ fX7_isHouse_v N a = 0 := by rw [ho_ok hPG.2.1]; exact fun q => q c1
    obtain ⟨kx, hkx, ⟨f1, f2⟩, g1, g2⟩ := ma_waterFor hPG (by omega) Q V c1
    have cls := mX6_waterFor (l := l) (mS M A T D N V I K B) R O hC X G J S C P Q hPG.2.2 a (by rw [e1]; exact c1) kx hkx f1 f2
    have ref := mX7_waterFor_y (l := l) (cS M X G J S C P (fX6_waterFor_L P a.toNatClampNeg Q (if kx < 10 then kx + 1 else 10))) R (if kx < 10 then nI kx else -9).toInt64 hL A T D N V I K B a hPG.2.1.ws c1' kx hkx g1 g2
    simp only [← ZZ_m] at ref
    refine ⟨0, _, _, _, _, _, _, _, ?_, ?_, wL_waterFor hcs h475 hall (by decide) (by decide) a cls, ref, ?_, fun _ => congrArg Int32.toInt64 rfl, _, _, _, _, _, _, _, _, _, _, _, _, _, _, _, _, _, _, rfl, hC, hL, (hI.ref 0).le (by omega)⟩
    · decide
    · decide
    · rw [ZZ_24]; rfl
  · have c1' : fX7_isHouse_v N a = 0 := by rw [ho_ok hPG.2.1]; exact c1
    have cls := tX6_waterFor (l := l) hst (mS M A T D N V I K B) R O hC X G J S C P Q a (by rw [e1]; exact c1)
    have ref := mX7_waterFor_n1 (l := l) (cS M X G J S C P Q) R O hL A T D N V I K B a c1'
    simp only [← ZZ_m] at ref
    refine ⟨1, _, _, _, _, _, _, _, ?_, ?_, wL_waterFor_t1 hcs h475 (by decide) (by decide) a cls, ref, ?_, fun e => absurd e (by decide), _, _, _, _, _, _, _, _, _, _, _, _, _, _, _, _, _, _, rfl, hC, hL, (hI.ref 1).le (by omega)⟩
    · decide
    · decide
    · rw [ZZ_24]; rfl
set_option maxRecDepth 100000 in
theorem st_limitFor {l : Launch} {Γ : gX} (hst : l.stackTraces = false) (hcs : 491 ∈ gcs Γ) (hall : ∀ c ∈ gcs Γ, c < 492) {u : Nat} {R : Nat → Nat → Option Nat} {O : Int64} {Z : Nat → Nat → Int32} (h : INV u Γ R Z) (hu : 1998 * (u + 5000) < 2 ^ 31) (a : Int32) : STEP l Γ (u + 850) yL_limitFor wsL_limitFor yX7_limitFor wsX7_limitFor [.int a] R O Z := by
  obtain ⟨M, X, G, J, S, C, P, Q, A, T, D, N, V, I, K, B, pm, k, rfl, hC, hL, hI⟩ := h
  have hPG := hI.pg
  have h475 := hC.1 475 (by decide) (by decide)
  have hk := hI.2.1
  have hJ := hI.2.2.1
  have hA := hI.2.2.2.1
  have tx := hI.tx
  have e1 : P 1 = N 1 := hPG.1.hd (by decide)
  by_cases c1 : okI a (N 1) 8
  · have c1' : ¬ fX7_isHouse_v N a = 0 := by rw [ho_ok hPG.2.1]; exact fun q => q c1
    obtain ⟨r, kx, hr, er, hkx, ⟨f1, f2⟩, g1, g2⟩ := ma_limitFor hPG (by omega) Q V c1
    have ev : (if r + kx < 5 then nI (5 - (r + kx)) else -9) = (if kx < 5 - r then nI (5 - r - kx) else -9) := by
      by_cases q : kx < 5 - r
      · rw [if_pos q, if_pos (by omega), Nat.sub_sub]
      · rw [if_neg q, if_neg (by omega)]
    have cls := mX6_limitFor (l := l) (mS M A T D N V I K B) R O hC X G J S C P Q hPG.2.2 a (by rw [e1]; exact c1) (r + kx) (by omega) f1 f2
    have ref := mX7_limitFor_y (l := l) (cS M X G J S C P (fX6_limitFor_L P a.toNatClampNeg Q (if r + kx < 5 then r + kx + 1 else 5))) R (if r + kx < 5 then nI (5 - (r + kx)) else -9).toInt64 hL A T D N V I K B a hPG.2.1.ws (5 - r) (by omega) er c1' kx hkx g1 g2
    simp only [← ZZ_m] at ref
    refine ⟨0, _, _, _, _, _, _, _, ?_, ?_, wL_limitFor hcs h475 hall (by decide) (by decide) a cls, ref, ?_, fun _ => congrArg Int32.toInt64 ev, _, _, _, _, _, _, _, _, _, _, _, _, _, _, _, _, _, _, rfl, hC, hL, (hI.ref 0).le (by omega)⟩
    · decide
    · decide
    · rw [ZZ_24]; rfl
  · have c1' : fX7_isHouse_v N a = 0 := by rw [ho_ok hPG.2.1]; exact c1
    have cls := tX6_limitFor (l := l) hst (mS M A T D N V I K B) R O hC X G J S C P Q a (by rw [e1]; exact c1)
    have ref := mX7_limitFor_n1 (l := l) (cS M X G J S C P Q) R O hL A T D N V I K B a c1'
    simp only [← ZZ_m] at ref
    refine ⟨1, _, _, _, _, _, _, _, ?_, ?_, wL_limitFor_t1 hcs h475 (by decide) (by decide) a cls, ref, ?_, fun e => absurd e (by decide), _, _, _, _, _, _, _, _, _, _, _, _, _, _, _, _, _, _, rfl, hC, hL, (hI.ref 1).le (by omega)⟩
    · decide
    · decide
    · rw [ZZ_24]; rfl
set_option maxRecDepth 100000 in
theorem st_complainsIn {l : Launch} {Γ : gX} (hst : l.stackTraces = false) (hcs : 491 ∈ gcs Γ) (hall : ∀ c ∈ gcs Γ, c < 492) {u : Nat} {R : Nat → Nat → Option Nat} {O : Int64} {Z : Nat → Nat → Int32} (h : INV u Γ R Z) (hu : 1998 * (u + 5000) < 2 ^ 31) (a : Int32) : STEP l Γ (u + 850) yL_complainsIn wsL_complainsIn yX7_complainsIn wsX7_complainsIn [.int a] R O Z := by
  obtain ⟨M, X, G, J, S, C, P, Q, A, T, D, N, V, I, K, B, pm, k, rfl, hC, hL, hI⟩ := h
  have hPG := hI.pg
  have h475 := hC.1 475 (by decide) (by decide)
  have hk := hI.2.1
  have hJ := hI.2.2.1
  have hA := hI.2.2.2.1
  have tx := hI.tx
  have e1 : P 1 = N 1 := hPG.1.hd (by decide)
  have c1e : fX2_copyFrom_P P Q 1 = N 1 := (ccp P Q (by decide)).trans e1
  have h8 : (P 1).toNatClampNeg ≤ 8 := by rw [e1]; exact hPG.2.1.h8.2
  by_cases c1 : okI a (N 1) 8
  · have c1' : ¬ fX7_isHouse_v N a = 0 := by rw [ho_ok hPG.2.1]; exact fun q => q c1
    obtain ⟨kx, hkx, ⟨f1, f2⟩, g1, g2⟩ := ma_complainsIn hPG (by omega) Q V c1
    have cls := mX6_complainsIn (l := l) (mS M A T D N V I K B) R O hC X G J S C P Q hPG.2.2 a h8 (by rw [c1e]; exact c1) kx hkx f1 f2
    have ref := mX7_complainsIn_y (l := l) (cS M X G J S C P (fX6_complainsIn_L a.toNatClampNeg (fX2_copyFrom_P P Q (82 + 5 * a.toNatClampNeg + 3)) (fX2_copyFrom_P P Q) (if kx < 50 then kx + 1 else 50))) R (if kx < 50 then nI (kx + 1) else -9).toInt64 hL A T D N V I K B a hPG.2.1.ws c1' kx hkx g1 g2
    simp only [← ZZ_m] at ref
    refine ⟨0, _, _, _, _, _, _, _, ?_, ?_, wL_complainsIn hcs h475 hall (by decide) (by decide) a cls, ref, ?_, fun _ => congrArg Int32.toInt64 rfl, _, _, _, _, _, _, _, _, _, _, _, _, _, _, _, _, _, _, rfl, hC, hL, (hI.ref 0).le (by omega)⟩
    · decide
    · decide
    · rw [ZZ_24]; rfl
  · have c1' : fX7_isHouse_v N a = 0 := by rw [ho_ok hPG.2.1]; exact c1
    have cls := tX6_complainsIn (l := l) hst (mS M A T D N V I K B) R O hC X G J S C P Q hPG.2.2 a (by rw [c1e]; exact c1)
    have ref := mX7_complainsIn_n1 (l := l) (cS M X G J S C P (fX2_copyFrom_P P Q)) R O hL A T D N V I K B a c1'
    simp only [← ZZ_m] at ref
    refine ⟨1, _, _, _, _, _, _, _, ?_, ?_, wL_complainsIn_t1 hcs h475 (by decide) (by decide) a cls, ref, ?_, fun e => absurd e (by decide), _, _, _, _, _, _, _, _, _, _, _, _, _, _, _, _, _, _, rfl, hC, hL, (hI.ref 1).le (by omega)⟩
    · decide
    · decide
    · rw [ZZ_24]; rfl
set_option maxRecDepth 100000 in
theorem st_bestSpray {l : Launch} {Γ : gX} (hst : l.stackTraces = false) (hcs : 491 ∈ gcs Γ) (hall : ∀ c ∈ gcs Γ, c < 492) {u : Nat} {R : Nat → Nat → Option Nat} {O : Int64} {Z : Nat → Nat → Int32} (h : INV u Γ R Z) (hu : 1998 * (u + 5000) < 2 ^ 31) (a d : Int32) : STEP l Γ (u + 850) yL_bestSpray wsL_bestSpray yX7_bestSpray wsX7_bestSpray [.int a, .int d] R O Z := by
  obtain ⟨M, X, G, J, S, C, P, Q, A, T, D, N, V, I, K, B, pm, k, rfl, hC, hL, hI⟩ := h
  have hPG := hI.pg
  have h475 := hC.1 475 (by decide) (by decide)
  have hk := hI.2.1
  have hJ := hI.2.2.1
  have hA := hI.2.2.2.1
  have tx := hI.tx
  have e0 : P 0 = N 0 := hPG.1.hd (by decide)
  have e1 : P 1 = N 1 := hPG.1.hd (by decide)
  have e2 : P 2 = N 2 := hPG.1.hd (by decide)
  have h8 : (P 1).toNatClampNeg ≤ 8 := by rw [e1]; exact hPG.2.1.h8.2
  by_cases c1 : okI a (N 2) 3
  · have c1' : ¬ fX7_isWagon_v N a = 0 := by rw [wa_ok hPG.2.1]; exact fun q => q c1
    have c1q : okI a (P 2) 3 := by rw [e2]; exact c1
    by_cases c2 : fX6_within_v d 1 9 = 0
    · have c2' : fX7_in_v d.toInt64 1 9 = 0 := by rw [w_19]; exact c2
      have cls := tX6_bestSpray_2 (l := l) hst (mS M A T D N V I K B) R O hC X G J S C P Q a d c1q c2
      have ref := mX7_bestSpray (l := l) (cS M X G J S C P Q) R O hL A T D N V I K B a d hPG.2.1.ws
      rw [show fX7_bestSpray_A A T D N V I K B a d = upd A 0 2 from (if_neg c1').trans (if_pos c2')] at ref
      simp only [← ZZ_m] at ref
      refine ⟨2, _, _, _, _, _, _, _, ?_, ?_, wL_bestSpray_t2 hcs h475 (by decide) (by decide) a d cls, ref, ?_, fun e => absurd e (by decide), _, _, _, _, _, _, _, _, _, _, _, _, _, _, _, _, _, _, rfl, hC, hL, (hI.ref 2).le (by omega)⟩
      · decide
      · decide
      · rw [ZZ_24]; rfl
    · have c2' : ¬ fX7_in_v d.toInt64 1 9 = 0 := by rw [w_19]; exact c2
      have hd := (wi_nn (lo := 1) (hi := 9) c2 (by decide) (by decide)).1
      have bs := (bs_all hPG (by omega) Q V (okI.nn c1 hPG.2.1.w3 (by decide)).2 hd (N 0).toNatClampNeg (Nat.le_refl _)).1
      rw [← e0] at bs
      have cls := mX6_bestSpray (l := l) (mS M A T D N V I K B) R O hC X G J S C P Q hPG.2.2 h8 a d c1q c2
      have ref := mX7_bestSpray (l := l) (cS M X G J S C P (fX6_best_L P a.toNatClampNeg d Q (P 0).toNatClampNeg)) R (fX6_best_A P a.toNatClampNeg d Q (P 0).toNatClampNeg).1.toInt64 hL A T D N V I K B a d hPG.2.1.ws
      rw [show fX7_bestSpray_A A T D N V I K B a d = upd A 0 0 from (if_neg c1').trans (if_neg c2'), show fX7_bestSpray_v A T D N V I K B a d = (fX7_best_A N a d V (P 0).toNatClampNeg).1 by rw [e0]; exact (if_neg c1').trans (if_neg c2')] at ref
      simp only [← ZZ_m] at ref
      refine ⟨0, _, _, _, _, _, _, _, ?_, ?_, wL_bestSpray hcs h475 hall (by decide) (by decide) a d cls, ref, ?_, fun _ => congrArg Int32.toInt64 (congrArg Prod.fst bs), _, _, _, _, _, _, _, _, _, _, _, _, _, _, _, _, _, _, rfl, hC, hL, (hI.ref 0).le (by omega)⟩
      · decide
      · decide
      · rw [ZZ_24]; rfl
  · have c1' : fX7_isWagon_v N a = 0 := by rw [wa_ok hPG.2.1]; exact c1
    have cls := tX6_bestSpray_1 (l := l) hst (mS M A T D N V I K B) R O hC X G J S C P Q a d (by rw [e2]; exact c1)
    have ref := mX7_bestSpray (l := l) (cS M X G J S C P Q) R O hL A T D N V I K B a d hPG.2.1.ws
    rw [show fX7_bestSpray_A A T D N V I K B a d = upd A 0 1 from if_pos c1'] at ref
    simp only [← ZZ_m] at ref
    refine ⟨1, _, _, _, _, _, _, _, ?_, ?_, wL_bestSpray_t1 hcs h475 (by decide) (by decide) a d cls, ref, ?_, fun e => absurd e (by decide), _, _, _, _, _, _, _, _, _, _, _, _, _, _, _, _, _, _, rfl, hC, hL, (hI.ref 1).le (by omega)⟩
    · decide
    · decide
    · rw [ZZ_24]; rfl
