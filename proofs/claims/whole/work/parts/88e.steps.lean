/-! THE STEPS: the script, chance. Laid by gen/p30.py. -/
theorem nI_any (x : Int32) : ∃ n, x = nI n := ⟨x.toBitVec.toNat, by unfold nI; apply Int32.toBitVec_inj.mp; simp⟩
theorem spl_n {s n : Nat} (hs : s < 2 ^ 63) (h4 : n ≤ 4) : fX6_spl_R (lN s) n = 0 ↔ s < 10000 ^ n := by
  rw [spl_R hs, show (0 : Int64) = lN 0 from rfl, pk_lEQ (Nat.lt_of_le_of_lt (Nat.div_le_self _ _) hs) (by decide)]
  exact ⟨fun q => Nat.lt_of_div_eq_zero (p4 n) q, Nat.div_eq_of_lt⟩
theorem spl_in {s n : Nat} (hs : s < 2 ^ 63) (h4 : n ≤ 4) : fX7_in_v (lN s) 0 (lN (10000 ^ n) - 1) = 0 ↔ ¬ s < 10000 ^ n := by
  have p := p4 n
  have q := p4_le h4
  unfold fX7_in_v
  rw [show lN (10000 ^ n) - 1 = lN (10000 ^ n - 1) from lN_sub (b := 1) p, if_neg (show ¬ lN s < 0 from fun e => by rw [show (0 : Int64) = lN 0 from rfl, pk_lLT hs (by decide)] at e; omega)]
  by_cases c : lN (10000 ^ n - 1) < lN s
  · rw [if_pos c]
    rw [pk_lLT (by omega) hs] at c
    exact ⟨fun _ => by omega, fun _ => rfl⟩
  · rw [if_neg c]
    rw [pk_lLT (by omega) hs] at c
    exact ⟨fun e => absurd e (by decide), fun e => absurd (show s < 10000 ^ n by omega) e⟩
set_option maxRecDepth 100000 in
theorem st_runScript {l : Launch} {Γ : gX} (hst : l.stackTraces = false) (hcs : 491 ∈ gcs Γ) (hall : ∀ c ∈ gcs Γ, c < 492) {u : Nat} {R : Nat → Nat → Option Nat} {O : Int64} {Z : Nat → Nat → Int32} (h : INV u Γ R Z) (hu : 1998 * (u + 5000) < 2 ^ 31) (a : Int32) (sc : Int64) : STEP l Γ (u + 850) yL_runScript wsL_runScript yX7_runScript wsX7_runScript [.int a, .long sc] R O Z := by
  obtain ⟨M, X, G, J, S, C, P, Q, A, T, D, N, V, I, K, B, pm, k, rfl, hC, hL, hI⟩ := h
  have hPG := hI.pg
  have h475 := hC.1 475 (by decide) (by decide)
  have hk := hI.2.1
  have hJ := hI.2.2.1
  have hA := hI.2.2.2.1
  have tx := hI.tx
  have e1 : P 1 = N 1 := hPG.1.hd (by decide)
  have h8 : (P 1).toNatClampNeg ≤ 8 := by rw [e1]; exact hPG.2.1.h8.2
  by_cases c1 : fX6_within_v a 1 4 = 0
  · have c1' : fX7_in_v a.toInt64 1 4 = 0 := by rw [w_14]; exact c1
    obtain ⟨n, en⟩ := nI_any a
    have cls := tX6_runScript_1 (l := l) hst (mS M A T D N V I K B) R O hC X G J S C P Q n en sc c1
    have ref := mX7_runScript_n1 (l := l) (cS M X G J S C P Q) R O hL A T D N V I K B a _ sc rfl hPG.2.1.ws c1'
    simp only [← ZZ_m] at ref
    refine ⟨1, _, _, _, _, _, _, _, ?_, ?_, wL_runScript_t1 hcs h475 (by decide) (by decide) a sc cls, ref, ?_, fun e => absurd e (by decide), _, _, _, _, _, _, _, _, _, _, _, _, _, _, _, _, _, _, rfl, hC, hL, (hI.ref 1).le (by omega)⟩
    · decide
    · decide
    · rw [ZZ_24]; rfl
  · have c1' : ¬ fX7_in_v a.toInt64 1 4 = 0 := by rw [w_14]; exact c1
    obtain ⟨an, a1⟩ := wi_nn (lo := 1) (hi := 4) c1 (by decide) (by decide)
    obtain ⟨n, hn, en, en'⟩ := an.ex
    rw [en'] at a1
    have z0 := z0_eq en a1 hn
    by_cases c2 : sc < 0
    · have c2' : fX7_in_v sc 0 (lN (10000 ^ n) - 1) = 0 := if_pos c2
      have cls := tX6_runScript_2 (l := l) hst (mS M A T D N V I K B) R O hC X G J S C P Q n en sc c1 c2
      have ref := mX7_runScript_n2 (l := l) (cS M X G J S C P Q) R O hL A T D N V I K B a _ sc z0.symm hPG.2.1.ws c1' c2'
      simp only [← ZZ_m] at ref
      refine ⟨1, _, _, _, _, _, _, _, ?_, ?_, wL_runScript_t1 hcs h475 (by decide) (by decide) a sc cls, ref, ?_, fun e => absurd e (by decide), _, _, _, _, _, _, _, _, _, _, _, _, _, _, _, _, _, _, rfl, hC, hL, (hI.ref 1).le (by omega)⟩
      · decide
      · decide
      · rw [ZZ_24]; rfl
    · obtain ⟨s, hs, rfl⟩ := pk_lOf c2
      by_cases c3 : s < 10000 ^ n
      · obtain ⟨kx, hkx, ⟨f1, f2⟩, g1, g2⟩ := ma_script hPG (by omega) Q V C hn c3
        have hz : ∀ j, j < a.toNatClampNeg → fX7_all (lN (10000 ^ n)) (j + 1) ≠ 0 := fun j hj e => by
          rw [en'] at hj
          rw [all_eq hn (j + 1) (by omega), show (0 : Int64) = lN 0 from rfl, pk_lEQ (p4_le (by omega)) (by decide)] at e
          have := p4 (n - (j + 1))
          omega
        have ev : (if kx < n then nI kx else -9) = (if kx < a.toNatClampNeg then nI kx else -9) := by rw [en']
        have cls := mX6_runScript (l := l) (mS M A T D N V I K B) R O hC X G J S C P Q hPG.2.2 h8 n en (lN s) hn c1 c2 ((spl_n hs hn).mpr c3) kx hkx f1 f2
        have ref := mX7_runScript_y (l := l) (cS M X G J S (fX6_spl_L (lN s) n C n) P (fX6_run_L (fX6_spl_L (lN s) n C n) (fX2_copyFrom_P P Q) (if kx < n then kx + 1 else n))) R (if kx < n then nI kx else -9).toInt64 hL A T D N V I K B a _ (lN s) z0.symm hPG.2.1.ws hz c1' (fun q => (spl_in hs hn).mp q c3) kx (by rw [en']; exact hkx) g1 (fun q => g2 (by rw [en'] at q; exact q))
        simp only [← ZZ_m] at ref
        refine ⟨0, _, _, _, _, _, _, _, ?_, ?_, wL_runScript hcs h475 hall (by decide) (by decide) a (lN s) cls, ref, ?_, fun _ => congrArg Int32.toInt64 ev, _, _, _, _, _, _, _, _, _, _, _, _, _, _, _, _, _, _, rfl, hC, hL, (hI.ref 0).le (by omega)⟩
        · decide
        · decide
        · rw [ZZ_24]; rfl
      · have c3' := (spl_in hs hn).mpr c3
        have cls := tX6_runScript_3 (l := l) hst (mS M A T D N V I K B) R O hC X G J S C P Q n en (lN s) hn c1 c2 (fun q => c3 ((spl_n hs hn).mp q))
        have ref := mX7_runScript_n2 (l := l) (cS M X G J S (fX6_spl_L (lN s) n C n) P Q) R O hL A T D N V I K B a _ (lN s) z0.symm hPG.2.1.ws c1' c3'
        simp only [← ZZ_m] at ref
        refine ⟨1, _, _, _, _, _, _, _, ?_, ?_, wL_runScript_t1 hcs h475 (by decide) (by decide) a (lN s) cls, ref, ?_, fun e => absurd e (by decide), _, _, _, _, _, _, _, _, _, _, _, _, _, _, _, _, _, _, rfl, hC, hL, (hI.ref 1).le (by omega)⟩
        · decide
        · decide
        · rw [ZZ_24]; rfl
set_option maxRecDepth 100000 in
theorem st_simulate {l : Launch} {Γ : gX} (hst : l.stackTraces = false) (hcs : 491 ∈ gcs Γ) (hall : ∀ c ∈ gcs Γ, c < 492) {u : Nat} {R : Nat → Nat → Option Nat} {O : Int64} {Z : Nat → Nat → Int32} (h : INV u Γ R Z) (hu : 1998 * (u + 5000) < 2 ^ 31) (a : Int64) (d : Int32) : STEP l Γ (u + 850) yL_simulate wsL_simulate yX7_simulate wsX7_simulate [.long a, .int d] R O Z := by
  obtain ⟨M, X, G, J, S, C, P, Q, A, T, D, N, V, I, K, B, pm, k, rfl, hC, hL, hI⟩ := h
  have hPG := hI.pg
  have h475 := hC.1 475 (by decide) (by decide)
  have hk := hI.2.1
  have hJ := hI.2.2.1
  have hA := hI.2.2.2.1
  have tx := hI.tx
  have e1 : P 1 = N 1 := hPG.1.hd (by decide)
  have c1e : fX2_copyFrom_P P Q 1 = N 1 := (ccp P Q (by decide)).trans e1
  have h8 : (P 1).toNatClampNeg ≤ 8 := by rw [e1]; exact hPG.2.1.h8.2
  have e10 : P 10 = N 10 := hPG.1.hd (by decide)
  have n0 : ¬ N 0 = 0 := fun q => by have := hPG.2.1.2.1; rw [q] at this; exact absurd this (by decide)
  by_cases c1 : fX6_within_v d 1 99 = 0
  · have c1' : fX7_in_v d.toInt64 1 99 = 0 := by rw [w_199]; exact c1
    have cls := tX6_simulate (l := l) hst (mS M A T D N V I K B) R O hC X G J S C P Q a d c1
    have ref := mX7_simulate (l := l) (cS M X G J S C P Q) R O hL A T D N V I K B a d hPG.2.1.ws n0
    rw [show fX7_simulate_A A T D N V I K B a d = upd A 0 1 from if_pos c1'] at ref
    simp only [← ZZ_m] at ref
    refine ⟨1, _, _, _, _, _, _, _, ?_, ?_, wL_simulate_t1 hcs h475 (by decide) (by decide) a d cls, ref, ?_, fun e => absurd e (by decide), _, _, _, _, _, _, _, _, _, _, _, _, _, _, _, _, _, _, rfl, hC, hL, (hI.ref 1).le (by omega)⟩
    · decide
    · decide
    · rw [ZZ_24]; rfl
  · have c1' : ¬ fX7_in_v d.toInt64 1 99 = 0 := by rw [w_199]; exact c1
    have hd := (wi_nn (lo := 1) (hi := 99) c1 (by decide) (by decide)).1.2
    have cp := hPG.copy Q V
    obtain ⟨s1, -, -, s4⟩ := sim_Rl cp.1 cp.2.1 a d.toNatClampNeg (by omega)
    have s10 := s1.hd (show 10 < 12 by decide)
    by_cases c2 : N 1 = 0
    · have ok : ¬ okI 0 (fX2_copyFrom_P P Q 1) 8 := by rw [c1e, c2]; exact fun q => absurd q.2.1 (by decide)
      have ev : 10000 * (fX6_simn_L a (fX2_copyFrom_P P Q) d.toNatClampNeg 10 - P 10) + (if fX6_simn_A7 a (fX2_copyFrom_P P Q) d.toNatClampNeg < 9999 then fX6_simn_A7 a (fX2_copyFrom_P P Q) d.toNatClampNeg else 9999) = 10000 * (fX7_sim_L a (fX7_copyPage_P N V 0 0) d.toNatClampNeg 10 - N 10) + fX7_less_v 0 9999 := by
        rw [simn_0, simn_h, s10, e10]
        rfl
      have cls := mX6_simulate_n (l := l) (mS M A T D N V I K B) R O hC X G J S C P Q hPG.2.2 h8 a d c1 ok
      have ref := mX7_simulate (l := l) (cS M X G J S C P (fX6_simn_L a (fX2_copyFrom_P P Q) d.toNatClampNeg)) R (10000 * (fX6_simn_L a (fX2_copyFrom_P P Q) d.toNatClampNeg 10 - P 10) + (if fX6_simn_A7 a (fX2_copyFrom_P P Q) d.toNatClampNeg < 9999 then fX6_simn_A7 a (fX2_copyFrom_P P Q) d.toNatClampNeg else 9999)).toInt64 hL A T D N V I K B a d hPG.2.1.ws n0
      rw [show fX7_simulate_A A T D N V I K B a d = upd A 0 0 from (if_neg c1').trans (if_pos c2), show fX7_simulate_v A T D N V I K B a d = _ from (if_neg c1').trans (if_pos c2)] at ref
      simp only [← ZZ_m] at ref
      refine ⟨0, _, _, _, _, _, _, _, ?_, ?_, wL_simulate hcs h475 hall (by decide) (by decide) a d cls, ref, ?_, fun _ => congrArg Int32.toInt64 ev, _, _, _, _, _, _, _, _, _, _, _, _, _, _, _, _, _, _, rfl, hC, hL, (hI.ref 0).le (by omega)⟩
      · decide
      · decide
      · rw [ZZ_24]; rfl
    · obtain ⟨n1, hn1, en1, en1'⟩ := hPG.2.1.h8.ex
      have p1 : 0 < n1 := Nat.pos_of_ne_zero (fun q => c2 (by rw [en1, q]; rfl))
      have ok : okI 0 (fX2_copyFrom_P P Q 1) 8 := by rw [c1e]; exact okI_nI (i := 0) en1 rfl p1 hn1 (by decide)
      have cn : fX7_copyPage_P N V 0 0 1 = N 1 := rcp0 N V (by decide)
      have c84 : fX7_copyPage_P N V 0 0 84 = N 84 := rcp0 N V (by decide)
      have s7 := s4 (by rw [cn, en1']; exact p1)
      rw [c84] at s7
      have ev : 10000 * (fX6_simh_L a (fX2_copyFrom_P P Q) d.toNatClampNeg 10 - P 10) + (if fX6_simh_A7 a (fX2_copyFrom_P P Q) d.toNatClampNeg < 9999 then fX6_simh_A7 a (fX2_copyFrom_P P Q) d.toNatClampNeg else 9999) = 10000 * (fX7_sim_L a (fX7_copyPage_P N V 0 0) d.toNatClampNeg 10 - N 10) + fX7_less_v (fX7_sim_L a (fX7_copyPage_P N V 0 0) d.toNatClampNeg 84 - N 84) 9999 := by
        rw [s7, s10, e10]
        congr 1
        unfold fX7_less_v
        generalize fX7_sim_L a (fX7_copyPage_P N V 0 0) d.toNatClampNeg 84 - N 84 = x
        by_cases q : x < 9999
        · rw [if_pos q, if_neg (Int32.not_le.mpr q)]
        · rw [if_neg q, if_pos (Int32.not_lt.mp q)]
      have cls := mX6_simulate_h (l := l) (mS M A T D N V I K B) R O hC X G J S C P Q hPG.2.2 h8 a d c1 ok
      have ref := mX7_simulate (l := l) (cS M X G J S C P (fX6_simh_L a (fX2_copyFrom_P P Q) d.toNatClampNeg)) R (10000 * (fX6_simh_L a (fX2_copyFrom_P P Q) d.toNatClampNeg 10 - P 10) + (if fX6_simh_A7 a (fX2_copyFrom_P P Q) d.toNatClampNeg < 9999 then fX6_simh_A7 a (fX2_copyFrom_P P Q) d.toNatClampNeg else 9999)).toInt64 hL A T D N V I K B a d hPG.2.1.ws n0
      rw [show fX7_simulate_A A T D N V I K B a d = upd A 0 0 from (if_neg c1').trans (if_neg c2), show fX7_simulate_v A T D N V I K B a d = _ from (if_neg c1').trans (if_neg c2)] at ref
      simp only [← ZZ_m] at ref
      refine ⟨0, _, _, _, _, _, _, _, ?_, ?_, wL_simulate hcs h475 hall (by decide) (by decide) a d cls, ref, ?_, fun _ => congrArg Int32.toInt64 ev, _, _, _, _, _, _, _, _, _, _, _, _, _, _, _, _, _, _, rfl, hC, hL, (hI.ref 0).le (by omega)⟩
      · decide
      · decide
      · rw [ZZ_24]; rfl
