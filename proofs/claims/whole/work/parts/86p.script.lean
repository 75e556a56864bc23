/-! MATH: a command as it is written; a script. -/
theorem ob_0 {u : Nat} (P N : Nat → Int32) : OB u 0 P 0 N := Or.inl ⟨rfl, rfl⟩
set_option maxHeartbeats 4000000 in
/-- a command of four digits -/
theorem ob_all {u : Nat} {P N : Nat → Int32} (h : Rl P N) (hN : PI u N) (hu : 1998 * (u + 850) < 2 ^ 31) {g : Nat} (hg : g < 10000) : OB u (fX2_obeys_v P (nI g)) (fX2_obeys_P P (nI g)) (fX7_dov N (nI g / 1000) (remI (nI g / 100) 10) (remI (nI g) 100)) (fX7_dos N (nI g / 1000) (remI (nI g / 100) 10) (remI (nI g) 100)) := by
  obtain ⟨e1, e2, e3, e4⟩ := dg_all hg
  have hh : g / 1000 < 10 := by omega
  have ha : g / 100 % 10 < 10 := by omega
  have ht : g % 100 < 100 := by omega
  have hl : g % 100 < 10 → g % 10 = g % 100 := by omega
  unfold fX2_obeys_v fX2_obeys_P fX7_dov fX7_dos fX7_does_v fX7_does_V
  rw [e1, e2, e3, e4]
  generalize g / 100 % 10 = a at ha ⊢
  generalize g % 100 = t at ht hl ⊢
  generalize g % 10 = b at hl ⊢
  generalize g / 1000 = H at hh ⊢
  by_cases q : t < 10
  · have q' : ¬ 10 ≤ nI t := nI_ge (a := t) (b := 10) q (by decide)
    rw [hl q]
    simp only [if_neg q']
    rcases (show H = 0 ∨ H = 1 ∨ H = 2 ∨ H = 3 ∨ H = 4 ∨ H = 5 ∨ H = 6 ∨ H = 7 ∨ H = 8 ∨ H = 9 by omega) with rfl | rfl | rfl | rfl | rfl | rfl | rfl | rfl | rfl | rfl <;> simp (decide := true) only [if_true, if_false]
    · exact ob_0 _ _
    · exact ob_1 h hN hu
    · simpa only [if_neg q'] using ob_2 (a := a) h hN q
    · exact ob_3 h hN (by omega)
    · exact ob_4 h hN
    · exact ob_5 h hN
    · exact ob_6 h hN ht
    · exact ob_7 h hN
    · exact ob_8 h hN
    · simpa only [ite_self] using ob_9 (a := a) (t := t) h hN
  · have q' : 10 ≤ nI t := nI_le (a := 10) (b := t) (by omega) (by omega)
    simp only [if_pos q']
    rcases (show H = 0 ∨ H = 1 ∨ H = 2 ∨ H = 3 ∨ H = 4 ∨ H = 5 ∨ H = 6 ∨ H = 7 ∨ H = 8 ∨ H = 9 by omega) with rfl | rfl | rfl | rfl | rfl | rfl | rfl | rfl | rfl | rfl <;> simp (decide := true) only [if_true, if_false]
    · exact ob_0 _ _
    · exact ob_1 h hN hu
    · simpa only [if_pos q'] using ob_2' (u := u) (P := P) (N := N) (a := a) (t := t) (by omega) ht
    · exact ob_3' (by omega) ht
    · exact ob_4 h hN
    · exact ob_5' hN (by omega) ht
    · exact ob_6' (by omega) ht
    · exact ob_7 h hN
    · exact ob_8 h hN
    · simpa only [ite_self] using ob_9 (a := a) (t := t) h hN
theorem p4 (n : Nat) : 0 < 10000 ^ n := Nat.pow_pos (by decide)
theorem p4_le {n : Nat} (h : n ≤ 4) : 10000 ^ n < 2 ^ 63 := Nat.lt_of_le_of_lt (Nat.pow_le_pow_right (by decide) h) (by decide)
theorem spl_R {s : Nat} (hs : s < 2 ^ 63) : ∀ k, fX6_spl_R (lN s) k = lN (s / 10000 ^ k)
  | 0 => by rw [Nat.pow_zero, Nat.div_one]; rfl
  | k + 1 => by
    unfold fX6_spl_R
    rw [spl_R hs k, show (10000 : Int64) = lN 10000 from rfl, pk_lDiv (Nat.lt_of_le_of_lt (Nat.div_le_self _ _) hs) (by decide) (by decide), Nat.div_div_eq_div_mul, Nat.pow_succ]
theorem spl_L {s n : Nat} (hs : s < 2 ^ 63) (C : Nat → Int32) : ∀ k, k ≤ n → ∀ j, n - k ≤ j → j < n → fX6_spl_L (lN s) n C k j = nI (s / 10000 ^ (n - 1 - j) % 10000)
  | 0, _, j, h1, h2 => absurd h1 (by omega)
  | k + 1, hk, j, h1, h2 => by
    show fX6_spl_S (lN s) n (fX6_spl_L (lN s) n C k) k j = _
    unfold fX6_spl_S
    by_cases q : j = n - k - 1
    · rw [q, pk_us, spl_R hs, show n - 1 - (n - k - 1) = k by omega]
      rw [show remL (lN (s / 10000 ^ k)) 10000 = lN (s / 10000 ^ k % 10000) from pk_lRem (b := 10000) (Nat.lt_of_le_of_lt (Nat.div_le_self _ _) hs) (by decide) (by decide), lN_i]
    · rw [pk_un q]
      exact spl_L hs C k (by omega) j (by omega) h2
theorem z0_eq {a : Int32} {n : Nat} (ha : a = nI n) (h1 : 1 ≤ n) (h4 : n ≤ 4) : fX7_z0 a = lN (10000 ^ n) := by
  subst ha
  unfold fX7_z0
  rcases (show n = 1 ∨ n = 2 ∨ n = 3 ∨ n = 4 by omega) with rfl | rfl | rfl | rfl <;> simp (decide := true) only [if_true, if_false] <;> rfl
theorem all_eq {n : Nat} (h4 : n ≤ 4) : ∀ k, k ≤ n → fX7_all (lN (10000 ^ n)) k = lN (10000 ^ (n - k))
  | 0, _ => rfl
  | k + 1, hk => by
    unfold fX7_all
    rw [all_eq h4 k (by omega), show (10000 : Int64) = lN 10000 from rfl, pk_lDiv (p4_le (by omega)) (by decide) (by decide)]
    rw [show n - k = (n - (k + 1)) + 1 by omega, Nat.pow_succ, Nat.mul_div_cancel _ (by decide)]
theorem left_eq {s n : Nat} (h4 : n ≤ 4) (hs : s < 10000 ^ n) : ∀ k, k ≤ n → fX7_left (lN (10000 ^ n)) (lN s) k = lN (s % 10000 ^ (n - k))
  | 0, _ => by rw [Nat.sub_zero, Nat.mod_eq_of_lt hs]; rfl
  | k + 1, hk => by
    unfold fX7_left
    have b := p4_le h4
    rw [left_eq h4 hs k (by omega), all_eq h4 (k + 1) hk]
    rw [show remL (lN (s % 10000 ^ (n - k))) (lN (10000 ^ (n - (k + 1)))) = lN (s % 10000 ^ (n - k) % 10000 ^ (n - (k + 1))) from pk_lRem (Nat.lt_of_le_of_lt (Nat.mod_le _ _) (Nat.lt_trans hs b)) (p4 _) (p4_le (by omega))]
    rw [Nat.mod_mod_of_dvd _ (Nat.pow_dvd_pow _ (by omega))]
theorem grp_eq {s n : Nat} (h4 : n ≤ 4) (hs : s < 10000 ^ n) {k : Nat} (hk : k < n) : fX7_grp (lN (10000 ^ n)) (lN s) k = nI (s / 10000 ^ (n - 1 - k) % 10000) := by
  unfold fX7_grp
  have b := p4_le h4
  rw [left_eq h4 hs k (by omega), all_eq h4 (k + 1) (by omega), pk_lDiv (Nat.lt_of_le_of_lt (Nat.mod_le _ _) (Nat.lt_trans hs b)) (p4 _) (p4_le (by omega)), lN_i]
  rw [show n - k = (n - 1 - k) + 1 by omega, show n - (k + 1) = n - 1 - k by omega, Nat.pow_succ, Nat.mod_mul_right_div_self]
set_option maxRecDepth 100000 in
/-- a script, step by step -/
theorem run_Rl {u : Nat} {P N : Nat → Int32} (h : Rl P N) (hN : PI u N) (hu : 1998 * (u + 4250) < 2 ^ 31) {s n : Nat} (h4 : n ≤ 4) (hs : s < 10000 ^ n) (C : Nat → Int32) {kx : Nat} (hkx : kx ≤ n) (hno : ∀ j, j < kx → ¬ fX7_run_C (lN (10000 ^ n)) (lN s) (fX7_run_L (lN (10000 ^ n)) (lN s) N j) j) : ∀ k, k ≤ kx → Rl (fX6_run_L (fX6_spl_L (lN s) n C n) P k) (fX7_run_L (lN (10000 ^ n)) (lN s) N k) ∧ PI (u + 850 * k) (fX7_run_L (lN (10000 ^ n)) (lN s) N k)
  | 0, _ => ⟨h, hN⟩
  | k + 1, hk => by
    obtain ⟨a, b⟩ := run_Rl h hN hu h4 hs C hkx hno k (by omega)
    have b63 := p4_le h4
    have ec : fX6_spl_L (lN s) n C n k = nI (s / 10000 ^ (n - 1 - k) % 10000) := spl_L (Nat.lt_trans hs b63) C n (Nat.le_refl _) k (by omega) (by omega)
    have eg := grp_eq h4 hs (k := k) (by omega)
    have hG : s / 10000 ^ (n - 1 - k) % 10000 < 10000 := Nat.mod_lt _ (by omega)
    generalize s / 10000 ^ (n - 1 - k) % 10000 = G at ec eg hG
    have o := ob_all a b (by omega) hG
    rw [← eg] at o
    rcases o with ⟨-, o⟩ | ⟨-, -, o1, o2⟩
    · exact absurd o (hno k (by omega))
    · unfold fX6_run_L fX7_run_L fX6_run_S fX7_run_S
      rw [ec, ← eg]
      exact ⟨o1, o2.le (by omega)⟩
set_option maxRecDepth 100000 in
theorem run_C {u : Nat} {P N : Nat → Int32} (h : Rl P N) (hN : PI u N) (hu : 1998 * (u + 4250) < 2 ^ 31) {s n : Nat} (h4 : n ≤ 4) (hs : s < 10000 ^ n) (C : Nat → Int32) {kx : Nat} (hkx : kx ≤ n) (hno : ∀ j, j < kx → ¬ fX7_run_C (lN (10000 ^ n)) (lN s) (fX7_run_L (lN (10000 ^ n)) (lN s) N j) j) {k : Nat} (hk : k ≤ kx) (hkn : k < n) : fX6_run_C (fX6_spl_L (lN s) n C n) (fX6_run_L (fX6_spl_L (lN s) n C n) P k) k ↔ fX7_run_C (lN (10000 ^ n)) (lN s) (fX7_run_L (lN (10000 ^ n)) (lN s) N k) k := by
  obtain ⟨a, b⟩ := run_Rl h hN hu h4 hs C hkx hno k hk
  have b63 := p4_le h4
  have ec : fX6_spl_L (lN s) n C n k = nI (s / 10000 ^ (n - 1 - k) % 10000) := spl_L (Nat.lt_trans hs b63) C n (Nat.le_refl _) k (by omega) hkn
  have eg := grp_eq h4 hs hkn
  have hG : s / 10000 ^ (n - 1 - k) % 10000 < 10000 := Nat.mod_lt _ (by omega)
  generalize s / 10000 ^ (n - 1 - k) % 10000 = G at ec eg hG
  have o := ob_all a b (by omega) hG
  unfold fX6_run_C fX7_run_C
  rw [ec]
  rw [← eg] at o ⊢
  rcases o with ⟨o1, o2⟩ | ⟨o1, o2, -, -⟩
  · exact ⟨fun _ => o2, fun _ => o1⟩
  · exact ⟨fun z => absurd z o1, fun z => absurd z o2⟩
theorem ma_script {u : Nat} {P N : Nat → Int32} (h : PG u P N) (hu : 1998 * (u + 4250) < 2 ^ 31) (X Y C : Nat → Int32) {s n : Nat} (h4 : n ≤ 4) (hs : s < 10000 ^ n) : ∃ kx, kx ≤ n ∧ ((∀ j, j < kx → ¬ fX6_run_C (fX6_spl_L (lN s) n C n) (fX6_run_L (fX6_spl_L (lN s) n C n) (fX2_copyFrom_P P X) j) j) ∧ (kx < n → fX6_run_C (fX6_spl_L (lN s) n C n) (fX6_run_L (fX6_spl_L (lN s) n C n) (fX2_copyFrom_P P X) kx) kx)) ∧ ((∀ j, j < kx → ¬ fX7_run_C (lN (10000 ^ n)) (lN s) (fX7_run_L (lN (10000 ^ n)) (lN s) (fX7_copyPage_P N Y 0 0) j) j) ∧ (kx < n → fX7_run_C (lN (10000 ^ n)) (lN s) (fX7_run_L (lN (10000 ^ n)) (lN s) (fX7_copyPage_P N Y 0 0) kx) kx)) := by
  have c := h.copy X Y
  obtain ⟨kx, h2, h3, h5⟩ := bsearch (fun k => fX7_run_C (lN (10000 ^ n)) (lN s) (fX7_run_L (lN (10000 ^ n)) (lN s) (fX7_copyPage_P N Y 0 0) k) k) n
  exact ⟨kx, h2, ⟨fun j hj q => h3 j hj ((run_C c.1 c.2.1 hu h4 hs C h2 h3 (by omega) (by omega)).mp q), fun q => (run_C c.1 c.2.1 hu h4 hs C h2 h3 (Nat.le_refl _) q).mpr (h5 q)⟩, h3, h5⟩
