/-! THE READER on the text that begin writes: what it answers. -/
set_option maxRecDepth 16384
def hK (k : Nat) : Nat := if k ≤ 3 then k else 3
def pK (n k : Nat) : Nat := if k ≤ 3 then 3 + n + 3 * k else 12 + n + 2 * (k - 3)
section RIs
variable {G X Q : Nat → Int32} {n x t : Nat}
theorem sur_all (hn : 1 ≤ n ∧ n ≤ 9) (hG : ∀ i, i < t → G i = Tx n x i) (s : SG t 3 0 n 0 0 X Q (N0 n)) : ∀ k, k ≤ n → 3 + k ≤ t → SG t (3 + k) (850 * k) n 0 0 (fX4_sur_L G X Q k).1 (fX4_sur_L G X Q k).2 (NSur n x k) ∧ ∀ j, j < k → ¬ fX4_takeDigit_v (fX4_sur_L G X Q j).1 G (fX4_below_v 3) = -1
  | 0, _, _ => ⟨s, fun j hj => absurd hj (Nat.not_lt_zero j)⟩
  | k + 1, h1, h2 => by
    obtain ⟨ih, hno⟩ := sur_all hn hG s k (by omega) (by omega)
    have hd : sS x k < 3 := Nat.mod_lt _ (by decide)
    obtain ⟨a1, a2⟩ := ih.sur (k := k) (by omega) (by omega) hd ((hG _ (by omega)).trans (tx_s (by omega)))
    refine ⟨?_, fun j hj => ?_⟩
    · show SG t (3 + (k + 1)) (850 * (k + 1)) n 0 0 (fX4_sur_S G (fX4_sur_L G X Q k) k).1 (fX4_sur_S G (fX4_sur_L G X Q k) k).2 (n_setSurface (NSur n x k) (nI k) (nI (sS x k)))
      unfold fX4_sur_S
      rw [a1]
      exact a2
    · rcases Nat.lt_or_ge j k with q | q
      · exact hno j q
      · rw [show j = k by omega, a1]
        exact ndm (by omega)
theorem par_all (hn : 1 ≤ n ∧ n ≤ 9) (hG : ∀ i, i < t → G i = Tx n x i) (s : SG t (3 + n) (850 * n) n 0 0 X Q (NSur n x n)) : ∀ k, k ≤ 5 → pK n k ≤ t → SG t (pK n k) (850 * (n + k)) n (hK k) (k - 3) (fX4_par_L G X Q k).1 (fX4_par_L G X Q k).2 (NPar n x k) ∧ ∀ j, j < k → (¬ (fX4_par_L G X Q j).1 1 ≤ (fX4_par_L G X Q j).1 2) ∧ ¬ fX4_takePart_v (fX4_par_L G X Q j).1 G (fX4_par_L G X Q j).2 = 0
  | 0, _, _ => ⟨s, fun j hj => absurd hj (Nat.not_lt_zero j)⟩
  | k + 1, h1, h2 => by
    have hp : pK n k < pK n (k + 1) := by unfold pK; split <;> split <;> omega
    obtain ⟨ih, hno⟩ := par_all hn hG s k (by omega) (by omega)
    have ht := ih.1.2.2.2.2
    have lt : ¬ (fX4_par_L G X Q k).1 1 ≤ (fX4_par_L G X Q k).1 2 := by
      rw [ih.1.1, ih.1.2.1]
      exact Int32.not_le.mpr (nI_lt (by omega) (by omega))
    have key : ¬ fX4_takePart_v (fX4_par_L G X Q k).1 G (fX4_par_L G X Q k).2 = 0 ∧ SG t (pK n (k + 1)) (850 * (n + (k + 1))) n (hK (k + 1)) (k + 1 - 3) (fX4_takePart_X (fX4_par_L G X Q k).1 G (fX4_par_L G X Q k).2) (fX4_takePart_Q (fX4_par_L G X Q k).1 G (fX4_par_L G X Q k).2) (NPar n x (k + 1)) := by
      by_cases q : k < 3
      · have e1 : pK n k = 3 + n + 3 * k := if_pos (by omega)
        have e2 : pK n (k + 1) = 3 + n + 3 * (k + 1) := if_pos (by omega)
        have e3 : hK k = k := if_pos (by omega)
        have e4 : hK (k + 1) = k + 1 := if_pos (by omega)
        have hN : NPar n x (k + 1) = n_addHouse (NPar n x k) (nI (hP n x k)) (nI (hL x k)) := if_pos q
        rw [e1, e3] at ih
        rw [e2] at h2
        have a : hP n x k < n := Nat.mod_lt _ hn.1
        have d : hL x k < 10 := Nat.mod_lt _ (by decide)
        have r := ih.house hn q (by omega) (by omega) a (show hL x k ≤ 9 by omega) ((hG _ (by omega)).trans (tx_h0 q)) ((hG _ (by omega)).trans (tx_h1 q)) ((hG _ (by omega)).trans (tx_h2 q))
        rw [e2, e4, hN, show k + 1 - 3 = k - 3 by omega]
        exact r
      · have e1 : pK n k = 12 + n + 2 * (k - 3) := by unfold pK; split <;> omega
        have e2 : pK n (k + 1) = 12 + n + 2 * (k - 3) + 2 := by unfold pK; split <;> omega
        have e3 : hK k = 3 := by unfold hK; split <;> omega
        have e4 : hK (k + 1) = 3 := by unfold hK; split <;> omega
        have hN : NPar n x (k + 1) = n_addWagon (NPar n x k) (nI (wP n x (k - 3))) := if_neg q
        rw [e1, e3] at ih
        rw [e2] at h2
        have a : wP n x (k - 3) < n := Nat.mod_lt _ hn.1
        have r := ih.wagon hn (by omega) (by omega) (by omega) (by omega) a ((hG _ (by omega)).trans tx_w0) ((hG _ (by omega)).trans tx_w1)
        rw [e2, e4, hN, show k + 1 - 3 = k - 3 + 1 by omega]
        exact r
    refine ⟨key.2, fun j hj => ?_⟩
    rcases Nat.lt_or_ge j k with q | q
    · exact hno j q
    · rw [show j = k by omega]
      exact ⟨lt, key.1⟩
theorem rx_0 (hX : X 1 = nI t) (ht : t ≤ 70) : RX (upd (upd X 2 0) 3 0) t 0 := by
  refine ⟨?_, ?_, ?_, Nat.zero_le _, ht⟩
  · rw [pk_un (by decide), pk_un (by decide)]; exact hX
  · rw [pk_un (by decide), pk_us]; rfl
  · rw [pk_us]
theorem ri_R (hX : X 1 = nI 1) (hG : G 0 = 82) : ∃ X1 Q1 : Nat → Int32, riM 1 X G Q X1 Q1 ∧ X1 1 = nI 1 := by
  have r0 := rx_0 (t := 1) hX (by decide)
  obtain ⟨s1, s2⟩ := r0.take (G := G) (by decide) hG
  have r1 := r0.next (by decide)
  have h1 : ¬ fX4_takeSign_v (upd (upd X 2 0) 3 0) G 82 = 0 := by rw [s1]; decide
  rw [← s2] at r1
  obtain ⟨z1, z2⟩ := r1.sizeE (G := G) (Q := fX2_beNew_P Q)
  refine ⟨fX4_takeSize_X (fX4_takeSign_X (upd (upd X 2 0) 3 0) G 82) G (fX2_beNew_P Q), fX4_takeSize_Q (fX4_takeSign_X (upd (upd X 2 0) 3 0) G 82) G (fX2_beNew_P Q), fun l Γ M R O hC J S C P => ?_, by rw [z2]; exact r1.1⟩
  have m := mX4_readInto_z (l := l) (Γ := Γ) M R O hC X G J S C P Q h1 z1
  rw [show (fX4_takeSize_X (fX4_takeSign_X (upd (upd X 2 0) 3 0) G 82) G (fX2_beNew_P Q)) 2 = 1 from by rw [z2]; exact r1.2.1] at m
  exact m
/-- from the text's start to its surfaces -/
theorem ri_0 (hn : 1 ≤ n ∧ n ≤ 9) (hX : X 1 = nI t) (ht : t ≤ 70) (h3 : 3 ≤ t) (hG : ∀ i, i < t → G i = Tx n x i) : ¬ fX4_takeSign_v (upd (upd X 2 0) 3 0) G 82 = 0 ∧ ¬ fX4_takeSize_v (fX4_takeSign_X (upd (upd X 2 0) 3 0) G 82) G (fX2_beNew_P Q) = 0 ∧ SG t 3 0 n 0 0 (fX4_takeSize_X (fX4_takeSign_X (upd (upd X 2 0) 3 0) G 82) G (fX2_beNew_P Q)) (fX4_takeSize_Q (fX4_takeSign_X (upd (upd X 2 0) 3 0) G 82) G (fX2_beNew_P Q)) (N0 n) := by
  have r0 := rx_0 hX ht
  obtain ⟨s1, s2⟩ := r0.take (G := G) (c := 82) (by omega) ((hG 0 (by omega)).trans (show Tx n x 0 = 82 from rfl))
  have r1 := r0.next (by omega)
  rw [← s2] at r1
  obtain ⟨z1, z2, z3⟩ := r1.size (G := G) (Q := fX2_beNew_P Q) (n := n) (by omega) hn ((hG 1 (by omega)).trans (show Tx n x 1 = 48 from rfl)) ((hG 2 (by omega)).trans (show Tx n x 2 = nI (48 + n) from rfl))
  refine ⟨by rw [s1]; decide, by rw [z1]; decide, z2, ?_⟩
  rw [z3]
  exact ⟨bn_rl Q hn.2, bl_new Q _, bn_pi hn.1 hn.2, bn_gd hn.2, rfl, rfl, rfl⟩
theorem ri_S (hn : 1 ≤ n ∧ n ≤ 9) {j : Nat} (hj : j < n) (hX : X 1 = nI (3 + j)) (hG : ∀ i, i < 3 + j → G i = Tx n x i) : ∃ X1 Q1 : Nat → Int32, riM (nI (3 + j)) X G Q X1 Q1 ∧ X1 1 = nI (3 + j) := by
  obtain ⟨h1, h2, s⟩ := ri_0 (Q := Q) hn hX (by omega) (by omega) hG
  generalize hX0 : fX4_takeSize_X (fX4_takeSign_X (upd (upd X 2 0) 3 0) G 82) G (fX2_beNew_P Q) = X0 at s
  generalize hQ0 : fX4_takeSize_Q (fX4_takeSign_X (upd (upd X 2 0) 3 0) G 82) G (fX2_beNew_P Q) = Q0 at s
  obtain ⟨s2, hno⟩ := sur_all hn hG s j (by omega) (Nat.le_refl _)
  have q0 : (Q0 0).toNatClampNeg = n := by rw [s.2.1.hd (show 0 < 12 by decide), s.2.2.2.2.2.1, nI_clamp (by omega)]
  obtain ⟨e1, e2⟩ := s2.1.digitE (G := G) (fX4_below_v 3)
  have h3 : tsM 0 X0 G Q0 (fX4_takeDigit_X (fX4_sur_L G X0 Q0 j).1 G (fX4_below_v 3)) (fX4_sur_L G X0 Q0 j).2 := fun l Γ M R O hC J S C P => mX4_takeSurfaces_f M R O hC X0 G J S C P Q0 j (by omega) hno e1
  rw [e2] at h3
  have s21 : (fX4_sur_L G X0 Q0 j).1 2 = nI (3 + j) := s2.1.2.1
  refine ⟨(fX4_sur_L G X0 Q0 j).1, (fX4_sur_L G X0 Q0 j).2, fun l Γ M R O hC J S C P => ?_, s2.1.1⟩
  rw [← s21]
  exact mX4_readInto_s M R O hC X G J S C P Q h1 h2 _ _ (by rw [hX0, hQ0]; exact h3)
theorem ri_P (hn : 1 ≤ n ∧ n ≤ 9) {k : Nat} (hk : k ≤ 5) (hX : X 1 = nI (pK n k)) (hG : ∀ i, i < pK n k → G i = Tx n x i) : ∃ X1 Q1 : Nat → Int32, riM (-9) X G Q X1 Q1 ∧ SG (pK n k) (pK n k) (850 * (n + k)) n (hK k) (k - 3) X1 Q1 (NPar n x k) := by
  have hp : 3 + n ≤ pK n k ∧ pK n k ≤ 70 := by unfold pK; split <;> omega
  obtain ⟨h1, h2, s⟩ := ri_0 (Q := Q) hn hX hp.2 (by omega) hG
  generalize hX0 : fX4_takeSize_X (fX4_takeSign_X (upd (upd X 2 0) 3 0) G 82) G (fX2_beNew_P Q) = X0 at s
  generalize hQ0 : fX4_takeSize_Q (fX4_takeSign_X (upd (upd X 2 0) 3 0) G 82) G (fX2_beNew_P Q) = Q0 at s
  obtain ⟨s2, hno⟩ := sur_all hn hG s n (Nat.le_refl _) hp.1
  have q0 : (Q0 0).toNatClampNeg = n := by rw [s.2.1.hd (show 0 < 12 by decide), s.2.2.2.2.2.1, nI_clamp (by omega)]
  have h3 : tsM 1 X0 G Q0 (fX4_sur_L G X0 Q0 n).1 (fX4_sur_L G X0 Q0 n).2 := fun l Γ M R O hC J S C P => by
    have m := mX4_takeSurfaces_y (l := l) (Γ := Γ) M R O hC X0 G J S C P Q0 (by rw [q0]; exact hno)
    rw [q0] at m
    exact m
  obtain ⟨s3, hno2⟩ := par_all hn hG s2 k hk (Nat.le_refl _)
  have h4 : tpM 1 (fX4_sur_L G X0 Q0 n).1 G (fX4_sur_L G X0 Q0 n).2 (fX4_par_L G (fX4_sur_L G X0 Q0 n).1 (fX4_sur_L G X0 Q0 n).2 k).1 (fX4_par_L G (fX4_sur_L G X0 Q0 n).1 (fX4_sur_L G X0 Q0 n).2 k).2 := fun l Γ M R O hC J S C P => mX4_takeParts_y M R O hC _ G J S C P _ k (by omega) hno2 (by rw [s3.1.1, s3.1.2.1]; exact Int32.le_refl _)
  refine ⟨_, _, fun l Γ M R O hC J S C P => ?_, s3⟩
  have m := mX4_readInto_y (l := l) (Γ := Γ) M R O hC X G J S C P Q h1 h2 _ _ _ _ (by rw [hX0, hQ0]; exact h3) h4
  rw [if_pos s3.1.2.2.1] at m
  exact m
end RIs
