/-! THE START: the pages of both new objects. -/
theorem ZZ_self (Z : Nat → Nat → Int32) : Z = ZZ Z (Z 19) (Z 20) (Z 21) (Z 22) (Z 23) (Z 0) (Z 1) (Z 24) (Z 25) (Z 26) (Z 27) (Z 28) (Z 29) (Z 30) (Z 31) := by
  funext b
  by_cases hb : 24 ≤ b ∧ b ≤ 31
  · rcases in_8 hb with rfl | rfl | rfl | rfl | rfl | rfl | rfl | rfl <;> rfl
  · unfold ZZ cS
    rw [mS_no _ _ _ _ _ _ _ _ _ hb]
    by_cases h19 : b = 19
    · subst h19; rfl
    by_cases h20 : b = 20
    · subst h20; rfl
    by_cases h21 : b = 21
    · subst h21; rfl
    by_cases h22 : b = 22
    · subst h22; rfl
    by_cases h23 : b = 23
    · subst h23; rfl
    by_cases h0 : b = 0
    · subst h0; rfl
    by_cases h1 : b = 1
    · subst h1; rfl
    rw [if_neg h19, if_neg h20, if_neg h21, if_neg h22, if_neg h23, if_neg h0, if_neg h1]
/-- the reference's new page -/
def newN : Nat → Int32 := upd (fX7_clear_P (fun _ => 0) 4) 17 1
theorem newN_at {j : Nat} (h : j ≠ 17) : newN j = fX7_clear_P (fun _ => 0) 4 j := pk_un h
theorem PG_new : PG 0 newP newN := by
  have pi : PI 0 newN := (PI_clear (fun _ => 0) (n := 4) (by decide) (by decide)).us (i := 0) (by decide) 5 1 (by decide) rfl (nn.of (n := 1) rfl (by decide) (by decide))
  obtain ⟨a, b, c⟩ := new_at (fun _ => 0)
  have e0 : newN 0 = nI 4 := by rw [newN_at (by decide), clear_at _ _ _ (by decide)]; rfl
  have e1 : newN 1 = 0 := by rw [newN_at (by decide), clear_at _ _ _ (by decide)]; rfl
  have e2 : newN 2 = 0 := by rw [newN_at (by decide), clear_at _ _ _ (by decide)]; rfl
  refine ⟨fun j hj => ?_, pi, fun i hi => ?_⟩
  · rw [e0, e1, e2, nI_clamp (by decide)] at hj
    have hj : j < 12 ∨ (12 ≤ j ∧ j < 12 + 7 * 4) ∨ (82 ≤ j ∧ j < 82 + 5 * 0) ∨ (122 ≤ j ∧ j < 122 + 3 * 0) := hj
    rcases Nat.lt_or_ge j 12 with q | q
    · show fX2_beNew_P (fun _ => 0) j = newN j
      rw [a j q, newN_at (by omega), clear_at _ _ _ (by omega)]
      rcases (show j = 0 ∨ j = 1 ∨ j = 2 ∨ j = 3 ∨ j = 4 ∨ j = 5 ∨ j = 6 ∨ j = 7 ∨ j = 8 ∨ j = 9 ∨ j = 10 ∨ j = 11 by omega) with rfl | rfl | rfl | rfl | rfl | rfl | rfl | rfl | rfl | rfl | rfl | rfl <;> rfl
    · obtain ⟨i, k, hi, hk, rfl⟩ : ∃ i k, i < 4 ∧ k < 7 ∧ j = 12 + 7 * i + k := ⟨(j - 12) / 7, (j - 12) % 7, by omega, by omega, by omega⟩
      show fX2_beNew_P (fun _ => 0) (12 + 7 * i + k) = newN (12 + 7 * i + k)
      by_cases k5 : k = 5
      · subst k5
        rw [c i (by omega)]
        by_cases i0 : i = 0
        · subst i0; rw [if_pos rfl]; exact (show newN 17 = 1 from pk_us).symm
        · rw [if_neg i0, newN_at (by omega), clear_at _ _ _ (by omega), if_neg (by omega), if_neg (by omega), if_neg (by omega), if_neg (by omega), if_neg (by omega), if_neg (by omega)]
      · rw [b i k (by omega) hk k5]
        by_cases k1 : k = 1
        · rw [if_pos k1, newN_at (by omega), clear_at _ _ _ (by omega), if_neg (by omega), if_neg (by omega), if_neg (by omega), if_neg (by omega), if_neg (by omega), if_pos (by omega)]
        · rw [if_neg k1, newN_at (by omega), clear_at _ _ _ (by omega), if_neg (by omega), if_neg (by omega), if_neg (by omega), if_neg (by omega), if_neg (by omega), if_neg (by omega)]
  · show fX2_beNew_P (fun _ => 0) (12 + 7 * i + 5) &&& 1 = fX2_beNew_P (fun _ => 0) (12 + 7 * i + 5)
    rw [c i hi]
    by_cases i0 : i = 0
    · rw [if_pos i0]; decide
    · rw [if_neg i0]; decide
def Z00 : Nat → Nat → Int32 := modM (faceM (fun _ _ => 0))
theorem Z00_0 : Z00 0 = newP := by
  unfold Z00 modM faceM
  rw [va_up_ne _ _ (by decide), slM_hi 2 (by omega), hisM_hi 15 (by omega), va_up_ne _ _ (by decide), va_up_eq]
theorem Z00_27 : Z00 27 = newN := by
  unfold Z00 modM
  exact va_up_eq _ _ _
theorem face_z {b : Nat} (h : 19 ≤ b) : faceM (fun _ _ => 0) b = fun _ => 0 := by
  unfold faceM
  rw [slM_hi 2 (by omega), hisM_hi 15 (by omega), va_up_ne _ _ (by omega), va_up_ne _ _ (by omega)]
theorem Z00_z {b : Nat} (h : 19 ≤ b) (h2 : b ≠ 27) : Z00 b = fun _ => 0 := by
  unfold Z00 modM
  rw [va_up_ne _ _ h2, face_z h]
theorem WS_0 : WS (fun _ => 0) := by
  have z : ∀ b : Nat, (0 : Int32) = nI (0 : Int32).toNatClampNeg ∧ (0 : Int32).toNatClampNeg ≤ b := fun b => ⟨rfl, Nat.zero_le b⟩
  exact ⟨z 10, z 8, z 3, fun i _ => ⟨rfl, show (0 : Int32).toNatClampNeg < 10 by decide, show ¬ 2 * (1 + (0 : Int32)) = 0 by decide⟩, fun i _ => ⟨rfl, show (0 : Int32).toNatClampNeg < 10 by decide⟩⟩
theorem INV_new {Γ : gX} {R : Nat → Nat → Option Nat} (hm : ∀ c, c < 491 → c ∈ gcs Γ) : INV 0 Γ (modR (faceR R)) Z00 := by
  refine ⟨Z00, Z00 19, Z00 20, Z00 21, Z00 22, Z00 23, Z00 0, Z00 1, Z00 24, Z00 25, Z00 26, Z00 27, Z00 28, Z00 29, Z00 30, Z00 31, fun k => 4 + k, 0, ZZ_self Z00, LC_new hm, LM_new hm, ?_⟩
  rw [Z00_0, Z00_27, Z00_z (b := 19) (by decide) (by decide), Z00_z (b := 20) (by decide) (by decide), Z00_z (b := 21) (by decide) (by decide), Z00_z (b := 22) (by decide) (by decide), Z00_z (b := 24) (by decide) (by decide), Z00_z (b := 25) (by decide) (by decide), Z00_z (b := 26) (by decide) (by decide), Z00_z (b := 29) (by decide) (by decide), Z00_z (b := 30) (by decide) (by decide), Z00_z (b := 31) (by decide) (by decide)]
  refine ⟨⟨HP_new, fun i j _ _ e => by have e : 4 + i = 4 + j := e; omega⟩, by decide, rfl, rfl, ⟨rfl, ⟨⟨rfl, Nat.zero_le 70⟩, rfl, Nat.zero_le 70⟩, fun i _ => rfl⟩, WS_0, PG_new, fun i hi => absurd hi (Nat.not_lt_zero i), fun i _ => ⟨Iff.rfl, fun e => absurd rfl e⟩⟩
