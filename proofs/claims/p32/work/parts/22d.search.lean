/-! THE CLASS: dustiest. Laid by gen/p22.py. -/
theorem dwo_id (P : Nat → Int32) (a : Int32) : fX2_dustWithout_P P a = P := by
  unfold fX2_dustWithout_P
  split
  · funext j
    by_cases h : j = 12 + 7 * a.toNatClampNeg + 3
    · subst h; rw [upd_eq]
    · rw [upd_nw _ _ h, upd_nw _ _ h]
  · rfl
theorem rai_1 (P : Nat → Int32) : fX2_raiseDust_P P 1 = P 1 := by
  unfold fX2_raiseDust_P
  exact fX2_raiseDust_L1 P 1 (by decide) _
theorem tw_1 (P Q : Nat → Int32) (a d : Int32) : fX6_tryWater_Q P Q a d 1 = P 1 := by
  unfold fX6_tryWater_Q
  split
  · rw [rai_1]
    unfold fX3_wet_P
    rw [upd_nw _ _ (by omega), cpf_lo _ _ 1 (by decide)]
  · rw [rai_1, cpf_lo _ _ 1 (by decide)]
def fX6_dus_T1  (P : Nat → Int32) (k : Nat) (a1 : Int32) (a2 : Int32) : Int32 := if a2 ≤ (fX2_dustWithout_v P (nI (k + 1))) then a1 else nI (k + 1)
def fX6_dus_T2  (P : Nat → Int32) (k : Nat) (a1 : Int32) (a2 : Int32) : Int32 := if a2 ≤ (fX2_dustWithout_v P (nI (k + 1))) then a2 else fX2_dustWithout_v P (nI (k + 1))
def fX6_dus_A  (P : Nat → Int32) : Nat → Int32 × Int32
  | 0 => (0, fX2_dustWithout_v P 0)
  | k + 1 => (fX6_dus_T1  P k (fX6_dus_A  P k).1 (fX6_dus_A  P k).2, fX6_dus_T2  P k (fX6_dus_A  P k).1 (fX6_dus_A  P k).2)