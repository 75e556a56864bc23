/-! THE REFERENCE: surfaces. Laid by gen/p15.py. -/
def fX7_sur_S (T : Nat → Int32) (X : (Nat → Int32) × (Nat → Int32)) (k : Nat) : (Nat → Int32) × (Nat → Int32) := (qX7_digit_A X.1 T 0 2, upd X.2 (12 + 7 * k) (qX7_digit_v X.1 T 0 2))
def fX7_sur_L (T A D : Nat → Int32) : Nat → (Nat → Int32) × (Nat → Int32)
  | 0 => (A, D)
  | k + 1 => fX7_sur_S T (fX7_sur_L T A D k) k
theorem sur_keeps {T A D : Nat → Int32} (hA : RA A) (hD : WS D) : ∀ k, k ≤ 10 → RA (fX7_sur_L T A D k).1 ∧ WS (fX7_sur_L T A D k).2 ∧ ∀ j, j < 12 → (fX7_sur_L T A D k).2 j = D j
  | 0, _ => ⟨hA, hD, fun _ _ => rfl⟩
  | k + 1, h => by
    obtain ⟨h1, h2, h3⟩ := sur_keeps (T := T) hA hD k (by omega)
    refine ⟨RA_digit h1, WS.up (nw (j := 0) (by omega)).1 h2, fun j hj => ?_⟩
    show upd (fX7_sur_L T A D k).2 (12 + 7 * k) _ j = _
    rw [upd_nw _ _ (by omega)]
    exact h3 j hj
theorem sz_a {t o : Int32} (h : t = 0) (ho : o = nI o.toNatClampNeg) (ho2 : o.toNatClampNeg < 10) : 10 * t + o = nI (10 * t + o).toNatClampNeg ∧ (10 * t + o).toNatClampNeg ≤ 10 := by
  subst h
  rw [show 10 * 0 + o = o from Int32.zero_add o]
  exact ⟨ho, by omega⟩
theorem pl_le {t : Int32} (h : t = nI t.toNatClampNeg) (h2 : t.toNatClampNeg < 10) {m : Nat} (hm : m < 2 ^ 31) (h3 : t ≤ nI m) : t.toNatClampNeg ≤ m := by
  rw [h] at h3
  exact (nI_leI (by omega) hm).mp h3
theorem sz_b {t o : Int32} (h : ¬ t = 0) (ht : t = nI t.toNatClampNeg) (ht9 : t.toNatClampNeg < 10) (ht1 : t ≤ 1) (ho : o = nI o.toNatClampNeg) (ho2 : o.toNatClampNeg < 10) (ho3 : o ≤ 0) : 10 * t + o = nI (10 * t + o).toNatClampNeg ∧ (10 * t + o).toNatClampNeg ≤ 10 := by
  have k1 := pl_le ht ht9 (m := 1) (by decide) ht1
  have k0 : t.toNatClampNeg ≠ 0 := fun e => h (ht.trans ((congrArg nI e).trans rfl))
  have e1 : t = 1 := ht.trans ((congrArg nI (show t.toNatClampNeg = 1 by omega)).trans rfl)
  have o1 := pl_le ho ho2 (m := 0) (by decide) ho3
  have e2 : o = 0 := ho.trans ((congrArg nI (show o.toNatClampNeg = 0 by omega)).trans rfl)
  rw [e1, e2]
  exact ⟨by decide, by decide⟩
