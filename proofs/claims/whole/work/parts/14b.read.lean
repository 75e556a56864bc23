/-! THE REFERENCE: what the reader takes. Laid by gen/p14.py. -/
theorem upd_0 (A : Nat → Int32) (j : Nat) : upd A j (A j + 0) = A := by
  funext i
  by_cases h : i = j
  · subst h; rw [upd_eq]; exact Int32.add_zero _
  · rw [upd_nw _ _ h]
def up3 (A : Nat → Int32) : Nat → Int32 := upd A 3 (A 3 + 1)
theorem up3_ne (A : Nat → Int32) {j : Nat} (h : j ≠ 3) : up3 A j = A j := upd_nw _ _ h
theorem up3_nI {A : Nat → Int32} (hA : RA A) : up3 A 3 = nI ((A 3).toNatClampNeg + 1) := by
  unfold up3
  rw [upd_eq]
  refine Eq.trans ?_ (nI_1 _)
  rw [← hA.2.1]
theorem up3_at {A : Nat → Int32} (hA : RA A) : (up3 A 3).toNatClampNeg = (A 3).toNatClampNeg + 1 := by
  have h2 := hA.2.2
  rw [up3_nI hA, nI_clamp (by omega)]
theorem RA_up3 {A : Nat → Int32} (hA : RA A) (c : ¬ A 2 ≤ A 3) : RA (up3 A) := by
  have h1 := hA.1.2
  have h2 := hA.2.2
  have q := lt_pl hA.1.1 hA.2.1 (by omega) (by omega) c
  refine ⟨by rw [up3_ne A (by decide)]; exact hA.1, ?_, ?_⟩
  · rw [up3_at hA]; exact up3_nI hA
  · rw [up3_at hA]; omega
/-- the sign that stands next is this -/
def eatC (A T : Nat → Int32) (a : Int32) : Prop := ¬ A 2 ≤ A 3 ∧ T ((A 3).toNatClampNeg) = a
/-- the digit that stands next is within these -/
def digC (A T : Nat → Int32) (a d : Int32) : Prop := ¬ A 2 ≤ A 3 ∧ (0 ≤ T ((A 3).toNatClampNeg) - 48 ∧ T ((A 3).toNatClampNeg) - 48 ≤ 9) ∧ a ≤ T ((A 3).toNatClampNeg) - 48 ∧ T ((A 3).toNatClampNeg) - 48 ≤ d
theorem eat_y {A T : Nat → Int32} {a : Int32} (h : eatC A T a) : qX7_eat_v A T a = 1 ∧ qX7_eat_A A T a = up3 A := by
  unfold qX7_eat_v qX7_eat_A fX7_eat_v fX7_eat_A
  rw [if_neg h.1, if_pos h.2, if_neg h.1, if_pos h.2]
  exact ⟨rfl, rfl⟩
theorem eat_n {A T : Nat → Int32} {a : Int32} (h : ¬ eatC A T a) : qX7_eat_v A T a = 0 ∧ qX7_eat_A A T a = A := by
  unfold qX7_eat_v qX7_eat_A fX7_eat_v fX7_eat_A
  by_cases c : A 2 ≤ A 3
  · rw [if_pos c, if_pos c]; exact ⟨rfl, upd_0 A 3⟩
  · rw [if_neg c, if_neg c, if_neg (fun q => h ⟨c, q⟩), if_neg (fun q => h ⟨c, q⟩)]; exact ⟨rfl, upd_0 A 3⟩
theorem digit_y {A T : Nat → Int32} {a d : Int32} (h : digC A T a d) : qX7_digit_v A T a d = T ((A 3).toNatClampNeg) - 48 ∧ qX7_digit_A A T a d = up3 A := by
  have h1 := in_v (T ((A 3).toNatClampNeg) - 48) 0 9
  have h2 := in_v (T ((A 3).toNatClampNeg) - 48) a d
  rw [if_pos h.2.1] at h1
  rw [if_pos h.2.2] at h2
  have h1 : fX7_in_v (T ((A 3).toNatClampNeg) - 48).toInt64 0 9 = 1 := h1
  unfold qX7_digit_v qX7_digit_A fX7_digit_v fX7_digit_A
  rw [if_neg h.1, if_neg h.1, h1, h2, if_neg (by decide), if_neg (by decide), if_neg (by decide)]
  exact ⟨rfl, rfl⟩
theorem digit_n {A T : Nat → Int32} {a d : Int32} (h : ¬ digC A T a d) : qX7_digit_v A T a d = -9 ∧ qX7_digit_A A T a d = A := by
  have h1 := in_v (T ((A 3).toNatClampNeg) - 48) 0 9
  have h2 := in_v (T ((A 3).toNatClampNeg) - 48) a d
  have h1 : fX7_in_v (T ((A 3).toNatClampNeg) - 48).toInt64 0 9 = _ := h1
  have h3 : fX7_in_v ((-1 : Int32).toInt64) 0 9 = 0 := by decide
  unfold qX7_digit_v qX7_digit_A fX7_digit_v fX7_digit_A
  by_cases c : A 2 ≤ A 3
  · rw [if_pos c, if_pos c, h3, if_pos rfl, if_pos rfl]; exact ⟨rfl, upd_0 A 3⟩
  · rw [if_neg c, if_neg c, h1, h2]
    by_cases q : 0 ≤ T ((A 3).toNatClampNeg) - 48 ∧ T ((A 3).toNatClampNeg) - 48 ≤ 9
    · have q2 : ¬ (a ≤ T ((A 3).toNatClampNeg) - 48 ∧ T ((A 3).toNatClampNeg) - 48 ≤ d) := fun z => h ⟨c, q, z⟩
      rw [if_pos q, if_neg q2]
      exact ⟨by rw [if_neg (by decide), if_pos rfl], by rw [if_neg (by decide), if_pos rfl]; exact upd_0 A 3⟩
    · rw [if_neg q, if_pos rfl, if_pos rfl]
      exact ⟨rfl, upd_0 A 3⟩
theorem digit_ge {A T : Nat → Int32} {a d : Int32} (h : ¬ qX7_digit_v A T a d = -9) : digC A T a d := by
  by_cases c : digC A T a d
  · exact c
  · exact absurd (digit_n c).1 h
theorem digit_ne {A T : Nat → Int32} {a d : Int32} (h : digC A T a d) : ¬ qX7_digit_v A T a d = -9 := by
  rw [(digit_y h).1]
  intro e
  have := h.2.1.1
  rw [e] at this
  exact absurd this (by decide)
theorem RA_eat {A T : Nat → Int32} {a : Int32} (hA : RA A) : RA (qX7_eat_A A T a) := by
  by_cases h : eatC A T a
  · rw [(eat_y h).2]; exact RA_up3 hA h.1
  · rw [(eat_n h).2]; exact hA
theorem RA_digit {A T : Nat → Int32} {a d : Int32} (hA : RA A) : RA (qX7_digit_A A T a d) := by
  by_cases h : digC A T a d
  · rw [(digit_y h).2]; exact RA_up3 hA h.1
  · rw [(digit_n h).2]; exact hA
/-- a digit taken: a number from 0 to 9, within the bounds -/
theorem digit_pl {A T : Nat → Int32} {a d : Int32} (h : ¬ qX7_digit_v A T a d = -9) : qX7_digit_v A T a d = nI (qX7_digit_v A T a d).toNatClampNeg ∧ (qX7_digit_v A T a d).toNatClampNeg < 10 ∧ a ≤ qX7_digit_v A T a d ∧ qX7_digit_v A T a d ≤ d := by
  have c := digit_ge h
  rw [(digit_y c).1]
  refine ⟨?_, ?_, c.2.2.1, c.2.2.2⟩
  · obtain ⟨j, hj, e⟩ := nI_of (i32_le_nlt c.2.1.1)
    rw [e, nI_clamp hj]
  · obtain ⟨j, hj, e⟩ := nI_of (i32_le_nlt c.2.1.1)
    have q := c.2.1.2
    rw [e] at q ⊢
    rw [nI_clamp hj]
    have := (nI_leI (b := 9) hj (by decide)).mp q
    omega
theorem digit_lt {A T : Nat → Int32} {x : Int32} {n : Nat} (hx : x = nI n) (hn : n < 2 ^ 31) (h : ¬ qX7_digit_v A T 0 (x - 1) = -9) : (qX7_digit_v A T 0 (x - 1)).toNatClampNeg < n := by
  obtain ⟨h1, h2, h3, h4⟩ := digit_pl h
  subst hx
  generalize qX7_digit_v A T 0 (nI n - 1) = v at h1 h2 h4 ⊢
  cases n with
  | zero =>
    exfalso
    rw [h1] at h4
    exact absurd h4 (i32_lt_nle (by rw [nI_0]; exact Int32.lt_iff_toInt_lt.mpr (by rw [nI_toInt (by omega)]; show (-1 : Int) < _; omega)))
  | succ n =>
    rw [nI_pred, h1] at h4
    have := (nI_leI (by omega) (by omega)).mp h4
    omega
