/-! THE REFERENCE: what a part read is. Laid by gen/p14.py. -/
theorem up3_back {A : Nat → Int32} : upd (up3 A) 3 (up3 A 3 - 1) = A := by
  funext i
  by_cases h : i = 3
  · subst h; rw [upd_eq]; unfold up3; rw [upd_eq]; exact Int32.add_sub_cancel _ _
  · rw [upd_nw _ _ h, up3_ne A h]
section
variable {A T D : Nat → Int32}
theorem rh_n1 (h : ¬ digC A T 0 (D 0 - 1)) : qX7_readHouse_v A T D = 0 ∧ qX7_readHouse_A A T D = A ∧ qX7_readHouse_D A T D = D := by
  have n := digit_n h
  unfold qX7_readHouse_v qX7_readHouse_A qX7_readHouse_D fX7_readHouse_v fX7_readHouse_A fX7_readHouse_D
  rw [n.1, n.2, if_pos rfl, if_pos rfl, if_pos rfl]
  exact ⟨rfl, rfl, rfl⟩
theorem rh_n2 (h : digC A T 0 (D 0 - 1)) (h2 : ¬ digC (up3 A) T 0 9) : qX7_readHouse_v A T D = 0 ∧ qX7_readHouse_A A T D = up3 A ∧ qX7_readHouse_D A T D = D := by
  have y := digit_ne h
  have n := digit_n h2
  unfold qX7_readHouse_v qX7_readHouse_A qX7_readHouse_D fX7_readHouse_v fX7_readHouse_A fX7_readHouse_D
  rw [(digit_y h).2, if_neg y, if_neg y, if_neg y, n.1, n.2, if_pos rfl, if_pos rfl, if_pos rfl]
  exact ⟨rfl, rfl, rfl⟩
theorem rh_y (h : digC A T 0 (D 0 - 1)) (h2 : digC (up3 A) T 0 9) : qX7_readHouse_v A T D = 1 ∧ qX7_readHouse_A A T D = up3 (up3 A) ∧ qX7_readHouse_D A T D = fX7_houseOn_P D (qX7_digit_v A T 0 (D 0 - 1)) (qX7_digit_v (up3 A) T 0 9) := by
  have y := digit_ne h
  have y2 := digit_ne h2
  unfold qX7_readHouse_v qX7_readHouse_A qX7_readHouse_D fX7_readHouse_v fX7_readHouse_A fX7_readHouse_D
  rw [(digit_y h).2, if_neg y, if_neg y, if_neg y, if_neg y2, if_neg y2, if_neg y2, (digit_y h2).2]
  exact ⟨rfl, rfl, rfl⟩
theorem rw_n (h : ¬ digC A T 0 (D 0 - 1)) : qX7_readWagon_v A T D = 0 ∧ qX7_readWagon_A A T D = A ∧ qX7_readWagon_D A T D = D := by
  have n := digit_n h
  unfold qX7_readWagon_v qX7_readWagon_A qX7_readWagon_D fX7_readWagon_v fX7_readWagon_A fX7_readWagon_D
  rw [n.1, n.2, if_pos rfl, if_pos rfl, if_pos rfl]
  exact ⟨rfl, rfl, rfl⟩
theorem rw_y (h : digC A T 0 (D 0 - 1)) : qX7_readWagon_v A T D = 1 ∧ qX7_readWagon_A A T D = up3 A ∧ qX7_readWagon_D A T D = fX7_wagonOn_P D (qX7_digit_v A T 0 (D 0 - 1)) := by
  have y := digit_ne h
  unfold qX7_readWagon_v qX7_readWagon_A qX7_readWagon_D fX7_readWagon_v fX7_readWagon_A fX7_readWagon_D
  rw [(digit_y h).2, if_neg y, if_neg y, if_neg y]
  exact ⟨rfl, rfl, rfl⟩
theorem rf_n (h : ¬ digC A T 0 (D 0 - 1)) : qX7_readFilling_v A T D = 0 ∧ qX7_readFilling_A A T D = A ∧ qX7_readFilling_D A T D = D := by
  have n := digit_n h
  unfold qX7_readFilling_v qX7_readFilling_A qX7_readFilling_D fX7_readFilling_v fX7_readFilling_A fX7_readFilling_D
  rw [n.1, n.2, if_pos rfl, if_pos rfl, if_pos rfl]
  exact ⟨rfl, rfl, rfl⟩
/-- the place that a filling place's digit names -/
def rfi (A T D : Nat → Int32) : Nat := 12 + 7 * (qX7_digit_v A T 0 (D 0 - 1)).toNatClampNeg + 5
theorem rf_m (h : digC A T 0 (D 0 - 1)) (h2 : D (rfi A T D) = 1) : qX7_readFilling_v A T D = 0 ∧ qX7_readFilling_A A T D = A ∧ qX7_readFilling_D A T D = D := by
  have y := digit_ne h
  unfold rfi at h2
  unfold qX7_readFilling_v qX7_readFilling_A qX7_readFilling_D fX7_readFilling_v fX7_readFilling_A fX7_readFilling_D
  rw [(digit_y h).2, if_neg y, if_neg y, if_neg y, if_pos h2, if_pos h2, if_pos h2]
  exact ⟨rfl, up3_back, rfl⟩
theorem rf_y (h : digC A T 0 (D 0 - 1)) (h2 : ¬ D (rfi A T D) = 1) : qX7_readFilling_v A T D = 1 ∧ qX7_readFilling_A A T D = up3 A ∧ qX7_readFilling_D A T D = upd D (rfi A T D) 1 := by
  have y := digit_ne h
  unfold rfi at h2 ⊢
  unfold qX7_readFilling_v qX7_readFilling_A qX7_readFilling_D fX7_readFilling_v fX7_readFilling_A fX7_readFilling_D
  rw [(digit_y h).2, if_neg y, if_neg y, if_neg y, if_neg h2, if_neg h2, if_neg h2]
  exact ⟨rfl, rfl, rfl⟩
theorem rp_h (h1 : ¬ 8 ≤ D 1) (h2 : eatC A T 104) : qX7_readPart_v A T D = qX7_readHouse_v (up3 A) T D ∧ qX7_readPart_A A T D = qX7_readHouse_A (up3 A) T D ∧ qX7_readPart_D A T D = qX7_readHouse_D (up3 A) T D := by
  have y := eat_y h2
  unfold qX7_readPart_v qX7_readPart_A qX7_readPart_D fX7_readPart_v fX7_readPart_A fX7_readPart_D
  rw [y.1, y.2]
  refine ⟨?_, ?_, ?_⟩ <;> simp only [if_neg h1, if_neg (show ¬ (1 : Int32) = 0 by decide)]
theorem rp_w (h : ¬ (¬ 8 ≤ D 1 ∧ eatC A T 104)) (h1 : ¬ 3 ≤ D 2) (h2 : eatC A T 119) : qX7_readPart_v A T D = qX7_readWagon_v (up3 A) T D ∧ qX7_readPart_A A T D = qX7_readWagon_A (up3 A) T D ∧ qX7_readPart_D A T D = qX7_readWagon_D (up3 A) T D := by
  have y := eat_y h2
  unfold qX7_readPart_v qX7_readPart_A qX7_readPart_D fX7_readPart_v fX7_readPart_A fX7_readPart_D
  by_cases c : 8 ≤ D 1
  · refine ⟨?_, ?_, ?_⟩ <;> simp only [if_pos c, if_neg h1, y.1, y.2, if_neg (show ¬ (1 : Int32) = 0 by decide)]
  · have n := eat_n (fun q => h ⟨c, q⟩)
    refine ⟨?_, ?_, ?_⟩ <;> simp only [if_neg c, if_neg h1, n.1, n.2, y.1, y.2, if_neg (show ¬ (1 : Int32) = 0 by decide), if_true]
theorem rp_f (h : ¬ (¬ 8 ≤ D 1 ∧ eatC A T 104)) (h' : ¬ (¬ 3 ≤ D 2 ∧ eatC A T 119)) (h1 : ¬ D 0 ≤ qX7_filling_v D) (h2 : eatC A T 102) : qX7_readPart_v A T D = (if qX7_readFilling_v (up3 A) T D = 0 then 0 else 1) ∧ qX7_readPart_A A T D = qX7_readFilling_A (up3 A) T D ∧ qX7_readPart_D A T D = qX7_readFilling_D (up3 A) T D := by
  have y := eat_y h2
  unfold qX7_readPart_v qX7_readPart_A qX7_readPart_D fX7_readPart_v fX7_readPart_A fX7_readPart_D
  by_cases c : 8 ≤ D 1 <;> by_cases c' : 3 ≤ D 2
  · refine ⟨?_, ?_, ?_⟩ <;> simp only [if_pos c, if_pos c', if_neg h1, y.1, y.2, if_neg (show ¬ (1 : Int32) = 0 by decide), ite_self]
  · have n' := eat_n (fun q => h' ⟨c', q⟩)
    refine ⟨?_, ?_, ?_⟩ <;> simp only [if_pos c, if_neg c', if_neg h1, n'.1, n'.2, y.1, y.2, if_neg (show ¬ (1 : Int32) = 0 by decide), if_true, ite_self]
  · have n := eat_n (fun q => h ⟨c, q⟩)
    refine ⟨?_, ?_, ?_⟩ <;> simp only [if_neg c, if_pos c', if_neg h1, n.1, n.2, y.1, y.2, if_neg (show ¬ (1 : Int32) = 0 by decide), if_true, ite_self]
  · have n := eat_n (fun q => h ⟨c, q⟩)
    have n' := eat_n (fun q => h' ⟨c', q⟩)
    refine ⟨?_, ?_, ?_⟩ <;> simp only [if_neg c, if_neg c', if_neg h1, n.1, n.2, n'.1, n'.2, y.1, y.2, if_neg (show ¬ (1 : Int32) = 0 by decide), if_true, ite_self]
theorem rp_n (h : ¬ (¬ 8 ≤ D 1 ∧ eatC A T 104)) (h' : ¬ (¬ 3 ≤ D 2 ∧ eatC A T 119)) (h'' : ¬ (¬ D 0 ≤ qX7_filling_v D ∧ eatC A T 102)) : qX7_readPart_v A T D = 0 ∧ qX7_readPart_A A T D = A ∧ qX7_readPart_D A T D = D := by
  unfold qX7_readPart_v qX7_readPart_A qX7_readPart_D fX7_readPart_v fX7_readPart_A fX7_readPart_D
  by_cases c : 8 ≤ D 1 <;> by_cases c' : 3 ≤ D 2 <;> by_cases c'' : D 0 ≤ qX7_filling_v D
  · refine ⟨?_, ?_, ?_⟩ <;> simp only [if_pos c, if_pos c', if_pos c'', if_true]
  · have n'' := eat_n (fun q => h'' ⟨c'', q⟩)
    refine ⟨?_, ?_, ?_⟩ <;> simp only [if_pos c, if_pos c', if_neg c'', n''.1, n''.2, if_true]
  · have n' := eat_n (fun q => h' ⟨c', q⟩)
    refine ⟨?_, ?_, ?_⟩ <;> simp only [if_pos c, if_neg c', n'.1, n'.2, if_pos c'', if_true]
  · have n' := eat_n (fun q => h' ⟨c', q⟩)
    have n'' := eat_n (fun q => h'' ⟨c'', q⟩)
    refine ⟨?_, ?_, ?_⟩ <;> simp only [if_pos c, if_neg c', n'.1, n'.2, if_neg c'', n''.1, n''.2, if_true]
  · have n := eat_n (fun q => h ⟨c, q⟩)
    refine ⟨?_, ?_, ?_⟩ <;> simp only [if_neg c, n.1, n.2, if_pos c', if_pos c'', if_true]
  · have n := eat_n (fun q => h ⟨c, q⟩)
    have n'' := eat_n (fun q => h'' ⟨c'', q⟩)
    refine ⟨?_, ?_, ?_⟩ <;> simp only [if_neg c, n.1, n.2, if_pos c', if_neg c'', n''.1, n''.2, if_true]
  · have n := eat_n (fun q => h ⟨c, q⟩)
    have n' := eat_n (fun q => h' ⟨c', q⟩)
    refine ⟨?_, ?_, ?_⟩ <;> simp only [if_neg c, n.1, n.2, if_neg c', n'.1, n'.2, if_pos c'', if_true]
  · have n := eat_n (fun q => h ⟨c, q⟩)
    have n' := eat_n (fun q => h' ⟨c', q⟩)
    have n'' := eat_n (fun q => h'' ⟨c'', q⟩)
    refine ⟨?_, ?_, ?_⟩ <;> simp only [if_neg c, n.1, n.2, if_neg c', n'.1, n'.2, if_neg c'', n''.1, n''.2, if_true]
end
