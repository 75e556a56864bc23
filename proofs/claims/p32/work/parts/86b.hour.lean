/-! MATH: parts 1 and 2 of an hour, dust, what houses get. -/
theorem rd_out (Q : Nat → Int32) (k j : Nat) (h : ¬ sW k j) : fX2_raiseDust_S Q k j = Q j := by
  unfold fX2_raiseDust_S fX3_raise_P fX3_dry_P
  rw [pk_un (by omega), pk_un (by omega)]
theorem rd_in (Q Q' : Nat → Int32) (k : Nat) (hd : ∀ j, j < 12 → Q j = Q' j) (hw : ∀ j, sW k j → Q j = Q' j) (j : Nat) (hj : sW k j) : fX2_raiseDust_S Q k j = fX2_raiseDust_S Q' k j := by
  have e0 := hw (12 + 7 * k) (by omega)
  have e1 := hw (12 + 7 * k + 1) (by omega)
  have e3 := hw (12 + 7 * k + 3) (by omega)
  have e4 := hw (12 + 7 * k + 4) (by omega)
  have h5 := hd 5 (by omega)
  have h6 := hd 6 (by omega)
  have ej := hw j hj
  unfold fX2_raiseDust_S fX3_raise_P fX3_dry_P fX3_waterLoss_v
  simp (disch := omega) only [pk_us, pk_un, e0, e1, e3, e4, h5, h6]
  unfold upd
  rw [ej]
theorem dry_out (Q : Nat → Int32) (k j : Nat) (h : ¬ sW k j) : fX7_dry_S Q k j = Q j := by
  unfold fX7_dry_S
  (repeat' split) <;> exact pk_un (by omega)
theorem dry_in (Q Q' : Nat → Int32) (k : Nat) (hd : ∀ j, j < 12 → Q j = Q' j) (hw : ∀ j, sW k j → Q j = Q' j) (j : Nat) (hj : sW k j) : fX7_dry_S Q k j = fX7_dry_S Q' k j := by
  have e0 := hw (12 + 7 * k) (by omega)
  have e4 := hw (12 + 7 * k + 4) (by omega)
  have h5 := hd 5 (by omega)
  have h6 := hd 6 (by omega)
  have ej := hw j hj
  unfold fX7_dry_S
  simp only [e0, e4, h5, h6]
  (repeat' split) <;> (unfold upd; rw [ej])
theorem rai_out (Q : Nat → Int32) (k j : Nat) (h : ¬ sW k j) : fX7_raise_S Q k j = Q j := by
  unfold fX7_raise_S
  exact pk_un (by omega)
theorem rai_in (Q Q' : Nat → Int32) (k : Nat) (hd : ∀ j, j < 12 → Q j = Q' j) (hw : ∀ j, sW k j → Q j = Q' j) (j : Nat) (hj : sW k j) : fX7_raise_S Q k j = fX7_raise_S Q' k j := by
  have e0 := hw (12 + 7 * k) (by omega)
  have e1 := hw (12 + 7 * k + 1) (by omega)
  have e3 := hw (12 + 7 * k + 3) (by omega)
  have e4 := hw (12 + 7 * k + 4) (by omega)
  have h5 := hd 5 (by omega)
  have ej := hw j hj
  unfold fX7_raise_S
  simp only [e0, e1, e3, e4, h5]
  unfold upd
  rw [ej]
theorem rd_L (P : Nat → Int32) : lpT sW fX2_raiseDust_S (fX2_raiseDust_L P) P := lp sW_d sW_h (S := fX2_raiseDust_S) (L := fX2_raiseDust_L P) (P := P) rfl (fun _ => rfl) rd_out rd_in
theorem dry_L (P : Nat → Int32) : lpT sW fX7_dry_S (fX7_dry_L P) P := lp sW_d sW_h (S := fX7_dry_S) (L := fX7_dry_L P) (P := P) rfl (fun _ => rfl) dry_out dry_in
theorem rai_L (P : Nat → Int32) : lpT sW fX7_raise_S (fX7_raise_L P) P := lp sW_d sW_h (S := fX7_raise_S) (L := fX7_raise_L P) (P := P) rfl (fun _ => rfl) rai_out rai_in
theorem less_min (c x : Int32) : fX7_less_v c x = if x < c then x else c := by
  unfold fX7_less_v
  by_cases h : x ≤ c
  · rw [if_pos h]
    by_cases q : x < c
    · rw [if_pos q]
    · rw [if_neg q]
      exact Int32.le_antisymm h (i32_nlt q)
  · rw [if_neg h, if_neg (fun q => h (Int32.le_of_lt q))]
theorem more_max (x : Int32) : fX7_more_v 0 x = if 0 < x then x else 0 := by
  unfold fX7_more_v
  by_cases h : 0 ≤ x
  · rw [if_pos h]
    by_cases q : 0 < x
    · rw [if_pos q]
    · rw [if_neg q]
      exact Int32.le_antisymm (i32_nlt q) h
  · rw [if_neg h, if_neg (fun q => h (Int32.le_of_lt q))]
/-- one segment of two pages that are the same there: class and reference -/
theorem sg_raise {P N : Nat → Int32} {i : Nat} (hd : ∀ j, j < 12 → P j = N j) (hw : ∀ j, sW i j → P j = N j) (hs : nn 2 (N (12 + 7 * i))) {j : Nat} (hj : sW i j) : fX2_raiseDust_S P i j = fX7_raise_S (fX7_dry_S N i) i j := by
  rw [rd_in P N i hd hw j hj]
  obtain ⟨n, hn, e, -⟩ := hs.ex
  unfold fX2_raiseDust_S fX3_raise_P fX3_dry_P fX3_waterLoss_v fX7_raise_S fX7_dry_S
  rcases (show n = 0 ∨ n = 1 ∨ n = 2 by omega) with rfl | rfl | rfl
  · simp (disch := omega) only [pk_us, pk_un, e, less_min, more_max, show (nI 0 = 1) = False from by decide, show (nI 0 = 2) = False from by decide, show (nI 0 = 0) = True from by decide, if_true, if_false]
  · simp (disch := omega) only [pk_us, pk_un, e, less_min, more_max, show (nI 1 = 1) = True from by decide, show (nI 1 = 0) = False from by decide, if_true, if_false]
  · simp only [e, show (nI 2 = 1) = False from by decide, show (nI 2 = 2) = True from by decide, show (nI 2 = 0) = False from by decide, if_true, if_false]
    by_cases q : N 5 ≤ 0
    · simp (disch := omega) only [pk_us, pk_un, e, less_min, more_max, q, if_true]
    · simp (disch := omega) only [pk_us, pk_un, e, less_min, more_max, q, if_false]
def SU (N : Nat → Int32) : Prop := ∀ i, i < 10 → nn 2 (N (12 + 7 * i))
theorem raise_Rl {P N : Nat → Int32} (h : Rl P N) (h10 : (N 0).toNatClampNeg ≤ 10) (hs : SU N) : Rl (fX2_raiseDust_P P) (fX7_raise_P (fX7_dry_P N)) := by
  have z0 : fX7_dry_P N 0 = N 0 := fX7_dry_L0 N 0 (by omega) _
  have zz : ∀ j, j < 12 → fX7_raise_P (fX7_dry_P N) j = N j := fun j hj => (fX7_raise_L0 _ j hj _).trans (fX7_dry_L0 N j hj _)
  refine Rl.of (P := P) (N := N) (zz 0 (by omega)) (zz 1 (by omega)) (zz 2 (by omega)) (fun j hj => ?_)
  by_cases h12 : j < 12
  · rw [zz j h12]
    exact (fX2_raiseDust_L1 P j h12 10).trans (h.hd h12)
  by_cases hw : ∃ i, i < (N 0).toNatClampNeg ∧ sW i j
  · obtain ⟨i, hi, hw⟩ := hw
    have e1 : fX2_raiseDust_P P j = fX2_raiseDust_S P i j := (rd_L P 10).2 i (by omega) j hw
    have e2 : fX7_raise_P (fX7_dry_P N) j = fX7_raise_S (fX7_dry_P N) i j := (rai_L (fX7_dry_P N) _).2 i (by rw [z0]; exact hi) j hw
    have e3 : fX7_raise_S (fX7_dry_P N) i j = fX7_raise_S (fX7_dry_S N i) i j := rai_in _ _ i (fun k hk => (fX7_dry_L0 N k hk _).trans (fX7_dry_S0 N i k hk).symm) (fun k hk => (dry_L N _).2 i hi k hk) j hw
    rw [e1, e2, e3]
    refine sg_raise (fun k hk => h.hd hk) (fun k hk => ?_) (hs i (by omega)) hw
    exact h k (Or.inr (Or.inl (by omega)))
  · have hn : 82 ≤ j := by
      rcases hj with q | q | q | q
      · exact absurd q h12
      · exact absurd ⟨(j - 12) / 7, by omega, by omega⟩ hw
      · exact q.1
      · omega
    have e1 : fX2_raiseDust_P P j = P j := (rd_L P 10).1 j (fun k hk => by omega)
    have e2 : fX7_raise_P (fX7_dry_P N) j = fX7_dry_P N j := (rai_L (fX7_dry_P N) _).1 j (fun k hk => by rw [z0] at hk; omega)
    have e3 : fX7_dry_P N j = N j := (dry_L N _).1 j (fun k hk => by omega)
    rw [e1, e2, e3]
    exact h j hj
theorem dustAt_Rl {P N : Nat → Int32} (h : Rl P N) (hn : nn 10 (N 0)) (a : Int32) : fX2_dustAt_v P a = fX7_dustOf_v N a := by
  unfold fX2_dustAt_v fX7_dustOf_v fX7_isSegment_v
  rw [isPl_v a hn.1 (Nat.lt_of_le_of_lt hn.2 (by decide)), h.hd (show 0 < 12 by decide)]
  by_cases h0 : a < 0
  · rw [if_pos h0, if_pos (if_neg (fun q : 0 ≤ a ∧ a < N 0 => i32_le_nlt q.1 h0))]
  · rw [if_neg h0]
    by_cases h1 : N 0 ≤ a
    · rw [if_pos h1, if_pos (if_neg (fun q : 0 ≤ a ∧ a < N 0 => i32_lt_nle q.2 h1))]
    · rw [if_neg h1, if_neg (show ¬ (if 0 ≤ a ∧ a < N 0 then (1 : Int32) else 0) = 0 by rw [if_pos ⟨i32_nlt h0, i32_nle h1⟩]; decide)]
      obtain ⟨j, hj, e⟩ := ix_of hn.1 (Nat.lt_of_le_of_lt hn.2 (by decide)) h0 (i32_nle h1)
      have h10 := hn.2
      subst e
      rw [if_neg (show ¬ 10 ≤ nI j from fun q => i32_lt_nle (nI_lt (show j < 10 by omega) (by decide)) q), nI_clamp (by omega)]
      exact h.sg hj (show 3 < 7 by decide) rfl
theorem dustFor_Rl {P N : Nat → Int32} (h : Rl P N) (hn : nn 10 (N 0)) {i : Nat} (hi : i < (N 1).toNatClampNeg) (hd : nn 9 (N (82 + 5 * i + 1))) : fX2_dustFor_v P i = fX7_gets_v N i := by
  unfold fX2_dustFor_v fX7_gets_v
  rw [dustAt_Rl h hn, dustAt_Rl h hn, dustAt_Rl h hn, h.ho hi (show 0 < 5 by decide) (show 82 + 5 * i = 82 + 5 * i + 0 by omega), h.ho hi (show 1 < 5 by decide) (show 82 + 5 * i + 1 = 82 + 5 * i + 1 from rfl)]
  obtain ⟨n, h9, e, -⟩ := hd.ex
  rw [if_pos]
  rw [e, show (1 : Int32) = nI 1 from rfl, nI_add, show (2 : Int32) = nI 2 from rfl, pk_mul, show (0 : Int32) = nI 0 from rfl]
  exact nI_lt (by omega) (by omega)
