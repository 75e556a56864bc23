/-! THE REFERENCE: pages that readers make. Laid by gen/p14.py. -/
theorem fX7_ho_L1 (n : Nat) (P : Nat → Int32) : ∀ k j, fX7_houseOn_L n P k j = if 82 + 5 * n ≤ j ∧ j < 82 + 5 * n + k then 0 else P j
  | 0, j => by rw [if_neg (by omega)]; rfl
  | k + 1, j => by
    have h := fX7_ho_L1 n P k j
    show fX7_houseOn_S n (fX7_houseOn_L n P k) k j = _
    unfold fX7_houseOn_S
    by_cases e : j = 82 + 5 * n + k
    · subst e; rw [upd_eq, if_pos (by omega)]
    · rw [upd_nw _ _ e, h]
      by_cases q : 82 + 5 * n ≤ j ∧ j < 82 + 5 * n + k
      · rw [if_pos q, if_pos (by omega)]
      · rw [if_neg q, if_neg (by omega)]
theorem ho_at (P : Nat → Int32) (a d : Int32) {n : Nat} (hn : (P 1).toNatClampNeg = n) (j : Nat) : fX7_houseOn_P P a d j = if j = 1 then P 1 + 1 else if j = 82 + 5 * n + 1 then d else if j = 82 + 5 * n then a else if 82 + 5 * n ≤ j ∧ j < 82 + 5 * n + 5 then 0 else P j := by
  unfold fX7_houseOn_P
  rw [hn]
  by_cases e1 : j = 1
  · subst e1
    rw [upd_eq, upd_nw _ _ (by omega), upd_nw _ _ (by omega), fX7_ho_L1, if_neg (by omega), if_pos rfl]
  · rw [upd_nw _ _ e1, if_neg e1]
    by_cases e2 : j = 82 + 5 * n + 1
    · subst e2; rw [upd_eq, if_pos rfl]
    · rw [upd_nw _ _ e2, if_neg e2]
      by_cases e3 : j = 82 + 5 * n
      · subst e3; rw [upd_eq, if_pos rfl]
      · rw [upd_nw _ _ e3, if_neg e3, fX7_ho_L1]
theorem wo_at (P : Nat → Int32) (a : Int32) {n : Nat} (hn : (P 2).toNatClampNeg = n) (j : Nat) : fX7_wagonOn_P P a j = if j = 2 then P 2 + 1 else if j = 122 + 3 * n + 2 then 4 else if j = 122 + 3 * n + 1 then 20 else if j = 122 + 3 * n then a else P j := by
  unfold fX7_wagonOn_P
  rw [hn]
  by_cases e1 : j = 2
  · subst e1
    rw [upd_eq, upd_nw _ _ (by omega), upd_nw _ _ (by omega), upd_nw _ _ (by omega), if_pos rfl]
  · rw [upd_nw _ _ e1, if_neg e1]
    by_cases e2 : j = 122 + 3 * n + 2
    · subst e2; rw [upd_eq, if_pos rfl]
    · rw [upd_nw _ _ e2, if_neg e2]
      by_cases e3 : j = 122 + 3 * n + 1
      · subst e3; rw [upd_eq, if_pos rfl]
      · rw [upd_nw _ _ e3, if_neg e3]
        by_cases e4 : j = 122 + 3 * n
        · subst e4; rw [upd_eq, if_pos rfl]
        · rw [upd_nw _ _ e4, if_neg e4]
theorem fX7_clr_L1 (P : Nat → Int32) : ∀ k j, fX7_clr_L P k j = if j < k then 0 else P j
  | 0, j => by rw [if_neg (by omega)]; rfl
  | k + 1, j => by
    have h := fX7_clr_L1 P k j
    show fX7_clr_S (fX7_clr_L P k) k j = _
    unfold fX7_clr_S
    by_cases e : j = k
    · subst e; rw [upd_eq, if_pos (by omega)]
    · rw [upd_nw _ _ e, h]
      by_cases q : j < k
      · rw [if_pos q, if_pos (by omega)]
      · rw [if_neg q, if_neg (by omega)]
theorem fX7_cls_L1 (P : Nat → Int32) : ∀ k j, fX7_cls_L P k j = if 12 ≤ j ∧ j < 12 + 7 * k ∧ (j - 12) % 7 = 1 then 3 else P j
  | 0, j => by rw [if_neg (by omega)]; rfl
  | k + 1, j => by
    have h := fX7_cls_L1 P k j
    show fX7_cls_S (fX7_cls_L P k) k j = _
    unfold fX7_cls_S
    by_cases e : j = 12 + 7 * k + 1
    · subst e; rw [upd_eq, if_pos (by omega)]
    · rw [upd_nw _ _ e, h]
      by_cases q : 12 ≤ j ∧ j < 12 + 7 * k ∧ (j - 12) % 7 = 1
      · rw [if_pos q, if_pos (by omega)]
      · rw [if_neg q, if_neg (by omega)]
/-- a new page -/
theorem clear_at (P : Nat → Int32) (n j : Nat) (hj : j < 131) : fX7_clear_P P n j = if j = 0 then nI n else if j = 5 then 10 else if j = 6 then 5 else if j = 7 then 50 else if j = 8 then 40 else if 12 ≤ j ∧ j < 12 + 7 * n ∧ (j - 12) % 7 = 1 then 3 else 0 := by
  unfold fX7_clear_P
  rw [fX7_cls_L1]
  by_cases c : 12 ≤ j ∧ j < 12 + 7 * n ∧ (j - 12) % 7 = 1
  · rw [if_pos c, if_neg (by omega), if_neg (by omega), if_neg (by omega), if_neg (by omega), if_neg (by omega), if_pos c]
  · rw [if_neg c, if_neg c]
    unfold upd
    rw [fX7_clr_L1, if_pos hj]
    by_cases h0 : j = 0
    · subst h0; rfl
    · by_cases h5 : j = 5
      · subst h5; rfl
      · by_cases h6 : j = 6
        · subst h6; rfl
        · by_cases h7 : j = 7
          · subst h7; rfl
          · by_cases h8 : j = 8
            · subst h8; rfl
            · rw [if_neg h8, if_neg h7, if_neg h6, if_neg h5, if_neg h0, if_neg h0, if_neg h5, if_neg h6, if_neg h7, if_neg h8]
theorem nI_le1 {k m : Nat} (h : k ≤ m) (hm : m < 2 ^ 31) : nI k = nI (nI k).toNatClampNeg ∧ (nI k).toNatClampNeg ≤ m := by
  rw [nI_clamp (by omega)]
  exact ⟨rfl, h⟩
theorem WS_clear (P : Nat → Int32) {n : Nat} (hn : n ≤ 10) : WS (fX7_clear_P P n) := by
  have c0 : fX7_clear_P P n 0 = nI n := by rw [clear_at P n 0 (by decide), if_pos rfl]
  have c1 : fX7_clear_P P n 1 = 0 := by rw [clear_at P n 1 (by decide)]; rfl
  have c2 : fX7_clear_P P n 2 = 0 := by rw [clear_at P n 2 (by decide)]; rfl
  unfold WS
  rw [c0, c1, c2]
  refine ⟨nI_le1 hn (by decide), ⟨by decide, by decide⟩, ⟨by decide, by decide⟩, fun i hi => ?_, fun i hi => ?_⟩
  · rw [clear_at P n _ (by omega), clear_at P n _ (by omega), if_neg (by omega), if_neg (by omega), if_neg (by omega), if_neg (by omega), if_neg (by omega), if_neg (by omega), if_neg (by omega), if_neg (by omega), if_neg (by omega), if_neg (by omega), if_neg (by omega), if_neg (by omega)]
    exact ⟨by decide, by decide, by decide⟩
  · rw [clear_at P n _ (by omega), if_neg (by omega), if_neg (by omega), if_neg (by omega), if_neg (by omega), if_neg (by omega), if_neg (by omega)]
    exact ⟨by decide, by decide⟩
theorem ret1 {x : Int32} {n m : Nat} (h : x = nI x.toNatClampNeg) (h2 : x.toNatClampNeg = n) (hn : n < m) (hm : m < 2 ^ 31) : x + 1 = nI (x + 1).toNatClampNeg ∧ (x + 1).toNatClampNeg ≤ m := by
  rw [h2] at h
  rw [show x + 1 = nI (n + 1) from (by rw [h]; exact nI_1 _)]
  exact nI_le1 (by omega) hm
theorem WS_ho {P : Nat → Int32} {a d : Int32} (hW : WS P) (h8 : (P 1).toNatClampNeg < 8) (ha : a = nI a.toNatClampNeg) (ha2 : a.toNatClampNeg < 10) (hd : ¬ 2 * (1 + d) = 0) : WS (fX7_houseOn_P P a d) := by
  obtain ⟨n, hn⟩ : ∃ n, (P 1).toNatClampNeg = n := ⟨_, rfl⟩
  have w := ret1 hW.2.1.1 hn (m := 8) (by omega) (by decide)
  unfold WS
  rw [show fX7_houseOn_P P a d 0 = P 0 from (by rw [ho_at P a d hn, if_neg (by omega), if_neg (by omega), if_neg (by omega), if_neg (by omega)]), show fX7_houseOn_P P a d 1 = P 1 + 1 from (by rw [ho_at P a d hn, if_pos rfl]), show fX7_houseOn_P P a d 2 = P 2 from (by rw [ho_at P a d hn, if_neg (by omega), if_neg (by omega), if_neg (by omega), if_neg (by omega)])]
  refine ⟨hW.1, w, hW.2.2.1, fun i hi => ?_, fun i hi => ?_⟩
  · by_cases e : i = n
    · subst e
      rw [show fX7_houseOn_P P a d (82 + 5 * i) = a from (by rw [ho_at P a d hn, if_neg (by omega), if_neg (by omega), if_pos rfl]), show fX7_houseOn_P P a d (82 + 5 * i + 1) = d from (by rw [ho_at P a d hn, if_neg (by omega), if_pos rfl])]
      exact ⟨ha, ha2, hd⟩
    · rw [show fX7_houseOn_P P a d (82 + 5 * i) = P (82 + 5 * i) from (by rw [ho_at P a d hn, if_neg (by omega), if_neg (by omega), if_neg (by omega), if_neg (by omega)]), show fX7_houseOn_P P a d (82 + 5 * i + 1) = P (82 + 5 * i + 1) from (by rw [ho_at P a d hn, if_neg (by omega), if_neg (by omega), if_neg (by omega), if_neg (by omega)])]
      exact hW.2.2.2.1 i hi
  · rw [ho_at P a d hn, if_neg (by omega), if_neg (by omega), if_neg (by omega), if_neg (by omega)]
    exact hW.2.2.2.2 i hi
theorem WS_wo {P : Nat → Int32} {a : Int32} (hW : WS P) (h3 : (P 2).toNatClampNeg < 3) (ha : a = nI a.toNatClampNeg) (ha2 : a.toNatClampNeg < 10) : WS (fX7_wagonOn_P P a) := by
  obtain ⟨n, hn⟩ : ∃ n, (P 2).toNatClampNeg = n := ⟨_, rfl⟩
  have w := ret1 hW.2.2.1.1 hn (m := 3) (by omega) (by decide)
  unfold WS
  rw [show fX7_wagonOn_P P a 0 = P 0 from (by rw [wo_at P a hn, if_neg (by omega), if_neg (by omega), if_neg (by omega), if_neg (by omega)]), show fX7_wagonOn_P P a 1 = P 1 from (by rw [wo_at P a hn, if_neg (by omega), if_neg (by omega), if_neg (by omega), if_neg (by omega)]), show fX7_wagonOn_P P a 2 = P 2 + 1 from (by rw [wo_at P a hn, if_pos rfl])]
  refine ⟨hW.1, hW.2.1, w, fun i hi => ?_, fun i hi => ?_⟩
  · rw [wo_at P a hn, wo_at P a hn, if_neg (by omega), if_neg (by omega), if_neg (by omega), if_neg (by omega), if_neg (by omega), if_neg (by omega), if_neg (by omega), if_neg (by omega)]
    exact hW.2.2.2.1 i hi
  · rw [wo_at P a hn, if_neg (by omega), if_neg (by omega), if_neg (by omega)]
    by_cases e : i = n
    · subst e
      rw [if_pos rfl]
      exact ⟨ha, ha2⟩
    · rw [if_neg (by omega)]
      exact hW.2.2.2.2 i hi
