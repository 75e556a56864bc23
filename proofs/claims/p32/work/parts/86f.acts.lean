/-! MATH: the actions. -/
theorem wi_eq (b lo hi : Int32) : fX7_in_v b.toInt64 lo.toInt64 hi.toInt64 = fX6_within_v b lo hi := by
  rw [in_v]
  unfold fX6_within_v
  by_cases h : b < lo
  · rw [if_pos h, if_neg (fun q => i32_le_nlt q.1 h)]
  · rw [if_neg h]
    by_cases h2 : hi < b
    · rw [if_pos h2, if_neg (fun q => i32_le_nlt q.2 h2)]
    · rw [if_neg h2, if_pos ⟨i32_nlt h, i32_nlt h2⟩]
theorem w_01 (b : Int32) : fX7_in_v b.toInt64 0 1 = fX6_within_v b 0 1 := wi_eq b 0 1
theorem w_02 (b : Int32) : fX7_in_v b.toInt64 0 2 = fX6_within_v b 0 2 := wi_eq b 0 2
theorem w_04 (b : Int32) : fX7_in_v b.toInt64 0 4 = fX6_within_v b 0 4 := wi_eq b 0 4
theorem w_06 (b : Int32) : fX7_in_v b.toInt64 0 6 = fX6_within_v b 0 6 := wi_eq b 0 6
theorem w_09 (b : Int32) : fX7_in_v b.toInt64 0 9 = fX6_within_v b 0 9 := wi_eq b 0 9
theorem w_012 (b : Int32) : fX7_in_v b.toInt64 0 12 = fX6_within_v b 0 12 := wi_eq b 0 12
theorem w_020 (b : Int32) : fX7_in_v b.toInt64 0 20 = fX6_within_v b 0 20 := wi_eq b 0 20
theorem w_099 (b : Int32) : fX7_in_v b.toInt64 0 99 = fX6_within_v b 0 99 := wi_eq b 0 99
theorem w_0255 (b : Int32) : fX7_in_v b.toInt64 0 255 = fX6_within_v b 0 255 := wi_eq b 0 255
theorem w_14 (b : Int32) : fX7_in_v b.toInt64 1 4 = fX6_within_v b 1 4 := wi_eq b 1 4
theorem w_15 (b : Int32) : fX7_in_v b.toInt64 1 5 = fX6_within_v b 1 5 := wi_eq b 1 5
theorem w_19 (b : Int32) : fX7_in_v b.toInt64 1 9 = fX6_within_v b 1 9 := wi_eq b 1 9
theorem w_120 (b : Int32) : fX7_in_v b.toInt64 1 20 = fX6_within_v b 1 20 := wi_eq b 1 20
theorem w_150 (b : Int32) : fX7_in_v b.toInt64 1 50 = fX6_within_v b 1 50 := wi_eq b 1 50
theorem w_199 (b : Int32) : fX7_in_v b.toInt64 1 99 = fX6_within_v b 1 99 := wi_eq b 1 99
theorem w_1200 (b : Int32) : fX7_in_v b.toInt64 1 200 = fX6_within_v b 1 200 := wi_eq b 1 200
/-- what is within written bounds -/
theorem wi_nn {b : Int32} {lo hi : Nat} (h : ¬ fX6_within_v b (nI lo) (nI hi) = 0) (hh : hi < 2 ^ 31) (hl : lo ≤ hi) : nn hi b ∧ lo ≤ b.toNatClampNeg := by
  unfold fX6_within_v at h
  by_cases h1 : b < nI lo
  · rw [if_pos h1] at h; exact absurd rfl h
  · rw [if_neg h1] at h
    by_cases h2 : nI hi < b
    · rw [if_pos h2] at h; exact absurd rfl h
    · have h0 : ¬ b < 0 := fun q => h1 (Int32.lt_of_lt_of_le q (nI_pos' (by omega)))
      obtain ⟨j, hj, e⟩ := nI_of h0
      subst e
      rw [nI_ltI hj (by omega)] at h1
      rw [nI_ltI hh hj] at h2
      exact ⟨nn.of rfl (by omega) hh, by rw [nI_clamp hj]; omega⟩
theorem ok_iff {n a x : Int32} {b : Nat} (h : nn b n) (hb : b < 2 ^ 31) (hx : x = nI b) : (fX7_in_v a.toInt64 0 (n - 1).toInt64 = 0) = ¬ okI a n x := by
  subst hx
  rw [isPl_v a h.1 (Nat.lt_of_le_of_lt h.2 hb)]
  by_cases q : 0 ≤ a ∧ a < n
  · rw [if_pos q]
    refine propext ⟨fun z => absurd z (by decide), fun z => absurd ⟨q.1, q.2, ?_⟩ z⟩
    refine Int32.lt_of_lt_of_le q.2 ?_
    rw [h.1]
    exact nI_le h.2 hb
  · rw [if_neg q]
    exact propext ⟨fun _ z => q ⟨z.1, z.2.1⟩, fun _ => rfl⟩
theorem sg_ok {u : Nat} {N : Nat → Int32} (h : PI u N) (a : Int32) : (fX7_isSegment_v N a = 0) = ¬ okI a (N 0) 10 := ok_iff h.s10 (by decide) rfl
theorem ho_ok {u : Nat} {N : Nat → Int32} (h : PI u N) (a : Int32) : (fX7_isHouse_v N a = 0) = ¬ okI a (N 1) 8 := ok_iff h.h8 (by decide) rfl
theorem wa_ok {u : Nat} {N : Nat → Int32} (h : PI u N) (a : Int32) : (fX7_isWagon_v N a = 0) = ¬ okI a (N 2) 3 := ok_iff h.w3 (by decide) rfl
/-- a number below a count -/
theorem okI.nn {a n x : Int32} {b : Nat} (h : okI a n x) (hn : nn b n) (hb : b < 2 ^ 31) : nn b a ∧ a.toNatClampNeg < n.toNatClampNeg := by
  obtain ⟨j, hj, e⟩ := ix_of hn.1 (Nat.lt_of_le_of_lt hn.2 hb) (i32_le_nlt h.1) h.2.1
  have h2 := hn.2
  subst e
  rw [nI_clamp (by omega)]
  exact ⟨nn.of rfl (by omega) hb, hj⟩
theorem xof_nn {b : Nat} {v : Int32} (h : nn b v) (hb : b < 2 ^ 31) : xOf v = none := by
  have h0 := h.not_neg hb
  unfold xOf
  rw [if_neg (fun e => h0 (by rw [e]; decide)), if_neg (fun e => h0 (by rw [e]; decide)), if_neg (fun e => h0 (by rw [e]; decide))]
theorem xof_n2 {b : Nat} {v : Int32} (h : nn b v) (hb : b < 2 ^ 31) : xOf v = none ∧ ¬ v < 0 := ⟨xof_nn h hb, h.not_neg hb⟩
theorem xof_neg {v : Int32} {E : String} (h : xOf v = some E) : v < 0 := by
  unfold xOf at h
  by_cases h1 : v = -1
  · rw [h1]; decide
  · by_cases h2 : v = -2
    · rw [h2]; decide
    · by_cases h3 : v = -3
      · rw [h3]; decide
      · rw [if_neg h1, if_neg h2, if_neg h3] at h; cases h
/-- an action: done by both, or refused by both -/
def AC (u : Nat) (P N : Nat → Int32) (cv : Int32) (cP : Nat → Int32) (rv : Int32) (rN : Nat → Int32) (rf : Nat) (E : Nat → String) : Prop :=
  (rf = 0 ∧ (xOf cv = none ∧ ¬ cv < 0) ∧ rv = cv ∧ Rl cP rN ∧ PI (u + 850) rN) ∨ (1 ≤ rf ∧ rf ≤ 3 ∧ xOf cv = some (E rf) ∧ cP = P ∧ rN = N)
def EE (a b c : String) (k : Nat) : String := if k = 1 then a else if k = 2 then b else c
theorem PI.seg {u : Nat} {N : Nat → Int32} (h : PI u N) {i : Nat} (hi : i < 8) {x : Int32} (hx : nn 9 x) (hl : x.toNatClampNeg < (N 0).toNatClampNeg) : PI u (upd N (82 + 5 * i) x) := by
  obtain ⟨h1, h2, h3, h4⟩ := h
  refine ⟨fun j hj => ?_, by rw [pk_un (by omega)]; exact h2, fun j hj => ?_, fun j hj => ?_⟩
  · by_cases q : j = 82 + 5 * i
    · subst q
      rw [pk_us, ub_h u hi (show 0 < 5 by decide) (show 82 + 5 * i = 82 + 5 * i + 0 from rfl)]
      exact hx
    · rw [pk_un q]; exact h1 j hj
  · rw [pk_un (show 0 ≠ 82 + 5 * i by omega)]
    by_cases q : 82 + 5 * j = 82 + 5 * i
    · rw [q, pk_us]; exact hl
    · rw [pk_un q]; exact h3 j hj
  · rw [pk_un (show 0 ≠ 82 + 5 * i by omega), pk_un (by omega)]
    exact h4 j hj
theorem PI.wag {u : Nat} {N : Nat → Int32} (h : PI u N) {i : Nat} (hi : i < 3) {x : Int32} (hx : nn 9 x) (hl : x.toNatClampNeg < (N 0).toNatClampNeg) : PI u (upd N (122 + 3 * i) x) := by
  obtain ⟨h1, h2, h3, h4⟩ := h
  refine ⟨fun j hj => ?_, by rw [pk_un (by omega)]; exact h2, fun j hj => ?_, fun j hj => ?_⟩
  · by_cases q : j = 122 + 3 * i
    · subst q
      rw [pk_us, ub_w u (show 0 < 3 by decide) (show 122 + 3 * i = 122 + 3 * i + 0 from rfl)]
      exact hx
    · rw [pk_un q]; exact h1 j hj
  · rw [pk_un (show 0 ≠ 122 + 3 * i by omega), pk_un (by omega)]
    exact h3 j hj
  · rw [pk_un (show 0 ≠ 122 + 3 * i by omega)]
    by_cases q : 122 + 3 * j = 122 + 3 * i
    · rw [q, pk_us]; exact hl
    · rw [pk_un q]; exact h4 j hj
def ag (Z : Nat → Prop) (P N : Nat → Int32) : Prop := ∀ j, Z j → P j = N j
theorem ag.up {Z : Nat → Prop} {P N : Nat → Int32} (h : ag Z P N) (k : Nat) {x y : Int32} (hx : x = y) : ag (fun j => Z j ∨ j = k) (upd P k x) (upd N k y) := by
  subst hx
  intro j hj
  unfold upd
  by_cases q : j = k
  · rw [if_pos q, if_pos q]
  · rw [if_neg q, if_neg q]
    exact h j (hj.resolve_right q)
/-- a house more, as the class makes it -/
def hsS (P : Nat → Int32) (n : Nat) (a d : Int32) : Nat → Int32 := upd (upd (upd (upd (upd (upd P (82 + 5 * n) a) (82 + 5 * n + 1) d) (82 + 5 * n + 2) 0) (82 + 5 * n + 3) 0) (82 + 5 * n + 4) 0) 1 (P 1 + 1)
theorem hsS_ref (N : Nat → Int32) (a d : Int32) {n : Nat} (hn : (N 1).toNatClampNeg = n) : fX7_houseOn_P N a d = hsS N n a d := by
  funext j
  rw [ho_at N a d hn]
  unfold hsS upd
  by_cases h1 : j = 1
  · rw [if_pos h1, if_pos h1]
  · rw [if_neg h1, if_neg h1]
    (repeat' split) <;> first | rfl | omega
theorem hsS_Rl {u : Nat} {P N : Nat → Int32} (h : Rl P N) (hN : PI u N) {n : Nat} (hn : (N 1).toNatClampNeg = n) (h8 : n < 8) {a d : Int32} (ha : nn 9 a) (hl : a.toNatClampNeg < (N 0).toNatClampNeg) (hd : nn 9 d) : Rl (hsS P n a d) (hsS N n a d) ∧ PI u (hsS N n a d) ∧ hsS N n a d 1 = nI (n + 1) := by
  have e1 : N 1 + 1 = nI (n + 1) := by rw [hN.h8.1, hn, nI_1]
  have z1 : hsS N n a d 1 = nI (n + 1) := by unfold hsS; rw [pk_us, e1]
  have z0 : hsS N n a d 0 = N 0 := by unfold hsS; simp (disch := omega) only [pk_un]
  have z2 : hsS N n a d 2 = N 2 := by unfold hsS; simp (disch := omega) only [pk_un]
  refine ⟨?_, ?_, z1⟩
  · intro j hj
    rw [z0, z1, z2, nI_clamp (by omega)] at hj
    have hag := ((((((show ag (lv (N 0).toNatClampNeg (N 1).toNatClampNeg (N 2).toNatClampNeg) P N from h).up (82 + 5 * n) (x := a) rfl).up (82 + 5 * n + 1) (x := d) rfl).up (82 + 5 * n + 2) (x := 0) rfl).up (82 + 5 * n + 3) (x := 0) rfl).up (82 + 5 * n + 4) (x := 0) rfl).up 1 (x := P 1 + 1) (y := N 1 + 1) (by rw [h.hd (by decide)])
    refine hag j ?_
    unfold lv at hj ⊢
    rw [hn]
    omega
  · have zz : nn 0 (0 : Int32) := nn.of nI_0.symm (Nat.le_refl _) (by decide)
    have q1 := hN.seg h8 ha hl
    have q2 := q1.uh h8 1 9 (by omega) (by omega) rfl hd
    have q3 := q2.uh h8 2 (1998 * u) (by omega) (by omega) rfl (zz.le (Nat.zero_le _))
    have q4 := q3.uh h8 3 u (by omega) (by omega) rfl (zz.le (Nat.zero_le _))
    have q5 := q4.uh h8 4 1998 (by omega) (by omega) rfl (zz.le (Nat.zero_le _))
    exact q5.u0 1 8 (by omega) (by omega) rfl (nn.of e1 (by omega) (by decide))
def wgS (P : Nat → Int32) (n : Nat) (a : Int32) : Nat → Int32 := upd (upd (upd (upd P (122 + 3 * n) a) (122 + 3 * n + 1) 20) (122 + 3 * n + 2) 4) 2 (P 2 + 1)
theorem wgS_ref (N : Nat → Int32) (a : Int32) {n : Nat} (hn : (N 2).toNatClampNeg = n) : fX7_wagonOn_P N a = wgS N n a := by
  unfold fX7_wagonOn_P wgS
  rw [hn]
  simp (disch := omega) only [pk_un]
theorem wgS_Rl {u : Nat} {P N : Nat → Int32} (h : Rl P N) (hN : PI u N) {n : Nat} (hn : (N 2).toNatClampNeg = n) (h3 : n < 3) {a : Int32} (ha : nn 9 a) (hl : a.toNatClampNeg < (N 0).toNatClampNeg) : Rl (wgS P n a) (wgS N n a) ∧ PI u (wgS N n a) ∧ wgS N n a 2 = nI (n + 1) := by
  have e1 : N 2 + 1 = nI (n + 1) := by rw [hN.w3.1, hn, nI_1]
  have z2 : wgS N n a 2 = nI (n + 1) := by unfold wgS; rw [pk_us, e1]
  have z0 : wgS N n a 0 = N 0 := by unfold wgS; simp (disch := omega) only [pk_un]
  have z1 : wgS N n a 1 = N 1 := by unfold wgS; simp (disch := omega) only [pk_un]
  refine ⟨?_, ?_, z2⟩
  · intro j hj
    rw [z0, z1, z2, nI_clamp (by omega)] at hj
    have hag := ((((show ag (lv (N 0).toNatClampNeg (N 1).toNatClampNeg (N 2).toNatClampNeg) P N from h).up (122 + 3 * n) (x := a) rfl).up (122 + 3 * n + 1) (x := 20) rfl).up (122 + 3 * n + 2) (x := 4) rfl).up 2 (x := P 2 + 1) (y := N 2 + 1) (by rw [h.hd (by decide)])
    refine hag j ?_
    unfold lv at hj ⊢
    rw [hn]
    omega
  · have q1 := hN.wag h3 ha hl
    have q2 := q1.uw h3 1 20 (by omega) (by omega) rfl (nn.lit 20 (by decide))
    have q3 := q2.uw h3 2 4 (by omega) (by omega) rfl (nn.lit 4 (by decide))
    exact q3.u0 2 3 (by omega) (by omega) rfl (nn.of e1 (by omega) (by decide))
/-- is a count at its bound -/
theorem full_iff {x : Int32} {b : Nat} (h : nn b x) (hb : b < 2 ^ 31) : (x = nI b ∧ ¬ x < nI b) ∨ (¬ x = nI b ∧ x < nI b ∧ x.toNatClampNeg < b) := by
  have h2 := h.2
  by_cases q : x.toNatClampNeg = b
  · refine Or.inl ⟨by rw [h.1, q], ?_⟩
    rw [h.1, q]
    exact nI_nlt (Nat.le_refl _) hb
  · refine Or.inr ⟨fun e => q (by rw [e, nI_clamp hb]), ?_, by omega⟩
    rw [h.1]
    exact nI_lt (by omega) hb
def rfAH (N : Nat → Int32) (a d : Int32) : Nat := if fX7_isSegment_v N a = 0 then 1 else if fX7_in_v d.toInt64 0 9 = 0 then 2 else if N 1 = 8 then 3 else 0
theorem ac_addHouse {u : Nat} {P N : Nat → Int32} (h : Rl P N) (hN : PI u N) (a d : Int32) : AC u P N (fX2_buildHouse_v P a d) (fX2_buildHouse_P P a d) (if fX7_isSegment_v N a = 0 then 0 else if fX7_in_v d.toInt64 0 9 = 0 then 0 else if N 1 = 8 then 0 else fX7_houseOn_P N a d 1 - 1) (if fX7_isSegment_v N a = 0 then N else if fX7_in_v d.toInt64 0 9 = 0 then N else if N 1 = 8 then N else fX7_houseOn_P N a d) (rfAH N a d) (EE xIO xIA xIS) := by
  unfold AC rfAH fX2_buildHouse_v fX2_buildHouse_P
  rw [w_09, h.hd (show 0 < 12 by decide), h.hd (show 1 < 12 by decide)]
  simp only [sg_ok hN]
  by_cases h1 : okI a (N 0) 10
  · rw [if_pos h1, if_pos h1]
    simp only [not_not_intro h1, if_false]
    by_cases h2 : fX6_within_v d 0 9 = 0
    · simp only [h2, if_true]
      exact Or.inr ⟨by decide, by decide, rfl, trivial, trivial⟩
    · simp only [h2, if_false]
      rw [if_neg (hN.h8.not_neg (by decide)), if_neg (hN.h8.not_neg (by decide))]
      rcases full_iff hN.h8 (by decide) with ⟨q, q2⟩ | ⟨q, q2, q3⟩
      · rw [if_neg (show ¬ N 1 < 8 from q2), if_neg (show ¬ N 1 < 8 from q2), if_pos (show N 1 = 8 from q)]
        simp only [show N 1 = 8 from q, if_true]
        exact Or.inr ⟨by decide, by decide, rfl, trivial, trivial⟩
      · have q' : ¬ N 1 = 8 := q
        rw [if_pos (show N 1 < 8 from q2), if_pos (show N 1 < 8 from q2)]
        simp only [q', if_false]
        obtain ⟨ha, hl⟩ := h1.nn hN.s10 (by decide)
        have s10 := hN.s10.2
        have hd := (wi_nn (lo := 0) (hi := 9) h2 (by decide) (by decide)).1
        obtain ⟨r1, r2, r3⟩ := hsS_Rl h hN rfl q3 (nn.of ha.1 (show _ ≤ 9 by omega) (by decide)) hl hd
        have ec : upd (fX1_beNew_P P (N 1).toNatClampNeg a d) 1 (fX1_beNew_P P (N 1).toNatClampNeg a d 1 + 1) = hsS P (N 1).toNatClampNeg a d := by
          unfold fX1_beNew_P hsS
          simp (disch := omega) only [pk_un]
        have ev : hsS P (N 1).toNatClampNeg a d 1 - 1 = nI (N 1).toNatClampNeg := by
          rw [r1.hd (show 1 < 12 by decide), r3, nI_pred]
        rw [ec, hsS_ref N a d rfl]
        refine Or.inl ⟨trivial, ?_, ?_, r1, r2.le (by omega)⟩
        · rw [ev]; exact xof_n2 (b := 8) (nn.of rfl (by omega) (by decide)) (by decide)
        · rw [ev, r3, nI_pred]
  · rw [if_neg h1, if_neg h1]
    simp only [h1, not_false_eq_true, if_true]
    exact Or.inr ⟨by decide, by decide, rfl, trivial, trivial⟩
