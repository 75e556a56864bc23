/-! MATH: the reader: a part. -/
theorem tk_gen {X G A T : Nat → Int32} (h : tx X G A T) (q : ¬ A 2 ≤ A 3) (b : Int32) {d : Nat} (hd : d < 10) (hx : T (A 3).toNatClampNeg - 48 = nI d) : (btx b d = false → fX4_takeDigit_v X G b = -1 ∧ fX4_takeDigit_X X G b = X) ∧ (btx b d = true → fX4_takeDigit_v X G b = nI d ∧ fX4_takeDigit_X X G b = up2X X) := by
  have w : ¬ fX6_within_v (nI d) 0 9 = 0 := by
    rw [wi_09]
    exact fun z => z ⟨nI_pos' (by omega), nI_le (b := 9) (by omega) (by decide)⟩
  unfold fX4_takeDigit_v fX4_takeDigit_X
  rw [h.sg, if_neg q, hx, if_neg w, if_neg w]
  refine ⟨fun z => ?_, fun z => ?_⟩
  · have y := (bt_dig b hd).mpr z
    rw [if_pos y, if_pos y]
    exact ⟨rfl, rfl⟩
  · have y : ¬ ((b >>> (nI d &&& 31)) &&& 1 = 0) := fun e => by rw [(bt_dig b hd).mp e] at z; exact absurd z (by decide)
    rw [if_neg y, if_neg y]
    exact ⟨rfl, rfl⟩
theorem tk_out {X G A T : Nat → Int32} (h : tx X G A T) (b : Int32) (hn : ¬ (¬ A 2 ≤ A 3 ∧ 0 ≤ T (A 3).toNatClampNeg - 48 ∧ T (A 3).toNatClampNeg - 48 ≤ 9)) : fX4_takeDigit_v X G b = -1 ∧ fX4_takeDigit_X X G b = X := by
  unfold fX4_takeDigit_v fX4_takeDigit_X
  rw [h.sg]
  by_cases q : A 2 ≤ A 3
  · rw [if_pos q, if_pos (by decide), if_pos (by decide)]
    exact ⟨rfl, rfl⟩
  · have w : fX6_within_v (T (A 3).toNatClampNeg - 48) 0 9 = 0 := wi_09.mpr (fun z => hn ⟨q, z⟩)
    rw [if_neg q, if_pos w, if_pos w]
    exact ⟨rfl, rfl⟩
theorem dig_nn {A T : Nat → Int32} {lo hi : Int32} (h : digC A T lo hi) : nn 9 (T (A 3).toNatClampNeg - 48) := by
  refine (wi_nn (lo := 0) (hi := 9) ?_ (by decide) (by decide)).1
  exact fun z => wi_09.mp z h.2.1
/-- a digit below a count -/
theorem dig_lt {A T : Nat → Int32} {m : Int32} {n : Nat} (hm : m = nI n) (h1 : 1 ≤ n) (hn : n ≤ 10) (h : digC A T 0 (m - 1)) : (T (A 3).toNatClampNeg - 48).toNatClampNeg < n := by
  obtain ⟨d, hd, e, e2⟩ := (dig_nn h).ex
  have h3 := h.2.2.2
  rw [e2]
  rw [e, hm, show nI n - 1 = nI (n - 1) from pk_sub (b := 1) h1, nI_leI (by omega) (by omega)] at h3
  omega
/-- how many are told -/
theorem fil_cnt {X Q D : Nat → Int32} (h : rq X Q D) : ∀ k, k ≤ 10 → ∃ m, m ≤ k ∧ fX7_filling_A1 D k = nI m ∧ (m = k ↔ ∀ i, i < k → btx (X 3) i = true) ∧ (m = 0 ↔ ∀ i, i < k → btx (X 3) i = false)
  | 0, _ => ⟨0, Nat.le_refl _, rfl, ⟨fun _ i hi => absurd hi (Nat.not_lt_zero _), fun _ => rfl⟩, ⟨fun _ i hi => absurd hi (Nat.not_lt_zero _), fun _ => rfl⟩⟩
  | k + 1, hk => by
    obtain ⟨m, hm, e, i1, i2⟩ := fil_cnt h k (by omega)
    have f := h.2.2.1 k (by omega)
    have es : fX7_filling_A1 D (k + 1) = fX7_filling_A1 D k + D (12 + 7 * k + 5) := rfl
    rw [es, e, f]
    by_cases q : btx (X 3) k = true
    · rw [if_pos q]
      refine ⟨m + 1, by omega, nI_1 m, ⟨fun z i hi => ?_, fun z => ?_⟩, ⟨fun z => by omega, fun z => ?_⟩⟩
      · by_cases y : i = k
        · rw [y]; exact q
        · exact i1.mp (by omega) i (by omega)
      · have := i1.mpr (fun i hi => z i (by omega))
        omega
      · rw [z k (by omega)] at q; exact absurd q (by decide)
    · rw [if_neg q]
      refine ⟨m, by omega, Int32.add_zero _, ⟨fun z => by omega, fun z => absurd (z k (by omega)) q⟩, ⟨fun z i hi => ?_, fun z => i2.mpr (fun i hi => z i (by omega))⟩⟩
      by_cases y : i = k
      · rw [y]; exact Bool.eq_false_iff.mpr q
      · exact i2.mp z i (by omega)
theorem fil_iff {X Q D : Nat → Int32} (h : rq X Q D) : (D 0 ≤ qX7_filling_v D ↔ ∀ i, i < (D 0).toNatClampNeg → btx (X 3) i = true) ∧ (qX7_filling_v D = 0 ↔ ∀ i, i < (D 0).toNatClampNeg → btx (X 3) i = false) := by
  have s10 := h.2.1.s10
  have s10' := s10.2
  obtain ⟨m, hm, e, i1, i2⟩ := fil_cnt h (D 0).toNatClampNeg s10'
  have e2 : qX7_filling_v D = nI m := e
  rw [e2]
  refine ⟨?_, ?_⟩
  · rw [← i1]
    constructor
    · intro z
      rw [s10.1, nI_leI (by omega) (by omega)] at z
      omega
    · intro z
      rw [z, ← s10.1]
      exact Int32.le_refl _
  · rw [← i2]
    constructor
    · intro z
      exact (nI_eq (a := m) (b := 0) (by omega) (by omega)).mp z
    · intro z
      rw [z]; rfl
/-- the bits that are free -/
theorem unt_bit {X Q D : Nat → Int32} (h : rq X Q D) {d : Nat} (hd : d < 32) : btx (fX4_below_v (Q 0) &&& (X 3 ^^^ (-1))) d = (decide (d < (D 0).toNatClampNeg) && !btx (X 3) d) := by
  rw [bt_and, bt_not _ hd, h.hd (show 0 < 12 by omega), h.2.1.s10.1, bt_below (by have := h.2.1.s10.2; exact this) hd]
  rw [nI_clamp (by have := h.2.1.s10.2; omega)]
theorem unt_0 {X Q D : Nat → Int32} (h : rq X Q D) : (fX4_below_v (Q 0) &&& (X 3 ^^^ (-1)) = 0) ↔ D 0 ≤ qX7_filling_v D := by
  rw [(fil_iff h).1]
  constructor
  · intro z i hi
    have s10 := h.2.1.s10.2
    have := unt_bit h (d := i) (by omega)
    rw [z, bt_0, decide_eq_true hi, Bool.true_and] at this
    cases hb : btx (X 3) i with
    | true => rfl
    | false => rw [hb] at this; exact absurd this (by decide)
  · intro z
    refine bt_ext (fun d hd => ?_)
    rw [unt_bit h hd]
    by_cases q : d < (D 0).toNatClampNeg
    · rw [z d q]; simp
    · rw [decide_eq_false q]; rfl
/-- a part: taken by both, or refused by both at the same sign -/
def PT (G T : Nat → Int32) (cv : Int32) (cX cQ : Nat → Int32) (rv : Int32) (rA rD : Nat → Int32) : Prop := (cv = 0 ∧ rv = 0 ∧ cX 2 = rA 3) ∨ (¬ cv = 0 ∧ ¬ rv = 0 ∧ tx cX G rA T ∧ rq cX cQ rD)
theorem sgn {c : Nat} (h : c < 256) : ¬ nI c = -1 := fun e => nI_pos (n := c) (by omega) (by rw [e]; decide)
theorem pt_house {X G A T Q D : Nat → Int32} (h : tx X G A T) (r : rq X Q D) (h8 : ¬ 8 ≤ D 1) : PT G T (fX4_takeHouse_v X G Q) (fX4_takeHouse_X X G Q) (fX4_takeHouse_Q X G Q) (qX7_readHouse_v A T D) (qX7_readHouse_A A T D) (qX7_readHouse_D A T D) := by
  have s10 := r.2.1.s10
  have e0 : Q 0 = D 0 := r.hd (by omega)
  have al := alw_below (n := (D 0).toNatClampNeg) r.2.1.2.1 s10.2
  rw [← s10.1] at al
  unfold PT fX4_takeHouse_v fX4_takeHouse_X fX4_takeHouse_Q
  rw [e0]
  rcases tk_digit h al with ⟨c, ev, eX⟩ | ⟨c, ev, eX⟩
  · rw [ev, eX]
    have dn := dig_nn c
    have dl := dig_lt s10.1 r.2.1.2.1 s10.2 c
    have d1 : ¬ T (A 3).toNatClampNeg - 48 = -1 := fun e => dn.not_neg (by decide) (by rw [e]; decide)
    rw [if_neg d1, if_neg d1, if_neg d1]
    have h' := h.up c.1
    rcases tk_digit h' alw_10 with ⟨c2, ev2, eX2⟩ | ⟨c2, ev2, eX2⟩
    · rw [ev2, eX2]
      have dn2 := dig_nn c2
      have d2 : ¬ T (up3 A 3).toNatClampNeg - 48 = -1 := fun e => dn2.not_neg (by decide) (by rw [e]; decide)
      rw [if_neg d2, if_neg d2, if_neg d2]
      obtain ⟨b1, b2⟩ := r.house h8 (a := T (A 3).toNatClampNeg - 48) (d := T (up3 A 3).toNatClampNeg - 48) dn dl dn2
      rw [if_neg b1, if_neg b1, if_neg b1]
      obtain ⟨y1, y2, y3⟩ := rh_y c c2
      rw [y1, y2, y3, (digit_y c).1, (digit_y c2).1]
      exact Or.inr ⟨by decide, by decide, h'.up c2.1, b2.X (by rw [up2X_3, up2X_3])⟩
    · rw [ev2, eX2]
      obtain ⟨y1, y2, y3⟩ := rh_n2 c c2
      rw [y1, y2, if_pos rfl, if_pos rfl]
      exact Or.inl ⟨rfl, rfl, h'.2.1⟩
  · rw [ev, eX]
    obtain ⟨y1, y2, y3⟩ := rh_n1 c
    rw [y1, y2, if_pos rfl, if_pos rfl]
    exact Or.inl ⟨rfl, rfl, h.2.1⟩
theorem pt_wagon {X G A T Q D : Nat → Int32} (h : tx X G A T) (r : rq X Q D) (h3 : ¬ 3 ≤ D 2) : PT G T (if fX2_bringWagon_v Q (fX4_takeDigit_v X G (fX4_below_v (Q 0))) < 0 then 0 else 1) (fX4_takeDigit_X X G (fX4_below_v (Q 0))) (fX2_bringWagon_P Q (fX4_takeDigit_v X G (fX4_below_v (Q 0)))) (qX7_readWagon_v A T D) (qX7_readWagon_A A T D) (qX7_readWagon_D A T D) := by
  have s10 := r.2.1.s10
  have e0 : Q 0 = D 0 := r.hd (by omega)
  have al := alw_below (n := (D 0).toNatClampNeg) r.2.1.2.1 s10.2
  rw [← s10.1] at al
  unfold PT
  rw [e0]
  rcases tk_digit h al with ⟨c, ev, eX⟩ | ⟨c, ev, eX⟩
  · rw [ev, eX]
    have dn := dig_nn c
    have dl := dig_lt s10.1 r.2.1.2.1 s10.2 c
    obtain ⟨b1, b2⟩ := r.wagon h3 (a := T (A 3).toNatClampNeg - 48) dn dl
    obtain ⟨y1, y2, y3⟩ := rw_y c
    rw [if_neg b1, y1, y2, y3, (digit_y c).1]
    exact Or.inr ⟨by decide, by decide, h.up c.1, b2.X (up2X_3 X)⟩
  · rw [ev, eX]
    obtain ⟨y1, y2, y3⟩ := rw_n c
    have b1 : fX2_bringWagon_v Q (-1) < 0 := by
      unfold fX2_bringWagon_v
      rw [if_neg (fun z => i32_le_nlt z.1 (by decide))]
      decide
    rw [if_pos b1, y1, y2]
    exact Or.inl ⟨rfl, rfl, h.2.1⟩
theorem rq.fill {X Q D : Nat → Int32} (r : rq X Q D) {d : Nat} (hd : d < (D 0).toNatClampNeg) : rq (upd (up2X X) 3 (up2X X 3 ||| (1 <<< (nI d &&& 31)))) Q (upd D (12 + 7 * d + 5) 1) := by
  have s10 := r.2.1.s10.2
  have z0 : upd D (12 + 7 * d + 5) 1 0 = D 0 := pk_un (by omega)
  have eb : ∀ i, i < 32 → btx (upd (up2X X) 3 (up2X X 3 ||| (1 <<< (nI d &&& 31))) 3) i = (btx (X 3) i || decide (i = d)) := by
    intro i hi
    rw [pk_us, bt_or, bt_shl (by omega) hi, up2X_3]
  refine ⟨?_, r.2.1.us (i := d) (by omega) 5 1 (by omega) rfl (nn.lit 1 (by decide)), fun i hi => ?_, fun i hi hb => ?_, r.2.2.2.2⟩
  · have e : fx Q (upd D (12 + 7 * d + 5) 1) = upd (fx Q D) (12 + 7 * d + 5) 1 := by
      funext j
      by_cases q : j = 12 + 7 * d + 5
      · subst q
        rw [fx_y _ _ (by omega), pk_us, pk_us]
      · rw [pk_un q]
        by_cases z : 12 ≤ j ∧ j < 82 ∧ (j - 12) % 7 = 5
        · rw [fx_y _ _ z, fx_y _ _ z, pk_un q]
        · rw [fx_n _ _ z, fx_n _ _ z]
    rw [e]
    exact r.1.up (by omega) rfl
  · rw [eb i (by omega)]
    by_cases q : i = d
    · subst q
      rw [pk_us]; simp
    · rw [pk_un (by omega), r.2.2.1 i hi]
      simp [q]
  · rw [z0]
    rw [eb i hi] at hb
    by_cases q : i = d
    · rw [q]; exact hd
    · refine r.2.2.2.1 i hi ?_
      simpa [q] using hb
theorem pt_fill {X G A T Q D : Nat → Int32} (h : tx X G A T) (r : rq X Q D) : PT G T (if fX4_takeFillingPlace_v X G (fX4_below_v (Q 0) &&& (X 3 ^^^ (-1))) = 0 then 0 else 1) (fX4_takeFillingPlace_X X G (fX4_below_v (Q 0) &&& (X 3 ^^^ (-1)))) Q (if qX7_readFilling_v A T D = 0 then 0 else 1) (qX7_readFilling_A A T D) (qX7_readFilling_D A T D) := by
  have s10 := r.2.1.s10
  have s10' := s10.2
  have s1 := r.2.1.2.1
  unfold PT fX4_takeFillingPlace_v fX4_takeFillingPlace_X
  have fail : fX4_takeDigit_v X G (fX4_below_v (Q 0) &&& (X 3 ^^^ (-1))) = -1 ∧ fX4_takeDigit_X X G (fX4_below_v (Q 0) &&& (X 3 ^^^ (-1))) = X → qX7_readFilling_v A T D = 0 ∧ qX7_readFilling_A A T D = A ∧ qX7_readFilling_D A T D = D → ((if (if fX4_takeDigit_v X G (fX4_below_v (Q 0) &&& (X 3 ^^^ (-1))) = -1 then (0 : Int32) else 1) = 0 then (0 : Int32) else 1) = 0 ∧ (if qX7_readFilling_v A T D = 0 then (0 : Int32) else 1) = 0 ∧ (if fX4_takeDigit_v X G (fX4_below_v (Q 0) &&& (X 3 ^^^ (-1))) = -1 then fX4_takeDigit_X X G (fX4_below_v (Q 0) &&& (X 3 ^^^ (-1))) else upd (fX4_takeDigit_X X G (fX4_below_v (Q 0) &&& (X 3 ^^^ (-1)))) 3 (fX4_takeDigit_X X G (fX4_below_v (Q 0) &&& (X 3 ^^^ (-1))) 3 ||| 1 <<< (fX4_takeDigit_v X G (fX4_below_v (Q 0) &&& (X 3 ^^^ (-1))) &&& 31))) 2 = qX7_readFilling_A A T D 3) := by
    intro a b
    rw [a.1, a.2, b.1, b.2.1, if_pos rfl, if_pos rfl, if_pos rfl]
    exact ⟨rfl, rfl, h.2.1⟩
  by_cases c : digC A T 0 (D 0 - 1)
  · obtain ⟨d, hd, ed, ec⟩ := (dig_nn c).ex
    have dl := dig_lt s10.1 s1 s10' c
    rw [ec] at dl
    have gen := tk_gen h c.1 (fX4_below_v (Q 0) &&& (X 3 ^^^ (-1))) (d := d) (by omega) ed
    have ub := unt_bit r (d := d) (by omega)
    rw [decide_eq_true dl, Bool.true_and] at ub
    have ei : rfi A T D = 12 + 7 * d + 5 := by
      unfold rfi
      rw [(digit_y c).1, ec]
    have fl := r.2.2.1 d (by omega)
    by_cases q : btx (X 3) d = true
    · rw [q] at ub
      rw [if_pos q] at fl
      exact Or.inl (fail (gen.1 ub) (rf_m c (by rw [ei]; exact fl)))
    · rw [Bool.eq_false_iff.mpr q] at ub
      rw [if_neg q] at fl
      obtain ⟨g1, g2⟩ := gen.2 ub
      obtain ⟨y1, y2, y3⟩ := rf_y c (by rw [ei, fl]; decide)
      have d1 : ¬ nI d = -1 := fun e => nI_pos (n := d) (by omega) (by rw [e]; decide)
      rw [g1, g2, y1, y2, y3, ei, if_neg d1, if_neg d1]
      have t := h.up c.1
      exact Or.inr ⟨by decide, by decide, ⟨(pk_un (by decide)).trans t.1, (pk_un (by decide)).trans t.2.1, t.2.2⟩, r.fill dl⟩
  · refine Or.inl (fail ?_ (rf_n c))
    by_cases z : ¬ A 2 ≤ A 3 ∧ 0 ≤ T (A 3).toNatClampNeg - 48 ∧ T (A 3).toNatClampNeg - 48 ≤ 9
    · obtain ⟨hx, -⟩ := wi_nn (b := T (A 3).toNatClampNeg - 48) (lo := 0) (hi := 9) (fun y => wi_09.mp y z.2) (by decide) (by decide)
      obtain ⟨d, hd, ed, ec⟩ := hx.ex
      refine (tk_gen h z.1 _ (d := d) (by omega) ed).1 ?_
      rw [unt_bit r (by omega)]
      by_cases y : d < (D 0).toNatClampNeg
      · refine absurd ⟨z.1, z.2, z.2.1, ?_⟩ c
        rw [ed, s10.1, show nI (D 0).toNatClampNeg - 1 = nI ((D 0).toNatClampNeg - 1) from pk_sub (b := 1) s1]
        exact nI_le (by omega) (by omega)
      · rw [decide_eq_false y]; rfl
    · exact tk_out h _ z
theorem pt_part {X G A T Q D : Nat → Int32} (h : tx X G A T) (r : rq X Q D) : PT G T (fX4_takePart_v X G Q) (fX4_takePart_X X G Q) (fX4_takePart_Q X G Q) (qX7_readPart_v A T D) (qX7_readPart_A A T D) (qX7_readPart_D A T D) := by
  have e1 : Q 1 = D 1 := r.hd (by omega)
  have e2 : Q 2 = D 2 := r.hd (by omega)
  have nz : ¬ (1 : Int32) = 0 := by decide
  by_cases hh : ¬ 8 ≤ D 1 ∧ eatC A T 104
  · rcases tk_sign h (a := 104) (sgn (c := 104) (by decide)) with ⟨c, ev, eX⟩ | ⟨c, -, -⟩
    · obtain ⟨a1, a2, a3⟩ := cp_h (X := X) (G := G) (Q := Q) (by rw [e1]; exact hh.1) (by rw [ev]; exact nz)
      obtain ⟨b1, b2, b3⟩ := rp_h hh.1 hh.2
      rw [a1, a2, a3, b1, b2, b3, eX]
      have p := pt_house (h.up c.1) (r.X (up2X_3 X)) hh.1
      exact p
    · exact absurd hh.2 c
  · have hh' : ¬ (¬ 8 ≤ Q 1 ∧ ¬ fX4_takeSign_v X G 104 = 0) := by
      rintro ⟨z1, z2⟩
      rw [e1] at z1
      rcases tk_sign h (a := 104) (sgn (c := 104) (by decide)) with ⟨c, -, -⟩ | ⟨-, ev, -⟩
      · exact hh ⟨z1, c⟩
      · exact z2 ev
    by_cases hw : ¬ 3 ≤ D 2 ∧ eatC A T 119
    · rcases tk_sign h (a := 119) (sgn (c := 119) (by decide)) with ⟨c, ev, eX⟩ | ⟨c, -, -⟩
      · obtain ⟨a1, a2, a3⟩ := cp_w (X := X) (G := G) (Q := Q) hh' (by rw [e2]; exact hw.1) (by rw [ev]; exact nz)
        obtain ⟨b1, b2, b3⟩ := rp_w hh hw.1 hw.2
        rw [a1, a2, a3, b1, b2, b3, eX]
        exact pt_wagon (h.up c.1) (r.X (up2X_3 X)) hw.1
      · exact absurd hw.2 c
    · have hw' : ¬ (¬ 3 ≤ Q 2 ∧ ¬ fX4_takeSign_v X G 119 = 0) := by
        rintro ⟨z1, z2⟩
        rw [e2] at z1
        rcases tk_sign h (a := 119) (sgn (c := 119) (by decide)) with ⟨c, -, -⟩ | ⟨-, ev, -⟩
        · exact hw ⟨z1, c⟩
        · exact z2 ev
      obtain ⟨a1, a2, a3⟩ := cp_f (X := X) (G := G) (Q := Q) hh' hw'
      rw [a1, a2, a3]
      by_cases hf : ¬ D 0 ≤ qX7_filling_v D ∧ eatC A T 102
      · rcases tk_sign h (a := 102) (sgn (c := 102) (by decide)) with ⟨c, ev, eX⟩ | ⟨c, -, -⟩
        · obtain ⟨b1, b2, b3⟩ := rp_f hh hw hf.1 hf.2
          have u : ¬ fX4_below_v (Q 0) &&& (X 3 ^^^ (-1)) = 0 := fun z => hf.1 ((unt_0 r).mp z)
          have s1 : ¬ fX4_takeSign_v X G 102 = 0 := by rw [ev]; exact nz
          rw [b1, b2, b3, if_neg u, if_neg s1, if_neg u, if_neg s1, eX]
          have p := pt_fill (h.up c.1) (r.X (X' := up2X X) (up2X_3 X))
          rw [up2X_3] at p
          exact p
        · exact absurd hf.2 c
      · obtain ⟨b1, b2, b3⟩ := rp_n hh hw hf
        rw [b1, b2, b3]
        refine Or.inl ?_
        by_cases u : fX4_below_v (Q 0) &&& (X 3 ^^^ (-1)) = 0
        · rw [if_pos u, if_pos u]
          exact ⟨rfl, rfl, h.2.1⟩
        · have s1 : fX4_takeSign_v X G 102 = 0 := by
            rcases tk_sign h (a := 102) (sgn (c := 102) (by decide)) with ⟨c, -, -⟩ | ⟨-, ev, -⟩
            · exact absurd ⟨fun z => u ((unt_0 r).mpr z), c⟩ hf
            · exact ev
          rw [if_neg u, if_pos s1, if_neg u, if_pos s1]
          exact ⟨rfl, rfl, h.2.1⟩
