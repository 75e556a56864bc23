/-! MATH: the reader: parts. -/
def fg (j : Nat) : Bool := Nat.ble 12 j && (Nat.blt j 82 && ((j - 12) % 7 == 5))
theorem fg_iff (j : Nat) : fg j = true ↔ 12 ≤ j ∧ j < 82 ∧ (j - 12) % 7 = 5 := by
  unfold fg
  simp [Nat.blt_eq]
/-- the class's page with the reference's flags -/
def fx (Q D : Nat → Int32) : Nat → Int32 := fun j => if fg j then D j else Q j
theorem fx_n (Q D : Nat → Int32) {j : Nat} (h : ¬ (12 ≤ j ∧ j < 82 ∧ (j - 12) % 7 = 5)) : fx Q D j = Q j := if_neg (fun z => h ((fg_iff j).mp z))
theorem fx_y (Q D : Nat → Int32) {j : Nat} (h : 12 ≤ j ∧ j < 82 ∧ (j - 12) % 7 = 5) : fx Q D j = D j := if_pos ((fg_iff j).mpr h)
theorem fx_up (Q D : Nat → Int32) {k : Nat} (x y : Int32) (h : ¬ (12 ≤ k ∧ k < 82 ∧ (k - 12) % 7 = 5)) : fx (upd Q k x) (upd D k y) = upd (fx Q D) k x := by
  funext j
  by_cases q : j = k
  · subst q
    rw [fx_n _ _ h, pk_us, pk_us]
  · rw [pk_un q]
    by_cases z : 12 ≤ j ∧ j < 82 ∧ (j - 12) % 7 = 5
    · rw [fx_y _ _ z, fx_y _ _ z, pk_un q]
    · rw [fx_n _ _ z, fx_n _ _ z, pk_un q]
/-- while a road is read: the pages, what is told -/
def rq (X Q D : Nat → Int32) : Prop := Rl (fx Q D) D ∧ PI 0 D ∧ (∀ i, i < 10 → D (12 + 7 * i + 5) = if btx (X 3) i then 1 else 0) ∧ (∀ i, i < 32 → btx (X 3) i = true → i < (D 0).toNatClampNeg) ∧ (∀ i, i < 10 → Q (12 + 7 * i + 5) = if i = 0 then 1 else 0)
theorem rq.hd {X Q D : Nat → Int32} (h : rq X Q D) {j : Nat} (hj : j < 12) : Q j = D j := by
  have := h.1.hd hj
  rwa [fx_n Q D (by omega)] at this
theorem rq.X {X X' Q D : Nat → Int32} (h : rq X Q D) (e : X' 3 = X 3) : rq X' Q D := ⟨h.1, h.2.1, fun i hi => by rw [e]; exact h.2.2.1 i hi, fun i hi => by rw [e]; exact h.2.2.2.1 i hi, h.2.2.2.2⟩
theorem up2X_3 (X : Nat → Int32) : up2X X 3 = X 3 := pk_un (by decide)
theorem up2X_2 (X : Nat → Int32) : up2X X 2 = X 2 + 1 := pk_us
theorem rq.house {X Q D : Nat → Int32} (h : rq X Q D) (h8 : ¬ 8 ≤ D 1) {a d : Int32} (ha : nn 9 a) (hl : a.toNatClampNeg < (D 0).toNatClampNeg) (hd : nn 9 d) : ¬ fX2_buildHouse_v Q a d < 0 ∧ rq X (fX2_buildHouse_P Q a d) (fX7_houseOn_P D a d) := by
  obtain ⟨h1, h2, h3, h4, h5⟩ := h
  have s10 := h2.s10.2
  have e0 : Q 0 = D 0 := rq.hd ⟨h1, h2, h3, h4, h5⟩ (by omega)
  have e1 : Q 1 = D 1 := rq.hd ⟨h1, h2, h3, h4, h5⟩ (by omega)
  have n8 : (D 1).toNatClampNeg < 8 := by
    rcases full_iff h2.h8 (by decide) with ⟨q, -⟩ | ⟨-, -, q⟩
    · exact absurd (by rw [q]; decide) h8
    · exact q
  have ok : okI a (Q 0) 10 := by
    rw [ha.1, e0]
    exact okI_nI (b := 10) h2.s10.1 rfl hl s10 (by decide)
  have wi : ¬ fX6_within_v d 0 9 = 0 := by
    have := hd.2
    rw [wi_09]
    refine fun z => z ⟨i32_nlt (hd.not_neg (by decide)), ?_⟩
    rw [hd.1]
    exact nI_le (b := 9) this (by decide)
  have lt8 : D 1 < 8 := i32_nle h8
  have eP : fX2_buildHouse_P Q a d = hsS Q (D 1).toNatClampNeg a d := by
    unfold fX2_buildHouse_P fX1_beNew_P hsS
    rw [if_pos ok, if_neg wi, e1, if_neg (h2.h8.not_neg (by decide)), if_pos lt8]
    simp (disch := omega) only [pk_un, e1]
  have eV : fX2_buildHouse_v Q a d = hsS Q (D 1).toNatClampNeg a d 1 - 1 := by
    unfold fX2_buildHouse_v fX1_beNew_P hsS
    rw [if_pos ok, if_neg wi, e1, if_neg (h2.h8.not_neg (by decide)), if_pos lt8]
    simp (disch := omega) only [pk_un, pk_us, e1]
  obtain ⟨r1, r2, r3⟩ := hsS_Rl h1 h2 rfl n8 ha hl hd
  have ef : fx (hsS Q (D 1).toNatClampNeg a d) (hsS D (D 1).toNatClampNeg a d) = hsS (fx Q D) (D 1).toNatClampNeg a d := by
    generalize (D 1).toNatClampNeg = n at n8
    unfold hsS
    rw [fx_up _ _ _ _ (by omega), fx_up _ _ _ _ (by omega), fx_up _ _ _ _ (by omega), fx_up _ _ _ _ (by omega), fx_up _ _ _ _ (by omega), fx_up _ _ _ _ (by omega), fx_n Q D (j := 1) (by omega)]
  have z0 : hsS D (D 1).toNatClampNeg a d 0 = D 0 := by unfold hsS; simp (disch := omega) only [pk_un]
  refine ⟨?_, ?_⟩
  · rw [eV, show hsS Q (D 1).toNatClampNeg a d 1 = hsS D (D 1).toNatClampNeg a d 1 by unfold hsS; rw [pk_us, pk_us, e1], r3, nI_pred]
    exact nI_pos (by omega)
  · rw [eP, hsS_ref D a d rfl]
    refine ⟨by rw [ef]; exact r1, r2, fun i hi => ?_, fun i hi hb => ?_, fun i hi => ?_⟩
    · rw [← h3 i hi]
      unfold hsS; simp (disch := omega) only [pk_un]
    · rw [z0]; exact h4 i hi hb
    · rw [← h5 i hi]
      unfold hsS; simp (disch := omega) only [pk_un]
theorem rq.wagon {X Q D : Nat → Int32} (h : rq X Q D) (h3' : ¬ 3 ≤ D 2) {a : Int32} (ha : nn 9 a) (hl : a.toNatClampNeg < (D 0).toNatClampNeg) : ¬ fX2_bringWagon_v Q a < 0 ∧ rq X (fX2_bringWagon_P Q a) (fX7_wagonOn_P D a) := by
  obtain ⟨h1, h2, h3, h4, h5⟩ := h
  have s10 := h2.s10.2
  have e0 : Q 0 = D 0 := rq.hd ⟨h1, h2, h3, h4, h5⟩ (by omega)
  have e2 : Q 2 = D 2 := rq.hd ⟨h1, h2, h3, h4, h5⟩ (by omega)
  have n3 : (D 2).toNatClampNeg < 3 := by
    rcases full_iff h2.w3 (by decide) with ⟨q, -⟩ | ⟨-, -, q⟩
    · exact absurd (by rw [q]; decide) h3'
    · exact q
  have ok : okI a (Q 0) 10 := by
    rw [ha.1, e0]
    exact okI_nI (b := 10) h2.s10.1 rfl hl s10 (by decide)
  have lt3 : D 2 < 3 := i32_nle h3'
  have eP : fX2_bringWagon_P Q a = wgS Q (D 2).toNatClampNeg a := by
    unfold fX2_bringWagon_P fX5_beNew_P wgS
    rw [if_pos ok, e2, if_neg (h2.w3.not_neg (by decide)), if_pos lt3]
    simp (disch := omega) only [pk_un, e2]
  have eV : fX2_bringWagon_v Q a = wgS Q (D 2).toNatClampNeg a 2 - 1 := by
    unfold fX2_bringWagon_v fX5_beNew_P wgS
    rw [if_pos ok, e2, if_neg (h2.w3.not_neg (by decide)), if_pos lt3]
    simp (disch := omega) only [pk_un, pk_us, e2]
  obtain ⟨r1, r2, r3⟩ := wgS_Rl h1 h2 rfl n3 ha hl
  have ef : fx (wgS Q (D 2).toNatClampNeg a) (wgS D (D 2).toNatClampNeg a) = wgS (fx Q D) (D 2).toNatClampNeg a := by
    generalize (D 2).toNatClampNeg = n at n3
    unfold wgS
    rw [fx_up _ _ _ _ (by omega), fx_up _ _ _ _ (by omega), fx_up _ _ _ _ (by omega), fx_up _ _ _ _ (by omega), fx_n Q D (j := 2) (by omega)]
  have z0 : wgS D (D 2).toNatClampNeg a 0 = D 0 := by unfold wgS; simp (disch := omega) only [pk_un]
  refine ⟨?_, ?_⟩
  · rw [eV, show wgS Q (D 2).toNatClampNeg a 2 = wgS D (D 2).toNatClampNeg a 2 by unfold wgS; rw [pk_us, pk_us, e2], r3, nI_pred]
    exact nI_pos (by omega)
  · rw [eP, wgS_ref D a rfl]
    refine ⟨by rw [ef]; exact r1, r2, fun i hi => ?_, fun i hi hb => ?_, fun i hi => ?_⟩
    · rw [← h3 i hi]
      unfold wgS; simp (disch := omega) only [pk_un]
    · rw [z0]; exact h4 i hi hb
    · rw [← h5 i hi]
      unfold wgS; simp (disch := omega) only [pk_un]
theorem ts0 {X G : Nat → Int32} {a : Int32} (h : fX4_takeSign_v X G a = 0) : fX4_takeSign_X X G a = X := by
  unfold fX4_takeSign_v at h
  unfold fX4_takeSign_X
  by_cases q : fX4_signAt_v X G = a
  · rw [if_pos q] at h; exact absurd h (by decide)
  · exact if_neg q
theorem cp_h {X G Q : Nat → Int32} (h1 : ¬ 8 ≤ Q 1) (h2 : ¬ fX4_takeSign_v X G 104 = 0) : fX4_takePart_v X G Q = fX4_takeHouse_v (fX4_takeSign_X X G 104) G Q ∧ fX4_takePart_X X G Q = fX4_takeHouse_X (fX4_takeSign_X X G 104) G Q ∧ fX4_takePart_Q X G Q = fX4_takeHouse_Q (fX4_takeSign_X X G 104) G Q := by
  unfold fX4_takePart_v fX4_takePart_X fX4_takePart_Q
  rw [if_neg h1, if_neg h2, if_neg h1, if_neg h2, if_neg h1, if_neg h2]
  exact ⟨rfl, rfl, rfl⟩
theorem cp_w {X G Q : Nat → Int32} (h : ¬ (¬ 8 ≤ Q 1 ∧ ¬ fX4_takeSign_v X G 104 = 0)) (h1 : ¬ 3 ≤ Q 2) (h2 : ¬ fX4_takeSign_v X G 119 = 0) : fX4_takePart_v X G Q = (if fX2_bringWagon_v Q (fX4_takeDigit_v (fX4_takeSign_X X G 119) G (fX4_below_v (Q 0))) < 0 then 0 else 1) ∧ fX4_takePart_X X G Q = fX4_takeDigit_X (fX4_takeSign_X X G 119) G (fX4_below_v (Q 0)) ∧ fX4_takePart_Q X G Q = fX2_bringWagon_P Q (fX4_takeDigit_v (fX4_takeSign_X X G 119) G (fX4_below_v (Q 0))) := by
  unfold fX4_takePart_v fX4_takePart_X fX4_takePart_Q
  by_cases q : 8 ≤ Q 1
  · simp only [if_pos q, if_neg h1, if_neg h2, ite_self]
    exact ⟨trivial, trivial, trivial⟩
  · have t : fX4_takeSign_v X G 104 = 0 := Classical.not_not.mp (fun z => h ⟨q, z⟩)
    simp only [if_neg q, if_pos t, ts0 t, if_neg h1, if_neg h2, ite_self]
    exact ⟨trivial, trivial, trivial⟩
theorem cp_f {X G Q : Nat → Int32} (h : ¬ (¬ 8 ≤ Q 1 ∧ ¬ fX4_takeSign_v X G 104 = 0)) (h' : ¬ (¬ 3 ≤ Q 2 ∧ ¬ fX4_takeSign_v X G 119 = 0)) : fX4_takePart_v X G Q = (if fX4_below_v (Q 0) &&& (X 3 ^^^ (-1)) = 0 then 0 else if fX4_takeSign_v X G 102 = 0 then 0 else if fX4_takeFillingPlace_v (fX4_takeSign_X X G 102) G (fX4_below_v (Q 0) &&& (X 3 ^^^ (-1))) = 0 then 0 else 1) ∧ fX4_takePart_X X G Q = (if fX4_below_v (Q 0) &&& (X 3 ^^^ (-1)) = 0 then X else if fX4_takeSign_v X G 102 = 0 then X else fX4_takeFillingPlace_X (fX4_takeSign_X X G 102) G (fX4_below_v (Q 0) &&& (X 3 ^^^ (-1)))) ∧ fX4_takePart_Q X G Q = Q := by
  have key : (if fX4_below_v (Q 0) &&& (X 3 ^^^ (-1)) = 0 then X else if fX4_takeSign_v X G 102 = 0 then fX4_takeSign_X X G 102 else fX4_takeFillingPlace_X (fX4_takeSign_X X G 102) G (fX4_below_v (Q 0) &&& (X 3 ^^^ (-1)))) = (if fX4_below_v (Q 0) &&& (X 3 ^^^ (-1)) = 0 then X else if fX4_takeSign_v X G 102 = 0 then X else fX4_takeFillingPlace_X (fX4_takeSign_X X G 102) G (fX4_below_v (Q 0) &&& (X 3 ^^^ (-1)))) := by
    by_cases z : fX4_takeSign_v X G 102 = 0
    · rw [ts0 z]
    · rw [if_neg z, if_neg z]
  rw [← key]
  unfold fX4_takePart_v fX4_takePart_X fX4_takePart_Q
  by_cases q : 8 ≤ Q 1
  · by_cases w : 3 ≤ Q 2
    · simp only [if_pos q, if_pos w, ite_self]
      exact ⟨trivial, trivial, trivial⟩
    · have t : fX4_takeSign_v X G 119 = 0 := Classical.not_not.mp (fun z => h' ⟨w, z⟩)
      simp only [if_pos q, if_neg w, if_pos t, ts0 t, ite_self]
      exact ⟨trivial, trivial, trivial⟩
  · have t : fX4_takeSign_v X G 104 = 0 := Classical.not_not.mp (fun z => h ⟨q, z⟩)
    by_cases w : 3 ≤ Q 2
    · simp only [if_neg q, if_pos t, ts0 t, if_pos w, ite_self]
      exact ⟨trivial, trivial, trivial⟩
    · have t2 : fX4_takeSign_v X G 119 = 0 := Classical.not_not.mp (fun z => h' ⟨w, z⟩)
      simp only [if_neg q, if_pos t, ts0 t, if_neg w, if_pos t2, ts0 t2, ite_self]
      exact ⟨trivial, trivial, trivial⟩
