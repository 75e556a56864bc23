/-! MATH: the reader: a new road, its surfaces, its flags at the end. -/
theorem bn_out (Q : Nat → Int32) (k j : Nat) (h : ¬ sW k j) : fX2_beNew_S Q k j = Q j := by
  unfold fX2_beNew_S fX3_beNew_P
  simp (disch := omega) only [pk_un]
theorem bn_in (Q Q' : Nat → Int32) (k : Nat) (_ : ∀ j, j < 12 → Q j = Q' j) (_ : ∀ j, sW k j → Q j = Q' j) (j : Nat) (hj : sW k j) : fX2_beNew_S Q k j = fX2_beNew_S Q' k j := by
  unfold fX2_beNew_S fX3_beNew_P
  rcases sW_k hj with rfl | rfl | rfl | rfl | rfl | rfl | rfl <;> simp (disch := omega) only [pk_us, pk_un]
theorem bn_L (P : Nat → Int32) : lpT sW fX2_beNew_S (fX2_beNew_L P) P := lp sW_d sW_h (S := fX2_beNew_S) (L := fX2_beNew_L P) (P := P) rfl (fun _ => rfl) bn_out bn_in
theorem tell_at (a : Int32) (P : Nat → Int32) : ∀ k, (∀ i, i < k → fX2_tell_L a P k (12 + 7 * i + 5) = if ((a >>> (nI i &&& 31)) &&& 1) = 1 then 1 else 0) ∧ (∀ j, (∀ i, i < k → j ≠ 12 + 7 * i + 5) → fX2_tell_L a P k j = P j)
  | 0 => ⟨fun i hi => absurd hi (Nat.not_lt_zero _), fun _ _ => rfl⟩
  | k + 1 => by
    obtain ⟨h1, h2⟩ := tell_at a P k
    have e : fX2_tell_L a P (k + 1) = fX2_tell_S a (fX2_tell_L a P k) k := rfl
    rw [e]
    unfold fX2_tell_S
    refine ⟨fun i hi => ?_, fun j hj => ?_⟩
    · by_cases q : i = k
      · subst q
        by_cases z : ((a >>> (nI i &&& 31)) &&& 1) = 1
        · rw [if_pos z, if_pos z, pk_us]
        · rw [if_neg z, if_neg z, pk_us]
      · by_cases z : ((a >>> (nI k &&& 31)) &&& 1) = 1
        · rw [if_pos z, pk_un (by omega)]; exact h1 i (by omega)
        · rw [if_neg z, pk_un (by omega)]; exact h1 i (by omega)
    · have hk := hj k (by omega)
      by_cases z : ((a >>> (nI k &&& 31)) &&& 1) = 1
      · rw [if_pos z, pk_un hk]; exact h2 j (fun i hi => hj i (by omega))
      · rw [if_neg z, pk_un hk]; exact h2 j (fun i hi => hj i (by omega))
theorem bt_y (a : Int32) {d : Nat} (hd : d < 10) : (((a >>> (nI d &&& 31)) &&& 1) = 1) ↔ btx a d = true := by
  have h0 := bt_dig a hd
  obtain ⟨j, hj, e⟩ := pk_andE (a >>> (nI d &&& 31)) (m := 1) 1 (by decide)
  rw [e] at h0 ⊢
  rcases (show j = 0 ∨ j = 1 by omega) with rfl | rfl
  · rw [h0.mp rfl]; exact ⟨fun z => absurd z (by decide), fun z => absurd z (by decide)⟩
  · refine ⟨fun _ => ?_, fun _ => rfl⟩
    cases hb : btx a d with
    | true => rfl
    | false => exact absurd (h0.mpr hb) (by decide)
/-- the class's new road -/
theorem new_at (P : Nat → Int32) : (∀ j, j < 12 → fX2_beNew_P P j = if j = 0 then 4 else if j = 5 then 10 else if j = 6 then 5 else if j = 7 then 50 else if j = 8 then 40 else 0) ∧ (∀ i k, i < 10 → k < 7 → k ≠ 5 → fX2_beNew_P P (12 + 7 * i + k) = if k = 1 then 3 else 0) ∧ (∀ i, i < 10 → fX2_beNew_P P (12 + 7 * i + 5) = if i = 0 then 1 else 0) := by
  unfold fX2_beNew_P fX2_tellFillingPlaces_P
  refine ⟨fun j hj => ?_, fun i k hi hk h5 => ?_, fun i hi => ?_⟩
  · rw [(tell_at 1 _ 10).2 j (fun i _ => by omega), (bn_L _ 10).1 j (fun k _ => by omega)]
    rcases (show j = 0 ∨ j = 1 ∨ j = 2 ∨ j = 3 ∨ j = 4 ∨ j = 5 ∨ j = 6 ∨ j = 7 ∨ j = 8 ∨ j = 9 ∨ j = 10 ∨ j = 11 by omega) with rfl | rfl | rfl | rfl | rfl | rfl | rfl | rfl | rfl | rfl | rfl | rfl <;> rfl
  · rw [(tell_at 1 _ 10).2 _ (fun i' _ => by omega), (bn_L _ 10).2 i hi _ (by omega)]
    unfold fX2_beNew_S fX3_beNew_P
    rcases (show k = 0 ∨ k = 1 ∨ k = 2 ∨ k = 3 ∨ k = 4 ∨ k = 6 by omega) with rfl | rfl | rfl | rfl | rfl | rfl <;> simp (disch := omega) only [pk_us, pk_un, Nat.add_zero] <;> rfl
  · rw [(tell_at 1 _ 10).1 i hi]
    rcases (show i = 0 ∨ i = 1 ∨ i = 2 ∨ i = 3 ∨ i = 4 ∨ i = 5 ∨ i = 6 ∨ i = 7 ∨ i = 8 ∨ i = 9 by omega) with rfl | rfl | rfl | rfl | rfl | rfl | rfl | rfl | rfl | rfl <;> decide
theorem PI_clear (D : Nat → Int32) {n : Nat} (h1 : 1 ≤ n) (hn : n ≤ 10) : PI 0 (fX7_clear_P D n) := by
  have z : ∀ b, b < 2 ^ 31 → nn b (0 : Int32) := fun b hb => nn.of nI_0.symm (Nat.zero_le _) hb
  have e0 : fX7_clear_P D n 0 = nI n := by rw [clear_at D n 0 (by omega), if_pos rfl]
  have c0 : (fX7_clear_P D n 0).toNatClampNeg = n := by rw [e0, nI_clamp (by omega)]
  refine ⟨fun j hj => ?_, by rw [c0]; exact h1, fun i hi => ?_, fun i hi => ?_⟩
  · rw [clear_at D n j hj]
    by_cases j0 : j = 0
    · subst j0; rw [if_pos rfl]; exact nn.of rfl (show n ≤ 10 from hn) (by decide)
    by_cases j5 : j = 5
    · subst j5; rw [if_neg (by decide), if_pos rfl]; exact nn.of (n := 10) rfl (show 10 ≤ 20 by decide) (by decide)
    by_cases j6 : j = 6
    · subst j6; rw [if_neg (by decide), if_neg (by decide), if_pos rfl]; exact nn.of (n := 5) rfl (show 5 ≤ 9 by decide) (by decide)
    by_cases j7 : j = 7
    · subst j7; rw [if_neg (by decide), if_neg (by decide), if_neg (by decide), if_pos rfl]; exact nn.of (n := 50) rfl (show 50 ≤ 200 by decide) (by decide)
    by_cases j8 : j = 8
    · subst j8; rw [if_neg (by decide), if_neg (by decide), if_neg (by decide), if_neg (by decide), if_pos rfl]; exact nn.of (n := 40) rfl (show 40 ≤ 99 by decide) (by decide)
    rw [if_neg j0, if_neg j5, if_neg j6, if_neg j7, if_neg j8]
    by_cases q : 12 ≤ j ∧ j < 12 + 7 * n ∧ (j - 12) % 7 = 1
    · rw [if_pos q, ub_s 0 (i := (j - 12) / 7) (k := 1) (by omega) (by omega) (by omega)]
      exact nn.of (n := 3) rfl (show 3 ≤ 5 by decide) (by decide)
    · rw [if_neg q]
      refine z _ ?_
      unfold ub u0 us uh uw
      (repeat' split) <;> omega
  · rw [c0, clear_at D n _ (by omega), if_neg (by omega), if_neg (by omega), if_neg (by omega), if_neg (by omega), if_neg (by omega), if_neg (by omega)]
    exact h1
  · rw [c0, clear_at D n _ (by omega), if_neg (by omega), if_neg (by omega), if_neg (by omega), if_neg (by omega), if_neg (by omega), if_neg (by omega)]
    exact h1
/-- before the surfaces are read -/
theorem rq_start {X : Nat → Int32} (hX : X 3 = 0) (Q D : Nat → Int32) {n : Nat} (h1 : 1 ≤ n) (hn : n ≤ 10) : rq X (upd (fX2_beNew_P Q) 0 (nI n)) (fX7_clear_P D n) := by
  obtain ⟨a, b, c⟩ := new_at Q
  have e0 : fX7_clear_P D n 0 = nI n := by rw [clear_at D n 0 (by omega), if_pos rfl]
  have e1 : fX7_clear_P D n 1 = 0 := by rw [clear_at D n 1 (by omega)]; simp
  have e2 : fX7_clear_P D n 2 = 0 := by rw [clear_at D n 2 (by omega)]; simp
  refine ⟨?_, PI_clear D h1 hn, fun i hi => ?_, fun i hi hb => ?_, fun i hi => ?_⟩
  · intro j hj
    rw [e0, e1, e2, nI_clamp (by omega), show (0 : Int32).toNatClampNeg = 0 from rfl] at hj
    have hj' : j < 12 + 7 * n := by unfold lv at hj; omega
    by_cases f : 12 ≤ j ∧ j < 82 ∧ (j - 12) % 7 = 5
    · exact fx_y _ _ f
    · rw [fx_n _ _ f]
      by_cases j0 : j = 0
      · subst j0; rw [pk_us, e0]
      · rw [pk_un j0, clear_at D n j (by omega), if_neg j0]
        by_cases j12 : j < 12
        · rw [a j j12, if_neg j0, if_neg (show ¬ (12 ≤ j ∧ j < 12 + 7 * n ∧ (j - 12) % 7 = 1) by omega)]
        · have := b ((j - 12) / 7) ((j - 12) % 7) (by omega) (by omega) (by omega)
          rw [show 12 + 7 * ((j - 12) / 7) + (j - 12) % 7 = j by omega] at this
          by_cases q : (j - 12) % 7 = 1
          · rw [this, if_pos q, if_neg (show ¬ j = 5 by omega), if_neg (show ¬ j = 6 by omega), if_neg (show ¬ j = 7 by omega), if_neg (show ¬ j = 8 by omega), if_pos (show 12 ≤ j ∧ j < 12 + 7 * n ∧ (j - 12) % 7 = 1 by omega)]
          · rw [this, if_neg q, if_neg (show ¬ j = 5 by omega), if_neg (show ¬ j = 6 by omega), if_neg (show ¬ j = 7 by omega), if_neg (show ¬ j = 8 by omega), if_neg (show ¬ (12 ≤ j ∧ j < 12 + 7 * n ∧ (j - 12) % 7 = 1) by omega)]
  · rw [hX, bt_0, clear_at D n _ (by omega), if_neg (by omega), if_neg (by omega), if_neg (by omega), if_neg (by omega), if_neg (by omega), if_neg (by omega)]
    rfl
  · rw [hX, bt_0] at hb; exact absurd hb (by decide)
  · rw [pk_un (by omega)]; exact c i hi
theorem rq.surf {X Q D : Nat → Int32} (r : rq X Q D) {k : Nat} (hk : k < (D 0).toNatClampNeg) {d : Int32} (hd : nn 2 d) : fX2_changeSurface_P Q (nI k) d = upd Q (12 + 7 * k) d ∧ rq X (upd Q (12 + 7 * k) d) (upd D (12 + 7 * k) d) := by
  have s10 := r.2.1.s10
  have s10' := s10.2
  have ok : okI (nI k) (Q 0) 10 := okI_nI (b := 10) (by rw [r.hd (show 0 < 12 by omega)]; exact s10.1) rfl hk s10' (by decide)
  have wi : ¬ fX6_within_v d 0 2 = 0 := by
    have := hd.2
    unfold fX6_within_v
    rw [if_neg (hd.not_neg (by decide)), if_neg (show ¬ 2 < d by rw [hd.1]; exact nI_nlt (a := 2) this (by decide))]
    decide
  refine ⟨?_, ?_, ?_, fun i hi => ?_, fun i hi hb => ?_, fun i hi => ?_⟩
  · unfold fX2_changeSurface_P
    rw [if_pos ok, if_neg wi, nI_clamp (by omega)]
  · rw [fx_up _ _ _ _ (by omega)]
    exact r.1.up (by omega) rfl
  · exact r.2.1.us (i := k) (by omega) 0 2 (by omega) rfl hd
  · rw [pk_un (by omega)]; exact r.2.2.1 i hi
  · rw [pk_un (by omega)]; exact r.2.2.2.1 i hi hb
  · rw [pk_un (by omega)]; exact r.2.2.2.2 i hi
/-- the flags, at the end of the reading -/
theorem rq_end {X Q D : Nat → Int32} (r : rq X Q D) : PG 0 (if X 3 = 0 then Q else fX2_tellFillingPlaces_P Q (X 3)) (if qX7_filling_v D = 0 then upd D 17 1 else D) := by
  obtain ⟨r1, r2, r3, r4, r5⟩ := id r
  have s10 := r2.s10.2
  have s1 := r2.2.1
  have told0 : X 3 = 0 ↔ qX7_filling_v D = 0 := by
    rw [(fil_iff r).2]
    constructor
    · intro z i hi
      rw [z, bt_0]
    · intro z
      refine bt_ext (fun d hd => ?_)
      cases hb : btx (X 3) d with
      | false => rfl
      | true => rw [z d (r4 d hd hb)] at hb; exact absurd hb (by decide)
  have nonf : ∀ j, lv (D 0).toNatClampNeg (D 1).toNatClampNeg (D 2).toNatClampNeg j → ¬ (12 ≤ j ∧ j < 82 ∧ (j - 12) % 7 = 5) → Q j = D j := by
    intro j hj hf
    have := r1 j hj
    rwa [fx_n Q D hf] at this
  by_cases q : X 3 = 0
  · rw [if_pos q, if_pos (told0.mp q)]
    have f0 : ∀ i, i < 10 → D (12 + 7 * i + 5) = 0 := fun i hi => by rw [r3 i hi, q, bt_0]; rfl
    refine ⟨?_, r2.us (i := 0) (by omega) 5 1 (by omega) rfl (nn.lit 1 (by decide)), fun i hi => ?_⟩
    · refine Rl.of (P := Q) (N := D) (pk_un (by omega)) (pk_un (by omega)) (pk_un (by omega)) (fun j hj => ?_)
      by_cases f : 12 ≤ j ∧ j < 82 ∧ (j - 12) % 7 = 5
      · have e := r5 ((j - 12) / 7) (by omega)
        rw [show 12 + 7 * ((j - 12) / 7) + 5 = j by omega] at e
        rw [e]
        by_cases z : j = 17
        · subst z; rw [pk_us]; rfl
        · have g := f0 ((j - 12) / 7) (by omega)
          rw [show 12 + 7 * ((j - 12) / 7) + 5 = j by omega] at g
          rw [pk_un z, g, if_neg (by omega)]
      · rw [pk_un (by omega)]; exact nonf j hj f
    · rw [r5 i hi]
      by_cases z : i = 0
      · rw [if_pos z]; rfl
      · rw [if_neg z]; rfl
  · rw [if_neg q, if_neg (fun z => q (told0.mpr z))]
    obtain ⟨t1, t2⟩ := tell_at (X 3) Q 10
    refine ⟨fun j hj => ?_, r2, fun i hi => ?_⟩
    · by_cases f : 12 ≤ j ∧ j < 82 ∧ (j - 12) % 7 = 5
      · have e := t1 ((j - 12) / 7) (by omega)
        have g := r3 ((j - 12) / 7) (by omega)
        rw [show 12 + 7 * ((j - 12) / 7) + 5 = j by omega] at e g
        show fX2_tell_L (X 3) Q 10 j = D j
        rw [e, g]
        by_cases z : btx (X 3) ((j - 12) / 7) = true
        · rw [if_pos z, if_pos ((bt_y _ (by omega)).mpr z)]
        · rw [if_neg z, if_neg (fun y => z ((bt_y _ (by omega)).mp y))]
      · exact (t2 j (fun i hi => by omega)).trans (nonf j hj f)
    · show fX2_tell_L (X 3) Q 10 _ &&& 1 = fX2_tell_L (X 3) Q 10 _
      rw [t1 i hi]
      by_cases z : ((X 3 >>> (nI i &&& 31)) &&& 1) = 1
      · rw [if_pos z]; rfl
      · rw [if_neg z]; rfl
