/-! MATH: the reader, its outcome. -/
theorem rh_o (A T D : Nat → Int32) (j : Nat) (hj : j ≠ 3) : qX7_readHouse_A A T D j = A j := by
  by_cases c : digC A T 0 (D 0 - 1)
  · by_cases c2 : digC (up3 A) T 0 9
    · rw [(rh_y c c2).2.1, up3_o _ hj, up3_o _ hj]
    · rw [(rh_n2 c c2).2.1, up3_o _ hj]
  · rw [(rh_n1 c).2.1]
theorem rw_o (A T D : Nat → Int32) (j : Nat) (hj : j ≠ 3) : qX7_readWagon_A A T D j = A j := by
  by_cases c : digC A T 0 (D 0 - 1)
  · rw [(rw_y c).2.1, up3_o _ hj]
  · rw [(rw_n c).2.1]
theorem rf_o (A T D : Nat → Int32) (j : Nat) (hj : j ≠ 3) : qX7_readFilling_A A T D j = A j := by
  by_cases c : digC A T 0 (D 0 - 1)
  · by_cases c2 : D (rfi A T D) = 1
    · rw [(rf_m c c2).2.1]
    · rw [(rf_y c c2).2.1, up3_o _ hj]
  · rw [(rf_n c).2.1]
theorem rp_o (A T D : Nat → Int32) (j : Nat) (hj : j ≠ 3) : qX7_readPart_A A T D j = A j := by
  by_cases hh : ¬ 8 ≤ D 1 ∧ eatC A T 104
  · rw [(rp_h hh.1 hh.2).2.1, rh_o _ _ _ _ hj, up3_o _ hj]
  · by_cases hw : ¬ 3 ≤ D 2 ∧ eatC A T 119
    · rw [(rp_w hh hw.1 hw.2).2.1, rw_o _ _ _ _ hj, up3_o _ hj]
    · by_cases hf : ¬ D 0 ≤ qX7_filling_v D ∧ eatC A T 102
      · rw [(rp_f hh hw hf.1 hf.2).2.1, rf_o _ _ _ _ hj, up3_o _ hj]
      · rw [(rp_n hh hw hf).2.1]
theorem ts_1 (X G : Nat → Int32) (a : Int32) : fX4_takeSign_X X G a 1 = X 1 := by
  unfold fX4_takeSign_X
  exact fl_ite (pk_un (by decide)) rfl
theorem td_1 (X G : Nat → Int32) (a : Int32) : fX4_takeDigit_X X G a 1 = X 1 := by
  unfold fX4_takeDigit_X
  exact fl_ite rfl (fl_ite rfl (pk_un (by decide)))
theorem tf_1 (X G : Nat → Int32) (a : Int32) : fX4_takeFillingPlace_X X G a 1 = X 1 := by
  unfold fX4_takeFillingPlace_X
  exact fl_ite (td_1 X G a) ((pk_un (by decide)).trans (td_1 X G a))
theorem th_1 (X G Q : Nat → Int32) : fX4_takeHouse_X X G Q 1 = X 1 := by
  unfold fX4_takeHouse_X
  repeat' (first | (simp only [td_1]; done) | refine fl_ite ?_ ?_)
theorem tp_1 (X G Q : Nat → Int32) : fX4_takePart_X X G Q 1 = X 1 := by
  unfold fX4_takePart_X
  repeat' (first | (simp only [tf_1, td_1, th_1, ts_1]; done) | refine fl_ite ?_ ?_)
/-- the text read by both -/
def RD (X G Q A T D : Nat → Int32) : Prop := ∃ (v w : Int32) (X1 Q1 A1 D1 : Nat → Int32), riM v X G Q X1 Q1 ∧ raM w A T D A1 D1 ∧ X1 1 = X 1 ∧ (∀ j, j ≠ 3 → A1 j = A j) ∧ RA A1 ∧ WS D1 ∧ ((w = 0 ∧ v = A1 3 ∧ ¬ v = -9) ∨ (w = 1 ∧ v = -9 ∧ PG 0 Q1 D1))
theorem rd_fail {X G Q A T D X1 Q1 A1 D1 A0 : Nat → Int32} (hi : riM (X1 2) X G Q X1 Q1) (ha : raM 0 A T D A1 D1) (t : tx X1 G A1 T) (hX : X 1 = A 2) (ho : ∀ j, j ≠ 3 → A1 j = A j) (hD : WS D1) : RD X G Q A T D := by
  refine ⟨X1 2, 0, X1, Q1, A1, D1, hi, ha, ?_, ho, t.2.2.1, hD, Or.inl ⟨rfl, t.2.1, ?_⟩⟩
  · rw [t.1, ho 2 (by decide)]; exact hX.symm
  · rw [t.2.1]; exact t.2.2.1.no9
theorem WS_D {u : Nat} {D : Nat → Int32} (h : PI u D) : WS D := h.ws
theorem rd_all {X G A T : Nat → Int32} (Q : Nat → Int32) {D : Nat → Int32} (hX : X 1 = A 2) (hA : RA A) (hG : ∀ i, i < (A 2).toNatClampNeg → G i = T i) (hD : WS D) : RD X G Q A T D := by
  have t0 : tx (upd (upd X 2 0) 3 0) G (upd A 3 0) T := by
    refine ⟨?_, ?_, ⟨?_, ?_, ?_⟩, ?_, fun i hi => ?_⟩
    · rw [pk_un (by decide), pk_un (by decide), pk_un (by decide)]; exact hX
    · rw [pk_un (by decide), pk_us, pk_us]
    · rw [pk_un (by decide)]; exact hA.1
    · rw [pk_us]; rfl
    · rw [pk_us]; decide
    · rw [pk_us]; exact Nat.zero_le _
    · rw [pk_un (by decide)] at hi; exact hG i hi
  have o0 : ∀ j, j ≠ 3 → upd A 3 0 j = A j := fun j hj => pk_un hj
  have x03 : upd (upd X 2 0) 3 0 3 = 0 := pk_us
  rcases tk_sign t0 (a := 82) (sgn (c := 82) (by decide)) with ⟨c, ev, eX⟩ | ⟨c, ev, eX⟩
  · -- the R
    have t1 := t0.up c.1
    obtain ⟨cv, cA⟩ := eat_y c
    have h1c : ¬ fX4_takeSign_v (upd (upd X 2 0) 3 0) G 82 = 0 := by rw [ev]; decide
    have h1r : ¬ qX7_eat_v (upd A 3 0) T 82 = 0 := by rw [cv]; decide
    have o1 : ∀ j, j ≠ 3 → up3 (upd A 3 0) j = A j := fun j hj => (up3_o _ hj).trans (o0 j hj)
    rcases sz_all t1 (fX2_beNew_P Q) hD with ⟨X2, A2, z1, z2, z3, z4, z5⟩ | ⟨X2, A2, n, n1, n10, z1, z2, z3, z4, z5, z6, zy, zf⟩
    · refine rd_fail (A0 := A) (X1 := X2) (Q1 := fX4_takeSize_Q (up2X (upd (upd X 2 0) 3 0)) G (fX2_beNew_P Q)) (A1 := A2) (D1 := D) ?_ ?_ z4 hX (fun j hj => (z5 j hj).trans (o1 j hj)) hD
      · intro l Γ M R O hC J S C P
        have := mX4_readInto_z (l := l) M R O hC X G J S C P Q h1c (by rw [eX]; exact z1)
        rw [eX, z2] at this
        exact this
      · intro l Γ M R O hL N V I K B
        exact mX7_readAll_r M R O hL A T D N V I K B hA h1r A2 D (by rw [cA]; exact z3)
    · have x23 : X2 3 = 0 := z5.trans ((up2X_3 _).trans x03)
      have r0 := rq_start x23 Q D n1 n10
      have hn : (fX7_clear_P D n 0).toNatClampNeg = n := by rw [clear_at D n 0 (by omega), if_pos rfl, nI_clamp (by omega)]
      have hnQ : (upd (fX2_beNew_P Q) 0 (nI n) 0).toNatClampNeg = n := by rw [pk_us, nI_clamp (by omega)]
      have h2c : ¬ fX4_takeSize_v (fX4_takeSign_X (upd (upd X 2 0) 3 0) G 82) G (fX2_beNew_P Q) = 0 := by rw [eX]; exact z1
      have o2 : ∀ j, j ≠ 3 → A2 j = A j := fun j hj => (z6 j hj).trans (o1 j hj)
      obtain ⟨kx, k1, k2, k3⟩ := bsearch (fun k => qX7_digit_v (fX7_sur_L T A2 (fX7_clear_P D n) k).1 T 0 2 = -9) n
      obtain ⟨s1, s2, s3, s4, s5⟩ := su_all z4 r0 hn kx k1 k2
      by_cases q : kx < n
      · -- a surface is wanting
        obtain ⟨f1, f2, f3⟩ := su_fail s1 (k3 q)
        refine rd_fail (A0 := A) (X1 := (fX4_sur_L G X2 (upd (fX2_beNew_P Q) 0 (nI n)) kx).1) (Q1 := (fX4_sur_L G X2 (upd (fX2_beNew_P Q) 0 (nI n)) kx).2) (A1 := (fX7_sur_L T A2 (fX7_clear_P D n) kx).1) (D1 := (fX7_sur_L T A2 (fX7_clear_P D n) kx).2) ?_ ?_ s1 hX (fun j hj => (s4 j hj).trans (o2 j hj)) s2.2.1.ws
        · intro l Γ M R O hC J S C P
          refine mX4_readInto_s (l := l) M R O hC X G J S C P Q h1c h2c _ _ ?_
          rw [eX, z2, z3]
          intro l Γ M R O hC J S C P
          have := mX4_takeSurfaces_f (l := l) M R O hC X2 G J S C P (upd (fX2_beNew_P Q) 0 (nI n)) kx (by rw [hnQ]; exact q) s5 f1
          rw [f2] at this
          exact this
        · intro l Γ M R O hL N V I K B
          refine mX7_readAll_r M R O hL A T D N V I K B hA h1r _ _ ?_
          rw [cA]
          have := zf kx q k2 (k3 q)
          rw [f3] at this
          exact this
      · have en : kx = n := by omega
        subst en
        have ts1 : tsM 1 X2 G (upd (fX2_beNew_P Q) 0 (nI kx)) (fX4_sur_L G X2 (upd (fX2_beNew_P Q) 0 (nI kx)) kx).1 (fX4_sur_L G X2 (upd (fX2_beNew_P Q) 0 (nI kx)) kx).2 := by
          intro l Γ M R O hC J S C P
          have := mX4_takeSurfaces_y (l := l) M R O hC X2 G J S C P (upd (fX2_beNew_P Q) 0 (nI kx)) (by rw [hnQ]; exact s5)
          rw [hnQ] at this
          exact this
        have rr1 := zy k2
        have oS : ∀ j, j ≠ 3 → (fX7_sur_L T A2 (fX7_clear_P D kx) kx).1 j = A j := fun j hj => (s4 j hj).trans (o2 j hj)
        generalize (fX4_sur_L G X2 (upd (fX2_beNew_P Q) 0 (nI kx)) kx).1 = X3 at s1 s2 ts1
        generalize (fX4_sur_L G X2 (upd (fX2_beNew_P Q) 0 (nI kx)) kx).2 = Q3 at s2 ts1
        generalize (fX7_sur_L T A2 (fX7_clear_P D kx) kx).1 = A3 at s1 rr1 oS
        generalize (fX7_sur_L T A2 (fX7_clear_P D kx) kx).2 = D3 at s2 rr1
        have h3c : tsM 1 (fX4_takeSize_X (fX4_takeSign_X (upd (upd X 2 0) 3 0) G 82) G (fX2_beNew_P Q)) G (fX4_takeSize_Q (fX4_takeSign_X (upd (upd X 2 0) 3 0) G 82) G (fX2_beNew_P Q)) X3 Q3 := by rw [eX, z2, z3]; exact ts1
        have h3r : rrM 1 (qX7_eat_A (upd A 3 0) T 82) T D A3 D3 := by rw [cA]; exact rr1
        -- the parts
        obtain ⟨px, p1, p2, p3⟩ := bsearch (fun k => ¬ ((¬ (fX7_par_L T A3 D3 k).1 2 ≤ (fX7_par_L T A3 D3 k).1 3) ∧ ¬ qX7_readPart_v (fX7_par_L T A3 D3 k).1 T (fX7_par_L T A3 D3 k).2 = 0)) 71
        have p2' : ∀ j, j < px → (¬ (fX7_par_L T A3 D3 j).1 2 ≤ (fX7_par_L T A3 D3 j).1 3) ∧ ¬ qX7_readPart_v (fX7_par_L T A3 D3 j).1 T (fX7_par_L T A3 D3 j).2 = 0 := fun j hj => Classical.not_not.mp (p2 j hj)
        obtain ⟨a1, a2, a3, a4⟩ := pa_all s1 s2 px p2'
        have oP : ∀ j, j ≠ 3 → (fX7_par_L T A3 D3 px).1 j = A j := fun j hj => (par_o rp_o px j hj).trans (oS j hj)
        have lim := a1.2.2.1.2.2
        have p3' := p3 (by omega)
        by_cases e : (fX7_par_L T A3 D3 px).1 2 ≤ (fX7_par_L T A3 D3 px).1 3
        · -- the end of the text
          refine ⟨-9, 1, (fX4_par_L G X3 Q3 px).1, _, (fX7_par_L T A3 D3 px).1, _, ?_, ?_, ?_, oP, a1.2.2.1, (rq_end a2).2.1.ws, Or.inr ⟨rfl, rfl, rq_end a2⟩⟩
          · intro l Γ M R O hC J S C P
            refine mX4_readInto_y (l := l) M R O hC X G J S C P Q h1c h2c X3 Q3 _ _ h3c ?_
            intro l Γ M R O hC J S C P
            exact mX4_takeParts_y (l := l) M R O hC X3 G J S C P Q3 px (by omega) a4 (by rw [a1.1, a1.2.1]; exact e)
          · intro l Γ M R O hL N V I K B
            exact mX7_readAll_y (l := l) M R O hL A T D N V I K B hA h1r A3 D3 s1.2.2.1 s2.2.1.ws h3r px p2' e
          · rw [a1.1, oP 2 (by decide)]; exact hX.symm
        · -- a part is wanting
          have pf : qX7_readPart_v (fX7_par_L T A3 D3 px).1 T (fX7_par_L T A3 D3 px).2 = 0 := by
            by_cases z : qX7_readPart_v (fX7_par_L T A3 D3 px).1 T (fX7_par_L T A3 D3 px).2 = 0
            · exact z
            · exact absurd ⟨e, z⟩ p3'
          have lt := a1.lt e
          have l70 := a1.2.2.1.1.2
          rcases pt_part a1 a2 with ⟨b1, -, b3⟩ | ⟨-, b2, -, -⟩
          · have kp := rp_keeps a1.2.2.1 a2.2.1.ws (T := T)
            have oF : ∀ j, j ≠ 3 → qX7_readPart_A (fX7_par_L T A3 D3 px).1 T (fX7_par_L T A3 D3 px).2 j = A j := fun j hj => (rp_o _ _ _ j hj).trans (oP j hj)
            refine ⟨fX4_takePart_X (fX4_par_L G X3 Q3 px).1 G (fX4_par_L G X3 Q3 px).2 2, 0, fX4_takePart_X (fX4_par_L G X3 Q3 px).1 G (fX4_par_L G X3 Q3 px).2, fX4_takePart_Q (fX4_par_L G X3 Q3 px).1 G (fX4_par_L G X3 Q3 px).2, qX7_readPart_A (fX7_par_L T A3 D3 px).1 T (fX7_par_L T A3 D3 px).2, qX7_readPart_D (fX7_par_L T A3 D3 px).1 T (fX7_par_L T A3 D3 px).2, ?_, ?_, ?_, oF, kp.2.1, kp.1, Or.inl ⟨rfl, b3, by rw [b3]; exact kp.2.1.no9⟩⟩
            · intro l Γ M R O hC J S C P
              refine mX4_readInto_p (l := l) M R O hC X G J S C P Q h1c h2c X3 Q3 _ _ h3c ?_
              intro l Γ M R O hC J S C P
              exact mX4_takeParts_f (l := l) M R O hC X3 G J S C P Q3 px (by omega) a4 (by rw [a1.1, a1.2.1]; exact e) b1
            · intro l Γ M R O hL N V I K B
              exact mX7_readAll_f (l := l) M R O hL A T D N V I K B hA h1r A3 D3 s1.2.2.1 s2.2.1.ws h3r px p2' e pf
            · rw [tp_1, a1.1, oP 2 (by decide)]; exact hX.symm
          · exact absurd pf b2
  · -- no R
    obtain ⟨cv, cA⟩ := eat_n c
    refine rd_fail (A0 := A) (X1 := upd (upd X 2 0) 3 0) (Q1 := fX2_beNew_P Q) (A1 := upd A 3 0) (D1 := D) ?_ ?_ t0 hX o0 hD
    · intro l Γ M R O hC J S C P
      have := mX4_readInto_n (l := l) M R O hC X G J S C P Q ev
      rw [eX] at this
      exact this
    · intro l Γ M R O hL N V I K B
      have := mX7_readAll_n (l := l) M R O hL A T D N V I K B hA cv
      rw [cA] at this
      exact this
