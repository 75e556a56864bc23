/-! THE STEPS: text, undo, slots, by the model's page. -/
set_option maxRecDepth 100000 in
theorem cl_append_x {l : Launch} {Γ : gX} (hst : l.stackTraces = false) {N : Nat → Int32} {H : Nat → Nat → Int32} {k : Nat} {w : WO} (a : Int32) (c1 : fX6_within_v a 0 255 = 0) : lW l Γ yL_tryAppend wsL_tryAppend [.ref (gad Γ 475), .int a] (SH Γ N H k w) (-9999002) (SH Γ N H k w) := by
  refine lW_of (fun Z R h => ?_)
  obtain ⟨M, X, G, J, S, C, P, Q, pm, rfl, hC, hI⟩ := h
  have h475 := hC.1 475 (by decide) (by decide)
  have ev : fX4_put_v X G a = -2 := if_pos c1
  have cls := tX6_append (l := l) hst M R 0 hC X G J S C P Q a (En := "java/lang/IllegalArgumentException") (by rw [ev]; rfl)
  rw [show fX4_put_X X G a = X from if_pos c1, show fX4_put_G X G a = G from if_pos c1] at cls
  exact ⟨_, _, wL_tryAppend_t1 h475 (by decide) (by decide) a cls, _, _, _, _, _, _, _, _, _, rfl, hC, hI⟩
set_option maxRecDepth 100000 in
theorem cl_append {l : Launch} {Γ : gX} {N : Nat → Int32} {H : Nat → Nat → Int32} {k : Nat} {sl : Nat → Option (Nat → Int32)} {t : Nat} {T : Nat → Int32} (a : Int32) (c1 : ¬ fX6_within_v a 0 255 = 0) (ht : t < 70) : lW l Γ yL_tryAppend wsL_tryAppend [.ref (gad Γ 475), .int a] (SH Γ N H k (sl, t, T)) (nI (t + 1)) (SH Γ N H k (sl, t + 1, upd T t a)) := by
  refine lW_of (fun Z R h => ?_)
  obtain ⟨M, X, G, J, S, C, P, Q, pm, rfl, hC, hI⟩ := h
  have h475 := hC.1 475 (by decide) (by decide)
  obtain ⟨x1, x2, x3⟩ : TX X G t T := hI.tx
  have hX0 : ¬ X 1 < 0 := by rw [x1]; exact nI_nlt (b := 0) (Nat.zero_le _) (by omega)
  have x70 : X 1 < 70 := by rw [x1]; exact (nI_ltI (by omega) (by decide)).mpr (show t < 70 by omega)
  have ev : fX4_put_v X G a = nI (t + 1) := by unfold fX4_put_v; rw [if_neg c1, if_neg hX0, if_pos x70, pk_us, x1, nI_1]
  have cls := mX6_append (l := l) M R 0 hC X G J S C P Q a (by rw [ev]; exact xof_nn (nn.lit (t + 1) (by omega)) (by omega))
  rw [ev, show fX4_put_X X G a = upd X 1 (X 1 + 1) by unfold fX4_put_X; rw [if_neg c1, if_neg hX0, if_pos x70], show fX4_put_G X G a = upd G ((X 1).toNatClampNeg) a by unfold fX4_put_G; rw [if_neg c1, if_neg hX0, if_pos x70]] at cls
  refine ⟨_, _, wL_tryAppend h475 (by decide) (by decide) a cls, _, _, _, _, _, _, _, _, _, rfl, hC, hI.1, hI.2.1, hI.2.2.1, ⟨?_, by show t + 1 ≤ 70; omega, fun i hi => ?_⟩, hI.2.2.2.2⟩
  · show upd X 1 (X 1 + 1) 1 = nI (t + 1)
    rw [pk_us, x1, nI_1]
  · have hi : i < t + 1 := hi
    show upd G ((X 1).toNatClampNeg) a i = upd T t a i
    rw [x1, nI_clamp (by omega)]
    by_cases q : i = t
    · rw [q, pk_us, pk_us]
    · rw [pk_un q, pk_un q]
      exact x3 i (by omega)
set_option maxRecDepth 100000 in
theorem cl_undo0 {l : Launch} {Γ : gX} (hst : l.stackTraces = false) {N : Nat → Int32} {H : Nat → Nat → Int32} {w : WO} : lW l Γ yL_tryUndo wsL_tryUndo [.ref (gad Γ 475)] (SH Γ N H 0 w) (-9999003) (SH Γ N H 0 w) := by
  refine lW_of (fun Z R h => ?_)
  obtain ⟨M, X, G, J, S, C, P, Q, pm, rfl, hC, hI⟩ := h
  have h475 := hC.1 475 (by decide) (by decide)
  have cls := tX6_undo (l := l) hst M R 0 hC X G J S C P Q hI.2.2.1
  exact ⟨_, _, wL_tryUndo_t1 h475 (by decide) (by decide) cls, _, _, _, _, _, _, _, _, _, rfl, hC, hI⟩
set_option maxRecDepth 100000 in
theorem cl_undo {l : Launch} {Γ : gX} {u : Nat} {N : Nat → Int32} {H : Nat → Nat → Int32} {k : Nat} {w : WO} (hH : PI u (H 0)) : lW l Γ yL_tryUndo wsL_tryUndo [.ref (gad Γ 475)] (SH Γ N H (k + 1) w) (nI k) (SH Γ (H 0) (fun i => H (i + 1)) k w) := by
  refine lW_of (fun Z R h => ?_)
  obtain ⟨M, X, G, J, S, C, P, Q, pm, rfl, hC, hI⟩ := h
  have h475 := hC.1 475 (by decide) (by decide)
  have hk := hI.2.1
  have hi : PR (M (pm k)) (H 0) := by
    have := hI.hi k (by omega)
    rw [show k + 1 - 1 - k = 0 by omega] at this
    exact this
  have j1 : upd J 1 (J 1 - 1) 1 = nI k := by rw [pk_us, hI.2.2.1]; exact (pk_sub (b := 1) (by omega)).trans rfl
  have cls := mX6_undo (l := l) M R 0 hC X G J S C P Q pm hI.1.1 k hI.2.2.1 hk hi.2
  rw [j1] at cls
  refine ⟨_, _, wL_tryUndo h475 (by decide) (by decide) cls, _, _, _, _, _, _, _, _, _, rfl, hC, hI.1, by omega, j1, hI.tx, hi.cp hH P, fun i hi => ?_, hI.sl⟩
  have := hI.hi i (by omega)
  rw [show k + 1 - 1 - i = (k - 1 - i) + 1 by omega] at this
  exact this
/-- the time -/
def v_time (N : Nat → Int32) : Int32 := 10 * N 3 + N 4
theorem v_time_eq {P N : Nat → Int32} (h : Rl P N) : fX2_time_v P = v_time N := by
  unfold fX2_time_v v_time
  rw [h.hd (show 3 < 12 by decide), h.hd (show 4 < 12 by decide)]
set_option maxRecDepth 100000 in
theorem cl_save {l : Launch} {Γ : gX} {u : Nat} {N : Nat → Int32} {H : Nat → Nat → Int32} {k : Nat} {sl : Nat → Option (Nat → Int32)} {t : Nat} {T : Nat → Int32} (hN : PI u N) : lW l Γ yL_trySave wsL_trySave [.ref (gad Γ 475), .int 1] (SH Γ N H k (sl, t, T)) (v_time N) (SH Γ N H k (va_up sl 1 (some N), t, T)) := by
  refine lW_of (fun Z R h => ?_)
  obtain ⟨M, X, G, J, S, C, P, Q, pm, rfl, hC, hI⟩ := h
  have h475 := hC.1 475 (by decide) (by decide)
  have hk := hI.2.1
  have cls := mX6_save_1 (l := l) M R 0 hC X G J S C P Q hI.pr.2
  rw [v_time_eq hI.pr.1] at cls
  refine ⟨_, _, wL_trySave h475 (by decide) (by decide) 1 cls, _, _, _, _, _, _, _, _, _, rfl, hC, hI.1, hI.2.1, hI.2.2.1, hI.tx, hI.pr, fun j hj => ?_, fun j hj => ?_⟩
  · have lo := hI.pmlo (i := j) (by omega)
    rw [va_up_ne _ _ (show pm j ≠ 3 by omega)]
    exact hI.hi j hj
  · show (va_up sl 1 (some N) j = none → upd S 1 1 j = 0) ∧ ∀ K, va_up sl 1 (some N) j = some K → ¬ upd S 1 1 j = 0 ∧ PR (va_up M 3 (fX2_copyFrom_P P (M 3)) (2 + j)) K
    by_cases q : j = 1
    · subst q
      rw [va_up_eq, pk_us, va_up_eq]
      refine ⟨fun e => (by cases e), fun K e => ?_⟩
      cases e
      exact ⟨by decide, hI.pr.cp hN _⟩
    · rw [va_up_ne _ _ q, pk_un q, va_up_ne _ _ (show 2 + j ≠ 3 by omega)]
      exact hI.sl j hj
set_option maxRecDepth 100000 in
theorem cl_save_x {l : Launch} {Γ : gX} (hst : l.stackTraces = false) {N : Nat → Int32} {H : Nat → Nat → Int32} {k : Nat} {w : WO} (a : Int32) (c1 : a < 0 ∨ ¬ a < 2) : lW l Γ yL_trySave wsL_trySave [.ref (gad Γ 475), .int a] (SH Γ N H k w) (-9999001) (SH Γ N H k w) := by
  refine lW_of (fun Z R h => ?_)
  obtain ⟨M, X, G, J, S, C, P, Q, pm, rfl, hC, hI⟩ := h
  have h475 := hC.1 475 (by decide) (by decide)
  have cls := tX6_save (l := l) hst M R 0 hC X G J S C P Q a c1
  exact ⟨_, _, wL_trySave_t1 h475 (by decide) (by decide) a cls, _, _, _, _, _, _, _, _, _, rfl, hC, hI⟩
set_option maxRecDepth 100000 in
theorem cl_restore_x {l : Launch} {Γ : gX} (hst : l.stackTraces = false) {N : Nat → Int32} {H : Nat → Nat → Int32} {k : Nat} {w : WO} (a : Int32) (c1 : a < 0 ∨ ¬ a < 2) : lW l Γ yL_tryRestore wsL_tryRestore [.ref (gad Γ 475), .int a] (SH Γ N H k w) (-9999001) (SH Γ N H k w) := by
  refine lW_of (fun Z R h => ?_)
  obtain ⟨M, X, G, J, S, C, P, Q, pm, rfl, hC, hI⟩ := h
  have h475 := hC.1 475 (by decide) (by decide)
  have cls := tX6_restore (l := l) hst M R 0 hC X G J S C P Q a c1
  exact ⟨_, _, wL_tryRestore_t1 h475 (by decide) (by decide) a cls, _, _, _, _, _, _, _, _, _, rfl, hC, hI⟩
set_option maxRecDepth 100000 in
theorem cl_restore_n {l : Launch} {Γ : gX} (hst : l.stackTraces = false) {N : Nat → Int32} {H : Nat → Nat → Int32} {k : Nat} {w : WO} (hs : w.1 1 = none) : lW l Γ yL_tryRestore wsL_tryRestore [.ref (gad Γ 475), .int 1] (SH Γ N H k w) (-9999003) (SH Γ N H k w) := by
  refine lW_of (fun Z R h => ?_)
  obtain ⟨M, X, G, J, S, C, P, Q, pm, rfl, hC, hI⟩ := h
  have h475 := hC.1 475 (by decide) (by decide)
  have cls := tX6_restore_n1 (l := l) hst M R 0 hC X G J S C P Q ((hI.sl 1 (by decide)).1 hs)
  exact ⟨_, _, wL_tryRestore_t2 h475 (by decide) (by decide) 1 cls, _, _, _, _, _, _, _, _, _, rfl, hC, hI⟩
set_option maxRecDepth 100000 in
theorem cl_restore {l : Launch} {Γ : gX} {u : Nat} {N K : Nat → Int32} {H : Nat → Nat → Int32} {k : Nat} {w : WO} (hs : w.1 1 = some K) (hK : PI u K) : lW l Γ yL_tryRestore wsL_tryRestore [.ref (gad Γ 475), .int 1] (SH Γ N H k w) (v_time K) (SH Γ K H 0 w) := by
  refine lW_of (fun Z R h => ?_)
  obtain ⟨M, X, G, J, S, C, P, Q, pm, rfl, hC, hI⟩ := h
  have h475 := hC.1 475 (by decide) (by decide)
  obtain ⟨s1, pr⟩ := (hI.sl 1 (by decide)).2 K hs
  have cls := mX6_restore_1 (l := l) M R 0 hC X G J S C P Q pr.2 s1
  have pr2 := pr.cp hK P
  rw [v_time_eq pr2.1] at cls
  exact ⟨_, _, wL_tryRestore h475 (by decide) (by decide) 1 cls, _, _, _, _, _, _, _, _, _, rfl, hC, hI.1, by omega, pk_us, hI.tx, pr2, fun i hi => absurd hi (Nat.not_lt_zero i), hI.sl⟩
set_option maxRecDepth 100000 in
theorem cl_script_a {l : Launch} {Γ : gX} (hst : l.stackTraces = false) {N : Nat → Int32} {H : Nat → Nat → Int32} {k : Nat} {w : WO} : lW l Γ yL_tryScript wsL_tryScript [.ref (gad Γ 475), .int 5, .long 0] (SH Γ N H k w) (-9999002) (SH Γ N H k w) := by
  refine lW_of (fun Z R h => ?_)
  obtain ⟨M, X, G, J, S, C, P, Q, pm, rfl, hC, hI⟩ := h
  have h475 := hC.1 475 (by decide) (by decide)
  have cls := tX6_runScript_1 (l := l) hst M R 0 hC X G J S C P Q 5 (t := 5) rfl 0 (by decide)
  exact ⟨_, _, wL_tryScript_t1 h475 (by decide) (by decide) 5 0 cls, _, _, _, _, _, _, _, _, _, rfl, hC, hI⟩
set_option maxRecDepth 100000 in
theorem cl_script_b {l : Launch} {Γ : gX} (hst : l.stackTraces = false) {N : Nat → Int32} {H : Nat → Nat → Int32} {k : Nat} {w : WO} : lW l Γ yL_tryScript wsL_tryScript [.ref (gad Γ 475), .int 1, .long 10000] (SH Γ N H k w) (-9999002) (SH Γ N H k w) := by
  refine lW_of (fun Z R h => ?_)
  obtain ⟨M, X, G, J, S, C, P, Q, pm, rfl, hC, hI⟩ := h
  have h475 := hC.1 475 (by decide) (by decide)
  have cls := tX6_runScript_3 (l := l) hst M R 0 hC X G J S C P Q 1 (t := 1) rfl 10000 (by decide) (by decide) (by decide) (by decide)
  exact ⟨_, _, wL_tryScript_t1 h475 (by decide) (by decide) 1 10000 cls, _, _, _, _, _, _, _, _, _, rfl, hC, hI⟩
set_option maxRecDepth 100000 in
theorem cl_script_c {l : Launch} {Γ : gX} (hst : l.stackTraces = false) {N : Nat → Int32} {H : Nat → Nat → Int32} {k : Nat} {w : WO} : lW l Γ yL_tryScript wsL_tryScript [.ref (gad Γ 475), .int 2, .long (-1)] (SH Γ N H k w) (-9999002) (SH Γ N H k w) := by
  refine lW_of (fun Z R h => ?_)
  obtain ⟨M, X, G, J, S, C, P, Q, pm, rfl, hC, hI⟩ := h
  have h475 := hC.1 475 (by decide) (by decide)
  have cls := tX6_runScript_2 (l := l) hst M R 0 hC X G J S C P Q 2 (t := 2) rfl (-1) (by decide) (by decide)
  exact ⟨_, _, wL_tryScript_t1 h475 (by decide) (by decide) 2 (-1) cls, _, _, _, _, _, _, _, _, _, rfl, hC, hI⟩
