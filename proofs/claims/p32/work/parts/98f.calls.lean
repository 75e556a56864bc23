/-! THE LAW: the calls of begin. -/
set_option maxRecDepth 16384
theorem upd_fix (T : Nat → Int32) {t : Nat} {a : Int32} (h : T t = a) : upd T t a = T := by
  funext j
  by_cases q : j = t
  · subst q; rw [pk_us, h]
  · rw [pk_un q]
theorem q_put {l : Launch} {Γ : gX} {N : Nat → Int32} {Hy : Nat → Nat → Int32} {k : Nat} {sl : Nat → Option (Nat → Int32)} {t : Nat} {T : Nat → Int32} {a : Int32} {c : Nat} (ht : t < 70) (ha : a = nI c) (hc : c ≤ 255) (hT : T t = a) : CALL l Γ 0 a 0 (SH Γ N Hy k (sl, t, T)) (nI (t + 1)) (SH Γ N Hy k (sl, t + 1, T)) := by
  subst ha
  have c1 : ¬ fX6_within_v (nI c) 0 255 = 0 := by
    unfold fX6_within_v
    rw [if_neg (show ¬ nI c < 0 from nI_nlt (b := 0) (Nat.zero_le _) (by omega)), if_neg (show ¬ (255 : Int32) < nI c from nI_nlt (a := 255) (b := c) (by omega) (by omega))]
    decide
  have h := cl_append (l := l) (Γ := Γ) (N := N) (H := Hy) (k := k) (sl := sl) (T := T) (nI c) c1 ht
  rw [upd_fix T hT] at h
  exact lc_tryAppend (nI c) 0 0 0 h
/-- what the reader answers to a text -/
def RD (v : Int32) (t : Nat) (T : Nat → Int32) : Prop := ∀ X G Q : Nat → Int32, TX X G t T → ∃ X1 Q1 : Nat → Int32, riM v X G Q X1 Q1 ∧ X1 1 = nI t
section GLp
variable {p : Program} {l : Launch} {e : Env} {RR : Room} {s : State} {m : MethodId} {args : Array Value} {below : List Frame} {meth : Method} {c : Code} {H : Heap} {locs : List Loc} {Q : State → Prop}
variable {cc : ByteArray} {pc : Nat} {ls : Array Slot} {rest : List Value} {Γ : gX} {X : Nat}
theorem l_pos {nL maxL index : Nat} {Ts : List Cond} {own : String} {bytes : ByteArray} {ret : Option FieldType} {st0 st1 : List Value} {N : Nat → Int32} {Hy : Nat → Nat → Int32} {k : Nat} {w : WO} {v : Int32} (hF : CallFix p m c cc nL s args Ts own) (hr : RD v w.2.1 w.2.2) (cw : CallW RR s args own RX6 index yX6_errorPosition bytes maxL ret wsX6_errorPosition (gRm 6 132) 0 0 0) (hK : GK Γ s) (hZ : GZ Γ s s.heap) (hG : SH Γ N Hy k w H) (hS : va_S (gA Γ) s.heap H locs) (hsz : ls.size = nL) (hroom : (rest.map fun v => v.category).sum ≤ 8) (hdg : decode cc pc = .ok (.invokevirtual index, 3)) (hR : X ≤ RR.cells ∧ 6 * X ≤ RR.slots) (h0 : st0 = .ref (gad Γ 475) :: rest) (h1 : .int v :: rest = st1)
    (kk : ∀ (H1 : Heap) (locs1 : List Loc), SH Γ N Hy k w H1 → va_S (gA Γ) s.heap H1 locs1 → W p l e RR s m args below meth c H1 locs1 X (6 * X) Q (F0 m (pc + 3) ls st1)) : W p l e RR s m args below meth c H locs X (6 * X) Q (F0 m pc ls st0) := by
  obtain ⟨Z, R, ⟨M, X0, G, J, S, C, P, Q0, pm, rfl, hC, hI⟩, hG⟩ := hG
  obtain ⟨X1, Q1, g1, g2⟩ := hr X0 G Q0 hI.tx
  refine g_callV (As := []) (rest := rest) hF (mX6_errorPosition M R 0 hC X0 G J S C P Q0 X1 Q1 v g1) cw hK hZ hG hS (hC.1 475 (by decide) (by decide)) (show gC 475 = (6, 32, 0) from rfl) (by decide) rfl rfl hsz hroom hdg hR h0 h1 (fun H1 locs1 hG1 hS1 => kk H1 locs1 ⟨_, R, ⟨M, X1, G, J, S, C, P, Q1, pm, rfl, hC, ?_⟩, hG1⟩ hS1)
  obtain ⟨i1, i2, i3, i4, i5, i6, i7⟩ := hI
  exact ⟨i1, i2, i3, ⟨g2, i4.2⟩, i5, i6, i7⟩
end GLp
theorem q_load {l : Launch} {Γ : gX} {u : Nat} {N N1 : Nat → Int32} {Hy : Nat → Nat → Int32} {k n : Nat} {sl : Nat → Option (Nat → Int32)} {t : Nat} {T : Nat → Int32} (hN1 : PI u N1) (e0 : N1 0 = nI n) (hr : ∀ X G Q : Nat → Int32, TX X G t T → ∃ X1 Q1 : Nat → Int32, riM (-9) X G Q X1 Q1 ∧ X1 1 = nI t ∧ PR Q1 N1) : CALL l Γ 1 0 0 (SH Γ N Hy k (sl, t, T)) (nI n) (SH Γ N1 Hy 0 (fun _ => none, t, T)) := by
  refine lc_tryLoad 0 0 0 0 (lW_of (fun Z R h => ?_))
  obtain ⟨M, X, G, J, S, C, P, Q, pm, rfl, hC, hI⟩ := h
  have h475 := hC.1 475 (by decide) (by decide)
  obtain ⟨X1, Q1, g1, g2, g3⟩ := hr X G Q hI.tx
  have cls := mX6_load (l := l) M R 0 hC X G J S C P Q X1 Q1 g1 g3.2
  have ev : fX2_copyFrom_P Q1 P 0 = nI n := (ccp Q1 P (by decide)).trans ((g3.1.hd (by decide)).trans e0)
  rw [ev] at cls
  refine ⟨_, _, wL_tryLoad h475 (by decide) (by decide) cls, _, _, _, _, _, _, _, _, pm, rfl, hC, ?_⟩
  obtain ⟨i1, i2, i3, i4, i5, i6, i7⟩ := hI
  refine ⟨i1, Nat.zero_le _, ?_, ⟨g2, i4.2⟩, g3.cp hN1 P, fun i hi => absurd hi (Nat.not_lt_zero i), fun i hi => ⟨fun _ => ?_, fun K hK => by cases hK⟩⟩
  · unfold fX0_forgetAll_J
    rw [pk_us]; rfl
  · show fX6_load_S (fX6_load_S S 0) 1 i = 0
    unfold fX6_load_S
    by_cases q : i = 1
    · subst q; rw [pk_us]
    · rw [pk_un q, show i = 0 by omega, pk_us]
section RDs
variable {n x t : Nat}
theorem rd_R : RD 1 1 (Tx n x) := fun X G Q h => ri_R h.1 ((h.2.2 0 (by decide)).trans rfl)
theorem rd_S (hn : 1 ≤ n ∧ n ≤ 9) {j : Nat} (hj : j < n) : RD (nI (3 + j)) (3 + j) (Tx n x) := fun X G Q h => ri_S hn hj h.1 h.2.2
theorem rd_P (hn : 1 ≤ n ∧ n ≤ 9) {k : Nat} (hk : k ≤ 5) : RD (-9) (pK n k) (Tx n x) := fun X G Q h => by
  obtain ⟨X1, Q1, h1, h2⟩ := ri_P (Q := Q) hn hk h.1 h.2.2
  exact ⟨X1, Q1, h1, h2.1.1⟩
end RDs
