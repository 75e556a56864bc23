/-! ROWS over the reference's int arrays, as pages; what a page of the reference keeps. -/
section GAr
variable {p : Program} {l : Launch} {e : Env} {RR : Room} {s : State} {m : MethodId} {args : Array Value} {below : List Frame} {meth : Method} {c : Code} {H : Heap} {locs : List Loc} {cells slots : Nat} {Q : State → Prop}
variable {cc : ByteArray} {pc : Nat} {ls : Array Slot} {rest : List Value} {Γ : gX} {M : Nat → Nat → Int32} {R : Nat → Nat → Option Nat} {O : Int64} {H0 : Heap}
theorem ga_ald (hexec : p.tables.exec = Jvm.exec) (hb : c.code = cc) (hK : GK Γ s) {c0 b n : Nat} {P : Nat → Int32} (hG : GH Γ (va_up M b P) R O H) (hc0 : c0 ∈ gcs Γ) (hC : gC c0 = (9, b, 0)) (hn : gLen c0 = n) (h31 : n < 2 ^ 31) {i : Int32} {j : Nat} (hi : i = nI j) (hj : j < n) (hdg : decode cc pc = .ok (.iaload, 1))
    (kk : W p l e RR s m args below meth c H locs cells slots Q (F0 m (pc + 1) ls (.int (P j) :: rest))) : W p l e RR s m args below meth c H locs cells slots Q (F0 m pc ls (.int i :: .ref (gad Γ c0) :: rest)) := by
  subst hi
  exact g_iald hexec hb hK hG hc0 hC hn (nI_clamp (by omega)) (vp_in_nI hj h31) (gU_at M b j P) hdg kk
theorem ga_ast (hexec : p.tables.exec = Jvm.exec) (hb : c.code = cc) (hK : GK Γ s) {c0 b n : Nat} {P : Nat → Int32} (hG : GH Γ (va_up M b P) R O H) (hS : va_S (gA Γ) H0 H locs) (hc0 : c0 ∈ gcs Γ) (hC : gC c0 = (9, b, 0)) (hn : gLen c0 = n) (h31 : n < 2 ^ 31) {i x : Int32} {j : Nat} (hi : i = nI j) (hj : j < n) (hdg : decode cc pc = .ok (.iastore, 1))
    (kk : ∀ (H1 : Heap) (locs1 : List Loc), GH Γ (va_up M b (upd P j x)) R O H1 → va_S (gA Γ) H0 H1 locs1 → W p l e RR s m args below meth c H1 locs1 cells slots Q (F0 m (pc + 1) ls rest)) : W p l e RR s m args below meth c H locs cells slots Q (F0 m pc ls (.int x :: .int i :: .ref (gad Γ c0) :: rest)) := by
  subst hi
  refine g_iast hexec hb hK hG hS hc0 hC hn (nI_clamp (by omega)) (vp_in_nI hj h31) hdg (fun H1 locs1 h1 h2 => kk H1 locs1 ?_ h2)
  rw [up2_page] at h1
  exact h1
end GAr
/-- a page whose numbers are within their arrays -/
def WS (P : Nat → Int32) : Prop := (P 0 = nI (P 0).toNatClampNeg ∧ (P 0).toNatClampNeg ≤ 10) ∧ (P 1 = nI (P 1).toNatClampNeg ∧ (P 1).toNatClampNeg ≤ 8) ∧ (P 2 = nI (P 2).toNatClampNeg ∧ (P 2).toNatClampNeg ≤ 3) ∧ (∀ i, i < 8 → P (82 + 5 * i) = nI (P (82 + 5 * i)).toNatClampNeg ∧ (P (82 + 5 * i)).toNatClampNeg < 10 ∧ ¬ 2 * (1 + P (82 + 5 * i + 1)) = 0) ∧ (∀ i, i < 3 → P (122 + 3 * i) = nI (P (122 + 3 * i)).toNatClampNeg ∧ (P (122 + 3 * i)).toNatClampNeg < 10)
/-- the places that WS speaks of -/
def kw (j : Nat) : Prop := j < 3 ∨ (82 ≤ j ∧ j < 122 ∧ (j - 82) % 5 < 2) ∨ (122 ≤ j ∧ j < 131 ∧ (j - 122) % 3 = 0)
theorem WS.of {P Q : Nat → Int32} (h : ∀ j, kw j → Q j = P j) (hW : WS P) : WS Q := by
  unfold WS at hW ⊢
  rw [h 0 (by unfold kw; omega), h 1 (by unfold kw; omega), h 2 (by unfold kw; omega)]
  refine ⟨hW.1, hW.2.1, hW.2.2.1, fun i hi => ?_, fun i hi => ?_⟩
  · rw [h (82 + 5 * i) (by unfold kw; omega), h (82 + 5 * i + 1) (by unfold kw; omega)]; exact hW.2.2.2.1 i hi
  · rw [h (122 + 3 * i) (by unfold kw; omega)]; exact hW.2.2.2.2 i hi
theorem upd_eq (f : Nat → Int32) (k : Nat) (v : Int32) : upd f k v k = v := if_pos rfl
theorem upd_nw (f : Nat → Int32) {k j : Nat} (v : Int32) (h : j ≠ k) : upd f k v j = f j := if_neg h
theorem WS.up {P : Nat → Int32} {j : Nat} {v : Int32} (h : ¬ kw j) (hW : WS P) : WS (upd P j v) := hW.of (fun i hi => upd_nw _ _ (fun e => h (e ▸ hi)))
