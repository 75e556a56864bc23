/-! THE SHAPE: which references the roads, the class's object and the reference hold; small facts. -/
/-- road r stands whole -/
def LV (Γ : gX) (R : Nat → Nat → Option Nat) (r : Nat) : Prop := r < 19 ∧ (∀ k, k < 25 → 25 * r + k ∈ gcs Γ) ∧ R (25 * r) 12 = some (25 * r + 1) ∧ R (25 * r) 13 = some (25 * r + 2) ∧ R (25 * r) 14 = some (25 * r + 3) ∧ (∀ i, i < 10 → R (25 * r + 1) i = some (25 * r + 4 + i)) ∧ (∀ i, i < 8 → R (25 * r + 2) i = some (25 * r + 14 + i)) ∧ (∀ i, i < 3 → R (25 * r + 3) i = some (25 * r + 22 + i))
theorem LV.c0 {Γ : gX} {R : Nat → Nat → Option Nat} {r : Nat} (h : LV Γ R r) : 25 * r ∈ gcs Γ := h.2.1 0 (by decide)
theorem LV.row {Γ : gX} {R : Nat → Nat → Option Nat} {r : Nat} (h : LV Γ R r) (k : Nat) (hk : k < 25) : 25 * r + k ∈ gcs Γ := h.2.1 k hk
theorem LV.seg {Γ : gX} {R : Nat → Nat → Option Nat} {r i : Nat} (h : LV Γ R r) (hi : i < 10) : 25 * r + 4 + i ∈ gcs Γ := by
  have := h.2.1 (4 + i) (by omega)
  rwa [← Nat.add_assoc] at this
theorem LV.hou {Γ : gX} {R : Nat → Nat → Option Nat} {r i : Nat} (h : LV Γ R r) (hi : i < 8) : 25 * r + 14 + i ∈ gcs Γ := by
  have := h.2.1 (14 + i) (by omega)
  rwa [← Nat.add_assoc] at this
theorem LV.wag {Γ : gX} {R : Nat → Nat → Option Nat} {r i : Nat} (h : LV Γ R r) (hi : i < 3) : 25 * r + 22 + i ∈ gcs Γ := by
  have := h.2.1 (22 + i) (by omega)
  rwa [← Nat.add_assoc] at this
theorem LV.s {Γ : gX} {R : Nat → Nat → Option Nat} {r i : Nat} (h : LV Γ R r) (hi : i < 10) : R (25 * r + 1) i = some (25 * r + 4 + i) := h.2.2.2.2.2.1 i hi
theorem LV.h {Γ : gX} {R : Nat → Nat → Option Nat} {r i : Nat} (h : LV Γ R r) (hi : i < 8) : R (25 * r + 2) i = some (25 * r + 14 + i) := h.2.2.2.2.2.2.1 i hi
theorem LV.w {Γ : gX} {R : Nat → Nat → Option Nat} {r i : Nat} (h : LV Γ R r) (hi : i < 3) : R (25 * r + 3) i = some (25 * r + 22 + i) := h.2.2.2.2.2.2.2 i hi
theorem va_back (M : Nat → Nat → Int32) {r r2 : Nat} (P : Nat → Int32) (h : r2 ≠ r) : va_up M r P = va_up (va_up M r P) r2 (M r2) := by
  have := va_up_id (va_up M r P) r2
  rw [va_up_ne _ _ h] at this
  exact this.symm
abbrev remI (x y : Int32) : Int32 := x - x / y * y
abbrev remL (x y : Int64) : Int64 := x - x / y * y
/-- a boolean as the machine has it -/
abbrev bI (c : Prop) [Decidable c] : Int32 := if c then 1 else 0
theorem bI_and (c : Prop) [Decidable c] : (if c then (1 : Int32) else 0) &&& 1 = if c then 1 else 0 := by
  by_cases h : c <;> simp [h]
/-- s is a number below n and below b -/
abbrev okI (s n b : Int32) : Prop := 0 ≤ s ∧ s < n ∧ s < b
theorem i32_nle {a b : Int32} (h : ¬ a ≤ b) : b < a := by
  rw [Int32.lt_iff_toInt_lt]; rw [Int32.le_iff_toInt_le] at h; omega
theorem i32_nlt {a b : Int32} (h : ¬ a < b) : b ≤ a := by
  rw [Int32.le_iff_toInt_le]; rw [Int32.lt_iff_toInt_lt] at h; omega
theorem i32_le_nlt {a b : Int32} (h : a ≤ b) : ¬ b < a := by
  rw [Int32.lt_iff_toInt_lt]; rw [Int32.le_iff_toInt_le] at h; omega
theorem i32_lt_nle {a b : Int32} (h : a < b) : ¬ b ≤ a := by
  rw [Int32.le_iff_toInt_le]; rw [Int32.lt_iff_toInt_lt] at h; omega
theorem ix_of {s b : Int32} {n : Nat} (hb : b = nI n) (hn : n < 2 ^ 31) (h0 : ¬ s < 0) (h1 : s < b) : ∃ j, j < n ∧ s = nI j := by
  obtain ⟨j, hj, rfl⟩ := nI_of h0
  subst hb
  exact ⟨j, (nI_ltI hj hn).mp h1, rfl⟩
theorem ix_in {s b : Int32} {n : Nat} (hb : b = nI n) (hn : n < 2 ^ 31) (h0 : ¬ s < 0) (h1 : s < b) : vp_in s n := by
  obtain ⟨j, hj, rfl⟩ := ix_of hb hn h0 h1
  exact vp_in_nI hj hn
theorem ix_lt {s b : Int32} {n : Nat} (hb : b = nI n) (hn : n < 2 ^ 31) (h0 : ¬ s < 0) (h1 : s < b) : s.toNatClampNeg < n := by
  obtain ⟨j, hj, rfl⟩ := ix_of hb hn h0 h1
  rw [nI_clamp (by omega)]
  exact hj
theorem okI_of {s n b : Int32} (h1 : ¬ s < 0) (h2 : ¬ n ≤ s) (h3 : ¬ b ≤ s) : okI s n b := ⟨i32_nlt h1, i32_nle h2, i32_nle h3⟩
theorem okI_no1 {s n b : Int32} (h : s < 0) : ¬ okI s n b := fun q => i32_le_nlt q.1 h
theorem okI_no2 {s n b : Int32} (h : n ≤ s) : ¬ okI s n b := fun q => i32_lt_nle q.2.1 h
theorem okI_no3 {s n b : Int32} (h : b ≤ s) : ¬ okI s n b := fun q => i32_lt_nle q.2.2 h
theorem okI_lt {s n b : Int32} {k : Nat} (hb : b = nI k) (hk : k < 2 ^ 31) (h : okI s n b) : s.toNatClampNeg < k := ix_lt hb hk (i32_le_nlt h.1) h.2.2
theorem cl_le (a : Int32) : a ≤ nI a.toNatClampNeg := by
  by_cases h : a < 0
  · rw [Int32.le_iff_toInt_le, nI_toInt (by have := a.toInt_lt; unfold Int32.toNatClampNeg; omega)]
    rw [Int32.lt_iff_toInt_lt] at h
    have : (0 : Int32).toInt = 0 := rfl
    omega
  · obtain ⟨j, hj, rfl⟩ := nI_of h
    rw [nI_clamp hj]
    exact Int32.le_refl _
theorem cl_ge {a : Int32} {k : Nat} (hk : k < a.toNatClampNeg) : ¬ a ≤ nI k := by
  by_cases h : a < 0
  · exfalso
    rw [Int32.lt_iff_toInt_lt] at h
    have h0 : (0 : Int32).toInt = 0 := rfl
    unfold Int32.toNatClampNeg at hk
    omega
  · obtain ⟨j, hj, rfl⟩ := nI_of h
    rw [nI_clamp hj] at hk
    exact nI_ge hk hj
theorem okI_k {k b : Nat} {n bb : Int32} (hbb : bb = nI b) (hk : k < n.toNatClampNeg) (hb : k < b) (hb2 : b < 2 ^ 31) : okI (nI k) n bb := by
  refine ⟨nI_pos' (by omega), i32_nle (cl_ge hk), ?_⟩
  subst hbb
  exact nI_lt hb hb2
theorem fits_bool {x : Int32} (h : x &&& 1 = x) : fits .boolean (.int x) = true := by
  obtain ⟨j, hj, e⟩ := pk_andE x (m := 1) 1 (by decide)
  rw [h] at e
  subst e
  rcases (show j = 0 ∨ j = 1 by omega) with rfl | rfl <;> rfl
section GL
variable {p : Program} {l : Launch} {e : Env} {RR : Room} {s : State} {m : MethodId} {args : Array Value} {below : List Frame} {meth : Method} {c : Code} {H : Heap} {locs : List Loc} {cells slots : Nat} {Q : State → Prop}
variable {cc : ByteArray} {pc : Nat} {ls : Array Slot} {rest : List Value}
theorem gl_eq (hexec : p.tables.exec = Jvm.exec) (hb : c.code = cc) {x y : Int64} {off : Int} {tgt : Nat} (hdg : decode cc pc = .ok (.ifCond .eq off, 3)) (ht : (pc : Int) + off = (tgt : Int))
    (kt : x = y → W p l e RR s m args below meth c H locs cells slots Q (F0 m tgt ls rest)) (kf : ¬ x = y → W p l e RR s m args below meth c H locs cells slots Q (F0 m (pc + 3) ls rest)) : W p l e RR s m args below meth c H locs cells slots Q (F0 m pc ls (.int (lg_cmp x y) :: rest)) :=
  lv_if_eq hexec hb hdg ht (fun h => kt ((lg_cmp_eq x y).mp h)) (fun h => kf (fun q => h ((lg_cmp_eq x y).mpr q)))
theorem gl_ne (hexec : p.tables.exec = Jvm.exec) (hb : c.code = cc) {x y : Int64} {off : Int} {tgt : Nat} (hdg : decode cc pc = .ok (.ifCond .ne off, 3)) (ht : (pc : Int) + off = (tgt : Int))
    (kt : ¬ x = y → W p l e RR s m args below meth c H locs cells slots Q (F0 m tgt ls rest)) (kf : x = y → W p l e RR s m args below meth c H locs cells slots Q (F0 m (pc + 3) ls rest)) : W p l e RR s m args below meth c H locs cells slots Q (F0 m pc ls (.int (lg_cmp x y) :: rest)) :=
  lv_if_ne hexec hb hdg ht (fun h => kt (fun q => h ((lg_cmp_eq x y).mpr q))) (fun h => kf ((lg_cmp_eq x y).mp h))
theorem gl_lt (hexec : p.tables.exec = Jvm.exec) (hb : c.code = cc) {x y : Int64} {off : Int} {tgt : Nat} (hdg : decode cc pc = .ok (.ifCond .lt off, 3)) (ht : (pc : Int) + off = (tgt : Int))
    (kt : x < y → W p l e RR s m args below meth c H locs cells slots Q (F0 m tgt ls rest)) (kf : ¬ x < y → W p l e RR s m args below meth c H locs cells slots Q (F0 m (pc + 3) ls rest)) : W p l e RR s m args below meth c H locs cells slots Q (F0 m pc ls (.int (lg_cmp x y) :: rest)) :=
  lv_if_lt hexec hb hdg ht (fun h => kt ((lg_cmp_lt x y).mp h)) (fun h => kf (fun q => h ((lg_cmp_lt x y).mpr q)))
theorem gl_ge (hexec : p.tables.exec = Jvm.exec) (hb : c.code = cc) {x y : Int64} {off : Int} {tgt : Nat} (hdg : decode cc pc = .ok (.ifCond .ge off, 3)) (ht : (pc : Int) + off = (tgt : Int))
    (kt : y ≤ x → W p l e RR s m args below meth c H locs cells slots Q (F0 m tgt ls rest)) (kf : ¬ y ≤ x → W p l e RR s m args below meth c H locs cells slots Q (F0 m (pc + 3) ls rest)) : W p l e RR s m args below meth c H locs cells slots Q (F0 m pc ls (.int (lg_cmp x y) :: rest)) :=
  lv_if_ge hexec hb hdg ht (fun h => kt ((lg_cmp_ge x y).mp h)) (fun h => kf (fun q => h ((lg_cmp_ge x y).mpr q)))
theorem gl_gt (hexec : p.tables.exec = Jvm.exec) (hb : c.code = cc) {x y : Int64} {off : Int} {tgt : Nat} (hdg : decode cc pc = .ok (.ifCond .gt off, 3)) (ht : (pc : Int) + off = (tgt : Int))
    (kt : y < x → W p l e RR s m args below meth c H locs cells slots Q (F0 m tgt ls rest)) (kf : ¬ y < x → W p l e RR s m args below meth c H locs cells slots Q (F0 m (pc + 3) ls rest)) : W p l e RR s m args below meth c H locs cells slots Q (F0 m pc ls (.int (lg_cmp x y) :: rest)) :=
  lv_if_gt hexec hb hdg ht (fun h => kt ((lg_cmp_gt x y).mp h)) (fun h => kf (fun q => h ((lg_cmp_gt x y).mpr q)))
theorem gl_le (hexec : p.tables.exec = Jvm.exec) (hb : c.code = cc) {x y : Int64} {off : Int} {tgt : Nat} (hdg : decode cc pc = .ok (.ifCond .le off, 3)) (ht : (pc : Int) + off = (tgt : Int))
    (kt : x ≤ y → W p l e RR s m args below meth c H locs cells slots Q (F0 m tgt ls rest)) (kf : ¬ x ≤ y → W p l e RR s m args below meth c H locs cells slots Q (F0 m (pc + 3) ls rest)) : W p l e RR s m args below meth c H locs cells slots Q (F0 m pc ls (.int (lg_cmp x y) :: rest)) :=
  lv_if_le hexec hb hdg ht (fun h => kt ((lg_cmp_le x y).mp h)) (fun h => kf (fun q => h ((lg_cmp_le x y).mpr q)))
/-- a loop: N turns, an invariant of the turn's number -/
theorem g_loop {N : Nat} (Inv : Nat → Heap → List Loc → Array Slot → Prop) (exit : ∀ (H : Heap) (locs : List Loc) (ls : Array Slot), Inv N H locs ls → W p l e RR s m args below meth c H locs cells slots Q (F0 m pc ls rest))
    (step : ∀ k, k < N → (∀ (H : Heap) (locs : List Loc) (ls : Array Slot), Inv (k + 1) H locs ls → W p l e RR s m args below meth c H locs cells slots Q (F0 m pc ls rest)) → ∀ (H : Heap) (locs : List Loc) (ls : Array Slot), Inv k H locs ls → W p l e RR s m args below meth c H locs cells slots Q (F0 m pc ls rest)) :
    ∀ (k : Nat), k ≤ N → ∀ (H : Heap) (locs : List Loc) (ls : Array Slot), Inv k H locs ls → W p l e RR s m args below meth c H locs cells slots Q (F0 m pc ls rest) := by
  have key : ∀ (j k : Nat), k + j = N → ∀ (H : Heap) (locs : List Loc) (ls : Array Slot), Inv k H locs ls → W p l e RR s m args below meth c H locs cells slots Q (F0 m pc ls rest) := by
    intro j
    induction j with
    | zero =>
      intro k hk H locs ls h
      have hk : k = N := hk
      subst hk
      exact exit H locs ls h
    | succ j ih =>
      intro k hk
      exact step k (by omega) (ih (k + 1) (by omega))
  intro k hk
  exact key (N - k) k (by omega)
end GL
