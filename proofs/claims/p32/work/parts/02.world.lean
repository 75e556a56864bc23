abbrev vwCl : List vw_C := [(RX0, TX0, 2), (RX1, TX1, 5), (RX2, TX2, 15), (RX3, TX3, 7), (RX4, TX4, 4), (RX5, TX5, 3), (RX6, TX6, 7), (RX6, TX6, 7)]
/-! THE WORLD. Cells have fixed numbers c (0 to 491); Γ says at which address each lies, which cells there are. The state is M (blocks of ints), R (references, by cell and slot), O (the law's one long). -/
abbrev gX : Type := va_G × (Nat → ClassId) × (Nat → Nat) × (Nat → Prop) × List Nat
abbrev gad (Γ : gX) : Nat → Nat := Γ.2.2.1
abbrev gcs (Γ : gX) : List Nat := Γ.2.2.2.2
def gA (Γ : gX) : Nat → Prop := Γ.2.2.2.1
/-- within a road's 25 cells: kind and offset in its page -/
def gO (a : Nat) : Nat × Nat := if a = 0 then (2, 0) else if a = 1 then (13, 0) else if a = 2 then (11, 0) else if a = 3 then (14, 0) else if a < 14 then (3, 12 + 7 * (a - 4)) else if a < 22 then (1, 82 + 5 * (a - 14)) else (5, 122 + 3 * (a - 22))
/-- the other cells: kind and block -/
def gO2 (c : Nat) : Nat × Nat := if c = 475 then (6, 32) else if c = 476 then (4, 19) else if c = 477 then (8, 20) else if c = 478 then (0, 21) else if c = 479 then (12, 33) else if c = 480 then (12, 34) else if c = 481 then (10, 22) else if c = 482 then (9, 23) else if c = 483 then (7, 24) else if c = 484 then (9, 25) else if c = 485 then (9, 26) else if c = 486 then (9, 27) else if c = 487 then (9, 28) else if c = 488 then (9, 29) else if c = 489 then (9, 30) else if c = 490 then (10, 31) else (15, 35)
/-- kind, block, offset of a cell -/
def gC (c : Nat) : Nat × Nat × Nat := if c < 475 then ((gO (c % 25)).1, c / 25, (gO (c % 25)).2) else ((gO2 c).1, (gO2 c).2, 0)
def gLen (c : Nat) : Nat := if c < 475 then (if c % 25 = 1 then 10 else if c % 25 = 2 then 8 else 3) else if c = 477 then 70 else if c = 479 then 15 else if c = 480 then 2 else if c = 481 then 2 else if c = 482 then 4 else if c = 484 then 70 else if c = 485 then 131 else if c = 486 then 131 else if c = 487 then 131 else if c = 488 then 1834 else if c = 489 then 262 else if c = 490 then 2 else 1
def gSz (k : Nat) : Nat := if k = 0 then 2 else if k = 1 then 5 else if k = 2 then 15 else if k = 3 then 7 else if k = 4 then 4 else if k = 5 then 3 else if k = 6 then 7 else 11
/-- is the slot j of kind k a reference -/
def gRf (k j : Nat) : Bool := if k = 0 then j == 0 else if k = 2 then Nat.ble 12 j else if k = 4 then j == 0 else if k = 6 then true else if k = 7 then (j == 1 || (Nat.ble 4 j && Nat.ble j 7) || Nat.ble 9 j) else false
def gTyk (k : Nat) : Option FieldType := if k = 8 then some .char else if k = 9 then some .int else if k = 10 then some .boolean else if k = 11 then some (.object "RoadDust$House") else if k = 12 then some (.object "RoadDust$Road") else if k = 13 then some (.object "RoadDust$Segment") else if k = 14 then some (.object "RoadDust$Wagon") else if k = 15 then some .long else none
def gFd (ci c b o : Nat) (ad : Nat → Nat) (M : Nat → Nat → Int32) (R : Nat → Nat → Option Nat) (k : Nat) : Value := if gRf ci k = true then va_rf ((R c k).map ad) else .int (M b (o + k))
def gEk (ci b o : Nat) (aC : Nat → ClassId) (ad : Nat → Nat) (M : Nat → Nat → Int32) (R : Nat → Nat → Option Nat) (O : Int64) (c : Nat) : va_E :=
  if ci < 8 then .inr (ci, (List.range (gSz ci)).map (gFd ci c b o ad M R)) else if ci < 11 then .inl (aC c, gLen c, .inl (M b)) else if ci < 15 then .inl (aC c, gLen c, .inr (.inr (.inr (.inr (fun j => (R c j).map ad))))) else .inl (aC c, gLen c, .inr (.inl (fun _ => O)))
def gEnt (aC : Nat → ClassId) (ad : Nat → Nat) (M : Nat → Nat → Int32) (R : Nat → Nat → Option Nat) (O : Int64) (c : Nat) : va_E := gEk (gC c).1 (gC c).2.1 (gC c).2.2 aC ad M R O c
def gL (aC : Nat → ClassId) (ad : Nat → Nat) (M : Nat → Nat → Int32) (R : Nat → Nat → Option Nat) (O : Int64) (cs : List Nat) : va_W := cs.map (fun c => (ad c, gEnt aC ad M R O c))
def gT (aC : Nat → ClassId) (cs : List Nat) : List (ClassId × FieldType) := cs.filterMap (fun c => (gTyk (gC c).1).map (fun ty => (aC c, ty)))
def GH (Γ : gX) (M : Nat → Nat → Int32) (R : Nat → Nat → Option Nat) (O : Int64) (H : Heap) : Prop := va_P Γ.1 vwCl (gL Γ.2.1 Γ.2.2.1 M R O Γ.2.2.2.2) H ∧ va_D (gA Γ) (gL Γ.2.1 Γ.2.2.1 M R O Γ.2.2.2.2)
/-- the links of private methods among nest mates -/
def gNest : List Cond := [.methodLinkNest RX6 9 yX4_init "RoadDust", .methodLinkNest RX2 29 yX3_init "RoadDust", .methodLinkNest RX2 30 yX1_init "RoadDust", .methodLinkNest RX2 31 yX5_init "RoadDust", .methodLinkNest RX4 15 yX6_within "RoadDust", .methodLinkNest RX2 103 yX6_within "RoadDust"]
def GN (U : State) : Prop := va_Nw (.methodLinkNest RX6 9 yX4_init "RoadDust") U ∧ va_Nw (.methodLinkNest RX2 29 yX3_init "RoadDust") U ∧ va_Nw (.methodLinkNest RX2 30 yX1_init "RoadDust") U ∧ va_Nw (.methodLinkNest RX2 31 yX5_init "RoadDust") U ∧ va_Nw (.methodLinkNest RX4 15 yX6_within "RoadDust") U ∧ va_Nw (.methodLinkNest RX2 103 yX6_within "RoadDust") U
def GK (Γ : gX) (U : State) : Prop := va_K Γ.1 vwCl (gT Γ.2.1 Γ.2.2.2.2) U ∧ GN U
def GZ (Γ : gX) (U : State) (H : Heap) : Prop := vx_Zq Bundle.tN "UNASSIGNED_STACK" Bundle.steD (gA Γ) U H ∧ vx_Zq Bundle.tN "SUPPRESSED_SENTINEL" Bundle.listD (gA Γ) U H ∧ ∀ q : Nat, H.size ≤ q → gA Γ q
theorem GN.warm {s U : State} (hW : s.WarmedH U.vm) (h : GN s) : GN U := ⟨va_Nw.warmM hW h.1, va_Nw.warmM hW h.2.1, va_Nw.warmM hW h.2.2.1, va_Nw.warmM hW h.2.2.2.1, va_Nw.warmM hW h.2.2.2.2.1, va_Nw.warmM hW h.2.2.2.2.2⟩
theorem GN.same {u U : State} (hv : u.vm = U.vm) (h : GN u) : GN U := ⟨va_Nw.same rfl hv h.1, va_Nw.same rfl hv h.2.1, va_Nw.same rfl hv h.2.2.1, va_Nw.same rfl hv h.2.2.2.1, va_Nw.same rfl hv h.2.2.2.2.1, va_Nw.same rfl hv h.2.2.2.2.2⟩
theorem GK.warm {Γ : gX} {s U : State} (hW : s.WarmedH U.vm) (h : GK Γ s) : GK Γ U := ⟨va_K.moved hW.alike h.1, h.2.warm hW⟩
theorem GK.same {Γ : gX} {u U : State} (hv : u.vm = U.vm) (h : GK Γ u) : GK Γ U := ⟨va_K.moved (by rw [← hv]; exact Vm.Alike.refl u.vm) h.1, h.2.same hv⟩
theorem GZ.moved {Γ : gX} {u U : State} {H : Heap} (hv : u.vm.Alike U.vm) (h : GZ Γ u H) : GZ Γ U H := ⟨vx_Zq.moved hv h.1, vx_Zq.moved hv h.2.1, h.2.2⟩
theorem GZ.kept {Γ : gX} {U : State} {H H1 : Heap} (h : GZ Γ U H) (hz : H.size ≤ H1.size) (hq : ∀ a : Nat, a < H.size → ¬ gA Γ a → H1[a]? = H[a]?) : GZ Γ U H1 := ⟨h.1.kept hq, h.2.1.kept hq, fun q hq => h.2.2 q (Nat.le_trans hz hq)⟩
def up2 (M : Nat → Nat → Int32) (b j : Nat) (x : Int32) : Nat → Nat → Int32 := va_up M b (upd (M b) j x)
def up2R (R : Nat → Nat → Option Nat) (c j : Nat) (x : Option Nat) : Nat → Nat → Option Nat := va_up R c (va_up (R c) j x)
theorem va_up_eq {α : Type} (f : Nat → α) (k : Nat) (v : α) : va_up f k v k = v := if_pos rfl
theorem va_up_up {α : Type} (f : Nat → α) (k : Nat) (v w : α) : va_up (va_up f k v) k w = va_up f k w := by
  funext j; unfold va_up; by_cases h : j = k <;> simp [h]
theorem va_up_id {α : Type} (f : Nat → α) (k : Nat) : va_up f k (f k) = f := by
  funext j; unfold va_up; by_cases h : j = k <;> simp [h]
theorem va_up_comm {α : Type} (f : Nat → α) {k j : Nat} (v w : α) (h : k ≠ j) : va_up (va_up f k v) j w = va_up (va_up f j w) k v := by
  funext i; unfold va_up; by_cases h1 : i = k <;> by_cases h2 : i = j <;> simp [h1, h2]
  · exact absurd (h1.symm.trans h2) h
  · intro e; exact absurd e h
  · intro e; exact absurd e.symm h
theorem up2_page (M : Nat → Nat → Int32) (r j : Nat) (P : Nat → Int32) (x : Int32) : up2 (va_up M r P) r j x = va_up M r (upd P j x) := by
  unfold up2; rw [va_up_eq, va_up_up]
theorem gU_at (M : Nat → Nat → Int32) (r j : Nat) (P : Nat → Int32) : va_up M r P r j = P j := by rw [va_up_eq]
-- the numbers of cells
def gO_chk (a a' k k' : Nat) : Bool := a == a' || Nat.ble 8 (gO a).1 || Nat.ble 8 (gO a').1 || Nat.ble (if (gO a).1 = 2 then 12 else gSz (gO a).1) k || Nat.ble (if (gO a').1 = 2 then 12 else gSz (gO a').1) k' || !((gO a).2 + k == (gO a').2 + k')
theorem gO_all : ∀ a, a < 25 → ∀ a', a' < 25 → ∀ k, k < 12 → ∀ k', k' < 12 → gO_chk a a' k k' = true := by decide +kernel
theorem gO_fact (a : Nat) (h1 : a < 25) (a' : Nat) (h2 : a' < 25) (h3 : a ≠ a') (k : Nat) (h4 : k < 12) (k' : Nat) (h5 : k' < 12) (h6 : (gO a).1 < 8) (h7 : (gO a').1 < 8) (h8 : k < (if (gO a).1 = 2 then 12 else gSz (gO a).1)) (h9 : k' < (if (gO a').1 = 2 then 12 else gSz (gO a').1)) : (gO a).2 + k ≠ (gO a').2 + k' := by
  have h := gO_all a h1 a' h2 k h4 k' h5
  unfold gO_chk at h
  simp only [Bool.or_eq_true, beq_iff_eq, Nat.ble_eq, Bool.not_eq_true', beq_eq_false_iff_ne, ne_eq] at h
  omega
theorem gO_kind : ∀ a, a < 25 → (gO a).1 = 2 ∨ (gO a).1 = 13 ∨ (gO a).1 = 11 ∨ (gO a).1 = 14 ∨ (gO a).1 = 3 ∨ (gO a).1 = 1 ∨ (gO a).1 = 5 := by decide +kernel
theorem gO2_inj : ∀ c, c < 17 → ∀ c', c' < 17 → (gO2 (475 + c)).2 = (gO2 (475 + c')).2 → c = c' := by decide +kernel
theorem gO2_big : ∀ c, c < 17 → 19 ≤ (gO2 (475 + c)).2 := by decide +kernel
theorem gRf_k (k j : Nat) (h : gRf k j = false) (h2 : k = 2) (hj : j < 15) : j < 12 := by
  subst h2
  rcases Nat.lt_or_ge j 12 with q | q
  · exact q
  · exfalso
    have : Nat.ble 12 j = true := Nat.ble_eq.mpr q
    simp [gRf, this] at h
theorem gO2_ge (d : Nat) (h : 16 ≤ d) : gO2 (475 + d) = (15, 35) := by
  unfold gO2
  repeat rw [if_neg (by omega)]
theorem gC_lt {c : Nat} (h : c < 475) : gC c = ((gO (c % 25)).1, c / 25, (gO (c % 25)).2) := if_pos h
theorem gC_ge {c : Nat} (h : ¬ c < 475) : gC c = ((gO2 c).1, (gO2 c).2, 0) := if_neg h
theorem gC_far {c ci b o : Nat} (h : ¬ c < 475) (hC : gC c = (ci, b, o)) (hci : ci < 11) : ∃ d, d < 17 ∧ c = 475 + d ∧ b = (gO2 (475 + d)).2 ∧ 19 ≤ b := by
  obtain ⟨d, rfl⟩ : ∃ d, c = 475 + d := ⟨c - 475, by omega⟩
  rw [gC_ge h] at hC
  by_cases hd : d < 17
  · have hb : b = (gO2 (475 + d)).2 := by cases hC; rfl
    exact ⟨d, hd, rfl, hb, by rw [hb]; exact gO2_big d hd⟩
  · rw [gO2_ge d (by omega)] at hC
    cases hC
    omega
theorem gC_same {c c' ci ci' b o o' : Nat} (hC : gC c = (ci, b, o)) (hC' : gC c' = (ci', b, o')) (h1 : ci < 11) (h2 : ci' < 11) (hne : c' ≠ c) : c < 475 ∧ c' < 475 ∧ c % 25 ≠ c' % 25 := by
  by_cases a : c < 475 <;> by_cases a' : c' < 475
  · rw [gC_lt a] at hC
    rw [gC_lt a'] at hC'
    have e1 : c / 25 = b := by cases hC; rfl
    have e2 : c' / 25 = b := by cases hC'; rfl
    exact ⟨a, a', by omega⟩
  · rw [gC_lt a] at hC
    have e1 : c / 25 = b := by cases hC; rfl
    obtain ⟨d, -, -, -, h⟩ := gC_far a' hC' h2
    omega
  · rw [gC_lt a'] at hC'
    have e1 : c' / 25 = b := by cases hC'; rfl
    obtain ⟨d, -, -, -, h⟩ := gC_far a hC h1
    omega
  · obtain ⟨d, hd, e1, e2, -⟩ := gC_far a hC h1
    obtain ⟨d', hd', e1', e2', -⟩ := gC_far a' hC' h2
    have := gO2_inj d hd d' hd' (e2.symm.trans e2')
    omega
theorem gC_arr {c ci b o : Nat} (h : c < 475) (hC : gC c = (ci, b, o)) : ci < 8 ∨ 11 ≤ ci := by
  rw [gC_lt h] at hC
  have hk := gO_kind (c % 25) (Nat.mod_lt _ (by decide))
  cases hC
  omega
theorem gSlot_lt {ci k : Nat} (hk : k < gSz ci) (hr : gRf ci k = false) : k < (if ci = 2 then 12 else gSz ci) := by
  by_cases h : ci = 2
  · rw [if_pos h]
    subst h
    exact gRf_k 2 k hr rfl hk
  · rw [if_neg h]; exact hk
theorem gSz_12 {ci k : Nat} (h : ci = 2 ∨ ci = 3 ∨ ci = 1 ∨ ci = 5) (hk : k < (if ci = 2 then 12 else gSz ci)) : k < 12 := by
  rcases h with h | h | h | h <;> subst h <;> simp [gSz] at hk <;> omega
theorem gC_apart {c c' ci ci' b o o' k k' : Nat} (hC : gC c = (ci, b, o)) (hC' : gC c' = (ci', b, o')) (h1 : ci < 8) (h2 : ci' < 8) (hne : c' ≠ c) (hk : k < (if ci = 2 then 12 else gSz ci)) (hk' : k' < (if ci' = 2 then 12 else gSz ci')) : o + k ≠ o' + k' := by
  obtain ⟨a, a', hm⟩ := gC_same hC hC' (by omega) (by omega) hne
  rw [gC_lt a] at hC
  rw [gC_lt a'] at hC'
  have m1 := Nat.mod_lt c (show 25 > 0 by decide)
  have m2 := Nat.mod_lt c' (show 25 > 0 by decide)
  have k1 := gO_kind _ m1
  have k2 := gO_kind _ m2
  have e1 : (gO (c % 25)).1 = ci := by cases hC; rfl
  have e2 : (gO (c' % 25)).1 = ci' := by cases hC'; rfl
  have e3 : (gO (c % 25)).2 = o := by cases hC; rfl
  have e4 : (gO (c' % 25)).2 = o' := by cases hC'; rfl
  rw [← e3, ← e4]
  have q1 : ci = 2 ∨ ci = 3 ∨ ci = 1 ∨ ci = 5 := by omega
  have q2 : ci' = 2 ∨ ci' = 3 ∨ ci' = 1 ∨ ci' = 5 := by omega
  exact gO_fact _ m1 _ m2 hm k (gSz_12 q1 hk) k' (gSz_12 q2 hk') (by omega) (by omega) (by rw [e1]; exact hk) (by rw [e2]; exact hk')
theorem up2_at (M : Nat → Nat → Int32) (b j : Nat) (x : Int32) : up2 M b j x b j = x := by simp [up2, va_up, upd]
theorem up2_off (M : Nat → Nat → Int32) (b j : Nat) (x : Int32) {b' j' : Nat} (h : ¬ (b' = b ∧ j' = j)) : up2 M b j x b' j' = M b' j' := by
  unfold up2 va_up upd
  by_cases h1 : b' = b
  · subst h1
    by_cases h2 : j' = j
    · exact absurd ⟨rfl, h2⟩ h
    · simp [h2]
  · simp [h1]
/-- a written int slot of an object leaves the other cells -/
theorem gEnt_up {aC : Nat → ClassId} {ad : Nat → Nat} {M : Nat → Nat → Int32} {R : Nat → Nat → Option Nat} {O : Int64} {c c' ci b o k : Nat} {x : Int32} (hne : c' ≠ c) (hC : gC c = (ci, b, o)) (h8 : ci < 8) (hk : k < gSz ci) (hr : gRf ci k = false) : gEnt aC ad (up2 M b (o + k) x) R O c' = gEnt aC ad M R O c' := by
  obtain ⟨⟨ci', b', o'⟩, hx⟩ : ∃ z, gC c' = z := ⟨_, rfl⟩
  unfold gEnt
  rw [hx]
  show gEk ci' b' o' aC ad _ R O c' = gEk ci' b' o' aC ad M R O c'
  unfold gEk
  by_cases a : ci' < 8
  · rw [if_pos a, if_pos a]
    congr 2
    refine List.map_congr_left (fun k' hk' => ?_)
    have hk' := List.mem_range.mp hk'
    unfold gFd
    by_cases q : gRf ci' k' = true
    · rw [if_pos q, if_pos q]
    · rw [if_neg q, if_neg q]
      congr 1
      refine up2_off _ _ _ _ ?_
      rintro ⟨rfl, e⟩
      exact gC_apart hC hx h8 a hne (gSlot_lt hk hr) (gSlot_lt hk' (by simpa using q)) e.symm
  · rw [if_neg a, if_neg a]
    by_cases a2 : ci' < 11
    · rw [if_pos a2, if_pos a2]
      have hb : b' ≠ b := by
        rintro rfl
        obtain ⟨-, q, -⟩ := gC_same hC hx (by omega) a2 hne
        rcases gC_arr q hx with z | z <;> omega
      congr 4
      exact va_up_ne _ _ hb
    · rw [if_neg a2, if_neg a2]
/-- a written array leaves the other cells -/
theorem gEnt_upA {aC : Nat → ClassId} {ad : Nat → Nat} {M : Nat → Nat → Int32} {R : Nat → Nat → Option Nat} {O : Int64} {c c' ci b o j : Nat} {x : Int32} (hne : c' ≠ c) (hC : gC c = (ci, b, o)) (h8 : 8 ≤ ci) (h11 : ci < 11) : gEnt aC ad (up2 M b j x) R O c' = gEnt aC ad M R O c' := by
  obtain ⟨⟨ci', b', o'⟩, hx⟩ : ∃ z, gC c' = z := ⟨_, rfl⟩
  have hb : ci' < 11 → b' ≠ b := by
    rintro q rfl
    obtain ⟨q1, -, -⟩ := gC_same hC hx h11 q hne
    rcases gC_arr q1 hC with z | z <;> omega
  unfold gEnt
  rw [hx]
  show gEk ci' b' o' aC ad _ R O c' = gEk ci' b' o' aC ad M R O c'
  unfold gEk
  by_cases a : ci' < 8
  · rw [if_pos a, if_pos a]
    congr 2
    refine List.map_congr_left (fun k' hk' => ?_)
    unfold gFd
    rw [show up2 M b j x b' = M b' from va_up_ne _ _ (hb (by omega))]
  · rw [if_neg a, if_neg a]
    by_cases a2 : ci' < 11
    · rw [if_pos a2, if_pos a2]
      rw [show up2 M b j x b' = M b' from va_up_ne _ _ (hb a2)]
    · rw [if_neg a2, if_neg a2]
/-- a written reference leaves the other cells -/
theorem gEnt_upR {aC : Nat → ClassId} {ad : Nat → Nat} {M : Nat → Nat → Int32} {R : Nat → Nat → Option Nat} {O : Int64} {c c' j : Nat} {x : Option Nat} (hne : c' ≠ c) : gEnt aC ad M (up2R R c j x) O c' = gEnt aC ad M R O c' := by
  unfold gEnt gEk
  have e : up2R R c j x c' = R c' := va_up_ne _ _ hne
  have e2 : gFd (gC c').1 c' (gC c').2.1 (gC c').2.2 ad M (up2R R c j x) = gFd (gC c').1 c' (gC c').2.1 (gC c').2.2 ad M R := by
    funext k
    unfold gFd
    rw [e]
  rw [e, e2]
theorem gRange_get {α : Type} {n k : Nat} (f : Nat → α) (h : k < n) : ((List.range n).map f)[k]? = some (f k) := by
  rw [List.getElem?_map, List.getElem?_range h]; rfl
theorem gMap_set {α : Type} {n k : Nat} {f g : Nat → α} {v : α} (hk : g k = v) (ho : ∀ i, i ≠ k → g i = f i) : ((List.range n).map f).set k v = (List.range n).map g := by
  refine List.ext_getElem? (fun i => ?_)
  rw [List.getElem?_set, List.getElem?_map, List.getElem?_map, List.length_map, List.length_range]
  by_cases h : k = i
  · subst h
    rw [if_pos rfl]
    by_cases h2 : k < n
    · rw [if_pos h2, List.getElem?_range h2]; simp [hk]
    · rw [if_neg h2, List.getElem?_eq_none (by simpa using h2)]; rfl
  · rw [if_neg h]
    by_cases h2 : i < n
    · rw [List.getElem?_range h2]; simp [ho i (fun e => h e.symm)]
    · rw [List.getElem?_eq_none (by simpa using h2)]; rfl
theorem gL_get {aC : Nat → ClassId} {ad : Nat → Nat} {M : Nat → Nat → Int32} {R : Nat → Nat → Option Nat} {O : Int64} {cs : List Nat} {c : Nat} (h : c ∈ cs) : ∃ k : Nat, (gL aC ad M R O cs)[k]? = some (ad c, gEnt aC ad M R O c) ∧ cs[k]? = some c := by
  obtain ⟨k, hk⟩ := List.getElem?_of_mem h
  exact ⟨k, by unfold gL; rw [List.getElem?_map, hk]; rfl, hk⟩
theorem gL_set {A : Nat → Prop} {aC : Nat → ClassId} {ad : Nat → Nat} {M M' : Nat → Nat → Int32} {R R' : Nat → Nat → Option Nat} {O O' : Int64} {cs : List Nat} {c k : Nat} (hD : va_D A (gL aC ad M R O cs)) (hk : cs[k]? = some c) (ho : ∀ c', c' ≠ c → gEnt aC ad M' R' O' c' = gEnt aC ad M R O c') : (gL aC ad M R O cs).set k (ad c, gEnt aC ad M' R' O' c) = gL aC ad M' R' O' cs := by
  have hl : k < (gL aC ad M R O cs).length := by unfold gL; rw [List.length_map]; exact (List.getElem?_eq_some_iff.mp hk).1
  refine List.ext_getElem? (fun i => ?_)
  by_cases h : k = i
  · subst h
    rw [List.getElem?_set_self hl]
    unfold gL
    rw [List.getElem?_map, hk]
    rfl
  · rw [List.getElem?_set_ne h]
    unfold gL
    rw [List.getElem?_map, List.getElem?_map]
    cases hi : cs[i]? with
    | none => rfl
    | some c' =>
      have hne : c' ≠ c := by
        rintro rfl
        refine h (hD.1 k i (ad c', gEnt aC ad M R O c') (ad c', gEnt aC ad M R O c') ?_ ?_ rfl)
        · unfold gL; rw [List.getElem?_map, hk]; rfl
        · unfold gL; rw [List.getElem?_map, hi]; rfl
      simp [ho c' hne]
theorem gT_get {aC : Nat → ClassId} {cs : List Nat} {c : Nat} {ty : FieldType} (h : c ∈ cs) (ht : gTyk (gC c).1 = some ty) : ∃ k : Nat, (gT aC cs)[k]? = some (aC c, ty) := by
  refine List.getElem?_of_mem ?_
  unfold gT
  exact List.mem_filterMap.mpr ⟨c, h, by rw [ht]; rfl⟩
