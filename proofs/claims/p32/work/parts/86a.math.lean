/-! MATH: bounded numbers, live slots, loops over windows. -/
def nn (b : Nat) (x : Int32) : Prop := x = nI x.toNatClampNeg ∧ x.toNatClampNeg ≤ b
theorem nn.of {b n : Nat} {x : Int32} (h : x = nI n) (hn : n ≤ b) (hb : b < 2 ^ 31) : nn b x := by
  subst h
  unfold nn
  rw [nI_clamp (by omega)]
  exact ⟨rfl, hn⟩
theorem nn.ex {b : Nat} {x : Int32} (h : nn b x) : ∃ n, n ≤ b ∧ x = nI n ∧ x.toNatClampNeg = n := ⟨_, h.2, h.1, rfl⟩
theorem nn.le {a b : Nat} {x : Int32} (h : nn a x) (hb : a ≤ b) : nn b x := ⟨h.1, Nat.le_trans h.2 hb⟩
theorem nn.add {a b : Nat} {x y : Int32} (h : nn a x) (h2 : nn b y) (hb : a + b < 2 ^ 31) : nn (a + b) (x + y) := by
  obtain ⟨n, hn, e, -⟩ := h.ex
  obtain ⟨m, hm, e2, -⟩ := h2.ex
  exact nn.of (n := n + m) (by rw [e, e2, nI_add]) (by omega) hb
theorem nn.mul {a b : Nat} {x y : Int32} (h : nn a x) (h2 : nn b y) (hb : a * b < 2 ^ 31) : nn (a * b) (x * y) := by
  obtain ⟨n, hn, e, -⟩ := h.ex
  obtain ⟨m, hm, e2, -⟩ := h2.ex
  exact nn.of (n := n * m) (by rw [e, e2, pk_mul]) (Nat.mul_le_mul hn hm) hb
theorem nn.div {a d : Nat} {x : Int32} (h : nn a x) (h0 : 0 < d) (hd : d < 2 ^ 31) (ha : a < 2 ^ 31) : nn (a / d) (x / nI d) := by
  obtain ⟨n, hn, e, -⟩ := h.ex
  exact nn.of (n := n / d) (by rw [e, pk_div (by omega) h0 hd]) (Nat.div_le_div_right hn) (Nat.lt_of_le_of_lt (Nat.div_le_self a d) ha)
theorem nn.not_neg {b : Nat} {x : Int32} (h : nn b x) (hb : b < 2 ^ 31) : ¬ x < 0 := by
  rw [h.1]
  exact nI_pos (Nat.lt_of_le_of_lt h.2 hb)
theorem nn.sub {a b : Nat} {x y : Int32} (h : nn a x) (h2 : nn b y) (hb : b ≤ a) (hle : y.toNatClampNeg ≤ x.toNatClampNeg) (ha : a < 2 ^ 31) : nn a (x - y) := by
  obtain ⟨n, hn, e, e'⟩ := h.ex
  obtain ⟨m, hm, e2, e2'⟩ := h2.ex
  rw [e', e2'] at hle
  exact nn.of (n := n - m) (by rw [e, e2, pk_sub hle]) (by omega) ha
/-- the smaller of a number and a written one -/
theorem nn.min {a k : Nat} {x : Int32} (h : nn a x) (ha : a < 2 ^ 31) (hk : k < 2 ^ 31) : nn k (if x < nI k then x else nI k) := by
  by_cases q : x < nI k
  · rw [if_pos q]
    obtain ⟨n, hn, e, -⟩ := h.ex
    rw [e] at q
    exact nn.of e (by have := (nI_ltI (by omega) hk).mp q; omega) hk
  · rw [if_neg q]
    exact nn.of rfl (Nat.le_refl _) hk
/-- what is left, not below 0 -/
theorem nn.max0 {a b : Nat} {x y : Int32} (h : nn a x) (h2 : nn b y) (ha : a < 2 ^ 30) (hb : b < 2 ^ 30) : nn a (if 0 < x - y then x - y else 0) := by
  by_cases q : 0 < x - y
  · rw [if_pos q]
    refine h.sub (b := y.toNatClampNeg) ⟨h2.1, Nat.le_refl _⟩ ?_ ?_ (by omega)
    all_goals
      obtain ⟨n, hn, e, e'⟩ := h.ex
      obtain ⟨m, hm, e2, e2'⟩ := h2.ex
      rw [Int32.lt_iff_toInt_lt, e, e2, pk_sub_toInt (by omega) (by omega)] at q
      have h0 : (0 : Int32).toInt = 0 := rfl
      omega
  · rw [if_neg q]
    exact nn.of nI_0.symm (Nat.zero_le _) (by omega)
theorem nn.lt {a b : Nat} {x y : Int32} (h : nn a x) (h2 : nn b y) (ha : a < 2 ^ 31) (hb : b < 2 ^ 31) : x < y ↔ x.toNatClampNeg < y.toNatClampNeg := by
  have p := h.2
  have q := h2.2
  conv => lhs; rw [h.1, h2.1]
  exact nI_ltI (by omega) (by omega)
theorem nn.lit (n : Nat) (hn : n < 2 ^ 31) : nn n (nI n) := nn.of rfl (Nat.le_refl _) hn
/-- the slots that stand for something -/
def lv (s h w j : Nat) : Prop := j < 12 ∨ (12 ≤ j ∧ j < 12 + 7 * s) ∨ (82 ≤ j ∧ j < 82 + 5 * h) ∨ (122 ≤ j ∧ j < 122 + 3 * w)
/-- a page of the class beside one of the reference: the same in the slots that stand for something -/
def Rl (P N : Nat → Int32) : Prop := ∀ j, lv (N 0).toNatClampNeg (N 1).toNatClampNeg (N 2).toNatClampNeg j → P j = N j
theorem Rl.hd {P N : Nat → Int32} (h : Rl P N) {j : Nat} (hj : j < 12) : P j = N j := h j (Or.inl hj)
theorem Rl.sg {P N : Nat → Int32} (h : Rl P N) {i k j : Nat} (hi : i < (N 0).toNatClampNeg) (hk : k < 7) (hj : j = 12 + 7 * i + k) : P j = N j := h _ (Or.inr (Or.inl (by omega)))
theorem Rl.ho {P N : Nat → Int32} (h : Rl P N) {i k j : Nat} (hi : i < (N 1).toNatClampNeg) (hk : k < 5) (hj : j = 82 + 5 * i + k) : P j = N j := h _ (Or.inr (Or.inr (Or.inl (by omega))))
theorem Rl.wa {P N : Nat → Int32} (h : Rl P N) {i k j : Nat} (hi : i < (N 2).toNatClampNeg) (hk : k < 3) (hj : j = 122 + 3 * i + k) : P j = N j := h _ (Or.inr (Or.inr (Or.inr (by omega))))
theorem Rl.up {P N : Nat → Int32} (h : Rl P N) {j : Nat} {x y : Int32} (hj : 3 ≤ j) (hx : x = y) : Rl (upd P j x) (upd N j y) := by
  subst hx
  intro k hk
  rw [pk_un (show 0 ≠ j by omega), pk_un (show 1 ≠ j by omega), pk_un (show 2 ≠ j by omega)] at hk
  unfold upd
  by_cases q : k = j
  · rw [if_pos q, if_pos q]
  · rw [if_neg q, if_neg q]; exact h k hk
theorem upd_comm (f : Nat → Int32) {a b : Nat} (x y : Int32) (h : a ≠ b) : upd (upd f a x) b y = upd (upd f b y) a x := by
  funext j
  unfold upd
  by_cases h1 : j = a <;> by_cases h2 : j = b <;> simp [h1, h2]
  · exact absurd (h1.symm.trans h2) h
  · intro e; exact absurd e h
  · intro e; exact absurd e.symm h
theorem upd_same (f : Nat → Int32) (a : Nat) (x y : Int32) : upd (upd f a x) a y = upd f a y := by
  funext j; unfold upd; by_cases h : j = a <;> simp [h]
theorem upd_id (f : Nat → Int32) (a : Nat) (x : Int32) (h : x = f a) : upd f a x = f := by
  funext j; unfold upd; by_cases q : j = a
  · rw [if_pos q, q, h]
  · rw [if_neg q]
/-- the page with these counts, beside another -/
theorem Rl.of {P N P' N' : Nat → Int32} (h0 : N' 0 = N 0) (h1 : N' 1 = N 1) (h2 : N' 2 = N 2) (h : ∀ j, lv (N 0).toNatClampNeg (N 1).toNatClampNeg (N 2).toNatClampNeg j → P' j = N' j) : Rl P' N' := by
  intro j hj
  rw [h0, h1, h2] at hj
  exact h j hj
/-- a loop whose turn k touches only its window, and looks only there and at the head -/
abbrev lpT (Wn : Nat → Nat → Prop) (S : (Nat → Int32) → Nat → Nat → Int32) (L : Nat → Nat → Int32) (P : Nat → Int32) : Prop := ∀ n, (∀ j, (∀ k, k < n → ¬ Wn k j) → L n j = P j) ∧ (∀ k, k < n → ∀ j, Wn k j → L n j = S P k j)
theorem lp {Wn : Nat → Nat → Prop} (hd : ∀ k k' j, Wn k j → Wn k' j → k = k') (hh : ∀ k j, Wn k j → 12 ≤ j) {S : (Nat → Int32) → Nat → Nat → Int32} {L : Nat → Nat → Int32} {P : Nat → Int32} (h0 : L 0 = P) (hs : ∀ k, L (k + 1) = S (L k) k) (h1 : ∀ Q k j, ¬ Wn k j → S Q k j = Q j) (h2 : ∀ Q Q' k, (∀ j, j < 12 → Q j = Q' j) → (∀ j, Wn k j → Q j = Q' j) → ∀ j, Wn k j → S Q k j = S Q' k j) : lpT Wn S L P := by
  intro n
  induction n with
  | zero => exact ⟨fun j _ => by rw [h0], fun k hk => absurd hk (Nat.not_lt_zero _)⟩
  | succ n ih =>
    refine ⟨fun j hj => ?_, fun k hk j hj => ?_⟩
    · rw [hs, h1 _ _ _ (hj n (Nat.lt_succ_self n))]
      exact ih.1 j (fun k hk => hj k (Nat.lt_succ_of_lt hk))
    · rw [hs]
      by_cases q : k = n
      · subst q
        refine h2 _ _ _ (fun i hi => ih.1 i (fun k' _ hw => ?_)) (fun i hi => ih.1 i (fun k' hk' hw => ?_)) j hj
        · have := hh k' i hw
          omega
        · have := hd k' k i hw hi
          omega
      · rw [h1 _ _ _ (fun hw => q (hd k n j hj hw))]
        exact ih.2 k (by omega) j hj
abbrev sW (k j : Nat) : Prop := 12 + 7 * k ≤ j ∧ j < 12 + 7 * k + 7
abbrev wW (k j : Nat) : Prop := 122 + 3 * k ≤ j ∧ j < 122 + 3 * k + 3
theorem sW_d (k k' j : Nat) (h : sW k j) (h2 : sW k' j) : k = k' := by omega
theorem wW_d (k k' j : Nat) (h : wW k j) (h2 : wW k' j) : k = k' := by omega
theorem sW_h (k j : Nat) (h : sW k j) : 12 ≤ j := by omega
theorem wW_h (k j : Nat) (h : wW k j) : 12 ≤ j := by omega
theorem sW_k {k j : Nat} (h : sW k j) : j = 12 + 7 * k ∨ j = 12 + 7 * k + 1 ∨ j = 12 + 7 * k + 2 ∨ j = 12 + 7 * k + 3 ∨ j = 12 + 7 * k + 4 ∨ j = 12 + 7 * k + 5 ∨ j = 12 + 7 * k + 6 := by omega
