/-! THE READER on the text that begin writes: its signs. -/
set_option maxRecDepth 16384
def RX (X : Nat → Int32) (t p : Nat) : Prop := X 1 = nI t ∧ X 2 = nI p ∧ X 3 = 0 ∧ p ≤ t ∧ t ≤ 70
theorem RX.next {X : Nat → Int32} {t p : Nat} (h : RX X t p) (hp : p < t) : RX (upd X 2 (X 2 + 1)) t (p + 1) := by
  obtain ⟨h1, h2, h3, h4, h5⟩ := h
  refine ⟨?_, ?_, ?_, hp, h5⟩
  · rw [pk_un (by decide)]; exact h1
  · rw [pk_us, h2, nI_1]
  · rw [pk_un (by decide)]; exact h3
theorem RX.sign {X G : Nat → Int32} {t p : Nat} (h : RX X t p) (hp : p < t) : fX4_signAt_v X G = G p := by
  obtain ⟨h1, h2, -, h4, h5⟩ := h
  unfold fX4_signAt_v
  rw [h1, h2, if_neg (show ¬ nI p < 0 from nI_nlt (b := 0) (Nat.zero_le _) (by omega)), if_neg (fun q => absurd (nI_lt (a := p) (b := t) hp (by omega)) (Int32.not_lt.mpr q)), if_neg (fun q => absurd (show nI p < 70 from nI_lt (a := p) (b := 70) (by omega) (by decide)) (Int32.not_lt.mpr q)), nI_clamp (by omega)]
theorem RX.signE {X G : Nat → Int32} {t : Nat} (h : RX X t t) : fX4_signAt_v X G = -1 := by
  obtain ⟨h1, h2, -, h4, h5⟩ := h
  unfold fX4_signAt_v
  rw [h1, h2, if_neg (show ¬ nI t < 0 from nI_nlt (b := 0) (Nat.zero_le _) (by omega)), if_pos (Int32.le_refl _)]
theorem RX.take {X G : Nat → Int32} {t p : Nat} (h : RX X t p) (hp : p < t) {c : Int32} (hG : G p = c) : fX4_takeSign_v X G c = 1 ∧ fX4_takeSign_X X G c = upd X 2 (X 2 + 1) := by
  have e : fX4_signAt_v X G = c := (h.sign hp).trans hG
  unfold fX4_takeSign_v fX4_takeSign_X
  rw [if_pos e, if_pos e]
  exact ⟨rfl, rfl⟩
theorem RX.leave {X G : Nat → Int32} {t p : Nat} (h : RX X t p) (hp : p < t) {c d : Int32} (hG : G p = d) (hd : ¬ d = c) : fX4_takeSign_v X G c = 0 ∧ fX4_takeSign_X X G c = X := by
  have e : ¬ fX4_signAt_v X G = c := by rw [h.sign hp, hG]; exact hd
  unfold fX4_takeSign_v fX4_takeSign_X
  rw [if_neg e, if_neg e]
  exact ⟨rfl, rfl⟩
/-- a digit within a mask -/
def mk (a : Int32) (d : Nat) : Prop := ¬ (a >>> (nI d &&& 31)) &&& 1 = 0
theorem w09 {d : Nat} (hd : d ≤ 9) : ¬ fX6_within_v (nI d) 0 9 = 0 := by
  unfold fX6_within_v
  rw [if_neg (show ¬ nI d < 0 from nI_nlt (b := 0) (Nat.zero_le _) (by omega)), if_neg (show ¬ (9 : Int32) < nI d from nI_nlt (a := 9) (b := d) (by omega) (by omega))]
  decide
theorem dg_sub {d : Nat} (hd : d ≤ 9) : nI (48 + d) - 48 = nI d := by
  have : ∀ d, d < 10 → nI (48 + d) - 48 = nI d := by decide +kernel
  exact this d (by omega)
theorem RX.digit {X G : Nat → Int32} {t p : Nat} (h : RX X t p) (hp : p < t) {d : Nat} (hd : d ≤ 9) (hG : G p = nI (48 + d)) {a : Int32} (hm : mk a d) : fX4_takeDigit_v X G a = nI d ∧ fX4_takeDigit_X X G a = upd X 2 (X 2 + 1) := by
  have e : fX4_signAt_v X G - 48 = nI d := by rw [h.sign hp, hG]; exact dg_sub hd
  unfold fX4_takeDigit_v fX4_takeDigit_X
  rw [e, if_neg (w09 hd), if_neg hm, if_neg (w09 hd), if_neg hm]
  exact ⟨rfl, rfl⟩
theorem RX.digitE {X G : Nat → Int32} {t : Nat} (h : RX X t t) (a : Int32) : fX4_takeDigit_v X G a = -1 ∧ fX4_takeDigit_X X G a = X := by
  have e : fX4_signAt_v X G = -1 := h.signE
  unfold fX4_takeDigit_v fX4_takeDigit_X
  rw [e, if_pos (by decide), if_pos (by decide)]
  exact ⟨rfl, rfl⟩
theorem mk_below {n d : Nat} (hn : n ≤ 10) (hd : d < n) : mk (fX4_below_v (nI n)) d := by
  have : ∀ n, n < 11 → ∀ d, d < 10 → d < n → ¬ (fX4_below_v (nI n) >>> (nI d &&& 31)) &&& 1 = 0 := by decide +kernel
  exact this n (by omega) d (by omega) hd
theorem mk_nz {d : Nat} (h1 : 1 ≤ d) (hd : d ≤ 9) : mk ((fX4_below_v 10) &&& ((fX4_below_v 1) ^^^ (-1))) d := by
  have : ∀ d, d < 10 → 1 ≤ d → ¬ (((fX4_below_v 10) &&& ((fX4_below_v 1) ^^^ (-1))) >>> (nI d &&& 31)) &&& 1 = 0 := by decide +kernel
  exact this d (by omega) h1
theorem ndm {d : Nat} (hd : d ≤ 9) : ¬ nI d = -1 := by
  have : ∀ d, d < 10 → ¬ nI d = -1 := by decide +kernel
  exact this d (by omega)
/-- the size: two digits, the first of them 0 -/
theorem RX.size {X G Q : Nat → Int32} {t p n : Nat} (h : RX X t p) (hp : p + 1 < t) (hn : 1 ≤ n ∧ n ≤ 9) (h0 : G p = 48) (h1 : G (p + 1) = nI (48 + n)) : fX4_takeSize_v X G Q = 1 ∧ RX (fX4_takeSize_X X G Q) t (p + 2) ∧ fX4_takeSize_Q X G Q = upd Q 0 (nI n) := by
  obtain ⟨a1, a2⟩ := h.digit (a := fX4_below_v 2) (d := 0) (G := G) (by omega) (by omega) h0 (mk_below (n := 2) (by omega) (by omega))
  have hx := h.next (by omega)
  obtain ⟨b1, b2⟩ := hx.digit (a := (fX4_below_v 10) &&& ((fX4_below_v 1) ^^^ (-1))) (d := n) (G := G) hp hn.2 h1 (mk_nz hn.1 hn.2)
  have n0 : ¬ nI 0 = -1 := by decide
  unfold fX4_takeSize_v fX4_takeSize_X fX4_takeSize_Q
  rw [a1, a2, b1, b2]
  rw [if_neg n0, if_pos (show nI 0 = 0 from rfl), if_neg (ndm hn.2), if_neg n0, if_pos (show nI 0 = 0 from rfl), if_neg (ndm hn.2), if_neg n0, if_pos (show nI 0 = 0 from rfl), if_neg (ndm hn.2)]
  refine ⟨rfl, hx.next hp, ?_⟩
  congr 1
  have : ∀ d, d < 10 → 10 * nI 0 + nI d = nI d := by decide +kernel
  exact this n (by omega)
theorem RX.sizeE {X G Q : Nat → Int32} {t : Nat} (h : RX X t t) : fX4_takeSize_v X G Q = 0 ∧ fX4_takeSize_X X G Q = X := by
  obtain ⟨a1, a2⟩ := h.digitE (G := G) (fX4_below_v 2)
  unfold fX4_takeSize_v fX4_takeSize_X
  rw [a1, a2, if_pos rfl, if_pos rfl]
  exact ⟨rfl, rfl⟩
