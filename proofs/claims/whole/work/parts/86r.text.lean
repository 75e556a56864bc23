/-! MATH: the reader: signs, digits, bits. -/
/-- the class's text beside the reference's -/
def tx (X G A T : Nat → Int32) : Prop := X 1 = A 2 ∧ X 2 = A 3 ∧ RA A ∧ (A 3).toNatClampNeg ≤ (A 2).toNatClampNeg ∧ ∀ i, i < (A 2).toNatClampNeg → G i = T i
def up2X (X : Nat → Int32) : Nat → Int32 := upd X 2 (X 2 + 1)
theorem tx.lt {X G A T : Nat → Int32} (h : tx X G A T) (c : ¬ A 2 ≤ A 3) : (A 3).toNatClampNeg < (A 2).toNatClampNeg := by
  have h1 := h.2.2.1.1.2
  have h2 := h.2.2.1.2.2
  exact lt_pl h.2.2.1.1.1 h.2.2.1.2.1 (by omega) (by omega) c
theorem tx.sg {X G A T : Nat → Int32} (h : tx X G A T) : fX4_signAt_v X G = if A 2 ≤ A 3 then -1 else T (A 3).toNatClampNeg := by
  have h1 := h.2.2.1.1.2
  have h2 := h.2.2.1.2.2
  have h3 : nn 70 (A 3) := ⟨h.2.2.1.2.1, h2⟩
  unfold fX4_signAt_v
  rw [h.1, h.2.1, if_neg (h3.not_neg (by decide))]
  by_cases q : A 2 ≤ A 3
  · rw [if_pos q, if_pos q]
  · have hl := h.lt q
    rw [if_neg q, if_neg q, if_neg (show ¬ 70 ≤ A 3 by rw [h3.1]; exact nI_ge (b := 70) (by omega) (by decide)), h.2.2.2.2 _ hl]
theorem tx.up {X G A T : Nat → Int32} (h : tx X G A T) (c : ¬ A 2 ≤ A 3) : tx (up2X X) G (up3 A) T := by
  have hl := h.lt c
  have e := up3_at h.2.2.1
  have e2 : up3 A 2 = A 2 := up3_ne A (by decide)
  refine ⟨?_, ?_, RA_up3 h.2.2.1 c, ?_, fun i hi => ?_⟩
  · unfold up2X
    rw [pk_un (by decide), e2]; exact h.1
  · unfold up2X up3
    rw [pk_us, pk_us, h.2.1]
  · rw [e2, e]; omega
  · rw [e2] at hi
    exact h.2.2.2.2 i hi
theorem tk_sign {X G A T : Nat → Int32} (h : tx X G A T) {a : Int32} (ha : ¬ a = -1) : (eatC A T a ∧ fX4_takeSign_v X G a = 1 ∧ fX4_takeSign_X X G a = up2X X) ∨ (¬ eatC A T a ∧ fX4_takeSign_v X G a = 0 ∧ fX4_takeSign_X X G a = X) := by
  unfold fX4_takeSign_v fX4_takeSign_X eatC
  rw [h.sg]
  by_cases q : A 2 ≤ A 3
  · rw [if_pos q, if_neg (fun e => ha e.symm), if_neg (fun e => ha e.symm)]
    exact Or.inr ⟨fun z => z.1 q, rfl, rfl⟩
  · rw [if_neg q]
    by_cases z : T (A 3).toNatClampNeg = a
    · rw [if_pos z, if_pos z]
      exact Or.inl ⟨⟨q, z⟩, rfl, rfl⟩
    · rw [if_neg z, if_neg z]
      exact Or.inr ⟨fun y => z y.2, rfl, rfl⟩
/-- the digits that a set of bits allows are those within bounds -/
def alw (b lo hi : Int32) : Prop := ∀ d : Nat, d < 10 → ((b >>> (nI d &&& 31)) &&& 1 = 0 ↔ ¬ (lo ≤ nI d ∧ nI d ≤ hi))
theorem wi_09 {x : Int32} : (fX6_within_v x 0 9 = 0) ↔ ¬ (0 ≤ x ∧ x ≤ 9) := by
  unfold fX6_within_v
  by_cases h1 : x < 0
  · rw [if_pos h1]; exact ⟨fun _ z => i32_le_nlt z.1 h1, fun _ => rfl⟩
  · rw [if_neg h1]
    by_cases h2 : 9 < x
    · rw [if_pos h2]; exact ⟨fun _ z => i32_le_nlt z.2 h2, fun _ => rfl⟩
    · rw [if_neg h2]; exact ⟨fun z => absurd z (by decide), fun z => absurd ⟨i32_nlt h1, i32_nlt h2⟩ z⟩
theorem tk_digit {X G A T : Nat → Int32} (h : tx X G A T) {b lo hi : Int32} (hb : alw b lo hi) : (digC A T lo hi ∧ fX4_takeDigit_v X G b = T (A 3).toNatClampNeg - 48 ∧ fX4_takeDigit_X X G b = up2X X) ∨ (¬ digC A T lo hi ∧ fX4_takeDigit_v X G b = -1 ∧ fX4_takeDigit_X X G b = X) := by
  unfold fX4_takeDigit_v fX4_takeDigit_X digC
  rw [h.sg]
  by_cases q : A 2 ≤ A 3
  · rw [if_pos q, if_pos (by decide), if_pos (by decide)]
    exact Or.inr ⟨fun z => z.1 q, rfl, rfl⟩
  · rw [if_neg q]
    generalize T (A 3).toNatClampNeg - 48 = x
    by_cases w : fX6_within_v x 0 9 = 0
    · rw [if_pos w, if_pos w]
      exact Or.inr ⟨fun z => wi_09.mp w z.2.1, rfl, rfl⟩
    · rw [if_neg w, if_neg w]
      have w' : 0 ≤ x ∧ x ≤ 9 := Classical.not_not.mp (fun z => w (wi_09.mpr z))
      obtain ⟨hx, -⟩ := wi_nn (lo := 0) (hi := 9) w (by decide) (by decide)
      obtain ⟨d, hd, ex, -⟩ := hx.ex
      have key := hb d (by omega)
      rw [← ex] at key
      by_cases z : (b >>> (x &&& 31)) &&& 1 = 0
      · rw [if_pos z, if_pos z]
        exact Or.inr ⟨fun y => key.mp z y.2.2, rfl, rfl⟩
      · rw [if_neg z, if_neg z]
        exact Or.inl ⟨⟨q, w', Classical.not_not.mp (fun y => z (key.mpr y))⟩, rfl, rfl⟩
/-- the bit d -/
def btx (x : Int32) (d : Nat) : Bool := x.toBitVec.getLsbD d
theorem bt_one (y : Int32) : (y &&& 1 = 0) ↔ btx y 0 = false := by
  have e : y &&& 1 = nI (y.toBitVec.toNat % 2 ^ 1) := pk_and y 1 rfl
  rw [e]
  unfold btx
  rw [BitVec.getLsbD, Nat.testBit_zero]
  have h2 : y.toBitVec.toNat % 2 < 2 := Nat.mod_lt _ (by decide)
  rw [Nat.pow_one]
  rcases (show y.toBitVec.toNat % 2 = 0 ∨ y.toBitVec.toNat % 2 = 1 by omega) with q | q
  · rw [q]; exact ⟨fun _ => rfl, fun _ => rfl⟩
  · rw [q]; exact ⟨fun z => absurd z (by decide), fun z => absurd z (by decide)⟩
theorem bt_sh (x : Int32) {d : Nat} (hd : d < 10) : btx (x >>> (nI d &&& 31)) 0 = btx x d := by
  unfold btx
  have e : (x >>> (nI d &&& 31)).toBitVec = x.toBitVec.sshiftRight d := by
    rcases (show d = 0 ∨ d = 1 ∨ d = 2 ∨ d = 3 ∨ d = 4 ∨ d = 5 ∨ d = 6 ∨ d = 7 ∨ d = 8 ∨ d = 9 by omega) with rfl | rfl | rfl | rfl | rfl | rfl | rfl | rfl | rfl | rfl <;> rfl
  rw [e, BitVec.getLsbD_sshiftRight]
  simp
  omega
theorem bt_and (x y : Int32) (d : Nat) : btx (x &&& y) d = (btx x d && btx y d) := by
  unfold btx
  rw [Int32.toBitVec_and, BitVec.getLsbD_and]
theorem bt_or (x y : Int32) (d : Nat) : btx (x ||| y) d = (btx x d || btx y d) := by
  unfold btx
  rw [Int32.toBitVec_or, BitVec.getLsbD_or]
theorem bt_not (x : Int32) {d : Nat} (hd : d < 32) : btx (x ^^^ (-1)) d = !btx x d := by
  unfold btx
  rw [Int32.toBitVec_xor, BitVec.getLsbD_xor]
  have e : ∀ d : Fin 32, (-1 : Int32).toBitVec.getLsbD d.1 = true := by decide +kernel
  rw [e ⟨d, hd⟩, Bool.xor_true]
theorem bt_below {n d : Nat} (hn : n ≤ 10) (hd : d < 32) : btx (fX4_below_v (nI n)) d = decide (d < n) := by
  have e : ∀ n : Fin 11, ∀ d : Fin 32, btx (fX4_below_v (nI n.1)) d.1 = decide (d.1 < n.1) := by decide +kernel
  exact e ⟨n, by omega⟩ ⟨d, hd⟩
theorem bt_shl {n d : Nat} (hn : n < 10) (hd : d < 32) : btx (1 <<< (nI n &&& 31)) d = decide (d = n) := by
  have e : ∀ n : Fin 10, ∀ d : Fin 32, btx (1 <<< (nI n.1 &&& 31)) d.1 = decide (d.1 = n.1) := by decide +kernel
  exact e ⟨n, hn⟩ ⟨d, hd⟩
theorem bt_0 (d : Nat) : btx 0 d = false := by
  unfold btx
  exact BitVec.getLsbD_zero
theorem bt_ext {x : Int32} (h : ∀ d, d < 32 → btx x d = false) : x = 0 := by
  refine Int32.toBitVec_inj.mp (BitVec.eq_of_getLsbD_eq fun d hd => ?_)
  exact (h d hd).trans (bt_0 d).symm
theorem bt_dig (x : Int32) {d : Nat} (hd : d < 10) : ((x >>> (nI d &&& 31)) &&& 1 = 0) ↔ btx x d = false := by
  rw [bt_one, bt_sh x hd]
theorem alw_below {n : Nat} (h1 : 1 ≤ n) (hn : n ≤ 10) : alw (fX4_below_v (nI n)) 0 (nI n - 1) := by
  intro d hd
  rw [bt_dig _ hd, bt_below hn (by omega), show nI n - 1 = nI (n - 1) from pk_sub (b := 1) h1, nI_leI (by omega) (by omega)]
  have h0 : 0 ≤ nI d := nI_pos' (by omega)
  by_cases q : d < n
  · rw [decide_eq_true q]
    exact ⟨fun z => absurd z (by decide), fun z => absurd ⟨h0, by omega⟩ z⟩
  · rw [decide_eq_false q]
    exact ⟨fun _ z => q (by omega), fun _ => rfl⟩
theorem alw_10 : alw (fX4_below_v 10) 0 9 := alw_below (n := 10) (by decide) (by decide)
theorem alw_3 : alw (fX4_below_v 3) 0 2 := alw_below (n := 3) (by decide) (by decide)
theorem alw_2 : alw (fX4_below_v 2) 0 1 := alw_below (n := 2) (by decide) (by decide)
theorem alw_1 : alw (fX4_below_v 1) 0 0 := alw_below (n := 1) (by decide) (by decide)
theorem alw_19 : alw (fX4_below_v 10 &&& (fX4_below_v 1 ^^^ (-1))) 1 9 := by
  intro d hd
  have e : ∀ d : Fin 10, (((fX4_below_v 10 &&& (fX4_below_v 1 ^^^ (-1))) >>> (nI d.1 &&& 31)) &&& 1 = 0 ↔ ¬ (1 ≤ nI d.1 ∧ nI d.1 ≤ 9)) := by decide +kernel
  exact e ⟨d, hd⟩
