/-! THE READER on the text that begin writes: pages. Laid by a program. -/
set_option maxRecDepth 16384
/-- a new road's words -/
def BN (j : Nat) : Int32 := if j = 5 then 10 else if j = 6 then 5 else if j = 7 then 50 else if j = 8 then 40 else if j = 17 then 1 else if 12 ≤ j ∧ j < 82 ∧ (j - 12) % 7 = 1 then 3 else 0
def N0 (n j : Nat) : Int32 := if j = 0 then nI n else BN j
theorem N0_0 (n : Nat) : N0 n 0 = nI n := rfl
theorem N0_p (n : Nat) {j : Nat} (h : 0 < j) : N0 n j = BN j := if_neg (by omega)
set_option maxRecDepth 100000 in
set_option maxHeartbeats 4000000 in
theorem bn_all (Q : Nat → Int32) : ∀ j, j < 82 → 0 < j → fX2_beNew_P Q j = BN j
  | 0, _, h => absurd h (by decide)
  | 1, _, _ => rfl
  | 2, _, _ => rfl
  | 3, _, _ => rfl
  | 4, _, _ => rfl
  | 5, _, _ => rfl
  | 6, _, _ => rfl
  | 7, _, _ => rfl
  | 8, _, _ => rfl
  | 9, _, _ => rfl
  | 10, _, _ => rfl
  | 11, _, _ => rfl
  | 12, _, _ => rfl
  | 13, _, _ => rfl
  | 14, _, _ => rfl
  | 15, _, _ => rfl
  | 16, _, _ => rfl
  | 17, _, _ => rfl
  | 18, _, _ => rfl
  | 19, _, _ => rfl
  | 20, _, _ => rfl
  | 21, _, _ => rfl
  | 22, _, _ => rfl
  | 23, _, _ => rfl
  | 24, _, _ => rfl
  | 25, _, _ => rfl
  | 26, _, _ => rfl
  | 27, _, _ => rfl
  | 28, _, _ => rfl
  | 29, _, _ => rfl
  | 30, _, _ => rfl
  | 31, _, _ => rfl
  | 32, _, _ => rfl
  | 33, _, _ => rfl
  | 34, _, _ => rfl
  | 35, _, _ => rfl
  | 36, _, _ => rfl
  | 37, _, _ => rfl
  | 38, _, _ => rfl
  | 39, _, _ => rfl
  | 40, _, _ => rfl
  | 41, _, _ => rfl
  | 42, _, _ => rfl
  | 43, _, _ => rfl
  | 44, _, _ => rfl
  | 45, _, _ => rfl
  | 46, _, _ => rfl
  | 47, _, _ => rfl
  | 48, _, _ => rfl
  | 49, _, _ => rfl
  | 50, _, _ => rfl
  | 51, _, _ => rfl
  | 52, _, _ => rfl
  | 53, _, _ => rfl
  | 54, _, _ => rfl
  | 55, _, _ => rfl
  | 56, _, _ => rfl
  | 57, _, _ => rfl
  | 58, _, _ => rfl
  | 59, _, _ => rfl
  | 60, _, _ => rfl
  | 61, _, _ => rfl
  | 62, _, _ => rfl
  | 63, _, _ => rfl
  | 64, _, _ => rfl
  | 65, _, _ => rfl
  | 66, _, _ => rfl
  | 67, _, _ => rfl
  | 68, _, _ => rfl
  | 69, _, _ => rfl
  | 70, _, _ => rfl
  | 71, _, _ => rfl
  | 72, _, _ => rfl
  | 73, _, _ => rfl
  | 74, _, _ => rfl
  | 75, _, _ => rfl
  | 76, _, _ => rfl
  | 77, _, _ => rfl
  | 78, _, _ => rfl
  | 79, _, _ => rfl
  | 80, _, _ => rfl
  | 81, _, _ => rfl
  | j + 82, h, _ => absurd h (by omega)
theorem bn_rl (Q : Nat → Int32) {n : Nat} (hn : n ≤ 9) : Rl (upd (fX2_beNew_P Q) 0 (nI n)) (N0 n) := by
  intro j hj
  have e0 : (N0 n 0).toNatClampNeg = n := by rw [N0_0, nI_clamp (by omega)]
  have e1 : (N0 n 1).toNatClampNeg = 0 := rfl
  have e2 : (N0 n 2).toNatClampNeg = 0 := rfl
  rw [e0, e1, e2] at hj
  have h82 : j < 82 := by
    unfold lv at hj
    omega
  by_cases z : j = 0
  · subst z; rw [pk_us]; rfl
  · rw [pk_un z, N0_p n (by omega)]
    exact bn_all Q j h82 (by omega)
theorem bn_pi {n : Nat} (h1 : 1 ≤ n) (hn : n ≤ 9) : PI 0 (N0 n) := by
  have key : ∀ j, j < 131 → 0 < j → BN j = nI (BN j).toNatClampNeg ∧ (BN j).toNatClampNeg ≤ ub 0 j := by decide +kernel
  have k8 : ∀ i, i < 8 → (BN (82 + 5 * i)).toNatClampNeg = 0 := by decide +kernel
  have k3 : ∀ i, i < 3 → (BN (122 + 3 * i)).toNatClampNeg = 0 := by decide +kernel
  have e0 : (N0 n 0).toNatClampNeg = n := by rw [N0_0, nI_clamp (by omega)]
  refine ⟨fun j hj => ?_, by omega, fun i hi => ?_, fun i hi => ?_⟩
  · by_cases z : j = 0
    · subst z
      exact nn.of (n := n) rfl (show n ≤ 10 by omega) (by decide)
    · rw [N0_p n (by omega)]
      exact key j hj (by omega)
  · rw [N0_p n (by omega), k8 i hi, e0]; omega
  · rw [N0_p n (by omega), k3 i hi, e0]; omega
theorem bn_aF (n : Nat) : ∀ m, m ≤ 10 → aF (N0 n) 12 7 6 m = 0
  | 0, _ => rfl
  | m + 1, h => by
    have k6 : ∀ i, i < 10 → BN (12 + 7 * i + 6) = 0 := by decide +kernel
    show aF (N0 n) 12 7 6 m + N0 n (12 + 7 * m + 6) = 0
    rw [bn_aF n m (by omega), N0_p n (by omega), k6 m (by omega)]
    rfl
theorem bn_gd {n : Nat} (hn : n ≤ 9) : GD (N0 n) := by
  have e0 : (N0 n 0).toNatClampNeg = n := by rw [N0_0, nI_clamp (by omega)]
  have k1 : ∀ i, i < 10 → BN (12 + 7 * i + 1) = 3 := by decide +kernel
  have k2 : ∀ i, i < 10 → BN (12 + 7 * i + 2) = 0 := by decide +kernel
  have k6 : ∀ i, i < 10 → BN (12 + 7 * i + 6) = 0 := by decide +kernel
  unfold GD
  rw [e0]
  refine ⟨fun s hs => ?_, fun i hi => absurd hi (Nat.not_lt_zero i), ?_, rfl⟩
  · rw [N0_p n (by omega), N0_p n (by omega), N0_p n (by omega), k1 s (by omega), k2 s (by omega), k6 s (by omega)]
    decide
  · rw [bn_aF n n (by omega)]
    rfl
theorem bl_new (Q : Nat → Int32) (x : Int32) : BL (upd (fX2_beNew_P Q) 0 x) := by
  intro i hi
  have k5 : ∀ i, i < 10 → BN (12 + 7 * i + 5) &&& 1 = BN (12 + 7 * i + 5) := by decide +kernel
  rw [pk_un (by omega), bn_all Q _ (by omega) (by omega)]
  exact k5 i hi
/-- an action by the reader: related pages stay related -/
theorem AC.keep {u : Nat} {P N cP rN : Nat → Int32} {cv rv : Int32} {rf : Nat} {E : Nat → String} (h : AC u P N cv cP rv rN rf E) (hr : Rl P N) (hN : PI u N) : Rl cP rN ∧ PI (u + 850) rN := by
  rcases h with ⟨-, -, -, h1, h2⟩ | ⟨-, -, -, h1, h2⟩
  · exact ⟨h1, h2⟩
  · rw [h1, h2]; exact ⟨hr, hN.le (by omega)⟩
theorem AC.done {u : Nat} {P N cP rN : Nat → Int32} {cv rv : Int32} {rf : Nat} {E : Nat → String} (h : AC u P N cv cP rv rN rf E) (hf : rf = 0) : ¬ cv < 0 := by
  rcases h with ⟨-, h1, -⟩ | ⟨h1, -⟩
  · exact h1.2
  · omega
