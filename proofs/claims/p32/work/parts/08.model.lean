/-! THE MODEL: the pages as the reference of the whole claim had them, its functions alone. Laid by gen/portref.py. -/
/-! THE REFERENCE: numbers, places, parts 1 and 2 of an hour. Laid by gen/p08.py. -/
def fX7_in_v (a b d : Int64) : Int32 := if a < b then 0 else if d < a then 0 else 1
def fX7_less_v (a b : Int32) : Int32 := if b ≤ a then b else a
def fX7_more_v (a b : Int32) : Int32 := if a ≤ b then b else a
def fX7_isSegment_v (P : Nat → Int32) (a : Int32) : Int32 := fX7_in_v a.toInt64 0 (((P 0) - 1).toInt64)
def fX7_isHouse_v (P : Nat → Int32) (a : Int32) : Int32 := fX7_in_v a.toInt64 0 (((P 1) - 1).toInt64)
def fX7_isWagon_v (P : Nat → Int32) (a : Int32) : Int32 := fX7_in_v a.toInt64 0 (((P 2) - 1).toInt64)
def fX7_dry_S  (Pk : Nat → Int32) (k : Nat) : Nat → Int32 := if (Pk (12 + 7 * k)) = 0 then upd Pk ((12 + 7 * k) + 4) (fX7_more_v 0 ((Pk ((12 + 7 * k) + 4)) - ((Pk 6) / 3))) else if (Pk (12 + 7 * k)) = 1 then upd Pk ((12 + 7 * k) + 4) (fX7_more_v 0 ((Pk ((12 + 7 * k) + 4)) - ((Pk 6) / 4))) else if (Pk 5) ≤ 0 then upd Pk ((12 + 7 * k) + 4) (fX7_more_v 0 ((Pk ((12 + 7 * k) + 4)) - (((Pk 6) / 2) + 0))) else upd Pk ((12 + 7 * k) + 4) (fX7_more_v 0 ((Pk ((12 + 7 * k) + 4)) - (((Pk 6) / 2) + 1)))
def fX7_dry_L  (P : Nat → Int32) : Nat → Nat → Int32
  | 0 => P
  | k + 1 => fX7_dry_S  (fX7_dry_L  P k) k
theorem fX7_dry_S0 (P : Nat → Int32) (k j : Nat) (h : j < 12) : fX7_dry_S P k j = P j := by
  unfold fX7_dry_S
  (repeat' split) <;> (repeat rw [upd_nw _ _ (by omega)])
theorem fX7_dry_L0 (P : Nat → Int32) (j : Nat) (h : j < 12) : ∀ k, fX7_dry_L P k j = P j
  | 0 => rfl
  | k + 1 => (fX7_dry_S0 _ k j h).trans (fX7_dry_L0 P j h k)
def fX7_dry_P (P : Nat → Int32) : Nat → Int32 := fX7_dry_L  P ((P 0).toNatClampNeg)
def fX7_raise_S  (Pk : Nat → Int32) (k : Nat) : Nat → Int32 := upd Pk ((12 + 7 * k) + 3) (fX7_less_v 999 ((Pk ((12 + 7 * k) + 3)) + (((((Pk 5) * (Pk ((12 + 7 * k) + 1))) * (3 - (Pk (12 + 7 * k)))) * (10 - (Pk ((12 + 7 * k) + 4)))) / 10)))
def fX7_raise_L  (P : Nat → Int32) : Nat → Nat → Int32
  | 0 => P
  | k + 1 => fX7_raise_S  (fX7_raise_L  P k) k
theorem fX7_raise_S0 (P : Nat → Int32) (k j : Nat) (h : j < 12) : fX7_raise_S P k j = P j := by
  unfold fX7_raise_S
  (repeat' split) <;> (repeat rw [upd_nw _ _ (by omega)])
theorem fX7_raise_L0 (P : Nat → Int32) (j : Nat) (h : j < 12) : ∀ k, fX7_raise_L P k j = P j
  | 0 => rfl
  | k + 1 => (fX7_raise_S0 _ k j h).trans (fX7_raise_L0 P j h k)
def fX7_raise_P (P : Nat → Int32) : Nat → Int32 := fX7_raise_L  P ((P 0).toNatClampNeg)
/-! THE REFERENCE: what houses get, complaints. Laid by gen/p08.py. -/
theorem w_lt (a b : Int32) : a.toInt64 < b.toInt64 ↔ a < b := by rw [Int64.lt_iff_toInt_lt, Int32.lt_iff_toInt_lt, Int32.toInt_toInt64, Int32.toInt_toInt64]
theorem in_v (a lo hi : Int32) : fX7_in_v a.toInt64 lo.toInt64 hi.toInt64 = if lo ≤ a ∧ a ≤ hi then 1 else 0 := by
  unfold fX7_in_v
  by_cases h1 : a < lo
  · rw [if_pos ((w_lt _ _).mpr h1), if_neg (fun q => i32_le_nlt q.1 h1)]
  · rw [if_neg (fun q => h1 ((w_lt _ _).mp q))]
    by_cases h2 : hi < a
    · rw [if_pos ((w_lt _ _).mpr h2), if_neg (fun q => i32_le_nlt q.2 h2)]
    · rw [if_neg (fun q => h2 ((w_lt _ _).mp q)), if_pos ⟨i32_nlt h1, i32_nlt h2⟩]
theorem isPl_v {P0 : Int32} {n : Nat} (a : Int32) (h : P0 = nI n) (hn : n < 2 ^ 31) : fX7_in_v a.toInt64 0 (P0 - 1).toInt64 = if 0 ≤ a ∧ a < P0 then 1 else 0 := by
  have h1 := in_v a 0 (P0 - 1)
  rw [show (0 : Int32).toInt64 = 0 from rfl] at h1
  rw [h1]
  subst h
  congr 1
  refine propext ⟨fun q => ⟨q.1, ?_⟩, fun q => ⟨q.1, ?_⟩⟩
  · obtain ⟨j, hj, rfl⟩ := nI_of (i32_le_nlt q.1)
    cases n with
    | zero => exact absurd q.2 (i32_lt_nle (by rw [nI_0]; exact Int32.lt_iff_toInt_lt.mpr (by rw [nI_toInt hj]; show (-1 : Int) < _; omega)))
    | succ n =>
      rw [nI_pred] at q
      exact nI_lt (by have := (nI_leI hj (by omega)).mp q.2; omega) hn
  · obtain ⟨j, hj, rfl⟩ := nI_of (i32_le_nlt q.1)
    have := (nI_ltI hj hn).mp q.2
    cases n with
    | zero => omega
    | succ n =>
      rw [nI_pred]
      exact nI_le (by omega) (by omega)
theorem isPl {P0 : Int32} {n : Nat} {a : Int32} (h : P0 = nI n) (hn : n < 2 ^ 31) (hc : ¬ fX7_in_v a.toInt64 0 (P0 - 1).toInt64 = 0) : a = nI a.toNatClampNeg ∧ a.toNatClampNeg < n := by
  rw [isPl_v a h hn] at hc
  by_cases q : 0 ≤ a ∧ a < P0
  · obtain ⟨j, hj, rfl⟩ := ix_of h hn (i32_le_nlt q.1) q.2
    rw [nI_clamp (by omega)]
    exact ⟨rfl, hj⟩
  · rw [if_neg q] at hc
    exact absurd rfl hc
def fX7_dustOf_v (P : Nat → Int32) (a : Int32) : Int32 := if (fX7_isSegment_v P a) = 0 then 0 else P ((12 + 7 * a.toNatClampNeg) + 3)
def fX7_gets_v (P : Nat → Int32) (k : Nat) : Int32 := (((2 * (fX7_dustOf_v P (P (82 + 5 * k)))) + (fX7_dustOf_v P ((P (82 + 5 * k)) - 1))) + (fX7_dustOf_v P ((P (82 + 5 * k)) + 1))) / (2 * (1 + (P ((82 + 5 * k) + 1))))
def fX7_complain_P (P : Nat → Int32) (k : Nat) : Nat → Int32 := if (remI ((upd (upd (upd P ((82 + 5 * k) + 3) ((P ((82 + 5 * k) + 3)) + 1)) 10 (((upd P ((82 + 5 * k) + 3) ((P ((82 + 5 * k) + 3)) + 1)) 10) + 1)) ((12 + 7 * ((P (82 + 5 * k)).toNatClampNeg)) + 6) (((upd (upd P ((82 + 5 * k) + 3) ((P ((82 + 5 * k) + 3)) + 1)) 10 (((upd P ((82 + 5 * k) + 3) ((P ((82 + 5 * k) + 3)) + 1)) 10) + 1)) ((12 + 7 * ((P (82 + 5 * k)).toNatClampNeg)) + 6)) + 1)) ((12 + 7 * ((P (82 + 5 * k)).toNatClampNeg)) + 6)) 3) = 0 then upd (upd (upd (upd (upd P ((82 + 5 * k) + 3) ((P ((82 + 5 * k) + 3)) + 1)) 10 (((upd P ((82 + 5 * k) + 3) ((P ((82 + 5 * k) + 3)) + 1)) 10) + 1)) ((12 + 7 * ((P (82 + 5 * k)).toNatClampNeg)) + 6) (((upd (upd P ((82 + 5 * k) + 3) ((P ((82 + 5 * k) + 3)) + 1)) 10 (((upd P ((82 + 5 * k) + 3) ((P ((82 + 5 * k) + 3)) + 1)) 10) + 1)) ((12 + 7 * ((P (82 + 5 * k)).toNatClampNeg)) + 6)) + 1)) ((12 + 7 * ((P (82 + 5 * k)).toNatClampNeg)) + 2) (fX7_less_v 4 (((upd (upd (upd P ((82 + 5 * k) + 3) ((P ((82 + 5 * k) + 3)) + 1)) 10 (((upd P ((82 + 5 * k) + 3) ((P ((82 + 5 * k) + 3)) + 1)) 10) + 1)) ((12 + 7 * ((P (82 + 5 * k)).toNatClampNeg)) + 6) (((upd (upd P ((82 + 5 * k) + 3) ((P ((82 + 5 * k) + 3)) + 1)) 10 (((upd P ((82 + 5 * k) + 3) ((P ((82 + 5 * k) + 3)) + 1)) 10) + 1)) ((12 + 7 * ((P (82 + 5 * k)).toNatClampNeg)) + 6)) + 1)) ((12 + 7 * ((P (82 + 5 * k)).toNatClampNeg)) + 2)) + 1))) ((12 + 7 * ((P (82 + 5 * k)).toNatClampNeg)) + 1) (fX7_less_v ((upd (upd (upd (upd P ((82 + 5 * k) + 3) ((P ((82 + 5 * k) + 3)) + 1)) 10 (((upd P ((82 + 5 * k) + 3) ((P ((82 + 5 * k) + 3)) + 1)) 10) + 1)) ((12 + 7 * ((P (82 + 5 * k)).toNatClampNeg)) + 6) (((upd (upd P ((82 + 5 * k) + 3) ((P ((82 + 5 * k) + 3)) + 1)) 10 (((upd P ((82 + 5 * k) + 3) ((P ((82 + 5 * k) + 3)) + 1)) 10) + 1)) ((12 + 7 * ((P (82 + 5 * k)).toNatClampNeg)) + 6)) + 1)) ((12 + 7 * ((P (82 + 5 * k)).toNatClampNeg)) + 2) (fX7_less_v 4 (((upd (upd (upd P ((82 + 5 * k) + 3) ((P ((82 + 5 * k) + 3)) + 1)) 10 (((upd P ((82 + 5 * k) + 3) ((P ((82 + 5 * k) + 3)) + 1)) 10) + 1)) ((12 + 7 * ((P (82 + 5 * k)).toNatClampNeg)) + 6) (((upd (upd P ((82 + 5 * k) + 3) ((P ((82 + 5 * k) + 3)) + 1)) 10 (((upd P ((82 + 5 * k) + 3) ((P ((82 + 5 * k) + 3)) + 1)) 10) + 1)) ((12 + 7 * ((P (82 + 5 * k)).toNatClampNeg)) + 6)) + 1)) ((12 + 7 * ((P (82 + 5 * k)).toNatClampNeg)) + 2)) + 1))) ((12 + 7 * ((P (82 + 5 * k)).toNatClampNeg)) + 1)) (5 - ((upd (upd (upd (upd P ((82 + 5 * k) + 3) ((P ((82 + 5 * k) + 3)) + 1)) 10 (((upd P ((82 + 5 * k) + 3) ((P ((82 + 5 * k) + 3)) + 1)) 10) + 1)) ((12 + 7 * ((P (82 + 5 * k)).toNatClampNeg)) + 6) (((upd (upd P ((82 + 5 * k) + 3) ((P ((82 + 5 * k) + 3)) + 1)) 10 (((upd P ((82 + 5 * k) + 3) ((P ((82 + 5 * k) + 3)) + 1)) 10) + 1)) ((12 + 7 * ((P (82 + 5 * k)).toNatClampNeg)) + 6)) + 1)) ((12 + 7 * ((P (82 + 5 * k)).toNatClampNeg)) + 2) (fX7_less_v 4 (((upd (upd (upd P ((82 + 5 * k) + 3) ((P ((82 + 5 * k) + 3)) + 1)) 10 (((upd P ((82 + 5 * k) + 3) ((P ((82 + 5 * k) + 3)) + 1)) 10) + 1)) ((12 + 7 * ((P (82 + 5 * k)).toNatClampNeg)) + 6) (((upd (upd P ((82 + 5 * k) + 3) ((P ((82 + 5 * k) + 3)) + 1)) 10 (((upd P ((82 + 5 * k) + 3) ((P ((82 + 5 * k) + 3)) + 1)) 10) + 1)) ((12 + 7 * ((P (82 + 5 * k)).toNatClampNeg)) + 6)) + 1)) ((12 + 7 * ((P (82 + 5 * k)).toNatClampNeg)) + 2)) + 1))) ((12 + 7 * ((P (82 + 5 * k)).toNatClampNeg)) + 2)))) else upd (upd (upd P ((82 + 5 * k) + 3) ((P ((82 + 5 * k) + 3)) + 1)) 10 (((upd P ((82 + 5 * k) + 3) ((P ((82 + 5 * k) + 3)) + 1)) 10) + 1)) ((12 + 7 * ((P (82 + 5 * k)).toNatClampNeg)) + 6) (((upd (upd P ((82 + 5 * k) + 3) ((P ((82 + 5 * k) + 3)) + 1)) 10 (((upd P ((82 + 5 * k) + 3) ((P ((82 + 5 * k) + 3)) + 1)) 10) + 1)) ((12 + 7 * ((P (82 + 5 * k)).toNatClampNeg)) + 6)) + 1)
/-! THE REFERENCE: an hour. Laid by gen/p08.py. -/
theorem fX7_dry_Lh (P : Nat → Int32) : ∀ k, k ≤ 10 → ∀ j, kw j → fX7_dry_L P k j = P j
  | 0, _, _, _ => rfl
  | k + 1, hk, j, h => by
    have := fX7_dry_Lh P k (by omega) j h
    show fX7_dry_S (fX7_dry_L P k) k j = P j
    rw [← this]
    unfold kw at h
    unfold fX7_dry_S
    (repeat' split) <;> rw [upd_nw _ _ (by omega)]
theorem fX7_raise_Lh (P : Nat → Int32) : ∀ k, k ≤ 10 → ∀ j, kw j → fX7_raise_L P k j = P j
  | 0, _, _, _ => rfl
  | k + 1, hk, j, h => by
    have := fX7_raise_Lh P k (by omega) j h
    show fX7_raise_S (fX7_raise_L P k) k j = P j
    rw [← this]
    unfold kw at h
    unfold fX7_raise_S
    rw [upd_nw _ _ (by omega)]
theorem WS_dry {P : Nat → Int32} (hW : WS P) : WS (fX7_dry_P P) := hW.of (fX7_dry_Lh P _ hW.1.2)
theorem WS_raise {P : Nat → Int32} (hW : WS P) : WS (fX7_raise_P P) := hW.of (fX7_raise_Lh P _ hW.1.2)
theorem WS_complain {P : Nat → Int32} {k : Nat} (hk : k < 8) (hW : WS P) : WS (fX7_complain_P P k) := by
  have h2 := (hW.2.2.2.1 k hk).2.1
  refine hW.of (fun j h => ?_)
  unfold kw at h
  unfold fX7_complain_P
  (repeat' split) <;> (repeat rw [upd_nw _ _ (by omega)])
def fX7_hourW_S  (Pk : Nat → Int32) (k : Nat) : Nat → Int32 := upd Pk ((122 + 3 * k) + 2) 4
def fX7_hourW_L  (P : Nat → Int32) : Nat → Nat → Int32
  | 0 => P
  | k + 1 => fX7_hourW_S  (fX7_hourW_L  P k) k
theorem fX7_hourW_L8 (P : Nat → Int32) : ∀ k, k ≤ 3 → ∀ j, (kw j ∨ j < 12) → fX7_hourW_L P k j = P j
  | 0, _, _, _ => rfl
  | k + 1, hk, j, h => by
    have := fX7_hourW_L8 P k (by omega) j h
    show fX7_hourW_S (fX7_hourW_L P k) k j = P j
    rw [← this]
    unfold kw at h
    unfold fX7_hourW_S
    rw [upd_nw _ _ (by omega)]
def fX7_hourS_S  (Pk : Nat → Int32) (k : Nat) : Nat → Int32 := upd Pk ((12 + 7 * k) + 3) (((Pk ((12 + 7 * k) + 3)) * 3) / 4)
def fX7_hourS_L  (P : Nat → Int32) : Nat → Nat → Int32
  | 0 => P
  | k + 1 => fX7_hourS_S  (fX7_hourS_L  P k) k
theorem fX7_hourS_L8 (P : Nat → Int32) : ∀ k, k ≤ 10 → ∀ j, (kw j ∨ j < 12) → fX7_hourS_L P k j = P j
  | 0, _, _, _ => rfl
  | k + 1, hk, j, h => by
    have := fX7_hourS_L8 P k (by omega) j h
    show fX7_hourS_S (fX7_hourS_L P k) k j = P j
    rw [← this]
    unfold kw at h
    unfold fX7_hourS_S
    rw [upd_nw _ _ (by omega)]
def fX7_hourH_S  (Pk : Nat → Int32) (k : Nat) : Nat → Int32 := if (fX7_gets_v Pk k) < ((upd (upd Pk ((82 + 5 * k) + 4) (fX7_gets_v Pk k)) ((82 + 5 * k) + 2) (((upd Pk ((82 + 5 * k) + 4) (fX7_gets_v Pk k)) ((82 + 5 * k) + 2)) + (fX7_gets_v Pk k))) 7) then upd (upd Pk ((82 + 5 * k) + 4) (fX7_gets_v Pk k)) ((82 + 5 * k) + 2) (((upd Pk ((82 + 5 * k) + 4) (fX7_gets_v Pk k)) ((82 + 5 * k) + 2)) + (fX7_gets_v Pk k)) else fX7_complain_P (upd (upd Pk ((82 + 5 * k) + 4) (fX7_gets_v Pk k)) ((82 + 5 * k) + 2) (((upd Pk ((82 + 5 * k) + 4) (fX7_gets_v Pk k)) ((82 + 5 * k) + 2)) + (fX7_gets_v Pk k))) k
def fX7_hourH_L  (P : Nat → Int32) : Nat → Nat → Int32
  | 0 => P
  | k + 1 => fX7_hourH_S  (fX7_hourH_L  P k) k
theorem fX7_hourH_S8 (P : Nat → Int32) (k : Nat) (hk : k < 8) (hW : WS P) : WS (fX7_hourH_S P k) ∧ fX7_hourH_S P k 1 = P 1 := by
  unfold fX7_hourH_S
  split
  · exact ⟨WS.up (by unfold kw; omega) (WS.up (by unfold kw; omega) hW), by rw [upd_nw _ _ (by omega), upd_nw _ _ (by omega)]⟩
  · refine ⟨WS_complain hk (WS.up (by unfold kw; omega) (WS.up (by unfold kw; omega) hW)), ?_⟩
    unfold fX7_complain_P
    (repeat' split) <;> (repeat rw [upd_nw _ _ (by omega)])
theorem fX7_hourH_L8 {P : Nat → Int32} (hW : WS P) : ∀ k, k ≤ 8 → WS (fX7_hourH_L P k) ∧ fX7_hourH_L P k 1 = P 1
  | 0, _ => ⟨hW, rfl⟩
  | k + 1, hk => by
    obtain ⟨a, b⟩ := fX7_hourH_L8 hW k (by omega)
    obtain ⟨a', b'⟩ := fX7_hourH_S8 _ k (by omega) a
    exact ⟨a', b'.trans b⟩
def fX7_hourOn_P (P : Nat → Int32) : Nat → Int32 := if ((upd (fX7_hourS_L  (fX7_hourH_L  (fX7_raise_P (fX7_dry_P P)) ((fX7_raise_P (fX7_dry_P P) 1).toNatClampNeg)) (((fX7_hourH_L  (fX7_raise_P (fX7_dry_P P)) ((fX7_raise_P (fX7_dry_P P) 1).toNatClampNeg)) 0).toNatClampNeg)) 4 (((fX7_hourS_L  (fX7_hourH_L  (fX7_raise_P (fX7_dry_P P)) ((fX7_raise_P (fX7_dry_P P) 1).toNatClampNeg)) (((fX7_hourH_L  (fX7_raise_P (fX7_dry_P P)) ((fX7_raise_P (fX7_dry_P P) 1).toNatClampNeg)) 0).toNatClampNeg)) 4) + 1)) 4) = 10 then fX7_hourW_L  (upd (upd (upd (upd (fX7_hourS_L  (fX7_hourH_L  (fX7_raise_P (fX7_dry_P P)) ((fX7_raise_P (fX7_dry_P P) 1).toNatClampNeg)) (((fX7_hourH_L  (fX7_raise_P (fX7_dry_P P)) ((fX7_raise_P (fX7_dry_P P) 1).toNatClampNeg)) 0).toNatClampNeg)) 4 (((fX7_hourS_L  (fX7_hourH_L  (fX7_raise_P (fX7_dry_P P)) ((fX7_raise_P (fX7_dry_P P) 1).toNatClampNeg)) (((fX7_hourH_L  (fX7_raise_P (fX7_dry_P P)) ((fX7_raise_P (fX7_dry_P P) 1).toNatClampNeg)) 0).toNatClampNeg)) 4) + 1)) 4 0) 3 (((upd (upd (fX7_hourS_L  (fX7_hourH_L  (fX7_raise_P (fX7_dry_P P)) ((fX7_raise_P (fX7_dry_P P) 1).toNatClampNeg)) (((fX7_hourH_L  (fX7_raise_P (fX7_dry_P P)) ((fX7_raise_P (fX7_dry_P P) 1).toNatClampNeg)) 0).toNatClampNeg)) 4 (((fX7_hourS_L  (fX7_hourH_L  (fX7_raise_P (fX7_dry_P P)) ((fX7_raise_P (fX7_dry_P P) 1).toNatClampNeg)) (((fX7_hourH_L  (fX7_raise_P (fX7_dry_P P)) ((fX7_raise_P (fX7_dry_P P) 1).toNatClampNeg)) 0).toNatClampNeg)) 4) + 1)) 4 0) 3) + 1)) 9 0) (((upd (upd (upd (upd (fX7_hourS_L  (fX7_hourH_L  (fX7_raise_P (fX7_dry_P P)) ((fX7_raise_P (fX7_dry_P P) 1).toNatClampNeg)) (((fX7_hourH_L  (fX7_raise_P (fX7_dry_P P)) ((fX7_raise_P (fX7_dry_P P) 1).toNatClampNeg)) 0).toNatClampNeg)) 4 (((fX7_hourS_L  (fX7_hourH_L  (fX7_raise_P (fX7_dry_P P)) ((fX7_raise_P (fX7_dry_P P) 1).toNatClampNeg)) (((fX7_hourH_L  (fX7_raise_P (fX7_dry_P P)) ((fX7_raise_P (fX7_dry_P P) 1).toNatClampNeg)) 0).toNatClampNeg)) 4) + 1)) 4 0) 3 (((upd (upd (fX7_hourS_L  (fX7_hourH_L  (fX7_raise_P (fX7_dry_P P)) ((fX7_raise_P (fX7_dry_P P) 1).toNatClampNeg)) (((fX7_hourH_L  (fX7_raise_P (fX7_dry_P P)) ((fX7_raise_P (fX7_dry_P P) 1).toNatClampNeg)) 0).toNatClampNeg)) 4 (((fX7_hourS_L  (fX7_hourH_L  (fX7_raise_P (fX7_dry_P P)) ((fX7_raise_P (fX7_dry_P P) 1).toNatClampNeg)) (((fX7_hourH_L  (fX7_raise_P (fX7_dry_P P)) ((fX7_raise_P (fX7_dry_P P) 1).toNatClampNeg)) 0).toNatClampNeg)) 4) + 1)) 4 0) 3) + 1)) 9 0) 2).toNatClampNeg) else fX7_hourW_L  (upd (fX7_hourS_L  (fX7_hourH_L  (fX7_raise_P (fX7_dry_P P)) ((fX7_raise_P (fX7_dry_P P) 1).toNatClampNeg)) (((fX7_hourH_L  (fX7_raise_P (fX7_dry_P P)) ((fX7_raise_P (fX7_dry_P P) 1).toNatClampNeg)) 0).toNatClampNeg)) 4 (((fX7_hourS_L  (fX7_hourH_L  (fX7_raise_P (fX7_dry_P P)) ((fX7_raise_P (fX7_dry_P P) 1).toNatClampNeg)) (((fX7_hourH_L  (fX7_raise_P (fX7_dry_P P)) ((fX7_raise_P (fX7_dry_P P) 1).toNatClampNeg)) 0).toNatClampNeg)) 4) + 1)) (((upd (fX7_hourS_L  (fX7_hourH_L  (fX7_raise_P (fX7_dry_P P)) ((fX7_raise_P (fX7_dry_P P) 1).toNatClampNeg)) (((fX7_hourH_L  (fX7_raise_P (fX7_dry_P P)) ((fX7_raise_P (fX7_dry_P P) 1).toNatClampNeg)) 0).toNatClampNeg)) 4 (((fX7_hourS_L  (fX7_hourH_L  (fX7_raise_P (fX7_dry_P P)) ((fX7_raise_P (fX7_dry_P P) 1).toNatClampNeg)) (((fX7_hourH_L  (fX7_raise_P (fX7_dry_P P)) ((fX7_raise_P (fX7_dry_P P) 1).toNatClampNeg)) 0).toNatClampNeg)) 4) + 1)) 2).toNatClampNeg)
/-! THE REFERENCE: wagons, pages. Laid by gen/p08.py. -/
def fX7_wet_P (P : Nat → Int32) (k : Nat) (a : Int32) : Nat → Int32 := upd P ((12 + 7 * k) + 4) (fX7_less_v 9 ((P ((12 + 7 * k) + 4)) + a))
def fX7_far_v (P : Nat → Int32) (k : Nat) (a : Int32) : Int32 := if 0 ≤ ((P (122 + 3 * k)) - a) then (P (122 + 3 * k)) - a else -((P (122 + 3 * k)) - a)
def fX7_driveOn_v (P : Nat → Int32) (k : Nat) (a : Int32) : Int32 := if (fX7_far_v P k a) ≤ (P ((122 + 3 * k) + 2)) then 1 else 0
def fX7_driveOn_P (P : Nat → Int32) (k : Nat) (a : Int32) : Nat → Int32 := if (fX7_far_v P k a) ≤ (P ((122 + 3 * k) + 2)) then upd (upd P ((122 + 3 * k) + 2) ((P ((122 + 3 * k) + 2)) - (fX7_far_v P k a))) (122 + 3 * k) a else P
def fX7_sprayOn_v (P : Nat → Int32) (k : Nat) (a : Int32) : Int32 := if (P ((122 + 3 * k) + 2)) = 0 then 0 else if a ≤ (P ((122 + 3 * k) + 1)) then 1 else 0
def fX7_sprayOn_P (P : Nat → Int32) (k : Nat) (a : Int32) : Nat → Int32 := if (P ((122 + 3 * k) + 2)) = 0 then P else if a ≤ (P ((122 + 3 * k) + 1)) then fX7_wet_P (upd (upd (upd P ((122 + 3 * k) + 2) ((P ((122 + 3 * k) + 2)) - 1)) ((122 + 3 * k) + 1) (((upd P ((122 + 3 * k) + 2) ((P ((122 + 3 * k) + 2)) - 1)) ((122 + 3 * k) + 1)) - a)) 11 (((upd (upd P ((122 + 3 * k) + 2) ((P ((122 + 3 * k) + 2)) - 1)) ((122 + 3 * k) + 1) (((upd P ((122 + 3 * k) + 2) ((P ((122 + 3 * k) + 2)) - 1)) ((122 + 3 * k) + 1)) - a)) 11) + a)) (((upd (upd (upd P ((122 + 3 * k) + 2) ((P ((122 + 3 * k) + 2)) - 1)) ((122 + 3 * k) + 1) (((upd P ((122 + 3 * k) + 2) ((P ((122 + 3 * k) + 2)) - 1)) ((122 + 3 * k) + 1)) - a)) 11 (((upd (upd P ((122 + 3 * k) + 2) ((P ((122 + 3 * k) + 2)) - 1)) ((122 + 3 * k) + 1) (((upd P ((122 + 3 * k) + 2) ((P ((122 + 3 * k) + 2)) - 1)) ((122 + 3 * k) + 1)) - a)) 11) + a)) (122 + 3 * k)).toNatClampNeg) a else P
def fX7_why_v (P : Nat → Int32) (k : Nat) : Int32 := if (P ((122 + 3 * k) + 2)) = 0 then 1 else if (P ((12 + 7 * ((P (122 + 3 * k)).toNatClampNeg)) + 5)) = 0 then 2 else if (P ((122 + 3 * k) + 1)) = 20 then 3 else if (P 9) < (P 8) then 0 else 4
def fX7_fillOn_v (P : Nat → Int32) (k : Nat) : Int32 := fX7_less_v (20 - (P ((122 + 3 * k) + 1))) ((P 8) - (P 9))
def fX7_fillOn_P (P : Nat → Int32) (k : Nat) : Nat → Int32 := upd (upd (upd P ((122 + 3 * k) + 1) ((P ((122 + 3 * k) + 1)) + (fX7_less_v (20 - (P ((122 + 3 * k) + 1))) ((P 8) - (P 9))))) ((122 + 3 * k) + 2) (((upd P ((122 + 3 * k) + 1) ((P ((122 + 3 * k) + 1)) + (fX7_less_v (20 - (P ((122 + 3 * k) + 1))) ((P 8) - (P 9))))) ((122 + 3 * k) + 2)) - 1)) 9 (((upd (upd P ((122 + 3 * k) + 1) ((P ((122 + 3 * k) + 1)) + (fX7_less_v (20 - (P ((122 + 3 * k) + 1))) ((P 8) - (P 9))))) ((122 + 3 * k) + 2) (((upd P ((122 + 3 * k) + 1) ((P ((122 + 3 * k) + 1)) + (fX7_less_v (20 - (P ((122 + 3 * k) + 1))) ((P 8) - (P 9))))) ((122 + 3 * k) + 2)) - 1)) 9) + (fX7_less_v (20 - (P ((122 + 3 * k) + 1))) ((P 8) - (P 9))))
def fX7_houseOn_S (n : Nat) (Pk : Nat → Int32) (k : Nat) : Nat → Int32 := upd Pk ((82 + 5 * n) + k) 0
def fX7_houseOn_L (n : Nat) (P : Nat → Int32) : Nat → Nat → Int32
  | 0 => P
  | k + 1 => fX7_houseOn_S n (fX7_houseOn_L n P k) k
def fX7_houseOn_P (P : Nat → Int32) (a d : Int32) : Nat → Int32 := upd (upd (upd (fX7_houseOn_L (P 1).toNatClampNeg P 5) (82 + 5 * (P 1).toNatClampNeg) a) ((82 + 5 * (P 1).toNatClampNeg) + 1) d) 1 (((upd (upd (fX7_houseOn_L (P 1).toNatClampNeg P 5) (82 + 5 * (P 1).toNatClampNeg) a) ((82 + 5 * (P 1).toNatClampNeg) + 1) d) 1) + 1)
def fX7_wagonOn_P (P : Nat → Int32) (a : Int32) : Nat → Int32 := upd (upd (upd (upd P (122 + 3 * ((P 2).toNatClampNeg)) a) ((122 + 3 * ((P 2).toNatClampNeg)) + 1) 20) ((122 + 3 * ((P 2).toNatClampNeg)) + 2) 4) 2 (((upd (upd (upd P (122 + 3 * ((P 2).toNatClampNeg)) a) ((122 + 3 * ((P 2).toNatClampNeg)) + 1) 20) ((122 + 3 * ((P 2).toNatClampNeg)) + 2) 4) 2) + 1)
def fX7_cp_S (Q : Nat → Int32) (fa ta : Nat) (Pk : Nat → Int32) (k : Nat) : Nat → Int32 := upd Pk (ta + k) (Q (fa + k))
def fX7_cp_L (Q : Nat → Int32) (fa ta : Nat) (P : Nat → Int32) : Nat → Nat → Int32
  | 0 => P
  | k + 1 => fX7_cp_S Q fa ta (fX7_cp_L Q fa ta P k) k
def fX7_copyPage_P (Q P : Nat → Int32) (fa ta : Nat) : Nat → Int32 := fX7_cp_L Q fa ta P 131
def fX7_cls_S  (Pk : Nat → Int32) (k : Nat) : Nat → Int32 := upd Pk ((12 + 7 * k) + 1) 3
def fX7_cls_L  (P : Nat → Int32) : Nat → Nat → Int32
  | 0 => P
  | k + 1 => fX7_cls_S  (fX7_cls_L  P k) k
def fX7_clr_S  (Pk : Nat → Int32) (k : Nat) : Nat → Int32 := upd Pk k 0
def fX7_clr_L  (P : Nat → Int32) : Nat → Nat → Int32
  | 0 => P
  | k + 1 => fX7_clr_S  (fX7_clr_L  P k) k
def fX7_clear_P (P : Nat → Int32) (n : Nat) : Nat → Int32 := fX7_cls_L  (upd (upd (upd (upd (upd (fX7_clr_L  P 131) 0 (nI n)) 5 10) 6 5) 7 50) 8 40) n
def fX7_isSetting_v (a b : Int32) : Int32 := if a = 5 then fX7_in_v b.toInt64 0 20 else if a = 6 then fX7_in_v b.toInt64 0 9 else if a = 7 then fX7_in_v b.toInt64 1 200 else if a = 8 then fX7_in_v b.toInt64 0 99 else 0
/-! THE REFERENCE AS A WHOLE: its eight blocks (own numbers, text, read, now, trial, diary, kept, isKept), its cells 483 to 490. -/
section GMd
variable {p : Program} {l : Launch} {e : Env} {RR : Room} {s : State} {m : MethodId} {args : Array Value} {below : List Frame} {meth : Method} {c : Code} {H : Heap} {locs : List Loc} {cells slots : Nat} {Q : State → Prop}
variable {cc : ByteArray} {pc : Nat} {ls : Array Slot} {rest : List Value} {Γ : gX} {M : Nat → Nat → Int32} {R : Nat → Nat → Option Nat} {O : Int64} {H0 : Heap} {A T D N V I K B : Nat → Int32}
theorem gm_ald (hexec : p.tables.exec = Jvm.exec) (hb : c.code = cc) (hK : GK Γ s) (hG : GH Γ M R O H) {c0 b n : Nat} (hc0 : c0 ∈ gcs Γ) (hC : gC c0 = (9, b, 0)) (hn : gLen c0 = n) (h31 : n < 2 ^ 31) {i v : Int32} {j : Nat} (hi : i = nI j) (hj : j < n) (hv : M b j = v) (hdg : decode cc pc = .ok (.iaload, 1))
    (kk : W p l e RR s m args below meth c H locs cells slots Q (F0 m (pc + 1) ls (.int v :: rest))) : W p l e RR s m args below meth c H locs cells slots Q (F0 m pc ls (.int i :: .ref (gad Γ c0) :: rest)) := by
  subst hi
  exact g_iald hexec hb hK hG hc0 hC hn (nI_clamp (by omega)) (vp_in_nI hj h31) hv hdg kk
theorem gm_ast {M2 : Nat → Nat → Int32} (hexec : p.tables.exec = Jvm.exec) (hb : c.code = cc) (hK : GK Γ s) (hG : GH Γ M R O H) (hS : va_S (gA Γ) H0 H locs) {c0 b n : Nat} (hc0 : c0 ∈ gcs Γ) (hC : gC c0 = (9, b, 0)) (hn : gLen c0 = n) (h31 : n < 2 ^ 31) {i x : Int32} {j : Nat} (hi : i = nI j) (hj : j < n) (hM : up2 M b j x = M2) (hdg : decode cc pc = .ok (.iastore, 1))
    (kk : ∀ (H1 : Heap) (locs1 : List Loc), GH Γ M2 R O H1 → va_S (gA Γ) H0 H1 locs1 → W p l e RR s m args below meth c H1 locs1 cells slots Q (F0 m (pc + 1) ls rest)) : W p l e RR s m args below meth c H locs cells slots Q (F0 m pc ls (.int x :: .int i :: .ref (gad Γ c0) :: rest)) := by
  subst hi; subst hM
  exact g_iast hexec hb hK hG hS hc0 hC hn (nI_clamp (by omega)) (vp_in_nI hj h31) hdg kk
theorem gm_zald (hexec : p.tables.exec = Jvm.exec) (hb : c.code = cc) (hK : GK Γ s) (hG : GH Γ M R O H) {c0 b n : Nat} (hc0 : c0 ∈ gcs Γ) (hC : gC c0 = (10, b, 0)) (hn : gLen c0 = n) (h31 : n < 2 ^ 31) {i v : Int32} {j : Nat} (hi : i = nI j) (hj : j < n) (hv : M b j = v) (hdg : decode cc pc = .ok (.baload, 1))
    (kk : W p l e RR s m args below meth c H locs cells slots Q (F0 m (pc + 1) ls (.int v :: rest))) : W p l e RR s m args below meth c H locs cells slots Q (F0 m pc ls (.int i :: .ref (gad Γ c0) :: rest)) := by
  subst hi
  exact g_zald hexec hb hK hG hc0 hC hn (nI_clamp (by omega)) (vp_in_nI hj h31) hv hdg kk
theorem gm_zast {M2 : Nat → Nat → Int32} (hexec : p.tables.exec = Jvm.exec) (hb : c.code = cc) (hK : GK Γ s) (hG : GH Γ M R O H) (hS : va_S (gA Γ) H0 H locs) {c0 b n : Nat} (hc0 : c0 ∈ gcs Γ) (hC : gC c0 = (10, b, 0)) (hn : gLen c0 = n) (h31 : n < 2 ^ 31) {i x y : Int32} {j : Nat} (hi : i = nI j) (hj : j < n) (hy : vp_nar .boolean x = y) (hM : up2 M b j y = M2) (hdg : decode cc pc = .ok (.bastore, 1))
    (kk : ∀ (H1 : Heap) (locs1 : List Loc), GH Γ M2 R O H1 → va_S (gA Γ) H0 H1 locs1 → W p l e RR s m args below meth c H1 locs1 cells slots Q (F0 m (pc + 1) ls rest)) : W p l e RR s m args below meth c H locs cells slots Q (F0 m pc ls (.int x :: .int i :: .ref (gad Γ c0) :: rest)) := by
  subst hi; subst hM
  exact g_zast hexec hb hK hG hS hc0 hC hn (nI_clamp (by omega)) (vp_in_nI hj h31) hy hdg kk
end GMd
theorem WS_wet {P : Nat → Int32} {k : Nat} {a : Int32} (hk : k < 10) (hW : WS P) : WS (fX7_wet_P P k a) := WS.up (by unfold kw; omega) hW

/-! THE REFERENCE: refusals, the text. Laid by gen/p09.py. -/
def fX7_thrown_v (A T D N V I K B : Nat → Int32)  : Int32 := A 0
def fX7_refused_v (A T D N V I K B : Nat → Int32) (a : Int32) : Int32 := if a ≤ 0 then 0 else 1
def fX7_refused_A (A T D N V I K B : Nat → Int32) (a : Int32) : Nat → Int32 := if a ≤ 0 then upd A 0 a else upd A 0 a
theorem ne_lt {x : Int32} {n : Nat} (h : x = nI x.toNatClampNeg) (h2 : x.toNatClampNeg ≤ n) (hn : n < 2 ^ 31) (h3 : ¬ x = nI n) : x.toNatClampNeg < n := by
  rcases Nat.lt_or_ge x.toNatClampNeg n with q | q
  · exact q
  · exact absurd (h.trans (congrArg nI (Nat.le_antisymm h2 q))) h3
def fX7_append_v (A T D N V I K B : Nat → Int32) (a : Int32) : Int32 := if (fX7_in_v a.toInt64 0 255) = 0 then 0 else if (A 2) = 70 then 0 else (upd (upd A 0 0) 2 (((upd A 0 0) 2) + 1)) 2
def fX7_append_A (A T D N V I K B : Nat → Int32) (a : Int32) : Nat → Int32 := if (fX7_in_v a.toInt64 0 255) = 0 then upd A 0 1 else if (A 2) = 70 then upd A 0 2 else upd (upd A 0 0) 2 (((upd A 0 0) 2) + 1)
def fX7_append_T (A T D N V I K B : Nat → Int32) (a : Int32) : Nat → Int32 := if (fX7_in_v a.toInt64 0 255) = 0 then T else if (A 2) = 70 then T else upd T ((A 2).toNatClampNeg) a
def fX7_clearText_v (A T D N V I K B : Nat → Int32)  : Int32 := (upd A 0 0) 2
def fX7_clearText_A (A T D N V I K B : Nat → Int32)  : Nat → Int32 := upd (upd A 0 0) 2 0
/-! THE REFERENCE: reads. Laid by gen/p09.py. -/
theorem in_l (a : Int32) (n m : Nat) (hn : n < 1000) (hm : m < 1000) : fX7_in_v a.toInt64 (lN n) (lN m) = if nI n ≤ a ∧ a ≤ nI m then 1 else 0 := by
  have h := in_v a (nI n) (nI m)
  rwa [nI_l (by omega), nI_l (by omega)] at h
theorem inPl {d : Int32} (m : Nat) (hc : ¬ fX7_in_v d.toInt64 (lN 0) (lN m) = 0) (hm : m < 1000 := by decide) : d = nI d.toNatClampNeg ∧ d.toNatClampNeg < m + 1 := by
  rw [in_l d 0 m (by decide) hm] at hc
  by_cases q : nI 0 ≤ d ∧ d ≤ nI m
  · obtain ⟨j, hj, rfl⟩ := nI_of (i32_le_nlt q.1)
    rw [nI_clamp hj]
    exact ⟨rfl, by have := (nI_leI hj (by omega)).mp q.2; omega⟩
  · rw [if_neg q] at hc
    exact absurd rfl hc
theorem add_pl {x : Int32} {n k : Nat} (h : x = nI k) : nI n + x = nI (n + k) := by subst h; exact nI_add _ _
def fX7_segment_v (A T D N V I K B : Nat → Int32) (a d : Int32) : Int32 := if (fX7_isSegment_v N a) = 0 then 0 else if (fX7_in_v d.toInt64 0 6) = 0 then 0 else N (12 + 7 * a.toNatClampNeg + d.toNatClampNeg)
def fX7_segment_A (A T D N V I K B : Nat → Int32) (a d : Int32) : Nat → Int32 := if (fX7_isSegment_v N a) = 0 then upd A 0 1 else if (fX7_in_v d.toInt64 0 6) = 0 then upd A 0 2 else upd A 0 0
def fX7_house_v (A T D N V I K B : Nat → Int32) (a d : Int32) : Int32 := if (fX7_isHouse_v N a) = 0 then 0 else if (fX7_in_v d.toInt64 0 4) = 0 then 0 else N (82 + 5 * a.toNatClampNeg + d.toNatClampNeg)
def fX7_house_A (A T D N V I K B : Nat → Int32) (a d : Int32) : Nat → Int32 := if (fX7_isHouse_v N a) = 0 then upd A 0 1 else if (fX7_in_v d.toInt64 0 4) = 0 then upd A 0 2 else upd A 0 0
def fX7_wagon_v (A T D N V I K B : Nat → Int32) (a d : Int32) : Int32 := if (fX7_isWagon_v N a) = 0 then 0 else if (fX7_in_v d.toInt64 0 2) = 0 then 0 else N (122 + 3 * a.toNatClampNeg + d.toNatClampNeg)
def fX7_wagon_A (A T D N V I K B : Nat → Int32) (a d : Int32) : Nat → Int32 := if (fX7_isWagon_v N a) = 0 then upd A 0 1 else if (fX7_in_v d.toInt64 0 2) = 0 then upd A 0 2 else upd A 0 0
def fX7_about_T2 (N : Nat → Int32) (P : Nat → Int32) (k : Nat) (a2 : Int32) : Int32 := a2 + (fX7_dustOf_v N (nI k))
def fX7_about_A2 (N : Nat → Int32) (P : Nat → Int32) : Nat → Int32
  | 0 => 0
  | k + 1 => fX7_about_T2 N P k (fX7_about_A2 N P k)
def fX7_about_v (A T D N V I K B : Nat → Int32) (a : Int32) : Int32 := if (fX7_in_v a.toInt64 0 12) = 0 then 0 else if 12 ≤ a then fX7_about_A2 N (upd A 0 0) ((N 0).toNatClampNeg) else N a.toNatClampNeg
def fX7_about_A (A T D N V I K B : Nat → Int32) (a : Int32) : Nat → Int32 := if (fX7_in_v a.toInt64 0 12) = 0 then upd A 0 1 else if 12 ≤ a then upd A 0 0 else upd A 0 0
/-! THE REFERENCE: actions. Laid by gen/p10.py. -/
theorem mul_pl {x : Int32} {n k : Nat} (h : x = nI k) : nI n * x = nI (n * k) := by subst h; exact pk_mul _ _
theorem sub1_pl {x : Int32} {k : Nat} (h : x = nI k) (h0 : ¬ x = 0) : x - 1 = nI (k - 1) := by
  subst h
  cases k with
  | zero => exact absurd nI_0 h0
  | succ k => exact nI_pred k
theorem WS_hourW {Q : Nat → Int32} (wC : WS Q) {n : Nat} (hn : n = (Q 2).toNatClampNeg) : WS (fX7_hourW_L Q n) := by
  subst hn
  exact wC.of (fun j h => fX7_hourW_L8 _ _ wC.2.2.1.2 j (Or.inl h))
theorem fX7_hourOn_kw {P : Nat → Int32} (hW : WS P) : WS (fX7_hourOn_P P) := by
  have wD : WS (fX7_raise_P (fX7_dry_P P)) := WS_raise (WS_dry hW)
  have wD8 := wD.2.1.2
  have wH := (fX7_hourH_L8 wD _ wD8).1
  have w3 := wH.1.2
  have wS := wH.of (fun j h => fX7_hourS_L8 _ _ w3 j (Or.inl h))
  unfold fX7_hourOn_P
  generalize fX7_hourS_L (fX7_hourH_L (fX7_raise_P (fX7_dry_P P)) (fX7_raise_P (fX7_dry_P P) 1).toNatClampNeg) (fX7_hourH_L (fX7_raise_P (fX7_dry_P P)) (fX7_raise_P (fX7_dry_P P) 1).toNatClampNeg 0).toNatClampNeg = X at wS ⊢
  have wS : WS X := wS
  split
  · exact WS_hourW (WS.up (by unfold kw; omega) (WS.up (by unfold kw; omega) (WS.up (by unfold kw; omega) (WS.up (by unfold kw; omega) wS)))) rfl
  · exact WS_hourW (WS.up (by unfold kw; omega) wS) rfl
theorem WS_spray {P : Nat → Int32} {k : Nat} {a : Int32} (hk : k < 3) (hW : WS P) : WS (fX7_sprayOn_P P k a) := by
  have h2 := (hW.2.2.2.2 k hk).2
  unfold fX7_sprayOn_P
  (repeat' split) <;> first | exact hW | (have hX := WS.up (j := 11) (v := (upd (upd P (122 + 3 * k + 2) (P (122 + 3 * k + 2) - 1)) (122 + 3 * k + 1) (upd P (122 + 3 * k + 2) (P (122 + 3 * k + 2) - 1) (122 + 3 * k + 1) - a) 11 + a)) (by unfold kw; omega) (WS.up (j := 122 + 3 * k + 1) (v := (upd P (122 + 3 * k + 2) (P (122 + 3 * k + 2) - 1) (122 + 3 * k + 1) - a)) (by unfold kw; omega) (WS.up (j := 122 + 3 * k + 2) (v := P (122 + 3 * k + 2) - 1) (by unfold kw; omega) hW)); exact WS_wet (hX.2.2.2.2 k hk).2 hX)
def fX7_note_S  (Pk : Nat → Int32) (k : Nat) : Nat → Int32 := upd Pk k (Pk (k + 131))
def fX7_note_L  (P : Nat → Int32) : Nat → Nat → Int32
  | 0 => P
  | k + 1 => fX7_note_S  (fX7_note_L  P k) k
def fX7_note_A (A T D N V I K B : Nat → Int32)  : Nat → Int32 := if (A 8) = 14 then upd (upd A 8 ((A 8) - 1)) 8 (((upd A 8 ((A 8) - 1)) 8) + 1) else upd A 8 ((A 8) + 1)
def fX7_note_I (A T D N V I K B : Nat → Int32)  : Nat → Int32 := if (A 8) = 14 then fX7_copyPage_P N (fX7_note_L  I 1703) 0 1703 else fX7_copyPage_P N I 0 (131 * (A 8).toNatClampNeg)
def fX7_addHouse_v (A T D N V I K B : Nat → Int32) (a d : Int32) : Int32 := if (fX7_isSegment_v N a) = 0 then 0 else if (fX7_in_v d.toInt64 0 9) = 0 then 0 else if (N 1) = 8 then 0 else ((fX7_houseOn_P N a d) 1) - 1
def fX7_addHouse_A (A T D N V I K B : Nat → Int32) (a d : Int32) : Nat → Int32 := if (fX7_isSegment_v N a) = 0 then upd A 0 1 else if (fX7_in_v d.toInt64 0 9) = 0 then upd A 0 2 else if (N 1) = 8 then upd A 0 3 else fX7_note_A (upd A 0 0) T D N V I K B 
def fX7_addHouse_N (A T D N V I K B : Nat → Int32) (a d : Int32) : Nat → Int32 := if (fX7_isSegment_v N a) = 0 then N else if (fX7_in_v d.toInt64 0 9) = 0 then N else if (N 1) = 8 then N else fX7_houseOn_P N a d
def fX7_addHouse_I (A T D N V I K B : Nat → Int32) (a d : Int32) : Nat → Int32 := if (fX7_isSegment_v N a) = 0 then I else if (fX7_in_v d.toInt64 0 9) = 0 then I else if (N 1) = 8 then I else fX7_note_I (upd A 0 0) T D N V I K B 
def fX7_addWagon_v (A T D N V I K B : Nat → Int32) (a : Int32) : Int32 := if (fX7_isSegment_v N a) = 0 then 0 else if (N 2) = 3 then 0 else ((fX7_wagonOn_P N a) 2) - 1
def fX7_addWagon_A (A T D N V I K B : Nat → Int32) (a : Int32) : Nat → Int32 := if (fX7_isSegment_v N a) = 0 then upd A 0 1 else if (N 2) = 3 then upd A 0 2 else fX7_note_A (upd A 0 0) T D N V I K B 
def fX7_addWagon_N (A T D N V I K B : Nat → Int32) (a : Int32) : Nat → Int32 := if (fX7_isSegment_v N a) = 0 then N else if (N 2) = 3 then N else fX7_wagonOn_P N a
def fX7_addWagon_I (A T D N V I K B : Nat → Int32) (a : Int32) : Nat → Int32 := if (fX7_isSegment_v N a) = 0 then I else if (N 2) = 3 then I else fX7_note_I (upd A 0 0) T D N V I K B 
def fX7_setSurface_v (A T D N V I K B : Nat → Int32) (a d : Int32) : Int32 := if (fX7_isSegment_v N a) = 0 then 0 else if (fX7_in_v d.toInt64 0 2) = 0 then 0 else N (12 + 7 * a.toNatClampNeg)
def fX7_setSurface_A (A T D N V I K B : Nat → Int32) (a d : Int32) : Nat → Int32 := if (fX7_isSegment_v N a) = 0 then upd A 0 1 else if (fX7_in_v d.toInt64 0 2) = 0 then upd A 0 2 else fX7_note_A (upd A 0 0) T D N V I K B 
def fX7_setSurface_N (A T D N V I K B : Nat → Int32) (a d : Int32) : Nat → Int32 := if (fX7_isSegment_v N a) = 0 then N else if (fX7_in_v d.toInt64 0 2) = 0 then N else upd N (12 + 7 * a.toNatClampNeg) d
def fX7_setSurface_I (A T D N V I K B : Nat → Int32) (a d : Int32) : Nat → Int32 := if (fX7_isSegment_v N a) = 0 then I else if (fX7_in_v d.toInt64 0 2) = 0 then I else fX7_note_I (upd A 0 0) T D N V I K B 
def fX7_setLimit_v (A T D N V I K B : Nat → Int32) (a d : Int32) : Int32 := if (fX7_isSegment_v N a) = 0 then 0 else if (fX7_in_v d.toInt64 1 5) = 0 then 0 else if d ≤ (5 - (N ((12 + 7 * a.toNatClampNeg) + 2))) then N ((12 + 7 * a.toNatClampNeg) + 1) else 0
def fX7_setLimit_A (A T D N V I K B : Nat → Int32) (a d : Int32) : Nat → Int32 := if (fX7_isSegment_v N a) = 0 then upd A 0 1 else if (fX7_in_v d.toInt64 1 5) = 0 then upd A 0 2 else if d ≤ (5 - (N ((12 + 7 * a.toNatClampNeg) + 2))) then fX7_note_A (upd A 0 0) T D N V I K B  else upd A 0 3
def fX7_setLimit_N (A T D N V I K B : Nat → Int32) (a d : Int32) : Nat → Int32 := if (fX7_isSegment_v N a) = 0 then N else if (fX7_in_v d.toInt64 1 5) = 0 then N else if d ≤ (5 - (N ((12 + 7 * a.toNatClampNeg) + 2))) then upd N ((12 + 7 * a.toNatClampNeg) + 1) d else N
def fX7_setLimit_I (A T D N V I K B : Nat → Int32) (a d : Int32) : Nat → Int32 := if (fX7_isSegment_v N a) = 0 then I else if (fX7_in_v d.toInt64 1 5) = 0 then I else if d ≤ (5 - (N ((12 + 7 * a.toNatClampNeg) + 2))) then fX7_note_I (upd A 0 0) T D N V I K B  else I
theorem set_pl {a d : Int32} (h : ¬ fX7_isSetting_v a d = 0) : a = nI a.toNatClampNeg ∧ a.toNatClampNeg < 9 := by
  unfold fX7_isSetting_v at h
  by_cases h5 : a = 5
  · subst h5; exact ⟨rfl, by decide⟩
  · by_cases h6 : a = 6
    · subst h6; exact ⟨rfl, by decide⟩
    · by_cases h7 : a = 7
      · subst h7; exact ⟨rfl, by decide⟩
      · by_cases h8 : a = 8
        · subst h8; exact ⟨rfl, by decide⟩
        · rw [if_neg h5, if_neg h6, if_neg h7, if_neg h8] at h
          exact absurd rfl h
def fX7_set_v (A T D N V I K B : Nat → Int32) (a d : Int32) : Int32 := if (fX7_isSetting_v a d) = 0 then 0 else N a.toNatClampNeg
def fX7_set_A (A T D N V I K B : Nat → Int32) (a d : Int32) : Nat → Int32 := if (fX7_isSetting_v a d) = 0 then upd A 0 1 else fX7_note_A (upd A 0 0) T D N V I K B 
def fX7_set_N (A T D N V I K B : Nat → Int32) (a d : Int32) : Nat → Int32 := if (fX7_isSetting_v a d) = 0 then N else upd N a.toNatClampNeg d
def fX7_set_I (A T D N V I K B : Nat → Int32) (a d : Int32) : Nat → Int32 := if (fX7_isSetting_v a d) = 0 then I else fX7_note_I (upd A 0 0) T D N V I K B 
def fX7_drive_v (A T D N V I K B : Nat → Int32) (a d : Int32) : Int32 := if (fX7_isWagon_v N a) = 0 then 0 else if (fX7_isSegment_v N d) = 0 then 0 else if (fX7_far_v N a.toNatClampNeg d) ≤ (N ((122 + 3 * a.toNatClampNeg) + 2)) then (fX7_driveOn_P N a.toNatClampNeg d) ((122 + 3 * a.toNatClampNeg) + 2) else 0
def fX7_drive_A (A T D N V I K B : Nat → Int32) (a d : Int32) : Nat → Int32 := if (fX7_isWagon_v N a) = 0 then upd A 0 1 else if (fX7_isSegment_v N d) = 0 then upd A 0 1 else if (fX7_far_v N a.toNatClampNeg d) ≤ (N ((122 + 3 * a.toNatClampNeg) + 2)) then fX7_note_A (upd A 0 0) T D N V I K B  else upd A 0 2
def fX7_drive_N (A T D N V I K B : Nat → Int32) (a d : Int32) : Nat → Int32 := if (fX7_isWagon_v N a) = 0 then N else if (fX7_isSegment_v N d) = 0 then N else if (fX7_far_v N a.toNatClampNeg d) ≤ (N ((122 + 3 * a.toNatClampNeg) + 2)) then fX7_driveOn_P N a.toNatClampNeg d else N
def fX7_drive_I (A T D N V I K B : Nat → Int32) (a d : Int32) : Nat → Int32 := if (fX7_isWagon_v N a) = 0 then I else if (fX7_isSegment_v N d) = 0 then I else if (fX7_far_v N a.toNatClampNeg d) ≤ (N ((122 + 3 * a.toNatClampNeg) + 2)) then fX7_note_I (upd A 0 0) T D N V I K B  else I
def fX7_spray_v (A T D N V I K B : Nat → Int32) (a d : Int32) : Int32 := if (fX7_isWagon_v N a) = 0 then 0 else if (fX7_in_v d.toInt64 1 9) = 0 then 0 else if (N ((122 + 3 * a.toNatClampNeg) + 2)) = 0 then 0 else if d ≤ (N ((122 + 3 * a.toNatClampNeg) + 1)) then (fX7_sprayOn_P N a.toNatClampNeg d) ((12 + 7 * (((fX7_sprayOn_P N a.toNatClampNeg d) (122 + 3 * a.toNatClampNeg)).toNatClampNeg)) + 4) else 0
def fX7_spray_A (A T D N V I K B : Nat → Int32) (a d : Int32) : Nat → Int32 := if (fX7_isWagon_v N a) = 0 then upd A 0 1 else if (fX7_in_v d.toInt64 1 9) = 0 then upd A 0 2 else if (N ((122 + 3 * a.toNatClampNeg) + 2)) = 0 then upd A 0 3 else if d ≤ (N ((122 + 3 * a.toNatClampNeg) + 1)) then fX7_note_A (upd A 0 0) T D N V I K B  else upd A 0 3
def fX7_spray_N (A T D N V I K B : Nat → Int32) (a d : Int32) : Nat → Int32 := if (fX7_isWagon_v N a) = 0 then N else if (fX7_in_v d.toInt64 1 9) = 0 then N else if (N ((122 + 3 * a.toNatClampNeg) + 2)) = 0 then N else if d ≤ (N ((122 + 3 * a.toNatClampNeg) + 1)) then fX7_sprayOn_P N a.toNatClampNeg d else N
def fX7_spray_I (A T D N V I K B : Nat → Int32) (a d : Int32) : Nat → Int32 := if (fX7_isWagon_v N a) = 0 then I else if (fX7_in_v d.toInt64 1 9) = 0 then I else if (N ((122 + 3 * a.toNatClampNeg) + 2)) = 0 then I else if d ≤ (N ((122 + 3 * a.toNatClampNeg) + 1)) then fX7_note_I (upd A 0 0) T D N V I K B  else I
def fX7_fill_v (A T D N V I K B : Nat → Int32) (a : Int32) : Int32 := if (fX7_isWagon_v N a) = 0 then 0 else if (fX7_why_v N a.toNatClampNeg) = 0 then fX7_fillOn_v N a.toNatClampNeg else 0
def fX7_fill_A (A T D N V I K B : Nat → Int32) (a : Int32) : Nat → Int32 := if (fX7_isWagon_v N a) = 0 then upd A 0 1 else if (fX7_why_v N a.toNatClampNeg) = 0 then fX7_note_A (upd A 0 0) T D N V I K B  else upd A 0 2
def fX7_fill_N (A T D N V I K B : Nat → Int32) (a : Int32) : Nat → Int32 := if (fX7_isWagon_v N a) = 0 then N else if (fX7_why_v N a.toNatClampNeg) = 0 then fX7_fillOn_P N a.toNatClampNeg else N
def fX7_fill_I (A T D N V I K B : Nat → Int32) (a : Int32) : Nat → Int32 := if (fX7_isWagon_v N a) = 0 then I else if (fX7_why_v N a.toNatClampNeg) = 0 then fX7_note_I (upd A 0 0) T D N V I K B  else I
def fX7_whyNoFill_v (A T D N V I K B : Nat → Int32) (a : Int32) : Int32 := if (fX7_isWagon_v N a) = 0 then 0 else fX7_why_v N a.toNatClampNeg
def fX7_whyNoFill_A (A T D N V I K B : Nat → Int32) (a : Int32) : Nat → Int32 := if (fX7_isWagon_v N a) = 0 then upd A 0 1 else upd A 0 0
def fX7_pass_S  (Pk : Nat → Int32) (k : Nat) : Nat → Int32 := fX7_hourOn_P Pk
def fX7_pass_L  (P : Nat → Int32) : Nat → Nat → Int32
  | 0 => P
  | k + 1 => fX7_pass_S  (fX7_pass_L  P k) k
theorem fX7_pass_WS {P : Nat → Int32} (hW : WS P) : ∀ k, WS (fX7_pass_L P k)
  | 0 => hW
  | k + 1 => by
    have h := fX7_pass_WS hW k
    show WS (fX7_pass_S (fX7_pass_L P k) k)
    unfold fX7_pass_S
    exact fX7_hourOn_kw h
def fX7_pass_v (A T D N V I K B : Nat → Int32) (a : Int32) : Int32 := if (fX7_in_v a.toInt64 1 50) = 0 then 0 else ((fX7_pass_L  N a.toNatClampNeg) 10) - (N 10)
def fX7_pass_A (A T D N V I K B : Nat → Int32) (a : Int32) : Nat → Int32 := if (fX7_in_v a.toInt64 1 50) = 0 then upd A 0 1 else fX7_note_A (upd A 0 0) T D N V I K B 
def fX7_pass_N (A T D N V I K B : Nat → Int32) (a : Int32) : Nat → Int32 := if (fX7_in_v a.toInt64 1 50) = 0 then N else fX7_pass_L  N a.toNatClampNeg
def fX7_pass_I (A T D N V I K B : Nat → Int32) (a : Int32) : Nat → Int32 := if (fX7_in_v a.toInt64 1 50) = 0 then I else fX7_note_I (upd A 0 0) T D N V I K B 
def fX7_undo_v (A T D N V I K B : Nat → Int32)  : Int32 := if (A 8) = 0 then 0 else (upd (upd A 0 0) 8 (((upd A 0 0) 8) - 1)) 8
def fX7_undo_A (A T D N V I K B : Nat → Int32)  : Nat → Int32 := if (A 8) = 0 then upd A 0 1 else upd (upd A 0 0) 8 (((upd A 0 0) 8) - 1)
def fX7_undo_N (A T D N V I K B : Nat → Int32)  : Nat → Int32 := if (A 8) = 0 then N else fX7_copyPage_P I N (131 * ((A 8).toNatClampNeg - 1)) 0
/-! THE REFERENCE: the next hour. Laid by gen/p11.py. -/
theorem fX7_cp_L1 (Q : Nat → Int32) (fa ta : Nat) (P : Nat → Int32) : ∀ k j, fX7_cp_L Q fa ta P k j = if ta ≤ j ∧ j < ta + k then Q (fa + (j - ta)) else P j
  | 0, j => by rw [if_neg (by omega)]; rfl
  | k + 1, j => by
    have h := fX7_cp_L1 Q fa ta P k j
    show fX7_cp_S Q fa ta (fX7_cp_L Q fa ta P k) k j = _
    unfold fX7_cp_S
    by_cases e : j = ta + k
    · subst e
      rw [upd_eq, if_pos (by omega), show ta + k - ta = k by omega]
    · rw [upd_nw _ _ e, h]
      by_cases q : ta ≤ j ∧ j < ta + k
      · rw [if_pos q, if_pos (by omega)]
      · rw [if_neg q, if_neg (by omega)]
theorem cp_at (Q P : Nat → Int32) (fa ta j : Nat) : fX7_copyPage_P Q P fa ta j = if ta ≤ j ∧ j < ta + 131 then Q (fa + (j - ta)) else P j := by
  unfold fX7_copyPage_P
  exact fX7_cp_L1 Q fa ta P 131 j
theorem WS_cp {Q P : Nat → Int32} (h : WS Q) : WS (fX7_copyPage_P Q P 0 0) := h.of (fun j hj => by
  rw [cp_at, if_pos (by unfold kw at hj; omega)]
  congr 1
  omega)
theorem WS_far {P : Nat → Int32} (hW : WS P) (k : Nat) (hk : k < 3) (s : Int32) (hs : s = nI s.toNatClampNeg) (hs2 : s.toNatClampNeg < 10) : WS (upd P (122 + 3 * k) s) := by
  refine ⟨?_, ?_, ?_, fun i hi => ?_, fun i hi => ?_⟩
  · rw [upd_nw _ _ (by omega)]; exact hW.1
  · rw [upd_nw _ _ (by omega)]; exact hW.2.1
  · rw [upd_nw _ _ (by omega)]; exact hW.2.2.1
  · rw [upd_nw _ _ (by omega), upd_nw _ _ (by omega)]; exact hW.2.2.2.1 i hi
  · by_cases e : i = k
    · subst e; rw [upd_eq]; exact ⟨hs, hs2⟩
    · rw [upd_nw _ _ (by omega)]; exact hW.2.2.2.2 i hi
theorem WS_drive {P : Nat → Int32} (hW : WS P) {k : Nat} (hk : k < 3) {s : Int32} (hs : s = nI s.toNatClampNeg) (hs2 : s.toNatClampNeg < 10) : WS (fX7_driveOn_P P k s) := by
  unfold fX7_driveOn_P
  split
  · exact WS_far (WS.up (by unfold kw; omega) hW) k hk s hs hs2
  · exact hW
theorem WS_fill {P : Nat → Int32} (hW : WS P) {k : Nat} (hk : k < 3) : WS (fX7_fillOn_P P k) := by
  unfold fX7_fillOn_P
  exact WS.up (by unfold kw; omega) (WS.up (by unfold kw; omega) (WS.up (by unfold kw; omega) hW))
def fX7_ahead_S  (Pk : Nat → Int32) (k : Nat) : Nat → Int32 := fX7_hourOn_P Pk
def fX7_ahead_L  (P : Nat → Int32) : Nat → Nat → Int32
  | 0 => P
  | k + 1 => fX7_ahead_S  (fX7_ahead_L  P k) k
theorem fX7_ahead_WS {P : Nat → Int32} (hW : WS P) : ∀ k, WS (fX7_ahead_L P k)
  | 0 => hW
  | k + 1 => by
    have h := fX7_ahead_WS hW k
    show WS (fX7_ahead_S (fX7_ahead_L P k) k)
    unfold fX7_ahead_S
    exact fX7_hourOn_kw h
def fX7_ahead_v (A T D N V I K B : Nat → Int32) (a d : Int32) : Int32 := if (fX7_isHouse_v N a) = 0 then 0 else if (fX7_in_v d.toInt64 1 20) = 0 then 0 else (fX7_ahead_L  (fX7_copyPage_P N V 0 0) d.toNatClampNeg) ((82 + 5 * a.toNatClampNeg) + 4)
def fX7_ahead_A (A T D N V I K B : Nat → Int32) (a d : Int32) : Nat → Int32 := if (fX7_isHouse_v N a) = 0 then upd A 0 1 else if (fX7_in_v d.toInt64 1 20) = 0 then upd A 0 2 else upd A 0 0
def fX7_ahead_V (A T D N V I K B : Nat → Int32) (a d : Int32) : Nat → Int32 := if (fX7_isHouse_v N a) = 0 then V else if (fX7_in_v d.toInt64 1 20) = 0 then V else fX7_ahead_L  (fX7_copyPage_P N V 0 0) d.toNatClampNeg
def fX7_nextFor_v (A T D N V I K B : Nat → Int32) (k : Nat) : Int32 := (fX7_hourOn_P V) ((82 + 5 * k) + 4)
def fX7_nextFor_V (A T D N V I K B : Nat → Int32) (k : Nat) : Nat → Int32 := fX7_hourOn_P V
def fX7_nextForAll_T1  (P : Nat → Int32) (k : Nat) (a1 : Int32) : Int32 := a1 + (P ((82 + 5 * k) + 4))
def fX7_nextForAll_A1  (P : Nat → Int32) : Nat → Int32
  | 0 => 0
  | k + 1 => fX7_nextForAll_T1  P k (fX7_nextForAll_A1  P k)
def fX7_nextForAll_v (A T D N V I K B : Nat → Int32)  : Int32 := fX7_nextForAll_A1  (fX7_hourOn_P V) (((fX7_hourOn_P V) 1).toNatClampNeg)
def fX7_nextForAll_V (A T D N V I K B : Nat → Int32)  : Nat → Int32 := fX7_hourOn_P V
/-! THE REFERENCE: searches. Laid by gen/p11.py. -/
def fX7_waterFor_S (N : Nat → Int32) (a : Int32) (Pk : Nat → Int32) (k : Nat) : Nat → Int32 := fX7_hourOn_P (fX7_wet_P (fX7_copyPage_P N Pk 0 0) ((N (82 + 5 * a.toNatClampNeg)).toNatClampNeg) (nI k))
def fX7_waterFor_L (N : Nat → Int32) (a : Int32) (P : Nat → Int32) : Nat → Nat → Int32
  | 0 => P
  | k + 1 => fX7_waterFor_S N a (fX7_waterFor_L N a P k) k
def fX7_waterFor_C (N : Nat → Int32) (a : Int32) (Pk : Nat → Int32) (k : Nat) : Prop := ¬ (N 7) ≤ (fX7_hourOn_P (fX7_wet_P (fX7_copyPage_P N Pk 0 0) ((N (82 + 5 * a.toNatClampNeg)).toNatClampNeg) (nI k)) (82 + 5 * a.toNatClampNeg + 4))
/-! THE REFERENCE: searches. Laid by gen/p11.py. -/
theorem dec_pl {l0 k : Nat} (h : k < l0) : nI (l0 - k) + (-1) = nI (l0 - (k + 1)) := by
  rw [show l0 - k = (l0 - (k + 1)) + 1 by omega]
  exact pk_m1 _
def fX7_limitFor_S (N : Nat → Int32) (a : Int32) (l0 : Nat) (Pk : Nat → Int32) (k : Nat) : Nat → Int32 := fX7_hourOn_P (upd (fX7_copyPage_P N Pk 0 0) ((12 + 7 * (N (82 + 5 * a.toNatClampNeg)).toNatClampNeg) + 1) (nI (l0 - k)))
def fX7_limitFor_L (N : Nat → Int32) (a : Int32) (l0 : Nat) (P : Nat → Int32) : Nat → Nat → Int32
  | 0 => P
  | k + 1 => fX7_limitFor_S N a l0 (fX7_limitFor_L N a l0 P k) k
def fX7_limitFor_C (N : Nat → Int32) (a : Int32) (l0 : Nat) (Pk : Nat → Int32) (k : Nat) : Prop := ¬ (N 7) ≤ (fX7_hourOn_P (upd (fX7_copyPage_P N Pk 0 0) ((12 + 7 * (N (82 + 5 * a.toNatClampNeg)).toNatClampNeg) + 1) (nI (l0 - k))) (82 + 5 * a.toNatClampNeg + 4))
def fX7_complainsIn_S (N : Nat → Int32) (a : Int32) (Pk : Nat → Int32) (k : Nat) : Nat → Int32 := fX7_hourOn_P Pk
def fX7_complainsIn_L (N : Nat → Int32) (a : Int32) (P : Nat → Int32) : Nat → Nat → Int32
  | 0 => P
  | k + 1 => fX7_complainsIn_S N a (fX7_complainsIn_L N a P k) k
def fX7_complainsIn_C (N : Nat → Int32) (a : Int32) (Pk : Nat → Int32) (k : Nat) : Prop := ¬ (fX7_hourOn_P Pk (82 + 5 * a.toNatClampNeg + 4)) < (N 7)
theorem fX7_complainsIn_WS {P : Nat → Int32} (a : Int32) (N : Nat → Int32) (hW : WS P) : ∀ k, WS (fX7_complainsIn_L N a P k)
  | 0 => hW
  | k + 1 => by
    have h := fX7_complainsIn_WS a N hW k
    show WS (fX7_complainsIn_S N a (fX7_complainsIn_L N a P k) k)
    unfold fX7_complainsIn_S
    exact fX7_hourOn_kw h
/-! THE REFERENCE: chance, simulations. Laid by gen/p11.py. -/
def rho (x : Int64) : Nat := x.toBitVec.toNat / 2 ^ 33
theorem rho_lt (x : Int64) : rho x < 2 ^ 31 := by
  unfold rho
  have := x.toBitVec.isLt
  omega
theorem rho_pl (x : Int64) : ((x.toUInt64 >>> ((33 : Int32).toInt64.toUInt64 &&& Int64.toUInt64 63)).toInt64).toInt32 = nI (rho x) := by
  apply Int32.toBitVec_inj.mp
  apply BitVec.eq_of_toNat_eq
  have h1 : ((33 : Int32).toInt64.toUInt64 &&& Int64.toUInt64 63) = 33 := by decide
  rw [h1]
  have h2 := rho_lt x
  rw [pk_tn (by omega)]
  show (BitVec.signExtend 32 (x.toUInt64 >>> 33).toBitVec).toNat = rho x
  rw [BitVec.signExtend_eq_setWidth_of_le _ (by decide), BitVec.toNat_setWidth]
  rw [UInt64.toBitVec_shiftRight]
  show (x.toBitVec >>> ((33 : UInt64).toBitVec % 64)).toNat % 2 ^ 32 = rho x
  rw [show ((33 : UInt64).toBitVec % 64) = 33#64 by decide]
  show (x.toBitVec.toNat >>> (33#64).toNat) % 2 ^ 32 = rho x
  rw [show (33#64).toNat = 33 from rfl, Nat.shiftRight_eq_div_pow]
  show x.toBitVec.toNat / 2 ^ 33 % 2 ^ 32 = rho x
  unfold rho at h2 ⊢
  exact Nat.mod_eq_of_lt (by omega)
theorem rem_pl {n : Int32} {ρ d k : Nat} (hρ : ρ < 2 ^ 31) (hd0 : 0 < d) (hd : d < 2 ^ 31) (h : n = nI k) (hk : 0 < k) (hk2 : k < 2 ^ 31) : remI (nI ρ / nI d) n = nI (ρ / d % k) := by
  subst h
  rw [pk_div hρ hd0 hd]
  exact pk_rem (Nat.lt_of_le_of_lt (Nat.div_le_self _ _) hρ) hk hk2
theorem ne0_pl {n : Int32} {k : Nat} (h : n = nI k) (h0 : ¬ n = 0) : 0 < k := by
  rcases Nat.eq_zero_or_pos k with q | q
  · subst q; exact absurd (h.trans nI_0) h0
  · exact q
theorem drv_pl {V : Nat → Int32} {ρ : Nat} (x y : Int32) (hρ : ρ < 2 ^ 31) (hV : WS V) (hS0 : ¬ V 0 = 0) : remI (nI ρ / 2048) (upd (upd V 5 x) 6 y 0) = nI (remI (nI ρ / 2048) (upd (upd V 5 x) 6 y 0)).toNatClampNeg ∧ (remI (nI ρ / 2048) (upd (upd V 5 x) 6 y 0)).toNatClampNeg < 10 := by
  have v0 := hV.1.2
  have s0 := ne0_pl hV.1.1 hS0
  have q_0 := Nat.mod_lt (ρ / 2048) s0
  rw [upd_nw _ _ (by decide), upd_nw _ _ (by decide), show (2048 : Int32) = nI 2048 from rfl, rem_pl (d := 2048) hρ (by decide) (by decide) hV.1.1 s0 (by omega), nI_clamp (by omega)]
  exact ⟨rfl, by omega⟩
def fX7_change_V (A T D N V I K B : Nat → Int32) (ρ : Nat) : Nat → Int32 := if ((upd (upd V 5 (remI (nI ρ) 21)) 6 (remI ((nI ρ) / 32) 10)) 2) = 0 then upd (upd V 5 (remI (nI ρ) 21)) 6 (remI ((nI ρ) / 32) 10) else if (fX7_less_v 5 ((upd (upd V 5 (remI (nI ρ) 21)) 6 (remI ((nI ρ) / 32) 10)) ((122 + 3 * (ρ / 512 % (V 2).toNatClampNeg)) + 1))) ≤ 0 then upd (upd V 5 (remI (nI ρ) 21)) 6 (remI ((nI ρ) / 32) 10) else fX7_sprayOn_P (fX7_driveOn_P (upd (upd V 5 (remI (nI ρ) 21)) 6 (remI ((nI ρ) / 32) 10)) (ρ / 512 % (V 2).toNatClampNeg) (remI ((nI ρ) / 2048) ((upd (upd V 5 (remI (nI ρ) 21)) 6 (remI ((nI ρ) / 32) 10)) 0))) (ρ / 512 % (V 2).toNatClampNeg) (fX7_less_v 5 ((upd (upd V 5 (remI (nI ρ) 21)) 6 (remI ((nI ρ) / 32) 10)) ((122 + 3 * (ρ / 512 % (V 2).toNatClampNeg)) + 1)))
def fX7_chg (V : Nat → Int32) (ρ : Nat) : Nat → Int32 := fX7_change_V V V V V V V V V ρ
theorem WS_chg {V : Nat → Int32} {ρ : Nat} (hρ : ρ < 2 ^ 31) (hV : WS V) (hS0 : ¬ V 0 = 0) : WS (fX7_chg V ρ) ∧ fX7_chg V ρ 0 = V 0 := by
  have v2 := hV.2.2.1.2
  have v0 := hV.1.2
  have s0 := ne0_pl hV.1.1 hS0
  have q_0 := Nat.mod_lt (ρ / 2048) s0
  unfold fX7_chg fX7_change_V
  split
  · exact ⟨WS.up (by unfold kw; omega) (WS.up (by unfold kw; omega) hV), by rw [upd_nw _ _ (by decide), upd_nw _ _ (by decide)]⟩
  · rename_i c_1
    have q_1 := Nat.mod_lt (ρ / 512) (ne0_pl hV.2.2.1.1 c_1)
    split
    · exact ⟨WS.up (by unfold kw; omega) (WS.up (by unfold kw; omega) hV), by rw [upd_nw _ _ (by decide), upd_nw _ _ (by decide)]⟩
    · refine ⟨WS_spray (by omega) (WS_drive (WS.up (by unfold kw; omega) (WS.up (by unfold kw; omega) hV)) (by omega) (drv_pl _ _ hρ hV hS0).1 (drv_pl _ _ hρ hV hS0).2), ?_⟩
      unfold fX7_sprayOn_P fX7_wet_P fX7_driveOn_P
      (repeat' split) <;> (repeat rw [upd_nw _ _ (by omega)])
def lcg (x : Int64) : Nat → Int64
  | 0 => x
  | k + 1 => (lcg x k) * 6364136223846793005 + 1442695040888963407
theorem fX7_hourOn_0 {P : Nat → Int32} (hW : WS P) : fX7_hourOn_P P 0 = P 0 := by
  have wD : WS (fX7_raise_P (fX7_dry_P P)) := WS_raise (WS_dry hW)
  have wD8 := wD.2.1.2
  have hH : ∀ k, k ≤ 8 → fX7_hourH_L (fX7_raise_P (fX7_dry_P P)) k 0 = (fX7_raise_P (fX7_dry_P P)) 0 := by
    intro k
    induction k with
    | zero => intro _; rfl
    | succ k ih =>
      intro hk
      have wk := (fX7_hourH_L8 wD k (by omega)).1
      refine Eq.trans ?_ (ih (by omega))
      show fX7_hourH_S (fX7_hourH_L (fX7_raise_P (fX7_dry_P P)) k) k 0 = _
      unfold fX7_hourH_S fX7_complain_P
      (repeat' split) <;> (repeat rw [upd_nw _ _ (by omega)])
  have e0 := hH _ wD8
  have wH := (fX7_hourH_L8 wD _ wD8).1
  have w3 := wH.1.2
  have e1 := fX7_hourS_L8 (fX7_hourH_L (fX7_raise_P (fX7_dry_P P)) (fX7_raise_P (fX7_dry_P P) 1).toNatClampNeg) _ w3 0 (Or.inl (by unfold kw; omega))
  have wS := wH.of (fun j h => fX7_hourS_L8 _ _ w3 j (Or.inl h))
  have eD : fX7_raise_P (fX7_dry_P P) 0 = P 0 := (fX7_raise_Lh _ _ (WS_dry hW).1.2 0 (by unfold kw; omega)).trans (fX7_dry_Lh _ _ hW.1.2 0 (by unfold kw; omega))
  rw [← eD, ← e0, ← e1]
  unfold fX7_hourOn_P
  generalize fX7_hourS_L (fX7_hourH_L (fX7_raise_P (fX7_dry_P P)) (fX7_raise_P (fX7_dry_P P) 1).toNatClampNeg) (fX7_hourH_L (fX7_raise_P (fX7_dry_P P)) (fX7_raise_P (fX7_dry_P P) 1).toNatClampNeg 0).toNatClampNeg = X at wS ⊢
  have wS : WS X := wS
  split
  · have wC := WS.up (j := 9) (v := 0) (by unfold kw; omega) (WS.up (j := 3) (v := (upd (upd X 4 (X 4 + 1)) 4 0 3 + 1)) (by unfold kw; omega) (WS.up (j := 4) (v := 0) (by unfold kw; omega) (WS.up (j := 4) (v := X 4 + 1) (by unfold kw; omega) wS)))
    rw [fX7_hourW_L8 _ _ wC.2.2.1.2 0 (Or.inl (by unfold kw; omega))]
    repeat rw [upd_nw _ _ (by decide)]
  · have wC := WS.up (j := 4) (v := X 4 + 1) (by unfold kw; omega) wS
    rw [fX7_hourW_L8 _ _ wC.2.2.1.2 0 (Or.inl (by unfold kw; omega))]
    rw [upd_nw _ _ (by decide)]
def fX7_sim_S (a : Int64) (Pk : Nat → Int32) (k : Nat) : Nat → Int32 := fX7_hourOn_P (fX7_chg Pk (rho (lcg a (k + 1))))
def fX7_sim_L (a : Int64) (P : Nat → Int32) : Nat → Nat → Int32
  | 0 => P
  | k + 1 => fX7_sim_S a (fX7_sim_L a P k) k
theorem fX7_sim_WS {P : Nat → Int32} (x : Int64) (hW : WS P) (h0 : ¬ P 0 = 0) : ∀ k, WS (fX7_sim_L x P k) ∧ fX7_sim_L x P k 0 = P 0
  | 0 => ⟨hW, rfl⟩
  | k + 1 => by
    obtain ⟨h1, h2⟩ := fX7_sim_WS x hW h0 k
    obtain ⟨h3, h4⟩ := WS_chg (rho_lt (lcg x (k + 1))) h1 (by rw [h2]; exact h0)
    show WS (fX7_sim_S x (fX7_sim_L x P k) k) ∧ fX7_sim_S x (fX7_sim_L x P k) k 0 = P 0
    unfold fX7_sim_S
    exact ⟨fX7_hourOn_kw h3, (fX7_hourOn_0 h3).trans (h4.trans h2)⟩
def fX7_simulate_v (A T D N V I K B : Nat → Int32) (a : Int64) (d : Int32) : Int32 := if (fX7_in_v d.toInt64 1 99) = 0 then 0 else if (N 1) = 0 then (10000 * (((fX7_sim_L a (fX7_copyPage_P N V 0 0) d.toNatClampNeg) 10) - (N 10))) + (fX7_less_v 0 9999) else (10000 * (((fX7_sim_L a (fX7_copyPage_P N V 0 0) d.toNatClampNeg) 10) - (N 10))) + (fX7_less_v (((fX7_sim_L a (fX7_copyPage_P N V 0 0) d.toNatClampNeg) 84) - (N 84)) 9999)
def fX7_simulate_A (A T D N V I K B : Nat → Int32) (a : Int64) (d : Int32) : Nat → Int32 := if (fX7_in_v d.toInt64 1 99) = 0 then upd A 0 1 else if (N 1) = 0 then upd A 0 0 else upd A 0 0
def fX7_simulate_V (A T D N V I K B : Nat → Int32) (a : Int64) (d : Int32) : Nat → Int32 := if (fX7_in_v d.toInt64 1 99) = 0 then V else if (N 1) = 0 then fX7_sim_L a (fX7_copyPage_P N V 0 0) d.toNatClampNeg else fX7_sim_L a (fX7_copyPage_P N V 0 0) d.toNatClampNeg
/-! THE REFERENCE: save slots. Laid by gen/p12.py. -/
def fX7_save_v (A T D N V I K B : Nat → Int32) (a : Int32) : Int32 := if (fX7_in_v a.toInt64 0 1) = 0 then 0 else (10 * (N 3)) + (N 4)
def fX7_save_A (A T D N V I K B : Nat → Int32) (a : Int32) : Nat → Int32 := if (fX7_in_v a.toInt64 0 1) = 0 then upd A 0 1 else upd A 0 0
def fX7_save_K (A T D N V I K B : Nat → Int32) (a : Int32) : Nat → Int32 := if (fX7_in_v a.toInt64 0 1) = 0 then K else fX7_copyPage_P N K 0 (131 * a.toNatClampNeg)
def fX7_save_B (A T D N V I K B : Nat → Int32) (a : Int32) : Nat → Int32 := if (fX7_in_v a.toInt64 0 1) = 0 then B else upd B a.toNatClampNeg 1
def fX7_restore_v (A T D N V I K B : Nat → Int32) (a : Int32) : Int32 := if (fX7_in_v a.toInt64 0 1) = 0 then 0 else if (B a.toNatClampNeg) = 0 then 0 else (10 * ((fX7_copyPage_P K N (131 * a.toNatClampNeg) 0) 3)) + ((fX7_copyPage_P K N (131 * a.toNatClampNeg) 0) 4)
def fX7_restore_A (A T D N V I K B : Nat → Int32) (a : Int32) : Nat → Int32 := if (fX7_in_v a.toInt64 0 1) = 0 then upd A 0 1 else if (B a.toNatClampNeg) = 0 then upd A 0 2 else upd (upd A 0 0) 8 0
def fX7_restore_N (A T D N V I K B : Nat → Int32) (a : Int32) : Nat → Int32 := if (fX7_in_v a.toInt64 0 1) = 0 then N else if (B a.toNatClampNeg) = 0 then N else fX7_copyPage_P K N (131 * a.toNatClampNeg) 0
/-! THE REFERENCE: bestSpray. Laid by gen/p12.py. -/
theorem pl_nI {k : Nat} (h : k < 10) : nI k = nI (nI k).toNatClampNeg ∧ (nI k).toNatClampNeg < 10 := by
  rw [nI_clamp (by omega)]
  exact ⟨rfl, h⟩
def fX7_best_S (N : Nat → Int32) (a d : Int32) (Pk : Nat → Int32) (k : Nat) : Nat → Int32 := if (fX7_driveOn_v (fX7_copyPage_P N Pk 0 0) a.toNatClampNeg (nI k)) = 0 then fX7_driveOn_P (fX7_copyPage_P N Pk 0 0) a.toNatClampNeg (nI k) else if (fX7_sprayOn_v (fX7_driveOn_P (fX7_copyPage_P N Pk 0 0) a.toNatClampNeg (nI k)) a.toNatClampNeg d) = 0 then fX7_sprayOn_P (fX7_driveOn_P (fX7_copyPage_P N Pk 0 0) a.toNatClampNeg (nI k)) a.toNatClampNeg d else fX7_hourOn_P (fX7_sprayOn_P (fX7_driveOn_P (fX7_copyPage_P N Pk 0 0) a.toNatClampNeg (nI k)) a.toNatClampNeg d)
def fX7_best_L (N : Nat → Int32) (a d : Int32) (P : Nat → Int32) : Nat → Nat → Int32
  | 0 => P
  | k + 1 => fX7_best_S N a d (fX7_best_L N a d P k) k
def fX7_best_T3 (N : Nat → Int32) (a d : Int32) (Pk : Nat → Int32) (k : Nat) (a3 : Int32) (a4 : Int32) : Int32 := if (fX7_driveOn_v (fX7_copyPage_P N Pk 0 0) a.toNatClampNeg (nI k)) = 0 then a3 else if (fX7_sprayOn_v (fX7_driveOn_P (fX7_copyPage_P N Pk 0 0) a.toNatClampNeg (nI k)) a.toNatClampNeg d) = 0 then a3 else if a3 = (-9) then nI k else if (fX7_nextForAll_A1  (fX7_hourOn_P (fX7_sprayOn_P (fX7_driveOn_P (fX7_copyPage_P N Pk 0 0) a.toNatClampNeg (nI k)) a.toNatClampNeg d)) ((fX7_hourOn_P (fX7_sprayOn_P (fX7_driveOn_P (fX7_copyPage_P N Pk 0 0) a.toNatClampNeg (nI k)) a.toNatClampNeg d)) 1).toNatClampNeg) < a4 then nI k else if (fX7_nextForAll_A1  (fX7_hourOn_P (fX7_sprayOn_P (fX7_driveOn_P (fX7_copyPage_P N Pk 0 0) a.toNatClampNeg (nI k)) a.toNatClampNeg d)) ((fX7_hourOn_P (fX7_sprayOn_P (fX7_driveOn_P (fX7_copyPage_P N Pk 0 0) a.toNatClampNeg (nI k)) a.toNatClampNeg d)) 1).toNatClampNeg) = a4 then if (fX7_far_v N a.toNatClampNeg a3) ≤ (fX7_far_v N a.toNatClampNeg (nI k)) then a3 else nI k else a3
def fX7_best_T4 (N : Nat → Int32) (a d : Int32) (Pk : Nat → Int32) (k : Nat) (a3 : Int32) (a4 : Int32) : Int32 := if (fX7_driveOn_v (fX7_copyPage_P N Pk 0 0) a.toNatClampNeg (nI k)) = 0 then a4 else if (fX7_sprayOn_v (fX7_driveOn_P (fX7_copyPage_P N Pk 0 0) a.toNatClampNeg (nI k)) a.toNatClampNeg d) = 0 then a4 else if a3 = (-9) then fX7_nextForAll_A1  (fX7_hourOn_P (fX7_sprayOn_P (fX7_driveOn_P (fX7_copyPage_P N Pk 0 0) a.toNatClampNeg (nI k)) a.toNatClampNeg d)) ((fX7_hourOn_P (fX7_sprayOn_P (fX7_driveOn_P (fX7_copyPage_P N Pk 0 0) a.toNatClampNeg (nI k)) a.toNatClampNeg d)) 1).toNatClampNeg else if (fX7_nextForAll_A1  (fX7_hourOn_P (fX7_sprayOn_P (fX7_driveOn_P (fX7_copyPage_P N Pk 0 0) a.toNatClampNeg (nI k)) a.toNatClampNeg d)) ((fX7_hourOn_P (fX7_sprayOn_P (fX7_driveOn_P (fX7_copyPage_P N Pk 0 0) a.toNatClampNeg (nI k)) a.toNatClampNeg d)) 1).toNatClampNeg) < a4 then fX7_nextForAll_A1  (fX7_hourOn_P (fX7_sprayOn_P (fX7_driveOn_P (fX7_copyPage_P N Pk 0 0) a.toNatClampNeg (nI k)) a.toNatClampNeg d)) ((fX7_hourOn_P (fX7_sprayOn_P (fX7_driveOn_P (fX7_copyPage_P N Pk 0 0) a.toNatClampNeg (nI k)) a.toNatClampNeg d)) 1).toNatClampNeg else if (fX7_nextForAll_A1  (fX7_hourOn_P (fX7_sprayOn_P (fX7_driveOn_P (fX7_copyPage_P N Pk 0 0) a.toNatClampNeg (nI k)) a.toNatClampNeg d)) ((fX7_hourOn_P (fX7_sprayOn_P (fX7_driveOn_P (fX7_copyPage_P N Pk 0 0) a.toNatClampNeg (nI k)) a.toNatClampNeg d)) 1).toNatClampNeg) = a4 then if (fX7_far_v N a.toNatClampNeg a3) ≤ (fX7_far_v N a.toNatClampNeg (nI k)) then a4 else fX7_nextForAll_A1  (fX7_hourOn_P (fX7_sprayOn_P (fX7_driveOn_P (fX7_copyPage_P N Pk 0 0) a.toNatClampNeg (nI k)) a.toNatClampNeg d)) ((fX7_hourOn_P (fX7_sprayOn_P (fX7_driveOn_P (fX7_copyPage_P N Pk 0 0) a.toNatClampNeg (nI k)) a.toNatClampNeg d)) 1).toNatClampNeg else a4
def fX7_best_A (N : Nat → Int32) (a d : Int32) (P : Nat → Int32) : Nat → Int32 × Int32
  | 0 => ((-9), 0)
  | k + 1 => (fX7_best_T3 N a d (fX7_best_L N a d P k) k (fX7_best_A N a d P k).1 (fX7_best_A N a d P k).2, fX7_best_T4 N a d (fX7_best_L N a d P k) k (fX7_best_A N a d P k).1 (fX7_best_A N a d P k).2)
def fX7_bestSpray_v (A T D N V I K B : Nat → Int32) (a d : Int32) : Int32 := if (fX7_isWagon_v N a) = 0 then 0 else if (fX7_in_v d.toInt64 1 9) = 0 then 0 else (fX7_best_A N a d V ((N 0).toNatClampNeg)).1
def fX7_bestSpray_A (A T D N V I K B : Nat → Int32) (a d : Int32) : Nat → Int32 := if (fX7_isWagon_v N a) = 0 then upd A 0 1 else if (fX7_in_v d.toInt64 1 9) = 0 then upd A 0 2 else upd A 0 0
def fX7_bestSpray_V (A T D N V I K B : Nat → Int32) (a d : Int32) : Nat → Int32 := if (fX7_isWagon_v N a) = 0 then V else if (fX7_in_v d.toInt64 1 9) = 0 then V else fX7_best_L N a d V ((N 0).toNatClampNeg)
/-! THE REFERENCE: dustiest. Laid by gen/p12.py. -/
def fX7_du_T4  (P : Nat → Int32) (j : Nat) (a4 : Int32) : Int32 := a4 + (fX7_gets_v P j)
def fX7_du_A4  (P : Nat → Int32) : Nat → Int32
  | 0 => 0
  | k + 1 => fX7_du_T4  P k (fX7_du_A4  P k)
def fX7_dus_S (N : Nat → Int32) (Pk : Nat → Int32) (k : Nat) : Nat → Int32 := upd (fX7_raise_P (fX7_dry_P (fX7_copyPage_P N Pk 0 0))) ((12 + 7 * k) + 3) 0
def fX7_dus_L (N : Nat → Int32) (P : Nat → Int32) : Nat → Nat → Int32
  | 0 => P
  | k + 1 => fX7_dus_S N (fX7_dus_L N P k) k
def fX7_dus_T1 (N : Nat → Int32) (Pk : Nat → Int32) (k : Nat) (a1 : Int32) (a2 : Int32) : Int32 := if (nI k) = 0 then nI k else if a2 ≤ (fX7_du_A4  (upd (fX7_raise_P (fX7_dry_P (fX7_copyPage_P N Pk 0 0))) ((12 + 7 * k) + 3) 0) ((N 1).toNatClampNeg)) then a1 else nI k
def fX7_dus_T2 (N : Nat → Int32) (Pk : Nat → Int32) (k : Nat) (a1 : Int32) (a2 : Int32) : Int32 := if (nI k) = 0 then fX7_du_A4  (upd (fX7_raise_P (fX7_dry_P (fX7_copyPage_P N Pk 0 0))) ((12 + 7 * k) + 3) 0) ((N 1).toNatClampNeg) else if a2 ≤ (fX7_du_A4  (upd (fX7_raise_P (fX7_dry_P (fX7_copyPage_P N Pk 0 0))) ((12 + 7 * k) + 3) 0) ((N 1).toNatClampNeg)) then a2 else fX7_du_A4  (upd (fX7_raise_P (fX7_dry_P (fX7_copyPage_P N Pk 0 0))) ((12 + 7 * k) + 3) 0) ((N 1).toNatClampNeg)
def fX7_dus_A (N : Nat → Int32) (P : Nat → Int32) : Nat → Int32 × Int32
  | 0 => (0, 0)
  | k + 1 => (fX7_dus_T1 N (fX7_dus_L N P k) k (fX7_dus_A N P k).1 (fX7_dus_A N P k).2, fX7_dus_T2 N (fX7_dus_L N P k) k (fX7_dus_A N P k).1 (fX7_dus_A N P k).2)
def fX7_dustiest_v (A T D N V I K B : Nat → Int32)  : Int32 := (fX7_dus_A N V ((N 0).toNatClampNeg)).1
def fX7_dustiest_A (A T D N V I K B : Nat → Int32)  : Nat → Int32 := upd A 0 0
def fX7_dustiest_V (A T D N V I K B : Nat → Int32)  : Nat → Int32 := fX7_dus_L N V ((N 0).toNatClampNeg)
/-! THE REFERENCE: a command. Laid by gen/p13.py. -/
def fX7_doh_S  (Pk : Nat → Int32) (k : Nat) : Nat → Int32 := fX7_hourOn_P Pk
def fX7_doh_L  (P : Nat → Int32) : Nat → Nat → Int32
  | 0 => P
  | k + 1 => fX7_doh_S  (fX7_doh_L  P k) k
theorem fX7_doh_WS {P : Nat → Int32} (hW : WS P) : ∀ k, WS (fX7_doh_L P k)
  | 0 => hW
  | k + 1 => by
    have h := fX7_doh_WS hW k
    show WS (fX7_doh_S (fX7_doh_L P k) k)
    unfold fX7_doh_S
    exact fX7_hourOn_kw h
def fX7_does_v (A T D N V I K B : Nat → Int32) (h a d : Int32) : Int32 := if h = 1 then if a = 0 then if (fX7_in_v d.toInt64 1 50) = 0 then 0 else 1 else 0 else if h = 2 then if (fX7_isWagon_v V a) = 0 then 0 else if (fX7_isSegment_v V d) = 0 then 0 else if 10 ≤ d then 0 else if (fX7_driveOn_v V a.toNatClampNeg d) = 0 then 0 else 1 else if h = 3 then if (fX7_isWagon_v V a) = 0 then 0 else if (fX7_in_v d.toInt64 1 9) = 0 then 0 else if (fX7_sprayOn_v V a.toNatClampNeg d) = 0 then 0 else 1 else if h = 4 then if (fX7_isWagon_v V a) = 0 then 0 else if d = 0 then if (fX7_why_v V a.toNatClampNeg) = 0 then if (fX7_fillOn_v V a.toNatClampNeg) ≤ 0 then 0 else 1 else 0 else 0 else if h = 5 then if (fX7_isSegment_v V a) = 0 then 0 else if (fX7_in_v d.toInt64 1 ((5 - (V ((12 + 7 * a.toNatClampNeg) + 2))).toInt64)) = 0 then 0 else 1 else if h = 6 then if (fX7_isSegment_v V a) = 0 then 0 else if d ≤ 2 then 1 else 0 else if h = 7 then if a = 0 then if (fX7_isSetting_v 5 d) = 0 then 0 else 1 else 0 else if h = 8 then if (fX7_isHouse_v V a) = 0 then 0 else if d < (V ((82 + 5 * a.toNatClampNeg) + 3)) then 0 else 1 else if h = 9 then if (fX7_isSegment_v V a) = 0 then 0 else if (10 * d) < (fX7_dustOf_v V a) then 0 else 1 else 0
def fX7_does_V (A T D N V I K B : Nat → Int32) (h a d : Int32) : Nat → Int32 := if h = 1 then if a = 0 then if (fX7_in_v d.toInt64 1 50) = 0 then V else fX7_doh_L  V d.toNatClampNeg else V else if h = 2 then if (fX7_isWagon_v V a) = 0 then V else if (fX7_isSegment_v V d) = 0 then V else if 10 ≤ d then V else if (fX7_driveOn_v V a.toNatClampNeg d) = 0 then fX7_driveOn_P V a.toNatClampNeg d else fX7_driveOn_P V a.toNatClampNeg d else if h = 3 then if (fX7_isWagon_v V a) = 0 then V else if (fX7_in_v d.toInt64 1 9) = 0 then V else if (fX7_sprayOn_v V a.toNatClampNeg d) = 0 then fX7_sprayOn_P V a.toNatClampNeg d else fX7_sprayOn_P V a.toNatClampNeg d else if h = 4 then if (fX7_isWagon_v V a) = 0 then V else if d = 0 then if (fX7_why_v V a.toNatClampNeg) = 0 then if (fX7_fillOn_v V a.toNatClampNeg) ≤ 0 then fX7_fillOn_P V a.toNatClampNeg else fX7_fillOn_P V a.toNatClampNeg else V else V else if h = 5 then if (fX7_isSegment_v V a) = 0 then V else if (fX7_in_v d.toInt64 1 ((5 - (V ((12 + 7 * a.toNatClampNeg) + 2))).toInt64)) = 0 then V else upd V ((12 + 7 * a.toNatClampNeg) + 1) d else if h = 6 then if (fX7_isSegment_v V a) = 0 then V else if d ≤ 2 then upd V (12 + 7 * a.toNatClampNeg) d else V else if h = 7 then if a = 0 then if (fX7_isSetting_v 5 d) = 0 then V else upd V 5 d else V else if h = 8 then if (fX7_isHouse_v V a) = 0 then V else if d < (V ((82 + 5 * a.toNatClampNeg) + 3)) then V else V else if h = 9 then if (fX7_isSegment_v V a) = 0 then V else if (10 * d) < (fX7_dustOf_v V a) then V else V else V
/-! THE REFERENCE: runScript. Laid by gen/p13.py. -/
def fX7_dos (V : Nat → Int32) (h a d : Int32) : Nat → Int32 := fX7_does_V V V V V V V V V h a d
def fX7_dov (V : Nat → Int32) (h a d : Int32) : Int32 := fX7_does_v V V V V V V V V h a d
theorem WS_does {V : Nat → Int32} (hV : WS V) (h a d : Int32) : WS (fX7_dos V h a d) := by
  have v0 := hV.1.2
  have v1 := hV.2.1.2
  have v2 := hV.2.2.1.2
  unfold fX7_dos fX7_does_V
  split
  · (repeat' split) <;> first | exact hV | exact fX7_doh_WS hV _
  · split
    · split
      · exact hV
      · rename_i cw
        split
        · exact hV
        · rename_i cs
          have b1 := (isPl hV.2.2.1.1 (by omega) cw).2
          have b2 := (isPl hV.1.1 (by omega) cs).2
          have hd := WS_drive hV (k := a.toNatClampNeg) (s := d) (by omega) (isPl hV.1.1 (by omega) cs).1 (by omega)
          (repeat' split) <;> first | exact hV | exact hd
    · split
      · split
        · exact hV
        · rename_i cw
          have b1 := (isPl hV.2.2.1.1 (by omega) cw).2
          have hd := WS_spray (k := a.toNatClampNeg) (a := d) (by omega) hV
          (repeat' split) <;> first | exact hV | exact hd
      · split
        · split
          · exact hV
          · rename_i cw
            have b1 := (isPl hV.2.2.1.1 (by omega) cw).2
            have hd := WS_fill hV (k := a.toNatClampNeg) (by omega)
            (repeat' split) <;> first | exact hV | exact hd
        · split
          · split
            · exact hV
            · rename_i cw
              have b1 := (isPl hV.1.1 (by omega) cw).2
              have hd := WS.up (j := 12 + 7 * a.toNatClampNeg + 1) (v := d) (by unfold kw; omega) hV
              (repeat' split) <;> first | exact hV | exact hd
          · split
            · split
              · exact hV
              · rename_i cw
                have b1 := (isPl hV.1.1 (by omega) cw).2
                have hd := WS.up (j := 12 + 7 * a.toNatClampNeg) (v := d) (by unfold kw; omega) hV
                (repeat' split) <;> first | exact hV | exact hd
            · have hd := WS.up (j := 5) (v := d) (by unfold kw; omega) hV
              (repeat' split) <;> first | exact hV | exact hd
def fX7_all (z0 : Int64) : Nat → Int64
  | 0 => z0
  | k + 1 => fX7_all z0 k / 10000
def fX7_left (z0 s : Int64) : Nat → Int64
  | 0 => s
  | k + 1 => remL (fX7_left z0 s k) (fX7_all z0 (k + 1))
def fX7_grp (z0 s : Int64) (k : Nat) : Int32 := (fX7_left z0 s k / fX7_all z0 (k + 1)).toInt32
def fX7_z0 (a : Int32) : Int64 := if a = 1 then 10000 else if a = 2 then 100000000 else if a = 3 then 1000000000000 else 10000000000000000
def fX7_run_S (z0 sc : Int64) (Pk : Nat → Int32) (k : Nat) : Nat → Int32 := fX7_dos Pk ((fX7_grp z0 sc k) / 1000) (remI ((fX7_grp z0 sc k) / 100) 10) (remI (fX7_grp z0 sc k) 100)
def fX7_run_L (z0 sc : Int64) (P : Nat → Int32) : Nat → Nat → Int32
  | 0 => P
  | k + 1 => fX7_run_S z0 sc (fX7_run_L z0 sc P k) k
def fX7_run_C (z0 sc : Int64) (Pk : Nat → Int32) (k : Nat) : Prop := (fX7_dov Pk ((fX7_grp z0 sc k) / 1000) (remI ((fX7_grp z0 sc k) / 100) 10) (remI (fX7_grp z0 sc k) 100)) = 0
theorem fX7_run_WS {P : Nat → Int32} (z0 sc : Int64) (hW : WS P) : ∀ k, WS (fX7_run_L z0 sc P k)
  | 0 => hW
  | k + 1 => by
    have h := fX7_run_WS z0 sc hW k
    show WS (fX7_run_S z0 sc (fX7_run_L z0 sc P k) k)
    unfold fX7_run_S
    exact WS_does h _ _ _
/-! THE REFERENCE: signs and digits. Laid by gen/p14.py. -/
def RA (A : Nat → Int32) : Prop := (A 2 = nI (A 2).toNatClampNeg ∧ (A 2).toNatClampNeg ≤ 70) ∧ A 3 = nI (A 3).toNatClampNeg ∧ (A 3).toNatClampNeg ≤ 70
theorem lt_pl {x y : Int32} {n k : Nat} (h : x = nI n) (h2 : y = nI k) (hk : k < 2 ^ 31) (hn : n < 2 ^ 31) (c : ¬ x ≤ y) : k < n := by
  subst h; subst h2
  rcases Nat.lt_or_ge k n with q | q
  · exact q
  · exact absurd (nI_le q hk) c
def fX7_eat_v (A T D N V I K B : Nat → Int32) (a : Int32) : Int32 := if (A 2) ≤ (A 3) then 0 else if (T ((A 3).toNatClampNeg)) = a then 1 else 0
def fX7_eat_A (A T D N V I K B : Nat → Int32) (a : Int32) : Nat → Int32 := if (A 2) ≤ (A 3) then upd A 3 ((A 3) + 0) else if (T ((A 3).toNatClampNeg)) = a then upd A 3 ((A 3) + 1) else upd A 3 ((A 3) + 0)
def fX7_digit_v (A T D N V I K B : Nat → Int32) (a d : Int32) : Int32 := if (A 2) ≤ (A 3) then if (fX7_in_v ((-1 : Int32).toInt64) 0 9) = 0 then (-9) else if (fX7_in_v ((-1 : Int32).toInt64) a.toInt64 d.toInt64) = 0 then (-9) else (-1) else if (fX7_in_v (((T ((A 3).toNatClampNeg)) - 48).toInt64) 0 9) = 0 then (-9) else if (fX7_in_v (((T ((A 3).toNatClampNeg)) - 48).toInt64) a.toInt64 d.toInt64) = 0 then (-9) else (T ((A 3).toNatClampNeg)) - 48
def fX7_digit_A (A T D N V I K B : Nat → Int32) (a d : Int32) : Nat → Int32 := if (A 2) ≤ (A 3) then if (fX7_in_v ((-1 : Int32).toInt64) 0 9) = 0 then upd A 3 ((A 3) + 0) else if (fX7_in_v ((-1 : Int32).toInt64) a.toInt64 d.toInt64) = 0 then upd A 3 ((A 3) + 0) else upd A 3 ((A 3) + 1) else if (fX7_in_v (((T ((A 3).toNatClampNeg)) - 48).toInt64) 0 9) = 0 then upd A 3 ((A 3) + 0) else if (fX7_in_v (((T ((A 3).toNatClampNeg)) - 48).toInt64) a.toInt64 d.toInt64) = 0 then upd A 3 ((A 3) + 0) else upd A 3 ((A 3) + 1)
def qX7_eat_v (A T : Nat → Int32) (a : Int32) : Int32 := fX7_eat_v A T A A A A A A a
def qX7_eat_A (A T : Nat → Int32) (a : Int32) : Nat → Int32 := fX7_eat_A A T A A A A A A a
def qX7_digit_v (A T : Nat → Int32) (a d : Int32) : Int32 := fX7_digit_v A T A A A A A A a d
def qX7_digit_A (A T : Nat → Int32) (a d : Int32) : Nat → Int32 := fX7_digit_A A T A A A A A A a d
def fX7_filling_T1  (P : Nat → Int32) (k : Nat) (a1 : Int32) : Int32 := a1 + (P ((12 + 7 * k) + 5))
def fX7_filling_A1  (P : Nat → Int32) : Nat → Int32
  | 0 => 0
  | k + 1 => fX7_filling_T1  P k (fX7_filling_A1  P k)
def fX7_filling_v (A T D N V I K B : Nat → Int32)  : Int32 := fX7_filling_A1  D ((D 0).toNatClampNeg)
def qX7_filling_v (D : Nat → Int32)  : Int32 := fX7_filling_v D D D D D D D D 
/-! THE REFERENCE: what the reader takes. Laid by gen/p14.py. -/
theorem upd_0 (A : Nat → Int32) (j : Nat) : upd A j (A j + 0) = A := by
  funext i
  by_cases h : i = j
  · subst h; rw [upd_eq]; exact Int32.add_zero _
  · rw [upd_nw _ _ h]
def up3 (A : Nat → Int32) : Nat → Int32 := upd A 3 (A 3 + 1)
theorem up3_ne (A : Nat → Int32) {j : Nat} (h : j ≠ 3) : up3 A j = A j := upd_nw _ _ h
theorem up3_nI {A : Nat → Int32} (hA : RA A) : up3 A 3 = nI ((A 3).toNatClampNeg + 1) := by
  unfold up3
  rw [upd_eq]
  refine Eq.trans ?_ (nI_1 _)
  rw [← hA.2.1]
theorem up3_at {A : Nat → Int32} (hA : RA A) : (up3 A 3).toNatClampNeg = (A 3).toNatClampNeg + 1 := by
  have h2 := hA.2.2
  rw [up3_nI hA, nI_clamp (by omega)]
theorem RA_up3 {A : Nat → Int32} (hA : RA A) (c : ¬ A 2 ≤ A 3) : RA (up3 A) := by
  have h1 := hA.1.2
  have h2 := hA.2.2
  have q := lt_pl hA.1.1 hA.2.1 (by omega) (by omega) c
  refine ⟨by rw [up3_ne A (by decide)]; exact hA.1, ?_, ?_⟩
  · rw [up3_at hA]; exact up3_nI hA
  · rw [up3_at hA]; omega
/-- the sign that stands next is this -/
def eatC (A T : Nat → Int32) (a : Int32) : Prop := ¬ A 2 ≤ A 3 ∧ T ((A 3).toNatClampNeg) = a
/-- the digit that stands next is within these -/
def digC (A T : Nat → Int32) (a d : Int32) : Prop := ¬ A 2 ≤ A 3 ∧ (0 ≤ T ((A 3).toNatClampNeg) - 48 ∧ T ((A 3).toNatClampNeg) - 48 ≤ 9) ∧ a ≤ T ((A 3).toNatClampNeg) - 48 ∧ T ((A 3).toNatClampNeg) - 48 ≤ d
theorem eat_y {A T : Nat → Int32} {a : Int32} (h : eatC A T a) : qX7_eat_v A T a = 1 ∧ qX7_eat_A A T a = up3 A := by
  unfold qX7_eat_v qX7_eat_A fX7_eat_v fX7_eat_A
  rw [if_neg h.1, if_pos h.2, if_neg h.1, if_pos h.2]
  exact ⟨rfl, rfl⟩
theorem eat_n {A T : Nat → Int32} {a : Int32} (h : ¬ eatC A T a) : qX7_eat_v A T a = 0 ∧ qX7_eat_A A T a = A := by
  unfold qX7_eat_v qX7_eat_A fX7_eat_v fX7_eat_A
  by_cases c : A 2 ≤ A 3
  · rw [if_pos c, if_pos c]; exact ⟨rfl, upd_0 A 3⟩
  · rw [if_neg c, if_neg c, if_neg (fun q => h ⟨c, q⟩), if_neg (fun q => h ⟨c, q⟩)]; exact ⟨rfl, upd_0 A 3⟩
theorem digit_y {A T : Nat → Int32} {a d : Int32} (h : digC A T a d) : qX7_digit_v A T a d = T ((A 3).toNatClampNeg) - 48 ∧ qX7_digit_A A T a d = up3 A := by
  have h1 := in_v (T ((A 3).toNatClampNeg) - 48) 0 9
  have h2 := in_v (T ((A 3).toNatClampNeg) - 48) a d
  rw [if_pos h.2.1] at h1
  rw [if_pos h.2.2] at h2
  have h1 : fX7_in_v (T ((A 3).toNatClampNeg) - 48).toInt64 0 9 = 1 := h1
  unfold qX7_digit_v qX7_digit_A fX7_digit_v fX7_digit_A
  rw [if_neg h.1, if_neg h.1, h1, h2, if_neg (by decide), if_neg (by decide), if_neg (by decide)]
  exact ⟨rfl, rfl⟩
theorem digit_n {A T : Nat → Int32} {a d : Int32} (h : ¬ digC A T a d) : qX7_digit_v A T a d = -9 ∧ qX7_digit_A A T a d = A := by
  have h1 := in_v (T ((A 3).toNatClampNeg) - 48) 0 9
  have h2 := in_v (T ((A 3).toNatClampNeg) - 48) a d
  have h1 : fX7_in_v (T ((A 3).toNatClampNeg) - 48).toInt64 0 9 = _ := h1
  have h3 : fX7_in_v ((-1 : Int32).toInt64) 0 9 = 0 := by decide
  unfold qX7_digit_v qX7_digit_A fX7_digit_v fX7_digit_A
  by_cases c : A 2 ≤ A 3
  · rw [if_pos c, if_pos c, h3, if_pos rfl, if_pos rfl]; exact ⟨rfl, upd_0 A 3⟩
  · rw [if_neg c, if_neg c, h1, h2]
    by_cases q : 0 ≤ T ((A 3).toNatClampNeg) - 48 ∧ T ((A 3).toNatClampNeg) - 48 ≤ 9
    · have q2 : ¬ (a ≤ T ((A 3).toNatClampNeg) - 48 ∧ T ((A 3).toNatClampNeg) - 48 ≤ d) := fun z => h ⟨c, q, z⟩
      rw [if_pos q, if_neg q2]
      exact ⟨by rw [if_neg (by decide), if_pos rfl], by rw [if_neg (by decide), if_pos rfl]; exact upd_0 A 3⟩
    · rw [if_neg q, if_pos rfl, if_pos rfl]
      exact ⟨rfl, upd_0 A 3⟩
theorem digit_ge {A T : Nat → Int32} {a d : Int32} (h : ¬ qX7_digit_v A T a d = -9) : digC A T a d := by
  by_cases c : digC A T a d
  · exact c
  · exact absurd (digit_n c).1 h
theorem digit_ne {A T : Nat → Int32} {a d : Int32} (h : digC A T a d) : ¬ qX7_digit_v A T a d = -9 := by
  rw [(digit_y h).1]
  intro e
  have := h.2.1.1
  rw [e] at this
  exact absurd this (by decide)
theorem RA_eat {A T : Nat → Int32} {a : Int32} (hA : RA A) : RA (qX7_eat_A A T a) := by
  by_cases h : eatC A T a
  · rw [(eat_y h).2]; exact RA_up3 hA h.1
  · rw [(eat_n h).2]; exact hA
theorem RA_digit {A T : Nat → Int32} {a d : Int32} (hA : RA A) : RA (qX7_digit_A A T a d) := by
  by_cases h : digC A T a d
  · rw [(digit_y h).2]; exact RA_up3 hA h.1
  · rw [(digit_n h).2]; exact hA
/-- a digit taken: a number from 0 to 9, within the bounds -/
theorem digit_pl {A T : Nat → Int32} {a d : Int32} (h : ¬ qX7_digit_v A T a d = -9) : qX7_digit_v A T a d = nI (qX7_digit_v A T a d).toNatClampNeg ∧ (qX7_digit_v A T a d).toNatClampNeg < 10 ∧ a ≤ qX7_digit_v A T a d ∧ qX7_digit_v A T a d ≤ d := by
  have c := digit_ge h
  rw [(digit_y c).1]
  refine ⟨?_, ?_, c.2.2.1, c.2.2.2⟩
  · obtain ⟨j, hj, e⟩ := nI_of (i32_le_nlt c.2.1.1)
    rw [e, nI_clamp hj]
  · obtain ⟨j, hj, e⟩ := nI_of (i32_le_nlt c.2.1.1)
    have q := c.2.1.2
    rw [e] at q ⊢
    rw [nI_clamp hj]
    have := (nI_leI (b := 9) hj (by decide)).mp q
    omega
theorem digit_lt {A T : Nat → Int32} {x : Int32} {n : Nat} (hx : x = nI n) (hn : n < 2 ^ 31) (h : ¬ qX7_digit_v A T 0 (x - 1) = -9) : (qX7_digit_v A T 0 (x - 1)).toNatClampNeg < n := by
  obtain ⟨h1, h2, h3, h4⟩ := digit_pl h
  subst hx
  generalize qX7_digit_v A T 0 (nI n - 1) = v at h1 h2 h4 ⊢
  cases n with
  | zero =>
    exfalso
    rw [h1] at h4
    exact absurd h4 (i32_lt_nle (by rw [nI_0]; exact Int32.lt_iff_toInt_lt.mpr (by rw [nI_toInt (by omega)]; show (-1 : Int) < _; omega)))
  | succ n =>
    rw [nI_pred, h1] at h4
    have := (nI_leI (by omega) (by omega)).mp h4
    omega

/-! THE REFERENCE: pages that readers make. Laid by gen/p14.py. -/
theorem fX7_ho_L1 (n : Nat) (P : Nat → Int32) : ∀ k j, fX7_houseOn_L n P k j = if 82 + 5 * n ≤ j ∧ j < 82 + 5 * n + k then 0 else P j
  | 0, j => by rw [if_neg (by omega)]; rfl
  | k + 1, j => by
    have h := fX7_ho_L1 n P k j
    show fX7_houseOn_S n (fX7_houseOn_L n P k) k j = _
    unfold fX7_houseOn_S
    by_cases e : j = 82 + 5 * n + k
    · subst e; rw [upd_eq, if_pos (by omega)]
    · rw [upd_nw _ _ e, h]
      by_cases q : 82 + 5 * n ≤ j ∧ j < 82 + 5 * n + k
      · rw [if_pos q, if_pos (by omega)]
      · rw [if_neg q, if_neg (by omega)]
theorem ho_at (P : Nat → Int32) (a d : Int32) {n : Nat} (hn : (P 1).toNatClampNeg = n) (j : Nat) : fX7_houseOn_P P a d j = if j = 1 then P 1 + 1 else if j = 82 + 5 * n + 1 then d else if j = 82 + 5 * n then a else if 82 + 5 * n ≤ j ∧ j < 82 + 5 * n + 5 then 0 else P j := by
  unfold fX7_houseOn_P
  rw [hn]
  by_cases e1 : j = 1
  · subst e1
    rw [upd_eq, upd_nw _ _ (by omega), upd_nw _ _ (by omega), fX7_ho_L1, if_neg (by omega), if_pos rfl]
  · rw [upd_nw _ _ e1, if_neg e1]
    by_cases e2 : j = 82 + 5 * n + 1
    · subst e2; rw [upd_eq, if_pos rfl]
    · rw [upd_nw _ _ e2, if_neg e2]
      by_cases e3 : j = 82 + 5 * n
      · subst e3; rw [upd_eq, if_pos rfl]
      · rw [upd_nw _ _ e3, if_neg e3, fX7_ho_L1]
theorem wo_at (P : Nat → Int32) (a : Int32) {n : Nat} (hn : (P 2).toNatClampNeg = n) (j : Nat) : fX7_wagonOn_P P a j = if j = 2 then P 2 + 1 else if j = 122 + 3 * n + 2 then 4 else if j = 122 + 3 * n + 1 then 20 else if j = 122 + 3 * n then a else P j := by
  unfold fX7_wagonOn_P
  rw [hn]
  by_cases e1 : j = 2
  · subst e1
    rw [upd_eq, upd_nw _ _ (by omega), upd_nw _ _ (by omega), upd_nw _ _ (by omega), if_pos rfl]
  · rw [upd_nw _ _ e1, if_neg e1]
    by_cases e2 : j = 122 + 3 * n + 2
    · subst e2; rw [upd_eq, if_pos rfl]
    · rw [upd_nw _ _ e2, if_neg e2]
      by_cases e3 : j = 122 + 3 * n + 1
      · subst e3; rw [upd_eq, if_pos rfl]
      · rw [upd_nw _ _ e3, if_neg e3]
        by_cases e4 : j = 122 + 3 * n
        · subst e4; rw [upd_eq, if_pos rfl]
        · rw [upd_nw _ _ e4, if_neg e4]
theorem fX7_clr_L1 (P : Nat → Int32) : ∀ k j, fX7_clr_L P k j = if j < k then 0 else P j
  | 0, j => by rw [if_neg (by omega)]; rfl
  | k + 1, j => by
    have h := fX7_clr_L1 P k j
    show fX7_clr_S (fX7_clr_L P k) k j = _
    unfold fX7_clr_S
    by_cases e : j = k
    · subst e; rw [upd_eq, if_pos (by omega)]
    · rw [upd_nw _ _ e, h]
      by_cases q : j < k
      · rw [if_pos q, if_pos (by omega)]
      · rw [if_neg q, if_neg (by omega)]
theorem fX7_cls_L1 (P : Nat → Int32) : ∀ k j, fX7_cls_L P k j = if 12 ≤ j ∧ j < 12 + 7 * k ∧ (j - 12) % 7 = 1 then 3 else P j
  | 0, j => by rw [if_neg (by omega)]; rfl
  | k + 1, j => by
    have h := fX7_cls_L1 P k j
    show fX7_cls_S (fX7_cls_L P k) k j = _
    unfold fX7_cls_S
    by_cases e : j = 12 + 7 * k + 1
    · subst e; rw [upd_eq, if_pos (by omega)]
    · rw [upd_nw _ _ e, h]
      by_cases q : 12 ≤ j ∧ j < 12 + 7 * k ∧ (j - 12) % 7 = 1
      · rw [if_pos q, if_pos (by omega)]
      · rw [if_neg q, if_neg (by omega)]
/-- a new page -/
theorem clear_at (P : Nat → Int32) (n j : Nat) (hj : j < 131) : fX7_clear_P P n j = if j = 0 then nI n else if j = 5 then 10 else if j = 6 then 5 else if j = 7 then 50 else if j = 8 then 40 else if 12 ≤ j ∧ j < 12 + 7 * n ∧ (j - 12) % 7 = 1 then 3 else 0 := by
  unfold fX7_clear_P
  rw [fX7_cls_L1]
  by_cases c : 12 ≤ j ∧ j < 12 + 7 * n ∧ (j - 12) % 7 = 1
  · rw [if_pos c, if_neg (by omega), if_neg (by omega), if_neg (by omega), if_neg (by omega), if_neg (by omega), if_pos c]
  · rw [if_neg c, if_neg c]
    unfold upd
    rw [fX7_clr_L1, if_pos hj]
    by_cases h0 : j = 0
    · subst h0; rfl
    · by_cases h5 : j = 5
      · subst h5; rfl
      · by_cases h6 : j = 6
        · subst h6; rfl
        · by_cases h7 : j = 7
          · subst h7; rfl
          · by_cases h8 : j = 8
            · subst h8; rfl
            · rw [if_neg h8, if_neg h7, if_neg h6, if_neg h5, if_neg h0, if_neg h0, if_neg h5, if_neg h6, if_neg h7, if_neg h8]
theorem nI_le1 {k m : Nat} (h : k ≤ m) (hm : m < 2 ^ 31) : nI k = nI (nI k).toNatClampNeg ∧ (nI k).toNatClampNeg ≤ m := by
  rw [nI_clamp (by omega)]
  exact ⟨rfl, h⟩
theorem WS_clear (P : Nat → Int32) {n : Nat} (hn : n ≤ 10) : WS (fX7_clear_P P n) := by
  have c0 : fX7_clear_P P n 0 = nI n := by rw [clear_at P n 0 (by decide), if_pos rfl]
  have c1 : fX7_clear_P P n 1 = 0 := by rw [clear_at P n 1 (by decide)]; rfl
  have c2 : fX7_clear_P P n 2 = 0 := by rw [clear_at P n 2 (by decide)]; rfl
  unfold WS
  rw [c0, c1, c2]
  refine ⟨nI_le1 hn (by decide), ⟨by decide, by decide⟩, ⟨by decide, by decide⟩, fun i hi => ?_, fun i hi => ?_⟩
  · rw [clear_at P n _ (by omega), clear_at P n _ (by omega), if_neg (by omega), if_neg (by omega), if_neg (by omega), if_neg (by omega), if_neg (by omega), if_neg (by omega), if_neg (by omega), if_neg (by omega), if_neg (by omega), if_neg (by omega), if_neg (by omega), if_neg (by omega)]
    exact ⟨by decide, by decide, by decide⟩
  · rw [clear_at P n _ (by omega), if_neg (by omega), if_neg (by omega), if_neg (by omega), if_neg (by omega), if_neg (by omega), if_neg (by omega)]
    exact ⟨by decide, by decide⟩
theorem ret1 {x : Int32} {n m : Nat} (h : x = nI x.toNatClampNeg) (h2 : x.toNatClampNeg = n) (hn : n < m) (hm : m < 2 ^ 31) : x + 1 = nI (x + 1).toNatClampNeg ∧ (x + 1).toNatClampNeg ≤ m := by
  rw [h2] at h
  rw [show x + 1 = nI (n + 1) from (by rw [h]; exact nI_1 _)]
  exact nI_le1 (by omega) hm
theorem WS_ho {P : Nat → Int32} {a d : Int32} (hW : WS P) (h8 : (P 1).toNatClampNeg < 8) (ha : a = nI a.toNatClampNeg) (ha2 : a.toNatClampNeg < 10) (hd : ¬ 2 * (1 + d) = 0) : WS (fX7_houseOn_P P a d) := by
  obtain ⟨n, hn⟩ : ∃ n, (P 1).toNatClampNeg = n := ⟨_, rfl⟩
  have w := ret1 hW.2.1.1 hn (m := 8) (by omega) (by decide)
  unfold WS
  rw [show fX7_houseOn_P P a d 0 = P 0 from (by rw [ho_at P a d hn, if_neg (by omega), if_neg (by omega), if_neg (by omega), if_neg (by omega)]), show fX7_houseOn_P P a d 1 = P 1 + 1 from (by rw [ho_at P a d hn, if_pos rfl]), show fX7_houseOn_P P a d 2 = P 2 from (by rw [ho_at P a d hn, if_neg (by omega), if_neg (by omega), if_neg (by omega), if_neg (by omega)])]
  refine ⟨hW.1, w, hW.2.2.1, fun i hi => ?_, fun i hi => ?_⟩
  · by_cases e : i = n
    · subst e
      rw [show fX7_houseOn_P P a d (82 + 5 * i) = a from (by rw [ho_at P a d hn, if_neg (by omega), if_neg (by omega), if_pos rfl]), show fX7_houseOn_P P a d (82 + 5 * i + 1) = d from (by rw [ho_at P a d hn, if_neg (by omega), if_pos rfl])]
      exact ⟨ha, ha2, hd⟩
    · rw [show fX7_houseOn_P P a d (82 + 5 * i) = P (82 + 5 * i) from (by rw [ho_at P a d hn, if_neg (by omega), if_neg (by omega), if_neg (by omega), if_neg (by omega)]), show fX7_houseOn_P P a d (82 + 5 * i + 1) = P (82 + 5 * i + 1) from (by rw [ho_at P a d hn, if_neg (by omega), if_neg (by omega), if_neg (by omega), if_neg (by omega)])]
      exact hW.2.2.2.1 i hi
  · rw [ho_at P a d hn, if_neg (by omega), if_neg (by omega), if_neg (by omega), if_neg (by omega)]
    exact hW.2.2.2.2 i hi
theorem WS_wo {P : Nat → Int32} {a : Int32} (hW : WS P) (h3 : (P 2).toNatClampNeg < 3) (ha : a = nI a.toNatClampNeg) (ha2 : a.toNatClampNeg < 10) : WS (fX7_wagonOn_P P a) := by
  obtain ⟨n, hn⟩ : ∃ n, (P 2).toNatClampNeg = n := ⟨_, rfl⟩
  have w := ret1 hW.2.2.1.1 hn (m := 3) (by omega) (by decide)
  unfold WS
  rw [show fX7_wagonOn_P P a 0 = P 0 from (by rw [wo_at P a hn, if_neg (by omega), if_neg (by omega), if_neg (by omega), if_neg (by omega)]), show fX7_wagonOn_P P a 1 = P 1 from (by rw [wo_at P a hn, if_neg (by omega), if_neg (by omega), if_neg (by omega), if_neg (by omega)]), show fX7_wagonOn_P P a 2 = P 2 + 1 from (by rw [wo_at P a hn, if_pos rfl])]
  refine ⟨hW.1, hW.2.1, w, fun i hi => ?_, fun i hi => ?_⟩
  · rw [wo_at P a hn, wo_at P a hn, if_neg (by omega), if_neg (by omega), if_neg (by omega), if_neg (by omega), if_neg (by omega), if_neg (by omega), if_neg (by omega), if_neg (by omega)]
    exact hW.2.2.2.1 i hi
  · rw [wo_at P a hn, if_neg (by omega), if_neg (by omega), if_neg (by omega)]
    by_cases e : i = n
    · subst e
      rw [if_pos rfl]
      exact ⟨ha, ha2⟩
    · rw [if_neg (by omega)]
      exact hW.2.2.2.2 i hi

/-! THE REFERENCE: a house, a wagon, a filling place are read. Laid by gen/p14.py. -/
def fX7_readHouse_v (A T D N V I K B : Nat → Int32)  : Int32 := if (qX7_digit_v A T 0 ((D 0) - 1)) = (-9) then 0 else if (qX7_digit_v (qX7_digit_A A T 0 ((D 0) - 1)) T 0 9) = (-9) then 0 else 1
def fX7_readHouse_A (A T D N V I K B : Nat → Int32)  : Nat → Int32 := if (qX7_digit_v A T 0 ((D 0) - 1)) = (-9) then qX7_digit_A A T 0 ((D 0) - 1) else if (qX7_digit_v (qX7_digit_A A T 0 ((D 0) - 1)) T 0 9) = (-9) then qX7_digit_A (qX7_digit_A A T 0 ((D 0) - 1)) T 0 9 else qX7_digit_A (qX7_digit_A A T 0 ((D 0) - 1)) T 0 9
def fX7_readHouse_D (A T D N V I K B : Nat → Int32)  : Nat → Int32 := if (qX7_digit_v A T 0 ((D 0) - 1)) = (-9) then D else if (qX7_digit_v (qX7_digit_A A T 0 ((D 0) - 1)) T 0 9) = (-9) then D else fX7_houseOn_P D (qX7_digit_v A T 0 ((D 0) - 1)) (qX7_digit_v (qX7_digit_A A T 0 ((D 0) - 1)) T 0 9)
def qX7_readHouse_v (A T D : Nat → Int32)  : Int32 := fX7_readHouse_v A T D A A A A A 
def qX7_readHouse_A (A T D : Nat → Int32)  : Nat → Int32 := fX7_readHouse_A A T D A A A A A 
def qX7_readHouse_D (A T D : Nat → Int32)  : Nat → Int32 := fX7_readHouse_D A T D A A A A A 
def fX7_readWagon_v (A T D N V I K B : Nat → Int32)  : Int32 := if (qX7_digit_v A T 0 ((D 0) - 1)) = (-9) then 0 else 1
def fX7_readWagon_A (A T D N V I K B : Nat → Int32)  : Nat → Int32 := if (qX7_digit_v A T 0 ((D 0) - 1)) = (-9) then qX7_digit_A A T 0 ((D 0) - 1) else qX7_digit_A A T 0 ((D 0) - 1)
def fX7_readWagon_D (A T D N V I K B : Nat → Int32)  : Nat → Int32 := if (qX7_digit_v A T 0 ((D 0) - 1)) = (-9) then D else fX7_wagonOn_P D (qX7_digit_v A T 0 ((D 0) - 1))
def qX7_readWagon_v (A T D : Nat → Int32)  : Int32 := fX7_readWagon_v A T D A A A A A 
def qX7_readWagon_A (A T D : Nat → Int32)  : Nat → Int32 := fX7_readWagon_A A T D A A A A A 
def qX7_readWagon_D (A T D : Nat → Int32)  : Nat → Int32 := fX7_readWagon_D A T D A A A A A 
def fX7_readFilling_v (A T D N V I K B : Nat → Int32)  : Int32 := if (qX7_digit_v A T 0 ((D 0) - 1)) = (-9) then 0 else if (D ((12 + 7 * ((qX7_digit_v A T 0 ((D 0) - 1)).toNatClampNeg)) + 5)) = 1 then 0 else 1
def fX7_readFilling_A (A T D N V I K B : Nat → Int32)  : Nat → Int32 := if (qX7_digit_v A T 0 ((D 0) - 1)) = (-9) then qX7_digit_A A T 0 ((D 0) - 1) else if (D ((12 + 7 * ((qX7_digit_v A T 0 ((D 0) - 1)).toNatClampNeg)) + 5)) = 1 then upd (qX7_digit_A A T 0 ((D 0) - 1)) 3 (((qX7_digit_A A T 0 ((D 0) - 1)) 3) - 1) else qX7_digit_A A T 0 ((D 0) - 1)
def fX7_readFilling_D (A T D N V I K B : Nat → Int32)  : Nat → Int32 := if (qX7_digit_v A T 0 ((D 0) - 1)) = (-9) then D else if (D ((12 + 7 * ((qX7_digit_v A T 0 ((D 0) - 1)).toNatClampNeg)) + 5)) = 1 then D else upd D ((12 + 7 * ((qX7_digit_v A T 0 ((D 0) - 1)).toNatClampNeg)) + 5) 1
def qX7_readFilling_v (A T D : Nat → Int32)  : Int32 := fX7_readFilling_v A T D A A A A A 
def qX7_readFilling_A (A T D : Nat → Int32)  : Nat → Int32 := fX7_readFilling_A A T D A A A A A 
def qX7_readFilling_D (A T D : Nat → Int32)  : Nat → Int32 := fX7_readFilling_D A T D A A A A A 
/-! THE REFERENCE: a part is read. Laid by gen/p14.py. -/
def fX7_readPart_v (A T D N V I K B : Nat → Int32)  : Int32 := if 8 ≤ (D 1) then if 3 ≤ (D 2) then if (D 0) ≤ (qX7_filling_v D ) then 0 else if (qX7_eat_v A T 102) = 0 then 0 else if (qX7_readFilling_v (qX7_eat_A A T 102) T D ) = 0 then 0 else 1 else if (qX7_eat_v A T 119) = 0 then if (D 0) ≤ (qX7_filling_v D ) then 0 else if (qX7_eat_v (qX7_eat_A A T 119) T 102) = 0 then 0 else if (qX7_readFilling_v (qX7_eat_A (qX7_eat_A A T 119) T 102) T D ) = 0 then 0 else 1 else qX7_readWagon_v (qX7_eat_A A T 119) T D  else if (qX7_eat_v A T 104) = 0 then if 3 ≤ (D 2) then if (D 0) ≤ (qX7_filling_v D ) then 0 else if (qX7_eat_v (qX7_eat_A A T 104) T 102) = 0 then 0 else if (qX7_readFilling_v (qX7_eat_A (qX7_eat_A A T 104) T 102) T D ) = 0 then 0 else 1 else if (qX7_eat_v (qX7_eat_A A T 104) T 119) = 0 then if (D 0) ≤ (qX7_filling_v D ) then 0 else if (qX7_eat_v (qX7_eat_A (qX7_eat_A A T 104) T 119) T 102) = 0 then 0 else if (qX7_readFilling_v (qX7_eat_A (qX7_eat_A (qX7_eat_A A T 104) T 119) T 102) T D ) = 0 then 0 else 1 else qX7_readWagon_v (qX7_eat_A (qX7_eat_A A T 104) T 119) T D  else qX7_readHouse_v (qX7_eat_A A T 104) T D 
def fX7_readPart_A (A T D N V I K B : Nat → Int32)  : Nat → Int32 := if 8 ≤ (D 1) then if 3 ≤ (D 2) then if (D 0) ≤ (qX7_filling_v D ) then A else if (qX7_eat_v A T 102) = 0 then qX7_eat_A A T 102 else if (qX7_readFilling_v (qX7_eat_A A T 102) T D ) = 0 then qX7_readFilling_A (qX7_eat_A A T 102) T D  else qX7_readFilling_A (qX7_eat_A A T 102) T D  else if (qX7_eat_v A T 119) = 0 then if (D 0) ≤ (qX7_filling_v D ) then qX7_eat_A A T 119 else if (qX7_eat_v (qX7_eat_A A T 119) T 102) = 0 then qX7_eat_A (qX7_eat_A A T 119) T 102 else if (qX7_readFilling_v (qX7_eat_A (qX7_eat_A A T 119) T 102) T D ) = 0 then qX7_readFilling_A (qX7_eat_A (qX7_eat_A A T 119) T 102) T D  else qX7_readFilling_A (qX7_eat_A (qX7_eat_A A T 119) T 102) T D  else qX7_readWagon_A (qX7_eat_A A T 119) T D  else if (qX7_eat_v A T 104) = 0 then if 3 ≤ (D 2) then if (D 0) ≤ (qX7_filling_v D ) then qX7_eat_A A T 104 else if (qX7_eat_v (qX7_eat_A A T 104) T 102) = 0 then qX7_eat_A (qX7_eat_A A T 104) T 102 else if (qX7_readFilling_v (qX7_eat_A (qX7_eat_A A T 104) T 102) T D ) = 0 then qX7_readFilling_A (qX7_eat_A (qX7_eat_A A T 104) T 102) T D  else qX7_readFilling_A (qX7_eat_A (qX7_eat_A A T 104) T 102) T D  else if (qX7_eat_v (qX7_eat_A A T 104) T 119) = 0 then if (D 0) ≤ (qX7_filling_v D ) then qX7_eat_A (qX7_eat_A A T 104) T 119 else if (qX7_eat_v (qX7_eat_A (qX7_eat_A A T 104) T 119) T 102) = 0 then qX7_eat_A (qX7_eat_A (qX7_eat_A A T 104) T 119) T 102 else if (qX7_readFilling_v (qX7_eat_A (qX7_eat_A (qX7_eat_A A T 104) T 119) T 102) T D ) = 0 then qX7_readFilling_A (qX7_eat_A (qX7_eat_A (qX7_eat_A A T 104) T 119) T 102) T D  else qX7_readFilling_A (qX7_eat_A (qX7_eat_A (qX7_eat_A A T 104) T 119) T 102) T D  else qX7_readWagon_A (qX7_eat_A (qX7_eat_A A T 104) T 119) T D  else qX7_readHouse_A (qX7_eat_A A T 104) T D 
def fX7_readPart_D (A T D N V I K B : Nat → Int32)  : Nat → Int32 := if 8 ≤ (D 1) then if 3 ≤ (D 2) then if (D 0) ≤ (qX7_filling_v D ) then D else if (qX7_eat_v A T 102) = 0 then D else if (qX7_readFilling_v (qX7_eat_A A T 102) T D ) = 0 then qX7_readFilling_D (qX7_eat_A A T 102) T D  else qX7_readFilling_D (qX7_eat_A A T 102) T D  else if (qX7_eat_v A T 119) = 0 then if (D 0) ≤ (qX7_filling_v D ) then D else if (qX7_eat_v (qX7_eat_A A T 119) T 102) = 0 then D else if (qX7_readFilling_v (qX7_eat_A (qX7_eat_A A T 119) T 102) T D ) = 0 then qX7_readFilling_D (qX7_eat_A (qX7_eat_A A T 119) T 102) T D  else qX7_readFilling_D (qX7_eat_A (qX7_eat_A A T 119) T 102) T D  else qX7_readWagon_D (qX7_eat_A A T 119) T D  else if (qX7_eat_v A T 104) = 0 then if 3 ≤ (D 2) then if (D 0) ≤ (qX7_filling_v D ) then D else if (qX7_eat_v (qX7_eat_A A T 104) T 102) = 0 then D else if (qX7_readFilling_v (qX7_eat_A (qX7_eat_A A T 104) T 102) T D ) = 0 then qX7_readFilling_D (qX7_eat_A (qX7_eat_A A T 104) T 102) T D  else qX7_readFilling_D (qX7_eat_A (qX7_eat_A A T 104) T 102) T D  else if (qX7_eat_v (qX7_eat_A A T 104) T 119) = 0 then if (D 0) ≤ (qX7_filling_v D ) then D else if (qX7_eat_v (qX7_eat_A (qX7_eat_A A T 104) T 119) T 102) = 0 then D else if (qX7_readFilling_v (qX7_eat_A (qX7_eat_A (qX7_eat_A A T 104) T 119) T 102) T D ) = 0 then qX7_readFilling_D (qX7_eat_A (qX7_eat_A (qX7_eat_A A T 104) T 119) T 102) T D  else qX7_readFilling_D (qX7_eat_A (qX7_eat_A (qX7_eat_A A T 104) T 119) T 102) T D  else qX7_readWagon_D (qX7_eat_A (qX7_eat_A A T 104) T 119) T D  else qX7_readHouse_D (qX7_eat_A A T 104) T D 
def qX7_readPart_v (A T D : Nat → Int32)  : Int32 := fX7_readPart_v A T D A A A A A 
def qX7_readPart_A (A T D : Nat → Int32)  : Nat → Int32 := fX7_readPart_A A T D A A A A A 
def qX7_readPart_D (A T D : Nat → Int32)  : Nat → Int32 := fX7_readPart_D A T D A A A A A 
/-! THE REFERENCE: what a part read is. Laid by gen/p14.py. -/
theorem up3_back {A : Nat → Int32} : upd (up3 A) 3 (up3 A 3 - 1) = A := by
  funext i
  by_cases h : i = 3
  · subst h; rw [upd_eq]; unfold up3; rw [upd_eq]; exact Int32.add_sub_cancel _ _
  · rw [upd_nw _ _ h, up3_ne A h]
section
variable {A T D : Nat → Int32}
theorem rh_n1 (h : ¬ digC A T 0 (D 0 - 1)) : qX7_readHouse_v A T D = 0 ∧ qX7_readHouse_A A T D = A ∧ qX7_readHouse_D A T D = D := by
  have n := digit_n h
  unfold qX7_readHouse_v qX7_readHouse_A qX7_readHouse_D fX7_readHouse_v fX7_readHouse_A fX7_readHouse_D
  rw [n.1, n.2, if_pos rfl, if_pos rfl, if_pos rfl]
  exact ⟨rfl, rfl, rfl⟩
theorem rh_n2 (h : digC A T 0 (D 0 - 1)) (h2 : ¬ digC (up3 A) T 0 9) : qX7_readHouse_v A T D = 0 ∧ qX7_readHouse_A A T D = up3 A ∧ qX7_readHouse_D A T D = D := by
  have y := digit_ne h
  have n := digit_n h2
  unfold qX7_readHouse_v qX7_readHouse_A qX7_readHouse_D fX7_readHouse_v fX7_readHouse_A fX7_readHouse_D
  rw [(digit_y h).2, if_neg y, if_neg y, if_neg y, n.1, n.2, if_pos rfl, if_pos rfl, if_pos rfl]
  exact ⟨rfl, rfl, rfl⟩
theorem rh_y (h : digC A T 0 (D 0 - 1)) (h2 : digC (up3 A) T 0 9) : qX7_readHouse_v A T D = 1 ∧ qX7_readHouse_A A T D = up3 (up3 A) ∧ qX7_readHouse_D A T D = fX7_houseOn_P D (qX7_digit_v A T 0 (D 0 - 1)) (qX7_digit_v (up3 A) T 0 9) := by
  have y := digit_ne h
  have y2 := digit_ne h2
  unfold qX7_readHouse_v qX7_readHouse_A qX7_readHouse_D fX7_readHouse_v fX7_readHouse_A fX7_readHouse_D
  rw [(digit_y h).2, if_neg y, if_neg y, if_neg y, if_neg y2, if_neg y2, if_neg y2, (digit_y h2).2]
  exact ⟨rfl, rfl, rfl⟩
theorem rw_n (h : ¬ digC A T 0 (D 0 - 1)) : qX7_readWagon_v A T D = 0 ∧ qX7_readWagon_A A T D = A ∧ qX7_readWagon_D A T D = D := by
  have n := digit_n h
  unfold qX7_readWagon_v qX7_readWagon_A qX7_readWagon_D fX7_readWagon_v fX7_readWagon_A fX7_readWagon_D
  rw [n.1, n.2, if_pos rfl, if_pos rfl, if_pos rfl]
  exact ⟨rfl, rfl, rfl⟩
theorem rw_y (h : digC A T 0 (D 0 - 1)) : qX7_readWagon_v A T D = 1 ∧ qX7_readWagon_A A T D = up3 A ∧ qX7_readWagon_D A T D = fX7_wagonOn_P D (qX7_digit_v A T 0 (D 0 - 1)) := by
  have y := digit_ne h
  unfold qX7_readWagon_v qX7_readWagon_A qX7_readWagon_D fX7_readWagon_v fX7_readWagon_A fX7_readWagon_D
  rw [(digit_y h).2, if_neg y, if_neg y, if_neg y]
  exact ⟨rfl, rfl, rfl⟩
theorem rf_n (h : ¬ digC A T 0 (D 0 - 1)) : qX7_readFilling_v A T D = 0 ∧ qX7_readFilling_A A T D = A ∧ qX7_readFilling_D A T D = D := by
  have n := digit_n h
  unfold qX7_readFilling_v qX7_readFilling_A qX7_readFilling_D fX7_readFilling_v fX7_readFilling_A fX7_readFilling_D
  rw [n.1, n.2, if_pos rfl, if_pos rfl, if_pos rfl]
  exact ⟨rfl, rfl, rfl⟩
/-- the place that a filling place's digit names -/
def rfi (A T D : Nat → Int32) : Nat := 12 + 7 * (qX7_digit_v A T 0 (D 0 - 1)).toNatClampNeg + 5
theorem rf_m (h : digC A T 0 (D 0 - 1)) (h2 : D (rfi A T D) = 1) : qX7_readFilling_v A T D = 0 ∧ qX7_readFilling_A A T D = A ∧ qX7_readFilling_D A T D = D := by
  have y := digit_ne h
  unfold rfi at h2
  unfold qX7_readFilling_v qX7_readFilling_A qX7_readFilling_D fX7_readFilling_v fX7_readFilling_A fX7_readFilling_D
  rw [(digit_y h).2, if_neg y, if_neg y, if_neg y, if_pos h2, if_pos h2, if_pos h2]
  exact ⟨rfl, up3_back, rfl⟩
theorem rf_y (h : digC A T 0 (D 0 - 1)) (h2 : ¬ D (rfi A T D) = 1) : qX7_readFilling_v A T D = 1 ∧ qX7_readFilling_A A T D = up3 A ∧ qX7_readFilling_D A T D = upd D (rfi A T D) 1 := by
  have y := digit_ne h
  unfold rfi at h2 ⊢
  unfold qX7_readFilling_v qX7_readFilling_A qX7_readFilling_D fX7_readFilling_v fX7_readFilling_A fX7_readFilling_D
  rw [(digit_y h).2, if_neg y, if_neg y, if_neg y, if_neg h2, if_neg h2, if_neg h2]
  exact ⟨rfl, rfl, rfl⟩
theorem rp_h (h1 : ¬ 8 ≤ D 1) (h2 : eatC A T 104) : qX7_readPart_v A T D = qX7_readHouse_v (up3 A) T D ∧ qX7_readPart_A A T D = qX7_readHouse_A (up3 A) T D ∧ qX7_readPart_D A T D = qX7_readHouse_D (up3 A) T D := by
  have y := eat_y h2
  unfold qX7_readPart_v qX7_readPart_A qX7_readPart_D fX7_readPart_v fX7_readPart_A fX7_readPart_D
  rw [y.1, y.2]
  refine ⟨?_, ?_, ?_⟩ <;> simp only [if_neg h1, if_neg (show ¬ (1 : Int32) = 0 by decide)]
theorem rp_w (h : ¬ (¬ 8 ≤ D 1 ∧ eatC A T 104)) (h1 : ¬ 3 ≤ D 2) (h2 : eatC A T 119) : qX7_readPart_v A T D = qX7_readWagon_v (up3 A) T D ∧ qX7_readPart_A A T D = qX7_readWagon_A (up3 A) T D ∧ qX7_readPart_D A T D = qX7_readWagon_D (up3 A) T D := by
  have y := eat_y h2
  unfold qX7_readPart_v qX7_readPart_A qX7_readPart_D fX7_readPart_v fX7_readPart_A fX7_readPart_D
  by_cases c : 8 ≤ D 1
  · refine ⟨?_, ?_, ?_⟩ <;> simp only [if_pos c, if_neg h1, y.1, y.2, if_neg (show ¬ (1 : Int32) = 0 by decide)]
  · have n := eat_n (fun q => h ⟨c, q⟩)
    refine ⟨?_, ?_, ?_⟩ <;> simp only [if_neg c, if_neg h1, n.1, n.2, y.1, y.2, if_neg (show ¬ (1 : Int32) = 0 by decide), if_true]
theorem rp_f (h : ¬ (¬ 8 ≤ D 1 ∧ eatC A T 104)) (h' : ¬ (¬ 3 ≤ D 2 ∧ eatC A T 119)) (h1 : ¬ D 0 ≤ qX7_filling_v D) (h2 : eatC A T 102) : qX7_readPart_v A T D = (if qX7_readFilling_v (up3 A) T D = 0 then 0 else 1) ∧ qX7_readPart_A A T D = qX7_readFilling_A (up3 A) T D ∧ qX7_readPart_D A T D = qX7_readFilling_D (up3 A) T D := by
  have y := eat_y h2
  unfold qX7_readPart_v qX7_readPart_A qX7_readPart_D fX7_readPart_v fX7_readPart_A fX7_readPart_D
  by_cases c : 8 ≤ D 1 <;> by_cases c' : 3 ≤ D 2
  · refine ⟨?_, ?_, ?_⟩ <;> simp only [if_pos c, if_pos c', if_neg h1, y.1, y.2, if_neg (show ¬ (1 : Int32) = 0 by decide), ite_self]
  · have n' := eat_n (fun q => h' ⟨c', q⟩)
    refine ⟨?_, ?_, ?_⟩ <;> simp only [if_pos c, if_neg c', if_neg h1, n'.1, n'.2, y.1, y.2, if_neg (show ¬ (1 : Int32) = 0 by decide), if_true, ite_self]
  · have n := eat_n (fun q => h ⟨c, q⟩)
    refine ⟨?_, ?_, ?_⟩ <;> simp only [if_neg c, if_pos c', if_neg h1, n.1, n.2, y.1, y.2, if_neg (show ¬ (1 : Int32) = 0 by decide), if_true, ite_self]
  · have n := eat_n (fun q => h ⟨c, q⟩)
    have n' := eat_n (fun q => h' ⟨c', q⟩)
    refine ⟨?_, ?_, ?_⟩ <;> simp only [if_neg c, if_neg c', if_neg h1, n.1, n.2, n'.1, n'.2, y.1, y.2, if_neg (show ¬ (1 : Int32) = 0 by decide), if_true, ite_self]
theorem rp_n (h : ¬ (¬ 8 ≤ D 1 ∧ eatC A T 104)) (h' : ¬ (¬ 3 ≤ D 2 ∧ eatC A T 119)) (h'' : ¬ (¬ D 0 ≤ qX7_filling_v D ∧ eatC A T 102)) : qX7_readPart_v A T D = 0 ∧ qX7_readPart_A A T D = A ∧ qX7_readPart_D A T D = D := by
  unfold qX7_readPart_v qX7_readPart_A qX7_readPart_D fX7_readPart_v fX7_readPart_A fX7_readPart_D
  by_cases c : 8 ≤ D 1 <;> by_cases c' : 3 ≤ D 2 <;> by_cases c'' : D 0 ≤ qX7_filling_v D
  · refine ⟨?_, ?_, ?_⟩ <;> simp only [if_pos c, if_pos c', if_pos c'', if_true]
  · have n'' := eat_n (fun q => h'' ⟨c'', q⟩)
    refine ⟨?_, ?_, ?_⟩ <;> simp only [if_pos c, if_pos c', if_neg c'', n''.1, n''.2, if_true]
  · have n' := eat_n (fun q => h' ⟨c', q⟩)
    refine ⟨?_, ?_, ?_⟩ <;> simp only [if_pos c, if_neg c', n'.1, n'.2, if_pos c'', if_true]
  · have n' := eat_n (fun q => h' ⟨c', q⟩)
    have n'' := eat_n (fun q => h'' ⟨c'', q⟩)
    refine ⟨?_, ?_, ?_⟩ <;> simp only [if_pos c, if_neg c', n'.1, n'.2, if_neg c'', n''.1, n''.2, if_true]
  · have n := eat_n (fun q => h ⟨c, q⟩)
    refine ⟨?_, ?_, ?_⟩ <;> simp only [if_neg c, n.1, n.2, if_pos c', if_pos c'', if_true]
  · have n := eat_n (fun q => h ⟨c, q⟩)
    have n'' := eat_n (fun q => h'' ⟨c'', q⟩)
    refine ⟨?_, ?_, ?_⟩ <;> simp only [if_neg c, n.1, n.2, if_pos c', if_neg c'', n''.1, n''.2, if_true]
  · have n := eat_n (fun q => h ⟨c, q⟩)
    have n' := eat_n (fun q => h' ⟨c', q⟩)
    refine ⟨?_, ?_, ?_⟩ <;> simp only [if_neg c, n.1, n.2, if_neg c', n'.1, n'.2, if_pos c'', if_true]
  · have n := eat_n (fun q => h ⟨c, q⟩)
    have n' := eat_n (fun q => h' ⟨c', q⟩)
    have n'' := eat_n (fun q => h'' ⟨c'', q⟩)
    refine ⟨?_, ?_, ?_⟩ <;> simp only [if_neg c, n.1, n.2, if_neg c', n'.1, n'.2, if_neg c'', n''.1, n''.2, if_true]
end

/-! THE REFERENCE: what a part read keeps. Laid by gen/p15.py. -/
theorem two_ne {d : Int32} (h : d = nI d.toNatClampNeg) (h2 : d.toNatClampNeg < 10) : ¬ 2 * (1 + d) = 0 := by
  have e : ∀ k : Fin 10, ¬ 2 * (1 + nI k.1) = 0 := by decide
  rw [h]
  exact e ⟨_, h2⟩
theorem nw {j k : Nat} (h : k < 10) : ¬ kw (12 + 7 * k) ∧ ¬ kw (12 + 7 * k + 5) ∧ ¬ kw (12 + 7 * k + 1) := by
  unfold kw
  refine ⟨?_, ?_, ?_⟩ <;> omega
theorem rp_keeps {A T D : Nat → Int32} (hA : RA A) (hD : WS D) : WS (qX7_readPart_D A T D) ∧ RA (qX7_readPart_A A T D) ∧ (¬ qX7_readPart_v A T D = 0 → (A 3).toNatClampNeg < (qX7_readPart_A A T D 3).toNatClampNeg) := by
  have d0 := hD.1.2
  have d1 := hD.2.1.2
  have d2 := hD.2.2.1.2
  by_cases hh : ¬ 8 ≤ D 1 ∧ eatC A T 104
  · obtain ⟨e1, e2, e3⟩ := rp_h hh.1 hh.2
    have hU := RA_up3 hA hh.2.1
    have u := up3_at hA
    rw [e1, e2, e3]
    by_cases c1 : digC (up3 A) T 0 (D 0 - 1)
    · have hU2 := RA_up3 hU c1.1
      have u2 := up3_at hU
      by_cases c2 : digC (up3 (up3 A)) T 0 9
      · have hU3 := RA_up3 hU2 c2.1
        have u3 := up3_at hU2
        obtain ⟨f1, f2, f3⟩ := rh_y c1 c2
        rw [f1, f2, f3]
        have p1 := digit_pl (digit_ne c1)
        have p2 := digit_pl (digit_ne c2)
        exact ⟨WS_ho hD (by have := lt_pl (x := 8) (n := 8) rfl hD.2.1.1 (by omega) (by decide) hh.1; omega) p1.1 p1.2.1 (two_ne p2.1 p2.2.1), hU3, fun _ => by omega⟩
      · obtain ⟨f1, f2, f3⟩ := rh_n2 c1 c2
        rw [f1, f2, f3]
        exact ⟨hD, hU2, fun _ => by omega⟩
    · obtain ⟨f1, f2, f3⟩ := rh_n1 c1
      rw [f1, f2, f3]
      exact ⟨hD, hU, fun _ => by omega⟩
  · by_cases hw : ¬ 3 ≤ D 2 ∧ eatC A T 119
    · obtain ⟨e1, e2, e3⟩ := rp_w hh hw.1 hw.2
      have hU := RA_up3 hA hw.2.1
      have u := up3_at hA
      rw [e1, e2, e3]
      by_cases c1 : digC (up3 A) T 0 (D 0 - 1)
      · have hU2 := RA_up3 hU c1.1
        have u2 := up3_at hU
        obtain ⟨f1, f2, f3⟩ := rw_y c1
        rw [f1, f2, f3]
        have p1 := digit_pl (digit_ne c1)
        exact ⟨WS_wo hD (by have := lt_pl (x := 3) (n := 3) rfl hD.2.2.1.1 (by omega) (by decide) hw.1; omega) p1.1 p1.2.1, hU2, fun _ => by omega⟩
      · obtain ⟨f1, f2, f3⟩ := rw_n c1
        rw [f1, f2, f3]
        exact ⟨hD, hU, fun _ => by omega⟩
    · by_cases hf : ¬ D 0 ≤ qX7_filling_v D ∧ eatC A T 102
      · obtain ⟨e1, e2, e3⟩ := rp_f hh hw hf.1 hf.2
        have hU := RA_up3 hA hf.2.1
        have u := up3_at hA
        rw [e1, e2, e3]
        by_cases c1 : digC (up3 A) T 0 (D 0 - 1)
        · have hU2 := RA_up3 hU c1.1
          have u2 := up3_at hU
          by_cases c2 : D (rfi (up3 A) T D) = 1
          · obtain ⟨f1, f2, f3⟩ := rf_m c1 c2
            rw [f1, f2, f3]
            exact ⟨hD, hU, fun _ => by omega⟩
          · obtain ⟨f1, f2, f3⟩ := rf_y c1 c2
            rw [f1, f2, f3]
            have p1 := digit_lt hD.1.1 (by omega) (digit_ne c1)
            exact ⟨WS.up (nw (j := 0) (by omega)).2.1 hD, hU2, fun _ => by omega⟩
        · obtain ⟨f1, f2, f3⟩ := rf_n c1
          rw [f1, f2, f3]
          exact ⟨hD, hU, fun _ => by omega⟩
      · obtain ⟨e1, e2, e3⟩ := rp_n hh hw hf
        rw [e1, e2, e3]
        exact ⟨hD, hA, fun q => absurd rfl q⟩

/-! THE REFERENCE: surfaces. Laid by gen/p15.py. -/
def fX7_sur_S (T : Nat → Int32) (X : (Nat → Int32) × (Nat → Int32)) (k : Nat) : (Nat → Int32) × (Nat → Int32) := (qX7_digit_A X.1 T 0 2, upd X.2 (12 + 7 * k) (qX7_digit_v X.1 T 0 2))
def fX7_sur_L (T A D : Nat → Int32) : Nat → (Nat → Int32) × (Nat → Int32)
  | 0 => (A, D)
  | k + 1 => fX7_sur_S T (fX7_sur_L T A D k) k
theorem sur_keeps {T A D : Nat → Int32} (hA : RA A) (hD : WS D) : ∀ k, k ≤ 10 → RA (fX7_sur_L T A D k).1 ∧ WS (fX7_sur_L T A D k).2 ∧ ∀ j, j < 12 → (fX7_sur_L T A D k).2 j = D j
  | 0, _ => ⟨hA, hD, fun _ _ => rfl⟩
  | k + 1, h => by
    obtain ⟨h1, h2, h3⟩ := sur_keeps (T := T) hA hD k (by omega)
    refine ⟨RA_digit h1, WS.up (nw (j := 0) (by omega)).1 h2, fun j hj => ?_⟩
    show upd (fX7_sur_L T A D k).2 (12 + 7 * k) _ j = _
    rw [upd_nw _ _ (by omega)]
    exact h3 j hj
theorem sz_a {t o : Int32} (h : t = 0) (ho : o = nI o.toNatClampNeg) (ho2 : o.toNatClampNeg < 10) : 10 * t + o = nI (10 * t + o).toNatClampNeg ∧ (10 * t + o).toNatClampNeg ≤ 10 := by
  subst h
  rw [show 10 * 0 + o = o from Int32.zero_add o]
  exact ⟨ho, by omega⟩
theorem pl_le {t : Int32} (h : t = nI t.toNatClampNeg) (h2 : t.toNatClampNeg < 10) {m : Nat} (hm : m < 2 ^ 31) (h3 : t ≤ nI m) : t.toNatClampNeg ≤ m := by
  rw [h] at h3
  exact (nI_leI (by omega) hm).mp h3
theorem sz_b {t o : Int32} (h : ¬ t = 0) (ht : t = nI t.toNatClampNeg) (ht9 : t.toNatClampNeg < 10) (ht1 : t ≤ 1) (ho : o = nI o.toNatClampNeg) (ho2 : o.toNatClampNeg < 10) (ho3 : o ≤ 0) : 10 * t + o = nI (10 * t + o).toNatClampNeg ∧ (10 * t + o).toNatClampNeg ≤ 10 := by
  have k1 := pl_le ht ht9 (m := 1) (by decide) ht1
  have k0 : t.toNatClampNeg ≠ 0 := fun e => h (ht.trans ((congrArg nI e).trans rfl))
  have e1 : t = 1 := ht.trans ((congrArg nI (show t.toNatClampNeg = 1 by omega)).trans rfl)
  have o1 := pl_le ho ho2 (m := 0) (by decide) ho3
  have e2 : o = 0 := ho.trans ((congrArg nI (show o.toNatClampNeg = 0 by omega)).trans rfl)
  rw [e1, e2]
  exact ⟨by decide, by decide⟩

/-! THE REFERENCE: a road is read. Laid by gen/p15.py. -/
/-! THE REFERENCE: the whole text; errorPosition, load. Laid by gen/p15.py. -/
def fX7_par_S (T : Nat → Int32) (X : (Nat → Int32) × (Nat → Int32)) : (Nat → Int32) × (Nat → Int32) := (qX7_readPart_A X.1 T X.2, qX7_readPart_D X.1 T X.2)
def fX7_par_L (T A D : Nat → Int32) : Nat → (Nat → Int32) × (Nat → Int32)
  | 0 => (A, D)
  | k + 1 => fX7_par_S T (fX7_par_L T A D k)
theorem par_keeps {T A D : Nat → Int32} (hA : RA A) (hD : WS D) : ∀ k, RA (fX7_par_L T A D k).1 ∧ WS (fX7_par_L T A D k).2
  | 0 => ⟨hA, hD⟩
  | k + 1 => by
    obtain ⟨h1, h2⟩ := par_keeps (T := T) hA hD k
    obtain ⟨h3, h4, _⟩ := rp_keeps (T := T) h1 h2
    exact ⟨h4, h3⟩
theorem RA_0 {A : Nat → Int32} (hA : RA A) : RA (upd A 3 0) := by
  refine ⟨by rw [upd_nw _ _ (by decide)]; exact hA.1, ?_, ?_⟩
  · rw [upd_eq]; decide
  · rw [upd_eq]; decide
