/-! MATH: bounds of a page, step by step. -/
def u0 (u j : Nat) : Nat := if j = 0 then 10 else if j = 1 then 8 else if j = 2 then 3 else if j = 3 then u else if j = 4 then 9 else if j = 5 then 20 else if j = 6 then 9 else if j = 7 then 200 else if j = 8 then 99 else if j = 9 then 99 else if j = 10 then u else 9 * u
def us (u k : Nat) : Nat := if k = 0 then 2 else if k = 1 then 5 else if k = 2 then 4 else if k = 3 then 999 else if k = 4 then 9 else if k = 5 then 1 else u
def uh (u k : Nat) : Nat := if k = 0 then 9 else if k = 1 then 9 else if k = 2 then 1998 * u else if k = 3 then u else 1998
def uw (k : Nat) : Nat := if k = 0 then 9 else if k = 1 then 20 else 4
def ub (u j : Nat) : Nat := if j < 12 then u0 u j else if j < 82 then us u ((j - 12) % 7) else if j < 122 then uh u ((j - 82) % 5) else uw ((j - 122) % 3)
theorem ub_0 (u j : Nat) (h : j < 12) : ub u j = u0 u j := if_pos h
theorem ub_s (u : Nat) {i k j : Nat} (hi : i < 10) (hk : k < 7) (h : j = 12 + 7 * i + k) : ub u j = us u k := by
  subst h
  unfold ub
  rw [if_neg (by omega), if_pos (by omega), show (12 + 7 * i + k - 12) % 7 = k by omega]
theorem ub_h (u : Nat) {i k j : Nat} (hi : i < 8) (hk : k < 5) (h : j = 82 + 5 * i + k) : ub u j = uh u k := by
  subst h
  unfold ub
  rw [if_neg (by omega), if_neg (by omega), if_pos (by omega), show (82 + 5 * i + k - 82) % 5 = k by omega]
theorem ub_w (u : Nat) {i k j : Nat} (hk : k < 3) (h : j = 122 + 3 * i + k) : ub u j = uw k := by
  subst h
  unfold ub
  rw [if_neg (by omega), if_neg (by omega), if_neg (by omega), show (122 + 3 * i + k - 122) % 3 = k by omega]
theorem ite_le {c : Prop} [Decidable c] {a b x y : Nat} (h : a ≤ x) (h2 : b ≤ y) : (if c then a else b) ≤ (if c then x else y) := by
  by_cases q : c
  · rw [if_pos q, if_pos q]; exact h
  · rw [if_neg q, if_neg q]; exact h2
theorem ub_le {u v : Nat} (h : u ≤ v) (j : Nat) : ub u j ≤ ub v j := by
  unfold ub u0 us uh uw
  (repeat' (refine ite_le ?_ ?_)) <;> omega
/-- the bounds of a page of the reference after u steps -/
def PI (u : Nat) (N : Nat → Int32) : Prop := (∀ j, j < 131 → nn (ub u j) (N j)) ∧ 1 ≤ (N 0).toNatClampNeg ∧ (∀ i, i < 8 → (N (82 + 5 * i)).toNatClampNeg < (N 0).toNatClampNeg) ∧ (∀ i, i < 3 → (N (122 + 3 * i)).toNatClampNeg < (N 0).toNatClampNeg)
theorem PI.le {u v : Nat} {N : Nat → Int32} (h : PI u N) (hv : u ≤ v) : PI v N := ⟨fun j hj => (h.1 j hj).le (ub_le hv j), h.2⟩
theorem PI.n0 {u : Nat} {N : Nat → Int32} (h : PI u N) (j : Nat) (b : Nat) (hj : j < 12) (hb : u0 u j = b) : nn b (N j) := by
  have := h.1 j (by omega)
  rw [ub_0 u j hj, hb] at this
  exact this
theorem PI.ns {u : Nat} {N : Nat → Int32} (h : PI u N) {i : Nat} (hi : i < 10) (k b : Nat) {j : Nat} (hk : k < 7) (hb : us u k = b) (hj : j = 12 + 7 * i + k) : nn b (N j) := by
  have := h.1 j (by omega)
  rw [ub_s u hi hk hj, hb] at this
  exact this
theorem PI.nh {u : Nat} {N : Nat → Int32} (h : PI u N) {i : Nat} (hi : i < 8) (k b : Nat) {j : Nat} (hk : k < 5) (hb : uh u k = b) (hj : j = 82 + 5 * i + k) : nn b (N j) := by
  have := h.1 j (by omega)
  rw [ub_h u hi hk hj, hb] at this
  exact this
theorem PI.nw {u : Nat} {N : Nat → Int32} (h : PI u N) {i : Nat} (hi : i < 3) (k b : Nat) {j : Nat} (hk : k < 3) (hb : uw k = b) (hj : j = 122 + 3 * i + k) : nn b (N j) := by
  have := h.1 j (by omega)
  rw [ub_w u hk hj, hb] at this
  exact this
theorem PI.s10 {u : Nat} {N : Nat → Int32} (h : PI u N) : nn 10 (N 0) := h.n0 0 10 (by omega) rfl
theorem PI.h8 {u : Nat} {N : Nat → Int32} (h : PI u N) : nn 8 (N 1) := h.n0 1 8 (by omega) rfl
theorem PI.w3 {u : Nat} {N : Nat → Int32} (h : PI u N) : nn 3 (N 2) := h.n0 2 3 (by omega) rfl
theorem PI.su {u : Nat} {N : Nat → Int32} (h : PI u N) : SU N := fun i hi => h.ns hi 0 2 (by omega) rfl rfl
def np (j : Nat) : Prop := j < 131 ∧ j ≠ 0 ∧ (∀ i, i < 8 → j ≠ 82 + 5 * i) ∧ (∀ i, i < 3 → j ≠ 122 + 3 * i)
theorem PI.up {u : Nat} {N : Nat → Int32} (h : PI u N) {j : Nat} {x : Int32} (hj : np j) (hx : nn (ub u j) x) : PI u (upd N j x) := by
  obtain ⟨h1, h2, h3, h4⟩ := h
  refine ⟨fun i hi => ?_, ?_, fun i hi => ?_, fun i hi => ?_⟩
  · by_cases q : i = j
    · subst q; rw [pk_us]; exact hx
    · rw [pk_un q]; exact h1 i hi
  · rw [pk_un (Ne.symm hj.2.1)]; exact h2
  · rw [pk_un (Ne.symm hj.2.1), pk_un (Ne.symm (hj.2.2.1 i hi))]; exact h3 i hi
  · rw [pk_un (Ne.symm hj.2.1), pk_un (Ne.symm (hj.2.2.2 i hi))]; exact h4 i hi
theorem np_s {i k : Nat} (hi : i < 10) (hk : k < 7) : np (12 + 7 * i + k) := ⟨by omega, by omega, fun _ _ => by omega, fun _ _ => by omega⟩
theorem np_h {i k : Nat} (hi : i < 8) (hk : 1 ≤ k) (hk5 : k < 5) : np (82 + 5 * i + k) := ⟨by omega, by omega, fun _ _ => by omega, fun _ _ => by omega⟩
theorem np_w {i k : Nat} (hi : i < 3) (hk : 1 ≤ k) (hk3 : k < 3) : np (122 + 3 * i + k) := ⟨by omega, by omega, fun _ _ => by omega, fun _ _ => by omega⟩
theorem np_0 {j : Nat} (h : 1 ≤ j) (h2 : j < 12) : np j := ⟨by omega, by omega, fun _ _ => by omega, fun _ _ => by omega⟩
theorem PI.us {u : Nat} {N : Nat → Int32} (h : PI u N) {i : Nat} (hi : i < 10) (k b : Nat) {x : Int32} (hk : k < 7) (hb : us u k = b) (hx : nn b x) : PI u (upd N (12 + 7 * i + k) x) := h.up (np_s hi hk) (by rw [ub_s u hi hk rfl, hb]; exact hx)
theorem PI.uh {u : Nat} {N : Nat → Int32} (h : PI u N) {i : Nat} (hi : i < 8) (k b : Nat) {x : Int32} (h1 : 1 ≤ k) (hk : k < 5) (hb : uh u k = b) (hx : nn b x) : PI u (upd N (82 + 5 * i + k) x) := h.up (np_h hi h1 hk) (by rw [ub_h u hi hk rfl, hb]; exact hx)
theorem PI.uw {u : Nat} {N : Nat → Int32} (h : PI u N) {i : Nat} (hi : i < 3) (k b : Nat) {x : Int32} (h1 : 1 ≤ k) (hk : k < 3) (hb : uw k = b) (hx : nn b x) : PI u (upd N (122 + 3 * i + k) x) := h.up (np_w hi h1 hk) (by rw [ub_w u hk rfl, hb]; exact hx)
theorem PI.u0 {u : Nat} {N : Nat → Int32} (h : PI u N) (j b : Nat) {x : Int32} (h1 : 1 ≤ j) (hj : j < 12) (hb : u0 u j = b) (hx : nn b x) : PI u (upd N j x) := h.up (np_0 h1 hj) (by rw [ub_0 u j hj, hb]; exact hx)
theorem PI_dryS {u : Nat} {N : Nat → Int32} (h : PI u N) {k : Nat} (hk : k < 10) : PI u (fX7_dry_S N k) := by
  have hsun := h.n0 6 9 (by omega) rfl
  have hwat := h.ns hk 4 9 (by omega) rfl rfl
  have e3 : nn 10 (N 6 / 3) := (hsun.div (d := 3) (by decide) (by decide) (by decide)).le (by decide)
  have e4 : nn 10 (N 6 / 4) := (hsun.div (d := 4) (by decide) (by decide) (by decide)).le (by decide)
  have e2 : nn 4 (N 6 / 2) := hsun.div (d := 2) (by decide) (by decide) (by decide)
  have e20 : nn 10 (N 6 / 2 + 0) := (e2.add (nn.lit 0 (by decide)) (by decide)).le (by decide)
  have e21 : nn 10 (N 6 / 2 + 1) := (e2.add (nn.lit 1 (by decide)) (by decide)).le (by decide)
  unfold fX7_dry_S
  (repeat' split) <;> (rw [more_max]; refine h.us hk 4 9 (by omega) rfl (hwat.max0 (b := 10) ?_ (by decide) (by decide)))
  · exact e3
  · exact e4
  · exact e20
  · exact e21
theorem nn_3m {x : Int32} (h : nn 2 x) : nn 3 (3 - x) := (nn.lit 3 (by decide)).sub h (by decide) (by have := h.2; rw [nI_clamp (by decide)]; omega) (by decide)
theorem nn_10m {x : Int32} (h : nn 9 x) : nn 10 (10 - x) := (nn.lit 10 (by decide)).sub h (by decide) (by have := h.2; rw [nI_clamp (by decide)]; omega) (by decide)
theorem nn_5m {x : Int32} (h : nn 4 x) : nn 5 (5 - x) := (nn.lit 5 (by decide)).sub h (by decide) (by have := h.2; rw [nI_clamp (by decide)]; omega) (by decide)
theorem PI_raiS {u : Nat} {N : Nat → Int32} (h : PI u N) {k : Nat} (hk : k < 10) : PI u (fX7_raise_S N k) := by
  have hl := h.n0 5 20 (by omega) rfl
  have hsu := h.ns hk 0 2 (by omega) rfl (j := 12 + 7 * k) rfl
  have hli := h.ns hk 1 5 (by omega) rfl rfl
  have hd := h.ns hk 3 999 (by omega) rfl rfl
  have hw := h.ns hk 4 9 (by omega) rfl rfl
  unfold fX7_raise_S
  rw [less_min]
  refine h.us hk 3 999 (by omega) rfl (nn.min (k := 999) (hd.add ((((hl.mul hli (by decide)).mul (nn_3m hsu) (by decide)).mul (nn_10m hw) (by decide)).div (d := 10) (by decide) (by decide) (by decide)) (by decide)) (by decide) (by decide))
theorem PI_L {u : Nat} {S : (Nat → Int32) → Nat → Nat → Int32} {L : Nat → Nat → Int32} {P : Nat → Int32} {m : Nat} (h0 : L 0 = P) (hs : ∀ k, L (k + 1) = S (L k) k) (h : PI u P) (hS : ∀ Q k, k < m → PI u Q → PI u (S Q k)) : ∀ n, n ≤ m → PI u (L n) := by
  intro n
  induction n with
  | zero => intro _; rw [h0]; exact h
  | succ n ih => intro hn; rw [hs]; exact hS _ n (by omega) (ih (by omega))
theorem PI_rise {u : Nat} {N : Nat → Int32} (h : PI u N) : PI u (fX7_raise_P (fX7_dry_P N)) := by
  have h1 : PI u (fX7_dry_P N) := PI_L (S := fX7_dry_S) (L := fX7_dry_L N) (m := 10) rfl (fun _ => rfl) h (fun Q k hk hq => PI_dryS hq hk) _ h.s10.2
  exact PI_L (S := fX7_raise_S) (L := fX7_raise_L (fX7_dry_P N)) (m := 10) rfl (fun _ => rfl) h1 (fun Q k hk hq => PI_raiS hq hk) _ h1.s10.2
theorem dustOf_nn {u : Nat} {N : Nat → Int32} (h : PI u N) (a : Int32) : nn 999 (fX7_dustOf_v N a) := by
  unfold fX7_dustOf_v fX7_isSegment_v
  by_cases q : fX7_in_v a.toInt64 0 (N 0 - 1).toInt64 = 0
  · rw [if_pos q]; exact nn.of nI_0.symm (by decide) (by decide)
  · rw [if_neg q]
    have := isPl h.s10.1 (Nat.lt_of_le_of_lt h.s10.2 (by decide)) q
    have h10 := h.s10.2
    exact h.ns (i := a.toNatClampNeg) (by omega) 3 999 (by omega) rfl rfl
theorem gets_nn {u : Nat} {N : Nat → Int32} (h : PI u N) {k : Nat} (hk : k < 8) : nn 1998 (fX7_gets_v N k) := by
  unfold fX7_gets_v
  have hd := h.nh hk 1 9 (by omega) rfl rfl
  obtain ⟨n, hn, e, -⟩ := hd.ex
  have e2 : 2 * (1 + N (82 + 5 * k + 1)) = nI (2 * (1 + n)) := by rw [e, show (1 : Int32) = nI 1 from rfl, nI_add, show (2 : Int32) = nI 2 from rfl, pk_mul]
  rw [e2]
  have hnum : nn 3996 (2 * fX7_dustOf_v N (N (82 + 5 * k)) + fX7_dustOf_v N (N (82 + 5 * k) - 1) + fX7_dustOf_v N (N (82 + 5 * k) + 1)) := (((nn.lit 2 (by decide)).mul (dustOf_nn h _) (by decide)).add (dustOf_nn h _) (by decide)).add (dustOf_nn h _) (by decide)
  refine (hnum.div (d := 2 * (1 + n)) (by omega) (by omega) (by decide)).le ?_
  exact Nat.le_trans (Nat.div_le_div_left (show 2 ≤ 2 * (1 + n) by omega) (by decide)) (by decide)
