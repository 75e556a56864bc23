/-! MATH: the time, the numbers of a page well: kept by an hour, by every action. -/
set_option maxRecDepth 16384
theorem hour_34 {u : Nat} {N : Nat → Int32} (hN : PI u N) (hu : 1998 * (u + 17) < 2 ^ 31) : fX7_hourOn_P N 4 = (if N 4 + 1 = 10 then 0 else N 4 + 1) ∧ fX7_hourOn_P N 3 = (if N 4 + 1 = 10 then N 3 + 1 else N 3) := by
  have p1 := PI_rise hN
  obtain ⟨a, b, -, d⟩ := hH_all p1 (by omega) _ (Nat.le_refl _)
  have b3 := (b 3 (by decide) (by decide)).trans (raise_hd N (j := 3) (by decide))
  have b4 := (b 4 (by decide) (by decide)).trans (raise_hd N (j := 4) (by decide))
  rw [hourOn_eq]
  generalize fX7_hourH_L (fX7_raise_P (fX7_dry_P N)) (fX7_raise_P (fX7_dry_P N) 1).toNatClampNeg = N2 at b3 b4 ⊢
  have c3 := ((hS_L N2 (N2 0).toNatClampNeg).1 3 (fun k hk => by omega)).trans b3
  have c4 := ((hS_L N2 (N2 0).toNatClampNeg).1 4 (fun k hk => by omega)).trans b4
  generalize fX7_hourS_L N2 (N2 0).toNatClampNeg = N3 at c3 c4 ⊢
  rw [(hW_L (dayS N3) _).1 4 (fun k _ => by omega), (hW_L (dayS N3) _).1 3 (fun k _ => by omega)]
  unfold dayS
  rw [c3, c4]
  by_cases q : N 4 + 1 = 10
  · simp only [q, if_true]
    constructor <;> simp (disch := omega) only [pk_us, pk_un]
  · simp only [q, if_false]
    constructor <;> simp (disch := omega) only [pk_us, pk_un, c3]
theorem hour_time {u : Nat} {N : Nat → Int32} (hN : PI u N) (hu : 1998 * (u + 17) < 2 ^ 31) : v_time (fX7_hourOn_P N) = v_time N + 1 := by
  obtain ⟨e4, e3⟩ := hour_34 hN hu
  unfold v_time
  rw [e4, e3]
  obtain ⟨b, hb, eb, -⟩ := (hN.n0 4 9 (by omega) rfl).ex
  obtain ⟨a, ha, ea, -⟩ := (hN.n0 3 u (by omega) rfl).ex
  rw [eb, ea, nI_1]
  by_cases q : b = 9
  · subst q
    rw [if_pos (show nI (9 + 1) = 10 from rfl), if_pos (show nI (9 + 1) = 10 from rfl), nI_1, show (10 : Int32) = nI 10 from rfl, show (0 : Int32) = nI 0 from rfl, pk_mul, pk_mul, nI_add, nI_add, nI_1]
    exact congrArg nI (by omega)
  · have z : ¬ nI (b + 1) = 10 := fun e => q (by have := (nI_eq (a := b + 1) (b := 10) (by omega) (by decide)).mp e; omega)
    rw [if_neg z, if_neg z, show (10 : Int32) = nI 10 from rfl, pk_mul, nI_add, nI_add, nI_1]
    exact congrArg nI (by omega)
theorem pass_time {u : Nat} {N : Nat → Int32} (hN : PI u N) : ∀ k, 1998 * (u + 17 * k) < 2 ^ 31 → v_time (fX7_pass_L N k) = v_time N + nI k
  | 0, _ => by
    show v_time N = v_time N + 0
    rw [Int32.add_zero]
  | k + 1, hk => by
    have p := (pass_10 hN k (by omega)).2
    rw [pass_s, hour_time p (by omega), pass_time hN k (by omega), Int32.add_assoc, nI_1]
-- sums
theorem aF_cong {N N' : Nat → Int32} {b k o : Nat} : ∀ n, (∀ i, i < n → N' (b + k * i + o) = N (b + k * i + o)) → aF N' b k o n = aF N b k o n
  | 0, _ => rfl
  | n + 1, h => by
    unfold aF
    rw [aF_cong n (fun i hi => h i (by omega)), h n (by omega)]
theorem aF_inc {N N' : Nat → Int32} {b k o s m : Nat} (hs : N' (b + k * s + o) = N (b + k * s + o) + 1) (ho : ∀ i, i < m → i ≠ s → N' (b + k * i + o) = N (b + k * i + o)) : ∀ n, n ≤ m → aF N' b k o n = if s < n then aF N b k o n + 1 else aF N b k o n
  | 0, _ => (if_neg (Nat.not_lt_zero s)).symm
  | n + 1, hn => by
    unfold aF
    rw [aF_inc hs ho n (by omega)]
    by_cases q : s = n
    · subst q
      rw [if_neg (Nat.lt_irrefl s), if_pos (Nat.lt_succ_self s), hs, Int32.add_assoc]
    · rw [ho n (by omega) (fun e => q e.symm)]
      by_cases z : s < n
      · rw [if_pos z, if_pos (by omega), Int32.add_assoc, Int32.add_assoc, Int32.add_comm 1]
      · rw [if_neg z, if_neg (by omega)]
/-- the slots that the numbers look at -/
theorem GD.cong {u : Nat} {N N' : Nat → Int32} (h : GD N) (hN : PI u N) (h0 : N' 0 = N 0) (h1 : N' 1 = N 1) (h10 : N' 10 = N 10) (hs : ∀ s, s < 10 → N' (12 + 7 * s + 1) = N (12 + 7 * s + 1) ∧ N' (12 + 7 * s + 2) = N (12 + 7 * s + 2) ∧ N' (12 + 7 * s + 6) = N (12 + 7 * s + 6)) (hh : ∀ i, i < 8 → N' (82 + 5 * i + 2) = N (82 + 5 * i + 2) ∧ N' (82 + 5 * i + 3) = N (82 + 5 * i + 3) ∧ N' (82 + 5 * i + 4) = N (82 + 5 * i + 4)) : GD N' := by
  have b0 := hN.s10.2
  have b1 := hN.h8.2
  unfold GD
  rw [h0, h1, h10]
  refine ⟨fun s q => ?_, fun i q => ?_, ?_, ?_⟩
  · rw [(hs s (by omega)).1, (hs s (by omega)).2.1, (hs s (by omega)).2.2]
    exact h.1 s q
  · rw [(hh i (by omega)).1, (hh i (by omega)).2.2]
    exact h.2.1 i q
  · rw [aF_cong _ (fun i hi => (hs i (by omega)).2.2)]
    exact h.2.2.1
  · rw [aF_cong _ (fun i hi => (hh i (by omega)).2.1)]
    exact h.2.2.2
theorem div3 {m : Nat} (h : m < 2 ^ 30) : nI m / 3 = nI (m / 3) := by
  rw [show (3 : Int32) = nI 3 from rfl]
  exact pk_div (by omega) (by decide) (by decide)
/-- a segment's limit, rank, complaints -/
theorem sg_num {l r c : Int32} (hl : nn 5 l) (hr : nn 4 r) (hc : nn (2 ^ 29) c) : (¬ l < 1 ∧ ¬ 5 < l + r ∧ (4 ≤ c / 3 → r = 4) ∧ (c / 3 < 4 → r = c / 3)) ↔ ∃ l0 r0 m, l = nI l0 ∧ r = nI r0 ∧ c = nI m ∧ m ≤ 2 ^ 29 ∧ 1 ≤ l0 ∧ l0 + r0 ≤ 5 ∧ (4 ≤ m / 3 → r0 = 4) ∧ (m / 3 < 4 → r0 = m / 3) := by
  obtain ⟨l0, hl0, el, -⟩ := hl.ex
  obtain ⟨r0, hr0, er, -⟩ := hr.ex
  obtain ⟨m, hm, ec, -⟩ := hc.ex
  subst el; subst er; subst ec
  rw [div3 (by omega), nI_add, show (1 : Int32) = nI 1 from rfl, show (5 : Int32) = nI 5 from rfl, show (4 : Int32) = nI 4 from rfl, nI_ltI (by omega) (by omega), nI_ltI (by omega) (by omega), nI_leI (by omega) (by omega), nI_ltI (by omega) (by omega), nI_eq (by omega) (by omega), nI_eq (by omega) (by omega)]
  constructor
  · rintro ⟨a, b, c, d⟩
    exact ⟨l0, r0, m, rfl, rfl, rfl, hm, by omega, by omega, c, d⟩
  · rintro ⟨l1, r1, m1, e1, e2, e3, h1, h2, h3, h4, h5⟩
    rw [nI_eq (by omega) (by omega)] at e1
    rw [nI_eq (by omega) (by omega)] at e2
    rw [nI_eq (by omega) (by omega)] at e3
    subst e1; subst e2; subst e3
    exact ⟨by omega, by omega, h4, h5⟩
theorem rem3 {m : Nat} (h : m < 2 ^ 30) : remI (nI m) 3 = nI (m % 3) := by
  rw [show (3 : Int32) = nI 3 from rfl]
  exact pk_rem (by omega) (by decide) (by decide)
/-- a complaint more about a segment -/
theorem sg_more {l r c : Int32} (hl : nn 5 l) (hr : nn 4 r) (hc : nn (2 ^ 28) c) (h : ¬ l < 1 ∧ ¬ 5 < l + r ∧ (4 ≤ c / 3 → r = 4) ∧ (c / 3 < 4 → r = c / 3)) : (remI (c + 1) 3 = 0 → ¬ (if 5 - (if r + 1 < 4 then r + 1 else 4) < l then 5 - (if r + 1 < 4 then r + 1 else 4) else l) < 1 ∧ ¬ 5 < (if 5 - (if r + 1 < 4 then r + 1 else 4) < l then 5 - (if r + 1 < 4 then r + 1 else 4) else l) + (if r + 1 < 4 then r + 1 else 4) ∧ (4 ≤ (c + 1) / 3 → (if r + 1 < 4 then r + 1 else 4) = 4) ∧ ((c + 1) / 3 < 4 → (if r + 1 < 4 then r + 1 else 4) = (c + 1) / 3)) ∧ (¬ remI (c + 1) 3 = 0 → ¬ l < 1 ∧ ¬ 5 < l + r ∧ (4 ≤ (c + 1) / 3 → r = 4) ∧ ((c + 1) / 3 < 4 → r = (c + 1) / 3)) := by
  obtain ⟨l0, r0, m, e1, e2, e3, h1, h2, h3, h4, h5⟩ := (sg_num hl hr (hc.le (by decide))).mp h
  have hm : m ≤ 2 ^ 28 := by
    have := hc.2
    rw [e3, nI_clamp (by omega)] at this
    exact this
  subst e1; subst e2; subst e3
  rw [nI_1, nI_1, rem3 (by omega), show (0 : Int32) = nI 0 from rfl, nI_eq (by omega) (by omega)]
  have hr4 : r0 ≤ 4 := by
    have := hr.2
    rw [nI_clamp (by omega)] at this
    exact this
  have e4 : (if nI (r0 + 1) < 4 then nI (r0 + 1) else 4) = nI (if r0 + 1 < 4 then r0 + 1 else 4) := by
    rw [show (4 : Int32) = nI 4 from rfl]
    by_cases q : r0 + 1 < 4
    · rw [if_pos q, if_pos (nI_lt q (by omega))]
    · rw [if_neg q, if_neg (nI_nlt (a := r0 + 1) (b := 4) (by omega) (by omega))]
  rw [e4]
  generalize hr' : (if r0 + 1 < 4 then r0 + 1 else 4) = r1
  have hr1 : r1 ≤ 4 ∧ (r0 + 1 < 4 → r1 = r0 + 1) ∧ (¬ r0 + 1 < 4 → r1 = 4) := by
    subst hr'
    refine ⟨by split <;> omega, fun q => if_pos q, fun q => if_neg q⟩
  have e5 : (5 : Int32) - nI r1 = nI (5 - r1) := by rw [show (5 : Int32) = nI 5 from rfl, pk_sub (by omega)]
  rw [e5]
  have e6 : (if nI (5 - r1) < nI l0 then nI (5 - r1) else nI l0) = nI (if 5 - r1 < l0 then 5 - r1 else l0) := by
    by_cases q : 5 - r1 < l0
    · rw [if_pos q, if_pos (nI_lt q (by omega))]
    · rw [if_neg q, if_neg (nI_nlt (a := 5 - r1) (b := l0) (by omega) (by omega))]
  rw [e6]
  generalize hl' : (if 5 - r1 < l0 then 5 - r1 else l0) = l1
  have hl1 : (5 - r1 < l0 → l1 = 5 - r1) ∧ (¬ 5 - r1 < l0 → l1 = l0) := by
    subst hl'
    exact ⟨fun q => if_pos q, fun q => if_neg q⟩
  constructor
  · intro q
    refine (sg_num (nn.of (n := l1) rfl (by omega) (by decide)) (nn.of (n := r1) rfl (by omega) (by decide)) (nn.of (n := m + 1) rfl (by omega) (by decide))).mpr ⟨l1, r1, m + 1, rfl, rfl, rfl, by omega, by omega, by omega, by omega, by omega⟩
  · intro q
    refine (sg_num (nn.of (n := l0) rfl (by omega) (by decide)) (nn.of (n := r0) rfl (by omega) (by decide)) (nn.of (n := m + 1) rfl (by omega) (by decide))).mpr ⟨l0, r0, m + 1, rfl, rfl, rfl, by omega, by omega, by omega, by omega, by omega⟩
theorem gtS_GD {u : Nat} {N : Nat → Int32} (hN : PI u N) (hu : 1998 * (u + 2) < 2 ^ 31) (h : GD N) {k : Nat} (hk : k < 8) {g : Int32} (hg : nn 1998 g) : GD (gtS N k g) := by
  have b0 := hN.s10.2
  have b1 := hN.h8.2
  have e0 : gtS N k g 0 = N 0 := by unfold gtS; simp (disch := omega) only [pk_un]
  have e1 : gtS N k g 1 = N 1 := by unfold gtS; simp (disch := omega) only [pk_un]
  have e10 : gtS N k g 10 = N 10 := by unfold gtS; simp (disch := omega) only [pk_un]
  have es : ∀ s m, s < 10 → m < 7 → gtS N k g (12 + 7 * s + m) = N (12 + 7 * s + m) := fun s m hs hm => by unfold gtS; simp (disch := omega) only [pk_un]
  have e3 : ∀ i, gtS N k g (82 + 5 * i + 3) = N (82 + 5 * i + 3) := fun i => by unfold gtS; simp (disch := omega) only [pk_un]
  unfold GD
  rw [e0, e1, e10]
  refine ⟨fun s q => ?_, fun i q => ?_, ?_, ?_⟩
  · rw [es s 1 (by omega) (by omega), es s 2 (by omega) (by omega), es s 6 (by omega) (by omega)]
    exact h.1 s q
  · by_cases z : i = k
    · subst z
      have e4 : gtS N i g (82 + 5 * i + 4) = g := by unfold gtS; simp (disch := omega) only [pk_us, pk_un]
      have e2 : gtS N i g (82 + 5 * i + 2) = N (82 + 5 * i + 2) + g := by unfold gtS; simp (disch := omega) only [pk_us, pk_un]
      rw [e4, e2]
      obtain ⟨x, hx, ex, -⟩ := (hN.nh hk 2 (1998 * u) (by omega) rfl rfl).ex
      obtain ⟨y, hy, ey, -⟩ := hg.ex
      rw [ex, ey, nI_add]
      exact nI_nlt (a := x + y) (b := y) (by omega) (by omega)
    · have e4 : gtS N k g (82 + 5 * i + 4) = N (82 + 5 * i + 4) := by unfold gtS; simp (disch := omega) only [pk_us, pk_un]
      have e2 : gtS N k g (82 + 5 * i + 2) = N (82 + 5 * i + 2) := by unfold gtS; simp (disch := omega) only [pk_us, pk_un]
      rw [e4, e2]
      exact h.2.1 i q
  · rw [aF_cong _ (fun i hi => es i 6 (by omega) (by omega))]
    exact h.2.2.1
  · rw [aF_cong _ (fun i hi => e3 i)]
    exact h.2.2.2
theorem cmS_GD {u : Nat} {N : Nat → Int32} (hN : PI u N) (hu : 1998 * (u + 2) < 2 ^ 31) (h : GD N) {k s : Nat} (hk : k < (N 1).toNatClampNeg) (hs : s < (N 0).toNatClampNeg) : GD (cmS (upd (upd N (82 + 5 * k + 3) (N (82 + 5 * k + 3) + 1)) 10 (N 10 + 1)) s) := by
  have b0 := hN.s10.2
  have b1 := hN.h8.2
  have s10 : s < 10 := by omega
  have hl := hN.ns s10 1 5 (by omega) rfl rfl
  have hr := hN.ns s10 2 4 (by omega) rfl rfl
  have hc := (hN.ns s10 6 u (by omega) rfl rfl).le (show u ≤ 2 ^ 28 by omega)
  have mo := sg_more hl hr hc (h.1 s hs)
  generalize hX : upd (upd N (82 + 5 * k + 3) (N (82 + 5 * k + 3) + 1)) 10 (N 10 + 1) = X
  have xs : ∀ j, 12 ≤ j → j < 82 → X j = N j := fun j h1 h2 => by subst hX; simp (disch := omega) only [pk_un]
  have x0 : X 0 = N 0 := by subst hX; simp (disch := omega) only [pk_un]
  have x1 : X 1 = N 1 := by subst hX; simp (disch := omega) only [pk_un]
  have x10 : X 10 = N 10 + 1 := by subst hX; simp (disch := omega) only [pk_us]
  have x3 : X (82 + 5 * k + 3) = N (82 + 5 * k + 3) + 1 := by subst hX; simp (disch := omega) only [pk_us, pk_un]
  have x3' : ∀ i, i ≠ k → X (82 + 5 * i + 3) = N (82 + 5 * i + 3) := fun i hi => by subst hX; simp (disch := omega) only [pk_un]
  have x24 : ∀ i m, (m = 2 ∨ m = 4) → X (82 + 5 * i + m) = N (82 + 5 * i + m) := fun i m hm => by subst hX; simp (disch := omega) only [pk_un]
  have y : ∀ j, (j < 12 ∨ 82 ≤ j) → cmS X s j = X j := fun j hj => by unfold cmS; split <;> simp (disch := omega) only [pk_un]
  have y' : ∀ s' m, s' ≠ s → m < 7 → cmS X s (12 + 7 * s' + m) = X (12 + 7 * s' + m) := fun s' m h1 h2 => by unfold cmS; split <;> simp (disch := omega) only [pk_un]
  have y6 : cmS X s (12 + 7 * s + 6) = N (12 + 7 * s + 6) + 1 := by
    rw [← xs (12 + 7 * s + 6) (by omega) (by omega)]
    unfold cmS
    split <;> simp (disch := omega) only [pk_us, pk_un]
  unfold GD
  rw [y 0 (by omega), y 1 (by omega), y 10 (by omega), x0, x1, x10]
  refine ⟨fun s' q => ?_, fun i q => ?_, ?_, ?_⟩
  · by_cases z : s' = s
    · subst z
      rw [y6]
      unfold cmS
      rw [xs (12 + 7 * s' + 6) (by omega) (by omega), xs (12 + 7 * s' + 2) (by omega) (by omega), xs (12 + 7 * s' + 1) (by omega) (by omega)]
      by_cases q3 : remI (N (12 + 7 * s' + 6) + 1) 3 = 0
      · rw [if_pos q3]
        simp (disch := omega) only [pk_us, pk_un]
        exact mo.1 q3
      · rw [if_neg q3]
        simp (disch := omega) only [pk_un, xs]
        exact mo.2 q3
    · rw [y' s' 1 z (by omega), y' s' 2 z (by omega), y' s' 6 z (by omega), xs _ (by omega) (by omega), xs _ (by omega) (by omega), xs _ (by omega) (by omega)]
      exact h.1 s' q
  · rw [y _ (by omega), y _ (by omega), x24 i 2 (by omega), x24 i 4 (by omega)]
    exact h.2.1 i q
  · have := aF_inc (N := N) (N' := cmS X s) (b := 12) (k := 7) (o := 6) (s := s) (m := 10) y6 (fun i hi z => (y' i 6 z (by omega)).trans (xs _ (by omega) (by omega))) (N 0).toNatClampNeg b0
    rw [this, if_pos hs, h.2.2.1]
  · have := aF_inc (N := N) (N' := cmS X s) (b := 82) (k := 5) (o := 3) (s := k) (m := 8) ((y _ (by omega)).trans x3) (fun i _ hi => (y _ (by omega)).trans (x3' i hi)) (N 1).toNatClampNeg b1
    rw [this, if_pos hk, h.2.2.2]
theorem PI.n10 {u : Nat} {N : Nat → Int32} (h : PI u N) : nn u (N 10) := h.n0 10 u (by omega) rfl
theorem PI.nh3 {u : Nat} {N : Nat → Int32} (h : PI u N) {i : Nat} (hi : i < 8) : nn u (N (82 + 5 * i + 3)) := h.nh hi 3 u (by omega) rfl rfl
theorem wx_m9 {k : Nat} (h : k < 100) : ¬ nI k = -9 := fun e => by
  have := nI_nlt (a := k) (b := 0) (Nat.zero_le _) (by omega)
  rw [e] at this
  exact this (by decide)
theorem kM_14 (d : Nat) {k : Nat} (h : k ≤ 14) : kM d k ≤ 14 := by unfold kM; split <;> omega
