/-! THE LAW: what holds of all pages between two steps; a step's act. -/
set_option maxRecDepth 16384
/-- houses and wagons there are no less -/
def CT (N N' : Nat → Int32) : Prop := (N 1).toNatClampNeg ≤ (N' 1).toNatClampNeg ∧ (N 2).toNatClampNeg ≤ (N' 2).toNatClampNeg
theorem CT.rf {N : Nat → Int32} : CT N N := ⟨Nat.le_refl _, Nat.le_refl _⟩
theorem CT.of {N N' : Nat → Int32} (h1 : N' 1 = N 1) (h2 : N' 2 = N 2) : CT N N' := ⟨by rw [h1]; exact Nat.le_refl _, by rw [h2]; exact Nat.le_refl _⟩
section CTs
variable {u : Nat} {N : Nat → Int32}
theorem ct_addHouse (hN : PI u N) (a d : Int32) : CT N (n_addHouse N a d) := by
  unfold n_addHouse
  by_cases c1 : fX7_isSegment_v N a = 0
  · rw [if_pos c1]; exact CT.rf
  by_cases c2 : fX7_in_v d.toInt64 0 9 = 0
  · rw [if_neg c1, if_pos c2]; exact CT.rf
  by_cases c3 : N 1 = 8
  · rw [if_neg c1, if_neg c2, if_pos c3]; exact CT.rf
  rw [if_neg c1, if_neg c2, if_neg c3, hsS_ref N a d rfl]
  obtain ⟨n, hn, en, en'⟩ := hN.h8.ex
  rw [en']
  refine ⟨?_, ?_⟩
  · have e1 : hsS N n a d 1 = nI (n + 1) := by unfold hsS; rw [pk_us, en, nI_1]
    rw [e1, en', nI_clamp (by omega)]; omega
  · have e2 : hsS N n a d 2 = N 2 := by unfold hsS; simp (disch := omega) only [pk_un]
    rw [e2]; exact Nat.le_refl _
theorem ct_addWagon (hN : PI u N) (a : Int32) : CT N (n_addWagon N a) := by
  unfold n_addWagon
  by_cases c1 : fX7_isSegment_v N a = 0
  · rw [if_pos c1]; exact CT.rf
  by_cases c2 : N 2 = 3
  · rw [if_neg c1, if_pos c2]; exact CT.rf
  rw [if_neg c1, if_neg c2, wgS_ref N a rfl]
  obtain ⟨n, hn, en, en'⟩ := hN.w3.ex
  rw [en']
  refine ⟨?_, ?_⟩
  · have e1 : wgS N n a 1 = N 1 := by unfold wgS; simp (disch := omega) only [pk_un]
    rw [e1]; exact Nat.le_refl _
  · have e2 : wgS N n a 2 = nI (n + 1) := by unfold wgS; rw [pk_us, en, nI_1]
    rw [e2, en', nI_clamp (by omega)]; omega
theorem ct_setSurface (a d : Int32) : CT N (n_setSurface N a d) := by
  unfold n_setSurface
  (repeat' split) <;> first | exact CT.rf | exact CT.of (pk_un (by omega)) (pk_un (by omega))
theorem ct_setLimit (a d : Int32) : CT N (n_setLimit N a d) := by
  unfold n_setLimit
  (repeat' split) <;> first | exact CT.rf | exact CT.of (pk_un (by omega)) (pk_un (by omega))
theorem ct_set (a d : Int32) : CT N (n_set N a d) := by
  unfold n_set
  by_cases c1 : fX7_isSetting_v a d = 0
  · rw [if_pos c1]; exact CT.rf
  rw [if_neg c1]
  have ha : 5 ≤ a.toNatClampNeg := by
    unfold fX7_isSetting_v at c1
    by_cases q5 : a = 5
    · rw [q5]; decide
    by_cases q6 : a = 6
    · rw [q6]; decide
    by_cases q7 : a = 7
    · rw [q7]; decide
    by_cases q8 : a = 8
    · rw [q8]; decide
    rw [if_neg q5, if_neg q6, if_neg q7, if_neg q8] at c1
    exact absurd rfl c1
  exact CT.of (pk_un (by omega)) (pk_un (by omega))
theorem ct_drive (a d : Int32) : CT N (n_drive N a d) := by
  unfold n_drive fX7_driveOn_P
  (repeat' split) <;> first | exact CT.rf | exact CT.of ((pk_un (by omega)).trans (pk_un (by omega))) ((pk_un (by omega)).trans (pk_un (by omega)))
theorem ct_spray (hN : PI u N) (a d : Int32) : CT N (n_spray N a d) := by
  unfold n_spray
  by_cases c1 : fX7_isWagon_v N a = 0
  · rw [if_pos c1]; exact CT.rf
  rw [if_neg c1]
  have h3 := (wag_lt hN c1).2
  have hs := Nat.lt_of_lt_of_le (hN.2.2.2 _ h3) hN.s10.2
  rw [spS_ref N h3 hs rfl d]
  generalize (N (122 + 3 * a.toNatClampNeg)).toNatClampNeg = s at hs ⊢
  have e : ∀ j, j < 11 → spS N a.toNatClampNeg s d j = N j := fun j h1 => by unfold spS; simp (disch := omega) only [pk_un]
  (repeat' split) <;> first | exact CT.rf | exact CT.of (e 1 (by omega)) (e 2 (by omega))
theorem ct_fill (hN : PI u N) (a : Int32) : CT N (n_fill N a) := by
  unfold n_fill
  by_cases c1 : fX7_isWagon_v N a = 0
  · rw [if_pos c1]; exact CT.rf
  by_cases c2 : fX7_why_v N a.toNatClampNeg = 0
  · rw [if_neg c1, if_pos c2, fiS_ref N (wag_lt hN c1).2]
    have e : ∀ j, j < 9 → fiS N a.toNatClampNeg (fX7_fillOn_v N a.toNatClampNeg) j = N j := fun j h1 => by unfold fiS; simp (disch := omega) only [pk_un]
    exact CT.of (e 1 (by omega)) (e 2 (by omega))
  · rw [if_neg c1, if_neg c2]; exact CT.rf
theorem ct_pass (hN : PI u N) (hu : 1998 * (u + 867) < 2 ^ 31) (a : Int32) : CT N (n_pass N a) := by
  unfold n_pass
  by_cases c1 : fX7_in_v a.toInt64 1 50 = 0
  · rw [if_pos c1]; exact CT.rf
  rw [if_neg c1]
  rw [w_150] at c1
  have hd := (wi_nn (lo := 1) (hi := 50) c1 (by decide) (by decide)).1.2
  exact CT.of (pass_hd hN (by decide) (by decide) _ (by omega)) (pass_hd hN (by decide) (by decide) _ (by omega))
end CTs
/-- a page between two steps -/
def PGD (u : Nat) (N : Nat → Int32) : Prop := PI u N ∧ GD N ∧ 1 ≤ (N 1).toNatClampNeg ∧ 1 ≤ (N 2).toNatClampNeg
theorem PGD.le {u v : Nat} {N : Nat → Int32} (h : PGD u N) (hv : u ≤ v) : PGD v N := ⟨h.1.le hv, h.2⟩
theorem PGD.ct {u v : Nat} {N N' : Nat → Int32} (h : PGD u N) (h1 : PI v N') (h2 : GD N') (h3 : CT N N') : PGD v N' := ⟨h1, h2, Nat.le_trans h.2.2.1 h3.1, Nat.le_trans h.2.2.2 h3.2⟩
/-- the state between two steps -/
def ST (u : Nat) (N : Nat → Int32) (Hy : Nat → Nat → Int32) (k : Nat) (w : WO) : Prop := PGD u N ∧ (∀ i, i < k → PGD u (Hy i)) ∧ k ≤ 14 ∧ ∀ K, w.1 1 = some K → PGD u K
section STs
variable {u : Nat} {N : Nat → Int32} {Hy : Nat → Nat → Int32} {k : Nat} {w : WO}
theorem ST.le {v : Nat} (h : ST u N Hy k w) (hv : u ≤ v) : ST v N Hy k w := ⟨h.1.le hv, fun i hi => (h.2.1 i hi).le hv, h.2.2.1, fun K hK => (h.2.2.2 K hK).le hv⟩
theorem ST.less {d : Nat} (h : ST u N Hy k w) (hd : d ≤ k) : ST u N Hy d w := ⟨h.1, fun i hi => h.2.1 i (by omega), by have := h.2.2.1; omega, h.2.2.2⟩
theorem ST.act (h : ST u N Hy k w) (rf : Nat) {N1 : Nat → Int32} (h1 : PGD (u + 850) N1) : ST (u + 850) N1 (hA rf N Hy) (kA rf k) w := by
  have h14 := h.2.2.1
  unfold hA kA
  by_cases q : rf = 0
  · rw [if_pos q, if_pos q]
    refine ⟨h1, fun i hi => ?_, kN_le h14, fun K hK => (h.2.2.2 K hK).le (by omega)⟩
    cases i with
    | zero => exact h.1.le (by omega)
    | succ i => exact (h.2.1 i (by unfold kN at hi; split at hi <;> omega)).le (by omega)
  · rw [if_neg q, if_neg q]
    exact ⟨h1, fun i hi => (h.2.1 i hi).le (by omega), h14, fun K hK => (h.2.2.2 K hK).le (by omega)⟩
/-- a step's act, whatever it is: the same for every object in this state -/
theorem act_ex {l : Launch} (hst : l.stackTraces = false) (h : ST u N Hy k w) (hu : 1998 * (u + 10000) < 2 ^ 31) {x y : Nat} (hx0 : x < 2 ^ 31) (hy0 : y < 2 ^ 31) : ∃ (v : Int32) (N1 : Nat → Int32) (Hy1 : Nat → Nat → Int32) (k1 : Nat) (w1 : WO), ST (u + 850) N1 Hy1 k1 w1 ∧ ∀ Γ : gX, lM l Γ yL_act wqL_act 12 262 3 [.ref (gad Γ 475), .int (nI x), .int (nI y)] (SH Γ N Hy k w) (some (.int v)) (SH Γ N1 Hy1 k1 w1) := by
  have hN := h.1.1
  have hg := h.1.2.1
  have hu0 : 1998 * (u + 5000) < 2 ^ 31 := by omega
  have hp : 1998 * (u + 867) < 2 ^ 31 := by omega
  have q16 : x % 16 < 16 := Nat.mod_lt _ (by decide)
  by_cases c0 : x % 16 = 0
  · exact ⟨_, _, _, _, _, h.act _ (h.1.ct (pi_addHouse hN hu0 _ _) (gd_addHouse hN hg _ _) (ct_addHouse hN _ _)), fun Γ => L_act_0 hst hN hu hx0 hy0 c0⟩
  by_cases c1 : x % 16 = 1
  · exact ⟨_, _, _, _, _, h.act _ (h.1.ct (pi_addWagon hN hu0 _) (gd_addWagon hN hg _) (ct_addWagon hN _)), fun Γ => L_act_1 hst hN hu hx0 hy0 c1⟩
  by_cases c2 : x % 16 = 2
  · exact ⟨_, _, _, _, _, h.act _ (h.1.ct (pi_setSurface hN hu0 _ _) (gd_setSurface hN hg _ _) (ct_setSurface _ _)), fun Γ => L_act_2 hst hN hu hx0 hy0 c2⟩
  by_cases c3 : x % 16 = 3
  · exact ⟨_, _, _, _, _, h.act _ (h.1.ct (pi_setLimit hN hu0 _ _) (gd_setLimit hN hg _ _) (ct_setLimit _ _)), fun Γ => L_act_3 hst hN hu hx0 hy0 c3⟩
  by_cases c4 : x % 16 = 4
  · by_cases d0 : y % 4 = 0
    · exact ⟨_, _, _, _, _, h.act _ (h.1.ct (pi_set hN hu0 _ _) (gd_set hN hg _ _) (ct_set _ _)), fun Γ => L_act_4a hst hN hu hx0 hy0 c4 d0⟩
    by_cases d1 : y % 4 = 1
    · exact ⟨_, _, _, _, _, h.act _ (h.1.ct (pi_set hN hu0 _ _) (gd_set hN hg _ _) (ct_set _ _)), fun Γ => L_act_4b hst hN hu hx0 hy0 c4 d1⟩
    · exact ⟨_, _, _, _, _, h.act _ (h.1.ct (pi_set hN hu0 _ _) (gd_set hN hg _ _) (ct_set _ _)), fun Γ => L_act_4c hst hN hu hx0 hy0 c4 (by omega)⟩
  by_cases c5 : x % 16 = 5
  · exact ⟨_, _, _, _, _, h.act _ (h.1.ct (pi_drive hN hu0 _ _) (gd_drive hN hg _ _) (ct_drive _ _)), fun Γ => L_act_5 hst hN hu hx0 hy0 c5⟩
  by_cases c6 : x % 16 = 6
  · exact ⟨_, _, _, _, _, h.act _ (h.1.ct (pi_drive hN hu0 _ _) (gd_drive hN hg _ _) (ct_drive _ _)), fun Γ => L_act_6 hst hN hu hx0 hy0 c6⟩
  by_cases c7 : x % 16 = 7
  · exact ⟨_, _, _, _, _, h.act _ (h.1.ct (pi_spray hN hu0 _ _) (gd_spray hN hg _ _) (ct_spray hN _ _)), fun Γ => L_act_7 hst hN hu hx0 hy0 c7⟩
  by_cases c8 : x % 16 = 8
  · exact ⟨_, _, _, _, _, h.act _ (h.1.ct (pi_spray hN hu0 _ _) (gd_spray hN hg _ _) (ct_spray hN _ _)), fun Γ => L_act_8 hst hN hu hx0 hy0 c8⟩
  by_cases c9 : x % 16 = 9
  · exact ⟨_, _, _, _, _, h.act _ (h.1.ct (pi_fill hN hu0 _) (gd_fill hN hg _) (ct_fill hN _)), fun Γ => L_act_9 hst hN hu hx0 hy0 c9⟩
  by_cases c10 : x % 16 = 10
  · exact ⟨_, _, _, _, _, h.act _ (h.1.ct (pi_pass hN hu0 _) (gd_pass hN hp hg _) (ct_pass hN hp _)), fun Γ => L_act_10 hst hN hu hx0 hy0 c10⟩
  by_cases c11 : x % 16 = 11
  · exact ⟨_, _, _, _, _, h.act _ (h.1.ct (pi_pass hN hu0 _) (gd_pass hN hp hg _) (ct_pass hN hp _)), fun Γ => L_act_11 hst hN hu hx0 hy0 c11⟩
  by_cases c12 : x % 16 = 12
  · exact ⟨_, _, _, _, _, h.act _ (h.1.ct (pi_pass hN hu0 _) (gd_pass hN hp hg _) (ct_pass hN hp _)), fun Γ => L_act_12 hst hN hu hx0 hy0 c12⟩
  by_cases c13 : x % 16 = 13
  · exact ⟨_, _, _, _, _, h.act _ (h.1.ct (pi_pass hN hu0 _) (gd_pass hN hp hg _) (ct_pass hN hp _)), fun Γ => L_act_13 hst hN hu hx0 hy0 c13⟩
  by_cases c14 : x % 16 = 14
  · cases k with
    | zero => exact ⟨_, _, _, _, _, h.le (by omega), fun Γ => L_act_14a (k := 0) hst hN hu hx0 hy0 c14⟩
    | succ k =>
      have h0 := h.2.1 0 (by omega)
      exact ⟨_, _, _, _, _, ⟨h0.le (by omega), fun i hi => (h.2.1 (i + 1) (by omega)).le (by omega), by have := h.2.2.1; omega, fun K hK => (h.2.2.2 K hK).le (by omega)⟩, fun Γ => L_act_14b hst hN hu hx0 hy0 c14 h0.1⟩
  have c15 : x % 16 = 15 := by omega
  by_cases d0 : y % 2 = 0
  · refine ⟨_, _, _, _, _, ⟨h.1.le (by omega), fun i hi => (h.2.1 i hi).le (by omega), h.2.2.1, fun K hK => ?_⟩, fun Γ => L_act_15a hst hN hu hx0 hy0 c15 d0⟩
    have hK : va_up w.1 1 (some N) 1 = some K := hK
    rw [va_up_eq] at hK
    cases hK
    exact h.1.le (by omega)
  · cases hw : w.1 1 with
    | none => exact ⟨_, _, _, _, _, h.le (by omega), fun Γ => L_act_15b hst hN hu hx0 hy0 c15 (by omega) hw⟩
    | some K =>
      have hK := h.2.2.2 K hw
      exact ⟨_, _, _, _, _, ⟨hK.le (by omega), fun i hi => absurd hi (Nat.not_lt_zero i), by omega, fun K hK => (h.2.2.2 K hK).le (by omega)⟩, fun Γ => L_act_15c (Hy := Hy) hst hN hu hx0 hy0 c15 (by omega) hw hK.1⟩
end STs
