/-! THE STATE: what holds between two calls: the class's pages beside the model's. -/
/-- a page of the class beside one of the model -/
def PR (P N : Nat → Int32) : Prop := Rl P N ∧ BL P
theorem PR.pg {u : Nat} {P N : Nat → Int32} (h : PR P N) (hN : PI u N) : PG u P N := ⟨h.1, hN, h.2⟩
theorem PR.cp {P N : Nat → Int32} {u : Nat} (h : PR P N) (hN : PI u N) (Q : Nat → Int32) : PR (fX2_copyFrom_P P Q) N := by
  have := (h.pg hN).cong (P' := fX2_copyFrom_P P Q) (N' := N) (fun _ _ => rfl) (fun j hj => ccp P Q hj)
  exact ⟨this.1, this.2.2⟩
/-- a state more is remembered -/
def cons (N : Nat → Int32) (H : Nat → Nat → Int32) : Nat → Nat → Int32 := fun i => match i with
  | 0 => N
  | i + 1 => H i
def kN (k : Nat) : Nat := if k = 14 then 14 else k + 1
def pN (pm : Nat → Nat) (k : Nat) : Nat → Nat := if k = 14 then rotP pm else pm
theorem kN_le {k : Nat} (h : k ≤ 14) : kN k ≤ 14 := by unfold kN; split <;> omega
theorem keepJ_1 {J : Nat → Int32} {k : Nat} (h : J 1 = nI k) (hk : k ≤ 14) : keepJ J 1 = nI (kN k) := by
  unfold keepJ kN
  rw [h]
  by_cases q : k = 14
  · subst q
    rw [if_pos (by decide), if_pos rfl, pk_us]
    rfl
  · rw [if_neg (show ¬ nI k = 14 from fun e => q ((nI_eq (a := k) (b := 14) (by omega) (by decide)).mp e)), if_neg q, pk_us, nI_1]
theorem keepR_eq (R : Nat → Nat → Option Nat) {J : Nat → Int32} {k : Nat} (h : J 1 = nI k) (hk : k ≤ 14) : keepR R J = if k = 14 then rotR R else R := by
  unfold keepR
  rw [h]
  by_cases q : k = 14
  · subst q
    rw [if_pos (by decide), if_pos rfl]
  · rw [if_neg (show ¬ nI k = 14 from fun e => q ((nI_eq (a := k) (b := 14) (by omega) (by decide)).mp e)), if_neg q]
theorem keepR_LC {Γ : gX} {R : Nat → Nat → Option Nat} (hC : LC Γ R) {J : Nat → Int32} {k : Nat} (h : J 1 = nI k) (hk : k ≤ 14) : LC Γ (keepR R J) := by
  rw [keepR_eq R h hk]
  split
  · exact LC_up hC _
  · exact hC
/-- the remembered states, the latest first -/
def HI (pm : Nat → Nat) (k : Nat) (M : Nat → Nat → Int32) (H : Nat → Nat → Int32) : Prop := ∀ i, i < k → PR (M (pm i)) (H (k - 1 - i))
/-- the save slots -/
def SL (M : Nat → Nat → Int32) (S : Nat → Int32) (sl : Nat → Option (Nat → Int32)) : Prop := ∀ i, i < 2 → (sl i = none → S i = 0) ∧ ∀ K, sl i = some K → ¬ S i = 0 ∧ PR (M (2 + i)) K
/-- the text: t characters T -/
def TX (X G : Nat → Int32) (t : Nat) (T : Nat → Int32) : Prop := X 1 = nI t ∧ t ≤ 70 ∧ ∀ i, i < t → G i = T i
/-- what doesn't change with an action: slots, text -/
abbrev WO : Type := (Nat → Option (Nat → Int32)) × Nat × (Nat → Int32)
def IN (R : Nat → Nat → Option Nat) (pm : Nat → Nat) (M : Nat → Nat → Int32) (X G J S P : Nat → Int32) (N : Nat → Int32) (H : Nat → Nat → Int32) (k : Nat) (w : WO) : Prop := (HP R pm ∧ (∀ i j, i < 15 → j < 15 → pm i = pm j → i = j)) ∧ k ≤ 14 ∧ J 1 = nI k ∧ TX X G w.2.1 w.2.2 ∧ PR P N ∧ HI pm k M H ∧ SL M S w.1
def INC (Γ : gX) (R : Nat → Nat → Option Nat) (Z : Nat → Nat → Int32) (N : Nat → Int32) (H : Nat → Nat → Int32) (k : Nat) (w : WO) : Prop := ∃ (M : Nat → Nat → Int32) (X G J S C P Q : Nat → Int32) (pm : Nat → Nat), Z = cS M X G J S C P Q ∧ LC Γ R ∧ IN R pm M X G J S P N H k w
section INs
variable {k : Nat} {R : Nat → Nat → Option Nat} {pm : Nat → Nat} {M : Nat → Nat → Int32} {X G J S P N : Nat → Int32} {H : Nat → Nat → Int32} {w : WO}
theorem IN.pr (h : IN R pm M X G J S P N H k w) : PR P N := h.2.2.2.2.1
theorem IN.tx (h : IN R pm M X G J S P N H k w) : TX X G w.2.1 w.2.2 := h.2.2.2.1
theorem IN.hi (h : IN R pm M X G J S P N H k w) : HI pm k M H := h.2.2.2.2.2.1
theorem IN.sl (h : IN R pm M X G J S P N H k w) : SL M S w.1 := h.2.2.2.2.2.2
theorem IN.pmlo (h : IN R pm M X G J S P N H k w) {i : Nat} (hi : i < 15) : 4 ≤ pm i ∧ pm i < 19 := (h.1.1 i hi).2
/-- the draft behind the remembered states -/
theorem IN.draft (h : IN R pm M X G J S P N H k w) (Y : Nat → Int32) : IN R pm (va_up M (pm k) Y) X G J S P N H k w := by
  have h14 := h.2.1
  have lo := h.pmlo (i := k) (by omega)
  refine ⟨h.1, h.2.1, h.2.2.1, h.2.2.2.1, h.pr, fun i hi => ?_, fun i hi => ⟨(h.sl i hi).1, fun K hK => ?_⟩⟩
  · rw [va_up_ne _ _ (fun e => by have := h.1.2 i k (by omega) (by omega) e; omega)]
    exact h.hi i hi
  · rw [va_up_ne _ _ (show 2 + i ≠ pm k by omega)]
    exact (h.sl i hi).2 K hK
/-- an action done -/
theorem IN.act (h : IN R pm M X G J S P N H k w) {u : Nat} (hN : PI u N) {cP rN : Nat → Int32} (rl : Rl cP rN) (bl : BL cP) : IN (keepR R J) (pN pm k) (va_up M (pm k) (fX2_copyFrom_P P (M (pm k)))) X G (keepJ J) S cP rN (cons N H) (kN k) w := by
  have h14 := h.2.1
  have lo := h.pmlo (i := k) (by omega)
  have hs := h.draft (fX2_copyFrom_P P (M (pm k)))
  have new : PR (va_up M (pm k) (fX2_copyFrom_P P (M (pm k))) (pm k)) N := by
    rw [va_up_eq]
    exact h.pr.cp hN _
  refine ⟨?_, kN_le h14, keepJ_1 h.2.2.1 h14, h.tx, ⟨rl, bl⟩, ?_, hs.sl⟩
  · rw [keepR_eq R h.2.2.1 h14]
    unfold pN
    by_cases q : k = 14
    · rw [if_pos q, if_pos q]
      refine ⟨HP_rot h.1.1, fun i j hi hj e => ?_⟩
      unfold rotP at e
      by_cases c1 : i < 14 <;> by_cases c2 : j < 14
      · rw [if_pos c1, if_pos c2] at e
        have := h.1.2 _ _ (by omega) (by omega) e; omega
      · rw [if_pos c1, if_neg c2] at e
        have := h.1.2 _ _ (by omega) (by omega) e; omega
      · rw [if_neg c1, if_pos c2] at e
        have := h.1.2 _ _ (by omega) (by omega) e; omega
      · omega
    · rw [if_neg q, if_neg q]
      exact h.1
  · intro i hi
    unfold kN at hi ⊢
    unfold pN
    by_cases q : k = 14
    · subst q
      rw [if_pos rfl] at hi ⊢
      rw [if_pos rfl]
      by_cases z : i = 13
      · subst z
        exact new
      · have o := hs.hi (i + 1) (by omega)
        rw [show rotP pm i = pm (i + 1) from if_pos (by omega)]
        rw [show 14 - 1 - i = (14 - 1 - (i + 1)) + 1 by omega]
        exact o
    · rw [if_neg q] at hi ⊢
      rw [if_neg q]
      by_cases z : i = k
      · subst z
        rw [show i + 1 - 1 - i = 0 by omega]
        exact new
      · have o := hs.hi i (by omega)
        rw [show k + 1 - 1 - i = (k - 1 - i) + 1 by omega]
        exact o
end INs
/-- a heap that holds the object in this state -/
def SH (Γ : gX) (N : Nat → Int32) (H : Nat → Nat → Int32) (k : Nat) (w : WO) (Hp : Heap) : Prop := ∃ Z R, INC Γ R Z N H k w ∧ GH Γ Z R 0 Hp
def lPre (Γ : gX) (av : List Value) (Sh : Heap → Prop) : Array Value → State → Prop := va_Pc av (fun U => Sh U.heap ∧ GK Γ U ∧ GZ Γ U U.heap ∧ GX U ∧ GY U)
theorem lPre.blind {Γ : gX} {av : List Value} {Sh : Heap → Prop} : FrameBlind (lPre Γ av Sh) := fun _ U _ _ h => ⟨h.1, h.2.1, GK.same rfl h.2.2.1, GZ.moved (Vm.Alike.refl U.vm) h.2.2.2.1, GX.same (u := U) rfl h.2.2.2.2.1, GY.moved (u := U) (Vm.Alike.refl U.vm) h.2.2.2.2.2⟩
def lQ (Γ : gX) (v : Option Value) (Sh : Heap → Prop) : Array Value → State → Outcome → State → Prop := fun _ st oc t => oc = .returned v ∧ Sh t.heap ∧ va_F (gA Γ) st t
/-- a wrapper, between two states -/
def lW (l : Launch) (Γ : gX) (y : MethodName) (ws : List Cond) (av : List Value) (Sh : Heap → Prop) (v : Int32) (Sh1 : Heap → Prop) : Prop := vx_Met l y ws (gRx 9 180) (lPre Γ av Sh) (lQ Γ (some (.int v)) Sh1) (fun _ _ _ => False) 1 6 (gA Γ)
theorem lW_of {l : Launch} {Γ : gX} {y : MethodName} {ws : List Cond} {av : List Value} {v : Int32} {N N1 : Nat → Int32} {H H1 : Nat → Nat → Int32} {k k1 : Nat} {w w1 : WO} (h : ∀ Z R, INC Γ R Z N H k w → ∃ Z1 R1, gWrp l Γ y ws 9 180 av Z R 0 (some (.int v)) Z1 R1 0 ∧ INC Γ R1 Z1 N1 H1 k1 w1) : lW l Γ y ws av (SH Γ N H k w) v (SH Γ N1 H1 k1 w1) := by
  intro p e ha hc hk s m args below hf happ hP hK
  obtain ⟨e1, ⟨Z, R, hI, hG⟩, hr⟩ := hP
  obtain ⟨Z1, R1, hM, hI1⟩ := h Z R hI
  obtain ⟨n, o, h1, h2, h3, h4⟩ := hM p e ha hc hk s m args below hf happ ⟨e1, hG, hr⟩ hK
  refine ⟨n, o, h1, h2, h3, ?_⟩
  rcases h4 with ⟨⟨q1, q2, q3⟩, q4⟩ | h4
  · exact Or.inl ⟨⟨q1, ⟨Z1, R1, hI1, q2⟩, q3⟩, q4⟩
  · exact Or.inr h4
