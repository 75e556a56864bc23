/-! THE STATE OF BOTH: what holds between two calls. -/
def ZZ (M : Nat → Nat → Int32) (X G J S C P Q A T D N V I K B : Nat → Int32) : Nat → Nat → Int32 := cS (mS M A T D N V I K B) X G J S C P Q
theorem mS_no (M : Nat → Nat → Int32) (A T D N V I K B : Nat → Int32) {b : Nat} (h : ¬ (24 ≤ b ∧ b ≤ 31)) : mS M A T D N V I K B b = M b := by
  unfold mS
  rw [if_neg (by omega), if_neg (by omega), if_neg (by omega), if_neg (by omega), if_neg (by omega), if_neg (by omega), if_neg (by omega), if_neg (by omega)]
theorem in_8 {b : Nat} (h : 24 ≤ b ∧ b ≤ 31) : b = 24 ∨ b = 25 ∨ b = 26 ∨ b = 27 ∨ b = 28 ∨ b = 29 ∨ b = 30 ∨ b = 31 := by omega
theorem ZZ_m (M : Nat → Nat → Int32) (X G J S C P Q A T D N V I K B : Nat → Int32) : ZZ M X G J S C P Q A T D N V I K B = mS (cS M X G J S C P Q) A T D N V I K B := by
  funext b
  by_cases hb : 24 ≤ b ∧ b ≤ 31
  · rcases in_8 hb with rfl | rfl | rfl | rfl | rfl | rfl | rfl | rfl <;> rfl
  · rw [mS_no (cS M X G J S C P Q) A T D N V I K B hb]
    unfold ZZ cS
    rw [mS_no M A T D N V I K B hb]
theorem mS_lo (M : Nat → Nat → Int32) (A T D N V I K B : Nat → Int32) {r : Nat} (h : r < 24) : mS M A T D N V I K B r = M r := mS_no M A T D N V I K B (by omega)
theorem mS_up (M : Nat → Nat → Int32) (A T D N V I K B Y : Nat → Int32) {r : Nat} (h : r < 24) : va_up (mS M A T D N V I K B) r Y = mS (va_up M r Y) A T D N V I K B := by
  funext b
  by_cases q : b = r
  · subst q
    rw [va_up_eq, mS_lo _ _ _ _ _ _ _ _ _ h, va_up_eq]
  · rw [va_up_ne _ _ q]
    by_cases hb : 24 ≤ b ∧ b ≤ 31
    · rcases in_8 hb with rfl | rfl | rfl | rfl | rfl | rfl | rfl | rfl <;> rfl
    · rw [mS_no _ _ _ _ _ _ _ _ _ hb, mS_no _ _ _ _ _ _ _ _ _ hb, va_up_ne _ _ q]
theorem ZZ_up (M : Nat → Nat → Int32) (X G J S C P Q A T D N V I K B Y : Nat → Int32) {r : Nat} (h : r < 24) : cS (va_up (mS M A T D N V I K B) r Y) X G J S C P Q = ZZ (va_up M r Y) X G J S C P Q A T D N V I K B := by
  unfold ZZ
  rw [mS_up _ _ _ _ _ _ _ _ _ _ h]
theorem ZZ_24 (M : Nat → Nat → Int32) (X G J S C P Q A T D N V I K B : Nat → Int32) : ZZ M X G J S C P Q A T D N V I K B 24 = A := by
  rw [ZZ_m]; rfl
/-- the remembered states -/
def HI (u : Nat) (pm : Nat → Nat) (k : Nat) (M : Nat → Nat → Int32) (I : Nat → Int32) : Prop := ∀ i, i < k → PG u (M (pm i)) (fun j => I (131 * i + j))
/-- the save slots -/
def SL (u : Nat) (M : Nat → Nat → Int32) (S K B : Nat → Int32) : Prop := ∀ i, i < 2 → (S i = 0 ↔ B i = 0) ∧ (¬ S i = 0 → PG u (M (2 + i)) (fun j => K (131 * i + j)))
/-- the text -/
def TXT (X G A T : Nat → Int32) : Prop := X 1 = A 2 ∧ RA A ∧ ∀ i, i < (A 2).toNatClampNeg → G i = T i
def IN (u : Nat) (R : Nat → Nat → Option Nat) (pm : Nat → Nat) (k : Nat) (M : Nat → Nat → Int32) (X G J S P A T D N I K B : Nat → Int32) : Prop := (HP R pm ∧ (∀ i j, i < 15 → j < 15 → pm i = pm j → i = j)) ∧ k ≤ 14 ∧ J 1 = nI k ∧ A 8 = nI k ∧ TXT X G A T ∧ WS D ∧ PG u P N ∧ HI u pm k M I ∧ SL u M S K B
def INV (u : Nat) (Γ : gX) (R : Nat → Nat → Option Nat) (Z : Nat → Nat → Int32) : Prop := ∃ (M : Nat → Nat → Int32) (X G J S C P Q A T D N V I K B : Nat → Int32) (pm : Nat → Nat) (k : Nat), Z = ZZ M X G J S C P Q A T D N V I K B ∧ LC Γ R ∧ LM Γ R ∧ IN u R pm k M X G J S P A T D N I K B
theorem HI.le {u v : Nat} {pm : Nat → Nat} {k : Nat} {M : Nat → Nat → Int32} {I : Nat → Int32} (h : HI u pm k M I) (hv : u ≤ v) : HI v pm k M I := fun i hi => (h i hi).le hv
theorem SL.le {u v : Nat} {M : Nat → Nat → Int32} {S K B : Nat → Int32} (h : SL u M S K B) (hv : u ≤ v) : SL v M S K B := fun i hi => ⟨(h i hi).1, fun q => ((h i hi).2 q).le hv⟩
theorem TXT.up {X G A T : Nat → Int32} (h : TXT X G A T) {j : Nat} (x : Int32) (h2 : j ≠ 2) (h3 : j ≠ 3) : TXT X G (upd A j x) T := by
  have e2 : upd A j x 2 = A 2 := pk_un (Ne.symm h2)
  have e3 : upd A j x 3 = A 3 := pk_un (Ne.symm h3)
  refine ⟨h.1.trans e2.symm, ⟨by rw [e2]; exact h.2.1.1, by rw [e3]; exact h.2.1.2⟩, fun i hi => h.2.2 i (by rw [e2] at hi; exact hi)⟩
section INs
variable {u k : Nat} {R : Nat → Nat → Option Nat} {pm : Nat → Nat} {M : Nat → Nat → Int32} {X G J S P A T D N I K B : Nat → Int32}
theorem IN.le {v : Nat} (h : IN u R pm k M X G J S P A T D N I K B) (hv : u ≤ v) : IN v R pm k M X G J S P A T D N I K B := ⟨h.1, h.2.1, h.2.2.1, h.2.2.2.1, h.2.2.2.2.1, h.2.2.2.2.2.1, h.2.2.2.2.2.2.1.le hv, h.2.2.2.2.2.2.2.1.le hv, h.2.2.2.2.2.2.2.2.le hv⟩
theorem IN.pg (h : IN u R pm k M X G J S P A T D N I K B) : PG u P N := h.2.2.2.2.2.2.1
theorem IN.tx (h : IN u R pm k M X G J S P A T D N I K B) : TXT X G A T := h.2.2.2.2.1
theorem IN.a8 (h : IN u R pm k M X G J S P A T D N I K B) : A 8 = nI (A 8).toNatClampNeg ∧ (A 8).toNatClampNeg ≤ 14 := by
  have h1 := h.2.1
  rw [h.2.2.2.1, nI_clamp (by omega)]
  exact ⟨rfl, h1⟩
theorem IN.pmlo (h : IN u R pm k M X G J S P A T D N I K B) {i : Nat} (hi : i < 15) : 4 ≤ pm i ∧ pm i < 19 := (h.1.1 i hi).2
/-- the reference's refusal, another text of the search -/
theorem IN.ref (h : IN u R pm k M X G J S P A T D N I K B) (x : Int32) : IN u R pm k M X G J S P (upd A 0 x) T D N I K B := ⟨h.1, h.2.1, h.2.2.1, (pk_un (by decide)).trans h.2.2.2.1, h.tx.up x (by decide) (by decide), h.2.2.2.2.2⟩
/-- the draft behind the remembered states -/
theorem IN.draft (h : IN u R pm k M X G J S P A T D N I K B) (Y : Nat → Int32) : IN u R pm k (va_up M (pm k) Y) X G J S P A T D N I K B := by
  have h14 := h.2.1
  have lo := h.pmlo (i := k) (by omega)
  refine ⟨h.1, h.2.1, h.2.2.1, h.2.2.2.1, h.2.2.2.2.1, h.2.2.2.2.2.1, h.pg, fun i hi => ?_, fun i hi => ?_⟩
  · rw [va_up_ne _ _ (fun e => by have := h.1.2 i k (by omega) (by omega) e; omega)]
    exact h.2.2.2.2.2.2.2.1 i hi
  · rw [va_up_ne _ _ (show 2 + i ≠ pm k by omega)]
    exact h.2.2.2.2.2.2.2.2 i hi
end INs
theorem note_L1 (P : Nat → Int32) : ∀ n j, fX7_note_L P n j = if j < n then P (j + 131) else P j
  | 0, j => by rw [if_neg (Nat.not_lt_zero _)]; rfl
  | n + 1, j => by
    show upd (fX7_note_L P n) n (fX7_note_L P n (n + 131)) j = _
    by_cases q : j = n
    · subst q
      rw [pk_us, note_L1 P j, if_neg (by omega), if_pos (by omega)]
    · rw [pk_un q, note_L1 P n j]
      by_cases z : j < n
      · rw [if_pos z, if_pos (by omega)]
      · rw [if_neg z, if_neg (by omega)]
def kN (k : Nat) : Nat := if k = 14 then 14 else k + 1
def pN (pm : Nat → Nat) (k : Nat) : Nat → Nat := if k = 14 then rotP pm else pm
theorem noteA_o (A T D N V I K B : Nat → Int32) {j : Nat} (h : j ≠ 8) : fX7_note_A A T D N V I K B j = A j := by
  unfold fX7_note_A
  split
  · rw [pk_un h, pk_un h]
  · rw [pk_un h]
theorem noteA_8 (A T D N V I K B : Nat → Int32) {k : Nat} (hk : k ≤ 14) (h : A 8 = nI k) : fX7_note_A A T D N V I K B 8 = nI (kN k) := by
  unfold fX7_note_A kN
  rw [h]
  by_cases q : k = 14
  · subst q
    rw [if_pos (by decide), if_pos rfl, pk_us, pk_us]
    decide
  · rw [if_neg (show ¬ nI k = 14 from fun e => q ((nI_eq (a := k) (b := 14) (by omega) (by decide)).mp e)), if_neg q, pk_us, nI_1]
theorem noteI_at (A T D N V I K B : Nat → Int32) {k : Nat} (hk : k ≤ 14) (h : A 8 = nI k) : (∀ j, j < 131 → fX7_note_I A T D N V I K B (131 * (kN k - 1) + j) = N j) ∧ (∀ i, i < kN k - 1 → ∀ j, j < 131 → fX7_note_I A T D N V I K B (131 * i + j) = I (131 * (if k = 14 then i + 1 else i) + j)) := by
  unfold fX7_note_I kN
  rw [h]
  by_cases q : k = 14
  · subst q
    rw [if_pos (by decide), if_pos rfl]
    refine ⟨fun j hj => ?_, fun i hi j hj => ?_⟩
    · rw [cp_at, if_pos (by omega)]
      exact congrArg N (by omega)
    · rw [cp_at, if_neg (by omega), note_L1, if_pos (by omega), if_pos rfl]
      exact congrArg I (by omega)
  · rw [if_neg (show ¬ nI k = 14 from fun e => q ((nI_eq (a := k) (b := 14) (by omega) (by decide)).mp e)), if_neg q, nI_clamp (by omega)]
    refine ⟨fun j hj => ?_, fun i hi j hj => ?_⟩
    · rw [cp_at, if_pos (by omega)]
      exact congrArg N (by omega)
    · rw [cp_at, if_neg (by omega), if_neg q]
section INn
variable {u k : Nat} {R : Nat → Nat → Option Nat} {pm : Nat → Nat} {M : Nat → Nat → Int32} {X G J S P A T D N V I K B : Nat → Int32}
theorem keepJ_1 (h : J 1 = nI k) (hk : k ≤ 14) : keepJ J 1 = nI (kN k) := by
  unfold keepJ kN
  rw [h]
  by_cases q : k = 14
  · subst q
    rw [if_pos (by decide), if_pos rfl, pk_us]
    rfl
  · rw [if_neg (show ¬ nI k = 14 from fun e => q ((nI_eq (a := k) (b := 14) (by omega) (by decide)).mp e)), if_neg q, pk_us, nI_1]
theorem keepR_eq (R : Nat → Nat → Option Nat) (h : J 1 = nI k) (hk : k ≤ 14) : keepR R J = if k = 14 then rotR R else R := by
  unfold keepR
  rw [h]
  by_cases q : k = 14
  · subst q
    rw [if_pos (by decide), if_pos rfl]
  · rw [if_neg (show ¬ nI k = 14 from fun e => q ((nI_eq (a := k) (b := 14) (by omega) (by decide)).mp e)), if_neg q]
theorem keepR_LC {Γ : gX} (hC : LC Γ R) (h : J 1 = nI k) (hk : k ≤ 14) : LC Γ (keepR R J) := by
  rw [keepR_eq R h hk]
  split
  · exact LC_up hC _
  · exact hC
theorem keepR_LM {Γ : gX} (hC : LM Γ R) (h : J 1 = nI k) (hk : k ≤ 14) : LM Γ (keepR R J) := by
  rw [keepR_eq R h hk]
  split
  · exact LM_up hC _
  · exact hC
/-- an action done by both -/
theorem IN.act (h : IN u R pm k M X G J S P A T D N I K B) {cP rN : Nat → Int32} (rl : Rl cP rN) (pi : PI (u + 850) rN) (bl : BL cP) : IN (u + 850) (keepR R J) (pN pm k) (kN k) (va_up M (pm k) (fX2_copyFrom_P P (M (pm k)))) X G (keepJ J) S cP (fX7_note_A (upd A 0 0) T D N V I K B) T D rN (fX7_note_I (upd A 0 0) T D N V I K B) K B := by
  have h14 := h.2.1
  have lo := h.pmlo (i := k) (by omega)
  have a8 : upd A 0 0 8 = nI k := (pk_un (by decide)).trans h.2.2.2.1
  have hs := (h.draft (fX2_copyFrom_P P (M (pm k)))).le (show u ≤ u + 850 by omega)
  have tx := h.tx.up (j := 0) 0 (by decide) (by decide)
  obtain ⟨n1, n2⟩ := noteI_at (upd A 0 0) T D N V I K B h14 a8
  have new : PG (u + 850) (va_up M (pm k) (fX2_copyFrom_P P (M (pm k))) (pm k)) (fun j => fX7_note_I (upd A 0 0) T D N V I K B (131 * (kN k - 1) + j)) := by
    rw [va_up_eq]
    exact (h.pg.le (by omega)).cong (fun j hj => n1 j hj) (fun j hj => ccp P _ hj)
  refine ⟨?_, ?_, keepJ_1 h.2.2.1 h14, noteA_8 _ _ _ _ _ _ _ _ h14 a8, ?_, h.2.2.2.2.2.1, ⟨rl, pi, bl⟩, ?_, hs.2.2.2.2.2.2.2.2⟩
  · rw [keepR_eq R h.2.2.1 h14]
    unfold pN
    by_cases q : k = 14
    · rw [if_pos q, if_pos q]
      refine ⟨HP_rot h.1.1, fun i j hi hj e => ?_⟩
      unfold rotP at e
      by_cases c1 : i < 14 <;> by_cases c2 : j < 14
      · rw [if_pos c1, if_pos c2] at e
        have := h.1.2 _ _ (by omega) (by omega) e; omega
      · rw [if_pos c1, if_neg c2] at e
        have := h.1.2 _ _ (by omega) (by omega) e; omega
      · rw [if_neg c1, if_pos c2] at e
        have := h.1.2 _ _ (by omega) (by omega) e; omega
      · omega
    · rw [if_neg q, if_neg q]
      exact h.1
  · unfold kN; split <;> omega
  · have e : ∀ j, j ≠ 8 → fX7_note_A (upd A 0 0) T D N V I K B j = upd A 0 0 j := fun j hj => noteA_o _ _ _ _ _ _ _ _ hj
    refine ⟨tx.1.trans (e 2 (by decide)).symm, ⟨by rw [e 2 (by decide)]; exact tx.2.1.1, by rw [e 3 (by decide)]; exact tx.2.1.2⟩, fun i hi => tx.2.2 i (by rw [e 2 (by decide)] at hi; exact hi)⟩
  · intro i hi
    unfold kN at hi n1 n2 new
    unfold pN
    by_cases q : k = 14
    · subst q
      rw [if_pos rfl] at hi n1 n2 new ⊢
      by_cases z : i = 13
      · subst z
        exact new
      · have o := hs.2.2.2.2.2.2.2.1 (i + 1) (by omega)
        rw [show rotP pm i = pm (i + 1) from if_pos (by omega)]
        refine o.cong (fun j hj => ?_) (fun _ _ => rfl)
        have := n2 i (by omega) j hj
        rw [if_pos rfl] at this
        exact this
    · rw [if_neg q] at hi n1 n2 new ⊢
      by_cases z : i = k
      · subst z
        exact new
      · have o := hs.2.2.2.2.2.2.2.1 i (by omega)
        refine o.cong (fun j hj => ?_) (fun _ _ => rfl)
        have := n2 i (by omega) j hj
        rw [if_neg q] at this
        exact this
end INn
