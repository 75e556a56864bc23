/-! THE REFERENCE AS A WHOLE: its eight blocks (own numbers, text, read, now, trial, diary, kept, isKept), its cells 483 to 490. -/
def mS (M : Nat → Nat → Int32) (A T D N V I K B : Nat → Int32) : Nat → Nat → Int32 := fun b => if b = 24 then A else if b = 25 then T else if b = 26 then D else if b = 27 then N else if b = 28 then V else if b = 29 then I else if b = 30 then K else if b = 31 then B else M b
theorem mS_c {M : Nat → Nat → Int32} {A T D N V I K B A' T' D' N' V' I' K' B' : Nat → Int32} (h1 : A = A') (h2 : T = T') (h3 : D = D') (h4 : N = N') (h5 : V = V') (h6 : I = I') (h7 : K = K') (h8 : B = B') : mS M A T D N V I K B = mS M A' T' D' N' V' I' K' B' := by
  subst h1; subst h2; subst h3; subst h4; subst h5; subst h6; subst h7; subst h8; rfl
theorem mS_u24 (M : Nat → Nat → Int32) (A T D N V I K B X : Nat → Int32) : va_up (mS M A T D N V I K B) 24 X = mS M X T D N V I K B := by
  funext b; unfold va_up mS
  by_cases h : b = 24
  · subst h; rfl
  · rw [if_neg h]
    (repeat' split) <;> first | rfl | (exfalso; omega)
theorem mS_p24 (M : Nat → Nat → Int32) (A T D N V I K B : Nat → Int32) (j : Nat) (x : Int32) : up2 (mS M A T D N V I K B) 24 j x = mS M (upd A j x) T D N V I K B := mS_u24 M A T D N V I K B _
theorem mS_u25 (M : Nat → Nat → Int32) (A T D N V I K B X : Nat → Int32) : va_up (mS M A T D N V I K B) 25 X = mS M A X D N V I K B := by
  funext b; unfold va_up mS
  by_cases h : b = 25
  · subst h; rfl
  · rw [if_neg h]
    (repeat' split) <;> first | rfl | (exfalso; omega)
theorem mS_p25 (M : Nat → Nat → Int32) (A T D N V I K B : Nat → Int32) (j : Nat) (x : Int32) : up2 (mS M A T D N V I K B) 25 j x = mS M A (upd T j x) D N V I K B := mS_u25 M A T D N V I K B _
theorem mS_u26 (M : Nat → Nat → Int32) (A T D N V I K B X : Nat → Int32) : va_up (mS M A T D N V I K B) 26 X = mS M A T X N V I K B := by
  funext b; unfold va_up mS
  by_cases h : b = 26
  · subst h; rfl
  · rw [if_neg h]
    (repeat' split) <;> first | rfl | (exfalso; omega)
theorem mS_p26 (M : Nat → Nat → Int32) (A T D N V I K B : Nat → Int32) (j : Nat) (x : Int32) : up2 (mS M A T D N V I K B) 26 j x = mS M A T (upd D j x) N V I K B := mS_u26 M A T D N V I K B _
theorem mS_u27 (M : Nat → Nat → Int32) (A T D N V I K B X : Nat → Int32) : va_up (mS M A T D N V I K B) 27 X = mS M A T D X V I K B := by
  funext b; unfold va_up mS
  by_cases h : b = 27
  · subst h; rfl
  · rw [if_neg h]
    (repeat' split) <;> first | rfl | (exfalso; omega)
theorem mS_p27 (M : Nat → Nat → Int32) (A T D N V I K B : Nat → Int32) (j : Nat) (x : Int32) : up2 (mS M A T D N V I K B) 27 j x = mS M A T D (upd N j x) V I K B := mS_u27 M A T D N V I K B _
theorem mS_u28 (M : Nat → Nat → Int32) (A T D N V I K B X : Nat → Int32) : va_up (mS M A T D N V I K B) 28 X = mS M A T D N X I K B := by
  funext b; unfold va_up mS
  by_cases h : b = 28
  · subst h; rfl
  · rw [if_neg h]
    (repeat' split) <;> first | rfl | (exfalso; omega)
theorem mS_p28 (M : Nat → Nat → Int32) (A T D N V I K B : Nat → Int32) (j : Nat) (x : Int32) : up2 (mS M A T D N V I K B) 28 j x = mS M A T D N (upd V j x) I K B := mS_u28 M A T D N V I K B _
theorem mS_u29 (M : Nat → Nat → Int32) (A T D N V I K B X : Nat → Int32) : va_up (mS M A T D N V I K B) 29 X = mS M A T D N V X K B := by
  funext b; unfold va_up mS
  by_cases h : b = 29
  · subst h; rfl
  · rw [if_neg h]
    (repeat' split) <;> first | rfl | (exfalso; omega)
theorem mS_p29 (M : Nat → Nat → Int32) (A T D N V I K B : Nat → Int32) (j : Nat) (x : Int32) : up2 (mS M A T D N V I K B) 29 j x = mS M A T D N V (upd I j x) K B := mS_u29 M A T D N V I K B _
theorem mS_u30 (M : Nat → Nat → Int32) (A T D N V I K B X : Nat → Int32) : va_up (mS M A T D N V I K B) 30 X = mS M A T D N V I X B := by
  funext b; unfold va_up mS
  by_cases h : b = 30
  · subst h; rfl
  · rw [if_neg h]
    (repeat' split) <;> first | rfl | (exfalso; omega)
theorem mS_p30 (M : Nat → Nat → Int32) (A T D N V I K B : Nat → Int32) (j : Nat) (x : Int32) : up2 (mS M A T D N V I K B) 30 j x = mS M A T D N V I (upd K j x) B := mS_u30 M A T D N V I K B _
theorem mS_u31 (M : Nat → Nat → Int32) (A T D N V I K B X : Nat → Int32) : va_up (mS M A T D N V I K B) 31 X = mS M A T D N V I K X := by
  funext b; unfold va_up mS
  by_cases h : b = 31
  · subst h; rfl
  · rw [if_neg h]
    (repeat' split) <;> first | rfl | (exfalso; omega)
theorem mS_p31 (M : Nat → Nat → Int32) (A T D N V I K B : Nat → Int32) (j : Nat) (x : Int32) : up2 (mS M A T D N V I K B) 31 j x = mS M A T D N V I K (upd B j x) := mS_u31 M A T D N V I K B _
def LM (Γ : gX) (R : Nat → Nat → Option Nat) : Prop := (∀ c, 483 ≤ c → c ≤ 490 → c ∈ gcs Γ) ∧ R 483 1 = some 484 ∧ R 483 4 = some 485 ∧ R 483 5 = some 486 ∧ R 483 6 = some 487 ∧ R 483 7 = some 488 ∧ R 483 9 = some 489 ∧ R 483 10 = some 490
section GMd
variable {p : Program} {l : Launch} {e : Env} {RR : Room} {s : State} {m : MethodId} {args : Array Value} {below : List Frame} {meth : Method} {c : Code} {H : Heap} {locs : List Loc} {cells slots : Nat} {Q : State → Prop}
variable {cc : ByteArray} {pc : Nat} {ls : Array Slot} {rest : List Value} {Γ : gX} {M : Nat → Nat → Int32} {R : Nat → Nat → Option Nat} {O : Int64} {H0 : Heap} {A T D N V I K B : Nat → Int32}
theorem gM_get (hexec : p.tables.exec = Jvm.exec) (hb : c.code = cc) {own : String} {index : Nat} {Ts : List Cond} (hts : ∀ w ∈ Ts, w.before args s = true) (hin : ∀ w ∈ wsX70, w ∈ Ts) (hown : s.vm.findClass own = some m.cls) (hK : GK Γ s) (hL : LM Γ R) (hG : GH Γ (mS M A T D N V I K B) R O H) (k : Nat) (hk : k < 11) (hr : gRf 7 k = false) (hlink : (Cond.fieldLink own index "RoadDustModel" (TX7 k).2.1 (TX7 k).2.2.1).before args s = true) (hsame : ∀ x, s.fieldFound? (TX7 k).1 (TX7 k).2.1 (TX7 k).2.2.1 = some x → s.fieldFound? "RoadDustModel" (TX7 k).2.1 (TX7 k).2.2.1 = some x) (hdg : decode cc pc = .ok (.getfield index, 3))
    (kk : W p l e RR s m args below meth c H locs cells slots Q (F0 m (pc + 3) ls (.int (A k) :: rest))) : W p l e RR s m args below meth c H locs cells slots Q (F0 m pc ls (.ref (gad Γ 483) :: rest)) := by
  refine g_get0 (C := RX7) (T := TX7) (ci := 7) (b := 24) (o := 0) hexec hb hts hin hown hK hG (hL.1 483 (by decide) (by decide)) rfl (by decide) rfl k hk hlink hsame ?_ hdg kk
  unfold gFd
  rw [if_neg (by rw [hr]; decide), Nat.zero_add]
  rfl
theorem gM_getr (hexec : p.tables.exec = Jvm.exec) (hb : c.code = cc) {own : String} {index c1 : Nat} {Ts : List Cond} (hts : ∀ w ∈ Ts, w.before args s = true) (hin : ∀ w ∈ wsX70, w ∈ Ts) (hown : s.vm.findClass own = some m.cls) (hK : GK Γ s) (hL : LM Γ R) (hG : GH Γ M R O H) (k : Nat) (hk : k < 11) (hr : gRf 7 k = true) (hR : R 483 k = some c1) (hlink : (Cond.fieldLink own index "RoadDustModel" (TX7 k).2.1 (TX7 k).2.2.1).before args s = true) (hsame : ∀ x, s.fieldFound? (TX7 k).1 (TX7 k).2.1 (TX7 k).2.2.1 = some x → s.fieldFound? "RoadDustModel" (TX7 k).2.1 (TX7 k).2.2.1 = some x) (hdg : decode cc pc = .ok (.getfield index, 3))
    (kk : W p l e RR s m args below meth c H locs cells slots Q (F0 m (pc + 3) ls (.ref (gad Γ c1) :: rest))) : W p l e RR s m args below meth c H locs cells slots Q (F0 m pc ls (.ref (gad Γ 483) :: rest)) := by
  refine g_get0 (C := RX7) (T := TX7) (ci := 7) (b := 24) (o := 0) hexec hb hts hin hown hK hG (hL.1 483 (by decide) (by decide)) rfl (by decide) rfl k hk hlink hsame ?_ hdg kk
  unfold gFd
  rw [if_pos hr, hR]
  rfl
theorem gM_put (hexec : p.tables.exec = Jvm.exec) (hb : c.code = cc) {own : String} {index : Nat} {Ts : List Cond} (hts : ∀ w ∈ Ts, w.before args s = true) (hin : ∀ w ∈ wsX70, w ∈ Ts) (hown : s.vm.findClass own = some m.cls) (hK : GK Γ s) (hL : LM Γ R) (hG : GH Γ (mS M A T D N V I K B) R O H) (hS : va_S (gA Γ) H0 H locs) (k : Nat) (hk : k < 11) (hr : gRf 7 k = false) (hlink : (Cond.fieldLink own index "RoadDustModel" (TX7 k).2.1 (TX7 k).2.2.1).before args s = true) (hsame : ∀ x, s.fieldFound? (TX7 k).1 (TX7 k).2.1 (TX7 k).2.2.1 = some x → s.fieldFound? "RoadDustModel" (TX7 k).2.1 (TX7 k).2.2.1 = some x) (hfin : (TX7 k).2.2.2 = false) {x : Int32} (hd : parseFieldDescriptor (TX7 k).2.2.1 = some .int) (hdg : decode cc pc = .ok (.putfield index, 3))
    (kk : ∀ (H1 : Heap) (locs1 : List Loc), GH Γ (mS M (upd A k x) T D N V I K B) R O H1 → va_S (gA Γ) H0 H1 locs1 → W p l e RR s m args below meth c H1 locs1 cells slots Q (F0 m (pc + 3) ls rest)) : W p l e RR s m args below meth c H locs cells slots Q (F0 m pc ls (.int x :: .ref (gad Γ 483) :: rest)) := by
  refine g_put0 (C := RX7) (T := TX7) (ci := 7) (b := 24) (o := 0) hexec hb hts hin tyX7 tyX7_ok nmX7 hown hK hG hS (hL.1 483 (by decide) (by decide)) rfl (by decide) rfl k hk hlink hsame hr hfin hd rfl rfl hdg (fun H1 locs1 h1 h2 => kk H1 locs1 ?_ h2)
  rw [mS_p24, Nat.zero_add] at h1
  exact h1
theorem gm_ald (hexec : p.tables.exec = Jvm.exec) (hb : c.code = cc) (hK : GK Γ s) (hG : GH Γ M R O H) {c0 b n : Nat} (hc0 : c0 ∈ gcs Γ) (hC : gC c0 = (9, b, 0)) (hn : gLen c0 = n) (h31 : n < 2 ^ 31) {i v : Int32} {j : Nat} (hi : i = nI j) (hj : j < n) (hv : M b j = v) (hdg : decode cc pc = .ok (.iaload, 1))
    (kk : W p l e RR s m args below meth c H locs cells slots Q (F0 m (pc + 1) ls (.int v :: rest))) : W p l e RR s m args below meth c H locs cells slots Q (F0 m pc ls (.int i :: .ref (gad Γ c0) :: rest)) := by
  subst hi
  exact g_iald hexec hb hK hG hc0 hC hn (nI_clamp (by omega)) (vp_in_nI hj h31) hv hdg kk
theorem gm_ast {M2 : Nat → Nat → Int32} (hexec : p.tables.exec = Jvm.exec) (hb : c.code = cc) (hK : GK Γ s) (hG : GH Γ M R O H) (hS : va_S (gA Γ) H0 H locs) {c0 b n : Nat} (hc0 : c0 ∈ gcs Γ) (hC : gC c0 = (9, b, 0)) (hn : gLen c0 = n) (h31 : n < 2 ^ 31) {i x : Int32} {j : Nat} (hi : i = nI j) (hj : j < n) (hM : up2 M b j x = M2) (hdg : decode cc pc = .ok (.iastore, 1))
    (kk : ∀ (H1 : Heap) (locs1 : List Loc), GH Γ M2 R O H1 → va_S (gA Γ) H0 H1 locs1 → W p l e RR s m args below meth c H1 locs1 cells slots Q (F0 m (pc + 1) ls rest)) : W p l e RR s m args below meth c H locs cells slots Q (F0 m pc ls (.int x :: .int i :: .ref (gad Γ c0) :: rest)) := by
  subst hi; subst hM
  exact g_iast hexec hb hK hG hS hc0 hC hn (nI_clamp (by omega)) (vp_in_nI hj h31) hdg kk
theorem gm_zald (hexec : p.tables.exec = Jvm.exec) (hb : c.code = cc) (hK : GK Γ s) (hG : GH Γ M R O H) {c0 b n : Nat} (hc0 : c0 ∈ gcs Γ) (hC : gC c0 = (10, b, 0)) (hn : gLen c0 = n) (h31 : n < 2 ^ 31) {i v : Int32} {j : Nat} (hi : i = nI j) (hj : j < n) (hv : M b j = v) (hdg : decode cc pc = .ok (.baload, 1))
    (kk : W p l e RR s m args below meth c H locs cells slots Q (F0 m (pc + 1) ls (.int v :: rest))) : W p l e RR s m args below meth c H locs cells slots Q (F0 m pc ls (.int i :: .ref (gad Γ c0) :: rest)) := by
  subst hi
  exact g_zald hexec hb hK hG hc0 hC hn (nI_clamp (by omega)) (vp_in_nI hj h31) hv hdg kk
theorem gm_zast {M2 : Nat → Nat → Int32} (hexec : p.tables.exec = Jvm.exec) (hb : c.code = cc) (hK : GK Γ s) (hG : GH Γ M R O H) (hS : va_S (gA Γ) H0 H locs) {c0 b n : Nat} (hc0 : c0 ∈ gcs Γ) (hC : gC c0 = (10, b, 0)) (hn : gLen c0 = n) (h31 : n < 2 ^ 31) {i x y : Int32} {j : Nat} (hi : i = nI j) (hj : j < n) (hy : vp_nar .boolean x = y) (hM : up2 M b j y = M2) (hdg : decode cc pc = .ok (.bastore, 1))
    (kk : ∀ (H1 : Heap) (locs1 : List Loc), GH Γ M2 R O H1 → va_S (gA Γ) H0 H1 locs1 → W p l e RR s m args below meth c H1 locs1 cells slots Q (F0 m (pc + 1) ls rest)) : W p l e RR s m args below meth c H locs cells slots Q (F0 m pc ls (.int x :: .int i :: .ref (gad Γ c0) :: rest)) := by
  subst hi; subst hM
  exact g_zast hexec hb hK hG hS hc0 hC hn (nI_clamp (by omega)) (vp_in_nI hj h31) hy hdg kk
end GMd
theorem WS_wet {P : Nat → Int32} {k : Nat} {a : Int32} (hk : k < 10) (hW : WS P) : WS (fX7_wet_P P k a) := WS.up (by unfold kw; omega) hW
