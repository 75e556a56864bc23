/-! THE CLASS AS A WHOLE: text, history, saved, commands, the present road, the trial. Laid by gen/p16.py. -/
def cS (M : Nat → Nat → Int32) (X G J S C P Q : Nat → Int32) : Nat → Nat → Int32 := fun b => if b = 19 then X else if b = 20 then G else if b = 21 then J else if b = 22 then S else if b = 23 then C else if b = 0 then P else if b = 1 then Q else M b
theorem cS_c {M : Nat → Nat → Int32} {X G J S C P Q X' G' J' S' C' P' Q' : Nat → Int32} (h0 : X = X') (h1 : G = G') (h2 : J = J') (h3 : S = S') (h4 : C = C') (h5 : P = P') (h6 : Q = Q') : cS M X G J S C P Q = cS M X' G' J' S' C' P' Q' := by
  subst h0; subst h1; subst h2; subst h3; subst h4; subst h5; subst h6; rfl
theorem cS_u19 (M : Nat → Nat → Int32) (X G J S C P Q Z : Nat → Int32) : va_up (cS M X G J S C P Q) 19 Z = cS M Z G J S C P Q := by
  funext b; unfold va_up cS
  by_cases h : b = 19
  · subst h; rfl
  · rw [if_neg h]
    (repeat' split) <;> first | rfl | (exfalso; omega)
theorem cS_p19 (M : Nat → Nat → Int32) (X G J S C P Q : Nat → Int32) (j : Nat) (x : Int32) : up2 (cS M X G J S C P Q) 19 j x = cS M (upd X j x) G J S C P Q := cS_u19 M X G J S C P Q _
theorem cS_a19 (M : Nat → Nat → Int32) (X G J S C P Q : Nat → Int32) (j : Nat) : cS M X G J S C P Q 19 j = X j := rfl
theorem cS_b19 (M : Nat → Nat → Int32) (X G J S C P Q : Nat → Int32) : cS M X G J S C P Q 19 = X := rfl
theorem cS_u20 (M : Nat → Nat → Int32) (X G J S C P Q Z : Nat → Int32) : va_up (cS M X G J S C P Q) 20 Z = cS M X Z J S C P Q := by
  funext b; unfold va_up cS
  by_cases h : b = 20
  · subst h; rfl
  · rw [if_neg h]
    (repeat' split) <;> first | rfl | (exfalso; omega)
theorem cS_p20 (M : Nat → Nat → Int32) (X G J S C P Q : Nat → Int32) (j : Nat) (x : Int32) : up2 (cS M X G J S C P Q) 20 j x = cS M X (upd G j x) J S C P Q := cS_u20 M X G J S C P Q _
theorem cS_a20 (M : Nat → Nat → Int32) (X G J S C P Q : Nat → Int32) (j : Nat) : cS M X G J S C P Q 20 j = G j := rfl
theorem cS_b20 (M : Nat → Nat → Int32) (X G J S C P Q : Nat → Int32) : cS M X G J S C P Q 20 = G := rfl
theorem cS_u21 (M : Nat → Nat → Int32) (X G J S C P Q Z : Nat → Int32) : va_up (cS M X G J S C P Q) 21 Z = cS M X G Z S C P Q := by
  funext b; unfold va_up cS
  by_cases h : b = 21
  · subst h; rfl
  · rw [if_neg h]
    (repeat' split) <;> first | rfl | (exfalso; omega)
theorem cS_p21 (M : Nat → Nat → Int32) (X G J S C P Q : Nat → Int32) (j : Nat) (x : Int32) : up2 (cS M X G J S C P Q) 21 j x = cS M X G (upd J j x) S C P Q := cS_u21 M X G J S C P Q _
theorem cS_a21 (M : Nat → Nat → Int32) (X G J S C P Q : Nat → Int32) (j : Nat) : cS M X G J S C P Q 21 j = J j := rfl
theorem cS_b21 (M : Nat → Nat → Int32) (X G J S C P Q : Nat → Int32) : cS M X G J S C P Q 21 = J := rfl
theorem cS_u22 (M : Nat → Nat → Int32) (X G J S C P Q Z : Nat → Int32) : va_up (cS M X G J S C P Q) 22 Z = cS M X G J Z C P Q := by
  funext b; unfold va_up cS
  by_cases h : b = 22
  · subst h; rfl
  · rw [if_neg h]
    (repeat' split) <;> first | rfl | (exfalso; omega)
theorem cS_p22 (M : Nat → Nat → Int32) (X G J S C P Q : Nat → Int32) (j : Nat) (x : Int32) : up2 (cS M X G J S C P Q) 22 j x = cS M X G J (upd S j x) C P Q := cS_u22 M X G J S C P Q _
theorem cS_a22 (M : Nat → Nat → Int32) (X G J S C P Q : Nat → Int32) (j : Nat) : cS M X G J S C P Q 22 j = S j := rfl
theorem cS_b22 (M : Nat → Nat → Int32) (X G J S C P Q : Nat → Int32) : cS M X G J S C P Q 22 = S := rfl
theorem cS_u23 (M : Nat → Nat → Int32) (X G J S C P Q Z : Nat → Int32) : va_up (cS M X G J S C P Q) 23 Z = cS M X G J S Z P Q := by
  funext b; unfold va_up cS
  by_cases h : b = 23
  · subst h; rfl
  · rw [if_neg h]
    (repeat' split) <;> first | rfl | (exfalso; omega)
theorem cS_p23 (M : Nat → Nat → Int32) (X G J S C P Q : Nat → Int32) (j : Nat) (x : Int32) : up2 (cS M X G J S C P Q) 23 j x = cS M X G J S (upd C j x) P Q := cS_u23 M X G J S C P Q _
theorem cS_a23 (M : Nat → Nat → Int32) (X G J S C P Q : Nat → Int32) (j : Nat) : cS M X G J S C P Q 23 j = C j := rfl
theorem cS_b23 (M : Nat → Nat → Int32) (X G J S C P Q : Nat → Int32) : cS M X G J S C P Q 23 = C := rfl
theorem cS_u0 (M : Nat → Nat → Int32) (X G J S C P Q Z : Nat → Int32) : va_up (cS M X G J S C P Q) 0 Z = cS M X G J S C Z Q := by
  funext b; unfold va_up cS
  by_cases h : b = 0
  · subst h; rfl
  · rw [if_neg h]
    (repeat' split) <;> first | rfl | (exfalso; omega)
theorem cS_p0 (M : Nat → Nat → Int32) (X G J S C P Q : Nat → Int32) (j : Nat) (x : Int32) : up2 (cS M X G J S C P Q) 0 j x = cS M X G J S C (upd P j x) Q := cS_u0 M X G J S C P Q _
theorem cS_a0 (M : Nat → Nat → Int32) (X G J S C P Q : Nat → Int32) (j : Nat) : cS M X G J S C P Q 0 j = P j := rfl
theorem cS_b0 (M : Nat → Nat → Int32) (X G J S C P Q : Nat → Int32) : cS M X G J S C P Q 0 = P := rfl
theorem cS_u1 (M : Nat → Nat → Int32) (X G J S C P Q Z : Nat → Int32) : va_up (cS M X G J S C P Q) 1 Z = cS M X G J S C P Z := by
  funext b; unfold va_up cS
  by_cases h : b = 1
  · subst h; rfl
  · rw [if_neg h]
    (repeat' split) <;> first | rfl | (exfalso; omega)
theorem cS_p1 (M : Nat → Nat → Int32) (X G J S C P Q : Nat → Int32) (j : Nat) (x : Int32) : up2 (cS M X G J S C P Q) 1 j x = cS M X G J S C P (upd Q j x) := cS_u1 M X G J S C P Q _
theorem cS_a1 (M : Nat → Nat → Int32) (X G J S C P Q : Nat → Int32) (j : Nat) : cS M X G J S C P Q 1 j = Q j := rfl
theorem cS_b1 (M : Nat → Nat → Int32) (X G J S C P Q : Nat → Int32) : cS M X G J S C P Q 1 = Q := rfl
theorem cS_up {M : Nat → Nat → Int32} {X G J S C P Q Z : Nat → Int32} {r : Nat} (h : 2 ≤ r) (h2 : r < 19) : va_up (cS M X G J S C P Q) r Z = cS (va_up M r Z) X G J S C P Q := by
  funext b; unfold va_up cS
  by_cases h3 : b = r
  · subst h3
    rw [if_pos rfl, if_neg (by omega), if_neg (by omega), if_neg (by omega), if_neg (by omega), if_neg (by omega), if_neg (by omega), if_neg (by omega)]
    exact (if_pos rfl).symm
  · rw [if_neg h3, show (fun j => if j = r then Z else M j) b = M b from if_neg h3]
theorem cS_M {M : Nat → Nat → Int32} {X G J S C P Q : Nat → Int32} {r : Nat} (h : 2 ≤ r) (h2 : r < 19) : cS M X G J S C P Q r = M r := by
  unfold cS
  rw [if_neg (by omega), if_neg (by omega), if_neg (by omega), if_neg (by omega), if_neg (by omega), if_neg (by omega), if_neg (by omega)]
/-- the class: its own cells and its roads -/
def LC (Γ : gX) (R : Nat → Nat → Option Nat) : Prop := (∀ c, 475 ≤ c → c ≤ 482 → c ∈ gcs Γ) ∧ (∀ r, r < 19 → LV Γ R r) ∧ R 475 0 = some 476 ∧ R 475 1 = some (25 * 0) ∧ R 475 2 = some (25 * 1) ∧ R 475 3 = some 478 ∧ R 475 4 = some 480 ∧ R 475 5 = some 481 ∧ R 475 6 = some 482 ∧ R 476 0 = some 477 ∧ R 478 0 = some 479 ∧ R 480 0 = some (25 * 2) ∧ R 480 1 = some (25 * 3)
section GCl
variable {p : Program} {l : Launch} {e : Env} {RR : Room} {s : State} {m : MethodId} {args : Array Value} {below : List Frame} {meth : Method} {c : Code} {H : Heap} {locs : List Loc} {cells slots : Nat} {Q : State → Prop}
variable {cc : ByteArray} {pc : Nat} {ls : Array Slot} {rest : List Value} {Γ : gX} {M : Nat → Nat → Int32} {R : Nat → Nat → Option Nat} {O : Int64} {H0 : Heap}
theorem go_get (hexec : p.tables.exec = Jvm.exec) (hb : c.code = cc) {own ref C : String} {T : u_T} {ci index : Nat} {Ts : List Cond} (hts : ∀ w ∈ Ts, w.before args s = true) (hin : ∀ w ∈ u_ws C T (gSz ci), w ∈ Ts) (hown : s.vm.findClass own = some m.cls) (hK : GK Γ s) (hG : GH Γ M R O H) {c0 b : Nat} (hc0 : c0 ∈ gcs Γ) (hC : gC c0 = (ci, b, 0)) (h8 : ci < 8) (hc : vwCl[ci]? = some (C, T, gSz ci)) (k : Nat) (hk : k < gSz ci) (hr : gRf ci k = false) (hlink : (Cond.fieldLink own index ref (T k).2.1 (T k).2.2.1).before args s = true) (hsame : ∀ x, s.fieldFound? (T k).1 (T k).2.1 (T k).2.2.1 = some x → s.fieldFound? ref (T k).2.1 (T k).2.2.1 = some x) {v : Int32} (hv : M b k = v) (hdg : decode cc pc = .ok (.getfield index, 3))
    (kk : W p l e RR s m args below meth c H locs cells slots Q (F0 m (pc + 3) ls (.int v :: rest))) : W p l e RR s m args below meth c H locs cells slots Q (F0 m pc ls (.ref (gad Γ c0) :: rest)) := by
  refine g_get0 (C := C) (T := T) (ci := ci) (b := b) (o := 0) hexec hb hts hin hown hK hG hc0 hC h8 hc k hk hlink hsame ?_ hdg kk
  unfold gFd
  rw [if_neg (by rw [hr]; decide), Nat.zero_add, hv]
theorem go_getr (hexec : p.tables.exec = Jvm.exec) (hb : c.code = cc) {own ref C : String} {T : u_T} {ci index c1 : Nat} {Ts : List Cond} (hts : ∀ w ∈ Ts, w.before args s = true) (hin : ∀ w ∈ u_ws C T (gSz ci), w ∈ Ts) (hown : s.vm.findClass own = some m.cls) (hK : GK Γ s) (hG : GH Γ M R O H) {c0 b : Nat} (hc0 : c0 ∈ gcs Γ) (hC : gC c0 = (ci, b, 0)) (h8 : ci < 8) (hc : vwCl[ci]? = some (C, T, gSz ci)) (k : Nat) (hk : k < gSz ci) (hr : gRf ci k = true) (hR : R c0 k = some c1) (hlink : (Cond.fieldLink own index ref (T k).2.1 (T k).2.2.1).before args s = true) (hsame : ∀ x, s.fieldFound? (T k).1 (T k).2.1 (T k).2.2.1 = some x → s.fieldFound? ref (T k).2.1 (T k).2.2.1 = some x) (hdg : decode cc pc = .ok (.getfield index, 3))
    (kk : W p l e RR s m args below meth c H locs cells slots Q (F0 m (pc + 3) ls (.ref (gad Γ c1) :: rest))) : W p l e RR s m args below meth c H locs cells slots Q (F0 m pc ls (.ref (gad Γ c0) :: rest)) := by
  refine g_get0 (C := C) (T := T) (ci := ci) (b := b) (o := 0) hexec hb hts hin hown hK hG hc0 hC h8 hc k hk hlink hsame ?_ hdg kk
  unfold gFd
  rw [if_pos hr, hR]
  rfl
theorem go_put {M2 : Nat → Nat → Int32} (hexec : p.tables.exec = Jvm.exec) (hb : c.code = cc) {own ref C : String} {T : u_T} {ci index : Nat} {Ts : List Cond} (hts : ∀ w ∈ Ts, w.before args s = true) (hin : ∀ w ∈ u_ws C T (gSz ci), w ∈ Ts) (ty0 : Nat → FieldType) (hty : ∀ k, k < gSz ci → parseFieldDescriptor (T k).2.2.1 = some (ty0 k)) (hnm : ∀ a, a < gSz ci → ∀ b, b < gSz ci → a ≠ b → (T a).2.1 ≠ (T b).2.1) (hown : s.vm.findClass own = some m.cls) (hK : GK Γ s) (hG : GH Γ M R O H) (hS : va_S (gA Γ) H0 H locs) {c0 b : Nat} (hc0 : c0 ∈ gcs Γ) (hC : gC c0 = (ci, b, 0)) (h8 : ci < 8) (hc : vwCl[ci]? = some (C, T, gSz ci)) (k : Nat) (hk : k < gSz ci) (hlink : (Cond.fieldLink own index ref (T k).2.1 (T k).2.2.1).before args s = true) (hsame : ∀ x, s.fieldFound? (T k).1 (T k).2.1 (T k).2.2.1 = some x → s.fieldFound? ref (T k).2.1 (T k).2.2.1 = some x) (hr : gRf ci k = false) (hfin : (T k).2.2.2 = false) {x : Int32} (hd : parseFieldDescriptor (T k).2.2.1 = some .int) (hM : up2 M b k x = M2) (hdg : decode cc pc = .ok (.putfield index, 3))
    (kk : ∀ (H1 : Heap) (locs1 : List Loc), GH Γ M2 R O H1 → va_S (gA Γ) H0 H1 locs1 → W p l e RR s m args below meth c H1 locs1 cells slots Q (F0 m (pc + 3) ls rest)) : W p l e RR s m args below meth c H locs cells slots Q (F0 m pc ls (.int x :: .ref (gad Γ c0) :: rest)) := by
  subst hM
  refine g_put0 (C := C) (T := T) (ci := ci) (b := b) (o := 0) hexec hb hts hin ty0 hty hnm hown hK hG hS hc0 hC h8 hc k hk hlink hsame hr hfin hd rfl rfl hdg (fun H1 locs1 h1 h2 => kk H1 locs1 ?_ h2)
  rw [Nat.zero_add] at h1
  exact h1
theorem gm_cald (hexec : p.tables.exec = Jvm.exec) (hb : c.code = cc) (hK : GK Γ s) (hG : GH Γ M R O H) {c0 b n : Nat} (hc0 : c0 ∈ gcs Γ) (hC : gC c0 = (8, b, 0)) (hn : gLen c0 = n) (h31 : n < 2 ^ 31) {i v : Int32} {j : Nat} (hi : i = nI j) (hj : j < n) (hv : M b j = v) (hdg : decode cc pc = .ok (.caload, 1))
    (kk : W p l e RR s m args below meth c H locs cells slots Q (F0 m (pc + 1) ls (.int v :: rest))) : W p l e RR s m args below meth c H locs cells slots Q (F0 m pc ls (.int i :: .ref (gad Γ c0) :: rest)) := by
  subst hi
  exact g_cald hexec hb hK hG hc0 hC hn (nI_clamp (by omega)) (vp_in_nI hj h31) hv hdg kk
theorem gm_cast {M2 : Nat → Nat → Int32} (hexec : p.tables.exec = Jvm.exec) (hb : c.code = cc) (hK : GK Γ s) (hG : GH Γ M R O H) (hS : va_S (gA Γ) H0 H locs) {c0 b n : Nat} (hc0 : c0 ∈ gcs Γ) (hC : gC c0 = (8, b, 0)) (hn : gLen c0 = n) (h31 : n < 2 ^ 31) {i x y : Int32} {j : Nat} (hi : i = nI j) (hj : j < n) (hy : vp_nar .char x = y) (hM : up2 M b j y = M2) (hdg : decode cc pc = .ok (.castore, 1))
    (kk : ∀ (H1 : Heap) (locs1 : List Loc), GH Γ M2 R O H1 → va_S (gA Γ) H0 H1 locs1 → W p l e RR s m args below meth c H1 locs1 cells slots Q (F0 m (pc + 1) ls rest)) : W p l e RR s m args below meth c H locs cells slots Q (F0 m pc ls (.int x :: .int i :: .ref (gad Γ c0) :: rest)) := by
  subst hi; subst hM
  exact g_cast hexec hb hK hG hS hc0 hC hn (nI_clamp (by omega)) (vp_in_nI hj h31) hy hdg kk
end GCl
theorem ok_pl {a n : Int32} {k : Nat} (h : ¬ a < 0) (hn : n = nI k) (hk : k < 2 ^ 31) (h2 : a < n) : a = nI a.toNatClampNeg ∧ a.toNatClampNeg < k := by
  subst hn
  obtain ⟨j, hj, rfl⟩ := nI_of h
  rw [nI_clamp hj]
  exact ⟨rfl, (nI_ltI hj hk).mp h2⟩
theorem nar_pl {c : Int32} (h : c = nI c.toNatClampNeg) (h2 : c.toNatClampNeg < 256) : (c.toUInt32 % 65536).toInt32 = c ∧ vp_nar .char c = c := by
  have e : ∀ k : Fin 256, ((nI k.1).toUInt32 % 65536).toInt32 = nI k.1 ∧ vp_nar .char (nI k.1) = nI k.1 := by decide +kernel
  rw [h]
  exact e ⟨_, h2⟩
