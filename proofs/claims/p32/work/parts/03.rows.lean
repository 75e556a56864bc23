/-! ROWS over the world: fields, arrays, ends, calls. -/
theorem gEnt_obj {aC : Nat → ClassId} {ad : Nat → Nat} {M : Nat → Nat → Int32} {R : Nat → Nat → Option Nat} {O : Int64} {c0 ci b o : Nat} (hC : gC c0 = (ci, b, o)) (h8 : ci < 8) : gEnt aC ad M R O c0 = .inr (ci, (List.range (gSz ci)).map (gFd ci c0 b o ad M R)) := by
  unfold gEnt gEk; rw [hC]; exact if_pos h8
theorem gEnt_int {aC : Nat → ClassId} {ad : Nat → Nat} {M : Nat → Nat → Int32} {R : Nat → Nat → Option Nat} {O : Int64} {c0 ci b o : Nat} (hC : gC c0 = (ci, b, o)) (h8 : 8 ≤ ci) (h11 : ci < 11) : gEnt aC ad M R O c0 = .inl (aC c0, gLen c0, .inl (M b)) := by
  unfold gEnt gEk; rw [hC]; exact (if_neg (Nat.not_lt.mpr h8)).trans (if_pos h11)
theorem gEnt_ref {aC : Nat → ClassId} {ad : Nat → Nat} {M : Nat → Nat → Int32} {R : Nat → Nat → Option Nat} {O : Int64} {c0 ci b o : Nat} (hC : gC c0 = (ci, b, o)) (h11 : 11 ≤ ci) (h15 : ci < 15) : gEnt aC ad M R O c0 = .inl (aC c0, gLen c0, .inr (.inr (.inr (.inr (fun j => (R c0 j).map ad))))) := by
  unfold gEnt gEk; rw [hC]; exact (if_neg (show ¬ ci < 8 by omega)).trans ((if_neg (show ¬ ci < 11 by omega)).trans (if_pos h15))
theorem gEnt_lng {aC : Nat → ClassId} {ad : Nat → Nat} {M : Nat → Nat → Int32} {R : Nat → Nat → Option Nat} {O : Int64} {c0 b o : Nat} (hC : gC c0 = (15, b, o)) : gEnt aC ad M R O c0 = .inl (aC c0, gLen c0, .inr (.inl (fun _ => O))) := by
  unfold gEnt gEk; rw [hC]; rfl
section GR
variable {p : Program} {l : Launch} {e : Env} {RR : Room} {s : State} {m : MethodId} {args : Array Value} {below : List Frame} {meth : Method} {c : Code} {H : Heap} {locs : List Loc} {cells slots : Nat} {Q : State → Prop}
variable {cc : ByteArray} {pc : Nat} {ls : Array Slot} {rest : List Value} {Γ : gX} {M : Nat → Nat → Int32} {R : Nat → Nat → Option Nat} {O : Int64} {H0 : Heap}
theorem g_get0 (hexec : p.tables.exec = Jvm.exec) (hb : c.code = cc) {own ref C : String} {T : u_T} {ci index : Nat} {Ts : List Cond} (hts : ∀ w ∈ Ts, w.before args s = true) (hin : ∀ w ∈ u_ws C T (gSz ci), w ∈ Ts) (hown : s.vm.findClass own = some m.cls) (hK : GK Γ s) (hG : GH Γ M R O H) {c0 b o : Nat} (hc0 : c0 ∈ gcs Γ) (hC : gC c0 = (ci, b, o)) (h8 : ci < 8) (hc : vwCl[ci]? = some (C, T, gSz ci)) (k : Nat) (hk : k < gSz ci) (hlink : (Cond.fieldLink own index ref (T k).2.1 (T k).2.2.1).before args s = true) (hsame : ∀ x, s.fieldFound? (T k).1 (T k).2.1 (T k).2.2.1 = some x → s.fieldFound? ref (T k).2.1 (T k).2.2.1 = some x) {v : Value} (hv : gFd ci c0 b o (gad Γ) M R k = v) (hdg : decode cc pc = .ok (.getfield index, 3))
    (kk : W p l e RR s m args below meth c H locs cells slots Q (F0 m (pc + 3) ls (v :: rest))) : W p l e RR s m args below meth c H locs cells slots Q (F0 m pc ls (.ref (gad Γ c0) :: rest)) := by
  obtain ⟨q, hq, -⟩ := gL_get (aC := Γ.2.1) (ad := gad Γ) (M := M) (R := R) (O := O) hc0
  refine va_get (D := Γ.1) (cl := vwCl) (ci := ci) (v := v) (C := C) (T := T) (N := gSz ci) (fs := (List.range (gSz ci)).map (gFd ci c0 b o (gad Γ) M R)) hexec hb hts hin hown hK.1 hG.1 q ?_ hc k hk hlink hsame ?_ hdg kk
  · rw [hq, gEnt_obj hC h8]
  · rw [gRange_get _ hk, hv]
theorem g_put0 (hexec : p.tables.exec = Jvm.exec) (hb : c.code = cc) {own ref C : String} {T : u_T} {ci index : Nat} {Ts : List Cond} (hts : ∀ w ∈ Ts, w.before args s = true) (hin : ∀ w ∈ u_ws C T (gSz ci), w ∈ Ts) (ty0 : Nat → FieldType) (hty : ∀ k, k < gSz ci → parseFieldDescriptor (T k).2.2.1 = some (ty0 k)) (hnm : ∀ a, a < gSz ci → ∀ b, b < gSz ci → a ≠ b → (T a).2.1 ≠ (T b).2.1) (hown : s.vm.findClass own = some m.cls) (hK : GK Γ s) (hG : GH Γ M R O H) (hS : va_S (gA Γ) H0 H locs) {c0 b o : Nat} (hc0 : c0 ∈ gcs Γ) (hC : gC c0 = (ci, b, o)) (h8 : ci < 8) (hc : vwCl[ci]? = some (C, T, gSz ci)) (k : Nat) (hk : k < gSz ci) (hlink : (Cond.fieldLink own index ref (T k).2.1 (T k).2.2.1).before args s = true) (hsame : ∀ x, s.fieldFound? (T k).1 (T k).2.1 (T k).2.2.1 = some x → s.fieldFound? ref (T k).2.1 (T k).2.2.1 = some x) (hr : gRf ci k = false) (hfin : (T k).2.2.2 = false) {ty : FieldType} {x : Int32} (hd : parseFieldDescriptor (T k).2.2.1 = some ty) (hn : narrow ty (.int x) = .int x) (hfit : fits ty (.int x) = true) (hdg : decode cc pc = .ok (.putfield index, 3))
    (kk : ∀ (H1 : Heap) (locs1 : List Loc), GH Γ (up2 M b (o + k) x) R O H1 → va_S (gA Γ) H0 H1 locs1 → W p l e RR s m args below meth c H1 locs1 cells slots Q (F0 m (pc + 3) ls rest)) : W p l e RR s m args below meth c H locs cells slots Q (F0 m pc ls (.int x :: .ref (gad Γ c0) :: rest)) := by
  obtain ⟨q, hq, hq2⟩ := gL_get (aC := Γ.2.1) (ad := gad Γ) (M := M) (R := R) (O := O) hc0
  have e1 : gEnt Γ.2.1 (gad Γ) (up2 M b (o + k) x) R O c0 = .inr (ci, ((List.range (gSz ci)).map (gFd ci c0 b o (gad Γ) M R)).set k (.int x)) := by
    rw [gEnt_obj hC h8, gMap_set (g := gFd ci c0 b o (gad Γ) (up2 M b (o + k) x) R)]
    · unfold gFd; rw [if_neg (by rw [hr]; decide), up2_at]
    · intro i hi
      unfold gFd
      rw [up2_off]
      omega
  have e2 := gL_set (M' := up2 M b (o + k) x) (R' := R) (O' := O) hG.2 hq2 (fun c' hne => gEnt_up hne hC h8 hk hr)
  rw [e1] at e2
  refine va_put (D := Γ.1) (cl := vwCl) (ci := ci) (v := .int x) (ty := ty) (C := C) (T := T) (N := gSz ci) (fs := (List.range (gSz ci)).map (gFd ci c0 b o (gad Γ) M R)) hexec hb hts hin ty0 hty hnm hown hK.1 hG.1 hG.2 hS q ?_ hc k hk hlink hsame hfin hd hn hfit (by rw [List.length_map, List.length_range]; exact hk) hdg (fun H1 locs1 hP hD hS1 => kk H1 locs1 ⟨?_, ?_⟩ hS1)
  · rw [hq, gEnt_obj hC h8]
  · rw [← e2]; exact hP
  · rw [← e2]; exact hD
/-- a final reference field, in a constructor -/
theorem g_putF (hexec : p.tables.exec = Jvm.exec) (hb : c.code = cc) {own ref C : String} {T : u_T} {ci index : Nat} {Ts : List Cond} (hts : ∀ w ∈ Ts, w.before args s = true) (hin : ∀ w ∈ u_ws C T (gSz ci), w ∈ Ts) (ty0 : Nat → FieldType) (hty : ∀ k, k < gSz ci → parseFieldDescriptor (T k).2.2.1 = some (ty0 k)) (hnm : ∀ a, a < gSz ci → ∀ b, b < gSz ci → a ≠ b → (T a).2.1 ≠ (T b).2.1) (hown : s.vm.findClass own = some m.cls) (hK : GK Γ s) (hG : GH Γ M R O H) (hS : va_S (gA Γ) H0 H locs) {c0 c1 b o : Nat} (hc0 : c0 ∈ gcs Γ) (hC : gC c0 = (ci, b, o)) (h8 : ci < 8) (hc : vwCl[ci]? = some (C, T, gSz ci)) (k : Nat) (hk : k < gSz ci) (hlink : (Cond.fieldLink own index ref (T k).2.1 (T k).2.2.1).before args s = true) (hsame : ∀ x, s.fieldFound? (T k).1 (T k).2.1 (T k).2.2.1 = some x → s.fieldFound? ref (T k).2.1 (T k).2.2.1 = some x) (hr : gRf ci k = true) (hfin : (T k).2.2.2 = true) (hin2 : meth.name = "<init>") (hdecl : (T k).1 = own) {ty : FieldType} (hd : parseFieldDescriptor (T k).2.2.1 = some ty) (hn : narrow ty (.ref (gad Γ c1)) = .ref (gad Γ c1)) (hfit : fits ty (.ref (gad Γ c1)) = true) (hdg : decode cc pc = .ok (.putfield index, 3))
    (kk : ∀ (H1 : Heap) (locs1 : List Loc), GH Γ M (up2R R c0 k (some c1)) O H1 → va_S (gA Γ) H0 H1 locs1 → W p l e RR s m args below meth c H1 locs1 cells slots Q (F0 m (pc + 3) ls rest)) : W p l e RR s m args below meth c H locs cells slots Q (F0 m pc ls (.ref (gad Γ c1) :: .ref (gad Γ c0) :: rest)) := by
  obtain ⟨q, hq, hq2⟩ := gL_get (aC := Γ.2.1) (ad := gad Γ) (M := M) (R := R) (O := O) hc0
  have e1 : gEnt Γ.2.1 (gad Γ) M (up2R R c0 k (some c1)) O c0 = .inr (ci, ((List.range (gSz ci)).map (gFd ci c0 b o (gad Γ) M R)).set k (.ref (gad Γ c1))) := by
    rw [gEnt_obj hC h8, gMap_set (g := gFd ci c0 b o (gad Γ) M (up2R R c0 k (some c1)))]
    · unfold gFd up2R; rw [if_pos hr, va_up_eq, va_up_eq]; rfl
    · intro i hi
      unfold gFd up2R
      rw [va_up_eq, va_up_ne _ _ hi]
  have e2 := gL_set (M' := M) (R' := up2R R c0 k (some c1)) (O' := O) hG.2 hq2 (fun c' hne => gEnt_upR hne)
  rw [e1] at e2
  refine va_putF (D := Γ.1) (cl := vwCl) (ci := ci) (v := .ref (gad Γ c1)) (ty := ty) (C := C) (T := T) (N := gSz ci) (fs := (List.range (gSz ci)).map (gFd ci c0 b o (gad Γ) M R)) hexec hb hts hin ty0 hty hnm hown hK.1 hG.1 hG.2 hS q ?_ hc k hk hlink hsame hfin hin2 hdecl hd hn hfit (by rw [List.length_map, List.length_range]; exact hk) hdg (fun H1 locs1 hP hD hS1 => kk H1 locs1 ⟨?_, ?_⟩ hS1)
  · rw [hq, gEnt_obj hC h8]
  · rw [← e2]; exact hP
  · rw [← e2]; exact hD
theorem g_aald (hexec : p.tables.exec = Jvm.exec) (hb : c.code = cc) (hK : GK Γ s) (hG : GH Γ M R O H) {c0 c1 ci b o n : Nat} {Cn : String} (hc0 : c0 ∈ gcs Γ) (hC : gC c0 = (ci, b, o)) (h11 : 11 ≤ ci) (h15 : ci < 15) (hty : gTyk ci = some (.object Cn)) (hn : gLen c0 = n) {i : Int32} {j : Nat} (hj : i.toNatClampNeg = j) (hin : vp_in i n) (hR : R c0 j = some c1) (hdg : decode cc pc = .ok (.aaload, 1))
    (kk : W p l e RR s m args below meth c H locs cells slots Q (F0 m (pc + 1) ls (.ref (gad Γ c1) :: rest))) : W p l e RR s m args below meth c H locs cells slots Q (F0 m pc ls (.int i :: .ref (gad Γ c0) :: rest)) := by
  subst hj; subst hn
  obtain ⟨q, hq, -⟩ := gL_get (aC := Γ.2.1) (ad := gad Γ) (M := M) (R := R) (O := O) hc0
  obtain ⟨t, ht⟩ := gT_get (aC := Γ.2.1) (ty := .object Cn) hc0 (by rw [hC]; exact hty)
  refine va_aldq (D := Γ.1) (cl := vwCl) (cA := Γ.2.1 c0) (f := fun j => (R c0 j).map (gad Γ)) hexec hb hK.1 hG.1 q t ?_ ht hin hdg ?_
  · rw [hq, gEnt_ref hC h11 h15]
  · show W p l e RR s m args below meth c H locs cells slots Q (F0 m (pc + 1) ls (va_rf ((R c0 i.toNatClampNeg).map (gad Γ)) :: rest))
    rw [hR]
    exact kk
theorem g_aast (hexec : p.tables.exec = Jvm.exec) (hb : c.code = cc) (hK : GK Γ s) (hG : GH Γ M R O H) (hS : va_S (gA Γ) H0 H locs) {c0 c1 ci b o n ck b1 o1 : Nat} {Cn : String} {T : u_T} (hc0 : c0 ∈ gcs Γ) (hC : gC c0 = (ci, b, o)) (h11 : 11 ≤ ci) (h15 : ci < 15) (hty : gTyk ci = some (.object Cn)) (hc1 : c1 ∈ gcs Γ) (hC1 : gC c1 = (ck, b1, o1)) (hk8 : ck < 8) (hcl : vwCl[ck]? = some (Cn, T, gSz ck)) (hn : gLen c0 = n) {i : Int32} {j : Nat} (hj : i.toNatClampNeg = j) (hin : vp_in i n) (hdg : decode cc pc = .ok (.aastore, 1))
    (kk : ∀ (H1 : Heap) (locs1 : List Loc), GH Γ M (up2R R c0 j (some c1)) O H1 → va_S (gA Γ) H0 H1 locs1 → W p l e RR s m args below meth c H1 locs1 cells slots Q (F0 m (pc + 1) ls rest)) : W p l e RR s m args below meth c H locs cells slots Q (F0 m pc ls (.ref (gad Γ c1) :: .int i :: .ref (gad Γ c0) :: rest)) := by
  subst hj; subst hn
  obtain ⟨q, hq, hq2⟩ := gL_get (aC := Γ.2.1) (ad := gad Γ) (M := M) (R := R) (O := O) hc0
  obtain ⟨q1, hq1, -⟩ := gL_get (aC := Γ.2.1) (ad := gad Γ) (M := M) (R := R) (O := O) hc1
  obtain ⟨t, ht⟩ := gT_get (aC := Γ.2.1) (ty := .object Cn) hc0 (by rw [hC]; exact hty)
  have e1 : gEnt Γ.2.1 (gad Γ) M (up2R R c0 i.toNatClampNeg (some c1)) O c0 = .inl (Γ.2.1 c0, gLen c0, .inr (.inr (.inr (.inr (va_up (fun j => (R c0 j).map (gad Γ)) i.toNatClampNeg (some (gad Γ c1))))))) := by
    rw [gEnt_ref hC h11 h15]
    congr 7
    funext j
    unfold up2R
    rw [va_up_eq]
    unfold va_up
    by_cases h : j = i.toNatClampNeg
    · rw [if_pos h, if_pos h]; rfl
    · rw [if_neg h, if_neg h]
  have e2 := gL_set (M' := M) (R' := up2R R c0 i.toNatClampNeg (some c1)) (O' := O) hG.2 hq2 (fun c' hne => gEnt_upR hne)
  rw [e1] at e2
  refine va_astq (D := Γ.1) (cl := vwCl) (cA := Γ.2.1 c0) (r := (Cn, T, gSz ck)) (f := fun j => (R c0 j).map (gad Γ)) (vs := (List.range (gSz ck)).map (gFd ck c1 b1 o1 (gad Γ) M R)) hexec hb hK.1 hG.1 hG.2 hS q t q1 ck ?_ ht ?_ hcl hin hdg (fun H1 locs1 hP hD hS1 => kk H1 locs1 ⟨?_, ?_⟩ hS1)
  · rw [hq, gEnt_ref hC h11 h15]
  · rw [hq1, gEnt_obj hC1 hk8]
  · rw [← e2]; exact hP
  · rw [← e2]; exact hD
theorem g_iald (hexec : p.tables.exec = Jvm.exec) (hb : c.code = cc) (hK : GK Γ s) (hG : GH Γ M R O H) {c0 b o n : Nat} (hc0 : c0 ∈ gcs Γ) (hC : gC c0 = (9, b, o)) (hn : gLen c0 = n) {i v : Int32} {j : Nat} (hj : i.toNatClampNeg = j) (hin : vp_in i n) (hv : M b j = v) (hdg : decode cc pc = .ok (.iaload, 1))
    (kk : W p l e RR s m args below meth c H locs cells slots Q (F0 m (pc + 1) ls (.int v :: rest))) : W p l e RR s m args below meth c H locs cells slots Q (F0 m pc ls (.int i :: .ref (gad Γ c0) :: rest)) := by
  subst hj; subst hn; subst hv
  obtain ⟨q, hq, -⟩ := gL_get (aC := Γ.2.1) (ad := gad Γ) (M := M) (R := R) (O := O) hc0
  obtain ⟨t, ht⟩ := gT_get (aC := Γ.2.1) (ty := .int) hc0 (by rw [hC]; rfl)
  exact va_iald (D := Γ.1) (cl := vwCl) (cA := Γ.2.1 c0) (f := M b) hexec hb hK.1 hG.1 q t (by rw [hq, gEnt_int hC (by decide) (by decide)]) ht hin hdg kk
theorem g_zald (hexec : p.tables.exec = Jvm.exec) (hb : c.code = cc) (hK : GK Γ s) (hG : GH Γ M R O H) {c0 b o n : Nat} (hc0 : c0 ∈ gcs Γ) (hC : gC c0 = (10, b, o)) (hn : gLen c0 = n) {i v : Int32} {j : Nat} (hj : i.toNatClampNeg = j) (hin : vp_in i n) (hv : M b j = v) (hdg : decode cc pc = .ok (.baload, 1))
    (kk : W p l e RR s m args below meth c H locs cells slots Q (F0 m (pc + 1) ls (.int v :: rest))) : W p l e RR s m args below meth c H locs cells slots Q (F0 m pc ls (.int i :: .ref (gad Γ c0) :: rest)) := by
  subst hj; subst hn; subst hv
  obtain ⟨q, hq, -⟩ := gL_get (aC := Γ.2.1) (ad := gad Γ) (M := M) (R := R) (O := O) hc0
  obtain ⟨t, ht⟩ := gT_get (aC := Γ.2.1) (ty := .boolean) hc0 (by rw [hC]; rfl)
  exact va_zald (D := Γ.1) (cl := vwCl) (cA := Γ.2.1 c0) (f := M b) hexec hb hK.1 hG.1 q t (by rw [hq, gEnt_int hC (by decide) (by decide)]) ht hin hdg kk
theorem g_cald (hexec : p.tables.exec = Jvm.exec) (hb : c.code = cc) (hK : GK Γ s) (hG : GH Γ M R O H) {c0 b o n : Nat} (hc0 : c0 ∈ gcs Γ) (hC : gC c0 = (8, b, o)) (hn : gLen c0 = n) {i v : Int32} {j : Nat} (hj : i.toNatClampNeg = j) (hin : vp_in i n) (hv : M b j = v) (hdg : decode cc pc = .ok (.caload, 1))
    (kk : W p l e RR s m args below meth c H locs cells slots Q (F0 m (pc + 1) ls (.int v :: rest))) : W p l e RR s m args below meth c H locs cells slots Q (F0 m pc ls (.int i :: .ref (gad Γ c0) :: rest)) := by
  subst hj; subst hn; subst hv
  obtain ⟨q, hq, -⟩ := gL_get (aC := Γ.2.1) (ad := gad Γ) (M := M) (R := R) (O := O) hc0
  obtain ⟨t, ht⟩ := gT_get (aC := Γ.2.1) (ty := .char) hc0 (by rw [hC]; rfl)
  exact va_cald (D := Γ.1) (cl := vwCl) (cA := Γ.2.1 c0) (f := M b) hexec hb hK.1 hG.1 q t (by rw [hq, gEnt_int hC (by decide) (by decide)]) ht hin hdg kk
theorem gEnt_upE {aC : Nat → ClassId} {ad : Nat → Nat} {M : Nat → Nat → Int32} {R : Nat → Nat → Option Nat} {O : Int64} {c0 ci b o j : Nat} {x : Int32} (hC : gC c0 = (ci, b, o)) (h8 : 8 ≤ ci) (h11 : ci < 11) : gEnt aC ad (up2 M b j x) R O c0 = .inl (aC c0, gLen c0, .inl (upd (M b) j x)) := by
  rw [gEnt_int hC h8 h11]; unfold up2; rw [va_up_eq]
theorem g_iast (hexec : p.tables.exec = Jvm.exec) (hb : c.code = cc) (hK : GK Γ s) (hG : GH Γ M R O H) (hS : va_S (gA Γ) H0 H locs) {c0 b o n : Nat} (hc0 : c0 ∈ gcs Γ) (hC : gC c0 = (9, b, o)) (hn : gLen c0 = n) {i x : Int32} {j : Nat} (hj : i.toNatClampNeg = j) (hin : vp_in i n) (hdg : decode cc pc = .ok (.iastore, 1))
    (kk : ∀ (H1 : Heap) (locs1 : List Loc), GH Γ (up2 M b j x) R O H1 → va_S (gA Γ) H0 H1 locs1 → W p l e RR s m args below meth c H1 locs1 cells slots Q (F0 m (pc + 1) ls rest)) : W p l e RR s m args below meth c H locs cells slots Q (F0 m pc ls (.int x :: .int i :: .ref (gad Γ c0) :: rest)) := by
  subst hj; subst hn
  obtain ⟨q, hq, hq2⟩ := gL_get (aC := Γ.2.1) (ad := gad Γ) (M := M) (R := R) (O := O) hc0
  obtain ⟨t, ht⟩ := gT_get (aC := Γ.2.1) (ty := .int) hc0 (by rw [hC]; rfl)
  have e2 := gL_set (M' := up2 M b i.toNatClampNeg x) (R' := R) (O' := O) hG.2 hq2 (fun c' hne => gEnt_upA hne hC (by decide) (by decide))
  rw [gEnt_upE hC (by decide) (by decide)] at e2
  refine va_iast (D := Γ.1) (cl := vwCl) (cA := Γ.2.1 c0) (f := M b) hexec hb hK.1 hG.1 hG.2 hS q t (by rw [hq, gEnt_int hC (by decide) (by decide)]) ht hin hdg (fun H1 locs1 hP hD hS1 => kk H1 locs1 ⟨?_, ?_⟩ hS1)
  · rw [← e2]; exact hP
  · rw [← e2]; exact hD
theorem g_zast (hexec : p.tables.exec = Jvm.exec) (hb : c.code = cc) (hK : GK Γ s) (hG : GH Γ M R O H) (hS : va_S (gA Γ) H0 H locs) {c0 b o n : Nat} (hc0 : c0 ∈ gcs Γ) (hC : gC c0 = (10, b, o)) (hn : gLen c0 = n) {i x y : Int32} {j : Nat} (hj : i.toNatClampNeg = j) (hin : vp_in i n) (hy : vp_nar .boolean x = y) (hdg : decode cc pc = .ok (.bastore, 1))
    (kk : ∀ (H1 : Heap) (locs1 : List Loc), GH Γ (up2 M b j y) R O H1 → va_S (gA Γ) H0 H1 locs1 → W p l e RR s m args below meth c H1 locs1 cells slots Q (F0 m (pc + 1) ls rest)) : W p l e RR s m args below meth c H locs cells slots Q (F0 m pc ls (.int x :: .int i :: .ref (gad Γ c0) :: rest)) := by
  subst hj; subst hn; subst hy
  obtain ⟨q, hq, hq2⟩ := gL_get (aC := Γ.2.1) (ad := gad Γ) (M := M) (R := R) (O := O) hc0
  obtain ⟨t, ht⟩ := gT_get (aC := Γ.2.1) (ty := .boolean) hc0 (by rw [hC]; rfl)
  have e2 := gL_set (M' := up2 M b i.toNatClampNeg (vp_nar .boolean x)) (R' := R) (O' := O) hG.2 hq2 (fun c' hne => gEnt_upA hne hC (by decide) (by decide))
  rw [gEnt_upE hC (by decide) (by decide)] at e2
  refine va_zast (D := Γ.1) (cl := vwCl) (cA := Γ.2.1 c0) (f := M b) hexec hb hK.1 hG.1 hG.2 hS q t (by rw [hq, gEnt_int hC (by decide) (by decide)]) ht hin hdg (fun H1 locs1 hP hD hS1 => kk H1 locs1 ⟨?_, ?_⟩ hS1)
  · rw [← e2]; exact hP
  · rw [← e2]; exact hD
theorem g_cast (hexec : p.tables.exec = Jvm.exec) (hb : c.code = cc) (hK : GK Γ s) (hG : GH Γ M R O H) (hS : va_S (gA Γ) H0 H locs) {c0 b o n : Nat} (hc0 : c0 ∈ gcs Γ) (hC : gC c0 = (8, b, o)) (hn : gLen c0 = n) {i x y : Int32} {j : Nat} (hj : i.toNatClampNeg = j) (hin : vp_in i n) (hy : vp_nar .char x = y) (hdg : decode cc pc = .ok (.castore, 1))
    (kk : ∀ (H1 : Heap) (locs1 : List Loc), GH Γ (up2 M b j y) R O H1 → va_S (gA Γ) H0 H1 locs1 → W p l e RR s m args below meth c H1 locs1 cells slots Q (F0 m (pc + 1) ls rest)) : W p l e RR s m args below meth c H locs cells slots Q (F0 m pc ls (.int x :: .int i :: .ref (gad Γ c0) :: rest)) := by
  subst hj; subst hn; subst hy
  obtain ⟨q, hq, hq2⟩ := gL_get (aC := Γ.2.1) (ad := gad Γ) (M := M) (R := R) (O := O) hc0
  obtain ⟨t, ht⟩ := gT_get (aC := Γ.2.1) (ty := .char) hc0 (by rw [hC]; rfl)
  have e2 := gL_set (M' := up2 M b i.toNatClampNeg (vp_nar .char x)) (R' := R) (O' := O) hG.2 hq2 (fun c' hne => gEnt_upA hne hC (by decide) (by decide))
  rw [gEnt_upE hC (by decide) (by decide)] at e2
  refine va_cast (D := Γ.1) (cl := vwCl) (cA := Γ.2.1 c0) (f := M b) hexec hb hK.1 hG.1 hG.2 hS q t (by rw [hq, gEnt_int hC (by decide) (by decide)]) ht hin hdg (fun H1 locs1 hP hD hS1 => kk H1 locs1 ⟨?_, ?_⟩ hS1)
  · rw [← e2]; exact hP
  · rw [← e2]; exact hD
theorem g_alen (hexec : p.tables.exec = Jvm.exec) (hb : c.code = cc) (hK : GK Γ s) (hG : GH Γ M R O H) {c0 ci b o n : Nat} (hc0 : c0 ∈ gcs Γ) (hC : gC c0 = (ci, b, o)) (h11 : 11 ≤ ci) (h15 : ci < 15) (hn : gLen c0 = n) (hdg : decode cc pc = .ok (.arraylength, 1))
    (kk : W p l e RR s m args below meth c H locs cells slots Q (F0 m (pc + 1) ls (.int (nI n) :: rest))) : W p l e RR s m args below meth c H locs cells slots Q (F0 m pc ls (.ref (gad Γ c0) :: rest)) := by
  subst hn
  obtain ⟨q, hq, -⟩ := gL_get (aC := Γ.2.1) (ad := gad Γ) (M := M) (R := R) (O := O) hc0
  obtain ⟨ty, hty⟩ : ∃ ty, gTyk ci = some ty := by
    rcases (show ci = 11 ∨ ci = 12 ∨ ci = 13 ∨ ci = 14 by omega) with h | h | h | h <;> subst h <;> exact ⟨_, rfl⟩
  obtain ⟨t, ht⟩ := gT_get (aC := Γ.2.1) (ty := ty) hc0 (by rw [hC]; exact hty)
  exact va_alen (D := Γ.1) (cl := vwCl) hexec hb hK.1 hG.1 q t (hq.trans (congrArg (fun z => some (gad Γ c0, z)) (gEnt_ref hC h11 h15))) ht (v := nI (gLen c0)) rfl hdg kk
end GR
