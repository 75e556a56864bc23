/-! NEW CELLS. Laid by gen/p24.py. -/
def gadd (Γ : gX) (c q : Nat) (cA : ClassId) : gX := (Γ.1, va_up Γ.2.1 c cA, va_up (gad Γ) c q, Γ.2.2.2.1, gcs Γ ++ [c])
/-- the world with new cells -/
def Ext (Γ Γ' : gX) (P : Nat → Prop) : Prop := Γ'.1 = Γ.1 ∧ Γ'.2.2.2.1 = Γ.2.2.2.1 ∧ (∀ c, c ∈ gcs Γ' ↔ c ∈ gcs Γ ∨ P c) ∧ ∀ c ∈ gcs Γ, gad Γ' c = gad Γ c
theorem Ext.rf {Γ : gX} {P : Nat → Prop} (h : ∀ c, ¬ P c) : Ext Γ Γ P := ⟨rfl, rfl, fun c => ⟨Or.inl, fun q => q.resolve_right (h c)⟩, fun _ _ => rfl⟩
theorem Ext.mem {Γ Γ' : gX} {P : Nat → Prop} (h : Ext Γ Γ' P) {c : Nat} (hc : c ∈ gcs Γ) : c ∈ gcs Γ' := (h.2.2.1 c).mpr (Or.inl hc)
theorem Ext.new {Γ Γ' : gX} {P : Nat → Prop} (h : Ext Γ Γ' P) {c : Nat} (hc : P c) : c ∈ gcs Γ' := (h.2.2.1 c).mpr (Or.inr hc)
theorem Ext.out {Γ Γ' : gX} {P : Nat → Prop} (h : Ext Γ Γ' P) {c : Nat} (hc : c ∉ gcs Γ) (hp : ¬ P c) : c ∉ gcs Γ' := fun q => ((h.2.2.1 c).mp q).elim hc hp
theorem Ext.trans {Γ Γ1 Γ2 : gX} {P1 P2 P : Nat → Prop} (h1 : Ext Γ Γ1 P1) (h2 : Ext Γ1 Γ2 P2) (hab : ∀ c, P c ↔ P1 c ∨ P2 c) : Ext Γ Γ2 P := ⟨h2.1.trans h1.1, h2.2.1.trans h1.2.1, fun c => by
  rw [h2.2.2.1, h1.2.2.1, hab, or_assoc], fun c hc => (h2.2.2.2 c (h1.mem hc)).trans (h1.2.2.2 c hc)⟩
theorem Ext.eqA {Γ Γ' : gX} {P : Nat → Prop} (h : Ext Γ Γ' P) : gA Γ' = gA Γ := by unfold gA; rw [h.2.1]
theorem Ext.toZ {Γ Γ' : gX} {P : Nat → Prop} (h : Ext Γ Γ' P) {U : State} {H : Heap} (hZ : GZ Γ U H) : GZ Γ' U H := by
  unfold GZ at hZ ⊢
  rw [h.eqA]
  exact hZ
theorem Ext.add {Γ : gX} {c q : Nat} {cA : ClassId} (hc : c ∉ gcs Γ) : Ext Γ (gadd Γ c q cA) (fun d => d = c) := ⟨rfl, rfl, fun d => by
  show d ∈ gcs Γ ++ [c] ↔ _
  rw [List.mem_append, List.mem_singleton], fun d hd => va_up_ne _ _ (fun e => hc (e ▸ hd))⟩
/-- every reference names a cell that is there -/
def RC (cs : List Nat) (R : Nat → Nat → Option Nat) : Prop := ∀ c k d, R c k = some d → d ∈ cs
theorem RC.mono {cs cs' : List Nat} {R : Nat → Nat → Option Nat} (h : RC cs R) (hs : ∀ c ∈ cs, c ∈ cs') : RC cs' R := fun c k d e => hs d (h c k d e)
theorem RC.up {cs : List Nat} {R : Nat → Nat → Option Nat} (h : RC cs R) {c k d : Nat} (hd : d ∈ cs) : RC cs (up2R R c k (some d)) := by
  intro c' k' d' e
  unfold up2R va_up at e
  by_cases h1 : c' = c
  · rw [if_pos h1] at e
    by_cases h2 : k' = k
    · have e : (if k' = k then some d else R c k') = some d' := e
      rw [if_pos h2] at e
      cases e
      exact hd
    · have e : (if k' = k then some d else R c k') = some d' := e
      rw [if_neg h2] at e
      exact h c k' d' e
  · rw [if_neg h1] at e
    exact h c' k' d' e
theorem gL_add {aC : Nat → ClassId} {ad : Nat → Nat} {M : Nat → Nat → Int32} {R : Nat → Nat → Option Nat} {O : Int64} {cs : List Nat} {c q : Nat} {cA : ClassId} (hc : c ∉ cs) (hR : RC cs R) : gL (va_up aC c cA) (va_up ad c q) M R O (cs ++ [c]) = gL aC ad M R O cs ++ [(q, gEnt (va_up aC c cA) (va_up ad c q) M R O c)] := by
  unfold gL
  rw [List.map_append]
  congr 1
  · refine List.map_congr_left (fun c' h => ?_)
    have hne : c' ≠ c := fun e => hc (e ▸ h)
    have e1 : va_up ad c q c' = ad c' := va_up_ne _ _ hne
    have e2 : va_up aC c cA c' = aC c' := va_up_ne _ _ hne
    have e3 : ∀ k, (R c' k).map (va_up ad c q) = (R c' k).map ad := fun k => by
      cases h9 : R c' k with
      | none => rfl
      | some d =>
        show some (va_up ad c q d) = some (ad d)
        have hd : d ≠ c := fun e => hc (e ▸ hR c' k d h9)
        rw [va_up_ne _ _ hd]
    have e4 : gFd (gC c').1 c' (gC c').2.1 (gC c').2.2 (va_up ad c q) M R = gFd (gC c').1 c' (gC c').2.1 (gC c').2.2 ad M R := by
      funext k
      unfold gFd
      rw [e3]
    have e5 : (fun j => (R c' j).map (va_up ad c q)) = (fun j => (R c' j).map ad) := funext e3
    rw [e1]
    unfold gEnt gEk
    rw [e2, e4, e5]
  · show [(va_up ad c q c, _)] = _
    rw [va_up_eq]
theorem fm_congr {α β : Type} {f g : α → Option β} : ∀ {l : List α}, (∀ x ∈ l, f x = g x) → l.filterMap f = l.filterMap g
  | [], _ => rfl
  | a :: l, h => by
    rw [List.filterMap_cons, List.filterMap_cons, h a List.mem_cons_self, fm_congr (fun x hx => h x (List.mem_cons_of_mem _ hx))]
theorem gT_old {aC : Nat → ClassId} {cs : List Nat} {c : Nat} {cA : ClassId} (hc : c ∉ cs) : gT (va_up aC c cA) cs = gT aC cs := by
  unfold gT
  refine fm_congr (fun c' h => ?_)
  have hd : c' ≠ c := fun e => hc (e ▸ h)
  rw [va_up_ne _ _ hd]
theorem gT_obj {aC : Nat → ClassId} {cs : List Nat} {c : Nat} {cA : ClassId} (hc : c ∉ cs) (ht : gTyk (gC c).1 = none) : gT (va_up aC c cA) (cs ++ [c]) = gT aC cs := by
  rw [← gT_old (cA := cA) hc]
  unfold gT
  rw [List.filterMap_append, List.filterMap_cons, ht]
  simp
theorem gT_arr {aC : Nat → ClassId} {cs : List Nat} {c : Nat} {cA : ClassId} {ty : FieldType} (hc : c ∉ cs) (ht : gTyk (gC c).1 = some ty) : gT (va_up aC c cA) (cs ++ [c]) = gT aC cs ++ [(cA, ty)] := by
  rw [← gT_old (cA := cA) hc]
  unfold gT
  rw [List.filterMap_append, List.filterMap_cons, ht]
  simp [va_up]
def GAO (U : State) : Prop := va_AO RX3 U ∧ va_AO RX1 U ∧ va_AO RX5 U ∧ va_AO RX2 U
theorem GAO.moved {u U : State} (hv : u.vm.Alike U.vm) (h : GAO u) : GAO U := ⟨va_AO.moved hv h.1, va_AO.moved hv h.2.1, va_AO.moved hv h.2.2.1, va_AO.moved hv h.2.2.2⟩
theorem vpV_map {n : Nat} (f : Nat → Value) {k : Nat} (h : k < n) : vp_V ((List.range n).map f) k = f k := by
  unfold vp_V
  rw [List.getD_eq_getElem?_getD, gRange_get f h]
  rfl
section GNew
variable {p : Program} {l : Launch} {e : Env} {RR : Room} {s : State} {m : MethodId} {args : Array Value} {below : List Frame} {meth : Method} {c : Code} {H : Heap} {locs : List Loc} {cells slots : Nat} {Q : State → Prop}
variable {cc : ByteArray} {pc : Nat} {ls : Array Slot} {rest : List Value} {Γ : gX} {M : Nat → Nat → Int32} {R : Nat → Nat → Option Nat} {O : Int64} {H0 : Heap}
theorem g_newO (hexec : p.tables.exec = Jvm.exec) (hb : c.code = cc) {own C : String} {T : u_T} {ci index : Nat} {Ts : List Cond} (hts : ∀ w ∈ Ts, w.before args s = true) (hin : ∀ w ∈ u_ws C T (gSz ci), w ∈ Ts) (ty0 : Nat → FieldType) (hty : ∀ k, k < gSz ci → parseFieldDescriptor (T k).2.2.1 = some (ty0 k)) (hown : s.vm.findClass own = some m.cls) (hcl : (Cond.classLink own index C).before args s = true) (hinst : (Cond.instantiable C (gSz ci)).before args s = true) (hini : (Cond.initialized C).before args s = true) (hK : GK Γ s) (hG : GH Γ M R O H) (hS : va_S (gA Γ) H0 H locs) (hB : ∀ q : Nat, H0.size ≤ q → gA Γ q) {c0 b o : Nat} (hC : gC c0 = (ci, b, o)) (h8 : ci < 8) (hc : vwCl[ci]? = some (C, T, gSz ci)) (hn : c0 ∉ gcs Γ) (hR : RC (gcs Γ) R) (hdef : ∀ j, j < gSz ci → defaultValue (ty0 j) = if gRf ci j = true then .null else .int 0) (hM0 : ∀ j, j < gSz ci → gRf ci j = false → M b (o + j) = 0) (hR0 : ∀ j, R c0 j = none) (hcells : cells + 1 ≤ RR.cells) (hslots : slots + gSz ci ≤ RR.slots) (hdg : decode cc pc = .ok (.new index, 3))
    (kk : ∀ (Γ1 : gX) (H1 : Heap), Ext Γ Γ1 (fun d => d = c0) → GH Γ1 M R O H1 → GK Γ1 s → RC (gcs Γ1) R → va_S (gA Γ1) H0 H1 locs → W p l e RR s m args below meth c H1 locs (cells + 1) (slots + gSz ci) Q (F0 m (pc + 3) ls (.ref (gad Γ1 c0) :: rest))) : W p l e RR s m args below meth c H locs cells slots Q (F0 m pc ls rest) := by
  have hf : ∀ (ad : Nat → Nat) j, j < gSz ci → gFd ci c0 b o ad M R j = if gRf ci j = true then .null else .int 0 := fun ad j hj => by
    unfold gFd
    by_cases q : gRf ci j = true
    · rw [if_pos q, if_pos q, hR0]; rfl
    · rw [if_neg q, if_neg q, hM0 j hj (by simpa using q)]
  refine va_new (ci := ci) (fs := (List.range (gSz ci)).map (gFd ci c0 b o (gad Γ) M R)) (C := C) (T := T) (N := gSz ci) hexec hb hts hin ty0 hty hown hcl hinst hini hK.1 hG.1 hG.2 hS hB hc (fun j hj => by rw [vpV_map _ hj, hf _ j hj]; exact hdef j hj) hcells hslots hdg (fun q H1 hP hD hS1 => ?_)
  have hL : gL (gadd Γ c0 q 0).2.1 (gad (gadd Γ c0 q 0)) M R O (gcs (gadd Γ c0 q 0)) = gL Γ.2.1 (gad Γ) M R O (gcs Γ) ++ [(q, .inr (ci, (List.range (gSz ci)).map (gFd ci c0 b o (gad Γ) M R)))] := by
    refine (gL_add (q := q) (cA := 0) hn hR).trans ?_
    have e9 : (List.range (gSz ci)).map (gFd ci c0 b o (va_up (gad Γ) c0 q) M R) = (List.range (gSz ci)).map (gFd ci c0 b o (gad Γ) M R) := List.map_congr_left (fun j hj => by rw [hf _ j (List.mem_range.mp hj), hf _ j (List.mem_range.mp hj)])
    rw [gEnt_obj hC h8, e9]
  have k := kk (gadd Γ c0 q 0) H1 (Ext.add hn) ⟨by rw [hL]; exact hP, by rw [hL]; exact hD⟩ ⟨?_, hK.2⟩ (hR.mono (fun _ h => List.mem_append_left _ h)) hS1
  · rw [show gad (gadd Γ c0 q 0) c0 = q from va_up_eq _ _ _] at k
    exact k
  · show va_K Γ.1 vwCl (gT (va_up Γ.2.1 c0 0) (gcs Γ ++ [c0])) s
    rw [gT_obj hn (by
      rw [hC]
      show gTyk ci = none
      have : ∀ i, i < 8 → gTyk i = none := by decide
      exact this ci h8)]
    exact hK.1
theorem g_newA (hexec : p.tables.exec = Jvm.exec) (hb : c.code = cc) {atype : ArrayType} (harr : (Cond.arrayClass (newarray.typeOf atype)).before args s = true) {ty : FieldType} (hty : newarray.typeOf atype = ty) (hdf : defaultValue ty = .int 0) (hK : GK Γ s) (hG : GH Γ M R O H) (hS : va_S (gA Γ) H0 H locs) (hB : ∀ q : Nat, H0.size ≤ q → gA Γ q) {c0 ci b o N : Nat} (hC : gC c0 = (ci, b, o)) (h8 : 8 ≤ ci) (h11 : ci < 11) (htk : gTyk ci = some ty) (hlen : gLen c0 = N) (hn : c0 ∉ gcs Γ) (hR : RC (gcs Γ) R) (hM0 : M b = fun _ => 0) {n : Int32} (hneg : ¬ n < 0) (hN : n.toNatClampNeg = N) (hbytes : N * componentBytes ty ≤ 536870912) (hcells : cells + 1 ≤ RR.cells) (hslots : slots + N ≤ RR.slots) (hdg : decode cc pc = .ok (.newarray atype, 2))
    (kk : ∀ (Γ1 : gX) (H1 : Heap), Ext Γ Γ1 (fun d => d = c0) → GH Γ1 M R O H1 → GK Γ1 s → RC (gcs Γ1) R → va_S (gA Γ1) H0 H1 locs → W p l e RR s m args below meth c H1 locs (cells + 1) (slots + N) Q (F0 m (pc + 2) ls (.ref (gad Γ1 c0) :: rest))) : W p l e RR s m args below meth c H locs cells slots Q (F0 m pc ls (.int n :: rest)) := by
  refine va_newa (a0 := (N, .inl (fun _ => 0))) hexec hb harr hty hK.1 hG.1 hG.2 hS hB (fun cA => by rw [hdf]; rfl) hneg hN hbytes hcells hslots hdg (fun q cA H1 hK1 hP hD hS1 => ?_)
  have hL : gL (gadd Γ c0 q cA).2.1 (gad (gadd Γ c0 q cA)) M R O (gcs (gadd Γ c0 q cA)) = gL Γ.2.1 (gad Γ) M R O (gcs Γ) ++ [(q, .inl (cA, (N, .inl (fun _ => 0))))] := by
    refine (gL_add (q := q) (cA := cA) hn hR).trans ?_
    rw [gEnt_int hC h8 h11, va_up_eq, hlen, hM0]
  have k := kk (gadd Γ c0 q cA) H1 (Ext.add hn) ⟨by rw [hL]; exact hP, by rw [hL]; exact hD⟩ ⟨?_, hK.2⟩ (hR.mono (fun _ h => List.mem_append_left _ h)) hS1
  · rw [show gad (gadd Γ c0 q cA) c0 = q from va_up_eq _ _ _] at k
    exact k
  · show va_K Γ.1 vwCl (gT (va_up Γ.2.1 c0 cA) (gcs Γ ++ [c0])) s
    rw [gT_arr hn (by rw [hC]; exact htk)]
    exact hK1
theorem g_newR (hexec : p.tables.exec = Jvm.exec) (hb : c.code = cc) {own C : String} {index : Nat} (hown : s.vm.findClass own = some m.cls) (hclink : (Cond.classLink own index C).before args s = true) (hover : va_AO C s) (hK : GK Γ s) (hG : GH Γ M R O H) (hS : va_S (gA Γ) H0 H locs) (hB : ∀ q : Nat, H0.size ≤ q → gA Γ q) {c0 ci b o N : Nat} (hC : gC c0 = (ci, b, o)) (h11 : 11 ≤ ci) (h15 : ci < 15) (htk : gTyk ci = some (.object C)) (hlen : gLen c0 = N) (hn : c0 ∉ gcs Γ) (hR : RC (gcs Γ) R) (hR0 : ∀ j, R c0 j = none) {n : Int32} (hneg : ¬ n < 0) (hN : n.toNatClampNeg = N) (hbytes : N * 4 ≤ 536870912) (hcells : cells + 1 ≤ RR.cells) (hslots : slots + N ≤ RR.slots) (hdg : decode cc pc = .ok (.anewarray index, 3))
    (kk : ∀ (Γ1 : gX) (H1 : Heap), Ext Γ Γ1 (fun d => d = c0) → GH Γ1 M R O H1 → GK Γ1 s → RC (gcs Γ1) R → va_S (gA Γ1) H0 H1 locs → W p l e RR s m args below meth c H1 locs (cells + 1) (slots + N) Q (F0 m (pc + 3) ls (.ref (gad Γ1 c0) :: rest))) : W p l e RR s m args below meth c H locs cells slots Q (F0 m pc ls (.int n :: rest)) := by
  refine va_newq hexec hb hown hclink hover hK.1 hG.1 hG.2 hS hB hneg hN hbytes hcells hslots hdg (fun q cA H1 hK1 hP hD hS1 => ?_)
  have hL : gL (gadd Γ c0 q cA).2.1 (gad (gadd Γ c0 q cA)) M R O (gcs (gadd Γ c0 q cA)) = gL Γ.2.1 (gad Γ) M R O (gcs Γ) ++ [(q, .inl (cA, N, .inr (.inr (.inr (.inr (fun _ => none))))))] := by
    refine (gL_add (q := q) (cA := cA) hn hR).trans ?_
    rw [gEnt_ref hC h11 h15, va_up_eq, hlen]
    rw [show (fun j => (R c0 j).map (va_up (gad Γ) c0 q)) = (fun _ => none) from funext (fun j => by rw [hR0]; rfl)]
  have k := kk (gadd Γ c0 q cA) H1 (Ext.add hn) ⟨by rw [hL]; exact hP, by rw [hL]; exact hD⟩ ⟨?_, hK.2⟩ (hR.mono (fun _ h => List.mem_append_left _ h)) hS1
  · rw [show gad (gadd Γ c0 q cA) c0 = q from va_up_eq _ _ _] at k
    exact k
  · show va_K Γ.1 vwCl (gT (va_up Γ.2.1 c0 cA) (gcs Γ ++ [c0])) s
    rw [gT_arr hn (by rw [hC]; exact htk)]
    exact hK1
end GNew
theorem up2R_ne {R : Nat → Nat → Option Nat} {c k c' : Nat} {x : Option Nat} (h : c' ≠ c) : up2R R c k x c' = R c' := if_neg h
theorem up2R_nk {R : Nat → Nat → Option Nat} {c k k' : Nat} {x : Option Nat} (h : k' ≠ k) : up2R R c k x c k' = R c k' := by unfold up2R; rw [va_up_eq]; exact if_neg h
theorem up2R_eq {R : Nat → Nat → Option Nat} {c k : Nat} {x : Option Nat} : up2R R c k x c k = x := by unfold up2R; rw [va_up_eq]; exact if_pos rfl
/-- a row filled with the cells from b on -/
def rIt (R : Nat → Nat → Option Nat) (c b : Nat) : Nat → Nat → Nat → Option Nat
  | 0 => R
  | k + 1 => up2R (rIt R c b k) c k (some (b + k))
theorem rIt_ne {R : Nat → Nat → Option Nat} {c b c' : Nat} (h : c' ≠ c) : ∀ n, rIt R c b n c' = R c'
  | 0 => rfl
  | n + 1 => (up2R_ne h).trans (rIt_ne h n)
theorem rIt_lt {R : Nat → Nat → Option Nat} {c b : Nat} : ∀ n k, k < n → rIt R c b n c k = some (b + k)
  | n + 1, k, h => by
    show up2R (rIt R c b n) c n (some (b + n)) c k = _
    by_cases e : k = n
    · subst e; exact up2R_eq
    · rw [up2R_nk e]; exact rIt_lt n k (by omega)
def gPreN (Γ : gX) (av : List Value) (M : Nat → Nat → Int32) (R : Nat → Nat → Option Nat) (O : Int64) : Array Value → State → Prop := va_Pc av (fun U => GH Γ M R O U.heap ∧ GK Γ U ∧ GZ Γ U U.heap ∧ GAO U)
theorem gPreN.blind {Γ : gX} {av : List Value} {M : Nat → Nat → Int32} {R : Nat → Nat → Option Nat} {O : Int64} : FrameBlind (gPreN Γ av M R O) := fun _ U _ _ h => ⟨h.1, h.2.1, GK.same rfl h.2.2.1, GZ.moved (Vm.Alike.refl U.vm) h.2.2.2.1, GAO.moved (u := U) (Vm.Alike.refl U.vm) h.2.2.2.2⟩
def gQN (Γ : gX) (M : Nat → Nat → Int32) (R : Nat → Nat → Option Nat) (O : Int64) (P : Nat → Prop) : Array Value → State → Outcome → State → Prop := fun _ st oc t => oc = .returned none ∧ (∃ Γ1, Ext Γ Γ1 P ∧ GH Γ1 M R O t.heap ∧ GK Γ1 t ∧ RC (gcs Γ1) R) ∧ va_F (gA Γ) st t
def gRn (fr lo mc ms : Nat) : Room := { frames := fr, cells := mc, slots := ms, locals := lo }
/-- a constructor: it makes the cells of P -/
def gNew (l : Launch) (Γ : gX) (y : MethodName) (ws : List Cond) (fr lo mc ms : Nat) (av : List Value) (M : Nat → Nat → Int32) (R : Nat → Nat → Option Nat) (O : Int64) (P : Nat → Prop) (M' : Nat → Nat → Int32) (R' : Nat → Nat → Option Nat) : Prop := Met l y ws (gRn fr lo mc ms) (gPreN Γ av M R O) (gQN Γ M' R' O P) mc ms (gA Γ)
theorem g_startN {l : Launch} {Γ : gX} {y : MethodName} {ws ws' : List Cond} {fr lo mc ms : Nat} {av : List Value} {M : Nat → Nat → Int32} {R : Nat → Nat → Option Nat} {O : Int64} {P : Nat → Prop} {M' : Nat → Nat → Int32} {R' : Nat → Nat → Option Nat} {cc : ByteArray} {maxL : Nat} {ret : Option FieldType} (hy : plainName y.cls = true) (hw : ws = Cond.code y cc maxL ret :: ws') (hlen : (lg_sl av).length ≤ maxL)
    (body : ∀ (p : Program) (e : Env) (s : State) (m : MethodId) (below : List Frame) (meth : Method) (c : Code) (ls : Array Slot), p.tables.exec = Jvm.exec → c.code = cc → c.maxLocals = maxL → meth.sig.returnType = ret → (∀ w ∈ ws, w.before av.toArray s = true) → s.vm.findClass y.cls = some m.cls → meth.locks = false → meth.name = y.name → GK Γ s → GZ Γ s s.heap → GH Γ M R O s.heap → va_S (gA Γ) s.heap s.heap [] → lv_has ls maxL (lv_args 0 av) → GAO s →
      W p l e (gRn fr lo mc ms) s m av.toArray below meth c s.heap [] 0 0 (MQ below (gQN Γ M' R' O P) av.toArray s mc ms (gA Γ)) (F0 m 0 ls [])) : gNew l Γ y ws fr lo mc ms av M R O P M' R' := by
  refine Met.ofW (cc := cc) (maxL := maxL) (ret := ret) hy hw ?_
  intro p e s m args below meth c s₁ B hml hv
  obtain ⟨rfl, hG, hK, hZ, hA⟩ := hv
  have hl := lv_entry av (n := maxL) hlen
  rw [lg_entry_eq]
  generalize (lg_sl av ++ List.replicate (maxL - (lg_sl av).length) Slot.unset).toArray = ls at hl ⊢
  exact body p e s m below meth c ls B.exec B.bytes hml B.returns (atoms_spec (ws := ws) B.pre) (findClass_of_methodNamed B.named) B.notSynchronized (name_of_methodNamed B.named B.method).1 hK hZ hG va_S.rf hl hA
section GNw
variable {p : Program} {l : Launch} {e : Env} {RR : Room} {s : State} {m : MethodId} {args : Array Value} {below : List Frame} {meth : Method} {c : Code} {H : Heap} {locs : List Loc} {cells slots : Nat} {Q : State → Prop}
variable {cc : ByteArray} {pc : Nat} {ls : Array Slot} {rest : List Value} {Γ Γ0 : gX} {M M' : Nat → Nat → Int32} {R R' : Nat → Nat → Option Nat} {O : Int64} {P : Nat → Prop}
theorem g_nret (hexec : p.tables.exec = Jvm.exec) (hb : c.code = cc) (hr : meth.sig.returnType = none) (hlocks : meth.locks = false) (hE : Ext Γ0 Γ P) (hK : GK Γ s) (hRC : RC (gcs Γ) R) (hS : va_S (gA Γ) s.heap H locs) (hG : GH Γ M R O H) {mc ms : Nat} (hc : cells ≤ mc) (hs : slots ≤ ms) (hdg : decode cc pc = .ok (.return_, 1)) : W p l e RR s m args below meth c H locs cells slots (MQ below (gQN Γ0 M R O P) args s mc ms (gA Γ0)) (F0 m pc ls []) := by
  rw [hE.eqA] at hS
  refine W.widen (k := mc) (n := ms) hc hs ?_
  exact W.vret hexec hb hr (fun t ht hW => ⟨rfl, ⟨Γ, hE, by rw [ht]; exact hG, hK.warm hW, hRC⟩, hS.F ht⟩) hS.2.2 hdg hlocks
theorem g_afterN {mc ms : Nat} {st0 : List Value} {a : Array Value} (hr : va_Run p l e RR s m args below meth c H locs cells slots mc ms (F0 m pc ls st0) rest (gQN Γ M' R' O P a) (gA Γ)) (hK : GK Γ s) (hS : va_S (gA Γ) s.heap H locs)
    (kk : ∀ (Γ1 : gX) (H1 : Heap) (locs1 : List Loc), Ext Γ Γ1 P → GH Γ1 M' R' O H1 → GK Γ1 s → RC (gcs Γ1) R' → va_S (gA Γ1) s.heap H1 locs1 → W p l e RR s m args below meth c H1 locs1 (cells + mc) (slots + ms) Q (F0 m (pc + 3) ls rest)) : W p l e RR s m args below meth c H locs cells slots Q (F0 m pc ls st0) := by
  intro T hT X
  obtain ⟨v', st₀, t, T', L, h0, X', hL, e1, e2, ⟨hv, ⟨Γ1, hE, hG1, hK1, hR1⟩, hz, hk⟩, st⟩ := hr T hT X
  cases hv
  rw [h0] at hz hk
  have hal : t.vm.Alike s.vm := by rw [← e2]; exact X'.warmed.alike.symm
  obtain ⟨t2, a1, b1⟩ := kk Γ1 T'.heap (locs ++ L) hE (by rw [e1]; exact hG1) ⟨va_K.moved hal hK1.1, hK.2⟩ hR1
    (by
      rw [hE.eqA]
      exact ⟨Nat.le_trans hS.1 (by rw [e1]; exact hz), fun q h1 h2 => by rw [e1, hk q (Nat.lt_of_lt_of_le h1 hS.1) h2]; exact hS.2.1 q h1 h2, fun q hq => by
        rcases List.mem_append.mp hq with h | h
        · exact hS.2.2 q h
        · exact hL q h⟩) T' rfl X'
  exact ⟨t2, st t2 a1, b1⟩
theorem g_loopC {N : Nat} (cF sF : Nat → Nat) (Inv : Nat → Heap → List Loc → Array Slot → Prop) (exit : ∀ (H : Heap) (locs : List Loc) (ls : Array Slot), Inv N H locs ls → W p l e RR s m args below meth c H locs (cF N) (sF N) Q (F0 m pc ls rest))
    (step : ∀ k, k < N → (∀ (H : Heap) (locs : List Loc) (ls : Array Slot), Inv (k + 1) H locs ls → W p l e RR s m args below meth c H locs (cF (k + 1)) (sF (k + 1)) Q (F0 m pc ls rest)) → ∀ (H : Heap) (locs : List Loc) (ls : Array Slot), Inv k H locs ls → W p l e RR s m args below meth c H locs (cF k) (sF k) Q (F0 m pc ls rest)) :
    ∀ (H : Heap) (locs : List Loc) (ls : Array Slot), Inv 0 H locs ls → W p l e RR s m args below meth c H locs (cF 0) (sF 0) Q (F0 m pc ls rest) := by
  have key : ∀ (j k : Nat), k + j = N → ∀ (H : Heap) (locs : List Loc) (ls : Array Slot), Inv k H locs ls → W p l e RR s m args below meth c H locs (cF k) (sF k) Q (F0 m pc ls rest) := by
    intro j
    induction j with
    | zero =>
      intro k hk H locs ls h
      have hk : k = N := hk
      subst hk
      exact exit H locs ls h
    | succ j ih =>
      intro k hk
      exact step k (by omega) (ih (k + 1) (by omega))
  exact key N 0 (by omega)
/-- a constructor without new cells, of a nest mate -/
theorem g_callIN {nL fr lo maxL index n a : Nat} {Ts ws : List Cond} {own host : String} {y : MethodName} {bytes : ByteArray} {As st0 st1 : List Value} {v : Option Value} {M1 : Nat → Nat → Int32} {R1 : Nat → Nat → Option Nat} {O1 : Int64} (hF : CallFix p m c cc nL s args Ts own) (hM : gMet l Γ y ws fr lo (.ref a :: As) M R O v M1 R1 O1) (cw : va_CN RR s args own index y host bytes maxL none ws (gRm fr lo) 0 0 n ∧ y.name = "<init>" ∧ (Cond.instanceMethod y).before args s = true) (hK : GK Γ s) (hZ : GZ Γ s s.heap) (hG : GH Γ M R O H) (hS : va_S (gA Γ) s.heap H locs) (hn : As.length = n) (hsz : ls.size = nL) (hroom : (rest.map fun v => v.category).sum ≤ 8) (hdg : decode cc pc = .ok (.invokespecial index, 3)) (hcc : cells ≤ RR.cells ∧ slots ≤ RR.slots) (h0 : st0 = As.reverse ++ .ref a :: rest) (h1 : v.toList ++ rest = st1)
    (kk : ∀ (H1 : Heap) (locs1 : List Loc), GH Γ M1 R1 O1 H1 → va_S (gA Γ) s.heap H1 locs1 → W p l e RR s m args below meth c H1 locs1 cells slots Q (F0 m (pc + 3) ls st1)) : W p l e RR s m args below meth c H locs cells slots Q (F0 m pc ls st0) :=
  g_after (va_runIN (Pc := gPre Γ (.ref a :: As) M R O) (Qc := gQ Γ v M1 R1 O1) hF hM cw ⟨gPre.blind, fun U hU hW => ⟨rfl, by rw [hU]; exact hG, hK.warm hW, g_Z hZ hS U hU hW⟩⟩ rfl hn hsz h0 (lv_room hroom) hdg ⟨hcc.1, hcc.2⟩) hS h1 kk
/-- a constructor that makes cells -/
theorem g_callNw {nL fr lo mc ms maxL index n a : Nat} {Ts ws : List Cond} {own : String} {y : MethodName} {bytes : ByteArray} {As st0 : List Value} (hF : CallFix p m c cc nL s args Ts own) (hM : gNew l Γ y ws fr lo mc ms (.ref a :: As) M R O P M' R') (cw : CallB RR s args own index y bytes maxL none ws (gRn fr lo mc ms) mc ms n ∧ y.name = "<init>" ∧ (Cond.instanceMethod y).before args s = true) (hK : GK Γ s) (hZ : GZ Γ s s.heap) (hA : GAO s) (hG : GH Γ M R O H) (hS : va_S (gA Γ) s.heap H locs) (hn : As.length = n) (hsz : ls.size = nL) (hroom : (rest.map fun v => v.category).sum ≤ 8) (hdg : decode cc pc = .ok (.invokespecial index, 3)) (hcc : cells + mc ≤ RR.cells ∧ slots + ms ≤ RR.slots) (h0 : st0 = As.reverse ++ .ref a :: rest)
    (kk : ∀ (Γ1 : gX) (H1 : Heap) (locs1 : List Loc), Ext Γ Γ1 P → GH Γ1 M' R' O H1 → GK Γ1 s → RC (gcs Γ1) R' → va_S (gA Γ1) s.heap H1 locs1 → W p l e RR s m args below meth c H1 locs1 (cells + mc) (slots + ms) Q (F0 m (pc + 3) ls rest)) : W p l e RR s m args below meth c H locs cells slots Q (F0 m pc ls st0) :=
  g_afterN (a := (Value.ref a :: As).toArray) (va_runI (Pc := gPreN Γ (.ref a :: As) M R O) (Qc := gQN Γ M' R' O P) hF hM cw ⟨gPreN.blind, fun U hU hW => ⟨rfl, by rw [hU]; exact hG, hK.warm hW, g_Z hZ hS U hU hW, hA.moved hW.alike⟩⟩ rfl hn hsz h0 (lv_room hroom) hdg hcc) hK hS kk
/-- the same, of a nest mate -/
theorem g_callNn {nL fr lo mc ms maxL index n a : Nat} {Ts ws : List Cond} {own host : String} {y : MethodName} {bytes : ByteArray} {As st0 : List Value} (hF : CallFix p m c cc nL s args Ts own) (hM : gNew l Γ y ws fr lo mc ms (.ref a :: As) M R O P M' R') (cw : va_CN RR s args own index y host bytes maxL none ws (gRn fr lo mc ms) mc ms n ∧ y.name = "<init>" ∧ (Cond.instanceMethod y).before args s = true) (hK : GK Γ s) (hZ : GZ Γ s s.heap) (hA : GAO s) (hG : GH Γ M R O H) (hS : va_S (gA Γ) s.heap H locs) (hn : As.length = n) (hsz : ls.size = nL) (hroom : (rest.map fun v => v.category).sum ≤ 8) (hdg : decode cc pc = .ok (.invokespecial index, 3)) (hcc : cells + mc ≤ RR.cells ∧ slots + ms ≤ RR.slots) (h0 : st0 = As.reverse ++ .ref a :: rest)
    (kk : ∀ (Γ1 : gX) (H1 : Heap) (locs1 : List Loc), Ext Γ Γ1 P → GH Γ1 M' R' O H1 → GK Γ1 s → RC (gcs Γ1) R' → va_S (gA Γ1) s.heap H1 locs1 → W p l e RR s m args below meth c H1 locs1 (cells + mc) (slots + ms) Q (F0 m (pc + 3) ls rest)) : W p l e RR s m args below meth c H locs cells slots Q (F0 m pc ls st0) :=
  g_afterN (a := (Value.ref a :: As).toArray) (va_runIN (Pc := gPreN Γ (.ref a :: As) M R O) (Qc := gQN Γ M' R' O P) hF hM cw ⟨gPreN.blind, fun U hU hW => ⟨rfl, by rw [hU]; exact hG, hK.warm hW, g_Z hZ hS U hU hW, hA.moved hW.alike⟩⟩ rfl hn hsz h0 (lv_room hroom) hdg hcc) hK hS kk
end GNw
