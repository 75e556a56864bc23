/-! CONTRACTS over the world, their starts and ends, calls. -/
def gPre (Γ : gX) (av : List Value) (M : Nat → Nat → Int32) (R : Nat → Nat → Option Nat) (O : Int64) : Array Value → State → Prop := va_Pc av (fun U => GH Γ M R O U.heap ∧ GK Γ U ∧ GZ Γ U U.heap)
def gQ (Γ : gX) (v : Option Value) (M : Nat → Nat → Int32) (R : Nat → Nat → Option Nat) (O : Int64) : Array Value → State → Outcome → State → Prop := fun _ st oc t => oc = .returned v ∧ GH Γ M R O t.heap ∧ va_F (gA Γ) st t
def gRm (fr lo : Nat) : Room := { frames := fr, cells := 0, slots := 0, locals := lo }
/-- from the state M, R, O with these arguments the method returns v and leaves the state M', R', O' -/
def gMet (l : Launch) (Γ : gX) (y : MethodName) (ws : List Cond) (fr lo : Nat) (av : List Value) (M : Nat → Nat → Int32) (R : Nat → Nat → Option Nat) (O : Int64) (v : Option Value) (M' : Nat → Nat → Int32) (R' : Nat → Nat → Option Nat) (O' : Int64) : Prop := Met l y ws (gRm fr lo) (gPre Γ av M R O) (gQ Γ v M' R' O') 0 0 (gA Γ)
theorem gPre.blind {Γ : gX} {av : List Value} {M : Nat → Nat → Int32} {R : Nat → Nat → Option Nat} {O : Int64} : FrameBlind (gPre Γ av M R O) := fun _ U _ _ h => ⟨h.1, h.2.1, GK.same rfl h.2.2.1, GZ.moved (Vm.Alike.refl U.vm) h.2.2.2⟩
theorem g_start {l : Launch} {Γ : gX} {y : MethodName} {ws ws' : List Cond} {fr lo : Nat} {av : List Value} {M : Nat → Nat → Int32} {R : Nat → Nat → Option Nat} {O : Int64} {v : Option Value} {M' : Nat → Nat → Int32} {R' : Nat → Nat → Option Nat} {O' : Int64} {cc : ByteArray} {maxL : Nat} {ret : Option FieldType} (hy : plainName y.cls = true) (hw : ws = Cond.code y cc maxL ret :: ws') (hlen : (lg_sl av).length ≤ maxL)
    (body : ∀ (p : Program) (e : Env) (s : State) (m : MethodId) (below : List Frame) (meth : Method) (c : Code) (ls : Array Slot), p.tables.exec = Jvm.exec → c.code = cc → c.maxLocals = maxL → meth.sig.returnType = ret → (∀ w ∈ ws, w.before av.toArray s = true) → s.vm.findClass y.cls = some m.cls → meth.locks = false → meth.name = y.name → GK Γ s → GZ Γ s s.heap → GH Γ M R O s.heap → va_S (gA Γ) s.heap s.heap [] → lv_has ls maxL (lv_args 0 av) →
      W p l e (gRm fr lo) s m av.toArray below meth c s.heap [] 0 0 (MQ below (gQ Γ v M' R' O') av.toArray s 0 0 (gA Γ)) (F0 m 0 ls [])) : gMet l Γ y ws fr lo av M R O v M' R' O' := by
  refine Met.ofW (cc := cc) (maxL := maxL) (ret := ret) hy hw ?_
  intro p e s m args below meth c s₁ B hml hv
  obtain ⟨rfl, hG, hK, hZ⟩ := hv
  have hl := lv_entry av (n := maxL) hlen
  rw [lg_entry_eq]
  generalize (lg_sl av ++ List.replicate (maxL - (lg_sl av).length) Slot.unset).toArray = ls at hl ⊢
  exact body p e s m below meth c ls B.exec B.bytes hml B.returns (atoms_spec (ws := ws) B.pre) (findClass_of_methodNamed B.named) B.notSynchronized (name_of_methodNamed B.named B.method).1 hK hZ hG va_S.rf hl
theorem gC_S {r i : Nat} (hr : r < 19) (hi : i < 10) : gC (25 * r + 4 + i) = (3, r, 12 + 7 * i) := by
  rw [gC_lt (by omega), show (25 * r + 4 + i) % 25 = 4 + i by omega, show (25 * r + 4 + i) / 25 = r by omega]
  unfold gO
  repeat (first | rw [if_neg (by omega)] | rw [if_pos (by omega)])
  simp only [Prod.mk.injEq, true_and]
  omega
theorem gC_Hs {r i : Nat} (hr : r < 19) (hi : i < 8) : gC (25 * r + 14 + i) = (1, r, 82 + 5 * i) := by
  rw [gC_lt (by omega), show (25 * r + 14 + i) % 25 = 14 + i by omega, show (25 * r + 14 + i) / 25 = r by omega]
  unfold gO
  repeat (first | rw [if_neg (by omega)] | rw [if_pos (by omega)])
  simp only [Prod.mk.injEq, true_and]
  omega
theorem gC_Wg {r i : Nat} (hr : r < 19) (hi : i < 3) : gC (25 * r + 22 + i) = (5, r, 122 + 3 * i) := by
  rw [gC_lt (by omega), show (25 * r + 22 + i) % 25 = 22 + i by omega, show (25 * r + 22 + i) / 25 = r by omega]
  unfold gO
  repeat (first | rw [if_neg (by omega)] | rw [if_pos (by omega)])
  simp only [Prod.mk.injEq, true_and]
  omega
theorem gC_Rd {r : Nat} (hr : r < 19) : gC (25 * r) = (2, r, 0) := by
  rw [gC_lt (by omega), show (25 * r) % 25 = 0 by omega, show (25 * r) / 25 = r by omega]
  rfl
theorem gC_row1 {r : Nat} (hr : r < 19) : gC (25 * r + 1) = (13, r, 0) := by
  rw [gC_lt (by omega), show (25 * r + 1) % 25 = 1 by omega, show (25 * r + 1) / 25 = r by omega]
  rfl
theorem gLen_row1 {r : Nat} (hr : r < 19) : gLen (25 * r + 1) = 10 := by
  unfold gLen
  rw [if_pos (by omega), show (25 * r + 1) % 25 = 1 by omega]
  rfl
theorem gC_row2 {r : Nat} (hr : r < 19) : gC (25 * r + 2) = (11, r, 0) := by
  rw [gC_lt (by omega), show (25 * r + 2) % 25 = 2 by omega, show (25 * r + 2) / 25 = r by omega]
  rfl
theorem gLen_row2 {r : Nat} (hr : r < 19) : gLen (25 * r + 2) = 8 := by
  unfold gLen
  rw [if_pos (by omega), show (25 * r + 2) % 25 = 2 by omega]
  rfl
theorem gC_row3 {r : Nat} (hr : r < 19) : gC (25 * r + 3) = (14, r, 0) := by
  rw [gC_lt (by omega), show (25 * r + 3) % 25 = 3 by omega, show (25 * r + 3) / 25 = r by omega]
  rfl
theorem gLen_row3 {r : Nat} (hr : r < 19) : gLen (25 * r + 3) = 3 := by
  unfold gLen
  rw [if_pos (by omega), show (25 * r + 3) % 25 = 3 by omega]
  rfl
theorem gRf_low {k : Nat} (hk : k < 12) : gRf 2 k = false := by
  show Nat.ble 12 k = false
  rcases h : Nat.ble 12 k with _ | _
  · rfl
  · exact absurd (Nat.ble_eq.mp h) (by omega)
section GC
variable {p : Program} {l : Launch} {e : Env} {RR : Room} {s : State} {m : MethodId} {args : Array Value} {below : List Frame} {meth : Method} {c : Code} {H : Heap} {locs : List Loc} {cells slots : Nat} {Q : State → Prop}
variable {cc : ByteArray} {pc : Nat} {ls : Array Slot} {rest : List Value} {Γ : gX} {M M' : Nat → Nat → Int32} {R R' : Nat → Nat → Option Nat} {O : Int64}
theorem g_iret (hexec : p.tables.exec = Jvm.exec) (hb : c.code = cc) (hr : meth.sig.returnType = some .int) (hlocks : meth.locks = false) (hS : va_S (gA Γ) s.heap H locs) (hG : GH Γ M R O H) {x x' : Int32} (hv : x = x') (hM : M = M') (hdg : decode cc pc = .ok (.ireturn, 1)) : W p l e RR s m args below meth c H locs cells slots (MQ below (gQ Γ (some (.int x')) M' R O) args s cells slots (gA Γ)) (F0 m pc ls [.int x]) := by
  subst hv; subst hM
  exact W.iret hexec hb hr (fun t ht hW => ⟨rfl, by rw [ht]; exact hG, hS.F ht⟩) hS.2.2 hdg hlocks
theorem g_zret (hexec : p.tables.exec = Jvm.exec) (hb : c.code = cc) (hr : meth.sig.returnType = some .boolean) (hlocks : meth.locks = false) (hS : va_S (gA Γ) s.heap H locs) (hG : GH Γ M R O H) {x x' : Int32} (hn : x &&& 1 = x) (hv : x = x') (hM : M = M') (hdg : decode cc pc = .ok (.ireturn, 1)) : W p l e RR s m args below meth c H locs cells slots (MQ below (gQ Γ (some (.int x')) M' R O) args s cells slots (gA Γ)) (F0 m pc ls [.int x]) := by
  subst hv; subst hM
  exact W.zret hexec hb hr (congrArg Value.int hn) (fun t ht hW => ⟨rfl, by rw [ht]; exact hG, hS.F ht⟩) hS.2.2 hdg hlocks
theorem g_vret (hexec : p.tables.exec = Jvm.exec) (hb : c.code = cc) (hr : meth.sig.returnType = none) (hlocks : meth.locks = false) (hS : va_S (gA Γ) s.heap H locs) (hG : GH Γ M R O H) (hM : M = M') (hR : R = R') (hdg : decode cc pc = .ok (.return_, 1)) : W p l e RR s m args below meth c H locs cells slots (MQ below (gQ Γ none M' R' O) args s cells slots (gA Γ)) (F0 m pc ls []) := by
  subst hM; subst hR
  exact W.vret hexec hb hr (fun t ht hW => ⟨rfl, by rw [ht]; exact hG, hS.F ht⟩) hS.2.2 hdg hlocks
theorem g_aret (hexec : p.tables.exec = Jvm.exec) (hb : c.code = cc) {Cn : String} (hr : meth.sig.returnType = some (.object Cn)) (hlocks : meth.locks = false) (hS : va_S (gA Γ) s.heap H locs) (hG : GH Γ M R O H) {v : Value} {x' : Option Nat} (hv : v = va_rf (x'.map (gad Γ))) (hM : M = M') (hdg : decode cc pc = .ok (.areturn, 1)) : W p l e RR s m args below meth c H locs cells slots (MQ below (gQ Γ (some (va_rf (x'.map (gad Γ)))) M' R O) args s cells slots (gA Γ)) (F0 m pc ls [v]) := by
  subst hv; subst hM
  refine W.aret hexec hb hr (Or.inl ⟨_, rfl⟩) ?_ (fun t ht hW => ⟨rfl, by rw [ht]; exact hG, hS.F ht⟩) hS.2.2 hdg hlocks
  cases x' with
  | none => exact Or.inl rfl
  | some a => exact Or.inr ⟨_, rfl⟩
theorem g_Z (hZ : GZ Γ s s.heap) (hS : va_S (gA Γ) s.heap H locs) : ∀ U : State, U.heap = H → s.WarmedH U.vm → GZ Γ U U.heap := fun U hU hW => by
  rw [hU]
  exact GZ.moved hW.alike (hZ.kept hS.1 hS.2.1)
theorem g_recv (hK : GK Γ s) (hG : GH Γ M R O H) {C : String} {T : u_T} {c0 ci b o N : Nat} (hc0 : c0 ∈ gcs Γ) (hC : gC c0 = (ci, b, o)) (h8 : ci < 8) (hcl : vwCl[ci]? = some (C, T, N)) : ∃ cellB : Cell, H[gad Γ c0]? = some cellB ∧ cellB.vm.isStatics = false ∧ s.vm.findClass C = some cellB.cls := by
  obtain ⟨q, hq, -⟩ := gL_get (aC := Γ.2.1) (ad := gad Γ) (M := M) (R := R) (O := O) hc0
  exact va_recv hK.1 hG.1 (q := (C, T, N)) (q0 := q) hcl (hq.trans (congrArg (fun z => some (gad Γ c0, z)) (gEnt_obj hC h8)))
/-- behind a call -/
theorem g_after {v : Option Value} {M1 : Nat → Nat → Int32} {R1 : Nat → Nat → Option Nat} {O1 : Int64} {a : Array Value} {st0 st1 : List Value} (hr : va_Run p l e RR s m args below meth c H locs cells slots 0 0 (F0 m pc ls st0) rest (gQ Γ v M1 R1 O1 a) (gA Γ)) (hS : va_S (gA Γ) s.heap H locs) (hst : v.toList ++ rest = st1)
    (kk : ∀ (H1 : Heap) (locs1 : List Loc), GH Γ M1 R1 O1 H1 → va_S (gA Γ) s.heap H1 locs1 → W p l e RR s m args below meth c H1 locs1 cells slots Q (F0 m (pc + 3) ls st1)) : W p l e RR s m args below meth c H locs cells slots Q (F0 m pc ls st0) := by
  subst hst
  intro T hT X
  obtain ⟨v', st₀, t, T', L, h0, X', hL, e1, e2, ⟨hv, hG1, hz, hk⟩, st⟩ := hr T hT X
  cases hv
  rw [h0] at hz hk
  obtain ⟨t2, a1, b1⟩ := kk T'.heap (locs ++ L) (by rw [e1]; exact hG1)
    ⟨Nat.le_trans hS.1 (by rw [e1]; exact hz), fun q h1 h2 => by rw [e1, hk q (Nat.lt_of_lt_of_le h1 hS.1) h2]; exact hS.2.1 q h1 h2, fun q hq => by
      rcases List.mem_append.mp hq with h | h
      · exact hS.2.2 q h
      · exact hL q h⟩ T' rfl X'
  exact ⟨t2, st t2 a1, b1⟩
theorem g_callV {nL fr lo maxL index n ci b o N c0 : Nat} {Ts ws : List Cond} {own C : String} {T : u_T} {y : MethodName} {bytes : ByteArray} {ret : Option FieldType} {As st0 st1 : List Value} {v : Option Value} {M1 : Nat → Nat → Int32} {R1 : Nat → Nat → Option Nat} {O1 : Int64} (hF : CallFix p m c cc nL s args Ts own) (hM : gMet l Γ y ws fr lo (.ref (gad Γ c0) :: As) M R O v M1 R1 O1) (cw : CallW RR s args own C index y bytes maxL ret ws (gRm fr lo) 0 0 n) (hK : GK Γ s) (hZ : GZ Γ s s.heap) (hG : GH Γ M R O H) (hS : va_S (gA Γ) s.heap H locs) (hc0 : c0 ∈ gcs Γ) (hC : gC c0 = (ci, b, o)) (h8 : ci < 8) (hcl : vwCl[ci]? = some (C, T, N)) (hn : As.length = n) (hsz : ls.size = nL) (hroom : (rest.map fun v => v.category).sum ≤ 8) (hdg : decode cc pc = .ok (.invokevirtual index, 3)) (hcc : cells ≤ RR.cells ∧ slots ≤ RR.slots) (h0 : st0 = As.reverse ++ .ref (gad Γ c0) :: rest) (h1 : v.toList ++ rest = st1)
    (kk : ∀ (H1 : Heap) (locs1 : List Loc), GH Γ M1 R1 O1 H1 → va_S (gA Γ) s.heap H1 locs1 → W p l e RR s m args below meth c H1 locs1 cells slots Q (F0 m (pc + 3) ls st1)) : W p l e RR s m args below meth c H locs cells slots Q (F0 m pc ls st0) :=
  g_after (va_runV (Pc := gPre Γ (.ref (gad Γ c0) :: As) M R O) (Qc := gQ Γ v M1 R1 O1) hF hM cw ⟨gPre.blind, g_recv hK hG hc0 hC h8 hcl, fun U hU hW => ⟨rfl, by rw [hU]; exact hG, hK.warm hW, g_Z hZ hS U hU hW⟩⟩ rfl hn hsz h0 (lv_room hroom) hdg ⟨hcc.1, hcc.2⟩) hS h1 kk
theorem g_callS {nL fr lo maxL index n : Nat} {Ts ws : List Cond} {own : String} {y : MethodName} {bytes : ByteArray} {ret : Option FieldType} {As st0 st1 : List Value} {v : Option Value} {M1 : Nat → Nat → Int32} {R1 : Nat → Nat → Option Nat} {O1 : Int64} (hF : CallFix p m c cc nL s args Ts own) (hM : gMet l Γ y ws fr lo As M R O v M1 R1 O1) (cw : CallB RR s args own index y bytes maxL ret ws (gRm fr lo) 0 0 n ∧ (Cond.static y).before args s = true) (hK : GK Γ s) (hZ : GZ Γ s s.heap) (hG : GH Γ M R O H) (hS : va_S (gA Γ) s.heap H locs) (hn : As.length = n) (hsz : ls.size = nL) (hroom : (rest.map fun v => v.category).sum ≤ 8) (hdg : decode cc pc = .ok (.invokestatic index, 3)) (hcc : cells ≤ RR.cells ∧ slots ≤ RR.slots) (h0 : st0 = As.reverse ++ rest) (h1 : v.toList ++ rest = st1)
    (kk : ∀ (H1 : Heap) (locs1 : List Loc), GH Γ M1 R1 O1 H1 → va_S (gA Γ) s.heap H1 locs1 → W p l e RR s m args below meth c H1 locs1 cells slots Q (F0 m (pc + 3) ls st1)) : W p l e RR s m args below meth c H locs cells slots Q (F0 m pc ls st0) :=
  g_after (va_runS (Pc := gPre Γ As M R O) (Qc := gQ Γ v M1 R1 O1) hF hM cw ⟨gPre.blind, fun U hU hW => ⟨rfl, by rw [hU]; exact hG, hK.warm hW, g_Z hZ hS U hU hW⟩⟩ rfl hn hsz h0 (lv_room hroom) hdg ⟨hcc.1, hcc.2⟩) hS h1 kk
theorem g_callSN {nL fr lo maxL index n : Nat} {Ts ws : List Cond} {own host : String} {y : MethodName} {bytes : ByteArray} {ret : Option FieldType} {As st0 st1 : List Value} {v : Option Value} {M1 : Nat → Nat → Int32} {R1 : Nat → Nat → Option Nat} {O1 : Int64} (hF : CallFix p m c cc nL s args Ts own) (hM : gMet l Γ y ws fr lo As M R O v M1 R1 O1) (cw : va_CN RR s args own index y host bytes maxL ret ws (gRm fr lo) 0 0 n ∧ (Cond.static y).before args s = true ∧ True) (hK : GK Γ s) (hZ : GZ Γ s s.heap) (hG : GH Γ M R O H) (hS : va_S (gA Γ) s.heap H locs) (hn : As.length = n) (hsz : ls.size = nL) (hroom : (rest.map fun v => v.category).sum ≤ 8) (hdg : decode cc pc = .ok (.invokestatic index, 3)) (hcc : cells ≤ RR.cells ∧ slots ≤ RR.slots) (h0 : st0 = As.reverse ++ rest) (h1 : v.toList ++ rest = st1)
    (kk : ∀ (H1 : Heap) (locs1 : List Loc), GH Γ M1 R1 O1 H1 → va_S (gA Γ) s.heap H1 locs1 → W p l e RR s m args below meth c H1 locs1 cells slots Q (F0 m (pc + 3) ls st1)) : W p l e RR s m args below meth c H locs cells slots Q (F0 m pc ls st0) :=
  g_after (va_runSN (Pc := gPre Γ As M R O) (Qc := gQ Γ v M1 R1 O1) hF hM cw ⟨gPre.blind, fun U hU hW => ⟨rfl, by rw [hU]; exact hG, hK.warm hW, g_Z hZ hS U hU hW⟩⟩ rfl hn hsz h0 (lv_room hroom) hdg ⟨hcc.1, hcc.2⟩) hS h1 kk
/-- an int on the stack, by another name -/
theorem g_top {x y : Int32} (h : x = y) (k : W p l e RR s m args below meth c H locs cells slots Q (F0 m pc ls (.int y :: rest))) : W p l e RR s m args below meth c H locs cells slots Q (F0 m pc ls (.int x :: rest)) := h ▸ k
/-- the state, by another name -/
theorem g_st {M1 M2 : Nat → Nat → Int32} (h : M1 = M2) (hG : GH Γ M1 R O H) : GH Γ M2 R O H := h ▸ hG
theorem gS_get (hexec : p.tables.exec = Jvm.exec) (hb : c.code = cc) {own : String} {index : Nat} {Ts : List Cond} (hts : ∀ w ∈ Ts, w.before args s = true) (hin : ∀ w ∈ wsX30, w ∈ Ts) (hown : s.vm.findClass own = some m.cls) (hK : GK Γ s) {r i j : Nat} {P : Nat → Int32} (hG : GH Γ (va_up M r P) R O H) (hr : r < 19) (hi : i < 10) (hc0 : 25 * r + 4 + i ∈ gcs Γ) (k : Nat) (hk : k < 7) (hlink : (Cond.fieldLink own index "RoadDust$Segment" (TX3 k).2.1 (TX3 k).2.2.1).before args s = true) (hsame : ∀ x, s.fieldFound? (TX3 k).1 (TX3 k).2.1 (TX3 k).2.2.1 = some x → s.fieldFound? "RoadDust$Segment" (TX3 k).2.1 (TX3 k).2.2.1 = some x) (hj : 12 + 7 * i + k = j) (hdg : decode cc pc = .ok (.getfield index, 3))
    (kk : W p l e RR s m args below meth c H locs cells slots Q (F0 m (pc + 3) ls (.int (P j) :: rest))) : W p l e RR s m args below meth c H locs cells slots Q (F0 m pc ls (.ref (gad Γ (25 * r + 4 + i)) :: rest)) := by
  refine g_get0 (C := RX3) (T := TX3) (ci := 3) hexec hb hts hin hown hK hG hc0 (gC_S hr hi) (by decide) rfl k hk hlink hsame ?_ hdg kk
  unfold gFd
  rw [if_neg (by rw [show gRf 3 k = false from rfl]; decide), va_up_eq, hj]
theorem gS_put (hexec : p.tables.exec = Jvm.exec) (hb : c.code = cc) {own : String} {index : Nat} {Ts : List Cond} (hts : ∀ w ∈ Ts, w.before args s = true) (hin : ∀ w ∈ wsX30, w ∈ Ts) (hown : s.vm.findClass own = some m.cls) (hK : GK Γ s) {r i j : Nat} {P : Nat → Int32} {H0 : Heap} (hG : GH Γ (va_up M r P) R O H) (hS : va_S (gA Γ) H0 H locs) (hr : r < 19) (hi : i < 10) (hc0 : 25 * r + 4 + i ∈ gcs Γ) (k : Nat) (hk : k < 7) (hlink : (Cond.fieldLink own index "RoadDust$Segment" (TX3 k).2.1 (TX3 k).2.2.1).before args s = true) (hsame : ∀ x, s.fieldFound? (TX3 k).1 (TX3 k).2.1 (TX3 k).2.2.1 = some x → s.fieldFound? "RoadDust$Segment" (TX3 k).2.1 (TX3 k).2.2.1 = some x) (hfin : (TX3 k).2.2.2 = false) (ty : FieldType) {x : Int32} (hd : parseFieldDescriptor (TX3 k).2.2.1 = some ty) (hn : narrow ty (.int x) = .int x) (hfit : fits ty (.int x) = true) (hj : 12 + 7 * i + k = j) (hdg : decode cc pc = .ok (.putfield index, 3))
    (kk : ∀ (H1 : Heap) (locs1 : List Loc), GH Γ (va_up M r (upd P j x)) R O H1 → va_S (gA Γ) H0 H1 locs1 → W p l e RR s m args below meth c H1 locs1 cells slots Q (F0 m (pc + 3) ls rest)) : W p l e RR s m args below meth c H locs cells slots Q (F0 m pc ls (.int x :: .ref (gad Γ (25 * r + 4 + i)) :: rest)) := by
  refine g_put0 (C := RX3) (T := TX3) (ci := 3) hexec hb hts hin tyX3 tyX3_ok nmX3 hown hK hG hS hc0 (gC_S hr hi) (by decide) rfl k hk hlink hsame rfl hfin hd hn hfit hdg (fun H1 locs1 h1 h2 => kk H1 locs1 ?_ h2)
  rw [up2_page, hj] at h1
  exact h1
theorem gHs_get (hexec : p.tables.exec = Jvm.exec) (hb : c.code = cc) {own : String} {index : Nat} {Ts : List Cond} (hts : ∀ w ∈ Ts, w.before args s = true) (hin : ∀ w ∈ wsX10, w ∈ Ts) (hown : s.vm.findClass own = some m.cls) (hK : GK Γ s) {r i j : Nat} {P : Nat → Int32} (hG : GH Γ (va_up M r P) R O H) (hr : r < 19) (hi : i < 8) (hc0 : 25 * r + 14 + i ∈ gcs Γ) (k : Nat) (hk : k < 5) (hlink : (Cond.fieldLink own index "RoadDust$House" (TX1 k).2.1 (TX1 k).2.2.1).before args s = true) (hsame : ∀ x, s.fieldFound? (TX1 k).1 (TX1 k).2.1 (TX1 k).2.2.1 = some x → s.fieldFound? "RoadDust$House" (TX1 k).2.1 (TX1 k).2.2.1 = some x) (hj : 82 + 5 * i + k = j) (hdg : decode cc pc = .ok (.getfield index, 3))
    (kk : W p l e RR s m args below meth c H locs cells slots Q (F0 m (pc + 3) ls (.int (P j) :: rest))) : W p l e RR s m args below meth c H locs cells slots Q (F0 m pc ls (.ref (gad Γ (25 * r + 14 + i)) :: rest)) := by
  refine g_get0 (C := RX1) (T := TX1) (ci := 1) hexec hb hts hin hown hK hG hc0 (gC_Hs hr hi) (by decide) rfl k hk hlink hsame ?_ hdg kk
  unfold gFd
  rw [if_neg (by rw [show gRf 1 k = false from rfl]; decide), va_up_eq, hj]
theorem gHs_put (hexec : p.tables.exec = Jvm.exec) (hb : c.code = cc) {own : String} {index : Nat} {Ts : List Cond} (hts : ∀ w ∈ Ts, w.before args s = true) (hin : ∀ w ∈ wsX10, w ∈ Ts) (hown : s.vm.findClass own = some m.cls) (hK : GK Γ s) {r i j : Nat} {P : Nat → Int32} {H0 : Heap} (hG : GH Γ (va_up M r P) R O H) (hS : va_S (gA Γ) H0 H locs) (hr : r < 19) (hi : i < 8) (hc0 : 25 * r + 14 + i ∈ gcs Γ) (k : Nat) (hk : k < 5) (hlink : (Cond.fieldLink own index "RoadDust$House" (TX1 k).2.1 (TX1 k).2.2.1).before args s = true) (hsame : ∀ x, s.fieldFound? (TX1 k).1 (TX1 k).2.1 (TX1 k).2.2.1 = some x → s.fieldFound? "RoadDust$House" (TX1 k).2.1 (TX1 k).2.2.1 = some x) (hfin : (TX1 k).2.2.2 = false) (ty : FieldType) {x : Int32} (hd : parseFieldDescriptor (TX1 k).2.2.1 = some ty) (hn : narrow ty (.int x) = .int x) (hfit : fits ty (.int x) = true) (hj : 82 + 5 * i + k = j) (hdg : decode cc pc = .ok (.putfield index, 3))
    (kk : ∀ (H1 : Heap) (locs1 : List Loc), GH Γ (va_up M r (upd P j x)) R O H1 → va_S (gA Γ) H0 H1 locs1 → W p l e RR s m args below meth c H1 locs1 cells slots Q (F0 m (pc + 3) ls rest)) : W p l e RR s m args below meth c H locs cells slots Q (F0 m pc ls (.int x :: .ref (gad Γ (25 * r + 14 + i)) :: rest)) := by
  refine g_put0 (C := RX1) (T := TX1) (ci := 1) hexec hb hts hin tyX1 tyX1_ok nmX1 hown hK hG hS hc0 (gC_Hs hr hi) (by decide) rfl k hk hlink hsame rfl hfin hd hn hfit hdg (fun H1 locs1 h1 h2 => kk H1 locs1 ?_ h2)
  rw [up2_page, hj] at h1
  exact h1
theorem gWg_get (hexec : p.tables.exec = Jvm.exec) (hb : c.code = cc) {own : String} {index : Nat} {Ts : List Cond} (hts : ∀ w ∈ Ts, w.before args s = true) (hin : ∀ w ∈ wsX50, w ∈ Ts) (hown : s.vm.findClass own = some m.cls) (hK : GK Γ s) {r i j : Nat} {P : Nat → Int32} (hG : GH Γ (va_up M r P) R O H) (hr : r < 19) (hi : i < 3) (hc0 : 25 * r + 22 + i ∈ gcs Γ) (k : Nat) (hk : k < 3) (hlink : (Cond.fieldLink own index "RoadDust$Wagon" (TX5 k).2.1 (TX5 k).2.2.1).before args s = true) (hsame : ∀ x, s.fieldFound? (TX5 k).1 (TX5 k).2.1 (TX5 k).2.2.1 = some x → s.fieldFound? "RoadDust$Wagon" (TX5 k).2.1 (TX5 k).2.2.1 = some x) (hj : 122 + 3 * i + k = j) (hdg : decode cc pc = .ok (.getfield index, 3))
    (kk : W p l e RR s m args below meth c H locs cells slots Q (F0 m (pc + 3) ls (.int (P j) :: rest))) : W p l e RR s m args below meth c H locs cells slots Q (F0 m pc ls (.ref (gad Γ (25 * r + 22 + i)) :: rest)) := by
  refine g_get0 (C := RX5) (T := TX5) (ci := 5) hexec hb hts hin hown hK hG hc0 (gC_Wg hr hi) (by decide) rfl k hk hlink hsame ?_ hdg kk
  unfold gFd
  rw [if_neg (by rw [show gRf 5 k = false from rfl]; decide), va_up_eq, hj]
theorem gWg_put (hexec : p.tables.exec = Jvm.exec) (hb : c.code = cc) {own : String} {index : Nat} {Ts : List Cond} (hts : ∀ w ∈ Ts, w.before args s = true) (hin : ∀ w ∈ wsX50, w ∈ Ts) (hown : s.vm.findClass own = some m.cls) (hK : GK Γ s) {r i j : Nat} {P : Nat → Int32} {H0 : Heap} (hG : GH Γ (va_up M r P) R O H) (hS : va_S (gA Γ) H0 H locs) (hr : r < 19) (hi : i < 3) (hc0 : 25 * r + 22 + i ∈ gcs Γ) (k : Nat) (hk : k < 3) (hlink : (Cond.fieldLink own index "RoadDust$Wagon" (TX5 k).2.1 (TX5 k).2.2.1).before args s = true) (hsame : ∀ x, s.fieldFound? (TX5 k).1 (TX5 k).2.1 (TX5 k).2.2.1 = some x → s.fieldFound? "RoadDust$Wagon" (TX5 k).2.1 (TX5 k).2.2.1 = some x) (hfin : (TX5 k).2.2.2 = false) (ty : FieldType) {x : Int32} (hd : parseFieldDescriptor (TX5 k).2.2.1 = some ty) (hn : narrow ty (.int x) = .int x) (hfit : fits ty (.int x) = true) (hj : 122 + 3 * i + k = j) (hdg : decode cc pc = .ok (.putfield index, 3))
    (kk : ∀ (H1 : Heap) (locs1 : List Loc), GH Γ (va_up M r (upd P j x)) R O H1 → va_S (gA Γ) H0 H1 locs1 → W p l e RR s m args below meth c H1 locs1 cells slots Q (F0 m (pc + 3) ls rest)) : W p l e RR s m args below meth c H locs cells slots Q (F0 m pc ls (.int x :: .ref (gad Γ (25 * r + 22 + i)) :: rest)) := by
  refine g_put0 (C := RX5) (T := TX5) (ci := 5) hexec hb hts hin tyX5 tyX5_ok nmX5 hown hK hG hS hc0 (gC_Wg hr hi) (by decide) rfl k hk hlink hsame rfl hfin hd hn hfit hdg (fun H1 locs1 h1 h2 => kk H1 locs1 ?_ h2)
  rw [up2_page, hj] at h1
  exact h1
theorem gRd_get (hexec : p.tables.exec = Jvm.exec) (hb : c.code = cc) {own : String} {index : Nat} {Ts : List Cond} (hts : ∀ w ∈ Ts, w.before args s = true) (hin : ∀ w ∈ wsX20, w ∈ Ts) (hown : s.vm.findClass own = some m.cls) (hK : GK Γ s) {r j : Nat} {P : Nat → Int32} (hG : GH Γ (va_up M r P) R O H) (hr : r < 19) (hc0 : 25 * r ∈ gcs Γ) (k : Nat) (hk : k < 12) (hlink : (Cond.fieldLink own index "RoadDust$Road" (TX2 k).2.1 (TX2 k).2.2.1).before args s = true) (hsame : ∀ x, s.fieldFound? (TX2 k).1 (TX2 k).2.1 (TX2 k).2.2.1 = some x → s.fieldFound? "RoadDust$Road" (TX2 k).2.1 (TX2 k).2.2.1 = some x) (hj : k = j) (hdg : decode cc pc = .ok (.getfield index, 3))
    (kk : W p l e RR s m args below meth c H locs cells slots Q (F0 m (pc + 3) ls (.int (P j) :: rest))) : W p l e RR s m args below meth c H locs cells slots Q (F0 m pc ls (.ref (gad Γ (25 * r)) :: rest)) := by
  refine g_get0 (C := RX2) (T := TX2) (ci := 2) hexec hb hts hin hown hK hG hc0 (gC_Rd hr) (by decide) rfl k (Nat.lt_of_lt_of_le hk (by decide)) hlink hsame ?_ hdg kk
  unfold gFd
  rw [if_neg (by rw [show gRf 2 k = false from (gRf_low hk)]; decide), va_up_eq, Nat.zero_add, hj]
theorem gRd_put (hexec : p.tables.exec = Jvm.exec) (hb : c.code = cc) {own : String} {index : Nat} {Ts : List Cond} (hts : ∀ w ∈ Ts, w.before args s = true) (hin : ∀ w ∈ wsX20, w ∈ Ts) (hown : s.vm.findClass own = some m.cls) (hK : GK Γ s) {r j : Nat} {P : Nat → Int32} {H0 : Heap} (hG : GH Γ (va_up M r P) R O H) (hS : va_S (gA Γ) H0 H locs) (hr : r < 19) (hc0 : 25 * r ∈ gcs Γ) (k : Nat) (hk : k < 12) (hlink : (Cond.fieldLink own index "RoadDust$Road" (TX2 k).2.1 (TX2 k).2.2.1).before args s = true) (hsame : ∀ x, s.fieldFound? (TX2 k).1 (TX2 k).2.1 (TX2 k).2.2.1 = some x → s.fieldFound? "RoadDust$Road" (TX2 k).2.1 (TX2 k).2.2.1 = some x) (hfin : (TX2 k).2.2.2 = false) (ty : FieldType) {x : Int32} (hd : parseFieldDescriptor (TX2 k).2.2.1 = some ty) (hn : narrow ty (.int x) = .int x) (hfit : fits ty (.int x) = true) (hj : k = j) (hdg : decode cc pc = .ok (.putfield index, 3))
    (kk : ∀ (H1 : Heap) (locs1 : List Loc), GH Γ (va_up M r (upd P j x)) R O H1 → va_S (gA Γ) H0 H1 locs1 → W p l e RR s m args below meth c H1 locs1 cells slots Q (F0 m (pc + 3) ls rest)) : W p l e RR s m args below meth c H locs cells slots Q (F0 m pc ls (.int x :: .ref (gad Γ (25 * r)) :: rest)) := by
  refine g_put0 (C := RX2) (T := TX2) (ci := 2) hexec hb hts hin tyX2 tyX2_ok nmX2 hown hK hG hS hc0 (gC_Rd hr) (by decide) rfl k (Nat.lt_of_lt_of_le hk (by decide)) hlink hsame (gRf_low hk) hfin hd hn hfit hdg (fun H1 locs1 h1 h2 => kk H1 locs1 ?_ h2)
  rw [up2_page, Nat.zero_add, hj] at h1
  exact h1
theorem gRd_getr (hexec : p.tables.exec = Jvm.exec) (hb : c.code = cc) {own : String} {index : Nat} {Ts : List Cond} (hts : ∀ w ∈ Ts, w.before args s = true) (hin : ∀ w ∈ wsX20, w ∈ Ts) (hown : s.vm.findClass own = some m.cls) (hK : GK Γ s) {r c1 : Nat} (hG : GH Γ M R O H) (hr : r < 19) (hc0 : 25 * r ∈ gcs Γ) (k : Nat) (hk : k < 15) (hrf : gRf 2 k = true) (hR : R (25 * r) k = some c1) (hlink : (Cond.fieldLink own index "RoadDust$Road" (TX2 k).2.1 (TX2 k).2.2.1).before args s = true) (hsame : ∀ x, s.fieldFound? (TX2 k).1 (TX2 k).2.1 (TX2 k).2.2.1 = some x → s.fieldFound? "RoadDust$Road" (TX2 k).2.1 (TX2 k).2.2.1 = some x) (hdg : decode cc pc = .ok (.getfield index, 3))
    (kk : W p l e RR s m args below meth c H locs cells slots Q (F0 m (pc + 3) ls (.ref (gad Γ c1) :: rest))) : W p l e RR s m args below meth c H locs cells slots Q (F0 m pc ls (.ref (gad Γ (25 * r)) :: rest)) := by
  refine g_get0 (C := RX2) (T := TX2) (ci := 2) hexec hb hts hin hown hK hG hc0 (gC_Rd hr) (by decide) rfl k hk hlink hsame ?_ hdg kk
  unfold gFd
  rw [if_pos hrf, hR]
  rfl
end GC
