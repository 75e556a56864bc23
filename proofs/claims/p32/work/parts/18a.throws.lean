/-! CONTRACTS of methods that throw. Laid by gen/p18.py. -/
def xIO : String := "java/lang/IndexOutOfBoundsException"
def xIA : String := "java/lang/IllegalArgumentException"
def xIS : String := "java/lang/IllegalStateException"
def xStr : List (Nat × String) := [(62, "the text is not a road"), (140, "no state is remembered"), (151, "no such house"), (160, "hours out of range"), (183, "no such wagon"), (185, "liters out of range"), (210, "no script of so many commands"), (230, "no such save slot"), (235, "nothing has been saved in it"), (237, "no such segment, house or wagon"), (239, "an argument is out of range"), (241, "this cannot be done now")]
def xW : List Cond := [.castable "java/lang/IndexOutOfBoundsException" "java/lang/IndexOutOfBoundsException", .castable "java/lang/IllegalArgumentException" "java/lang/IllegalArgumentException", .castable "java/lang/IllegalStateException" "java/lang/IllegalStateException", .declares (Bundle.initS "java/lang/RuntimeException"), .declares (Bundle.initS "java/lang/Exception"), .declares (Bundle.initS Bundle.tN)]
/-- what a throw needs of the state beside the world: its words, its texts -/
def GX (U : State) : Prop := (∀ w ∈ xW, w.before #[] U = true) ∧ ∀ x ∈ xStr, ∃ a, vk_R RX6 x.1 x.2 a U
theorem xW_ok : ∀ w ∈ xW, w.onTables = true ∧ w.faceAtom = true := by decide +kernel
theorem GX.same {u U : State} (hv : u.vm = U.vm) (h : GX u) : GX U := ⟨fun w hw => va_tabs (xW_ok w hw).1 hv (h.1 w hw), fun x hx => by obtain ⟨a, ha⟩ := h.2 x hx; exact ⟨a, vk_R.same hv.symm ha⟩⟩
theorem GX.warm {s U : State} (hW : s.WarmedH U.vm) (h : GX s) : GX U := ⟨fun w hw => va_tabs (xW_ok w hw).1 (rfl : (s.setVm U.vm).vm = U.vm) (Cond.faceAtom_setVm hW.alike w (xW_ok w hw).2 (h.1 w hw)), fun x hx => by obtain ⟨a, ha⟩ := h.2 x hx; exact ⟨a, vk_R.warm hW ha⟩⟩
def gXC (Γ : gX) (En : String) (M : Nat → Nat → Int32) (R : Nat → Nat → Option Nat) (O : Int64) : String → State → State → Prop := fun E st t => E = En ∧ GH Γ M R O t.heap ∧ va_F (gA Γ) st t
def gRx (fr lo : Nat) : Room := { frames := fr, cells := 1, slots := 6, locals := lo }
def gPreX (Γ : gX) (av : List Value) (M : Nat → Nat → Int32) (R : Nat → Nat → Option Nat) (O : Int64) : Array Value → State → Prop := va_Pc av (fun U => GH Γ M R O U.heap ∧ GK Γ U ∧ GZ Γ U U.heap ∧ GX U)
theorem gPreX.blind {Γ : gX} {av : List Value} {M : Nat → Nat → Int32} {R : Nat → Nat → Option Nat} {O : Int64} : FrameBlind (gPreX Γ av M R O) := fun _ U _ _ h => ⟨h.1, h.2.1, GK.same rfl h.2.2.1, GZ.moved (Vm.Alike.refl U.vm) h.2.2.2.1, GX.same (u := U) rfl h.2.2.2.2⟩
/-- from the state M, R, O with these arguments the method throws En and leaves the state M1, R1, O1 -/
def gThr (l : Launch) (Γ : gX) (y : MethodName) (ws : List Cond) (fr lo : Nat) (av : List Value) (M : Nat → Nat → Int32) (R : Nat → Nat → Option Nat) (O : Int64) (En : String) (M1 : Nat → Nat → Int32) (R1 : Nat → Nat → Option Nat) (O1 : Int64) : Prop := vx_Met l y ws (gRx fr lo) (gPreX Γ av M R O) (fun _ _ _ _ => False) (gXC Γ En M1 R1 O1) 1 6 (gA Γ)
theorem g_startT {l : Launch} {Γ : gX} {y : MethodName} {ws ws' : List Cond} {fr lo : Nat} {av : List Value} {M : Nat → Nat → Int32} {R : Nat → Nat → Option Nat} {O : Int64} {En : String} {M' : Nat → Nat → Int32} {R' : Nat → Nat → Option Nat} {O' : Int64} {cc : ByteArray} {maxL : Nat} {ret : Option FieldType} (hy : plainName y.cls = true) (hw : ws = Cond.code y cc maxL ret :: ws') (hlen : (lg_sl av).length ≤ maxL)
    (body : ∀ (p : Program) (e : Env) (s : State) (m : MethodId) (below : List Frame) (meth : Method) (c : Code) (ls : Array Slot), p.tables.exec = Jvm.exec → c.code = cc → c.maxLocals = maxL → meth.sig.returnType = ret → (∀ w ∈ ws, w.before av.toArray s = true) → s.vm.findClass y.cls = some m.cls → meth.locks = false → meth.name = y.name → GK Γ s → GZ Γ s s.heap → GH Γ M R O s.heap → va_S (gA Γ) s.heap s.heap [] → lv_has ls maxL (lv_args 0 av) → GX s → (∀ x ∈ c.exceptionTable.toList, False) →
      W p l e (gRx fr lo) s m av.toArray below meth c s.heap [] 0 0 (vx_MQ below (fun _ _ _ _ => False) (gXC Γ En M' R' O') av.toArray s 1 6 (gA Γ)) (F0 m 0 ls [])) : gThr l Γ y ws fr lo av M R O En M' R' O' := by
  refine vx_ofW (cc := cc) (maxL := maxL) (ret := ret) hy hw ?_
  intro p e s m args below meth c s₁ B hml hnx hv
  obtain ⟨rfl, hG, hK, hZ, hX⟩ := hv
  have hl := lv_entry av (n := maxL) hlen
  rw [lg_entry_eq]
  generalize (lg_sl av ++ List.replicate (maxL - (lg_sl av).length) Slot.unset).toArray = ls at hl ⊢
  exact body p e s m below meth c ls B.exec B.bytes hml B.returns (atoms_spec (ws := ws) B.pre) (findClass_of_methodNamed B.named) B.notSynchronized (name_of_methodNamed B.named B.method).1 hK hZ hG va_S.rf hl hX hnx
theorem GH.kept {Γ : gX} {M : Nat → Nat → Int32} {R : Nat → Nat → Option Nat} {O : Int64} {H H1 : Heap} (hG : GH Γ M R O H) (hq : ∀ q : Nat, q < H.size → H1[q]? = H[q]?) : GH Γ M R O H1 := ⟨va_P.kept hG.1 (fun k q hk => hq q.1 (vx_lt hG.1 hk)), hG.2⟩
section GXr
variable {p : Program} {l : Launch} {e : Env} {RR : Room} {s : State} {m : MethodId} {args : Array Value} {below : List Frame} {meth : Method} {c : Code} {H : Heap} {locs : List Loc} {Q : State → Prop}
variable {cc : ByteArray} {pc : Nat} {ls : Array Slot} {rest : List Value} {Γ : gX} {M M1 : Nat → Nat → Int32} {R R1 : Nat → Nat → Option Nat} {O O1 : Int64} {Qc : Array Value → State → Outcome → State → Prop}
theorem g_throw {cls text : String} {ik is ic : Nat} {Ts : List Cond} (hexec : p.tables.exec = Jvm.exec) (hb : c.code = cc) (hl : l.stackTraces = false) (hown : s.vm.findClass RX6 = some m.cls) (hfit : Bundle.fit cls = true) (hts : ∀ w ∈ Ts, w.before args s = true) (hk : Cond.classLink RX6 ik cls ∈ Ts) (hini : Cond.initialized cls ∈ Ts) (hgw : ∀ w ∈ (vx_atS RX6 ic cls ["java/lang/RuntimeException", "java/lang/Exception"]).filter goodWord, w ∈ Ts) (hng : ∀ w ∈ (vx_atS RX6 ic cls ["java/lang/RuntimeException", "java/lang/Exception"]).filter (fun w => !goodWord w), w ∈ xW) (hgood : ∀ w ∈ Cond.classLink RX6 ik cls :: Cond.initialized cls :: vx_atS RX6 ic cls ["java/lang/RuntimeException", "java/lang/Exception"], vx_ot w = true) (hstr : (is, text) ∈ xStr) (hX : GX s) (hZ : GZ Γ s s.heap) (hG : GH Γ M R O H) (hS : va_S (gA Γ) s.heap H locs) (hsize : ls.size = c.maxLocals)
    (d0 : decode cc pc = .ok (.new ik, 3)) (d3 : decode cc (pc + 3) = .ok (.dup, 1)) (d4 : decode cc (pc + 4) = .ok (.ldc is, 2)) (d6 : decode cc (pc + 6) = .ok (.invokespecial ic, 3)) (d9 : decode cc (pc + 9) = .ok (.athrow, 1)) (hnx : ∀ x ∈ c.exceptionTable.toList, False) (hRf : 5 < RR.frames) (hRl : (rest.map fun v => v.category).sum + 82 ≤ RR.locals) (hRc : 1 ≤ RR.cells ∧ 6 ≤ RR.slots) (hlocks : meth.locks = false) :
    W p l e RR s m args below meth c H locs 0 0 (vx_MQ below Qc (gXC Γ cls M R O) args s 1 6 (gA Γ)) (F0 m pc ls rest) := by
  obtain ⟨sa, hsa⟩ := hX.2 _ hstr
  refine vx_throwS (names := ["java/lang/RuntimeException", "java/lang/Exception"]) (A := gA Γ) hexec hb hl hown hfit (by decide +kernel) (hts _ hk) (hts _ hini) hsa ?_ hgood hZ.1 hZ.2.1 hS hsize d0 d3 d4 d6 d9 (fun x hx => (hnx x hx).elim) hRf hRl (by omega) (by omega) hlocks ?_ hS.2.2 (by omega) (by omega)
  · exact vx_hat (B := xW) (fun w hw => hts w (hgw w hw)) hng (fun w hw => va_tabs (xW_ok w hw).1 rfl (hX.1 w hw))
  · intro t _ hz hq
    refine ⟨rfl, hG.kept hq, Nat.le_trans hS.1 hz, fun q h1 h2 => ?_⟩
    rw [hq q (Nat.lt_of_lt_of_le h1 hS.1)]
    exact hS.2.1 q h1 h2
theorem g_xafter {En : String} {st0 : List Value} {a : Array Value} (hr : vx_Run p l e RR s m args below meth c H locs 0 0 1 6 (F0 m pc ls st0) rest ((fun _ _ _ _ => False : Array Value → State → Outcome → State → Prop) a) (gXC Γ En M1 R1 O1) (gA Γ)) (hS : va_S (gA Γ) s.heap H locs)
    (kx : ∀ (ce : Cell) (q9 : Addr) (H1 : Heap) (locs1 : List Loc), GH Γ M1 R1 O1 H1 → va_S (gA Γ) s.heap H1 locs1 → H1[q9]? = some ce → ce.vm = .none → s.vm.findClass En = some ce.cls → vx_W p l e RR s m args below meth c H1 locs1 1 6 Q (F0 m pc ls rest) q9) : W p l e RR s m args below meth c H locs 0 0 Q (F0 m pc ls st0) := by
  intro T hT X
  rcases hr T hT X with ⟨v, st₀, t, T', L, h0, X', hL, e1, e2, hF, st⟩ | ⟨q, st₀, t, T', L, E, ce, h0, X', hL, e1, e2, ⟨hE, hG1, hF⟩, hce, hcv, hcl, st⟩
  · exact hF.elim
  · subst hE
    obtain ⟨k1, k2, k3⟩ := vx_keep h0 e1 hS (fun q _ h => h) (fun q h => h) hL hF
    obtain ⟨t2, a1, b1⟩ := kx ce q T'.heap (locs ++ L) (by rw [e1]; exact hG1) k3 (by rw [e1]; exact hce) hcv hcl T' rfl X'
    exact ⟨t2, st.trans a1, b1⟩
theorem g_xout {En : String} {ce : Cell} {q9 : Addr} (hnx : ∀ x ∈ c.exceptionTable.toList, False) (hlocks : meth.locks = false) (hG : GH Γ M1 R1 O1 H) (hS : va_S (gA Γ) s.heap H locs) (hce : H[q9]? = some ce) (hcv : ce.vm = .none) (hcl : s.vm.findClass En = some ce.cls) : vx_W p l e RR s m args below meth c H locs 1 6 (vx_MQ below Qc (gXC Γ En M1 R1 O1) args s 1 6 (gA Γ)) (F0 m pc ls rest) q9 :=
  vx_out (fun x hx => (hnx x hx).elim) hlocks hce hcv hcl (fun t ht _ => ⟨rfl, by rw [ht]; exact hG, hS.F ht⟩) hS.2.2 (Nat.le_refl _) (Nat.le_refl _)
/-- a call of a static method of the same class that throws: out of here, too -/
theorem g_xS {nL fr lo maxL index n : Nat} {Ts ws : List Cond} {own En : String} {y : MethodName} {bytes : ByteArray} {ret : Option FieldType} {As st0 : List Value} (hF : CallFix p m c cc nL s args Ts own) (hM : gThr l Γ y ws fr lo As M R O En M1 R1 O1) (cw : CallB RR s args own index y bytes maxL ret ws (gRx fr lo) 1 6 n ∧ (Cond.static y).before args s = true) (hK : GK Γ s) (hZ : GZ Γ s s.heap) (hX : GX s) (hG : GH Γ M R O H) (hS : va_S (gA Γ) s.heap H locs) (hn : As.length = n) (hsz : ls.size = nL) (hroom : (rest.map fun v => v.category).sum ≤ 8) (hdg : decode cc pc = .ok (.invokestatic index, 3)) (hcc : 1 ≤ RR.cells ∧ 6 ≤ RR.slots) (h0 : st0 = As.reverse ++ rest) (hnx : ∀ x ∈ c.exceptionTable.toList, False) (hlocks : meth.locks = false) : W p l e RR s m args below meth c H locs 0 0 (vx_MQ below Qc (gXC Γ En M1 R1 O1) args s 1 6 (gA Γ)) (F0 m pc ls st0) :=
  g_xafter (a := As.toArray) (vx_runS hF hM cw ⟨gPreX.blind, fun U hU hW => ⟨rfl, by rw [hU]; exact hG, hK.warm hW, g_Z hZ hS U hU hW, hX.warm hW⟩⟩ rfl hn hsz h0 (lv_room hroom) hdg ⟨by omega, by omega⟩) hS (fun ce q9 H1 locs1 hG1 hS1 hce hcv hcl => g_xout hnx hlocks hG1 hS1 hce hcv hcl)
theorem g_xV {nL fr lo maxL index n ci b o N c0 : Nat} {Ts ws : List Cond} {own C En : String} {T : u_T} {y : MethodName} {bytes : ByteArray} {ret : Option FieldType} {As st0 : List Value} (hF : CallFix p m c cc nL s args Ts own) (hM : gThr l Γ y ws fr lo (.ref (gad Γ c0) :: As) M R O En M1 R1 O1) (cw : CallW RR s args own C index y bytes maxL ret ws (gRx fr lo) 1 6 n) (hK : GK Γ s) (hZ : GZ Γ s s.heap) (hX : GX s) (hG : GH Γ M R O H) (hS : va_S (gA Γ) s.heap H locs) (hc0 : c0 ∈ gcs Γ) (hC : gC c0 = (ci, b, o)) (h8 : ci < 8) (hcl : vwCl[ci]? = some (C, T, N)) (hn : As.length = n) (hsz : ls.size = nL) (hroom : (rest.map fun v => v.category).sum ≤ 8) (hdg : decode cc pc = .ok (.invokevirtual index, 3)) (hcc : 1 ≤ RR.cells ∧ 6 ≤ RR.slots) (h0 : st0 = As.reverse ++ .ref (gad Γ c0) :: rest) (hnx : ∀ x ∈ c.exceptionTable.toList, False) (hlocks : meth.locks = false) : W p l e RR s m args below meth c H locs 0 0 (vx_MQ below Qc (gXC Γ En M1 R1 O1) args s 1 6 (gA Γ)) (F0 m pc ls st0) :=
  g_xafter (a := (Value.ref (gad Γ c0) :: As).toArray) (vx_runV hF hM cw ⟨gPreX.blind, g_recv hK hG hc0 hC h8 hcl, fun U hU hW => ⟨rfl, by rw [hU]; exact hG, hK.warm hW, g_Z hZ hS U hU hW, hX.warm hW⟩⟩ rfl hn hsz h0 (lv_room hroom) hdg ⟨by omega, by omega⟩) hS (fun ce q9 H1 locs1 hG1 hS1 hce hcv hcl => g_xout hnx hlocks hG1 hS1 hce hcv hcl)
end GXr
