/-! THE LAW: contracts of its methods between two states of the object, calls. -/
def lRm (fr lo c : Nat) : Room := { frames := fr, cells := c, slots := 6 * c, locals := lo }
def lM (l : Launch) (Γ : gX) (y : MethodName) (ws : List Cond) (fr lo c : Nat) (av : List Value) (Sh : Heap → Prop) (v : Option Value) (Sh1 : Heap → Prop) : Prop := Met l y ws (lRm fr lo c) (lPre Γ av Sh) (lQ Γ v Sh1) c (6 * c) (gA Γ)
theorem l_start {l : Launch} {Γ : gX} {y : MethodName} {ws ws' : List Cond} {fr lo C : Nat} {av : List Value} {Sh Sh1 : Heap → Prop} {v : Option Value} {cc : ByteArray} {maxL : Nat} {ret : Option FieldType} (hy : plainName y.cls = true) (hw : ws = Cond.code y cc maxL ret :: ws') (hlen : (lg_sl av).length ≤ maxL)
    (body : ∀ (p : Program) (e : Env) (s : State) (m : MethodId) (below : List Frame) (meth : Method) (c : Code) (ls : Array Slot), p.tables.exec = Jvm.exec → c.code = cc → c.maxLocals = maxL → meth.sig.returnType = ret → (∀ w ∈ ws, w.before av.toArray s = true) → s.vm.findClass y.cls = some m.cls → meth.locks = false → GK Γ s → GZ Γ s s.heap → GX s → GY s → Sh s.heap → va_S (gA Γ) s.heap s.heap [] → lv_has ls maxL (lv_args 0 av) →
      W p l e (lRm fr lo C) s m av.toArray below meth c s.heap [] 0 (6 * 0) (MQ below (lQ Γ v Sh1) av.toArray s C (6 * C) (gA Γ)) (F0 m 0 ls [])) : lM l Γ y ws fr lo C av Sh v Sh1 := by
  refine Met.ofW (cc := cc) (maxL := maxL) (ret := ret) hy hw ?_
  intro p e s m args below meth c s₁ B hml hv
  obtain ⟨rfl, hG, hK, hZ, hX, hY⟩ := hv
  have hl := lv_entry av (n := maxL) hlen
  rw [lg_entry_eq]
  generalize (lg_sl av ++ List.replicate (maxL - (lg_sl av).length) Slot.unset).toArray = ls at hl ⊢
  exact body p e s m below meth c ls B.exec B.bytes hml B.returns (atoms_spec (ws := ws) B.pre) (findClass_of_methodNamed B.named) B.notSynchronized hK hZ hX hY hG va_S.rf hl
section GLw
variable {p : Program} {l : Launch} {e : Env} {RR : Room} {s : State} {m : MethodId} {args : Array Value} {below : List Frame} {meth : Method} {c : Code} {H : Heap} {locs : List Loc} {Q : State → Prop}
variable {cc : ByteArray} {pc : Nat} {ls : Array Slot} {rest : List Value} {Γ : gX} {Sh Sh1 : Heap → Prop} {X K CC : Nat}
/-- a call of a wrapper -/
theorem l_callW {nL maxL index n : Nat} {Ts ws : List Cond} {own : String} {y : MethodName} {bytes : ByteArray} {ret : Option FieldType} {hh : List (Nat × Nat × Nat × Nat)} {As st0 st1 : List Value} {v : Int32} (hF : CallFix p m c cc nL s args Ts own) (hM : lW l Γ y ws As Sh v Sh1) (cw : vx_CSW RR s args own index y bytes maxL ret hh ws (gRx 9 180) 1 6 n) (hK : GK Γ s) (hZ : GZ Γ s s.heap) (hX : GX s) (hY : GY s) (hG : Sh H) (hS : va_S (gA Γ) s.heap H locs) (hn : As.length = n) (hsz : ls.size = nL) (hroom : (rest.map fun v => v.category).sum ≤ 8) (hdg : decode cc pc = .ok (.invokestatic index, 3)) (hR : CC ≤ RR.cells ∧ 6 * CC ≤ RR.slots) (h1 : X + 1 ≤ K) (h2 : X + 1 ≤ CC) (h0 : st0 = As.reverse ++ rest) (h9 : .int v :: rest = st1)
    (kk : ∀ (H1 : Heap) (locs1 : List Loc), Sh1 H1 → va_S (gA Γ) s.heap H1 locs1 → W p l e RR s m args below meth c H1 locs1 K (6 * K) Q (F0 m (pc + 3) ls st1)) : W p l e RR s m args below meth c H locs X (6 * X) Q (F0 m pc ls st0) := by
  subst h9
  have hr : vx_Run p l e RR s m args below meth c H locs X (6 * X) 1 6 (F0 m pc ls st0) rest (lQ Γ (some (.int v)) Sh1 As.toArray) (fun _ _ _ => False) (gA Γ) := vx_runSX hF hM cw ⟨lPre.blind, fun U hU hW => ⟨rfl, by rw [hU]; exact hG, hK.warm hW, g_Z hZ hS U hU hW, hX.warm hW, hY.moved hW.alike⟩⟩ rfl hn hsz h0 (lv_room hroom) hdg ⟨by omega, by omega⟩
  intro T hT X
  rcases hr T hT X with ⟨v', st₀, t, T', L, e0, X', hL, e1, e2, ⟨hv, hG1, hz, hk⟩, st⟩ | ⟨q, st₀, t, T', L, E, ce, e0, X', hL, e1, e2, hFF, hce, hcv, hcl, st⟩
  · cases hv
    rw [e0] at hz hk
    obtain ⟨t2, a1, b1⟩ := W.widen h1 (by omega) (kk T'.heap (locs ++ L) (by rw [e1]; exact hG1)
      ⟨Nat.le_trans hS.1 (by rw [e1]; exact hz), fun q h1 h2 => by rw [e1, hk q (Nat.lt_of_lt_of_le h1 hS.1) h2]; exact hS.2.1 q h1 h2, fun q hq => by
        rcases List.mem_append.mp hq with h | h
        · exact hS.2.2 q h
        · exact hL q h⟩) T' rfl X'
    exact ⟨t2, st t2 a1, b1⟩
  · exact hFF.elim
/-- a call of a method of the law -/
theorem l_call {nL fr lo mc maxL index n : Nat} {Ts ws : List Cond} {own : String} {y : MethodName} {bytes : ByteArray} {ret : Option FieldType} {As st0 st1 : List Value} {v : Option Value} (hF : CallFix p m c cc nL s args Ts own) (hM : lM l Γ y ws fr lo mc As Sh v Sh1) (cw : CallB RR s args own index y bytes maxL ret ws (lRm fr lo mc) mc (6 * mc) n ∧ (Cond.static y).before args s = true) (hK : GK Γ s) (hZ : GZ Γ s s.heap) (hX : GX s) (hY : GY s) (hG : Sh H) (hS : va_S (gA Γ) s.heap H locs) (hn : As.length = n) (hsz : ls.size = nL) (hroom : (rest.map fun v => v.category).sum ≤ 8) (hdg : decode cc pc = .ok (.invokestatic index, 3)) (hR : CC ≤ RR.cells ∧ 6 * CC ≤ RR.slots) (h1 : X + mc ≤ K) (h2 : X + mc ≤ CC) (h0 : st0 = As.reverse ++ rest) (h9 : v.toList ++ rest = st1)
    (kk : ∀ (H1 : Heap) (locs1 : List Loc), Sh1 H1 → va_S (gA Γ) s.heap H1 locs1 → W p l e RR s m args below meth c H1 locs1 K (6 * K) Q (F0 m (pc + 3) ls st1)) : W p l e RR s m args below meth c H locs X (6 * X) Q (F0 m pc ls st0) := by
  subst h9
  have hr : va_Run p l e RR s m args below meth c H locs X (6 * X) mc (6 * mc) (F0 m pc ls st0) rest (lQ Γ v Sh1 As.toArray) (gA Γ) := va_runS (Pc := lPre Γ As Sh) (Qc := lQ Γ v Sh1) hF hM cw ⟨lPre.blind, fun U hU hW => ⟨rfl, by rw [hU]; exact hG, hK.warm hW, g_Z hZ hS U hU hW, hX.warm hW, hY.moved hW.alike⟩⟩ rfl hn hsz h0 (lv_room hroom) hdg ⟨by omega, by omega⟩
  intro T hT X
  obtain ⟨v', st₀, t, T', L, e0, X', hL, e1, e2, ⟨hv, hG1, hz, hk⟩, st⟩ := hr T hT X
  cases hv
  rw [e0] at hz hk
  obtain ⟨t2, a1, b1⟩ := W.widen h1 (by omega) (kk T'.heap (locs ++ L) (by rw [e1]; exact hG1)
    ⟨Nat.le_trans hS.1 (by rw [e1]; exact hz), fun q h1 h2 => by rw [e1, hk q (Nat.lt_of_lt_of_le h1 hS.1) h2]; exact hS.2.1 q h1 h2, fun q hq => by
      rcases List.mem_append.mp hq with h | h
      · exact hS.2.2 q h
      · exact hL q h⟩) T' rfl X'
  exact ⟨t2, st t2 a1, b1⟩
theorem l_iret {C : Nat} (hexec : p.tables.exec = Jvm.exec) (hb : c.code = cc) (hr : meth.sig.returnType = some .int) (hlocks : meth.locks = false) (hS : va_S (gA Γ) s.heap H locs) (hG : Sh H) {x x' : Int32} (hv : x = x') (hC : X ≤ C) (hdg : decode cc pc = .ok (.ireturn, 1)) : W p l e RR s m args below meth c H locs X (6 * X) (MQ below (lQ Γ (some (.int x')) Sh) args s C (6 * C) (gA Γ)) (F0 m pc ls [.int x]) := by
  subst hv
  exact W.widen hC (by omega) (W.iret hexec hb hr (fun t ht hW => ⟨rfl, by rw [ht]; exact hG, hS.F ht⟩) hS.2.2 hdg hlocks)
theorem l_lret {C : Nat} (hexec : p.tables.exec = Jvm.exec) (hb : c.code = cc) (hr : meth.sig.returnType = some .long) (hlocks : meth.locks = false) (hS : va_S (gA Γ) s.heap H locs) (hG : Sh H) {x x' : Int64} (hv : x = x') (hC : X ≤ C) (hdg : decode cc pc = .ok (.lreturn, 1)) : W p l e RR s m args below meth c H locs X (6 * X) (MQ below (lQ Γ (some (.long x')) Sh) args s C (6 * C) (gA Γ)) (F0 m pc ls [.long x]) := by
  subst hv
  exact W.widen hC (by omega) (W.lret hexec hb hr (fun t ht hW => ⟨rfl, by rw [ht]; exact hG, hS.F ht⟩) hS.2.2 hdg hlocks)
theorem l_zret {C : Nat} (hexec : p.tables.exec = Jvm.exec) (hb : c.code = cc) (hr : meth.sig.returnType = some .boolean) (hlocks : meth.locks = false) (hS : va_S (gA Γ) s.heap H locs) (hG : Sh H) {x x' : Int32} (hn : x &&& 1 = x) (hv : x = x') (hC : X ≤ C) (hdg : decode cc pc = .ok (.ireturn, 1)) : W p l e RR s m args below meth c H locs X (6 * X) (MQ below (lQ Γ (some (.int x')) Sh) args s C (6 * C) (gA Γ)) (F0 m pc ls [.int x]) := by
  subst hv
  exact W.widen hC (by omega) (W.zret hexec hb hr (congrArg Value.int hn) (fun t ht hW => ⟨rfl, by rw [ht]; exact hG, hS.F ht⟩) hS.2.2 hdg hlocks)
/-- a long on the stack, by another name -/
theorem g_topL {x y : Int64} {cells slots : Nat} (h : x = y) (k : W p l e RR s m args below meth c H locs cells slots Q (F0 m pc ls (.long y :: rest))) : W p l e RR s m args below meth c H locs cells slots Q (F0 m pc ls (.long x :: rest)) := h ▸ k
/-- a loop: Inv at each turn -/
theorem loopN (n X0 d : Nat) (Inv : Nat → Heap → List Loc → Array Slot → Prop) (pc : Nat)
    (step : ∀ i, i < n → ∀ (H : Heap) (locs : List Loc) (ls : Array Slot), Inv i H locs ls → (∀ (H1 : Heap) (locs1 : List Loc) (ls1 : Array Slot), Inv (i + 1) H1 locs1 ls1 → W p l e RR s m args below meth c H1 locs1 (X0 + d * (i + 1)) (6 * (X0 + d * (i + 1))) Q (F0 m pc ls1 [])) → W p l e RR s m args below meth c H locs (X0 + d * i) (6 * (X0 + d * i)) Q (F0 m pc ls []))
    (out : ∀ (H : Heap) (locs : List Loc) (ls : Array Slot), Inv n H locs ls → W p l e RR s m args below meth c H locs (X0 + d * n) (6 * (X0 + d * n)) Q (F0 m pc ls [])) :
    ∀ r i, i + r = n → ∀ (H : Heap) (locs : List Loc) (ls : Array Slot), Inv i H locs ls → W p l e RR s m args below meth c H locs (X0 + d * i) (6 * (X0 + d * i)) Q (F0 m pc ls [])
  | 0, i, hi, H, locs, ls, h => by
    obtain rfl : i = n := by omega
    exact out H locs ls h
  | r + 1, i, hi, H, locs, ls, h => step i (by omega) H locs ls h (fun H1 locs1 ls1 h1 => loopN n X0 d Inv pc step out r (i + 1) (by omega) H1 locs1 ls1 h1)
end GLw
