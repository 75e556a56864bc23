/-! THE LAW: its long, its wrappers. Laid by gen/p27.py. -/
theorem arrV1 {cI : ClassId} {f g : Nat → Value} (h : f 0 = g 0) : arrV cI 1 f = arrV cI 1 g := by
  unfold arrV
  congr 1
  refine congrArg Array.ofFn (funext fun j => ?_)
  have : j.val = 0 := by omega
  rw [this]
  exact h
theorem vaP_ent {D : va_G} {cl : List vw_C} {ws : va_W} {H : Heap} {k a : Nat} {e1 e2 : va_E} (h : va_P D cl (ws.set k (a, e1)) H) (he : va_at D cl (a, e1) H → va_at D cl (a, e2) H) : va_P D cl (ws.set k (a, e2)) H := by
  intro i q hq
  by_cases hi : k = i
  · subst hi
    have hl : k < ws.length := by
      have := (List.getElem?_eq_some_iff.mp hq).1
      rwa [List.length_set] at this
    rw [List.getElem?_set_self hl] at hq
    cases hq
    exact he (h k (a, e1) (List.getElem?_set_self hl))
  · rw [List.getElem?_set_ne hi] at hq
    exact h i q (by rw [List.getElem?_set_ne hi]; exact hq)
/-- who throws is none of the classes asked for before -/
def GY (U : State) : Prop := va_Nc xIA xIO U ∧ va_Nc xIS xIO U ∧ va_Nc xIS xIA U
theorem GY.moved {u U : State} (hv : u.vm.Alike U.vm) (h : GY u) : GY U := ⟨h.1.moved hv, h.2.1.moved hv, h.2.2.moved hv⟩
def gPreW (Γ : gX) (av : List Value) (M : Nat → Nat → Int32) (R : Nat → Nat → Option Nat) (O : Int64) : Array Value → State → Prop := va_Pc av (fun U => GH Γ M R O U.heap ∧ GK Γ U ∧ GZ Γ U U.heap ∧ GX U ∧ GY U)
theorem gPreW.blind {Γ : gX} {av : List Value} {M : Nat → Nat → Int32} {R : Nat → Nat → Option Nat} {O : Int64} : FrameBlind (gPreW Γ av M R O) := fun _ U _ _ h => ⟨h.1, h.2.1, GK.same rfl h.2.2.1, GZ.moved (Vm.Alike.refl U.vm) h.2.2.2.1, GX.same (u := U) rfl h.2.2.2.2.1, GY.moved (u := U) (Vm.Alike.refl U.vm) h.2.2.2.2.2⟩
/-- a wrapper of the law: it returns, and may make an exception on its way -/
def gWrp (l : Launch) (Γ : gX) (y : MethodName) (ws : List Cond) (fr lo : Nat) (av : List Value) (M : Nat → Nat → Int32) (R : Nat → Nat → Option Nat) (O : Int64) (v : Option Value) (M1 : Nat → Nat → Int32) (R1 : Nat → Nat → Option Nat) (O1 : Int64) : Prop := vx_Met l y ws (gRx fr lo) (gPreW Γ av M R O) (gQ Γ v M1 R1 O1) (fun _ _ _ => False) 1 6 (gA Γ)
theorem g_startW {l : Launch} {Γ : gX} {y : MethodName} {ws ws' : List Cond} {fr lo : Nat} {av : List Value} {M : Nat → Nat → Int32} {R : Nat → Nat → Option Nat} {O : Int64} {v : Option Value} {M' : Nat → Nat → Int32} {R' : Nat → Nat → Option Nat} {O' : Int64} {cc : ByteArray} {maxL : Nat} {ret : Option FieldType} {hh : List (Nat × Nat × Nat × Nat)} (hy : plainName y.cls = true) (hw : ws = Cond.codeWith y cc maxL ret hh :: ws') (hlen : (lg_sl av).length ≤ maxL)
    (body : ∀ (p : Program) (e : Env) (s : State) (m : MethodId) (below : List Frame) (meth : Method) (c : Code) (ls : Array Slot), p.tables.exec = Jvm.exec → c.code = cc → c.maxLocals = maxL → meth.sig.returnType = ret → (∀ w ∈ ws, w.before av.toArray s = true) → s.vm.findClass y.cls = some m.cls → meth.locks = false → meth.name = y.name → GK Γ s → GZ Γ s s.heap → GH Γ M R O s.heap → va_S (gA Γ) s.heap s.heap [] → lv_has ls maxL (lv_args 0 av) → GX s → GY s → c.exceptionTable.toList = tableOf hh →
      W p l e (gRx fr lo) s m av.toArray below meth c s.heap [] 0 0 (vx_MQ below (gQ Γ v M' R' O') (fun _ _ _ => False) av.toArray s 1 6 (gA Γ)) (F0 m 0 ls [])) : gWrp l Γ y ws fr lo av M R O v M' R' O' := by
  refine vx_ofWH (cc := cc) (maxL := maxL) (ret := ret) (hh := hh) hy hw ?_
  intro p e s m args below meth c s₁ B hml hv
  obtain ⟨rfl, hG, hK, hZ, hX, hY⟩ := hv
  have hl := lv_entry av (n := maxL) hlen
  rw [lg_entry_eq]
  generalize (lg_sl av ++ List.replicate (maxL - (lg_sl av).length) Slot.unset).toArray = ls at hl ⊢
  have hts := atoms_spec (ws := ws) B.pre
  exact body p e s m below meth c ls B.exec B.bytes hml B.returns hts (findClass_of_methodNamed B.named) B.notSynchronized (name_of_methodNamed B.named B.method).1 hK hZ hG va_S.rf hl hX hY (vx_table (x := y) B (hts _ (by rw [hw]; exact List.mem_cons_self)))
section GWr
variable {p : Program} {l : Launch} {e : Env} {RR : Room} {s : State} {m : MethodId} {args : Array Value} {below : List Frame} {meth : Method} {c : Code} {H : Heap} {locs : List Loc} {Q : State → Prop}
variable {cc : ByteArray} {pc : Nat} {ls : Array Slot} {rest : List Value} {Γ : gX} {M M1 : Nat → Nat → Int32} {R R1 : Nat → Nat → Option Nat} {O O1 : Int64}
/-- a call of a method that throws; what comes next is up to the caller's table -/
theorem g_xVc {nL fr lo maxL index n ci b o N c0 : Nat} {Ts ws : List Cond} {own C En : String} {T : u_T} {y : MethodName} {bytes : ByteArray} {ret : Option FieldType} {As st0 : List Value} (hF : CallFix p m c cc nL s args Ts own) (hM : gThr l Γ y ws fr lo (.ref (gad Γ c0) :: As) M R O En M1 R1 O1) (cw : CallW RR s args own C index y bytes maxL ret ws (gRx fr lo) 1 6 n) (hK : GK Γ s) (hZ : GZ Γ s s.heap) (hX : GX s) (hG : GH Γ M R O H) (hS : va_S (gA Γ) s.heap H locs) (hc0 : c0 ∈ gcs Γ) (hC : gC c0 = (ci, b, o)) (h8 : ci < 8) (hcl : vwCl[ci]? = some (C, T, N)) (hn : As.length = n) (hsz : ls.size = nL) (hroom : (rest.map fun v => v.category).sum ≤ 8) (hdg : decode cc pc = .ok (.invokevirtual index, 3)) (hcc : 1 ≤ RR.cells ∧ 6 ≤ RR.slots) (h0 : st0 = As.reverse ++ .ref (gad Γ c0) :: rest)
    (kx : ∀ (ce : Cell) (q9 : Addr) (H1 : Heap) (locs1 : List Loc), GH Γ M1 R1 O1 H1 → va_S (gA Γ) s.heap H1 locs1 → H1[q9]? = some ce → ce.vm = .none → s.vm.findClass En = some ce.cls → vx_W p l e RR s m args below meth c H1 locs1 1 6 Q (F0 m pc ls rest) q9) : W p l e RR s m args below meth c H locs 0 0 Q (F0 m pc ls st0) :=
  g_xafter (a := (Value.ref (gad Γ c0) :: As).toArray) (vx_runV hF hM cw ⟨gPreX.blind, g_recv hK hG hc0 hC h8 hcl, fun U hU hW => ⟨rfl, by rw [hU]; exact hG, hK.warm hW, g_Z hZ hS U hU hW, hX.warm hW⟩⟩ rfl hn hsz h0 (lv_room hroom) hdg ⟨by omega, by omega⟩) hS kx
theorem gx_cast {E : String} (hX : GX s) (h : Cond.castable E E ∈ xW) : (Cond.castable E E).before args s = true := va_tabs rfl rfl (hX.1 _ h)
end GWr
