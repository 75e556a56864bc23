/-! THE LAW: two objects in one heap. -/
set_option maxRecDepth 16384
/-- kept, whatever the cells of A become -/
def kp (S : Heap → Prop) (A : Nat → Prop) : Prop := ∀ H H1 : Heap, S H → H.size ≤ H1.size → (∀ q : Nat, q < H.size → ¬ A q → H1[q]? = H[q]?) → S H1
/-- the object's cells lie in B -/
def inB (Γ : gX) (B : Nat → Prop) : Prop := ∀ c, c ∈ gcs Γ → B (gad Γ c)
theorem SH.kp {Γ : gX} {N : Nat → Int32} {Hy : Nat → Nat → Int32} {k : Nat} {w : WO} {A B : Nat → Prop} (hB : inB Γ B) (hAB : ∀ q, B q → ¬ A q) : kp (SH Γ N Hy k w) A := by
  intro H H1 h hz hq
  obtain ⟨Z, R, hI, hG⟩ := h
  refine ⟨Z, R, hI, va_P.kept hG.1 (fun k q hk => hq q.1 (vx_lt hG.1 hk) ?_), hG.2⟩
  obtain ⟨c, hc, e⟩ := List.mem_map.mp (List.mem_of_getElem? hk)
  rw [← e]
  exact hAB _ (hB c hc)
/-- the world Γ of one object within Γz, the world of all that is new -/
def TW (Γz Γ : gX) (s : State) (h3 : Nat) : Prop := GK Γ s ∧ GZ Γz s s.heap ∧ (∀ q, gA Γ q → gA Γz q) ∧ (∀ q, h3 ≤ q → gA Γ q) ∧ (∀ q, gA Γz q → s.heap.size ≤ q) ∧ GX s ∧ GY s
def HH (Γz : gX) (s : State) (h3 : Nat) (S : Heap → Prop) (H : Heap) : Prop := S H ∧ va_S (gA Γz) s.heap H [] ∧ h3 ≤ H.size
section GL2
variable {p : Program} {l : Launch} {e : Env} {RR : Room} {s : State} {m : MethodId} {args : Array Value} {below : List Frame} {meth : Method} {c : Code} {H : Heap} {Q : State → Prop}
variable {cc : ByteArray} {pc : Nat} {ls : Array Slot} {rest : List Value} {Γz Γ : gX} {h3 : Nat} {Sh Sh1 Sq : Heap → Prop} {X K CC : Nat}
theorem TW.Z (T : TW Γz Γ s h3) (hS : va_S (gA Γz) s.heap H []) (hz : h3 ≤ H.size) : ∀ U : State, U.heap = H → s.WarmedH U.vm → GZ Γ U U.heap := fun U hU hW => by
  have h := g_Z T.2.1 hS U hU hW
  refine ⟨h.1.narrow T.2.2.1, h.2.1.narrow T.2.2.1, fun q hq => T.2.2.2.1 q ?_⟩
  rw [hU] at hq
  exact Nat.le_trans hz hq
/-- behind a call: what is new is forgotten -/
theorem HH.next {locs : List Loc} {H1 : Heap} (T : TW Γz Γ s h3) (hkp : kp Sq (gA Γ)) (hq : Sq H) (hS : va_S (gA Γz) s.heap H []) (hz : h3 ≤ H.size) (hG1 : Sh1 H1) (hz1 : H.size ≤ H1.size) (hk : ∀ q : Nat, q < H.size → ¬ gA Γ q → H1[q]? = H[q]?) : HH Γz s h3 (fun H => Sh1 H ∧ Sq H) H1 := by
  refine ⟨⟨hG1, hkp H H1 hq hz1 hk⟩, ⟨Nat.le_trans hS.1 hz1, fun q h1 h2 => ?_, fun q hq => by cases hq⟩, Nat.le_trans hz hz1⟩
  rw [hk q (Nat.lt_of_lt_of_le h1 hS.1) (fun h => h2 (T.2.2.1 q h))]
  exact hS.2.1 q h1 h2
theorem l_call2 {nL fr lo mc maxL index n : Nat} {Ts ws : List Cond} {own : String} {y : MethodName} {bytes : ByteArray} {ret : Option FieldType} {As st0 st1 : List Value} {v : Option Value} (hF : CallFix p m c cc nL s args Ts own) (hM : lM l Γ y ws fr lo mc As Sh v Sh1) (cw : CallB RR s args own index y bytes maxL ret ws (lRm fr lo mc) mc (6 * mc) n ∧ (Cond.static y).before args s = true) (T : TW Γz Γ s h3) (hkp : kp Sq (gA Γ)) (hH : HH Γz s h3 (fun H => Sh H ∧ Sq H) H) (hn : As.length = n) (hsz : ls.size = nL) (hroom : (rest.map fun v => v.category).sum ≤ 8) (hdg : decode cc pc = .ok (.invokestatic index, 3)) (hR : CC ≤ RR.cells ∧ 6 * CC ≤ RR.slots) (h1 : X + mc ≤ K) (h2 : X + mc ≤ CC) (h0 : st0 = As.reverse ++ rest) (h9 : v.toList ++ rest = st1)
    (kk : ∀ H1 : Heap, HH Γz s h3 (fun H => Sh1 H ∧ Sq H) H1 → W p l e RR s m args below meth c H1 [] K (6 * K) Q (F0 m (pc + 3) ls st1)) : W p l e RR s m args below meth c H [] X (6 * X) Q (F0 m pc ls st0) := by
  subst h9
  obtain ⟨⟨hG, hq⟩, hS, hz⟩ := hH
  have hr : va_Run p l e RR s m args below meth c H [] X (6 * X) mc (6 * mc) (F0 m pc ls st0) rest (lQ Γ v Sh1 As.toArray) (gA Γ) := va_runS (Pc := lPre Γ As Sh) (Qc := lQ Γ v Sh1) hF hM cw ⟨lPre.blind, fun U hU hW => ⟨rfl, by rw [hU]; exact hG, T.1.warm hW, T.Z hS hz U hU hW, T.2.2.2.2.2.1.warm hW, T.2.2.2.2.2.2.moved hW.alike⟩⟩ rfl hn hsz h0 (lv_room hroom) hdg ⟨by omega, by omega⟩
  intro T0 hT X0
  obtain ⟨v', st₀, t, T', L, e0, X', hL, e1, e2, ⟨hv, hG1, hz1, hk⟩, st⟩ := hr T0 hT X0
  cases hv
  rw [e0] at hz1 hk
  have hN : HH Γz s h3 (fun H => Sh1 H ∧ Sq H) T'.heap := HH.next (Sh1 := Sh1) (locs := []) T hkp hq hS hz (by rw [e1]; exact hG1) (by rw [e1]; exact hz1) (fun q h1 h2 => by rw [e1]; exact hk q h1 h2)
  obtain ⟨t2, a1, b1⟩ := va_forget (locs := [] ++ L) (fun q hq => T.2.2.2.2.1 _ (T.2.2.1 _ (hL q hq))) (W.widen h1 (by omega) (kk T'.heap hN)) T' rfl X'
  exact ⟨t2, st t2 a1, b1⟩
theorem l_callW2 {nL maxL index n : Nat} {Ts ws : List Cond} {own : String} {y : MethodName} {bytes : ByteArray} {ret : Option FieldType} {hh : List (Nat × Nat × Nat × Nat)} {As st0 st1 : List Value} {v : Int32} (hF : CallFix p m c cc nL s args Ts own) (hM : lW l Γ y ws As Sh v Sh1) (cw : vx_CSW RR s args own index y bytes maxL ret hh ws (gRx 9 180) 1 6 n) (T : TW Γz Γ s h3) (hkp : kp Sq (gA Γ)) (hH : HH Γz s h3 (fun H => Sh H ∧ Sq H) H) (hn : As.length = n) (hsz : ls.size = nL) (hroom : (rest.map fun v => v.category).sum ≤ 8) (hdg : decode cc pc = .ok (.invokestatic index, 3)) (hR : CC ≤ RR.cells ∧ 6 * CC ≤ RR.slots) (h1 : X + 1 ≤ K) (h2 : X + 1 ≤ CC) (h0 : st0 = As.reverse ++ rest) (h9 : .int v :: rest = st1)
    (kk : ∀ H1 : Heap, HH Γz s h3 (fun H => Sh1 H ∧ Sq H) H1 → W p l e RR s m args below meth c H1 [] K (6 * K) Q (F0 m (pc + 3) ls st1)) : W p l e RR s m args below meth c H [] X (6 * X) Q (F0 m pc ls st0) := by
  subst h9
  obtain ⟨⟨hG, hq⟩, hS, hz⟩ := hH
  have hr : vx_Run p l e RR s m args below meth c H [] X (6 * X) 1 6 (F0 m pc ls st0) rest (lQ Γ (some (.int v)) Sh1 As.toArray) (fun _ _ _ => False) (gA Γ) := vx_runSX hF hM cw ⟨lPre.blind, fun U hU hW => ⟨rfl, by rw [hU]; exact hG, T.1.warm hW, T.Z hS hz U hU hW, T.2.2.2.2.2.1.warm hW, T.2.2.2.2.2.2.moved hW.alike⟩⟩ rfl hn hsz h0 (lv_room hroom) hdg ⟨by omega, by omega⟩
  intro T0 hT X0
  rcases hr T0 hT X0 with ⟨v', st₀, t, T', L, e0, X', hL, e1, e2, ⟨hv, hG1, hz1, hk⟩, st⟩ | ⟨q, st₀, t, T', L, E, ce, e0, X', hL, e1, e2, hFF, hce, hcv, hcl, st⟩
  · cases hv
    rw [e0] at hz1 hk
    have hN : HH Γz s h3 (fun H => Sh1 H ∧ Sq H) T'.heap := HH.next (Sh1 := Sh1) (locs := []) T hkp hq hS hz (by rw [e1]; exact hG1) (by rw [e1]; exact hz1) (fun q h1 h2 => by rw [e1]; exact hk q h1 h2)
    obtain ⟨t2, a1, b1⟩ := va_forget (locs := [] ++ L) (fun q hq => T.2.2.2.2.1 _ (T.2.2.1 _ (hL q hq))) (W.widen h1 (by omega) (kk T'.heap hN)) T' rfl X'
    exact ⟨t2, st t2 a1, b1⟩
  · exact hFF.elim
theorem HH.swap {Sa Sb : Heap → Prop} (h : HH Γz s h3 (fun H => Sa H ∧ Sb H) H) : HH Γz s h3 (fun H => Sb H ∧ Sa H) H := ⟨⟨h.1.2, h.1.1⟩, h.2⟩
end GL2
