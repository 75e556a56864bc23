/-! THE LAW: a call of a wrapper; what holds at the loop's head. -/
section GCW
variable {p : Program} {l : Launch} {e : Env} {RR : Room} {s : State} {m : MethodId} {args : Array Value} {below : List Frame} {meth : Method} {c : Code} {H : Heap} {locs : List Loc} {cells slots : Nat} {Q : State → Prop}
variable {cc : ByteArray} {pc : Nat} {ls : Array Slot} {rest : List Value} {Γ : gX} {M M1 : Nat → Nat → Int32} {R R1 : Nat → Nat → Option Nat} {O O1 : Int64}
/-- a call of a wrapper: it may make an exception on its way -/
theorem g_callW {nL fr lo maxL index n : Nat} {Ts ws : List Cond} {own : String} {y : MethodName} {bytes : ByteArray} {ret : Option FieldType} {hh : List (Nat × Nat × Nat × Nat)} {As st0 st1 : List Value} {v : Option Value} (hF : CallFix p m c cc nL s args Ts own) (hM : gWrp l Γ y ws fr lo As M R O v M1 R1 O1) (cw : vx_CSW RR s args own index y bytes maxL ret hh ws (gRx fr lo) 1 6 n) (hK : GK Γ s) (hZ : GZ Γ s s.heap) (hX : GX s) (hY : GY s) (hG : GH Γ M R O H) (hS : va_S (gA Γ) s.heap H locs) (hn : As.length = n) (hsz : ls.size = nL) (hroom : (rest.map fun v => v.category).sum ≤ 8) (hdg : decode cc pc = .ok (.invokestatic index, 3)) (hcc : cells + 1 ≤ RR.cells ∧ slots + 6 ≤ RR.slots) (h0 : st0 = As.reverse ++ rest) (h1 : v.toList ++ rest = st1)
    (kk : ∀ (H1 : Heap) (locs1 : List Loc), GH Γ M1 R1 O1 H1 → va_S (gA Γ) s.heap H1 locs1 → W p l e RR s m args below meth c H1 locs1 (cells + 1) (slots + 6) Q (F0 m (pc + 3) ls st1)) : W p l e RR s m args below meth c H locs cells slots Q (F0 m pc ls st0) := by
  subst h1
  have hr : vx_Run p l e RR s m args below meth c H locs cells slots 1 6 (F0 m pc ls st0) rest (gQ Γ v M1 R1 O1 As.toArray) (fun _ _ _ => False) (gA Γ) := vx_runSX hF hM cw ⟨gPreW.blind, fun U hU hW => ⟨rfl, by rw [hU]; exact hG, hK.warm hW, g_Z hZ hS U hU hW, hX.warm hW, hY.moved hW.alike⟩⟩ rfl hn hsz h0 (lv_room hroom) hdg hcc
  intro T hT X
  rcases hr T hT X with ⟨v', st₀, t, T', L, e0, X', hL, e1, e2, ⟨hv, hG1, hz, hk⟩, st⟩ | ⟨q, st₀, t, T', L, E, ce, e0, X', hL, e1, e2, hFF, hce, hcv, hcl, st⟩
  · cases hv
    rw [e0] at hz hk
    obtain ⟨t2, a1, b1⟩ := kk T'.heap (locs ++ L) (by rw [e1]; exact hG1)
      ⟨Nat.le_trans hS.1 (by rw [e1]; exact hz), fun q h1 h2 => by rw [e1, hk q (Nat.lt_of_lt_of_le h1 hS.1) h2]; exact hS.2.1 q h1 h2, fun q hq => by
        rcases List.mem_append.mp hq with h | h
        · exact hS.2.2 q h
        · exact hL q h⟩ T' rfl X'
    exact ⟨t2, st t2 a1, b1⟩
  · exact hFF.elim
end GCW
theorem INV.thr {l : Launch} {Γ : gX} {u : Nat} {R : Nat → Nat → Option Nat} {Z : Nat → Nat → Int32} (h : INV u Γ R Z) {O : Int64} : gMet l Γ yX7_thrown wsX7_thrown 0 0 [.ref (gad Γ 483)] Z R O (some (.int (Z 24 0))) Z R O := by
  obtain ⟨M, X, G, J, S, C, P, Q, A, T, D, N, V, I, K, B, pm, k, rfl, hC, hL, hI⟩ := h
  have := mX7_thrown (l := l) (cS M X G J S C P Q) R O hL A T D N V I K B
  rw [← ZZ_m] at this
  rw [ZZ_24]
  exact this
theorem INV.g475 {Γ : gX} {u : Nat} {R : Nat → Nat → Option Nat} {Z : Nat → Nat → Int32} (h : INV u Γ R Z) : 475 ∈ gcs Γ := by
  obtain ⟨M, X, G, J, S, C, P, Q, A, T, D, N, V, I, K, B, pm, k, rfl, hC, hL, hI⟩ := h
  exact hC.1 475 (by decide) (by decide)
theorem INV.g483 {Γ : gX} {u : Nat} {R : Nat → Nat → Option Nat} {Z : Nat → Nat → Int32} (h : INV u Γ R Z) : 483 ∈ gcs Γ := by
  obtain ⟨M, X, G, J, S, C, P, Q, A, T, D, N, V, I, K, B, pm, k, rfl, hC, hL, hI⟩ := h
  exact hL.1 483 (by decide) (by decide)
theorem INV.le {Γ : gX} {u v : Nat} {R : Nat → Nat → Option Nat} {Z : Nat → Nat → Int32} (h : INV u Γ R Z) (hv : u ≤ v) : INV v Γ R Z := by
  obtain ⟨M, X, G, J, S, C, P, Q, A, T, D, N, V, I, K, B, pm, k, e, hC, hL, hI⟩ := h
  exact ⟨M, X, G, J, S, C, P, Q, A, T, D, N, V, I, K, B, pm, k, e, hC, hL, hI.le hv⟩
/-- what holds throughout the law -/
def LCx (p : Program) (s : State) (m : MethodId) (args : Array Value) (c : Code) (Γ : gX) (b L : Nat) (xs : Nat → Int32) : Prop := p.tables.exec = Jvm.exec ∧ c.code = cL_law ∧ c.maxLocals = 7 ∧ s.vm.findClass RL = some m.cls ∧ (∀ w ∈ wsL_law, w.before args s = true) ∧ va_X b L xs s s.heap ∧ b < s.heap.size ∧ ¬ gA Γ b ∧ GK Γ s ∧ GZ Γ s s.heap ∧ GX s ∧ GY s ∧ 491 ∈ gcs Γ ∧ (∀ c ∈ gcs Γ, c < 492)
/-- what holds at the loop's head -/
def LSt (s : State) (Γ : gX) (b : Nat) (i : Int32) (u : Nat) (H : Heap) (locs : List Loc) (ls : Array Slot) (R : Nat → Nat → Option Nat) (O : Int64) (Z : Nat → Nat → Int32) : Prop := GH Γ Z R O H ∧ va_S (gA Γ) s.heap H locs ∧ lv_has ls 7 [(0, .ref b), (1, .ref (gad Γ 475)), (2, .ref (gad Γ 483)), (3, .ref (gad Γ 491)), (4, .int i)] ∧ INV u Γ R Z
