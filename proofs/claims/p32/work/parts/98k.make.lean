/-! THE START: an object is made; what lay there stays. -/
set_option maxRecDepth 16384
theorem gL_law_init : GoodIn wsL_law wsX6_init := fun w h => ⟨iw_init w h, good_of_word (lawGoodM (iw_init w h))⟩
theorem GH.addr {Γ : gX} {M : Nat → Nat → Int32} {R : Nat → Nat → Option Nat} {O : Int64} {H : Heap} (h : GH Γ M R O H) {c : Nat} (hc : c ∈ gcs Γ) : gA Γ (gad Γ c) ∧ gad Γ c < H.size := by
  obtain ⟨k, hk⟩ := List.getElem?_of_mem (List.mem_map_of_mem (f := fun c => (gad Γ c, gEnt Γ.2.1 (gad Γ) M R O c)) hc)
  exact ⟨h.2.2 k _ hk, vx_lt h.1 hk⟩
section GMk
variable {p : Program} {l : Launch} {e : Env} {RR : Room} {s : State} {m : MethodId} {args : Array Value} {below : List Frame} {meth : Method} {c : Code} {H H0 : Heap} {cells slots : Nat} {Q : State → Prop}
variable {cc : ByteArray} {pc : Nat} {ls : Array Slot} {rest : List Value} {Γ : gX} {M M' : Nat → Nat → Int32} {R R' : Nat → Nat → Option Nat} {O : Int64} {P : Nat → Prop}
theorem l_init {nL fr lo mc ms maxL index n a : Nat} {Ts ws : List Cond} {own : String} {y : MethodName} {bytes : ByteArray} {As st0 : List Value} (hF : CallFix p m c cc nL s args Ts own) (hM : gNew l Γ y ws fr lo mc ms (.ref a :: As) M R O P M' R') (cw : CallB RR s args own index y bytes maxL none ws (gRn fr lo mc ms) mc ms n ∧ y.name = "<init>" ∧ (Cond.instanceMethod y).before args s = true) (hK : GK Γ s) (hZ : ∀ U : State, U.heap = H → s.WarmedH U.vm → GZ Γ U U.heap) (hA : GAO s) (hG : GH Γ M R O H) (hS : va_S (gA Γ) H0 H []) (hn : As.length = n) (hsz : ls.size = nL) (hroom : (rest.map fun v => v.category).sum ≤ 8) (hdg : decode cc pc = .ok (.invokespecial index, 3)) (hcc : cells + mc ≤ RR.cells ∧ slots + ms ≤ RR.slots) (h0 : st0 = As.reverse ++ .ref a :: rest)
    (kk : ∀ (Γ1 : gX) (H1 : Heap) (locs1 : List Loc), Ext Γ Γ1 P → GH Γ1 M' R' O H1 → GK Γ1 s → RC (gcs Γ1) R' → va_S (gA Γ1) H0 H1 locs1 → W p l e RR s m args below meth c H1 locs1 (cells + mc) (slots + ms) Q (F0 m (pc + 3) ls rest)) : W p l e RR s m args below meth c H [] cells slots Q (F0 m pc ls st0) := by
  have hr : va_Run p l e RR s m args below meth c H [] cells slots mc ms (F0 m pc ls st0) rest (gQN Γ M' R' O P (Value.ref a :: As).toArray) (gA Γ) := va_runI (Pc := gPreN Γ (.ref a :: As) M R O) (Qc := gQN Γ M' R' O P) hF hM cw ⟨gPreN.blind, fun U hU hW => ⟨rfl, by rw [hU]; exact hG, hK.warm hW, hZ U hU hW, hA.moved hW.alike⟩⟩ rfl hn hsz h0 (lv_room hroom) hdg hcc
  intro T hT X
  obtain ⟨v', st₀, t, T', L, h0, X', hL, e1, e2, ⟨hv, ⟨Γ1, hE, hG1, hK1, hR1⟩, hz, hk⟩, st⟩ := hr T hT X
  cases hv
  rw [h0] at hz hk
  have hal : t.vm.Alike s.vm := by rw [← e2]; exact X'.warmed.alike.symm
  obtain ⟨t2, a1, b1⟩ := kk Γ1 T'.heap ([] ++ L) hE (by rw [e1]; exact hG1) ⟨va_K.moved hal hK1.1, hK.2⟩ hR1
    (by
      rw [hE.eqA]
      exact ⟨Nat.le_trans hS.1 (by rw [e1]; exact hz), fun q h1 h2 => by rw [e1, hk q (Nat.lt_of_lt_of_le h1 hS.1) h2]; exact hS.2.1 q h1 h2, fun q hq => hL q hq⟩) T' rfl X'
  exact ⟨t2, st t2 a1, b1⟩
end GMk
section GMl
variable {p : Program} {l : Launch} {e : Env} {s : State} {m : MethodId} {below : List Frame} {meth : Method} {c : Code} {H : Heap} {Q : State → Prop}
variable {pc X b : Nat} {ls : Array Slot} {rest : List Value} {Γz : gX} {D : va_G}
set_option maxHeartbeats 4000000 in
set_option maxRecDepth 100000 in
theorem l_make (hx : p.tables.exec = Jvm.exec) (hb : c.code = cL_law) (hF : CallFix p m c cL_law 12 s #[.ref b] wsL_law RL) (hts : ∀ w ∈ wsL_law, w.before #[.ref b] s = true) (hown : s.vm.findClass RL = some m.cls) (hKD : va_K D vwCl [] s) (hGN : GN s) (hA : GAO s) (hZ0 : GZ Γz s s.heap) (hz : gA Γz = fun q => s.heap.size ≤ q) (hS : va_S (gA Γz) s.heap H []) (hsz : ls.size = 12) (hX : X + 600 ≤ 651013) (d0 : decode cL_law pc = .ok (.new 8, 3)) (d3 : decode cL_law (pc + 3) = .ok (.dup, 1)) (d4 : decode cL_law (pc + 3 + 1) = .ok (.invokespecial 224, 3))
    (kk : ∀ (Γ : gX) (H1 : Heap), (gA Γ = fun q => H.size ≤ q) → (∀ c, c < 483 → c ∈ gcs Γ) → GH Γ (faceM (fun _ _ => 0)) (faceR (fun _ _ => none)) 0 H1 → GK Γ s → H.size ≤ H1.size → (∀ q, q < H.size → H1[q]? = H[q]?) → va_S (gA Γz) s.heap H1 [] → W p l e room_1 s m #[Value.ref b] below meth c H1 [] (X + 520) (6 * (X + 520)) Q (F0 m (pc + 3 + 1 + 3) ls [.ref (gad Γ 475)])) : W p l e room_1 s m #[Value.ref b] below meth c H [] X (6 * X) Q (F0 m pc ls []) := by
  obtain ⟨Γ0, hΓ0, hg0⟩ : ∃ Γ0 : gX, Γ0 = (D, fun _ => 0, fun _ => 0, (fun q => H.size ≤ q), []) ∧ gcs Γ0 = [] := ⟨_, rfl, rfl⟩
  have hA0 : gA Γ0 = fun q => H.size ≤ q := by rw [hΓ0]; rfl
  have hK : GK Γ0 s := by rw [hΓ0]; exact ⟨hKD, hGN⟩
  have hG : GH Γ0 (fun _ _ => 0) (fun _ _ => none) 0 H := by
    rw [hΓ0]
    exact ⟨fun k q h => by simp [gL] at h, ⟨fun i j p q h => by simp [gL] at h, fun k q h => by simp [gL] at h⟩⟩
  have hRC : RC (gcs Γ0) (fun _ _ => none) := fun c k d h => by cases h
  have no0 : ∀ c, c ∉ gcs Γ0 := fun c => by rw [hg0]; exact List.not_mem_nil
  have hB : ∀ q : Nat, H.size ≤ q → gA Γ0 q := fun q h => by rw [hA0]; exact h
  have hS0 : va_S (gA Γ0) H H [] := va_S.rf
  refine g_newO (ci := 6) (C := RX6) (T := TX6) hx hb hts inlX6 tyX6 tyX6_ok hown (hts (.classLink RL 8 RX6) (by decide +kernel)) (hts (.instantiable RX6 7) (by decide +kernel)) (hts (.initialized RX6) (by decide +kernel)) hK hG hS0 hB (show gC 475 = (6, 32, 0) from rfl) (by decide) rfl (no0 475) hRC (by decide) (fun _ _ _ => rfl) (fun _ => rfl) (show X + 1 ≤ 651013 by omega) (show 6 * X + 7 ≤ 7148430 by omega) d0 (fun Γ1 H1 hE1 hG1 hK1 hRC1 hS1 => ?_)
  have m1 : 475 ∈ gcs Γ1 := hE1.new rfl
  have hA1 : gA Γ1 = fun q => H.size ≤ q := hE1.eqA.trans hA0
  have up : ∀ {H2 : Heap} {locs : List Loc}, va_S (fun q => H.size ≤ q) H H2 locs → va_S (gA Γz) s.heap H2 [] ∧ ∀ q, q < H.size → H2[q]? = H[q]? := fun {H2 locs} h => ⟨⟨Nat.le_trans hS.1 h.1, fun q h1 h2 => (h.2.1 q (Nat.lt_of_lt_of_le h1 hS.1) (by have := hS.1; omega)).trans (hS.2.1 q h1 h2), fun q hq => by cases hq⟩, fun q hq => h.2.1 q hq (by omega)⟩
  have hZ1 : ∀ U : State, U.heap = H1 → s.WarmedH U.vm → GZ Γ1 U U.heap := fun U hU hW => by
    rw [hA1] at hS1
    have h := g_Z hZ0 (up hS1).1 U hU hW
    have sub : ∀ q, gA Γ1 q → gA Γz q := fun q hq => by
      rw [hA1] at hq
      rw [hz]
      exact Nat.le_trans hS.1 hq
    refine ⟨h.1.narrow sub, h.2.1.narrow sub, fun q hq => ?_⟩
    rw [hA1]
    rw [hU] at hq
    exact Nat.le_trans hS1.1 hq
  refine lv_dup hx hb d3 rfl ?_
  refine l_init (As := []) (rest := [.ref (gad Γ1 475)]) hF (mX6_init (fun _ _ => 0) (fun _ _ => none) 0 m1 (fun c h1 h2 => hE1.out (no0 c) h2) hRC1 (fun _ _ => rfl) (fun _ => rfl)) (cwI 0 hts gL_law_init rfl rfl rfl (hts (.initialized RX6) (by decide +kernel)) (hts (.methodLink RL 224 yX6_init) (by decide +kernel)) (hts (.instanceMethod yX6_init) (by decide +kernel)) rfl (by decide +kernel) ⟨Nat.le_of_ble_eq_true rfl, Nat.le_of_ble_eq_true rfl⟩) hK1 hZ1 hA hG1 hS1 rfl hsz (Nat.le_of_ble_eq_true rfl) d4 ⟨show X + 1 + 482 ≤ 651013 by omega, show 6 * X + 7 + 3044 ≤ 7148430 by omega⟩ rfl (fun Γ2 H2 locs2 hE2 hG2 hK2 hRC2 hS2 => ?_)
  have hA2 : gA Γ2 = fun q => H.size ≤ q := hE2.eqA.trans hA1
  rw [hA2] at hS2
  obtain ⟨u1, u2⟩ := up hS2
  refine va_forget (fun q hq => Nat.le_trans hS.1 (hS2.2.2 q hq)) ?_
  refine W.widen (k := X + 520) (n := 6 * (X + 520)) (by omega) (by show 6 * X + 7 + 3044 ≤ _; omega) ?_
  refine W.eq (g2 := F0 m (pc + 3 + 1 + 3) ls [.ref (gad Γ2 475)]) (by rw [hE2.2.2.2 475 m1]) ?_
  refine kk Γ2 H2 hA2 (fun c hc => ?_) hG2 hK2 hS2.1 u2 u1
  by_cases q : c = 475
  · subst q; exact hE2.mem m1
  · exact hE2.new (by show c < 50 + 25 * 2 ∨ 100 ≤ c ∧ c < 475 ∨ 476 ≤ c ∧ c ≤ 482; omega)
end GMl
