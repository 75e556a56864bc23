/-! THE LAW: a number of the script. -/
set_option maxRecDepth 16384
theorem and31 (y : Int32) : ∃ x : Nat, x < 2 ^ 31 ∧ y &&& 2147483647 = nI x := by
  refine ⟨y.toBitVec.toNat % 2 ^ 31, Nat.mod_lt _ (by decide), ?_⟩
  apply Int32.toBitVec_inj.mp
  apply BitVec.eq_of_toNat_eq
  rw [Int32.toBitVec_and, BitVec.toNat_and]
  show y.toBitVec.toNat &&& (2 ^ 31 - 1) = (BitVec.ofNat 32 (y.toBitVec.toNat % 2 ^ 31)).toNat
  have := Nat.mod_lt y.toBitVec.toNat (show 2 ^ 31 > 0 by decide)
  rw [BitVec.toNat_ofNat, Nat.mod_eq_of_lt (show y.toBitVec.toNat % 2 ^ 31 < 2 ^ 32 by omega)]
  exact Nat.and_two_pow_sub_one_eq_mod _ 31
def cellv (L : Nat) (xs : Nat → Int32) (k : Nat) : Int32 := (if k < L then xs k else 15518087 * (nI k + 3) + 10301) &&& 2147483647
def cPre (b L : Nat) (xs : Nat → Int32) (k : Nat) : Array Value → State → Prop := va_Pc [.ref b, .int (nI k)] (fun U => va_X b L xs U U.heap ∧ b < U.heap.size)
theorem cPre.blind {b L : Nat} {xs : Nat → Int32} {k : Nat} : FrameBlind (cPre b L xs k) := fun _ U _ _ h => ⟨h.1, va_X.moved (Vm.Alike.refl U.vm) h.2.1, h.2.2⟩
def cQ (v : Int32) : Array Value → State → Outcome → State → Prop := fun _ st oc t => oc = .returned (some (.int v)) ∧ t.heap = st.heap
set_option maxHeartbeats 4000000 in
theorem cM (l : Launch) (b L : Nat) (xs : Nat → Int32) (k : Nat) (hL : L ≤ 260) (hk : k < 1000) : Met l yL_cell wqL_cell (lRm 0 0 0) (cPre b L xs k) (cQ (cellv L xs k)) 0 0 (fun _ => False) := by
  refine Met.ofW (cc := cL_cell) (maxL := 2) (ret := (some .int)) (by decide) rfl ?_
  intro p e s m args below meth c s₁ B hml hv
  obtain ⟨rfl, hXs, hbl⟩ := hv
  have hl := lv_entry [.ref b, .int (nI k)] (n := 2) (Nat.le_of_ble_eq_true rfl)
  rw [lg_entry_eq]
  generalize (lg_sl [.ref b, .int (nI k)] ++ List.replicate (2 - (lg_sl [.ref b, .int (nI k)]).length) Slot.unset).toArray = ls at hl ⊢
  have hx := B.exec
  have hb : c.code = cL_cell := B.bytes
  have hts := atoms_spec (ws := wqL_cell) B.pre
  have hown : s.vm.findClass RL = some m.cls := findClass_of_methodNamed B.named
  have hl : lv_has ls 2 [(0, .ref b), (1, .int (nI k))] := hl
  have hS : va_S (fun _ => False) s.heap s.heap [] := va_S.rf
  have k_1 : (Cond.constant RL 178 (15518087)).before _ s = true := hts _ (by decide +kernel)
  have k_2 : (Cond.constant RL 179 (2147483647)).before _ s = true := hts _ (by decide +kernel)
  have fin : ∀ {x : Int32}, x &&& 2147483647 = cellv L xs k → W p l e (headSpec wqL_cell (lRm 0 0 0)).room s m #[Value.ref b, Value.int (nI k)] below meth c s.heap [] 0 0 (MQ below (cQ (cellv L xs k)) #[Value.ref b, Value.int (nI k)] s 0 0 (fun _ => False)) (F0 m 22 ls [.int x]) := by
    intro x hxv
    refine lv_ldc hx hb hown k_2 dL_cell_22 ?_
    refine lv_iand hx hb dL_cell_24 ?_
    rw [hxv]
    exact W.iret hx hb B.returns (fun t ht hW => ⟨rfl, ht⟩) (fun q hq => by cases hq) dL_cell_25 (B.notSynchronized)
  refine lv_iload_n hx hb dL_cell_0 rfl (lv_at hl 1 rfl) ?_
  refine lv_aload_n hx hb dL_cell_1 rfl (lv_at hl 0 rfl) ?_
  refine va_slen hx hb hXs hbl (fun h => h) hS dL_cell_2 ?_
  by_cases q : k < L
  · refine lv_icmp_ge (tgt := 12) hx hb dL_cell_3 (by decide) (fun c_1 => absurd c_1 (Int32.not_le.mpr (nI_lt (a := k) (b := L) q (by omega)))) (fun c_1 => ?_)
    refine lv_aload_n hx hb dL_cell_6 rfl (lv_at hl 0 rfl) ?_
    refine lv_iload_n hx hb dL_cell_7 rfl (lv_at hl 1 rfl) ?_
    refine va_sld hx hb hXs hbl (fun h => h) hS (vp_in_nI q (by omega)) dL_cell_8 ?_
    refine lv_goto (tgt := 22) hx hb dL_cell_9 (by decide) ?_
    exact fin (by unfold cellv; rw [if_pos q, nI_clamp (by omega)])
  · refine lv_icmp_ge (tgt := 12) hx hb dL_cell_3 (by decide) (fun c_1 => ?_) (fun c_1 => absurd (nI_le (a := L) (b := k) (by omega) (by omega)) c_1)
    refine lv_ldc hx hb hown k_1 dL_cell_12 ?_
    refine lv_iload_n hx hb dL_cell_14 rfl (lv_at hl 1 rfl) ?_
    refine lv_iconst (v := 3) hx hb dL_cell_15 (by decide) ?_
    refine lv_iadd hx hb dL_cell_16 ?_
    refine lv_imul hx hb dL_cell_17 ?_
    refine lv_sipush (v := 10301) hx hb dL_cell_18 (by decide) ?_
    refine lv_iadd hx hb dL_cell_21 ?_
    exact fin (by unfold cellv; rw [if_neg q])
section GLc
variable {p : Program} {l : Launch} {e : Env} {RR : Room} {s : State} {m : MethodId} {args : Array Value} {below : List Frame} {meth : Method} {c : Code} {H : Heap} {Q : State → Prop}
variable {cc : ByteArray} {pc : Nat} {ls : Array Slot} {rest : List Value} {Γz : gX} {b L : Nat} {xs : Nat → Int32} {X : Nat}
theorem l_cell {nL maxL index k : Nat} {Ts : List Cond} {own : String} {bytes : ByteArray} {ret : Option FieldType} {st0 : List Value} (hF : CallFix p m c cc nL s args Ts own) (cw : CallB RR s args own index yL_cell bytes maxL ret wqL_cell (lRm 0 0 0) 0 0 2 ∧ (Cond.static yL_cell).before args s = true) (hXs : va_X b L xs s s.heap) (hbl : b < s.heap.size) (hbz : ¬ gA Γz b) (hL : L ≤ 260) (hk : k < 1000) (hS : va_S (gA Γz) s.heap H []) (hsz : ls.size = nL) (hroom : (rest.map fun v => v.category).sum ≤ 8) (hdg : decode cc pc = .ok (.invokestatic index, 3)) (hR : X ≤ RR.cells ∧ 6 * X ≤ RR.slots) (h0 : st0 = .int (nI k) :: .ref b :: rest)
    (kk : ∀ x : Nat, x < 2 ^ 31 → cellv L xs k = nI x → W p l e RR s m args below meth c H [] X (6 * X) Q (F0 m (pc + 3) ls (.int (nI x) :: rest))) : W p l e RR s m args below meth c H [] X (6 * X) Q (F0 m pc ls st0) := by
  obtain ⟨x, hx1, hx2⟩ : ∃ x, x < 2 ^ 31 ∧ cellv L xs k = nI x := and31 _
  have hbH : H[b]? = s.heap[b]? := hS.2.1 b hbl hbz
  have hr : va_Run p l e RR s m args below meth c H [] X (6 * X) 0 0 (F0 m pc ls st0) rest (cQ (cellv L xs k) [Value.ref b, .int (nI k)].toArray) (fun _ => False) := va_runS (Pc := cPre b L xs k) (Qc := cQ (cellv L xs k)) hF (cM l b L xs k hL hk) cw ⟨cPre.blind, fun U hU hW => ⟨rfl, by rw [hU]; exact va_X.moved hW.alike (hXs.kept hbH), by rw [hU]; exact Nat.lt_of_lt_of_le hbl hS.1⟩⟩ rfl rfl hsz h0 (lv_room hroom) hdg ⟨hR.1, hR.2⟩
  intro T0 hT X0
  obtain ⟨v', st₀, t, T', Lo, e0, X', hLo, e1, e2, ⟨hv, hh⟩, st⟩ := hr T0 hT X0
  cases hv
  obtain rfl : Lo = [] := List.eq_nil_iff_forall_not_mem.mpr (fun q hq => hLo q hq)
  obtain ⟨t2, a1, b1⟩ := kk x hx1 hx2 T' (e1.trans (hh.trans e0)) X'
  exact ⟨t2, st t2 (by rw [hx2]; exact a1), b1⟩
end GLc
