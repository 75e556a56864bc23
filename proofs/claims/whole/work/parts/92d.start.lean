/-! THE START: the law's one long. -/
section GNl
variable {p : Program} {l : Launch} {e : Env} {RR : Room} {s : State} {m : MethodId} {args : Array Value} {below : List Frame} {meth : Method} {c : Code} {H : Heap} {locs : List Loc} {cells slots : Nat} {Q : State → Prop}
variable {cc : ByteArray} {pc : Nat} {ls : Array Slot} {rest : List Value} {Γ : gX} {M : Nat → Nat → Int32} {R : Nat → Nat → Option Nat} {H0 : Heap}
theorem g_newL (hexec : p.tables.exec = Jvm.exec) (hb : c.code = cc) (harr : (Cond.arrayClass (newarray.typeOf .long)).before args s = true) (hK : GK Γ s) (hG : GH Γ M R 0 H) (hS : va_S (gA Γ) H0 H locs) (hB : Γ.2.2.2.1 ≤ H0.size) (hn : 491 ∉ gcs Γ) (hR : RC (gcs Γ) R) (hcells : cells + 1 ≤ RR.cells) (hslots : slots + 1 ≤ RR.slots) (hdg : decode cc pc = .ok (.newarray .long, 2))
    (kk : ∀ (Γ1 : gX) (H1 : Heap), Ext Γ Γ1 (fun d => d = 491) → GH Γ1 M R 0 H1 → GK Γ1 s → va_S (gA Γ1) H0 H1 locs → W p l e RR s m args below meth c H1 locs (cells + 1) (slots + 1) Q (F0 m (pc + 2) ls (.ref (gad Γ1 491) :: rest))) : W p l e RR s m args below meth c H locs cells slots Q (F0 m pc ls (.int 1 :: rest)) := by
  refine va_newa (a0 := (1, .inr (.inl (fun _ => 0)))) (ty := .long) hexec hb harr rfl hK.1 hG.1 hG.2 hS (fun q hq => Nat.le_trans hB hq) (fun cA => rfl) (by decide) rfl (by decide) hcells hslots hdg (fun q cA H1 hK1 hP hD hS1 => ?_)
  have hL : gL (gadd Γ 491 q cA).2.1 (gad (gadd Γ 491 q cA)) M R 0 (gcs (gadd Γ 491 q cA)) = gL Γ.2.1 (gad Γ) M R 0 (gcs Γ) ++ [(q, .inl (cA, (1, .inr (.inl (fun _ => 0)))))] := by
    refine (gL_add (q := q) (cA := cA) hn hR).trans ?_
    rw [gEnt_lng (b := 35) (o := 0) rfl, va_up_eq]
    rfl
  have k := kk (gadd Γ 491 q cA) H1 (Ext.add hn) ⟨by rw [hL]; exact hP, by rw [hL]; exact hD⟩ ⟨?_, hK.2⟩ hS1
  · rw [show gad (gadd Γ 491 q cA) 491 = q from va_up_eq (gad Γ) 491 q] at k
    exact k
  · show va_K Γ.1 vwCl (gT (va_up Γ.2.1 491 cA) (gcs Γ ++ [491])) s
    rw [gT_arr (ty := .long) hn rfl]
    exact hK1
end GNl
