/-! THE LAW: its loop. -/
set_option maxRecDepth 16384
section LL
variable {p : Program} {l : Launch} {e : Env} {s : State} {m : MethodId} {below : List Frame} {meth : Method} {c : Code} {Q : State → Prop}
variable {b L : Nat} {xs : Nat → Int32} {Γz Γo Γp : gX} {h3 X : Nat} {H : Heap} {ls : Array Slot}
theorem kM_k (d k : Nat) : kM d k ≤ k := by unfold kM; split <;> omega
theorem kW_le (N : Nat → Int32) (i k : Nat) : kW N i k ≤ k := by
  unfold kW
  (repeat' split) <;> first | exact Nat.le_refl _ | exact kM_k _ _
theorem kSp_le (N : Nat → Int32) (i : Nat) (d : Int32) (k0 : Nat) : ∀ n, kSp N i d k0 n ≤ k0
  | 0 => Nat.le_refl _
  | n + 1 => by
    have ih := kSp_le N i d k0 n
    unfold kSp
    (repeat' split) <;> first | exact ih | exact Nat.le_trans (kM_k _ _) ih
theorem kSS_le (N : Nat → Int32) (i x k : Nat) : kSS N i x k ≤ k := by
  unfold kSS
  refine Nat.le_trans (kSp_le _ _ _ _ _) ?_
  split <;> first | exact Nat.le_refl _ | exact kM_k _ _
theorem kF_le (N : Nat → Int32) (i k : Nat) : kF N i k ≤ k := by
  unfold kF
  split <;> first | exact Nat.le_refl _ | exact kM_k _ _
set_option maxRecDepth 100000 in
theorem law_step (C : L2C p s m c b L xs Γz Γo Γp h3) (hst : l.stackTraces = false) {u : Nat} {N : Nat → Int32} {Hy : Nat → Nat → Int32} {k : Nat} {w : WO} (hST : ST u N Hy k w) (hu : 1998 * (u + 850 + 10000) < 2 ^ 31) {i : Nat} (hi : i < 26) (hX6 : X + 14000 ≤ 651013) (hH : HH Γz s h3 (fun H => SH Γo N Hy k w H ∧ SH Γp N Hy k w H) H) (hl : lv_has ls 12 [(5, .int (nI i)), (4, .int 1), (0, .ref b), (1, .ref (gad Γo 475)), (2, .ref (gad Γp 475))])
    (kk : ∀ (H1 : Heap) (ls1 : Array Slot) (N1 : Nat → Int32) (Hy1 : Nat → Nat → Int32) (k1 : Nat) (w1 : WO), ST (u + 850) N1 Hy1 k1 w1 → HH Γz s h3 (fun H => SH Γo N1 Hy1 k1 w1 H ∧ SH Γp N1 Hy1 k1 w1 H) H1 → lv_has ls1 12 [(5, .int (nI (i + 1))), (4, .int 1), (0, .ref b), (1, .ref (gad Γo 475)), (2, .ref (gad Γp 475))] → W p l e room_1 s m #[Value.ref b] below meth c H1 [] (X + 6500) (6 * (X + 6500)) Q (F0 m 48 ls1 [])) : W p l e room_1 s m #[Value.ref b] below meth c H [] X (6 * X) Q (F0 m 48 ls []) := by
  refine law_A C hst hST hu hi (by omega) hH hl (fun x y N1 Hy1 k1 w1 H ls hx0 hy0 hS1 hH hl => ?_)
  have ha : x / 16 % (N1 1).toNatClampNeg < (N1 1).toNatClampNeg := Nat.mod_lt _ hS1.1.2.2.1
  have hg : x / 128 % (N1 2).toNatClampNeg < (N1 2).toNatClampNeg := Nat.mod_lt _ hS1.1.2.2.2
  generalize x / 16 % (N1 1).toNatClampNeg = a at ha hl
  generalize x / 128 % (N1 2).toNatClampNeg = g at hg hl
  have hD : ∀ {k2 : Nat} {H : Heap} {ls : Array Slot}, k2 ≤ k1 → HH Γz s h3 (fun H => SH Γo N1 Hy1 k2 w1 H ∧ SH Γp N1 Hy1 k2 w1 H) H → lv_has ls 12 [(9, .int (nI g)), (8, .int (nI a)), (7, .int (nI y)), (6, .int (nI x)), (5, .int (nI i)), (4, .int 1), (0, .ref b), (1, .ref (gad Γo 475)), (2, .ref (gad Γp 475))] → W p l e room_1 s m #[Value.ref b] below meth c H [] (X + 700 + 2400 + 3000) (6 * (X + 700 + 2400 + 3000)) Q (F0 m 323 ls []) := by
    intro k2 H ls hk2 hH hl
    have hS2 := hS1.less hk2
    by_cases q : i % 9 = 8
    · exact law_D1 C hst hS2 hu hi hx0 hy0 ha hg q (by omega) hH hl (fun H1 ls1 hH hl => kk H1 ls1 N1 Hy1 k2 w1 hS2 hH hl)
    · exact law_D0 C hst hS2 hu hi hx0 hy0 ha hg q (by omega) hH hl (fun H1 ls1 hH hl => kk H1 ls1 N1 Hy1 k2 w1 hS2 hH hl)
  have hC : ∀ {k2 : Nat} {H : Heap} {ls : Array Slot}, k2 ≤ k1 → HH Γz s h3 (fun H => SH Γo N1 Hy1 k2 w1 H ∧ SH Γp N1 Hy1 k2 w1 H) H → lv_has ls 12 [(9, .int (nI g)), (8, .int (nI a)), (7, .int (nI y)), (6, .int (nI x)), (5, .int (nI i)), (4, .int 1), (0, .ref b), (1, .ref (gad Γo 475)), (2, .ref (gad Γp 475))] → W p l e room_1 s m #[Value.ref b] below meth c H [] (X + 700 + 2400) (6 * (X + 700 + 2400)) Q (F0 m 235 ls []) := by
    intro k2 H ls hk2 hH hl
    have hS2 := hS1.less hk2
    by_cases q : i % 4 = 3
    · exact law_C1 C hst hS2 hu hi hx0 hy0 ha hg q (by omega) hH hl (fun H1 ls1 hH hl => hD (by
        have h1 := kW_le N1 a k2
        have h2 := kSS_le N1 g (1 + y % 9) (kW N1 a k2)
        have h3 := kF_le N1 g (kSS N1 g (1 + y % 9) (kW N1 a k2))
        omega) hH hl)
    · exact law_C0 C hst hS2 hu hi hx0 hy0 ha hg q (by omega) hH hl (fun H1 ls1 hH hl => hD hk2 hH hl)
  by_cases q : i % 3 = 2
  · exact law_B1 C hst hS1 hu hi hx0 hy0 ha hg q (by omega) hH hl (fun H1 ls1 hH hl => hC (by
      have h1 := kM_k 13 k1
      have h2 := kM_k 12 (kM 13 k1)
      omega) hH hl)
  · exact law_B0 C hst hS1 hu hi hx0 hy0 ha hg q (by omega) hH hl (fun H1 ls1 hH hl => hC (Nat.le_refl _) hH hl)
set_option maxRecDepth 100000 in
/-- the whole loop -/
theorem law_loop (C : L2C p s m c b L xs Γz Γo Γp h3) (hst : l.stackTraces = false) (hX6 : X + 183000 ≤ 651013)
    (out : ∀ (H1 : Heap) (ls1 : Array Slot), va_S (gA Γz) s.heap H1 [] → lv_has ls1 12 [(5, .int (nI 26)), (4, .int 1), (0, .ref b), (1, .ref (gad Γo 475)), (2, .ref (gad Γp 475))] → W p l e room_1 s m #[Value.ref b] below meth c H1 [] (X + 6500 * 26) (6 * (X + 6500 * 26)) Q (F0 m 48 ls1 [])) :
    ∀ r i, i + r = 26 → ∀ {u : Nat} {N : Nat → Int32} {Hy : Nat → Nat → Int32} {k : Nat} {w : WO} {H : Heap} {ls : Array Slot}, ST u N Hy k w → u + 850 * r ≤ 100000 → HH Γz s h3 (fun H => SH Γo N Hy k w H ∧ SH Γp N Hy k w H) H → lv_has ls 12 [(5, .int (nI i)), (4, .int 1), (0, .ref b), (1, .ref (gad Γo 475)), (2, .ref (gad Γp 475))] → W p l e room_1 s m #[Value.ref b] below meth c H [] (X + 6500 * i) (6 * (X + 6500 * i)) Q (F0 m 48 ls [])
  | 0, i, hi, u, N, Hy, k, w, H, ls, hST, hu, hH, hl => by
    obtain rfl : i = 26 := by omega
    exact out H ls hH.2.1 hl
  | r + 1, i, hi, u, N, Hy, k, w, H, ls, hST, hu, hH, hl => by
    refine law_step C hst hST (by omega) (by omega) (by omega) hH hl (fun H1 ls1 N1 Hy1 k1 w1 hS1 hH1 hl1 => ?_)
    exact law_loop C hst hX6 out r (i + 1) (by omega) hS1 (by omega) hH1 hl1
end LL
