/-! THE LAW: its step. Laid by gen/r100.py. -/
set_option maxRecDepth 16384
def L2C (p : Program) (s : State) (m : MethodId) (c : Code) (b L : Nat) (xs : Nat → Int32) (Γz Γo Γp : gX) (h3 : Nat) : Prop := p.tables.exec = Jvm.exec ∧ c.code = cL_law ∧ CallFix p m c cL_law 12 s #[.ref b] wsL_law RL ∧ (∀ w ∈ wsL_law, w.before #[.ref b] s = true) ∧ s.vm.findClass RL = some m.cls ∧ TW Γz Γo s h3 ∧ TW Γz Γp s h3 ∧ (∀ N Hy k w, kp (SH Γp N Hy k w) (gA Γo)) ∧ (∀ N Hy k w, kp (SH Γo N Hy k w) (gA Γp)) ∧ va_X b L xs s s.heap ∧ b < s.heap.size ∧ ¬ gA Γz b ∧ L ≤ 260
theorem qlL_trySimulate : GoodIn wsL_law (va_wsS RL 217 yL_trySimulate wsL_trySimulate) := fun w hw => ⟨hq_trySimulate w hw, good_of_word (lawGoodM (hq_trySimulate w hw))⟩
section LS
variable {p : Program} {l : Launch} {e : Env} {s : State} {m : MethodId} {below : List Frame} {meth : Method} {c : Code} {Q : State → Prop}
variable {b L : Nat} {xs : Nat → Int32} {Γz Γo Γp : gX} {h3 X : Nat} {H : Heap} {ls : Array Slot}
set_option maxHeartbeats 4000000 in
set_option maxRecDepth 100000 in
theorem law_A (C : L2C p s m c b L xs Γz Γo Γp h3) (hst : l.stackTraces = false) {u : Nat} {N : Nat → Int32} {Hy : Nat → Nat → Int32} {k : Nat} {w : WO} (hST : ST u N Hy k w) (hu : 1998 * (u + 850 + 10000) < 2 ^ 31) {i : Nat} (hi : i < 26) (hX6 : X + 7000 ≤ 651013) (hH : HH Γz s h3 (fun H => SH Γo N Hy k w H ∧ SH Γp N Hy k w H) H) (hl : lv_has ls 12 [(5, .int (nI i)), (4, .int 1), (0, .ref b), (1, .ref (gad Γo 475)), (2, .ref (gad Γp 475))])
    (kk : ∀ (x y : Nat) (N1 : Nat → Int32) (Hy1 : Nat → Nat → Int32) (k1 : Nat) (w1 : WO) (H1 : Heap) (ls1 : Array Slot), x < 2 ^ 31 → y < 2 ^ 31 → ST (u + 850) N1 Hy1 k1 w1 → HH Γz s h3 (fun H => SH Γo N1 Hy1 k1 w1 H ∧ SH Γp N1 Hy1 k1 w1 H) H1 → lv_has ls1 12 [(9, .int (nI (x / 128 % (N1 2).toNatClampNeg))), (8, .int (nI (x / 16 % (N1 1).toNatClampNeg))), (7, .int (nI y)), (6, .int (nI x)), (5, .int (nI i)), (4, .int 1), (0, .ref b), (1, .ref (gad Γo 475)), (2, .ref (gad Γp 475))] → W p l e room_1 s m #[Value.ref b] below meth c H1 [] (X + 700) (6 * (X + 700)) Q (F0 m 165 ls1 [])) : W p l e room_1 s m #[Value.ref b] below meth c H [] X (6 * X) Q (F0 m 48 ls []) := by
  obtain ⟨hx, hb, hF, hts, hown, To, Tp, ko, kq, hXs, hbl, hbz, hL⟩ := C
  have hRm : ∀ n, n ≤ 651013 → n ≤ room_1.cells ∧ 6 * n ≤ room_1.slots := fun n h => ⟨h, by show 6 * n ≤ 7148430; omega⟩
  have hN := hST.1.1
  have h14 := hST.2.2.1
  refine lv_iload hx hb dL_law_48 (lv_at hl 0 rfl) ?_
  refine lv_bipush (v := 26) hx hb dL_law_50 (by decide) ?_
  refine lv_icmp_ge (tgt := 405) hx hb dL_law_52 (by decide) (fun c_1 => absurd c_1 (Int32.not_le.mpr (nI_lt (a := i) (b := 26) hi (by decide)))) (fun c_1 => ?_)
  refine lv_iload hx hb dL_law_55 (lv_at hl 1 rfl) ?_
  refine lv_if_eq (tgt := 405) hx hb dL_law_57 (by decide) (fun c_2 => absurd c_2 (by decide)) (fun c_2 => ?_)
  refine lv_aload_n hx hb dL_law_60 rfl (lv_at hl 2 rfl) ?_
  refine lv_iconst (v := 1) hx hb dL_law_61 (by decide) ?_
  refine lv_iconst (v := 2) hx hb dL_law_62 (by decide) ?_
  refine lv_iload hx hb dL_law_63 (lv_at hl 0 rfl) ?_
  refine lv_imul hx hb dL_law_65 ?_
  refine g_top (show _ = nI (2 * i) from pk_mul _ _) ?_
  refine lv_iadd hx hb dL_law_66 ?_
  refine g_top (show _ = nI (1 + (2 * i)) from nI_add _ _) ?_
  refine l_cell (k := 1 + (2 * i)) (rest := []) hF (va_cwS 2 hts qlL_cell rfl rfl rfl (by decide +kernel) ⟨Nat.le_of_ble_eq_true rfl, Nat.le_of_ble_eq_true rfl⟩) hXs hbl hbz hL (by omega) hH.2.1 hl.1 (Nat.le_of_ble_eq_true rfl) dL_law_67 (hRm _ (by omega)) rfl (fun x hx0 _ => ?_)
  refine lv_istore (lv' := [(6, .int (nI x)), (5, .int (nI i)), (4, .int 1), (0, .ref b), (1, .ref (gad Γo 475)), (2, .ref (gad Γp 475))]) hx hb dL_law_70 hl (by decide) rfl (fun ls hl => ?_)
  refine lv_aload_n hx hb dL_law_72 rfl (lv_at hl 3 rfl) ?_
  refine lv_iconst (v := 2) hx hb dL_law_73 (by decide) ?_
  refine lv_iconst (v := 2) hx hb dL_law_74 (by decide) ?_
  refine lv_iload hx hb dL_law_75 (lv_at hl 1 rfl) ?_
  refine lv_imul hx hb dL_law_77 ?_
  refine g_top (show _ = nI (2 * i) from pk_mul _ _) ?_
  refine lv_iadd hx hb dL_law_78 ?_
  refine g_top (show _ = nI (2 + (2 * i)) from nI_add _ _) ?_
  refine l_cell (k := 2 + (2 * i)) (rest := []) hF (va_cwS 2 hts qlL_cell rfl rfl rfl (by decide +kernel) ⟨Nat.le_of_ble_eq_true rfl, Nat.le_of_ble_eq_true rfl⟩) hXs hbl hbz hL (by omega) hH.2.1 hl.1 (Nat.le_of_ble_eq_true rfl) dL_law_79 (hRm _ (by omega)) rfl (fun y hy0 _ => ?_)
  refine lv_istore (lv' := [(7, .int (nI y)), (6, .int (nI x)), (5, .int (nI i)), (4, .int 1), (0, .ref b), (1, .ref (gad Γo 475)), (2, .ref (gad Γp 475))]) hx hb dL_law_82 hl (by decide) rfl (fun ls hl => ?_)
  refine lv_aload_n hx hb dL_law_84 rfl (lv_at hl 6 rfl) ?_
  refine lv_iload hx hb dL_law_85 (lv_at hl 1 rfl) ?_
  refine l_call2 (X := X + 0) (K := X + 50) (CC := 651013) (As := [.ref (gad Γp 475), .int (nI x)]) (rest := []) (st1 := [.int 1]) hF (L_fails (N := N) (Hy := Hy) (k := k) (w := w) hst hN (by omega) hx0) (va_cwS 2 hts qlL_fails rfl rfl rfl (by decide +kernel) ⟨Nat.le_of_ble_eq_true rfl, Nat.le_of_ble_eq_true rfl⟩) Tp (kq _ _ _ _) hH.swap rfl hl.1 (Nat.le_of_ble_eq_true rfl) dL_law_87 ⟨Nat.le_of_ble_eq_true rfl, Nat.le_of_ble_eq_true rfl⟩ (by omega) (by omega) rfl rfl (fun H hH => ?_)
  replace hH := hH.swap
  refine lv_if_eq (tgt := 135) hx hb dL_law_90 (by decide) (fun c_3 => absurd c_3 (by decide)) (fun c_3 => ?_)
  refine lv_aload_n hx hb dL_law_93 rfl (lv_at hl 5 rfl) ?_
  refine lv_iload hx hb dL_law_94 (lv_at hl 1 rfl) ?_
  refine lv_iload hx hb dL_law_96 (lv_at hl 0 rfl) ?_
  obtain ⟨v, N1, Hy1, k1, w1, hST1, hact⟩ := act_ex (l := l) hst hST (by omega) hx0 hy0
  have hp1 := hST1.1.2.2.1
  have hp2 := hST1.1.2.2.2
  have hm1 := hST1.1.1.h8
  have hm2 := hST1.1.1.w3
  have b1 := hm1.2
  have b2 := hm2.2
  refine l_call2 (X := X + 50) (K := X + 53) (CC := 651013) (As := [.ref (gad Γo 475), .int (nI x), .int (nI y)]) (rest := []) (st1 := [.int v]) hF (hact Γo) (va_cwS 3 hts qlL_act rfl rfl rfl (by decide +kernel) ⟨Nat.le_of_ble_eq_true rfl, Nat.le_of_ble_eq_true rfl⟩) To (ko _ _ _ _) hH rfl hl.1 (Nat.le_of_ble_eq_true rfl) dL_law_98 ⟨Nat.le_of_ble_eq_true rfl, Nat.le_of_ble_eq_true rfl⟩ (by omega) (by omega) rfl rfl (fun H hH => ?_)
  refine lv_aload_n hx hb dL_law_101 rfl (lv_at hl 6 rfl) ?_
  refine lv_iload hx hb dL_law_102 (lv_at hl 1 rfl) ?_
  refine lv_iload hx hb dL_law_104 (lv_at hl 0 rfl) ?_
  refine l_call2 (X := X + 53) (K := X + 56) (CC := 651013) (As := [.ref (gad Γp 475), .int (nI x), .int (nI y)]) (rest := [.int v]) (st1 := [.int v, .int v]) hF (hact Γp) (va_cwS 3 hts qlL_act rfl rfl rfl (by decide +kernel) ⟨Nat.le_of_ble_eq_true rfl, Nat.le_of_ble_eq_true rfl⟩) Tp (kq _ _ _ _) hH.swap rfl hl.1 (Nat.le_of_ble_eq_true rfl) dL_law_106 ⟨Nat.le_of_ble_eq_true rfl, Nat.le_of_ble_eq_true rfl⟩ (by omega) (by omega) rfl rfl (fun H hH => ?_)
  replace hH := hH.swap
  refine lv_icmp_ne (tgt := 135) hx hb dL_law_109 (by decide) (fun c_4 => absurd rfl c_4) (fun c_4 => ?_)
  refine lv_aload_n hx hb dL_law_112 rfl (lv_at hl 5 rfl) ?_
  refine l_call2 (X := X + 56) (K := X + 232) (CC := 651013) (As := [.ref (gad Γo 475)]) (rest := []) (st1 := [.long (sumF N1)]) hF (L_sum (N := N1) (Hy := Hy1) (k := k1) (w := w1) hst hST1.1.1 (by omega)) (va_cwS 1 hts qlL_sum rfl rfl rfl (by decide +kernel) ⟨Nat.le_of_ble_eq_true rfl, Nat.le_of_ble_eq_true rfl⟩) To (ko _ _ _ _) hH rfl hl.1 (Nat.le_of_ble_eq_true rfl) dL_law_113 ⟨Nat.le_of_ble_eq_true rfl, Nat.le_of_ble_eq_true rfl⟩ (by omega) (by omega) rfl rfl (fun H hH => ?_)
  refine lv_aload_n hx hb dL_law_116 rfl (lv_at hl 6 rfl) ?_
  refine l_call2 (X := X + 232) (K := X + 408) (CC := 651013) (As := [.ref (gad Γp 475)]) (rest := [.long (sumF N1)]) (st1 := [.long (sumF N1), .long (sumF N1)]) hF (L_sum (N := N1) (Hy := Hy1) (k := k1) (w := w1) hst hST1.1.1 (by omega)) (va_cwS 1 hts qlL_sum rfl rfl rfl (by decide +kernel) ⟨Nat.le_of_ble_eq_true rfl, Nat.le_of_ble_eq_true rfl⟩) Tp (kq _ _ _ _) hH.swap rfl hl.1 (Nat.le_of_ble_eq_true rfl) dL_law_117 ⟨Nat.le_of_ble_eq_true rfl, Nat.le_of_ble_eq_true rfl⟩ (by omega) (by omega) rfl rfl (fun H hH => ?_)
  replace hH := hH.swap
  refine W.lcmp hx hb dL_law_120 ?_
  refine gl_ne (tgt := 135) hx hb dL_law_121 (by decide) (fun c_5 => absurd rfl c_5) (fun c_5 => ?_)
  refine lv_aload_n hx hb dL_law_124 rfl (lv_at hl 5 rfl) ?_
  refine l_call2 (X := X + 408) (K := X + 603) (CC := 651013) (As := [.ref (gad Γo 475)]) (rest := []) (st1 := [.int 1]) hF (L_numbers (N := N1) (Hy := Hy1) (k := k1) (w := w1) hst hST1.1.1 (by omega) hST1.1.2.1) (va_cwS 1 hts qlL_numbers rfl rfl rfl (by decide +kernel) ⟨Nat.le_of_ble_eq_true rfl, Nat.le_of_ble_eq_true rfl⟩) To (ko _ _ _ _) hH rfl hl.1 (Nat.le_of_ble_eq_true rfl) dL_law_125 ⟨Nat.le_of_ble_eq_true rfl, Nat.le_of_ble_eq_true rfl⟩ (by omega) (by omega) rfl rfl (fun H hH => ?_)
  refine lv_if_eq (tgt := 135) hx hb dL_law_128 (by decide) (fun c_6 => absurd c_6 (by decide)) (fun c_6 => ?_)
  refine lv_iconst (v := 1) hx hb dL_law_131 (by decide) ?_
  refine lv_goto (tgt := 136) hx hb dL_law_132 (by decide) ?_
  refine lv_istore (lv' := [(4, .int 1), (7, .int (nI y)), (6, .int (nI x)), (5, .int (nI i)), (0, .ref b), (1, .ref (gad Γo 475)), (2, .ref (gad Γp 475))]) hx hb dL_law_136 hl (by decide) rfl (fun ls hl => ?_)
  refine lv_iload hx hb dL_law_138 (lv_at hl 2 rfl) ?_
  refine lv_bipush (v := 16) hx hb dL_law_140 (by decide) ?_
  refine lv_idiv hx hb dL_law_142 (by decide) ?_
  refine g_top (y := nI (x / 16)) (pk_div (a := x) (d := 16) (by omega) (by decide) (by decide)) ?_
  refine lv_aload_n hx hb dL_law_143 rfl (lv_at hl 5 rfl) ?_
  refine lv_iconst (v := 1) hx hb dL_law_144 (by decide) ?_
  refine l_call2 (X := X + 603) (K := X + 604) (CC := 651013) (As := [.ref (gad Γo 475), .int 1]) (rest := [.int (nI (x / 16))]) (st1 := [.int (N1 1), .int (nI (x / 16))]) hF (r_about (N := N1) (Hy := Hy1) (k := k1) (w := w1) hst hST1.1.1 (by omega) (a := 1) (j := 1) rfl (by decide)) (va_cwS 2 hts qlL_about rfl rfl rfl (by decide +kernel) ⟨Nat.le_of_ble_eq_true rfl, Nat.le_of_ble_eq_true rfl⟩) To (ko _ _ _ _) hH rfl hl.1 (Nat.le_of_ble_eq_true rfl) dL_law_145 ⟨Nat.le_of_ble_eq_true rfl, Nat.le_of_ble_eq_true rfl⟩ (by omega) (by omega) rfl rfl (fun H hH => ?_)
  refine g_top (y := (nI (N1 1).toNatClampNeg)) hm1.1 ?_
  refine lv_irem hx hb dL_law_148 (fun e => absurd ((nI_eq (a := (N1 1).toNatClampNeg) (b := 0) (by omega) (by decide)).mp e) (by omega)) ?_
  refine g_top (y := nI ((x / 16) % ((N1 1).toNatClampNeg))) (pk_rem (a := (x / 16)) (d := ((N1 1).toNatClampNeg)) (by omega) (by omega) (by omega)) ?_
  refine lv_istore (lv' := [(8, .int (nI ((x / 16) % ((N1 1).toNatClampNeg)))), (4, .int 1), (7, .int (nI y)), (6, .int (nI x)), (5, .int (nI i)), (0, .ref b), (1, .ref (gad Γo 475)), (2, .ref (gad Γp 475))]) hx hb dL_law_149 hl (by decide) rfl (fun ls hl => ?_)
  refine lv_iload hx hb dL_law_151 (lv_at hl 3 rfl) ?_
  refine lv_sipush (v := 128) hx hb dL_law_153 (by decide) ?_
  refine lv_idiv hx hb dL_law_156 (by decide) ?_
  refine g_top (y := nI (x / 128)) (pk_div (a := x) (d := 128) (by omega) (by decide) (by decide)) ?_
  refine lv_aload_n hx hb dL_law_157 rfl (lv_at hl 6 rfl) ?_
  refine lv_iconst (v := 2) hx hb dL_law_158 (by decide) ?_
  refine l_call2 (X := X + 604) (K := X + 605) (CC := 651013) (As := [.ref (gad Γo 475), .int 2]) (rest := [.int (nI (x / 128))]) (st1 := [.int (N1 2), .int (nI (x / 128))]) hF (r_about (N := N1) (Hy := Hy1) (k := k1) (w := w1) hst hST1.1.1 (by omega) (a := 2) (j := 2) rfl (by decide)) (va_cwS 2 hts qlL_about rfl rfl rfl (by decide +kernel) ⟨Nat.le_of_ble_eq_true rfl, Nat.le_of_ble_eq_true rfl⟩) To (ko _ _ _ _) hH rfl hl.1 (Nat.le_of_ble_eq_true rfl) dL_law_159 ⟨Nat.le_of_ble_eq_true rfl, Nat.le_of_ble_eq_true rfl⟩ (by omega) (by omega) rfl rfl (fun H hH => ?_)
  refine g_top (y := (nI (N1 2).toNatClampNeg)) hm2.1 ?_
  refine lv_irem hx hb dL_law_162 (fun e => absurd ((nI_eq (a := (N1 2).toNatClampNeg) (b := 0) (by omega) (by decide)).mp e) (by omega)) ?_
  refine g_top (y := nI ((x / 128) % ((N1 2).toNatClampNeg))) (pk_rem (a := (x / 128)) (d := ((N1 2).toNatClampNeg)) (by omega) (by omega) (by omega)) ?_
  refine lv_istore (lv' := [(9, .int (nI ((x / 128) % ((N1 2).toNatClampNeg)))), (8, .int (nI ((x / 16) % ((N1 1).toNatClampNeg)))), (4, .int 1), (7, .int (nI y)), (6, .int (nI x)), (5, .int (nI i)), (0, .ref b), (1, .ref (gad Γo 475)), (2, .ref (gad Γp 475))]) hx hb dL_law_163 hl (by decide) rfl (fun ls hl => ?_)
  refine W.widen (k := X + 700) (n := 6 * (X + 700)) (by omega) (by omega) ?_
  exact kk x y N1 Hy1 k1 w1 _ _ hx0 hy0 hST1 hH (lv_sub hl [0, 1, 3, 4, 5, 2, 6, 7, 8] rfl)

set_option maxHeartbeats 4000000 in
set_option maxRecDepth 100000 in
theorem law_B1 (C : L2C p s m c b L xs Γz Γo Γp h3) (hst : l.stackTraces = false) {u : Nat} {N : Nat → Int32} {Hy : Nat → Nat → Int32} {k : Nat} {w : WO} (hST : ST u N Hy k w) (hu : 1998 * (u + 10000) < 2 ^ 31) {i x y a g : Nat} (hi : i < 26) (hx0 : x < 2 ^ 31) (hy0 : y < 2 ^ 31) (ha : a < (N 1).toNatClampNeg) (hg : g < (N 2).toNatClampNeg) (hq : i % 3 = 2) (hX6 : X + 7000 ≤ 651013) (hH : HH Γz s h3 (fun H => SH Γo N Hy k w H ∧ SH Γp N Hy k w H) H) (hl : lv_has ls 12 [(9, .int (nI g)), (8, .int (nI a)), (7, .int (nI y)), (6, .int (nI x)), (5, .int (nI i)), (4, .int 1), (0, .ref b), (1, .ref (gad Γo 475)), (2, .ref (gad Γp 475))])
    (kk : ∀  (H1 : Heap) (ls1 : Array Slot),  HH Γz s h3 (fun H => SH Γo N Hy (kM 12 (kM 13 k)) w H ∧ SH Γp N Hy (kM 12 (kM 13 k)) w H) H1 → lv_has ls1 12 [(9, .int (nI g)), (8, .int (nI a)), (7, .int (nI y)), (6, .int (nI x)), (5, .int (nI i)), (4, .int 1), (0, .ref b), (1, .ref (gad Γo 475)), (2, .ref (gad Γp 475))] → W p l e room_1 s m #[Value.ref b] below meth c H1 [] (X + 2400) (6 * (X + 2400)) Q (F0 m 235 ls1 [])) : W p l e room_1 s m #[Value.ref b] below meth c H [] X (6 * X) Q (F0 m 165 ls []) := by
  obtain ⟨hx, hb, hF, hts, hown, To, Tp, ko, kq, hXs, hbl, hbz, hL⟩ := C
  have hRm : ∀ n, n ≤ 651013 → n ≤ room_1.cells ∧ 6 * n ≤ room_1.slots := fun n h => ⟨h, by show 6 * n ≤ 7148430; omega⟩
  have hN := hST.1.1
  have h14 := hST.2.2.1
  refine lv_iload hx hb dL_law_165 (lv_at hl 4 rfl) ?_
  refine lv_iconst (v := 3) hx hb dL_law_167 (by decide) ?_
  refine lv_irem hx hb dL_law_168 (by decide) ?_
  refine g_top (y := 2) ((pk_rem (a := i) (d := 3) (by omega) (by decide) (by decide)).trans (congrArg nI hq)) ?_
  refine lv_iconst (v := 2) hx hb dL_law_169 (by decide) ?_
  refine lv_icmp_ne (tgt := 235) hx hb dL_law_170 (by decide) (fun c_1 => absurd (by decide) c_1) (fun c_1 => ?_)
  refine lv_iload hx hb dL_law_173 (lv_at hl 5 rfl) ?_
  refine lv_if_eq (tgt := 235) hx hb dL_law_175 (by decide) (fun c_2 => absurd c_2 (by decide)) (fun c_2 => ?_)
  refine lv_aload_n hx hb dL_law_178 rfl (lv_at hl 7 rfl) ?_
  refine lv_iload hx hb dL_law_179 (lv_at hl 1 rfl) ?_
  refine lv_iconst (v := 1) hx hb dL_law_181 (by decide) ?_
  refine lv_iload hx hb dL_law_182 (lv_at hl 2 rfl) ?_
  refine lv_bipush (v := 20) hx hb dL_law_184 (by decide) ?_
  refine lv_irem hx hb dL_law_186 (by decide) ?_
  refine g_top (y := nI (y % 20)) (pk_rem (a := y) (d := 20) (by omega) (by decide) (by decide)) ?_
  refine lv_iadd hx hb dL_law_187 ?_
  refine g_top (show _ = nI (1 + (y % 20)) from nI_add _ _) ?_
  refine l_call2 (X := X + 0) (K := X + 763) (CC := 651013) (As := [.ref (gad Γo 475), .int (nI a), .int (nI (1 + (y % 20)))]) (rest := []) (st1 := [.int 1]) hF (L_hours (N := N) (Hy := Hy) (k := k) (w := w) hst hN hu hST.1.2.1 h14 ha (h := 1 + y % 20) (by omega) (by omega)) (va_cwS 3 hts qlL_hours rfl rfl rfl (by decide +kernel) ⟨Nat.le_of_ble_eq_true rfl, Nat.le_of_ble_eq_true rfl⟩) To (ko _ _ _ _) hH rfl hl.1 (Nat.le_of_ble_eq_true rfl) dL_law_188 ⟨Nat.le_of_ble_eq_true rfl, Nat.le_of_ble_eq_true rfl⟩ (by omega) (by omega) rfl rfl (fun H hH => ?_)
  refine lv_if_eq (tgt := 232) hx hb dL_law_191 (by decide) (fun c_3 => absurd c_3 (by decide)) (fun c_3 => ?_)
  refine lv_aload_n hx hb dL_law_194 rfl (lv_at hl 8 rfl) ?_
  refine lv_iload hx hb dL_law_195 (lv_at hl 1 rfl) ?_
  refine lv_iconst (v := 1) hx hb dL_law_197 (by decide) ?_
  refine lv_iload hx hb dL_law_198 (lv_at hl 2 rfl) ?_
  refine lv_bipush (v := 20) hx hb dL_law_200 (by decide) ?_
  refine lv_irem hx hb dL_law_202 (by decide) ?_
  refine g_top (y := nI (y % 20)) (pk_rem (a := y) (d := 20) (by omega) (by decide) (by decide)) ?_
  refine lv_iadd hx hb dL_law_203 ?_
  refine g_top (show _ = nI (1 + (y % 20)) from nI_add _ _) ?_
  refine l_call2 (X := X + 763) (K := X + 1526) (CC := 651013) (As := [.ref (gad Γp 475), .int (nI a), .int (nI (1 + (y % 20)))]) (rest := []) (st1 := [.int 1]) hF (L_hours (N := N) (Hy := Hy) (k := k) (w := w) hst hN hu hST.1.2.1 h14 ha (h := 1 + y % 20) (by omega) (by omega)) (va_cwS 3 hts qlL_hours rfl rfl rfl (by decide +kernel) ⟨Nat.le_of_ble_eq_true rfl, Nat.le_of_ble_eq_true rfl⟩) Tp (kq _ _ _ _) hH.swap rfl hl.1 (Nat.le_of_ble_eq_true rfl) dL_law_204 ⟨Nat.le_of_ble_eq_true rfl, Nat.le_of_ble_eq_true rfl⟩ (by omega) (by omega) rfl rfl (fun H hH => ?_)
  replace hH := hH.swap
  refine lv_if_eq (tgt := 232) hx hb dL_law_207 (by decide) (fun c_4 => absurd c_4 (by decide)) (fun c_4 => ?_)
  refine lv_aload_n hx hb dL_law_210 rfl (lv_at hl 7 rfl) ?_
  refine lv_iload hx hb dL_law_211 (lv_at hl 1 rfl) ?_
  refine l_call2 (X := X + 1526) (K := X + 1918) (CC := 651013) (As := [.ref (gad Γo 475), .int (nI a)]) (rest := []) (st1 := [.int 1]) hF (L_limits (N := N) (Hy := Hy) (k := (kM 13 k)) (w := w) hst hN hu hST.1.2.1 (kM_14 13 h14) ha) (va_cwS 2 hts qlL_limits rfl rfl rfl (by decide +kernel) ⟨Nat.le_of_ble_eq_true rfl, Nat.le_of_ble_eq_true rfl⟩) To (ko _ _ _ _) hH rfl hl.1 (Nat.le_of_ble_eq_true rfl) dL_law_213 ⟨Nat.le_of_ble_eq_true rfl, Nat.le_of_ble_eq_true rfl⟩ (by omega) (by omega) rfl rfl (fun H hH => ?_)
  refine lv_if_eq (tgt := 232) hx hb dL_law_216 (by decide) (fun c_5 => absurd c_5 (by decide)) (fun c_5 => ?_)
  refine lv_aload_n hx hb dL_law_219 rfl (lv_at hl 8 rfl) ?_
  refine lv_iload hx hb dL_law_220 (lv_at hl 1 rfl) ?_
  refine l_call2 (X := X + 1918) (K := X + 2310) (CC := 651013) (As := [.ref (gad Γp 475), .int (nI a)]) (rest := []) (st1 := [.int 1]) hF (L_limits (N := N) (Hy := Hy) (k := (kM 13 k)) (w := w) hst hN hu hST.1.2.1 (kM_14 13 h14) ha) (va_cwS 2 hts qlL_limits rfl rfl rfl (by decide +kernel) ⟨Nat.le_of_ble_eq_true rfl, Nat.le_of_ble_eq_true rfl⟩) Tp (kq _ _ _ _) hH.swap rfl hl.1 (Nat.le_of_ble_eq_true rfl) dL_law_222 ⟨Nat.le_of_ble_eq_true rfl, Nat.le_of_ble_eq_true rfl⟩ (by omega) (by omega) rfl rfl (fun H hH => ?_)
  replace hH := hH.swap
  refine lv_if_eq (tgt := 232) hx hb dL_law_225 (by decide) (fun c_6 => absurd c_6 (by decide)) (fun c_6 => ?_)
  refine lv_iconst (v := 1) hx hb dL_law_228 (by decide) ?_
  refine lv_goto (tgt := 233) hx hb dL_law_229 (by decide) ?_
  refine lv_istore (lv' := [(4, .int 1), (9, .int (nI g)), (8, .int (nI a)), (7, .int (nI y)), (6, .int (nI x)), (5, .int (nI i)), (0, .ref b), (1, .ref (gad Γo 475)), (2, .ref (gad Γp 475))]) hx hb dL_law_233 hl (by decide) rfl (fun ls hl => ?_)
  refine W.widen (k := X + 2400) (n := 6 * (X + 2400)) (by omega) (by omega) ?_
  exact kk _ _ hH (lv_sub hl [1, 2, 3, 4, 5, 0, 6, 7, 8] rfl)

set_option maxHeartbeats 4000000 in
set_option maxRecDepth 100000 in
theorem law_B0 (C : L2C p s m c b L xs Γz Γo Γp h3) (hst : l.stackTraces = false) {u : Nat} {N : Nat → Int32} {Hy : Nat → Nat → Int32} {k : Nat} {w : WO} (hST : ST u N Hy k w) (hu : 1998 * (u + 10000) < 2 ^ 31) {i x y a g : Nat} (hi : i < 26) (hx0 : x < 2 ^ 31) (hy0 : y < 2 ^ 31) (ha : a < (N 1).toNatClampNeg) (hg : g < (N 2).toNatClampNeg) (hq : ¬ i % 3 = 2) (hX6 : X + 7000 ≤ 651013) (hH : HH Γz s h3 (fun H => SH Γo N Hy k w H ∧ SH Γp N Hy k w H) H) (hl : lv_has ls 12 [(9, .int (nI g)), (8, .int (nI a)), (7, .int (nI y)), (6, .int (nI x)), (5, .int (nI i)), (4, .int 1), (0, .ref b), (1, .ref (gad Γo 475)), (2, .ref (gad Γp 475))])
    (kk : ∀  (H1 : Heap) (ls1 : Array Slot),  HH Γz s h3 (fun H => SH Γo N Hy k w H ∧ SH Γp N Hy k w H) H1 → lv_has ls1 12 [(9, .int (nI g)), (8, .int (nI a)), (7, .int (nI y)), (6, .int (nI x)), (5, .int (nI i)), (4, .int 1), (0, .ref b), (1, .ref (gad Γo 475)), (2, .ref (gad Γp 475))] → W p l e room_1 s m #[Value.ref b] below meth c H1 [] (X + 2400) (6 * (X + 2400)) Q (F0 m 235 ls1 [])) : W p l e room_1 s m #[Value.ref b] below meth c H [] X (6 * X) Q (F0 m 165 ls []) := by
  obtain ⟨hx, hb, hF, hts, hown, To, Tp, ko, kq, hXs, hbl, hbz, hL⟩ := C
  have hRm : ∀ n, n ≤ 651013 → n ≤ room_1.cells ∧ 6 * n ≤ room_1.slots := fun n h => ⟨h, by show 6 * n ≤ 7148430; omega⟩
  have hN := hST.1.1
  have h14 := hST.2.2.1
  refine lv_iload hx hb dL_law_165 (lv_at hl 4 rfl) ?_
  refine lv_iconst (v := 3) hx hb dL_law_167 (by decide) ?_
  refine lv_irem hx hb dL_law_168 (by decide) ?_
  refine g_top (y := nI (i % 3)) (pk_rem (a := i) (d := 3) (by omega) (by decide) (by decide)) ?_
  refine lv_iconst (v := 2) hx hb dL_law_169 (by decide) ?_
  refine lv_icmp_ne (tgt := 235) hx hb dL_law_170 (by decide) (fun c_1 => ?_) (fun c_1 => absurd c_1 (fun e => hq ((nI_eq (a := i % 3) (b := 2) (by omega) (by decide)).mp e)))
  refine W.widen (k := X + 2400) (n := 6 * (X + 2400)) (by omega) (by omega) ?_
  exact kk _ _ hH (lv_sub hl [0, 1, 2, 3, 4, 5, 6, 7, 8] rfl)

set_option maxHeartbeats 4000000 in
set_option maxRecDepth 100000 in
theorem law_C1 (C : L2C p s m c b L xs Γz Γo Γp h3) (hst : l.stackTraces = false) {u : Nat} {N : Nat → Int32} {Hy : Nat → Nat → Int32} {k : Nat} {w : WO} (hST : ST u N Hy k w) (hu : 1998 * (u + 10000) < 2 ^ 31) {i x y a g : Nat} (hi : i < 26) (hx0 : x < 2 ^ 31) (hy0 : y < 2 ^ 31) (ha : a < (N 1).toNatClampNeg) (hg : g < (N 2).toNatClampNeg) (hq : i % 4 = 3) (hX6 : X + 7000 ≤ 651013) (hH : HH Γz s h3 (fun H => SH Γo N Hy k w H ∧ SH Γp N Hy k w H) H) (hl : lv_has ls 12 [(9, .int (nI g)), (8, .int (nI a)), (7, .int (nI y)), (6, .int (nI x)), (5, .int (nI i)), (4, .int 1), (0, .ref b), (1, .ref (gad Γo 475)), (2, .ref (gad Γp 475))])
    (kk : ∀  (H1 : Heap) (ls1 : Array Slot),  HH Γz s h3 (fun H => SH Γo N Hy (kF N g (kSS N g (1 + y % 9) (kW N a k))) w H ∧ SH Γp N Hy (kF N g (kSS N g (1 + y % 9) (kW N a k))) w H) H1 → lv_has ls1 12 [(9, .int (nI g)), (8, .int (nI a)), (7, .int (nI y)), (6, .int (nI x)), (5, .int (nI i)), (4, .int 1), (0, .ref b), (1, .ref (gad Γo 475)), (2, .ref (gad Γp 475))] → W p l e room_1 s m #[Value.ref b] below meth c H1 [] (X + 3000) (6 * (X + 3000)) Q (F0 m 323 ls1 [])) : W p l e room_1 s m #[Value.ref b] below meth c H [] X (6 * X) Q (F0 m 235 ls []) := by
  obtain ⟨hx, hb, hF, hts, hown, To, Tp, ko, kq, hXs, hbl, hbz, hL⟩ := C
  have hRm : ∀ n, n ≤ 651013 → n ≤ room_1.cells ∧ 6 * n ≤ room_1.slots := fun n h => ⟨h, by show 6 * n ≤ 7148430; omega⟩
  have hN := hST.1.1
  have h14 := hST.2.2.1
  refine lv_iload hx hb dL_law_235 (lv_at hl 4 rfl) ?_
  refine lv_iconst (v := 4) hx hb dL_law_237 (by decide) ?_
  refine lv_irem hx hb dL_law_238 (by decide) ?_
  refine g_top (y := 3) ((pk_rem (a := i) (d := 4) (by omega) (by decide) (by decide)).trans (congrArg nI hq)) ?_
  refine lv_iconst (v := 3) hx hb dL_law_239 (by decide) ?_
  refine lv_icmp_ne (tgt := 323) hx hb dL_law_240 (by decide) (fun c_1 => absurd (by decide) c_1) (fun c_1 => ?_)
  refine lv_iload hx hb dL_law_243 (lv_at hl 5 rfl) ?_
  refine lv_if_eq (tgt := 323) hx hb dL_law_245 (by decide) (fun c_2 => absurd c_2 (by decide)) (fun c_2 => ?_)
  refine lv_aload_n hx hb dL_law_248 rfl (lv_at hl 7 rfl) ?_
  refine lv_iload hx hb dL_law_249 (lv_at hl 1 rfl) ?_
  refine l_call2 (X := X + 0) (K := X + 392) (CC := 651013) (As := [.ref (gad Γo 475), .int (nI a)]) (rest := []) (st1 := [.int 1]) hF (L_water (N := N) (Hy := Hy) (k := k) (w := w) hst hN hu h14 ha) (va_cwS 2 hts qlL_water rfl rfl rfl (by decide +kernel) ⟨Nat.le_of_ble_eq_true rfl, Nat.le_of_ble_eq_true rfl⟩) To (ko _ _ _ _) hH rfl hl.1 (Nat.le_of_ble_eq_true rfl) dL_law_251 ⟨Nat.le_of_ble_eq_true rfl, Nat.le_of_ble_eq_true rfl⟩ (by omega) (by omega) rfl rfl (fun H hH => ?_)
  refine lv_if_eq (tgt := 320) hx hb dL_law_254 (by decide) (fun c_3 => absurd c_3 (by decide)) (fun c_3 => ?_)
  refine lv_aload_n hx hb dL_law_257 rfl (lv_at hl 8 rfl) ?_
  refine lv_iload hx hb dL_law_258 (lv_at hl 1 rfl) ?_
  refine l_call2 (X := X + 392) (K := X + 784) (CC := 651013) (As := [.ref (gad Γp 475), .int (nI a)]) (rest := []) (st1 := [.int 1]) hF (L_water (N := N) (Hy := Hy) (k := k) (w := w) hst hN hu h14 ha) (va_cwS 2 hts qlL_water rfl rfl rfl (by decide +kernel) ⟨Nat.le_of_ble_eq_true rfl, Nat.le_of_ble_eq_true rfl⟩) Tp (kq _ _ _ _) hH.swap rfl hl.1 (Nat.le_of_ble_eq_true rfl) dL_law_260 ⟨Nat.le_of_ble_eq_true rfl, Nat.le_of_ble_eq_true rfl⟩ (by omega) (by omega) rfl rfl (fun H hH => ?_)
  replace hH := hH.swap
  refine lv_if_eq (tgt := 320) hx hb dL_law_263 (by decide) (fun c_4 => absurd c_4 (by decide)) (fun c_4 => ?_)
  refine lv_aload_n hx hb dL_law_266 rfl (lv_at hl 7 rfl) ?_
  refine lv_iload hx hb dL_law_267 (lv_at hl 0 rfl) ?_
  refine lv_iconst (v := 1) hx hb dL_law_269 (by decide) ?_
  refine lv_iload hx hb dL_law_270 (lv_at hl 2 rfl) ?_
  refine lv_bipush (v := 9) hx hb dL_law_272 (by decide) ?_
  refine lv_irem hx hb dL_law_274 (by decide) ?_
  refine g_top (y := nI (y % 9)) (pk_rem (a := y) (d := 9) (by omega) (by decide) (by decide)) ?_
  refine lv_iadd hx hb dL_law_275 ?_
  refine g_top (show _ = nI (1 + (y % 9)) from nI_add _ _) ?_
  refine l_call2 (X := X + 784) (K := X + 1488) (CC := 651013) (As := [.ref (gad Γo 475), .int (nI g), .int (nI (1 + (y % 9)))]) (rest := []) (st1 := [.int 1]) hF (L_sprays (N := N) (Hy := Hy) (k := (kW N a k)) (w := w) hst hN hu (kW_14 N a h14) hg (x := 1 + y % 9) (by omega) (by omega)) (va_cwS 3 hts qlL_sprays rfl rfl rfl (by decide +kernel) ⟨Nat.le_of_ble_eq_true rfl, Nat.le_of_ble_eq_true rfl⟩) To (ko _ _ _ _) hH rfl hl.1 (Nat.le_of_ble_eq_true rfl) dL_law_276 ⟨Nat.le_of_ble_eq_true rfl, Nat.le_of_ble_eq_true rfl⟩ (by omega) (by omega) rfl rfl (fun H hH => ?_)
  refine lv_if_eq (tgt := 320) hx hb dL_law_279 (by decide) (fun c_5 => absurd c_5 (by decide)) (fun c_5 => ?_)
  refine lv_aload_n hx hb dL_law_282 rfl (lv_at hl 8 rfl) ?_
  refine lv_iload hx hb dL_law_283 (lv_at hl 0 rfl) ?_
  refine lv_iconst (v := 1) hx hb dL_law_285 (by decide) ?_
  refine lv_iload hx hb dL_law_286 (lv_at hl 2 rfl) ?_
  refine lv_bipush (v := 9) hx hb dL_law_288 (by decide) ?_
  refine lv_irem hx hb dL_law_290 (by decide) ?_
  refine g_top (y := nI (y % 9)) (pk_rem (a := y) (d := 9) (by omega) (by decide) (by decide)) ?_
  refine lv_iadd hx hb dL_law_291 ?_
  refine g_top (show _ = nI (1 + (y % 9)) from nI_add _ _) ?_
  refine l_call2 (X := X + 1488) (K := X + 2192) (CC := 651013) (As := [.ref (gad Γp 475), .int (nI g), .int (nI (1 + (y % 9)))]) (rest := []) (st1 := [.int 1]) hF (L_sprays (N := N) (Hy := Hy) (k := (kW N a k)) (w := w) hst hN hu (kW_14 N a h14) hg (x := 1 + y % 9) (by omega) (by omega)) (va_cwS 3 hts qlL_sprays rfl rfl rfl (by decide +kernel) ⟨Nat.le_of_ble_eq_true rfl, Nat.le_of_ble_eq_true rfl⟩) Tp (kq _ _ _ _) hH.swap rfl hl.1 (Nat.le_of_ble_eq_true rfl) dL_law_292 ⟨Nat.le_of_ble_eq_true rfl, Nat.le_of_ble_eq_true rfl⟩ (by omega) (by omega) rfl rfl (fun H hH => ?_)
  replace hH := hH.swap
  refine lv_if_eq (tgt := 320) hx hb dL_law_295 (by decide) (fun c_6 => absurd c_6 (by decide)) (fun c_6 => ?_)
  refine lv_aload_n hx hb dL_law_298 rfl (lv_at hl 7 rfl) ?_
  refine lv_iload hx hb dL_law_299 (lv_at hl 0 rfl) ?_
  refine l_call2 (X := X + 2192) (K := X + 2574) (CC := 651013) (As := [.ref (gad Γo 475), .int (nI g)]) (rest := []) (st1 := [.int 1]) hF (L_fills (N := N) (Hy := Hy) (k := (kSS N g (1 + y % 9) (kW N a k))) (w := w) hst hN hu (kSS_14 N g (1 + y % 9) (kW_14 N a h14)) hg) (va_cwS 2 hts qlL_fills rfl rfl rfl (by decide +kernel) ⟨Nat.le_of_ble_eq_true rfl, Nat.le_of_ble_eq_true rfl⟩) To (ko _ _ _ _) hH rfl hl.1 (Nat.le_of_ble_eq_true rfl) dL_law_301 ⟨Nat.le_of_ble_eq_true rfl, Nat.le_of_ble_eq_true rfl⟩ (by omega) (by omega) rfl rfl (fun H hH => ?_)
  refine lv_if_eq (tgt := 320) hx hb dL_law_304 (by decide) (fun c_7 => absurd c_7 (by decide)) (fun c_7 => ?_)
  refine lv_aload_n hx hb dL_law_307 rfl (lv_at hl 8 rfl) ?_
  refine lv_iload hx hb dL_law_308 (lv_at hl 0 rfl) ?_
  refine l_call2 (X := X + 2574) (K := X + 2956) (CC := 651013) (As := [.ref (gad Γp 475), .int (nI g)]) (rest := []) (st1 := [.int 1]) hF (L_fills (N := N) (Hy := Hy) (k := (kSS N g (1 + y % 9) (kW N a k))) (w := w) hst hN hu (kSS_14 N g (1 + y % 9) (kW_14 N a h14)) hg) (va_cwS 2 hts qlL_fills rfl rfl rfl (by decide +kernel) ⟨Nat.le_of_ble_eq_true rfl, Nat.le_of_ble_eq_true rfl⟩) Tp (kq _ _ _ _) hH.swap rfl hl.1 (Nat.le_of_ble_eq_true rfl) dL_law_310 ⟨Nat.le_of_ble_eq_true rfl, Nat.le_of_ble_eq_true rfl⟩ (by omega) (by omega) rfl rfl (fun H hH => ?_)
  replace hH := hH.swap
  refine lv_if_eq (tgt := 320) hx hb dL_law_313 (by decide) (fun c_8 => absurd c_8 (by decide)) (fun c_8 => ?_)
  refine lv_iconst (v := 1) hx hb dL_law_316 (by decide) ?_
  refine lv_goto (tgt := 321) hx hb dL_law_317 (by decide) ?_
  refine lv_istore (lv' := [(4, .int 1), (9, .int (nI g)), (8, .int (nI a)), (7, .int (nI y)), (6, .int (nI x)), (5, .int (nI i)), (0, .ref b), (1, .ref (gad Γo 475)), (2, .ref (gad Γp 475))]) hx hb dL_law_321 hl (by decide) rfl (fun ls hl => ?_)
  refine W.widen (k := X + 3000) (n := 6 * (X + 3000)) (by omega) (by omega) ?_
  exact kk _ _ hH (lv_sub hl [1, 2, 3, 4, 5, 0, 6, 7, 8] rfl)

set_option maxHeartbeats 4000000 in
set_option maxRecDepth 100000 in
theorem law_C0 (C : L2C p s m c b L xs Γz Γo Γp h3) (hst : l.stackTraces = false) {u : Nat} {N : Nat → Int32} {Hy : Nat → Nat → Int32} {k : Nat} {w : WO} (hST : ST u N Hy k w) (hu : 1998 * (u + 10000) < 2 ^ 31) {i x y a g : Nat} (hi : i < 26) (hx0 : x < 2 ^ 31) (hy0 : y < 2 ^ 31) (ha : a < (N 1).toNatClampNeg) (hg : g < (N 2).toNatClampNeg) (hq : ¬ i % 4 = 3) (hX6 : X + 7000 ≤ 651013) (hH : HH Γz s h3 (fun H => SH Γo N Hy k w H ∧ SH Γp N Hy k w H) H) (hl : lv_has ls 12 [(9, .int (nI g)), (8, .int (nI a)), (7, .int (nI y)), (6, .int (nI x)), (5, .int (nI i)), (4, .int 1), (0, .ref b), (1, .ref (gad Γo 475)), (2, .ref (gad Γp 475))])
    (kk : ∀  (H1 : Heap) (ls1 : Array Slot),  HH Γz s h3 (fun H => SH Γo N Hy k w H ∧ SH Γp N Hy k w H) H1 → lv_has ls1 12 [(9, .int (nI g)), (8, .int (nI a)), (7, .int (nI y)), (6, .int (nI x)), (5, .int (nI i)), (4, .int 1), (0, .ref b), (1, .ref (gad Γo 475)), (2, .ref (gad Γp 475))] → W p l e room_1 s m #[Value.ref b] below meth c H1 [] (X + 3000) (6 * (X + 3000)) Q (F0 m 323 ls1 [])) : W p l e room_1 s m #[Value.ref b] below meth c H [] X (6 * X) Q (F0 m 235 ls []) := by
  obtain ⟨hx, hb, hF, hts, hown, To, Tp, ko, kq, hXs, hbl, hbz, hL⟩ := C
  have hRm : ∀ n, n ≤ 651013 → n ≤ room_1.cells ∧ 6 * n ≤ room_1.slots := fun n h => ⟨h, by show 6 * n ≤ 7148430; omega⟩
  have hN := hST.1.1
  have h14 := hST.2.2.1
  refine lv_iload hx hb dL_law_235 (lv_at hl 4 rfl) ?_
  refine lv_iconst (v := 4) hx hb dL_law_237 (by decide) ?_
  refine lv_irem hx hb dL_law_238 (by decide) ?_
  refine g_top (y := nI (i % 4)) (pk_rem (a := i) (d := 4) (by omega) (by decide) (by decide)) ?_
  refine lv_iconst (v := 3) hx hb dL_law_239 (by decide) ?_
  refine lv_icmp_ne (tgt := 323) hx hb dL_law_240 (by decide) (fun c_1 => ?_) (fun c_1 => absurd c_1 (fun e => hq ((nI_eq (a := i % 4) (b := 3) (by omega) (by decide)).mp e)))
  refine W.widen (k := X + 3000) (n := 6 * (X + 3000)) (by omega) (by omega) ?_
  exact kk _ _ hH (lv_sub hl [0, 1, 2, 3, 4, 5, 6, 7, 8] rfl)

set_option maxHeartbeats 4000000 in
set_option maxRecDepth 100000 in
theorem law_D1 (C : L2C p s m c b L xs Γz Γo Γp h3) (hst : l.stackTraces = false) {u : Nat} {N : Nat → Int32} {Hy : Nat → Nat → Int32} {k : Nat} {w : WO} (hST : ST u N Hy k w) (hu : 1998 * (u + 10000) < 2 ^ 31) {i x y a g : Nat} (hi : i < 26) (hx0 : x < 2 ^ 31) (hy0 : y < 2 ^ 31) (ha : a < (N 1).toNatClampNeg) (hg : g < (N 2).toNatClampNeg) (hq : i % 9 = 8) (hX6 : X + 7000 ≤ 651013) (hH : HH Γz s h3 (fun H => SH Γo N Hy k w H ∧ SH Γp N Hy k w H) H) (hl : lv_has ls 12 [(9, .int (nI g)), (8, .int (nI a)), (7, .int (nI y)), (6, .int (nI x)), (5, .int (nI i)), (4, .int 1), (0, .ref b), (1, .ref (gad Γo 475)), (2, .ref (gad Γp 475))])
    (kk : ∀  (H1 : Heap) (ls1 : Array Slot),  HH Γz s h3 (fun H => SH Γo N Hy k w H ∧ SH Γp N Hy k w H) H1 → lv_has ls1 12 [(5, .int (nI (i + 1))), (4, .int 1), (0, .ref b), (1, .ref (gad Γo 475)), (2, .ref (gad Γp 475))] → W p l e room_1 s m #[Value.ref b] below meth c H1 [] (X + 400) (6 * (X + 400)) Q (F0 m 48 ls1 [])) : W p l e room_1 s m #[Value.ref b] below meth c H [] X (6 * X) Q (F0 m 323 ls []) := by
  obtain ⟨hx, hb, hF, hts, hown, To, Tp, ko, kq, hXs, hbl, hbz, hL⟩ := C
  have hRm : ∀ n, n ≤ 651013 → n ≤ room_1.cells ∧ 6 * n ≤ room_1.slots := fun n h => ⟨h, by show 6 * n ≤ 7148430; omega⟩
  have hN := hST.1.1
  have h14 := hST.2.2.1
  have k_1 : (Cond.constantLong RL 255 (3434269601)).before _ s = true := hts _ (by decide +kernel)
  have k_2 : (Cond.constantLong RL 257 (787)).before _ s = true := hts _ (by decide +kernel)
  refine lv_iload hx hb dL_law_323 (lv_at hl 4 rfl) ?_
  refine lv_bipush (v := 9) hx hb dL_law_325 (by decide) ?_
  refine lv_irem hx hb dL_law_327 (by decide) ?_
  refine g_top (y := 8) ((pk_rem (a := i) (d := 9) (by omega) (by decide) (by decide)).trans (congrArg nI hq)) ?_
  refine lv_bipush (v := 8) hx hb dL_law_328 (by decide) ?_
  refine lv_icmp_ne (tgt := 399) hx hb dL_law_330 (by decide) (fun c_1 => absurd (by decide) c_1) (fun c_1 => ?_)
  refine lv_iload hx hb dL_law_333 (lv_at hl 5 rfl) ?_
  refine lv_if_eq (tgt := 399) hx hb dL_law_335 (by decide) (fun c_2 => absurd c_2 (by decide)) (fun c_2 => ?_)
  refine lv_iload hx hb dL_law_338 (lv_at hl 2 rfl) ?_
  refine lv_i2l hx hb dL_law_340 rfl ?_
  refine lv_ldc2 hx hb hown k_1 dL_law_341 ?_
  refine lv_lmul hx hb dL_law_344 ?_
  refine lv_ldc2 hx hb hown k_2 dL_law_345 ?_
  refine lv_lsub hx hb dL_law_348 ?_
  refine lv_lstore (lv' := [(10, .long ((((nI y).toInt64) * 3434269601) - 787)), (9, .int (nI g)), (8, .int (nI a)), (7, .int (nI y)), (6, .int (nI x)), (5, .int (nI i)), (4, .int 1), (0, .ref b), (1, .ref (gad Γo 475)), (2, .ref (gad Γp 475))]) hx hb dL_law_349 hl (by decide) rfl (fun ls hl => ?_)
  refine lv_aload_n hx hb dL_law_351 rfl (lv_at hl 8 rfl) ?_
  refine lv_lload hx hb dL_law_352 (lv_at hl 0 rfl) ?_
  refine lv_iconst (v := 1) hx hb dL_law_354 (by decide) ?_
  refine lv_iload hx hb dL_law_355 (lv_at hl 4 rfl) ?_
  refine lv_bipush (v := 60) hx hb dL_law_357 (by decide) ?_
  refine lv_irem hx hb dL_law_359 (by decide) ?_
  refine g_top (y := nI (x % 60)) (pk_rem (a := x) (d := 60) (by omega) (by decide) (by decide)) ?_
  refine lv_iadd hx hb dL_law_360 ?_
  refine g_top (show _ = nI (1 + (x % 60)) from nI_add _ _) ?_
  refine l_callW2 (X := X + 0) (K := X + 1) (CC := 651013) (As := [.ref (gad Γo 475), .long ((((nI y).toInt64) * 3434269601) - 787), .int (nI (1 + (x % 60)))]) (rest := []) (st1 := [.int (vA (rfSi (nI (1 + (x % 60)))) ecA (v_simulate N ((((nI y).toInt64) * 3434269601) - 787) (nI (1 + (x % 60)))))]) hF (cl_simulate (l := l) hst (H := Hy) (k := k) (w := w) hN (by omega) ((((nI y).toInt64) * 3434269601) - 787) (nI (1 + (x % 60)))) (vx_cwSW 3 hts qlL_trySimulate rfl rfl rfl (by decide +kernel) ⟨Nat.le_of_ble_eq_true rfl, Nat.le_of_ble_eq_true rfl⟩) To (ko _ _ _ _) hH rfl hl.1 (Nat.le_of_ble_eq_true rfl) dL_law_361 ⟨Nat.le_of_ble_eq_true rfl, Nat.le_of_ble_eq_true rfl⟩ (by omega) (by omega) rfl rfl (fun H hH => ?_)
  refine lv_aload_n hx hb dL_law_364 rfl (lv_at hl 9 rfl) ?_
  refine lv_lload hx hb dL_law_365 (lv_at hl 0 rfl) ?_
  refine lv_iconst (v := 1) hx hb dL_law_367 (by decide) ?_
  refine lv_iload hx hb dL_law_368 (lv_at hl 4 rfl) ?_
  refine lv_bipush (v := 60) hx hb dL_law_370 (by decide) ?_
  refine lv_irem hx hb dL_law_372 (by decide) ?_
  refine g_top (y := nI (x % 60)) (pk_rem (a := x) (d := 60) (by omega) (by decide) (by decide)) ?_
  refine lv_iadd hx hb dL_law_373 ?_
  refine g_top (show _ = nI (1 + (x % 60)) from nI_add _ _) ?_
  refine l_callW2 (X := X + 1) (K := X + 2) (CC := 651013) (As := [.ref (gad Γp 475), .long ((((nI y).toInt64) * 3434269601) - 787), .int (nI (1 + (x % 60)))]) (rest := [.int (vA (rfSi (nI (1 + (x % 60)))) ecA (v_simulate N ((((nI y).toInt64) * 3434269601) - 787) (nI (1 + (x % 60)))))]) (st1 := [.int (vA (rfSi (nI (1 + (x % 60)))) ecA (v_simulate N ((((nI y).toInt64) * 3434269601) - 787) (nI (1 + (x % 60))))), .int (vA (rfSi (nI (1 + (x % 60)))) ecA (v_simulate N ((((nI y).toInt64) * 3434269601) - 787) (nI (1 + (x % 60)))))]) hF (cl_simulate (l := l) hst (H := Hy) (k := k) (w := w) hN (by omega) ((((nI y).toInt64) * 3434269601) - 787) (nI (1 + (x % 60)))) (vx_cwSW 3 hts qlL_trySimulate rfl rfl rfl (by decide +kernel) ⟨Nat.le_of_ble_eq_true rfl, Nat.le_of_ble_eq_true rfl⟩) Tp (kq _ _ _ _) hH.swap rfl hl.1 (Nat.le_of_ble_eq_true rfl) dL_law_374 ⟨Nat.le_of_ble_eq_true rfl, Nat.le_of_ble_eq_true rfl⟩ (by omega) (by omega) rfl rfl (fun H hH => ?_)
  replace hH := hH.swap
  refine lv_icmp_ne (tgt := 396) hx hb dL_law_377 (by decide) (fun c_3 => absurd rfl c_3) (fun c_3 => ?_)
  refine lv_aload_n hx hb dL_law_380 rfl (lv_at hl 8 rfl) ?_
  refine l_call2 (X := X + 2) (K := X + 178) (CC := 651013) (As := [.ref (gad Γo 475)]) (rest := []) (st1 := [.long (sumF N)]) hF (L_sum (N := N) (Hy := Hy) (k := k) (w := w) hst hN (by omega)) (va_cwS 1 hts qlL_sum rfl rfl rfl (by decide +kernel) ⟨Nat.le_of_ble_eq_true rfl, Nat.le_of_ble_eq_true rfl⟩) To (ko _ _ _ _) hH rfl hl.1 (Nat.le_of_ble_eq_true rfl) dL_law_381 ⟨Nat.le_of_ble_eq_true rfl, Nat.le_of_ble_eq_true rfl⟩ (by omega) (by omega) rfl rfl (fun H hH => ?_)
  refine lv_aload_n hx hb dL_law_384 rfl (lv_at hl 9 rfl) ?_
  refine l_call2 (X := X + 178) (K := X + 354) (CC := 651013) (As := [.ref (gad Γp 475)]) (rest := [.long (sumF N)]) (st1 := [.long (sumF N), .long (sumF N)]) hF (L_sum (N := N) (Hy := Hy) (k := k) (w := w) hst hN (by omega)) (va_cwS 1 hts qlL_sum rfl rfl rfl (by decide +kernel) ⟨Nat.le_of_ble_eq_true rfl, Nat.le_of_ble_eq_true rfl⟩) Tp (kq _ _ _ _) hH.swap rfl hl.1 (Nat.le_of_ble_eq_true rfl) dL_law_385 ⟨Nat.le_of_ble_eq_true rfl, Nat.le_of_ble_eq_true rfl⟩ (by omega) (by omega) rfl rfl (fun H hH => ?_)
  replace hH := hH.swap
  refine W.lcmp hx hb dL_law_388 ?_
  refine gl_ne (tgt := 396) hx hb dL_law_389 (by decide) (fun c_4 => absurd rfl c_4) (fun c_4 => ?_)
  refine lv_iconst (v := 1) hx hb dL_law_392 (by decide) ?_
  refine lv_goto (tgt := 397) hx hb dL_law_393 (by decide) ?_
  refine lv_istore (lv' := [(4, .int 1), (10, .long ((((nI y).toInt64) * 3434269601) - 787)), (9, .int (nI g)), (8, .int (nI a)), (7, .int (nI y)), (6, .int (nI x)), (5, .int (nI i)), (0, .ref b), (1, .ref (gad Γo 475)), (2, .ref (gad Γp 475))]) hx hb dL_law_397 hl (by decide) rfl (fun ls hl => ?_)
  refine lv_iinc (v := nI (i + 1)) (lv' := [(5, .int (nI (i + 1))), (4, .int 1), (10, .long ((((nI y).toInt64) * 3434269601) - 787)), (9, .int (nI g)), (8, .int (nI a)), (7, .int (nI y)), (6, .int (nI x)), (0, .ref b), (1, .ref (gad Γo 475)), (2, .ref (gad Γp 475))]) hx hb dL_law_399 hl (k := 6) rfl (nI_1 _) (by decide) rfl (fun ls hl => ?_)
  refine lv_goto (tgt := 48) hx hb dL_law_402 (by decide) ?_
  refine W.widen (k := X + 400) (n := 6 * (X + 400)) (by omega) (by omega) ?_
  exact kk _ _ hH (lv_sub hl [0, 1, 7, 8, 9] rfl)

set_option maxHeartbeats 4000000 in
set_option maxRecDepth 100000 in
theorem law_D0 (C : L2C p s m c b L xs Γz Γo Γp h3) (hst : l.stackTraces = false) {u : Nat} {N : Nat → Int32} {Hy : Nat → Nat → Int32} {k : Nat} {w : WO} (hST : ST u N Hy k w) (hu : 1998 * (u + 10000) < 2 ^ 31) {i x y a g : Nat} (hi : i < 26) (hx0 : x < 2 ^ 31) (hy0 : y < 2 ^ 31) (ha : a < (N 1).toNatClampNeg) (hg : g < (N 2).toNatClampNeg) (hq : ¬ i % 9 = 8) (hX6 : X + 7000 ≤ 651013) (hH : HH Γz s h3 (fun H => SH Γo N Hy k w H ∧ SH Γp N Hy k w H) H) (hl : lv_has ls 12 [(9, .int (nI g)), (8, .int (nI a)), (7, .int (nI y)), (6, .int (nI x)), (5, .int (nI i)), (4, .int 1), (0, .ref b), (1, .ref (gad Γo 475)), (2, .ref (gad Γp 475))])
    (kk : ∀  (H1 : Heap) (ls1 : Array Slot),  HH Γz s h3 (fun H => SH Γo N Hy k w H ∧ SH Γp N Hy k w H) H1 → lv_has ls1 12 [(5, .int (nI (i + 1))), (4, .int 1), (0, .ref b), (1, .ref (gad Γo 475)), (2, .ref (gad Γp 475))] → W p l e room_1 s m #[Value.ref b] below meth c H1 [] (X + 400) (6 * (X + 400)) Q (F0 m 48 ls1 [])) : W p l e room_1 s m #[Value.ref b] below meth c H [] X (6 * X) Q (F0 m 323 ls []) := by
  obtain ⟨hx, hb, hF, hts, hown, To, Tp, ko, kq, hXs, hbl, hbz, hL⟩ := C
  have hRm : ∀ n, n ≤ 651013 → n ≤ room_1.cells ∧ 6 * n ≤ room_1.slots := fun n h => ⟨h, by show 6 * n ≤ 7148430; omega⟩
  have hN := hST.1.1
  have h14 := hST.2.2.1
  refine lv_iload hx hb dL_law_323 (lv_at hl 4 rfl) ?_
  refine lv_bipush (v := 9) hx hb dL_law_325 (by decide) ?_
  refine lv_irem hx hb dL_law_327 (by decide) ?_
  refine g_top (y := nI (i % 9)) (pk_rem (a := i) (d := 9) (by omega) (by decide) (by decide)) ?_
  refine lv_bipush (v := 8) hx hb dL_law_328 (by decide) ?_
  refine lv_icmp_ne (tgt := 399) hx hb dL_law_330 (by decide) (fun c_1 => ?_) (fun c_1 => absurd c_1 (fun e => hq ((nI_eq (a := i % 9) (b := 8) (by omega) (by decide)).mp e)))
  refine lv_iinc (v := nI (i + 1)) (lv' := [(5, .int (nI (i + 1))), (9, .int (nI g)), (8, .int (nI a)), (7, .int (nI y)), (6, .int (nI x)), (4, .int 1), (0, .ref b), (1, .ref (gad Γo 475)), (2, .ref (gad Γp 475))]) hx hb dL_law_399 hl (k := 4) rfl (nI_1 _) (by decide) rfl (fun ls hl => ?_)
  refine lv_goto (tgt := 48) hx hb dL_law_402 (by decide) ?_
  refine W.widen (k := X + 400) (n := 6 * (X + 400)) (by omega) (by omega) ?_
  exact kk _ _ hH (lv_sub hl [0, 5, 6, 7, 8] rfl)

end LS
