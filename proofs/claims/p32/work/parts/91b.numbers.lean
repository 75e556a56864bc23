/-! THE LAW: numbers. Laid by gen/r92.py. -/
set_option maxRecDepth 16384
/-- a sum over all of a kind -/
def aF (N : Nat → Int32) (b k o : Nat) : Nat → Int32
  | 0 => 0
  | n + 1 => aF N b k o n + N (b + k * n + o)
/-- the numbers of a page are well -/
def GD (N : Nat → Int32) : Prop := (∀ s, s < (N 0).toNatClampNeg → ¬ N (12 + 7 * s + 1) < 1 ∧ ¬ 5 < N (12 + 7 * s + 1) + N (12 + 7 * s + 2) ∧ (4 ≤ N (12 + 7 * s + 6) / 3 → N (12 + 7 * s + 2) = 4) ∧ (N (12 + 7 * s + 6) / 3 < 4 → N (12 + 7 * s + 2) = N (12 + 7 * s + 6) / 3)) ∧ (∀ i, i < (N 1).toNatClampNeg → ¬ N (82 + 5 * i + 2) < N (82 + 5 * i + 4)) ∧ aF N 12 7 6 (N 0).toNatClampNeg = N 10 ∧ aF N 82 5 3 (N 1).toNatClampNeg = N 10
theorem dAll_eq {u : Nat} {N : Nat → Int32} (hN : PI u N) : ∀ n, n ≤ (N 0).toNatClampNeg → fX7_about_A2 N (fun _ => 0) n = aF N 12 7 3 n
  | 0, _ => rfl
  | n + 1, hn => by
    have h := dAll_eq hN n (by omega)
    have hb := hN.s10.2
    have c1 : ¬ fX7_isSegment_v N (nI n) = 0 := by rw [sg_ok hN]; exact fun q => q (ok_cnt hN.s10 (by decide) rfl hn)
    show fX7_about_A2 N (fun _ => 0) n + fX7_dustOf_v N (nI n) = aF N 12 7 3 n + N (12 + 7 * n + 3)
    rw [h]
    unfold fX7_dustOf_v
    rw [if_neg c1, nI_clamp (by omega)]
theorem nn.ngt {b : Nat} {x : Int32} (h : nn b x) (hb : b < 2 ^ 31) : ¬ nI b < x := by
  have h2 := h.2
  rw [h.1]
  exact nI_nlt (a := b) (b := x.toNatClampNeg) h2 (by omega)
set_option maxHeartbeats 4000000 in
set_option maxRecDepth 100000 in
theorem L_numbers {l : Launch} {Γ : gX} (hst : l.stackTraces = false) {u : Nat} {N : Nat → Int32} {Hy : Nat → Nat → Int32} {k : Nat} {w : WO} (hN : PI u N) (hu : 1998 * (u + 5000) < 2 ^ 31) (hG0 : GD N) : lM l Γ yL_numbers wqL_numbers 12 262 195 [.ref (gad Γ 475)] (SH Γ N Hy k w) (some (.int 1)) (SH Γ N Hy k w) := by
  refine l_start (cc := cL_numbers) (maxL := 8) (ret := (some .boolean)) (by decide) rfl (Nat.le_of_ble_eq_true rfl) ?_
  intro p e s m below meth c ls hx hb hml hrt hts hown hlocks hK hZ hX hY hG hS hl
  have hl : lv_has ls 8 [(0, .ref (gad Γ 475))] := hl
  have hown : s.vm.findClass RL = some m.cls := hown
  have hF : CallFix p m c cL_numbers 8 s _ wqL_numbers RL := ⟨hx, hb, hml, hown, hts⟩
  have b0 := hN.s10.2
  have b1 := hN.h8.2
  have b2 := hN.w3.2
  refine lv_iconst (v := 1) hx hb dL_numbers_0 (by decide) ?_
  refine lv_istore_n (lv' := [(1, .int 1), (0, .ref (gad Γ 475))]) hx hb dL_numbers_1 rfl hl (by decide) rfl (fun ls hl => ?_)
  refine lv_iconst (v := 0) hx hb dL_numbers_2 (by decide) ?_
  refine lv_istore_n (lv' := [(2, .int 0), (1, .int 1), (0, .ref (gad Γ 475))]) hx hb dL_numbers_3 rfl hl (by decide) rfl (fun ls hl => ?_)
  refine lv_iconst (v := 0) hx hb dL_numbers_4 (by decide) ?_
  refine lv_istore_n (lv' := [(3, .int 0), (2, .int 0), (1, .int 1), (0, .ref (gad Γ 475))]) hx hb dL_numbers_5 rfl hl (by decide) rfl (fun ls hl => ?_)
  refine lv_iconst (v := 0) hx hb dL_numbers_6 (by decide) ?_
  refine lv_istore (lv' := [(4, .int 0), (3, .int 0), (2, .int 0), (1, .int 1), (0, .ref (gad Γ 475))]) hx hb dL_numbers_7 hl (by decide) rfl (fun ls hl => ?_)
  refine lv_iconst (v := 0) hx hb dL_numbers_9 (by decide) ?_
  refine lv_istore (lv' := [(5, .int 0), (4, .int 0), (3, .int 0), (2, .int 0), (1, .int 1), (0, .ref (gad Γ 475))]) hx hb dL_numbers_10 hl (by decide) rfl (fun ls hl => ?_)
  refine loopN ((N 0).toNatClampNeg) (0) 13 (fun i H locs ls => (SH Γ N Hy k w) H ∧ va_S (gA Γ) s.heap H locs ∧ lv_has ls 8 [(0, .ref (gad Γ 475)), (1, .int 1), (2, .int (aF N 12 7 6 i)), (3, .int 0), (4, .int (aF N 12 7 3 i)), (5, .int (nI i))]) 12 (fun i hi H locs ls hInv next => ?_) (fun H locs ls hInv => ?_) ((N 0).toNatClampNeg) 0 (Nat.zero_add _) _ _ _ ⟨hG, hS, lv_sub hl [5, 4, 3, 2, 1, 0] rfl⟩
  · --turn
    obtain ⟨hG, hS, hl⟩ := hInv
    refine lv_iload hx hb dL_numbers_12 (lv_at hl 5 rfl) ?_
    refine lv_aload_n hx hb dL_numbers_14 rfl (lv_at hl 0 rfl) ?_
    refine lv_iconst (v := 0) hx hb dL_numbers_15 (by decide) ?_
    refine l_call (X := 0 + 13 * i) (K := 1 + 13 * i) (CC := 195) (As := [.ref (gad Γ 475), .int 0]) (rest := [.int (nI i)]) (st1 := [.int (N 0), .int (nI i)]) hF (r_about (N := N) (Hy := Hy) (k := k) (w := w) hst hN hu (a := 0) (j := 0) rfl (by decide)) (va_cwS 2 hts qL_about rfl rfl rfl (by decide +kernel) ⟨Nat.le_of_ble_eq_true rfl, Nat.le_of_ble_eq_true rfl⟩) hK hZ hX hY hG hS rfl hl.1 (Nat.le_of_ble_eq_true rfl) dL_numbers_16 ⟨Nat.le_of_ble_eq_true rfl, Nat.le_of_ble_eq_true rfl⟩ (by omega) (by omega) rfl rfl (fun H locs hG hS => ?_)
    refine lv_icmp_ge (tgt := 163) hx hb dL_numbers_19 (by decide) (fun c_1 => absurd c_1 (lt_cnt hN.s10 (by decide) hi)) (fun c_1 => ?_)
    refine lv_aload_n hx hb dL_numbers_22 rfl (lv_at hl 0 rfl) ?_
    refine lv_iload hx hb dL_numbers_23 (lv_at hl 5 rfl) ?_
    refine lv_bipush (v := 6) hx hb dL_numbers_25 (by decide) ?_
    refine l_call (X := 1 + 13 * i) (K := 2 + 13 * i) (CC := 195) (As := [.ref (gad Γ 475), .int (nI i), .int 6]) (rest := []) (st1 := [.int (N (12 + 7 * i + 6))]) hF (r_segment (N := N) (Hy := Hy) (k := k) (w := w) hst hN hu (a := (nI i)) (d := 6) (i := i) (j := 6) rfl rfl hi (by decide)) (va_cwS 3 hts qL_segment rfl rfl rfl (by decide +kernel) ⟨Nat.le_of_ble_eq_true rfl, Nat.le_of_ble_eq_true rfl⟩) hK hZ hX hY hG hS rfl hl.1 (Nat.le_of_ble_eq_true rfl) dL_numbers_27 ⟨Nat.le_of_ble_eq_true rfl, Nat.le_of_ble_eq_true rfl⟩ (by omega) (by omega) rfl rfl (fun H locs hG hS => ?_)
    refine lv_istore (lv' := [(6, .int (N (12 + 7 * i + 6))), (0, .ref (gad Γ 475)), (1, .int 1), (2, .int (aF N 12 7 6 i)), (3, .int 0), (4, .int (aF N 12 7 3 i)), (5, .int (nI i))]) hx hb dL_numbers_30 hl (by decide) rfl (fun ls hl => ?_)
    refine lv_aload_n hx hb dL_numbers_32 rfl (lv_at hl 1 rfl) ?_
    refine lv_iload hx hb dL_numbers_33 (lv_at hl 6 rfl) ?_
    refine lv_iconst (v := 2) hx hb dL_numbers_35 (by decide) ?_
    refine l_call (X := 2 + 13 * i) (K := 3 + 13 * i) (CC := 195) (As := [.ref (gad Γ 475), .int (nI i), .int 2]) (rest := []) (st1 := [.int (N (12 + 7 * i + 2))]) hF (r_segment (N := N) (Hy := Hy) (k := k) (w := w) hst hN hu (a := (nI i)) (d := 2) (i := i) (j := 2) rfl rfl hi (by decide)) (va_cwS 3 hts qL_segment rfl rfl rfl (by decide +kernel) ⟨Nat.le_of_ble_eq_true rfl, Nat.le_of_ble_eq_true rfl⟩) hK hZ hX hY hG hS rfl hl.1 (Nat.le_of_ble_eq_true rfl) dL_numbers_36 ⟨Nat.le_of_ble_eq_true rfl, Nat.le_of_ble_eq_true rfl⟩ (by omega) (by omega) rfl rfl (fun H locs hG hS => ?_)
    refine lv_istore (lv' := [(7, .int (N (12 + 7 * i + 2))), (6, .int (N (12 + 7 * i + 6))), (0, .ref (gad Γ 475)), (1, .int 1), (2, .int (aF N 12 7 6 i)), (3, .int 0), (4, .int (aF N 12 7 3 i)), (5, .int (nI i))]) hx hb dL_numbers_39 hl (by decide) rfl (fun ls hl => ?_)
    refine lv_iload_n hx hb dL_numbers_41 rfl (lv_at hl 3 rfl) ?_
    refine lv_aload_n hx hb dL_numbers_42 rfl (lv_at hl 2 rfl) ?_
    refine lv_iload hx hb dL_numbers_43 (lv_at hl 7 rfl) ?_
    refine lv_iconst (v := 1) hx hb dL_numbers_45 (by decide) ?_
    refine l_call (X := 3 + 13 * i) (K := 4 + 13 * i) (CC := 195) (As := [.ref (gad Γ 475), .int (nI i), .int 1]) (rest := [.int 1]) (st1 := [.int (N (12 + 7 * i + 1)), .int 1]) hF (r_segment (N := N) (Hy := Hy) (k := k) (w := w) hst hN hu (a := (nI i)) (d := 1) (i := i) (j := 1) rfl rfl hi (by decide)) (va_cwS 3 hts qL_segment rfl rfl rfl (by decide +kernel) ⟨Nat.le_of_ble_eq_true rfl, Nat.le_of_ble_eq_true rfl⟩) hK hZ hX hY hG hS rfl hl.1 (Nat.le_of_ble_eq_true rfl) dL_numbers_46 ⟨Nat.le_of_ble_eq_true rfl, Nat.le_of_ble_eq_true rfl⟩ (by omega) (by omega) rfl rfl (fun H locs hG hS => ?_)
    refine lv_iconst (v := 1) hx hb dL_numbers_49 (by decide) ?_
    refine lv_icmp_lt (tgt := 137) hx hb dL_numbers_50 (by decide) (fun c_2 => absurd c_2 ((hG0.1 i hi).1)) (fun c_2 => ?_)
    refine lv_aload_n hx hb dL_numbers_53 rfl (lv_at hl 2 rfl) ?_
    refine lv_iload hx hb dL_numbers_54 (lv_at hl 7 rfl) ?_
    refine lv_iconst (v := 1) hx hb dL_numbers_56 (by decide) ?_
    refine l_call (X := 4 + 13 * i) (K := 5 + 13 * i) (CC := 195) (As := [.ref (gad Γ 475), .int (nI i), .int 1]) (rest := [.int 1]) (st1 := [.int (N (12 + 7 * i + 1)), .int 1]) hF (r_segment (N := N) (Hy := Hy) (k := k) (w := w) hst hN hu (a := (nI i)) (d := 1) (i := i) (j := 1) rfl rfl hi (by decide)) (va_cwS 3 hts qL_segment rfl rfl rfl (by decide +kernel) ⟨Nat.le_of_ble_eq_true rfl, Nat.le_of_ble_eq_true rfl⟩) hK hZ hX hY hG hS rfl hl.1 (Nat.le_of_ble_eq_true rfl) dL_numbers_57 ⟨Nat.le_of_ble_eq_true rfl, Nat.le_of_ble_eq_true rfl⟩ (by omega) (by omega) rfl rfl (fun H locs hG hS => ?_)
    refine lv_iload hx hb dL_numbers_60 (lv_at hl 0 rfl) ?_
    refine lv_iadd hx hb dL_numbers_62 ?_
    refine lv_iconst (v := 5) hx hb dL_numbers_63 (by decide) ?_
    refine lv_icmp_gt (tgt := 137) hx hb dL_numbers_64 (by decide) (fun c_3 => absurd c_3 ((hG0.1 i hi).2.1)) (fun c_3 => ?_)
    refine lv_iload hx hb dL_numbers_67 (lv_at hl 0 rfl) ?_
    refine lv_iload hx hb dL_numbers_69 (lv_at hl 1 rfl) ?_
    refine lv_iconst (v := 3) hx hb dL_numbers_71 (by decide) ?_
    refine lv_idiv hx hb dL_numbers_72 (by decide) ?_
    refine lv_iconst (v := 4) hx hb dL_numbers_73 (by decide) ?_
    refine lv_icmp_ge (tgt := 84) hx hb dL_numbers_74 (by decide) (fun c_4 => ?_) (fun c_4 => ?_)
    · --T
      refine lv_iconst (v := 4) hx hb dL_numbers_84 (by decide) ?_
      refine lv_icmp_ne (tgt := 137) hx hb dL_numbers_85 (by decide) (fun c_5 => absurd ((hG0.1 i hi).2.2.1 c_4) c_5) (fun c_5 => ?_)
      refine lv_aload_n hx hb dL_numbers_88 rfl (lv_at hl 2 rfl) ?_
      refine lv_iload hx hb dL_numbers_89 (lv_at hl 7 rfl) ?_
      refine lv_iconst (v := 3) hx hb dL_numbers_91 (by decide) ?_
      refine l_call (X := 5 + 13 * i) (K := 6 + 13 * i) (CC := 195) (As := [.ref (gad Γ 475), .int (nI i), .int 3]) (rest := [.int 1]) (st1 := [.int (N (12 + 7 * i + 3)), .int 1]) hF (r_segment (N := N) (Hy := Hy) (k := k) (w := w) hst hN hu (a := (nI i)) (d := 3) (i := i) (j := 3) rfl rfl hi (by decide)) (va_cwS 3 hts qL_segment rfl rfl rfl (by decide +kernel) ⟨Nat.le_of_ble_eq_true rfl, Nat.le_of_ble_eq_true rfl⟩) hK hZ hX hY hG hS rfl hl.1 (Nat.le_of_ble_eq_true rfl) dL_numbers_92 ⟨Nat.le_of_ble_eq_true rfl, Nat.le_of_ble_eq_true rfl⟩ (by omega) (by omega) rfl rfl (fun H locs hG hS => ?_)
      refine lv_if_lt (tgt := 137) hx hb dL_numbers_95 (by decide) (fun c_6 => absurd c_6 ((hN.ns (i := i) (by omega) 3 999 (by omega) rfl rfl).not_neg (by decide))) (fun c_6 => ?_)
      refine lv_aload_n hx hb dL_numbers_98 rfl (lv_at hl 2 rfl) ?_
      refine lv_iload hx hb dL_numbers_99 (lv_at hl 7 rfl) ?_
      refine lv_iconst (v := 3) hx hb dL_numbers_101 (by decide) ?_
      refine l_call (X := 6 + 13 * i) (K := 7 + 13 * i) (CC := 195) (As := [.ref (gad Γ 475), .int (nI i), .int 3]) (rest := [.int 1]) (st1 := [.int (N (12 + 7 * i + 3)), .int 1]) hF (r_segment (N := N) (Hy := Hy) (k := k) (w := w) hst hN hu (a := (nI i)) (d := 3) (i := i) (j := 3) rfl rfl hi (by decide)) (va_cwS 3 hts qL_segment rfl rfl rfl (by decide +kernel) ⟨Nat.le_of_ble_eq_true rfl, Nat.le_of_ble_eq_true rfl⟩) hK hZ hX hY hG hS rfl hl.1 (Nat.le_of_ble_eq_true rfl) dL_numbers_102 ⟨Nat.le_of_ble_eq_true rfl, Nat.le_of_ble_eq_true rfl⟩ (by omega) (by omega) rfl rfl (fun H locs hG hS => ?_)
      refine lv_sipush (v := 999) hx hb dL_numbers_105 (by decide) ?_
      refine lv_icmp_gt (tgt := 137) hx hb dL_numbers_108 (by decide) (fun c_7 => absurd c_7 ((hN.ns (i := i) (by omega) 3 999 (by omega) rfl rfl).ngt (by decide))) (fun c_7 => ?_)
      refine lv_aload_n hx hb dL_numbers_111 rfl (lv_at hl 2 rfl) ?_
      refine lv_iload hx hb dL_numbers_112 (lv_at hl 7 rfl) ?_
      refine lv_iconst (v := 4) hx hb dL_numbers_114 (by decide) ?_
      refine l_call (X := 7 + 13 * i) (K := 8 + 13 * i) (CC := 195) (As := [.ref (gad Γ 475), .int (nI i), .int 4]) (rest := [.int 1]) (st1 := [.int (N (12 + 7 * i + 4)), .int 1]) hF (r_segment (N := N) (Hy := Hy) (k := k) (w := w) hst hN hu (a := (nI i)) (d := 4) (i := i) (j := 4) rfl rfl hi (by decide)) (va_cwS 3 hts qL_segment rfl rfl rfl (by decide +kernel) ⟨Nat.le_of_ble_eq_true rfl, Nat.le_of_ble_eq_true rfl⟩) hK hZ hX hY hG hS rfl hl.1 (Nat.le_of_ble_eq_true rfl) dL_numbers_115 ⟨Nat.le_of_ble_eq_true rfl, Nat.le_of_ble_eq_true rfl⟩ (by omega) (by omega) rfl rfl (fun H locs hG hS => ?_)
      refine lv_if_lt (tgt := 137) hx hb dL_numbers_118 (by decide) (fun c_8 => absurd c_8 ((hN.ns (i := i) (by omega) 4 9 (by omega) rfl rfl).not_neg (by decide))) (fun c_8 => ?_)
      refine lv_aload_n hx hb dL_numbers_121 rfl (lv_at hl 2 rfl) ?_
      refine lv_iload hx hb dL_numbers_122 (lv_at hl 7 rfl) ?_
      refine lv_iconst (v := 4) hx hb dL_numbers_124 (by decide) ?_
      refine l_call (X := 8 + 13 * i) (K := 9 + 13 * i) (CC := 195) (As := [.ref (gad Γ 475), .int (nI i), .int 4]) (rest := [.int 1]) (st1 := [.int (N (12 + 7 * i + 4)), .int 1]) hF (r_segment (N := N) (Hy := Hy) (k := k) (w := w) hst hN hu (a := (nI i)) (d := 4) (i := i) (j := 4) rfl rfl hi (by decide)) (va_cwS 3 hts qL_segment rfl rfl rfl (by decide +kernel) ⟨Nat.le_of_ble_eq_true rfl, Nat.le_of_ble_eq_true rfl⟩) hK hZ hX hY hG hS rfl hl.1 (Nat.le_of_ble_eq_true rfl) dL_numbers_125 ⟨Nat.le_of_ble_eq_true rfl, Nat.le_of_ble_eq_true rfl⟩ (by omega) (by omega) rfl rfl (fun H locs hG hS => ?_)
      refine lv_bipush (v := 9) hx hb dL_numbers_128 (by decide) ?_
      refine lv_icmp_gt (tgt := 137) hx hb dL_numbers_130 (by decide) (fun c_9 => absurd c_9 ((hN.ns (i := i) (by omega) 4 9 (by omega) rfl rfl).ngt (by decide))) (fun c_9 => ?_)
      refine lv_iconst (v := 1) hx hb dL_numbers_133 (by decide) ?_
      refine lv_goto (tgt := 138) hx hb dL_numbers_134 (by decide) ?_
      refine lv_iand hx hb dL_numbers_138 ?_
      refine g_top (y := 1) (show (1 &&& 1 : Int32) = 1 from rfl) ?_
      refine lv_istore_n (lv' := [(1, .int 1), (7, .int (N (12 + 7 * i + 2))), (6, .int (N (12 + 7 * i + 6))), (0, .ref (gad Γ 475)), (2, .int (aF N 12 7 6 i)), (3, .int 0), (4, .int (aF N 12 7 3 i)), (5, .int (nI i))]) hx hb dL_numbers_139 rfl hl (by decide) rfl (fun ls hl => ?_)
      refine lv_iload_n hx hb dL_numbers_140 rfl (lv_at hl 4 rfl) ?_
      refine lv_iload hx hb dL_numbers_141 (lv_at hl 2 rfl) ?_
      refine lv_iadd hx hb dL_numbers_143 ?_
      refine lv_istore_n (lv' := [(2, .int ((aF N 12 7 6 i) + (N (12 + 7 * i + 6)))), (1, .int 1), (7, .int (N (12 + 7 * i + 2))), (6, .int (N (12 + 7 * i + 6))), (0, .ref (gad Γ 475)), (3, .int 0), (4, .int (aF N 12 7 3 i)), (5, .int (nI i))]) hx hb dL_numbers_144 rfl hl (by decide) rfl (fun ls hl => ?_)
      refine lv_iload hx hb dL_numbers_145 (lv_at hl 6 rfl) ?_
      refine lv_aload_n hx hb dL_numbers_147 rfl (lv_at hl 4 rfl) ?_
      refine lv_iload hx hb dL_numbers_148 (lv_at hl 7 rfl) ?_
      refine lv_iconst (v := 3) hx hb dL_numbers_150 (by decide) ?_
      refine l_call (X := 9 + 13 * i) (K := 10 + 13 * i) (CC := 195) (As := [.ref (gad Γ 475), .int (nI i), .int 3]) (rest := [.int (aF N 12 7 3 i)]) (st1 := [.int (N (12 + 7 * i + 3)), .int (aF N 12 7 3 i)]) hF (r_segment (N := N) (Hy := Hy) (k := k) (w := w) hst hN hu (a := (nI i)) (d := 3) (i := i) (j := 3) rfl rfl hi (by decide)) (va_cwS 3 hts qL_segment rfl rfl rfl (by decide +kernel) ⟨Nat.le_of_ble_eq_true rfl, Nat.le_of_ble_eq_true rfl⟩) hK hZ hX hY hG hS rfl hl.1 (Nat.le_of_ble_eq_true rfl) dL_numbers_151 ⟨Nat.le_of_ble_eq_true rfl, Nat.le_of_ble_eq_true rfl⟩ (by omega) (by omega) rfl rfl (fun H locs hG hS => ?_)
      refine lv_iadd hx hb dL_numbers_154 ?_
      refine lv_istore (lv' := [(4, .int ((aF N 12 7 3 i) + (N (12 + 7 * i + 3)))), (2, .int ((aF N 12 7 6 i) + (N (12 + 7 * i + 6)))), (1, .int 1), (7, .int (N (12 + 7 * i + 2))), (6, .int (N (12 + 7 * i + 6))), (0, .ref (gad Γ 475)), (3, .int 0), (5, .int (nI i))]) hx hb dL_numbers_155 hl (by decide) rfl (fun ls hl => ?_)
      refine lv_iinc (v := nI (i + 1)) (lv' := [(5, .int (nI (i + 1))), (4, .int ((aF N 12 7 3 i) + (N (12 + 7 * i + 3)))), (2, .int ((aF N 12 7 6 i) + (N (12 + 7 * i + 6)))), (1, .int 1), (7, .int (N (12 + 7 * i + 2))), (6, .int (N (12 + 7 * i + 6))), (0, .ref (gad Γ 475)), (3, .int 0)]) hx hb dL_numbers_157 hl (k := 7) rfl (nI_1 _) (by decide) rfl (fun ls hl => ?_)
      refine lv_goto (tgt := 12) hx hb dL_numbers_160 (by decide) ?_
      refine W.widen (k := 0 + 13 * (i + 1)) (n := 6 * (0 + 13 * (i + 1))) (by omega) (by omega) (next _ _ _ ⟨hG, hS, lv_sub hl [6, 3, 2, 7, 1, 0] rfl⟩)
    · --F
      refine lv_iload hx hb dL_numbers_77 (lv_at hl 1 rfl) ?_
      refine lv_iconst (v := 3) hx hb dL_numbers_79 (by decide) ?_
      refine lv_idiv hx hb dL_numbers_80 (by decide) ?_
      refine lv_goto (tgt := 85) hx hb dL_numbers_81 (by decide) ?_
      refine lv_icmp_ne (tgt := 137) hx hb dL_numbers_85 (by decide) (fun c_10 => absurd ((hG0.1 i hi).2.2.2 (Int32.not_le.mp c_4)) c_10) (fun c_10 => ?_)
      refine lv_aload_n hx hb dL_numbers_88 rfl (lv_at hl 2 rfl) ?_
      refine lv_iload hx hb dL_numbers_89 (lv_at hl 7 rfl) ?_
      refine lv_iconst (v := 3) hx hb dL_numbers_91 (by decide) ?_
      refine l_call (X := 5 + 13 * i) (K := 6 + 13 * i) (CC := 195) (As := [.ref (gad Γ 475), .int (nI i), .int 3]) (rest := [.int 1]) (st1 := [.int (N (12 + 7 * i + 3)), .int 1]) hF (r_segment (N := N) (Hy := Hy) (k := k) (w := w) hst hN hu (a := (nI i)) (d := 3) (i := i) (j := 3) rfl rfl hi (by decide)) (va_cwS 3 hts qL_segment rfl rfl rfl (by decide +kernel) ⟨Nat.le_of_ble_eq_true rfl, Nat.le_of_ble_eq_true rfl⟩) hK hZ hX hY hG hS rfl hl.1 (Nat.le_of_ble_eq_true rfl) dL_numbers_92 ⟨Nat.le_of_ble_eq_true rfl, Nat.le_of_ble_eq_true rfl⟩ (by omega) (by omega) rfl rfl (fun H locs hG hS => ?_)
      refine lv_if_lt (tgt := 137) hx hb dL_numbers_95 (by decide) (fun c_11 => absurd c_11 ((hN.ns (i := i) (by omega) 3 999 (by omega) rfl rfl).not_neg (by decide))) (fun c_11 => ?_)
      refine lv_aload_n hx hb dL_numbers_98 rfl (lv_at hl 2 rfl) ?_
      refine lv_iload hx hb dL_numbers_99 (lv_at hl 7 rfl) ?_
      refine lv_iconst (v := 3) hx hb dL_numbers_101 (by decide) ?_
      refine l_call (X := 6 + 13 * i) (K := 7 + 13 * i) (CC := 195) (As := [.ref (gad Γ 475), .int (nI i), .int 3]) (rest := [.int 1]) (st1 := [.int (N (12 + 7 * i + 3)), .int 1]) hF (r_segment (N := N) (Hy := Hy) (k := k) (w := w) hst hN hu (a := (nI i)) (d := 3) (i := i) (j := 3) rfl rfl hi (by decide)) (va_cwS 3 hts qL_segment rfl rfl rfl (by decide +kernel) ⟨Nat.le_of_ble_eq_true rfl, Nat.le_of_ble_eq_true rfl⟩) hK hZ hX hY hG hS rfl hl.1 (Nat.le_of_ble_eq_true rfl) dL_numbers_102 ⟨Nat.le_of_ble_eq_true rfl, Nat.le_of_ble_eq_true rfl⟩ (by omega) (by omega) rfl rfl (fun H locs hG hS => ?_)
      refine lv_sipush (v := 999) hx hb dL_numbers_105 (by decide) ?_
      refine lv_icmp_gt (tgt := 137) hx hb dL_numbers_108 (by decide) (fun c_12 => absurd c_12 ((hN.ns (i := i) (by omega) 3 999 (by omega) rfl rfl).ngt (by decide))) (fun c_12 => ?_)
      refine lv_aload_n hx hb dL_numbers_111 rfl (lv_at hl 2 rfl) ?_
      refine lv_iload hx hb dL_numbers_112 (lv_at hl 7 rfl) ?_
      refine lv_iconst (v := 4) hx hb dL_numbers_114 (by decide) ?_
      refine l_call (X := 7 + 13 * i) (K := 8 + 13 * i) (CC := 195) (As := [.ref (gad Γ 475), .int (nI i), .int 4]) (rest := [.int 1]) (st1 := [.int (N (12 + 7 * i + 4)), .int 1]) hF (r_segment (N := N) (Hy := Hy) (k := k) (w := w) hst hN hu (a := (nI i)) (d := 4) (i := i) (j := 4) rfl rfl hi (by decide)) (va_cwS 3 hts qL_segment rfl rfl rfl (by decide +kernel) ⟨Nat.le_of_ble_eq_true rfl, Nat.le_of_ble_eq_true rfl⟩) hK hZ hX hY hG hS rfl hl.1 (Nat.le_of_ble_eq_true rfl) dL_numbers_115 ⟨Nat.le_of_ble_eq_true rfl, Nat.le_of_ble_eq_true rfl⟩ (by omega) (by omega) rfl rfl (fun H locs hG hS => ?_)
      refine lv_if_lt (tgt := 137) hx hb dL_numbers_118 (by decide) (fun c_13 => absurd c_13 ((hN.ns (i := i) (by omega) 4 9 (by omega) rfl rfl).not_neg (by decide))) (fun c_13 => ?_)
      refine lv_aload_n hx hb dL_numbers_121 rfl (lv_at hl 2 rfl) ?_
      refine lv_iload hx hb dL_numbers_122 (lv_at hl 7 rfl) ?_
      refine lv_iconst (v := 4) hx hb dL_numbers_124 (by decide) ?_
      refine l_call (X := 8 + 13 * i) (K := 9 + 13 * i) (CC := 195) (As := [.ref (gad Γ 475), .int (nI i), .int 4]) (rest := [.int 1]) (st1 := [.int (N (12 + 7 * i + 4)), .int 1]) hF (r_segment (N := N) (Hy := Hy) (k := k) (w := w) hst hN hu (a := (nI i)) (d := 4) (i := i) (j := 4) rfl rfl hi (by decide)) (va_cwS 3 hts qL_segment rfl rfl rfl (by decide +kernel) ⟨Nat.le_of_ble_eq_true rfl, Nat.le_of_ble_eq_true rfl⟩) hK hZ hX hY hG hS rfl hl.1 (Nat.le_of_ble_eq_true rfl) dL_numbers_125 ⟨Nat.le_of_ble_eq_true rfl, Nat.le_of_ble_eq_true rfl⟩ (by omega) (by omega) rfl rfl (fun H locs hG hS => ?_)
      refine lv_bipush (v := 9) hx hb dL_numbers_128 (by decide) ?_
      refine lv_icmp_gt (tgt := 137) hx hb dL_numbers_130 (by decide) (fun c_14 => absurd c_14 ((hN.ns (i := i) (by omega) 4 9 (by omega) rfl rfl).ngt (by decide))) (fun c_14 => ?_)
      refine lv_iconst (v := 1) hx hb dL_numbers_133 (by decide) ?_
      refine lv_goto (tgt := 138) hx hb dL_numbers_134 (by decide) ?_
      refine lv_iand hx hb dL_numbers_138 ?_
      refine g_top (y := 1) (show (1 &&& 1 : Int32) = 1 from rfl) ?_
      refine lv_istore_n (lv' := [(1, .int 1), (7, .int (N (12 + 7 * i + 2))), (6, .int (N (12 + 7 * i + 6))), (0, .ref (gad Γ 475)), (2, .int (aF N 12 7 6 i)), (3, .int 0), (4, .int (aF N 12 7 3 i)), (5, .int (nI i))]) hx hb dL_numbers_139 rfl hl (by decide) rfl (fun ls hl => ?_)
      refine lv_iload_n hx hb dL_numbers_140 rfl (lv_at hl 4 rfl) ?_
      refine lv_iload hx hb dL_numbers_141 (lv_at hl 2 rfl) ?_
      refine lv_iadd hx hb dL_numbers_143 ?_
      refine lv_istore_n (lv' := [(2, .int ((aF N 12 7 6 i) + (N (12 + 7 * i + 6)))), (1, .int 1), (7, .int (N (12 + 7 * i + 2))), (6, .int (N (12 + 7 * i + 6))), (0, .ref (gad Γ 475)), (3, .int 0), (4, .int (aF N 12 7 3 i)), (5, .int (nI i))]) hx hb dL_numbers_144 rfl hl (by decide) rfl (fun ls hl => ?_)
      refine lv_iload hx hb dL_numbers_145 (lv_at hl 6 rfl) ?_
      refine lv_aload_n hx hb dL_numbers_147 rfl (lv_at hl 4 rfl) ?_
      refine lv_iload hx hb dL_numbers_148 (lv_at hl 7 rfl) ?_
      refine lv_iconst (v := 3) hx hb dL_numbers_150 (by decide) ?_
      refine l_call (X := 9 + 13 * i) (K := 10 + 13 * i) (CC := 195) (As := [.ref (gad Γ 475), .int (nI i), .int 3]) (rest := [.int (aF N 12 7 3 i)]) (st1 := [.int (N (12 + 7 * i + 3)), .int (aF N 12 7 3 i)]) hF (r_segment (N := N) (Hy := Hy) (k := k) (w := w) hst hN hu (a := (nI i)) (d := 3) (i := i) (j := 3) rfl rfl hi (by decide)) (va_cwS 3 hts qL_segment rfl rfl rfl (by decide +kernel) ⟨Nat.le_of_ble_eq_true rfl, Nat.le_of_ble_eq_true rfl⟩) hK hZ hX hY hG hS rfl hl.1 (Nat.le_of_ble_eq_true rfl) dL_numbers_151 ⟨Nat.le_of_ble_eq_true rfl, Nat.le_of_ble_eq_true rfl⟩ (by omega) (by omega) rfl rfl (fun H locs hG hS => ?_)
      refine lv_iadd hx hb dL_numbers_154 ?_
      refine lv_istore (lv' := [(4, .int ((aF N 12 7 3 i) + (N (12 + 7 * i + 3)))), (2, .int ((aF N 12 7 6 i) + (N (12 + 7 * i + 6)))), (1, .int 1), (7, .int (N (12 + 7 * i + 2))), (6, .int (N (12 + 7 * i + 6))), (0, .ref (gad Γ 475)), (3, .int 0), (5, .int (nI i))]) hx hb dL_numbers_155 hl (by decide) rfl (fun ls hl => ?_)
      refine lv_iinc (v := nI (i + 1)) (lv' := [(5, .int (nI (i + 1))), (4, .int ((aF N 12 7 3 i) + (N (12 + 7 * i + 3)))), (2, .int ((aF N 12 7 6 i) + (N (12 + 7 * i + 6)))), (1, .int 1), (7, .int (N (12 + 7 * i + 2))), (6, .int (N (12 + 7 * i + 6))), (0, .ref (gad Γ 475)), (3, .int 0)]) hx hb dL_numbers_157 hl (k := 7) rfl (nI_1 _) (by decide) rfl (fun ls hl => ?_)
      refine lv_goto (tgt := 12) hx hb dL_numbers_160 (by decide) ?_
      refine W.widen (k := 0 + 13 * (i + 1)) (n := 6 * (0 + 13 * (i + 1))) (by omega) (by omega) (next _ _ _ ⟨hG, hS, lv_sub hl [6, 3, 2, 7, 1, 0] rfl⟩)
  · --out
    obtain ⟨hG, hS, hl⟩ := hInv
    refine W.widen (k := 130) (n := 6 * (130)) (by omega) (by omega) ?_
    refine lv_iload hx hb dL_numbers_12 (lv_at hl 5 rfl) ?_
    refine lv_aload_n hx hb dL_numbers_14 rfl (lv_at hl 0 rfl) ?_
    refine lv_iconst (v := 0) hx hb dL_numbers_15 (by decide) ?_
    refine l_call (X := 130) (K := 131) (CC := 195) (As := [.ref (gad Γ 475), .int 0]) (rest := [.int (nI ((N 0).toNatClampNeg))]) (st1 := [.int (N 0), .int (nI ((N 0).toNatClampNeg))]) hF (r_about (N := N) (Hy := Hy) (k := k) (w := w) hst hN hu (a := 0) (j := 0) rfl (by decide)) (va_cwS 2 hts qL_about rfl rfl rfl (by decide +kernel) ⟨Nat.le_of_ble_eq_true rfl, Nat.le_of_ble_eq_true rfl⟩) hK hZ hX hY hG hS rfl hl.1 (Nat.le_of_ble_eq_true rfl) dL_numbers_16 ⟨Nat.le_of_ble_eq_true rfl, Nat.le_of_ble_eq_true rfl⟩ (by omega) (by omega) rfl rfl (fun H locs hG hS => ?_)
    refine lv_icmp_ge (tgt := 163) hx hb dL_numbers_19 (by decide) (fun c_15 => ?_) (fun c_15 => absurd (ge_cnt hN.s10 (by decide)) c_15)
    refine lv_iconst (v := 0) hx hb dL_numbers_163 (by decide) ?_
    refine lv_istore (lv' := [(5, .int 0), (0, .ref (gad Γ 475)), (1, .int 1), (2, .int (aF N 12 7 6 ((N 0).toNatClampNeg))), (3, .int 0), (4, .int (aF N 12 7 3 ((N 0).toNatClampNeg)))]) hx hb dL_numbers_164 hl (by decide) rfl (fun ls hl => ?_)
    refine loopN ((N 1).toNatClampNeg) (131) 5 (fun j H locs ls => (SH Γ N Hy k w) H ∧ va_S (gA Γ) s.heap H locs ∧ lv_has ls 8 [(0, .ref (gad Γ 475)), (1, .int 1), (2, .int (aF N 12 7 6 ((N 0).toNatClampNeg))), (3, .int (aF N 82 5 3 j)), (4, .int (aF N 12 7 3 ((N 0).toNatClampNeg))), (5, .int (nI j))]) 166 (fun j hj H locs ls hInv next => ?_) (fun H locs ls hInv => ?_) ((N 1).toNatClampNeg) 0 (Nat.zero_add _) _ _ _ ⟨hG, hS, lv_sub hl [1, 2, 3, 4, 5, 0] rfl⟩
    · --turn
      obtain ⟨hG, hS, hl⟩ := hInv
      refine lv_iload hx hb dL_numbers_166 (lv_at hl 5 rfl) ?_
      refine lv_aload_n hx hb dL_numbers_168 rfl (lv_at hl 0 rfl) ?_
      refine lv_iconst (v := 1) hx hb dL_numbers_169 (by decide) ?_
      refine l_call (X := 131 + 5 * j) (K := 132 + 5 * j) (CC := 195) (As := [.ref (gad Γ 475), .int 1]) (rest := [.int (nI j)]) (st1 := [.int (N 1), .int (nI j)]) hF (r_about (N := N) (Hy := Hy) (k := k) (w := w) hst hN hu (a := 1) (j := 1) rfl (by decide)) (va_cwS 2 hts qL_about rfl rfl rfl (by decide +kernel) ⟨Nat.le_of_ble_eq_true rfl, Nat.le_of_ble_eq_true rfl⟩) hK hZ hX hY hG hS rfl hl.1 (Nat.le_of_ble_eq_true rfl) dL_numbers_170 ⟨Nat.le_of_ble_eq_true rfl, Nat.le_of_ble_eq_true rfl⟩ (by omega) (by omega) rfl rfl (fun H locs hG hS => ?_)
      refine lv_icmp_ge (tgt := 227) hx hb dL_numbers_173 (by decide) (fun c_16 => absurd c_16 (lt_cnt hN.h8 (by decide) hj)) (fun c_16 => ?_)
      refine lv_iload_n hx hb dL_numbers_176 rfl (lv_at hl 3 rfl) ?_
      refine lv_aload_n hx hb dL_numbers_177 rfl (lv_at hl 0 rfl) ?_
      refine lv_iload hx hb dL_numbers_178 (lv_at hl 5 rfl) ?_
      refine lv_iconst (v := 3) hx hb dL_numbers_180 (by decide) ?_
      refine l_call (X := 132 + 5 * j) (K := 133 + 5 * j) (CC := 195) (As := [.ref (gad Γ 475), .int (nI j), .int 3]) (rest := [.int (aF N 82 5 3 j)]) (st1 := [.int (N (82 + 5 * j + 3)), .int (aF N 82 5 3 j)]) hF (r_house (N := N) (Hy := Hy) (k := k) (w := w) hst hN hu (a := (nI j)) (d := 3) (i := j) (j := 3) rfl rfl hj (by decide)) (va_cwS 3 hts qL_house rfl rfl rfl (by decide +kernel) ⟨Nat.le_of_ble_eq_true rfl, Nat.le_of_ble_eq_true rfl⟩) hK hZ hX hY hG hS rfl hl.1 (Nat.le_of_ble_eq_true rfl) dL_numbers_181 ⟨Nat.le_of_ble_eq_true rfl, Nat.le_of_ble_eq_true rfl⟩ (by omega) (by omega) rfl rfl (fun H locs hG hS => ?_)
      refine lv_iadd hx hb dL_numbers_184 ?_
      refine lv_istore_n (lv' := [(3, .int ((aF N 82 5 3 j) + (N (82 + 5 * j + 3)))), (0, .ref (gad Γ 475)), (1, .int 1), (2, .int (aF N 12 7 6 ((N 0).toNatClampNeg))), (4, .int (aF N 12 7 3 ((N 0).toNatClampNeg))), (5, .int (nI j))]) hx hb dL_numbers_185 rfl hl (by decide) rfl (fun ls hl => ?_)
      refine lv_iload_n hx hb dL_numbers_186 rfl (lv_at hl 2 rfl) ?_
      refine lv_aload_n hx hb dL_numbers_187 rfl (lv_at hl 1 rfl) ?_
      refine lv_iload hx hb dL_numbers_188 (lv_at hl 5 rfl) ?_
      refine lv_iconst (v := 2) hx hb dL_numbers_190 (by decide) ?_
      refine l_call (X := 133 + 5 * j) (K := 134 + 5 * j) (CC := 195) (As := [.ref (gad Γ 475), .int (nI j), .int 2]) (rest := [.int 1]) (st1 := [.int (N (82 + 5 * j + 2)), .int 1]) hF (r_house (N := N) (Hy := Hy) (k := k) (w := w) hst hN hu (a := (nI j)) (d := 2) (i := j) (j := 2) rfl rfl hj (by decide)) (va_cwS 3 hts qL_house rfl rfl rfl (by decide +kernel) ⟨Nat.le_of_ble_eq_true rfl, Nat.le_of_ble_eq_true rfl⟩) hK hZ hX hY hG hS rfl hl.1 (Nat.le_of_ble_eq_true rfl) dL_numbers_191 ⟨Nat.le_of_ble_eq_true rfl, Nat.le_of_ble_eq_true rfl⟩ (by omega) (by omega) rfl rfl (fun H locs hG hS => ?_)
      refine lv_aload_n hx hb dL_numbers_194 rfl (lv_at hl 1 rfl) ?_
      refine lv_iload hx hb dL_numbers_195 (lv_at hl 5 rfl) ?_
      refine lv_iconst (v := 4) hx hb dL_numbers_197 (by decide) ?_
      refine l_call (X := 134 + 5 * j) (K := 135 + 5 * j) (CC := 195) (As := [.ref (gad Γ 475), .int (nI j), .int 4]) (rest := [.int (N (82 + 5 * j + 2)), .int 1]) (st1 := [.int (N (82 + 5 * j + 4)), .int (N (82 + 5 * j + 2)), .int 1]) hF (r_house (N := N) (Hy := Hy) (k := k) (w := w) hst hN hu (a := (nI j)) (d := 4) (i := j) (j := 4) rfl rfl hj (by decide)) (va_cwS 3 hts qL_house rfl rfl rfl (by decide +kernel) ⟨Nat.le_of_ble_eq_true rfl, Nat.le_of_ble_eq_true rfl⟩) hK hZ hX hY hG hS rfl hl.1 (Nat.le_of_ble_eq_true rfl) dL_numbers_198 ⟨Nat.le_of_ble_eq_true rfl, Nat.le_of_ble_eq_true rfl⟩ (by omega) (by omega) rfl rfl (fun H locs hG hS => ?_)
      refine lv_icmp_lt (tgt := 218) hx hb dL_numbers_201 (by decide) (fun c_17 => absurd c_17 (hG0.2.1 j hj)) (fun c_17 => ?_)
      refine lv_aload_n hx hb dL_numbers_204 rfl (lv_at hl 1 rfl) ?_
      refine lv_iload hx hb dL_numbers_205 (lv_at hl 5 rfl) ?_
      refine lv_iconst (v := 4) hx hb dL_numbers_207 (by decide) ?_
      refine l_call (X := 135 + 5 * j) (K := 136 + 5 * j) (CC := 195) (As := [.ref (gad Γ 475), .int (nI j), .int 4]) (rest := [.int 1]) (st1 := [.int (N (82 + 5 * j + 4)), .int 1]) hF (r_house (N := N) (Hy := Hy) (k := k) (w := w) hst hN hu (a := (nI j)) (d := 4) (i := j) (j := 4) rfl rfl hj (by decide)) (va_cwS 3 hts qL_house rfl rfl rfl (by decide +kernel) ⟨Nat.le_of_ble_eq_true rfl, Nat.le_of_ble_eq_true rfl⟩) hK hZ hX hY hG hS rfl hl.1 (Nat.le_of_ble_eq_true rfl) dL_numbers_208 ⟨Nat.le_of_ble_eq_true rfl, Nat.le_of_ble_eq_true rfl⟩ (by omega) (by omega) rfl rfl (fun H locs hG hS => ?_)
      refine lv_if_lt (tgt := 218) hx hb dL_numbers_211 (by decide) (fun c_18 => absurd c_18 ((hN.nh (i := j) (by omega) 4 1998 (by omega) rfl rfl).not_neg (by decide))) (fun c_18 => ?_)
      refine lv_iconst (v := 1) hx hb dL_numbers_214 (by decide) ?_
      refine lv_goto (tgt := 219) hx hb dL_numbers_215 (by decide) ?_
      refine lv_iand hx hb dL_numbers_219 ?_
      refine g_top (y := 1) (show (1 &&& 1 : Int32) = 1 from rfl) ?_
      refine lv_istore_n (lv' := [(1, .int 1), (3, .int ((aF N 82 5 3 j) + (N (82 + 5 * j + 3)))), (0, .ref (gad Γ 475)), (2, .int (aF N 12 7 6 ((N 0).toNatClampNeg))), (4, .int (aF N 12 7 3 ((N 0).toNatClampNeg))), (5, .int (nI j))]) hx hb dL_numbers_220 rfl hl (by decide) rfl (fun ls hl => ?_)
      refine lv_iinc (v := nI (j + 1)) (lv' := [(5, .int (nI (j + 1))), (1, .int 1), (3, .int ((aF N 82 5 3 j) + (N (82 + 5 * j + 3)))), (0, .ref (gad Γ 475)), (2, .int (aF N 12 7 6 ((N 0).toNatClampNeg))), (4, .int (aF N 12 7 3 ((N 0).toNatClampNeg)))]) hx hb dL_numbers_221 hl (k := 5) rfl (nI_1 _) (by decide) rfl (fun ls hl => ?_)
      refine lv_goto (tgt := 166) hx hb dL_numbers_224 (by decide) ?_
      refine W.widen (k := 131 + 5 * (j + 1)) (n := 6 * (131 + 5 * (j + 1))) (by omega) (by omega) (next _ _ _ ⟨hG, hS, lv_sub hl [3, 1, 4, 2, 5, 0] rfl⟩)
    · --out
      obtain ⟨hG, hS, hl⟩ := hInv
      refine W.widen (k := 171) (n := 6 * (171)) (by omega) (by omega) ?_
      refine lv_iload hx hb dL_numbers_166 (lv_at hl 5 rfl) ?_
      refine lv_aload_n hx hb dL_numbers_168 rfl (lv_at hl 0 rfl) ?_
      refine lv_iconst (v := 1) hx hb dL_numbers_169 (by decide) ?_
      refine l_call (X := 171) (K := 172) (CC := 195) (As := [.ref (gad Γ 475), .int 1]) (rest := [.int (nI ((N 1).toNatClampNeg))]) (st1 := [.int (N 1), .int (nI ((N 1).toNatClampNeg))]) hF (r_about (N := N) (Hy := Hy) (k := k) (w := w) hst hN hu (a := 1) (j := 1) rfl (by decide)) (va_cwS 2 hts qL_about rfl rfl rfl (by decide +kernel) ⟨Nat.le_of_ble_eq_true rfl, Nat.le_of_ble_eq_true rfl⟩) hK hZ hX hY hG hS rfl hl.1 (Nat.le_of_ble_eq_true rfl) dL_numbers_170 ⟨Nat.le_of_ble_eq_true rfl, Nat.le_of_ble_eq_true rfl⟩ (by omega) (by omega) rfl rfl (fun H locs hG hS => ?_)
      refine lv_icmp_ge (tgt := 227) hx hb dL_numbers_173 (by decide) (fun c_19 => ?_) (fun c_19 => absurd (ge_cnt hN.h8 (by decide)) c_19)
      refine lv_iconst (v := 0) hx hb dL_numbers_227 (by decide) ?_
      refine lv_istore (lv' := [(5, .int 0), (0, .ref (gad Γ 475)), (1, .int 1), (2, .int (aF N 12 7 6 ((N 0).toNatClampNeg))), (3, .int (aF N 82 5 3 ((N 1).toNatClampNeg))), (4, .int (aF N 12 7 3 ((N 0).toNatClampNeg)))]) hx hb dL_numbers_228 hl (by decide) rfl (fun ls hl => ?_)
      refine loopN ((N 2).toNatClampNeg) (172) 5 (fun t H locs ls => (SH Γ N Hy k w) H ∧ va_S (gA Γ) s.heap H locs ∧ lv_has ls 8 [(0, .ref (gad Γ 475)), (1, .int 1), (2, .int (aF N 12 7 6 ((N 0).toNatClampNeg))), (3, .int (aF N 82 5 3 ((N 1).toNatClampNeg))), (4, .int (aF N 12 7 3 ((N 0).toNatClampNeg))), (5, .int (nI t))]) 230 (fun t ht H locs ls hInv next => ?_) (fun H locs ls hInv => ?_) ((N 2).toNatClampNeg) 0 (Nat.zero_add _) _ _ _ ⟨hG, hS, lv_sub hl [1, 2, 3, 4, 5, 0] rfl⟩
      · --turn
        obtain ⟨hG, hS, hl⟩ := hInv
        refine lv_iload hx hb dL_numbers_230 (lv_at hl 5 rfl) ?_
        refine lv_aload_n hx hb dL_numbers_232 rfl (lv_at hl 0 rfl) ?_
        refine lv_iconst (v := 2) hx hb dL_numbers_233 (by decide) ?_
        refine l_call (X := 172 + 5 * t) (K := 173 + 5 * t) (CC := 195) (As := [.ref (gad Γ 475), .int 2]) (rest := [.int (nI t)]) (st1 := [.int (N 2), .int (nI t)]) hF (r_about (N := N) (Hy := Hy) (k := k) (w := w) hst hN hu (a := 2) (j := 2) rfl (by decide)) (va_cwS 2 hts qL_about rfl rfl rfl (by decide +kernel) ⟨Nat.le_of_ble_eq_true rfl, Nat.le_of_ble_eq_true rfl⟩) hK hZ hX hY hG hS rfl hl.1 (Nat.le_of_ble_eq_true rfl) dL_numbers_234 ⟨Nat.le_of_ble_eq_true rfl, Nat.le_of_ble_eq_true rfl⟩ (by omega) (by omega) rfl rfl (fun H locs hG hS => ?_)
        refine lv_icmp_ge (tgt := 297) hx hb dL_numbers_237 (by decide) (fun c_20 => absurd c_20 (lt_cnt hN.w3 (by decide) ht)) (fun c_20 => ?_)
        refine lv_iload_n hx hb dL_numbers_240 rfl (lv_at hl 1 rfl) ?_
        refine lv_aload_n hx hb dL_numbers_241 rfl (lv_at hl 0 rfl) ?_
        refine lv_iload hx hb dL_numbers_242 (lv_at hl 5 rfl) ?_
        refine lv_iconst (v := 1) hx hb dL_numbers_244 (by decide) ?_
        refine l_call (X := 173 + 5 * t) (K := 174 + 5 * t) (CC := 195) (As := [.ref (gad Γ 475), .int (nI t), .int 1]) (rest := [.int 1]) (st1 := [.int (N (122 + 3 * t + 1)), .int 1]) hF (r_wagon (N := N) (Hy := Hy) (k := k) (w := w) hst hN hu (a := (nI t)) (d := 1) (i := t) (j := 1) rfl rfl ht (by decide)) (va_cwS 3 hts qL_wagon rfl rfl rfl (by decide +kernel) ⟨Nat.le_of_ble_eq_true rfl, Nat.le_of_ble_eq_true rfl⟩) hK hZ hX hY hG hS rfl hl.1 (Nat.le_of_ble_eq_true rfl) dL_numbers_245 ⟨Nat.le_of_ble_eq_true rfl, Nat.le_of_ble_eq_true rfl⟩ (by omega) (by omega) rfl rfl (fun H locs hG hS => ?_)
        refine lv_if_lt (tgt := 288) hx hb dL_numbers_248 (by decide) (fun c_21 => absurd c_21 ((hN.nw (i := t) (by omega) 1 20 (by omega) rfl rfl).not_neg (by decide))) (fun c_21 => ?_)
        refine lv_aload_n hx hb dL_numbers_251 rfl (lv_at hl 0 rfl) ?_
        refine lv_iload hx hb dL_numbers_252 (lv_at hl 5 rfl) ?_
        refine lv_iconst (v := 1) hx hb dL_numbers_254 (by decide) ?_
        refine l_call (X := 174 + 5 * t) (K := 175 + 5 * t) (CC := 195) (As := [.ref (gad Γ 475), .int (nI t), .int 1]) (rest := [.int 1]) (st1 := [.int (N (122 + 3 * t + 1)), .int 1]) hF (r_wagon (N := N) (Hy := Hy) (k := k) (w := w) hst hN hu (a := (nI t)) (d := 1) (i := t) (j := 1) rfl rfl ht (by decide)) (va_cwS 3 hts qL_wagon rfl rfl rfl (by decide +kernel) ⟨Nat.le_of_ble_eq_true rfl, Nat.le_of_ble_eq_true rfl⟩) hK hZ hX hY hG hS rfl hl.1 (Nat.le_of_ble_eq_true rfl) dL_numbers_255 ⟨Nat.le_of_ble_eq_true rfl, Nat.le_of_ble_eq_true rfl⟩ (by omega) (by omega) rfl rfl (fun H locs hG hS => ?_)
        refine lv_bipush (v := 20) hx hb dL_numbers_258 (by decide) ?_
        refine lv_icmp_gt (tgt := 288) hx hb dL_numbers_260 (by decide) (fun c_22 => absurd c_22 ((hN.nw (i := t) (by omega) 1 20 (by omega) rfl rfl).ngt (by decide))) (fun c_22 => ?_)
        refine lv_aload_n hx hb dL_numbers_263 rfl (lv_at hl 0 rfl) ?_
        refine lv_iload hx hb dL_numbers_264 (lv_at hl 5 rfl) ?_
        refine lv_iconst (v := 2) hx hb dL_numbers_266 (by decide) ?_
        refine l_call (X := 175 + 5 * t) (K := 176 + 5 * t) (CC := 195) (As := [.ref (gad Γ 475), .int (nI t), .int 2]) (rest := [.int 1]) (st1 := [.int (N (122 + 3 * t + 2)), .int 1]) hF (r_wagon (N := N) (Hy := Hy) (k := k) (w := w) hst hN hu (a := (nI t)) (d := 2) (i := t) (j := 2) rfl rfl ht (by decide)) (va_cwS 3 hts qL_wagon rfl rfl rfl (by decide +kernel) ⟨Nat.le_of_ble_eq_true rfl, Nat.le_of_ble_eq_true rfl⟩) hK hZ hX hY hG hS rfl hl.1 (Nat.le_of_ble_eq_true rfl) dL_numbers_267 ⟨Nat.le_of_ble_eq_true rfl, Nat.le_of_ble_eq_true rfl⟩ (by omega) (by omega) rfl rfl (fun H locs hG hS => ?_)
        refine lv_if_lt (tgt := 288) hx hb dL_numbers_270 (by decide) (fun c_23 => absurd c_23 ((hN.nw (i := t) (by omega) 2 4 (by omega) rfl rfl).not_neg (by decide))) (fun c_23 => ?_)
        refine lv_aload_n hx hb dL_numbers_273 rfl (lv_at hl 0 rfl) ?_
        refine lv_iload hx hb dL_numbers_274 (lv_at hl 5 rfl) ?_
        refine lv_iconst (v := 2) hx hb dL_numbers_276 (by decide) ?_
        refine l_call (X := 176 + 5 * t) (K := 177 + 5 * t) (CC := 195) (As := [.ref (gad Γ 475), .int (nI t), .int 2]) (rest := [.int 1]) (st1 := [.int (N (122 + 3 * t + 2)), .int 1]) hF (r_wagon (N := N) (Hy := Hy) (k := k) (w := w) hst hN hu (a := (nI t)) (d := 2) (i := t) (j := 2) rfl rfl ht (by decide)) (va_cwS 3 hts qL_wagon rfl rfl rfl (by decide +kernel) ⟨Nat.le_of_ble_eq_true rfl, Nat.le_of_ble_eq_true rfl⟩) hK hZ hX hY hG hS rfl hl.1 (Nat.le_of_ble_eq_true rfl) dL_numbers_277 ⟨Nat.le_of_ble_eq_true rfl, Nat.le_of_ble_eq_true rfl⟩ (by omega) (by omega) rfl rfl (fun H locs hG hS => ?_)
        refine lv_iconst (v := 4) hx hb dL_numbers_280 (by decide) ?_
        refine lv_icmp_gt (tgt := 288) hx hb dL_numbers_281 (by decide) (fun c_24 => absurd c_24 ((hN.nw (i := t) (by omega) 2 4 (by omega) rfl rfl).ngt (by decide))) (fun c_24 => ?_)
        refine lv_iconst (v := 1) hx hb dL_numbers_284 (by decide) ?_
        refine lv_goto (tgt := 289) hx hb dL_numbers_285 (by decide) ?_
        refine lv_iand hx hb dL_numbers_289 ?_
        refine g_top (y := 1) (show (1 &&& 1 : Int32) = 1 from rfl) ?_
        refine lv_istore_n (lv' := [(1, .int 1), (0, .ref (gad Γ 475)), (2, .int (aF N 12 7 6 ((N 0).toNatClampNeg))), (3, .int (aF N 82 5 3 ((N 1).toNatClampNeg))), (4, .int (aF N 12 7 3 ((N 0).toNatClampNeg))), (5, .int (nI t))]) hx hb dL_numbers_290 rfl hl (by decide) rfl (fun ls hl => ?_)
        refine lv_iinc (v := nI (t + 1)) (lv' := [(5, .int (nI (t + 1))), (1, .int 1), (0, .ref (gad Γ 475)), (2, .int (aF N 12 7 6 ((N 0).toNatClampNeg))), (3, .int (aF N 82 5 3 ((N 1).toNatClampNeg))), (4, .int (aF N 12 7 3 ((N 0).toNatClampNeg)))]) hx hb dL_numbers_291 hl (k := 5) rfl (nI_1 _) (by decide) rfl (fun ls hl => ?_)
        refine lv_goto (tgt := 230) hx hb dL_numbers_294 (by decide) ?_
        refine W.widen (k := 172 + 5 * (t + 1)) (n := 6 * (172 + 5 * (t + 1))) (by omega) (by omega) (next _ _ _ ⟨hG, hS, lv_sub hl [2, 1, 3, 4, 5, 0] rfl⟩)
      · --out
        obtain ⟨hG, hS, hl⟩ := hInv
        refine W.widen (k := 187) (n := 6 * (187)) (by omega) (by omega) ?_
        refine lv_iload hx hb dL_numbers_230 (lv_at hl 5 rfl) ?_
        refine lv_aload_n hx hb dL_numbers_232 rfl (lv_at hl 0 rfl) ?_
        refine lv_iconst (v := 2) hx hb dL_numbers_233 (by decide) ?_
        refine l_call (X := 187) (K := 188) (CC := 195) (As := [.ref (gad Γ 475), .int 2]) (rest := [.int (nI ((N 2).toNatClampNeg))]) (st1 := [.int (N 2), .int (nI ((N 2).toNatClampNeg))]) hF (r_about (N := N) (Hy := Hy) (k := k) (w := w) hst hN hu (a := 2) (j := 2) rfl (by decide)) (va_cwS 2 hts qL_about rfl rfl rfl (by decide +kernel) ⟨Nat.le_of_ble_eq_true rfl, Nat.le_of_ble_eq_true rfl⟩) hK hZ hX hY hG hS rfl hl.1 (Nat.le_of_ble_eq_true rfl) dL_numbers_234 ⟨Nat.le_of_ble_eq_true rfl, Nat.le_of_ble_eq_true rfl⟩ (by omega) (by omega) rfl rfl (fun H locs hG hS => ?_)
        refine lv_icmp_ge (tgt := 297) hx hb dL_numbers_237 (by decide) (fun c_25 => ?_) (fun c_25 => absurd (ge_cnt hN.w3 (by decide)) c_25)
        refine lv_iload_n hx hb dL_numbers_297 rfl (lv_at hl 1 rfl) ?_
        refine lv_if_eq (tgt := 341) hx hb dL_numbers_298 (by decide) (fun c_26 => absurd c_26 (by decide)) (fun c_26 => ?_)
        refine lv_iload_n hx hb dL_numbers_301 rfl (lv_at hl 2 rfl) ?_
        refine lv_aload_n hx hb dL_numbers_302 rfl (lv_at hl 0 rfl) ?_
        refine lv_bipush (v := 10) hx hb dL_numbers_303 (by decide) ?_
        refine l_call (X := 188) (K := 189) (CC := 195) (As := [.ref (gad Γ 475), .int 10]) (rest := [.int (aF N 12 7 6 ((N 0).toNatClampNeg))]) (st1 := [.int (N 10), .int (aF N 12 7 6 ((N 0).toNatClampNeg))]) hF (r_about (N := N) (Hy := Hy) (k := k) (w := w) hst hN hu (a := 10) (j := 10) rfl (by decide)) (va_cwS 2 hts qL_about rfl rfl rfl (by decide +kernel) ⟨Nat.le_of_ble_eq_true rfl, Nat.le_of_ble_eq_true rfl⟩) hK hZ hX hY hG hS rfl hl.1 (Nat.le_of_ble_eq_true rfl) dL_numbers_305 ⟨Nat.le_of_ble_eq_true rfl, Nat.le_of_ble_eq_true rfl⟩ (by omega) (by omega) rfl rfl (fun H locs hG hS => ?_)
        refine lv_icmp_ne (tgt := 341) hx hb dL_numbers_308 (by decide) (fun c_27 => absurd hG0.2.2.1 c_27) (fun c_27 => ?_)
        refine lv_iload_n hx hb dL_numbers_311 rfl (lv_at hl 3 rfl) ?_
        refine lv_iload_n hx hb dL_numbers_312 rfl (lv_at hl 2 rfl) ?_
        refine lv_icmp_ne (tgt := 341) hx hb dL_numbers_313 (by decide) (fun c_28 => absurd (hG0.2.2.2.trans hG0.2.2.1.symm) c_28) (fun c_28 => ?_)
        refine lv_iload hx hb dL_numbers_316 (lv_at hl 4 rfl) ?_
        refine lv_aload_n hx hb dL_numbers_318 rfl (lv_at hl 0 rfl) ?_
        refine lv_bipush (v := 12) hx hb dL_numbers_319 (by decide) ?_
        refine l_call (X := 189) (K := 190) (CC := 195) (As := [.ref (gad Γ 475), .int 12]) (rest := [.int (aF N 12 7 3 ((N 0).toNatClampNeg))]) (st1 := [.int (dAll N), .int (aF N 12 7 3 ((N 0).toNatClampNeg))]) hF (r_about12 (N := N) (Hy := Hy) (k := k) (w := w) hst hN hu) (va_cwS 2 hts qL_about rfl rfl rfl (by decide +kernel) ⟨Nat.le_of_ble_eq_true rfl, Nat.le_of_ble_eq_true rfl⟩) hK hZ hX hY hG hS rfl hl.1 (Nat.le_of_ble_eq_true rfl) dL_numbers_321 ⟨Nat.le_of_ble_eq_true rfl, Nat.le_of_ble_eq_true rfl⟩ (by omega) (by omega) rfl rfl (fun H locs hG hS => ?_)
        refine lv_icmp_ne (tgt := 341) hx hb dL_numbers_324 (by decide) (fun c_29 => absurd ((dAll_eq hN _ (Nat.le_refl _)).symm) c_29) (fun c_29 => ?_)
        refine lv_aload_n hx hb dL_numbers_327 rfl (lv_at hl 0 rfl) ?_
        refine lv_iconst (v := 4) hx hb dL_numbers_328 (by decide) ?_
        refine l_call (X := 190) (K := 191) (CC := 195) (As := [.ref (gad Γ 475), .int 4]) (rest := []) (st1 := [.int (N 4)]) hF (r_about (N := N) (Hy := Hy) (k := k) (w := w) hst hN hu (a := 4) (j := 4) rfl (by decide)) (va_cwS 2 hts qL_about rfl rfl rfl (by decide +kernel) ⟨Nat.le_of_ble_eq_true rfl, Nat.le_of_ble_eq_true rfl⟩) hK hZ hX hY hG hS rfl hl.1 (Nat.le_of_ble_eq_true rfl) dL_numbers_329 ⟨Nat.le_of_ble_eq_true rfl, Nat.le_of_ble_eq_true rfl⟩ (by omega) (by omega) rfl rfl (fun H locs hG hS => ?_)
        refine lv_bipush (v := 10) hx hb dL_numbers_332 (by decide) ?_
        refine lv_icmp_ge (tgt := 341) hx hb dL_numbers_334 (by decide) (fun c_30 => ?_) (fun c_30 => ?_)
        · --T
          obtain ⟨z, hz, ez, -⟩ := (hN.n0 4 9 (by omega) rfl).ex
          rw [ez] at c_30
          exact absurd c_30 (Int32.not_le.mpr (nI_lt (a := z) (b := 10) (by omega) (by decide)))
        · --F
          refine lv_iconst (v := 1) hx hb dL_numbers_337 (by decide) ?_
          refine lv_goto (tgt := 342) hx hb dL_numbers_338 (by decide) ?_
          exact l_zret hx hb hrt hlocks hS hG (by decide) rfl (by omega) dL_numbers_342

