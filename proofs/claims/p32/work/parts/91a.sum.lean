/-! THE LAW: sum, latest. Laid by gen/r91.py. -/
def acS (f : Nat → Int32) (x : Int64) : Nat → Int64
  | 0 => x
  | n + 1 => 131 * acS f x n + (f n).toInt64
def acS2 (f : Nat → Nat → Int32) (m : Nat) (x : Int64) : Nat → Int64
  | 0 => x
  | n + 1 => acS (f n) (acS2 f m x n) m
def fAb (N : Nat → Int32) (j : Nat) : Int32 := if j = 12 then dAll N else N j
def s1 (N : Nat → Int32) : Int64 := acS (fAb N) 0 13
def s2 (N : Nat → Int32) : Int64 := acS2 (fun i j => N (12 + 7 * i + j)) 7 (s1 N) (N 0).toNatClampNeg
def s3 (N : Nat → Int32) : Int64 := acS2 (fun i j => N (82 + 5 * i + j)) 5 (s2 N) (N 1).toNatClampNeg
/-- the sum of all that can be read -/
def sumF (N : Nat → Int32) : Int64 := acS2 (fun i j => N (122 + 3 * i + j)) 3 (s3 N) (N 2).toNatClampNeg
/-- what all houses got -/
def laF (N : Nat → Int32) : Nat → Int32
  | 0 => 0
  | n + 1 => laF N n + N (82 + 5 * n + 4)
theorem r_aboutF {l : Launch} {Γ : gX} (hst : l.stackTraces = false) {u : Nat} {N : Nat → Int32} {Hy : Nat → Nat → Int32} {k : Nat} {w : WO} (hN : PI u N) (hu : 1998 * (u + 5000) < 2 ^ 31) {j : Nat} (hj : j < 13) : lM l Γ yL_about wqL_about 11 230 1 [.ref (gad Γ 475), .int (nI j)] (SH Γ N Hy k w) (some (.int (fAb N j))) (SH Γ N Hy k w) := by
  unfold fAb
  by_cases q : j = 12
  · subst q
    rw [if_pos rfl]
    exact r_about12 hst hN hu
  · rw [if_neg q]
    exact r_about hst hN hu rfl (by omega)
set_option maxHeartbeats 4000000 in
set_option maxRecDepth 100000 in
theorem L_sum {l : Launch} {Γ : gX} (hst : l.stackTraces = false) {u : Nat} {N : Nat → Int32} {Hy : Nat → Nat → Int32} {k : Nat} {w : WO} (hN : PI u N) (hu : 1998 * (u + 5000) < 2 ^ 31) : lM l Γ yL_sum wqL_sum 12 262 176 [.ref (gad Γ 475)] (SH Γ N Hy k w) (some (.long (sumF N))) (SH Γ N Hy k w) := by
  refine l_start (cc := cL_sum) (maxL := 5) (ret := (some .long)) (by decide) rfl (Nat.le_of_ble_eq_true rfl) ?_
  intro p e s m below meth c ls hx hb hml hrt hts hown hlocks hK hZ hX hY hG hS hl
  have hl : lv_has ls 5 [(0, .ref (gad Γ 475))] := hl
  have hown : s.vm.findClass RL = some m.cls := hown
  have hF : CallFix p m c cL_sum 5 s _ wqL_sum RL := ⟨hx, hb, hml, hown, hts⟩
  have k_1 : (Cond.constantLong RL 184 (131)).before _ s = true := hts _ (by decide +kernel)
  have b0 := hN.s10.2
  have b1 := hN.h8.2
  have b2 := hN.w3.2
  refine lv_lconst (v := 0) hx hb dL_sum_0 (by decide) ?_
  refine lv_lstore_n (lv' := [(1, .long 0), (0, .ref (gad Γ 475))]) hx hb dL_sum_1 rfl hl (by decide) rfl (fun ls hl => ?_)
  refine lv_iconst (v := 0) hx hb dL_sum_2 (by decide) ?_
  refine lv_istore_n (lv' := [(3, .int 0), (1, .long 0), (0, .ref (gad Γ 475))]) hx hb dL_sum_3 rfl hl (by decide) rfl (fun ls hl => ?_)
  refine loopN (13) (0) 1 (fun i H locs ls => (SH Γ N Hy k w) H ∧ va_S (gA Γ) s.heap H locs ∧ lv_has ls 5 [(0, .ref (gad Γ 475)), (1, .long (acS (fAb N) 0 i)), (3, .int (nI i))]) 4 (fun i hi H locs ls hInv next => ?_) (fun H locs ls hInv => ?_) (13) 0 (Nat.zero_add _) _ _ _ ⟨hG, hS, lv_sub hl [2, 1, 0] rfl⟩
  · --turn
    obtain ⟨hG, hS, hl⟩ := hInv
    refine lv_iload_n hx hb dL_sum_4 rfl (lv_at hl 2 rfl) ?_
    refine lv_bipush (v := 13) hx hb dL_sum_5 (by decide) ?_
    refine lv_icmp_ge (tgt := 29) hx hb dL_sum_7 (by decide) (fun c_1 => absurd c_1 (nI_ge hi (by decide))) (fun c_1 => ?_)
    refine lv_ldc2 hx hb hown k_1 dL_sum_10 ?_
    refine lv_lload_n hx hb dL_sum_13 rfl (lv_at hl 1 rfl) ?_
    refine lv_lmul hx hb dL_sum_14 ?_
    refine lv_aload_n hx hb dL_sum_15 rfl (lv_at hl 0 rfl) ?_
    refine lv_iload_n hx hb dL_sum_16 rfl (lv_at hl 2 rfl) ?_
    refine l_call (X := 0 + 1 * i) (K := 1 + 1 * i) (CC := 176) (As := [.ref (gad Γ 475), .int (nI i)]) (rest := [.long (131 * (acS (fAb N) 0 i))]) (st1 := [.int (fAb N i), .long (131 * (acS (fAb N) 0 i))]) hF (r_aboutF hst hN hu hi) (va_cwS 2 hts qL_about rfl rfl rfl (by decide +kernel) ⟨Nat.le_of_ble_eq_true rfl, Nat.le_of_ble_eq_true rfl⟩) hK hZ hX hY hG hS rfl hl.1 (Nat.le_of_ble_eq_true rfl) dL_sum_17 ⟨Nat.le_of_ble_eq_true rfl, Nat.le_of_ble_eq_true rfl⟩ (by omega) (by omega) rfl rfl (fun H locs hG hS => ?_)
    refine lv_i2l hx hb dL_sum_20 rfl ?_
    refine lv_ladd hx hb dL_sum_21 ?_
    refine lv_lstore_n (lv' := [(1, .long ((131 * (acS (fAb N) 0 i)) + ((fAb N i).toInt64))), (0, .ref (gad Γ 475)), (3, .int (nI i))]) hx hb dL_sum_22 rfl hl (by decide) rfl (fun ls hl => ?_)
    refine lv_iinc (v := nI (i + 1)) (lv' := [(3, .int (nI (i + 1))), (1, .long ((131 * (acS (fAb N) 0 i)) + ((fAb N i).toInt64))), (0, .ref (gad Γ 475))]) hx hb dL_sum_23 hl (k := 2) rfl (nI_1 _) (by decide) rfl (fun ls hl => ?_)
    refine lv_goto (tgt := 4) hx hb dL_sum_26 (by decide) ?_
    refine W.widen (k := 0 + 1 * (i + 1)) (n := 6 * (0 + 1 * (i + 1))) (by omega) (by omega) (next _ _ _ ⟨hG, hS, lv_sub hl [2, 1, 0] rfl⟩)
  · --out
    obtain ⟨hG, hS, hl⟩ := hInv
    refine W.widen (k := 13) (n := 6 * (13)) (by omega) (by omega) ?_
    refine lv_iload_n hx hb dL_sum_4 rfl (lv_at hl 2 rfl) ?_
    refine lv_bipush (v := 13) hx hb dL_sum_5 (by decide) ?_
    refine lv_icmp_ge (tgt := 29) hx hb dL_sum_7 (by decide) (fun c_2 => ?_) (fun c_2 => absurd (by decide) c_2)
    refine lv_iconst (v := 0) hx hb dL_sum_29 (by decide) ?_
    refine lv_istore_n (lv' := [(3, .int 0), (0, .ref (gad Γ 475)), (1, .long (acS (fAb N) 0 13))]) hx hb dL_sum_30 rfl hl (by decide) rfl (fun ls hl => ?_)
    refine loopN ((N 0).toNatClampNeg) (13) 8 (fun is H locs ls => (SH Γ N Hy k w) H ∧ va_S (gA Γ) s.heap H locs ∧ lv_has ls 5 [(0, .ref (gad Γ 475)), (1, .long (acS2 (fun i j => N (12 + 7 * i + j)) 7 (s1 N) is)), (3, .int (nI is))]) 31 (fun is his H locs ls hInv next => ?_) (fun H locs ls hInv => ?_) ((N 0).toNatClampNeg) 0 (Nat.zero_add _) _ _ _ ⟨hG, hS, lv_sub hl [1, 2, 0] rfl⟩
    · --turn
      obtain ⟨hG, hS, hl⟩ := hInv
      refine lv_iload_n hx hb dL_sum_31 rfl (lv_at hl 2 rfl) ?_
      refine lv_aload_n hx hb dL_sum_32 rfl (lv_at hl 0 rfl) ?_
      refine lv_iconst (v := 0) hx hb dL_sum_33 (by decide) ?_
      refine l_call (X := 13 + 8 * is) (K := 14 + 8 * is) (CC := 176) (As := [.ref (gad Γ 475), .int 0]) (rest := [.int (nI is)]) (st1 := [.int (N 0), .int (nI is)]) hF (r_about (N := N) (Hy := Hy) (k := k) (w := w) hst hN hu (a := 0) (j := 0) rfl (by decide)) (va_cwS 2 hts qL_about rfl rfl rfl (by decide +kernel) ⟨Nat.le_of_ble_eq_true rfl, Nat.le_of_ble_eq_true rfl⟩) hK hZ hX hY hG hS rfl hl.1 (Nat.le_of_ble_eq_true rfl) dL_sum_34 ⟨Nat.le_of_ble_eq_true rfl, Nat.le_of_ble_eq_true rfl⟩ (by omega) (by omega) rfl rfl (fun H locs hG hS => ?_)
      refine lv_icmp_ge (tgt := 77) hx hb dL_sum_37 (by decide) (fun c_3 => absurd c_3 (lt_cnt hN.s10 (by decide) his)) (fun c_3 => ?_)
      refine lv_iconst (v := 0) hx hb dL_sum_40 (by decide) ?_
      refine lv_istore (lv' := [(4, .int 0), (0, .ref (gad Γ 475)), (1, .long (acS2 (fun i j => N (12 + 7 * i + j)) 7 (s1 N) is)), (3, .int (nI is))]) hx hb dL_sum_41 hl (by decide) rfl (fun ls hl => ?_)
      refine loopN (7) (14 + 8 * is) 1 (fun js H locs ls => (SH Γ N Hy k w) H ∧ va_S (gA Γ) s.heap H locs ∧ lv_has ls 5 [(0, .ref (gad Γ 475)), (1, .long (acS (fun j => N (12 + 7 * is + j)) (acS2 (fun i j => N (12 + 7 * i + j)) 7 (s1 N) is) js)), (3, .int (nI is)), (4, .int (nI js))]) 43 (fun js hjs H locs ls hInv next => ?_) (fun H locs ls hInv => ?_) (7) 0 (Nat.zero_add _) _ _ _ ⟨hG, hS, lv_sub hl [1, 2, 3, 0] rfl⟩
      · --turn
        obtain ⟨hG, hS, hl⟩ := hInv
        refine lv_iload hx hb dL_sum_43 (lv_at hl 3 rfl) ?_
        refine lv_bipush (v := 7) hx hb dL_sum_45 (by decide) ?_
        refine lv_icmp_ge (tgt := 71) hx hb dL_sum_47 (by decide) (fun c_4 => absurd c_4 (nI_ge hjs (by decide))) (fun c_4 => ?_)
        refine lv_ldc2 hx hb hown k_1 dL_sum_50 ?_
        refine lv_lload_n hx hb dL_sum_53 rfl (lv_at hl 1 rfl) ?_
        refine lv_lmul hx hb dL_sum_54 ?_
        refine lv_aload_n hx hb dL_sum_55 rfl (lv_at hl 0 rfl) ?_
        refine lv_iload_n hx hb dL_sum_56 rfl (lv_at hl 2 rfl) ?_
        refine lv_iload hx hb dL_sum_57 (lv_at hl 3 rfl) ?_
        refine l_call (X := 14 + 8 * is + 1 * js) (K := 15 + 8 * is + 1 * js) (CC := 176) (As := [.ref (gad Γ 475), .int (nI is), .int (nI js)]) (rest := [.long (131 * (acS (fun j => N (12 + 7 * is + j)) (acS2 (fun i j => N (12 + 7 * i + j)) 7 (s1 N) is) js))]) (st1 := [.int (N (12 + 7 * is + js)), .long (131 * (acS (fun j => N (12 + 7 * is + j)) (acS2 (fun i j => N (12 + 7 * i + j)) 7 (s1 N) is) js))]) hF (r_segment (N := N) (Hy := Hy) (k := k) (w := w) hst hN hu (a := (nI is)) (d := (nI js)) (i := is) (j := js) rfl rfl his hjs) (va_cwS 3 hts qL_segment rfl rfl rfl (by decide +kernel) ⟨Nat.le_of_ble_eq_true rfl, Nat.le_of_ble_eq_true rfl⟩) hK hZ hX hY hG hS rfl hl.1 (Nat.le_of_ble_eq_true rfl) dL_sum_59 ⟨Nat.le_of_ble_eq_true rfl, Nat.le_of_ble_eq_true rfl⟩ (by omega) (by omega) rfl rfl (fun H locs hG hS => ?_)
        refine lv_i2l hx hb dL_sum_62 rfl ?_
        refine lv_ladd hx hb dL_sum_63 ?_
        refine lv_lstore_n (lv' := [(1, .long ((131 * (acS (fun j => N (12 + 7 * is + j)) (acS2 (fun i j => N (12 + 7 * i + j)) 7 (s1 N) is) js)) + ((N (12 + 7 * is + js)).toInt64))), (0, .ref (gad Γ 475)), (3, .int (nI is)), (4, .int (nI js))]) hx hb dL_sum_64 rfl hl (by decide) rfl (fun ls hl => ?_)
        refine lv_iinc (v := nI (js + 1)) (lv' := [(4, .int (nI (js + 1))), (1, .long ((131 * (acS (fun j => N (12 + 7 * is + j)) (acS2 (fun i j => N (12 + 7 * i + j)) 7 (s1 N) is) js)) + ((N (12 + 7 * is + js)).toInt64))), (0, .ref (gad Γ 475)), (3, .int (nI is))]) hx hb dL_sum_65 hl (k := 3) rfl (nI_1 _) (by decide) rfl (fun ls hl => ?_)
        refine lv_goto (tgt := 43) hx hb dL_sum_68 (by decide) ?_
        refine W.widen (k := 14 + 8 * is + 1 * (js + 1)) (n := 6 * (14 + 8 * is + 1 * (js + 1))) (by omega) (by omega) (next _ _ _ ⟨hG, hS, lv_sub hl [2, 1, 3, 0] rfl⟩)
      · --out
        obtain ⟨hG, hS, hl⟩ := hInv
        refine W.widen (k := 21 + 8 * is) (n := 6 * (21 + 8 * is)) (by omega) (by omega) ?_
        refine lv_iload hx hb dL_sum_43 (lv_at hl 3 rfl) ?_
        refine lv_bipush (v := 7) hx hb dL_sum_45 (by decide) ?_
        refine lv_icmp_ge (tgt := 71) hx hb dL_sum_47 (by decide) (fun c_5 => ?_) (fun c_5 => absurd (by decide) c_5)
        refine lv_iinc (v := nI (is + 1)) (lv' := [(3, .int (nI (is + 1))), (0, .ref (gad Γ 475)), (1, .long (acS (fun j => N (12 + 7 * is + j)) (acS2 (fun i j => N (12 + 7 * i + j)) 7 (s1 N) is) 7)), (4, .int (nI 7))]) hx hb dL_sum_71 hl (k := 2) rfl (nI_1 _) (by decide) rfl (fun ls hl => ?_)
        refine lv_goto (tgt := 31) hx hb dL_sum_74 (by decide) ?_
        refine W.widen (k := 13 + 8 * (is + 1)) (n := 6 * (13 + 8 * (is + 1))) (by omega) (by omega) (next _ _ _ ⟨hG, hS, lv_sub hl [1, 2, 0] rfl⟩)
    · --out
      obtain ⟨hG, hS, hl⟩ := hInv
      refine W.widen (k := 93) (n := 6 * (93)) (by omega) (by omega) ?_
      refine lv_iload_n hx hb dL_sum_31 rfl (lv_at hl 2 rfl) ?_
      refine lv_aload_n hx hb dL_sum_32 rfl (lv_at hl 0 rfl) ?_
      refine lv_iconst (v := 0) hx hb dL_sum_33 (by decide) ?_
      refine l_call (X := 93) (K := 94) (CC := 176) (As := [.ref (gad Γ 475), .int 0]) (rest := [.int (nI ((N 0).toNatClampNeg))]) (st1 := [.int (N 0), .int (nI ((N 0).toNatClampNeg))]) hF (r_about (N := N) (Hy := Hy) (k := k) (w := w) hst hN hu (a := 0) (j := 0) rfl (by decide)) (va_cwS 2 hts qL_about rfl rfl rfl (by decide +kernel) ⟨Nat.le_of_ble_eq_true rfl, Nat.le_of_ble_eq_true rfl⟩) hK hZ hX hY hG hS rfl hl.1 (Nat.le_of_ble_eq_true rfl) dL_sum_34 ⟨Nat.le_of_ble_eq_true rfl, Nat.le_of_ble_eq_true rfl⟩ (by omega) (by omega) rfl rfl (fun H locs hG hS => ?_)
      refine lv_icmp_ge (tgt := 77) hx hb dL_sum_37 (by decide) (fun c_6 => ?_) (fun c_6 => absurd (ge_cnt hN.s10 (by decide)) c_6)
      refine lv_iconst (v := 0) hx hb dL_sum_77 (by decide) ?_
      refine lv_istore_n (lv' := [(3, .int 0), (0, .ref (gad Γ 475)), (1, .long (acS2 (fun i j => N (12 + 7 * i + j)) 7 (s1 N) ((N 0).toNatClampNeg)))]) hx hb dL_sum_78 rfl hl (by decide) rfl (fun ls hl => ?_)
      refine loopN ((N 1).toNatClampNeg) (94) 6 (fun it H locs ls => (SH Γ N Hy k w) H ∧ va_S (gA Γ) s.heap H locs ∧ lv_has ls 5 [(0, .ref (gad Γ 475)), (1, .long (acS2 (fun i j => N (82 + 5 * i + j)) 5 (s2 N) it)), (3, .int (nI it))]) 79 (fun it hit H locs ls hInv next => ?_) (fun H locs ls hInv => ?_) ((N 1).toNatClampNeg) 0 (Nat.zero_add _) _ _ _ ⟨hG, hS, lv_sub hl [1, 2, 0] rfl⟩
      · --turn
        obtain ⟨hG, hS, hl⟩ := hInv
        refine lv_iload_n hx hb dL_sum_79 rfl (lv_at hl 2 rfl) ?_
        refine lv_aload_n hx hb dL_sum_80 rfl (lv_at hl 0 rfl) ?_
        refine lv_iconst (v := 1) hx hb dL_sum_81 (by decide) ?_
        refine l_call (X := 94 + 6 * it) (K := 95 + 6 * it) (CC := 176) (As := [.ref (gad Γ 475), .int 1]) (rest := [.int (nI it)]) (st1 := [.int (N 1), .int (nI it)]) hF (r_about (N := N) (Hy := Hy) (k := k) (w := w) hst hN hu (a := 1) (j := 1) rfl (by decide)) (va_cwS 2 hts qL_about rfl rfl rfl (by decide +kernel) ⟨Nat.le_of_ble_eq_true rfl, Nat.le_of_ble_eq_true rfl⟩) hK hZ hX hY hG hS rfl hl.1 (Nat.le_of_ble_eq_true rfl) dL_sum_82 ⟨Nat.le_of_ble_eq_true rfl, Nat.le_of_ble_eq_true rfl⟩ (by omega) (by omega) rfl rfl (fun H locs hG hS => ?_)
        refine lv_icmp_ge (tgt := 124) hx hb dL_sum_85 (by decide) (fun c_7 => absurd c_7 (lt_cnt hN.h8 (by decide) hit)) (fun c_7 => ?_)
        refine lv_iconst (v := 0) hx hb dL_sum_88 (by decide) ?_
        refine lv_istore (lv' := [(4, .int 0), (0, .ref (gad Γ 475)), (1, .long (acS2 (fun i j => N (82 + 5 * i + j)) 5 (s2 N) it)), (3, .int (nI it))]) hx hb dL_sum_89 hl (by decide) rfl (fun ls hl => ?_)
        refine loopN (5) (95 + 6 * it) 1 (fun jt H locs ls => (SH Γ N Hy k w) H ∧ va_S (gA Γ) s.heap H locs ∧ lv_has ls 5 [(0, .ref (gad Γ 475)), (1, .long (acS (fun j => N (82 + 5 * it + j)) (acS2 (fun i j => N (82 + 5 * i + j)) 5 (s2 N) it) jt)), (3, .int (nI it)), (4, .int (nI jt))]) 91 (fun jt hjt H locs ls hInv next => ?_) (fun H locs ls hInv => ?_) (5) 0 (Nat.zero_add _) _ _ _ ⟨hG, hS, lv_sub hl [1, 2, 3, 0] rfl⟩
        · --turn
          obtain ⟨hG, hS, hl⟩ := hInv
          refine lv_iload hx hb dL_sum_91 (lv_at hl 3 rfl) ?_
          refine lv_iconst (v := 5) hx hb dL_sum_93 (by decide) ?_
          refine lv_icmp_ge (tgt := 118) hx hb dL_sum_94 (by decide) (fun c_8 => absurd c_8 (nI_ge hjt (by decide))) (fun c_8 => ?_)
          refine lv_ldc2 hx hb hown k_1 dL_sum_97 ?_
          refine lv_lload_n hx hb dL_sum_100 rfl (lv_at hl 1 rfl) ?_
          refine lv_lmul hx hb dL_sum_101 ?_
          refine lv_aload_n hx hb dL_sum_102 rfl (lv_at hl 0 rfl) ?_
          refine lv_iload_n hx hb dL_sum_103 rfl (lv_at hl 2 rfl) ?_
          refine lv_iload hx hb dL_sum_104 (lv_at hl 3 rfl) ?_
          refine l_call (X := 95 + 6 * it + 1 * jt) (K := 96 + 6 * it + 1 * jt) (CC := 176) (As := [.ref (gad Γ 475), .int (nI it), .int (nI jt)]) (rest := [.long (131 * (acS (fun j => N (82 + 5 * it + j)) (acS2 (fun i j => N (82 + 5 * i + j)) 5 (s2 N) it) jt))]) (st1 := [.int (N (82 + 5 * it + jt)), .long (131 * (acS (fun j => N (82 + 5 * it + j)) (acS2 (fun i j => N (82 + 5 * i + j)) 5 (s2 N) it) jt))]) hF (r_house (N := N) (Hy := Hy) (k := k) (w := w) hst hN hu (a := (nI it)) (d := (nI jt)) (i := it) (j := jt) rfl rfl hit hjt) (va_cwS 3 hts qL_house rfl rfl rfl (by decide +kernel) ⟨Nat.le_of_ble_eq_true rfl, Nat.le_of_ble_eq_true rfl⟩) hK hZ hX hY hG hS rfl hl.1 (Nat.le_of_ble_eq_true rfl) dL_sum_106 ⟨Nat.le_of_ble_eq_true rfl, Nat.le_of_ble_eq_true rfl⟩ (by omega) (by omega) rfl rfl (fun H locs hG hS => ?_)
          refine lv_i2l hx hb dL_sum_109 rfl ?_
          refine lv_ladd hx hb dL_sum_110 ?_
          refine lv_lstore_n (lv' := [(1, .long ((131 * (acS (fun j => N (82 + 5 * it + j)) (acS2 (fun i j => N (82 + 5 * i + j)) 5 (s2 N) it) jt)) + ((N (82 + 5 * it + jt)).toInt64))), (0, .ref (gad Γ 475)), (3, .int (nI it)), (4, .int (nI jt))]) hx hb dL_sum_111 rfl hl (by decide) rfl (fun ls hl => ?_)
          refine lv_iinc (v := nI (jt + 1)) (lv' := [(4, .int (nI (jt + 1))), (1, .long ((131 * (acS (fun j => N (82 + 5 * it + j)) (acS2 (fun i j => N (82 + 5 * i + j)) 5 (s2 N) it) jt)) + ((N (82 + 5 * it + jt)).toInt64))), (0, .ref (gad Γ 475)), (3, .int (nI it))]) hx hb dL_sum_112 hl (k := 3) rfl (nI_1 _) (by decide) rfl (fun ls hl => ?_)
          refine lv_goto (tgt := 91) hx hb dL_sum_115 (by decide) ?_
          refine W.widen (k := 95 + 6 * it + 1 * (jt + 1)) (n := 6 * (95 + 6 * it + 1 * (jt + 1))) (by omega) (by omega) (next _ _ _ ⟨hG, hS, lv_sub hl [2, 1, 3, 0] rfl⟩)
        · --out
          obtain ⟨hG, hS, hl⟩ := hInv
          refine W.widen (k := 100 + 6 * it) (n := 6 * (100 + 6 * it)) (by omega) (by omega) ?_
          refine lv_iload hx hb dL_sum_91 (lv_at hl 3 rfl) ?_
          refine lv_iconst (v := 5) hx hb dL_sum_93 (by decide) ?_
          refine lv_icmp_ge (tgt := 118) hx hb dL_sum_94 (by decide) (fun c_9 => ?_) (fun c_9 => absurd (by decide) c_9)
          refine lv_iinc (v := nI (it + 1)) (lv' := [(3, .int (nI (it + 1))), (0, .ref (gad Γ 475)), (1, .long (acS (fun j => N (82 + 5 * it + j)) (acS2 (fun i j => N (82 + 5 * i + j)) 5 (s2 N) it) 5)), (4, .int (nI 5))]) hx hb dL_sum_118 hl (k := 2) rfl (nI_1 _) (by decide) rfl (fun ls hl => ?_)
          refine lv_goto (tgt := 79) hx hb dL_sum_121 (by decide) ?_
          refine W.widen (k := 94 + 6 * (it + 1)) (n := 6 * (94 + 6 * (it + 1))) (by omega) (by omega) (next _ _ _ ⟨hG, hS, lv_sub hl [1, 2, 0] rfl⟩)
      · --out
        obtain ⟨hG, hS, hl⟩ := hInv
        refine W.widen (k := 142) (n := 6 * (142)) (by omega) (by omega) ?_
        refine lv_iload_n hx hb dL_sum_79 rfl (lv_at hl 2 rfl) ?_
        refine lv_aload_n hx hb dL_sum_80 rfl (lv_at hl 0 rfl) ?_
        refine lv_iconst (v := 1) hx hb dL_sum_81 (by decide) ?_
        refine l_call (X := 142) (K := 143) (CC := 176) (As := [.ref (gad Γ 475), .int 1]) (rest := [.int (nI ((N 1).toNatClampNeg))]) (st1 := [.int (N 1), .int (nI ((N 1).toNatClampNeg))]) hF (r_about (N := N) (Hy := Hy) (k := k) (w := w) hst hN hu (a := 1) (j := 1) rfl (by decide)) (va_cwS 2 hts qL_about rfl rfl rfl (by decide +kernel) ⟨Nat.le_of_ble_eq_true rfl, Nat.le_of_ble_eq_true rfl⟩) hK hZ hX hY hG hS rfl hl.1 (Nat.le_of_ble_eq_true rfl) dL_sum_82 ⟨Nat.le_of_ble_eq_true rfl, Nat.le_of_ble_eq_true rfl⟩ (by omega) (by omega) rfl rfl (fun H locs hG hS => ?_)
        refine lv_icmp_ge (tgt := 124) hx hb dL_sum_85 (by decide) (fun c_10 => ?_) (fun c_10 => absurd (ge_cnt hN.h8 (by decide)) c_10)
        refine lv_iconst (v := 0) hx hb dL_sum_124 (by decide) ?_
        refine lv_istore_n (lv' := [(3, .int 0), (0, .ref (gad Γ 475)), (1, .long (acS2 (fun i j => N (82 + 5 * i + j)) 5 (s2 N) ((N 1).toNatClampNeg)))]) hx hb dL_sum_125 rfl hl (by decide) rfl (fun ls hl => ?_)
        refine loopN ((N 2).toNatClampNeg) (143) 4 (fun iv H locs ls => (SH Γ N Hy k w) H ∧ va_S (gA Γ) s.heap H locs ∧ lv_has ls 5 [(0, .ref (gad Γ 475)), (1, .long (acS2 (fun i j => N (122 + 3 * i + j)) 3 (s3 N) iv)), (3, .int (nI iv))]) 126 (fun iv hiv H locs ls hInv next => ?_) (fun H locs ls hInv => ?_) ((N 2).toNatClampNeg) 0 (Nat.zero_add _) _ _ _ ⟨hG, hS, lv_sub hl [1, 2, 0] rfl⟩
        · --turn
          obtain ⟨hG, hS, hl⟩ := hInv
          refine lv_iload_n hx hb dL_sum_126 rfl (lv_at hl 2 rfl) ?_
          refine lv_aload_n hx hb dL_sum_127 rfl (lv_at hl 0 rfl) ?_
          refine lv_iconst (v := 2) hx hb dL_sum_128 (by decide) ?_
          refine l_call (X := 143 + 4 * iv) (K := 144 + 4 * iv) (CC := 176) (As := [.ref (gad Γ 475), .int 2]) (rest := [.int (nI iv)]) (st1 := [.int (N 2), .int (nI iv)]) hF (r_about (N := N) (Hy := Hy) (k := k) (w := w) hst hN hu (a := 2) (j := 2) rfl (by decide)) (va_cwS 2 hts qL_about rfl rfl rfl (by decide +kernel) ⟨Nat.le_of_ble_eq_true rfl, Nat.le_of_ble_eq_true rfl⟩) hK hZ hX hY hG hS rfl hl.1 (Nat.le_of_ble_eq_true rfl) dL_sum_129 ⟨Nat.le_of_ble_eq_true rfl, Nat.le_of_ble_eq_true rfl⟩ (by omega) (by omega) rfl rfl (fun H locs hG hS => ?_)
          refine lv_icmp_ge (tgt := 171) hx hb dL_sum_132 (by decide) (fun c_11 => absurd c_11 (lt_cnt hN.w3 (by decide) hiv)) (fun c_11 => ?_)
          refine lv_iconst (v := 0) hx hb dL_sum_135 (by decide) ?_
          refine lv_istore (lv' := [(4, .int 0), (0, .ref (gad Γ 475)), (1, .long (acS2 (fun i j => N (122 + 3 * i + j)) 3 (s3 N) iv)), (3, .int (nI iv))]) hx hb dL_sum_136 hl (by decide) rfl (fun ls hl => ?_)
          refine loopN (3) (144 + 4 * iv) 1 (fun jv H locs ls => (SH Γ N Hy k w) H ∧ va_S (gA Γ) s.heap H locs ∧ lv_has ls 5 [(0, .ref (gad Γ 475)), (1, .long (acS (fun j => N (122 + 3 * iv + j)) (acS2 (fun i j => N (122 + 3 * i + j)) 3 (s3 N) iv) jv)), (3, .int (nI iv)), (4, .int (nI jv))]) 138 (fun jv hjv H locs ls hInv next => ?_) (fun H locs ls hInv => ?_) (3) 0 (Nat.zero_add _) _ _ _ ⟨hG, hS, lv_sub hl [1, 2, 3, 0] rfl⟩
          · --turn
            obtain ⟨hG, hS, hl⟩ := hInv
            refine lv_iload hx hb dL_sum_138 (lv_at hl 3 rfl) ?_
            refine lv_iconst (v := 3) hx hb dL_sum_140 (by decide) ?_
            refine lv_icmp_ge (tgt := 165) hx hb dL_sum_141 (by decide) (fun c_12 => absurd c_12 (nI_ge hjv (by decide))) (fun c_12 => ?_)
            refine lv_ldc2 hx hb hown k_1 dL_sum_144 ?_
            refine lv_lload_n hx hb dL_sum_147 rfl (lv_at hl 1 rfl) ?_
            refine lv_lmul hx hb dL_sum_148 ?_
            refine lv_aload_n hx hb dL_sum_149 rfl (lv_at hl 0 rfl) ?_
            refine lv_iload_n hx hb dL_sum_150 rfl (lv_at hl 2 rfl) ?_
            refine lv_iload hx hb dL_sum_151 (lv_at hl 3 rfl) ?_
            refine l_call (X := 144 + 4 * iv + 1 * jv) (K := 145 + 4 * iv + 1 * jv) (CC := 176) (As := [.ref (gad Γ 475), .int (nI iv), .int (nI jv)]) (rest := [.long (131 * (acS (fun j => N (122 + 3 * iv + j)) (acS2 (fun i j => N (122 + 3 * i + j)) 3 (s3 N) iv) jv))]) (st1 := [.int (N (122 + 3 * iv + jv)), .long (131 * (acS (fun j => N (122 + 3 * iv + j)) (acS2 (fun i j => N (122 + 3 * i + j)) 3 (s3 N) iv) jv))]) hF (r_wagon (N := N) (Hy := Hy) (k := k) (w := w) hst hN hu (a := (nI iv)) (d := (nI jv)) (i := iv) (j := jv) rfl rfl hiv hjv) (va_cwS 3 hts qL_wagon rfl rfl rfl (by decide +kernel) ⟨Nat.le_of_ble_eq_true rfl, Nat.le_of_ble_eq_true rfl⟩) hK hZ hX hY hG hS rfl hl.1 (Nat.le_of_ble_eq_true rfl) dL_sum_153 ⟨Nat.le_of_ble_eq_true rfl, Nat.le_of_ble_eq_true rfl⟩ (by omega) (by omega) rfl rfl (fun H locs hG hS => ?_)
            refine lv_i2l hx hb dL_sum_156 rfl ?_
            refine lv_ladd hx hb dL_sum_157 ?_
            refine lv_lstore_n (lv' := [(1, .long ((131 * (acS (fun j => N (122 + 3 * iv + j)) (acS2 (fun i j => N (122 + 3 * i + j)) 3 (s3 N) iv) jv)) + ((N (122 + 3 * iv + jv)).toInt64))), (0, .ref (gad Γ 475)), (3, .int (nI iv)), (4, .int (nI jv))]) hx hb dL_sum_158 rfl hl (by decide) rfl (fun ls hl => ?_)
            refine lv_iinc (v := nI (jv + 1)) (lv' := [(4, .int (nI (jv + 1))), (1, .long ((131 * (acS (fun j => N (122 + 3 * iv + j)) (acS2 (fun i j => N (122 + 3 * i + j)) 3 (s3 N) iv) jv)) + ((N (122 + 3 * iv + jv)).toInt64))), (0, .ref (gad Γ 475)), (3, .int (nI iv))]) hx hb dL_sum_159 hl (k := 3) rfl (nI_1 _) (by decide) rfl (fun ls hl => ?_)
            refine lv_goto (tgt := 138) hx hb dL_sum_162 (by decide) ?_
            refine W.widen (k := 144 + 4 * iv + 1 * (jv + 1)) (n := 6 * (144 + 4 * iv + 1 * (jv + 1))) (by omega) (by omega) (next _ _ _ ⟨hG, hS, lv_sub hl [2, 1, 3, 0] rfl⟩)
          · --out
            obtain ⟨hG, hS, hl⟩ := hInv
            refine W.widen (k := 147 + 4 * iv) (n := 6 * (147 + 4 * iv)) (by omega) (by omega) ?_
            refine lv_iload hx hb dL_sum_138 (lv_at hl 3 rfl) ?_
            refine lv_iconst (v := 3) hx hb dL_sum_140 (by decide) ?_
            refine lv_icmp_ge (tgt := 165) hx hb dL_sum_141 (by decide) (fun c_13 => ?_) (fun c_13 => absurd (by decide) c_13)
            refine lv_iinc (v := nI (iv + 1)) (lv' := [(3, .int (nI (iv + 1))), (0, .ref (gad Γ 475)), (1, .long (acS (fun j => N (122 + 3 * iv + j)) (acS2 (fun i j => N (122 + 3 * i + j)) 3 (s3 N) iv) 3)), (4, .int (nI 3))]) hx hb dL_sum_165 hl (k := 2) rfl (nI_1 _) (by decide) rfl (fun ls hl => ?_)
            refine lv_goto (tgt := 126) hx hb dL_sum_168 (by decide) ?_
            refine W.widen (k := 143 + 4 * (iv + 1)) (n := 6 * (143 + 4 * (iv + 1))) (by omega) (by omega) (next _ _ _ ⟨hG, hS, lv_sub hl [1, 2, 0] rfl⟩)
        · --out
          obtain ⟨hG, hS, hl⟩ := hInv
          refine W.widen (k := 155) (n := 6 * (155)) (by omega) (by omega) ?_
          refine lv_iload_n hx hb dL_sum_126 rfl (lv_at hl 2 rfl) ?_
          refine lv_aload_n hx hb dL_sum_127 rfl (lv_at hl 0 rfl) ?_
          refine lv_iconst (v := 2) hx hb dL_sum_128 (by decide) ?_
          refine l_call (X := 155) (K := 156) (CC := 176) (As := [.ref (gad Γ 475), .int 2]) (rest := [.int (nI ((N 2).toNatClampNeg))]) (st1 := [.int (N 2), .int (nI ((N 2).toNatClampNeg))]) hF (r_about (N := N) (Hy := Hy) (k := k) (w := w) hst hN hu (a := 2) (j := 2) rfl (by decide)) (va_cwS 2 hts qL_about rfl rfl rfl (by decide +kernel) ⟨Nat.le_of_ble_eq_true rfl, Nat.le_of_ble_eq_true rfl⟩) hK hZ hX hY hG hS rfl hl.1 (Nat.le_of_ble_eq_true rfl) dL_sum_129 ⟨Nat.le_of_ble_eq_true rfl, Nat.le_of_ble_eq_true rfl⟩ (by omega) (by omega) rfl rfl (fun H locs hG hS => ?_)
          refine lv_icmp_ge (tgt := 171) hx hb dL_sum_132 (by decide) (fun c_14 => ?_) (fun c_14 => absurd (ge_cnt hN.w3 (by decide)) c_14)
          refine lv_lload_n hx hb dL_sum_171 rfl (lv_at hl 1 rfl) ?_
          exact l_lret hx hb hrt hlocks hS hG rfl (by omega) dL_sum_172

set_option maxHeartbeats 4000000 in
set_option maxRecDepth 100000 in
theorem L_latest {l : Launch} {Γ : gX} (hst : l.stackTraces = false) {u : Nat} {N : Nat → Int32} {Hy : Nat → Nat → Int32} {k : Nat} {w : WO} (hN : PI u N) (hu : 1998 * (u + 5000) < 2 ^ 31) : lM l Γ yL_latest wqL_latest 12 262 18 [.ref (gad Γ 475)] (SH Γ N Hy k w) (some (.int (laF N (N 1).toNatClampNeg))) (SH Γ N Hy k w) := by
  refine l_start (cc := cL_latest) (maxL := 3) (ret := (some .int)) (by decide) rfl (Nat.le_of_ble_eq_true rfl) ?_
  intro p e s m below meth c ls hx hb hml hrt hts hown hlocks hK hZ hX hY hG hS hl
  have hl : lv_has ls 3 [(0, .ref (gad Γ 475))] := hl
  have hown : s.vm.findClass RL = some m.cls := hown
  have hF : CallFix p m c cL_latest 3 s _ wqL_latest RL := ⟨hx, hb, hml, hown, hts⟩
  have b1 := hN.h8.2
  refine lv_iconst (v := 0) hx hb dL_latest_0 (by decide) ?_
  refine lv_istore_n (lv' := [(1, .int 0), (0, .ref (gad Γ 475))]) hx hb dL_latest_1 rfl hl (by decide) rfl (fun ls hl => ?_)
  refine lv_iconst (v := 0) hx hb dL_latest_2 (by decide) ?_
  refine lv_istore_n (lv' := [(2, .int 0), (1, .int 0), (0, .ref (gad Γ 475))]) hx hb dL_latest_3 rfl hl (by decide) rfl (fun ls hl => ?_)
  refine loopN ((N 1).toNatClampNeg) (0) 2 (fun i H locs ls => (SH Γ N Hy k w) H ∧ va_S (gA Γ) s.heap H locs ∧ lv_has ls 3 [(0, .ref (gad Γ 475)), (1, .int (laF N i)), (2, .int (nI i))]) 4 (fun i hi H locs ls hInv next => ?_) (fun H locs ls hInv => ?_) ((N 1).toNatClampNeg) 0 (Nat.zero_add _) _ _ _ ⟨hG, hS, lv_sub hl [2, 1, 0] rfl⟩
  · --turn
    obtain ⟨hG, hS, hl⟩ := hInv
    refine lv_iload_n hx hb dL_latest_4 rfl (lv_at hl 2 rfl) ?_
    refine lv_aload_n hx hb dL_latest_5 rfl (lv_at hl 0 rfl) ?_
    refine lv_iconst (v := 1) hx hb dL_latest_6 (by decide) ?_
    refine l_call (X := 0 + 2 * i) (K := 1 + 2 * i) (CC := 18) (As := [.ref (gad Γ 475), .int 1]) (rest := [.int (nI i)]) (st1 := [.int (N 1), .int (nI i)]) hF (r_about (N := N) (Hy := Hy) (k := k) (w := w) hst hN hu (a := 1) (j := 1) rfl (by decide)) (va_cwS 2 hts qL_about rfl rfl rfl (by decide +kernel) ⟨Nat.le_of_ble_eq_true rfl, Nat.le_of_ble_eq_true rfl⟩) hK hZ hX hY hG hS rfl hl.1 (Nat.le_of_ble_eq_true rfl) dL_latest_7 ⟨Nat.le_of_ble_eq_true rfl, Nat.le_of_ble_eq_true rfl⟩ (by omega) (by omega) rfl rfl (fun H locs hG hS => ?_)
    refine lv_icmp_ge (tgt := 28) hx hb dL_latest_10 (by decide) (fun c_1 => absurd c_1 (lt_cnt hN.h8 (by decide) hi)) (fun c_1 => ?_)
    refine lv_iload_n hx hb dL_latest_13 rfl (lv_at hl 1 rfl) ?_
    refine lv_aload_n hx hb dL_latest_14 rfl (lv_at hl 0 rfl) ?_
    refine lv_iload_n hx hb dL_latest_15 rfl (lv_at hl 2 rfl) ?_
    refine lv_iconst (v := 4) hx hb dL_latest_16 (by decide) ?_
    refine l_call (X := 1 + 2 * i) (K := 2 + 2 * i) (CC := 18) (As := [.ref (gad Γ 475), .int (nI i), .int 4]) (rest := [.int (laF N i)]) (st1 := [.int (N (82 + 5 * i + 4)), .int (laF N i)]) hF (r_house (N := N) (Hy := Hy) (k := k) (w := w) hst hN hu (a := (nI i)) (d := 4) (i := i) (j := 4) rfl rfl hi (by decide)) (va_cwS 3 hts qL_house rfl rfl rfl (by decide +kernel) ⟨Nat.le_of_ble_eq_true rfl, Nat.le_of_ble_eq_true rfl⟩) hK hZ hX hY hG hS rfl hl.1 (Nat.le_of_ble_eq_true rfl) dL_latest_17 ⟨Nat.le_of_ble_eq_true rfl, Nat.le_of_ble_eq_true rfl⟩ (by omega) (by omega) rfl rfl (fun H locs hG hS => ?_)
    refine lv_iadd hx hb dL_latest_20 ?_
    refine lv_istore_n (lv' := [(1, .int ((laF N i) + (N (82 + 5 * i + 4)))), (0, .ref (gad Γ 475)), (2, .int (nI i))]) hx hb dL_latest_21 rfl hl (by decide) rfl (fun ls hl => ?_)
    refine lv_iinc (v := nI (i + 1)) (lv' := [(2, .int (nI (i + 1))), (1, .int ((laF N i) + (N (82 + 5 * i + 4)))), (0, .ref (gad Γ 475))]) hx hb dL_latest_22 hl (k := 2) rfl (nI_1 _) (by decide) rfl (fun ls hl => ?_)
    refine lv_goto (tgt := 4) hx hb dL_latest_25 (by decide) ?_
    refine W.widen (k := 0 + 2 * (i + 1)) (n := 6 * (0 + 2 * (i + 1))) (by omega) (by omega) (next _ _ _ ⟨hG, hS, lv_sub hl [2, 1, 0] rfl⟩)
  · --out
    obtain ⟨hG, hS, hl⟩ := hInv
    refine W.widen (k := 16) (n := 6 * (16)) (by omega) (by omega) ?_
    refine lv_iload_n hx hb dL_latest_4 rfl (lv_at hl 2 rfl) ?_
    refine lv_aload_n hx hb dL_latest_5 rfl (lv_at hl 0 rfl) ?_
    refine lv_iconst (v := 1) hx hb dL_latest_6 (by decide) ?_
    refine l_call (X := 16) (K := 17) (CC := 18) (As := [.ref (gad Γ 475), .int 1]) (rest := [.int (nI ((N 1).toNatClampNeg))]) (st1 := [.int (N 1), .int (nI ((N 1).toNatClampNeg))]) hF (r_about (N := N) (Hy := Hy) (k := k) (w := w) hst hN hu (a := 1) (j := 1) rfl (by decide)) (va_cwS 2 hts qL_about rfl rfl rfl (by decide +kernel) ⟨Nat.le_of_ble_eq_true rfl, Nat.le_of_ble_eq_true rfl⟩) hK hZ hX hY hG hS rfl hl.1 (Nat.le_of_ble_eq_true rfl) dL_latest_7 ⟨Nat.le_of_ble_eq_true rfl, Nat.le_of_ble_eq_true rfl⟩ (by omega) (by omega) rfl rfl (fun H locs hG hS => ?_)
    refine lv_icmp_ge (tgt := 28) hx hb dL_latest_10 (by decide) (fun c_2 => ?_) (fun c_2 => absurd (ge_cnt hN.h8 (by decide)) c_2)
    refine lv_iload_n hx hb dL_latest_28 rfl (lv_at hl 1 rfl) ?_
    exact l_iret hx hb hrt hlocks hS hG rfl (by omega) dL_latest_29

