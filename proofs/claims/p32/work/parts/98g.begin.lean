/-! THE LAW: begin. Laid by gen/r101.py. -/
set_option maxRecDepth 16384
theorem put_pos {t : Nat} (h : t < 1000) : ¬ nI (t + 1) ≤ 0 := Int32.not_le.mpr (nI_lt (a := 0) (b := t + 1) (by omega) (by omega))
theorem np_all {n x : Nat} (hn : 1 ≤ n ∧ n ≤ 9) : ∃ X1 Q1 : Nat → Int32, SG (pK n 5) (pK n 5) (850 * (n + 5)) n 3 2 X1 Q1 (NPar n x 5) := by
  obtain ⟨X1, Q1, -, h⟩ := ri_P (X := fun _ => nI (pK n 5)) (G := Tx n x) (Q := fun _ => 0) (x := x) hn (k := 5) (by decide) rfl (fun _ _ => rfl)
  exact ⟨X1, Q1, h⟩
theorem np_ok {n x : Nat} (hn : 1 ≤ n ∧ n ≤ 9) : PGD 11900 (NPar n x 5) ∧ NPar n x 5 0 = nI n := by
  obtain ⟨X1, Q1, -, -, -, h1, h2, e0, e1, e2⟩ := np_all (x := x) hn
  exact ⟨⟨h1.le (by omega), h2, by rw [e1]; decide, by rw [e2]; decide⟩, e0⟩
theorem np_load {n x : Nat} (hn : 1 ≤ n ∧ n ≤ 9) : ∀ X G Q : Nat → Int32, TX X G (n + 12 + 2 * 2) (Tx n x) → ∃ X1 Q1 : Nat → Int32, riM (-9) X G Q X1 Q1 ∧ X1 1 = nI (n + 12 + 2 * 2) ∧ PR Q1 (NPar n x 5) := fun X G Q h => by
  have e : pK n 5 = n + 12 + 2 * 2 := by unfold pK; split <;> omega
  rw [← e] at h ⊢
  obtain ⟨X1, Q1, h1, h2⟩ := ri_P (Q := Q) hn (k := 5) (by decide) h.1 h.2.2
  exact ⟨X1, Q1, h1, h2.1.1, h2.2.1, h2.2.2.1⟩
set_option maxHeartbeats 4000000 in
set_option maxRecDepth 100000 in
theorem L_begin {l : Launch} {Γ : gX} (hst : l.stackTraces = false) {N : Nat → Int32} {Hy : Nat → Nat → Int32} {k : Nat} {sl : Nat → Option (Nat → Int32)} {x n : Nat} (hx0 : x < 2 ^ 31) (hn9 : n = 1 + x % 9) : lM l Γ yL_begin wqL_begin 12 262 40 [.ref (gad Γ 475), .int (nI x)] (SH Γ N Hy k (sl, 0, Tx n x)) (some (.int 1)) (SH Γ (NPar n x 5) Hy 0 (fun _ => none, n + 12 + 2 * 2, Tx n x)) := by
  refine l_start (cc := cL_begin) (maxL := 5) (ret := (some .boolean)) (by decide) rfl (Nat.le_of_ble_eq_true rfl) ?_
  intro p e s m below meth c ls hx hb hml hrt hts hown hlocks hK hZ hX hY hG hS hl
  have hl : lv_has ls 5 [(0, .ref (gad Γ 475)), (1, .int (nI x))] := hl
  have hown : s.vm.findClass RL = some m.cls := hown
  have hF : CallFix p m c cL_begin 5 s _ wqL_begin RL := ⟨hx, hb, hml, hown, hts⟩
  have hn : 1 ≤ n ∧ n ≤ 9 := by omega
  refine lv_iconst (v := 1) hx hb dL_begin_0 (by decide) ?_
  refine lv_iload_n hx hb dL_begin_1 rfl (lv_at hl 1 rfl) ?_
  refine lv_bipush (v := 9) hx hb dL_begin_2 (by decide) ?_
  refine lv_irem hx hb dL_begin_4 (by decide) ?_
  refine g_top (y := nI (x % 9)) (pk_rem (a := x) (d := 9) (by omega) (by decide) (by decide)) ?_
  refine lv_iadd hx hb dL_begin_5 ?_
  refine g_top (show _ = nI (1 + (x % 9)) from nI_add _ _) ?_
  refine g_top (y := nI n) (congrArg nI hn9.symm) ?_
  refine lv_istore_n (lv' := [(2, .int (nI n)), (0, .ref (gad Γ 475)), (1, .int (nI x))]) hx hb dL_begin_6 rfl hl (by decide) rfl (fun ls hl => ?_)
  refine lv_aload_n hx hb dL_begin_7 rfl (lv_at hl 1 rfl) ?_
  refine lv_iconst (v := 0) hx hb dL_begin_8 (by decide) ?_
  refine lv_bipush (v := 82) hx hb dL_begin_9 (by decide) ?_
  refine lv_iconst (v := 0) hx hb dL_begin_11 (by decide) ?_
  refine lv_iconst (v := 0) hx hb dL_begin_12 (by decide) ?_
  refine lv_iconst (v := 0) hx hb dL_begin_13 (by decide) ?_
  refine l_call (X := 0) (K := 1) (CC := 40) (As := [.ref (gad Γ 475), .int 0, .int 82, .int 0, .int 0, .int 0]) (rest := []) (st1 := [.int (nI 1)]) hF (q_put (l := l) (Γ := Γ) (N := N) (Hy := Hy) (k := k) (sl := sl) (t := 0) (T := Tx n x) (c := 82) (by omega) rfl (by omega) rfl) (va_cwS 6 hts qL_call rfl rfl rfl (by decide +kernel) ⟨Nat.le_of_ble_eq_true rfl, Nat.le_of_ble_eq_true rfl⟩) hK hZ hX hY hG hS rfl hl.1 (Nat.le_of_ble_eq_true rfl) dL_begin_14 ⟨Nat.le_of_ble_eq_true rfl, Nat.le_of_ble_eq_true rfl⟩ (by omega) (by omega) rfl rfl (fun H locs hG hS => ?_)
  refine lv_iconst (v := 1) hx hb dL_begin_17 (by decide) ?_
  refine lv_icmp_ne (tgt := 63) hx hb dL_begin_18 (by decide) (fun c_1 => absurd rfl c_1) (fun c_1 => ?_)
  refine lv_aload_n hx hb dL_begin_21 rfl (lv_at hl 1 rfl) ?_
  refine l_pos (X := 1) (rest := []) (st1 := [.int 1]) (v := 1) (N := N) (Hy := Hy) (k := k) (w := (sl, 1, Tx n x)) hF rd_R (cwV 0 hts qL_errorPosition rfl rfl rfl (by decide +kernel) ⟨Nat.le_of_ble_eq_true rfl, Nat.le_of_ble_eq_true rfl⟩) hK hZ hG hS hl.1 (Nat.le_of_ble_eq_true rfl) dL_begin_22 ⟨by show 1 ≤ 40; omega, by show 6 * (1) ≤ 240; omega⟩ rfl rfl (fun H locs hG hS => ?_)
  refine lv_iconst (v := 1) hx hb dL_begin_25 (by decide) ?_
  refine lv_icmp_ne (tgt := 63) hx hb dL_begin_26 (by decide) (fun c_2 => absurd (by decide) c_2) (fun c_2 => ?_)
  refine lv_aload_n hx hb dL_begin_29 rfl (lv_at hl 1 rfl) ?_
  refine lv_iconst (v := 0) hx hb dL_begin_30 (by decide) ?_
  refine lv_bipush (v := 48) hx hb dL_begin_31 (by decide) ?_
  refine lv_iconst (v := 0) hx hb dL_begin_33 (by decide) ?_
  refine lv_iconst (v := 0) hx hb dL_begin_34 (by decide) ?_
  refine lv_iconst (v := 0) hx hb dL_begin_35 (by decide) ?_
  refine l_call (X := 1) (K := 2) (CC := 40) (As := [.ref (gad Γ 475), .int 0, .int 48, .int 0, .int 0, .int 0]) (rest := []) (st1 := [.int (nI 2)]) hF (q_put (l := l) (Γ := Γ) (N := N) (Hy := Hy) (k := k) (sl := sl) (t := 1) (T := Tx n x) (c := 48) (by omega) rfl (by omega) rfl) (va_cwS 6 hts qL_call rfl rfl rfl (by decide +kernel) ⟨Nat.le_of_ble_eq_true rfl, Nat.le_of_ble_eq_true rfl⟩) hK hZ hX hY hG hS rfl hl.1 (Nat.le_of_ble_eq_true rfl) dL_begin_36 ⟨Nat.le_of_ble_eq_true rfl, Nat.le_of_ble_eq_true rfl⟩ (by omega) (by omega) rfl rfl (fun H locs hG hS => ?_)
  refine lv_iconst (v := 2) hx hb dL_begin_39 (by decide) ?_
  refine lv_icmp_ne (tgt := 63) hx hb dL_begin_40 (by decide) (fun c_3 => absurd rfl c_3) (fun c_3 => ?_)
  refine lv_aload_n hx hb dL_begin_43 rfl (lv_at hl 1 rfl) ?_
  refine lv_iconst (v := 0) hx hb dL_begin_44 (by decide) ?_
  refine lv_bipush (v := 48) hx hb dL_begin_45 (by decide) ?_
  refine lv_iload_n hx hb dL_begin_47 rfl (lv_at hl 0 rfl) ?_
  refine lv_iadd hx hb dL_begin_48 ?_
  refine g_top (show _ = nI (48 + n) from nI_add _ _) ?_
  refine lv_iconst (v := 0) hx hb dL_begin_49 (by decide) ?_
  refine lv_iconst (v := 0) hx hb dL_begin_50 (by decide) ?_
  refine lv_iconst (v := 0) hx hb dL_begin_51 (by decide) ?_
  refine l_call (X := 2) (K := 3) (CC := 40) (As := [.ref (gad Γ 475), .int 0, .int (nI (48 + n)), .int 0, .int 0, .int 0]) (rest := []) (st1 := [.int (nI 3)]) hF (q_put (l := l) (Γ := Γ) (N := N) (Hy := Hy) (k := k) (sl := sl) (t := 2) (T := Tx n x) (c := (48 + n)) (by omega) rfl (by omega) rfl) (va_cwS 6 hts qL_call rfl rfl rfl (by decide +kernel) ⟨Nat.le_of_ble_eq_true rfl, Nat.le_of_ble_eq_true rfl⟩) hK hZ hX hY hG hS rfl hl.1 (Nat.le_of_ble_eq_true rfl) dL_begin_52 ⟨Nat.le_of_ble_eq_true rfl, Nat.le_of_ble_eq_true rfl⟩ (by omega) (by omega) rfl rfl (fun H locs hG hS => ?_)
  refine lv_iconst (v := 3) hx hb dL_begin_55 (by decide) ?_
  refine lv_icmp_ne (tgt := 63) hx hb dL_begin_56 (by decide) (fun c_4 => absurd rfl c_4) (fun c_4 => ?_)
  refine lv_iconst (v := 1) hx hb dL_begin_59 (by decide) ?_
  refine lv_goto (tgt := 64) hx hb dL_begin_60 (by decide) ?_
  refine lv_istore_n (lv' := [(3, .int 1), (2, .int (nI n)), (0, .ref (gad Γ 475)), (1, .int (nI x))]) hx hb dL_begin_64 rfl hl (by decide) rfl (fun ls hl => ?_)
  refine lv_iconst (v := 0) hx hb dL_begin_65 (by decide) ?_
  refine lv_istore (lv' := [(4, .int 0), (3, .int 1), (2, .int (nI n)), (0, .ref (gad Γ 475)), (1, .int (nI x))]) hx hb dL_begin_66 hl (by decide) rfl (fun ls hl => ?_)
  refine loopN (n) (3) 1 (fun j H locs ls => (SH Γ N Hy k (sl, j + 3, Tx n x)) H ∧ va_S (gA Γ) s.heap H locs ∧ lv_has ls 5 [(4, .int (nI j)), (0, .ref (gad Γ 475)), (1, .int (nI x)), (2, .int (nI n)), (3, .int 1)]) 68 (fun j hj H locs ls hInv next => ?_) (fun H locs ls hInv => ?_) (n) 0 (Nat.zero_add _) _ _ _ ⟨hG, hS, lv_sub hl [0, 3, 4, 2, 1] rfl⟩
  · --turn
    obtain ⟨hG, hS, hl⟩ := hInv
    refine lv_iload hx hb dL_begin_68 (lv_at hl 0 rfl) ?_
    refine lv_iload_n hx hb dL_begin_70 rfl (lv_at hl 3 rfl) ?_
    refine lv_icmp_ge (tgt := 124) hx hb dL_begin_71 (by decide) (fun c_5 => absurd c_5 (Int32.not_le.mpr (nI_lt hj (by omega)))) (fun c_5 => ?_)
    refine lv_iload_n hx hb dL_begin_74 rfl (lv_at hl 4 rfl) ?_
    refine lv_if_eq (tgt := 124) hx hb dL_begin_75 (by decide) (fun c_6 => absurd c_6 (by decide)) (fun c_6 => ?_)
    refine lv_aload_n hx hb dL_begin_78 rfl (lv_at hl 1 rfl) ?_
    refine l_pos (X := 3 + 1 * j) (rest := []) (st1 := [.int (nI (j + 3))]) (v := nI (j + 3)) (N := N) (Hy := Hy) (k := k) (w := (sl, j + 3, Tx n x)) hF (by have h := rd_S (x := x) hn hj; rwa [Nat.add_comm 3 j] at h) (cwV 0 hts qL_errorPosition rfl rfl rfl (by decide +kernel) ⟨Nat.le_of_ble_eq_true rfl, Nat.le_of_ble_eq_true rfl⟩) hK hZ hG hS hl.1 (Nat.le_of_ble_eq_true rfl) dL_begin_79 ⟨by show 3 + 1 * j ≤ 40; omega, by show 6 * (3 + 1 * j) ≤ 240; omega⟩ rfl rfl (fun H locs hG hS => ?_)
    refine lv_iconst (v := 3) hx hb dL_begin_82 (by decide) ?_
    refine lv_iload hx hb dL_begin_83 (lv_at hl 0 rfl) ?_
    refine lv_iadd hx hb dL_begin_85 ?_
    refine g_top (show _ = nI (3 + j) from nI_add _ _) ?_
    refine lv_icmp_ne (tgt := 116) hx hb dL_begin_86 (by decide) (fun c_7 => absurd (congrArg nI (show j + 3 = 3 + j by omega)) c_7) (fun c_7 => ?_)
    refine lv_aload_n hx hb dL_begin_89 rfl (lv_at hl 1 rfl) ?_
    refine lv_iconst (v := 0) hx hb dL_begin_90 (by decide) ?_
    refine lv_bipush (v := 48) hx hb dL_begin_91 (by decide) ?_
    refine lv_iload_n hx hb dL_begin_93 rfl (lv_at hl 2 rfl) ?_
    refine lv_bipush (v := 16) hx hb dL_begin_94 (by decide) ?_
    refine lv_iload hx hb dL_begin_96 (lv_at hl 0 rfl) ?_
    refine lv_iadd hx hb dL_begin_98 ?_
    refine g_top (show _ = nI (16 + j) from nI_add _ _) ?_
    refine lv_idiv hx hb dL_begin_99 (fun e => absurd ((nI_eq (a := 16 + j) (b := 0) (by omega) (by decide)).mp e) (by omega)) ?_
    refine g_top (y := nI (x / (16 + j))) (pk_div (a := x) (d := (16 + j)) (by omega) (by omega) (by omega)) ?_
    refine lv_iconst (v := 3) hx hb dL_begin_100 (by decide) ?_
    refine lv_irem hx hb dL_begin_101 (by decide) ?_
    refine g_top (y := nI ((x / (16 + j)) % 3)) (pk_rem (a := (x / (16 + j))) (d := 3) (Nat.lt_of_le_of_lt (Nat.div_le_self _ _) hx0) (by decide) (by decide)) ?_
    refine lv_iadd hx hb dL_begin_102 ?_
    refine g_top (show _ = nI (48 + ((x / (16 + j)) % 3)) from nI_add _ _) ?_
    refine lv_iconst (v := 0) hx hb dL_begin_103 (by decide) ?_
    refine lv_iconst (v := 0) hx hb dL_begin_104 (by decide) ?_
    refine lv_iconst (v := 0) hx hb dL_begin_105 (by decide) ?_
    refine l_call (X := 3 + 1 * j) (K := 4 + 1 * j) (CC := 40) (As := [.ref (gad Γ 475), .int 0, .int (nI (48 + ((x / (16 + j)) % 3))), .int 0, .int 0, .int 0]) (rest := []) (st1 := [.int (nI (j + 3 + 1))]) hF (q_put (l := l) (Γ := Γ) (N := N) (Hy := Hy) (k := k) (sl := sl) (t := j + 3) (T := Tx n x) (c := (48 + ((x / (16 + j)) % 3))) (by omega) rfl (by omega) ((congrArg (Tx n x) (show j + 3 = 3 + j by omega)).trans (tx_s hj))) (va_cwS 6 hts qL_call rfl rfl rfl (by decide +kernel) ⟨Nat.le_of_ble_eq_true rfl, Nat.le_of_ble_eq_true rfl⟩) hK hZ hX hY hG hS rfl hl.1 (Nat.le_of_ble_eq_true rfl) dL_begin_106 ⟨Nat.le_of_ble_eq_true rfl, Nat.le_of_ble_eq_true rfl⟩ (by omega) (by omega) rfl rfl (fun H locs hG hS => ?_)
    refine lv_if_le (tgt := 116) hx hb dL_begin_109 (by decide) (fun c_8 => absurd c_8 (put_pos (by omega))) (fun c_8 => ?_)
    refine lv_iconst (v := 1) hx hb dL_begin_112 (by decide) ?_
    refine lv_goto (tgt := 117) hx hb dL_begin_113 (by decide) ?_
    refine lv_istore_n (lv' := [(3, .int 1), (4, .int (nI j)), (0, .ref (gad Γ 475)), (1, .int (nI x)), (2, .int (nI n))]) hx hb dL_begin_117 rfl hl (by decide) rfl (fun ls hl => ?_)
    refine lv_iinc (v := nI (j + 1)) (lv' := [(4, .int (nI (j + 1))), (3, .int 1), (0, .ref (gad Γ 475)), (1, .int (nI x)), (2, .int (nI n))]) hx hb dL_begin_118 hl (k := 1) rfl (nI_1 _) (by decide) rfl (fun ls hl => ?_)
    refine lv_goto (tgt := 68) hx hb dL_begin_121 (by decide) ?_
    refine W.widen (k := 3 + 1 * (j + 1)) (n := 6 * (3 + 1 * (j + 1))) (by omega) (by omega) (next _ _ _ ⟨hG, hS, lv_sub hl [0, 2, 3, 4, 1] rfl⟩)
  · --out
    obtain ⟨hG, hS, hl⟩ := hInv
    refine W.widen (k := 12) (n := 6 * (12)) (by omega) (by omega) ?_
    refine lv_iload hx hb dL_begin_68 (lv_at hl 0 rfl) ?_
    refine lv_iload_n hx hb dL_begin_70 rfl (lv_at hl 3 rfl) ?_
    refine lv_icmp_ge (tgt := 124) hx hb dL_begin_71 (by decide) (fun c_9 => ?_) (fun c_9 => absurd (Int32.le_refl _) c_9)
    refine lv_iconst (v := 0) hx hb dL_begin_124 (by decide) ?_
    refine lv_istore (lv' := [(4, .int 0), (0, .ref (gad Γ 475)), (1, .int (nI x)), (2, .int (nI n)), (3, .int 1)]) hx hb dL_begin_125 hl (by decide) rfl (fun ls hl => ?_)
    refine loopN (3) (12) 3 (fun j H locs ls => (SH Γ N Hy k (sl, n + 3 + 3 * j, Tx n x)) H ∧ va_S (gA Γ) s.heap H locs ∧ lv_has ls 5 [(4, .int (nI j)), (0, .ref (gad Γ 475)), (1, .int (nI x)), (2, .int (nI n)), (3, .int 1)]) 127 (fun j hj H locs ls hInv next => ?_) (fun H locs ls hInv => ?_) (3) 0 (Nat.zero_add _) _ _ _ ⟨hG, hS, lv_sub hl [0, 1, 2, 3, 4] rfl⟩
    · --turn
      obtain ⟨hG, hS, hl⟩ := hInv
      refine lv_iload hx hb dL_begin_127 (lv_at hl 0 rfl) ?_
      refine lv_iconst (v := 3) hx hb dL_begin_129 (by decide) ?_
      refine lv_icmp_ge (tgt := 219) hx hb dL_begin_130 (by decide) (fun c_10 => absurd c_10 (Int32.not_le.mpr (nI_lt (a := j) (b := 3) hj (by decide)))) (fun c_10 => ?_)
      refine lv_iload_n hx hb dL_begin_133 rfl (lv_at hl 4 rfl) ?_
      refine lv_if_eq (tgt := 219) hx hb dL_begin_134 (by decide) (fun c_11 => absurd c_11 (by decide)) (fun c_11 => ?_)
      refine lv_aload_n hx hb dL_begin_137 rfl (lv_at hl 1 rfl) ?_
      refine lv_iconst (v := 0) hx hb dL_begin_138 (by decide) ?_
      refine lv_bipush (v := 104) hx hb dL_begin_139 (by decide) ?_
      refine lv_iconst (v := 0) hx hb dL_begin_141 (by decide) ?_
      refine lv_iconst (v := 0) hx hb dL_begin_142 (by decide) ?_
      refine lv_iconst (v := 0) hx hb dL_begin_143 (by decide) ?_
      refine l_call (X := 12 + 3 * j) (K := 13 + 3 * j) (CC := 40) (As := [.ref (gad Γ 475), .int 0, .int 104, .int 0, .int 0, .int 0]) (rest := []) (st1 := [.int (nI (n + 3 + 3 * j + 1))]) hF (q_put (l := l) (Γ := Γ) (N := N) (Hy := Hy) (k := k) (sl := sl) (t := n + 3 + 3 * j) (T := Tx n x) (c := 104) (by omega) rfl (by omega) ((congrArg (Tx n x) (show n + 3 + 3 * j = 3 + n + 3 * j by omega)).trans (tx_h0 hj))) (va_cwS 6 hts qL_call rfl rfl rfl (by decide +kernel) ⟨Nat.le_of_ble_eq_true rfl, Nat.le_of_ble_eq_true rfl⟩) hK hZ hX hY hG hS rfl hl.1 (Nat.le_of_ble_eq_true rfl) dL_begin_144 ⟨Nat.le_of_ble_eq_true rfl, Nat.le_of_ble_eq_true rfl⟩ (by omega) (by omega) rfl rfl (fun H locs hG hS => ?_)
      refine lv_if_le (tgt := 211) hx hb dL_begin_147 (by decide) (fun c_12 => absurd c_12 (put_pos (by omega))) (fun c_12 => ?_)
      refine lv_aload_n hx hb dL_begin_150 rfl (lv_at hl 1 rfl) ?_
      refine lv_iconst (v := 0) hx hb dL_begin_151 (by decide) ?_
      refine lv_bipush (v := 48) hx hb dL_begin_152 (by decide) ?_
      refine lv_iload_n hx hb dL_begin_154 rfl (lv_at hl 2 rfl) ?_
      refine lv_sipush (v := 128) hx hb dL_begin_155 (by decide) ?_
      refine lv_iload hx hb dL_begin_158 (lv_at hl 0 rfl) ?_
      refine lv_iadd hx hb dL_begin_160 ?_
      refine g_top (show _ = nI (128 + j) from nI_add _ _) ?_
      refine lv_idiv hx hb dL_begin_161 (fun e => absurd ((nI_eq (a := 128 + j) (b := 0) (by omega) (by decide)).mp e) (by omega)) ?_
      refine g_top (y := nI (x / (128 + j))) (pk_div (a := x) (d := (128 + j)) (by omega) (by omega) (by omega)) ?_
      refine lv_iload_n hx hb dL_begin_162 rfl (lv_at hl 3 rfl) ?_
      refine lv_irem hx hb dL_begin_163 (fun e => absurd ((nI_eq (a := n) (b := 0) (by omega) (by decide)).mp e) (by omega)) ?_
      refine g_top (y := nI ((x / (128 + j)) % n)) (pk_rem (a := (x / (128 + j))) (d := n) (Nat.lt_of_le_of_lt (Nat.div_le_self _ _) hx0) (by omega) (by omega)) ?_
      refine lv_iadd hx hb dL_begin_164 ?_
      refine g_top (show _ = nI (48 + ((x / (128 + j)) % n)) from nI_add _ _) ?_
      refine lv_iconst (v := 0) hx hb dL_begin_165 (by decide) ?_
      refine lv_iconst (v := 0) hx hb dL_begin_166 (by decide) ?_
      refine lv_iconst (v := 0) hx hb dL_begin_167 (by decide) ?_
      refine l_call (X := 13 + 3 * j) (K := 14 + 3 * j) (CC := 40) (As := [.ref (gad Γ 475), .int 0, .int (nI (48 + ((x / (128 + j)) % n))), .int 0, .int 0, .int 0]) (rest := []) (st1 := [.int (nI (n + 3 + 3 * j + 1 + 1))]) hF (q_put (l := l) (Γ := Γ) (N := N) (Hy := Hy) (k := k) (sl := sl) (t := n + 3 + 3 * j + 1) (T := Tx n x) (c := (48 + ((x / (128 + j)) % n))) (by omega) rfl (by have := Nat.mod_lt (x / (128 + j)) (show n > 0 by omega); omega) ((congrArg (Tx n x) (show n + 3 + 3 * j + 1 = 3 + n + 3 * j + 1 by omega)).trans (tx_h1 hj))) (va_cwS 6 hts qL_call rfl rfl rfl (by decide +kernel) ⟨Nat.le_of_ble_eq_true rfl, Nat.le_of_ble_eq_true rfl⟩) hK hZ hX hY hG hS rfl hl.1 (Nat.le_of_ble_eq_true rfl) dL_begin_168 ⟨Nat.le_of_ble_eq_true rfl, Nat.le_of_ble_eq_true rfl⟩ (by omega) (by omega) rfl rfl (fun H locs hG hS => ?_)
      refine lv_if_le (tgt := 211) hx hb dL_begin_171 (by decide) (fun c_13 => absurd c_13 (put_pos (by omega))) (fun c_13 => ?_)
      refine lv_aload_n hx hb dL_begin_174 rfl (lv_at hl 1 rfl) ?_
      refine lv_iconst (v := 0) hx hb dL_begin_175 (by decide) ?_
      refine lv_bipush (v := 48) hx hb dL_begin_176 (by decide) ?_
      refine lv_iload_n hx hb dL_begin_178 rfl (lv_at hl 2 rfl) ?_
      refine lv_bipush (v := 64) hx hb dL_begin_179 (by decide) ?_
      refine lv_iload hx hb dL_begin_181 (lv_at hl 0 rfl) ?_
      refine lv_iadd hx hb dL_begin_183 ?_
      refine g_top (show _ = nI (64 + j) from nI_add _ _) ?_
      refine lv_idiv hx hb dL_begin_184 (fun e => absurd ((nI_eq (a := 64 + j) (b := 0) (by omega) (by decide)).mp e) (by omega)) ?_
      refine g_top (y := nI (x / (64 + j))) (pk_div (a := x) (d := (64 + j)) (by omega) (by omega) (by omega)) ?_
      refine lv_bipush (v := 10) hx hb dL_begin_185 (by decide) ?_
      refine lv_irem hx hb dL_begin_187 (by decide) ?_
      refine g_top (y := nI ((x / (64 + j)) % 10)) (pk_rem (a := (x / (64 + j))) (d := 10) (Nat.lt_of_le_of_lt (Nat.div_le_self _ _) hx0) (by decide) (by decide)) ?_
      refine lv_iadd hx hb dL_begin_188 ?_
      refine g_top (show _ = nI (48 + ((x / (64 + j)) % 10)) from nI_add _ _) ?_
      refine lv_iconst (v := 0) hx hb dL_begin_189 (by decide) ?_
      refine lv_iconst (v := 0) hx hb dL_begin_190 (by decide) ?_
      refine lv_iconst (v := 0) hx hb dL_begin_191 (by decide) ?_
      refine l_call (X := 14 + 3 * j) (K := 15 + 3 * j) (CC := 40) (As := [.ref (gad Γ 475), .int 0, .int (nI (48 + ((x / (64 + j)) % 10))), .int 0, .int 0, .int 0]) (rest := []) (st1 := [.int (nI (n + 3 + 3 * j + 1 + 1 + 1))]) hF (q_put (l := l) (Γ := Γ) (N := N) (Hy := Hy) (k := k) (sl := sl) (t := n + 3 + 3 * j + 1 + 1) (T := Tx n x) (c := (48 + ((x / (64 + j)) % 10))) (by omega) rfl (by omega) ((congrArg (Tx n x) (show n + 3 + 3 * j + 1 + 1 = 3 + n + 3 * j + 1 + 1 by omega)).trans (tx_h2 hj))) (va_cwS 6 hts qL_call rfl rfl rfl (by decide +kernel) ⟨Nat.le_of_ble_eq_true rfl, Nat.le_of_ble_eq_true rfl⟩) hK hZ hX hY hG hS rfl hl.1 (Nat.le_of_ble_eq_true rfl) dL_begin_192 ⟨Nat.le_of_ble_eq_true rfl, Nat.le_of_ble_eq_true rfl⟩ (by omega) (by omega) rfl rfl (fun H locs hG hS => ?_)
      refine lv_if_le (tgt := 211) hx hb dL_begin_195 (by decide) (fun c_14 => absurd c_14 (put_pos (by omega))) (fun c_14 => ?_)
      refine lv_aload_n hx hb dL_begin_198 rfl (lv_at hl 1 rfl) ?_
      refine l_pos (X := 15 + 3 * j) (rest := []) (st1 := [.int (-9)]) (v := (-9)) (N := N) (Hy := Hy) (k := k) (w := (sl, n + 3 + 3 * j + 1 + 1 + 1, Tx n x)) hF (by have h := rd_P (x := x) hn (k := j + 1) (by omega); rwa [show pK n (j + 1) = n + 3 + 3 * j + 1 + 1 + 1 by unfold pK; split <;> omega] at h) (cwV 0 hts qL_errorPosition rfl rfl rfl (by decide +kernel) ⟨Nat.le_of_ble_eq_true rfl, Nat.le_of_ble_eq_true rfl⟩) hK hZ hG hS hl.1 (Nat.le_of_ble_eq_true rfl) dL_begin_199 ⟨by show 15 + 3 * j ≤ 40; omega, by show 6 * (15 + 3 * j) ≤ 240; omega⟩ rfl rfl (fun H locs hG hS => ?_)
      refine lv_bipush (v := (-9)) hx hb dL_begin_202 (by decide) ?_
      refine lv_icmp_ne (tgt := 211) hx hb dL_begin_204 (by decide) (fun c_15 => absurd (by decide) c_15) (fun c_15 => ?_)
      refine lv_iconst (v := 1) hx hb dL_begin_207 (by decide) ?_
      refine lv_goto (tgt := 212) hx hb dL_begin_208 (by decide) ?_
      refine lv_istore_n (lv' := [(3, .int 1), (4, .int (nI j)), (0, .ref (gad Γ 475)), (1, .int (nI x)), (2, .int (nI n))]) hx hb dL_begin_212 rfl hl (by decide) rfl (fun ls hl => ?_)
      refine lv_iinc (v := nI (j + 1)) (lv' := [(4, .int (nI (j + 1))), (3, .int 1), (0, .ref (gad Γ 475)), (1, .int (nI x)), (2, .int (nI n))]) hx hb dL_begin_213 hl (k := 1) rfl (nI_1 _) (by decide) rfl (fun ls hl => ?_)
      refine lv_goto (tgt := 127) hx hb dL_begin_216 (by decide) ?_
      refine W.widen (k := 12 + 3 * (j + 1)) (n := 6 * (12 + 3 * (j + 1))) (by omega) (by omega) (next _ _ _ ⟨hG, hS, lv_sub hl [0, 2, 3, 4, 1] rfl⟩)
    · --out
      obtain ⟨hG, hS, hl⟩ := hInv
      refine W.widen (k := 21) (n := 6 * (21)) (by omega) (by omega) ?_
      refine lv_iload hx hb dL_begin_127 (lv_at hl 0 rfl) ?_
      refine lv_iconst (v := 3) hx hb dL_begin_129 (by decide) ?_
      refine lv_icmp_ge (tgt := 219) hx hb dL_begin_130 (by decide) (fun c_16 => ?_) (fun c_16 => absurd (by decide) c_16)
      refine lv_iconst (v := 0) hx hb dL_begin_219 (by decide) ?_
      refine lv_istore (lv' := [(4, .int 0), (0, .ref (gad Γ 475)), (1, .int (nI x)), (2, .int (nI n)), (3, .int 1)]) hx hb dL_begin_220 hl (by decide) rfl (fun ls hl => ?_)
      refine loopN (2) (21) 2 (fun j H locs ls => (SH Γ N Hy k (sl, n + 12 + 2 * j, Tx n x)) H ∧ va_S (gA Γ) s.heap H locs ∧ lv_has ls 5 [(4, .int (nI j)), (0, .ref (gad Γ 475)), (1, .int (nI x)), (2, .int (nI n)), (3, .int 1)]) 222 (fun j hj H locs ls hInv next => ?_) (fun H locs ls hInv => ?_) (2) 0 (Nat.zero_add _) _ _ _ ⟨hG, hS, lv_sub hl [0, 1, 2, 3, 4] rfl⟩
      · --turn
        obtain ⟨hG, hS, hl⟩ := hInv
        refine lv_iload hx hb dL_begin_222 (lv_at hl 0 rfl) ?_
        refine lv_iconst (v := 2) hx hb dL_begin_224 (by decide) ?_
        refine lv_icmp_ge (tgt := 290) hx hb dL_begin_225 (by decide) (fun c_17 => absurd c_17 (Int32.not_le.mpr (nI_lt (a := j) (b := 2) hj (by decide)))) (fun c_17 => ?_)
        refine lv_iload_n hx hb dL_begin_228 rfl (lv_at hl 4 rfl) ?_
        refine lv_if_eq (tgt := 290) hx hb dL_begin_229 (by decide) (fun c_18 => absurd c_18 (by decide)) (fun c_18 => ?_)
        refine lv_aload_n hx hb dL_begin_232 rfl (lv_at hl 1 rfl) ?_
        refine lv_iconst (v := 0) hx hb dL_begin_233 (by decide) ?_
        refine lv_bipush (v := 119) hx hb dL_begin_234 (by decide) ?_
        refine lv_iconst (v := 0) hx hb dL_begin_236 (by decide) ?_
        refine lv_iconst (v := 0) hx hb dL_begin_237 (by decide) ?_
        refine lv_iconst (v := 0) hx hb dL_begin_238 (by decide) ?_
        refine l_call (X := 21 + 2 * j) (K := 22 + 2 * j) (CC := 40) (As := [.ref (gad Γ 475), .int 0, .int 119, .int 0, .int 0, .int 0]) (rest := []) (st1 := [.int (nI (n + 12 + 2 * j + 1))]) hF (q_put (l := l) (Γ := Γ) (N := N) (Hy := Hy) (k := k) (sl := sl) (t := n + 12 + 2 * j) (T := Tx n x) (c := 119) (by omega) rfl (by omega) ((congrArg (Tx n x) (show n + 12 + 2 * j = 12 + n + 2 * j by omega)).trans tx_w0)) (va_cwS 6 hts qL_call rfl rfl rfl (by decide +kernel) ⟨Nat.le_of_ble_eq_true rfl, Nat.le_of_ble_eq_true rfl⟩) hK hZ hX hY hG hS rfl hl.1 (Nat.le_of_ble_eq_true rfl) dL_begin_239 ⟨Nat.le_of_ble_eq_true rfl, Nat.le_of_ble_eq_true rfl⟩ (by omega) (by omega) rfl rfl (fun H locs hG hS => ?_)
        refine lv_if_le (tgt := 282) hx hb dL_begin_242 (by decide) (fun c_19 => absurd c_19 (put_pos (by omega))) (fun c_19 => ?_)
        refine lv_aload_n hx hb dL_begin_245 rfl (lv_at hl 1 rfl) ?_
        refine lv_iconst (v := 0) hx hb dL_begin_246 (by decide) ?_
        refine lv_bipush (v := 48) hx hb dL_begin_247 (by decide) ?_
        refine lv_iload_n hx hb dL_begin_249 rfl (lv_at hl 2 rfl) ?_
        refine lv_sipush (v := 512) hx hb dL_begin_250 (by decide) ?_
        refine lv_iload hx hb dL_begin_253 (lv_at hl 0 rfl) ?_
        refine lv_iadd hx hb dL_begin_255 ?_
        refine g_top (show _ = nI (512 + j) from nI_add _ _) ?_
        refine lv_idiv hx hb dL_begin_256 (fun e => absurd ((nI_eq (a := 512 + j) (b := 0) (by omega) (by decide)).mp e) (by omega)) ?_
        refine g_top (y := nI (x / (512 + j))) (pk_div (a := x) (d := (512 + j)) (by omega) (by omega) (by omega)) ?_
        refine lv_iload_n hx hb dL_begin_257 rfl (lv_at hl 3 rfl) ?_
        refine lv_irem hx hb dL_begin_258 (fun e => absurd ((nI_eq (a := n) (b := 0) (by omega) (by decide)).mp e) (by omega)) ?_
        refine g_top (y := nI ((x / (512 + j)) % n)) (pk_rem (a := (x / (512 + j))) (d := n) (Nat.lt_of_le_of_lt (Nat.div_le_self _ _) hx0) (by omega) (by omega)) ?_
        refine lv_iadd hx hb dL_begin_259 ?_
        refine g_top (show _ = nI (48 + ((x / (512 + j)) % n)) from nI_add _ _) ?_
        refine lv_iconst (v := 0) hx hb dL_begin_260 (by decide) ?_
        refine lv_iconst (v := 0) hx hb dL_begin_261 (by decide) ?_
        refine lv_iconst (v := 0) hx hb dL_begin_262 (by decide) ?_
        refine l_call (X := 22 + 2 * j) (K := 23 + 2 * j) (CC := 40) (As := [.ref (gad Γ 475), .int 0, .int (nI (48 + ((x / (512 + j)) % n))), .int 0, .int 0, .int 0]) (rest := []) (st1 := [.int (nI (n + 12 + 2 * j + 1 + 1))]) hF (q_put (l := l) (Γ := Γ) (N := N) (Hy := Hy) (k := k) (sl := sl) (t := n + 12 + 2 * j + 1) (T := Tx n x) (c := (48 + ((x / (512 + j)) % n))) (by omega) rfl (by have := Nat.mod_lt (x / (512 + j)) (show n > 0 by omega); omega) ((congrArg (Tx n x) (show n + 12 + 2 * j + 1 = 12 + n + 2 * j + 1 by omega)).trans tx_w1)) (va_cwS 6 hts qL_call rfl rfl rfl (by decide +kernel) ⟨Nat.le_of_ble_eq_true rfl, Nat.le_of_ble_eq_true rfl⟩) hK hZ hX hY hG hS rfl hl.1 (Nat.le_of_ble_eq_true rfl) dL_begin_263 ⟨Nat.le_of_ble_eq_true rfl, Nat.le_of_ble_eq_true rfl⟩ (by omega) (by omega) rfl rfl (fun H locs hG hS => ?_)
        refine lv_if_le (tgt := 282) hx hb dL_begin_266 (by decide) (fun c_20 => absurd c_20 (put_pos (by omega))) (fun c_20 => ?_)
        refine lv_aload_n hx hb dL_begin_269 rfl (lv_at hl 1 rfl) ?_
        refine l_pos (X := 23 + 2 * j) (rest := []) (st1 := [.int (-9)]) (v := (-9)) (N := N) (Hy := Hy) (k := k) (w := (sl, n + 12 + 2 * j + 1 + 1, Tx n x)) hF (by have h := rd_P (x := x) hn (k := j + 4) (by omega); rwa [show pK n (j + 4) = n + 12 + 2 * j + 1 + 1 by unfold pK; split <;> omega] at h) (cwV 0 hts qL_errorPosition rfl rfl rfl (by decide +kernel) ⟨Nat.le_of_ble_eq_true rfl, Nat.le_of_ble_eq_true rfl⟩) hK hZ hG hS hl.1 (Nat.le_of_ble_eq_true rfl) dL_begin_270 ⟨by show 23 + 2 * j ≤ 40; omega, by show 6 * (23 + 2 * j) ≤ 240; omega⟩ rfl rfl (fun H locs hG hS => ?_)
        refine lv_bipush (v := (-9)) hx hb dL_begin_273 (by decide) ?_
        refine lv_icmp_ne (tgt := 282) hx hb dL_begin_275 (by decide) (fun c_21 => absurd (by decide) c_21) (fun c_21 => ?_)
        refine lv_iconst (v := 1) hx hb dL_begin_278 (by decide) ?_
        refine lv_goto (tgt := 283) hx hb dL_begin_279 (by decide) ?_
        refine lv_istore_n (lv' := [(3, .int 1), (4, .int (nI j)), (0, .ref (gad Γ 475)), (1, .int (nI x)), (2, .int (nI n))]) hx hb dL_begin_283 rfl hl (by decide) rfl (fun ls hl => ?_)
        refine lv_iinc (v := nI (j + 1)) (lv' := [(4, .int (nI (j + 1))), (3, .int 1), (0, .ref (gad Γ 475)), (1, .int (nI x)), (2, .int (nI n))]) hx hb dL_begin_284 hl (k := 1) rfl (nI_1 _) (by decide) rfl (fun ls hl => ?_)
        refine lv_goto (tgt := 222) hx hb dL_begin_287 (by decide) ?_
        refine W.widen (k := 21 + 2 * (j + 1)) (n := 6 * (21 + 2 * (j + 1))) (by omega) (by omega) (next _ _ _ ⟨hG, hS, lv_sub hl [0, 2, 3, 4, 1] rfl⟩)
      · --out
        obtain ⟨hG, hS, hl⟩ := hInv
        refine W.widen (k := 25) (n := 6 * (25)) (by omega) (by omega) ?_
        refine lv_iload hx hb dL_begin_222 (lv_at hl 0 rfl) ?_
        refine lv_iconst (v := 2) hx hb dL_begin_224 (by decide) ?_
        refine lv_icmp_ge (tgt := 290) hx hb dL_begin_225 (by decide) (fun c_22 => ?_) (fun c_22 => absurd (by decide) c_22)
        refine lv_iload_n hx hb dL_begin_290 rfl (lv_at hl 4 rfl) ?_
        refine lv_if_eq (tgt := 311) hx hb dL_begin_291 (by decide) (fun c_23 => absurd c_23 (by decide)) (fun c_23 => ?_)
        refine lv_aload_n hx hb dL_begin_294 rfl (lv_at hl 1 rfl) ?_
        refine lv_iconst (v := 1) hx hb dL_begin_295 (by decide) ?_
        refine lv_iconst (v := 0) hx hb dL_begin_296 (by decide) ?_
        refine lv_iconst (v := 0) hx hb dL_begin_297 (by decide) ?_
        refine lv_iconst (v := 0) hx hb dL_begin_298 (by decide) ?_
        refine lv_iconst (v := 0) hx hb dL_begin_299 (by decide) ?_
        refine l_call (X := 25) (K := 26) (CC := 40) (As := [.ref (gad Γ 475), .int 1, .int 0, .int 0, .int 0, .int 0]) (rest := []) (st1 := [.int (nI n)]) hF (q_load (l := l) (Γ := Γ) (u := 11900) (N := N) (N1 := NPar n x 5) (Hy := Hy) (k := k) (sl := sl) (t := n + 12 + 2 * 2) (T := Tx n x) (np_ok hn).1.1 (np_ok hn).2 (np_load hn)) (va_cwS 6 hts qL_call rfl rfl rfl (by decide +kernel) ⟨Nat.le_of_ble_eq_true rfl, Nat.le_of_ble_eq_true rfl⟩) hK hZ hX hY hG hS rfl hl.1 (Nat.le_of_ble_eq_true rfl) dL_begin_300 ⟨Nat.le_of_ble_eq_true rfl, Nat.le_of_ble_eq_true rfl⟩ (by omega) (by omega) rfl rfl (fun H locs hG hS => ?_)
        refine lv_iload_n hx hb dL_begin_303 rfl (lv_at hl 3 rfl) ?_
        refine lv_icmp_ne (tgt := 311) hx hb dL_begin_304 (by decide) (fun c_24 => absurd rfl c_24) (fun c_24 => ?_)
        refine lv_iconst (v := 1) hx hb dL_begin_307 (by decide) ?_
        refine lv_goto (tgt := 312) hx hb dL_begin_308 (by decide) ?_
        exact l_zret hx hb hrt hlocks hS hG (by decide) rfl (by omega) dL_begin_312
