/-! THE LAW: fills. Laid by gen/r97.py. -/
set_option maxRecDepth 16384
section Fil
variable {u : Nat} {N : Nat → Int32} {i : Nat}
theorem why_cases (N : Nat → Int32) (i : Nat) : (N (122 + 3 * i + 2) = 0 ∧ fX7_why_v N i = 1) ∨ (¬ N (122 + 3 * i + 2) = 0 ∧ ((N (12 + 7 * (N (122 + 3 * i)).toNatClampNeg + 5) = 0 ∧ fX7_why_v N i = 2) ∨ (N (122 + 3 * i + 1) = 20 ∧ fX7_why_v N i = 3) ∨ (¬ N 9 < N 8 ∧ fX7_why_v N i = 4) ∨ fX7_why_v N i = 0)) := by
  unfold fX7_why_v
  by_cases c1 : N (122 + 3 * i + 2) = 0
  · exact Or.inl ⟨c1, if_pos c1⟩
  refine Or.inr ⟨c1, ?_⟩
  rw [if_neg c1]
  by_cases c2 : N (12 + 7 * (N (122 + 3 * i)).toNatClampNeg + 5) = 0
  · exact Or.inl ⟨c2, if_pos c2⟩
  rw [if_neg c2]
  by_cases c3 : N (122 + 3 * i + 1) = 20
  · exact Or.inr (Or.inl ⟨c3, if_pos c3⟩)
  rw [if_neg c3]
  by_cases c4 : N 9 < N 8
  · exact Or.inr (Or.inr (Or.inr (if_pos c4)))
  · exact Or.inr (Or.inr (Or.inl ⟨c4, if_neg c4⟩))
theorem fi_at (N : Nat → Int32) (i : Nat) (x : Int32) : fiS N i x (122 + 3 * i + 1) = N (122 + 3 * i + 1) + x ∧ fiS N i x (122 + 3 * i + 2) = N (122 + 3 * i + 2) - 1 ∧ fiS N i x 9 = N 9 + x ∧ fiS N i x 8 = N 8 := by
  unfold fiS
  refine ⟨?_, ?_, ?_, ?_⟩ <;> simp (disch := omega) only [pk_us, pk_un]
/-- a tank is filled as far as it may be -/
theorem fi_all (hN : PI u N) (hi : i < (N 2).toNatClampNeg) (hy : fX7_why_v N i = 0) : PI u (fiS N i (fX7_fillOn_v N i)) ∧ ¬ fX7_fillOn_v N i ≤ 0 ∧ ¬ N 8 < N 9 + fX7_fillOn_v N i ∧ (¬ N (122 + 3 * i + 1) + fX7_fillOn_v N i = 20 → N 9 + fX7_fillOn_v N i = N 8) := by
  have b2 := hN.w3.2
  have i3 : i < 3 := by omega
  obtain ⟨-, p, -, -⟩ := fiS_Rl (P := N) (fun _ _ => rfl) hN hi hy
  obtain ⟨-, hl, h9⟩ := why0 hN i3 hy
  refine ⟨p, ?_⟩
  obtain ⟨a, ha, ea, -⟩ := (hN.n0 9 99 (by omega) rfl).ex
  obtain ⟨b, hb, eb, -⟩ := (hN.n0 8 99 (by omega) rfl).ex
  obtain ⟨l, hl2, el, -⟩ := (hN.nw i3 1 20 (by omega) rfl rfl).ex
  have l20 : l < 20 := by
    rcases Nat.lt_or_ge l 20 with q | q
    · exact q
    · exact absurd (by rw [el, show l = 20 by omega]; rfl) hl
  rw [ea, eb, nI_ltI (by omega) (by omega)] at h9
  have ex : fX7_fillOn_v N i = nI (if b - a < 20 - l then b - a else 20 - l) := by
    rw [fillOn_v_eq, ea, eb, el, pk_sub (by omega), show (20 : Int32) = nI 20 from rfl, pk_sub (by omega)]
    by_cases q : b - a < 20 - l
    · rw [if_pos q, if_pos (nI_lt q (by omega))]
    · rw [if_neg q, if_neg (nI_nlt (by omega) (by omega))]
  rw [ex, ea, eb, el, nI_add, nI_add]
  generalize hx : (if b - a < 20 - l then b - a else 20 - l) = x
  have hx2 : (b - a < 20 - l → x = b - a) ∧ (¬ b - a < 20 - l → x = 20 - l) := by
    subst hx
    exact ⟨fun q => if_pos q, fun q => if_neg q⟩
  refine ⟨nI_ge (a := 0) (b := x) (by omega) (by omega), nI_nlt (by omega) (by omega), fun q => congrArg nI ?_⟩
  rcases Nat.lt_or_ge (b - a) (20 - l) with z | z
  · have := hx2.1 z; omega
  · exfalso
    apply q
    rw [show l + x = 20 by have := hx2.2 (by omega); omega]
    rfl
end Fil
set_option maxHeartbeats 4000000 in
set_option maxRecDepth 100000 in
theorem L_fills_1 {l : Launch} {Γ : gX} (hst : l.stackTraces = false) {u : Nat} {N : Nat → Int32} {Hy : Nat → Nat → Int32} {k : Nat} {w : WO} (hN : PI u N) (hu : 1998 * (u + 10000) < 2 ^ 31) (hk : k ≤ 14) {i : Nat} (hi : i < (N 2).toNatClampNeg) (hy : fX7_why_v N i = 1) (hm : N (122 + 3 * i + 2) = 0) : lM l Γ yL_fills wqL_fills 13 296 382 [.ref (gad Γ 475), .int (nI i)] (SH Γ N Hy k w) (some (.int 1)) (SH Γ N Hy k w) := by
  refine l_start (cc := cL_fills) (maxL := 10) (ret := (some .boolean)) (by decide) rfl (Nat.le_of_ble_eq_true rfl) ?_
  intro p e s m below meth c ls hx hb hml hrt hts hown hlocks hK hZ hX hY hG hS hl
  have hl : lv_has ls 10 [(0, .ref (gad Γ 475)), (1, .int (nI i))] := hl
  have hown : s.vm.findClass RL = some m.cls := hown
  have hF : CallFix p m c cL_fills 10 s _ wqL_fills RL := ⟨hx, hb, hml, hown, hts⟩
  have k_1 : (Cond.constant RL 26 (-9999003)).before _ s = true := hts _ (by decide +kernel)
  have hu0 : 1998 * (u + 5000) < 2 ^ 31 := by omega
  refine lv_aload_n hx hb dL_fills_0 rfl (lv_at hl 0 rfl) ?_
  refine l_call (X := 0) (K := 176) (CC := 382) (As := [.ref (gad Γ 475)]) (rest := []) (st1 := [.long (sumF N)]) hF (L_sum (N := N) (Hy := Hy) (k := k) (w := w) hst hN hu0) (va_cwS 1 hts qL_sum rfl rfl rfl (by decide +kernel) ⟨Nat.le_of_ble_eq_true rfl, Nat.le_of_ble_eq_true rfl⟩) hK hZ hX hY hG hS rfl hl.1 (Nat.le_of_ble_eq_true rfl) dL_fills_1 ⟨Nat.le_of_ble_eq_true rfl, Nat.le_of_ble_eq_true rfl⟩ (by omega) (by omega) rfl rfl (fun H locs hG hS => ?_)
  refine lv_lstore_n (lv' := [(2, .long (sumF N)), (0, .ref (gad Γ 475)), (1, .int (nI i))]) hx hb dL_fills_4 rfl hl (by decide) rfl (fun ls hl => ?_)
  refine lv_aload_n hx hb dL_fills_5 rfl (lv_at hl 1 rfl) ?_
  refine lv_bipush (v := 16) hx hb dL_fills_6 (by decide) ?_
  refine lv_iload_n hx hb dL_fills_8 rfl (lv_at hl 2 rfl) ?_
  refine lv_iconst (v := 0) hx hb dL_fills_9 (by decide) ?_
  refine lv_iconst (v := 0) hx hb dL_fills_10 (by decide) ?_
  refine lv_iconst (v := 0) hx hb dL_fills_11 (by decide) ?_
  refine l_call (X := 176) (K := 177) (CC := 382) (As := [.ref (gad Γ 475), .int 16, .int (nI i), .int 0, .int 0, .int 0]) (rest := []) (st1 := [.int (fX7_why_v N i)]) hF (q_why (l := l) (Γ := Γ) (N := N) (Hy := Hy) (k := k) (w := w) hst hN hu0 (a := (nI i)) rfl 0 hi) (va_cwS 6 hts qL_call rfl rfl rfl (by decide +kernel) ⟨Nat.le_of_ble_eq_true rfl, Nat.le_of_ble_eq_true rfl⟩) hK hZ hX hY hG hS rfl hl.1 (Nat.le_of_ble_eq_true rfl) dL_fills_12 ⟨Nat.le_of_ble_eq_true rfl, Nat.le_of_ble_eq_true rfl⟩ (by omega) (by omega) rfl rfl (fun H locs hG hS => ?_)
  refine g_top (y := 1) hy ?_
  refine lv_istore (lv' := [(4, .int 1), (2, .long (sumF N)), (0, .ref (gad Γ 475)), (1, .int (nI i))]) hx hb dL_fills_15 hl (by decide) rfl (fun ls hl => ?_)
  refine lv_aload_n hx hb dL_fills_17 rfl (lv_at hl 2 rfl) ?_
  refine lv_iload_n hx hb dL_fills_18 rfl (lv_at hl 3 rfl) ?_
  refine lv_iconst (v := 1) hx hb dL_fills_19 (by decide) ?_
  refine l_call (X := 177) (K := 178) (CC := 382) (As := [.ref (gad Γ 475), .int (nI i), .int 1]) (rest := []) (st1 := [.int (N (122 + 3 * i + 1))]) hF (r_wagon (N := N) (Hy := Hy) (k := k) (w := w) hst hN hu0 (a := (nI i)) (d := 1) (i := i) (j := 1) rfl rfl hi (by decide)) (va_cwS 3 hts qL_wagon rfl rfl rfl (by decide +kernel) ⟨Nat.le_of_ble_eq_true rfl, Nat.le_of_ble_eq_true rfl⟩) hK hZ hX hY hG hS rfl hl.1 (Nat.le_of_ble_eq_true rfl) dL_fills_20 ⟨Nat.le_of_ble_eq_true rfl, Nat.le_of_ble_eq_true rfl⟩ (by omega) (by omega) rfl rfl (fun H locs hG hS => ?_)
  refine lv_istore (lv' := [(5, .int (N (122 + 3 * i + 1))), (4, .int 1), (2, .long (sumF N)), (0, .ref (gad Γ 475)), (1, .int (nI i))]) hx hb dL_fills_23 hl (by decide) rfl (fun ls hl => ?_)
  refine lv_aload_n hx hb dL_fills_25 rfl (lv_at hl 3 rfl) ?_
  refine lv_iload_n hx hb dL_fills_26 rfl (lv_at hl 4 rfl) ?_
  refine lv_iconst (v := 2) hx hb dL_fills_27 (by decide) ?_
  refine l_call (X := 178) (K := 179) (CC := 382) (As := [.ref (gad Γ 475), .int (nI i), .int 2]) (rest := []) (st1 := [.int (N (122 + 3 * i + 2))]) hF (r_wagon (N := N) (Hy := Hy) (k := k) (w := w) hst hN hu0 (a := (nI i)) (d := 2) (i := i) (j := 2) rfl rfl hi (by decide)) (va_cwS 3 hts qL_wagon rfl rfl rfl (by decide +kernel) ⟨Nat.le_of_ble_eq_true rfl, Nat.le_of_ble_eq_true rfl⟩) hK hZ hX hY hG hS rfl hl.1 (Nat.le_of_ble_eq_true rfl) dL_fills_28 ⟨Nat.le_of_ble_eq_true rfl, Nat.le_of_ble_eq_true rfl⟩ (by omega) (by omega) rfl rfl (fun H locs hG hS => ?_)
  refine lv_istore (lv' := [(6, .int (N (122 + 3 * i + 2))), (5, .int (N (122 + 3 * i + 1))), (4, .int 1), (2, .long (sumF N)), (0, .ref (gad Γ 475)), (1, .int (nI i))]) hx hb dL_fills_31 hl (by decide) rfl (fun ls hl => ?_)
  refine lv_aload_n hx hb dL_fills_33 rfl (lv_at hl 4 rfl) ?_
  refine lv_bipush (v := 9) hx hb dL_fills_34 (by decide) ?_
  refine l_call (X := 179) (K := 180) (CC := 382) (As := [.ref (gad Γ 475), .int 9]) (rest := []) (st1 := [.int (N 9)]) hF (r_about (N := N) (Hy := Hy) (k := k) (w := w) hst hN hu0 (a := 9) (j := 9) rfl (by decide)) (va_cwS 2 hts qL_about rfl rfl rfl (by decide +kernel) ⟨Nat.le_of_ble_eq_true rfl, Nat.le_of_ble_eq_true rfl⟩) hK hZ hX hY hG hS rfl hl.1 (Nat.le_of_ble_eq_true rfl) dL_fills_36 ⟨Nat.le_of_ble_eq_true rfl, Nat.le_of_ble_eq_true rfl⟩ (by omega) (by omega) rfl rfl (fun H locs hG hS => ?_)
  refine lv_istore (lv' := [(7, .int (N 9)), (6, .int (N (122 + 3 * i + 2))), (5, .int (N (122 + 3 * i + 1))), (4, .int 1), (2, .long (sumF N)), (0, .ref (gad Γ 475)), (1, .int (nI i))]) hx hb dL_fills_39 hl (by decide) rfl (fun ls hl => ?_)
  refine lv_iload hx hb dL_fills_41 (lv_at hl 3 rfl) ?_
  refine lv_iconst (v := 1) hx hb dL_fills_43 (by decide) ?_
  refine lv_icmp_ne (tgt := 51) hx hb dL_fills_44 (by decide) (fun c_1 => absurd (by decide) c_1) (fun c_1 => ?_)
  refine lv_iconst (v := 1) hx hb dL_fills_47 (by decide) ?_
  refine lv_goto (tgt := 52) hx hb dL_fills_48 (by decide) ?_
  refine lv_iload hx hb dL_fills_52 (lv_at hl 1 rfl) ?_
  refine lv_if_ne (tgt := 61) hx hb dL_fills_54 (by decide) (fun c_2 => absurd hm c_2) (fun c_2 => ?_)
  refine lv_iconst (v := 1) hx hb dL_fills_57 (by decide) ?_
  refine lv_goto (tgt := 62) hx hb dL_fills_58 (by decide) ?_
  refine lv_icmp_ne (tgt := 119) hx hb dL_fills_62 (by decide) (fun c_3 => absurd (by decide) c_3) (fun c_3 => ?_)
  refine lv_iload hx hb dL_fills_65 (lv_at hl 3 rfl) ?_
  refine lv_iconst (v := 2) hx hb dL_fills_67 (by decide) ?_
  refine lv_icmp_ne (tgt := 85) hx hb dL_fills_68 (by decide) (fun c_4 => ?_) (fun c_4 => absurd c_4 (by decide))
  refine lv_iload hx hb dL_fills_85 (lv_at hl 3 rfl) ?_
  refine lv_iconst (v := 3) hx hb dL_fills_87 (by decide) ?_
  refine lv_icmp_ne (tgt := 98) hx hb dL_fills_88 (by decide) (fun c_5 => ?_) (fun c_5 => absurd c_5 (by decide))
  refine lv_iload hx hb dL_fills_98 (lv_at hl 3 rfl) ?_
  refine lv_iconst (v := 4) hx hb dL_fills_100 (by decide) ?_
  refine lv_icmp_ne (tgt := 115) hx hb dL_fills_101 (by decide) (fun c_6 => ?_) (fun c_6 => absurd c_6 (by decide))
  refine lv_iconst (v := 1) hx hb dL_fills_115 (by decide) ?_
  refine lv_goto (tgt := 120) hx hb dL_fills_116 (by decide) ?_
  refine lv_istore (lv' := [(8, .int 1), (7, .int (N 9)), (6, .int (N (122 + 3 * i + 2))), (5, .int (N (122 + 3 * i + 1))), (4, .int 1), (2, .long (sumF N)), (0, .ref (gad Γ 475)), (1, .int (nI i))]) hx hb dL_fills_120 hl (by decide) rfl (fun ls hl => ?_)
  refine lv_aload_n hx hb dL_fills_122 rfl (lv_at hl 6 rfl) ?_
  refine lv_bipush (v := 13) hx hb dL_fills_123 (by decide) ?_
  refine lv_iload_n hx hb dL_fills_125 rfl (lv_at hl 7 rfl) ?_
  refine lv_iconst (v := 0) hx hb dL_fills_126 (by decide) ?_
  refine lv_iconst (v := 0) hx hb dL_fills_127 (by decide) ?_
  refine lv_iconst (v := 0) hx hb dL_fills_128 (by decide) ?_
  refine l_call (X := 180) (K := 181) (CC := 382) (As := [.ref (gad Γ 475), .int 13, .int (nI i), .int 0, .int 0, .int 0]) (rest := []) (st1 := [.int (-9999003)]) hF (q_fill_no (l := l) (Γ := Γ) (N := N) (Hy := Hy) (k := k) (w := w) hst hN hu0 (a := (nI i)) rfl 0 hi (by rw [hy]; decide)) (va_cwS 6 hts qL_call rfl rfl rfl (by decide +kernel) ⟨Nat.le_of_ble_eq_true rfl, Nat.le_of_ble_eq_true rfl⟩) hK hZ hX hY hG hS rfl hl.1 (Nat.le_of_ble_eq_true rfl) dL_fills_129 ⟨Nat.le_of_ble_eq_true rfl, Nat.le_of_ble_eq_true rfl⟩ (by omega) (by omega) rfl rfl (fun H locs hG hS => ?_)
  refine lv_istore (lv' := [(9, .int (-9999003)), (8, .int 1), (7, .int (N 9)), (6, .int (N (122 + 3 * i + 2))), (5, .int (N (122 + 3 * i + 1))), (4, .int 1), (2, .long (sumF N)), (0, .ref (gad Γ 475)), (1, .int (nI i))]) hx hb dL_fills_132 hl (by decide) rfl (fun ls hl => ?_)
  refine lv_iload hx hb dL_fills_134 (lv_at hl 5 rfl) ?_
  refine lv_if_le (tgt := 166) hx hb dL_fills_136 (by decide) (fun c_7 => absurd c_7 (by decide)) (fun c_7 => ?_)
  refine lv_iload hx hb dL_fills_139 (lv_at hl 1 rfl) ?_
  refine lv_if_eq (tgt := 164) hx hb dL_fills_141 (by decide) (fun c_8 => absurd c_8 (by decide)) (fun c_8 => ?_)
  refine lv_iload hx hb dL_fills_144 (lv_at hl 0 rfl) ?_
  refine lv_ldc hx hb hown k_1 dL_fills_146 ?_
  refine lv_icmp_ne (tgt := 164) hx hb dL_fills_148 (by decide) (fun c_9 => absurd (by decide) c_9) (fun c_9 => ?_)
  refine lv_aload_n hx hb dL_fills_151 rfl (lv_at hl 7 rfl) ?_
  refine l_call (X := 181) (K := 357) (CC := 382) (As := [.ref (gad Γ 475)]) (rest := []) (st1 := [.long (sumF N)]) hF (L_sum (N := N) (Hy := Hy) (k := k) (w := w) hst hN hu0) (va_cwS 1 hts qL_sum rfl rfl rfl (by decide +kernel) ⟨Nat.le_of_ble_eq_true rfl, Nat.le_of_ble_eq_true rfl⟩) hK hZ hX hY hG hS rfl hl.1 (Nat.le_of_ble_eq_true rfl) dL_fills_152 ⟨Nat.le_of_ble_eq_true rfl, Nat.le_of_ble_eq_true rfl⟩ (by omega) (by omega) rfl rfl (fun H locs hG hS => ?_)
  refine lv_lload_n hx hb dL_fills_155 rfl (lv_at hl 6 rfl) ?_
  refine W.lcmp hx hb dL_fills_156 ?_
  refine gl_ne (tgt := 164) hx hb dL_fills_157 (by decide) (fun c_10 => absurd rfl c_10) (fun c_10 => ?_)
  refine lv_iconst (v := 1) hx hb dL_fills_160 (by decide) ?_
  refine lv_goto (tgt := 165) hx hb dL_fills_161 (by decide) ?_
  exact l_zret hx hb hrt hlocks hS hG (by decide) rfl (by omega) dL_fills_165

set_option maxHeartbeats 4000000 in
set_option maxRecDepth 100000 in
theorem L_fills_2 {l : Launch} {Γ : gX} (hst : l.stackTraces = false) {u : Nat} {N : Nat → Int32} {Hy : Nat → Nat → Int32} {k : Nat} {w : WO} (hN : PI u N) (hu : 1998 * (u + 10000) < 2 ^ 31) (hk : k ≤ 14) {i : Nat} (hi : i < (N 2).toNatClampNeg) (hy : fX7_why_v N i = 2) (hm : ¬ N (122 + 3 * i + 2) = 0) {sg : Nat} (hsg : sg < (N 0).toNatClampNeg) (esg : N (122 + 3 * i) = nI sg) (h2 : N (12 + 7 * sg + 5) = 0) : lM l Γ yL_fills wqL_fills 13 296 382 [.ref (gad Γ 475), .int (nI i)] (SH Γ N Hy k w) (some (.int 1)) (SH Γ N Hy k w) := by
  refine l_start (cc := cL_fills) (maxL := 10) (ret := (some .boolean)) (by decide) rfl (Nat.le_of_ble_eq_true rfl) ?_
  intro p e s m below meth c ls hx hb hml hrt hts hown hlocks hK hZ hX hY hG hS hl
  have hl : lv_has ls 10 [(0, .ref (gad Γ 475)), (1, .int (nI i))] := hl
  have hown : s.vm.findClass RL = some m.cls := hown
  have hF : CallFix p m c cL_fills 10 s _ wqL_fills RL := ⟨hx, hb, hml, hown, hts⟩
  have k_1 : (Cond.constant RL 26 (-9999003)).before _ s = true := hts _ (by decide +kernel)
  have hu0 : 1998 * (u + 5000) < 2 ^ 31 := by omega
  refine lv_aload_n hx hb dL_fills_0 rfl (lv_at hl 0 rfl) ?_
  refine l_call (X := 0) (K := 176) (CC := 382) (As := [.ref (gad Γ 475)]) (rest := []) (st1 := [.long (sumF N)]) hF (L_sum (N := N) (Hy := Hy) (k := k) (w := w) hst hN hu0) (va_cwS 1 hts qL_sum rfl rfl rfl (by decide +kernel) ⟨Nat.le_of_ble_eq_true rfl, Nat.le_of_ble_eq_true rfl⟩) hK hZ hX hY hG hS rfl hl.1 (Nat.le_of_ble_eq_true rfl) dL_fills_1 ⟨Nat.le_of_ble_eq_true rfl, Nat.le_of_ble_eq_true rfl⟩ (by omega) (by omega) rfl rfl (fun H locs hG hS => ?_)
  refine lv_lstore_n (lv' := [(2, .long (sumF N)), (0, .ref (gad Γ 475)), (1, .int (nI i))]) hx hb dL_fills_4 rfl hl (by decide) rfl (fun ls hl => ?_)
  refine lv_aload_n hx hb dL_fills_5 rfl (lv_at hl 1 rfl) ?_
  refine lv_bipush (v := 16) hx hb dL_fills_6 (by decide) ?_
  refine lv_iload_n hx hb dL_fills_8 rfl (lv_at hl 2 rfl) ?_
  refine lv_iconst (v := 0) hx hb dL_fills_9 (by decide) ?_
  refine lv_iconst (v := 0) hx hb dL_fills_10 (by decide) ?_
  refine lv_iconst (v := 0) hx hb dL_fills_11 (by decide) ?_
  refine l_call (X := 176) (K := 177) (CC := 382) (As := [.ref (gad Γ 475), .int 16, .int (nI i), .int 0, .int 0, .int 0]) (rest := []) (st1 := [.int (fX7_why_v N i)]) hF (q_why (l := l) (Γ := Γ) (N := N) (Hy := Hy) (k := k) (w := w) hst hN hu0 (a := (nI i)) rfl 0 hi) (va_cwS 6 hts qL_call rfl rfl rfl (by decide +kernel) ⟨Nat.le_of_ble_eq_true rfl, Nat.le_of_ble_eq_true rfl⟩) hK hZ hX hY hG hS rfl hl.1 (Nat.le_of_ble_eq_true rfl) dL_fills_12 ⟨Nat.le_of_ble_eq_true rfl, Nat.le_of_ble_eq_true rfl⟩ (by omega) (by omega) rfl rfl (fun H locs hG hS => ?_)
  refine g_top (y := 2) hy ?_
  refine lv_istore (lv' := [(4, .int 2), (2, .long (sumF N)), (0, .ref (gad Γ 475)), (1, .int (nI i))]) hx hb dL_fills_15 hl (by decide) rfl (fun ls hl => ?_)
  refine lv_aload_n hx hb dL_fills_17 rfl (lv_at hl 2 rfl) ?_
  refine lv_iload_n hx hb dL_fills_18 rfl (lv_at hl 3 rfl) ?_
  refine lv_iconst (v := 1) hx hb dL_fills_19 (by decide) ?_
  refine l_call (X := 177) (K := 178) (CC := 382) (As := [.ref (gad Γ 475), .int (nI i), .int 1]) (rest := []) (st1 := [.int (N (122 + 3 * i + 1))]) hF (r_wagon (N := N) (Hy := Hy) (k := k) (w := w) hst hN hu0 (a := (nI i)) (d := 1) (i := i) (j := 1) rfl rfl hi (by decide)) (va_cwS 3 hts qL_wagon rfl rfl rfl (by decide +kernel) ⟨Nat.le_of_ble_eq_true rfl, Nat.le_of_ble_eq_true rfl⟩) hK hZ hX hY hG hS rfl hl.1 (Nat.le_of_ble_eq_true rfl) dL_fills_20 ⟨Nat.le_of_ble_eq_true rfl, Nat.le_of_ble_eq_true rfl⟩ (by omega) (by omega) rfl rfl (fun H locs hG hS => ?_)
  refine lv_istore (lv' := [(5, .int (N (122 + 3 * i + 1))), (4, .int 2), (2, .long (sumF N)), (0, .ref (gad Γ 475)), (1, .int (nI i))]) hx hb dL_fills_23 hl (by decide) rfl (fun ls hl => ?_)
  refine lv_aload_n hx hb dL_fills_25 rfl (lv_at hl 3 rfl) ?_
  refine lv_iload_n hx hb dL_fills_26 rfl (lv_at hl 4 rfl) ?_
  refine lv_iconst (v := 2) hx hb dL_fills_27 (by decide) ?_
  refine l_call (X := 178) (K := 179) (CC := 382) (As := [.ref (gad Γ 475), .int (nI i), .int 2]) (rest := []) (st1 := [.int (N (122 + 3 * i + 2))]) hF (r_wagon (N := N) (Hy := Hy) (k := k) (w := w) hst hN hu0 (a := (nI i)) (d := 2) (i := i) (j := 2) rfl rfl hi (by decide)) (va_cwS 3 hts qL_wagon rfl rfl rfl (by decide +kernel) ⟨Nat.le_of_ble_eq_true rfl, Nat.le_of_ble_eq_true rfl⟩) hK hZ hX hY hG hS rfl hl.1 (Nat.le_of_ble_eq_true rfl) dL_fills_28 ⟨Nat.le_of_ble_eq_true rfl, Nat.le_of_ble_eq_true rfl⟩ (by omega) (by omega) rfl rfl (fun H locs hG hS => ?_)
  refine lv_istore (lv' := [(6, .int (N (122 + 3 * i + 2))), (5, .int (N (122 + 3 * i + 1))), (4, .int 2), (2, .long (sumF N)), (0, .ref (gad Γ 475)), (1, .int (nI i))]) hx hb dL_fills_31 hl (by decide) rfl (fun ls hl => ?_)
  refine lv_aload_n hx hb dL_fills_33 rfl (lv_at hl 4 rfl) ?_
  refine lv_bipush (v := 9) hx hb dL_fills_34 (by decide) ?_
  refine l_call (X := 179) (K := 180) (CC := 382) (As := [.ref (gad Γ 475), .int 9]) (rest := []) (st1 := [.int (N 9)]) hF (r_about (N := N) (Hy := Hy) (k := k) (w := w) hst hN hu0 (a := 9) (j := 9) rfl (by decide)) (va_cwS 2 hts qL_about rfl rfl rfl (by decide +kernel) ⟨Nat.le_of_ble_eq_true rfl, Nat.le_of_ble_eq_true rfl⟩) hK hZ hX hY hG hS rfl hl.1 (Nat.le_of_ble_eq_true rfl) dL_fills_36 ⟨Nat.le_of_ble_eq_true rfl, Nat.le_of_ble_eq_true rfl⟩ (by omega) (by omega) rfl rfl (fun H locs hG hS => ?_)
  refine lv_istore (lv' := [(7, .int (N 9)), (6, .int (N (122 + 3 * i + 2))), (5, .int (N (122 + 3 * i + 1))), (4, .int 2), (2, .long (sumF N)), (0, .ref (gad Γ 475)), (1, .int (nI i))]) hx hb dL_fills_39 hl (by decide) rfl (fun ls hl => ?_)
  refine lv_iload hx hb dL_fills_41 (lv_at hl 3 rfl) ?_
  refine lv_iconst (v := 1) hx hb dL_fills_43 (by decide) ?_
  refine lv_icmp_ne (tgt := 51) hx hb dL_fills_44 (by decide) (fun c_1 => ?_) (fun c_1 => absurd c_1 (by decide))
  refine lv_iconst (v := 0) hx hb dL_fills_51 (by decide) ?_
  refine lv_iload hx hb dL_fills_52 (lv_at hl 1 rfl) ?_
  refine lv_if_ne (tgt := 61) hx hb dL_fills_54 (by decide) (fun c_2 => ?_) (fun c_2 => absurd c_2 hm)
  refine lv_iconst (v := 0) hx hb dL_fills_61 (by decide) ?_
  refine lv_icmp_ne (tgt := 119) hx hb dL_fills_62 (by decide) (fun c_3 => absurd (by decide) c_3) (fun c_3 => ?_)
  refine lv_iload hx hb dL_fills_65 (lv_at hl 3 rfl) ?_
  refine lv_iconst (v := 2) hx hb dL_fills_67 (by decide) ?_
  refine lv_icmp_ne (tgt := 85) hx hb dL_fills_68 (by decide) (fun c_4 => absurd (by decide) c_4) (fun c_4 => ?_)
  refine lv_aload_n hx hb dL_fills_71 rfl (lv_at hl 5 rfl) ?_
  refine lv_aload_n hx hb dL_fills_72 rfl (lv_at hl 5 rfl) ?_
  refine lv_iload_n hx hb dL_fills_73 rfl (lv_at hl 6 rfl) ?_
  refine lv_iconst (v := 0) hx hb dL_fills_74 (by decide) ?_
  refine l_call (X := 180) (K := 181) (CC := 382) (As := [.ref (gad Γ 475), .int (nI i), .int 0]) (rest := [.ref (gad Γ 475)]) (st1 := [.int (N (122 + 3 * i + 0)), .ref (gad Γ 475)]) hF (r_wagon (N := N) (Hy := Hy) (k := k) (w := w) hst hN hu0 (a := (nI i)) (d := 0) (i := i) (j := 0) rfl rfl hi (by decide)) (va_cwS 3 hts qL_wagon rfl rfl rfl (by decide +kernel) ⟨Nat.le_of_ble_eq_true rfl, Nat.le_of_ble_eq_true rfl⟩) hK hZ hX hY hG hS rfl hl.1 (Nat.le_of_ble_eq_true rfl) dL_fills_75 ⟨Nat.le_of_ble_eq_true rfl, Nat.le_of_ble_eq_true rfl⟩ (by omega) (by omega) rfl rfl (fun H locs hG hS => ?_)
  refine g_top (y := (nI sg)) esg ?_
  refine lv_iconst (v := 5) hx hb dL_fills_78 (by decide) ?_
  refine l_call (X := 181) (K := 182) (CC := 382) (As := [.ref (gad Γ 475), .int (nI sg), .int 5]) (rest := []) (st1 := [.int (N (12 + 7 * sg + 5))]) hF (r_segment (N := N) (Hy := Hy) (k := k) (w := w) hst hN hu0 (a := (nI sg)) (d := 5) (i := sg) (j := 5) rfl rfl hsg (by decide)) (va_cwS 3 hts qL_segment rfl rfl rfl (by decide +kernel) ⟨Nat.le_of_ble_eq_true rfl, Nat.le_of_ble_eq_true rfl⟩) hK hZ hX hY hG hS rfl hl.1 (Nat.le_of_ble_eq_true rfl) dL_fills_79 ⟨Nat.le_of_ble_eq_true rfl, Nat.le_of_ble_eq_true rfl⟩ (by omega) (by omega) rfl rfl (fun H locs hG hS => ?_)
  refine lv_if_ne (tgt := 119) hx hb dL_fills_82 (by decide) (fun c_5 => absurd h2 c_5) (fun c_5 => ?_)
  refine lv_iload hx hb dL_fills_85 (lv_at hl 3 rfl) ?_
  refine lv_iconst (v := 3) hx hb dL_fills_87 (by decide) ?_
  refine lv_icmp_ne (tgt := 98) hx hb dL_fills_88 (by decide) (fun c_6 => ?_) (fun c_6 => absurd c_6 (by decide))
  refine lv_iload hx hb dL_fills_98 (lv_at hl 3 rfl) ?_
  refine lv_iconst (v := 4) hx hb dL_fills_100 (by decide) ?_
  refine lv_icmp_ne (tgt := 115) hx hb dL_fills_101 (by decide) (fun c_7 => ?_) (fun c_7 => absurd c_7 (by decide))
  refine lv_iconst (v := 1) hx hb dL_fills_115 (by decide) ?_
  refine lv_goto (tgt := 120) hx hb dL_fills_116 (by decide) ?_
  refine lv_istore (lv' := [(8, .int 1), (7, .int (N 9)), (6, .int (N (122 + 3 * i + 2))), (5, .int (N (122 + 3 * i + 1))), (4, .int 2), (2, .long (sumF N)), (0, .ref (gad Γ 475)), (1, .int (nI i))]) hx hb dL_fills_120 hl (by decide) rfl (fun ls hl => ?_)
  refine lv_aload_n hx hb dL_fills_122 rfl (lv_at hl 6 rfl) ?_
  refine lv_bipush (v := 13) hx hb dL_fills_123 (by decide) ?_
  refine lv_iload_n hx hb dL_fills_125 rfl (lv_at hl 7 rfl) ?_
  refine lv_iconst (v := 0) hx hb dL_fills_126 (by decide) ?_
  refine lv_iconst (v := 0) hx hb dL_fills_127 (by decide) ?_
  refine lv_iconst (v := 0) hx hb dL_fills_128 (by decide) ?_
  refine l_call (X := 182) (K := 183) (CC := 382) (As := [.ref (gad Γ 475), .int 13, .int (nI i), .int 0, .int 0, .int 0]) (rest := []) (st1 := [.int (-9999003)]) hF (q_fill_no (l := l) (Γ := Γ) (N := N) (Hy := Hy) (k := k) (w := w) hst hN hu0 (a := (nI i)) rfl 0 hi (by rw [hy]; decide)) (va_cwS 6 hts qL_call rfl rfl rfl (by decide +kernel) ⟨Nat.le_of_ble_eq_true rfl, Nat.le_of_ble_eq_true rfl⟩) hK hZ hX hY hG hS rfl hl.1 (Nat.le_of_ble_eq_true rfl) dL_fills_129 ⟨Nat.le_of_ble_eq_true rfl, Nat.le_of_ble_eq_true rfl⟩ (by omega) (by omega) rfl rfl (fun H locs hG hS => ?_)
  refine lv_istore (lv' := [(9, .int (-9999003)), (8, .int 1), (7, .int (N 9)), (6, .int (N (122 + 3 * i + 2))), (5, .int (N (122 + 3 * i + 1))), (4, .int 2), (2, .long (sumF N)), (0, .ref (gad Γ 475)), (1, .int (nI i))]) hx hb dL_fills_132 hl (by decide) rfl (fun ls hl => ?_)
  refine lv_iload hx hb dL_fills_134 (lv_at hl 5 rfl) ?_
  refine lv_if_le (tgt := 166) hx hb dL_fills_136 (by decide) (fun c_8 => absurd c_8 (by decide)) (fun c_8 => ?_)
  refine lv_iload hx hb dL_fills_139 (lv_at hl 1 rfl) ?_
  refine lv_if_eq (tgt := 164) hx hb dL_fills_141 (by decide) (fun c_9 => absurd c_9 (by decide)) (fun c_9 => ?_)
  refine lv_iload hx hb dL_fills_144 (lv_at hl 0 rfl) ?_
  refine lv_ldc hx hb hown k_1 dL_fills_146 ?_
  refine lv_icmp_ne (tgt := 164) hx hb dL_fills_148 (by decide) (fun c_10 => absurd (by decide) c_10) (fun c_10 => ?_)
  refine lv_aload_n hx hb dL_fills_151 rfl (lv_at hl 7 rfl) ?_
  refine l_call (X := 183) (K := 359) (CC := 382) (As := [.ref (gad Γ 475)]) (rest := []) (st1 := [.long (sumF N)]) hF (L_sum (N := N) (Hy := Hy) (k := k) (w := w) hst hN hu0) (va_cwS 1 hts qL_sum rfl rfl rfl (by decide +kernel) ⟨Nat.le_of_ble_eq_true rfl, Nat.le_of_ble_eq_true rfl⟩) hK hZ hX hY hG hS rfl hl.1 (Nat.le_of_ble_eq_true rfl) dL_fills_152 ⟨Nat.le_of_ble_eq_true rfl, Nat.le_of_ble_eq_true rfl⟩ (by omega) (by omega) rfl rfl (fun H locs hG hS => ?_)
  refine lv_lload_n hx hb dL_fills_155 rfl (lv_at hl 6 rfl) ?_
  refine W.lcmp hx hb dL_fills_156 ?_
  refine gl_ne (tgt := 164) hx hb dL_fills_157 (by decide) (fun c_11 => absurd rfl c_11) (fun c_11 => ?_)
  refine lv_iconst (v := 1) hx hb dL_fills_160 (by decide) ?_
  refine lv_goto (tgt := 165) hx hb dL_fills_161 (by decide) ?_
  exact l_zret hx hb hrt hlocks hS hG (by decide) rfl (by omega) dL_fills_165

set_option maxHeartbeats 4000000 in
set_option maxRecDepth 100000 in
theorem L_fills_3 {l : Launch} {Γ : gX} (hst : l.stackTraces = false) {u : Nat} {N : Nat → Int32} {Hy : Nat → Nat → Int32} {k : Nat} {w : WO} (hN : PI u N) (hu : 1998 * (u + 10000) < 2 ^ 31) (hk : k ≤ 14) {i : Nat} (hi : i < (N 2).toNatClampNeg) (hy : fX7_why_v N i = 3) (hm : ¬ N (122 + 3 * i + 2) = 0) (h2 : N (122 + 3 * i + 1) = 20) : lM l Γ yL_fills wqL_fills 13 296 382 [.ref (gad Γ 475), .int (nI i)] (SH Γ N Hy k w) (some (.int 1)) (SH Γ N Hy k w) := by
  refine l_start (cc := cL_fills) (maxL := 10) (ret := (some .boolean)) (by decide) rfl (Nat.le_of_ble_eq_true rfl) ?_
  intro p e s m below meth c ls hx hb hml hrt hts hown hlocks hK hZ hX hY hG hS hl
  have hl : lv_has ls 10 [(0, .ref (gad Γ 475)), (1, .int (nI i))] := hl
  have hown : s.vm.findClass RL = some m.cls := hown
  have hF : CallFix p m c cL_fills 10 s _ wqL_fills RL := ⟨hx, hb, hml, hown, hts⟩
  have k_1 : (Cond.constant RL 26 (-9999003)).before _ s = true := hts _ (by decide +kernel)
  have hu0 : 1998 * (u + 5000) < 2 ^ 31 := by omega
  refine lv_aload_n hx hb dL_fills_0 rfl (lv_at hl 0 rfl) ?_
  refine l_call (X := 0) (K := 176) (CC := 382) (As := [.ref (gad Γ 475)]) (rest := []) (st1 := [.long (sumF N)]) hF (L_sum (N := N) (Hy := Hy) (k := k) (w := w) hst hN hu0) (va_cwS 1 hts qL_sum rfl rfl rfl (by decide +kernel) ⟨Nat.le_of_ble_eq_true rfl, Nat.le_of_ble_eq_true rfl⟩) hK hZ hX hY hG hS rfl hl.1 (Nat.le_of_ble_eq_true rfl) dL_fills_1 ⟨Nat.le_of_ble_eq_true rfl, Nat.le_of_ble_eq_true rfl⟩ (by omega) (by omega) rfl rfl (fun H locs hG hS => ?_)
  refine lv_lstore_n (lv' := [(2, .long (sumF N)), (0, .ref (gad Γ 475)), (1, .int (nI i))]) hx hb dL_fills_4 rfl hl (by decide) rfl (fun ls hl => ?_)
  refine lv_aload_n hx hb dL_fills_5 rfl (lv_at hl 1 rfl) ?_
  refine lv_bipush (v := 16) hx hb dL_fills_6 (by decide) ?_
  refine lv_iload_n hx hb dL_fills_8 rfl (lv_at hl 2 rfl) ?_
  refine lv_iconst (v := 0) hx hb dL_fills_9 (by decide) ?_
  refine lv_iconst (v := 0) hx hb dL_fills_10 (by decide) ?_
  refine lv_iconst (v := 0) hx hb dL_fills_11 (by decide) ?_
  refine l_call (X := 176) (K := 177) (CC := 382) (As := [.ref (gad Γ 475), .int 16, .int (nI i), .int 0, .int 0, .int 0]) (rest := []) (st1 := [.int (fX7_why_v N i)]) hF (q_why (l := l) (Γ := Γ) (N := N) (Hy := Hy) (k := k) (w := w) hst hN hu0 (a := (nI i)) rfl 0 hi) (va_cwS 6 hts qL_call rfl rfl rfl (by decide +kernel) ⟨Nat.le_of_ble_eq_true rfl, Nat.le_of_ble_eq_true rfl⟩) hK hZ hX hY hG hS rfl hl.1 (Nat.le_of_ble_eq_true rfl) dL_fills_12 ⟨Nat.le_of_ble_eq_true rfl, Nat.le_of_ble_eq_true rfl⟩ (by omega) (by omega) rfl rfl (fun H locs hG hS => ?_)
  refine g_top (y := 3) hy ?_
  refine lv_istore (lv' := [(4, .int 3), (2, .long (sumF N)), (0, .ref (gad Γ 475)), (1, .int (nI i))]) hx hb dL_fills_15 hl (by decide) rfl (fun ls hl => ?_)
  refine lv_aload_n hx hb dL_fills_17 rfl (lv_at hl 2 rfl) ?_
  refine lv_iload_n hx hb dL_fills_18 rfl (lv_at hl 3 rfl) ?_
  refine lv_iconst (v := 1) hx hb dL_fills_19 (by decide) ?_
  refine l_call (X := 177) (K := 178) (CC := 382) (As := [.ref (gad Γ 475), .int (nI i), .int 1]) (rest := []) (st1 := [.int (N (122 + 3 * i + 1))]) hF (r_wagon (N := N) (Hy := Hy) (k := k) (w := w) hst hN hu0 (a := (nI i)) (d := 1) (i := i) (j := 1) rfl rfl hi (by decide)) (va_cwS 3 hts qL_wagon rfl rfl rfl (by decide +kernel) ⟨Nat.le_of_ble_eq_true rfl, Nat.le_of_ble_eq_true rfl⟩) hK hZ hX hY hG hS rfl hl.1 (Nat.le_of_ble_eq_true rfl) dL_fills_20 ⟨Nat.le_of_ble_eq_true rfl, Nat.le_of_ble_eq_true rfl⟩ (by omega) (by omega) rfl rfl (fun H locs hG hS => ?_)
  refine lv_istore (lv' := [(5, .int (N (122 + 3 * i + 1))), (4, .int 3), (2, .long (sumF N)), (0, .ref (gad Γ 475)), (1, .int (nI i))]) hx hb dL_fills_23 hl (by decide) rfl (fun ls hl => ?_)
  refine lv_aload_n hx hb dL_fills_25 rfl (lv_at hl 3 rfl) ?_
  refine lv_iload_n hx hb dL_fills_26 rfl (lv_at hl 4 rfl) ?_
  refine lv_iconst (v := 2) hx hb dL_fills_27 (by decide) ?_
  refine l_call (X := 178) (K := 179) (CC := 382) (As := [.ref (gad Γ 475), .int (nI i), .int 2]) (rest := []) (st1 := [.int (N (122 + 3 * i + 2))]) hF (r_wagon (N := N) (Hy := Hy) (k := k) (w := w) hst hN hu0 (a := (nI i)) (d := 2) (i := i) (j := 2) rfl rfl hi (by decide)) (va_cwS 3 hts qL_wagon rfl rfl rfl (by decide +kernel) ⟨Nat.le_of_ble_eq_true rfl, Nat.le_of_ble_eq_true rfl⟩) hK hZ hX hY hG hS rfl hl.1 (Nat.le_of_ble_eq_true rfl) dL_fills_28 ⟨Nat.le_of_ble_eq_true rfl, Nat.le_of_ble_eq_true rfl⟩ (by omega) (by omega) rfl rfl (fun H locs hG hS => ?_)
  refine lv_istore (lv' := [(6, .int (N (122 + 3 * i + 2))), (5, .int (N (122 + 3 * i + 1))), (4, .int 3), (2, .long (sumF N)), (0, .ref (gad Γ 475)), (1, .int (nI i))]) hx hb dL_fills_31 hl (by decide) rfl (fun ls hl => ?_)
  refine lv_aload_n hx hb dL_fills_33 rfl (lv_at hl 4 rfl) ?_
  refine lv_bipush (v := 9) hx hb dL_fills_34 (by decide) ?_
  refine l_call (X := 179) (K := 180) (CC := 382) (As := [.ref (gad Γ 475), .int 9]) (rest := []) (st1 := [.int (N 9)]) hF (r_about (N := N) (Hy := Hy) (k := k) (w := w) hst hN hu0 (a := 9) (j := 9) rfl (by decide)) (va_cwS 2 hts qL_about rfl rfl rfl (by decide +kernel) ⟨Nat.le_of_ble_eq_true rfl, Nat.le_of_ble_eq_true rfl⟩) hK hZ hX hY hG hS rfl hl.1 (Nat.le_of_ble_eq_true rfl) dL_fills_36 ⟨Nat.le_of_ble_eq_true rfl, Nat.le_of_ble_eq_true rfl⟩ (by omega) (by omega) rfl rfl (fun H locs hG hS => ?_)
  refine lv_istore (lv' := [(7, .int (N 9)), (6, .int (N (122 + 3 * i + 2))), (5, .int (N (122 + 3 * i + 1))), (4, .int 3), (2, .long (sumF N)), (0, .ref (gad Γ 475)), (1, .int (nI i))]) hx hb dL_fills_39 hl (by decide) rfl (fun ls hl => ?_)
  refine lv_iload hx hb dL_fills_41 (lv_at hl 3 rfl) ?_
  refine lv_iconst (v := 1) hx hb dL_fills_43 (by decide) ?_
  refine lv_icmp_ne (tgt := 51) hx hb dL_fills_44 (by decide) (fun c_1 => ?_) (fun c_1 => absurd c_1 (by decide))
  refine lv_iconst (v := 0) hx hb dL_fills_51 (by decide) ?_
  refine lv_iload hx hb dL_fills_52 (lv_at hl 1 rfl) ?_
  refine lv_if_ne (tgt := 61) hx hb dL_fills_54 (by decide) (fun c_2 => ?_) (fun c_2 => absurd c_2 hm)
  refine lv_iconst (v := 0) hx hb dL_fills_61 (by decide) ?_
  refine lv_icmp_ne (tgt := 119) hx hb dL_fills_62 (by decide) (fun c_3 => absurd (by decide) c_3) (fun c_3 => ?_)
  refine lv_iload hx hb dL_fills_65 (lv_at hl 3 rfl) ?_
  refine lv_iconst (v := 2) hx hb dL_fills_67 (by decide) ?_
  refine lv_icmp_ne (tgt := 85) hx hb dL_fills_68 (by decide) (fun c_4 => ?_) (fun c_4 => absurd c_4 (by decide))
  refine lv_iload hx hb dL_fills_85 (lv_at hl 3 rfl) ?_
  refine lv_iconst (v := 3) hx hb dL_fills_87 (by decide) ?_
  refine lv_icmp_ne (tgt := 98) hx hb dL_fills_88 (by decide) (fun c_5 => absurd (by decide) c_5) (fun c_5 => ?_)
  refine lv_iload hx hb dL_fills_91 (lv_at hl 2 rfl) ?_
  refine lv_bipush (v := 20) hx hb dL_fills_93 (by decide) ?_
  refine lv_icmp_ne (tgt := 119) hx hb dL_fills_95 (by decide) (fun c_6 => absurd h2 c_6) (fun c_6 => ?_)
  refine lv_iload hx hb dL_fills_98 (lv_at hl 3 rfl) ?_
  refine lv_iconst (v := 4) hx hb dL_fills_100 (by decide) ?_
  refine lv_icmp_ne (tgt := 115) hx hb dL_fills_101 (by decide) (fun c_7 => ?_) (fun c_7 => absurd c_7 (by decide))
  refine lv_iconst (v := 1) hx hb dL_fills_115 (by decide) ?_
  refine lv_goto (tgt := 120) hx hb dL_fills_116 (by decide) ?_
  refine lv_istore (lv' := [(8, .int 1), (7, .int (N 9)), (6, .int (N (122 + 3 * i + 2))), (5, .int (N (122 + 3 * i + 1))), (4, .int 3), (2, .long (sumF N)), (0, .ref (gad Γ 475)), (1, .int (nI i))]) hx hb dL_fills_120 hl (by decide) rfl (fun ls hl => ?_)
  refine lv_aload_n hx hb dL_fills_122 rfl (lv_at hl 6 rfl) ?_
  refine lv_bipush (v := 13) hx hb dL_fills_123 (by decide) ?_
  refine lv_iload_n hx hb dL_fills_125 rfl (lv_at hl 7 rfl) ?_
  refine lv_iconst (v := 0) hx hb dL_fills_126 (by decide) ?_
  refine lv_iconst (v := 0) hx hb dL_fills_127 (by decide) ?_
  refine lv_iconst (v := 0) hx hb dL_fills_128 (by decide) ?_
  refine l_call (X := 180) (K := 181) (CC := 382) (As := [.ref (gad Γ 475), .int 13, .int (nI i), .int 0, .int 0, .int 0]) (rest := []) (st1 := [.int (-9999003)]) hF (q_fill_no (l := l) (Γ := Γ) (N := N) (Hy := Hy) (k := k) (w := w) hst hN hu0 (a := (nI i)) rfl 0 hi (by rw [hy]; decide)) (va_cwS 6 hts qL_call rfl rfl rfl (by decide +kernel) ⟨Nat.le_of_ble_eq_true rfl, Nat.le_of_ble_eq_true rfl⟩) hK hZ hX hY hG hS rfl hl.1 (Nat.le_of_ble_eq_true rfl) dL_fills_129 ⟨Nat.le_of_ble_eq_true rfl, Nat.le_of_ble_eq_true rfl⟩ (by omega) (by omega) rfl rfl (fun H locs hG hS => ?_)
  refine lv_istore (lv' := [(9, .int (-9999003)), (8, .int 1), (7, .int (N 9)), (6, .int (N (122 + 3 * i + 2))), (5, .int (N (122 + 3 * i + 1))), (4, .int 3), (2, .long (sumF N)), (0, .ref (gad Γ 475)), (1, .int (nI i))]) hx hb dL_fills_132 hl (by decide) rfl (fun ls hl => ?_)
  refine lv_iload hx hb dL_fills_134 (lv_at hl 5 rfl) ?_
  refine lv_if_le (tgt := 166) hx hb dL_fills_136 (by decide) (fun c_8 => absurd c_8 (by decide)) (fun c_8 => ?_)
  refine lv_iload hx hb dL_fills_139 (lv_at hl 1 rfl) ?_
  refine lv_if_eq (tgt := 164) hx hb dL_fills_141 (by decide) (fun c_9 => absurd c_9 (by decide)) (fun c_9 => ?_)
  refine lv_iload hx hb dL_fills_144 (lv_at hl 0 rfl) ?_
  refine lv_ldc hx hb hown k_1 dL_fills_146 ?_
  refine lv_icmp_ne (tgt := 164) hx hb dL_fills_148 (by decide) (fun c_10 => absurd (by decide) c_10) (fun c_10 => ?_)
  refine lv_aload_n hx hb dL_fills_151 rfl (lv_at hl 7 rfl) ?_
  refine l_call (X := 181) (K := 357) (CC := 382) (As := [.ref (gad Γ 475)]) (rest := []) (st1 := [.long (sumF N)]) hF (L_sum (N := N) (Hy := Hy) (k := k) (w := w) hst hN hu0) (va_cwS 1 hts qL_sum rfl rfl rfl (by decide +kernel) ⟨Nat.le_of_ble_eq_true rfl, Nat.le_of_ble_eq_true rfl⟩) hK hZ hX hY hG hS rfl hl.1 (Nat.le_of_ble_eq_true rfl) dL_fills_152 ⟨Nat.le_of_ble_eq_true rfl, Nat.le_of_ble_eq_true rfl⟩ (by omega) (by omega) rfl rfl (fun H locs hG hS => ?_)
  refine lv_lload_n hx hb dL_fills_155 rfl (lv_at hl 6 rfl) ?_
  refine W.lcmp hx hb dL_fills_156 ?_
  refine gl_ne (tgt := 164) hx hb dL_fills_157 (by decide) (fun c_11 => absurd rfl c_11) (fun c_11 => ?_)
  refine lv_iconst (v := 1) hx hb dL_fills_160 (by decide) ?_
  refine lv_goto (tgt := 165) hx hb dL_fills_161 (by decide) ?_
  exact l_zret hx hb hrt hlocks hS hG (by decide) rfl (by omega) dL_fills_165

set_option maxHeartbeats 4000000 in
set_option maxRecDepth 100000 in
theorem L_fills_4 {l : Launch} {Γ : gX} (hst : l.stackTraces = false) {u : Nat} {N : Nat → Int32} {Hy : Nat → Nat → Int32} {k : Nat} {w : WO} (hN : PI u N) (hu : 1998 * (u + 10000) < 2 ^ 31) (hk : k ≤ 14) {i : Nat} (hi : i < (N 2).toNatClampNeg) (hy : fX7_why_v N i = 4) (hm : ¬ N (122 + 3 * i + 2) = 0) (h2 : ¬ N 9 < N 8) : lM l Γ yL_fills wqL_fills 13 296 382 [.ref (gad Γ 475), .int (nI i)] (SH Γ N Hy k w) (some (.int 1)) (SH Γ N Hy k w) := by
  refine l_start (cc := cL_fills) (maxL := 10) (ret := (some .boolean)) (by decide) rfl (Nat.le_of_ble_eq_true rfl) ?_
  intro p e s m below meth c ls hx hb hml hrt hts hown hlocks hK hZ hX hY hG hS hl
  have hl : lv_has ls 10 [(0, .ref (gad Γ 475)), (1, .int (nI i))] := hl
  have hown : s.vm.findClass RL = some m.cls := hown
  have hF : CallFix p m c cL_fills 10 s _ wqL_fills RL := ⟨hx, hb, hml, hown, hts⟩
  have k_1 : (Cond.constant RL 26 (-9999003)).before _ s = true := hts _ (by decide +kernel)
  have hu0 : 1998 * (u + 5000) < 2 ^ 31 := by omega
  refine lv_aload_n hx hb dL_fills_0 rfl (lv_at hl 0 rfl) ?_
  refine l_call (X := 0) (K := 176) (CC := 382) (As := [.ref (gad Γ 475)]) (rest := []) (st1 := [.long (sumF N)]) hF (L_sum (N := N) (Hy := Hy) (k := k) (w := w) hst hN hu0) (va_cwS 1 hts qL_sum rfl rfl rfl (by decide +kernel) ⟨Nat.le_of_ble_eq_true rfl, Nat.le_of_ble_eq_true rfl⟩) hK hZ hX hY hG hS rfl hl.1 (Nat.le_of_ble_eq_true rfl) dL_fills_1 ⟨Nat.le_of_ble_eq_true rfl, Nat.le_of_ble_eq_true rfl⟩ (by omega) (by omega) rfl rfl (fun H locs hG hS => ?_)
  refine lv_lstore_n (lv' := [(2, .long (sumF N)), (0, .ref (gad Γ 475)), (1, .int (nI i))]) hx hb dL_fills_4 rfl hl (by decide) rfl (fun ls hl => ?_)
  refine lv_aload_n hx hb dL_fills_5 rfl (lv_at hl 1 rfl) ?_
  refine lv_bipush (v := 16) hx hb dL_fills_6 (by decide) ?_
  refine lv_iload_n hx hb dL_fills_8 rfl (lv_at hl 2 rfl) ?_
  refine lv_iconst (v := 0) hx hb dL_fills_9 (by decide) ?_
  refine lv_iconst (v := 0) hx hb dL_fills_10 (by decide) ?_
  refine lv_iconst (v := 0) hx hb dL_fills_11 (by decide) ?_
  refine l_call (X := 176) (K := 177) (CC := 382) (As := [.ref (gad Γ 475), .int 16, .int (nI i), .int 0, .int 0, .int 0]) (rest := []) (st1 := [.int (fX7_why_v N i)]) hF (q_why (l := l) (Γ := Γ) (N := N) (Hy := Hy) (k := k) (w := w) hst hN hu0 (a := (nI i)) rfl 0 hi) (va_cwS 6 hts qL_call rfl rfl rfl (by decide +kernel) ⟨Nat.le_of_ble_eq_true rfl, Nat.le_of_ble_eq_true rfl⟩) hK hZ hX hY hG hS rfl hl.1 (Nat.le_of_ble_eq_true rfl) dL_fills_12 ⟨Nat.le_of_ble_eq_true rfl, Nat.le_of_ble_eq_true rfl⟩ (by omega) (by omega) rfl rfl (fun H locs hG hS => ?_)
  refine g_top (y := 4) hy ?_
  refine lv_istore (lv' := [(4, .int 4), (2, .long (sumF N)), (0, .ref (gad Γ 475)), (1, .int (nI i))]) hx hb dL_fills_15 hl (by decide) rfl (fun ls hl => ?_)
  refine lv_aload_n hx hb dL_fills_17 rfl (lv_at hl 2 rfl) ?_
  refine lv_iload_n hx hb dL_fills_18 rfl (lv_at hl 3 rfl) ?_
  refine lv_iconst (v := 1) hx hb dL_fills_19 (by decide) ?_
  refine l_call (X := 177) (K := 178) (CC := 382) (As := [.ref (gad Γ 475), .int (nI i), .int 1]) (rest := []) (st1 := [.int (N (122 + 3 * i + 1))]) hF (r_wagon (N := N) (Hy := Hy) (k := k) (w := w) hst hN hu0 (a := (nI i)) (d := 1) (i := i) (j := 1) rfl rfl hi (by decide)) (va_cwS 3 hts qL_wagon rfl rfl rfl (by decide +kernel) ⟨Nat.le_of_ble_eq_true rfl, Nat.le_of_ble_eq_true rfl⟩) hK hZ hX hY hG hS rfl hl.1 (Nat.le_of_ble_eq_true rfl) dL_fills_20 ⟨Nat.le_of_ble_eq_true rfl, Nat.le_of_ble_eq_true rfl⟩ (by omega) (by omega) rfl rfl (fun H locs hG hS => ?_)
  refine lv_istore (lv' := [(5, .int (N (122 + 3 * i + 1))), (4, .int 4), (2, .long (sumF N)), (0, .ref (gad Γ 475)), (1, .int (nI i))]) hx hb dL_fills_23 hl (by decide) rfl (fun ls hl => ?_)
  refine lv_aload_n hx hb dL_fills_25 rfl (lv_at hl 3 rfl) ?_
  refine lv_iload_n hx hb dL_fills_26 rfl (lv_at hl 4 rfl) ?_
  refine lv_iconst (v := 2) hx hb dL_fills_27 (by decide) ?_
  refine l_call (X := 178) (K := 179) (CC := 382) (As := [.ref (gad Γ 475), .int (nI i), .int 2]) (rest := []) (st1 := [.int (N (122 + 3 * i + 2))]) hF (r_wagon (N := N) (Hy := Hy) (k := k) (w := w) hst hN hu0 (a := (nI i)) (d := 2) (i := i) (j := 2) rfl rfl hi (by decide)) (va_cwS 3 hts qL_wagon rfl rfl rfl (by decide +kernel) ⟨Nat.le_of_ble_eq_true rfl, Nat.le_of_ble_eq_true rfl⟩) hK hZ hX hY hG hS rfl hl.1 (Nat.le_of_ble_eq_true rfl) dL_fills_28 ⟨Nat.le_of_ble_eq_true rfl, Nat.le_of_ble_eq_true rfl⟩ (by omega) (by omega) rfl rfl (fun H locs hG hS => ?_)
  refine lv_istore (lv' := [(6, .int (N (122 + 3 * i + 2))), (5, .int (N (122 + 3 * i + 1))), (4, .int 4), (2, .long (sumF N)), (0, .ref (gad Γ 475)), (1, .int (nI i))]) hx hb dL_fills_31 hl (by decide) rfl (fun ls hl => ?_)
  refine lv_aload_n hx hb dL_fills_33 rfl (lv_at hl 4 rfl) ?_
  refine lv_bipush (v := 9) hx hb dL_fills_34 (by decide) ?_
  refine l_call (X := 179) (K := 180) (CC := 382) (As := [.ref (gad Γ 475), .int 9]) (rest := []) (st1 := [.int (N 9)]) hF (r_about (N := N) (Hy := Hy) (k := k) (w := w) hst hN hu0 (a := 9) (j := 9) rfl (by decide)) (va_cwS 2 hts qL_about rfl rfl rfl (by decide +kernel) ⟨Nat.le_of_ble_eq_true rfl, Nat.le_of_ble_eq_true rfl⟩) hK hZ hX hY hG hS rfl hl.1 (Nat.le_of_ble_eq_true rfl) dL_fills_36 ⟨Nat.le_of_ble_eq_true rfl, Nat.le_of_ble_eq_true rfl⟩ (by omega) (by omega) rfl rfl (fun H locs hG hS => ?_)
  refine lv_istore (lv' := [(7, .int (N 9)), (6, .int (N (122 + 3 * i + 2))), (5, .int (N (122 + 3 * i + 1))), (4, .int 4), (2, .long (sumF N)), (0, .ref (gad Γ 475)), (1, .int (nI i))]) hx hb dL_fills_39 hl (by decide) rfl (fun ls hl => ?_)
  refine lv_iload hx hb dL_fills_41 (lv_at hl 3 rfl) ?_
  refine lv_iconst (v := 1) hx hb dL_fills_43 (by decide) ?_
  refine lv_icmp_ne (tgt := 51) hx hb dL_fills_44 (by decide) (fun c_1 => ?_) (fun c_1 => absurd c_1 (by decide))
  refine lv_iconst (v := 0) hx hb dL_fills_51 (by decide) ?_
  refine lv_iload hx hb dL_fills_52 (lv_at hl 1 rfl) ?_
  refine lv_if_ne (tgt := 61) hx hb dL_fills_54 (by decide) (fun c_2 => ?_) (fun c_2 => absurd c_2 hm)
  refine lv_iconst (v := 0) hx hb dL_fills_61 (by decide) ?_
  refine lv_icmp_ne (tgt := 119) hx hb dL_fills_62 (by decide) (fun c_3 => absurd (by decide) c_3) (fun c_3 => ?_)
  refine lv_iload hx hb dL_fills_65 (lv_at hl 3 rfl) ?_
  refine lv_iconst (v := 2) hx hb dL_fills_67 (by decide) ?_
  refine lv_icmp_ne (tgt := 85) hx hb dL_fills_68 (by decide) (fun c_4 => ?_) (fun c_4 => absurd c_4 (by decide))
  refine lv_iload hx hb dL_fills_85 (lv_at hl 3 rfl) ?_
  refine lv_iconst (v := 3) hx hb dL_fills_87 (by decide) ?_
  refine lv_icmp_ne (tgt := 98) hx hb dL_fills_88 (by decide) (fun c_5 => ?_) (fun c_5 => absurd c_5 (by decide))
  refine lv_iload hx hb dL_fills_98 (lv_at hl 3 rfl) ?_
  refine lv_iconst (v := 4) hx hb dL_fills_100 (by decide) ?_
  refine lv_icmp_ne (tgt := 115) hx hb dL_fills_101 (by decide) (fun c_6 => absurd (by decide) c_6) (fun c_6 => ?_)
  refine lv_iload hx hb dL_fills_104 (lv_at hl 0 rfl) ?_
  refine lv_aload_n hx hb dL_fills_106 rfl (lv_at hl 5 rfl) ?_
  refine lv_bipush (v := 8) hx hb dL_fills_107 (by decide) ?_
  refine l_call (X := 180) (K := 181) (CC := 382) (As := [.ref (gad Γ 475), .int 8]) (rest := [.int (N 9)]) (st1 := [.int (N 8), .int (N 9)]) hF (r_about (N := N) (Hy := Hy) (k := k) (w := w) hst hN hu0 (a := 8) (j := 8) rfl (by decide)) (va_cwS 2 hts qL_about rfl rfl rfl (by decide +kernel) ⟨Nat.le_of_ble_eq_true rfl, Nat.le_of_ble_eq_true rfl⟩) hK hZ hX hY hG hS rfl hl.1 (Nat.le_of_ble_eq_true rfl) dL_fills_109 ⟨Nat.le_of_ble_eq_true rfl, Nat.le_of_ble_eq_true rfl⟩ (by omega) (by omega) rfl rfl (fun H locs hG hS => ?_)
  refine lv_icmp_lt (tgt := 119) hx hb dL_fills_112 (by decide) (fun c_7 => absurd c_7 h2) (fun c_7 => ?_)
  refine lv_iconst (v := 1) hx hb dL_fills_115 (by decide) ?_
  refine lv_goto (tgt := 120) hx hb dL_fills_116 (by decide) ?_
  refine lv_istore (lv' := [(8, .int 1), (7, .int (N 9)), (6, .int (N (122 + 3 * i + 2))), (5, .int (N (122 + 3 * i + 1))), (4, .int 4), (2, .long (sumF N)), (0, .ref (gad Γ 475)), (1, .int (nI i))]) hx hb dL_fills_120 hl (by decide) rfl (fun ls hl => ?_)
  refine lv_aload_n hx hb dL_fills_122 rfl (lv_at hl 6 rfl) ?_
  refine lv_bipush (v := 13) hx hb dL_fills_123 (by decide) ?_
  refine lv_iload_n hx hb dL_fills_125 rfl (lv_at hl 7 rfl) ?_
  refine lv_iconst (v := 0) hx hb dL_fills_126 (by decide) ?_
  refine lv_iconst (v := 0) hx hb dL_fills_127 (by decide) ?_
  refine lv_iconst (v := 0) hx hb dL_fills_128 (by decide) ?_
  refine l_call (X := 181) (K := 182) (CC := 382) (As := [.ref (gad Γ 475), .int 13, .int (nI i), .int 0, .int 0, .int 0]) (rest := []) (st1 := [.int (-9999003)]) hF (q_fill_no (l := l) (Γ := Γ) (N := N) (Hy := Hy) (k := k) (w := w) hst hN hu0 (a := (nI i)) rfl 0 hi (by rw [hy]; decide)) (va_cwS 6 hts qL_call rfl rfl rfl (by decide +kernel) ⟨Nat.le_of_ble_eq_true rfl, Nat.le_of_ble_eq_true rfl⟩) hK hZ hX hY hG hS rfl hl.1 (Nat.le_of_ble_eq_true rfl) dL_fills_129 ⟨Nat.le_of_ble_eq_true rfl, Nat.le_of_ble_eq_true rfl⟩ (by omega) (by omega) rfl rfl (fun H locs hG hS => ?_)
  refine lv_istore (lv' := [(9, .int (-9999003)), (8, .int 1), (7, .int (N 9)), (6, .int (N (122 + 3 * i + 2))), (5, .int (N (122 + 3 * i + 1))), (4, .int 4), (2, .long (sumF N)), (0, .ref (gad Γ 475)), (1, .int (nI i))]) hx hb dL_fills_132 hl (by decide) rfl (fun ls hl => ?_)
  refine lv_iload hx hb dL_fills_134 (lv_at hl 5 rfl) ?_
  refine lv_if_le (tgt := 166) hx hb dL_fills_136 (by decide) (fun c_8 => absurd c_8 (by decide)) (fun c_8 => ?_)
  refine lv_iload hx hb dL_fills_139 (lv_at hl 1 rfl) ?_
  refine lv_if_eq (tgt := 164) hx hb dL_fills_141 (by decide) (fun c_9 => absurd c_9 (by decide)) (fun c_9 => ?_)
  refine lv_iload hx hb dL_fills_144 (lv_at hl 0 rfl) ?_
  refine lv_ldc hx hb hown k_1 dL_fills_146 ?_
  refine lv_icmp_ne (tgt := 164) hx hb dL_fills_148 (by decide) (fun c_10 => absurd (by decide) c_10) (fun c_10 => ?_)
  refine lv_aload_n hx hb dL_fills_151 rfl (lv_at hl 7 rfl) ?_
  refine l_call (X := 182) (K := 358) (CC := 382) (As := [.ref (gad Γ 475)]) (rest := []) (st1 := [.long (sumF N)]) hF (L_sum (N := N) (Hy := Hy) (k := k) (w := w) hst hN hu0) (va_cwS 1 hts qL_sum rfl rfl rfl (by decide +kernel) ⟨Nat.le_of_ble_eq_true rfl, Nat.le_of_ble_eq_true rfl⟩) hK hZ hX hY hG hS rfl hl.1 (Nat.le_of_ble_eq_true rfl) dL_fills_152 ⟨Nat.le_of_ble_eq_true rfl, Nat.le_of_ble_eq_true rfl⟩ (by omega) (by omega) rfl rfl (fun H locs hG hS => ?_)
  refine lv_lload_n hx hb dL_fills_155 rfl (lv_at hl 6 rfl) ?_
  refine W.lcmp hx hb dL_fills_156 ?_
  refine gl_ne (tgt := 164) hx hb dL_fills_157 (by decide) (fun c_11 => absurd rfl c_11) (fun c_11 => ?_)
  refine lv_iconst (v := 1) hx hb dL_fills_160 (by decide) ?_
  refine lv_goto (tgt := 165) hx hb dL_fills_161 (by decide) ?_
  exact l_zret hx hb hrt hlocks hS hG (by decide) rfl (by omega) dL_fills_165

set_option maxHeartbeats 4000000 in
set_option maxRecDepth 100000 in
theorem L_fills_0 {l : Launch} {Γ : gX} (hst : l.stackTraces = false) {u : Nat} {N : Nat → Int32} {Hy : Nat → Nat → Int32} {k : Nat} {w : WO} (hN : PI u N) (hu : 1998 * (u + 10000) < 2 ^ 31) (hk : k ≤ 14) {i : Nat} (hi : i < (N 2).toNatClampNeg) (hy : fX7_why_v N i = 0) (hm : ¬ N (122 + 3 * i + 2) = 0) : lM l Γ yL_fills wqL_fills 13 296 382 [.ref (gad Γ 475), .int (nI i)] (SH Γ N Hy k w) (some (.int 1)) (SH Γ N Hy (kM 13 k) w) := by
  refine l_start (cc := cL_fills) (maxL := 10) (ret := (some .boolean)) (by decide) rfl (Nat.le_of_ble_eq_true rfl) ?_
  intro p e s m below meth c ls hx hb hml hrt hts hown hlocks hK hZ hX hY hG hS hl
  have hl : lv_has ls 10 [(0, .ref (gad Γ 475)), (1, .int (nI i))] := hl
  have hown : s.vm.findClass RL = some m.cls := hown
  have hF : CallFix p m c cL_fills 10 s _ wqL_fills RL := ⟨hx, hb, hml, hown, hts⟩
  have hu0 : 1998 * (u + 5000) < 2 ^ 31 := by omega
  have hF0 := fi_all hN hi hy
  obtain ⟨f1, f2, f9, f8⟩ := fi_at N i (fX7_fillOn_v N i)
  have hiF : i < ((fiS N i (fX7_fillOn_v N i)) 2).toNatClampNeg := by
    have b2 := hN.w3.2
    rw [show (fiS N i (fX7_fillOn_v N i)) 2 = N 2 by unfold fiS; simp (disch := omega) only [pk_un]]; exact hi
  refine lv_aload_n hx hb dL_fills_0 rfl (lv_at hl 0 rfl) ?_
  refine l_call (X := 0) (K := 176) (CC := 382) (As := [.ref (gad Γ 475)]) (rest := []) (st1 := [.long (sumF N)]) hF (L_sum (N := N) (Hy := Hy) (k := k) (w := w) hst hN hu0) (va_cwS 1 hts qL_sum rfl rfl rfl (by decide +kernel) ⟨Nat.le_of_ble_eq_true rfl, Nat.le_of_ble_eq_true rfl⟩) hK hZ hX hY hG hS rfl hl.1 (Nat.le_of_ble_eq_true rfl) dL_fills_1 ⟨Nat.le_of_ble_eq_true rfl, Nat.le_of_ble_eq_true rfl⟩ (by omega) (by omega) rfl rfl (fun H locs hG hS => ?_)
  refine lv_lstore_n (lv' := [(2, .long (sumF N)), (0, .ref (gad Γ 475)), (1, .int (nI i))]) hx hb dL_fills_4 rfl hl (by decide) rfl (fun ls hl => ?_)
  refine lv_aload_n hx hb dL_fills_5 rfl (lv_at hl 1 rfl) ?_
  refine lv_bipush (v := 16) hx hb dL_fills_6 (by decide) ?_
  refine lv_iload_n hx hb dL_fills_8 rfl (lv_at hl 2 rfl) ?_
  refine lv_iconst (v := 0) hx hb dL_fills_9 (by decide) ?_
  refine lv_iconst (v := 0) hx hb dL_fills_10 (by decide) ?_
  refine lv_iconst (v := 0) hx hb dL_fills_11 (by decide) ?_
  refine l_call (X := 176) (K := 177) (CC := 382) (As := [.ref (gad Γ 475), .int 16, .int (nI i), .int 0, .int 0, .int 0]) (rest := []) (st1 := [.int (fX7_why_v N i)]) hF (q_why (l := l) (Γ := Γ) (N := N) (Hy := Hy) (k := k) (w := w) hst hN hu0 (a := (nI i)) rfl 0 hi) (va_cwS 6 hts qL_call rfl rfl rfl (by decide +kernel) ⟨Nat.le_of_ble_eq_true rfl, Nat.le_of_ble_eq_true rfl⟩) hK hZ hX hY hG hS rfl hl.1 (Nat.le_of_ble_eq_true rfl) dL_fills_12 ⟨Nat.le_of_ble_eq_true rfl, Nat.le_of_ble_eq_true rfl⟩ (by omega) (by omega) rfl rfl (fun H locs hG hS => ?_)
  refine g_top (y := 0) hy ?_
  refine lv_istore (lv' := [(4, .int 0), (2, .long (sumF N)), (0, .ref (gad Γ 475)), (1, .int (nI i))]) hx hb dL_fills_15 hl (by decide) rfl (fun ls hl => ?_)
  refine lv_aload_n hx hb dL_fills_17 rfl (lv_at hl 2 rfl) ?_
  refine lv_iload_n hx hb dL_fills_18 rfl (lv_at hl 3 rfl) ?_
  refine lv_iconst (v := 1) hx hb dL_fills_19 (by decide) ?_
  refine l_call (X := 177) (K := 178) (CC := 382) (As := [.ref (gad Γ 475), .int (nI i), .int 1]) (rest := []) (st1 := [.int (N (122 + 3 * i + 1))]) hF (r_wagon (N := N) (Hy := Hy) (k := k) (w := w) hst hN hu0 (a := (nI i)) (d := 1) (i := i) (j := 1) rfl rfl hi (by decide)) (va_cwS 3 hts qL_wagon rfl rfl rfl (by decide +kernel) ⟨Nat.le_of_ble_eq_true rfl, Nat.le_of_ble_eq_true rfl⟩) hK hZ hX hY hG hS rfl hl.1 (Nat.le_of_ble_eq_true rfl) dL_fills_20 ⟨Nat.le_of_ble_eq_true rfl, Nat.le_of_ble_eq_true rfl⟩ (by omega) (by omega) rfl rfl (fun H locs hG hS => ?_)
  refine lv_istore (lv' := [(5, .int (N (122 + 3 * i + 1))), (4, .int 0), (2, .long (sumF N)), (0, .ref (gad Γ 475)), (1, .int (nI i))]) hx hb dL_fills_23 hl (by decide) rfl (fun ls hl => ?_)
  refine lv_aload_n hx hb dL_fills_25 rfl (lv_at hl 3 rfl) ?_
  refine lv_iload_n hx hb dL_fills_26 rfl (lv_at hl 4 rfl) ?_
  refine lv_iconst (v := 2) hx hb dL_fills_27 (by decide) ?_
  refine l_call (X := 178) (K := 179) (CC := 382) (As := [.ref (gad Γ 475), .int (nI i), .int 2]) (rest := []) (st1 := [.int (N (122 + 3 * i + 2))]) hF (r_wagon (N := N) (Hy := Hy) (k := k) (w := w) hst hN hu0 (a := (nI i)) (d := 2) (i := i) (j := 2) rfl rfl hi (by decide)) (va_cwS 3 hts qL_wagon rfl rfl rfl (by decide +kernel) ⟨Nat.le_of_ble_eq_true rfl, Nat.le_of_ble_eq_true rfl⟩) hK hZ hX hY hG hS rfl hl.1 (Nat.le_of_ble_eq_true rfl) dL_fills_28 ⟨Nat.le_of_ble_eq_true rfl, Nat.le_of_ble_eq_true rfl⟩ (by omega) (by omega) rfl rfl (fun H locs hG hS => ?_)
  refine lv_istore (lv' := [(6, .int (N (122 + 3 * i + 2))), (5, .int (N (122 + 3 * i + 1))), (4, .int 0), (2, .long (sumF N)), (0, .ref (gad Γ 475)), (1, .int (nI i))]) hx hb dL_fills_31 hl (by decide) rfl (fun ls hl => ?_)
  refine lv_aload_n hx hb dL_fills_33 rfl (lv_at hl 4 rfl) ?_
  refine lv_bipush (v := 9) hx hb dL_fills_34 (by decide) ?_
  refine l_call (X := 179) (K := 180) (CC := 382) (As := [.ref (gad Γ 475), .int 9]) (rest := []) (st1 := [.int (N 9)]) hF (r_about (N := N) (Hy := Hy) (k := k) (w := w) hst hN hu0 (a := 9) (j := 9) rfl (by decide)) (va_cwS 2 hts qL_about rfl rfl rfl (by decide +kernel) ⟨Nat.le_of_ble_eq_true rfl, Nat.le_of_ble_eq_true rfl⟩) hK hZ hX hY hG hS rfl hl.1 (Nat.le_of_ble_eq_true rfl) dL_fills_36 ⟨Nat.le_of_ble_eq_true rfl, Nat.le_of_ble_eq_true rfl⟩ (by omega) (by omega) rfl rfl (fun H locs hG hS => ?_)
  refine lv_istore (lv' := [(7, .int (N 9)), (6, .int (N (122 + 3 * i + 2))), (5, .int (N (122 + 3 * i + 1))), (4, .int 0), (2, .long (sumF N)), (0, .ref (gad Γ 475)), (1, .int (nI i))]) hx hb dL_fills_39 hl (by decide) rfl (fun ls hl => ?_)
  refine lv_iload hx hb dL_fills_41 (lv_at hl 3 rfl) ?_
  refine lv_iconst (v := 1) hx hb dL_fills_43 (by decide) ?_
  refine lv_icmp_ne (tgt := 51) hx hb dL_fills_44 (by decide) (fun c_1 => ?_) (fun c_1 => absurd c_1 (by decide))
  refine lv_iconst (v := 0) hx hb dL_fills_51 (by decide) ?_
  refine lv_iload hx hb dL_fills_52 (lv_at hl 1 rfl) ?_
  refine lv_if_ne (tgt := 61) hx hb dL_fills_54 (by decide) (fun c_2 => ?_) (fun c_2 => absurd c_2 hm)
  refine lv_iconst (v := 0) hx hb dL_fills_61 (by decide) ?_
  refine lv_icmp_ne (tgt := 119) hx hb dL_fills_62 (by decide) (fun c_3 => absurd (by decide) c_3) (fun c_3 => ?_)
  refine lv_iload hx hb dL_fills_65 (lv_at hl 3 rfl) ?_
  refine lv_iconst (v := 2) hx hb dL_fills_67 (by decide) ?_
  refine lv_icmp_ne (tgt := 85) hx hb dL_fills_68 (by decide) (fun c_4 => ?_) (fun c_4 => absurd c_4 (by decide))
  refine lv_iload hx hb dL_fills_85 (lv_at hl 3 rfl) ?_
  refine lv_iconst (v := 3) hx hb dL_fills_87 (by decide) ?_
  refine lv_icmp_ne (tgt := 98) hx hb dL_fills_88 (by decide) (fun c_5 => ?_) (fun c_5 => absurd c_5 (by decide))
  refine lv_iload hx hb dL_fills_98 (lv_at hl 3 rfl) ?_
  refine lv_iconst (v := 4) hx hb dL_fills_100 (by decide) ?_
  refine lv_icmp_ne (tgt := 115) hx hb dL_fills_101 (by decide) (fun c_6 => ?_) (fun c_6 => absurd c_6 (by decide))
  refine lv_iconst (v := 1) hx hb dL_fills_115 (by decide) ?_
  refine lv_goto (tgt := 120) hx hb dL_fills_116 (by decide) ?_
  refine lv_istore (lv' := [(8, .int 1), (7, .int (N 9)), (6, .int (N (122 + 3 * i + 2))), (5, .int (N (122 + 3 * i + 1))), (4, .int 0), (2, .long (sumF N)), (0, .ref (gad Γ 475)), (1, .int (nI i))]) hx hb dL_fills_120 hl (by decide) rfl (fun ls hl => ?_)
  refine lv_aload_n hx hb dL_fills_122 rfl (lv_at hl 6 rfl) ?_
  refine lv_bipush (v := 13) hx hb dL_fills_123 (by decide) ?_
  refine lv_iload_n hx hb dL_fills_125 rfl (lv_at hl 7 rfl) ?_
  refine lv_iconst (v := 0) hx hb dL_fills_126 (by decide) ?_
  refine lv_iconst (v := 0) hx hb dL_fills_127 (by decide) ?_
  refine lv_iconst (v := 0) hx hb dL_fills_128 (by decide) ?_
  refine l_call (X := 180) (K := 181) (CC := 382) (As := [.ref (gad Γ 475), .int 13, .int (nI i), .int 0, .int 0, .int 0]) (rest := []) (st1 := [.int (fX7_fillOn_v N i)]) hF (q_fill (l := l) (Γ := Γ) (N := N) (Hy := Hy) (k := k) (w := w) hst hN hu0 (a := (nI i)) rfl 0 hi hy (kN_0 hk)) (va_cwS 6 hts qL_call rfl rfl rfl (by decide +kernel) ⟨Nat.le_of_ble_eq_true rfl, Nat.le_of_ble_eq_true rfl⟩) hK hZ hX hY hG hS rfl hl.1 (Nat.le_of_ble_eq_true rfl) dL_fills_129 ⟨Nat.le_of_ble_eq_true rfl, Nat.le_of_ble_eq_true rfl⟩ (by omega) (by omega) rfl rfl (fun H locs hG hS => ?_)
  refine lv_istore (lv' := [(9, .int (fX7_fillOn_v N i)), (8, .int 1), (7, .int (N 9)), (6, .int (N (122 + 3 * i + 2))), (5, .int (N (122 + 3 * i + 1))), (4, .int 0), (2, .long (sumF N)), (0, .ref (gad Γ 475)), (1, .int (nI i))]) hx hb dL_fills_132 hl (by decide) rfl (fun ls hl => ?_)
  refine lv_iload hx hb dL_fills_134 (lv_at hl 5 rfl) ?_
  refine lv_if_le (tgt := 166) hx hb dL_fills_136 (by decide) (fun c_7 => ?_) (fun c_7 => absurd (by decide) c_7)
  refine lv_iload hx hb dL_fills_166 (lv_at hl 1 rfl) ?_
  refine lv_iload hx hb dL_fills_168 (lv_at hl 0 rfl) ?_
  refine lv_if_le (tgt := 259) hx hb dL_fills_170 (by decide) (fun c_8 => absurd c_8 hF0.2.1) (fun c_8 => ?_)
  refine lv_aload_n hx hb dL_fills_173 rfl (lv_at hl 7 rfl) ?_
  refine lv_iload_n hx hb dL_fills_174 rfl (lv_at hl 8 rfl) ?_
  refine lv_iconst (v := 1) hx hb dL_fills_175 (by decide) ?_
  refine l_call (X := 181) (K := 182) (CC := 382) (As := [.ref (gad Γ 475), .int (nI i), .int 1]) (rest := [.int 1]) (st1 := [.int ((fiS N i (fX7_fillOn_v N i)) (122 + 3 * i + 1)), .int 1]) hF (r_wagon (N := fiS N i (fX7_fillOn_v N i)) (Hy := cons N Hy) (k := kM 13 k + 1) (w := w) hst hF0.1 hu0 (a := (nI i)) (d := 1) (i := i) (j := 1) rfl rfl hiF (by decide)) (va_cwS 3 hts qL_wagon rfl rfl rfl (by decide +kernel) ⟨Nat.le_of_ble_eq_true rfl, Nat.le_of_ble_eq_true rfl⟩) hK hZ hX hY hG hS rfl hl.1 (Nat.le_of_ble_eq_true rfl) dL_fills_176 ⟨Nat.le_of_ble_eq_true rfl, Nat.le_of_ble_eq_true rfl⟩ (by omega) (by omega) rfl rfl (fun H locs hG hS => ?_)
  refine lv_iload hx hb dL_fills_179 (lv_at hl 4 rfl) ?_
  refine lv_iload hx hb dL_fills_181 (lv_at hl 0 rfl) ?_
  refine lv_iadd hx hb dL_fills_183 ?_
  refine lv_icmp_ne (tgt := 259) hx hb dL_fills_184 (by decide) (fun c_9 => absurd f1 c_9) (fun c_9 => ?_)
  refine lv_aload_n hx hb dL_fills_187 rfl (lv_at hl 7 rfl) ?_
  refine lv_iload_n hx hb dL_fills_188 rfl (lv_at hl 8 rfl) ?_
  refine lv_iconst (v := 2) hx hb dL_fills_189 (by decide) ?_
  refine l_call (X := 182) (K := 183) (CC := 382) (As := [.ref (gad Γ 475), .int (nI i), .int 2]) (rest := [.int 1]) (st1 := [.int ((fiS N i (fX7_fillOn_v N i)) (122 + 3 * i + 2)), .int 1]) hF (r_wagon (N := fiS N i (fX7_fillOn_v N i)) (Hy := cons N Hy) (k := kM 13 k + 1) (w := w) hst hF0.1 hu0 (a := (nI i)) (d := 2) (i := i) (j := 2) rfl rfl hiF (by decide)) (va_cwS 3 hts qL_wagon rfl rfl rfl (by decide +kernel) ⟨Nat.le_of_ble_eq_true rfl, Nat.le_of_ble_eq_true rfl⟩) hK hZ hX hY hG hS rfl hl.1 (Nat.le_of_ble_eq_true rfl) dL_fills_190 ⟨Nat.le_of_ble_eq_true rfl, Nat.le_of_ble_eq_true rfl⟩ (by omega) (by omega) rfl rfl (fun H locs hG hS => ?_)
  refine lv_iload hx hb dL_fills_193 (lv_at hl 3 rfl) ?_
  refine lv_iconst (v := 1) hx hb dL_fills_195 (by decide) ?_
  refine lv_isub hx hb dL_fills_196 ?_
  refine lv_icmp_ne (tgt := 259) hx hb dL_fills_197 (by decide) (fun c_10 => absurd f2 c_10) (fun c_10 => ?_)
  refine lv_aload_n hx hb dL_fills_200 rfl (lv_at hl 7 rfl) ?_
  refine lv_bipush (v := 9) hx hb dL_fills_201 (by decide) ?_
  refine l_call (X := 183) (K := 184) (CC := 382) (As := [.ref (gad Γ 475), .int 9]) (rest := [.int 1]) (st1 := [.int ((fiS N i (fX7_fillOn_v N i)) 9), .int 1]) hF (r_about (N := fiS N i (fX7_fillOn_v N i)) (Hy := cons N Hy) (k := kM 13 k + 1) (w := w) hst hF0.1 hu0 (a := 9) (j := 9) rfl (by decide)) (va_cwS 2 hts qL_about rfl rfl rfl (by decide +kernel) ⟨Nat.le_of_ble_eq_true rfl, Nat.le_of_ble_eq_true rfl⟩) hK hZ hX hY hG hS rfl hl.1 (Nat.le_of_ble_eq_true rfl) dL_fills_203 ⟨Nat.le_of_ble_eq_true rfl, Nat.le_of_ble_eq_true rfl⟩ (by omega) (by omega) rfl rfl (fun H locs hG hS => ?_)
  refine lv_iload hx hb dL_fills_206 (lv_at hl 2 rfl) ?_
  refine lv_iload hx hb dL_fills_208 (lv_at hl 0 rfl) ?_
  refine lv_iadd hx hb dL_fills_210 ?_
  refine lv_icmp_ne (tgt := 259) hx hb dL_fills_211 (by decide) (fun c_11 => absurd f9 c_11) (fun c_11 => ?_)
  refine lv_aload_n hx hb dL_fills_214 rfl (lv_at hl 7 rfl) ?_
  refine lv_bipush (v := 9) hx hb dL_fills_215 (by decide) ?_
  refine l_call (X := 184) (K := 185) (CC := 382) (As := [.ref (gad Γ 475), .int 9]) (rest := [.int 1]) (st1 := [.int ((fiS N i (fX7_fillOn_v N i)) 9), .int 1]) hF (r_about (N := fiS N i (fX7_fillOn_v N i)) (Hy := cons N Hy) (k := kM 13 k + 1) (w := w) hst hF0.1 hu0 (a := 9) (j := 9) rfl (by decide)) (va_cwS 2 hts qL_about rfl rfl rfl (by decide +kernel) ⟨Nat.le_of_ble_eq_true rfl, Nat.le_of_ble_eq_true rfl⟩) hK hZ hX hY hG hS rfl hl.1 (Nat.le_of_ble_eq_true rfl) dL_fills_217 ⟨Nat.le_of_ble_eq_true rfl, Nat.le_of_ble_eq_true rfl⟩ (by omega) (by omega) rfl rfl (fun H locs hG hS => ?_)
  refine lv_aload_n hx hb dL_fills_220 rfl (lv_at hl 7 rfl) ?_
  refine lv_bipush (v := 8) hx hb dL_fills_221 (by decide) ?_
  refine l_call (X := 185) (K := 186) (CC := 382) (As := [.ref (gad Γ 475), .int 8]) (rest := [.int ((fiS N i (fX7_fillOn_v N i)) 9), .int 1]) (st1 := [.int ((fiS N i (fX7_fillOn_v N i)) 8), .int ((fiS N i (fX7_fillOn_v N i)) 9), .int 1]) hF (r_about (N := fiS N i (fX7_fillOn_v N i)) (Hy := cons N Hy) (k := kM 13 k + 1) (w := w) hst hF0.1 hu0 (a := 8) (j := 8) rfl (by decide)) (va_cwS 2 hts qL_about rfl rfl rfl (by decide +kernel) ⟨Nat.le_of_ble_eq_true rfl, Nat.le_of_ble_eq_true rfl⟩) hK hZ hX hY hG hS rfl hl.1 (Nat.le_of_ble_eq_true rfl) dL_fills_223 ⟨Nat.le_of_ble_eq_true rfl, Nat.le_of_ble_eq_true rfl⟩ (by omega) (by omega) rfl rfl (fun H locs hG hS => ?_)
  refine lv_icmp_gt (tgt := 259) hx hb dL_fills_226 (by decide) (fun c_12 => absurd c_12 (by rw [f9, f8]; exact hF0.2.2.1)) (fun c_12 => ?_)
  refine lv_aload_n hx hb dL_fills_229 rfl (lv_at hl 7 rfl) ?_
  refine lv_iload_n hx hb dL_fills_230 rfl (lv_at hl 8 rfl) ?_
  refine lv_iconst (v := 1) hx hb dL_fills_231 (by decide) ?_
  refine l_call (X := 186) (K := 187) (CC := 382) (As := [.ref (gad Γ 475), .int (nI i), .int 1]) (rest := [.int 1]) (st1 := [.int ((fiS N i (fX7_fillOn_v N i)) (122 + 3 * i + 1)), .int 1]) hF (r_wagon (N := fiS N i (fX7_fillOn_v N i)) (Hy := cons N Hy) (k := kM 13 k + 1) (w := w) hst hF0.1 hu0 (a := (nI i)) (d := 1) (i := i) (j := 1) rfl rfl hiF (by decide)) (va_cwS 3 hts qL_wagon rfl rfl rfl (by decide +kernel) ⟨Nat.le_of_ble_eq_true rfl, Nat.le_of_ble_eq_true rfl⟩) hK hZ hX hY hG hS rfl hl.1 (Nat.le_of_ble_eq_true rfl) dL_fills_232 ⟨Nat.le_of_ble_eq_true rfl, Nat.le_of_ble_eq_true rfl⟩ (by omega) (by omega) rfl rfl (fun H locs hG hS => ?_)
  refine lv_bipush (v := 20) hx hb dL_fills_235 (by decide) ?_
  refine lv_icmp_eq (tgt := 255) hx hb dL_fills_237 (by decide) (fun c_13 => ?_) (fun c_13 => ?_)
  · --T
    refine lv_iconst (v := 1) hx hb dL_fills_255 (by decide) ?_
    refine lv_goto (tgt := 260) hx hb dL_fills_256 (by decide) ?_
    refine lv_iand hx hb dL_fills_260 ?_
    refine g_top (y := 1) (show (1 &&& 1 : Int32) = 1 from rfl) ?_
    refine lv_istore (lv' := [(8, .int 1), (9, .int (fX7_fillOn_v N i)), (7, .int (N 9)), (6, .int (N (122 + 3 * i + 2))), (5, .int (N (122 + 3 * i + 1))), (4, .int 0), (2, .long (sumF N)), (0, .ref (gad Γ 475)), (1, .int (nI i))]) hx hb dL_fills_261 hl (by decide) rfl (fun ls hl => ?_)
    refine lv_iload hx hb dL_fills_263 (lv_at hl 0 rfl) ?_
    refine lv_if_eq (tgt := 294) hx hb dL_fills_265 (by decide) (fun c_14 => absurd c_14 (by decide)) (fun c_14 => ?_)
    refine lv_aload_n hx hb dL_fills_268 rfl (lv_at hl 7 rfl) ?_
    refine lv_bipush (v := 15) hx hb dL_fills_269 (by decide) ?_
    refine lv_iconst (v := 0) hx hb dL_fills_271 (by decide) ?_
    refine lv_iconst (v := 0) hx hb dL_fills_272 (by decide) ?_
    refine lv_iconst (v := 0) hx hb dL_fills_273 (by decide) ?_
    refine lv_iconst (v := 0) hx hb dL_fills_274 (by decide) ?_
    refine l_call (X := 187) (K := 188) (CC := 382) (As := [.ref (gad Γ 475), .int 15, .int 0, .int 0, .int 0, .int 0]) (rest := []) (st1 := [.int (nI (kM 13 k))]) hF (q_undo (l := l) (Γ := Γ) (N := N) (Hy := Hy) (k := (kM 13 k)) (w := w) (P := (fiS N i (fX7_fillOn_v N i))) hN 0 0) (va_cwS 6 hts qL_call rfl rfl rfl (by decide +kernel) ⟨Nat.le_of_ble_eq_true rfl, Nat.le_of_ble_eq_true rfl⟩) hK hZ hX hY hG hS rfl hl.1 (Nat.le_of_ble_eq_true rfl) dL_fills_275 ⟨Nat.le_of_ble_eq_true rfl, Nat.le_of_ble_eq_true rfl⟩ (by omega) (by omega) rfl rfl (fun H locs hG hS => ?_)
    refine lv_if_lt (tgt := 294) hx hb dL_fills_278 (by decide) (fun c_15 => absurd c_15 (kM_nn 13 0 k (by decide))) (fun c_15 => ?_)
    refine lv_aload_n hx hb dL_fills_281 rfl (lv_at hl 7 rfl) ?_
    refine l_call (X := 188) (K := 364) (CC := 382) (As := [.ref (gad Γ 475)]) (rest := []) (st1 := [.long (sumF N)]) hF (L_sum (N := N) (Hy := Hy) (k := kM 13 k) (w := w) hst hN hu0) (va_cwS 1 hts qL_sum rfl rfl rfl (by decide +kernel) ⟨Nat.le_of_ble_eq_true rfl, Nat.le_of_ble_eq_true rfl⟩) hK hZ hX hY hG hS rfl hl.1 (Nat.le_of_ble_eq_true rfl) dL_fills_282 ⟨Nat.le_of_ble_eq_true rfl, Nat.le_of_ble_eq_true rfl⟩ (by omega) (by omega) rfl rfl (fun H locs hG hS => ?_)
    refine lv_lload_n hx hb dL_fills_285 rfl (lv_at hl 6 rfl) ?_
    refine W.lcmp hx hb dL_fills_286 ?_
    refine gl_ne (tgt := 294) hx hb dL_fills_287 (by decide) (fun c_16 => absurd rfl c_16) (fun c_16 => ?_)
    refine lv_iconst (v := 1) hx hb dL_fills_290 (by decide) ?_
    refine lv_goto (tgt := 295) hx hb dL_fills_291 (by decide) ?_
    exact l_zret hx hb hrt hlocks hS hG (by decide) rfl (by omega) dL_fills_295
  · --F
    refine lv_aload_n hx hb dL_fills_240 rfl (lv_at hl 7 rfl) ?_
    refine lv_bipush (v := 9) hx hb dL_fills_241 (by decide) ?_
    refine l_call (X := 187) (K := 188) (CC := 382) (As := [.ref (gad Γ 475), .int 9]) (rest := [.int 1]) (st1 := [.int ((fiS N i (fX7_fillOn_v N i)) 9), .int 1]) hF (r_about (N := fiS N i (fX7_fillOn_v N i)) (Hy := cons N Hy) (k := kM 13 k + 1) (w := w) hst hF0.1 hu0 (a := 9) (j := 9) rfl (by decide)) (va_cwS 2 hts qL_about rfl rfl rfl (by decide +kernel) ⟨Nat.le_of_ble_eq_true rfl, Nat.le_of_ble_eq_true rfl⟩) hK hZ hX hY hG hS rfl hl.1 (Nat.le_of_ble_eq_true rfl) dL_fills_243 ⟨Nat.le_of_ble_eq_true rfl, Nat.le_of_ble_eq_true rfl⟩ (by omega) (by omega) rfl rfl (fun H locs hG hS => ?_)
    refine lv_aload_n hx hb dL_fills_246 rfl (lv_at hl 7 rfl) ?_
    refine lv_bipush (v := 8) hx hb dL_fills_247 (by decide) ?_
    refine l_call (X := 188) (K := 189) (CC := 382) (As := [.ref (gad Γ 475), .int 8]) (rest := [.int ((fiS N i (fX7_fillOn_v N i)) 9), .int 1]) (st1 := [.int ((fiS N i (fX7_fillOn_v N i)) 8), .int ((fiS N i (fX7_fillOn_v N i)) 9), .int 1]) hF (r_about (N := fiS N i (fX7_fillOn_v N i)) (Hy := cons N Hy) (k := kM 13 k + 1) (w := w) hst hF0.1 hu0 (a := 8) (j := 8) rfl (by decide)) (va_cwS 2 hts qL_about rfl rfl rfl (by decide +kernel) ⟨Nat.le_of_ble_eq_true rfl, Nat.le_of_ble_eq_true rfl⟩) hK hZ hX hY hG hS rfl hl.1 (Nat.le_of_ble_eq_true rfl) dL_fills_249 ⟨Nat.le_of_ble_eq_true rfl, Nat.le_of_ble_eq_true rfl⟩ (by omega) (by omega) rfl rfl (fun H locs hG hS => ?_)
    refine lv_icmp_ne (tgt := 259) hx hb dL_fills_252 (by decide) (fun c_17 => absurd (by rw [f9, f8]; exact hF0.2.2.2 (by rw [← f1]; exact c_13)) c_17) (fun c_17 => ?_)
    refine lv_iconst (v := 1) hx hb dL_fills_255 (by decide) ?_
    refine lv_goto (tgt := 260) hx hb dL_fills_256 (by decide) ?_
    refine lv_iand hx hb dL_fills_260 ?_
    refine g_top (y := 1) (show (1 &&& 1 : Int32) = 1 from rfl) ?_
    refine lv_istore (lv' := [(8, .int 1), (9, .int (fX7_fillOn_v N i)), (7, .int (N 9)), (6, .int (N (122 + 3 * i + 2))), (5, .int (N (122 + 3 * i + 1))), (4, .int 0), (2, .long (sumF N)), (0, .ref (gad Γ 475)), (1, .int (nI i))]) hx hb dL_fills_261 hl (by decide) rfl (fun ls hl => ?_)
    refine lv_iload hx hb dL_fills_263 (lv_at hl 0 rfl) ?_
    refine lv_if_eq (tgt := 294) hx hb dL_fills_265 (by decide) (fun c_18 => absurd c_18 (by decide)) (fun c_18 => ?_)
    refine lv_aload_n hx hb dL_fills_268 rfl (lv_at hl 7 rfl) ?_
    refine lv_bipush (v := 15) hx hb dL_fills_269 (by decide) ?_
    refine lv_iconst (v := 0) hx hb dL_fills_271 (by decide) ?_
    refine lv_iconst (v := 0) hx hb dL_fills_272 (by decide) ?_
    refine lv_iconst (v := 0) hx hb dL_fills_273 (by decide) ?_
    refine lv_iconst (v := 0) hx hb dL_fills_274 (by decide) ?_
    refine l_call (X := 189) (K := 190) (CC := 382) (As := [.ref (gad Γ 475), .int 15, .int 0, .int 0, .int 0, .int 0]) (rest := []) (st1 := [.int (nI (kM 13 k))]) hF (q_undo (l := l) (Γ := Γ) (N := N) (Hy := Hy) (k := (kM 13 k)) (w := w) (P := (fiS N i (fX7_fillOn_v N i))) hN 0 0) (va_cwS 6 hts qL_call rfl rfl rfl (by decide +kernel) ⟨Nat.le_of_ble_eq_true rfl, Nat.le_of_ble_eq_true rfl⟩) hK hZ hX hY hG hS rfl hl.1 (Nat.le_of_ble_eq_true rfl) dL_fills_275 ⟨Nat.le_of_ble_eq_true rfl, Nat.le_of_ble_eq_true rfl⟩ (by omega) (by omega) rfl rfl (fun H locs hG hS => ?_)
    refine lv_if_lt (tgt := 294) hx hb dL_fills_278 (by decide) (fun c_19 => absurd c_19 (kM_nn 13 0 k (by decide))) (fun c_19 => ?_)
    refine lv_aload_n hx hb dL_fills_281 rfl (lv_at hl 7 rfl) ?_
    refine l_call (X := 190) (K := 366) (CC := 382) (As := [.ref (gad Γ 475)]) (rest := []) (st1 := [.long (sumF N)]) hF (L_sum (N := N) (Hy := Hy) (k := kM 13 k) (w := w) hst hN hu0) (va_cwS 1 hts qL_sum rfl rfl rfl (by decide +kernel) ⟨Nat.le_of_ble_eq_true rfl, Nat.le_of_ble_eq_true rfl⟩) hK hZ hX hY hG hS rfl hl.1 (Nat.le_of_ble_eq_true rfl) dL_fills_282 ⟨Nat.le_of_ble_eq_true rfl, Nat.le_of_ble_eq_true rfl⟩ (by omega) (by omega) rfl rfl (fun H locs hG hS => ?_)
    refine lv_lload_n hx hb dL_fills_285 rfl (lv_at hl 6 rfl) ?_
    refine W.lcmp hx hb dL_fills_286 ?_
    refine gl_ne (tgt := 294) hx hb dL_fills_287 (by decide) (fun c_20 => absurd rfl c_20) (fun c_20 => ?_)
    refine lv_iconst (v := 1) hx hb dL_fills_290 (by decide) ?_
    refine lv_goto (tgt := 295) hx hb dL_fills_291 (by decide) ?_
    exact l_zret hx hb hrt hlocks hS hG (by decide) rfl (by omega) dL_fills_295

/-- what is left of the remembered states -/
def kF (N : Nat → Int32) (i k : Nat) : Nat := if fX7_why_v N i = 0 then kM 13 k else k
theorem kF_14 (N : Nat → Int32) (i : Nat) {k : Nat} (h : k ≤ 14) : kF N i k ≤ 14 := by
  unfold kF
  split
  · exact kM_14 _ h
  · exact h
theorem L_fills {l : Launch} {Γ : gX} (hst : l.stackTraces = false) {u : Nat} {N : Nat → Int32} {Hy : Nat → Nat → Int32} {k : Nat} {w : WO} (hN : PI u N) (hu : 1998 * (u + 10000) < 2 ^ 31) (hk : k ≤ 14) {i : Nat} (hi : i < (N 2).toNatClampNeg) : lM l Γ yL_fills wqL_fills 13 296 382 [.ref (gad Γ 475), .int (nI i)] (SH Γ N Hy k w) (some (.int 1)) (SH Γ N Hy (kF N i k) w) := by
  have b2 := hN.w3.2
  have b0 := hN.s10.2
  have i3 : i < 3 := by omega
  unfold kF
  rcases why_cases N i with ⟨hm, hy⟩ | ⟨hm, ⟨h2, hy⟩ | ⟨h2, hy⟩ | ⟨h2, hy⟩ | hy⟩
  · rw [if_neg (show ¬ fX7_why_v N i = 0 by rw [hy]; decide)]
    exact L_fills_1 hst hN hu hk hi hy hm
  · rw [if_neg (show ¬ fX7_why_v N i = 0 by rw [hy]; decide)]
    exact L_fills_2 hst hN hu hk hi hy hm (hN.2.2.2 i i3) (hN.nw i3 0 9 (by omega) rfl (j := 122 + 3 * i) rfl).1 h2
  · rw [if_neg (show ¬ fX7_why_v N i = 0 by rw [hy]; decide)]
    exact L_fills_3 hst hN hu hk hi hy hm h2
  · rw [if_neg (show ¬ fX7_why_v N i = 0 by rw [hy]; decide)]
    exact L_fills_4 hst hN hu hk hi hy hm h2
  · rw [if_pos hy]
    exact L_fills_0 hst hN hu hk hi hy hm
