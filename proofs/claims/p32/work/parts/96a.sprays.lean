/-! THE LAW: bySpray, sprays. Laid by gen/r96.py. -/
set_option maxRecDepth 16384
theorem la_eq (P : Nat → Int32) : ∀ n, fX7_nextForAll_A1 P n = laF P n
  | 0 => rfl
  | n + 1 => by
    show fX7_nextForAll_A1 P n + P (82 + 5 * n + 4) = laF P n + P (82 + 5 * n + 4)
    rw [la_eq P n]
theorem laF_nn {u : Nat} {P : Nat → Int32} (h : PI u P) : ∀ n, n ≤ 8 → nn (1998 * n) (laF P n)
  | 0, _ => nn.of (n := 0) rfl (by omega) (by decide)
  | n + 1, hn => by
    have := (laF_nn h n (by omega)).add (h.nh (i := n) (by omega) 4 1998 (by omega) rfl rfl) (by omega)
    exact this.le (by omega)
/-- the best segment is one where it can, and no other is better -/
theorem gB_spec (N : Nat → Int32) (i : Nat) (d : Int32) (S : Nat) (hV : ∀ s, s < S → ¬ gN N i d s → ¬ gV N i d s = -9) (hS : S ≤ 10) : ∀ n, n ≤ S → ((gB N i d n).1 = -9 ∧ ∀ s, s < n → gN N i d s) ∨ ∃ b, b < n ∧ (gB N i d n).1 = nI b ∧ ¬ gN N i d b ∧ (gB N i d n).2 = gV N i d b ∧ ∀ s, s < n → ¬ gN N i d s → ¬ gV N i d s < gV N i d b
  | 0, _ => Or.inl ⟨rfl, fun s hs => absurd hs (Nat.not_lt_zero s)⟩
  | n + 1, hn => by
    have ih := gB_spec N i d S hV hS n (by omega)
    unfold gB
    generalize gB N i d n = B at ih ⊢
    by_cases g1 : fX7_driveOn_v N i (nI n) = 0
    · simp only [if_pos g1]
      rcases ih with ⟨a, b⟩ | ⟨b, h1, h2, h3, h4, h5⟩
      · refine Or.inl ⟨a, fun s hs => ?_⟩
        rcases Nat.lt_or_ge s n with q | q
        · exact b s q
        · rw [show s = n by omega]; exact Or.inl g1
      · refine Or.inr ⟨b, by omega, h2, h3, h4, fun s hs hg => ?_⟩
        rcases Nat.lt_or_ge s n with q | q
        · exact h5 s q hg
        · rw [show s = n by omega] at hg; exact absurd (Or.inl g1) hg
    by_cases g2 : fX7_sprayOn_v (fX7_driveOn_P N i (nI n)) i d = 0
    · simp only [if_neg g1, if_pos g2]
      rcases ih with ⟨a, b⟩ | ⟨b, h1, h2, h3, h4, h5⟩
      · refine Or.inl ⟨a, fun s hs => ?_⟩
        rcases Nat.lt_or_ge s n with q | q
        · exact b s q
        · rw [show s = n by omega]; exact Or.inr g2
      · refine Or.inr ⟨b, by omega, h2, h3, h4, fun s hs hg => ?_⟩
        rcases Nat.lt_or_ge s n with q | q
        · exact h5 s q hg
        · rw [show s = n by omega] at hg; exact absurd (Or.inr g2) hg
    simp only [if_neg g1, if_neg g2]
    have gn : ¬ gN N i d n := fun q => q.elim g1 g2
    rcases ih with ⟨a, b⟩ | ⟨b, h1, h2, h3, h4, h5⟩
    · simp only [if_pos a]
      refine Or.inr ⟨n, by omega, rfl, gn, rfl, fun s hs hg => ?_⟩
      rcases Nat.lt_or_ge s n with q | q
      · exact absurd (b s q) hg
      · rw [show s = n by omega]; exact Int32.lt_irrefl
    · have b9 : ¬ B.1 = -9 := by rw [h2]; exact wx_m9 (by omega)
      simp only [if_neg b9]
      rw [h4]
      by_cases q1 : gV N i d n < gV N i d b
      · simp only [if_pos q1]
        refine Or.inr ⟨n, by omega, rfl, gn, rfl, fun s hs hg => ?_⟩
        rcases Nat.lt_or_ge s n with q | q
        · exact fun z => h5 s q hg (Int32.lt_trans z q1)
        · rw [show s = n by omega]; exact Int32.lt_irrefl
      · simp only [if_neg q1]
        have keep : ∀ s, s < n + 1 → ¬ gN N i d s → ¬ gV N i d s < gV N i d b := fun s hs hg => by
          rcases Nat.lt_or_ge s n with q | q
          · exact h5 s q hg
          · rw [show s = n by omega]; exact q1
        by_cases q2 : gV N i d n = gV N i d b
        · simp only [if_pos q2]
          by_cases q3 : fX7_far_v N i B.1 ≤ fX7_far_v N i (nI n)
          · simp only [if_pos q3]
            exact Or.inr ⟨b, by omega, h2, h3, rfl, keep⟩
          · simp only [if_neg q3]
            exact Or.inr ⟨n, by omega, rfl, gn, rfl, fun s hs hg => by rw [q2]; exact keep s hs hg⟩
        · simp only [if_neg q2]
          exact Or.inr ⟨b, by omega, h2, h3, rfl, keep⟩
section Spr
variable {u : Nat} {N : Nat → Int32} {i sg x : Nat}
theorem drv_PI (hN : PI u N) (hi : i < (N 2).toNatClampNeg) (hs : sg < (N 0).toNatClampNeg) : PI u (fX7_driveOn_P N i (nI sg)) ∧ ∀ j, j < 122 → fX7_driveOn_P N i (nI sg) j = N j := by
  have b0 := hN.s10.2
  obtain ⟨-, a, b, -⟩ := mv_Rl (P := N) (fun _ _ => rfl) hN hi (sg := nI sg) (nn.of rfl (by omega) (by decide)) (by rw [nI_clamp (by omega)]; exact hs)
  exact ⟨a, b⟩
theorem spr_PI (hN : PI u N) (hu : 9 * (u + 1) < 2 ^ 31) (hi : i < (N 2).toNatClampNeg) (h1 : 1 ≤ x) (h2 : x ≤ 9) : PI (u + 1) (fX7_sprayOn_P N i (nI x)) ∧ ∀ j, (j < 11 ∨ (82 ≤ j ∧ j < 122)) → fX7_sprayOn_P N i (nI x) j = N j := by
  obtain ⟨-, a, b⟩ := sp_Rl (P := N) (fun _ _ => rfl) hN hu hi (d := nI x) (nn.of rfl (by omega) (by decide)) (by rw [nI_clamp (by omega)]; exact h1)
  exact ⟨a, b⟩
end Spr
set_option maxHeartbeats 4000000 in
set_option maxRecDepth 100000 in
theorem L_bySpray_D {l : Launch} {Γ : gX} (hst : l.stackTraces = false) {u : Nat} {N : Nat → Int32} {Hy : Nat → Nat → Int32} {k : Nat} {w : WO} (hN : PI u N) (hu : 1998 * (u + 10000) < 2 ^ 31) (hk : k ≤ 14) {i sg x : Nat} (hi : i < (N 2).toNatClampNeg) (hsg : sg < (N 0).toNatClampNeg) (h1 : 1 ≤ x) (h2 : x ≤ 9) (hv : fX7_driveOn_v N i (nI sg) = 0) : lM l Γ yL_bySpray wqL_bySpray 13 296 30 [.ref (gad Γ 475), .int (nI i), .int (nI sg), .int (nI x)] (SH Γ N Hy k w) (some (.int (-9))) (SH Γ N Hy k w) := by
  refine l_start (cc := cL_bySpray) (maxL := 5) (ret := (some .int)) (by decide) rfl (Nat.le_of_ble_eq_true rfl) ?_
  intro p e s m below meth c ls hx hb hml hrt hts hown hlocks hK hZ hX hY hG hS hl
  have hl : lv_has ls 5 [(0, .ref (gad Γ 475)), (1, .int (nI i)), (2, .int (nI sg)), (3, .int (nI x))] := hl
  have hown : s.vm.findClass RL = some m.cls := hown
  have hF : CallFix p m c cL_bySpray 5 s _ wqL_bySpray RL := ⟨hx, hb, hml, hown, hts⟩
  have hu0 : 1998 * (u + 5000) < 2 ^ 31 := by omega
  refine lv_aload_n hx hb dL_bySpray_0 rfl (lv_at hl 0 rfl) ?_
  refine lv_bipush (v := 11) hx hb dL_bySpray_1 (by decide) ?_
  refine lv_iload_n hx hb dL_bySpray_3 rfl (lv_at hl 1 rfl) ?_
  refine lv_iload_n hx hb dL_bySpray_4 rfl (lv_at hl 2 rfl) ?_
  refine lv_iconst (v := 0) hx hb dL_bySpray_5 (by decide) ?_
  refine lv_iconst (v := 0) hx hb dL_bySpray_6 (by decide) ?_
  refine l_call (X := 0) (K := 1) (CC := 30) (As := [.ref (gad Γ 475), .int 11, .int (nI i), .int (nI sg), .int 0, .int 0]) (rest := []) (st1 := [.int (-9999003)]) hF (q_drive_no (l := l) (Γ := Γ) (N := N) (Hy := Hy) (k := k) (w := w) hst hN hu0 (a := (nI i)) (d := (nI sg)) rfl rfl hi hsg hv) (va_cwS 6 hts qL_call rfl rfl rfl (by decide +kernel) ⟨Nat.le_of_ble_eq_true rfl, Nat.le_of_ble_eq_true rfl⟩) hK hZ hX hY hG hS rfl hl.1 (Nat.le_of_ble_eq_true rfl) dL_bySpray_7 ⟨Nat.le_of_ble_eq_true rfl, Nat.le_of_ble_eq_true rfl⟩ (by omega) (by omega) rfl rfl (fun H locs hG hS => ?_)
  refine lv_if_ge (tgt := 16) hx hb dL_bySpray_10 (by decide) (fun c_1 => absurd c_1 (by decide)) (fun c_1 => ?_)
  refine lv_bipush (v := (-9)) hx hb dL_bySpray_13 (by decide) ?_
  exact l_iret hx hb hrt hlocks hS hG rfl (by omega) dL_bySpray_15

set_option maxHeartbeats 4000000 in
set_option maxRecDepth 100000 in
theorem L_bySpray_S {l : Launch} {Γ : gX} (hst : l.stackTraces = false) {u : Nat} {N : Nat → Int32} {Hy : Nat → Nat → Int32} {k : Nat} {w : WO} (hN : PI u N) (hu : 1998 * (u + 10000) < 2 ^ 31) (hk : k ≤ 14) {i sg x : Nat} (hi : i < (N 2).toNatClampNeg) (hsg : sg < (N 0).toNatClampNeg) (h1 : 1 ≤ x) (h2 : x ≤ 9) (hv : ¬ fX7_driveOn_v N i (nI sg) = 0) (hw : fX7_sprayOn_v (fX7_driveOn_P N i (nI sg)) i (nI x) = 0) : lM l Γ yL_bySpray wqL_bySpray 13 296 30 [.ref (gad Γ 475), .int (nI i), .int (nI sg), .int (nI x)] (SH Γ N Hy k w) (some (.int (-9))) (SH Γ N Hy (kM 13 k) w) := by
  refine l_start (cc := cL_bySpray) (maxL := 5) (ret := (some .int)) (by decide) rfl (Nat.le_of_ble_eq_true rfl) ?_
  intro p e s m below meth c ls hx hb hml hrt hts hown hlocks hK hZ hX hY hG hS hl
  have hl : lv_has ls 5 [(0, .ref (gad Γ 475)), (1, .int (nI i)), (2, .int (nI sg)), (3, .int (nI x))] := hl
  have hown : s.vm.findClass RL = some m.cls := hown
  have hF : CallFix p m c cL_bySpray 5 s _ wqL_bySpray RL := ⟨hx, hb, hml, hown, hts⟩
  have hu0 : 1998 * (u + 5000) < 2 ^ 31 := by omega
  have hD := drv_PI hN hi hsg
  have hiD : i < ((fX7_driveOn_P N i (nI sg)) 2).toNatClampNeg := by rw [hD.2 2 (by decide)]; exact hi
  refine lv_aload_n hx hb dL_bySpray_0 rfl (lv_at hl 0 rfl) ?_
  refine lv_bipush (v := 11) hx hb dL_bySpray_1 (by decide) ?_
  refine lv_iload_n hx hb dL_bySpray_3 rfl (lv_at hl 1 rfl) ?_
  refine lv_iload_n hx hb dL_bySpray_4 rfl (lv_at hl 2 rfl) ?_
  refine lv_iconst (v := 0) hx hb dL_bySpray_5 (by decide) ?_
  refine lv_iconst (v := 0) hx hb dL_bySpray_6 (by decide) ?_
  refine l_call (X := 0) (K := 1) (CC := 30) (As := [.ref (gad Γ 475), .int 11, .int (nI i), .int (nI sg), .int 0, .int 0]) (rest := []) (st1 := [.int ((fX7_driveOn_P N i (nI sg)) (122 + 3 * i + 2))]) hF (q_drive (l := l) (Γ := Γ) (N := N) (Hy := Hy) (k := k) (w := w) hst hN hu0 (a := (nI i)) (d := (nI sg)) rfl rfl hi hsg hv (kN_0 hk)) (va_cwS 6 hts qL_call rfl rfl rfl (by decide +kernel) ⟨Nat.le_of_ble_eq_true rfl, Nat.le_of_ble_eq_true rfl⟩) hK hZ hX hY hG hS rfl hl.1 (Nat.le_of_ble_eq_true rfl) dL_bySpray_7 ⟨Nat.le_of_ble_eq_true rfl, Nat.le_of_ble_eq_true rfl⟩ (by omega) (by omega) rfl rfl (fun H locs hG hS => ?_)
  refine lv_if_ge (tgt := 16) hx hb dL_bySpray_10 (by decide) (fun c_1 => ?_) (fun c_1 => absurd (Int32.not_lt.mp (q_driveO_nn hN hu0 hi hsg hv)) c_1)
  refine lv_bipush (v := (-9)) hx hb dL_bySpray_16 (by decide) ?_
  refine lv_istore (lv' := [(4, .int (-9)), (0, .ref (gad Γ 475)), (1, .int (nI i)), (2, .int (nI sg)), (3, .int (nI x))]) hx hb dL_bySpray_18 hl (by decide) rfl (fun ls hl => ?_)
  refine lv_aload_n hx hb dL_bySpray_20 rfl (lv_at hl 1 rfl) ?_
  refine lv_bipush (v := 12) hx hb dL_bySpray_21 (by decide) ?_
  refine lv_iload_n hx hb dL_bySpray_23 rfl (lv_at hl 2 rfl) ?_
  refine lv_iload_n hx hb dL_bySpray_24 rfl (lv_at hl 4 rfl) ?_
  refine lv_iconst (v := 0) hx hb dL_bySpray_25 (by decide) ?_
  refine lv_iconst (v := 0) hx hb dL_bySpray_26 (by decide) ?_
  refine l_call (X := 1) (K := 2) (CC := 30) (As := [.ref (gad Γ 475), .int 12, .int (nI i), .int (nI x), .int 0, .int 0]) (rest := []) (st1 := [.int (-9999003)]) hF (q_spray_no (l := l) (Γ := Γ) (N := fX7_driveOn_P N i (nI sg)) (Hy := cons N Hy) (k := kM 13 k + 1) (w := w) hst hD.1 hu0 (a := (nI i)) (d := (nI x)) rfl rfl hiD h1 h2 hw) (va_cwS 6 hts qL_call rfl rfl rfl (by decide +kernel) ⟨Nat.le_of_ble_eq_true rfl, Nat.le_of_ble_eq_true rfl⟩) hK hZ hX hY hG hS rfl hl.1 (Nat.le_of_ble_eq_true rfl) dL_bySpray_27 ⟨Nat.le_of_ble_eq_true rfl, Nat.le_of_ble_eq_true rfl⟩ (by omega) (by omega) rfl rfl (fun H locs hG hS => ?_)
  refine lv_if_lt (tgt := 72) hx hb dL_bySpray_30 (by decide) (fun c_2 => ?_) (fun c_2 => absurd (by decide) c_2)
  refine lv_aload_n hx hb dL_bySpray_72 rfl (lv_at hl 1 rfl) ?_
  refine lv_bipush (v := 15) hx hb dL_bySpray_73 (by decide) ?_
  refine lv_iconst (v := 0) hx hb dL_bySpray_75 (by decide) ?_
  refine lv_iconst (v := 0) hx hb dL_bySpray_76 (by decide) ?_
  refine lv_iconst (v := 0) hx hb dL_bySpray_77 (by decide) ?_
  refine lv_iconst (v := 0) hx hb dL_bySpray_78 (by decide) ?_
  refine l_call (X := 2) (K := 3) (CC := 30) (As := [.ref (gad Γ 475), .int 15, .int 0, .int 0, .int 0, .int 0]) (rest := []) (st1 := [.int (nI (kM 13 k))]) hF (q_undo (l := l) (Γ := Γ) (N := N) (Hy := Hy) (k := (kM 13 k)) (w := w) (P := (fX7_driveOn_P N i (nI sg))) hN 0 0) (va_cwS 6 hts qL_call rfl rfl rfl (by decide +kernel) ⟨Nat.le_of_ble_eq_true rfl, Nat.le_of_ble_eq_true rfl⟩) hK hZ hX hY hG hS rfl hl.1 (Nat.le_of_ble_eq_true rfl) dL_bySpray_79 ⟨Nat.le_of_ble_eq_true rfl, Nat.le_of_ble_eq_true rfl⟩ (by omega) (by omega) rfl rfl (fun H locs hG hS => ?_)
  refine lv_pop hx hb dL_bySpray_82 rfl ?_
  refine lv_iload hx hb dL_bySpray_83 (lv_at hl 0 rfl) ?_
  exact l_iret hx hb hrt hlocks hS hG rfl (by omega) dL_bySpray_85

set_option maxHeartbeats 4000000 in
set_option maxRecDepth 100000 in
theorem L_bySpray_Y {l : Launch} {Γ : gX} (hst : l.stackTraces = false) {u : Nat} {N : Nat → Int32} {Hy : Nat → Nat → Int32} {k : Nat} {w : WO} (hN : PI u N) (hu : 1998 * (u + 10000) < 2 ^ 31) (hk : k ≤ 14) {i sg x : Nat} (hi : i < (N 2).toNatClampNeg) (hsg : sg < (N 0).toNatClampNeg) (h1 : 1 ≤ x) (h2 : x ≤ 9) (hv : ¬ fX7_driveOn_v N i (nI sg) = 0) (hw : ¬ fX7_sprayOn_v (fX7_driveOn_P N i (nI sg)) i (nI x) = 0) : lM l Γ yL_bySpray wqL_bySpray 13 296 30 [.ref (gad Γ 475), .int (nI i), .int (nI sg), .int (nI x)] (SH Γ N Hy k w) (some (.int (gV N i (nI x) sg))) (SH Γ N Hy (kM 11 k) w) := by
  refine l_start (cc := cL_bySpray) (maxL := 5) (ret := (some .int)) (by decide) rfl (Nat.le_of_ble_eq_true rfl) ?_
  intro p e s m below meth c ls hx hb hml hrt hts hown hlocks hK hZ hX hY hG hS hl
  have hl : lv_has ls 5 [(0, .ref (gad Γ 475)), (1, .int (nI i)), (2, .int (nI sg)), (3, .int (nI x))] := hl
  have hown : s.vm.findClass RL = some m.cls := hown
  have hF : CallFix p m c cL_bySpray 5 s _ wqL_bySpray RL := ⟨hx, hb, hml, hown, hts⟩
  have hu0 : 1998 * (u + 5000) < 2 ^ 31 := by omega
  have hD := drv_PI hN hi hsg
  have hiD : i < ((fX7_driveOn_P N i (nI sg)) 2).toNatClampNeg := by rw [hD.2 2 (by decide)]; exact hi
  have hSP := spr_PI hD.1 (by omega) hiD h1 h2
  have hQ := pass_PI hSP.1 1 (by omega)
  have hu1 : 1998 * (u + 1 + 5000) < 2 ^ 31 := by omega
  have huQ : 1998 * (u + 1 + 17 * 1 + 5000) < 2 ^ 31 := by omega
  refine lv_aload_n hx hb dL_bySpray_0 rfl (lv_at hl 0 rfl) ?_
  refine lv_bipush (v := 11) hx hb dL_bySpray_1 (by decide) ?_
  refine lv_iload_n hx hb dL_bySpray_3 rfl (lv_at hl 1 rfl) ?_
  refine lv_iload_n hx hb dL_bySpray_4 rfl (lv_at hl 2 rfl) ?_
  refine lv_iconst (v := 0) hx hb dL_bySpray_5 (by decide) ?_
  refine lv_iconst (v := 0) hx hb dL_bySpray_6 (by decide) ?_
  refine l_call (X := 0) (K := 1) (CC := 30) (As := [.ref (gad Γ 475), .int 11, .int (nI i), .int (nI sg), .int 0, .int 0]) (rest := []) (st1 := [.int ((fX7_driveOn_P N i (nI sg)) (122 + 3 * i + 2))]) hF (q_drive (l := l) (Γ := Γ) (N := N) (Hy := Hy) (k := k) (w := w) hst hN hu0 (a := (nI i)) (d := (nI sg)) rfl rfl hi hsg hv (kN_0 hk)) (va_cwS 6 hts qL_call rfl rfl rfl (by decide +kernel) ⟨Nat.le_of_ble_eq_true rfl, Nat.le_of_ble_eq_true rfl⟩) hK hZ hX hY hG hS rfl hl.1 (Nat.le_of_ble_eq_true rfl) dL_bySpray_7 ⟨Nat.le_of_ble_eq_true rfl, Nat.le_of_ble_eq_true rfl⟩ (by omega) (by omega) rfl rfl (fun H locs hG hS => ?_)
  refine lv_if_ge (tgt := 16) hx hb dL_bySpray_10 (by decide) (fun c_1 => ?_) (fun c_1 => absurd (Int32.not_lt.mp (q_driveO_nn hN hu0 hi hsg hv)) c_1)
  refine lv_bipush (v := (-9)) hx hb dL_bySpray_16 (by decide) ?_
  refine lv_istore (lv' := [(4, .int (-9)), (0, .ref (gad Γ 475)), (1, .int (nI i)), (2, .int (nI sg)), (3, .int (nI x))]) hx hb dL_bySpray_18 hl (by decide) rfl (fun ls hl => ?_)
  refine lv_aload_n hx hb dL_bySpray_20 rfl (lv_at hl 1 rfl) ?_
  refine lv_bipush (v := 12) hx hb dL_bySpray_21 (by decide) ?_
  refine lv_iload_n hx hb dL_bySpray_23 rfl (lv_at hl 2 rfl) ?_
  refine lv_iload_n hx hb dL_bySpray_24 rfl (lv_at hl 4 rfl) ?_
  refine lv_iconst (v := 0) hx hb dL_bySpray_25 (by decide) ?_
  refine lv_iconst (v := 0) hx hb dL_bySpray_26 (by decide) ?_
  refine l_call (X := 1) (K := 2) (CC := 30) (As := [.ref (gad Γ 475), .int 12, .int (nI i), .int (nI x), .int 0, .int 0]) (rest := []) (st1 := [.int (v_spray (fX7_driveOn_P N i (nI sg)) (nI i) (nI x))]) hF (q_sprayO (l := l) (Γ := Γ) (N := fX7_driveOn_P N i (nI sg)) (Hy := cons N Hy) (k := kM 13 k + 1) (w := w) hst hD.1 hu0 (a := (nI i)) (d := (nI x)) rfl rfl hiD h1 h2 hw (kN_M (d := 13) (d' := 12) (n := 1) (k := k) (by decide) (by decide) (by decide))) (va_cwS 6 hts qL_call rfl rfl rfl (by decide +kernel) ⟨Nat.le_of_ble_eq_true rfl, Nat.le_of_ble_eq_true rfl⟩) hK hZ hX hY hG hS rfl hl.1 (Nat.le_of_ble_eq_true rfl) dL_bySpray_27 ⟨Nat.le_of_ble_eq_true rfl, Nat.le_of_ble_eq_true rfl⟩ (by omega) (by omega) rfl rfl (fun H locs hG hS => ?_)
  refine lv_if_lt (tgt := 72) hx hb dL_bySpray_30 (by decide) (fun c_2 => absurd c_2 (q_sprayO_nn hD.1 hu0 hiD h1 h2 hw)) (fun c_2 => ?_)
  refine lv_aload_n hx hb dL_bySpray_33 rfl (lv_at hl 1 rfl) ?_
  refine lv_bipush (v := 14) hx hb dL_bySpray_34 (by decide) ?_
  refine lv_iconst (v := 1) hx hb dL_bySpray_36 (by decide) ?_
  refine lv_iconst (v := 0) hx hb dL_bySpray_37 (by decide) ?_
  refine lv_iconst (v := 0) hx hb dL_bySpray_38 (by decide) ?_
  refine lv_iconst (v := 0) hx hb dL_bySpray_39 (by decide) ?_
  refine l_call (X := 2) (K := 3) (CC := 30) (As := [.ref (gad Γ 475), .int 14, .int 1, .int 0, .int 0, .int 0]) (rest := []) (st1 := [.int (fX7_pass_L (fX7_sprayOn_P (fX7_driveOn_P N i (nI sg)) i (nI x)) 1 10 - (fX7_sprayOn_P (fX7_driveOn_P N i (nI sg)) i (nI x)) 10)]) hF (q_pass (l := l) (Γ := Γ) (N := fX7_sprayOn_P (fX7_driveOn_P N i (nI sg)) i (nI x)) (Hy := cons (fX7_driveOn_P N i (nI sg)) (cons N Hy)) (k := kM 12 k + 2) (w := w) hst hSP.1 hu1 (a := 1) rfl 0 (by decide) (by decide) (kN_M (d := 12) (d' := 11) (n := 2) (k := k) (by decide) (by decide) (by decide))) (va_cwS 6 hts qL_call rfl rfl rfl (by decide +kernel) ⟨Nat.le_of_ble_eq_true rfl, Nat.le_of_ble_eq_true rfl⟩) hK hZ hX hY hG hS rfl hl.1 (Nat.le_of_ble_eq_true rfl) dL_bySpray_40 ⟨Nat.le_of_ble_eq_true rfl, Nat.le_of_ble_eq_true rfl⟩ (by omega) (by omega) rfl rfl (fun H locs hG hS => ?_)
  refine lv_pop hx hb dL_bySpray_43 rfl ?_
  refine lv_aload_n hx hb dL_bySpray_44 rfl (lv_at hl 1 rfl) ?_
  refine l_call (X := 3) (K := 21) (CC := 30) (As := [.ref (gad Γ 475)]) (rest := []) (st1 := [.int (laF (fX7_pass_L (fX7_sprayOn_P (fX7_driveOn_P N i (nI sg)) i (nI x)) 1) ((fX7_pass_L (fX7_sprayOn_P (fX7_driveOn_P N i (nI sg)) i (nI x)) 1) 1).toNatClampNeg)]) hF (L_latest (N := fX7_pass_L (fX7_sprayOn_P (fX7_driveOn_P N i (nI sg)) i (nI x)) 1) (Hy := cons (fX7_sprayOn_P (fX7_driveOn_P N i (nI sg)) i (nI x)) (cons (fX7_driveOn_P N i (nI sg)) (cons N Hy))) (k := kM 11 k + 3) (w := w) hst hQ huQ) (va_cwS 1 hts qL_latest rfl rfl rfl (by decide +kernel) ⟨Nat.le_of_ble_eq_true rfl, Nat.le_of_ble_eq_true rfl⟩) hK hZ hX hY hG hS rfl hl.1 (Nat.le_of_ble_eq_true rfl) dL_bySpray_45 ⟨Nat.le_of_ble_eq_true rfl, Nat.le_of_ble_eq_true rfl⟩ (by omega) (by omega) rfl rfl (fun H locs hG hS => ?_)
  refine lv_istore (lv' := [(4, .int (laF (fX7_pass_L (fX7_sprayOn_P (fX7_driveOn_P N i (nI sg)) i (nI x)) 1) ((fX7_pass_L (fX7_sprayOn_P (fX7_driveOn_P N i (nI sg)) i (nI x)) 1) 1).toNatClampNeg)), (0, .ref (gad Γ 475)), (1, .int (nI i)), (2, .int (nI sg)), (3, .int (nI x))]) hx hb dL_bySpray_48 hl (by decide) rfl (fun ls hl => ?_)
  refine lv_aload_n hx hb dL_bySpray_50 rfl (lv_at hl 1 rfl) ?_
  refine lv_bipush (v := 15) hx hb dL_bySpray_51 (by decide) ?_
  refine lv_iconst (v := 0) hx hb dL_bySpray_53 (by decide) ?_
  refine lv_iconst (v := 0) hx hb dL_bySpray_54 (by decide) ?_
  refine lv_iconst (v := 0) hx hb dL_bySpray_55 (by decide) ?_
  refine lv_iconst (v := 0) hx hb dL_bySpray_56 (by decide) ?_
  refine l_call (X := 21) (K := 22) (CC := 30) (As := [.ref (gad Γ 475), .int 15, .int 0, .int 0, .int 0, .int 0]) (rest := []) (st1 := [.int (nI (kM 11 k + 2))]) hF (q_undo (l := l) (Γ := Γ) (N := (fX7_sprayOn_P (fX7_driveOn_P N i (nI sg)) i (nI x))) (Hy := (cons (fX7_driveOn_P N i (nI sg)) (cons N Hy))) (k := (kM 11 k + 2)) (w := w) (P := (fX7_pass_L (fX7_sprayOn_P (fX7_driveOn_P N i (nI sg)) i (nI x)) 1)) hSP.1 0 0) (va_cwS 6 hts qL_call rfl rfl rfl (by decide +kernel) ⟨Nat.le_of_ble_eq_true rfl, Nat.le_of_ble_eq_true rfl⟩) hK hZ hX hY hG hS rfl hl.1 (Nat.le_of_ble_eq_true rfl) dL_bySpray_57 ⟨Nat.le_of_ble_eq_true rfl, Nat.le_of_ble_eq_true rfl⟩ (by omega) (by omega) rfl rfl (fun H locs hG hS => ?_)
  refine lv_pop hx hb dL_bySpray_60 rfl ?_
  refine lv_aload_n hx hb dL_bySpray_61 rfl (lv_at hl 1 rfl) ?_
  refine lv_bipush (v := 15) hx hb dL_bySpray_62 (by decide) ?_
  refine lv_iconst (v := 0) hx hb dL_bySpray_64 (by decide) ?_
  refine lv_iconst (v := 0) hx hb dL_bySpray_65 (by decide) ?_
  refine lv_iconst (v := 0) hx hb dL_bySpray_66 (by decide) ?_
  refine lv_iconst (v := 0) hx hb dL_bySpray_67 (by decide) ?_
  refine l_call (X := 22) (K := 23) (CC := 30) (As := [.ref (gad Γ 475), .int 15, .int 0, .int 0, .int 0, .int 0]) (rest := []) (st1 := [.int (nI (kM 11 k + 1))]) hF (q_undo (l := l) (Γ := Γ) (N := (fX7_driveOn_P N i (nI sg))) (Hy := (cons N Hy)) (k := (kM 11 k + 1)) (w := w) (P := (fX7_sprayOn_P (fX7_driveOn_P N i (nI sg)) i (nI x))) hD.1 0 0) (va_cwS 6 hts qL_call rfl rfl rfl (by decide +kernel) ⟨Nat.le_of_ble_eq_true rfl, Nat.le_of_ble_eq_true rfl⟩) hK hZ hX hY hG hS rfl hl.1 (Nat.le_of_ble_eq_true rfl) dL_bySpray_68 ⟨Nat.le_of_ble_eq_true rfl, Nat.le_of_ble_eq_true rfl⟩ (by omega) (by omega) rfl rfl (fun H locs hG hS => ?_)
  refine lv_pop hx hb dL_bySpray_71 rfl ?_
  refine lv_aload_n hx hb dL_bySpray_72 rfl (lv_at hl 1 rfl) ?_
  refine lv_bipush (v := 15) hx hb dL_bySpray_73 (by decide) ?_
  refine lv_iconst (v := 0) hx hb dL_bySpray_75 (by decide) ?_
  refine lv_iconst (v := 0) hx hb dL_bySpray_76 (by decide) ?_
  refine lv_iconst (v := 0) hx hb dL_bySpray_77 (by decide) ?_
  refine lv_iconst (v := 0) hx hb dL_bySpray_78 (by decide) ?_
  refine l_call (X := 23) (K := 24) (CC := 30) (As := [.ref (gad Γ 475), .int 15, .int 0, .int 0, .int 0, .int 0]) (rest := []) (st1 := [.int (nI (kM 11 k))]) hF (q_undo (l := l) (Γ := Γ) (N := N) (Hy := Hy) (k := (kM 11 k)) (w := w) (P := (fX7_driveOn_P N i (nI sg))) hN 0 0) (va_cwS 6 hts qL_call rfl rfl rfl (by decide +kernel) ⟨Nat.le_of_ble_eq_true rfl, Nat.le_of_ble_eq_true rfl⟩) hK hZ hX hY hG hS rfl hl.1 (Nat.le_of_ble_eq_true rfl) dL_bySpray_79 ⟨Nat.le_of_ble_eq_true rfl, Nat.le_of_ble_eq_true rfl⟩ (by omega) (by omega) rfl rfl (fun H locs hG hS => ?_)
  refine lv_pop hx hb dL_bySpray_82 rfl ?_
  refine lv_iload hx hb dL_bySpray_83 (lv_at hl 0 rfl) ?_
  exact l_iret hx hb hrt hlocks hS hG (la_eq _ _).symm (by omega) dL_bySpray_85

/-- what is left of the remembered states after the first n segments -/
noncomputable def kSp (N : Nat → Int32) (i : Nat) (d : Int32) (k0 : Nat) : Nat → Nat
  | 0 => k0
  | n + 1 => if fX7_driveOn_v N i (nI n) = 0 then kSp N i d k0 n else if fX7_sprayOn_v (fX7_driveOn_P N i (nI n)) i d = 0 then kM 13 (kSp N i d k0 n) else kM 11 (kSp N i d k0 n)
theorem kSp_14 (N : Nat → Int32) (i : Nat) (d : Int32) {k0 : Nat} (h : k0 ≤ 14) : ∀ n, kSp N i d k0 n ≤ 14
  | 0 => h
  | n + 1 => by
    have ih := kSp_14 N i d h n
    unfold kSp
    (repeat' split) <;> first | exact ih | exact kM_14 _ ih
theorem gV_nn {u : Nat} {N : Nat → Int32} (hN : PI u N) (hu : 1998 * (u + 10000) < 2 ^ 31) {i s x : Nat} (hi : i < (N 2).toNatClampNeg) (hs : s < (N 0).toNatClampNeg) (h1 : 1 ≤ x) (h2 : x ≤ 9) : ¬ gV N i (nI x) s = -9 ∧ ¬ gV N i (nI x) s < 0 := by
  have hD := drv_PI hN hi hs
  have hSP := spr_PI hD.1 (by omega) (by rw [hD.2 2 (by decide)]; exact hi) h1 h2
  have hQ := pass_PI hSP.1 1 (by omega)
  have b8 := hQ.h8.2
  have n := laF_nn hQ _ b8
  rw [← la_eq] at n
  have n : nn (1998 * 8) (gV N i (nI x) s) := n.le (by omega)
  have z := n.not_neg (by decide)
  exact ⟨fun e => by rw [e] at z; exact z (by decide), z⟩
set_option maxHeartbeats 4000000 in
set_option maxRecDepth 100000 in
theorem L_sprays_N {l : Launch} {Γ : gX} (hst : l.stackTraces = false) {u : Nat} {N : Nat → Int32} {Hy : Nat → Nat → Int32} {k : Nat} {w : WO} (hN : PI u N) (hu : 1998 * (u + 10000) < 2 ^ 31) (hk : k ≤ 14) {i x : Nat} (hi : i < (N 2).toNatClampNeg) (hx1 : 1 ≤ x) (hx2 : x ≤ 9) (hw0 : v_bestSpray N (nI i) (nI x) = -9) (hno : ∀ s, s < (N 0).toNatClampNeg → gN N i (nI x) s) : lM l Γ yL_sprays wqL_sprays 14 330 704 [.ref (gad Γ 475), .int (nI i), .int (nI x)] (SH Γ N Hy k w) (some (.int 1)) (SH Γ N Hy (kSp N i (nI x) (k) (N 0).toNatClampNeg) w) := by
  refine l_start (cc := cL_sprays) (maxL := 10) (ret := (some .boolean)) (by decide) rfl (Nat.le_of_ble_eq_true rfl) ?_
  intro p e s m below meth c ls hx hb hml hrt hts hown hlocks hK hZ hX hY hG hS hl
  have hl : lv_has ls 10 [(0, .ref (gad Γ 475)), (1, .int (nI i)), (2, .int (nI x))] := hl
  have hown : s.vm.findClass RL = some m.cls := hown
  have hF : CallFix p m c cL_sprays 10 s _ wqL_sprays RL := ⟨hx, hb, hml, hown, hts⟩
  have hu0 : 1998 * (u + 5000) < 2 ^ 31 := by omega
  have b0 := hN.s10.2
  refine lv_aload_n hx hb dL_sprays_0 rfl (lv_at hl 0 rfl) ?_
  refine l_call (X := 0) (K := 176) (CC := 704) (As := [.ref (gad Γ 475)]) (rest := []) (st1 := [.long (sumF N)]) hF (L_sum (N := N) (Hy := Hy) (k := k) (w := w) hst hN hu0) (va_cwS 1 hts qL_sum rfl rfl rfl (by decide +kernel) ⟨Nat.le_of_ble_eq_true rfl, Nat.le_of_ble_eq_true rfl⟩) hK hZ hX hY hG hS rfl hl.1 (Nat.le_of_ble_eq_true rfl) dL_sprays_1 ⟨Nat.le_of_ble_eq_true rfl, Nat.le_of_ble_eq_true rfl⟩ (by omega) (by omega) rfl rfl (fun H locs hG hS => ?_)
  refine lv_lstore_n (lv' := [(3, .long (sumF N)), (0, .ref (gad Γ 475)), (1, .int (nI i)), (2, .int (nI x))]) hx hb dL_sprays_4 rfl hl (by decide) rfl (fun ls hl => ?_)
  refine lv_aload_n hx hb dL_sprays_5 rfl (lv_at hl 1 rfl) ?_
  refine lv_bipush (v := 20) hx hb dL_sprays_6 (by decide) ?_
  refine lv_iload_n hx hb dL_sprays_8 rfl (lv_at hl 2 rfl) ?_
  refine lv_iload_n hx hb dL_sprays_9 rfl (lv_at hl 3 rfl) ?_
  refine lv_iconst (v := 0) hx hb dL_sprays_10 (by decide) ?_
  refine lv_iconst (v := 0) hx hb dL_sprays_11 (by decide) ?_
  refine l_call (X := 176) (K := 177) (CC := 704) (As := [.ref (gad Γ 475), .int 20, .int (nI i), .int (nI x), .int 0, .int 0]) (rest := []) (st1 := [.int (v_bestSpray N (nI i) (nI x))]) hF (q_best (l := l) (Γ := Γ) (N := N) (Hy := Hy) (k := k) (w := w) hst hN hu0 (a := (nI i)) (d := (nI x)) rfl rfl hi hx1 hx2) (va_cwS 6 hts qL_call rfl rfl rfl (by decide +kernel) ⟨Nat.le_of_ble_eq_true rfl, Nat.le_of_ble_eq_true rfl⟩) hK hZ hX hY hG hS rfl hl.1 (Nat.le_of_ble_eq_true rfl) dL_sprays_12 ⟨Nat.le_of_ble_eq_true rfl, Nat.le_of_ble_eq_true rfl⟩ (by omega) (by omega) rfl rfl (fun H locs hG hS => ?_)
  refine g_top (y := (-9)) hw0 ?_
  refine lv_istore (lv' := [(5, .int (-9)), (3, .long (sumF N)), (0, .ref (gad Γ 475)), (1, .int (nI i)), (2, .int (nI x))]) hx hb dL_sprays_15 hl (by decide) rfl (fun ls hl => ?_)
  refine lv_iload hx hb dL_sprays_17 (lv_at hl 0 rfl) ?_
  refine lv_bipush (v := (-9)) hx hb dL_sprays_19 (by decide) ?_
  refine lv_icmp_ne (tgt := 29) hx hb dL_sprays_21 (by decide) (fun c_1 => absurd (by decide) c_1) (fun c_1 => ?_)
  refine lv_bipush (v := (-9)) hx hb dL_sprays_24 (by decide) ?_
  refine lv_goto (tgt := 37) hx hb dL_sprays_26 (by decide) ?_
  refine lv_istore (lv' := [(6, .int (-9)), (5, .int (-9)), (3, .long (sumF N)), (0, .ref (gad Γ 475)), (1, .int (nI i)), (2, .int (nI x))]) hx hb dL_sprays_37 hl (by decide) rfl (fun ls hl => ?_)
  refine lv_iload hx hb dL_sprays_39 (lv_at hl 1 rfl) ?_
  refine lv_bipush (v := (-9)) hx hb dL_sprays_41 (by decide) ?_
  refine lv_icmp_eq (tgt := 51) hx hb dL_sprays_43 (by decide) (fun c_2 => ?_) (fun c_2 => absurd (by decide) c_2)
  refine lv_iconst (v := 1) hx hb dL_sprays_51 (by decide) ?_
  refine lv_goto (tgt := 56) hx hb dL_sprays_52 (by decide) ?_
  refine lv_istore (lv' := [(7, .int 1), (6, .int (-9)), (5, .int (-9)), (3, .long (sumF N)), (0, .ref (gad Γ 475)), (1, .int (nI i)), (2, .int (nI x))]) hx hb dL_sprays_56 hl (by decide) rfl (fun ls hl => ?_)
  refine lv_iconst (v := 0) hx hb dL_sprays_58 (by decide) ?_
  refine lv_istore (lv' := [(8, .int 0), (7, .int 1), (6, .int (-9)), (5, .int (-9)), (3, .long (sumF N)), (0, .ref (gad Γ 475)), (1, .int (nI i)), (2, .int (nI x))]) hx hb dL_sprays_59 hl (by decide) rfl (fun ls hl => ?_)
  refine loopN ((N 0).toNatClampNeg) (177) 31 (fun t H locs ls => (SH Γ N Hy (kSp N i (nI x) (k) t) w) H ∧ va_S (gA Γ) s.heap H locs ∧ lv_has ls 10 [(0, .ref (gad Γ 475)), (1, .int (nI i)), (2, .int (nI x)), (3, .long (sumF N)), (5, .int (-9)), (6, .int (-9)), (7, .int 1), (8, .int (nI t))]) 61 (fun t ht H locs ls hInv next => ?_) (fun H locs ls hInv => ?_) ((N 0).toNatClampNeg) 0 (Nat.zero_add _) _ _ _ ⟨hG, hS, lv_sub hl [5, 6, 7, 4, 3, 2, 1, 0] rfl⟩
  · --turn
    obtain ⟨hG, hS, hl⟩ := hInv
    refine lv_iload hx hb dL_sprays_61 (lv_at hl 7 rfl) ?_
    refine lv_aload_n hx hb dL_sprays_63 rfl (lv_at hl 0 rfl) ?_
    refine lv_iconst (v := 0) hx hb dL_sprays_64 (by decide) ?_
    refine l_call (X := 177 + 31 * t) (K := 178 + 31 * t) (CC := 704) (As := [.ref (gad Γ 475), .int 0]) (rest := [.int (nI t)]) (st1 := [.int (N 0), .int (nI t)]) hF (r_about (N := N) (Hy := Hy) (k := kSp N i (nI x) (k) t) (w := w) hst hN hu0 (a := 0) (j := 0) rfl (by decide)) (va_cwS 2 hts qL_about rfl rfl rfl (by decide +kernel) ⟨Nat.le_of_ble_eq_true rfl, Nat.le_of_ble_eq_true rfl⟩) hK hZ hX hY hG hS rfl hl.1 (Nat.le_of_ble_eq_true rfl) dL_sprays_65 ⟨Nat.le_of_ble_eq_true rfl, Nat.le_of_ble_eq_true rfl⟩ (by omega) (by omega) rfl rfl (fun H locs hG hS => ?_)
    refine lv_icmp_ge (tgt := 118) hx hb dL_sprays_68 (by decide) (fun c_3 => absurd c_3 (lt_cnt hN.s10 (by decide) ht)) (fun c_3 => ?_)
    by_cases hv : fX7_driveOn_v N i (nI t) = 0
    · --can not drive
      have ek : kSp N i (nI x) (k) (t + 1) = kSp N i (nI x) (k) t := if_pos hv
      rw [ek] at next
      refine lv_aload_n hx hb dL_sprays_71 rfl (lv_at hl 0 rfl) ?_
      refine lv_iload_n hx hb dL_sprays_72 rfl (lv_at hl 1 rfl) ?_
      refine lv_iload hx hb dL_sprays_73 (lv_at hl 7 rfl) ?_
      refine lv_iload_n hx hb dL_sprays_75 rfl (lv_at hl 2 rfl) ?_
      refine l_call (X := 178 + 31 * t) (K := 208 + 31 * t) (CC := 704) (As := [.ref (gad Γ 475), .int (nI i), .int (nI t), .int (nI x)]) (rest := []) (st1 := [.int (-9)]) hF (L_bySpray_D (N := N) (Hy := Hy) (k := kSp N i (nI x) (k) t) (w := w) hst hN hu (kSp_14 N i (nI x) hk t) hi ht hx1 hx2 hv) (va_cwS 4 hts qL_bySpray rfl rfl rfl (by decide +kernel) ⟨Nat.le_of_ble_eq_true rfl, Nat.le_of_ble_eq_true rfl⟩) hK hZ hX hY hG hS rfl hl.1 (Nat.le_of_ble_eq_true rfl) dL_sprays_76 ⟨Nat.le_of_ble_eq_true rfl, Nat.le_of_ble_eq_true rfl⟩ (by omega) (by omega) rfl rfl (fun H locs hG hS => ?_)
      refine lv_istore (lv' := [(9, .int (-9)), (0, .ref (gad Γ 475)), (1, .int (nI i)), (2, .int (nI x)), (3, .long (sumF N)), (5, .int (-9)), (6, .int (-9)), (7, .int 1), (8, .int (nI t))]) hx hb dL_sprays_79 hl (by decide) rfl (fun ls hl => ?_)
      refine lv_iload hx hb dL_sprays_81 (lv_at hl 7 rfl) ?_
      refine lv_iload hx hb dL_sprays_83 (lv_at hl 0 rfl) ?_
      refine lv_bipush (v := (-9)) hx hb dL_sprays_85 (by decide) ?_
      refine lv_icmp_eq (tgt := 104) hx hb dL_sprays_87 (by decide) (fun c_4 => ?_) (fun c_4 => absurd (by decide) c_4)
      refine lv_iconst (v := 1) hx hb dL_sprays_104 (by decide) ?_
      refine lv_goto (tgt := 109) hx hb dL_sprays_105 (by decide) ?_
      refine lv_iand hx hb dL_sprays_109 ?_
      refine g_top (y := 1) (show (1 &&& 1 : Int32) = 1 from rfl) ?_
      refine lv_istore (lv' := [(7, .int 1), (9, .int (-9)), (0, .ref (gad Γ 475)), (1, .int (nI i)), (2, .int (nI x)), (3, .long (sumF N)), (5, .int (-9)), (6, .int (-9)), (8, .int (nI t))]) hx hb dL_sprays_110 hl (by decide) rfl (fun ls hl => ?_)
      refine lv_iinc (v := nI (t + 1)) (lv' := [(8, .int (nI (t + 1))), (7, .int 1), (9, .int (-9)), (0, .ref (gad Γ 475)), (1, .int (nI i)), (2, .int (nI x)), (3, .long (sumF N)), (5, .int (-9)), (6, .int (-9))]) hx hb dL_sprays_112 hl (k := 8) rfl (nI_1 _) (by decide) rfl (fun ls hl => ?_)
      refine lv_goto (tgt := 61) hx hb dL_sprays_115 (by decide) ?_
      refine W.widen (k := 177 + 31 * (t + 1)) (n := 6 * (177 + 31 * (t + 1))) (by omega) (by omega) (next _ _ _ ⟨hG, hS, lv_sub hl [3, 4, 5, 6, 7, 8, 1, 0] rfl⟩)
    · have hw : fX7_sprayOn_v (fX7_driveOn_P N i (nI t)) i (nI x) = 0 := (hno t ht).resolve_left hv
      have ek : kSp N i (nI x) (k) (t + 1) = kM 13 (kSp N i (nI x) (k) t) := (if_neg hv).trans (if_pos hw)
      rw [ek] at next
      refine lv_aload_n hx hb dL_sprays_71 rfl (lv_at hl 0 rfl) ?_
      refine lv_iload_n hx hb dL_sprays_72 rfl (lv_at hl 1 rfl) ?_
      refine lv_iload hx hb dL_sprays_73 (lv_at hl 7 rfl) ?_
      refine lv_iload_n hx hb dL_sprays_75 rfl (lv_at hl 2 rfl) ?_
      refine l_call (X := 178 + 31 * t) (K := 208 + 31 * t) (CC := 704) (As := [.ref (gad Γ 475), .int (nI i), .int (nI t), .int (nI x)]) (rest := []) (st1 := [.int (-9)]) hF (L_bySpray_S (N := N) (Hy := Hy) (k := kSp N i (nI x) (k) t) (w := w) hst hN hu (kSp_14 N i (nI x) hk t) hi ht hx1 hx2 hv hw) (va_cwS 4 hts qL_bySpray rfl rfl rfl (by decide +kernel) ⟨Nat.le_of_ble_eq_true rfl, Nat.le_of_ble_eq_true rfl⟩) hK hZ hX hY hG hS rfl hl.1 (Nat.le_of_ble_eq_true rfl) dL_sprays_76 ⟨Nat.le_of_ble_eq_true rfl, Nat.le_of_ble_eq_true rfl⟩ (by omega) (by omega) rfl rfl (fun H locs hG hS => ?_)
      refine lv_istore (lv' := [(9, .int (-9)), (0, .ref (gad Γ 475)), (1, .int (nI i)), (2, .int (nI x)), (3, .long (sumF N)), (5, .int (-9)), (6, .int (-9)), (7, .int 1), (8, .int (nI t))]) hx hb dL_sprays_79 hl (by decide) rfl (fun ls hl => ?_)
      refine lv_iload hx hb dL_sprays_81 (lv_at hl 7 rfl) ?_
      refine lv_iload hx hb dL_sprays_83 (lv_at hl 0 rfl) ?_
      refine lv_bipush (v := (-9)) hx hb dL_sprays_85 (by decide) ?_
      refine lv_icmp_eq (tgt := 104) hx hb dL_sprays_87 (by decide) (fun c_5 => ?_) (fun c_5 => absurd (by decide) c_5)
      refine lv_iconst (v := 1) hx hb dL_sprays_104 (by decide) ?_
      refine lv_goto (tgt := 109) hx hb dL_sprays_105 (by decide) ?_
      refine lv_iand hx hb dL_sprays_109 ?_
      refine g_top (y := 1) (show (1 &&& 1 : Int32) = 1 from rfl) ?_
      refine lv_istore (lv' := [(7, .int 1), (9, .int (-9)), (0, .ref (gad Γ 475)), (1, .int (nI i)), (2, .int (nI x)), (3, .long (sumF N)), (5, .int (-9)), (6, .int (-9)), (8, .int (nI t))]) hx hb dL_sprays_110 hl (by decide) rfl (fun ls hl => ?_)
      refine lv_iinc (v := nI (t + 1)) (lv' := [(8, .int (nI (t + 1))), (7, .int 1), (9, .int (-9)), (0, .ref (gad Γ 475)), (1, .int (nI i)), (2, .int (nI x)), (3, .long (sumF N)), (5, .int (-9)), (6, .int (-9))]) hx hb dL_sprays_112 hl (k := 8) rfl (nI_1 _) (by decide) rfl (fun ls hl => ?_)
      refine lv_goto (tgt := 61) hx hb dL_sprays_115 (by decide) ?_
      refine W.widen (k := 177 + 31 * (t + 1)) (n := 6 * (177 + 31 * (t + 1))) (by omega) (by omega) (next _ _ _ ⟨hG, hS, lv_sub hl [3, 4, 5, 6, 7, 8, 1, 0] rfl⟩)
  · --out
    obtain ⟨hG, hS, hl⟩ := hInv
    refine W.widen (k := 487) (n := 6 * (487)) (by omega) (by omega) ?_
    refine lv_iload hx hb dL_sprays_61 (lv_at hl 7 rfl) ?_
    refine lv_aload_n hx hb dL_sprays_63 rfl (lv_at hl 0 rfl) ?_
    refine lv_iconst (v := 0) hx hb dL_sprays_64 (by decide) ?_
    refine l_call (X := 487) (K := 488) (CC := 704) (As := [.ref (gad Γ 475), .int 0]) (rest := [.int (nI ((N 0).toNatClampNeg))]) (st1 := [.int (N 0), .int (nI ((N 0).toNatClampNeg))]) hF (r_about (N := N) (Hy := Hy) (k := kSp N i (nI x) (k) ((N 0).toNatClampNeg)) (w := w) hst hN hu0 (a := 0) (j := 0) rfl (by decide)) (va_cwS 2 hts qL_about rfl rfl rfl (by decide +kernel) ⟨Nat.le_of_ble_eq_true rfl, Nat.le_of_ble_eq_true rfl⟩) hK hZ hX hY hG hS rfl hl.1 (Nat.le_of_ble_eq_true rfl) dL_sprays_65 ⟨Nat.le_of_ble_eq_true rfl, Nat.le_of_ble_eq_true rfl⟩ (by omega) (by omega) rfl rfl (fun H locs hG hS => ?_)
    refine lv_icmp_ge (tgt := 118) hx hb dL_sprays_68 (by decide) (fun c_6 => ?_) (fun c_6 => absurd (ge_cnt hN.s10 (by decide)) c_6)
    refine lv_iload hx hb dL_sprays_118 (lv_at hl 6 rfl) ?_
    refine lv_if_eq (tgt := 136) hx hb dL_sprays_120 (by decide) (fun c_7 => absurd c_7 (by decide)) (fun c_7 => ?_)
    refine lv_aload_n hx hb dL_sprays_123 rfl (lv_at hl 0 rfl) ?_
    refine l_call (X := 488) (K := 664) (CC := 704) (As := [.ref (gad Γ 475)]) (rest := []) (st1 := [.long (sumF N)]) hF (L_sum (N := N) (Hy := Hy) (k := kSp N i (nI x) (k) ((N 0).toNatClampNeg)) (w := w) hst hN hu0) (va_cwS 1 hts qL_sum rfl rfl rfl (by decide +kernel) ⟨Nat.le_of_ble_eq_true rfl, Nat.le_of_ble_eq_true rfl⟩) hK hZ hX hY hG hS rfl hl.1 (Nat.le_of_ble_eq_true rfl) dL_sprays_124 ⟨Nat.le_of_ble_eq_true rfl, Nat.le_of_ble_eq_true rfl⟩ (by omega) (by omega) rfl rfl (fun H locs hG hS => ?_)
    refine lv_lload_n hx hb dL_sprays_127 rfl (lv_at hl 3 rfl) ?_
    refine W.lcmp hx hb dL_sprays_128 ?_
    refine gl_ne (tgt := 136) hx hb dL_sprays_129 (by decide) (fun c_8 => absurd rfl c_8) (fun c_8 => ?_)
    refine lv_iconst (v := 1) hx hb dL_sprays_132 (by decide) ?_
    refine lv_goto (tgt := 137) hx hb dL_sprays_133 (by decide) ?_
    exact l_zret hx hb hrt hlocks hS hG (by decide) rfl (by omega) dL_sprays_137

set_option maxHeartbeats 4000000 in
set_option maxRecDepth 100000 in
theorem L_sprays_B {l : Launch} {Γ : gX} (hst : l.stackTraces = false) {u : Nat} {N : Nat → Int32} {Hy : Nat → Nat → Int32} {k : Nat} {w : WO} (hN : PI u N) (hu : 1998 * (u + 10000) < 2 ^ 31) (hk : k ≤ 14) {i x : Nat} (hi : i < (N 2).toNatClampNeg) (hx1 : 1 ≤ x) (hx2 : x ≤ 9) {b : Nat} (hbc : b < (N 0).toNatClampNeg) (hw0 : v_bestSpray N (nI i) (nI x) = nI b) (hbv : ¬ fX7_driveOn_v N i (nI b) = 0) (hbw : ¬ fX7_sprayOn_v (fX7_driveOn_P N i (nI b)) i (nI x) = 0) (hmin : ∀ s, s < (N 0).toNatClampNeg → ¬ gN N i (nI x) s → ¬ gV N i (nI x) s < gV N i (nI x) b) : lM l Γ yL_sprays wqL_sprays 14 330 704 [.ref (gad Γ 475), .int (nI i), .int (nI x)] (SH Γ N Hy k w) (some (.int 1)) (SH Γ N Hy (kSp N i (nI x) (kM 11 k) (N 0).toNatClampNeg) w) := by
  refine l_start (cc := cL_sprays) (maxL := 10) (ret := (some .boolean)) (by decide) rfl (Nat.le_of_ble_eq_true rfl) ?_
  intro p e s m below meth c ls hx hb hml hrt hts hown hlocks hK hZ hX hY hG hS hl
  have hl : lv_has ls 10 [(0, .ref (gad Γ 475)), (1, .int (nI i)), (2, .int (nI x))] := hl
  have hown : s.vm.findClass RL = some m.cls := hown
  have hF : CallFix p m c cL_sprays 10 s _ wqL_sprays RL := ⟨hx, hb, hml, hown, hts⟩
  have hu0 : 1998 * (u + 5000) < 2 ^ 31 := by omega
  have b0 := hN.s10.2
  refine lv_aload_n hx hb dL_sprays_0 rfl (lv_at hl 0 rfl) ?_
  refine l_call (X := 0) (K := 176) (CC := 704) (As := [.ref (gad Γ 475)]) (rest := []) (st1 := [.long (sumF N)]) hF (L_sum (N := N) (Hy := Hy) (k := k) (w := w) hst hN hu0) (va_cwS 1 hts qL_sum rfl rfl rfl (by decide +kernel) ⟨Nat.le_of_ble_eq_true rfl, Nat.le_of_ble_eq_true rfl⟩) hK hZ hX hY hG hS rfl hl.1 (Nat.le_of_ble_eq_true rfl) dL_sprays_1 ⟨Nat.le_of_ble_eq_true rfl, Nat.le_of_ble_eq_true rfl⟩ (by omega) (by omega) rfl rfl (fun H locs hG hS => ?_)
  refine lv_lstore_n (lv' := [(3, .long (sumF N)), (0, .ref (gad Γ 475)), (1, .int (nI i)), (2, .int (nI x))]) hx hb dL_sprays_4 rfl hl (by decide) rfl (fun ls hl => ?_)
  refine lv_aload_n hx hb dL_sprays_5 rfl (lv_at hl 1 rfl) ?_
  refine lv_bipush (v := 20) hx hb dL_sprays_6 (by decide) ?_
  refine lv_iload_n hx hb dL_sprays_8 rfl (lv_at hl 2 rfl) ?_
  refine lv_iload_n hx hb dL_sprays_9 rfl (lv_at hl 3 rfl) ?_
  refine lv_iconst (v := 0) hx hb dL_sprays_10 (by decide) ?_
  refine lv_iconst (v := 0) hx hb dL_sprays_11 (by decide) ?_
  refine l_call (X := 176) (K := 177) (CC := 704) (As := [.ref (gad Γ 475), .int 20, .int (nI i), .int (nI x), .int 0, .int 0]) (rest := []) (st1 := [.int (v_bestSpray N (nI i) (nI x))]) hF (q_best (l := l) (Γ := Γ) (N := N) (Hy := Hy) (k := k) (w := w) hst hN hu0 (a := (nI i)) (d := (nI x)) rfl rfl hi hx1 hx2) (va_cwS 6 hts qL_call rfl rfl rfl (by decide +kernel) ⟨Nat.le_of_ble_eq_true rfl, Nat.le_of_ble_eq_true rfl⟩) hK hZ hX hY hG hS rfl hl.1 (Nat.le_of_ble_eq_true rfl) dL_sprays_12 ⟨Nat.le_of_ble_eq_true rfl, Nat.le_of_ble_eq_true rfl⟩ (by omega) (by omega) rfl rfl (fun H locs hG hS => ?_)
  refine g_top (y := (nI b)) hw0 ?_
  refine lv_istore (lv' := [(5, .int (nI b)), (3, .long (sumF N)), (0, .ref (gad Γ 475)), (1, .int (nI i)), (2, .int (nI x))]) hx hb dL_sprays_15 hl (by decide) rfl (fun ls hl => ?_)
  refine lv_iload hx hb dL_sprays_17 (lv_at hl 0 rfl) ?_
  refine lv_bipush (v := (-9)) hx hb dL_sprays_19 (by decide) ?_
  refine lv_icmp_ne (tgt := 29) hx hb dL_sprays_21 (by decide) (fun c_1 => ?_) (fun c_1 => absurd c_1 (wx_m9 (by omega)))
  refine lv_aload_n hx hb dL_sprays_29 rfl (lv_at hl 2 rfl) ?_
  refine lv_iload_n hx hb dL_sprays_30 rfl (lv_at hl 3 rfl) ?_
  refine lv_iload hx hb dL_sprays_31 (lv_at hl 0 rfl) ?_
  refine lv_iload_n hx hb dL_sprays_33 rfl (lv_at hl 4 rfl) ?_
  refine l_call (X := 177) (K := 207) (CC := 704) (As := [.ref (gad Γ 475), .int (nI i), .int (nI b), .int (nI x)]) (rest := []) (st1 := [.int (gV N i (nI x) b)]) hF (L_bySpray_Y (N := N) (Hy := Hy) (k := k) (w := w) hst hN hu hk hi hbc hx1 hx2 hbv hbw) (va_cwS 4 hts qL_bySpray rfl rfl rfl (by decide +kernel) ⟨Nat.le_of_ble_eq_true rfl, Nat.le_of_ble_eq_true rfl⟩) hK hZ hX hY hG hS rfl hl.1 (Nat.le_of_ble_eq_true rfl) dL_sprays_34 ⟨Nat.le_of_ble_eq_true rfl, Nat.le_of_ble_eq_true rfl⟩ (by omega) (by omega) rfl rfl (fun H locs hG hS => ?_)
  refine lv_istore (lv' := [(6, .int (gV N i (nI x) b)), (5, .int (nI b)), (3, .long (sumF N)), (0, .ref (gad Γ 475)), (1, .int (nI i)), (2, .int (nI x))]) hx hb dL_sprays_37 hl (by decide) rfl (fun ls hl => ?_)
  refine lv_iload hx hb dL_sprays_39 (lv_at hl 1 rfl) ?_
  refine lv_bipush (v := (-9)) hx hb dL_sprays_41 (by decide) ?_
  refine lv_icmp_eq (tgt := 51) hx hb dL_sprays_43 (by decide) (fun c_2 => absurd c_2 (wx_m9 (by omega))) (fun c_2 => ?_)
  refine lv_iload hx hb dL_sprays_46 (lv_at hl 0 rfl) ?_
  refine lv_if_lt (tgt := 55) hx hb dL_sprays_48 (by decide) (fun c_3 => absurd c_3 ((gV_nn hN hu hi hbc hx1 hx2).2)) (fun c_3 => ?_)
  refine lv_iconst (v := 1) hx hb dL_sprays_51 (by decide) ?_
  refine lv_goto (tgt := 56) hx hb dL_sprays_52 (by decide) ?_
  refine lv_istore (lv' := [(7, .int 1), (6, .int (gV N i (nI x) b)), (5, .int (nI b)), (3, .long (sumF N)), (0, .ref (gad Γ 475)), (1, .int (nI i)), (2, .int (nI x))]) hx hb dL_sprays_56 hl (by decide) rfl (fun ls hl => ?_)
  refine lv_iconst (v := 0) hx hb dL_sprays_58 (by decide) ?_
  refine lv_istore (lv' := [(8, .int 0), (7, .int 1), (6, .int (gV N i (nI x) b)), (5, .int (nI b)), (3, .long (sumF N)), (0, .ref (gad Γ 475)), (1, .int (nI i)), (2, .int (nI x))]) hx hb dL_sprays_59 hl (by decide) rfl (fun ls hl => ?_)
  refine loopN ((N 0).toNatClampNeg) (207) 31 (fun t H locs ls => (SH Γ N Hy (kSp N i (nI x) (kM 11 k) t) w) H ∧ va_S (gA Γ) s.heap H locs ∧ lv_has ls 10 [(0, .ref (gad Γ 475)), (1, .int (nI i)), (2, .int (nI x)), (3, .long (sumF N)), (5, .int (nI b)), (6, .int (gV N i (nI x) b)), (7, .int 1), (8, .int (nI t))]) 61 (fun t ht H locs ls hInv next => ?_) (fun H locs ls hInv => ?_) ((N 0).toNatClampNeg) 0 (Nat.zero_add _) _ _ _ ⟨hG, hS, lv_sub hl [5, 6, 7, 4, 3, 2, 1, 0] rfl⟩
  · --turn
    obtain ⟨hG, hS, hl⟩ := hInv
    refine lv_iload hx hb dL_sprays_61 (lv_at hl 7 rfl) ?_
    refine lv_aload_n hx hb dL_sprays_63 rfl (lv_at hl 0 rfl) ?_
    refine lv_iconst (v := 0) hx hb dL_sprays_64 (by decide) ?_
    refine l_call (X := 207 + 31 * t) (K := 208 + 31 * t) (CC := 704) (As := [.ref (gad Γ 475), .int 0]) (rest := [.int (nI t)]) (st1 := [.int (N 0), .int (nI t)]) hF (r_about (N := N) (Hy := Hy) (k := kSp N i (nI x) (kM 11 k) t) (w := w) hst hN hu0 (a := 0) (j := 0) rfl (by decide)) (va_cwS 2 hts qL_about rfl rfl rfl (by decide +kernel) ⟨Nat.le_of_ble_eq_true rfl, Nat.le_of_ble_eq_true rfl⟩) hK hZ hX hY hG hS rfl hl.1 (Nat.le_of_ble_eq_true rfl) dL_sprays_65 ⟨Nat.le_of_ble_eq_true rfl, Nat.le_of_ble_eq_true rfl⟩ (by omega) (by omega) rfl rfl (fun H locs hG hS => ?_)
    refine lv_icmp_ge (tgt := 118) hx hb dL_sprays_68 (by decide) (fun c_4 => absurd c_4 (lt_cnt hN.s10 (by decide) ht)) (fun c_4 => ?_)
    by_cases hv : fX7_driveOn_v N i (nI t) = 0
    · --can not drive
      have ek : kSp N i (nI x) (kM 11 k) (t + 1) = kSp N i (nI x) (kM 11 k) t := if_pos hv
      rw [ek] at next
      refine lv_aload_n hx hb dL_sprays_71 rfl (lv_at hl 0 rfl) ?_
      refine lv_iload_n hx hb dL_sprays_72 rfl (lv_at hl 1 rfl) ?_
      refine lv_iload hx hb dL_sprays_73 (lv_at hl 7 rfl) ?_
      refine lv_iload_n hx hb dL_sprays_75 rfl (lv_at hl 2 rfl) ?_
      refine l_call (X := 208 + 31 * t) (K := 238 + 31 * t) (CC := 704) (As := [.ref (gad Γ 475), .int (nI i), .int (nI t), .int (nI x)]) (rest := []) (st1 := [.int (-9)]) hF (L_bySpray_D (N := N) (Hy := Hy) (k := kSp N i (nI x) (kM 11 k) t) (w := w) hst hN hu (kSp_14 N i (nI x) (kM_14 11 hk) t) hi ht hx1 hx2 hv) (va_cwS 4 hts qL_bySpray rfl rfl rfl (by decide +kernel) ⟨Nat.le_of_ble_eq_true rfl, Nat.le_of_ble_eq_true rfl⟩) hK hZ hX hY hG hS rfl hl.1 (Nat.le_of_ble_eq_true rfl) dL_sprays_76 ⟨Nat.le_of_ble_eq_true rfl, Nat.le_of_ble_eq_true rfl⟩ (by omega) (by omega) rfl rfl (fun H locs hG hS => ?_)
      refine lv_istore (lv' := [(9, .int (-9)), (0, .ref (gad Γ 475)), (1, .int (nI i)), (2, .int (nI x)), (3, .long (sumF N)), (5, .int (nI b)), (6, .int (gV N i (nI x) b)), (7, .int 1), (8, .int (nI t))]) hx hb dL_sprays_79 hl (by decide) rfl (fun ls hl => ?_)
      refine lv_iload hx hb dL_sprays_81 (lv_at hl 7 rfl) ?_
      refine lv_iload hx hb dL_sprays_83 (lv_at hl 0 rfl) ?_
      refine lv_bipush (v := (-9)) hx hb dL_sprays_85 (by decide) ?_
      refine lv_icmp_eq (tgt := 104) hx hb dL_sprays_87 (by decide) (fun c_5 => ?_) (fun c_5 => absurd (by decide) c_5)
      refine lv_iconst (v := 1) hx hb dL_sprays_104 (by decide) ?_
      refine lv_goto (tgt := 109) hx hb dL_sprays_105 (by decide) ?_
      refine lv_iand hx hb dL_sprays_109 ?_
      refine g_top (y := 1) (show (1 &&& 1 : Int32) = 1 from rfl) ?_
      refine lv_istore (lv' := [(7, .int 1), (9, .int (-9)), (0, .ref (gad Γ 475)), (1, .int (nI i)), (2, .int (nI x)), (3, .long (sumF N)), (5, .int (nI b)), (6, .int (gV N i (nI x) b)), (8, .int (nI t))]) hx hb dL_sprays_110 hl (by decide) rfl (fun ls hl => ?_)
      refine lv_iinc (v := nI (t + 1)) (lv' := [(8, .int (nI (t + 1))), (7, .int 1), (9, .int (-9)), (0, .ref (gad Γ 475)), (1, .int (nI i)), (2, .int (nI x)), (3, .long (sumF N)), (5, .int (nI b)), (6, .int (gV N i (nI x) b))]) hx hb dL_sprays_112 hl (k := 8) rfl (nI_1 _) (by decide) rfl (fun ls hl => ?_)
      refine lv_goto (tgt := 61) hx hb dL_sprays_115 (by decide) ?_
      refine W.widen (k := 207 + 31 * (t + 1)) (n := 6 * (207 + 31 * (t + 1))) (by omega) (by omega) (next _ _ _ ⟨hG, hS, lv_sub hl [3, 4, 5, 6, 7, 8, 1, 0] rfl⟩)
    · by_cases hw : fX7_sprayOn_v (fX7_driveOn_P N i (nI t)) i (nI x) = 0
      · --can not spray
        have ek : kSp N i (nI x) (kM 11 k) (t + 1) = kM 13 (kSp N i (nI x) (kM 11 k) t) := (if_neg hv).trans (if_pos hw)
        rw [ek] at next
        refine lv_aload_n hx hb dL_sprays_71 rfl (lv_at hl 0 rfl) ?_
        refine lv_iload_n hx hb dL_sprays_72 rfl (lv_at hl 1 rfl) ?_
        refine lv_iload hx hb dL_sprays_73 (lv_at hl 7 rfl) ?_
        refine lv_iload_n hx hb dL_sprays_75 rfl (lv_at hl 2 rfl) ?_
        refine l_call (X := 208 + 31 * t) (K := 238 + 31 * t) (CC := 704) (As := [.ref (gad Γ 475), .int (nI i), .int (nI t), .int (nI x)]) (rest := []) (st1 := [.int (-9)]) hF (L_bySpray_S (N := N) (Hy := Hy) (k := kSp N i (nI x) (kM 11 k) t) (w := w) hst hN hu (kSp_14 N i (nI x) (kM_14 11 hk) t) hi ht hx1 hx2 hv hw) (va_cwS 4 hts qL_bySpray rfl rfl rfl (by decide +kernel) ⟨Nat.le_of_ble_eq_true rfl, Nat.le_of_ble_eq_true rfl⟩) hK hZ hX hY hG hS rfl hl.1 (Nat.le_of_ble_eq_true rfl) dL_sprays_76 ⟨Nat.le_of_ble_eq_true rfl, Nat.le_of_ble_eq_true rfl⟩ (by omega) (by omega) rfl rfl (fun H locs hG hS => ?_)
        refine lv_istore (lv' := [(9, .int (-9)), (0, .ref (gad Γ 475)), (1, .int (nI i)), (2, .int (nI x)), (3, .long (sumF N)), (5, .int (nI b)), (6, .int (gV N i (nI x) b)), (7, .int 1), (8, .int (nI t))]) hx hb dL_sprays_79 hl (by decide) rfl (fun ls hl => ?_)
        refine lv_iload hx hb dL_sprays_81 (lv_at hl 7 rfl) ?_
        refine lv_iload hx hb dL_sprays_83 (lv_at hl 0 rfl) ?_
        refine lv_bipush (v := (-9)) hx hb dL_sprays_85 (by decide) ?_
        refine lv_icmp_eq (tgt := 104) hx hb dL_sprays_87 (by decide) (fun c_6 => ?_) (fun c_6 => absurd (by decide) c_6)
        refine lv_iconst (v := 1) hx hb dL_sprays_104 (by decide) ?_
        refine lv_goto (tgt := 109) hx hb dL_sprays_105 (by decide) ?_
        refine lv_iand hx hb dL_sprays_109 ?_
        refine g_top (y := 1) (show (1 &&& 1 : Int32) = 1 from rfl) ?_
        refine lv_istore (lv' := [(7, .int 1), (9, .int (-9)), (0, .ref (gad Γ 475)), (1, .int (nI i)), (2, .int (nI x)), (3, .long (sumF N)), (5, .int (nI b)), (6, .int (gV N i (nI x) b)), (8, .int (nI t))]) hx hb dL_sprays_110 hl (by decide) rfl (fun ls hl => ?_)
        refine lv_iinc (v := nI (t + 1)) (lv' := [(8, .int (nI (t + 1))), (7, .int 1), (9, .int (-9)), (0, .ref (gad Γ 475)), (1, .int (nI i)), (2, .int (nI x)), (3, .long (sumF N)), (5, .int (nI b)), (6, .int (gV N i (nI x) b))]) hx hb dL_sprays_112 hl (k := 8) rfl (nI_1 _) (by decide) rfl (fun ls hl => ?_)
        refine lv_goto (tgt := 61) hx hb dL_sprays_115 (by decide) ?_
        refine W.widen (k := 207 + 31 * (t + 1)) (n := 6 * (207 + 31 * (t + 1))) (by omega) (by omega) (next _ _ _ ⟨hG, hS, lv_sub hl [3, 4, 5, 6, 7, 8, 1, 0] rfl⟩)
      · --can
        have ek : kSp N i (nI x) (kM 11 k) (t + 1) = kM 11 (kSp N i (nI x) (kM 11 k) t) := (if_neg hv).trans (if_neg hw)
        rw [ek] at next
        refine lv_aload_n hx hb dL_sprays_71 rfl (lv_at hl 0 rfl) ?_
        refine lv_iload_n hx hb dL_sprays_72 rfl (lv_at hl 1 rfl) ?_
        refine lv_iload hx hb dL_sprays_73 (lv_at hl 7 rfl) ?_
        refine lv_iload_n hx hb dL_sprays_75 rfl (lv_at hl 2 rfl) ?_
        refine l_call (X := 208 + 31 * t) (K := 238 + 31 * t) (CC := 704) (As := [.ref (gad Γ 475), .int (nI i), .int (nI t), .int (nI x)]) (rest := []) (st1 := [.int (gV N i (nI x) t)]) hF (L_bySpray_Y (N := N) (Hy := Hy) (k := kSp N i (nI x) (kM 11 k) t) (w := w) hst hN hu (kSp_14 N i (nI x) (kM_14 11 hk) t) hi ht hx1 hx2 hv hw) (va_cwS 4 hts qL_bySpray rfl rfl rfl (by decide +kernel) ⟨Nat.le_of_ble_eq_true rfl, Nat.le_of_ble_eq_true rfl⟩) hK hZ hX hY hG hS rfl hl.1 (Nat.le_of_ble_eq_true rfl) dL_sprays_76 ⟨Nat.le_of_ble_eq_true rfl, Nat.le_of_ble_eq_true rfl⟩ (by omega) (by omega) rfl rfl (fun H locs hG hS => ?_)
        refine lv_istore (lv' := [(9, .int (gV N i (nI x) t)), (0, .ref (gad Γ 475)), (1, .int (nI i)), (2, .int (nI x)), (3, .long (sumF N)), (5, .int (nI b)), (6, .int (gV N i (nI x) b)), (7, .int 1), (8, .int (nI t))]) hx hb dL_sprays_79 hl (by decide) rfl (fun ls hl => ?_)
        refine lv_iload hx hb dL_sprays_81 (lv_at hl 7 rfl) ?_
        refine lv_iload hx hb dL_sprays_83 (lv_at hl 0 rfl) ?_
        refine lv_bipush (v := (-9)) hx hb dL_sprays_85 (by decide) ?_
        refine lv_icmp_eq (tgt := 104) hx hb dL_sprays_87 (by decide) (fun c_7 => absurd c_7 ((gV_nn hN hu hi ht hx1 hx2).1)) (fun c_7 => ?_)
        refine lv_iload hx hb dL_sprays_90 (lv_at hl 5 rfl) ?_
        refine lv_bipush (v := (-9)) hx hb dL_sprays_92 (by decide) ?_
        refine lv_icmp_eq (tgt := 108) hx hb dL_sprays_94 (by decide) (fun c_8 => absurd c_8 (wx_m9 (by omega))) (fun c_8 => ?_)
        refine lv_iload hx hb dL_sprays_97 (lv_at hl 0 rfl) ?_
        refine lv_iload hx hb dL_sprays_99 (lv_at hl 6 rfl) ?_
        refine lv_icmp_lt (tgt := 108) hx hb dL_sprays_101 (by decide) (fun c_9 => absurd c_9 (hmin t ht (fun q => q.elim hv hw))) (fun c_9 => ?_)
        refine lv_iconst (v := 1) hx hb dL_sprays_104 (by decide) ?_
        refine lv_goto (tgt := 109) hx hb dL_sprays_105 (by decide) ?_
        refine lv_iand hx hb dL_sprays_109 ?_
        refine g_top (y := 1) (show (1 &&& 1 : Int32) = 1 from rfl) ?_
        refine lv_istore (lv' := [(7, .int 1), (9, .int (gV N i (nI x) t)), (0, .ref (gad Γ 475)), (1, .int (nI i)), (2, .int (nI x)), (3, .long (sumF N)), (5, .int (nI b)), (6, .int (gV N i (nI x) b)), (8, .int (nI t))]) hx hb dL_sprays_110 hl (by decide) rfl (fun ls hl => ?_)
        refine lv_iinc (v := nI (t + 1)) (lv' := [(8, .int (nI (t + 1))), (7, .int 1), (9, .int (gV N i (nI x) t)), (0, .ref (gad Γ 475)), (1, .int (nI i)), (2, .int (nI x)), (3, .long (sumF N)), (5, .int (nI b)), (6, .int (gV N i (nI x) b))]) hx hb dL_sprays_112 hl (k := 8) rfl (nI_1 _) (by decide) rfl (fun ls hl => ?_)
        refine lv_goto (tgt := 61) hx hb dL_sprays_115 (by decide) ?_
        refine W.widen (k := 207 + 31 * (t + 1)) (n := 6 * (207 + 31 * (t + 1))) (by omega) (by omega) (next _ _ _ ⟨hG, hS, lv_sub hl [3, 4, 5, 6, 7, 8, 1, 0] rfl⟩)
  · --out
    obtain ⟨hG, hS, hl⟩ := hInv
    refine W.widen (k := 517) (n := 6 * (517)) (by omega) (by omega) ?_
    refine lv_iload hx hb dL_sprays_61 (lv_at hl 7 rfl) ?_
    refine lv_aload_n hx hb dL_sprays_63 rfl (lv_at hl 0 rfl) ?_
    refine lv_iconst (v := 0) hx hb dL_sprays_64 (by decide) ?_
    refine l_call (X := 517) (K := 518) (CC := 704) (As := [.ref (gad Γ 475), .int 0]) (rest := [.int (nI ((N 0).toNatClampNeg))]) (st1 := [.int (N 0), .int (nI ((N 0).toNatClampNeg))]) hF (r_about (N := N) (Hy := Hy) (k := kSp N i (nI x) (kM 11 k) ((N 0).toNatClampNeg)) (w := w) hst hN hu0 (a := 0) (j := 0) rfl (by decide)) (va_cwS 2 hts qL_about rfl rfl rfl (by decide +kernel) ⟨Nat.le_of_ble_eq_true rfl, Nat.le_of_ble_eq_true rfl⟩) hK hZ hX hY hG hS rfl hl.1 (Nat.le_of_ble_eq_true rfl) dL_sprays_65 ⟨Nat.le_of_ble_eq_true rfl, Nat.le_of_ble_eq_true rfl⟩ (by omega) (by omega) rfl rfl (fun H locs hG hS => ?_)
    refine lv_icmp_ge (tgt := 118) hx hb dL_sprays_68 (by decide) (fun c_10 => ?_) (fun c_10 => absurd (ge_cnt hN.s10 (by decide)) c_10)
    refine lv_iload hx hb dL_sprays_118 (lv_at hl 6 rfl) ?_
    refine lv_if_eq (tgt := 136) hx hb dL_sprays_120 (by decide) (fun c_11 => absurd c_11 (by decide)) (fun c_11 => ?_)
    refine lv_aload_n hx hb dL_sprays_123 rfl (lv_at hl 0 rfl) ?_
    refine l_call (X := 518) (K := 694) (CC := 704) (As := [.ref (gad Γ 475)]) (rest := []) (st1 := [.long (sumF N)]) hF (L_sum (N := N) (Hy := Hy) (k := kSp N i (nI x) (kM 11 k) ((N 0).toNatClampNeg)) (w := w) hst hN hu0) (va_cwS 1 hts qL_sum rfl rfl rfl (by decide +kernel) ⟨Nat.le_of_ble_eq_true rfl, Nat.le_of_ble_eq_true rfl⟩) hK hZ hX hY hG hS rfl hl.1 (Nat.le_of_ble_eq_true rfl) dL_sprays_124 ⟨Nat.le_of_ble_eq_true rfl, Nat.le_of_ble_eq_true rfl⟩ (by omega) (by omega) rfl rfl (fun H locs hG hS => ?_)
    refine lv_lload_n hx hb dL_sprays_127 rfl (lv_at hl 3 rfl) ?_
    refine W.lcmp hx hb dL_sprays_128 ?_
    refine gl_ne (tgt := 136) hx hb dL_sprays_129 (by decide) (fun c_12 => absurd rfl c_12) (fun c_12 => ?_)
    refine lv_iconst (v := 1) hx hb dL_sprays_132 (by decide) ?_
    refine lv_goto (tgt := 137) hx hb dL_sprays_133 (by decide) ?_
    exact l_zret hx hb hrt hlocks hS hG (by decide) rfl (by omega) dL_sprays_137

/-- what is left of the remembered states -/
noncomputable def kSS (N : Nat → Int32) (i x k : Nat) : Nat := kSp N i (nI x) (if v_bestSpray N (nI i) (nI x) = -9 then k else kM 11 k) (N 0).toNatClampNeg
theorem kSS_14 (N : Nat → Int32) (i x : Nat) {k : Nat} (h : k ≤ 14) : kSS N i x k ≤ 14 := kSp_14 _ _ _ (by split; exact h; exact kM_14 _ h) _
theorem L_sprays {l : Launch} {Γ : gX} (hst : l.stackTraces = false) {u : Nat} {N : Nat → Int32} {Hy : Nat → Nat → Int32} {k : Nat} {w : WO} (hN : PI u N) (hu : 1998 * (u + 10000) < 2 ^ 31) (hk : k ≤ 14) {i x : Nat} (hi : i < (N 2).toNatClampNeg) (hx1 : 1 ≤ x) (hx2 : x ≤ 9) : lM l Γ yL_sprays wqL_sprays 14 330 704 [.ref (gad Γ 475), .int (nI i), .int (nI x)] (SH Γ N Hy k w) (some (.int 1)) (SH Γ N Hy (kSS N i x k) w) := by
  have b0 := hN.s10.2
  have b2 := hN.w3.2
  have hv : v_bestSpray N (nI i) (nI x) = (gB N i (nI x) (N 0).toNatClampNeg).1 := by
    unfold v_bestSpray
    rw [nI_clamp (by omega)]
  unfold kSS
  rcases gB_spec N i (nI x) (N 0).toNatClampNeg (fun s hs hg => (gV_nn hN hu hi hs hx1 hx2).1) b0 _ (Nat.le_refl _) with ⟨a, b⟩ | ⟨b, h1, h2, h3, h4, h5⟩
  · rw [a] at hv
    rw [if_pos hv]
    exact L_sprays_N hst hN hu hk hi hx1 hx2 hv b
  · rw [h2] at hv
    rw [if_neg (show ¬ v_bestSpray N (nI i) (nI x) = -9 by rw [hv]; exact wx_m9 (by omega))]
    exact L_sprays_B hst hN hu hk hi hx1 hx2 h1 hv (fun q => h3 (Or.inl q)) (fun q => h3 (Or.inr q)) h5
