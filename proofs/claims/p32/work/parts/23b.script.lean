/-! THE CLASS: runScript. Laid by gen/p23.py. -/
theorem g_vv {l : Launch} {Γ : gX} {y : MethodName} {ws : List Cond} {fr lo : Nat} {av : List Value} {M M1 : Nat → Nat → Int32} {R R1 : Nat → Nat → Option Nat} {O O1 : Int64} {v w : Int32} (h : v = w) (hm : gMet l Γ y ws fr lo av M R O (some (.int v)) M1 R1 O1) : gMet l Γ y ws fr lo av M R O (some (.int w)) M1 R1 O1 := h ▸ hm
set_option maxHeartbeats 4000000 in
set_option maxRecDepth 100000 in
theorem tX6_runScript_1 {l : Launch} {Γ : gX} (hst : l.stackTraces = false) (M : Nat → Nat → Int32) (R : Nat → Nat → Option Nat) (O : Int64) (hC : LC Γ R) (X G J S C P Q : Nat → Int32) (n : Nat) {t : Int32} (ht : t = nI n) (sc : Int64) (h : fX6_within_v t 1 4 = 0) : gThr l Γ yX6_runScript wsX6_runScript 6 82 [.ref (gad Γ 475), .int t, .long sc] (cS M X G J S C P Q) R O "java/lang/IllegalArgumentException" (cS M X G J S C P Q) R O := by
  subst ht
  refine g_startT (cc := cX6_runScript) (maxL := 5) (ret := (some .int)) (by decide) rfl (Nat.le_of_ble_eq_true rfl) ?_
  intro p e s m below meth c ls hx hb hml hrt hts hown hlocks hname hK hZ hG hS hl hX hnx
  have hl : lv_has ls 5 [(0, .ref (gad Γ 475)), (1, .int (nI n)), (2, .long sc)] := hl
  have hown : s.vm.findClass RX6 = some m.cls := hown
  have hF : CallFix p m c cX6_runScript 5 s _ wsX6_runScript RX6 := ⟨hx, hb, hml, hown, hts⟩
  have hV0 := hC.2.1 0 (by decide)
  have hV1 := hC.2.1 1 (by decide)
  refine lv_iload_n hx hb dX6_runScript_0 rfl (lv_at hl 1 rfl) ?_
  refine lv_iconst (v := 1) hx hb dX6_runScript_1 (by decide) ?_
  refine lv_iconst (v := 4) hx hb dX6_runScript_2 (by decide) ?_
  refine g_callS (As := [.int (nI n), .int 1, .int 4]) (rest := []) (st1 := [.int (fX6_within_v (nI n) 1 4)]) hF (mX6_within _ R O (nI n) 1 4) (va_cwS 3 hts gX6_runScript_X6_within rfl rfl rfl (by decide +kernel) ⟨Nat.le_of_ble_eq_true rfl, Nat.le_of_ble_eq_true rfl⟩) hK hZ hG hS rfl hl.1 (Nat.le_of_ble_eq_true rfl) dX6_runScript_3 ⟨Nat.zero_le _, Nat.zero_le _⟩ rfl rfl (fun H locs hG hS => ?_)
  refine lv_if_eq (tgt := 24) hx hb dX6_runScript_6 (by decide) (fun c_1 => ?_) (fun c_1 => absurd h c_1)
  exact g_throw (cls := "java/lang/IllegalArgumentException") (text := "no script of so many commands") (ik := 158) (is := 210) (ic := 162) hx hb hst hown (by decide +kernel) hts (by decide +kernel) (by decide +kernel) (by decide +kernel) (by decide +kernel) (by decide +kernel) (by decide +kernel) hX hZ hG hS (hl.1.trans hml.symm) dX6_runScript_24 dX6_runScript_27 dX6_runScript_28 dX6_runScript_30 dX6_runScript_33 hnx (Nat.le_of_ble_eq_true rfl) (Nat.le_of_ble_eq_true rfl) ⟨Nat.le_of_ble_eq_true rfl, Nat.le_of_ble_eq_true rfl⟩ hlocks

set_option maxHeartbeats 4000000 in
set_option maxRecDepth 100000 in
theorem tX6_runScript_2 {l : Launch} {Γ : gX} (hst : l.stackTraces = false) (M : Nat → Nat → Int32) (R : Nat → Nat → Option Nat) (O : Int64) (hC : LC Γ R) (X G J S C P Q : Nat → Int32) (n : Nat) {t : Int32} (ht : t = nI n) (sc : Int64) (h : ¬ fX6_within_v t 1 4 = 0) (h2 : sc < 0) : gThr l Γ yX6_runScript wsX6_runScript 6 82 [.ref (gad Γ 475), .int t, .long sc] (cS M X G J S C P Q) R O "java/lang/IllegalArgumentException" (cS M X G J S C P Q) R O := by
  subst ht
  refine g_startT (cc := cX6_runScript) (maxL := 5) (ret := (some .int)) (by decide) rfl (Nat.le_of_ble_eq_true rfl) ?_
  intro p e s m below meth c ls hx hb hml hrt hts hown hlocks hname hK hZ hG hS hl hX hnx
  have hl : lv_has ls 5 [(0, .ref (gad Γ 475)), (1, .int (nI n)), (2, .long sc)] := hl
  have hown : s.vm.findClass RX6 = some m.cls := hown
  have hF : CallFix p m c cX6_runScript 5 s _ wsX6_runScript RX6 := ⟨hx, hb, hml, hown, hts⟩
  have hV0 := hC.2.1 0 (by decide)
  have hV1 := hC.2.1 1 (by decide)
  refine lv_iload_n hx hb dX6_runScript_0 rfl (lv_at hl 1 rfl) ?_
  refine lv_iconst (v := 1) hx hb dX6_runScript_1 (by decide) ?_
  refine lv_iconst (v := 4) hx hb dX6_runScript_2 (by decide) ?_
  refine g_callS (As := [.int (nI n), .int 1, .int 4]) (rest := []) (st1 := [.int (fX6_within_v (nI n) 1 4)]) hF (mX6_within _ R O (nI n) 1 4) (va_cwS 3 hts gX6_runScript_X6_within rfl rfl rfl (by decide +kernel) ⟨Nat.le_of_ble_eq_true rfl, Nat.le_of_ble_eq_true rfl⟩) hK hZ hG hS rfl hl.1 (Nat.le_of_ble_eq_true rfl) dX6_runScript_3 ⟨Nat.zero_le _, Nat.zero_le _⟩ rfl rfl (fun H locs hG hS => ?_)
  refine lv_if_eq (tgt := 24) hx hb dX6_runScript_6 (by decide) (fun c_1 => absurd c_1 h) (fun c_1 => ?_)
  refine lv_lload_n hx hb dX6_runScript_9 rfl (lv_at hl 2 rfl) ?_
  refine lv_lconst (v := 0) hx hb dX6_runScript_10 (by decide) ?_
  refine W.lcmp hx hb dX6_runScript_11 ?_
  refine gl_lt (tgt := 24) hx hb dX6_runScript_12 (by decide) (fun c_2 => ?_) (fun c_2 => absurd h2 c_2)
  exact g_throw (cls := "java/lang/IllegalArgumentException") (text := "no script of so many commands") (ik := 158) (is := 210) (ic := 162) hx hb hst hown (by decide +kernel) hts (by decide +kernel) (by decide +kernel) (by decide +kernel) (by decide +kernel) (by decide +kernel) (by decide +kernel) hX hZ hG hS (hl.1.trans hml.symm) dX6_runScript_24 dX6_runScript_27 dX6_runScript_28 dX6_runScript_30 dX6_runScript_33 hnx (Nat.le_of_ble_eq_true rfl) (Nat.le_of_ble_eq_true rfl) ⟨Nat.le_of_ble_eq_true rfl, Nat.le_of_ble_eq_true rfl⟩ hlocks

set_option maxHeartbeats 4000000 in
set_option maxRecDepth 100000 in
theorem tX6_runScript_3 {l : Launch} {Γ : gX} (hst : l.stackTraces = false) (M : Nat → Nat → Int32) (R : Nat → Nat → Option Nat) (O : Int64) (hC : LC Γ R) (X G J S C P Q : Nat → Int32) (n : Nat) {t : Int32} (ht : t = nI n) (sc : Int64) (hn4 : n ≤ 4) (h : ¬ fX6_within_v t 1 4 = 0) (h2 : ¬ sc < 0) (hq : ¬ fX6_spl_R sc n = 0) : gThr l Γ yX6_runScript wsX6_runScript 6 82 [.ref (gad Γ 475), .int t, .long sc] (cS M X G J S C P Q) R O "java/lang/IllegalArgumentException" (cS M X G J S (fX6_spl_L sc n C n) P Q) R O := by
  subst ht
  refine g_startT (cc := cX6_runScript) (maxL := 5) (ret := (some .int)) (by decide) rfl (Nat.le_of_ble_eq_true rfl) ?_
  intro p e s m below meth c ls hx hb hml hrt hts hown hlocks hname hK hZ hG hS hl hX hnx
  have hl : lv_has ls 5 [(0, .ref (gad Γ 475)), (1, .int (nI n)), (2, .long sc)] := hl
  have hown : s.vm.findClass RX6 = some m.cls := hown
  have hF : CallFix p m c cX6_runScript 5 s _ wsX6_runScript RX6 := ⟨hx, hb, hml, hown, hts⟩
  have hV0 := hC.2.1 0 (by decide)
  have hV1 := hC.2.1 1 (by decide)
  refine lv_iload_n hx hb dX6_runScript_0 rfl (lv_at hl 1 rfl) ?_
  refine lv_iconst (v := 1) hx hb dX6_runScript_1 (by decide) ?_
  refine lv_iconst (v := 4) hx hb dX6_runScript_2 (by decide) ?_
  refine g_callS (As := [.int (nI n), .int 1, .int 4]) (rest := []) (st1 := [.int (fX6_within_v (nI n) 1 4)]) hF (mX6_within _ R O (nI n) 1 4) (va_cwS 3 hts gX6_runScript_X6_within rfl rfl rfl (by decide +kernel) ⟨Nat.le_of_ble_eq_true rfl, Nat.le_of_ble_eq_true rfl⟩) hK hZ hG hS rfl hl.1 (Nat.le_of_ble_eq_true rfl) dX6_runScript_3 ⟨Nat.zero_le _, Nat.zero_le _⟩ rfl rfl (fun H locs hG hS => ?_)
  refine lv_if_eq (tgt := 24) hx hb dX6_runScript_6 (by decide) (fun c_1 => absurd c_1 h) (fun c_1 => ?_)
  refine lv_lload_n hx hb dX6_runScript_9 rfl (lv_at hl 2 rfl) ?_
  refine lv_lconst (v := 0) hx hb dX6_runScript_10 (by decide) ?_
  refine W.lcmp hx hb dX6_runScript_11 ?_
  refine gl_lt (tgt := 24) hx hb dX6_runScript_12 (by decide) (fun c_2 => absurd c_2 h2) (fun c_2 => ?_)
  refine lv_aload_n hx hb dX6_runScript_15 rfl (lv_at hl 0 rfl) ?_
  refine lv_iload_n hx hb dX6_runScript_16 rfl (lv_at hl 1 rfl) ?_
  refine lv_lload_n hx hb dX6_runScript_17 rfl (lv_at hl 2 rfl) ?_
  refine g_callV (As := [.int (nI n), .long sc]) (rest := []) (st1 := [.int 0]) hF (g_vv (if_neg hq) (mX6_splitScript M R O hC X G J S C P Q n hn4 rfl sc)) (cwV 2 hts gX6_runScript_X6_splitScript rfl rfl rfl (by decide +kernel) ⟨Nat.le_of_ble_eq_true rfl, Nat.le_of_ble_eq_true rfl⟩) hK hZ hG hS (hC.1 475 (by decide) (by decide)) (show gC 475 = (6, 32, 0) from rfl) (by decide) rfl rfl hl.1 (Nat.le_of_ble_eq_true rfl) dX6_runScript_18 ⟨Nat.zero_le _, Nat.zero_le _⟩ rfl rfl (fun H locs hG hS => ?_)
  refine lv_if_ne (tgt := 34) hx hb dX6_runScript_21 (by decide) (fun c_3 => absurd (by decide) c_3) (fun c_3 => ?_)
  exact g_throw (cls := "java/lang/IllegalArgumentException") (text := "no script of so many commands") (ik := 158) (is := 210) (ic := 162) hx hb hst hown (by decide +kernel) hts (by decide +kernel) (by decide +kernel) (by decide +kernel) (by decide +kernel) (by decide +kernel) (by decide +kernel) hX hZ hG hS (hl.1.trans hml.symm) dX6_runScript_24 dX6_runScript_27 dX6_runScript_28 dX6_runScript_30 dX6_runScript_33 hnx (Nat.le_of_ble_eq_true rfl) (Nat.le_of_ble_eq_true rfl) ⟨Nat.le_of_ble_eq_true rfl, Nat.le_of_ble_eq_true rfl⟩ hlocks

def fX6_run_S (Cm : Nat → Int32) (Pk : Nat → Int32) (k : Nat) : Nat → Int32 := fX2_obeys_P Pk (Cm k)
def fX6_run_L (Cm : Nat → Int32) (P : Nat → Int32) : Nat → Nat → Int32
  | 0 => P
  | k + 1 => fX6_run_S Cm (fX6_run_L Cm P k) k
def fX6_run_C (Cm : Nat → Int32) (Pk : Nat → Int32) (k : Nat) : Prop := (fX2_obeys_v Pk (Cm k)) = 0
theorem ite_ap {c : Prop} [Decidable c] (f g : Nat → Int32) (j : Nat) : (if c then f else g) j = if c then f j else g j := by split <;> rfl
theorem obe_1 (P : Nat → Int32) (a : Int32) : fX2_obeys_P P a 1 = P 1 := by
  have hgo : ∀ b, fX2_goHours_P P b 1 = P 1 := fun b => by
    unfold fX2_goHours_P
    split
    · rfl
    · exact fX2_goHours_L1 P _
  have hm : ∀ b c, fX2_moveWagon_P P b c 1 = P 1 := fun b c => by
    unfold fX2_moveWagon_P
    (repeat' split) <;> first | rfl | (repeat rw [upd_nw _ _ (by omega)])
  have hs : ∀ b c, fX2_sprayFrom_P P b c 1 = P 1 := fun b c => by
    unfold fX2_sprayFrom_P
    (repeat' split) <;> first | rfl | (unfold fX3_wet_P; repeat rw [upd_nw _ _ (by omega)])
  have hf : ∀ b, fX2_fillTank_P P b 1 = P 1 := fun b => by
    unfold fX2_fillTank_P
    (repeat' split) <;> first | rfl | (repeat rw [upd_nw _ _ (by omega)])
  have hl : ∀ b c, fX2_changeLimit_P P b c 1 = P 1 := fun b c => by
    unfold fX2_changeLimit_P
    (repeat' split) <;> first | rfl | (repeat rw [upd_nw _ _ (by omega)])
  have hn : ∀ b c, fX2_changeNumber_P P b c 1 = P 1 := fun b c => by
    unfold fX2_changeNumber_P
    (repeat' split) <;> first | rfl | (repeat rw [upd_nw _ _ (by decide)])
  have hc : ∀ b c, fX2_changeSurface_P P b c 1 = P 1 := fun b c => csf_0 _ _ _ 1 (by decide)
  unfold fX2_obeys_P
  simp only [ite_ap, hgo, hm, hs, hf, hl, hn, hc, ite_self]
theorem fX6_run_1 (Cm : Nat → Int32) (P : Nat → Int32) : ∀ k, fX6_run_L Cm P k 1 = P 1
  | 0 => rfl
  | k + 1 => (obe_1 _ _).trans (fX6_run_1 Cm P k)
set_option maxHeartbeats 4000000 in
set_option maxRecDepth 100000 in
theorem mX6_runScript {l : Launch} {Γ : gX} (M : Nat → Nat → Int32) (R : Nat → Nat → Option Nat) (O : Int64) (hC : LC Γ R) (X G J S C P Q : Nat → Int32) (hB : BL P) (h8 : (P 1).toNatClampNeg ≤ 8) (n : Nat) {t : Int32} (ht : t = nI n) (sc : Int64) (hn4 : n ≤ 4) (h : ¬ fX6_within_v t 1 4 = 0) (h2 : ¬ sc < 0) (hq : fX6_spl_R sc n = 0) (kx : Nat) (hxN : kx ≤ n) (hno : ∀ j, j < kx → ¬ fX6_run_C (fX6_spl_L sc n C n) (fX6_run_L (fX6_spl_L sc n C n) (fX2_copyFrom_P P Q) j) j) (hyes : kx < n → fX6_run_C (fX6_spl_L sc n C n) (fX6_run_L (fX6_spl_L sc n C n) (fX2_copyFrom_P P Q) kx) kx) : gMet l Γ yX6_runScript wsX6_runScript 6 140 [.ref (gad Γ 475), .int t, .long sc] (cS M X G J S C P Q) R O (some (.int (if kx < n then nI kx else -9))) (cS M X G J S (fX6_spl_L sc n C n) P (fX6_run_L (fX6_spl_L sc n C n) (fX2_copyFrom_P P Q) (if kx < n then kx + 1 else n))) R O := by
  subst ht
  refine g_start (cc := cX6_runScript) (maxL := 5) (ret := (some .int)) (by decide) rfl (Nat.le_of_ble_eq_true rfl) ?_
  intro p e s m below meth c ls hx hb hml hrt hts hown hlocks hname hK hZ hG hS hl
  have hl : lv_has ls 5 [(0, .ref (gad Γ 475)), (1, .int (nI n)), (2, .long sc)] := hl
  have hown : s.vm.findClass RX6 = some m.cls := hown
  have hF : CallFix p m c cX6_runScript 5 s _ wsX6_runScript RX6 := ⟨hx, hb, hml, hown, hts⟩
  have k_1 : (Cond.fieldLink RX6 23 "RoadDust" "trial" "LRoadDust$Road;").before _ s = true := hts _ (by decide +kernel)
  have in_X6 : ∀ w ∈ wsX60, w ∈ wsX6_runScript := by decide +kernel
  have k_3 : (Cond.fieldLink RX6 19 "RoadDust" "now" "LRoadDust$Road;").before _ s = true := hts _ (by decide +kernel)
  have k_4 : (Cond.fieldLink RX6 41 "RoadDust" "commands" "[I").before _ s = true := hts _ (by decide +kernel)
  have hV0 := hC.2.1 0 (by decide)
  have hV1 := hC.2.1 1 (by decide)
  refine lv_iload_n hx hb dX6_runScript_0 rfl (lv_at hl 1 rfl) ?_
  refine lv_iconst (v := 1) hx hb dX6_runScript_1 (by decide) ?_
  refine lv_iconst (v := 4) hx hb dX6_runScript_2 (by decide) ?_
  refine g_callS (As := [.int (nI n), .int 1, .int 4]) (rest := []) (st1 := [.int (fX6_within_v (nI n) 1 4)]) hF (mX6_within _ R O (nI n) 1 4) (va_cwS 3 hts gX6_runScript_X6_within rfl rfl rfl (by decide +kernel) ⟨Nat.le_of_ble_eq_true rfl, Nat.le_of_ble_eq_true rfl⟩) hK hZ hG hS rfl hl.1 (Nat.le_of_ble_eq_true rfl) dX6_runScript_3 ⟨Nat.zero_le _, Nat.zero_le _⟩ rfl rfl (fun H locs hG hS => ?_)
  refine lv_if_eq (tgt := 24) hx hb dX6_runScript_6 (by decide) (fun c_1 => absurd c_1 h) (fun c_1 => ?_)
  refine lv_lload_n hx hb dX6_runScript_9 rfl (lv_at hl 2 rfl) ?_
  refine lv_lconst (v := 0) hx hb dX6_runScript_10 (by decide) ?_
  refine W.lcmp hx hb dX6_runScript_11 ?_
  refine gl_lt (tgt := 24) hx hb dX6_runScript_12 (by decide) (fun c_2 => absurd c_2 h2) (fun c_2 => ?_)
  refine lv_aload_n hx hb dX6_runScript_15 rfl (lv_at hl 0 rfl) ?_
  refine lv_iload_n hx hb dX6_runScript_16 rfl (lv_at hl 1 rfl) ?_
  refine lv_lload_n hx hb dX6_runScript_17 rfl (lv_at hl 2 rfl) ?_
  refine g_callV (As := [.int (nI n), .long sc]) (rest := []) (st1 := [.int 1]) hF (g_vv (if_pos hq) (mX6_splitScript M R O hC X G J S C P Q n hn4 rfl sc)) (cwV 2 hts gX6_runScript_X6_splitScript rfl rfl rfl (by decide +kernel) ⟨Nat.le_of_ble_eq_true rfl, Nat.le_of_ble_eq_true rfl⟩) hK hZ hG hS (hC.1 475 (by decide) (by decide)) (show gC 475 = (6, 32, 0) from rfl) (by decide) rfl rfl hl.1 (Nat.le_of_ble_eq_true rfl) dX6_runScript_18 ⟨Nat.zero_le _, Nat.zero_le _⟩ rfl rfl (fun H locs hG hS => ?_)
  refine lv_if_ne (tgt := 34) hx hb dX6_runScript_21 (by decide) (fun c_3 => ?_) (fun c_3 => absurd c_3 (by decide))
  refine lv_aload_n hx hb dX6_runScript_34 rfl (lv_at hl 0 rfl) ?_
  refine go_getr (C := RX6) (T := TX6) (ci := 6) hx hb hts in_X6 hown hK hG (hC.1 475 (by decide) (by decide)) (show gC 475 = (6, 32, 0) from rfl) (by decide) rfl 2 (by decide) rfl hC.2.2.2.2.1 k_1 (fun _ h => h) dX6_runScript_35 ?_
  refine lv_aload_n hx hb dX6_runScript_38 rfl (lv_at hl 0 rfl) ?_
  refine go_getr (C := RX6) (T := TX6) (ci := 6) hx hb hts in_X6 hown hK hG (hC.1 475 (by decide) (by decide)) (show gC 475 = (6, 32, 0) from rfl) (by decide) rfl 1 (by decide) rfl hC.2.2.2.1 k_3 (fun _ h => h) dX6_runScript_39 ?_
  replace hG := g_st (show _ = va_up (cS M X G J S (fX6_spl_L sc n C n) P Q) 1 Q from (cS_u1 _ _ _ _ _ _ _ _ _).symm) hG
  refine g_callV (As := [.ref (gad Γ (25 * 0))]) (rest := []) (st1 := []) hF (mX2_copyFrom_q (cS M X G J S (fX6_spl_L sc n C n) P Q) R O hV1 hV0 (by decide) P Q (cS_b0 _ _ _ _ _ _ _ _) hB) (cwV 1 hts gX6_runScript_X2_copyFrom rfl rfl rfl (by decide +kernel) ⟨Nat.le_of_ble_eq_true rfl, Nat.le_of_ble_eq_true rfl⟩) hK hZ hG hS hV1.c0 (gC_Rd hV1.1) (by decide) rfl rfl hl.1 (Nat.le_of_ble_eq_true rfl) dX6_runScript_42 ⟨Nat.zero_le _, Nat.zero_le _⟩ rfl rfl (fun H locs hG hS => ?_)
  replace hG : GH Γ (cS M X G J S (fX6_spl_L sc n C n) P (fX2_copyFrom_P P Q)) R O _ := g_st (cS_u1 _ _ _ _ _ _ _ _ _) hG
  refine lv_iconst (v := 0) hx hb dX6_runScript_45 (by decide) ?_
  refine lv_istore (lv' := [(4, .int 0), (0, .ref (gad Γ 475)), (1, .int (nI n)), (2, .long sc)]) hx hb dX6_runScript_46 hl (by decide) rfl (fun ls hl => ?_)
  refine g_loop (N := n) (fun k H locs ls => k ≤ kx ∧ GH Γ (cS M X G J S (fX6_spl_L sc n C n) P (fX6_run_L (fX6_spl_L sc n C n) (fX2_copyFrom_P P Q) k)) R O H ∧ va_S (gA Γ) s.heap H locs ∧ lv_has ls 5 [(0, .ref (gad Γ 475)), (1, .int (nI n)), (4, .int (nI k))]) ?_ ?_ 0 (Nat.zero_le _) _ _ _ ⟨Nat.zero_le _, hG, hS, lv_sub hl [1, 2, 0] rfl⟩
  · rintro H locs ls ⟨hle_x, hG, hS, hl⟩
    have ex : kx = n := Nat.le_antisymm hxN hle_x
    refine lv_iload hx hb dX6_runScript_48 (lv_at hl 2 rfl) ?_
    refine lv_iload_n hx hb dX6_runScript_50 rfl (lv_at hl 1 rfl) ?_
    refine lv_icmp_ge (tgt := 86) hx hb dX6_runScript_51 (by decide) (fun c_4 => ?_) (fun c_4 => absurd (nI_le (Nat.le_refl _) (by omega)) c_4)
    refine lv_bipush (v := (-9)) hx hb dX6_runScript_86 (by decide) ?_
    exact g_iret hx hb hrt hlocks hS hG (by rw [if_neg (by omega)]) (cS_c rfl rfl rfl rfl rfl rfl (by rw [if_neg (by omega)])) dX6_runScript_88
  · rintro k hk_k ih_k H locs ls ⟨hle_k, hG, hS, hl⟩
    refine lv_iload hx hb dX6_runScript_48 (lv_at hl 2 rfl) ?_
    refine lv_iload_n hx hb dX6_runScript_50 rfl (lv_at hl 1 rfl) ?_
    refine lv_icmp_ge (tgt := 86) hx hb dX6_runScript_51 (by decide) (fun c_5 => absurd c_5 (nI_ge hk_k (by omega))) (fun c_5 => ?_)
    refine lv_iload hx hb dX6_runScript_54 (lv_at hl 2 rfl) ?_
    refine lv_iconst (v := 4) hx hb dX6_runScript_56 (by decide) ?_
    refine lv_icmp_ge (tgt := 86) hx hb dX6_runScript_57 (by decide) (fun c_6 => absurd c_6 (i32_lt_nle (nI_lt (b := 4) (by omega) (by decide)))) (fun c_6 => ?_)
    refine lv_aload_n hx hb dX6_runScript_60 rfl (lv_at hl 0 rfl) ?_
    refine go_getr (C := RX6) (T := TX6) (ci := 6) hx hb hts in_X6 hown hK hG (hC.1 475 (by decide) (by decide)) (show gC 475 = (6, 32, 0) from rfl) (by decide) rfl 2 (by decide) rfl hC.2.2.2.2.1 k_1 (fun _ h => h) dX6_runScript_61 ?_
    refine lv_aload_n hx hb dX6_runScript_64 rfl (lv_at hl 0 rfl) ?_
    refine go_getr (C := RX6) (T := TX6) (ci := 6) hx hb hts in_X6 hown hK hG (hC.1 475 (by decide) (by decide)) (show gC 475 = (6, 32, 0) from rfl) (by decide) rfl 6 (by decide) rfl hC.2.2.2.2.2.2.2.2.1 k_4 (fun _ h => h) dX6_runScript_65 ?_
    refine lv_iload hx hb dX6_runScript_68 (lv_at hl 2 rfl) ?_
    refine gm_ald hx hb hK hG (hC.1 482 (by decide) (by decide)) (show gC 482 = (9, 23, 0) from rfl) (show gLen 482 = 4 from rfl) (by decide) (j := k) rfl (by omega) (v := (fX6_spl_L sc n C n) k) (cS_a23 _ _ _ _ _ _ _ _ _) dX6_runScript_70 ?_
    replace hG := g_st (show _ = va_up (cS M X G J S (fX6_spl_L sc n C n) P (fX6_run_L (fX6_spl_L sc n C n) (fX2_copyFrom_P P Q) k)) 1 (fX6_run_L (fX6_spl_L sc n C n) (fX2_copyFrom_P P Q) k) from (cS_u1 _ _ _ _ _ _ _ _ _).symm) hG
    refine g_callV (As := [.int ((fX6_spl_L sc n C n) k)]) (rest := []) (st1 := [.int (fX2_obeys_v (fX6_run_L (fX6_spl_L sc n C n) (fX2_copyFrom_P P Q) k) ((fX6_spl_L sc n C n) k))]) hF (mX2_obeys (cS M X G J S (fX6_spl_L sc n C n) P (fX6_run_L (fX6_spl_L sc n C n) (fX2_copyFrom_P P Q) k)) R O hV1 (fX6_run_L (fX6_spl_L sc n C n) (fX2_copyFrom_P P Q) k) ((fX6_spl_L sc n C n) k) (by rw [fX6_run_1, cpf_lo _ _ 1 (by decide)]; exact h8)) (cwV 1 hts gX6_runScript_X2_obeys rfl rfl rfl (by decide +kernel) ⟨Nat.le_of_ble_eq_true rfl, Nat.le_of_ble_eq_true rfl⟩) hK hZ hG hS hV1.c0 (gC_Rd hV1.1) (by decide) rfl rfl hl.1 (Nat.le_of_ble_eq_true rfl) dX6_runScript_71 ⟨Nat.zero_le _, Nat.zero_le _⟩ rfl rfl (fun H locs hG hS => ?_)
    replace hG : GH Γ (cS M X G J S (fX6_spl_L sc n C n) P (fX2_obeys_P (fX6_run_L (fX6_spl_L sc n C n) (fX2_copyFrom_P P Q) k) ((fX6_spl_L sc n C n) k))) R O _ := g_st (cS_u1 _ _ _ _ _ _ _ _ _) hG
    refine lv_if_ne (tgt := 80) hx hb dX6_runScript_74 (by decide) (fun c_7 => ?_) (fun c_7 => ?_)
    · --T
      refine lv_iinc (v := nI (k + 1)) (lv' := [(4, .int (nI (k + 1))), (0, .ref (gad Γ 475)), (1, .int (nI n))]) hx hb dX6_runScript_80 hl (k := 2) rfl (nI_1 _) (by decide) rfl (fun ls hl => ?_)
      refine lv_goto (tgt := 48) hx hb dX6_runScript_83 (by decide) ?_
      exact ih_k _ _ _ ⟨Nat.lt_of_le_of_ne hle_k (fun e => by subst e; exact absurd (hyes hk_k) c_7), hG, hS, lv_sub hl [1, 2, 0] rfl⟩
    · --F
      have ex : k = kx := Nat.le_antisymm hle_k (Nat.le_of_not_lt (fun q => hno _ q c_7))
      subst ex
      refine lv_iload hx hb dX6_runScript_77 (lv_at hl 2 rfl) ?_
      exact g_iret hx hb hrt hlocks hS hG (by rw [if_pos hk_k]) (cS_c rfl rfl rfl rfl rfl rfl (by rw [if_pos hk_k] <;> rfl)) dX6_runScript_79

