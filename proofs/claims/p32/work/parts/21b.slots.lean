/-! THE CLASS: undo, ahead, save slots. Laid by gen/p21.py. -/
set_option maxHeartbeats 4000000 in
set_option maxRecDepth 100000 in
theorem mX6_undo {l : Launch} {Γ : gX} (M : Nat → Nat → Int32) (R : Nat → Nat → Option Nat) (O : Int64) (hC : LC Γ R) (X G J S C P Q : Nat → Int32) (pm : Nat → Nat) (hp : HP R pm) (k : Nat) (hk : J 1 = nI (k + 1)) (hk14 : k + 1 ≤ 14) (hB : BL (M (pm k))) : gMet l Γ yX6_undo wsX6_undo 3 64 [.ref (gad Γ 475)] (cS M X G J S C P Q) R O (some (.int ((upd J 1 ((J 1) - 1)) 1))) (cS M X G (upd J 1 ((J 1) - 1)) S C (fX2_copyFrom_P (M (pm k)) P) Q) R O := by
  refine g_start (cc := cX6_undo) (maxL := 1) (ret := (some .int)) (by decide) rfl (Nat.le_of_ble_eq_true rfl) ?_
  intro p e s m below meth c ls hx hb hml hrt hts hown hlocks hname hK hZ hG hS hl
  have hl : lv_has ls 1 [(0, .ref (gad Γ 475))] := hl
  have hown : s.vm.findClass RX6 = some m.cls := hown
  have hF : CallFix p m c cX6_undo 1 s _ wsX6_undo RX6 := ⟨hx, hb, hml, hown, hts⟩
  have k_1 : (Cond.fieldLink RX6 29 "RoadDust" "history" "LRoadDust$History;").before _ s = true := hts _ (by decide +kernel)
  have in_X6 : ∀ w ∈ wsX60, w ∈ wsX6_undo := by decide +kernel
  have k_3 : (Cond.fieldLink RX6 19 "RoadDust" "now" "LRoadDust$Road;").before _ s = true := hts _ (by decide +kernel)
  have k_4 : (Cond.fieldLink RX6 142 "RoadDust$History" "count" "I").before _ s = true := hts _ (by decide +kernel)
  have in_X0 : ∀ w ∈ wsX00, w ∈ wsX6_undo := by decide +kernel
  have hV0 := hC.2.1 0 (by decide)
  have hV1 := hC.2.1 1 (by decide)
  refine lv_aload_n hx hb dX6_undo_0 rfl (lv_at hl 0 rfl) ?_
  refine go_getr (C := RX6) (T := TX6) (ci := 6) hx hb hts in_X6 hown hK hG (hC.1 475 (by decide) (by decide)) (show gC 475 = (6, 32, 0) from rfl) (by decide) rfl 3 (by decide) rfl hC.2.2.2.2.2.1 k_1 (fun _ h => h) dX6_undo_1 ?_
  refine lv_aload_n hx hb dX6_undo_4 rfl (lv_at hl 0 rfl) ?_
  refine go_getr (C := RX6) (T := TX6) (ci := 6) hx hb hts in_X6 hown hK hG (hC.1 475 (by decide) (by decide)) (show gC 475 = (6, 32, 0) from rfl) (by decide) rfl 1 (by decide) rfl hC.2.2.2.1 k_3 (fun _ h => h) dX6_undo_5 ?_
  refine g_callV (As := [.ref (gad Γ (25 * 0))]) (rest := []) (st1 := [.int 1]) hF (mX0_takeBack_y M R O hC X G J S C P Q pm hp k hk hk14 hB) (cwV 1 hts gX6_undo_X0_takeBack rfl rfl rfl (by decide +kernel) ⟨Nat.le_of_ble_eq_true rfl, Nat.le_of_ble_eq_true rfl⟩) hK hZ hG hS (hC.1 478 (by decide) (by decide)) (show gC 478 = (0, 21, 0) from rfl) (by decide) rfl rfl hl.1 (Nat.le_of_ble_eq_true rfl) dX6_undo_8 ⟨Nat.zero_le _, Nat.zero_le _⟩ rfl rfl (fun H locs hG hS => ?_)
  refine lv_if_ne (tgt := 24) hx hb dX6_undo_11 (by decide) (fun c_1 => ?_) (fun c_1 => absurd c_1 (by decide))
  refine lv_aload_n hx hb dX6_undo_24 rfl (lv_at hl 0 rfl) ?_
  refine go_getr (C := RX6) (T := TX6) (ci := 6) hx hb hts in_X6 hown hK hG (hC.1 475 (by decide) (by decide)) (show gC 475 = (6, 32, 0) from rfl) (by decide) rfl 3 (by decide) rfl hC.2.2.2.2.2.1 k_1 (fun _ h => h) dX6_undo_25 ?_
  refine go_get (C := RX0) (T := TX0) (ci := 0) hx hb hts in_X0 hown hK hG (hC.1 478 (by decide) (by decide)) (show gC 478 = (0, 21, 0) from rfl) (by decide) rfl 1 (by decide) rfl k_4 (fun _ h => h) (v := (upd J 1 ((J 1) - 1)) 1) (cS_a21 _ _ _ _ _ _ _ _ _) dX6_undo_28 ?_
  exact g_iret hx hb hrt hlocks hS hG rfl rfl dX6_undo_31

set_option maxHeartbeats 4000000 in
set_option maxRecDepth 100000 in
theorem tX6_undo {l : Launch} {Γ : gX} (hst : l.stackTraces = false) (M : Nat → Nat → Int32) (R : Nat → Nat → Option Nat) (O : Int64) (hC : LC Γ R) (X G J S C P Q : Nat → Int32) (hk : J 1 = nI 0) : gThr l Γ yX6_undo wsX6_undo 6 82 [.ref (gad Γ 475)] (cS M X G J S C P Q) R O "java/lang/IllegalStateException" (cS M X G J S C P Q) R O := by
  refine g_startT (cc := cX6_undo) (maxL := 1) (ret := (some .int)) (by decide) rfl (Nat.le_of_ble_eq_true rfl) ?_
  intro p e s m below meth c ls hx hb hml hrt hts hown hlocks hname hK hZ hG hS hl hX hnx
  have hl : lv_has ls 1 [(0, .ref (gad Γ 475))] := hl
  have hown : s.vm.findClass RX6 = some m.cls := hown
  have hF : CallFix p m c cX6_undo 1 s _ wsX6_undo RX6 := ⟨hx, hb, hml, hown, hts⟩
  have k_1 : (Cond.fieldLink RX6 29 "RoadDust" "history" "LRoadDust$History;").before _ s = true := hts _ (by decide +kernel)
  have in_X6 : ∀ w ∈ wsX60, w ∈ wsX6_undo := by decide +kernel
  have k_3 : (Cond.fieldLink RX6 19 "RoadDust" "now" "LRoadDust$Road;").before _ s = true := hts _ (by decide +kernel)
  have hV0 := hC.2.1 0 (by decide)
  have hV1 := hC.2.1 1 (by decide)
  refine lv_aload_n hx hb dX6_undo_0 rfl (lv_at hl 0 rfl) ?_
  refine go_getr (C := RX6) (T := TX6) (ci := 6) hx hb hts in_X6 hown hK hG (hC.1 475 (by decide) (by decide)) (show gC 475 = (6, 32, 0) from rfl) (by decide) rfl 3 (by decide) rfl hC.2.2.2.2.2.1 k_1 (fun _ h => h) dX6_undo_1 ?_
  refine lv_aload_n hx hb dX6_undo_4 rfl (lv_at hl 0 rfl) ?_
  refine go_getr (C := RX6) (T := TX6) (ci := 6) hx hb hts in_X6 hown hK hG (hC.1 475 (by decide) (by decide)) (show gC 475 = (6, 32, 0) from rfl) (by decide) rfl 1 (by decide) rfl hC.2.2.2.1 k_3 (fun _ h => h) dX6_undo_5 ?_
  refine g_callV (As := [.ref (gad Γ (25 * 0))]) (rest := []) (st1 := [.int 0]) hF (mX0_takeBack_n M R O hC X G J S C P Q hk) (cwV 1 hts gX6_undo_X0_takeBack rfl rfl rfl (by decide +kernel) ⟨Nat.le_of_ble_eq_true rfl, Nat.le_of_ble_eq_true rfl⟩) hK hZ hG hS (hC.1 478 (by decide) (by decide)) (show gC 478 = (0, 21, 0) from rfl) (by decide) rfl rfl hl.1 (Nat.le_of_ble_eq_true rfl) dX6_undo_8 ⟨Nat.zero_le _, Nat.zero_le _⟩ rfl rfl (fun H locs hG hS => ?_)
  refine lv_if_ne (tgt := 24) hx hb dX6_undo_11 (by decide) (fun c_1 => absurd (by decide) c_1) (fun c_1 => ?_)
  exact g_throw (cls := "java/lang/IllegalStateException") (text := "no state is remembered") (ik := 60) (is := 140) (ic := 64) hx hb hst hown (by decide +kernel) hts (by decide +kernel) (by decide +kernel) (by decide +kernel) (by decide +kernel) (by decide +kernel) (by decide +kernel) hX hZ hG hS (hl.1.trans hml.symm) dX6_undo_14 dX6_undo_17 dX6_undo_18 dX6_undo_20 dX6_undo_23 hnx (Nat.le_of_ble_eq_true rfl) (Nat.le_of_ble_eq_true rfl) ⟨Nat.le_of_ble_eq_true rfl, Nat.le_of_ble_eq_true rfl⟩ hlocks

set_option maxHeartbeats 4000000 in
set_option maxRecDepth 100000 in
theorem mX6_ahead {l : Launch} {Γ : gX} (M : Nat → Nat → Int32) (R : Nat → Nat → Option Nat) (O : Int64) (hC : LC Γ R) (X G J S C P Q : Nat → Int32) (hB : BL P) (a d : Int32) (h8 : (P 1).toNatClampNeg ≤ 8) (h1 : okI a ((fX2_copyFrom_P P Q) 1) 8) (h2 : ¬ fX6_within_v d 1 20 = 0) : gMet l Γ yX6_ahead wsX6_ahead 5 115 [.ref (gad Γ 475), .int a, .int d] (cS M X G J S C P Q) R O (some (.int (fX2_goHours_P (fX2_copyFrom_P P Q) d (82 + 5 * a.toNatClampNeg + 4)))) (cS M X G J S C P (fX2_goHours_P (fX2_copyFrom_P P Q) d)) R O := by
  refine g_start (cc := cX6_ahead) (maxL := 4) (ret := (some .int)) (by decide) rfl (Nat.le_of_ble_eq_true rfl) ?_
  intro p e s m below meth c ls hx hb hml hrt hts hown hlocks hname hK hZ hG hS hl
  have hl : lv_has ls 4 [(0, .ref (gad Γ 475)), (1, .int a), (2, .int d)] := hl
  have hown : s.vm.findClass RX6 = some m.cls := hown
  have hF : CallFix p m c cX6_ahead 4 s _ wsX6_ahead RX6 := ⟨hx, hb, hml, hown, hts⟩
  have k_1 : (Cond.fieldLink RX6 23 "RoadDust" "trial" "LRoadDust$Road;").before _ s = true := hts _ (by decide +kernel)
  have in_X6 : ∀ w ∈ wsX60, w ∈ wsX6_ahead := by decide +kernel
  have k_3 : (Cond.fieldLink RX6 19 "RoadDust" "now" "LRoadDust$Road;").before _ s = true := hts _ (by decide +kernel)
  have k_4 : (Cond.fieldLink RX6 163 "RoadDust$House" "got" "I").before _ s = true := hts _ (by decide +kernel)
  have in_X1 : ∀ w ∈ wsX10, w ∈ wsX6_ahead := by decide +kernel
  have hV0 := hC.2.1 0 (by decide)
  have hV1 := hC.2.1 1 (by decide)
  refine lv_aload_n hx hb dX6_ahead_0 rfl (lv_at hl 0 rfl) ?_
  refine go_getr (C := RX6) (T := TX6) (ci := 6) hx hb hts in_X6 hown hK hG (hC.1 475 (by decide) (by decide)) (show gC 475 = (6, 32, 0) from rfl) (by decide) rfl 2 (by decide) rfl hC.2.2.2.2.1 k_1 (fun _ h => h) dX6_ahead_1 ?_
  refine lv_aload_n hx hb dX6_ahead_4 rfl (lv_at hl 0 rfl) ?_
  refine go_getr (C := RX6) (T := TX6) (ci := 6) hx hb hts in_X6 hown hK hG (hC.1 475 (by decide) (by decide)) (show gC 475 = (6, 32, 0) from rfl) (by decide) rfl 1 (by decide) rfl hC.2.2.2.1 k_3 (fun _ h => h) dX6_ahead_5 ?_
  replace hG := g_st (show _ = va_up (cS M X G J S C P Q) 1 Q from (cS_u1 _ _ _ _ _ _ _ _ _).symm) hG
  refine g_callV (As := [.ref (gad Γ (25 * 0))]) (rest := []) (st1 := []) hF (mX2_copyFrom_q (cS M X G J S C P Q) R O hV1 hV0 (by decide) P Q (cS_b0 _ _ _ _ _ _ _ _) hB) (cwV 1 hts gX6_ahead_X2_copyFrom rfl rfl rfl (by decide +kernel) ⟨Nat.le_of_ble_eq_true rfl, Nat.le_of_ble_eq_true rfl⟩) hK hZ hG hS hV1.c0 (gC_Rd hV1.1) (by decide) rfl rfl hl.1 (Nat.le_of_ble_eq_true rfl) dX6_ahead_8 ⟨Nat.zero_le _, Nat.zero_le _⟩ rfl rfl (fun H locs hG hS => ?_)
  replace hG : GH Γ (cS M X G J S C P (fX2_copyFrom_P P Q)) R O _ := g_st (cS_u1 _ _ _ _ _ _ _ _ _) hG
  refine lv_aload_n hx hb dX6_ahead_11 rfl (lv_at hl 0 rfl) ?_
  refine go_getr (C := RX6) (T := TX6) (ci := 6) hx hb hts in_X6 hown hK hG (hC.1 475 (by decide) (by decide)) (show gC 475 = (6, 32, 0) from rfl) (by decide) rfl 2 (by decide) rfl hC.2.2.2.2.1 k_1 (fun _ h => h) dX6_ahead_12 ?_
  refine lv_iload_n hx hb dX6_ahead_15 rfl (lv_at hl 1 rfl) ?_
  replace hG := g_st (show _ = va_up (cS M X G J S C P (fX2_copyFrom_P P Q)) 1 (fX2_copyFrom_P P Q) from (cS_u1 _ _ _ _ _ _ _ _ _).symm) hG
  refine g_callV (As := [.int a]) (rest := []) (st1 := [.ref (gad Γ (25 * 1 + 14 + a.toNatClampNeg))]) hF (mX2_houseAt_y (cS M X G J S C P (fX2_copyFrom_P P Q)) R O hV1 (fX2_copyFrom_P P Q) h1 (j := a.toNatClampNeg) rfl) (cwV 1 hts gX6_ahead_X2_houseAt rfl rfl rfl (by decide +kernel) ⟨Nat.le_of_ble_eq_true rfl, Nat.le_of_ble_eq_true rfl⟩) hK hZ hG hS hV1.c0 (gC_Rd hV1.1) (by decide) rfl rfl hl.1 (Nat.le_of_ble_eq_true rfl) dX6_ahead_16 ⟨Nat.zero_le _, Nat.zero_le _⟩ rfl rfl (fun H locs hG hS => ?_)
  replace hG : GH Γ (cS M X G J S C P (fX2_copyFrom_P P Q)) R O _ := g_st (cS_u1 _ _ _ _ _ _ _ _ _) hG
  refine lv_astore_n (lv' := [(3, .ref (gad Γ (25 * 1 + 14 + a.toNatClampNeg))), (0, .ref (gad Γ 475)), (1, .int a), (2, .int d)]) hx hb dX6_ahead_19 rfl hl (by decide) rfl (fun ls hl => ?_)
  refine lv_aload_n hx hb dX6_ahead_20 rfl (lv_at hl 0 rfl) ?_
  refine lv_ifnonnull (tgt := 34) hx hb dX6_ahead_21 (by decide) ?_
  refine lv_iload_n hx hb dX6_ahead_34 rfl (lv_at hl 3 rfl) ?_
  refine lv_iconst (v := 1) hx hb dX6_ahead_35 (by decide) ?_
  refine lv_bipush (v := 20) hx hb dX6_ahead_36 (by decide) ?_
  refine g_callS (As := [.int d, .int 1, .int 20]) (rest := []) (st1 := [.int (fX6_within_v d 1 20)]) hF (mX6_within _ R O d 1 20) (va_cwS 3 hts gX6_ahead_X6_within rfl rfl rfl (by decide +kernel) ⟨Nat.le_of_ble_eq_true rfl, Nat.le_of_ble_eq_true rfl⟩) hK hZ hG hS rfl hl.1 (Nat.le_of_ble_eq_true rfl) dX6_ahead_38 ⟨Nat.zero_le _, Nat.zero_le _⟩ rfl rfl (fun H locs hG hS => ?_)
  refine lv_if_ne (tgt := 54) hx hb dX6_ahead_41 (by decide) (fun c_2 => ?_) (fun c_2 => absurd c_2 h2)
  refine lv_aload_n hx hb dX6_ahead_54 rfl (lv_at hl 1 rfl) ?_
  refine go_getr (C := RX6) (T := TX6) (ci := 6) hx hb hts in_X6 hown hK hG (hC.1 475 (by decide) (by decide)) (show gC 475 = (6, 32, 0) from rfl) (by decide) rfl 2 (by decide) rfl hC.2.2.2.2.1 k_1 (fun _ h => h) dX6_ahead_55 ?_
  refine lv_iload_n hx hb dX6_ahead_58 rfl (lv_at hl 3 rfl) ?_
  replace hG := g_st (show _ = va_up (cS M X G J S C P (fX2_copyFrom_P P Q)) 1 (fX2_copyFrom_P P Q) from (cS_u1 _ _ _ _ _ _ _ _ _).symm) hG
  refine g_callV (As := [.int d]) (rest := []) (st1 := [.int (fX2_goHours_v (fX2_copyFrom_P P Q) d)]) hF (mX2_goHours (cS M X G J S C P (fX2_copyFrom_P P Q)) R O hV1 (fX2_copyFrom_P P Q) d (by rw [cpf_lo _ _ 1 (by decide)]; exact h8)) (cwV 1 hts gX6_ahead_X2_goHours rfl rfl rfl (by decide +kernel) ⟨Nat.le_of_ble_eq_true rfl, Nat.le_of_ble_eq_true rfl⟩) hK hZ hG hS hV1.c0 (gC_Rd hV1.1) (by decide) rfl rfl hl.1 (Nat.le_of_ble_eq_true rfl) dX6_ahead_59 ⟨Nat.zero_le _, Nat.zero_le _⟩ rfl rfl (fun H locs hG hS => ?_)
  replace hG : GH Γ (cS M X G J S C P (fX2_goHours_P (fX2_copyFrom_P P Q) d)) R O _ := g_st (cS_u1 _ _ _ _ _ _ _ _ _) hG
  refine lv_pop hx hb dX6_ahead_62 rfl ?_
  refine lv_aload_n hx hb dX6_ahead_63 rfl (lv_at hl 0 rfl) ?_
  replace hG := g_st (show _ = va_up (cS M X G J S C P (fX2_goHours_P (fX2_copyFrom_P P Q) d)) 1 (fX2_goHours_P (fX2_copyFrom_P P Q) d) from (cS_u1 _ _ _ _ _ _ _ _ _).symm) hG
  refine gHs_get hx hb hts in_X1 hown hK hG hV1.1 (okI_lt (k := 8) rfl (by decide) h1) (hV1.hou (i := a.toNatClampNeg) (okI_lt (k := 8) rfl (by decide) h1)) 4 (by decide) k_4 (fun _ h => h) (j := 82 + 5 * a.toNatClampNeg + 4) rfl dX6_ahead_64 ?_
  replace hG : GH Γ (cS M X G J S C P (fX2_goHours_P (fX2_copyFrom_P P Q) d)) R O _ := g_st (cS_u1 _ _ _ _ _ _ _ _ _) hG
  exact g_iret hx hb hrt hlocks hS hG rfl rfl dX6_ahead_67

set_option maxHeartbeats 4000000 in
set_option maxRecDepth 100000 in
theorem tX6_ahead_1 {l : Launch} {Γ : gX} (hst : l.stackTraces = false) (M : Nat → Nat → Int32) (R : Nat → Nat → Option Nat) (O : Int64) (hC : LC Γ R) (X G J S C P Q : Nat → Int32) (hB : BL P) (a d : Int32) (h1 : ¬ okI a ((fX2_copyFrom_P P Q) 1) 8) : gThr l Γ yX6_ahead wsX6_ahead 6 82 [.ref (gad Γ 475), .int a, .int d] (cS M X G J S C P Q) R O "java/lang/IndexOutOfBoundsException" (cS M X G J S C P (fX2_copyFrom_P P Q)) R O := by
  refine g_startT (cc := cX6_ahead) (maxL := 4) (ret := (some .int)) (by decide) rfl (Nat.le_of_ble_eq_true rfl) ?_
  intro p e s m below meth c ls hx hb hml hrt hts hown hlocks hname hK hZ hG hS hl hX hnx
  have hl : lv_has ls 4 [(0, .ref (gad Γ 475)), (1, .int a), (2, .int d)] := hl
  have hown : s.vm.findClass RX6 = some m.cls := hown
  have hF : CallFix p m c cX6_ahead 4 s _ wsX6_ahead RX6 := ⟨hx, hb, hml, hown, hts⟩
  have k_1 : (Cond.fieldLink RX6 23 "RoadDust" "trial" "LRoadDust$Road;").before _ s = true := hts _ (by decide +kernel)
  have in_X6 : ∀ w ∈ wsX60, w ∈ wsX6_ahead := by decide +kernel
  have k_3 : (Cond.fieldLink RX6 19 "RoadDust" "now" "LRoadDust$Road;").before _ s = true := hts _ (by decide +kernel)
  have hV0 := hC.2.1 0 (by decide)
  have hV1 := hC.2.1 1 (by decide)
  refine lv_aload_n hx hb dX6_ahead_0 rfl (lv_at hl 0 rfl) ?_
  refine go_getr (C := RX6) (T := TX6) (ci := 6) hx hb hts in_X6 hown hK hG (hC.1 475 (by decide) (by decide)) (show gC 475 = (6, 32, 0) from rfl) (by decide) rfl 2 (by decide) rfl hC.2.2.2.2.1 k_1 (fun _ h => h) dX6_ahead_1 ?_
  refine lv_aload_n hx hb dX6_ahead_4 rfl (lv_at hl 0 rfl) ?_
  refine go_getr (C := RX6) (T := TX6) (ci := 6) hx hb hts in_X6 hown hK hG (hC.1 475 (by decide) (by decide)) (show gC 475 = (6, 32, 0) from rfl) (by decide) rfl 1 (by decide) rfl hC.2.2.2.1 k_3 (fun _ h => h) dX6_ahead_5 ?_
  replace hG := g_st (show _ = va_up (cS M X G J S C P Q) 1 Q from (cS_u1 _ _ _ _ _ _ _ _ _).symm) hG
  refine g_callV (As := [.ref (gad Γ (25 * 0))]) (rest := []) (st1 := []) hF (mX2_copyFrom_q (cS M X G J S C P Q) R O hV1 hV0 (by decide) P Q (cS_b0 _ _ _ _ _ _ _ _) hB) (cwV 1 hts gX6_ahead_X2_copyFrom rfl rfl rfl (by decide +kernel) ⟨Nat.le_of_ble_eq_true rfl, Nat.le_of_ble_eq_true rfl⟩) hK hZ hG hS hV1.c0 (gC_Rd hV1.1) (by decide) rfl rfl hl.1 (Nat.le_of_ble_eq_true rfl) dX6_ahead_8 ⟨Nat.zero_le _, Nat.zero_le _⟩ rfl rfl (fun H locs hG hS => ?_)
  replace hG : GH Γ (cS M X G J S C P (fX2_copyFrom_P P Q)) R O _ := g_st (cS_u1 _ _ _ _ _ _ _ _ _) hG
  refine lv_aload_n hx hb dX6_ahead_11 rfl (lv_at hl 0 rfl) ?_
  refine go_getr (C := RX6) (T := TX6) (ci := 6) hx hb hts in_X6 hown hK hG (hC.1 475 (by decide) (by decide)) (show gC 475 = (6, 32, 0) from rfl) (by decide) rfl 2 (by decide) rfl hC.2.2.2.2.1 k_1 (fun _ h => h) dX6_ahead_12 ?_
  refine lv_iload_n hx hb dX6_ahead_15 rfl (lv_at hl 1 rfl) ?_
  replace hG := g_st (show _ = va_up (cS M X G J S C P (fX2_copyFrom_P P Q)) 1 (fX2_copyFrom_P P Q) from (cS_u1 _ _ _ _ _ _ _ _ _).symm) hG
  refine g_callV (As := [.int a]) (rest := []) (st1 := [.null]) hF (mX2_houseAt_n (cS M X G J S C P (fX2_copyFrom_P P Q)) R O hV1 (fX2_copyFrom_P P Q) h1) (cwV 1 hts gX6_ahead_X2_houseAt rfl rfl rfl (by decide +kernel) ⟨Nat.le_of_ble_eq_true rfl, Nat.le_of_ble_eq_true rfl⟩) hK hZ hG hS hV1.c0 (gC_Rd hV1.1) (by decide) rfl rfl hl.1 (Nat.le_of_ble_eq_true rfl) dX6_ahead_16 ⟨Nat.zero_le _, Nat.zero_le _⟩ rfl rfl (fun H locs hG hS => ?_)
  replace hG : GH Γ (cS M X G J S C P (fX2_copyFrom_P P Q)) R O _ := g_st (cS_u1 _ _ _ _ _ _ _ _ _) hG
  refine lv_astore_nN (lv' := [(3, .null), (0, .ref (gad Γ 475)), (1, .int a), (2, .int d)]) hx hb dX6_ahead_19 rfl hl (by decide) rfl (fun ls hl => ?_)
  refine lv_aload_nN hx hb dX6_ahead_20 rfl (lv_at hl 0 rfl) ?_
  refine lv_ifnonnullN hx hb dX6_ahead_21 ?_
  exact g_throw (cls := "java/lang/IndexOutOfBoundsException") (text := "no such house") (ik := 149) (is := 151) (ic := 153) hx hb hst hown (by decide +kernel) hts (by decide +kernel) (by decide +kernel) (by decide +kernel) (by decide +kernel) (by decide +kernel) (by decide +kernel) hX hZ hG hS (hl.1.trans hml.symm) dX6_ahead_24 dX6_ahead_27 dX6_ahead_28 dX6_ahead_30 dX6_ahead_33 hnx (Nat.le_of_ble_eq_true rfl) (Nat.le_of_ble_eq_true rfl) ⟨Nat.le_of_ble_eq_true rfl, Nat.le_of_ble_eq_true rfl⟩ hlocks

set_option maxHeartbeats 4000000 in
set_option maxRecDepth 100000 in
theorem tX6_ahead_2 {l : Launch} {Γ : gX} (hst : l.stackTraces = false) (M : Nat → Nat → Int32) (R : Nat → Nat → Option Nat) (O : Int64) (hC : LC Γ R) (X G J S C P Q : Nat → Int32) (hB : BL P) (a d : Int32) (h1 : okI a ((fX2_copyFrom_P P Q) 1) 8) (h2 : fX6_within_v d 1 20 = 0) : gThr l Γ yX6_ahead wsX6_ahead 6 82 [.ref (gad Γ 475), .int a, .int d] (cS M X G J S C P Q) R O "java/lang/IllegalArgumentException" (cS M X G J S C P (fX2_copyFrom_P P Q)) R O := by
  refine g_startT (cc := cX6_ahead) (maxL := 4) (ret := (some .int)) (by decide) rfl (Nat.le_of_ble_eq_true rfl) ?_
  intro p e s m below meth c ls hx hb hml hrt hts hown hlocks hname hK hZ hG hS hl hX hnx
  have hl : lv_has ls 4 [(0, .ref (gad Γ 475)), (1, .int a), (2, .int d)] := hl
  have hown : s.vm.findClass RX6 = some m.cls := hown
  have hF : CallFix p m c cX6_ahead 4 s _ wsX6_ahead RX6 := ⟨hx, hb, hml, hown, hts⟩
  have k_1 : (Cond.fieldLink RX6 23 "RoadDust" "trial" "LRoadDust$Road;").before _ s = true := hts _ (by decide +kernel)
  have in_X6 : ∀ w ∈ wsX60, w ∈ wsX6_ahead := by decide +kernel
  have k_3 : (Cond.fieldLink RX6 19 "RoadDust" "now" "LRoadDust$Road;").before _ s = true := hts _ (by decide +kernel)
  have hV0 := hC.2.1 0 (by decide)
  have hV1 := hC.2.1 1 (by decide)
  refine lv_aload_n hx hb dX6_ahead_0 rfl (lv_at hl 0 rfl) ?_
  refine go_getr (C := RX6) (T := TX6) (ci := 6) hx hb hts in_X6 hown hK hG (hC.1 475 (by decide) (by decide)) (show gC 475 = (6, 32, 0) from rfl) (by decide) rfl 2 (by decide) rfl hC.2.2.2.2.1 k_1 (fun _ h => h) dX6_ahead_1 ?_
  refine lv_aload_n hx hb dX6_ahead_4 rfl (lv_at hl 0 rfl) ?_
  refine go_getr (C := RX6) (T := TX6) (ci := 6) hx hb hts in_X6 hown hK hG (hC.1 475 (by decide) (by decide)) (show gC 475 = (6, 32, 0) from rfl) (by decide) rfl 1 (by decide) rfl hC.2.2.2.1 k_3 (fun _ h => h) dX6_ahead_5 ?_
  replace hG := g_st (show _ = va_up (cS M X G J S C P Q) 1 Q from (cS_u1 _ _ _ _ _ _ _ _ _).symm) hG
  refine g_callV (As := [.ref (gad Γ (25 * 0))]) (rest := []) (st1 := []) hF (mX2_copyFrom_q (cS M X G J S C P Q) R O hV1 hV0 (by decide) P Q (cS_b0 _ _ _ _ _ _ _ _) hB) (cwV 1 hts gX6_ahead_X2_copyFrom rfl rfl rfl (by decide +kernel) ⟨Nat.le_of_ble_eq_true rfl, Nat.le_of_ble_eq_true rfl⟩) hK hZ hG hS hV1.c0 (gC_Rd hV1.1) (by decide) rfl rfl hl.1 (Nat.le_of_ble_eq_true rfl) dX6_ahead_8 ⟨Nat.zero_le _, Nat.zero_le _⟩ rfl rfl (fun H locs hG hS => ?_)
  replace hG : GH Γ (cS M X G J S C P (fX2_copyFrom_P P Q)) R O _ := g_st (cS_u1 _ _ _ _ _ _ _ _ _) hG
  refine lv_aload_n hx hb dX6_ahead_11 rfl (lv_at hl 0 rfl) ?_
  refine go_getr (C := RX6) (T := TX6) (ci := 6) hx hb hts in_X6 hown hK hG (hC.1 475 (by decide) (by decide)) (show gC 475 = (6, 32, 0) from rfl) (by decide) rfl 2 (by decide) rfl hC.2.2.2.2.1 k_1 (fun _ h => h) dX6_ahead_12 ?_
  refine lv_iload_n hx hb dX6_ahead_15 rfl (lv_at hl 1 rfl) ?_
  replace hG := g_st (show _ = va_up (cS M X G J S C P (fX2_copyFrom_P P Q)) 1 (fX2_copyFrom_P P Q) from (cS_u1 _ _ _ _ _ _ _ _ _).symm) hG
  refine g_callV (As := [.int a]) (rest := []) (st1 := [.ref (gad Γ (25 * 1 + 14 + a.toNatClampNeg))]) hF (mX2_houseAt_y (cS M X G J S C P (fX2_copyFrom_P P Q)) R O hV1 (fX2_copyFrom_P P Q) h1 (j := a.toNatClampNeg) rfl) (cwV 1 hts gX6_ahead_X2_houseAt rfl rfl rfl (by decide +kernel) ⟨Nat.le_of_ble_eq_true rfl, Nat.le_of_ble_eq_true rfl⟩) hK hZ hG hS hV1.c0 (gC_Rd hV1.1) (by decide) rfl rfl hl.1 (Nat.le_of_ble_eq_true rfl) dX6_ahead_16 ⟨Nat.zero_le _, Nat.zero_le _⟩ rfl rfl (fun H locs hG hS => ?_)
  replace hG : GH Γ (cS M X G J S C P (fX2_copyFrom_P P Q)) R O _ := g_st (cS_u1 _ _ _ _ _ _ _ _ _) hG
  refine lv_astore_n (lv' := [(3, .ref (gad Γ (25 * 1 + 14 + a.toNatClampNeg))), (0, .ref (gad Γ 475)), (1, .int a), (2, .int d)]) hx hb dX6_ahead_19 rfl hl (by decide) rfl (fun ls hl => ?_)
  refine lv_aload_n hx hb dX6_ahead_20 rfl (lv_at hl 0 rfl) ?_
  refine lv_ifnonnull (tgt := 34) hx hb dX6_ahead_21 (by decide) ?_
  refine lv_iload_n hx hb dX6_ahead_34 rfl (lv_at hl 3 rfl) ?_
  refine lv_iconst (v := 1) hx hb dX6_ahead_35 (by decide) ?_
  refine lv_bipush (v := 20) hx hb dX6_ahead_36 (by decide) ?_
  refine g_callS (As := [.int d, .int 1, .int 20]) (rest := []) (st1 := [.int (fX6_within_v d 1 20)]) hF (mX6_within _ R O d 1 20) (va_cwS 3 hts gX6_ahead_X6_within rfl rfl rfl (by decide +kernel) ⟨Nat.le_of_ble_eq_true rfl, Nat.le_of_ble_eq_true rfl⟩) hK hZ hG hS rfl hl.1 (Nat.le_of_ble_eq_true rfl) dX6_ahead_38 ⟨Nat.zero_le _, Nat.zero_le _⟩ rfl rfl (fun H locs hG hS => ?_)
  refine lv_if_ne (tgt := 54) hx hb dX6_ahead_41 (by decide) (fun c_2 => absurd h2 c_2) (fun c_2 => ?_)
  exact g_throw (cls := "java/lang/IllegalArgumentException") (text := "hours out of range") (ik := 158) (is := 160) (ic := 162) hx hb hst hown (by decide +kernel) hts (by decide +kernel) (by decide +kernel) (by decide +kernel) (by decide +kernel) (by decide +kernel) (by decide +kernel) hX hZ hG hS (hl.1.trans hml.symm) dX6_ahead_44 dX6_ahead_47 dX6_ahead_48 dX6_ahead_50 dX6_ahead_53 hnx (Nat.le_of_ble_eq_true rfl) (Nat.le_of_ble_eq_true rfl) ⟨Nat.le_of_ble_eq_true rfl, Nat.le_of_ble_eq_true rfl⟩ hlocks

set_option maxHeartbeats 4000000 in
set_option maxRecDepth 100000 in
theorem mX6_save_0 {l : Launch} {Γ : gX} (M : Nat → Nat → Int32) (R : Nat → Nat → Option Nat) (O : Int64) (hC : LC Γ R) (X G J S C P Q : Nat → Int32) (hB : BL P) : gMet l Γ yX6_save wsX6_save 2 43 [.ref (gad Γ 475), .int 0] (cS M X G J S C P Q) R O (some (.int (fX2_time_v P))) (cS (va_up M 2 (fX2_copyFrom_P P (M 2))) X G J (upd S 0 1) C P Q) R O := by
  refine g_start (cc := cX6_save) (maxL := 2) (ret := (some .int)) (by decide) rfl (Nat.le_of_ble_eq_true rfl) ?_
  intro p e s m below meth c ls hx hb hml hrt hts hown hlocks hname hK hZ hG hS hl
  have hl : lv_has ls 2 [(0, .ref (gad Γ 475)), (1, .int 0)] := hl
  have hown : s.vm.findClass RX6 = some m.cls := hown
  have hF : CallFix p m c cX6_save 2 s _ wsX6_save RX6 := ⟨hx, hb, hml, hown, hts⟩
  have k_1 : (Cond.fieldLink RX6 33 "RoadDust" "slots" "[LRoadDust$Road;").before _ s = true := hts _ (by decide +kernel)
  have in_X6 : ∀ w ∈ wsX60, w ∈ wsX6_save := by decide +kernel
  have k_3 : (Cond.fieldLink RX6 19 "RoadDust" "now" "LRoadDust$Road;").before _ s = true := hts _ (by decide +kernel)
  have k_4 : (Cond.fieldLink RX6 37 "RoadDust" "saved" "[Z").before _ s = true := hts _ (by decide +kernel)
  have hV0 := hC.2.1 0 (by decide)
  have hV1 := hC.2.1 1 (by decide)
  refine lv_iload_n hx hb dX6_save_0 rfl (lv_at hl 1 rfl) ?_
  refine lv_if_lt (tgt := 9) hx hb dX6_save_1 (by decide) (fun c_1 => absurd c_1 (by decide)) (fun c_1 => ?_)
  refine lv_iload_n hx hb dX6_save_4 rfl (lv_at hl 1 rfl) ?_
  refine lv_iconst (v := 2) hx hb dX6_save_5 (by decide) ?_
  refine lv_icmp_lt (tgt := 19) hx hb dX6_save_6 (by decide) (fun c_2 => ?_) (fun c_2 => absurd (by decide) c_2)
  refine lv_aload_n hx hb dX6_save_19 rfl (lv_at hl 0 rfl) ?_
  refine go_getr (C := RX6) (T := TX6) (ci := 6) hx hb hts in_X6 hown hK hG (hC.1 475 (by decide) (by decide)) (show gC 475 = (6, 32, 0) from rfl) (by decide) rfl 4 (by decide) rfl hC.2.2.2.2.2.2.1 k_1 (fun _ h => h) dX6_save_20 ?_
  refine lv_iload_n hx hb dX6_save_23 rfl (lv_at hl 1 rfl) ?_
  refine g_aald hx hb hK hG (hC.1 480 (by decide) (by decide)) (show gC 480 = (12, 34, 0) from rfl) (by decide) (by decide) rfl (show gLen 480 = 2 from rfl) (j := 0) (by decide) (show vp_in (nI 0) 2 from vp_in_nI (by decide) (by decide)) hC.2.2.2.2.2.2.2.2.2.2.2.1 dX6_save_24 ?_
  refine lv_aload_n hx hb dX6_save_25 rfl (lv_at hl 0 rfl) ?_
  refine go_getr (C := RX6) (T := TX6) (ci := 6) hx hb hts in_X6 hown hK hG (hC.1 475 (by decide) (by decide)) (show gC 475 = (6, 32, 0) from rfl) (by decide) rfl 1 (by decide) rfl hC.2.2.2.1 k_3 (fun _ h => h) dX6_save_26 ?_
  replace hG := g_st (cS_v (M := M) (by decide : 2 ≤ 2) (by decide : 2 < 19)) hG
  refine g_callV (As := [.ref (gad Γ (25 * 0))]) (rest := []) (st1 := []) hF (mX2_copyFrom_q (cS M X G J S C P Q) R O (hC.2.1 2 (by decide)) hV0 (by decide) P (M 2) (cS_b0 _ _ _ _ _ _ _ _) hB) (cwV 1 hts gX6_save_X2_copyFrom rfl rfl rfl (by decide +kernel) ⟨Nat.le_of_ble_eq_true rfl, Nat.le_of_ble_eq_true rfl⟩) hK hZ hG hS ((hC.2.1 2 (by decide)).c0) (gC_Rd ((hC.2.1 2 (by decide)).1)) (by decide) rfl rfl hl.1 (Nat.le_of_ble_eq_true rfl) dX6_save_29 ⟨Nat.zero_le _, Nat.zero_le _⟩ rfl rfl (fun H locs hG hS => ?_)
  replace hG : GH Γ (cS (va_up M 2 (fX2_copyFrom_P P (M 2))) X G J S C P Q) R O _ := g_st (cS_up (by decide : 2 ≤ 2) (by decide : 2 < 19)) hG
  refine lv_aload_n hx hb dX6_save_32 rfl (lv_at hl 0 rfl) ?_
  refine go_getr (C := RX6) (T := TX6) (ci := 6) hx hb hts in_X6 hown hK hG (hC.1 475 (by decide) (by decide)) (show gC 475 = (6, 32, 0) from rfl) (by decide) rfl 5 (by decide) rfl hC.2.2.2.2.2.2.2.1 k_4 (fun _ h => h) dX6_save_33 ?_
  refine lv_iload_n hx hb dX6_save_36 rfl (lv_at hl 1 rfl) ?_
  refine lv_iconst (v := 1) hx hb dX6_save_37 (by decide) ?_
  refine gm_zast (M2 := cS (va_up M 2 (fX2_copyFrom_P P (M 2))) X G J (upd S 0 1) C P Q) hx hb hK hG hS (hC.1 481 (by decide) (by decide)) (show gC 481 = (10, 22, 0) from rfl) (show gLen 481 = 2 from rfl) (by decide) (j := 0) rfl (by omega) rfl (cS_p22 _ _ _ _ _ _ _ _ _ _) dX6_save_38 (fun H locs hG hS => ?_)
  refine lv_aload_n hx hb dX6_save_39 rfl (lv_at hl 0 rfl) ?_
  refine go_getr (C := RX6) (T := TX6) (ci := 6) hx hb hts in_X6 hown hK hG (hC.1 475 (by decide) (by decide)) (show gC 475 = (6, 32, 0) from rfl) (by decide) rfl 1 (by decide) rfl hC.2.2.2.1 k_3 (fun _ h => h) dX6_save_40 ?_
  replace hG := g_st (show _ = va_up (cS (va_up M 2 (fX2_copyFrom_P P (M 2))) X G J (upd S 0 1) C P Q) 0 P from (cS_u0 _ _ _ _ _ _ _ _ _).symm) hG
  refine g_callV (As := []) (rest := []) (st1 := [.int (fX2_time_v P )]) hF (mX2_time (cS (va_up M 2 (fX2_copyFrom_P P (M 2))) X G J (upd S 0 1) C P Q) R O hV0 P ) (cwV 0 hts gX6_save_X2_time rfl rfl rfl (by decide +kernel) ⟨Nat.le_of_ble_eq_true rfl, Nat.le_of_ble_eq_true rfl⟩) hK hZ hG hS hV0.c0 (gC_Rd hV0.1) (by decide) rfl rfl hl.1 (Nat.le_of_ble_eq_true rfl) dX6_save_43 ⟨Nat.zero_le _, Nat.zero_le _⟩ rfl rfl (fun H locs hG hS => ?_)
  replace hG : GH Γ (cS (va_up M 2 (fX2_copyFrom_P P (M 2))) X G J (upd S 0 1) C P Q) R O _ := g_st (cS_u0 _ _ _ _ _ _ _ _ _) hG
  exact g_iret hx hb hrt hlocks hS hG rfl rfl dX6_save_46

set_option maxHeartbeats 4000000 in
set_option maxRecDepth 100000 in
theorem mX6_restore_0 {l : Launch} {Γ : gX} (M : Nat → Nat → Int32) (R : Nat → Nat → Option Nat) (O : Int64) (hC : LC Γ R) (X G J S C P Q : Nat → Int32) (hB : BL (M 2)) (hs : ¬ S 0 = 0) : gMet l Γ yX6_restore wsX6_restore 2 43 [.ref (gad Γ 475), .int 0] (cS M X G J S C P Q) R O (some (.int (fX2_time_v (fX2_copyFrom_P (M 2) P)))) (cS M X G (fX0_forgetAll_J J) S C (fX2_copyFrom_P (M 2) P) Q) R O := by
  refine g_start (cc := cX6_restore) (maxL := 2) (ret := (some .int)) (by decide) rfl (Nat.le_of_ble_eq_true rfl) ?_
  intro p e s m below meth c ls hx hb hml hrt hts hown hlocks hname hK hZ hG hS hl
  have hl : lv_has ls 2 [(0, .ref (gad Γ 475)), (1, .int 0)] := hl
  have hown : s.vm.findClass RX6 = some m.cls := hown
  have hF : CallFix p m c cX6_restore 2 s _ wsX6_restore RX6 := ⟨hx, hb, hml, hown, hts⟩
  have k_1 : (Cond.fieldLink RX6 37 "RoadDust" "saved" "[Z").before _ s = true := hts _ (by decide +kernel)
  have in_X6 : ∀ w ∈ wsX60, w ∈ wsX6_restore := by decide +kernel
  have k_3 : (Cond.fieldLink RX6 19 "RoadDust" "now" "LRoadDust$Road;").before _ s = true := hts _ (by decide +kernel)
  have k_4 : (Cond.fieldLink RX6 33 "RoadDust" "slots" "[LRoadDust$Road;").before _ s = true := hts _ (by decide +kernel)
  have k_5 : (Cond.fieldLink RX6 29 "RoadDust" "history" "LRoadDust$History;").before _ s = true := hts _ (by decide +kernel)
  have hV0 := hC.2.1 0 (by decide)
  have hV1 := hC.2.1 1 (by decide)
  refine lv_iload_n hx hb dX6_restore_0 rfl (lv_at hl 1 rfl) ?_
  refine lv_if_lt (tgt := 9) hx hb dX6_restore_1 (by decide) (fun c_1 => absurd c_1 (by decide)) (fun c_1 => ?_)
  refine lv_iload_n hx hb dX6_restore_4 rfl (lv_at hl 1 rfl) ?_
  refine lv_iconst (v := 2) hx hb dX6_restore_5 (by decide) ?_
  refine lv_icmp_lt (tgt := 19) hx hb dX6_restore_6 (by decide) (fun c_2 => ?_) (fun c_2 => absurd (by decide) c_2)
  refine lv_aload_n hx hb dX6_restore_19 rfl (lv_at hl 0 rfl) ?_
  refine go_getr (C := RX6) (T := TX6) (ci := 6) hx hb hts in_X6 hown hK hG (hC.1 475 (by decide) (by decide)) (show gC 475 = (6, 32, 0) from rfl) (by decide) rfl 5 (by decide) rfl hC.2.2.2.2.2.2.2.1 k_1 (fun _ h => h) dX6_restore_20 ?_
  refine lv_iload_n hx hb dX6_restore_23 rfl (lv_at hl 1 rfl) ?_
  refine gm_zald hx hb hK hG (hC.1 481 (by decide) (by decide)) (show gC 481 = (10, 22, 0) from rfl) (show gLen 481 = 2 from rfl) (by decide) (j := 0) rfl (by omega) (v := S 0) (cS_a22 _ _ _ _ _ _ _ _ _) dX6_restore_24 ?_
  refine lv_if_ne (tgt := 38) hx hb dX6_restore_25 (by decide) (fun c_3 => ?_) (fun c_3 => absurd c_3 hs)
  refine lv_aload_n hx hb dX6_restore_38 rfl (lv_at hl 0 rfl) ?_
  refine go_getr (C := RX6) (T := TX6) (ci := 6) hx hb hts in_X6 hown hK hG (hC.1 475 (by decide) (by decide)) (show gC 475 = (6, 32, 0) from rfl) (by decide) rfl 1 (by decide) rfl hC.2.2.2.1 k_3 (fun _ h => h) dX6_restore_39 ?_
  refine lv_aload_n hx hb dX6_restore_42 rfl (lv_at hl 0 rfl) ?_
  refine go_getr (C := RX6) (T := TX6) (ci := 6) hx hb hts in_X6 hown hK hG (hC.1 475 (by decide) (by decide)) (show gC 475 = (6, 32, 0) from rfl) (by decide) rfl 4 (by decide) rfl hC.2.2.2.2.2.2.1 k_4 (fun _ h => h) dX6_restore_43 ?_
  refine lv_iload_n hx hb dX6_restore_46 rfl (lv_at hl 1 rfl) ?_
  refine g_aald hx hb hK hG (hC.1 480 (by decide) (by decide)) (show gC 480 = (12, 34, 0) from rfl) (by decide) (by decide) rfl (show gLen 480 = 2 from rfl) (j := 0) (by decide) (show vp_in (nI 0) 2 from vp_in_nI (by decide) (by decide)) hC.2.2.2.2.2.2.2.2.2.2.2.1 dX6_restore_47 ?_
  replace hG := g_st (show _ = va_up (cS M X G J S C P Q) 0 P from (cS_u0 _ _ _ _ _ _ _ _ _).symm) hG
  refine g_callV (As := [.ref (gad Γ (25 * 2))]) (rest := []) (st1 := []) hF (mX2_copyFrom_q (cS M X G J S C P Q) R O hV0 (hC.2.1 2 (by decide)) (by decide) (M 2) P (cS_M (by decide : 2 ≤ 2) (by decide : 2 < 19)) hB) (cwV 1 hts gX6_restore_X2_copyFrom rfl rfl rfl (by decide +kernel) ⟨Nat.le_of_ble_eq_true rfl, Nat.le_of_ble_eq_true rfl⟩) hK hZ hG hS hV0.c0 (gC_Rd hV0.1) (by decide) rfl rfl hl.1 (Nat.le_of_ble_eq_true rfl) dX6_restore_48 ⟨Nat.zero_le _, Nat.zero_le _⟩ rfl rfl (fun H locs hG hS => ?_)
  replace hG : GH Γ (cS M X G J S C (fX2_copyFrom_P (M 2) P) Q) R O _ := g_st (cS_u0 _ _ _ _ _ _ _ _ _) hG
  refine lv_aload_n hx hb dX6_restore_51 rfl (lv_at hl 0 rfl) ?_
  refine go_getr (C := RX6) (T := TX6) (ci := 6) hx hb hts in_X6 hown hK hG (hC.1 475 (by decide) (by decide)) (show gC 475 = (6, 32, 0) from rfl) (by decide) rfl 3 (by decide) rfl hC.2.2.2.2.2.1 k_5 (fun _ h => h) dX6_restore_52 ?_
  refine g_callV (As := []) (rest := []) (st1 := []) hF (mX0_forgetAll M R O hC X G J S C (fX2_copyFrom_P (M 2) P) Q  ) (cwV 0 hts gX6_restore_X0_forgetAll rfl rfl rfl (by decide +kernel) ⟨Nat.le_of_ble_eq_true rfl, Nat.le_of_ble_eq_true rfl⟩) hK hZ hG hS (hC.1 478 (by decide) (by decide)) (show gC 478 = (0, 21, 0) from rfl) (by decide) rfl rfl hl.1 (Nat.le_of_ble_eq_true rfl) dX6_restore_55 ⟨Nat.zero_le _, Nat.zero_le _⟩ rfl rfl (fun H locs hG hS => ?_)
  refine lv_aload_n hx hb dX6_restore_58 rfl (lv_at hl 0 rfl) ?_
  refine go_getr (C := RX6) (T := TX6) (ci := 6) hx hb hts in_X6 hown hK hG (hC.1 475 (by decide) (by decide)) (show gC 475 = (6, 32, 0) from rfl) (by decide) rfl 1 (by decide) rfl hC.2.2.2.1 k_3 (fun _ h => h) dX6_restore_59 ?_
  replace hG := g_st (show _ = va_up (cS M X G (fX0_forgetAll_J J ) S C (fX2_copyFrom_P (M 2) P) Q) 0 (fX2_copyFrom_P (M 2) P) from (cS_u0 _ _ _ _ _ _ _ _ _).symm) hG
  refine g_callV (As := []) (rest := []) (st1 := [.int (fX2_time_v (fX2_copyFrom_P (M 2) P) )]) hF (mX2_time (cS M X G (fX0_forgetAll_J J ) S C (fX2_copyFrom_P (M 2) P) Q) R O hV0 (fX2_copyFrom_P (M 2) P) ) (cwV 0 hts gX6_restore_X2_time rfl rfl rfl (by decide +kernel) ⟨Nat.le_of_ble_eq_true rfl, Nat.le_of_ble_eq_true rfl⟩) hK hZ hG hS hV0.c0 (gC_Rd hV0.1) (by decide) rfl rfl hl.1 (Nat.le_of_ble_eq_true rfl) dX6_restore_62 ⟨Nat.zero_le _, Nat.zero_le _⟩ rfl rfl (fun H locs hG hS => ?_)
  replace hG : GH Γ (cS M X G (fX0_forgetAll_J J ) S C (fX2_copyFrom_P (M 2) P) Q) R O _ := g_st (cS_u0 _ _ _ _ _ _ _ _ _) hG
  exact g_iret hx hb hrt hlocks hS hG rfl rfl dX6_restore_65

set_option maxHeartbeats 4000000 in
set_option maxRecDepth 100000 in
theorem tX6_restore_n0 {l : Launch} {Γ : gX} (hst : l.stackTraces = false) (M : Nat → Nat → Int32) (R : Nat → Nat → Option Nat) (O : Int64) (hC : LC Γ R) (X G J S C P Q : Nat → Int32) (hs : S 0 = 0) : gThr l Γ yX6_restore wsX6_restore 6 82 [.ref (gad Γ 475), .int 0] (cS M X G J S C P Q) R O "java/lang/IllegalStateException" (cS M X G J S C P Q) R O := by
  refine g_startT (cc := cX6_restore) (maxL := 2) (ret := (some .int)) (by decide) rfl (Nat.le_of_ble_eq_true rfl) ?_
  intro p e s m below meth c ls hx hb hml hrt hts hown hlocks hname hK hZ hG hS hl hX hnx
  have hl : lv_has ls 2 [(0, .ref (gad Γ 475)), (1, .int 0)] := hl
  have hown : s.vm.findClass RX6 = some m.cls := hown
  have hF : CallFix p m c cX6_restore 2 s _ wsX6_restore RX6 := ⟨hx, hb, hml, hown, hts⟩
  have k_1 : (Cond.fieldLink RX6 37 "RoadDust" "saved" "[Z").before _ s = true := hts _ (by decide +kernel)
  have in_X6 : ∀ w ∈ wsX60, w ∈ wsX6_restore := by decide +kernel
  have hV0 := hC.2.1 0 (by decide)
  have hV1 := hC.2.1 1 (by decide)
  refine lv_iload_n hx hb dX6_restore_0 rfl (lv_at hl 1 rfl) ?_
  refine lv_if_lt (tgt := 9) hx hb dX6_restore_1 (by decide) (fun c_1 => absurd c_1 (by decide)) (fun c_1 => ?_)
  refine lv_iload_n hx hb dX6_restore_4 rfl (lv_at hl 1 rfl) ?_
  refine lv_iconst (v := 2) hx hb dX6_restore_5 (by decide) ?_
  refine lv_icmp_lt (tgt := 19) hx hb dX6_restore_6 (by decide) (fun c_2 => ?_) (fun c_2 => absurd (by decide) c_2)
  refine lv_aload_n hx hb dX6_restore_19 rfl (lv_at hl 0 rfl) ?_
  refine go_getr (C := RX6) (T := TX6) (ci := 6) hx hb hts in_X6 hown hK hG (hC.1 475 (by decide) (by decide)) (show gC 475 = (6, 32, 0) from rfl) (by decide) rfl 5 (by decide) rfl hC.2.2.2.2.2.2.2.1 k_1 (fun _ h => h) dX6_restore_20 ?_
  refine lv_iload_n hx hb dX6_restore_23 rfl (lv_at hl 1 rfl) ?_
  refine gm_zald hx hb hK hG (hC.1 481 (by decide) (by decide)) (show gC 481 = (10, 22, 0) from rfl) (show gLen 481 = 2 from rfl) (by decide) (j := 0) rfl (by omega) (v := S 0) (cS_a22 _ _ _ _ _ _ _ _ _) dX6_restore_24 ?_
  refine lv_if_ne (tgt := 38) hx hb dX6_restore_25 (by decide) (fun c_3 => absurd hs c_3) (fun c_3 => ?_)
  exact g_throw (cls := "java/lang/IllegalStateException") (text := "nothing has been saved in it") (ik := 60) (is := 235) (ic := 64) hx hb hst hown (by decide +kernel) hts (by decide +kernel) (by decide +kernel) (by decide +kernel) (by decide +kernel) (by decide +kernel) (by decide +kernel) hX hZ hG hS (hl.1.trans hml.symm) dX6_restore_28 dX6_restore_31 dX6_restore_32 dX6_restore_34 dX6_restore_37 hnx (Nat.le_of_ble_eq_true rfl) (Nat.le_of_ble_eq_true rfl) ⟨Nat.le_of_ble_eq_true rfl, Nat.le_of_ble_eq_true rfl⟩ hlocks

set_option maxHeartbeats 4000000 in
set_option maxRecDepth 100000 in
theorem mX6_save_1 {l : Launch} {Γ : gX} (M : Nat → Nat → Int32) (R : Nat → Nat → Option Nat) (O : Int64) (hC : LC Γ R) (X G J S C P Q : Nat → Int32) (hB : BL P) : gMet l Γ yX6_save wsX6_save 2 43 [.ref (gad Γ 475), .int 1] (cS M X G J S C P Q) R O (some (.int (fX2_time_v P))) (cS (va_up M 3 (fX2_copyFrom_P P (M 3))) X G J (upd S 1 1) C P Q) R O := by
  refine g_start (cc := cX6_save) (maxL := 2) (ret := (some .int)) (by decide) rfl (Nat.le_of_ble_eq_true rfl) ?_
  intro p e s m below meth c ls hx hb hml hrt hts hown hlocks hname hK hZ hG hS hl
  have hl : lv_has ls 2 [(0, .ref (gad Γ 475)), (1, .int 1)] := hl
  have hown : s.vm.findClass RX6 = some m.cls := hown
  have hF : CallFix p m c cX6_save 2 s _ wsX6_save RX6 := ⟨hx, hb, hml, hown, hts⟩
  have k_1 : (Cond.fieldLink RX6 33 "RoadDust" "slots" "[LRoadDust$Road;").before _ s = true := hts _ (by decide +kernel)
  have in_X6 : ∀ w ∈ wsX60, w ∈ wsX6_save := by decide +kernel
  have k_3 : (Cond.fieldLink RX6 19 "RoadDust" "now" "LRoadDust$Road;").before _ s = true := hts _ (by decide +kernel)
  have k_4 : (Cond.fieldLink RX6 37 "RoadDust" "saved" "[Z").before _ s = true := hts _ (by decide +kernel)
  have hV0 := hC.2.1 0 (by decide)
  have hV1 := hC.2.1 1 (by decide)
  refine lv_iload_n hx hb dX6_save_0 rfl (lv_at hl 1 rfl) ?_
  refine lv_if_lt (tgt := 9) hx hb dX6_save_1 (by decide) (fun c_1 => absurd c_1 (by decide)) (fun c_1 => ?_)
  refine lv_iload_n hx hb dX6_save_4 rfl (lv_at hl 1 rfl) ?_
  refine lv_iconst (v := 2) hx hb dX6_save_5 (by decide) ?_
  refine lv_icmp_lt (tgt := 19) hx hb dX6_save_6 (by decide) (fun c_2 => ?_) (fun c_2 => absurd (by decide) c_2)
  refine lv_aload_n hx hb dX6_save_19 rfl (lv_at hl 0 rfl) ?_
  refine go_getr (C := RX6) (T := TX6) (ci := 6) hx hb hts in_X6 hown hK hG (hC.1 475 (by decide) (by decide)) (show gC 475 = (6, 32, 0) from rfl) (by decide) rfl 4 (by decide) rfl hC.2.2.2.2.2.2.1 k_1 (fun _ h => h) dX6_save_20 ?_
  refine lv_iload_n hx hb dX6_save_23 rfl (lv_at hl 1 rfl) ?_
  refine g_aald hx hb hK hG (hC.1 480 (by decide) (by decide)) (show gC 480 = (12, 34, 0) from rfl) (by decide) (by decide) rfl (show gLen 480 = 2 from rfl) (j := 1) (by decide) (show vp_in (nI 1) 2 from vp_in_nI (by decide) (by decide)) hC.2.2.2.2.2.2.2.2.2.2.2.2 dX6_save_24 ?_
  refine lv_aload_n hx hb dX6_save_25 rfl (lv_at hl 0 rfl) ?_
  refine go_getr (C := RX6) (T := TX6) (ci := 6) hx hb hts in_X6 hown hK hG (hC.1 475 (by decide) (by decide)) (show gC 475 = (6, 32, 0) from rfl) (by decide) rfl 1 (by decide) rfl hC.2.2.2.1 k_3 (fun _ h => h) dX6_save_26 ?_
  replace hG := g_st (cS_v (M := M) (by decide : 2 ≤ 3) (by decide : 3 < 19)) hG
  refine g_callV (As := [.ref (gad Γ (25 * 0))]) (rest := []) (st1 := []) hF (mX2_copyFrom_q (cS M X G J S C P Q) R O (hC.2.1 3 (by decide)) hV0 (by decide) P (M 3) (cS_b0 _ _ _ _ _ _ _ _) hB) (cwV 1 hts gX6_save_X2_copyFrom rfl rfl rfl (by decide +kernel) ⟨Nat.le_of_ble_eq_true rfl, Nat.le_of_ble_eq_true rfl⟩) hK hZ hG hS ((hC.2.1 3 (by decide)).c0) (gC_Rd ((hC.2.1 3 (by decide)).1)) (by decide) rfl rfl hl.1 (Nat.le_of_ble_eq_true rfl) dX6_save_29 ⟨Nat.zero_le _, Nat.zero_le _⟩ rfl rfl (fun H locs hG hS => ?_)
  replace hG : GH Γ (cS (va_up M 3 (fX2_copyFrom_P P (M 3))) X G J S C P Q) R O _ := g_st (cS_up (by decide : 2 ≤ 3) (by decide : 3 < 19)) hG
  refine lv_aload_n hx hb dX6_save_32 rfl (lv_at hl 0 rfl) ?_
  refine go_getr (C := RX6) (T := TX6) (ci := 6) hx hb hts in_X6 hown hK hG (hC.1 475 (by decide) (by decide)) (show gC 475 = (6, 32, 0) from rfl) (by decide) rfl 5 (by decide) rfl hC.2.2.2.2.2.2.2.1 k_4 (fun _ h => h) dX6_save_33 ?_
  refine lv_iload_n hx hb dX6_save_36 rfl (lv_at hl 1 rfl) ?_
  refine lv_iconst (v := 1) hx hb dX6_save_37 (by decide) ?_
  refine gm_zast (M2 := cS (va_up M 3 (fX2_copyFrom_P P (M 3))) X G J (upd S 1 1) C P Q) hx hb hK hG hS (hC.1 481 (by decide) (by decide)) (show gC 481 = (10, 22, 0) from rfl) (show gLen 481 = 2 from rfl) (by decide) (j := 1) rfl (by omega) rfl (cS_p22 _ _ _ _ _ _ _ _ _ _) dX6_save_38 (fun H locs hG hS => ?_)
  refine lv_aload_n hx hb dX6_save_39 rfl (lv_at hl 0 rfl) ?_
  refine go_getr (C := RX6) (T := TX6) (ci := 6) hx hb hts in_X6 hown hK hG (hC.1 475 (by decide) (by decide)) (show gC 475 = (6, 32, 0) from rfl) (by decide) rfl 1 (by decide) rfl hC.2.2.2.1 k_3 (fun _ h => h) dX6_save_40 ?_
  replace hG := g_st (show _ = va_up (cS (va_up M 3 (fX2_copyFrom_P P (M 3))) X G J (upd S 1 1) C P Q) 0 P from (cS_u0 _ _ _ _ _ _ _ _ _).symm) hG
  refine g_callV (As := []) (rest := []) (st1 := [.int (fX2_time_v P )]) hF (mX2_time (cS (va_up M 3 (fX2_copyFrom_P P (M 3))) X G J (upd S 1 1) C P Q) R O hV0 P ) (cwV 0 hts gX6_save_X2_time rfl rfl rfl (by decide +kernel) ⟨Nat.le_of_ble_eq_true rfl, Nat.le_of_ble_eq_true rfl⟩) hK hZ hG hS hV0.c0 (gC_Rd hV0.1) (by decide) rfl rfl hl.1 (Nat.le_of_ble_eq_true rfl) dX6_save_43 ⟨Nat.zero_le _, Nat.zero_le _⟩ rfl rfl (fun H locs hG hS => ?_)
  replace hG : GH Γ (cS (va_up M 3 (fX2_copyFrom_P P (M 3))) X G J (upd S 1 1) C P Q) R O _ := g_st (cS_u0 _ _ _ _ _ _ _ _ _) hG
  exact g_iret hx hb hrt hlocks hS hG rfl rfl dX6_save_46

set_option maxHeartbeats 4000000 in
set_option maxRecDepth 100000 in
theorem mX6_restore_1 {l : Launch} {Γ : gX} (M : Nat → Nat → Int32) (R : Nat → Nat → Option Nat) (O : Int64) (hC : LC Γ R) (X G J S C P Q : Nat → Int32) (hB : BL (M 3)) (hs : ¬ S 1 = 0) : gMet l Γ yX6_restore wsX6_restore 2 43 [.ref (gad Γ 475), .int 1] (cS M X G J S C P Q) R O (some (.int (fX2_time_v (fX2_copyFrom_P (M 3) P)))) (cS M X G (fX0_forgetAll_J J) S C (fX2_copyFrom_P (M 3) P) Q) R O := by
  refine g_start (cc := cX6_restore) (maxL := 2) (ret := (some .int)) (by decide) rfl (Nat.le_of_ble_eq_true rfl) ?_
  intro p e s m below meth c ls hx hb hml hrt hts hown hlocks hname hK hZ hG hS hl
  have hl : lv_has ls 2 [(0, .ref (gad Γ 475)), (1, .int 1)] := hl
  have hown : s.vm.findClass RX6 = some m.cls := hown
  have hF : CallFix p m c cX6_restore 2 s _ wsX6_restore RX6 := ⟨hx, hb, hml, hown, hts⟩
  have k_1 : (Cond.fieldLink RX6 37 "RoadDust" "saved" "[Z").before _ s = true := hts _ (by decide +kernel)
  have in_X6 : ∀ w ∈ wsX60, w ∈ wsX6_restore := by decide +kernel
  have k_3 : (Cond.fieldLink RX6 19 "RoadDust" "now" "LRoadDust$Road;").before _ s = true := hts _ (by decide +kernel)
  have k_4 : (Cond.fieldLink RX6 33 "RoadDust" "slots" "[LRoadDust$Road;").before _ s = true := hts _ (by decide +kernel)
  have k_5 : (Cond.fieldLink RX6 29 "RoadDust" "history" "LRoadDust$History;").before _ s = true := hts _ (by decide +kernel)
  have hV0 := hC.2.1 0 (by decide)
  have hV1 := hC.2.1 1 (by decide)
  refine lv_iload_n hx hb dX6_restore_0 rfl (lv_at hl 1 rfl) ?_
  refine lv_if_lt (tgt := 9) hx hb dX6_restore_1 (by decide) (fun c_1 => absurd c_1 (by decide)) (fun c_1 => ?_)
  refine lv_iload_n hx hb dX6_restore_4 rfl (lv_at hl 1 rfl) ?_
  refine lv_iconst (v := 2) hx hb dX6_restore_5 (by decide) ?_
  refine lv_icmp_lt (tgt := 19) hx hb dX6_restore_6 (by decide) (fun c_2 => ?_) (fun c_2 => absurd (by decide) c_2)
  refine lv_aload_n hx hb dX6_restore_19 rfl (lv_at hl 0 rfl) ?_
  refine go_getr (C := RX6) (T := TX6) (ci := 6) hx hb hts in_X6 hown hK hG (hC.1 475 (by decide) (by decide)) (show gC 475 = (6, 32, 0) from rfl) (by decide) rfl 5 (by decide) rfl hC.2.2.2.2.2.2.2.1 k_1 (fun _ h => h) dX6_restore_20 ?_
  refine lv_iload_n hx hb dX6_restore_23 rfl (lv_at hl 1 rfl) ?_
  refine gm_zald hx hb hK hG (hC.1 481 (by decide) (by decide)) (show gC 481 = (10, 22, 0) from rfl) (show gLen 481 = 2 from rfl) (by decide) (j := 1) rfl (by omega) (v := S 1) (cS_a22 _ _ _ _ _ _ _ _ _) dX6_restore_24 ?_
  refine lv_if_ne (tgt := 38) hx hb dX6_restore_25 (by decide) (fun c_3 => ?_) (fun c_3 => absurd c_3 hs)
  refine lv_aload_n hx hb dX6_restore_38 rfl (lv_at hl 0 rfl) ?_
  refine go_getr (C := RX6) (T := TX6) (ci := 6) hx hb hts in_X6 hown hK hG (hC.1 475 (by decide) (by decide)) (show gC 475 = (6, 32, 0) from rfl) (by decide) rfl 1 (by decide) rfl hC.2.2.2.1 k_3 (fun _ h => h) dX6_restore_39 ?_
  refine lv_aload_n hx hb dX6_restore_42 rfl (lv_at hl 0 rfl) ?_
  refine go_getr (C := RX6) (T := TX6) (ci := 6) hx hb hts in_X6 hown hK hG (hC.1 475 (by decide) (by decide)) (show gC 475 = (6, 32, 0) from rfl) (by decide) rfl 4 (by decide) rfl hC.2.2.2.2.2.2.1 k_4 (fun _ h => h) dX6_restore_43 ?_
  refine lv_iload_n hx hb dX6_restore_46 rfl (lv_at hl 1 rfl) ?_
  refine g_aald hx hb hK hG (hC.1 480 (by decide) (by decide)) (show gC 480 = (12, 34, 0) from rfl) (by decide) (by decide) rfl (show gLen 480 = 2 from rfl) (j := 1) (by decide) (show vp_in (nI 1) 2 from vp_in_nI (by decide) (by decide)) hC.2.2.2.2.2.2.2.2.2.2.2.2 dX6_restore_47 ?_
  replace hG := g_st (show _ = va_up (cS M X G J S C P Q) 0 P from (cS_u0 _ _ _ _ _ _ _ _ _).symm) hG
  refine g_callV (As := [.ref (gad Γ (25 * 3))]) (rest := []) (st1 := []) hF (mX2_copyFrom_q (cS M X G J S C P Q) R O hV0 (hC.2.1 3 (by decide)) (by decide) (M 3) P (cS_M (by decide : 2 ≤ 3) (by decide : 3 < 19)) hB) (cwV 1 hts gX6_restore_X2_copyFrom rfl rfl rfl (by decide +kernel) ⟨Nat.le_of_ble_eq_true rfl, Nat.le_of_ble_eq_true rfl⟩) hK hZ hG hS hV0.c0 (gC_Rd hV0.1) (by decide) rfl rfl hl.1 (Nat.le_of_ble_eq_true rfl) dX6_restore_48 ⟨Nat.zero_le _, Nat.zero_le _⟩ rfl rfl (fun H locs hG hS => ?_)
  replace hG : GH Γ (cS M X G J S C (fX2_copyFrom_P (M 3) P) Q) R O _ := g_st (cS_u0 _ _ _ _ _ _ _ _ _) hG
  refine lv_aload_n hx hb dX6_restore_51 rfl (lv_at hl 0 rfl) ?_
  refine go_getr (C := RX6) (T := TX6) (ci := 6) hx hb hts in_X6 hown hK hG (hC.1 475 (by decide) (by decide)) (show gC 475 = (6, 32, 0) from rfl) (by decide) rfl 3 (by decide) rfl hC.2.2.2.2.2.1 k_5 (fun _ h => h) dX6_restore_52 ?_
  refine g_callV (As := []) (rest := []) (st1 := []) hF (mX0_forgetAll M R O hC X G J S C (fX2_copyFrom_P (M 3) P) Q  ) (cwV 0 hts gX6_restore_X0_forgetAll rfl rfl rfl (by decide +kernel) ⟨Nat.le_of_ble_eq_true rfl, Nat.le_of_ble_eq_true rfl⟩) hK hZ hG hS (hC.1 478 (by decide) (by decide)) (show gC 478 = (0, 21, 0) from rfl) (by decide) rfl rfl hl.1 (Nat.le_of_ble_eq_true rfl) dX6_restore_55 ⟨Nat.zero_le _, Nat.zero_le _⟩ rfl rfl (fun H locs hG hS => ?_)
  refine lv_aload_n hx hb dX6_restore_58 rfl (lv_at hl 0 rfl) ?_
  refine go_getr (C := RX6) (T := TX6) (ci := 6) hx hb hts in_X6 hown hK hG (hC.1 475 (by decide) (by decide)) (show gC 475 = (6, 32, 0) from rfl) (by decide) rfl 1 (by decide) rfl hC.2.2.2.1 k_3 (fun _ h => h) dX6_restore_59 ?_
  replace hG := g_st (show _ = va_up (cS M X G (fX0_forgetAll_J J ) S C (fX2_copyFrom_P (M 3) P) Q) 0 (fX2_copyFrom_P (M 3) P) from (cS_u0 _ _ _ _ _ _ _ _ _).symm) hG
  refine g_callV (As := []) (rest := []) (st1 := [.int (fX2_time_v (fX2_copyFrom_P (M 3) P) )]) hF (mX2_time (cS M X G (fX0_forgetAll_J J ) S C (fX2_copyFrom_P (M 3) P) Q) R O hV0 (fX2_copyFrom_P (M 3) P) ) (cwV 0 hts gX6_restore_X2_time rfl rfl rfl (by decide +kernel) ⟨Nat.le_of_ble_eq_true rfl, Nat.le_of_ble_eq_true rfl⟩) hK hZ hG hS hV0.c0 (gC_Rd hV0.1) (by decide) rfl rfl hl.1 (Nat.le_of_ble_eq_true rfl) dX6_restore_62 ⟨Nat.zero_le _, Nat.zero_le _⟩ rfl rfl (fun H locs hG hS => ?_)
  replace hG : GH Γ (cS M X G (fX0_forgetAll_J J ) S C (fX2_copyFrom_P (M 3) P) Q) R O _ := g_st (cS_u0 _ _ _ _ _ _ _ _ _) hG
  exact g_iret hx hb hrt hlocks hS hG rfl rfl dX6_restore_65

set_option maxHeartbeats 4000000 in
set_option maxRecDepth 100000 in
theorem tX6_restore_n1 {l : Launch} {Γ : gX} (hst : l.stackTraces = false) (M : Nat → Nat → Int32) (R : Nat → Nat → Option Nat) (O : Int64) (hC : LC Γ R) (X G J S C P Q : Nat → Int32) (hs : S 1 = 0) : gThr l Γ yX6_restore wsX6_restore 6 82 [.ref (gad Γ 475), .int 1] (cS M X G J S C P Q) R O "java/lang/IllegalStateException" (cS M X G J S C P Q) R O := by
  refine g_startT (cc := cX6_restore) (maxL := 2) (ret := (some .int)) (by decide) rfl (Nat.le_of_ble_eq_true rfl) ?_
  intro p e s m below meth c ls hx hb hml hrt hts hown hlocks hname hK hZ hG hS hl hX hnx
  have hl : lv_has ls 2 [(0, .ref (gad Γ 475)), (1, .int 1)] := hl
  have hown : s.vm.findClass RX6 = some m.cls := hown
  have hF : CallFix p m c cX6_restore 2 s _ wsX6_restore RX6 := ⟨hx, hb, hml, hown, hts⟩
  have k_1 : (Cond.fieldLink RX6 37 "RoadDust" "saved" "[Z").before _ s = true := hts _ (by decide +kernel)
  have in_X6 : ∀ w ∈ wsX60, w ∈ wsX6_restore := by decide +kernel
  have hV0 := hC.2.1 0 (by decide)
  have hV1 := hC.2.1 1 (by decide)
  refine lv_iload_n hx hb dX6_restore_0 rfl (lv_at hl 1 rfl) ?_
  refine lv_if_lt (tgt := 9) hx hb dX6_restore_1 (by decide) (fun c_1 => absurd c_1 (by decide)) (fun c_1 => ?_)
  refine lv_iload_n hx hb dX6_restore_4 rfl (lv_at hl 1 rfl) ?_
  refine lv_iconst (v := 2) hx hb dX6_restore_5 (by decide) ?_
  refine lv_icmp_lt (tgt := 19) hx hb dX6_restore_6 (by decide) (fun c_2 => ?_) (fun c_2 => absurd (by decide) c_2)
  refine lv_aload_n hx hb dX6_restore_19 rfl (lv_at hl 0 rfl) ?_
  refine go_getr (C := RX6) (T := TX6) (ci := 6) hx hb hts in_X6 hown hK hG (hC.1 475 (by decide) (by decide)) (show gC 475 = (6, 32, 0) from rfl) (by decide) rfl 5 (by decide) rfl hC.2.2.2.2.2.2.2.1 k_1 (fun _ h => h) dX6_restore_20 ?_
  refine lv_iload_n hx hb dX6_restore_23 rfl (lv_at hl 1 rfl) ?_
  refine gm_zald hx hb hK hG (hC.1 481 (by decide) (by decide)) (show gC 481 = (10, 22, 0) from rfl) (show gLen 481 = 2 from rfl) (by decide) (j := 1) rfl (by omega) (v := S 1) (cS_a22 _ _ _ _ _ _ _ _ _) dX6_restore_24 ?_
  refine lv_if_ne (tgt := 38) hx hb dX6_restore_25 (by decide) (fun c_3 => absurd hs c_3) (fun c_3 => ?_)
  exact g_throw (cls := "java/lang/IllegalStateException") (text := "nothing has been saved in it") (ik := 60) (is := 235) (ic := 64) hx hb hst hown (by decide +kernel) hts (by decide +kernel) (by decide +kernel) (by decide +kernel) (by decide +kernel) (by decide +kernel) (by decide +kernel) hX hZ hG hS (hl.1.trans hml.symm) dX6_restore_28 dX6_restore_31 dX6_restore_32 dX6_restore_34 dX6_restore_37 hnx (Nat.le_of_ble_eq_true rfl) (Nat.le_of_ble_eq_true rfl) ⟨Nat.le_of_ble_eq_true rfl, Nat.le_of_ble_eq_true rfl⟩ hlocks

set_option maxHeartbeats 4000000 in
set_option maxRecDepth 100000 in
theorem tX6_save {l : Launch} {Γ : gX} (hst : l.stackTraces = false) (M : Nat → Nat → Int32) (R : Nat → Nat → Option Nat) (O : Int64) (hC : LC Γ R) (X G J S C P Q : Nat → Int32) (a : Int32) (h : a < 0 ∨ ¬ a < 2) : gThr l Γ yX6_save wsX6_save 6 82 [.ref (gad Γ 475), .int a] (cS M X G J S C P Q) R O "java/lang/IndexOutOfBoundsException" (cS M X G J S C P Q) R O := by
  refine g_startT (cc := cX6_save) (maxL := 2) (ret := (some .int)) (by decide) rfl (Nat.le_of_ble_eq_true rfl) ?_
  intro p e s m below meth c ls hx hb hml hrt hts hown hlocks hname hK hZ hG hS hl hX hnx
  have hl : lv_has ls 2 [(0, .ref (gad Γ 475)), (1, .int a)] := hl
  have hown : s.vm.findClass RX6 = some m.cls := hown
  have hF : CallFix p m c cX6_save 2 s _ wsX6_save RX6 := ⟨hx, hb, hml, hown, hts⟩
  have hV0 := hC.2.1 0 (by decide)
  have hV1 := hC.2.1 1 (by decide)
  refine lv_iload_n hx hb dX6_save_0 rfl (lv_at hl 1 rfl) ?_
  refine lv_if_lt (tgt := 9) hx hb dX6_save_1 (by decide) (fun c_1 => ?_) (fun c_1 => ?_)
  · --T
    exact g_throw (cls := "java/lang/IndexOutOfBoundsException") (text := "no such save slot") (ik := 149) (is := 230) (ic := 153) hx hb hst hown (by decide +kernel) hts (by decide +kernel) (by decide +kernel) (by decide +kernel) (by decide +kernel) (by decide +kernel) (by decide +kernel) hX hZ hG hS (hl.1.trans hml.symm) dX6_save_9 dX6_save_12 dX6_save_13 dX6_save_15 dX6_save_18 hnx (Nat.le_of_ble_eq_true rfl) (Nat.le_of_ble_eq_true rfl) ⟨Nat.le_of_ble_eq_true rfl, Nat.le_of_ble_eq_true rfl⟩ hlocks
  · --F
    refine lv_iload_n hx hb dX6_save_4 rfl (lv_at hl 1 rfl) ?_
    refine lv_iconst (v := 2) hx hb dX6_save_5 (by decide) ?_
    refine lv_icmp_lt (tgt := 19) hx hb dX6_save_6 (by decide) (fun c_2 => absurd c_2 (h.resolve_left c_1)) (fun c_2 => ?_)
    exact g_throw (cls := "java/lang/IndexOutOfBoundsException") (text := "no such save slot") (ik := 149) (is := 230) (ic := 153) hx hb hst hown (by decide +kernel) hts (by decide +kernel) (by decide +kernel) (by decide +kernel) (by decide +kernel) (by decide +kernel) (by decide +kernel) hX hZ hG hS (hl.1.trans hml.symm) dX6_save_9 dX6_save_12 dX6_save_13 dX6_save_15 dX6_save_18 hnx (Nat.le_of_ble_eq_true rfl) (Nat.le_of_ble_eq_true rfl) ⟨Nat.le_of_ble_eq_true rfl, Nat.le_of_ble_eq_true rfl⟩ hlocks

set_option maxHeartbeats 4000000 in
set_option maxRecDepth 100000 in
theorem tX6_restore {l : Launch} {Γ : gX} (hst : l.stackTraces = false) (M : Nat → Nat → Int32) (R : Nat → Nat → Option Nat) (O : Int64) (hC : LC Γ R) (X G J S C P Q : Nat → Int32) (a : Int32) (h : a < 0 ∨ ¬ a < 2) : gThr l Γ yX6_restore wsX6_restore 6 82 [.ref (gad Γ 475), .int a] (cS M X G J S C P Q) R O "java/lang/IndexOutOfBoundsException" (cS M X G J S C P Q) R O := by
  refine g_startT (cc := cX6_restore) (maxL := 2) (ret := (some .int)) (by decide) rfl (Nat.le_of_ble_eq_true rfl) ?_
  intro p e s m below meth c ls hx hb hml hrt hts hown hlocks hname hK hZ hG hS hl hX hnx
  have hl : lv_has ls 2 [(0, .ref (gad Γ 475)), (1, .int a)] := hl
  have hown : s.vm.findClass RX6 = some m.cls := hown
  have hF : CallFix p m c cX6_restore 2 s _ wsX6_restore RX6 := ⟨hx, hb, hml, hown, hts⟩
  have hV0 := hC.2.1 0 (by decide)
  have hV1 := hC.2.1 1 (by decide)
  refine lv_iload_n hx hb dX6_restore_0 rfl (lv_at hl 1 rfl) ?_
  refine lv_if_lt (tgt := 9) hx hb dX6_restore_1 (by decide) (fun c_1 => ?_) (fun c_1 => ?_)
  · --T
    exact g_throw (cls := "java/lang/IndexOutOfBoundsException") (text := "no such save slot") (ik := 149) (is := 230) (ic := 153) hx hb hst hown (by decide +kernel) hts (by decide +kernel) (by decide +kernel) (by decide +kernel) (by decide +kernel) (by decide +kernel) (by decide +kernel) hX hZ hG hS (hl.1.trans hml.symm) dX6_restore_9 dX6_restore_12 dX6_restore_13 dX6_restore_15 dX6_restore_18 hnx (Nat.le_of_ble_eq_true rfl) (Nat.le_of_ble_eq_true rfl) ⟨Nat.le_of_ble_eq_true rfl, Nat.le_of_ble_eq_true rfl⟩ hlocks
  · --F
    refine lv_iload_n hx hb dX6_restore_4 rfl (lv_at hl 1 rfl) ?_
    refine lv_iconst (v := 2) hx hb dX6_restore_5 (by decide) ?_
    refine lv_icmp_lt (tgt := 19) hx hb dX6_restore_6 (by decide) (fun c_2 => absurd c_2 (h.resolve_left c_1)) (fun c_2 => ?_)
    exact g_throw (cls := "java/lang/IndexOutOfBoundsException") (text := "no such save slot") (ik := 149) (is := 230) (ic := 153) hx hb hst hown (by decide +kernel) hts (by decide +kernel) (by decide +kernel) (by decide +kernel) (by decide +kernel) (by decide +kernel) (by decide +kernel) hX hZ hG hS (hl.1.trans hml.symm) dX6_restore_9 dX6_restore_12 dX6_restore_13 dX6_restore_15 dX6_restore_18 hnx (Nat.le_of_ble_eq_true rfl) (Nat.le_of_ble_eq_true rfl) ⟨Nat.le_of_ble_eq_true rfl, Nat.le_of_ble_eq_true rfl⟩ hlocks

